
set_option maxHeartbeats 4000000 in
set_option maxRecDepth 100000 in
theorem t_X10_see_v (l : Launch) (dC : Nat → ClassId) (dI : Nat → Nat → Nat) (dA : Nat → ClassId) (L : List Nat) (h : hx_h) (sz : Nat) (x : Nat) (hT : hx_T T_tb L h) (gx : hx_g L h x 10) (qt : Nat) (gqt : hx_g L h qt 53) (f_x_6 : h.2.2 x 6 = some qt) (tf : Nat → Int32) (af_qt : h.2.1 qt = tf) (nx0 : Int32) (f_x_8 : h.2.1 x 8 = nx0) (tp0 : Int32) (f_x_7 : h.2.1 x 7 = tp0) (hA : nx0.toInt ≤ tp0.toInt) : Met l yX10_see (Cond.code yX10_see cX10_see 1 (some .int) :: hx_all) ({ frames := 0, cells := 0, slots := 0, locals := 0 }) (va_Pc [.ref x] (hx_B T_tb (P_ty dA) (dC, dI) vwCl L h sz)) (va_Qi (fun (r : Int32) (u : List Nat × hx_h) => (∃ (nx1 : Int32), u.2.2.1 x 8 = nx1 ∧ (nx0.toInt ≤ nx1.toInt ∧ nx1.toInt ≤ tp0.toInt ∧ nx1.toInt = ((hv_sk tf tp0.toInt.toNat nx0.toInt.toNat : Nat) : Int) ∧ hv_SE tf tp0.toInt r.toInt nx1.toInt ∧ -1 ≤ r.toInt ∧ r.toInt ≤ 255)) ∧ hx_T T_tb u.1 u.2 ∧ hx_S T_tb [(10, 8)] L h u.1 u.2) (hx_E T_tb (P_ty dA) (dC, dI) vwCl (hx_A L sz)) (hx_A L sz)) 0 0 (hx_A L sz) := by
  refine hx_met (lv := [(0, .ref x)]) (by decide +kernel) rfl (Nat.le_of_ble_eq_true rfl) rfl ?_
  intro p e s m below meth c hx hb hml hr hlk hts0 hown hin hsz hW ls hl
  have hts : ∀ w ∈ hx_all, w.before _ s = true := fun w hw => hts0 w (List.mem_cons_of_mem _ hw)
  have hown : s.vm.findClass "SmallCourtModel" = some m.cls := hown
  have hM : hx_S T_tb [(10, 8)] L h L h := hx_S.rf
  have b_nx0 := hT.gi gx tt_10 (k := 8) rfl
  rw [f_x_8] at b_nx0
  have b_nx0 : 0 ≤ nx0.toInt ∧ nx0.toInt ≤ 402 := b_nx0
  have b_tp0 := hT.gi gx tt_10 (k := 7) rfl
  rw [f_x_7] at b_tp0
  have b_tp0 : 0 ≤ tp0.toInt ∧ tp0.toInt ≤ 400 := b_tp0
  have loop0 : ∀ (n0 : Nat) (fw0_x_8 : Int32) (H : Heap) (locs : List Loc) (hL1 : List Nat) (hl1 : hx_h), 0 ≤ fw0_x_8.toInt → fw0_x_8.toInt ≤ 402 → (hv_sk tf tp0.toInt.toNat nx0.toInt.toNat = hv_sk tf tp0.toInt.toNat (fw0_x_8.toInt).toNat) → (nx0.toInt ≤ fw0_x_8.toInt) → (fw0_x_8.toInt ≤ tp0.toInt) → ∀ (ls : Array Slot), 402 - fw0_x_8.toInt < (n0 : Int) → hx_W T_tb (P_ty dA) (dC, dI) vwCl (hx_A L sz) s.heap hL1 hl1 s H locs → hx_T T_tb hL1 hl1 → hx_S T_tb [(10, 8)] L h hL1 hl1 → hl1.2.1 x 8 = fw0_x_8 → lv_has ls 1 [(0, .ref x)] → W p l e ({ frames := 0, cells := 0, slots := 0, locals := 0 }) s m ([.ref x] : List Value).toArray below meth c H locs 0 0 (MQ below (va_Qi (fun (r : Int32) (u : List Nat × hx_h) => (∃ (nx1 : Int32), u.2.2.1 x 8 = nx1 ∧ (nx0.toInt ≤ nx1.toInt ∧ nx1.toInt ≤ tp0.toInt ∧ nx1.toInt = ((hv_sk tf tp0.toInt.toNat nx0.toInt.toNat : Nat) : Int) ∧ hv_SE tf tp0.toInt r.toInt nx1.toInt ∧ -1 ≤ r.toInt ∧ r.toInt ≤ 255)) ∧ hx_T T_tb u.1 u.2 ∧ hx_S T_tb [(10, 8)] L h u.1 u.2) (hx_E T_tb (P_ty dA) (dC, dI) vwCl (hx_A L sz)) (hx_A L sz)) ([.ref x] : List Value).toArray s 0 0 (hx_A L sz)) (F0 m 0 ls []) := by
    intro n0
    induction n0 with
    | zero => intro fw0_x_8 H locs hL1 hl1 blfw0_x_8 bufw0_x_8 vi0_0 vi0_1 vi0_2 ls hn0; exfalso; omega
    | succ n0 ih0 =>
      intro fw0_x_8 H locs hL1 hl1 blfw0_x_8 bufw0_x_8 vi0_0 vi0_1 vi0_2 ls hn0 hW hT hM ffw0_x_8  hl
      refine lv_aload_n hx hb dX10_see_0 rfl (lv_at hl 0 rfl) ?_
      refine hk_geti hx hb hts hC_10 hown hW (gx.S hM) tt_10 8 (by decide) rfl kw_1151 ⟨rfl, rfl, rfl⟩ ffw0_x_8 dX10_see_1 ?_
      refine lv_aload_n hx hb dX10_see_4 rfl (lv_at hl 0 rfl) ?_
      refine hk_geti hx hb hts hC_10 hown hW (gx.S hM) tt_10 7 (by decide) rfl kw_1150 ⟨rfl, rfl, rfl⟩ ((hM.o gx trivial rfl).1.trans f_x_7) dX10_see_5 ?_
      refine hb_icmp_ge (zx := fw0_x_8.toInt) (zy := tp0.toInt) (tgt := 38) hx hb rfl rfl dX10_see_8 (by decide) (fun c_1 => ?_) (fun c_1 => ?_)
      · skip
        refine lv_aload_n hx hb dX10_see_38 rfl (lv_at hl 0 rfl) ?_
        refine hk_geti hx hb hts hC_10 hown hW (gx.S hM) tt_10 8 (by decide) rfl kw_1151 ⟨rfl, rfl, rfl⟩ ffw0_x_8 dX10_see_39 ?_
        refine lv_aload_n hx hb dX10_see_42 rfl (lv_at hl 0 rfl) ?_
        refine hk_geti hx hb hts hC_10 hown hW (gx.S hM) tt_10 7 (by decide) rfl kw_1150 ⟨rfl, rfl, rfl⟩ ((hM.o gx trivial rfl).1.trans f_x_7) dX10_see_43 ?_
        refine hb_icmp_ge (zx := fw0_x_8.toInt) (zy := tp0.toInt) (tgt := 65) hx hb rfl rfl dX10_see_46 (by decide) (fun c_2 => ?_) (fun c_2 => ?_)
        · skip
          refine lv_iconst (v := -1) hx hb dX10_see_65 (by decide) ?_
          exact hx_reti hx hb hr hlk hW ⟨⟨fw0_x_8, ffw0_x_8, ⟨by omega, by omega, (by rw [vi0_0]; exact (hv_sn_o (by omega) (fun z9 => by exfalso; omega)).symm), Or.inl ⟨by decide, by omega⟩, by decide, by decide⟩⟩, hT, hM⟩ dX10_see_66
        · skip
          refine lv_aload_n hx hb dX10_see_49 rfl (lv_at hl 0 rfl) ?_
          refine hk_getr hx hb hts hC_10 hown hW (gx.S hM) tt_10 6 (by decide) rfl kw_1149 ⟨rfl, rfl, rfl⟩ ((hM.o gx trivial rfl).2.trans f_x_6) dX10_see_50 ?_
          refine lv_aload_n hx hb dX10_see_53 rfl (lv_at hl 0 rfl) ?_
          refine hk_geti hx hb hts hC_10 hown hW (gx.S hM) tt_10 8 (by decide) rfl kw_1151 ⟨rfl, rfl, rfl⟩ ffw0_x_8 dX10_see_54 ?_
          refine hx_bald hx hb hW hT (gqt.S hM) tt_53 rfl ⟨by omega, by omega⟩ dX10_see_57 (fun x_3 ex_3 lx_3 ux_3 => ?_)
          have ax_3 : x_3 = tf fw0_x_8.toNatClampNeg := ex_3.trans (congrFun (hx_afS hM gqt rfl af_qt) _)
          refine lv_sipush (v := 255) hx hb dX10_see_58 (by decide) ?_
          refine lv_iand hx hb dX10_see_61 ?_
          refine lv_topi (fun x_4 ex_4 => ?_)
          have zx_4 : 0 ≤ x_4.toInt ∧ x_4.toInt ≤ 255 := by rw [ex_4]; exact hx_andR (by decide) (by decide)
          refine lv_goto (tgt := 66) hx hb dX10_see_62 (by decide) ?_
          exact hx_reti hx hb hr hlk hW ⟨⟨fw0_x_8, ffw0_x_8, ⟨by omega, by omega, (by rw [vi0_0]; exact (hv_sn_o (by omega) (fun z9 => hv_bl_f ax_3 (by omega))).symm), Or.inr ⟨by omega, hv_a255 ex_4 ax_3 (by omega) (by omega)⟩, by omega, by omega⟩⟩, hT, hM⟩ dX10_see_66
      · skip
        refine lv_aload_n hx hb dX10_see_11 rfl (lv_at hl 0 rfl) ?_
        refine hk_getr hx hb hts hC_10 hown hW (gx.S hM) tt_10 6 (by decide) rfl kw_1149 ⟨rfl, rfl, rfl⟩ ((hM.o gx trivial rfl).2.trans f_x_6) dX10_see_12 ?_
        refine lv_aload_n hx hb dX10_see_15 rfl (lv_at hl 0 rfl) ?_
        refine hk_geti hx hb hts hC_10 hown hW (gx.S hM) tt_10 8 (by decide) rfl kw_1151 ⟨rfl, rfl, rfl⟩ ffw0_x_8 dX10_see_16 ?_
        refine hx_bald hx hb hW hT (gqt.S hM) tt_53 rfl ⟨by omega, by omega⟩ dX10_see_19 (fun x_5 ex_5 lx_5 ux_5 => ?_)
        have ax_5 : x_5 = tf fw0_x_8.toNatClampNeg := ex_5.trans (congrFun (hx_afS hM gqt rfl af_qt) _)
        refine lv_bipush (v := 32) hx hb dX10_see_20 (by decide) ?_
        refine hb_icmp_ne (zx := x_5.toInt) (zy := 32) (tgt := 38) hx hb rfl (by decide) dX10_see_22 (by decide) (fun c_6 => ?_) (fun c_6 => ?_)
        · skip
          refine lv_aload_n hx hb dX10_see_38 rfl (lv_at hl 0 rfl) ?_
          refine hk_geti hx hb hts hC_10 hown hW (gx.S hM) tt_10 8 (by decide) rfl kw_1151 ⟨rfl, rfl, rfl⟩ ffw0_x_8 dX10_see_39 ?_
          refine lv_aload_n hx hb dX10_see_42 rfl (lv_at hl 0 rfl) ?_
          refine hk_geti hx hb hts hC_10 hown hW (gx.S hM) tt_10 7 (by decide) rfl kw_1150 ⟨rfl, rfl, rfl⟩ ((hM.o gx trivial rfl).1.trans f_x_7) dX10_see_43 ?_
          refine hb_icmp_ge (zx := fw0_x_8.toInt) (zy := tp0.toInt) (tgt := 65) hx hb rfl rfl dX10_see_46 (by decide) (fun c_7 => ?_) (fun c_7 => ?_)
          · skip
            refine lv_iconst (v := -1) hx hb dX10_see_65 (by decide) ?_
            exact hx_reti hx hb hr hlk hW ⟨⟨fw0_x_8, ffw0_x_8, ⟨by omega, by omega, (by rw [vi0_0]; exact (hv_sn_o (by omega) (fun z9 => hv_bl_f ax_5 (by omega))).symm), Or.inl ⟨by decide, by omega⟩, by decide, by decide⟩⟩, hT, hM⟩ dX10_see_66
          · skip
            refine lv_aload_n hx hb dX10_see_49 rfl (lv_at hl 0 rfl) ?_
            refine hk_getr hx hb hts hC_10 hown hW (gx.S hM) tt_10 6 (by decide) rfl kw_1149 ⟨rfl, rfl, rfl⟩ ((hM.o gx trivial rfl).2.trans f_x_6) dX10_see_50 ?_
            refine lv_aload_n hx hb dX10_see_53 rfl (lv_at hl 0 rfl) ?_
            refine hk_geti hx hb hts hC_10 hown hW (gx.S hM) tt_10 8 (by decide) rfl kw_1151 ⟨rfl, rfl, rfl⟩ ffw0_x_8 dX10_see_54 ?_
            refine hx_bald hx hb hW hT (gqt.S hM) tt_53 rfl ⟨by omega, by omega⟩ dX10_see_57 (fun x_8 ex_8 lx_8 ux_8 => ?_)
            have ax_8 : x_8 = tf fw0_x_8.toNatClampNeg := ex_8.trans (congrFun (hx_afS hM gqt rfl af_qt) _)
            obtain rfl : x_5 = x_8 := ex_5.trans ex_8.symm
            refine lv_sipush (v := 255) hx hb dX10_see_58 (by decide) ?_
            refine lv_iand hx hb dX10_see_61 ?_
            refine lv_topi (fun x_9 ex_9 => ?_)
            have zx_9 : 0 ≤ x_9.toInt ∧ x_9.toInt ≤ 255 := by rw [ex_9]; exact hx_andR (by decide) (by decide)
            refine lv_goto (tgt := 66) hx hb dX10_see_62 (by decide) ?_
            exact hx_reti hx hb hr hlk hW ⟨⟨fw0_x_8, ffw0_x_8, ⟨by omega, by omega, (by rw [vi0_0]; exact (hv_sn_o (by omega) (fun z9 => hv_bl_f ax_5 (by omega))).symm), Or.inr ⟨by omega, hv_a255 ex_9 ax_5 (by omega) (by omega)⟩, by omega, by omega⟩⟩, hT, hM⟩ dX10_see_66
        · skip
          refine lv_aload_n hx hb dX10_see_25 rfl (lv_at hl 0 rfl) ?_
          refine lv_dup hx hb dX10_see_26 rfl ?_
          refine hk_geti hx hb hts hC_10 hown hW (gx.S hM) tt_10 8 (by decide) rfl kw_1151 ⟨rfl, rfl, rfl⟩ ffw0_x_8 dX10_see_27 ?_
          refine lv_iconst (v := 1) hx hb dX10_see_30 (by decide) ?_
          refine lv_iadd hx hb dX10_see_31 ?_
          have rg_10 := i32_r fw0_x_8
          refine lv_topi (fun x_11 ex_11 => ?_)
          have zx_11 : x_11.toInt = fw0_x_8.toInt + 1 := by rw [ex_11]; exact i32_add rfl (by decide) (by omega) (by omega)
          refine hx_puti hx hb hts hC_10 hown hW hT (hx_S.rf (M := [(10, 8)])) (gx.S hM) tt_10 8 (by decide) rfl kw_1151 ⟨rfl, rfl, rfl⟩ rfl (x := x_11) ⟨by omega, by omega⟩ rfl rfl rfl (List.mem_singleton.mpr rfl) dX10_see_32 (fun H locs h_12 eh_12 hW hT hs => ?_)
          replace ex_5 := ex_5.trans (hs.a (gqt.S hM) rfl _).1.symm
          replace hM := hM.tr (hs.mono (by decide))
          have f_13 : h_12.2.1 x 8 = x_11 := by rw [eh_12]; exact hx_pi_at _ _ _ _
          refine lv_goto (tgt := 0) hx hb dX10_see_35 (by decide) ?_
          exact ih0 x_11 _ _ hL1 h_12 (by omega) (by omega) (vi0_0.trans (hv_sn_i (by omega) (by omega) (hv_bl_t ax_5 (by omega)) zx_11)) (by omega) (by omega) ls (by omega) hW hT hM f_13  (lv_sub hl [0] rfl)
  exact loop0 403 nx0 _ _ L h (by omega) (by omega) rfl (by omega) (by omega) ls (by omega) hW hT hM f_x_8  hl


set_option maxHeartbeats 4000000 in
set_option maxRecDepth 100000 in
theorem t_X10_wordHere_v (l : Launch) (dC : Nat → ClassId) (dI : Nat → Nat → Nat) (dA : Nat → ClassId) (L : List Nat) (h : hx_h) (sz : Nat) (x : Nat) (hT : hx_T T_tb L h) (gx : hx_g L h x 10) (qt : Nat) (gqt : hx_g L h qt 53) (f_x_6 : h.2.2 x 6 = some qt) (qw : Nat) (gqw : hx_g L h qw 57) (f_x_19 : h.2.2 x 19 = some qw) (tf : Nat → Int32) (af_qt : h.2.1 qt = tf) (wf : Nat → Int32) (af_qw : h.2.1 qw = wf) (nx0 : Int32) (f_x_8 : h.2.1 x 8 = nx0) (tp0 : Int32) (f_x_7 : h.2.1 x 7 = tp0) (hwd : hx_wd wf) (hA : nx0.toInt ≤ tp0.toInt) : Met l yX10_wordHere (Cond.code yX10_wordHere cX10_wordHere 5 (some .int) :: hx_all) ({ frames := 1, cells := 0, slots := 0, locals := 20 }) (va_Pc [.ref x] (hx_B T_tb (P_ty dA) (dC, dI) vwCl L h sz)) (va_Qi (fun (r : Int32) (u : List Nat × hx_h) => (∃ (nx1 : Int32) (ws1 : Int32), u.2.2.1 x 8 = nx1 ∧ u.2.2.1 x 11 = ws1 ∧ (nx0.toInt ≤ nx1.toInt ∧ nx1.toInt ≤ tp0.toInt ∧ nx1.toInt = ((hv_sk tf tp0.toInt.toNat nx0.toInt.toNat : Nat) : Int) ∧ nx1.toInt + ws1.toInt = ((hv_we tf tp0.toInt.toNat (hv_sk tf tp0.toInt.toNat nx0.toInt.toNat) : Nat) : Int) ∧ r.toInt = hv_wd tf tp0.toInt.toNat (hv_sk tf tp0.toInt.toNat nx0.toInt.toNat) ∧ 0 ≤ ws1.toInt ∧ nx1.toInt + ws1.toInt ≤ tp0.toInt ∧ -1 ≤ r.toInt ∧ r.toInt ≤ 24)) ∧ hx_T T_tb u.1 u.2 ∧ hx_S T_tb [(10, 8), (10, 11)] L h u.1 u.2) (hx_E T_tb (P_ty dA) (dC, dI) vwCl (hx_A L sz)) (hx_A L sz)) 0 0 (hx_A L sz) := by
  refine hx_met (lv := [(0, .ref x)]) (by decide +kernel) rfl (Nat.le_of_ble_eq_true rfl) rfl ?_
  intro p e s m below meth c hx hb hml hr hlk hts0 hown hin hsz hW ls hl
  have hts : ∀ w ∈ hx_all, w.before _ s = true := fun w hw => hts0 w (List.mem_cons_of_mem _ hw)
  have hown : s.vm.findClass "SmallCourtModel" = some m.cls := hown
  have hM : hx_S T_tb [(10, 8), (10, 11)] L h L h := hx_S.rf
  have b_nx0 := hT.gi gx tt_10 (k := 8) rfl
  rw [f_x_8] at b_nx0
  have b_nx0 : 0 ≤ nx0.toInt ∧ nx0.toInt ≤ 402 := b_nx0
  have b_tp0 := hT.gi gx tt_10 (k := 7) rfl
  rw [f_x_7] at b_tp0
  have b_tp0 : 0 ≤ tp0.toInt ∧ tp0.toInt ≤ 400 := b_tp0
  refine lv_aload_n hx hb dX10_wordHere_0 rfl (lv_at hl 0 rfl) ?_
  refine hx_goi (hx_runV (As := []) (rest := []) ⟨hx, hb, hml, hown, hts⟩ hW (gx.S hM) tt_10 (T := TX10) (N := 98) rfl (t_X10_see_v l dC dI dA L h s.heap.size x hT (gx.S hM) qt (gqt.S hM) ((hM.o gx trivial rfl).2.trans f_x_6) tf (hx_afS hM gqt rfl af_qt) nx0 f_x_8 tp0 ((hM.o gx trivial rfl).1.trans f_x_7) (by omega)) (cwV 0 hts (hx_gV kw_1468 kw_1465 kw_1467 kw_53 kw_103) rfl rfl rfl (by decide +kernel) ⟨Nat.le_of_ble_eq_true rfl, Nat.le_of_ble_eq_true rfl⟩) rfl hl.1 rfl (Nat.le_of_ble_eq_true rfl) dX10_wordHere_1 ⟨Nat.le_of_ble_eq_true rfl, Nat.le_of_ble_eq_true rfl⟩) hW (fun r_3 L_1 h_2 H locs p_4 hW => ?_)
  obtain ⟨⟨w_6, fw_6, hr_5⟩, hT, hs⟩ := p_4
  replace hT : hx_T T_tb L_1 h_2 := hT
  replace hs : hx_S T_tb [(10, 8)] L h L_1 h_2 := hs
  replace hM := hM.tr (hs.mono (by decide))
  have fw_6 : h_2.2.1 x 8 = w_6 := fw_6
  have bw_6 := hT.gi (gx.S hM) tt_10 (k := 8) rfl
  rw [fw_6] at bw_6
  have bw_6 : 0 ≤ w_6.toInt ∧ w_6.toInt ≤ 402 := bw_6
  have ek_7 : w_6.toInt.toNat = hv_sk tf tp0.toInt.toNat nx0.toInt.toNat := by omega
  have hr_5S := hr_5.2.2.2.1
  refine lv_pop hx hb dX10_wordHere_4 rfl ?_
  refine lv_aload_n hx hb dX10_wordHere_5 rfl (lv_at hl 0 rfl) ?_
  refine lv_iconst (v := 0) hx hb dX10_wordHere_6 (by decide) ?_
  refine hx_puti hx hb hts hC_10 hown hW hT (hx_S.rf (M := [(10, 11)])) (gx.S hM) tt_10 11 (by decide) rfl kw_1154 ⟨rfl, rfl, rfl⟩ rfl (x := (0 : Int32)) (by decide) rfl rfl rfl (List.mem_singleton.mpr rfl) dX10_wordHere_7 (fun H locs h_8 eh_8 hW hT hs => ?_)
  replace fw_6 := (hs.o (gx.S hM) trivial rfl).1.trans fw_6
  replace hM := hM.tr (hs.mono (by decide))
  have f_9 : h_8.2.1 x 11 = (0 : Int32) := by rw [eh_8]; exact hx_pi_at _ _ _ _
  have loop10 : ∀ (n10 : Nat) (fw10_x_11 : Int32) (H : Heap) (locs : List Loc) (hL1 : List Nat) (hl1 : hx_h), 0 ≤ fw10_x_11.toInt → fw10_x_11.toInt ≤ 400 → (hv_we tf tp0.toInt.toNat (w_6.toInt).toNat = hv_we tf tp0.toInt.toNat (w_6.toInt + fw10_x_11.toInt).toNat) → (w_6.toInt + fw10_x_11.toInt ≤ tp0.toInt) → ∀ (ls : Array Slot), 400 - fw10_x_11.toInt < (n10 : Int) → hx_W T_tb (P_ty dA) (dC, dI) vwCl (hx_A L sz) s.heap hL1 hl1 s H locs → hx_T T_tb hL1 hl1 → hx_S T_tb [(10, 8), (10, 11)] L h hL1 hl1 → hl1.2.1 x 11 = fw10_x_11 → hl1.2.1 x 8 = w_6 → lv_has ls 5 [(0, .ref x)] → W p l e ({ frames := 1, cells := 0, slots := 0, locals := 20 }) s m ([.ref x] : List Value).toArray below meth c H locs 0 0 (MQ below (va_Qi (fun (r : Int32) (u : List Nat × hx_h) => (∃ (nx1 : Int32) (ws1 : Int32), u.2.2.1 x 8 = nx1 ∧ u.2.2.1 x 11 = ws1 ∧ (nx0.toInt ≤ nx1.toInt ∧ nx1.toInt ≤ tp0.toInt ∧ nx1.toInt = ((hv_sk tf tp0.toInt.toNat nx0.toInt.toNat : Nat) : Int) ∧ nx1.toInt + ws1.toInt = ((hv_we tf tp0.toInt.toNat (hv_sk tf tp0.toInt.toNat nx0.toInt.toNat) : Nat) : Int) ∧ r.toInt = hv_wd tf tp0.toInt.toNat (hv_sk tf tp0.toInt.toNat nx0.toInt.toNat) ∧ 0 ≤ ws1.toInt ∧ nx1.toInt + ws1.toInt ≤ tp0.toInt ∧ -1 ≤ r.toInt ∧ r.toInt ≤ 24)) ∧ hx_T T_tb u.1 u.2 ∧ hx_S T_tb [(10, 8), (10, 11)] L h u.1 u.2) (hx_E T_tb (P_ty dA) (dC, dI) vwCl (hx_A L sz)) (hx_A L sz)) ([.ref x] : List Value).toArray s 0 0 (hx_A L sz)) (F0 m 10 ls []) := by
    intro n10
    induction n10 with
    | zero => intro fw10_x_11 H locs hL1 hl1 blfw10_x_11 bufw10_x_11 vi10_0 vi10_1 ls hn10; exfalso; omega
    | succ n10 ih10 =>
      intro fw10_x_11 H locs hL1 hl1 blfw10_x_11 bufw10_x_11 vi10_0 vi10_1 ls hn10 hW hT hM ffw10_x_11 fw_6  hl
      refine lv_aload_n hx hb dX10_wordHere_10 rfl (lv_at hl 0 rfl) ?_
      have join77 : ∀ (H : Heap) (locs : List Loc) (hL1 : List Nat) (hl1 : hx_h), (((hv_we tf tp0.toInt.toNat (w_6.toInt).toNat : Nat) : Int) = w_6.toInt + fw10_x_11.toInt) → ∀ (ls : Array Slot), hx_W T_tb (P_ty dA) (dC, dI) vwCl (hx_A L sz) s.heap hL1 hl1 s H locs → hx_T T_tb hL1 hl1 → hx_S T_tb [(10, 8), (10, 11)] L h hL1 hl1 → hl1.2.1 x 8 = w_6 → hl1.2.1 x 11 = fw10_x_11 → lv_has ls 5 [(0, .ref x)] → W p l e ({ frames := 1, cells := 0, slots := 0, locals := 20 }) s m ([.ref x] : List Value).toArray below meth c H locs 0 0 (MQ below (va_Qi (fun (r : Int32) (u : List Nat × hx_h) => (∃ (nx1 : Int32) (ws1 : Int32), u.2.2.1 x 8 = nx1 ∧ u.2.2.1 x 11 = ws1 ∧ (nx0.toInt ≤ nx1.toInt ∧ nx1.toInt ≤ tp0.toInt ∧ nx1.toInt = ((hv_sk tf tp0.toInt.toNat nx0.toInt.toNat : Nat) : Int) ∧ nx1.toInt + ws1.toInt = ((hv_we tf tp0.toInt.toNat (hv_sk tf tp0.toInt.toNat nx0.toInt.toNat) : Nat) : Int) ∧ r.toInt = hv_wd tf tp0.toInt.toNat (hv_sk tf tp0.toInt.toNat nx0.toInt.toNat) ∧ 0 ≤ ws1.toInt ∧ nx1.toInt + ws1.toInt ≤ tp0.toInt ∧ -1 ≤ r.toInt ∧ r.toInt ≤ 24)) ∧ hx_T T_tb u.1 u.2 ∧ hx_S T_tb [(10, 8), (10, 11)] L h u.1 u.2) (hx_E T_tb (P_ty dA) (dC, dI) vwCl (hx_A L sz)) (hx_A L sz)) ([.ref x] : List Value).toArray s 0 0 (hx_A L sz)) (F0 m 77 ls []) := by
        intro  H locs hL1 hl1  vj77_0 ls hW hT hM fw_6 ffw10_x_11  hl
        have hwn : hv_we tf tp0.toInt.toNat w_6.toInt.toNat - w_6.toInt.toNat = (fw10_x_11.toInt).toNat := by have h9 := vj77_0; omega
        refine lv_iconst (v := 0) hx hb dX10_wordHere_77 (by decide) ?_
        refine lv_istore_n (lv' := [(1, .int (0 : Int32)), (0, .ref x)]) hx hb dX10_wordHere_78 rfl hl (by decide) rfl (fun ls hl => ?_)
        have loop79 : ∀ (n79 : Nat) (iv79_1 : Int32) (H : Heap) (locs : List Loc) (hL1 : List Nat) (hl1 : hx_h), 0 ≤ iv79_1.toInt → iv79_1.toInt ≤ 25 → (∀ k : Nat, (k : Int) < iv79_1.toInt → hv_tx tf (w_6.toInt).toNat (fw10_x_11.toInt).toNat ≠ hv_wl.getD k []) → ∀ (ls : Array Slot), 25 - iv79_1.toInt < (n79 : Int) → hx_W T_tb (P_ty dA) (dC, dI) vwCl (hx_A L sz) s.heap hL1 hl1 s H locs → hx_T T_tb hL1 hl1 → hx_S T_tb [(10, 8), (10, 11)] L h hL1 hl1 → hl1.2.1 x 8 = w_6 → hl1.2.1 x 11 = fw10_x_11 → lv_has ls 5 [(1, .int iv79_1), (0, .ref x)] → W p l e ({ frames := 1, cells := 0, slots := 0, locals := 20 }) s m ([.ref x] : List Value).toArray below meth c H locs 0 0 (MQ below (va_Qi (fun (r : Int32) (u : List Nat × hx_h) => (∃ (nx1 : Int32) (ws1 : Int32), u.2.2.1 x 8 = nx1 ∧ u.2.2.1 x 11 = ws1 ∧ (nx0.toInt ≤ nx1.toInt ∧ nx1.toInt ≤ tp0.toInt ∧ nx1.toInt = ((hv_sk tf tp0.toInt.toNat nx0.toInt.toNat : Nat) : Int) ∧ nx1.toInt + ws1.toInt = ((hv_we tf tp0.toInt.toNat (hv_sk tf tp0.toInt.toNat nx0.toInt.toNat) : Nat) : Int) ∧ r.toInt = hv_wd tf tp0.toInt.toNat (hv_sk tf tp0.toInt.toNat nx0.toInt.toNat) ∧ 0 ≤ ws1.toInt ∧ nx1.toInt + ws1.toInt ≤ tp0.toInt ∧ -1 ≤ r.toInt ∧ r.toInt ≤ 24)) ∧ hx_T T_tb u.1 u.2 ∧ hx_S T_tb [(10, 8), (10, 11)] L h u.1 u.2) (hx_E T_tb (P_ty dA) (dC, dI) vwCl (hx_A L sz)) (hx_A L sz)) ([.ref x] : List Value).toArray s 0 0 (hx_A L sz)) (F0 m 79 ls []) := by
          intro n79
          induction n79 with
          | zero => intro iv79_1 H locs hL1 hl1 bliv79_1 buiv79_1 vi79_0 ls hn79; exfalso; omega
          | succ n79 ih79 =>
            intro iv79_1 H locs hL1 hl1 bliv79_1 buiv79_1 vi79_0 ls hn79 hW hT hM fw_6 ffw10_x_11  hl
            refine lv_iload_n hx hb dX10_wordHere_79 rfl (lv_at hl 0 rfl) ?_
            refine lv_bipush (v := 25) hx hb dX10_wordHere_80 (by decide) ?_
            refine hb_icmp_ge (zx := iv79_1.toInt) (zy := 25) (tgt := 200) hx hb rfl (by decide) dX10_wordHere_82 (by decide) (fun c_10 => ?_) (fun c_10 => ?_)
            · skip
              refine lv_iconst (v := -1) hx hb dX10_wordHere_200 (by decide) ?_
              exact hx_reti hx hb hr hlk hW ⟨⟨w_6, fw10_x_11, fw_6, ffw10_x_11, ⟨by omega, by omega, by omega, (by rw [← ek_7]; omega), (by rw [← ek_7]; rw [hv_wd_o hwn (by first | exact Or.inr (by omega) | exact Or.inl (fun k hk => vi79_0 k (by omega)))]; decide), by omega, by omega, by decide, by decide⟩⟩, hT, hM⟩ dX10_wordHere_201
            · skip
              refine lv_aload_n hx hb dX10_wordHere_85 rfl (lv_at hl 1 rfl) ?_
              refine hk_geti hx hb hts hC_10 hown hW (gx.S hM) tt_10 11 (by decide) rfl kw_1154 ⟨rfl, rfl, rfl⟩ ffw10_x_11 dX10_wordHere_86 ?_
              refine lv_bipush (v := 7) hx hb dX10_wordHere_89 (by decide) ?_
              refine hb_icmp_gt (zx := fw10_x_11.toInt) (zy := 7) (tgt := 200) hx hb rfl (by decide) dX10_wordHere_91 (by decide) (fun c_11 => ?_) (fun c_11 => ?_)
              · skip
                refine lv_iconst (v := -1) hx hb dX10_wordHere_200 (by decide) ?_
                exact hx_reti hx hb hr hlk hW ⟨⟨w_6, fw10_x_11, fw_6, ffw10_x_11, ⟨by omega, by omega, by omega, (by rw [← ek_7]; omega), (by rw [← ek_7]; rw [hv_wd_o hwn (by first | exact Or.inr (by omega) | exact Or.inl (fun k hk => vi79_0 k (by omega)))]; decide), by omega, by omega, by decide, by decide⟩⟩, hT, hM⟩ dX10_wordHere_201
              · skip
                refine lv_iconst (v := 0) hx hb dX10_wordHere_94 (by decide) ?_
                refine lv_istore_n (lv' := [(2, .int (0 : Int32)), (1, .int iv79_1), (0, .ref x)]) hx hb dX10_wordHere_95 rfl hl (by decide) rfl (fun ls hl => ?_)
                have loop96 : ∀ (n96 : Nat) (iv96_2 : Int32) (H : Heap) (locs : List Loc) (hL1 : List Nat) (hl1 : hx_h), 0 ≤ iv96_2.toInt → iv96_2.toInt ≤ 7 → (hx_wp wf iv79_1.toInt iv96_2.toInt) → ∀ (ls : Array Slot), 7 - iv96_2.toInt < (n96 : Int) → hx_W T_tb (P_ty dA) (dC, dI) vwCl (hx_A L sz) s.heap hL1 hl1 s H locs → hx_T T_tb hL1 hl1 → hx_S T_tb [(10, 8), (10, 11)] L h hL1 hl1 → hl1.2.1 x 8 = w_6 → hl1.2.1 x 11 = fw10_x_11 → lv_has ls 5 [(2, .int iv96_2), (1, .int iv79_1), (0, .ref x)] → W p l e ({ frames := 1, cells := 0, slots := 0, locals := 20 }) s m ([.ref x] : List Value).toArray below meth c H locs 0 0 (MQ below (va_Qi (fun (r : Int32) (u : List Nat × hx_h) => (∃ (nx1 : Int32) (ws1 : Int32), u.2.2.1 x 8 = nx1 ∧ u.2.2.1 x 11 = ws1 ∧ (nx0.toInt ≤ nx1.toInt ∧ nx1.toInt ≤ tp0.toInt ∧ nx1.toInt = ((hv_sk tf tp0.toInt.toNat nx0.toInt.toNat : Nat) : Int) ∧ nx1.toInt + ws1.toInt = ((hv_we tf tp0.toInt.toNat (hv_sk tf tp0.toInt.toNat nx0.toInt.toNat) : Nat) : Int) ∧ r.toInt = hv_wd tf tp0.toInt.toNat (hv_sk tf tp0.toInt.toNat nx0.toInt.toNat) ∧ 0 ≤ ws1.toInt ∧ nx1.toInt + ws1.toInt ≤ tp0.toInt ∧ -1 ≤ r.toInt ∧ r.toInt ≤ 24)) ∧ hx_T T_tb u.1 u.2 ∧ hx_S T_tb [(10, 8), (10, 11)] L h u.1 u.2) (hx_E T_tb (P_ty dA) (dC, dI) vwCl (hx_A L sz)) (hx_A L sz)) ([.ref x] : List Value).toArray s 0 0 (hx_A L sz)) (F0 m 96 ls []) := by
                  intro n96
                  induction n96 with
                  | zero => intro iv96_2 H locs hL1 hl1 bliv96_2 buiv96_2 vi96_0 ls hn96; exfalso; omega
                  | succ n96 ih96 =>
                    intro iv96_2 H locs hL1 hl1 bliv96_2 buiv96_2 vi96_0 ls hn96 hW hT hM fw_6 ffw10_x_11  hl
                    refine lv_iload_n hx hb dX10_wordHere_96 rfl (lv_at hl 0 rfl) ?_
                    have join122 : ∀ (H : Heap) (locs : List Loc) (hL1 : List Nat) (hl1 : hx_h), (iv96_2.toInt = ((hv_wl.getD (iv79_1.toInt).toNat []).length : Nat)) → ∀ (ls : Array Slot), hx_W T_tb (P_ty dA) (dC, dI) vwCl (hx_A L sz) s.heap hL1 hl1 s H locs → hx_T T_tb hL1 hl1 → hx_S T_tb [(10, 8), (10, 11)] L h hL1 hl1 → hl1.2.1 x 8 = w_6 → hl1.2.1 x 11 = fw10_x_11 → lv_has ls 5 [(2, .int iv96_2), (1, .int iv79_1), (0, .ref x)] → W p l e ({ frames := 1, cells := 0, slots := 0, locals := 20 }) s m ([.ref x] : List Value).toArray below meth c H locs 0 0 (MQ below (va_Qi (fun (r : Int32) (u : List Nat × hx_h) => (∃ (nx1 : Int32) (ws1 : Int32), u.2.2.1 x 8 = nx1 ∧ u.2.2.1 x 11 = ws1 ∧ (nx0.toInt ≤ nx1.toInt ∧ nx1.toInt ≤ tp0.toInt ∧ nx1.toInt = ((hv_sk tf tp0.toInt.toNat nx0.toInt.toNat : Nat) : Int) ∧ nx1.toInt + ws1.toInt = ((hv_we tf tp0.toInt.toNat (hv_sk tf tp0.toInt.toNat nx0.toInt.toNat) : Nat) : Int) ∧ r.toInt = hv_wd tf tp0.toInt.toNat (hv_sk tf tp0.toInt.toNat nx0.toInt.toNat) ∧ 0 ≤ ws1.toInt ∧ nx1.toInt + ws1.toInt ≤ tp0.toInt ∧ -1 ≤ r.toInt ∧ r.toInt ≤ 24)) ∧ hx_T T_tb u.1 u.2 ∧ hx_S T_tb [(10, 8), (10, 11)] L h u.1 u.2) (hx_E T_tb (P_ty dA) (dC, dI) vwCl (hx_A L sz)) (hx_A L sz)) ([.ref x] : List Value).toArray s 0 0 (hx_A L sz)) (F0 m 122 ls []) := by
                      intro  H locs hL1 hl1  vj122_0 ls hW hT hM fw_6 ffw10_x_11  hl
                      have hwl := vj122_0
                      refine lv_iload_n hx hb dX10_wordHere_122 rfl (lv_at hl 0 rfl) ?_
                      refine lv_aload_n hx hb dX10_wordHere_123 rfl (lv_at hl 2 rfl) ?_
                      refine hk_geti hx hb hts hC_10 hown hW (gx.S hM) tt_10 11 (by decide) rfl kw_1154 ⟨rfl, rfl, rfl⟩ ffw10_x_11 dX10_wordHere_124 ?_
                      refine hb_icmp_ne (zx := iv96_2.toInt) (zy := fw10_x_11.toInt) (tgt := 134) hx hb rfl rfl dX10_wordHere_127 (by decide) (fun c_12 => ?_) (fun c_12 => ?_)
                      · skip
                        refine lv_iconst (v := 0) hx hb dX10_wordHere_134 (by decide) ?_
                        refine lv_istore_n (lv' := [(3, .int (0 : Int32)), (2, .int iv96_2), (1, .int iv79_1), (0, .ref x)]) hx hb dX10_wordHere_135 rfl hl (by decide) rfl (fun ls hl => ?_)
                        refine lv_iconst (v := 0) hx hb dX10_wordHere_136 (by decide) ?_
                        refine lv_istore (lv' := [(4, .int (0 : Int32)), (3, .int (0 : Int32)), (2, .int iv96_2), (1, .int iv79_1), (0, .ref x)]) hx hb dX10_wordHere_137 hl (by decide) rfl (fun ls hl => ?_)
                        have loop139 : ∀ (n139 : Nat) (iv139_3 iv139_4 : Int32) (H : Heap) (locs : List Loc) (hL1 : List Nat) (hl1 : hx_h), 0 ≤ iv139_3.toInt → iv139_3.toInt ≤ 1 → 0 ≤ iv139_4.toInt → iv139_4.toInt ≤ 7 → (hv_SM tf wf w_6.toInt fw10_x_11.toInt iv79_1.toInt iv96_2.toInt iv139_4.toInt iv139_3.toInt) → ∀ (ls : Array Slot), 7 - iv139_4.toInt < (n139 : Int) → hx_W T_tb (P_ty dA) (dC, dI) vwCl (hx_A L sz) s.heap hL1 hl1 s H locs → hx_T T_tb hL1 hl1 → hx_S T_tb [(10, 8), (10, 11)] L h hL1 hl1 → hl1.2.1 x 8 = w_6 → hl1.2.1 x 11 = fw10_x_11 → lv_has ls 5 [(4, .int iv139_4), (3, .int iv139_3), (2, .int iv96_2), (1, .int iv79_1), (0, .ref x)] → W p l e ({ frames := 1, cells := 0, slots := 0, locals := 20 }) s m ([.ref x] : List Value).toArray below meth c H locs 0 0 (MQ below (va_Qi (fun (r : Int32) (u : List Nat × hx_h) => (∃ (nx1 : Int32) (ws1 : Int32), u.2.2.1 x 8 = nx1 ∧ u.2.2.1 x 11 = ws1 ∧ (nx0.toInt ≤ nx1.toInt ∧ nx1.toInt ≤ tp0.toInt ∧ nx1.toInt = ((hv_sk tf tp0.toInt.toNat nx0.toInt.toNat : Nat) : Int) ∧ nx1.toInt + ws1.toInt = ((hv_we tf tp0.toInt.toNat (hv_sk tf tp0.toInt.toNat nx0.toInt.toNat) : Nat) : Int) ∧ r.toInt = hv_wd tf tp0.toInt.toNat (hv_sk tf tp0.toInt.toNat nx0.toInt.toNat) ∧ 0 ≤ ws1.toInt ∧ nx1.toInt + ws1.toInt ≤ tp0.toInt ∧ -1 ≤ r.toInt ∧ r.toInt ≤ 24)) ∧ hx_T T_tb u.1 u.2 ∧ hx_S T_tb [(10, 8), (10, 11)] L h u.1 u.2) (hx_E T_tb (P_ty dA) (dC, dI) vwCl (hx_A L sz)) (hx_A L sz)) ([.ref x] : List Value).toArray s 0 0 (hx_A L sz)) (F0 m 139 ls []) := by
                          intro n139
                          induction n139 with
                          | zero => intro iv139_3 iv139_4 H locs hL1 hl1 bliv139_3 buiv139_3 bliv139_4 buiv139_4 vi139_0 ls hn139; exfalso; omega
                          | succ n139 ih139 =>
                            intro iv139_3 iv139_4 H locs hL1 hl1 bliv139_3 buiv139_3 bliv139_4 buiv139_4 vi139_0 ls hn139 hW hT hM fw_6 ffw10_x_11  hl
                            refine lv_iload_n hx hb dX10_wordHere_139 rfl (lv_at hl 1 rfl) ?_
                            refine hb_if_eq (zx := iv139_3.toInt) (tgt := 188) hx hb rfl dX10_wordHere_140 (by decide) (fun c_13 => ?_) (fun c_13 => ?_)
                            · skip
                              refine lv_iload_n hx hb dX10_wordHere_188 rfl (lv_at hl 1 rfl) ?_
                              refine hb_if_eq (zx := iv139_3.toInt) (tgt := 194) hx hb rfl dX10_wordHere_189 (by decide) (fun c_14 => ?_) (fun c_14 => by exfalso; omega)
                              obtain ⟨x_15, ex_15⟩ : ∃ y : Int32, y = iv79_1 + Int32.ofInt 1 := ⟨_, rfl⟩
                              have rg_16 := i32_r iv79_1
                              have zx_15 : x_15.toInt = iv79_1.toInt + (1) := by rw [ex_15]; exact i32_add rfl (by decide) (by omega) (by omega)
                              refine lv_iinc (v := x_15) (lv' := [(1, .int x_15), (4, .int iv139_4), (3, .int iv139_3), (2, .int iv96_2), (0, .ref x)]) hx hb dX10_wordHere_194 hl (k := 3) rfl ex_15.symm (by decide) rfl (fun ls hl => ?_)
                              refine lv_goto (tgt := 79) hx hb dX10_wordHere_197 (by decide) ?_
                              exact ih79 x_15 _ _ hL1 hl1 (by omega) (by omega) (hv_wd_s vi79_0 (by omega) (hv_SM_n vi139_0 (by omega)) zx_15) ls (by omega) hW hT hM fw_6 ffw10_x_11  (lv_sub hl [0, 4] rfl)
                            · skip
                              have hSM9 := hv_SM_w vi139_0 (by omega)
                              refine lv_iload hx hb dX10_wordHere_143 (lv_at hl 0 rfl) ?_
                              refine lv_iload_n hx hb dX10_wordHere_145 rfl (lv_at hl 2 rfl) ?_
                              refine hb_icmp_ge (zx := iv139_4.toInt) (zy := iv96_2.toInt) (tgt := 188) hx hb rfl rfl dX10_wordHere_146 (by decide) (fun c_17 => ?_) (fun c_17 => ?_)
                              · skip
                                refine lv_iload_n hx hb dX10_wordHere_188 rfl (lv_at hl 1 rfl) ?_
                                refine hb_if_eq (zx := iv139_3.toInt) (tgt := 194) hx hb rfl dX10_wordHere_189 (by decide) (fun c_18 => by exfalso; omega) (fun c_18 => ?_)
                                refine lv_iload_n hx hb dX10_wordHere_192 rfl (lv_at hl 3 rfl) ?_
                                exact hx_reti hx hb hr hlk hW ⟨⟨w_6, fw10_x_11, fw_6, ffw10_x_11, ⟨by omega, by omega, by omega, (by rw [← ek_7]; omega), (by rw [← ek_7]; exact hv_wd_i hwn (by omega) (by omega) (hv_SM_e hwd (by omega) (by omega) hwl vi139_0 (by omega) (by omega))), by omega, by omega, by omega, by omega⟩⟩, hT, hM⟩ dX10_wordHere_193
                              · skip
                                refine lv_aload_n hx hb dX10_wordHere_149 rfl (lv_at hl 4 rfl) ?_
                                refine hk_getr hx hb hts hC_10 hown hW (gx.S hM) tt_10 19 (by decide) rfl kw_1162 ⟨rfl, rfl, rfl⟩ ((hM.o gx trivial rfl).2.trans f_x_19) dX10_wordHere_150 ?_
                                refine lv_bipush (v := 7) hx hb dX10_wordHere_153 (by decide) ?_
                                refine lv_iload_n hx hb dX10_wordHere_155 rfl (lv_at hl 3 rfl) ?_
                                refine lv_imul hx hb dX10_wordHere_156 ?_
                                refine lv_topi (fun x_19 ex_19 => ?_)
                                have zx_19 : x_19.toInt = 7 * iv79_1.toInt := by rw [ex_19]; exact i32_mul (by decide) rfl rfl (by omega) (by omega)
                                refine lv_iload hx hb dX10_wordHere_157 (lv_at hl 0 rfl) ?_
                                refine lv_iadd hx hb dX10_wordHere_159 ?_
                                have rg_20 := i32_r x_19
                                have rg_21 := i32_r iv139_4
                                refine lv_topi (fun x_22 ex_22 => ?_)
                                have zx_22 : x_22.toInt = x_19.toInt + iv139_4.toInt := by rw [ex_22]; exact i32_add rfl rfl (by omega) (by omega)
                                refine hx_bald hx hb hW hT (gqw.S hM) tt_57 rfl ⟨by omega, by omega⟩ dX10_wordHere_160 (fun x_23 ex_23 lx_23 ux_23 => ?_)
                                have ax_23 : x_23 = wf x_22.toNatClampNeg := ex_23.trans (congrFun (hx_afS hM gqw rfl af_qw) _)
                                refine lv_aload_n hx hb dX10_wordHere_161 rfl (lv_at hl 4 rfl) ?_
                                refine hk_getr hx hb hts hC_10 hown hW (gx.S hM) tt_10 6 (by decide) rfl kw_1149 ⟨rfl, rfl, rfl⟩ ((hM.o gx trivial rfl).2.trans f_x_6) dX10_wordHere_162 ?_
                                refine lv_aload_n hx hb dX10_wordHere_165 rfl (lv_at hl 4 rfl) ?_
                                refine hk_geti hx hb hts hC_10 hown hW (gx.S hM) tt_10 8 (by decide) rfl kw_1151 ⟨rfl, rfl, rfl⟩ fw_6 dX10_wordHere_166 ?_
                                refine lv_iload hx hb dX10_wordHere_169 (lv_at hl 0 rfl) ?_
                                refine lv_iadd hx hb dX10_wordHere_171 ?_
                                have rg_24 := i32_r w_6
                                refine lv_topi (fun x_25 ex_25 => ?_)
                                have zx_25 : x_25.toInt = w_6.toInt + iv139_4.toInt := by rw [ex_25]; exact i32_add rfl rfl (by omega) (by omega)
                                refine hx_bald hx hb hW hT (gqt.S hM) tt_53 rfl ⟨by omega, by omega⟩ dX10_wordHere_172 (fun x_26 ex_26 lx_26 ux_26 => ?_)
                                have ax_26 : x_26 = tf x_25.toNatClampNeg := ex_26.trans (congrFun (hx_afS hM gqt rfl af_qt) _)
                                refine hb_icmp_ne (zx := x_23.toInt) (zy := x_26.toInt) (tgt := 180) hx hb rfl rfl dX10_wordHere_173 (by decide) (fun c_27 => ?_) (fun c_27 => ?_)
                                · skip
                                  refine lv_iconst (v := 0) hx hb dX10_wordHere_180 (by decide) ?_
                                  refine lv_istore_n (lv' := [(3, .int (0 : Int32)), (4, .int iv139_4), (2, .int iv96_2), (1, .int iv79_1), (0, .ref x)]) hx hb dX10_wordHere_181 rfl hl (by decide) rfl (fun ls hl => ?_)
                                  obtain ⟨x_28, ex_28⟩ : ∃ y : Int32, y = iv139_4 + Int32.ofInt 1 := ⟨_, rfl⟩
                                  have zx_28 : x_28.toInt = iv139_4.toInt + (1) := by rw [ex_28]; exact i32_add rfl (by decide) (by omega) (by omega)
                                  refine lv_iinc (v := x_28) (lv' := [(4, .int x_28), (3, .int (0 : Int32)), (2, .int iv96_2), (1, .int iv79_1), (0, .ref x)]) hx hb dX10_wordHere_182 hl (k := 1) rfl ex_28.symm (by decide) rfl (fun ls hl => ?_)
                                  refine lv_goto (tgt := 139) hx hb dX10_wordHere_185 (by decide) ?_
                                  have zk_0 : (0 : Int32).toInt = 0 := by decide
                                  exact ih139 (0 : Int32) x_28 _ _ hL1 hl1 (by decide) (by decide) (by omega) (by omega) (hv_SM_x hwd (by omega) (by omega) hwl (by have h9 := vi139_0; rw [show iv139_3.toInt = 1 by omega] at h9; exact h9) (by omega) (by omega) (by rw [show 7 * iv79_1.toInt.toNat + iv139_4.toInt.toNat = x_22.toNatClampNeg by unfold Int32.toNatClampNeg; omega, show w_6.toInt.toNat + iv139_4.toInt.toNat = x_25.toNatClampNeg by unfold Int32.toNatClampNeg; omega, ← ax_23, ← ax_26]; omega) (by decide)) ls (by omega) hW hT hM fw_6 ffw10_x_11  (lv_sub hl [0, 1, 2, 3, 4] rfl)
                                · skip
                                  refine lv_iconst (v := 1) hx hb dX10_wordHere_176 (by decide) ?_
                                  refine lv_goto (tgt := 181) hx hb dX10_wordHere_177 (by decide) ?_
                                  refine lv_istore_n (lv' := [(3, .int (1 : Int32)), (4, .int iv139_4), (2, .int iv96_2), (1, .int iv79_1), (0, .ref x)]) hx hb dX10_wordHere_181 rfl hl (by decide) rfl (fun ls hl => ?_)
                                  obtain ⟨x_29, ex_29⟩ : ∃ y : Int32, y = iv139_4 + Int32.ofInt 1 := ⟨_, rfl⟩
                                  have zx_29 : x_29.toInt = iv139_4.toInt + (1) := by rw [ex_29]; exact i32_add rfl (by decide) (by omega) (by omega)
                                  refine lv_iinc (v := x_29) (lv' := [(4, .int x_29), (3, .int (1 : Int32)), (2, .int iv96_2), (1, .int iv79_1), (0, .ref x)]) hx hb dX10_wordHere_182 hl (k := 1) rfl ex_29.symm (by decide) rfl (fun ls hl => ?_)
                                  refine lv_goto (tgt := 139) hx hb dX10_wordHere_185 (by decide) ?_
                                  have zk_1 : (1 : Int32).toInt = 1 := by decide
                                  exact ih139 (1 : Int32) x_29 _ _ hL1 hl1 (by decide) (by decide) (by omega) (by omega) (hv_SM_s (by have h9 := vi139_0; rw [show iv139_3.toInt = 1 by omega] at h9; exact h9) (by omega) (by rw [show 7 * iv79_1.toInt.toNat + iv139_4.toInt.toNat = x_22.toNatClampNeg by unfold Int32.toNatClampNeg; omega, show w_6.toInt.toNat + iv139_4.toInt.toNat = x_25.toNatClampNeg by unfold Int32.toNatClampNeg; omega, ← ax_23, ← ax_26]; omega) zx_29 (by decide)) ls (by omega) hW hT hM fw_6 ffw10_x_11  (lv_sub hl [0, 1, 2, 3, 4] rfl)
                        have zk_0 : (0 : Int32).toInt = 0 := by decide
                        have zk_0 : (0 : Int32).toInt = 0 := by decide
                        exact loop139 8 (0 : Int32) (0 : Int32) _ _ hL1 hl1 (by decide) (by decide) (by decide) (by decide) (hv_SM_l hwl (by omega) (by omega) (by decide)) ls (by omega) hW hT hM fw_6 ffw10_x_11  hl
                      · skip
                        refine lv_iconst (v := 1) hx hb dX10_wordHere_130 (by decide) ?_
                        refine lv_goto (tgt := 135) hx hb dX10_wordHere_131 (by decide) ?_
                        refine lv_istore_n (lv' := [(3, .int (1 : Int32)), (2, .int iv96_2), (1, .int iv79_1), (0, .ref x)]) hx hb dX10_wordHere_135 rfl hl (by decide) rfl (fun ls hl => ?_)
                        refine lv_iconst (v := 0) hx hb dX10_wordHere_136 (by decide) ?_
                        refine lv_istore (lv' := [(4, .int (0 : Int32)), (3, .int (1 : Int32)), (2, .int iv96_2), (1, .int iv79_1), (0, .ref x)]) hx hb dX10_wordHere_137 hl (by decide) rfl (fun ls hl => ?_)
                        have loop139 : ∀ (n139 : Nat) (iv139_3 iv139_4 : Int32) (H : Heap) (locs : List Loc) (hL1 : List Nat) (hl1 : hx_h), 0 ≤ iv139_3.toInt → iv139_3.toInt ≤ 1 → 0 ≤ iv139_4.toInt → iv139_4.toInt ≤ 7 → (hv_SM tf wf w_6.toInt fw10_x_11.toInt iv79_1.toInt iv96_2.toInt iv139_4.toInt iv139_3.toInt) → ∀ (ls : Array Slot), 7 - iv139_4.toInt < (n139 : Int) → hx_W T_tb (P_ty dA) (dC, dI) vwCl (hx_A L sz) s.heap hL1 hl1 s H locs → hx_T T_tb hL1 hl1 → hx_S T_tb [(10, 8), (10, 11)] L h hL1 hl1 → hl1.2.1 x 8 = w_6 → hl1.2.1 x 11 = fw10_x_11 → lv_has ls 5 [(4, .int iv139_4), (3, .int iv139_3), (2, .int iv96_2), (1, .int iv79_1), (0, .ref x)] → W p l e ({ frames := 1, cells := 0, slots := 0, locals := 20 }) s m ([.ref x] : List Value).toArray below meth c H locs 0 0 (MQ below (va_Qi (fun (r : Int32) (u : List Nat × hx_h) => (∃ (nx1 : Int32) (ws1 : Int32), u.2.2.1 x 8 = nx1 ∧ u.2.2.1 x 11 = ws1 ∧ (nx0.toInt ≤ nx1.toInt ∧ nx1.toInt ≤ tp0.toInt ∧ nx1.toInt = ((hv_sk tf tp0.toInt.toNat nx0.toInt.toNat : Nat) : Int) ∧ nx1.toInt + ws1.toInt = ((hv_we tf tp0.toInt.toNat (hv_sk tf tp0.toInt.toNat nx0.toInt.toNat) : Nat) : Int) ∧ r.toInt = hv_wd tf tp0.toInt.toNat (hv_sk tf tp0.toInt.toNat nx0.toInt.toNat) ∧ 0 ≤ ws1.toInt ∧ nx1.toInt + ws1.toInt ≤ tp0.toInt ∧ -1 ≤ r.toInt ∧ r.toInt ≤ 24)) ∧ hx_T T_tb u.1 u.2 ∧ hx_S T_tb [(10, 8), (10, 11)] L h u.1 u.2) (hx_E T_tb (P_ty dA) (dC, dI) vwCl (hx_A L sz)) (hx_A L sz)) ([.ref x] : List Value).toArray s 0 0 (hx_A L sz)) (F0 m 139 ls []) := by
                          intro n139
                          induction n139 with
                          | zero => intro iv139_3 iv139_4 H locs hL1 hl1 bliv139_3 buiv139_3 bliv139_4 buiv139_4 vi139_0 ls hn139; exfalso; omega
                          | succ n139 ih139 =>
                            intro iv139_3 iv139_4 H locs hL1 hl1 bliv139_3 buiv139_3 bliv139_4 buiv139_4 vi139_0 ls hn139 hW hT hM fw_6 ffw10_x_11  hl
                            refine lv_iload_n hx hb dX10_wordHere_139 rfl (lv_at hl 1 rfl) ?_
                            refine hb_if_eq (zx := iv139_3.toInt) (tgt := 188) hx hb rfl dX10_wordHere_140 (by decide) (fun c_30 => ?_) (fun c_30 => ?_)
                            · skip
                              refine lv_iload_n hx hb dX10_wordHere_188 rfl (lv_at hl 1 rfl) ?_
                              refine hb_if_eq (zx := iv139_3.toInt) (tgt := 194) hx hb rfl dX10_wordHere_189 (by decide) (fun c_31 => ?_) (fun c_31 => by exfalso; omega)
                              obtain ⟨x_32, ex_32⟩ : ∃ y : Int32, y = iv79_1 + Int32.ofInt 1 := ⟨_, rfl⟩
                              have rg_33 := i32_r iv79_1
                              have zx_32 : x_32.toInt = iv79_1.toInt + (1) := by rw [ex_32]; exact i32_add rfl (by decide) (by omega) (by omega)
                              refine lv_iinc (v := x_32) (lv' := [(1, .int x_32), (4, .int iv139_4), (3, .int iv139_3), (2, .int iv96_2), (0, .ref x)]) hx hb dX10_wordHere_194 hl (k := 3) rfl ex_32.symm (by decide) rfl (fun ls hl => ?_)
                              refine lv_goto (tgt := 79) hx hb dX10_wordHere_197 (by decide) ?_
                              exact ih79 x_32 _ _ hL1 hl1 (by omega) (by omega) (hv_wd_s vi79_0 (by omega) (hv_SM_n vi139_0 (by omega)) zx_32) ls (by omega) hW hT hM fw_6 ffw10_x_11  (lv_sub hl [0, 4] rfl)
                            · skip
                              have hSM9 := hv_SM_w vi139_0 (by omega)
                              refine lv_iload hx hb dX10_wordHere_143 (lv_at hl 0 rfl) ?_
                              refine lv_iload_n hx hb dX10_wordHere_145 rfl (lv_at hl 2 rfl) ?_
                              refine hb_icmp_ge (zx := iv139_4.toInt) (zy := iv96_2.toInt) (tgt := 188) hx hb rfl rfl dX10_wordHere_146 (by decide) (fun c_34 => ?_) (fun c_34 => ?_)
                              · skip
                                refine lv_iload_n hx hb dX10_wordHere_188 rfl (lv_at hl 1 rfl) ?_
                                refine hb_if_eq (zx := iv139_3.toInt) (tgt := 194) hx hb rfl dX10_wordHere_189 (by decide) (fun c_35 => by exfalso; omega) (fun c_35 => ?_)
                                refine lv_iload_n hx hb dX10_wordHere_192 rfl (lv_at hl 3 rfl) ?_
                                exact hx_reti hx hb hr hlk hW ⟨⟨w_6, fw10_x_11, fw_6, ffw10_x_11, ⟨by omega, by omega, by omega, (by rw [← ek_7]; omega), (by rw [← ek_7]; exact hv_wd_i hwn (by omega) (by omega) (hv_SM_e hwd (by omega) (by omega) hwl vi139_0 (by omega) (by omega))), by omega, by omega, by omega, by omega⟩⟩, hT, hM⟩ dX10_wordHere_193
                              · skip
                                refine lv_aload_n hx hb dX10_wordHere_149 rfl (lv_at hl 4 rfl) ?_
                                refine hk_getr hx hb hts hC_10 hown hW (gx.S hM) tt_10 19 (by decide) rfl kw_1162 ⟨rfl, rfl, rfl⟩ ((hM.o gx trivial rfl).2.trans f_x_19) dX10_wordHere_150 ?_
                                refine lv_bipush (v := 7) hx hb dX10_wordHere_153 (by decide) ?_
                                refine lv_iload_n hx hb dX10_wordHere_155 rfl (lv_at hl 3 rfl) ?_
                                refine lv_imul hx hb dX10_wordHere_156 ?_
                                refine lv_topi (fun x_36 ex_36 => ?_)
                                have zx_36 : x_36.toInt = 7 * iv79_1.toInt := by rw [ex_36]; exact i32_mul (by decide) rfl rfl (by omega) (by omega)
                                refine lv_iload hx hb dX10_wordHere_157 (lv_at hl 0 rfl) ?_
                                refine lv_iadd hx hb dX10_wordHere_159 ?_
                                have rg_37 := i32_r x_36
                                have rg_38 := i32_r iv139_4
                                refine lv_topi (fun x_39 ex_39 => ?_)
                                have zx_39 : x_39.toInt = x_36.toInt + iv139_4.toInt := by rw [ex_39]; exact i32_add rfl rfl (by omega) (by omega)
                                refine hx_bald hx hb hW hT (gqw.S hM) tt_57 rfl ⟨by omega, by omega⟩ dX10_wordHere_160 (fun x_40 ex_40 lx_40 ux_40 => ?_)
                                have ax_40 : x_40 = wf x_39.toNatClampNeg := ex_40.trans (congrFun (hx_afS hM gqw rfl af_qw) _)
                                refine lv_aload_n hx hb dX10_wordHere_161 rfl (lv_at hl 4 rfl) ?_
                                refine hk_getr hx hb hts hC_10 hown hW (gx.S hM) tt_10 6 (by decide) rfl kw_1149 ⟨rfl, rfl, rfl⟩ ((hM.o gx trivial rfl).2.trans f_x_6) dX10_wordHere_162 ?_
                                refine lv_aload_n hx hb dX10_wordHere_165 rfl (lv_at hl 4 rfl) ?_
                                refine hk_geti hx hb hts hC_10 hown hW (gx.S hM) tt_10 8 (by decide) rfl kw_1151 ⟨rfl, rfl, rfl⟩ fw_6 dX10_wordHere_166 ?_
                                refine lv_iload hx hb dX10_wordHere_169 (lv_at hl 0 rfl) ?_
                                refine lv_iadd hx hb dX10_wordHere_171 ?_
                                have rg_41 := i32_r w_6
                                refine lv_topi (fun x_42 ex_42 => ?_)
                                have zx_42 : x_42.toInt = w_6.toInt + iv139_4.toInt := by rw [ex_42]; exact i32_add rfl rfl (by omega) (by omega)
                                refine hx_bald hx hb hW hT (gqt.S hM) tt_53 rfl ⟨by omega, by omega⟩ dX10_wordHere_172 (fun x_43 ex_43 lx_43 ux_43 => ?_)
                                have ax_43 : x_43 = tf x_42.toNatClampNeg := ex_43.trans (congrFun (hx_afS hM gqt rfl af_qt) _)
                                refine hb_icmp_ne (zx := x_40.toInt) (zy := x_43.toInt) (tgt := 180) hx hb rfl rfl dX10_wordHere_173 (by decide) (fun c_44 => ?_) (fun c_44 => ?_)
                                · skip
                                  refine lv_iconst (v := 0) hx hb dX10_wordHere_180 (by decide) ?_
                                  refine lv_istore_n (lv' := [(3, .int (0 : Int32)), (4, .int iv139_4), (2, .int iv96_2), (1, .int iv79_1), (0, .ref x)]) hx hb dX10_wordHere_181 rfl hl (by decide) rfl (fun ls hl => ?_)
                                  obtain ⟨x_45, ex_45⟩ : ∃ y : Int32, y = iv139_4 + Int32.ofInt 1 := ⟨_, rfl⟩
                                  have zx_45 : x_45.toInt = iv139_4.toInt + (1) := by rw [ex_45]; exact i32_add rfl (by decide) (by omega) (by omega)
                                  refine lv_iinc (v := x_45) (lv' := [(4, .int x_45), (3, .int (0 : Int32)), (2, .int iv96_2), (1, .int iv79_1), (0, .ref x)]) hx hb dX10_wordHere_182 hl (k := 1) rfl ex_45.symm (by decide) rfl (fun ls hl => ?_)
                                  refine lv_goto (tgt := 139) hx hb dX10_wordHere_185 (by decide) ?_
                                  have zk_0 : (0 : Int32).toInt = 0 := by decide
                                  exact ih139 (0 : Int32) x_45 _ _ hL1 hl1 (by decide) (by decide) (by omega) (by omega) (hv_SM_x hwd (by omega) (by omega) hwl (by have h9 := vi139_0; rw [show iv139_3.toInt = 1 by omega] at h9; exact h9) (by omega) (by omega) (by rw [show 7 * iv79_1.toInt.toNat + iv139_4.toInt.toNat = x_39.toNatClampNeg by unfold Int32.toNatClampNeg; omega, show w_6.toInt.toNat + iv139_4.toInt.toNat = x_42.toNatClampNeg by unfold Int32.toNatClampNeg; omega, ← ax_40, ← ax_43]; omega) (by decide)) ls (by omega) hW hT hM fw_6 ffw10_x_11  (lv_sub hl [0, 1, 2, 3, 4] rfl)
                                · skip
                                  refine lv_iconst (v := 1) hx hb dX10_wordHere_176 (by decide) ?_
                                  refine lv_goto (tgt := 181) hx hb dX10_wordHere_177 (by decide) ?_
                                  refine lv_istore_n (lv' := [(3, .int (1 : Int32)), (4, .int iv139_4), (2, .int iv96_2), (1, .int iv79_1), (0, .ref x)]) hx hb dX10_wordHere_181 rfl hl (by decide) rfl (fun ls hl => ?_)
                                  obtain ⟨x_46, ex_46⟩ : ∃ y : Int32, y = iv139_4 + Int32.ofInt 1 := ⟨_, rfl⟩
                                  have zx_46 : x_46.toInt = iv139_4.toInt + (1) := by rw [ex_46]; exact i32_add rfl (by decide) (by omega) (by omega)
                                  refine lv_iinc (v := x_46) (lv' := [(4, .int x_46), (3, .int (1 : Int32)), (2, .int iv96_2), (1, .int iv79_1), (0, .ref x)]) hx hb dX10_wordHere_182 hl (k := 1) rfl ex_46.symm (by decide) rfl (fun ls hl => ?_)
                                  refine lv_goto (tgt := 139) hx hb dX10_wordHere_185 (by decide) ?_
                                  have zk_1 : (1 : Int32).toInt = 1 := by decide
                                  exact ih139 (1 : Int32) x_46 _ _ hL1 hl1 (by decide) (by decide) (by omega) (by omega) (hv_SM_s (by have h9 := vi139_0; rw [show iv139_3.toInt = 1 by omega] at h9; exact h9) (by omega) (by rw [show 7 * iv79_1.toInt.toNat + iv139_4.toInt.toNat = x_39.toNatClampNeg by unfold Int32.toNatClampNeg; omega, show w_6.toInt.toNat + iv139_4.toInt.toNat = x_42.toNatClampNeg by unfold Int32.toNatClampNeg; omega, ← ax_40, ← ax_43]; omega) zx_46 (by decide)) ls (by omega) hW hT hM fw_6 ffw10_x_11  (lv_sub hl [0, 1, 2, 3, 4] rfl)
                        have zk_1 : (1 : Int32).toInt = 1 := by decide
                        have zk_0 : (0 : Int32).toInt = 0 := by decide
                        exact loop139 8 (1 : Int32) (0 : Int32) _ _ hL1 hl1 (by decide) (by decide) (by decide) (by decide) (hv_SM_y (by omega) (by decide) (by decide)) ls (by omega) hW hT hM fw_6 ffw10_x_11  hl
                    refine lv_bipush (v := 7) hx hb dX10_wordHere_97 (by decide) ?_
                    refine hb_icmp_ge (zx := iv96_2.toInt) (zy := 7) (tgt := 122) hx hb rfl (by decide) dX10_wordHere_99 (by decide) (fun c_47 => ?_) (fun c_47 => ?_)
                    · skip
                      exact join122  _ _ hL1 hl1  (hv_wln hwd (by omega) (by omega) (by omega) (by omega) vi96_0 (Or.inl (by omega))) ls hW hT hM fw_6 ffw10_x_11  (lv_sub hl [0, 1, 2] rfl)
                    · skip
                      refine lv_aload_n hx hb dX10_wordHere_102 rfl (lv_at hl 2 rfl) ?_
                      refine hk_getr hx hb hts hC_10 hown hW (gx.S hM) tt_10 19 (by decide) rfl kw_1162 ⟨rfl, rfl, rfl⟩ ((hM.o gx trivial rfl).2.trans f_x_19) dX10_wordHere_103 ?_
                      refine lv_bipush (v := 7) hx hb dX10_wordHere_106 (by decide) ?_
                      refine lv_iload_n hx hb dX10_wordHere_108 rfl (lv_at hl 1 rfl) ?_
                      refine lv_imul hx hb dX10_wordHere_109 ?_
                      refine lv_topi (fun x_48 ex_48 => ?_)
                      have zx_48 : x_48.toInt = 7 * iv79_1.toInt := by rw [ex_48]; exact i32_mul (by decide) rfl rfl (by omega) (by omega)
                      refine lv_iload_n hx hb dX10_wordHere_110 rfl (lv_at hl 0 rfl) ?_
                      refine lv_iadd hx hb dX10_wordHere_111 ?_
                      have rg_49 := i32_r x_48
                      have rg_50 := i32_r iv96_2
                      refine lv_topi (fun x_51 ex_51 => ?_)
                      have zx_51 : x_51.toInt = x_48.toInt + iv96_2.toInt := by rw [ex_51]; exact i32_add rfl rfl (by omega) (by omega)
                      refine hx_bald hx hb hW hT (gqw.S hM) tt_57 rfl ⟨by omega, by omega⟩ dX10_wordHere_112 (fun x_52 ex_52 lx_52 ux_52 => ?_)
                      have ax_52 : x_52 = wf x_51.toNatClampNeg := ex_52.trans (congrFun (hx_afS hM gqw rfl af_qw) _)
                      refine hb_if_eq (zx := x_52.toInt) (tgt := 122) hx hb rfl dX10_wordHere_113 (by decide) (fun c_53 => ?_) (fun c_53 => ?_)
                      · skip
                        exact join122  _ _ hL1 hl1  (hv_wln hwd (by omega) (by omega) (by omega) (by omega) vi96_0 (Or.inr (hx_wz (by omega) ax_52 (by omega) (by omega) (by omega)))) ls hW hT hM fw_6 ffw10_x_11  (lv_sub hl [0, 1, 2] rfl)
                      · skip
                        obtain ⟨x_54, ex_54⟩ : ∃ y : Int32, y = iv96_2 + Int32.ofInt 1 := ⟨_, rfl⟩
                        have zx_54 : x_54.toInt = iv96_2.toInt + (1) := by rw [ex_54]; exact i32_add rfl (by decide) (by omega) (by omega)
                        refine lv_iinc (v := x_54) (lv' := [(2, .int x_54), (1, .int iv79_1), (0, .ref x)]) hx hb dX10_wordHere_116 hl (k := 0) rfl ex_54.symm (by decide) rfl (fun ls hl => ?_)
                        refine lv_goto (tgt := 96) hx hb dX10_wordHere_119 (by decide) ?_
                        exact ih96 x_54 _ _ hL1 hl1 (by omega) (by omega) (hx_wp_s vi96_0 (by omega) ax_52 (by omega) (by omega) zx_54) ls (by omega) hW hT hM fw_6 ffw10_x_11  (lv_sub hl [0, 1, 2] rfl)
                have zk_0 : (0 : Int32).toInt = 0 := by decide
                exact loop96 8 (0 : Int32) _ _ hL1 hl1 (by decide) (by decide) hx_wp0 ls (by omega) hW hT hM fw_6 ffw10_x_11  hl
        have zk_0 : (0 : Int32).toInt = 0 := by decide
        exact loop79 26 (0 : Int32) _ _ hL1 hl1 (by decide) (by decide) (fun k hk => by exfalso; omega) ls (by omega) hW hT hM fw_6 ffw10_x_11  hl
      refine hk_geti hx hb hts hC_10 hown hW (gx.S hM) tt_10 8 (by decide) rfl kw_1151 ⟨rfl, rfl, rfl⟩ fw_6 dX10_wordHere_11 ?_
      refine lv_aload_n hx hb dX10_wordHere_14 rfl (lv_at hl 0 rfl) ?_
      refine hk_geti hx hb hts hC_10 hown hW (gx.S hM) tt_10 11 (by decide) rfl kw_1154 ⟨rfl, rfl, rfl⟩ ffw10_x_11 dX10_wordHere_15 ?_
      refine lv_iadd hx hb dX10_wordHere_18 ?_
      have rg_55 := i32_r w_6
      have rg_56 := i32_r fw10_x_11
      refine lv_topi (fun x_57 ex_57 => ?_)
      have zx_57 : x_57.toInt = w_6.toInt + fw10_x_11.toInt := by rw [ex_57]; exact i32_add rfl rfl (by omega) (by omega)
      refine lv_aload_n hx hb dX10_wordHere_19 rfl (lv_at hl 0 rfl) ?_
      refine hk_geti hx hb hts hC_10 hown hW (gx.S hM) tt_10 7 (by decide) rfl kw_1150 ⟨rfl, rfl, rfl⟩ ((hM.o gx trivial rfl).1.trans f_x_7) dX10_wordHere_20 ?_
      refine hb_icmp_ge (zx := x_57.toInt) (zy := tp0.toInt) (tgt := 77) hx hb rfl rfl dX10_wordHere_23 (by decide) (fun c_58 => ?_) (fun c_58 => ?_)
      · skip
        exact join77  _ _ hL1 hl1  (by rw [vi10_0]; exact hv_sn_y (i := x_57) (by omega) (by omega) (fun z9 => by exfalso; omega)) ls hW hT hM fw_6 ffw10_x_11  (lv_sub hl [0] rfl)
      · skip
        refine lv_aload_n hx hb dX10_wordHere_26 rfl (lv_at hl 0 rfl) ?_
        refine hk_getr hx hb hts hC_10 hown hW (gx.S hM) tt_10 6 (by decide) rfl kw_1149 ⟨rfl, rfl, rfl⟩ ((hM.o gx trivial rfl).2.trans f_x_6) dX10_wordHere_27 ?_
        refine lv_aload_n hx hb dX10_wordHere_30 rfl (lv_at hl 0 rfl) ?_
        refine hk_geti hx hb hts hC_10 hown hW (gx.S hM) tt_10 8 (by decide) rfl kw_1151 ⟨rfl, rfl, rfl⟩ fw_6 dX10_wordHere_31 ?_
        refine lv_aload_n hx hb dX10_wordHere_34 rfl (lv_at hl 0 rfl) ?_
        refine hk_geti hx hb hts hC_10 hown hW (gx.S hM) tt_10 11 (by decide) rfl kw_1154 ⟨rfl, rfl, rfl⟩ ffw10_x_11 dX10_wordHere_35 ?_
        refine lv_iadd hx hb dX10_wordHere_38 ?_
        refine lv_topi (fun x_59 ex_59 => ?_)
        have zx_59 : x_59.toInt = w_6.toInt + fw10_x_11.toInt := by rw [ex_59]; exact i32_add rfl rfl (by omega) (by omega)
        obtain rfl : x_57 = x_59 := ex_57.trans ex_59.symm
        refine hx_bald hx hb hW hT (gqt.S hM) tt_53 rfl ⟨by omega, by omega⟩ dX10_wordHere_39 (fun x_60 ex_60 lx_60 ux_60 => ?_)
        have ax_60 : x_60 = tf x_57.toNatClampNeg := ex_60.trans (congrFun (hx_afS hM gqt rfl af_qt) _)
        refine lv_bipush (v := 97) hx hb dX10_wordHere_40 (by decide) ?_
        refine hb_icmp_lt (zx := x_60.toInt) (zy := 97) (tgt := 77) hx hb rfl (by decide) dX10_wordHere_42 (by decide) (fun c_61 => ?_) (fun c_61 => ?_)
        · skip
          exact join77  _ _ hL1 hl1  (by rw [vi10_0]; exact hv_sn_y (i := x_57) (by omega) (by omega) (fun z9 => hv_lt_f ax_60 (by omega))) ls hW hT hM fw_6 ffw10_x_11  (lv_sub hl [0] rfl)
        · skip
          refine lv_aload_n hx hb dX10_wordHere_45 rfl (lv_at hl 0 rfl) ?_
          refine hk_getr hx hb hts hC_10 hown hW (gx.S hM) tt_10 6 (by decide) rfl kw_1149 ⟨rfl, rfl, rfl⟩ ((hM.o gx trivial rfl).2.trans f_x_6) dX10_wordHere_46 ?_
          refine lv_aload_n hx hb dX10_wordHere_49 rfl (lv_at hl 0 rfl) ?_
          refine hk_geti hx hb hts hC_10 hown hW (gx.S hM) tt_10 8 (by decide) rfl kw_1151 ⟨rfl, rfl, rfl⟩ fw_6 dX10_wordHere_50 ?_
          refine lv_aload_n hx hb dX10_wordHere_53 rfl (lv_at hl 0 rfl) ?_
          refine hk_geti hx hb hts hC_10 hown hW (gx.S hM) tt_10 11 (by decide) rfl kw_1154 ⟨rfl, rfl, rfl⟩ ffw10_x_11 dX10_wordHere_54 ?_
          refine lv_iadd hx hb dX10_wordHere_57 ?_
          refine lv_topi (fun x_62 ex_62 => ?_)
          have zx_62 : x_62.toInt = w_6.toInt + fw10_x_11.toInt := by rw [ex_62]; exact i32_add rfl rfl (by omega) (by omega)
          obtain rfl : x_57 = x_62 := ex_57.trans ex_62.symm
          refine hx_bald hx hb hW hT (gqt.S hM) tt_53 rfl ⟨by omega, by omega⟩ dX10_wordHere_58 (fun x_63 ex_63 lx_63 ux_63 => ?_)
          have ax_63 : x_63 = tf x_57.toNatClampNeg := ex_63.trans (congrFun (hx_afS hM gqt rfl af_qt) _)
          obtain rfl : x_60 = x_63 := ex_60.trans ex_63.symm
          refine lv_bipush (v := 122) hx hb dX10_wordHere_59 (by decide) ?_
          refine hb_icmp_gt (zx := x_60.toInt) (zy := 122) (tgt := 77) hx hb rfl (by decide) dX10_wordHere_61 (by decide) (fun c_64 => ?_) (fun c_64 => ?_)
          · skip
            exact join77  _ _ hL1 hl1  (by rw [vi10_0]; exact hv_sn_y (i := x_57) (by omega) (by omega) (fun z9 => hv_lt_f ax_60 (by omega))) ls hW hT hM fw_6 ffw10_x_11  (lv_sub hl [0] rfl)
          · skip
            refine lv_aload_n hx hb dX10_wordHere_64 rfl (lv_at hl 0 rfl) ?_
            refine lv_dup hx hb dX10_wordHere_65 rfl ?_
            refine hk_geti hx hb hts hC_10 hown hW (gx.S hM) tt_10 11 (by decide) rfl kw_1154 ⟨rfl, rfl, rfl⟩ ffw10_x_11 dX10_wordHere_66 ?_
            refine lv_iconst (v := 1) hx hb dX10_wordHere_69 (by decide) ?_
            refine lv_iadd hx hb dX10_wordHere_70 ?_
            refine lv_topi (fun x_65 ex_65 => ?_)
            have zx_65 : x_65.toInt = fw10_x_11.toInt + 1 := by rw [ex_65]; exact i32_add rfl (by decide) (by omega) (by omega)
            refine hx_puti hx hb hts hC_10 hown hW hT (hx_S.rf (M := [(10, 11)])) (gx.S hM) tt_10 11 (by decide) rfl kw_1154 ⟨rfl, rfl, rfl⟩ rfl (x := x_65) ⟨by omega, by omega⟩ rfl rfl rfl (List.mem_singleton.mpr rfl) dX10_wordHere_71 (fun H locs h_66 eh_66 hW hT hs => ?_)
            replace fw_6 := (hs.o (gx.S hM) trivial rfl).1.trans fw_6
            replace ex_60 := ex_60.trans (hs.a (gqt.S hM) rfl _).1.symm
            replace hM := hM.tr (hs.mono (by decide))
            have f_67 : h_66.2.1 x 11 = x_65 := by rw [eh_66]; exact hx_pi_at _ _ _ _
            refine lv_goto (tgt := 10) hx hb dX10_wordHere_74 (by decide) ?_
            exact ih10 x_65 _ _ hL1 h_66 (by omega) (by omega) (vi10_0.trans (hv_sn_z (i := x_57) (by omega) (by omega) (hv_lt_t ax_60 (by omega) (by omega)) (by omega) (by omega))) (by omega) ls (by omega) hW hT hM f_67 fw_6  (lv_sub hl [0] rfl)
  have zk_0 : (0 : Int32).toInt = 0 := by decide
  exact loop10 401 (0 : Int32) _ _ L_1 h_8 (by decide) (by decide) (by rw [zk_0]; congr 1; omega) (by omega) ls (by omega) hW hT hM f_9 fw_6  hl


set_option maxHeartbeats 4000000 in
set_option maxRecDepth 100000 in
theorem t_X10_fails_v (l : Launch) (dC : Nat → ClassId) (dI : Nat → Nat → Nat) (dA : Nat → ClassId) (L : List Nat) (h : hx_h) (sz : Nat) (x : Nat) (i1 : Int32) (i2 : Int32) (hT : hx_T T_tb L h) (gx : hx_g L h x 10) (ft0 : Int32) (f_x_9 : h.2.1 x 9 = ft0) (hF : ft0.toInt = 0) (hi1 : 0 ≤ i1.toInt ∧ i1.toInt ≤ 4) (hi2 : 0 ≤ i2.toInt ∧ i2.toInt ≤ 402) : Met l yX10_fails (Cond.code yX10_fails cX10_fails 3 (some .boolean) :: hx_all) ({ frames := 0, cells := 0, slots := 0, locals := 0 }) (va_Pc [.ref x, .int i1, .int i2] (hx_B T_tb (P_ty dA) (dC, dI) vwCl L h sz)) (va_Qi (fun (r : Int32) (u : List Nat × hx_h) => (∃ (ft1 : Int32), u.2.2.1 x 9 = ft1 ∧ (r.toInt = 0 ∧ ft1.toInt = 1 + 8 * i2.toInt + i1.toInt)) ∧ hx_T T_tb u.1 u.2 ∧ hx_S T_tb [(10, 9)] L h u.1 u.2) (hx_E T_tb (P_ty dA) (dC, dI) vwCl (hx_A L sz)) (hx_A L sz)) 0 0 (hx_A L sz) := by
  refine hx_met (lv := [(0, .ref x), (1, .int i1), (2, .int i2)]) (by decide +kernel) rfl (Nat.le_of_ble_eq_true rfl) rfl ?_
  intro p e s m below meth c hx hb hml hr hlk hts0 hown hin hsz hW ls hl
  have hts : ∀ w ∈ hx_all, w.before _ s = true := fun w hw => hts0 w (List.mem_cons_of_mem _ hw)
  have hown : s.vm.findClass "SmallCourtModel" = some m.cls := hown
  have hM : hx_S T_tb [(10, 9)] L h L h := hx_S.rf
  have b_ft0 := hT.gi gx tt_10 (k := 9) rfl
  rw [f_x_9] at b_ft0
  have b_ft0 : -2147483648 ≤ ft0.toInt ∧ ft0.toInt ≤ 2147483647 := b_ft0
  refine lv_aload_n hx hb dX10_fails_0 rfl (lv_at hl 0 rfl) ?_
  refine hk_geti hx hb hts hC_10 hown hW (gx.S hM) tt_10 9 (by decide) rfl kw_1152 ⟨rfl, rfl, rfl⟩ f_x_9 dX10_fails_1 ?_
  refine hb_if_ne (zx := ft0.toInt) (tgt := 19) hx hb rfl dX10_fails_4 (by decide) (fun c_1 => by exfalso; omega) (fun c_1 => ?_)
  refine lv_aload_n hx hb dX10_fails_7 rfl (lv_at hl 0 rfl) ?_
  refine lv_iconst (v := 1) hx hb dX10_fails_8 (by decide) ?_
  refine lv_bipush (v := 8) hx hb dX10_fails_9 (by decide) ?_
  refine lv_iload_n hx hb dX10_fails_11 rfl (lv_at hl 2 rfl) ?_
  refine lv_imul hx hb dX10_fails_12 ?_
  refine lv_topi (fun x_2 ex_2 => ?_)
  have zx_2 : x_2.toInt = 8 * i2.toInt := by rw [ex_2]; exact i32_mul (by decide) rfl rfl (by omega) (by omega)
  refine lv_iadd hx hb dX10_fails_13 ?_
  have rg_3 := i32_r x_2
  refine lv_topi (fun x_4 ex_4 => ?_)
  have zx_4 : x_4.toInt = 1 + x_2.toInt := by rw [ex_4]; exact i32_add (by decide) rfl (by omega) (by omega)
  refine lv_iload_n hx hb dX10_fails_14 rfl (lv_at hl 1 rfl) ?_
  refine lv_iadd hx hb dX10_fails_15 ?_
  have rg_5 := i32_r x_4
  have rg_6 := i32_r i1
  refine lv_topi (fun x_7 ex_7 => ?_)
  have zx_7 : x_7.toInt = x_4.toInt + i1.toInt := by rw [ex_7]; exact i32_add rfl rfl (by omega) (by omega)
  refine hx_puti hx hb hts hC_10 hown hW hT (hx_S.rf (M := [(10, 9)])) (gx.S hM) tt_10 9 (by decide) rfl kw_1152 ⟨rfl, rfl, rfl⟩ rfl (x := x_7) (i32_r _) rfl rfl rfl (List.mem_singleton.mpr rfl) dX10_fails_16 (fun H locs h_8 eh_8 hW hT hs => ?_)
  replace hM := hM.tr (hs.mono (by decide))
  have f_9 : h_8.2.1 x 9 = x_7 := by rw [eh_8]; exact hx_pi_at _ _ _ _
  refine lv_iconst (v := 0) hx hb dX10_fails_19 (by decide) ?_
  exact hx_retz hx hb hr rfl hlk hW ⟨⟨x_7, f_9, ⟨by decide, by omega⟩⟩, hT, hM⟩ dX10_fails_20


set_option maxHeartbeats 4000000 in
set_option maxRecDepth 100000 in
theorem t_X10_number_v (l : Launch) (dC : Nat → ClassId) (dI : Nat → Nat → Nat) (dA : Nat → ClassId) (L : List Nat) (h : hx_h) (sz : Nat) (x : Nat) (i1 : Int32) (i2 : Int32) (hT : hx_T T_tb L h) (gx : hx_g L h x 10) (qt : Nat) (gqt : hx_g L h qt 53) (f_x_6 : h.2.2 x 6 = some qt) (tf : Nat → Int32) (af_qt : h.2.1 qt = tf) (nx0 : Int32) (f_x_8 : h.2.1 x 8 = nx0) (tp0 : Int32) (f_x_7 : h.2.1 x 7 = tp0) (ft0 : Int32) (f_x_9 : h.2.1 x 9 = ft0) (hF : ft0.toInt = 0) (hA : nx0.toInt ≤ tp0.toInt) (hi1 : 0 ≤ i1.toInt) : Met l yX10_number (Cond.code yX10_number cX10_number 7 (some .boolean) :: hx_all) ({ frames := 1, cells := 0, slots := 0, locals := 22 }) (va_Pc [.ref x, .int i1, .int i2] (hx_B T_tb (P_ty dA) (dC, dI) vwCl L h sz)) (va_Qi (fun (r : Int32) (u : List Nat × hx_h) => (∃ (nx1 : Int32) (sd1 : Int32) (ft1 : Int32), u.2.2.1 x 8 = nx1 ∧ u.2.2.1 x 10 = sd1 ∧ u.2.2.1 x 9 = ft1 ∧ (hv_M (hv_num tf tp0.toInt.toNat nx0.toInt.toNat i1.toInt i2.toInt) r.toInt ft1.toInt nx1.toInt sd1.toInt ∧ (r.toInt = 1 → nx0.toInt < nx1.toInt ∧ nx1.toInt ≤ tp0.toInt ∧ i1.toInt ≤ sd1.toInt ∧ sd1.toInt ≤ i2.toInt) ∧ nx0.toInt ≤ nx1.toInt)) ∧ hx_T T_tb u.1 u.2 ∧ hx_S T_tb [(10, 8), (10, 9), (10, 10)] L h u.1 u.2) (hx_E T_tb (P_ty dA) (dC, dI) vwCl (hx_A L sz)) (hx_A L sz)) 0 0 (hx_A L sz) := by
  refine hx_met (lv := [(0, .ref x), (1, .int i1), (2, .int i2)]) (by decide +kernel) rfl (Nat.le_of_ble_eq_true rfl) rfl ?_
  intro p e s m below meth c hx hb hml hr hlk hts0 hown hin hsz hW ls hl
  have hts : ∀ w ∈ hx_all, w.before _ s = true := fun w hw => hts0 w (List.mem_cons_of_mem _ hw)
  have hown : s.vm.findClass "SmallCourtModel" = some m.cls := hown
  have hM : hx_S T_tb [(10, 8), (10, 9), (10, 10)] L h L h := hx_S.rf
  have b_nx0 := hT.gi gx tt_10 (k := 8) rfl
  rw [f_x_8] at b_nx0
  have b_nx0 : 0 ≤ nx0.toInt ∧ nx0.toInt ≤ 402 := b_nx0
  have b_tp0 := hT.gi gx tt_10 (k := 7) rfl
  rw [f_x_7] at b_tp0
  have b_tp0 : 0 ≤ tp0.toInt ∧ tp0.toInt ≤ 400 := b_tp0
  have b_ft0 := hT.gi gx tt_10 (k := 9) rfl
  rw [f_x_9] at b_ft0
  have b_ft0 : -2147483648 ≤ ft0.toInt ∧ ft0.toInt ≤ 2147483647 := b_ft0
  refine lv_aload_n hx hb dX10_number_0 rfl (lv_at hl 0 rfl) ?_
  refine hx_goi (hx_runV (As := []) (rest := []) ⟨hx, hb, hml, hown, hts⟩ hW (gx.S hM) tt_10 (T := TX10) (N := 98) rfl (t_X10_see_v l dC dI dA L h s.heap.size x hT (gx.S hM) qt (gqt.S hM) ((hM.o gx trivial rfl).2.trans f_x_6) tf (hx_afS hM gqt rfl af_qt) nx0 f_x_8 tp0 ((hM.o gx trivial rfl).1.trans f_x_7) (by omega)) (cwV 0 hts (hx_gV kw_1468 kw_1465 kw_1467 kw_53 kw_103) rfl rfl rfl (by decide +kernel) ⟨Nat.le_of_ble_eq_true rfl, Nat.le_of_ble_eq_true rfl⟩) rfl hl.1 rfl (Nat.le_of_ble_eq_true rfl) dX10_number_1 ⟨Nat.le_of_ble_eq_true rfl, Nat.le_of_ble_eq_true rfl⟩) hW (fun r_3 L_1 h_2 H locs p_4 hW => ?_)
  obtain ⟨⟨w_6, fw_6, hr_5⟩, hT, hs⟩ := p_4
  replace hT : hx_T T_tb L_1 h_2 := hT
  replace hs : hx_S T_tb [(10, 8)] L h L_1 h_2 := hs
  replace f_x_9 := (hs.o (gx.S hM) trivial rfl).1.trans f_x_9
  replace hM := hM.tr (hs.mono (by decide))
  have fw_6 : h_2.2.1 x 8 = w_6 := fw_6
  have bw_6 := hT.gi (gx.S hM) tt_10 (k := 8) rfl
  rw [fw_6] at bw_6
  have bw_6 : 0 ≤ w_6.toInt ∧ w_6.toInt ≤ 402 := bw_6
  have ek_7 : w_6.toInt.toNat = hv_sk tf tp0.toInt.toNat nx0.toInt.toNat := by omega
  have hr_5S := hr_5.2.2.2.1
  refine lv_istore_n (lv' := [(3, .int r_3), (0, .ref x), (1, .int i1), (2, .int i2)]) hx hb dX10_number_4 rfl hl (by decide) rfl (fun ls hl => ?_)
  refine lv_iload_n hx hb dX10_number_5 rfl (lv_at hl 0 rfl) ?_
  refine lv_bipush (v := 48) hx hb dX10_number_6 (by decide) ?_
  refine hb_icmp_lt (zx := r_3.toInt) (zy := 48) (tgt := 17) hx hb rfl (by decide) dX10_number_8 (by decide) (fun c_8 => ?_) (fun c_8 => ?_)
  · skip
    refine lv_aload_n hx hb dX10_number_17 rfl (lv_at hl 1 rfl) ?_
    refine lv_iconst (v := 0) hx hb dX10_number_18 (by decide) ?_
    refine lv_aload_n hx hb dX10_number_19 rfl (lv_at hl 1 rfl) ?_
    refine hk_geti hx hb hts hC_10 hown hW (gx.S hM) tt_10 8 (by decide) rfl kw_1151 ⟨rfl, rfl, rfl⟩ fw_6 dX10_number_20 ?_
    have zc_0 : (0 : Int32).toInt = 0 := by decide
    refine hx_goi (hx_runV (As := [.int (0 : Int32), .int w_6]) (rest := []) ⟨hx, hb, hml, hown, hts⟩ hW (gx.S hM) tt_10 (T := TX10) (N := 98) rfl (t_X10_fails_v l dC dI dA L_1 h_2 H.size x (0 : Int32) w_6 hT (gx.S hM) ft0 f_x_9 (by omega) (by decide) ⟨by omega, by omega⟩) (cwV 2 hts (hx_gV kw_1480 kw_1477 kw_1479 kw_56 kw_103) rfl rfl rfl (by decide +kernel) ⟨Nat.le_of_ble_eq_true rfl, Nat.le_of_ble_eq_true rfl⟩) rfl hl.1 rfl (Nat.le_of_ble_eq_true rfl) dX10_number_23 ⟨Nat.le_of_ble_eq_true rfl, Nat.le_of_ble_eq_true rfl⟩) hW (fun r_11 L_9 h_10 H locs p_12 hW => ?_)
    obtain ⟨⟨w_14, fw_14, hr_13⟩, hT, hs⟩ := p_12
    replace hT : hx_T T_tb L_9 h_10 := hT
    replace hs : hx_S T_tb [(10, 9)] L_1 h_2 L_9 h_10 := hs
    replace fw_6 := (hs.o (gx.S hM) trivial rfl).1.trans fw_6
    replace hM := hM.tr (hs.mono (by decide))
    have fw_14 : h_10.2.1 x 9 = w_14 := fw_14
    have bw_14 := hT.gi (gx.S hM) tt_10 (k := 9) rfl
    rw [fw_14] at bw_14
    have bw_14 : -2147483648 ≤ w_14.toInt ∧ w_14.toInt ≤ 2147483647 := bw_14
    obtain ⟨fv_15, efv_15⟩ : ∃ y : Int32, y = h_10.2.1 x 10 := ⟨_, rfl⟩
    have bfv_15 := hT.gi (gx.S hM) tt_10 (k := 10) rfl
    rw [← efv_15] at bfv_15
    have bfv_15 : 0 ≤ fv_15.toInt ∧ fv_15.toInt ≤ 9999 := bfv_15
    have ffv_15 := efv_15.symm
    exact hx_retz hx hb hr (hx_nar01 (by omega)) hlk hW ⟨⟨w_6, fv_15, w_14, fw_6, ffv_15, fw_14, ⟨(Or.inr ⟨by omega, by omega, (hv_num_1 (by rw [← ek_7]; have h8 := hv_SE_nd hr_5S (by omega); exact fun z9 => h8 (by omega))).trans (by rw [← ek_7]; congr 1; omega)⟩), (fun z9 => by exfalso; omega), by omega⟩⟩, hT, hM⟩ dX10_number_26
  · skip
    refine lv_iload_n hx hb dX10_number_11 rfl (lv_at hl 0 rfl) ?_
    refine lv_bipush (v := 57) hx hb dX10_number_12 (by decide) ?_
    refine hb_icmp_le (zx := r_3.toInt) (zy := 57) (tgt := 27) hx hb rfl (by decide) dX10_number_14 (by decide) (fun c_16 => ?_) (fun c_16 => ?_)
    · skip
      have hdg := hv_SE_d hr_5S ⟨by omega, by omega⟩
      have hdt := hv_de_gt (T := tf) (n := tp0.toInt.toNat) (p := w_6.toInt.toNat) (by omega) hdg.2
      refine lv_aload_n hx hb dX10_number_27 rfl (lv_at hl 1 rfl) ?_
      refine hk_geti hx hb hts hC_10 hown hW (gx.S hM) tt_10 8 (by decide) rfl kw_1151 ⟨rfl, rfl, rfl⟩ fw_6 dX10_number_28 ?_
      refine lv_istore (lv' := [(4, .int w_6), (3, .int r_3), (0, .ref x), (1, .int i1), (2, .int i2)]) hx hb dX10_number_31 hl (by decide) rfl (fun ls hl => ?_)
      refine lv_iconst (v := 0) hx hb dX10_number_33 (by decide) ?_
      refine lv_istore (lv' := [(5, .int (0 : Int32)), (4, .int w_6), (3, .int r_3), (0, .ref x), (1, .int i1), (2, .int i2)]) hx hb dX10_number_34 hl (by decide) rfl (fun ls hl => ?_)
      refine lv_iconst (v := 0) hx hb dX10_number_36 (by decide) ?_
      refine lv_istore (lv' := [(6, .int (0 : Int32)), (5, .int (0 : Int32)), (4, .int w_6), (3, .int r_3), (0, .ref x), (1, .int i1), (2, .int i2)]) hx hb dX10_number_37 hl (by decide) rfl (fun ls hl => ?_)
      have loop39 : ∀ (n39 : Nat) (iv39_5 iv39_6 fw39_x_8 : Int32) (H : Heap) (locs : List Loc) (hL1 : List Nat) (hl1 : hx_h), 0 ≤ iv39_5.toInt → iv39_5.toInt ≤ 400 → 0 ≤ iv39_6.toInt → iv39_6.toInt ≤ 9999 → 0 ≤ fw39_x_8.toInt → fw39_x_8.toInt ≤ 402 → (hv_de tf tp0.toInt.toNat (w_6.toInt).toNat = hv_de tf tp0.toInt.toNat (fw39_x_8.toInt).toNat) → (iv39_6.toInt = hv_dv tf (w_6.toInt).toNat (min (iv39_5.toInt).toNat 4)) → (fw39_x_8.toInt = w_6.toInt + iv39_5.toInt) → ((iv39_5.toInt = 0 ∧ iv39_6.toInt = 0) ∨ (iv39_5.toInt = 1 ∧ iv39_6.toInt ≤ 9) ∨ (iv39_5.toInt = 2 ∧ iv39_6.toInt ≤ 99) ∨ (iv39_5.toInt = 3 ∧ iv39_6.toInt ≤ 999) ∨ 4 ≤ iv39_5.toInt) → (fw39_x_8.toInt ≤ tp0.toInt) → ∀ (ls : Array Slot), 402 - fw39_x_8.toInt < (n39 : Int) → hx_W T_tb (P_ty dA) (dC, dI) vwCl (hx_A L sz) s.heap hL1 hl1 s H locs → hx_T T_tb hL1 hl1 → hx_S T_tb [(10, 8), (10, 9), (10, 10)] L h hL1 hl1 → hl1.2.1 x 8 = fw39_x_8 → hl1.2.1 x 9 = ft0 → lv_has ls 7 [(6, .int iv39_6), (5, .int iv39_5), (4, .int w_6), (3, .int r_3), (0, .ref x), (1, .int i1), (2, .int i2)] → W p l e ({ frames := 1, cells := 0, slots := 0, locals := 22 }) s m ([.ref x, .int i1, .int i2] : List Value).toArray below meth c H locs 0 0 (MQ below (va_Qi (fun (r : Int32) (u : List Nat × hx_h) => (∃ (nx1 : Int32) (sd1 : Int32) (ft1 : Int32), u.2.2.1 x 8 = nx1 ∧ u.2.2.1 x 10 = sd1 ∧ u.2.2.1 x 9 = ft1 ∧ (hv_M (hv_num tf tp0.toInt.toNat nx0.toInt.toNat i1.toInt i2.toInt) r.toInt ft1.toInt nx1.toInt sd1.toInt ∧ (r.toInt = 1 → nx0.toInt < nx1.toInt ∧ nx1.toInt ≤ tp0.toInt ∧ i1.toInt ≤ sd1.toInt ∧ sd1.toInt ≤ i2.toInt) ∧ nx0.toInt ≤ nx1.toInt)) ∧ hx_T T_tb u.1 u.2 ∧ hx_S T_tb [(10, 8), (10, 9), (10, 10)] L h u.1 u.2) (hx_E T_tb (P_ty dA) (dC, dI) vwCl (hx_A L sz)) (hx_A L sz)) ([.ref x, .int i1, .int i2] : List Value).toArray s 0 0 (hx_A L sz)) (F0 m 39 ls []) := by
        intro n39
        induction n39 with
        | zero => intro iv39_5 iv39_6 fw39_x_8 H locs hL1 hl1 bliv39_5 buiv39_5 bliv39_6 buiv39_6 blfw39_x_8 bufw39_x_8 vi39_0 vi39_1 vi39_2 vi39_3 vi39_4 ls hn39; exfalso; omega
        | succ n39 ih39 =>
          intro iv39_5 iv39_6 fw39_x_8 H locs hL1 hl1 bliv39_5 buiv39_5 bliv39_6 buiv39_6 blfw39_x_8 bufw39_x_8 vi39_0 vi39_1 vi39_2 vi39_3 vi39_4 ls hn39 hW hT hM ffw39_x_8 f_x_9  hl
          refine lv_aload_n hx hb dX10_number_39 rfl (lv_at hl 4 rfl) ?_
          have join120 : ∀ (H : Heap) (locs : List Loc) (hL1 : List Nat) (hl1 : hx_h), (((hv_de tf tp0.toInt.toNat (w_6.toInt).toNat : Nat) : Int) = fw39_x_8.toInt) → ∀ (ls : Array Slot), hx_W T_tb (P_ty dA) (dC, dI) vwCl (hx_A L sz) s.heap hL1 hl1 s H locs → hx_T T_tb hL1 hl1 → hx_S T_tb [(10, 8), (10, 9), (10, 10)] L h hL1 hl1 → hl1.2.1 x 9 = ft0 → hl1.2.1 x 8 = fw39_x_8 → lv_has ls 7 [(6, .int iv39_6), (5, .int iv39_5), (4, .int w_6), (3, .int r_3), (0, .ref x), (1, .int i1), (2, .int i2)] → W p l e ({ frames := 1, cells := 0, slots := 0, locals := 22 }) s m ([.ref x, .int i1, .int i2] : List Value).toArray below meth c H locs 0 0 (MQ below (va_Qi (fun (r : Int32) (u : List Nat × hx_h) => (∃ (nx1 : Int32) (sd1 : Int32) (ft1 : Int32), u.2.2.1 x 8 = nx1 ∧ u.2.2.1 x 10 = sd1 ∧ u.2.2.1 x 9 = ft1 ∧ (hv_M (hv_num tf tp0.toInt.toNat nx0.toInt.toNat i1.toInt i2.toInt) r.toInt ft1.toInt nx1.toInt sd1.toInt ∧ (r.toInt = 1 → nx0.toInt < nx1.toInt ∧ nx1.toInt ≤ tp0.toInt ∧ i1.toInt ≤ sd1.toInt ∧ sd1.toInt ≤ i2.toInt) ∧ nx0.toInt ≤ nx1.toInt)) ∧ hx_T T_tb u.1 u.2 ∧ hx_S T_tb [(10, 8), (10, 9), (10, 10)] L h u.1 u.2) (hx_E T_tb (P_ty dA) (dC, dI) vwCl (hx_A L sz)) (hx_A L sz)) ([.ref x, .int i1, .int i2] : List Value).toArray s 0 0 (hx_A L sz)) (F0 m 120 ls []) := by
            intro  H locs hL1 hl1  vj120_0 ls hW hT hM f_x_9 ffw39_x_8  hl
            have hde := vj120_0
            have hvl : iv39_6.toInt = hv_dv tf w_6.toInt.toNat (hv_de tf tp0.toInt.toNat w_6.toInt.toNat - w_6.toInt.toNat) ∨ 4 < iv39_5.toInt := by rcases (show 4 < iv39_5.toInt ∨ iv39_5.toInt ≤ 4 by omega) with z | z; exact Or.inr z; exact Or.inl (vi39_1.trans (by congr 1; omega))
            refine lv_aload_n hx hb dX10_number_120 rfl (lv_at hl 4 rfl) ?_
            refine lv_iload hx hb dX10_number_121 (lv_at hl 0 rfl) ?_
            refine hx_puti hx hb hts hC_10 hown hW hT (hx_S.rf (M := [(10, 10)])) (gx.S hM) tt_10 10 (by decide) rfl kw_1153 ⟨rfl, rfl, rfl⟩ rfl (x := iv39_6) ⟨by omega, by omega⟩ rfl rfl rfl (List.mem_singleton.mpr rfl) dX10_number_123 (fun H locs h_17 eh_17 hW hT hs => ?_)
            replace f_x_9 := (hs.o (gx.S hM) trivial rfl).1.trans f_x_9
            replace ffw39_x_8 := (hs.o (gx.S hM) trivial rfl).1.trans ffw39_x_8
            replace hM := hM.tr (hs.mono (by decide))
            have f_18 : h_17.2.1 x 10 = iv39_6 := by rw [eh_17]; exact hx_pi_at _ _ _ _
            refine lv_iload hx hb dX10_number_126 (lv_at hl 1 rfl) ?_
            refine lv_iconst (v := 4) hx hb dX10_number_128 (by decide) ?_
            refine hb_icmp_gt (zx := iv39_5.toInt) (zy := 4) (tgt := 142) hx hb rfl (by decide) dX10_number_129 (by decide) (fun c_19 => ?_) (fun c_19 => ?_)
            · skip
              refine lv_aload_n hx hb dX10_number_142 rfl (lv_at hl 4 rfl) ?_
              refine lv_iconst (v := 1) hx hb dX10_number_143 (by decide) ?_
              refine lv_iload hx hb dX10_number_144 (lv_at hl 2 rfl) ?_
              have zc_1 : (1 : Int32).toInt = 1 := by decide
              refine hx_goi (hx_runV (As := [.int (1 : Int32), .int w_6]) (rest := []) ⟨hx, hb, hml, hown, hts⟩ hW (gx.S hM) tt_10 (T := TX10) (N := 98) rfl (t_X10_fails_v l dC dI dA hL1 h_17 H.size x (1 : Int32) w_6 hT (gx.S hM) ft0 f_x_9 (by omega) (by decide) ⟨by omega, by omega⟩) (cwV 2 hts (hx_gV kw_1480 kw_1477 kw_1479 kw_56 kw_103) rfl rfl rfl (by decide +kernel) ⟨Nat.le_of_ble_eq_true rfl, Nat.le_of_ble_eq_true rfl⟩) rfl hl.1 rfl (Nat.le_of_ble_eq_true rfl) dX10_number_146 ⟨Nat.le_of_ble_eq_true rfl, Nat.le_of_ble_eq_true rfl⟩) hW (fun r_22 L_20 h_21 H locs p_23 hW => ?_)
              obtain ⟨⟨w_25, fw_25, hr_24⟩, hT, hs⟩ := p_23
              replace hT : hx_T T_tb L_20 h_21 := hT
              replace hs : hx_S T_tb [(10, 9)] hL1 h_17 L_20 h_21 := hs
              replace ffw39_x_8 := (hs.o (gx.S hM) trivial rfl).1.trans ffw39_x_8
              replace f_18 := (hs.o (gx.S hM) trivial rfl).1.trans f_18
              replace hM := hM.tr (hs.mono (by decide))
              have fw_25 : h_21.2.1 x 9 = w_25 := fw_25
              have bw_25 := hT.gi (gx.S hM) tt_10 (k := 9) rfl
              rw [fw_25] at bw_25
              have bw_25 : -2147483648 ≤ w_25.toInt ∧ w_25.toInt ≤ 2147483647 := bw_25
              refine hb_if_eq (zx := r_22.toInt) (tgt := 156) hx hb rfl dX10_number_149 (by decide) (fun c_26 => ?_) (fun c_26 => by exfalso; omega)
              refine lv_iconst (v := 0) hx hb dX10_number_156 (by decide) ?_
              exact hx_retz hx hb hr rfl hlk hW ⟨⟨fw39_x_8, iv39_6, w_25, ffw39_x_8, f_18, fw_25, ⟨(Or.inr ⟨by decide, by omega, (hv_num_2 (by rw [← ek_7]; exact ⟨by omega, hdg.2⟩) (by rw [← ek_7]; omega)).trans (by rw [← ek_7]; congr 1; omega)⟩), (fun z9 => absurd z9 (by decide)), by omega⟩⟩, hT, hM⟩ dX10_number_157
            · skip
              refine lv_iload hx hb dX10_number_132 (lv_at hl 0 rfl) ?_
              refine lv_iload_n hx hb dX10_number_134 rfl (lv_at hl 5 rfl) ?_
              refine lv_iload_n hx hb dX10_number_135 rfl (lv_at hl 6 rfl) ?_
              refine hx_goi (hx_runS (As := [.int iv39_6, .int i1, .int i2]) (rest := []) ⟨hx, hb, hml, hown, hts⟩ hW (t_X10_in l dC dI dA hL1 h_17 H.size iv39_6 i1 i2 hT) (va_cwS 3 hts (hx_gS kw_1445 kw_1443 kw_1444 kw_103) rfl rfl rfl (by decide +kernel) ⟨Nat.le_of_ble_eq_true rfl, Nat.le_of_ble_eq_true rfl⟩) rfl hl.1 rfl (Nat.le_of_ble_eq_true rfl) dX10_number_136 ⟨Nat.le_of_ble_eq_true rfl, Nat.le_of_ble_eq_true rfl⟩) hW (fun r_29 L_27 h_28 H locs p_30 hW => ?_)
              obtain ⟨hr_31, hT, hs⟩ := p_30
              replace hT : hx_T T_tb L_27 h_28 := hT
              replace hs : hx_S T_tb [] hL1 h_17 L_27 h_28 := hs
              replace f_x_9 := (hs.o (gx.S hM) trivial rfl).1.trans f_x_9
              replace ffw39_x_8 := (hs.o (gx.S hM) trivial rfl).1.trans ffw39_x_8
              replace f_18 := (hs.o (gx.S hM) trivial rfl).1.trans f_18
              replace hM := hM.tr (hs.mono (by decide))
              refine hb_if_ne (zx := r_29.toInt) (tgt := 152) hx hb rfl dX10_number_139 (by decide) (fun c_32 => ?_) (fun c_32 => ?_)
              · skip
                replace hr_31 := hr_31.resolve_left (fun z9 => c_32 z9.1)
                replace c_32 := hr_31.1
                replace hr_31 := hr_31.2
                refine lv_iconst (v := 1) hx hb dX10_number_152 (by decide) ?_
                refine lv_goto (tgt := 157) hx hb dX10_number_153 (by decide) ?_
                exact hx_retz hx hb hr rfl hlk hW ⟨⟨fw39_x_8, iv39_6, ft0, ffw39_x_8, f_18, f_x_9, ⟨(Or.inl ⟨by decide, by omega, by omega, (hv_num_3 (by rw [← ek_7]; exact ⟨by omega, hdg.2⟩) (by rw [← ek_7]; omega) (by rw [← ek_7]; omega) (by rw [← ek_7]; omega)).trans (by rw [← ek_7, show hv_dv tf w_6.toInt.toNat (hv_de tf tp0.toInt.toNat w_6.toInt.toNat - w_6.toInt.toNat) = iv39_6.toInt by omega, show hv_de tf tp0.toInt.toNat w_6.toInt.toNat = fw39_x_8.toInt.toNat by omega])⟩), (fun _ => ⟨by omega, by omega, by omega, by omega⟩), by omega⟩⟩, hT, hM⟩ dX10_number_157
              · skip
                replace hr_31 := hr_31.resolve_right (fun z9 => absurd (c_32.symm.trans z9.1) (by decide))
                replace hr_31 := hr_31.2
                refine lv_aload_n hx hb dX10_number_142 rfl (lv_at hl 4 rfl) ?_
                refine lv_iconst (v := 1) hx hb dX10_number_143 (by decide) ?_
                refine lv_iload hx hb dX10_number_144 (lv_at hl 2 rfl) ?_
                have zc_1 : (1 : Int32).toInt = 1 := by decide
                refine hx_goi (hx_runV (As := [.int (1 : Int32), .int w_6]) (rest := []) ⟨hx, hb, hml, hown, hts⟩ hW (gx.S hM) tt_10 (T := TX10) (N := 98) rfl (t_X10_fails_v l dC dI dA L_27 h_28 H.size x (1 : Int32) w_6 hT (gx.S hM) ft0 f_x_9 (by omega) (by decide) ⟨by omega, by omega⟩) (cwV 2 hts (hx_gV kw_1480 kw_1477 kw_1479 kw_56 kw_103) rfl rfl rfl (by decide +kernel) ⟨Nat.le_of_ble_eq_true rfl, Nat.le_of_ble_eq_true rfl⟩) rfl hl.1 rfl (Nat.le_of_ble_eq_true rfl) dX10_number_146 ⟨Nat.le_of_ble_eq_true rfl, Nat.le_of_ble_eq_true rfl⟩) hW (fun r_35 L_33 h_34 H locs p_36 hW => ?_)
                obtain ⟨⟨w_38, fw_38, hr_37⟩, hT, hs⟩ := p_36
                replace hT : hx_T T_tb L_33 h_34 := hT
                replace hs : hx_S T_tb [(10, 9)] L_27 h_28 L_33 h_34 := hs
                replace ffw39_x_8 := (hs.o (gx.S hM) trivial rfl).1.trans ffw39_x_8
                replace f_18 := (hs.o (gx.S hM) trivial rfl).1.trans f_18
                replace hM := hM.tr (hs.mono (by decide))
                have fw_38 : h_34.2.1 x 9 = w_38 := fw_38
                have bw_38 := hT.gi (gx.S hM) tt_10 (k := 9) rfl
                rw [fw_38] at bw_38
                have bw_38 : -2147483648 ≤ w_38.toInt ∧ w_38.toInt ≤ 2147483647 := bw_38
                refine hb_if_eq (zx := r_35.toInt) (tgt := 156) hx hb rfl dX10_number_149 (by decide) (fun c_39 => ?_) (fun c_39 => by exfalso; omega)
                refine lv_iconst (v := 0) hx hb dX10_number_156 (by decide) ?_
                exact hx_retz hx hb hr rfl hlk hW ⟨⟨fw39_x_8, iv39_6, w_38, ffw39_x_8, f_18, fw_38, ⟨(Or.inr ⟨by decide, by omega, (hv_num_2 (by rw [← ek_7]; exact ⟨by omega, hdg.2⟩) (by rw [← ek_7]; omega)).trans (by rw [← ek_7]; congr 1; omega)⟩), (fun z9 => absurd z9 (by decide)), by omega⟩⟩, hT, hM⟩ dX10_number_157
          refine hk_geti hx hb hts hC_10 hown hW (gx.S hM) tt_10 8 (by decide) rfl kw_1151 ⟨rfl, rfl, rfl⟩ ffw39_x_8 dX10_number_40 ?_
          refine lv_aload_n hx hb dX10_number_43 rfl (lv_at hl 4 rfl) ?_
          refine hk_geti hx hb hts hC_10 hown hW (gx.S hM) tt_10 7 (by decide) rfl kw_1150 ⟨rfl, rfl, rfl⟩ ((hM.o gx trivial rfl).1.trans f_x_7) dX10_number_44 ?_
          refine hb_icmp_ge (zx := fw39_x_8.toInt) (zy := tp0.toInt) (tgt := 120) hx hb rfl rfl dX10_number_47 (by decide) (fun c_40 => ?_) (fun c_40 => ?_)
          · skip
            exact join120  _ _ hL1 hl1  (by rw [vi39_0]; exact hv_sn_o (by omega) (fun z9 => by exfalso; omega)) ls hW hT hM f_x_9 ffw39_x_8  (lv_sub hl [0, 1, 2, 3, 4, 5, 6] rfl)
          · skip
            refine lv_aload_n hx hb dX10_number_50 rfl (lv_at hl 4 rfl) ?_
            refine hk_getr hx hb hts hC_10 hown hW (gx.S hM) tt_10 6 (by decide) rfl kw_1149 ⟨rfl, rfl, rfl⟩ ((hM.o gx trivial rfl).2.trans f_x_6) dX10_number_51 ?_
            refine lv_aload_n hx hb dX10_number_54 rfl (lv_at hl 4 rfl) ?_
            refine hk_geti hx hb hts hC_10 hown hW (gx.S hM) tt_10 8 (by decide) rfl kw_1151 ⟨rfl, rfl, rfl⟩ ffw39_x_8 dX10_number_55 ?_
            refine hx_bald hx hb hW hT (gqt.S hM) tt_53 rfl ⟨by omega, by omega⟩ dX10_number_58 (fun x_41 ex_41 lx_41 ux_41 => ?_)
            have ax_41 : x_41 = tf fw39_x_8.toNatClampNeg := ex_41.trans (congrFun (hx_afS hM gqt rfl af_qt) _)
            refine lv_bipush (v := 48) hx hb dX10_number_59 (by decide) ?_
            refine hb_icmp_lt (zx := x_41.toInt) (zy := 48) (tgt := 120) hx hb rfl (by decide) dX10_number_61 (by decide) (fun c_42 => ?_) (fun c_42 => ?_)
            · skip
              exact join120  _ _ hL1 hl1  (by rw [vi39_0]; exact hv_sn_o (by omega) (fun z9 => hv_dg_f ax_41 (by omega))) ls hW hT hM f_x_9 ffw39_x_8  (lv_sub hl [0, 1, 2, 3, 4, 5, 6] rfl)
            · skip
              refine lv_aload_n hx hb dX10_number_64 rfl (lv_at hl 4 rfl) ?_
              refine hk_getr hx hb hts hC_10 hown hW (gx.S hM) tt_10 6 (by decide) rfl kw_1149 ⟨rfl, rfl, rfl⟩ ((hM.o gx trivial rfl).2.trans f_x_6) dX10_number_65 ?_
              refine lv_aload_n hx hb dX10_number_68 rfl (lv_at hl 4 rfl) ?_
              refine hk_geti hx hb hts hC_10 hown hW (gx.S hM) tt_10 8 (by decide) rfl kw_1151 ⟨rfl, rfl, rfl⟩ ffw39_x_8 dX10_number_69 ?_
              refine hx_bald hx hb hW hT (gqt.S hM) tt_53 rfl ⟨by omega, by omega⟩ dX10_number_72 (fun x_43 ex_43 lx_43 ux_43 => ?_)
              have ax_43 : x_43 = tf fw39_x_8.toNatClampNeg := ex_43.trans (congrFun (hx_afS hM gqt rfl af_qt) _)
              obtain rfl : x_41 = x_43 := ex_41.trans ex_43.symm
              refine lv_bipush (v := 57) hx hb dX10_number_73 (by decide) ?_
              refine hb_icmp_gt (zx := x_41.toInt) (zy := 57) (tgt := 120) hx hb rfl (by decide) dX10_number_75 (by decide) (fun c_44 => ?_) (fun c_44 => ?_)
              · skip
                exact join120  _ _ hL1 hl1  (by rw [vi39_0]; exact hv_sn_o (by omega) (fun z9 => hv_dg_f ax_41 (by omega))) ls hW hT hM f_x_9 ffw39_x_8  (lv_sub hl [0, 1, 2, 3, 4, 5, 6] rfl)
              · skip
                refine lv_iload hx hb dX10_number_78 (lv_at hl 1 rfl) ?_
                refine lv_iconst (v := 4) hx hb dX10_number_80 (by decide) ?_
                refine hb_icmp_ge (zx := iv39_5.toInt) (zy := 4) (tgt := 104) hx hb rfl (by decide) dX10_number_81 (by decide) (fun c_45 => ?_) (fun c_45 => ?_)
                · skip
                  obtain ⟨x_46, ex_46⟩ : ∃ y : Int32, y = iv39_5 + Int32.ofInt 1 := ⟨_, rfl⟩
                  have rg_47 := i32_r iv39_5
                  have zx_46 : x_46.toInt = iv39_5.toInt + (1) := by rw [ex_46]; exact i32_add rfl (by decide) (by omega) (by omega)
                  refine lv_iinc (v := x_46) (lv' := [(5, .int x_46), (6, .int iv39_6), (4, .int w_6), (3, .int r_3), (0, .ref x), (1, .int i1), (2, .int i2)]) hx hb dX10_number_104 hl (k := 1) rfl ex_46.symm (by decide) rfl (fun ls hl => ?_)
                  refine lv_aload_n hx hb dX10_number_107 rfl (lv_at hl 4 rfl) ?_
                  refine lv_dup hx hb dX10_number_108 rfl ?_
                  refine hk_geti hx hb hts hC_10 hown hW (gx.S hM) tt_10 8 (by decide) rfl kw_1151 ⟨rfl, rfl, rfl⟩ ffw39_x_8 dX10_number_109 ?_
                  refine lv_iconst (v := 1) hx hb dX10_number_112 (by decide) ?_
                  refine lv_iadd hx hb dX10_number_113 ?_
                  have rg_48 := i32_r fw39_x_8
                  refine lv_topi (fun x_49 ex_49 => ?_)
                  have zx_49 : x_49.toInt = fw39_x_8.toInt + 1 := by rw [ex_49]; exact i32_add rfl (by decide) (by omega) (by omega)
                  refine hx_puti hx hb hts hC_10 hown hW hT (hx_S.rf (M := [(10, 8)])) (gx.S hM) tt_10 8 (by decide) rfl kw_1151 ⟨rfl, rfl, rfl⟩ rfl (x := x_49) ⟨by omega, by omega⟩ rfl rfl rfl (List.mem_singleton.mpr rfl) dX10_number_114 (fun H locs h_50 eh_50 hW hT hs => ?_)
                  replace f_x_9 := (hs.o (gx.S hM) trivial rfl).1.trans f_x_9
                  replace ex_41 := ex_41.trans (hs.a (gqt.S hM) rfl _).1.symm
                  replace hM := hM.tr (hs.mono (by decide))
                  have f_51 : h_50.2.1 x 8 = x_49 := by rw [eh_50]; exact hx_pi_at _ _ _ _
                  refine lv_goto (tgt := 39) hx hb dX10_number_117 (by decide) ?_
                  exact ih39 x_46 iv39_6 x_49 _ _ hL1 h_50 (by omega) (by omega) (by omega) (by omega) (by omega) (by omega) (vi39_0.trans (hv_sn_i (by omega) (by omega) (hv_dg_t ax_41 (by omega) (by omega)) zx_49)) (hv_dvm_k vi39_1 (by omega) zx_46) (by omega) (by omega) (by omega) ls (by omega) hW hT hM f_51 f_x_9  (lv_sub hl [1, 0, 2, 3, 4, 5, 6] rfl)
                · skip
                  refine lv_bipush (v := 10) hx hb dX10_number_84 (by decide) ?_
                  refine lv_iload hx hb dX10_number_86 (lv_at hl 0 rfl) ?_
                  refine lv_imul hx hb dX10_number_88 ?_
                  refine lv_topi (fun x_52 ex_52 => ?_)
                  have zx_52 : x_52.toInt = 10 * iv39_6.toInt := by rw [ex_52]; exact i32_mul (by decide) rfl rfl (by omega) (by omega)
                  refine lv_aload_n hx hb dX10_number_89 rfl (lv_at hl 4 rfl) ?_
                  refine hk_getr hx hb hts hC_10 hown hW (gx.S hM) tt_10 6 (by decide) rfl kw_1149 ⟨rfl, rfl, rfl⟩ ((hM.o gx trivial rfl).2.trans f_x_6) dX10_number_90 ?_
                  refine lv_aload_n hx hb dX10_number_93 rfl (lv_at hl 4 rfl) ?_
                  refine hk_geti hx hb hts hC_10 hown hW (gx.S hM) tt_10 8 (by decide) rfl kw_1151 ⟨rfl, rfl, rfl⟩ ffw39_x_8 dX10_number_94 ?_
                  refine hx_bald hx hb hW hT (gqt.S hM) tt_53 rfl ⟨by omega, by omega⟩ dX10_number_97 (fun x_53 ex_53 lx_53 ux_53 => ?_)
                  have ax_53 : x_53 = tf fw39_x_8.toNatClampNeg := ex_53.trans (congrFun (hx_afS hM gqt rfl af_qt) _)
                  obtain rfl : x_41 = x_53 := ex_41.trans ex_53.symm
                  refine lv_iadd hx hb dX10_number_98 ?_
                  have rg_54 := i32_r x_52
                  have rg_55 := i32_r x_41
                  refine lv_topi (fun x_56 ex_56 => ?_)
                  have zx_56 : x_56.toInt = x_52.toInt + x_41.toInt := by rw [ex_56]; exact i32_add rfl rfl (by omega) (by omega)
                  refine lv_bipush (v := 48) hx hb dX10_number_99 (by decide) ?_
                  refine lv_isub hx hb dX10_number_101 ?_
                  have rg_57 := i32_r x_56
                  refine lv_topi (fun x_58 ex_58 => ?_)
                  have zx_58 : x_58.toInt = x_56.toInt - 48 := by rw [ex_58]; exact i32_sub rfl (by decide) (by omega) (by omega)
                  refine lv_istore (lv' := [(6, .int x_58), (5, .int iv39_5), (4, .int w_6), (3, .int r_3), (0, .ref x), (1, .int i1), (2, .int i2)]) hx hb dX10_number_102 hl (by decide) rfl (fun ls hl => ?_)
                  obtain ⟨x_59, ex_59⟩ : ∃ y : Int32, y = iv39_5 + Int32.ofInt 1 := ⟨_, rfl⟩
                  have rg_60 := i32_r iv39_5
                  have zx_59 : x_59.toInt = iv39_5.toInt + (1) := by rw [ex_59]; exact i32_add rfl (by decide) (by omega) (by omega)
                  refine lv_iinc (v := x_59) (lv' := [(5, .int x_59), (6, .int x_58), (4, .int w_6), (3, .int r_3), (0, .ref x), (1, .int i1), (2, .int i2)]) hx hb dX10_number_104 hl (k := 1) rfl ex_59.symm (by decide) rfl (fun ls hl => ?_)
                  refine lv_aload_n hx hb dX10_number_107 rfl (lv_at hl 4 rfl) ?_
                  refine lv_dup hx hb dX10_number_108 rfl ?_
                  refine hk_geti hx hb hts hC_10 hown hW (gx.S hM) tt_10 8 (by decide) rfl kw_1151 ⟨rfl, rfl, rfl⟩ ffw39_x_8 dX10_number_109 ?_
                  refine lv_iconst (v := 1) hx hb dX10_number_112 (by decide) ?_
                  refine lv_iadd hx hb dX10_number_113 ?_
                  have rg_61 := i32_r fw39_x_8
                  refine lv_topi (fun x_62 ex_62 => ?_)
                  have zx_62 : x_62.toInt = fw39_x_8.toInt + 1 := by rw [ex_62]; exact i32_add rfl (by decide) (by omega) (by omega)
                  refine hx_puti hx hb hts hC_10 hown hW hT (hx_S.rf (M := [(10, 8)])) (gx.S hM) tt_10 8 (by decide) rfl kw_1151 ⟨rfl, rfl, rfl⟩ rfl (x := x_62) ⟨by omega, by omega⟩ rfl rfl rfl (List.mem_singleton.mpr rfl) dX10_number_114 (fun H locs h_63 eh_63 hW hT hs => ?_)
                  replace f_x_9 := (hs.o (gx.S hM) trivial rfl).1.trans f_x_9
                  replace ex_41 := ex_41.trans (hs.a (gqt.S hM) rfl _).1.symm
                  replace hM := hM.tr (hs.mono (by decide))
                  have f_64 : h_63.2.1 x 8 = x_62 := by rw [eh_63]; exact hx_pi_at _ _ _ _
                  refine lv_goto (tgt := 39) hx hb dX10_number_117 (by decide) ?_
                  exact ih39 x_59 x_58 x_62 _ _ hL1 h_63 (by omega) (by omega) (by omega) (by omega) (by omega) (by omega) (vi39_0.trans (hv_sn_i (by omega) (by omega) (hv_dg_t ax_41 (by omega) (by omega)) zx_62)) (hv_dvm_s (f := 0) (i := fw39_x_8) vi39_1 (by omega) (by omega) (by omega) (by omega) ax_41 (by omega) zx_59) (by omega) (by omega) (by omega) ls (by omega) hW hT hM f_64 f_x_9  (lv_sub hl [1, 0, 2, 3, 4, 5, 6] rfl)
      have zk_0 : (0 : Int32).toInt = 0 := by decide
      have zk_0 : (0 : Int32).toInt = 0 := by decide
      exact loop39 403 (0 : Int32) (0 : Int32) w_6 _ _ L_1 h_2 (by decide) (by decide) (by decide) (by decide) (by omega) (by omega) rfl (by rw [zk_0]; rfl) (by omega) (by omega) (by omega) ls (by omega) hW hT hM fw_6 f_x_9  hl
    · skip
      refine lv_aload_n hx hb dX10_number_17 rfl (lv_at hl 1 rfl) ?_
      refine lv_iconst (v := 0) hx hb dX10_number_18 (by decide) ?_
      refine lv_aload_n hx hb dX10_number_19 rfl (lv_at hl 1 rfl) ?_
      refine hk_geti hx hb hts hC_10 hown hW (gx.S hM) tt_10 8 (by decide) rfl kw_1151 ⟨rfl, rfl, rfl⟩ fw_6 dX10_number_20 ?_
      have zc_0 : (0 : Int32).toInt = 0 := by decide
      refine hx_goi (hx_runV (As := [.int (0 : Int32), .int w_6]) (rest := []) ⟨hx, hb, hml, hown, hts⟩ hW (gx.S hM) tt_10 (T := TX10) (N := 98) rfl (t_X10_fails_v l dC dI dA L_1 h_2 H.size x (0 : Int32) w_6 hT (gx.S hM) ft0 f_x_9 (by omega) (by decide) ⟨by omega, by omega⟩) (cwV 2 hts (hx_gV kw_1480 kw_1477 kw_1479 kw_56 kw_103) rfl rfl rfl (by decide +kernel) ⟨Nat.le_of_ble_eq_true rfl, Nat.le_of_ble_eq_true rfl⟩) rfl hl.1 rfl (Nat.le_of_ble_eq_true rfl) dX10_number_23 ⟨Nat.le_of_ble_eq_true rfl, Nat.le_of_ble_eq_true rfl⟩) hW (fun r_67 L_65 h_66 H locs p_68 hW => ?_)
      obtain ⟨⟨w_70, fw_70, hr_69⟩, hT, hs⟩ := p_68
      replace hT : hx_T T_tb L_65 h_66 := hT
      replace hs : hx_S T_tb [(10, 9)] L_1 h_2 L_65 h_66 := hs
      replace fw_6 := (hs.o (gx.S hM) trivial rfl).1.trans fw_6
      replace hM := hM.tr (hs.mono (by decide))
      have fw_70 : h_66.2.1 x 9 = w_70 := fw_70
      have bw_70 := hT.gi (gx.S hM) tt_10 (k := 9) rfl
      rw [fw_70] at bw_70
      have bw_70 : -2147483648 ≤ w_70.toInt ∧ w_70.toInt ≤ 2147483647 := bw_70
      obtain ⟨fv_71, efv_71⟩ : ∃ y : Int32, y = h_66.2.1 x 10 := ⟨_, rfl⟩
      have bfv_71 := hT.gi (gx.S hM) tt_10 (k := 10) rfl
      rw [← efv_71] at bfv_71
      have bfv_71 : 0 ≤ fv_71.toInt ∧ fv_71.toInt ≤ 9999 := bfv_71
      have ffv_71 := efv_71.symm
      exact hx_retz hx hb hr (hx_nar01 (by omega)) hlk hW ⟨⟨w_6, fv_71, w_70, fw_6, ffv_71, fw_70, ⟨(Or.inr ⟨by omega, by omega, (hv_num_1 (by rw [← ek_7]; have h8 := hv_SE_nd hr_5S (by omega); exact fun z9 => h8 (by omega))).trans (by rw [← ek_7]; congr 1; omega)⟩), (fun z9 => by exfalso; omega), by omega⟩⟩, hT, hM⟩ dX10_number_26
