
set_option maxHeartbeats 4000000 in
set_option maxRecDepth 100000 in
theorem t_X10_four_v (l : Launch) (dC : Nat → ClassId) (dI : Nat → Nat → Nat) (dA : Nat → ClassId) (L : List Nat) (h : hx_h) (sz : Nat) (x : Nat) (i1 : Int32) (hT : hx_T T_tb L h) (gx : hx_g L h x 10) (qt : Nat) (gqt : hx_g L h qt 53) (f_x_6 : h.2.2 x 6 = some qt) (tf : Nat → Int32) (af_qt : h.2.1 qt = tf) (t0 : Int32) (f_x_7 : h.2.1 x 7 = t0) (ht0 : t0.toInt ≤ 396) : Met l yX10_four (Cond.code yX10_four cX10_four 3 none :: hx_all) ({ frames := 0, cells := 0, slots := 0, locals := 0 }) (va_Pc [.ref x, .int i1] (hx_B T_tb (P_ty dA) (dC, dI) vwCl L h sz)) (va_Qv (fun (u : List Nat × hx_h) => (∃ (t1 : Int32) (tf1 : Nat → Int32), u.2.2.1 x 7 = t1 ∧ u.2.2.1 qt = tf1 ∧ (t1.toInt = t0.toInt + 4 ∧ tf1 = hv_FD tf t0.toInt.toNat i1 4)) ∧ hx_T T_tb u.1 u.2 ∧ hx_S T_tb [(10, 7), (53, 0)] L h u.1 u.2) (hx_E T_tb (P_ty dA) (dC, dI) vwCl (hx_A L sz)) (hx_A L sz)) 0 0 (hx_A L sz) := by
  refine hx_met (lv := [(0, .ref x), (1, .int i1)]) (by decide +kernel) rfl (Nat.le_of_ble_eq_true rfl) rfl ?_
  intro p e s m below meth c hx hb hml hr hlk hts0 hown hin hsz hW ls hl
  have hts : ∀ w ∈ hx_all, w.before _ s = true := fun w hw => hts0 w (List.mem_cons_of_mem _ hw)
  have hown : s.vm.findClass "SmallCourtModel" = some m.cls := hown
  have hM : hx_S T_tb [(10, 7), (53, 0)] L h L h := hx_S.rf
  have b_t0 := hT.gi gx tt_10 (k := 7) rfl
  rw [f_x_7] at b_t0
  have b_t0 : 0 ≤ t0.toInt ∧ t0.toInt ≤ 400 := b_t0
  refine lv_bipush (v := 24) hx hb dX10_four_0 (by decide) ?_
  refine lv_istore_n (lv' := [(2, .int (24 : Int32)), (0, .ref x), (1, .int i1)]) hx hb dX10_four_2 rfl hl (by decide) rfl (fun ls hl => ?_)
  have loop3 : ∀ (n3 : Nat) (iv3_2 fw3_x_7 : Int32) (ia3_qt : Nat → Int32) (H : Heap) (locs : List Loc) (hL1 : List Nat) (hl1 : hx_h), -8 ≤ iv3_2.toInt → iv3_2.toInt ≤ 24 → 0 ≤ fw3_x_7.toInt → fw3_x_7.toInt ≤ 400 → (8 * fw3_x_7.toInt = 8 * t0.toInt + 24 - iv3_2.toInt) → (ia3_qt = hv_FD tf t0.toInt.toNat i1 (fw3_x_7.toInt - t0.toInt).toNat) → (t0.toInt ≤ fw3_x_7.toInt) → ∀ (ls : Array Slot), iv3_2.toInt + 8 < (n3 : Int) → hx_W T_tb (P_ty dA) (dC, dI) vwCl (hx_A L sz) s.heap hL1 hl1 s H locs → hx_T T_tb hL1 hl1 → hx_S T_tb [(10, 7), (53, 0)] L h hL1 hl1 → hl1.2.1 x 7 = fw3_x_7 → hl1.2.1 qt = ia3_qt → lv_has ls 3 [(2, .int iv3_2), (0, .ref x), (1, .int i1)] → W p l e ({ frames := 0, cells := 0, slots := 0, locals := 0 }) s m ([.ref x, .int i1] : List Value).toArray below meth c H locs 0 0 (MQ below (va_Qv (fun (u : List Nat × hx_h) => (∃ (t1 : Int32) (tf1 : Nat → Int32), u.2.2.1 x 7 = t1 ∧ u.2.2.1 qt = tf1 ∧ (t1.toInt = t0.toInt + 4 ∧ tf1 = hv_FD tf t0.toInt.toNat i1 4)) ∧ hx_T T_tb u.1 u.2 ∧ hx_S T_tb [(10, 7), (53, 0)] L h u.1 u.2) (hx_E T_tb (P_ty dA) (dC, dI) vwCl (hx_A L sz)) (hx_A L sz)) ([.ref x, .int i1] : List Value).toArray s 0 0 (hx_A L sz)) (F0 m 3 ls []) := by
    intro n3
    induction n3 with
    | zero => intro iv3_2 fw3_x_7 ia3_qt H locs hL1 hl1 bliv3_2 buiv3_2 blfw3_x_7 bufw3_x_7 vi3_0 vi3_1 vi3_2 ls hn3; exfalso; omega
    | succ n3 ih3 =>
      intro iv3_2 fw3_x_7 ia3_qt H locs hL1 hl1 bliv3_2 buiv3_2 blfw3_x_7 bufw3_x_7 vi3_0 vi3_1 vi3_2 ls hn3 hW hT hM ffw3_x_7 nia3_qt hl
      refine lv_iload_n hx hb dX10_four_3 rfl (lv_at hl 0 rfl) ?_
      refine hb_if_lt (zx := iv3_2.toInt) (tgt := 36) hx hb rfl dX10_four_4 (by decide) (fun c_1 => ?_) (fun c_1 => ?_)
      · skip
        exact hx_retv hx hb hr hlk hW ⟨⟨fw3_x_7, ia3_qt, ffw3_x_7, nia3_qt, ⟨by omega, (by rw [vi3_1]; congr 1; omega)⟩⟩, hT, hM⟩ dX10_four_36
      · skip
        refine lv_aload_n hx hb dX10_four_7 rfl (lv_at hl 1 rfl) ?_
        refine hk_getr hx hb hts hC_10 hown hW (gx.S hM) tt_10 6 (by decide) rfl kw_1149 ⟨rfl, rfl, rfl⟩ ((hM.o gx trivial rfl).2.trans f_x_6) dX10_four_8 ?_
        refine lv_aload_n hx hb dX10_four_11 rfl (lv_at hl 1 rfl) ?_
        refine hk_geti hx hb hts hC_10 hown hW (gx.S hM) tt_10 7 (by decide) rfl kw_1150 ⟨rfl, rfl, rfl⟩ ffw3_x_7 dX10_four_12 ?_
        refine lv_iload_n hx hb dX10_four_15 rfl (lv_at hl 2 rfl) ?_
        refine lv_iload_n hx hb dX10_four_16 rfl (lv_at hl 0 rfl) ?_
        refine lv_ishr hx hb dX10_four_17 ?_
        refine lv_topi (fun x_2 ex_2 => ?_)
        refine lv_i2b hx hb dX10_four_18 rfl ?_
        refine lv_topi (fun x_3 ex_3 => ?_)
        have nia3_qtO := nia3_qt
        refine hx_bast hx hb hW hT (hx_S.rf (M := [(53, 0)])) (gqt.S hM) tt_53 rfl ⟨by omega, by omega⟩ (y := x_3) (hv_nb8 ex_3) (hv_nb9 ex_3) (List.mem_singleton.mpr rfl) dX10_four_19 (fun H locs h_4 eh_4 hW hT hs => ?_)
        replace ffw3_x_7 := (hs.o (gx.S hM) trivial rfl).1.trans ffw3_x_7
        replace hM := hM.tr (hs.mono (by decide))
        obtain ⟨fa_5, dfa_5⟩ : ∃ g : Nat → Int32, g = hx_up ia3_qt fw3_x_7.toNatClampNeg x_3 := ⟨_, rfl⟩
        have nfa_5 : h_4.2.1 qt = fa_5 := by rw [eh_4, dfa_5, ← nia3_qtO]; exact hx_pi_fun _ _ _ _
        refine lv_aload_n hx hb dX10_four_20 rfl (lv_at hl 1 rfl) ?_
        refine lv_dup hx hb dX10_four_21 rfl ?_
        refine hk_geti hx hb hts hC_10 hown hW (gx.S hM) tt_10 7 (by decide) rfl kw_1150 ⟨rfl, rfl, rfl⟩ ffw3_x_7 dX10_four_22 ?_
        refine lv_iconst (v := 1) hx hb dX10_four_25 (by decide) ?_
        refine lv_iadd hx hb dX10_four_26 ?_
        have rg_6 := i32_r fw3_x_7
        refine lv_topi (fun x_7 ex_7 => ?_)
        have zx_7 : x_7.toInt = fw3_x_7.toInt + 1 := by rw [ex_7]; exact i32_add rfl (by decide) (by omega) (by omega)
        refine hx_puti hx hb hts hC_10 hown hW hT (hx_S.rf (M := [(10, 7)])) (gx.S hM) tt_10 7 (by decide) rfl kw_1150 ⟨rfl, rfl, rfl⟩ rfl (x := x_7) ⟨by omega, by omega⟩ rfl rfl rfl (List.mem_singleton.mpr rfl) dX10_four_27 (fun H locs h_8 eh_8 hW hT hs => ?_)
        replace nfa_5 : h_8.2.1 qt = fa_5 := (funext fun j => (hs.a (gqt.S hM) rfl j).1).trans nfa_5
        replace hM := hM.tr (hs.mono (by decide))
        have f_9 : h_8.2.1 x 7 = x_7 := by rw [eh_8]; exact hx_pi_at _ _ _ _
        obtain ⟨x_10, ex_10⟩ : ∃ y : Int32, y = iv3_2 + Int32.ofInt (-8) := ⟨_, rfl⟩
        have rg_11 := i32_r iv3_2
        have zx_10 : x_10.toInt = iv3_2.toInt + (-8) := by rw [ex_10]; exact i32_add rfl (by decide) (by omega) (by omega)
        refine lv_iinc (v := x_10) (lv' := [(2, .int x_10), (0, .ref x), (1, .int i1)]) hx hb dX10_four_30 hl (k := 0) rfl ex_10.symm (by decide) rfl (fun ls hl => ?_)
        refine lv_goto (tgt := 3) hx hb dX10_four_33 (by decide) ?_
        exact ih3 x_10 x_7 fa_5 _ _ hL1 h_8 (by omega) (by omega) (by omega) (by omega) (by omega) (hv_FD_s vi3_1 dfa_5 ex_2 ex_3 (by omega) (by omega) (by omega) (by omega) zx_7) (by omega) ls (by omega) hW hT hM f_9 nfa_5 (lv_sub hl [0, 1, 2] rfl)
  have zk_24 : (24 : Int32).toInt = 24 := by decide
  exact loop3 33 (24 : Int32) t0 tf _ _ L h (by decide) (by decide) (by omega) (by omega) (by omega) (by rw [show (t0.toInt - t0.toInt).toNat = 0 by omega]; rfl) (by omega) ls (by omega) hW hT hM f_x_7 af_qt hl


set_option maxHeartbeats 4000000 in
set_option maxRecDepth 100000 in
theorem t_X10_feed_v (l : Launch) (dC : Nat → ClassId) (dI : Nat → Nat → Nat) (dA : Nat → ClassId) (L : List Nat) (h : hx_h) (sz : Nat) (x : Nat) (i1 : Int32) (i2 : Int32) (i3 : Int32) (i4 : Int32) (i5 : Int32) (hT : hx_T T_tb L h) (gx : hx_g L h x 10) (qt : Nat) (gqt : hx_g L h qt 53) (f_x_6 : h.2.2 x 6 = some qt) (tf : Nat → Int32) (af_qt : h.2.1 qt = tf) (t0 : Int32) (f_x_7 : h.2.1 x 7 = t0) : Met l yX10_feed (Cond.code yX10_feed cX10_feed 6 (some .int) :: hx_all) ({ frames := 1, cells := 0, slots := 0, locals := 22 }) (va_Pc [.ref x, .int i1, .int i2, .int i3, .int i4, .int i5] (hx_B T_tb (P_ty dA) (dC, dI) vwCl L h sz)) (va_Qi (fun (r : Int32) (u : List Nat × hx_h) => (∃ (t1 : Int32) (tf1 : Nat → Int32), u.2.2.1 x 7 = t1 ∧ u.2.2.1 qt = tf1 ∧ (hv_FE tf t0 i1 i2 i3 i4 i5 r t1 tf1)) ∧ hx_T T_tb u.1 u.2 ∧ hx_S T_tb [(10, 7), (53, 0)] L h u.1 u.2) (hx_E T_tb (P_ty dA) (dC, dI) vwCl (hx_A L sz)) (hx_A L sz)) 0 0 (hx_A L sz) := by
  refine hx_met (lv := [(0, .ref x), (1, .int i1), (2, .int i2), (3, .int i3), (4, .int i4), (5, .int i5)]) (by decide +kernel) rfl (Nat.le_of_ble_eq_true rfl) rfl ?_
  intro p e s m below meth c hx hb hml hr hlk hts0 hown hin hsz hW ls hl
  have hts : ∀ w ∈ hx_all, w.before _ s = true := fun w hw => hts0 w (List.mem_cons_of_mem _ hw)
  have hown : s.vm.findClass "SmallCourtModel" = some m.cls := hown
  have hM : hx_S T_tb [(10, 7), (53, 0)] L h L h := hx_S.rf
  have b_t0 := hT.gi gx tt_10 (k := 7) rfl
  rw [f_x_7] at b_t0
  have b_t0 : 0 ≤ t0.toInt ∧ t0.toInt ≤ 400 := b_t0
  refine lv_aload_n hx hb dX10_feed_0 rfl (lv_at hl 0 rfl) ?_
  refine hk_geti hx hb hts hC_10 hown hW (gx.S hM) tt_10 7 (by decide) rfl kw_1150 ⟨rfl, rfl, rfl⟩ f_x_7 dX10_feed_1 ?_
  refine lv_bipush (v := 20) hx hb dX10_feed_4 (by decide) ?_
  refine lv_iadd hx hb dX10_feed_6 ?_
  have rg_1 := i32_r t0
  refine lv_topi (fun x_2 ex_2 => ?_)
  have zx_2 : x_2.toInt = t0.toInt + 20 := by rw [ex_2]; exact i32_add rfl (by decide) (by omega) (by omega)
  refine lv_sipush (v := 400) hx hb dX10_feed_7 (by decide) ?_
  refine hb_icmp_le (zx := x_2.toInt) (zy := 400) (tgt := 15) hx hb rfl (by decide) dX10_feed_10 (by decide) (fun c_3 => ?_) (fun c_3 => ?_)
  · skip
    refine lv_aload_n hx hb dX10_feed_15 rfl (lv_at hl 0 rfl) ?_
    refine lv_iload_n hx hb dX10_feed_16 rfl (lv_at hl 1 rfl) ?_
    refine hx_gov (hx_runV (As := [.int i1]) (rest := []) ⟨hx, hb, hml, hown, hts⟩ hW (gx.S hM) tt_10 (T := TX10) (N := 98) rfl (t_X10_four_v l dC dI dA L h s.heap.size x i1 hT (gx.S hM) qt (gqt.S hM) ((hM.o gx trivial rfl).2.trans f_x_6) tf af_qt t0 f_x_7 (by omega)) (cwV 1 hts (hx_gV kw_1453 kw_1450 kw_1452 kw_52 kw_103) rfl rfl rfl (by decide +kernel) ⟨Nat.le_of_ble_eq_true rfl, Nat.le_of_ble_eq_true rfl⟩) rfl hl.1 rfl (Nat.le_of_ble_eq_true rfl) dX10_feed_17 ⟨Nat.le_of_ble_eq_true rfl, Nat.le_of_ble_eq_true rfl⟩) hW (fun L_4 h_5 H locs p_7 hW => ?_)
    obtain ⟨⟨w_9, w_10, fw_9, fw_10, hr_8⟩, hT, hs⟩ := p_7
    replace hT : hx_T T_tb L_4 h_5 := hT
    replace hs : hx_S T_tb [(10, 7), (53, 0)] L h L_4 h_5 := hs
    replace hM := hM.tr (hs.mono (by decide))
    have fw_9 : h_5.2.1 x 7 = w_9 := fw_9
    have bw_9 := hT.gi (gx.S hM) tt_10 (k := 7) rfl
    rw [fw_9] at bw_9
    have bw_9 : 0 ≤ w_9.toInt ∧ w_9.toInt ≤ 400 := bw_9
    have fw_10 : h_5.2.1 qt = w_10 := fw_10
    refine lv_aload_n hx hb dX10_feed_20 rfl (lv_at hl 0 rfl) ?_
    refine lv_iload_n hx hb dX10_feed_21 rfl (lv_at hl 2 rfl) ?_
    refine hx_gov (hx_runV (As := [.int i2]) (rest := []) ⟨hx, hb, hml, hown, hts⟩ hW (gx.S hM) tt_10 (T := TX10) (N := 98) rfl (t_X10_four_v l dC dI dA L_4 h_5 H.size x i2 hT (gx.S hM) qt (gqt.S hM) ((hM.o gx trivial rfl).2.trans f_x_6) w_10 fw_10 w_9 fw_9 (by omega)) (cwV 1 hts (hx_gV kw_1453 kw_1450 kw_1452 kw_52 kw_103) rfl rfl rfl (by decide +kernel) ⟨Nat.le_of_ble_eq_true rfl, Nat.le_of_ble_eq_true rfl⟩) rfl hl.1 rfl (Nat.le_of_ble_eq_true rfl) dX10_feed_22 ⟨Nat.le_of_ble_eq_true rfl, Nat.le_of_ble_eq_true rfl⟩) hW (fun L_11 h_12 H locs p_14 hW => ?_)
    obtain ⟨⟨w_16, w_17, fw_16, fw_17, hr_15⟩, hT, hs⟩ := p_14
    replace hT : hx_T T_tb L_11 h_12 := hT
    replace hs : hx_S T_tb [(10, 7), (53, 0)] L_4 h_5 L_11 h_12 := hs
    replace hM := hM.tr (hs.mono (by decide))
    have fw_16 : h_12.2.1 x 7 = w_16 := fw_16
    have bw_16 := hT.gi (gx.S hM) tt_10 (k := 7) rfl
    rw [fw_16] at bw_16
    have bw_16 : 0 ≤ w_16.toInt ∧ w_16.toInt ≤ 400 := bw_16
    have fw_17 : h_12.2.1 qt = w_17 := fw_17
    refine lv_aload_n hx hb dX10_feed_25 rfl (lv_at hl 0 rfl) ?_
    refine lv_iload_n hx hb dX10_feed_26 rfl (lv_at hl 3 rfl) ?_
    refine hx_gov (hx_runV (As := [.int i3]) (rest := []) ⟨hx, hb, hml, hown, hts⟩ hW (gx.S hM) tt_10 (T := TX10) (N := 98) rfl (t_X10_four_v l dC dI dA L_11 h_12 H.size x i3 hT (gx.S hM) qt (gqt.S hM) ((hM.o gx trivial rfl).2.trans f_x_6) w_17 fw_17 w_16 fw_16 (by omega)) (cwV 1 hts (hx_gV kw_1453 kw_1450 kw_1452 kw_52 kw_103) rfl rfl rfl (by decide +kernel) ⟨Nat.le_of_ble_eq_true rfl, Nat.le_of_ble_eq_true rfl⟩) rfl hl.1 rfl (Nat.le_of_ble_eq_true rfl) dX10_feed_27 ⟨Nat.le_of_ble_eq_true rfl, Nat.le_of_ble_eq_true rfl⟩) hW (fun L_18 h_19 H locs p_21 hW => ?_)
    obtain ⟨⟨w_23, w_24, fw_23, fw_24, hr_22⟩, hT, hs⟩ := p_21
    replace hT : hx_T T_tb L_18 h_19 := hT
    replace hs : hx_S T_tb [(10, 7), (53, 0)] L_11 h_12 L_18 h_19 := hs
    replace hM := hM.tr (hs.mono (by decide))
    have fw_23 : h_19.2.1 x 7 = w_23 := fw_23
    have bw_23 := hT.gi (gx.S hM) tt_10 (k := 7) rfl
    rw [fw_23] at bw_23
    have bw_23 : 0 ≤ w_23.toInt ∧ w_23.toInt ≤ 400 := bw_23
    have fw_24 : h_19.2.1 qt = w_24 := fw_24
    refine lv_aload_n hx hb dX10_feed_30 rfl (lv_at hl 0 rfl) ?_
    refine lv_iload hx hb dX10_feed_31 (lv_at hl 4 rfl) ?_
    refine hx_gov (hx_runV (As := [.int i4]) (rest := []) ⟨hx, hb, hml, hown, hts⟩ hW (gx.S hM) tt_10 (T := TX10) (N := 98) rfl (t_X10_four_v l dC dI dA L_18 h_19 H.size x i4 hT (gx.S hM) qt (gqt.S hM) ((hM.o gx trivial rfl).2.trans f_x_6) w_24 fw_24 w_23 fw_23 (by omega)) (cwV 1 hts (hx_gV kw_1453 kw_1450 kw_1452 kw_52 kw_103) rfl rfl rfl (by decide +kernel) ⟨Nat.le_of_ble_eq_true rfl, Nat.le_of_ble_eq_true rfl⟩) rfl hl.1 rfl (Nat.le_of_ble_eq_true rfl) dX10_feed_33 ⟨Nat.le_of_ble_eq_true rfl, Nat.le_of_ble_eq_true rfl⟩) hW (fun L_25 h_26 H locs p_28 hW => ?_)
    obtain ⟨⟨w_30, w_31, fw_30, fw_31, hr_29⟩, hT, hs⟩ := p_28
    replace hT : hx_T T_tb L_25 h_26 := hT
    replace hs : hx_S T_tb [(10, 7), (53, 0)] L_18 h_19 L_25 h_26 := hs
    replace hM := hM.tr (hs.mono (by decide))
    have fw_30 : h_26.2.1 x 7 = w_30 := fw_30
    have bw_30 := hT.gi (gx.S hM) tt_10 (k := 7) rfl
    rw [fw_30] at bw_30
    have bw_30 : 0 ≤ w_30.toInt ∧ w_30.toInt ≤ 400 := bw_30
    have fw_31 : h_26.2.1 qt = w_31 := fw_31
    refine lv_aload_n hx hb dX10_feed_36 rfl (lv_at hl 0 rfl) ?_
    refine lv_iload hx hb dX10_feed_37 (lv_at hl 5 rfl) ?_
    refine hx_gov (hx_runV (As := [.int i5]) (rest := []) ⟨hx, hb, hml, hown, hts⟩ hW (gx.S hM) tt_10 (T := TX10) (N := 98) rfl (t_X10_four_v l dC dI dA L_25 h_26 H.size x i5 hT (gx.S hM) qt (gqt.S hM) ((hM.o gx trivial rfl).2.trans f_x_6) w_31 fw_31 w_30 fw_30 (by omega)) (cwV 1 hts (hx_gV kw_1453 kw_1450 kw_1452 kw_52 kw_103) rfl rfl rfl (by decide +kernel) ⟨Nat.le_of_ble_eq_true rfl, Nat.le_of_ble_eq_true rfl⟩) rfl hl.1 rfl (Nat.le_of_ble_eq_true rfl) dX10_feed_39 ⟨Nat.le_of_ble_eq_true rfl, Nat.le_of_ble_eq_true rfl⟩) hW (fun L_32 h_33 H locs p_35 hW => ?_)
    obtain ⟨⟨w_37, w_38, fw_37, fw_38, hr_36⟩, hT, hs⟩ := p_35
    replace hT : hx_T T_tb L_32 h_33 := hT
    replace hs : hx_S T_tb [(10, 7), (53, 0)] L_25 h_26 L_32 h_33 := hs
    replace hM := hM.tr (hs.mono (by decide))
    have fw_37 : h_33.2.1 x 7 = w_37 := fw_37
    have bw_37 := hT.gi (gx.S hM) tt_10 (k := 7) rfl
    rw [fw_37] at bw_37
    have bw_37 : 0 ≤ w_37.toInt ∧ w_37.toInt ≤ 400 := bw_37
    have fw_38 : h_33.2.1 qt = w_38 := fw_38
    refine lv_aload_n hx hb dX10_feed_42 rfl (lv_at hl 0 rfl) ?_
    refine hk_geti hx hb hts hC_10 hown hW (gx.S hM) tt_10 7 (by decide) rfl kw_1150 ⟨rfl, rfl, rfl⟩ fw_37 dX10_feed_43 ?_
    exact hx_reti hx hb hr hlk hW ⟨⟨w_37, w_38, fw_37, fw_38, (Or.inr ⟨by omega, rfl, by omega, hv_F5_e hr_8.2 hr_15.2 hr_22.2 hr_29.2 hr_36.2 (by omega) (by omega) (by omega) (by omega)⟩)⟩, hT, hM⟩ dX10_feed_46
  · skip
    refine lv_iconst (v := -1) hx hb dX10_feed_13 (by decide) ?_
    exact hx_reti hx hb hr hlk hW ⟨⟨t0, tf, f_x_7, af_qt, (Or.inl ⟨by omega, rfl, rfl, rfl⟩)⟩, hT, hM⟩ dX10_feed_14


set_option maxHeartbeats 4000000 in
set_option maxRecDepth 100000 in
theorem t_X10_end_v (l : Launch) (dC : Nat → ClassId) (dI : Nat → Nat → Nat) (dA : Nat → ClassId) (L : List Nat) (h : hx_h) (sz : Nat) (x : Nat) (i1 : Int32) (hT : hx_T T_tb L h) (gx : hx_g L h x 10) (t0 : Int32) (f_x_7 : h.2.1 x 7 = t0) : Met l yX10_end (Cond.code yX10_end cX10_end 2 (some .int) :: hx_all) ({ frames := 0, cells := 0, slots := 0, locals := 0 }) (va_Pc [.ref x, .int i1] (hx_B T_tb (P_ty dA) (dC, dI) vwCl L h sz)) (va_Qi (fun (r : Int32) (u : List Nat × hx_h) => (∃ (t1 : Int32), u.2.2.1 x 7 = t1 ∧ (hv_EN i1 t0 r t1)) ∧ hx_T T_tb u.1 u.2 ∧ hx_S T_tb [(10, 7)] L h u.1 u.2) (hx_E T_tb (P_ty dA) (dC, dI) vwCl (hx_A L sz)) (hx_A L sz)) 0 0 (hx_A L sz) := by
  refine hx_met (lv := [(0, .ref x), (1, .int i1)]) (by decide +kernel) rfl (Nat.le_of_ble_eq_true rfl) rfl ?_
  intro p e s m below meth c hx hb hml hr hlk hts0 hown hin hsz hW ls hl
  have hts : ∀ w ∈ hx_all, w.before _ s = true := fun w hw => hts0 w (List.mem_cons_of_mem _ hw)
  have hown : s.vm.findClass "SmallCourtModel" = some m.cls := hown
  have hM : hx_S T_tb [(10, 7)] L h L h := hx_S.rf
  have b_t0 := hT.gi gx tt_10 (k := 7) rfl
  rw [f_x_7] at b_t0
  have b_t0 : 0 ≤ t0.toInt ∧ t0.toInt ≤ 400 := b_t0
  refine lv_iload_n hx hb dX10_end_0 rfl (lv_at hl 1 rfl) ?_
  refine hb_if_lt (zx := i1.toInt) (tgt := 12) hx hb rfl dX10_end_1 (by decide) (fun c_1 => ?_) (fun c_1 => ?_)
  · skip
    refine lv_iconst (v := -1) hx hb dX10_end_12 (by decide) ?_
    exact hx_reti hx hb hr hlk hW ⟨⟨t0, f_x_7, (Or.inl ⟨by omega, rfl, rfl⟩)⟩, hT, hM⟩ dX10_end_13
  · skip
    refine lv_iload_n hx hb dX10_end_4 rfl (lv_at hl 1 rfl) ?_
    refine lv_aload_n hx hb dX10_end_5 rfl (lv_at hl 0 rfl) ?_
    refine hk_geti hx hb hts hC_10 hown hW (gx.S hM) tt_10 7 (by decide) rfl kw_1150 ⟨rfl, rfl, rfl⟩ f_x_7 dX10_end_6 ?_
    refine hb_icmp_le (zx := i1.toInt) (zy := t0.toInt) (tgt := 14) hx hb rfl rfl dX10_end_9 (by decide) (fun c_2 => ?_) (fun c_2 => ?_)
    · skip
      refine lv_aload_n hx hb dX10_end_14 rfl (lv_at hl 0 rfl) ?_
      refine lv_iload_n hx hb dX10_end_15 rfl (lv_at hl 1 rfl) ?_
      refine hx_puti hx hb hts hC_10 hown hW hT (hx_S.rf (M := [(10, 7)])) (gx.S hM) tt_10 7 (by decide) rfl kw_1150 ⟨rfl, rfl, rfl⟩ rfl (x := i1) ⟨by omega, by omega⟩ rfl rfl rfl (List.mem_singleton.mpr rfl) dX10_end_16 (fun H locs h_3 eh_3 hW hT hs => ?_)
      replace hM := hM.tr (hs.mono (by decide))
      have f_4 : h_3.2.1 x 7 = i1 := by rw [eh_3]; exact hx_pi_at _ _ _ _
      refine lv_iload_n hx hb dX10_end_19 rfl (lv_at hl 1 rfl) ?_
      exact hx_reti hx hb hr hlk hW ⟨⟨i1, f_4, (Or.inr ⟨by omega, by omega, rfl, rfl⟩)⟩, hT, hM⟩ dX10_end_20
    · skip
      refine lv_iconst (v := -1) hx hb dX10_end_12 (by decide) ?_
      exact hx_reti hx hb hr hlk hW ⟨⟨t0, f_x_7, (Or.inl ⟨by omega, rfl, rfl⟩)⟩, hT, hM⟩ dX10_end_13
