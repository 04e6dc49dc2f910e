section
section HVCJ
variable {T : Nat → Int32} {n p q k : Nat} {sn : Nat → Bool} {rd : Nat → Int} {o : List hv_tok} {a1 b1 : Nat} {a2 b2 : Int}
/-- a kept NUMBER with its parts named -/
theorem hv_co_5 (h : 21 ≤ hv_wd T n q ∧ hv_wd T n q ≤ 24) (hs : sn (hv_wd T n q - 12).toNat = false) (hn : hv_num T n (hv_we T n q) 0 999 = .inr (a1, a2)) : hv_co T n q sn rd o = .inr (a1, hv_ub sn (hv_wd T n q - 12).toNat, hv_ud rd (hv_wd T n q - 12).toNat a2, o) := hv_co_4 (a := (a1, a2)) h hs hn
theorem hv_cj_3 (hs : sn k = false) (hn : hv_num T n (hv_we T n p) (hv_lo k) (hv_hi k) = .inr (a1, a2)) (h5 : k ≠ 5) : hv_ck T n p k sn rd o = .inr (a1, hv_ub sn k, hv_ud rd k a2, o) := hv_ck_3 (a := (a1, a2)) hs hn h5
theorem hv_cj_4 {x : Nat} (hs : sn 5 = false) (hn : hv_num T n (hv_we T n p) (hv_lo 5) (hv_hi 5) = .inr (a1, a2)) (hm : hv_num T n a1 1 30 = .inl x) : hv_ck T n p 5 sn rd o = .inl x := hv_ck_4 (a := (a1, a2)) hs hn hm
theorem hv_cj_5 (hs : sn 5 = false) (hn : hv_num T n (hv_we T n p) (hv_lo 5) (hv_hi 5) = .inr (a1, a2)) (hm : hv_num T n a1 1 30 = .inr (b1, b2)) : hv_ck T n p 5 sn rd o = .inr (b1, hv_ub sn 5, hv_ud (hv_ud rd 5 a2) 6 b2, o) := hv_ck_5 (a := (a1, a2)) (b := (b1, b2)) hs hn hm
theorem hv_k5 {z : Int} (h : z = 5) : z.toNat = 5 := by rw [h]; rfl
end HVCJ


set_option maxHeartbeats 4000000 in
set_option maxRecDepth 100000 in
theorem t_X6_tellOnce_v (l : Launch) (dC : Nat → ClassId) (dI : Nat → Nat → Nat) (dA : Nat → ClassId) (L : List Nat) (h : hx_h) (sz : Nat) (x : Nat) (i1 : Int32) (i2 : Int32) (hT : hx_T T_tb L h) (gx : hx_g L h x 6) (to0 : Int32) (f_x_4 : h.2.1 x 4 = to0) (ft0 : Int32) (f_x_3 : h.2.1 x 3 = ft0) (hi1 : 1 ≤ i1.toInt ∧ i1.toInt ≤ 14) (hi2 : 0 ≤ i2.toInt ∧ i2.toInt ≤ 402) : Met l yX6_tellOnce (Cond.code yX6_tellOnce cX6_tellOnce 4 (some .boolean) :: hx_all) ({ frames := 1, cells := 0, slots := 0, locals := 22 }) (va_Pc [.ref x, .int i1, .int i2] (hx_B T_tb (P_ty dA) (dC, dI) vwCl L h sz)) (va_Qi (fun (r : Int32) (u : List Nat × hx_h) => (∃ (to1 : Int32) (ft1 : Int32), u.2.2.1 x 4 = to1 ∧ u.2.2.1 x 3 = ft1 ∧ ((r.toInt = 1 ∧ ft1.toInt = ft0.toInt ∧ hv_sC to0 (i1.toInt - 1).toNat = false ∧ hv_sC to1 = hv_ub (hv_sC to0) (i1.toInt - 1).toNat) ∨ (r.toInt = 0 ∧ hv_sC to0 (i1.toInt - 1).toNat = true ∧ ft1.toInt = 3 + 8 * i2.toInt))) ∧ hx_T T_tb u.1 u.2 ∧ hx_S T_tb [(6, 3), (6, 4)] L h u.1 u.2) (hx_E T_tb (P_ty dA) (dC, dI) vwCl (hx_A L sz)) (hx_A L sz)) 0 0 (hx_A L sz) := by
  refine hx_met (lv := [(0, .ref x), (1, .int i1), (2, .int i2)]) (by decide +kernel) rfl (Nat.le_of_ble_eq_true rfl) rfl ?_
  intro p e s m below meth c hx hb hml hr hlk hts0 hown hin hsz hW ls hl
  have hts : ∀ w ∈ hx_all, w.before _ s = true := fun w hw => hts0 w (List.mem_cons_of_mem _ hw)
  have hown : s.vm.findClass "SmallCourt$Reader" = some m.cls := hown
  have hM : hx_S T_tb [(6, 3), (6, 4)] L h L h := hx_S.rf
  have b_to0 := hT.gi gx tt_6 (k := 4) rfl
  rw [f_x_4] at b_to0
  have b_to0 : -2147483648 ≤ to0.toInt ∧ to0.toInt ≤ 2147483647 := b_to0
  have b_ft0 := hT.gi gx tt_6 (k := 3) rfl
  rw [f_x_3] at b_ft0
  have b_ft0 : -2147483648 ≤ ft0.toInt ∧ ft0.toInt ≤ 2147483647 := b_ft0
  refine lv_iconst (v := 1) hx hb dX6_tellOnce_0 ?o0 ?_
  case o0 => decide
  refine lv_iload_n hx hb dX6_tellOnce_1 rfl (lv_at hl 1 rfl) ?_
  refine lv_ishl hx hb dX6_tellOnce_2 ?_
  refine lv_topi (fun x_1 ex_1 => ?_)
  refine lv_istore_n (lv' := [(3, .int x_1), (0, .ref x), (1, .int i1), (2, .int i2)]) hx hb dX6_tellOnce_3 rfl hl ?o1 rfl (fun ls hl => ?_)
  case o1 => decide
  refine lv_aload_n hx hb dX6_tellOnce_4 rfl (lv_at hl 1 rfl) ?_
  refine hk_geti hx hb hts hC_6 hown hW (gx.S hM) tt_6 4 ?o2 rfl kw_129 ⟨rfl, rfl, rfl⟩ f_x_4 dX6_tellOnce_5 ?_
  case o2 => decide
  refine lv_iload_n hx hb dX6_tellOnce_8 rfl (lv_at hl 0 rfl) ?_
  refine lv_iand hx hb dX6_tellOnce_9 ?_
  refine lv_topi (fun x_2 ex_2 => ?_)
  refine hb_if_eq (zx := x_2.toInt) (tgt := 20) hx hb rfl dX6_tellOnce_10 ?o3 (fun c_3 => ?_) (fun c_3 => ?_)
  case o3 => decide
  · skip
    refine lv_aload_n hx hb dX6_tellOnce_20 rfl (lv_at hl 1 rfl) ?_
    refine lv_dup hx hb dX6_tellOnce_21 rfl ?_
    refine hk_geti hx hb hts hC_6 hown hW (gx.S hM) tt_6 4 ?o4 rfl kw_129 ⟨rfl, rfl, rfl⟩ f_x_4 dX6_tellOnce_22 ?_
    case o4 => decide
    refine lv_iload_n hx hb dX6_tellOnce_25 rfl (lv_at hl 0 rfl) ?_
    refine lv_ior hx hb dX6_tellOnce_26 ?_
    refine lv_topi (fun x_4 ex_4 => ?_)
    refine hx_puti hx hb hts hC_6 hown hW hT (hx_S.rf (M := [(6, 4)])) (gx.S hM) tt_6 4 ?o5 rfl kw_129 ⟨rfl, rfl, rfl⟩ rfl (x := x_4) (i32_r _) rfl rfl rfl (List.mem_singleton.mpr rfl) dX6_tellOnce_27 (fun H locs h_5 eh_5 hW hT hs => ?_)
    case o5 => decide
    replace f_x_3 := (hs.o (gx.S hM) trivial rfl).1.trans f_x_3
    replace hM := hM.tr (hs.mono ?o6)
    case o6 => decide
    have f_6 : h_5.2.1 x 4 = x_4 := ?o7
    case o7 =>
      rw [eh_5]
      exact hx_pi_at _ _ _ _
    refine lv_iconst (v := 1) hx hb dX6_tellOnce_30 ?o8 ?_
    case o8 => decide
    refine hx_retz hx hb hr rfl hlk hW ⟨⟨x_4, ft0, f_6, f_x_3, (Or.inl ⟨?o9, rfl, (by rw [hv_sC_a (by omega) (by omega)]; cases h9 : to0.toBitVec.getLsbD i1.toInt.toNat with | false => rfl | true => exact absurd (by omega) ((hv_b_and (by omega) (by omega) ex_1 ex_2).mpr h9)), hv_sC_u ?o10 ?o11 ex_1 ex_4⟩)⟩, hT, hM⟩ dX6_tellOnce_31
    case o9 => decide
    case o10 => omega
    case o11 => omega
  · skip
    refine lv_aload_n hx hb dX6_tellOnce_13 rfl (lv_at hl 1 rfl) ?_
    refine lv_iload_n hx hb dX6_tellOnce_14 rfl (lv_at hl 3 rfl) ?_
    refine lv_iconst (v := 2) hx hb dX6_tellOnce_15 ?o12 ?_
    case o12 => decide
    have zc_2 : (2 : Int32).toInt = 2 := ?o13
    case o13 => decide
    refine hx_goi (hx_runV (As := [.int i2, .int (2 : Int32)]) (rest := []) ⟨hx, hb, hml, hown, hts⟩ hW (gx.S hM) tt_6 (T := TX6) (N := 7) rfl (t_X6_refuse_v l dC dI dA L h s.heap.size x i2 (2 : Int32) hT (gx.S hM) ⟨?o14, ?o15⟩ ?o16) (cwV 2 hts (hx_gV kw_527 kw_524 kw_526 kw_6 kw_95) rfl rfl rfl (by decide +kernel) ⟨Nat.le_of_ble_eq_true rfl, Nat.le_of_ble_eq_true rfl⟩) rfl hl.1 rfl (Nat.le_of_ble_eq_true rfl) dX6_tellOnce_16 ⟨Nat.le_of_ble_eq_true rfl, Nat.le_of_ble_eq_true rfl⟩) hW (fun r_9 L_7 h_8 H locs p_10 hW => ?_)
    case o14 => omega
    case o15 => omega
    case o16 => decide
    obtain ⟨⟨w_12, fw_12, hr_11⟩, hT, hs⟩ := p_10
    replace hT : hx_T T_tb L_7 h_8 := hT
    replace hs : hx_S T_tb [(6, 3)] L h L_7 h_8 := hs
    replace f_x_4 := (hs.o (gx.S hM) trivial rfl).1.trans f_x_4
    replace hM := hM.tr (hs.mono ?o17)
    case o17 => decide
    have fw_12 : h_8.2.1 x 3 = w_12 := fw_12
    have bw_12 := hT.gi (gx.S hM) tt_6 (k := 3) rfl
    rw [fw_12] at bw_12
    have bw_12 : -2147483648 ≤ w_12.toInt ∧ w_12.toInt ≤ 2147483647 := bw_12
    refine hx_retz hx hb hr (hx_nar01 ?o18) hlk hW ⟨⟨to0, w_12, f_x_4, fw_12, (Or.inr ⟨?o19, (by rw [hv_sC_a (by omega) (by omega)]; exact (hv_b_and (by omega) (by omega) ex_1 ex_2).mp (by omega)), ?o20⟩)⟩, hT, hM⟩ dX6_tellOnce_19
    case o18 => omega
    case o19 => omega
    case o20 => omega


set_option maxHeartbeats 4000000 in
set_option maxRecDepth 100000 in
theorem t_X6_readTold_v (l : Launch) (dC : Nat → ClassId) (dI : Nat → Nat → Nat) (dA : Nat → ClassId) (L : List Nat) (h : hx_h) (sz : Nat) (b0 : hx_z) (x : Nat) (i1 : Int32) (hT : hx_T T_tb L h) (gx : hx_g L h x 6) (qt : Nat) (gqt : hx_g L h qt 42) (f_x_0 : h.2.2 x 0 = some qt) (qi : Nat) (gqi : hx_g L h qi 129) (f_x_6 : h.2.2 x 6 = some qi) (qd : Nat) (gqd : hx_g L h qd 127) (f_qi_2 : h.2.2 qi 2 = some qd) (tf : Nat → Int32) (af_qt : h.2.1 qt = tf) (df : Nat → Int32) (af_qd : h.2.1 qd = df) (at0 : Int32) (f_x_2 : h.2.1 x 2 = at0) (ln0 : Int32) (f_x_1 : h.2.1 x 1 = ln0) (ft0 : Int32) (f_x_3 : h.2.1 x 3 = ft0) (hi1 : 1 ≤ i1.toInt ∧ i1.toInt ≤ 13) (hA : at0.toInt ≤ ln0.toInt) : Met l yX6_readTold (Cond.code yX6_readTold cX6_readTold 4 (some .boolean) :: hx_all) ({ frames := 2, cells := 0, slots := 0, locals := 43 }) (va_Pc [.ref x, .int i1] (hx_BX T_tb (P_ty dA) (dC, dI) vwCl L h sz b0)) (va_Qi (fun (r : Int32) (u : List Nat × hx_h) => (∃ (at1 : Int32) (ft1 : Int32) (df1 : Nat → Int32), u.2.2.1 x 2 = at1 ∧ u.2.2.1 x 3 = ft1 ∧ u.2.2.1 qd = df1 ∧ (hv_N (hv_num tf ln0.toInt.toNat at0.toInt.toNat (hv_lo (i1.toInt - 1).toNat) (hv_hi (i1.toInt - 1).toNat)) r.toInt ft1.toInt ft0.toInt at1.toInt df df1 i1.toNatClampNeg ∧ (r.toInt = 1 → at0.toInt < at1.toInt ∧ at1.toInt ≤ ln0.toInt))) ∧ hx_T T_tb u.1 u.2 ∧ hx_S T_tb [(6, 2), (6, 3), (127, 0)] L h u.1 u.2) (hx_E T_tb (P_ty dA) (dC, dI) vwCl (hx_A L sz)) (hx_A L sz)) 0 0 (hx_A L sz) := by
  refine hx_metX (lv := [(0, .ref x), (1, .int i1)]) (by decide +kernel) rfl (Nat.le_of_ble_eq_true rfl) rfl ?_
  intro p e s m below meth c hx hb hml hr hlk hts0 hown hin hsz hW hZ ls hl
  have hts : ∀ w ∈ hx_all, w.before _ s = true := fun w hw => hts0 w (List.mem_cons_of_mem _ hw)
  have hown : s.vm.findClass "SmallCourt$Reader" = some m.cls := hown
  have hM : hx_S T_tb [(6, 2), (6, 3), (127, 0)] L h L h := hx_S.rf
  obtain ⟨zLT, zLA, zMT, zMA, zCS, zSF, zVS, zVR⟩ := hZ.2.2.2.2.2.2
  have b_at0 := hT.gi gx tt_6 (k := 2) rfl
  rw [f_x_2] at b_at0
  have b_at0 : 0 ≤ at0.toInt ∧ at0.toInt ≤ 402 := b_at0
  have b_ln0 := hT.gi gx tt_6 (k := 1) rfl
  rw [f_x_1] at b_ln0
  have b_ln0 : 0 ≤ ln0.toInt ∧ ln0.toInt ≤ 400 := b_ln0
  have b_ft0 := hT.gi gx tt_6 (k := 3) rfl
  rw [f_x_3] at b_ft0
  have b_ft0 : -2147483648 ≤ ft0.toInt ∧ ft0.toInt ≤ 2147483647 := b_ft0
  refine lv_aload_n hx hb dX6_readTold_0 rfl (lv_at hl 0 rfl) ?_
  refine hx_gov (hx_runV (As := []) (rest := []) ⟨hx, hb, hml, hown, hts⟩ hW (gx.S hM) tt_6 (T := TX6) (N := 7) rfl (t_X6_skipBlanks_v l dC dI dA L h s.heap.size x hT (gx.S hM) qt (gqt.S hM) ((hM.o gx trivial rfl).2.trans f_x_0) tf (hx_afS hM gqt rfl af_qt) at0 f_x_2 ln0 ((hM.o gx trivial rfl).1.trans f_x_1) ?o0) (cwV 0 hts (hx_gV kw_458 kw_455 kw_457 kw_1 kw_95) rfl rfl rfl (by decide +kernel) ⟨Nat.le_of_ble_eq_true rfl, Nat.le_of_ble_eq_true rfl⟩) rfl hl.1 rfl (Nat.le_of_ble_eq_true rfl) dX6_readTold_1 ⟨Nat.le_of_ble_eq_true rfl, Nat.le_of_ble_eq_true rfl⟩) hW (fun L_1 h_2 H locs p_4 hW => ?_)
  case o0 => omega
  obtain ⟨⟨w_6, fw_6, hr_5⟩, hT, hs⟩ := p_4
  replace hT : hx_T T_tb L_1 h_2 := hT
  replace hs : hx_S T_tb [(6, 2)] L h L_1 h_2 := hs
  replace f_x_3 := (hs.o (gx.S hM) trivial rfl).1.trans f_x_3
  replace af_qd : h_2.2.1 qd = df := (funext fun j => (hs.a (gqd.S hM) rfl j).1).trans af_qd
  replace hM := hM.tr (hs.mono ?o1)
  case o1 => decide
  have fw_6 : h_2.2.1 x 2 = w_6 := fw_6
  have bw_6 := hT.gi (gx.S hM) tt_6 (k := 2) rfl
  rw [fw_6] at bw_6
  have bw_6 : 0 ≤ w_6.toInt ∧ w_6.toInt ≤ 402 := bw_6
  have ek_7 : w_6.toInt.toNat = hv_sk tf ln0.toInt.toNat at0.toInt.toNat := ?o2
  case o2 => omega
  refine lv_aload_n hx hb dX6_readTold_4 rfl (lv_at hl 0 rfl) ?_
  refine hk_geti hx hb hts hC_6 hown hW (gx.S hM) tt_6 2 ?o3 rfl kw_127 ⟨rfl, rfl, rfl⟩ fw_6 dX6_readTold_5 ?_
  case o3 => decide
  refine lv_istore_n (lv' := [(2, .int w_6), (0, .ref x), (1, .int i1)]) hx hb dX6_readTold_8 rfl hl ?o4 rfl (fun ls hl => ?_)
  case o4 => decide
  refine lv_aload_n hx hb dX6_readTold_9 rfl (lv_at hl 1 rfl) ?_
  refine lv_aload_n hx hb dX6_readTold_10 rfl (lv_at hl 1 rfl) ?_
  refine hk_geti hx hb hts hC_6 hown hW (gx.S hM) tt_6 2 ?o5 rfl kw_127 ⟨rfl, rfl, rfl⟩ fw_6 dX6_readTold_11 ?_
  case o5 => decide
  refine hx_goi (hx_runV (As := [.int w_6]) (rest := []) ⟨hx, hb, hml, hown, hts⟩ hW (gx.S hM) tt_6 (T := TX6) (N := 7) rfl (t_X6_isDigit_v l dC dI dA L_1 h_2 H.size x w_6 hT (gx.S hM) qt (gqt.S hM) ((hM.o gx trivial rfl).2.trans f_x_0) tf (hx_afS hM gqt rfl af_qt) ln0 ((hM.o gx trivial rfl).1.trans f_x_1) ?o6) (cwV 1 hts (hx_gV kw_544 kw_541 kw_543 kw_10 kw_95) rfl rfl rfl (by decide +kernel) ⟨Nat.le_of_ble_eq_true rfl, Nat.le_of_ble_eq_true rfl⟩) rfl hl.1 rfl (Nat.le_of_ble_eq_true rfl) dX6_readTold_14 ⟨Nat.le_of_ble_eq_true rfl, Nat.le_of_ble_eq_true rfl⟩) hW (fun r_10 L_8 h_9 H locs p_11 hW => ?_)
  case o6 => omega
  obtain ⟨hr_12, hT, hs⟩ := p_11
  replace hT : hx_T T_tb L_8 h_9 := hT
  replace hs : hx_S T_tb [] L_1 h_2 L_8 h_9 := hs
  replace f_x_3 := (hs.o (gx.S hM) trivial rfl).1.trans f_x_3
  replace fw_6 := (hs.o (gx.S hM) trivial rfl).1.trans fw_6
  replace af_qd : h_9.2.1 qd = df := (funext fun j => (hs.a (gqd.S hM) rfl j).1).trans af_qd
  replace hM := hM.tr (hs.mono ?o7)
  case o7 => decide
  refine hb_if_ne (zx := r_10.toInt) (tgt := 27) hx hb rfl dX6_readTold_17 ?o8 (fun c_13 => ?_) (fun c_13 => ?_)
  case o8 => decide
  · skip
    refine lv_aload_n hx hb dX6_readTold_27 rfl (lv_at hl 1 rfl) ?_
    refine hx_goi (hx_runV (As := []) (rest := []) ⟨hx, hb, hml, hown, hts⟩ hW (gx.S hM) tt_6 (T := TX6) (N := 7) rfl (t_X6_readNumber_v l dC dI dA L_8 h_9 H.size x hT (gx.S hM) qt (gqt.S hM) ((hM.o gx trivial rfl).2.trans f_x_0) tf (hx_afS hM gqt rfl af_qt) w_6 fw_6 ln0 ((hM.o gx trivial rfl).1.trans f_x_1) ?o9) (cwV 0 hts (hx_gV kw_548 kw_545 kw_547 kw_11 kw_95) rfl rfl rfl (by decide +kernel) ⟨Nat.le_of_ble_eq_true rfl, Nat.le_of_ble_eq_true rfl⟩) rfl hl.1 rfl (Nat.le_of_ble_eq_true rfl) dX6_readTold_28 ⟨Nat.le_of_ble_eq_true rfl, Nat.le_of_ble_eq_true rfl⟩) hW (fun r_16 L_14 h_15 H locs p_17 hW => ?_)
    case o9 => omega
    obtain ⟨⟨w_19, fw_19, hr_18⟩, hT, hs⟩ := p_17
    replace hT : hx_T T_tb L_14 h_15 := hT
    replace hs : hx_S T_tb [(6, 2)] L_8 h_9 L_14 h_15 := hs
    replace f_x_3 := (hs.o (gx.S hM) trivial rfl).1.trans f_x_3
    replace af_qd : h_15.2.1 qd = df := (funext fun j => (hs.a (gqd.S hM) rfl j).1).trans af_qd
    replace hM := hM.tr (hs.mono ?o10)
    case o10 => decide
    have fw_19 : h_15.2.1 x 2 = w_19 := fw_19
    have bw_19 := hT.gi (gx.S hM) tt_6 (k := 2) rfl
    rw [fw_19] at bw_19
    have bw_19 : 0 ≤ w_19.toInt ∧ w_19.toInt ≤ 402 := bw_19
    refine lv_istore_n (lv' := [(3, .int r_16), (2, .int w_6), (0, .ref x), (1, .int i1)]) hx hb dX6_readTold_31 rfl hl ?o11 rfl (fun ls hl => ?_)
    case o11 => decide
    refine lv_iload_n hx hb dX6_readTold_32 rfl (lv_at hl 0 rfl) ?_
    refine va_getsN hx hb zLT hW.2.2.2.1 hown (va_Nw.use rfl (hZ.1 _ (List.mem_of_getElem? (i := 7) rfl))) (fun _ h9 => h9) dX6_readTold_33 ?_
    refine lv_iload_n hx hb dX6_readTold_36 rfl (lv_at hl 3 rfl) ?_
    refine va_ti hx hb zLA hW.2.2.2.1 (vp_in_iff.mpr ⟨?o12, ?o13⟩) rfl dX6_readTold_37 ?_
    case o12 => omega
    case o13 => omega
    refine lv_topi (fun x_20 ex_20 => ?_)
    have hlo : x_20.toInt = hv_lo (i1.toInt - 1).toNat := ?o14
    case o14 =>
      have h9 := hv_ltv i1.toNatClampNeg (by unfold Int32.toNatClampNeg; omega) (by unfold Int32.toNatClampNeg; omega) x_20 (congrArg Value.int ex_20)
      rw [h9]
      congr 1
      unfold Int32.toNatClampNeg
      omega
    refine hb_icmp_lt (zx := r_16.toInt) (zy := x_20.toInt) (tgt := 50) hx hb rfl rfl dX6_readTold_38 ?o15 (fun c_21 => ?_) (fun c_21 => ?_)
    case o15 => decide
    · skip
      refine lv_aload_n hx hb dX6_readTold_50 rfl (lv_at hl 2 rfl) ?_
      refine lv_iload_n hx hb dX6_readTold_51 rfl (lv_at hl 1 rfl) ?_
      refine lv_iconst (v := 1) hx hb dX6_readTold_52 ?o16 ?_
      case o16 => decide
      have zc_1 : (1 : Int32).toInt = 1 := ?o17
      case o17 => decide
      refine hx_goi (hx_runV (As := [.int w_6, .int (1 : Int32)]) (rest := []) ⟨hx, hb, hml, hown, hts⟩ hW (gx.S hM) tt_6 (T := TX6) (N := 7) rfl (t_X6_refuse_v l dC dI dA L_14 h_15 H.size x w_6 (1 : Int32) hT (gx.S hM) ⟨?o18, ?o19⟩ ?o20) (cwV 2 hts (hx_gV kw_527 kw_524 kw_526 kw_6 kw_95) rfl rfl rfl (by decide +kernel) ⟨Nat.le_of_ble_eq_true rfl, Nat.le_of_ble_eq_true rfl⟩) rfl hl.1 rfl (Nat.le_of_ble_eq_true rfl) dX6_readTold_53 ⟨Nat.le_of_ble_eq_true rfl, Nat.le_of_ble_eq_true rfl⟩) hW (fun r_24 L_22 h_23 H locs p_25 hW => ?_)
      case o18 => omega
      case o19 => omega
      case o20 => decide
      obtain ⟨⟨w_27, fw_27, hr_26⟩, hT, hs⟩ := p_25
      replace hT : hx_T T_tb L_22 h_23 := hT
      replace hs : hx_S T_tb [(6, 3)] L_14 h_15 L_22 h_23 := hs
      replace fw_19 := (hs.o (gx.S hM) trivial rfl).1.trans fw_19
      replace af_qd : h_23.2.1 qd = df := (funext fun j => (hs.a (gqd.S hM) rfl j).1).trans af_qd
      replace hM := hM.tr (hs.mono ?o21)
      case o21 => decide
      have fw_27 : h_23.2.1 x 3 = w_27 := fw_27
      have bw_27 := hT.gi (gx.S hM) tt_6 (k := 3) rfl
      rw [fw_27] at bw_27
      have bw_27 : -2147483648 ≤ w_27.toInt ∧ w_27.toInt ≤ 2147483647 := bw_27
      have hlb := hv_lo_b (i1.toInt - 1).toNat
      refine hx_retz hx hb hr (hx_nar01 ?o22) hlk hW ⟨⟨w_19, w_27, df, fw_19, fw_27, af_qd, ⟨(Or.inr ⟨?o23, ?o24, (hv_num_2 (by rw [← ek_7]; rcases hr_12 with z | z; exact ⟨by omega, z.2.2⟩; exfalso; omega) (by rw [← ek_7]; omega)).trans (by rw [← ek_7]; congr 1; omega)⟩), ?o25⟩⟩, hT, hM⟩ dX6_readTold_56
      case o22 => omega
      case o23 => omega
      case o24 => omega
      case o25 => omega
    · skip
      refine lv_iload_n hx hb dX6_readTold_41 rfl (lv_at hl 0 rfl) ?_
      refine va_getsN hx hb zMT hW.2.2.2.1 hown (va_Nw.use rfl (hZ.1 _ (List.mem_of_getElem? (i := 8) rfl))) (fun _ h9 => h9) dX6_readTold_42 ?_
      refine lv_iload_n hx hb dX6_readTold_45 rfl (lv_at hl 3 rfl) ?_
      refine va_ti hx hb zMA hW.2.2.2.1 (vp_in_iff.mpr ⟨?o26, ?o27⟩) rfl dX6_readTold_46 ?_
      case o26 => omega
      case o27 => omega
      refine lv_topi (fun x_28 ex_28 => ?_)
      have hhi : x_28.toInt = hv_hi (i1.toInt - 1).toNat := ?o28
      case o28 =>
        have h9 := hv_mtv i1.toNatClampNeg (by unfold Int32.toNatClampNeg; omega) (by unfold Int32.toNatClampNeg; omega) x_28 (congrArg Value.int ex_28)
        rw [h9]
        congr 1
        unfold Int32.toNatClampNeg
        omega
      refine hb_icmp_le (zx := r_16.toInt) (zy := x_28.toInt) (tgt := 57) hx hb rfl rfl dX6_readTold_47 ?o29 (fun c_29 => ?_) (fun c_29 => ?_)
      case o29 => decide
      · skip
        refine lv_aload_n hx hb dX6_readTold_57 rfl (lv_at hl 2 rfl) ?_
        refine hk_getr hx hb hts hC_6 hown hW (gx.S hM) tt_6 6 ?o30 rfl kw_131 ⟨rfl, rfl, rfl⟩ ((hM.o gx trivial rfl).2.trans f_x_6) dX6_readTold_58 ?_
        case o30 => decide
        refine hk_getr hx hb hts hC_0 hown hW (gqi.S hM) tt_129 2 ?o31 rfl kw_171 ⟨rfl, rfl, rfl⟩ ((hM.o gqi trivial rfl).2.trans f_qi_2) dX6_readTold_61 ?_
        case o31 => decide
        refine lv_iload_n hx hb dX6_readTold_64 rfl (lv_at hl 3 rfl) ?_
        refine lv_iload_n hx hb dX6_readTold_65 rfl (lv_at hl 0 rfl) ?_
        have af_qdO := af_qd
        refine hx_iast hx hb hW hT (hx_S.rf (M := [(127, 0)])) (gqd.S hM) tt_127 rfl ⟨?o32, ?o33⟩ rfl (i32_r _) (List.mem_singleton.mpr rfl) dX6_readTold_66 (fun H locs h_30 eh_30 hW hT hs => ?_)
        case o32 => omega
        case o33 => omega
        replace f_x_3 := (hs.o (gx.S hM) trivial rfl).1.trans f_x_3
        replace fw_19 := (hs.o (gx.S hM) trivial rfl).1.trans fw_19
        replace hM := hM.tr (hs.mono ?o34)
        case o34 => decide
        obtain ⟨fa_31, dfa_31⟩ : ∃ g : Nat → Int32, g = hx_up df i1.toNatClampNeg r_16 := ⟨_, rfl⟩
        have nfa_31 : h_30.2.1 qd = fa_31 := ?o35
        case o35 =>
          rw [eh_30, dfa_31, ← af_qdO]
          exact hx_pi_fun _ _ _ _
        refine lv_iconst (v := 1) hx hb dX6_readTold_67 ?o36 ?_
        case o36 => decide
        have hlb := hv_lo_b (i1.toInt - 1).toNat
        have hdg9 : w_6.toInt.toNat < hv_de tf ln0.toInt.toNat w_6.toInt.toNat ∧ hv_de tf ln0.toInt.toNat w_6.toInt.toNat ≤ ln0.toInt.toNat := hv_de_gt ?o37 (by rcases hr_12 with z | z; exact z.2.2; exfalso; omega)
        case o37 => omega
        refine hx_retz hx hb hr rfl hlk hW ⟨⟨w_19, ft0, fa_31, fw_19, f_x_3, nfa_31, ⟨(Or.inl ⟨?o38, rfl, r_16, (hv_num_3 (by rw [← ek_7]; rcases hr_12 with z | z; exact ⟨by omega, z.2.2⟩; exfalso; omega) (by rw [← ek_7]; omega) (by rw [← ek_7]; omega) (by rw [← ek_7]; omega)).trans (by rw [← ek_7, show hv_dv tf w_6.toInt.toNat (hv_de tf ln0.toInt.toNat w_6.toInt.toNat - w_6.toInt.toNat) = r_16.toInt by omega, show hv_de tf ln0.toInt.toNat w_6.toInt.toNat = w_19.toInt.toNat by omega]), dfa_31⟩), ?o39⟩⟩, hT, hM⟩ dX6_readTold_68
        case o38 => decide
        case o39 => omega
      · skip
        refine lv_aload_n hx hb dX6_readTold_50 rfl (lv_at hl 2 rfl) ?_
        refine lv_iload_n hx hb dX6_readTold_51 rfl (lv_at hl 1 rfl) ?_
        refine lv_iconst (v := 1) hx hb dX6_readTold_52 ?o40 ?_
        case o40 => decide
        have zc_1 : (1 : Int32).toInt = 1 := ?o41
        case o41 => decide
        refine hx_goi (hx_runV (As := [.int w_6, .int (1 : Int32)]) (rest := []) ⟨hx, hb, hml, hown, hts⟩ hW (gx.S hM) tt_6 (T := TX6) (N := 7) rfl (t_X6_refuse_v l dC dI dA L_14 h_15 H.size x w_6 (1 : Int32) hT (gx.S hM) ⟨?o42, ?o43⟩ ?o44) (cwV 2 hts (hx_gV kw_527 kw_524 kw_526 kw_6 kw_95) rfl rfl rfl (by decide +kernel) ⟨Nat.le_of_ble_eq_true rfl, Nat.le_of_ble_eq_true rfl⟩) rfl hl.1 rfl (Nat.le_of_ble_eq_true rfl) dX6_readTold_53 ⟨Nat.le_of_ble_eq_true rfl, Nat.le_of_ble_eq_true rfl⟩) hW (fun r_34 L_32 h_33 H locs p_35 hW => ?_)
        case o42 => omega
        case o43 => omega
        case o44 => decide
        obtain ⟨⟨w_37, fw_37, hr_36⟩, hT, hs⟩ := p_35
        replace hT : hx_T T_tb L_32 h_33 := hT
        replace hs : hx_S T_tb [(6, 3)] L_14 h_15 L_32 h_33 := hs
        replace fw_19 := (hs.o (gx.S hM) trivial rfl).1.trans fw_19
        replace af_qd : h_33.2.1 qd = df := (funext fun j => (hs.a (gqd.S hM) rfl j).1).trans af_qd
        replace hM := hM.tr (hs.mono ?o45)
        case o45 => decide
        have fw_37 : h_33.2.1 x 3 = w_37 := fw_37
        have bw_37 := hT.gi (gx.S hM) tt_6 (k := 3) rfl
        rw [fw_37] at bw_37
        have bw_37 : -2147483648 ≤ w_37.toInt ∧ w_37.toInt ≤ 2147483647 := bw_37
        have hlb := hv_lo_b (i1.toInt - 1).toNat
        refine hx_retz hx hb hr (hx_nar01 ?o46) hlk hW ⟨⟨w_19, w_37, df, fw_19, fw_37, af_qd, ⟨(Or.inr ⟨?o47, ?o48, (hv_num_2 (by rw [← ek_7]; rcases hr_12 with z | z; exact ⟨by omega, z.2.2⟩; exfalso; omega) (by rw [← ek_7]; omega)).trans (by rw [← ek_7]; congr 1; omega)⟩), ?o49⟩⟩, hT, hM⟩ dX6_readTold_56
        case o46 => omega
        case o47 => omega
        case o48 => omega
        case o49 => omega
  · skip
    refine lv_aload_n hx hb dX6_readTold_20 rfl (lv_at hl 1 rfl) ?_
    refine lv_iload_n hx hb dX6_readTold_21 rfl (lv_at hl 0 rfl) ?_
    refine lv_iconst (v := 0) hx hb dX6_readTold_22 ?o50 ?_
    case o50 => decide
    have zc_0 : (0 : Int32).toInt = 0 := ?o51
    case o51 => decide
    refine hx_goi (hx_runV (As := [.int w_6, .int (0 : Int32)]) (rest := []) ⟨hx, hb, hml, hown, hts⟩ hW (gx.S hM) tt_6 (T := TX6) (N := 7) rfl (t_X6_refuse_v l dC dI dA L_8 h_9 H.size x w_6 (0 : Int32) hT (gx.S hM) ⟨?o52, ?o53⟩ ?o54) (cwV 2 hts (hx_gV kw_527 kw_524 kw_526 kw_6 kw_95) rfl rfl rfl (by decide +kernel) ⟨Nat.le_of_ble_eq_true rfl, Nat.le_of_ble_eq_true rfl⟩) rfl hl.1 rfl (Nat.le_of_ble_eq_true rfl) dX6_readTold_23 ⟨Nat.le_of_ble_eq_true rfl, Nat.le_of_ble_eq_true rfl⟩) hW (fun r_40 L_38 h_39 H locs p_41 hW => ?_)
    case o52 => omega
    case o53 => omega
    case o54 => decide
    obtain ⟨⟨w_43, fw_43, hr_42⟩, hT, hs⟩ := p_41
    replace hT : hx_T T_tb L_38 h_39 := hT
    replace hs : hx_S T_tb [(6, 3)] L_8 h_9 L_38 h_39 := hs
    replace fw_6 := (hs.o (gx.S hM) trivial rfl).1.trans fw_6
    replace af_qd : h_39.2.1 qd = df := (funext fun j => (hs.a (gqd.S hM) rfl j).1).trans af_qd
    replace hM := hM.tr (hs.mono ?o55)
    case o55 => decide
    have fw_43 : h_39.2.1 x 3 = w_43 := fw_43
    have bw_43 := hT.gi (gx.S hM) tt_6 (k := 3) rfl
    rw [fw_43] at bw_43
    have bw_43 : -2147483648 ≤ w_43.toInt ∧ w_43.toInt ≤ 2147483647 := bw_43
    refine hx_retz hx hb hr (hx_nar01 ?o56) hlk hW ⟨⟨w_6, w_43, df, fw_6, fw_43, af_qd, ⟨(Or.inr ⟨?o57, ?o58, (hv_num_1 (by rw [← ek_7]; rcases hr_12 with z | z; (exfalso; omega); exact fun z9 => z.2 (by omega))).trans (by rw [← ek_7]; congr 1; omega)⟩), ?o59⟩⟩, hT, hM⟩ dX6_readTold_26
    case o56 => omega
    case o57 => omega
    case o58 => omega
    case o59 => omega


set_option maxHeartbeats 4000000 in
set_option maxRecDepth 100000 in
theorem t_X6_readCost_v (l : Launch) (dC : Nat → ClassId) (dI : Nat → Nat → Nat) (dA : Nat → ClassId) (L : List Nat) (h : hx_h) (sz : Nat) (b0 : hx_z) (x : Nat) (hT : hx_T T_tb L h) (gx : hx_g L h x 6) (qt : Nat) (gqt : hx_g L h qt 42) (f_x_0 : h.2.2 x 0 = some qt) (qi : Nat) (gqi : hx_g L h qi 129) (f_x_6 : h.2.2 x 6 = some qi) (qd : Nat) (gqd : hx_g L h qd 127) (f_qi_2 : h.2.2 qi 2 = some qd) (tf : Nat → Int32) (af_qt : h.2.1 qt = tf) (df : Nat → Int32) (af_qd : h.2.1 qd = df) (at0 : Int32) (f_x_2 : h.2.1 x 2 = at0) (ln0 : Int32) (f_x_1 : h.2.1 x 1 = ln0) (ft0 : Int32) (f_x_3 : h.2.1 x 3 = ft0) (to0 : Int32) (f_x_4 : h.2.1 x 4 = to0) (ls9 : List Int) (o : List hv_tok) (hO : ls9 = o.map hv_cc) (hF : ft0.toInt = 0) (hA : at0.toInt ≤ ln0.toInt) : Met l yX6_readCost (Cond.code yX6_readCost cX6_readCost 3 (some .boolean) :: hx_all) ({ frames := 6, cells := 0, slots := 0, locals := 133 }) (va_Pc [.ref x] (hx_BX T_tb (P_ty dA) (dC, dI) vwCl L h sz b0)) (va_Qi (fun (r : Int32) (u : List Nat × hx_h) => (∃ (at1 : Int32) (ft1 : Int32) (to1 : Int32) (df1 : Nat → Int32), u.2.2.1 x 2 = at1 ∧ u.2.2.1 x 3 = ft1 ∧ u.2.2.1 x 4 = to1 ∧ u.2.2.1 qd = df1 ∧ (hv_CK hv_cc (hv_co tf ln0.toInt.toNat (hv_sk tf ln0.toInt.toNat at0.toInt.toNat) (hv_sC to0) (hv_rC df) o) r.toInt ft1.toInt at1.toInt (hv_sC to1) (hv_rC df1) ls9 ∧ (r.toInt = 1 → at0.toInt < at1.toInt ∧ at1.toInt ≤ ln0.toInt ∧ hv_sC to1 13 = hv_sC to0 13))) ∧ hx_T T_tb u.1 u.2 ∧ hx_S T_tb [(6, 2), (6, 3), (6, 4), (127, 0)] L h u.1 u.2) (hx_E T_tb (P_ty dA) (dC, dI) vwCl (hx_A L sz)) (hx_A L sz)) 0 0 (hx_A L sz) := by
  refine hx_metX (lv := [(0, .ref x)]) (by decide +kernel) rfl (Nat.le_of_ble_eq_true rfl) rfl ?_
  intro p e s m below meth c hx hb hml hr hlk hts0 hown hin hsz hW hZ ls hl
  have hts : ∀ w ∈ hx_all, w.before _ s = true := fun w hw => hts0 w (List.mem_cons_of_mem _ hw)
  have hown : s.vm.findClass "SmallCourt$Reader" = some m.cls := hown
  have hM : hx_S T_tb [(6, 2), (6, 3), (6, 4), (127, 0)] L h L h := hx_S.rf
  obtain ⟨zLT, zLA, zMT, zMA, zCS, zSF, zVS, zVR⟩ := hZ.2.2.2.2.2.2
  have b_at0 := hT.gi gx tt_6 (k := 2) rfl
  rw [f_x_2] at b_at0
  have b_at0 : 0 ≤ at0.toInt ∧ at0.toInt ≤ 402 := b_at0
  have b_ln0 := hT.gi gx tt_6 (k := 1) rfl
  rw [f_x_1] at b_ln0
  have b_ln0 : 0 ≤ ln0.toInt ∧ ln0.toInt ≤ 400 := b_ln0
  have b_ft0 := hT.gi gx tt_6 (k := 3) rfl
  rw [f_x_3] at b_ft0
  have b_ft0 : -2147483648 ≤ ft0.toInt ∧ ft0.toInt ≤ 2147483647 := b_ft0
  have b_to0 := hT.gi gx tt_6 (k := 4) rfl
  rw [f_x_4] at b_to0
  have b_to0 : -2147483648 ≤ to0.toInt ∧ to0.toInt ≤ 2147483647 := b_to0
  refine lv_aload_n hx hb dX6_readCost_0 rfl (lv_at hl 0 rfl) ?_
  refine hx_gov (hx_runV (As := []) (rest := []) ⟨hx, hb, hml, hown, hts⟩ hW (gx.S hM) tt_6 (T := TX6) (N := 7) rfl (t_X6_skipBlanks_v l dC dI dA L h s.heap.size x hT (gx.S hM) qt (gqt.S hM) ((hM.o gx trivial rfl).2.trans f_x_0) tf (hx_afS hM gqt rfl af_qt) at0 f_x_2 ln0 ((hM.o gx trivial rfl).1.trans f_x_1) ?o0) (cwV 0 hts (hx_gV kw_458 kw_455 kw_457 kw_1 kw_95) rfl rfl rfl (by decide +kernel) ⟨Nat.le_of_ble_eq_true rfl, Nat.le_of_ble_eq_true rfl⟩) rfl hl.1 rfl (Nat.le_of_ble_eq_true rfl) dX6_readCost_1 ⟨Nat.le_of_ble_eq_true rfl, Nat.le_of_ble_eq_true rfl⟩) hW (fun L_1 h_2 H locs p_4 hW => ?_)
  case o0 => omega
  obtain ⟨⟨w_6, fw_6, hr_5⟩, hT, hs⟩ := p_4
  replace hT : hx_T T_tb L_1 h_2 := hT
  replace hs : hx_S T_tb [(6, 2)] L h L_1 h_2 := hs
  replace f_x_3 := (hs.o (gx.S hM) trivial rfl).1.trans f_x_3
  replace f_x_4 := (hs.o (gx.S hM) trivial rfl).1.trans f_x_4
  replace af_qd : h_2.2.1 qd = df := (funext fun j => (hs.a (gqd.S hM) rfl j).1).trans af_qd
  replace hM := hM.tr (hs.mono ?o1)
  case o1 => decide
  have fw_6 : h_2.2.1 x 2 = w_6 := fw_6
  have bw_6 := hT.gi (gx.S hM) tt_6 (k := 2) rfl
  rw [fw_6] at bw_6
  have bw_6 : 0 ≤ w_6.toInt ∧ w_6.toInt ≤ 402 := bw_6
  have ek_7 : w_6.toInt.toNat = hv_sk tf ln0.toInt.toNat at0.toInt.toNat := ?o2
  case o2 => omega
  refine lv_aload_n hx hb dX6_readCost_4 rfl (lv_at hl 0 rfl) ?_
  refine hk_geti hx hb hts hC_6 hown hW (gx.S hM) tt_6 2 ?o3 rfl kw_127 ⟨rfl, rfl, rfl⟩ fw_6 dX6_readCost_5 ?_
  case o3 => decide
  refine lv_istore_n (lv' := [(1, .int w_6), (0, .ref x)]) hx hb dX6_readCost_8 rfl hl ?o4 rfl (fun ls hl => ?_)
  case o4 => decide
  refine lv_aload_n hx hb dX6_readCost_9 rfl (lv_at hl 1 rfl) ?_
  refine va_ldcS (tx := P_st.getD 1 "") hx hb hown (zVR 1 ?o5) dX6_readCost_10 ?_
  case o5 => decide
  refine hx_goi (hx_runVX (As := [.ref (b0.2.2.2.1 1)]) (rest := []) ⟨hx, hb, hml, hown, hts⟩ hW (gx.S hM) tt_6 (T := TX6) (N := 7) rfl (t_X6_readWord_v l dC dI dA L_1 h_2 H.size b0 x 1 hT (gx.S hM) ?o6 qt (gqt.S hM) ((hM.o gx trivial rfl).2.trans f_x_0) tf (hx_afS hM gqt rfl af_qt) w_6 fw_6 ln0 ((hM.o gx trivial rfl).1.trans f_x_1) ?o7) hZ (cwV 1 hts (hx_gV kw_467 kw_464 kw_466 kw_3 kw_95) rfl rfl rfl (by decide +kernel) ⟨Nat.le_of_ble_eq_true rfl, Nat.le_of_ble_eq_true rfl⟩) rfl hl.1 rfl (Nat.le_of_ble_eq_true rfl) dX6_readCost_12 ⟨Nat.le_of_ble_eq_true rfl, Nat.le_of_ble_eq_true rfl⟩) hW (fun r_10 L_8 h_9 H locs p_11 hW => ?_)
  case o6 => decide
  case o7 => omega
  obtain ⟨⟨w_13, fw_13, hr_12⟩, hT, hs⟩ := p_11
  replace hT : hx_T T_tb L_8 h_9 := hT
  replace hs : hx_S T_tb [(6, 2)] L_1 h_2 L_8 h_9 := hs
  replace f_x_3 := (hs.o (gx.S hM) trivial rfl).1.trans f_x_3
  replace f_x_4 := (hs.o (gx.S hM) trivial rfl).1.trans f_x_4
  replace af_qd : h_9.2.1 qd = df := (funext fun j => (hs.a (gqd.S hM) rfl j).1).trans af_qd
  replace hM := hM.tr (hs.mono ?o8)
  case o8 => decide
  have fw_13 : h_9.2.1 x 2 = w_13 := fw_13
  have bw_13 := hT.gi (gx.S hM) tt_6 (k := 2) rfl
  rw [fw_13] at bw_13
  have bw_13 : 0 ≤ w_13.toInt ∧ w_13.toInt ≤ 402 := bw_13
  have eu_14 := hv_RW_1 hr_12.2.1
  refine lv_istore_n (lv' := [(2, .int r_10), (1, .int w_6), (0, .ref x)]) hx hb dX6_readCost_15 rfl hl ?o9 rfl (fun ls hl => ?_)
  case o9 => decide
  have sid : hv_sk tf ln0.toInt.toNat w_6.toInt.toNat = w_6.toInt.toNat := ?o10
  case o10 =>
    rw [ek_7]
    exact hv_sk_id
  have hrw := hr_12.1; rw [sid] at hrw eu_14
  refine lv_iload_n hx hb dX6_readCost_16 rfl (lv_at hl 0 rfl) ?_
  refine hb_if_ge (zx := r_10.toInt) (tgt := 27) hx hb rfl dX6_readCost_17 ?o11 (fun c_15 => ?_) (fun c_15 => ?_)
  case o11 => decide
  · skip
    have hst : 0 ≤ r_10.toInt ∧ r_10.toInt ≤ 3 ∧ hv_wd tf ln0.toInt.toNat w_6.toInt.toNat = 21 + r_10.toInt := ?o12
    case o12 => omega
    have ha1 : w_13.toInt.toNat = hv_we tf ln0.toInt.toNat w_6.toInt.toNat := ?o13
    case o13 => omega
    have hw3 := hv_wd_3 (T := tf) (n := ln0.toInt.toNat) (p := w_6.toInt.toNat) ?o14
    case o14 => omega
    refine lv_aload_n hx hb dX6_readCost_27 rfl (lv_at hl 2 rfl) ?_
    refine lv_bipush (v := 10) hx hb dX6_readCost_28 ?o15 ?_
    case o15 => decide
    refine lv_iload_n hx hb dX6_readCost_30 rfl (lv_at hl 0 rfl) ?_
    refine lv_iadd hx hb dX6_readCost_31 ?_
    have rg_16 := i32_r r_10
    refine lv_topi (fun x_17 ex_17 => ?_)
    have zx_17 : x_17.toInt = 10 + r_10.toInt := ?o16
    case o16 =>
      rw [ex_17]
      refine i32_add ?o17 rfl ?o18 ?o19
      case o17 => decide
      case o18 => omega
      case o19 => omega
    refine lv_iload_n hx hb dX6_readCost_32 rfl (lv_at hl 1 rfl) ?_
    refine hx_goi (hx_runV (As := [.int x_17, .int w_6]) (rest := []) ⟨hx, hb, hml, hown, hts⟩ hW (gx.S hM) tt_6 (T := TX6) (N := 7) rfl (t_X6_tellOnce_v l dC dI dA L_8 h_9 H.size x x_17 w_6 hT (gx.S hM) to0 f_x_4 ft0 f_x_3 ⟨?o20, ?o21⟩ ⟨?o22, ?o23⟩) (cwV 2 hts (hx_gV kw_536 kw_533 kw_535 kw_8 kw_95) rfl rfl rfl (by decide +kernel) ⟨Nat.le_of_ble_eq_true rfl, Nat.le_of_ble_eq_true rfl⟩) rfl hl.1 rfl (Nat.le_of_ble_eq_true rfl) dX6_readCost_33 ⟨Nat.le_of_ble_eq_true rfl, Nat.le_of_ble_eq_true rfl⟩) hW (fun r_20 L_18 h_19 H locs p_21 hW => ?_)
    case o20 => omega
    case o21 => omega
    case o22 => omega
    case o23 => omega
    obtain ⟨⟨w_23, w_24, fw_23, fw_24, hr_22⟩, hT, hs⟩ := p_21
    replace hT : hx_T T_tb L_18 h_19 := hT
    replace hs : hx_S T_tb [(6, 3), (6, 4)] L_8 h_9 L_18 h_19 := hs
    replace fw_13 := (hs.o (gx.S hM) trivial rfl).1.trans fw_13
    replace af_qd : h_19.2.1 qd = df := (funext fun j => (hs.a (gqd.S hM) rfl j).1).trans af_qd
    replace hM := hM.tr (hs.mono ?o24)
    case o24 => decide
    have fw_23 : h_19.2.1 x 4 = w_23 := fw_23
    have bw_23 := hT.gi (gx.S hM) tt_6 (k := 4) rfl
    rw [fw_23] at bw_23
    have bw_23 : -2147483648 ≤ w_23.toInt ∧ w_23.toInt ≤ 2147483647 := bw_23
    have fw_24 : h_19.2.1 x 3 = w_24 := fw_24
    have bw_24 := hT.gi (gx.S hM) tt_6 (k := 3) rfl
    rw [fw_24] at bw_24
    have bw_24 : -2147483648 ≤ w_24.toInt ∧ w_24.toInt ≤ 2147483647 := bw_24
    refine hb_if_eq (zx := r_20.toInt) (tgt := 54) hx hb rfl dX6_readCost_36 ?o25 (fun c_25 => ?_) (fun c_25 => ?_)
    case o25 => decide
    · skip
      refine lv_iconst (v := 0) hx hb dX6_readCost_54 ?o26 ?_
      case o26 => decide
      refine hx_retz hx hb hr rfl hlk hW ⟨⟨w_13, w_24, w_23, df, fw_13, fw_24, fw_23, af_qd, ⟨(hv_CK_f (x := 3 + 8 * w_6.toInt.toNat) ?o27 ?o28 ?o29 (by rw [← ek_7]; exact hv_co_2 (by omega) (by rw [show (hv_wd tf ln0.toInt.toNat w_6.toInt.toNat - 12).toNat = (x_17.toInt - 1).toNat by omega]; rcases hr_22 with z | z; (exfalso; omega); exact z.2.1))), (fun z9 => absurd z9 ?o30)⟩⟩, hT, hM⟩ dX6_readCost_55
      case o27 => decide
      case o28 => omega
      case o29 => omega
      case o30 => decide
    · skip
      refine lv_aload_n hx hb dX6_readCost_39 rfl (lv_at hl 2 rfl) ?_
      refine lv_bipush (v := 10) hx hb dX6_readCost_40 ?o31 ?_
      case o31 => decide
      refine lv_iload_n hx hb dX6_readCost_42 rfl (lv_at hl 0 rfl) ?_
      refine lv_iadd hx hb dX6_readCost_43 ?_
      refine lv_topi (fun x_26 ex_26 => ?_)
      have zx_26 : x_26.toInt = 10 + r_10.toInt := ?o32
      case o32 =>
        rw [ex_26]
        refine i32_add ?o33 rfl ?o34 ?o35
        case o33 => decide
        case o34 => omega
        case o35 => omega
      obtain rfl : x_17 = x_26 := ex_17.trans ex_26.symm
      refine hx_goi (hx_runVX (As := [.int x_17]) (rest := []) ⟨hx, hb, hml, hown, hts⟩ hW (gx.S hM) tt_6 (T := TX6) (N := 7) rfl (t_X6_readTold_v l dC dI dA L_18 h_19 H.size b0 x x_17 hT (gx.S hM) qt (gqt.S hM) ((hM.o gx trivial rfl).2.trans f_x_0) qi (gqi.S hM) ((hM.o gx trivial rfl).2.trans f_x_6) qd (gqd.S hM) ((hM.o gqi trivial rfl).2.trans f_qi_2) tf (hx_afS hM gqt rfl af_qt) df af_qd w_13 fw_13 ln0 ((hM.o gx trivial rfl).1.trans f_x_1) w_24 fw_24 ⟨?o36, ?o37⟩ ?o38) hZ (cwV 1 hts (hx_gV kw_540 kw_537 kw_539 kw_9 kw_95) rfl rfl rfl (by decide +kernel) ⟨Nat.le_of_ble_eq_true rfl, Nat.le_of_ble_eq_true rfl⟩) rfl hl.1 rfl (Nat.le_of_ble_eq_true rfl) dX6_readCost_44 ⟨Nat.le_of_ble_eq_true rfl, Nat.le_of_ble_eq_true rfl⟩) hW (fun r_29 L_27 h_28 H locs p_30 hW => ?_)
      case o36 => omega
      case o37 => omega
      case o38 => omega
      obtain ⟨⟨w_32, w_33, w_34, fw_32, fw_33, fw_34, hr_31⟩, hT, hs⟩ := p_30
      replace hT : hx_T T_tb L_27 h_28 := hT
      replace hs : hx_S T_tb [(6, 2), (6, 3), (127, 0)] L_18 h_19 L_27 h_28 := hs
      replace fw_23 := (hs.o (gx.S hM) trivial rfl).1.trans fw_23
      replace hM := hM.tr (hs.mono ?o39)
      case o39 => decide
      have fw_32 : h_28.2.1 x 2 = w_32 := fw_32
      have bw_32 := hT.gi (gx.S hM) tt_6 (k := 2) rfl
      rw [fw_32] at bw_32
      have bw_32 : 0 ≤ w_32.toInt ∧ w_32.toInt ≤ 402 := bw_32
      have fw_33 : h_28.2.1 x 3 = w_33 := fw_33
      have bw_33 := hT.gi (gx.S hM) tt_6 (k := 3) rfl
      rw [fw_33] at bw_33
      have bw_33 : -2147483648 ≤ w_33.toInt ∧ w_33.toInt ≤ 2147483647 := bw_33
      have fw_34 : h_28.2.1 qd = w_34 := fw_34
      have hr_31B := hr_31.2
      have hr_31b := hv_N_b hr_31.1
      refine hb_if_eq (zx := r_29.toInt) (tgt := 54) hx hb rfl dX6_readCost_47 ?o40 (fun c_35 => ?_) (fun c_35 => ?_)
      case o40 => decide
      · skip
        refine lv_iconst (v := 0) hx hb dX6_readCost_54 ?o41 ?_
        case o41 => decide
        refine hx_retz hx hb hr rfl hlk hW ⟨⟨w_32, w_33, w_23, w_34, fw_32, fw_33, fw_23, fw_34, ⟨(hv_CK_f (x := w_33.toInt.toNat) ?o42 (by have h8 := (hv_N_0 hr_31.1 (by omega)).1; omega) (by have h8 := (hv_N_0 hr_31.1 (by omega)).1; omega) (by rw [← ek_7]; exact hv_co_3 (by omega) (by rw [show (hv_wd tf ln0.toInt.toNat w_6.toInt.toNat - 12).toNat = (x_17.toInt - 1).toNat by omega]; rcases hr_22 with z | z; exact z.2.2.1; exfalso; omega) (by have h8 := (hv_N_0 hr_31.1 (by omega)).2; rw [ha1, hv_lo9 (by omega), hv_hi9 (by omega)] at h8; exact h8))), (fun z9 => absurd z9 ?o43)⟩⟩, hT, hM⟩ dX6_readCost_55
        case o42 => decide
        case o43 => decide
      · skip
        obtain ⟨n1_36F, nv_37, n1_36N, n1_36D⟩ := hv_N_1 hr_31.1 (by omega)
        refine lv_iconst (v := 1) hx hb dX6_readCost_50 ?o44 ?_
        case o44 => decide
        refine lv_goto (tgt := 55) hx hb dX6_readCost_51 ?o45 ?_
        case o45 => decide
        refine hx_retz hx hb hr rfl hlk hW ⟨⟨w_32, w_33, w_23, w_34, fw_32, fw_33, fw_23, fw_34, ⟨(hv_CK_t (x := w_32.toInt.toNat) ?o46 ?o47 ?o48 (by rcases hr_22 with z | z; exact z.2.2.2; exfalso; omega) (hv_rC_u ?o49 ?o50 n1_36D) hO (by rw [← ek_7]; have h7 := hv_co_5 (T := tf) (n := ln0.toInt.toNat) (q := w_6.toInt.toNat) (sn := hv_sC to0) (rd := hv_rC df) (o := o) (by omega) (by rw [show (hv_wd tf ln0.toInt.toNat w_6.toInt.toNat - 12).toNat = (x_17.toInt - 1).toNat by omega]; rcases hr_22 with z | z; exact z.2.2.1; exfalso; omega) (by have h8 := n1_36N; rw [ha1, hv_lo9 (by omega), hv_hi9 (by omega)] at h8; exact h8); rw [show (hv_wd tf ln0.toInt.toNat w_6.toInt.toNat - 12).toNat = (x_17.toInt - 1).toNat by omega] at h7; exact h7)), fun _ => ⟨?o51, ?o52, by rcases hr_22 with z | z; (rw [z.2.2.2, hv_ub_ne (by omega)]); exfalso; omega⟩⟩⟩, hT, hM⟩ dX6_readCost_55
        case o46 => decide
        case o47 => omega
        case o48 => omega
        case o49 => omega
        case o50 => omega
        case o51 => omega
        case o52 => omega
  · skip
    refine lv_aload_n hx hb dX6_readCost_20 rfl (lv_at hl 2 rfl) ?_
    refine lv_iload_n hx hb dX6_readCost_21 rfl (lv_at hl 1 rfl) ?_
    refine lv_iconst (v := 0) hx hb dX6_readCost_22 ?o53 ?_
    case o53 => decide
    have zc_0 : (0 : Int32).toInt = 0 := ?o54
    case o54 => decide
    refine hx_goi (hx_runV (As := [.int w_6, .int (0 : Int32)]) (rest := []) ⟨hx, hb, hml, hown, hts⟩ hW (gx.S hM) tt_6 (T := TX6) (N := 7) rfl (t_X6_refuse_v l dC dI dA L_8 h_9 H.size x w_6 (0 : Int32) hT (gx.S hM) ⟨?o55, ?o56⟩ ?o57) (cwV 2 hts (hx_gV kw_527 kw_524 kw_526 kw_6 kw_95) rfl rfl rfl (by decide +kernel) ⟨Nat.le_of_ble_eq_true rfl, Nat.le_of_ble_eq_true rfl⟩) rfl hl.1 rfl (Nat.le_of_ble_eq_true rfl) dX6_readCost_23 ⟨Nat.le_of_ble_eq_true rfl, Nat.le_of_ble_eq_true rfl⟩) hW (fun r_40 L_38 h_39 H locs p_41 hW => ?_)
    case o55 => omega
    case o56 => omega
    case o57 => decide
    obtain ⟨⟨w_43, fw_43, hr_42⟩, hT, hs⟩ := p_41
    replace hT : hx_T T_tb L_38 h_39 := hT
    replace hs : hx_S T_tb [(6, 3)] L_8 h_9 L_38 h_39 := hs
    replace f_x_4 := (hs.o (gx.S hM) trivial rfl).1.trans f_x_4
    replace fw_13 := (hs.o (gx.S hM) trivial rfl).1.trans fw_13
    replace af_qd : h_39.2.1 qd = df := (funext fun j => (hs.a (gqd.S hM) rfl j).1).trans af_qd
    replace hM := hM.tr (hs.mono ?o58)
    case o58 => decide
    have fw_43 : h_39.2.1 x 3 = w_43 := fw_43
    have bw_43 := hT.gi (gx.S hM) tt_6 (k := 3) rfl
    rw [fw_43] at bw_43
    have bw_43 : -2147483648 ≤ w_43.toInt ∧ w_43.toInt ≤ 2147483647 := bw_43
    refine hx_retz hx hb hr (hx_nar01 ?o59) hlk hW ⟨⟨w_13, w_43, to0, df, fw_13, fw_43, f_x_4, af_qd, ⟨(hv_CK_f (x := 1 + 8 * w_6.toInt.toNat) ?o60 ?o61 ?o62 (by rw [← ek_7]; exact hv_co_1 (by omega))), (fun z9 => ?o63)⟩⟩, hT, hM⟩ dX6_readCost_26
    case o59 => omega
    case o60 => omega
    case o61 => omega
    case o62 => omega
    case o63 =>
      exfalso
      omega


set_option maxHeartbeats 4000000 in
set_option maxRecDepth 100000 in
theorem t_X6_readClause_v (l : Launch) (dC : Nat → ClassId) (dI : Nat → Nat → Nat) (dA : Nat → ClassId) (L : List Nat) (h : hx_h) (sz : Nat) (b0 : hx_z) (x : Nat) (hT : hx_T T_tb L h) (gx : hx_g L h x 6) (qt : Nat) (gqt : hx_g L h qt 42) (f_x_0 : h.2.2 x 0 = some qt) (qi : Nat) (gqi : hx_g L h qi 129) (f_x_6 : h.2.2 x 6 = some qi) (qp : Nat) (gqp : hx_g L h qp 128) (f_qi_3 : h.2.2 qi 3 = some qp) (qd : Nat) (gqd : hx_g L h qd 127) (f_qi_2 : h.2.2 qi 2 = some qd) (tf : Nat → Int32) (af_qt : h.2.1 qt = tf) (pf : Nat → Int32) (af_qp : h.2.1 qp = pf) (df : Nat → Int32) (af_qd : h.2.1 qd = df) (at0 : Int32) (f_x_2 : h.2.1 x 2 = at0) (ln0 : Int32) (f_x_1 : h.2.1 x 1 = ln0) (ft0 : Int32) (f_x_3 : h.2.1 x 3 = ft0) (tm0 : Int32) (f_x_5 : h.2.1 x 5 = tm0) (pl0 : Int32) (f_qi_4 : h.2.1 qi 4 = pl0) (to0 : Int32) (f_x_4 : h.2.1 x 4 = to0) (o : List hv_tok) (hO : hv_ls pf pl0.toInt.toNat = o.map hv_cc) (hF : ft0.toInt = 0) (hA : at0.toInt ≤ ln0.toInt) (hT0 : 0 ≤ tm0.toInt ∧ tm0.toInt ≤ 20) (hTM : hv_sC to0 13 = false → tm0.toInt = 0) : Met l yX6_readClause (Cond.code yX6_readClause cX6_readClause 3 (some .boolean) :: hx_all) ({ frames := 25, cells := 0, slots := 0, locals := 572 }) (va_Pc [.ref x] (hx_BX T_tb (P_ty dA) (dC, dI) vwCl L h sz b0)) (va_Qi (fun (r : Int32) (u : List Nat × hx_h) => (∃ (at1 : Int32) (ft1 : Int32) (tm1 : Int32) (pl1 : Int32) (pf1 : Nat → Int32) (to1 : Int32) (df1 : Nat → Int32), u.2.2.1 x 2 = at1 ∧ u.2.2.1 x 3 = ft1 ∧ u.2.2.1 x 5 = tm1 ∧ u.2.2.1 qi 4 = pl1 ∧ u.2.2.1 qp = pf1 ∧ u.2.2.1 x 4 = to1 ∧ u.2.2.1 qd = df1 ∧ (hv_CK hv_cc (hv_cl tf ln0.toInt.toNat at0.toInt.toNat (hv_sC to0) (hv_rC df) o) r.toInt ft1.toInt at1.toInt (hv_sC to1) (hv_rC df1) (hv_ls pf1 pl1.toInt.toNat) ∧ (r.toInt = 1 → at0.toInt < at1.toInt ∧ at1.toInt ≤ ln0.toInt ∧ 0 ≤ tm1.toInt ∧ tm1.toInt ≤ 20 ∧ (hv_sC to1 13 = false → tm1.toInt = 0)))) ∧ hx_T T_tb u.1 u.2 ∧ hx_S T_tb [(6, 2), (6, 3), (6, 4), (6, 5), (127, 0), (128, 0), (129, 4)] L h u.1 u.2) (hx_E T_tb (P_ty dA) (dC, dI) vwCl (hx_A L sz)) (hx_A L sz)) 0 0 (hx_A L sz) := by
  refine hx_metX (lv := [(0, .ref x)]) (by decide +kernel) rfl (Nat.le_of_ble_eq_true rfl) rfl ?_
  intro p e s m below meth c hx hb hml hr hlk hts0 hown hin hsz hW hZ ls hl
  have hts : ∀ w ∈ hx_all, w.before _ s = true := fun w hw => hts0 w (List.mem_cons_of_mem _ hw)
  have hown : s.vm.findClass "SmallCourt$Reader" = some m.cls := hown
  have hM : hx_S T_tb [(6, 2), (6, 3), (6, 4), (6, 5), (127, 0), (128, 0), (129, 4)] L h L h := hx_S.rf
  obtain ⟨zLT, zLA, zMT, zMA, zCS, zSF, zVS, zVR⟩ := hZ.2.2.2.2.2.2
  have b_at0 := hT.gi gx tt_6 (k := 2) rfl
  rw [f_x_2] at b_at0
  have b_at0 : 0 ≤ at0.toInt ∧ at0.toInt ≤ 402 := b_at0
  have b_ln0 := hT.gi gx tt_6 (k := 1) rfl
  rw [f_x_1] at b_ln0
  have b_ln0 : 0 ≤ ln0.toInt ∧ ln0.toInt ≤ 400 := b_ln0
  have b_ft0 := hT.gi gx tt_6 (k := 3) rfl
  rw [f_x_3] at b_ft0
  have b_ft0 : -2147483648 ≤ ft0.toInt ∧ ft0.toInt ≤ 2147483647 := b_ft0
  have b_tm0 := hT.gi gx tt_6 (k := 5) rfl
  rw [f_x_5] at b_tm0
  have b_tm0 : -2147483648 ≤ tm0.toInt ∧ tm0.toInt ≤ 2147483647 := b_tm0
  have b_pl0 := hT.gi gqi tt_129 (k := 4) rfl
  rw [f_qi_4] at b_pl0
  have b_pl0 : 0 ≤ pl0.toInt ∧ pl0.toInt ≤ 160 := b_pl0
  have b_to0 := hT.gi gx tt_6 (k := 4) rfl
  rw [f_x_4] at b_to0
  have b_to0 : -2147483648 ≤ to0.toInt ∧ to0.toInt ≤ 2147483647 := b_to0
  refine lv_aload_n hx hb dX6_readClause_0 rfl (lv_at hl 0 rfl) ?_
  refine hx_gov (hx_runV (As := []) (rest := []) ⟨hx, hb, hml, hown, hts⟩ hW (gx.S hM) tt_6 (T := TX6) (N := 7) rfl (t_X6_skipBlanks_v l dC dI dA L h s.heap.size x hT (gx.S hM) qt (gqt.S hM) ((hM.o gx trivial rfl).2.trans f_x_0) tf (hx_afS hM gqt rfl af_qt) at0 f_x_2 ln0 ((hM.o gx trivial rfl).1.trans f_x_1) ?o0) (cwV 0 hts (hx_gV kw_458 kw_455 kw_457 kw_1 kw_95) rfl rfl rfl (by decide +kernel) ⟨Nat.le_of_ble_eq_true rfl, Nat.le_of_ble_eq_true rfl⟩) rfl hl.1 rfl (Nat.le_of_ble_eq_true rfl) dX6_readClause_1 ⟨Nat.le_of_ble_eq_true rfl, Nat.le_of_ble_eq_true rfl⟩) hW (fun L_1 h_2 H locs p_4 hW => ?_)
  case o0 => omega
  obtain ⟨⟨w_6, fw_6, hr_5⟩, hT, hs⟩ := p_4
  replace hT : hx_T T_tb L_1 h_2 := hT
  replace hs : hx_S T_tb [(6, 2)] L h L_1 h_2 := hs
  replace f_x_3 := (hs.o (gx.S hM) trivial rfl).1.trans f_x_3
  replace f_x_5 := (hs.o (gx.S hM) trivial rfl).1.trans f_x_5
  replace f_qi_4 := (hs.o (gqi.S hM) trivial rfl).1.trans f_qi_4
  replace f_x_4 := (hs.o (gx.S hM) trivial rfl).1.trans f_x_4
  replace af_qp : h_2.2.1 qp = pf := (funext fun j => (hs.a (gqp.S hM) rfl j).1).trans af_qp
  replace af_qd : h_2.2.1 qd = df := (funext fun j => (hs.a (gqd.S hM) rfl j).1).trans af_qd
  replace hM := hM.tr (hs.mono ?o1)
  case o1 => decide
  have fw_6 : h_2.2.1 x 2 = w_6 := fw_6
  have bw_6 := hT.gi (gx.S hM) tt_6 (k := 2) rfl
  rw [fw_6] at bw_6
  have bw_6 : 0 ≤ w_6.toInt ∧ w_6.toInt ≤ 402 := bw_6
  have ek_7 : w_6.toInt.toNat = hv_sk tf ln0.toInt.toNat at0.toInt.toNat := ?o2
  case o2 => omega
  refine lv_aload_n hx hb dX6_readClause_4 rfl (lv_at hl 0 rfl) ?_
  refine hk_geti hx hb hts hC_6 hown hW (gx.S hM) tt_6 2 ?o3 rfl kw_127 ⟨rfl, rfl, rfl⟩ fw_6 dX6_readClause_5 ?_
  case o3 => decide
  refine lv_istore_n (lv' := [(1, .int w_6), (0, .ref x)]) hx hb dX6_readClause_8 rfl hl ?o4 rfl (fun ls hl => ?_)
  case o4 => decide
  refine lv_aload_n hx hb dX6_readClause_9 rfl (lv_at hl 1 rfl) ?_
  refine va_ldcS (tx := P_st.getD 0 "") hx hb hown (zVR 0 ?o5) dX6_readClause_10 ?_
  case o5 => decide
  refine hx_goi (hx_runVX (As := [.ref (b0.2.2.2.1 0)]) (rest := []) ⟨hx, hb, hml, hown, hts⟩ hW (gx.S hM) tt_6 (T := TX6) (N := 7) rfl (t_X6_readWord_v l dC dI dA L_1 h_2 H.size b0 x 0 hT (gx.S hM) ?o6 qt (gqt.S hM) ((hM.o gx trivial rfl).2.trans f_x_0) tf (hx_afS hM gqt rfl af_qt) w_6 fw_6 ln0 ((hM.o gx trivial rfl).1.trans f_x_1) ?o7) hZ (cwV 1 hts (hx_gV kw_467 kw_464 kw_466 kw_3 kw_95) rfl rfl rfl (by decide +kernel) ⟨Nat.le_of_ble_eq_true rfl, Nat.le_of_ble_eq_true rfl⟩) rfl hl.1 rfl (Nat.le_of_ble_eq_true rfl) dX6_readClause_12 ⟨Nat.le_of_ble_eq_true rfl, Nat.le_of_ble_eq_true rfl⟩) hW (fun r_10 L_8 h_9 H locs p_11 hW => ?_)
  case o6 => decide
  case o7 => omega
  obtain ⟨⟨w_13, fw_13, hr_12⟩, hT, hs⟩ := p_11
  replace hT : hx_T T_tb L_8 h_9 := hT
  replace hs : hx_S T_tb [(6, 2)] L_1 h_2 L_8 h_9 := hs
  replace f_x_3 := (hs.o (gx.S hM) trivial rfl).1.trans f_x_3
  replace f_x_5 := (hs.o (gx.S hM) trivial rfl).1.trans f_x_5
  replace f_qi_4 := (hs.o (gqi.S hM) trivial rfl).1.trans f_qi_4
  replace f_x_4 := (hs.o (gx.S hM) trivial rfl).1.trans f_x_4
  replace af_qp : h_9.2.1 qp = pf := (funext fun j => (hs.a (gqp.S hM) rfl j).1).trans af_qp
  replace af_qd : h_9.2.1 qd = df := (funext fun j => (hs.a (gqd.S hM) rfl j).1).trans af_qd
  replace hM := hM.tr (hs.mono ?o8)
  case o8 => decide
  have fw_13 : h_9.2.1 x 2 = w_13 := fw_13
  have bw_13 := hT.gi (gx.S hM) tt_6 (k := 2) rfl
  rw [fw_13] at bw_13
  have bw_13 : 0 ≤ w_13.toInt ∧ w_13.toInt ≤ 402 := bw_13
  have eu_14 := hv_RW_0 hr_12.2.1
  refine lv_istore_n (lv' := [(2, .int r_10), (1, .int w_6), (0, .ref x)]) hx hb dX6_readClause_15 rfl hl ?o9 rfl (fun ls hl => ?_)
  case o9 => decide
  have sid : hv_sk tf ln0.toInt.toNat w_6.toInt.toNat = w_6.toInt.toNat := ?o10
  case o10 =>
    rw [ek_7]
    exact hv_sk_id
  have hrw := hr_12.1; rw [sid] at hrw eu_14
  refine lv_iload_n hx hb dX6_readClause_16 rfl (lv_at hl 0 rfl) ?_
  refine hb_if_ge (zx := r_10.toInt) (tgt := 27) hx hb rfl dX6_readClause_17 ?o11 (fun c_15 => ?_) (fun c_15 => ?_)
  case o11 => decide
  · skip
    have hcl : 1 ≤ r_10.toInt ∧ r_10.toInt ≤ 11 ∧ r_10.toInt ≠ 7 ∧ hv_wd tf ln0.toInt.toNat w_6.toInt.toNat = (if r_10.toInt ≤ 6 then 10 + r_10.toInt else 9 + r_10.toInt) := ?o12
    case o12 =>
      rcases eu_14 with z | z
      (exfalso; omega)
      exact z
    have hwr : 11 ≤ hv_wd tf ln0.toInt.toNat w_6.toInt.toNat ∧ hv_wd tf ln0.toInt.toNat w_6.toInt.toNat ≤ 20 := by have h8 := hcl.2.2.2; split at h8 <;> omega
    have ha1 : w_13.toInt.toNat = hv_we tf ln0.toInt.toNat w_6.toInt.toNat := ?o13
    case o13 => omega
    have hw3 := hv_wd_3 (T := tf) (n := ln0.toInt.toNat) (p := w_6.toInt.toNat) ?o14
    case o14 => omega
    refine lv_iload_n hx hb dX6_readClause_27 rfl (lv_at hl 0 rfl) ?_
    refine lv_bipush (v := 10) hx hb dX6_readClause_28 ?o15 ?_
    case o15 => decide
    refine hb_icmp_ne (zx := r_10.toInt) (zy := 10) (tgt := 38) hx hb rfl ?o16 dX6_readClause_30 ?o17 (fun c_16 => ?_) (fun c_16 => ?_)
    case o16 => decide
    case o17 => decide
    · skip
      refine lv_iload_n hx hb dX6_readClause_38 rfl (lv_at hl 0 rfl) ?_
      refine lv_bipush (v := 11) hx hb dX6_readClause_39 ?o18 ?_
      case o18 => decide
      refine hb_icmp_ne (zx := r_10.toInt) (zy := 11) (tgt := 76) hx hb rfl ?o19 dX6_readClause_41 ?o20 (fun c_17 => ?_) (fun c_17 => ?_)
      case o19 => decide
      case o20 => decide
      · skip
        have hkk := hv_kk_r ?o21 ?o22 hcl.2.2.1 hcl.2.2.2
        case o21 => omega
        case o22 => omega
        refine lv_aload_n hx hb dX6_readClause_76 rfl (lv_at hl 2 rfl) ?_
        refine lv_iload_n hx hb dX6_readClause_77 rfl (lv_at hl 0 rfl) ?_
        refine lv_iload_n hx hb dX6_readClause_78 rfl (lv_at hl 1 rfl) ?_
        refine hx_goi (hx_runV (As := [.int r_10, .int w_6]) (rest := []) ⟨hx, hb, hml, hown, hts⟩ hW (gx.S hM) tt_6 (T := TX6) (N := 7) rfl (t_X6_tellOnce_v l dC dI dA L_8 h_9 H.size x r_10 w_6 hT (gx.S hM) to0 f_x_4 ft0 f_x_3 ⟨?o23, ?o24⟩ ⟨?o25, ?o26⟩) (cwV 2 hts (hx_gV kw_536 kw_533 kw_535 kw_8 kw_95) rfl rfl rfl (by decide +kernel) ⟨Nat.le_of_ble_eq_true rfl, Nat.le_of_ble_eq_true rfl⟩) rfl hl.1 rfl (Nat.le_of_ble_eq_true rfl) dX6_readClause_79 ⟨Nat.le_of_ble_eq_true rfl, Nat.le_of_ble_eq_true rfl⟩) hW (fun r_20 L_18 h_19 H locs p_21 hW => ?_)
        case o23 => omega
        case o24 => omega
        case o25 => omega
        case o26 => omega
        obtain ⟨⟨w_23, w_24, fw_23, fw_24, hr_22⟩, hT, hs⟩ := p_21
        replace hT : hx_T T_tb L_18 h_19 := hT
        replace hs : hx_S T_tb [(6, 3), (6, 4)] L_8 h_9 L_18 h_19 := hs
        replace f_x_5 := (hs.o (gx.S hM) trivial rfl).1.trans f_x_5
        replace f_qi_4 := (hs.o (gqi.S hM) trivial rfl).1.trans f_qi_4
        replace fw_13 := (hs.o (gx.S hM) trivial rfl).1.trans fw_13
        replace af_qp : h_19.2.1 qp = pf := (funext fun j => (hs.a (gqp.S hM) rfl j).1).trans af_qp
        replace af_qd : h_19.2.1 qd = df := (funext fun j => (hs.a (gqd.S hM) rfl j).1).trans af_qd
        replace hM := hM.tr (hs.mono ?o27)
        case o27 => decide
        have fw_23 : h_19.2.1 x 4 = w_23 := fw_23
        have bw_23 := hT.gi (gx.S hM) tt_6 (k := 4) rfl
        rw [fw_23] at bw_23
        have bw_23 : -2147483648 ≤ w_23.toInt ∧ w_23.toInt ≤ 2147483647 := bw_23
        have fw_24 : h_19.2.1 x 3 = w_24 := fw_24
        have bw_24 := hT.gi (gx.S hM) tt_6 (k := 3) rfl
        rw [fw_24] at bw_24
        have bw_24 : -2147483648 ≤ w_24.toInt ∧ w_24.toInt ≤ 2147483647 := bw_24
        refine hb_if_eq (zx := r_20.toInt) (tgt := 112) hx hb rfl dX6_readClause_82 ?o28 (fun c_25 => ?_) (fun c_25 => ?_)
        case o28 => decide
        · skip
          refine lv_iconst (v := 0) hx hb dX6_readClause_112 ?o29 ?_
          case o29 => decide
          exact hx_retz hx hb hr rfl hlk hW ⟨⟨w_13, w_24, tm0, pl0, pf, w_23, df, fw_13, fw_24, f_x_5, f_qi_4, af_qp, fw_23, af_qd, ⟨(hv_CK_f (x := 3 + 8 * w_6.toInt.toNat) (by first | decide | omega) (by omega) (by omega) ((hv_cl_k (k := (r_10.toInt - 1).toNat) (by rw [← ek_7]; exact ⟨by omega, by have h8 := hcl.2.2.2; split at h8 <;> omega⟩) (by rw [← ek_7]; exact hkk.symm)).trans (by rw [← ek_7]; exact hv_ck_1 (by rcases hr_22 with z | z; (exfalso; omega); exact z.2.1)))), (fun z9 => absurd z9 (by decide))⟩⟩, hT, hM⟩ dX6_readClause_113
        · skip
          refine lv_aload_n hx hb dX6_readClause_85 rfl (lv_at hl 2 rfl) ?_
          refine lv_iload_n hx hb dX6_readClause_86 rfl (lv_at hl 0 rfl) ?_
          refine hx_goi (hx_runVX (As := [.int r_10]) (rest := []) ⟨hx, hb, hml, hown, hts⟩ hW (gx.S hM) tt_6 (T := TX6) (N := 7) rfl (t_X6_readTold_v l dC dI dA L_18 h_19 H.size b0 x r_10 hT (gx.S hM) qt (gqt.S hM) ((hM.o gx trivial rfl).2.trans f_x_0) qi (gqi.S hM) ((hM.o gx trivial rfl).2.trans f_x_6) qd (gqd.S hM) ((hM.o gqi trivial rfl).2.trans f_qi_2) tf (hx_afS hM gqt rfl af_qt) df af_qd w_13 fw_13 ln0 ((hM.o gx trivial rfl).1.trans f_x_1) w_24 fw_24 ⟨?o30, ?o31⟩ ?o32) hZ (cwV 1 hts (hx_gV kw_540 kw_537 kw_539 kw_9 kw_95) rfl rfl rfl (by decide +kernel) ⟨Nat.le_of_ble_eq_true rfl, Nat.le_of_ble_eq_true rfl⟩) rfl hl.1 rfl (Nat.le_of_ble_eq_true rfl) dX6_readClause_87 ⟨Nat.le_of_ble_eq_true rfl, Nat.le_of_ble_eq_true rfl⟩) hW (fun r_28 L_26 h_27 H locs p_29 hW => ?_)
          case o30 => omega
          case o31 => omega
          case o32 => omega
          obtain ⟨⟨w_31, w_32, w_33, fw_31, fw_32, fw_33, hr_30⟩, hT, hs⟩ := p_29
          replace hT : hx_T T_tb L_26 h_27 := hT
          replace hs : hx_S T_tb [(6, 2), (6, 3), (127, 0)] L_18 h_19 L_26 h_27 := hs
          replace f_x_5 := (hs.o (gx.S hM) trivial rfl).1.trans f_x_5
          replace f_qi_4 := (hs.o (gqi.S hM) trivial rfl).1.trans f_qi_4
          replace fw_23 := (hs.o (gx.S hM) trivial rfl).1.trans fw_23
          replace af_qp : h_27.2.1 qp = pf := (funext fun j => (hs.a (gqp.S hM) rfl j).1).trans af_qp
          replace hM := hM.tr (hs.mono ?o33)
          case o33 => decide
          have fw_31 : h_27.2.1 x 2 = w_31 := fw_31
          have bw_31 := hT.gi (gx.S hM) tt_6 (k := 2) rfl
          rw [fw_31] at bw_31
          have bw_31 : 0 ≤ w_31.toInt ∧ w_31.toInt ≤ 402 := bw_31
          have fw_32 : h_27.2.1 x 3 = w_32 := fw_32
          have bw_32 := hT.gi (gx.S hM) tt_6 (k := 3) rfl
          rw [fw_32] at bw_32
          have bw_32 : -2147483648 ≤ w_32.toInt ∧ w_32.toInt ≤ 2147483647 := bw_32
          have fw_33 : h_27.2.1 qd = w_33 := fw_33
          have hr_30B := hr_30.2
          have hr_30b := hv_N_b hr_30.1
          refine hb_if_eq (zx := r_28.toInt) (tgt := 112) hx hb rfl dX6_readClause_90 ?o34 (fun c_34 => ?_) (fun c_34 => ?_)
          case o34 => decide
          · skip
            refine lv_iconst (v := 0) hx hb dX6_readClause_112 ?o35 ?_
            case o35 => decide
            refine hx_retz hx hb hr rfl hlk hW ⟨⟨w_31, w_32, tm0, pl0, pf, w_23, w_33, fw_31, fw_32, f_x_5, f_qi_4, af_qp, fw_23, fw_33, ⟨(hv_CK_f (x := w_32.toInt.toNat) ?o36 (by have h8 := (hv_N_0 hr_30.1 (by omega)).1; omega) (by have h8 := (hv_N_0 hr_30.1 (by omega)).1; omega) ((hv_cl_k (k := (r_10.toInt - 1).toNat) (by rw [← ek_7]; exact ⟨by omega, by have h8 := hcl.2.2.2; split at h8 <;> omega⟩) (by rw [← ek_7]; exact hkk.symm)).trans (by rw [← ek_7]; exact (hv_ck_2 (by rcases hr_22 with z | z; exact z.2.2.1; exfalso; omega) (by have h8 := (hv_N_0 hr_30.1 (by omega)).2; rw [ha1] at h8; exact h8))))), (fun z9 => absurd z9 ?o37)⟩⟩, hT, hM⟩ dX6_readClause_113
            case o36 => decide
            case o37 => decide
          · skip
            obtain ⟨n1_35F, nv_36, n1_35N, n1_35D⟩ := hv_N_1 hr_30.1 (by omega)
            refine lv_iload_n hx hb dX6_readClause_93 rfl (lv_at hl 0 rfl) ?_
            refine lv_bipush (v := 6) hx hb dX6_readClause_94 ?o38 ?_
            case o38 => decide
            refine hb_icmp_ne (zx := r_10.toInt) (zy := 6) (tgt := 108) hx hb rfl ?o39 dX6_readClause_96 ?o40 (fun c_37 => ?_) (fun c_37 => ?_)
            case o39 => decide
            case o40 => decide
            · skip
              refine lv_iconst (v := 1) hx hb dX6_readClause_108 ?o41 ?_
              case o41 => decide
              refine lv_goto (tgt := 113) hx hb dX6_readClause_109 ?o42 ?_
              case o42 => decide
              refine hx_retz hx hb hr rfl hlk hW ⟨⟨w_31, w_32, tm0, pl0, pf, w_23, w_33, fw_31, fw_32, f_x_5, f_qi_4, af_qp, fw_23, fw_33, ⟨(hv_CK_t (x := w_31.toInt.toNat) ?o43 ?o44 ?o45 (by rcases hr_22 with z | z; exact z.2.2.2; exfalso; omega) (hv_rC_u ?o46 ?o47 n1_35D) hO ((hv_cl_k (k := (r_10.toInt - 1).toNat) (by rw [← ek_7]; exact ⟨by omega, by have h8 := hcl.2.2.2; split at h8 <;> omega⟩) (by rw [← ek_7]; exact hkk.symm)).trans (by rw [← ek_7]; exact (hv_cj_3 (by rcases hr_22 with z | z; exact z.2.2.1; exfalso; omega) (by have h8 := n1_35N; rw [ha1] at h8; exact h8) (by omega))))), fun _ => ⟨?o48, ?o49, ?o50, ?o51, fun z8 => by rcases hr_22 with z | z; (rw [z.2.2.2, hv_ub_ne (by omega)] at z8; exact hTM z8); exfalso; omega⟩⟩⟩, hT, hM⟩ dX6_readClause_113
              case o43 => decide
              case o44 => omega
              case o45 => omega
              case o46 => omega
              case o47 => omega
              case o48 => omega
              case o49 => omega
              case o50 => omega
              case o51 => omega
            · skip
              refine lv_aload_n hx hb dX6_readClause_99 rfl (lv_at hl 2 rfl) ?_
              refine lv_bipush (v := 7) hx hb dX6_readClause_100 ?o52 ?_
              case o52 => decide
              have zc_7 : (7 : Int32).toInt = 7 := ?o53
              case o53 => decide
              refine hx_goi (hx_runVX (As := [.int (7 : Int32)]) (rest := []) ⟨hx, hb, hml, hown, hts⟩ hW (gx.S hM) tt_6 (T := TX6) (N := 7) rfl (t_X6_readTold_v l dC dI dA L_26 h_27 H.size b0 x (7 : Int32) hT (gx.S hM) qt (gqt.S hM) ((hM.o gx trivial rfl).2.trans f_x_0) qi (gqi.S hM) ((hM.o gx trivial rfl).2.trans f_x_6) qd (gqd.S hM) ((hM.o gqi trivial rfl).2.trans f_qi_2) tf (hx_afS hM gqt rfl af_qt) w_33 fw_33 w_31 fw_31 ln0 ((hM.o gx trivial rfl).1.trans f_x_1) w_32 fw_32 ?o54 ?o55) hZ (cwV 1 hts (hx_gV kw_540 kw_537 kw_539 kw_9 kw_95) rfl rfl rfl (by decide +kernel) ⟨Nat.le_of_ble_eq_true rfl, Nat.le_of_ble_eq_true rfl⟩) rfl hl.1 rfl (Nat.le_of_ble_eq_true rfl) dX6_readClause_102 ⟨Nat.le_of_ble_eq_true rfl, Nat.le_of_ble_eq_true rfl⟩) hW (fun r_40 L_38 h_39 H locs p_41 hW => ?_)
              case o54 => decide
              case o55 => omega
              obtain ⟨⟨w_43, w_44, w_45, fw_43, fw_44, fw_45, hr_42⟩, hT, hs⟩ := p_41
              replace hT : hx_T T_tb L_38 h_39 := hT
              replace hs : hx_S T_tb [(6, 2), (6, 3), (127, 0)] L_26 h_27 L_38 h_39 := hs
              replace f_x_5 := (hs.o (gx.S hM) trivial rfl).1.trans f_x_5
              replace f_qi_4 := (hs.o (gqi.S hM) trivial rfl).1.trans f_qi_4
              replace fw_23 := (hs.o (gx.S hM) trivial rfl).1.trans fw_23
              replace af_qp : h_39.2.1 qp = pf := (funext fun j => (hs.a (gqp.S hM) rfl j).1).trans af_qp
              replace hM := hM.tr (hs.mono ?o56)
              case o56 => decide
              have fw_43 : h_39.2.1 x 2 = w_43 := fw_43
              have bw_43 := hT.gi (gx.S hM) tt_6 (k := 2) rfl
              rw [fw_43] at bw_43
              have bw_43 : 0 ≤ w_43.toInt ∧ w_43.toInt ≤ 402 := bw_43
              have fw_44 : h_39.2.1 x 3 = w_44 := fw_44
              have bw_44 := hT.gi (gx.S hM) tt_6 (k := 3) rfl
              rw [fw_44] at bw_44
              have bw_44 : -2147483648 ≤ w_44.toInt ∧ w_44.toInt ≤ 2147483647 := bw_44
              have fw_45 : h_39.2.1 qd = w_45 := fw_45
              have hr_42B := hr_42.2
              have hr_42b := hv_N_b hr_42.1
              refine hb_if_eq (zx := r_40.toInt) (tgt := 112) hx hb rfl dX6_readClause_105 ?o57 (fun c_46 => ?_) (fun c_46 => ?_)
              case o57 => decide
              · skip
                refine lv_iconst (v := 0) hx hb dX6_readClause_112 ?o58 ?_
                case o58 => decide
                exact hx_retz hx hb hr rfl hlk hW ⟨⟨w_43, w_44, tm0, pl0, pf, w_23, w_45, fw_43, fw_44, f_x_5, f_qi_4, af_qp, fw_23, fw_45, ⟨(hv_CK_f (x := w_44.toInt.toNat) (by decide) (by have h8 := (hv_N_0 hr_42.1 (by omega)).1; omega) (by have h8 := (hv_N_0 hr_42.1 (by omega)).1; omega) ((hv_cl_k (k := (r_10.toInt - 1).toNat) (by rw [← ek_7]; exact ⟨by omega, by have h8 := hcl.2.2.2; split at h8 <;> omega⟩) (by rw [← ek_7]; exact hkk.symm)).trans (by rw [← ek_7]; exact (by have h5 : hv_sC to0 (r_10.toInt - 1).toNat = false := (by rcases hr_22 with z | z; exact z.2.2.1; exfalso; omega); rw [show (r_10.toInt - 1).toNat = 5 from hv_k5 (by first | with_reducible assumption | omega)] at h5; have h6 := n1_35N; rw [ha1] at h6; rw [show (r_10.toInt - 1).toNat = 5 from hv_k5 (by first | with_reducible assumption | omega)] at h6; rw [show (r_10.toInt - 1).toNat = 5 from hv_k5 (by first | with_reducible assumption | omega)]; exact hv_cj_4 h5 h6 (by have h8 := (hv_N_0 hr_42.1 (by omega)).2; rw [show ((7 : Int32).toInt - 1).toNat = 6 by decide] at h8; exact h8))))), (fun z9 => absurd z9 (by decide))⟩⟩, hT, hM⟩ dX6_readClause_113
              · skip
                obtain ⟨n1_47F, nv_48, n1_47N, n1_47D⟩ := hv_N_1 hr_42.1 (by omega)
                refine lv_iconst (v := 1) hx hb dX6_readClause_108 ?o59 ?_
                case o59 => decide
                refine lv_goto (tgt := 113) hx hb dX6_readClause_109 ?o60 ?_
                case o60 => decide
                exact hx_retz hx hb hr rfl hlk hW ⟨⟨w_43, w_44, tm0, pl0, pf, w_23, w_45, fw_43, fw_44, f_x_5, f_qi_4, af_qp, fw_23, fw_45, ⟨(hv_CK_t (x := w_43.toInt.toNat) (by decide) (by omega) (by omega) (by rcases hr_22 with z | z; exact z.2.2.2.trans (congrArg (hv_ub (hv_sC to0)) (show (r_10.toInt - 1).toNat = 5 from hv_k5 (by first | with_reducible assumption | omega))); exfalso; omega) (by rw [hv_rC_u (i := 7) (by decide) (by decide) n1_47D, hv_rC_u (by omega) (by omega) n1_35D, show (r_10.toInt - 1).toNat = 5 from hv_k5 (by first | with_reducible assumption | omega)] <;> rfl) hO ((hv_cl_k (k := (r_10.toInt - 1).toNat) (by rw [← ek_7]; exact ⟨by omega, by have h8 := hcl.2.2.2; split at h8 <;> omega⟩) (by rw [← ek_7]; exact hkk.symm)).trans (by rw [← ek_7]; exact (by have h5 : hv_sC to0 (r_10.toInt - 1).toNat = false := (by rcases hr_22 with z | z; exact z.2.2.1; exfalso; omega); rw [show (r_10.toInt - 1).toNat = 5 from hv_k5 (by first | with_reducible assumption | omega)] at h5; have h6 := n1_35N; rw [ha1] at h6; rw [show (r_10.toInt - 1).toNat = 5 from hv_k5 (by first | with_reducible assumption | omega)] at h6; rw [show (r_10.toInt - 1).toNat = 5 from hv_k5 (by first | with_reducible assumption | omega)]; exact hv_cj_5 h5 h6 (by have h8 := n1_47N; rw [show ((7 : Int32).toInt - 1).toNat = 6 by decide] at h8; exact h8))))), fun _ => ⟨by omega, by omega, by omega, by omega, fun z8 => by rcases hr_22 with z | z; (rw [z.2.2.2, hv_ub_ne (by omega)] at z8; exact hTM z8); exfalso; omega⟩⟩⟩, hT, hM⟩ dX6_readClause_113
      · skip
        have hw20 : hv_wd tf ln0.toInt.toNat w_6.toInt.toNat = 20 := ?o61
        case o61 =>
          have h8 := hcl.2.2.2
          rw [if_neg (by omega)] at h8
          omega
        refine lv_aload_n hx hb dX6_readClause_44 rfl (lv_at hl 2 rfl) ?_
        refine hk_getr hx hb hts hC_6 hown hW (gx.S hM) tt_6 6 ?o62 rfl kw_131 ⟨rfl, rfl, rfl⟩ ((hM.o gx trivial rfl).2.trans f_x_6) dX6_readClause_45 ?_
        case o62 => decide
        refine lv_iconst (v := 0) hx hb dX6_readClause_48 ?o63 ?_
        case o63 => decide
        refine hx_puti hx hb hts hC_0 hown hW hT (hx_S.rf (M := [(129, 4)])) (gqi.S hM) tt_129 4 ?o64 rfl kw_174 ⟨rfl, rfl, rfl⟩ rfl (x := (0 : Int32)) ?o65 rfl rfl rfl (List.mem_singleton.mpr rfl) dX6_readClause_49 (fun H locs h_49 eh_49 hW hT hs => ?_)
        case o64 => decide
        case o65 => decide
        replace f_x_3 := (hs.o (gx.S hM) trivial rfl).1.trans f_x_3
        replace f_x_5 := (hs.o (gx.S hM) trivial rfl).1.trans f_x_5
        replace f_x_4 := (hs.o (gx.S hM) trivial rfl).1.trans f_x_4
        replace fw_13 := (hs.o (gx.S hM) trivial rfl).1.trans fw_13
        replace af_qp : h_49.2.1 qp = pf := (funext fun j => (hs.a (gqp.S hM) rfl j).1).trans af_qp
        replace af_qd : h_49.2.1 qd = df := (funext fun j => (hs.a (gqd.S hM) rfl j).1).trans af_qd
        replace hM := hM.tr (hs.mono ?o66)
        case o66 => decide
        have f_50 : h_49.2.1 qi 4 = (0 : Int32) := ?o67
        case o67 =>
          rw [eh_49]
          exact hx_pi_at _ _ _ _
        refine lv_aload_n hx hb dX6_readClause_52 rfl (lv_at hl 2 rfl) ?_
        refine lv_bipush (v := 14) hx hb dX6_readClause_53 ?o68 ?_
        case o68 => decide
        refine lv_iload_n hx hb dX6_readClause_55 rfl (lv_at hl 1 rfl) ?_
        have zc_14 : (14 : Int32).toInt = 14 := ?o69
        case o69 => decide
        refine hx_goi (hx_runV (As := [.int (14 : Int32), .int w_6]) (rest := []) ⟨hx, hb, hml, hown, hts⟩ hW (gx.S hM) tt_6 (T := TX6) (N := 7) rfl (t_X6_tellOnce_v l dC dI dA L_8 h_49 H.size x (14 : Int32) w_6 hT (gx.S hM) to0 f_x_4 ft0 f_x_3 ?o70 ⟨?o71, ?o72⟩) (cwV 2 hts (hx_gV kw_536 kw_533 kw_535 kw_8 kw_95) rfl rfl rfl (by decide +kernel) ⟨Nat.le_of_ble_eq_true rfl, Nat.le_of_ble_eq_true rfl⟩) rfl hl.1 rfl (Nat.le_of_ble_eq_true rfl) dX6_readClause_56 ⟨Nat.le_of_ble_eq_true rfl, Nat.le_of_ble_eq_true rfl⟩) hW (fun r_53 L_51 h_52 H locs p_54 hW => ?_)
        case o70 => decide
        case o71 => omega
        case o72 => omega
        obtain ⟨⟨w_56, w_57, fw_56, fw_57, hr_55⟩, hT, hs⟩ := p_54
        replace hT : hx_T T_tb L_51 h_52 := hT
        replace hs : hx_S T_tb [(6, 3), (6, 4)] L_8 h_49 L_51 h_52 := hs
        replace f_x_5 := (hs.o (gx.S hM) trivial rfl).1.trans f_x_5
        replace fw_13 := (hs.o (gx.S hM) trivial rfl).1.trans fw_13
        replace f_50 := (hs.o (gqi.S hM) trivial rfl).1.trans f_50
        replace af_qp : h_52.2.1 qp = pf := (funext fun j => (hs.a (gqp.S hM) rfl j).1).trans af_qp
        replace af_qd : h_52.2.1 qd = df := (funext fun j => (hs.a (gqd.S hM) rfl j).1).trans af_qd
        replace hM := hM.tr (hs.mono ?o73)
        case o73 => decide
        have fw_56 : h_52.2.1 x 4 = w_56 := fw_56
        have bw_56 := hT.gi (gx.S hM) tt_6 (k := 4) rfl
        rw [fw_56] at bw_56
        have bw_56 : -2147483648 ≤ w_56.toInt ∧ w_56.toInt ≤ 2147483647 := bw_56
        have fw_57 : h_52.2.1 x 3 = w_57 := fw_57
        have bw_57 := hT.gi (gx.S hM) tt_6 (k := 3) rfl
        rw [fw_57] at bw_57
        have bw_57 : -2147483648 ≤ w_57.toInt ∧ w_57.toInt ≤ 2147483647 := bw_57
        refine hb_if_eq (zx := r_53.toInt) (tgt := 74) hx hb rfl dX6_readClause_59 ?o74 (fun c_58 => ?_) (fun c_58 => ?_)
        case o74 => decide
        · skip
          refine lv_iconst (v := 0) hx hb dX6_readClause_74 ?o75 ?_
          case o75 => decide
          have zo_0 : (0 : Int32).toInt = 0 := ?o76
          case o76 => decide
          exact hx_retz hx hb hr rfl hlk hW ⟨⟨w_13, w_57, tm0, (0 : Int32), pf, w_56, df, fw_13, fw_57, f_x_5, f_50, af_qp, fw_56, af_qd, ⟨(hv_CK_f (x := 3 + 8 * w_6.toInt.toNat) (by first | decide | omega) (by omega) (by omega) ((hv_cl_p1 (by rw [← ek_7]; exact hw20) (by rcases hr_55 with z | z; (exfalso; omega); exact z.2.1)).trans (by rw [← ek_7]))), (fun z9 => absurd z9 (by decide))⟩⟩, hT, hM⟩ dX6_readClause_75
        · skip
          have hs13 : hv_sC to0 13 = false := ?o77
          case o77 =>
            rcases hr_55 with z | z
            exact z.2.2.1
            exfalso
            omega
          have htz := hTM hs13
          refine lv_aload_n hx hb dX6_readClause_62 rfl (lv_at hl 2 rfl) ?_
          refine lv_iconst (v := 0) hx hb dX6_readClause_63 ?o78 ?_
          case o78 => decide
          have zc_0 : (0 : Int32).toInt = 0 := ?o79
          case o79 => decide
          have zq_0 : (0 : Int32).toInt = 0 := ?o80
          case o80 => decide
          refine hx_goi (hx_runVX (As := [.int (0 : Int32)]) (rest := []) ⟨hx, hb, hml, hown, hts⟩ hW (gx.S hM) tt_6 (T := TX6) (N := 7) rfl (t_X6_readEither_v0 l dC dI dA L_51 h_52 H.size b0 x hT (gx.S hM) qt (gqt.S hM) ((hM.o gx trivial rfl).2.trans f_x_0) qi (gqi.S hM) ((hM.o gx trivial rfl).2.trans f_x_6) qp (gqp.S hM) ((hM.o gqi trivial rfl).2.trans f_qi_3) tf (hx_afS hM gqt rfl af_qt) pf af_qp w_13 fw_13 ln0 ((hM.o gx trivial rfl).1.trans f_x_1) w_57 fw_57 tm0 f_x_5 (0 : Int32) f_50 [] (show hv_ls pf 0 = [] from rfl) ?o81 ?o82 ?o83 ⟨?o84, ?o85⟩) hZ (cwV 1 hts (hx_gV kw_556 kw_553 kw_555 kw_12 kw_95) rfl rfl rfl (by decide +kernel) ⟨Nat.le_of_ble_eq_true rfl, Nat.le_of_ble_eq_true rfl⟩) rfl hl.1 rfl (Nat.le_of_ble_eq_true rfl) dX6_readClause_64 ⟨Nat.le_of_ble_eq_true rfl, Nat.le_of_ble_eq_true rfl⟩) hW (fun r_61 L_59 h_60 H locs p_62 hW => ?_)
          case o81 => omega
          case o82 => omega
          case o83 => omega
          case o84 => omega
          case o85 => omega
          obtain ⟨⟨w_64, w_65, w_66, w_67, w_68, fw_64, fw_65, fw_66, fw_67, fw_68, hr_63⟩, hT, hs⟩ := p_62
          replace hT : hx_T T_tb L_59 h_60 := hT
          replace hs : hx_S T_tb [(6, 2), (6, 3), (6, 5), (128, 0), (129, 4)] L_51 h_52 L_59 h_60 := hs
          replace fw_56 := (hs.o (gx.S hM) trivial rfl).1.trans fw_56
          replace af_qd : h_60.2.1 qd = df := (funext fun j => (hs.a (gqd.S hM) rfl j).1).trans af_qd
          replace hM := hM.tr (hs.mono ?o86)
          case o86 => decide
          have fw_64 : h_60.2.1 x 2 = w_64 := fw_64
          have bw_64 := hT.gi (gx.S hM) tt_6 (k := 2) rfl
          rw [fw_64] at bw_64
          have bw_64 : 0 ≤ w_64.toInt ∧ w_64.toInt ≤ 402 := bw_64
          have fw_65 : h_60.2.1 x 3 = w_65 := fw_65
          have bw_65 := hT.gi (gx.S hM) tt_6 (k := 3) rfl
          rw [fw_65] at bw_65
          have bw_65 : -2147483648 ≤ w_65.toInt ∧ w_65.toInt ≤ 2147483647 := bw_65
          have fw_66 : h_60.2.1 x 5 = w_66 := fw_66
          have bw_66 := hT.gi (gx.S hM) tt_6 (k := 5) rfl
          rw [fw_66] at bw_66
          have bw_66 : -2147483648 ≤ w_66.toInt ∧ w_66.toInt ≤ 2147483647 := bw_66
          have fw_67 : h_60.2.1 qi 4 = w_67 := fw_67
          have bw_67 := hT.gi (gqi.S hM) tt_129 (k := 4) rfl
          rw [fw_67] at bw_67
          have bw_67 : 0 ≤ w_67.toInt ∧ w_67.toInt ≤ 160 := bw_67
          have fw_68 : h_60.2.1 qp = w_68 := fw_68
          have hr_63b := hv_K_b hr_63
          refine hb_if_eq (zx := r_61.toInt) (tgt := 74) hx hb rfl dX6_readClause_67 ?o87 (fun c_69 => ?_) (fun c_69 => ?_)
          case o87 => decide
          · skip
            refine lv_iconst (v := 0) hx hb dX6_readClause_74 ?o88 ?_
            case o88 => decide
            refine hx_retz hx hb hr rfl hlk hW ⟨⟨w_64, w_65, w_66, w_67, w_68, w_56, df, fw_64, fw_65, fw_66, fw_67, fw_68, fw_56, af_qd, ⟨(hv_CK_f (x := w_65.toInt.toNat) ?o89 (by have h8 := (hv_K_0 hr_63 (by omega)).1; omega) (by have h8 := (hv_K_0 hr_63 (by omega)).1; omega) (hv_cl_p2 (by rw [← ek_7]; exact hw20) hs13 (by have h8 := (hv_K_0 hr_63 (by omega)).2; rw [ha1, show tm0.toInt.toNat = 0 by omega] at h8; rw [← ek_7]; exact h8))), (fun z9 => absurd z9 ?o90)⟩⟩, hT, hM⟩ dX6_readClause_75
            case o89 => decide
            case o90 => decide
          · skip
            obtain ⟨k1_70F, k1_70p, k1_70t, oo_71, k1_70O, k1_70E⟩ := hv_K_1 hr_63 (by omega)
            have k1_70l := hv_ls_l k1_70O
            replace hr_63b : r_61.toInt = 1 := ?o91
            case o91 => omega
            have k1_70g := hv_LE_g k1_70E ?o92
            case o92 => omega
            refine lv_iconst (v := 1) hx hb dX6_readClause_70 ?o93 ?_
            case o93 => decide
            refine lv_goto (tgt := 75) hx hb dX6_readClause_71 ?o94 ?_
            case o94 => decide
            refine hx_retz hx hb hr rfl hlk hW ⟨⟨w_64, w_65, w_66, w_67, w_68, w_56, df, fw_64, fw_65, fw_66, fw_67, fw_68, fw_56, af_qd, ⟨(hv_CK_t (x := w_64.toInt.toNat) ?o95 ?o96 ?o97 (by rcases hr_55 with z | z; exact z.2.2.2; exfalso; omega) rfl k1_70O (hv_cl_p3 (by rw [← ek_7]; exact hw20) hs13 (by have h8 := k1_70E; rw [ha1, show tm0.toInt.toNat = 0 by omega] at h8; rw [← ek_7]; exact h8))), fun _ => ⟨?o98, ?o99, ?o100, ?o101, fun z8 => by exfalso; rcases hr_55 with z | z; (rw [z.2.2.2] at z8; exact absurd (hv_ub_at.symm.trans z8) (by decide)); omega⟩⟩⟩, hT, hM⟩ dX6_readClause_75
            case o95 => decide
            case o96 => omega
            case o97 => omega
            case o98 => omega
            case o99 => omega
            case o100 => omega
            case o101 => omega
    · skip
      have hw19 : hv_wd tf ln0.toInt.toNat w_6.toInt.toNat = 19 := ?o102
      case o102 =>
        have h8 := hcl.2.2.2
        rw [if_neg (by omega)] at h8
        omega
      refine lv_aload_n hx hb dX6_readClause_33 rfl (lv_at hl 2 rfl) ?_
      refine hx_goi (hx_runVX (As := []) (rest := []) ⟨hx, hb, hml, hown, hts⟩ hW (gx.S hM) tt_6 (T := TX6) (N := 7) rfl (t_X6_readCost_v l dC dI dA L_8 h_9 H.size b0 x hT (gx.S hM) qt (gqt.S hM) ((hM.o gx trivial rfl).2.trans f_x_0) qi (gqi.S hM) ((hM.o gx trivial rfl).2.trans f_x_6) qd (gqd.S hM) ((hM.o gqi trivial rfl).2.trans f_qi_2) tf (hx_afS hM gqt rfl af_qt) df af_qd w_13 fw_13 ln0 ((hM.o gx trivial rfl).1.trans f_x_1) ft0 f_x_3 to0 f_x_4 _ o hO ?o103 ?o104) hZ (cwV 0 hts (hx_gV kw_531 kw_528 kw_530 kw_7 kw_95) rfl rfl rfl (by decide +kernel) ⟨Nat.le_of_ble_eq_true rfl, Nat.le_of_ble_eq_true rfl⟩) rfl hl.1 rfl (Nat.le_of_ble_eq_true rfl) dX6_readClause_34 ⟨Nat.le_of_ble_eq_true rfl, Nat.le_of_ble_eq_true rfl⟩) hW (fun r_74 L_72 h_73 H locs p_75 hW => ?_)
      case o103 => omega
      case o104 => omega
      obtain ⟨⟨w_77, w_78, w_79, w_80, fw_77, fw_78, fw_79, fw_80, hr_76⟩, hT, hs⟩ := p_75
      replace hT : hx_T T_tb L_72 h_73 := hT
      replace hs : hx_S T_tb [(6, 2), (6, 3), (6, 4), (127, 0)] L_8 h_9 L_72 h_73 := hs
      replace f_x_5 := (hs.o (gx.S hM) trivial rfl).1.trans f_x_5
      replace f_qi_4 := (hs.o (gqi.S hM) trivial rfl).1.trans f_qi_4
      replace af_qp : h_73.2.1 qp = pf := (funext fun j => (hs.a (gqp.S hM) rfl j).1).trans af_qp
      replace hM := hM.tr (hs.mono ?o105)
      case o105 => decide
      have fw_77 : h_73.2.1 x 2 = w_77 := fw_77
      have bw_77 := hT.gi (gx.S hM) tt_6 (k := 2) rfl
      rw [fw_77] at bw_77
      have bw_77 : 0 ≤ w_77.toInt ∧ w_77.toInt ≤ 402 := bw_77
      have fw_78 : h_73.2.1 x 3 = w_78 := fw_78
      have bw_78 := hT.gi (gx.S hM) tt_6 (k := 3) rfl
      rw [fw_78] at bw_78
      have bw_78 : -2147483648 ≤ w_78.toInt ∧ w_78.toInt ≤ 2147483647 := bw_78
      have fw_79 : h_73.2.1 x 4 = w_79 := fw_79
      have bw_79 := hT.gi (gx.S hM) tt_6 (k := 4) rfl
      rw [fw_79] at bw_79
      have bw_79 : -2147483648 ≤ w_79.toInt ∧ w_79.toInt ≤ 2147483647 := bw_79
      have fw_80 : h_73.2.1 qd = w_80 := fw_80
      have hr_76b := hv_CK_b hr_76.1
      refine hx_retz hx hb hr (hx_nar01 ?o106) hlk hW ⟨⟨w_77, w_78, tm0, pl0, pf, w_79, w_80, fw_77, fw_78, f_x_5, f_qi_4, af_qp, fw_79, fw_80, ⟨hv_CK_c hr_76.1 ((hv_cl_c (by rw [← ek_7]; exact hw19)).trans (by rw [← ek_7, ha1])), fun z9 => by have h8 := hr_76.2 z9; exact ⟨by omega, by omega, by omega, by omega, fun z8 => hTM (h8.2.2.symm.trans z8)⟩⟩⟩, hT, hM⟩ dX6_readClause_37
      case o106 => omega
  · skip
    refine lv_aload_n hx hb dX6_readClause_20 rfl (lv_at hl 2 rfl) ?_
    refine lv_iload_n hx hb dX6_readClause_21 rfl (lv_at hl 1 rfl) ?_
    refine lv_iconst (v := 0) hx hb dX6_readClause_22 ?o107 ?_
    case o107 => decide
    have zc_0 : (0 : Int32).toInt = 0 := ?o108
    case o108 => decide
    refine hx_goi (hx_runV (As := [.int w_6, .int (0 : Int32)]) (rest := []) ⟨hx, hb, hml, hown, hts⟩ hW (gx.S hM) tt_6 (T := TX6) (N := 7) rfl (t_X6_refuse_v l dC dI dA L_8 h_9 H.size x w_6 (0 : Int32) hT (gx.S hM) ⟨?o109, ?o110⟩ ?o111) (cwV 2 hts (hx_gV kw_527 kw_524 kw_526 kw_6 kw_95) rfl rfl rfl (by decide +kernel) ⟨Nat.le_of_ble_eq_true rfl, Nat.le_of_ble_eq_true rfl⟩) rfl hl.1 rfl (Nat.le_of_ble_eq_true rfl) dX6_readClause_23 ⟨Nat.le_of_ble_eq_true rfl, Nat.le_of_ble_eq_true rfl⟩) hW (fun r_83 L_81 h_82 H locs p_84 hW => ?_)
    case o109 => omega
    case o110 => omega
    case o111 => decide
    obtain ⟨⟨w_86, fw_86, hr_85⟩, hT, hs⟩ := p_84
    replace hT : hx_T T_tb L_81 h_82 := hT
    replace hs : hx_S T_tb [(6, 3)] L_8 h_9 L_81 h_82 := hs
    replace f_x_5 := (hs.o (gx.S hM) trivial rfl).1.trans f_x_5
    replace f_qi_4 := (hs.o (gqi.S hM) trivial rfl).1.trans f_qi_4
    replace f_x_4 := (hs.o (gx.S hM) trivial rfl).1.trans f_x_4
    replace fw_13 := (hs.o (gx.S hM) trivial rfl).1.trans fw_13
    replace af_qp : h_82.2.1 qp = pf := (funext fun j => (hs.a (gqp.S hM) rfl j).1).trans af_qp
    replace af_qd : h_82.2.1 qd = df := (funext fun j => (hs.a (gqd.S hM) rfl j).1).trans af_qd
    replace hM := hM.tr (hs.mono ?o112)
    case o112 => decide
    have fw_86 : h_82.2.1 x 3 = w_86 := fw_86
    have bw_86 := hT.gi (gx.S hM) tt_6 (k := 3) rfl
    rw [fw_86] at bw_86
    have bw_86 : -2147483648 ≤ w_86.toInt ∧ w_86.toInt ≤ 2147483647 := bw_86
    exact hx_retz hx hb hr (hx_nar01 (by omega)) hlk hW ⟨⟨w_13, w_86, tm0, pl0, pf, to0, df, fw_13, fw_86, f_x_5, f_qi_4, af_qp, f_x_4, af_qd, ⟨(hv_CK_f (x := 1 + 8 * w_6.toInt.toNat) (by first | decide | omega) (by omega) (by omega) ((hv_cl_1 (by rw [← ek_7]; omega)).trans (by rw [← ek_7]))), (fun z9 => by exfalso; omega)⟩⟩, hT, hM⟩ dX6_readClause_26


set_option maxHeartbeats 4000000 in
set_option maxRecDepth 100000 in
theorem t_X6_isAnotherClause_v (l : Launch) (dC : Nat → ClassId) (dI : Nat → Nat → Nat) (dA : Nat → ClassId) (L : List Nat) (h : hx_h) (sz : Nat) (x : Nat) (hT : hx_T T_tb L h) (gx : hx_g L h x 6) (qt : Nat) (gqt : hx_g L h qt 42) (f_x_0 : h.2.2 x 0 = some qt) (tf : Nat → Int32) (af_qt : h.2.1 qt = tf) (at0 : Int32) (f_x_2 : h.2.1 x 2 = at0) (ln0 : Int32) (f_x_1 : h.2.1 x 1 = ln0) (ft0 : Int32) (f_x_3 : h.2.1 x 3 = ft0) (hA : at0.toInt ≤ ln0.toInt) : Met l yX6_isAnotherClause (Cond.code yX6_isAnotherClause cX6_isAnotherClause 1 (some .boolean) :: hx_all) ({ frames := 1, cells := 0, slots := 0, locals := 22 }) (va_Pc [.ref x] (hx_B T_tb (P_ty dA) (dC, dI) vwCl L h sz)) (va_Qi (fun (r : Int32) (u : List Nat × hx_h) => (∃ (at1 : Int32) (ft1 : Int32), u.2.2.1 x 2 = at1 ∧ u.2.2.1 x 3 = ft1 ∧ ((r.toInt = 1 ∧ ft1 = ft0 ∧ hv_sk tf ln0.toInt.toNat at0.toInt.toNat < ln0.toInt.toNat ∧ (tf (hv_sk tf ln0.toInt.toNat at0.toInt.toNat)).toInt = 59 ∧ at1.toInt = ((hv_sk tf ln0.toInt.toNat at0.toInt.toNat + 1 : Nat) : Int)) ∨ (r.toInt = 0 ∧ ((ln0.toInt.toNat ≤ hv_sk tf ln0.toInt.toNat at0.toInt.toNat ∧ ft1 = ft0) ∨ (hv_sk tf ln0.toInt.toNat at0.toInt.toNat < ln0.toInt.toNat ∧ (tf (hv_sk tf ln0.toInt.toNat at0.toInt.toNat)).toInt ≠ 59 ∧ ft1.toInt = ((1 + 8 * hv_sk tf ln0.toInt.toNat at0.toInt.toNat : Nat) : Int)))))) ∧ hx_T T_tb u.1 u.2 ∧ hx_S T_tb [(6, 2), (6, 3)] L h u.1 u.2) (hx_E T_tb (P_ty dA) (dC, dI) vwCl (hx_A L sz)) (hx_A L sz)) 0 0 (hx_A L sz) := by
  refine hx_met (lv := [(0, .ref x)]) (by decide +kernel) rfl (Nat.le_of_ble_eq_true rfl) rfl ?_
  intro p e s m below meth c hx hb hml hr hlk hts0 hown hin hsz hW ls hl
  have hts : ∀ w ∈ hx_all, w.before _ s = true := fun w hw => hts0 w (List.mem_cons_of_mem _ hw)
  have hown : s.vm.findClass "SmallCourt$Reader" = some m.cls := hown
  have hM : hx_S T_tb [(6, 2), (6, 3)] L h L h := hx_S.rf
  have b_at0 := hT.gi gx tt_6 (k := 2) rfl
  rw [f_x_2] at b_at0
  have b_at0 : 0 ≤ at0.toInt ∧ at0.toInt ≤ 402 := b_at0
  have b_ln0 := hT.gi gx tt_6 (k := 1) rfl
  rw [f_x_1] at b_ln0
  have b_ln0 : 0 ≤ ln0.toInt ∧ ln0.toInt ≤ 400 := b_ln0
  have b_ft0 := hT.gi gx tt_6 (k := 3) rfl
  rw [f_x_3] at b_ft0
  have b_ft0 : -2147483648 ≤ ft0.toInt ∧ ft0.toInt ≤ 2147483647 := b_ft0
  refine lv_aload_n hx hb dX6_isAnotherClause_0 rfl (lv_at hl 0 rfl) ?_
  refine hx_gov (hx_runV (As := []) (rest := []) ⟨hx, hb, hml, hown, hts⟩ hW (gx.S hM) tt_6 (T := TX6) (N := 7) rfl (t_X6_skipBlanks_v l dC dI dA L h s.heap.size x hT (gx.S hM) qt (gqt.S hM) ((hM.o gx trivial rfl).2.trans f_x_0) tf (hx_afS hM gqt rfl af_qt) at0 f_x_2 ln0 ((hM.o gx trivial rfl).1.trans f_x_1) ?o0) (cwV 0 hts (hx_gV kw_458 kw_455 kw_457 kw_1 kw_95) rfl rfl rfl (by decide +kernel) ⟨Nat.le_of_ble_eq_true rfl, Nat.le_of_ble_eq_true rfl⟩) rfl hl.1 rfl (Nat.le_of_ble_eq_true rfl) dX6_isAnotherClause_1 ⟨Nat.le_of_ble_eq_true rfl, Nat.le_of_ble_eq_true rfl⟩) hW (fun L_1 h_2 H locs p_4 hW => ?_)
  case o0 => omega
  obtain ⟨⟨w_6, fw_6, hr_5⟩, hT, hs⟩ := p_4
  replace hT : hx_T T_tb L_1 h_2 := hT
  replace hs : hx_S T_tb [(6, 2)] L h L_1 h_2 := hs
  replace f_x_3 := (hs.o (gx.S hM) trivial rfl).1.trans f_x_3
  replace hM := hM.tr (hs.mono ?o1)
  case o1 => decide
  have fw_6 : h_2.2.1 x 2 = w_6 := fw_6
  have bw_6 := hT.gi (gx.S hM) tt_6 (k := 2) rfl
  rw [fw_6] at bw_6
  have bw_6 : 0 ≤ w_6.toInt ∧ w_6.toInt ≤ 402 := bw_6
  have ek_7 : w_6.toInt.toNat = hv_sk tf ln0.toInt.toNat at0.toInt.toNat := ?o2
  case o2 => omega
  refine lv_aload_n hx hb dX6_isAnotherClause_4 rfl (lv_at hl 0 rfl) ?_
  refine hk_geti hx hb hts hC_6 hown hW (gx.S hM) tt_6 2 ?o3 rfl kw_127 ⟨rfl, rfl, rfl⟩ fw_6 dX6_isAnotherClause_5 ?_
  case o3 => decide
  refine lv_aload_n hx hb dX6_isAnotherClause_8 rfl (lv_at hl 0 rfl) ?_
  refine hk_geti hx hb hts hC_6 hown hW (gx.S hM) tt_6 1 ?o4 rfl kw_126 ⟨rfl, rfl, rfl⟩ ((hM.o gx trivial rfl).1.trans f_x_1) dX6_isAnotherClause_9 ?_
  case o4 => decide
  refine hb_icmp_lt (zx := w_6.toInt) (zy := ln0.toInt) (tgt := 17) hx hb rfl rfl dX6_isAnotherClause_12 ?o5 (fun c_8 => ?_) (fun c_8 => ?_)
  case o5 => decide
  · skip
    refine lv_aload_n hx hb dX6_isAnotherClause_17 rfl (lv_at hl 0 rfl) ?_
    refine hk_getr hx hb hts hC_6 hown hW (gx.S hM) tt_6 0 ?o6 rfl kw_125 ⟨rfl, rfl, rfl⟩ ((hM.o gx trivial rfl).2.trans f_x_0) dX6_isAnotherClause_18 ?_
    case o6 => decide
    refine lv_aload_n hx hb dX6_isAnotherClause_21 rfl (lv_at hl 0 rfl) ?_
    refine hk_geti hx hb hts hC_6 hown hW (gx.S hM) tt_6 2 ?o7 rfl kw_127 ⟨rfl, rfl, rfl⟩ fw_6 dX6_isAnotherClause_22 ?_
    case o7 => decide
    refine hx_bald hx hb hW hT (gqt.S hM) tt_42 rfl ⟨?o8, ?o9⟩ dX6_isAnotherClause_25 (fun x_9 ex_9 lx_9 ux_9 => ?_)
    case o8 => omega
    case o9 => omega
    have ax_9 : x_9 = tf w_6.toNatClampNeg := ex_9.trans (congrFun (hx_afS hM gqt rfl af_qt) _)
    refine lv_bipush (v := 59) hx hb dX6_isAnotherClause_26 ?o10 ?_
    case o10 => decide
    refine hb_icmp_eq (zx := x_9.toInt) (zy := 59) (tgt := 41) hx hb rfl ?o11 dX6_isAnotherClause_28 ?o12 (fun c_10 => ?_) (fun c_10 => ?_)
    case o11 => decide
    case o12 => decide
    · skip
      refine lv_aload_n hx hb dX6_isAnotherClause_41 rfl (lv_at hl 0 rfl) ?_
      refine lv_dup hx hb dX6_isAnotherClause_42 rfl ?_
      refine hk_geti hx hb hts hC_6 hown hW (gx.S hM) tt_6 2 ?o13 rfl kw_127 ⟨rfl, rfl, rfl⟩ fw_6 dX6_isAnotherClause_43 ?_
      case o13 => decide
      refine lv_iconst (v := 1) hx hb dX6_isAnotherClause_46 ?o14 ?_
      case o14 => decide
      refine lv_iadd hx hb dX6_isAnotherClause_47 ?_
      have rg_11 := i32_r w_6
      refine lv_topi (fun x_12 ex_12 => ?_)
      have zx_12 : x_12.toInt = w_6.toInt + 1 := ?o15
      case o15 =>
        rw [ex_12]
        refine i32_add rfl ?o16 ?o17 ?o18
        case o16 => decide
        case o17 => omega
        case o18 => omega
      refine hx_puti hx hb hts hC_6 hown hW hT (hx_S.rf (M := [(6, 2)])) (gx.S hM) tt_6 2 ?o19 rfl kw_127 ⟨rfl, rfl, rfl⟩ rfl (x := x_12) ⟨?o20, ?o21⟩ rfl rfl rfl (List.mem_singleton.mpr rfl) dX6_isAnotherClause_48 (fun H locs h_13 eh_13 hW hT hs => ?_)
      case o19 => decide
      case o20 => omega
      case o21 => omega
      replace f_x_3 := (hs.o (gx.S hM) trivial rfl).1.trans f_x_3
      replace ex_9 := ex_9.trans (hs.a (gqt.S hM) rfl _).1.symm
      replace hM := hM.tr (hs.mono ?o22)
      case o22 => decide
      have f_14 : h_13.2.1 x 2 = x_12 := ?o23
      case o23 =>
        rw [eh_13]
        exact hx_pi_at _ _ _ _
      refine lv_iconst (v := 1) hx hb dX6_isAnotherClause_51 ?o24 ?_
      case o24 => decide
      refine hx_retz hx hb hr rfl hlk hW ⟨⟨x_12, ft0, f_14, f_x_3, (Or.inl ⟨?o25, rfl, (by rw [← ek_7]; omega), (by rw [← ek_7]; show (tf w_6.toNatClampNeg).toInt = 59; rw [← ax_9]; omega), (by rw [← ek_7]; omega)⟩)⟩, hT, hM⟩ dX6_isAnotherClause_52
      case o25 => decide
    · skip
      refine lv_aload_n hx hb dX6_isAnotherClause_31 rfl (lv_at hl 0 rfl) ?_
      refine lv_aload_n hx hb dX6_isAnotherClause_32 rfl (lv_at hl 0 rfl) ?_
      refine hk_geti hx hb hts hC_6 hown hW (gx.S hM) tt_6 2 ?o26 rfl kw_127 ⟨rfl, rfl, rfl⟩ fw_6 dX6_isAnotherClause_33 ?_
      case o26 => decide
      refine lv_iconst (v := 0) hx hb dX6_isAnotherClause_36 ?o27 ?_
      case o27 => decide
      have zc_0 : (0 : Int32).toInt = 0 := ?o28
      case o28 => decide
      refine hx_goi (hx_runV (As := [.int w_6, .int (0 : Int32)]) (rest := []) ⟨hx, hb, hml, hown, hts⟩ hW (gx.S hM) tt_6 (T := TX6) (N := 7) rfl (t_X6_refuse_v l dC dI dA L_1 h_2 H.size x w_6 (0 : Int32) hT (gx.S hM) ⟨?o29, ?o30⟩ ?o31) (cwV 2 hts (hx_gV kw_527 kw_524 kw_526 kw_6 kw_95) rfl rfl rfl (by decide +kernel) ⟨Nat.le_of_ble_eq_true rfl, Nat.le_of_ble_eq_true rfl⟩) rfl hl.1 rfl (Nat.le_of_ble_eq_true rfl) dX6_isAnotherClause_37 ⟨Nat.le_of_ble_eq_true rfl, Nat.le_of_ble_eq_true rfl⟩) hW (fun r_17 L_15 h_16 H locs p_18 hW => ?_)
      case o29 => omega
      case o30 => omega
      case o31 => decide
      obtain ⟨⟨w_20, fw_20, hr_19⟩, hT, hs⟩ := p_18
      replace hT : hx_T T_tb L_15 h_16 := hT
      replace hs : hx_S T_tb [(6, 3)] L_1 h_2 L_15 h_16 := hs
      replace fw_6 := (hs.o (gx.S hM) trivial rfl).1.trans fw_6
      replace ex_9 := ex_9.trans (hs.a (gqt.S hM) rfl _).1.symm
      replace hM := hM.tr (hs.mono ?o32)
      case o32 => decide
      have fw_20 : h_16.2.1 x 3 = w_20 := fw_20
      have bw_20 := hT.gi (gx.S hM) tt_6 (k := 3) rfl
      rw [fw_20] at bw_20
      have bw_20 : -2147483648 ≤ w_20.toInt ∧ w_20.toInt ≤ 2147483647 := bw_20
      refine hx_retz hx hb hr (hx_nar01 ?o33) hlk hW ⟨⟨w_6, w_20, fw_6, fw_20, (Or.inr ⟨?o34, Or.inr ⟨(by rw [← ek_7]; omega), (by rw [← ek_7]; show (tf w_6.toNatClampNeg).toInt ≠ 59; rw [← ax_9]; omega), (by rw [← ek_7]; omega)⟩⟩)⟩, hT, hM⟩ dX6_isAnotherClause_40
      case o33 => omega
      case o34 => omega
  · skip
    refine lv_iconst (v := 0) hx hb dX6_isAnotherClause_15 ?o35 ?_
    case o35 => decide
    refine hx_retz hx hb hr rfl hlk hW ⟨⟨w_6, ft0, fw_6, f_x_3, (Or.inr ⟨?o36, Or.inl ⟨(by rw [← ek_7]; omega), rfl⟩⟩)⟩, hT, hM⟩ dX6_isAnotherClause_16
    case o36 => decide

section HVAG
variable {T : Nat → Int32} {n p0 p1 x : Nat} {a a1 : Nat → Bool} {b b1 : Nat → Int} {c o : List hv_tok} {sp : Nat ⊕ hv_st}
/-- behind a CLAUSE, with all parts named (nothing is left to be found by unfolding) -/
theorem hv_AG_1 (hg : sp = hv_AL T n (p0, a, b, c)) (hE : hv_cl T n p0 a b c = .inl x) : sp = .inl x := hg.trans (hv_AL_1 (s := (p0, a, b, c)) hE)
theorem hv_AG_2 (hg : sp = hv_AL T n (p0, a, b, c)) (hE : hv_cl T n p0 a b c = .inr (p1, a1, b1, o)) (hn : n ≤ hv_sk T n p1) : sp = .inr (hv_sk T n p1, a1, b1, o) := hg.trans (hv_AL_2 (s := (p0, a, b, c)) (q := (p1, a1, b1, o)) hE hn)
theorem hv_AG_3 (hg : sp = hv_AL T n (p0, a, b, c)) (hE : hv_cl T n p0 a b c = .inr (p1, a1, b1, o)) (hn : hv_sk T n p1 < n) (h5 : (T (hv_sk T n p1)).toInt ≠ 59) : sp = .inl (1 + 8 * hv_sk T n p1) := hg.trans (hv_AL_3 (s := (p0, a, b, c)) (q := (p1, a1, b1, o)) hE hn h5)
theorem hv_AG_4 (hg : sp = hv_AL T n (p0, a, b, c)) (hE : hv_cl T n p0 a b c = .inr (p1, a1, b1, o)) (hn : hv_sk T n p1 < n) (h5 : (T (hv_sk T n p1)).toInt = 59) : sp = hv_AL T n (hv_sk T n p1 + 1, a1, b1, o) := hg.trans (hv_AL_4 (s := (p0, a, b, c)) (q := (p1, a1, b1, o)) hE hn h5)
theorem hv_AG_c (hg : sp = hv_AL T n (p0, a, b, c)) (h : ∀ s : hv_st, hv_cl T n s.1 s.2.1 s.2.2.1 s.2.2.2 = hv_cl T n p0 a b c → hv_AL T n s = .inl x) : sp = .inl x := hg.trans (h (p0, a, b, c) rfl)
variable {e : hv_tok → Int} {g ft p t i : Int} {sn : Nat → Bool} {rd : Nat → Int} {ls : List Int}
theorem hv_AI_2 (hg : sp = hv_AL T n (p0, a, b, c)) (hE : hv_cl T n p0 a b c = .inr (p1, a1, rd, o)) (hn : n ≤ hv_sk T n p1) (h0 : g = 0) (hf : ft = 0) (hl : ls = o.map e) : hv_AI e T n sp g ft p t i sn rd ls := Or.inr (Or.inl ⟨h0, hf, _, _, o, hl, hv_AG_2 hg hE hn⟩)
theorem hv_AI_3 (hg : sp = hv_AL T n (p0, a, b, c)) (hE : hv_cl T n p0 a b c = .inr (p1, a1, b1, o)) (hn : hv_sk T n p1 < n) (h5 : (T (hv_sk T n p1)).toInt ≠ 59) (h0 : g = 0) (hf : ft = ((1 + 8 * hv_sk T n p1 : Nat) : Int)) : hv_AI e T n sp g ft p t i sn rd ls := Or.inr (Or.inr ⟨h0, by omega, by rw [hf, Int.toNat_natCast]; exact hv_AG_3 hg hE hn h5⟩)
theorem hv_AI_4 (hg : sp = hv_AL T n (p0, a, b, c)) (hE : hv_cl T n p0 a b c = .inr (p1, sn, rd, o)) (hn : hv_sk T n p1 < n) (h5 : (T (hv_sk T n p1)).toInt = 59) (hw : p.toNat = hv_sk T n p1 + 1) : sp = hv_AL T n (p.toNat, sn, rd, o) := by rw [hw]; exact hv_AG_4 hg hE hn h5
end HVAG


set_option maxHeartbeats 4000000 in
set_option maxRecDepth 100000 in
theorem t_X6_readAct_v (l : Launch) (dC : Nat → ClassId) (dI : Nat → Nat → Nat) (dA : Nat → ClassId) (L : List Nat) (h : hx_h) (sz : Nat) (b0 : hx_z) (x : Nat) (v1 : Nat) (i2 : Int32) (v3 : Nat) (hT : hx_T T_tb L h) (gx : hx_g L h x 6) (gv1 : hx_g L h v1 42) (gv3 : hx_g L h v3 129) (qp : Nat) (gqp : hx_g L h qp 128) (f_v3_3 : h.2.2 v3 3 = some qp) (qd : Nat) (gqd : hx_g L h qd 127) (f_v3_2 : h.2.2 v3 2 = some qd) (tf : Nat → Int32) (af_v1 : h.2.1 v1 = tf) (pf : Nat → Int32) (af_qp : h.2.1 qp = pf) (df : Nat → Int32) (af_qd : h.2.1 qd = df) (pl0 : Int32) (f_v3_4 : h.2.1 v3 4 = pl0) (hi2 : 0 ≤ i2.toInt ∧ i2.toInt ≤ 400) (o : List hv_tok) (hO : hv_ls pf pl0.toInt.toNat = o.map hv_cc) : Met l yX6_readAct (Cond.code yX6_readAct cX6_readAct 6 (some .int) :: hx_all) ({ frames := 26, cells := 0, slots := 0, locals := 594 }) (va_Pc [.ref x, .ref v1, .int i2, .ref v3] (hx_BX T_tb (P_ty dA) (dC, dI) vwCl L h sz b0)) (va_Qi (fun (r : Int32) (u : List Nat × hx_h) => (∃ (pl1 : Int32) (pf1 : Nat → Int32) (df1 : Nat → Int32), u.2.2.1 v3 4 = pl1 ∧ u.2.2.1 qp = pf1 ∧ u.2.2.1 qd = df1 ∧ (hv_AR hv_cc (hv_ACT tf i2.toInt.toNat (hv_rC df) o) r.toInt (hv_rC df1) (hv_ls pf1 pl1.toInt.toNat))) ∧ hx_T T_tb u.1 u.2 ∧ hx_S T_tb [(6, 0), (6, 1), (6, 2), (6, 3), (6, 4), (6, 5), (6, 6), (127, 0), (128, 0), (129, 4)] L h u.1 u.2) (hx_E T_tb (P_ty dA) (dC, dI) vwCl (hx_A L sz)) (hx_A L sz)) 0 0 (hx_A L sz) := by
  refine hx_metX (lv := [(0, .ref x), (1, .ref v1), (2, .int i2), (3, .ref v3)]) (by decide +kernel) rfl (Nat.le_of_ble_eq_true rfl) rfl ?_
  intro p e s m below meth c hx hb hml hr hlk hts0 hown hin hsz hW hZ ls hl
  have hts : ∀ w ∈ hx_all, w.before _ s = true := fun w hw => hts0 w (List.mem_cons_of_mem _ hw)
  have hown : s.vm.findClass "SmallCourt$Reader" = some m.cls := hown
  have hM : hx_S T_tb [(6, 0), (6, 1), (6, 2), (6, 3), (6, 4), (6, 5), (6, 6), (127, 0), (128, 0), (129, 4)] L h L h := hx_S.rf
  obtain ⟨zLT, zLA, zMT, zMA, zCS, zSF, zVS, zVR⟩ := hZ.2.2.2.2.2.2
  have b_pl0 := hT.gi gv3 tt_129 (k := 4) rfl
  rw [f_v3_4] at b_pl0
  have b_pl0 : 0 ≤ pl0.toInt ∧ pl0.toInt ≤ 160 := b_pl0
  refine lv_aload_n hx hb dX6_readAct_0 rfl (lv_at hl 0 rfl) ?_
  refine lv_aload_n hx hb dX6_readAct_1 rfl (lv_at hl 1 rfl) ?_
  refine hx_putr hx hb hts hC_6 hown hW hT (hx_S.rf (M := [(6, 0)])) (gx.S hM) tt_6 0 ?o0 rfl kw_125 ⟨rfl, rfl, rfl⟩ rfl (x := (some v1)) ⟨fun _ z => (by cases z), fun q hq => (by cases hq; exact ⟨(gv1.S hM).1, by rw [(gv1.S hM).2]; decide⟩)⟩ rfl rfl rfl (List.mem_singleton.mpr rfl) dX6_readAct_2 (fun H locs h_1 eh_1 hW hT hs => ?_)
  case o0 => decide
  replace f_v3_4 := (hs.o (gv3.S hM) trivial rfl).1.trans f_v3_4
  replace af_qp : h_1.2.1 qp = pf := (funext fun j => (hs.a (gqp.S hM) rfl j).1).trans af_qp
  replace af_qd : h_1.2.1 qd = df := (funext fun j => (hs.a (gqd.S hM) rfl j).1).trans af_qd
  replace hM := hM.tr (hs.mono ?o1)
  case o1 => decide
  have f_2 : h_1.2.2 x 0 = (some v1) := ?o2
  case o2 =>
    rw [eh_1]
    exact hx_pr_at _ _ _ _
  refine lv_aload_n hx hb dX6_readAct_5 rfl (lv_at hl 0 rfl) ?_
  refine lv_iload_n hx hb dX6_readAct_6 rfl (lv_at hl 2 rfl) ?_
  refine hb_if_lt (zx := i2.toInt) (tgt := 16) hx hb rfl dX6_readAct_7 ?o3 (fun c_3 => ?o4) (fun c_3 => ?_)
  case o3 => decide
  case o4 =>
    exfalso
    omega
  refine lv_iload_n hx hb dX6_readAct_10 rfl (lv_at hl 2 rfl) ?_
  refine lv_aload_n hx hb dX6_readAct_11 rfl (lv_at hl 1 rfl) ?_
  refine hx_alen hx hb hW (gv1.S hM) tt_42 rfl dX6_readAct_12 ?_
  refine lv_topi (fun x_4 ex_4 => ?_)
  obtain rfl : x_4 = (400 : Int32) := ex_4.trans (by decide)
  refine hb_icmp_le (zx := i2.toInt) (zy := 400) (tgt := 20) hx hb rfl ?o5 dX6_readAct_13 ?o6 (fun c_5 => ?_) (fun c_5 => ?o7)
  case o5 => decide
  case o6 => decide
  case o7 =>
    exfalso
    omega
  refine lv_iload_n hx hb dX6_readAct_20 rfl (lv_at hl 2 rfl) ?_
  refine hx_puti hx hb hts hC_6 hown hW hT (hx_S.rf (M := [(6, 1)])) (gx.S hM) tt_6 1 ?o8 rfl kw_126 ⟨rfl, rfl, rfl⟩ rfl (x := i2) ⟨?o9, ?o10⟩ rfl rfl rfl (List.mem_singleton.mpr rfl) dX6_readAct_21 (fun H locs h_6 eh_6 hW hT hs => ?_)
  case o8 => decide
  case o9 => omega
  case o10 => omega
  replace f_v3_4 := (hs.o (gv3.S hM) trivial rfl).1.trans f_v3_4
  replace f_2 := (hs.o (gx.S hM) trivial rfl).2.trans f_2
  replace af_qp : h_6.2.1 qp = pf := (funext fun j => (hs.a (gqp.S hM) rfl j).1).trans af_qp
  replace af_qd : h_6.2.1 qd = df := (funext fun j => (hs.a (gqd.S hM) rfl j).1).trans af_qd
  replace hM := hM.tr (hs.mono ?o11)
  case o11 => decide
  have f_7 : h_6.2.1 x 1 = i2 := ?o12
  case o12 =>
    rw [eh_6]
    exact hx_pi_at _ _ _ _
  refine lv_aload_n hx hb dX6_readAct_24 rfl (lv_at hl 0 rfl) ?_
  refine lv_iconst (v := 0) hx hb dX6_readAct_25 ?o13 ?_
  case o13 => decide
  refine hx_puti hx hb hts hC_6 hown hW hT (hx_S.rf (M := [(6, 2)])) (gx.S hM) tt_6 2 ?o14 rfl kw_127 ⟨rfl, rfl, rfl⟩ rfl (x := (0 : Int32)) ?o15 rfl rfl rfl (List.mem_singleton.mpr rfl) dX6_readAct_26 (fun H locs h_8 eh_8 hW hT hs => ?_)
  case o14 => decide
  case o15 => decide
  replace f_v3_4 := (hs.o (gv3.S hM) trivial rfl).1.trans f_v3_4
  replace f_2 := (hs.o (gx.S hM) trivial rfl).2.trans f_2
  replace f_7 := (hs.o (gx.S hM) trivial rfl).1.trans f_7
  replace af_qp : h_8.2.1 qp = pf := (funext fun j => (hs.a (gqp.S hM) rfl j).1).trans af_qp
  replace af_qd : h_8.2.1 qd = df := (funext fun j => (hs.a (gqd.S hM) rfl j).1).trans af_qd
  replace hM := hM.tr (hs.mono ?o16)
  case o16 => decide
  have f_9 : h_8.2.1 x 2 = (0 : Int32) := ?o17
  case o17 =>
    rw [eh_8]
    exact hx_pi_at _ _ _ _
  refine lv_aload_n hx hb dX6_readAct_29 rfl (lv_at hl 0 rfl) ?_
  refine lv_iconst (v := 0) hx hb dX6_readAct_30 ?o18 ?_
  case o18 => decide
  refine hx_puti hx hb hts hC_6 hown hW hT (hx_S.rf (M := [(6, 3)])) (gx.S hM) tt_6 3 ?o19 rfl kw_128 ⟨rfl, rfl, rfl⟩ rfl (x := (0 : Int32)) ?o20 rfl rfl rfl (List.mem_singleton.mpr rfl) dX6_readAct_31 (fun H locs h_10 eh_10 hW hT hs => ?_)
  case o19 => decide
  case o20 => decide
  replace f_v3_4 := (hs.o (gv3.S hM) trivial rfl).1.trans f_v3_4
  replace f_2 := (hs.o (gx.S hM) trivial rfl).2.trans f_2
  replace f_7 := (hs.o (gx.S hM) trivial rfl).1.trans f_7
  replace f_9 := (hs.o (gx.S hM) trivial rfl).1.trans f_9
  replace af_qp : h_10.2.1 qp = pf := (funext fun j => (hs.a (gqp.S hM) rfl j).1).trans af_qp
  replace af_qd : h_10.2.1 qd = df := (funext fun j => (hs.a (gqd.S hM) rfl j).1).trans af_qd
  replace hM := hM.tr (hs.mono ?o21)
  case o21 => decide
  have f_11 : h_10.2.1 x 3 = (0 : Int32) := ?o22
  case o22 =>
    rw [eh_10]
    exact hx_pi_at _ _ _ _
  refine lv_aload_n hx hb dX6_readAct_34 rfl (lv_at hl 0 rfl) ?_
  refine lv_iconst (v := 0) hx hb dX6_readAct_35 ?o23 ?_
  case o23 => decide
  refine hx_puti hx hb hts hC_6 hown hW hT (hx_S.rf (M := [(6, 4)])) (gx.S hM) tt_6 4 ?o24 rfl kw_129 ⟨rfl, rfl, rfl⟩ rfl (x := (0 : Int32)) ?o25 rfl rfl rfl (List.mem_singleton.mpr rfl) dX6_readAct_36 (fun H locs h_12 eh_12 hW hT hs => ?_)
  case o24 => decide
  case o25 => decide
  replace f_v3_4 := (hs.o (gv3.S hM) trivial rfl).1.trans f_v3_4
  replace f_2 := (hs.o (gx.S hM) trivial rfl).2.trans f_2
  replace f_7 := (hs.o (gx.S hM) trivial rfl).1.trans f_7
  replace f_9 := (hs.o (gx.S hM) trivial rfl).1.trans f_9
  replace f_11 := (hs.o (gx.S hM) trivial rfl).1.trans f_11
  replace af_qp : h_12.2.1 qp = pf := (funext fun j => (hs.a (gqp.S hM) rfl j).1).trans af_qp
  replace af_qd : h_12.2.1 qd = df := (funext fun j => (hs.a (gqd.S hM) rfl j).1).trans af_qd
  replace hM := hM.tr (hs.mono ?o26)
  case o26 => decide
  have f_13 : h_12.2.1 x 4 = (0 : Int32) := ?o27
  case o27 =>
    rw [eh_12]
    exact hx_pi_at _ _ _ _
  refine lv_aload_n hx hb dX6_readAct_39 rfl (lv_at hl 0 rfl) ?_
  refine lv_iconst (v := 0) hx hb dX6_readAct_40 ?o28 ?_
  case o28 => decide
  refine hx_puti hx hb hts hC_6 hown hW hT (hx_S.rf (M := [(6, 5)])) (gx.S hM) tt_6 5 ?o29 rfl kw_130 ⟨rfl, rfl, rfl⟩ rfl (x := (0 : Int32)) ?o30 rfl rfl rfl (List.mem_singleton.mpr rfl) dX6_readAct_41 (fun H locs h_14 eh_14 hW hT hs => ?_)
  case o29 => decide
  case o30 => decide
  replace f_v3_4 := (hs.o (gv3.S hM) trivial rfl).1.trans f_v3_4
  replace f_2 := (hs.o (gx.S hM) trivial rfl).2.trans f_2
  replace f_7 := (hs.o (gx.S hM) trivial rfl).1.trans f_7
  replace f_9 := (hs.o (gx.S hM) trivial rfl).1.trans f_9
  replace f_11 := (hs.o (gx.S hM) trivial rfl).1.trans f_11
  replace f_13 := (hs.o (gx.S hM) trivial rfl).1.trans f_13
  replace af_qp : h_14.2.1 qp = pf := (funext fun j => (hs.a (gqp.S hM) rfl j).1).trans af_qp
  replace af_qd : h_14.2.1 qd = df := (funext fun j => (hs.a (gqd.S hM) rfl j).1).trans af_qd
  replace hM := hM.tr (hs.mono ?o31)
  case o31 => decide
  have f_15 : h_14.2.1 x 5 = (0 : Int32) := ?o32
  case o32 =>
    rw [eh_14]
    exact hx_pi_at _ _ _ _
  refine lv_aload_n hx hb dX6_readAct_44 rfl (lv_at hl 0 rfl) ?_
  refine lv_aload_n hx hb dX6_readAct_45 rfl (lv_at hl 3 rfl) ?_
  refine hx_putr hx hb hts hC_6 hown hW hT (hx_S.rf (M := [(6, 6)])) (gx.S hM) tt_6 6 ?o33 rfl kw_131 ⟨rfl, rfl, rfl⟩ rfl (x := (some v3)) ⟨fun _ z => (by cases z), fun q hq => (by cases hq; exact ⟨(gv3.S hM).1, by rw [(gv3.S hM).2]; decide⟩)⟩ rfl rfl rfl (List.mem_singleton.mpr rfl) dX6_readAct_46 (fun H locs h_16 eh_16 hW hT hs => ?_)
  case o33 => decide
  replace f_v3_4 := (hs.o (gv3.S hM) trivial rfl).1.trans f_v3_4
  replace f_2 := (hs.o (gx.S hM) trivial rfl).2.trans f_2
  replace f_7 := (hs.o (gx.S hM) trivial rfl).1.trans f_7
  replace f_9 := (hs.o (gx.S hM) trivial rfl).1.trans f_9
  replace f_11 := (hs.o (gx.S hM) trivial rfl).1.trans f_11
  replace f_13 := (hs.o (gx.S hM) trivial rfl).1.trans f_13
  replace f_15 := (hs.o (gx.S hM) trivial rfl).1.trans f_15
  replace af_qp : h_16.2.1 qp = pf := (funext fun j => (hs.a (gqp.S hM) rfl j).1).trans af_qp
  replace af_qd : h_16.2.1 qd = df := (funext fun j => (hs.a (gqd.S hM) rfl j).1).trans af_qd
  replace hM := hM.tr (hs.mono ?o34)
  case o34 => decide
  have f_17 : h_16.2.2 x 6 = (some v3) := ?o35
  case o35 =>
    rw [eh_16]
    exact hx_pr_at _ _ _ _
  refine lv_aload_n hx hb dX6_readAct_49 rfl (lv_at hl 0 rfl) ?_
  have zq_0 : (0 : Int32).toInt = 0 := ?o36
  case o36 => decide
  refine hx_gov (hx_runV (As := []) (rest := []) ⟨hx, hb, hml, hown, hts⟩ hW (gx.S hM) tt_6 (T := TX6) (N := 7) rfl (t_X6_skipBlanks_v l dC dI dA L h_16 H.size x hT (gx.S hM) v1 (gv1.S hM) f_2 tf (hx_afS hM gv1 rfl af_v1) (0 : Int32) f_9 i2 f_7 ?o37) (cwV 0 hts (hx_gV kw_458 kw_455 kw_457 kw_1 kw_95) rfl rfl rfl (by decide +kernel) ⟨Nat.le_of_ble_eq_true rfl, Nat.le_of_ble_eq_true rfl⟩) rfl hl.1 rfl (Nat.le_of_ble_eq_true rfl) dX6_readAct_50 ⟨Nat.le_of_ble_eq_true rfl, Nat.le_of_ble_eq_true rfl⟩) hW (fun L_18 h_19 H locs p_21 hW => ?_)
  case o37 => omega
  obtain ⟨⟨w_23, fw_23, hr_22⟩, hT, hs⟩ := p_21
  replace hT : hx_T T_tb L_18 h_19 := hT
  replace hs : hx_S T_tb [(6, 2)] L h_16 L_18 h_19 := hs
  replace f_v3_4 := (hs.o (gv3.S hM) trivial rfl).1.trans f_v3_4
  replace f_2 := (hs.o (gx.S hM) trivial rfl).2.trans f_2
  replace f_7 := (hs.o (gx.S hM) trivial rfl).1.trans f_7
  replace f_11 := (hs.o (gx.S hM) trivial rfl).1.trans f_11
  replace f_13 := (hs.o (gx.S hM) trivial rfl).1.trans f_13
  replace f_15 := (hs.o (gx.S hM) trivial rfl).1.trans f_15
  replace f_17 := (hs.o (gx.S hM) trivial rfl).2.trans f_17
  replace af_qp : h_19.2.1 qp = pf := (funext fun j => (hs.a (gqp.S hM) rfl j).1).trans af_qp
  replace af_qd : h_19.2.1 qd = df := (funext fun j => (hs.a (gqd.S hM) rfl j).1).trans af_qd
  replace hM := hM.tr (hs.mono ?o38)
  case o38 => decide
  have fw_23 : h_19.2.1 x 2 = w_23 := fw_23
  have bw_23 := hT.gi (gx.S hM) tt_6 (k := 2) rfl
  rw [fw_23] at bw_23
  have bw_23 : 0 ≤ w_23.toInt ∧ w_23.toInt ≤ 402 := bw_23
  have ek_24 : w_23.toInt.toNat = hv_sk tf i2.toInt.toNat (0 : Int32).toInt.toNat := ?o39
  case o39 => omega
  have ez : (0 : Int32).toInt.toNat = 0 := ?o40
  case o40 => decide
  rw [ez] at ek_24
  refine lv_aload_n hx hb dX6_readAct_53 rfl (lv_at hl 0 rfl) ?_
  refine hk_geti hx hb hts hC_6 hown hW (gx.S hM) tt_6 2 ?o41 rfl kw_127 ⟨rfl, rfl, rfl⟩ fw_23 dX6_readAct_54 ?_
  case o41 => decide
  refine lv_aload_n hx hb dX6_readAct_57 rfl (lv_at hl 0 rfl) ?_
  refine hk_geti hx hb hts hC_6 hown hW (gx.S hM) tt_6 1 ?o42 rfl kw_126 ⟨rfl, rfl, rfl⟩ f_7 dX6_readAct_58 ?_
  case o42 => decide
  refine hb_icmp_ge (zx := w_23.toInt) (zy := i2.toInt) (tgt := 68) hx hb rfl rfl dX6_readAct_61 ?o43 (fun c_25 => ?_) (fun c_25 => ?_)
  case o43 => decide
  · skip
    refine lv_iconst (v := 0) hx hb dX6_readAct_68 ?o44 ?_
    case o44 => decide
    refine lv_istore (lv' := [(4, .int (0 : Int32)), (0, .ref x), (1, .ref v1), (2, .int i2), (3, .ref v3)]) hx hb dX6_readAct_69 hl ?o45 rfl (fun ls hl => ?_)
    case o45 => decide
    refine lv_iconst (v := 0) hx hb dX6_readAct_71 ?o46 ?_
    case o46 => decide
    refine lv_istore (lv' := [(5, .int (0 : Int32)), (4, .int (0 : Int32)), (0, .ref x), (1, .ref v1), (2, .int i2), (3, .ref v3)]) hx hb dX6_readAct_72 hl ?o47 rfl (fun ls hl => ?_)
    case o47 => decide
    have loop74 : ∀ (n74 : Nat) (iv74_4 iv74_5 fw74_x_2 fw74_x_3 fw74_x_4 fw74_x_5 fw74_v3_4 : Int32) (ia74_qp ia74_qd : Nat → Int32) (H : Heap) (locs : List Loc) (hL1 : List Nat) (hl1 : hx_h), 0 ≤ iv74_4.toInt → iv74_4.toInt ≤ 1 → 0 ≤ iv74_5.toInt → iv74_5.toInt ≤ 401 → 0 ≤ fw74_x_2.toInt → fw74_x_2.toInt ≤ 402 → -2147483648 ≤ fw74_x_3.toInt → fw74_x_3.toInt ≤ 2147483647 → -2147483648 ≤ fw74_x_4.toInt → fw74_x_4.toInt ≤ 2147483647 → -2147483648 ≤ fw74_x_5.toInt → fw74_x_5.toInt ≤ 2147483647 → 0 ≤ fw74_v3_4.toInt → fw74_v3_4.toInt ≤ 160 → (hv_AI hv_cc tf i2.toInt.toNat (hv_ACT tf i2.toInt.toNat (hv_rC df) o) iv74_4.toInt (fw74_x_3.toInt) (fw74_x_2.toInt) (fw74_x_5.toInt) iv74_5.toInt (hv_sC fw74_x_4) (hv_rC ia74_qd) (hv_ls ia74_qp (fw74_v3_4.toInt).toNat)) → ∀ (ls : Array Slot), 401 - iv74_5.toInt < (n74 : Int) → hx_W T_tb (P_ty dA) (dC, dI) vwCl (hx_A L sz) s.heap hL1 hl1 s H locs → hx_T T_tb hL1 hl1 → hx_S T_tb [(6, 0), (6, 1), (6, 2), (6, 3), (6, 4), (6, 5), (6, 6), (127, 0), (128, 0), (129, 4)] L h hL1 hl1 → hl1.2.1 x 2 = fw74_x_2 → hl1.2.1 x 3 = fw74_x_3 → hl1.2.1 x 4 = fw74_x_4 → hl1.2.1 x 5 = fw74_x_5 → hl1.2.1 v3 4 = fw74_v3_4 → hl1.2.2 x 0 = some v1 → hl1.2.1 x 1 = i2 → hl1.2.2 x 6 = some v3 → hl1.2.1 qp = ia74_qp → hl1.2.1 qd = ia74_qd → lv_has ls 6 [(5, .int iv74_5), (4, .int iv74_4), (0, .ref x), (1, .ref v1), (2, .int i2), (3, .ref v3)] → W p l e ({ frames := 26, cells := 0, slots := 0, locals := 594 }) s m ([.ref x, .ref v1, .int i2, .ref v3] : List Value).toArray below meth c H locs 0 0 (MQ below (va_Qi (fun (r : Int32) (u : List Nat × hx_h) => (∃ (pl1 : Int32) (pf1 : Nat → Int32) (df1 : Nat → Int32), u.2.2.1 v3 4 = pl1 ∧ u.2.2.1 qp = pf1 ∧ u.2.2.1 qd = df1 ∧ (hv_AR hv_cc (hv_ACT tf i2.toInt.toNat (hv_rC df) o) r.toInt (hv_rC df1) (hv_ls pf1 pl1.toInt.toNat))) ∧ hx_T T_tb u.1 u.2 ∧ hx_S T_tb [(6, 0), (6, 1), (6, 2), (6, 3), (6, 4), (6, 5), (6, 6), (127, 0), (128, 0), (129, 4)] L h u.1 u.2) (hx_E T_tb (P_ty dA) (dC, dI) vwCl (hx_A L sz)) (hx_A L sz)) ([.ref x, .ref v1, .int i2, .ref v3] : List Value).toArray s 0 0 (hx_A L sz)) (F0 m 74 ls []) := by
      intro n74
      induction n74 with
      | zero => intro iv74_4 iv74_5 fw74_x_2 fw74_x_3 fw74_x_4 fw74_x_5 fw74_v3_4 ia74_qp ia74_qd H locs hL1 hl1 bliv74_4 buiv74_4 bliv74_5 buiv74_5 blfw74_x_2 bufw74_x_2 blfw74_x_3 bufw74_x_3 blfw74_x_4 bufw74_x_4 blfw74_x_5 bufw74_x_5 blfw74_v3_4 bufw74_v3_4 vi74_0 ls hn74; exfalso; omega
      | succ n74 ih74 =>
        intro iv74_4 iv74_5 fw74_x_2 fw74_x_3 fw74_x_4 fw74_x_5 fw74_v3_4 ia74_qp ia74_qd H locs hL1 hl1 bliv74_4 buiv74_4 bliv74_5 buiv74_5 blfw74_x_2 bufw74_x_2 blfw74_x_3 bufw74_x_3 blfw74_x_4 bufw74_x_4 blfw74_x_5 bufw74_x_5 blfw74_v3_4 bufw74_v3_4 vi74_0 ls hn74 hW hT hM ffw74_x_2 ffw74_x_3 ffw74_x_4 ffw74_x_5 ffw74_v3_4 f_2 f_7 f_17 nia74_qp nia74_qd hl
        refine lv_iload hx hb dX6_readAct_74 (lv_at hl 0 rfl) ?_
        refine lv_aload_n hx hb dX6_readAct_76 rfl (lv_at hl 2 rfl) ?_
        refine hk_geti hx hb hts hC_6 hown hW (gx.S hM) tt_6 1 ?o48 rfl kw_126 ⟨rfl, rfl, rfl⟩ f_7 dX6_readAct_77 ?_
        case o48 => decide
        refine hb_icmp_gt (zx := iv74_5.toInt) (zy := i2.toInt) (tgt := 115) hx hb rfl rfl dX6_readAct_80 ?o49 (fun c_26 => ?_) (fun c_26 => ?_)
        case o49 => decide
        · skip
          refine lv_aload_n hx hb dX6_readAct_115 rfl (lv_at hl 2 rfl) ?_
          refine hk_geti hx hb hts hC_6 hown hW (gx.S hM) tt_6 3 ?o50 rfl kw_128 ⟨rfl, rfl, rfl⟩ ffw74_x_3 dX6_readAct_116 ?_
          case o50 => decide
          refine hx_reti hx hb hr hlk hW ⟨⟨fw74_v3_4, ia74_qp, ia74_qd, ffw74_v3_4, nia74_qp, nia74_qd, (hv_AI_e vi74_0 ?o51)⟩, hT, hM⟩ dX6_readAct_119
          case o51 => omega
        · skip
          refine lv_iload hx hb dX6_readAct_83 (lv_at hl 1 rfl) ?_
          refine hb_if_eq (zx := iv74_4.toInt) (tgt := 115) hx hb rfl dX6_readAct_85 ?o52 (fun c_27 => ?_) (fun c_27 => ?_)
          case o52 => decide
          · skip
            refine lv_aload_n hx hb dX6_readAct_115 rfl (lv_at hl 2 rfl) ?_
            refine hk_geti hx hb hts hC_6 hown hW (gx.S hM) tt_6 3 ?o53 rfl kw_128 ⟨rfl, rfl, rfl⟩ ffw74_x_3 dX6_readAct_116 ?_
            case o53 => decide
            refine hx_reti hx hb hr hlk hW ⟨⟨fw74_v3_4, ia74_qp, ia74_qd, ffw74_v3_4, nia74_qp, nia74_qd, (hv_AI_e vi74_0 ?o54)⟩, hT, hM⟩ dX6_readAct_119
            case o54 => omega
          · skip
            obtain ⟨hF7, hp7, hpn7, hi7, ht7, hTM7, o7, hO7, hg7⟩ := hv_AI_g vi74_0 (by omega)
            refine lv_aload_n hx hb dX6_readAct_88 rfl (lv_at hl 2 rfl) ?_
            refine hx_goi (hx_runVX (As := []) (rest := []) ⟨hx, hb, hml, hown, hts⟩ hW (gx.S hM) tt_6 (T := TX6) (N := 7) rfl (t_X6_readClause_v l dC dI dA hL1 hl1 H.size b0 x hT (gx.S hM) v1 (gv1.S hM) f_2 v3 (gv3.S hM) f_17 qp (gqp.S hM) ((hM.o gv3 trivial rfl).2.trans f_v3_3) qd (gqd.S hM) ((hM.o gv3 trivial rfl).2.trans f_v3_2) tf (hx_afS hM gv1 rfl af_v1) ia74_qp nia74_qp ia74_qd nia74_qd fw74_x_2 ffw74_x_2 i2 f_7 fw74_x_3 ffw74_x_3 fw74_x_5 ffw74_x_5 fw74_v3_4 ffw74_v3_4 fw74_x_4 ffw74_x_4 o7 hO7 ?o55 ?o56 ⟨?o57, ?o58⟩ hTM7) hZ (cwV 0 hts (hx_gV kw_462 kw_459 kw_461 kw_2 kw_95) rfl rfl rfl (by decide +kernel) ⟨Nat.le_of_ble_eq_true rfl, Nat.le_of_ble_eq_true rfl⟩) rfl hl.1 rfl (Nat.le_of_ble_eq_true rfl) dX6_readAct_89 ⟨Nat.le_of_ble_eq_true rfl, Nat.le_of_ble_eq_true rfl⟩) hW (fun r_30 L_28 h_29 H locs p_31 hW => ?_)
            case o55 => omega
            case o56 => omega
            case o57 => omega
            case o58 => omega
            obtain ⟨⟨w_33, w_34, w_35, w_36, w_37, w_38, w_39, fw_33, fw_34, fw_35, fw_36, fw_37, fw_38, fw_39, hr_32⟩, hT, hs⟩ := p_31
            replace hT : hx_T T_tb L_28 h_29 := hT
            replace hs : hx_S T_tb [(6, 2), (6, 3), (6, 4), (6, 5), (127, 0), (128, 0), (129, 4)] hL1 hl1 L_28 h_29 := hs
            replace f_2 := (hs.o (gx.S hM) trivial rfl).2.trans f_2
            replace f_7 := (hs.o (gx.S hM) trivial rfl).1.trans f_7
            replace f_17 := (hs.o (gx.S hM) trivial rfl).2.trans f_17
            replace hM := hM.tr (hs.mono ?o59)
            case o59 => decide
            have fw_33 : h_29.2.1 x 2 = w_33 := fw_33
            have bw_33 := hT.gi (gx.S hM) tt_6 (k := 2) rfl
            rw [fw_33] at bw_33
            have bw_33 : 0 ≤ w_33.toInt ∧ w_33.toInt ≤ 402 := bw_33
            have fw_34 : h_29.2.1 x 3 = w_34 := fw_34
            have bw_34 := hT.gi (gx.S hM) tt_6 (k := 3) rfl
            rw [fw_34] at bw_34
            have bw_34 : -2147483648 ≤ w_34.toInt ∧ w_34.toInt ≤ 2147483647 := bw_34
            have fw_35 : h_29.2.1 x 5 = w_35 := fw_35
            have bw_35 := hT.gi (gx.S hM) tt_6 (k := 5) rfl
            rw [fw_35] at bw_35
            have bw_35 : -2147483648 ≤ w_35.toInt ∧ w_35.toInt ≤ 2147483647 := bw_35
            have fw_36 : h_29.2.1 v3 4 = w_36 := fw_36
            have bw_36 := hT.gi (gv3.S hM) tt_129 (k := 4) rfl
            rw [fw_36] at bw_36
            have bw_36 : 0 ≤ w_36.toInt ∧ w_36.toInt ≤ 160 := bw_36
            have fw_37 : h_29.2.1 qp = w_37 := fw_37
            have fw_38 : h_29.2.1 x 4 = w_38 := fw_38
            have bw_38 := hT.gi (gx.S hM) tt_6 (k := 4) rfl
            rw [fw_38] at bw_38
            have bw_38 : -2147483648 ≤ w_38.toInt ∧ w_38.toInt ≤ 2147483647 := bw_38
            have fw_39 : h_29.2.1 qd = w_39 := fw_39
            have hr_32b := hv_CK_b hr_32.1
            refine hb_if_eq (zx := r_30.toInt) (tgt := 106) hx hb rfl dX6_readAct_92 ?o60 (fun c_40 => ?_) (fun c_40 => ?_)
            case o60 => decide
            · skip
              refine lv_iconst (v := 0) hx hb dX6_readAct_106 ?o61 ?_
              case o61 => decide
              refine lv_istore (lv' := [(4, .int (0 : Int32)), (5, .int iv74_5), (0, .ref x), (1, .ref v1), (2, .int i2), (3, .ref v3)]) hx hb dX6_readAct_107 hl ?o62 rfl (fun ls hl => ?_)
              case o62 => decide
              obtain ⟨x_41, ex_41⟩ : ∃ y : Int32, y = iv74_5 + Int32.ofInt 1 := ⟨_, rfl⟩
              have rg_42 := i32_r iv74_5
              have zx_41 : x_41.toInt = iv74_5.toInt + (1) := ?o63
              case o63 =>
                rw [ex_41]
                refine i32_add rfl ?o64 ?o65 ?o66
                case o64 => decide
                case o65 => omega
                case o66 => omega
              refine lv_iinc (v := x_41) (lv' := [(5, .int x_41), (4, .int (0 : Int32)), (0, .ref x), (1, .ref v1), (2, .int i2), (3, .ref v3)]) hx hb dX6_readAct_109 hl (k := 1) rfl ex_41.symm ?o67 rfl (fun ls hl => ?_)
              case o67 => decide
              refine lv_goto (tgt := 74) hx hb dX6_readAct_112 ?o68 ?_
              case o68 => decide
              have zk_0 : (0 : Int32).toInt = 0 := ?o69
              case o69 => decide
              refine ih74 (0 : Int32) x_41 w_33 w_34 w_38 w_35 w_36 w_37 w_39 _ _ L_28 h_29 ?o70 ?o71 ?o72 ?o73 ?o74 ?o75 (i32_r _).1 (i32_r _).2 (i32_r _).1 (i32_r _).2 (i32_r _).1 (i32_r _).2 ?o76 ?o77 (have h8 := hv_CK_0 hr_32.1 ?o78; Or.inr (Or.inr ⟨?o79, h8.1, hv_AG_1 hg7 h8.2⟩)) ls ?o80 hW hT hM fw_33 fw_34 fw_38 fw_35 fw_36 f_2 f_7 f_17 fw_37 fw_39 (lv_sub hl [0, 1, 2, 3, 4, 5] rfl)
              case o70 => decide
              case o71 => decide
              case o72 => omega
              case o73 => omega
              case o74 => omega
              case o75 => omega
              case o76 => omega
              case o77 => omega
              case o78 => omega
              case o79 => decide
              case o80 => omega
            · skip
              have hc8 := hr_32.2 ?o81
              case o81 => omega
              obtain ⟨hF8, hp8, o8, hO8, hE8⟩ := hv_CK_1 hr_32.1 (by omega)
              refine lv_aload_n hx hb dX6_readAct_95 rfl (lv_at hl 2 rfl) ?_
              refine hx_goi (hx_runV (As := []) (rest := []) ⟨hx, hb, hml, hown, hts⟩ hW (gx.S hM) tt_6 (T := TX6) (N := 7) rfl (t_X6_isAnotherClause_v l dC dI dA L_28 h_29 H.size x hT (gx.S hM) v1 (gv1.S hM) f_2 tf (hx_afS hM gv1 rfl af_v1) w_33 fw_33 i2 f_7 w_34 fw_34 ?o82) (cwV 0 hts (hx_gV kw_589 kw_586 kw_588 kw_18 kw_95) rfl rfl rfl (by decide +kernel) ⟨Nat.le_of_ble_eq_true rfl, Nat.le_of_ble_eq_true rfl⟩) rfl hl.1 rfl (Nat.le_of_ble_eq_true rfl) dX6_readAct_96 ⟨Nat.le_of_ble_eq_true rfl, Nat.le_of_ble_eq_true rfl⟩) hW (fun r_45 L_43 h_44 H locs p_46 hW => ?_)
              case o82 => omega
              obtain ⟨⟨w_48, w_49, fw_48, fw_49, hr_47⟩, hT, hs⟩ := p_46
              replace hT : hx_T T_tb L_43 h_44 := hT
              replace hs : hx_S T_tb [(6, 2), (6, 3)] L_28 h_29 L_43 h_44 := hs
              replace f_2 := (hs.o (gx.S hM) trivial rfl).2.trans f_2
              replace f_7 := (hs.o (gx.S hM) trivial rfl).1.trans f_7
              replace f_17 := (hs.o (gx.S hM) trivial rfl).2.trans f_17
              replace fw_35 := (hs.o (gx.S hM) trivial rfl).1.trans fw_35
              replace fw_36 := (hs.o (gv3.S hM) trivial rfl).1.trans fw_36
              replace fw_38 := (hs.o (gx.S hM) trivial rfl).1.trans fw_38
              replace fw_37 : h_44.2.1 qp = w_37 := (funext fun j => (hs.a (gqp.S hM) rfl j).1).trans fw_37
              replace fw_39 : h_44.2.1 qd = w_39 := (funext fun j => (hs.a (gqd.S hM) rfl j).1).trans fw_39
              replace hM := hM.tr (hs.mono ?o83)
              case o83 => decide
              have fw_48 : h_44.2.1 x 2 = w_48 := fw_48
              have bw_48 := hT.gi (gx.S hM) tt_6 (k := 2) rfl
              rw [fw_48] at bw_48
              have bw_48 : 0 ≤ w_48.toInt ∧ w_48.toInt ≤ 402 := bw_48
              have fw_49 : h_44.2.1 x 3 = w_49 := fw_49
              have bw_49 := hT.gi (gx.S hM) tt_6 (k := 3) rfl
              rw [fw_49] at bw_49
              have bw_49 : -2147483648 ≤ w_49.toInt ∧ w_49.toInt ≤ 2147483647 := bw_49
              have hr_47g := hv_sk_ge (T := tf) (n := i2.toInt.toNat) (p := w_33.toInt.toNat)
              refine hb_if_eq (zx := r_45.toInt) (tgt := 106) hx hb rfl dX6_readAct_99 ?o84 (fun c_50 => ?_) (fun c_50 => ?_)
              case o84 => decide
              · skip
                refine lv_iconst (v := 0) hx hb dX6_readAct_106 ?o85 ?_
                case o85 => decide
                refine lv_istore (lv' := [(4, .int (0 : Int32)), (5, .int iv74_5), (0, .ref x), (1, .ref v1), (2, .int i2), (3, .ref v3)]) hx hb dX6_readAct_107 hl ?o86 rfl (fun ls hl => ?_)
                case o86 => decide
                obtain ⟨x_51, ex_51⟩ : ∃ y : Int32, y = iv74_5 + Int32.ofInt 1 := ⟨_, rfl⟩
                have rg_52 := i32_r iv74_5
                have zx_51 : x_51.toInt = iv74_5.toInt + (1) := ?o87
                case o87 =>
                  rw [ex_51]
                  refine i32_add rfl ?o88 ?o89 ?o90
                  case o88 => decide
                  case o89 => omega
                  case o90 => omega
                refine lv_iinc (v := x_51) (lv' := [(5, .int x_51), (4, .int (0 : Int32)), (0, .ref x), (1, .ref v1), (2, .int i2), (3, .ref v3)]) hx hb dX6_readAct_109 hl (k := 1) rfl ex_51.symm ?o91 rfl (fun ls hl => ?_)
                case o91 => decide
                refine lv_goto (tgt := 74) hx hb dX6_readAct_112 ?o92 ?_
                case o92 => decide
                have zk_0 : (0 : Int32).toInt = 0 := ?o93
                case o93 => decide
                refine ih74 (0 : Int32) x_51 w_48 w_49 w_38 w_35 w_36 w_37 w_39 _ _ L_43 h_44 ?o94 ?o95 ?o96 ?o97 ?o98 ?o99 (i32_r _).1 (i32_r _).2 (i32_r _).1 (i32_r _).2 (i32_r _).1 (i32_r _).2 ?o100 ?o101 (by rcases hr_47 with z | ⟨_, ⟨z1, z2⟩ | ⟨z1, z2, z3⟩⟩; (exfalso; omega); exact hv_AI_2 hg7 hE8 z1 (by decide) (by rw [z2]; exact hF8) hO8; exact hv_AI_3 hg7 hE8 z1 z2 (by decide) z3) ls ?o102 hW hT hM fw_48 fw_49 fw_38 fw_35 fw_36 f_2 f_7 f_17 fw_37 fw_39 (lv_sub hl [0, 1, 2, 3, 4, 5] rfl)
                case o94 => decide
                case o95 => decide
                case o96 => omega
                case o97 => omega
                case o98 => omega
                case o99 => omega
                case o100 => omega
                case o101 => omega
                case o102 => omega
              · skip
                refine lv_iconst (v := 1) hx hb dX6_readAct_102 ?o103 ?_
                case o103 => decide
                refine lv_goto (tgt := 107) hx hb dX6_readAct_103 ?o104 ?_
                case o104 => decide
                refine lv_istore (lv' := [(4, .int (1 : Int32)), (5, .int iv74_5), (0, .ref x), (1, .ref v1), (2, .int i2), (3, .ref v3)]) hx hb dX6_readAct_107 hl ?o105 rfl (fun ls hl => ?_)
                case o105 => decide
                obtain ⟨x_53, ex_53⟩ : ∃ y : Int32, y = iv74_5 + Int32.ofInt 1 := ⟨_, rfl⟩
                have rg_54 := i32_r iv74_5
                have zx_53 : x_53.toInt = iv74_5.toInt + (1) := ?o106
                case o106 =>
                  rw [ex_53]
                  refine i32_add rfl ?o107 ?o108 ?o109
                  case o107 => decide
                  case o108 => omega
                  case o109 => omega
                refine lv_iinc (v := x_53) (lv' := [(5, .int x_53), (4, .int (1 : Int32)), (0, .ref x), (1, .ref v1), (2, .int i2), (3, .ref v3)]) hx hb dX6_readAct_109 hl (k := 1) rfl ex_53.symm ?o110 rfl (fun ls hl => ?_)
                case o110 => decide
                refine lv_goto (tgt := 74) hx hb dX6_readAct_112 ?o111 ?_
                case o111 => decide
                have zk_1 : (1 : Int32).toInt = 1 := ?o112
                case o112 => decide
                refine ih74 (1 : Int32) x_53 w_48 w_49 w_38 w_35 w_36 w_37 w_39 _ _ L_43 h_44 ?o113 ?o114 ?o115 ?o116 ?o117 ?o118 (i32_r _).1 (i32_r _).2 (i32_r _).1 (i32_r _).2 (i32_r _).1 (i32_r _).2 ?o119 ?o120 (Or.inl ⟨?o121, (by rcases hr_47 with z | z; (rw [z.2.1]; exact hF8); exfalso; omega), ?o122, ?o123, ?o124, ⟨?o125, ?o126⟩, hc8.2.2.2.2, o8, hO8, hv_AI_4 hg7 hE8 (by rcases hr_47 with z | z; exact z.2.2.1; exfalso; omega) (by rcases hr_47 with z | z; exact z.2.2.2.1; exfalso; omega) (show w_48.toInt.toNat = hv_sk tf i2.toInt.toNat w_33.toInt.toNat + 1 from ?o127)⟩) ls ?o128 hW hT hM fw_48 fw_49 fw_38 fw_35 fw_36 f_2 f_7 f_17 fw_37 fw_39 (lv_sub hl [0, 1, 2, 3, 4, 5] rfl)
                case o113 => decide
                case o114 => decide
                case o115 => omega
                case o116 => omega
                case o117 => omega
                case o118 => omega
                case o119 => omega
                case o120 => omega
                case o121 => decide
                case o122 => omega
                case o123 => omega
                case o124 => omega
                case o125 => omega
                case o126 => omega
                case o127 => omega
                case o128 => omega
    have zk_0 : (0 : Int32).toInt = 0 := ?o129
    case o129 => decide
    have zk_0 : (0 : Int32).toInt = 0 := ?o130
    case o130 => decide
    have zk_0 : (0 : Int32).toInt = 0 := ?o131
    case o131 => decide
    have zk_0 : (0 : Int32).toInt = 0 := ?o132
    case o132 => decide
    have zk_0 : (0 : Int32).toInt = 0 := ?o133
    case o133 => decide
    refine loop74 402 (0 : Int32) (0 : Int32) w_23 (0 : Int32) (0 : Int32) (0 : Int32) pl0 pf df _ _ L_18 h_19 ?o134 ?o135 ?o136 ?o137 ?o138 ?o139 ?o140 ?o141 ?o142 ?o143 ?o144 ?o145 ?o146 ?o147 (Or.inr (Or.inl ⟨?o148, ?o149, _, _, o, hO, if_neg (by rw [← ek_24]; omega)⟩)) ls ?o150 hW hT hM fw_23 f_11 f_13 f_15 f_v3_4 f_2 f_7 f_17 af_qp af_qd hl
    case o134 => decide
    case o135 => decide
    case o136 => decide
    case o137 => decide
    case o138 => omega
    case o139 => omega
    case o140 => decide
    case o141 => decide
    case o142 => decide
    case o143 => decide
    case o144 => decide
    case o145 => decide
    case o146 => omega
    case o147 => omega
    case o148 => decide
    case o149 => decide
    case o150 => omega
  · skip
    refine lv_iconst (v := 1) hx hb dX6_readAct_64 ?o151 ?_
    case o151 => decide
    refine lv_goto (tgt := 69) hx hb dX6_readAct_65 ?o152 ?_
    case o152 => decide
    refine lv_istore (lv' := [(4, .int (1 : Int32)), (0, .ref x), (1, .ref v1), (2, .int i2), (3, .ref v3)]) hx hb dX6_readAct_69 hl ?o153 rfl (fun ls hl => ?_)
    case o153 => decide
    refine lv_iconst (v := 0) hx hb dX6_readAct_71 ?o154 ?_
    case o154 => decide
    refine lv_istore (lv' := [(5, .int (0 : Int32)), (4, .int (1 : Int32)), (0, .ref x), (1, .ref v1), (2, .int i2), (3, .ref v3)]) hx hb dX6_readAct_72 hl ?o155 rfl (fun ls hl => ?_)
    case o155 => decide
    have loop74 : ∀ (n74 : Nat) (iv74_4 iv74_5 fw74_x_2 fw74_x_3 fw74_x_4 fw74_x_5 fw74_v3_4 : Int32) (ia74_qp ia74_qd : Nat → Int32) (H : Heap) (locs : List Loc) (hL1 : List Nat) (hl1 : hx_h), 0 ≤ iv74_4.toInt → iv74_4.toInt ≤ 1 → 0 ≤ iv74_5.toInt → iv74_5.toInt ≤ 401 → 0 ≤ fw74_x_2.toInt → fw74_x_2.toInt ≤ 402 → -2147483648 ≤ fw74_x_3.toInt → fw74_x_3.toInt ≤ 2147483647 → -2147483648 ≤ fw74_x_4.toInt → fw74_x_4.toInt ≤ 2147483647 → -2147483648 ≤ fw74_x_5.toInt → fw74_x_5.toInt ≤ 2147483647 → 0 ≤ fw74_v3_4.toInt → fw74_v3_4.toInt ≤ 160 → (hv_AI hv_cc tf i2.toInt.toNat (hv_ACT tf i2.toInt.toNat (hv_rC df) o) iv74_4.toInt (fw74_x_3.toInt) (fw74_x_2.toInt) (fw74_x_5.toInt) iv74_5.toInt (hv_sC fw74_x_4) (hv_rC ia74_qd) (hv_ls ia74_qp (fw74_v3_4.toInt).toNat)) → ∀ (ls : Array Slot), 401 - iv74_5.toInt < (n74 : Int) → hx_W T_tb (P_ty dA) (dC, dI) vwCl (hx_A L sz) s.heap hL1 hl1 s H locs → hx_T T_tb hL1 hl1 → hx_S T_tb [(6, 0), (6, 1), (6, 2), (6, 3), (6, 4), (6, 5), (6, 6), (127, 0), (128, 0), (129, 4)] L h hL1 hl1 → hl1.2.1 x 2 = fw74_x_2 → hl1.2.1 x 3 = fw74_x_3 → hl1.2.1 x 4 = fw74_x_4 → hl1.2.1 x 5 = fw74_x_5 → hl1.2.1 v3 4 = fw74_v3_4 → hl1.2.2 x 0 = some v1 → hl1.2.1 x 1 = i2 → hl1.2.2 x 6 = some v3 → hl1.2.1 qp = ia74_qp → hl1.2.1 qd = ia74_qd → lv_has ls 6 [(5, .int iv74_5), (4, .int iv74_4), (0, .ref x), (1, .ref v1), (2, .int i2), (3, .ref v3)] → W p l e ({ frames := 26, cells := 0, slots := 0, locals := 594 }) s m ([.ref x, .ref v1, .int i2, .ref v3] : List Value).toArray below meth c H locs 0 0 (MQ below (va_Qi (fun (r : Int32) (u : List Nat × hx_h) => (∃ (pl1 : Int32) (pf1 : Nat → Int32) (df1 : Nat → Int32), u.2.2.1 v3 4 = pl1 ∧ u.2.2.1 qp = pf1 ∧ u.2.2.1 qd = df1 ∧ (hv_AR hv_cc (hv_ACT tf i2.toInt.toNat (hv_rC df) o) r.toInt (hv_rC df1) (hv_ls pf1 pl1.toInt.toNat))) ∧ hx_T T_tb u.1 u.2 ∧ hx_S T_tb [(6, 0), (6, 1), (6, 2), (6, 3), (6, 4), (6, 5), (6, 6), (127, 0), (128, 0), (129, 4)] L h u.1 u.2) (hx_E T_tb (P_ty dA) (dC, dI) vwCl (hx_A L sz)) (hx_A L sz)) ([.ref x, .ref v1, .int i2, .ref v3] : List Value).toArray s 0 0 (hx_A L sz)) (F0 m 74 ls []) := by
      intro n74
      induction n74 with
      | zero => intro iv74_4 iv74_5 fw74_x_2 fw74_x_3 fw74_x_4 fw74_x_5 fw74_v3_4 ia74_qp ia74_qd H locs hL1 hl1 bliv74_4 buiv74_4 bliv74_5 buiv74_5 blfw74_x_2 bufw74_x_2 blfw74_x_3 bufw74_x_3 blfw74_x_4 bufw74_x_4 blfw74_x_5 bufw74_x_5 blfw74_v3_4 bufw74_v3_4 vi74_0 ls hn74; exfalso; omega
      | succ n74 ih74 =>
        intro iv74_4 iv74_5 fw74_x_2 fw74_x_3 fw74_x_4 fw74_x_5 fw74_v3_4 ia74_qp ia74_qd H locs hL1 hl1 bliv74_4 buiv74_4 bliv74_5 buiv74_5 blfw74_x_2 bufw74_x_2 blfw74_x_3 bufw74_x_3 blfw74_x_4 bufw74_x_4 blfw74_x_5 bufw74_x_5 blfw74_v3_4 bufw74_v3_4 vi74_0 ls hn74 hW hT hM ffw74_x_2 ffw74_x_3 ffw74_x_4 ffw74_x_5 ffw74_v3_4 f_2 f_7 f_17 nia74_qp nia74_qd hl
        refine lv_iload hx hb dX6_readAct_74 (lv_at hl 0 rfl) ?_
        refine lv_aload_n hx hb dX6_readAct_76 rfl (lv_at hl 2 rfl) ?_
        refine hk_geti hx hb hts hC_6 hown hW (gx.S hM) tt_6 1 ?o156 rfl kw_126 ⟨rfl, rfl, rfl⟩ f_7 dX6_readAct_77 ?_
        case o156 => decide
        refine hb_icmp_gt (zx := iv74_5.toInt) (zy := i2.toInt) (tgt := 115) hx hb rfl rfl dX6_readAct_80 ?o157 (fun c_55 => ?_) (fun c_55 => ?_)
        case o157 => decide
        · skip
          refine lv_aload_n hx hb dX6_readAct_115 rfl (lv_at hl 2 rfl) ?_
          refine hk_geti hx hb hts hC_6 hown hW (gx.S hM) tt_6 3 ?o158 rfl kw_128 ⟨rfl, rfl, rfl⟩ ffw74_x_3 dX6_readAct_116 ?_
          case o158 => decide
          refine hx_reti hx hb hr hlk hW ⟨⟨fw74_v3_4, ia74_qp, ia74_qd, ffw74_v3_4, nia74_qp, nia74_qd, (hv_AI_e vi74_0 ?o159)⟩, hT, hM⟩ dX6_readAct_119
          case o159 => omega
        · skip
          refine lv_iload hx hb dX6_readAct_83 (lv_at hl 1 rfl) ?_
          refine hb_if_eq (zx := iv74_4.toInt) (tgt := 115) hx hb rfl dX6_readAct_85 ?o160 (fun c_56 => ?_) (fun c_56 => ?_)
          case o160 => decide
          · skip
            refine lv_aload_n hx hb dX6_readAct_115 rfl (lv_at hl 2 rfl) ?_
            refine hk_geti hx hb hts hC_6 hown hW (gx.S hM) tt_6 3 ?o161 rfl kw_128 ⟨rfl, rfl, rfl⟩ ffw74_x_3 dX6_readAct_116 ?_
            case o161 => decide
            refine hx_reti hx hb hr hlk hW ⟨⟨fw74_v3_4, ia74_qp, ia74_qd, ffw74_v3_4, nia74_qp, nia74_qd, (hv_AI_e vi74_0 ?o162)⟩, hT, hM⟩ dX6_readAct_119
            case o162 => omega
          · skip
            obtain ⟨hF7, hp7, hpn7, hi7, ht7, hTM7, o7, hO7, hg7⟩ := hv_AI_g vi74_0 (by omega)
            refine lv_aload_n hx hb dX6_readAct_88 rfl (lv_at hl 2 rfl) ?_
            refine hx_goi (hx_runVX (As := []) (rest := []) ⟨hx, hb, hml, hown, hts⟩ hW (gx.S hM) tt_6 (T := TX6) (N := 7) rfl (t_X6_readClause_v l dC dI dA hL1 hl1 H.size b0 x hT (gx.S hM) v1 (gv1.S hM) f_2 v3 (gv3.S hM) f_17 qp (gqp.S hM) ((hM.o gv3 trivial rfl).2.trans f_v3_3) qd (gqd.S hM) ((hM.o gv3 trivial rfl).2.trans f_v3_2) tf (hx_afS hM gv1 rfl af_v1) ia74_qp nia74_qp ia74_qd nia74_qd fw74_x_2 ffw74_x_2 i2 f_7 fw74_x_3 ffw74_x_3 fw74_x_5 ffw74_x_5 fw74_v3_4 ffw74_v3_4 fw74_x_4 ffw74_x_4 o7 hO7 ?o163 ?o164 ⟨?o165, ?o166⟩ hTM7) hZ (cwV 0 hts (hx_gV kw_462 kw_459 kw_461 kw_2 kw_95) rfl rfl rfl (by decide +kernel) ⟨Nat.le_of_ble_eq_true rfl, Nat.le_of_ble_eq_true rfl⟩) rfl hl.1 rfl (Nat.le_of_ble_eq_true rfl) dX6_readAct_89 ⟨Nat.le_of_ble_eq_true rfl, Nat.le_of_ble_eq_true rfl⟩) hW (fun r_59 L_57 h_58 H locs p_60 hW => ?_)
            case o163 => omega
            case o164 => omega
            case o165 => omega
            case o166 => omega
            obtain ⟨⟨w_62, w_63, w_64, w_65, w_66, w_67, w_68, fw_62, fw_63, fw_64, fw_65, fw_66, fw_67, fw_68, hr_61⟩, hT, hs⟩ := p_60
            replace hT : hx_T T_tb L_57 h_58 := hT
            replace hs : hx_S T_tb [(6, 2), (6, 3), (6, 4), (6, 5), (127, 0), (128, 0), (129, 4)] hL1 hl1 L_57 h_58 := hs
            replace f_2 := (hs.o (gx.S hM) trivial rfl).2.trans f_2
            replace f_7 := (hs.o (gx.S hM) trivial rfl).1.trans f_7
            replace f_17 := (hs.o (gx.S hM) trivial rfl).2.trans f_17
            replace hM := hM.tr (hs.mono ?o167)
            case o167 => decide
            have fw_62 : h_58.2.1 x 2 = w_62 := fw_62
            have bw_62 := hT.gi (gx.S hM) tt_6 (k := 2) rfl
            rw [fw_62] at bw_62
            have bw_62 : 0 ≤ w_62.toInt ∧ w_62.toInt ≤ 402 := bw_62
            have fw_63 : h_58.2.1 x 3 = w_63 := fw_63
            have bw_63 := hT.gi (gx.S hM) tt_6 (k := 3) rfl
            rw [fw_63] at bw_63
            have bw_63 : -2147483648 ≤ w_63.toInt ∧ w_63.toInt ≤ 2147483647 := bw_63
            have fw_64 : h_58.2.1 x 5 = w_64 := fw_64
            have bw_64 := hT.gi (gx.S hM) tt_6 (k := 5) rfl
            rw [fw_64] at bw_64
            have bw_64 : -2147483648 ≤ w_64.toInt ∧ w_64.toInt ≤ 2147483647 := bw_64
            have fw_65 : h_58.2.1 v3 4 = w_65 := fw_65
            have bw_65 := hT.gi (gv3.S hM) tt_129 (k := 4) rfl
            rw [fw_65] at bw_65
            have bw_65 : 0 ≤ w_65.toInt ∧ w_65.toInt ≤ 160 := bw_65
            have fw_66 : h_58.2.1 qp = w_66 := fw_66
            have fw_67 : h_58.2.1 x 4 = w_67 := fw_67
            have bw_67 := hT.gi (gx.S hM) tt_6 (k := 4) rfl
            rw [fw_67] at bw_67
            have bw_67 : -2147483648 ≤ w_67.toInt ∧ w_67.toInt ≤ 2147483647 := bw_67
            have fw_68 : h_58.2.1 qd = w_68 := fw_68
            have hr_61b := hv_CK_b hr_61.1
            refine hb_if_eq (zx := r_59.toInt) (tgt := 106) hx hb rfl dX6_readAct_92 ?o168 (fun c_69 => ?_) (fun c_69 => ?_)
            case o168 => decide
            · skip
              refine lv_iconst (v := 0) hx hb dX6_readAct_106 ?o169 ?_
              case o169 => decide
              refine lv_istore (lv' := [(4, .int (0 : Int32)), (5, .int iv74_5), (0, .ref x), (1, .ref v1), (2, .int i2), (3, .ref v3)]) hx hb dX6_readAct_107 hl ?o170 rfl (fun ls hl => ?_)
              case o170 => decide
              obtain ⟨x_70, ex_70⟩ : ∃ y : Int32, y = iv74_5 + Int32.ofInt 1 := ⟨_, rfl⟩
              have rg_71 := i32_r iv74_5
              have zx_70 : x_70.toInt = iv74_5.toInt + (1) := ?o171
              case o171 =>
                rw [ex_70]
                refine i32_add rfl ?o172 ?o173 ?o174
                case o172 => decide
                case o173 => omega
                case o174 => omega
              refine lv_iinc (v := x_70) (lv' := [(5, .int x_70), (4, .int (0 : Int32)), (0, .ref x), (1, .ref v1), (2, .int i2), (3, .ref v3)]) hx hb dX6_readAct_109 hl (k := 1) rfl ex_70.symm ?o175 rfl (fun ls hl => ?_)
              case o175 => decide
              refine lv_goto (tgt := 74) hx hb dX6_readAct_112 ?o176 ?_
              case o176 => decide
              have zk_0 : (0 : Int32).toInt = 0 := ?o177
              case o177 => decide
              refine ih74 (0 : Int32) x_70 w_62 w_63 w_67 w_64 w_65 w_66 w_68 _ _ L_57 h_58 ?o178 ?o179 ?o180 ?o181 ?o182 ?o183 (i32_r _).1 (i32_r _).2 (i32_r _).1 (i32_r _).2 (i32_r _).1 (i32_r _).2 ?o184 ?o185 (have h8 := hv_CK_0 hr_61.1 ?o186; Or.inr (Or.inr ⟨?o187, h8.1, hv_AG_1 hg7 h8.2⟩)) ls ?o188 hW hT hM fw_62 fw_63 fw_67 fw_64 fw_65 f_2 f_7 f_17 fw_66 fw_68 (lv_sub hl [0, 1, 2, 3, 4, 5] rfl)
              case o178 => decide
              case o179 => decide
              case o180 => omega
              case o181 => omega
              case o182 => omega
              case o183 => omega
              case o184 => omega
              case o185 => omega
              case o186 => omega
              case o187 => decide
              case o188 => omega
            · skip
              have hc8 := hr_61.2 ?o189
              case o189 => omega
              obtain ⟨hF8, hp8, o8, hO8, hE8⟩ := hv_CK_1 hr_61.1 (by omega)
              refine lv_aload_n hx hb dX6_readAct_95 rfl (lv_at hl 2 rfl) ?_
              refine hx_goi (hx_runV (As := []) (rest := []) ⟨hx, hb, hml, hown, hts⟩ hW (gx.S hM) tt_6 (T := TX6) (N := 7) rfl (t_X6_isAnotherClause_v l dC dI dA L_57 h_58 H.size x hT (gx.S hM) v1 (gv1.S hM) f_2 tf (hx_afS hM gv1 rfl af_v1) w_62 fw_62 i2 f_7 w_63 fw_63 ?o190) (cwV 0 hts (hx_gV kw_589 kw_586 kw_588 kw_18 kw_95) rfl rfl rfl (by decide +kernel) ⟨Nat.le_of_ble_eq_true rfl, Nat.le_of_ble_eq_true rfl⟩) rfl hl.1 rfl (Nat.le_of_ble_eq_true rfl) dX6_readAct_96 ⟨Nat.le_of_ble_eq_true rfl, Nat.le_of_ble_eq_true rfl⟩) hW (fun r_74 L_72 h_73 H locs p_75 hW => ?_)
              case o190 => omega
              obtain ⟨⟨w_77, w_78, fw_77, fw_78, hr_76⟩, hT, hs⟩ := p_75
              replace hT : hx_T T_tb L_72 h_73 := hT
              replace hs : hx_S T_tb [(6, 2), (6, 3)] L_57 h_58 L_72 h_73 := hs
              replace f_2 := (hs.o (gx.S hM) trivial rfl).2.trans f_2
              replace f_7 := (hs.o (gx.S hM) trivial rfl).1.trans f_7
              replace f_17 := (hs.o (gx.S hM) trivial rfl).2.trans f_17
              replace fw_64 := (hs.o (gx.S hM) trivial rfl).1.trans fw_64
              replace fw_65 := (hs.o (gv3.S hM) trivial rfl).1.trans fw_65
              replace fw_67 := (hs.o (gx.S hM) trivial rfl).1.trans fw_67
              replace fw_66 : h_73.2.1 qp = w_66 := (funext fun j => (hs.a (gqp.S hM) rfl j).1).trans fw_66
              replace fw_68 : h_73.2.1 qd = w_68 := (funext fun j => (hs.a (gqd.S hM) rfl j).1).trans fw_68
              replace hM := hM.tr (hs.mono ?o191)
              case o191 => decide
              have fw_77 : h_73.2.1 x 2 = w_77 := fw_77
              have bw_77 := hT.gi (gx.S hM) tt_6 (k := 2) rfl
              rw [fw_77] at bw_77
              have bw_77 : 0 ≤ w_77.toInt ∧ w_77.toInt ≤ 402 := bw_77
              have fw_78 : h_73.2.1 x 3 = w_78 := fw_78
              have bw_78 := hT.gi (gx.S hM) tt_6 (k := 3) rfl
              rw [fw_78] at bw_78
              have bw_78 : -2147483648 ≤ w_78.toInt ∧ w_78.toInt ≤ 2147483647 := bw_78
              have hr_76g := hv_sk_ge (T := tf) (n := i2.toInt.toNat) (p := w_62.toInt.toNat)
              refine hb_if_eq (zx := r_74.toInt) (tgt := 106) hx hb rfl dX6_readAct_99 ?o192 (fun c_79 => ?_) (fun c_79 => ?_)
              case o192 => decide
              · skip
                refine lv_iconst (v := 0) hx hb dX6_readAct_106 ?o193 ?_
                case o193 => decide
                refine lv_istore (lv' := [(4, .int (0 : Int32)), (5, .int iv74_5), (0, .ref x), (1, .ref v1), (2, .int i2), (3, .ref v3)]) hx hb dX6_readAct_107 hl ?o194 rfl (fun ls hl => ?_)
                case o194 => decide
                obtain ⟨x_80, ex_80⟩ : ∃ y : Int32, y = iv74_5 + Int32.ofInt 1 := ⟨_, rfl⟩
                have rg_81 := i32_r iv74_5
                have zx_80 : x_80.toInt = iv74_5.toInt + (1) := ?o195
                case o195 =>
                  rw [ex_80]
                  refine i32_add rfl ?o196 ?o197 ?o198
                  case o196 => decide
                  case o197 => omega
                  case o198 => omega
                refine lv_iinc (v := x_80) (lv' := [(5, .int x_80), (4, .int (0 : Int32)), (0, .ref x), (1, .ref v1), (2, .int i2), (3, .ref v3)]) hx hb dX6_readAct_109 hl (k := 1) rfl ex_80.symm ?o199 rfl (fun ls hl => ?_)
                case o199 => decide
                refine lv_goto (tgt := 74) hx hb dX6_readAct_112 ?o200 ?_
                case o200 => decide
                have zk_0 : (0 : Int32).toInt = 0 := ?o201
                case o201 => decide
                refine ih74 (0 : Int32) x_80 w_77 w_78 w_67 w_64 w_65 w_66 w_68 _ _ L_72 h_73 ?o202 ?o203 ?o204 ?o205 ?o206 ?o207 (i32_r _).1 (i32_r _).2 (i32_r _).1 (i32_r _).2 (i32_r _).1 (i32_r _).2 ?o208 ?o209 (by rcases hr_76 with z | ⟨_, ⟨z1, z2⟩ | ⟨z1, z2, z3⟩⟩; (exfalso; omega); exact hv_AI_2 hg7 hE8 z1 (by decide) (by rw [z2]; exact hF8) hO8; exact hv_AI_3 hg7 hE8 z1 z2 (by decide) z3) ls ?o210 hW hT hM fw_77 fw_78 fw_67 fw_64 fw_65 f_2 f_7 f_17 fw_66 fw_68 (lv_sub hl [0, 1, 2, 3, 4, 5] rfl)
                case o202 => decide
                case o203 => decide
                case o204 => omega
                case o205 => omega
                case o206 => omega
                case o207 => omega
                case o208 => omega
                case o209 => omega
                case o210 => omega
              · skip
                refine lv_iconst (v := 1) hx hb dX6_readAct_102 ?o211 ?_
                case o211 => decide
                refine lv_goto (tgt := 107) hx hb dX6_readAct_103 ?o212 ?_
                case o212 => decide
                refine lv_istore (lv' := [(4, .int (1 : Int32)), (5, .int iv74_5), (0, .ref x), (1, .ref v1), (2, .int i2), (3, .ref v3)]) hx hb dX6_readAct_107 hl ?o213 rfl (fun ls hl => ?_)
                case o213 => decide
                obtain ⟨x_82, ex_82⟩ : ∃ y : Int32, y = iv74_5 + Int32.ofInt 1 := ⟨_, rfl⟩
                have rg_83 := i32_r iv74_5
                have zx_82 : x_82.toInt = iv74_5.toInt + (1) := ?o214
                case o214 =>
                  rw [ex_82]
                  refine i32_add rfl ?o215 ?o216 ?o217
                  case o215 => decide
                  case o216 => omega
                  case o217 => omega
                refine lv_iinc (v := x_82) (lv' := [(5, .int x_82), (4, .int (1 : Int32)), (0, .ref x), (1, .ref v1), (2, .int i2), (3, .ref v3)]) hx hb dX6_readAct_109 hl (k := 1) rfl ex_82.symm ?o218 rfl (fun ls hl => ?_)
                case o218 => decide
                refine lv_goto (tgt := 74) hx hb dX6_readAct_112 ?o219 ?_
                case o219 => decide
                have zk_1 : (1 : Int32).toInt = 1 := ?o220
                case o220 => decide
                refine ih74 (1 : Int32) x_82 w_77 w_78 w_67 w_64 w_65 w_66 w_68 _ _ L_72 h_73 ?o221 ?o222 ?o223 ?o224 ?o225 ?o226 (i32_r _).1 (i32_r _).2 (i32_r _).1 (i32_r _).2 (i32_r _).1 (i32_r _).2 ?o227 ?o228 (Or.inl ⟨?o229, (by rcases hr_76 with z | z; (rw [z.2.1]; exact hF8); exfalso; omega), ?o230, ?o231, ?o232, ⟨?o233, ?o234⟩, hc8.2.2.2.2, o8, hO8, hv_AI_4 hg7 hE8 (by rcases hr_76 with z | z; exact z.2.2.1; exfalso; omega) (by rcases hr_76 with z | z; exact z.2.2.2.1; exfalso; omega) (show w_77.toInt.toNat = hv_sk tf i2.toInt.toNat w_62.toInt.toNat + 1 from ?o235)⟩) ls ?o236 hW hT hM fw_77 fw_78 fw_67 fw_64 fw_65 f_2 f_7 f_17 fw_66 fw_68 (lv_sub hl [0, 1, 2, 3, 4, 5] rfl)
                case o221 => decide
                case o222 => decide
                case o223 => omega
                case o224 => omega
                case o225 => omega
                case o226 => omega
                case o227 => omega
                case o228 => omega
                case o229 => decide
                case o230 => omega
                case o231 => omega
                case o232 => omega
                case o233 => omega
                case o234 => omega
                case o235 => omega
                case o236 => omega
    have zk_1 : (1 : Int32).toInt = 1 := ?o237
    case o237 => decide
    have zk_0 : (0 : Int32).toInt = 0 := ?o238
    case o238 => decide
    have zk_0 : (0 : Int32).toInt = 0 := ?o239
    case o239 => decide
    have zk_0 : (0 : Int32).toInt = 0 := ?o240
    case o240 => decide
    have zk_0 : (0 : Int32).toInt = 0 := ?o241
    case o241 => decide
    refine loop74 402 (1 : Int32) (0 : Int32) w_23 (0 : Int32) (0 : Int32) (0 : Int32) pl0 pf df _ _ L_18 h_19 ?o242 ?o243 ?o244 ?o245 ?o246 ?o247 ?o248 ?o249 ?o250 ?o251 ?o252 ?o253 ?o254 ?o255 (Or.inl ⟨?o256, ?o257, ?o258, ?o259, ?o260, ⟨?o261, ?o262⟩, fun _ => ?o263, o, hO, (by rw [hv_sC_0, ek_24]; exact if_pos (by rw [← ek_24]; omega))⟩) ls ?o264 hW hT hM fw_23 f_11 f_13 f_15 f_v3_4 f_2 f_7 f_17 af_qp af_qd hl
    case o242 => decide
    case o243 => decide
    case o244 => decide
    case o245 => decide
    case o246 => omega
    case o247 => omega
    case o248 => decide
    case o249 => decide
    case o250 => decide
    case o251 => decide
    case o252 => decide
    case o253 => decide
    case o254 => omega
    case o255 => omega
    case o256 => decide
    case o257 => decide
    case o258 => omega
    case o259 => omega
    case o260 => omega
    case o261 => decide
    case o262 => decide
    case o263 => decide
    case o264 => omega
end
section
/-! THE REFERENCE'S READER: what its answers say -/
/-- the byte seen: none, or as it is where it is a sign -/
def hv_SE (T : Nat → Int32) (n r p : Int) : Prop := (r = -1 ∧ n ≤ p) ∨ (p < n ∧ ((0 ≤ (T p.toNat).toInt ∧ r = (T p.toNat).toInt) ∨ ((T p.toNat).toInt < 0 ∧ 128 ≤ r)))
theorem hv_a255t : ∀ k : Nat, k < 256 → (Int32.ofInt ((k : Int) - 128)).toInt = (k : Int) - 128 ∧ ((128 ≤ k ∧ ((Int32.ofInt ((k : Int) - 128)) &&& 255).toInt = (k : Int) - 128) ∨ (k < 128 ∧ 128 ≤ ((Int32.ofInt ((k : Int) - 128)) &&& 255).toInt)) := by decide +kernel
theorem hv_a255 {T : Nat → Int32} {y e i : Int32} (h : e = y &&& 255) (ay : y = T i.toNatClampNeg) (l : -128 ≤ y.toInt) (u : y.toInt ≤ 127) : (0 ≤ (T i.toInt.toNat).toInt ∧ e.toInt = (T i.toInt.toNat).toInt) ∨ ((T i.toInt.toNat).toInt < 0 ∧ 128 ≤ e.toInt) := by
  show (0 ≤ (T i.toNatClampNeg).toInt ∧ e.toInt = (T i.toNatClampNeg).toInt) ∨ ((T i.toNatClampNeg).toInt < 0 ∧ 128 ≤ e.toInt)
  rw [← ay]
  obtain ⟨h1, h2⟩ := hv_a255t (y.toInt + 128).toNat (by omega)
  have e1 : (((y.toInt + 128).toNat : Nat) : Int) - 128 = y.toInt := by omega
  rw [e1] at h1 h2
  have ey : y = Int32.ofInt y.toInt := Int32.toInt_inj.mp h1.symm
  rw [← ey, ← h] at h2
  rcases h2 with ⟨a, b⟩ | ⟨a, b⟩
  · exact Or.inl ⟨by omega, b⟩
  · exact Or.inr ⟨by omega, b⟩
section HVSE
variable {T : Nat → Int32} {n r p k : Int}
theorem hv_SE_y (h : hv_SE T n r p) (h0 : 0 ≤ k) (h1 : k < 128) (e : r = k) : p < n ∧ (T p.toNat).toInt = k := by
  rcases h with ⟨a, b⟩ | ⟨a, ⟨b, c⟩ | ⟨b, c⟩⟩
  · exfalso; omega
  · exact ⟨a, by omega⟩
  · exfalso; omega
theorem hv_SE_n (h : hv_SE T n r p) (e : r ≠ k) : ¬ (p < n ∧ (T p.toNat).toInt = k ∧ 0 ≤ k) := by
  rcases h with ⟨a, b⟩ | ⟨a, ⟨b, c⟩ | ⟨b, c⟩⟩
  · intro z; omega
  · intro z; omega
  · intro z; omega
theorem hv_SE_e (h : hv_SE T n r p) (e : r = -1) : n ≤ p := by
  rcases h with ⟨a, b⟩ | ⟨a, ⟨b, c⟩ | ⟨b, c⟩⟩
  · exact b
  · exfalso; omega
  · exfalso; omega
theorem hv_SE_s (h : hv_SE T n r p) (e : r ≠ -1) : p < n := by
  rcases h with ⟨a, b⟩ | ⟨a, _⟩
  · exfalso; omega
  · exact a
theorem hv_SE_d (h : hv_SE T n r p) (e : 48 ≤ r ∧ r ≤ 57) : p < n ∧ hv_dg T p.toNat = true := by
  rcases h with ⟨a, b⟩ | ⟨a, ⟨b, c⟩ | ⟨b, c⟩⟩
  · exfalso; omega
  · exact ⟨a, decide_eq_true (by omega)⟩
  · exfalso; omega
theorem hv_SE_nd (h : hv_SE T n r p) (e : r < 48 ∨ 57 < r) : p < n → hv_dg T p.toNat = false := by
  rcases h with ⟨a, b⟩ | ⟨a, ⟨b, c⟩ | ⟨b, c⟩⟩
  · intro z; exfalso; omega
  · intro z; exact decide_eq_false (by omega)
  · intro z; exact decide_eq_false (by omega)
end HVSE
theorem hv_sn_z {P : Nat → Bool} {i m : Int32} {a b : Int} (h0 : 0 ≤ i.toInt) (hn : i.toInt < m.toInt) (e : P i.toInt.toNat = true) (ha : a = i.toInt) (hb : b = a + 1) : hv_sn P m.toInt.toNat a.toNat = hv_sn P m.toInt.toNat b.toNat := by
  subst ha; subst hb
  rw [show (i.toInt + 1).toNat = i.toInt.toNat + 1 by omega]; exact hv_sn_s (by omega) e
theorem hv_sn_y {P : Nat → Bool} {i m : Int32} {a : Int} (h0 : 0 ≤ i.toInt) (ha : a = i.toInt) (h : i.toInt < m.toInt → P i.toInt.toNat = false) : ((hv_sn P m.toInt.toNat a.toNat : Nat) : Int) = a := by
  subst ha
  rw [hv_sn_e (fun z => h (by omega))]; omega
theorem hv_wlu : ∀ w, w < 25 → ∀ n, n < 8 → (∀ j, j < n → (P_words (7 * w + j)).toInt ≠ 0) → (n = 7 ∨ (P_words (7 * w + n)).toInt = 0) → n = (hv_wl.getD w []).length := by decide +kernel
theorem hv_wlv : ∀ w, w < 25 → ∀ i, i < (hv_wl.getD w []).length → (P_words (7 * w + i)).toInt = (hv_wl.getD w []).getD i 0 := by decide +kernel
theorem hv_wln {f : Nat → Int32} {w n : Int} (hf : hx_wd f) (h0 : 0 ≤ w) (h1 : w ≤ 24) (h2 : 0 ≤ n) (h3 : n ≤ 7) (hp : hx_wp f w n) (he : n = 7 ∨ (f (7 * w.toNat + n.toNat)).toInt = 0) : n = ((hv_wl.getD w.toNat []).length : Nat) := by
  have a := hv_wlu w.toNat (by omega) n.toNat (by omega) (fun j hj => by rw [← hf _ (by omega)]; exact hp j (by omega)) (by
    by_cases z : n = 7
    · exact Or.inl (by omega)
    · rcases he with he | he
      · exact absurd he z
      · rw [hf _ (by omega)] at he; exact Or.inr he)
  omega
/-- a word, compared letter by letter -/
def hv_SM (T W : Nat → Int32) (p ws w n k s : Int) : Prop := (s = 1 ∧ n = ws ∧ ∀ i : Nat, (i : Int) < k → (W (7 * w.toNat + i)).toInt = (T (p.toNat + i)).toInt) ∨ (s = 0 ∧ hv_tx T p.toNat ws.toNat ≠ hv_wl.getD w.toNat [])
section HVSM
variable {T W : Nat → Int32} {p ws w n k k1 s : Int}
theorem hv_SM_y (h : n = ws) (hk : k = 0) (hs : s = 1) : hv_SM T W p ws w n k s := Or.inl ⟨hs, h, fun i hi => by exfalso; omega⟩
theorem hv_SM_w (h : hv_SM T W p ws w n k s) (hs : s ≠ 0) : n = ws := by
  rcases h with ⟨_, a, _⟩ | ⟨a, _⟩
  · exact a
  · exfalso; omega
theorem hv_SM_l (hn : n = ((hv_wl.getD w.toNat []).length : Nat)) (h0 : 0 ≤ ws) (h : n ≠ ws) (hs : s = 0) : hv_SM T W p ws w n k s := Or.inr ⟨hs, fun e => by
  have h2 := congrArg List.length e
  rw [hv_tx_len] at h2
  omega⟩
theorem hv_SM_s (h : hv_SM T W p ws w n k 1) (h0 : 0 ≤ k) (e : (W (7 * w.toNat + k.toNat)).toInt = (T (p.toNat + k.toNat)).toInt) (hk : k1 = k + 1) (hs : s = 1) : hv_SM T W p ws w n k1 s := by
  rcases h with ⟨_, a, b⟩ | ⟨a, _⟩
  · refine Or.inl ⟨hs, a, fun i hi => ?_⟩
    rcases (show (i : Int) < k ∨ i = k.toNat by omega) with z | z
    · exact b i z
    · rw [z]; exact e
  · exfalso; omega
theorem hv_SM_x (hf : hx_wd W) (h0 : 0 ≤ w) (h1 : w ≤ 24) (hn : n = ((hv_wl.getD w.toNat []).length : Nat)) (h : hv_SM T W p ws w n k 1) (k0 : 0 ≤ k) (kn : k < n) (e : (W (7 * w.toNat + k.toNat)).toInt ≠ (T (p.toNat + k.toNat)).toInt) (hs : s = 0) : hv_SM T W p ws w n k1 s := by
  rcases h with ⟨_, a, _⟩ | ⟨a, _⟩
  · refine Or.inr ⟨hs, fun c => e ?_⟩
    have hl := hv_ix_l w.toNat (by omega)
    have h2 := hv_wlv w.toNat (by omega) k.toNat (by omega)
    rw [hf _ (by omega), h2, ← c, hv_tx_get _ _ _ (by omega)]
  · exfalso; omega
theorem hv_SM_e (hf : hx_wd W) (h0 : 0 ≤ w) (h1 : w ≤ 24) (hn : n = ((hv_wl.getD w.toNat []).length : Nat)) (h : hv_SM T W p ws w n k s) (hs : s ≠ 0) (kn : n ≤ k) : hv_tx T p.toNat ws.toNat = hv_wl.getD w.toNat [] := by
  rcases h with ⟨_, a, b⟩ | ⟨a, _⟩
  · have hl := hv_ix_l w.toNat (by omega)
    have e : ws.toNat = (hv_wl.getD w.toNat []).length := by omega
    rw [e]
    refine hv_tx_eq _ _ (fun i hi => ?_)
    rw [← b i (by omega), hf _ (by omega), hv_wlv w.toNat (by omega) i hi]
  · exact absurd a hs
theorem hv_SM_n (h : hv_SM T W p ws w n k s) (hs : s = 0) : hv_tx T p.toNat ws.toNat ≠ hv_wl.getD w.toNat [] := by
  rcases h with ⟨a, _⟩ | ⟨_, b⟩
  · exfalso; omega
  · exact b
end HVSM
theorem hv_wd_i {T : Nat → Int32} {n p : Nat} {ws w : Int} (hw : hv_we T n p - p = ws.toNat) (h0 : 0 ≤ w) (h1 : w ≤ 24) (e : hv_tx T p ws.toNat = hv_wl.getD w.toNat []) : w = hv_wd T n p := by
  unfold hv_wd
  rw [hw, e, hv_ix_w _ (by omega)]
  omega
theorem hv_wd_o {T : Nat → Int32} {n p : Nat} {ws : Int} (hw : hv_we T n p - p = ws.toNat) (h : (∀ k : Nat, (k : Int) < 25 → hv_tx T p ws.toNat ≠ hv_wl.getD k []) ∨ 7 < ws) : hv_wd T n p = -1 := by
  unfold hv_wd
  rw [hw]
  rcases hv_ix_c (hv_tx T p ws.toNat) with ⟨a, _⟩ | ⟨k, a, b, c⟩
  · exact a
  · rcases h with h | h
    · exact absurd c (h k (by omega))
    · have h2 := congrArg List.length c
      rw [hv_tx_len] at h2
      have h3 := hv_ix_l k a
      exfalso; omega
/-- one more word that it isn't -/
theorem hv_wd_s {T : Nat → Int32} {p : Nat} {ws w w1 : Int} (h : ∀ k : Nat, (k : Int) < w → hv_tx T p ws.toNat ≠ hv_wl.getD k []) (h0 : 0 ≤ w) (hn : hv_tx T p ws.toNat ≠ hv_wl.getD w.toNat []) (e : w1 = w + 1) : ∀ k : Nat, (k : Int) < w1 → hv_tx T p ws.toNat ≠ hv_wl.getD k [] := fun k hk => by
  rcases (show (k : Int) < w ∨ k = w.toNat by omega) with z | z
  · exact h k z
  · rw [z]; exact hn
/-- what the reference answers of a NUMBER -/
def hv_M (sp : Nat ⊕ (Nat × Int)) (r ft p sd : Int) : Prop := (r = 1 ∧ ft = 0 ∧ 0 ≤ p ∧ sp = .inr (p.toNat, sd)) ∨ (r = 0 ∧ 1 ≤ ft ∧ sp = .inl ft.toNat)
section HVM
variable {sp : Nat ⊕ (Nat × Int)} {r ft p sd : Int}
theorem hv_M_1 (h : hv_M sp r ft p sd) (z : 1 ≤ r) : ft = 0 ∧ 0 ≤ p ∧ sp = .inr (p.toNat, sd) := by
  rcases h with ⟨_, w⟩ | ⟨a, _⟩
  · exact w
  · exfalso; omega
theorem hv_M_0 (h : hv_M sp r ft p sd) (z : r ≤ 0) : 1 ≤ ft ∧ sp = .inl ft.toNat := by
  rcases h with ⟨a, _⟩ | ⟨_, w⟩
  · exfalso; omega
  · exact w
theorem hv_M_b (h : hv_M sp r ft p sd) : r = 0 ∨ r = 1 := by
  rcases h with ⟨a, _⟩ | ⟨a, _⟩
  · exact Or.inr a
  · exact Or.inl a
end HVM
theorem hv_dvm_s {T : Nat → Int32} {a f : Int} {i x l v y k : Int32} (h : l.toInt = hv_dv T a.toNat (min k.toInt.toNat 4)) (h0 : 0 ≤ a) (h1 : 0 ≤ k.toInt) (hf : i.toInt = a + k.toInt) (h2 : k.toInt < 4) (hy : y = T i.toNatClampNeg) (hv : v.toInt = 10 * l.toInt + y.toInt - 48) (ex : x.toInt = k.toInt + 1) : v.toInt = hv_dv T a.toNat (min x.toInt.toNat 4) := by
  rw [show min k.toInt.toNat 4 = k.toInt.toNat by omega] at h
  rw [show min x.toInt.toNat 4 = k.toInt.toNat + 1 by omega]
  show v.toInt = 10 * hv_dv T a.toNat k.toInt.toNat + ((T (a.toNat + k.toInt.toNat)).toInt - 48)
  rw [← h, show a.toNat + k.toInt.toNat = i.toNatClampNeg by unfold Int32.toNatClampNeg; omega, ← hy]
  omega
theorem hv_dvm_k {T : Nat → Int32} {a : Nat} {l k x : Int32} (h : l.toInt = hv_dv T a (min k.toInt.toNat 4)) (h2 : 4 ≤ k.toInt) (ex : x.toInt = k.toInt + 1) : l.toInt = hv_dv T a (min x.toInt.toNat 4) := by
  rw [h]; congr 1; omega
end
section
/-! THE REFERENCE'S STACK -/
def hv_rc (t : hv_tok) : Int := if t.1 = 0 then (t.2.1 : Int) else 1000000 * t.1 + 100000 * (t.2.1 : Int) + t.2.2
theorem hv_dp_ls {f : Nat → Int32} : ∀ n, hv_dp (hv_ls f n) = hx_dp f n := by
  intro n
  induction n with
  | zero => rfl
  | succ n ih => show hv_dp (hv_ls f n) + _ = hx_dp f n + _; rw [ih]
theorem hv_ls_p {f f1 : Nat → Int32} {n n1 k : Nat} {v : Int32} {z : Int} (hk : k = n) (h1 : n1 = n + 1) (hv : v.toInt = z) (h2 : f1 = hx_up f k v) : hv_ls f1 n1 = z :: hv_ls f n := by
  subst hk; subst h1; subst h2; subst hv
  show (hx_up f k v k).toInt :: hv_ls (hx_up f k v) k = _
  rw [hx_up_at, hv_ls_c k (fun j hj => hx_up_ne (by omega))]
theorem hv_ls_t {f : Nat → Int32} {op : Int} {x i j : Int32} (h : 0 < op) (ex : x = f i.toNatClampNeg) (hi : i.toInt = op - 1) (hj : j.toInt = op - 1) : hv_ls f op.toNat = x.toInt :: hv_ls f j.toInt.toNat := by
  have e : op.toNat = i.toNatClampNeg + 1 := by unfold Int32.toNatClampNeg; omega
  have e2 : j.toInt.toNat = i.toNatClampNeg := by unfold Int32.toNatClampNeg; omega
  rw [e, e2, ex]; rfl
theorem hv_ls_0 {f : Nat → Int32} {op : Int} (h : op ≤ 0) : hv_ls f op.toNat = [] := by
  rw [show op.toNat = 0 by omega]; rfl
theorem hv_ls_n {f : Nat → Int32} {op : Int} (h : 0 < op) : hv_ls f op.toNat ≠ [] := by
  rw [show op.toNat = (op.toNat - 1) + 1 by omega]; intro z; cases z
section HVRN
variable {T : Nat → Int32} {n p t u : Nat} {o o1 : List hv_tok} {s s1 : List Int} {p1 t1 : Nat} {x : Nat} {w : Int} {a : Int} {low : Int}
theorem hv_rt_n (h : ¬ (3 ≤ hv_wd T n u ∧ hv_wd T n u ≤ 10)) (hu : hv_sk T n u = u) {g : Nat} : hv_rt T n w g u t o = hv_bd (hv_num T n u 0 9999) (fun q => .inr (q.1, t + 1, (w - 2, g, q.2) :: o)) := by
  unfold hv_rt hv_num
  rw [if_neg h, hu]
  by_cases d : u < n ∧ hv_dg T u = true
  · rw [if_pos d, if_pos d]
    by_cases c : hv_de T n u - u ≤ 4
    · have hb := hv_dv_b (T := T) (p := u) (hv_de T n u - u) (fun j h1 h2 => hv_sn_in (P := hv_dg T) (n := n) h1 (by show j < hv_de T n u; omega))
      have h4 : hv_dv T u (hv_de T n u - u) ≤ 9999 := by
        rcases (show hv_de T n u - u = 0 ∨ hv_de T n u - u = 1 ∨ hv_de T n u - u = 2 ∨ hv_de T n u - u = 3 ∨ hv_de T n u - u = 4 by omega) with z | z | z | z | z <;> (rw [z] at hb ⊢; have h5 := hb.2; simp at h5; omega)
      rw [if_pos c, if_pos ⟨c, hb.1, h4⟩]; rfl
    · rw [if_neg c, if_neg (fun z => c z.1)]; rfl
  · rw [if_neg d, if_neg d]; rfl
theorem hv_RN_t0 (h1 : hv_wd T n (hv_sk T n p) ≠ 2) (h2 : ¬ (hv_sk T n p < n ∧ (T (hv_sk T n p)).toInt = 40)) (hr : hv_term T n (hv_sk T n p) t o = .inl x) : hv_RN T n true p t o s = .inl x := by
  rw [hv_RN_1, if_neg h1, if_neg h2, hr]; rfl
theorem hv_RN_t1 (h1 : hv_wd T n (hv_sk T n p) ≠ 2) (h2 : ¬ (hv_sk T n p < n ∧ (T (hv_sk T n p)).toInt = 40)) (hr : hv_term T n (hv_sk T n p) t o = .inr (p1, t1, o1)) : hv_RN T n true p t o s = hv_RN T n false p1 t1 (hv_cn o1 s).1 (hv_cn o1 s).2 := by
  rw [hv_RN_1, if_neg h1, if_neg h2, hr]; rfl
theorem hv_RN_d (h : hv_wd T n (hv_sk T n p) = 2 ∨ (hv_sk T n p < n ∧ (T (hv_sk T n p)).toInt = 40)) (hd : hv_dp s = 8) : hv_RN T n true p t o s = .inl (4 + 8 * hv_sk T n p) := by
  rw [hv_RN_1]
  rcases h with h | h
  · rw [if_pos h, if_pos hd]
  · rw [if_pos h, if_pos hd]
    split <;> rfl
theorem hv_RN_n (h : hv_wd T n (hv_sk T n p) = 2) (hd : hv_dp s ≠ 8) : hv_RN T n true p t o s = hv_RN T n true (hv_sk T n p + 3) t o (2 :: s) := by
  rw [hv_RN_1 (p := p), if_pos h, if_neg hd]
theorem hv_RN_p (h : hv_wd T n (hv_sk T n p) ≠ 2) (h2 : hv_sk T n p < n ∧ (T (hv_sk T n p)).toInt = 40) (hd : hv_dp s ≠ 8) : hv_RN T n true p t o s = hv_RN T n true (hv_sk T n p + 1) t o (100 :: s) := by
  rw [hv_RN_1 (p := p), if_neg h, if_pos h2, if_neg hd]
theorem hv_wd_40 (h : (T p).toInt = 40) : hv_wd T n p = -1 := hv_wd_n (fun _ => by
  show decide _ = false
  exact decide_eq_false (fun z => by omega))
theorem hv_RN_a (h : hv_wd T n (hv_sk T n p) = w) (hw : w = 1 ∨ w = 0) (hc : hv_cd w o s = (o1, s1)) : hv_RN T n false p t o s = hv_RN T n true (hv_we T n (hv_sk T n p)) t o1 (w :: s1) := by
  subst h
  rw [hv_RN_0, if_pos hw, hc]
theorem hv_RN_c0 (h : hv_wd T n (hv_sk T n p) ≠ 1 ∧ hv_wd T n (hv_sk T n p) ≠ 0) (h2 : hv_sk T n p < n ∧ (T (hv_sk T n p)).toInt = 41) (hc : hv_cd 0 o s = (o1, [])) : hv_RN T n false p t o s = .inl (1 + 8 * hv_sk T n p) := by
  rw [hv_RN_0, if_neg (fun z => z.elim h.1 h.2), hc]
  unfold hv_shut
  rw [if_pos h2]
theorem hv_RN_c1 (h : hv_wd T n (hv_sk T n p) ≠ 1 ∧ hv_wd T n (hv_sk T n p) ≠ 0) (h2 : hv_sk T n p < n ∧ (T (hv_sk T n p)).toInt = 41) (hc : hv_cd 0 o s = (o1, a :: s1)) {q : List hv_tok × List Int} (hq : hv_cn o1 s1 = q) : hv_RN T n false p t o s = hv_RN T n false (hv_sk T n p + 1) t q.1 q.2 := by
  subst hq
  rw [hv_RN_0 (p := p), if_neg (fun z => z.elim h.1 h.2), hc]
  unfold hv_shut
  rw [if_pos h2]
theorem hv_RN_e0 (h : hv_wd T n (hv_sk T n p) ≠ 1 ∧ hv_wd T n (hv_sk T n p) ≠ 0) (h2 : ¬ (hv_sk T n p < n ∧ (T (hv_sk T n p)).toInt = 41)) (hc : hv_cd 0 o s = (o1, [])) : hv_RN T n false p t o s = .inr (hv_sk T n p, t, o1) := by
  rw [hv_RN_0, if_neg (fun z => z.elim h.1 h.2), hc]
  unfold hv_shut
  rw [if_neg h2, if_pos rfl]
theorem hv_RN_e1 (h : hv_wd T n (hv_sk T n p) ≠ 1 ∧ hv_wd T n (hv_sk T n p) ≠ 0) (h2 : ¬ (hv_sk T n p < n ∧ (T (hv_sk T n p)).toInt = 41)) (hc : hv_cd 0 o s = (o1, s1)) (hs : s1 ≠ []) : hv_RN T n false p t o s = .inl (1 + 8 * hv_sk T n p) := by
  rw [hv_RN_0, if_neg (fun z => z.elim h.1 h.2), hc]
  unfold hv_shut
  rw [if_neg h2, if_neg hs]
theorem hv_cn_2 (h : a = 2) : hv_cn o (a :: s) = hv_cn ((0, 2, 0) :: o) s := if_pos h
theorem hv_cn_n (h : a ≠ 2) : hv_cn o (a :: s) = (o, a :: s) := if_neg h
theorem hv_cd_y (h : a ≠ 100) (h2 : low ≤ a) : hv_cd low o (a :: s) = hv_cd low ((0, a.toNat, 0) :: o) s := if_pos ⟨h, h2⟩
theorem hv_cd_n (h : a = 100 ∨ a < low) : hv_cd low o (a :: s) = (o, a :: s) := if_neg (fun z => by omega)
end HVRN
/-- what begins() answers -/
def hv_BG (run : hv_R) (T : Nat → Int32) (n : Nat) (r ft p t : Int) (ls st : List Int) : Prop := (r = 1 ∧ ft = 0 ∧ 0 ≤ p ∧ 0 ≤ t ∧ ∃ o1, ls = o1.map hv_rc ∧ run = hv_RN T n false p.toNat t.toNat (hv_cn o1 st).1 (hv_cn o1 st).2) ∨ (r = 0 ∧ 1 ≤ ft ∧ run = .inl ft.toNat)
section HVBG
variable {run : hv_R} {T : Nat → Int32} {n : Nat} {r ft p t : Int} {ls st : List Int}
theorem hv_BG_1 (h : hv_BG run T n r ft p t ls st) (z : 1 ≤ r) : ft = 0 ∧ 0 ≤ p ∧ 0 ≤ t ∧ ∃ o1, ls = o1.map hv_rc ∧ run = hv_RN T n false p.toNat t.toNat (hv_cn o1 st).1 (hv_cn o1 st).2 := by
  rcases h with ⟨_, w⟩ | ⟨a, _⟩
  · exact w
  · exfalso; omega
theorem hv_BG_0 (h : hv_BG run T n r ft p t ls st) (z : r ≤ 0) : 1 ≤ ft ∧ run = .inl ft.toNat := by
  rcases h with ⟨a, _⟩ | ⟨_, w⟩
  · exfalso; omega
  · exact w
theorem hv_BG_K {sp : hv_R} (k : hv_K hv_rc sp r ft p t ls) (h0 : ∀ x, sp = .inl x → run = .inl x) (h1 : ∀ p1 t1 o1, sp = .inr (p1, t1, o1) → run = hv_RN T n false p1 t1 (hv_cn o1 st).1 (hv_cn o1 st).2) : hv_BG run T n r ft p t ls st := by
  rcases k with ⟨a, b, c, d, o1, e, f⟩ | ⟨a, b, c⟩
  · exact Or.inl ⟨a, b, c, d, o1, e, h1 _ _ _ f⟩
  · exact Or.inr ⟨a, b, h0 _ c⟩
theorem hv_BG_f {x : Nat} (hr : r = 0) (hf : ft = (x : Int)) (hx : 1 ≤ x) (h : run = .inl x) : hv_BG run T n r ft p t ls st := Or.inr ⟨hr, by omega, by rw [h, hf, Int.toNat_natCast]⟩
end HVBG
end
section
/-! THE REFERENCE'S CLAUSES -/
theorem hv_rx_b {k : Nat} (h : k < 14) : hv_rx k ≤ 20 := by unfold hv_rx; split <;> omega
theorem hv_rx_i {i : Int32} (h0 : 0 ≤ i.toInt) (h1 : i.toInt ≤ 12) : i.toInt = ((hv_rx i.toInt.toNat : Nat) : Int) := by
  unfold hv_rx; rw [if_neg (by omega)]; omega
theorem hv_sR_a {x i : Int32} {k : Nat} (hk : k < 14) (hi : i.toInt = ((hv_rx k : Nat) : Int)) : hv_sR x k = x.toBitVec.getLsbD i.toInt.toNat := by
  show (if k < 14 then x.toBitVec.getLsbD (hv_rx k) else false) = _
  rw [if_pos hk, hi, Int.toNat_natCast]
/-- a number of a clause, told once -/
def hv_IN (r ft ft0 i : Int) (k : Nat) (sn sn1 : Nat → Bool) : Prop := (r = 1 ∧ ft = ft0 ∧ sn k = false ∧ sn1 = hv_ub sn k) ∨ (r = 0 ∧ sn k = true ∧ ft = 3 + 8 * i)
section HVIN
variable {r ft ft0 i : Int} {k : Nat} {sn sn1 : Nat → Bool}
theorem hv_IN_1 (h : hv_IN r ft ft0 i k sn sn1) (z : 1 ≤ r) : ft = ft0 ∧ sn k = false ∧ sn1 = hv_ub sn k := by
  rcases h with ⟨_, w⟩ | ⟨a, _⟩
  · exact w
  · exfalso; omega
theorem hv_IN_0 (h : hv_IN r ft ft0 i k sn sn1) (z : r ≤ 0) : sn k = true ∧ ft = 3 + 8 * i := by
  rcases h with ⟨a, _⟩ | ⟨_, w⟩
  · exfalso; omega
  · exact w
theorem hv_IN_b (h : hv_IN r ft ft0 i k sn sn1) : r = 0 ∨ r = 1 := by
  rcases h with ⟨a, _⟩ | ⟨a, _⟩
  · exact Or.inr a
  · exact Or.inl a
end HVIN
theorem hv_lo_e {i r n : Int} (e : r = n) (h0 : 0 ≤ i) (h : ((i = 1 ∨ i = 3 ∨ 8 ≤ i) ∧ n = 0) ∨ (¬ (i = 1 ∨ i = 3 ∨ 8 ≤ i) ∧ n = 1)) : r = hv_lo i.toNat := by
  unfold hv_lo; split <;> omega
theorem hv_hi_e {i r n : Int} (e : r = n) (h : (i = 0 ∧ n = 9999) ∨ (i = 1 ∧ n = 365) ∨ (i = 2 ∧ n = 999) ∨ (i = 3 ∧ n = 999) ∨ (i = 4 ∧ n = 20) ∨ (i = 5 ∧ n = 20) ∨ (i = 6 ∧ n = 30) ∨ (i = 7 ∧ n = 400) ∨ (i = 8 ∧ n = 40) ∨ (9 ≤ i ∧ n = 999)) : r = hv_hi i.toNat := by
  rw [e]
  rcases h with ⟨a, b⟩ | ⟨a, b⟩ | ⟨a, b⟩ | ⟨a, b⟩ | ⟨a, b⟩ | ⟨a, b⟩ | ⟨a, b⟩ | ⟨a, b⟩ | ⟨a, b⟩ | ⟨a, b⟩
  all_goals first | (rw [a, b]; rfl) | (rw [b, hv_hi9 (by omega)])
/-- what stands where nothing is told -/
def hv_W0 : Nat → Int := fun k => if k < 13 then (P_wo (k + 1)).toInt else 0
def hv_o0 : List hv_tok := [(0, 1, 0), (2, 2, 0), (1, 2, 1)]
theorem hv_W0_e {i r n : Int} (e : r = n) (h : (i = 0 ∧ n = 480) ∨ (i = 1 ∧ n = 30) ∨ (i = 2 ∧ n = 12) ∨ (i = 3 ∧ n = 60) ∨ (i = 4 ∧ n = 2) ∨ (i = 5 ∧ n = 4) ∨ (i = 6 ∧ n = 1) ∨ (i = 7 ∧ n = 40) ∨ (i = 8 ∧ n = 21) ∨ (9 ≤ i ∧ i ≤ 12 ∧ n = 0)) : r = hv_W0 i.toNat := by
  rw [e]
  rcases h with ⟨a, b⟩ | ⟨a, b⟩ | ⟨a, b⟩ | ⟨a, b⟩ | ⟨a, b⟩ | ⟨a, b⟩ | ⟨a, b⟩ | ⟨a, b⟩ | ⟨a, b⟩ | ⟨a, a2, b⟩
  all_goals try (rw [a, b]; first | decide | rfl)
  rw [b]
  rcases (show i = 9 ∨ i = 10 ∨ i = 11 ∨ i = 12 by omega) with z | z | z | z <;> rw [z] <;> decide
theorem hv_rC_0 {f : Nat → Int32} (h : ∀ j, j < 14 → f j = P_wo j) : hv_rC f = hv_W0 := by
  funext k
  show (if k < 13 then (f (k + 1)).toInt else 0) = (if k < 13 then (P_wo (k + 1)).toInt else 0)
  by_cases z : k < 13
  · rw [if_pos z, if_pos z, h _ (by omega)]
  · rw [if_neg z, if_neg z]
def hv_WI (f : Nat → Int32) (n : Int) : Prop := ∀ k : Nat, (k : Int) < n → (f k).toInt = hv_W0 k
theorem hv_WI_0 {f : Nat → Int32} {n : Int} (h : n ≤ 0) : hv_WI f n := fun k hk => by exfalso; omega
theorem hv_WI_s {f f1 : Nat → Int32} {i v : Int32} {j : Int} (h : hv_WI f i.toInt) (e : f1 = hx_up f i.toNatClampNeg v) (h0 : 0 ≤ i.toInt) (hv : v.toInt = hv_W0 i.toInt.toNat) (hj : j = i.toInt + 1) : hv_WI f1 j := fun k hk => by
  by_cases z : k = i.toInt.toNat
  · rw [e, z]; exact (congrArg Int32.toInt (hx_up_at (f := f) (k := i.toNatClampNeg) (v := v))).trans hv
  · rw [e, hx_up_ne (by unfold Int32.toNatClampNeg; omega)]; exact h k (by omega)
theorem hv_WI_e {f : Nat → Int32} {n : Int} (h : hv_WI f n) (hn : 13 ≤ n) : hv_rR f = hv_W0 := by
  funext k
  show (if k < 13 then (f k).toInt else 0) = _
  by_cases z : k < 13
  · rw [if_pos z, h k (by omega)]
  · rw [if_neg z]; show _ = (if k < 13 then (P_wo (k + 1)).toInt else 0); rw [if_neg z]
section HVCM
variable {T : Nat → Int32} {n p : Nat} {e : hv_tok → Int} {sp : Nat ⊕ hv_st} {sn : Nat → Bool} {rd : Nat → Int} {o : List hv_tok}
theorem hv_cl_p (h : hv_wd T n (hv_sk T n p) = 20) (hs : sn 13 = false) : hv_cl T n p sn rd o = hv_bd (hv_LE T n 8 false false (hv_we T n (hv_sk T n p)) 0 []) (fun q => .inr (q.1, hv_ub sn 13, rd, q.2.2)) := by
  unfold hv_cl; rw [if_pos (by omega), if_pos h, if_neg (by rw [hs]; decide)]
/-- what the reference answers of a CLAUSE: a ) too many is told here, or behind it -/
def hv_CM (T : Nat → Int32) (n : Nat) (e : hv_tok → Int) (sp : Nat ⊕ hv_st) (r ft p : Int) (sn : Nat → Bool) (rd : Nat → Int) (ls : List Int) : Prop :=
  (r = 1 ∧ ft = 0 ∧ 0 ≤ p ∧ ∃ o, ls = o.map e ∧ sp = .inr (p.toNat, sn, rd, o)) ∨ (r = 0 ∧ 1 ≤ ft ∧ ∀ s : hv_st, hv_cl T n s.1 s.2.1 s.2.2.1 s.2.2.2 = sp → hv_AL T n s = .inl ft.toNat)
variable {r ft q : Int} {ls : List Int}
theorem hv_CM_1 (h : hv_CM T n e sp r ft q sn rd ls) (z : 1 ≤ r) : ft = 0 ∧ 0 ≤ q ∧ ∃ o, ls = o.map e ∧ sp = .inr (q.toNat, sn, rd, o) := by
  rcases h with ⟨_, w⟩ | ⟨a, _⟩
  · exact w
  · exfalso; omega
theorem hv_CM_0 (h : hv_CM T n e sp r ft q sn rd ls) (z : r ≤ 0) : 1 ≤ ft ∧ ∀ s : hv_st, hv_cl T n s.1 s.2.1 s.2.2.1 s.2.2.2 = sp → hv_AL T n s = .inl ft.toNat := by
  rcases h with ⟨a, _⟩ | ⟨_, w⟩
  · exfalso; omega
  · exact w
theorem hv_CM_b (h : hv_CM T n e sp r ft q sn rd ls) : r = 0 ∨ r = 1 := by
  rcases h with ⟨a, _⟩ | ⟨a, _⟩
  · exact Or.inr a
  · exact Or.inl a
theorem hv_CM_f {x : Nat} (hr : r = 0) (hf : ft = (x : Int)) (hx : 1 ≤ x) (h : sp = .inl x) : hv_CM T n e sp r ft q sn rd ls := Or.inr ⟨hr, by omega, fun s hs => by rw [hv_AL_1 (hs.trans h), hf, Int.toNat_natCast]⟩
theorem hv_CM_t {x : Nat} {sn' : Nat → Bool} {rd' : Nat → Int} {o : List hv_tok} (hr : r = 1) (hf : ft = 0) (hp : q = (x : Int)) (hs : sn = sn') (hd : rd = rd') (hl : ls = o.map e) (h : sp = .inr (x, sn', rd', o)) : hv_CM T n e sp r ft q sn rd ls := Or.inl ⟨hr, hf, by omega, o, hl, by rw [h, hp, hs, hd, Int.toNat_natCast]⟩
theorem hv_CM_p {u : Nat} {t : Int} (h : hv_K e (hv_RN T n true u 0 [] []) r ft q t ls) (hs : sp = hv_bd (hv_LE T n 8 false false u 0 []) (fun q => .inr (q.1, sn, rd, q.2.2))) : hv_CM T n e sp r ft q sn rd ls := by
  rw [hv_top] at h
  cases hL : hv_LE T n 8 false false u 0 [] with
  | inl x =>
    rw [hL, hv_bd_l] at h hs
    rcases h with ⟨_, _, _, _, o, _, h9⟩ | ⟨a, b, c⟩
    · cases h9
    · have c' : x = ft.toNat := Sum.inl.inj c
      exact hv_CM_f (x := x) a (by omega) (by omega) hs
  | inr w =>
    rw [hL, hv_bd_r] at h hs
    by_cases z : w.1 < n ∧ (T w.1).toInt = 41
    · rw [if_pos z] at h
      rcases h with ⟨_, _, _, _, o, _, h9⟩ | ⟨a, b, c⟩
      · cases h9
      · have c' : 1 + 8 * w.1 = ft.toNat := Sum.inl.inj c
        refine Or.inr ⟨a, b, fun s hc => ?_⟩
        have hk : hv_sk T n w.1 = w.1 := hv_sn_e (fun _ => by unfold hv_bl; rw [z.2]; decide)
        have h3 := hv_AL_3 (s := s) (hc.trans hs) (show hv_sk T n w.1 < n by rw [hk]; exact z.1) (show (T (hv_sk T n w.1)).toInt ≠ 59 by rw [hk, z.2]; decide)
        exact h3.trans (by show (Sum.inl (1 + 8 * hv_sk T n w.1) : Nat ⊕ hv_st) = _; rw [hk, c'])
    · rw [if_neg z] at h
      rcases h with ⟨a, b, c, d, o, f, h9⟩ | ⟨_, _, h9⟩
      · have h8 : w = (q.toNat, t.toNat, o) := Sum.inr.inj h9
        exact Or.inl ⟨a, b, c, o, f, by rw [hs, h8]⟩
      · cases h9
end HVCM
/-- what stands at the head of the reference's loop over clauses -/
def hv_MI (T : Nat → Int32) (n : Nat) (sp : Nat ⊕ hv_st) (g m ft p : Int) (sn : Nat → Bool) (rd : Nat → Int) (ls : List Int) : Prop :=
  (g = 1 ∧ m = 1 ∧ ft = 0 ∧ 0 ≤ p ∧ p ≤ n ∧ ∃ o, ls = o.map hv_rc ∧ sp = hv_AL T n (p.toNat, sn, rd, o)) ∨ (g = 1 ∧ m = 0 ∧ ∃ x sn' o, ls = o.map hv_rc ∧ sp = .inr (x, sn', rd, o)) ∨ (g = 0 ∧ 1 ≤ ft ∧ sp = .inl ft.toNat)
section HVMI
variable {T : Nat → Int32} {n : Nat} {sp : Nat ⊕ hv_st} {g m ft p : Int} {sn : Nat → Bool} {rd : Nat → Int} {ls : List Int}
theorem hv_MI_1 (h : hv_MI T n sp g m ft p sn rd ls) (z : 1 ≤ g) (y : 1 ≤ m) : ft = 0 ∧ 0 ≤ p ∧ p ≤ n ∧ ∃ o, ls = o.map hv_rc ∧ sp = hv_AL T n (p.toNat, sn, rd, o) := by
  obtain ⟨_, _, w⟩ | ⟨_, w, _⟩ | ⟨w, _⟩ := h
  · exact w
  · exfalso; omega
  · exfalso; omega
theorem hv_MI_2 (h : hv_MI T n sp g m ft p sn rd ls) (z : 1 ≤ g) (y : m ≤ 0) : ∃ x sn' o, ls = o.map hv_rc ∧ sp = .inr (x, sn', rd, o) := by
  obtain ⟨_, w, _⟩ | ⟨_, _, w⟩ | ⟨w, _⟩ := h
  · exfalso; omega
  · exact w
  · exfalso; omega
theorem hv_MI_0 (h : hv_MI T n sp g m ft p sn rd ls) (z : g ≤ 0) : 1 ≤ ft ∧ sp = .inl ft.toNat := by
  obtain ⟨w, _⟩ | ⟨w, _⟩ | ⟨_, w⟩ := h
  · exfalso; omega
  · exfalso; omega
  · exact w
theorem hv_MI_t {x : Nat} {o : List hv_tok} (hg : g = 1) (hm : m = 1) (hf : ft = 0) (hp : p = (x : Int)) (hn : p ≤ n) (hl : ls = o.map hv_rc) (h : sp = hv_AL T n (x, sn, rd, o)) : hv_MI T n sp g m ft p sn rd ls := Or.inl ⟨hg, hm, hf, by omega, hn, o, hl, by rw [h, hp, Int.toNat_natCast]⟩
theorem hv_MI_f {x : Nat} (hg : g = 0) (hf : ft = (x : Int)) (hx : 1 ≤ x) (h : sp = .inl x) : hv_MI T n sp g m ft p sn rd ls := Or.inr (Or.inr ⟨hg, by omega, by rw [h, hf, Int.toNat_natCast]⟩)
end HVMI
theorem hv_ACT_1 {T : Nat → Int32} {n : Nat} {rd : Nat → Int} {o : List hv_tok} (h : hv_sk T n 0 < n) : hv_ACT T n rd o = hv_AL T n (hv_sk T n 0, (fun _ => false), rd, o) := if_pos h
theorem hv_ACT_0 {T : Nat → Int32} {n : Nat} {rd : Nat → Int} {o : List hv_tok} (h : ¬ hv_sk T n 0 < n) : hv_ACT T n rd o = .inr (hv_sk T n 0, (fun _ => false), rd, o) := if_neg h
/-- what is answered of a text to be kept: refused, at fault, kept -/
def hv_AN (full : Prop) (sp : Nat ⊕ hv_st) (r : Int32) (a0 a1 t0 t1 : Int) : Prop :=
  (full ∧ r = -1 ∧ a1 = a0 ∧ t1 = t0) ∨ (¬ full ∧ t1 = 0 ∧ a1 = a0 ∧ ∃ x : Int32, 1 ≤ x.toInt ∧ sp = .inl x.toInt.toNat ∧ r = -2 - x) ∨ (¬ full ∧ t1 = 0 ∧ a1 = a0 + 1 ∧ (∃ q, sp = .inr q) ∧ r.toInt = a0)
theorem hv_AN_eq {f f' : Prop} {sp sp' : Nat ⊕ hv_st} {r r' : Int32} {a0 a1 t0 t1 a0' a1' t0' t1' : Int} (h : hv_AN f sp r a0 a1 t0 t1) (h' : hv_AN f' sp' r' a0' a1' t0' t1') (hf : f ↔ f') (hs : sp = sp') (ha : a0 = a0') (ht : t0 = t0') : r = r' ∧ a1 = a1' ∧ t1 = t1' := by
  subst hs
  obtain ⟨a, b, c, d⟩ | ⟨a, b, c, x, d, e, g⟩ | ⟨a, b, c, ⟨q, d⟩, e⟩ := h <;> obtain ⟨a', b', c', d'⟩ | ⟨a', b', c', x', d', e', g'⟩ | ⟨a', b', c', ⟨q', d'⟩, e'⟩ := h'
  · exact ⟨b.trans b'.symm, by omega, by omega⟩
  · exact absurd (hf.mp a) a'
  · exact absurd (hf.mp a) a'
  · exact absurd (hf.mpr a') a
  · have hx : x.toInt.toNat = x'.toInt.toNat := by rw [e] at e'; exact Sum.inl.inj e'
    have hy : x = x' := Int32.toInt_inj.mp (by omega)
    exact ⟨by rw [g, g', hy], by omega, by omega⟩
  · rw [e] at d'; cases d'
  · exact absurd (hf.mpr a') a
  · rw [e'] at d; cases d
  · exact ⟨Int32.toInt_inj.mp (by omega), by omega, by omega⟩
end
section
/-! THE ACTS, A ROW EACH: row 0 is what holds without one -/
abbrev hv_act : Type := Int × (Nat → Int) × List hv_tok
def hv_A0 : hv_act := (-1, hv_W0, hv_o0)
/-- what an act's object holds -/
def hv_AQ (h : hx_h) (q : Nat) (m : Int) (a : hv_act) : Prop := (h.2.1 q 0).toInt = m ∧ (h.2.1 q 1).toInt = a.1 ∧ (∀ t, h.2.2 q 2 = some t → hv_rC (h.2.1 t) = a.2.1) ∧ (∀ p, h.2.2 q 3 = some p → hv_ls (h.2.1 p) (h.2.1 q 4).toInt.toNat = a.2.2.map hv_cc)
def hv_RA (h : hx_h) (qa w : Nat) (n : Int) (A : Nat → hv_act) : Prop := hv_AQ h w (-1) (A 0) ∧ ∀ j : Nat, (j : Int) < n → ∀ q, h.2.2 qa j = some q → hv_AQ h q (j : Int) (A (j + 1))
theorem hv_AQ_c {h h1 : hx_h} {q : Nat} {m : Int} {a : hv_act} (H : hv_AQ h q m a) (e0 : h1.2.1 q 0 = h.2.1 q 0) (e1 : h1.2.1 q 1 = h.2.1 q 1) (e4 : h1.2.1 q 4 = h.2.1 q 4) (r2 : h1.2.2 q 2 = h.2.2 q 2) (r3 : h1.2.2 q 3 = h.2.2 q 3) (et : ∀ t, h.2.2 q 2 = some t → h1.2.1 t = h.2.1 t) (ep : ∀ p, h.2.2 q 3 = some p → h1.2.1 p = h.2.1 p) : hv_AQ h1 q m a := by
  obtain ⟨a1, a2, a3, a4⟩ := H
  refine ⟨by rw [e0]; exact a1, by rw [e1]; exact a2, fun t ht => ?_, fun p hp => ?_⟩
  · rw [r2] at ht; rw [et t ht]; exact a3 t ht
  · rw [r3] at hp; rw [ep p hp, e4]; exact a4 p hp
section HVRA
variable {tb : List hx_d} {M : hx_m} {L L1 : List Nat} {h h1 : hx_h} {qa w ta tt tp ci t0 x t9 : Nat} {nn b2 b3 : Bool} {fs : List hx_f} {dt dp : Nat × Nat × hx_f} {n : Int} {A : Nat → hv_act}
theorem hv_RA_S (hs : hx_S tb M L h L1 h1) (hT : hx_T tb L h) (ga : hx_g L h qa ta) (gw : hx_g L h w 0) (hd : tb[ta]? = some (.inr (t0, 8, .inr (nn, [0])))) (h0 : tb[0]? = some (.inl (ci, fs))) (f2 : fs[2]? = some (.inr (b2, [tt]))) (f3 : fs[3]? = some (.inr (b3, [tp]))) (ma : M.any (fun q => q.1 == ta) = false) (m0 : M.any (fun q => q.1 == 0) = false) (mt : M.any (fun q => q.1 == tt) = false) (mp : M.any (fun q => q.1 == tp) = false) (hn : n ≤ 8) (H : hv_RA h qa w n A) : hv_RA h1 qa w n A := by
  have key : ∀ (q : Nat) (m : Int) (a : hv_act), hx_g L h q 0 → hv_AQ h q m a → hv_AQ h1 q m a := by
    intro q m a g H
    have e := fun j => hs.all g m0 j
    refine hv_AQ_c H (e 0).1 (e 1).1 (e 4).1 (e 2).2 (e 3).2 (fun t ht => ?_) (fun p hp => ?_)
    · obtain ⟨a1, a2⟩ := (hT.gr g h0 f2).2 t ht
      have gt : hx_g L h t tt := ⟨a1, by simpa using a2⟩
      exact funext fun j => (hs.all gt mt j).1
    · obtain ⟨a1, a2⟩ := (hT.gr g h0 f3).2 p hp
      have gt : hx_g L h p tp := ⟨a1, by simpa using a2⟩
      exact funext fun j => (hs.all gt mp j).1
  refine ⟨key w _ _ gw H.1, fun j hj q hq => ?_⟩
  rw [(hs.all ga ma j).2] at hq
  obtain ⟨c1, c2⟩ := (hT.er ga hd (k := j) (by omega)).2 q hq
  exact key q _ _ ⟨c1, by simpa using c2⟩ (H.2 j hj q hq)
theorem hv_RA_X (hs : hx_S tb M (hx_X L x) h L1 h1) (hT : hx_T tb L h) (ga : hx_g (hx_X L x) h qa ta) (gw : hx_g (hx_X L x) h w 0) (gx : hx_g L h x t9) (hd : tb[ta]? = some (.inr (t0, 8, .inr (nn, [0])))) (h0 : tb[0]? = some (.inl (ci, fs))) (f2 : fs[2]? = some (.inr (b2, [tt]))) (f3 : fs[3]? = some (.inr (b3, [tp]))) (ma : M.any (fun q => q.1 == ta) = false) (m0 : M.any (fun q => q.1 == 0) = false) (mt : M.any (fun q => q.1 == tt) = false) (mp : M.any (fun q => q.1 == tp) = false) (ne : ((0 : Nat) ≠ t9 ∧ tt ≠ t9) ∧ tp ≠ t9) (hn : n ≤ 8) (H : hv_RA h qa w n A) : hv_RA h1 qa w n A := by
  have key : ∀ (q : Nat) (m : Int) (a : hv_act), hx_g (hx_X L x) h q 0 → hv_AQ h q m a → hv_AQ h1 q m a := by
    intro q m a g H
    have e := fun j => hs.all g m0 j
    have g' : hx_g L h q 0 := ⟨(hx_X_m.mp g.1).1, g.2⟩
    refine hv_AQ_c H (e 0).1 (e 1).1 (e 4).1 (e 2).2 (e 3).2 (fun t ht => ?_) (fun p hp => ?_)
    · obtain ⟨a1, a2⟩ := (hT.gr g' h0 f2).2 t ht
      have a3 : h.1 t = tt := by simpa using a2
      have gt : hx_g (hx_X L x) h t tt := ⟨hx_X_m.mpr ⟨a1, fun z => ne.1.2 (by rw [← a3, z, gx.2])⟩, a3⟩
      exact funext fun j => (hs.all gt mt j).1
    · obtain ⟨a1, a2⟩ := (hT.gr g' h0 f3).2 p hp
      have a3 : h.1 p = tp := by simpa using a2
      have gt : hx_g (hx_X L x) h p tp := ⟨hx_X_m.mpr ⟨a1, fun z => ne.2 (by rw [← a3, z, gx.2])⟩, a3⟩
      exact funext fun j => (hs.all gt mp j).1
  refine ⟨key w _ _ gw H.1, fun j hj q hq => ?_⟩
  rw [(hs.all ga ma j).2] at hq
  obtain ⟨c1, c2⟩ := (hT.er ⟨(hx_X_m.mp ga.1).1, ga.2⟩ hd (k := j) (by omega)).2 q hq
  have c3 : h.1 q = 0 := by simpa using c2
  exact key q _ _ ⟨hx_X_m.mpr ⟨c1, fun z => ne.1.1 (by rw [← c3, z, gx.2])⟩, c3⟩ (H.2 j hj q hq)
/-- one more act -/
theorem hv_RA_p {q : Nat} {i : Int32} {a : hv_act} (H : hv_RA h qa w n A) (hT : hx_T tb L h) (ga : hx_g L h qa ta) (gw : hx_g L h w 0) (gq : hx_g L h q 0) (hd : tb[ta]? = some (.inr (t0, 8, .inr (nn, [0])))) (ne : (0 : Nat) ≠ ta) (hq : hv_AQ h q n a) (eh : h1 = hx_pr h qa i.toNatClampNeg (some q)) (hi : i.toInt = n) (h0 : 0 ≤ n) (hn : n ≤ 7) : hv_RA h1 qa w (n + 1) (fun k => if k = n.toNat + 1 then a else A k) := by
  have ei : i.toNatClampNeg = n.toNat := by unfold Int32.toNatClampNeg; omega
  subst eh
  have key2 : ∀ (q1 : Nat) (m : Int) (a1 : hv_act), hx_g L h q1 0 → hv_AQ h q1 m a1 → hv_AQ (hx_pr h qa i.toNatClampNeg (some q)) q1 m a1 := by
    intro q1 m a1 g H
    have nq : q1 ≠ qa := fun z => ne (by rw [← g.2, z, ga.2])
    exact hv_AQ_c H rfl rfl rfl (hx_pr_ne h (some q) (fun z => nq z.1)) (hx_pr_ne h (some q) (fun z => nq z.1)) (fun _ _ => rfl) (fun _ _ => rfl)
  refine ⟨?_, fun j hj q1 hq1 => ?_⟩
  · show hv_AQ _ w (-1) (if 0 = n.toNat + 1 then a else A 0)
    rw [if_neg (by omega)]
    exact key2 w _ _ gw H.1
  · show hv_AQ _ q1 j (if j + 1 = n.toNat + 1 then a else A (j + 1))
    by_cases z : j = n.toNat
    · rw [if_pos (by omega)]
      have e1 : (hx_pr h qa i.toNatClampNeg (some q)).2.2 qa j = some q := by
        rw [z, ← ei]; exact hx_pr_at _ _ _ _
      rw [e1] at hq1
      cases hq1
      rw [show ((j : Nat) : Int) = n by omega]
      exact key2 q _ _ gq hq
    · rw [if_neg (by omega)]
      rw [hx_pr_ne h (a := qa) (k := i.toNatClampNeg) (b := qa) (j := j) (some q) (fun y => z (by have := y.2; omega))] at hq1
      obtain ⟨c1, c2⟩ := (hT.er ga hd (k := j) (by omega)).2 q1 hq1
      exact key2 q1 _ _ ⟨c1, by simpa using c2⟩ (H.2 j (by omega) q1 hq1)
end HVRA
/-- the reference's rows -/
def hv_CR (adf rf psf prf : Nat → Int32) (j : Nat) (a : hv_act) : Prop := ((psf j).toInt ≤ 128 ∧ (1 ≤ j → (adf j).toInt = a.1 ∧ 0 ≤ a.1)) ∧ hv_rR (fun k => rf (13 * j + k)) = a.2.1 ∧ hv_ls (fun i => prf (128 * j + i)) (psf j).toInt.toNat = a.2.2.map hv_rc
def hv_CA (adf rf psf prf : Nat → Int32) (n : Int) (A : Nat → hv_act) : Prop := (A 0).1 = -1 ∧ ∀ j : Nat, (j : Int) ≤ n → hv_CR adf rf psf prf j (A j)
def hv_RL (rf0 rf1 rd : Nat → Int32) (a k : Int) : Prop := (∀ p : Nat, (p : Int) < 13 * a → rf1 p = rf0 p) ∧ ∀ j : Nat, (j : Int) < k → rf1 (13 * a.toNat + j) = rd j
theorem hv_RL_0 {rf rd : Nat → Int32} {a k : Int} (h : k ≤ 0) : hv_RL rf rf rd a k := ⟨fun _ _ => rfl, fun j hj => by exfalso; omega⟩
theorem hv_RL_s {rf0 rf rf1 rd : Nat → Int32} {a k k1 : Int} {i v l : Int32} (h : hv_RL rf0 rf rd a k) (ha : 0 ≤ a) (hk : 0 ≤ k) (hi : i.toInt = 13 * a + k) (hv : v = rd l.toNatClampNeg) (hl : l.toInt = k) (e : rf1 = hx_up rf i.toNatClampNeg v) (e1 : k1 = k + 1) : hv_RL rf0 rf1 rd a k1 := by
  have ei : ((i.toNatClampNeg : Nat) : Int) = i.toInt := by unfold Int32.toNatClampNeg; omega
  have el : ((l.toNatClampNeg : Nat) : Int) = l.toInt := by unfold Int32.toNatClampNeg; omega
  subst e
  refine ⟨fun p hp => ?_, fun j hj => ?_⟩
  · rw [hx_up_ne (by omega)]; exact h.1 p hp
  · by_cases z : j = k.toNat
    · rw [show 13 * a.toNat + j = i.toNatClampNeg by omega, hx_up_at, hv, show l.toNatClampNeg = j by omega]
    · rw [hx_up_ne (by omega)]; exact h.2 j (by omega)
theorem hv_ls_c2 {f g : Nat → Int32} {n m : Nat} (hn : n = m) (h : ∀ j, j < n → f j = g j) : hv_ls f n = hv_ls g m := by
  subst hn; exact hv_ls_c n h
theorem hv_rR_c {f g : Nat → Int32} (h : ∀ j, j < 13 → f j = g j) : hv_rR f = hv_rR g := by
  funext k
  show (if k < 13 then (f k).toInt else 0) = (if k < 13 then (g k).toInt else 0)
  by_cases z : k < 13
  · rw [if_pos z, if_pos z, h k z]
  · rw [if_neg z, if_neg z]
/-- one more row -/
theorem hv_CA_p {adf adf1 rf rf1 psf psf1 prf prf1 rd sf : Nat → Int32} {n m : Int} {A : Nat → hv_act} {a : hv_act} {i st d : Int32} (H : hv_CA adf rf psf prf n A) (h0 : 0 ≤ n) (hm : m = n + 1) (hi : i.toInt = m) (e1 : adf1 = hx_up adf i.toNatClampNeg d) (hd : d.toInt = a.1) (hd0 : 0 ≤ d.toInt) (e2 : hv_RL rf rf1 rd m 13) (hr : hv_rR rd = a.2.1) (e3 : psf1 = hx_up psf i.toNatClampNeg st) (e4 : hx_kp sf prf prf1 m st.toInt) (hs : st.toInt ≤ 128) (hl : hv_ls sf st.toInt.toNat = a.2.2.map hv_rc) : hv_CA adf1 rf1 psf1 prf1 m (fun k => if k = n.toNat + 1 then a else A k) := by
  have ei : ((i.toNatClampNeg : Nat) : Int) = m := by unfold Int32.toNatClampNeg; omega
  subst e1; subst e3
  refine ⟨by show (if 0 = n.toNat + 1 then a else A 0).1 = -1; rw [if_neg (by omega)]; exact H.1, fun j hj => ?_⟩
  show hv_CR _ _ _ _ j (if j = n.toNat + 1 then a else A j)
  by_cases z : j = n.toNat + 1
  · rw [if_pos z]
    refine ⟨⟨?_, fun _ => ?_⟩, ?_, ?_⟩
    · rw [show j = i.toNatClampNeg by omega, hx_up_at]; exact hs
    · rw [show j = i.toNatClampNeg by omega, hx_up_at]; exact ⟨hd, by omega⟩
    · rw [← hr]; exact hv_rR_c (fun k hk => by have := e2.2 k (by omega); rw [← this]; congr 1; omega)
    · rw [show j = i.toNatClampNeg by omega, hx_up_at, ← hl]
      exact hv_ls_c2 rfl (fun k hk => by have := e4.1 k (by omega); rw [← this]; congr 1; omega)
  · rw [if_neg z]
    obtain ⟨⟨a0, a1⟩, a2, a3⟩ := H.2 j (by omega)
    refine ⟨⟨?_, fun h1 => ?_⟩, ?_, ?_⟩
    · rw [hx_up_ne (by omega)]; exact a0
    · rw [hx_up_ne (by omega)]; exact a1 h1
    · rw [← a2]; exact hv_rR_c (fun k hk => e2.1 _ (by omega))
    · rw [← a3, hx_up_ne (by omega)]
      exact hv_ls_c2 rfl (fun k hk => e4.2 _ (Or.inl (by omega)))
/-- which row holds on a day -/
def hv_IF (A : Nat → hv_act) (d : Int) : Nat → Nat
  | 0 => 0
  | k + 1 => if (A (k + 1)).1 ≤ d ∧ (A (hv_IF A d k)).1 ≤ (A (k + 1)).1 then k + 1 else hv_IF A d k
theorem hv_IF_b {A : Nat → hv_act} {d : Int} : ∀ k, hv_IF A d k ≤ k
  | 0 => Nat.le_refl _
  | k + 1 => by
    have h := hv_IF_b (A := A) (d := d) k
    have e : hv_IF A d (k + 1) = (if (A (k + 1)).1 ≤ d ∧ (A (hv_IF A d k)).1 ≤ (A (k + 1)).1 then k + 1 else hv_IF A d k) := rfl
    rw [e]; split
    · exact Nat.le_refl _
    · exact Nat.le_trans h (Nat.le_succ k)
theorem hv_IF_y {A : Nat → hv_act} {d l l1 : Int} (h : (A (l.toNat + 1)).1 ≤ d ∧ (A (hv_IF A d l.toNat)).1 ≤ (A (l.toNat + 1)).1) (h0 : 0 ≤ l) (e : l1 = l + 1) : hv_IF A d l1.toNat = l.toNat + 1 := by
  rw [show l1.toNat = l.toNat + 1 by omega]; exact if_pos h
theorem hv_IF_n {A : Nat → hv_act} {d l l1 : Int} (h : ¬ ((A (l.toNat + 1)).1 ≤ d ∧ (A (hv_IF A d l.toNat)).1 ≤ (A (l.toNat + 1)).1)) (h0 : 0 ≤ l) (e : l1 = l + 1) : hv_IF A d l1.toNat = hv_IF A d l.toNat := by
  rw [show l1.toNat = l.toNat + 1 by omega]; exact if_neg h
/-- what force answers -/
def hv_FO (A : Nat → hv_act) (d i n r : Int) : Prop := ((d < 0 ∨ 7999 < d ∨ i < 0 ∨ 13 < i) ∧ r = -1) ∨ (¬ (d < 0 ∨ 7999 < d ∨ i < 0 ∨ 13 < i) ∧ ((i = 0 ∧ r = (hv_IF A d n.toNat : Int) - 1) ∨ (1 ≤ i ∧ r = (A (hv_IF A d n.toNat)).2.1 (i - 1).toNat)))
theorem hv_FO_eq {A : Nat → hv_act} {d i n r r' : Int} (h : hv_FO A d i n r) (h' : hv_FO A d i n r') : r = r' := by
  obtain ⟨_, h1⟩ | ⟨z, ⟨_, h1⟩ | ⟨_, h1⟩⟩ := h <;> obtain ⟨_, h2⟩ | ⟨z', ⟨_, h2⟩ | ⟨_, h2⟩⟩ := h' <;> first | exact h1.trans h2.symm | (exfalso; omega)
/-- the rows behind an act -/
def hv_AU (A : Nat → hv_act) (a0 a1 d : Int) (sp : Nat ⊕ hv_st) (A1 : Nat → hv_act) : Prop := (a1 = a0 ∧ A1 = A) ∨ (a1 = a0 + 1 ∧ ∃ x sn rd o, sp = .inr (x, sn, rd, o) ∧ A1 = (fun k => if k = a0.toNat + 1 then (d, rd, o) else A k))
theorem hv_AU_eq {A A1 A2 : Nat → hv_act} {a0 a1 d : Int} {sp : Nat ⊕ hv_st} (h : hv_AU A a0 a1 d sp A1) (h' : hv_AU A a0 a1 d sp A2) : A1 = A2 := by
  obtain ⟨z, h1⟩ | ⟨z, x, sn, rd, o, h1, h2⟩ := h <;> obtain ⟨z', h1'⟩ | ⟨z', x', sn', rd', o', h1', h2'⟩ := h'
  · exact h1.trans h1'.symm
  · exfalso; omega
  · exfalso; omega
  · rw [h1] at h1'
    have e := Sum.inr.inj h1'
    simp only [Prod.mk.injEq] at e
    rw [h2, h2', e.2.2.1, e.2.2.2]
theorem hv_AR_2 {e : hv_tok → Int} {sp : Nat ⊕ hv_st} {r : Int} {rd : Nat → Int} {ls : List Int} (h : hv_AR e sp r rd ls) (z : r ≤ 0) : ∃ x sn o, ls = o.map e ∧ sp = .inr (x, sn, rd, o) := by
  obtain ⟨_, w⟩ | ⟨a, _⟩ := h
  · exact w
  · exfalso; omega
theorem hv_CA_0 {adf rf psf psf1 prf prf1 sf : Nat → Int32} {i st : Int32} (hi : i.toInt = 0) (hr : hv_rR rf = hv_W0) (e3 : psf1 = hx_up psf i.toNatClampNeg st) (e4 : hx_kp sf prf prf1 i.toInt st.toInt) (hs : st.toInt ≤ 128) (hl : hv_ls sf st.toInt.toNat = hv_o0.map hv_rc) : hv_CA adf rf psf1 prf1 0 (fun _ => hv_A0) := by
  refine ⟨rfl, fun j hj => ?_⟩
  have hj0 : j = 0 := by omega
  subst hj0; subst e3
  have ei : i.toNatClampNeg = 0 := by unfold Int32.toNatClampNeg; omega
  refine ⟨⟨?_, fun h => absurd h (by omega)⟩, ?_, ?_⟩
  · rw [ei, hx_up_at]; exact hs
  · show hv_rR (fun k => rf (13 * 0 + k)) = hv_W0
    rw [← hr]; exact hv_rR_c (fun k hk => by congr 1; omega)
  · rw [ei, hx_up_at]
    show _ = hv_o0.map hv_rc
    rw [← hl]
    exact hv_ls_c2 rfl (fun k hk => by
      have h8 := e4.1 k (by omega)
      rw [hi] at h8
      rw [show 128 * 0 + k = 128 * (0 : Int).toNat + k by simp]; exact h8)
end
section
set_option maxHeartbeats 4000000 in
set_option maxRecDepth 100000 in
theorem t_X10_see_v (l : Launch) (dC : Nat → ClassId) (dI : Nat → Nat → Nat) (dA : Nat → ClassId) (L : List Nat) (h : hx_h) (sz : Nat) (x : Nat) (hT : hx_T T_tb L h) (gx : hx_g L h x 10) (qt : Nat) (gqt : hx_g L h qt 53) (f_x_6 : h.2.2 x 6 = some qt) (tf : Nat → Int32) (af_qt : h.2.1 qt = tf) (nx0 : Int32) (f_x_8 : h.2.1 x 8 = nx0) (tp0 : Int32) (f_x_7 : h.2.1 x 7 = tp0) (hA : nx0.toInt ≤ tp0.toInt) : Met l yX10_see (Cond.code yX10_see cX10_see 1 (some .int) :: hx_all) ({ frames := 0, cells := 0, slots := 0, locals := 0 }) (va_Pc [.ref x] (hx_B T_tb (P_ty dA) (dC, dI) vwCl L h sz)) (va_Qi (fun (r : Int32) (u : List Nat × hx_h) => (∃ (nx1 : Int32), u.2.2.1 x 8 = nx1 ∧ (nx0.toInt ≤ nx1.toInt ∧ nx1.toInt ≤ tp0.toInt ∧ nx1.toInt = ((hv_sk tf tp0.toInt.toNat nx0.toInt.toNat : Nat) : Int) ∧ hv_SE tf tp0.toInt r.toInt nx1.toInt ∧ -1 ≤ r.toInt ∧ r.toInt ≤ 255)) ∧ hx_T T_tb u.1 u.2 ∧ hx_S T_tb [(10, 8)] L h u.1 u.2) (hx_E T_tb (P_ty dA) (dC, dI) vwCl (hx_A L sz)) (hx_A L sz)) 0 0 (hx_A L sz) := by
  refine hx_met (lv := [(0, .ref x)]) (by decide +kernel) rfl (Nat.le_of_ble_eq_true rfl) rfl ?_
  intro p e s m below meth c hx hb hml hr hlk hts0 hown hin hsz hW ls hl
  have hts : ∀ w ∈ hx_all, w.before _ s = true := fun w hw => hts0 w (List.mem_cons_of_mem _ hw)
  have hown : s.vm.findClass "SmallCourtModel" = some m.cls := hown
  have hM : hx_S T_tb [(10, 8)] L h L h := hx_S.rf
  have b_nx0 := hT.gi gx tt_10 (k := 8) rfl
  rw [f_x_8] at b_nx0
  have b_nx0 : 0 ≤ nx0.toInt ∧ nx0.toInt ≤ 402 := b_nx0
  have b_tp0 := hT.gi gx tt_10 (k := 7) rfl
  rw [f_x_7] at b_tp0
  have b_tp0 : 0 ≤ tp0.toInt ∧ tp0.toInt ≤ 400 := b_tp0
  have loop0 : ∀ (n0 : Nat) (fw0_x_8 : Int32) (H : Heap) (locs : List Loc) (hL1 : List Nat) (hl1 : hx_h), 0 ≤ fw0_x_8.toInt → fw0_x_8.toInt ≤ 402 → (hv_sk tf tp0.toInt.toNat nx0.toInt.toNat = hv_sk tf tp0.toInt.toNat (fw0_x_8.toInt).toNat) → (nx0.toInt ≤ fw0_x_8.toInt) → (fw0_x_8.toInt ≤ tp0.toInt) → ∀ (ls : Array Slot), 402 - fw0_x_8.toInt < (n0 : Int) → hx_W T_tb (P_ty dA) (dC, dI) vwCl (hx_A L sz) s.heap hL1 hl1 s H locs → hx_T T_tb hL1 hl1 → hx_S T_tb [(10, 8)] L h hL1 hl1 → hl1.2.1 x 8 = fw0_x_8 → lv_has ls 1 [(0, .ref x)] → W p l e ({ frames := 0, cells := 0, slots := 0, locals := 0 }) s m ([.ref x] : List Value).toArray below meth c H locs 0 0 (MQ below (va_Qi (fun (r : Int32) (u : List Nat × hx_h) => (∃ (nx1 : Int32), u.2.2.1 x 8 = nx1 ∧ (nx0.toInt ≤ nx1.toInt ∧ nx1.toInt ≤ tp0.toInt ∧ nx1.toInt = ((hv_sk tf tp0.toInt.toNat nx0.toInt.toNat : Nat) : Int) ∧ hv_SE tf tp0.toInt r.toInt nx1.toInt ∧ -1 ≤ r.toInt ∧ r.toInt ≤ 255)) ∧ hx_T T_tb u.1 u.2 ∧ hx_S T_tb [(10, 8)] L h u.1 u.2) (hx_E T_tb (P_ty dA) (dC, dI) vwCl (hx_A L sz)) (hx_A L sz)) ([.ref x] : List Value).toArray s 0 0 (hx_A L sz)) (F0 m 0 ls []) := by
    intro n0
    induction n0 with
    | zero => intro fw0_x_8 H locs hL1 hl1 blfw0_x_8 bufw0_x_8 vi0_0 vi0_1 vi0_2 ls hn0; exfalso; omega
    | succ n0 ih0 =>
      intro fw0_x_8 H locs hL1 hl1 blfw0_x_8 bufw0_x_8 vi0_0 vi0_1 vi0_2 ls hn0 hW hT hM ffw0_x_8  hl
      refine lv_aload_n hx hb dX10_see_0 rfl (lv_at hl 0 rfl) ?_
      refine hk_geti hx hb hts hC_10 hown hW (gx.S hM) tt_10 8 ?o0 rfl kw_1151 ⟨rfl, rfl, rfl⟩ ffw0_x_8 dX10_see_1 ?_
      case o0 => decide
      refine lv_aload_n hx hb dX10_see_4 rfl (lv_at hl 0 rfl) ?_
      refine hk_geti hx hb hts hC_10 hown hW (gx.S hM) tt_10 7 ?o1 rfl kw_1150 ⟨rfl, rfl, rfl⟩ ((hM.o gx trivial rfl).1.trans f_x_7) dX10_see_5 ?_
      case o1 => decide
      refine hb_icmp_ge (zx := fw0_x_8.toInt) (zy := tp0.toInt) (tgt := 38) hx hb rfl rfl dX10_see_8 ?o2 (fun c_1 => ?_) (fun c_1 => ?_)
      case o2 => decide
      · skip
        refine lv_aload_n hx hb dX10_see_38 rfl (lv_at hl 0 rfl) ?_
        refine hk_geti hx hb hts hC_10 hown hW (gx.S hM) tt_10 8 ?o3 rfl kw_1151 ⟨rfl, rfl, rfl⟩ ffw0_x_8 dX10_see_39 ?_
        case o3 => decide
        refine lv_aload_n hx hb dX10_see_42 rfl (lv_at hl 0 rfl) ?_
        refine hk_geti hx hb hts hC_10 hown hW (gx.S hM) tt_10 7 ?o4 rfl kw_1150 ⟨rfl, rfl, rfl⟩ ((hM.o gx trivial rfl).1.trans f_x_7) dX10_see_43 ?_
        case o4 => decide
        refine hb_icmp_ge (zx := fw0_x_8.toInt) (zy := tp0.toInt) (tgt := 65) hx hb rfl rfl dX10_see_46 ?o5 (fun c_2 => ?_) (fun c_2 => ?_)
        case o5 => decide
        · skip
          refine lv_iconst (v := -1) hx hb dX10_see_65 ?o6 ?_
          case o6 => decide
          refine hx_reti hx hb hr hlk hW ⟨⟨fw0_x_8, ffw0_x_8, ⟨?o7, ?o8, (by rw [vi0_0]; exact (hv_sn_o (by omega) (fun z9 => by exfalso; omega)).symm), Or.inl ⟨?o9, ?o10⟩, ?o11, ?o12⟩⟩, hT, hM⟩ dX10_see_66
          case o7 => omega
          case o8 => omega
          case o9 => decide
          case o10 => omega
          case o11 => decide
          case o12 => decide
        · skip
          refine lv_aload_n hx hb dX10_see_49 rfl (lv_at hl 0 rfl) ?_
          refine hk_getr hx hb hts hC_10 hown hW (gx.S hM) tt_10 6 ?o13 rfl kw_1149 ⟨rfl, rfl, rfl⟩ ((hM.o gx trivial rfl).2.trans f_x_6) dX10_see_50 ?_
          case o13 => decide
          refine lv_aload_n hx hb dX10_see_53 rfl (lv_at hl 0 rfl) ?_
          refine hk_geti hx hb hts hC_10 hown hW (gx.S hM) tt_10 8 ?o14 rfl kw_1151 ⟨rfl, rfl, rfl⟩ ffw0_x_8 dX10_see_54 ?_
          case o14 => decide
          refine hx_bald hx hb hW hT (gqt.S hM) tt_53 rfl ⟨?o15, ?o16⟩ dX10_see_57 (fun x_3 ex_3 lx_3 ux_3 => ?_)
          case o15 => omega
          case o16 => omega
          have ax_3 : x_3 = tf fw0_x_8.toNatClampNeg := ex_3.trans (congrFun (hx_afS hM gqt rfl af_qt) _)
          refine lv_sipush (v := 255) hx hb dX10_see_58 ?o17 ?_
          case o17 => decide
          refine lv_iand hx hb dX10_see_61 ?_
          refine lv_topi (fun x_4 ex_4 => ?_)
          have zx_4 : 0 ≤ x_4.toInt ∧ x_4.toInt ≤ 255 := ?o18
          case o18 =>
            rw [ex_4]
            refine hx_andR ?o19 ?o20
            case o19 => decide
            case o20 => decide
          refine lv_goto (tgt := 66) hx hb dX10_see_62 ?o21 ?_
          case o21 => decide
          refine hx_reti hx hb hr hlk hW ⟨⟨fw0_x_8, ffw0_x_8, ⟨?o22, ?o23, (by rw [vi0_0]; exact (hv_sn_o (by omega) (fun z9 => hv_bl_f ax_3 (by omega))).symm), Or.inr ⟨?o24, hv_a255 ex_4 ax_3 ?o25 ?o26⟩, ?o27, ?o28⟩⟩, hT, hM⟩ dX10_see_66
          case o22 => omega
          case o23 => omega
          case o24 => omega
          case o25 => omega
          case o26 => omega
          case o27 => omega
          case o28 => omega
      · skip
        refine lv_aload_n hx hb dX10_see_11 rfl (lv_at hl 0 rfl) ?_
        refine hk_getr hx hb hts hC_10 hown hW (gx.S hM) tt_10 6 ?o29 rfl kw_1149 ⟨rfl, rfl, rfl⟩ ((hM.o gx trivial rfl).2.trans f_x_6) dX10_see_12 ?_
        case o29 => decide
        refine lv_aload_n hx hb dX10_see_15 rfl (lv_at hl 0 rfl) ?_
        refine hk_geti hx hb hts hC_10 hown hW (gx.S hM) tt_10 8 ?o30 rfl kw_1151 ⟨rfl, rfl, rfl⟩ ffw0_x_8 dX10_see_16 ?_
        case o30 => decide
        refine hx_bald hx hb hW hT (gqt.S hM) tt_53 rfl ⟨?o31, ?o32⟩ dX10_see_19 (fun x_5 ex_5 lx_5 ux_5 => ?_)
        case o31 => omega
        case o32 => omega
        have ax_5 : x_5 = tf fw0_x_8.toNatClampNeg := ex_5.trans (congrFun (hx_afS hM gqt rfl af_qt) _)
        refine lv_bipush (v := 32) hx hb dX10_see_20 ?o33 ?_
        case o33 => decide
        refine hb_icmp_ne (zx := x_5.toInt) (zy := 32) (tgt := 38) hx hb rfl ?o34 dX10_see_22 ?o35 (fun c_6 => ?_) (fun c_6 => ?_)
        case o34 => decide
        case o35 => decide
        · skip
          refine lv_aload_n hx hb dX10_see_38 rfl (lv_at hl 0 rfl) ?_
          refine hk_geti hx hb hts hC_10 hown hW (gx.S hM) tt_10 8 ?o36 rfl kw_1151 ⟨rfl, rfl, rfl⟩ ffw0_x_8 dX10_see_39 ?_
          case o36 => decide
          refine lv_aload_n hx hb dX10_see_42 rfl (lv_at hl 0 rfl) ?_
          refine hk_geti hx hb hts hC_10 hown hW (gx.S hM) tt_10 7 ?o37 rfl kw_1150 ⟨rfl, rfl, rfl⟩ ((hM.o gx trivial rfl).1.trans f_x_7) dX10_see_43 ?_
          case o37 => decide
          refine hb_icmp_ge (zx := fw0_x_8.toInt) (zy := tp0.toInt) (tgt := 65) hx hb rfl rfl dX10_see_46 ?o38 (fun c_7 => ?_) (fun c_7 => ?_)
          case o38 => decide
          · skip
            refine lv_iconst (v := -1) hx hb dX10_see_65 ?o39 ?_
            case o39 => decide
            refine hx_reti hx hb hr hlk hW ⟨⟨fw0_x_8, ffw0_x_8, ⟨?o40, ?o41, (by rw [vi0_0]; exact (hv_sn_o (by omega) (fun z9 => hv_bl_f ax_5 (by omega))).symm), Or.inl ⟨?o42, ?o43⟩, ?o44, ?o45⟩⟩, hT, hM⟩ dX10_see_66
            case o40 => omega
            case o41 => omega
            case o42 => decide
            case o43 => omega
            case o44 => decide
            case o45 => decide
          · skip
            refine lv_aload_n hx hb dX10_see_49 rfl (lv_at hl 0 rfl) ?_
            refine hk_getr hx hb hts hC_10 hown hW (gx.S hM) tt_10 6 ?o46 rfl kw_1149 ⟨rfl, rfl, rfl⟩ ((hM.o gx trivial rfl).2.trans f_x_6) dX10_see_50 ?_
            case o46 => decide
            refine lv_aload_n hx hb dX10_see_53 rfl (lv_at hl 0 rfl) ?_
            refine hk_geti hx hb hts hC_10 hown hW (gx.S hM) tt_10 8 ?o47 rfl kw_1151 ⟨rfl, rfl, rfl⟩ ffw0_x_8 dX10_see_54 ?_
            case o47 => decide
            refine hx_bald hx hb hW hT (gqt.S hM) tt_53 rfl ⟨?o48, ?o49⟩ dX10_see_57 (fun x_8 ex_8 lx_8 ux_8 => ?_)
            case o48 => omega
            case o49 => omega
            have ax_8 : x_8 = tf fw0_x_8.toNatClampNeg := ex_8.trans (congrFun (hx_afS hM gqt rfl af_qt) _)
            obtain rfl : x_5 = x_8 := ex_5.trans ex_8.symm
            refine lv_sipush (v := 255) hx hb dX10_see_58 ?o50 ?_
            case o50 => decide
            refine lv_iand hx hb dX10_see_61 ?_
            refine lv_topi (fun x_9 ex_9 => ?_)
            have zx_9 : 0 ≤ x_9.toInt ∧ x_9.toInt ≤ 255 := ?o51
            case o51 =>
              rw [ex_9]
              refine hx_andR ?o52 ?o53
              case o52 => decide
              case o53 => decide
            refine lv_goto (tgt := 66) hx hb dX10_see_62 ?o54 ?_
            case o54 => decide
            refine hx_reti hx hb hr hlk hW ⟨⟨fw0_x_8, ffw0_x_8, ⟨?o55, ?o56, (by rw [vi0_0]; exact (hv_sn_o (by omega) (fun z9 => hv_bl_f ax_5 (by omega))).symm), Or.inr ⟨?o57, hv_a255 ex_9 ax_5 ?o58 ?o59⟩, ?o60, ?o61⟩⟩, hT, hM⟩ dX10_see_66
            case o55 => omega
            case o56 => omega
            case o57 => omega
            case o58 => omega
            case o59 => omega
            case o60 => omega
            case o61 => omega
        · skip
          refine lv_aload_n hx hb dX10_see_25 rfl (lv_at hl 0 rfl) ?_
          refine lv_dup hx hb dX10_see_26 rfl ?_
          refine hk_geti hx hb hts hC_10 hown hW (gx.S hM) tt_10 8 ?o62 rfl kw_1151 ⟨rfl, rfl, rfl⟩ ffw0_x_8 dX10_see_27 ?_
          case o62 => decide
          refine lv_iconst (v := 1) hx hb dX10_see_30 ?o63 ?_
          case o63 => decide
          refine lv_iadd hx hb dX10_see_31 ?_
          have rg_10 := i32_r fw0_x_8
          refine lv_topi (fun x_11 ex_11 => ?_)
          have zx_11 : x_11.toInt = fw0_x_8.toInt + 1 := ?o64
          case o64 =>
            rw [ex_11]
            refine i32_add rfl ?o65 ?o66 ?o67
            case o65 => decide
            case o66 => omega
            case o67 => omega
          refine hx_puti hx hb hts hC_10 hown hW hT (hx_S.rf (M := [(10, 8)])) (gx.S hM) tt_10 8 ?o68 rfl kw_1151 ⟨rfl, rfl, rfl⟩ rfl (x := x_11) ⟨?o69, ?o70⟩ rfl rfl rfl (List.mem_singleton.mpr rfl) dX10_see_32 (fun H locs h_12 eh_12 hW hT hs => ?_)
          case o68 => decide
          case o69 => omega
          case o70 => omega
          replace ex_5 := ex_5.trans (hs.a (gqt.S hM) rfl _).1.symm
          replace hM := hM.tr (hs.mono ?o71)
          case o71 => decide
          have f_13 : h_12.2.1 x 8 = x_11 := ?o72
          case o72 =>
            rw [eh_12]
            exact hx_pi_at _ _ _ _
          refine lv_goto (tgt := 0) hx hb dX10_see_35 ?o73 ?_
          case o73 => decide
          refine ih0 x_11 _ _ hL1 h_12 ?o74 ?o75 (vi0_0.trans (hv_sn_i ?o76 ?o77 (hv_bl_t ax_5 ?o78) zx_11)) ?o79 ?o80 ls ?o81 hW hT hM f_13  (lv_sub hl [0] rfl)
          case o74 => omega
          case o75 => omega
          case o76 => omega
          case o77 => omega
          case o78 => omega
          case o79 => omega
          case o80 => omega
          case o81 => omega
  refine loop0 403 nx0 _ _ L h ?o82 ?o83 rfl ?o84 ?o85 ls ?o86 hW hT hM f_x_8  hl
  case o82 => omega
  case o83 => omega
  case o84 => omega
  case o85 => omega
  case o86 => omega


set_option maxHeartbeats 4000000 in
set_option maxRecDepth 100000 in
theorem t_X10_wordHere_v (l : Launch) (dC : Nat → ClassId) (dI : Nat → Nat → Nat) (dA : Nat → ClassId) (L : List Nat) (h : hx_h) (sz : Nat) (x : Nat) (hT : hx_T T_tb L h) (gx : hx_g L h x 10) (qt : Nat) (gqt : hx_g L h qt 53) (f_x_6 : h.2.2 x 6 = some qt) (qw : Nat) (gqw : hx_g L h qw 57) (f_x_19 : h.2.2 x 19 = some qw) (tf : Nat → Int32) (af_qt : h.2.1 qt = tf) (wf : Nat → Int32) (af_qw : h.2.1 qw = wf) (nx0 : Int32) (f_x_8 : h.2.1 x 8 = nx0) (tp0 : Int32) (f_x_7 : h.2.1 x 7 = tp0) (hwd : hx_wd wf) (hA : nx0.toInt ≤ tp0.toInt) : Met l yX10_wordHere (Cond.code yX10_wordHere cX10_wordHere 5 (some .int) :: hx_all) ({ frames := 1, cells := 0, slots := 0, locals := 20 }) (va_Pc [.ref x] (hx_B T_tb (P_ty dA) (dC, dI) vwCl L h sz)) (va_Qi (fun (r : Int32) (u : List Nat × hx_h) => (∃ (nx1 : Int32) (ws1 : Int32), u.2.2.1 x 8 = nx1 ∧ u.2.2.1 x 11 = ws1 ∧ (nx0.toInt ≤ nx1.toInt ∧ nx1.toInt ≤ tp0.toInt ∧ nx1.toInt = ((hv_sk tf tp0.toInt.toNat nx0.toInt.toNat : Nat) : Int) ∧ nx1.toInt + ws1.toInt = ((hv_we tf tp0.toInt.toNat (hv_sk tf tp0.toInt.toNat nx0.toInt.toNat) : Nat) : Int) ∧ r.toInt = hv_wd tf tp0.toInt.toNat (hv_sk tf tp0.toInt.toNat nx0.toInt.toNat) ∧ 0 ≤ ws1.toInt ∧ nx1.toInt + ws1.toInt ≤ tp0.toInt ∧ -1 ≤ r.toInt ∧ r.toInt ≤ 24)) ∧ hx_T T_tb u.1 u.2 ∧ hx_S T_tb [(10, 8), (10, 11)] L h u.1 u.2) (hx_E T_tb (P_ty dA) (dC, dI) vwCl (hx_A L sz)) (hx_A L sz)) 0 0 (hx_A L sz) := by
  refine hx_met (lv := [(0, .ref x)]) (by decide +kernel) rfl (Nat.le_of_ble_eq_true rfl) rfl ?_
  intro p e s m below meth c hx hb hml hr hlk hts0 hown hin hsz hW ls hl
  have hts : ∀ w ∈ hx_all, w.before _ s = true := fun w hw => hts0 w (List.mem_cons_of_mem _ hw)
  have hown : s.vm.findClass "SmallCourtModel" = some m.cls := hown
  have hM : hx_S T_tb [(10, 8), (10, 11)] L h L h := hx_S.rf
  have b_nx0 := hT.gi gx tt_10 (k := 8) rfl
  rw [f_x_8] at b_nx0
  have b_nx0 : 0 ≤ nx0.toInt ∧ nx0.toInt ≤ 402 := b_nx0
  have b_tp0 := hT.gi gx tt_10 (k := 7) rfl
  rw [f_x_7] at b_tp0
  have b_tp0 : 0 ≤ tp0.toInt ∧ tp0.toInt ≤ 400 := b_tp0
  refine lv_aload_n hx hb dX10_wordHere_0 rfl (lv_at hl 0 rfl) ?_
  refine hx_goi (hx_runV (As := []) (rest := []) ⟨hx, hb, hml, hown, hts⟩ hW (gx.S hM) tt_10 (T := TX10) (N := 98) rfl (t_X10_see_v l dC dI dA L h s.heap.size x hT (gx.S hM) qt (gqt.S hM) ((hM.o gx trivial rfl).2.trans f_x_6) tf (hx_afS hM gqt rfl af_qt) nx0 f_x_8 tp0 ((hM.o gx trivial rfl).1.trans f_x_7) ?o0) (cwV 0 hts (hx_gV kw_1468 kw_1465 kw_1467 kw_53 kw_103) rfl rfl rfl (by decide +kernel) ⟨Nat.le_of_ble_eq_true rfl, Nat.le_of_ble_eq_true rfl⟩) rfl hl.1 rfl (Nat.le_of_ble_eq_true rfl) dX10_wordHere_1 ⟨Nat.le_of_ble_eq_true rfl, Nat.le_of_ble_eq_true rfl⟩) hW (fun r_3 L_1 h_2 H locs p_4 hW => ?_)
  case o0 => omega
  obtain ⟨⟨w_6, fw_6, hr_5⟩, hT, hs⟩ := p_4
  replace hT : hx_T T_tb L_1 h_2 := hT
  replace hs : hx_S T_tb [(10, 8)] L h L_1 h_2 := hs
  replace hM := hM.tr (hs.mono ?o1)
  case o1 => decide
  have fw_6 : h_2.2.1 x 8 = w_6 := fw_6
  have bw_6 := hT.gi (gx.S hM) tt_10 (k := 8) rfl
  rw [fw_6] at bw_6
  have bw_6 : 0 ≤ w_6.toInt ∧ w_6.toInt ≤ 402 := bw_6
  have ek_7 : w_6.toInt.toNat = hv_sk tf tp0.toInt.toNat nx0.toInt.toNat := ?o2
  case o2 => omega
  have hr_5S := hr_5.2.2.2.1
  refine lv_pop hx hb dX10_wordHere_4 rfl ?_
  refine lv_aload_n hx hb dX10_wordHere_5 rfl (lv_at hl 0 rfl) ?_
  refine lv_iconst (v := 0) hx hb dX10_wordHere_6 ?o3 ?_
  case o3 => decide
  refine hx_puti hx hb hts hC_10 hown hW hT (hx_S.rf (M := [(10, 11)])) (gx.S hM) tt_10 11 ?o4 rfl kw_1154 ⟨rfl, rfl, rfl⟩ rfl (x := (0 : Int32)) ?o5 rfl rfl rfl (List.mem_singleton.mpr rfl) dX10_wordHere_7 (fun H locs h_8 eh_8 hW hT hs => ?_)
  case o4 => decide
  case o5 => decide
  replace fw_6 := (hs.o (gx.S hM) trivial rfl).1.trans fw_6
  replace hM := hM.tr (hs.mono ?o6)
  case o6 => decide
  have f_9 : h_8.2.1 x 11 = (0 : Int32) := ?o7
  case o7 =>
    rw [eh_8]
    exact hx_pi_at _ _ _ _
  have loop10 : ∀ (n10 : Nat) (fw10_x_11 : Int32) (H : Heap) (locs : List Loc) (hL1 : List Nat) (hl1 : hx_h), 0 ≤ fw10_x_11.toInt → fw10_x_11.toInt ≤ 400 → (hv_we tf tp0.toInt.toNat (w_6.toInt).toNat = hv_we tf tp0.toInt.toNat (w_6.toInt + fw10_x_11.toInt).toNat) → (w_6.toInt + fw10_x_11.toInt ≤ tp0.toInt) → ∀ (ls : Array Slot), 400 - fw10_x_11.toInt < (n10 : Int) → hx_W T_tb (P_ty dA) (dC, dI) vwCl (hx_A L sz) s.heap hL1 hl1 s H locs → hx_T T_tb hL1 hl1 → hx_S T_tb [(10, 8), (10, 11)] L h hL1 hl1 → hl1.2.1 x 11 = fw10_x_11 → hl1.2.1 x 8 = w_6 → lv_has ls 5 [(0, .ref x)] → W p l e ({ frames := 1, cells := 0, slots := 0, locals := 20 }) s m ([.ref x] : List Value).toArray below meth c H locs 0 0 (MQ below (va_Qi (fun (r : Int32) (u : List Nat × hx_h) => (∃ (nx1 : Int32) (ws1 : Int32), u.2.2.1 x 8 = nx1 ∧ u.2.2.1 x 11 = ws1 ∧ (nx0.toInt ≤ nx1.toInt ∧ nx1.toInt ≤ tp0.toInt ∧ nx1.toInt = ((hv_sk tf tp0.toInt.toNat nx0.toInt.toNat : Nat) : Int) ∧ nx1.toInt + ws1.toInt = ((hv_we tf tp0.toInt.toNat (hv_sk tf tp0.toInt.toNat nx0.toInt.toNat) : Nat) : Int) ∧ r.toInt = hv_wd tf tp0.toInt.toNat (hv_sk tf tp0.toInt.toNat nx0.toInt.toNat) ∧ 0 ≤ ws1.toInt ∧ nx1.toInt + ws1.toInt ≤ tp0.toInt ∧ -1 ≤ r.toInt ∧ r.toInt ≤ 24)) ∧ hx_T T_tb u.1 u.2 ∧ hx_S T_tb [(10, 8), (10, 11)] L h u.1 u.2) (hx_E T_tb (P_ty dA) (dC, dI) vwCl (hx_A L sz)) (hx_A L sz)) ([.ref x] : List Value).toArray s 0 0 (hx_A L sz)) (F0 m 10 ls []) := by
    intro n10
    induction n10 with
    | zero => intro fw10_x_11 H locs hL1 hl1 blfw10_x_11 bufw10_x_11 vi10_0 vi10_1 ls hn10; exfalso; omega
    | succ n10 ih10 =>
      intro fw10_x_11 H locs hL1 hl1 blfw10_x_11 bufw10_x_11 vi10_0 vi10_1 ls hn10 hW hT hM ffw10_x_11 fw_6  hl
      refine lv_aload_n hx hb dX10_wordHere_10 rfl (lv_at hl 0 rfl) ?_
      have join77 : ∀ (H : Heap) (locs : List Loc) (hL1 : List Nat) (hl1 : hx_h), (((hv_we tf tp0.toInt.toNat (w_6.toInt).toNat : Nat) : Int) = w_6.toInt + fw10_x_11.toInt) → ∀ (ls : Array Slot), hx_W T_tb (P_ty dA) (dC, dI) vwCl (hx_A L sz) s.heap hL1 hl1 s H locs → hx_T T_tb hL1 hl1 → hx_S T_tb [(10, 8), (10, 11)] L h hL1 hl1 → hl1.2.1 x 8 = w_6 → hl1.2.1 x 11 = fw10_x_11 → lv_has ls 5 [(0, .ref x)] → W p l e ({ frames := 1, cells := 0, slots := 0, locals := 20 }) s m ([.ref x] : List Value).toArray below meth c H locs 0 0 (MQ below (va_Qi (fun (r : Int32) (u : List Nat × hx_h) => (∃ (nx1 : Int32) (ws1 : Int32), u.2.2.1 x 8 = nx1 ∧ u.2.2.1 x 11 = ws1 ∧ (nx0.toInt ≤ nx1.toInt ∧ nx1.toInt ≤ tp0.toInt ∧ nx1.toInt = ((hv_sk tf tp0.toInt.toNat nx0.toInt.toNat : Nat) : Int) ∧ nx1.toInt + ws1.toInt = ((hv_we tf tp0.toInt.toNat (hv_sk tf tp0.toInt.toNat nx0.toInt.toNat) : Nat) : Int) ∧ r.toInt = hv_wd tf tp0.toInt.toNat (hv_sk tf tp0.toInt.toNat nx0.toInt.toNat) ∧ 0 ≤ ws1.toInt ∧ nx1.toInt + ws1.toInt ≤ tp0.toInt ∧ -1 ≤ r.toInt ∧ r.toInt ≤ 24)) ∧ hx_T T_tb u.1 u.2 ∧ hx_S T_tb [(10, 8), (10, 11)] L h u.1 u.2) (hx_E T_tb (P_ty dA) (dC, dI) vwCl (hx_A L sz)) (hx_A L sz)) ([.ref x] : List Value).toArray s 0 0 (hx_A L sz)) (F0 m 77 ls []) := by
        intro  H locs hL1 hl1  vj77_0 ls hW hT hM fw_6 ffw10_x_11  hl
        have hwn : hv_we tf tp0.toInt.toNat w_6.toInt.toNat - w_6.toInt.toNat = (fw10_x_11.toInt).toNat := ?o8
        case o8 =>
          have h9 := vj77_0
          omega
        refine lv_iconst (v := 0) hx hb dX10_wordHere_77 ?o9 ?_
        case o9 => decide
        refine lv_istore_n (lv' := [(1, .int (0 : Int32)), (0, .ref x)]) hx hb dX10_wordHere_78 rfl hl ?o10 rfl (fun ls hl => ?_)
        case o10 => decide
        have loop79 : ∀ (n79 : Nat) (iv79_1 : Int32) (H : Heap) (locs : List Loc) (hL1 : List Nat) (hl1 : hx_h), 0 ≤ iv79_1.toInt → iv79_1.toInt ≤ 25 → (∀ k : Nat, (k : Int) < iv79_1.toInt → hv_tx tf (w_6.toInt).toNat (fw10_x_11.toInt).toNat ≠ hv_wl.getD k []) → ∀ (ls : Array Slot), 25 - iv79_1.toInt < (n79 : Int) → hx_W T_tb (P_ty dA) (dC, dI) vwCl (hx_A L sz) s.heap hL1 hl1 s H locs → hx_T T_tb hL1 hl1 → hx_S T_tb [(10, 8), (10, 11)] L h hL1 hl1 → hl1.2.1 x 8 = w_6 → hl1.2.1 x 11 = fw10_x_11 → lv_has ls 5 [(1, .int iv79_1), (0, .ref x)] → W p l e ({ frames := 1, cells := 0, slots := 0, locals := 20 }) s m ([.ref x] : List Value).toArray below meth c H locs 0 0 (MQ below (va_Qi (fun (r : Int32) (u : List Nat × hx_h) => (∃ (nx1 : Int32) (ws1 : Int32), u.2.2.1 x 8 = nx1 ∧ u.2.2.1 x 11 = ws1 ∧ (nx0.toInt ≤ nx1.toInt ∧ nx1.toInt ≤ tp0.toInt ∧ nx1.toInt = ((hv_sk tf tp0.toInt.toNat nx0.toInt.toNat : Nat) : Int) ∧ nx1.toInt + ws1.toInt = ((hv_we tf tp0.toInt.toNat (hv_sk tf tp0.toInt.toNat nx0.toInt.toNat) : Nat) : Int) ∧ r.toInt = hv_wd tf tp0.toInt.toNat (hv_sk tf tp0.toInt.toNat nx0.toInt.toNat) ∧ 0 ≤ ws1.toInt ∧ nx1.toInt + ws1.toInt ≤ tp0.toInt ∧ -1 ≤ r.toInt ∧ r.toInt ≤ 24)) ∧ hx_T T_tb u.1 u.2 ∧ hx_S T_tb [(10, 8), (10, 11)] L h u.1 u.2) (hx_E T_tb (P_ty dA) (dC, dI) vwCl (hx_A L sz)) (hx_A L sz)) ([.ref x] : List Value).toArray s 0 0 (hx_A L sz)) (F0 m 79 ls []) := by
          intro n79
          induction n79 with
          | zero => intro iv79_1 H locs hL1 hl1 bliv79_1 buiv79_1 vi79_0 ls hn79; exfalso; omega
          | succ n79 ih79 =>
            intro iv79_1 H locs hL1 hl1 bliv79_1 buiv79_1 vi79_0 ls hn79 hW hT hM fw_6 ffw10_x_11  hl
            refine lv_iload_n hx hb dX10_wordHere_79 rfl (lv_at hl 0 rfl) ?_
            refine lv_bipush (v := 25) hx hb dX10_wordHere_80 ?o11 ?_
            case o11 => decide
            refine hb_icmp_ge (zx := iv79_1.toInt) (zy := 25) (tgt := 200) hx hb rfl ?o12 dX10_wordHere_82 ?o13 (fun c_10 => ?_) (fun c_10 => ?_)
            case o12 => decide
            case o13 => decide
            · skip
              refine lv_iconst (v := -1) hx hb dX10_wordHere_200 ?o14 ?_
              case o14 => decide
              exact hx_reti hx hb hr hlk hW ⟨⟨w_6, fw10_x_11, fw_6, ffw10_x_11, ⟨by omega, by omega, by omega, (by rw [← ek_7]; omega), (by rw [← ek_7]; rw [hv_wd_o hwn (by first | exact Or.inr (by omega) | exact Or.inl (fun k hk => vi79_0 k (by omega)))]; decide), by omega, by omega, by decide, by decide⟩⟩, hT, hM⟩ dX10_wordHere_201
            · skip
              refine lv_aload_n hx hb dX10_wordHere_85 rfl (lv_at hl 1 rfl) ?_
              refine hk_geti hx hb hts hC_10 hown hW (gx.S hM) tt_10 11 ?o15 rfl kw_1154 ⟨rfl, rfl, rfl⟩ ffw10_x_11 dX10_wordHere_86 ?_
              case o15 => decide
              refine lv_bipush (v := 7) hx hb dX10_wordHere_89 ?o16 ?_
              case o16 => decide
              refine hb_icmp_gt (zx := fw10_x_11.toInt) (zy := 7) (tgt := 200) hx hb rfl ?o17 dX10_wordHere_91 ?o18 (fun c_11 => ?_) (fun c_11 => ?_)
              case o17 => decide
              case o18 => decide
              · skip
                refine lv_iconst (v := -1) hx hb dX10_wordHere_200 ?o19 ?_
                case o19 => decide
                exact hx_reti hx hb hr hlk hW ⟨⟨w_6, fw10_x_11, fw_6, ffw10_x_11, ⟨by omega, by omega, by omega, (by rw [← ek_7]; omega), (by rw [← ek_7]; rw [hv_wd_o hwn (by first | exact Or.inr (by omega) | exact Or.inl (fun k hk => vi79_0 k (by omega)))]; decide), by omega, by omega, by decide, by decide⟩⟩, hT, hM⟩ dX10_wordHere_201
              · skip
                refine lv_iconst (v := 0) hx hb dX10_wordHere_94 ?o20 ?_
                case o20 => decide
                refine lv_istore_n (lv' := [(2, .int (0 : Int32)), (1, .int iv79_1), (0, .ref x)]) hx hb dX10_wordHere_95 rfl hl ?o21 rfl (fun ls hl => ?_)
                case o21 => decide
                have loop96 : ∀ (n96 : Nat) (iv96_2 : Int32) (H : Heap) (locs : List Loc) (hL1 : List Nat) (hl1 : hx_h), 0 ≤ iv96_2.toInt → iv96_2.toInt ≤ 7 → (hx_wp wf iv79_1.toInt iv96_2.toInt) → ∀ (ls : Array Slot), 7 - iv96_2.toInt < (n96 : Int) → hx_W T_tb (P_ty dA) (dC, dI) vwCl (hx_A L sz) s.heap hL1 hl1 s H locs → hx_T T_tb hL1 hl1 → hx_S T_tb [(10, 8), (10, 11)] L h hL1 hl1 → hl1.2.1 x 8 = w_6 → hl1.2.1 x 11 = fw10_x_11 → lv_has ls 5 [(2, .int iv96_2), (1, .int iv79_1), (0, .ref x)] → W p l e ({ frames := 1, cells := 0, slots := 0, locals := 20 }) s m ([.ref x] : List Value).toArray below meth c H locs 0 0 (MQ below (va_Qi (fun (r : Int32) (u : List Nat × hx_h) => (∃ (nx1 : Int32) (ws1 : Int32), u.2.2.1 x 8 = nx1 ∧ u.2.2.1 x 11 = ws1 ∧ (nx0.toInt ≤ nx1.toInt ∧ nx1.toInt ≤ tp0.toInt ∧ nx1.toInt = ((hv_sk tf tp0.toInt.toNat nx0.toInt.toNat : Nat) : Int) ∧ nx1.toInt + ws1.toInt = ((hv_we tf tp0.toInt.toNat (hv_sk tf tp0.toInt.toNat nx0.toInt.toNat) : Nat) : Int) ∧ r.toInt = hv_wd tf tp0.toInt.toNat (hv_sk tf tp0.toInt.toNat nx0.toInt.toNat) ∧ 0 ≤ ws1.toInt ∧ nx1.toInt + ws1.toInt ≤ tp0.toInt ∧ -1 ≤ r.toInt ∧ r.toInt ≤ 24)) ∧ hx_T T_tb u.1 u.2 ∧ hx_S T_tb [(10, 8), (10, 11)] L h u.1 u.2) (hx_E T_tb (P_ty dA) (dC, dI) vwCl (hx_A L sz)) (hx_A L sz)) ([.ref x] : List Value).toArray s 0 0 (hx_A L sz)) (F0 m 96 ls []) := by
                  intro n96
                  induction n96 with
                  | zero => intro iv96_2 H locs hL1 hl1 bliv96_2 buiv96_2 vi96_0 ls hn96; exfalso; omega
                  | succ n96 ih96 =>
                    intro iv96_2 H locs hL1 hl1 bliv96_2 buiv96_2 vi96_0 ls hn96 hW hT hM fw_6 ffw10_x_11  hl
                    refine lv_iload_n hx hb dX10_wordHere_96 rfl (lv_at hl 0 rfl) ?_
                    have join122 : ∀ (H : Heap) (locs : List Loc) (hL1 : List Nat) (hl1 : hx_h), (iv96_2.toInt = ((hv_wl.getD (iv79_1.toInt).toNat []).length : Nat)) → ∀ (ls : Array Slot), hx_W T_tb (P_ty dA) (dC, dI) vwCl (hx_A L sz) s.heap hL1 hl1 s H locs → hx_T T_tb hL1 hl1 → hx_S T_tb [(10, 8), (10, 11)] L h hL1 hl1 → hl1.2.1 x 8 = w_6 → hl1.2.1 x 11 = fw10_x_11 → lv_has ls 5 [(2, .int iv96_2), (1, .int iv79_1), (0, .ref x)] → W p l e ({ frames := 1, cells := 0, slots := 0, locals := 20 }) s m ([.ref x] : List Value).toArray below meth c H locs 0 0 (MQ below (va_Qi (fun (r : Int32) (u : List Nat × hx_h) => (∃ (nx1 : Int32) (ws1 : Int32), u.2.2.1 x 8 = nx1 ∧ u.2.2.1 x 11 = ws1 ∧ (nx0.toInt ≤ nx1.toInt ∧ nx1.toInt ≤ tp0.toInt ∧ nx1.toInt = ((hv_sk tf tp0.toInt.toNat nx0.toInt.toNat : Nat) : Int) ∧ nx1.toInt + ws1.toInt = ((hv_we tf tp0.toInt.toNat (hv_sk tf tp0.toInt.toNat nx0.toInt.toNat) : Nat) : Int) ∧ r.toInt = hv_wd tf tp0.toInt.toNat (hv_sk tf tp0.toInt.toNat nx0.toInt.toNat) ∧ 0 ≤ ws1.toInt ∧ nx1.toInt + ws1.toInt ≤ tp0.toInt ∧ -1 ≤ r.toInt ∧ r.toInt ≤ 24)) ∧ hx_T T_tb u.1 u.2 ∧ hx_S T_tb [(10, 8), (10, 11)] L h u.1 u.2) (hx_E T_tb (P_ty dA) (dC, dI) vwCl (hx_A L sz)) (hx_A L sz)) ([.ref x] : List Value).toArray s 0 0 (hx_A L sz)) (F0 m 122 ls []) := by
                      intro  H locs hL1 hl1  vj122_0 ls hW hT hM fw_6 ffw10_x_11  hl
                      have hwl := vj122_0
                      refine lv_iload_n hx hb dX10_wordHere_122 rfl (lv_at hl 0 rfl) ?_
                      refine lv_aload_n hx hb dX10_wordHere_123 rfl (lv_at hl 2 rfl) ?_
                      refine hk_geti hx hb hts hC_10 hown hW (gx.S hM) tt_10 11 ?o22 rfl kw_1154 ⟨rfl, rfl, rfl⟩ ffw10_x_11 dX10_wordHere_124 ?_
                      case o22 => decide
                      refine hb_icmp_ne (zx := iv96_2.toInt) (zy := fw10_x_11.toInt) (tgt := 134) hx hb rfl rfl dX10_wordHere_127 ?o23 (fun c_12 => ?_) (fun c_12 => ?_)
                      case o23 => decide
                      · skip
                        refine lv_iconst (v := 0) hx hb dX10_wordHere_134 ?o24 ?_
                        case o24 => decide
                        refine lv_istore_n (lv' := [(3, .int (0 : Int32)), (2, .int iv96_2), (1, .int iv79_1), (0, .ref x)]) hx hb dX10_wordHere_135 rfl hl ?o25 rfl (fun ls hl => ?_)
                        case o25 => decide
                        refine lv_iconst (v := 0) hx hb dX10_wordHere_136 ?o26 ?_
                        case o26 => decide
                        refine lv_istore (lv' := [(4, .int (0 : Int32)), (3, .int (0 : Int32)), (2, .int iv96_2), (1, .int iv79_1), (0, .ref x)]) hx hb dX10_wordHere_137 hl ?o27 rfl (fun ls hl => ?_)
                        case o27 => decide
                        have loop139 : ∀ (n139 : Nat) (iv139_3 iv139_4 : Int32) (H : Heap) (locs : List Loc) (hL1 : List Nat) (hl1 : hx_h), 0 ≤ iv139_3.toInt → iv139_3.toInt ≤ 1 → 0 ≤ iv139_4.toInt → iv139_4.toInt ≤ 7 → (hv_SM tf wf w_6.toInt fw10_x_11.toInt iv79_1.toInt iv96_2.toInt iv139_4.toInt iv139_3.toInt) → ∀ (ls : Array Slot), 7 - iv139_4.toInt < (n139 : Int) → hx_W T_tb (P_ty dA) (dC, dI) vwCl (hx_A L sz) s.heap hL1 hl1 s H locs → hx_T T_tb hL1 hl1 → hx_S T_tb [(10, 8), (10, 11)] L h hL1 hl1 → hl1.2.1 x 8 = w_6 → hl1.2.1 x 11 = fw10_x_11 → lv_has ls 5 [(4, .int iv139_4), (3, .int iv139_3), (2, .int iv96_2), (1, .int iv79_1), (0, .ref x)] → W p l e ({ frames := 1, cells := 0, slots := 0, locals := 20 }) s m ([.ref x] : List Value).toArray below meth c H locs 0 0 (MQ below (va_Qi (fun (r : Int32) (u : List Nat × hx_h) => (∃ (nx1 : Int32) (ws1 : Int32), u.2.2.1 x 8 = nx1 ∧ u.2.2.1 x 11 = ws1 ∧ (nx0.toInt ≤ nx1.toInt ∧ nx1.toInt ≤ tp0.toInt ∧ nx1.toInt = ((hv_sk tf tp0.toInt.toNat nx0.toInt.toNat : Nat) : Int) ∧ nx1.toInt + ws1.toInt = ((hv_we tf tp0.toInt.toNat (hv_sk tf tp0.toInt.toNat nx0.toInt.toNat) : Nat) : Int) ∧ r.toInt = hv_wd tf tp0.toInt.toNat (hv_sk tf tp0.toInt.toNat nx0.toInt.toNat) ∧ 0 ≤ ws1.toInt ∧ nx1.toInt + ws1.toInt ≤ tp0.toInt ∧ -1 ≤ r.toInt ∧ r.toInt ≤ 24)) ∧ hx_T T_tb u.1 u.2 ∧ hx_S T_tb [(10, 8), (10, 11)] L h u.1 u.2) (hx_E T_tb (P_ty dA) (dC, dI) vwCl (hx_A L sz)) (hx_A L sz)) ([.ref x] : List Value).toArray s 0 0 (hx_A L sz)) (F0 m 139 ls []) := by
                          intro n139
                          induction n139 with
                          | zero => intro iv139_3 iv139_4 H locs hL1 hl1 bliv139_3 buiv139_3 bliv139_4 buiv139_4 vi139_0 ls hn139; exfalso; omega
                          | succ n139 ih139 =>
                            intro iv139_3 iv139_4 H locs hL1 hl1 bliv139_3 buiv139_3 bliv139_4 buiv139_4 vi139_0 ls hn139 hW hT hM fw_6 ffw10_x_11  hl
                            refine lv_iload_n hx hb dX10_wordHere_139 rfl (lv_at hl 1 rfl) ?_
                            refine hb_if_eq (zx := iv139_3.toInt) (tgt := 188) hx hb rfl dX10_wordHere_140 ?o28 (fun c_13 => ?_) (fun c_13 => ?_)
                            case o28 => decide
                            · skip
                              refine lv_iload_n hx hb dX10_wordHere_188 rfl (lv_at hl 1 rfl) ?_
                              refine hb_if_eq (zx := iv139_3.toInt) (tgt := 194) hx hb rfl dX10_wordHere_189 ?o29 (fun c_14 => ?_) (fun c_14 => ?o30)
                              case o29 => decide
                              case o30 =>
                                exfalso
                                omega
                              obtain ⟨x_15, ex_15⟩ : ∃ y : Int32, y = iv79_1 + Int32.ofInt 1 := ⟨_, rfl⟩
                              have rg_16 := i32_r iv79_1
                              have zx_15 : x_15.toInt = iv79_1.toInt + (1) := ?o31
                              case o31 =>
                                rw [ex_15]
                                refine i32_add rfl ?o32 ?o33 ?o34
                                case o32 => decide
                                case o33 => omega
                                case o34 => omega
                              refine lv_iinc (v := x_15) (lv' := [(1, .int x_15), (4, .int iv139_4), (3, .int iv139_3), (2, .int iv96_2), (0, .ref x)]) hx hb dX10_wordHere_194 hl (k := 3) rfl ex_15.symm ?o35 rfl (fun ls hl => ?_)
                              case o35 => decide
                              refine lv_goto (tgt := 79) hx hb dX10_wordHere_197 ?o36 ?_
                              case o36 => decide
                              refine ih79 x_15 _ _ hL1 hl1 ?o37 ?o38 (hv_wd_s vi79_0 ?o39 (hv_SM_n vi139_0 ?o40) zx_15) ls ?o41 hW hT hM fw_6 ffw10_x_11  (lv_sub hl [0, 4] rfl)
                              case o37 => omega
                              case o38 => omega
                              case o39 => omega
                              case o40 => omega
                              case o41 => omega
                            · skip
                              have hSM9 := hv_SM_w vi139_0 ?o42
                              case o42 => omega
                              refine lv_iload hx hb dX10_wordHere_143 (lv_at hl 0 rfl) ?_
                              refine lv_iload_n hx hb dX10_wordHere_145 rfl (lv_at hl 2 rfl) ?_
                              refine hb_icmp_ge (zx := iv139_4.toInt) (zy := iv96_2.toInt) (tgt := 188) hx hb rfl rfl dX10_wordHere_146 ?o43 (fun c_17 => ?_) (fun c_17 => ?_)
                              case o43 => decide
                              · skip
                                refine lv_iload_n hx hb dX10_wordHere_188 rfl (lv_at hl 1 rfl) ?_
                                refine hb_if_eq (zx := iv139_3.toInt) (tgt := 194) hx hb rfl dX10_wordHere_189 ?o44 (fun c_18 => ?o45) (fun c_18 => ?_)
                                case o44 => decide
                                case o45 =>
                                  exfalso
                                  omega
                                refine lv_iload_n hx hb dX10_wordHere_192 rfl (lv_at hl 3 rfl) ?_
                                refine hx_reti hx hb hr hlk hW ⟨⟨w_6, fw10_x_11, fw_6, ffw10_x_11, ⟨?o46, ?o47, ?o48, (by rw [← ek_7]; omega), (by rw [← ek_7]; exact hv_wd_i hwn (by omega) (by omega) (hv_SM_e hwd (by omega) (by omega) hwl vi139_0 (by omega) (by omega))), ?o49, ?o50, ?o51, ?o52⟩⟩, hT, hM⟩ dX10_wordHere_193
                                case o46 => omega
                                case o47 => omega
                                case o48 => omega
                                case o49 => omega
                                case o50 => omega
                                case o51 => omega
                                case o52 => omega
                              · skip
                                refine lv_aload_n hx hb dX10_wordHere_149 rfl (lv_at hl 4 rfl) ?_
                                refine hk_getr hx hb hts hC_10 hown hW (gx.S hM) tt_10 19 ?o53 rfl kw_1162 ⟨rfl, rfl, rfl⟩ ((hM.o gx trivial rfl).2.trans f_x_19) dX10_wordHere_150 ?_
                                case o53 => decide
                                refine lv_bipush (v := 7) hx hb dX10_wordHere_153 ?o54 ?_
                                case o54 => decide
                                refine lv_iload_n hx hb dX10_wordHere_155 rfl (lv_at hl 3 rfl) ?_
                                refine lv_imul hx hb dX10_wordHere_156 ?_
                                refine lv_topi (fun x_19 ex_19 => ?_)
                                have zx_19 : x_19.toInt = 7 * iv79_1.toInt := ?o55
                                case o55 =>
                                  rw [ex_19]
                                  refine i32_mul ?o56 rfl rfl ?o57 ?o58
                                  case o56 => decide
                                  case o57 => omega
                                  case o58 => omega
                                refine lv_iload hx hb dX10_wordHere_157 (lv_at hl 0 rfl) ?_
                                refine lv_iadd hx hb dX10_wordHere_159 ?_
                                have rg_20 := i32_r x_19
                                have rg_21 := i32_r iv139_4
                                refine lv_topi (fun x_22 ex_22 => ?_)
                                have zx_22 : x_22.toInt = x_19.toInt + iv139_4.toInt := ?o59
                                case o59 =>
                                  rw [ex_22]
                                  refine i32_add rfl rfl ?o60 ?o61
                                  case o60 => omega
                                  case o61 => omega
                                refine hx_bald hx hb hW hT (gqw.S hM) tt_57 rfl ⟨?o62, ?o63⟩ dX10_wordHere_160 (fun x_23 ex_23 lx_23 ux_23 => ?_)
                                case o62 => omega
                                case o63 => omega
                                have ax_23 : x_23 = wf x_22.toNatClampNeg := ex_23.trans (congrFun (hx_afS hM gqw rfl af_qw) _)
                                refine lv_aload_n hx hb dX10_wordHere_161 rfl (lv_at hl 4 rfl) ?_
                                refine hk_getr hx hb hts hC_10 hown hW (gx.S hM) tt_10 6 ?o64 rfl kw_1149 ⟨rfl, rfl, rfl⟩ ((hM.o gx trivial rfl).2.trans f_x_6) dX10_wordHere_162 ?_
                                case o64 => decide
                                refine lv_aload_n hx hb dX10_wordHere_165 rfl (lv_at hl 4 rfl) ?_
                                refine hk_geti hx hb hts hC_10 hown hW (gx.S hM) tt_10 8 ?o65 rfl kw_1151 ⟨rfl, rfl, rfl⟩ fw_6 dX10_wordHere_166 ?_
                                case o65 => decide
                                refine lv_iload hx hb dX10_wordHere_169 (lv_at hl 0 rfl) ?_
                                refine lv_iadd hx hb dX10_wordHere_171 ?_
                                have rg_24 := i32_r w_6
                                refine lv_topi (fun x_25 ex_25 => ?_)
                                have zx_25 : x_25.toInt = w_6.toInt + iv139_4.toInt := ?o66
                                case o66 =>
                                  rw [ex_25]
                                  refine i32_add rfl rfl ?o67 ?o68
                                  case o67 => omega
                                  case o68 => omega
                                refine hx_bald hx hb hW hT (gqt.S hM) tt_53 rfl ⟨?o69, ?o70⟩ dX10_wordHere_172 (fun x_26 ex_26 lx_26 ux_26 => ?_)
                                case o69 => omega
                                case o70 => omega
                                have ax_26 : x_26 = tf x_25.toNatClampNeg := ex_26.trans (congrFun (hx_afS hM gqt rfl af_qt) _)
                                refine hb_icmp_ne (zx := x_23.toInt) (zy := x_26.toInt) (tgt := 180) hx hb rfl rfl dX10_wordHere_173 ?o71 (fun c_27 => ?_) (fun c_27 => ?_)
                                case o71 => decide
                                · skip
                                  refine lv_iconst (v := 0) hx hb dX10_wordHere_180 ?o72 ?_
                                  case o72 => decide
                                  refine lv_istore_n (lv' := [(3, .int (0 : Int32)), (4, .int iv139_4), (2, .int iv96_2), (1, .int iv79_1), (0, .ref x)]) hx hb dX10_wordHere_181 rfl hl ?o73 rfl (fun ls hl => ?_)
                                  case o73 => decide
                                  obtain ⟨x_28, ex_28⟩ : ∃ y : Int32, y = iv139_4 + Int32.ofInt 1 := ⟨_, rfl⟩
                                  have zx_28 : x_28.toInt = iv139_4.toInt + (1) := ?o74
                                  case o74 =>
                                    rw [ex_28]
                                    refine i32_add rfl ?o75 ?o76 ?o77
                                    case o75 => decide
                                    case o76 => omega
                                    case o77 => omega
                                  refine lv_iinc (v := x_28) (lv' := [(4, .int x_28), (3, .int (0 : Int32)), (2, .int iv96_2), (1, .int iv79_1), (0, .ref x)]) hx hb dX10_wordHere_182 hl (k := 1) rfl ex_28.symm ?o78 rfl (fun ls hl => ?_)
                                  case o78 => decide
                                  refine lv_goto (tgt := 139) hx hb dX10_wordHere_185 ?o79 ?_
                                  case o79 => decide
                                  have zk_0 : (0 : Int32).toInt = 0 := ?o80
                                  case o80 => decide
                                  refine ih139 (0 : Int32) x_28 _ _ hL1 hl1 ?o81 ?o82 ?o83 ?o84 (hv_SM_x hwd ?o85 ?o86 hwl (by have h9 := vi139_0; rw [show iv139_3.toInt = 1 by omega] at h9; exact h9) ?o87 ?o88 (by rw [show 7 * iv79_1.toInt.toNat + iv139_4.toInt.toNat = x_22.toNatClampNeg by unfold Int32.toNatClampNeg; omega, show w_6.toInt.toNat + iv139_4.toInt.toNat = x_25.toNatClampNeg by unfold Int32.toNatClampNeg; omega, ← ax_23, ← ax_26]; omega) ?o89) ls ?o90 hW hT hM fw_6 ffw10_x_11  (lv_sub hl [0, 1, 2, 3, 4] rfl)
                                  case o81 => decide
                                  case o82 => decide
                                  case o83 => omega
                                  case o84 => omega
                                  case o85 => omega
                                  case o86 => omega
                                  case o87 => omega
                                  case o88 => omega
                                  case o89 => decide
                                  case o90 => omega
                                · skip
                                  refine lv_iconst (v := 1) hx hb dX10_wordHere_176 ?o91 ?_
                                  case o91 => decide
                                  refine lv_goto (tgt := 181) hx hb dX10_wordHere_177 ?o92 ?_
                                  case o92 => decide
                                  refine lv_istore_n (lv' := [(3, .int (1 : Int32)), (4, .int iv139_4), (2, .int iv96_2), (1, .int iv79_1), (0, .ref x)]) hx hb dX10_wordHere_181 rfl hl ?o93 rfl (fun ls hl => ?_)
                                  case o93 => decide
                                  obtain ⟨x_29, ex_29⟩ : ∃ y : Int32, y = iv139_4 + Int32.ofInt 1 := ⟨_, rfl⟩
                                  have zx_29 : x_29.toInt = iv139_4.toInt + (1) := ?o94
                                  case o94 =>
                                    rw [ex_29]
                                    refine i32_add rfl ?o95 ?o96 ?o97
                                    case o95 => decide
                                    case o96 => omega
                                    case o97 => omega
                                  refine lv_iinc (v := x_29) (lv' := [(4, .int x_29), (3, .int (1 : Int32)), (2, .int iv96_2), (1, .int iv79_1), (0, .ref x)]) hx hb dX10_wordHere_182 hl (k := 1) rfl ex_29.symm ?o98 rfl (fun ls hl => ?_)
                                  case o98 => decide
                                  refine lv_goto (tgt := 139) hx hb dX10_wordHere_185 ?o99 ?_
                                  case o99 => decide
                                  have zk_1 : (1 : Int32).toInt = 1 := ?o100
                                  case o100 => decide
                                  refine ih139 (1 : Int32) x_29 _ _ hL1 hl1 ?o101 ?o102 ?o103 ?o104 (hv_SM_s (by have h9 := vi139_0; rw [show iv139_3.toInt = 1 by omega] at h9; exact h9) ?o105 (by rw [show 7 * iv79_1.toInt.toNat + iv139_4.toInt.toNat = x_22.toNatClampNeg by unfold Int32.toNatClampNeg; omega, show w_6.toInt.toNat + iv139_4.toInt.toNat = x_25.toNatClampNeg by unfold Int32.toNatClampNeg; omega, ← ax_23, ← ax_26]; omega) zx_29 ?o106) ls ?o107 hW hT hM fw_6 ffw10_x_11  (lv_sub hl [0, 1, 2, 3, 4] rfl)
                                  case o101 => decide
                                  case o102 => decide
                                  case o103 => omega
                                  case o104 => omega
                                  case o105 => omega
                                  case o106 => decide
                                  case o107 => omega
                        have zk_0 : (0 : Int32).toInt = 0 := ?o108
                        case o108 => decide
                        have zk_0 : (0 : Int32).toInt = 0 := ?o109
                        case o109 => decide
                        refine loop139 8 (0 : Int32) (0 : Int32) _ _ hL1 hl1 ?o110 ?o111 ?o112 ?o113 (hv_SM_l hwl ?o114 ?o115 ?o116) ls ?o117 hW hT hM fw_6 ffw10_x_11  hl
                        case o110 => decide
                        case o111 => decide
                        case o112 => decide
                        case o113 => decide
                        case o114 => omega
                        case o115 => omega
                        case o116 => decide
                        case o117 => omega
                      · skip
                        refine lv_iconst (v := 1) hx hb dX10_wordHere_130 ?o118 ?_
                        case o118 => decide
                        refine lv_goto (tgt := 135) hx hb dX10_wordHere_131 ?o119 ?_
                        case o119 => decide
                        refine lv_istore_n (lv' := [(3, .int (1 : Int32)), (2, .int iv96_2), (1, .int iv79_1), (0, .ref x)]) hx hb dX10_wordHere_135 rfl hl ?o120 rfl (fun ls hl => ?_)
                        case o120 => decide
                        refine lv_iconst (v := 0) hx hb dX10_wordHere_136 ?o121 ?_
                        case o121 => decide
                        refine lv_istore (lv' := [(4, .int (0 : Int32)), (3, .int (1 : Int32)), (2, .int iv96_2), (1, .int iv79_1), (0, .ref x)]) hx hb dX10_wordHere_137 hl ?o122 rfl (fun ls hl => ?_)
                        case o122 => decide
                        have loop139 : ∀ (n139 : Nat) (iv139_3 iv139_4 : Int32) (H : Heap) (locs : List Loc) (hL1 : List Nat) (hl1 : hx_h), 0 ≤ iv139_3.toInt → iv139_3.toInt ≤ 1 → 0 ≤ iv139_4.toInt → iv139_4.toInt ≤ 7 → (hv_SM tf wf w_6.toInt fw10_x_11.toInt iv79_1.toInt iv96_2.toInt iv139_4.toInt iv139_3.toInt) → ∀ (ls : Array Slot), 7 - iv139_4.toInt < (n139 : Int) → hx_W T_tb (P_ty dA) (dC, dI) vwCl (hx_A L sz) s.heap hL1 hl1 s H locs → hx_T T_tb hL1 hl1 → hx_S T_tb [(10, 8), (10, 11)] L h hL1 hl1 → hl1.2.1 x 8 = w_6 → hl1.2.1 x 11 = fw10_x_11 → lv_has ls 5 [(4, .int iv139_4), (3, .int iv139_3), (2, .int iv96_2), (1, .int iv79_1), (0, .ref x)] → W p l e ({ frames := 1, cells := 0, slots := 0, locals := 20 }) s m ([.ref x] : List Value).toArray below meth c H locs 0 0 (MQ below (va_Qi (fun (r : Int32) (u : List Nat × hx_h) => (∃ (nx1 : Int32) (ws1 : Int32), u.2.2.1 x 8 = nx1 ∧ u.2.2.1 x 11 = ws1 ∧ (nx0.toInt ≤ nx1.toInt ∧ nx1.toInt ≤ tp0.toInt ∧ nx1.toInt = ((hv_sk tf tp0.toInt.toNat nx0.toInt.toNat : Nat) : Int) ∧ nx1.toInt + ws1.toInt = ((hv_we tf tp0.toInt.toNat (hv_sk tf tp0.toInt.toNat nx0.toInt.toNat) : Nat) : Int) ∧ r.toInt = hv_wd tf tp0.toInt.toNat (hv_sk tf tp0.toInt.toNat nx0.toInt.toNat) ∧ 0 ≤ ws1.toInt ∧ nx1.toInt + ws1.toInt ≤ tp0.toInt ∧ -1 ≤ r.toInt ∧ r.toInt ≤ 24)) ∧ hx_T T_tb u.1 u.2 ∧ hx_S T_tb [(10, 8), (10, 11)] L h u.1 u.2) (hx_E T_tb (P_ty dA) (dC, dI) vwCl (hx_A L sz)) (hx_A L sz)) ([.ref x] : List Value).toArray s 0 0 (hx_A L sz)) (F0 m 139 ls []) := by
                          intro n139
                          induction n139 with
                          | zero => intro iv139_3 iv139_4 H locs hL1 hl1 bliv139_3 buiv139_3 bliv139_4 buiv139_4 vi139_0 ls hn139; exfalso; omega
                          | succ n139 ih139 =>
                            intro iv139_3 iv139_4 H locs hL1 hl1 bliv139_3 buiv139_3 bliv139_4 buiv139_4 vi139_0 ls hn139 hW hT hM fw_6 ffw10_x_11  hl
                            refine lv_iload_n hx hb dX10_wordHere_139 rfl (lv_at hl 1 rfl) ?_
                            refine hb_if_eq (zx := iv139_3.toInt) (tgt := 188) hx hb rfl dX10_wordHere_140 ?o123 (fun c_30 => ?_) (fun c_30 => ?_)
                            case o123 => decide
                            · skip
                              refine lv_iload_n hx hb dX10_wordHere_188 rfl (lv_at hl 1 rfl) ?_
                              refine hb_if_eq (zx := iv139_3.toInt) (tgt := 194) hx hb rfl dX10_wordHere_189 ?o124 (fun c_31 => ?_) (fun c_31 => ?o125)
                              case o124 => decide
                              case o125 =>
                                exfalso
                                omega
                              obtain ⟨x_32, ex_32⟩ : ∃ y : Int32, y = iv79_1 + Int32.ofInt 1 := ⟨_, rfl⟩
                              have rg_33 := i32_r iv79_1
                              have zx_32 : x_32.toInt = iv79_1.toInt + (1) := ?o126
                              case o126 =>
                                rw [ex_32]
                                refine i32_add rfl ?o127 ?o128 ?o129
                                case o127 => decide
                                case o128 => omega
                                case o129 => omega
                              refine lv_iinc (v := x_32) (lv' := [(1, .int x_32), (4, .int iv139_4), (3, .int iv139_3), (2, .int iv96_2), (0, .ref x)]) hx hb dX10_wordHere_194 hl (k := 3) rfl ex_32.symm ?o130 rfl (fun ls hl => ?_)
                              case o130 => decide
                              refine lv_goto (tgt := 79) hx hb dX10_wordHere_197 ?o131 ?_
                              case o131 => decide
                              refine ih79 x_32 _ _ hL1 hl1 ?o132 ?o133 (hv_wd_s vi79_0 ?o134 (hv_SM_n vi139_0 ?o135) zx_32) ls ?o136 hW hT hM fw_6 ffw10_x_11  (lv_sub hl [0, 4] rfl)
                              case o132 => omega
                              case o133 => omega
                              case o134 => omega
                              case o135 => omega
                              case o136 => omega
                            · skip
                              have hSM9 := hv_SM_w vi139_0 ?o137
                              case o137 => omega
                              refine lv_iload hx hb dX10_wordHere_143 (lv_at hl 0 rfl) ?_
                              refine lv_iload_n hx hb dX10_wordHere_145 rfl (lv_at hl 2 rfl) ?_
                              refine hb_icmp_ge (zx := iv139_4.toInt) (zy := iv96_2.toInt) (tgt := 188) hx hb rfl rfl dX10_wordHere_146 ?o138 (fun c_34 => ?_) (fun c_34 => ?_)
                              case o138 => decide
                              · skip
                                refine lv_iload_n hx hb dX10_wordHere_188 rfl (lv_at hl 1 rfl) ?_
                                refine hb_if_eq (zx := iv139_3.toInt) (tgt := 194) hx hb rfl dX10_wordHere_189 ?o139 (fun c_35 => ?o140) (fun c_35 => ?_)
                                case o139 => decide
                                case o140 =>
                                  exfalso
                                  omega
                                refine lv_iload_n hx hb dX10_wordHere_192 rfl (lv_at hl 3 rfl) ?_
                                refine hx_reti hx hb hr hlk hW ⟨⟨w_6, fw10_x_11, fw_6, ffw10_x_11, ⟨?o141, ?o142, ?o143, (by rw [← ek_7]; omega), (by rw [← ek_7]; exact hv_wd_i hwn (by omega) (by omega) (hv_SM_e hwd (by omega) (by omega) hwl vi139_0 (by omega) (by omega))), ?o144, ?o145, ?o146, ?o147⟩⟩, hT, hM⟩ dX10_wordHere_193
                                case o141 => omega
                                case o142 => omega
                                case o143 => omega
                                case o144 => omega
                                case o145 => omega
                                case o146 => omega
                                case o147 => omega
                              · skip
                                refine lv_aload_n hx hb dX10_wordHere_149 rfl (lv_at hl 4 rfl) ?_
                                refine hk_getr hx hb hts hC_10 hown hW (gx.S hM) tt_10 19 ?o148 rfl kw_1162 ⟨rfl, rfl, rfl⟩ ((hM.o gx trivial rfl).2.trans f_x_19) dX10_wordHere_150 ?_
                                case o148 => decide
                                refine lv_bipush (v := 7) hx hb dX10_wordHere_153 ?o149 ?_
                                case o149 => decide
                                refine lv_iload_n hx hb dX10_wordHere_155 rfl (lv_at hl 3 rfl) ?_
                                refine lv_imul hx hb dX10_wordHere_156 ?_
                                refine lv_topi (fun x_36 ex_36 => ?_)
                                have zx_36 : x_36.toInt = 7 * iv79_1.toInt := ?o150
                                case o150 =>
                                  rw [ex_36]
                                  refine i32_mul ?o151 rfl rfl ?o152 ?o153
                                  case o151 => decide
                                  case o152 => omega
                                  case o153 => omega
                                refine lv_iload hx hb dX10_wordHere_157 (lv_at hl 0 rfl) ?_
                                refine lv_iadd hx hb dX10_wordHere_159 ?_
                                have rg_37 := i32_r x_36
                                have rg_38 := i32_r iv139_4
                                refine lv_topi (fun x_39 ex_39 => ?_)
                                have zx_39 : x_39.toInt = x_36.toInt + iv139_4.toInt := ?o154
                                case o154 =>
                                  rw [ex_39]
                                  refine i32_add rfl rfl ?o155 ?o156
                                  case o155 => omega
                                  case o156 => omega
                                refine hx_bald hx hb hW hT (gqw.S hM) tt_57 rfl ⟨?o157, ?o158⟩ dX10_wordHere_160 (fun x_40 ex_40 lx_40 ux_40 => ?_)
                                case o157 => omega
                                case o158 => omega
                                have ax_40 : x_40 = wf x_39.toNatClampNeg := ex_40.trans (congrFun (hx_afS hM gqw rfl af_qw) _)
                                refine lv_aload_n hx hb dX10_wordHere_161 rfl (lv_at hl 4 rfl) ?_
                                refine hk_getr hx hb hts hC_10 hown hW (gx.S hM) tt_10 6 ?o159 rfl kw_1149 ⟨rfl, rfl, rfl⟩ ((hM.o gx trivial rfl).2.trans f_x_6) dX10_wordHere_162 ?_
                                case o159 => decide
                                refine lv_aload_n hx hb dX10_wordHere_165 rfl (lv_at hl 4 rfl) ?_
                                refine hk_geti hx hb hts hC_10 hown hW (gx.S hM) tt_10 8 ?o160 rfl kw_1151 ⟨rfl, rfl, rfl⟩ fw_6 dX10_wordHere_166 ?_
                                case o160 => decide
                                refine lv_iload hx hb dX10_wordHere_169 (lv_at hl 0 rfl) ?_
                                refine lv_iadd hx hb dX10_wordHere_171 ?_
                                have rg_41 := i32_r w_6
                                refine lv_topi (fun x_42 ex_42 => ?_)
                                have zx_42 : x_42.toInt = w_6.toInt + iv139_4.toInt := ?o161
                                case o161 =>
                                  rw [ex_42]
                                  refine i32_add rfl rfl ?o162 ?o163
                                  case o162 => omega
                                  case o163 => omega
                                refine hx_bald hx hb hW hT (gqt.S hM) tt_53 rfl ⟨?o164, ?o165⟩ dX10_wordHere_172 (fun x_43 ex_43 lx_43 ux_43 => ?_)
                                case o164 => omega
                                case o165 => omega
                                have ax_43 : x_43 = tf x_42.toNatClampNeg := ex_43.trans (congrFun (hx_afS hM gqt rfl af_qt) _)
                                refine hb_icmp_ne (zx := x_40.toInt) (zy := x_43.toInt) (tgt := 180) hx hb rfl rfl dX10_wordHere_173 ?o166 (fun c_44 => ?_) (fun c_44 => ?_)
                                case o166 => decide
                                · skip
                                  refine lv_iconst (v := 0) hx hb dX10_wordHere_180 ?o167 ?_
                                  case o167 => decide
                                  refine lv_istore_n (lv' := [(3, .int (0 : Int32)), (4, .int iv139_4), (2, .int iv96_2), (1, .int iv79_1), (0, .ref x)]) hx hb dX10_wordHere_181 rfl hl ?o168 rfl (fun ls hl => ?_)
                                  case o168 => decide
                                  obtain ⟨x_45, ex_45⟩ : ∃ y : Int32, y = iv139_4 + Int32.ofInt 1 := ⟨_, rfl⟩
                                  have zx_45 : x_45.toInt = iv139_4.toInt + (1) := ?o169
                                  case o169 =>
                                    rw [ex_45]
                                    refine i32_add rfl ?o170 ?o171 ?o172
                                    case o170 => decide
                                    case o171 => omega
                                    case o172 => omega
                                  refine lv_iinc (v := x_45) (lv' := [(4, .int x_45), (3, .int (0 : Int32)), (2, .int iv96_2), (1, .int iv79_1), (0, .ref x)]) hx hb dX10_wordHere_182 hl (k := 1) rfl ex_45.symm ?o173 rfl (fun ls hl => ?_)
                                  case o173 => decide
                                  refine lv_goto (tgt := 139) hx hb dX10_wordHere_185 ?o174 ?_
                                  case o174 => decide
                                  have zk_0 : (0 : Int32).toInt = 0 := ?o175
                                  case o175 => decide
                                  refine ih139 (0 : Int32) x_45 _ _ hL1 hl1 ?o176 ?o177 ?o178 ?o179 (hv_SM_x hwd ?o180 ?o181 hwl (by have h9 := vi139_0; rw [show iv139_3.toInt = 1 by omega] at h9; exact h9) ?o182 ?o183 (by rw [show 7 * iv79_1.toInt.toNat + iv139_4.toInt.toNat = x_39.toNatClampNeg by unfold Int32.toNatClampNeg; omega, show w_6.toInt.toNat + iv139_4.toInt.toNat = x_42.toNatClampNeg by unfold Int32.toNatClampNeg; omega, ← ax_40, ← ax_43]; omega) ?o184) ls ?o185 hW hT hM fw_6 ffw10_x_11  (lv_sub hl [0, 1, 2, 3, 4] rfl)
                                  case o176 => decide
                                  case o177 => decide
                                  case o178 => omega
                                  case o179 => omega
                                  case o180 => omega
                                  case o181 => omega
                                  case o182 => omega
                                  case o183 => omega
                                  case o184 => decide
                                  case o185 => omega
                                · skip
                                  refine lv_iconst (v := 1) hx hb dX10_wordHere_176 ?o186 ?_
                                  case o186 => decide
                                  refine lv_goto (tgt := 181) hx hb dX10_wordHere_177 ?o187 ?_
                                  case o187 => decide
                                  refine lv_istore_n (lv' := [(3, .int (1 : Int32)), (4, .int iv139_4), (2, .int iv96_2), (1, .int iv79_1), (0, .ref x)]) hx hb dX10_wordHere_181 rfl hl ?o188 rfl (fun ls hl => ?_)
                                  case o188 => decide
                                  obtain ⟨x_46, ex_46⟩ : ∃ y : Int32, y = iv139_4 + Int32.ofInt 1 := ⟨_, rfl⟩
                                  have zx_46 : x_46.toInt = iv139_4.toInt + (1) := ?o189
                                  case o189 =>
                                    rw [ex_46]
                                    refine i32_add rfl ?o190 ?o191 ?o192
                                    case o190 => decide
                                    case o191 => omega
                                    case o192 => omega
                                  refine lv_iinc (v := x_46) (lv' := [(4, .int x_46), (3, .int (1 : Int32)), (2, .int iv96_2), (1, .int iv79_1), (0, .ref x)]) hx hb dX10_wordHere_182 hl (k := 1) rfl ex_46.symm ?o193 rfl (fun ls hl => ?_)
                                  case o193 => decide
                                  refine lv_goto (tgt := 139) hx hb dX10_wordHere_185 ?o194 ?_
                                  case o194 => decide
                                  have zk_1 : (1 : Int32).toInt = 1 := ?o195
                                  case o195 => decide
                                  refine ih139 (1 : Int32) x_46 _ _ hL1 hl1 ?o196 ?o197 ?o198 ?o199 (hv_SM_s (by have h9 := vi139_0; rw [show iv139_3.toInt = 1 by omega] at h9; exact h9) ?o200 (by rw [show 7 * iv79_1.toInt.toNat + iv139_4.toInt.toNat = x_39.toNatClampNeg by unfold Int32.toNatClampNeg; omega, show w_6.toInt.toNat + iv139_4.toInt.toNat = x_42.toNatClampNeg by unfold Int32.toNatClampNeg; omega, ← ax_40, ← ax_43]; omega) zx_46 ?o201) ls ?o202 hW hT hM fw_6 ffw10_x_11  (lv_sub hl [0, 1, 2, 3, 4] rfl)
                                  case o196 => decide
                                  case o197 => decide
                                  case o198 => omega
                                  case o199 => omega
                                  case o200 => omega
                                  case o201 => decide
                                  case o202 => omega
                        have zk_1 : (1 : Int32).toInt = 1 := ?o203
                        case o203 => decide
                        have zk_0 : (0 : Int32).toInt = 0 := ?o204
                        case o204 => decide
                        refine loop139 8 (1 : Int32) (0 : Int32) _ _ hL1 hl1 ?o205 ?o206 ?o207 ?o208 (hv_SM_y ?o209 ?o210 ?o211) ls ?o212 hW hT hM fw_6 ffw10_x_11  hl
                        case o205 => decide
                        case o206 => decide
                        case o207 => decide
                        case o208 => decide
                        case o209 => omega
                        case o210 => decide
                        case o211 => decide
                        case o212 => omega
                    refine lv_bipush (v := 7) hx hb dX10_wordHere_97 ?o213 ?_
                    case o213 => decide
                    refine hb_icmp_ge (zx := iv96_2.toInt) (zy := 7) (tgt := 122) hx hb rfl ?o214 dX10_wordHere_99 ?o215 (fun c_47 => ?_) (fun c_47 => ?_)
                    case o214 => decide
                    case o215 => decide
                    · skip
                      refine join122  _ _ hL1 hl1  (hv_wln hwd ?o216 ?o217 ?o218 ?o219 vi96_0 (Or.inl ?o220)) ls hW hT hM fw_6 ffw10_x_11  (lv_sub hl [0, 1, 2] rfl)
                      case o216 => omega
                      case o217 => omega
                      case o218 => omega
                      case o219 => omega
                      case o220 => omega
                    · skip
                      refine lv_aload_n hx hb dX10_wordHere_102 rfl (lv_at hl 2 rfl) ?_
                      refine hk_getr hx hb hts hC_10 hown hW (gx.S hM) tt_10 19 ?o221 rfl kw_1162 ⟨rfl, rfl, rfl⟩ ((hM.o gx trivial rfl).2.trans f_x_19) dX10_wordHere_103 ?_
                      case o221 => decide
                      refine lv_bipush (v := 7) hx hb dX10_wordHere_106 ?o222 ?_
                      case o222 => decide
                      refine lv_iload_n hx hb dX10_wordHere_108 rfl (lv_at hl 1 rfl) ?_
                      refine lv_imul hx hb dX10_wordHere_109 ?_
                      refine lv_topi (fun x_48 ex_48 => ?_)
                      have zx_48 : x_48.toInt = 7 * iv79_1.toInt := ?o223
                      case o223 =>
                        rw [ex_48]
                        refine i32_mul ?o224 rfl rfl ?o225 ?o226
                        case o224 => decide
                        case o225 => omega
                        case o226 => omega
                      refine lv_iload_n hx hb dX10_wordHere_110 rfl (lv_at hl 0 rfl) ?_
                      refine lv_iadd hx hb dX10_wordHere_111 ?_
                      have rg_49 := i32_r x_48
                      have rg_50 := i32_r iv96_2
                      refine lv_topi (fun x_51 ex_51 => ?_)
                      have zx_51 : x_51.toInt = x_48.toInt + iv96_2.toInt := ?o227
                      case o227 =>
                        rw [ex_51]
                        refine i32_add rfl rfl ?o228 ?o229
                        case o228 => omega
                        case o229 => omega
                      refine hx_bald hx hb hW hT (gqw.S hM) tt_57 rfl ⟨?o230, ?o231⟩ dX10_wordHere_112 (fun x_52 ex_52 lx_52 ux_52 => ?_)
                      case o230 => omega
                      case o231 => omega
                      have ax_52 : x_52 = wf x_51.toNatClampNeg := ex_52.trans (congrFun (hx_afS hM gqw rfl af_qw) _)
                      refine hb_if_eq (zx := x_52.toInt) (tgt := 122) hx hb rfl dX10_wordHere_113 ?o232 (fun c_53 => ?_) (fun c_53 => ?_)
                      case o232 => decide
                      · skip
                        refine join122  _ _ hL1 hl1  (hv_wln hwd ?o233 ?o234 ?o235 ?o236 vi96_0 (Or.inr (hx_wz ?o237 ax_52 ?o238 ?o239 ?o240))) ls hW hT hM fw_6 ffw10_x_11  (lv_sub hl [0, 1, 2] rfl)
                        case o233 => omega
                        case o234 => omega
                        case o235 => omega
                        case o236 => omega
                        case o237 => omega
                        case o238 => omega
                        case o239 => omega
                        case o240 => omega
                      · skip
                        obtain ⟨x_54, ex_54⟩ : ∃ y : Int32, y = iv96_2 + Int32.ofInt 1 := ⟨_, rfl⟩
                        have zx_54 : x_54.toInt = iv96_2.toInt + (1) := ?o241
                        case o241 =>
                          rw [ex_54]
                          refine i32_add rfl ?o242 ?o243 ?o244
                          case o242 => decide
                          case o243 => omega
                          case o244 => omega
                        refine lv_iinc (v := x_54) (lv' := [(2, .int x_54), (1, .int iv79_1), (0, .ref x)]) hx hb dX10_wordHere_116 hl (k := 0) rfl ex_54.symm ?o245 rfl (fun ls hl => ?_)
                        case o245 => decide
                        refine lv_goto (tgt := 96) hx hb dX10_wordHere_119 ?o246 ?_
                        case o246 => decide
                        refine ih96 x_54 _ _ hL1 hl1 ?o247 ?o248 (hx_wp_s vi96_0 ?o249 ax_52 ?o250 ?o251 zx_54) ls ?o252 hW hT hM fw_6 ffw10_x_11  (lv_sub hl [0, 1, 2] rfl)
                        case o247 => omega
                        case o248 => omega
                        case o249 => omega
                        case o250 => omega
                        case o251 => omega
                        case o252 => omega
                have zk_0 : (0 : Int32).toInt = 0 := ?o253
                case o253 => decide
                refine loop96 8 (0 : Int32) _ _ hL1 hl1 ?o254 ?o255 hx_wp0 ls ?o256 hW hT hM fw_6 ffw10_x_11  hl
                case o254 => decide
                case o255 => decide
                case o256 => omega
        have zk_0 : (0 : Int32).toInt = 0 := ?o257
        case o257 => decide
        refine loop79 26 (0 : Int32) _ _ hL1 hl1 ?o258 ?o259 (fun k hk => ?o260) ls ?o261 hW hT hM fw_6 ffw10_x_11  hl
        case o258 => decide
        case o259 => decide
        case o260 =>
          exfalso
          omega
        case o261 => omega
      refine hk_geti hx hb hts hC_10 hown hW (gx.S hM) tt_10 8 ?o262 rfl kw_1151 ⟨rfl, rfl, rfl⟩ fw_6 dX10_wordHere_11 ?_
      case o262 => decide
      refine lv_aload_n hx hb dX10_wordHere_14 rfl (lv_at hl 0 rfl) ?_
      refine hk_geti hx hb hts hC_10 hown hW (gx.S hM) tt_10 11 ?o263 rfl kw_1154 ⟨rfl, rfl, rfl⟩ ffw10_x_11 dX10_wordHere_15 ?_
      case o263 => decide
      refine lv_iadd hx hb dX10_wordHere_18 ?_
      have rg_55 := i32_r w_6
      have rg_56 := i32_r fw10_x_11
      refine lv_topi (fun x_57 ex_57 => ?_)
      have zx_57 : x_57.toInt = w_6.toInt + fw10_x_11.toInt := ?o264
      case o264 =>
        rw [ex_57]
        refine i32_add rfl rfl ?o265 ?o266
        case o265 => omega
        case o266 => omega
      refine lv_aload_n hx hb dX10_wordHere_19 rfl (lv_at hl 0 rfl) ?_
      refine hk_geti hx hb hts hC_10 hown hW (gx.S hM) tt_10 7 ?o267 rfl kw_1150 ⟨rfl, rfl, rfl⟩ ((hM.o gx trivial rfl).1.trans f_x_7) dX10_wordHere_20 ?_
      case o267 => decide
      refine hb_icmp_ge (zx := x_57.toInt) (zy := tp0.toInt) (tgt := 77) hx hb rfl rfl dX10_wordHere_23 ?o268 (fun c_58 => ?_) (fun c_58 => ?_)
      case o268 => decide
      · skip
        exact join77  _ _ hL1 hl1  (by rw [vi10_0]; exact hv_sn_y (i := x_57) (by omega) (by omega) (fun z9 => by exfalso; omega)) ls hW hT hM fw_6 ffw10_x_11  (lv_sub hl [0] rfl)
      · skip
        refine lv_aload_n hx hb dX10_wordHere_26 rfl (lv_at hl 0 rfl) ?_
        refine hk_getr hx hb hts hC_10 hown hW (gx.S hM) tt_10 6 ?o269 rfl kw_1149 ⟨rfl, rfl, rfl⟩ ((hM.o gx trivial rfl).2.trans f_x_6) dX10_wordHere_27 ?_
        case o269 => decide
        refine lv_aload_n hx hb dX10_wordHere_30 rfl (lv_at hl 0 rfl) ?_
        refine hk_geti hx hb hts hC_10 hown hW (gx.S hM) tt_10 8 ?o270 rfl kw_1151 ⟨rfl, rfl, rfl⟩ fw_6 dX10_wordHere_31 ?_
        case o270 => decide
        refine lv_aload_n hx hb dX10_wordHere_34 rfl (lv_at hl 0 rfl) ?_
        refine hk_geti hx hb hts hC_10 hown hW (gx.S hM) tt_10 11 ?o271 rfl kw_1154 ⟨rfl, rfl, rfl⟩ ffw10_x_11 dX10_wordHere_35 ?_
        case o271 => decide
        refine lv_iadd hx hb dX10_wordHere_38 ?_
        refine lv_topi (fun x_59 ex_59 => ?_)
        have zx_59 : x_59.toInt = w_6.toInt + fw10_x_11.toInt := ?o272
        case o272 =>
          rw [ex_59]
          refine i32_add rfl rfl ?o273 ?o274
          case o273 => omega
          case o274 => omega
        obtain rfl : x_57 = x_59 := ex_57.trans ex_59.symm
        refine hx_bald hx hb hW hT (gqt.S hM) tt_53 rfl ⟨?o275, ?o276⟩ dX10_wordHere_39 (fun x_60 ex_60 lx_60 ux_60 => ?_)
        case o275 => omega
        case o276 => omega
        have ax_60 : x_60 = tf x_57.toNatClampNeg := ex_60.trans (congrFun (hx_afS hM gqt rfl af_qt) _)
        refine lv_bipush (v := 97) hx hb dX10_wordHere_40 ?o277 ?_
        case o277 => decide
        refine hb_icmp_lt (zx := x_60.toInt) (zy := 97) (tgt := 77) hx hb rfl ?o278 dX10_wordHere_42 ?o279 (fun c_61 => ?_) (fun c_61 => ?_)
        case o278 => decide
        case o279 => decide
        · skip
          exact join77  _ _ hL1 hl1  (by rw [vi10_0]; exact hv_sn_y (i := x_57) (by omega) (by omega) (fun z9 => hv_lt_f ax_60 (by omega))) ls hW hT hM fw_6 ffw10_x_11  (lv_sub hl [0] rfl)
        · skip
          refine lv_aload_n hx hb dX10_wordHere_45 rfl (lv_at hl 0 rfl) ?_
          refine hk_getr hx hb hts hC_10 hown hW (gx.S hM) tt_10 6 ?o280 rfl kw_1149 ⟨rfl, rfl, rfl⟩ ((hM.o gx trivial rfl).2.trans f_x_6) dX10_wordHere_46 ?_
          case o280 => decide
          refine lv_aload_n hx hb dX10_wordHere_49 rfl (lv_at hl 0 rfl) ?_
          refine hk_geti hx hb hts hC_10 hown hW (gx.S hM) tt_10 8 ?o281 rfl kw_1151 ⟨rfl, rfl, rfl⟩ fw_6 dX10_wordHere_50 ?_
          case o281 => decide
          refine lv_aload_n hx hb dX10_wordHere_53 rfl (lv_at hl 0 rfl) ?_
          refine hk_geti hx hb hts hC_10 hown hW (gx.S hM) tt_10 11 ?o282 rfl kw_1154 ⟨rfl, rfl, rfl⟩ ffw10_x_11 dX10_wordHere_54 ?_
          case o282 => decide
          refine lv_iadd hx hb dX10_wordHere_57 ?_
          refine lv_topi (fun x_62 ex_62 => ?_)
          have zx_62 : x_62.toInt = w_6.toInt + fw10_x_11.toInt := ?o283
          case o283 =>
            rw [ex_62]
            refine i32_add rfl rfl ?o284 ?o285
            case o284 => omega
            case o285 => omega
          obtain rfl : x_57 = x_62 := ex_57.trans ex_62.symm
          refine hx_bald hx hb hW hT (gqt.S hM) tt_53 rfl ⟨?o286, ?o287⟩ dX10_wordHere_58 (fun x_63 ex_63 lx_63 ux_63 => ?_)
          case o286 => omega
          case o287 => omega
          have ax_63 : x_63 = tf x_57.toNatClampNeg := ex_63.trans (congrFun (hx_afS hM gqt rfl af_qt) _)
          obtain rfl : x_60 = x_63 := ex_60.trans ex_63.symm
          refine lv_bipush (v := 122) hx hb dX10_wordHere_59 ?o288 ?_
          case o288 => decide
          refine hb_icmp_gt (zx := x_60.toInt) (zy := 122) (tgt := 77) hx hb rfl ?o289 dX10_wordHere_61 ?o290 (fun c_64 => ?_) (fun c_64 => ?_)
          case o289 => decide
          case o290 => decide
          · skip
            exact join77  _ _ hL1 hl1  (by rw [vi10_0]; exact hv_sn_y (i := x_57) (by omega) (by omega) (fun z9 => hv_lt_f ax_60 (by omega))) ls hW hT hM fw_6 ffw10_x_11  (lv_sub hl [0] rfl)
          · skip
            refine lv_aload_n hx hb dX10_wordHere_64 rfl (lv_at hl 0 rfl) ?_
            refine lv_dup hx hb dX10_wordHere_65 rfl ?_
            refine hk_geti hx hb hts hC_10 hown hW (gx.S hM) tt_10 11 ?o291 rfl kw_1154 ⟨rfl, rfl, rfl⟩ ffw10_x_11 dX10_wordHere_66 ?_
            case o291 => decide
            refine lv_iconst (v := 1) hx hb dX10_wordHere_69 ?o292 ?_
            case o292 => decide
            refine lv_iadd hx hb dX10_wordHere_70 ?_
            refine lv_topi (fun x_65 ex_65 => ?_)
            have zx_65 : x_65.toInt = fw10_x_11.toInt + 1 := ?o293
            case o293 =>
              rw [ex_65]
              refine i32_add rfl ?o294 ?o295 ?o296
              case o294 => decide
              case o295 => omega
              case o296 => omega
            refine hx_puti hx hb hts hC_10 hown hW hT (hx_S.rf (M := [(10, 11)])) (gx.S hM) tt_10 11 ?o297 rfl kw_1154 ⟨rfl, rfl, rfl⟩ rfl (x := x_65) ⟨?o298, ?o299⟩ rfl rfl rfl (List.mem_singleton.mpr rfl) dX10_wordHere_71 (fun H locs h_66 eh_66 hW hT hs => ?_)
            case o297 => decide
            case o298 => omega
            case o299 => omega
            replace fw_6 := (hs.o (gx.S hM) trivial rfl).1.trans fw_6
            replace ex_60 := ex_60.trans (hs.a (gqt.S hM) rfl _).1.symm
            replace hM := hM.tr (hs.mono ?o300)
            case o300 => decide
            have f_67 : h_66.2.1 x 11 = x_65 := ?o301
            case o301 =>
              rw [eh_66]
              exact hx_pi_at _ _ _ _
            refine lv_goto (tgt := 10) hx hb dX10_wordHere_74 ?o302 ?_
            case o302 => decide
            refine ih10 x_65 _ _ hL1 h_66 ?o303 ?o304 (vi10_0.trans (hv_sn_z (i := x_57) ?o305 ?o306 (hv_lt_t ax_60 ?o307 ?o308) ?o309 ?o310)) ?o311 ls ?o312 hW hT hM f_67 fw_6  (lv_sub hl [0] rfl)
            case o303 => omega
            case o304 => omega
            case o305 => omega
            case o306 => omega
            case o307 => omega
            case o308 => omega
            case o309 => omega
            case o310 => omega
            case o311 => omega
            case o312 => omega
  have zk_0 : (0 : Int32).toInt = 0 := ?o313
  case o313 => decide
  refine loop10 401 (0 : Int32) _ _ L_1 h_8 ?o314 ?o315 (by rw [zk_0]; congr 1; omega) ?o316 ls ?o317 hW hT hM f_9 fw_6  hl
  case o314 => decide
  case o315 => decide
  case o316 => omega
  case o317 => omega


set_option maxHeartbeats 4000000 in
set_option maxRecDepth 100000 in
theorem t_X10_fails_v (l : Launch) (dC : Nat → ClassId) (dI : Nat → Nat → Nat) (dA : Nat → ClassId) (L : List Nat) (h : hx_h) (sz : Nat) (x : Nat) (i1 : Int32) (i2 : Int32) (hT : hx_T T_tb L h) (gx : hx_g L h x 10) (ft0 : Int32) (f_x_9 : h.2.1 x 9 = ft0) (hF : ft0.toInt = 0) (hi1 : 0 ≤ i1.toInt ∧ i1.toInt ≤ 4) (hi2 : 0 ≤ i2.toInt ∧ i2.toInt ≤ 402) : Met l yX10_fails (Cond.code yX10_fails cX10_fails 3 (some .boolean) :: hx_all) ({ frames := 0, cells := 0, slots := 0, locals := 0 }) (va_Pc [.ref x, .int i1, .int i2] (hx_B T_tb (P_ty dA) (dC, dI) vwCl L h sz)) (va_Qi (fun (r : Int32) (u : List Nat × hx_h) => (∃ (ft1 : Int32), u.2.2.1 x 9 = ft1 ∧ (r.toInt = 0 ∧ ft1.toInt = 1 + 8 * i2.toInt + i1.toInt)) ∧ hx_T T_tb u.1 u.2 ∧ hx_S T_tb [(10, 9)] L h u.1 u.2) (hx_E T_tb (P_ty dA) (dC, dI) vwCl (hx_A L sz)) (hx_A L sz)) 0 0 (hx_A L sz) := by
  refine hx_met (lv := [(0, .ref x), (1, .int i1), (2, .int i2)]) (by decide +kernel) rfl (Nat.le_of_ble_eq_true rfl) rfl ?_
  intro p e s m below meth c hx hb hml hr hlk hts0 hown hin hsz hW ls hl
  have hts : ∀ w ∈ hx_all, w.before _ s = true := fun w hw => hts0 w (List.mem_cons_of_mem _ hw)
  have hown : s.vm.findClass "SmallCourtModel" = some m.cls := hown
  have hM : hx_S T_tb [(10, 9)] L h L h := hx_S.rf
  have b_ft0 := hT.gi gx tt_10 (k := 9) rfl
  rw [f_x_9] at b_ft0
  have b_ft0 : -2147483648 ≤ ft0.toInt ∧ ft0.toInt ≤ 2147483647 := b_ft0
  refine lv_aload_n hx hb dX10_fails_0 rfl (lv_at hl 0 rfl) ?_
  refine hk_geti hx hb hts hC_10 hown hW (gx.S hM) tt_10 9 ?o0 rfl kw_1152 ⟨rfl, rfl, rfl⟩ f_x_9 dX10_fails_1 ?_
  case o0 => decide
  refine hb_if_ne (zx := ft0.toInt) (tgt := 19) hx hb rfl dX10_fails_4 ?o1 (fun c_1 => ?o2) (fun c_1 => ?_)
  case o1 => decide
  case o2 =>
    exfalso
    omega
  refine lv_aload_n hx hb dX10_fails_7 rfl (lv_at hl 0 rfl) ?_
  refine lv_iconst (v := 1) hx hb dX10_fails_8 ?o3 ?_
  case o3 => decide
  refine lv_bipush (v := 8) hx hb dX10_fails_9 ?o4 ?_
  case o4 => decide
  refine lv_iload_n hx hb dX10_fails_11 rfl (lv_at hl 2 rfl) ?_
  refine lv_imul hx hb dX10_fails_12 ?_
  refine lv_topi (fun x_2 ex_2 => ?_)
  have zx_2 : x_2.toInt = 8 * i2.toInt := ?o5
  case o5 =>
    rw [ex_2]
    refine i32_mul ?o6 rfl rfl ?o7 ?o8
    case o6 => decide
    case o7 => omega
    case o8 => omega
  refine lv_iadd hx hb dX10_fails_13 ?_
  have rg_3 := i32_r x_2
  refine lv_topi (fun x_4 ex_4 => ?_)
  have zx_4 : x_4.toInt = 1 + x_2.toInt := ?o9
  case o9 =>
    rw [ex_4]
    refine i32_add ?o10 rfl ?o11 ?o12
    case o10 => decide
    case o11 => omega
    case o12 => omega
  refine lv_iload_n hx hb dX10_fails_14 rfl (lv_at hl 1 rfl) ?_
  refine lv_iadd hx hb dX10_fails_15 ?_
  have rg_5 := i32_r x_4
  have rg_6 := i32_r i1
  refine lv_topi (fun x_7 ex_7 => ?_)
  have zx_7 : x_7.toInt = x_4.toInt + i1.toInt := ?o13
  case o13 =>
    rw [ex_7]
    refine i32_add rfl rfl ?o14 ?o15
    case o14 => omega
    case o15 => omega
  refine hx_puti hx hb hts hC_10 hown hW hT (hx_S.rf (M := [(10, 9)])) (gx.S hM) tt_10 9 ?o16 rfl kw_1152 ⟨rfl, rfl, rfl⟩ rfl (x := x_7) (i32_r _) rfl rfl rfl (List.mem_singleton.mpr rfl) dX10_fails_16 (fun H locs h_8 eh_8 hW hT hs => ?_)
  case o16 => decide
  replace hM := hM.tr (hs.mono ?o17)
  case o17 => decide
  have f_9 : h_8.2.1 x 9 = x_7 := ?o18
  case o18 =>
    rw [eh_8]
    exact hx_pi_at _ _ _ _
  refine lv_iconst (v := 0) hx hb dX10_fails_19 ?o19 ?_
  case o19 => decide
  refine hx_retz hx hb hr rfl hlk hW ⟨⟨x_7, f_9, ⟨?o20, ?o21⟩⟩, hT, hM⟩ dX10_fails_20
  case o20 => decide
  case o21 => omega


set_option maxHeartbeats 4000000 in
set_option maxRecDepth 100000 in
theorem t_X10_number_v (l : Launch) (dC : Nat → ClassId) (dI : Nat → Nat → Nat) (dA : Nat → ClassId) (L : List Nat) (h : hx_h) (sz : Nat) (x : Nat) (i1 : Int32) (i2 : Int32) (hT : hx_T T_tb L h) (gx : hx_g L h x 10) (qt : Nat) (gqt : hx_g L h qt 53) (f_x_6 : h.2.2 x 6 = some qt) (tf : Nat → Int32) (af_qt : h.2.1 qt = tf) (nx0 : Int32) (f_x_8 : h.2.1 x 8 = nx0) (tp0 : Int32) (f_x_7 : h.2.1 x 7 = tp0) (ft0 : Int32) (f_x_9 : h.2.1 x 9 = ft0) (hF : ft0.toInt = 0) (hA : nx0.toInt ≤ tp0.toInt) (hi1 : 0 ≤ i1.toInt) : Met l yX10_number (Cond.code yX10_number cX10_number 7 (some .boolean) :: hx_all) ({ frames := 1, cells := 0, slots := 0, locals := 22 }) (va_Pc [.ref x, .int i1, .int i2] (hx_B T_tb (P_ty dA) (dC, dI) vwCl L h sz)) (va_Qi (fun (r : Int32) (u : List Nat × hx_h) => (∃ (nx1 : Int32) (sd1 : Int32) (ft1 : Int32), u.2.2.1 x 8 = nx1 ∧ u.2.2.1 x 10 = sd1 ∧ u.2.2.1 x 9 = ft1 ∧ (hv_M (hv_num tf tp0.toInt.toNat nx0.toInt.toNat i1.toInt i2.toInt) r.toInt ft1.toInt nx1.toInt sd1.toInt ∧ (r.toInt = 1 → nx0.toInt < nx1.toInt ∧ nx1.toInt ≤ tp0.toInt ∧ i1.toInt ≤ sd1.toInt ∧ sd1.toInt ≤ i2.toInt) ∧ nx0.toInt ≤ nx1.toInt)) ∧ hx_T T_tb u.1 u.2 ∧ hx_S T_tb [(10, 8), (10, 9), (10, 10)] L h u.1 u.2) (hx_E T_tb (P_ty dA) (dC, dI) vwCl (hx_A L sz)) (hx_A L sz)) 0 0 (hx_A L sz) := by
  refine hx_met (lv := [(0, .ref x), (1, .int i1), (2, .int i2)]) (by decide +kernel) rfl (Nat.le_of_ble_eq_true rfl) rfl ?_
  intro p e s m below meth c hx hb hml hr hlk hts0 hown hin hsz hW ls hl
  have hts : ∀ w ∈ hx_all, w.before _ s = true := fun w hw => hts0 w (List.mem_cons_of_mem _ hw)
  have hown : s.vm.findClass "SmallCourtModel" = some m.cls := hown
  have hM : hx_S T_tb [(10, 8), (10, 9), (10, 10)] L h L h := hx_S.rf
  have b_nx0 := hT.gi gx tt_10 (k := 8) rfl
  rw [f_x_8] at b_nx0
  have b_nx0 : 0 ≤ nx0.toInt ∧ nx0.toInt ≤ 402 := b_nx0
  have b_tp0 := hT.gi gx tt_10 (k := 7) rfl
  rw [f_x_7] at b_tp0
  have b_tp0 : 0 ≤ tp0.toInt ∧ tp0.toInt ≤ 400 := b_tp0
  have b_ft0 := hT.gi gx tt_10 (k := 9) rfl
  rw [f_x_9] at b_ft0
  have b_ft0 : -2147483648 ≤ ft0.toInt ∧ ft0.toInt ≤ 2147483647 := b_ft0
  refine lv_aload_n hx hb dX10_number_0 rfl (lv_at hl 0 rfl) ?_
  refine hx_goi (hx_runV (As := []) (rest := []) ⟨hx, hb, hml, hown, hts⟩ hW (gx.S hM) tt_10 (T := TX10) (N := 98) rfl (t_X10_see_v l dC dI dA L h s.heap.size x hT (gx.S hM) qt (gqt.S hM) ((hM.o gx trivial rfl).2.trans f_x_6) tf (hx_afS hM gqt rfl af_qt) nx0 f_x_8 tp0 ((hM.o gx trivial rfl).1.trans f_x_7) ?o0) (cwV 0 hts (hx_gV kw_1468 kw_1465 kw_1467 kw_53 kw_103) rfl rfl rfl (by decide +kernel) ⟨Nat.le_of_ble_eq_true rfl, Nat.le_of_ble_eq_true rfl⟩) rfl hl.1 rfl (Nat.le_of_ble_eq_true rfl) dX10_number_1 ⟨Nat.le_of_ble_eq_true rfl, Nat.le_of_ble_eq_true rfl⟩) hW (fun r_3 L_1 h_2 H locs p_4 hW => ?_)
  case o0 => omega
  obtain ⟨⟨w_6, fw_6, hr_5⟩, hT, hs⟩ := p_4
  replace hT : hx_T T_tb L_1 h_2 := hT
  replace hs : hx_S T_tb [(10, 8)] L h L_1 h_2 := hs
  replace f_x_9 := (hs.o (gx.S hM) trivial rfl).1.trans f_x_9
  replace hM := hM.tr (hs.mono ?o1)
  case o1 => decide
  have fw_6 : h_2.2.1 x 8 = w_6 := fw_6
  have bw_6 := hT.gi (gx.S hM) tt_10 (k := 8) rfl
  rw [fw_6] at bw_6
  have bw_6 : 0 ≤ w_6.toInt ∧ w_6.toInt ≤ 402 := bw_6
  have ek_7 : w_6.toInt.toNat = hv_sk tf tp0.toInt.toNat nx0.toInt.toNat := ?o2
  case o2 => omega
  have hr_5S := hr_5.2.2.2.1
  refine lv_istore_n (lv' := [(3, .int r_3), (0, .ref x), (1, .int i1), (2, .int i2)]) hx hb dX10_number_4 rfl hl ?o3 rfl (fun ls hl => ?_)
  case o3 => decide
  refine lv_iload_n hx hb dX10_number_5 rfl (lv_at hl 0 rfl) ?_
  refine lv_bipush (v := 48) hx hb dX10_number_6 ?o4 ?_
  case o4 => decide
  refine hb_icmp_lt (zx := r_3.toInt) (zy := 48) (tgt := 17) hx hb rfl ?o5 dX10_number_8 ?o6 (fun c_8 => ?_) (fun c_8 => ?_)
  case o5 => decide
  case o6 => decide
  · skip
    refine lv_aload_n hx hb dX10_number_17 rfl (lv_at hl 1 rfl) ?_
    refine lv_iconst (v := 0) hx hb dX10_number_18 ?o7 ?_
    case o7 => decide
    refine lv_aload_n hx hb dX10_number_19 rfl (lv_at hl 1 rfl) ?_
    refine hk_geti hx hb hts hC_10 hown hW (gx.S hM) tt_10 8 ?o8 rfl kw_1151 ⟨rfl, rfl, rfl⟩ fw_6 dX10_number_20 ?_
    case o8 => decide
    have zc_0 : (0 : Int32).toInt = 0 := ?o9
    case o9 => decide
    refine hx_goi (hx_runV (As := [.int (0 : Int32), .int w_6]) (rest := []) ⟨hx, hb, hml, hown, hts⟩ hW (gx.S hM) tt_10 (T := TX10) (N := 98) rfl (t_X10_fails_v l dC dI dA L_1 h_2 H.size x (0 : Int32) w_6 hT (gx.S hM) ft0 f_x_9 ?o10 ?o11 ⟨?o12, ?o13⟩) (cwV 2 hts (hx_gV kw_1480 kw_1477 kw_1479 kw_56 kw_103) rfl rfl rfl (by decide +kernel) ⟨Nat.le_of_ble_eq_true rfl, Nat.le_of_ble_eq_true rfl⟩) rfl hl.1 rfl (Nat.le_of_ble_eq_true rfl) dX10_number_23 ⟨Nat.le_of_ble_eq_true rfl, Nat.le_of_ble_eq_true rfl⟩) hW (fun r_11 L_9 h_10 H locs p_12 hW => ?_)
    case o10 => omega
    case o11 => decide
    case o12 => omega
    case o13 => omega
    obtain ⟨⟨w_14, fw_14, hr_13⟩, hT, hs⟩ := p_12
    replace hT : hx_T T_tb L_9 h_10 := hT
    replace hs : hx_S T_tb [(10, 9)] L_1 h_2 L_9 h_10 := hs
    replace fw_6 := (hs.o (gx.S hM) trivial rfl).1.trans fw_6
    replace hM := hM.tr (hs.mono ?o14)
    case o14 => decide
    have fw_14 : h_10.2.1 x 9 = w_14 := fw_14
    have bw_14 := hT.gi (gx.S hM) tt_10 (k := 9) rfl
    rw [fw_14] at bw_14
    have bw_14 : -2147483648 ≤ w_14.toInt ∧ w_14.toInt ≤ 2147483647 := bw_14
    obtain ⟨fv_15, efv_15⟩ : ∃ y : Int32, y = h_10.2.1 x 10 := ⟨_, rfl⟩
    have bfv_15 := hT.gi (gx.S hM) tt_10 (k := 10) rfl
    rw [← efv_15] at bfv_15
    have bfv_15 : 0 ≤ fv_15.toInt ∧ fv_15.toInt ≤ 9999 := bfv_15
    have ffv_15 := efv_15.symm
    refine hx_retz hx hb hr (hx_nar01 ?o15) hlk hW ⟨⟨w_6, fv_15, w_14, fw_6, ffv_15, fw_14, ⟨(Or.inr ⟨?o16, ?o17, (hv_num_1 (by rw [← ek_7]; have h8 := hv_SE_nd hr_5S (by omega); exact fun z9 => h8 (by omega))).trans (by rw [← ek_7]; congr 1; omega)⟩), (fun z9 => ?o18), ?o19⟩⟩, hT, hM⟩ dX10_number_26
    case o15 => omega
    case o16 => omega
    case o17 => omega
    case o18 =>
      exfalso
      omega
    case o19 => omega
  · skip
    refine lv_iload_n hx hb dX10_number_11 rfl (lv_at hl 0 rfl) ?_
    refine lv_bipush (v := 57) hx hb dX10_number_12 ?o20 ?_
    case o20 => decide
    refine hb_icmp_le (zx := r_3.toInt) (zy := 57) (tgt := 27) hx hb rfl ?o21 dX10_number_14 ?o22 (fun c_16 => ?_) (fun c_16 => ?_)
    case o21 => decide
    case o22 => decide
    · skip
      have hdg := hv_SE_d hr_5S ⟨?o23, ?o24⟩
      case o23 => omega
      case o24 => omega
      have hdt := hv_de_gt (T := tf) (n := tp0.toInt.toNat) (p := w_6.toInt.toNat) ?o25 hdg.2
      case o25 => omega
      refine lv_aload_n hx hb dX10_number_27 rfl (lv_at hl 1 rfl) ?_
      refine hk_geti hx hb hts hC_10 hown hW (gx.S hM) tt_10 8 ?o26 rfl kw_1151 ⟨rfl, rfl, rfl⟩ fw_6 dX10_number_28 ?_
      case o26 => decide
      refine lv_istore (lv' := [(4, .int w_6), (3, .int r_3), (0, .ref x), (1, .int i1), (2, .int i2)]) hx hb dX10_number_31 hl ?o27 rfl (fun ls hl => ?_)
      case o27 => decide
      refine lv_iconst (v := 0) hx hb dX10_number_33 ?o28 ?_
      case o28 => decide
      refine lv_istore (lv' := [(5, .int (0 : Int32)), (4, .int w_6), (3, .int r_3), (0, .ref x), (1, .int i1), (2, .int i2)]) hx hb dX10_number_34 hl ?o29 rfl (fun ls hl => ?_)
      case o29 => decide
      refine lv_iconst (v := 0) hx hb dX10_number_36 ?o30 ?_
      case o30 => decide
      refine lv_istore (lv' := [(6, .int (0 : Int32)), (5, .int (0 : Int32)), (4, .int w_6), (3, .int r_3), (0, .ref x), (1, .int i1), (2, .int i2)]) hx hb dX10_number_37 hl ?o31 rfl (fun ls hl => ?_)
      case o31 => decide
      have loop39 : ∀ (n39 : Nat) (iv39_5 iv39_6 fw39_x_8 : Int32) (H : Heap) (locs : List Loc) (hL1 : List Nat) (hl1 : hx_h), 0 ≤ iv39_5.toInt → iv39_5.toInt ≤ 400 → 0 ≤ iv39_6.toInt → iv39_6.toInt ≤ 9999 → 0 ≤ fw39_x_8.toInt → fw39_x_8.toInt ≤ 402 → (hv_de tf tp0.toInt.toNat (w_6.toInt).toNat = hv_de tf tp0.toInt.toNat (fw39_x_8.toInt).toNat) → (iv39_6.toInt = hv_dv tf (w_6.toInt).toNat (min (iv39_5.toInt).toNat 4)) → (fw39_x_8.toInt = w_6.toInt + iv39_5.toInt) → ((iv39_5.toInt = 0 ∧ iv39_6.toInt = 0) ∨ (iv39_5.toInt = 1 ∧ iv39_6.toInt ≤ 9) ∨ (iv39_5.toInt = 2 ∧ iv39_6.toInt ≤ 99) ∨ (iv39_5.toInt = 3 ∧ iv39_6.toInt ≤ 999) ∨ 4 ≤ iv39_5.toInt) → (fw39_x_8.toInt ≤ tp0.toInt) → ∀ (ls : Array Slot), 402 - fw39_x_8.toInt < (n39 : Int) → hx_W T_tb (P_ty dA) (dC, dI) vwCl (hx_A L sz) s.heap hL1 hl1 s H locs → hx_T T_tb hL1 hl1 → hx_S T_tb [(10, 8), (10, 9), (10, 10)] L h hL1 hl1 → hl1.2.1 x 8 = fw39_x_8 → hl1.2.1 x 9 = ft0 → lv_has ls 7 [(6, .int iv39_6), (5, .int iv39_5), (4, .int w_6), (3, .int r_3), (0, .ref x), (1, .int i1), (2, .int i2)] → W p l e ({ frames := 1, cells := 0, slots := 0, locals := 22 }) s m ([.ref x, .int i1, .int i2] : List Value).toArray below meth c H locs 0 0 (MQ below (va_Qi (fun (r : Int32) (u : List Nat × hx_h) => (∃ (nx1 : Int32) (sd1 : Int32) (ft1 : Int32), u.2.2.1 x 8 = nx1 ∧ u.2.2.1 x 10 = sd1 ∧ u.2.2.1 x 9 = ft1 ∧ (hv_M (hv_num tf tp0.toInt.toNat nx0.toInt.toNat i1.toInt i2.toInt) r.toInt ft1.toInt nx1.toInt sd1.toInt ∧ (r.toInt = 1 → nx0.toInt < nx1.toInt ∧ nx1.toInt ≤ tp0.toInt ∧ i1.toInt ≤ sd1.toInt ∧ sd1.toInt ≤ i2.toInt) ∧ nx0.toInt ≤ nx1.toInt)) ∧ hx_T T_tb u.1 u.2 ∧ hx_S T_tb [(10, 8), (10, 9), (10, 10)] L h u.1 u.2) (hx_E T_tb (P_ty dA) (dC, dI) vwCl (hx_A L sz)) (hx_A L sz)) ([.ref x, .int i1, .int i2] : List Value).toArray s 0 0 (hx_A L sz)) (F0 m 39 ls []) := by
        intro n39
        induction n39 with
        | zero => intro iv39_5 iv39_6 fw39_x_8 H locs hL1 hl1 bliv39_5 buiv39_5 bliv39_6 buiv39_6 blfw39_x_8 bufw39_x_8 vi39_0 vi39_1 vi39_2 vi39_3 vi39_4 ls hn39; exfalso; omega
        | succ n39 ih39 =>
          intro iv39_5 iv39_6 fw39_x_8 H locs hL1 hl1 bliv39_5 buiv39_5 bliv39_6 buiv39_6 blfw39_x_8 bufw39_x_8 vi39_0 vi39_1 vi39_2 vi39_3 vi39_4 ls hn39 hW hT hM ffw39_x_8 f_x_9  hl
          refine lv_aload_n hx hb dX10_number_39 rfl (lv_at hl 4 rfl) ?_
          have join120 : ∀ (H : Heap) (locs : List Loc) (hL1 : List Nat) (hl1 : hx_h), (((hv_de tf tp0.toInt.toNat (w_6.toInt).toNat : Nat) : Int) = fw39_x_8.toInt) → ∀ (ls : Array Slot), hx_W T_tb (P_ty dA) (dC, dI) vwCl (hx_A L sz) s.heap hL1 hl1 s H locs → hx_T T_tb hL1 hl1 → hx_S T_tb [(10, 8), (10, 9), (10, 10)] L h hL1 hl1 → hl1.2.1 x 9 = ft0 → hl1.2.1 x 8 = fw39_x_8 → lv_has ls 7 [(6, .int iv39_6), (5, .int iv39_5), (4, .int w_6), (3, .int r_3), (0, .ref x), (1, .int i1), (2, .int i2)] → W p l e ({ frames := 1, cells := 0, slots := 0, locals := 22 }) s m ([.ref x, .int i1, .int i2] : List Value).toArray below meth c H locs 0 0 (MQ below (va_Qi (fun (r : Int32) (u : List Nat × hx_h) => (∃ (nx1 : Int32) (sd1 : Int32) (ft1 : Int32), u.2.2.1 x 8 = nx1 ∧ u.2.2.1 x 10 = sd1 ∧ u.2.2.1 x 9 = ft1 ∧ (hv_M (hv_num tf tp0.toInt.toNat nx0.toInt.toNat i1.toInt i2.toInt) r.toInt ft1.toInt nx1.toInt sd1.toInt ∧ (r.toInt = 1 → nx0.toInt < nx1.toInt ∧ nx1.toInt ≤ tp0.toInt ∧ i1.toInt ≤ sd1.toInt ∧ sd1.toInt ≤ i2.toInt) ∧ nx0.toInt ≤ nx1.toInt)) ∧ hx_T T_tb u.1 u.2 ∧ hx_S T_tb [(10, 8), (10, 9), (10, 10)] L h u.1 u.2) (hx_E T_tb (P_ty dA) (dC, dI) vwCl (hx_A L sz)) (hx_A L sz)) ([.ref x, .int i1, .int i2] : List Value).toArray s 0 0 (hx_A L sz)) (F0 m 120 ls []) := by
            intro  H locs hL1 hl1  vj120_0 ls hW hT hM f_x_9 ffw39_x_8  hl
            have hde := vj120_0
            have hvl : iv39_6.toInt = hv_dv tf w_6.toInt.toNat (hv_de tf tp0.toInt.toNat w_6.toInt.toNat - w_6.toInt.toNat) ∨ 4 < iv39_5.toInt := ?o32
            case o32 =>
              rcases (show 4 < iv39_5.toInt ∨ iv39_5.toInt ≤ 4 by omega) with z | z
              exact Or.inr z
              exact Or.inl (vi39_1.trans (by congr 1; omega))
            refine lv_aload_n hx hb dX10_number_120 rfl (lv_at hl 4 rfl) ?_
            refine lv_iload hx hb dX10_number_121 (lv_at hl 0 rfl) ?_
            refine hx_puti hx hb hts hC_10 hown hW hT (hx_S.rf (M := [(10, 10)])) (gx.S hM) tt_10 10 ?o33 rfl kw_1153 ⟨rfl, rfl, rfl⟩ rfl (x := iv39_6) ⟨?o34, ?o35⟩ rfl rfl rfl (List.mem_singleton.mpr rfl) dX10_number_123 (fun H locs h_17 eh_17 hW hT hs => ?_)
            case o33 => decide
            case o34 => omega
            case o35 => omega
            replace f_x_9 := (hs.o (gx.S hM) trivial rfl).1.trans f_x_9
            replace ffw39_x_8 := (hs.o (gx.S hM) trivial rfl).1.trans ffw39_x_8
            replace hM := hM.tr (hs.mono ?o36)
            case o36 => decide
            have f_18 : h_17.2.1 x 10 = iv39_6 := ?o37
            case o37 =>
              rw [eh_17]
              exact hx_pi_at _ _ _ _
            refine lv_iload hx hb dX10_number_126 (lv_at hl 1 rfl) ?_
            refine lv_iconst (v := 4) hx hb dX10_number_128 ?o38 ?_
            case o38 => decide
            refine hb_icmp_gt (zx := iv39_5.toInt) (zy := 4) (tgt := 142) hx hb rfl ?o39 dX10_number_129 ?o40 (fun c_19 => ?_) (fun c_19 => ?_)
            case o39 => decide
            case o40 => decide
            · skip
              refine lv_aload_n hx hb dX10_number_142 rfl (lv_at hl 4 rfl) ?_
              refine lv_iconst (v := 1) hx hb dX10_number_143 ?o41 ?_
              case o41 => decide
              refine lv_iload hx hb dX10_number_144 (lv_at hl 2 rfl) ?_
              have zc_1 : (1 : Int32).toInt = 1 := ?o42
              case o42 => decide
              refine hx_goi (hx_runV (As := [.int (1 : Int32), .int w_6]) (rest := []) ⟨hx, hb, hml, hown, hts⟩ hW (gx.S hM) tt_10 (T := TX10) (N := 98) rfl (t_X10_fails_v l dC dI dA hL1 h_17 H.size x (1 : Int32) w_6 hT (gx.S hM) ft0 f_x_9 ?o43 ?o44 ⟨?o45, ?o46⟩) (cwV 2 hts (hx_gV kw_1480 kw_1477 kw_1479 kw_56 kw_103) rfl rfl rfl (by decide +kernel) ⟨Nat.le_of_ble_eq_true rfl, Nat.le_of_ble_eq_true rfl⟩) rfl hl.1 rfl (Nat.le_of_ble_eq_true rfl) dX10_number_146 ⟨Nat.le_of_ble_eq_true rfl, Nat.le_of_ble_eq_true rfl⟩) hW (fun r_22 L_20 h_21 H locs p_23 hW => ?_)
              case o43 => omega
              case o44 => decide
              case o45 => omega
              case o46 => omega
              obtain ⟨⟨w_25, fw_25, hr_24⟩, hT, hs⟩ := p_23
              replace hT : hx_T T_tb L_20 h_21 := hT
              replace hs : hx_S T_tb [(10, 9)] hL1 h_17 L_20 h_21 := hs
              replace ffw39_x_8 := (hs.o (gx.S hM) trivial rfl).1.trans ffw39_x_8
              replace f_18 := (hs.o (gx.S hM) trivial rfl).1.trans f_18
              replace hM := hM.tr (hs.mono ?o47)
              case o47 => decide
              have fw_25 : h_21.2.1 x 9 = w_25 := fw_25
              have bw_25 := hT.gi (gx.S hM) tt_10 (k := 9) rfl
              rw [fw_25] at bw_25
              have bw_25 : -2147483648 ≤ w_25.toInt ∧ w_25.toInt ≤ 2147483647 := bw_25
              refine hb_if_eq (zx := r_22.toInt) (tgt := 156) hx hb rfl dX10_number_149 ?o48 (fun c_26 => ?_) (fun c_26 => ?o49)
              case o48 => decide
              case o49 =>
                exfalso
                omega
              refine lv_iconst (v := 0) hx hb dX10_number_156 ?o50 ?_
              case o50 => decide
              refine hx_retz hx hb hr rfl hlk hW ⟨⟨fw39_x_8, iv39_6, w_25, ffw39_x_8, f_18, fw_25, ⟨(Or.inr ⟨?o51, ?o52, (hv_num_2 (by rw [← ek_7]; exact ⟨by omega, hdg.2⟩) (by rw [← ek_7]; omega)).trans (by rw [← ek_7]; congr 1; omega)⟩), (fun z9 => absurd z9 ?o53), ?o54⟩⟩, hT, hM⟩ dX10_number_157
              case o51 => decide
              case o52 => omega
              case o53 => decide
              case o54 => omega
            · skip
              refine lv_iload hx hb dX10_number_132 (lv_at hl 0 rfl) ?_
              refine lv_iload_n hx hb dX10_number_134 rfl (lv_at hl 5 rfl) ?_
              refine lv_iload_n hx hb dX10_number_135 rfl (lv_at hl 6 rfl) ?_
              refine hx_goi (hx_runS (As := [.int iv39_6, .int i1, .int i2]) (rest := []) ⟨hx, hb, hml, hown, hts⟩ hW (t_X10_in l dC dI dA hL1 h_17 H.size iv39_6 i1 i2 hT) (va_cwS 3 hts (hx_gS kw_1445 kw_1443 kw_1444 kw_103) rfl rfl rfl (by decide +kernel) ⟨Nat.le_of_ble_eq_true rfl, Nat.le_of_ble_eq_true rfl⟩) rfl hl.1 rfl (Nat.le_of_ble_eq_true rfl) dX10_number_136 ⟨Nat.le_of_ble_eq_true rfl, Nat.le_of_ble_eq_true rfl⟩) hW (fun r_29 L_27 h_28 H locs p_30 hW => ?_)
              obtain ⟨hr_31, hT, hs⟩ := p_30
              replace hT : hx_T T_tb L_27 h_28 := hT
              replace hs : hx_S T_tb [] hL1 h_17 L_27 h_28 := hs
              replace f_x_9 := (hs.o (gx.S hM) trivial rfl).1.trans f_x_9
              replace ffw39_x_8 := (hs.o (gx.S hM) trivial rfl).1.trans ffw39_x_8
              replace f_18 := (hs.o (gx.S hM) trivial rfl).1.trans f_18
              replace hM := hM.tr (hs.mono ?o55)
              case o55 => decide
              refine hb_if_ne (zx := r_29.toInt) (tgt := 152) hx hb rfl dX10_number_139 ?o56 (fun c_32 => ?_) (fun c_32 => ?_)
              case o56 => decide
              · skip
                replace hr_31 := hr_31.resolve_left (fun z9 => c_32 z9.1)
                replace c_32 := hr_31.1
                replace hr_31 := hr_31.2
                refine lv_iconst (v := 1) hx hb dX10_number_152 ?o57 ?_
                case o57 => decide
                refine lv_goto (tgt := 157) hx hb dX10_number_153 ?o58 ?_
                case o58 => decide
                refine hx_retz hx hb hr rfl hlk hW ⟨⟨fw39_x_8, iv39_6, ft0, ffw39_x_8, f_18, f_x_9, ⟨(Or.inl ⟨?o59, ?o60, ?o61, (hv_num_3 (by rw [← ek_7]; exact ⟨by omega, hdg.2⟩) (by rw [← ek_7]; omega) (by rw [← ek_7]; omega) (by rw [← ek_7]; omega)).trans (by rw [← ek_7, show hv_dv tf w_6.toInt.toNat (hv_de tf tp0.toInt.toNat w_6.toInt.toNat - w_6.toInt.toNat) = iv39_6.toInt by omega, show hv_de tf tp0.toInt.toNat w_6.toInt.toNat = fw39_x_8.toInt.toNat by omega])⟩), (fun _ => ⟨?o62, ?o63, ?o64, ?o65⟩), ?o66⟩⟩, hT, hM⟩ dX10_number_157
                case o59 => decide
                case o60 => omega
                case o61 => omega
                case o62 => omega
                case o63 => omega
                case o64 => omega
                case o65 => omega
                case o66 => omega
              · skip
                replace hr_31 := hr_31.resolve_right (fun z9 => absurd (c_32.symm.trans z9.1) ?o67)
                case o67 => decide
                replace hr_31 := hr_31.2
                refine lv_aload_n hx hb dX10_number_142 rfl (lv_at hl 4 rfl) ?_
                refine lv_iconst (v := 1) hx hb dX10_number_143 ?o68 ?_
                case o68 => decide
                refine lv_iload hx hb dX10_number_144 (lv_at hl 2 rfl) ?_
                have zc_1 : (1 : Int32).toInt = 1 := ?o69
                case o69 => decide
                refine hx_goi (hx_runV (As := [.int (1 : Int32), .int w_6]) (rest := []) ⟨hx, hb, hml, hown, hts⟩ hW (gx.S hM) tt_10 (T := TX10) (N := 98) rfl (t_X10_fails_v l dC dI dA L_27 h_28 H.size x (1 : Int32) w_6 hT (gx.S hM) ft0 f_x_9 ?o70 ?o71 ⟨?o72, ?o73⟩) (cwV 2 hts (hx_gV kw_1480 kw_1477 kw_1479 kw_56 kw_103) rfl rfl rfl (by decide +kernel) ⟨Nat.le_of_ble_eq_true rfl, Nat.le_of_ble_eq_true rfl⟩) rfl hl.1 rfl (Nat.le_of_ble_eq_true rfl) dX10_number_146 ⟨Nat.le_of_ble_eq_true rfl, Nat.le_of_ble_eq_true rfl⟩) hW (fun r_35 L_33 h_34 H locs p_36 hW => ?_)
                case o70 => omega
                case o71 => decide
                case o72 => omega
                case o73 => omega
                obtain ⟨⟨w_38, fw_38, hr_37⟩, hT, hs⟩ := p_36
                replace hT : hx_T T_tb L_33 h_34 := hT
                replace hs : hx_S T_tb [(10, 9)] L_27 h_28 L_33 h_34 := hs
                replace ffw39_x_8 := (hs.o (gx.S hM) trivial rfl).1.trans ffw39_x_8
                replace f_18 := (hs.o (gx.S hM) trivial rfl).1.trans f_18
                replace hM := hM.tr (hs.mono ?o74)
                case o74 => decide
                have fw_38 : h_34.2.1 x 9 = w_38 := fw_38
                have bw_38 := hT.gi (gx.S hM) tt_10 (k := 9) rfl
                rw [fw_38] at bw_38
                have bw_38 : -2147483648 ≤ w_38.toInt ∧ w_38.toInt ≤ 2147483647 := bw_38
                refine hb_if_eq (zx := r_35.toInt) (tgt := 156) hx hb rfl dX10_number_149 ?o75 (fun c_39 => ?_) (fun c_39 => ?o76)
                case o75 => decide
                case o76 =>
                  exfalso
                  omega
                refine lv_iconst (v := 0) hx hb dX10_number_156 ?o77 ?_
                case o77 => decide
                refine hx_retz hx hb hr rfl hlk hW ⟨⟨fw39_x_8, iv39_6, w_38, ffw39_x_8, f_18, fw_38, ⟨(Or.inr ⟨?o78, ?o79, (hv_num_2 (by rw [← ek_7]; exact ⟨by omega, hdg.2⟩) (by rw [← ek_7]; omega)).trans (by rw [← ek_7]; congr 1; omega)⟩), (fun z9 => absurd z9 ?o80), ?o81⟩⟩, hT, hM⟩ dX10_number_157
                case o78 => decide
                case o79 => omega
                case o80 => decide
                case o81 => omega
          refine hk_geti hx hb hts hC_10 hown hW (gx.S hM) tt_10 8 ?o82 rfl kw_1151 ⟨rfl, rfl, rfl⟩ ffw39_x_8 dX10_number_40 ?_
          case o82 => decide
          refine lv_aload_n hx hb dX10_number_43 rfl (lv_at hl 4 rfl) ?_
          refine hk_geti hx hb hts hC_10 hown hW (gx.S hM) tt_10 7 ?o83 rfl kw_1150 ⟨rfl, rfl, rfl⟩ ((hM.o gx trivial rfl).1.trans f_x_7) dX10_number_44 ?_
          case o83 => decide
          refine hb_icmp_ge (zx := fw39_x_8.toInt) (zy := tp0.toInt) (tgt := 120) hx hb rfl rfl dX10_number_47 ?o84 (fun c_40 => ?_) (fun c_40 => ?_)
          case o84 => decide
          · skip
            exact join120  _ _ hL1 hl1  (by rw [vi39_0]; exact hv_sn_o (by omega) (fun z9 => by exfalso; omega)) ls hW hT hM f_x_9 ffw39_x_8  (lv_sub hl [0, 1, 2, 3, 4, 5, 6] rfl)
          · skip
            refine lv_aload_n hx hb dX10_number_50 rfl (lv_at hl 4 rfl) ?_
            refine hk_getr hx hb hts hC_10 hown hW (gx.S hM) tt_10 6 ?o85 rfl kw_1149 ⟨rfl, rfl, rfl⟩ ((hM.o gx trivial rfl).2.trans f_x_6) dX10_number_51 ?_
            case o85 => decide
            refine lv_aload_n hx hb dX10_number_54 rfl (lv_at hl 4 rfl) ?_
            refine hk_geti hx hb hts hC_10 hown hW (gx.S hM) tt_10 8 ?o86 rfl kw_1151 ⟨rfl, rfl, rfl⟩ ffw39_x_8 dX10_number_55 ?_
            case o86 => decide
            refine hx_bald hx hb hW hT (gqt.S hM) tt_53 rfl ⟨?o87, ?o88⟩ dX10_number_58 (fun x_41 ex_41 lx_41 ux_41 => ?_)
            case o87 => omega
            case o88 => omega
            have ax_41 : x_41 = tf fw39_x_8.toNatClampNeg := ex_41.trans (congrFun (hx_afS hM gqt rfl af_qt) _)
            refine lv_bipush (v := 48) hx hb dX10_number_59 ?o89 ?_
            case o89 => decide
            refine hb_icmp_lt (zx := x_41.toInt) (zy := 48) (tgt := 120) hx hb rfl ?o90 dX10_number_61 ?o91 (fun c_42 => ?_) (fun c_42 => ?_)
            case o90 => decide
            case o91 => decide
            · skip
              exact join120  _ _ hL1 hl1  (by rw [vi39_0]; exact hv_sn_o (by omega) (fun z9 => hv_dg_f ax_41 (by omega))) ls hW hT hM f_x_9 ffw39_x_8  (lv_sub hl [0, 1, 2, 3, 4, 5, 6] rfl)
            · skip
              refine lv_aload_n hx hb dX10_number_64 rfl (lv_at hl 4 rfl) ?_
              refine hk_getr hx hb hts hC_10 hown hW (gx.S hM) tt_10 6 ?o92 rfl kw_1149 ⟨rfl, rfl, rfl⟩ ((hM.o gx trivial rfl).2.trans f_x_6) dX10_number_65 ?_
              case o92 => decide
              refine lv_aload_n hx hb dX10_number_68 rfl (lv_at hl 4 rfl) ?_
              refine hk_geti hx hb hts hC_10 hown hW (gx.S hM) tt_10 8 ?o93 rfl kw_1151 ⟨rfl, rfl, rfl⟩ ffw39_x_8 dX10_number_69 ?_
              case o93 => decide
              refine hx_bald hx hb hW hT (gqt.S hM) tt_53 rfl ⟨?o94, ?o95⟩ dX10_number_72 (fun x_43 ex_43 lx_43 ux_43 => ?_)
              case o94 => omega
              case o95 => omega
              have ax_43 : x_43 = tf fw39_x_8.toNatClampNeg := ex_43.trans (congrFun (hx_afS hM gqt rfl af_qt) _)
              obtain rfl : x_41 = x_43 := ex_41.trans ex_43.symm
              refine lv_bipush (v := 57) hx hb dX10_number_73 ?o96 ?_
              case o96 => decide
              refine hb_icmp_gt (zx := x_41.toInt) (zy := 57) (tgt := 120) hx hb rfl ?o97 dX10_number_75 ?o98 (fun c_44 => ?_) (fun c_44 => ?_)
              case o97 => decide
              case o98 => decide
              · skip
                exact join120  _ _ hL1 hl1  (by rw [vi39_0]; exact hv_sn_o (by omega) (fun z9 => hv_dg_f ax_41 (by omega))) ls hW hT hM f_x_9 ffw39_x_8  (lv_sub hl [0, 1, 2, 3, 4, 5, 6] rfl)
              · skip
                refine lv_iload hx hb dX10_number_78 (lv_at hl 1 rfl) ?_
                refine lv_iconst (v := 4) hx hb dX10_number_80 ?o99 ?_
                case o99 => decide
                refine hb_icmp_ge (zx := iv39_5.toInt) (zy := 4) (tgt := 104) hx hb rfl ?o100 dX10_number_81 ?o101 (fun c_45 => ?_) (fun c_45 => ?_)
                case o100 => decide
                case o101 => decide
                · skip
                  obtain ⟨x_46, ex_46⟩ : ∃ y : Int32, y = iv39_5 + Int32.ofInt 1 := ⟨_, rfl⟩
                  have rg_47 := i32_r iv39_5
                  have zx_46 : x_46.toInt = iv39_5.toInt + (1) := ?o102
                  case o102 =>
                    rw [ex_46]
                    refine i32_add rfl ?o103 ?o104 ?o105
                    case o103 => decide
                    case o104 => omega
                    case o105 => omega
                  refine lv_iinc (v := x_46) (lv' := [(5, .int x_46), (6, .int iv39_6), (4, .int w_6), (3, .int r_3), (0, .ref x), (1, .int i1), (2, .int i2)]) hx hb dX10_number_104 hl (k := 1) rfl ex_46.symm ?o106 rfl (fun ls hl => ?_)
                  case o106 => decide
                  refine lv_aload_n hx hb dX10_number_107 rfl (lv_at hl 4 rfl) ?_
                  refine lv_dup hx hb dX10_number_108 rfl ?_
                  refine hk_geti hx hb hts hC_10 hown hW (gx.S hM) tt_10 8 ?o107 rfl kw_1151 ⟨rfl, rfl, rfl⟩ ffw39_x_8 dX10_number_109 ?_
                  case o107 => decide
                  refine lv_iconst (v := 1) hx hb dX10_number_112 ?o108 ?_
                  case o108 => decide
                  refine lv_iadd hx hb dX10_number_113 ?_
                  have rg_48 := i32_r fw39_x_8
                  refine lv_topi (fun x_49 ex_49 => ?_)
                  have zx_49 : x_49.toInt = fw39_x_8.toInt + 1 := ?o109
                  case o109 =>
                    rw [ex_49]
                    refine i32_add rfl ?o110 ?o111 ?o112
                    case o110 => decide
                    case o111 => omega
                    case o112 => omega
                  refine hx_puti hx hb hts hC_10 hown hW hT (hx_S.rf (M := [(10, 8)])) (gx.S hM) tt_10 8 ?o113 rfl kw_1151 ⟨rfl, rfl, rfl⟩ rfl (x := x_49) ⟨?o114, ?o115⟩ rfl rfl rfl (List.mem_singleton.mpr rfl) dX10_number_114 (fun H locs h_50 eh_50 hW hT hs => ?_)
                  case o113 => decide
                  case o114 => omega
                  case o115 => omega
                  replace f_x_9 := (hs.o (gx.S hM) trivial rfl).1.trans f_x_9
                  replace ex_41 := ex_41.trans (hs.a (gqt.S hM) rfl _).1.symm
                  replace hM := hM.tr (hs.mono ?o116)
                  case o116 => decide
                  have f_51 : h_50.2.1 x 8 = x_49 := ?o117
                  case o117 =>
                    rw [eh_50]
                    exact hx_pi_at _ _ _ _
                  refine lv_goto (tgt := 39) hx hb dX10_number_117 ?o118 ?_
                  case o118 => decide
                  refine ih39 x_46 iv39_6 x_49 _ _ hL1 h_50 ?o119 ?o120 ?o121 ?o122 ?o123 ?o124 (vi39_0.trans (hv_sn_i ?o125 ?o126 (hv_dg_t ax_41 ?o127 ?o128) zx_49)) (hv_dvm_k vi39_1 ?o129 zx_46) ?o130 ?o131 ?o132 ls ?o133 hW hT hM f_51 f_x_9  (lv_sub hl [1, 0, 2, 3, 4, 5, 6] rfl)
                  case o119 => omega
                  case o120 => omega
                  case o121 => omega
                  case o122 => omega
                  case o123 => omega
                  case o124 => omega
                  case o125 => omega
                  case o126 => omega
                  case o127 => omega
                  case o128 => omega
                  case o129 => omega
                  case o130 => omega
                  case o131 => omega
                  case o132 => omega
                  case o133 => omega
                · skip
                  refine lv_bipush (v := 10) hx hb dX10_number_84 ?o134 ?_
                  case o134 => decide
                  refine lv_iload hx hb dX10_number_86 (lv_at hl 0 rfl) ?_
                  refine lv_imul hx hb dX10_number_88 ?_
                  refine lv_topi (fun x_52 ex_52 => ?_)
                  have zx_52 : x_52.toInt = 10 * iv39_6.toInt := ?o135
                  case o135 =>
                    rw [ex_52]
                    refine i32_mul ?o136 rfl rfl ?o137 ?o138
                    case o136 => decide
                    case o137 => omega
                    case o138 => omega
                  refine lv_aload_n hx hb dX10_number_89 rfl (lv_at hl 4 rfl) ?_
                  refine hk_getr hx hb hts hC_10 hown hW (gx.S hM) tt_10 6 ?o139 rfl kw_1149 ⟨rfl, rfl, rfl⟩ ((hM.o gx trivial rfl).2.trans f_x_6) dX10_number_90 ?_
                  case o139 => decide
                  refine lv_aload_n hx hb dX10_number_93 rfl (lv_at hl 4 rfl) ?_
                  refine hk_geti hx hb hts hC_10 hown hW (gx.S hM) tt_10 8 ?o140 rfl kw_1151 ⟨rfl, rfl, rfl⟩ ffw39_x_8 dX10_number_94 ?_
                  case o140 => decide
                  refine hx_bald hx hb hW hT (gqt.S hM) tt_53 rfl ⟨?o141, ?o142⟩ dX10_number_97 (fun x_53 ex_53 lx_53 ux_53 => ?_)
                  case o141 => omega
                  case o142 => omega
                  have ax_53 : x_53 = tf fw39_x_8.toNatClampNeg := ex_53.trans (congrFun (hx_afS hM gqt rfl af_qt) _)
                  obtain rfl : x_41 = x_53 := ex_41.trans ex_53.symm
                  refine lv_iadd hx hb dX10_number_98 ?_
                  have rg_54 := i32_r x_52
                  have rg_55 := i32_r x_41
                  refine lv_topi (fun x_56 ex_56 => ?_)
                  have zx_56 : x_56.toInt = x_52.toInt + x_41.toInt := ?o143
                  case o143 =>
                    rw [ex_56]
                    refine i32_add rfl rfl ?o144 ?o145
                    case o144 => omega
                    case o145 => omega
                  refine lv_bipush (v := 48) hx hb dX10_number_99 ?o146 ?_
                  case o146 => decide
                  refine lv_isub hx hb dX10_number_101 ?_
                  have rg_57 := i32_r x_56
                  refine lv_topi (fun x_58 ex_58 => ?_)
                  have zx_58 : x_58.toInt = x_56.toInt - 48 := ?o147
                  case o147 =>
                    rw [ex_58]
                    refine i32_sub rfl ?o148 ?o149 ?o150
                    case o148 => decide
                    case o149 => omega
                    case o150 => omega
                  refine lv_istore (lv' := [(6, .int x_58), (5, .int iv39_5), (4, .int w_6), (3, .int r_3), (0, .ref x), (1, .int i1), (2, .int i2)]) hx hb dX10_number_102 hl ?o151 rfl (fun ls hl => ?_)
                  case o151 => decide
                  obtain ⟨x_59, ex_59⟩ : ∃ y : Int32, y = iv39_5 + Int32.ofInt 1 := ⟨_, rfl⟩
                  have rg_60 := i32_r iv39_5
                  have zx_59 : x_59.toInt = iv39_5.toInt + (1) := ?o152
                  case o152 =>
                    rw [ex_59]
                    refine i32_add rfl ?o153 ?o154 ?o155
                    case o153 => decide
                    case o154 => omega
                    case o155 => omega
                  refine lv_iinc (v := x_59) (lv' := [(5, .int x_59), (6, .int x_58), (4, .int w_6), (3, .int r_3), (0, .ref x), (1, .int i1), (2, .int i2)]) hx hb dX10_number_104 hl (k := 1) rfl ex_59.symm ?o156 rfl (fun ls hl => ?_)
                  case o156 => decide
                  refine lv_aload_n hx hb dX10_number_107 rfl (lv_at hl 4 rfl) ?_
                  refine lv_dup hx hb dX10_number_108 rfl ?_
                  refine hk_geti hx hb hts hC_10 hown hW (gx.S hM) tt_10 8 ?o157 rfl kw_1151 ⟨rfl, rfl, rfl⟩ ffw39_x_8 dX10_number_109 ?_
                  case o157 => decide
                  refine lv_iconst (v := 1) hx hb dX10_number_112 ?o158 ?_
                  case o158 => decide
                  refine lv_iadd hx hb dX10_number_113 ?_
                  have rg_61 := i32_r fw39_x_8
                  refine lv_topi (fun x_62 ex_62 => ?_)
                  have zx_62 : x_62.toInt = fw39_x_8.toInt + 1 := ?o159
                  case o159 =>
                    rw [ex_62]
                    refine i32_add rfl ?o160 ?o161 ?o162
                    case o160 => decide
                    case o161 => omega
                    case o162 => omega
                  refine hx_puti hx hb hts hC_10 hown hW hT (hx_S.rf (M := [(10, 8)])) (gx.S hM) tt_10 8 ?o163 rfl kw_1151 ⟨rfl, rfl, rfl⟩ rfl (x := x_62) ⟨?o164, ?o165⟩ rfl rfl rfl (List.mem_singleton.mpr rfl) dX10_number_114 (fun H locs h_63 eh_63 hW hT hs => ?_)
                  case o163 => decide
                  case o164 => omega
                  case o165 => omega
                  replace f_x_9 := (hs.o (gx.S hM) trivial rfl).1.trans f_x_9
                  replace ex_41 := ex_41.trans (hs.a (gqt.S hM) rfl _).1.symm
                  replace hM := hM.tr (hs.mono ?o166)
                  case o166 => decide
                  have f_64 : h_63.2.1 x 8 = x_62 := ?o167
                  case o167 =>
                    rw [eh_63]
                    exact hx_pi_at _ _ _ _
                  refine lv_goto (tgt := 39) hx hb dX10_number_117 ?o168 ?_
                  case o168 => decide
                  refine ih39 x_59 x_58 x_62 _ _ hL1 h_63 ?o169 ?o170 ?o171 ?o172 ?o173 ?o174 (vi39_0.trans (hv_sn_i ?o175 ?o176 (hv_dg_t ax_41 ?o177 ?o178) zx_62)) (hv_dvm_s (f := 0) (i := fw39_x_8) vi39_1 ?o179 ?o180 ?o181 ?o182 ax_41 ?o183 zx_59) ?o184 ?o185 ?o186 ls ?o187 hW hT hM f_64 f_x_9  (lv_sub hl [1, 0, 2, 3, 4, 5, 6] rfl)
                  case o169 => omega
                  case o170 => omega
                  case o171 => omega
                  case o172 => omega
                  case o173 => omega
                  case o174 => omega
                  case o175 => omega
                  case o176 => omega
                  case o177 => omega
                  case o178 => omega
                  case o179 => omega
                  case o180 => omega
                  case o181 => omega
                  case o182 => omega
                  case o183 => omega
                  case o184 => omega
                  case o185 => omega
                  case o186 => omega
                  case o187 => omega
      have zk_0 : (0 : Int32).toInt = 0 := ?o188
      case o188 => decide
      have zk_0 : (0 : Int32).toInt = 0 := ?o189
      case o189 => decide
      refine loop39 403 (0 : Int32) (0 : Int32) w_6 _ _ L_1 h_2 ?o190 ?o191 ?o192 ?o193 ?o194 ?o195 rfl (by rw [zk_0]; rfl) ?o196 ?o197 ?o198 ls ?o199 hW hT hM fw_6 f_x_9  hl
      case o190 => decide
      case o191 => decide
      case o192 => decide
      case o193 => decide
      case o194 => omega
      case o195 => omega
      case o196 => omega
      case o197 => omega
      case o198 => omega
      case o199 => omega
    · skip
      refine lv_aload_n hx hb dX10_number_17 rfl (lv_at hl 1 rfl) ?_
      refine lv_iconst (v := 0) hx hb dX10_number_18 ?o200 ?_
      case o200 => decide
      refine lv_aload_n hx hb dX10_number_19 rfl (lv_at hl 1 rfl) ?_
      refine hk_geti hx hb hts hC_10 hown hW (gx.S hM) tt_10 8 ?o201 rfl kw_1151 ⟨rfl, rfl, rfl⟩ fw_6 dX10_number_20 ?_
      case o201 => decide
      have zc_0 : (0 : Int32).toInt = 0 := ?o202
      case o202 => decide
      refine hx_goi (hx_runV (As := [.int (0 : Int32), .int w_6]) (rest := []) ⟨hx, hb, hml, hown, hts⟩ hW (gx.S hM) tt_10 (T := TX10) (N := 98) rfl (t_X10_fails_v l dC dI dA L_1 h_2 H.size x (0 : Int32) w_6 hT (gx.S hM) ft0 f_x_9 ?o203 ?o204 ⟨?o205, ?o206⟩) (cwV 2 hts (hx_gV kw_1480 kw_1477 kw_1479 kw_56 kw_103) rfl rfl rfl (by decide +kernel) ⟨Nat.le_of_ble_eq_true rfl, Nat.le_of_ble_eq_true rfl⟩) rfl hl.1 rfl (Nat.le_of_ble_eq_true rfl) dX10_number_23 ⟨Nat.le_of_ble_eq_true rfl, Nat.le_of_ble_eq_true rfl⟩) hW (fun r_67 L_65 h_66 H locs p_68 hW => ?_)
      case o203 => omega
      case o204 => decide
      case o205 => omega
      case o206 => omega
      obtain ⟨⟨w_70, fw_70, hr_69⟩, hT, hs⟩ := p_68
      replace hT : hx_T T_tb L_65 h_66 := hT
      replace hs : hx_S T_tb [(10, 9)] L_1 h_2 L_65 h_66 := hs
      replace fw_6 := (hs.o (gx.S hM) trivial rfl).1.trans fw_6
      replace hM := hM.tr (hs.mono ?o207)
      case o207 => decide
      have fw_70 : h_66.2.1 x 9 = w_70 := fw_70
      have bw_70 := hT.gi (gx.S hM) tt_10 (k := 9) rfl
      rw [fw_70] at bw_70
      have bw_70 : -2147483648 ≤ w_70.toInt ∧ w_70.toInt ≤ 2147483647 := bw_70
      obtain ⟨fv_71, efv_71⟩ : ∃ y : Int32, y = h_66.2.1 x 10 := ⟨_, rfl⟩
      have bfv_71 := hT.gi (gx.S hM) tt_10 (k := 10) rfl
      rw [← efv_71] at bfv_71
      have bfv_71 : 0 ≤ fv_71.toInt ∧ fv_71.toInt ≤ 9999 := bfv_71
      have ffv_71 := efv_71.symm
      refine hx_retz hx hb hr (hx_nar01 ?o208) hlk hW ⟨⟨w_6, fv_71, w_70, fw_6, ffv_71, fw_70, ⟨(Or.inr ⟨?o209, ?o210, (hv_num_1 (by rw [← ek_7]; have h8 := hv_SE_nd hr_5S (by omega); exact fun z9 => h8 (by omega))).trans (by rw [← ek_7]; congr 1; omega)⟩), (fun z9 => ?o211), ?o212⟩⟩, hT, hM⟩ dX10_number_26
      case o208 => omega
      case o209 => omega
      case o210 => omega
      case o211 =>
        exfalso
        omega
      case o212 => omega
end
