theorem dX9_feedBytes_0 : decode cX9_feedBytes 0 = .ok (.bipush 24, 2) := by decide +kernel
theorem dX9_feedBytes_2 : decode cX9_feedBytes 2 = .ok (.istore_n 2, 1) := by decide +kernel
theorem dX9_feedBytes_3 : decode cX9_feedBytes 3 = .ok (.iload_n 2, 1) := by decide +kernel
theorem dX9_feedBytes_4 : decode cX9_feedBytes 4 = .ok (.ifCond .lt 42, 3) := by decide +kernel
theorem dX9_feedBytes_7 : decode cX9_feedBytes 7 = .ok (.aload_n 0, 1) := by decide +kernel
theorem dX9_feedBytes_8 : decode cX9_feedBytes 8 = .ok (.getfield 98, 3) := by decide +kernel
theorem dX9_feedBytes_11 : decode cX9_feedBytes 11 = .ok (.sipush 400, 3) := by decide +kernel
theorem dX9_feedBytes_14 : decode cX9_feedBytes 14 = .ok (.if_icmp .ge 32, 3) := by decide +kernel
theorem dX9_feedBytes_17 : decode cX9_feedBytes 17 = .ok (.aload_n 0, 1) := by decide +kernel
theorem dX9_feedBytes_18 : decode cX9_feedBytes 18 = .ok (.getfield 9, 3) := by decide +kernel
theorem dX9_feedBytes_21 : decode cX9_feedBytes 21 = .ok (.aload_n 0, 1) := by decide +kernel
theorem dX9_feedBytes_22 : decode cX9_feedBytes 22 = .ok (.getfield 98, 3) := by decide +kernel
theorem dX9_feedBytes_25 : decode cX9_feedBytes 25 = .ok (.iload_n 1, 1) := by decide +kernel
theorem dX9_feedBytes_26 : decode cX9_feedBytes 26 = .ok (.iload_n 2, 1) := by decide +kernel
theorem dX9_feedBytes_27 : decode cX9_feedBytes 27 = .ok (.ishr, 1) := by decide +kernel
theorem dX9_feedBytes_28 : decode cX9_feedBytes 28 = .ok (.i2b, 1) := by decide +kernel
theorem dX9_feedBytes_29 : decode cX9_feedBytes 29 = .ok (.bastore, 1) := by decide +kernel
theorem dX9_feedBytes_30 : decode cX9_feedBytes 30 = .ok (.aload_n 0, 1) := by decide +kernel
theorem dX9_feedBytes_31 : decode cX9_feedBytes 31 = .ok (.dup, 1) := by decide +kernel
theorem dX9_feedBytes_32 : decode cX9_feedBytes 32 = .ok (.getfield 98, 3) := by decide +kernel
theorem dX9_feedBytes_35 : decode cX9_feedBytes 35 = .ok (.iconst 1, 1) := by decide +kernel
theorem dX9_feedBytes_36 : decode cX9_feedBytes 36 = .ok (.iadd, 1) := by decide +kernel
theorem dX9_feedBytes_37 : decode cX9_feedBytes 37 = .ok (.putfield 98, 3) := by decide +kernel
theorem dX9_feedBytes_40 : decode cX9_feedBytes 40 = .ok (.iinc 2 (-8), 3) := by decide +kernel
theorem dX9_feedBytes_43 : decode cX9_feedBytes 43 = .ok (.goto (-40), 3) := by decide +kernel
theorem dX9_feedBytes_46 : decode cX9_feedBytes 46 = .ok (.return_, 1) := by decide +kernel
set_option maxHeartbeats 4000000 in
set_option maxRecDepth 100000 in
theorem c_X9_feedBytes_0 (l : Launch) (dC : Nat → ClassId) (dI : Nat → Nat → Nat) (dA : Nat → ClassId) (L : List Nat) (h : hx_h) (sz : Nat) (x : Nat) (i1 : Int32) (gx : hx_g L h x 9) (f_x_1 : h.2.1 x 1 = 0) (qt : Nat) (gqt : hx_g L h qt 42) (f_x_0 : h.2.2 x 0 = some qt) : Met l yX9_feedBytes (Cond.code yX9_feedBytes cX9_feedBytes 3 none :: hx_all) ({ frames := 0, cells := 0, slots := 0, locals := 0 }) (va_Pc [.ref x, .int i1] (hx_B P_tb (P_ty dA) (dC, dI) vwCl L h sz)) (va_Qv (fun (u : List Nat × hx_h) => hx_S P_tb [(9, 1), (42, 0)] L h u.1 u.2 ∧ u.2.2.1 x 1 = (4 : Int32)) (hx_E P_tb (P_ty dA) (dC, dI) vwCl (hx_A L sz)) (hx_A L sz)) 0 0 (hx_A L sz) := by
  refine hx_met (lv := [(0, .ref x), (1, .int i1)]) (by decide +kernel) rfl (Nat.le_of_ble_eq_true rfl) rfl ?_
  intro p e s m below meth c hx hb hml hr hlk hts0 hown hin hsz hW ls hl
  have hts : ∀ w ∈ hx_all, w.before _ s = true := fun w hw => hts0 w (List.mem_cons_of_mem _ hw)
  have hown : s.vm.findClass "SmallCourt" = some m.cls := hown
  have hM : hx_S P_tb [(9, 1), (42, 0)] L h L h := hx_S.rf
  refine lv_bipush (v := 24) hx hb dX9_feedBytes_0 (by decide) ?_
  refine lv_istore_n (lv' := [(2, .int (24 : Int32)), (0, .ref x), (1, .int i1)]) hx hb dX9_feedBytes_2 rfl hl (by decide) rfl (fun ls hl => ?_)
  refine lv_iload_n hx hb dX9_feedBytes_3 rfl (lv_at hl 0 rfl) ?_
  refine hb_if_lt (zx := 24) (tgt := 46) hx hb (by decide) dX9_feedBytes_4 (by decide) (fun c_1 => absurd c_1 (by decide)) (fun c_1 => ?_)
  refine lv_aload_n hx hb dX9_feedBytes_7 rfl (lv_at hl 1 rfl) ?_
  refine hk_geti hx hb hts hC_9 hown hW gx td_9 1 (by decide) rfl kw_365 ⟨rfl, rfl, rfl⟩ f_x_1 dX9_feedBytes_8 ?_
  refine lv_sipush (v := 400) hx hb dX9_feedBytes_11 (by decide) ?_
  refine hb_icmp_ge (zx := 0) (zy := 400) (tgt := 46) hx hb (by decide) (by decide) dX9_feedBytes_14 (by decide) (fun c_2 => absurd c_2 (by decide)) (fun c_2 => ?_)
  refine lv_aload_n hx hb dX9_feedBytes_17 rfl (lv_at hl 1 rfl) ?_
  refine hk_getr hx hb hts hC_9 hown hW gx td_9 0 (by decide) rfl kw_364 ⟨rfl, rfl, rfl⟩ f_x_0 dX9_feedBytes_18 ?_
  refine lv_aload_n hx hb dX9_feedBytes_21 rfl (lv_at hl 1 rfl) ?_
  refine hk_geti hx hb hts hC_9 hown hW gx td_9 1 (by decide) rfl kw_365 ⟨rfl, rfl, rfl⟩ f_x_1 dX9_feedBytes_22 ?_
  refine lv_iload_n hx hb dX9_feedBytes_25 rfl (lv_at hl 2 rfl) ?_
  refine lv_iload_n hx hb dX9_feedBytes_26 rfl (lv_at hl 0 rfl) ?_
  refine lv_ishr hx hb dX9_feedBytes_27 ?_
  refine lv_topi (fun x_3 ex_3 => ?_)
  refine lv_i2b hx hb dX9_feedBytes_28 rfl ?_
  refine lv_topi (fun x_4 ex_4 => ?_)
  refine hk_bast hx hb hW gqt td_42 rfl (by decide) (y := _) rfl dX9_feedBytes_29 (fun H locs h_5 eh_5 hW hs => ?_)
  have f_x_1 := (hs.o gx trivial rfl).1.trans f_x_1
  have f_x_0 := (hs.o gx trivial rfl).2.trans f_x_0
  have hM := hM.tr (hs.mono (by decide))
  have gx := gx.S hs
  have gqt := gqt.S hs
  refine lv_aload_n hx hb dX9_feedBytes_30 rfl (lv_at hl 1 rfl) ?_
  refine lv_dup hx hb dX9_feedBytes_31 rfl ?_
  refine hk_geti hx hb hts hC_9 hown hW gx td_9 1 (by decide) rfl kw_365 ⟨rfl, rfl, rfl⟩ f_x_1 dX9_feedBytes_32 ?_
  refine lv_iconst (v := 1) hx hb dX9_feedBytes_35 (by decide) ?_
  refine lv_iadd hx hb dX9_feedBytes_36 ?_
  refine lv_topi (fun x_6 ex_6 => ?_)
  obtain rfl : x_6 = (1 : Int32) := ex_6.trans (by decide)
  refine hk_puti hx hb hts hC_9 hown hW gx td_9 1 (by decide) rfl kw_365 ⟨rfl, rfl, rfl⟩ rfl (x := (1 : Int32)) rfl rfl rfl dX9_feedBytes_37 (fun H locs h_7 eh_7 hW hs => ?_)
  have f_x_0 := (hs.o gx trivial rfl).2.trans f_x_0
  have hM := hM.tr (hs.mono (by decide))
  have gx := gx.S hs
  have gqt := gqt.S hs
  have f_8 : h_7.2.1 x 1 = (1 : Int32) := by rw [eh_7]; exact hx_pi_at _ _ _ _
  refine lv_iinc (v := 16) (lv' := [(2, .int (16 : Int32)), (0, .ref x), (1, .int i1)]) hx hb dX9_feedBytes_40 hl (k := 0) rfl (by decide) (by decide) rfl (fun ls hl => ?_)
  refine lv_goto (tgt := 3) hx hb dX9_feedBytes_43 (by decide) ?_
  refine lv_iload_n hx hb dX9_feedBytes_3 rfl (lv_at hl 0 rfl) ?_
  refine hb_if_lt (zx := 16) (tgt := 46) hx hb (by decide) dX9_feedBytes_4 (by decide) (fun c_9 => absurd c_9 (by decide)) (fun c_9 => ?_)
  refine lv_aload_n hx hb dX9_feedBytes_7 rfl (lv_at hl 1 rfl) ?_
  refine hk_geti hx hb hts hC_9 hown hW gx td_9 1 (by decide) rfl kw_365 ⟨rfl, rfl, rfl⟩ f_8 dX9_feedBytes_8 ?_
  refine lv_sipush (v := 400) hx hb dX9_feedBytes_11 (by decide) ?_
  refine hb_icmp_ge (zx := 1) (zy := 400) (tgt := 46) hx hb (by decide) (by decide) dX9_feedBytes_14 (by decide) (fun c_10 => absurd c_10 (by decide)) (fun c_10 => ?_)
  refine lv_aload_n hx hb dX9_feedBytes_17 rfl (lv_at hl 1 rfl) ?_
  refine hk_getr hx hb hts hC_9 hown hW gx td_9 0 (by decide) rfl kw_364 ⟨rfl, rfl, rfl⟩ f_x_0 dX9_feedBytes_18 ?_
  refine lv_aload_n hx hb dX9_feedBytes_21 rfl (lv_at hl 1 rfl) ?_
  refine hk_geti hx hb hts hC_9 hown hW gx td_9 1 (by decide) rfl kw_365 ⟨rfl, rfl, rfl⟩ f_8 dX9_feedBytes_22 ?_
  refine lv_iload_n hx hb dX9_feedBytes_25 rfl (lv_at hl 2 rfl) ?_
  refine lv_iload_n hx hb dX9_feedBytes_26 rfl (lv_at hl 0 rfl) ?_
  refine lv_ishr hx hb dX9_feedBytes_27 ?_
  refine lv_topi (fun x_11 ex_11 => ?_)
  refine lv_i2b hx hb dX9_feedBytes_28 rfl ?_
  refine lv_topi (fun x_12 ex_12 => ?_)
  refine hk_bast hx hb hW gqt td_42 rfl (by decide) (y := _) rfl dX9_feedBytes_29 (fun H locs h_13 eh_13 hW hs => ?_)
  have f_x_0 := (hs.o gx trivial rfl).2.trans f_x_0
  have f_8 := (hs.o gx trivial rfl).1.trans f_8
  have hM := hM.tr (hs.mono (by decide))
  have gx := gx.S hs
  have gqt := gqt.S hs
  refine lv_aload_n hx hb dX9_feedBytes_30 rfl (lv_at hl 1 rfl) ?_
  refine lv_dup hx hb dX9_feedBytes_31 rfl ?_
  refine hk_geti hx hb hts hC_9 hown hW gx td_9 1 (by decide) rfl kw_365 ⟨rfl, rfl, rfl⟩ f_8 dX9_feedBytes_32 ?_
  refine lv_iconst (v := 1) hx hb dX9_feedBytes_35 (by decide) ?_
  refine lv_iadd hx hb dX9_feedBytes_36 ?_
  refine lv_topi (fun x_14 ex_14 => ?_)
  obtain rfl : x_14 = (2 : Int32) := ex_14.trans (by decide)
  refine hk_puti hx hb hts hC_9 hown hW gx td_9 1 (by decide) rfl kw_365 ⟨rfl, rfl, rfl⟩ rfl (x := (2 : Int32)) rfl rfl rfl dX9_feedBytes_37 (fun H locs h_15 eh_15 hW hs => ?_)
  have f_x_0 := (hs.o gx trivial rfl).2.trans f_x_0
  have hM := hM.tr (hs.mono (by decide))
  have gx := gx.S hs
  have gqt := gqt.S hs
  have f_16 : h_15.2.1 x 1 = (2 : Int32) := by rw [eh_15]; exact hx_pi_at _ _ _ _
  refine lv_iinc (v := 8) (lv' := [(2, .int (8 : Int32)), (0, .ref x), (1, .int i1)]) hx hb dX9_feedBytes_40 hl (k := 0) rfl (by decide) (by decide) rfl (fun ls hl => ?_)
  refine lv_goto (tgt := 3) hx hb dX9_feedBytes_43 (by decide) ?_
  refine lv_iload_n hx hb dX9_feedBytes_3 rfl (lv_at hl 0 rfl) ?_
  refine hb_if_lt (zx := 8) (tgt := 46) hx hb (by decide) dX9_feedBytes_4 (by decide) (fun c_17 => absurd c_17 (by decide)) (fun c_17 => ?_)
  refine lv_aload_n hx hb dX9_feedBytes_7 rfl (lv_at hl 1 rfl) ?_
  refine hk_geti hx hb hts hC_9 hown hW gx td_9 1 (by decide) rfl kw_365 ⟨rfl, rfl, rfl⟩ f_16 dX9_feedBytes_8 ?_
  refine lv_sipush (v := 400) hx hb dX9_feedBytes_11 (by decide) ?_
  refine hb_icmp_ge (zx := 2) (zy := 400) (tgt := 46) hx hb (by decide) (by decide) dX9_feedBytes_14 (by decide) (fun c_18 => absurd c_18 (by decide)) (fun c_18 => ?_)
  refine lv_aload_n hx hb dX9_feedBytes_17 rfl (lv_at hl 1 rfl) ?_
  refine hk_getr hx hb hts hC_9 hown hW gx td_9 0 (by decide) rfl kw_364 ⟨rfl, rfl, rfl⟩ f_x_0 dX9_feedBytes_18 ?_
  refine lv_aload_n hx hb dX9_feedBytes_21 rfl (lv_at hl 1 rfl) ?_
  refine hk_geti hx hb hts hC_9 hown hW gx td_9 1 (by decide) rfl kw_365 ⟨rfl, rfl, rfl⟩ f_16 dX9_feedBytes_22 ?_
  refine lv_iload_n hx hb dX9_feedBytes_25 rfl (lv_at hl 2 rfl) ?_
  refine lv_iload_n hx hb dX9_feedBytes_26 rfl (lv_at hl 0 rfl) ?_
  refine lv_ishr hx hb dX9_feedBytes_27 ?_
  refine lv_topi (fun x_19 ex_19 => ?_)
  refine lv_i2b hx hb dX9_feedBytes_28 rfl ?_
  refine lv_topi (fun x_20 ex_20 => ?_)
  refine hk_bast hx hb hW gqt td_42 rfl (by decide) (y := _) rfl dX9_feedBytes_29 (fun H locs h_21 eh_21 hW hs => ?_)
  have f_x_0 := (hs.o gx trivial rfl).2.trans f_x_0
  have f_16 := (hs.o gx trivial rfl).1.trans f_16
  have hM := hM.tr (hs.mono (by decide))
  have gx := gx.S hs
  have gqt := gqt.S hs
  refine lv_aload_n hx hb dX9_feedBytes_30 rfl (lv_at hl 1 rfl) ?_
  refine lv_dup hx hb dX9_feedBytes_31 rfl ?_
  refine hk_geti hx hb hts hC_9 hown hW gx td_9 1 (by decide) rfl kw_365 ⟨rfl, rfl, rfl⟩ f_16 dX9_feedBytes_32 ?_
  refine lv_iconst (v := 1) hx hb dX9_feedBytes_35 (by decide) ?_
  refine lv_iadd hx hb dX9_feedBytes_36 ?_
  refine lv_topi (fun x_22 ex_22 => ?_)
  obtain rfl : x_22 = (3 : Int32) := ex_22.trans (by decide)
  refine hk_puti hx hb hts hC_9 hown hW gx td_9 1 (by decide) rfl kw_365 ⟨rfl, rfl, rfl⟩ rfl (x := (3 : Int32)) rfl rfl rfl dX9_feedBytes_37 (fun H locs h_23 eh_23 hW hs => ?_)
  have f_x_0 := (hs.o gx trivial rfl).2.trans f_x_0
  have hM := hM.tr (hs.mono (by decide))
  have gx := gx.S hs
  have gqt := gqt.S hs
  have f_24 : h_23.2.1 x 1 = (3 : Int32) := by rw [eh_23]; exact hx_pi_at _ _ _ _
  refine lv_iinc (v := 0) (lv' := [(2, .int (0 : Int32)), (0, .ref x), (1, .int i1)]) hx hb dX9_feedBytes_40 hl (k := 0) rfl (by decide) (by decide) rfl (fun ls hl => ?_)
  refine lv_goto (tgt := 3) hx hb dX9_feedBytes_43 (by decide) ?_
  refine lv_iload_n hx hb dX9_feedBytes_3 rfl (lv_at hl 0 rfl) ?_
  refine hb_if_lt (zx := 0) (tgt := 46) hx hb (by decide) dX9_feedBytes_4 (by decide) (fun c_25 => absurd c_25 (by decide)) (fun c_25 => ?_)
  refine lv_aload_n hx hb dX9_feedBytes_7 rfl (lv_at hl 1 rfl) ?_
  refine hk_geti hx hb hts hC_9 hown hW gx td_9 1 (by decide) rfl kw_365 ⟨rfl, rfl, rfl⟩ f_24 dX9_feedBytes_8 ?_
  refine lv_sipush (v := 400) hx hb dX9_feedBytes_11 (by decide) ?_
  refine hb_icmp_ge (zx := 3) (zy := 400) (tgt := 46) hx hb (by decide) (by decide) dX9_feedBytes_14 (by decide) (fun c_26 => absurd c_26 (by decide)) (fun c_26 => ?_)
  refine lv_aload_n hx hb dX9_feedBytes_17 rfl (lv_at hl 1 rfl) ?_
  refine hk_getr hx hb hts hC_9 hown hW gx td_9 0 (by decide) rfl kw_364 ⟨rfl, rfl, rfl⟩ f_x_0 dX9_feedBytes_18 ?_
  refine lv_aload_n hx hb dX9_feedBytes_21 rfl (lv_at hl 1 rfl) ?_
  refine hk_geti hx hb hts hC_9 hown hW gx td_9 1 (by decide) rfl kw_365 ⟨rfl, rfl, rfl⟩ f_24 dX9_feedBytes_22 ?_
  refine lv_iload_n hx hb dX9_feedBytes_25 rfl (lv_at hl 2 rfl) ?_
  refine lv_iload_n hx hb dX9_feedBytes_26 rfl (lv_at hl 0 rfl) ?_
  refine lv_ishr hx hb dX9_feedBytes_27 ?_
  refine lv_topi (fun x_27 ex_27 => ?_)
  refine lv_i2b hx hb dX9_feedBytes_28 rfl ?_
  refine lv_topi (fun x_28 ex_28 => ?_)
  refine hk_bast hx hb hW gqt td_42 rfl (by decide) (y := _) rfl dX9_feedBytes_29 (fun H locs h_29 eh_29 hW hs => ?_)
  have f_x_0 := (hs.o gx trivial rfl).2.trans f_x_0
  have f_24 := (hs.o gx trivial rfl).1.trans f_24
  have hM := hM.tr (hs.mono (by decide))
  have gx := gx.S hs
  have gqt := gqt.S hs
  refine lv_aload_n hx hb dX9_feedBytes_30 rfl (lv_at hl 1 rfl) ?_
  refine lv_dup hx hb dX9_feedBytes_31 rfl ?_
  refine hk_geti hx hb hts hC_9 hown hW gx td_9 1 (by decide) rfl kw_365 ⟨rfl, rfl, rfl⟩ f_24 dX9_feedBytes_32 ?_
  refine lv_iconst (v := 1) hx hb dX9_feedBytes_35 (by decide) ?_
  refine lv_iadd hx hb dX9_feedBytes_36 ?_
  refine lv_topi (fun x_30 ex_30 => ?_)
  obtain rfl : x_30 = (4 : Int32) := ex_30.trans (by decide)
  refine hk_puti hx hb hts hC_9 hown hW gx td_9 1 (by decide) rfl kw_365 ⟨rfl, rfl, rfl⟩ rfl (x := (4 : Int32)) rfl rfl rfl dX9_feedBytes_37 (fun H locs h_31 eh_31 hW hs => ?_)
  have f_x_0 := (hs.o gx trivial rfl).2.trans f_x_0
  have hM := hM.tr (hs.mono (by decide))
  have gx := gx.S hs
  have gqt := gqt.S hs
  have f_32 : h_31.2.1 x 1 = (4 : Int32) := by rw [eh_31]; exact hx_pi_at _ _ _ _
  refine lv_iinc (v := -8) (lv' := [(2, .int (-8 : Int32)), (0, .ref x), (1, .int i1)]) hx hb dX9_feedBytes_40 hl (k := 0) rfl (by decide) (by decide) rfl (fun ls hl => ?_)
  refine lv_goto (tgt := 3) hx hb dX9_feedBytes_43 (by decide) ?_
  refine lv_iload_n hx hb dX9_feedBytes_3 rfl (lv_at hl 0 rfl) ?_
  refine hb_if_lt (zx := (-8)) (tgt := 46) hx hb (by decide) dX9_feedBytes_4 (by decide) (fun c_33 => ?_) (fun c_33 => absurd c_33 (by decide))
  exact hx_retv hx hb hr hlk hW ⟨hM, f_32⟩ dX9_feedBytes_46


theorem dX10_four_0 : decode cX10_four 0 = .ok (.bipush 24, 2) := by decide +kernel
theorem dX10_four_2 : decode cX10_four 2 = .ok (.istore_n 2, 1) := by decide +kernel
theorem dX10_four_3 : decode cX10_four 3 = .ok (.iload_n 2, 1) := by decide +kernel
theorem dX10_four_4 : decode cX10_four 4 = .ok (.ifCond .lt 32, 3) := by decide +kernel
theorem dX10_four_7 : decode cX10_four 7 = .ok (.aload_n 0, 1) := by decide +kernel
theorem dX10_four_8 : decode cX10_four 8 = .ok (.getfield 22, 3) := by decide +kernel
theorem dX10_four_11 : decode cX10_four 11 = .ok (.aload_n 0, 1) := by decide +kernel
theorem dX10_four_12 : decode cX10_four 12 = .ok (.getfield 236, 3) := by decide +kernel
theorem dX10_four_15 : decode cX10_four 15 = .ok (.iload_n 1, 1) := by decide +kernel
theorem dX10_four_16 : decode cX10_four 16 = .ok (.iload_n 2, 1) := by decide +kernel
theorem dX10_four_17 : decode cX10_four 17 = .ok (.ishr, 1) := by decide +kernel
theorem dX10_four_18 : decode cX10_four 18 = .ok (.i2b, 1) := by decide +kernel
theorem dX10_four_19 : decode cX10_four 19 = .ok (.bastore, 1) := by decide +kernel
theorem dX10_four_20 : decode cX10_four 20 = .ok (.aload_n 0, 1) := by decide +kernel
theorem dX10_four_21 : decode cX10_four 21 = .ok (.dup, 1) := by decide +kernel
theorem dX10_four_22 : decode cX10_four 22 = .ok (.getfield 236, 3) := by decide +kernel
theorem dX10_four_25 : decode cX10_four 25 = .ok (.iconst 1, 1) := by decide +kernel
theorem dX10_four_26 : decode cX10_four 26 = .ok (.iadd, 1) := by decide +kernel
theorem dX10_four_27 : decode cX10_four 27 = .ok (.putfield 236, 3) := by decide +kernel
theorem dX10_four_30 : decode cX10_four 30 = .ok (.iinc 2 (-8), 3) := by decide +kernel
theorem dX10_four_33 : decode cX10_four 33 = .ok (.goto (-30), 3) := by decide +kernel
theorem dX10_four_36 : decode cX10_four 36 = .ok (.return_, 1) := by decide +kernel
set_option maxHeartbeats 4000000 in
set_option maxRecDepth 100000 in
theorem c_X10_four_0 (l : Launch) (dC : Nat → ClassId) (dI : Nat → Nat → Nat) (dA : Nat → ClassId) (L : List Nat) (h : hx_h) (sz : Nat) (y : Nat) (i1 : Int32) (gy : hx_g L h y 10) (f_y_7 : h.2.1 y 7 = 0) (qt : Nat) (gqt : hx_g L h qt 53) (f_y_6 : h.2.2 y 6 = some qt) : Met l yX10_four (Cond.code yX10_four cX10_four 3 none :: hx_all) ({ frames := 0, cells := 0, slots := 0, locals := 0 }) (va_Pc [.ref y, .int i1] (hx_B P_tb (P_ty dA) (dC, dI) vwCl L h sz)) (va_Qv (fun (u : List Nat × hx_h) => hx_S P_tb [(10, 7), (53, 0)] L h u.1 u.2 ∧ u.2.2.1 y 7 = (4 : Int32)) (hx_E P_tb (P_ty dA) (dC, dI) vwCl (hx_A L sz)) (hx_A L sz)) 0 0 (hx_A L sz) := by
  refine hx_met (lv := [(0, .ref y), (1, .int i1)]) (by decide +kernel) rfl (Nat.le_of_ble_eq_true rfl) rfl ?_
  intro p e s m below meth c hx hb hml hr hlk hts0 hown hin hsz hW ls hl
  have hts : ∀ w ∈ hx_all, w.before _ s = true := fun w hw => hts0 w (List.mem_cons_of_mem _ hw)
  have hown : s.vm.findClass "SmallCourtModel" = some m.cls := hown
  have hM : hx_S P_tb [(10, 7), (53, 0)] L h L h := hx_S.rf
  refine lv_bipush (v := 24) hx hb dX10_four_0 (by decide) ?_
  refine lv_istore_n (lv' := [(2, .int (24 : Int32)), (0, .ref y), (1, .int i1)]) hx hb dX10_four_2 rfl hl (by decide) rfl (fun ls hl => ?_)
  refine lv_iload_n hx hb dX10_four_3 rfl (lv_at hl 0 rfl) ?_
  refine hb_if_lt (zx := 24) (tgt := 36) hx hb (by decide) dX10_four_4 (by decide) (fun c_1 => absurd c_1 (by decide)) (fun c_1 => ?_)
  refine lv_aload_n hx hb dX10_four_7 rfl (lv_at hl 1 rfl) ?_
  refine hk_getr hx hb hts hC_10 hown hW gy td_10 6 (by decide) rfl kw_1149 ⟨rfl, rfl, rfl⟩ f_y_6 dX10_four_8 ?_
  refine lv_aload_n hx hb dX10_four_11 rfl (lv_at hl 1 rfl) ?_
  refine hk_geti hx hb hts hC_10 hown hW gy td_10 7 (by decide) rfl kw_1150 ⟨rfl, rfl, rfl⟩ f_y_7 dX10_four_12 ?_
  refine lv_iload_n hx hb dX10_four_15 rfl (lv_at hl 2 rfl) ?_
  refine lv_iload_n hx hb dX10_four_16 rfl (lv_at hl 0 rfl) ?_
  refine lv_ishr hx hb dX10_four_17 ?_
  refine lv_topi (fun x_2 ex_2 => ?_)
  refine lv_i2b hx hb dX10_four_18 rfl ?_
  refine lv_topi (fun x_3 ex_3 => ?_)
  refine hk_bast hx hb hW gqt td_53 rfl (by decide) (y := _) rfl dX10_four_19 (fun H locs h_4 eh_4 hW hs => ?_)
  have f_y_7 := (hs.o gy trivial rfl).1.trans f_y_7
  have f_y_6 := (hs.o gy trivial rfl).2.trans f_y_6
  have hM := hM.tr (hs.mono (by decide))
  have gy := gy.S hs
  have gqt := gqt.S hs
  refine lv_aload_n hx hb dX10_four_20 rfl (lv_at hl 1 rfl) ?_
  refine lv_dup hx hb dX10_four_21 rfl ?_
  refine hk_geti hx hb hts hC_10 hown hW gy td_10 7 (by decide) rfl kw_1150 ⟨rfl, rfl, rfl⟩ f_y_7 dX10_four_22 ?_
  refine lv_iconst (v := 1) hx hb dX10_four_25 (by decide) ?_
  refine lv_iadd hx hb dX10_four_26 ?_
  refine lv_topi (fun x_5 ex_5 => ?_)
  obtain rfl : x_5 = (1 : Int32) := ex_5.trans (by decide)
  refine hk_puti hx hb hts hC_10 hown hW gy td_10 7 (by decide) rfl kw_1150 ⟨rfl, rfl, rfl⟩ rfl (x := (1 : Int32)) rfl rfl rfl dX10_four_27 (fun H locs h_6 eh_6 hW hs => ?_)
  have f_y_6 := (hs.o gy trivial rfl).2.trans f_y_6
  have hM := hM.tr (hs.mono (by decide))
  have gy := gy.S hs
  have gqt := gqt.S hs
  have f_7 : h_6.2.1 y 7 = (1 : Int32) := by rw [eh_6]; exact hx_pi_at _ _ _ _
  refine lv_iinc (v := 16) (lv' := [(2, .int (16 : Int32)), (0, .ref y), (1, .int i1)]) hx hb dX10_four_30 hl (k := 0) rfl (by decide) (by decide) rfl (fun ls hl => ?_)
  refine lv_goto (tgt := 3) hx hb dX10_four_33 (by decide) ?_
  refine lv_iload_n hx hb dX10_four_3 rfl (lv_at hl 0 rfl) ?_
  refine hb_if_lt (zx := 16) (tgt := 36) hx hb (by decide) dX10_four_4 (by decide) (fun c_8 => absurd c_8 (by decide)) (fun c_8 => ?_)
  refine lv_aload_n hx hb dX10_four_7 rfl (lv_at hl 1 rfl) ?_
  refine hk_getr hx hb hts hC_10 hown hW gy td_10 6 (by decide) rfl kw_1149 ⟨rfl, rfl, rfl⟩ f_y_6 dX10_four_8 ?_
  refine lv_aload_n hx hb dX10_four_11 rfl (lv_at hl 1 rfl) ?_
  refine hk_geti hx hb hts hC_10 hown hW gy td_10 7 (by decide) rfl kw_1150 ⟨rfl, rfl, rfl⟩ f_7 dX10_four_12 ?_
  refine lv_iload_n hx hb dX10_four_15 rfl (lv_at hl 2 rfl) ?_
  refine lv_iload_n hx hb dX10_four_16 rfl (lv_at hl 0 rfl) ?_
  refine lv_ishr hx hb dX10_four_17 ?_
  refine lv_topi (fun x_9 ex_9 => ?_)
  refine lv_i2b hx hb dX10_four_18 rfl ?_
  refine lv_topi (fun x_10 ex_10 => ?_)
  refine hk_bast hx hb hW gqt td_53 rfl (by decide) (y := _) rfl dX10_four_19 (fun H locs h_11 eh_11 hW hs => ?_)
  have f_y_6 := (hs.o gy trivial rfl).2.trans f_y_6
  have f_7 := (hs.o gy trivial rfl).1.trans f_7
  have hM := hM.tr (hs.mono (by decide))
  have gy := gy.S hs
  have gqt := gqt.S hs
  refine lv_aload_n hx hb dX10_four_20 rfl (lv_at hl 1 rfl) ?_
  refine lv_dup hx hb dX10_four_21 rfl ?_
  refine hk_geti hx hb hts hC_10 hown hW gy td_10 7 (by decide) rfl kw_1150 ⟨rfl, rfl, rfl⟩ f_7 dX10_four_22 ?_
  refine lv_iconst (v := 1) hx hb dX10_four_25 (by decide) ?_
  refine lv_iadd hx hb dX10_four_26 ?_
  refine lv_topi (fun x_12 ex_12 => ?_)
  obtain rfl : x_12 = (2 : Int32) := ex_12.trans (by decide)
  refine hk_puti hx hb hts hC_10 hown hW gy td_10 7 (by decide) rfl kw_1150 ⟨rfl, rfl, rfl⟩ rfl (x := (2 : Int32)) rfl rfl rfl dX10_four_27 (fun H locs h_13 eh_13 hW hs => ?_)
  have f_y_6 := (hs.o gy trivial rfl).2.trans f_y_6
  have hM := hM.tr (hs.mono (by decide))
  have gy := gy.S hs
  have gqt := gqt.S hs
  have f_14 : h_13.2.1 y 7 = (2 : Int32) := by rw [eh_13]; exact hx_pi_at _ _ _ _
  refine lv_iinc (v := 8) (lv' := [(2, .int (8 : Int32)), (0, .ref y), (1, .int i1)]) hx hb dX10_four_30 hl (k := 0) rfl (by decide) (by decide) rfl (fun ls hl => ?_)
  refine lv_goto (tgt := 3) hx hb dX10_four_33 (by decide) ?_
  refine lv_iload_n hx hb dX10_four_3 rfl (lv_at hl 0 rfl) ?_
  refine hb_if_lt (zx := 8) (tgt := 36) hx hb (by decide) dX10_four_4 (by decide) (fun c_15 => absurd c_15 (by decide)) (fun c_15 => ?_)
  refine lv_aload_n hx hb dX10_four_7 rfl (lv_at hl 1 rfl) ?_
  refine hk_getr hx hb hts hC_10 hown hW gy td_10 6 (by decide) rfl kw_1149 ⟨rfl, rfl, rfl⟩ f_y_6 dX10_four_8 ?_
  refine lv_aload_n hx hb dX10_four_11 rfl (lv_at hl 1 rfl) ?_
  refine hk_geti hx hb hts hC_10 hown hW gy td_10 7 (by decide) rfl kw_1150 ⟨rfl, rfl, rfl⟩ f_14 dX10_four_12 ?_
  refine lv_iload_n hx hb dX10_four_15 rfl (lv_at hl 2 rfl) ?_
  refine lv_iload_n hx hb dX10_four_16 rfl (lv_at hl 0 rfl) ?_
  refine lv_ishr hx hb dX10_four_17 ?_
  refine lv_topi (fun x_16 ex_16 => ?_)
  refine lv_i2b hx hb dX10_four_18 rfl ?_
  refine lv_topi (fun x_17 ex_17 => ?_)
  refine hk_bast hx hb hW gqt td_53 rfl (by decide) (y := _) rfl dX10_four_19 (fun H locs h_18 eh_18 hW hs => ?_)
  have f_y_6 := (hs.o gy trivial rfl).2.trans f_y_6
  have f_14 := (hs.o gy trivial rfl).1.trans f_14
  have hM := hM.tr (hs.mono (by decide))
  have gy := gy.S hs
  have gqt := gqt.S hs
  refine lv_aload_n hx hb dX10_four_20 rfl (lv_at hl 1 rfl) ?_
  refine lv_dup hx hb dX10_four_21 rfl ?_
  refine hk_geti hx hb hts hC_10 hown hW gy td_10 7 (by decide) rfl kw_1150 ⟨rfl, rfl, rfl⟩ f_14 dX10_four_22 ?_
  refine lv_iconst (v := 1) hx hb dX10_four_25 (by decide) ?_
  refine lv_iadd hx hb dX10_four_26 ?_
  refine lv_topi (fun x_19 ex_19 => ?_)
  obtain rfl : x_19 = (3 : Int32) := ex_19.trans (by decide)
  refine hk_puti hx hb hts hC_10 hown hW gy td_10 7 (by decide) rfl kw_1150 ⟨rfl, rfl, rfl⟩ rfl (x := (3 : Int32)) rfl rfl rfl dX10_four_27 (fun H locs h_20 eh_20 hW hs => ?_)
  have f_y_6 := (hs.o gy trivial rfl).2.trans f_y_6
  have hM := hM.tr (hs.mono (by decide))
  have gy := gy.S hs
  have gqt := gqt.S hs
  have f_21 : h_20.2.1 y 7 = (3 : Int32) := by rw [eh_20]; exact hx_pi_at _ _ _ _
  refine lv_iinc (v := 0) (lv' := [(2, .int (0 : Int32)), (0, .ref y), (1, .int i1)]) hx hb dX10_four_30 hl (k := 0) rfl (by decide) (by decide) rfl (fun ls hl => ?_)
  refine lv_goto (tgt := 3) hx hb dX10_four_33 (by decide) ?_
  refine lv_iload_n hx hb dX10_four_3 rfl (lv_at hl 0 rfl) ?_
  refine hb_if_lt (zx := 0) (tgt := 36) hx hb (by decide) dX10_four_4 (by decide) (fun c_22 => absurd c_22 (by decide)) (fun c_22 => ?_)
  refine lv_aload_n hx hb dX10_four_7 rfl (lv_at hl 1 rfl) ?_
  refine hk_getr hx hb hts hC_10 hown hW gy td_10 6 (by decide) rfl kw_1149 ⟨rfl, rfl, rfl⟩ f_y_6 dX10_four_8 ?_
  refine lv_aload_n hx hb dX10_four_11 rfl (lv_at hl 1 rfl) ?_
  refine hk_geti hx hb hts hC_10 hown hW gy td_10 7 (by decide) rfl kw_1150 ⟨rfl, rfl, rfl⟩ f_21 dX10_four_12 ?_
  refine lv_iload_n hx hb dX10_four_15 rfl (lv_at hl 2 rfl) ?_
  refine lv_iload_n hx hb dX10_four_16 rfl (lv_at hl 0 rfl) ?_
  refine lv_ishr hx hb dX10_four_17 ?_
  refine lv_topi (fun x_23 ex_23 => ?_)
  refine lv_i2b hx hb dX10_four_18 rfl ?_
  refine lv_topi (fun x_24 ex_24 => ?_)
  refine hk_bast hx hb hW gqt td_53 rfl (by decide) (y := _) rfl dX10_four_19 (fun H locs h_25 eh_25 hW hs => ?_)
  have f_y_6 := (hs.o gy trivial rfl).2.trans f_y_6
  have f_21 := (hs.o gy trivial rfl).1.trans f_21
  have hM := hM.tr (hs.mono (by decide))
  have gy := gy.S hs
  have gqt := gqt.S hs
  refine lv_aload_n hx hb dX10_four_20 rfl (lv_at hl 1 rfl) ?_
  refine lv_dup hx hb dX10_four_21 rfl ?_
  refine hk_geti hx hb hts hC_10 hown hW gy td_10 7 (by decide) rfl kw_1150 ⟨rfl, rfl, rfl⟩ f_21 dX10_four_22 ?_
  refine lv_iconst (v := 1) hx hb dX10_four_25 (by decide) ?_
  refine lv_iadd hx hb dX10_four_26 ?_
  refine lv_topi (fun x_26 ex_26 => ?_)
  obtain rfl : x_26 = (4 : Int32) := ex_26.trans (by decide)
  refine hk_puti hx hb hts hC_10 hown hW gy td_10 7 (by decide) rfl kw_1150 ⟨rfl, rfl, rfl⟩ rfl (x := (4 : Int32)) rfl rfl rfl dX10_four_27 (fun H locs h_27 eh_27 hW hs => ?_)
  have f_y_6 := (hs.o gy trivial rfl).2.trans f_y_6
  have hM := hM.tr (hs.mono (by decide))
  have gy := gy.S hs
  have gqt := gqt.S hs
  have f_28 : h_27.2.1 y 7 = (4 : Int32) := by rw [eh_27]; exact hx_pi_at _ _ _ _
  refine lv_iinc (v := -8) (lv' := [(2, .int (-8 : Int32)), (0, .ref y), (1, .int i1)]) hx hb dX10_four_30 hl (k := 0) rfl (by decide) (by decide) rfl (fun ls hl => ?_)
  refine lv_goto (tgt := 3) hx hb dX10_four_33 (by decide) ?_
  refine lv_iload_n hx hb dX10_four_3 rfl (lv_at hl 0 rfl) ?_
  refine hb_if_lt (zx := (-8)) (tgt := 36) hx hb (by decide) dX10_four_4 (by decide) (fun c_29 => ?_) (fun c_29 => absurd c_29 (by decide))
  exact hx_retv hx hb hr hlk hW ⟨hM, f_28⟩ dX10_four_36



set_option maxHeartbeats 4000000 in
set_option maxRecDepth 100000 in
theorem c_X9_feedBytes_4 (l : Launch) (dC : Nat → ClassId) (dI : Nat → Nat → Nat) (dA : Nat → ClassId) (L : List Nat) (h : hx_h) (sz : Nat) (x : Nat) (i1 : Int32) (gx : hx_g L h x 9) (f_x_1 : h.2.1 x 1 = 4) (qt : Nat) (gqt : hx_g L h qt 42) (f_x_0 : h.2.2 x 0 = some qt) : Met l yX9_feedBytes (Cond.code yX9_feedBytes cX9_feedBytes 3 none :: hx_all) ({ frames := 0, cells := 0, slots := 0, locals := 0 }) (va_Pc [.ref x, .int i1] (hx_B P_tb (P_ty dA) (dC, dI) vwCl L h sz)) (va_Qv (fun (u : List Nat × hx_h) => hx_S P_tb [(9, 1), (42, 0)] L h u.1 u.2 ∧ u.2.2.1 x 1 = (8 : Int32)) (hx_E P_tb (P_ty dA) (dC, dI) vwCl (hx_A L sz)) (hx_A L sz)) 0 0 (hx_A L sz) := by
  refine hx_met (lv := [(0, .ref x), (1, .int i1)]) (by decide +kernel) rfl (Nat.le_of_ble_eq_true rfl) rfl ?_
  intro p e s m below meth c hx hb hml hr hlk hts0 hown hin hsz hW ls hl
  have hts : ∀ w ∈ hx_all, w.before _ s = true := fun w hw => hts0 w (List.mem_cons_of_mem _ hw)
  have hown : s.vm.findClass "SmallCourt" = some m.cls := hown
  have hM : hx_S P_tb [(9, 1), (42, 0)] L h L h := hx_S.rf
  refine lv_bipush (v := 24) hx hb dX9_feedBytes_0 (by decide) ?_
  refine lv_istore_n (lv' := [(2, .int (24 : Int32)), (0, .ref x), (1, .int i1)]) hx hb dX9_feedBytes_2 rfl hl (by decide) rfl (fun ls hl => ?_)
  refine lv_iload_n hx hb dX9_feedBytes_3 rfl (lv_at hl 0 rfl) ?_
  refine hb_if_lt (zx := 24) (tgt := 46) hx hb (by decide) dX9_feedBytes_4 (by decide) (fun c_1 => absurd c_1 (by decide)) (fun c_1 => ?_)
  refine lv_aload_n hx hb dX9_feedBytes_7 rfl (lv_at hl 1 rfl) ?_
  refine hk_geti hx hb hts hC_9 hown hW gx td_9 1 (by decide) rfl kw_365 ⟨rfl, rfl, rfl⟩ f_x_1 dX9_feedBytes_8 ?_
  refine lv_sipush (v := 400) hx hb dX9_feedBytes_11 (by decide) ?_
  refine hb_icmp_ge (zx := 4) (zy := 400) (tgt := 46) hx hb (by decide) (by decide) dX9_feedBytes_14 (by decide) (fun c_2 => absurd c_2 (by decide)) (fun c_2 => ?_)
  refine lv_aload_n hx hb dX9_feedBytes_17 rfl (lv_at hl 1 rfl) ?_
  refine hk_getr hx hb hts hC_9 hown hW gx td_9 0 (by decide) rfl kw_364 ⟨rfl, rfl, rfl⟩ f_x_0 dX9_feedBytes_18 ?_
  refine lv_aload_n hx hb dX9_feedBytes_21 rfl (lv_at hl 1 rfl) ?_
  refine hk_geti hx hb hts hC_9 hown hW gx td_9 1 (by decide) rfl kw_365 ⟨rfl, rfl, rfl⟩ f_x_1 dX9_feedBytes_22 ?_
  refine lv_iload_n hx hb dX9_feedBytes_25 rfl (lv_at hl 2 rfl) ?_
  refine lv_iload_n hx hb dX9_feedBytes_26 rfl (lv_at hl 0 rfl) ?_
  refine lv_ishr hx hb dX9_feedBytes_27 ?_
  refine lv_topi (fun x_3 ex_3 => ?_)
  refine lv_i2b hx hb dX9_feedBytes_28 rfl ?_
  refine lv_topi (fun x_4 ex_4 => ?_)
  refine hk_bast hx hb hW gqt td_42 rfl (by decide) (y := _) rfl dX9_feedBytes_29 (fun H locs h_5 eh_5 hW hs => ?_)
  have f_x_1 := (hs.o gx trivial rfl).1.trans f_x_1
  have f_x_0 := (hs.o gx trivial rfl).2.trans f_x_0
  have hM := hM.tr (hs.mono (by decide))
  have gx := gx.S hs
  have gqt := gqt.S hs
  refine lv_aload_n hx hb dX9_feedBytes_30 rfl (lv_at hl 1 rfl) ?_
  refine lv_dup hx hb dX9_feedBytes_31 rfl ?_
  refine hk_geti hx hb hts hC_9 hown hW gx td_9 1 (by decide) rfl kw_365 ⟨rfl, rfl, rfl⟩ f_x_1 dX9_feedBytes_32 ?_
  refine lv_iconst (v := 1) hx hb dX9_feedBytes_35 (by decide) ?_
  refine lv_iadd hx hb dX9_feedBytes_36 ?_
  refine lv_topi (fun x_6 ex_6 => ?_)
  obtain rfl : x_6 = (5 : Int32) := ex_6.trans (by decide)
  refine hk_puti hx hb hts hC_9 hown hW gx td_9 1 (by decide) rfl kw_365 ⟨rfl, rfl, rfl⟩ rfl (x := (5 : Int32)) rfl rfl rfl dX9_feedBytes_37 (fun H locs h_7 eh_7 hW hs => ?_)
  have f_x_0 := (hs.o gx trivial rfl).2.trans f_x_0
  have hM := hM.tr (hs.mono (by decide))
  have gx := gx.S hs
  have gqt := gqt.S hs
  have f_8 : h_7.2.1 x 1 = (5 : Int32) := by rw [eh_7]; exact hx_pi_at _ _ _ _
  refine lv_iinc (v := 16) (lv' := [(2, .int (16 : Int32)), (0, .ref x), (1, .int i1)]) hx hb dX9_feedBytes_40 hl (k := 0) rfl (by decide) (by decide) rfl (fun ls hl => ?_)
  refine lv_goto (tgt := 3) hx hb dX9_feedBytes_43 (by decide) ?_
  refine lv_iload_n hx hb dX9_feedBytes_3 rfl (lv_at hl 0 rfl) ?_
  refine hb_if_lt (zx := 16) (tgt := 46) hx hb (by decide) dX9_feedBytes_4 (by decide) (fun c_9 => absurd c_9 (by decide)) (fun c_9 => ?_)
  refine lv_aload_n hx hb dX9_feedBytes_7 rfl (lv_at hl 1 rfl) ?_
  refine hk_geti hx hb hts hC_9 hown hW gx td_9 1 (by decide) rfl kw_365 ⟨rfl, rfl, rfl⟩ f_8 dX9_feedBytes_8 ?_
  refine lv_sipush (v := 400) hx hb dX9_feedBytes_11 (by decide) ?_
  refine hb_icmp_ge (zx := 5) (zy := 400) (tgt := 46) hx hb (by decide) (by decide) dX9_feedBytes_14 (by decide) (fun c_10 => absurd c_10 (by decide)) (fun c_10 => ?_)
  refine lv_aload_n hx hb dX9_feedBytes_17 rfl (lv_at hl 1 rfl) ?_
  refine hk_getr hx hb hts hC_9 hown hW gx td_9 0 (by decide) rfl kw_364 ⟨rfl, rfl, rfl⟩ f_x_0 dX9_feedBytes_18 ?_
  refine lv_aload_n hx hb dX9_feedBytes_21 rfl (lv_at hl 1 rfl) ?_
  refine hk_geti hx hb hts hC_9 hown hW gx td_9 1 (by decide) rfl kw_365 ⟨rfl, rfl, rfl⟩ f_8 dX9_feedBytes_22 ?_
  refine lv_iload_n hx hb dX9_feedBytes_25 rfl (lv_at hl 2 rfl) ?_
  refine lv_iload_n hx hb dX9_feedBytes_26 rfl (lv_at hl 0 rfl) ?_
  refine lv_ishr hx hb dX9_feedBytes_27 ?_
  refine lv_topi (fun x_11 ex_11 => ?_)
  refine lv_i2b hx hb dX9_feedBytes_28 rfl ?_
  refine lv_topi (fun x_12 ex_12 => ?_)
  refine hk_bast hx hb hW gqt td_42 rfl (by decide) (y := _) rfl dX9_feedBytes_29 (fun H locs h_13 eh_13 hW hs => ?_)
  have f_x_0 := (hs.o gx trivial rfl).2.trans f_x_0
  have f_8 := (hs.o gx trivial rfl).1.trans f_8
  have hM := hM.tr (hs.mono (by decide))
  have gx := gx.S hs
  have gqt := gqt.S hs
  refine lv_aload_n hx hb dX9_feedBytes_30 rfl (lv_at hl 1 rfl) ?_
  refine lv_dup hx hb dX9_feedBytes_31 rfl ?_
  refine hk_geti hx hb hts hC_9 hown hW gx td_9 1 (by decide) rfl kw_365 ⟨rfl, rfl, rfl⟩ f_8 dX9_feedBytes_32 ?_
  refine lv_iconst (v := 1) hx hb dX9_feedBytes_35 (by decide) ?_
  refine lv_iadd hx hb dX9_feedBytes_36 ?_
  refine lv_topi (fun x_14 ex_14 => ?_)
  obtain rfl : x_14 = (6 : Int32) := ex_14.trans (by decide)
  refine hk_puti hx hb hts hC_9 hown hW gx td_9 1 (by decide) rfl kw_365 ⟨rfl, rfl, rfl⟩ rfl (x := (6 : Int32)) rfl rfl rfl dX9_feedBytes_37 (fun H locs h_15 eh_15 hW hs => ?_)
  have f_x_0 := (hs.o gx trivial rfl).2.trans f_x_0
  have hM := hM.tr (hs.mono (by decide))
  have gx := gx.S hs
  have gqt := gqt.S hs
  have f_16 : h_15.2.1 x 1 = (6 : Int32) := by rw [eh_15]; exact hx_pi_at _ _ _ _
  refine lv_iinc (v := 8) (lv' := [(2, .int (8 : Int32)), (0, .ref x), (1, .int i1)]) hx hb dX9_feedBytes_40 hl (k := 0) rfl (by decide) (by decide) rfl (fun ls hl => ?_)
  refine lv_goto (tgt := 3) hx hb dX9_feedBytes_43 (by decide) ?_
  refine lv_iload_n hx hb dX9_feedBytes_3 rfl (lv_at hl 0 rfl) ?_
  refine hb_if_lt (zx := 8) (tgt := 46) hx hb (by decide) dX9_feedBytes_4 (by decide) (fun c_17 => absurd c_17 (by decide)) (fun c_17 => ?_)
  refine lv_aload_n hx hb dX9_feedBytes_7 rfl (lv_at hl 1 rfl) ?_
  refine hk_geti hx hb hts hC_9 hown hW gx td_9 1 (by decide) rfl kw_365 ⟨rfl, rfl, rfl⟩ f_16 dX9_feedBytes_8 ?_
  refine lv_sipush (v := 400) hx hb dX9_feedBytes_11 (by decide) ?_
  refine hb_icmp_ge (zx := 6) (zy := 400) (tgt := 46) hx hb (by decide) (by decide) dX9_feedBytes_14 (by decide) (fun c_18 => absurd c_18 (by decide)) (fun c_18 => ?_)
  refine lv_aload_n hx hb dX9_feedBytes_17 rfl (lv_at hl 1 rfl) ?_
  refine hk_getr hx hb hts hC_9 hown hW gx td_9 0 (by decide) rfl kw_364 ⟨rfl, rfl, rfl⟩ f_x_0 dX9_feedBytes_18 ?_
  refine lv_aload_n hx hb dX9_feedBytes_21 rfl (lv_at hl 1 rfl) ?_
  refine hk_geti hx hb hts hC_9 hown hW gx td_9 1 (by decide) rfl kw_365 ⟨rfl, rfl, rfl⟩ f_16 dX9_feedBytes_22 ?_
  refine lv_iload_n hx hb dX9_feedBytes_25 rfl (lv_at hl 2 rfl) ?_
  refine lv_iload_n hx hb dX9_feedBytes_26 rfl (lv_at hl 0 rfl) ?_
  refine lv_ishr hx hb dX9_feedBytes_27 ?_
  refine lv_topi (fun x_19 ex_19 => ?_)
  refine lv_i2b hx hb dX9_feedBytes_28 rfl ?_
  refine lv_topi (fun x_20 ex_20 => ?_)
  refine hk_bast hx hb hW gqt td_42 rfl (by decide) (y := _) rfl dX9_feedBytes_29 (fun H locs h_21 eh_21 hW hs => ?_)
  have f_x_0 := (hs.o gx trivial rfl).2.trans f_x_0
  have f_16 := (hs.o gx trivial rfl).1.trans f_16
  have hM := hM.tr (hs.mono (by decide))
  have gx := gx.S hs
  have gqt := gqt.S hs
  refine lv_aload_n hx hb dX9_feedBytes_30 rfl (lv_at hl 1 rfl) ?_
  refine lv_dup hx hb dX9_feedBytes_31 rfl ?_
  refine hk_geti hx hb hts hC_9 hown hW gx td_9 1 (by decide) rfl kw_365 ⟨rfl, rfl, rfl⟩ f_16 dX9_feedBytes_32 ?_
  refine lv_iconst (v := 1) hx hb dX9_feedBytes_35 (by decide) ?_
  refine lv_iadd hx hb dX9_feedBytes_36 ?_
  refine lv_topi (fun x_22 ex_22 => ?_)
  obtain rfl : x_22 = (7 : Int32) := ex_22.trans (by decide)
  refine hk_puti hx hb hts hC_9 hown hW gx td_9 1 (by decide) rfl kw_365 ⟨rfl, rfl, rfl⟩ rfl (x := (7 : Int32)) rfl rfl rfl dX9_feedBytes_37 (fun H locs h_23 eh_23 hW hs => ?_)
  have f_x_0 := (hs.o gx trivial rfl).2.trans f_x_0
  have hM := hM.tr (hs.mono (by decide))
  have gx := gx.S hs
  have gqt := gqt.S hs
  have f_24 : h_23.2.1 x 1 = (7 : Int32) := by rw [eh_23]; exact hx_pi_at _ _ _ _
  refine lv_iinc (v := 0) (lv' := [(2, .int (0 : Int32)), (0, .ref x), (1, .int i1)]) hx hb dX9_feedBytes_40 hl (k := 0) rfl (by decide) (by decide) rfl (fun ls hl => ?_)
  refine lv_goto (tgt := 3) hx hb dX9_feedBytes_43 (by decide) ?_
  refine lv_iload_n hx hb dX9_feedBytes_3 rfl (lv_at hl 0 rfl) ?_
  refine hb_if_lt (zx := 0) (tgt := 46) hx hb (by decide) dX9_feedBytes_4 (by decide) (fun c_25 => absurd c_25 (by decide)) (fun c_25 => ?_)
  refine lv_aload_n hx hb dX9_feedBytes_7 rfl (lv_at hl 1 rfl) ?_
  refine hk_geti hx hb hts hC_9 hown hW gx td_9 1 (by decide) rfl kw_365 ⟨rfl, rfl, rfl⟩ f_24 dX9_feedBytes_8 ?_
  refine lv_sipush (v := 400) hx hb dX9_feedBytes_11 (by decide) ?_
  refine hb_icmp_ge (zx := 7) (zy := 400) (tgt := 46) hx hb (by decide) (by decide) dX9_feedBytes_14 (by decide) (fun c_26 => absurd c_26 (by decide)) (fun c_26 => ?_)
  refine lv_aload_n hx hb dX9_feedBytes_17 rfl (lv_at hl 1 rfl) ?_
  refine hk_getr hx hb hts hC_9 hown hW gx td_9 0 (by decide) rfl kw_364 ⟨rfl, rfl, rfl⟩ f_x_0 dX9_feedBytes_18 ?_
  refine lv_aload_n hx hb dX9_feedBytes_21 rfl (lv_at hl 1 rfl) ?_
  refine hk_geti hx hb hts hC_9 hown hW gx td_9 1 (by decide) rfl kw_365 ⟨rfl, rfl, rfl⟩ f_24 dX9_feedBytes_22 ?_
  refine lv_iload_n hx hb dX9_feedBytes_25 rfl (lv_at hl 2 rfl) ?_
  refine lv_iload_n hx hb dX9_feedBytes_26 rfl (lv_at hl 0 rfl) ?_
  refine lv_ishr hx hb dX9_feedBytes_27 ?_
  refine lv_topi (fun x_27 ex_27 => ?_)
  refine lv_i2b hx hb dX9_feedBytes_28 rfl ?_
  refine lv_topi (fun x_28 ex_28 => ?_)
  refine hk_bast hx hb hW gqt td_42 rfl (by decide) (y := _) rfl dX9_feedBytes_29 (fun H locs h_29 eh_29 hW hs => ?_)
  have f_x_0 := (hs.o gx trivial rfl).2.trans f_x_0
  have f_24 := (hs.o gx trivial rfl).1.trans f_24
  have hM := hM.tr (hs.mono (by decide))
  have gx := gx.S hs
  have gqt := gqt.S hs
  refine lv_aload_n hx hb dX9_feedBytes_30 rfl (lv_at hl 1 rfl) ?_
  refine lv_dup hx hb dX9_feedBytes_31 rfl ?_
  refine hk_geti hx hb hts hC_9 hown hW gx td_9 1 (by decide) rfl kw_365 ⟨rfl, rfl, rfl⟩ f_24 dX9_feedBytes_32 ?_
  refine lv_iconst (v := 1) hx hb dX9_feedBytes_35 (by decide) ?_
  refine lv_iadd hx hb dX9_feedBytes_36 ?_
  refine lv_topi (fun x_30 ex_30 => ?_)
  obtain rfl : x_30 = (8 : Int32) := ex_30.trans (by decide)
  refine hk_puti hx hb hts hC_9 hown hW gx td_9 1 (by decide) rfl kw_365 ⟨rfl, rfl, rfl⟩ rfl (x := (8 : Int32)) rfl rfl rfl dX9_feedBytes_37 (fun H locs h_31 eh_31 hW hs => ?_)
  have f_x_0 := (hs.o gx trivial rfl).2.trans f_x_0
  have hM := hM.tr (hs.mono (by decide))
  have gx := gx.S hs
  have gqt := gqt.S hs
  have f_32 : h_31.2.1 x 1 = (8 : Int32) := by rw [eh_31]; exact hx_pi_at _ _ _ _
  refine lv_iinc (v := -8) (lv' := [(2, .int (-8 : Int32)), (0, .ref x), (1, .int i1)]) hx hb dX9_feedBytes_40 hl (k := 0) rfl (by decide) (by decide) rfl (fun ls hl => ?_)
  refine lv_goto (tgt := 3) hx hb dX9_feedBytes_43 (by decide) ?_
  refine lv_iload_n hx hb dX9_feedBytes_3 rfl (lv_at hl 0 rfl) ?_
  refine hb_if_lt (zx := (-8)) (tgt := 46) hx hb (by decide) dX9_feedBytes_4 (by decide) (fun c_33 => ?_) (fun c_33 => absurd c_33 (by decide))
  exact hx_retv hx hb hr hlk hW ⟨hM, f_32⟩ dX9_feedBytes_46



set_option maxHeartbeats 4000000 in
set_option maxRecDepth 100000 in
theorem c_X10_four_4 (l : Launch) (dC : Nat → ClassId) (dI : Nat → Nat → Nat) (dA : Nat → ClassId) (L : List Nat) (h : hx_h) (sz : Nat) (y : Nat) (i1 : Int32) (gy : hx_g L h y 10) (f_y_7 : h.2.1 y 7 = 4) (qt : Nat) (gqt : hx_g L h qt 53) (f_y_6 : h.2.2 y 6 = some qt) : Met l yX10_four (Cond.code yX10_four cX10_four 3 none :: hx_all) ({ frames := 0, cells := 0, slots := 0, locals := 0 }) (va_Pc [.ref y, .int i1] (hx_B P_tb (P_ty dA) (dC, dI) vwCl L h sz)) (va_Qv (fun (u : List Nat × hx_h) => hx_S P_tb [(10, 7), (53, 0)] L h u.1 u.2 ∧ u.2.2.1 y 7 = (8 : Int32)) (hx_E P_tb (P_ty dA) (dC, dI) vwCl (hx_A L sz)) (hx_A L sz)) 0 0 (hx_A L sz) := by
  refine hx_met (lv := [(0, .ref y), (1, .int i1)]) (by decide +kernel) rfl (Nat.le_of_ble_eq_true rfl) rfl ?_
  intro p e s m below meth c hx hb hml hr hlk hts0 hown hin hsz hW ls hl
  have hts : ∀ w ∈ hx_all, w.before _ s = true := fun w hw => hts0 w (List.mem_cons_of_mem _ hw)
  have hown : s.vm.findClass "SmallCourtModel" = some m.cls := hown
  have hM : hx_S P_tb [(10, 7), (53, 0)] L h L h := hx_S.rf
  refine lv_bipush (v := 24) hx hb dX10_four_0 (by decide) ?_
  refine lv_istore_n (lv' := [(2, .int (24 : Int32)), (0, .ref y), (1, .int i1)]) hx hb dX10_four_2 rfl hl (by decide) rfl (fun ls hl => ?_)
  refine lv_iload_n hx hb dX10_four_3 rfl (lv_at hl 0 rfl) ?_
  refine hb_if_lt (zx := 24) (tgt := 36) hx hb (by decide) dX10_four_4 (by decide) (fun c_1 => absurd c_1 (by decide)) (fun c_1 => ?_)
  refine lv_aload_n hx hb dX10_four_7 rfl (lv_at hl 1 rfl) ?_
  refine hk_getr hx hb hts hC_10 hown hW gy td_10 6 (by decide) rfl kw_1149 ⟨rfl, rfl, rfl⟩ f_y_6 dX10_four_8 ?_
  refine lv_aload_n hx hb dX10_four_11 rfl (lv_at hl 1 rfl) ?_
  refine hk_geti hx hb hts hC_10 hown hW gy td_10 7 (by decide) rfl kw_1150 ⟨rfl, rfl, rfl⟩ f_y_7 dX10_four_12 ?_
  refine lv_iload_n hx hb dX10_four_15 rfl (lv_at hl 2 rfl) ?_
  refine lv_iload_n hx hb dX10_four_16 rfl (lv_at hl 0 rfl) ?_
  refine lv_ishr hx hb dX10_four_17 ?_
  refine lv_topi (fun x_2 ex_2 => ?_)
  refine lv_i2b hx hb dX10_four_18 rfl ?_
  refine lv_topi (fun x_3 ex_3 => ?_)
  refine hk_bast hx hb hW gqt td_53 rfl (by decide) (y := _) rfl dX10_four_19 (fun H locs h_4 eh_4 hW hs => ?_)
  have f_y_7 := (hs.o gy trivial rfl).1.trans f_y_7
  have f_y_6 := (hs.o gy trivial rfl).2.trans f_y_6
  have hM := hM.tr (hs.mono (by decide))
  have gy := gy.S hs
  have gqt := gqt.S hs
  refine lv_aload_n hx hb dX10_four_20 rfl (lv_at hl 1 rfl) ?_
  refine lv_dup hx hb dX10_four_21 rfl ?_
  refine hk_geti hx hb hts hC_10 hown hW gy td_10 7 (by decide) rfl kw_1150 ⟨rfl, rfl, rfl⟩ f_y_7 dX10_four_22 ?_
  refine lv_iconst (v := 1) hx hb dX10_four_25 (by decide) ?_
  refine lv_iadd hx hb dX10_four_26 ?_
  refine lv_topi (fun x_5 ex_5 => ?_)
  obtain rfl : x_5 = (5 : Int32) := ex_5.trans (by decide)
  refine hk_puti hx hb hts hC_10 hown hW gy td_10 7 (by decide) rfl kw_1150 ⟨rfl, rfl, rfl⟩ rfl (x := (5 : Int32)) rfl rfl rfl dX10_four_27 (fun H locs h_6 eh_6 hW hs => ?_)
  have f_y_6 := (hs.o gy trivial rfl).2.trans f_y_6
  have hM := hM.tr (hs.mono (by decide))
  have gy := gy.S hs
  have gqt := gqt.S hs
  have f_7 : h_6.2.1 y 7 = (5 : Int32) := by rw [eh_6]; exact hx_pi_at _ _ _ _
  refine lv_iinc (v := 16) (lv' := [(2, .int (16 : Int32)), (0, .ref y), (1, .int i1)]) hx hb dX10_four_30 hl (k := 0) rfl (by decide) (by decide) rfl (fun ls hl => ?_)
  refine lv_goto (tgt := 3) hx hb dX10_four_33 (by decide) ?_
  refine lv_iload_n hx hb dX10_four_3 rfl (lv_at hl 0 rfl) ?_
  refine hb_if_lt (zx := 16) (tgt := 36) hx hb (by decide) dX10_four_4 (by decide) (fun c_8 => absurd c_8 (by decide)) (fun c_8 => ?_)
  refine lv_aload_n hx hb dX10_four_7 rfl (lv_at hl 1 rfl) ?_
  refine hk_getr hx hb hts hC_10 hown hW gy td_10 6 (by decide) rfl kw_1149 ⟨rfl, rfl, rfl⟩ f_y_6 dX10_four_8 ?_
  refine lv_aload_n hx hb dX10_four_11 rfl (lv_at hl 1 rfl) ?_
  refine hk_geti hx hb hts hC_10 hown hW gy td_10 7 (by decide) rfl kw_1150 ⟨rfl, rfl, rfl⟩ f_7 dX10_four_12 ?_
  refine lv_iload_n hx hb dX10_four_15 rfl (lv_at hl 2 rfl) ?_
  refine lv_iload_n hx hb dX10_four_16 rfl (lv_at hl 0 rfl) ?_
  refine lv_ishr hx hb dX10_four_17 ?_
  refine lv_topi (fun x_9 ex_9 => ?_)
  refine lv_i2b hx hb dX10_four_18 rfl ?_
  refine lv_topi (fun x_10 ex_10 => ?_)
  refine hk_bast hx hb hW gqt td_53 rfl (by decide) (y := _) rfl dX10_four_19 (fun H locs h_11 eh_11 hW hs => ?_)
  have f_y_6 := (hs.o gy trivial rfl).2.trans f_y_6
  have f_7 := (hs.o gy trivial rfl).1.trans f_7
  have hM := hM.tr (hs.mono (by decide))
  have gy := gy.S hs
  have gqt := gqt.S hs
  refine lv_aload_n hx hb dX10_four_20 rfl (lv_at hl 1 rfl) ?_
  refine lv_dup hx hb dX10_four_21 rfl ?_
  refine hk_geti hx hb hts hC_10 hown hW gy td_10 7 (by decide) rfl kw_1150 ⟨rfl, rfl, rfl⟩ f_7 dX10_four_22 ?_
  refine lv_iconst (v := 1) hx hb dX10_four_25 (by decide) ?_
  refine lv_iadd hx hb dX10_four_26 ?_
  refine lv_topi (fun x_12 ex_12 => ?_)
  obtain rfl : x_12 = (6 : Int32) := ex_12.trans (by decide)
  refine hk_puti hx hb hts hC_10 hown hW gy td_10 7 (by decide) rfl kw_1150 ⟨rfl, rfl, rfl⟩ rfl (x := (6 : Int32)) rfl rfl rfl dX10_four_27 (fun H locs h_13 eh_13 hW hs => ?_)
  have f_y_6 := (hs.o gy trivial rfl).2.trans f_y_6
  have hM := hM.tr (hs.mono (by decide))
  have gy := gy.S hs
  have gqt := gqt.S hs
  have f_14 : h_13.2.1 y 7 = (6 : Int32) := by rw [eh_13]; exact hx_pi_at _ _ _ _
  refine lv_iinc (v := 8) (lv' := [(2, .int (8 : Int32)), (0, .ref y), (1, .int i1)]) hx hb dX10_four_30 hl (k := 0) rfl (by decide) (by decide) rfl (fun ls hl => ?_)
  refine lv_goto (tgt := 3) hx hb dX10_four_33 (by decide) ?_
  refine lv_iload_n hx hb dX10_four_3 rfl (lv_at hl 0 rfl) ?_
  refine hb_if_lt (zx := 8) (tgt := 36) hx hb (by decide) dX10_four_4 (by decide) (fun c_15 => absurd c_15 (by decide)) (fun c_15 => ?_)
  refine lv_aload_n hx hb dX10_four_7 rfl (lv_at hl 1 rfl) ?_
  refine hk_getr hx hb hts hC_10 hown hW gy td_10 6 (by decide) rfl kw_1149 ⟨rfl, rfl, rfl⟩ f_y_6 dX10_four_8 ?_
  refine lv_aload_n hx hb dX10_four_11 rfl (lv_at hl 1 rfl) ?_
  refine hk_geti hx hb hts hC_10 hown hW gy td_10 7 (by decide) rfl kw_1150 ⟨rfl, rfl, rfl⟩ f_14 dX10_four_12 ?_
  refine lv_iload_n hx hb dX10_four_15 rfl (lv_at hl 2 rfl) ?_
  refine lv_iload_n hx hb dX10_four_16 rfl (lv_at hl 0 rfl) ?_
  refine lv_ishr hx hb dX10_four_17 ?_
  refine lv_topi (fun x_16 ex_16 => ?_)
  refine lv_i2b hx hb dX10_four_18 rfl ?_
  refine lv_topi (fun x_17 ex_17 => ?_)
  refine hk_bast hx hb hW gqt td_53 rfl (by decide) (y := _) rfl dX10_four_19 (fun H locs h_18 eh_18 hW hs => ?_)
  have f_y_6 := (hs.o gy trivial rfl).2.trans f_y_6
  have f_14 := (hs.o gy trivial rfl).1.trans f_14
  have hM := hM.tr (hs.mono (by decide))
  have gy := gy.S hs
  have gqt := gqt.S hs
  refine lv_aload_n hx hb dX10_four_20 rfl (lv_at hl 1 rfl) ?_
  refine lv_dup hx hb dX10_four_21 rfl ?_
  refine hk_geti hx hb hts hC_10 hown hW gy td_10 7 (by decide) rfl kw_1150 ⟨rfl, rfl, rfl⟩ f_14 dX10_four_22 ?_
  refine lv_iconst (v := 1) hx hb dX10_four_25 (by decide) ?_
  refine lv_iadd hx hb dX10_four_26 ?_
  refine lv_topi (fun x_19 ex_19 => ?_)
  obtain rfl : x_19 = (7 : Int32) := ex_19.trans (by decide)
  refine hk_puti hx hb hts hC_10 hown hW gy td_10 7 (by decide) rfl kw_1150 ⟨rfl, rfl, rfl⟩ rfl (x := (7 : Int32)) rfl rfl rfl dX10_four_27 (fun H locs h_20 eh_20 hW hs => ?_)
  have f_y_6 := (hs.o gy trivial rfl).2.trans f_y_6
  have hM := hM.tr (hs.mono (by decide))
  have gy := gy.S hs
  have gqt := gqt.S hs
  have f_21 : h_20.2.1 y 7 = (7 : Int32) := by rw [eh_20]; exact hx_pi_at _ _ _ _
  refine lv_iinc (v := 0) (lv' := [(2, .int (0 : Int32)), (0, .ref y), (1, .int i1)]) hx hb dX10_four_30 hl (k := 0) rfl (by decide) (by decide) rfl (fun ls hl => ?_)
  refine lv_goto (tgt := 3) hx hb dX10_four_33 (by decide) ?_
  refine lv_iload_n hx hb dX10_four_3 rfl (lv_at hl 0 rfl) ?_
  refine hb_if_lt (zx := 0) (tgt := 36) hx hb (by decide) dX10_four_4 (by decide) (fun c_22 => absurd c_22 (by decide)) (fun c_22 => ?_)
  refine lv_aload_n hx hb dX10_four_7 rfl (lv_at hl 1 rfl) ?_
  refine hk_getr hx hb hts hC_10 hown hW gy td_10 6 (by decide) rfl kw_1149 ⟨rfl, rfl, rfl⟩ f_y_6 dX10_four_8 ?_
  refine lv_aload_n hx hb dX10_four_11 rfl (lv_at hl 1 rfl) ?_
  refine hk_geti hx hb hts hC_10 hown hW gy td_10 7 (by decide) rfl kw_1150 ⟨rfl, rfl, rfl⟩ f_21 dX10_four_12 ?_
  refine lv_iload_n hx hb dX10_four_15 rfl (lv_at hl 2 rfl) ?_
  refine lv_iload_n hx hb dX10_four_16 rfl (lv_at hl 0 rfl) ?_
  refine lv_ishr hx hb dX10_four_17 ?_
  refine lv_topi (fun x_23 ex_23 => ?_)
  refine lv_i2b hx hb dX10_four_18 rfl ?_
  refine lv_topi (fun x_24 ex_24 => ?_)
  refine hk_bast hx hb hW gqt td_53 rfl (by decide) (y := _) rfl dX10_four_19 (fun H locs h_25 eh_25 hW hs => ?_)
  have f_y_6 := (hs.o gy trivial rfl).2.trans f_y_6
  have f_21 := (hs.o gy trivial rfl).1.trans f_21
  have hM := hM.tr (hs.mono (by decide))
  have gy := gy.S hs
  have gqt := gqt.S hs
  refine lv_aload_n hx hb dX10_four_20 rfl (lv_at hl 1 rfl) ?_
  refine lv_dup hx hb dX10_four_21 rfl ?_
  refine hk_geti hx hb hts hC_10 hown hW gy td_10 7 (by decide) rfl kw_1150 ⟨rfl, rfl, rfl⟩ f_21 dX10_four_22 ?_
  refine lv_iconst (v := 1) hx hb dX10_four_25 (by decide) ?_
  refine lv_iadd hx hb dX10_four_26 ?_
  refine lv_topi (fun x_26 ex_26 => ?_)
  obtain rfl : x_26 = (8 : Int32) := ex_26.trans (by decide)
  refine hk_puti hx hb hts hC_10 hown hW gy td_10 7 (by decide) rfl kw_1150 ⟨rfl, rfl, rfl⟩ rfl (x := (8 : Int32)) rfl rfl rfl dX10_four_27 (fun H locs h_27 eh_27 hW hs => ?_)
  have f_y_6 := (hs.o gy trivial rfl).2.trans f_y_6
  have hM := hM.tr (hs.mono (by decide))
  have gy := gy.S hs
  have gqt := gqt.S hs
  have f_28 : h_27.2.1 y 7 = (8 : Int32) := by rw [eh_27]; exact hx_pi_at _ _ _ _
  refine lv_iinc (v := -8) (lv' := [(2, .int (-8 : Int32)), (0, .ref y), (1, .int i1)]) hx hb dX10_four_30 hl (k := 0) rfl (by decide) (by decide) rfl (fun ls hl => ?_)
  refine lv_goto (tgt := 3) hx hb dX10_four_33 (by decide) ?_
  refine lv_iload_n hx hb dX10_four_3 rfl (lv_at hl 0 rfl) ?_
  refine hb_if_lt (zx := (-8)) (tgt := 36) hx hb (by decide) dX10_four_4 (by decide) (fun c_29 => ?_) (fun c_29 => absurd c_29 (by decide))
  exact hx_retv hx hb hr hlk hW ⟨hM, f_28⟩ dX10_four_36



set_option maxHeartbeats 4000000 in
set_option maxRecDepth 100000 in
theorem c_X9_feedBytes_8 (l : Launch) (dC : Nat → ClassId) (dI : Nat → Nat → Nat) (dA : Nat → ClassId) (L : List Nat) (h : hx_h) (sz : Nat) (x : Nat) (i1 : Int32) (gx : hx_g L h x 9) (f_x_1 : h.2.1 x 1 = 8) (qt : Nat) (gqt : hx_g L h qt 42) (f_x_0 : h.2.2 x 0 = some qt) : Met l yX9_feedBytes (Cond.code yX9_feedBytes cX9_feedBytes 3 none :: hx_all) ({ frames := 0, cells := 0, slots := 0, locals := 0 }) (va_Pc [.ref x, .int i1] (hx_B P_tb (P_ty dA) (dC, dI) vwCl L h sz)) (va_Qv (fun (u : List Nat × hx_h) => hx_S P_tb [(9, 1), (42, 0)] L h u.1 u.2 ∧ u.2.2.1 x 1 = (12 : Int32)) (hx_E P_tb (P_ty dA) (dC, dI) vwCl (hx_A L sz)) (hx_A L sz)) 0 0 (hx_A L sz) := by
  refine hx_met (lv := [(0, .ref x), (1, .int i1)]) (by decide +kernel) rfl (Nat.le_of_ble_eq_true rfl) rfl ?_
  intro p e s m below meth c hx hb hml hr hlk hts0 hown hin hsz hW ls hl
  have hts : ∀ w ∈ hx_all, w.before _ s = true := fun w hw => hts0 w (List.mem_cons_of_mem _ hw)
  have hown : s.vm.findClass "SmallCourt" = some m.cls := hown
  have hM : hx_S P_tb [(9, 1), (42, 0)] L h L h := hx_S.rf
  refine lv_bipush (v := 24) hx hb dX9_feedBytes_0 (by decide) ?_
  refine lv_istore_n (lv' := [(2, .int (24 : Int32)), (0, .ref x), (1, .int i1)]) hx hb dX9_feedBytes_2 rfl hl (by decide) rfl (fun ls hl => ?_)
  refine lv_iload_n hx hb dX9_feedBytes_3 rfl (lv_at hl 0 rfl) ?_
  refine hb_if_lt (zx := 24) (tgt := 46) hx hb (by decide) dX9_feedBytes_4 (by decide) (fun c_1 => absurd c_1 (by decide)) (fun c_1 => ?_)
  refine lv_aload_n hx hb dX9_feedBytes_7 rfl (lv_at hl 1 rfl) ?_
  refine hk_geti hx hb hts hC_9 hown hW gx td_9 1 (by decide) rfl kw_365 ⟨rfl, rfl, rfl⟩ f_x_1 dX9_feedBytes_8 ?_
  refine lv_sipush (v := 400) hx hb dX9_feedBytes_11 (by decide) ?_
  refine hb_icmp_ge (zx := 8) (zy := 400) (tgt := 46) hx hb (by decide) (by decide) dX9_feedBytes_14 (by decide) (fun c_2 => absurd c_2 (by decide)) (fun c_2 => ?_)
  refine lv_aload_n hx hb dX9_feedBytes_17 rfl (lv_at hl 1 rfl) ?_
  refine hk_getr hx hb hts hC_9 hown hW gx td_9 0 (by decide) rfl kw_364 ⟨rfl, rfl, rfl⟩ f_x_0 dX9_feedBytes_18 ?_
  refine lv_aload_n hx hb dX9_feedBytes_21 rfl (lv_at hl 1 rfl) ?_
  refine hk_geti hx hb hts hC_9 hown hW gx td_9 1 (by decide) rfl kw_365 ⟨rfl, rfl, rfl⟩ f_x_1 dX9_feedBytes_22 ?_
  refine lv_iload_n hx hb dX9_feedBytes_25 rfl (lv_at hl 2 rfl) ?_
  refine lv_iload_n hx hb dX9_feedBytes_26 rfl (lv_at hl 0 rfl) ?_
  refine lv_ishr hx hb dX9_feedBytes_27 ?_
  refine lv_topi (fun x_3 ex_3 => ?_)
  refine lv_i2b hx hb dX9_feedBytes_28 rfl ?_
  refine lv_topi (fun x_4 ex_4 => ?_)
  refine hk_bast hx hb hW gqt td_42 rfl (by decide) (y := _) rfl dX9_feedBytes_29 (fun H locs h_5 eh_5 hW hs => ?_)
  have f_x_1 := (hs.o gx trivial rfl).1.trans f_x_1
  have f_x_0 := (hs.o gx trivial rfl).2.trans f_x_0
  have hM := hM.tr (hs.mono (by decide))
  have gx := gx.S hs
  have gqt := gqt.S hs
  refine lv_aload_n hx hb dX9_feedBytes_30 rfl (lv_at hl 1 rfl) ?_
  refine lv_dup hx hb dX9_feedBytes_31 rfl ?_
  refine hk_geti hx hb hts hC_9 hown hW gx td_9 1 (by decide) rfl kw_365 ⟨rfl, rfl, rfl⟩ f_x_1 dX9_feedBytes_32 ?_
  refine lv_iconst (v := 1) hx hb dX9_feedBytes_35 (by decide) ?_
  refine lv_iadd hx hb dX9_feedBytes_36 ?_
  refine lv_topi (fun x_6 ex_6 => ?_)
  obtain rfl : x_6 = (9 : Int32) := ex_6.trans (by decide)
  refine hk_puti hx hb hts hC_9 hown hW gx td_9 1 (by decide) rfl kw_365 ⟨rfl, rfl, rfl⟩ rfl (x := (9 : Int32)) rfl rfl rfl dX9_feedBytes_37 (fun H locs h_7 eh_7 hW hs => ?_)
  have f_x_0 := (hs.o gx trivial rfl).2.trans f_x_0
  have hM := hM.tr (hs.mono (by decide))
  have gx := gx.S hs
  have gqt := gqt.S hs
  have f_8 : h_7.2.1 x 1 = (9 : Int32) := by rw [eh_7]; exact hx_pi_at _ _ _ _
  refine lv_iinc (v := 16) (lv' := [(2, .int (16 : Int32)), (0, .ref x), (1, .int i1)]) hx hb dX9_feedBytes_40 hl (k := 0) rfl (by decide) (by decide) rfl (fun ls hl => ?_)
  refine lv_goto (tgt := 3) hx hb dX9_feedBytes_43 (by decide) ?_
  refine lv_iload_n hx hb dX9_feedBytes_3 rfl (lv_at hl 0 rfl) ?_
  refine hb_if_lt (zx := 16) (tgt := 46) hx hb (by decide) dX9_feedBytes_4 (by decide) (fun c_9 => absurd c_9 (by decide)) (fun c_9 => ?_)
  refine lv_aload_n hx hb dX9_feedBytes_7 rfl (lv_at hl 1 rfl) ?_
  refine hk_geti hx hb hts hC_9 hown hW gx td_9 1 (by decide) rfl kw_365 ⟨rfl, rfl, rfl⟩ f_8 dX9_feedBytes_8 ?_
  refine lv_sipush (v := 400) hx hb dX9_feedBytes_11 (by decide) ?_
  refine hb_icmp_ge (zx := 9) (zy := 400) (tgt := 46) hx hb (by decide) (by decide) dX9_feedBytes_14 (by decide) (fun c_10 => absurd c_10 (by decide)) (fun c_10 => ?_)
  refine lv_aload_n hx hb dX9_feedBytes_17 rfl (lv_at hl 1 rfl) ?_
  refine hk_getr hx hb hts hC_9 hown hW gx td_9 0 (by decide) rfl kw_364 ⟨rfl, rfl, rfl⟩ f_x_0 dX9_feedBytes_18 ?_
  refine lv_aload_n hx hb dX9_feedBytes_21 rfl (lv_at hl 1 rfl) ?_
  refine hk_geti hx hb hts hC_9 hown hW gx td_9 1 (by decide) rfl kw_365 ⟨rfl, rfl, rfl⟩ f_8 dX9_feedBytes_22 ?_
  refine lv_iload_n hx hb dX9_feedBytes_25 rfl (lv_at hl 2 rfl) ?_
  refine lv_iload_n hx hb dX9_feedBytes_26 rfl (lv_at hl 0 rfl) ?_
  refine lv_ishr hx hb dX9_feedBytes_27 ?_
  refine lv_topi (fun x_11 ex_11 => ?_)
  refine lv_i2b hx hb dX9_feedBytes_28 rfl ?_
  refine lv_topi (fun x_12 ex_12 => ?_)
  refine hk_bast hx hb hW gqt td_42 rfl (by decide) (y := _) rfl dX9_feedBytes_29 (fun H locs h_13 eh_13 hW hs => ?_)
  have f_x_0 := (hs.o gx trivial rfl).2.trans f_x_0
  have f_8 := (hs.o gx trivial rfl).1.trans f_8
  have hM := hM.tr (hs.mono (by decide))
  have gx := gx.S hs
  have gqt := gqt.S hs
  refine lv_aload_n hx hb dX9_feedBytes_30 rfl (lv_at hl 1 rfl) ?_
  refine lv_dup hx hb dX9_feedBytes_31 rfl ?_
  refine hk_geti hx hb hts hC_9 hown hW gx td_9 1 (by decide) rfl kw_365 ⟨rfl, rfl, rfl⟩ f_8 dX9_feedBytes_32 ?_
  refine lv_iconst (v := 1) hx hb dX9_feedBytes_35 (by decide) ?_
  refine lv_iadd hx hb dX9_feedBytes_36 ?_
  refine lv_topi (fun x_14 ex_14 => ?_)
  obtain rfl : x_14 = (10 : Int32) := ex_14.trans (by decide)
  refine hk_puti hx hb hts hC_9 hown hW gx td_9 1 (by decide) rfl kw_365 ⟨rfl, rfl, rfl⟩ rfl (x := (10 : Int32)) rfl rfl rfl dX9_feedBytes_37 (fun H locs h_15 eh_15 hW hs => ?_)
  have f_x_0 := (hs.o gx trivial rfl).2.trans f_x_0
  have hM := hM.tr (hs.mono (by decide))
  have gx := gx.S hs
  have gqt := gqt.S hs
  have f_16 : h_15.2.1 x 1 = (10 : Int32) := by rw [eh_15]; exact hx_pi_at _ _ _ _
  refine lv_iinc (v := 8) (lv' := [(2, .int (8 : Int32)), (0, .ref x), (1, .int i1)]) hx hb dX9_feedBytes_40 hl (k := 0) rfl (by decide) (by decide) rfl (fun ls hl => ?_)
  refine lv_goto (tgt := 3) hx hb dX9_feedBytes_43 (by decide) ?_
  refine lv_iload_n hx hb dX9_feedBytes_3 rfl (lv_at hl 0 rfl) ?_
  refine hb_if_lt (zx := 8) (tgt := 46) hx hb (by decide) dX9_feedBytes_4 (by decide) (fun c_17 => absurd c_17 (by decide)) (fun c_17 => ?_)
  refine lv_aload_n hx hb dX9_feedBytes_7 rfl (lv_at hl 1 rfl) ?_
  refine hk_geti hx hb hts hC_9 hown hW gx td_9 1 (by decide) rfl kw_365 ⟨rfl, rfl, rfl⟩ f_16 dX9_feedBytes_8 ?_
  refine lv_sipush (v := 400) hx hb dX9_feedBytes_11 (by decide) ?_
  refine hb_icmp_ge (zx := 10) (zy := 400) (tgt := 46) hx hb (by decide) (by decide) dX9_feedBytes_14 (by decide) (fun c_18 => absurd c_18 (by decide)) (fun c_18 => ?_)
  refine lv_aload_n hx hb dX9_feedBytes_17 rfl (lv_at hl 1 rfl) ?_
  refine hk_getr hx hb hts hC_9 hown hW gx td_9 0 (by decide) rfl kw_364 ⟨rfl, rfl, rfl⟩ f_x_0 dX9_feedBytes_18 ?_
  refine lv_aload_n hx hb dX9_feedBytes_21 rfl (lv_at hl 1 rfl) ?_
  refine hk_geti hx hb hts hC_9 hown hW gx td_9 1 (by decide) rfl kw_365 ⟨rfl, rfl, rfl⟩ f_16 dX9_feedBytes_22 ?_
  refine lv_iload_n hx hb dX9_feedBytes_25 rfl (lv_at hl 2 rfl) ?_
  refine lv_iload_n hx hb dX9_feedBytes_26 rfl (lv_at hl 0 rfl) ?_
  refine lv_ishr hx hb dX9_feedBytes_27 ?_
  refine lv_topi (fun x_19 ex_19 => ?_)
  refine lv_i2b hx hb dX9_feedBytes_28 rfl ?_
  refine lv_topi (fun x_20 ex_20 => ?_)
  refine hk_bast hx hb hW gqt td_42 rfl (by decide) (y := _) rfl dX9_feedBytes_29 (fun H locs h_21 eh_21 hW hs => ?_)
  have f_x_0 := (hs.o gx trivial rfl).2.trans f_x_0
  have f_16 := (hs.o gx trivial rfl).1.trans f_16
  have hM := hM.tr (hs.mono (by decide))
  have gx := gx.S hs
  have gqt := gqt.S hs
  refine lv_aload_n hx hb dX9_feedBytes_30 rfl (lv_at hl 1 rfl) ?_
  refine lv_dup hx hb dX9_feedBytes_31 rfl ?_
  refine hk_geti hx hb hts hC_9 hown hW gx td_9 1 (by decide) rfl kw_365 ⟨rfl, rfl, rfl⟩ f_16 dX9_feedBytes_32 ?_
  refine lv_iconst (v := 1) hx hb dX9_feedBytes_35 (by decide) ?_
  refine lv_iadd hx hb dX9_feedBytes_36 ?_
  refine lv_topi (fun x_22 ex_22 => ?_)
  obtain rfl : x_22 = (11 : Int32) := ex_22.trans (by decide)
  refine hk_puti hx hb hts hC_9 hown hW gx td_9 1 (by decide) rfl kw_365 ⟨rfl, rfl, rfl⟩ rfl (x := (11 : Int32)) rfl rfl rfl dX9_feedBytes_37 (fun H locs h_23 eh_23 hW hs => ?_)
  have f_x_0 := (hs.o gx trivial rfl).2.trans f_x_0
  have hM := hM.tr (hs.mono (by decide))
  have gx := gx.S hs
  have gqt := gqt.S hs
  have f_24 : h_23.2.1 x 1 = (11 : Int32) := by rw [eh_23]; exact hx_pi_at _ _ _ _
  refine lv_iinc (v := 0) (lv' := [(2, .int (0 : Int32)), (0, .ref x), (1, .int i1)]) hx hb dX9_feedBytes_40 hl (k := 0) rfl (by decide) (by decide) rfl (fun ls hl => ?_)
  refine lv_goto (tgt := 3) hx hb dX9_feedBytes_43 (by decide) ?_
  refine lv_iload_n hx hb dX9_feedBytes_3 rfl (lv_at hl 0 rfl) ?_
  refine hb_if_lt (zx := 0) (tgt := 46) hx hb (by decide) dX9_feedBytes_4 (by decide) (fun c_25 => absurd c_25 (by decide)) (fun c_25 => ?_)
  refine lv_aload_n hx hb dX9_feedBytes_7 rfl (lv_at hl 1 rfl) ?_
  refine hk_geti hx hb hts hC_9 hown hW gx td_9 1 (by decide) rfl kw_365 ⟨rfl, rfl, rfl⟩ f_24 dX9_feedBytes_8 ?_
  refine lv_sipush (v := 400) hx hb dX9_feedBytes_11 (by decide) ?_
  refine hb_icmp_ge (zx := 11) (zy := 400) (tgt := 46) hx hb (by decide) (by decide) dX9_feedBytes_14 (by decide) (fun c_26 => absurd c_26 (by decide)) (fun c_26 => ?_)
  refine lv_aload_n hx hb dX9_feedBytes_17 rfl (lv_at hl 1 rfl) ?_
  refine hk_getr hx hb hts hC_9 hown hW gx td_9 0 (by decide) rfl kw_364 ⟨rfl, rfl, rfl⟩ f_x_0 dX9_feedBytes_18 ?_
  refine lv_aload_n hx hb dX9_feedBytes_21 rfl (lv_at hl 1 rfl) ?_
  refine hk_geti hx hb hts hC_9 hown hW gx td_9 1 (by decide) rfl kw_365 ⟨rfl, rfl, rfl⟩ f_24 dX9_feedBytes_22 ?_
  refine lv_iload_n hx hb dX9_feedBytes_25 rfl (lv_at hl 2 rfl) ?_
  refine lv_iload_n hx hb dX9_feedBytes_26 rfl (lv_at hl 0 rfl) ?_
  refine lv_ishr hx hb dX9_feedBytes_27 ?_
  refine lv_topi (fun x_27 ex_27 => ?_)
  refine lv_i2b hx hb dX9_feedBytes_28 rfl ?_
  refine lv_topi (fun x_28 ex_28 => ?_)
  refine hk_bast hx hb hW gqt td_42 rfl (by decide) (y := _) rfl dX9_feedBytes_29 (fun H locs h_29 eh_29 hW hs => ?_)
  have f_x_0 := (hs.o gx trivial rfl).2.trans f_x_0
  have f_24 := (hs.o gx trivial rfl).1.trans f_24
  have hM := hM.tr (hs.mono (by decide))
  have gx := gx.S hs
  have gqt := gqt.S hs
  refine lv_aload_n hx hb dX9_feedBytes_30 rfl (lv_at hl 1 rfl) ?_
  refine lv_dup hx hb dX9_feedBytes_31 rfl ?_
  refine hk_geti hx hb hts hC_9 hown hW gx td_9 1 (by decide) rfl kw_365 ⟨rfl, rfl, rfl⟩ f_24 dX9_feedBytes_32 ?_
  refine lv_iconst (v := 1) hx hb dX9_feedBytes_35 (by decide) ?_
  refine lv_iadd hx hb dX9_feedBytes_36 ?_
  refine lv_topi (fun x_30 ex_30 => ?_)
  obtain rfl : x_30 = (12 : Int32) := ex_30.trans (by decide)
  refine hk_puti hx hb hts hC_9 hown hW gx td_9 1 (by decide) rfl kw_365 ⟨rfl, rfl, rfl⟩ rfl (x := (12 : Int32)) rfl rfl rfl dX9_feedBytes_37 (fun H locs h_31 eh_31 hW hs => ?_)
  have f_x_0 := (hs.o gx trivial rfl).2.trans f_x_0
  have hM := hM.tr (hs.mono (by decide))
  have gx := gx.S hs
  have gqt := gqt.S hs
  have f_32 : h_31.2.1 x 1 = (12 : Int32) := by rw [eh_31]; exact hx_pi_at _ _ _ _
  refine lv_iinc (v := -8) (lv' := [(2, .int (-8 : Int32)), (0, .ref x), (1, .int i1)]) hx hb dX9_feedBytes_40 hl (k := 0) rfl (by decide) (by decide) rfl (fun ls hl => ?_)
  refine lv_goto (tgt := 3) hx hb dX9_feedBytes_43 (by decide) ?_
  refine lv_iload_n hx hb dX9_feedBytes_3 rfl (lv_at hl 0 rfl) ?_
  refine hb_if_lt (zx := (-8)) (tgt := 46) hx hb (by decide) dX9_feedBytes_4 (by decide) (fun c_33 => ?_) (fun c_33 => absurd c_33 (by decide))
  exact hx_retv hx hb hr hlk hW ⟨hM, f_32⟩ dX9_feedBytes_46



set_option maxHeartbeats 4000000 in
set_option maxRecDepth 100000 in
theorem c_X10_four_8 (l : Launch) (dC : Nat → ClassId) (dI : Nat → Nat → Nat) (dA : Nat → ClassId) (L : List Nat) (h : hx_h) (sz : Nat) (y : Nat) (i1 : Int32) (gy : hx_g L h y 10) (f_y_7 : h.2.1 y 7 = 8) (qt : Nat) (gqt : hx_g L h qt 53) (f_y_6 : h.2.2 y 6 = some qt) : Met l yX10_four (Cond.code yX10_four cX10_four 3 none :: hx_all) ({ frames := 0, cells := 0, slots := 0, locals := 0 }) (va_Pc [.ref y, .int i1] (hx_B P_tb (P_ty dA) (dC, dI) vwCl L h sz)) (va_Qv (fun (u : List Nat × hx_h) => hx_S P_tb [(10, 7), (53, 0)] L h u.1 u.2 ∧ u.2.2.1 y 7 = (12 : Int32)) (hx_E P_tb (P_ty dA) (dC, dI) vwCl (hx_A L sz)) (hx_A L sz)) 0 0 (hx_A L sz) := by
  refine hx_met (lv := [(0, .ref y), (1, .int i1)]) (by decide +kernel) rfl (Nat.le_of_ble_eq_true rfl) rfl ?_
  intro p e s m below meth c hx hb hml hr hlk hts0 hown hin hsz hW ls hl
  have hts : ∀ w ∈ hx_all, w.before _ s = true := fun w hw => hts0 w (List.mem_cons_of_mem _ hw)
  have hown : s.vm.findClass "SmallCourtModel" = some m.cls := hown
  have hM : hx_S P_tb [(10, 7), (53, 0)] L h L h := hx_S.rf
  refine lv_bipush (v := 24) hx hb dX10_four_0 (by decide) ?_
  refine lv_istore_n (lv' := [(2, .int (24 : Int32)), (0, .ref y), (1, .int i1)]) hx hb dX10_four_2 rfl hl (by decide) rfl (fun ls hl => ?_)
  refine lv_iload_n hx hb dX10_four_3 rfl (lv_at hl 0 rfl) ?_
  refine hb_if_lt (zx := 24) (tgt := 36) hx hb (by decide) dX10_four_4 (by decide) (fun c_1 => absurd c_1 (by decide)) (fun c_1 => ?_)
  refine lv_aload_n hx hb dX10_four_7 rfl (lv_at hl 1 rfl) ?_
  refine hk_getr hx hb hts hC_10 hown hW gy td_10 6 (by decide) rfl kw_1149 ⟨rfl, rfl, rfl⟩ f_y_6 dX10_four_8 ?_
  refine lv_aload_n hx hb dX10_four_11 rfl (lv_at hl 1 rfl) ?_
  refine hk_geti hx hb hts hC_10 hown hW gy td_10 7 (by decide) rfl kw_1150 ⟨rfl, rfl, rfl⟩ f_y_7 dX10_four_12 ?_
  refine lv_iload_n hx hb dX10_four_15 rfl (lv_at hl 2 rfl) ?_
  refine lv_iload_n hx hb dX10_four_16 rfl (lv_at hl 0 rfl) ?_
  refine lv_ishr hx hb dX10_four_17 ?_
  refine lv_topi (fun x_2 ex_2 => ?_)
  refine lv_i2b hx hb dX10_four_18 rfl ?_
  refine lv_topi (fun x_3 ex_3 => ?_)
  refine hk_bast hx hb hW gqt td_53 rfl (by decide) (y := _) rfl dX10_four_19 (fun H locs h_4 eh_4 hW hs => ?_)
  have f_y_7 := (hs.o gy trivial rfl).1.trans f_y_7
  have f_y_6 := (hs.o gy trivial rfl).2.trans f_y_6
  have hM := hM.tr (hs.mono (by decide))
  have gy := gy.S hs
  have gqt := gqt.S hs
  refine lv_aload_n hx hb dX10_four_20 rfl (lv_at hl 1 rfl) ?_
  refine lv_dup hx hb dX10_four_21 rfl ?_
  refine hk_geti hx hb hts hC_10 hown hW gy td_10 7 (by decide) rfl kw_1150 ⟨rfl, rfl, rfl⟩ f_y_7 dX10_four_22 ?_
  refine lv_iconst (v := 1) hx hb dX10_four_25 (by decide) ?_
  refine lv_iadd hx hb dX10_four_26 ?_
  refine lv_topi (fun x_5 ex_5 => ?_)
  obtain rfl : x_5 = (9 : Int32) := ex_5.trans (by decide)
  refine hk_puti hx hb hts hC_10 hown hW gy td_10 7 (by decide) rfl kw_1150 ⟨rfl, rfl, rfl⟩ rfl (x := (9 : Int32)) rfl rfl rfl dX10_four_27 (fun H locs h_6 eh_6 hW hs => ?_)
  have f_y_6 := (hs.o gy trivial rfl).2.trans f_y_6
  have hM := hM.tr (hs.mono (by decide))
  have gy := gy.S hs
  have gqt := gqt.S hs
  have f_7 : h_6.2.1 y 7 = (9 : Int32) := by rw [eh_6]; exact hx_pi_at _ _ _ _
  refine lv_iinc (v := 16) (lv' := [(2, .int (16 : Int32)), (0, .ref y), (1, .int i1)]) hx hb dX10_four_30 hl (k := 0) rfl (by decide) (by decide) rfl (fun ls hl => ?_)
  refine lv_goto (tgt := 3) hx hb dX10_four_33 (by decide) ?_
  refine lv_iload_n hx hb dX10_four_3 rfl (lv_at hl 0 rfl) ?_
  refine hb_if_lt (zx := 16) (tgt := 36) hx hb (by decide) dX10_four_4 (by decide) (fun c_8 => absurd c_8 (by decide)) (fun c_8 => ?_)
  refine lv_aload_n hx hb dX10_four_7 rfl (lv_at hl 1 rfl) ?_
  refine hk_getr hx hb hts hC_10 hown hW gy td_10 6 (by decide) rfl kw_1149 ⟨rfl, rfl, rfl⟩ f_y_6 dX10_four_8 ?_
  refine lv_aload_n hx hb dX10_four_11 rfl (lv_at hl 1 rfl) ?_
  refine hk_geti hx hb hts hC_10 hown hW gy td_10 7 (by decide) rfl kw_1150 ⟨rfl, rfl, rfl⟩ f_7 dX10_four_12 ?_
  refine lv_iload_n hx hb dX10_four_15 rfl (lv_at hl 2 rfl) ?_
  refine lv_iload_n hx hb dX10_four_16 rfl (lv_at hl 0 rfl) ?_
  refine lv_ishr hx hb dX10_four_17 ?_
  refine lv_topi (fun x_9 ex_9 => ?_)
  refine lv_i2b hx hb dX10_four_18 rfl ?_
  refine lv_topi (fun x_10 ex_10 => ?_)
  refine hk_bast hx hb hW gqt td_53 rfl (by decide) (y := _) rfl dX10_four_19 (fun H locs h_11 eh_11 hW hs => ?_)
  have f_y_6 := (hs.o gy trivial rfl).2.trans f_y_6
  have f_7 := (hs.o gy trivial rfl).1.trans f_7
  have hM := hM.tr (hs.mono (by decide))
  have gy := gy.S hs
  have gqt := gqt.S hs
  refine lv_aload_n hx hb dX10_four_20 rfl (lv_at hl 1 rfl) ?_
  refine lv_dup hx hb dX10_four_21 rfl ?_
  refine hk_geti hx hb hts hC_10 hown hW gy td_10 7 (by decide) rfl kw_1150 ⟨rfl, rfl, rfl⟩ f_7 dX10_four_22 ?_
  refine lv_iconst (v := 1) hx hb dX10_four_25 (by decide) ?_
  refine lv_iadd hx hb dX10_four_26 ?_
  refine lv_topi (fun x_12 ex_12 => ?_)
  obtain rfl : x_12 = (10 : Int32) := ex_12.trans (by decide)
  refine hk_puti hx hb hts hC_10 hown hW gy td_10 7 (by decide) rfl kw_1150 ⟨rfl, rfl, rfl⟩ rfl (x := (10 : Int32)) rfl rfl rfl dX10_four_27 (fun H locs h_13 eh_13 hW hs => ?_)
  have f_y_6 := (hs.o gy trivial rfl).2.trans f_y_6
  have hM := hM.tr (hs.mono (by decide))
  have gy := gy.S hs
  have gqt := gqt.S hs
  have f_14 : h_13.2.1 y 7 = (10 : Int32) := by rw [eh_13]; exact hx_pi_at _ _ _ _
  refine lv_iinc (v := 8) (lv' := [(2, .int (8 : Int32)), (0, .ref y), (1, .int i1)]) hx hb dX10_four_30 hl (k := 0) rfl (by decide) (by decide) rfl (fun ls hl => ?_)
  refine lv_goto (tgt := 3) hx hb dX10_four_33 (by decide) ?_
  refine lv_iload_n hx hb dX10_four_3 rfl (lv_at hl 0 rfl) ?_
  refine hb_if_lt (zx := 8) (tgt := 36) hx hb (by decide) dX10_four_4 (by decide) (fun c_15 => absurd c_15 (by decide)) (fun c_15 => ?_)
  refine lv_aload_n hx hb dX10_four_7 rfl (lv_at hl 1 rfl) ?_
  refine hk_getr hx hb hts hC_10 hown hW gy td_10 6 (by decide) rfl kw_1149 ⟨rfl, rfl, rfl⟩ f_y_6 dX10_four_8 ?_
  refine lv_aload_n hx hb dX10_four_11 rfl (lv_at hl 1 rfl) ?_
  refine hk_geti hx hb hts hC_10 hown hW gy td_10 7 (by decide) rfl kw_1150 ⟨rfl, rfl, rfl⟩ f_14 dX10_four_12 ?_
  refine lv_iload_n hx hb dX10_four_15 rfl (lv_at hl 2 rfl) ?_
  refine lv_iload_n hx hb dX10_four_16 rfl (lv_at hl 0 rfl) ?_
  refine lv_ishr hx hb dX10_four_17 ?_
  refine lv_topi (fun x_16 ex_16 => ?_)
  refine lv_i2b hx hb dX10_four_18 rfl ?_
  refine lv_topi (fun x_17 ex_17 => ?_)
  refine hk_bast hx hb hW gqt td_53 rfl (by decide) (y := _) rfl dX10_four_19 (fun H locs h_18 eh_18 hW hs => ?_)
  have f_y_6 := (hs.o gy trivial rfl).2.trans f_y_6
  have f_14 := (hs.o gy trivial rfl).1.trans f_14
  have hM := hM.tr (hs.mono (by decide))
  have gy := gy.S hs
  have gqt := gqt.S hs
  refine lv_aload_n hx hb dX10_four_20 rfl (lv_at hl 1 rfl) ?_
  refine lv_dup hx hb dX10_four_21 rfl ?_
  refine hk_geti hx hb hts hC_10 hown hW gy td_10 7 (by decide) rfl kw_1150 ⟨rfl, rfl, rfl⟩ f_14 dX10_four_22 ?_
  refine lv_iconst (v := 1) hx hb dX10_four_25 (by decide) ?_
  refine lv_iadd hx hb dX10_four_26 ?_
  refine lv_topi (fun x_19 ex_19 => ?_)
  obtain rfl : x_19 = (11 : Int32) := ex_19.trans (by decide)
  refine hk_puti hx hb hts hC_10 hown hW gy td_10 7 (by decide) rfl kw_1150 ⟨rfl, rfl, rfl⟩ rfl (x := (11 : Int32)) rfl rfl rfl dX10_four_27 (fun H locs h_20 eh_20 hW hs => ?_)
  have f_y_6 := (hs.o gy trivial rfl).2.trans f_y_6
  have hM := hM.tr (hs.mono (by decide))
  have gy := gy.S hs
  have gqt := gqt.S hs
  have f_21 : h_20.2.1 y 7 = (11 : Int32) := by rw [eh_20]; exact hx_pi_at _ _ _ _
  refine lv_iinc (v := 0) (lv' := [(2, .int (0 : Int32)), (0, .ref y), (1, .int i1)]) hx hb dX10_four_30 hl (k := 0) rfl (by decide) (by decide) rfl (fun ls hl => ?_)
  refine lv_goto (tgt := 3) hx hb dX10_four_33 (by decide) ?_
  refine lv_iload_n hx hb dX10_four_3 rfl (lv_at hl 0 rfl) ?_
  refine hb_if_lt (zx := 0) (tgt := 36) hx hb (by decide) dX10_four_4 (by decide) (fun c_22 => absurd c_22 (by decide)) (fun c_22 => ?_)
  refine lv_aload_n hx hb dX10_four_7 rfl (lv_at hl 1 rfl) ?_
  refine hk_getr hx hb hts hC_10 hown hW gy td_10 6 (by decide) rfl kw_1149 ⟨rfl, rfl, rfl⟩ f_y_6 dX10_four_8 ?_
  refine lv_aload_n hx hb dX10_four_11 rfl (lv_at hl 1 rfl) ?_
  refine hk_geti hx hb hts hC_10 hown hW gy td_10 7 (by decide) rfl kw_1150 ⟨rfl, rfl, rfl⟩ f_21 dX10_four_12 ?_
  refine lv_iload_n hx hb dX10_four_15 rfl (lv_at hl 2 rfl) ?_
  refine lv_iload_n hx hb dX10_four_16 rfl (lv_at hl 0 rfl) ?_
  refine lv_ishr hx hb dX10_four_17 ?_
  refine lv_topi (fun x_23 ex_23 => ?_)
  refine lv_i2b hx hb dX10_four_18 rfl ?_
  refine lv_topi (fun x_24 ex_24 => ?_)
  refine hk_bast hx hb hW gqt td_53 rfl (by decide) (y := _) rfl dX10_four_19 (fun H locs h_25 eh_25 hW hs => ?_)
  have f_y_6 := (hs.o gy trivial rfl).2.trans f_y_6
  have f_21 := (hs.o gy trivial rfl).1.trans f_21
  have hM := hM.tr (hs.mono (by decide))
  have gy := gy.S hs
  have gqt := gqt.S hs
  refine lv_aload_n hx hb dX10_four_20 rfl (lv_at hl 1 rfl) ?_
  refine lv_dup hx hb dX10_four_21 rfl ?_
  refine hk_geti hx hb hts hC_10 hown hW gy td_10 7 (by decide) rfl kw_1150 ⟨rfl, rfl, rfl⟩ f_21 dX10_four_22 ?_
  refine lv_iconst (v := 1) hx hb dX10_four_25 (by decide) ?_
  refine lv_iadd hx hb dX10_four_26 ?_
  refine lv_topi (fun x_26 ex_26 => ?_)
  obtain rfl : x_26 = (12 : Int32) := ex_26.trans (by decide)
  refine hk_puti hx hb hts hC_10 hown hW gy td_10 7 (by decide) rfl kw_1150 ⟨rfl, rfl, rfl⟩ rfl (x := (12 : Int32)) rfl rfl rfl dX10_four_27 (fun H locs h_27 eh_27 hW hs => ?_)
  have f_y_6 := (hs.o gy trivial rfl).2.trans f_y_6
  have hM := hM.tr (hs.mono (by decide))
  have gy := gy.S hs
  have gqt := gqt.S hs
  have f_28 : h_27.2.1 y 7 = (12 : Int32) := by rw [eh_27]; exact hx_pi_at _ _ _ _
  refine lv_iinc (v := -8) (lv' := [(2, .int (-8 : Int32)), (0, .ref y), (1, .int i1)]) hx hb dX10_four_30 hl (k := 0) rfl (by decide) (by decide) rfl (fun ls hl => ?_)
  refine lv_goto (tgt := 3) hx hb dX10_four_33 (by decide) ?_
  refine lv_iload_n hx hb dX10_four_3 rfl (lv_at hl 0 rfl) ?_
  refine hb_if_lt (zx := (-8)) (tgt := 36) hx hb (by decide) dX10_four_4 (by decide) (fun c_29 => ?_) (fun c_29 => absurd c_29 (by decide))
  exact hx_retv hx hb hr hlk hW ⟨hM, f_28⟩ dX10_four_36



set_option maxHeartbeats 4000000 in
set_option maxRecDepth 100000 in
theorem c_X9_feedBytes_12 (l : Launch) (dC : Nat → ClassId) (dI : Nat → Nat → Nat) (dA : Nat → ClassId) (L : List Nat) (h : hx_h) (sz : Nat) (x : Nat) (i1 : Int32) (gx : hx_g L h x 9) (f_x_1 : h.2.1 x 1 = 12) (qt : Nat) (gqt : hx_g L h qt 42) (f_x_0 : h.2.2 x 0 = some qt) : Met l yX9_feedBytes (Cond.code yX9_feedBytes cX9_feedBytes 3 none :: hx_all) ({ frames := 0, cells := 0, slots := 0, locals := 0 }) (va_Pc [.ref x, .int i1] (hx_B P_tb (P_ty dA) (dC, dI) vwCl L h sz)) (va_Qv (fun (u : List Nat × hx_h) => hx_S P_tb [(9, 1), (42, 0)] L h u.1 u.2 ∧ u.2.2.1 x 1 = (16 : Int32)) (hx_E P_tb (P_ty dA) (dC, dI) vwCl (hx_A L sz)) (hx_A L sz)) 0 0 (hx_A L sz) := by
  refine hx_met (lv := [(0, .ref x), (1, .int i1)]) (by decide +kernel) rfl (Nat.le_of_ble_eq_true rfl) rfl ?_
  intro p e s m below meth c hx hb hml hr hlk hts0 hown hin hsz hW ls hl
  have hts : ∀ w ∈ hx_all, w.before _ s = true := fun w hw => hts0 w (List.mem_cons_of_mem _ hw)
  have hown : s.vm.findClass "SmallCourt" = some m.cls := hown
  have hM : hx_S P_tb [(9, 1), (42, 0)] L h L h := hx_S.rf
  refine lv_bipush (v := 24) hx hb dX9_feedBytes_0 (by decide) ?_
  refine lv_istore_n (lv' := [(2, .int (24 : Int32)), (0, .ref x), (1, .int i1)]) hx hb dX9_feedBytes_2 rfl hl (by decide) rfl (fun ls hl => ?_)
  refine lv_iload_n hx hb dX9_feedBytes_3 rfl (lv_at hl 0 rfl) ?_
  refine hb_if_lt (zx := 24) (tgt := 46) hx hb (by decide) dX9_feedBytes_4 (by decide) (fun c_1 => absurd c_1 (by decide)) (fun c_1 => ?_)
  refine lv_aload_n hx hb dX9_feedBytes_7 rfl (lv_at hl 1 rfl) ?_
  refine hk_geti hx hb hts hC_9 hown hW gx td_9 1 (by decide) rfl kw_365 ⟨rfl, rfl, rfl⟩ f_x_1 dX9_feedBytes_8 ?_
  refine lv_sipush (v := 400) hx hb dX9_feedBytes_11 (by decide) ?_
  refine hb_icmp_ge (zx := 12) (zy := 400) (tgt := 46) hx hb (by decide) (by decide) dX9_feedBytes_14 (by decide) (fun c_2 => absurd c_2 (by decide)) (fun c_2 => ?_)
  refine lv_aload_n hx hb dX9_feedBytes_17 rfl (lv_at hl 1 rfl) ?_
  refine hk_getr hx hb hts hC_9 hown hW gx td_9 0 (by decide) rfl kw_364 ⟨rfl, rfl, rfl⟩ f_x_0 dX9_feedBytes_18 ?_
  refine lv_aload_n hx hb dX9_feedBytes_21 rfl (lv_at hl 1 rfl) ?_
  refine hk_geti hx hb hts hC_9 hown hW gx td_9 1 (by decide) rfl kw_365 ⟨rfl, rfl, rfl⟩ f_x_1 dX9_feedBytes_22 ?_
  refine lv_iload_n hx hb dX9_feedBytes_25 rfl (lv_at hl 2 rfl) ?_
  refine lv_iload_n hx hb dX9_feedBytes_26 rfl (lv_at hl 0 rfl) ?_
  refine lv_ishr hx hb dX9_feedBytes_27 ?_
  refine lv_topi (fun x_3 ex_3 => ?_)
  refine lv_i2b hx hb dX9_feedBytes_28 rfl ?_
  refine lv_topi (fun x_4 ex_4 => ?_)
  refine hk_bast hx hb hW gqt td_42 rfl (by decide) (y := _) rfl dX9_feedBytes_29 (fun H locs h_5 eh_5 hW hs => ?_)
  have f_x_1 := (hs.o gx trivial rfl).1.trans f_x_1
  have f_x_0 := (hs.o gx trivial rfl).2.trans f_x_0
  have hM := hM.tr (hs.mono (by decide))
  have gx := gx.S hs
  have gqt := gqt.S hs
  refine lv_aload_n hx hb dX9_feedBytes_30 rfl (lv_at hl 1 rfl) ?_
  refine lv_dup hx hb dX9_feedBytes_31 rfl ?_
  refine hk_geti hx hb hts hC_9 hown hW gx td_9 1 (by decide) rfl kw_365 ⟨rfl, rfl, rfl⟩ f_x_1 dX9_feedBytes_32 ?_
  refine lv_iconst (v := 1) hx hb dX9_feedBytes_35 (by decide) ?_
  refine lv_iadd hx hb dX9_feedBytes_36 ?_
  refine lv_topi (fun x_6 ex_6 => ?_)
  obtain rfl : x_6 = (13 : Int32) := ex_6.trans (by decide)
  refine hk_puti hx hb hts hC_9 hown hW gx td_9 1 (by decide) rfl kw_365 ⟨rfl, rfl, rfl⟩ rfl (x := (13 : Int32)) rfl rfl rfl dX9_feedBytes_37 (fun H locs h_7 eh_7 hW hs => ?_)
  have f_x_0 := (hs.o gx trivial rfl).2.trans f_x_0
  have hM := hM.tr (hs.mono (by decide))
  have gx := gx.S hs
  have gqt := gqt.S hs
  have f_8 : h_7.2.1 x 1 = (13 : Int32) := by rw [eh_7]; exact hx_pi_at _ _ _ _
  refine lv_iinc (v := 16) (lv' := [(2, .int (16 : Int32)), (0, .ref x), (1, .int i1)]) hx hb dX9_feedBytes_40 hl (k := 0) rfl (by decide) (by decide) rfl (fun ls hl => ?_)
  refine lv_goto (tgt := 3) hx hb dX9_feedBytes_43 (by decide) ?_
  refine lv_iload_n hx hb dX9_feedBytes_3 rfl (lv_at hl 0 rfl) ?_
  refine hb_if_lt (zx := 16) (tgt := 46) hx hb (by decide) dX9_feedBytes_4 (by decide) (fun c_9 => absurd c_9 (by decide)) (fun c_9 => ?_)
  refine lv_aload_n hx hb dX9_feedBytes_7 rfl (lv_at hl 1 rfl) ?_
  refine hk_geti hx hb hts hC_9 hown hW gx td_9 1 (by decide) rfl kw_365 ⟨rfl, rfl, rfl⟩ f_8 dX9_feedBytes_8 ?_
  refine lv_sipush (v := 400) hx hb dX9_feedBytes_11 (by decide) ?_
  refine hb_icmp_ge (zx := 13) (zy := 400) (tgt := 46) hx hb (by decide) (by decide) dX9_feedBytes_14 (by decide) (fun c_10 => absurd c_10 (by decide)) (fun c_10 => ?_)
  refine lv_aload_n hx hb dX9_feedBytes_17 rfl (lv_at hl 1 rfl) ?_
  refine hk_getr hx hb hts hC_9 hown hW gx td_9 0 (by decide) rfl kw_364 ⟨rfl, rfl, rfl⟩ f_x_0 dX9_feedBytes_18 ?_
  refine lv_aload_n hx hb dX9_feedBytes_21 rfl (lv_at hl 1 rfl) ?_
  refine hk_geti hx hb hts hC_9 hown hW gx td_9 1 (by decide) rfl kw_365 ⟨rfl, rfl, rfl⟩ f_8 dX9_feedBytes_22 ?_
  refine lv_iload_n hx hb dX9_feedBytes_25 rfl (lv_at hl 2 rfl) ?_
  refine lv_iload_n hx hb dX9_feedBytes_26 rfl (lv_at hl 0 rfl) ?_
  refine lv_ishr hx hb dX9_feedBytes_27 ?_
  refine lv_topi (fun x_11 ex_11 => ?_)
  refine lv_i2b hx hb dX9_feedBytes_28 rfl ?_
  refine lv_topi (fun x_12 ex_12 => ?_)
  refine hk_bast hx hb hW gqt td_42 rfl (by decide) (y := _) rfl dX9_feedBytes_29 (fun H locs h_13 eh_13 hW hs => ?_)
  have f_x_0 := (hs.o gx trivial rfl).2.trans f_x_0
  have f_8 := (hs.o gx trivial rfl).1.trans f_8
  have hM := hM.tr (hs.mono (by decide))
  have gx := gx.S hs
  have gqt := gqt.S hs
  refine lv_aload_n hx hb dX9_feedBytes_30 rfl (lv_at hl 1 rfl) ?_
  refine lv_dup hx hb dX9_feedBytes_31 rfl ?_
  refine hk_geti hx hb hts hC_9 hown hW gx td_9 1 (by decide) rfl kw_365 ⟨rfl, rfl, rfl⟩ f_8 dX9_feedBytes_32 ?_
  refine lv_iconst (v := 1) hx hb dX9_feedBytes_35 (by decide) ?_
  refine lv_iadd hx hb dX9_feedBytes_36 ?_
  refine lv_topi (fun x_14 ex_14 => ?_)
  obtain rfl : x_14 = (14 : Int32) := ex_14.trans (by decide)
  refine hk_puti hx hb hts hC_9 hown hW gx td_9 1 (by decide) rfl kw_365 ⟨rfl, rfl, rfl⟩ rfl (x := (14 : Int32)) rfl rfl rfl dX9_feedBytes_37 (fun H locs h_15 eh_15 hW hs => ?_)
  have f_x_0 := (hs.o gx trivial rfl).2.trans f_x_0
  have hM := hM.tr (hs.mono (by decide))
  have gx := gx.S hs
  have gqt := gqt.S hs
  have f_16 : h_15.2.1 x 1 = (14 : Int32) := by rw [eh_15]; exact hx_pi_at _ _ _ _
  refine lv_iinc (v := 8) (lv' := [(2, .int (8 : Int32)), (0, .ref x), (1, .int i1)]) hx hb dX9_feedBytes_40 hl (k := 0) rfl (by decide) (by decide) rfl (fun ls hl => ?_)
  refine lv_goto (tgt := 3) hx hb dX9_feedBytes_43 (by decide) ?_
  refine lv_iload_n hx hb dX9_feedBytes_3 rfl (lv_at hl 0 rfl) ?_
  refine hb_if_lt (zx := 8) (tgt := 46) hx hb (by decide) dX9_feedBytes_4 (by decide) (fun c_17 => absurd c_17 (by decide)) (fun c_17 => ?_)
  refine lv_aload_n hx hb dX9_feedBytes_7 rfl (lv_at hl 1 rfl) ?_
  refine hk_geti hx hb hts hC_9 hown hW gx td_9 1 (by decide) rfl kw_365 ⟨rfl, rfl, rfl⟩ f_16 dX9_feedBytes_8 ?_
  refine lv_sipush (v := 400) hx hb dX9_feedBytes_11 (by decide) ?_
  refine hb_icmp_ge (zx := 14) (zy := 400) (tgt := 46) hx hb (by decide) (by decide) dX9_feedBytes_14 (by decide) (fun c_18 => absurd c_18 (by decide)) (fun c_18 => ?_)
  refine lv_aload_n hx hb dX9_feedBytes_17 rfl (lv_at hl 1 rfl) ?_
  refine hk_getr hx hb hts hC_9 hown hW gx td_9 0 (by decide) rfl kw_364 ⟨rfl, rfl, rfl⟩ f_x_0 dX9_feedBytes_18 ?_
  refine lv_aload_n hx hb dX9_feedBytes_21 rfl (lv_at hl 1 rfl) ?_
  refine hk_geti hx hb hts hC_9 hown hW gx td_9 1 (by decide) rfl kw_365 ⟨rfl, rfl, rfl⟩ f_16 dX9_feedBytes_22 ?_
  refine lv_iload_n hx hb dX9_feedBytes_25 rfl (lv_at hl 2 rfl) ?_
  refine lv_iload_n hx hb dX9_feedBytes_26 rfl (lv_at hl 0 rfl) ?_
  refine lv_ishr hx hb dX9_feedBytes_27 ?_
  refine lv_topi (fun x_19 ex_19 => ?_)
  refine lv_i2b hx hb dX9_feedBytes_28 rfl ?_
  refine lv_topi (fun x_20 ex_20 => ?_)
  refine hk_bast hx hb hW gqt td_42 rfl (by decide) (y := _) rfl dX9_feedBytes_29 (fun H locs h_21 eh_21 hW hs => ?_)
  have f_x_0 := (hs.o gx trivial rfl).2.trans f_x_0
  have f_16 := (hs.o gx trivial rfl).1.trans f_16
  have hM := hM.tr (hs.mono (by decide))
  have gx := gx.S hs
  have gqt := gqt.S hs
  refine lv_aload_n hx hb dX9_feedBytes_30 rfl (lv_at hl 1 rfl) ?_
  refine lv_dup hx hb dX9_feedBytes_31 rfl ?_
  refine hk_geti hx hb hts hC_9 hown hW gx td_9 1 (by decide) rfl kw_365 ⟨rfl, rfl, rfl⟩ f_16 dX9_feedBytes_32 ?_
  refine lv_iconst (v := 1) hx hb dX9_feedBytes_35 (by decide) ?_
  refine lv_iadd hx hb dX9_feedBytes_36 ?_
  refine lv_topi (fun x_22 ex_22 => ?_)
  obtain rfl : x_22 = (15 : Int32) := ex_22.trans (by decide)
  refine hk_puti hx hb hts hC_9 hown hW gx td_9 1 (by decide) rfl kw_365 ⟨rfl, rfl, rfl⟩ rfl (x := (15 : Int32)) rfl rfl rfl dX9_feedBytes_37 (fun H locs h_23 eh_23 hW hs => ?_)
  have f_x_0 := (hs.o gx trivial rfl).2.trans f_x_0
  have hM := hM.tr (hs.mono (by decide))
  have gx := gx.S hs
  have gqt := gqt.S hs
  have f_24 : h_23.2.1 x 1 = (15 : Int32) := by rw [eh_23]; exact hx_pi_at _ _ _ _
  refine lv_iinc (v := 0) (lv' := [(2, .int (0 : Int32)), (0, .ref x), (1, .int i1)]) hx hb dX9_feedBytes_40 hl (k := 0) rfl (by decide) (by decide) rfl (fun ls hl => ?_)
  refine lv_goto (tgt := 3) hx hb dX9_feedBytes_43 (by decide) ?_
  refine lv_iload_n hx hb dX9_feedBytes_3 rfl (lv_at hl 0 rfl) ?_
  refine hb_if_lt (zx := 0) (tgt := 46) hx hb (by decide) dX9_feedBytes_4 (by decide) (fun c_25 => absurd c_25 (by decide)) (fun c_25 => ?_)
  refine lv_aload_n hx hb dX9_feedBytes_7 rfl (lv_at hl 1 rfl) ?_
  refine hk_geti hx hb hts hC_9 hown hW gx td_9 1 (by decide) rfl kw_365 ⟨rfl, rfl, rfl⟩ f_24 dX9_feedBytes_8 ?_
  refine lv_sipush (v := 400) hx hb dX9_feedBytes_11 (by decide) ?_
  refine hb_icmp_ge (zx := 15) (zy := 400) (tgt := 46) hx hb (by decide) (by decide) dX9_feedBytes_14 (by decide) (fun c_26 => absurd c_26 (by decide)) (fun c_26 => ?_)
  refine lv_aload_n hx hb dX9_feedBytes_17 rfl (lv_at hl 1 rfl) ?_
  refine hk_getr hx hb hts hC_9 hown hW gx td_9 0 (by decide) rfl kw_364 ⟨rfl, rfl, rfl⟩ f_x_0 dX9_feedBytes_18 ?_
  refine lv_aload_n hx hb dX9_feedBytes_21 rfl (lv_at hl 1 rfl) ?_
  refine hk_geti hx hb hts hC_9 hown hW gx td_9 1 (by decide) rfl kw_365 ⟨rfl, rfl, rfl⟩ f_24 dX9_feedBytes_22 ?_
  refine lv_iload_n hx hb dX9_feedBytes_25 rfl (lv_at hl 2 rfl) ?_
  refine lv_iload_n hx hb dX9_feedBytes_26 rfl (lv_at hl 0 rfl) ?_
  refine lv_ishr hx hb dX9_feedBytes_27 ?_
  refine lv_topi (fun x_27 ex_27 => ?_)
  refine lv_i2b hx hb dX9_feedBytes_28 rfl ?_
  refine lv_topi (fun x_28 ex_28 => ?_)
  refine hk_bast hx hb hW gqt td_42 rfl (by decide) (y := _) rfl dX9_feedBytes_29 (fun H locs h_29 eh_29 hW hs => ?_)
  have f_x_0 := (hs.o gx trivial rfl).2.trans f_x_0
  have f_24 := (hs.o gx trivial rfl).1.trans f_24
  have hM := hM.tr (hs.mono (by decide))
  have gx := gx.S hs
  have gqt := gqt.S hs
  refine lv_aload_n hx hb dX9_feedBytes_30 rfl (lv_at hl 1 rfl) ?_
  refine lv_dup hx hb dX9_feedBytes_31 rfl ?_
  refine hk_geti hx hb hts hC_9 hown hW gx td_9 1 (by decide) rfl kw_365 ⟨rfl, rfl, rfl⟩ f_24 dX9_feedBytes_32 ?_
  refine lv_iconst (v := 1) hx hb dX9_feedBytes_35 (by decide) ?_
  refine lv_iadd hx hb dX9_feedBytes_36 ?_
  refine lv_topi (fun x_30 ex_30 => ?_)
  obtain rfl : x_30 = (16 : Int32) := ex_30.trans (by decide)
  refine hk_puti hx hb hts hC_9 hown hW gx td_9 1 (by decide) rfl kw_365 ⟨rfl, rfl, rfl⟩ rfl (x := (16 : Int32)) rfl rfl rfl dX9_feedBytes_37 (fun H locs h_31 eh_31 hW hs => ?_)
  have f_x_0 := (hs.o gx trivial rfl).2.trans f_x_0
  have hM := hM.tr (hs.mono (by decide))
  have gx := gx.S hs
  have gqt := gqt.S hs
  have f_32 : h_31.2.1 x 1 = (16 : Int32) := by rw [eh_31]; exact hx_pi_at _ _ _ _
  refine lv_iinc (v := -8) (lv' := [(2, .int (-8 : Int32)), (0, .ref x), (1, .int i1)]) hx hb dX9_feedBytes_40 hl (k := 0) rfl (by decide) (by decide) rfl (fun ls hl => ?_)
  refine lv_goto (tgt := 3) hx hb dX9_feedBytes_43 (by decide) ?_
  refine lv_iload_n hx hb dX9_feedBytes_3 rfl (lv_at hl 0 rfl) ?_
  refine hb_if_lt (zx := (-8)) (tgt := 46) hx hb (by decide) dX9_feedBytes_4 (by decide) (fun c_33 => ?_) (fun c_33 => absurd c_33 (by decide))
  exact hx_retv hx hb hr hlk hW ⟨hM, f_32⟩ dX9_feedBytes_46



set_option maxHeartbeats 4000000 in
set_option maxRecDepth 100000 in
theorem c_X10_four_12 (l : Launch) (dC : Nat → ClassId) (dI : Nat → Nat → Nat) (dA : Nat → ClassId) (L : List Nat) (h : hx_h) (sz : Nat) (y : Nat) (i1 : Int32) (gy : hx_g L h y 10) (f_y_7 : h.2.1 y 7 = 12) (qt : Nat) (gqt : hx_g L h qt 53) (f_y_6 : h.2.2 y 6 = some qt) : Met l yX10_four (Cond.code yX10_four cX10_four 3 none :: hx_all) ({ frames := 0, cells := 0, slots := 0, locals := 0 }) (va_Pc [.ref y, .int i1] (hx_B P_tb (P_ty dA) (dC, dI) vwCl L h sz)) (va_Qv (fun (u : List Nat × hx_h) => hx_S P_tb [(10, 7), (53, 0)] L h u.1 u.2 ∧ u.2.2.1 y 7 = (16 : Int32)) (hx_E P_tb (P_ty dA) (dC, dI) vwCl (hx_A L sz)) (hx_A L sz)) 0 0 (hx_A L sz) := by
  refine hx_met (lv := [(0, .ref y), (1, .int i1)]) (by decide +kernel) rfl (Nat.le_of_ble_eq_true rfl) rfl ?_
  intro p e s m below meth c hx hb hml hr hlk hts0 hown hin hsz hW ls hl
  have hts : ∀ w ∈ hx_all, w.before _ s = true := fun w hw => hts0 w (List.mem_cons_of_mem _ hw)
  have hown : s.vm.findClass "SmallCourtModel" = some m.cls := hown
  have hM : hx_S P_tb [(10, 7), (53, 0)] L h L h := hx_S.rf
  refine lv_bipush (v := 24) hx hb dX10_four_0 (by decide) ?_
  refine lv_istore_n (lv' := [(2, .int (24 : Int32)), (0, .ref y), (1, .int i1)]) hx hb dX10_four_2 rfl hl (by decide) rfl (fun ls hl => ?_)
  refine lv_iload_n hx hb dX10_four_3 rfl (lv_at hl 0 rfl) ?_
  refine hb_if_lt (zx := 24) (tgt := 36) hx hb (by decide) dX10_four_4 (by decide) (fun c_1 => absurd c_1 (by decide)) (fun c_1 => ?_)
  refine lv_aload_n hx hb dX10_four_7 rfl (lv_at hl 1 rfl) ?_
  refine hk_getr hx hb hts hC_10 hown hW gy td_10 6 (by decide) rfl kw_1149 ⟨rfl, rfl, rfl⟩ f_y_6 dX10_four_8 ?_
  refine lv_aload_n hx hb dX10_four_11 rfl (lv_at hl 1 rfl) ?_
  refine hk_geti hx hb hts hC_10 hown hW gy td_10 7 (by decide) rfl kw_1150 ⟨rfl, rfl, rfl⟩ f_y_7 dX10_four_12 ?_
  refine lv_iload_n hx hb dX10_four_15 rfl (lv_at hl 2 rfl) ?_
  refine lv_iload_n hx hb dX10_four_16 rfl (lv_at hl 0 rfl) ?_
  refine lv_ishr hx hb dX10_four_17 ?_
  refine lv_topi (fun x_2 ex_2 => ?_)
  refine lv_i2b hx hb dX10_four_18 rfl ?_
  refine lv_topi (fun x_3 ex_3 => ?_)
  refine hk_bast hx hb hW gqt td_53 rfl (by decide) (y := _) rfl dX10_four_19 (fun H locs h_4 eh_4 hW hs => ?_)
  have f_y_7 := (hs.o gy trivial rfl).1.trans f_y_7
  have f_y_6 := (hs.o gy trivial rfl).2.trans f_y_6
  have hM := hM.tr (hs.mono (by decide))
  have gy := gy.S hs
  have gqt := gqt.S hs
  refine lv_aload_n hx hb dX10_four_20 rfl (lv_at hl 1 rfl) ?_
  refine lv_dup hx hb dX10_four_21 rfl ?_
  refine hk_geti hx hb hts hC_10 hown hW gy td_10 7 (by decide) rfl kw_1150 ⟨rfl, rfl, rfl⟩ f_y_7 dX10_four_22 ?_
  refine lv_iconst (v := 1) hx hb dX10_four_25 (by decide) ?_
  refine lv_iadd hx hb dX10_four_26 ?_
  refine lv_topi (fun x_5 ex_5 => ?_)
  obtain rfl : x_5 = (13 : Int32) := ex_5.trans (by decide)
  refine hk_puti hx hb hts hC_10 hown hW gy td_10 7 (by decide) rfl kw_1150 ⟨rfl, rfl, rfl⟩ rfl (x := (13 : Int32)) rfl rfl rfl dX10_four_27 (fun H locs h_6 eh_6 hW hs => ?_)
  have f_y_6 := (hs.o gy trivial rfl).2.trans f_y_6
  have hM := hM.tr (hs.mono (by decide))
  have gy := gy.S hs
  have gqt := gqt.S hs
  have f_7 : h_6.2.1 y 7 = (13 : Int32) := by rw [eh_6]; exact hx_pi_at _ _ _ _
  refine lv_iinc (v := 16) (lv' := [(2, .int (16 : Int32)), (0, .ref y), (1, .int i1)]) hx hb dX10_four_30 hl (k := 0) rfl (by decide) (by decide) rfl (fun ls hl => ?_)
  refine lv_goto (tgt := 3) hx hb dX10_four_33 (by decide) ?_
  refine lv_iload_n hx hb dX10_four_3 rfl (lv_at hl 0 rfl) ?_
  refine hb_if_lt (zx := 16) (tgt := 36) hx hb (by decide) dX10_four_4 (by decide) (fun c_8 => absurd c_8 (by decide)) (fun c_8 => ?_)
  refine lv_aload_n hx hb dX10_four_7 rfl (lv_at hl 1 rfl) ?_
  refine hk_getr hx hb hts hC_10 hown hW gy td_10 6 (by decide) rfl kw_1149 ⟨rfl, rfl, rfl⟩ f_y_6 dX10_four_8 ?_
  refine lv_aload_n hx hb dX10_four_11 rfl (lv_at hl 1 rfl) ?_
  refine hk_geti hx hb hts hC_10 hown hW gy td_10 7 (by decide) rfl kw_1150 ⟨rfl, rfl, rfl⟩ f_7 dX10_four_12 ?_
  refine lv_iload_n hx hb dX10_four_15 rfl (lv_at hl 2 rfl) ?_
  refine lv_iload_n hx hb dX10_four_16 rfl (lv_at hl 0 rfl) ?_
  refine lv_ishr hx hb dX10_four_17 ?_
  refine lv_topi (fun x_9 ex_9 => ?_)
  refine lv_i2b hx hb dX10_four_18 rfl ?_
  refine lv_topi (fun x_10 ex_10 => ?_)
  refine hk_bast hx hb hW gqt td_53 rfl (by decide) (y := _) rfl dX10_four_19 (fun H locs h_11 eh_11 hW hs => ?_)
  have f_y_6 := (hs.o gy trivial rfl).2.trans f_y_6
  have f_7 := (hs.o gy trivial rfl).1.trans f_7
  have hM := hM.tr (hs.mono (by decide))
  have gy := gy.S hs
  have gqt := gqt.S hs
  refine lv_aload_n hx hb dX10_four_20 rfl (lv_at hl 1 rfl) ?_
  refine lv_dup hx hb dX10_four_21 rfl ?_
  refine hk_geti hx hb hts hC_10 hown hW gy td_10 7 (by decide) rfl kw_1150 ⟨rfl, rfl, rfl⟩ f_7 dX10_four_22 ?_
  refine lv_iconst (v := 1) hx hb dX10_four_25 (by decide) ?_
  refine lv_iadd hx hb dX10_four_26 ?_
  refine lv_topi (fun x_12 ex_12 => ?_)
  obtain rfl : x_12 = (14 : Int32) := ex_12.trans (by decide)
  refine hk_puti hx hb hts hC_10 hown hW gy td_10 7 (by decide) rfl kw_1150 ⟨rfl, rfl, rfl⟩ rfl (x := (14 : Int32)) rfl rfl rfl dX10_four_27 (fun H locs h_13 eh_13 hW hs => ?_)
  have f_y_6 := (hs.o gy trivial rfl).2.trans f_y_6
  have hM := hM.tr (hs.mono (by decide))
  have gy := gy.S hs
  have gqt := gqt.S hs
  have f_14 : h_13.2.1 y 7 = (14 : Int32) := by rw [eh_13]; exact hx_pi_at _ _ _ _
  refine lv_iinc (v := 8) (lv' := [(2, .int (8 : Int32)), (0, .ref y), (1, .int i1)]) hx hb dX10_four_30 hl (k := 0) rfl (by decide) (by decide) rfl (fun ls hl => ?_)
  refine lv_goto (tgt := 3) hx hb dX10_four_33 (by decide) ?_
  refine lv_iload_n hx hb dX10_four_3 rfl (lv_at hl 0 rfl) ?_
  refine hb_if_lt (zx := 8) (tgt := 36) hx hb (by decide) dX10_four_4 (by decide) (fun c_15 => absurd c_15 (by decide)) (fun c_15 => ?_)
  refine lv_aload_n hx hb dX10_four_7 rfl (lv_at hl 1 rfl) ?_
  refine hk_getr hx hb hts hC_10 hown hW gy td_10 6 (by decide) rfl kw_1149 ⟨rfl, rfl, rfl⟩ f_y_6 dX10_four_8 ?_
  refine lv_aload_n hx hb dX10_four_11 rfl (lv_at hl 1 rfl) ?_
  refine hk_geti hx hb hts hC_10 hown hW gy td_10 7 (by decide) rfl kw_1150 ⟨rfl, rfl, rfl⟩ f_14 dX10_four_12 ?_
  refine lv_iload_n hx hb dX10_four_15 rfl (lv_at hl 2 rfl) ?_
  refine lv_iload_n hx hb dX10_four_16 rfl (lv_at hl 0 rfl) ?_
  refine lv_ishr hx hb dX10_four_17 ?_
  refine lv_topi (fun x_16 ex_16 => ?_)
  refine lv_i2b hx hb dX10_four_18 rfl ?_
  refine lv_topi (fun x_17 ex_17 => ?_)
  refine hk_bast hx hb hW gqt td_53 rfl (by decide) (y := _) rfl dX10_four_19 (fun H locs h_18 eh_18 hW hs => ?_)
  have f_y_6 := (hs.o gy trivial rfl).2.trans f_y_6
  have f_14 := (hs.o gy trivial rfl).1.trans f_14
  have hM := hM.tr (hs.mono (by decide))
  have gy := gy.S hs
  have gqt := gqt.S hs
  refine lv_aload_n hx hb dX10_four_20 rfl (lv_at hl 1 rfl) ?_
  refine lv_dup hx hb dX10_four_21 rfl ?_
  refine hk_geti hx hb hts hC_10 hown hW gy td_10 7 (by decide) rfl kw_1150 ⟨rfl, rfl, rfl⟩ f_14 dX10_four_22 ?_
  refine lv_iconst (v := 1) hx hb dX10_four_25 (by decide) ?_
  refine lv_iadd hx hb dX10_four_26 ?_
  refine lv_topi (fun x_19 ex_19 => ?_)
  obtain rfl : x_19 = (15 : Int32) := ex_19.trans (by decide)
  refine hk_puti hx hb hts hC_10 hown hW gy td_10 7 (by decide) rfl kw_1150 ⟨rfl, rfl, rfl⟩ rfl (x := (15 : Int32)) rfl rfl rfl dX10_four_27 (fun H locs h_20 eh_20 hW hs => ?_)
  have f_y_6 := (hs.o gy trivial rfl).2.trans f_y_6
  have hM := hM.tr (hs.mono (by decide))
  have gy := gy.S hs
  have gqt := gqt.S hs
  have f_21 : h_20.2.1 y 7 = (15 : Int32) := by rw [eh_20]; exact hx_pi_at _ _ _ _
  refine lv_iinc (v := 0) (lv' := [(2, .int (0 : Int32)), (0, .ref y), (1, .int i1)]) hx hb dX10_four_30 hl (k := 0) rfl (by decide) (by decide) rfl (fun ls hl => ?_)
  refine lv_goto (tgt := 3) hx hb dX10_four_33 (by decide) ?_
  refine lv_iload_n hx hb dX10_four_3 rfl (lv_at hl 0 rfl) ?_
  refine hb_if_lt (zx := 0) (tgt := 36) hx hb (by decide) dX10_four_4 (by decide) (fun c_22 => absurd c_22 (by decide)) (fun c_22 => ?_)
  refine lv_aload_n hx hb dX10_four_7 rfl (lv_at hl 1 rfl) ?_
  refine hk_getr hx hb hts hC_10 hown hW gy td_10 6 (by decide) rfl kw_1149 ⟨rfl, rfl, rfl⟩ f_y_6 dX10_four_8 ?_
  refine lv_aload_n hx hb dX10_four_11 rfl (lv_at hl 1 rfl) ?_
  refine hk_geti hx hb hts hC_10 hown hW gy td_10 7 (by decide) rfl kw_1150 ⟨rfl, rfl, rfl⟩ f_21 dX10_four_12 ?_
  refine lv_iload_n hx hb dX10_four_15 rfl (lv_at hl 2 rfl) ?_
  refine lv_iload_n hx hb dX10_four_16 rfl (lv_at hl 0 rfl) ?_
  refine lv_ishr hx hb dX10_four_17 ?_
  refine lv_topi (fun x_23 ex_23 => ?_)
  refine lv_i2b hx hb dX10_four_18 rfl ?_
  refine lv_topi (fun x_24 ex_24 => ?_)
  refine hk_bast hx hb hW gqt td_53 rfl (by decide) (y := _) rfl dX10_four_19 (fun H locs h_25 eh_25 hW hs => ?_)
  have f_y_6 := (hs.o gy trivial rfl).2.trans f_y_6
  have f_21 := (hs.o gy trivial rfl).1.trans f_21
  have hM := hM.tr (hs.mono (by decide))
  have gy := gy.S hs
  have gqt := gqt.S hs
  refine lv_aload_n hx hb dX10_four_20 rfl (lv_at hl 1 rfl) ?_
  refine lv_dup hx hb dX10_four_21 rfl ?_
  refine hk_geti hx hb hts hC_10 hown hW gy td_10 7 (by decide) rfl kw_1150 ⟨rfl, rfl, rfl⟩ f_21 dX10_four_22 ?_
  refine lv_iconst (v := 1) hx hb dX10_four_25 (by decide) ?_
  refine lv_iadd hx hb dX10_four_26 ?_
  refine lv_topi (fun x_26 ex_26 => ?_)
  obtain rfl : x_26 = (16 : Int32) := ex_26.trans (by decide)
  refine hk_puti hx hb hts hC_10 hown hW gy td_10 7 (by decide) rfl kw_1150 ⟨rfl, rfl, rfl⟩ rfl (x := (16 : Int32)) rfl rfl rfl dX10_four_27 (fun H locs h_27 eh_27 hW hs => ?_)
  have f_y_6 := (hs.o gy trivial rfl).2.trans f_y_6
  have hM := hM.tr (hs.mono (by decide))
  have gy := gy.S hs
  have gqt := gqt.S hs
  have f_28 : h_27.2.1 y 7 = (16 : Int32) := by rw [eh_27]; exact hx_pi_at _ _ _ _
  refine lv_iinc (v := -8) (lv' := [(2, .int (-8 : Int32)), (0, .ref y), (1, .int i1)]) hx hb dX10_four_30 hl (k := 0) rfl (by decide) (by decide) rfl (fun ls hl => ?_)
  refine lv_goto (tgt := 3) hx hb dX10_four_33 (by decide) ?_
  refine lv_iload_n hx hb dX10_four_3 rfl (lv_at hl 0 rfl) ?_
  refine hb_if_lt (zx := (-8)) (tgt := 36) hx hb (by decide) dX10_four_4 (by decide) (fun c_29 => ?_) (fun c_29 => absurd c_29 (by decide))
  exact hx_retv hx hb hr hlk hW ⟨hM, f_28⟩ dX10_four_36



set_option maxHeartbeats 4000000 in
set_option maxRecDepth 100000 in
theorem c_X9_feedBytes_16 (l : Launch) (dC : Nat → ClassId) (dI : Nat → Nat → Nat) (dA : Nat → ClassId) (L : List Nat) (h : hx_h) (sz : Nat) (x : Nat) (i1 : Int32) (gx : hx_g L h x 9) (f_x_1 : h.2.1 x 1 = 16) (qt : Nat) (gqt : hx_g L h qt 42) (f_x_0 : h.2.2 x 0 = some qt) : Met l yX9_feedBytes (Cond.code yX9_feedBytes cX9_feedBytes 3 none :: hx_all) ({ frames := 0, cells := 0, slots := 0, locals := 0 }) (va_Pc [.ref x, .int i1] (hx_B P_tb (P_ty dA) (dC, dI) vwCl L h sz)) (va_Qv (fun (u : List Nat × hx_h) => hx_S P_tb [(9, 1), (42, 0)] L h u.1 u.2 ∧ u.2.2.1 x 1 = (20 : Int32)) (hx_E P_tb (P_ty dA) (dC, dI) vwCl (hx_A L sz)) (hx_A L sz)) 0 0 (hx_A L sz) := by
  refine hx_met (lv := [(0, .ref x), (1, .int i1)]) (by decide +kernel) rfl (Nat.le_of_ble_eq_true rfl) rfl ?_
  intro p e s m below meth c hx hb hml hr hlk hts0 hown hin hsz hW ls hl
  have hts : ∀ w ∈ hx_all, w.before _ s = true := fun w hw => hts0 w (List.mem_cons_of_mem _ hw)
  have hown : s.vm.findClass "SmallCourt" = some m.cls := hown
  have hM : hx_S P_tb [(9, 1), (42, 0)] L h L h := hx_S.rf
  refine lv_bipush (v := 24) hx hb dX9_feedBytes_0 (by decide) ?_
  refine lv_istore_n (lv' := [(2, .int (24 : Int32)), (0, .ref x), (1, .int i1)]) hx hb dX9_feedBytes_2 rfl hl (by decide) rfl (fun ls hl => ?_)
  refine lv_iload_n hx hb dX9_feedBytes_3 rfl (lv_at hl 0 rfl) ?_
  refine hb_if_lt (zx := 24) (tgt := 46) hx hb (by decide) dX9_feedBytes_4 (by decide) (fun c_1 => absurd c_1 (by decide)) (fun c_1 => ?_)
  refine lv_aload_n hx hb dX9_feedBytes_7 rfl (lv_at hl 1 rfl) ?_
  refine hk_geti hx hb hts hC_9 hown hW gx td_9 1 (by decide) rfl kw_365 ⟨rfl, rfl, rfl⟩ f_x_1 dX9_feedBytes_8 ?_
  refine lv_sipush (v := 400) hx hb dX9_feedBytes_11 (by decide) ?_
  refine hb_icmp_ge (zx := 16) (zy := 400) (tgt := 46) hx hb (by decide) (by decide) dX9_feedBytes_14 (by decide) (fun c_2 => absurd c_2 (by decide)) (fun c_2 => ?_)
  refine lv_aload_n hx hb dX9_feedBytes_17 rfl (lv_at hl 1 rfl) ?_
  refine hk_getr hx hb hts hC_9 hown hW gx td_9 0 (by decide) rfl kw_364 ⟨rfl, rfl, rfl⟩ f_x_0 dX9_feedBytes_18 ?_
  refine lv_aload_n hx hb dX9_feedBytes_21 rfl (lv_at hl 1 rfl) ?_
  refine hk_geti hx hb hts hC_9 hown hW gx td_9 1 (by decide) rfl kw_365 ⟨rfl, rfl, rfl⟩ f_x_1 dX9_feedBytes_22 ?_
  refine lv_iload_n hx hb dX9_feedBytes_25 rfl (lv_at hl 2 rfl) ?_
  refine lv_iload_n hx hb dX9_feedBytes_26 rfl (lv_at hl 0 rfl) ?_
  refine lv_ishr hx hb dX9_feedBytes_27 ?_
  refine lv_topi (fun x_3 ex_3 => ?_)
  refine lv_i2b hx hb dX9_feedBytes_28 rfl ?_
  refine lv_topi (fun x_4 ex_4 => ?_)
  refine hk_bast hx hb hW gqt td_42 rfl (by decide) (y := _) rfl dX9_feedBytes_29 (fun H locs h_5 eh_5 hW hs => ?_)
  have f_x_1 := (hs.o gx trivial rfl).1.trans f_x_1
  have f_x_0 := (hs.o gx trivial rfl).2.trans f_x_0
  have hM := hM.tr (hs.mono (by decide))
  have gx := gx.S hs
  have gqt := gqt.S hs
  refine lv_aload_n hx hb dX9_feedBytes_30 rfl (lv_at hl 1 rfl) ?_
  refine lv_dup hx hb dX9_feedBytes_31 rfl ?_
  refine hk_geti hx hb hts hC_9 hown hW gx td_9 1 (by decide) rfl kw_365 ⟨rfl, rfl, rfl⟩ f_x_1 dX9_feedBytes_32 ?_
  refine lv_iconst (v := 1) hx hb dX9_feedBytes_35 (by decide) ?_
  refine lv_iadd hx hb dX9_feedBytes_36 ?_
  refine lv_topi (fun x_6 ex_6 => ?_)
  obtain rfl : x_6 = (17 : Int32) := ex_6.trans (by decide)
  refine hk_puti hx hb hts hC_9 hown hW gx td_9 1 (by decide) rfl kw_365 ⟨rfl, rfl, rfl⟩ rfl (x := (17 : Int32)) rfl rfl rfl dX9_feedBytes_37 (fun H locs h_7 eh_7 hW hs => ?_)
  have f_x_0 := (hs.o gx trivial rfl).2.trans f_x_0
  have hM := hM.tr (hs.mono (by decide))
  have gx := gx.S hs
  have gqt := gqt.S hs
  have f_8 : h_7.2.1 x 1 = (17 : Int32) := by rw [eh_7]; exact hx_pi_at _ _ _ _
  refine lv_iinc (v := 16) (lv' := [(2, .int (16 : Int32)), (0, .ref x), (1, .int i1)]) hx hb dX9_feedBytes_40 hl (k := 0) rfl (by decide) (by decide) rfl (fun ls hl => ?_)
  refine lv_goto (tgt := 3) hx hb dX9_feedBytes_43 (by decide) ?_
  refine lv_iload_n hx hb dX9_feedBytes_3 rfl (lv_at hl 0 rfl) ?_
  refine hb_if_lt (zx := 16) (tgt := 46) hx hb (by decide) dX9_feedBytes_4 (by decide) (fun c_9 => absurd c_9 (by decide)) (fun c_9 => ?_)
  refine lv_aload_n hx hb dX9_feedBytes_7 rfl (lv_at hl 1 rfl) ?_
  refine hk_geti hx hb hts hC_9 hown hW gx td_9 1 (by decide) rfl kw_365 ⟨rfl, rfl, rfl⟩ f_8 dX9_feedBytes_8 ?_
  refine lv_sipush (v := 400) hx hb dX9_feedBytes_11 (by decide) ?_
  refine hb_icmp_ge (zx := 17) (zy := 400) (tgt := 46) hx hb (by decide) (by decide) dX9_feedBytes_14 (by decide) (fun c_10 => absurd c_10 (by decide)) (fun c_10 => ?_)
  refine lv_aload_n hx hb dX9_feedBytes_17 rfl (lv_at hl 1 rfl) ?_
  refine hk_getr hx hb hts hC_9 hown hW gx td_9 0 (by decide) rfl kw_364 ⟨rfl, rfl, rfl⟩ f_x_0 dX9_feedBytes_18 ?_
  refine lv_aload_n hx hb dX9_feedBytes_21 rfl (lv_at hl 1 rfl) ?_
  refine hk_geti hx hb hts hC_9 hown hW gx td_9 1 (by decide) rfl kw_365 ⟨rfl, rfl, rfl⟩ f_8 dX9_feedBytes_22 ?_
  refine lv_iload_n hx hb dX9_feedBytes_25 rfl (lv_at hl 2 rfl) ?_
  refine lv_iload_n hx hb dX9_feedBytes_26 rfl (lv_at hl 0 rfl) ?_
  refine lv_ishr hx hb dX9_feedBytes_27 ?_
  refine lv_topi (fun x_11 ex_11 => ?_)
  refine lv_i2b hx hb dX9_feedBytes_28 rfl ?_
  refine lv_topi (fun x_12 ex_12 => ?_)
  refine hk_bast hx hb hW gqt td_42 rfl (by decide) (y := _) rfl dX9_feedBytes_29 (fun H locs h_13 eh_13 hW hs => ?_)
  have f_x_0 := (hs.o gx trivial rfl).2.trans f_x_0
  have f_8 := (hs.o gx trivial rfl).1.trans f_8
  have hM := hM.tr (hs.mono (by decide))
  have gx := gx.S hs
  have gqt := gqt.S hs
  refine lv_aload_n hx hb dX9_feedBytes_30 rfl (lv_at hl 1 rfl) ?_
  refine lv_dup hx hb dX9_feedBytes_31 rfl ?_
  refine hk_geti hx hb hts hC_9 hown hW gx td_9 1 (by decide) rfl kw_365 ⟨rfl, rfl, rfl⟩ f_8 dX9_feedBytes_32 ?_
  refine lv_iconst (v := 1) hx hb dX9_feedBytes_35 (by decide) ?_
  refine lv_iadd hx hb dX9_feedBytes_36 ?_
  refine lv_topi (fun x_14 ex_14 => ?_)
  obtain rfl : x_14 = (18 : Int32) := ex_14.trans (by decide)
  refine hk_puti hx hb hts hC_9 hown hW gx td_9 1 (by decide) rfl kw_365 ⟨rfl, rfl, rfl⟩ rfl (x := (18 : Int32)) rfl rfl rfl dX9_feedBytes_37 (fun H locs h_15 eh_15 hW hs => ?_)
  have f_x_0 := (hs.o gx trivial rfl).2.trans f_x_0
  have hM := hM.tr (hs.mono (by decide))
  have gx := gx.S hs
  have gqt := gqt.S hs
  have f_16 : h_15.2.1 x 1 = (18 : Int32) := by rw [eh_15]; exact hx_pi_at _ _ _ _
  refine lv_iinc (v := 8) (lv' := [(2, .int (8 : Int32)), (0, .ref x), (1, .int i1)]) hx hb dX9_feedBytes_40 hl (k := 0) rfl (by decide) (by decide) rfl (fun ls hl => ?_)
  refine lv_goto (tgt := 3) hx hb dX9_feedBytes_43 (by decide) ?_
  refine lv_iload_n hx hb dX9_feedBytes_3 rfl (lv_at hl 0 rfl) ?_
  refine hb_if_lt (zx := 8) (tgt := 46) hx hb (by decide) dX9_feedBytes_4 (by decide) (fun c_17 => absurd c_17 (by decide)) (fun c_17 => ?_)
  refine lv_aload_n hx hb dX9_feedBytes_7 rfl (lv_at hl 1 rfl) ?_
  refine hk_geti hx hb hts hC_9 hown hW gx td_9 1 (by decide) rfl kw_365 ⟨rfl, rfl, rfl⟩ f_16 dX9_feedBytes_8 ?_
  refine lv_sipush (v := 400) hx hb dX9_feedBytes_11 (by decide) ?_
  refine hb_icmp_ge (zx := 18) (zy := 400) (tgt := 46) hx hb (by decide) (by decide) dX9_feedBytes_14 (by decide) (fun c_18 => absurd c_18 (by decide)) (fun c_18 => ?_)
  refine lv_aload_n hx hb dX9_feedBytes_17 rfl (lv_at hl 1 rfl) ?_
  refine hk_getr hx hb hts hC_9 hown hW gx td_9 0 (by decide) rfl kw_364 ⟨rfl, rfl, rfl⟩ f_x_0 dX9_feedBytes_18 ?_
  refine lv_aload_n hx hb dX9_feedBytes_21 rfl (lv_at hl 1 rfl) ?_
  refine hk_geti hx hb hts hC_9 hown hW gx td_9 1 (by decide) rfl kw_365 ⟨rfl, rfl, rfl⟩ f_16 dX9_feedBytes_22 ?_
  refine lv_iload_n hx hb dX9_feedBytes_25 rfl (lv_at hl 2 rfl) ?_
  refine lv_iload_n hx hb dX9_feedBytes_26 rfl (lv_at hl 0 rfl) ?_
  refine lv_ishr hx hb dX9_feedBytes_27 ?_
  refine lv_topi (fun x_19 ex_19 => ?_)
  refine lv_i2b hx hb dX9_feedBytes_28 rfl ?_
  refine lv_topi (fun x_20 ex_20 => ?_)
  refine hk_bast hx hb hW gqt td_42 rfl (by decide) (y := _) rfl dX9_feedBytes_29 (fun H locs h_21 eh_21 hW hs => ?_)
  have f_x_0 := (hs.o gx trivial rfl).2.trans f_x_0
  have f_16 := (hs.o gx trivial rfl).1.trans f_16
  have hM := hM.tr (hs.mono (by decide))
  have gx := gx.S hs
  have gqt := gqt.S hs
  refine lv_aload_n hx hb dX9_feedBytes_30 rfl (lv_at hl 1 rfl) ?_
  refine lv_dup hx hb dX9_feedBytes_31 rfl ?_
  refine hk_geti hx hb hts hC_9 hown hW gx td_9 1 (by decide) rfl kw_365 ⟨rfl, rfl, rfl⟩ f_16 dX9_feedBytes_32 ?_
  refine lv_iconst (v := 1) hx hb dX9_feedBytes_35 (by decide) ?_
  refine lv_iadd hx hb dX9_feedBytes_36 ?_
  refine lv_topi (fun x_22 ex_22 => ?_)
  obtain rfl : x_22 = (19 : Int32) := ex_22.trans (by decide)
  refine hk_puti hx hb hts hC_9 hown hW gx td_9 1 (by decide) rfl kw_365 ⟨rfl, rfl, rfl⟩ rfl (x := (19 : Int32)) rfl rfl rfl dX9_feedBytes_37 (fun H locs h_23 eh_23 hW hs => ?_)
  have f_x_0 := (hs.o gx trivial rfl).2.trans f_x_0
  have hM := hM.tr (hs.mono (by decide))
  have gx := gx.S hs
  have gqt := gqt.S hs
  have f_24 : h_23.2.1 x 1 = (19 : Int32) := by rw [eh_23]; exact hx_pi_at _ _ _ _
  refine lv_iinc (v := 0) (lv' := [(2, .int (0 : Int32)), (0, .ref x), (1, .int i1)]) hx hb dX9_feedBytes_40 hl (k := 0) rfl (by decide) (by decide) rfl (fun ls hl => ?_)
  refine lv_goto (tgt := 3) hx hb dX9_feedBytes_43 (by decide) ?_
  refine lv_iload_n hx hb dX9_feedBytes_3 rfl (lv_at hl 0 rfl) ?_
  refine hb_if_lt (zx := 0) (tgt := 46) hx hb (by decide) dX9_feedBytes_4 (by decide) (fun c_25 => absurd c_25 (by decide)) (fun c_25 => ?_)
  refine lv_aload_n hx hb dX9_feedBytes_7 rfl (lv_at hl 1 rfl) ?_
  refine hk_geti hx hb hts hC_9 hown hW gx td_9 1 (by decide) rfl kw_365 ⟨rfl, rfl, rfl⟩ f_24 dX9_feedBytes_8 ?_
  refine lv_sipush (v := 400) hx hb dX9_feedBytes_11 (by decide) ?_
  refine hb_icmp_ge (zx := 19) (zy := 400) (tgt := 46) hx hb (by decide) (by decide) dX9_feedBytes_14 (by decide) (fun c_26 => absurd c_26 (by decide)) (fun c_26 => ?_)
  refine lv_aload_n hx hb dX9_feedBytes_17 rfl (lv_at hl 1 rfl) ?_
  refine hk_getr hx hb hts hC_9 hown hW gx td_9 0 (by decide) rfl kw_364 ⟨rfl, rfl, rfl⟩ f_x_0 dX9_feedBytes_18 ?_
  refine lv_aload_n hx hb dX9_feedBytes_21 rfl (lv_at hl 1 rfl) ?_
  refine hk_geti hx hb hts hC_9 hown hW gx td_9 1 (by decide) rfl kw_365 ⟨rfl, rfl, rfl⟩ f_24 dX9_feedBytes_22 ?_
  refine lv_iload_n hx hb dX9_feedBytes_25 rfl (lv_at hl 2 rfl) ?_
  refine lv_iload_n hx hb dX9_feedBytes_26 rfl (lv_at hl 0 rfl) ?_
  refine lv_ishr hx hb dX9_feedBytes_27 ?_
  refine lv_topi (fun x_27 ex_27 => ?_)
  refine lv_i2b hx hb dX9_feedBytes_28 rfl ?_
  refine lv_topi (fun x_28 ex_28 => ?_)
  refine hk_bast hx hb hW gqt td_42 rfl (by decide) (y := _) rfl dX9_feedBytes_29 (fun H locs h_29 eh_29 hW hs => ?_)
  have f_x_0 := (hs.o gx trivial rfl).2.trans f_x_0
  have f_24 := (hs.o gx trivial rfl).1.trans f_24
  have hM := hM.tr (hs.mono (by decide))
  have gx := gx.S hs
  have gqt := gqt.S hs
  refine lv_aload_n hx hb dX9_feedBytes_30 rfl (lv_at hl 1 rfl) ?_
  refine lv_dup hx hb dX9_feedBytes_31 rfl ?_
  refine hk_geti hx hb hts hC_9 hown hW gx td_9 1 (by decide) rfl kw_365 ⟨rfl, rfl, rfl⟩ f_24 dX9_feedBytes_32 ?_
  refine lv_iconst (v := 1) hx hb dX9_feedBytes_35 (by decide) ?_
  refine lv_iadd hx hb dX9_feedBytes_36 ?_
  refine lv_topi (fun x_30 ex_30 => ?_)
  obtain rfl : x_30 = (20 : Int32) := ex_30.trans (by decide)
  refine hk_puti hx hb hts hC_9 hown hW gx td_9 1 (by decide) rfl kw_365 ⟨rfl, rfl, rfl⟩ rfl (x := (20 : Int32)) rfl rfl rfl dX9_feedBytes_37 (fun H locs h_31 eh_31 hW hs => ?_)
  have f_x_0 := (hs.o gx trivial rfl).2.trans f_x_0
  have hM := hM.tr (hs.mono (by decide))
  have gx := gx.S hs
  have gqt := gqt.S hs
  have f_32 : h_31.2.1 x 1 = (20 : Int32) := by rw [eh_31]; exact hx_pi_at _ _ _ _
  refine lv_iinc (v := -8) (lv' := [(2, .int (-8 : Int32)), (0, .ref x), (1, .int i1)]) hx hb dX9_feedBytes_40 hl (k := 0) rfl (by decide) (by decide) rfl (fun ls hl => ?_)
  refine lv_goto (tgt := 3) hx hb dX9_feedBytes_43 (by decide) ?_
  refine lv_iload_n hx hb dX9_feedBytes_3 rfl (lv_at hl 0 rfl) ?_
  refine hb_if_lt (zx := (-8)) (tgt := 46) hx hb (by decide) dX9_feedBytes_4 (by decide) (fun c_33 => ?_) (fun c_33 => absurd c_33 (by decide))
  exact hx_retv hx hb hr hlk hW ⟨hM, f_32⟩ dX9_feedBytes_46



set_option maxHeartbeats 4000000 in
set_option maxRecDepth 100000 in
theorem c_X10_four_16 (l : Launch) (dC : Nat → ClassId) (dI : Nat → Nat → Nat) (dA : Nat → ClassId) (L : List Nat) (h : hx_h) (sz : Nat) (y : Nat) (i1 : Int32) (gy : hx_g L h y 10) (f_y_7 : h.2.1 y 7 = 16) (qt : Nat) (gqt : hx_g L h qt 53) (f_y_6 : h.2.2 y 6 = some qt) : Met l yX10_four (Cond.code yX10_four cX10_four 3 none :: hx_all) ({ frames := 0, cells := 0, slots := 0, locals := 0 }) (va_Pc [.ref y, .int i1] (hx_B P_tb (P_ty dA) (dC, dI) vwCl L h sz)) (va_Qv (fun (u : List Nat × hx_h) => hx_S P_tb [(10, 7), (53, 0)] L h u.1 u.2 ∧ u.2.2.1 y 7 = (20 : Int32)) (hx_E P_tb (P_ty dA) (dC, dI) vwCl (hx_A L sz)) (hx_A L sz)) 0 0 (hx_A L sz) := by
  refine hx_met (lv := [(0, .ref y), (1, .int i1)]) (by decide +kernel) rfl (Nat.le_of_ble_eq_true rfl) rfl ?_
  intro p e s m below meth c hx hb hml hr hlk hts0 hown hin hsz hW ls hl
  have hts : ∀ w ∈ hx_all, w.before _ s = true := fun w hw => hts0 w (List.mem_cons_of_mem _ hw)
  have hown : s.vm.findClass "SmallCourtModel" = some m.cls := hown
  have hM : hx_S P_tb [(10, 7), (53, 0)] L h L h := hx_S.rf
  refine lv_bipush (v := 24) hx hb dX10_four_0 (by decide) ?_
  refine lv_istore_n (lv' := [(2, .int (24 : Int32)), (0, .ref y), (1, .int i1)]) hx hb dX10_four_2 rfl hl (by decide) rfl (fun ls hl => ?_)
  refine lv_iload_n hx hb dX10_four_3 rfl (lv_at hl 0 rfl) ?_
  refine hb_if_lt (zx := 24) (tgt := 36) hx hb (by decide) dX10_four_4 (by decide) (fun c_1 => absurd c_1 (by decide)) (fun c_1 => ?_)
  refine lv_aload_n hx hb dX10_four_7 rfl (lv_at hl 1 rfl) ?_
  refine hk_getr hx hb hts hC_10 hown hW gy td_10 6 (by decide) rfl kw_1149 ⟨rfl, rfl, rfl⟩ f_y_6 dX10_four_8 ?_
  refine lv_aload_n hx hb dX10_four_11 rfl (lv_at hl 1 rfl) ?_
  refine hk_geti hx hb hts hC_10 hown hW gy td_10 7 (by decide) rfl kw_1150 ⟨rfl, rfl, rfl⟩ f_y_7 dX10_four_12 ?_
  refine lv_iload_n hx hb dX10_four_15 rfl (lv_at hl 2 rfl) ?_
  refine lv_iload_n hx hb dX10_four_16 rfl (lv_at hl 0 rfl) ?_
  refine lv_ishr hx hb dX10_four_17 ?_
  refine lv_topi (fun x_2 ex_2 => ?_)
  refine lv_i2b hx hb dX10_four_18 rfl ?_
  refine lv_topi (fun x_3 ex_3 => ?_)
  refine hk_bast hx hb hW gqt td_53 rfl (by decide) (y := _) rfl dX10_four_19 (fun H locs h_4 eh_4 hW hs => ?_)
  have f_y_7 := (hs.o gy trivial rfl).1.trans f_y_7
  have f_y_6 := (hs.o gy trivial rfl).2.trans f_y_6
  have hM := hM.tr (hs.mono (by decide))
  have gy := gy.S hs
  have gqt := gqt.S hs
  refine lv_aload_n hx hb dX10_four_20 rfl (lv_at hl 1 rfl) ?_
  refine lv_dup hx hb dX10_four_21 rfl ?_
  refine hk_geti hx hb hts hC_10 hown hW gy td_10 7 (by decide) rfl kw_1150 ⟨rfl, rfl, rfl⟩ f_y_7 dX10_four_22 ?_
  refine lv_iconst (v := 1) hx hb dX10_four_25 (by decide) ?_
  refine lv_iadd hx hb dX10_four_26 ?_
  refine lv_topi (fun x_5 ex_5 => ?_)
  obtain rfl : x_5 = (17 : Int32) := ex_5.trans (by decide)
  refine hk_puti hx hb hts hC_10 hown hW gy td_10 7 (by decide) rfl kw_1150 ⟨rfl, rfl, rfl⟩ rfl (x := (17 : Int32)) rfl rfl rfl dX10_four_27 (fun H locs h_6 eh_6 hW hs => ?_)
  have f_y_6 := (hs.o gy trivial rfl).2.trans f_y_6
  have hM := hM.tr (hs.mono (by decide))
  have gy := gy.S hs
  have gqt := gqt.S hs
  have f_7 : h_6.2.1 y 7 = (17 : Int32) := by rw [eh_6]; exact hx_pi_at _ _ _ _
  refine lv_iinc (v := 16) (lv' := [(2, .int (16 : Int32)), (0, .ref y), (1, .int i1)]) hx hb dX10_four_30 hl (k := 0) rfl (by decide) (by decide) rfl (fun ls hl => ?_)
  refine lv_goto (tgt := 3) hx hb dX10_four_33 (by decide) ?_
  refine lv_iload_n hx hb dX10_four_3 rfl (lv_at hl 0 rfl) ?_
  refine hb_if_lt (zx := 16) (tgt := 36) hx hb (by decide) dX10_four_4 (by decide) (fun c_8 => absurd c_8 (by decide)) (fun c_8 => ?_)
  refine lv_aload_n hx hb dX10_four_7 rfl (lv_at hl 1 rfl) ?_
  refine hk_getr hx hb hts hC_10 hown hW gy td_10 6 (by decide) rfl kw_1149 ⟨rfl, rfl, rfl⟩ f_y_6 dX10_four_8 ?_
  refine lv_aload_n hx hb dX10_four_11 rfl (lv_at hl 1 rfl) ?_
  refine hk_geti hx hb hts hC_10 hown hW gy td_10 7 (by decide) rfl kw_1150 ⟨rfl, rfl, rfl⟩ f_7 dX10_four_12 ?_
  refine lv_iload_n hx hb dX10_four_15 rfl (lv_at hl 2 rfl) ?_
  refine lv_iload_n hx hb dX10_four_16 rfl (lv_at hl 0 rfl) ?_
  refine lv_ishr hx hb dX10_four_17 ?_
  refine lv_topi (fun x_9 ex_9 => ?_)
  refine lv_i2b hx hb dX10_four_18 rfl ?_
  refine lv_topi (fun x_10 ex_10 => ?_)
  refine hk_bast hx hb hW gqt td_53 rfl (by decide) (y := _) rfl dX10_four_19 (fun H locs h_11 eh_11 hW hs => ?_)
  have f_y_6 := (hs.o gy trivial rfl).2.trans f_y_6
  have f_7 := (hs.o gy trivial rfl).1.trans f_7
  have hM := hM.tr (hs.mono (by decide))
  have gy := gy.S hs
  have gqt := gqt.S hs
  refine lv_aload_n hx hb dX10_four_20 rfl (lv_at hl 1 rfl) ?_
  refine lv_dup hx hb dX10_four_21 rfl ?_
  refine hk_geti hx hb hts hC_10 hown hW gy td_10 7 (by decide) rfl kw_1150 ⟨rfl, rfl, rfl⟩ f_7 dX10_four_22 ?_
  refine lv_iconst (v := 1) hx hb dX10_four_25 (by decide) ?_
  refine lv_iadd hx hb dX10_four_26 ?_
  refine lv_topi (fun x_12 ex_12 => ?_)
  obtain rfl : x_12 = (18 : Int32) := ex_12.trans (by decide)
  refine hk_puti hx hb hts hC_10 hown hW gy td_10 7 (by decide) rfl kw_1150 ⟨rfl, rfl, rfl⟩ rfl (x := (18 : Int32)) rfl rfl rfl dX10_four_27 (fun H locs h_13 eh_13 hW hs => ?_)
  have f_y_6 := (hs.o gy trivial rfl).2.trans f_y_6
  have hM := hM.tr (hs.mono (by decide))
  have gy := gy.S hs
  have gqt := gqt.S hs
  have f_14 : h_13.2.1 y 7 = (18 : Int32) := by rw [eh_13]; exact hx_pi_at _ _ _ _
  refine lv_iinc (v := 8) (lv' := [(2, .int (8 : Int32)), (0, .ref y), (1, .int i1)]) hx hb dX10_four_30 hl (k := 0) rfl (by decide) (by decide) rfl (fun ls hl => ?_)
  refine lv_goto (tgt := 3) hx hb dX10_four_33 (by decide) ?_
  refine lv_iload_n hx hb dX10_four_3 rfl (lv_at hl 0 rfl) ?_
  refine hb_if_lt (zx := 8) (tgt := 36) hx hb (by decide) dX10_four_4 (by decide) (fun c_15 => absurd c_15 (by decide)) (fun c_15 => ?_)
  refine lv_aload_n hx hb dX10_four_7 rfl (lv_at hl 1 rfl) ?_
  refine hk_getr hx hb hts hC_10 hown hW gy td_10 6 (by decide) rfl kw_1149 ⟨rfl, rfl, rfl⟩ f_y_6 dX10_four_8 ?_
  refine lv_aload_n hx hb dX10_four_11 rfl (lv_at hl 1 rfl) ?_
  refine hk_geti hx hb hts hC_10 hown hW gy td_10 7 (by decide) rfl kw_1150 ⟨rfl, rfl, rfl⟩ f_14 dX10_four_12 ?_
  refine lv_iload_n hx hb dX10_four_15 rfl (lv_at hl 2 rfl) ?_
  refine lv_iload_n hx hb dX10_four_16 rfl (lv_at hl 0 rfl) ?_
  refine lv_ishr hx hb dX10_four_17 ?_
  refine lv_topi (fun x_16 ex_16 => ?_)
  refine lv_i2b hx hb dX10_four_18 rfl ?_
  refine lv_topi (fun x_17 ex_17 => ?_)
  refine hk_bast hx hb hW gqt td_53 rfl (by decide) (y := _) rfl dX10_four_19 (fun H locs h_18 eh_18 hW hs => ?_)
  have f_y_6 := (hs.o gy trivial rfl).2.trans f_y_6
  have f_14 := (hs.o gy trivial rfl).1.trans f_14
  have hM := hM.tr (hs.mono (by decide))
  have gy := gy.S hs
  have gqt := gqt.S hs
  refine lv_aload_n hx hb dX10_four_20 rfl (lv_at hl 1 rfl) ?_
  refine lv_dup hx hb dX10_four_21 rfl ?_
  refine hk_geti hx hb hts hC_10 hown hW gy td_10 7 (by decide) rfl kw_1150 ⟨rfl, rfl, rfl⟩ f_14 dX10_four_22 ?_
  refine lv_iconst (v := 1) hx hb dX10_four_25 (by decide) ?_
  refine lv_iadd hx hb dX10_four_26 ?_
  refine lv_topi (fun x_19 ex_19 => ?_)
  obtain rfl : x_19 = (19 : Int32) := ex_19.trans (by decide)
  refine hk_puti hx hb hts hC_10 hown hW gy td_10 7 (by decide) rfl kw_1150 ⟨rfl, rfl, rfl⟩ rfl (x := (19 : Int32)) rfl rfl rfl dX10_four_27 (fun H locs h_20 eh_20 hW hs => ?_)
  have f_y_6 := (hs.o gy trivial rfl).2.trans f_y_6
  have hM := hM.tr (hs.mono (by decide))
  have gy := gy.S hs
  have gqt := gqt.S hs
  have f_21 : h_20.2.1 y 7 = (19 : Int32) := by rw [eh_20]; exact hx_pi_at _ _ _ _
  refine lv_iinc (v := 0) (lv' := [(2, .int (0 : Int32)), (0, .ref y), (1, .int i1)]) hx hb dX10_four_30 hl (k := 0) rfl (by decide) (by decide) rfl (fun ls hl => ?_)
  refine lv_goto (tgt := 3) hx hb dX10_four_33 (by decide) ?_
  refine lv_iload_n hx hb dX10_four_3 rfl (lv_at hl 0 rfl) ?_
  refine hb_if_lt (zx := 0) (tgt := 36) hx hb (by decide) dX10_four_4 (by decide) (fun c_22 => absurd c_22 (by decide)) (fun c_22 => ?_)
  refine lv_aload_n hx hb dX10_four_7 rfl (lv_at hl 1 rfl) ?_
  refine hk_getr hx hb hts hC_10 hown hW gy td_10 6 (by decide) rfl kw_1149 ⟨rfl, rfl, rfl⟩ f_y_6 dX10_four_8 ?_
  refine lv_aload_n hx hb dX10_four_11 rfl (lv_at hl 1 rfl) ?_
  refine hk_geti hx hb hts hC_10 hown hW gy td_10 7 (by decide) rfl kw_1150 ⟨rfl, rfl, rfl⟩ f_21 dX10_four_12 ?_
  refine lv_iload_n hx hb dX10_four_15 rfl (lv_at hl 2 rfl) ?_
  refine lv_iload_n hx hb dX10_four_16 rfl (lv_at hl 0 rfl) ?_
  refine lv_ishr hx hb dX10_four_17 ?_
  refine lv_topi (fun x_23 ex_23 => ?_)
  refine lv_i2b hx hb dX10_four_18 rfl ?_
  refine lv_topi (fun x_24 ex_24 => ?_)
  refine hk_bast hx hb hW gqt td_53 rfl (by decide) (y := _) rfl dX10_four_19 (fun H locs h_25 eh_25 hW hs => ?_)
  have f_y_6 := (hs.o gy trivial rfl).2.trans f_y_6
  have f_21 := (hs.o gy trivial rfl).1.trans f_21
  have hM := hM.tr (hs.mono (by decide))
  have gy := gy.S hs
  have gqt := gqt.S hs
  refine lv_aload_n hx hb dX10_four_20 rfl (lv_at hl 1 rfl) ?_
  refine lv_dup hx hb dX10_four_21 rfl ?_
  refine hk_geti hx hb hts hC_10 hown hW gy td_10 7 (by decide) rfl kw_1150 ⟨rfl, rfl, rfl⟩ f_21 dX10_four_22 ?_
  refine lv_iconst (v := 1) hx hb dX10_four_25 (by decide) ?_
  refine lv_iadd hx hb dX10_four_26 ?_
  refine lv_topi (fun x_26 ex_26 => ?_)
  obtain rfl : x_26 = (20 : Int32) := ex_26.trans (by decide)
  refine hk_puti hx hb hts hC_10 hown hW gy td_10 7 (by decide) rfl kw_1150 ⟨rfl, rfl, rfl⟩ rfl (x := (20 : Int32)) rfl rfl rfl dX10_four_27 (fun H locs h_27 eh_27 hW hs => ?_)
  have f_y_6 := (hs.o gy trivial rfl).2.trans f_y_6
  have hM := hM.tr (hs.mono (by decide))
  have gy := gy.S hs
  have gqt := gqt.S hs
  have f_28 : h_27.2.1 y 7 = (20 : Int32) := by rw [eh_27]; exact hx_pi_at _ _ _ _
  refine lv_iinc (v := -8) (lv' := [(2, .int (-8 : Int32)), (0, .ref y), (1, .int i1)]) hx hb dX10_four_30 hl (k := 0) rfl (by decide) (by decide) rfl (fun ls hl => ?_)
  refine lv_goto (tgt := 3) hx hb dX10_four_33 (by decide) ?_
  refine lv_iload_n hx hb dX10_four_3 rfl (lv_at hl 0 rfl) ?_
  refine hb_if_lt (zx := (-8)) (tgt := 36) hx hb (by decide) dX10_four_4 (by decide) (fun c_29 => ?_) (fun c_29 => absurd c_29 (by decide))
  exact hx_retv hx hb hr hlk hW ⟨hM, f_28⟩ dX10_four_36


theorem dX9_feed_0 : decode cX9_feed 0 = .ok (.aload_n 0, 1) := by decide +kernel
theorem dX9_feed_1 : decode cX9_feed 1 = .ok (.getfield 98, 3) := by decide +kernel
theorem dX9_feed_4 : decode cX9_feed 4 = .ok (.bipush 20, 2) := by decide +kernel
theorem dX9_feed_6 : decode cX9_feed 6 = .ok (.iadd, 1) := by decide +kernel
theorem dX9_feed_7 : decode cX9_feed 7 = .ok (.sipush 400, 3) := by decide +kernel
theorem dX9_feed_10 : decode cX9_feed 10 = .ok (.if_icmp .le 5, 3) := by decide +kernel
theorem dX9_feed_15 : decode cX9_feed 15 = .ok (.aload_n 0, 1) := by decide +kernel
theorem dX9_feed_16 : decode cX9_feed 16 = .ok (.iload_n 1, 1) := by decide +kernel
theorem dX9_feed_17 : decode cX9_feed 17 = .ok (.invokevirtual 101, 3) := by decide +kernel
theorem dX9_feed_20 : decode cX9_feed 20 = .ok (.aload_n 0, 1) := by decide +kernel
theorem dX9_feed_21 : decode cX9_feed 21 = .ok (.iload_n 2, 1) := by decide +kernel
theorem dX9_feed_22 : decode cX9_feed 22 = .ok (.invokevirtual 101, 3) := by decide +kernel
theorem dX9_feed_25 : decode cX9_feed 25 = .ok (.aload_n 0, 1) := by decide +kernel
theorem dX9_feed_26 : decode cX9_feed 26 = .ok (.iload_n 3, 1) := by decide +kernel
theorem dX9_feed_27 : decode cX9_feed 27 = .ok (.invokevirtual 101, 3) := by decide +kernel
theorem dX9_feed_30 : decode cX9_feed 30 = .ok (.aload_n 0, 1) := by decide +kernel
theorem dX9_feed_31 : decode cX9_feed 31 = .ok (.iload 4, 2) := by decide +kernel
theorem dX9_feed_33 : decode cX9_feed 33 = .ok (.invokevirtual 101, 3) := by decide +kernel
theorem dX9_feed_36 : decode cX9_feed 36 = .ok (.aload_n 0, 1) := by decide +kernel
theorem dX9_feed_37 : decode cX9_feed 37 = .ok (.iload 5, 2) := by decide +kernel
theorem dX9_feed_39 : decode cX9_feed 39 = .ok (.invokevirtual 101, 3) := by decide +kernel
theorem dX9_feed_42 : decode cX9_feed 42 = .ok (.aload_n 0, 1) := by decide +kernel
theorem dX9_feed_43 : decode cX9_feed 43 = .ok (.getfield 98, 3) := by decide +kernel
theorem dX9_feed_46 : decode cX9_feed 46 = .ok (.ireturn, 1) := by decide +kernel
set_option maxHeartbeats 4000000 in
set_option maxRecDepth 100000 in
theorem c_X9_feed (l : Launch) (dC : Nat → ClassId) (dI : Nat → Nat → Nat) (dA : Nat → ClassId) (L : List Nat) (h : hx_h) (sz : Nat) (x : Nat) (i1 : Int32) (i2 : Int32) (i3 : Int32) (i4 : Int32) (i5 : Int32) (gx : hx_g L h x 9) (f_x_1 : h.2.1 x 1 = 0) (qt : Nat) (gqt : hx_g L h qt 42) (f_x_0 : h.2.2 x 0 = some qt) : Met l yX9_feed (Cond.code yX9_feed cX9_feed 6 (some .int) :: hx_all) ({ frames := 1, cells := 0, slots := 0, locals := 22 }) (va_Pc [.ref x, .int i1, .int i2, .int i3, .int i4, .int i5] (hx_B P_tb (P_ty dA) (dC, dI) vwCl L h sz)) (va_Qi (fun (r : Int32) (u : List Nat × hx_h) => (r = 20) ∧ hx_S P_tb [(9, 1), (42, 0)] L h u.1 u.2) (hx_E P_tb (P_ty dA) (dC, dI) vwCl (hx_A L sz)) (hx_A L sz)) 0 0 (hx_A L sz) := by
  refine hx_met (lv := [(0, .ref x), (1, .int i1), (2, .int i2), (3, .int i3), (4, .int i4), (5, .int i5)]) (by decide +kernel) rfl (Nat.le_of_ble_eq_true rfl) rfl ?_
  intro p e s m below meth c hx hb hml hr hlk hts0 hown hin hsz hW ls hl
  have hts : ∀ w ∈ hx_all, w.before _ s = true := fun w hw => hts0 w (List.mem_cons_of_mem _ hw)
  have hown : s.vm.findClass "SmallCourt" = some m.cls := hown
  have hM : hx_S P_tb [(9, 1), (42, 0)] L h L h := hx_S.rf
  refine lv_aload_n hx hb dX9_feed_0 rfl (lv_at hl 0 rfl) ?_
  refine hk_geti hx hb hts hC_9 hown hW gx td_9 1 (by decide) rfl kw_365 ⟨rfl, rfl, rfl⟩ f_x_1 dX9_feed_1 ?_
  refine lv_bipush (v := 20) hx hb dX9_feed_4 (by decide) ?_
  refine lv_iadd hx hb dX9_feed_6 ?_
  refine lv_topi (fun x_1 ex_1 => ?_)
  obtain rfl : x_1 = (20 : Int32) := ex_1.trans (by decide)
  refine lv_sipush (v := 400) hx hb dX9_feed_7 (by decide) ?_
  refine hb_icmp_le (zx := 20) (zy := 400) (tgt := 15) hx hb (by decide) (by decide) dX9_feed_10 (by decide) (fun c_2 => ?_) (fun c_2 => absurd c_2 (by decide))
  refine lv_aload_n hx hb dX9_feed_15 rfl (lv_at hl 0 rfl) ?_
  refine lv_iload_n hx hb dX9_feed_16 rfl (lv_at hl 1 rfl) ?_
  refine hx_gov (hx_runV (As := [.int i1]) (rest := []) ⟨hx, hb, hml, hown, hts⟩ hW gx td_9 (T := TX9) (N := 20) rfl (c_X9_feedBytes_0 l dC dI dA L h s.heap.size x i1 gx f_x_1 qt gqt f_x_0) (cwV 1 hts (hx_gV kw_442 kw_439 kw_441 kw_0 kw_94) rfl rfl rfl (by decide +kernel) ⟨Nat.le_of_ble_eq_true rfl, Nat.le_of_ble_eq_true rfl⟩) rfl hl.1 rfl (Nat.le_of_ble_eq_true rfl) dX9_feed_17 ⟨Nat.le_of_ble_eq_true rfl, Nat.le_of_ble_eq_true rfl⟩) hW (fun L_3 h_4 H locs p_6 hW => ?_)
  obtain ⟨hs, f_7⟩ := p_6
  have hs : hx_S P_tb [(9, 1), (42, 0)] L h L_3 h_4 := hs
  have f_7 : h_4.2.1 x 1 = _ := f_7
  have f_x_0 := (hs.o gx trivial rfl).2.trans f_x_0
  have hM := hM.tr (hs.mono (by decide))
  have gx := gx.S hs
  have gqt := gqt.S hs
  refine lv_aload_n hx hb dX9_feed_20 rfl (lv_at hl 0 rfl) ?_
  refine lv_iload_n hx hb dX9_feed_21 rfl (lv_at hl 2 rfl) ?_
  refine hx_gov (hx_runV (As := [.int i2]) (rest := []) ⟨hx, hb, hml, hown, hts⟩ hW gx td_9 (T := TX9) (N := 20) rfl (c_X9_feedBytes_4 l dC dI dA L_3 h_4 H.size x i2 gx f_7 qt gqt f_x_0) (cwV 1 hts (hx_gV kw_442 kw_439 kw_441 kw_0 kw_94) rfl rfl rfl (by decide +kernel) ⟨Nat.le_of_ble_eq_true rfl, Nat.le_of_ble_eq_true rfl⟩) rfl hl.1 rfl (Nat.le_of_ble_eq_true rfl) dX9_feed_22 ⟨Nat.le_of_ble_eq_true rfl, Nat.le_of_ble_eq_true rfl⟩) hW (fun L_8 h_9 H locs p_11 hW => ?_)
  obtain ⟨hs, f_12⟩ := p_11
  have hs : hx_S P_tb [(9, 1), (42, 0)] L_3 h_4 L_8 h_9 := hs
  have f_12 : h_9.2.1 x 1 = _ := f_12
  have f_x_0 := (hs.o gx trivial rfl).2.trans f_x_0
  have hM := hM.tr (hs.mono (by decide))
  have gx := gx.S hs
  have gqt := gqt.S hs
  refine lv_aload_n hx hb dX9_feed_25 rfl (lv_at hl 0 rfl) ?_
  refine lv_iload_n hx hb dX9_feed_26 rfl (lv_at hl 3 rfl) ?_
  refine hx_gov (hx_runV (As := [.int i3]) (rest := []) ⟨hx, hb, hml, hown, hts⟩ hW gx td_9 (T := TX9) (N := 20) rfl (c_X9_feedBytes_8 l dC dI dA L_8 h_9 H.size x i3 gx f_12 qt gqt f_x_0) (cwV 1 hts (hx_gV kw_442 kw_439 kw_441 kw_0 kw_94) rfl rfl rfl (by decide +kernel) ⟨Nat.le_of_ble_eq_true rfl, Nat.le_of_ble_eq_true rfl⟩) rfl hl.1 rfl (Nat.le_of_ble_eq_true rfl) dX9_feed_27 ⟨Nat.le_of_ble_eq_true rfl, Nat.le_of_ble_eq_true rfl⟩) hW (fun L_13 h_14 H locs p_16 hW => ?_)
  obtain ⟨hs, f_17⟩ := p_16
  have hs : hx_S P_tb [(9, 1), (42, 0)] L_8 h_9 L_13 h_14 := hs
  have f_17 : h_14.2.1 x 1 = _ := f_17
  have f_x_0 := (hs.o gx trivial rfl).2.trans f_x_0
  have hM := hM.tr (hs.mono (by decide))
  have gx := gx.S hs
  have gqt := gqt.S hs
  refine lv_aload_n hx hb dX9_feed_30 rfl (lv_at hl 0 rfl) ?_
  refine lv_iload hx hb dX9_feed_31 (lv_at hl 4 rfl) ?_
  refine hx_gov (hx_runV (As := [.int i4]) (rest := []) ⟨hx, hb, hml, hown, hts⟩ hW gx td_9 (T := TX9) (N := 20) rfl (c_X9_feedBytes_12 l dC dI dA L_13 h_14 H.size x i4 gx f_17 qt gqt f_x_0) (cwV 1 hts (hx_gV kw_442 kw_439 kw_441 kw_0 kw_94) rfl rfl rfl (by decide +kernel) ⟨Nat.le_of_ble_eq_true rfl, Nat.le_of_ble_eq_true rfl⟩) rfl hl.1 rfl (Nat.le_of_ble_eq_true rfl) dX9_feed_33 ⟨Nat.le_of_ble_eq_true rfl, Nat.le_of_ble_eq_true rfl⟩) hW (fun L_18 h_19 H locs p_21 hW => ?_)
  obtain ⟨hs, f_22⟩ := p_21
  have hs : hx_S P_tb [(9, 1), (42, 0)] L_13 h_14 L_18 h_19 := hs
  have f_22 : h_19.2.1 x 1 = _ := f_22
  have f_x_0 := (hs.o gx trivial rfl).2.trans f_x_0
  have hM := hM.tr (hs.mono (by decide))
  have gx := gx.S hs
  have gqt := gqt.S hs
  refine lv_aload_n hx hb dX9_feed_36 rfl (lv_at hl 0 rfl) ?_
  refine lv_iload hx hb dX9_feed_37 (lv_at hl 5 rfl) ?_
  refine hx_gov (hx_runV (As := [.int i5]) (rest := []) ⟨hx, hb, hml, hown, hts⟩ hW gx td_9 (T := TX9) (N := 20) rfl (c_X9_feedBytes_16 l dC dI dA L_18 h_19 H.size x i5 gx f_22 qt gqt f_x_0) (cwV 1 hts (hx_gV kw_442 kw_439 kw_441 kw_0 kw_94) rfl rfl rfl (by decide +kernel) ⟨Nat.le_of_ble_eq_true rfl, Nat.le_of_ble_eq_true rfl⟩) rfl hl.1 rfl (Nat.le_of_ble_eq_true rfl) dX9_feed_39 ⟨Nat.le_of_ble_eq_true rfl, Nat.le_of_ble_eq_true rfl⟩) hW (fun L_23 h_24 H locs p_26 hW => ?_)
  obtain ⟨hs, f_27⟩ := p_26
  have hs : hx_S P_tb [(9, 1), (42, 0)] L_18 h_19 L_23 h_24 := hs
  have f_27 : h_24.2.1 x 1 = _ := f_27
  have f_x_0 := (hs.o gx trivial rfl).2.trans f_x_0
  have hM := hM.tr (hs.mono (by decide))
  have gx := gx.S hs
  have gqt := gqt.S hs
  refine lv_aload_n hx hb dX9_feed_42 rfl (lv_at hl 0 rfl) ?_
  refine hk_geti hx hb hts hC_9 hown hW gx td_9 1 (by decide) rfl kw_365 ⟨rfl, rfl, rfl⟩ f_27 dX9_feed_43 ?_
  exact hx_reti hx hb hr hlk hW ⟨rfl, hM⟩ dX9_feed_46


theorem dX10_feed_0 : decode cX10_feed 0 = .ok (.aload_n 0, 1) := by decide +kernel
theorem dX10_feed_1 : decode cX10_feed 1 = .ok (.getfield 236, 3) := by decide +kernel
theorem dX10_feed_4 : decode cX10_feed 4 = .ok (.bipush 20, 2) := by decide +kernel
theorem dX10_feed_6 : decode cX10_feed 6 = .ok (.iadd, 1) := by decide +kernel
theorem dX10_feed_7 : decode cX10_feed 7 = .ok (.sipush 400, 3) := by decide +kernel
theorem dX10_feed_10 : decode cX10_feed 10 = .ok (.if_icmp .le 5, 3) := by decide +kernel
theorem dX10_feed_15 : decode cX10_feed 15 = .ok (.aload_n 0, 1) := by decide +kernel
theorem dX10_feed_16 : decode cX10_feed 16 = .ok (.iload_n 1, 1) := by decide +kernel
theorem dX10_feed_17 : decode cX10_feed 17 = .ok (.invokevirtual 239, 3) := by decide +kernel
theorem dX10_feed_20 : decode cX10_feed 20 = .ok (.aload_n 0, 1) := by decide +kernel
theorem dX10_feed_21 : decode cX10_feed 21 = .ok (.iload_n 2, 1) := by decide +kernel
theorem dX10_feed_22 : decode cX10_feed 22 = .ok (.invokevirtual 239, 3) := by decide +kernel
theorem dX10_feed_25 : decode cX10_feed 25 = .ok (.aload_n 0, 1) := by decide +kernel
theorem dX10_feed_26 : decode cX10_feed 26 = .ok (.iload_n 3, 1) := by decide +kernel
theorem dX10_feed_27 : decode cX10_feed 27 = .ok (.invokevirtual 239, 3) := by decide +kernel
theorem dX10_feed_30 : decode cX10_feed 30 = .ok (.aload_n 0, 1) := by decide +kernel
theorem dX10_feed_31 : decode cX10_feed 31 = .ok (.iload 4, 2) := by decide +kernel
theorem dX10_feed_33 : decode cX10_feed 33 = .ok (.invokevirtual 239, 3) := by decide +kernel
theorem dX10_feed_36 : decode cX10_feed 36 = .ok (.aload_n 0, 1) := by decide +kernel
theorem dX10_feed_37 : decode cX10_feed 37 = .ok (.iload 5, 2) := by decide +kernel
theorem dX10_feed_39 : decode cX10_feed 39 = .ok (.invokevirtual 239, 3) := by decide +kernel
theorem dX10_feed_42 : decode cX10_feed 42 = .ok (.aload_n 0, 1) := by decide +kernel
theorem dX10_feed_43 : decode cX10_feed 43 = .ok (.getfield 236, 3) := by decide +kernel
theorem dX10_feed_46 : decode cX10_feed 46 = .ok (.ireturn, 1) := by decide +kernel
set_option maxHeartbeats 4000000 in
set_option maxRecDepth 100000 in
theorem c_X10_feed (l : Launch) (dC : Nat → ClassId) (dI : Nat → Nat → Nat) (dA : Nat → ClassId) (L : List Nat) (h : hx_h) (sz : Nat) (y : Nat) (i1 : Int32) (i2 : Int32) (i3 : Int32) (i4 : Int32) (i5 : Int32) (gy : hx_g L h y 10) (f_y_7 : h.2.1 y 7 = 0) (qt : Nat) (gqt : hx_g L h qt 53) (f_y_6 : h.2.2 y 6 = some qt) : Met l yX10_feed (Cond.code yX10_feed cX10_feed 6 (some .int) :: hx_all) ({ frames := 1, cells := 0, slots := 0, locals := 22 }) (va_Pc [.ref y, .int i1, .int i2, .int i3, .int i4, .int i5] (hx_B P_tb (P_ty dA) (dC, dI) vwCl L h sz)) (va_Qi (fun (r : Int32) (u : List Nat × hx_h) => (r = 20) ∧ hx_S P_tb [(10, 7), (53, 0)] L h u.1 u.2) (hx_E P_tb (P_ty dA) (dC, dI) vwCl (hx_A L sz)) (hx_A L sz)) 0 0 (hx_A L sz) := by
  refine hx_met (lv := [(0, .ref y), (1, .int i1), (2, .int i2), (3, .int i3), (4, .int i4), (5, .int i5)]) (by decide +kernel) rfl (Nat.le_of_ble_eq_true rfl) rfl ?_
  intro p e s m below meth c hx hb hml hr hlk hts0 hown hin hsz hW ls hl
  have hts : ∀ w ∈ hx_all, w.before _ s = true := fun w hw => hts0 w (List.mem_cons_of_mem _ hw)
  have hown : s.vm.findClass "SmallCourtModel" = some m.cls := hown
  have hM : hx_S P_tb [(10, 7), (53, 0)] L h L h := hx_S.rf
  refine lv_aload_n hx hb dX10_feed_0 rfl (lv_at hl 0 rfl) ?_
  refine hk_geti hx hb hts hC_10 hown hW gy td_10 7 (by decide) rfl kw_1150 ⟨rfl, rfl, rfl⟩ f_y_7 dX10_feed_1 ?_
  refine lv_bipush (v := 20) hx hb dX10_feed_4 (by decide) ?_
  refine lv_iadd hx hb dX10_feed_6 ?_
  refine lv_topi (fun x_1 ex_1 => ?_)
  obtain rfl : x_1 = (20 : Int32) := ex_1.trans (by decide)
  refine lv_sipush (v := 400) hx hb dX10_feed_7 (by decide) ?_
  refine hb_icmp_le (zx := 20) (zy := 400) (tgt := 15) hx hb (by decide) (by decide) dX10_feed_10 (by decide) (fun c_2 => ?_) (fun c_2 => absurd c_2 (by decide))
  refine lv_aload_n hx hb dX10_feed_15 rfl (lv_at hl 0 rfl) ?_
  refine lv_iload_n hx hb dX10_feed_16 rfl (lv_at hl 1 rfl) ?_
  refine hx_gov (hx_runV (As := [.int i1]) (rest := []) ⟨hx, hb, hml, hown, hts⟩ hW gy td_10 (T := TX10) (N := 98) rfl (c_X10_four_0 l dC dI dA L h s.heap.size y i1 gy f_y_7 qt gqt f_y_6) (cwV 1 hts (hx_gV kw_1453 kw_1450 kw_1452 kw_52 kw_103) rfl rfl rfl (by decide +kernel) ⟨Nat.le_of_ble_eq_true rfl, Nat.le_of_ble_eq_true rfl⟩) rfl hl.1 rfl (Nat.le_of_ble_eq_true rfl) dX10_feed_17 ⟨Nat.le_of_ble_eq_true rfl, Nat.le_of_ble_eq_true rfl⟩) hW (fun L_3 h_4 H locs p_6 hW => ?_)
  obtain ⟨hs, f_7⟩ := p_6
  have hs : hx_S P_tb [(10, 7), (53, 0)] L h L_3 h_4 := hs
  have f_7 : h_4.2.1 y 7 = _ := f_7
  have f_y_6 := (hs.o gy trivial rfl).2.trans f_y_6
  have hM := hM.tr (hs.mono (by decide))
  have gy := gy.S hs
  have gqt := gqt.S hs
  refine lv_aload_n hx hb dX10_feed_20 rfl (lv_at hl 0 rfl) ?_
  refine lv_iload_n hx hb dX10_feed_21 rfl (lv_at hl 2 rfl) ?_
  refine hx_gov (hx_runV (As := [.int i2]) (rest := []) ⟨hx, hb, hml, hown, hts⟩ hW gy td_10 (T := TX10) (N := 98) rfl (c_X10_four_4 l dC dI dA L_3 h_4 H.size y i2 gy f_7 qt gqt f_y_6) (cwV 1 hts (hx_gV kw_1453 kw_1450 kw_1452 kw_52 kw_103) rfl rfl rfl (by decide +kernel) ⟨Nat.le_of_ble_eq_true rfl, Nat.le_of_ble_eq_true rfl⟩) rfl hl.1 rfl (Nat.le_of_ble_eq_true rfl) dX10_feed_22 ⟨Nat.le_of_ble_eq_true rfl, Nat.le_of_ble_eq_true rfl⟩) hW (fun L_8 h_9 H locs p_11 hW => ?_)
  obtain ⟨hs, f_12⟩ := p_11
  have hs : hx_S P_tb [(10, 7), (53, 0)] L_3 h_4 L_8 h_9 := hs
  have f_12 : h_9.2.1 y 7 = _ := f_12
  have f_y_6 := (hs.o gy trivial rfl).2.trans f_y_6
  have hM := hM.tr (hs.mono (by decide))
  have gy := gy.S hs
  have gqt := gqt.S hs
  refine lv_aload_n hx hb dX10_feed_25 rfl (lv_at hl 0 rfl) ?_
  refine lv_iload_n hx hb dX10_feed_26 rfl (lv_at hl 3 rfl) ?_
  refine hx_gov (hx_runV (As := [.int i3]) (rest := []) ⟨hx, hb, hml, hown, hts⟩ hW gy td_10 (T := TX10) (N := 98) rfl (c_X10_four_8 l dC dI dA L_8 h_9 H.size y i3 gy f_12 qt gqt f_y_6) (cwV 1 hts (hx_gV kw_1453 kw_1450 kw_1452 kw_52 kw_103) rfl rfl rfl (by decide +kernel) ⟨Nat.le_of_ble_eq_true rfl, Nat.le_of_ble_eq_true rfl⟩) rfl hl.1 rfl (Nat.le_of_ble_eq_true rfl) dX10_feed_27 ⟨Nat.le_of_ble_eq_true rfl, Nat.le_of_ble_eq_true rfl⟩) hW (fun L_13 h_14 H locs p_16 hW => ?_)
  obtain ⟨hs, f_17⟩ := p_16
  have hs : hx_S P_tb [(10, 7), (53, 0)] L_8 h_9 L_13 h_14 := hs
  have f_17 : h_14.2.1 y 7 = _ := f_17
  have f_y_6 := (hs.o gy trivial rfl).2.trans f_y_6
  have hM := hM.tr (hs.mono (by decide))
  have gy := gy.S hs
  have gqt := gqt.S hs
  refine lv_aload_n hx hb dX10_feed_30 rfl (lv_at hl 0 rfl) ?_
  refine lv_iload hx hb dX10_feed_31 (lv_at hl 4 rfl) ?_
  refine hx_gov (hx_runV (As := [.int i4]) (rest := []) ⟨hx, hb, hml, hown, hts⟩ hW gy td_10 (T := TX10) (N := 98) rfl (c_X10_four_12 l dC dI dA L_13 h_14 H.size y i4 gy f_17 qt gqt f_y_6) (cwV 1 hts (hx_gV kw_1453 kw_1450 kw_1452 kw_52 kw_103) rfl rfl rfl (by decide +kernel) ⟨Nat.le_of_ble_eq_true rfl, Nat.le_of_ble_eq_true rfl⟩) rfl hl.1 rfl (Nat.le_of_ble_eq_true rfl) dX10_feed_33 ⟨Nat.le_of_ble_eq_true rfl, Nat.le_of_ble_eq_true rfl⟩) hW (fun L_18 h_19 H locs p_21 hW => ?_)
  obtain ⟨hs, f_22⟩ := p_21
  have hs : hx_S P_tb [(10, 7), (53, 0)] L_13 h_14 L_18 h_19 := hs
  have f_22 : h_19.2.1 y 7 = _ := f_22
  have f_y_6 := (hs.o gy trivial rfl).2.trans f_y_6
  have hM := hM.tr (hs.mono (by decide))
  have gy := gy.S hs
  have gqt := gqt.S hs
  refine lv_aload_n hx hb dX10_feed_36 rfl (lv_at hl 0 rfl) ?_
  refine lv_iload hx hb dX10_feed_37 (lv_at hl 5 rfl) ?_
  refine hx_gov (hx_runV (As := [.int i5]) (rest := []) ⟨hx, hb, hml, hown, hts⟩ hW gy td_10 (T := TX10) (N := 98) rfl (c_X10_four_16 l dC dI dA L_18 h_19 H.size y i5 gy f_22 qt gqt f_y_6) (cwV 1 hts (hx_gV kw_1453 kw_1450 kw_1452 kw_52 kw_103) rfl rfl rfl (by decide +kernel) ⟨Nat.le_of_ble_eq_true rfl, Nat.le_of_ble_eq_true rfl⟩) rfl hl.1 rfl (Nat.le_of_ble_eq_true rfl) dX10_feed_39 ⟨Nat.le_of_ble_eq_true rfl, Nat.le_of_ble_eq_true rfl⟩) hW (fun L_23 h_24 H locs p_26 hW => ?_)
  obtain ⟨hs, f_27⟩ := p_26
  have hs : hx_S P_tb [(10, 7), (53, 0)] L_18 h_19 L_23 h_24 := hs
  have f_27 : h_24.2.1 y 7 = _ := f_27
  have f_y_6 := (hs.o gy trivial rfl).2.trans f_y_6
  have hM := hM.tr (hs.mono (by decide))
  have gy := gy.S hs
  have gqt := gqt.S hs
  refine lv_aload_n hx hb dX10_feed_42 rfl (lv_at hl 0 rfl) ?_
  refine hk_geti hx hb hts hC_10 hown hW gy td_10 7 (by decide) rfl kw_1150 ⟨rfl, rfl, rfl⟩ f_27 dX10_feed_43 ?_
  exact hx_reti hx hb hr hlk hW ⟨rfl, hM⟩ dX10_feed_46

