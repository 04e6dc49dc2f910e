theorem dX5_leastFrom_0 : decode cX5_leastFrom 0 = .ok (.iconst 0, 1) := by decide +kernel
theorem dX5_leastFrom_1 : decode cX5_leastFrom 1 = .ok (.istore_n 2, 1) := by decide +kernel
theorem dX5_leastFrom_2 : decode cX5_leastFrom 2 = .ok (.iload_n 1, 1) := by decide +kernel
theorem dX5_leastFrom_3 : decode cX5_leastFrom 3 = .ok (.istore_n 3, 1) := by decide +kernel
theorem dX5_leastFrom_4 : decode cX5_leastFrom 4 = .ok (.iload_n 3, 1) := by decide +kernel
theorem dX5_leastFrom_5 : decode cX5_leastFrom 5 = .ok (.aload_n 0, 1) := by decide +kernel
theorem dX5_leastFrom_6 : decode cX5_leastFrom 6 = .ok (.getfield 33, 3) := by decide +kernel
theorem dX5_leastFrom_9 : decode cX5_leastFrom 9 = .ok (.if_icmp .ge 18, 3) := by decide +kernel
theorem dX5_leastFrom_12 : decode cX5_leastFrom 12 = .ok (.iload_n 2, 1) := by decide +kernel
theorem dX5_leastFrom_13 : decode cX5_leastFrom 13 = .ok (.aload_n 0, 1) := by decide +kernel
theorem dX5_leastFrom_14 : decode cX5_leastFrom 14 = .ok (.getfield 27, 3) := by decide +kernel
theorem dX5_leastFrom_17 : decode cX5_leastFrom 17 = .ok (.iload_n 3, 1) := by decide +kernel
theorem dX5_leastFrom_18 : decode cX5_leastFrom 18 = .ok (.iaload, 1) := by decide +kernel
theorem dX5_leastFrom_19 : decode cX5_leastFrom 19 = .ok (.iadd, 1) := by decide +kernel
theorem dX5_leastFrom_20 : decode cX5_leastFrom 20 = .ok (.istore_n 2, 1) := by decide +kernel
theorem dX5_leastFrom_21 : decode cX5_leastFrom 21 = .ok (.iinc 3 1, 3) := by decide +kernel
theorem dX5_leastFrom_24 : decode cX5_leastFrom 24 = .ok (.goto (-20), 3) := by decide +kernel
theorem dX5_leastFrom_27 : decode cX5_leastFrom 27 = .ok (.iload_n 2, 1) := by decide +kernel
theorem dX5_leastFrom_28 : decode cX5_leastFrom 28 = .ok (.ireturn, 1) := by decide +kernel
set_option maxHeartbeats 4000000 in
set_option maxRecDepth 100000 in
theorem t_X5_leastFrom (l : Launch) (dC : Nat → ClassId) (dI : Nat → Nat → Nat) (dA : Nat → ClassId) (L : List Nat) (h : hx_h) (sz : Nat) (x : Nat) (i1 : Int32) (hT : hx_T T_tb L h) (gx : hx_g L h x 5) (hi1 : 0 ≤ i1.toInt ∧ i1.toInt ≤ 5) : Met l yX5_leastFrom (Cond.code yX5_leastFrom cX5_leastFrom 4 (some .int) :: hx_all) ({ frames := 0, cells := 0, slots := 0, locals := 0 }) (va_Pc [.ref x, .int i1] (hx_B T_tb (P_ty dA) (dC, dI) vwCl L h sz)) (va_Qi (fun (r : Int32) (u : List Nat × hx_h) => (True) ∧ hx_T T_tb u.1 u.2 ∧ hx_S T_tb [] L h u.1 u.2) (hx_E T_tb (P_ty dA) (dC, dI) vwCl (hx_A L sz)) (hx_A L sz)) 0 0 (hx_A L sz) := by
  refine hx_met (lv := [(0, .ref x), (1, .int i1)]) (by decide +kernel) rfl (Nat.le_of_ble_eq_true rfl) rfl ?_
  intro p e s m below meth c hx hb hml hr hlk hts0 hown hin hsz hW ls hl
  have hts : ∀ w ∈ hx_all, w.before _ s = true := fun w hw => hts0 w (List.mem_cons_of_mem _ hw)
  have hown : s.vm.findClass "SmallCourt$Plan" = some m.cls := hown
  have hM : hx_S T_tb [] L h L h := hx_S.rf
  refine lv_iconst (v := 0) hx hb dX5_leastFrom_0 (by decide) ?_
  refine lv_istore_n (lv' := [(2, .int (0 : Int32)), (0, .ref x), (1, .int i1)]) hx hb dX5_leastFrom_1 rfl hl (by decide) rfl (fun ls hl => ?_)
  refine lv_iload_n hx hb dX5_leastFrom_2 rfl (lv_at hl 2 rfl) ?_
  refine lv_istore_n (lv' := [(3, .int i1), (2, .int (0 : Int32)), (0, .ref x), (1, .int i1)]) hx hb dX5_leastFrom_3 rfl hl (by decide) rfl (fun ls hl => ?_)
  have loop4 : ∀ (n4 : Nat) (iv4_3 iv4_2 : Int32) (H : Heap) (locs : List Loc) (hL1 : List Nat) (hl1 : hx_h) (ls : Array Slot), 0 ≤ iv4_3.toInt → iv4_3.toInt ≤ 5 → 5 < iv4_3.toInt + n4 → hx_W T_tb (P_ty dA) (dC, dI) vwCl (hx_A L sz) s.heap hL1 hl1 s H locs → hx_T T_tb hL1 hl1 → hx_S T_tb [] L h hL1 hl1 → hx_g hL1 hl1 x 5 → lv_has ls 4 [(3, .int iv4_3), (2, .int iv4_2), (0, .ref x), (1, .int i1)] → W p l e ({ frames := 0, cells := 0, slots := 0, locals := 0 }) s m ([.ref x, .int i1] : List Value).toArray below meth c H locs 0 0 (MQ below (va_Qi (fun (r : Int32) (u : List Nat × hx_h) => (True) ∧ hx_T T_tb u.1 u.2 ∧ hx_S T_tb [] L h u.1 u.2) (hx_E T_tb (P_ty dA) (dC, dI) vwCl (hx_A L sz)) (hx_A L sz)) ([.ref x, .int i1] : List Value).toArray s 0 0 (hx_A L sz)) (F0 m 4 ls []) := by
    intro n4
    induction n4 with
    | zero => intro iv4_3 iv4_2 H locs hL1 hl1 ls bl4_3 bu4_3 hn4; exfalso; omega
    | succ n4 ih4 =>
      intro iv4_3 iv4_2 H locs hL1 hl1 ls bl4_3 bu4_3 hn4 hW hT hM  gx  hl
      refine lv_iload_n hx hb dX5_leastFrom_4 rfl (lv_at hl 0 rfl) ?_
      refine lv_aload_n hx hb dX5_leastFrom_5 rfl (lv_at hl 2 rfl) ?_
      refine hx_geti hx hb hts hC_5 hown hW hT gx tt_5 0 (by decide) rfl kw_258 ⟨rfl, rfl, rfl⟩ dX5_leastFrom_6 (fun x_1 ex_1 lx_1 ux_1 => ?_)
      have fx_1 := ex_1.symm
      refine hb_icmp_ge (zx := iv4_3.toInt) (zy := x_1.toInt) (tgt := 27) hx hb rfl rfl dX5_leastFrom_9 (by decide) (fun c_2 => ?_) (fun c_2 => ?_)
      · skip
        refine lv_iload_n hx hb dX5_leastFrom_27 rfl (lv_at hl 1 rfl) ?_
        exact hx_reti hx hb hr hlk hW ⟨trivial, hT, hM⟩ dX5_leastFrom_28
      · skip
        refine lv_iload_n hx hb dX5_leastFrom_12 rfl (lv_at hl 1 rfl) ?_
        refine lv_aload_n hx hb dX5_leastFrom_13 rfl (lv_at hl 2 rfl) ?_
        refine hx_getn hx hb hts hC_5 hown hW hT gx tt_5 7 (by decide) rfl kw_270 ⟨rfl, rfl, rfl⟩ dX5_leastFrom_14 (fun q_3 fq_3 gq_3 => ?_)
        refine lv_iload_n hx hb dX5_leastFrom_17 rfl (lv_at hl 0 rfl) ?_
        refine hx_iald hx hb hW hT gq_3 tt_32 rfl ⟨by omega, by omega⟩ dX5_leastFrom_18 (fun x_4 ex_4 lx_4 ux_4 => ?_)
        refine lv_iadd hx hb dX5_leastFrom_19 ?_
        have rg_5 := i32_r iv4_2
        have rg_6 := i32_r x_4
        refine lv_topi (fun x_7 ex_7 => ?_)
        refine lv_istore_n (lv' := [(2, .int x_7), (3, .int iv4_3), (0, .ref x), (1, .int i1)]) hx hb dX5_leastFrom_20 rfl hl (by decide) rfl (fun ls hl => ?_)
        obtain ⟨x_8, ex_8⟩ : ∃ y : Int32, y = iv4_3 + Int32.ofInt 1 := ⟨_, rfl⟩
        have rg_9 := i32_r iv4_3
        have zx_8 : x_8.toInt = iv4_3.toInt + (1) := by rw [ex_8]; exact i32_add rfl (by decide) (by omega) (by omega)
        refine lv_iinc (v := x_8) (lv' := [(3, .int x_8), (2, .int x_7), (0, .ref x), (1, .int i1)]) hx hb dX5_leastFrom_21 hl (k := 1) rfl ex_8.symm (by decide) rfl (fun ls hl => ?_)
        refine lv_goto (tgt := 4) hx hb dX5_leastFrom_24 (by decide) ?_
        exact ih4 x_8 x_7 _ _ hL1 hl1 ls (by omega) (by omega) (by omega) hW hT hM  gx  (lv_sub hl [0, 1, 2, 3] rfl)
  exact loop4 6 i1 (0 : Int32) _ _ L h ls (by omega) (by omega) (by omega) hW hT hM  gx  hl

theorem dX5_clear_0 : decode cX5_clear 0 = .ok (.aload_n 0, 1) := by decide +kernel
theorem dX5_clear_1 : decode cX5_clear 1 = .ok (.iconst 0, 1) := by decide +kernel
theorem dX5_clear_2 : decode cX5_clear 2 = .ok (.putfield 33, 3) := by decide +kernel
theorem dX5_clear_5 : decode cX5_clear 5 = .ok (.aload_n 0, 1) := by decide +kernel
theorem dX5_clear_6 : decode cX5_clear 6 = .ok (.iload_n 1, 1) := by decide +kernel
theorem dX5_clear_7 : decode cX5_clear 7 = .ok (.putfield 37, 3) := by decide +kernel
theorem dX5_clear_10 : decode cX5_clear 10 = .ok (.aload_n 0, 1) := by decide +kernel
theorem dX5_clear_11 : decode cX5_clear 11 = .ok (.iload_n 2, 1) := by decide +kernel
theorem dX5_clear_12 : decode cX5_clear 12 = .ok (.putfield 40, 3) := by decide +kernel
theorem dX5_clear_15 : decode cX5_clear 15 = .ok (.return_, 1) := by decide +kernel
set_option maxHeartbeats 4000000 in
set_option maxRecDepth 100000 in
theorem t_X5_clear (l : Launch) (dC : Nat → ClassId) (dI : Nat → Nat → Nat) (dA : Nat → ClassId) (L : List Nat) (h : hx_h) (sz : Nat) (x : Nat) (i1 : Int32) (i2 : Int32) (hT : hx_T T_tb L h) (gx : hx_g L h x 5)  : Met l yX5_clear (Cond.code yX5_clear cX5_clear 3 none :: hx_all) ({ frames := 0, cells := 0, slots := 0, locals := 0 }) (va_Pc [.ref x, .int i1, .int i2] (hx_B T_tb (P_ty dA) (dC, dI) vwCl L h sz)) (va_Qv (fun (u : List Nat × hx_h) => hx_T T_tb u.1 u.2 ∧ hx_S T_tb [(5, 0), (5, 9), (5, 10)] L h u.1 u.2) (hx_E T_tb (P_ty dA) (dC, dI) vwCl (hx_A L sz)) (hx_A L sz)) 0 0 (hx_A L sz) := by
  refine hx_met (lv := [(0, .ref x), (1, .int i1), (2, .int i2)]) (by decide +kernel) rfl (Nat.le_of_ble_eq_true rfl) rfl ?_
  intro p e s m below meth c hx hb hml hr hlk hts0 hown hin hsz hW ls hl
  have hts : ∀ w ∈ hx_all, w.before _ s = true := fun w hw => hts0 w (List.mem_cons_of_mem _ hw)
  have hown : s.vm.findClass "SmallCourt$Plan" = some m.cls := hown
  have hM : hx_S T_tb [(5, 0), (5, 9), (5, 10)] L h L h := hx_S.rf
  refine lv_aload_n hx hb dX5_clear_0 rfl (lv_at hl 0 rfl) ?_
  refine lv_iconst (v := 0) hx hb dX5_clear_1 (by decide) ?_
  refine hx_puti hx hb hts hC_5 hown hW hT (hx_S.rf (M := [(5, 0)])) gx tt_5 0 (by decide) rfl kw_258 ⟨rfl, rfl, rfl⟩ rfl (x := (0 : Int32)) (by decide) rfl rfl rfl (List.mem_singleton.mpr rfl) dX5_clear_2 (fun H locs h_1 eh_1 hW hT hs => ?_)
  replace hM := hM.tr (hs.mono (by decide))
  replace gx := gx.S hs
  have f_2 : h_1.2.1 x 0 = (0 : Int32) := by rw [eh_1]; exact hx_pi_at _ _ _ _
  refine lv_aload_n hx hb dX5_clear_5 rfl (lv_at hl 0 rfl) ?_
  refine lv_iload_n hx hb dX5_clear_6 rfl (lv_at hl 1 rfl) ?_
  refine hx_puti hx hb hts hC_5 hown hW hT (hx_S.rf (M := [(5, 9)])) gx tt_5 9 (by decide) rfl kw_272 ⟨rfl, rfl, rfl⟩ rfl (x := i1) (i32_r _) rfl rfl rfl (List.mem_singleton.mpr rfl) dX5_clear_7 (fun H locs h_3 eh_3 hW hT hs => ?_)
  replace f_2 := (hs.o gx trivial rfl).1.trans f_2
  replace hM := hM.tr (hs.mono (by decide))
  replace gx := gx.S hs
  have f_4 : h_3.2.1 x 9 = i1 := by rw [eh_3]; exact hx_pi_at _ _ _ _
  refine lv_aload_n hx hb dX5_clear_10 rfl (lv_at hl 0 rfl) ?_
  refine lv_iload_n hx hb dX5_clear_11 rfl (lv_at hl 2 rfl) ?_
  refine hx_puti hx hb hts hC_5 hown hW hT (hx_S.rf (M := [(5, 10)])) gx tt_5 10 (by decide) rfl kw_273 ⟨rfl, rfl, rfl⟩ rfl (x := i2) (i32_r _) rfl rfl rfl (List.mem_singleton.mpr rfl) dX5_clear_12 (fun H locs h_5 eh_5 hW hT hs => ?_)
  replace f_2 := (hs.o gx trivial rfl).1.trans f_2
  replace f_4 := (hs.o gx trivial rfl).1.trans f_4
  replace hM := hM.tr (hs.mono (by decide))
  replace gx := gx.S hs
  have f_6 : h_5.2.1 x 10 = i2 := by rw [eh_5]; exact hx_pi_at _ _ _ _
  exact hx_retv hx hb hr hlk hW ⟨hT, hM⟩ dX5_clear_15
