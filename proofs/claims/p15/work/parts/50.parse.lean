theorem dX10_compareOf_0 : decode cX10_compareOf 0 = .ok (.ldc_w 268, 3) := by decide +kernel
theorem dX10_compareOf_3 : decode cX10_compareOf 3 = .ok (.iconst 1, 1) := by decide +kernel
theorem dX10_compareOf_4 : decode cX10_compareOf 4 = .ok (.iload_n 0, 1) := by decide +kernel
theorem dX10_compareOf_5 : decode cX10_compareOf 5 = .ok (.iadd, 1) := by decide +kernel
theorem dX10_compareOf_6 : decode cX10_compareOf 6 = .ok (.imul, 1) := by decide +kernel
theorem dX10_compareOf_7 : decode cX10_compareOf 7 = .ok (.ldc_w 269, 3) := by decide +kernel
theorem dX10_compareOf_10 : decode cX10_compareOf 10 = .ok (.iload_n 1, 1) := by decide +kernel
theorem dX10_compareOf_11 : decode cX10_compareOf 11 = .ok (.imul, 1) := by decide +kernel
theorem dX10_compareOf_12 : decode cX10_compareOf 12 = .ok (.iadd, 1) := by decide +kernel
theorem dX10_compareOf_13 : decode cX10_compareOf 13 = .ok (.iload_n 2, 1) := by decide +kernel
theorem dX10_compareOf_14 : decode cX10_compareOf 14 = .ok (.iadd, 1) := by decide +kernel
theorem dX10_compareOf_15 : decode cX10_compareOf 15 = .ok (.ireturn, 1) := by decide +kernel
theorem dX10_writes_0 : decode cX10_writes 0 = .ok (.aload_n 0, 1) := by decide +kernel
theorem dX10_writes_1 : decode cX10_writes 1 = .ok (.getfield 29, 3) := by decide +kernel
theorem dX10_writes_4 : decode cX10_writes 4 = .ok (.aload_n 0, 1) := by decide +kernel
theorem dX10_writes_5 : decode cX10_writes 5 = .ok (.getfield 262, 3) := by decide +kernel
theorem dX10_writes_8 : decode cX10_writes 8 = .ok (.iload_n 1, 1) := by decide +kernel
theorem dX10_writes_9 : decode cX10_writes 9 = .ok (.iastore, 1) := by decide +kernel
theorem dX10_writes_10 : decode cX10_writes 10 = .ok (.aload_n 0, 1) := by decide +kernel
theorem dX10_writes_11 : decode cX10_writes 11 = .ok (.dup, 1) := by decide +kernel
theorem dX10_writes_12 : decode cX10_writes 12 = .ok (.getfield 262, 3) := by decide +kernel
theorem dX10_writes_15 : decode cX10_writes 15 = .ok (.iconst 1, 1) := by decide +kernel
theorem dX10_writes_16 : decode cX10_writes 16 = .ok (.iadd, 1) := by decide +kernel
theorem dX10_writes_17 : decode cX10_writes 17 = .ok (.putfield 262, 3) := by decide +kernel
theorem dX10_writes_20 : decode cX10_writes 20 = .ok (.return_, 1) := by decide +kernel
set_option maxHeartbeats 4000000 in
set_option maxRecDepth 100000 in
theorem t_X10_writes (l : Launch) (dC : Nat → ClassId) (dI : Nat → Nat → Nat) (dA : Nat → ClassId) (L : List Nat) (h : hx_h) (sz : Nat) (x : Nat) (i1 : Int32) (hT : hx_T T_tb L h) (gx : hx_g L h x 10) (qs : Nat) (gqs : hx_g L h qs 55) (f_x_15 : h.2.2 x 15 = some qs) (sf : Nat → Int32) (af_qs : h.2.1 qs = sf) (st0 : Int32) (f_x_14 : h.2.1 x 14 = st0) (hst : st0.toInt ≤ 127) : Met l yX10_writes (Cond.code yX10_writes cX10_writes 2 none :: hx_all) ({ frames := 0, cells := 0, slots := 0, locals := 0 }) (va_Pc [.ref x, .int i1] (hx_B T_tb (P_ty dA) (dC, dI) vwCl L h sz)) (va_Qv (fun (u : List Nat × hx_h) => (∃ (st1 : Int32) (sf1 : Nat → Int32), u.2.2.1 x 14 = st1 ∧ u.2.2.1 qs = sf1 ∧ (st1.toInt = st0.toInt + 1 ∧ sf1 = hx_up sf st0.toNatClampNeg i1)) ∧ hx_T T_tb u.1 u.2 ∧ hx_S T_tb [(10, 14), (55, 0)] L h u.1 u.2) (hx_E T_tb (P_ty dA) (dC, dI) vwCl (hx_A L sz)) (hx_A L sz)) 0 0 (hx_A L sz) := by
  refine hx_met (lv := [(0, .ref x), (1, .int i1)]) (by decide +kernel) rfl (Nat.le_of_ble_eq_true rfl) rfl ?_
  intro p e s m below meth c hx hb hml hr hlk hts0 hown hin hsz hW ls hl
  have hts : ∀ w ∈ hx_all, w.before _ s = true := fun w hw => hts0 w (List.mem_cons_of_mem _ hw)
  have hown : s.vm.findClass "SmallCourtModel" = some m.cls := hown
  have hM : hx_S T_tb [(10, 14), (55, 0)] L h L h := hx_S.rf
  have b_st0 := hT.gi gx tt_10 (k := 14) rfl
  rw [f_x_14] at b_st0
  have b_st0 : 0 ≤ st0.toInt ∧ st0.toInt ≤ 128 := b_st0
  refine lv_aload_n hx hb dX10_writes_0 rfl (lv_at hl 0 rfl) ?_
  refine hk_getr hx hb hts hC_10 hown hW gx tt_10 15 (by decide) rfl kw_1158 ⟨rfl, rfl, rfl⟩ f_x_15 dX10_writes_1 ?_
  refine lv_aload_n hx hb dX10_writes_4 rfl (lv_at hl 0 rfl) ?_
  refine hk_geti hx hb hts hC_10 hown hW gx tt_10 14 (by decide) rfl kw_1157 ⟨rfl, rfl, rfl⟩ f_x_14 dX10_writes_5 ?_
  refine lv_iload_n hx hb dX10_writes_8 rfl (lv_at hl 1 rfl) ?_
  have af_qsO := af_qs
  refine hx_iast hx hb hW hT (hx_S.rf (M := [(55, 0)])) gqs tt_55 rfl ⟨by omega, by omega⟩ rfl (i32_r _) (List.mem_singleton.mpr rfl) dX10_writes_9 (fun H locs h_1 eh_1 hW hT hs => ?_)
  have f_x_15 := (hs.o gx trivial rfl).2.trans f_x_15
  have f_x_14 := (hs.o gx trivial rfl).1.trans f_x_14
  have hM := hM.tr (hs.mono (by decide))
  have gx := gx.S hs
  have gqs := gqs.S hs
  obtain ⟨fa_2, dfa_2⟩ : ∃ g : Nat → Int32, g = hx_up sf st0.toNatClampNeg i1 := ⟨_, rfl⟩
  have nfa_2 : h_1.2.1 qs = fa_2 := by rw [eh_1, dfa_2, ← af_qsO]; exact hx_pi_fun _ _ _ _
  refine lv_aload_n hx hb dX10_writes_10 rfl (lv_at hl 0 rfl) ?_
  refine lv_dup hx hb dX10_writes_11 rfl ?_
  refine hk_geti hx hb hts hC_10 hown hW gx tt_10 14 (by decide) rfl kw_1157 ⟨rfl, rfl, rfl⟩ f_x_14 dX10_writes_12 ?_
  refine lv_iconst (v := 1) hx hb dX10_writes_15 (by decide) ?_
  refine lv_iadd hx hb dX10_writes_16 ?_
  have rg_3 := i32_r st0
  refine lv_topi (fun x_4 ex_4 => ?_)
  have zx_4 : x_4.toInt = st0.toInt + 1 := by rw [ex_4]; exact i32_add rfl (by decide) (by omega) (by omega)
  refine hx_puti hx hb hts hC_10 hown hW hT (hx_S.rf (M := [(10, 14)])) gx tt_10 14 (by decide) rfl kw_1157 ⟨rfl, rfl, rfl⟩ rfl (x := x_4) ⟨by omega, by omega⟩ rfl rfl rfl (List.mem_singleton.mpr rfl) dX10_writes_17 (fun H locs h_5 eh_5 hW hT hs => ?_)
  have f_x_15 := (hs.o gx trivial rfl).2.trans f_x_15
  have nfa_2 : h_5.2.1 qs = fa_2 := (funext fun j => (hs.a gqs rfl j).1).trans nfa_2
  have hM := hM.tr (hs.mono (by decide))
  have gx := gx.S hs
  have gqs := gqs.S hs
  have f_6 : h_5.2.1 x 14 = x_4 := by rw [eh_5]; exact hx_pi_at _ _ _ _
  exact hx_retv hx hb hr hlk hW ⟨⟨x_4, fa_2, f_6, nfa_2, ⟨by omega, dfa_2⟩⟩, hT, hM⟩ dX10_writes_20
