
set_option maxHeartbeats 4000000 in
set_option maxRecDepth 100000 in
theorem t_X10_clears_v (l : Launch) (dC : Nat → ClassId) (dI : Nat → Nat → Nat) (dA : Nat → ClassId) (L : List Nat) (h : hx_h) (sz : Nat) (x : Nat) (hT : hx_T T_tb L h) (gx : hx_g L h x 10)  : Met l yX10_clears (Cond.code yX10_clears cX10_clears 1 none :: hx_all) ({ frames := 0, cells := 0, slots := 0, locals := 0 }) (va_Pc [.ref x] (hx_B T_tb (P_ty dA) (dC, dI) vwCl L h sz)) (va_Qv (fun (u : List Nat × hx_h) => (∃ (st1 : Int32) (cp1 : Int32) (op1 : Int32), u.2.2.1 x 14 = st1 ∧ u.2.2.1 x 16 = cp1 ∧ u.2.2.1 x 18 = op1 ∧ (st1.toInt = 0 ∧ cp1.toInt = 0 ∧ op1.toInt = 0)) ∧ hx_T T_tb u.1 u.2 ∧ hx_S T_tb [(10, 14), (10, 16), (10, 18)] L h u.1 u.2) (hx_E T_tb (P_ty dA) (dC, dI) vwCl (hx_A L sz)) (hx_A L sz)) 0 0 (hx_A L sz) := by
  refine hx_met (lv := [(0, .ref x)]) (by decide +kernel) rfl (Nat.le_of_ble_eq_true rfl) rfl ?_
  intro p e s m below meth c hx hb hml hr hlk hts0 hown hin hsz hW ls hl
  have hts : ∀ w ∈ hx_all, w.before _ s = true := fun w hw => hts0 w (List.mem_cons_of_mem _ hw)
  have hown : s.vm.findClass "SmallCourtModel" = some m.cls := hown
  have hM : hx_S T_tb [(10, 14), (10, 16), (10, 18)] L h L h := hx_S.rf
  refine lv_aload_n hx hb dX10_clears_0 rfl (lv_at hl 0 rfl) ?_
  refine lv_iconst (v := 0) hx hb dX10_clears_1 (by decide) ?_
  refine hx_puti hx hb hts hC_10 hown hW hT (hx_S.rf (M := [(10, 14)])) gx tt_10 14 (by decide) rfl kw_1157 ⟨rfl, rfl, rfl⟩ rfl (x := (0 : Int32)) (by decide) rfl rfl rfl (List.mem_singleton.mpr rfl) dX10_clears_2 (fun H locs h_1 eh_1 hW hT hs => ?_)
  have hM := hM.tr (hs.mono (by decide))
  have gx := gx.S hs
  have f_2 : h_1.2.1 x 14 = (0 : Int32) := by rw [eh_1]; exact hx_pi_at _ _ _ _
  refine lv_aload_n hx hb dX10_clears_5 rfl (lv_at hl 0 rfl) ?_
  refine lv_iconst (v := 0) hx hb dX10_clears_6 (by decide) ?_
  refine hx_puti hx hb hts hC_10 hown hW hT (hx_S.rf (M := [(10, 16)])) gx tt_10 16 (by decide) rfl kw_1159 ⟨rfl, rfl, rfl⟩ rfl (x := (0 : Int32)) (by decide) rfl rfl rfl (List.mem_singleton.mpr rfl) dX10_clears_7 (fun H locs h_3 eh_3 hW hT hs => ?_)
  have f_2 := (hs.o gx trivial rfl).1.trans f_2
  have hM := hM.tr (hs.mono (by decide))
  have gx := gx.S hs
  have f_4 : h_3.2.1 x 16 = (0 : Int32) := by rw [eh_3]; exact hx_pi_at _ _ _ _
  refine lv_aload_n hx hb dX10_clears_10 rfl (lv_at hl 0 rfl) ?_
  refine lv_iconst (v := 0) hx hb dX10_clears_11 (by decide) ?_
  refine hx_puti hx hb hts hC_10 hown hW hT (hx_S.rf (M := [(10, 18)])) gx tt_10 18 (by decide) rfl kw_1161 ⟨rfl, rfl, rfl⟩ rfl (x := (0 : Int32)) (by decide) rfl rfl rfl (List.mem_singleton.mpr rfl) dX10_clears_12 (fun H locs h_5 eh_5 hW hT hs => ?_)
  have f_2 := (hs.o gx trivial rfl).1.trans f_2
  have f_4 := (hs.o gx trivial rfl).1.trans f_4
  have hM := hM.tr (hs.mono (by decide))
  have gx := gx.S hs
  have f_6 : h_5.2.1 x 18 = (0 : Int32) := by rw [eh_5]; exact hx_pi_at _ _ _ _
  have zo_0 : (0 : Int32).toInt = 0 := by decide
  have zo_0 : (0 : Int32).toInt = 0 := by decide
  have zo_0 : (0 : Int32).toInt = 0 := by decide
  exact hx_retv hx hb hr hlk hW ⟨⟨(0 : Int32), (0 : Int32), (0 : Int32), f_2, f_4, f_6, ⟨by decide, by decide, by decide⟩⟩, hT, hM⟩ dX10_clears_15

