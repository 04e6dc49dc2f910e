theorem dX10_withoutProof_0 : decode cX10_withoutProof 0 = .ok (.aload_n 0, 1) := by decide +kernel
theorem dX10_withoutProof_1 : decode cX10_withoutProof 1 = .ok (.iconst 0, 1) := by decide +kernel
theorem dX10_withoutProof_2 : decode cX10_withoutProof 2 = .ok (.iconst 2, 1) := by decide +kernel
theorem dX10_withoutProof_3 : decode cX10_withoutProof 3 = .ok (.iconst 1, 1) := by decide +kernel
theorem dX10_withoutProof_4 : decode cX10_withoutProof 4 = .ok (.invokestatic 280, 3) := by decide +kernel
theorem dX10_withoutProof_7 : decode cX10_withoutProof 7 = .ok (.invokevirtual 284, 3) := by decide +kernel
theorem dX10_withoutProof_10 : decode cX10_withoutProof 10 = .ok (.aload_n 0, 1) := by decide +kernel
theorem dX10_withoutProof_11 : decode cX10_withoutProof 11 = .ok (.iconst 1, 1) := by decide +kernel
theorem dX10_withoutProof_12 : decode cX10_withoutProof 12 = .ok (.iconst 2, 1) := by decide +kernel
theorem dX10_withoutProof_13 : decode cX10_withoutProof 13 = .ok (.iconst 0, 1) := by decide +kernel
theorem dX10_withoutProof_14 : decode cX10_withoutProof 14 = .ok (.invokestatic 280, 3) := by decide +kernel
theorem dX10_withoutProof_17 : decode cX10_withoutProof 17 = .ok (.invokevirtual 284, 3) := by decide +kernel
theorem dX10_withoutProof_20 : decode cX10_withoutProof 20 = .ok (.aload_n 0, 1) := by decide +kernel
theorem dX10_withoutProof_21 : decode cX10_withoutProof 21 = .ok (.iconst 1, 1) := by decide +kernel
theorem dX10_withoutProof_22 : decode cX10_withoutProof 22 = .ok (.invokevirtual 284, 3) := by decide +kernel
theorem dX10_withoutProof_25 : decode cX10_withoutProof 25 = .ok (.return_, 1) := by decide +kernel
theorem dX10_keepsProof_0 : decode cX10_keepsProof 0 = .ok (.aload_n 0, 1) := by decide +kernel
theorem dX10_keepsProof_1 : decode cX10_keepsProof 1 = .ok (.getfield 16, 3) := by decide +kernel
theorem dX10_keepsProof_4 : decode cX10_keepsProof 4 = .ok (.iload_n 1, 1) := by decide +kernel
theorem dX10_keepsProof_5 : decode cX10_keepsProof 5 = .ok (.aload_n 0, 1) := by decide +kernel
theorem dX10_keepsProof_6 : decode cX10_keepsProof 6 = .ok (.getfield 262, 3) := by decide +kernel
theorem dX10_keepsProof_9 : decode cX10_keepsProof 9 = .ok (.iastore, 1) := by decide +kernel
theorem dX10_keepsProof_10 : decode cX10_keepsProof 10 = .ok (.iconst 0, 1) := by decide +kernel
theorem dX10_keepsProof_11 : decode cX10_keepsProof 11 = .ok (.istore_n 2, 1) := by decide +kernel
theorem dX10_keepsProof_12 : decode cX10_keepsProof 12 = .ok (.iload_n 2, 1) := by decide +kernel
theorem dX10_keepsProof_13 : decode cX10_keepsProof 13 = .ok (.aload_n 0, 1) := by decide +kernel
theorem dX10_keepsProof_14 : decode cX10_keepsProof 14 = .ok (.getfield 262, 3) := by decide +kernel
theorem dX10_keepsProof_17 : decode cX10_keepsProof 17 = .ok (.if_icmp .ge 27, 3) := by decide +kernel
theorem dX10_keepsProof_20 : decode cX10_keepsProof 20 = .ok (.aload_n 0, 1) := by decide +kernel
theorem dX10_keepsProof_21 : decode cX10_keepsProof 21 = .ok (.getfield 19, 3) := by decide +kernel
theorem dX10_keepsProof_24 : decode cX10_keepsProof 24 = .ok (.sipush 128, 3) := by decide +kernel
theorem dX10_keepsProof_27 : decode cX10_keepsProof 27 = .ok (.iload_n 1, 1) := by decide +kernel
theorem dX10_keepsProof_28 : decode cX10_keepsProof 28 = .ok (.imul, 1) := by decide +kernel
theorem dX10_keepsProof_29 : decode cX10_keepsProof 29 = .ok (.iload_n 2, 1) := by decide +kernel
theorem dX10_keepsProof_30 : decode cX10_keepsProof 30 = .ok (.iadd, 1) := by decide +kernel
theorem dX10_keepsProof_31 : decode cX10_keepsProof 31 = .ok (.aload_n 0, 1) := by decide +kernel
theorem dX10_keepsProof_32 : decode cX10_keepsProof 32 = .ok (.getfield 29, 3) := by decide +kernel
theorem dX10_keepsProof_35 : decode cX10_keepsProof 35 = .ok (.iload_n 2, 1) := by decide +kernel
theorem dX10_keepsProof_36 : decode cX10_keepsProof 36 = .ok (.iaload, 1) := by decide +kernel
theorem dX10_keepsProof_37 : decode cX10_keepsProof 37 = .ok (.iastore, 1) := by decide +kernel
theorem dX10_keepsProof_38 : decode cX10_keepsProof 38 = .ok (.iinc 2 1, 3) := by decide +kernel
theorem dX10_keepsProof_41 : decode cX10_keepsProof 41 = .ok (.goto (-29), 3) := by decide +kernel
theorem dX10_keepsProof_44 : decode cX10_keepsProof 44 = .ok (.return_, 1) := by decide +kernel
set_option maxHeartbeats 4000000 in
set_option maxRecDepth 100000 in
theorem t_X10_keepsProof (l : Launch) (dC : Nat → ClassId) (dI : Nat → Nat → Nat) (dA : Nat → ClassId) (L : List Nat) (h : hx_h) (sz : Nat) (x : Nat) (i1 : Int32) (hT : hx_T T_tb L h) (gx : hx_g L h x 10) (qs : Nat) (gqs : hx_g L h qs 55) (f_x_15 : h.2.2 x 15 = some qs) (qn : Nat) (gqn : hx_g L h qn 51) (f_x_4 : h.2.2 x 4 = some qn) (qp : Nat) (gqp : hx_g L h qp 52) (f_x_5 : h.2.2 x 5 = some qp) (sf : Nat → Int32) (af_qs : h.2.1 qs = sf) (psf : Nat → Int32) (af_qn : h.2.1 qn = psf) (prf : Nat → Int32) (af_qp : h.2.1 qp = prf) (st0 : Int32) (f_x_14 : h.2.1 x 14 = st0) (hi1 : 0 ≤ i1.toInt ∧ i1.toInt ≤ 8) : Met l yX10_keepsProof (Cond.code yX10_keepsProof cX10_keepsProof 3 none :: hx_all) ({ frames := 0, cells := 0, slots := 0, locals := 0 }) (va_Pc [.ref x, .int i1] (hx_B T_tb (P_ty dA) (dC, dI) vwCl L h sz)) (va_Qv (fun (u : List Nat × hx_h) => (∃ (psf1 : Nat → Int32) (prf1 : Nat → Int32), u.2.2.1 qn = psf1 ∧ u.2.2.1 qp = prf1 ∧ (psf1 = hx_up psf i1.toNatClampNeg st0 ∧ hx_kp sf prf prf1 i1.toInt st0.toInt)) ∧ hx_T T_tb u.1 u.2 ∧ hx_S T_tb [(51, 0), (52, 0)] L h u.1 u.2) (hx_E T_tb (P_ty dA) (dC, dI) vwCl (hx_A L sz)) (hx_A L sz)) 0 0 (hx_A L sz) := by
  refine hx_met (lv := [(0, .ref x), (1, .int i1)]) (by decide +kernel) rfl (Nat.le_of_ble_eq_true rfl) rfl ?_
  intro p e s m below meth c hx hb hml hr hlk hts0 hown hin hsz hW ls hl
  have hts : ∀ w ∈ hx_all, w.before _ s = true := fun w hw => hts0 w (List.mem_cons_of_mem _ hw)
  have hown : s.vm.findClass "SmallCourtModel" = some m.cls := hown
  have hM : hx_S T_tb [(51, 0), (52, 0)] L h L h := hx_S.rf
  have b_st0 := hT.gi gx tt_10 (k := 14) rfl
  rw [f_x_14] at b_st0
  have b_st0 : 0 ≤ st0.toInt ∧ st0.toInt ≤ 128 := b_st0
  refine lv_aload_n hx hb dX10_keepsProof_0 rfl (lv_at hl 0 rfl) ?_
  refine hk_getr hx hb hts hC_10 hown hW gx tt_10 4 (by decide) rfl kw_1147 ⟨rfl, rfl, rfl⟩ f_x_4 dX10_keepsProof_1 ?_
  refine lv_iload_n hx hb dX10_keepsProof_4 rfl (lv_at hl 1 rfl) ?_
  refine lv_aload_n hx hb dX10_keepsProof_5 rfl (lv_at hl 0 rfl) ?_
  refine hk_geti hx hb hts hC_10 hown hW gx tt_10 14 (by decide) rfl kw_1157 ⟨rfl, rfl, rfl⟩ f_x_14 dX10_keepsProof_6 ?_
  have af_qnO := af_qn
  refine hx_iast hx hb hW hT (hx_S.rf (M := [(51, 0)])) gqn tt_51 rfl ⟨by omega, by omega⟩ rfl ⟨by omega, by omega⟩ (List.mem_singleton.mpr rfl) dX10_keepsProof_9 (fun H locs h_1 eh_1 hW hT hs => ?_)
  have f_x_15 := (hs.o gx trivial rfl).2.trans f_x_15
  have f_x_4 := (hs.o gx trivial rfl).2.trans f_x_4
  have f_x_5 := (hs.o gx trivial rfl).2.trans f_x_5
  have f_x_14 := (hs.o gx trivial rfl).1.trans f_x_14
  have af_qs : h_1.2.1 qs = sf := (funext fun j => (hs.a gqs rfl j).1).trans af_qs
  have af_qp : h_1.2.1 qp = prf := (funext fun j => (hs.a gqp rfl j).1).trans af_qp
  have hM := hM.tr (hs.mono (by decide))
  have gx := gx.S hs
  have gqs := gqs.S hs
  have gqn := gqn.S hs
  have gqp := gqp.S hs
  obtain ⟨fa_2, dfa_2⟩ : ∃ g : Nat → Int32, g = hx_up psf i1.toNatClampNeg st0 := ⟨_, rfl⟩
  have nfa_2 : h_1.2.1 qn = fa_2 := by rw [eh_1, dfa_2, ← af_qnO]; exact hx_pi_fun _ _ _ _
  refine lv_iconst (v := 0) hx hb dX10_keepsProof_10 (by decide) ?_
  refine lv_istore_n (lv' := [(2, .int (0 : Int32)), (0, .ref x), (1, .int i1)]) hx hb dX10_keepsProof_11 rfl hl (by decide) rfl (fun ls hl => ?_)
  have loop12 : ∀ (n12 : Nat) (iv12_2 : Int32) (ia12_qp : Nat → Int32) (H : Heap) (locs : List Loc) (hL1 : List Nat) (hl1 : hx_h), 0 ≤ iv12_2.toInt → iv12_2.toInt ≤ 128 → (hx_kp sf prf ia12_qp i1.toInt iv12_2.toInt) → (iv12_2.toInt ≤ st0.toInt) → ∀ (ls : Array Slot), 128 - iv12_2.toInt < (n12 : Int) → hx_W T_tb (P_ty dA) (dC, dI) vwCl (hx_A L sz) s.heap hL1 hl1 s H locs → hx_T T_tb hL1 hl1 → hx_S T_tb [(51, 0), (52, 0)] L h hL1 hl1 → hl1.2.2 x 15 = some qs → hl1.2.2 x 4 = some qn → hl1.2.2 x 5 = some qp → hl1.2.1 x 14 = st0 → hx_g hL1 hl1 x 10 → hx_g hL1 hl1 qs 55 → hx_g hL1 hl1 qn 51 → hx_g hL1 hl1 qp 52 → hl1.2.1 qp = ia12_qp → hl1.2.1 qs = sf → hl1.2.1 qn = fa_2 → lv_has ls 3 [(2, .int iv12_2), (0, .ref x), (1, .int i1)] → W p l e ({ frames := 0, cells := 0, slots := 0, locals := 0 }) s m ([.ref x, .int i1] : List Value).toArray below meth c H locs 0 0 (MQ below (va_Qv (fun (u : List Nat × hx_h) => (∃ (psf1 : Nat → Int32) (prf1 : Nat → Int32), u.2.2.1 qn = psf1 ∧ u.2.2.1 qp = prf1 ∧ (psf1 = hx_up psf i1.toNatClampNeg st0 ∧ hx_kp sf prf prf1 i1.toInt st0.toInt)) ∧ hx_T T_tb u.1 u.2 ∧ hx_S T_tb [(51, 0), (52, 0)] L h u.1 u.2) (hx_E T_tb (P_ty dA) (dC, dI) vwCl (hx_A L sz)) (hx_A L sz)) ([.ref x, .int i1] : List Value).toArray s 0 0 (hx_A L sz)) (F0 m 12 ls []) := by
    intro n12
    induction n12 with
    | zero => intro iv12_2 ia12_qp H locs hL1 hl1 bliv12_2 buiv12_2 vi12_0 vi12_1 ls hn12; exfalso; omega
    | succ n12 ih12 =>
      intro iv12_2 ia12_qp H locs hL1 hl1 bliv12_2 buiv12_2 vi12_0 vi12_1 ls hn12 hW hT hM f_x_15 f_x_4 f_x_5 f_x_14 gx gqs gqn gqp nia12_qp af_qs nfa_2 hl
      refine lv_iload_n hx hb dX10_keepsProof_12 rfl (lv_at hl 0 rfl) ?_
      refine lv_aload_n hx hb dX10_keepsProof_13 rfl (lv_at hl 1 rfl) ?_
      refine hk_geti hx hb hts hC_10 hown hW gx tt_10 14 (by decide) rfl kw_1157 ⟨rfl, rfl, rfl⟩ f_x_14 dX10_keepsProof_14 ?_
      refine hb_icmp_ge (zx := iv12_2.toInt) (zy := st0.toInt) (tgt := 44) hx hb rfl rfl dX10_keepsProof_17 (by decide) (fun c_3 => ?_) (fun c_3 => ?_)
      · skip
        exact hx_retv hx hb hr hlk hW ⟨⟨fa_2, ia12_qp, nfa_2, nia12_qp, ⟨dfa_2, (by have e0 : iv12_2.toInt = st0.toInt := (by omega); rw [← e0]; exact vi12_0)⟩⟩, hT, hM⟩ dX10_keepsProof_44
      · skip
        refine lv_aload_n hx hb dX10_keepsProof_20 rfl (lv_at hl 1 rfl) ?_
        refine hk_getr hx hb hts hC_10 hown hW gx tt_10 5 (by decide) rfl kw_1148 ⟨rfl, rfl, rfl⟩ f_x_5 dX10_keepsProof_21 ?_
        refine lv_sipush (v := 128) hx hb dX10_keepsProof_24 (by decide) ?_
        refine lv_iload_n hx hb dX10_keepsProof_27 rfl (lv_at hl 2 rfl) ?_
        refine lv_imul hx hb dX10_keepsProof_28 ?_
        refine lv_topi (fun x_4 ex_4 => ?_)
        have zx_4 : x_4.toInt = 128 * i1.toInt := by rw [ex_4]; exact i32_mul (by decide) rfl rfl (by omega) (by omega)
        refine lv_iload_n hx hb dX10_keepsProof_29 rfl (lv_at hl 0 rfl) ?_
        refine lv_iadd hx hb dX10_keepsProof_30 ?_
        have rg_5 := i32_r x_4
        have rg_6 := i32_r iv12_2
        refine lv_topi (fun x_7 ex_7 => ?_)
        have zx_7 : x_7.toInt = x_4.toInt + iv12_2.toInt := by rw [ex_7]; exact i32_add rfl rfl (by omega) (by omega)
        refine lv_aload_n hx hb dX10_keepsProof_31 rfl (lv_at hl 1 rfl) ?_
        refine hk_getr hx hb hts hC_10 hown hW gx tt_10 15 (by decide) rfl kw_1158 ⟨rfl, rfl, rfl⟩ f_x_15 dX10_keepsProof_32 ?_
        refine lv_iload_n hx hb dX10_keepsProof_35 rfl (lv_at hl 0 rfl) ?_
        refine hx_iald hx hb hW hT gqs tt_55 rfl ⟨by omega, by omega⟩ dX10_keepsProof_36 (fun x_8 ex_8 lx_8 ux_8 => ?_)
        have ax_8 : x_8 = sf iv12_2.toNatClampNeg := ex_8.trans (congrFun af_qs _)
        have nia12_qpO := nia12_qp
        refine hx_iast hx hb hW hT (hx_S.rf (M := [(52, 0)])) gqp tt_52 rfl ⟨by omega, by omega⟩ rfl (i32_r _) (List.mem_singleton.mpr rfl) dX10_keepsProof_37 (fun H locs h_9 eh_9 hW hT hs => ?_)
        have f_x_15 := (hs.o gx trivial rfl).2.trans f_x_15
        have f_x_4 := (hs.o gx trivial rfl).2.trans f_x_4
        have f_x_5 := (hs.o gx trivial rfl).2.trans f_x_5
        have f_x_14 := (hs.o gx trivial rfl).1.trans f_x_14
        have af_qs : h_9.2.1 qs = sf := (funext fun j => (hs.a gqs rfl j).1).trans af_qs
        have nfa_2 : h_9.2.1 qn = fa_2 := (funext fun j => (hs.a gqn rfl j).1).trans nfa_2
        have ex_8 := ex_8.trans (hs.a gqs rfl _).1.symm
        have hM := hM.tr (hs.mono (by decide))
        have gx := gx.S hs
        have gqs := gqs.S hs
        have gqn := gqn.S hs
        have gqp := gqp.S hs
        obtain ⟨fa_10, dfa_10⟩ : ∃ g : Nat → Int32, g = hx_up ia12_qp x_7.toNatClampNeg x_8 := ⟨_, rfl⟩
        have nfa_10 : h_9.2.1 qp = fa_10 := by rw [eh_9, dfa_10, ← nia12_qpO]; exact hx_pi_fun _ _ _ _
        obtain ⟨x_11, ex_11⟩ : ∃ y : Int32, y = iv12_2 + Int32.ofInt 1 := ⟨_, rfl⟩
        have zx_11 : x_11.toInt = iv12_2.toInt + (1) := by rw [ex_11]; exact i32_add rfl (by decide) (by omega) (by omega)
        refine lv_iinc (v := x_11) (lv' := [(2, .int x_11), (0, .ref x), (1, .int i1)]) hx hb dX10_keepsProof_38 hl (k := 0) rfl ex_11.symm (by decide) rfl (fun ls hl => ?_)
        refine lv_goto (tgt := 12) hx hb dX10_keepsProof_41 (by decide) ?_
        exact ih12 x_11 fa_10 _ _ hL1 h_9 (by omega) (by omega) (hx_kp_s vi12_0 (by omega) (by omega) (by omega) ax_8 rfl dfa_10 zx_11) (by omega) ls (by omega) hW hT hM f_x_15 f_x_4 f_x_5 f_x_14 gx gqs gqn gqp nfa_10 af_qs nfa_2 (lv_sub hl [0, 1, 2] rfl)
  have zk_0 : (0 : Int32).toInt = 0 := by decide
  exact loop12 129 (0 : Int32) prf _ _ L h_1 (by decide) (by decide) hx_kp0 (by omega) ls (by omega) hW hT hM f_x_15 f_x_4 f_x_5 f_x_14 gx gqs gqn gqp af_qp af_qs nfa_2 hl
