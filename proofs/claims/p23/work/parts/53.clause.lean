theorem dX10_withoutProof_0 : decode cX10_withoutProof 0 = .ok (.aload_n 0, 1) := by decide +kernel
theorem dX10_withoutProof_1 : decode cX10_withoutProof 1 = .ok (.iconst 0, 1) := by decide +kernel
theorem dX10_withoutProof_2 : decode cX10_withoutProof 2 = .ok (.iconst 2, 1) := by decide +kernel
theorem dX10_withoutProof_3 : decode cX10_withoutProof 3 = .ok (.iconst 1, 1) := by decide +kernel
theorem dX10_withoutProof_4 : decode cX10_withoutProof 4 = .ok (.invokestatic 280, 3) := by decide +kernel
theorem dX10_withoutProof_7 : decode cX10_withoutProof 7 = .ok (.invokevirtual 284, 3) := by decide +kernel
theorem dX10_withoutProof_10 : decode cX10_withoutProof 10 = .ok (.aload_n 0, 1) := by decide +kernel
theorem dX10_withoutProof_11 : decode cX10_withoutProof 11 = .ok (.iconst 1, 1) := by decide +kernel
theorem dX10_withoutProof_12 : decode cX10_withoutProof 12 = .ok (.iconst 2, 1) := by decide +kernel
theorem dX10_withoutProof_13 : decode cX10_withoutProof 13 = .ok (.iconst 0, 1) := by decide +kernel
theorem dX10_withoutProof_14 : decode cX10_withoutProof 14 = .ok (.invokestatic 280, 3) := by decide +kernel
theorem dX10_withoutProof_17 : decode cX10_withoutProof 17 = .ok (.invokevirtual 284, 3) := by decide +kernel
theorem dX10_withoutProof_20 : decode cX10_withoutProof 20 = .ok (.aload_n 0, 1) := by decide +kernel
theorem dX10_withoutProof_21 : decode cX10_withoutProof 21 = .ok (.iconst 1, 1) := by decide +kernel
theorem dX10_withoutProof_22 : decode cX10_withoutProof 22 = .ok (.invokevirtual 284, 3) := by decide +kernel
theorem dX10_withoutProof_25 : decode cX10_withoutProof 25 = .ok (.return_, 1) := by decide +kernel
def wNX10_keepsProof : Nat := 1631967560276263620293977103496424364579209807650050609803477780298071790849547807158689235932806332360471594
theorem wX10_keepsProof_c : hz_cd cX10_keepsProof wNX10_keepsProof 45 := ⟨by decide +kernel, by decide +kernel⟩
theorem dX10_keepsProof_0 : decode cX10_keepsProof 0 = .ok (.aload_n 0, 1) := dw_42 wX10_keepsProof_c rfl
theorem dX10_keepsProof_1 : decode cX10_keepsProof 1 = .ok (.getfield 16, 3) := dw_180 wX10_keepsProof_c 0 16 rfl rfl
theorem dX10_keepsProof_4 : decode cX10_keepsProof 4 = .ok (.iload_n 1, 1) := dw_27 wX10_keepsProof_c rfl
theorem dX10_keepsProof_5 : decode cX10_keepsProof 5 = .ok (.aload_n 0, 1) := dw_42 wX10_keepsProof_c rfl
theorem dX10_keepsProof_6 : decode cX10_keepsProof 6 = .ok (.getfield 262, 3) := dw_180 wX10_keepsProof_c 1 6 rfl rfl
theorem dX10_keepsProof_9 : decode cX10_keepsProof 9 = .ok (.iastore, 1) := dw_79 wX10_keepsProof_c rfl
theorem dX10_keepsProof_10 : decode cX10_keepsProof 10 = .ok (.iconst 0, 1) := dw_3 wX10_keepsProof_c rfl
theorem dX10_keepsProof_11 : decode cX10_keepsProof 11 = .ok (.istore_n 2, 1) := dw_61 wX10_keepsProof_c rfl
theorem dX10_keepsProof_12 : decode cX10_keepsProof 12 = .ok (.iload_n 2, 1) := dw_28 wX10_keepsProof_c rfl
theorem dX10_keepsProof_13 : decode cX10_keepsProof 13 = .ok (.aload_n 0, 1) := dw_42 wX10_keepsProof_c rfl
theorem dX10_keepsProof_14 : decode cX10_keepsProof 14 = .ok (.getfield 262, 3) := dw_180 wX10_keepsProof_c 1 6 rfl rfl
theorem dX10_keepsProof_17 : decode cX10_keepsProof 17 = .ok (.if_icmp .ge 27, 3) := dw_162 wX10_keepsProof_c 0 27 rfl rfl rfl
theorem dX10_keepsProof_20 : decode cX10_keepsProof 20 = .ok (.aload_n 0, 1) := dw_42 wX10_keepsProof_c rfl
theorem dX10_keepsProof_21 : decode cX10_keepsProof 21 = .ok (.getfield 19, 3) := dw_180 wX10_keepsProof_c 0 19 rfl rfl
theorem dX10_keepsProof_24 : decode cX10_keepsProof 24 = .ok (.sipush 128, 3) := dw_17 wX10_keepsProof_c 0 128 rfl rfl rfl
theorem dX10_keepsProof_27 : decode cX10_keepsProof 27 = .ok (.iload_n 1, 1) := dw_27 wX10_keepsProof_c rfl
theorem dX10_keepsProof_28 : decode cX10_keepsProof 28 = .ok (.imul, 1) := dw_104 wX10_keepsProof_c rfl
theorem dX10_keepsProof_29 : decode cX10_keepsProof 29 = .ok (.iload_n 2, 1) := dw_28 wX10_keepsProof_c rfl
theorem dX10_keepsProof_30 : decode cX10_keepsProof 30 = .ok (.iadd, 1) := dw_96 wX10_keepsProof_c rfl
theorem dX10_keepsProof_31 : decode cX10_keepsProof 31 = .ok (.aload_n 0, 1) := dw_42 wX10_keepsProof_c rfl
theorem dX10_keepsProof_32 : decode cX10_keepsProof 32 = .ok (.getfield 29, 3) := dw_180 wX10_keepsProof_c 0 29 rfl rfl
theorem dX10_keepsProof_35 : decode cX10_keepsProof 35 = .ok (.iload_n 2, 1) := dw_28 wX10_keepsProof_c rfl
theorem dX10_keepsProof_36 : decode cX10_keepsProof 36 = .ok (.iaload, 1) := dw_46 wX10_keepsProof_c rfl
theorem dX10_keepsProof_37 : decode cX10_keepsProof 37 = .ok (.iastore, 1) := dw_79 wX10_keepsProof_c rfl
theorem dX10_keepsProof_38 : decode cX10_keepsProof 38 = .ok (.iinc 2 1, 3) := dw_132 wX10_keepsProof_c 2 1 rfl rfl rfl
theorem dX10_keepsProof_41 : decode cX10_keepsProof 41 = .ok (.goto (-29), 3) := dn_167 wX10_keepsProof_c 255 227 rfl (by decide)
theorem dX10_keepsProof_44 : decode cX10_keepsProof 44 = .ok (.return_, 1) := dw_177 wX10_keepsProof_c rfl
set_option maxHeartbeats 4000000 in
set_option maxRecDepth 100000 in
theorem t_X10_keepsProof (l : Launch) (dC : Nat → ClassId) (dI : Nat → Nat → Nat) (dA : Nat → ClassId) (L : List Nat) (h : hx_h) (sz : Nat) (x : Nat) (i1 : Int32) (hT : hx_T T_tb L h) (gx : hx_g L h x 10) (qs : Nat) (gqs : hx_g L h qs 55) (f_x_15 : h.2.2 x 15 = some qs) (qn : Nat) (gqn : hx_g L h qn 51) (f_x_4 : h.2.2 x 4 = some qn) (qp : Nat) (gqp : hx_g L h qp 52) (f_x_5 : h.2.2 x 5 = some qp) (sf : Nat → Int32) (af_qs : h.2.1 qs = sf) (psf : Nat → Int32) (af_qn : h.2.1 qn = psf) (prf : Nat → Int32) (af_qp : h.2.1 qp = prf) (st0 : Int32) (f_x_14 : h.2.1 x 14 = st0) (hi1 : 0 ≤ i1.toInt ∧ i1.toInt ≤ 8) : Met l yX10_keepsProof (Cond.code yX10_keepsProof cX10_keepsProof 3 none :: hx_all) ({ frames := 0, cells := 0, slots := 0, locals := 0 }) (va_Pc [.ref x, .int i1] (hx_B T_tb (P_ty dA) (dC, dI) vwCl L h sz)) (va_Qv (fun (u : List Nat × hx_h) => (∃ (psf1 : Nat → Int32) (prf1 : Nat → Int32), u.2.2.1 qn = psf1 ∧ u.2.2.1 qp = prf1 ∧ (psf1 = hx_up psf i1.toNatClampNeg st0 ∧ hx_kp sf prf prf1 i1.toInt st0.toInt)) ∧ hx_T T_tb u.1 u.2 ∧ hx_S T_tb [(51, 0), (52, 0)] L h u.1 u.2) (hx_E T_tb (P_ty dA) (dC, dI) vwCl (hx_A L sz)) (hx_A L sz)) 0 0 (hx_A L sz) := by
  refine hx_met (lv := [(0, .ref x), (1, .int i1)]) (by decide +kernel) rfl (Nat.le_of_ble_eq_true rfl) rfl ?_
  intro p e s m below meth c hx hb hml hr hlk hts0 hown hin hsz hW ls hl
  have hts : ∀ w ∈ hx_all, w.before _ s = true := fun w hw => hts0 w (List.mem_cons_of_mem _ hw)
  have hown : s.vm.findClass "SmallCourtModel" = some m.cls := hown
  have hM : hx_S T_tb [(51, 0), (52, 0)] L h L h := hx_S.rf
  have b_st0 := hT.gi gx tt_10 (k := 14) rfl
  rw [f_x_14] at b_st0
  have b_st0 : 0 ≤ st0.toInt ∧ st0.toInt ≤ 128 := b_st0
  refine lv_aload_n hx hb dX10_keepsProof_0 rfl (lv_at hl 0 rfl) ?_
  refine hk_getr hx hb hts hC_10 hown hW (gx.S hM) tt_10 4 (by decide) rfl kw_1147 ⟨rfl, rfl, rfl⟩ ((hM.o gx trivial rfl).2.trans f_x_4) dX10_keepsProof_1 ?_
  refine lv_iload_n hx hb dX10_keepsProof_4 rfl (lv_at hl 1 rfl) ?_
  refine lv_aload_n hx hb dX10_keepsProof_5 rfl (lv_at hl 0 rfl) ?_
  refine hk_geti hx hb hts hC_10 hown hW (gx.S hM) tt_10 14 (by decide) rfl kw_1157 ⟨rfl, rfl, rfl⟩ ((hM.o gx trivial rfl).1.trans f_x_14) dX10_keepsProof_6 ?_
  have af_qnO := af_qn
  refine hx_iast hx hb hW hT (hx_S.rf (M := [(51, 0)])) (gqn.S hM) tt_51 rfl ⟨by omega, by omega⟩ rfl ⟨by omega, by omega⟩ (List.mem_singleton.mpr rfl) dX10_keepsProof_9 (fun H locs h_1 eh_1 hW hT hs => ?_)
  replace af_qp : h_1.2.1 qp = prf := (funext fun j => (hs.a (gqp.S hM) rfl j).1).trans af_qp
  replace hM := hM.tr (hs.mono (by decide))
  obtain ⟨fa_2, dfa_2⟩ : ∃ g : Nat → Int32, g = hx_up psf i1.toNatClampNeg st0 := ⟨_, rfl⟩
  have nfa_2 : h_1.2.1 qn = fa_2 := by rw [eh_1, dfa_2, ← af_qnO]; exact hx_pi_fun _ _ _ _
  refine lv_iconst (v := 0) hx hb dX10_keepsProof_10 (by decide) ?_
  refine lv_istore_n (lv' := [(2, .int (0 : Int32)), (0, .ref x), (1, .int i1)]) hx hb dX10_keepsProof_11 rfl hl (by decide) rfl (fun ls hl => ?_)
  have loop12 : ∀ (n12 : Nat) (iv12_2 : Int32) (ia12_qp : Nat → Int32) (H : Heap) (locs : List Loc) (hL1 : List Nat) (hl1 : hx_h), 0 ≤ iv12_2.toInt → iv12_2.toInt ≤ 128 → (hx_kp sf prf ia12_qp i1.toInt iv12_2.toInt) → (iv12_2.toInt ≤ st0.toInt) → ∀ (ls : Array Slot), 128 - iv12_2.toInt < (n12 : Int) → hx_W T_tb (P_ty dA) (dC, dI) vwCl (hx_A L sz) s.heap hL1 hl1 s H locs → hx_T T_tb hL1 hl1 → hx_S T_tb [(51, 0), (52, 0)] L h hL1 hl1 → hl1.2.1 qp = ia12_qp → hl1.2.1 qn = fa_2 → lv_has ls 3 [(2, .int iv12_2), (0, .ref x), (1, .int i1)] → W p l e ({ frames := 0, cells := 0, slots := 0, locals := 0 }) s m ([.ref x, .int i1] : List Value).toArray below meth c H locs 0 0 (MQ below (va_Qv (fun (u : List Nat × hx_h) => (∃ (psf1 : Nat → Int32) (prf1 : Nat → Int32), u.2.2.1 qn = psf1 ∧ u.2.2.1 qp = prf1 ∧ (psf1 = hx_up psf i1.toNatClampNeg st0 ∧ hx_kp sf prf prf1 i1.toInt st0.toInt)) ∧ hx_T T_tb u.1 u.2 ∧ hx_S T_tb [(51, 0), (52, 0)] L h u.1 u.2) (hx_E T_tb (P_ty dA) (dC, dI) vwCl (hx_A L sz)) (hx_A L sz)) ([.ref x, .int i1] : List Value).toArray s 0 0 (hx_A L sz)) (F0 m 12 ls []) := by
    intro n12
    induction n12 with
    | zero => intro iv12_2 ia12_qp H locs hL1 hl1 bliv12_2 buiv12_2 vi12_0 vi12_1 ls hn12; exfalso; omega
    | succ n12 ih12 =>
      intro iv12_2 ia12_qp H locs hL1 hl1 bliv12_2 buiv12_2 vi12_0 vi12_1 ls hn12 hW hT hM  nia12_qp nfa_2 hl
      refine lv_iload_n hx hb dX10_keepsProof_12 rfl (lv_at hl 0 rfl) ?_
      refine lv_aload_n hx hb dX10_keepsProof_13 rfl (lv_at hl 1 rfl) ?_
      refine hk_geti hx hb hts hC_10 hown hW (gx.S hM) tt_10 14 (by decide) rfl kw_1157 ⟨rfl, rfl, rfl⟩ ((hM.o gx trivial rfl).1.trans f_x_14) dX10_keepsProof_14 ?_
      refine hb_icmp_ge (zx := iv12_2.toInt) (zy := st0.toInt) (tgt := 44) hx hb rfl rfl dX10_keepsProof_17 (by decide) (fun c_3 => ?_) (fun c_3 => ?_)
      · skip
        exact hx_retv hx hb hr hlk hW ⟨⟨fa_2, ia12_qp, nfa_2, nia12_qp, ⟨dfa_2, (by have e0 : iv12_2.toInt = st0.toInt := (by omega); rw [← e0]; exact vi12_0)⟩⟩, hT, hM⟩ dX10_keepsProof_44
      · skip
        refine lv_aload_n hx hb dX10_keepsProof_20 rfl (lv_at hl 1 rfl) ?_
        refine hk_getr hx hb hts hC_10 hown hW (gx.S hM) tt_10 5 (by decide) rfl kw_1148 ⟨rfl, rfl, rfl⟩ ((hM.o gx trivial rfl).2.trans f_x_5) dX10_keepsProof_21 ?_
        refine lv_sipush (v := 128) hx hb dX10_keepsProof_24 (by decide) ?_
        refine lv_iload_n hx hb dX10_keepsProof_27 rfl (lv_at hl 2 rfl) ?_
        refine lv_imul hx hb dX10_keepsProof_28 ?_
        refine lv_topi (fun x_4 ex_4 => ?_)
        have zx_4 : x_4.toInt = 128 * i1.toInt := by rw [ex_4]; exact i32_mul (by decide) rfl rfl (by omega) (by omega)
        refine lv_iload_n hx hb dX10_keepsProof_29 rfl (lv_at hl 0 rfl) ?_
        refine lv_iadd hx hb dX10_keepsProof_30 ?_
        have rg_5 := i32_r x_4
        have rg_6 := i32_r iv12_2
        refine lv_topi (fun x_7 ex_7 => ?_)
        have zx_7 : x_7.toInt = x_4.toInt + iv12_2.toInt := by rw [ex_7]; exact i32_add rfl rfl (by omega) (by omega)
        refine lv_aload_n hx hb dX10_keepsProof_31 rfl (lv_at hl 1 rfl) ?_
        refine hk_getr hx hb hts hC_10 hown hW (gx.S hM) tt_10 15 (by decide) rfl kw_1158 ⟨rfl, rfl, rfl⟩ ((hM.o gx trivial rfl).2.trans f_x_15) dX10_keepsProof_32 ?_
        refine lv_iload_n hx hb dX10_keepsProof_35 rfl (lv_at hl 0 rfl) ?_
        refine hx_iald hx hb hW hT (gqs.S hM) tt_55 rfl ⟨by omega, by omega⟩ dX10_keepsProof_36 (fun x_8 ex_8 lx_8 ux_8 => ?_)
        have ax_8 : x_8 = sf iv12_2.toNatClampNeg := ex_8.trans (congrFun (hx_afS hM gqs rfl af_qs) _)
        have nia12_qpO := nia12_qp
        refine hx_iast hx hb hW hT (hx_S.rf (M := [(52, 0)])) (gqp.S hM) tt_52 rfl ⟨by omega, by omega⟩ rfl (i32_r _) (List.mem_singleton.mpr rfl) dX10_keepsProof_37 (fun H locs h_9 eh_9 hW hT hs => ?_)
        replace nfa_2 : h_9.2.1 qn = fa_2 := (funext fun j => (hs.a (gqn.S hM) rfl j).1).trans nfa_2
        replace ex_8 := ex_8.trans (hs.a (gqs.S hM) rfl _).1.symm
        replace hM := hM.tr (hs.mono (by decide))
        obtain ⟨fa_10, dfa_10⟩ : ∃ g : Nat → Int32, g = hx_up ia12_qp x_7.toNatClampNeg x_8 := ⟨_, rfl⟩
        have nfa_10 : h_9.2.1 qp = fa_10 := by rw [eh_9, dfa_10, ← nia12_qpO]; exact hx_pi_fun _ _ _ _
        obtain ⟨x_11, ex_11⟩ : ∃ y : Int32, y = iv12_2 + Int32.ofInt 1 := ⟨_, rfl⟩
        have zx_11 : x_11.toInt = iv12_2.toInt + (1) := by rw [ex_11]; exact i32_add rfl (by decide) (by omega) (by omega)
        refine lv_iinc (v := x_11) (lv' := [(2, .int x_11), (0, .ref x), (1, .int i1)]) hx hb dX10_keepsProof_38 hl (k := 0) rfl ex_11.symm (by decide) rfl (fun ls hl => ?_)
        refine lv_goto (tgt := 12) hx hb dX10_keepsProof_41 (by decide) ?_
        exact ih12 x_11 fa_10 _ _ hL1 h_9 (by omega) (by omega) (hx_kp_s vi12_0 (by omega) (by omega) (by omega) ax_8 rfl dfa_10 zx_11) (by omega) ls (by omega) hW hT hM  nfa_10 nfa_2 (lv_sub hl [0, 1, 2] rfl)
  have zk_0 : (0 : Int32).toInt = 0 := by decide
  exact loop12 129 (0 : Int32) prf _ _ L h_1 (by decide) (by decide) hx_kp0 (by omega) ls (by omega) hW hT hM  af_qp nfa_2 hl

def wNX10_clause : Nat := 440434818961475431105747286857917914001618456592375074435337755553289230790855743175341803833419243431838420639292068929297767612852409777671799303832974737451462315282677846570016160838920113477367016720077823055495656055743455084745996209370856050310735741725052675979478457348108653239537777803305079521295353162128631751228945187211211990476491552997936703756512066009414765621622527609042537106689890168786972422012899664683284251544157224380300200065173688606697808967403862866201587861811559115731789070629471130188598920976272446361915585714326433427276551637192324576226233833554316163054643057954640747008709734389304556474144160531723818
theorem wX10_clause_c : hz_cd cX10_clause wNX10_clause 269 := ⟨by decide +kernel, by decide +kernel⟩
theorem dX10_clause_0 : decode cX10_clause 0 = .ok (.aload_n 0, 1) := dw_42 wX10_clause_c rfl
theorem dX10_clause_1 : decode cX10_clause 1 = .ok (.invokevirtual 277, 3) := dw_182 wX10_clause_c 1 21 rfl rfl
theorem dX10_clause_4 : decode cX10_clause 4 = .ok (.istore_n 1, 1) := dw_60 wX10_clause_c rfl
theorem dX10_clause_5 : decode cX10_clause 5 = .ok (.aload_n 0, 1) := dw_42 wX10_clause_c rfl
theorem dX10_clause_6 : decode cX10_clause 6 = .ok (.getfield 245, 3) := dw_180 wX10_clause_c 0 245 rfl rfl
theorem dX10_clause_9 : decode cX10_clause 9 = .ok (.istore_n 2, 1) := dw_61 wX10_clause_c rfl
theorem dX10_clause_10 : decode cX10_clause 10 = .ok (.iload_n 1, 1) := dw_27 wX10_clause_c rfl
theorem dX10_clause_11 : decode cX10_clause 11 = .ok (.bipush 11, 2) := dw_16 wX10_clause_c 11 rfl rfl rfl
theorem dX10_clause_13 : decode cX10_clause 13 = .ok (.bipush 20, 2) := dw_16 wX10_clause_c 20 rfl rfl rfl
theorem dX10_clause_15 : decode cX10_clause 15 = .ok (.invokestatic 228, 3) := dw_184 wX10_clause_c 0 228 rfl rfl
theorem dX10_clause_18 : decode cX10_clause 18 = .ok (.ifCond .ne 10, 3) := dw_154 wX10_clause_c 0 10 rfl rfl rfl
theorem dX10_clause_21 : decode cX10_clause 21 = .ok (.aload_n 0, 1) := dw_42 wX10_clause_c rfl
theorem dX10_clause_22 : decode cX10_clause 22 = .ok (.iconst 0, 1) := dw_3 wX10_clause_c rfl
theorem dX10_clause_23 : decode cX10_clause 23 = .ok (.iload_n 2, 1) := dw_28 wX10_clause_c rfl
theorem dX10_clause_24 : decode cX10_clause 24 = .ok (.invokevirtual 255, 3) := dw_182 wX10_clause_c 0 255 rfl rfl
theorem dX10_clause_27 : decode cX10_clause 27 = .ok (.ireturn, 1) := dw_172 wX10_clause_c rfl
theorem dX10_clause_28 : decode cX10_clause 28 = .ok (.iload_n 1, 1) := dw_27 wX10_clause_c rfl
theorem dX10_clause_29 : decode cX10_clause 29 = .ok (.bipush 20, 2) := dw_16 wX10_clause_c 20 rfl rfl rfl
theorem dX10_clause_31 : decode cX10_clause 31 = .ok (.if_icmp .ne 33, 3) := dw_160 wX10_clause_c 0 33 rfl rfl rfl
theorem dX10_clause_34 : decode cX10_clause 34 = .ok (.aload_n 0, 1) := dw_42 wX10_clause_c rfl
theorem dX10_clause_35 : decode cX10_clause 35 = .ok (.bipush 20, 2) := dw_16 wX10_clause_c 20 rfl rfl rfl
theorem dX10_clause_37 : decode cX10_clause 37 = .ok (.iload_n 2, 1) := dw_28 wX10_clause_c rfl
theorem dX10_clause_38 : decode cX10_clause 38 = .ok (.invokevirtual 309, 3) := dw_182 wX10_clause_c 1 53 rfl rfl
theorem dX10_clause_41 : decode cX10_clause 41 = .ok (.ifCond .ne 5, 3) := dw_154 wX10_clause_c 0 5 rfl rfl rfl
theorem dX10_clause_44 : decode cX10_clause 44 = .ok (.iconst 0, 1) := dw_3 wX10_clause_c rfl
theorem dX10_clause_45 : decode cX10_clause 45 = .ok (.ireturn, 1) := dw_172 wX10_clause_c rfl
theorem dX10_clause_46 : decode cX10_clause 46 = .ok (.aload_n 0, 1) := dw_42 wX10_clause_c rfl
theorem dX10_clause_47 : decode cX10_clause 47 = .ok (.dup, 1) := dw_89 wX10_clause_c rfl
theorem dX10_clause_48 : decode cX10_clause 48 = .ok (.getfield 245, 3) := dw_180 wX10_clause_c 0 245 rfl rfl
theorem dX10_clause_51 : decode cX10_clause 51 = .ok (.aload_n 0, 1) := dw_42 wX10_clause_c rfl
theorem dX10_clause_52 : decode cX10_clause 52 = .ok (.getfield 252, 3) := dw_180 wX10_clause_c 0 252 rfl rfl
theorem dX10_clause_55 : decode cX10_clause 55 = .ok (.iadd, 1) := dw_96 wX10_clause_c rfl
theorem dX10_clause_56 : decode cX10_clause 56 = .ok (.putfield 245, 3) := dw_181 wX10_clause_c 0 245 rfl rfl
theorem dX10_clause_59 : decode cX10_clause 59 = .ok (.aload_n 0, 1) := dw_42 wX10_clause_c rfl
theorem dX10_clause_60 : decode cX10_clause 60 = .ok (.invokevirtual 312, 3) := dw_182 wX10_clause_c 1 56 rfl rfl
theorem dX10_clause_63 : decode cX10_clause 63 = .ok (.ireturn, 1) := dw_172 wX10_clause_c rfl
theorem dX10_clause_64 : decode cX10_clause 64 = .ok (.iload_n 1, 1) := dw_27 wX10_clause_c rfl
theorem dX10_clause_65 : decode cX10_clause 65 = .ok (.bipush 19, 2) := dw_16 wX10_clause_c 19 rfl rfl rfl
theorem dX10_clause_67 : decode cX10_clause 67 = .ok (.if_icmp .ne 101, 3) := dw_160 wX10_clause_c 0 101 rfl rfl rfl
theorem dX10_clause_70 : decode cX10_clause 70 = .ok (.aload_n 0, 1) := dw_42 wX10_clause_c rfl
theorem dX10_clause_71 : decode cX10_clause 71 = .ok (.dup, 1) := dw_89 wX10_clause_c rfl
theorem dX10_clause_72 : decode cX10_clause 72 = .ok (.getfield 245, 3) := dw_180 wX10_clause_c 0 245 rfl rfl
theorem dX10_clause_75 : decode cX10_clause 75 = .ok (.aload_n 0, 1) := dw_42 wX10_clause_c rfl
theorem dX10_clause_76 : decode cX10_clause 76 = .ok (.getfield 252, 3) := dw_180 wX10_clause_c 0 252 rfl rfl
theorem dX10_clause_79 : decode cX10_clause 79 = .ok (.iadd, 1) := dw_96 wX10_clause_c rfl
theorem dX10_clause_80 : decode cX10_clause 80 = .ok (.putfield 245, 3) := dw_181 wX10_clause_c 0 245 rfl rfl
theorem dX10_clause_83 : decode cX10_clause 83 = .ok (.aload_n 0, 1) := dw_42 wX10_clause_c rfl
theorem dX10_clause_84 : decode cX10_clause 84 = .ok (.invokevirtual 277, 3) := dw_182 wX10_clause_c 1 21 rfl rfl
theorem dX10_clause_87 : decode cX10_clause 87 = .ok (.bipush 21, 2) := dw_16 wX10_clause_c 21 rfl rfl rfl
theorem dX10_clause_89 : decode cX10_clause 89 = .ok (.isub, 1) := dw_100 wX10_clause_c rfl
theorem dX10_clause_90 : decode cX10_clause 90 = .ok (.istore_n 3, 1) := dw_62 wX10_clause_c rfl
theorem dX10_clause_91 : decode cX10_clause 91 = .ok (.iload_n 3, 1) := dw_29 wX10_clause_c rfl
theorem dX10_clause_92 : decode cX10_clause 92 = .ok (.iconst 0, 1) := dw_3 wX10_clause_c rfl
theorem dX10_clause_93 : decode cX10_clause 93 = .ok (.iconst 3, 1) := dw_6 wX10_clause_c rfl
theorem dX10_clause_94 : decode cX10_clause 94 = .ok (.invokestatic 228, 3) := dw_184 wX10_clause_c 0 228 rfl rfl
theorem dX10_clause_97 : decode cX10_clause 97 = .ok (.ifCond .ne 13, 3) := dw_154 wX10_clause_c 0 13 rfl rfl rfl
theorem dX10_clause_100 : decode cX10_clause 100 = .ok (.aload_n 0, 1) := dw_42 wX10_clause_c rfl
theorem dX10_clause_101 : decode cX10_clause 101 = .ok (.iconst 0, 1) := dw_3 wX10_clause_c rfl
theorem dX10_clause_102 : decode cX10_clause 102 = .ok (.aload_n 0, 1) := dw_42 wX10_clause_c rfl
theorem dX10_clause_103 : decode cX10_clause 103 = .ok (.getfield 245, 3) := dw_180 wX10_clause_c 0 245 rfl rfl
theorem dX10_clause_106 : decode cX10_clause 106 = .ok (.invokevirtual 255, 3) := dw_182 wX10_clause_c 0 255 rfl rfl
theorem dX10_clause_109 : decode cX10_clause 109 = .ok (.ireturn, 1) := dw_172 wX10_clause_c rfl
theorem dX10_clause_110 : decode cX10_clause 110 = .ok (.aload_n 0, 1) := dw_42 wX10_clause_c rfl
theorem dX10_clause_111 : decode cX10_clause 111 = .ok (.bipush 9, 2) := dw_16 wX10_clause_c 9 rfl rfl rfl
theorem dX10_clause_113 : decode cX10_clause 113 = .ok (.iload_n 3, 1) := dw_29 wX10_clause_c rfl
theorem dX10_clause_114 : decode cX10_clause 114 = .ok (.iadd, 1) := dw_96 wX10_clause_c rfl
theorem dX10_clause_115 : decode cX10_clause 115 = .ok (.aload_n 0, 1) := dw_42 wX10_clause_c rfl
theorem dX10_clause_116 : decode cX10_clause 116 = .ok (.getfield 245, 3) := dw_180 wX10_clause_c 0 245 rfl rfl
theorem dX10_clause_119 : decode cX10_clause 119 = .ok (.invokevirtual 309, 3) := dw_182 wX10_clause_c 1 53 rfl rfl
theorem dX10_clause_122 : decode cX10_clause 122 = .ok (.ifCond .ne 5, 3) := dw_154 wX10_clause_c 0 5 rfl rfl rfl
theorem dX10_clause_125 : decode cX10_clause 125 = .ok (.iconst 0, 1) := dw_3 wX10_clause_c rfl
theorem dX10_clause_126 : decode cX10_clause 126 = .ok (.ireturn, 1) := dw_172 wX10_clause_c rfl
theorem dX10_clause_127 : decode cX10_clause 127 = .ok (.aload_n 0, 1) := dw_42 wX10_clause_c rfl
theorem dX10_clause_128 : decode cX10_clause 128 = .ok (.dup, 1) := dw_89 wX10_clause_c rfl
theorem dX10_clause_129 : decode cX10_clause 129 = .ok (.getfield 245, 3) := dw_180 wX10_clause_c 0 245 rfl rfl
theorem dX10_clause_132 : decode cX10_clause 132 = .ok (.aload_n 0, 1) := dw_42 wX10_clause_c rfl
theorem dX10_clause_133 : decode cX10_clause 133 = .ok (.getfield 252, 3) := dw_180 wX10_clause_c 0 252 rfl rfl
theorem dX10_clause_136 : decode cX10_clause 136 = .ok (.iadd, 1) := dw_96 wX10_clause_c rfl
theorem dX10_clause_137 : decode cX10_clause 137 = .ok (.putfield 245, 3) := dw_181 wX10_clause_c 0 245 rfl rfl
theorem dX10_clause_140 : decode cX10_clause 140 = .ok (.aload_n 0, 1) := dw_42 wX10_clause_c rfl
theorem dX10_clause_141 : decode cX10_clause 141 = .ok (.iconst 0, 1) := dw_3 wX10_clause_c rfl
theorem dX10_clause_142 : decode cX10_clause 142 = .ok (.sipush 999, 3) := dw_17 wX10_clause_c 3 231 rfl rfl rfl
theorem dX10_clause_145 : decode cX10_clause 145 = .ok (.invokevirtual 287, 3) := dw_182 wX10_clause_c 1 31 rfl rfl
theorem dX10_clause_148 : decode cX10_clause 148 = .ok (.ifCond .ne 5, 3) := dw_154 wX10_clause_c 0 5 rfl rfl rfl
theorem dX10_clause_151 : decode cX10_clause 151 = .ok (.iconst 0, 1) := dw_3 wX10_clause_c rfl
theorem dX10_clause_152 : decode cX10_clause 152 = .ok (.ireturn, 1) := dw_172 wX10_clause_c rfl
theorem dX10_clause_153 : decode cX10_clause 153 = .ok (.aload_n 0, 1) := dw_42 wX10_clause_c rfl
theorem dX10_clause_154 : decode cX10_clause 154 = .ok (.getfield 26, 3) := dw_180 wX10_clause_c 0 26 rfl rfl
theorem dX10_clause_157 : decode cX10_clause 157 = .ok (.bipush 9, 2) := dw_16 wX10_clause_c 9 rfl rfl rfl
theorem dX10_clause_159 : decode cX10_clause 159 = .ok (.iload_n 3, 1) := dw_29 wX10_clause_c rfl
theorem dX10_clause_160 : decode cX10_clause 160 = .ok (.iadd, 1) := dw_96 wX10_clause_c rfl
theorem dX10_clause_161 : decode cX10_clause 161 = .ok (.aload_n 0, 1) := dw_42 wX10_clause_c rfl
theorem dX10_clause_162 : decode cX10_clause 162 = .ok (.getfield 259, 3) := dw_180 wX10_clause_c 1 3 rfl rfl
theorem dX10_clause_165 : decode cX10_clause 165 = .ok (.iastore, 1) := dw_79 wX10_clause_c rfl
theorem dX10_clause_166 : decode cX10_clause 166 = .ok (.iconst 1, 1) := dw_4 wX10_clause_c rfl
theorem dX10_clause_167 : decode cX10_clause 167 = .ok (.ireturn, 1) := dw_172 wX10_clause_c rfl
theorem dX10_clause_168 : decode cX10_clause 168 = .ok (.iload_n 1, 1) := dw_27 wX10_clause_c rfl
theorem dX10_clause_169 : decode cX10_clause 169 = .ok (.bipush 11, 2) := dw_16 wX10_clause_c 11 rfl rfl rfl
theorem dX10_clause_171 : decode cX10_clause 171 = .ok (.isub, 1) := dw_100 wX10_clause_c rfl
theorem dX10_clause_172 : decode cX10_clause 172 = .ok (.istore_n 3, 1) := dw_62 wX10_clause_c rfl
theorem dX10_clause_173 : decode cX10_clause 173 = .ok (.iload_n 3, 1) := dw_29 wX10_clause_c rfl
theorem dX10_clause_174 : decode cX10_clause 174 = .ok (.iconst 5, 1) := dw_8 wX10_clause_c rfl
theorem dX10_clause_175 : decode cX10_clause 175 = .ok (.if_icmp .le 9, 3) := dw_164 wX10_clause_c 0 9 rfl rfl rfl
theorem dX10_clause_178 : decode cX10_clause 178 = .ok (.iload_n 3, 1) := dw_29 wX10_clause_c rfl
theorem dX10_clause_179 : decode cX10_clause 179 = .ok (.iconst 1, 1) := dw_4 wX10_clause_c rfl
theorem dX10_clause_180 : decode cX10_clause 180 = .ok (.iadd, 1) := dw_96 wX10_clause_c rfl
theorem dX10_clause_181 : decode cX10_clause 181 = .ok (.goto 4, 3) := dw_167 wX10_clause_c 0 4 rfl rfl rfl
theorem dX10_clause_184 : decode cX10_clause 184 = .ok (.iload_n 3, 1) := dw_29 wX10_clause_c rfl
theorem dX10_clause_185 : decode cX10_clause 185 = .ok (.istore_n 3, 1) := dw_62 wX10_clause_c rfl
theorem dX10_clause_186 : decode cX10_clause 186 = .ok (.aload_n 0, 1) := dw_42 wX10_clause_c rfl
theorem dX10_clause_187 : decode cX10_clause 187 = .ok (.iload_n 3, 1) := dw_29 wX10_clause_c rfl
theorem dX10_clause_188 : decode cX10_clause 188 = .ok (.iload_n 2, 1) := dw_28 wX10_clause_c rfl
theorem dX10_clause_189 : decode cX10_clause 189 = .ok (.invokevirtual 309, 3) := dw_182 wX10_clause_c 1 53 rfl rfl
theorem dX10_clause_192 : decode cX10_clause 192 = .ok (.ifCond .ne 5, 3) := dw_154 wX10_clause_c 0 5 rfl rfl rfl
theorem dX10_clause_195 : decode cX10_clause 195 = .ok (.iconst 0, 1) := dw_3 wX10_clause_c rfl
theorem dX10_clause_196 : decode cX10_clause 196 = .ok (.ireturn, 1) := dw_172 wX10_clause_c rfl
theorem dX10_clause_197 : decode cX10_clause 197 = .ok (.aload_n 0, 1) := dw_42 wX10_clause_c rfl
theorem dX10_clause_198 : decode cX10_clause 198 = .ok (.dup, 1) := dw_89 wX10_clause_c rfl
theorem dX10_clause_199 : decode cX10_clause 199 = .ok (.getfield 245, 3) := dw_180 wX10_clause_c 0 245 rfl rfl
theorem dX10_clause_202 : decode cX10_clause 202 = .ok (.aload_n 0, 1) := dw_42 wX10_clause_c rfl
theorem dX10_clause_203 : decode cX10_clause 203 = .ok (.getfield 252, 3) := dw_180 wX10_clause_c 0 252 rfl rfl
theorem dX10_clause_206 : decode cX10_clause 206 = .ok (.iadd, 1) := dw_96 wX10_clause_c rfl
theorem dX10_clause_207 : decode cX10_clause 207 = .ok (.putfield 245, 3) := dw_181 wX10_clause_c 0 245 rfl rfl
theorem dX10_clause_210 : decode cX10_clause 210 = .ok (.aload_n 0, 1) := dw_42 wX10_clause_c rfl
theorem dX10_clause_211 : decode cX10_clause 211 = .ok (.iload_n 3, 1) := dw_29 wX10_clause_c rfl
theorem dX10_clause_212 : decode cX10_clause 212 = .ok (.invokestatic 315, 3) := dw_184 wX10_clause_c 1 59 rfl rfl
theorem dX10_clause_215 : decode cX10_clause 215 = .ok (.iload_n 3, 1) := dw_29 wX10_clause_c rfl
theorem dX10_clause_216 : decode cX10_clause 216 = .ok (.invokestatic 318, 3) := dw_184 wX10_clause_c 1 62 rfl rfl
theorem dX10_clause_219 : decode cX10_clause 219 = .ok (.invokevirtual 287, 3) := dw_182 wX10_clause_c 1 31 rfl rfl
theorem dX10_clause_222 : decode cX10_clause 222 = .ok (.ifCond .ne 5, 3) := dw_154 wX10_clause_c 0 5 rfl rfl rfl
theorem dX10_clause_225 : decode cX10_clause 225 = .ok (.iconst 0, 1) := dw_3 wX10_clause_c rfl
theorem dX10_clause_226 : decode cX10_clause 226 = .ok (.ireturn, 1) := dw_172 wX10_clause_c rfl
theorem dX10_clause_227 : decode cX10_clause 227 = .ok (.aload_n 0, 1) := dw_42 wX10_clause_c rfl
theorem dX10_clause_228 : decode cX10_clause 228 = .ok (.getfield 26, 3) := dw_180 wX10_clause_c 0 26 rfl rfl
theorem dX10_clause_231 : decode cX10_clause 231 = .ok (.iload_n 3, 1) := dw_29 wX10_clause_c rfl
theorem dX10_clause_232 : decode cX10_clause 232 = .ok (.aload_n 0, 1) := dw_42 wX10_clause_c rfl
theorem dX10_clause_233 : decode cX10_clause 233 = .ok (.getfield 259, 3) := dw_180 wX10_clause_c 1 3 rfl rfl
theorem dX10_clause_236 : decode cX10_clause 236 = .ok (.iastore, 1) := dw_79 wX10_clause_c rfl
theorem dX10_clause_237 : decode cX10_clause 237 = .ok (.iload_n 3, 1) := dw_29 wX10_clause_c rfl
theorem dX10_clause_238 : decode cX10_clause 238 = .ok (.iconst 5, 1) := dw_8 wX10_clause_c rfl
theorem dX10_clause_239 : decode cX10_clause 239 = .ok (.if_icmp .eq 5, 3) := dw_159 wX10_clause_c 0 5 rfl rfl rfl
theorem dX10_clause_242 : decode cX10_clause 242 = .ok (.iconst 1, 1) := dw_4 wX10_clause_c rfl
theorem dX10_clause_243 : decode cX10_clause 243 = .ok (.ireturn, 1) := dw_172 wX10_clause_c rfl
theorem dX10_clause_244 : decode cX10_clause 244 = .ok (.aload_n 0, 1) := dw_42 wX10_clause_c rfl
theorem dX10_clause_245 : decode cX10_clause 245 = .ok (.iconst 1, 1) := dw_4 wX10_clause_c rfl
theorem dX10_clause_246 : decode cX10_clause 246 = .ok (.bipush 30, 2) := dw_16 wX10_clause_c 30 rfl rfl rfl
theorem dX10_clause_248 : decode cX10_clause 248 = .ok (.invokevirtual 287, 3) := dw_182 wX10_clause_c 1 31 rfl rfl
theorem dX10_clause_251 : decode cX10_clause 251 = .ok (.ifCond .ne 5, 3) := dw_154 wX10_clause_c 0 5 rfl rfl rfl
theorem dX10_clause_254 : decode cX10_clause 254 = .ok (.iconst 0, 1) := dw_3 wX10_clause_c rfl
theorem dX10_clause_255 : decode cX10_clause 255 = .ok (.ireturn, 1) := dw_172 wX10_clause_c rfl
theorem dX10_clause_256 : decode cX10_clause 256 = .ok (.aload_n 0, 1) := dw_42 wX10_clause_c rfl
theorem dX10_clause_257 : decode cX10_clause 257 = .ok (.getfield 26, 3) := dw_180 wX10_clause_c 0 26 rfl rfl
theorem dX10_clause_260 : decode cX10_clause 260 = .ok (.bipush 6, 2) := dw_16 wX10_clause_c 6 rfl rfl rfl
theorem dX10_clause_262 : decode cX10_clause 262 = .ok (.aload_n 0, 1) := dw_42 wX10_clause_c rfl
theorem dX10_clause_263 : decode cX10_clause 263 = .ok (.getfield 259, 3) := dw_180 wX10_clause_c 1 3 rfl rfl
theorem dX10_clause_266 : decode cX10_clause 266 = .ok (.iastore, 1) := dw_79 wX10_clause_c rfl
theorem dX10_clause_267 : decode cX10_clause 267 = .ok (.iconst 1, 1) := dw_4 wX10_clause_c rfl
theorem dX10_clause_268 : decode cX10_clause 268 = .ok (.ireturn, 1) := dw_172 wX10_clause_c rfl
def wNX10_act : Nat := 1724187713426206646214391958396309784035680883646383728895316002715093164191603763928504874726235108605061654137070163862832526738877438905325895458943411763113969342636245350124681858021544184258246512673917060403452324770556773645028546857416611360822251112359233611033631347354001943819644011259276257971250897067789175777063852001441283490476713772576352564562347837183554419001699407673141347771159049501070838082332059802236423175541827809991110428045749330499576283815278461848536618854688600938940844340120109969168005429358133014998921268517639899950526834122664914172456980422773505434294045828364818738880976535341794634904509360485418
theorem wX10_act_c : hz_cd cX10_act wNX10_act 268 := ⟨by decide +kernel, by decide +kernel⟩
theorem dX10_act_0 : decode cX10_act 0 = .ok (.aload_n 0, 1) := dw_42 wX10_act_c rfl
theorem dX10_act_1 : decode cX10_act 1 = .ok (.getfield 321, 3) := dw_180 wX10_act_c 1 65 rfl rfl
theorem dX10_act_4 : decode cX10_act 4 = .ok (.bipush 8, 2) := dw_16 wX10_act_c 8 rfl rfl rfl
theorem dX10_act_6 : decode cX10_act 6 = .ok (.if_icmp .eq 10, 3) := dw_159 wX10_act_c 0 10 rfl rfl rfl
theorem dX10_act_9 : decode cX10_act 9 = .ok (.iload_n 1, 1) := dw_27 wX10_act_c rfl
theorem dX10_act_10 : decode cX10_act 10 = .ok (.invokestatic 324, 3) := dw_184 wX10_act_c 1 68 rfl rfl
theorem dX10_act_13 : decode cX10_act 13 = .ok (.ifCond .ne 5, 3) := dw_154 wX10_act_c 0 5 rfl rfl rfl
theorem dX10_act_16 : decode cX10_act 16 = .ok (.iconst (-1), 1) := dw_2 wX10_act_c rfl
theorem dX10_act_17 : decode cX10_act 17 = .ok (.ireturn, 1) := dw_172 wX10_act_c rfl
theorem dX10_act_18 : decode cX10_act 18 = .ok (.aload_n 0, 1) := dw_42 wX10_act_c rfl
theorem dX10_act_19 : decode cX10_act 19 = .ok (.iconst 0, 1) := dw_3 wX10_act_c rfl
theorem dX10_act_20 : decode cX10_act 20 = .ok (.putfield 245, 3) := dw_181 wX10_act_c 0 245 rfl rfl
theorem dX10_act_23 : decode cX10_act 23 = .ok (.aload_n 0, 1) := dw_42 wX10_act_c rfl
theorem dX10_act_24 : decode cX10_act 24 = .ok (.iconst 0, 1) := dw_3 wX10_act_c rfl
theorem dX10_act_25 : decode cX10_act 25 = .ok (.putfield 242, 3) := dw_181 wX10_act_c 0 242 rfl rfl
theorem dX10_act_28 : decode cX10_act 28 = .ok (.aload_n 0, 1) := dw_42 wX10_act_c rfl
theorem dX10_act_29 : decode cX10_act 29 = .ok (.iconst 0, 1) := dw_3 wX10_act_c rfl
theorem dX10_act_30 : decode cX10_act 30 = .ok (.putfield 306, 3) := dw_181 wX10_act_c 1 50 rfl rfl
theorem dX10_act_33 : decode cX10_act 33 = .ok (.iconst 0, 1) := dw_3 wX10_act_c rfl
theorem dX10_act_34 : decode cX10_act 34 = .ok (.istore_n 2, 1) := dw_61 wX10_act_c rfl
theorem dX10_act_35 : decode cX10_act 35 = .ok (.iload_n 2, 1) := dw_28 wX10_act_c rfl
theorem dX10_act_36 : decode cX10_act 36 = .ok (.bipush 13, 2) := dw_16 wX10_act_c 13 rfl rfl rfl
theorem dX10_act_38 : decode cX10_act 38 = .ok (.if_icmp .ge 19, 3) := dw_162 wX10_act_c 0 19 rfl rfl rfl
theorem dX10_act_41 : decode cX10_act 41 = .ok (.aload_n 0, 1) := dw_42 wX10_act_c rfl
theorem dX10_act_42 : decode cX10_act 42 = .ok (.getfield 26, 3) := dw_180 wX10_act_c 0 26 rfl rfl
theorem dX10_act_45 : decode cX10_act 45 = .ok (.iload_n 2, 1) := dw_28 wX10_act_c rfl
theorem dX10_act_46 : decode cX10_act 46 = .ok (.iload_n 2, 1) := dw_28 wX10_act_c rfl
theorem dX10_act_47 : decode cX10_act 47 = .ok (.invokestatic 214, 3) := dw_184 wX10_act_c 0 214 rfl rfl
theorem dX10_act_50 : decode cX10_act 50 = .ok (.iastore, 1) := dw_79 wX10_act_c rfl
theorem dX10_act_51 : decode cX10_act 51 = .ok (.iinc 2 1, 3) := dw_132 wX10_act_c 2 1 rfl rfl rfl
theorem dX10_act_54 : decode cX10_act 54 = .ok (.goto (-19), 3) := dn_167 wX10_act_c 255 237 rfl (by decide)
theorem dX10_act_57 : decode cX10_act 57 = .ok (.aload_n 0, 1) := dw_42 wX10_act_c rfl
theorem dX10_act_58 : decode cX10_act 58 = .ok (.invokevirtual 218, 3) := dw_182 wX10_act_c 0 218 rfl rfl
theorem dX10_act_61 : decode cX10_act 61 = .ok (.aload_n 0, 1) := dw_42 wX10_act_c rfl
theorem dX10_act_62 : decode cX10_act 62 = .ok (.invokevirtual 221, 3) := dw_182 wX10_act_c 0 221 rfl rfl
theorem dX10_act_65 : decode cX10_act 65 = .ok (.iconst 1, 1) := dw_4 wX10_act_c rfl
theorem dX10_act_66 : decode cX10_act 66 = .ok (.istore_n 2, 1) := dw_61 wX10_act_c rfl
theorem dX10_act_67 : decode cX10_act 67 = .ok (.aload_n 0, 1) := dw_42 wX10_act_c rfl
theorem dX10_act_68 : decode cX10_act 68 = .ok (.invokevirtual 248, 3) := dw_182 wX10_act_c 0 248 rfl rfl
theorem dX10_act_71 : decode cX10_act 71 = .ok (.iconst (-1), 1) := dw_2 wX10_act_c rfl
theorem dX10_act_72 : decode cX10_act 72 = .ok (.if_icmp .eq 7, 3) := dw_159 wX10_act_c 0 7 rfl rfl rfl
theorem dX10_act_75 : decode cX10_act 75 = .ok (.iconst 1, 1) := dw_4 wX10_act_c rfl
theorem dX10_act_76 : decode cX10_act 76 = .ok (.goto 4, 3) := dw_167 wX10_act_c 0 4 rfl rfl rfl
theorem dX10_act_79 : decode cX10_act 79 = .ok (.iconst 0, 1) := dw_3 wX10_act_c rfl
theorem dX10_act_80 : decode cX10_act 80 = .ok (.istore_n 3, 1) := dw_62 wX10_act_c rfl
theorem dX10_act_81 : decode cX10_act 81 = .ok (.iload_n 2, 1) := dw_28 wX10_act_c rfl
theorem dX10_act_82 : decode cX10_act 82 = .ok (.ifCond .eq 96, 3) := dw_153 wX10_act_c 0 96 rfl rfl rfl
theorem dX10_act_85 : decode cX10_act 85 = .ok (.iload_n 3, 1) := dw_29 wX10_act_c rfl
theorem dX10_act_86 : decode cX10_act 86 = .ok (.ifCond .eq 92, 3) := dw_153 wX10_act_c 0 92 rfl rfl rfl
theorem dX10_act_89 : decode cX10_act 89 = .ok (.aload_n 0, 1) := dw_42 wX10_act_c rfl
theorem dX10_act_90 : decode cX10_act 90 = .ok (.invokevirtual 327, 3) := dw_182 wX10_act_c 1 71 rfl rfl
theorem dX10_act_93 : decode cX10_act 93 = .ok (.istore_n 2, 1) := dw_61 wX10_act_c rfl
theorem dX10_act_94 : decode cX10_act 94 = .ok (.iload_n 2, 1) := dw_28 wX10_act_c rfl
theorem dX10_act_95 : decode cX10_act 95 = .ok (.ifCond .eq 15, 3) := dw_153 wX10_act_c 0 15 rfl rfl rfl
theorem dX10_act_98 : decode cX10_act 98 = .ok (.aload_n 0, 1) := dw_42 wX10_act_c rfl
theorem dX10_act_99 : decode cX10_act 99 = .ok (.invokevirtual 248, 3) := dw_182 wX10_act_c 0 248 rfl rfl
theorem dX10_act_102 : decode cX10_act 102 = .ok (.iconst (-1), 1) := dw_2 wX10_act_c rfl
theorem dX10_act_103 : decode cX10_act 103 = .ok (.if_icmp .eq 7, 3) := dw_159 wX10_act_c 0 7 rfl rfl rfl
theorem dX10_act_106 : decode cX10_act 106 = .ok (.iconst 1, 1) := dw_4 wX10_act_c rfl
theorem dX10_act_107 : decode cX10_act 107 = .ok (.goto 4, 3) := dw_167 wX10_act_c 0 4 rfl rfl rfl
theorem dX10_act_110 : decode cX10_act 110 = .ok (.iconst 0, 1) := dw_3 wX10_act_c rfl
theorem dX10_act_111 : decode cX10_act 111 = .ok (.istore_n 3, 1) := dw_62 wX10_act_c rfl
theorem dX10_act_112 : decode cX10_act 112 = .ok (.iload_n 3, 1) := dw_29 wX10_act_c rfl
theorem dX10_act_113 : decode cX10_act 113 = .ok (.ifCond .eq 22, 3) := dw_153 wX10_act_c 0 22 rfl rfl rfl
theorem dX10_act_116 : decode cX10_act 116 = .ok (.aload_n 0, 1) := dw_42 wX10_act_c rfl
theorem dX10_act_117 : decode cX10_act 117 = .ok (.invokevirtual 248, 3) := dw_182 wX10_act_c 0 248 rfl rfl
theorem dX10_act_120 : decode cX10_act 120 = .ok (.bipush 59, 2) := dw_16 wX10_act_c 59 rfl rfl rfl
theorem dX10_act_122 : decode cX10_act 122 = .ok (.if_icmp .eq 13, 3) := dw_159 wX10_act_c 0 13 rfl rfl rfl
theorem dX10_act_125 : decode cX10_act 125 = .ok (.aload_n 0, 1) := dw_42 wX10_act_c rfl
theorem dX10_act_126 : decode cX10_act 126 = .ok (.iconst 0, 1) := dw_3 wX10_act_c rfl
theorem dX10_act_127 : decode cX10_act 127 = .ok (.aload_n 0, 1) := dw_42 wX10_act_c rfl
theorem dX10_act_128 : decode cX10_act 128 = .ok (.getfield 245, 3) := dw_180 wX10_act_c 0 245 rfl rfl
theorem dX10_act_131 : decode cX10_act 131 = .ok (.invokevirtual 255, 3) := dw_182 wX10_act_c 0 255 rfl rfl
theorem dX10_act_134 : decode cX10_act 134 = .ok (.istore_n 2, 1) := dw_61 wX10_act_c rfl
theorem dX10_act_135 : decode cX10_act 135 = .ok (.iload_n 3, 1) := dw_29 wX10_act_c rfl
theorem dX10_act_136 : decode cX10_act 136 = .ok (.ifCond .eq 13, 3) := dw_153 wX10_act_c 0 13 rfl rfl rfl
theorem dX10_act_139 : decode cX10_act 139 = .ok (.aload_n 0, 1) := dw_42 wX10_act_c rfl
theorem dX10_act_140 : decode cX10_act 140 = .ok (.dup, 1) := dw_89 wX10_act_c rfl
theorem dX10_act_141 : decode cX10_act 141 = .ok (.getfield 245, 3) := dw_180 wX10_act_c 0 245 rfl rfl
theorem dX10_act_144 : decode cX10_act 144 = .ok (.iconst 1, 1) := dw_4 wX10_act_c rfl
theorem dX10_act_145 : decode cX10_act 145 = .ok (.iadd, 1) := dw_96 wX10_act_c rfl
theorem dX10_act_146 : decode cX10_act 146 = .ok (.putfield 245, 3) := dw_181 wX10_act_c 0 245 rfl rfl
theorem dX10_act_149 : decode cX10_act 149 = .ok (.iload_n 2, 1) := dw_28 wX10_act_c rfl
theorem dX10_act_150 : decode cX10_act 150 = .ok (.ifCond .eq (-69), 3) := dn_153 wX10_act_c 255 187 rfl (by decide)
theorem dX10_act_153 : decode cX10_act 153 = .ok (.iload_n 3, 1) := dw_29 wX10_act_c rfl
theorem dX10_act_154 : decode cX10_act 154 = .ok (.ifCond .eq (-73), 3) := dn_153 wX10_act_c 255 183 rfl (by decide)
theorem dX10_act_157 : decode cX10_act 157 = .ok (.aload_n 0, 1) := dw_42 wX10_act_c rfl
theorem dX10_act_158 : decode cX10_act 158 = .ok (.invokevirtual 248, 3) := dw_182 wX10_act_c 0 248 rfl rfl
theorem dX10_act_161 : decode cX10_act 161 = .ok (.iconst (-1), 1) := dw_2 wX10_act_c rfl
theorem dX10_act_162 : decode cX10_act 162 = .ok (.if_icmp .ne (-81), 3) := dn_160 wX10_act_c 255 175 rfl (by decide)
theorem dX10_act_165 : decode cX10_act 165 = .ok (.aload_n 0, 1) := dw_42 wX10_act_c rfl
theorem dX10_act_166 : decode cX10_act 166 = .ok (.iconst 0, 1) := dw_3 wX10_act_c rfl
theorem dX10_act_167 : decode cX10_act 167 = .ok (.aload_n 0, 1) := dw_42 wX10_act_c rfl
theorem dX10_act_168 : decode cX10_act 168 = .ok (.getfield 245, 3) := dw_180 wX10_act_c 0 245 rfl rfl
theorem dX10_act_171 : decode cX10_act 171 = .ok (.invokevirtual 255, 3) := dw_182 wX10_act_c 0 255 rfl rfl
theorem dX10_act_174 : decode cX10_act 174 = .ok (.istore_n 2, 1) := dw_61 wX10_act_c rfl
theorem dX10_act_175 : decode cX10_act 175 = .ok (.goto (-94), 3) := dn_167 wX10_act_c 255 162 rfl (by decide)
theorem dX10_act_178 : decode cX10_act 178 = .ok (.aload_n 0, 1) := dw_42 wX10_act_c rfl
theorem dX10_act_179 : decode cX10_act 179 = .ok (.iconst 0, 1) := dw_3 wX10_act_c rfl
theorem dX10_act_180 : decode cX10_act 180 = .ok (.putfield 236, 3) := dw_181 wX10_act_c 0 236 rfl rfl
theorem dX10_act_183 : decode cX10_act 183 = .ok (.iload_n 2, 1) := dw_28 wX10_act_c rfl
theorem dX10_act_184 : decode cX10_act 184 = .ok (.ifCond .ne 11, 3) := dw_154 wX10_act_c 0 11 rfl rfl rfl
theorem dX10_act_187 : decode cX10_act 187 = .ok (.bipush (-2), 2) := dn_16 wX10_act_c 254 rfl (by decide)
theorem dX10_act_189 : decode cX10_act 189 = .ok (.aload_n 0, 1) := dw_42 wX10_act_c rfl
theorem dX10_act_190 : decode cX10_act 190 = .ok (.getfield 242, 3) := dw_180 wX10_act_c 0 242 rfl rfl
theorem dX10_act_193 : decode cX10_act 193 = .ok (.isub, 1) := dw_100 wX10_act_c rfl
theorem dX10_act_194 : decode cX10_act 194 = .ok (.ireturn, 1) := dw_172 wX10_act_c rfl
theorem dX10_act_195 : decode cX10_act 195 = .ok (.aload_n 0, 1) := dw_42 wX10_act_c rfl
theorem dX10_act_196 : decode cX10_act 196 = .ok (.dup, 1) := dw_89 wX10_act_c rfl
theorem dX10_act_197 : decode cX10_act 197 = .ok (.getfield 321, 3) := dw_180 wX10_act_c 1 65 rfl rfl
theorem dX10_act_200 : decode cX10_act 200 = .ok (.iconst 1, 1) := dw_4 wX10_act_c rfl
theorem dX10_act_201 : decode cX10_act 201 = .ok (.iadd, 1) := dw_96 wX10_act_c rfl
theorem dX10_act_202 : decode cX10_act 202 = .ok (.putfield 321, 3) := dw_181 wX10_act_c 1 65 rfl rfl
theorem dX10_act_205 : decode cX10_act 205 = .ok (.aload_n 0, 1) := dw_42 wX10_act_c rfl
theorem dX10_act_206 : decode cX10_act 206 = .ok (.getfield 7, 3) := dw_180 wX10_act_c 0 7 rfl rfl
theorem dX10_act_209 : decode cX10_act 209 = .ok (.aload_n 0, 1) := dw_42 wX10_act_c rfl
theorem dX10_act_210 : decode cX10_act 210 = .ok (.getfield 321, 3) := dw_180 wX10_act_c 1 65 rfl rfl
theorem dX10_act_213 : decode cX10_act 213 = .ok (.iload_n 1, 1) := dw_27 wX10_act_c rfl
theorem dX10_act_214 : decode cX10_act 214 = .ok (.iastore, 1) := dw_79 wX10_act_c rfl
theorem dX10_act_215 : decode cX10_act 215 = .ok (.iconst 0, 1) := dw_3 wX10_act_c rfl
theorem dX10_act_216 : decode cX10_act 216 = .ok (.istore 4, 2) := dw_54 wX10_act_c 4 rfl
theorem dX10_act_218 : decode cX10_act 218 = .ok (.iload 4, 2) := dw_21 wX10_act_c 4 rfl
theorem dX10_act_220 : decode cX10_act 220 = .ok (.bipush 13, 2) := dw_16 wX10_act_c 13 rfl rfl rfl
theorem dX10_act_222 : decode cX10_act 222 = .ok (.if_icmp .ge 31, 3) := dw_162 wX10_act_c 0 31 rfl rfl rfl
theorem dX10_act_225 : decode cX10_act 225 = .ok (.aload_n 0, 1) := dw_42 wX10_act_c rfl
theorem dX10_act_226 : decode cX10_act 226 = .ok (.getfield 13, 3) := dw_180 wX10_act_c 0 13 rfl rfl
theorem dX10_act_229 : decode cX10_act 229 = .ok (.bipush 13, 2) := dw_16 wX10_act_c 13 rfl rfl rfl
theorem dX10_act_231 : decode cX10_act 231 = .ok (.aload_n 0, 1) := dw_42 wX10_act_c rfl
theorem dX10_act_232 : decode cX10_act 232 = .ok (.getfield 321, 3) := dw_180 wX10_act_c 1 65 rfl rfl
theorem dX10_act_235 : decode cX10_act 235 = .ok (.imul, 1) := dw_104 wX10_act_c rfl
theorem dX10_act_236 : decode cX10_act 236 = .ok (.iload 4, 2) := dw_21 wX10_act_c 4 rfl
theorem dX10_act_238 : decode cX10_act 238 = .ok (.iadd, 1) := dw_96 wX10_act_c rfl
theorem dX10_act_239 : decode cX10_act 239 = .ok (.aload_n 0, 1) := dw_42 wX10_act_c rfl
theorem dX10_act_240 : decode cX10_act 240 = .ok (.getfield 26, 3) := dw_180 wX10_act_c 0 26 rfl rfl
theorem dX10_act_243 : decode cX10_act 243 = .ok (.iload 4, 2) := dw_21 wX10_act_c 4 rfl
theorem dX10_act_245 : decode cX10_act 245 = .ok (.iaload, 1) := dw_46 wX10_act_c rfl
theorem dX10_act_246 : decode cX10_act 246 = .ok (.iastore, 1) := dw_79 wX10_act_c rfl
theorem dX10_act_247 : decode cX10_act 247 = .ok (.iinc 4 1, 3) := dw_132 wX10_act_c 4 1 rfl rfl rfl
theorem dX10_act_250 : decode cX10_act 250 = .ok (.goto (-32), 3) := dn_167 wX10_act_c 255 224 rfl (by decide)
theorem dX10_act_253 : decode cX10_act 253 = .ok (.aload_n 0, 1) := dw_42 wX10_act_c rfl
theorem dX10_act_254 : decode cX10_act 254 = .ok (.aload_n 0, 1) := dw_42 wX10_act_c rfl
theorem dX10_act_255 : decode cX10_act 255 = .ok (.getfield 321, 3) := dw_180 wX10_act_c 1 65 rfl rfl
theorem dX10_act_258 : decode cX10_act 258 = .ok (.invokevirtual 224, 3) := dw_182 wX10_act_c 0 224 rfl rfl
theorem dX10_act_261 : decode cX10_act 261 = .ok (.aload_n 0, 1) := dw_42 wX10_act_c rfl
theorem dX10_act_262 : decode cX10_act 262 = .ok (.getfield 321, 3) := dw_180 wX10_act_c 1 65 rfl rfl
theorem dX10_act_265 : decode cX10_act 265 = .ok (.iconst 1, 1) := dw_4 wX10_act_c rfl
theorem dX10_act_266 : decode cX10_act 266 = .ok (.isub, 1) := dw_100 wX10_act_c rfl
theorem dX10_act_267 : decode cX10_act 267 = .ok (.ireturn, 1) := dw_172 wX10_act_c rfl