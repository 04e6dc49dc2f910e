theorem dX9_livingJudges_0 : decode cX9_livingJudges 0 = .ok (.iconst 0, 1) := by decide +kernel
theorem dX9_livingJudges_1 : decode cX9_livingJudges 1 = .ok (.istore_n 1, 1) := by decide +kernel
theorem dX9_livingJudges_2 : decode cX9_livingJudges 2 = .ok (.iconst 0, 1) := by decide +kernel
theorem dX9_livingJudges_3 : decode cX9_livingJudges 3 = .ok (.istore_n 2, 1) := by decide +kernel
theorem dX9_livingJudges_4 : decode cX9_livingJudges 4 = .ok (.iload_n 2, 1) := by decide +kernel
theorem dX9_livingJudges_5 : decode cX9_livingJudges 5 = .ok (.aload_n 0, 1) := by decide +kernel
theorem dX9_livingJudges_6 : decode cX9_livingJudges 6 = .ok (.getfield 125, 3) := by decide +kernel
theorem dX9_livingJudges_9 : decode cX9_livingJudges 9 = .ok (.if_icmp .ge 41, 3) := by decide +kernel
theorem dX9_livingJudges_12 : decode cX9_livingJudges 12 = .ok (.iload_n 1, 1) := by decide +kernel
theorem dX9_livingJudges_13 : decode cX9_livingJudges 13 = .ok (.aload_n 0, 1) := by decide +kernel
theorem dX9_livingJudges_14 : decode cX9_livingJudges 14 = .ok (.getfield 35, 3) := by decide +kernel
theorem dX9_livingJudges_17 : decode cX9_livingJudges 17 = .ok (.iload_n 2, 1) := by decide +kernel
theorem dX9_livingJudges_18 : decode cX9_livingJudges 18 = .ok (.aaload, 1) := by decide +kernel
theorem dX9_livingJudges_19 : decode cX9_livingJudges 19 = .ok (.getfield 152, 3) := by decide +kernel
theorem dX9_livingJudges_22 : decode cX9_livingJudges 22 = .ok (.ifCond .eq 19, 3) := by decide +kernel
theorem dX9_livingJudges_25 : decode cX9_livingJudges 25 = .ok (.aload_n 0, 1) := by decide +kernel
theorem dX9_livingJudges_26 : decode cX9_livingJudges 26 = .ok (.getfield 35, 3) := by decide +kernel
theorem dX9_livingJudges_29 : decode cX9_livingJudges 29 = .ok (.iload_n 2, 1) := by decide +kernel
theorem dX9_livingJudges_30 : decode cX9_livingJudges 30 = .ok (.aaload, 1) := by decide +kernel
theorem dX9_livingJudges_31 : decode cX9_livingJudges 31 = .ok (.getfield 148, 3) := by decide +kernel
theorem dX9_livingJudges_34 : decode cX9_livingJudges 34 = .ok (.ifCond .ne 7, 3) := by decide +kernel
theorem dX9_livingJudges_37 : decode cX9_livingJudges 37 = .ok (.iconst 1, 1) := by decide +kernel
theorem dX9_livingJudges_38 : decode cX9_livingJudges 38 = .ok (.goto 4, 3) := by decide +kernel
theorem dX9_livingJudges_41 : decode cX9_livingJudges 41 = .ok (.iconst 0, 1) := by decide +kernel
theorem dX9_livingJudges_42 : decode cX9_livingJudges 42 = .ok (.iadd, 1) := by decide +kernel
theorem dX9_livingJudges_43 : decode cX9_livingJudges 43 = .ok (.istore_n 1, 1) := by decide +kernel
theorem dX9_livingJudges_44 : decode cX9_livingJudges 44 = .ok (.iinc 2 1, 3) := by decide +kernel
theorem dX9_livingJudges_47 : decode cX9_livingJudges 47 = .ok (.goto (-43), 3) := by decide +kernel
theorem dX9_livingJudges_50 : decode cX9_livingJudges 50 = .ok (.iload_n 1, 1) := by decide +kernel
theorem dX9_livingJudges_51 : decode cX9_livingJudges 51 = .ok (.ireturn, 1) := by decide +kernel
set_option maxHeartbeats 4000000 in
set_option maxRecDepth 100000 in
theorem t_X9_livingJudges (l : Launch) (dC : Nat → ClassId) (dI : Nat → Nat → Nat) (dA : Nat → ClassId) (L : List Nat) (h : hx_h) (sz : Nat) (x : Nat) (hT : hx_T T_tb L h) (gx : hx_g L h x 9) (qp : Nat) (gqp : hx_g L h qp 44) (f_x_7 : h.2.2 x 7 = some qp) (pf_x_8 : ∀ j : Nat, (j : Int) < (h.2.1 x 8).toInt → h.2.2 qp j ≠ none) : Met l yX9_livingJudges (Cond.code yX9_livingJudges cX9_livingJudges 3 (some .int) :: hx_all) ({ frames := 0, cells := 0, slots := 0, locals := 0 }) (va_Pc [.ref x] (hx_B T_tb (P_ty dA) (dC, dI) vwCl L h sz)) (va_Qi (fun (r : Int32) (u : List Nat × hx_h) => (True) ∧ hx_T T_tb u.1 u.2 ∧ hx_S T_tb [] L h u.1 u.2) (hx_E T_tb (P_ty dA) (dC, dI) vwCl (hx_A L sz)) (hx_A L sz)) 0 0 (hx_A L sz) := by
  refine hx_met (lv := [(0, .ref x)]) (by decide +kernel) rfl (Nat.le_of_ble_eq_true rfl) rfl ?_
  intro p e s m below meth c hx hb hml hr hlk hts0 hown hin hsz hW ls hl
  have hts : ∀ w ∈ hx_all, w.before _ s = true := fun w hw => hts0 w (List.mem_cons_of_mem _ hw)
  have hown : s.vm.findClass "SmallCourt" = some m.cls := hown
  have hM : hx_S T_tb [] L h L h := hx_S.rf
  refine lv_iconst (v := 0) hx hb dX9_livingJudges_0 (by decide) ?_
  refine lv_istore_n (lv' := [(1, .int (0 : Int32)), (0, .ref x)]) hx hb dX9_livingJudges_1 rfl hl (by decide) rfl (fun ls hl => ?_)
  refine lv_iconst (v := 0) hx hb dX9_livingJudges_2 (by decide) ?_
  refine lv_istore_n (lv' := [(2, .int (0 : Int32)), (1, .int (0 : Int32)), (0, .ref x)]) hx hb dX9_livingJudges_3 rfl hl (by decide) rfl (fun ls hl => ?_)
  have loop4 : ∀ (n4 : Nat) (iv4_2 iv4_1 : Int32) (H : Heap) (locs : List Loc) (hL1 : List Nat) (hl1 : hx_h) (ls : Array Slot), 0 ≤ iv4_2.toInt → iv4_2.toInt ≤ 40 → 40 < iv4_2.toInt + n4 → hx_W T_tb (P_ty dA) (dC, dI) vwCl (hx_A L sz) s.heap hL1 hl1 s H locs → hx_T T_tb hL1 hl1 → hx_S T_tb [] L h hL1 hl1 → hl1.2.2 x 7 = some qp → hx_g hL1 hl1 x 9 → hx_g hL1 hl1 qp 44 → (∀ j : Nat, (j : Int) < (hl1.2.1 x 8).toInt → hl1.2.2 qp j ≠ none) → lv_has ls 3 [(2, .int iv4_2), (1, .int iv4_1), (0, .ref x)] → W p l e ({ frames := 0, cells := 0, slots := 0, locals := 0 }) s m ([.ref x] : List Value).toArray below meth c H locs 0 0 (MQ below (va_Qi (fun (r : Int32) (u : List Nat × hx_h) => (True) ∧ hx_T T_tb u.1 u.2 ∧ hx_S T_tb [] L h u.1 u.2) (hx_E T_tb (P_ty dA) (dC, dI) vwCl (hx_A L sz)) (hx_A L sz)) ([.ref x] : List Value).toArray s 0 0 (hx_A L sz)) (F0 m 4 ls []) := by
    intro n4
    induction n4 with
    | zero => intro iv4_2 iv4_1 H locs hL1 hl1 ls bl4_2 bu4_2 hn4; exfalso; omega
    | succ n4 ih4 =>
      intro iv4_2 iv4_1 H locs hL1 hl1 ls bl4_2 bu4_2 hn4 hW hT hM f_x_7 gx gqp pf_x_8 hl
      refine lv_iload_n hx hb dX9_livingJudges_4 rfl (lv_at hl 0 rfl) ?_
      refine lv_aload_n hx hb dX9_livingJudges_5 rfl (lv_at hl 2 rfl) ?_
      refine hx_geti hx hb hts hC_9 hown hW hT gx tt_9 8 (by decide) rfl kw_372 ⟨rfl, rfl, rfl⟩ dX9_livingJudges_6 (fun x_1 ex_1 lx_1 ux_1 => ?_)
      have fx_1 := ex_1.symm
      refine hb_icmp_ge (zx := iv4_2.toInt) (zy := x_1.toInt) (tgt := 50) hx hb rfl rfl dX9_livingJudges_9 (by decide) (fun c_2 => ?_) (fun c_2 => ?_)
      · skip
        refine lv_iload_n hx hb dX9_livingJudges_50 rfl (lv_at hl 1 rfl) ?_
        exact hx_reti hx hb hr hlk hW ⟨trivial, hT, hM⟩ dX9_livingJudges_51
      · skip
        refine lv_iload_n hx hb dX9_livingJudges_12 rfl (lv_at hl 1 rfl) ?_
        refine lv_aload_n hx hb dX9_livingJudges_13 rfl (lv_at hl 2 rfl) ?_
        refine hk_getr hx hb hts hC_9 hown hW gx tt_9 7 (by decide) rfl kw_371 ⟨rfl, rfl, rfl⟩ f_x_7 dX9_livingJudges_14 ?_
        refine lv_iload_n hx hb dX9_livingJudges_17 rfl (lv_at hl 0 rfl) ?_
        refine hx_aaldN hx hb hW hT gqp tt_44 (t1 := 4) rfl ⟨by omega, by omega⟩ (pf_x_8 _ (by rw [fx_1]; exact hx_tnI (by omega) (by omega))) dX9_livingJudges_18 (fun q_3 fq_3 gq_3 => ?_)
        refine hx_geti hx hb hts hC_4 hown hW hT gq_3 tt_4 8 (by decide) rfl kw_625 ⟨rfl, rfl, rfl⟩ dX9_livingJudges_19 (fun x_4 ex_4 lx_4 ux_4 => ?_)
        have fx_4 := ex_4.symm
        refine hb_if_eq (zx := x_4.toInt) (tgt := 41) hx hb rfl dX9_livingJudges_22 (by decide) (fun c_5 => ?_) (fun c_5 => ?_)
        · skip
          refine lv_iconst (v := 0) hx hb dX9_livingJudges_41 (by decide) ?_
          refine lv_iadd hx hb dX9_livingJudges_42 ?_
          have rg_6 := i32_r iv4_1
          refine lv_topi (fun x_7 ex_7 => ?_)
          refine lv_istore_n (lv' := [(1, .int x_7), (2, .int iv4_2), (0, .ref x)]) hx hb dX9_livingJudges_43 rfl hl (by decide) rfl (fun ls hl => ?_)
          obtain ⟨x_8, ex_8⟩ : ∃ y : Int32, y = iv4_2 + Int32.ofInt 1 := ⟨_, rfl⟩
          have rg_9 := i32_r iv4_2
          have zx_8 : x_8.toInt = iv4_2.toInt + (1) := by rw [ex_8]; exact i32_add rfl (by decide) (by omega) (by omega)
          refine lv_iinc (v := x_8) (lv' := [(2, .int x_8), (1, .int x_7), (0, .ref x)]) hx hb dX9_livingJudges_44 hl (k := 1) rfl ex_8.symm (by decide) rfl (fun ls hl => ?_)
          refine lv_goto (tgt := 4) hx hb dX9_livingJudges_47 (by decide) ?_
          exact ih4 x_8 x_7 _ _ hL1 hl1 ls (by omega) (by omega) (by omega) hW hT hM f_x_7 gx gqp pf_x_8 (lv_sub hl [0, 1, 2] rfl)
        · skip
          refine lv_aload_n hx hb dX9_livingJudges_25 rfl (lv_at hl 2 rfl) ?_
          refine hk_getr hx hb hts hC_9 hown hW gx tt_9 7 (by decide) rfl kw_371 ⟨rfl, rfl, rfl⟩ f_x_7 dX9_livingJudges_26 ?_
          refine lv_iload_n hx hb dX9_livingJudges_29 rfl (lv_at hl 0 rfl) ?_
          refine hx_aaldN hx hb hW hT gqp tt_44 (t1 := 4) rfl ⟨by omega, by omega⟩ (pf_x_8 _ (by rw [fx_1]; exact hx_tnI (by omega) (by omega))) dX9_livingJudges_30 (fun q_10 fq_10 gq_10 => ?_)
          refine hx_geti hx hb hts hC_4 hown hW hT gq_10 tt_4 7 (by decide) rfl kw_623 ⟨rfl, rfl, rfl⟩ dX9_livingJudges_31 (fun x_11 ex_11 lx_11 ux_11 => ?_)
          have fx_11 := ex_11.symm
          refine hb_if_ne (zx := x_11.toInt) (tgt := 41) hx hb rfl dX9_livingJudges_34 (by decide) (fun c_12 => ?_) (fun c_12 => ?_)
          · skip
            refine lv_iconst (v := 0) hx hb dX9_livingJudges_41 (by decide) ?_
            refine lv_iadd hx hb dX9_livingJudges_42 ?_
            have rg_13 := i32_r iv4_1
            refine lv_topi (fun x_14 ex_14 => ?_)
            refine lv_istore_n (lv' := [(1, .int x_14), (2, .int iv4_2), (0, .ref x)]) hx hb dX9_livingJudges_43 rfl hl (by decide) rfl (fun ls hl => ?_)
            obtain ⟨x_15, ex_15⟩ : ∃ y : Int32, y = iv4_2 + Int32.ofInt 1 := ⟨_, rfl⟩
            have rg_16 := i32_r iv4_2
            have zx_15 : x_15.toInt = iv4_2.toInt + (1) := by rw [ex_15]; exact i32_add rfl (by decide) (by omega) (by omega)
            refine lv_iinc (v := x_15) (lv' := [(2, .int x_15), (1, .int x_14), (0, .ref x)]) hx hb dX9_livingJudges_44 hl (k := 1) rfl ex_15.symm (by decide) rfl (fun ls hl => ?_)
            refine lv_goto (tgt := 4) hx hb dX9_livingJudges_47 (by decide) ?_
            exact ih4 x_15 x_14 _ _ hL1 hl1 ls (by omega) (by omega) (by omega) hW hT hM f_x_7 gx gqp pf_x_8 (lv_sub hl [0, 1, 2] rfl)
          · skip
            refine lv_iconst (v := 1) hx hb dX9_livingJudges_37 (by decide) ?_
            refine lv_goto (tgt := 42) hx hb dX9_livingJudges_38 (by decide) ?_
            refine lv_iadd hx hb dX9_livingJudges_42 ?_
            have rg_17 := i32_r iv4_1
            refine lv_topi (fun x_18 ex_18 => ?_)
            refine lv_istore_n (lv' := [(1, .int x_18), (2, .int iv4_2), (0, .ref x)]) hx hb dX9_livingJudges_43 rfl hl (by decide) rfl (fun ls hl => ?_)
            obtain ⟨x_19, ex_19⟩ : ∃ y : Int32, y = iv4_2 + Int32.ofInt 1 := ⟨_, rfl⟩
            have rg_20 := i32_r iv4_2
            have zx_19 : x_19.toInt = iv4_2.toInt + (1) := by rw [ex_19]; exact i32_add rfl (by decide) (by omega) (by omega)
            refine lv_iinc (v := x_19) (lv' := [(2, .int x_19), (1, .int x_18), (0, .ref x)]) hx hb dX9_livingJudges_44 hl (k := 1) rfl ex_19.symm (by decide) rfl (fun ls hl => ?_)
            refine lv_goto (tgt := 4) hx hb dX9_livingJudges_47 (by decide) ?_
            exact ih4 x_19 x_18 _ _ hL1 hl1 ls (by omega) (by omega) (by omega) hW hT hM f_x_7 gx gqp pf_x_8 (lv_sub hl [0, 1, 2] rfl)
  exact loop4 41 (0 : Int32) (0 : Int32) _ _ L h ls (by decide) (by decide) (by decide) hW hT hM f_x_7 gx gqp pf_x_8 hl

theorem dX9_sumOfSplit_0 : decode cX9_sumOfSplit 0 = .ok (.iconst 0, 1) := by decide +kernel
theorem dX9_sumOfSplit_1 : decode cX9_sumOfSplit 1 = .ok (.istore_n 3, 1) := by decide +kernel
theorem dX9_sumOfSplit_2 : decode cX9_sumOfSplit 2 = .ok (.iconst 0, 1) := by decide +kernel
theorem dX9_sumOfSplit_3 : decode cX9_sumOfSplit 3 = .ok (.istore 4, 2) := by decide +kernel
theorem dX9_sumOfSplit_5 : decode cX9_sumOfSplit 5 = .ok (.iload 4, 2) := by decide +kernel
theorem dX9_sumOfSplit_7 : decode cX9_sumOfSplit 7 = .ok (.aload_n 0, 1) := by decide +kernel
theorem dX9_sumOfSplit_8 : decode cX9_sumOfSplit 8 = .ok (.getfield 181, 3) := by decide +kernel
theorem dX9_sumOfSplit_11 : decode cX9_sumOfSplit 11 = .ok (.if_icmp .ge 69, 3) := by decide +kernel
theorem dX9_sumOfSplit_14 : decode cX9_sumOfSplit 14 = .ok (.aload_n 0, 1) := by decide +kernel
theorem dX9_sumOfSplit_15 : decode cX9_sumOfSplit 15 = .ok (.getfield 48, 3) := by decide +kernel
theorem dX9_sumOfSplit_18 : decode cX9_sumOfSplit 18 = .ok (.iload 4, 2) := by decide +kernel
theorem dX9_sumOfSplit_20 : decode cX9_sumOfSplit 20 = .ok (.aaload, 1) := by decide +kernel
theorem dX9_sumOfSplit_21 : decode cX9_sumOfSplit 21 = .ok (.astore 5, 2) := by decide +kernel
theorem dX9_sumOfSplit_23 : decode cX9_sumOfSplit 23 = .ok (.aload 5, 2) := by decide +kernel
theorem dX9_sumOfSplit_25 : decode cX9_sumOfSplit 25 = .ok (.getfield 223, 3) := by decide +kernel
theorem dX9_sumOfSplit_28 : decode cX9_sumOfSplit 28 = .ok (.aload_n 1, 1) := by decide +kernel
theorem dX9_sumOfSplit_29 : decode cX9_sumOfSplit 29 = .ok (.getfield 223, 3) := by decide +kernel
theorem dX9_sumOfSplit_32 : decode cX9_sumOfSplit 32 = .ok (.if_acmp .ne 42, 3) := by decide +kernel
theorem dX9_sumOfSplit_35 : decode cX9_sumOfSplit 35 = .ok (.aload 5, 2) := by decide +kernel
theorem dX9_sumOfSplit_37 : decode cX9_sumOfSplit 37 = .ok (.getfield 212, 3) := by decide +kernel
theorem dX9_sumOfSplit_40 : decode cX9_sumOfSplit 40 = .ok (.aload_n 1, 1) := by decide +kernel
theorem dX9_sumOfSplit_41 : decode cX9_sumOfSplit 41 = .ok (.getfield 212, 3) := by decide +kernel
theorem dX9_sumOfSplit_44 : decode cX9_sumOfSplit 44 = .ok (.if_acmp .ne 30, 3) := by decide +kernel
theorem dX9_sumOfSplit_47 : decode cX9_sumOfSplit 47 = .ok (.aload 5, 2) := by decide +kernel
theorem dX9_sumOfSplit_49 : decode cX9_sumOfSplit 49 = .ok (.getfield 193, 3) := by decide +kernel
theorem dX9_sumOfSplit_52 : decode cX9_sumOfSplit 52 = .ok (.aload_n 1, 1) := by decide +kernel
theorem dX9_sumOfSplit_53 : decode cX9_sumOfSplit 53 = .ok (.getfield 193, 3) := by decide +kernel
theorem dX9_sumOfSplit_56 : decode cX9_sumOfSplit 56 = .ok (.aload_n 2, 1) := by decide +kernel
theorem dX9_sumOfSplit_57 : decode cX9_sumOfSplit 57 = .ok (.getfield 119, 3) := by decide +kernel
theorem dX9_sumOfSplit_60 : decode cX9_sumOfSplit 60 = .ok (.iconst 2, 1) := by decide +kernel
theorem dX9_sumOfSplit_61 : decode cX9_sumOfSplit 61 = .ok (.iaload, 1) := by decide +kernel
theorem dX9_sumOfSplit_62 : decode cX9_sumOfSplit 62 = .ok (.isub, 1) := by decide +kernel
theorem dX9_sumOfSplit_63 : decode cX9_sumOfSplit 63 = .ok (.if_icmp .lt 11, 3) := by decide +kernel
theorem dX9_sumOfSplit_66 : decode cX9_sumOfSplit 66 = .ok (.iload_n 3, 1) := by decide +kernel
theorem dX9_sumOfSplit_67 : decode cX9_sumOfSplit 67 = .ok (.aload 5, 2) := by decide +kernel
theorem dX9_sumOfSplit_69 : decode cX9_sumOfSplit 69 = .ok (.getfield 187, 3) := by decide +kernel
theorem dX9_sumOfSplit_72 : decode cX9_sumOfSplit 72 = .ok (.iadd, 1) := by decide +kernel
theorem dX9_sumOfSplit_73 : decode cX9_sumOfSplit 73 = .ok (.istore_n 3, 1) := by decide +kernel
theorem dX9_sumOfSplit_74 : decode cX9_sumOfSplit 74 = .ok (.iinc 4 1, 3) := by decide +kernel
theorem dX9_sumOfSplit_77 : decode cX9_sumOfSplit 77 = .ok (.goto (-72), 3) := by decide +kernel
theorem dX9_sumOfSplit_80 : decode cX9_sumOfSplit 80 = .ok (.iload_n 3, 1) := by decide +kernel
theorem dX9_sumOfSplit_81 : decode cX9_sumOfSplit 81 = .ok (.ireturn, 1) := by decide +kernel
theorem dX9_openInstalments_0 : decode cX9_openInstalments 0 = .ok (.iconst 0, 1) := by decide +kernel
theorem dX9_openInstalments_1 : decode cX9_openInstalments 1 = .ok (.istore_n 2, 1) := by decide +kernel
theorem dX9_openInstalments_2 : decode cX9_openInstalments 2 = .ok (.iconst 0, 1) := by decide +kernel
theorem dX9_openInstalments_3 : decode cX9_openInstalments 3 = .ok (.istore_n 3, 1) := by decide +kernel
theorem dX9_openInstalments_4 : decode cX9_openInstalments 4 = .ok (.iload_n 3, 1) := by decide +kernel
theorem dX9_openInstalments_5 : decode cX9_openInstalments 5 = .ok (.aload_n 0, 1) := by decide +kernel
theorem dX9_openInstalments_6 : decode cX9_openInstalments 6 = .ok (.getfield 181, 3) := by decide +kernel
theorem dX9_openInstalments_9 : decode cX9_openInstalments 9 = .ok (.if_icmp .ge 54, 3) := by decide +kernel
theorem dX9_openInstalments_12 : decode cX9_openInstalments 12 = .ok (.aload_n 0, 1) := by decide +kernel
theorem dX9_openInstalments_13 : decode cX9_openInstalments 13 = .ok (.getfield 48, 3) := by decide +kernel
theorem dX9_openInstalments_16 : decode cX9_openInstalments 16 = .ok (.iload_n 3, 1) := by decide +kernel
theorem dX9_openInstalments_17 : decode cX9_openInstalments 17 = .ok (.aaload, 1) := by decide +kernel
theorem dX9_openInstalments_18 : decode cX9_openInstalments 18 = .ok (.getfield 212, 3) := by decide +kernel
theorem dX9_openInstalments_21 : decode cX9_openInstalments 21 = .ok (.aload_n 1, 1) := by decide +kernel
theorem dX9_openInstalments_22 : decode cX9_openInstalments 22 = .ok (.if_acmp .ne 35, 3) := by decide +kernel
theorem dX9_openInstalments_25 : decode cX9_openInstalments 25 = .ok (.aload_n 0, 1) := by decide +kernel
theorem dX9_openInstalments_26 : decode cX9_openInstalments 26 = .ok (.getfield 48, 3) := by decide +kernel
theorem dX9_openInstalments_29 : decode cX9_openInstalments 29 = .ok (.iload_n 3, 1) := by decide +kernel
theorem dX9_openInstalments_30 : decode cX9_openInstalments 30 = .ok (.aaload, 1) := by decide +kernel
theorem dX9_openInstalments_31 : decode cX9_openInstalments 31 = .ok (.aload_n 0, 1) := by decide +kernel
theorem dX9_openInstalments_32 : decode cX9_openInstalments 32 = .ok (.getfield 58, 3) := by decide +kernel
theorem dX9_openInstalments_35 : decode cX9_openInstalments 35 = .ok (.aload_n 0, 1) := by decide +kernel
theorem dX9_openInstalments_36 : decode cX9_openInstalments 36 = .ok (.getfield 94, 3) := by decide +kernel
theorem dX9_openInstalments_39 : decode cX9_openInstalments 39 = .ok (.invokevirtual 274, 3) := by decide +kernel
theorem dX9_openInstalments_42 : decode cX9_openInstalments 42 = .ok (.ifCond .eq 15, 3) := by decide +kernel
theorem dX9_openInstalments_45 : decode cX9_openInstalments 45 = .ok (.iload_n 2, 1) := by decide +kernel
theorem dX9_openInstalments_46 : decode cX9_openInstalments 46 = .ok (.aload_n 0, 1) := by decide +kernel
theorem dX9_openInstalments_47 : decode cX9_openInstalments 47 = .ok (.getfield 48, 3) := by decide +kernel
theorem dX9_openInstalments_50 : decode cX9_openInstalments 50 = .ok (.iload_n 3, 1) := by decide +kernel
theorem dX9_openInstalments_51 : decode cX9_openInstalments 51 = .ok (.aaload, 1) := by decide +kernel
theorem dX9_openInstalments_52 : decode cX9_openInstalments 52 = .ok (.getfield 271, 3) := by decide +kernel
theorem dX9_openInstalments_55 : decode cX9_openInstalments 55 = .ok (.iadd, 1) := by decide +kernel
theorem dX9_openInstalments_56 : decode cX9_openInstalments 56 = .ok (.istore_n 2, 1) := by decide +kernel
theorem dX9_openInstalments_57 : decode cX9_openInstalments 57 = .ok (.iinc 3 1, 3) := by decide +kernel
theorem dX9_openInstalments_60 : decode cX9_openInstalments 60 = .ok (.goto (-56), 3) := by decide +kernel
theorem dX9_openInstalments_63 : decode cX9_openInstalments 63 = .ok (.iload_n 2, 1) := by decide +kernel
theorem dX9_openInstalments_64 : decode cX9_openInstalments 64 = .ok (.ireturn, 1) := by decide +kernel
set_option maxHeartbeats 4000000 in
set_option maxRecDepth 100000 in
theorem t_X9_openInstalments (l : Launch) (dC : Nat → ClassId) (dI : Nat → Nat → Nat) (dA : Nat → ClassId) (L : List Nat) (h : hx_h) (sz : Nat) (x : Nat) (v1 : Nat) (hT : hx_T T_tb L h) (gx : hx_g L h x 9) (gv1 : hx_g L h v1 4) (qc : Nat) (gqc : hx_g L h qc 45) (f_x_10 : h.2.2 x 10 = some qc) (pf_x_11 : ∀ j : Nat, (j : Int) < (h.2.1 x 11).toInt → h.2.2 qc j ≠ none) : Met l yX9_openInstalments (Cond.code yX9_openInstalments cX9_openInstalments 4 (some .int) :: hx_all) ({ frames := 5, cells := 0, slots := 0, locals := 118 }) (va_Pc [.ref x, .ref v1] (hx_B T_tb (P_ty dA) (dC, dI) vwCl L h sz)) (va_Qi (fun (r : Int32) (u : List Nat × hx_h) => (True) ∧ hx_T T_tb u.1 u.2 ∧ hx_S T_tb [] L h u.1 u.2) (hx_E T_tb (P_ty dA) (dC, dI) vwCl (hx_A L sz)) (hx_A L sz)) 0 0 (hx_A L sz) := by
  refine hx_met (lv := [(0, .ref x), (1, .ref v1)]) (by decide +kernel) rfl (Nat.le_of_ble_eq_true rfl) rfl ?_
  intro p e s m below meth c hx hb hml hr hlk hts0 hown hin hsz hW ls hl
  have hts : ∀ w ∈ hx_all, w.before _ s = true := fun w hw => hts0 w (List.mem_cons_of_mem _ hw)
  have hown : s.vm.findClass "SmallCourt" = some m.cls := hown
  have hM : hx_S T_tb [] L h L h := hx_S.rf
  refine lv_iconst (v := 0) hx hb dX9_openInstalments_0 (by decide) ?_
  refine lv_istore_n (lv' := [(2, .int (0 : Int32)), (0, .ref x), (1, .ref v1)]) hx hb dX9_openInstalments_1 rfl hl (by decide) rfl (fun ls hl => ?_)
  refine lv_iconst (v := 0) hx hb dX9_openInstalments_2 (by decide) ?_
  refine lv_istore_n (lv' := [(3, .int (0 : Int32)), (2, .int (0 : Int32)), (0, .ref x), (1, .ref v1)]) hx hb dX9_openInstalments_3 rfl hl (by decide) rfl (fun ls hl => ?_)
  have loop4 : ∀ (n4 : Nat) (iv4_3 iv4_2 : Int32) (H : Heap) (locs : List Loc) (hL1 : List Nat) (hl1 : hx_h) (ls : Array Slot), 0 ≤ iv4_3.toInt → iv4_3.toInt ≤ 100 → 100 < iv4_3.toInt + n4 → hx_W T_tb (P_ty dA) (dC, dI) vwCl (hx_A L sz) s.heap hL1 hl1 s H locs → hx_T T_tb hL1 hl1 → hx_S T_tb [] L h hL1 hl1 → hl1.2.2 x 10 = some qc → hx_g hL1 hl1 x 9 → hx_g hL1 hl1 v1 4 → hx_g hL1 hl1 qc 45 → (∀ j : Nat, (j : Int) < (hl1.2.1 x 11).toInt → hl1.2.2 qc j ≠ none) → lv_has ls 4 [(3, .int iv4_3), (2, .int iv4_2), (0, .ref x), (1, .ref v1)] → W p l e ({ frames := 5, cells := 0, slots := 0, locals := 118 }) s m ([.ref x, .ref v1] : List Value).toArray below meth c H locs 0 0 (MQ below (va_Qi (fun (r : Int32) (u : List Nat × hx_h) => (True) ∧ hx_T T_tb u.1 u.2 ∧ hx_S T_tb [] L h u.1 u.2) (hx_E T_tb (P_ty dA) (dC, dI) vwCl (hx_A L sz)) (hx_A L sz)) ([.ref x, .ref v1] : List Value).toArray s 0 0 (hx_A L sz)) (F0 m 4 ls []) := by
    intro n4
    induction n4 with
    | zero => intro iv4_3 iv4_2 H locs hL1 hl1 ls bl4_3 bu4_3 hn4; exfalso; omega
    | succ n4 ih4 =>
      intro iv4_3 iv4_2 H locs hL1 hl1 ls bl4_3 bu4_3 hn4 hW hT hM f_x_10 gx gv1 gqc pf_x_11 hl
      refine lv_iload_n hx hb dX9_openInstalments_4 rfl (lv_at hl 0 rfl) ?_
      refine lv_aload_n hx hb dX9_openInstalments_5 rfl (lv_at hl 2 rfl) ?_
      refine hx_geti hx hb hts hC_9 hown hW hT gx tt_9 11 (by decide) rfl kw_375 ⟨rfl, rfl, rfl⟩ dX9_openInstalments_6 (fun x_1 ex_1 lx_1 ux_1 => ?_)
      have fx_1 := ex_1.symm
      refine hb_icmp_ge (zx := iv4_3.toInt) (zy := x_1.toInt) (tgt := 63) hx hb rfl rfl dX9_openInstalments_9 (by decide) (fun c_2 => ?_) (fun c_2 => ?_)
      · skip
        refine lv_iload_n hx hb dX9_openInstalments_63 rfl (lv_at hl 1 rfl) ?_
        exact hx_reti hx hb hr hlk hW ⟨trivial, hT, hM⟩ dX9_openInstalments_64
      · skip
        refine lv_aload_n hx hb dX9_openInstalments_12 rfl (lv_at hl 2 rfl) ?_
        refine hk_getr hx hb hts hC_9 hown hW gx tt_9 10 (by decide) rfl kw_374 ⟨rfl, rfl, rfl⟩ f_x_10 dX9_openInstalments_13 ?_
        refine lv_iload_n hx hb dX9_openInstalments_16 rfl (lv_at hl 0 rfl) ?_
        refine hx_aaldN hx hb hW hT gqc tt_45 (t1 := 2) rfl ⟨by omega, by omega⟩ (pf_x_11 _ (by rw [fx_1]; exact hx_tnI (by omega) (by omega))) dX9_openInstalments_17 (fun q_3 fq_3 gq_3 => ?_)
        refine hx_getn hx hb hts hC_2 hown hW hT gq_3 tt_2 2 (by decide) rfl kw_733 ⟨rfl, rfl, rfl⟩ dX9_openInstalments_18 (fun q_4 fq_4 gq_4 => ?_)
        refine lv_aload_n hx hb dX9_openInstalments_21 rfl (lv_at hl 3 rfl) ?_
        refine lv_acmp_ne (rx := (some q_4)) (ry := (some v1)) (tgt := 57) hx hb dX9_openInstalments_22 (by decide) (fun c_5 => ?_) (fun c_5 => ?_)
        · skip
          obtain ⟨x_6, ex_6⟩ : ∃ y : Int32, y = iv4_3 + Int32.ofInt 1 := ⟨_, rfl⟩
          have rg_7 := i32_r iv4_3
          have zx_6 : x_6.toInt = iv4_3.toInt + (1) := by rw [ex_6]; exact i32_add rfl (by decide) (by omega) (by omega)
          refine lv_iinc (v := x_6) (lv' := [(3, .int x_6), (2, .int iv4_2), (0, .ref x), (1, .ref v1)]) hx hb dX9_openInstalments_57 hl (k := 0) rfl ex_6.symm (by decide) rfl (fun ls hl => ?_)
          refine lv_goto (tgt := 4) hx hb dX9_openInstalments_60 (by decide) ?_
          exact ih4 x_6 iv4_2 _ _ hL1 hl1 ls (by omega) (by omega) (by omega) hW hT hM f_x_10 gx gv1 gqc pf_x_11 (lv_sub hl [0, 1, 2, 3] rfl)
        · skip
          refine lv_aload_n hx hb dX9_openInstalments_25 rfl (lv_at hl 2 rfl) ?_
          refine hk_getr hx hb hts hC_9 hown hW gx tt_9 10 (by decide) rfl kw_374 ⟨rfl, rfl, rfl⟩ f_x_10 dX9_openInstalments_26 ?_
          refine lv_iload_n hx hb dX9_openInstalments_29 rfl (lv_at hl 0 rfl) ?_
          refine hx_aaldN hx hb hW hT gqc tt_45 (t1 := 2) rfl ⟨by omega, by omega⟩ (pf_x_11 _ (by rw [fx_1]; exact hx_tnI (by omega) (by omega))) dX9_openInstalments_30 (fun q_8 fq_8 gq_8 => ?_)
          refine lv_aload_n hx hb dX9_openInstalments_31 rfl (lv_at hl 2 rfl) ?_
          refine hx_getn hx hb hts hC_9 hown hW hT gx tt_9 14 (by decide) rfl kw_378 ⟨rfl, rfl, rfl⟩ dX9_openInstalments_32 (fun q_9 fq_9 gq_9 => ?_)
          refine lv_aload_n hx hb dX9_openInstalments_35 rfl (lv_at hl 2 rfl) ?_
          refine hx_geti hx hb hts hC_9 hown hW hT gx tt_9 2 (by decide) rfl kw_366 ⟨rfl, rfl, rfl⟩ dX9_openInstalments_36 (fun x_10 ex_10 lx_10 ux_10 => ?_)
          have fx_10 := ex_10.symm
          refine hx_goi (hx_runV (As := [.ref q_9, .int x_10]) (rest := []) ⟨hx, hb, hml, hown, hts⟩ hW gq_8 tt_2 (T := TX2) (N := 19) rfl (t_X2_isOpen l dC dI dA hL1 hl1 H.size q_8 q_9 x_10 hT gq_8 gq_9) (cwV 2 hts (hx_gV kw_857 kw_854 kw_855 kw_856 kw_110) rfl rfl rfl (by decide +kernel) ⟨Nat.le_of_ble_eq_true rfl, Nat.le_of_ble_eq_true rfl⟩) rfl hl.1 rfl (Nat.le_of_ble_eq_true rfl) dX9_openInstalments_39 ⟨Nat.le_of_ble_eq_true rfl, Nat.le_of_ble_eq_true rfl⟩) hW (fun r_13 L_11 h_12 H locs p_14 hW => ?_)
          obtain ⟨hr_15, hT, hs⟩ := p_14
          replace hT : hx_T T_tb L_11 h_12 := hT
          replace hs : hx_S T_tb [] hL1 hl1 L_11 h_12 := hs
          replace f_x_10 := (hs.o gx trivial rfl).2.trans f_x_10
          replace fx_1 := (hs.o gx trivial rfl).1.trans fx_1
          replace fq_4 := (hs.o gq_3 trivial rfl).2.trans fq_4
          replace fq_9 := (hs.o gx trivial rfl).2.trans fq_9
          replace fx_10 := (hs.o gx trivial rfl).1.trans fx_10
          replace pf_x_11 : ∀ j : Nat, (j : Int) < (h_12.2.1 x 11).toInt → h_12.2.2 qc j ≠ none := by
            intro j hj; rw [(hs.o gx trivial rfl).1] at hj; rw [(hs.a gqc rfl j).2]; exact pf_x_11 j hj
          replace hM := hM.tr (hs.mono (by decide))
          replace gx := gx.S hs
          replace gv1 := gv1.S hs
          replace gqc := gqc.S hs
          replace gq_3 := gq_3.S hs
          replace gq_4 := gq_4.S hs
          replace gq_8 := gq_8.S hs
          replace gq_9 := gq_9.S hs
          refine hb_if_eq (zx := r_13.toInt) (tgt := 57) hx hb rfl dX9_openInstalments_42 (by decide) (fun c_16 => ?_) (fun c_16 => ?_)
          · skip
            obtain ⟨x_17, ex_17⟩ : ∃ y : Int32, y = iv4_3 + Int32.ofInt 1 := ⟨_, rfl⟩
            have rg_18 := i32_r iv4_3
            have zx_17 : x_17.toInt = iv4_3.toInt + (1) := by rw [ex_17]; exact i32_add rfl (by decide) (by omega) (by omega)
            refine lv_iinc (v := x_17) (lv' := [(3, .int x_17), (2, .int iv4_2), (0, .ref x), (1, .ref v1)]) hx hb dX9_openInstalments_57 hl (k := 0) rfl ex_17.symm (by decide) rfl (fun ls hl => ?_)
            refine lv_goto (tgt := 4) hx hb dX9_openInstalments_60 (by decide) ?_
            exact ih4 x_17 iv4_2 _ _ L_11 h_12 ls (by omega) (by omega) (by omega) hW hT hM f_x_10 gx gv1 gqc pf_x_11 (lv_sub hl [0, 1, 2, 3] rfl)
          · skip
            refine lv_iload_n hx hb dX9_openInstalments_45 rfl (lv_at hl 1 rfl) ?_
            refine lv_aload_n hx hb dX9_openInstalments_46 rfl (lv_at hl 2 rfl) ?_
            refine hk_getr hx hb hts hC_9 hown hW gx tt_9 10 (by decide) rfl kw_374 ⟨rfl, rfl, rfl⟩ f_x_10 dX9_openInstalments_47 ?_
            refine lv_iload_n hx hb dX9_openInstalments_50 rfl (lv_at hl 0 rfl) ?_
            refine hx_aaldN hx hb hW hT gqc tt_45 (t1 := 2) rfl ⟨by omega, by omega⟩ (pf_x_11 _ (by rw [fx_1]; exact hx_tnI (by omega) (by omega))) dX9_openInstalments_51 (fun q_19 fq_19 gq_19 => ?_)
            refine hx_geti hx hb hts hC_2 hown hW hT gq_19 tt_2 14 (by decide) rfl kw_755 ⟨rfl, rfl, rfl⟩ dX9_openInstalments_52 (fun x_20 ex_20 lx_20 ux_20 => ?_)
            have fx_20 := ex_20.symm
            refine lv_iadd hx hb dX9_openInstalments_55 ?_
            have rg_21 := i32_r iv4_2
            have rg_22 := i32_r x_20
            refine lv_topi (fun x_23 ex_23 => ?_)
            refine lv_istore_n (lv' := [(2, .int x_23), (3, .int iv4_3), (0, .ref x), (1, .ref v1)]) hx hb dX9_openInstalments_56 rfl hl (by decide) rfl (fun ls hl => ?_)
            obtain ⟨x_24, ex_24⟩ : ∃ y : Int32, y = iv4_3 + Int32.ofInt 1 := ⟨_, rfl⟩
            have rg_25 := i32_r iv4_3
            have zx_24 : x_24.toInt = iv4_3.toInt + (1) := by rw [ex_24]; exact i32_add rfl (by decide) (by omega) (by omega)
            refine lv_iinc (v := x_24) (lv' := [(3, .int x_24), (2, .int x_23), (0, .ref x), (1, .ref v1)]) hx hb dX9_openInstalments_57 hl (k := 1) rfl ex_24.symm (by decide) rfl (fun ls hl => ?_)
            refine lv_goto (tgt := 4) hx hb dX9_openInstalments_60 (by decide) ?_
            exact ih4 x_24 x_23 _ _ L_11 h_12 ls (by omega) (by omega) (by omega) hW hT hM f_x_10 gx gv1 gqc pf_x_11 (lv_sub hl [0, 1, 2, 3] rfl)
  exact loop4 101 (0 : Int32) (0 : Int32) _ _ L h ls (by decide) (by decide) (by decide) hW hT hM f_x_10 gx gv1 gqc pf_x_11 hl
