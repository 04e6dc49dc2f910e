def wLX9_livingJudges_0 : List Nat := [3, 60, 3, 61, 28, 42, 180, 0, 125, 162, 0, 41, 27, 42, 180, 0, 35, 28, 50, 180, 0, 152, 153, 0, 19, 42, 180, 0, 35, 28, 50, 180, 0, 148, 154, 0, 7, 4, 167, 0, 4, 3, 96, 60, 132, 2, 1, 167, 255, 213, 27, 172]
theorem wX9_livingJudges_0 : (cX9_livingJudges.data.toList.map UInt8.toNat).drop 0 = wLX9_livingJudges_0 ++ ([]) := by decide +kernel
theorem dX9_livingJudges_0 : decode cX9_livingJudges 0 = .ok (.iconst 0, 1) := dq_3 (hz_wg wX9_livingJudges_0 (j := 0) (n := 3) rfl)
theorem dX9_livingJudges_1 : decode cX9_livingJudges 1 = .ok (.istore_n 1, 1) := dq_60 (hz_wg wX9_livingJudges_0 (j := 1) (n := 60) rfl)
theorem dX9_livingJudges_2 : decode cX9_livingJudges 2 = .ok (.iconst 0, 1) := dq_3 (hz_wg wX9_livingJudges_0 (j := 2) (n := 3) rfl)
theorem dX9_livingJudges_3 : decode cX9_livingJudges 3 = .ok (.istore_n 2, 1) := dq_61 (hz_wg wX9_livingJudges_0 (j := 3) (n := 61) rfl)
theorem dX9_livingJudges_4 : decode cX9_livingJudges 4 = .ok (.iload_n 2, 1) := dq_28 (hz_wg wX9_livingJudges_0 (j := 4) (n := 28) rfl)
theorem dX9_livingJudges_5 : decode cX9_livingJudges 5 = .ok (.aload_n 0, 1) := dq_42 (hz_wg wX9_livingJudges_0 (j := 5) (n := 42) rfl)
theorem dX9_livingJudges_6 : decode cX9_livingJudges 6 = .ok (.getfield 125, 3) := dq_180 (hz_wg wX9_livingJudges_0 (j := 6) (n := 180) rfl) (hz_wg wX9_livingJudges_0 (j := 7) (n := 0) rfl) (hz_wg wX9_livingJudges_0 (j := 8) (n := 125) rfl) rfl
theorem dX9_livingJudges_9 : decode cX9_livingJudges 9 = .ok (.if_icmp .ge 41, 3) := dq_162 (hz_wg wX9_livingJudges_0 (j := 9) (n := 162) rfl) (hz_wg wX9_livingJudges_0 (j := 10) (n := 0) rfl) (hz_wg wX9_livingJudges_0 (j := 11) (n := 41) rfl) (by decide)
theorem dX9_livingJudges_12 : decode cX9_livingJudges 12 = .ok (.iload_n 1, 1) := dq_27 (hz_wg wX9_livingJudges_0 (j := 12) (n := 27) rfl)
theorem dX9_livingJudges_13 : decode cX9_livingJudges 13 = .ok (.aload_n 0, 1) := dq_42 (hz_wg wX9_livingJudges_0 (j := 13) (n := 42) rfl)
theorem dX9_livingJudges_14 : decode cX9_livingJudges 14 = .ok (.getfield 35, 3) := dq_180 (hz_wg wX9_livingJudges_0 (j := 14) (n := 180) rfl) (hz_wg wX9_livingJudges_0 (j := 15) (n := 0) rfl) (hz_wg wX9_livingJudges_0 (j := 16) (n := 35) rfl) rfl
theorem dX9_livingJudges_17 : decode cX9_livingJudges 17 = .ok (.iload_n 2, 1) := dq_28 (hz_wg wX9_livingJudges_0 (j := 17) (n := 28) rfl)
theorem dX9_livingJudges_18 : decode cX9_livingJudges 18 = .ok (.aaload, 1) := dq_50 (hz_wg wX9_livingJudges_0 (j := 18) (n := 50) rfl)
theorem dX9_livingJudges_19 : decode cX9_livingJudges 19 = .ok (.getfield 152, 3) := dq_180 (hz_wg wX9_livingJudges_0 (j := 19) (n := 180) rfl) (hz_wg wX9_livingJudges_0 (j := 20) (n := 0) rfl) (hz_wg wX9_livingJudges_0 (j := 21) (n := 152) rfl) rfl
theorem dX9_livingJudges_22 : decode cX9_livingJudges 22 = .ok (.ifCond .eq 19, 3) := dq_153 (hz_wg wX9_livingJudges_0 (j := 22) (n := 153) rfl) (hz_wg wX9_livingJudges_0 (j := 23) (n := 0) rfl) (hz_wg wX9_livingJudges_0 (j := 24) (n := 19) rfl) (by decide)
theorem dX9_livingJudges_25 : decode cX9_livingJudges 25 = .ok (.aload_n 0, 1) := dq_42 (hz_wg wX9_livingJudges_0 (j := 25) (n := 42) rfl)
theorem dX9_livingJudges_26 : decode cX9_livingJudges 26 = .ok (.getfield 35, 3) := dq_180 (hz_wg wX9_livingJudges_0 (j := 26) (n := 180) rfl) (hz_wg wX9_livingJudges_0 (j := 27) (n := 0) rfl) (hz_wg wX9_livingJudges_0 (j := 28) (n := 35) rfl) rfl
theorem dX9_livingJudges_29 : decode cX9_livingJudges 29 = .ok (.iload_n 2, 1) := dq_28 (hz_wg wX9_livingJudges_0 (j := 29) (n := 28) rfl)
theorem dX9_livingJudges_30 : decode cX9_livingJudges 30 = .ok (.aaload, 1) := dq_50 (hz_wg wX9_livingJudges_0 (j := 30) (n := 50) rfl)
theorem dX9_livingJudges_31 : decode cX9_livingJudges 31 = .ok (.getfield 148, 3) := dq_180 (hz_wg wX9_livingJudges_0 (j := 31) (n := 180) rfl) (hz_wg wX9_livingJudges_0 (j := 32) (n := 0) rfl) (hz_wg wX9_livingJudges_0 (j := 33) (n := 148) rfl) rfl
theorem dX9_livingJudges_34 : decode cX9_livingJudges 34 = .ok (.ifCond .ne 7, 3) := dq_154 (hz_wg wX9_livingJudges_0 (j := 34) (n := 154) rfl) (hz_wg wX9_livingJudges_0 (j := 35) (n := 0) rfl) (hz_wg wX9_livingJudges_0 (j := 36) (n := 7) rfl) (by decide)
theorem dX9_livingJudges_37 : decode cX9_livingJudges 37 = .ok (.iconst 1, 1) := dq_4 (hz_wg wX9_livingJudges_0 (j := 37) (n := 4) rfl)
theorem dX9_livingJudges_38 : decode cX9_livingJudges 38 = .ok (.goto 4, 3) := dq_167 (hz_wg wX9_livingJudges_0 (j := 38) (n := 167) rfl) (hz_wg wX9_livingJudges_0 (j := 39) (n := 0) rfl) (hz_wg wX9_livingJudges_0 (j := 40) (n := 4) rfl) (by decide)
theorem dX9_livingJudges_41 : decode cX9_livingJudges 41 = .ok (.iconst 0, 1) := dq_3 (hz_wg wX9_livingJudges_0 (j := 41) (n := 3) rfl)
theorem dX9_livingJudges_42 : decode cX9_livingJudges 42 = .ok (.iadd, 1) := dq_96 (hz_wg wX9_livingJudges_0 (j := 42) (n := 96) rfl)
theorem dX9_livingJudges_43 : decode cX9_livingJudges 43 = .ok (.istore_n 1, 1) := dq_60 (hz_wg wX9_livingJudges_0 (j := 43) (n := 60) rfl)
theorem dX9_livingJudges_44 : decode cX9_livingJudges 44 = .ok (.iinc 2 1, 3) := dq_132 (hz_wg wX9_livingJudges_0 (j := 44) (n := 132) rfl) (hz_wg wX9_livingJudges_0 (j := 45) (n := 2) rfl) (hz_wg wX9_livingJudges_0 (j := 46) (n := 1) rfl) (by decide)
theorem dX9_livingJudges_47 : decode cX9_livingJudges 47 = .ok (.goto (-43), 3) := dq_167 (hz_wg wX9_livingJudges_0 (j := 47) (n := 167) rfl) (hz_wg wX9_livingJudges_0 (j := 48) (n := 255) rfl) (hz_wg wX9_livingJudges_0 (j := 49) (n := 213) rfl) (by decide)
theorem dX9_livingJudges_50 : decode cX9_livingJudges 50 = .ok (.iload_n 1, 1) := dq_27 (hz_wg wX9_livingJudges_0 (j := 50) (n := 27) rfl)
theorem dX9_livingJudges_51 : decode cX9_livingJudges 51 = .ok (.ireturn, 1) := dq_172 (hz_wg wX9_livingJudges_0 (j := 51) (n := 172) rfl)
set_option maxHeartbeats 4000000 in
set_option maxRecDepth 100000 in
theorem t_X9_livingJudges (l : Launch) (dC : Nat → ClassId) (dI : Nat → Nat → Nat) (dA : Nat → ClassId) (L : List Nat) (h : hx_h) (sz : Nat) (x : Nat) (hT : hx_T T_tb L h) (gx : hx_g L h x 9) (qp : Nat) (gqp : hx_g L h qp 44) (f_x_7 : h.2.2 x 7 = some qp) (pf_x_8 : ∀ j : Nat, (j : Int) < (h.2.1 x 8).toInt → h.2.2 qp j ≠ none) : Met l yX9_livingJudges (Cond.code yX9_livingJudges cX9_livingJudges 3 (some .int) :: hx_all) ({ frames := 0, cells := 0, slots := 0, locals := 0 }) (va_Pc [.ref x] (hx_B T_tb (P_ty dA) (dC, dI) vwCl L h sz)) (va_Qi (fun (r : Int32) (u : List Nat × hx_h) => (True) ∧ hx_T T_tb u.1 u.2 ∧ hx_S T_tb [] L h u.1 u.2) (hx_E T_tb (P_ty dA) (dC, dI) vwCl (hx_A L sz)) (hx_A L sz)) 0 0 (hx_A L sz) := by
  refine hx_met (lv := [(0, .ref x)]) (by decide +kernel) rfl (Nat.le_of_ble_eq_true rfl) rfl ?_
  intro p e s m below meth c hx hb hml hr hlk hts0 hown hin hsz hW ls hl
  have hts : ∀ w ∈ hx_all, w.before _ s = true := fun w hw => hts0 w (List.mem_cons_of_mem _ hw)
  have hown : s.vm.findClass "SmallCourt" = some m.cls := hown
  have hM : hx_S T_tb [] L h L h := hx_S.rf
  refine lv_iconst (v := 0) hx hb dX9_livingJudges_0 (by decide) ?_
  refine lv_istore_n (lv' := [(1, .int (0 : Int32)), (0, .ref x)]) hx hb dX9_livingJudges_1 rfl hl (by decide) rfl (fun ls hl => ?_)
  refine lv_iconst (v := 0) hx hb dX9_livingJudges_2 (by decide) ?_
  refine lv_istore_n (lv' := [(2, .int (0 : Int32)), (1, .int (0 : Int32)), (0, .ref x)]) hx hb dX9_livingJudges_3 rfl hl (by decide) rfl (fun ls hl => ?_)
  have loop4 : ∀ (n4 : Nat) (iv4_2 iv4_1 : Int32) (H : Heap) (locs : List Loc) (hL1 : List Nat) (hl1 : hx_h) (ls : Array Slot), 0 ≤ iv4_2.toInt → iv4_2.toInt ≤ 40 → 40 < iv4_2.toInt + n4 → hx_W T_tb (P_ty dA) (dC, dI) vwCl (hx_A L sz) s.heap hL1 hl1 s H locs → hx_T T_tb hL1 hl1 → hx_S T_tb [] L h hL1 hl1 → hl1.2.2 x 7 = some qp → hx_g hL1 hl1 x 9 → hx_g hL1 hl1 qp 44 → (∀ j : Nat, (j : Int) < (hl1.2.1 x 8).toInt → hl1.2.2 qp j ≠ none) → lv_has ls 3 [(2, .int iv4_2), (1, .int iv4_1), (0, .ref x)] → W p l e ({ frames := 0, cells := 0, slots := 0, locals := 0 }) s m ([.ref x] : List Value).toArray below meth c H locs 0 0 (MQ below (va_Qi (fun (r : Int32) (u : List Nat × hx_h) => (True) ∧ hx_T T_tb u.1 u.2 ∧ hx_S T_tb [] L h u.1 u.2) (hx_E T_tb (P_ty dA) (dC, dI) vwCl (hx_A L sz)) (hx_A L sz)) ([.ref x] : List Value).toArray s 0 0 (hx_A L sz)) (F0 m 4 ls []) := by
    intro n4
    induction n4 with
    | zero => intro iv4_2 iv4_1 H locs hL1 hl1 ls bl4_2 bu4_2 hn4; exfalso; omega
    | succ n4 ih4 =>
      intro iv4_2 iv4_1 H locs hL1 hl1 ls bl4_2 bu4_2 hn4 hW hT hM f_x_7 gx gqp pf_x_8 hl
      refine lv_iload_n hx hb dX9_livingJudges_4 rfl (lv_at hl 0 rfl) ?_
      refine lv_aload_n hx hb dX9_livingJudges_5 rfl (lv_at hl 2 rfl) ?_
      refine hx_geti hx hb hts hC_9 hown hW hT gx tt_9 8 (by decide) rfl kw_372 ⟨rfl, rfl, rfl⟩ dX9_livingJudges_6 (fun x_1 ex_1 lx_1 ux_1 => ?_)
      have fx_1 := ex_1.symm
      refine hb_icmp_ge (zx := iv4_2.toInt) (zy := x_1.toInt) (tgt := 50) hx hb rfl rfl dX9_livingJudges_9 (by decide) (fun c_2 => ?_) (fun c_2 => ?_)
      · skip
        refine lv_iload_n hx hb dX9_livingJudges_50 rfl (lv_at hl 1 rfl) ?_
        exact hx_reti hx hb hr hlk hW ⟨trivial, hT, hM⟩ dX9_livingJudges_51
      · skip
        refine lv_iload_n hx hb dX9_livingJudges_12 rfl (lv_at hl 1 rfl) ?_
        refine lv_aload_n hx hb dX9_livingJudges_13 rfl (lv_at hl 2 rfl) ?_
        refine hk_getr hx hb hts hC_9 hown hW gx tt_9 7 (by decide) rfl kw_371 ⟨rfl, rfl, rfl⟩ f_x_7 dX9_livingJudges_14 ?_
        refine lv_iload_n hx hb dX9_livingJudges_17 rfl (lv_at hl 0 rfl) ?_
        refine hx_aaldN hx hb hW hT gqp tt_44 (t1 := 4) rfl ⟨by omega, by omega⟩ (pf_x_8 _ (by rw [fx_1]; exact hx_tnI (by omega) (by omega))) dX9_livingJudges_18 (fun q_3 fq_3 gq_3 => ?_)
        refine hx_geti hx hb hts hC_4 hown hW hT gq_3 tt_4 8 (by decide) rfl kw_625 ⟨rfl, rfl, rfl⟩ dX9_livingJudges_19 (fun x_4 ex_4 lx_4 ux_4 => ?_)
        have fx_4 := ex_4.symm
        refine hb_if_eq (zx := x_4.toInt) (tgt := 41) hx hb rfl dX9_livingJudges_22 (by decide) (fun c_5 => ?_) (fun c_5 => ?_)
        · skip
          refine lv_iconst (v := 0) hx hb dX9_livingJudges_41 (by decide) ?_
          refine lv_iadd hx hb dX9_livingJudges_42 ?_
          have rg_6 := i32_r iv4_1
          refine lv_topi (fun x_7 ex_7 => ?_)
          refine lv_istore_n (lv' := [(1, .int x_7), (2, .int iv4_2), (0, .ref x)]) hx hb dX9_livingJudges_43 rfl hl (by decide) rfl (fun ls hl => ?_)
          obtain ⟨x_8, ex_8⟩ : ∃ y : Int32, y = iv4_2 + Int32.ofInt 1 := ⟨_, rfl⟩
          have rg_9 := i32_r iv4_2
          have zx_8 : x_8.toInt = iv4_2.toInt + (1) := by rw [ex_8]; exact i32_add rfl (by decide) (by omega) (by omega)
          refine lv_iinc (v := x_8) (lv' := [(2, .int x_8), (1, .int x_7), (0, .ref x)]) hx hb dX9_livingJudges_44 hl (k := 1) rfl ex_8.symm (by decide) rfl (fun ls hl => ?_)
          refine lv_goto (tgt := 4) hx hb dX9_livingJudges_47 (by decide) ?_
          exact ih4 x_8 x_7 _ _ hL1 hl1 ls (by omega) (by omega) (by omega) hW hT hM f_x_7 gx gqp pf_x_8 (lv_sub hl [0, 1, 2] rfl)
        · skip
          refine lv_aload_n hx hb dX9_livingJudges_25 rfl (lv_at hl 2 rfl) ?_
          refine hk_getr hx hb hts hC_9 hown hW gx tt_9 7 (by decide) rfl kw_371 ⟨rfl, rfl, rfl⟩ f_x_7 dX9_livingJudges_26 ?_
          refine lv_iload_n hx hb dX9_livingJudges_29 rfl (lv_at hl 0 rfl) ?_
          refine hx_aaldN hx hb hW hT gqp tt_44 (t1 := 4) rfl ⟨by omega, by omega⟩ (pf_x_8 _ (by rw [fx_1]; exact hx_tnI (by omega) (by omega))) dX9_livingJudges_30 (fun q_10 fq_10 gq_10 => ?_)
          refine hx_geti hx hb hts hC_4 hown hW hT gq_10 tt_4 7 (by decide) rfl kw_623 ⟨rfl, rfl, rfl⟩ dX9_livingJudges_31 (fun x_11 ex_11 lx_11 ux_11 => ?_)
          have fx_11 := ex_11.symm
          refine hb_if_ne (zx := x_11.toInt) (tgt := 41) hx hb rfl dX9_livingJudges_34 (by decide) (fun c_12 => ?_) (fun c_12 => ?_)
          · skip
            refine lv_iconst (v := 0) hx hb dX9_livingJudges_41 (by decide) ?_
            refine lv_iadd hx hb dX9_livingJudges_42 ?_
            have rg_13 := i32_r iv4_1
            refine lv_topi (fun x_14 ex_14 => ?_)
            refine lv_istore_n (lv' := [(1, .int x_14), (2, .int iv4_2), (0, .ref x)]) hx hb dX9_livingJudges_43 rfl hl (by decide) rfl (fun ls hl => ?_)
            obtain ⟨x_15, ex_15⟩ : ∃ y : Int32, y = iv4_2 + Int32.ofInt 1 := ⟨_, rfl⟩
            have rg_16 := i32_r iv4_2
            have zx_15 : x_15.toInt = iv4_2.toInt + (1) := by rw [ex_15]; exact i32_add rfl (by decide) (by omega) (by omega)
            refine lv_iinc (v := x_15) (lv' := [(2, .int x_15), (1, .int x_14), (0, .ref x)]) hx hb dX9_livingJudges_44 hl (k := 1) rfl ex_15.symm (by decide) rfl (fun ls hl => ?_)
            refine lv_goto (tgt := 4) hx hb dX9_livingJudges_47 (by decide) ?_
            exact ih4 x_15 x_14 _ _ hL1 hl1 ls (by omega) (by omega) (by omega) hW hT hM f_x_7 gx gqp pf_x_8 (lv_sub hl [0, 1, 2] rfl)
          · skip
            refine lv_iconst (v := 1) hx hb dX9_livingJudges_37 (by decide) ?_
            refine lv_goto (tgt := 42) hx hb dX9_livingJudges_38 (by decide) ?_
            refine lv_iadd hx hb dX9_livingJudges_42 ?_
            have rg_17 := i32_r iv4_1
            refine lv_topi (fun x_18 ex_18 => ?_)
            refine lv_istore_n (lv' := [(1, .int x_18), (2, .int iv4_2), (0, .ref x)]) hx hb dX9_livingJudges_43 rfl hl (by decide) rfl (fun ls hl => ?_)
            obtain ⟨x_19, ex_19⟩ : ∃ y : Int32, y = iv4_2 + Int32.ofInt 1 := ⟨_, rfl⟩
            have rg_20 := i32_r iv4_2
            have zx_19 : x_19.toInt = iv4_2.toInt + (1) := by rw [ex_19]; exact i32_add rfl (by decide) (by omega) (by omega)
            refine lv_iinc (v := x_19) (lv' := [(2, .int x_19), (1, .int x_18), (0, .ref x)]) hx hb dX9_livingJudges_44 hl (k := 1) rfl ex_19.symm (by decide) rfl (fun ls hl => ?_)
            refine lv_goto (tgt := 4) hx hb dX9_livingJudges_47 (by decide) ?_
            exact ih4 x_19 x_18 _ _ hL1 hl1 ls (by omega) (by omega) (by omega) hW hT hM f_x_7 gx gqp pf_x_8 (lv_sub hl [0, 1, 2] rfl)
  exact loop4 41 (0 : Int32) (0 : Int32) _ _ L h ls (by decide) (by decide) (by decide) hW hT hM f_x_7 gx gqp pf_x_8 hl

def wLX9_sumOfSplit_0 : List Nat := [3, 62, 3, 54, 4, 21, 4, 42, 180, 0, 181, 162, 0, 69, 42, 180, 0, 48, 21, 4, 50, 58, 5, 25, 5, 180, 0, 223, 43, 180, 0, 223, 166, 0, 42, 25, 5, 180, 0, 212, 43, 180, 0, 212, 166, 0, 30, 25, 5, 180, 0, 193, 43, 180, 0, 193, 44, 180, 0, 119, 5, 46, 100, 161]
def wLX9_sumOfSplit_1 : List Nat := [0, 11, 29, 25, 5, 180, 0, 187, 96, 62, 132, 4, 1, 167, 255, 184, 29, 172]
theorem wX9_sumOfSplit_0 : (cX9_sumOfSplit.data.toList.map UInt8.toNat).drop 0 = wLX9_sumOfSplit_0 ++ (wLX9_sumOfSplit_1 ++ ([])) := by decide +kernel
theorem wX9_sumOfSplit_1 : (cX9_sumOfSplit.data.toList.map UInt8.toNat).drop 64 = wLX9_sumOfSplit_1 ++ ([]) := hz_wn wX9_sumOfSplit_0 rfl
theorem dX9_sumOfSplit_0 : decode cX9_sumOfSplit 0 = .ok (.iconst 0, 1) := dq_3 (hz_wg wX9_sumOfSplit_0 (j := 0) (n := 3) rfl)
theorem dX9_sumOfSplit_1 : decode cX9_sumOfSplit 1 = .ok (.istore_n 3, 1) := dq_62 (hz_wg wX9_sumOfSplit_0 (j := 1) (n := 62) rfl)
theorem dX9_sumOfSplit_2 : decode cX9_sumOfSplit 2 = .ok (.iconst 0, 1) := dq_3 (hz_wg wX9_sumOfSplit_0 (j := 2) (n := 3) rfl)
theorem dX9_sumOfSplit_3 : decode cX9_sumOfSplit 3 = .ok (.istore 4, 2) := dq_54 (hz_wg wX9_sumOfSplit_0 (j := 3) (n := 54) rfl) (hz_wg wX9_sumOfSplit_0 (j := 4) (n := 4) rfl)
theorem dX9_sumOfSplit_5 : decode cX9_sumOfSplit 5 = .ok (.iload 4, 2) := dq_21 (hz_wg wX9_sumOfSplit_0 (j := 5) (n := 21) rfl) (hz_wg wX9_sumOfSplit_0 (j := 6) (n := 4) rfl)
theorem dX9_sumOfSplit_7 : decode cX9_sumOfSplit 7 = .ok (.aload_n 0, 1) := dq_42 (hz_wg wX9_sumOfSplit_0 (j := 7) (n := 42) rfl)
theorem dX9_sumOfSplit_8 : decode cX9_sumOfSplit 8 = .ok (.getfield 181, 3) := dq_180 (hz_wg wX9_sumOfSplit_0 (j := 8) (n := 180) rfl) (hz_wg wX9_sumOfSplit_0 (j := 9) (n := 0) rfl) (hz_wg wX9_sumOfSplit_0 (j := 10) (n := 181) rfl) rfl
theorem dX9_sumOfSplit_11 : decode cX9_sumOfSplit 11 = .ok (.if_icmp .ge 69, 3) := dq_162 (hz_wg wX9_sumOfSplit_0 (j := 11) (n := 162) rfl) (hz_wg wX9_sumOfSplit_0 (j := 12) (n := 0) rfl) (hz_wg wX9_sumOfSplit_0 (j := 13) (n := 69) rfl) (by decide)
theorem dX9_sumOfSplit_14 : decode cX9_sumOfSplit 14 = .ok (.aload_n 0, 1) := dq_42 (hz_wg wX9_sumOfSplit_0 (j := 14) (n := 42) rfl)
theorem dX9_sumOfSplit_15 : decode cX9_sumOfSplit 15 = .ok (.getfield 48, 3) := dq_180 (hz_wg wX9_sumOfSplit_0 (j := 15) (n := 180) rfl) (hz_wg wX9_sumOfSplit_0 (j := 16) (n := 0) rfl) (hz_wg wX9_sumOfSplit_0 (j := 17) (n := 48) rfl) rfl
theorem dX9_sumOfSplit_18 : decode cX9_sumOfSplit 18 = .ok (.iload 4, 2) := dq_21 (hz_wg wX9_sumOfSplit_0 (j := 18) (n := 21) rfl) (hz_wg wX9_sumOfSplit_0 (j := 19) (n := 4) rfl)
theorem dX9_sumOfSplit_20 : decode cX9_sumOfSplit 20 = .ok (.aaload, 1) := dq_50 (hz_wg wX9_sumOfSplit_0 (j := 20) (n := 50) rfl)
theorem dX9_sumOfSplit_21 : decode cX9_sumOfSplit 21 = .ok (.astore 5, 2) := dq_58 (hz_wg wX9_sumOfSplit_0 (j := 21) (n := 58) rfl) (hz_wg wX9_sumOfSplit_0 (j := 22) (n := 5) rfl)
theorem dX9_sumOfSplit_23 : decode cX9_sumOfSplit 23 = .ok (.aload 5, 2) := dq_25 (hz_wg wX9_sumOfSplit_0 (j := 23) (n := 25) rfl) (hz_wg wX9_sumOfSplit_0 (j := 24) (n := 5) rfl)
theorem dX9_sumOfSplit_25 : decode cX9_sumOfSplit 25 = .ok (.getfield 223, 3) := dq_180 (hz_wg wX9_sumOfSplit_0 (j := 25) (n := 180) rfl) (hz_wg wX9_sumOfSplit_0 (j := 26) (n := 0) rfl) (hz_wg wX9_sumOfSplit_0 (j := 27) (n := 223) rfl) rfl
theorem dX9_sumOfSplit_28 : decode cX9_sumOfSplit 28 = .ok (.aload_n 1, 1) := dq_43 (hz_wg wX9_sumOfSplit_0 (j := 28) (n := 43) rfl)
theorem dX9_sumOfSplit_29 : decode cX9_sumOfSplit 29 = .ok (.getfield 223, 3) := dq_180 (hz_wg wX9_sumOfSplit_0 (j := 29) (n := 180) rfl) (hz_wg wX9_sumOfSplit_0 (j := 30) (n := 0) rfl) (hz_wg wX9_sumOfSplit_0 (j := 31) (n := 223) rfl) rfl
theorem dX9_sumOfSplit_32 : decode cX9_sumOfSplit 32 = .ok (.if_acmp .ne 42, 3) := dq_166 (hz_wg wX9_sumOfSplit_0 (j := 32) (n := 166) rfl) (hz_wg wX9_sumOfSplit_0 (j := 33) (n := 0) rfl) (hz_wg wX9_sumOfSplit_0 (j := 34) (n := 42) rfl) (by decide)
theorem dX9_sumOfSplit_35 : decode cX9_sumOfSplit 35 = .ok (.aload 5, 2) := dq_25 (hz_wg wX9_sumOfSplit_0 (j := 35) (n := 25) rfl) (hz_wg wX9_sumOfSplit_0 (j := 36) (n := 5) rfl)
theorem dX9_sumOfSplit_37 : decode cX9_sumOfSplit 37 = .ok (.getfield 212, 3) := dq_180 (hz_wg wX9_sumOfSplit_0 (j := 37) (n := 180) rfl) (hz_wg wX9_sumOfSplit_0 (j := 38) (n := 0) rfl) (hz_wg wX9_sumOfSplit_0 (j := 39) (n := 212) rfl) rfl
theorem dX9_sumOfSplit_40 : decode cX9_sumOfSplit 40 = .ok (.aload_n 1, 1) := dq_43 (hz_wg wX9_sumOfSplit_0 (j := 40) (n := 43) rfl)
theorem dX9_sumOfSplit_41 : decode cX9_sumOfSplit 41 = .ok (.getfield 212, 3) := dq_180 (hz_wg wX9_sumOfSplit_0 (j := 41) (n := 180) rfl) (hz_wg wX9_sumOfSplit_0 (j := 42) (n := 0) rfl) (hz_wg wX9_sumOfSplit_0 (j := 43) (n := 212) rfl) rfl
theorem dX9_sumOfSplit_44 : decode cX9_sumOfSplit 44 = .ok (.if_acmp .ne 30, 3) := dq_166 (hz_wg wX9_sumOfSplit_0 (j := 44) (n := 166) rfl) (hz_wg wX9_sumOfSplit_0 (j := 45) (n := 0) rfl) (hz_wg wX9_sumOfSplit_0 (j := 46) (n := 30) rfl) (by decide)
theorem dX9_sumOfSplit_47 : decode cX9_sumOfSplit 47 = .ok (.aload 5, 2) := dq_25 (hz_wg wX9_sumOfSplit_0 (j := 47) (n := 25) rfl) (hz_wg wX9_sumOfSplit_0 (j := 48) (n := 5) rfl)
theorem dX9_sumOfSplit_49 : decode cX9_sumOfSplit 49 = .ok (.getfield 193, 3) := dq_180 (hz_wg wX9_sumOfSplit_0 (j := 49) (n := 180) rfl) (hz_wg wX9_sumOfSplit_0 (j := 50) (n := 0) rfl) (hz_wg wX9_sumOfSplit_0 (j := 51) (n := 193) rfl) rfl
theorem dX9_sumOfSplit_52 : decode cX9_sumOfSplit 52 = .ok (.aload_n 1, 1) := dq_43 (hz_wg wX9_sumOfSplit_0 (j := 52) (n := 43) rfl)
theorem dX9_sumOfSplit_53 : decode cX9_sumOfSplit 53 = .ok (.getfield 193, 3) := dq_180 (hz_wg wX9_sumOfSplit_0 (j := 53) (n := 180) rfl) (hz_wg wX9_sumOfSplit_0 (j := 54) (n := 0) rfl) (hz_wg wX9_sumOfSplit_0 (j := 55) (n := 193) rfl) rfl
theorem dX9_sumOfSplit_56 : decode cX9_sumOfSplit 56 = .ok (.aload_n 2, 1) := dq_44 (hz_wg wX9_sumOfSplit_0 (j := 56) (n := 44) rfl)
theorem dX9_sumOfSplit_57 : decode cX9_sumOfSplit 57 = .ok (.getfield 119, 3) := dq_180 (hz_wg wX9_sumOfSplit_0 (j := 57) (n := 180) rfl) (hz_wg wX9_sumOfSplit_0 (j := 58) (n := 0) rfl) (hz_wg wX9_sumOfSplit_0 (j := 59) (n := 119) rfl) rfl
theorem dX9_sumOfSplit_60 : decode cX9_sumOfSplit 60 = .ok (.iconst 2, 1) := dq_5 (hz_wg wX9_sumOfSplit_0 (j := 60) (n := 5) rfl)
theorem dX9_sumOfSplit_61 : decode cX9_sumOfSplit 61 = .ok (.iaload, 1) := dq_46 (hz_wg wX9_sumOfSplit_0 (j := 61) (n := 46) rfl)
theorem dX9_sumOfSplit_62 : decode cX9_sumOfSplit 62 = .ok (.isub, 1) := dq_100 (hz_wg wX9_sumOfSplit_0 (j := 62) (n := 100) rfl)
theorem dX9_sumOfSplit_63 : decode cX9_sumOfSplit 63 = .ok (.if_icmp .lt 11, 3) := dq_161 (hz_wg wX9_sumOfSplit_0 (j := 63) (n := 161) rfl) (hz_wg wX9_sumOfSplit_1 (j := 0) (n := 0) rfl) (hz_wg wX9_sumOfSplit_1 (j := 1) (n := 11) rfl) (by decide)
theorem dX9_sumOfSplit_66 : decode cX9_sumOfSplit 66 = .ok (.iload_n 3, 1) := dq_29 (hz_wg wX9_sumOfSplit_1 (j := 2) (n := 29) rfl)
theorem dX9_sumOfSplit_67 : decode cX9_sumOfSplit 67 = .ok (.aload 5, 2) := dq_25 (hz_wg wX9_sumOfSplit_1 (j := 3) (n := 25) rfl) (hz_wg wX9_sumOfSplit_1 (j := 4) (n := 5) rfl)
theorem dX9_sumOfSplit_69 : decode cX9_sumOfSplit 69 = .ok (.getfield 187, 3) := dq_180 (hz_wg wX9_sumOfSplit_1 (j := 5) (n := 180) rfl) (hz_wg wX9_sumOfSplit_1 (j := 6) (n := 0) rfl) (hz_wg wX9_sumOfSplit_1 (j := 7) (n := 187) rfl) rfl
theorem dX9_sumOfSplit_72 : decode cX9_sumOfSplit 72 = .ok (.iadd, 1) := dq_96 (hz_wg wX9_sumOfSplit_1 (j := 8) (n := 96) rfl)
theorem dX9_sumOfSplit_73 : decode cX9_sumOfSplit 73 = .ok (.istore_n 3, 1) := dq_62 (hz_wg wX9_sumOfSplit_1 (j := 9) (n := 62) rfl)
theorem dX9_sumOfSplit_74 : decode cX9_sumOfSplit 74 = .ok (.iinc 4 1, 3) := dq_132 (hz_wg wX9_sumOfSplit_1 (j := 10) (n := 132) rfl) (hz_wg wX9_sumOfSplit_1 (j := 11) (n := 4) rfl) (hz_wg wX9_sumOfSplit_1 (j := 12) (n := 1) rfl) (by decide)
theorem dX9_sumOfSplit_77 : decode cX9_sumOfSplit 77 = .ok (.goto (-72), 3) := dq_167 (hz_wg wX9_sumOfSplit_1 (j := 13) (n := 167) rfl) (hz_wg wX9_sumOfSplit_1 (j := 14) (n := 255) rfl) (hz_wg wX9_sumOfSplit_1 (j := 15) (n := 184) rfl) (by decide)
theorem dX9_sumOfSplit_80 : decode cX9_sumOfSplit 80 = .ok (.iload_n 3, 1) := dq_29 (hz_wg wX9_sumOfSplit_1 (j := 16) (n := 29) rfl)
theorem dX9_sumOfSplit_81 : decode cX9_sumOfSplit 81 = .ok (.ireturn, 1) := dq_172 (hz_wg wX9_sumOfSplit_1 (j := 17) (n := 172) rfl)
set_option maxHeartbeats 4000000 in
set_option maxRecDepth 100000 in
theorem t_X9_sumOfSplit (l : Launch) (dC : Nat → ClassId) (dI : Nat → Nat → Nat) (dA : Nat → ClassId) (L : List Nat) (h : hx_h) (sz : Nat) (x : Nat) (v1 : Nat) (v2 : Nat) (hT : hx_T T_tb L h) (gx : hx_g L h x 9) (gv1 : hx_g L h v1 2) (gv2 : hx_g L h v2 0) (qc : Nat) (gqc : hx_g L h qc 45) (f_x_10 : h.2.2 x 10 = some qc) (pf_x_11 : ∀ j : Nat, (j : Int) < (h.2.1 x 11).toInt → h.2.2 qc j ≠ none) : Met l yX9_sumOfSplit (Cond.code yX9_sumOfSplit cX9_sumOfSplit 6 (some .int) :: hx_all) ({ frames := 0, cells := 0, slots := 0, locals := 0 }) (va_Pc [.ref x, .ref v1, .ref v2] (hx_B T_tb (P_ty dA) (dC, dI) vwCl L h sz)) (va_Qi (fun (r : Int32) (u : List Nat × hx_h) => (True) ∧ hx_T T_tb u.1 u.2 ∧ hx_S T_tb [] L h u.1 u.2) (hx_E T_tb (P_ty dA) (dC, dI) vwCl (hx_A L sz)) (hx_A L sz)) 0 0 (hx_A L sz) := by
  refine hx_met (lv := [(0, .ref x), (1, .ref v1), (2, .ref v2)]) (by decide +kernel) rfl (Nat.le_of_ble_eq_true rfl) rfl ?_
  intro p e s m below meth c hx hb hml hr hlk hts0 hown hin hsz hW ls hl
  have hts : ∀ w ∈ hx_all, w.before _ s = true := fun w hw => hts0 w (List.mem_cons_of_mem _ hw)
  have hown : s.vm.findClass "SmallCourt" = some m.cls := hown
  have hM : hx_S T_tb [] L h L h := hx_S.rf
  refine lv_iconst (v := 0) hx hb dX9_sumOfSplit_0 (by decide) ?_
  refine lv_istore_n (lv' := [(3, .int (0 : Int32)), (0, .ref x), (1, .ref v1), (2, .ref v2)]) hx hb dX9_sumOfSplit_1 rfl hl (by decide) rfl (fun ls hl => ?_)
  refine lv_iconst (v := 0) hx hb dX9_sumOfSplit_2 (by decide) ?_
  refine lv_istore (lv' := [(4, .int (0 : Int32)), (3, .int (0 : Int32)), (0, .ref x), (1, .ref v1), (2, .ref v2)]) hx hb dX9_sumOfSplit_3 hl (by decide) rfl (fun ls hl => ?_)
  have loop5 : ∀ (n5 : Nat) (iv5_4 iv5_3 : Int32) (H : Heap) (locs : List Loc) (hL1 : List Nat) (hl1 : hx_h) (ls : Array Slot), 0 ≤ iv5_4.toInt → iv5_4.toInt ≤ 100 → 100 < iv5_4.toInt + n5 → hx_W T_tb (P_ty dA) (dC, dI) vwCl (hx_A L sz) s.heap hL1 hl1 s H locs → hx_T T_tb hL1 hl1 → hx_S T_tb [] L h hL1 hl1 → hl1.2.2 x 10 = some qc → hx_g hL1 hl1 x 9 → hx_g hL1 hl1 v1 2 → hx_g hL1 hl1 v2 0 → hx_g hL1 hl1 qc 45 → (∀ j : Nat, (j : Int) < (hl1.2.1 x 11).toInt → hl1.2.2 qc j ≠ none) → lv_has ls 6 [(4, .int iv5_4), (3, .int iv5_3), (0, .ref x), (1, .ref v1), (2, .ref v2)] → W p l e ({ frames := 0, cells := 0, slots := 0, locals := 0 }) s m ([.ref x, .ref v1, .ref v2] : List Value).toArray below meth c H locs 0 0 (MQ below (va_Qi (fun (r : Int32) (u : List Nat × hx_h) => (True) ∧ hx_T T_tb u.1 u.2 ∧ hx_S T_tb [] L h u.1 u.2) (hx_E T_tb (P_ty dA) (dC, dI) vwCl (hx_A L sz)) (hx_A L sz)) ([.ref x, .ref v1, .ref v2] : List Value).toArray s 0 0 (hx_A L sz)) (F0 m 5 ls []) := by
    intro n5
    induction n5 with
    | zero => intro iv5_4 iv5_3 H locs hL1 hl1 ls bl5_4 bu5_4 hn5; exfalso; omega
    | succ n5 ih5 =>
      intro iv5_4 iv5_3 H locs hL1 hl1 ls bl5_4 bu5_4 hn5 hW hT hM f_x_10 gx gv1 gv2 gqc pf_x_11 hl
      refine lv_iload hx hb dX9_sumOfSplit_5 (lv_at hl 0 rfl) ?_
      refine lv_aload_n hx hb dX9_sumOfSplit_7 rfl (lv_at hl 2 rfl) ?_
      refine hx_geti hx hb hts hC_9 hown hW hT gx tt_9 11 (by decide) rfl kw_375 ⟨rfl, rfl, rfl⟩ dX9_sumOfSplit_8 (fun x_1 ex_1 lx_1 ux_1 => ?_)
      have fx_1 := ex_1.symm
      refine hb_icmp_ge (zx := iv5_4.toInt) (zy := x_1.toInt) (tgt := 80) hx hb rfl rfl dX9_sumOfSplit_11 (by decide) (fun c_2 => ?_) (fun c_2 => ?_)
      · skip
        refine lv_iload_n hx hb dX9_sumOfSplit_80 rfl (lv_at hl 1 rfl) ?_
        exact hx_reti hx hb hr hlk hW ⟨trivial, hT, hM⟩ dX9_sumOfSplit_81
      · skip
        refine lv_aload_n hx hb dX9_sumOfSplit_14 rfl (lv_at hl 2 rfl) ?_
        refine hk_getr hx hb hts hC_9 hown hW gx tt_9 10 (by decide) rfl kw_374 ⟨rfl, rfl, rfl⟩ f_x_10 dX9_sumOfSplit_15 ?_
        refine lv_iload hx hb dX9_sumOfSplit_18 (lv_at hl 0 rfl) ?_
        refine hx_aaldN hx hb hW hT gqc tt_45 (t1 := 2) rfl ⟨by omega, by omega⟩ (pf_x_11 _ (by rw [fx_1]; exact hx_tnI (by omega) (by omega))) dX9_sumOfSplit_20 (fun q_3 fq_3 gq_3 => ?_)
        refine lv_astore (lv' := [(5, .ref q_3), (4, .int iv5_4), (3, .int iv5_3), (0, .ref x), (1, .ref v1), (2, .ref v2)]) hx hb dX9_sumOfSplit_21 hl (by decide) rfl (fun ls hl => ?_)
        refine lv_aload hx hb dX9_sumOfSplit_23 (lv_at hl 0 rfl) ?_
        refine hx_getn hx hb hts hC_2 hown hW hT gq_3 tt_2 1 (by decide) rfl kw_728 ⟨rfl, rfl, rfl⟩ dX9_sumOfSplit_25 (fun q_4 fq_4 gq_4 => ?_)
        refine lv_aload_n hx hb dX9_sumOfSplit_28 rfl (lv_at hl 4 rfl) ?_
        refine hx_getn hx hb hts hC_2 hown hW hT gv1 tt_2 1 (by decide) rfl kw_728 ⟨rfl, rfl, rfl⟩ dX9_sumOfSplit_29 (fun q_5 fq_5 gq_5 => ?_)
        refine lv_acmp_ne (rx := (some q_4)) (ry := (some q_5)) (tgt := 74) hx hb dX9_sumOfSplit_32 (by decide) (fun c_6 => ?_) (fun c_6 => ?_)
        · skip
          obtain ⟨x_7, ex_7⟩ : ∃ y : Int32, y = iv5_4 + Int32.ofInt 1 := ⟨_, rfl⟩
          have rg_8 := i32_r iv5_4
          have zx_7 : x_7.toInt = iv5_4.toInt + (1) := by rw [ex_7]; exact i32_add rfl (by decide) (by omega) (by omega)
          refine lv_iinc (v := x_7) (lv' := [(4, .int x_7), (5, .ref q_3), (3, .int iv5_3), (0, .ref x), (1, .ref v1), (2, .ref v2)]) hx hb dX9_sumOfSplit_74 hl (k := 1) rfl ex_7.symm (by decide) rfl (fun ls hl => ?_)
          refine lv_goto (tgt := 5) hx hb dX9_sumOfSplit_77 (by decide) ?_
          exact ih5 x_7 iv5_3 _ _ hL1 hl1 ls (by omega) (by omega) (by omega) hW hT hM f_x_10 gx gv1 gv2 gqc pf_x_11 (lv_sub hl [0, 2, 3, 4, 5] rfl)
        · skip
          refine lv_aload hx hb dX9_sumOfSplit_35 (lv_at hl 0 rfl) ?_
          refine hx_getn hx hb hts hC_2 hown hW hT gq_3 tt_2 2 (by decide) rfl kw_733 ⟨rfl, rfl, rfl⟩ dX9_sumOfSplit_37 (fun q_9 fq_9 gq_9 => ?_)
          refine lv_aload_n hx hb dX9_sumOfSplit_40 rfl (lv_at hl 4 rfl) ?_
          refine hx_getn hx hb hts hC_2 hown hW hT gv1 tt_2 2 (by decide) rfl kw_733 ⟨rfl, rfl, rfl⟩ dX9_sumOfSplit_41 (fun q_10 fq_10 gq_10 => ?_)
          refine lv_acmp_ne (rx := (some q_9)) (ry := (some q_10)) (tgt := 74) hx hb dX9_sumOfSplit_44 (by decide) (fun c_11 => ?_) (fun c_11 => ?_)
          · skip
            obtain ⟨x_12, ex_12⟩ : ∃ y : Int32, y = iv5_4 + Int32.ofInt 1 := ⟨_, rfl⟩
            have rg_13 := i32_r iv5_4
            have zx_12 : x_12.toInt = iv5_4.toInt + (1) := by rw [ex_12]; exact i32_add rfl (by decide) (by omega) (by omega)
            refine lv_iinc (v := x_12) (lv' := [(4, .int x_12), (5, .ref q_3), (3, .int iv5_3), (0, .ref x), (1, .ref v1), (2, .ref v2)]) hx hb dX9_sumOfSplit_74 hl (k := 1) rfl ex_12.symm (by decide) rfl (fun ls hl => ?_)
            refine lv_goto (tgt := 5) hx hb dX9_sumOfSplit_77 (by decide) ?_
            exact ih5 x_12 iv5_3 _ _ hL1 hl1 ls (by omega) (by omega) (by omega) hW hT hM f_x_10 gx gv1 gv2 gqc pf_x_11 (lv_sub hl [0, 2, 3, 4, 5] rfl)
          · skip
            refine lv_aload hx hb dX9_sumOfSplit_47 (lv_at hl 0 rfl) ?_
            refine hx_geti hx hb hts hC_2 hown hW hT gq_3 tt_2 8 (by decide) rfl kw_743 ⟨rfl, rfl, rfl⟩ dX9_sumOfSplit_49 (fun x_14 ex_14 lx_14 ux_14 => ?_)
            have fx_14 := ex_14.symm
            refine lv_aload_n hx hb dX9_sumOfSplit_52 rfl (lv_at hl 4 rfl) ?_
            refine hx_geti hx hb hts hC_2 hown hW hT gv1 tt_2 8 (by decide) rfl kw_743 ⟨rfl, rfl, rfl⟩ dX9_sumOfSplit_53 (fun x_15 ex_15 lx_15 ux_15 => ?_)
            have fx_15 := ex_15.symm
            refine lv_aload_n hx hb dX9_sumOfSplit_56 rfl (lv_at hl 5 rfl) ?_
            refine hx_getn hx hb hts hC_0 hown hW hT gv2 tt_0 2 (by decide) rfl kw_170 ⟨rfl, rfl, rfl⟩ dX9_sumOfSplit_57 (fun q_16 fq_16 gq_16 => ?_)
            refine lv_iconst (v := 2) hx hb dX9_sumOfSplit_60 (by decide) ?_
            refine hx_iald hx hb hW hT gq_16 tt_11 rfl (by decide) dX9_sumOfSplit_61 (fun x_17 ex_17 lx_17 ux_17 => ?_)
            refine lv_isub hx hb dX9_sumOfSplit_62 ?_
            have rg_18 := i32_r x_15
            have rg_19 := i32_r x_17
            refine lv_topi (fun x_20 ex_20 => ?_)
            refine hb_icmp_lt (zx := x_14.toInt) (zy := x_20.toInt) (tgt := 74) hx hb rfl rfl dX9_sumOfSplit_63 (by decide) (fun c_21 => ?_) (fun c_21 => ?_)
            · skip
              obtain ⟨x_22, ex_22⟩ : ∃ y : Int32, y = iv5_4 + Int32.ofInt 1 := ⟨_, rfl⟩
              have rg_23 := i32_r iv5_4
              have zx_22 : x_22.toInt = iv5_4.toInt + (1) := by rw [ex_22]; exact i32_add rfl (by decide) (by omega) (by omega)
              refine lv_iinc (v := x_22) (lv' := [(4, .int x_22), (5, .ref q_3), (3, .int iv5_3), (0, .ref x), (1, .ref v1), (2, .ref v2)]) hx hb dX9_sumOfSplit_74 hl (k := 1) rfl ex_22.symm (by decide) rfl (fun ls hl => ?_)
              refine lv_goto (tgt := 5) hx hb dX9_sumOfSplit_77 (by decide) ?_
              exact ih5 x_22 iv5_3 _ _ hL1 hl1 ls (by omega) (by omega) (by omega) hW hT hM f_x_10 gx gv1 gv2 gqc pf_x_11 (lv_sub hl [0, 2, 3, 4, 5] rfl)
            · skip
              refine lv_iload_n hx hb dX9_sumOfSplit_66 rfl (lv_at hl 2 rfl) ?_
              refine lv_aload hx hb dX9_sumOfSplit_67 (lv_at hl 0 rfl) ?_
              refine hx_geti hx hb hts hC_2 hown hW hT gq_3 tt_2 6 (by decide) rfl kw_741 ⟨rfl, rfl, rfl⟩ dX9_sumOfSplit_69 (fun x_24 ex_24 lx_24 ux_24 => ?_)
              have fx_24 := ex_24.symm
              refine lv_iadd hx hb dX9_sumOfSplit_72 ?_
              have rg_25 := i32_r iv5_3
              have rg_26 := i32_r x_24
              refine lv_topi (fun x_27 ex_27 => ?_)
              refine lv_istore_n (lv' := [(3, .int x_27), (5, .ref q_3), (4, .int iv5_4), (0, .ref x), (1, .ref v1), (2, .ref v2)]) hx hb dX9_sumOfSplit_73 rfl hl (by decide) rfl (fun ls hl => ?_)
              obtain ⟨x_28, ex_28⟩ : ∃ y : Int32, y = iv5_4 + Int32.ofInt 1 := ⟨_, rfl⟩
              have rg_29 := i32_r iv5_4
              have zx_28 : x_28.toInt = iv5_4.toInt + (1) := by rw [ex_28]; exact i32_add rfl (by decide) (by omega) (by omega)
              refine lv_iinc (v := x_28) (lv' := [(4, .int x_28), (3, .int x_27), (5, .ref q_3), (0, .ref x), (1, .ref v1), (2, .ref v2)]) hx hb dX9_sumOfSplit_74 hl (k := 2) rfl ex_28.symm (by decide) rfl (fun ls hl => ?_)
              refine lv_goto (tgt := 5) hx hb dX9_sumOfSplit_77 (by decide) ?_
              exact ih5 x_28 x_27 _ _ hL1 hl1 ls (by omega) (by omega) (by omega) hW hT hM f_x_10 gx gv1 gv2 gqc pf_x_11 (lv_sub hl [0, 1, 3, 4, 5] rfl)
  exact loop5 101 (0 : Int32) (0 : Int32) _ _ L h ls (by decide) (by decide) (by decide) hW hT hM f_x_10 gx gv1 gv2 gqc pf_x_11 hl

def wLX9_openInstalments_0 : List Nat := [3, 61, 3, 62, 29, 42, 180, 0, 181, 162, 0, 54, 42, 180, 0, 48, 29, 50, 180, 0, 212, 43, 166, 0, 35, 42, 180, 0, 48, 29, 50, 42, 180, 0, 58, 42, 180, 0, 94, 182, 1, 18, 153, 0, 15, 28, 42, 180, 0, 48, 29, 50, 180, 1, 15, 96, 61, 132, 3, 1, 167, 255, 200, 28]
def wLX9_openInstalments_1 : List Nat := [172]
theorem wX9_openInstalments_0 : (cX9_openInstalments.data.toList.map UInt8.toNat).drop 0 = wLX9_openInstalments_0 ++ (wLX9_openInstalments_1 ++ ([])) := by decide +kernel
theorem wX9_openInstalments_1 : (cX9_openInstalments.data.toList.map UInt8.toNat).drop 64 = wLX9_openInstalments_1 ++ ([]) := hz_wn wX9_openInstalments_0 rfl
theorem dX9_openInstalments_0 : decode cX9_openInstalments 0 = .ok (.iconst 0, 1) := dq_3 (hz_wg wX9_openInstalments_0 (j := 0) (n := 3) rfl)
theorem dX9_openInstalments_1 : decode cX9_openInstalments 1 = .ok (.istore_n 2, 1) := dq_61 (hz_wg wX9_openInstalments_0 (j := 1) (n := 61) rfl)
theorem dX9_openInstalments_2 : decode cX9_openInstalments 2 = .ok (.iconst 0, 1) := dq_3 (hz_wg wX9_openInstalments_0 (j := 2) (n := 3) rfl)
theorem dX9_openInstalments_3 : decode cX9_openInstalments 3 = .ok (.istore_n 3, 1) := dq_62 (hz_wg wX9_openInstalments_0 (j := 3) (n := 62) rfl)
theorem dX9_openInstalments_4 : decode cX9_openInstalments 4 = .ok (.iload_n 3, 1) := dq_29 (hz_wg wX9_openInstalments_0 (j := 4) (n := 29) rfl)
theorem dX9_openInstalments_5 : decode cX9_openInstalments 5 = .ok (.aload_n 0, 1) := dq_42 (hz_wg wX9_openInstalments_0 (j := 5) (n := 42) rfl)
theorem dX9_openInstalments_6 : decode cX9_openInstalments 6 = .ok (.getfield 181, 3) := dq_180 (hz_wg wX9_openInstalments_0 (j := 6) (n := 180) rfl) (hz_wg wX9_openInstalments_0 (j := 7) (n := 0) rfl) (hz_wg wX9_openInstalments_0 (j := 8) (n := 181) rfl) rfl
theorem dX9_openInstalments_9 : decode cX9_openInstalments 9 = .ok (.if_icmp .ge 54, 3) := dq_162 (hz_wg wX9_openInstalments_0 (j := 9) (n := 162) rfl) (hz_wg wX9_openInstalments_0 (j := 10) (n := 0) rfl) (hz_wg wX9_openInstalments_0 (j := 11) (n := 54) rfl) (by decide)
theorem dX9_openInstalments_12 : decode cX9_openInstalments 12 = .ok (.aload_n 0, 1) := dq_42 (hz_wg wX9_openInstalments_0 (j := 12) (n := 42) rfl)
theorem dX9_openInstalments_13 : decode cX9_openInstalments 13 = .ok (.getfield 48, 3) := dq_180 (hz_wg wX9_openInstalments_0 (j := 13) (n := 180) rfl) (hz_wg wX9_openInstalments_0 (j := 14) (n := 0) rfl) (hz_wg wX9_openInstalments_0 (j := 15) (n := 48) rfl) rfl
theorem dX9_openInstalments_16 : decode cX9_openInstalments 16 = .ok (.iload_n 3, 1) := dq_29 (hz_wg wX9_openInstalments_0 (j := 16) (n := 29) rfl)
theorem dX9_openInstalments_17 : decode cX9_openInstalments 17 = .ok (.aaload, 1) := dq_50 (hz_wg wX9_openInstalments_0 (j := 17) (n := 50) rfl)
theorem dX9_openInstalments_18 : decode cX9_openInstalments 18 = .ok (.getfield 212, 3) := dq_180 (hz_wg wX9_openInstalments_0 (j := 18) (n := 180) rfl) (hz_wg wX9_openInstalments_0 (j := 19) (n := 0) rfl) (hz_wg wX9_openInstalments_0 (j := 20) (n := 212) rfl) rfl
theorem dX9_openInstalments_21 : decode cX9_openInstalments 21 = .ok (.aload_n 1, 1) := dq_43 (hz_wg wX9_openInstalments_0 (j := 21) (n := 43) rfl)
theorem dX9_openInstalments_22 : decode cX9_openInstalments 22 = .ok (.if_acmp .ne 35, 3) := dq_166 (hz_wg wX9_openInstalments_0 (j := 22) (n := 166) rfl) (hz_wg wX9_openInstalments_0 (j := 23) (n := 0) rfl) (hz_wg wX9_openInstalments_0 (j := 24) (n := 35) rfl) (by decide)
theorem dX9_openInstalments_25 : decode cX9_openInstalments 25 = .ok (.aload_n 0, 1) := dq_42 (hz_wg wX9_openInstalments_0 (j := 25) (n := 42) rfl)
theorem dX9_openInstalments_26 : decode cX9_openInstalments 26 = .ok (.getfield 48, 3) := dq_180 (hz_wg wX9_openInstalments_0 (j := 26) (n := 180) rfl) (hz_wg wX9_openInstalments_0 (j := 27) (n := 0) rfl) (hz_wg wX9_openInstalments_0 (j := 28) (n := 48) rfl) rfl
theorem dX9_openInstalments_29 : decode cX9_openInstalments 29 = .ok (.iload_n 3, 1) := dq_29 (hz_wg wX9_openInstalments_0 (j := 29) (n := 29) rfl)
theorem dX9_openInstalments_30 : decode cX9_openInstalments 30 = .ok (.aaload, 1) := dq_50 (hz_wg wX9_openInstalments_0 (j := 30) (n := 50) rfl)
theorem dX9_openInstalments_31 : decode cX9_openInstalments 31 = .ok (.aload_n 0, 1) := dq_42 (hz_wg wX9_openInstalments_0 (j := 31) (n := 42) rfl)
theorem dX9_openInstalments_32 : decode cX9_openInstalments 32 = .ok (.getfield 58, 3) := dq_180 (hz_wg wX9_openInstalments_0 (j := 32) (n := 180) rfl) (hz_wg wX9_openInstalments_0 (j := 33) (n := 0) rfl) (hz_wg wX9_openInstalments_0 (j := 34) (n := 58) rfl) rfl
theorem dX9_openInstalments_35 : decode cX9_openInstalments 35 = .ok (.aload_n 0, 1) := dq_42 (hz_wg wX9_openInstalments_0 (j := 35) (n := 42) rfl)
theorem dX9_openInstalments_36 : decode cX9_openInstalments 36 = .ok (.getfield 94, 3) := dq_180 (hz_wg wX9_openInstalments_0 (j := 36) (n := 180) rfl) (hz_wg wX9_openInstalments_0 (j := 37) (n := 0) rfl) (hz_wg wX9_openInstalments_0 (j := 38) (n := 94) rfl) rfl
theorem dX9_openInstalments_39 : decode cX9_openInstalments 39 = .ok (.invokevirtual 274, 3) := dq_182 (hz_wg wX9_openInstalments_0 (j := 39) (n := 182) rfl) (hz_wg wX9_openInstalments_0 (j := 40) (n := 1) rfl) (hz_wg wX9_openInstalments_0 (j := 41) (n := 18) rfl) rfl
theorem dX9_openInstalments_42 : decode cX9_openInstalments 42 = .ok (.ifCond .eq 15, 3) := dq_153 (hz_wg wX9_openInstalments_0 (j := 42) (n := 153) rfl) (hz_wg wX9_openInstalments_0 (j := 43) (n := 0) rfl) (hz_wg wX9_openInstalments_0 (j := 44) (n := 15) rfl) (by decide)
theorem dX9_openInstalments_45 : decode cX9_openInstalments 45 = .ok (.iload_n 2, 1) := dq_28 (hz_wg wX9_openInstalments_0 (j := 45) (n := 28) rfl)
theorem dX9_openInstalments_46 : decode cX9_openInstalments 46 = .ok (.aload_n 0, 1) := dq_42 (hz_wg wX9_openInstalments_0 (j := 46) (n := 42) rfl)
theorem dX9_openInstalments_47 : decode cX9_openInstalments 47 = .ok (.getfield 48, 3) := dq_180 (hz_wg wX9_openInstalments_0 (j := 47) (n := 180) rfl) (hz_wg wX9_openInstalments_0 (j := 48) (n := 0) rfl) (hz_wg wX9_openInstalments_0 (j := 49) (n := 48) rfl) rfl
theorem dX9_openInstalments_50 : decode cX9_openInstalments 50 = .ok (.iload_n 3, 1) := dq_29 (hz_wg wX9_openInstalments_0 (j := 50) (n := 29) rfl)
theorem dX9_openInstalments_51 : decode cX9_openInstalments 51 = .ok (.aaload, 1) := dq_50 (hz_wg wX9_openInstalments_0 (j := 51) (n := 50) rfl)
theorem dX9_openInstalments_52 : decode cX9_openInstalments 52 = .ok (.getfield 271, 3) := dq_180 (hz_wg wX9_openInstalments_0 (j := 52) (n := 180) rfl) (hz_wg wX9_openInstalments_0 (j := 53) (n := 1) rfl) (hz_wg wX9_openInstalments_0 (j := 54) (n := 15) rfl) rfl
theorem dX9_openInstalments_55 : decode cX9_openInstalments 55 = .ok (.iadd, 1) := dq_96 (hz_wg wX9_openInstalments_0 (j := 55) (n := 96) rfl)
theorem dX9_openInstalments_56 : decode cX9_openInstalments 56 = .ok (.istore_n 2, 1) := dq_61 (hz_wg wX9_openInstalments_0 (j := 56) (n := 61) rfl)
theorem dX9_openInstalments_57 : decode cX9_openInstalments 57 = .ok (.iinc 3 1, 3) := dq_132 (hz_wg wX9_openInstalments_0 (j := 57) (n := 132) rfl) (hz_wg wX9_openInstalments_0 (j := 58) (n := 3) rfl) (hz_wg wX9_openInstalments_0 (j := 59) (n := 1) rfl) (by decide)
theorem dX9_openInstalments_60 : decode cX9_openInstalments 60 = .ok (.goto (-56), 3) := dq_167 (hz_wg wX9_openInstalments_0 (j := 60) (n := 167) rfl) (hz_wg wX9_openInstalments_0 (j := 61) (n := 255) rfl) (hz_wg wX9_openInstalments_0 (j := 62) (n := 200) rfl) (by decide)
theorem dX9_openInstalments_63 : decode cX9_openInstalments 63 = .ok (.iload_n 2, 1) := dq_28 (hz_wg wX9_openInstalments_0 (j := 63) (n := 28) rfl)
theorem dX9_openInstalments_64 : decode cX9_openInstalments 64 = .ok (.ireturn, 1) := dq_172 (hz_wg wX9_openInstalments_1 (j := 0) (n := 172) rfl)
set_option maxHeartbeats 4000000 in
set_option maxRecDepth 100000 in
theorem t_X9_openInstalments (l : Launch) (dC : Nat → ClassId) (dI : Nat → Nat → Nat) (dA : Nat → ClassId) (L : List Nat) (h : hx_h) (sz : Nat) (x : Nat) (v1 : Nat) (hT : hx_T T_tb L h) (gx : hx_g L h x 9) (gv1 : hx_g L h v1 4) (qc : Nat) (gqc : hx_g L h qc 45) (f_x_10 : h.2.2 x 10 = some qc) (pf_x_11 : ∀ j : Nat, (j : Int) < (h.2.1 x 11).toInt → h.2.2 qc j ≠ none) : Met l yX9_openInstalments (Cond.code yX9_openInstalments cX9_openInstalments 4 (some .int) :: hx_all) ({ frames := 5, cells := 0, slots := 0, locals := 118 }) (va_Pc [.ref x, .ref v1] (hx_B T_tb (P_ty dA) (dC, dI) vwCl L h sz)) (va_Qi (fun (r : Int32) (u : List Nat × hx_h) => (True) ∧ hx_T T_tb u.1 u.2 ∧ hx_S T_tb [] L h u.1 u.2) (hx_E T_tb (P_ty dA) (dC, dI) vwCl (hx_A L sz)) (hx_A L sz)) 0 0 (hx_A L sz) := by
  refine hx_met (lv := [(0, .ref x), (1, .ref v1)]) (by decide +kernel) rfl (Nat.le_of_ble_eq_true rfl) rfl ?_
  intro p e s m below meth c hx hb hml hr hlk hts0 hown hin hsz hW ls hl
  have hts : ∀ w ∈ hx_all, w.before _ s = true := fun w hw => hts0 w (List.mem_cons_of_mem _ hw)
  have hown : s.vm.findClass "SmallCourt" = some m.cls := hown
  have hM : hx_S T_tb [] L h L h := hx_S.rf
  refine lv_iconst (v := 0) hx hb dX9_openInstalments_0 (by decide) ?_
  refine lv_istore_n (lv' := [(2, .int (0 : Int32)), (0, .ref x), (1, .ref v1)]) hx hb dX9_openInstalments_1 rfl hl (by decide) rfl (fun ls hl => ?_)
  refine lv_iconst (v := 0) hx hb dX9_openInstalments_2 (by decide) ?_
  refine lv_istore_n (lv' := [(3, .int (0 : Int32)), (2, .int (0 : Int32)), (0, .ref x), (1, .ref v1)]) hx hb dX9_openInstalments_3 rfl hl (by decide) rfl (fun ls hl => ?_)
  have loop4 : ∀ (n4 : Nat) (iv4_3 iv4_2 : Int32) (H : Heap) (locs : List Loc) (hL1 : List Nat) (hl1 : hx_h) (ls : Array Slot), 0 ≤ iv4_3.toInt → iv4_3.toInt ≤ 100 → 100 < iv4_3.toInt + n4 → hx_W T_tb (P_ty dA) (dC, dI) vwCl (hx_A L sz) s.heap hL1 hl1 s H locs → hx_T T_tb hL1 hl1 → hx_S T_tb [] L h hL1 hl1 → hl1.2.2 x 10 = some qc → hx_g hL1 hl1 x 9 → hx_g hL1 hl1 v1 4 → hx_g hL1 hl1 qc 45 → (∀ j : Nat, (j : Int) < (hl1.2.1 x 11).toInt → hl1.2.2 qc j ≠ none) → lv_has ls 4 [(3, .int iv4_3), (2, .int iv4_2), (0, .ref x), (1, .ref v1)] → W p l e ({ frames := 5, cells := 0, slots := 0, locals := 118 }) s m ([.ref x, .ref v1] : List Value).toArray below meth c H locs 0 0 (MQ below (va_Qi (fun (r : Int32) (u : List Nat × hx_h) => (True) ∧ hx_T T_tb u.1 u.2 ∧ hx_S T_tb [] L h u.1 u.2) (hx_E T_tb (P_ty dA) (dC, dI) vwCl (hx_A L sz)) (hx_A L sz)) ([.ref x, .ref v1] : List Value).toArray s 0 0 (hx_A L sz)) (F0 m 4 ls []) := by
    intro n4
    induction n4 with
    | zero => intro iv4_3 iv4_2 H locs hL1 hl1 ls bl4_3 bu4_3 hn4; exfalso; omega
    | succ n4 ih4 =>
      intro iv4_3 iv4_2 H locs hL1 hl1 ls bl4_3 bu4_3 hn4 hW hT hM f_x_10 gx gv1 gqc pf_x_11 hl
      refine lv_iload_n hx hb dX9_openInstalments_4 rfl (lv_at hl 0 rfl) ?_
      refine lv_aload_n hx hb dX9_openInstalments_5 rfl (lv_at hl 2 rfl) ?_
      refine hx_geti hx hb hts hC_9 hown hW hT gx tt_9 11 (by decide) rfl kw_375 ⟨rfl, rfl, rfl⟩ dX9_openInstalments_6 (fun x_1 ex_1 lx_1 ux_1 => ?_)
      have fx_1 := ex_1.symm
      refine hb_icmp_ge (zx := iv4_3.toInt) (zy := x_1.toInt) (tgt := 63) hx hb rfl rfl dX9_openInstalments_9 (by decide) (fun c_2 => ?_) (fun c_2 => ?_)
      · skip
        refine lv_iload_n hx hb dX9_openInstalments_63 rfl (lv_at hl 1 rfl) ?_
        exact hx_reti hx hb hr hlk hW ⟨trivial, hT, hM⟩ dX9_openInstalments_64
      · skip
        refine lv_aload_n hx hb dX9_openInstalments_12 rfl (lv_at hl 2 rfl) ?_
        refine hk_getr hx hb hts hC_9 hown hW gx tt_9 10 (by decide) rfl kw_374 ⟨rfl, rfl, rfl⟩ f_x_10 dX9_openInstalments_13 ?_
        refine lv_iload_n hx hb dX9_openInstalments_16 rfl (lv_at hl 0 rfl) ?_
        refine hx_aaldN hx hb hW hT gqc tt_45 (t1 := 2) rfl ⟨by omega, by omega⟩ (pf_x_11 _ (by rw [fx_1]; exact hx_tnI (by omega) (by omega))) dX9_openInstalments_17 (fun q_3 fq_3 gq_3 => ?_)
        refine hx_getn hx hb hts hC_2 hown hW hT gq_3 tt_2 2 (by decide) rfl kw_733 ⟨rfl, rfl, rfl⟩ dX9_openInstalments_18 (fun q_4 fq_4 gq_4 => ?_)
        refine lv_aload_n hx hb dX9_openInstalments_21 rfl (lv_at hl 3 rfl) ?_
        refine lv_acmp_ne (rx := (some q_4)) (ry := (some v1)) (tgt := 57) hx hb dX9_openInstalments_22 (by decide) (fun c_5 => ?_) (fun c_5 => ?_)
        · skip
          obtain ⟨x_6, ex_6⟩ : ∃ y : Int32, y = iv4_3 + Int32.ofInt 1 := ⟨_, rfl⟩
          have rg_7 := i32_r iv4_3
          have zx_6 : x_6.toInt = iv4_3.toInt + (1) := by rw [ex_6]; exact i32_add rfl (by decide) (by omega) (by omega)
          refine lv_iinc (v := x_6) (lv' := [(3, .int x_6), (2, .int iv4_2), (0, .ref x), (1, .ref v1)]) hx hb dX9_openInstalments_57 hl (k := 0) rfl ex_6.symm (by decide) rfl (fun ls hl => ?_)
          refine lv_goto (tgt := 4) hx hb dX9_openInstalments_60 (by decide) ?_
          exact ih4 x_6 iv4_2 _ _ hL1 hl1 ls (by omega) (by omega) (by omega) hW hT hM f_x_10 gx gv1 gqc pf_x_11 (lv_sub hl [0, 1, 2, 3] rfl)
        · skip
          refine lv_aload_n hx hb dX9_openInstalments_25 rfl (lv_at hl 2 rfl) ?_
          refine hk_getr hx hb hts hC_9 hown hW gx tt_9 10 (by decide) rfl kw_374 ⟨rfl, rfl, rfl⟩ f_x_10 dX9_openInstalments_26 ?_
          refine lv_iload_n hx hb dX9_openInstalments_29 rfl (lv_at hl 0 rfl) ?_
          refine hx_aaldN hx hb hW hT gqc tt_45 (t1 := 2) rfl ⟨by omega, by omega⟩ (pf_x_11 _ (by rw [fx_1]; exact hx_tnI (by omega) (by omega))) dX9_openInstalments_30 (fun q_8 fq_8 gq_8 => ?_)
          refine lv_aload_n hx hb dX9_openInstalments_31 rfl (lv_at hl 2 rfl) ?_
          refine hx_getn hx hb hts hC_9 hown hW hT gx tt_9 14 (by decide) rfl kw_378 ⟨rfl, rfl, rfl⟩ dX9_openInstalments_32 (fun q_9 fq_9 gq_9 => ?_)
          refine lv_aload_n hx hb dX9_openInstalments_35 rfl (lv_at hl 2 rfl) ?_
          refine hx_geti hx hb hts hC_9 hown hW hT gx tt_9 2 (by decide) rfl kw_366 ⟨rfl, rfl, rfl⟩ dX9_openInstalments_36 (fun x_10 ex_10 lx_10 ux_10 => ?_)
          have fx_10 := ex_10.symm
          refine hx_goi (hx_runV (As := [.ref q_9, .int x_10]) (rest := []) ⟨hx, hb, hml, hown, hts⟩ hW gq_8 tt_2 (T := TX2) (N := 19) rfl (t_X2_isOpen l dC dI dA hL1 hl1 H.size q_8 q_9 x_10 hT gq_8 gq_9) (cwV 2 hts (hx_gV kw_857 kw_854 kw_855 kw_856 kw_110) rfl rfl rfl (by decide +kernel) ⟨Nat.le_of_ble_eq_true rfl, Nat.le_of_ble_eq_true rfl⟩) rfl hl.1 rfl (Nat.le_of_ble_eq_true rfl) dX9_openInstalments_39 ⟨Nat.le_of_ble_eq_true rfl, Nat.le_of_ble_eq_true rfl⟩) hW (fun r_13 L_11 h_12 H locs p_14 hW => ?_)
          obtain ⟨hr_15, hT, hs⟩ := p_14
          replace hT : hx_T T_tb L_11 h_12 := hT
          replace hs : hx_S T_tb [] hL1 hl1 L_11 h_12 := hs
          replace f_x_10 := (hs.o gx trivial rfl).2.trans f_x_10
          replace fx_1 := (hs.o gx trivial rfl).1.trans fx_1
          replace fq_4 := (hs.o gq_3 trivial rfl).2.trans fq_4
          replace fq_9 := (hs.o gx trivial rfl).2.trans fq_9
          replace fx_10 := (hs.o gx trivial rfl).1.trans fx_10
          replace pf_x_11 : ∀ j : Nat, (j : Int) < (h_12.2.1 x 11).toInt → h_12.2.2 qc j ≠ none := by
            intro j hj; rw [(hs.o gx trivial rfl).1] at hj; rw [(hs.a gqc rfl j).2]; exact pf_x_11 j hj
          replace hM := hM.tr (hs.mono (by decide))
          replace gx := gx.S hs
          replace gv1 := gv1.S hs
          replace gqc := gqc.S hs
          replace gq_3 := gq_3.S hs
          replace gq_4 := gq_4.S hs
          replace gq_8 := gq_8.S hs
          replace gq_9 := gq_9.S hs
          refine hb_if_eq (zx := r_13.toInt) (tgt := 57) hx hb rfl dX9_openInstalments_42 (by decide) (fun c_16 => ?_) (fun c_16 => ?_)
          · skip
            obtain ⟨x_17, ex_17⟩ : ∃ y : Int32, y = iv4_3 + Int32.ofInt 1 := ⟨_, rfl⟩
            have rg_18 := i32_r iv4_3
            have zx_17 : x_17.toInt = iv4_3.toInt + (1) := by rw [ex_17]; exact i32_add rfl (by decide) (by omega) (by omega)
            refine lv_iinc (v := x_17) (lv' := [(3, .int x_17), (2, .int iv4_2), (0, .ref x), (1, .ref v1)]) hx hb dX9_openInstalments_57 hl (k := 0) rfl ex_17.symm (by decide) rfl (fun ls hl => ?_)
            refine lv_goto (tgt := 4) hx hb dX9_openInstalments_60 (by decide) ?_
            exact ih4 x_17 iv4_2 _ _ L_11 h_12 ls (by omega) (by omega) (by omega) hW hT hM f_x_10 gx gv1 gqc pf_x_11 (lv_sub hl [0, 1, 2, 3] rfl)
          · skip
            refine lv_iload_n hx hb dX9_openInstalments_45 rfl (lv_at hl 1 rfl) ?_
            refine lv_aload_n hx hb dX9_openInstalments_46 rfl (lv_at hl 2 rfl) ?_
            refine hk_getr hx hb hts hC_9 hown hW gx tt_9 10 (by decide) rfl kw_374 ⟨rfl, rfl, rfl⟩ f_x_10 dX9_openInstalments_47 ?_
            refine lv_iload_n hx hb dX9_openInstalments_50 rfl (lv_at hl 0 rfl) ?_
            refine hx_aaldN hx hb hW hT gqc tt_45 (t1 := 2) rfl ⟨by omega, by omega⟩ (pf_x_11 _ (by rw [fx_1]; exact hx_tnI (by omega) (by omega))) dX9_openInstalments_51 (fun q_19 fq_19 gq_19 => ?_)
            refine hx_geti hx hb hts hC_2 hown hW hT gq_19 tt_2 14 (by decide) rfl kw_755 ⟨rfl, rfl, rfl⟩ dX9_openInstalments_52 (fun x_20 ex_20 lx_20 ux_20 => ?_)
            have fx_20 := ex_20.symm
            refine lv_iadd hx hb dX9_openInstalments_55 ?_
            have rg_21 := i32_r iv4_2
            have rg_22 := i32_r x_20
            refine lv_topi (fun x_23 ex_23 => ?_)
            refine lv_istore_n (lv' := [(2, .int x_23), (3, .int iv4_3), (0, .ref x), (1, .ref v1)]) hx hb dX9_openInstalments_56 rfl hl (by decide) rfl (fun ls hl => ?_)
            obtain ⟨x_24, ex_24⟩ : ∃ y : Int32, y = iv4_3 + Int32.ofInt 1 := ⟨_, rfl⟩
            have rg_25 := i32_r iv4_3
            have zx_24 : x_24.toInt = iv4_3.toInt + (1) := by rw [ex_24]; exact i32_add rfl (by decide) (by omega) (by omega)
            refine lv_iinc (v := x_24) (lv' := [(3, .int x_24), (2, .int x_23), (0, .ref x), (1, .ref v1)]) hx hb dX9_openInstalments_57 hl (k := 1) rfl ex_24.symm (by decide) rfl (fun ls hl => ?_)
            refine lv_goto (tgt := 4) hx hb dX9_openInstalments_60 (by decide) ?_
            exact ih4 x_24 x_23 _ _ L_11 h_12 ls (by omega) (by omega) (by omega) hW hT hM f_x_10 gx gv1 gqc pf_x_11 (lv_sub hl [0, 1, 2, 3] rfl)
  exact loop4 101 (0 : Int32) (0 : Int32) _ _ L h ls (by decide) (by decide) (by decide) hW hT hM f_x_10 gx gv1 gqc pf_x_11 hl
