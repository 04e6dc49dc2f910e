theorem dX8_isListed_0 : decode cX8_isListed 0 = .ok (.iconst 0, 1) := by decide +kernel
theorem dX8_isListed_1 : decode cX8_isListed 1 = .ok (.istore_n 2, 1) := by decide +kernel
theorem dX8_isListed_2 : decode cX8_isListed 2 = .ok (.iload_n 2, 1) := by decide +kernel
theorem dX8_isListed_3 : decode cX8_isListed 3 = .ok (.aload_n 0, 1) := by decide +kernel
theorem dX8_isListed_4 : decode cX8_isListed 4 = .ok (.getfield 24, 3) := by decide +kernel
theorem dX8_isListed_7 : decode cX8_isListed 7 = .ok (.if_icmp .ge 21, 3) := by decide +kernel
theorem dX8_isListed_10 : decode cX8_isListed 10 = .ok (.aload_n 0, 1) := by decide +kernel
theorem dX8_isListed_11 : decode cX8_isListed 11 = .ok (.getfield 17, 3) := by decide +kernel
theorem dX8_isListed_14 : decode cX8_isListed 14 = .ok (.iload_n 2, 1) := by decide +kernel
theorem dX8_isListed_15 : decode cX8_isListed 15 = .ok (.aaload, 1) := by decide +kernel
theorem dX8_isListed_16 : decode cX8_isListed 16 = .ok (.aload_n 1, 1) := by decide +kernel
theorem dX8_isListed_17 : decode cX8_isListed 17 = .ok (.if_acmp .ne 5, 3) := by decide +kernel
theorem dX8_isListed_20 : decode cX8_isListed 20 = .ok (.iconst 1, 1) := by decide +kernel
theorem dX8_isListed_21 : decode cX8_isListed 21 = .ok (.ireturn, 1) := by decide +kernel
theorem dX8_isListed_22 : decode cX8_isListed 22 = .ok (.iinc 2 1, 3) := by decide +kernel
theorem dX8_isListed_25 : decode cX8_isListed 25 = .ok (.goto (-23), 3) := by decide +kernel
theorem dX8_isListed_28 : decode cX8_isListed 28 = .ok (.iconst 0, 1) := by decide +kernel
theorem dX8_isListed_29 : decode cX8_isListed 29 = .ok (.ireturn, 1) := by decide +kernel
set_option maxHeartbeats 4000000 in
set_option maxRecDepth 100000 in
theorem t_X8_isListed (l : Launch) (dC : Nat → ClassId) (dI : Nat → Nat → Nat) (dA : Nat → ClassId) (L : List Nat) (h : hx_h) (sz : Nat) (x : Nat) (v1 : Nat) (hT : hx_T T_tb L h) (gx : hx_g L h x 8) (gv1 : hx_g L h v1 2) (ql : Nat) (gql : hx_g L h ql 40) (f_x_3 : h.2.2 x 3 = some ql) (pf_x_0 : ∀ j : Nat, (j : Int) < (h.2.1 x 0).toInt → h.2.2 ql j ≠ none) : Met l yX8_isListed (Cond.code yX8_isListed cX8_isListed 3 (some .boolean) :: hx_all) ({ frames := 0, cells := 0, slots := 0, locals := 0 }) (va_Pc [.ref x, .ref v1] (hx_B T_tb (P_ty dA) (dC, dI) vwCl L h sz)) (va_Qi (fun (r : Int32) (u : List Nat × hx_h) => (r.toInt = 0 ∨ r.toInt = 1) ∧ hx_T T_tb u.1 u.2 ∧ hx_S T_tb [] L h u.1 u.2) (hx_E T_tb (P_ty dA) (dC, dI) vwCl (hx_A L sz)) (hx_A L sz)) 0 0 (hx_A L sz) := by
  refine hx_met (lv := [(0, .ref x), (1, .ref v1)]) (by decide +kernel) rfl (Nat.le_of_ble_eq_true rfl) rfl ?_
  intro p e s m below meth c hx hb hml hr hlk hts0 hown hin hsz hW ls hl
  have hts : ∀ w ∈ hx_all, w.before _ s = true := fun w hw => hts0 w (List.mem_cons_of_mem _ hw)
  have hown : s.vm.findClass "SmallCourt$Walk" = some m.cls := hown
  have hM : hx_S T_tb [] L h L h := hx_S.rf
  refine lv_iconst (v := 0) hx hb dX8_isListed_0 (by decide) ?_
  refine lv_istore_n (lv' := [(2, .int (0 : Int32)), (0, .ref x), (1, .ref v1)]) hx hb dX8_isListed_1 rfl hl (by decide) rfl (fun ls hl => ?_)
  have loop2 : ∀ (n2 : Nat) (iv2_2 : Int32) (H : Heap) (locs : List Loc) (hL1 : List Nat) (hl1 : hx_h) (ls : Array Slot), 0 ≤ iv2_2.toInt → iv2_2.toInt ≤ 8 → 8 < iv2_2.toInt + n2 → hx_W T_tb (P_ty dA) (dC, dI) vwCl (hx_A L sz) s.heap hL1 hl1 s H locs → hx_T T_tb hL1 hl1 → hx_S T_tb [] L h hL1 hl1 → hl1.2.2 x 3 = some ql → hx_g hL1 hl1 x 8 → hx_g hL1 hl1 v1 2 → hx_g hL1 hl1 ql 40 → (∀ j : Nat, (j : Int) < (hl1.2.1 x 0).toInt → hl1.2.2 ql j ≠ none) → lv_has ls 3 [(2, .int iv2_2), (0, .ref x), (1, .ref v1)] → W p l e ({ frames := 0, cells := 0, slots := 0, locals := 0 }) s m ([.ref x, .ref v1] : List Value).toArray below meth c H locs 0 0 (MQ below (va_Qi (fun (r : Int32) (u : List Nat × hx_h) => (r.toInt = 0 ∨ r.toInt = 1) ∧ hx_T T_tb u.1 u.2 ∧ hx_S T_tb [] L h u.1 u.2) (hx_E T_tb (P_ty dA) (dC, dI) vwCl (hx_A L sz)) (hx_A L sz)) ([.ref x, .ref v1] : List Value).toArray s 0 0 (hx_A L sz)) (F0 m 2 ls []) := by
    intro n2
    induction n2 with
    | zero => intro iv2_2 H locs hL1 hl1 ls bl2_2 bu2_2 hn2; exfalso; omega
    | succ n2 ih2 =>
      intro iv2_2 H locs hL1 hl1 ls bl2_2 bu2_2 hn2 hW hT hM f_x_3 gx gv1 gql pf_x_0 hl
      refine lv_iload_n hx hb dX8_isListed_2 rfl (lv_at hl 0 rfl) ?_
      refine lv_aload_n hx hb dX8_isListed_3 rfl (lv_at hl 1 rfl) ?_
      refine hx_geti hx hb hts hC_8 hown hW hT gx tt_8 0 (by decide) rfl kw_345 ⟨rfl, rfl, rfl⟩ dX8_isListed_4 (fun x_1 ex_1 lx_1 ux_1 => ?_)
      have fx_1 := ex_1.symm
      refine hb_icmp_ge (zx := iv2_2.toInt) (zy := x_1.toInt) (tgt := 28) hx hb rfl rfl dX8_isListed_7 (by decide) (fun c_2 => ?_) (fun c_2 => ?_)
      · skip
        refine lv_iconst (v := 0) hx hb dX8_isListed_28 (by decide) ?_
        exact hx_retz hx hb hr rfl hlk hW ⟨(by decide), hT, hM⟩ dX8_isListed_29
      · skip
        refine lv_aload_n hx hb dX8_isListed_10 rfl (lv_at hl 1 rfl) ?_
        refine hk_getr hx hb hts hC_8 hown hW gx tt_8 3 (by decide) rfl kw_351 ⟨rfl, rfl, rfl⟩ f_x_3 dX8_isListed_11 ?_
        refine lv_iload_n hx hb dX8_isListed_14 rfl (lv_at hl 0 rfl) ?_
        refine hx_aaldN hx hb hW hT gql tt_40 (t1 := 2) rfl ⟨by omega, by omega⟩ (pf_x_0 _ (by rw [fx_1]; exact hx_tnI (by omega) (by omega))) dX8_isListed_15 (fun q_3 fq_3 gq_3 => ?_)
        refine lv_aload_n hx hb dX8_isListed_16 rfl (lv_at hl 2 rfl) ?_
        refine lv_acmp_ne (rx := (some q_3)) (ry := (some v1)) (tgt := 22) hx hb dX8_isListed_17 (by decide) (fun c_4 => ?_) (fun c_4 => ?_)
        · skip
          obtain ⟨x_5, ex_5⟩ : ∃ y : Int32, y = iv2_2 + Int32.ofInt 1 := ⟨_, rfl⟩
          have rg_6 := i32_r iv2_2
          have zx_5 : x_5.toInt = iv2_2.toInt + (1) := by rw [ex_5]; exact i32_add rfl (by decide) (by omega) (by omega)
          refine lv_iinc (v := x_5) (lv' := [(2, .int x_5), (0, .ref x), (1, .ref v1)]) hx hb dX8_isListed_22 hl (k := 0) rfl ex_5.symm (by decide) rfl (fun ls hl => ?_)
          refine lv_goto (tgt := 2) hx hb dX8_isListed_25 (by decide) ?_
          exact ih2 x_5 _ _ hL1 hl1 ls (by omega) (by omega) (by omega) hW hT hM f_x_3 gx gv1 gql pf_x_0 (lv_sub hl [0, 1, 2] rfl)
        · skip
          refine lv_iconst (v := 1) hx hb dX8_isListed_20 (by decide) ?_
          exact hx_retz hx hb hr rfl hlk hW ⟨(by decide), hT, hM⟩ dX8_isListed_21
  exact loop2 9 (0 : Int32) _ _ L h ls (by decide) (by decide) (by decide) hW hT hM f_x_3 gx gv1 gql pf_x_0 hl
