
set_option maxHeartbeats 4000000 in
set_option maxRecDepth 100000 in
theorem t_X0_term_v (l : Launch) (dC : Nat → ClassId) (dI : Nat → Nat → Nat) (dA : Nat → ClassId) (L : List Nat) (h : hx_h) (sz : Nat) (i1 : Int32) (i2 : Int32) (i3 : Int32) (i4 : Int32) (hT : hx_T T_tb L h)  (hi1 : 0 ≤ i1.toInt ∧ i1.toInt ≤ 7) (hi2 : 0 ≤ i2.toInt ∧ i2.toInt ≤ 7) (hi3 : 0 ≤ i3.toInt ∧ i3.toInt ≤ 1) (hi4 : 0 ≤ i4.toInt ∧ i4.toInt ≤ 9999) : Met l yX0_term (Cond.code yX0_term cX0_term 4 (some .int) :: hx_all) ({ frames := 0, cells := 0, slots := 0, locals := 0 }) (va_Pc [.int i1, .int i2, .int i3, .int i4] (hx_B T_tb (P_ty dA) (dC, dI) vwCl L h sz)) (va_Qi (fun (r : Int32) (u : List Nat × hx_h) => (r.toInt = i1.toInt + 8 * i2.toInt + 64 * i3.toInt + 128 * i4.toInt) ∧ hx_T T_tb u.1 u.2 ∧ hx_S T_tb [] L h u.1 u.2) (hx_E T_tb (P_ty dA) (dC, dI) vwCl (hx_A L sz)) (hx_A L sz)) 0 0 (hx_A L sz) := by
  refine hx_met (lv := [(0, .int i1), (1, .int i2), (2, .int i3), (3, .int i4)]) (by decide +kernel) rfl (Nat.le_of_ble_eq_true rfl) rfl ?_
  intro p e s m below meth c hx hb hml hr hlk hts0 hown hin hsz hW ls hl
  have hts : ∀ w ∈ hx_all, w.before _ s = true := fun w hw => hts0 w (List.mem_cons_of_mem _ hw)
  have hown : s.vm.findClass "SmallCourt$Act" = some m.cls := hown
  have hM : hx_S T_tb [] L h L h := hx_S.rf
  refine lv_iload_n hx hb dX0_term_0 rfl (lv_at hl 0 rfl) ?_
  refine lv_iload_n hx hb dX0_term_1 rfl (lv_at hl 1 rfl) ?_
  refine lv_iconst (v := 3) hx hb dX0_term_2 (by decide) ?_
  refine lv_ishl hx hb dX0_term_3 ?_
  refine lv_topi (fun x_1 ex_1 => ?_)
  refine lv_ior hx hb dX0_term_4 ?_
  refine lv_topi (fun x_2 ex_2 => ?_)
  refine lv_iload_n hx hb dX0_term_5 rfl (lv_at hl 2 rfl) ?_
  refine hb_if_eq (zx := i3.toInt) (tgt := 13) hx hb rfl dX0_term_6 (by decide) (fun c_3 => ?_) (fun c_3 => ?_)
  · skip
    refine lv_iconst (v := 0) hx hb dX0_term_13 (by decide) ?_
    refine lv_bipush (v := 6) hx hb dX0_term_14 (by decide) ?_
    refine lv_ishl hx hb dX0_term_16 ?_
    refine lv_topi (fun x_4 ex_4 => ?_)
    obtain rfl : x_4 = (0 : Int32) := ex_4.trans (by decide)
    refine lv_ior hx hb dX0_term_17 ?_
    refine lv_topi (fun x_5 ex_5 => ?_)
    refine lv_iload_n hx hb dX0_term_18 rfl (lv_at hl 3 rfl) ?_
    refine lv_bipush (v := 7) hx hb dX0_term_19 (by decide) ?_
    refine lv_ishl hx hb dX0_term_21 ?_
    refine lv_topi (fun x_6 ex_6 => ?_)
    refine lv_ior hx hb dX0_term_22 ?_
    refine lv_topi (fun x_7 ex_7 => ?_)
    exact hx_reti hx hb hr hlk hW ⟨(by have h9 := hv_tm (a := i1) (b := i2) (d := i4) (c := (0 : Int32)) 0 (by decide) (by decide) hi1 hi2 hi4 ex_1 ex_2 ex_5 ex_6 ex_7; omega), hT, hM⟩ dX0_term_23
  · skip
    refine lv_iconst (v := 1) hx hb dX0_term_9 (by decide) ?_
    refine lv_goto (tgt := 14) hx hb dX0_term_10 (by decide) ?_
    refine lv_bipush (v := 6) hx hb dX0_term_14 (by decide) ?_
    refine lv_ishl hx hb dX0_term_16 ?_
    refine lv_topi (fun x_8 ex_8 => ?_)
    obtain rfl : x_8 = (64 : Int32) := ex_8.trans (by decide)
    refine lv_ior hx hb dX0_term_17 ?_
    refine lv_topi (fun x_9 ex_9 => ?_)
    refine lv_iload_n hx hb dX0_term_18 rfl (lv_at hl 3 rfl) ?_
    refine lv_bipush (v := 7) hx hb dX0_term_19 (by decide) ?_
    refine lv_ishl hx hb dX0_term_21 ?_
    refine lv_topi (fun x_10 ex_10 => ?_)
    refine lv_ior hx hb dX0_term_22 ?_
    refine lv_topi (fun x_11 ex_11 => ?_)
    exact hx_reti hx hb hr hlk hW ⟨(by have h9 := hv_tm (a := i1) (b := i2) (d := i4) (c := (64 : Int32)) 1 (by decide) (by decide) hi1 hi2 hi4 ex_1 ex_2 ex_9 ex_10 ex_11; omega), hT, hM⟩ dX0_term_23

