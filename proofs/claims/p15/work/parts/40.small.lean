theorem dX10_in_0 : decode cX10_in 0 = .ok (.iload_n 0, 1) := by decide +kernel
theorem dX10_in_1 : decode cX10_in 1 = .ok (.iload_n 1, 1) := by decide +kernel
theorem dX10_in_2 : decode cX10_in 2 = .ok (.if_icmp .lt 12, 3) := by decide +kernel
theorem dX10_in_5 : decode cX10_in 5 = .ok (.iload_n 0, 1) := by decide +kernel
theorem dX10_in_6 : decode cX10_in 6 = .ok (.iload_n 2, 1) := by decide +kernel
theorem dX10_in_7 : decode cX10_in 7 = .ok (.if_icmp .gt 7, 3) := by decide +kernel
theorem dX10_in_10 : decode cX10_in 10 = .ok (.iconst 1, 1) := by decide +kernel
theorem dX10_in_11 : decode cX10_in 11 = .ok (.goto 4, 3) := by decide +kernel
theorem dX10_in_14 : decode cX10_in 14 = .ok (.iconst 0, 1) := by decide +kernel
theorem dX10_in_15 : decode cX10_in 15 = .ok (.ireturn, 1) := by decide +kernel
set_option maxHeartbeats 4000000 in
set_option maxRecDepth 100000 in
theorem t_X10_in (l : Launch) (dC : Nat → ClassId) (dI : Nat → Nat → Nat) (dA : Nat → ClassId) (L : List Nat) (h : hx_h) (sz : Nat) (i1 : Int32) (i2 : Int32) (i3 : Int32) (hT : hx_T T_tb L h)   : Met l yX10_in (Cond.code yX10_in cX10_in 3 (some .boolean) :: hx_all) ({ frames := 0, cells := 0, slots := 0, locals := 0 }) (va_Pc [.int i1, .int i2, .int i3] (hx_B T_tb (P_ty dA) (dC, dI) vwCl L h sz)) (va_Qi (fun (r : Int32) (u : List Nat × hx_h) => ((r.toInt = 0 ∧ (i1.toInt < i2.toInt ∨ i3.toInt < i1.toInt)) ∨ (r.toInt = 1 ∧ i2.toInt ≤ i1.toInt ∧ i1.toInt ≤ i3.toInt)) ∧ hx_T T_tb u.1 u.2 ∧ hx_S T_tb [] L h u.1 u.2) (hx_E T_tb (P_ty dA) (dC, dI) vwCl (hx_A L sz)) (hx_A L sz)) 0 0 (hx_A L sz) := by
  refine hx_met (lv := [(0, .int i1), (1, .int i2), (2, .int i3)]) (by decide +kernel) rfl (Nat.le_of_ble_eq_true rfl) rfl ?_
  intro p e s m below meth c hx hb hml hr hlk hts0 hown hin hsz hW ls hl
  have hts : ∀ w ∈ hx_all, w.before _ s = true := fun w hw => hts0 w (List.mem_cons_of_mem _ hw)
  have hown : s.vm.findClass "SmallCourtModel" = some m.cls := hown
  have hM : hx_S T_tb [] L h L h := hx_S.rf
  refine lv_iload_n hx hb dX10_in_0 rfl (lv_at hl 0 rfl) ?_
  refine lv_iload_n hx hb dX10_in_1 rfl (lv_at hl 1 rfl) ?_
  refine hb_icmp_lt (zx := i1.toInt) (zy := i2.toInt) (tgt := 14) hx hb rfl rfl dX10_in_2 (by decide) (fun c_1 => ?_) (fun c_1 => ?_)
  · skip
    refine lv_iconst (v := 0) hx hb dX10_in_14 (by decide) ?_
    exact hx_retz hx hb hr rfl hlk hW ⟨(by have zr : (0 : Int32).toInt = 0 := (by decide); (first | omega | (refine ⟨?_, ?_⟩ <;> omega))), hT, hM⟩ dX10_in_15
  · skip
    refine lv_iload_n hx hb dX10_in_5 rfl (lv_at hl 0 rfl) ?_
    refine lv_iload_n hx hb dX10_in_6 rfl (lv_at hl 2 rfl) ?_
    refine hb_icmp_gt (zx := i1.toInt) (zy := i3.toInt) (tgt := 14) hx hb rfl rfl dX10_in_7 (by decide) (fun c_2 => ?_) (fun c_2 => ?_)
    · skip
      refine lv_iconst (v := 0) hx hb dX10_in_14 (by decide) ?_
      exact hx_retz hx hb hr rfl hlk hW ⟨(by have zr : (0 : Int32).toInt = 0 := (by decide); (first | omega | (refine ⟨?_, ?_⟩ <;> omega))), hT, hM⟩ dX10_in_15
    · skip
      refine lv_iconst (v := 1) hx hb dX10_in_10 (by decide) ?_
      refine lv_goto (tgt := 15) hx hb dX10_in_11 (by decide) ?_
      exact hx_retz hx hb hr rfl hlk hW ⟨(by have zr : (1 : Int32).toInt = 1 := (by decide); (first | omega | (refine ⟨?_, ?_⟩ <;> omega))), hT, hM⟩ dX10_in_15

theorem dX10_without_0 : decode cX10_without 0 = .ok (.iload_n 0, 1) := by decide +kernel
theorem dX10_without_1 : decode cX10_without 1 = .ok (.tableswitch 76 0 8 #[51, 55, 58, 61, 64, 66, 68, 70, 73], 51) := by decide +kernel
theorem dX10_without_52 : decode cX10_without 52 = .ok (.sipush 480, 3) := by decide +kernel
theorem dX10_without_55 : decode cX10_without 55 = .ok (.ireturn, 1) := by decide +kernel
theorem dX10_without_56 : decode cX10_without 56 = .ok (.bipush 30, 2) := by decide +kernel
theorem dX10_without_58 : decode cX10_without 58 = .ok (.ireturn, 1) := by decide +kernel
theorem dX10_without_59 : decode cX10_without 59 = .ok (.bipush 12, 2) := by decide +kernel
theorem dX10_without_61 : decode cX10_without 61 = .ok (.ireturn, 1) := by decide +kernel
theorem dX10_without_62 : decode cX10_without 62 = .ok (.bipush 60, 2) := by decide +kernel
theorem dX10_without_64 : decode cX10_without 64 = .ok (.ireturn, 1) := by decide +kernel
theorem dX10_without_65 : decode cX10_without 65 = .ok (.iconst 2, 1) := by decide +kernel
theorem dX10_without_66 : decode cX10_without 66 = .ok (.ireturn, 1) := by decide +kernel
theorem dX10_without_67 : decode cX10_without 67 = .ok (.iconst 4, 1) := by decide +kernel
theorem dX10_without_68 : decode cX10_without 68 = .ok (.ireturn, 1) := by decide +kernel
theorem dX10_without_69 : decode cX10_without 69 = .ok (.iconst 1, 1) := by decide +kernel
theorem dX10_without_70 : decode cX10_without 70 = .ok (.ireturn, 1) := by decide +kernel
theorem dX10_without_71 : decode cX10_without 71 = .ok (.bipush 40, 2) := by decide +kernel
theorem dX10_without_73 : decode cX10_without 73 = .ok (.ireturn, 1) := by decide +kernel
theorem dX10_without_74 : decode cX10_without 74 = .ok (.bipush 21, 2) := by decide +kernel
theorem dX10_without_76 : decode cX10_without 76 = .ok (.ireturn, 1) := by decide +kernel
theorem dX10_without_77 : decode cX10_without 77 = .ok (.iconst 0, 1) := by decide +kernel
theorem dX10_without_78 : decode cX10_without 78 = .ok (.ireturn, 1) := by decide +kernel