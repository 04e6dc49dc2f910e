theorem dX8_retrace_0 : decode cX8_retrace 0 = .ok (.iconst 0, 1) := by decide +kernel
theorem dX8_retrace_1 : decode cX8_retrace 1 = .ok (.istore_n 2, 1) := by decide +kernel
theorem dX8_retrace_2 : decode cX8_retrace 2 = .ok (.iconst (-1), 1) := by decide +kernel
theorem dX8_retrace_3 : decode cX8_retrace 3 = .ok (.istore_n 3, 1) := by decide +kernel
theorem dX8_retrace_4 : decode cX8_retrace 4 = .ok (.iload_n 1, 1) := by decide +kernel
theorem dX8_retrace_5 : decode cX8_retrace 5 = .ok (.istore 4, 2) := by decide +kernel
theorem dX8_retrace_7 : decode cX8_retrace 7 = .ok (.iconst 0, 1) := by decide +kernel
theorem dX8_retrace_8 : decode cX8_retrace 8 = .ok (.istore 5, 2) := by decide +kernel
theorem dX8_retrace_10 : decode cX8_retrace 10 = .ok (.iload 5, 2) := by decide +kernel
theorem dX8_retrace_12 : decode cX8_retrace 12 = .ok (.aload_n 0, 1) := by decide +kernel
theorem dX8_retrace_13 : decode cX8_retrace 13 = .ok (.getfield 24, 3) := by decide +kernel
theorem dX8_retrace_16 : decode cX8_retrace 16 = .ok (.if_icmp .ge 59, 3) := by decide +kernel
theorem dX8_retrace_75 : decode cX8_retrace 75 = .ok (.return_, 1) := by decide +kernel
set_option maxHeartbeats 4000000 in
set_option maxRecDepth 100000 in
theorem c_X8_retrace (l : Launch) (dC : Nat → ClassId) (dI : Nat → Nat → Nat) (dA : Nat → ClassId) (L : List Nat) (h : hx_h) (sz : Nat) (x : Nat) (gx : hx_g L h x 8) (f_x_0 : h.2.1 x 0 = 0) : Met l yX8_retrace (Cond.code yX8_retrace cX8_retrace 7 none :: hx_all) ({ frames := 0, cells := 0, slots := 0, locals := 0 }) (va_Pc [.ref x, .int (0 : Int32)] (hx_B P_tb (P_ty dA) (dC, dI) vwCl L h sz)) (va_Qv (fun (u : List Nat × hx_h) => hx_S P_tb [] L h u.1 u.2) (hx_E P_tb (P_ty dA) (dC, dI) vwCl (hx_A L sz)) (hx_A L sz)) 0 0 (hx_A L sz) := by
  refine hx_met (lv := [(0, .ref x), (1, .int (0 : Int32))]) (by decide +kernel) rfl (Nat.le_of_ble_eq_true rfl) rfl ?_
  intro p e s m below meth c hx hb hml hr hlk hts0 hown hin hsz hW ls hl
  have hts : ∀ w ∈ hx_all, w.before _ s = true := fun w hw => hts0 w (List.mem_cons_of_mem _ hw)
  have hown : s.vm.findClass "SmallCourt$Walk" = some m.cls := hown
  have hM : hx_S P_tb [] L h L h := hx_S.rf
  refine lv_iconst (v := 0) hx hb dX8_retrace_0 (by decide) ?_
  refine lv_istore_n (lv' := [(2, .int (0 : Int32)), (0, .ref x), (1, .int (0 : Int32))]) hx hb dX8_retrace_1 rfl hl (by decide) rfl (fun ls hl => ?_)
  refine lv_iconst (v := -1) hx hb dX8_retrace_2 (by decide) ?_
  refine lv_istore_n (lv' := [(3, .int (-1 : Int32)), (2, .int (0 : Int32)), (0, .ref x), (1, .int (0 : Int32))]) hx hb dX8_retrace_3 rfl hl (by decide) rfl (fun ls hl => ?_)
  refine lv_iload_n hx hb dX8_retrace_4 rfl (lv_at hl 3 rfl) ?_
  refine lv_istore (lv' := [(4, .int (0 : Int32)), (3, .int (-1 : Int32)), (2, .int (0 : Int32)), (0, .ref x), (1, .int (0 : Int32))]) hx hb dX8_retrace_5 hl (by decide) rfl (fun ls hl => ?_)
  refine lv_iconst (v := 0) hx hb dX8_retrace_7 (by decide) ?_
  refine lv_istore (lv' := [(5, .int (0 : Int32)), (4, .int (0 : Int32)), (3, .int (-1 : Int32)), (2, .int (0 : Int32)), (0, .ref x), (1, .int (0 : Int32))]) hx hb dX8_retrace_8 hl (by decide) rfl (fun ls hl => ?_)
  refine lv_iload hx hb dX8_retrace_10 (lv_at hl 0 rfl) ?_
  refine lv_aload_n hx hb dX8_retrace_12 rfl (lv_at hl 4 rfl) ?_
  refine hk_geti hx hb hts hC_8 hown hW gx td_8 0 (by decide) rfl kw_345 ⟨rfl, rfl, rfl⟩ f_x_0 dX8_retrace_13 ?_
  refine hb_icmp_ge (zx := 0) (zy := 0) (tgt := 75) hx hb (by decide) (by decide) dX8_retrace_16 (by decide) (fun c_1 => ?_) (fun c_1 => absurd c_1 (by decide))
  exact hx_retv hx hb hr hlk hW hM dX8_retrace_75


theorem dX8_walkList_0 : decode cX8_walkList 0 = .ok (.iconst 1, 1) := by decide +kernel
theorem dX8_walkList_1 : decode cX8_walkList 1 = .ok (.aload_n 0, 1) := by decide +kernel
theorem dX8_walkList_2 : decode cX8_walkList 2 = .ok (.getfield 24, 3) := by decide +kernel
theorem dX8_walkList_5 : decode cX8_walkList 5 = .ok (.ishl, 1) := by decide +kernel
theorem dX8_walkList_6 : decode cX8_walkList 6 = .ok (.iconst 1, 1) := by decide +kernel
theorem dX8_walkList_7 : decode cX8_walkList 7 = .ok (.isub, 1) := by decide +kernel
theorem dX8_walkList_8 : decode cX8_walkList 8 = .ok (.istore_n 1, 1) := by decide +kernel
theorem dX8_walkList_9 : decode cX8_walkList 9 = .ok (.iload_n 1, 1) := by decide +kernel
theorem dX8_walkList_10 : decode cX8_walkList 10 = .ok (.istore_n 2, 1) := by decide +kernel
theorem dX8_walkList_11 : decode cX8_walkList 11 = .ok (.iload_n 2, 1) := by decide +kernel
theorem dX8_walkList_12 : decode cX8_walkList 12 = .ok (.ifCond .le 63, 3) := by decide +kernel
theorem dX8_walkList_75 : decode cX8_walkList 75 = .ok (.aload_n 0, 1) := by decide +kernel
theorem dX8_walkList_76 : decode cX8_walkList 76 = .ok (.getfield 24, 3) := by decide +kernel
theorem dX8_walkList_79 : decode cX8_walkList 79 = .ok (.ifCond .ne 7, 3) := by decide +kernel
theorem dX8_walkList_82 : decode cX8_walkList 82 = .ok (.iconst 0, 1) := by decide +kernel
theorem dX8_walkList_83 : decode cX8_walkList 83 = .ok (.goto 9, 3) := by decide +kernel
theorem dX8_walkList_92 : decode cX8_walkList 92 = .ok (.istore_n 2, 1) := by decide +kernel
theorem dX8_walkList_93 : decode cX8_walkList 93 = .ok (.aload_n 0, 1) := by decide +kernel
theorem dX8_walkList_94 : decode cX8_walkList 94 = .ok (.iload_n 2, 1) := by decide +kernel
theorem dX8_walkList_95 : decode cX8_walkList 95 = .ok (.invokevirtual 43, 3) := by decide +kernel
theorem dX8_walkList_98 : decode cX8_walkList 98 = .ok (.aload_n 0, 1) := by decide +kernel
theorem dX8_walkList_99 : decode cX8_walkList 99 = .ok (.aload_n 0, 1) := by decide +kernel
theorem dX8_walkList_100 : decode cX8_walkList 100 = .ok (.getfield 24, 3) := by decide +kernel
theorem dX8_walkList_103 : decode cX8_walkList 103 = .ok (.putfield 47, 3) := by decide +kernel
theorem dX8_walkList_106 : decode cX8_walkList 106 = .ok (.aload_n 0, 1) := by decide +kernel
theorem dX8_walkList_107 : decode cX8_walkList 107 = .ok (.iconst 0, 1) := by decide +kernel
theorem dX8_walkList_108 : decode cX8_walkList 108 = .ok (.putfield 24, 3) := by decide +kernel
theorem dX8_walkList_111 : decode cX8_walkList 111 = .ok (.iload_n 2, 1) := by decide +kernel
theorem dX8_walkList_112 : decode cX8_walkList 112 = .ok (.ireturn, 1) := by decide +kernel
set_option maxHeartbeats 4000000 in
set_option maxRecDepth 100000 in
theorem c_X8_walkList (l : Launch) (dC : Nat → ClassId) (dI : Nat → Nat → Nat) (dA : Nat → ClassId) (L : List Nat) (h : hx_h) (sz : Nat) (x : Nat) (gx : hx_g L h x 8) (f_x_0 : h.2.1 x 0 = 0) : Met l yX8_walkList (Cond.code yX8_walkList cX8_walkList 4 (some .int) :: hx_all) ({ frames := 1, cells := 0, slots := 0, locals := 26 }) (va_Pc [.ref x] (hx_B P_tb (P_ty dA) (dC, dI) vwCl L h sz)) (va_Qi (fun (r : Int32) (u : List Nat × hx_h) => (r = 0) ∧ hx_S P_tb [(8, 0), (8, 1)] L h u.1 u.2) (hx_E P_tb (P_ty dA) (dC, dI) vwCl (hx_A L sz)) (hx_A L sz)) 0 0 (hx_A L sz) := by
  refine hx_met (lv := [(0, .ref x)]) (by decide +kernel) rfl (Nat.le_of_ble_eq_true rfl) rfl ?_
  intro p e s m below meth c hx hb hml hr hlk hts0 hown hin hsz hW ls hl
  have hts : ∀ w ∈ hx_all, w.before _ s = true := fun w hw => hts0 w (List.mem_cons_of_mem _ hw)
  have hown : s.vm.findClass "SmallCourt$Walk" = some m.cls := hown
  have hM : hx_S P_tb [(8, 0), (8, 1)] L h L h := hx_S.rf
  refine lv_iconst (v := 1) hx hb dX8_walkList_0 (by decide) ?_
  refine lv_aload_n hx hb dX8_walkList_1 rfl (lv_at hl 0 rfl) ?_
  refine hk_geti hx hb hts hC_8 hown hW gx td_8 0 (by decide) rfl kw_345 ⟨rfl, rfl, rfl⟩ f_x_0 dX8_walkList_2 ?_
  refine lv_ishl hx hb dX8_walkList_5 ?_
  refine lv_topi (fun x_1 ex_1 => ?_)
  obtain rfl : x_1 = (1 : Int32) := ex_1.trans (by decide)
  refine lv_iconst (v := 1) hx hb dX8_walkList_6 (by decide) ?_
  refine lv_isub hx hb dX8_walkList_7 ?_
  refine lv_topi (fun x_2 ex_2 => ?_)
  obtain rfl : x_2 = (0 : Int32) := ex_2.trans (by decide)
  refine lv_istore_n (lv' := [(1, .int (0 : Int32)), (0, .ref x)]) hx hb dX8_walkList_8 rfl hl (by decide) rfl (fun ls hl => ?_)
  refine lv_iload_n hx hb dX8_walkList_9 rfl (lv_at hl 0 rfl) ?_
  refine lv_istore_n (lv' := [(2, .int (0 : Int32)), (1, .int (0 : Int32)), (0, .ref x)]) hx hb dX8_walkList_10 rfl hl (by decide) rfl (fun ls hl => ?_)
  refine lv_iload_n hx hb dX8_walkList_11 rfl (lv_at hl 0 rfl) ?_
  refine hb_if_le (zx := 0) (tgt := 75) hx hb (by decide) dX8_walkList_12 (by decide) (fun c_3 => ?_) (fun c_3 => absurd c_3 (by decide))
  refine lv_aload_n hx hb dX8_walkList_75 rfl (lv_at hl 2 rfl) ?_
  refine hk_geti hx hb hts hC_8 hown hW gx td_8 0 (by decide) rfl kw_345 ⟨rfl, rfl, rfl⟩ f_x_0 dX8_walkList_76 ?_
  refine hb_if_ne (zx := 0) (tgt := 86) hx hb (by decide) dX8_walkList_79 (by decide) (fun c_4 => absurd c_4 (by decide)) (fun c_4 => ?_)
  refine lv_iconst (v := 0) hx hb dX8_walkList_82 (by decide) ?_
  refine lv_goto (tgt := 92) hx hb dX8_walkList_83 (by decide) ?_
  refine lv_istore_n (lv' := [(2, .int (0 : Int32)), (1, .int (0 : Int32)), (0, .ref x)]) hx hb dX8_walkList_92 rfl hl (by decide) rfl (fun ls hl => ?_)
  refine lv_aload_n hx hb dX8_walkList_93 rfl (lv_at hl 2 rfl) ?_
  refine lv_iload_n hx hb dX8_walkList_94 rfl (lv_at hl 0 rfl) ?_
  refine hx_gov (hx_runV (As := [.int (0 : Int32)]) (rest := []) ⟨hx, hb, hml, hown, hts⟩ hW gx td_8 (T := TX8) (N := 5) rfl (c_X8_retrace l dC dI dA L h s.heap.size x gx f_x_0) (cwV 1 hts (hx_gV kw_1080 kw_1077 kw_1079 kw_45 kw_102) rfl rfl rfl (by decide +kernel) ⟨Nat.le_of_ble_eq_true rfl, Nat.le_of_ble_eq_true rfl⟩) rfl hl.1 rfl (Nat.le_of_ble_eq_true rfl) dX8_walkList_95 ⟨Nat.le_of_ble_eq_true rfl, Nat.le_of_ble_eq_true rfl⟩) hW (fun L_5 h_6 H locs p_8 hW => ?_)
  have hs : hx_S P_tb [] L h L_5 h_6 := p_8
  have f_x_0 := (hs.o gx trivial rfl).1.trans f_x_0
  have hM := hM.tr (hs.mono (by decide))
  have gx := gx.S hs
  refine lv_aload_n hx hb dX8_walkList_98 rfl (lv_at hl 2 rfl) ?_
  refine lv_aload_n hx hb dX8_walkList_99 rfl (lv_at hl 2 rfl) ?_
  refine hk_geti hx hb hts hC_8 hown hW gx td_8 0 (by decide) rfl kw_345 ⟨rfl, rfl, rfl⟩ f_x_0 dX8_walkList_100 ?_
  refine hk_puti hx hb hts hC_8 hown hW gx td_8 1 (by decide) rfl kw_347 ⟨rfl, rfl, rfl⟩ rfl (x := (0 : Int32)) rfl rfl rfl dX8_walkList_103 (fun H locs h_9 eh_9 hW hs => ?_)
  have f_x_0 := (hs.o gx trivial rfl).1.trans f_x_0
  have hM := hM.tr (hs.mono (by decide))
  have gx := gx.S hs
  have f_10 : h_9.2.1 x 1 = (0 : Int32) := by rw [eh_9]; exact hx_pi_at _ _ _ _
  refine lv_aload_n hx hb dX8_walkList_106 rfl (lv_at hl 2 rfl) ?_
  refine lv_iconst (v := 0) hx hb dX8_walkList_107 (by decide) ?_
  refine hk_puti hx hb hts hC_8 hown hW gx td_8 0 (by decide) rfl kw_345 ⟨rfl, rfl, rfl⟩ rfl (x := (0 : Int32)) rfl rfl rfl dX8_walkList_108 (fun H locs h_11 eh_11 hW hs => ?_)
  have f_10 := (hs.o gx trivial rfl).1.trans f_10
  have hM := hM.tr (hs.mono (by decide))
  have gx := gx.S hs
  have f_12 : h_11.2.1 x 0 = (0 : Int32) := by rw [eh_11]; exact hx_pi_at _ _ _ _
  refine lv_iload_n hx hb dX8_walkList_111 rfl (lv_at hl 0 rfl) ?_
  exact hx_reti hx hb hr hlk hW ⟨rfl, hM⟩ dX8_walkList_112


theorem dX9_walk_0 : decode cX9_walk 0 = .ok (.aload_n 0, 1) := by decide +kernel
theorem dX9_walk_1 : decode cX9_walk 1 = .ok (.getfield 86, 3) := by decide +kernel
theorem dX9_walk_4 : decode cX9_walk 4 = .ok (.invokevirtual 388, 3) := by decide +kernel
theorem dX9_walk_7 : decode cX9_walk 7 = .ok (.ireturn, 1) := by decide +kernel
set_option maxHeartbeats 4000000 in
set_option maxRecDepth 100000 in
theorem c_X9_walk (l : Launch) (dC : Nat → ClassId) (dI : Nat → Nat → Nat) (dA : Nat → ClassId) (L : List Nat) (h : hx_h) (sz : Nat) (x : Nat) (gx : hx_g L h x 9) (qw : Nat) (gqw : hx_g L h qw 8) (f_x_19 : h.2.2 x 19 = some qw) (f_qw_0 : h.2.1 qw 0 = 0) : Met l yX9_walk (Cond.code yX9_walk cX9_walk 1 (some .int) :: hx_all) ({ frames := 2, cells := 0, slots := 0, locals := 49 }) (va_Pc [.ref x] (hx_B P_tb (P_ty dA) (dC, dI) vwCl L h sz)) (va_Qi (fun (r : Int32) (u : List Nat × hx_h) => (r = 0) ∧ hx_S P_tb [(8, 0), (8, 1)] L h u.1 u.2) (hx_E P_tb (P_ty dA) (dC, dI) vwCl (hx_A L sz)) (hx_A L sz)) 0 0 (hx_A L sz) := by
  refine hx_met (lv := [(0, .ref x)]) (by decide +kernel) rfl (Nat.le_of_ble_eq_true rfl) rfl ?_
  intro p e s m below meth c hx hb hml hr hlk hts0 hown hin hsz hW ls hl
  have hts : ∀ w ∈ hx_all, w.before _ s = true := fun w hw => hts0 w (List.mem_cons_of_mem _ hw)
  have hown : s.vm.findClass "SmallCourt" = some m.cls := hown
  have hM : hx_S P_tb [(8, 0), (8, 1)] L h L h := hx_S.rf
  refine lv_aload_n hx hb dX9_walk_0 rfl (lv_at hl 0 rfl) ?_
  refine hk_getr hx hb hts hC_9 hown hW gx td_9 19 (by decide) rfl kw_383 ⟨rfl, rfl, rfl⟩ f_x_19 dX9_walk_1 ?_
  refine hx_goi (hx_runV (As := []) (rest := []) ⟨hx, hb, hml, hown, hts⟩ hW gqw td_8 (T := TX8) (N := 5) rfl (c_X8_walkList l dC dI dA L h s.heap.size qw gqw f_qw_0) (cwV 0 hts (hx_gV kw_1055 kw_1052 kw_1053 kw_1054 kw_102) rfl rfl rfl (by decide +kernel) ⟨Nat.le_of_ble_eq_true rfl, Nat.le_of_ble_eq_true rfl⟩) rfl hl.1 rfl (Nat.le_of_ble_eq_true rfl) dX9_walk_4 ⟨Nat.le_of_ble_eq_true rfl, Nat.le_of_ble_eq_true rfl⟩) hW (fun r_3 L_1 h_2 H locs p_4 hW => ?_)
  obtain ⟨er, hs⟩ := p_4
  have hs : hx_S P_tb [(8, 0), (8, 1)] L h L_1 h_2 := hs
  have f_x_19 := (hs.o gx trivial rfl).2.trans f_x_19
  have hM := hM.tr (hs.mono (by decide))
  have gx := gx.S hs
  have gqw := gqw.S hs
  subst er
  exact hx_reti hx hb hr hlk hW ⟨rfl, hM⟩ dX9_walk_7


theorem dX10_stepsBetween_0 : decode cX10_stepsBetween 0 = .ok (.iload_n 0, 1) := by decide +kernel
theorem dX10_stepsBetween_1 : decode cX10_stepsBetween 1 = .ok (.iload_n 2, 1) := by decide +kernel
theorem dX10_stepsBetween_2 : decode cX10_stepsBetween 2 = .ok (.if_icmp .ge 9, 3) := by decide +kernel
theorem dX10_stepsBetween_11 : decode cX10_stepsBetween 11 = .ok (.iload_n 0, 1) := by decide +kernel
theorem dX10_stepsBetween_12 : decode cX10_stepsBetween 12 = .ok (.iload_n 2, 1) := by decide +kernel
theorem dX10_stepsBetween_13 : decode cX10_stepsBetween 13 = .ok (.isub, 1) := by decide +kernel
theorem dX10_stepsBetween_14 : decode cX10_stepsBetween 14 = .ok (.iload_n 1, 1) := by decide +kernel
theorem dX10_stepsBetween_15 : decode cX10_stepsBetween 15 = .ok (.iload_n 3, 1) := by decide +kernel
theorem dX10_stepsBetween_16 : decode cX10_stepsBetween 16 = .ok (.if_icmp .ge 9, 3) := by decide +kernel
theorem dX10_stepsBetween_25 : decode cX10_stepsBetween 25 = .ok (.iload_n 1, 1) := by decide +kernel
theorem dX10_stepsBetween_26 : decode cX10_stepsBetween 26 = .ok (.iload_n 3, 1) := by decide +kernel
theorem dX10_stepsBetween_27 : decode cX10_stepsBetween 27 = .ok (.isub, 1) := by decide +kernel
theorem dX10_stepsBetween_28 : decode cX10_stepsBetween 28 = .ok (.iadd, 1) := by decide +kernel
theorem dX10_stepsBetween_29 : decode cX10_stepsBetween 29 = .ok (.ireturn, 1) := by decide +kernel
set_option maxHeartbeats 4000000 in
set_option maxRecDepth 100000 in
theorem c_X10_stepsBetween (l : Launch) (dC : Nat → ClassId) (dI : Nat → Nat → Nat) (dA : Nat → ClassId) (L : List Nat) (h : hx_h) (sz : Nat)    : Met l yX10_stepsBetween (Cond.code yX10_stepsBetween cX10_stepsBetween 4 (some .int) :: hx_all) ({ frames := 0, cells := 0, slots := 0, locals := 0 }) (va_Pc [.int (50 : Int32), .int (50 : Int32), .int (50 : Int32), .int (50 : Int32)] (hx_B P_tb (P_ty dA) (dC, dI) vwCl L h sz)) (va_Qi (fun (r : Int32) (u : List Nat × hx_h) => r = 0 ∧ u = (L, h)) (hx_E P_tb (P_ty dA) (dC, dI) vwCl (hx_A L sz)) (hx_A L sz)) 0 0 (hx_A L sz) := by
  refine hx_met (lv := [(0, .int (50 : Int32)), (1, .int (50 : Int32)), (2, .int (50 : Int32)), (3, .int (50 : Int32))]) (by decide +kernel) rfl (Nat.le_of_ble_eq_true rfl) rfl ?_
  intro p e s m below meth c hx hb hml hr hlk hts0 hown hin hsz hW ls hl
  have hts : ∀ w ∈ hx_all, w.before _ s = true := fun w hw => hts0 w (List.mem_cons_of_mem _ hw)
  have hown : s.vm.findClass "SmallCourtModel" = some m.cls := hown
  refine lv_iload_n hx hb dX10_stepsBetween_0 rfl (lv_at hl 0 rfl) ?_
  refine lv_iload_n hx hb dX10_stepsBetween_1 rfl (lv_at hl 2 rfl) ?_
  refine hb_icmp_ge (zx := 50) (zy := 50) (tgt := 11) hx hb (by decide) (by decide) dX10_stepsBetween_2 (by decide) (fun c_1 => ?_) (fun c_1 => absurd c_1 (by decide))
  refine lv_iload_n hx hb dX10_stepsBetween_11 rfl (lv_at hl 0 rfl) ?_
  refine lv_iload_n hx hb dX10_stepsBetween_12 rfl (lv_at hl 2 rfl) ?_
  refine lv_isub hx hb dX10_stepsBetween_13 ?_
  refine lv_topi (fun x_2 ex_2 => ?_)
  obtain rfl : x_2 = (0 : Int32) := ex_2.trans (by decide)
  refine lv_iload_n hx hb dX10_stepsBetween_14 rfl (lv_at hl 1 rfl) ?_
  refine lv_iload_n hx hb dX10_stepsBetween_15 rfl (lv_at hl 3 rfl) ?_
  refine hb_icmp_ge (zx := 50) (zy := 50) (tgt := 25) hx hb (by decide) (by decide) dX10_stepsBetween_16 (by decide) (fun c_3 => ?_) (fun c_3 => absurd c_3 (by decide))
  refine lv_iload_n hx hb dX10_stepsBetween_25 rfl (lv_at hl 1 rfl) ?_
  refine lv_iload_n hx hb dX10_stepsBetween_26 rfl (lv_at hl 3 rfl) ?_
  refine lv_isub hx hb dX10_stepsBetween_27 ?_
  refine lv_topi (fun x_4 ex_4 => ?_)
  obtain rfl : x_4 = (0 : Int32) := ex_4.trans (by decide)
  refine lv_iadd hx hb dX10_stepsBetween_28 ?_
  refine lv_topi (fun x_5 ex_5 => ?_)
  obtain rfl : x_5 = (0 : Int32) := ex_5.trans (by decide)
  exact hx_reti hx hb hr hlk hW ⟨rfl, rfl⟩ dX10_stepsBetween_29


theorem dX10_far_0 : decode cX10_far 0 = .ok (.iload_n 1, 1) := by decide +kernel
theorem dX10_far_1 : decode cX10_far 1 = .ok (.aload_n 0, 1) := by decide +kernel
theorem dX10_far_2 : decode cX10_far 2 = .ok (.getfield 468, 3) := by decide +kernel
theorem dX10_far_5 : decode cX10_far 5 = .ok (.if_icmp .ne 8, 3) := by decide +kernel
theorem dX10_far_8 : decode cX10_far 8 = .ok (.bipush 50, 2) := by decide +kernel
theorem dX10_far_10 : decode cX10_far 10 = .ok (.goto 19, 3) := by decide +kernel
theorem dX10_far_29 : decode cX10_far 29 = .ok (.istore_n 3, 1) := by decide +kernel
theorem dX10_far_30 : decode cX10_far 30 = .ok (.iload_n 1, 1) := by decide +kernel
theorem dX10_far_31 : decode cX10_far 31 = .ok (.aload_n 0, 1) := by decide +kernel
theorem dX10_far_32 : decode cX10_far 32 = .ok (.getfield 468, 3) := by decide +kernel
theorem dX10_far_35 : decode cX10_far 35 = .ok (.if_icmp .ne 8, 3) := by decide +kernel
theorem dX10_far_38 : decode cX10_far 38 = .ok (.bipush 50, 2) := by decide +kernel
theorem dX10_far_40 : decode cX10_far 40 = .ok (.goto 19, 3) := by decide +kernel
theorem dX10_far_59 : decode cX10_far 59 = .ok (.istore 4, 2) := by decide +kernel
theorem dX10_far_61 : decode cX10_far 61 = .ok (.iload_n 2, 1) := by decide +kernel
theorem dX10_far_62 : decode cX10_far 62 = .ok (.aload_n 0, 1) := by decide +kernel
theorem dX10_far_63 : decode cX10_far 63 = .ok (.getfield 468, 3) := by decide +kernel
theorem dX10_far_66 : decode cX10_far 66 = .ok (.if_icmp .ne 8, 3) := by decide +kernel
theorem dX10_far_69 : decode cX10_far 69 = .ok (.bipush 50, 2) := by decide +kernel
theorem dX10_far_71 : decode cX10_far 71 = .ok (.goto 19, 3) := by decide +kernel
theorem dX10_far_90 : decode cX10_far 90 = .ok (.istore 5, 2) := by decide +kernel
theorem dX10_far_92 : decode cX10_far 92 = .ok (.iload_n 2, 1) := by decide +kernel
theorem dX10_far_93 : decode cX10_far 93 = .ok (.aload_n 0, 1) := by decide +kernel
theorem dX10_far_94 : decode cX10_far 94 = .ok (.getfield 468, 3) := by decide +kernel
theorem dX10_far_97 : decode cX10_far 97 = .ok (.if_icmp .ne 8, 3) := by decide +kernel
theorem dX10_far_100 : decode cX10_far 100 = .ok (.bipush 50, 2) := by decide +kernel
theorem dX10_far_102 : decode cX10_far 102 = .ok (.goto 19, 3) := by decide +kernel
theorem dX10_far_121 : decode cX10_far 121 = .ok (.istore 6, 2) := by decide +kernel
theorem dX10_far_123 : decode cX10_far 123 = .ok (.iload_n 3, 1) := by decide +kernel
theorem dX10_far_124 : decode cX10_far 124 = .ok (.iload 4, 2) := by decide +kernel
theorem dX10_far_126 : decode cX10_far 126 = .ok (.iload 5, 2) := by decide +kernel
theorem dX10_far_128 : decode cX10_far 128 = .ok (.iload 6, 2) := by decide +kernel
theorem dX10_far_130 : decode cX10_far 130 = .ok (.invokestatic 471, 3) := by decide +kernel
theorem dX10_far_133 : decode cX10_far 133 = .ok (.ireturn, 1) := by decide +kernel
set_option maxHeartbeats 4000000 in
set_option maxRecDepth 100000 in
theorem c_X10_far (l : Launch) (dC : Nat → ClassId) (dI : Nat → Nat → Nat) (dA : Nat → ClassId) (L : List Nat) (h : hx_h) (sz : Nat) (y : Nat) (gy : hx_g L h y 10) (f_y_90 : h.2.1 y 90 = 0) : Met l yX10_far (Cond.code yX10_far cX10_far 7 (some .int) :: hx_all) ({ frames := 1, cells := 0, slots := 0, locals := 23 }) (va_Pc [.ref y, .int (0 : Int32), .int (0 : Int32)] (hx_B P_tb (P_ty dA) (dC, dI) vwCl L h sz)) (va_Qi (fun (r : Int32) (u : List Nat × hx_h) => r = 0 ∧ u = (L, h)) (hx_E P_tb (P_ty dA) (dC, dI) vwCl (hx_A L sz)) (hx_A L sz)) 0 0 (hx_A L sz) := by
  refine hx_met (lv := [(0, .ref y), (1, .int (0 : Int32)), (2, .int (0 : Int32))]) (by decide +kernel) rfl (Nat.le_of_ble_eq_true rfl) rfl ?_
  intro p e s m below meth c hx hb hml hr hlk hts0 hown hin hsz hW ls hl
  have hts : ∀ w ∈ hx_all, w.before _ s = true := fun w hw => hts0 w (List.mem_cons_of_mem _ hw)
  have hown : s.vm.findClass "SmallCourtModel" = some m.cls := hown
  refine lv_iload_n hx hb dX10_far_0 rfl (lv_at hl 1 rfl) ?_
  refine lv_aload_n hx hb dX10_far_1 rfl (lv_at hl 0 rfl) ?_
  refine hk_geti hx hb hts hC_10 hown hW gy td_10 90 (by decide) rfl kw_1233 ⟨rfl, rfl, rfl⟩ f_y_90 dX10_far_2 ?_
  refine hb_icmp_ne (zx := 0) (zy := 0) (tgt := 13) hx hb (by decide) (by decide) dX10_far_5 (by decide) (fun c_1 => absurd c_1 (by decide)) (fun c_1 => ?_)
  refine lv_bipush (v := 50) hx hb dX10_far_8 (by decide) ?_
  refine lv_goto (tgt := 29) hx hb dX10_far_10 (by decide) ?_
  refine lv_istore_n (lv' := [(3, .int (50 : Int32)), (0, .ref y), (1, .int (0 : Int32)), (2, .int (0 : Int32))]) hx hb dX10_far_29 rfl hl (by decide) rfl (fun ls hl => ?_)
  refine lv_iload_n hx hb dX10_far_30 rfl (lv_at hl 2 rfl) ?_
  refine lv_aload_n hx hb dX10_far_31 rfl (lv_at hl 1 rfl) ?_
  refine hk_geti hx hb hts hC_10 hown hW gy td_10 90 (by decide) rfl kw_1233 ⟨rfl, rfl, rfl⟩ f_y_90 dX10_far_32 ?_
  refine hb_icmp_ne (zx := 0) (zy := 0) (tgt := 43) hx hb (by decide) (by decide) dX10_far_35 (by decide) (fun c_2 => absurd c_2 (by decide)) (fun c_2 => ?_)
  refine lv_bipush (v := 50) hx hb dX10_far_38 (by decide) ?_
  refine lv_goto (tgt := 59) hx hb dX10_far_40 (by decide) ?_
  refine lv_istore (lv' := [(4, .int (50 : Int32)), (3, .int (50 : Int32)), (0, .ref y), (1, .int (0 : Int32)), (2, .int (0 : Int32))]) hx hb dX10_far_59 hl (by decide) rfl (fun ls hl => ?_)
  refine lv_iload_n hx hb dX10_far_61 rfl (lv_at hl 4 rfl) ?_
  refine lv_aload_n hx hb dX10_far_62 rfl (lv_at hl 2 rfl) ?_
  refine hk_geti hx hb hts hC_10 hown hW gy td_10 90 (by decide) rfl kw_1233 ⟨rfl, rfl, rfl⟩ f_y_90 dX10_far_63 ?_
  refine hb_icmp_ne (zx := 0) (zy := 0) (tgt := 74) hx hb (by decide) (by decide) dX10_far_66 (by decide) (fun c_3 => absurd c_3 (by decide)) (fun c_3 => ?_)
  refine lv_bipush (v := 50) hx hb dX10_far_69 (by decide) ?_
  refine lv_goto (tgt := 90) hx hb dX10_far_71 (by decide) ?_
  refine lv_istore (lv' := [(5, .int (50 : Int32)), (4, .int (50 : Int32)), (3, .int (50 : Int32)), (0, .ref y), (1, .int (0 : Int32)), (2, .int (0 : Int32))]) hx hb dX10_far_90 hl (by decide) rfl (fun ls hl => ?_)
  refine lv_iload_n hx hb dX10_far_92 rfl (lv_at hl 5 rfl) ?_
  refine lv_aload_n hx hb dX10_far_93 rfl (lv_at hl 3 rfl) ?_
  refine hk_geti hx hb hts hC_10 hown hW gy td_10 90 (by decide) rfl kw_1233 ⟨rfl, rfl, rfl⟩ f_y_90 dX10_far_94 ?_
  refine hb_icmp_ne (zx := 0) (zy := 0) (tgt := 105) hx hb (by decide) (by decide) dX10_far_97 (by decide) (fun c_4 => absurd c_4 (by decide)) (fun c_4 => ?_)
  refine lv_bipush (v := 50) hx hb dX10_far_100 (by decide) ?_
  refine lv_goto (tgt := 121) hx hb dX10_far_102 (by decide) ?_
  refine lv_istore (lv' := [(6, .int (50 : Int32)), (5, .int (50 : Int32)), (4, .int (50 : Int32)), (3, .int (50 : Int32)), (0, .ref y), (1, .int (0 : Int32)), (2, .int (0 : Int32))]) hx hb dX10_far_121 hl (by decide) rfl (fun ls hl => ?_)
  refine lv_iload_n hx hb dX10_far_123 rfl (lv_at hl 3 rfl) ?_
  refine lv_iload hx hb dX10_far_124 (lv_at hl 2 rfl) ?_
  refine lv_iload hx hb dX10_far_126 (lv_at hl 1 rfl) ?_
  refine lv_iload hx hb dX10_far_128 (lv_at hl 0 rfl) ?_
  refine hx_goi (hx_runS (As := [.int (50 : Int32), .int (50 : Int32), .int (50 : Int32), .int (50 : Int32)]) (rest := []) ⟨hx, hb, hml, hown, hts⟩ hW (c_X10_stepsBetween l dC dI dA L h s.heap.size ) (va_cwS 4 hts (hx_gS kw_1728 kw_1726 kw_1727 kw_103) rfl rfl rfl (by decide +kernel) ⟨Nat.le_of_ble_eq_true rfl, Nat.le_of_ble_eq_true rfl⟩) rfl hl.1 rfl (Nat.le_of_ble_eq_true rfl) dX10_far_130 ⟨Nat.le_of_ble_eq_true rfl, Nat.le_of_ble_eq_true rfl⟩) hW (fun r_7 L_5 h_6 H locs p_8 hW => ?_)
  obtain ⟨rfl, eu⟩ := p_8
  cases eu
  exact hx_reti hx hb hr hlk hW ⟨rfl, rfl⟩ dX10_far_133


theorem dX10_walk_0 : decode cX10_walk 0 = .ok (.iconst 1, 1) := by decide +kernel
theorem dX10_walk_1 : decode cX10_walk 1 = .ok (.aload_n 0, 1) := by decide +kernel
theorem dX10_walk_2 : decode cX10_walk 2 = .ok (.getfield 468, 3) := by decide +kernel
theorem dX10_walk_5 : decode cX10_walk 5 = .ok (.ishl, 1) := by decide +kernel
theorem dX10_walk_6 : decode cX10_walk 6 = .ok (.istore_n 1, 1) := by decide +kernel
theorem dX10_walk_7 : decode cX10_walk 7 = .ok (.iconst 0, 1) := by decide +kernel
theorem dX10_walk_8 : decode cX10_walk 8 = .ok (.istore_n 2, 1) := by decide +kernel
theorem dX10_walk_9 : decode cX10_walk 9 = .ok (.iload_n 2, 1) := by decide +kernel
theorem dX10_walk_10 : decode cX10_walk 10 = .ok (.iload_n 1, 1) := by decide +kernel
theorem dX10_walk_11 : decode cX10_walk 11 = .ok (.if_icmp .ge 119, 3) := by decide +kernel
theorem dX10_walk_14 : decode cX10_walk 14 = .ok (.iconst 0, 1) := by decide +kernel
theorem dX10_walk_15 : decode cX10_walk 15 = .ok (.istore_n 3, 1) := by decide +kernel
theorem dX10_walk_16 : decode cX10_walk 16 = .ok (.iload_n 3, 1) := by decide +kernel
theorem dX10_walk_17 : decode cX10_walk 17 = .ok (.aload_n 0, 1) := by decide +kernel
theorem dX10_walk_18 : decode cX10_walk 18 = .ok (.getfield 468, 3) := by decide +kernel
theorem dX10_walk_21 : decode cX10_walk 21 = .ok (.if_icmp .gt 103, 3) := by decide +kernel
theorem dX10_walk_24 : decode cX10_walk 24 = .ok (.iload_n 2, 1) := by decide +kernel
theorem dX10_walk_25 : decode cX10_walk 25 = .ok (.ifCond .ne 15, 3) := by decide +kernel
theorem dX10_walk_28 : decode cX10_walk 28 = .ok (.aload_n 0, 1) := by decide +kernel
theorem dX10_walk_29 : decode cX10_walk 29 = .ok (.iload_n 3, 1) := by decide +kernel
theorem dX10_walk_30 : decode cX10_walk 30 = .ok (.aload_n 0, 1) := by decide +kernel
theorem dX10_walk_31 : decode cX10_walk 31 = .ok (.getfield 468, 3) := by decide +kernel
theorem dX10_walk_34 : decode cX10_walk 34 = .ok (.invokevirtual 475, 3) := by decide +kernel
theorem dX10_walk_37 : decode cX10_walk 37 = .ok (.goto 6, 3) := by decide +kernel
theorem dX10_walk_43 : decode cX10_walk 43 = .ok (.istore 4, 2) := by decide +kernel
theorem dX10_walk_45 : decode cX10_walk 45 = .ok (.iconst 0, 1) := by decide +kernel
theorem dX10_walk_46 : decode cX10_walk 46 = .ok (.istore 5, 2) := by decide +kernel
theorem dX10_walk_48 : decode cX10_walk 48 = .ok (.iload 5, 2) := by decide +kernel
theorem dX10_walk_50 : decode cX10_walk 50 = .ok (.aload_n 0, 1) := by decide +kernel
theorem dX10_walk_51 : decode cX10_walk 51 = .ok (.getfield 468, 3) := by decide +kernel
theorem dX10_walk_54 : decode cX10_walk 54 = .ok (.if_icmp .ge 51, 3) := by decide +kernel
theorem dX10_walk_105 : decode cX10_walk 105 = .ok (.aload_n 0, 1) := by decide +kernel
theorem dX10_walk_106 : decode cX10_walk 106 = .ok (.getfield 207, 3) := by decide +kernel
theorem dX10_walk_109 : decode cX10_walk 109 = .ok (.bipush 9, 2) := by decide +kernel
theorem dX10_walk_111 : decode cX10_walk 111 = .ok (.iload_n 2, 1) := by decide +kernel
theorem dX10_walk_112 : decode cX10_walk 112 = .ok (.imul, 1) := by decide +kernel
theorem dX10_walk_113 : decode cX10_walk 113 = .ok (.iload_n 3, 1) := by decide +kernel
theorem dX10_walk_114 : decode cX10_walk 114 = .ok (.iadd, 1) := by decide +kernel
theorem dX10_walk_115 : decode cX10_walk 115 = .ok (.iload 4, 2) := by decide +kernel
theorem dX10_walk_117 : decode cX10_walk 117 = .ok (.iastore, 1) := by decide +kernel
theorem dX10_walk_118 : decode cX10_walk 118 = .ok (.iinc 3 1, 3) := by decide +kernel
theorem dX10_walk_121 : decode cX10_walk 121 = .ok (.goto (-105), 3) := by decide +kernel
theorem dX10_walk_124 : decode cX10_walk 124 = .ok (.iinc 2 1, 3) := by decide +kernel
theorem dX10_walk_127 : decode cX10_walk 127 = .ok (.goto (-118), 3) := by decide +kernel
theorem dX10_walk_130 : decode cX10_walk 130 = .ok (.iload_n 1, 1) := by decide +kernel
theorem dX10_walk_131 : decode cX10_walk 131 = .ok (.iconst 1, 1) := by decide +kernel
theorem dX10_walk_132 : decode cX10_walk 132 = .ok (.isub, 1) := by decide +kernel
theorem dX10_walk_133 : decode cX10_walk 133 = .ok (.istore_n 2, 1) := by decide +kernel
theorem dX10_walk_134 : decode cX10_walk 134 = .ok (.aload_n 0, 1) := by decide +kernel
theorem dX10_walk_135 : decode cX10_walk 135 = .ok (.getfield 468, 3) := by decide +kernel
theorem dX10_walk_138 : decode cX10_walk 138 = .ok (.istore_n 3, 1) := by decide +kernel
theorem dX10_walk_139 : decode cX10_walk 139 = .ok (.aload_n 0, 1) := by decide +kernel
theorem dX10_walk_140 : decode cX10_walk 140 = .ok (.getfield 207, 3) := by decide +kernel
theorem dX10_walk_143 : decode cX10_walk 143 = .ok (.bipush 9, 2) := by decide +kernel
theorem dX10_walk_145 : decode cX10_walk 145 = .ok (.iload_n 2, 1) := by decide +kernel
theorem dX10_walk_146 : decode cX10_walk 146 = .ok (.imul, 1) := by decide +kernel
theorem dX10_walk_147 : decode cX10_walk 147 = .ok (.iload_n 3, 1) := by decide +kernel
theorem dX10_walk_148 : decode cX10_walk 148 = .ok (.iadd, 1) := by decide +kernel
theorem dX10_walk_149 : decode cX10_walk 149 = .ok (.iaload, 1) := by decide +kernel
theorem dX10_walk_150 : decode cX10_walk 150 = .ok (.istore 4, 2) := by decide +kernel
theorem dX10_walk_152 : decode cX10_walk 152 = .ok (.aload_n 0, 1) := by decide +kernel
theorem dX10_walk_153 : decode cX10_walk 153 = .ok (.iconst 0, 1) := by decide +kernel
theorem dX10_walk_154 : decode cX10_walk 154 = .ok (.putfield 478, 3) := by decide +kernel
theorem dX10_walk_157 : decode cX10_walk 157 = .ok (.iload_n 2, 1) := by decide +kernel
theorem dX10_walk_158 : decode cX10_walk 158 = .ok (.ifCond .eq 99, 3) := by decide +kernel
theorem dX10_walk_257 : decode cX10_walk 257 = .ok (.aload_n 0, 1) := by decide +kernel
theorem dX10_walk_258 : decode cX10_walk 258 = .ok (.iconst 0, 1) := by decide +kernel
theorem dX10_walk_259 : decode cX10_walk 259 = .ok (.putfield 468, 3) := by decide +kernel
theorem dX10_walk_262 : decode cX10_walk 262 = .ok (.iload 4, 2) := by decide +kernel
theorem dX10_walk_264 : decode cX10_walk 264 = .ok (.ireturn, 1) := by decide +kernel
set_option maxHeartbeats 4000000 in
set_option maxRecDepth 100000 in
theorem c_X10_walk (l : Launch) (dC : Nat → ClassId) (dI : Nat → Nat → Nat) (dA : Nat → ClassId) (L : List Nat) (h : hx_h) (sz : Nat) (y : Nat) (gy : hx_g L h y 10) (f_y_90 : h.2.1 y 90 = 0) (qh : Nat) (gqh : hx_g L h qh 114) (f_y_94 : h.2.2 y 94 = some qh) : Met l yX10_walk (Cond.code yX10_walk cX10_walk 6 (some .int) :: hx_all) ({ frames := 2, cells := 0, slots := 0, locals := 49 }) (va_Pc [.ref y] (hx_B P_tb (P_ty dA) (dC, dI) vwCl L h sz)) (va_Qi (fun (r : Int32) (u : List Nat × hx_h) => (r = 0) ∧ hx_S P_tb [(10, 90), (10, 92), (114, 0)] L h u.1 u.2) (hx_E P_tb (P_ty dA) (dC, dI) vwCl (hx_A L sz)) (hx_A L sz)) 0 0 (hx_A L sz) := by
  refine hx_met (lv := [(0, .ref y)]) (by decide +kernel) rfl (Nat.le_of_ble_eq_true rfl) rfl ?_
  intro p e s m below meth c hx hb hml hr hlk hts0 hown hin hsz hW ls hl
  have hts : ∀ w ∈ hx_all, w.before _ s = true := fun w hw => hts0 w (List.mem_cons_of_mem _ hw)
  have hown : s.vm.findClass "SmallCourtModel" = some m.cls := hown
  have hM : hx_S P_tb [(10, 90), (10, 92), (114, 0)] L h L h := hx_S.rf
  refine lv_iconst (v := 1) hx hb dX10_walk_0 (by decide) ?_
  refine lv_aload_n hx hb dX10_walk_1 rfl (lv_at hl 0 rfl) ?_
  refine hk_geti hx hb hts hC_10 hown hW gy td_10 90 (by decide) rfl kw_1233 ⟨rfl, rfl, rfl⟩ f_y_90 dX10_walk_2 ?_
  refine lv_ishl hx hb dX10_walk_5 ?_
  refine lv_topi (fun x_1 ex_1 => ?_)
  obtain rfl : x_1 = (1 : Int32) := ex_1.trans (by decide)
  refine lv_istore_n (lv' := [(1, .int (1 : Int32)), (0, .ref y)]) hx hb dX10_walk_6 rfl hl (by decide) rfl (fun ls hl => ?_)
  refine lv_iconst (v := 0) hx hb dX10_walk_7 (by decide) ?_
  refine lv_istore_n (lv' := [(2, .int (0 : Int32)), (1, .int (1 : Int32)), (0, .ref y)]) hx hb dX10_walk_8 rfl hl (by decide) rfl (fun ls hl => ?_)
  refine lv_iload_n hx hb dX10_walk_9 rfl (lv_at hl 0 rfl) ?_
  refine lv_iload_n hx hb dX10_walk_10 rfl (lv_at hl 1 rfl) ?_
  refine hb_icmp_ge (zx := 0) (zy := 1) (tgt := 130) hx hb (by decide) (by decide) dX10_walk_11 (by decide) (fun c_2 => absurd c_2 (by decide)) (fun c_2 => ?_)
  refine lv_iconst (v := 0) hx hb dX10_walk_14 (by decide) ?_
  refine lv_istore_n (lv' := [(3, .int (0 : Int32)), (2, .int (0 : Int32)), (1, .int (1 : Int32)), (0, .ref y)]) hx hb dX10_walk_15 rfl hl (by decide) rfl (fun ls hl => ?_)
  refine lv_iload_n hx hb dX10_walk_16 rfl (lv_at hl 0 rfl) ?_
  refine lv_aload_n hx hb dX10_walk_17 rfl (lv_at hl 3 rfl) ?_
  refine hk_geti hx hb hts hC_10 hown hW gy td_10 90 (by decide) rfl kw_1233 ⟨rfl, rfl, rfl⟩ f_y_90 dX10_walk_18 ?_
  refine hb_icmp_gt (zx := 0) (zy := 0) (tgt := 124) hx hb (by decide) (by decide) dX10_walk_21 (by decide) (fun c_3 => absurd c_3 (by decide)) (fun c_3 => ?_)
  refine lv_iload_n hx hb dX10_walk_24 rfl (lv_at hl 1 rfl) ?_
  refine hb_if_ne (zx := 0) (tgt := 40) hx hb (by decide) dX10_walk_25 (by decide) (fun c_4 => absurd c_4 (by decide)) (fun c_4 => ?_)
  refine lv_aload_n hx hb dX10_walk_28 rfl (lv_at hl 3 rfl) ?_
  refine lv_iload_n hx hb dX10_walk_29 rfl (lv_at hl 0 rfl) ?_
  refine lv_aload_n hx hb dX10_walk_30 rfl (lv_at hl 3 rfl) ?_
  refine hk_geti hx hb hts hC_10 hown hW gy td_10 90 (by decide) rfl kw_1233 ⟨rfl, rfl, rfl⟩ f_y_90 dX10_walk_31 ?_
  refine hx_goi (hx_runV (As := [.int (0 : Int32), .int (0 : Int32)]) (rest := []) ⟨hx, hb, hml, hown, hts⟩ hW gy td_10 (T := TX10) (N := 98) rfl (c_X10_far l dC dI dA L h s.heap.size y gy f_y_90) (cwV 2 hts (hx_gV kw_1725 kw_1722 kw_1724 kw_90 kw_103) rfl rfl rfl (by decide +kernel) ⟨Nat.le_of_ble_eq_true rfl, Nat.le_of_ble_eq_true rfl⟩) rfl hl.1 rfl (Nat.le_of_ble_eq_true rfl) dX10_walk_34 ⟨Nat.le_of_ble_eq_true rfl, Nat.le_of_ble_eq_true rfl⟩) hW (fun r_7 L_5 h_6 H locs p_8 hW => ?_)
  obtain ⟨rfl, eu⟩ := p_8
  cases eu
  refine lv_goto (tgt := 43) hx hb dX10_walk_37 (by decide) ?_
  refine lv_istore (lv' := [(4, .int (0 : Int32)), (3, .int (0 : Int32)), (2, .int (0 : Int32)), (1, .int (1 : Int32)), (0, .ref y)]) hx hb dX10_walk_43 hl (by decide) rfl (fun ls hl => ?_)
  refine lv_iconst (v := 0) hx hb dX10_walk_45 (by decide) ?_
  refine lv_istore (lv' := [(5, .int (0 : Int32)), (4, .int (0 : Int32)), (3, .int (0 : Int32)), (2, .int (0 : Int32)), (1, .int (1 : Int32)), (0, .ref y)]) hx hb dX10_walk_46 hl (by decide) rfl (fun ls hl => ?_)
  refine lv_iload hx hb dX10_walk_48 (lv_at hl 0 rfl) ?_
  refine lv_aload_n hx hb dX10_walk_50 rfl (lv_at hl 5 rfl) ?_
  refine hk_geti hx hb hts hC_10 hown hW gy td_10 90 (by decide) rfl kw_1233 ⟨rfl, rfl, rfl⟩ f_y_90 dX10_walk_51 ?_
  refine hb_icmp_ge (zx := 0) (zy := 0) (tgt := 105) hx hb (by decide) (by decide) dX10_walk_54 (by decide) (fun c_9 => ?_) (fun c_9 => absurd c_9 (by decide))
  refine lv_aload_n hx hb dX10_walk_105 rfl (lv_at hl 5 rfl) ?_
  refine hk_getr hx hb hts hC_10 hown hW gy td_10 94 (by decide) rfl kw_1237 ⟨rfl, rfl, rfl⟩ f_y_94 dX10_walk_106 ?_
  refine lv_bipush (v := 9) hx hb dX10_walk_109 (by decide) ?_
  refine lv_iload_n hx hb dX10_walk_111 rfl (lv_at hl 3 rfl) ?_
  refine lv_imul hx hb dX10_walk_112 ?_
  refine lv_topi (fun x_10 ex_10 => ?_)
  obtain rfl : x_10 = (0 : Int32) := ex_10.trans (by decide)
  refine lv_iload_n hx hb dX10_walk_113 rfl (lv_at hl 2 rfl) ?_
  refine lv_iadd hx hb dX10_walk_114 ?_
  refine lv_topi (fun x_11 ex_11 => ?_)
  obtain rfl : x_11 = (0 : Int32) := ex_11.trans (by decide)
  refine lv_iload hx hb dX10_walk_115 (lv_at hl 1 rfl) ?_
  refine hk_iast hx hb hW gqh td_114 rfl (by decide) rfl dX10_walk_117 (fun H locs h_12 eh_12 hW hs => ?_)
  have f_y_90 := (hs.o gy trivial rfl).1.trans f_y_90
  have f_y_94 := (hs.o gy trivial rfl).2.trans f_y_94
  have hM := hM.tr (hs.mono (by decide))
  have gy := gy.S hs
  have gqh := gqh.S hs
  have f_13 : h_12.2.1 qh (0 : Int32).toNatClampNeg = (0 : Int32) := by rw [eh_12]; exact hx_pi_at _ _ _ _
  refine lv_iinc (v := 1) (lv' := [(3, .int (1 : Int32)), (5, .int (0 : Int32)), (4, .int (0 : Int32)), (2, .int (0 : Int32)), (1, .int (1 : Int32)), (0, .ref y)]) hx hb dX10_walk_118 hl (k := 2) rfl (by decide) (by decide) rfl (fun ls hl => ?_)
  refine lv_goto (tgt := 16) hx hb dX10_walk_121 (by decide) ?_
  refine lv_iload_n hx hb dX10_walk_16 rfl (lv_at hl 0 rfl) ?_
  refine lv_aload_n hx hb dX10_walk_17 rfl (lv_at hl 5 rfl) ?_
  refine hk_geti hx hb hts hC_10 hown hW gy td_10 90 (by decide) rfl kw_1233 ⟨rfl, rfl, rfl⟩ f_y_90 dX10_walk_18 ?_
  refine hb_icmp_gt (zx := 1) (zy := 0) (tgt := 124) hx hb (by decide) (by decide) dX10_walk_21 (by decide) (fun c_14 => ?_) (fun c_14 => absurd c_14 (by decide))
  refine lv_iinc (v := 1) (lv' := [(2, .int (1 : Int32)), (3, .int (1 : Int32)), (5, .int (0 : Int32)), (4, .int (0 : Int32)), (1, .int (1 : Int32)), (0, .ref y)]) hx hb dX10_walk_124 hl (k := 3) rfl (by decide) (by decide) rfl (fun ls hl => ?_)
  refine lv_goto (tgt := 9) hx hb dX10_walk_127 (by decide) ?_
  refine lv_iload_n hx hb dX10_walk_9 rfl (lv_at hl 0 rfl) ?_
  refine lv_iload_n hx hb dX10_walk_10 rfl (lv_at hl 4 rfl) ?_
  refine hb_icmp_ge (zx := 1) (zy := 1) (tgt := 130) hx hb (by decide) (by decide) dX10_walk_11 (by decide) (fun c_15 => ?_) (fun c_15 => absurd c_15 (by decide))
  refine lv_iload_n hx hb dX10_walk_130 rfl (lv_at hl 4 rfl) ?_
  refine lv_iconst (v := 1) hx hb dX10_walk_131 (by decide) ?_
  refine lv_isub hx hb dX10_walk_132 ?_
  refine lv_topi (fun x_16 ex_16 => ?_)
  obtain rfl : x_16 = (0 : Int32) := ex_16.trans (by decide)
  refine lv_istore_n (lv' := [(2, .int (0 : Int32)), (3, .int (1 : Int32)), (5, .int (0 : Int32)), (4, .int (0 : Int32)), (1, .int (1 : Int32)), (0, .ref y)]) hx hb dX10_walk_133 rfl hl (by decide) rfl (fun ls hl => ?_)
  refine lv_aload_n hx hb dX10_walk_134 rfl (lv_at hl 5 rfl) ?_
  refine hk_geti hx hb hts hC_10 hown hW gy td_10 90 (by decide) rfl kw_1233 ⟨rfl, rfl, rfl⟩ f_y_90 dX10_walk_135 ?_
  refine lv_istore_n (lv' := [(3, .int (0 : Int32)), (2, .int (0 : Int32)), (5, .int (0 : Int32)), (4, .int (0 : Int32)), (1, .int (1 : Int32)), (0, .ref y)]) hx hb dX10_walk_138 rfl hl (by decide) rfl (fun ls hl => ?_)
  refine lv_aload_n hx hb dX10_walk_139 rfl (lv_at hl 5 rfl) ?_
  refine hk_getr hx hb hts hC_10 hown hW gy td_10 94 (by decide) rfl kw_1237 ⟨rfl, rfl, rfl⟩ f_y_94 dX10_walk_140 ?_
  refine lv_bipush (v := 9) hx hb dX10_walk_143 (by decide) ?_
  refine lv_iload_n hx hb dX10_walk_145 rfl (lv_at hl 1 rfl) ?_
  refine lv_imul hx hb dX10_walk_146 ?_
  refine lv_topi (fun x_17 ex_17 => ?_)
  obtain rfl : x_17 = (0 : Int32) := ex_17.trans (by decide)
  refine lv_iload_n hx hb dX10_walk_147 rfl (lv_at hl 0 rfl) ?_
  refine lv_iadd hx hb dX10_walk_148 ?_
  refine lv_topi (fun x_18 ex_18 => ?_)
  obtain rfl : x_18 = (0 : Int32) := ex_18.trans (by decide)
  refine hk_iald hx hb hW gqh td_114 rfl (by decide) f_13 dX10_walk_149 ?_
  refine lv_istore (lv' := [(4, .int (0 : Int32)), (3, .int (0 : Int32)), (2, .int (0 : Int32)), (5, .int (0 : Int32)), (1, .int (1 : Int32)), (0, .ref y)]) hx hb dX10_walk_150 hl (by decide) rfl (fun ls hl => ?_)
  refine lv_aload_n hx hb dX10_walk_152 rfl (lv_at hl 5 rfl) ?_
  refine lv_iconst (v := 0) hx hb dX10_walk_153 (by decide) ?_
  refine hk_puti hx hb hts hC_10 hown hW gy td_10 92 (by decide) rfl kw_1235 ⟨rfl, rfl, rfl⟩ rfl (x := (0 : Int32)) rfl rfl rfl dX10_walk_154 (fun H locs h_19 eh_19 hW hs => ?_)
  have f_y_90 := (hs.o gy trivial rfl).1.trans f_y_90
  have f_y_94 := (hs.o gy trivial rfl).2.trans f_y_94
  have f_13 := (hs.a gqh rfl _).1.trans f_13
  have hM := hM.tr (hs.mono (by decide))
  have gy := gy.S hs
  have gqh := gqh.S hs
  have f_20 : h_19.2.1 y 92 = (0 : Int32) := by rw [eh_19]; exact hx_pi_at _ _ _ _
  refine lv_iload_n hx hb dX10_walk_157 rfl (lv_at hl 2 rfl) ?_
  refine hb_if_eq (zx := 0) (tgt := 257) hx hb (by decide) dX10_walk_158 (by decide) (fun c_21 => ?_) (fun c_21 => absurd c_21 (by decide))
  refine lv_aload_n hx hb dX10_walk_257 rfl (lv_at hl 5 rfl) ?_
  refine lv_iconst (v := 0) hx hb dX10_walk_258 (by decide) ?_
  refine hk_puti hx hb hts hC_10 hown hW gy td_10 90 (by decide) rfl kw_1233 ⟨rfl, rfl, rfl⟩ rfl (x := (0 : Int32)) rfl rfl rfl dX10_walk_259 (fun H locs h_22 eh_22 hW hs => ?_)
  have f_y_94 := (hs.o gy trivial rfl).2.trans f_y_94
  have f_13 := (hs.a gqh rfl _).1.trans f_13
  have f_20 := (hs.o gy trivial rfl).1.trans f_20
  have hM := hM.tr (hs.mono (by decide))
  have gy := gy.S hs
  have gqh := gqh.S hs
  have f_23 : h_22.2.1 y 90 = (0 : Int32) := by rw [eh_22]; exact hx_pi_at _ _ _ _
  refine lv_iload hx hb dX10_walk_262 (lv_at hl 0 rfl) ?_
  exact hx_reti hx hb hr hlk hW ⟨rfl, hM⟩ dX10_walk_264

