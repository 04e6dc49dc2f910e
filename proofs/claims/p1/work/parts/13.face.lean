theorem dX9_clock_0 : decode cX9_clock 0 = .ok (.iload_n 1, 1) := by decide +kernel
theorem dX9_clock_1 : decode cX9_clock 1 = .ok (.invokestatic 90, 3) := by decide +kernel
theorem dX9_clock_4 : decode cX9_clock 4 = .ok (.ifCond .eq 11, 3) := by decide +kernel
theorem dX9_clock_7 : decode cX9_clock 7 = .ok (.iload_n 1, 1) := by decide +kernel
theorem dX9_clock_8 : decode cX9_clock 8 = .ok (.aload_n 0, 1) := by decide +kernel
theorem dX9_clock_9 : decode cX9_clock 9 = .ok (.getfield 94, 3) := by decide +kernel
theorem dX9_clock_12 : decode cX9_clock 12 = .ok (.if_icmp .ge 5, 3) := by decide +kernel
theorem dX9_clock_15 : decode cX9_clock 15 = .ok (.iconst 0, 1) := by decide +kernel
theorem dX9_clock_16 : decode cX9_clock 16 = .ok (.ireturn, 1) := by decide +kernel
theorem dX9_clock_17 : decode cX9_clock 17 = .ok (.aload_n 0, 1) := by decide +kernel
theorem dX9_clock_18 : decode cX9_clock 18 = .ok (.iload_n 1, 1) := by decide +kernel
theorem dX9_clock_19 : decode cX9_clock 19 = .ok (.putfield 94, 3) := by decide +kernel
theorem dX9_clock_22 : decode cX9_clock 22 = .ok (.iconst 1, 1) := by decide +kernel
theorem dX9_clock_23 : decode cX9_clock 23 = .ok (.ireturn, 1) := by decide +kernel
set_option maxHeartbeats 4000000 in
set_option maxRecDepth 100000 in
theorem c_X9_clock (l : Launch) (dC : Nat → ClassId) (dI : Nat → Nat → Nat) (dA : Nat → ClassId) (L : List Nat) (h : hx_h) (sz : Nat) (x : Nat) (d : Int32) (gx : hx_g L h x 9) (f_x_2 : h.2.1 x 2 = 0) : Met l yX9_clock (Cond.code yX9_clock cX9_clock 2 (some .boolean) :: hx_all) ({ frames := 2, cells := 0, slots := 0, locals := 42 }) (va_Pc [.ref x, .int d] (hx_B P_tb (P_ty dA) (dC, dI) vwCl L h sz)) (va_Qi (fun (r : Int32) (u : List Nat × hx_h) => ((0 ≤ d.toInt ∧ d.toInt ≤ 7999) ∧ r = 1 ∨ ¬ (0 ≤ d.toInt ∧ d.toInt ≤ 7999) ∧ r = 0) ∧ hx_S P_tb [(9, 2)] L h u.1 u.2) (hx_E P_tb (P_ty dA) (dC, dI) vwCl (hx_A L sz)) (hx_A L sz)) 0 0 (hx_A L sz) := by
  refine hx_met (lv := [(0, .ref x), (1, .int d)]) (by decide +kernel) rfl (Nat.le_of_ble_eq_true rfl) rfl ?_
  intro p e s m below meth c hx hb hml hr hlk hts0 hown hin hsz hW ls hl
  have hts : ∀ w ∈ hx_all, w.before _ s = true := fun w hw => hts0 w (List.mem_cons_of_mem _ hw)
  have hown : s.vm.findClass "SmallCourt" = some m.cls := hown
  have hM : hx_S P_tb [(9, 2)] L h L h := hx_S.rf
  refine lv_iload_n hx hb dX9_clock_0 rfl (lv_at hl 1 rfl) ?_
  refine hx_goi (hx_runS (As := [.int d]) (rest := []) ⟨hx, hb, hml, hown, hts⟩ hW (c_X9_isDay l dC dI dA L h s.heap.size d) (va_cwS 1 hts (hx_gS kw_431 kw_429 kw_430 kw_94) rfl rfl rfl (by decide +kernel) ⟨Nat.le_of_ble_eq_true rfl, Nat.le_of_ble_eq_true rfl⟩) rfl hl.1 rfl (Nat.le_of_ble_eq_true rfl) dX9_clock_1 ⟨Nat.le_of_ble_eq_true rfl, Nat.le_of_ble_eq_true rfl⟩) hW (fun r_3 L_1 h_2 H locs p_4 hW => ?_)
  obtain ⟨p_4, eu⟩ := p_4
  cases eu
  rcases p_4 with ⟨kp_4, rfl⟩ | ⟨kp_4, rfl⟩
  · skip
    refine hb_if_eq (zx := 1) (tgt := 15) hx hb (by decide) dX9_clock_4 (by decide) (fun c_5 => absurd c_5 (by decide)) (fun c_5 => ?_)
    refine lv_iload_n hx hb dX9_clock_7 rfl (lv_at hl 1 rfl) ?_
    refine lv_aload_n hx hb dX9_clock_8 rfl (lv_at hl 0 rfl) ?_
    refine hk_geti hx hb hts hC_9 hown hW gx td_9 2 (by decide) rfl kw_366 ⟨rfl, rfl, rfl⟩ f_x_2 dX9_clock_9 ?_
    refine hb_icmp_ge (zx := d.toInt) (zy := 0) (tgt := 17) hx hb rfl (by decide) dX9_clock_12 (by decide) (fun c_6 => ?_) (fun c_6 => by exfalso; omega)
    refine lv_aload_n hx hb dX9_clock_17 rfl (lv_at hl 0 rfl) ?_
    refine lv_iload_n hx hb dX9_clock_18 rfl (lv_at hl 1 rfl) ?_
    refine hk_puti hx hb hts hC_9 hown hW gx td_9 2 (by decide) rfl kw_366 ⟨rfl, rfl, rfl⟩ rfl (x := d) rfl rfl rfl dX9_clock_19 (fun H locs h_7 eh_7 hW hs => ?_)
    have hM := hM.tr (hs.mono (by decide))
    have gx := gx.S hs
    have f_8 : h_7.2.1 x 2 = d := by rw [eh_7]; exact hx_pi_at _ _ _ _
    refine lv_iconst (v := 1) hx hb dX9_clock_22 (by decide) ?_
    exact hx_retz hx hb hr rfl hlk hW ⟨Or.inl ⟨by first | omega | decide, rfl⟩, hM⟩ dX9_clock_23
  · skip
    refine hb_if_eq (zx := 0) (tgt := 15) hx hb (by decide) dX9_clock_4 (by decide) (fun c_9 => ?_) (fun c_9 => absurd c_9 (by decide))
    refine lv_iconst (v := 0) hx hb dX9_clock_15 (by decide) ?_
    exact hx_retz hx hb hr rfl hlk hW ⟨Or.inr ⟨by first | omega | decide, rfl⟩, hM⟩ dX9_clock_16


theorem dX9_anew_0 : decode cX9_anew 0 = .ok (.aload_n 0, 1) := by decide +kernel
theorem dX9_anew_1 : decode cX9_anew 1 = .ok (.iload_n 1, 1) := by decide +kernel
theorem dX9_anew_2 : decode cX9_anew 2 = .ok (.invokevirtual 144, 3) := by decide +kernel
theorem dX9_anew_5 : decode cX9_anew 5 = .ok (.astore 6, 2) := by decide +kernel
theorem dX9_anew_7 : decode cX9_anew 7 = .ok (.aload 6, 2) := by decide +kernel
theorem dX9_anew_9 : decode cX9_anew 9 = .ok (.ifnull 23, 3) := by decide +kernel
theorem dX9_anew_32 : decode cX9_anew 32 = .ok (.iconst 0, 1) := by decide +kernel
theorem dX9_anew_33 : decode cX9_anew 33 = .ok (.ireturn, 1) := by decide +kernel
set_option maxHeartbeats 4000000 in
set_option maxRecDepth 100000 in
theorem c_X9_anew (l : Launch) (dC : Nat → ClassId) (dI : Nat → Nat → Nat) (dA : Nat → ClassId) (L : List Nat) (h : hx_h) (sz : Nat) (x : Nat) (i1 : Int32) (i2 : Int32) (i3 : Int32) (i4 : Int32) (i5 : Int32) (gx : hx_g L h x 9) (f_x_8 : h.2.1 x 8 = 0) : Met l yX9_anew (Cond.code yX9_anew cX9_anew 7 (some .boolean) :: hx_all) ({ frames := 1, cells := 0, slots := 0, locals := 21 }) (va_Pc [.ref x, .int i1, .int i2, .int i3, .int i4, .int i5] (hx_B P_tb (P_ty dA) (dC, dI) vwCl L h sz)) (va_Qi (fun (r : Int32) (u : List Nat × hx_h) => (r = 0) ∧ hx_S P_tb [] L h u.1 u.2) (hx_E P_tb (P_ty dA) (dC, dI) vwCl (hx_A L sz)) (hx_A L sz)) 0 0 (hx_A L sz) := by
  refine hx_met (lv := [(0, .ref x), (1, .int i1), (2, .int i2), (3, .int i3), (4, .int i4), (5, .int i5)]) (by decide +kernel) rfl (Nat.le_of_ble_eq_true rfl) rfl ?_
  intro p e s m below meth c hx hb hml hr hlk hts0 hown hin hsz hW ls hl
  have hts : ∀ w ∈ hx_all, w.before _ s = true := fun w hw => hts0 w (List.mem_cons_of_mem _ hw)
  have hown : s.vm.findClass "SmallCourt" = some m.cls := hown
  have hM : hx_S P_tb [] L h L h := hx_S.rf
  refine lv_aload_n hx hb dX9_anew_0 rfl (lv_at hl 0 rfl) ?_
  refine lv_iload_n hx hb dX9_anew_1 rfl (lv_at hl 1 rfl) ?_
  refine hx_goq (hx_runV (As := [.int i1]) (rest := []) ⟨hx, hb, hml, hown, hts⟩ hW gx td_9 (T := TX9) (N := 20) rfl (c_X9_personAt l dC dI dA L h s.heap.size x i1 gx f_x_8) (cwV 1 hts (hx_gV kw_659 kw_656 kw_658 kw_20 kw_94) rfl rfl rfl (by decide +kernel) ⟨Nat.le_of_ble_eq_true rfl, Nat.le_of_ble_eq_true rfl⟩) rfl hl.1 rfl (Nat.le_of_ble_eq_true rfl) dX9_anew_2 ⟨Nat.le_of_ble_eq_true rfl, Nat.le_of_ble_eq_true rfl⟩) hW (fun r_3 L_1 h_2 H locs p_4 hW => ?_)
  obtain ⟨rfl, eu⟩ := p_4
  cases eu
  refine lv_astoreN (lv' := [(6, .null), (0, .ref x), (1, .int i1), (2, .int i2), (3, .int i3), (4, .int i4), (5, .int i5)]) hx hb dX9_anew_5 hl (by decide) rfl (fun ls hl => ?_)
  refine lv_aloadN hx hb dX9_anew_7 (lv_at hl 0 rfl) ?_
  refine lv_ifnullN (tgt := 32) hx hb dX9_anew_9 (by decide) ?_
  refine lv_iconst (v := 0) hx hb dX9_anew_32 (by decide) ?_
  exact hx_retz hx hb hr rfl hlk hW ⟨rfl, hM⟩ dX9_anew_33


theorem dX9_dies_0 : decode cX9_dies 0 = .ok (.aload_n 0, 1) := by decide +kernel
theorem dX9_dies_1 : decode cX9_dies 1 = .ok (.iload_n 1, 1) := by decide +kernel
theorem dX9_dies_2 : decode cX9_dies 2 = .ok (.invokevirtual 144, 3) := by decide +kernel
theorem dX9_dies_5 : decode cX9_dies 5 = .ok (.astore_n 2, 1) := by decide +kernel
theorem dX9_dies_6 : decode cX9_dies 6 = .ok (.aload_n 2, 1) := by decide +kernel
theorem dX9_dies_7 : decode cX9_dies 7 = .ok (.ifnull 10, 3) := by decide +kernel
theorem dX9_dies_17 : decode cX9_dies 17 = .ok (.iconst 0, 1) := by decide +kernel
theorem dX9_dies_18 : decode cX9_dies 18 = .ok (.ireturn, 1) := by decide +kernel
set_option maxHeartbeats 4000000 in
set_option maxRecDepth 100000 in
theorem c_X9_dies (l : Launch) (dC : Nat → ClassId) (dI : Nat → Nat → Nat) (dA : Nat → ClassId) (L : List Nat) (h : hx_h) (sz : Nat) (x : Nat) (a : Int32) (gx : hx_g L h x 9) (f_x_8 : h.2.1 x 8 = 0) : Met l yX9_dies (Cond.code yX9_dies cX9_dies 3 (some .boolean) :: hx_all) ({ frames := 1, cells := 0, slots := 0, locals := 21 }) (va_Pc [.ref x, .int a] (hx_B P_tb (P_ty dA) (dC, dI) vwCl L h sz)) (va_Qi (fun (r : Int32) (u : List Nat × hx_h) => (r = 0) ∧ hx_S P_tb [] L h u.1 u.2) (hx_E P_tb (P_ty dA) (dC, dI) vwCl (hx_A L sz)) (hx_A L sz)) 0 0 (hx_A L sz) := by
  refine hx_met (lv := [(0, .ref x), (1, .int a)]) (by decide +kernel) rfl (Nat.le_of_ble_eq_true rfl) rfl ?_
  intro p e s m below meth c hx hb hml hr hlk hts0 hown hin hsz hW ls hl
  have hts : ∀ w ∈ hx_all, w.before _ s = true := fun w hw => hts0 w (List.mem_cons_of_mem _ hw)
  have hown : s.vm.findClass "SmallCourt" = some m.cls := hown
  have hM : hx_S P_tb [] L h L h := hx_S.rf
  refine lv_aload_n hx hb dX9_dies_0 rfl (lv_at hl 0 rfl) ?_
  refine lv_iload_n hx hb dX9_dies_1 rfl (lv_at hl 1 rfl) ?_
  refine hx_goq (hx_runV (As := [.int a]) (rest := []) ⟨hx, hb, hml, hown, hts⟩ hW gx td_9 (T := TX9) (N := 20) rfl (c_X9_personAt l dC dI dA L h s.heap.size x a gx f_x_8) (cwV 1 hts (hx_gV kw_659 kw_656 kw_658 kw_20 kw_94) rfl rfl rfl (by decide +kernel) ⟨Nat.le_of_ble_eq_true rfl, Nat.le_of_ble_eq_true rfl⟩) rfl hl.1 rfl (Nat.le_of_ble_eq_true rfl) dX9_dies_2 ⟨Nat.le_of_ble_eq_true rfl, Nat.le_of_ble_eq_true rfl⟩) hW (fun r_3 L_1 h_2 H locs p_4 hW => ?_)
  obtain ⟨rfl, eu⟩ := p_4
  cases eu
  refine lv_astore_nN (lv' := [(2, .null), (0, .ref x), (1, .int a)]) hx hb dX9_dies_5 rfl hl (by decide) rfl (fun ls hl => ?_)
  refine lv_aload_nN hx hb dX9_dies_6 rfl (lv_at hl 0 rfl) ?_
  refine lv_ifnullN (tgt := 17) hx hb dX9_dies_7 (by decide) ?_
  refine lv_iconst (v := 0) hx hb dX9_dies_17 (by decide) ?_
  exact hx_retz hx hb hr rfl hlk hW ⟨rfl, hM⟩ dX9_dies_18


theorem dX9_judge_0 : decode cX9_judge 0 = .ok (.aload_n 0, 1) := by decide +kernel
theorem dX9_judge_1 : decode cX9_judge 1 = .ok (.iload_n 1, 1) := by decide +kernel
theorem dX9_judge_2 : decode cX9_judge 2 = .ok (.invokevirtual 144, 3) := by decide +kernel
theorem dX9_judge_5 : decode cX9_judge 5 = .ok (.astore_n 3, 1) := by decide +kernel
theorem dX9_judge_6 : decode cX9_judge 6 = .ok (.aload_n 3, 1) := by decide +kernel
theorem dX9_judge_7 : decode cX9_judge 7 = .ok (.ifnull 11, 3) := by decide +kernel
theorem dX9_judge_18 : decode cX9_judge 18 = .ok (.iconst 0, 1) := by decide +kernel
theorem dX9_judge_19 : decode cX9_judge 19 = .ok (.ireturn, 1) := by decide +kernel
set_option maxHeartbeats 4000000 in
set_option maxRecDepth 100000 in
theorem c_X9_judge (l : Launch) (dC : Nat → ClassId) (dI : Nat → Nat → Nat) (dA : Nat → ClassId) (L : List Nat) (h : hx_h) (sz : Nat) (x : Nat) (a : Int32) (b : Int32) (gx : hx_g L h x 9) (f_x_8 : h.2.1 x 8 = 0) : Met l yX9_judge (Cond.code yX9_judge cX9_judge 4 (some .boolean) :: hx_all) ({ frames := 1, cells := 0, slots := 0, locals := 21 }) (va_Pc [.ref x, .int a, .int b] (hx_B P_tb (P_ty dA) (dC, dI) vwCl L h sz)) (va_Qi (fun (r : Int32) (u : List Nat × hx_h) => (r = 0) ∧ hx_S P_tb [] L h u.1 u.2) (hx_E P_tb (P_ty dA) (dC, dI) vwCl (hx_A L sz)) (hx_A L sz)) 0 0 (hx_A L sz) := by
  refine hx_met (lv := [(0, .ref x), (1, .int a), (2, .int b)]) (by decide +kernel) rfl (Nat.le_of_ble_eq_true rfl) rfl ?_
  intro p e s m below meth c hx hb hml hr hlk hts0 hown hin hsz hW ls hl
  have hts : ∀ w ∈ hx_all, w.before _ s = true := fun w hw => hts0 w (List.mem_cons_of_mem _ hw)
  have hown : s.vm.findClass "SmallCourt" = some m.cls := hown
  have hM : hx_S P_tb [] L h L h := hx_S.rf
  refine lv_aload_n hx hb dX9_judge_0 rfl (lv_at hl 0 rfl) ?_
  refine lv_iload_n hx hb dX9_judge_1 rfl (lv_at hl 1 rfl) ?_
  refine hx_goq (hx_runV (As := [.int a]) (rest := []) ⟨hx, hb, hml, hown, hts⟩ hW gx td_9 (T := TX9) (N := 20) rfl (c_X9_personAt l dC dI dA L h s.heap.size x a gx f_x_8) (cwV 1 hts (hx_gV kw_659 kw_656 kw_658 kw_20 kw_94) rfl rfl rfl (by decide +kernel) ⟨Nat.le_of_ble_eq_true rfl, Nat.le_of_ble_eq_true rfl⟩) rfl hl.1 rfl (Nat.le_of_ble_eq_true rfl) dX9_judge_2 ⟨Nat.le_of_ble_eq_true rfl, Nat.le_of_ble_eq_true rfl⟩) hW (fun r_3 L_1 h_2 H locs p_4 hW => ?_)
  obtain ⟨rfl, eu⟩ := p_4
  cases eu
  refine lv_astore_nN (lv' := [(3, .null), (0, .ref x), (1, .int a), (2, .int b)]) hx hb dX9_judge_5 rfl hl (by decide) rfl (fun ls hl => ?_)
  refine lv_aload_nN hx hb dX9_judge_6 rfl (lv_at hl 0 rfl) ?_
  refine lv_ifnullN (tgt := 18) hx hb dX9_judge_7 (by decide) ?_
  refine lv_iconst (v := 0) hx hb dX9_judge_18 (by decide) ?_
  exact hx_retz hx hb hr rfl hlk hW ⟨rfl, hM⟩ dX9_judge_19


theorem dX9_book_0 : decode cX9_book 0 = .ok (.aload_n 0, 1) := by decide +kernel
theorem dX9_book_1 : decode cX9_book 1 = .ok (.iload_n 1, 1) := by decide +kernel
theorem dX9_book_2 : decode cX9_book 2 = .ok (.iload_n 2, 1) := by decide +kernel
theorem dX9_book_3 : decode cX9_book 3 = .ok (.invokevirtual 161, 3) := by decide +kernel
theorem dX9_book_6 : decode cX9_book 6 = .ok (.ifCond .eq 10, 3) := by decide +kernel
theorem dX9_book_16 : decode cX9_book 16 = .ok (.ldc 169, 2) := by decide +kernel
theorem dX9_book_18 : decode cX9_book 18 = .ok (.ireturn, 1) := by decide +kernel
set_option maxHeartbeats 4000000 in
set_option maxRecDepth 100000 in
theorem c_X9_book (l : Launch) (dC : Nat → ClassId) (dI : Nat → Nat → Nat) (dA : Nat → ClassId) (L : List Nat) (h : hx_h) (sz : Nat) (x : Nat) (i1 : Int32) (i2 : Int32) (i3 : Int32) (i4 : Int32) (gx : hx_g L h x 9) (f_x_8 : h.2.1 x 8 = 0) : Met l yX9_book (Cond.code yX9_book cX9_book 5 (some .int) :: hx_all) ({ frames := 2, cells := 0, slots := 0, locals := 43 }) (va_Pc [.ref x, .int i1, .int i2, .int i3, .int i4] (hx_B P_tb (P_ty dA) (dC, dI) vwCl L h sz)) (va_Qi (fun (r : Int32) (u : List Nat × hx_h) => (r = -1000000) ∧ hx_S P_tb [] L h u.1 u.2) (hx_E P_tb (P_ty dA) (dC, dI) vwCl (hx_A L sz)) (hx_A L sz)) 0 0 (hx_A L sz) := by
  refine hx_met (lv := [(0, .ref x), (1, .int i1), (2, .int i2), (3, .int i3), (4, .int i4)]) (by decide +kernel) rfl (Nat.le_of_ble_eq_true rfl) rfl ?_
  intro p e s m below meth c hx hb hml hr hlk hts0 hown hin hsz hW ls hl
  have hts : ∀ w ∈ hx_all, w.before _ s = true := fun w hw => hts0 w (List.mem_cons_of_mem _ hw)
  have hown : s.vm.findClass "SmallCourt" = some m.cls := hown
  have hM : hx_S P_tb [] L h L h := hx_S.rf
  refine lv_aload_n hx hb dX9_book_0 rfl (lv_at hl 0 rfl) ?_
  refine lv_iload_n hx hb dX9_book_1 rfl (lv_at hl 1 rfl) ?_
  refine lv_iload_n hx hb dX9_book_2 rfl (lv_at hl 2 rfl) ?_
  refine hx_goi (hx_runV (As := [.int i1, .int i2]) (rest := []) ⟨hx, hb, hml, hown, hts⟩ hW gx td_9 (T := TX9) (N := 20) rfl (c_X9_areTwo l dC dI dA L h s.heap.size x i1 i2 gx f_x_8) (cwV 2 hts (hx_gV kw_675 kw_672 kw_674 kw_21 kw_94) rfl rfl rfl (by decide +kernel) ⟨Nat.le_of_ble_eq_true rfl, Nat.le_of_ble_eq_true rfl⟩) rfl hl.1 rfl (Nat.le_of_ble_eq_true rfl) dX9_book_3 ⟨Nat.le_of_ble_eq_true rfl, Nat.le_of_ble_eq_true rfl⟩) hW (fun r_3 L_1 h_2 H locs p_4 hW => ?_)
  obtain ⟨p_4, eu⟩ := p_4
  cases eu
  rcases p_4 with ⟨kp_4, rfl⟩ | ⟨kp_4, rfl⟩
  · exfalso
    omega
  · skip
    refine hb_if_eq (zx := 0) (tgt := 16) hx hb (by decide) dX9_book_6 (by decide) (fun c_5 => ?_) (fun c_5 => absurd c_5 (by decide))
    refine lv_ldc (v := -1000000) hx hb hown (hts _ kw_684) dX9_book_16 ?_
    exact hx_reti hx hb hr hlk hW ⟨rfl, hM⟩ dX9_book_18


theorem dX9_summons_0 : decode cX9_summons 0 = .ok (.aload_n 0, 1) := by decide +kernel
theorem dX9_summons_1 : decode cX9_summons 1 = .ok (.iload_n 1, 1) := by decide +kernel
theorem dX9_summons_2 : decode cX9_summons 2 = .ok (.invokevirtual 200, 3) := by decide +kernel
theorem dX9_summons_5 : decode cX9_summons 5 = .ok (.astore_n 3, 1) := by decide +kernel
theorem dX9_summons_6 : decode cX9_summons 6 = .ok (.aload_n 3, 1) := by decide +kernel
theorem dX9_summons_7 : decode cX9_summons 7 = .ok (.ifnull 11, 3) := by decide +kernel
theorem dX9_summons_18 : decode cX9_summons 18 = .ok (.iconst (-1), 1) := by decide +kernel
theorem dX9_summons_19 : decode cX9_summons 19 = .ok (.ireturn, 1) := by decide +kernel
set_option maxHeartbeats 4000000 in
set_option maxRecDepth 100000 in
theorem c_X9_summons (l : Launch) (dC : Nat → ClassId) (dI : Nat → Nat → Nat) (dA : Nat → ClassId) (L : List Nat) (h : hx_h) (sz : Nat) (x : Nat) (a : Int32) (b : Int32) (gx : hx_g L h x 9) (f_x_11 : h.2.1 x 11 = 0) : Met l yX9_summons (Cond.code yX9_summons cX9_summons 4 (some .int) :: hx_all) ({ frames := 1, cells := 0, slots := 0, locals := 21 }) (va_Pc [.ref x, .int a, .int b] (hx_B P_tb (P_ty dA) (dC, dI) vwCl L h sz)) (va_Qi (fun (r : Int32) (u : List Nat × hx_h) => (r = -1) ∧ hx_S P_tb [] L h u.1 u.2) (hx_E P_tb (P_ty dA) (dC, dI) vwCl (hx_A L sz)) (hx_A L sz)) 0 0 (hx_A L sz) := by
  refine hx_met (lv := [(0, .ref x), (1, .int a), (2, .int b)]) (by decide +kernel) rfl (Nat.le_of_ble_eq_true rfl) rfl ?_
  intro p e s m below meth c hx hb hml hr hlk hts0 hown hin hsz hW ls hl
  have hts : ∀ w ∈ hx_all, w.before _ s = true := fun w hw => hts0 w (List.mem_cons_of_mem _ hw)
  have hown : s.vm.findClass "SmallCourt" = some m.cls := hown
  have hM : hx_S P_tb [] L h L h := hx_S.rf
  refine lv_aload_n hx hb dX9_summons_0 rfl (lv_at hl 0 rfl) ?_
  refine lv_iload_n hx hb dX9_summons_1 rfl (lv_at hl 1 rfl) ?_
  refine hx_goq (hx_runV (As := [.int a]) (rest := []) ⟨hx, hb, hml, hown, hts⟩ hW gx td_9 (T := TX9) (N := 20) rfl (c_X9_claimAt l dC dI dA L h s.heap.size x a gx f_x_11) (cwV 1 hts (hx_gV kw_810 kw_807 kw_809 kw_25 kw_94) rfl rfl rfl (by decide +kernel) ⟨Nat.le_of_ble_eq_true rfl, Nat.le_of_ble_eq_true rfl⟩) rfl hl.1 rfl (Nat.le_of_ble_eq_true rfl) dX9_summons_2 ⟨Nat.le_of_ble_eq_true rfl, Nat.le_of_ble_eq_true rfl⟩) hW (fun r_3 L_1 h_2 H locs p_4 hW => ?_)
  obtain ⟨rfl, eu⟩ := p_4
  cases eu
  refine lv_astore_nN (lv' := [(3, .null), (0, .ref x), (1, .int a), (2, .int b)]) hx hb dX9_summons_5 rfl hl (by decide) rfl (fun ls hl => ?_)
  refine lv_aload_nN hx hb dX9_summons_6 rfl (lv_at hl 0 rfl) ?_
  refine lv_ifnullN (tgt := 18) hx hb dX9_summons_7 (by decide) ?_
  refine lv_iconst (v := -1) hx hb dX9_summons_18 (by decide) ?_
  exact hx_reti hx hb hr hlk hW ⟨rfl, hM⟩ dX9_summons_19


theorem dX9_hear_0 : decode cX9_hear 0 = .ok (.aload_n 0, 1) := by decide +kernel
theorem dX9_hear_1 : decode cX9_hear 1 = .ok (.iload_n 1, 1) := by decide +kernel
theorem dX9_hear_2 : decode cX9_hear 2 = .ok (.invokevirtual 200, 3) := by decide +kernel
theorem dX9_hear_5 : decode cX9_hear 5 = .ok (.astore 5, 2) := by decide +kernel
theorem dX9_hear_7 : decode cX9_hear 7 = .ok (.aload 5, 2) := by decide +kernel
theorem dX9_hear_9 : decode cX9_hear 9 = .ok (.ifnull 57, 3) := by decide +kernel
theorem dX9_hear_66 : decode cX9_hear 66 = .ok (.iconst (-1), 1) := by decide +kernel
theorem dX9_hear_67 : decode cX9_hear 67 = .ok (.ireturn, 1) := by decide +kernel
set_option maxHeartbeats 4000000 in
set_option maxRecDepth 100000 in
theorem c_X9_hear (l : Launch) (dC : Nat → ClassId) (dI : Nat → Nat → Nat) (dA : Nat → ClassId) (L : List Nat) (h : hx_h) (sz : Nat) (x : Nat) (i1 : Int32) (i2 : Int32) (i3 : Int32) (i4 : Int32) (gx : hx_g L h x 9) (f_x_11 : h.2.1 x 11 = 0) : Met l yX9_hear (Cond.code yX9_hear cX9_hear 8 (some .int) :: hx_all) ({ frames := 1, cells := 0, slots := 0, locals := 21 }) (va_Pc [.ref x, .int i1, .int i2, .int i3, .int i4] (hx_B P_tb (P_ty dA) (dC, dI) vwCl L h sz)) (va_Qi (fun (r : Int32) (u : List Nat × hx_h) => (r = -1) ∧ hx_S P_tb [] L h u.1 u.2) (hx_E P_tb (P_ty dA) (dC, dI) vwCl (hx_A L sz)) (hx_A L sz)) 0 0 (hx_A L sz) := by
  refine hx_met (lv := [(0, .ref x), (1, .int i1), (2, .int i2), (3, .int i3), (4, .int i4)]) (by decide +kernel) rfl (Nat.le_of_ble_eq_true rfl) rfl ?_
  intro p e s m below meth c hx hb hml hr hlk hts0 hown hin hsz hW ls hl
  have hts : ∀ w ∈ hx_all, w.before _ s = true := fun w hw => hts0 w (List.mem_cons_of_mem _ hw)
  have hown : s.vm.findClass "SmallCourt" = some m.cls := hown
  have hM : hx_S P_tb [] L h L h := hx_S.rf
  refine lv_aload_n hx hb dX9_hear_0 rfl (lv_at hl 0 rfl) ?_
  refine lv_iload_n hx hb dX9_hear_1 rfl (lv_at hl 1 rfl) ?_
  refine hx_goq (hx_runV (As := [.int i1]) (rest := []) ⟨hx, hb, hml, hown, hts⟩ hW gx td_9 (T := TX9) (N := 20) rfl (c_X9_claimAt l dC dI dA L h s.heap.size x i1 gx f_x_11) (cwV 1 hts (hx_gV kw_810 kw_807 kw_809 kw_25 kw_94) rfl rfl rfl (by decide +kernel) ⟨Nat.le_of_ble_eq_true rfl, Nat.le_of_ble_eq_true rfl⟩) rfl hl.1 rfl (Nat.le_of_ble_eq_true rfl) dX9_hear_2 ⟨Nat.le_of_ble_eq_true rfl, Nat.le_of_ble_eq_true rfl⟩) hW (fun r_3 L_1 h_2 H locs p_4 hW => ?_)
  obtain ⟨rfl, eu⟩ := p_4
  cases eu
  refine lv_astoreN (lv' := [(5, .null), (0, .ref x), (1, .int i1), (2, .int i2), (3, .int i3), (4, .int i4)]) hx hb dX9_hear_5 hl (by decide) rfl (fun ls hl => ?_)
  refine lv_aloadN hx hb dX9_hear_7 (lv_at hl 0 rfl) ?_
  refine lv_ifnullN (tgt := 66) hx hb dX9_hear_9 (by decide) ?_
  refine lv_iconst (v := -1) hx hb dX9_hear_66 (by decide) ?_
  exact hx_reti hx hb hr hlk hW ⟨rfl, hM⟩ dX9_hear_67


theorem dX9_order_0 : decode cX9_order 0 = .ok (.aload_n 0, 1) := by decide +kernel
theorem dX9_order_1 : decode cX9_order 1 = .ok (.iload_n 1, 1) := by decide +kernel
theorem dX9_order_2 : decode cX9_order 2 = .ok (.invokevirtual 200, 3) := by decide +kernel
theorem dX9_order_5 : decode cX9_order 5 = .ok (.astore_n 3, 1) := by decide +kernel
theorem dX9_order_6 : decode cX9_order 6 = .ok (.aload_n 3, 1) := by decide +kernel
theorem dX9_order_7 : decode cX9_order 7 = .ok (.ifnull 40, 3) := by decide +kernel
theorem dX9_order_47 : decode cX9_order 47 = .ok (.iconst (-1), 1) := by decide +kernel
theorem dX9_order_48 : decode cX9_order 48 = .ok (.ireturn, 1) := by decide +kernel
set_option maxHeartbeats 4000000 in
set_option maxRecDepth 100000 in
theorem c_X9_order (l : Launch) (dC : Nat → ClassId) (dI : Nat → Nat → Nat) (dA : Nat → ClassId) (L : List Nat) (h : hx_h) (sz : Nat) (x : Nat) (a : Int32) (b : Int32) (gx : hx_g L h x 9) (f_x_11 : h.2.1 x 11 = 0) : Met l yX9_order (Cond.code yX9_order cX9_order 5 (some .int) :: hx_all) ({ frames := 1, cells := 0, slots := 0, locals := 21 }) (va_Pc [.ref x, .int a, .int b] (hx_B P_tb (P_ty dA) (dC, dI) vwCl L h sz)) (va_Qi (fun (r : Int32) (u : List Nat × hx_h) => (r = -1) ∧ hx_S P_tb [] L h u.1 u.2) (hx_E P_tb (P_ty dA) (dC, dI) vwCl (hx_A L sz)) (hx_A L sz)) 0 0 (hx_A L sz) := by
  refine hx_met (lv := [(0, .ref x), (1, .int a), (2, .int b)]) (by decide +kernel) rfl (Nat.le_of_ble_eq_true rfl) rfl ?_
  intro p e s m below meth c hx hb hml hr hlk hts0 hown hin hsz hW ls hl
  have hts : ∀ w ∈ hx_all, w.before _ s = true := fun w hw => hts0 w (List.mem_cons_of_mem _ hw)
  have hown : s.vm.findClass "SmallCourt" = some m.cls := hown
  have hM : hx_S P_tb [] L h L h := hx_S.rf
  refine lv_aload_n hx hb dX9_order_0 rfl (lv_at hl 0 rfl) ?_
  refine lv_iload_n hx hb dX9_order_1 rfl (lv_at hl 1 rfl) ?_
  refine hx_goq (hx_runV (As := [.int a]) (rest := []) ⟨hx, hb, hml, hown, hts⟩ hW gx td_9 (T := TX9) (N := 20) rfl (c_X9_claimAt l dC dI dA L h s.heap.size x a gx f_x_11) (cwV 1 hts (hx_gV kw_810 kw_807 kw_809 kw_25 kw_94) rfl rfl rfl (by decide +kernel) ⟨Nat.le_of_ble_eq_true rfl, Nat.le_of_ble_eq_true rfl⟩) rfl hl.1 rfl (Nat.le_of_ble_eq_true rfl) dX9_order_2 ⟨Nat.le_of_ble_eq_true rfl, Nat.le_of_ble_eq_true rfl⟩) hW (fun r_3 L_1 h_2 H locs p_4 hW => ?_)
  obtain ⟨rfl, eu⟩ := p_4
  cases eu
  refine lv_astore_nN (lv' := [(3, .null), (0, .ref x), (1, .int a), (2, .int b)]) hx hb dX9_order_5 rfl hl (by decide) rfl (fun ls hl => ?_)
  refine lv_aload_nN hx hb dX9_order_6 rfl (lv_at hl 0 rfl) ?_
  refine lv_ifnullN (tgt := 47) hx hb dX9_order_7 (by decide) ?_
  refine lv_iconst (v := -1) hx hb dX9_order_47 (by decide) ?_
  exact hx_reti hx hb hr hlk hW ⟨rfl, hM⟩ dX9_order_48


theorem dX9_seize_0 : decode cX9_seize 0 = .ok (.aload_n 0, 1) := by decide +kernel
theorem dX9_seize_1 : decode cX9_seize 1 = .ok (.iload_n 1, 1) := by decide +kernel
theorem dX9_seize_2 : decode cX9_seize 2 = .ok (.invokevirtual 200, 3) := by decide +kernel
theorem dX9_seize_5 : decode cX9_seize 5 = .ok (.astore_n 3, 1) := by decide +kernel
theorem dX9_seize_6 : decode cX9_seize 6 = .ok (.aload_n 3, 1) := by decide +kernel
theorem dX9_seize_7 : decode cX9_seize 7 = .ok (.ifnull 22, 3) := by decide +kernel
theorem dX9_seize_29 : decode cX9_seize 29 = .ok (.ldc 169, 2) := by decide +kernel
theorem dX9_seize_31 : decode cX9_seize 31 = .ok (.ireturn, 1) := by decide +kernel
set_option maxHeartbeats 4000000 in
set_option maxRecDepth 100000 in
theorem c_X9_seize (l : Launch) (dC : Nat → ClassId) (dI : Nat → Nat → Nat) (dA : Nat → ClassId) (L : List Nat) (h : hx_h) (sz : Nat) (x : Nat) (a : Int32) (b : Int32) (gx : hx_g L h x 9) (f_x_11 : h.2.1 x 11 = 0) : Met l yX9_seize (Cond.code yX9_seize cX9_seize 5 (some .int) :: hx_all) ({ frames := 1, cells := 0, slots := 0, locals := 21 }) (va_Pc [.ref x, .int a, .int b] (hx_B P_tb (P_ty dA) (dC, dI) vwCl L h sz)) (va_Qi (fun (r : Int32) (u : List Nat × hx_h) => (r = -1000000) ∧ hx_S P_tb [] L h u.1 u.2) (hx_E P_tb (P_ty dA) (dC, dI) vwCl (hx_A L sz)) (hx_A L sz)) 0 0 (hx_A L sz) := by
  refine hx_met (lv := [(0, .ref x), (1, .int a), (2, .int b)]) (by decide +kernel) rfl (Nat.le_of_ble_eq_true rfl) rfl ?_
  intro p e s m below meth c hx hb hml hr hlk hts0 hown hin hsz hW ls hl
  have hts : ∀ w ∈ hx_all, w.before _ s = true := fun w hw => hts0 w (List.mem_cons_of_mem _ hw)
  have hown : s.vm.findClass "SmallCourt" = some m.cls := hown
  have hM : hx_S P_tb [] L h L h := hx_S.rf
  refine lv_aload_n hx hb dX9_seize_0 rfl (lv_at hl 0 rfl) ?_
  refine lv_iload_n hx hb dX9_seize_1 rfl (lv_at hl 1 rfl) ?_
  refine hx_goq (hx_runV (As := [.int a]) (rest := []) ⟨hx, hb, hml, hown, hts⟩ hW gx td_9 (T := TX9) (N := 20) rfl (c_X9_claimAt l dC dI dA L h s.heap.size x a gx f_x_11) (cwV 1 hts (hx_gV kw_810 kw_807 kw_809 kw_25 kw_94) rfl rfl rfl (by decide +kernel) ⟨Nat.le_of_ble_eq_true rfl, Nat.le_of_ble_eq_true rfl⟩) rfl hl.1 rfl (Nat.le_of_ble_eq_true rfl) dX9_seize_2 ⟨Nat.le_of_ble_eq_true rfl, Nat.le_of_ble_eq_true rfl⟩) hW (fun r_3 L_1 h_2 H locs p_4 hW => ?_)
  obtain ⟨rfl, eu⟩ := p_4
  cases eu
  refine lv_astore_nN (lv' := [(3, .null), (0, .ref x), (1, .int a), (2, .int b)]) hx hb dX9_seize_5 rfl hl (by decide) rfl (fun ls hl => ?_)
  refine lv_aload_nN hx hb dX9_seize_6 rfl (lv_at hl 0 rfl) ?_
  refine lv_ifnullN (tgt := 29) hx hb dX9_seize_7 (by decide) ?_
  refine lv_ldc (v := -1000000) hx hb hown (hts _ kw_684) dX9_seize_29 ?_
  exact hx_reti hx hb hr hlk hW ⟨rfl, hM⟩ dX9_seize_31


theorem dX9_gaol_0 : decode cX9_gaol 0 = .ok (.aload_n 0, 1) := by decide +kernel
theorem dX9_gaol_1 : decode cX9_gaol 1 = .ok (.iload_n 1, 1) := by decide +kernel
theorem dX9_gaol_2 : decode cX9_gaol 2 = .ok (.invokevirtual 200, 3) := by decide +kernel
theorem dX9_gaol_5 : decode cX9_gaol 5 = .ok (.astore_n 2, 1) := by decide +kernel
theorem dX9_gaol_6 : decode cX9_gaol 6 = .ok (.aload_n 2, 1) := by decide +kernel
theorem dX9_gaol_7 : decode cX9_gaol 7 = .ok (.ifnull 42, 3) := by decide +kernel
theorem dX9_gaol_49 : decode cX9_gaol 49 = .ok (.iconst (-1), 1) := by decide +kernel
theorem dX9_gaol_50 : decode cX9_gaol 50 = .ok (.ireturn, 1) := by decide +kernel
set_option maxHeartbeats 4000000 in
set_option maxRecDepth 100000 in
theorem c_X9_gaol (l : Launch) (dC : Nat → ClassId) (dI : Nat → Nat → Nat) (dA : Nat → ClassId) (L : List Nat) (h : hx_h) (sz : Nat) (x : Nat) (a : Int32) (gx : hx_g L h x 9) (f_x_11 : h.2.1 x 11 = 0) : Met l yX9_gaol (Cond.code yX9_gaol cX9_gaol 4 (some .int) :: hx_all) ({ frames := 1, cells := 0, slots := 0, locals := 21 }) (va_Pc [.ref x, .int a] (hx_B P_tb (P_ty dA) (dC, dI) vwCl L h sz)) (va_Qi (fun (r : Int32) (u : List Nat × hx_h) => (r = -1) ∧ hx_S P_tb [] L h u.1 u.2) (hx_E P_tb (P_ty dA) (dC, dI) vwCl (hx_A L sz)) (hx_A L sz)) 0 0 (hx_A L sz) := by
  refine hx_met (lv := [(0, .ref x), (1, .int a)]) (by decide +kernel) rfl (Nat.le_of_ble_eq_true rfl) rfl ?_
  intro p e s m below meth c hx hb hml hr hlk hts0 hown hin hsz hW ls hl
  have hts : ∀ w ∈ hx_all, w.before _ s = true := fun w hw => hts0 w (List.mem_cons_of_mem _ hw)
  have hown : s.vm.findClass "SmallCourt" = some m.cls := hown
  have hM : hx_S P_tb [] L h L h := hx_S.rf
  refine lv_aload_n hx hb dX9_gaol_0 rfl (lv_at hl 0 rfl) ?_
  refine lv_iload_n hx hb dX9_gaol_1 rfl (lv_at hl 1 rfl) ?_
  refine hx_goq (hx_runV (As := [.int a]) (rest := []) ⟨hx, hb, hml, hown, hts⟩ hW gx td_9 (T := TX9) (N := 20) rfl (c_X9_claimAt l dC dI dA L h s.heap.size x a gx f_x_11) (cwV 1 hts (hx_gV kw_810 kw_807 kw_809 kw_25 kw_94) rfl rfl rfl (by decide +kernel) ⟨Nat.le_of_ble_eq_true rfl, Nat.le_of_ble_eq_true rfl⟩) rfl hl.1 rfl (Nat.le_of_ble_eq_true rfl) dX9_gaol_2 ⟨Nat.le_of_ble_eq_true rfl, Nat.le_of_ble_eq_true rfl⟩) hW (fun r_3 L_1 h_2 H locs p_4 hW => ?_)
  obtain ⟨rfl, eu⟩ := p_4
  cases eu
  refine lv_astore_nN (lv' := [(2, .null), (0, .ref x), (1, .int a)]) hx hb dX9_gaol_5 rfl hl (by decide) rfl (fun ls hl => ?_)
  refine lv_aload_nN hx hb dX9_gaol_6 rfl (lv_at hl 0 rfl) ?_
  refine lv_ifnullN (tgt := 49) hx hb dX9_gaol_7 (by decide) ?_
  refine lv_iconst (v := -1) hx hb dX9_gaol_49 (by decide) ?_
  exact hx_reti hx hb hr hlk hW ⟨rfl, hM⟩ dX9_gaol_50


theorem dX9_claim_0 : decode cX9_claim 0 = .ok (.aload_n 0, 1) := by decide +kernel
theorem dX9_claim_1 : decode cX9_claim 1 = .ok (.iload_n 1, 1) := by decide +kernel
theorem dX9_claim_2 : decode cX9_claim 2 = .ok (.invokevirtual 200, 3) := by decide +kernel
theorem dX9_claim_5 : decode cX9_claim 5 = .ok (.astore_n 3, 1) := by decide +kernel
theorem dX9_claim_6 : decode cX9_claim 6 = .ok (.aload_n 3, 1) := by decide +kernel
theorem dX9_claim_7 : decode cX9_claim 7 = .ok (.ifnonnull 5, 3) := by decide +kernel
theorem dX9_claim_10 : decode cX9_claim 10 = .ok (.iconst (-1), 1) := by decide +kernel
theorem dX9_claim_11 : decode cX9_claim 11 = .ok (.ireturn, 1) := by decide +kernel
set_option maxHeartbeats 4000000 in
set_option maxRecDepth 100000 in
theorem c_X9_claim (l : Launch) (dC : Nat → ClassId) (dI : Nat → Nat → Nat) (dA : Nat → ClassId) (L : List Nat) (h : hx_h) (sz : Nat) (x : Nat) (a : Int32) (b : Int32) (gx : hx_g L h x 9) (f_x_11 : h.2.1 x 11 = 0) : Met l yX9_claim (Cond.code yX9_claim cX9_claim 4 (some .int) :: hx_all) ({ frames := 1, cells := 0, slots := 0, locals := 21 }) (va_Pc [.ref x, .int a, .int b] (hx_B P_tb (P_ty dA) (dC, dI) vwCl L h sz)) (va_Qi (fun (r : Int32) (u : List Nat × hx_h) => (r = -1) ∧ hx_S P_tb [] L h u.1 u.2) (hx_E P_tb (P_ty dA) (dC, dI) vwCl (hx_A L sz)) (hx_A L sz)) 0 0 (hx_A L sz) := by
  refine hx_met (lv := [(0, .ref x), (1, .int a), (2, .int b)]) (by decide +kernel) rfl (Nat.le_of_ble_eq_true rfl) rfl ?_
  intro p e s m below meth c hx hb hml hr hlk hts0 hown hin hsz hW ls hl
  have hts : ∀ w ∈ hx_all, w.before _ s = true := fun w hw => hts0 w (List.mem_cons_of_mem _ hw)
  have hown : s.vm.findClass "SmallCourt" = some m.cls := hown
  have hM : hx_S P_tb [] L h L h := hx_S.rf
  refine lv_aload_n hx hb dX9_claim_0 rfl (lv_at hl 0 rfl) ?_
  refine lv_iload_n hx hb dX9_claim_1 rfl (lv_at hl 1 rfl) ?_
  refine hx_goq (hx_runV (As := [.int a]) (rest := []) ⟨hx, hb, hml, hown, hts⟩ hW gx td_9 (T := TX9) (N := 20) rfl (c_X9_claimAt l dC dI dA L h s.heap.size x a gx f_x_11) (cwV 1 hts (hx_gV kw_810 kw_807 kw_809 kw_25 kw_94) rfl rfl rfl (by decide +kernel) ⟨Nat.le_of_ble_eq_true rfl, Nat.le_of_ble_eq_true rfl⟩) rfl hl.1 rfl (Nat.le_of_ble_eq_true rfl) dX9_claim_2 ⟨Nat.le_of_ble_eq_true rfl, Nat.le_of_ble_eq_true rfl⟩) hW (fun r_3 L_1 h_2 H locs p_4 hW => ?_)
  obtain ⟨rfl, eu⟩ := p_4
  cases eu
  refine lv_astore_nN (lv' := [(3, .null), (0, .ref x), (1, .int a), (2, .int b)]) hx hb dX9_claim_5 rfl hl (by decide) rfl (fun ls hl => ?_)
  refine lv_aload_nN hx hb dX9_claim_6 rfl (lv_at hl 0 rfl) ?_
  refine lv_ifnonnullN hx hb dX9_claim_7 ?_
  refine lv_iconst (v := -1) hx hb dX9_claim_10 (by decide) ?_
  exact hx_reti hx hb hr hlk hW ⟨rfl, hM⟩ dX9_claim_11


theorem dX9_state_0 : decode cX9_state 0 = .ok (.aload_n 0, 1) := by decide +kernel
theorem dX9_state_1 : decode cX9_state 1 = .ok (.iload_n 1, 1) := by decide +kernel
theorem dX9_state_2 : decode cX9_state 2 = .ok (.invokevirtual 200, 3) := by decide +kernel
theorem dX9_state_5 : decode cX9_state 5 = .ok (.astore 5, 2) := by decide +kernel
theorem dX9_state_7 : decode cX9_state 7 = .ok (.aload 5, 2) := by decide +kernel
theorem dX9_state_9 : decode cX9_state 9 = .ok (.ifnull 33, 3) := by decide +kernel
theorem dX9_state_42 : decode cX9_state 42 = .ok (.iconst (-1), 1) := by decide +kernel
theorem dX9_state_43 : decode cX9_state 43 = .ok (.ireturn, 1) := by decide +kernel
set_option maxHeartbeats 4000000 in
set_option maxRecDepth 100000 in
theorem c_X9_state (l : Launch) (dC : Nat → ClassId) (dI : Nat → Nat → Nat) (dA : Nat → ClassId) (L : List Nat) (h : hx_h) (sz : Nat) (x : Nat) (i1 : Int32) (i2 : Int32) (i3 : Int32) (i4 : Int32) (gx : hx_g L h x 9) (f_x_11 : h.2.1 x 11 = 0) : Met l yX9_state (Cond.code yX9_state cX9_state 6 (some .int) :: hx_all) ({ frames := 1, cells := 0, slots := 0, locals := 21 }) (va_Pc [.ref x, .int i1, .int i2, .int i3, .int i4] (hx_B P_tb (P_ty dA) (dC, dI) vwCl L h sz)) (va_Qi (fun (r : Int32) (u : List Nat × hx_h) => (r = -1) ∧ hx_S P_tb [] L h u.1 u.2) (hx_E P_tb (P_ty dA) (dC, dI) vwCl (hx_A L sz)) (hx_A L sz)) 0 0 (hx_A L sz) := by
  refine hx_met (lv := [(0, .ref x), (1, .int i1), (2, .int i2), (3, .int i3), (4, .int i4)]) (by decide +kernel) rfl (Nat.le_of_ble_eq_true rfl) rfl ?_
  intro p e s m below meth c hx hb hml hr hlk hts0 hown hin hsz hW ls hl
  have hts : ∀ w ∈ hx_all, w.before _ s = true := fun w hw => hts0 w (List.mem_cons_of_mem _ hw)
  have hown : s.vm.findClass "SmallCourt" = some m.cls := hown
  have hM : hx_S P_tb [] L h L h := hx_S.rf
  refine lv_aload_n hx hb dX9_state_0 rfl (lv_at hl 0 rfl) ?_
  refine lv_iload_n hx hb dX9_state_1 rfl (lv_at hl 1 rfl) ?_
  refine hx_goq (hx_runV (As := [.int i1]) (rest := []) ⟨hx, hb, hml, hown, hts⟩ hW gx td_9 (T := TX9) (N := 20) rfl (c_X9_claimAt l dC dI dA L h s.heap.size x i1 gx f_x_11) (cwV 1 hts (hx_gV kw_810 kw_807 kw_809 kw_25 kw_94) rfl rfl rfl (by decide +kernel) ⟨Nat.le_of_ble_eq_true rfl, Nat.le_of_ble_eq_true rfl⟩) rfl hl.1 rfl (Nat.le_of_ble_eq_true rfl) dX9_state_2 ⟨Nat.le_of_ble_eq_true rfl, Nat.le_of_ble_eq_true rfl⟩) hW (fun r_3 L_1 h_2 H locs p_4 hW => ?_)
  obtain ⟨rfl, eu⟩ := p_4
  cases eu
  refine lv_astoreN (lv' := [(5, .null), (0, .ref x), (1, .int i1), (2, .int i2), (3, .int i3), (4, .int i4)]) hx hb dX9_state_5 hl (by decide) rfl (fun ls hl => ?_)
  refine lv_aloadN hx hb dX9_state_7 (lv_at hl 0 rfl) ?_
  refine lv_ifnullN (tgt := 42) hx hb dX9_state_9 (by decide) ?_
  refine lv_iconst (v := -1) hx hb dX9_state_42 (by decide) ?_
  exact hx_reti hx hb hr hlk hW ⟨rfl, hM⟩ dX9_state_43


theorem dX9_plan_0 : decode cX9_plan 0 = .ok (.aload_n 0, 1) := by decide +kernel
theorem dX9_plan_1 : decode cX9_plan 1 = .ok (.iload_n 1, 1) := by decide +kernel
theorem dX9_plan_2 : decode cX9_plan 2 = .ok (.invokevirtual 144, 3) := by decide +kernel
theorem dX9_plan_5 : decode cX9_plan 5 = .ok (.astore_n 3, 1) := by decide +kernel
theorem dX9_plan_6 : decode cX9_plan 6 = .ok (.aload_n 3, 1) := by decide +kernel
theorem dX9_plan_7 : decode cX9_plan 7 = .ok (.ifnull 13, 3) := by decide +kernel
theorem dX9_plan_20 : decode cX9_plan 20 = .ok (.iconst (-1), 1) := by decide +kernel
theorem dX9_plan_21 : decode cX9_plan 21 = .ok (.ireturn, 1) := by decide +kernel
set_option maxHeartbeats 4000000 in
set_option maxRecDepth 100000 in
theorem c_X9_plan (l : Launch) (dC : Nat → ClassId) (dI : Nat → Nat → Nat) (dA : Nat → ClassId) (L : List Nat) (h : hx_h) (sz : Nat) (x : Nat) (a : Int32) (b : Int32) (gx : hx_g L h x 9) (f_x_8 : h.2.1 x 8 = 0) : Met l yX9_plan (Cond.code yX9_plan cX9_plan 6 (some .int) :: hx_all) ({ frames := 1, cells := 0, slots := 0, locals := 21 }) (va_Pc [.ref x, .int a, .int b] (hx_B P_tb (P_ty dA) (dC, dI) vwCl L h sz)) (va_Qi (fun (r : Int32) (u : List Nat × hx_h) => (r = -1) ∧ hx_S P_tb [] L h u.1 u.2) (hx_E P_tb (P_ty dA) (dC, dI) vwCl (hx_A L sz)) (hx_A L sz)) 0 0 (hx_A L sz) := by
  refine hx_met (lv := [(0, .ref x), (1, .int a), (2, .int b)]) (by decide +kernel) rfl (Nat.le_of_ble_eq_true rfl) rfl ?_
  intro p e s m below meth c hx hb hml hr hlk hts0 hown hin hsz hW ls hl
  have hts : ∀ w ∈ hx_all, w.before _ s = true := fun w hw => hts0 w (List.mem_cons_of_mem _ hw)
  have hown : s.vm.findClass "SmallCourt" = some m.cls := hown
  have hM : hx_S P_tb [] L h L h := hx_S.rf
  refine lv_aload_n hx hb dX9_plan_0 rfl (lv_at hl 0 rfl) ?_
  refine lv_iload_n hx hb dX9_plan_1 rfl (lv_at hl 1 rfl) ?_
  refine hx_goq (hx_runV (As := [.int a]) (rest := []) ⟨hx, hb, hml, hown, hts⟩ hW gx td_9 (T := TX9) (N := 20) rfl (c_X9_personAt l dC dI dA L h s.heap.size x a gx f_x_8) (cwV 1 hts (hx_gV kw_659 kw_656 kw_658 kw_20 kw_94) rfl rfl rfl (by decide +kernel) ⟨Nat.le_of_ble_eq_true rfl, Nat.le_of_ble_eq_true rfl⟩) rfl hl.1 rfl (Nat.le_of_ble_eq_true rfl) dX9_plan_2 ⟨Nat.le_of_ble_eq_true rfl, Nat.le_of_ble_eq_true rfl⟩) hW (fun r_3 L_1 h_2 H locs p_4 hW => ?_)
  obtain ⟨rfl, eu⟩ := p_4
  cases eu
  refine lv_astore_nN (lv' := [(3, .null), (0, .ref x), (1, .int a), (2, .int b)]) hx hb dX9_plan_5 rfl hl (by decide) rfl (fun ls hl => ?_)
  refine lv_aload_nN hx hb dX9_plan_6 rfl (lv_at hl 0 rfl) ?_
  refine lv_ifnullN (tgt := 20) hx hb dX9_plan_7 (by decide) ?_
  refine lv_iconst (v := -1) hx hb dX9_plan_20 (by decide) ?_
  exact hx_reti hx hb hr hlk hW ⟨rfl, hM⟩ dX9_plan_21


theorem dX9_list_0 : decode cX9_list 0 = .ok (.aload_n 0, 1) := by decide +kernel
theorem dX9_list_1 : decode cX9_list 1 = .ok (.iload_n 1, 1) := by decide +kernel
theorem dX9_list_2 : decode cX9_list 2 = .ok (.invokevirtual 200, 3) := by decide +kernel
theorem dX9_list_5 : decode cX9_list 5 = .ok (.astore_n 2, 1) := by decide +kernel
theorem dX9_list_6 : decode cX9_list 6 = .ok (.aload_n 2, 1) := by decide +kernel
theorem dX9_list_7 : decode cX9_list 7 = .ok (.ifnull 34, 3) := by decide +kernel
theorem dX9_list_41 : decode cX9_list 41 = .ok (.iconst (-1), 1) := by decide +kernel
theorem dX9_list_42 : decode cX9_list 42 = .ok (.ireturn, 1) := by decide +kernel
set_option maxHeartbeats 4000000 in
set_option maxRecDepth 100000 in
theorem c_X9_list (l : Launch) (dC : Nat → ClassId) (dI : Nat → Nat → Nat) (dA : Nat → ClassId) (L : List Nat) (h : hx_h) (sz : Nat) (x : Nat) (a : Int32) (gx : hx_g L h x 9) (f_x_11 : h.2.1 x 11 = 0) : Met l yX9_list (Cond.code yX9_list cX9_list 3 (some .int) :: hx_all) ({ frames := 1, cells := 0, slots := 0, locals := 21 }) (va_Pc [.ref x, .int a] (hx_B P_tb (P_ty dA) (dC, dI) vwCl L h sz)) (va_Qi (fun (r : Int32) (u : List Nat × hx_h) => (r = -1) ∧ hx_S P_tb [] L h u.1 u.2) (hx_E P_tb (P_ty dA) (dC, dI) vwCl (hx_A L sz)) (hx_A L sz)) 0 0 (hx_A L sz) := by
  refine hx_met (lv := [(0, .ref x), (1, .int a)]) (by decide +kernel) rfl (Nat.le_of_ble_eq_true rfl) rfl ?_
  intro p e s m below meth c hx hb hml hr hlk hts0 hown hin hsz hW ls hl
  have hts : ∀ w ∈ hx_all, w.before _ s = true := fun w hw => hts0 w (List.mem_cons_of_mem _ hw)
  have hown : s.vm.findClass "SmallCourt" = some m.cls := hown
  have hM : hx_S P_tb [] L h L h := hx_S.rf
  refine lv_aload_n hx hb dX9_list_0 rfl (lv_at hl 0 rfl) ?_
  refine lv_iload_n hx hb dX9_list_1 rfl (lv_at hl 1 rfl) ?_
  refine hx_goq (hx_runV (As := [.int a]) (rest := []) ⟨hx, hb, hml, hown, hts⟩ hW gx td_9 (T := TX9) (N := 20) rfl (c_X9_claimAt l dC dI dA L h s.heap.size x a gx f_x_11) (cwV 1 hts (hx_gV kw_810 kw_807 kw_809 kw_25 kw_94) rfl rfl rfl (by decide +kernel) ⟨Nat.le_of_ble_eq_true rfl, Nat.le_of_ble_eq_true rfl⟩) rfl hl.1 rfl (Nat.le_of_ble_eq_true rfl) dX9_list_2 ⟨Nat.le_of_ble_eq_true rfl, Nat.le_of_ble_eq_true rfl⟩) hW (fun r_3 L_1 h_2 H locs p_4 hW => ?_)
  obtain ⟨rfl, eu⟩ := p_4
  cases eu
  refine lv_astore_nN (lv' := [(2, .null), (0, .ref x), (1, .int a)]) hx hb dX9_list_5 rfl hl (by decide) rfl (fun ls hl => ?_)
  refine lv_aload_nN hx hb dX9_list_6 rfl (lv_at hl 0 rfl) ?_
  refine lv_ifnullN (tgt := 41) hx hb dX9_list_7 (by decide) ?_
  refine lv_iconst (v := -1) hx hb dX9_list_41 (by decide) ?_
  exact hx_reti hx hb hr hlk hW ⟨rfl, hM⟩ dX9_list_42


theorem dX9_habit_0 : decode cX9_habit 0 = .ok (.aload_n 0, 1) := by decide +kernel
theorem dX9_habit_1 : decode cX9_habit 1 = .ok (.iload_n 1, 1) := by decide +kernel
theorem dX9_habit_2 : decode cX9_habit 2 = .ok (.invokevirtual 144, 3) := by decide +kernel
theorem dX9_habit_5 : decode cX9_habit 5 = .ok (.astore_n 3, 1) := by decide +kernel
theorem dX9_habit_6 : decode cX9_habit 6 = .ok (.aload_n 3, 1) := by decide +kernel
theorem dX9_habit_7 : decode cX9_habit 7 = .ok (.ifnull 10, 3) := by decide +kernel
theorem dX9_habit_17 : decode cX9_habit 17 = .ok (.iconst (-1), 1) := by decide +kernel
theorem dX9_habit_18 : decode cX9_habit 18 = .ok (.ireturn, 1) := by decide +kernel
set_option maxHeartbeats 4000000 in
set_option maxRecDepth 100000 in
theorem c_X9_habit (l : Launch) (dC : Nat → ClassId) (dI : Nat → Nat → Nat) (dA : Nat → ClassId) (L : List Nat) (h : hx_h) (sz : Nat) (x : Nat) (a : Int32) (b : Int32) (gx : hx_g L h x 9) (f_x_8 : h.2.1 x 8 = 0) : Met l yX9_habit (Cond.code yX9_habit cX9_habit 7 (some .int) :: hx_all) ({ frames := 1, cells := 0, slots := 0, locals := 21 }) (va_Pc [.ref x, .int a, .int b] (hx_B P_tb (P_ty dA) (dC, dI) vwCl L h sz)) (va_Qi (fun (r : Int32) (u : List Nat × hx_h) => (r = -1) ∧ hx_S P_tb [] L h u.1 u.2) (hx_E P_tb (P_ty dA) (dC, dI) vwCl (hx_A L sz)) (hx_A L sz)) 0 0 (hx_A L sz) := by
  refine hx_met (lv := [(0, .ref x), (1, .int a), (2, .int b)]) (by decide +kernel) rfl (Nat.le_of_ble_eq_true rfl) rfl ?_
  intro p e s m below meth c hx hb hml hr hlk hts0 hown hin hsz hW ls hl
  have hts : ∀ w ∈ hx_all, w.before _ s = true := fun w hw => hts0 w (List.mem_cons_of_mem _ hw)
  have hown : s.vm.findClass "SmallCourt" = some m.cls := hown
  have hM : hx_S P_tb [] L h L h := hx_S.rf
  refine lv_aload_n hx hb dX9_habit_0 rfl (lv_at hl 0 rfl) ?_
  refine lv_iload_n hx hb dX9_habit_1 rfl (lv_at hl 1 rfl) ?_
  refine hx_goq (hx_runV (As := [.int a]) (rest := []) ⟨hx, hb, hml, hown, hts⟩ hW gx td_9 (T := TX9) (N := 20) rfl (c_X9_personAt l dC dI dA L h s.heap.size x a gx f_x_8) (cwV 1 hts (hx_gV kw_659 kw_656 kw_658 kw_20 kw_94) rfl rfl rfl (by decide +kernel) ⟨Nat.le_of_ble_eq_true rfl, Nat.le_of_ble_eq_true rfl⟩) rfl hl.1 rfl (Nat.le_of_ble_eq_true rfl) dX9_habit_2 ⟨Nat.le_of_ble_eq_true rfl, Nat.le_of_ble_eq_true rfl⟩) hW (fun r_3 L_1 h_2 H locs p_4 hW => ?_)
  obtain ⟨rfl, eu⟩ := p_4
  cases eu
  refine lv_astore_nN (lv' := [(3, .null), (0, .ref x), (1, .int a), (2, .int b)]) hx hb dX9_habit_5 rfl hl (by decide) rfl (fun ls hl => ?_)
  refine lv_aload_nN hx hb dX9_habit_6 rfl (lv_at hl 0 rfl) ?_
  refine lv_ifnullN (tgt := 17) hx hb dX9_habit_7 (by decide) ?_
  refine lv_iconst (v := -1) hx hb dX9_habit_17 (by decide) ?_
  exact hx_reti hx hb hr hlk hW ⟨rfl, hM⟩ dX9_habit_18


theorem dX9_end_0 : decode cX9_end 0 = .ok (.iload_n 1, 1) := by decide +kernel
theorem dX9_end_1 : decode cX9_end 1 = .ok (.ifCond .lt 11, 3) := by decide +kernel
theorem dX9_end_4 : decode cX9_end 4 = .ok (.iload_n 1, 1) := by decide +kernel
theorem dX9_end_5 : decode cX9_end 5 = .ok (.aload_n 0, 1) := by decide +kernel
theorem dX9_end_6 : decode cX9_end 6 = .ok (.getfield 98, 3) := by decide +kernel
theorem dX9_end_9 : decode cX9_end 9 = .ok (.if_icmp .le 5, 3) := by decide +kernel
theorem dX9_end_12 : decode cX9_end 12 = .ok (.iconst (-1), 1) := by decide +kernel
theorem dX9_end_13 : decode cX9_end 13 = .ok (.ireturn, 1) := by decide +kernel
theorem dX9_end_14 : decode cX9_end 14 = .ok (.aload_n 0, 1) := by decide +kernel
theorem dX9_end_15 : decode cX9_end 15 = .ok (.iload_n 1, 1) := by decide +kernel
theorem dX9_end_16 : decode cX9_end 16 = .ok (.putfield 98, 3) := by decide +kernel
theorem dX9_end_19 : decode cX9_end 19 = .ok (.iload_n 1, 1) := by decide +kernel
theorem dX9_end_20 : decode cX9_end 20 = .ok (.ireturn, 1) := by decide +kernel
set_option maxHeartbeats 4000000 in
set_option maxRecDepth 100000 in
theorem c_X9_end (l : Launch) (dC : Nat → ClassId) (dI : Nat → Nat → Nat) (dA : Nat → ClassId) (L : List Nat) (h : hx_h) (sz : Nat) (x : Nat) (n : Int32) (gx : hx_g L h x 9) (f_x_1 : h.2.1 x 1 = 0) : Met l yX9_end (Cond.code yX9_end cX9_end 2 (some .int) :: hx_all) ({ frames := 0, cells := 0, slots := 0, locals := 0 }) (va_Pc [.ref x, .int n] (hx_B P_tb (P_ty dA) (dC, dI) vwCl L h sz)) (va_Qi (fun (r : Int32) (u : List Nat × hx_h) => ((n.toInt = 0) ∧ r = 0 ∨ ¬ (n.toInt = 0) ∧ r = -1) ∧ hx_S P_tb [(9, 1)] L h u.1 u.2) (hx_E P_tb (P_ty dA) (dC, dI) vwCl (hx_A L sz)) (hx_A L sz)) 0 0 (hx_A L sz) := by
  refine hx_met (lv := [(0, .ref x), (1, .int n)]) (by decide +kernel) rfl (Nat.le_of_ble_eq_true rfl) rfl ?_
  intro p e s m below meth c hx hb hml hr hlk hts0 hown hin hsz hW ls hl
  have hts : ∀ w ∈ hx_all, w.before _ s = true := fun w hw => hts0 w (List.mem_cons_of_mem _ hw)
  have hown : s.vm.findClass "SmallCourt" = some m.cls := hown
  have hM : hx_S P_tb [(9, 1)] L h L h := hx_S.rf
  refine lv_iload_n hx hb dX9_end_0 rfl (lv_at hl 1 rfl) ?_
  refine hb_if_lt (zx := n.toInt) (tgt := 12) hx hb rfl dX9_end_1 (by decide) (fun c_1 => ?_) (fun c_1 => ?_)
  · skip
    refine lv_iconst (v := -1) hx hb dX9_end_12 (by decide) ?_
    exact hx_reti hx hb hr hlk hW ⟨Or.inr ⟨by first | omega | decide, rfl⟩, hM⟩ dX9_end_13
  · skip
    refine lv_iload_n hx hb dX9_end_4 rfl (lv_at hl 1 rfl) ?_
    refine lv_aload_n hx hb dX9_end_5 rfl (lv_at hl 0 rfl) ?_
    refine hk_geti hx hb hts hC_9 hown hW gx td_9 1 (by decide) rfl kw_365 ⟨rfl, rfl, rfl⟩ f_x_1 dX9_end_6 ?_
    refine hb_icmp_le (zx := n.toInt) (zy := 0) (tgt := 14) hx hb rfl (by decide) dX9_end_9 (by decide) (fun c_2 => ?_) (fun c_2 => ?_)
    · skip
      refine lv_aload_n hx hb dX9_end_14 rfl (lv_at hl 0 rfl) ?_
      refine lv_iload_n hx hb dX9_end_15 rfl (lv_at hl 1 rfl) ?_
      refine hk_puti hx hb hts hC_9 hown hW gx td_9 1 (by decide) rfl kw_365 ⟨rfl, rfl, rfl⟩ rfl (x := n) rfl rfl rfl dX9_end_16 (fun H locs h_3 eh_3 hW hs => ?_)
      have hM := hM.tr (hs.mono (by decide))
      have gx := gx.S hs
      have f_4 : h_3.2.1 x 1 = n := by rw [eh_3]; exact hx_pi_at _ _ _ _
      refine lv_iload_n hx hb dX9_end_19 rfl (lv_at hl 1 rfl) ?_
      exact hx_reti hx hb hr hlk hW ⟨Or.inl ⟨by omega, Int32.toInt_inj.mp (by rw [show (0 : Int32).toInt = 0 from by decide]; omega)⟩, hM⟩ dX9_end_20
    · skip
      refine lv_iconst (v := -1) hx hb dX9_end_12 (by decide) ?_
      exact hx_reti hx hb hr hlk hW ⟨Or.inr ⟨by first | omega | decide, rfl⟩, hM⟩ dX9_end_13


theorem dX9_line_0 : decode cX9_line 0 = .ok (.aload_n 0, 1) := by decide +kernel
theorem dX9_line_1 : decode cX9_line 1 = .ok (.getfield 42, 3) := by decide +kernel
theorem dX9_line_4 : decode cX9_line 4 = .ok (.getfield 158, 3) := by decide +kernel
theorem dX9_line_7 : decode cX9_line 7 = .ok (.sipush 400, 3) := by decide +kernel
theorem dX9_line_10 : decode cX9_line 10 = .ok (.if_icmp .ge 46, 3) := by decide +kernel
theorem dX9_line_13 : decode cX9_line 13 = .ok (.aload_n 0, 1) := by decide +kernel
theorem dX9_line_14 : decode cX9_line 14 = .ok (.iload_n 1, 1) := by decide +kernel
theorem dX9_line_15 : decode cX9_line 15 = .ok (.iload_n 2, 1) := by decide +kernel
theorem dX9_line_16 : decode cX9_line 16 = .ok (.invokevirtual 161, 3) := by decide +kernel
theorem dX9_line_19 : decode cX9_line 19 = .ok (.ifCond .eq 37, 3) := by decide +kernel
theorem dX9_line_56 : decode cX9_line 56 = .ok (.iconst (-1), 1) := by decide +kernel
theorem dX9_line_57 : decode cX9_line 57 = .ok (.ireturn, 1) := by decide +kernel
set_option maxHeartbeats 4000000 in
set_option maxRecDepth 100000 in
theorem c_X9_line (l : Launch) (dC : Nat → ClassId) (dI : Nat → Nat → Nat) (dA : Nat → ClassId) (L : List Nat) (h : hx_h) (sz : Nat) (x : Nat) (i1 : Int32) (i2 : Int32) (i3 : Int32) (i4 : Int32) (i5 : Int32) (gx : hx_g L h x 9) (qb : Nat) (gqb : hx_g L h qb 1) (f_x_9 : h.2.2 x 9 = some qb) (f_qb_0 : h.2.1 qb 0 = 0) (f_x_8 : h.2.1 x 8 = 0) (f_x_2 : h.2.1 x 2 = 0) : Met l yX9_line (Cond.code yX9_line cX9_line 6 (some .int) :: hx_all) ({ frames := 2, cells := 0, slots := 0, locals := 43 }) (va_Pc [.ref x, .int i1, .int i2, .int i3, .int i4, .int i5] (hx_B P_tb (P_ty dA) (dC, dI) vwCl L h sz)) (va_Qi (fun (r : Int32) (u : List Nat × hx_h) => (r = -1) ∧ hx_S P_tb [] L h u.1 u.2) (hx_E P_tb (P_ty dA) (dC, dI) vwCl (hx_A L sz)) (hx_A L sz)) 0 0 (hx_A L sz) := by
  refine hx_met (lv := [(0, .ref x), (1, .int i1), (2, .int i2), (3, .int i3), (4, .int i4), (5, .int i5)]) (by decide +kernel) rfl (Nat.le_of_ble_eq_true rfl) rfl ?_
  intro p e s m below meth c hx hb hml hr hlk hts0 hown hin hsz hW ls hl
  have hts : ∀ w ∈ hx_all, w.before _ s = true := fun w hw => hts0 w (List.mem_cons_of_mem _ hw)
  have hown : s.vm.findClass "SmallCourt" = some m.cls := hown
  have hM : hx_S P_tb [] L h L h := hx_S.rf
  refine lv_aload_n hx hb dX9_line_0 rfl (lv_at hl 0 rfl) ?_
  refine hk_getr hx hb hts hC_9 hown hW gx td_9 9 (by decide) rfl kw_373 ⟨rfl, rfl, rfl⟩ f_x_9 dX9_line_1 ?_
  refine hk_geti hx hb hts hC_1 hown hW gqb td_1 0 (by decide) rfl kw_197 ⟨rfl, rfl, rfl⟩ f_qb_0 dX9_line_4 ?_
  refine lv_sipush (v := 400) hx hb dX9_line_7 (by decide) ?_
  refine hb_icmp_ge (zx := 0) (zy := 400) (tgt := 56) hx hb (by decide) (by decide) dX9_line_10 (by decide) (fun c_1 => absurd c_1 (by decide)) (fun c_1 => ?_)
  refine lv_aload_n hx hb dX9_line_13 rfl (lv_at hl 0 rfl) ?_
  refine lv_iload_n hx hb dX9_line_14 rfl (lv_at hl 1 rfl) ?_
  refine lv_iload_n hx hb dX9_line_15 rfl (lv_at hl 2 rfl) ?_
  refine hx_goi (hx_runV (As := [.int i1, .int i2]) (rest := []) ⟨hx, hb, hml, hown, hts⟩ hW gx td_9 (T := TX9) (N := 20) rfl (c_X9_areTwo l dC dI dA L h s.heap.size x i1 i2 gx f_x_8) (cwV 2 hts (hx_gV kw_675 kw_672 kw_674 kw_21 kw_94) rfl rfl rfl (by decide +kernel) ⟨Nat.le_of_ble_eq_true rfl, Nat.le_of_ble_eq_true rfl⟩) rfl hl.1 rfl (Nat.le_of_ble_eq_true rfl) dX9_line_16 ⟨Nat.le_of_ble_eq_true rfl, Nat.le_of_ble_eq_true rfl⟩) hW (fun r_4 L_2 h_3 H locs p_5 hW => ?_)
  obtain ⟨p_5, eu⟩ := p_5
  cases eu
  rcases p_5 with ⟨kp_5, rfl⟩ | ⟨kp_5, rfl⟩
  · exfalso
    omega
  · skip
    refine hb_if_eq (zx := 0) (tgt := 56) hx hb (by decide) dX9_line_19 (by decide) (fun c_6 => ?_) (fun c_6 => absurd c_6 (by decide))
    refine lv_iconst (v := -1) hx hb dX9_line_56 (by decide) ?_
    exact hx_reti hx hb hr hlk hW ⟨rfl, hM⟩ dX9_line_57


theorem dX9_file_0 : decode cX9_file 0 = .ok (.aload_n 0, 1) := by decide +kernel
theorem dX9_file_1 : decode cX9_file 1 = .ok (.iload_n 1, 1) := by decide +kernel
theorem dX9_file_2 : decode cX9_file 2 = .ok (.invokevirtual 144, 3) := by decide +kernel
theorem dX9_file_5 : decode cX9_file 5 = .ok (.astore 7, 2) := by decide +kernel
theorem dX9_file_7 : decode cX9_file 7 = .ok (.aload_n 0, 1) := by decide +kernel
theorem dX9_file_8 : decode cX9_file 8 = .ok (.iload_n 2, 1) := by decide +kernel
theorem dX9_file_9 : decode cX9_file 9 = .ok (.invokevirtual 144, 3) := by decide +kernel
theorem dX9_file_12 : decode cX9_file 12 = .ok (.astore 8, 2) := by decide +kernel
theorem dX9_file_14 : decode cX9_file 14 = .ok (.aload_n 0, 1) := by decide +kernel
theorem dX9_file_15 : decode cX9_file 15 = .ok (.getfield 181, 3) := by decide +kernel
theorem dX9_file_18 : decode cX9_file 18 = .ok (.bipush 100, 2) := by decide +kernel
theorem dX9_file_20 : decode cX9_file 20 = .ok (.if_icmp .ge 61, 3) := by decide +kernel
theorem dX9_file_23 : decode cX9_file 23 = .ok (.aload 7, 2) := by decide +kernel
theorem dX9_file_25 : decode cX9_file 25 = .ok (.ifnull 56, 3) := by decide +kernel
theorem dX9_file_81 : decode cX9_file 81 = .ok (.iconst (-1), 1) := by decide +kernel
theorem dX9_file_82 : decode cX9_file 82 = .ok (.ireturn, 1) := by decide +kernel
set_option maxHeartbeats 4000000 in
set_option maxRecDepth 100000 in
theorem c_X9_file (l : Launch) (dC : Nat → ClassId) (dI : Nat → Nat → Nat) (dA : Nat → ClassId) (L : List Nat) (h : hx_h) (sz : Nat) (x : Nat) (i1 : Int32) (i2 : Int32) (i3 : Int32) (i4 : Int32) (i5 : Int32) (i6 : Int32) (gx : hx_g L h x 9) (f_x_8 : h.2.1 x 8 = 0) (f_x_11 : h.2.1 x 11 = 0) (f_x_2 : h.2.1 x 2 = 0) : Met l yX9_file (Cond.code yX9_file cX9_file 10 (some .int) :: hx_all) ({ frames := 1, cells := 0, slots := 0, locals := 21 }) (va_Pc [.ref x, .int i1, .int i2, .int i3, .int i4, .int i5, .int i6] (hx_B P_tb (P_ty dA) (dC, dI) vwCl L h sz)) (va_Qi (fun (r : Int32) (u : List Nat × hx_h) => (r = -1) ∧ hx_S P_tb [] L h u.1 u.2) (hx_E P_tb (P_ty dA) (dC, dI) vwCl (hx_A L sz)) (hx_A L sz)) 0 0 (hx_A L sz) := by
  refine hx_met (lv := [(0, .ref x), (1, .int i1), (2, .int i2), (3, .int i3), (4, .int i4), (5, .int i5), (6, .int i6)]) (by decide +kernel) rfl (Nat.le_of_ble_eq_true rfl) rfl ?_
  intro p e s m below meth c hx hb hml hr hlk hts0 hown hin hsz hW ls hl
  have hts : ∀ w ∈ hx_all, w.before _ s = true := fun w hw => hts0 w (List.mem_cons_of_mem _ hw)
  have hown : s.vm.findClass "SmallCourt" = some m.cls := hown
  have hM : hx_S P_tb [] L h L h := hx_S.rf
  refine lv_aload_n hx hb dX9_file_0 rfl (lv_at hl 0 rfl) ?_
  refine lv_iload_n hx hb dX9_file_1 rfl (lv_at hl 1 rfl) ?_
  refine hx_goq (hx_runV (As := [.int i1]) (rest := []) ⟨hx, hb, hml, hown, hts⟩ hW gx td_9 (T := TX9) (N := 20) rfl (c_X9_personAt l dC dI dA L h s.heap.size x i1 gx f_x_8) (cwV 1 hts (hx_gV kw_659 kw_656 kw_658 kw_20 kw_94) rfl rfl rfl (by decide +kernel) ⟨Nat.le_of_ble_eq_true rfl, Nat.le_of_ble_eq_true rfl⟩) rfl hl.1 rfl (Nat.le_of_ble_eq_true rfl) dX9_file_2 ⟨Nat.le_of_ble_eq_true rfl, Nat.le_of_ble_eq_true rfl⟩) hW (fun r_3 L_1 h_2 H locs p_4 hW => ?_)
  obtain ⟨rfl, eu⟩ := p_4
  cases eu
  refine lv_astoreN (lv' := [(7, .null), (0, .ref x), (1, .int i1), (2, .int i2), (3, .int i3), (4, .int i4), (5, .int i5), (6, .int i6)]) hx hb dX9_file_5 hl (by decide) rfl (fun ls hl => ?_)
  refine lv_aload_n hx hb dX9_file_7 rfl (lv_at hl 1 rfl) ?_
  refine lv_iload_n hx hb dX9_file_8 rfl (lv_at hl 3 rfl) ?_
  refine hx_goq (hx_runV (As := [.int i2]) (rest := []) ⟨hx, hb, hml, hown, hts⟩ hW gx td_9 (T := TX9) (N := 20) rfl (c_X9_personAt l dC dI dA L h H.size x i2 gx f_x_8) (cwV 1 hts (hx_gV kw_659 kw_656 kw_658 kw_20 kw_94) rfl rfl rfl (by decide +kernel) ⟨Nat.le_of_ble_eq_true rfl, Nat.le_of_ble_eq_true rfl⟩) rfl hl.1 rfl (Nat.le_of_ble_eq_true rfl) dX9_file_9 ⟨Nat.le_of_ble_eq_true rfl, Nat.le_of_ble_eq_true rfl⟩) hW (fun r_7 L_5 h_6 H locs p_8 hW => ?_)
  obtain ⟨rfl, eu⟩ := p_8
  cases eu
  refine lv_astoreN (lv' := [(8, .null), (7, .null), (0, .ref x), (1, .int i1), (2, .int i2), (3, .int i3), (4, .int i4), (5, .int i5), (6, .int i6)]) hx hb dX9_file_12 hl (by decide) rfl (fun ls hl => ?_)
  refine lv_aload_n hx hb dX9_file_14 rfl (lv_at hl 2 rfl) ?_
  refine hk_geti hx hb hts hC_9 hown hW gx td_9 11 (by decide) rfl kw_375 ⟨rfl, rfl, rfl⟩ f_x_11 dX9_file_15 ?_
  refine lv_bipush (v := 100) hx hb dX9_file_18 (by decide) ?_
  refine hb_icmp_ge (zx := 0) (zy := 100) (tgt := 81) hx hb (by decide) (by decide) dX9_file_20 (by decide) (fun c_9 => absurd c_9 (by decide)) (fun c_9 => ?_)
  refine lv_aloadN hx hb dX9_file_23 (lv_at hl 1 rfl) ?_
  refine lv_ifnullN (tgt := 81) hx hb dX9_file_25 (by decide) ?_
  refine lv_iconst (v := -1) hx hb dX9_file_81 (by decide) ?_
  exact hx_reti hx hb hr hlk hW ⟨rfl, hM⟩ dX9_file_82


theorem dX9_pay_0 : decode cX9_pay 0 = .ok (.aload_n 0, 1) := by decide +kernel
theorem dX9_pay_1 : decode cX9_pay 1 = .ok (.iload_n 1, 1) := by decide +kernel
theorem dX9_pay_2 : decode cX9_pay 2 = .ok (.invokevirtual 200, 3) := by decide +kernel
theorem dX9_pay_5 : decode cX9_pay 5 = .ok (.astore 4, 2) := by decide +kernel
theorem dX9_pay_7 : decode cX9_pay 7 = .ok (.aload_n 0, 1) := by decide +kernel
theorem dX9_pay_8 : decode cX9_pay 8 = .ok (.getfield 58, 3) := by decide +kernel
theorem dX9_pay_11 : decode cX9_pay 11 = .ok (.getfield 278, 3) := by decide +kernel
theorem dX9_pay_14 : decode cX9_pay 14 = .ok (.sipush 600, 3) := by decide +kernel
theorem dX9_pay_17 : decode cX9_pay 17 = .ok (.if_icmp .ge 53, 3) := by decide +kernel
theorem dX9_pay_20 : decode cX9_pay 20 = .ok (.aload 4, 2) := by decide +kernel
theorem dX9_pay_22 : decode cX9_pay 22 = .ok (.ifnull 48, 3) := by decide +kernel
theorem dX9_pay_70 : decode cX9_pay 70 = .ok (.iconst (-1), 1) := by decide +kernel
theorem dX9_pay_71 : decode cX9_pay 71 = .ok (.ireturn, 1) := by decide +kernel
set_option maxHeartbeats 4000000 in
set_option maxRecDepth 100000 in
theorem c_X9_pay (l : Launch) (dC : Nat → ClassId) (dI : Nat → Nat → Nat) (dA : Nat → ClassId) (L : List Nat) (h : hx_h) (sz : Nat) (x : Nat) (i1 : Int32) (i2 : Int32) (i3 : Int32) (gx : hx_g L h x 9) (qp : Nat) (gqp : hx_g L h qp 3) (f_x_14 : h.2.2 x 14 = some qp) (f_qp_0 : h.2.1 qp 0 = 0) (f_x_11 : h.2.1 x 11 = 0) : Met l yX9_pay (Cond.code yX9_pay cX9_pay 5 (some .int) :: hx_all) ({ frames := 1, cells := 0, slots := 0, locals := 21 }) (va_Pc [.ref x, .int i1, .int i2, .int i3] (hx_B P_tb (P_ty dA) (dC, dI) vwCl L h sz)) (va_Qi (fun (r : Int32) (u : List Nat × hx_h) => (r = -1) ∧ hx_S P_tb [] L h u.1 u.2) (hx_E P_tb (P_ty dA) (dC, dI) vwCl (hx_A L sz)) (hx_A L sz)) 0 0 (hx_A L sz) := by
  refine hx_met (lv := [(0, .ref x), (1, .int i1), (2, .int i2), (3, .int i3)]) (by decide +kernel) rfl (Nat.le_of_ble_eq_true rfl) rfl ?_
  intro p e s m below meth c hx hb hml hr hlk hts0 hown hin hsz hW ls hl
  have hts : ∀ w ∈ hx_all, w.before _ s = true := fun w hw => hts0 w (List.mem_cons_of_mem _ hw)
  have hown : s.vm.findClass "SmallCourt" = some m.cls := hown
  have hM : hx_S P_tb [] L h L h := hx_S.rf
  refine lv_aload_n hx hb dX9_pay_0 rfl (lv_at hl 0 rfl) ?_
  refine lv_iload_n hx hb dX9_pay_1 rfl (lv_at hl 1 rfl) ?_
  refine hx_goq (hx_runV (As := [.int i1]) (rest := []) ⟨hx, hb, hml, hown, hts⟩ hW gx td_9 (T := TX9) (N := 20) rfl (c_X9_claimAt l dC dI dA L h s.heap.size x i1 gx f_x_11) (cwV 1 hts (hx_gV kw_810 kw_807 kw_809 kw_25 kw_94) rfl rfl rfl (by decide +kernel) ⟨Nat.le_of_ble_eq_true rfl, Nat.le_of_ble_eq_true rfl⟩) rfl hl.1 rfl (Nat.le_of_ble_eq_true rfl) dX9_pay_2 ⟨Nat.le_of_ble_eq_true rfl, Nat.le_of_ble_eq_true rfl⟩) hW (fun r_3 L_1 h_2 H locs p_4 hW => ?_)
  obtain ⟨rfl, eu⟩ := p_4
  cases eu
  refine lv_astoreN (lv' := [(4, .null), (0, .ref x), (1, .int i1), (2, .int i2), (3, .int i3)]) hx hb dX9_pay_5 hl (by decide) rfl (fun ls hl => ?_)
  refine lv_aload_n hx hb dX9_pay_7 rfl (lv_at hl 1 rfl) ?_
  refine hk_getr hx hb hts hC_9 hown hW gx td_9 14 (by decide) rfl kw_378 ⟨rfl, rfl, rfl⟩ f_x_14 dX9_pay_8 ?_
  refine hk_geti hx hb hts hC_3 hown hW gqp td_3 0 (by decide) rfl kw_232 ⟨rfl, rfl, rfl⟩ f_qp_0 dX9_pay_11 ?_
  refine lv_sipush (v := 600) hx hb dX9_pay_14 (by decide) ?_
  refine hb_icmp_ge (zx := 0) (zy := 600) (tgt := 70) hx hb (by decide) (by decide) dX9_pay_17 (by decide) (fun c_5 => absurd c_5 (by decide)) (fun c_5 => ?_)
  refine lv_aloadN hx hb dX9_pay_20 (lv_at hl 0 rfl) ?_
  refine lv_ifnullN (tgt := 70) hx hb dX9_pay_22 (by decide) ?_
  refine lv_iconst (v := -1) hx hb dX9_pay_70 (by decide) ?_
  exact hx_reti hx hb hr hlk hW ⟨rfl, hM⟩ dX9_pay_71


theorem dX9_strike_0 : decode cX9_strike 0 = .ok (.iload_n 1, 1) := by decide +kernel
theorem dX9_strike_1 : decode cX9_strike 1 = .ok (.ifCond .lt 27, 3) := by decide +kernel
theorem dX9_strike_4 : decode cX9_strike 4 = .ok (.iload_n 1, 1) := by decide +kernel
theorem dX9_strike_5 : decode cX9_strike 5 = .ok (.aload_n 0, 1) := by decide +kernel
theorem dX9_strike_6 : decode cX9_strike 6 = .ok (.getfield 58, 3) := by decide +kernel
theorem dX9_strike_9 : decode cX9_strike 9 = .ok (.getfield 278, 3) := by decide +kernel
theorem dX9_strike_12 : decode cX9_strike 12 = .ok (.if_icmp .ge 16, 3) := by decide +kernel
theorem dX9_strike_28 : decode cX9_strike 28 = .ok (.iconst 0, 1) := by decide +kernel
theorem dX9_strike_29 : decode cX9_strike 29 = .ok (.ireturn, 1) := by decide +kernel
set_option maxHeartbeats 4000000 in
set_option maxRecDepth 100000 in
theorem c_X9_strike (l : Launch) (dC : Nat → ClassId) (dI : Nat → Nat → Nat) (dA : Nat → ClassId) (L : List Nat) (h : hx_h) (sz : Nat) (x : Nat) (a : Int32) (gx : hx_g L h x 9) (qp : Nat) (gqp : hx_g L h qp 3) (f_x_14 : h.2.2 x 14 = some qp) (f_qp_0 : h.2.1 qp 0 = 0) : Met l yX9_strike (Cond.code yX9_strike cX9_strike 2 (some .boolean) :: hx_all) ({ frames := 0, cells := 0, slots := 0, locals := 0 }) (va_Pc [.ref x, .int a] (hx_B P_tb (P_ty dA) (dC, dI) vwCl L h sz)) (va_Qi (fun (r : Int32) (u : List Nat × hx_h) => (r = 0) ∧ hx_S P_tb [] L h u.1 u.2) (hx_E P_tb (P_ty dA) (dC, dI) vwCl (hx_A L sz)) (hx_A L sz)) 0 0 (hx_A L sz) := by
  refine hx_met (lv := [(0, .ref x), (1, .int a)]) (by decide +kernel) rfl (Nat.le_of_ble_eq_true rfl) rfl ?_
  intro p e s m below meth c hx hb hml hr hlk hts0 hown hin hsz hW ls hl
  have hts : ∀ w ∈ hx_all, w.before _ s = true := fun w hw => hts0 w (List.mem_cons_of_mem _ hw)
  have hown : s.vm.findClass "SmallCourt" = some m.cls := hown
  have hM : hx_S P_tb [] L h L h := hx_S.rf
  refine lv_iload_n hx hb dX9_strike_0 rfl (lv_at hl 1 rfl) ?_
  refine hb_if_lt (zx := a.toInt) (tgt := 28) hx hb rfl dX9_strike_1 (by decide) (fun c_1 => ?_) (fun c_1 => ?_)
  · skip
    refine lv_iconst (v := 0) hx hb dX9_strike_28 (by decide) ?_
    exact hx_retz hx hb hr rfl hlk hW ⟨rfl, hM⟩ dX9_strike_29
  · skip
    refine lv_iload_n hx hb dX9_strike_4 rfl (lv_at hl 1 rfl) ?_
    refine lv_aload_n hx hb dX9_strike_5 rfl (lv_at hl 0 rfl) ?_
    refine hk_getr hx hb hts hC_9 hown hW gx td_9 14 (by decide) rfl kw_378 ⟨rfl, rfl, rfl⟩ f_x_14 dX9_strike_6 ?_
    refine hk_geti hx hb hts hC_3 hown hW gqp td_3 0 (by decide) rfl kw_232 ⟨rfl, rfl, rfl⟩ f_qp_0 dX9_strike_9 ?_
    refine hb_icmp_ge (zx := a.toInt) (zy := 0) (tgt := 28) hx hb rfl (by decide) dX9_strike_12 (by decide) (fun c_2 => ?_) (fun c_2 => by exfalso; omega)
    refine lv_iconst (v := 0) hx hb dX9_strike_28 (by decide) ?_
    exact hx_retz hx hb hr rfl hlk hW ⟨rfl, hM⟩ dX9_strike_29


theorem dX9_planned_0 : decode cX9_planned 0 = .ok (.iload_n 1, 1) := by decide +kernel
theorem dX9_planned_1 : decode cX9_planned 1 = .ok (.ifCond .lt 14, 3) := by decide +kernel
theorem dX9_planned_4 : decode cX9_planned 4 = .ok (.iload_n 1, 1) := by decide +kernel
theorem dX9_planned_5 : decode cX9_planned 5 = .ok (.aload_n 0, 1) := by decide +kernel
theorem dX9_planned_6 : decode cX9_planned 6 = .ok (.getfield 72, 3) := by decide +kernel
theorem dX9_planned_9 : decode cX9_planned 9 = .ok (.getfield 337, 3) := by decide +kernel
theorem dX9_planned_12 : decode cX9_planned 12 = .ok (.if_icmp .lt 5, 3) := by decide +kernel
theorem dX9_planned_15 : decode cX9_planned 15 = .ok (.iconst (-1), 1) := by decide +kernel
theorem dX9_planned_16 : decode cX9_planned 16 = .ok (.ireturn, 1) := by decide +kernel
set_option maxHeartbeats 4000000 in
set_option maxRecDepth 100000 in
theorem c_X9_planned (l : Launch) (dC : Nat → ClassId) (dI : Nat → Nat → Nat) (dA : Nat → ClassId) (L : List Nat) (h : hx_h) (sz : Nat) (x : Nat) (a : Int32) (b : Int32) (gx : hx_g L h x 9) (qn : Nat) (gqn : hx_g L h qn 5) (f_x_17 : h.2.2 x 17 = some qn) (f_qn_1 : h.2.1 qn 1 = 0) : Met l yX9_planned (Cond.code yX9_planned cX9_planned 3 (some .int) :: hx_all) ({ frames := 0, cells := 0, slots := 0, locals := 0 }) (va_Pc [.ref x, .int a, .int b] (hx_B P_tb (P_ty dA) (dC, dI) vwCl L h sz)) (va_Qi (fun (r : Int32) (u : List Nat × hx_h) => (r = -1) ∧ hx_S P_tb [] L h u.1 u.2) (hx_E P_tb (P_ty dA) (dC, dI) vwCl (hx_A L sz)) (hx_A L sz)) 0 0 (hx_A L sz) := by
  refine hx_met (lv := [(0, .ref x), (1, .int a), (2, .int b)]) (by decide +kernel) rfl (Nat.le_of_ble_eq_true rfl) rfl ?_
  intro p e s m below meth c hx hb hml hr hlk hts0 hown hin hsz hW ls hl
  have hts : ∀ w ∈ hx_all, w.before _ s = true := fun w hw => hts0 w (List.mem_cons_of_mem _ hw)
  have hown : s.vm.findClass "SmallCourt" = some m.cls := hown
  have hM : hx_S P_tb [] L h L h := hx_S.rf
  refine lv_iload_n hx hb dX9_planned_0 rfl (lv_at hl 1 rfl) ?_
  refine hb_if_lt (zx := a.toInt) (tgt := 15) hx hb rfl dX9_planned_1 (by decide) (fun c_1 => ?_) (fun c_1 => ?_)
  · skip
    refine lv_iconst (v := -1) hx hb dX9_planned_15 (by decide) ?_
    exact hx_reti hx hb hr hlk hW ⟨rfl, hM⟩ dX9_planned_16
  · skip
    refine lv_iload_n hx hb dX9_planned_4 rfl (lv_at hl 1 rfl) ?_
    refine lv_aload_n hx hb dX9_planned_5 rfl (lv_at hl 0 rfl) ?_
    refine hk_getr hx hb hts hC_9 hown hW gx td_9 17 (by decide) rfl kw_381 ⟨rfl, rfl, rfl⟩ f_x_17 dX9_planned_6 ?_
    refine hk_geti hx hb hts hC_5 hown hW gqn td_5 1 (by decide) rfl kw_261 ⟨rfl, rfl, rfl⟩ f_qn_1 dX9_planned_9 ?_
    refine hb_icmp_lt (zx := a.toInt) (zy := 0) (tgt := 17) hx hb rfl (by decide) dX9_planned_12 (by decide) (fun c_2 => by exfalso; omega) (fun c_2 => ?_)
    refine lv_iconst (v := -1) hx hb dX9_planned_15 (by decide) ?_
    exact hx_reti hx hb hr hlk hW ⟨rfl, hM⟩ dX9_planned_16


theorem dX9_netted_0 : decode cX9_netted 0 = .ok (.iload_n 1, 1) := by decide +kernel
theorem dX9_netted_1 : decode cX9_netted 1 = .ok (.iconst (-1), 1) := by decide +kernel
theorem dX9_netted_2 : decode cX9_netted 2 = .ok (.if_icmp .ne 11, 3) := by decide +kernel
theorem dX9_netted_5 : decode cX9_netted 5 = .ok (.aload_n 0, 1) := by decide +kernel
theorem dX9_netted_6 : decode cX9_netted 6 = .ok (.getfield 79, 3) := by decide +kernel
theorem dX9_netted_9 : decode cX9_netted 9 = .ok (.getfield 374, 3) := by decide +kernel
theorem dX9_netted_12 : decode cX9_netted 12 = .ok (.ireturn, 1) := by decide +kernel
theorem dX9_netted_13 : decode cX9_netted 13 = .ok (.iload_n 1, 1) := by decide +kernel
theorem dX9_netted_14 : decode cX9_netted 14 = .ok (.ifCond .lt 14, 3) := by decide +kernel
theorem dX9_netted_17 : decode cX9_netted 17 = .ok (.iload_n 1, 1) := by decide +kernel
theorem dX9_netted_18 : decode cX9_netted 18 = .ok (.aload_n 0, 1) := by decide +kernel
theorem dX9_netted_19 : decode cX9_netted 19 = .ok (.getfield 79, 3) := by decide +kernel
theorem dX9_netted_22 : decode cX9_netted 22 = .ok (.getfield 374, 3) := by decide +kernel
theorem dX9_netted_25 : decode cX9_netted 25 = .ok (.if_icmp .lt 7, 3) := by decide +kernel
theorem dX9_netted_28 : decode cX9_netted 28 = .ok (.iconst (-1), 1) := by decide +kernel
theorem dX9_netted_29 : decode cX9_netted 29 = .ok (.goto 12, 3) := by decide +kernel
theorem dX9_netted_41 : decode cX9_netted 41 = .ok (.ireturn, 1) := by decide +kernel
set_option maxHeartbeats 4000000 in
set_option maxRecDepth 100000 in
theorem c_X9_netted (l : Launch) (dC : Nat → ClassId) (dI : Nat → Nat → Nat) (dA : Nat → ClassId) (L : List Nat) (h : hx_h) (sz : Nat) (x : Nat) (a : Int32) (gx : hx_g L h x 9) (qr : Nat) (gqr : hx_g L h qr 7) (f_x_18 : h.2.2 x 18 = some qr) (f_qr_0 : h.2.1 qr 0 = -1) : Met l yX9_netted (Cond.code yX9_netted cX9_netted 2 (some .int) :: hx_all) ({ frames := 0, cells := 0, slots := 0, locals := 0 }) (va_Pc [.ref x, .int a] (hx_B P_tb (P_ty dA) (dC, dI) vwCl L h sz)) (va_Qi (fun (r : Int32) (u : List Nat × hx_h) => (r = -1) ∧ hx_S P_tb [] L h u.1 u.2) (hx_E P_tb (P_ty dA) (dC, dI) vwCl (hx_A L sz)) (hx_A L sz)) 0 0 (hx_A L sz) := by
  refine hx_met (lv := [(0, .ref x), (1, .int a)]) (by decide +kernel) rfl (Nat.le_of_ble_eq_true rfl) rfl ?_
  intro p e s m below meth c hx hb hml hr hlk hts0 hown hin hsz hW ls hl
  have hts : ∀ w ∈ hx_all, w.before _ s = true := fun w hw => hts0 w (List.mem_cons_of_mem _ hw)
  have hown : s.vm.findClass "SmallCourt" = some m.cls := hown
  have hM : hx_S P_tb [] L h L h := hx_S.rf
  refine lv_iload_n hx hb dX9_netted_0 rfl (lv_at hl 1 rfl) ?_
  refine lv_iconst (v := -1) hx hb dX9_netted_1 (by decide) ?_
  refine hb_icmp_ne (zx := a.toInt) (zy := (-1)) (tgt := 13) hx hb rfl (by decide) dX9_netted_2 (by decide) (fun c_1 => ?_) (fun c_1 => ?_)
  · skip
    refine lv_iload_n hx hb dX9_netted_13 rfl (lv_at hl 1 rfl) ?_
    refine hb_if_lt (zx := a.toInt) (tgt := 28) hx hb rfl dX9_netted_14 (by decide) (fun c_2 => ?_) (fun c_2 => ?_)
    · skip
      refine lv_iconst (v := -1) hx hb dX9_netted_28 (by decide) ?_
      refine lv_goto (tgt := 41) hx hb dX9_netted_29 (by decide) ?_
      exact hx_reti hx hb hr hlk hW ⟨rfl, hM⟩ dX9_netted_41
    · skip
      refine lv_iload_n hx hb dX9_netted_17 rfl (lv_at hl 1 rfl) ?_
      refine lv_aload_n hx hb dX9_netted_18 rfl (lv_at hl 0 rfl) ?_
      refine hk_getr hx hb hts hC_9 hown hW gx td_9 18 (by decide) rfl kw_382 ⟨rfl, rfl, rfl⟩ f_x_18 dX9_netted_19 ?_
      refine hk_geti hx hb hts hC_7 hown hW gqr td_7 0 (by decide) rfl kw_310 ⟨rfl, rfl, rfl⟩ f_qr_0 dX9_netted_22 ?_
      refine hb_icmp_lt (zx := a.toInt) (zy := (-1)) (tgt := 32) hx hb rfl (by decide) dX9_netted_25 (by decide) (fun c_3 => by exfalso; omega) (fun c_3 => ?_)
      refine lv_iconst (v := -1) hx hb dX9_netted_28 (by decide) ?_
      refine lv_goto (tgt := 41) hx hb dX9_netted_29 (by decide) ?_
      exact hx_reti hx hb hr hlk hW ⟨rfl, hM⟩ dX9_netted_41
  · skip
    refine lv_aload_n hx hb dX9_netted_5 rfl (lv_at hl 0 rfl) ?_
    refine hk_getr hx hb hts hC_9 hown hW gx td_9 18 (by decide) rfl kw_382 ⟨rfl, rfl, rfl⟩ f_x_18 dX9_netted_6 ?_
    refine hk_geti hx hb hts hC_7 hown hW gqr td_7 0 (by decide) rfl kw_310 ⟨rfl, rfl, rfl⟩ f_qr_0 dX9_netted_9 ?_
    exact hx_reti hx hb hr hlk hW ⟨rfl, hM⟩ dX9_netted_12


theorem dX9_walked_0 : decode cX9_walked 0 = .ok (.iload_n 1, 1) := by decide +kernel
theorem dX9_walked_1 : decode cX9_walked 1 = .ok (.ifCond .lt 14, 3) := by decide +kernel
theorem dX9_walked_4 : decode cX9_walked 4 = .ok (.iload_n 1, 1) := by decide +kernel
theorem dX9_walked_5 : decode cX9_walked 5 = .ok (.aload_n 0, 1) := by decide +kernel
theorem dX9_walked_6 : decode cX9_walked 6 = .ok (.getfield 86, 3) := by decide +kernel
theorem dX9_walked_9 : decode cX9_walked 9 = .ok (.getfield 391, 3) := by decide +kernel
theorem dX9_walked_12 : decode cX9_walked 12 = .ok (.if_icmp .lt 7, 3) := by decide +kernel
theorem dX9_walked_15 : decode cX9_walked 15 = .ok (.iconst (-1), 1) := by decide +kernel
theorem dX9_walked_16 : decode cX9_walked 16 = .ok (.goto 12, 3) := by decide +kernel
theorem dX9_walked_28 : decode cX9_walked 28 = .ok (.ireturn, 1) := by decide +kernel
set_option maxHeartbeats 4000000 in
set_option maxRecDepth 100000 in
theorem c_X9_walked (l : Launch) (dC : Nat → ClassId) (dI : Nat → Nat → Nat) (dA : Nat → ClassId) (L : List Nat) (h : hx_h) (sz : Nat) (x : Nat) (a : Int32) (gx : hx_g L h x 9) (qw : Nat) (gqw : hx_g L h qw 8) (f_x_19 : h.2.2 x 19 = some qw) (f_qw_0 : h.2.1 qw 0 = 0) (f_qw_1 : h.2.1 qw 1 = 0) : Met l yX9_walked (Cond.code yX9_walked cX9_walked 2 (some .int) :: hx_all) ({ frames := 0, cells := 0, slots := 0, locals := 0 }) (va_Pc [.ref x, .int a] (hx_B P_tb (P_ty dA) (dC, dI) vwCl L h sz)) (va_Qi (fun (r : Int32) (u : List Nat × hx_h) => (r = -1) ∧ hx_S P_tb [] L h u.1 u.2) (hx_E P_tb (P_ty dA) (dC, dI) vwCl (hx_A L sz)) (hx_A L sz)) 0 0 (hx_A L sz) := by
  refine hx_met (lv := [(0, .ref x), (1, .int a)]) (by decide +kernel) rfl (Nat.le_of_ble_eq_true rfl) rfl ?_
  intro p e s m below meth c hx hb hml hr hlk hts0 hown hin hsz hW ls hl
  have hts : ∀ w ∈ hx_all, w.before _ s = true := fun w hw => hts0 w (List.mem_cons_of_mem _ hw)
  have hown : s.vm.findClass "SmallCourt" = some m.cls := hown
  have hM : hx_S P_tb [] L h L h := hx_S.rf
  refine lv_iload_n hx hb dX9_walked_0 rfl (lv_at hl 1 rfl) ?_
  refine hb_if_lt (zx := a.toInt) (tgt := 15) hx hb rfl dX9_walked_1 (by decide) (fun c_1 => ?_) (fun c_1 => ?_)
  · skip
    refine lv_iconst (v := -1) hx hb dX9_walked_15 (by decide) ?_
    refine lv_goto (tgt := 28) hx hb dX9_walked_16 (by decide) ?_
    exact hx_reti hx hb hr hlk hW ⟨rfl, hM⟩ dX9_walked_28
  · skip
    refine lv_iload_n hx hb dX9_walked_4 rfl (lv_at hl 1 rfl) ?_
    refine lv_aload_n hx hb dX9_walked_5 rfl (lv_at hl 0 rfl) ?_
    refine hk_getr hx hb hts hC_9 hown hW gx td_9 19 (by decide) rfl kw_383 ⟨rfl, rfl, rfl⟩ f_x_19 dX9_walked_6 ?_
    refine hk_geti hx hb hts hC_8 hown hW gqw td_8 1 (by decide) rfl kw_348 ⟨rfl, rfl, rfl⟩ f_qw_1 dX9_walked_9 ?_
    refine hb_icmp_lt (zx := a.toInt) (zy := 0) (tgt := 19) hx hb rfl (by decide) dX9_walked_12 (by decide) (fun c_2 => by exfalso; omega) (fun c_2 => ?_)
    refine lv_iconst (v := -1) hx hb dX9_walked_15 (by decide) ?_
    refine lv_goto (tgt := 28) hx hb dX9_walked_16 (by decide) ?_
    exact hx_reti hx hb hr hlk hW ⟨rfl, hM⟩ dX9_walked_28


theorem dX9_count_0 : decode cX9_count 0 = .ok (.iload_n 1, 1) := by decide +kernel
theorem dX9_count_1 : decode cX9_count 1 = .ok (.tableswitch 105 0 8 #[51, 56, 61, 66, 71, 79, 84, 92, 97], 51) := by decide +kernel
theorem dX9_count_52 : decode cX9_count 52 = .ok (.aload_n 0, 1) := by decide +kernel
theorem dX9_count_53 : decode cX9_count 53 = .ok (.getfield 94, 3) := by decide +kernel
theorem dX9_count_56 : decode cX9_count 56 = .ok (.ireturn, 1) := by decide +kernel
theorem dX9_count_57 : decode cX9_count 57 = .ok (.aload_n 0, 1) := by decide +kernel
theorem dX9_count_58 : decode cX9_count 58 = .ok (.getfield 105, 3) := by decide +kernel
theorem dX9_count_61 : decode cX9_count 61 = .ok (.ireturn, 1) := by decide +kernel
theorem dX9_count_62 : decode cX9_count 62 = .ok (.aload_n 0, 1) := by decide +kernel
theorem dX9_count_63 : decode cX9_count 63 = .ok (.getfield 125, 3) := by decide +kernel
theorem dX9_count_66 : decode cX9_count 66 = .ok (.ireturn, 1) := by decide +kernel
theorem dX9_count_67 : decode cX9_count 67 = .ok (.aload_n 0, 1) := by decide +kernel
theorem dX9_count_68 : decode cX9_count 68 = .ok (.invokevirtual 405, 3) := by decide +kernel
theorem dX9_count_71 : decode cX9_count 71 = .ok (.ireturn, 1) := by decide +kernel
theorem dX9_count_72 : decode cX9_count 72 = .ok (.aload_n 0, 1) := by decide +kernel
theorem dX9_count_73 : decode cX9_count 73 = .ok (.getfield 42, 3) := by decide +kernel
theorem dX9_count_76 : decode cX9_count 76 = .ok (.getfield 158, 3) := by decide +kernel
theorem dX9_count_79 : decode cX9_count 79 = .ok (.ireturn, 1) := by decide +kernel
theorem dX9_count_80 : decode cX9_count 80 = .ok (.aload_n 0, 1) := by decide +kernel
theorem dX9_count_81 : decode cX9_count 81 = .ok (.getfield 181, 3) := by decide +kernel
theorem dX9_count_84 : decode cX9_count 84 = .ok (.ireturn, 1) := by decide +kernel
theorem dX9_count_85 : decode cX9_count 85 = .ok (.aload_n 0, 1) := by decide +kernel
theorem dX9_count_86 : decode cX9_count 86 = .ok (.getfield 58, 3) := by decide +kernel
theorem dX9_count_89 : decode cX9_count 89 = .ok (.getfield 278, 3) := by decide +kernel
theorem dX9_count_92 : decode cX9_count 92 = .ok (.ireturn, 1) := by decide +kernel
theorem dX9_count_93 : decode cX9_count 93 = .ok (.aload_n 0, 1) := by decide +kernel
theorem dX9_count_94 : decode cX9_count 94 = .ok (.getfield 98, 3) := by decide +kernel
theorem dX9_count_97 : decode cX9_count 97 = .ok (.ireturn, 1) := by decide +kernel
theorem dX9_count_98 : decode cX9_count 98 = .ok (.aload_n 0, 1) := by decide +kernel
theorem dX9_count_99 : decode cX9_count 99 = .ok (.getfield 86, 3) := by decide +kernel
theorem dX9_count_102 : decode cX9_count 102 = .ok (.getfield 381, 3) := by decide +kernel
theorem dX9_count_105 : decode cX9_count 105 = .ok (.ireturn, 1) := by decide +kernel
theorem dX9_count_106 : decode cX9_count 106 = .ok (.iconst (-1), 1) := by decide +kernel
theorem dX9_count_107 : decode cX9_count 107 = .ok (.ireturn, 1) := by decide +kernel
set_option maxHeartbeats 4000000 in
set_option maxRecDepth 100000 in
theorem c_X9_count (l : Launch) (dC : Nat → ClassId) (dI : Nat → Nat → Nat) (dA : Nat → ClassId) (L : List Nat) (h : hx_h) (sz : Nat) (x : Nat) (a : Int32) (gx : hx_g L h x 9) (f_x_2 : h.2.1 x 2 = 0) (f_x_6 : h.2.1 x 6 = 0) (f_x_8 : h.2.1 x 8 = 0) (qb : Nat) (gqb : hx_g L h qb 1) (f_x_9 : h.2.2 x 9 = some qb) (f_qb_0 : h.2.1 qb 0 = 0) (f_x_11 : h.2.1 x 11 = 0) (qp : Nat) (gqp : hx_g L h qp 3) (f_x_14 : h.2.2 x 14 = some qp) (f_qp_0 : h.2.1 qp 0 = 0) (f_x_1 : h.2.1 x 1 = 0) (qw : Nat) (gqw : hx_g L h qw 8) (f_x_19 : h.2.2 x 19 = some qw) (f_qw_0 : h.2.1 qw 0 = 0) (f_qw_1 : h.2.1 qw 1 = 0) : Met l yX9_count (Cond.code yX9_count cX9_count 2 (some .int) :: hx_all) ({ frames := 1, cells := 0, slots := 0, locals := 22 }) (va_Pc [.ref x, .int a] (hx_B P_tb (P_ty dA) (dC, dI) vwCl L h sz)) (va_Qi (fun (r : Int32) (u : List Nat × hx_h) => ((0 ≤ a.toInt ∧ a.toInt ≤ 8) ∧ r = 0 ∨ ¬ (0 ≤ a.toInt ∧ a.toInt ≤ 8) ∧ r = -1) ∧ hx_S P_tb [] L h u.1 u.2) (hx_E P_tb (P_ty dA) (dC, dI) vwCl (hx_A L sz)) (hx_A L sz)) 0 0 (hx_A L sz) := by
  refine hx_met (lv := [(0, .ref x), (1, .int a)]) (by decide +kernel) rfl (Nat.le_of_ble_eq_true rfl) rfl ?_
  intro p e s m below meth c hx hb hml hr hlk hts0 hown hin hsz hW ls hl
  have hts : ∀ w ∈ hx_all, w.before _ s = true := fun w hw => hts0 w (List.mem_cons_of_mem _ hw)
  have hown : s.vm.findClass "SmallCourt" = some m.cls := hown
  have hM : hx_S P_tb [] L h L h := hx_S.rf
  refine lv_iload_n hx hb dX9_count_0 rfl (lv_at hl 1 rfl) ?_
  rcases (show (a.toInt < 0 ∨ 8 < a.toInt) ∨ a.toInt = 0 ∨ a.toInt = 1 ∨ a.toInt = 2 ∨ a.toInt = 3 ∨ a.toInt = 4 ∨ a.toInt = 5 ∨ a.toInt = 6 ∨ a.toInt = 7 ∨ a.toInt = 8 from by omega) with c_1 | c_1 | c_1 | c_1 | c_1 | c_1 | c_1 | c_1 | c_1 | c_1
  · refine lv_tableOut (tgt := 106) hx hb dX9_count_1 c_1 (by decide) ?_
    refine lv_iconst (v := -1) hx hb dX9_count_106 (by decide) ?_
    exact hx_reti hx hb hr hlk hW ⟨Or.inr ⟨by first | omega | decide, rfl⟩, hM⟩ dX9_count_107
  · obtain rfl : a = (0 : Int32) := Int32.toInt_inj.mp (c_1.trans (by decide))
    refine lv_tableIn (off := 51) (tgt := 52) hx hb dX9_count_1 (by decide) (by decide) rfl (by decide) ?_
    refine lv_aload_n hx hb dX9_count_52 rfl (lv_at hl 0 rfl) ?_
    refine hk_geti hx hb hts hC_9 hown hW gx td_9 2 (by decide) rfl kw_366 ⟨rfl, rfl, rfl⟩ f_x_2 dX9_count_53 ?_
    exact hx_reti hx hb hr hlk hW ⟨Or.inl ⟨by first | omega | decide, rfl⟩, hM⟩ dX9_count_56
  · obtain rfl : a = (1 : Int32) := Int32.toInt_inj.mp (c_1.trans (by decide))
    refine lv_tableIn (off := 56) (tgt := 57) hx hb dX9_count_1 (by decide) (by decide) rfl (by decide) ?_
    refine lv_aload_n hx hb dX9_count_57 rfl (lv_at hl 0 rfl) ?_
    refine hk_geti hx hb hts hC_9 hown hW gx td_9 6 (by decide) rfl kw_370 ⟨rfl, rfl, rfl⟩ f_x_6 dX9_count_58 ?_
    exact hx_reti hx hb hr hlk hW ⟨Or.inl ⟨by first | omega | decide, rfl⟩, hM⟩ dX9_count_61
  · obtain rfl : a = (2 : Int32) := Int32.toInt_inj.mp (c_1.trans (by decide))
    refine lv_tableIn (off := 61) (tgt := 62) hx hb dX9_count_1 (by decide) (by decide) rfl (by decide) ?_
    refine lv_aload_n hx hb dX9_count_62 rfl (lv_at hl 0 rfl) ?_
    refine hk_geti hx hb hts hC_9 hown hW gx td_9 8 (by decide) rfl kw_372 ⟨rfl, rfl, rfl⟩ f_x_8 dX9_count_63 ?_
    exact hx_reti hx hb hr hlk hW ⟨Or.inl ⟨by first | omega | decide, rfl⟩, hM⟩ dX9_count_66
  · obtain rfl : a = (3 : Int32) := Int32.toInt_inj.mp (c_1.trans (by decide))
    refine lv_tableIn (off := 66) (tgt := 67) hx hb dX9_count_1 (by decide) (by decide) rfl (by decide) ?_
    refine lv_aload_n hx hb dX9_count_67 rfl (lv_at hl 0 rfl) ?_
    refine hx_goi (hx_runV (As := []) (rest := []) ⟨hx, hb, hml, hown, hts⟩ hW gx td_9 (T := TX9) (N := 20) rfl (c_X9_livingJudges l dC dI dA L h s.heap.size x gx f_x_8) (cwV 0 hts (hx_gV kw_1112 kw_1109 kw_1111 kw_47 kw_94) rfl rfl rfl (by decide +kernel) ⟨Nat.le_of_ble_eq_true rfl, Nat.le_of_ble_eq_true rfl⟩) rfl hl.1 rfl (Nat.le_of_ble_eq_true rfl) dX9_count_68 ⟨Nat.le_of_ble_eq_true rfl, Nat.le_of_ble_eq_true rfl⟩) hW (fun r_4 L_2 h_3 H locs p_5 hW => ?_)
    obtain ⟨rfl, eu⟩ := p_5
    cases eu
    exact hx_reti hx hb hr hlk hW ⟨Or.inl ⟨by first | omega | decide, rfl⟩, hM⟩ dX9_count_71
  · obtain rfl : a = (4 : Int32) := Int32.toInt_inj.mp (c_1.trans (by decide))
    refine lv_tableIn (off := 71) (tgt := 72) hx hb dX9_count_1 (by decide) (by decide) rfl (by decide) ?_
    refine lv_aload_n hx hb dX9_count_72 rfl (lv_at hl 0 rfl) ?_
    refine hk_getr hx hb hts hC_9 hown hW gx td_9 9 (by decide) rfl kw_373 ⟨rfl, rfl, rfl⟩ f_x_9 dX9_count_73 ?_
    refine hk_geti hx hb hts hC_1 hown hW gqb td_1 0 (by decide) rfl kw_197 ⟨rfl, rfl, rfl⟩ f_qb_0 dX9_count_76 ?_
    exact hx_reti hx hb hr hlk hW ⟨Or.inl ⟨by first | omega | decide, rfl⟩, hM⟩ dX9_count_79
  · obtain rfl : a = (5 : Int32) := Int32.toInt_inj.mp (c_1.trans (by decide))
    refine lv_tableIn (off := 79) (tgt := 80) hx hb dX9_count_1 (by decide) (by decide) rfl (by decide) ?_
    refine lv_aload_n hx hb dX9_count_80 rfl (lv_at hl 0 rfl) ?_
    refine hk_geti hx hb hts hC_9 hown hW gx td_9 11 (by decide) rfl kw_375 ⟨rfl, rfl, rfl⟩ f_x_11 dX9_count_81 ?_
    exact hx_reti hx hb hr hlk hW ⟨Or.inl ⟨by first | omega | decide, rfl⟩, hM⟩ dX9_count_84
  · obtain rfl : a = (6 : Int32) := Int32.toInt_inj.mp (c_1.trans (by decide))
    refine lv_tableIn (off := 84) (tgt := 85) hx hb dX9_count_1 (by decide) (by decide) rfl (by decide) ?_
    refine lv_aload_n hx hb dX9_count_85 rfl (lv_at hl 0 rfl) ?_
    refine hk_getr hx hb hts hC_9 hown hW gx td_9 14 (by decide) rfl kw_378 ⟨rfl, rfl, rfl⟩ f_x_14 dX9_count_86 ?_
    refine hk_geti hx hb hts hC_3 hown hW gqp td_3 0 (by decide) rfl kw_232 ⟨rfl, rfl, rfl⟩ f_qp_0 dX9_count_89 ?_
    exact hx_reti hx hb hr hlk hW ⟨Or.inl ⟨by first | omega | decide, rfl⟩, hM⟩ dX9_count_92
  · obtain rfl : a = (7 : Int32) := Int32.toInt_inj.mp (c_1.trans (by decide))
    refine lv_tableIn (off := 92) (tgt := 93) hx hb dX9_count_1 (by decide) (by decide) rfl (by decide) ?_
    refine lv_aload_n hx hb dX9_count_93 rfl (lv_at hl 0 rfl) ?_
    refine hk_geti hx hb hts hC_9 hown hW gx td_9 1 (by decide) rfl kw_365 ⟨rfl, rfl, rfl⟩ f_x_1 dX9_count_94 ?_
    exact hx_reti hx hb hr hlk hW ⟨Or.inl ⟨by first | omega | decide, rfl⟩, hM⟩ dX9_count_97
  · obtain rfl : a = (8 : Int32) := Int32.toInt_inj.mp (c_1.trans (by decide))
    refine lv_tableIn (off := 97) (tgt := 98) hx hb dX9_count_1 (by decide) (by decide) rfl (by decide) ?_
    refine lv_aload_n hx hb dX9_count_98 rfl (lv_at hl 0 rfl) ?_
    refine hk_getr hx hb hts hC_9 hown hW gx td_9 19 (by decide) rfl kw_383 ⟨rfl, rfl, rfl⟩ f_x_19 dX9_count_99 ?_
    refine hk_geti hx hb hts hC_8 hown hW gqw td_8 0 (by decide) rfl kw_346 ⟨rfl, rfl, rfl⟩ f_qw_0 dX9_count_102 ?_
    exact hx_reti hx hb hr hlk hW ⟨Or.inl ⟨by first | omega | decide, rfl⟩, hM⟩ dX9_count_105


theorem dX9_other_0 : decode cX9_other 0 = .ok (.iload_n 1, 1) := by decide +kernel
theorem dX9_other_1 : decode cX9_other 1 = .ok (.iconst (-1), 1) := by decide +kernel
theorem dX9_other_2 : decode cX9_other 2 = .ok (.if_icmp .lt 22, 3) := by decide +kernel
theorem dX9_other_5 : decode cX9_other 5 = .ok (.iload_n 1, 1) := by decide +kernel
theorem dX9_other_6 : decode cX9_other 6 = .ok (.aload_n 0, 1) := by decide +kernel
theorem dX9_other_7 : decode cX9_other 7 = .ok (.getfield 105, 3) := by decide +kernel
theorem dX9_other_10 : decode cX9_other 10 = .ok (.if_icmp .ge 14, 3) := by decide +kernel
theorem dX9_other_13 : decode cX9_other 13 = .ok (.iload_n 2, 1) := by decide +kernel
theorem dX9_other_14 : decode cX9_other 14 = .ok (.iconst 1, 1) := by decide +kernel
theorem dX9_other_15 : decode cX9_other 15 = .ok (.if_icmp .lt 9, 3) := by decide +kernel
theorem dX9_other_18 : decode cX9_other 18 = .ok (.iload_n 2, 1) := by decide +kernel
theorem dX9_other_19 : decode cX9_other 19 = .ok (.bipush 6, 2) := by decide +kernel
theorem dX9_other_21 : decode cX9_other 21 = .ok (.if_icmp .le 5, 3) := by decide +kernel
theorem dX9_other_24 : decode cX9_other 24 = .ok (.iconst (-1), 1) := by decide +kernel
theorem dX9_other_25 : decode cX9_other 25 = .ok (.ireturn, 1) := by decide +kernel
theorem dX9_other_26 : decode cX9_other 26 = .ok (.iload_n 1, 1) := by decide +kernel
theorem dX9_other_27 : decode cX9_other 27 = .ok (.iconst (-1), 1) := by decide +kernel
theorem dX9_other_28 : decode cX9_other 28 = .ok (.if_icmp .ne 10, 3) := by decide +kernel
theorem dX9_other_31 : decode cX9_other 31 = .ok (.aload_n 0, 1) := by decide +kernel
theorem dX9_other_32 : decode cX9_other 32 = .ok (.getfield 25, 3) := by decide +kernel
theorem dX9_other_35 : decode cX9_other 35 = .ok (.goto 9, 3) := by decide +kernel
theorem dX9_other_44 : decode cX9_other 44 = .ok (.astore_n 3, 1) := by decide +kernel
theorem dX9_other_45 : decode cX9_other 45 = .ok (.iconst 0, 1) := by decide +kernel
theorem dX9_other_46 : decode cX9_other 46 = .ok (.istore 4, 2) := by decide +kernel
theorem dX9_other_48 : decode cX9_other 48 = .ok (.iconst 0, 1) := by decide +kernel
theorem dX9_other_49 : decode cX9_other 49 = .ok (.istore 5, 2) := by decide +kernel
theorem dX9_other_51 : decode cX9_other 51 = .ok (.iconst 0, 1) := by decide +kernel
theorem dX9_other_52 : decode cX9_other 52 = .ok (.istore 6, 2) := by decide +kernel
theorem dX9_other_54 : decode cX9_other 54 = .ok (.iload 6, 2) := by decide +kernel
theorem dX9_other_56 : decode cX9_other 56 = .ok (.aload_n 0, 1) := by decide +kernel
theorem dX9_other_57 : decode cX9_other 57 = .ok (.getfield 216, 3) := by decide +kernel
theorem dX9_other_60 : decode cX9_other 60 = .ok (.if_icmp .ge 66, 3) := by decide +kernel
theorem dX9_other_126 : decode cX9_other 126 = .ok (.iload_n 2, 1) := by decide +kernel
theorem dX9_other_127 : decode cX9_other 127 = .ok (.iconst 5, 1) := by decide +kernel
theorem dX9_other_128 : decode cX9_other 128 = .ok (.if_icmp .le 8, 3) := by decide +kernel
theorem dX9_other_131 : decode cX9_other 131 = .ok (.iload 5, 2) := by decide +kernel
theorem dX9_other_133 : decode cX9_other 133 = .ok (.goto 5, 3) := by decide +kernel
theorem dX9_other_136 : decode cX9_other 136 = .ok (.iload 4, 2) := by decide +kernel
theorem dX9_other_138 : decode cX9_other 138 = .ok (.ireturn, 1) := by decide +kernel
set_option maxHeartbeats 4000000 in
set_option maxRecDepth 100000 in
theorem c_X9_other (l : Launch) (dC : Nat → ClassId) (dI : Nat → Nat → Nat) (dA : Nat → ClassId) (L : List Nat) (h : hx_h) (sz : Nat) (x : Nat) (a : Int32) (b : Int32) (gx : hx_g L h x 9) (f_x_6 : h.2.1 x 6 = 0) (qa : Nat) (gqa : hx_g L h qa 0) (f_x_4 : h.2.2 x 4 = some qa) (f_x_13 : h.2.1 x 13 = 0) : Met l yX9_other (Cond.code yX9_other cX9_other 8 (some .int) :: hx_all) ({ frames := 0, cells := 0, slots := 0, locals := 0 }) (va_Pc [.ref x, .int a, .int b] (hx_B P_tb (P_ty dA) (dC, dI) vwCl L h sz)) (va_Qi (fun (r : Int32) (u : List Nat × hx_h) => ((a.toInt = -1 ∧ 1 ≤ b.toInt ∧ b.toInt ≤ 6) ∧ r = 0 ∨ ¬ (a.toInt = -1 ∧ 1 ≤ b.toInt ∧ b.toInt ≤ 6) ∧ r = -1) ∧ hx_S P_tb [] L h u.1 u.2) (hx_E P_tb (P_ty dA) (dC, dI) vwCl (hx_A L sz)) (hx_A L sz)) 0 0 (hx_A L sz) := by
  refine hx_met (lv := [(0, .ref x), (1, .int a), (2, .int b)]) (by decide +kernel) rfl (Nat.le_of_ble_eq_true rfl) rfl ?_
  intro p e s m below meth c hx hb hml hr hlk hts0 hown hin hsz hW ls hl
  have hts : ∀ w ∈ hx_all, w.before _ s = true := fun w hw => hts0 w (List.mem_cons_of_mem _ hw)
  have hown : s.vm.findClass "SmallCourt" = some m.cls := hown
  have hM : hx_S P_tb [] L h L h := hx_S.rf
  refine lv_iload_n hx hb dX9_other_0 rfl (lv_at hl 1 rfl) ?_
  refine lv_iconst (v := -1) hx hb dX9_other_1 (by decide) ?_
  refine hb_icmp_lt (zx := a.toInt) (zy := (-1)) (tgt := 24) hx hb rfl (by decide) dX9_other_2 (by decide) (fun c_1 => ?_) (fun c_1 => ?_)
  · skip
    refine lv_iconst (v := -1) hx hb dX9_other_24 (by decide) ?_
    exact hx_reti hx hb hr hlk hW ⟨Or.inr ⟨by first | omega | decide, rfl⟩, hM⟩ dX9_other_25
  · skip
    refine lv_iload_n hx hb dX9_other_5 rfl (lv_at hl 1 rfl) ?_
    refine lv_aload_n hx hb dX9_other_6 rfl (lv_at hl 0 rfl) ?_
    refine hk_geti hx hb hts hC_9 hown hW gx td_9 6 (by decide) rfl kw_370 ⟨rfl, rfl, rfl⟩ f_x_6 dX9_other_7 ?_
    refine hb_icmp_ge (zx := a.toInt) (zy := 0) (tgt := 24) hx hb rfl (by decide) dX9_other_10 (by decide) (fun c_2 => ?_) (fun c_2 => ?_)
    · skip
      refine lv_iconst (v := -1) hx hb dX9_other_24 (by decide) ?_
      exact hx_reti hx hb hr hlk hW ⟨Or.inr ⟨by first | omega | decide, rfl⟩, hM⟩ dX9_other_25
    · skip
      refine lv_iload_n hx hb dX9_other_13 rfl (lv_at hl 2 rfl) ?_
      refine lv_iconst (v := 1) hx hb dX9_other_14 (by decide) ?_
      refine hb_icmp_lt (zx := b.toInt) (zy := 1) (tgt := 24) hx hb rfl (by decide) dX9_other_15 (by decide) (fun c_3 => ?_) (fun c_3 => ?_)
      · skip
        refine lv_iconst (v := -1) hx hb dX9_other_24 (by decide) ?_
        exact hx_reti hx hb hr hlk hW ⟨Or.inr ⟨by first | omega | decide, rfl⟩, hM⟩ dX9_other_25
      · skip
        refine lv_iload_n hx hb dX9_other_18 rfl (lv_at hl 2 rfl) ?_
        refine lv_bipush (v := 6) hx hb dX9_other_19 (by decide) ?_
        refine hb_icmp_le (zx := b.toInt) (zy := 6) (tgt := 26) hx hb rfl (by decide) dX9_other_21 (by decide) (fun c_4 => ?_) (fun c_4 => ?_)
        · skip
          refine lv_iload_n hx hb dX9_other_26 rfl (lv_at hl 1 rfl) ?_
          refine lv_iconst (v := -1) hx hb dX9_other_27 (by decide) ?_
          refine hb_icmp_ne (zx := a.toInt) (zy := (-1)) (tgt := 38) hx hb rfl (by decide) dX9_other_28 (by decide) (fun c_5 => by exfalso; omega) (fun c_5 => ?_)
          refine lv_aload_n hx hb dX9_other_31 rfl (lv_at hl 0 rfl) ?_
          refine hk_getr hx hb hts hC_9 hown hW gx td_9 4 (by decide) rfl kw_368 ⟨rfl, rfl, rfl⟩ f_x_4 dX9_other_32 ?_
          refine lv_goto (tgt := 44) hx hb dX9_other_35 (by decide) ?_
          refine lv_astore_n (lv' := [(3, .ref qa), (0, .ref x), (1, .int a), (2, .int b)]) hx hb dX9_other_44 rfl hl (by decide) rfl (fun ls hl => ?_)
          refine lv_iconst (v := 0) hx hb dX9_other_45 (by decide) ?_
          refine lv_istore (lv' := [(4, .int (0 : Int32)), (3, .ref qa), (0, .ref x), (1, .int a), (2, .int b)]) hx hb dX9_other_46 hl (by decide) rfl (fun ls hl => ?_)
          refine lv_iconst (v := 0) hx hb dX9_other_48 (by decide) ?_
          refine lv_istore (lv' := [(5, .int (0 : Int32)), (4, .int (0 : Int32)), (3, .ref qa), (0, .ref x), (1, .int a), (2, .int b)]) hx hb dX9_other_49 hl (by decide) rfl (fun ls hl => ?_)
          refine lv_iconst (v := 0) hx hb dX9_other_51 (by decide) ?_
          refine lv_istore (lv' := [(6, .int (0 : Int32)), (5, .int (0 : Int32)), (4, .int (0 : Int32)), (3, .ref qa), (0, .ref x), (1, .int a), (2, .int b)]) hx hb dX9_other_52 hl (by decide) rfl (fun ls hl => ?_)
          refine lv_iload hx hb dX9_other_54 (lv_at hl 0 rfl) ?_
          refine lv_aload_n hx hb dX9_other_56 rfl (lv_at hl 4 rfl) ?_
          refine hk_geti hx hb hts hC_9 hown hW gx td_9 13 (by decide) rfl kw_377 ⟨rfl, rfl, rfl⟩ f_x_13 dX9_other_57 ?_
          refine hb_icmp_ge (zx := 0) (zy := 0) (tgt := 126) hx hb (by decide) (by decide) dX9_other_60 (by decide) (fun c_6 => ?_) (fun c_6 => absurd c_6 (by decide))
          refine lv_iload_n hx hb dX9_other_126 rfl (lv_at hl 6 rfl) ?_
          refine lv_iconst (v := 5) hx hb dX9_other_127 (by decide) ?_
          refine hb_icmp_le (zx := b.toInt) (zy := 5) (tgt := 136) hx hb rfl (by decide) dX9_other_128 (by decide) (fun c_7 => ?_) (fun c_7 => ?_)
          · skip
            refine lv_iload hx hb dX9_other_136 (lv_at hl 2 rfl) ?_
            exact hx_reti hx hb hr hlk hW ⟨Or.inl ⟨by first | omega | decide, rfl⟩, hM⟩ dX9_other_138
          · skip
            refine lv_iload hx hb dX9_other_131 (lv_at hl 1 rfl) ?_
            refine lv_goto (tgt := 138) hx hb dX9_other_133 (by decide) ?_
            exact hx_reti hx hb hr hlk hW ⟨Or.inl ⟨by first | omega | decide, rfl⟩, hM⟩ dX9_other_138
        · skip
          refine lv_iconst (v := -1) hx hb dX9_other_24 (by decide) ?_
          exact hx_reti hx hb hr hlk hW ⟨Or.inr ⟨by first | omega | decide, rfl⟩, hM⟩ dX9_other_25

