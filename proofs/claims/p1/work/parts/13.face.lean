theorem dX9_clock_0 : decode cX9_clock 0 = .ok (.iload_n 1, 1) := by decide +kernel
theorem dX9_clock_1 : decode cX9_clock 1 = .ok (.invokestatic 90, 3) := by decide +kernel
theorem dX9_clock_4 : decode cX9_clock 4 = .ok (.ifCond .eq 11, 3) := by decide +kernel
theorem dX9_clock_7 : decode cX9_clock 7 = .ok (.iload_n 1, 1) := by decide +kernel
theorem dX9_clock_8 : decode cX9_clock 8 = .ok (.aload_n 0, 1) := by decide +kernel
theorem dX9_clock_9 : decode cX9_clock 9 = .ok (.getfield 94, 3) := by decide +kernel
theorem dX9_clock_12 : decode cX9_clock 12 = .ok (.if_icmp .ge 5, 3) := by decide +kernel
theorem dX9_clock_15 : decode cX9_clock 15 = .ok (.iconst 0, 1) := by decide +kernel
theorem dX9_clock_16 : decode cX9_clock 16 = .ok (.ireturn, 1) := by decide +kernel
theorem dX9_clock_17 : decode cX9_clock 17 = .ok (.aload_n 0, 1) := by decide +kernel
theorem dX9_clock_18 : decode cX9_clock 18 = .ok (.iload_n 1, 1) := by decide +kernel
theorem dX9_clock_19 : decode cX9_clock 19 = .ok (.putfield 94, 3) := by decide +kernel
theorem dX9_clock_22 : decode cX9_clock 22 = .ok (.iconst 1, 1) := by decide +kernel
theorem dX9_clock_23 : decode cX9_clock 23 = .ok (.ireturn, 1) := by decide +kernel
set_option maxHeartbeats 4000000 in
set_option maxRecDepth 100000 in
theorem c_X9_clock (l : Launch) (dC : Nat → ClassId) (dI : Nat → Nat → Nat) (dA : Nat → ClassId) (L : List Nat) (h : hx_h) (sz : Nat) (x : Nat) (d : Int32) (gx : hx_g L h x 9) (f_x_2 : h.2.1 x 2 = 0) : Met l yX9_clock (Cond.code yX9_clock cX9_clock 2 (some .boolean) :: hx_all) ({ frames := 2, cells := 0, slots := 0, locals := 42 }) (va_Pc [.ref x, .int d] (hx_B P_tb (P_ty dA) (dC, dI) vwCl L h sz)) (va_Qi (fun (r : Int32) (u : List Nat × hx_h) => ((0 ≤ d.toInt ∧ d.toInt ≤ 7999) ∧ r = 1 ∨ ¬ (0 ≤ d.toInt ∧ d.toInt ≤ 7999) ∧ r = 0) ∧ hx_S P_tb [(9, 2)] L h u.1 u.2) (hx_E P_tb (P_ty dA) (dC, dI) vwCl (hx_A L sz)) (hx_A L sz)) 0 0 (hx_A L sz) := by
  refine hx_met (lv := [(0, .ref x), (1, .int d)]) (by decide +kernel) rfl (Nat.le_of_ble_eq_true rfl) rfl ?_
  intro p e s m below meth c hx hb hml hr hlk hts0 hown hin hsz hW ls hl
  have hts : ∀ w ∈ hx_all, w.before _ s = true := fun w hw => hts0 w (List.mem_cons_of_mem _ hw)
  have hown : s.vm.findClass "SmallCourt" = some m.cls := hown
  have hM : hx_S P_tb [(9, 2)] L h L h := hx_S.rf
  refine lv_iload_n hx hb dX9_clock_0 rfl (lv_at hl 1 rfl) ?_
  refine hx_goi (hx_runS (As := [.int d]) (rest := []) ⟨hx, hb, hml, hown, hts⟩ hW (c_X9_isDay l dC dI dA L h s.heap.size d) (va_cwS 1 hts (hx_gS kw_431 kw_429 kw_430 kw_94) rfl rfl rfl (by decide +kernel) ⟨Nat.le_of_ble_eq_true rfl, Nat.le_of_ble_eq_true rfl⟩) rfl hl.1 rfl (Nat.le_of_ble_eq_true rfl) dX9_clock_1 ⟨Nat.le_of_ble_eq_true rfl, Nat.le_of_ble_eq_true rfl⟩) hW (fun r_3 L_1 h_2 H locs p_4 hW => ?_)
  obtain ⟨p_4, eu⟩ := p_4
  cases eu
  rcases p_4 with ⟨kp_4, rfl⟩ | ⟨kp_4, rfl⟩
  · skip
    refine hb_if_eq (tgt := 15) hx hb (by decide) dX9_clock_4 (by decide) (fun c_5 => absurd c_5 (by decide)) (fun c_5 => ?_)
    refine lv_iload_n hx hb dX9_clock_7 rfl (lv_at hl 1 rfl) ?_
    refine lv_aload_n hx hb dX9_clock_8 rfl (lv_at hl 0 rfl) ?_
    refine hk_geti hx hb hts hC_9 hown hW gx td_9 2 (by decide) rfl kw_366 ⟨rfl, rfl, rfl⟩ f_x_2 dX9_clock_9 ?_
    refine hb_icmp_ge (tgt := 17) hx hb rfl (by decide) dX9_clock_12 (by decide) (fun c_6 => ?_) (fun c_6 => by exfalso; omega)
    refine lv_aload_n hx hb dX9_clock_17 rfl (lv_at hl 0 rfl) ?_
    refine lv_iload_n hx hb dX9_clock_18 rfl (lv_at hl 1 rfl) ?_
    refine hk_puti hx hb hts hC_9 hown hW gx td_9 2 (by decide) rfl kw_366 ⟨rfl, rfl, rfl⟩ rfl (x := d) rfl rfl rfl dX9_clock_19 (fun H locs h_7 eh_7 hW hs => ?_)
    have hM := hM.tr (hs.mono (by decide))
    have gx := gx.S hs
    have f_8 : h_7.2.1 x 2 = d := by rw [eh_7]; exact hx_pi_at _ _ _ _
    refine lv_iconst (v := 1) hx hb dX9_clock_22 (by decide) ?_
    exact hx_retz hx hb hr rfl hlk hW ⟨Or.inl ⟨by omega, rfl⟩, hM⟩ dX9_clock_23
  · skip
    refine hb_if_eq (tgt := 15) hx hb (by decide) dX9_clock_4 (by decide) (fun c_9 => ?_) (fun c_9 => absurd c_9 (by decide))
    refine lv_iconst (v := 0) hx hb dX9_clock_15 (by decide) ?_
    exact hx_retz hx hb hr rfl hlk hW ⟨Or.inr ⟨by omega, rfl⟩, hM⟩ dX9_clock_16

theorem dX9_anew_0 : decode cX9_anew 0 = .ok (.aload_n 0, 1) := by decide +kernel
theorem dX9_anew_1 : decode cX9_anew 1 = .ok (.iload_n 1, 1) := by decide +kernel
theorem dX9_anew_2 : decode cX9_anew 2 = .ok (.invokevirtual 144, 3) := by decide +kernel
theorem dX9_anew_5 : decode cX9_anew 5 = .ok (.astore 6, 2) := by decide +kernel
theorem dX9_anew_7 : decode cX9_anew 7 = .ok (.aload 6, 2) := by decide +kernel
theorem dX9_anew_9 : decode cX9_anew 9 = .ok (.ifnull 23, 3) := by decide +kernel
theorem dX9_anew_32 : decode cX9_anew 32 = .ok (.iconst 0, 1) := by decide +kernel
theorem dX9_anew_33 : decode cX9_anew 33 = .ok (.ireturn, 1) := by decide +kernel
set_option maxHeartbeats 4000000 in
set_option maxRecDepth 100000 in
theorem c_X9_anew (l : Launch) (dC : Nat → ClassId) (dI : Nat → Nat → Nat) (dA : Nat → ClassId) (L : List Nat) (h : hx_h) (sz : Nat) (x : Nat) (a : Int32) (b : Int32) (q : Int32) (u : Int32) (v : Int32) (gx : hx_g L h x 9) (f_x_8 : h.2.1 x 8 = 0) : Met l yX9_anew (Cond.code yX9_anew cX9_anew 7 (some .boolean) :: hx_all) ({ frames := 1, cells := 0, slots := 0, locals := 21 }) (va_Pc [.ref x, .int a, .int b, .int q, .int u, .int v] (hx_B P_tb (P_ty dA) (dC, dI) vwCl L h sz)) (va_Qi (fun (r : Int32) (u : List Nat × hx_h) => (r = 0) ∧ hx_S P_tb [] L h u.1 u.2) (hx_E P_tb (P_ty dA) (dC, dI) vwCl (hx_A L sz)) (hx_A L sz)) 0 0 (hx_A L sz) := by
  refine hx_met (lv := [(0, .ref x), (1, .int a), (2, .int b), (3, .int q), (4, .int u), (5, .int v)]) (by decide +kernel) rfl (Nat.le_of_ble_eq_true rfl) rfl ?_
  intro p e s m below meth c hx hb hml hr hlk hts0 hown hin hsz hW ls hl
  have hts : ∀ w ∈ hx_all, w.before _ s = true := fun w hw => hts0 w (List.mem_cons_of_mem _ hw)
  have hown : s.vm.findClass "SmallCourt" = some m.cls := hown
  have hM : hx_S P_tb [] L h L h := hx_S.rf
  refine lv_aload_n hx hb dX9_anew_0 rfl (lv_at hl 0 rfl) ?_
  refine lv_iload_n hx hb dX9_anew_1 rfl (lv_at hl 1 rfl) ?_
  refine hx_goq (hx_runV (As := [.int a]) (rest := []) ⟨hx, hb, hml, hown, hts⟩ hW gx td_9 (T := TX9) (N := 20) rfl (c_X9_personAt l dC dI dA L h s.heap.size x a gx f_x_8) (cwV 1 hts (hx_gV kw_659 kw_656 kw_658 kw_20 kw_94) rfl rfl rfl (by decide +kernel) ⟨Nat.le_of_ble_eq_true rfl, Nat.le_of_ble_eq_true rfl⟩) rfl hl.1 rfl (Nat.le_of_ble_eq_true rfl) dX9_anew_2 ⟨Nat.le_of_ble_eq_true rfl, Nat.le_of_ble_eq_true rfl⟩) hW (fun r_3 L_1 h_2 H locs p_4 hW => ?_)
  obtain ⟨rfl, eu⟩ := p_4
  cases eu
  refine lv_astoreN (lv' := [(6, .null), (0, .ref x), (1, .int a), (2, .int b), (3, .int q), (4, .int u), (5, .int v)]) hx hb dX9_anew_5 hl (by decide) rfl (fun ls hl => ?_)
  refine lv_aloadN hx hb dX9_anew_7 (lv_at hl 0 rfl) ?_
  refine lv_ifnullN (tgt := 32) hx hb dX9_anew_9 (by decide) ?_
  refine lv_iconst (v := 0) hx hb dX9_anew_32 (by decide) ?_
  exact hx_retz hx hb hr rfl hlk hW ⟨rfl, hM⟩ dX9_anew_33

theorem dX9_dies_0 : decode cX9_dies 0 = .ok (.aload_n 0, 1) := by decide +kernel
theorem dX9_dies_1 : decode cX9_dies 1 = .ok (.iload_n 1, 1) := by decide +kernel
theorem dX9_dies_2 : decode cX9_dies 2 = .ok (.invokevirtual 144, 3) := by decide +kernel
theorem dX9_dies_5 : decode cX9_dies 5 = .ok (.astore_n 2, 1) := by decide +kernel
theorem dX9_dies_6 : decode cX9_dies 6 = .ok (.aload_n 2, 1) := by decide +kernel
theorem dX9_dies_7 : decode cX9_dies 7 = .ok (.ifnull 10, 3) := by decide +kernel
theorem dX9_dies_17 : decode cX9_dies 17 = .ok (.iconst 0, 1) := by decide +kernel
theorem dX9_dies_18 : decode cX9_dies 18 = .ok (.ireturn, 1) := by decide +kernel
set_option maxHeartbeats 4000000 in
set_option maxRecDepth 100000 in
theorem c_X9_dies (l : Launch) (dC : Nat → ClassId) (dI : Nat → Nat → Nat) (dA : Nat → ClassId) (L : List Nat) (h : hx_h) (sz : Nat) (x : Nat) (a : Int32) (gx : hx_g L h x 9) (f_x_8 : h.2.1 x 8 = 0) : Met l yX9_dies (Cond.code yX9_dies cX9_dies 3 (some .boolean) :: hx_all) ({ frames := 1, cells := 0, slots := 0, locals := 21 }) (va_Pc [.ref x, .int a] (hx_B P_tb (P_ty dA) (dC, dI) vwCl L h sz)) (va_Qi (fun (r : Int32) (u : List Nat × hx_h) => (r = 0) ∧ hx_S P_tb [] L h u.1 u.2) (hx_E P_tb (P_ty dA) (dC, dI) vwCl (hx_A L sz)) (hx_A L sz)) 0 0 (hx_A L sz) := by
  refine hx_met (lv := [(0, .ref x), (1, .int a)]) (by decide +kernel) rfl (Nat.le_of_ble_eq_true rfl) rfl ?_
  intro p e s m below meth c hx hb hml hr hlk hts0 hown hin hsz hW ls hl
  have hts : ∀ w ∈ hx_all, w.before _ s = true := fun w hw => hts0 w (List.mem_cons_of_mem _ hw)
  have hown : s.vm.findClass "SmallCourt" = some m.cls := hown
  have hM : hx_S P_tb [] L h L h := hx_S.rf
  refine lv_aload_n hx hb dX9_dies_0 rfl (lv_at hl 0 rfl) ?_
  refine lv_iload_n hx hb dX9_dies_1 rfl (lv_at hl 1 rfl) ?_
  refine hx_goq (hx_runV (As := [.int a]) (rest := []) ⟨hx, hb, hml, hown, hts⟩ hW gx td_9 (T := TX9) (N := 20) rfl (c_X9_personAt l dC dI dA L h s.heap.size x a gx f_x_8) (cwV 1 hts (hx_gV kw_659 kw_656 kw_658 kw_20 kw_94) rfl rfl rfl (by decide +kernel) ⟨Nat.le_of_ble_eq_true rfl, Nat.le_of_ble_eq_true rfl⟩) rfl hl.1 rfl (Nat.le_of_ble_eq_true rfl) dX9_dies_2 ⟨Nat.le_of_ble_eq_true rfl, Nat.le_of_ble_eq_true rfl⟩) hW (fun r_3 L_1 h_2 H locs p_4 hW => ?_)
  obtain ⟨rfl, eu⟩ := p_4
  cases eu
  refine lv_astore_nN (lv' := [(2, .null), (0, .ref x), (1, .int a)]) hx hb dX9_dies_5 rfl hl (by decide) rfl (fun ls hl => ?_)
  refine lv_aload_nN hx hb dX9_dies_6 rfl (lv_at hl 0 rfl) ?_
  refine lv_ifnullN (tgt := 17) hx hb dX9_dies_7 (by decide) ?_
  refine lv_iconst (v := 0) hx hb dX9_dies_17 (by decide) ?_
  exact hx_retz hx hb hr rfl hlk hW ⟨rfl, hM⟩ dX9_dies_18

theorem dX9_judge_0 : decode cX9_judge 0 = .ok (.aload_n 0, 1) := by decide +kernel
theorem dX9_judge_1 : decode cX9_judge 1 = .ok (.iload_n 1, 1) := by decide +kernel
theorem dX9_judge_2 : decode cX9_judge 2 = .ok (.invokevirtual 144, 3) := by decide +kernel
theorem dX9_judge_5 : decode cX9_judge 5 = .ok (.astore_n 3, 1) := by decide +kernel
theorem dX9_judge_6 : decode cX9_judge 6 = .ok (.aload_n 3, 1) := by decide +kernel
theorem dX9_judge_7 : decode cX9_judge 7 = .ok (.ifnull 11, 3) := by decide +kernel
theorem dX9_judge_18 : decode cX9_judge 18 = .ok (.iconst 0, 1) := by decide +kernel
theorem dX9_judge_19 : decode cX9_judge 19 = .ok (.ireturn, 1) := by decide +kernel
set_option maxHeartbeats 4000000 in
set_option maxRecDepth 100000 in
theorem c_X9_judge (l : Launch) (dC : Nat → ClassId) (dI : Nat → Nat → Nat) (dA : Nat → ClassId) (L : List Nat) (h : hx_h) (sz : Nat) (x : Nat) (a : Int32) (b : Int32) (gx : hx_g L h x 9) (f_x_8 : h.2.1 x 8 = 0) : Met l yX9_judge (Cond.code yX9_judge cX9_judge 4 (some .boolean) :: hx_all) ({ frames := 1, cells := 0, slots := 0, locals := 21 }) (va_Pc [.ref x, .int a, .int b] (hx_B P_tb (P_ty dA) (dC, dI) vwCl L h sz)) (va_Qi (fun (r : Int32) (u : List Nat × hx_h) => (r = 0) ∧ hx_S P_tb [] L h u.1 u.2) (hx_E P_tb (P_ty dA) (dC, dI) vwCl (hx_A L sz)) (hx_A L sz)) 0 0 (hx_A L sz) := by
  refine hx_met (lv := [(0, .ref x), (1, .int a), (2, .int b)]) (by decide +kernel) rfl (Nat.le_of_ble_eq_true rfl) rfl ?_
  intro p e s m below meth c hx hb hml hr hlk hts0 hown hin hsz hW ls hl
  have hts : ∀ w ∈ hx_all, w.before _ s = true := fun w hw => hts0 w (List.mem_cons_of_mem _ hw)
  have hown : s.vm.findClass "SmallCourt" = some m.cls := hown
  have hM : hx_S P_tb [] L h L h := hx_S.rf
  refine lv_aload_n hx hb dX9_judge_0 rfl (lv_at hl 0 rfl) ?_
  refine lv_iload_n hx hb dX9_judge_1 rfl (lv_at hl 1 rfl) ?_
  refine hx_goq (hx_runV (As := [.int a]) (rest := []) ⟨hx, hb, hml, hown, hts⟩ hW gx td_9 (T := TX9) (N := 20) rfl (c_X9_personAt l dC dI dA L h s.heap.size x a gx f_x_8) (cwV 1 hts (hx_gV kw_659 kw_656 kw_658 kw_20 kw_94) rfl rfl rfl (by decide +kernel) ⟨Nat.le_of_ble_eq_true rfl, Nat.le_of_ble_eq_true rfl⟩) rfl hl.1 rfl (Nat.le_of_ble_eq_true rfl) dX9_judge_2 ⟨Nat.le_of_ble_eq_true rfl, Nat.le_of_ble_eq_true rfl⟩) hW (fun r_3 L_1 h_2 H locs p_4 hW => ?_)
  obtain ⟨rfl, eu⟩ := p_4
  cases eu
  refine lv_astore_nN (lv' := [(3, .null), (0, .ref x), (1, .int a), (2, .int b)]) hx hb dX9_judge_5 rfl hl (by decide) rfl (fun ls hl => ?_)
  refine lv_aload_nN hx hb dX9_judge_6 rfl (lv_at hl 0 rfl) ?_
  refine lv_ifnullN (tgt := 18) hx hb dX9_judge_7 (by decide) ?_
  refine lv_iconst (v := 0) hx hb dX9_judge_18 (by decide) ?_
  exact hx_retz hx hb hr rfl hlk hW ⟨rfl, hM⟩ dX9_judge_19

theorem dX9_book_0 : decode cX9_book 0 = .ok (.aload_n 0, 1) := by decide +kernel
theorem dX9_book_1 : decode cX9_book 1 = .ok (.iload_n 1, 1) := by decide +kernel
theorem dX9_book_2 : decode cX9_book 2 = .ok (.iload_n 2, 1) := by decide +kernel
theorem dX9_book_3 : decode cX9_book 3 = .ok (.invokevirtual 161, 3) := by decide +kernel
theorem dX9_book_6 : decode cX9_book 6 = .ok (.ifCond .eq 10, 3) := by decide +kernel
theorem dX9_book_16 : decode cX9_book 16 = .ok (.ldc 169, 2) := by decide +kernel
theorem dX9_book_18 : decode cX9_book 18 = .ok (.ireturn, 1) := by decide +kernel
set_option maxHeartbeats 4000000 in
set_option maxRecDepth 100000 in
theorem c_X9_book (l : Launch) (dC : Nat → ClassId) (dI : Nat → Nat → Nat) (dA : Nat → ClassId) (L : List Nat) (h : hx_h) (sz : Nat) (x : Nat) (a : Int32) (b : Int32) (u : Int32) (v : Int32) (gx : hx_g L h x 9) (f_x_8 : h.2.1 x 8 = 0) : Met l yX9_book (Cond.code yX9_book cX9_book 5 (some .int) :: hx_all) ({ frames := 2, cells := 0, slots := 0, locals := 43 }) (va_Pc [.ref x, .int a, .int b, .int u, .int v] (hx_B P_tb (P_ty dA) (dC, dI) vwCl L h sz)) (va_Qi (fun (r : Int32) (u : List Nat × hx_h) => (r = -1000000) ∧ hx_S P_tb [] L h u.1 u.2) (hx_E P_tb (P_ty dA) (dC, dI) vwCl (hx_A L sz)) (hx_A L sz)) 0 0 (hx_A L sz) := by
  refine hx_met (lv := [(0, .ref x), (1, .int a), (2, .int b), (3, .int u), (4, .int v)]) (by decide +kernel) rfl (Nat.le_of_ble_eq_true rfl) rfl ?_
  intro p e s m below meth c hx hb hml hr hlk hts0 hown hin hsz hW ls hl
  have hts : ∀ w ∈ hx_all, w.before _ s = true := fun w hw => hts0 w (List.mem_cons_of_mem _ hw)
  have hown : s.vm.findClass "SmallCourt" = some m.cls := hown
  have hM : hx_S P_tb [] L h L h := hx_S.rf
  refine lv_aload_n hx hb dX9_book_0 rfl (lv_at hl 0 rfl) ?_
  refine lv_iload_n hx hb dX9_book_1 rfl (lv_at hl 1 rfl) ?_
  refine lv_iload_n hx hb dX9_book_2 rfl (lv_at hl 2 rfl) ?_
  refine hx_goi (hx_runV (As := [.int a, .int b]) (rest := []) ⟨hx, hb, hml, hown, hts⟩ hW gx td_9 (T := TX9) (N := 20) rfl (c_X9_areTwo l dC dI dA L h s.heap.size x a b gx f_x_8) (cwV 2 hts (hx_gV kw_675 kw_672 kw_674 kw_21 kw_94) rfl rfl rfl (by decide +kernel) ⟨Nat.le_of_ble_eq_true rfl, Nat.le_of_ble_eq_true rfl⟩) rfl hl.1 rfl (Nat.le_of_ble_eq_true rfl) dX9_book_3 ⟨Nat.le_of_ble_eq_true rfl, Nat.le_of_ble_eq_true rfl⟩) hW (fun r_3 L_1 h_2 H locs p_4 hW => ?_)
  obtain ⟨p_4, eu⟩ := p_4
  cases eu
  rcases p_4 with ⟨kp_4, rfl⟩ | ⟨kp_4, rfl⟩
  · exfalso
    omega
  · skip
    refine hb_if_eq (tgt := 16) hx hb (by decide) dX9_book_6 (by decide) (fun c_5 => ?_) (fun c_5 => absurd c_5 (by decide))
    refine lv_ldc (v := -1000000) hx hb hown (hts _ kw_684) dX9_book_16 ?_
    exact hx_reti hx hb hr hlk hW ⟨rfl, hM⟩ dX9_book_18

theorem dX9_summons_0 : decode cX9_summons 0 = .ok (.aload_n 0, 1) := by decide +kernel
theorem dX9_summons_1 : decode cX9_summons 1 = .ok (.iload_n 1, 1) := by decide +kernel
theorem dX9_summons_2 : decode cX9_summons 2 = .ok (.invokevirtual 200, 3) := by decide +kernel
theorem dX9_summons_5 : decode cX9_summons 5 = .ok (.astore_n 3, 1) := by decide +kernel
theorem dX9_summons_6 : decode cX9_summons 6 = .ok (.aload_n 3, 1) := by decide +kernel
theorem dX9_summons_7 : decode cX9_summons 7 = .ok (.ifnull 11, 3) := by decide +kernel
theorem dX9_summons_18 : decode cX9_summons 18 = .ok (.iconst (-1), 1) := by decide +kernel
theorem dX9_summons_19 : decode cX9_summons 19 = .ok (.ireturn, 1) := by decide +kernel
set_option maxHeartbeats 4000000 in
set_option maxRecDepth 100000 in
theorem c_X9_summons (l : Launch) (dC : Nat → ClassId) (dI : Nat → Nat → Nat) (dA : Nat → ClassId) (L : List Nat) (h : hx_h) (sz : Nat) (x : Nat) (a : Int32) (b : Int32) (gx : hx_g L h x 9) (f_x_11 : h.2.1 x 11 = 0) : Met l yX9_summons (Cond.code yX9_summons cX9_summons 4 (some .int) :: hx_all) ({ frames := 1, cells := 0, slots := 0, locals := 21 }) (va_Pc [.ref x, .int a, .int b] (hx_B P_tb (P_ty dA) (dC, dI) vwCl L h sz)) (va_Qi (fun (r : Int32) (u : List Nat × hx_h) => (r = -1) ∧ hx_S P_tb [] L h u.1 u.2) (hx_E P_tb (P_ty dA) (dC, dI) vwCl (hx_A L sz)) (hx_A L sz)) 0 0 (hx_A L sz) := by
  refine hx_met (lv := [(0, .ref x), (1, .int a), (2, .int b)]) (by decide +kernel) rfl (Nat.le_of_ble_eq_true rfl) rfl ?_
  intro p e s m below meth c hx hb hml hr hlk hts0 hown hin hsz hW ls hl
  have hts : ∀ w ∈ hx_all, w.before _ s = true := fun w hw => hts0 w (List.mem_cons_of_mem _ hw)
  have hown : s.vm.findClass "SmallCourt" = some m.cls := hown
  have hM : hx_S P_tb [] L h L h := hx_S.rf
  refine lv_aload_n hx hb dX9_summons_0 rfl (lv_at hl 0 rfl) ?_
  refine lv_iload_n hx hb dX9_summons_1 rfl (lv_at hl 1 rfl) ?_
  refine hx_goq (hx_runV (As := [.int a]) (rest := []) ⟨hx, hb, hml, hown, hts⟩ hW gx td_9 (T := TX9) (N := 20) rfl (c_X9_claimAt l dC dI dA L h s.heap.size x a gx f_x_11) (cwV 1 hts (hx_gV kw_810 kw_807 kw_809 kw_25 kw_94) rfl rfl rfl (by decide +kernel) ⟨Nat.le_of_ble_eq_true rfl, Nat.le_of_ble_eq_true rfl⟩) rfl hl.1 rfl (Nat.le_of_ble_eq_true rfl) dX9_summons_2 ⟨Nat.le_of_ble_eq_true rfl, Nat.le_of_ble_eq_true rfl⟩) hW (fun r_3 L_1 h_2 H locs p_4 hW => ?_)
  obtain ⟨rfl, eu⟩ := p_4
  cases eu
  refine lv_astore_nN (lv' := [(3, .null), (0, .ref x), (1, .int a), (2, .int b)]) hx hb dX9_summons_5 rfl hl (by decide) rfl (fun ls hl => ?_)
  refine lv_aload_nN hx hb dX9_summons_6 rfl (lv_at hl 0 rfl) ?_
  refine lv_ifnullN (tgt := 18) hx hb dX9_summons_7 (by decide) ?_
  refine lv_iconst (v := -1) hx hb dX9_summons_18 (by decide) ?_
  exact hx_reti hx hb hr hlk hW ⟨rfl, hM⟩ dX9_summons_19

theorem dX9_hear_0 : decode cX9_hear 0 = .ok (.aload_n 0, 1) := by decide +kernel
theorem dX9_hear_1 : decode cX9_hear 1 = .ok (.iload_n 1, 1) := by decide +kernel
theorem dX9_hear_2 : decode cX9_hear 2 = .ok (.invokevirtual 200, 3) := by decide +kernel
theorem dX9_hear_5 : decode cX9_hear 5 = .ok (.astore 5, 2) := by decide +kernel
theorem dX9_hear_7 : decode cX9_hear 7 = .ok (.aload 5, 2) := by decide +kernel
theorem dX9_hear_9 : decode cX9_hear 9 = .ok (.ifnull 57, 3) := by decide +kernel
theorem dX9_hear_66 : decode cX9_hear 66 = .ok (.iconst (-1), 1) := by decide +kernel
theorem dX9_hear_67 : decode cX9_hear 67 = .ok (.ireturn, 1) := by decide +kernel
set_option maxHeartbeats 4000000 in
set_option maxRecDepth 100000 in
theorem c_X9_hear (l : Launch) (dC : Nat → ClassId) (dI : Nat → Nat → Nat) (dA : Nat → ClassId) (L : List Nat) (h : hx_h) (sz : Nat) (x : Nat) (a : Int32) (b : Int32) (u : Int32) (v : Int32) (gx : hx_g L h x 9) (f_x_11 : h.2.1 x 11 = 0) : Met l yX9_hear (Cond.code yX9_hear cX9_hear 8 (some .int) :: hx_all) ({ frames := 1, cells := 0, slots := 0, locals := 21 }) (va_Pc [.ref x, .int a, .int b, .int u, .int v] (hx_B P_tb (P_ty dA) (dC, dI) vwCl L h sz)) (va_Qi (fun (r : Int32) (u : List Nat × hx_h) => (r = -1) ∧ hx_S P_tb [] L h u.1 u.2) (hx_E P_tb (P_ty dA) (dC, dI) vwCl (hx_A L sz)) (hx_A L sz)) 0 0 (hx_A L sz) := by
  refine hx_met (lv := [(0, .ref x), (1, .int a), (2, .int b), (3, .int u), (4, .int v)]) (by decide +kernel) rfl (Nat.le_of_ble_eq_true rfl) rfl ?_
  intro p e s m below meth c hx hb hml hr hlk hts0 hown hin hsz hW ls hl
  have hts : ∀ w ∈ hx_all, w.before _ s = true := fun w hw => hts0 w (List.mem_cons_of_mem _ hw)
  have hown : s.vm.findClass "SmallCourt" = some m.cls := hown
  have hM : hx_S P_tb [] L h L h := hx_S.rf
  refine lv_aload_n hx hb dX9_hear_0 rfl (lv_at hl 0 rfl) ?_
  refine lv_iload_n hx hb dX9_hear_1 rfl (lv_at hl 1 rfl) ?_
  refine hx_goq (hx_runV (As := [.int a]) (rest := []) ⟨hx, hb, hml, hown, hts⟩ hW gx td_9 (T := TX9) (N := 20) rfl (c_X9_claimAt l dC dI dA L h s.heap.size x a gx f_x_11) (cwV 1 hts (hx_gV kw_810 kw_807 kw_809 kw_25 kw_94) rfl rfl rfl (by decide +kernel) ⟨Nat.le_of_ble_eq_true rfl, Nat.le_of_ble_eq_true rfl⟩) rfl hl.1 rfl (Nat.le_of_ble_eq_true rfl) dX9_hear_2 ⟨Nat.le_of_ble_eq_true rfl, Nat.le_of_ble_eq_true rfl⟩) hW (fun r_3 L_1 h_2 H locs p_4 hW => ?_)
  obtain ⟨rfl, eu⟩ := p_4
  cases eu
  refine lv_astoreN (lv' := [(5, .null), (0, .ref x), (1, .int a), (2, .int b), (3, .int u), (4, .int v)]) hx hb dX9_hear_5 hl (by decide) rfl (fun ls hl => ?_)
  refine lv_aloadN hx hb dX9_hear_7 (lv_at hl 0 rfl) ?_
  refine lv_ifnullN (tgt := 66) hx hb dX9_hear_9 (by decide) ?_
  refine lv_iconst (v := -1) hx hb dX9_hear_66 (by decide) ?_
  exact hx_reti hx hb hr hlk hW ⟨rfl, hM⟩ dX9_hear_67

theorem dX9_order_0 : decode cX9_order 0 = .ok (.aload_n 0, 1) := by decide +kernel
theorem dX9_order_1 : decode cX9_order 1 = .ok (.iload_n 1, 1) := by decide +kernel
theorem dX9_order_2 : decode cX9_order 2 = .ok (.invokevirtual 200, 3) := by decide +kernel
theorem dX9_order_5 : decode cX9_order 5 = .ok (.astore_n 3, 1) := by decide +kernel
theorem dX9_order_6 : decode cX9_order 6 = .ok (.aload_n 3, 1) := by decide +kernel
theorem dX9_order_7 : decode cX9_order 7 = .ok (.ifnull 40, 3) := by decide +kernel
theorem dX9_order_47 : decode cX9_order 47 = .ok (.iconst (-1), 1) := by decide +kernel
theorem dX9_order_48 : decode cX9_order 48 = .ok (.ireturn, 1) := by decide +kernel
set_option maxHeartbeats 4000000 in
set_option maxRecDepth 100000 in
theorem c_X9_order (l : Launch) (dC : Nat → ClassId) (dI : Nat → Nat → Nat) (dA : Nat → ClassId) (L : List Nat) (h : hx_h) (sz : Nat) (x : Nat) (a : Int32) (b : Int32) (gx : hx_g L h x 9) (f_x_11 : h.2.1 x 11 = 0) : Met l yX9_order (Cond.code yX9_order cX9_order 5 (some .int) :: hx_all) ({ frames := 1, cells := 0, slots := 0, locals := 21 }) (va_Pc [.ref x, .int a, .int b] (hx_B P_tb (P_ty dA) (dC, dI) vwCl L h sz)) (va_Qi (fun (r : Int32) (u : List Nat × hx_h) => (r = -1) ∧ hx_S P_tb [] L h u.1 u.2) (hx_E P_tb (P_ty dA) (dC, dI) vwCl (hx_A L sz)) (hx_A L sz)) 0 0 (hx_A L sz) := by
  refine hx_met (lv := [(0, .ref x), (1, .int a), (2, .int b)]) (by decide +kernel) rfl (Nat.le_of_ble_eq_true rfl) rfl ?_
  intro p e s m below meth c hx hb hml hr hlk hts0 hown hin hsz hW ls hl
  have hts : ∀ w ∈ hx_all, w.before _ s = true := fun w hw => hts0 w (List.mem_cons_of_mem _ hw)
  have hown : s.vm.findClass "SmallCourt" = some m.cls := hown
  have hM : hx_S P_tb [] L h L h := hx_S.rf
  refine lv_aload_n hx hb dX9_order_0 rfl (lv_at hl 0 rfl) ?_
  refine lv_iload_n hx hb dX9_order_1 rfl (lv_at hl 1 rfl) ?_
  refine hx_goq (hx_runV (As := [.int a]) (rest := []) ⟨hx, hb, hml, hown, hts⟩ hW gx td_9 (T := TX9) (N := 20) rfl (c_X9_claimAt l dC dI dA L h s.heap.size x a gx f_x_11) (cwV 1 hts (hx_gV kw_810 kw_807 kw_809 kw_25 kw_94) rfl rfl rfl (by decide +kernel) ⟨Nat.le_of_ble_eq_true rfl, Nat.le_of_ble_eq_true rfl⟩) rfl hl.1 rfl (Nat.le_of_ble_eq_true rfl) dX9_order_2 ⟨Nat.le_of_ble_eq_true rfl, Nat.le_of_ble_eq_true rfl⟩) hW (fun r_3 L_1 h_2 H locs p_4 hW => ?_)
  obtain ⟨rfl, eu⟩ := p_4
  cases eu
  refine lv_astore_nN (lv' := [(3, .null), (0, .ref x), (1, .int a), (2, .int b)]) hx hb dX9_order_5 rfl hl (by decide) rfl (fun ls hl => ?_)
  refine lv_aload_nN hx hb dX9_order_6 rfl (lv_at hl 0 rfl) ?_
  refine lv_ifnullN (tgt := 47) hx hb dX9_order_7 (by decide) ?_
  refine lv_iconst (v := -1) hx hb dX9_order_47 (by decide) ?_
  exact hx_reti hx hb hr hlk hW ⟨rfl, hM⟩ dX9_order_48

theorem dX9_seize_0 : decode cX9_seize 0 = .ok (.aload_n 0, 1) := by decide +kernel
theorem dX9_seize_1 : decode cX9_seize 1 = .ok (.iload_n 1, 1) := by decide +kernel
theorem dX9_seize_2 : decode cX9_seize 2 = .ok (.invokevirtual 200, 3) := by decide +kernel
theorem dX9_seize_5 : decode cX9_seize 5 = .ok (.astore_n 3, 1) := by decide +kernel
theorem dX9_seize_6 : decode cX9_seize 6 = .ok (.aload_n 3, 1) := by decide +kernel
theorem dX9_seize_7 : decode cX9_seize 7 = .ok (.ifnull 22, 3) := by decide +kernel
theorem dX9_seize_29 : decode cX9_seize 29 = .ok (.ldc 169, 2) := by decide +kernel
theorem dX9_seize_31 : decode cX9_seize 31 = .ok (.ireturn, 1) := by decide +kernel
set_option maxHeartbeats 4000000 in
set_option maxRecDepth 100000 in
theorem c_X9_seize (l : Launch) (dC : Nat → ClassId) (dI : Nat → Nat → Nat) (dA : Nat → ClassId) (L : List Nat) (h : hx_h) (sz : Nat) (x : Nat) (a : Int32) (b : Int32) (gx : hx_g L h x 9) (f_x_11 : h.2.1 x 11 = 0) : Met l yX9_seize (Cond.code yX9_seize cX9_seize 5 (some .int) :: hx_all) ({ frames := 1, cells := 0, slots := 0, locals := 21 }) (va_Pc [.ref x, .int a, .int b] (hx_B P_tb (P_ty dA) (dC, dI) vwCl L h sz)) (va_Qi (fun (r : Int32) (u : List Nat × hx_h) => (r = -1000000) ∧ hx_S P_tb [] L h u.1 u.2) (hx_E P_tb (P_ty dA) (dC, dI) vwCl (hx_A L sz)) (hx_A L sz)) 0 0 (hx_A L sz) := by
  refine hx_met (lv := [(0, .ref x), (1, .int a), (2, .int b)]) (by decide +kernel) rfl (Nat.le_of_ble_eq_true rfl) rfl ?_
  intro p e s m below meth c hx hb hml hr hlk hts0 hown hin hsz hW ls hl
  have hts : ∀ w ∈ hx_all, w.before _ s = true := fun w hw => hts0 w (List.mem_cons_of_mem _ hw)
  have hown : s.vm.findClass "SmallCourt" = some m.cls := hown
  have hM : hx_S P_tb [] L h L h := hx_S.rf
  refine lv_aload_n hx hb dX9_seize_0 rfl (lv_at hl 0 rfl) ?_
  refine lv_iload_n hx hb dX9_seize_1 rfl (lv_at hl 1 rfl) ?_
  refine hx_goq (hx_runV (As := [.int a]) (rest := []) ⟨hx, hb, hml, hown, hts⟩ hW gx td_9 (T := TX9) (N := 20) rfl (c_X9_claimAt l dC dI dA L h s.heap.size x a gx f_x_11) (cwV 1 hts (hx_gV kw_810 kw_807 kw_809 kw_25 kw_94) rfl rfl rfl (by decide +kernel) ⟨Nat.le_of_ble_eq_true rfl, Nat.le_of_ble_eq_true rfl⟩) rfl hl.1 rfl (Nat.le_of_ble_eq_true rfl) dX9_seize_2 ⟨Nat.le_of_ble_eq_true rfl, Nat.le_of_ble_eq_true rfl⟩) hW (fun r_3 L_1 h_2 H locs p_4 hW => ?_)
  obtain ⟨rfl, eu⟩ := p_4
  cases eu
  refine lv_astore_nN (lv' := [(3, .null), (0, .ref x), (1, .int a), (2, .int b)]) hx hb dX9_seize_5 rfl hl (by decide) rfl (fun ls hl => ?_)
  refine lv_aload_nN hx hb dX9_seize_6 rfl (lv_at hl 0 rfl) ?_
  refine lv_ifnullN (tgt := 29) hx hb dX9_seize_7 (by decide) ?_
  refine lv_ldc (v := -1000000) hx hb hown (hts _ kw_684) dX9_seize_29 ?_
  exact hx_reti hx hb hr hlk hW ⟨rfl, hM⟩ dX9_seize_31

theorem dX9_gaol_0 : decode cX9_gaol 0 = .ok (.aload_n 0, 1) := by decide +kernel
theorem dX9_gaol_1 : decode cX9_gaol 1 = .ok (.iload_n 1, 1) := by decide +kernel
theorem dX9_gaol_2 : decode cX9_gaol 2 = .ok (.invokevirtual 200, 3) := by decide +kernel
theorem dX9_gaol_5 : decode cX9_gaol 5 = .ok (.astore_n 2, 1) := by decide +kernel
theorem dX9_gaol_6 : decode cX9_gaol 6 = .ok (.aload_n 2, 1) := by decide +kernel
theorem dX9_gaol_7 : decode cX9_gaol 7 = .ok (.ifnull 42, 3) := by decide +kernel
theorem dX9_gaol_49 : decode cX9_gaol 49 = .ok (.iconst (-1), 1) := by decide +kernel
theorem dX9_gaol_50 : decode cX9_gaol 50 = .ok (.ireturn, 1) := by decide +kernel
set_option maxHeartbeats 4000000 in
set_option maxRecDepth 100000 in
theorem c_X9_gaol (l : Launch) (dC : Nat → ClassId) (dI : Nat → Nat → Nat) (dA : Nat → ClassId) (L : List Nat) (h : hx_h) (sz : Nat) (x : Nat) (a : Int32) (gx : hx_g L h x 9) (f_x_11 : h.2.1 x 11 = 0) : Met l yX9_gaol (Cond.code yX9_gaol cX9_gaol 4 (some .int) :: hx_all) ({ frames := 1, cells := 0, slots := 0, locals := 21 }) (va_Pc [.ref x, .int a] (hx_B P_tb (P_ty dA) (dC, dI) vwCl L h sz)) (va_Qi (fun (r : Int32) (u : List Nat × hx_h) => (r = -1) ∧ hx_S P_tb [] L h u.1 u.2) (hx_E P_tb (P_ty dA) (dC, dI) vwCl (hx_A L sz)) (hx_A L sz)) 0 0 (hx_A L sz) := by
  refine hx_met (lv := [(0, .ref x), (1, .int a)]) (by decide +kernel) rfl (Nat.le_of_ble_eq_true rfl) rfl ?_
  intro p e s m below meth c hx hb hml hr hlk hts0 hown hin hsz hW ls hl
  have hts : ∀ w ∈ hx_all, w.before _ s = true := fun w hw => hts0 w (List.mem_cons_of_mem _ hw)
  have hown : s.vm.findClass "SmallCourt" = some m.cls := hown
  have hM : hx_S P_tb [] L h L h := hx_S.rf
  refine lv_aload_n hx hb dX9_gaol_0 rfl (lv_at hl 0 rfl) ?_
  refine lv_iload_n hx hb dX9_gaol_1 rfl (lv_at hl 1 rfl) ?_
  refine hx_goq (hx_runV (As := [.int a]) (rest := []) ⟨hx, hb, hml, hown, hts⟩ hW gx td_9 (T := TX9) (N := 20) rfl (c_X9_claimAt l dC dI dA L h s.heap.size x a gx f_x_11) (cwV 1 hts (hx_gV kw_810 kw_807 kw_809 kw_25 kw_94) rfl rfl rfl (by decide +kernel) ⟨Nat.le_of_ble_eq_true rfl, Nat.le_of_ble_eq_true rfl⟩) rfl hl.1 rfl (Nat.le_of_ble_eq_true rfl) dX9_gaol_2 ⟨Nat.le_of_ble_eq_true rfl, Nat.le_of_ble_eq_true rfl⟩) hW (fun r_3 L_1 h_2 H locs p_4 hW => ?_)
  obtain ⟨rfl, eu⟩ := p_4
  cases eu
  refine lv_astore_nN (lv' := [(2, .null), (0, .ref x), (1, .int a)]) hx hb dX9_gaol_5 rfl hl (by decide) rfl (fun ls hl => ?_)
  refine lv_aload_nN hx hb dX9_gaol_6 rfl (lv_at hl 0 rfl) ?_
  refine lv_ifnullN (tgt := 49) hx hb dX9_gaol_7 (by decide) ?_
  refine lv_iconst (v := -1) hx hb dX9_gaol_49 (by decide) ?_
  exact hx_reti hx hb hr hlk hW ⟨rfl, hM⟩ dX9_gaol_50

theorem dX9_claim_0 : decode cX9_claim 0 = .ok (.aload_n 0, 1) := by decide +kernel
theorem dX9_claim_1 : decode cX9_claim 1 = .ok (.iload_n 1, 1) := by decide +kernel
theorem dX9_claim_2 : decode cX9_claim 2 = .ok (.invokevirtual 200, 3) := by decide +kernel
theorem dX9_claim_5 : decode cX9_claim 5 = .ok (.astore_n 3, 1) := by decide +kernel
theorem dX9_claim_6 : decode cX9_claim 6 = .ok (.aload_n 3, 1) := by decide +kernel
theorem dX9_claim_7 : decode cX9_claim 7 = .ok (.ifnonnull 5, 3) := by decide +kernel
theorem dX9_claim_10 : decode cX9_claim 10 = .ok (.iconst (-1), 1) := by decide +kernel
theorem dX9_claim_11 : decode cX9_claim 11 = .ok (.ireturn, 1) := by decide +kernel
set_option maxHeartbeats 4000000 in
set_option maxRecDepth 100000 in
theorem c_X9_claim (l : Launch) (dC : Nat → ClassId) (dI : Nat → Nat → Nat) (dA : Nat → ClassId) (L : List Nat) (h : hx_h) (sz : Nat) (x : Nat) (a : Int32) (b : Int32) (gx : hx_g L h x 9) (f_x_11 : h.2.1 x 11 = 0) : Met l yX9_claim (Cond.code yX9_claim cX9_claim 4 (some .int) :: hx_all) ({ frames := 1, cells := 0, slots := 0, locals := 21 }) (va_Pc [.ref x, .int a, .int b] (hx_B P_tb (P_ty dA) (dC, dI) vwCl L h sz)) (va_Qi (fun (r : Int32) (u : List Nat × hx_h) => (r = -1) ∧ hx_S P_tb [] L h u.1 u.2) (hx_E P_tb (P_ty dA) (dC, dI) vwCl (hx_A L sz)) (hx_A L sz)) 0 0 (hx_A L sz) := by
  refine hx_met (lv := [(0, .ref x), (1, .int a), (2, .int b)]) (by decide +kernel) rfl (Nat.le_of_ble_eq_true rfl) rfl ?_
  intro p e s m below meth c hx hb hml hr hlk hts0 hown hin hsz hW ls hl
  have hts : ∀ w ∈ hx_all, w.before _ s = true := fun w hw => hts0 w (List.mem_cons_of_mem _ hw)
  have hown : s.vm.findClass "SmallCourt" = some m.cls := hown
  have hM : hx_S P_tb [] L h L h := hx_S.rf
  refine lv_aload_n hx hb dX9_claim_0 rfl (lv_at hl 0 rfl) ?_
  refine lv_iload_n hx hb dX9_claim_1 rfl (lv_at hl 1 rfl) ?_
  refine hx_goq (hx_runV (As := [.int a]) (rest := []) ⟨hx, hb, hml, hown, hts⟩ hW gx td_9 (T := TX9) (N := 20) rfl (c_X9_claimAt l dC dI dA L h s.heap.size x a gx f_x_11) (cwV 1 hts (hx_gV kw_810 kw_807 kw_809 kw_25 kw_94) rfl rfl rfl (by decide +kernel) ⟨Nat.le_of_ble_eq_true rfl, Nat.le_of_ble_eq_true rfl⟩) rfl hl.1 rfl (Nat.le_of_ble_eq_true rfl) dX9_claim_2 ⟨Nat.le_of_ble_eq_true rfl, Nat.le_of_ble_eq_true rfl⟩) hW (fun r_3 L_1 h_2 H locs p_4 hW => ?_)
  obtain ⟨rfl, eu⟩ := p_4
  cases eu
  refine lv_astore_nN (lv' := [(3, .null), (0, .ref x), (1, .int a), (2, .int b)]) hx hb dX9_claim_5 rfl hl (by decide) rfl (fun ls hl => ?_)
  refine lv_aload_nN hx hb dX9_claim_6 rfl (lv_at hl 0 rfl) ?_
  refine lv_ifnonnullN hx hb dX9_claim_7 ?_
  refine lv_iconst (v := -1) hx hb dX9_claim_10 (by decide) ?_
  exact hx_reti hx hb hr hlk hW ⟨rfl, hM⟩ dX9_claim_11

theorem dX9_state_0 : decode cX9_state 0 = .ok (.aload_n 0, 1) := by decide +kernel
theorem dX9_state_1 : decode cX9_state 1 = .ok (.iload_n 1, 1) := by decide +kernel
theorem dX9_state_2 : decode cX9_state 2 = .ok (.invokevirtual 200, 3) := by decide +kernel
theorem dX9_state_5 : decode cX9_state 5 = .ok (.astore 5, 2) := by decide +kernel
theorem dX9_state_7 : decode cX9_state 7 = .ok (.aload 5, 2) := by decide +kernel
theorem dX9_state_9 : decode cX9_state 9 = .ok (.ifnull 33, 3) := by decide +kernel
theorem dX9_state_42 : decode cX9_state 42 = .ok (.iconst (-1), 1) := by decide +kernel
theorem dX9_state_43 : decode cX9_state 43 = .ok (.ireturn, 1) := by decide +kernel
set_option maxHeartbeats 4000000 in
set_option maxRecDepth 100000 in
theorem c_X9_state (l : Launch) (dC : Nat → ClassId) (dI : Nat → Nat → Nat) (dA : Nat → ClassId) (L : List Nat) (h : hx_h) (sz : Nat) (x : Nat) (a : Int32) (b : Int32) (u : Int32) (v : Int32) (gx : hx_g L h x 9) (f_x_11 : h.2.1 x 11 = 0) : Met l yX9_state (Cond.code yX9_state cX9_state 6 (some .int) :: hx_all) ({ frames := 1, cells := 0, slots := 0, locals := 21 }) (va_Pc [.ref x, .int a, .int b, .int u, .int v] (hx_B P_tb (P_ty dA) (dC, dI) vwCl L h sz)) (va_Qi (fun (r : Int32) (u : List Nat × hx_h) => (r = -1) ∧ hx_S P_tb [] L h u.1 u.2) (hx_E P_tb (P_ty dA) (dC, dI) vwCl (hx_A L sz)) (hx_A L sz)) 0 0 (hx_A L sz) := by
  refine hx_met (lv := [(0, .ref x), (1, .int a), (2, .int b), (3, .int u), (4, .int v)]) (by decide +kernel) rfl (Nat.le_of_ble_eq_true rfl) rfl ?_
  intro p e s m below meth c hx hb hml hr hlk hts0 hown hin hsz hW ls hl
  have hts : ∀ w ∈ hx_all, w.before _ s = true := fun w hw => hts0 w (List.mem_cons_of_mem _ hw)
  have hown : s.vm.findClass "SmallCourt" = some m.cls := hown
  have hM : hx_S P_tb [] L h L h := hx_S.rf
  refine lv_aload_n hx hb dX9_state_0 rfl (lv_at hl 0 rfl) ?_
  refine lv_iload_n hx hb dX9_state_1 rfl (lv_at hl 1 rfl) ?_
  refine hx_goq (hx_runV (As := [.int a]) (rest := []) ⟨hx, hb, hml, hown, hts⟩ hW gx td_9 (T := TX9) (N := 20) rfl (c_X9_claimAt l dC dI dA L h s.heap.size x a gx f_x_11) (cwV 1 hts (hx_gV kw_810 kw_807 kw_809 kw_25 kw_94) rfl rfl rfl (by decide +kernel) ⟨Nat.le_of_ble_eq_true rfl, Nat.le_of_ble_eq_true rfl⟩) rfl hl.1 rfl (Nat.le_of_ble_eq_true rfl) dX9_state_2 ⟨Nat.le_of_ble_eq_true rfl, Nat.le_of_ble_eq_true rfl⟩) hW (fun r_3 L_1 h_2 H locs p_4 hW => ?_)
  obtain ⟨rfl, eu⟩ := p_4
  cases eu
  refine lv_astoreN (lv' := [(5, .null), (0, .ref x), (1, .int a), (2, .int b), (3, .int u), (4, .int v)]) hx hb dX9_state_5 hl (by decide) rfl (fun ls hl => ?_)
  refine lv_aloadN hx hb dX9_state_7 (lv_at hl 0 rfl) ?_
  refine lv_ifnullN (tgt := 42) hx hb dX9_state_9 (by decide) ?_
  refine lv_iconst (v := -1) hx hb dX9_state_42 (by decide) ?_
  exact hx_reti hx hb hr hlk hW ⟨rfl, hM⟩ dX9_state_43

theorem dX9_plan_0 : decode cX9_plan 0 = .ok (.aload_n 0, 1) := by decide +kernel
theorem dX9_plan_1 : decode cX9_plan 1 = .ok (.iload_n 1, 1) := by decide +kernel
theorem dX9_plan_2 : decode cX9_plan 2 = .ok (.invokevirtual 144, 3) := by decide +kernel
theorem dX9_plan_5 : decode cX9_plan 5 = .ok (.astore_n 3, 1) := by decide +kernel
theorem dX9_plan_6 : decode cX9_plan 6 = .ok (.aload_n 3, 1) := by decide +kernel
theorem dX9_plan_7 : decode cX9_plan 7 = .ok (.ifnull 13, 3) := by decide +kernel
theorem dX9_plan_20 : decode cX9_plan 20 = .ok (.iconst (-1), 1) := by decide +kernel
theorem dX9_plan_21 : decode cX9_plan 21 = .ok (.ireturn, 1) := by decide +kernel
set_option maxHeartbeats 4000000 in
set_option maxRecDepth 100000 in
theorem c_X9_plan (l : Launch) (dC : Nat → ClassId) (dI : Nat → Nat → Nat) (dA : Nat → ClassId) (L : List Nat) (h : hx_h) (sz : Nat) (x : Nat) (a : Int32) (b : Int32) (gx : hx_g L h x 9) (f_x_8 : h.2.1 x 8 = 0) : Met l yX9_plan (Cond.code yX9_plan cX9_plan 6 (some .int) :: hx_all) ({ frames := 1, cells := 0, slots := 0, locals := 21 }) (va_Pc [.ref x, .int a, .int b] (hx_B P_tb (P_ty dA) (dC, dI) vwCl L h sz)) (va_Qi (fun (r : Int32) (u : List Nat × hx_h) => (r = -1) ∧ hx_S P_tb [] L h u.1 u.2) (hx_E P_tb (P_ty dA) (dC, dI) vwCl (hx_A L sz)) (hx_A L sz)) 0 0 (hx_A L sz) := by
  refine hx_met (lv := [(0, .ref x), (1, .int a), (2, .int b)]) (by decide +kernel) rfl (Nat.le_of_ble_eq_true rfl) rfl ?_
  intro p e s m below meth c hx hb hml hr hlk hts0 hown hin hsz hW ls hl
  have hts : ∀ w ∈ hx_all, w.before _ s = true := fun w hw => hts0 w (List.mem_cons_of_mem _ hw)
  have hown : s.vm.findClass "SmallCourt" = some m.cls := hown
  have hM : hx_S P_tb [] L h L h := hx_S.rf
  refine lv_aload_n hx hb dX9_plan_0 rfl (lv_at hl 0 rfl) ?_
  refine lv_iload_n hx hb dX9_plan_1 rfl (lv_at hl 1 rfl) ?_
  refine hx_goq (hx_runV (As := [.int a]) (rest := []) ⟨hx, hb, hml, hown, hts⟩ hW gx td_9 (T := TX9) (N := 20) rfl (c_X9_personAt l dC dI dA L h s.heap.size x a gx f_x_8) (cwV 1 hts (hx_gV kw_659 kw_656 kw_658 kw_20 kw_94) rfl rfl rfl (by decide +kernel) ⟨Nat.le_of_ble_eq_true rfl, Nat.le_of_ble_eq_true rfl⟩) rfl hl.1 rfl (Nat.le_of_ble_eq_true rfl) dX9_plan_2 ⟨Nat.le_of_ble_eq_true rfl, Nat.le_of_ble_eq_true rfl⟩) hW (fun r_3 L_1 h_2 H locs p_4 hW => ?_)
  obtain ⟨rfl, eu⟩ := p_4
  cases eu
  refine lv_astore_nN (lv' := [(3, .null), (0, .ref x), (1, .int a), (2, .int b)]) hx hb dX9_plan_5 rfl hl (by decide) rfl (fun ls hl => ?_)
  refine lv_aload_nN hx hb dX9_plan_6 rfl (lv_at hl 0 rfl) ?_
  refine lv_ifnullN (tgt := 20) hx hb dX9_plan_7 (by decide) ?_
  refine lv_iconst (v := -1) hx hb dX9_plan_20 (by decide) ?_
  exact hx_reti hx hb hr hlk hW ⟨rfl, hM⟩ dX9_plan_21

theorem dX9_list_0 : decode cX9_list 0 = .ok (.aload_n 0, 1) := by decide +kernel
theorem dX9_list_1 : decode cX9_list 1 = .ok (.iload_n 1, 1) := by decide +kernel
theorem dX9_list_2 : decode cX9_list 2 = .ok (.invokevirtual 200, 3) := by decide +kernel
theorem dX9_list_5 : decode cX9_list 5 = .ok (.astore_n 2, 1) := by decide +kernel
theorem dX9_list_6 : decode cX9_list 6 = .ok (.aload_n 2, 1) := by decide +kernel
theorem dX9_list_7 : decode cX9_list 7 = .ok (.ifnull 34, 3) := by decide +kernel
theorem dX9_list_41 : decode cX9_list 41 = .ok (.iconst (-1), 1) := by decide +kernel
theorem dX9_list_42 : decode cX9_list 42 = .ok (.ireturn, 1) := by decide +kernel
set_option maxHeartbeats 4000000 in
set_option maxRecDepth 100000 in
theorem c_X9_list (l : Launch) (dC : Nat → ClassId) (dI : Nat → Nat → Nat) (dA : Nat → ClassId) (L : List Nat) (h : hx_h) (sz : Nat) (x : Nat) (a : Int32) (gx : hx_g L h x 9) (f_x_11 : h.2.1 x 11 = 0) : Met l yX9_list (Cond.code yX9_list cX9_list 3 (some .int) :: hx_all) ({ frames := 1, cells := 0, slots := 0, locals := 21 }) (va_Pc [.ref x, .int a] (hx_B P_tb (P_ty dA) (dC, dI) vwCl L h sz)) (va_Qi (fun (r : Int32) (u : List Nat × hx_h) => (r = -1) ∧ hx_S P_tb [] L h u.1 u.2) (hx_E P_tb (P_ty dA) (dC, dI) vwCl (hx_A L sz)) (hx_A L sz)) 0 0 (hx_A L sz) := by
  refine hx_met (lv := [(0, .ref x), (1, .int a)]) (by decide +kernel) rfl (Nat.le_of_ble_eq_true rfl) rfl ?_
  intro p e s m below meth c hx hb hml hr hlk hts0 hown hin hsz hW ls hl
  have hts : ∀ w ∈ hx_all, w.before _ s = true := fun w hw => hts0 w (List.mem_cons_of_mem _ hw)
  have hown : s.vm.findClass "SmallCourt" = some m.cls := hown
  have hM : hx_S P_tb [] L h L h := hx_S.rf
  refine lv_aload_n hx hb dX9_list_0 rfl (lv_at hl 0 rfl) ?_
  refine lv_iload_n hx hb dX9_list_1 rfl (lv_at hl 1 rfl) ?_
  refine hx_goq (hx_runV (As := [.int a]) (rest := []) ⟨hx, hb, hml, hown, hts⟩ hW gx td_9 (T := TX9) (N := 20) rfl (c_X9_claimAt l dC dI dA L h s.heap.size x a gx f_x_11) (cwV 1 hts (hx_gV kw_810 kw_807 kw_809 kw_25 kw_94) rfl rfl rfl (by decide +kernel) ⟨Nat.le_of_ble_eq_true rfl, Nat.le_of_ble_eq_true rfl⟩) rfl hl.1 rfl (Nat.le_of_ble_eq_true rfl) dX9_list_2 ⟨Nat.le_of_ble_eq_true rfl, Nat.le_of_ble_eq_true rfl⟩) hW (fun r_3 L_1 h_2 H locs p_4 hW => ?_)
  obtain ⟨rfl, eu⟩ := p_4
  cases eu
  refine lv_astore_nN (lv' := [(2, .null), (0, .ref x), (1, .int a)]) hx hb dX9_list_5 rfl hl (by decide) rfl (fun ls hl => ?_)
  refine lv_aload_nN hx hb dX9_list_6 rfl (lv_at hl 0 rfl) ?_
  refine lv_ifnullN (tgt := 41) hx hb dX9_list_7 (by decide) ?_
  refine lv_iconst (v := -1) hx hb dX9_list_41 (by decide) ?_
  exact hx_reti hx hb hr hlk hW ⟨rfl, hM⟩ dX9_list_42

theorem dX9_habit_0 : decode cX9_habit 0 = .ok (.aload_n 0, 1) := by decide +kernel
theorem dX9_habit_1 : decode cX9_habit 1 = .ok (.iload_n 1, 1) := by decide +kernel
theorem dX9_habit_2 : decode cX9_habit 2 = .ok (.invokevirtual 144, 3) := by decide +kernel
theorem dX9_habit_5 : decode cX9_habit 5 = .ok (.astore_n 3, 1) := by decide +kernel
theorem dX9_habit_6 : decode cX9_habit 6 = .ok (.aload_n 3, 1) := by decide +kernel
theorem dX9_habit_7 : decode cX9_habit 7 = .ok (.ifnull 10, 3) := by decide +kernel
theorem dX9_habit_17 : decode cX9_habit 17 = .ok (.iconst (-1), 1) := by decide +kernel
theorem dX9_habit_18 : decode cX9_habit 18 = .ok (.ireturn, 1) := by decide +kernel
set_option maxHeartbeats 4000000 in
set_option maxRecDepth 100000 in
theorem c_X9_habit (l : Launch) (dC : Nat → ClassId) (dI : Nat → Nat → Nat) (dA : Nat → ClassId) (L : List Nat) (h : hx_h) (sz : Nat) (x : Nat) (a : Int32) (b : Int32) (gx : hx_g L h x 9) (f_x_8 : h.2.1 x 8 = 0) : Met l yX9_habit (Cond.code yX9_habit cX9_habit 7 (some .int) :: hx_all) ({ frames := 1, cells := 0, slots := 0, locals := 21 }) (va_Pc [.ref x, .int a, .int b] (hx_B P_tb (P_ty dA) (dC, dI) vwCl L h sz)) (va_Qi (fun (r : Int32) (u : List Nat × hx_h) => (r = -1) ∧ hx_S P_tb [] L h u.1 u.2) (hx_E P_tb (P_ty dA) (dC, dI) vwCl (hx_A L sz)) (hx_A L sz)) 0 0 (hx_A L sz) := by
  refine hx_met (lv := [(0, .ref x), (1, .int a), (2, .int b)]) (by decide +kernel) rfl (Nat.le_of_ble_eq_true rfl) rfl ?_
  intro p e s m below meth c hx hb hml hr hlk hts0 hown hin hsz hW ls hl
  have hts : ∀ w ∈ hx_all, w.before _ s = true := fun w hw => hts0 w (List.mem_cons_of_mem _ hw)
  have hown : s.vm.findClass "SmallCourt" = some m.cls := hown
  have hM : hx_S P_tb [] L h L h := hx_S.rf
  refine lv_aload_n hx hb dX9_habit_0 rfl (lv_at hl 0 rfl) ?_
  refine lv_iload_n hx hb dX9_habit_1 rfl (lv_at hl 1 rfl) ?_
  refine hx_goq (hx_runV (As := [.int a]) (rest := []) ⟨hx, hb, hml, hown, hts⟩ hW gx td_9 (T := TX9) (N := 20) rfl (c_X9_personAt l dC dI dA L h s.heap.size x a gx f_x_8) (cwV 1 hts (hx_gV kw_659 kw_656 kw_658 kw_20 kw_94) rfl rfl rfl (by decide +kernel) ⟨Nat.le_of_ble_eq_true rfl, Nat.le_of_ble_eq_true rfl⟩) rfl hl.1 rfl (Nat.le_of_ble_eq_true rfl) dX9_habit_2 ⟨Nat.le_of_ble_eq_true rfl, Nat.le_of_ble_eq_true rfl⟩) hW (fun r_3 L_1 h_2 H locs p_4 hW => ?_)
  obtain ⟨rfl, eu⟩ := p_4
  cases eu
  refine lv_astore_nN (lv' := [(3, .null), (0, .ref x), (1, .int a), (2, .int b)]) hx hb dX9_habit_5 rfl hl (by decide) rfl (fun ls hl => ?_)
  refine lv_aload_nN hx hb dX9_habit_6 rfl (lv_at hl 0 rfl) ?_
  refine lv_ifnullN (tgt := 17) hx hb dX9_habit_7 (by decide) ?_
  refine lv_iconst (v := -1) hx hb dX9_habit_17 (by decide) ?_
  exact hx_reti hx hb hr hlk hW ⟨rfl, hM⟩ dX9_habit_18

theorem dX9_end_0 : decode cX9_end 0 = .ok (.iload_n 1, 1) := by decide +kernel
theorem dX9_end_1 : decode cX9_end 1 = .ok (.ifCond .lt 11, 3) := by decide +kernel
theorem dX9_end_4 : decode cX9_end 4 = .ok (.iload_n 1, 1) := by decide +kernel
theorem dX9_end_5 : decode cX9_end 5 = .ok (.aload_n 0, 1) := by decide +kernel
theorem dX9_end_6 : decode cX9_end 6 = .ok (.getfield 98, 3) := by decide +kernel
theorem dX9_end_9 : decode cX9_end 9 = .ok (.if_icmp .le 5, 3) := by decide +kernel
theorem dX9_end_12 : decode cX9_end 12 = .ok (.iconst (-1), 1) := by decide +kernel
theorem dX9_end_13 : decode cX9_end 13 = .ok (.ireturn, 1) := by decide +kernel
theorem dX9_end_14 : decode cX9_end 14 = .ok (.aload_n 0, 1) := by decide +kernel
theorem dX9_end_15 : decode cX9_end 15 = .ok (.iload_n 1, 1) := by decide +kernel
theorem dX9_end_16 : decode cX9_end 16 = .ok (.putfield 98, 3) := by decide +kernel
theorem dX9_end_19 : decode cX9_end 19 = .ok (.iload_n 1, 1) := by decide +kernel
theorem dX9_end_20 : decode cX9_end 20 = .ok (.ireturn, 1) := by decide +kernel
set_option maxHeartbeats 4000000 in
set_option maxRecDepth 100000 in
theorem c_X9_end (l : Launch) (dC : Nat → ClassId) (dI : Nat → Nat → Nat) (dA : Nat → ClassId) (L : List Nat) (h : hx_h) (sz : Nat) (x : Nat) (n : Int32) (gx : hx_g L h x 9) (f_x_1 : h.2.1 x 1 = 0) : Met l yX9_end (Cond.code yX9_end cX9_end 2 (some .int) :: hx_all) ({ frames := 0, cells := 0, slots := 0, locals := 0 }) (va_Pc [.ref x, .int n] (hx_B P_tb (P_ty dA) (dC, dI) vwCl L h sz)) (va_Qi (fun (r : Int32) (u : List Nat × hx_h) => ((n.toInt = 0) ∧ r = 0 ∨ ¬ (n.toInt = 0) ∧ r = -1) ∧ hx_S P_tb [(9, 1)] L h u.1 u.2) (hx_E P_tb (P_ty dA) (dC, dI) vwCl (hx_A L sz)) (hx_A L sz)) 0 0 (hx_A L sz) := by
  refine hx_met (lv := [(0, .ref x), (1, .int n)]) (by decide +kernel) rfl (Nat.le_of_ble_eq_true rfl) rfl ?_
  intro p e s m below meth c hx hb hml hr hlk hts0 hown hin hsz hW ls hl
  have hts : ∀ w ∈ hx_all, w.before _ s = true := fun w hw => hts0 w (List.mem_cons_of_mem _ hw)
  have hown : s.vm.findClass "SmallCourt" = some m.cls := hown
  have hM : hx_S P_tb [(9, 1)] L h L h := hx_S.rf
  refine lv_iload_n hx hb dX9_end_0 rfl (lv_at hl 1 rfl) ?_
  refine hb_if_lt (tgt := 12) hx hb rfl dX9_end_1 (by decide) (fun c_1 => ?_) (fun c_1 => ?_)
  · skip
    refine lv_iconst (v := -1) hx hb dX9_end_12 (by decide) ?_
    exact hx_reti hx hb hr hlk hW ⟨Or.inr ⟨by omega, rfl⟩, hM⟩ dX9_end_13
  · skip
    refine lv_iload_n hx hb dX9_end_4 rfl (lv_at hl 1 rfl) ?_
    refine lv_aload_n hx hb dX9_end_5 rfl (lv_at hl 0 rfl) ?_
    refine hk_geti hx hb hts hC_9 hown hW gx td_9 1 (by decide) rfl kw_365 ⟨rfl, rfl, rfl⟩ f_x_1 dX9_end_6 ?_
    refine hb_icmp_le (tgt := 14) hx hb rfl (by decide) dX9_end_9 (by decide) (fun c_2 => ?_) (fun c_2 => ?_)
    · skip
      refine lv_aload_n hx hb dX9_end_14 rfl (lv_at hl 0 rfl) ?_
      refine lv_iload_n hx hb dX9_end_15 rfl (lv_at hl 1 rfl) ?_
      refine hk_puti hx hb hts hC_9 hown hW gx td_9 1 (by decide) rfl kw_365 ⟨rfl, rfl, rfl⟩ rfl (x := n) rfl rfl rfl dX9_end_16 (fun H locs h_3 eh_3 hW hs => ?_)
      have hM := hM.tr (hs.mono (by decide))
      have gx := gx.S hs
      have f_4 : h_3.2.1 x 1 = n := by rw [eh_3]; exact hx_pi_at _ _ _ _
      refine lv_iload_n hx hb dX9_end_19 rfl (lv_at hl 1 rfl) ?_
      exact hx_reti hx hb hr hlk hW ⟨Or.inr ⟨by omega, rfl⟩, hM⟩ dX9_end_20
    · skip
      refine lv_iconst (v := -1) hx hb dX9_end_12 (by decide) ?_
      exact hx_reti hx hb hr hlk hW ⟨Or.inr ⟨by omega, rfl⟩, hM⟩ dX9_end_13
