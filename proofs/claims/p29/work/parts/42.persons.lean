theorem dX10_isPerson_0 : decode cX10_isPerson 0 = .ok (.iload_n 1, 1) := by decide +kernel
theorem dX10_isPerson_1 : decode cX10_isPerson 1 = .ok (.iconst 0, 1) := by decide +kernel
theorem dX10_isPerson_2 : decode cX10_isPerson 2 = .ok (.aload_n 0, 1) := by decide +kernel
theorem dX10_isPerson_3 : decode cX10_isPerson 3 = .ok (.getfield 337, 3) := by decide +kernel
theorem dX10_isPerson_6 : decode cX10_isPerson 6 = .ok (.iconst 1, 1) := by decide +kernel
theorem dX10_isPerson_7 : decode cX10_isPerson 7 = .ok (.isub, 1) := by decide +kernel
theorem dX10_isPerson_8 : decode cX10_isPerson 8 = .ok (.invokestatic 228, 3) := by decide +kernel
theorem dX10_isPerson_11 : decode cX10_isPerson 11 = .ok (.ireturn, 1) := by decide +kernel
set_option maxHeartbeats 4000000 in
set_option maxRecDepth 100000 in
theorem t_X10_isPerson (l : Launch) (dC : Nat → ClassId) (dI : Nat → Nat → Nat) (dA : Nat → ClassId) (L : List Nat) (h : hx_h) (sz : Nat) (x : Nat) (i1 : Int32) (hT : hx_T T_tb L h) (gx : hx_g L h x 10) (p0 : Int32) (f_x_20 : h.2.1 x 20 = p0) : Met l yX10_isPerson (Cond.code yX10_isPerson cX10_isPerson 2 (some .boolean) :: hx_all) ({ frames := 1, cells := 0, slots := 0, locals := 22 }) (va_Pc [.ref x, .int i1] (hx_B T_tb (P_ty dA) (dC, dI) vwCl L h sz)) (va_Qi (fun (r : Int32) (u : List Nat × hx_h) => ((r.toInt = 0 ∧ (i1.toInt < 0 ∨ p0.toInt ≤ i1.toInt)) ∨ (r.toInt = 1 ∧ 0 ≤ i1.toInt ∧ i1.toInt < p0.toInt)) ∧ hx_T T_tb u.1 u.2 ∧ hx_S T_tb [] L h u.1 u.2) (hx_E T_tb (P_ty dA) (dC, dI) vwCl (hx_A L sz)) (hx_A L sz)) 0 0 (hx_A L sz) := by
  refine hx_met (lv := [(0, .ref x), (1, .int i1)]) (by decide +kernel) rfl (Nat.le_of_ble_eq_true rfl) rfl ?_
  intro p e s m below meth c hx hb hml hr hlk hts0 hown hin hsz hW ls hl
  have hts : ∀ w ∈ hx_all, w.before _ s = true := fun w hw => hts0 w (List.mem_cons_of_mem _ hw)
  have hown : s.vm.findClass "SmallCourtModel" = some m.cls := hown
  have hM : hx_S T_tb [] L h L h := hx_S.rf
  have b_p0 := hT.gi gx tt_10 (k := 20) rfl
  rw [f_x_20] at b_p0
  have b_p0 : 0 ≤ p0.toInt ∧ p0.toInt ≤ 40 := b_p0
  refine lv_iload_n hx hb dX10_isPerson_0 rfl (lv_at hl 1 rfl) ?_
  refine lv_iconst (v := 0) hx hb dX10_isPerson_1 (by decide) ?_
  refine lv_aload_n hx hb dX10_isPerson_2 rfl (lv_at hl 0 rfl) ?_
  refine hk_geti hx hb hts hC_10 hown hW (gx.S hM) tt_10 20 (by decide) rfl kw_1163 ⟨rfl, rfl, rfl⟩ ((hM.o gx trivial rfl).1.trans f_x_20) dX10_isPerson_3 ?_
  refine lv_iconst (v := 1) hx hb dX10_isPerson_6 (by decide) ?_
  refine lv_isub hx hb dX10_isPerson_7 ?_
  have rg_1 := i32_r p0
  refine lv_topi (fun x_2 ex_2 => ?_)
  have zx_2 : x_2.toInt = p0.toInt - 1 := by rw [ex_2]; exact i32_sub rfl (by decide) (by omega) (by omega)
  have zc_0 : (0 : Int32).toInt = 0 := by decide
  refine hx_goi (hx_runS (As := [.int i1, .int (0 : Int32), .int x_2]) (rest := []) ⟨hx, hb, hml, hown, hts⟩ hW (t_X10_in l dC dI dA L h s.heap.size i1 (0 : Int32) x_2 hT) (va_cwS 3 hts (hx_gS kw_1445 kw_1443 kw_1444 kw_103) rfl rfl rfl (by decide +kernel) ⟨Nat.le_of_ble_eq_true rfl, Nat.le_of_ble_eq_true rfl⟩) rfl hl.1 rfl (Nat.le_of_ble_eq_true rfl) dX10_isPerson_8 ⟨Nat.le_of_ble_eq_true rfl, Nat.le_of_ble_eq_true rfl⟩) hW (fun r_5 L_3 h_4 H locs p_6 hW => ?_)
  obtain ⟨hr_7, hT, hs⟩ := p_6
  replace hT : hx_T T_tb L_3 h_4 := hT
  replace hs : hx_S T_tb [] L h L_3 h_4 := hs
  replace hM := hM.tr (hs.mono (by decide))
  exact hx_retz hx hb hr (hx_nar01 (by omega)) hlk hW ⟨(by first | omega | (refine ⟨?_, ?_⟩ <;> omega)), hT, hM⟩ dX10_isPerson_11

def wLX10_areLives_0 : List Nat := [26, 3, 17, 39, 15, 184, 0, 228, 153, 0, 37, 27, 4, 16, 20, 184, 0, 228, 153, 0, 27, 28, 3, 16, 99, 184, 0, 228, 153, 0, 17, 29, 3, 16, 99, 184, 0, 228, 153, 0, 7, 4, 167, 0, 4, 3, 172]
theorem wX10_areLives_0 : (cX10_areLives.data.toList.map UInt8.toNat).drop 0 = wLX10_areLives_0 ++ ([]) := by decide +kernel
theorem dX10_areLives_0 : decode cX10_areLives 0 = .ok (.iload_n 0, 1) := dq_26 (hz_wg wX10_areLives_0 (j := 0) (n := 26) rfl)
theorem dX10_areLives_1 : decode cX10_areLives 1 = .ok (.iconst 0, 1) := dq_3 (hz_wg wX10_areLives_0 (j := 1) (n := 3) rfl)
theorem dX10_areLives_2 : decode cX10_areLives 2 = .ok (.sipush 9999, 3) := dq_17 (hz_wg wX10_areLives_0 (j := 2) (n := 17) rfl) (hz_wg wX10_areLives_0 (j := 3) (n := 39) rfl) (hz_wg wX10_areLives_0 (j := 4) (n := 15) rfl) (by decide)
theorem dX10_areLives_5 : decode cX10_areLives 5 = .ok (.invokestatic 228, 3) := dq_184 (hz_wg wX10_areLives_0 (j := 5) (n := 184) rfl) (hz_wg wX10_areLives_0 (j := 6) (n := 0) rfl) (hz_wg wX10_areLives_0 (j := 7) (n := 228) rfl) rfl
theorem dX10_areLives_8 : decode cX10_areLives 8 = .ok (.ifCond .eq 37, 3) := dq_153 (hz_wg wX10_areLives_0 (j := 8) (n := 153) rfl) (hz_wg wX10_areLives_0 (j := 9) (n := 0) rfl) (hz_wg wX10_areLives_0 (j := 10) (n := 37) rfl) (by decide)
theorem dX10_areLives_11 : decode cX10_areLives 11 = .ok (.iload_n 1, 1) := dq_27 (hz_wg wX10_areLives_0 (j := 11) (n := 27) rfl)
theorem dX10_areLives_12 : decode cX10_areLives 12 = .ok (.iconst 1, 1) := dq_4 (hz_wg wX10_areLives_0 (j := 12) (n := 4) rfl)
theorem dX10_areLives_13 : decode cX10_areLives 13 = .ok (.bipush 20, 2) := dq_16 (hz_wg wX10_areLives_0 (j := 13) (n := 16) rfl) (hz_wg wX10_areLives_0 (j := 14) (n := 20) rfl) (by decide)
theorem dX10_areLives_15 : decode cX10_areLives 15 = .ok (.invokestatic 228, 3) := dq_184 (hz_wg wX10_areLives_0 (j := 15) (n := 184) rfl) (hz_wg wX10_areLives_0 (j := 16) (n := 0) rfl) (hz_wg wX10_areLives_0 (j := 17) (n := 228) rfl) rfl
theorem dX10_areLives_18 : decode cX10_areLives 18 = .ok (.ifCond .eq 27, 3) := dq_153 (hz_wg wX10_areLives_0 (j := 18) (n := 153) rfl) (hz_wg wX10_areLives_0 (j := 19) (n := 0) rfl) (hz_wg wX10_areLives_0 (j := 20) (n := 27) rfl) (by decide)
theorem dX10_areLives_21 : decode cX10_areLives 21 = .ok (.iload_n 2, 1) := dq_28 (hz_wg wX10_areLives_0 (j := 21) (n := 28) rfl)
theorem dX10_areLives_22 : decode cX10_areLives 22 = .ok (.iconst 0, 1) := dq_3 (hz_wg wX10_areLives_0 (j := 22) (n := 3) rfl)
theorem dX10_areLives_23 : decode cX10_areLives 23 = .ok (.bipush 99, 2) := dq_16 (hz_wg wX10_areLives_0 (j := 23) (n := 16) rfl) (hz_wg wX10_areLives_0 (j := 24) (n := 99) rfl) (by decide)
theorem dX10_areLives_25 : decode cX10_areLives 25 = .ok (.invokestatic 228, 3) := dq_184 (hz_wg wX10_areLives_0 (j := 25) (n := 184) rfl) (hz_wg wX10_areLives_0 (j := 26) (n := 0) rfl) (hz_wg wX10_areLives_0 (j := 27) (n := 228) rfl) rfl
theorem dX10_areLives_28 : decode cX10_areLives 28 = .ok (.ifCond .eq 17, 3) := dq_153 (hz_wg wX10_areLives_0 (j := 28) (n := 153) rfl) (hz_wg wX10_areLives_0 (j := 29) (n := 0) rfl) (hz_wg wX10_areLives_0 (j := 30) (n := 17) rfl) (by decide)
theorem dX10_areLives_31 : decode cX10_areLives 31 = .ok (.iload_n 3, 1) := dq_29 (hz_wg wX10_areLives_0 (j := 31) (n := 29) rfl)
theorem dX10_areLives_32 : decode cX10_areLives 32 = .ok (.iconst 0, 1) := dq_3 (hz_wg wX10_areLives_0 (j := 32) (n := 3) rfl)
theorem dX10_areLives_33 : decode cX10_areLives 33 = .ok (.bipush 99, 2) := dq_16 (hz_wg wX10_areLives_0 (j := 33) (n := 16) rfl) (hz_wg wX10_areLives_0 (j := 34) (n := 99) rfl) (by decide)
theorem dX10_areLives_35 : decode cX10_areLives 35 = .ok (.invokestatic 228, 3) := dq_184 (hz_wg wX10_areLives_0 (j := 35) (n := 184) rfl) (hz_wg wX10_areLives_0 (j := 36) (n := 0) rfl) (hz_wg wX10_areLives_0 (j := 37) (n := 228) rfl) rfl
theorem dX10_areLives_38 : decode cX10_areLives 38 = .ok (.ifCond .eq 7, 3) := dq_153 (hz_wg wX10_areLives_0 (j := 38) (n := 153) rfl) (hz_wg wX10_areLives_0 (j := 39) (n := 0) rfl) (hz_wg wX10_areLives_0 (j := 40) (n := 7) rfl) (by decide)
theorem dX10_areLives_41 : decode cX10_areLives 41 = .ok (.iconst 1, 1) := dq_4 (hz_wg wX10_areLives_0 (j := 41) (n := 4) rfl)
theorem dX10_areLives_42 : decode cX10_areLives 42 = .ok (.goto 4, 3) := dq_167 (hz_wg wX10_areLives_0 (j := 42) (n := 167) rfl) (hz_wg wX10_areLives_0 (j := 43) (n := 0) rfl) (hz_wg wX10_areLives_0 (j := 44) (n := 4) rfl) (by decide)
theorem dX10_areLives_45 : decode cX10_areLives 45 = .ok (.iconst 0, 1) := dq_3 (hz_wg wX10_areLives_0 (j := 45) (n := 3) rfl)
theorem dX10_areLives_46 : decode cX10_areLives 46 = .ok (.ireturn, 1) := dq_172 (hz_wg wX10_areLives_0 (j := 46) (n := 172) rfl)
theorem dX10_lives_0 : decode cX10_lives 0 = .ok (.aload_n 0, 1) := by decide +kernel
theorem dX10_lives_1 : decode cX10_lives 1 = .ok (.getfield 41, 3) := by decide +kernel
theorem dX10_lives_4 : decode cX10_lives 4 = .ok (.iload_n 1, 1) := by decide +kernel
theorem dX10_lives_5 : decode cX10_lives 5 = .ok (.iload_n 2, 1) := by decide +kernel
theorem dX10_lives_6 : decode cX10_lives 6 = .ok (.iastore, 1) := by decide +kernel
theorem dX10_lives_7 : decode cX10_lives 7 = .ok (.aload_n 0, 1) := by decide +kernel
theorem dX10_lives_8 : decode cX10_lives 8 = .ok (.getfield 44, 3) := by decide +kernel
theorem dX10_lives_11 : decode cX10_lives 11 = .ok (.iload_n 1, 1) := by decide +kernel
theorem dX10_lives_12 : decode cX10_lives 12 = .ok (.iload_n 3, 1) := by decide +kernel
theorem dX10_lives_13 : decode cX10_lives 13 = .ok (.iastore, 1) := by decide +kernel
theorem dX10_lives_14 : decode cX10_lives 14 = .ok (.aload_n 0, 1) := by decide +kernel
theorem dX10_lives_15 : decode cX10_lives 15 = .ok (.getfield 47, 3) := by decide +kernel
theorem dX10_lives_18 : decode cX10_lives 18 = .ok (.iload_n 1, 1) := by decide +kernel
theorem dX10_lives_19 : decode cX10_lives 19 = .ok (.iload 4, 2) := by decide +kernel
theorem dX10_lives_21 : decode cX10_lives 21 = .ok (.iastore, 1) := by decide +kernel
theorem dX10_lives_22 : decode cX10_lives 22 = .ok (.aload_n 0, 1) := by decide +kernel
theorem dX10_lives_23 : decode cX10_lives 23 = .ok (.getfield 50, 3) := by decide +kernel
theorem dX10_lives_26 : decode cX10_lives 26 = .ok (.iload_n 1, 1) := by decide +kernel
theorem dX10_lives_27 : decode cX10_lives 27 = .ok (.iload 5, 2) := by decide +kernel
theorem dX10_lives_29 : decode cX10_lives 29 = .ok (.iastore, 1) := by decide +kernel
theorem dX10_lives_30 : decode cX10_lives 30 = .ok (.return_, 1) := by decide +kernel
def wLX10_person_0 : List Nat := [42, 180, 1, 81, 16, 40, 159, 0, 39, 27, 17, 138, 208, 17, 31, 63, 184, 0, 228, 153, 0, 26, 28, 29, 21, 4, 21, 5, 184, 1, 84, 153, 0, 14, 21, 6, 2, 16, 19, 184, 0, 228, 154, 0, 5, 2, 172, 42, 180, 0, 38, 42, 180, 1, 81, 27, 79, 42, 180, 0, 53, 42, 180, 1]
def wLX10_person_1 : List Nat := [81, 21, 6, 79, 42, 89, 180, 1, 81, 4, 96, 181, 1, 81, 42, 42, 180, 1, 81, 4, 100, 28, 29, 21, 4, 21, 5, 182, 1, 88, 42, 180, 1, 81, 4, 100, 172]
theorem wX10_person_0 : (cX10_person.data.toList.map UInt8.toNat).drop 0 = wLX10_person_0 ++ (wLX10_person_1 ++ ([])) := by decide +kernel
theorem wX10_person_1 : (cX10_person.data.toList.map UInt8.toNat).drop 64 = wLX10_person_1 ++ ([]) := hz_wn wX10_person_0 rfl
theorem dX10_person_0 : decode cX10_person 0 = .ok (.aload_n 0, 1) := dq_42 (hz_wg wX10_person_0 (j := 0) (n := 42) rfl)
theorem dX10_person_1 : decode cX10_person 1 = .ok (.getfield 337, 3) := dq_180 (hz_wg wX10_person_0 (j := 1) (n := 180) rfl) (hz_wg wX10_person_0 (j := 2) (n := 1) rfl) (hz_wg wX10_person_0 (j := 3) (n := 81) rfl) rfl
theorem dX10_person_4 : decode cX10_person 4 = .ok (.bipush 40, 2) := dq_16 (hz_wg wX10_person_0 (j := 4) (n := 16) rfl) (hz_wg wX10_person_0 (j := 5) (n := 40) rfl) (by decide)
theorem dX10_person_6 : decode cX10_person 6 = .ok (.if_icmp .eq 39, 3) := dq_159 (hz_wg wX10_person_0 (j := 6) (n := 159) rfl) (hz_wg wX10_person_0 (j := 7) (n := 0) rfl) (hz_wg wX10_person_0 (j := 8) (n := 39) rfl) (by decide)
theorem dX10_person_9 : decode cX10_person 9 = .ok (.iload_n 1, 1) := dq_27 (hz_wg wX10_person_0 (j := 9) (n := 27) rfl)
theorem dX10_person_10 : decode cX10_person 10 = .ok (.sipush (-30000), 3) := dq_17 (hz_wg wX10_person_0 (j := 10) (n := 17) rfl) (hz_wg wX10_person_0 (j := 11) (n := 138) rfl) (hz_wg wX10_person_0 (j := 12) (n := 208) rfl) (by decide)
theorem dX10_person_13 : decode cX10_person 13 = .ok (.sipush 7999, 3) := dq_17 (hz_wg wX10_person_0 (j := 13) (n := 17) rfl) (hz_wg wX10_person_0 (j := 14) (n := 31) rfl) (hz_wg wX10_person_0 (j := 15) (n := 63) rfl) (by decide)
theorem dX10_person_16 : decode cX10_person 16 = .ok (.invokestatic 228, 3) := dq_184 (hz_wg wX10_person_0 (j := 16) (n := 184) rfl) (hz_wg wX10_person_0 (j := 17) (n := 0) rfl) (hz_wg wX10_person_0 (j := 18) (n := 228) rfl) rfl
theorem dX10_person_19 : decode cX10_person 19 = .ok (.ifCond .eq 26, 3) := dq_153 (hz_wg wX10_person_0 (j := 19) (n := 153) rfl) (hz_wg wX10_person_0 (j := 20) (n := 0) rfl) (hz_wg wX10_person_0 (j := 21) (n := 26) rfl) (by decide)
theorem dX10_person_22 : decode cX10_person 22 = .ok (.iload_n 2, 1) := dq_28 (hz_wg wX10_person_0 (j := 22) (n := 28) rfl)
theorem dX10_person_23 : decode cX10_person 23 = .ok (.iload_n 3, 1) := dq_29 (hz_wg wX10_person_0 (j := 23) (n := 29) rfl)
theorem dX10_person_24 : decode cX10_person 24 = .ok (.iload 4, 2) := dq_21 (hz_wg wX10_person_0 (j := 24) (n := 21) rfl) (hz_wg wX10_person_0 (j := 25) (n := 4) rfl)
theorem dX10_person_26 : decode cX10_person 26 = .ok (.iload 5, 2) := dq_21 (hz_wg wX10_person_0 (j := 26) (n := 21) rfl) (hz_wg wX10_person_0 (j := 27) (n := 5) rfl)
theorem dX10_person_28 : decode cX10_person 28 = .ok (.invokestatic 340, 3) := dq_184 (hz_wg wX10_person_0 (j := 28) (n := 184) rfl) (hz_wg wX10_person_0 (j := 29) (n := 1) rfl) (hz_wg wX10_person_0 (j := 30) (n := 84) rfl) rfl
theorem dX10_person_31 : decode cX10_person 31 = .ok (.ifCond .eq 14, 3) := dq_153 (hz_wg wX10_person_0 (j := 31) (n := 153) rfl) (hz_wg wX10_person_0 (j := 32) (n := 0) rfl) (hz_wg wX10_person_0 (j := 33) (n := 14) rfl) (by decide)
theorem dX10_person_34 : decode cX10_person 34 = .ok (.iload 6, 2) := dq_21 (hz_wg wX10_person_0 (j := 34) (n := 21) rfl) (hz_wg wX10_person_0 (j := 35) (n := 6) rfl)
theorem dX10_person_36 : decode cX10_person 36 = .ok (.iconst (-1), 1) := dq_2 (hz_wg wX10_person_0 (j := 36) (n := 2) rfl)
theorem dX10_person_37 : decode cX10_person 37 = .ok (.bipush 19, 2) := dq_16 (hz_wg wX10_person_0 (j := 37) (n := 16) rfl) (hz_wg wX10_person_0 (j := 38) (n := 19) rfl) (by decide)
theorem dX10_person_39 : decode cX10_person 39 = .ok (.invokestatic 228, 3) := dq_184 (hz_wg wX10_person_0 (j := 39) (n := 184) rfl) (hz_wg wX10_person_0 (j := 40) (n := 0) rfl) (hz_wg wX10_person_0 (j := 41) (n := 228) rfl) rfl
theorem dX10_person_42 : decode cX10_person 42 = .ok (.ifCond .ne 5, 3) := dq_154 (hz_wg wX10_person_0 (j := 42) (n := 154) rfl) (hz_wg wX10_person_0 (j := 43) (n := 0) rfl) (hz_wg wX10_person_0 (j := 44) (n := 5) rfl) (by decide)
theorem dX10_person_45 : decode cX10_person 45 = .ok (.iconst (-1), 1) := dq_2 (hz_wg wX10_person_0 (j := 45) (n := 2) rfl)
theorem dX10_person_46 : decode cX10_person 46 = .ok (.ireturn, 1) := dq_172 (hz_wg wX10_person_0 (j := 46) (n := 172) rfl)
theorem dX10_person_47 : decode cX10_person 47 = .ok (.aload_n 0, 1) := dq_42 (hz_wg wX10_person_0 (j := 47) (n := 42) rfl)
theorem dX10_person_48 : decode cX10_person 48 = .ok (.getfield 38, 3) := dq_180 (hz_wg wX10_person_0 (j := 48) (n := 180) rfl) (hz_wg wX10_person_0 (j := 49) (n := 0) rfl) (hz_wg wX10_person_0 (j := 50) (n := 38) rfl) rfl
theorem dX10_person_51 : decode cX10_person 51 = .ok (.aload_n 0, 1) := dq_42 (hz_wg wX10_person_0 (j := 51) (n := 42) rfl)
theorem dX10_person_52 : decode cX10_person 52 = .ok (.getfield 337, 3) := dq_180 (hz_wg wX10_person_0 (j := 52) (n := 180) rfl) (hz_wg wX10_person_0 (j := 53) (n := 1) rfl) (hz_wg wX10_person_0 (j := 54) (n := 81) rfl) rfl
theorem dX10_person_55 : decode cX10_person 55 = .ok (.iload_n 1, 1) := dq_27 (hz_wg wX10_person_0 (j := 55) (n := 27) rfl)
theorem dX10_person_56 : decode cX10_person 56 = .ok (.iastore, 1) := dq_79 (hz_wg wX10_person_0 (j := 56) (n := 79) rfl)
theorem dX10_person_57 : decode cX10_person 57 = .ok (.aload_n 0, 1) := dq_42 (hz_wg wX10_person_0 (j := 57) (n := 42) rfl)
theorem dX10_person_58 : decode cX10_person 58 = .ok (.getfield 53, 3) := dq_180 (hz_wg wX10_person_0 (j := 58) (n := 180) rfl) (hz_wg wX10_person_0 (j := 59) (n := 0) rfl) (hz_wg wX10_person_0 (j := 60) (n := 53) rfl) rfl
theorem dX10_person_61 : decode cX10_person 61 = .ok (.aload_n 0, 1) := dq_42 (hz_wg wX10_person_0 (j := 61) (n := 42) rfl)
theorem dX10_person_62 : decode cX10_person 62 = .ok (.getfield 337, 3) := dq_180 (hz_wg wX10_person_0 (j := 62) (n := 180) rfl) (hz_wg wX10_person_0 (j := 63) (n := 1) rfl) (hz_wg wX10_person_1 (j := 0) (n := 81) rfl) rfl
theorem dX10_person_65 : decode cX10_person 65 = .ok (.iload 6, 2) := dq_21 (hz_wg wX10_person_1 (j := 1) (n := 21) rfl) (hz_wg wX10_person_1 (j := 2) (n := 6) rfl)
theorem dX10_person_67 : decode cX10_person 67 = .ok (.iastore, 1) := dq_79 (hz_wg wX10_person_1 (j := 3) (n := 79) rfl)
theorem dX10_person_68 : decode cX10_person 68 = .ok (.aload_n 0, 1) := dq_42 (hz_wg wX10_person_1 (j := 4) (n := 42) rfl)
theorem dX10_person_69 : decode cX10_person 69 = .ok (.dup, 1) := dq_89 (hz_wg wX10_person_1 (j := 5) (n := 89) rfl)
theorem dX10_person_70 : decode cX10_person 70 = .ok (.getfield 337, 3) := dq_180 (hz_wg wX10_person_1 (j := 6) (n := 180) rfl) (hz_wg wX10_person_1 (j := 7) (n := 1) rfl) (hz_wg wX10_person_1 (j := 8) (n := 81) rfl) rfl
theorem dX10_person_73 : decode cX10_person 73 = .ok (.iconst 1, 1) := dq_4 (hz_wg wX10_person_1 (j := 9) (n := 4) rfl)
theorem dX10_person_74 : decode cX10_person 74 = .ok (.iadd, 1) := dq_96 (hz_wg wX10_person_1 (j := 10) (n := 96) rfl)
theorem dX10_person_75 : decode cX10_person 75 = .ok (.putfield 337, 3) := dq_181 (hz_wg wX10_person_1 (j := 11) (n := 181) rfl) (hz_wg wX10_person_1 (j := 12) (n := 1) rfl) (hz_wg wX10_person_1 (j := 13) (n := 81) rfl) rfl
theorem dX10_person_78 : decode cX10_person 78 = .ok (.aload_n 0, 1) := dq_42 (hz_wg wX10_person_1 (j := 14) (n := 42) rfl)
theorem dX10_person_79 : decode cX10_person 79 = .ok (.aload_n 0, 1) := dq_42 (hz_wg wX10_person_1 (j := 15) (n := 42) rfl)
theorem dX10_person_80 : decode cX10_person 80 = .ok (.getfield 337, 3) := dq_180 (hz_wg wX10_person_1 (j := 16) (n := 180) rfl) (hz_wg wX10_person_1 (j := 17) (n := 1) rfl) (hz_wg wX10_person_1 (j := 18) (n := 81) rfl) rfl
theorem dX10_person_83 : decode cX10_person 83 = .ok (.iconst 1, 1) := dq_4 (hz_wg wX10_person_1 (j := 19) (n := 4) rfl)
theorem dX10_person_84 : decode cX10_person 84 = .ok (.isub, 1) := dq_100 (hz_wg wX10_person_1 (j := 20) (n := 100) rfl)
theorem dX10_person_85 : decode cX10_person 85 = .ok (.iload_n 2, 1) := dq_28 (hz_wg wX10_person_1 (j := 21) (n := 28) rfl)
theorem dX10_person_86 : decode cX10_person 86 = .ok (.iload_n 3, 1) := dq_29 (hz_wg wX10_person_1 (j := 22) (n := 29) rfl)
theorem dX10_person_87 : decode cX10_person 87 = .ok (.iload 4, 2) := dq_21 (hz_wg wX10_person_1 (j := 23) (n := 21) rfl) (hz_wg wX10_person_1 (j := 24) (n := 4) rfl)
theorem dX10_person_89 : decode cX10_person 89 = .ok (.iload 5, 2) := dq_21 (hz_wg wX10_person_1 (j := 25) (n := 21) rfl) (hz_wg wX10_person_1 (j := 26) (n := 5) rfl)
theorem dX10_person_91 : decode cX10_person 91 = .ok (.invokevirtual 344, 3) := dq_182 (hz_wg wX10_person_1 (j := 27) (n := 182) rfl) (hz_wg wX10_person_1 (j := 28) (n := 1) rfl) (hz_wg wX10_person_1 (j := 29) (n := 88) rfl) rfl
theorem dX10_person_94 : decode cX10_person 94 = .ok (.aload_n 0, 1) := dq_42 (hz_wg wX10_person_1 (j := 30) (n := 42) rfl)
theorem dX10_person_95 : decode cX10_person 95 = .ok (.getfield 337, 3) := dq_180 (hz_wg wX10_person_1 (j := 31) (n := 180) rfl) (hz_wg wX10_person_1 (j := 32) (n := 1) rfl) (hz_wg wX10_person_1 (j := 33) (n := 81) rfl) rfl
theorem dX10_person_98 : decode cX10_person 98 = .ok (.iconst 1, 1) := dq_4 (hz_wg wX10_person_1 (j := 34) (n := 4) rfl)
theorem dX10_person_99 : decode cX10_person 99 = .ok (.isub, 1) := dq_100 (hz_wg wX10_person_1 (j := 35) (n := 100) rfl)
theorem dX10_person_100 : decode cX10_person 100 = .ok (.ireturn, 1) := dq_172 (hz_wg wX10_person_1 (j := 36) (n := 172) rfl)
def wLX10_anew_0 : List Nat := [42, 27, 182, 1, 92, 153, 0, 24, 42, 180, 0, 56, 27, 51, 154, 0, 15, 28, 29, 21, 4, 21, 5, 184, 1, 84, 154, 0, 5, 3, 172, 42, 27, 28, 29, 21, 4, 21, 5, 182, 1, 88, 4, 172]
theorem wX10_anew_0 : (cX10_anew.data.toList.map UInt8.toNat).drop 0 = wLX10_anew_0 ++ ([]) := by decide +kernel
theorem dX10_anew_0 : decode cX10_anew 0 = .ok (.aload_n 0, 1) := dq_42 (hz_wg wX10_anew_0 (j := 0) (n := 42) rfl)
theorem dX10_anew_1 : decode cX10_anew 1 = .ok (.iload_n 1, 1) := dq_27 (hz_wg wX10_anew_0 (j := 1) (n := 27) rfl)
theorem dX10_anew_2 : decode cX10_anew 2 = .ok (.invokevirtual 348, 3) := dq_182 (hz_wg wX10_anew_0 (j := 2) (n := 182) rfl) (hz_wg wX10_anew_0 (j := 3) (n := 1) rfl) (hz_wg wX10_anew_0 (j := 4) (n := 92) rfl) rfl
theorem dX10_anew_5 : decode cX10_anew 5 = .ok (.ifCond .eq 24, 3) := dq_153 (hz_wg wX10_anew_0 (j := 5) (n := 153) rfl) (hz_wg wX10_anew_0 (j := 6) (n := 0) rfl) (hz_wg wX10_anew_0 (j := 7) (n := 24) rfl) (by decide)
theorem dX10_anew_8 : decode cX10_anew 8 = .ok (.aload_n 0, 1) := dq_42 (hz_wg wX10_anew_0 (j := 8) (n := 42) rfl)
theorem dX10_anew_9 : decode cX10_anew 9 = .ok (.getfield 56, 3) := dq_180 (hz_wg wX10_anew_0 (j := 9) (n := 180) rfl) (hz_wg wX10_anew_0 (j := 10) (n := 0) rfl) (hz_wg wX10_anew_0 (j := 11) (n := 56) rfl) rfl
theorem dX10_anew_12 : decode cX10_anew 12 = .ok (.iload_n 1, 1) := dq_27 (hz_wg wX10_anew_0 (j := 12) (n := 27) rfl)
theorem dX10_anew_13 : decode cX10_anew 13 = .ok (.baload, 1) := dq_51 (hz_wg wX10_anew_0 (j := 13) (n := 51) rfl)
theorem dX10_anew_14 : decode cX10_anew 14 = .ok (.ifCond .ne 15, 3) := dq_154 (hz_wg wX10_anew_0 (j := 14) (n := 154) rfl) (hz_wg wX10_anew_0 (j := 15) (n := 0) rfl) (hz_wg wX10_anew_0 (j := 16) (n := 15) rfl) (by decide)
theorem dX10_anew_17 : decode cX10_anew 17 = .ok (.iload_n 2, 1) := dq_28 (hz_wg wX10_anew_0 (j := 17) (n := 28) rfl)
theorem dX10_anew_18 : decode cX10_anew 18 = .ok (.iload_n 3, 1) := dq_29 (hz_wg wX10_anew_0 (j := 18) (n := 29) rfl)
theorem dX10_anew_19 : decode cX10_anew 19 = .ok (.iload 4, 2) := dq_21 (hz_wg wX10_anew_0 (j := 19) (n := 21) rfl) (hz_wg wX10_anew_0 (j := 20) (n := 4) rfl)
theorem dX10_anew_21 : decode cX10_anew 21 = .ok (.iload 5, 2) := dq_21 (hz_wg wX10_anew_0 (j := 21) (n := 21) rfl) (hz_wg wX10_anew_0 (j := 22) (n := 5) rfl)
theorem dX10_anew_23 : decode cX10_anew 23 = .ok (.invokestatic 340, 3) := dq_184 (hz_wg wX10_anew_0 (j := 23) (n := 184) rfl) (hz_wg wX10_anew_0 (j := 24) (n := 1) rfl) (hz_wg wX10_anew_0 (j := 25) (n := 84) rfl) rfl
theorem dX10_anew_26 : decode cX10_anew 26 = .ok (.ifCond .ne 5, 3) := dq_154 (hz_wg wX10_anew_0 (j := 26) (n := 154) rfl) (hz_wg wX10_anew_0 (j := 27) (n := 0) rfl) (hz_wg wX10_anew_0 (j := 28) (n := 5) rfl) (by decide)
theorem dX10_anew_29 : decode cX10_anew 29 = .ok (.iconst 0, 1) := dq_3 (hz_wg wX10_anew_0 (j := 29) (n := 3) rfl)
theorem dX10_anew_30 : decode cX10_anew 30 = .ok (.ireturn, 1) := dq_172 (hz_wg wX10_anew_0 (j := 30) (n := 172) rfl)
theorem dX10_anew_31 : decode cX10_anew 31 = .ok (.aload_n 0, 1) := dq_42 (hz_wg wX10_anew_0 (j := 31) (n := 42) rfl)
theorem dX10_anew_32 : decode cX10_anew 32 = .ok (.iload_n 1, 1) := dq_27 (hz_wg wX10_anew_0 (j := 32) (n := 27) rfl)
theorem dX10_anew_33 : decode cX10_anew 33 = .ok (.iload_n 2, 1) := dq_28 (hz_wg wX10_anew_0 (j := 33) (n := 28) rfl)
theorem dX10_anew_34 : decode cX10_anew 34 = .ok (.iload_n 3, 1) := dq_29 (hz_wg wX10_anew_0 (j := 34) (n := 29) rfl)
theorem dX10_anew_35 : decode cX10_anew 35 = .ok (.iload 4, 2) := dq_21 (hz_wg wX10_anew_0 (j := 35) (n := 21) rfl) (hz_wg wX10_anew_0 (j := 36) (n := 4) rfl)
theorem dX10_anew_37 : decode cX10_anew 37 = .ok (.iload 5, 2) := dq_21 (hz_wg wX10_anew_0 (j := 37) (n := 21) rfl) (hz_wg wX10_anew_0 (j := 38) (n := 5) rfl)
theorem dX10_anew_39 : decode cX10_anew 39 = .ok (.invokevirtual 344, 3) := dq_182 (hz_wg wX10_anew_0 (j := 39) (n := 182) rfl) (hz_wg wX10_anew_0 (j := 40) (n := 1) rfl) (hz_wg wX10_anew_0 (j := 41) (n := 88) rfl) rfl
theorem dX10_anew_42 : decode cX10_anew 42 = .ok (.iconst 1, 1) := dq_4 (hz_wg wX10_anew_0 (j := 42) (n := 4) rfl)
theorem dX10_anew_43 : decode cX10_anew 43 = .ok (.ireturn, 1) := dq_172 (hz_wg wX10_anew_0 (j := 43) (n := 172) rfl)
theorem dX10_dies_0 : decode cX10_dies 0 = .ok (.aload_n 0, 1) := by decide +kernel
theorem dX10_dies_1 : decode cX10_dies 1 = .ok (.iload_n 1, 1) := by decide +kernel
theorem dX10_dies_2 : decode cX10_dies 2 = .ok (.invokevirtual 348, 3) := by decide +kernel
theorem dX10_dies_5 : decode cX10_dies 5 = .ok (.ifCond .eq 12, 3) := by decide +kernel
theorem dX10_dies_8 : decode cX10_dies 8 = .ok (.aload_n 0, 1) := by decide +kernel
theorem dX10_dies_9 : decode cX10_dies 9 = .ok (.getfield 56, 3) := by decide +kernel
theorem dX10_dies_12 : decode cX10_dies 12 = .ok (.iload_n 1, 1) := by decide +kernel
theorem dX10_dies_13 : decode cX10_dies 13 = .ok (.baload, 1) := by decide +kernel
theorem dX10_dies_14 : decode cX10_dies 14 = .ok (.ifCond .eq 5, 3) := by decide +kernel
theorem dX10_dies_17 : decode cX10_dies 17 = .ok (.iconst 0, 1) := by decide +kernel
theorem dX10_dies_18 : decode cX10_dies 18 = .ok (.ireturn, 1) := by decide +kernel
theorem dX10_dies_19 : decode cX10_dies 19 = .ok (.aload_n 0, 1) := by decide +kernel
theorem dX10_dies_20 : decode cX10_dies 20 = .ok (.getfield 56, 3) := by decide +kernel
theorem dX10_dies_23 : decode cX10_dies 23 = .ok (.iload_n 1, 1) := by decide +kernel
theorem dX10_dies_24 : decode cX10_dies 24 = .ok (.iconst 1, 1) := by decide +kernel
theorem dX10_dies_25 : decode cX10_dies 25 = .ok (.bastore, 1) := by decide +kernel
theorem dX10_dies_26 : decode cX10_dies 26 = .ok (.iconst 1, 1) := by decide +kernel
theorem dX10_dies_27 : decode cX10_dies 27 = .ok (.ireturn, 1) := by decide +kernel
theorem dX10_judge_0 : decode cX10_judge 0 = .ok (.aload_n 0, 1) := by decide +kernel
theorem dX10_judge_1 : decode cX10_judge 1 = .ok (.iload_n 1, 1) := by decide +kernel
theorem dX10_judge_2 : decode cX10_judge 2 = .ok (.invokevirtual 348, 3) := by decide +kernel
theorem dX10_judge_5 : decode cX10_judge 5 = .ok (.ifCond .eq 13, 3) := by decide +kernel
theorem dX10_judge_8 : decode cX10_judge 8 = .ok (.aload_n 0, 1) := by decide +kernel
theorem dX10_judge_9 : decode cX10_judge 9 = .ok (.getfield 60, 3) := by decide +kernel
theorem dX10_judge_12 : decode cX10_judge 12 = .ok (.iload_n 1, 1) := by decide +kernel
theorem dX10_judge_13 : decode cX10_judge 13 = .ok (.baload, 1) := by decide +kernel
theorem dX10_judge_14 : decode cX10_judge 14 = .ok (.iload_n 2, 1) := by decide +kernel
theorem dX10_judge_15 : decode cX10_judge 15 = .ok (.if_icmp .ne 5, 3) := by decide +kernel
theorem dX10_judge_18 : decode cX10_judge 18 = .ok (.iconst 0, 1) := by decide +kernel
theorem dX10_judge_19 : decode cX10_judge 19 = .ok (.ireturn, 1) := by decide +kernel
theorem dX10_judge_20 : decode cX10_judge 20 = .ok (.aload_n 0, 1) := by decide +kernel
theorem dX10_judge_21 : decode cX10_judge 21 = .ok (.getfield 60, 3) := by decide +kernel
theorem dX10_judge_24 : decode cX10_judge 24 = .ok (.iload_n 1, 1) := by decide +kernel
theorem dX10_judge_25 : decode cX10_judge 25 = .ok (.iload_n 2, 1) := by decide +kernel
theorem dX10_judge_26 : decode cX10_judge 26 = .ok (.bastore, 1) := by decide +kernel
theorem dX10_judge_27 : decode cX10_judge 27 = .ok (.iconst 1, 1) := by decide +kernel
theorem dX10_judge_28 : decode cX10_judge 28 = .ok (.ireturn, 1) := by decide +kernel
def wLX10_line_0 : List Nat := [42, 180, 1, 95, 17, 1, 144, 159, 0, 58, 42, 27, 182, 1, 92, 153, 0, 50, 42, 28, 182, 1, 92, 153, 0, 42, 27, 28, 159, 0, 37, 29, 3, 42, 180, 0, 232, 184, 0, 228, 153, 0, 25, 21, 4, 3, 6, 184, 0, 228, 153, 0, 15, 21, 5, 4, 17, 39, 15, 184, 0, 228, 154, 0]
def wLX10_line_1 : List Nat := [5, 2, 172, 42, 180, 0, 63, 42, 180, 1, 95, 27, 79, 42, 180, 0, 66, 42, 180, 1, 95, 28, 79, 42, 180, 0, 69, 42, 180, 1, 95, 29, 79, 42, 180, 0, 72, 42, 180, 1, 95, 21, 4, 79, 42, 180, 0, 75, 42, 180, 1, 95, 21, 5, 79, 42, 89, 180, 1, 95, 4, 96, 181, 1]
def wLX10_line_2 : List Nat := [95, 42, 180, 1, 95, 172]
theorem wX10_line_0 : (cX10_line.data.toList.map UInt8.toNat).drop 0 = wLX10_line_0 ++ (wLX10_line_1 ++ (wLX10_line_2 ++ ([]))) := by decide +kernel
theorem wX10_line_1 : (cX10_line.data.toList.map UInt8.toNat).drop 64 = wLX10_line_1 ++ (wLX10_line_2 ++ ([])) := hz_wn wX10_line_0 rfl
theorem wX10_line_2 : (cX10_line.data.toList.map UInt8.toNat).drop 128 = wLX10_line_2 ++ ([]) := hz_wn wX10_line_1 rfl
theorem dX10_line_0 : decode cX10_line 0 = .ok (.aload_n 0, 1) := dq_42 (hz_wg wX10_line_0 (j := 0) (n := 42) rfl)
theorem dX10_line_1 : decode cX10_line 1 = .ok (.getfield 351, 3) := dq_180 (hz_wg wX10_line_0 (j := 1) (n := 180) rfl) (hz_wg wX10_line_0 (j := 2) (n := 1) rfl) (hz_wg wX10_line_0 (j := 3) (n := 95) rfl) rfl
theorem dX10_line_4 : decode cX10_line 4 = .ok (.sipush 400, 3) := dq_17 (hz_wg wX10_line_0 (j := 4) (n := 17) rfl) (hz_wg wX10_line_0 (j := 5) (n := 1) rfl) (hz_wg wX10_line_0 (j := 6) (n := 144) rfl) (by decide)
theorem dX10_line_7 : decode cX10_line 7 = .ok (.if_icmp .eq 58, 3) := dq_159 (hz_wg wX10_line_0 (j := 7) (n := 159) rfl) (hz_wg wX10_line_0 (j := 8) (n := 0) rfl) (hz_wg wX10_line_0 (j := 9) (n := 58) rfl) (by decide)
theorem dX10_line_10 : decode cX10_line 10 = .ok (.aload_n 0, 1) := dq_42 (hz_wg wX10_line_0 (j := 10) (n := 42) rfl)
theorem dX10_line_11 : decode cX10_line 11 = .ok (.iload_n 1, 1) := dq_27 (hz_wg wX10_line_0 (j := 11) (n := 27) rfl)
theorem dX10_line_12 : decode cX10_line 12 = .ok (.invokevirtual 348, 3) := dq_182 (hz_wg wX10_line_0 (j := 12) (n := 182) rfl) (hz_wg wX10_line_0 (j := 13) (n := 1) rfl) (hz_wg wX10_line_0 (j := 14) (n := 92) rfl) rfl
theorem dX10_line_15 : decode cX10_line 15 = .ok (.ifCond .eq 50, 3) := dq_153 (hz_wg wX10_line_0 (j := 15) (n := 153) rfl) (hz_wg wX10_line_0 (j := 16) (n := 0) rfl) (hz_wg wX10_line_0 (j := 17) (n := 50) rfl) (by decide)
theorem dX10_line_18 : decode cX10_line 18 = .ok (.aload_n 0, 1) := dq_42 (hz_wg wX10_line_0 (j := 18) (n := 42) rfl)
theorem dX10_line_19 : decode cX10_line 19 = .ok (.iload_n 2, 1) := dq_28 (hz_wg wX10_line_0 (j := 19) (n := 28) rfl)
theorem dX10_line_20 : decode cX10_line 20 = .ok (.invokevirtual 348, 3) := dq_182 (hz_wg wX10_line_0 (j := 20) (n := 182) rfl) (hz_wg wX10_line_0 (j := 21) (n := 1) rfl) (hz_wg wX10_line_0 (j := 22) (n := 92) rfl) rfl
theorem dX10_line_23 : decode cX10_line 23 = .ok (.ifCond .eq 42, 3) := dq_153 (hz_wg wX10_line_0 (j := 23) (n := 153) rfl) (hz_wg wX10_line_0 (j := 24) (n := 0) rfl) (hz_wg wX10_line_0 (j := 25) (n := 42) rfl) (by decide)
theorem dX10_line_26 : decode cX10_line 26 = .ok (.iload_n 1, 1) := dq_27 (hz_wg wX10_line_0 (j := 26) (n := 27) rfl)
theorem dX10_line_27 : decode cX10_line 27 = .ok (.iload_n 2, 1) := dq_28 (hz_wg wX10_line_0 (j := 27) (n := 28) rfl)
theorem dX10_line_28 : decode cX10_line 28 = .ok (.if_icmp .eq 37, 3) := dq_159 (hz_wg wX10_line_0 (j := 28) (n := 159) rfl) (hz_wg wX10_line_0 (j := 29) (n := 0) rfl) (hz_wg wX10_line_0 (j := 30) (n := 37) rfl) (by decide)
theorem dX10_line_31 : decode cX10_line 31 = .ok (.iload_n 3, 1) := dq_29 (hz_wg wX10_line_0 (j := 31) (n := 29) rfl)
theorem dX10_line_32 : decode cX10_line 32 = .ok (.iconst 0, 1) := dq_3 (hz_wg wX10_line_0 (j := 32) (n := 3) rfl)
theorem dX10_line_33 : decode cX10_line 33 = .ok (.aload_n 0, 1) := dq_42 (hz_wg wX10_line_0 (j := 33) (n := 42) rfl)
theorem dX10_line_34 : decode cX10_line 34 = .ok (.getfield 232, 3) := dq_180 (hz_wg wX10_line_0 (j := 34) (n := 180) rfl) (hz_wg wX10_line_0 (j := 35) (n := 0) rfl) (hz_wg wX10_line_0 (j := 36) (n := 232) rfl) rfl
theorem dX10_line_37 : decode cX10_line 37 = .ok (.invokestatic 228, 3) := dq_184 (hz_wg wX10_line_0 (j := 37) (n := 184) rfl) (hz_wg wX10_line_0 (j := 38) (n := 0) rfl) (hz_wg wX10_line_0 (j := 39) (n := 228) rfl) rfl
theorem dX10_line_40 : decode cX10_line 40 = .ok (.ifCond .eq 25, 3) := dq_153 (hz_wg wX10_line_0 (j := 40) (n := 153) rfl) (hz_wg wX10_line_0 (j := 41) (n := 0) rfl) (hz_wg wX10_line_0 (j := 42) (n := 25) rfl) (by decide)
theorem dX10_line_43 : decode cX10_line 43 = .ok (.iload 4, 2) := dq_21 (hz_wg wX10_line_0 (j := 43) (n := 21) rfl) (hz_wg wX10_line_0 (j := 44) (n := 4) rfl)
theorem dX10_line_45 : decode cX10_line 45 = .ok (.iconst 0, 1) := dq_3 (hz_wg wX10_line_0 (j := 45) (n := 3) rfl)
theorem dX10_line_46 : decode cX10_line 46 = .ok (.iconst 3, 1) := dq_6 (hz_wg wX10_line_0 (j := 46) (n := 6) rfl)
theorem dX10_line_47 : decode cX10_line 47 = .ok (.invokestatic 228, 3) := dq_184 (hz_wg wX10_line_0 (j := 47) (n := 184) rfl) (hz_wg wX10_line_0 (j := 48) (n := 0) rfl) (hz_wg wX10_line_0 (j := 49) (n := 228) rfl) rfl
theorem dX10_line_50 : decode cX10_line 50 = .ok (.ifCond .eq 15, 3) := dq_153 (hz_wg wX10_line_0 (j := 50) (n := 153) rfl) (hz_wg wX10_line_0 (j := 51) (n := 0) rfl) (hz_wg wX10_line_0 (j := 52) (n := 15) rfl) (by decide)
theorem dX10_line_53 : decode cX10_line 53 = .ok (.iload 5, 2) := dq_21 (hz_wg wX10_line_0 (j := 53) (n := 21) rfl) (hz_wg wX10_line_0 (j := 54) (n := 5) rfl)
theorem dX10_line_55 : decode cX10_line 55 = .ok (.iconst 1, 1) := dq_4 (hz_wg wX10_line_0 (j := 55) (n := 4) rfl)
theorem dX10_line_56 : decode cX10_line 56 = .ok (.sipush 9999, 3) := dq_17 (hz_wg wX10_line_0 (j := 56) (n := 17) rfl) (hz_wg wX10_line_0 (j := 57) (n := 39) rfl) (hz_wg wX10_line_0 (j := 58) (n := 15) rfl) (by decide)
theorem dX10_line_59 : decode cX10_line 59 = .ok (.invokestatic 228, 3) := dq_184 (hz_wg wX10_line_0 (j := 59) (n := 184) rfl) (hz_wg wX10_line_0 (j := 60) (n := 0) rfl) (hz_wg wX10_line_0 (j := 61) (n := 228) rfl) rfl
theorem dX10_line_62 : decode cX10_line 62 = .ok (.ifCond .ne 5, 3) := dq_154 (hz_wg wX10_line_0 (j := 62) (n := 154) rfl) (hz_wg wX10_line_0 (j := 63) (n := 0) rfl) (hz_wg wX10_line_1 (j := 0) (n := 5) rfl) (by decide)
theorem dX10_line_65 : decode cX10_line 65 = .ok (.iconst (-1), 1) := dq_2 (hz_wg wX10_line_1 (j := 1) (n := 2) rfl)
theorem dX10_line_66 : decode cX10_line 66 = .ok (.ireturn, 1) := dq_172 (hz_wg wX10_line_1 (j := 2) (n := 172) rfl)
theorem dX10_line_67 : decode cX10_line 67 = .ok (.aload_n 0, 1) := dq_42 (hz_wg wX10_line_1 (j := 3) (n := 42) rfl)
theorem dX10_line_68 : decode cX10_line 68 = .ok (.getfield 63, 3) := dq_180 (hz_wg wX10_line_1 (j := 4) (n := 180) rfl) (hz_wg wX10_line_1 (j := 5) (n := 0) rfl) (hz_wg wX10_line_1 (j := 6) (n := 63) rfl) rfl
theorem dX10_line_71 : decode cX10_line 71 = .ok (.aload_n 0, 1) := dq_42 (hz_wg wX10_line_1 (j := 7) (n := 42) rfl)
theorem dX10_line_72 : decode cX10_line 72 = .ok (.getfield 351, 3) := dq_180 (hz_wg wX10_line_1 (j := 8) (n := 180) rfl) (hz_wg wX10_line_1 (j := 9) (n := 1) rfl) (hz_wg wX10_line_1 (j := 10) (n := 95) rfl) rfl
theorem dX10_line_75 : decode cX10_line 75 = .ok (.iload_n 1, 1) := dq_27 (hz_wg wX10_line_1 (j := 11) (n := 27) rfl)
theorem dX10_line_76 : decode cX10_line 76 = .ok (.iastore, 1) := dq_79 (hz_wg wX10_line_1 (j := 12) (n := 79) rfl)
theorem dX10_line_77 : decode cX10_line 77 = .ok (.aload_n 0, 1) := dq_42 (hz_wg wX10_line_1 (j := 13) (n := 42) rfl)
theorem dX10_line_78 : decode cX10_line 78 = .ok (.getfield 66, 3) := dq_180 (hz_wg wX10_line_1 (j := 14) (n := 180) rfl) (hz_wg wX10_line_1 (j := 15) (n := 0) rfl) (hz_wg wX10_line_1 (j := 16) (n := 66) rfl) rfl
theorem dX10_line_81 : decode cX10_line 81 = .ok (.aload_n 0, 1) := dq_42 (hz_wg wX10_line_1 (j := 17) (n := 42) rfl)
theorem dX10_line_82 : decode cX10_line 82 = .ok (.getfield 351, 3) := dq_180 (hz_wg wX10_line_1 (j := 18) (n := 180) rfl) (hz_wg wX10_line_1 (j := 19) (n := 1) rfl) (hz_wg wX10_line_1 (j := 20) (n := 95) rfl) rfl
theorem dX10_line_85 : decode cX10_line 85 = .ok (.iload_n 2, 1) := dq_28 (hz_wg wX10_line_1 (j := 21) (n := 28) rfl)
theorem dX10_line_86 : decode cX10_line 86 = .ok (.iastore, 1) := dq_79 (hz_wg wX10_line_1 (j := 22) (n := 79) rfl)
theorem dX10_line_87 : decode cX10_line 87 = .ok (.aload_n 0, 1) := dq_42 (hz_wg wX10_line_1 (j := 23) (n := 42) rfl)
theorem dX10_line_88 : decode cX10_line 88 = .ok (.getfield 69, 3) := dq_180 (hz_wg wX10_line_1 (j := 24) (n := 180) rfl) (hz_wg wX10_line_1 (j := 25) (n := 0) rfl) (hz_wg wX10_line_1 (j := 26) (n := 69) rfl) rfl
theorem dX10_line_91 : decode cX10_line 91 = .ok (.aload_n 0, 1) := dq_42 (hz_wg wX10_line_1 (j := 27) (n := 42) rfl)
theorem dX10_line_92 : decode cX10_line 92 = .ok (.getfield 351, 3) := dq_180 (hz_wg wX10_line_1 (j := 28) (n := 180) rfl) (hz_wg wX10_line_1 (j := 29) (n := 1) rfl) (hz_wg wX10_line_1 (j := 30) (n := 95) rfl) rfl
theorem dX10_line_95 : decode cX10_line 95 = .ok (.iload_n 3, 1) := dq_29 (hz_wg wX10_line_1 (j := 31) (n := 29) rfl)
theorem dX10_line_96 : decode cX10_line 96 = .ok (.iastore, 1) := dq_79 (hz_wg wX10_line_1 (j := 32) (n := 79) rfl)
theorem dX10_line_97 : decode cX10_line 97 = .ok (.aload_n 0, 1) := dq_42 (hz_wg wX10_line_1 (j := 33) (n := 42) rfl)
theorem dX10_line_98 : decode cX10_line 98 = .ok (.getfield 72, 3) := dq_180 (hz_wg wX10_line_1 (j := 34) (n := 180) rfl) (hz_wg wX10_line_1 (j := 35) (n := 0) rfl) (hz_wg wX10_line_1 (j := 36) (n := 72) rfl) rfl
theorem dX10_line_101 : decode cX10_line 101 = .ok (.aload_n 0, 1) := dq_42 (hz_wg wX10_line_1 (j := 37) (n := 42) rfl)
theorem dX10_line_102 : decode cX10_line 102 = .ok (.getfield 351, 3) := dq_180 (hz_wg wX10_line_1 (j := 38) (n := 180) rfl) (hz_wg wX10_line_1 (j := 39) (n := 1) rfl) (hz_wg wX10_line_1 (j := 40) (n := 95) rfl) rfl
theorem dX10_line_105 : decode cX10_line 105 = .ok (.iload 4, 2) := dq_21 (hz_wg wX10_line_1 (j := 41) (n := 21) rfl) (hz_wg wX10_line_1 (j := 42) (n := 4) rfl)
theorem dX10_line_107 : decode cX10_line 107 = .ok (.iastore, 1) := dq_79 (hz_wg wX10_line_1 (j := 43) (n := 79) rfl)
theorem dX10_line_108 : decode cX10_line 108 = .ok (.aload_n 0, 1) := dq_42 (hz_wg wX10_line_1 (j := 44) (n := 42) rfl)
theorem dX10_line_109 : decode cX10_line 109 = .ok (.getfield 75, 3) := dq_180 (hz_wg wX10_line_1 (j := 45) (n := 180) rfl) (hz_wg wX10_line_1 (j := 46) (n := 0) rfl) (hz_wg wX10_line_1 (j := 47) (n := 75) rfl) rfl
theorem dX10_line_112 : decode cX10_line 112 = .ok (.aload_n 0, 1) := dq_42 (hz_wg wX10_line_1 (j := 48) (n := 42) rfl)
theorem dX10_line_113 : decode cX10_line 113 = .ok (.getfield 351, 3) := dq_180 (hz_wg wX10_line_1 (j := 49) (n := 180) rfl) (hz_wg wX10_line_1 (j := 50) (n := 1) rfl) (hz_wg wX10_line_1 (j := 51) (n := 95) rfl) rfl
theorem dX10_line_116 : decode cX10_line 116 = .ok (.iload 5, 2) := dq_21 (hz_wg wX10_line_1 (j := 52) (n := 21) rfl) (hz_wg wX10_line_1 (j := 53) (n := 5) rfl)
theorem dX10_line_118 : decode cX10_line 118 = .ok (.iastore, 1) := dq_79 (hz_wg wX10_line_1 (j := 54) (n := 79) rfl)
theorem dX10_line_119 : decode cX10_line 119 = .ok (.aload_n 0, 1) := dq_42 (hz_wg wX10_line_1 (j := 55) (n := 42) rfl)
theorem dX10_line_120 : decode cX10_line 120 = .ok (.dup, 1) := dq_89 (hz_wg wX10_line_1 (j := 56) (n := 89) rfl)
theorem dX10_line_121 : decode cX10_line 121 = .ok (.getfield 351, 3) := dq_180 (hz_wg wX10_line_1 (j := 57) (n := 180) rfl) (hz_wg wX10_line_1 (j := 58) (n := 1) rfl) (hz_wg wX10_line_1 (j := 59) (n := 95) rfl) rfl
theorem dX10_line_124 : decode cX10_line 124 = .ok (.iconst 1, 1) := dq_4 (hz_wg wX10_line_1 (j := 60) (n := 4) rfl)
theorem dX10_line_125 : decode cX10_line 125 = .ok (.iadd, 1) := dq_96 (hz_wg wX10_line_1 (j := 61) (n := 96) rfl)
theorem dX10_line_126 : decode cX10_line 126 = .ok (.putfield 351, 3) := dq_181 (hz_wg wX10_line_1 (j := 62) (n := 181) rfl) (hz_wg wX10_line_1 (j := 63) (n := 1) rfl) (hz_wg wX10_line_2 (j := 0) (n := 95) rfl) rfl
theorem dX10_line_129 : decode cX10_line 129 = .ok (.aload_n 0, 1) := dq_42 (hz_wg wX10_line_2 (j := 1) (n := 42) rfl)
theorem dX10_line_130 : decode cX10_line 130 = .ok (.getfield 351, 3) := dq_180 (hz_wg wX10_line_2 (j := 2) (n := 180) rfl) (hz_wg wX10_line_2 (j := 3) (n := 1) rfl) (hz_wg wX10_line_2 (j := 4) (n := 95) rfl) rfl
theorem dX10_line_133 : decode cX10_line 133 = .ok (.ireturn, 1) := dq_172 (hz_wg wX10_line_2 (j := 5) (n := 172) rfl)