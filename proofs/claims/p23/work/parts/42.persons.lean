theorem dX10_isPerson_0 : decode cX10_isPerson 0 = .ok (.iload_n 1, 1) := by decide +kernel
theorem dX10_isPerson_1 : decode cX10_isPerson 1 = .ok (.iconst 0, 1) := by decide +kernel
theorem dX10_isPerson_2 : decode cX10_isPerson 2 = .ok (.aload_n 0, 1) := by decide +kernel
theorem dX10_isPerson_3 : decode cX10_isPerson 3 = .ok (.getfield 337, 3) := by decide +kernel
theorem dX10_isPerson_6 : decode cX10_isPerson 6 = .ok (.iconst 1, 1) := by decide +kernel
theorem dX10_isPerson_7 : decode cX10_isPerson 7 = .ok (.isub, 1) := by decide +kernel
theorem dX10_isPerson_8 : decode cX10_isPerson 8 = .ok (.invokestatic 228, 3) := by decide +kernel
theorem dX10_isPerson_11 : decode cX10_isPerson 11 = .ok (.ireturn, 1) := by decide +kernel
set_option maxHeartbeats 4000000 in
set_option maxRecDepth 100000 in
theorem t_X10_isPerson (l : Launch) (dC : Nat → ClassId) (dI : Nat → Nat → Nat) (dA : Nat → ClassId) (L : List Nat) (h : hx_h) (sz : Nat) (x : Nat) (i1 : Int32) (hT : hx_T T_tb L h) (gx : hx_g L h x 10) (p0 : Int32) (f_x_20 : h.2.1 x 20 = p0) : Met l yX10_isPerson (Cond.code yX10_isPerson cX10_isPerson 2 (some .boolean) :: hx_all) ({ frames := 1, cells := 0, slots := 0, locals := 22 }) (va_Pc [.ref x, .int i1] (hx_B T_tb (P_ty dA) (dC, dI) vwCl L h sz)) (va_Qi (fun (r : Int32) (u : List Nat × hx_h) => ((r.toInt = 0 ∧ (i1.toInt < 0 ∨ p0.toInt ≤ i1.toInt)) ∨ (r.toInt = 1 ∧ 0 ≤ i1.toInt ∧ i1.toInt < p0.toInt)) ∧ hx_T T_tb u.1 u.2 ∧ hx_S T_tb [] L h u.1 u.2) (hx_E T_tb (P_ty dA) (dC, dI) vwCl (hx_A L sz)) (hx_A L sz)) 0 0 (hx_A L sz) := by
  refine hx_met (lv := [(0, .ref x), (1, .int i1)]) (by decide +kernel) rfl (Nat.le_of_ble_eq_true rfl) rfl ?_
  intro p e s m below meth c hx hb hml hr hlk hts0 hown hin hsz hW ls hl
  have hts : ∀ w ∈ hx_all, w.before _ s = true := fun w hw => hts0 w (List.mem_cons_of_mem _ hw)
  have hown : s.vm.findClass "SmallCourtModel" = some m.cls := hown
  have hM : hx_S T_tb [] L h L h := hx_S.rf
  have b_p0 := hT.gi gx tt_10 (k := 20) rfl
  rw [f_x_20] at b_p0
  have b_p0 : 0 ≤ p0.toInt ∧ p0.toInt ≤ 40 := b_p0
  refine lv_iload_n hx hb dX10_isPerson_0 rfl (lv_at hl 1 rfl) ?_
  refine lv_iconst (v := 0) hx hb dX10_isPerson_1 (by decide) ?_
  refine lv_aload_n hx hb dX10_isPerson_2 rfl (lv_at hl 0 rfl) ?_
  refine hk_geti hx hb hts hC_10 hown hW (gx.S hM) tt_10 20 (by decide) rfl kw_1163 ⟨rfl, rfl, rfl⟩ ((hM.o gx trivial rfl).1.trans f_x_20) dX10_isPerson_3 ?_
  refine lv_iconst (v := 1) hx hb dX10_isPerson_6 (by decide) ?_
  refine lv_isub hx hb dX10_isPerson_7 ?_
  have rg_1 := i32_r p0
  refine lv_topi (fun x_2 ex_2 => ?_)
  have zx_2 : x_2.toInt = p0.toInt - 1 := by rw [ex_2]; exact i32_sub rfl (by decide) (by omega) (by omega)
  have zc_0 : (0 : Int32).toInt = 0 := by decide
  refine hx_goi (hx_runS (As := [.int i1, .int (0 : Int32), .int x_2]) (rest := []) ⟨hx, hb, hml, hown, hts⟩ hW (t_X10_in l dC dI dA L h s.heap.size i1 (0 : Int32) x_2 hT) (va_cwS 3 hts (hx_gS kw_1445 kw_1443 kw_1444 kw_103) rfl rfl rfl (by decide +kernel) ⟨Nat.le_of_ble_eq_true rfl, Nat.le_of_ble_eq_true rfl⟩) rfl hl.1 rfl (Nat.le_of_ble_eq_true rfl) dX10_isPerson_8 ⟨Nat.le_of_ble_eq_true rfl, Nat.le_of_ble_eq_true rfl⟩) hW (fun r_5 L_3 h_4 H locs p_6 hW => ?_)
  obtain ⟨hr_7, hT, hs⟩ := p_6
  replace hT : hx_T T_tb L_3 h_4 := hT
  replace hs : hx_S T_tb [] L h L_3 h_4 := hs
  replace hM := hM.tr (hs.mono (by decide))
  exact hx_retz hx hb hr (hx_nar01 (by omega)) hlk hW ⟨(by first | omega | (refine ⟨?_, ?_⟩ <;> omega)), hT, hM⟩ dX10_isPerson_11

def wNX10_areLives : Nat := 103418109351803139985388021949673439570726376773938478243500233179367988011603618597106822359945447882285334463258
theorem wX10_areLives_c : hz_cd cX10_areLives wNX10_areLives 47 := ⟨by decide +kernel, by decide +kernel⟩
theorem dX10_areLives_0 : decode cX10_areLives 0 = .ok (.iload_n 0, 1) := dw_26 wX10_areLives_c rfl
theorem dX10_areLives_1 : decode cX10_areLives 1 = .ok (.iconst 0, 1) := dw_3 wX10_areLives_c rfl
theorem dX10_areLives_2 : decode cX10_areLives 2 = .ok (.sipush 9999, 3) := dw_17 wX10_areLives_c 39 15 rfl rfl rfl
theorem dX10_areLives_5 : decode cX10_areLives 5 = .ok (.invokestatic 228, 3) := dw_184 wX10_areLives_c 0 228 rfl rfl
theorem dX10_areLives_8 : decode cX10_areLives 8 = .ok (.ifCond .eq 37, 3) := dw_153 wX10_areLives_c 0 37 rfl rfl rfl
theorem dX10_areLives_11 : decode cX10_areLives 11 = .ok (.iload_n 1, 1) := dw_27 wX10_areLives_c rfl
theorem dX10_areLives_12 : decode cX10_areLives 12 = .ok (.iconst 1, 1) := dw_4 wX10_areLives_c rfl
theorem dX10_areLives_13 : decode cX10_areLives 13 = .ok (.bipush 20, 2) := dw_16 wX10_areLives_c 20 rfl rfl rfl
theorem dX10_areLives_15 : decode cX10_areLives 15 = .ok (.invokestatic 228, 3) := dw_184 wX10_areLives_c 0 228 rfl rfl
theorem dX10_areLives_18 : decode cX10_areLives 18 = .ok (.ifCond .eq 27, 3) := dw_153 wX10_areLives_c 0 27 rfl rfl rfl
theorem dX10_areLives_21 : decode cX10_areLives 21 = .ok (.iload_n 2, 1) := dw_28 wX10_areLives_c rfl
theorem dX10_areLives_22 : decode cX10_areLives 22 = .ok (.iconst 0, 1) := dw_3 wX10_areLives_c rfl
theorem dX10_areLives_23 : decode cX10_areLives 23 = .ok (.bipush 99, 2) := dw_16 wX10_areLives_c 99 rfl rfl rfl
theorem dX10_areLives_25 : decode cX10_areLives 25 = .ok (.invokestatic 228, 3) := dw_184 wX10_areLives_c 0 228 rfl rfl
theorem dX10_areLives_28 : decode cX10_areLives 28 = .ok (.ifCond .eq 17, 3) := dw_153 wX10_areLives_c 0 17 rfl rfl rfl
theorem dX10_areLives_31 : decode cX10_areLives 31 = .ok (.iload_n 3, 1) := dw_29 wX10_areLives_c rfl
theorem dX10_areLives_32 : decode cX10_areLives 32 = .ok (.iconst 0, 1) := dw_3 wX10_areLives_c rfl
theorem dX10_areLives_33 : decode cX10_areLives 33 = .ok (.bipush 99, 2) := dw_16 wX10_areLives_c 99 rfl rfl rfl
theorem dX10_areLives_35 : decode cX10_areLives 35 = .ok (.invokestatic 228, 3) := dw_184 wX10_areLives_c 0 228 rfl rfl
theorem dX10_areLives_38 : decode cX10_areLives 38 = .ok (.ifCond .eq 7, 3) := dw_153 wX10_areLives_c 0 7 rfl rfl rfl
theorem dX10_areLives_41 : decode cX10_areLives 41 = .ok (.iconst 1, 1) := dw_4 wX10_areLives_c rfl
theorem dX10_areLives_42 : decode cX10_areLives 42 = .ok (.goto 4, 3) := dw_167 wX10_areLives_c 0 4 rfl rfl rfl
theorem dX10_areLives_45 : decode cX10_areLives 45 = .ok (.iconst 0, 1) := dw_3 wX10_areLives_c rfl
theorem dX10_areLives_46 : decode cX10_areLives 46 = .ok (.ireturn, 1) := dw_172 wX10_areLives_c rfl
theorem dX10_lives_0 : decode cX10_lives 0 = .ok (.aload_n 0, 1) := by decide +kernel
theorem dX10_lives_1 : decode cX10_lives 1 = .ok (.getfield 41, 3) := by decide +kernel
theorem dX10_lives_4 : decode cX10_lives 4 = .ok (.iload_n 1, 1) := by decide +kernel
theorem dX10_lives_5 : decode cX10_lives 5 = .ok (.iload_n 2, 1) := by decide +kernel
theorem dX10_lives_6 : decode cX10_lives 6 = .ok (.iastore, 1) := by decide +kernel
theorem dX10_lives_7 : decode cX10_lives 7 = .ok (.aload_n 0, 1) := by decide +kernel
theorem dX10_lives_8 : decode cX10_lives 8 = .ok (.getfield 44, 3) := by decide +kernel
theorem dX10_lives_11 : decode cX10_lives 11 = .ok (.iload_n 1, 1) := by decide +kernel
theorem dX10_lives_12 : decode cX10_lives 12 = .ok (.iload_n 3, 1) := by decide +kernel
theorem dX10_lives_13 : decode cX10_lives 13 = .ok (.iastore, 1) := by decide +kernel
theorem dX10_lives_14 : decode cX10_lives 14 = .ok (.aload_n 0, 1) := by decide +kernel
theorem dX10_lives_15 : decode cX10_lives 15 = .ok (.getfield 47, 3) := by decide +kernel
theorem dX10_lives_18 : decode cX10_lives 18 = .ok (.iload_n 1, 1) := by decide +kernel
theorem dX10_lives_19 : decode cX10_lives 19 = .ok (.iload 4, 2) := by decide +kernel
theorem dX10_lives_21 : decode cX10_lives 21 = .ok (.iastore, 1) := by decide +kernel
theorem dX10_lives_22 : decode cX10_lives 22 = .ok (.aload_n 0, 1) := by decide +kernel
theorem dX10_lives_23 : decode cX10_lives 23 = .ok (.getfield 50, 3) := by decide +kernel
theorem dX10_lives_26 : decode cX10_lives 26 = .ok (.iload_n 1, 1) := by decide +kernel
theorem dX10_lives_27 : decode cX10_lives 27 = .ok (.iload 5, 2) := by decide +kernel
theorem dX10_lives_29 : decode cX10_lives 29 = .ok (.iastore, 1) := by decide +kernel
theorem dX10_lives_30 : decode cX10_lives 30 = .ok (.return_, 1) := by decide +kernel
def wNX10_person : Nat := 1149503614772141713722875741673758979167775741058603354391312982969752539978492568504757700889228334824030942078945370959037706038466158335471830399522625777614679705815194908084147769876626597510366412947502005386420332565711770948992520795178
theorem wX10_person_c : hz_cd cX10_person wNX10_person 101 := ⟨by decide +kernel, by decide +kernel⟩
theorem dX10_person_0 : decode cX10_person 0 = .ok (.aload_n 0, 1) := dw_42 wX10_person_c rfl
theorem dX10_person_1 : decode cX10_person 1 = .ok (.getfield 337, 3) := dw_180 wX10_person_c 1 81 rfl rfl
theorem dX10_person_4 : decode cX10_person 4 = .ok (.bipush 40, 2) := dw_16 wX10_person_c 40 rfl rfl rfl
theorem dX10_person_6 : decode cX10_person 6 = .ok (.if_icmp .eq 39, 3) := dw_159 wX10_person_c 0 39 rfl rfl rfl
theorem dX10_person_9 : decode cX10_person 9 = .ok (.iload_n 1, 1) := dw_27 wX10_person_c rfl
theorem dX10_person_10 : decode cX10_person 10 = .ok (.sipush (-30000), 3) := dn_17 wX10_person_c 138 208 rfl (by decide)
theorem dX10_person_13 : decode cX10_person 13 = .ok (.sipush 7999, 3) := dw_17 wX10_person_c 31 63 rfl rfl rfl
theorem dX10_person_16 : decode cX10_person 16 = .ok (.invokestatic 228, 3) := dw_184 wX10_person_c 0 228 rfl rfl
theorem dX10_person_19 : decode cX10_person 19 = .ok (.ifCond .eq 26, 3) := dw_153 wX10_person_c 0 26 rfl rfl rfl
theorem dX10_person_22 : decode cX10_person 22 = .ok (.iload_n 2, 1) := dw_28 wX10_person_c rfl
theorem dX10_person_23 : decode cX10_person 23 = .ok (.iload_n 3, 1) := dw_29 wX10_person_c rfl
theorem dX10_person_24 : decode cX10_person 24 = .ok (.iload 4, 2) := dw_21 wX10_person_c 4 rfl
theorem dX10_person_26 : decode cX10_person 26 = .ok (.iload 5, 2) := dw_21 wX10_person_c 5 rfl
theorem dX10_person_28 : decode cX10_person 28 = .ok (.invokestatic 340, 3) := dw_184 wX10_person_c 1 84 rfl rfl
theorem dX10_person_31 : decode cX10_person 31 = .ok (.ifCond .eq 14, 3) := dw_153 wX10_person_c 0 14 rfl rfl rfl
theorem dX10_person_34 : decode cX10_person 34 = .ok (.iload 6, 2) := dw_21 wX10_person_c 6 rfl
theorem dX10_person_36 : decode cX10_person 36 = .ok (.iconst (-1), 1) := dw_2 wX10_person_c rfl
theorem dX10_person_37 : decode cX10_person 37 = .ok (.bipush 19, 2) := dw_16 wX10_person_c 19 rfl rfl rfl
theorem dX10_person_39 : decode cX10_person 39 = .ok (.invokestatic 228, 3) := dw_184 wX10_person_c 0 228 rfl rfl
theorem dX10_person_42 : decode cX10_person 42 = .ok (.ifCond .ne 5, 3) := dw_154 wX10_person_c 0 5 rfl rfl rfl
theorem dX10_person_45 : decode cX10_person 45 = .ok (.iconst (-1), 1) := dw_2 wX10_person_c rfl
theorem dX10_person_46 : decode cX10_person 46 = .ok (.ireturn, 1) := dw_172 wX10_person_c rfl
theorem dX10_person_47 : decode cX10_person 47 = .ok (.aload_n 0, 1) := dw_42 wX10_person_c rfl
theorem dX10_person_48 : decode cX10_person 48 = .ok (.getfield 38, 3) := dw_180 wX10_person_c 0 38 rfl rfl
theorem dX10_person_51 : decode cX10_person 51 = .ok (.aload_n 0, 1) := dw_42 wX10_person_c rfl
theorem dX10_person_52 : decode cX10_person 52 = .ok (.getfield 337, 3) := dw_180 wX10_person_c 1 81 rfl rfl
theorem dX10_person_55 : decode cX10_person 55 = .ok (.iload_n 1, 1) := dw_27 wX10_person_c rfl
theorem dX10_person_56 : decode cX10_person 56 = .ok (.iastore, 1) := dw_79 wX10_person_c rfl
theorem dX10_person_57 : decode cX10_person 57 = .ok (.aload_n 0, 1) := dw_42 wX10_person_c rfl
theorem dX10_person_58 : decode cX10_person 58 = .ok (.getfield 53, 3) := dw_180 wX10_person_c 0 53 rfl rfl
theorem dX10_person_61 : decode cX10_person 61 = .ok (.aload_n 0, 1) := dw_42 wX10_person_c rfl
theorem dX10_person_62 : decode cX10_person 62 = .ok (.getfield 337, 3) := dw_180 wX10_person_c 1 81 rfl rfl
theorem dX10_person_65 : decode cX10_person 65 = .ok (.iload 6, 2) := dw_21 wX10_person_c 6 rfl
theorem dX10_person_67 : decode cX10_person 67 = .ok (.iastore, 1) := dw_79 wX10_person_c rfl
theorem dX10_person_68 : decode cX10_person 68 = .ok (.aload_n 0, 1) := dw_42 wX10_person_c rfl
theorem dX10_person_69 : decode cX10_person 69 = .ok (.dup, 1) := dw_89 wX10_person_c rfl
theorem dX10_person_70 : decode cX10_person 70 = .ok (.getfield 337, 3) := dw_180 wX10_person_c 1 81 rfl rfl
theorem dX10_person_73 : decode cX10_person 73 = .ok (.iconst 1, 1) := dw_4 wX10_person_c rfl
theorem dX10_person_74 : decode cX10_person 74 = .ok (.iadd, 1) := dw_96 wX10_person_c rfl
theorem dX10_person_75 : decode cX10_person 75 = .ok (.putfield 337, 3) := dw_181 wX10_person_c 1 81 rfl rfl
theorem dX10_person_78 : decode cX10_person 78 = .ok (.aload_n 0, 1) := dw_42 wX10_person_c rfl
theorem dX10_person_79 : decode cX10_person 79 = .ok (.aload_n 0, 1) := dw_42 wX10_person_c rfl
theorem dX10_person_80 : decode cX10_person 80 = .ok (.getfield 337, 3) := dw_180 wX10_person_c 1 81 rfl rfl
theorem dX10_person_83 : decode cX10_person 83 = .ok (.iconst 1, 1) := dw_4 wX10_person_c rfl
theorem dX10_person_84 : decode cX10_person 84 = .ok (.isub, 1) := dw_100 wX10_person_c rfl
theorem dX10_person_85 : decode cX10_person 85 = .ok (.iload_n 2, 1) := dw_28 wX10_person_c rfl
theorem dX10_person_86 : decode cX10_person 86 = .ok (.iload_n 3, 1) := dw_29 wX10_person_c rfl
theorem dX10_person_87 : decode cX10_person 87 = .ok (.iload 4, 2) := dw_21 wX10_person_c 4 rfl
theorem dX10_person_89 : decode cX10_person 89 = .ok (.iload 5, 2) := dw_21 wX10_person_c 5 rfl
theorem dX10_person_91 : decode cX10_person 91 = .ok (.invokevirtual 344, 3) := dw_182 wX10_person_c 1 88 rfl rfl
theorem dX10_person_94 : decode cX10_person 94 = .ok (.aload_n 0, 1) := dw_42 wX10_person_c rfl
theorem dX10_person_95 : decode cX10_person 95 = .ok (.getfield 337, 3) := dw_180 wX10_person_c 1 81 rfl rfl
theorem dX10_person_98 : decode cX10_person 98 = .ok (.iconst 1, 1) := dw_4 wX10_person_c rfl
theorem dX10_person_99 : decode cX10_person 99 = .ok (.isub, 1) := dw_100 wX10_person_c rfl
theorem dX10_person_100 : decode cX10_person 100 = .ok (.ireturn, 1) := dw_172 wX10_person_c rfl
def wNX10_anew : Nat := 6164385589829512822558124397220836951167763639692130188786473307277179352362289065970866167434850149473066
theorem wX10_anew_c : hz_cd cX10_anew wNX10_anew 44 := ⟨by decide +kernel, by decide +kernel⟩
theorem dX10_anew_0 : decode cX10_anew 0 = .ok (.aload_n 0, 1) := dw_42 wX10_anew_c rfl
theorem dX10_anew_1 : decode cX10_anew 1 = .ok (.iload_n 1, 1) := dw_27 wX10_anew_c rfl
theorem dX10_anew_2 : decode cX10_anew 2 = .ok (.invokevirtual 348, 3) := dw_182 wX10_anew_c 1 92 rfl rfl
theorem dX10_anew_5 : decode cX10_anew 5 = .ok (.ifCond .eq 24, 3) := dw_153 wX10_anew_c 0 24 rfl rfl rfl
theorem dX10_anew_8 : decode cX10_anew 8 = .ok (.aload_n 0, 1) := dw_42 wX10_anew_c rfl
theorem dX10_anew_9 : decode cX10_anew 9 = .ok (.getfield 56, 3) := dw_180 wX10_anew_c 0 56 rfl rfl
theorem dX10_anew_12 : decode cX10_anew 12 = .ok (.iload_n 1, 1) := dw_27 wX10_anew_c rfl
theorem dX10_anew_13 : decode cX10_anew 13 = .ok (.baload, 1) := dw_51 wX10_anew_c rfl
theorem dX10_anew_14 : decode cX10_anew 14 = .ok (.ifCond .ne 15, 3) := dw_154 wX10_anew_c 0 15 rfl rfl rfl
theorem dX10_anew_17 : decode cX10_anew 17 = .ok (.iload_n 2, 1) := dw_28 wX10_anew_c rfl
theorem dX10_anew_18 : decode cX10_anew 18 = .ok (.iload_n 3, 1) := dw_29 wX10_anew_c rfl
theorem dX10_anew_19 : decode cX10_anew 19 = .ok (.iload 4, 2) := dw_21 wX10_anew_c 4 rfl
theorem dX10_anew_21 : decode cX10_anew 21 = .ok (.iload 5, 2) := dw_21 wX10_anew_c 5 rfl
theorem dX10_anew_23 : decode cX10_anew 23 = .ok (.invokestatic 340, 3) := dw_184 wX10_anew_c 1 84 rfl rfl
theorem dX10_anew_26 : decode cX10_anew 26 = .ok (.ifCond .ne 5, 3) := dw_154 wX10_anew_c 0 5 rfl rfl rfl
theorem dX10_anew_29 : decode cX10_anew 29 = .ok (.iconst 0, 1) := dw_3 wX10_anew_c rfl
theorem dX10_anew_30 : decode cX10_anew 30 = .ok (.ireturn, 1) := dw_172 wX10_anew_c rfl
theorem dX10_anew_31 : decode cX10_anew 31 = .ok (.aload_n 0, 1) := dw_42 wX10_anew_c rfl
theorem dX10_anew_32 : decode cX10_anew 32 = .ok (.iload_n 1, 1) := dw_27 wX10_anew_c rfl
theorem dX10_anew_33 : decode cX10_anew 33 = .ok (.iload_n 2, 1) := dw_28 wX10_anew_c rfl
theorem dX10_anew_34 : decode cX10_anew 34 = .ok (.iload_n 3, 1) := dw_29 wX10_anew_c rfl
theorem dX10_anew_35 : decode cX10_anew 35 = .ok (.iload 4, 2) := dw_21 wX10_anew_c 4 rfl
theorem dX10_anew_37 : decode cX10_anew 37 = .ok (.iload 5, 2) := dw_21 wX10_anew_c 5 rfl
theorem dX10_anew_39 : decode cX10_anew 39 = .ok (.invokevirtual 344, 3) := dw_182 wX10_anew_c 1 88 rfl rfl
theorem dX10_anew_42 : decode cX10_anew 42 = .ok (.iconst 1, 1) := dw_4 wX10_anew_c rfl
theorem dX10_anew_43 : decode cX10_anew 43 = .ok (.ireturn, 1) := dw_172 wX10_anew_c rfl
theorem dX10_dies_0 : decode cX10_dies 0 = .ok (.aload_n 0, 1) := by decide +kernel
theorem dX10_dies_1 : decode cX10_dies 1 = .ok (.iload_n 1, 1) := by decide +kernel
theorem dX10_dies_2 : decode cX10_dies 2 = .ok (.invokevirtual 348, 3) := by decide +kernel
theorem dX10_dies_5 : decode cX10_dies 5 = .ok (.ifCond .eq 12, 3) := by decide +kernel
theorem dX10_dies_8 : decode cX10_dies 8 = .ok (.aload_n 0, 1) := by decide +kernel
theorem dX10_dies_9 : decode cX10_dies 9 = .ok (.getfield 56, 3) := by decide +kernel
theorem dX10_dies_12 : decode cX10_dies 12 = .ok (.iload_n 1, 1) := by decide +kernel
theorem dX10_dies_13 : decode cX10_dies 13 = .ok (.baload, 1) := by decide +kernel
theorem dX10_dies_14 : decode cX10_dies 14 = .ok (.ifCond .eq 5, 3) := by decide +kernel
theorem dX10_dies_17 : decode cX10_dies 17 = .ok (.iconst 0, 1) := by decide +kernel
theorem dX10_dies_18 : decode cX10_dies 18 = .ok (.ireturn, 1) := by decide +kernel
theorem dX10_dies_19 : decode cX10_dies 19 = .ok (.aload_n 0, 1) := by decide +kernel
theorem dX10_dies_20 : decode cX10_dies 20 = .ok (.getfield 56, 3) := by decide +kernel
theorem dX10_dies_23 : decode cX10_dies 23 = .ok (.iload_n 1, 1) := by decide +kernel
theorem dX10_dies_24 : decode cX10_dies 24 = .ok (.iconst 1, 1) := by decide +kernel
theorem dX10_dies_25 : decode cX10_dies 25 = .ok (.bastore, 1) := by decide +kernel
theorem dX10_dies_26 : decode cX10_dies 26 = .ok (.iconst 1, 1) := by decide +kernel
theorem dX10_dies_27 : decode cX10_dies 27 = .ok (.ireturn, 1) := by decide +kernel
theorem dX10_judge_0 : decode cX10_judge 0 = .ok (.aload_n 0, 1) := by decide +kernel
theorem dX10_judge_1 : decode cX10_judge 1 = .ok (.iload_n 1, 1) := by decide +kernel
theorem dX10_judge_2 : decode cX10_judge 2 = .ok (.invokevirtual 348, 3) := by decide +kernel
theorem dX10_judge_5 : decode cX10_judge 5 = .ok (.ifCond .eq 13, 3) := by decide +kernel
theorem dX10_judge_8 : decode cX10_judge 8 = .ok (.aload_n 0, 1) := by decide +kernel
theorem dX10_judge_9 : decode cX10_judge 9 = .ok (.getfield 60, 3) := by decide +kernel
theorem dX10_judge_12 : decode cX10_judge 12 = .ok (.iload_n 1, 1) := by decide +kernel
theorem dX10_judge_13 : decode cX10_judge 13 = .ok (.baload, 1) := by decide +kernel
theorem dX10_judge_14 : decode cX10_judge 14 = .ok (.iload_n 2, 1) := by decide +kernel
theorem dX10_judge_15 : decode cX10_judge 15 = .ok (.if_icmp .ne 5, 3) := by decide +kernel
theorem dX10_judge_18 : decode cX10_judge 18 = .ok (.iconst 0, 1) := by decide +kernel
theorem dX10_judge_19 : decode cX10_judge 19 = .ok (.ireturn, 1) := by decide +kernel
theorem dX10_judge_20 : decode cX10_judge 20 = .ok (.aload_n 0, 1) := by decide +kernel
theorem dX10_judge_21 : decode cX10_judge 21 = .ok (.getfield 60, 3) := by decide +kernel
theorem dX10_judge_24 : decode cX10_judge 24 = .ok (.iload_n 1, 1) := by decide +kernel
theorem dX10_judge_25 : decode cX10_judge 25 = .ok (.iload_n 2, 1) := by decide +kernel
theorem dX10_judge_26 : decode cX10_judge 26 = .ok (.bastore, 1) := by decide +kernel
theorem dX10_judge_27 : decode cX10_judge 27 = .ok (.iconst 1, 1) := by decide +kernel
theorem dX10_judge_28 : decode cX10_judge 28 = .ok (.ireturn, 1) := by decide +kernel
def wNX10_line : Nat := 34070608439449538014531377661929491716560614847277675171907444259400306433274418471996239279707099514078483166049542252838516753509963513813720641596426906349132669139191951279090591217941730814386849182080964508494969920955874882786901495426520167323009494904736018873614196580790467210530859872867726013848057945293698090
theorem wX10_line_c : hz_cd cX10_line wNX10_line 134 := ⟨by decide +kernel, by decide +kernel⟩
theorem dX10_line_0 : decode cX10_line 0 = .ok (.aload_n 0, 1) := dw_42 wX10_line_c rfl
theorem dX10_line_1 : decode cX10_line 1 = .ok (.getfield 351, 3) := dw_180 wX10_line_c 1 95 rfl rfl
theorem dX10_line_4 : decode cX10_line 4 = .ok (.sipush 400, 3) := dw_17 wX10_line_c 1 144 rfl rfl rfl
theorem dX10_line_7 : decode cX10_line 7 = .ok (.if_icmp .eq 58, 3) := dw_159 wX10_line_c 0 58 rfl rfl rfl
theorem dX10_line_10 : decode cX10_line 10 = .ok (.aload_n 0, 1) := dw_42 wX10_line_c rfl
theorem dX10_line_11 : decode cX10_line 11 = .ok (.iload_n 1, 1) := dw_27 wX10_line_c rfl
theorem dX10_line_12 : decode cX10_line 12 = .ok (.invokevirtual 348, 3) := dw_182 wX10_line_c 1 92 rfl rfl
theorem dX10_line_15 : decode cX10_line 15 = .ok (.ifCond .eq 50, 3) := dw_153 wX10_line_c 0 50 rfl rfl rfl
theorem dX10_line_18 : decode cX10_line 18 = .ok (.aload_n 0, 1) := dw_42 wX10_line_c rfl
theorem dX10_line_19 : decode cX10_line 19 = .ok (.iload_n 2, 1) := dw_28 wX10_line_c rfl
theorem dX10_line_20 : decode cX10_line 20 = .ok (.invokevirtual 348, 3) := dw_182 wX10_line_c 1 92 rfl rfl
theorem dX10_line_23 : decode cX10_line 23 = .ok (.ifCond .eq 42, 3) := dw_153 wX10_line_c 0 42 rfl rfl rfl
theorem dX10_line_26 : decode cX10_line 26 = .ok (.iload_n 1, 1) := dw_27 wX10_line_c rfl
theorem dX10_line_27 : decode cX10_line 27 = .ok (.iload_n 2, 1) := dw_28 wX10_line_c rfl
theorem dX10_line_28 : decode cX10_line 28 = .ok (.if_icmp .eq 37, 3) := dw_159 wX10_line_c 0 37 rfl rfl rfl
theorem dX10_line_31 : decode cX10_line 31 = .ok (.iload_n 3, 1) := dw_29 wX10_line_c rfl
theorem dX10_line_32 : decode cX10_line 32 = .ok (.iconst 0, 1) := dw_3 wX10_line_c rfl
theorem dX10_line_33 : decode cX10_line 33 = .ok (.aload_n 0, 1) := dw_42 wX10_line_c rfl
theorem dX10_line_34 : decode cX10_line 34 = .ok (.getfield 232, 3) := dw_180 wX10_line_c 0 232 rfl rfl
theorem dX10_line_37 : decode cX10_line 37 = .ok (.invokestatic 228, 3) := dw_184 wX10_line_c 0 228 rfl rfl
theorem dX10_line_40 : decode cX10_line 40 = .ok (.ifCond .eq 25, 3) := dw_153 wX10_line_c 0 25 rfl rfl rfl
theorem dX10_line_43 : decode cX10_line 43 = .ok (.iload 4, 2) := dw_21 wX10_line_c 4 rfl
theorem dX10_line_45 : decode cX10_line 45 = .ok (.iconst 0, 1) := dw_3 wX10_line_c rfl
theorem dX10_line_46 : decode cX10_line 46 = .ok (.iconst 3, 1) := dw_6 wX10_line_c rfl
theorem dX10_line_47 : decode cX10_line 47 = .ok (.invokestatic 228, 3) := dw_184 wX10_line_c 0 228 rfl rfl
theorem dX10_line_50 : decode cX10_line 50 = .ok (.ifCond .eq 15, 3) := dw_153 wX10_line_c 0 15 rfl rfl rfl
theorem dX10_line_53 : decode cX10_line 53 = .ok (.iload 5, 2) := dw_21 wX10_line_c 5 rfl
theorem dX10_line_55 : decode cX10_line 55 = .ok (.iconst 1, 1) := dw_4 wX10_line_c rfl
theorem dX10_line_56 : decode cX10_line 56 = .ok (.sipush 9999, 3) := dw_17 wX10_line_c 39 15 rfl rfl rfl
theorem dX10_line_59 : decode cX10_line 59 = .ok (.invokestatic 228, 3) := dw_184 wX10_line_c 0 228 rfl rfl
theorem dX10_line_62 : decode cX10_line 62 = .ok (.ifCond .ne 5, 3) := dw_154 wX10_line_c 0 5 rfl rfl rfl
theorem dX10_line_65 : decode cX10_line 65 = .ok (.iconst (-1), 1) := dw_2 wX10_line_c rfl
theorem dX10_line_66 : decode cX10_line 66 = .ok (.ireturn, 1) := dw_172 wX10_line_c rfl
theorem dX10_line_67 : decode cX10_line 67 = .ok (.aload_n 0, 1) := dw_42 wX10_line_c rfl
theorem dX10_line_68 : decode cX10_line 68 = .ok (.getfield 63, 3) := dw_180 wX10_line_c 0 63 rfl rfl
theorem dX10_line_71 : decode cX10_line 71 = .ok (.aload_n 0, 1) := dw_42 wX10_line_c rfl
theorem dX10_line_72 : decode cX10_line 72 = .ok (.getfield 351, 3) := dw_180 wX10_line_c 1 95 rfl rfl
theorem dX10_line_75 : decode cX10_line 75 = .ok (.iload_n 1, 1) := dw_27 wX10_line_c rfl
theorem dX10_line_76 : decode cX10_line 76 = .ok (.iastore, 1) := dw_79 wX10_line_c rfl
theorem dX10_line_77 : decode cX10_line 77 = .ok (.aload_n 0, 1) := dw_42 wX10_line_c rfl
theorem dX10_line_78 : decode cX10_line 78 = .ok (.getfield 66, 3) := dw_180 wX10_line_c 0 66 rfl rfl
theorem dX10_line_81 : decode cX10_line 81 = .ok (.aload_n 0, 1) := dw_42 wX10_line_c rfl
theorem dX10_line_82 : decode cX10_line 82 = .ok (.getfield 351, 3) := dw_180 wX10_line_c 1 95 rfl rfl
theorem dX10_line_85 : decode cX10_line 85 = .ok (.iload_n 2, 1) := dw_28 wX10_line_c rfl
theorem dX10_line_86 : decode cX10_line 86 = .ok (.iastore, 1) := dw_79 wX10_line_c rfl
theorem dX10_line_87 : decode cX10_line 87 = .ok (.aload_n 0, 1) := dw_42 wX10_line_c rfl
theorem dX10_line_88 : decode cX10_line 88 = .ok (.getfield 69, 3) := dw_180 wX10_line_c 0 69 rfl rfl
theorem dX10_line_91 : decode cX10_line 91 = .ok (.aload_n 0, 1) := dw_42 wX10_line_c rfl
theorem dX10_line_92 : decode cX10_line 92 = .ok (.getfield 351, 3) := dw_180 wX10_line_c 1 95 rfl rfl
theorem dX10_line_95 : decode cX10_line 95 = .ok (.iload_n 3, 1) := dw_29 wX10_line_c rfl
theorem dX10_line_96 : decode cX10_line 96 = .ok (.iastore, 1) := dw_79 wX10_line_c rfl
theorem dX10_line_97 : decode cX10_line 97 = .ok (.aload_n 0, 1) := dw_42 wX10_line_c rfl
theorem dX10_line_98 : decode cX10_line 98 = .ok (.getfield 72, 3) := dw_180 wX10_line_c 0 72 rfl rfl
theorem dX10_line_101 : decode cX10_line 101 = .ok (.aload_n 0, 1) := dw_42 wX10_line_c rfl
theorem dX10_line_102 : decode cX10_line 102 = .ok (.getfield 351, 3) := dw_180 wX10_line_c 1 95 rfl rfl
theorem dX10_line_105 : decode cX10_line 105 = .ok (.iload 4, 2) := dw_21 wX10_line_c 4 rfl
theorem dX10_line_107 : decode cX10_line 107 = .ok (.iastore, 1) := dw_79 wX10_line_c rfl
theorem dX10_line_108 : decode cX10_line 108 = .ok (.aload_n 0, 1) := dw_42 wX10_line_c rfl
theorem dX10_line_109 : decode cX10_line 109 = .ok (.getfield 75, 3) := dw_180 wX10_line_c 0 75 rfl rfl
theorem dX10_line_112 : decode cX10_line 112 = .ok (.aload_n 0, 1) := dw_42 wX10_line_c rfl
theorem dX10_line_113 : decode cX10_line 113 = .ok (.getfield 351, 3) := dw_180 wX10_line_c 1 95 rfl rfl
theorem dX10_line_116 : decode cX10_line 116 = .ok (.iload 5, 2) := dw_21 wX10_line_c 5 rfl
theorem dX10_line_118 : decode cX10_line 118 = .ok (.iastore, 1) := dw_79 wX10_line_c rfl
theorem dX10_line_119 : decode cX10_line 119 = .ok (.aload_n 0, 1) := dw_42 wX10_line_c rfl
theorem dX10_line_120 : decode cX10_line 120 = .ok (.dup, 1) := dw_89 wX10_line_c rfl
theorem dX10_line_121 : decode cX10_line 121 = .ok (.getfield 351, 3) := dw_180 wX10_line_c 1 95 rfl rfl
theorem dX10_line_124 : decode cX10_line 124 = .ok (.iconst 1, 1) := dw_4 wX10_line_c rfl
theorem dX10_line_125 : decode cX10_line 125 = .ok (.iadd, 1) := dw_96 wX10_line_c rfl
theorem dX10_line_126 : decode cX10_line 126 = .ok (.putfield 351, 3) := dw_181 wX10_line_c 1 95 rfl rfl
theorem dX10_line_129 : decode cX10_line 129 = .ok (.aload_n 0, 1) := dw_42 wX10_line_c rfl
theorem dX10_line_130 : decode cX10_line 130 = .ok (.getfield 351, 3) := dw_180 wX10_line_c 1 95 rfl rfl
theorem dX10_line_133 : decode cX10_line 133 = .ok (.ireturn, 1) := dw_172 wX10_line_c rfl