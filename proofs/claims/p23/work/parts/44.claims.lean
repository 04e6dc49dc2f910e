theorem dX10_isClaim_0 : decode cX10_isClaim 0 = .ok (.iload_n 1, 1) := by decide +kernel
theorem dX10_isClaim_1 : decode cX10_isClaim 1 = .ok (.iconst 0, 1) := by decide +kernel
theorem dX10_isClaim_2 : decode cX10_isClaim 2 = .ok (.aload_n 0, 1) := by decide +kernel
theorem dX10_isClaim_3 : decode cX10_isClaim 3 = .ok (.getfield 367, 3) := by decide +kernel
theorem dX10_isClaim_6 : decode cX10_isClaim 6 = .ok (.iconst 1, 1) := by decide +kernel
theorem dX10_isClaim_7 : decode cX10_isClaim 7 = .ok (.isub, 1) := by decide +kernel
theorem dX10_isClaim_8 : decode cX10_isClaim 8 = .ok (.invokestatic 228, 3) := by decide +kernel
theorem dX10_isClaim_11 : decode cX10_isClaim 11 = .ok (.ireturn, 1) := by decide +kernel
set_option maxHeartbeats 4000000 in
set_option maxRecDepth 100000 in
theorem t_X10_isClaim (l : Launch) (dC : Nat → ClassId) (dI : Nat → Nat → Nat) (dA : Nat → ClassId) (L : List Nat) (h : hx_h) (sz : Nat) (x : Nat) (i1 : Int32) (hT : hx_T T_tb L h) (gx : hx_g L h x 10) (c0 : Int32) (f_x_36 : h.2.1 x 36 = c0) : Met l yX10_isClaim (Cond.code yX10_isClaim cX10_isClaim 2 (some .boolean) :: hx_all) ({ frames := 1, cells := 0, slots := 0, locals := 22 }) (va_Pc [.ref x, .int i1] (hx_B T_tb (P_ty dA) (dC, dI) vwCl L h sz)) (va_Qi (fun (r : Int32) (u : List Nat × hx_h) => ((r.toInt = 0 ∧ (i1.toInt < 0 ∨ c0.toInt ≤ i1.toInt)) ∨ (r.toInt = 1 ∧ 0 ≤ i1.toInt ∧ i1.toInt < c0.toInt)) ∧ hx_T T_tb u.1 u.2 ∧ hx_S T_tb [] L h u.1 u.2) (hx_E T_tb (P_ty dA) (dC, dI) vwCl (hx_A L sz)) (hx_A L sz)) 0 0 (hx_A L sz) := by
  refine hx_met (lv := [(0, .ref x), (1, .int i1)]) (by decide +kernel) rfl (Nat.le_of_ble_eq_true rfl) rfl ?_
  intro p e s m below meth c hx hb hml hr hlk hts0 hown hin hsz hW ls hl
  have hts : ∀ w ∈ hx_all, w.before _ s = true := fun w hw => hts0 w (List.mem_cons_of_mem _ hw)
  have hown : s.vm.findClass "SmallCourtModel" = some m.cls := hown
  have hM : hx_S T_tb [] L h L h := hx_S.rf
  have b_c0 := hT.gi gx tt_10 (k := 36) rfl
  rw [f_x_36] at b_c0
  have b_c0 : 0 ≤ c0.toInt ∧ c0.toInt ≤ 100 := b_c0
  refine lv_iload_n hx hb dX10_isClaim_0 rfl (lv_at hl 1 rfl) ?_
  refine lv_iconst (v := 0) hx hb dX10_isClaim_1 (by decide) ?_
  refine lv_aload_n hx hb dX10_isClaim_2 rfl (lv_at hl 0 rfl) ?_
  refine hk_geti hx hb hts hC_10 hown hW (gx.S hM) tt_10 36 (by decide) rfl kw_1179 ⟨rfl, rfl, rfl⟩ ((hM.o gx trivial rfl).1.trans f_x_36) dX10_isClaim_3 ?_
  refine lv_iconst (v := 1) hx hb dX10_isClaim_6 (by decide) ?_
  refine lv_isub hx hb dX10_isClaim_7 ?_
  have rg_1 := i32_r c0
  refine lv_topi (fun x_2 ex_2 => ?_)
  have zx_2 : x_2.toInt = c0.toInt - 1 := by rw [ex_2]; exact i32_sub rfl (by decide) (by omega) (by omega)
  have zc_0 : (0 : Int32).toInt = 0 := by decide
  refine hx_goi (hx_runS (As := [.int i1, .int (0 : Int32), .int x_2]) (rest := []) ⟨hx, hb, hml, hown, hts⟩ hW (t_X10_in l dC dI dA L h s.heap.size i1 (0 : Int32) x_2 hT) (va_cwS 3 hts (hx_gS kw_1445 kw_1443 kw_1444 kw_103) rfl rfl rfl (by decide +kernel) ⟨Nat.le_of_ble_eq_true rfl, Nat.le_of_ble_eq_true rfl⟩) rfl hl.1 rfl (Nat.le_of_ble_eq_true rfl) dX10_isClaim_8 ⟨Nat.le_of_ble_eq_true rfl, Nat.le_of_ble_eq_true rfl⟩) hW (fun r_5 L_3 h_4 H locs p_6 hW => ?_)
  obtain ⟨hr_7, hT, hs⟩ := p_6
  replace hT : hx_T T_tb L_3 h_4 := hT
  replace hs : hx_S T_tb [] L h L_3 h_4 := hs
  replace hM := hM.tr (hs.mono (by decide))
  exact hx_retz hx hb hr (hx_nar01 (by omega)) hlk hW ⟨(by first | omega | (refine ⟨?_, ?_⟩ <;> omega)), hT, hM⟩ dX10_isClaim_11

def wNX10_isKinOf : Nat := 1305320053752144183215778759298873829143798054320540569102628633978058740920815131675
theorem wX10_isKinOf_c : hz_cd cX10_isKinOf wNX10_isKinOf 35 := ⟨by decide +kernel, by decide +kernel⟩
theorem dX10_isKinOf_0 : decode cX10_isKinOf 0 = .ok (.iload_n 1, 1) := dw_27 wX10_isKinOf_c rfl
theorem dX10_isKinOf_1 : decode cX10_isKinOf 1 = .ok (.iload_n 2, 1) := dw_28 wX10_isKinOf_c rfl
theorem dX10_isKinOf_2 : decode cX10_isKinOf 2 = .ok (.if_icmp .eq 27, 3) := dw_159 wX10_isKinOf_c 0 27 rfl rfl rfl
theorem dX10_isKinOf_5 : decode cX10_isKinOf 5 = .ok (.aload_n 0, 1) := dw_42 wX10_isKinOf_c rfl
theorem dX10_isKinOf_6 : decode cX10_isKinOf 6 = .ok (.getfield 53, 3) := dw_180 wX10_isKinOf_c 0 53 rfl rfl
theorem dX10_isKinOf_9 : decode cX10_isKinOf 9 = .ok (.iload_n 1, 1) := dw_27 wX10_isKinOf_c rfl
theorem dX10_isKinOf_10 : decode cX10_isKinOf 10 = .ok (.iaload, 1) := dw_46 wX10_isKinOf_c rfl
theorem dX10_isKinOf_11 : decode cX10_isKinOf 11 = .ok (.ifCond .lt 22, 3) := dw_155 wX10_isKinOf_c 0 22 rfl rfl rfl
theorem dX10_isKinOf_14 : decode cX10_isKinOf 14 = .ok (.aload_n 0, 1) := dw_42 wX10_isKinOf_c rfl
theorem dX10_isKinOf_15 : decode cX10_isKinOf 15 = .ok (.getfield 53, 3) := dw_180 wX10_isKinOf_c 0 53 rfl rfl
theorem dX10_isKinOf_18 : decode cX10_isKinOf 18 = .ok (.iload_n 1, 1) := dw_27 wX10_isKinOf_c rfl
theorem dX10_isKinOf_19 : decode cX10_isKinOf 19 = .ok (.iaload, 1) := dw_46 wX10_isKinOf_c rfl
theorem dX10_isKinOf_20 : decode cX10_isKinOf 20 = .ok (.aload_n 0, 1) := dw_42 wX10_isKinOf_c rfl
theorem dX10_isKinOf_21 : decode cX10_isKinOf 21 = .ok (.getfield 53, 3) := dw_180 wX10_isKinOf_c 0 53 rfl rfl
theorem dX10_isKinOf_24 : decode cX10_isKinOf 24 = .ok (.iload_n 2, 1) := dw_28 wX10_isKinOf_c rfl
theorem dX10_isKinOf_25 : decode cX10_isKinOf 25 = .ok (.iaload, 1) := dw_46 wX10_isKinOf_c rfl
theorem dX10_isKinOf_26 : decode cX10_isKinOf 26 = .ok (.if_icmp .ne 7, 3) := dw_160 wX10_isKinOf_c 0 7 rfl rfl rfl
theorem dX10_isKinOf_29 : decode cX10_isKinOf 29 = .ok (.iconst 1, 1) := dw_4 wX10_isKinOf_c rfl
theorem dX10_isKinOf_30 : decode cX10_isKinOf 30 = .ok (.goto 4, 3) := dw_167 wX10_isKinOf_c 0 4 rfl rfl rfl
theorem dX10_isKinOf_33 : decode cX10_isKinOf 33 = .ok (.iconst 0, 1) := dw_3 wX10_isKinOf_c rfl
theorem dX10_isKinOf_34 : decode cX10_isKinOf 34 = .ok (.ireturn, 1) := dw_172 wX10_isKinOf_c rfl
def wNX10_isSplit : Nat := 99915791037386316890749977896974985855570775436963467155989288221190845587372908536238915571130098976388212785517895150392715329417623155609764772395702878708571776297951075489367333666592427984782326057348536171967409693659910167458890094746909489782315667558414100650726555025358339
theorem wX10_isSplit_c : hz_cd cX10_isSplit wNX10_isSplit 118 := ⟨by decide +kernel, by decide +kernel⟩
theorem dX10_isSplit_0 : decode cX10_isSplit 0 = .ok (.iconst 0, 1) := dw_3 wX10_isSplit_c rfl
theorem dX10_isSplit_1 : decode cX10_isSplit 1 = .ok (.istore_n 3, 1) := dw_62 wX10_isSplit_c rfl
theorem dX10_isSplit_2 : decode cX10_isSplit 2 = .ok (.iconst 0, 1) := dw_3 wX10_isSplit_c rfl
theorem dX10_isSplit_3 : decode cX10_isSplit 3 = .ok (.istore 4, 2) := dw_54 wX10_isSplit_c 4 rfl
theorem dX10_isSplit_5 : decode cX10_isSplit 5 = .ok (.iconst 0, 1) := dw_3 wX10_isSplit_c rfl
theorem dX10_isSplit_6 : decode cX10_isSplit 6 = .ok (.istore 5, 2) := dw_54 wX10_isSplit_c 5 rfl
theorem dX10_isSplit_8 : decode cX10_isSplit 8 = .ok (.iload 5, 2) := dw_21 wX10_isSplit_c 5 rfl
theorem dX10_isSplit_10 : decode cX10_isSplit 10 = .ok (.aload_n 0, 1) := dw_42 wX10_isSplit_c rfl
theorem dX10_isSplit_11 : decode cX10_isSplit 11 = .ok (.getfield 367, 3) := dw_180 wX10_isSplit_c 1 111 rfl rfl
theorem dX10_isSplit_14 : decode cX10_isSplit 14 = .ok (.if_icmp .ge 82, 3) := dw_162 wX10_isSplit_c 0 82 rfl rfl rfl
theorem dX10_isSplit_17 : decode cX10_isSplit 17 = .ok (.aload_n 0, 1) := dw_42 wX10_isSplit_c rfl
theorem dX10_isSplit_18 : decode cX10_isSplit 18 = .ok (.getfield 81, 3) := dw_180 wX10_isSplit_c 0 81 rfl rfl
theorem dX10_isSplit_21 : decode cX10_isSplit 21 = .ok (.iload 5, 2) := dw_21 wX10_isSplit_c 5 rfl
theorem dX10_isSplit_23 : decode cX10_isSplit 23 = .ok (.iaload, 1) := dw_46 wX10_isSplit_c rfl
theorem dX10_isSplit_24 : decode cX10_isSplit 24 = .ok (.aload_n 0, 1) := dw_42 wX10_isSplit_c rfl
theorem dX10_isSplit_25 : decode cX10_isSplit 25 = .ok (.getfield 81, 3) := dw_180 wX10_isSplit_c 0 81 rfl rfl
theorem dX10_isSplit_28 : decode cX10_isSplit 28 = .ok (.iload_n 1, 1) := dw_27 wX10_isSplit_c rfl
theorem dX10_isSplit_29 : decode cX10_isSplit 29 = .ok (.iaload, 1) := dw_46 wX10_isSplit_c rfl
theorem dX10_isSplit_30 : decode cX10_isSplit 30 = .ok (.if_icmp .ne 60, 3) := dw_160 wX10_isSplit_c 0 60 rfl rfl rfl
theorem dX10_isSplit_33 : decode cX10_isSplit 33 = .ok (.aload_n 0, 1) := dw_42 wX10_isSplit_c rfl
theorem dX10_isSplit_34 : decode cX10_isSplit 34 = .ok (.getfield 84, 3) := dw_180 wX10_isSplit_c 0 84 rfl rfl
theorem dX10_isSplit_37 : decode cX10_isSplit 37 = .ok (.iload 5, 2) := dw_21 wX10_isSplit_c 5 rfl
theorem dX10_isSplit_39 : decode cX10_isSplit 39 = .ok (.iaload, 1) := dw_46 wX10_isSplit_c rfl
theorem dX10_isSplit_40 : decode cX10_isSplit 40 = .ok (.aload_n 0, 1) := dw_42 wX10_isSplit_c rfl
theorem dX10_isSplit_41 : decode cX10_isSplit 41 = .ok (.getfield 84, 3) := dw_180 wX10_isSplit_c 0 84 rfl rfl
theorem dX10_isSplit_44 : decode cX10_isSplit 44 = .ok (.iload_n 1, 1) := dw_27 wX10_isSplit_c rfl
theorem dX10_isSplit_45 : decode cX10_isSplit 45 = .ok (.iaload, 1) := dw_46 wX10_isSplit_c rfl
theorem dX10_isSplit_46 : decode cX10_isSplit 46 = .ok (.if_icmp .ne 44, 3) := dw_160 wX10_isSplit_c 0 44 rfl rfl rfl
theorem dX10_isSplit_49 : decode cX10_isSplit 49 = .ok (.aload_n 0, 1) := dw_42 wX10_isSplit_c rfl
theorem dX10_isSplit_50 : decode cX10_isSplit 50 = .ok (.getfield 99, 3) := dw_180 wX10_isSplit_c 0 99 rfl rfl
theorem dX10_isSplit_53 : decode cX10_isSplit 53 = .ok (.iload 5, 2) := dw_21 wX10_isSplit_c 5 rfl
theorem dX10_isSplit_55 : decode cX10_isSplit 55 = .ok (.iaload, 1) := dw_46 wX10_isSplit_c rfl
theorem dX10_isSplit_56 : decode cX10_isSplit 56 = .ok (.aload_n 0, 1) := dw_42 wX10_isSplit_c rfl
theorem dX10_isSplit_57 : decode cX10_isSplit 57 = .ok (.getfield 99, 3) := dw_180 wX10_isSplit_c 0 99 rfl rfl
theorem dX10_isSplit_60 : decode cX10_isSplit 60 = .ok (.iload_n 1, 1) := dw_27 wX10_isSplit_c rfl
theorem dX10_isSplit_61 : decode cX10_isSplit 61 = .ok (.iaload, 1) := dw_46 wX10_isSplit_c rfl
theorem dX10_isSplit_62 : decode cX10_isSplit 62 = .ok (.aload_n 0, 1) := dw_42 wX10_isSplit_c rfl
theorem dX10_isSplit_63 : decode cX10_isSplit 63 = .ok (.iload_n 2, 1) := dw_28 wX10_isSplit_c rfl
theorem dX10_isSplit_64 : decode cX10_isSplit 64 = .ok (.iconst 1, 1) := dw_4 wX10_isSplit_c rfl
theorem dX10_isSplit_65 : decode cX10_isSplit 65 = .ok (.invokevirtual 333, 3) := dw_182 wX10_isSplit_c 1 77 rfl rfl
theorem dX10_isSplit_68 : decode cX10_isSplit 68 = .ok (.isub, 1) := dw_100 wX10_isSplit_c rfl
theorem dX10_isSplit_69 : decode cX10_isSplit 69 = .ok (.if_icmp .ge 6, 3) := dw_162 wX10_isSplit_c 0 6 rfl rfl rfl
theorem dX10_isSplit_72 : decode cX10_isSplit 72 = .ok (.goto 18, 3) := dw_167 wX10_isSplit_c 0 18 rfl rfl rfl
theorem dX10_isSplit_75 : decode cX10_isSplit 75 = .ok (.iinc 3 1, 3) := dw_132 wX10_isSplit_c 3 1 rfl rfl rfl
theorem dX10_isSplit_78 : decode cX10_isSplit 78 = .ok (.iload 4, 2) := dw_21 wX10_isSplit_c 4 rfl
theorem dX10_isSplit_80 : decode cX10_isSplit 80 = .ok (.aload_n 0, 1) := dw_42 wX10_isSplit_c rfl
theorem dX10_isSplit_81 : decode cX10_isSplit 81 = .ok (.getfield 87, 3) := dw_180 wX10_isSplit_c 0 87 rfl rfl
theorem dX10_isSplit_84 : decode cX10_isSplit 84 = .ok (.iload 5, 2) := dw_21 wX10_isSplit_c 5 rfl
theorem dX10_isSplit_86 : decode cX10_isSplit 86 = .ok (.iaload, 1) := dw_46 wX10_isSplit_c rfl
theorem dX10_isSplit_87 : decode cX10_isSplit 87 = .ok (.iadd, 1) := dw_96 wX10_isSplit_c rfl
theorem dX10_isSplit_88 : decode cX10_isSplit 88 = .ok (.istore 4, 2) := dw_54 wX10_isSplit_c 4 rfl
theorem dX10_isSplit_90 : decode cX10_isSplit 90 = .ok (.iinc 5 1, 3) := dw_132 wX10_isSplit_c 5 1 rfl rfl rfl
theorem dX10_isSplit_93 : decode cX10_isSplit 93 = .ok (.goto (-85), 3) := dn_167 wX10_isSplit_c 255 171 rfl (by decide)
theorem dX10_isSplit_96 : decode cX10_isSplit 96 = .ok (.iload_n 3, 1) := dw_29 wX10_isSplit_c rfl
theorem dX10_isSplit_97 : decode cX10_isSplit 97 = .ok (.iconst 1, 1) := dw_4 wX10_isSplit_c rfl
theorem dX10_isSplit_98 : decode cX10_isSplit 98 = .ok (.if_icmp .le 18, 3) := dw_164 wX10_isSplit_c 0 18 rfl rfl rfl
theorem dX10_isSplit_101 : decode cX10_isSplit 101 = .ok (.iload 4, 2) := dw_21 wX10_isSplit_c 4 rfl
theorem dX10_isSplit_103 : decode cX10_isSplit 103 = .ok (.aload_n 0, 1) := dw_42 wX10_isSplit_c rfl
theorem dX10_isSplit_104 : decode cX10_isSplit 104 = .ok (.iload_n 2, 1) := dw_28 wX10_isSplit_c rfl
theorem dX10_isSplit_105 : decode cX10_isSplit 105 = .ok (.iconst 0, 1) := dw_3 wX10_isSplit_c rfl
theorem dX10_isSplit_106 : decode cX10_isSplit 106 = .ok (.invokevirtual 333, 3) := dw_182 wX10_isSplit_c 1 77 rfl rfl
theorem dX10_isSplit_109 : decode cX10_isSplit 109 = .ok (.if_icmp .le 7, 3) := dw_164 wX10_isSplit_c 0 7 rfl rfl rfl
theorem dX10_isSplit_112 : decode cX10_isSplit 112 = .ok (.iconst 1, 1) := dw_4 wX10_isSplit_c rfl
theorem dX10_isSplit_113 : decode cX10_isSplit 113 = .ok (.goto 4, 3) := dw_167 wX10_isSplit_c 0 4 rfl rfl rfl
theorem dX10_isSplit_116 : decode cX10_isSplit 116 = .ok (.iconst 0, 1) := dw_3 wX10_isSplit_c rfl
theorem dX10_isSplit_117 : decode cX10_isSplit 117 = .ok (.ireturn, 1) := dw_172 wX10_isSplit_c rfl
def wNX10_sits : Nat := 11981991905482232919559445323986876020951693183182845282590796628569826894746280418222640263231272486336242897277297197658526317213617985361819840695364271994915158007344727494510767912467715
theorem wX10_sits_c : hz_cd cX10_sits wNX10_sits 79 := ⟨by decide +kernel, by decide +kernel⟩
theorem dX10_sits_0 : decode cX10_sits 0 = .ok (.iconst 0, 1) := dw_3 wX10_sits_c rfl
theorem dX10_sits_1 : decode cX10_sits 1 = .ok (.istore_n 2, 1) := dw_61 wX10_sits_c rfl
theorem dX10_sits_2 : decode cX10_sits 2 = .ok (.iconst 0, 1) := dw_3 wX10_sits_c rfl
theorem dX10_sits_3 : decode cX10_sits 3 = .ok (.istore_n 3, 1) := dw_62 wX10_sits_c rfl
theorem dX10_sits_4 : decode cX10_sits 4 = .ok (.iload_n 3, 1) := dw_29 wX10_sits_c rfl
theorem dX10_sits_5 : decode cX10_sits 5 = .ok (.aload_n 0, 1) := dw_42 wX10_sits_c rfl
theorem dX10_sits_6 : decode cX10_sits 6 = .ok (.getfield 337, 3) := dw_180 wX10_sits_c 1 81 rfl rfl
theorem dX10_sits_9 : decode cX10_sits 9 = .ok (.if_icmp .ge 68, 3) := dw_162 wX10_sits_c 0 68 rfl rfl rfl
theorem dX10_sits_12 : decode cX10_sits 12 = .ok (.aload_n 0, 1) := dw_42 wX10_sits_c rfl
theorem dX10_sits_13 : decode cX10_sits 13 = .ok (.getfield 60, 3) := dw_180 wX10_sits_c 0 60 rfl rfl
theorem dX10_sits_16 : decode cX10_sits 16 = .ok (.iload_n 3, 1) := dw_29 wX10_sits_c rfl
theorem dX10_sits_17 : decode cX10_sits 17 = .ok (.baload, 1) := dw_51 wX10_sits_c rfl
theorem dX10_sits_18 : decode cX10_sits 18 = .ok (.ifCond .eq 53, 3) := dw_153 wX10_sits_c 0 53 rfl rfl rfl
theorem dX10_sits_21 : decode cX10_sits 21 = .ok (.aload_n 0, 1) := dw_42 wX10_sits_c rfl
theorem dX10_sits_22 : decode cX10_sits 22 = .ok (.getfield 56, 3) := dw_180 wX10_sits_c 0 56 rfl rfl
theorem dX10_sits_25 : decode cX10_sits 25 = .ok (.iload_n 3, 1) := dw_29 wX10_sits_c rfl
theorem dX10_sits_26 : decode cX10_sits 26 = .ok (.baload, 1) := dw_51 wX10_sits_c rfl
theorem dX10_sits_27 : decode cX10_sits 27 = .ok (.ifCond .ne 44, 3) := dw_154 wX10_sits_c 0 44 rfl rfl rfl
theorem dX10_sits_30 : decode cX10_sits 30 = .ok (.aload_n 0, 1) := dw_42 wX10_sits_c rfl
theorem dX10_sits_31 : decode cX10_sits 31 = .ok (.iload_n 3, 1) := dw_29 wX10_sits_c rfl
theorem dX10_sits_32 : decode cX10_sits 32 = .ok (.aload_n 0, 1) := dw_42 wX10_sits_c rfl
theorem dX10_sits_33 : decode cX10_sits 33 = .ok (.getfield 81, 3) := dw_180 wX10_sits_c 0 81 rfl rfl
theorem dX10_sits_36 : decode cX10_sits 36 = .ok (.iload_n 1, 1) := dw_27 wX10_sits_c rfl
theorem dX10_sits_37 : decode cX10_sits 37 = .ok (.iaload, 1) := dw_46 wX10_sits_c rfl
theorem dX10_sits_38 : decode cX10_sits 38 = .ok (.invokevirtual 382, 3) := dw_182 wX10_sits_c 1 126 rfl rfl
theorem dX10_sits_41 : decode cX10_sits 41 = .ok (.ifCond .ne 30, 3) := dw_154 wX10_sits_c 0 30 rfl rfl rfl
theorem dX10_sits_44 : decode cX10_sits 44 = .ok (.aload_n 0, 1) := dw_42 wX10_sits_c rfl
theorem dX10_sits_45 : decode cX10_sits 45 = .ok (.iload_n 3, 1) := dw_29 wX10_sits_c rfl
theorem dX10_sits_46 : decode cX10_sits 46 = .ok (.aload_n 0, 1) := dw_42 wX10_sits_c rfl
theorem dX10_sits_47 : decode cX10_sits 47 = .ok (.getfield 84, 3) := dw_180 wX10_sits_c 0 84 rfl rfl
theorem dX10_sits_50 : decode cX10_sits 50 = .ok (.iload_n 1, 1) := dw_27 wX10_sits_c rfl
theorem dX10_sits_51 : decode cX10_sits 51 = .ok (.iaload, 1) := dw_46 wX10_sits_c rfl
theorem dX10_sits_52 : decode cX10_sits 52 = .ok (.invokevirtual 382, 3) := dw_182 wX10_sits_c 1 126 rfl rfl
theorem dX10_sits_55 : decode cX10_sits 55 = .ok (.ifCond .eq 6, 3) := dw_153 wX10_sits_c 0 6 rfl rfl rfl
theorem dX10_sits_58 : decode cX10_sits 58 = .ok (.goto 13, 3) := dw_167 wX10_sits_c 0 13 rfl rfl rfl
theorem dX10_sits_61 : decode cX10_sits 61 = .ok (.aload_n 0, 1) := dw_42 wX10_sits_c rfl
theorem dX10_sits_62 : decode cX10_sits 62 = .ok (.getfield 159, 3) := dw_180 wX10_sits_c 0 159 rfl rfl
theorem dX10_sits_65 : decode cX10_sits 65 = .ok (.iload_n 2, 1) := dw_28 wX10_sits_c rfl
theorem dX10_sits_66 : decode cX10_sits 66 = .ok (.iload_n 3, 1) := dw_29 wX10_sits_c rfl
theorem dX10_sits_67 : decode cX10_sits 67 = .ok (.iastore, 1) := dw_79 wX10_sits_c rfl
theorem dX10_sits_68 : decode cX10_sits 68 = .ok (.iinc 2 1, 3) := dw_132 wX10_sits_c 2 1 rfl rfl rfl
theorem dX10_sits_71 : decode cX10_sits 71 = .ok (.iinc 3 1, 3) := dw_132 wX10_sits_c 3 1 rfl rfl rfl
theorem dX10_sits_74 : decode cX10_sits 74 = .ok (.goto (-70), 3) := dn_167 wX10_sits_c 255 186 rfl (by decide)
theorem dX10_sits_77 : decode cX10_sits 77 = .ok (.iload_n 2, 1) := dw_28 wX10_sits_c rfl
theorem dX10_sits_78 : decode cX10_sits 78 = .ok (.ireturn, 1) := dw_172 wX10_sits_c rfl
def wNX10_draws : Nat := 366515605617316603527615953565960086547144010021707173356879970736017115385082472276400058475455967218494850042361927650807824377911548831543606178743556983114085088649563503034035068007726416552333000235838132099108291469015356473129966338389312285322855423582763496989
theorem wX10_draws_c : hz_cd cX10_draws wNX10_draws 112 := ⟨by decide +kernel, by decide +kernel⟩
theorem dX10_draws_0 : decode cX10_draws 0 = .ok (.iload_n 3, 1) := dw_29 wX10_draws_c rfl
theorem dX10_draws_1 : decode cX10_draws 1 = .ok (.istore 4, 2) := dw_54 wX10_draws_c 4 rfl
theorem dX10_draws_3 : decode cX10_draws 3 = .ok (.iconst 0, 1) := dw_3 wX10_draws_c rfl
theorem dX10_draws_4 : decode cX10_draws 4 = .ok (.istore 5, 2) := dw_54 wX10_draws_c 5 rfl
theorem dX10_draws_6 : decode cX10_draws 6 = .ok (.iload 5, 2) := dw_21 wX10_draws_c 5 rfl
theorem dX10_draws_8 : decode cX10_draws 8 = .ok (.iload_n 2, 1) := dw_28 wX10_draws_c rfl
theorem dX10_draws_9 : decode cX10_draws 9 = .ok (.if_icmp .ge 102, 3) := dw_162 wX10_draws_c 0 102 rfl rfl rfl
theorem dX10_draws_12 : decode cX10_draws 12 = .ok (.iload 5, 2) := dw_21 wX10_draws_c 5 rfl
theorem dX10_draws_14 : decode cX10_draws 14 = .ok (.iconst 1, 1) := dw_4 wX10_draws_c rfl
theorem dX10_draws_15 : decode cX10_draws 15 = .ok (.iadd, 1) := dw_96 wX10_draws_c rfl
theorem dX10_draws_16 : decode cX10_draws 16 = .ok (.istore 6, 2) := dw_54 wX10_draws_c 6 rfl
theorem dX10_draws_18 : decode cX10_draws 18 = .ok (.iload 6, 2) := dw_21 wX10_draws_c 6 rfl
theorem dX10_draws_20 : decode cX10_draws 20 = .ok (.iload_n 2, 1) := dw_28 wX10_draws_c rfl
theorem dX10_draws_21 : decode cX10_draws 21 = .ok (.if_icmp .ge 84, 3) := dw_162 wX10_draws_c 0 84 rfl rfl rfl
theorem dX10_draws_24 : decode cX10_draws 24 = .ok (.iload 6, 2) := dw_21 wX10_draws_c 6 rfl
theorem dX10_draws_26 : decode cX10_draws 26 = .ok (.iconst 1, 1) := dw_4 wX10_draws_c rfl
theorem dX10_draws_27 : decode cX10_draws 27 = .ok (.iadd, 1) := dw_96 wX10_draws_c rfl
theorem dX10_draws_28 : decode cX10_draws 28 = .ok (.istore 7, 2) := dw_54 wX10_draws_c 7 rfl
theorem dX10_draws_30 : decode cX10_draws 30 = .ok (.iload 7, 2) := dw_21 wX10_draws_c 7 rfl
theorem dX10_draws_32 : decode cX10_draws 32 = .ok (.iload_n 2, 1) := dw_28 wX10_draws_c rfl
theorem dX10_draws_33 : decode cX10_draws 33 = .ok (.if_icmp .ge 66, 3) := dw_162 wX10_draws_c 0 66 rfl rfl rfl
theorem dX10_draws_36 : decode cX10_draws 36 = .ok (.iload 4, 2) := dw_21 wX10_draws_c 4 rfl
theorem dX10_draws_38 : decode cX10_draws 38 = .ok (.ifCond .ne 52, 3) := dw_154 wX10_draws_c 0 52 rfl rfl rfl
theorem dX10_draws_41 : decode cX10_draws 41 = .ok (.aload_n 0, 1) := dw_42 wX10_draws_c rfl
theorem dX10_draws_42 : decode cX10_draws 42 = .ok (.getfield 126, 3) := dw_180 wX10_draws_c 0 126 rfl rfl
theorem dX10_draws_45 : decode cX10_draws 45 = .ok (.iconst 3, 1) := dw_6 wX10_draws_c rfl
theorem dX10_draws_46 : decode cX10_draws 46 = .ok (.iload_n 1, 1) := dw_27 wX10_draws_c rfl
theorem dX10_draws_47 : decode cX10_draws 47 = .ok (.imul, 1) := dw_104 wX10_draws_c rfl
theorem dX10_draws_48 : decode cX10_draws 48 = .ok (.aload_n 0, 1) := dw_42 wX10_draws_c rfl
theorem dX10_draws_49 : decode cX10_draws 49 = .ok (.getfield 159, 3) := dw_180 wX10_draws_c 0 159 rfl rfl
theorem dX10_draws_52 : decode cX10_draws 52 = .ok (.iload 5, 2) := dw_21 wX10_draws_c 5 rfl
theorem dX10_draws_54 : decode cX10_draws 54 = .ok (.iaload, 1) := dw_46 wX10_draws_c rfl
theorem dX10_draws_55 : decode cX10_draws 55 = .ok (.iastore, 1) := dw_79 wX10_draws_c rfl
theorem dX10_draws_56 : decode cX10_draws 56 = .ok (.aload_n 0, 1) := dw_42 wX10_draws_c rfl
theorem dX10_draws_57 : decode cX10_draws 57 = .ok (.getfield 126, 3) := dw_180 wX10_draws_c 0 126 rfl rfl
theorem dX10_draws_60 : decode cX10_draws 60 = .ok (.iconst 3, 1) := dw_6 wX10_draws_c rfl
theorem dX10_draws_61 : decode cX10_draws 61 = .ok (.iload_n 1, 1) := dw_27 wX10_draws_c rfl
theorem dX10_draws_62 : decode cX10_draws 62 = .ok (.imul, 1) := dw_104 wX10_draws_c rfl
theorem dX10_draws_63 : decode cX10_draws 63 = .ok (.iconst 1, 1) := dw_4 wX10_draws_c rfl
theorem dX10_draws_64 : decode cX10_draws 64 = .ok (.iadd, 1) := dw_96 wX10_draws_c rfl
theorem dX10_draws_65 : decode cX10_draws 65 = .ok (.aload_n 0, 1) := dw_42 wX10_draws_c rfl
theorem dX10_draws_66 : decode cX10_draws 66 = .ok (.getfield 159, 3) := dw_180 wX10_draws_c 0 159 rfl rfl
theorem dX10_draws_69 : decode cX10_draws 69 = .ok (.iload 6, 2) := dw_21 wX10_draws_c 6 rfl
theorem dX10_draws_71 : decode cX10_draws 71 = .ok (.iaload, 1) := dw_46 wX10_draws_c rfl
theorem dX10_draws_72 : decode cX10_draws 72 = .ok (.iastore, 1) := dw_79 wX10_draws_c rfl
theorem dX10_draws_73 : decode cX10_draws 73 = .ok (.aload_n 0, 1) := dw_42 wX10_draws_c rfl
theorem dX10_draws_74 : decode cX10_draws 74 = .ok (.getfield 126, 3) := dw_180 wX10_draws_c 0 126 rfl rfl
theorem dX10_draws_77 : decode cX10_draws 77 = .ok (.iconst 3, 1) := dw_6 wX10_draws_c rfl
theorem dX10_draws_78 : decode cX10_draws 78 = .ok (.iload_n 1, 1) := dw_27 wX10_draws_c rfl
theorem dX10_draws_79 : decode cX10_draws 79 = .ok (.imul, 1) := dw_104 wX10_draws_c rfl
theorem dX10_draws_80 : decode cX10_draws 80 = .ok (.iconst 2, 1) := dw_5 wX10_draws_c rfl
theorem dX10_draws_81 : decode cX10_draws 81 = .ok (.iadd, 1) := dw_96 wX10_draws_c rfl
theorem dX10_draws_82 : decode cX10_draws 82 = .ok (.aload_n 0, 1) := dw_42 wX10_draws_c rfl
theorem dX10_draws_83 : decode cX10_draws 83 = .ok (.getfield 159, 3) := dw_180 wX10_draws_c 0 159 rfl rfl
theorem dX10_draws_86 : decode cX10_draws 86 = .ok (.iload 7, 2) := dw_21 wX10_draws_c 7 rfl
theorem dX10_draws_88 : decode cX10_draws 88 = .ok (.iaload, 1) := dw_46 wX10_draws_c rfl
theorem dX10_draws_89 : decode cX10_draws 89 = .ok (.iastore, 1) := dw_79 wX10_draws_c rfl
theorem dX10_draws_90 : decode cX10_draws 90 = .ok (.iinc 4 (-1), 3) := dn_132 wX10_draws_c 4 255 rfl (by decide)
theorem dX10_draws_93 : decode cX10_draws 93 = .ok (.iinc 7 1, 3) := dw_132 wX10_draws_c 7 1 rfl rfl rfl
theorem dX10_draws_96 : decode cX10_draws 96 = .ok (.goto (-66), 3) := dn_167 wX10_draws_c 255 190 rfl (by decide)
theorem dX10_draws_99 : decode cX10_draws 99 = .ok (.iinc 6 1, 3) := dw_132 wX10_draws_c 6 1 rfl rfl rfl
theorem dX10_draws_102 : decode cX10_draws 102 = .ok (.goto (-84), 3) := dn_167 wX10_draws_c 255 172 rfl (by decide)
theorem dX10_draws_105 : decode cX10_draws 105 = .ok (.iinc 5 1, 3) := dw_132 wX10_draws_c 5 1 rfl rfl rfl
theorem dX10_draws_108 : decode cX10_draws 108 = .ok (.goto (-102), 3) := dn_167 wX10_draws_c 255 154 rfl (by decide)
theorem dX10_draws_111 : decode cX10_draws 111 = .ok (.return_, 1) := dw_177 wX10_draws_c rfl