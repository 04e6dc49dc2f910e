def wLX9_act_0 : List Nat := [42, 180, 0, 105, 16, 8, 162, 0, 10, 27, 184, 0, 90, 154, 0, 5, 2, 172, 187, 0, 20, 89, 42, 180, 0, 105, 27, 183, 0, 22, 77, 42, 180, 0, 16, 42, 180, 0, 9, 42, 180, 0, 98, 44, 182, 0, 108, 62, 42, 3, 181, 0, 98, 29, 153, 0, 8, 16, 254, 29, 100, 172, 42, 180]
def wLX9_act_1 : List Nat := [0, 29, 42, 180, 0, 105, 44, 83, 42, 89, 180, 0, 105, 4, 96, 181, 0, 105, 44, 180, 0, 112, 172]
theorem wX9_act_0 : (cX9_act.data.toList.map UInt8.toNat).drop 0 = wLX9_act_0 ++ (wLX9_act_1 ++ ([])) := by decide +kernel
theorem wX9_act_1 : (cX9_act.data.toList.map UInt8.toNat).drop 64 = wLX9_act_1 ++ ([]) := hz_wn wX9_act_0 rfl
theorem dX9_act_0 : decode cX9_act 0 = .ok (.aload_n 0, 1) := dq_42 (hz_wg wX9_act_0 (j := 0) (n := 42) rfl)
theorem dX9_act_1 : decode cX9_act 1 = .ok (.getfield 105, 3) := dq_180 (hz_wg wX9_act_0 (j := 1) (n := 180) rfl) (hz_wg wX9_act_0 (j := 2) (n := 0) rfl) (hz_wg wX9_act_0 (j := 3) (n := 105) rfl) rfl
theorem dX9_act_4 : decode cX9_act 4 = .ok (.bipush 8, 2) := dq_16 (hz_wg wX9_act_0 (j := 4) (n := 16) rfl) (hz_wg wX9_act_0 (j := 5) (n := 8) rfl) (by decide)
theorem dX9_act_6 : decode cX9_act 6 = .ok (.if_icmp .ge 10, 3) := dq_162 (hz_wg wX9_act_0 (j := 6) (n := 162) rfl) (hz_wg wX9_act_0 (j := 7) (n := 0) rfl) (hz_wg wX9_act_0 (j := 8) (n := 10) rfl) (by decide)
theorem dX9_act_9 : decode cX9_act 9 = .ok (.iload_n 1, 1) := dq_27 (hz_wg wX9_act_0 (j := 9) (n := 27) rfl)
theorem dX9_act_10 : decode cX9_act 10 = .ok (.invokestatic 90, 3) := dq_184 (hz_wg wX9_act_0 (j := 10) (n := 184) rfl) (hz_wg wX9_act_0 (j := 11) (n := 0) rfl) (hz_wg wX9_act_0 (j := 12) (n := 90) rfl) rfl
theorem dX9_act_13 : decode cX9_act 13 = .ok (.ifCond .ne 5, 3) := dq_154 (hz_wg wX9_act_0 (j := 13) (n := 154) rfl) (hz_wg wX9_act_0 (j := 14) (n := 0) rfl) (hz_wg wX9_act_0 (j := 15) (n := 5) rfl) (by decide)
theorem dX9_act_16 : decode cX9_act 16 = .ok (.iconst (-1), 1) := dq_2 (hz_wg wX9_act_0 (j := 16) (n := 2) rfl)
theorem dX9_act_17 : decode cX9_act 17 = .ok (.ireturn, 1) := dq_172 (hz_wg wX9_act_0 (j := 17) (n := 172) rfl)
theorem dX9_act_18 : decode cX9_act 18 = .ok (.new 20, 3) := dq_187 (hz_wg wX9_act_0 (j := 18) (n := 187) rfl) (hz_wg wX9_act_0 (j := 19) (n := 0) rfl) (hz_wg wX9_act_0 (j := 20) (n := 20) rfl) rfl
theorem dX9_act_21 : decode cX9_act 21 = .ok (.dup, 1) := dq_89 (hz_wg wX9_act_0 (j := 21) (n := 89) rfl)
theorem dX9_act_22 : decode cX9_act 22 = .ok (.aload_n 0, 1) := dq_42 (hz_wg wX9_act_0 (j := 22) (n := 42) rfl)
theorem dX9_act_23 : decode cX9_act 23 = .ok (.getfield 105, 3) := dq_180 (hz_wg wX9_act_0 (j := 23) (n := 180) rfl) (hz_wg wX9_act_0 (j := 24) (n := 0) rfl) (hz_wg wX9_act_0 (j := 25) (n := 105) rfl) rfl
theorem dX9_act_26 : decode cX9_act 26 = .ok (.iload_n 1, 1) := dq_27 (hz_wg wX9_act_0 (j := 26) (n := 27) rfl)
theorem dX9_act_27 : decode cX9_act 27 = .ok (.invokespecial 22, 3) := dq_183 (hz_wg wX9_act_0 (j := 27) (n := 183) rfl) (hz_wg wX9_act_0 (j := 28) (n := 0) rfl) (hz_wg wX9_act_0 (j := 29) (n := 22) rfl) rfl
theorem dX9_act_30 : decode cX9_act 30 = .ok (.astore_n 2, 1) := dq_77 (hz_wg wX9_act_0 (j := 30) (n := 77) rfl)
theorem dX9_act_31 : decode cX9_act 31 = .ok (.aload_n 0, 1) := dq_42 (hz_wg wX9_act_0 (j := 31) (n := 42) rfl)
theorem dX9_act_32 : decode cX9_act 32 = .ok (.getfield 16, 3) := dq_180 (hz_wg wX9_act_0 (j := 32) (n := 180) rfl) (hz_wg wX9_act_0 (j := 33) (n := 0) rfl) (hz_wg wX9_act_0 (j := 34) (n := 16) rfl) rfl
theorem dX9_act_35 : decode cX9_act 35 = .ok (.aload_n 0, 1) := dq_42 (hz_wg wX9_act_0 (j := 35) (n := 42) rfl)
theorem dX9_act_36 : decode cX9_act 36 = .ok (.getfield 9, 3) := dq_180 (hz_wg wX9_act_0 (j := 36) (n := 180) rfl) (hz_wg wX9_act_0 (j := 37) (n := 0) rfl) (hz_wg wX9_act_0 (j := 38) (n := 9) rfl) rfl
theorem dX9_act_39 : decode cX9_act 39 = .ok (.aload_n 0, 1) := dq_42 (hz_wg wX9_act_0 (j := 39) (n := 42) rfl)
theorem dX9_act_40 : decode cX9_act 40 = .ok (.getfield 98, 3) := dq_180 (hz_wg wX9_act_0 (j := 40) (n := 180) rfl) (hz_wg wX9_act_0 (j := 41) (n := 0) rfl) (hz_wg wX9_act_0 (j := 42) (n := 98) rfl) rfl
theorem dX9_act_43 : decode cX9_act 43 = .ok (.aload_n 2, 1) := dq_44 (hz_wg wX9_act_0 (j := 43) (n := 44) rfl)
theorem dX9_act_44 : decode cX9_act 44 = .ok (.invokevirtual 108, 3) := dq_182 (hz_wg wX9_act_0 (j := 44) (n := 182) rfl) (hz_wg wX9_act_0 (j := 45) (n := 0) rfl) (hz_wg wX9_act_0 (j := 46) (n := 108) rfl) rfl
theorem dX9_act_47 : decode cX9_act 47 = .ok (.istore_n 3, 1) := dq_62 (hz_wg wX9_act_0 (j := 47) (n := 62) rfl)
theorem dX9_act_48 : decode cX9_act 48 = .ok (.aload_n 0, 1) := dq_42 (hz_wg wX9_act_0 (j := 48) (n := 42) rfl)
theorem dX9_act_49 : decode cX9_act 49 = .ok (.iconst 0, 1) := dq_3 (hz_wg wX9_act_0 (j := 49) (n := 3) rfl)
theorem dX9_act_50 : decode cX9_act 50 = .ok (.putfield 98, 3) := dq_181 (hz_wg wX9_act_0 (j := 50) (n := 181) rfl) (hz_wg wX9_act_0 (j := 51) (n := 0) rfl) (hz_wg wX9_act_0 (j := 52) (n := 98) rfl) rfl
theorem dX9_act_53 : decode cX9_act 53 = .ok (.iload_n 3, 1) := dq_29 (hz_wg wX9_act_0 (j := 53) (n := 29) rfl)
theorem dX9_act_54 : decode cX9_act 54 = .ok (.ifCond .eq 8, 3) := dq_153 (hz_wg wX9_act_0 (j := 54) (n := 153) rfl) (hz_wg wX9_act_0 (j := 55) (n := 0) rfl) (hz_wg wX9_act_0 (j := 56) (n := 8) rfl) (by decide)
theorem dX9_act_57 : decode cX9_act 57 = .ok (.bipush (-2), 2) := dq_16 (hz_wg wX9_act_0 (j := 57) (n := 16) rfl) (hz_wg wX9_act_0 (j := 58) (n := 254) rfl) (by decide)
theorem dX9_act_59 : decode cX9_act 59 = .ok (.iload_n 3, 1) := dq_29 (hz_wg wX9_act_0 (j := 59) (n := 29) rfl)
theorem dX9_act_60 : decode cX9_act 60 = .ok (.isub, 1) := dq_100 (hz_wg wX9_act_0 (j := 60) (n := 100) rfl)
theorem dX9_act_61 : decode cX9_act 61 = .ok (.ireturn, 1) := dq_172 (hz_wg wX9_act_0 (j := 61) (n := 172) rfl)
theorem dX9_act_62 : decode cX9_act 62 = .ok (.aload_n 0, 1) := dq_42 (hz_wg wX9_act_0 (j := 62) (n := 42) rfl)
theorem dX9_act_63 : decode cX9_act 63 = .ok (.getfield 29, 3) := dq_180 (hz_wg wX9_act_0 (j := 63) (n := 180) rfl) (hz_wg wX9_act_1 (j := 0) (n := 0) rfl) (hz_wg wX9_act_1 (j := 1) (n := 29) rfl) rfl
theorem dX9_act_66 : decode cX9_act 66 = .ok (.aload_n 0, 1) := dq_42 (hz_wg wX9_act_1 (j := 2) (n := 42) rfl)
theorem dX9_act_67 : decode cX9_act 67 = .ok (.getfield 105, 3) := dq_180 (hz_wg wX9_act_1 (j := 3) (n := 180) rfl) (hz_wg wX9_act_1 (j := 4) (n := 0) rfl) (hz_wg wX9_act_1 (j := 5) (n := 105) rfl) rfl
theorem dX9_act_70 : decode cX9_act 70 = .ok (.aload_n 2, 1) := dq_44 (hz_wg wX9_act_1 (j := 6) (n := 44) rfl)
theorem dX9_act_71 : decode cX9_act 71 = .ok (.aastore, 1) := dq_83 (hz_wg wX9_act_1 (j := 7) (n := 83) rfl)
theorem dX9_act_72 : decode cX9_act 72 = .ok (.aload_n 0, 1) := dq_42 (hz_wg wX9_act_1 (j := 8) (n := 42) rfl)
theorem dX9_act_73 : decode cX9_act 73 = .ok (.dup, 1) := dq_89 (hz_wg wX9_act_1 (j := 9) (n := 89) rfl)
theorem dX9_act_74 : decode cX9_act 74 = .ok (.getfield 105, 3) := dq_180 (hz_wg wX9_act_1 (j := 10) (n := 180) rfl) (hz_wg wX9_act_1 (j := 11) (n := 0) rfl) (hz_wg wX9_act_1 (j := 12) (n := 105) rfl) rfl
theorem dX9_act_77 : decode cX9_act 77 = .ok (.iconst 1, 1) := dq_4 (hz_wg wX9_act_1 (j := 13) (n := 4) rfl)
theorem dX9_act_78 : decode cX9_act 78 = .ok (.iadd, 1) := dq_96 (hz_wg wX9_act_1 (j := 14) (n := 96) rfl)
theorem dX9_act_79 : decode cX9_act 79 = .ok (.putfield 105, 3) := dq_181 (hz_wg wX9_act_1 (j := 15) (n := 181) rfl) (hz_wg wX9_act_1 (j := 16) (n := 0) rfl) (hz_wg wX9_act_1 (j := 17) (n := 105) rfl) rfl
theorem dX9_act_82 : decode cX9_act 82 = .ok (.aload_n 2, 1) := dq_44 (hz_wg wX9_act_1 (j := 18) (n := 44) rfl)
theorem dX9_act_83 : decode cX9_act 83 = .ok (.getfield 112, 3) := dq_180 (hz_wg wX9_act_1 (j := 19) (n := 180) rfl) (hz_wg wX9_act_1 (j := 20) (n := 0) rfl) (hz_wg wX9_act_1 (j := 21) (n := 112) rfl) rfl
theorem dX9_act_86 : decode cX9_act 86 = .ok (.ireturn, 1) := dq_172 (hz_wg wX9_act_1 (j := 22) (n := 172) rfl)
set_option maxHeartbeats 4000000 in
set_option maxRecDepth 100000 in
theorem t_X9_act (l : Launch) (dC : Nat → ClassId) (dI : Nat → Nat → Nat) (dA : Nat → ClassId) (L : List Nat) (h : hx_h) (sz : Nat) (b0 : hx_z) (x : Nat) (i1 : Int32) (hT : hx_T T_tb L h) (gx : hx_g L h x 9) (qa : Nat) (gqa : hx_g L h qa 43) (f_x_5 : h.2.2 x 5 = some qa) (pf_x_6 : ∀ j : Nat, (j : Int) < (h.2.1 x 6).toInt → h.2.2 qa j ≠ none) : Met l yX9_act (Cond.code yX9_act cX9_act 4 (some .int) :: hx_all) ({ frames := 27, cells := 3, slots := 179, locals := 619 }) (va_Pc [.ref x, .int i1] (hx_BX T_tb (P_ty dA) (dC, dI) vwCl L h sz b0)) (va_Qi (fun (r : Int32) (u : List Nat × hx_h) => (True) ∧ hx_T T_tb u.1 u.2 ∧ hx_S T_tb [(0, 4), (6, 0), (6, 1), (6, 2), (6, 3), (6, 4), (6, 5), (6, 6), (9, 1), (9, 6), (11, 0), (12, 0), (43, 0), (116, 0), (116, 1), (116, 2), (116, 3), (116, 4)] L h u.1 u.2 ∧ (∀ j : Nat, (j : Int) < (u.2.2.1 x 6).toInt → u.2.2.2 qa j ≠ none)) (hx_E T_tb (P_ty dA) (dC, dI) vwCl (hx_A L sz)) (hx_A L sz)) 3 179 (hx_A L sz) := by
  refine hx_metX (lv := [(0, .ref x), (1, .int i1)]) (by decide +kernel) rfl (Nat.le_of_ble_eq_true rfl) rfl ?_
  intro p e s m below meth c hx hb hml hr hlk hts0 hown hin hsz hW hZ ls hl
  have hts : ∀ w ∈ hx_all, w.before _ s = true := fun w hw => hts0 w (List.mem_cons_of_mem _ hw)
  have hown : s.vm.findClass "SmallCourt" = some m.cls := hown
  have hM : hx_S T_tb [(0, 4), (6, 0), (6, 1), (6, 2), (6, 3), (6, 4), (6, 5), (6, 6), (9, 1), (9, 6), (11, 0), (12, 0), (43, 0), (116, 0), (116, 1), (116, 2), (116, 3), (116, 4)] L h L h := hx_S.rf
  refine lv_aload_n hx hb dX9_act_0 rfl (lv_at hl 0 rfl) ?_
  refine hx_geti hx hb hts hC_9 hown hW hT (gx.S hM) tt_9 6 (by decide) rfl kw_370 ⟨rfl, rfl, rfl⟩ dX9_act_1 (fun x_1 ex_1 lx_1 ux_1 => ?_)
  have fx_1 := ex_1.symm
  refine lv_bipush (v := 8) hx hb dX9_act_4 (by decide) ?_
  refine hb_icmp_ge (zx := x_1.toInt) (zy := 8) (tgt := 16) hx hb rfl (by decide) dX9_act_6 (by decide) (fun c_2 => ?_) (fun c_2 => ?_)
  · skip
    refine lv_iconst (v := -1) hx hb dX9_act_16 (by decide) ?_
    refine W.widen (k := 3) (n := 179) (Nat.le_of_ble_eq_true rfl) (Nat.le_of_ble_eq_true rfl) ?_
    exact hx_reti hx hb hr hlk hW ⟨trivial, hT, hM, pf_x_6⟩ dX9_act_17
  · skip
    refine lv_iload_n hx hb dX9_act_9 rfl (lv_at hl 1 rfl) ?_
    refine hx_goi (hx_runS (As := [.int i1]) (rest := []) ⟨hx, hb, hml, hown, hts⟩ hW (t_X9_isDay_2 l dC dI dA L h s.heap.size i1 hT) (va_cwS 1 hts (hx_gS kw_431 kw_429 kw_430 kw_94) rfl rfl rfl (by decide +kernel) ⟨Nat.le_of_ble_eq_true rfl, Nat.le_of_ble_eq_true rfl⟩) rfl hl.1 rfl (Nat.le_of_ble_eq_true rfl) dX9_act_10 ⟨Nat.le_of_ble_eq_true rfl, Nat.le_of_ble_eq_true rfl⟩) hW (fun r_5 L_3 h_4 H locs p_6 hW => ?_)
    obtain ⟨hr_7, hT, hs⟩ := p_6
    replace hT : hx_T T_tb L_3 h_4 := hT
    replace hs : hx_S T_tb [] L h L_3 h_4 := hs
    replace fx_1 := (hs.o (gx.S hM) trivial rfl).1.trans fx_1
    replace pf_x_6 : ∀ j : Nat, (j : Int) < (h_4.2.1 x 6).toInt → h_4.2.2 qa j ≠ none := by
      intro j hj; rw [(hs.o (gx.S hM) trivial rfl).1] at hj; rw [(hs.a (gqa.S hM) rfl j).2]; exact pf_x_6 j hj
    replace hM := hM.tr (hs.mono (by decide))
    refine hb_if_ne (zx := r_5.toInt) (tgt := 18) hx hb rfl dX9_act_13 (by decide) (fun c_8 => ?_) (fun c_8 => ?_)
    · skip
      replace hr_7 := hr_7.resolve_left (fun z9 => c_8 z9.1)
      replace c_8 := hr_7.1
      replace hr_7 := hr_7.2
      refine hk_new hx hb hts hC_0 hown hW 116 tt_116 rfl (by decide) kw_148 kw_149 kw_96 (Nat.le_of_ble_eq_true rfl) (Nat.le_of_ble_eq_true rfl) dX9_act_18 (fun q_10 H h_9 eh_9 hqq_10 hW hs gq_10 => ?_)
      have nq_q_10 : ∀ a ∈ L, a ≠ q_10 := fun a ha z => hqq_10 (z ▸ (hM.1 a ha).1)
      have hT : hx_T T_tb (L_3 ++ [q_10]) h_9 := by rw [eh_9]; exact hx_T_nw hT hqq_10 tt_116 rfl
      replace fx_1 := (hs.o (gx.S hM) trivial rfl).1.trans fx_1
      replace pf_x_6 : ∀ j : Nat, (j : Int) < (h_9.2.1 x 6).toInt → h_9.2.2 qa j ≠ none := by
        intro j hj; rw [(hs.o (gx.S hM) trivial rfl).1] at hj; rw [(hs.a (gqa.S hM) rfl j).2]; exact pf_x_6 j hj
      replace hM := hM.tr (hs.mono (by decide))
      have fz_11 : ∀ j, ([] : List Nat).contains j = false → h_9.2.1 q_10 j = 0 ∧ h_9.2.2 q_10 j = none := by rw [eh_9]; exact fun _ _ => ⟨hx_nw_i, hx_nw_r⟩
      refine lv_dup hx hb dX9_act_21 rfl ?_
      refine lv_aload_n hx hb dX9_act_22 rfl (lv_at hl 0 rfl) ?_
      refine hk_geti hx hb hts hC_9 hown hW (gx.S hM) tt_9 6 (by decide) rfl kw_370 ⟨rfl, rfl, rfl⟩ fx_1 dX9_act_23 ?_
      refine lv_iload_n hx hb dX9_act_26 rfl (lv_at hl 1 rfl) ?_
      refine hx_gov (hx_runIX (As := [.int x_1, .int i1]) (rest := [.ref q_10]) ⟨hx, hb, hml, hown, hts⟩ hW (t_X0_init l dC dI dA (L_3 ++ [q_10]) h_9 H.size b0 q_10 x_1 i1 hT gq_10 (fun j => fz_11 j rfl) ⟨by omega, by omega⟩ ⟨by omega, by omega⟩) hZ (cwI 2 hts (hx_gC kw_152) rfl rfl rfl (hts _ kw_96) (hts _ kw_150) (hts _ kw_151) rfl (by decide +kernel) ⟨Nat.le_of_ble_eq_true rfl, Nat.le_of_ble_eq_true rfl⟩) rfl hl.1 rfl (Nat.le_of_ble_eq_true rfl) dX9_act_27 ⟨Nat.le_of_ble_eq_true rfl, Nat.le_of_ble_eq_true rfl⟩) hW (fun L_12 h_13 H locs p_15 hW => ?_)
      obtain ⟨hT, hs, gNq_10⟩ := p_15
      replace hT : hx_T T_tb L_12 h_13 := hT
      replace hs : hx_S T_tb [(11, 0), (12, 0), (116, 0), (116, 1), (116, 2), (116, 3), (116, 4)] (hx_X (L_3 ++ [q_10]) q_10) h_9 L_12 h_13 := hs
      replace fx_1 := (hs.o (hx_gX (gx.S hM) ((gx.S hM).ne gq_10 (by decide))) trivial rfl).1.trans fx_1
      replace pf_x_6 : ∀ j : Nat, (j : Int) < (h_13.2.1 x 6).toInt → h_13.2.2 qa j ≠ none := by
        intro j hj; rw [(hs.o (hx_gX (gx.S hM) ((gx.S hM).ne gq_10 (by decide))) trivial rfl).1] at hj; rw [(hs.a (hx_gX (gqa.S hM) ((gqa.S hM).ne gq_10 (by decide))) rfl j).2]; exact pf_x_6 j hj
      replace hM := hM.trX (hs.mono (by decide)) nq_q_10
      have gq_10 : hx_g L_12 h_13 q_10 0 := gNq_10
      refine lv_astore_n (lv' := [(2, .ref q_10), (0, .ref x), (1, .int i1)]) hx hb dX9_act_30 rfl hl (by decide) rfl (fun ls hl => ?_)
      refine lv_aload_n hx hb dX9_act_31 rfl (lv_at hl 1 rfl) ?_
      refine hx_getn hx hb hts hC_9 hown hW hT (gx.S hM) tt_9 3 (by decide) rfl kw_367 ⟨rfl, rfl, rfl⟩ dX9_act_32 (fun q_16 fq_16 gq_16 => ?_)
      refine lv_aload_n hx hb dX9_act_35 rfl (lv_at hl 1 rfl) ?_
      refine hx_getn hx hb hts hC_9 hown hW hT (gx.S hM) tt_9 0 (by decide) rfl kw_364 ⟨rfl, rfl, rfl⟩ dX9_act_36 (fun q_17 fq_17 gq_17 => ?_)
      refine lv_aload_n hx hb dX9_act_39 rfl (lv_at hl 1 rfl) ?_
      refine hx_geti hx hb hts hC_9 hown hW hT (gx.S hM) tt_9 1 (by decide) rfl kw_365 ⟨rfl, rfl, rfl⟩ dX9_act_40 (fun x_18 ex_18 lx_18 ux_18 => ?_)
      have fx_18 := ex_18.symm
      refine lv_aload_n hx hb dX9_act_43 rfl (lv_at hl 0 rfl) ?_
      refine hx_goi (hx_runVX (As := [.ref q_17, .int x_18, .ref q_10]) (rest := []) ⟨hx, hb, hml, hown, hts⟩ hW gq_16 tt_6 (T := TX6) (N := 7) rfl (t_X6_readAct l dC dI dA L_12 h_13 H.size b0 q_16 q_17 x_18 q_10 hT gq_16 gq_17 gq_10) hZ (cwV 3 hts (hx_gV kw_454 kw_451 kw_452 kw_453 kw_95) rfl rfl rfl (by decide +kernel) ⟨Nat.le_of_ble_eq_true rfl, Nat.le_of_ble_eq_true rfl⟩) rfl hl.1 rfl (Nat.le_of_ble_eq_true rfl) dX9_act_44 ⟨Nat.le_of_ble_eq_true rfl, Nat.le_of_ble_eq_true rfl⟩) hW (fun r_21 L_19 h_20 H locs p_22 hW => ?_)
      obtain ⟨hr_23, hT, hs⟩ := p_22
      replace hT : hx_T T_tb L_19 h_20 := hT
      replace hs : hx_S T_tb [(0, 4), (6, 0), (6, 1), (6, 2), (6, 3), (6, 4), (6, 5), (6, 6), (11, 0), (12, 0)] L_12 h_13 L_19 h_20 := hs
      replace fx_1 := (hs.o (gx.S hM) trivial rfl).1.trans fx_1
      replace fq_16 := (hs.o (gx.S hM) trivial rfl).2.trans fq_16
      replace fq_17 := (hs.o (gx.S hM) trivial rfl).2.trans fq_17
      replace fx_18 := (hs.o (gx.S hM) trivial rfl).1.trans fx_18
      replace pf_x_6 : ∀ j : Nat, (j : Int) < (h_20.2.1 x 6).toInt → h_20.2.2 qa j ≠ none := by
        intro j hj; rw [(hs.o (gx.S hM) trivial rfl).1] at hj; rw [(hs.a (gqa.S hM) rfl j).2]; exact pf_x_6 j hj
      replace hM := hM.tr (hs.mono (by decide))
      replace gq_10 := gq_10.S hs
      replace gq_16 := gq_16.S hs
      replace gq_17 := gq_17.S hs
      refine lv_istore_n (lv' := [(3, .int r_21), (2, .ref q_10), (0, .ref x), (1, .int i1)]) hx hb dX9_act_47 rfl hl (by decide) rfl (fun ls hl => ?_)
      refine lv_aload_n hx hb dX9_act_48 rfl (lv_at hl 2 rfl) ?_
      refine lv_iconst (v := 0) hx hb dX9_act_49 (by decide) ?_
      refine hx_puti hx hb hts hC_9 hown hW hT (hx_S.rf (M := [(9, 1)])) (gx.S hM) tt_9 1 (by decide) rfl kw_365 ⟨rfl, rfl, rfl⟩ rfl (x := (0 : Int32)) (by decide) rfl rfl rfl (List.mem_singleton.mpr rfl) dX9_act_50 (fun H locs h_24 eh_24 hW hT hs => ?_)
      replace fx_1 := (hs.o (gx.S hM) trivial rfl).1.trans fx_1
      replace fq_16 := (hs.o (gx.S hM) trivial rfl).2.trans fq_16
      replace fq_17 := (hs.o (gx.S hM) trivial rfl).2.trans fq_17
      replace pf_x_6 : ∀ j : Nat, (j : Int) < (h_24.2.1 x 6).toInt → h_24.2.2 qa j ≠ none := by
        intro j hj; rw [(hs.o (gx.S hM) trivial rfl).1] at hj; rw [(hs.a (gqa.S hM) rfl j).2]; exact pf_x_6 j hj
      replace hM := hM.tr (hs.mono (by decide))
      replace gq_10 := gq_10.S hs
      replace gq_16 := gq_16.S hs
      replace gq_17 := gq_17.S hs
      have f_25 : h_24.2.1 x 1 = (0 : Int32) := by rw [eh_24]; exact hx_pi_at _ _ _ _
      refine lv_iload_n hx hb dX9_act_53 rfl (lv_at hl 0 rfl) ?_
      refine hb_if_eq (zx := r_21.toInt) (tgt := 62) hx hb rfl dX9_act_54 (by decide) (fun c_26 => ?_) (fun c_26 => ?_)
      · skip
        refine lv_aload_n hx hb dX9_act_62 rfl (lv_at hl 2 rfl) ?_
        refine hk_getr hx hb hts hC_9 hown hW (gx.S hM) tt_9 5 (by decide) rfl kw_369 ⟨rfl, rfl, rfl⟩ ((hM.o gx trivial rfl).2.trans f_x_5) dX9_act_63 ?_
        refine lv_aload_n hx hb dX9_act_66 rfl (lv_at hl 2 rfl) ?_
        refine hk_geti hx hb hts hC_9 hown hW (gx.S hM) tt_9 6 (by decide) rfl kw_370 ⟨rfl, rfl, rfl⟩ fx_1 dX9_act_67 ?_
        refine lv_aload_n hx hb dX9_act_70 rfl (lv_at hl 1 rfl) ?_
        have pf_x_6O := pf_x_6
        refine hx_aast hx hb hW hT (hx_S.rf (M := [(43, 0)])) (gqa.S hM) tt_43 rfl gq_10 tt_0 rfl (by decide) ⟨by omega, by omega⟩ (List.mem_singleton.mpr rfl) dX9_act_71 (fun H locs h_27 eh_27 hW hT hs => ?_)
        replace fx_1 := (hs.o (gx.S hM) trivial rfl).1.trans fx_1
        replace fq_16 := (hs.o (gx.S hM) trivial rfl).2.trans fq_16
        replace fq_17 := (hs.o (gx.S hM) trivial rfl).2.trans fq_17
        replace f_25 := (hs.o (gx.S hM) trivial rfl).1.trans f_25
        replace hM := hM.tr (hs.mono (by decide))
        replace gq_10 := gq_10.S hs
        replace gq_16 := gq_16.S hs
        replace gq_17 := gq_17.S hs
        have pf_x_6 : ∀ j : Nat, (j : Int) < (h_27.2.1 x 6).toInt → h_27.2.2 qa j ≠ none := hx_pfk pf_x_6O eh_27
        have px_28 : ∀ j : Nat, (j : Int) < x_1.toInt + 1 → h_27.2.2 qa j ≠ none := hx_pfx pf_x_6O (by first | exact fx_1 | exact ((hs.o (gx.S hM) trivial rfl).1.symm.trans fx_1)) (by omega) eh_27
        refine lv_aload_n hx hb dX9_act_72 rfl (lv_at hl 2 rfl) ?_
        refine lv_dup hx hb dX9_act_73 rfl ?_
        refine hk_geti hx hb hts hC_9 hown hW (gx.S hM) tt_9 6 (by decide) rfl kw_370 ⟨rfl, rfl, rfl⟩ fx_1 dX9_act_74 ?_
        refine lv_iconst (v := 1) hx hb dX9_act_77 (by decide) ?_
        refine lv_iadd hx hb dX9_act_78 ?_
        have rg_29 := i32_r x_1
        refine lv_topi (fun x_30 ex_30 => ?_)
        have zx_30 : x_30.toInt = x_1.toInt + 1 := by rw [ex_30]; exact i32_add rfl (by decide) (by omega) (by omega)
        refine hx_puti hx hb hts hC_9 hown hW hT (hx_S.rf (M := [(9, 6)])) (gx.S hM) tt_9 6 (by decide) rfl kw_370 ⟨rfl, rfl, rfl⟩ rfl (x := x_30) ⟨by omega, by omega⟩ rfl rfl rfl (List.mem_singleton.mpr rfl) dX9_act_79 (fun H locs h_31 eh_31 hW hT hs => ?_)
        replace px_28 : ∀ j : Nat, (j : Int) < x_1.toInt + 1 → h_31.2.2 qa j ≠ none := fun j hj => by rw [(hs.a (gqa.S hM) rfl j).2]; exact px_28 j hj
        replace fq_16 := (hs.o (gx.S hM) trivial rfl).2.trans fq_16
        replace fq_17 := (hs.o (gx.S hM) trivial rfl).2.trans fq_17
        replace f_25 := (hs.o (gx.S hM) trivial rfl).1.trans f_25
        replace hM := hM.tr (hs.mono (by decide))
        replace gq_10 := gq_10.S hs
        replace gq_16 := gq_16.S hs
        replace gq_17 := gq_17.S hs
        have f_32 : h_31.2.1 x 6 = x_30 := by rw [eh_31]; exact hx_pi_at _ _ _ _
        have pf_33 : ∀ j : Nat, (j : Int) < (h_31.2.1 x 6).toInt → h_31.2.2 qa j ≠ none := fun j hj => px_28 j (by rw [f_32] at hj; omega)
        refine lv_aload_n hx hb dX9_act_82 rfl (lv_at hl 1 rfl) ?_
        refine hx_geti hx hb hts hC_0 hown hW hT gq_10 tt_0 0 (by decide) rfl kw_163 ⟨rfl, rfl, rfl⟩ dX9_act_83 (fun x_34 ex_34 lx_34 ux_34 => ?_)
        have fx_34 := ex_34.symm
        refine W.widen (k := 3) (n := 179) (Nat.le_of_ble_eq_true rfl) (Nat.le_of_ble_eq_true rfl) ?_
        exact hx_reti hx hb hr hlk hW ⟨trivial, hT, hM, pf_33⟩ dX9_act_86
      · skip
        refine lv_bipush (v := -2) hx hb dX9_act_57 (by decide) ?_
        refine lv_iload_n hx hb dX9_act_59 rfl (lv_at hl 0 rfl) ?_
        refine lv_isub hx hb dX9_act_60 ?_
        have rg_35 := i32_r r_21
        refine lv_topi (fun x_36 ex_36 => ?_)
        refine W.widen (k := 3) (n := 179) (Nat.le_of_ble_eq_true rfl) (Nat.le_of_ble_eq_true rfl) ?_
        exact hx_reti hx hb hr hlk hW ⟨trivial, hT, hM, pf_x_6⟩ dX9_act_61
    · skip
      replace hr_7 := hr_7.resolve_right (fun z9 => absurd (c_8.symm.trans z9.1) (by decide))
      replace hr_7 := hr_7.2
      refine lv_iconst (v := -1) hx hb dX9_act_16 (by decide) ?_
      refine W.widen (k := 3) (n := 179) (Nat.le_of_ble_eq_true rfl) (Nat.le_of_ble_eq_true rfl) ?_
      exact hx_reti hx hb hr hlk hW ⟨trivial, hT, hM, pf_x_6⟩ dX9_act_17

def wLX9_file_0 : List Nat := [42, 27, 182, 0, 144, 58, 7, 42, 28, 182, 0, 144, 58, 8, 42, 180, 0, 181, 16, 100, 162, 0, 61, 25, 7, 198, 0, 56, 25, 8, 198, 0, 51, 27, 28, 159, 0, 46, 25, 8, 180, 0, 148, 154, 0, 38, 29, 4, 17, 39, 15, 184, 0, 128, 153, 0, 27, 21, 4, 3, 42, 180, 0, 94]
def wLX9_file_1 : List Nat := [184, 0, 128, 153, 0, 14, 21, 6, 3, 16, 9, 184, 0, 128, 154, 0, 5, 2, 172, 187, 0, 46, 89, 42, 180, 0, 181, 25, 7, 25, 8, 42, 42, 180, 0, 94, 182, 0, 115, 183, 0, 184, 58, 9, 25, 9, 29, 181, 0, 187, 25, 9, 21, 4, 181, 0, 190, 25, 9, 42, 180, 0, 94, 181]
def wLX9_file_2 : List Nat := [0, 193, 25, 9, 180, 0, 196, 5, 21, 5, 153, 0, 7, 4, 167, 0, 4, 3, 79, 25, 9, 180, 0, 196, 6, 21, 6, 79, 25, 9, 180, 0, 196, 16, 7, 29, 79, 42, 180, 0, 48, 42, 180, 0, 181, 25, 9, 83, 42, 89, 180, 0, 181, 4, 96, 181, 0, 181, 25, 9, 180, 0, 199, 172]
theorem wX9_file_0 : (cX9_file.data.toList.map UInt8.toNat).drop 0 = wLX9_file_0 ++ (wLX9_file_1 ++ (wLX9_file_2 ++ ([]))) := by decide +kernel
theorem wX9_file_1 : (cX9_file.data.toList.map UInt8.toNat).drop 64 = wLX9_file_1 ++ (wLX9_file_2 ++ ([])) := hz_wn wX9_file_0 rfl
theorem wX9_file_2 : (cX9_file.data.toList.map UInt8.toNat).drop 128 = wLX9_file_2 ++ ([]) := hz_wn wX9_file_1 rfl
theorem dX9_file_0 : decode cX9_file 0 = .ok (.aload_n 0, 1) := dq_42 (hz_wg wX9_file_0 (j := 0) (n := 42) rfl)
theorem dX9_file_1 : decode cX9_file 1 = .ok (.iload_n 1, 1) := dq_27 (hz_wg wX9_file_0 (j := 1) (n := 27) rfl)
theorem dX9_file_2 : decode cX9_file 2 = .ok (.invokevirtual 144, 3) := dq_182 (hz_wg wX9_file_0 (j := 2) (n := 182) rfl) (hz_wg wX9_file_0 (j := 3) (n := 0) rfl) (hz_wg wX9_file_0 (j := 4) (n := 144) rfl) rfl
theorem dX9_file_5 : decode cX9_file 5 = .ok (.astore 7, 2) := dq_58 (hz_wg wX9_file_0 (j := 5) (n := 58) rfl) (hz_wg wX9_file_0 (j := 6) (n := 7) rfl)
theorem dX9_file_7 : decode cX9_file 7 = .ok (.aload_n 0, 1) := dq_42 (hz_wg wX9_file_0 (j := 7) (n := 42) rfl)
theorem dX9_file_8 : decode cX9_file 8 = .ok (.iload_n 2, 1) := dq_28 (hz_wg wX9_file_0 (j := 8) (n := 28) rfl)
theorem dX9_file_9 : decode cX9_file 9 = .ok (.invokevirtual 144, 3) := dq_182 (hz_wg wX9_file_0 (j := 9) (n := 182) rfl) (hz_wg wX9_file_0 (j := 10) (n := 0) rfl) (hz_wg wX9_file_0 (j := 11) (n := 144) rfl) rfl
theorem dX9_file_12 : decode cX9_file 12 = .ok (.astore 8, 2) := dq_58 (hz_wg wX9_file_0 (j := 12) (n := 58) rfl) (hz_wg wX9_file_0 (j := 13) (n := 8) rfl)
theorem dX9_file_14 : decode cX9_file 14 = .ok (.aload_n 0, 1) := dq_42 (hz_wg wX9_file_0 (j := 14) (n := 42) rfl)
theorem dX9_file_15 : decode cX9_file 15 = .ok (.getfield 181, 3) := dq_180 (hz_wg wX9_file_0 (j := 15) (n := 180) rfl) (hz_wg wX9_file_0 (j := 16) (n := 0) rfl) (hz_wg wX9_file_0 (j := 17) (n := 181) rfl) rfl
theorem dX9_file_18 : decode cX9_file 18 = .ok (.bipush 100, 2) := dq_16 (hz_wg wX9_file_0 (j := 18) (n := 16) rfl) (hz_wg wX9_file_0 (j := 19) (n := 100) rfl) (by decide)
theorem dX9_file_20 : decode cX9_file 20 = .ok (.if_icmp .ge 61, 3) := dq_162 (hz_wg wX9_file_0 (j := 20) (n := 162) rfl) (hz_wg wX9_file_0 (j := 21) (n := 0) rfl) (hz_wg wX9_file_0 (j := 22) (n := 61) rfl) (by decide)
theorem dX9_file_23 : decode cX9_file 23 = .ok (.aload 7, 2) := dq_25 (hz_wg wX9_file_0 (j := 23) (n := 25) rfl) (hz_wg wX9_file_0 (j := 24) (n := 7) rfl)
theorem dX9_file_25 : decode cX9_file 25 = .ok (.ifnull 56, 3) := dq_198 (hz_wg wX9_file_0 (j := 25) (n := 198) rfl) (hz_wg wX9_file_0 (j := 26) (n := 0) rfl) (hz_wg wX9_file_0 (j := 27) (n := 56) rfl) (by decide)
theorem dX9_file_28 : decode cX9_file 28 = .ok (.aload 8, 2) := dq_25 (hz_wg wX9_file_0 (j := 28) (n := 25) rfl) (hz_wg wX9_file_0 (j := 29) (n := 8) rfl)
theorem dX9_file_30 : decode cX9_file 30 = .ok (.ifnull 51, 3) := dq_198 (hz_wg wX9_file_0 (j := 30) (n := 198) rfl) (hz_wg wX9_file_0 (j := 31) (n := 0) rfl) (hz_wg wX9_file_0 (j := 32) (n := 51) rfl) (by decide)
theorem dX9_file_33 : decode cX9_file 33 = .ok (.iload_n 1, 1) := dq_27 (hz_wg wX9_file_0 (j := 33) (n := 27) rfl)
theorem dX9_file_34 : decode cX9_file 34 = .ok (.iload_n 2, 1) := dq_28 (hz_wg wX9_file_0 (j := 34) (n := 28) rfl)
theorem dX9_file_35 : decode cX9_file 35 = .ok (.if_icmp .eq 46, 3) := dq_159 (hz_wg wX9_file_0 (j := 35) (n := 159) rfl) (hz_wg wX9_file_0 (j := 36) (n := 0) rfl) (hz_wg wX9_file_0 (j := 37) (n := 46) rfl) (by decide)
theorem dX9_file_38 : decode cX9_file 38 = .ok (.aload 8, 2) := dq_25 (hz_wg wX9_file_0 (j := 38) (n := 25) rfl) (hz_wg wX9_file_0 (j := 39) (n := 8) rfl)
theorem dX9_file_40 : decode cX9_file 40 = .ok (.getfield 148, 3) := dq_180 (hz_wg wX9_file_0 (j := 40) (n := 180) rfl) (hz_wg wX9_file_0 (j := 41) (n := 0) rfl) (hz_wg wX9_file_0 (j := 42) (n := 148) rfl) rfl
theorem dX9_file_43 : decode cX9_file 43 = .ok (.ifCond .ne 38, 3) := dq_154 (hz_wg wX9_file_0 (j := 43) (n := 154) rfl) (hz_wg wX9_file_0 (j := 44) (n := 0) rfl) (hz_wg wX9_file_0 (j := 45) (n := 38) rfl) (by decide)
theorem dX9_file_46 : decode cX9_file 46 = .ok (.iload_n 3, 1) := dq_29 (hz_wg wX9_file_0 (j := 46) (n := 29) rfl)
theorem dX9_file_47 : decode cX9_file 47 = .ok (.iconst 1, 1) := dq_4 (hz_wg wX9_file_0 (j := 47) (n := 4) rfl)
theorem dX9_file_48 : decode cX9_file 48 = .ok (.sipush 9999, 3) := dq_17 (hz_wg wX9_file_0 (j := 48) (n := 17) rfl) (hz_wg wX9_file_0 (j := 49) (n := 39) rfl) (hz_wg wX9_file_0 (j := 50) (n := 15) rfl) (by decide)
theorem dX9_file_51 : decode cX9_file 51 = .ok (.invokestatic 128, 3) := dq_184 (hz_wg wX9_file_0 (j := 51) (n := 184) rfl) (hz_wg wX9_file_0 (j := 52) (n := 0) rfl) (hz_wg wX9_file_0 (j := 53) (n := 128) rfl) rfl
theorem dX9_file_54 : decode cX9_file 54 = .ok (.ifCond .eq 27, 3) := dq_153 (hz_wg wX9_file_0 (j := 54) (n := 153) rfl) (hz_wg wX9_file_0 (j := 55) (n := 0) rfl) (hz_wg wX9_file_0 (j := 56) (n := 27) rfl) (by decide)
theorem dX9_file_57 : decode cX9_file 57 = .ok (.iload 4, 2) := dq_21 (hz_wg wX9_file_0 (j := 57) (n := 21) rfl) (hz_wg wX9_file_0 (j := 58) (n := 4) rfl)
theorem dX9_file_59 : decode cX9_file 59 = .ok (.iconst 0, 1) := dq_3 (hz_wg wX9_file_0 (j := 59) (n := 3) rfl)
theorem dX9_file_60 : decode cX9_file 60 = .ok (.aload_n 0, 1) := dq_42 (hz_wg wX9_file_0 (j := 60) (n := 42) rfl)
theorem dX9_file_61 : decode cX9_file 61 = .ok (.getfield 94, 3) := dq_180 (hz_wg wX9_file_0 (j := 61) (n := 180) rfl) (hz_wg wX9_file_0 (j := 62) (n := 0) rfl) (hz_wg wX9_file_0 (j := 63) (n := 94) rfl) rfl
theorem dX9_file_64 : decode cX9_file 64 = .ok (.invokestatic 128, 3) := dq_184 (hz_wg wX9_file_1 (j := 0) (n := 184) rfl) (hz_wg wX9_file_1 (j := 1) (n := 0) rfl) (hz_wg wX9_file_1 (j := 2) (n := 128) rfl) rfl
theorem dX9_file_67 : decode cX9_file 67 = .ok (.ifCond .eq 14, 3) := dq_153 (hz_wg wX9_file_1 (j := 3) (n := 153) rfl) (hz_wg wX9_file_1 (j := 4) (n := 0) rfl) (hz_wg wX9_file_1 (j := 5) (n := 14) rfl) (by decide)
theorem dX9_file_70 : decode cX9_file 70 = .ok (.iload 6, 2) := dq_21 (hz_wg wX9_file_1 (j := 6) (n := 21) rfl) (hz_wg wX9_file_1 (j := 7) (n := 6) rfl)
theorem dX9_file_72 : decode cX9_file 72 = .ok (.iconst 0, 1) := dq_3 (hz_wg wX9_file_1 (j := 8) (n := 3) rfl)
theorem dX9_file_73 : decode cX9_file 73 = .ok (.bipush 9, 2) := dq_16 (hz_wg wX9_file_1 (j := 9) (n := 16) rfl) (hz_wg wX9_file_1 (j := 10) (n := 9) rfl) (by decide)
theorem dX9_file_75 : decode cX9_file 75 = .ok (.invokestatic 128, 3) := dq_184 (hz_wg wX9_file_1 (j := 11) (n := 184) rfl) (hz_wg wX9_file_1 (j := 12) (n := 0) rfl) (hz_wg wX9_file_1 (j := 13) (n := 128) rfl) rfl
theorem dX9_file_78 : decode cX9_file 78 = .ok (.ifCond .ne 5, 3) := dq_154 (hz_wg wX9_file_1 (j := 14) (n := 154) rfl) (hz_wg wX9_file_1 (j := 15) (n := 0) rfl) (hz_wg wX9_file_1 (j := 16) (n := 5) rfl) (by decide)
theorem dX9_file_81 : decode cX9_file 81 = .ok (.iconst (-1), 1) := dq_2 (hz_wg wX9_file_1 (j := 17) (n := 2) rfl)
theorem dX9_file_82 : decode cX9_file 82 = .ok (.ireturn, 1) := dq_172 (hz_wg wX9_file_1 (j := 18) (n := 172) rfl)
theorem dX9_file_83 : decode cX9_file 83 = .ok (.new 46, 3) := dq_187 (hz_wg wX9_file_1 (j := 19) (n := 187) rfl) (hz_wg wX9_file_1 (j := 20) (n := 0) rfl) (hz_wg wX9_file_1 (j := 21) (n := 46) rfl) rfl
theorem dX9_file_86 : decode cX9_file 86 = .ok (.dup, 1) := dq_89 (hz_wg wX9_file_1 (j := 22) (n := 89) rfl)
theorem dX9_file_87 : decode cX9_file 87 = .ok (.aload_n 0, 1) := dq_42 (hz_wg wX9_file_1 (j := 23) (n := 42) rfl)
theorem dX9_file_88 : decode cX9_file 88 = .ok (.getfield 181, 3) := dq_180 (hz_wg wX9_file_1 (j := 24) (n := 180) rfl) (hz_wg wX9_file_1 (j := 25) (n := 0) rfl) (hz_wg wX9_file_1 (j := 26) (n := 181) rfl) rfl
theorem dX9_file_91 : decode cX9_file 91 = .ok (.aload 7, 2) := dq_25 (hz_wg wX9_file_1 (j := 27) (n := 25) rfl) (hz_wg wX9_file_1 (j := 28) (n := 7) rfl)
theorem dX9_file_93 : decode cX9_file 93 = .ok (.aload 8, 2) := dq_25 (hz_wg wX9_file_1 (j := 29) (n := 25) rfl) (hz_wg wX9_file_1 (j := 30) (n := 8) rfl)
theorem dX9_file_95 : decode cX9_file 95 = .ok (.aload_n 0, 1) := dq_42 (hz_wg wX9_file_1 (j := 31) (n := 42) rfl)
theorem dX9_file_96 : decode cX9_file 96 = .ok (.aload_n 0, 1) := dq_42 (hz_wg wX9_file_1 (j := 32) (n := 42) rfl)
theorem dX9_file_97 : decode cX9_file 97 = .ok (.getfield 94, 3) := dq_180 (hz_wg wX9_file_1 (j := 33) (n := 180) rfl) (hz_wg wX9_file_1 (j := 34) (n := 0) rfl) (hz_wg wX9_file_1 (j := 35) (n := 94) rfl) rfl
theorem dX9_file_100 : decode cX9_file 100 = .ok (.invokevirtual 115, 3) := dq_182 (hz_wg wX9_file_1 (j := 36) (n := 182) rfl) (hz_wg wX9_file_1 (j := 37) (n := 0) rfl) (hz_wg wX9_file_1 (j := 38) (n := 115) rfl) rfl
theorem dX9_file_103 : decode cX9_file 103 = .ok (.invokespecial 184, 3) := dq_183 (hz_wg wX9_file_1 (j := 39) (n := 183) rfl) (hz_wg wX9_file_1 (j := 40) (n := 0) rfl) (hz_wg wX9_file_1 (j := 41) (n := 184) rfl) rfl
theorem dX9_file_106 : decode cX9_file 106 = .ok (.astore 9, 2) := dq_58 (hz_wg wX9_file_1 (j := 42) (n := 58) rfl) (hz_wg wX9_file_1 (j := 43) (n := 9) rfl)
theorem dX9_file_108 : decode cX9_file 108 = .ok (.aload 9, 2) := dq_25 (hz_wg wX9_file_1 (j := 44) (n := 25) rfl) (hz_wg wX9_file_1 (j := 45) (n := 9) rfl)
theorem dX9_file_110 : decode cX9_file 110 = .ok (.iload_n 3, 1) := dq_29 (hz_wg wX9_file_1 (j := 46) (n := 29) rfl)
theorem dX9_file_111 : decode cX9_file 111 = .ok (.putfield 187, 3) := dq_181 (hz_wg wX9_file_1 (j := 47) (n := 181) rfl) (hz_wg wX9_file_1 (j := 48) (n := 0) rfl) (hz_wg wX9_file_1 (j := 49) (n := 187) rfl) rfl
theorem dX9_file_114 : decode cX9_file 114 = .ok (.aload 9, 2) := dq_25 (hz_wg wX9_file_1 (j := 50) (n := 25) rfl) (hz_wg wX9_file_1 (j := 51) (n := 9) rfl)
theorem dX9_file_116 : decode cX9_file 116 = .ok (.iload 4, 2) := dq_21 (hz_wg wX9_file_1 (j := 52) (n := 21) rfl) (hz_wg wX9_file_1 (j := 53) (n := 4) rfl)
theorem dX9_file_118 : decode cX9_file 118 = .ok (.putfield 190, 3) := dq_181 (hz_wg wX9_file_1 (j := 54) (n := 181) rfl) (hz_wg wX9_file_1 (j := 55) (n := 0) rfl) (hz_wg wX9_file_1 (j := 56) (n := 190) rfl) rfl
theorem dX9_file_121 : decode cX9_file 121 = .ok (.aload 9, 2) := dq_25 (hz_wg wX9_file_1 (j := 57) (n := 25) rfl) (hz_wg wX9_file_1 (j := 58) (n := 9) rfl)
theorem dX9_file_123 : decode cX9_file 123 = .ok (.aload_n 0, 1) := dq_42 (hz_wg wX9_file_1 (j := 59) (n := 42) rfl)
theorem dX9_file_124 : decode cX9_file 124 = .ok (.getfield 94, 3) := dq_180 (hz_wg wX9_file_1 (j := 60) (n := 180) rfl) (hz_wg wX9_file_1 (j := 61) (n := 0) rfl) (hz_wg wX9_file_1 (j := 62) (n := 94) rfl) rfl
theorem dX9_file_127 : decode cX9_file 127 = .ok (.putfield 193, 3) := dq_181 (hz_wg wX9_file_1 (j := 63) (n := 181) rfl) (hz_wg wX9_file_2 (j := 0) (n := 0) rfl) (hz_wg wX9_file_2 (j := 1) (n := 193) rfl) rfl
theorem dX9_file_130 : decode cX9_file 130 = .ok (.aload 9, 2) := dq_25 (hz_wg wX9_file_2 (j := 2) (n := 25) rfl) (hz_wg wX9_file_2 (j := 3) (n := 9) rfl)
theorem dX9_file_132 : decode cX9_file 132 = .ok (.getfield 196, 3) := dq_180 (hz_wg wX9_file_2 (j := 4) (n := 180) rfl) (hz_wg wX9_file_2 (j := 5) (n := 0) rfl) (hz_wg wX9_file_2 (j := 6) (n := 196) rfl) rfl
theorem dX9_file_135 : decode cX9_file 135 = .ok (.iconst 2, 1) := dq_5 (hz_wg wX9_file_2 (j := 7) (n := 5) rfl)
theorem dX9_file_136 : decode cX9_file 136 = .ok (.iload 5, 2) := dq_21 (hz_wg wX9_file_2 (j := 8) (n := 21) rfl) (hz_wg wX9_file_2 (j := 9) (n := 5) rfl)
theorem dX9_file_138 : decode cX9_file 138 = .ok (.ifCond .eq 7, 3) := dq_153 (hz_wg wX9_file_2 (j := 10) (n := 153) rfl) (hz_wg wX9_file_2 (j := 11) (n := 0) rfl) (hz_wg wX9_file_2 (j := 12) (n := 7) rfl) (by decide)
theorem dX9_file_141 : decode cX9_file 141 = .ok (.iconst 1, 1) := dq_4 (hz_wg wX9_file_2 (j := 13) (n := 4) rfl)
theorem dX9_file_142 : decode cX9_file 142 = .ok (.goto 4, 3) := dq_167 (hz_wg wX9_file_2 (j := 14) (n := 167) rfl) (hz_wg wX9_file_2 (j := 15) (n := 0) rfl) (hz_wg wX9_file_2 (j := 16) (n := 4) rfl) (by decide)
theorem dX9_file_145 : decode cX9_file 145 = .ok (.iconst 0, 1) := dq_3 (hz_wg wX9_file_2 (j := 17) (n := 3) rfl)
theorem dX9_file_146 : decode cX9_file 146 = .ok (.iastore, 1) := dq_79 (hz_wg wX9_file_2 (j := 18) (n := 79) rfl)
theorem dX9_file_147 : decode cX9_file 147 = .ok (.aload 9, 2) := dq_25 (hz_wg wX9_file_2 (j := 19) (n := 25) rfl) (hz_wg wX9_file_2 (j := 20) (n := 9) rfl)
theorem dX9_file_149 : decode cX9_file 149 = .ok (.getfield 196, 3) := dq_180 (hz_wg wX9_file_2 (j := 21) (n := 180) rfl) (hz_wg wX9_file_2 (j := 22) (n := 0) rfl) (hz_wg wX9_file_2 (j := 23) (n := 196) rfl) rfl
theorem dX9_file_152 : decode cX9_file 152 = .ok (.iconst 3, 1) := dq_6 (hz_wg wX9_file_2 (j := 24) (n := 6) rfl)
theorem dX9_file_153 : decode cX9_file 153 = .ok (.iload 6, 2) := dq_21 (hz_wg wX9_file_2 (j := 25) (n := 21) rfl) (hz_wg wX9_file_2 (j := 26) (n := 6) rfl)
theorem dX9_file_155 : decode cX9_file 155 = .ok (.iastore, 1) := dq_79 (hz_wg wX9_file_2 (j := 27) (n := 79) rfl)
theorem dX9_file_156 : decode cX9_file 156 = .ok (.aload 9, 2) := dq_25 (hz_wg wX9_file_2 (j := 28) (n := 25) rfl) (hz_wg wX9_file_2 (j := 29) (n := 9) rfl)
theorem dX9_file_158 : decode cX9_file 158 = .ok (.getfield 196, 3) := dq_180 (hz_wg wX9_file_2 (j := 30) (n := 180) rfl) (hz_wg wX9_file_2 (j := 31) (n := 0) rfl) (hz_wg wX9_file_2 (j := 32) (n := 196) rfl) rfl
theorem dX9_file_161 : decode cX9_file 161 = .ok (.bipush 7, 2) := dq_16 (hz_wg wX9_file_2 (j := 33) (n := 16) rfl) (hz_wg wX9_file_2 (j := 34) (n := 7) rfl) (by decide)
theorem dX9_file_163 : decode cX9_file 163 = .ok (.iload_n 3, 1) := dq_29 (hz_wg wX9_file_2 (j := 35) (n := 29) rfl)
theorem dX9_file_164 : decode cX9_file 164 = .ok (.iastore, 1) := dq_79 (hz_wg wX9_file_2 (j := 36) (n := 79) rfl)
theorem dX9_file_165 : decode cX9_file 165 = .ok (.aload_n 0, 1) := dq_42 (hz_wg wX9_file_2 (j := 37) (n := 42) rfl)
theorem dX9_file_166 : decode cX9_file 166 = .ok (.getfield 48, 3) := dq_180 (hz_wg wX9_file_2 (j := 38) (n := 180) rfl) (hz_wg wX9_file_2 (j := 39) (n := 0) rfl) (hz_wg wX9_file_2 (j := 40) (n := 48) rfl) rfl
theorem dX9_file_169 : decode cX9_file 169 = .ok (.aload_n 0, 1) := dq_42 (hz_wg wX9_file_2 (j := 41) (n := 42) rfl)
theorem dX9_file_170 : decode cX9_file 170 = .ok (.getfield 181, 3) := dq_180 (hz_wg wX9_file_2 (j := 42) (n := 180) rfl) (hz_wg wX9_file_2 (j := 43) (n := 0) rfl) (hz_wg wX9_file_2 (j := 44) (n := 181) rfl) rfl
theorem dX9_file_173 : decode cX9_file 173 = .ok (.aload 9, 2) := dq_25 (hz_wg wX9_file_2 (j := 45) (n := 25) rfl) (hz_wg wX9_file_2 (j := 46) (n := 9) rfl)
theorem dX9_file_175 : decode cX9_file 175 = .ok (.aastore, 1) := dq_83 (hz_wg wX9_file_2 (j := 47) (n := 83) rfl)
theorem dX9_file_176 : decode cX9_file 176 = .ok (.aload_n 0, 1) := dq_42 (hz_wg wX9_file_2 (j := 48) (n := 42) rfl)
theorem dX9_file_177 : decode cX9_file 177 = .ok (.dup, 1) := dq_89 (hz_wg wX9_file_2 (j := 49) (n := 89) rfl)
theorem dX9_file_178 : decode cX9_file 178 = .ok (.getfield 181, 3) := dq_180 (hz_wg wX9_file_2 (j := 50) (n := 180) rfl) (hz_wg wX9_file_2 (j := 51) (n := 0) rfl) (hz_wg wX9_file_2 (j := 52) (n := 181) rfl) rfl
theorem dX9_file_181 : decode cX9_file 181 = .ok (.iconst 1, 1) := dq_4 (hz_wg wX9_file_2 (j := 53) (n := 4) rfl)
theorem dX9_file_182 : decode cX9_file 182 = .ok (.iadd, 1) := dq_96 (hz_wg wX9_file_2 (j := 54) (n := 96) rfl)
theorem dX9_file_183 : decode cX9_file 183 = .ok (.putfield 181, 3) := dq_181 (hz_wg wX9_file_2 (j := 55) (n := 181) rfl) (hz_wg wX9_file_2 (j := 56) (n := 0) rfl) (hz_wg wX9_file_2 (j := 57) (n := 181) rfl) rfl
theorem dX9_file_186 : decode cX9_file 186 = .ok (.aload 9, 2) := dq_25 (hz_wg wX9_file_2 (j := 58) (n := 25) rfl) (hz_wg wX9_file_2 (j := 59) (n := 9) rfl)
theorem dX9_file_188 : decode cX9_file 188 = .ok (.getfield 199, 3) := dq_180 (hz_wg wX9_file_2 (j := 60) (n := 180) rfl) (hz_wg wX9_file_2 (j := 61) (n := 0) rfl) (hz_wg wX9_file_2 (j := 62) (n := 199) rfl) rfl
theorem dX9_file_191 : decode cX9_file 191 = .ok (.ireturn, 1) := dq_172 (hz_wg wX9_file_2 (j := 63) (n := 172) rfl)
def wLX8_putOnList_0 : List Nat := [42, 180, 0, 24, 16, 8, 161, 0, 4, 177, 42, 180, 0, 24, 61, 28, 158, 0, 41, 42, 180, 0, 17, 28, 4, 100, 50, 180, 0, 28, 43, 180, 0, 28, 164, 0, 23, 42, 180, 0, 17, 28, 42, 180, 0, 17, 28, 4, 100, 50, 83, 132, 2, 255, 167, 255, 217, 42, 180, 0, 17, 28, 43, 83]
def wLX8_putOnList_1 : List Nat := [42, 89, 180, 0, 24, 4, 96, 181, 0, 24, 177]
theorem wX8_putOnList_0 : (cX8_putOnList.data.toList.map UInt8.toNat).drop 0 = wLX8_putOnList_0 ++ (wLX8_putOnList_1 ++ ([])) := by decide +kernel
theorem wX8_putOnList_1 : (cX8_putOnList.data.toList.map UInt8.toNat).drop 64 = wLX8_putOnList_1 ++ ([]) := hz_wn wX8_putOnList_0 rfl
theorem dX8_putOnList_0 : decode cX8_putOnList 0 = .ok (.aload_n 0, 1) := dq_42 (hz_wg wX8_putOnList_0 (j := 0) (n := 42) rfl)
theorem dX8_putOnList_1 : decode cX8_putOnList 1 = .ok (.getfield 24, 3) := dq_180 (hz_wg wX8_putOnList_0 (j := 1) (n := 180) rfl) (hz_wg wX8_putOnList_0 (j := 2) (n := 0) rfl) (hz_wg wX8_putOnList_0 (j := 3) (n := 24) rfl) rfl
theorem dX8_putOnList_4 : decode cX8_putOnList 4 = .ok (.bipush 8, 2) := dq_16 (hz_wg wX8_putOnList_0 (j := 4) (n := 16) rfl) (hz_wg wX8_putOnList_0 (j := 5) (n := 8) rfl) (by decide)
theorem dX8_putOnList_6 : decode cX8_putOnList 6 = .ok (.if_icmp .lt 4, 3) := dq_161 (hz_wg wX8_putOnList_0 (j := 6) (n := 161) rfl) (hz_wg wX8_putOnList_0 (j := 7) (n := 0) rfl) (hz_wg wX8_putOnList_0 (j := 8) (n := 4) rfl) (by decide)
theorem dX8_putOnList_10 : decode cX8_putOnList 10 = .ok (.aload_n 0, 1) := dq_42 (hz_wg wX8_putOnList_0 (j := 10) (n := 42) rfl)
theorem dX8_putOnList_11 : decode cX8_putOnList 11 = .ok (.getfield 24, 3) := dq_180 (hz_wg wX8_putOnList_0 (j := 11) (n := 180) rfl) (hz_wg wX8_putOnList_0 (j := 12) (n := 0) rfl) (hz_wg wX8_putOnList_0 (j := 13) (n := 24) rfl) rfl
theorem dX8_putOnList_14 : decode cX8_putOnList 14 = .ok (.istore_n 2, 1) := dq_61 (hz_wg wX8_putOnList_0 (j := 14) (n := 61) rfl)
theorem dX8_putOnList_15 : decode cX8_putOnList 15 = .ok (.iload_n 2, 1) := dq_28 (hz_wg wX8_putOnList_0 (j := 15) (n := 28) rfl)
theorem dX8_putOnList_16 : decode cX8_putOnList 16 = .ok (.ifCond .le 41, 3) := dq_158 (hz_wg wX8_putOnList_0 (j := 16) (n := 158) rfl) (hz_wg wX8_putOnList_0 (j := 17) (n := 0) rfl) (hz_wg wX8_putOnList_0 (j := 18) (n := 41) rfl) (by decide)
theorem dX8_putOnList_19 : decode cX8_putOnList 19 = .ok (.aload_n 0, 1) := dq_42 (hz_wg wX8_putOnList_0 (j := 19) (n := 42) rfl)
theorem dX8_putOnList_20 : decode cX8_putOnList 20 = .ok (.getfield 17, 3) := dq_180 (hz_wg wX8_putOnList_0 (j := 20) (n := 180) rfl) (hz_wg wX8_putOnList_0 (j := 21) (n := 0) rfl) (hz_wg wX8_putOnList_0 (j := 22) (n := 17) rfl) rfl
theorem dX8_putOnList_23 : decode cX8_putOnList 23 = .ok (.iload_n 2, 1) := dq_28 (hz_wg wX8_putOnList_0 (j := 23) (n := 28) rfl)
theorem dX8_putOnList_24 : decode cX8_putOnList 24 = .ok (.iconst 1, 1) := dq_4 (hz_wg wX8_putOnList_0 (j := 24) (n := 4) rfl)
theorem dX8_putOnList_25 : decode cX8_putOnList 25 = .ok (.isub, 1) := dq_100 (hz_wg wX8_putOnList_0 (j := 25) (n := 100) rfl)
theorem dX8_putOnList_26 : decode cX8_putOnList 26 = .ok (.aaload, 1) := dq_50 (hz_wg wX8_putOnList_0 (j := 26) (n := 50) rfl)
theorem dX8_putOnList_27 : decode cX8_putOnList 27 = .ok (.getfield 28, 3) := dq_180 (hz_wg wX8_putOnList_0 (j := 27) (n := 180) rfl) (hz_wg wX8_putOnList_0 (j := 28) (n := 0) rfl) (hz_wg wX8_putOnList_0 (j := 29) (n := 28) rfl) rfl
theorem dX8_putOnList_30 : decode cX8_putOnList 30 = .ok (.aload_n 1, 1) := dq_43 (hz_wg wX8_putOnList_0 (j := 30) (n := 43) rfl)
theorem dX8_putOnList_31 : decode cX8_putOnList 31 = .ok (.getfield 28, 3) := dq_180 (hz_wg wX8_putOnList_0 (j := 31) (n := 180) rfl) (hz_wg wX8_putOnList_0 (j := 32) (n := 0) rfl) (hz_wg wX8_putOnList_0 (j := 33) (n := 28) rfl) rfl
theorem dX8_putOnList_34 : decode cX8_putOnList 34 = .ok (.if_icmp .le 23, 3) := dq_164 (hz_wg wX8_putOnList_0 (j := 34) (n := 164) rfl) (hz_wg wX8_putOnList_0 (j := 35) (n := 0) rfl) (hz_wg wX8_putOnList_0 (j := 36) (n := 23) rfl) (by decide)
theorem dX8_putOnList_37 : decode cX8_putOnList 37 = .ok (.aload_n 0, 1) := dq_42 (hz_wg wX8_putOnList_0 (j := 37) (n := 42) rfl)
theorem dX8_putOnList_38 : decode cX8_putOnList 38 = .ok (.getfield 17, 3) := dq_180 (hz_wg wX8_putOnList_0 (j := 38) (n := 180) rfl) (hz_wg wX8_putOnList_0 (j := 39) (n := 0) rfl) (hz_wg wX8_putOnList_0 (j := 40) (n := 17) rfl) rfl
theorem dX8_putOnList_41 : decode cX8_putOnList 41 = .ok (.iload_n 2, 1) := dq_28 (hz_wg wX8_putOnList_0 (j := 41) (n := 28) rfl)
theorem dX8_putOnList_42 : decode cX8_putOnList 42 = .ok (.aload_n 0, 1) := dq_42 (hz_wg wX8_putOnList_0 (j := 42) (n := 42) rfl)
theorem dX8_putOnList_43 : decode cX8_putOnList 43 = .ok (.getfield 17, 3) := dq_180 (hz_wg wX8_putOnList_0 (j := 43) (n := 180) rfl) (hz_wg wX8_putOnList_0 (j := 44) (n := 0) rfl) (hz_wg wX8_putOnList_0 (j := 45) (n := 17) rfl) rfl
theorem dX8_putOnList_46 : decode cX8_putOnList 46 = .ok (.iload_n 2, 1) := dq_28 (hz_wg wX8_putOnList_0 (j := 46) (n := 28) rfl)
theorem dX8_putOnList_47 : decode cX8_putOnList 47 = .ok (.iconst 1, 1) := dq_4 (hz_wg wX8_putOnList_0 (j := 47) (n := 4) rfl)
theorem dX8_putOnList_48 : decode cX8_putOnList 48 = .ok (.isub, 1) := dq_100 (hz_wg wX8_putOnList_0 (j := 48) (n := 100) rfl)
theorem dX8_putOnList_49 : decode cX8_putOnList 49 = .ok (.aaload, 1) := dq_50 (hz_wg wX8_putOnList_0 (j := 49) (n := 50) rfl)
theorem dX8_putOnList_50 : decode cX8_putOnList 50 = .ok (.aastore, 1) := dq_83 (hz_wg wX8_putOnList_0 (j := 50) (n := 83) rfl)
theorem dX8_putOnList_51 : decode cX8_putOnList 51 = .ok (.iinc 2 (-1), 3) := dq_132 (hz_wg wX8_putOnList_0 (j := 51) (n := 132) rfl) (hz_wg wX8_putOnList_0 (j := 52) (n := 2) rfl) (hz_wg wX8_putOnList_0 (j := 53) (n := 255) rfl) (by decide)
theorem dX8_putOnList_54 : decode cX8_putOnList 54 = .ok (.goto (-39), 3) := dq_167 (hz_wg wX8_putOnList_0 (j := 54) (n := 167) rfl) (hz_wg wX8_putOnList_0 (j := 55) (n := 255) rfl) (hz_wg wX8_putOnList_0 (j := 56) (n := 217) rfl) (by decide)
theorem dX8_putOnList_57 : decode cX8_putOnList 57 = .ok (.aload_n 0, 1) := dq_42 (hz_wg wX8_putOnList_0 (j := 57) (n := 42) rfl)
theorem dX8_putOnList_58 : decode cX8_putOnList 58 = .ok (.getfield 17, 3) := dq_180 (hz_wg wX8_putOnList_0 (j := 58) (n := 180) rfl) (hz_wg wX8_putOnList_0 (j := 59) (n := 0) rfl) (hz_wg wX8_putOnList_0 (j := 60) (n := 17) rfl) rfl
theorem dX8_putOnList_61 : decode cX8_putOnList 61 = .ok (.iload_n 2, 1) := dq_28 (hz_wg wX8_putOnList_0 (j := 61) (n := 28) rfl)
theorem dX8_putOnList_62 : decode cX8_putOnList 62 = .ok (.aload_n 1, 1) := dq_43 (hz_wg wX8_putOnList_0 (j := 62) (n := 43) rfl)
theorem dX8_putOnList_63 : decode cX8_putOnList 63 = .ok (.aastore, 1) := dq_83 (hz_wg wX8_putOnList_0 (j := 63) (n := 83) rfl)
theorem dX8_putOnList_64 : decode cX8_putOnList 64 = .ok (.aload_n 0, 1) := dq_42 (hz_wg wX8_putOnList_1 (j := 0) (n := 42) rfl)
theorem dX8_putOnList_65 : decode cX8_putOnList 65 = .ok (.dup, 1) := dq_89 (hz_wg wX8_putOnList_1 (j := 1) (n := 89) rfl)
theorem dX8_putOnList_66 : decode cX8_putOnList 66 = .ok (.getfield 24, 3) := dq_180 (hz_wg wX8_putOnList_1 (j := 2) (n := 180) rfl) (hz_wg wX8_putOnList_1 (j := 3) (n := 0) rfl) (hz_wg wX8_putOnList_1 (j := 4) (n := 24) rfl) rfl
theorem dX8_putOnList_69 : decode cX8_putOnList 69 = .ok (.iconst 1, 1) := dq_4 (hz_wg wX8_putOnList_1 (j := 5) (n := 4) rfl)
theorem dX8_putOnList_70 : decode cX8_putOnList 70 = .ok (.iadd, 1) := dq_96 (hz_wg wX8_putOnList_1 (j := 6) (n := 96) rfl)
theorem dX8_putOnList_71 : decode cX8_putOnList 71 = .ok (.putfield 24, 3) := dq_181 (hz_wg wX8_putOnList_1 (j := 7) (n := 181) rfl) (hz_wg wX8_putOnList_1 (j := 8) (n := 0) rfl) (hz_wg wX8_putOnList_1 (j := 9) (n := 24) rfl) rfl
theorem dX8_putOnList_74 : decode cX8_putOnList 74 = .ok (.return_, 1) := dq_177 (hz_wg wX8_putOnList_1 (j := 10) (n := 177) rfl)
def wLX9_list_0 : List Nat := [42, 27, 182, 0, 200, 77, 44, 198, 0, 34, 44, 180, 0, 204, 2, 160, 0, 26, 42, 180, 0, 86, 44, 182, 1, 122, 154, 0, 15, 42, 180, 0, 86, 180, 1, 125, 16, 8, 161, 0, 5, 2, 172, 42, 180, 0, 86, 44, 182, 1, 128, 42, 180, 0, 86, 180, 1, 125, 172]
theorem wX9_list_0 : (cX9_list.data.toList.map UInt8.toNat).drop 0 = wLX9_list_0 ++ ([]) := by decide +kernel
theorem dX9_list_0 : decode cX9_list 0 = .ok (.aload_n 0, 1) := dq_42 (hz_wg wX9_list_0 (j := 0) (n := 42) rfl)
theorem dX9_list_1 : decode cX9_list 1 = .ok (.iload_n 1, 1) := dq_27 (hz_wg wX9_list_0 (j := 1) (n := 27) rfl)
theorem dX9_list_2 : decode cX9_list 2 = .ok (.invokevirtual 200, 3) := dq_182 (hz_wg wX9_list_0 (j := 2) (n := 182) rfl) (hz_wg wX9_list_0 (j := 3) (n := 0) rfl) (hz_wg wX9_list_0 (j := 4) (n := 200) rfl) rfl
theorem dX9_list_5 : decode cX9_list 5 = .ok (.astore_n 2, 1) := dq_77 (hz_wg wX9_list_0 (j := 5) (n := 77) rfl)
theorem dX9_list_6 : decode cX9_list 6 = .ok (.aload_n 2, 1) := dq_44 (hz_wg wX9_list_0 (j := 6) (n := 44) rfl)
theorem dX9_list_7 : decode cX9_list 7 = .ok (.ifnull 34, 3) := dq_198 (hz_wg wX9_list_0 (j := 7) (n := 198) rfl) (hz_wg wX9_list_0 (j := 8) (n := 0) rfl) (hz_wg wX9_list_0 (j := 9) (n := 34) rfl) (by decide)
theorem dX9_list_10 : decode cX9_list 10 = .ok (.aload_n 2, 1) := dq_44 (hz_wg wX9_list_0 (j := 10) (n := 44) rfl)
theorem dX9_list_11 : decode cX9_list 11 = .ok (.getfield 204, 3) := dq_180 (hz_wg wX9_list_0 (j := 11) (n := 180) rfl) (hz_wg wX9_list_0 (j := 12) (n := 0) rfl) (hz_wg wX9_list_0 (j := 13) (n := 204) rfl) rfl
theorem dX9_list_14 : decode cX9_list 14 = .ok (.iconst (-1), 1) := dq_2 (hz_wg wX9_list_0 (j := 14) (n := 2) rfl)
theorem dX9_list_15 : decode cX9_list 15 = .ok (.if_icmp .ne 26, 3) := dq_160 (hz_wg wX9_list_0 (j := 15) (n := 160) rfl) (hz_wg wX9_list_0 (j := 16) (n := 0) rfl) (hz_wg wX9_list_0 (j := 17) (n := 26) rfl) (by decide)
theorem dX9_list_18 : decode cX9_list 18 = .ok (.aload_n 0, 1) := dq_42 (hz_wg wX9_list_0 (j := 18) (n := 42) rfl)
theorem dX9_list_19 : decode cX9_list 19 = .ok (.getfield 86, 3) := dq_180 (hz_wg wX9_list_0 (j := 19) (n := 180) rfl) (hz_wg wX9_list_0 (j := 20) (n := 0) rfl) (hz_wg wX9_list_0 (j := 21) (n := 86) rfl) rfl
theorem dX9_list_22 : decode cX9_list 22 = .ok (.aload_n 2, 1) := dq_44 (hz_wg wX9_list_0 (j := 22) (n := 44) rfl)
theorem dX9_list_23 : decode cX9_list 23 = .ok (.invokevirtual 378, 3) := dq_182 (hz_wg wX9_list_0 (j := 23) (n := 182) rfl) (hz_wg wX9_list_0 (j := 24) (n := 1) rfl) (hz_wg wX9_list_0 (j := 25) (n := 122) rfl) rfl
theorem dX9_list_26 : decode cX9_list 26 = .ok (.ifCond .ne 15, 3) := dq_154 (hz_wg wX9_list_0 (j := 26) (n := 154) rfl) (hz_wg wX9_list_0 (j := 27) (n := 0) rfl) (hz_wg wX9_list_0 (j := 28) (n := 15) rfl) (by decide)
theorem dX9_list_29 : decode cX9_list 29 = .ok (.aload_n 0, 1) := dq_42 (hz_wg wX9_list_0 (j := 29) (n := 42) rfl)
theorem dX9_list_30 : decode cX9_list 30 = .ok (.getfield 86, 3) := dq_180 (hz_wg wX9_list_0 (j := 30) (n := 180) rfl) (hz_wg wX9_list_0 (j := 31) (n := 0) rfl) (hz_wg wX9_list_0 (j := 32) (n := 86) rfl) rfl
theorem dX9_list_33 : decode cX9_list 33 = .ok (.getfield 381, 3) := dq_180 (hz_wg wX9_list_0 (j := 33) (n := 180) rfl) (hz_wg wX9_list_0 (j := 34) (n := 1) rfl) (hz_wg wX9_list_0 (j := 35) (n := 125) rfl) rfl
theorem dX9_list_36 : decode cX9_list 36 = .ok (.bipush 8, 2) := dq_16 (hz_wg wX9_list_0 (j := 36) (n := 16) rfl) (hz_wg wX9_list_0 (j := 37) (n := 8) rfl) (by decide)
theorem dX9_list_38 : decode cX9_list 38 = .ok (.if_icmp .lt 5, 3) := dq_161 (hz_wg wX9_list_0 (j := 38) (n := 161) rfl) (hz_wg wX9_list_0 (j := 39) (n := 0) rfl) (hz_wg wX9_list_0 (j := 40) (n := 5) rfl) (by decide)
theorem dX9_list_41 : decode cX9_list 41 = .ok (.iconst (-1), 1) := dq_2 (hz_wg wX9_list_0 (j := 41) (n := 2) rfl)
theorem dX9_list_42 : decode cX9_list 42 = .ok (.ireturn, 1) := dq_172 (hz_wg wX9_list_0 (j := 42) (n := 172) rfl)
theorem dX9_list_43 : decode cX9_list 43 = .ok (.aload_n 0, 1) := dq_42 (hz_wg wX9_list_0 (j := 43) (n := 42) rfl)
theorem dX9_list_44 : decode cX9_list 44 = .ok (.getfield 86, 3) := dq_180 (hz_wg wX9_list_0 (j := 44) (n := 180) rfl) (hz_wg wX9_list_0 (j := 45) (n := 0) rfl) (hz_wg wX9_list_0 (j := 46) (n := 86) rfl) rfl
theorem dX9_list_47 : decode cX9_list 47 = .ok (.aload_n 2, 1) := dq_44 (hz_wg wX9_list_0 (j := 47) (n := 44) rfl)
theorem dX9_list_48 : decode cX9_list 48 = .ok (.invokevirtual 384, 3) := dq_182 (hz_wg wX9_list_0 (j := 48) (n := 182) rfl) (hz_wg wX9_list_0 (j := 49) (n := 1) rfl) (hz_wg wX9_list_0 (j := 50) (n := 128) rfl) rfl
theorem dX9_list_51 : decode cX9_list 51 = .ok (.aload_n 0, 1) := dq_42 (hz_wg wX9_list_0 (j := 51) (n := 42) rfl)
theorem dX9_list_52 : decode cX9_list 52 = .ok (.getfield 86, 3) := dq_180 (hz_wg wX9_list_0 (j := 52) (n := 180) rfl) (hz_wg wX9_list_0 (j := 53) (n := 0) rfl) (hz_wg wX9_list_0 (j := 54) (n := 86) rfl) rfl
theorem dX9_list_55 : decode cX9_list 55 = .ok (.getfield 381, 3) := dq_180 (hz_wg wX9_list_0 (j := 55) (n := 180) rfl) (hz_wg wX9_list_0 (j := 56) (n := 1) rfl) (hz_wg wX9_list_0 (j := 57) (n := 125) rfl) rfl
theorem dX9_list_58 : decode cX9_list 58 = .ok (.ireturn, 1) := dq_172 (hz_wg wX9_list_0 (j := 58) (n := 172) rfl)
def wLX9_plan_0 : List Nat := [42, 27, 182, 0, 144, 78, 45, 198, 0, 13, 28, 4, 16, 99, 184, 0, 128, 154, 0, 5, 2, 172, 42, 180, 0, 72, 28, 45, 42, 42, 180, 0, 94, 182, 0, 115, 182, 1, 8, 182, 1, 67, 3, 54, 4, 21, 4, 42, 180, 0, 181, 162, 0, 82, 42, 180, 0, 48, 21, 4, 50, 58, 5, 25]
def wLX9_plan_1 : List Nat := [5, 180, 0, 212, 45, 166, 0, 58, 25, 5, 42, 180, 0, 58, 42, 180, 0, 94, 182, 1, 18, 153, 0, 42, 42, 180, 0, 72, 180, 1, 70, 7, 161, 0, 5, 2, 172, 42, 180, 0, 72, 25, 5, 25, 5, 42, 180, 0, 58, 42, 180, 0, 94, 42, 180, 0, 94, 182, 1, 46, 182, 1, 73, 132]
def wLX9_plan_2 : List Nat := [4, 1, 167, 255, 171, 42, 180, 0, 72, 182, 1, 77, 172]
theorem wX9_plan_0 : (cX9_plan.data.toList.map UInt8.toNat).drop 0 = wLX9_plan_0 ++ (wLX9_plan_1 ++ (wLX9_plan_2 ++ ([]))) := by decide +kernel
theorem wX9_plan_1 : (cX9_plan.data.toList.map UInt8.toNat).drop 64 = wLX9_plan_1 ++ (wLX9_plan_2 ++ ([])) := hz_wn wX9_plan_0 rfl
theorem wX9_plan_2 : (cX9_plan.data.toList.map UInt8.toNat).drop 128 = wLX9_plan_2 ++ ([]) := hz_wn wX9_plan_1 rfl
theorem dX9_plan_0 : decode cX9_plan 0 = .ok (.aload_n 0, 1) := dq_42 (hz_wg wX9_plan_0 (j := 0) (n := 42) rfl)
theorem dX9_plan_1 : decode cX9_plan 1 = .ok (.iload_n 1, 1) := dq_27 (hz_wg wX9_plan_0 (j := 1) (n := 27) rfl)
theorem dX9_plan_2 : decode cX9_plan 2 = .ok (.invokevirtual 144, 3) := dq_182 (hz_wg wX9_plan_0 (j := 2) (n := 182) rfl) (hz_wg wX9_plan_0 (j := 3) (n := 0) rfl) (hz_wg wX9_plan_0 (j := 4) (n := 144) rfl) rfl
theorem dX9_plan_5 : decode cX9_plan 5 = .ok (.astore_n 3, 1) := dq_78 (hz_wg wX9_plan_0 (j := 5) (n := 78) rfl)
theorem dX9_plan_6 : decode cX9_plan 6 = .ok (.aload_n 3, 1) := dq_45 (hz_wg wX9_plan_0 (j := 6) (n := 45) rfl)
theorem dX9_plan_7 : decode cX9_plan 7 = .ok (.ifnull 13, 3) := dq_198 (hz_wg wX9_plan_0 (j := 7) (n := 198) rfl) (hz_wg wX9_plan_0 (j := 8) (n := 0) rfl) (hz_wg wX9_plan_0 (j := 9) (n := 13) rfl) (by decide)
theorem dX9_plan_10 : decode cX9_plan 10 = .ok (.iload_n 2, 1) := dq_28 (hz_wg wX9_plan_0 (j := 10) (n := 28) rfl)
theorem dX9_plan_11 : decode cX9_plan 11 = .ok (.iconst 1, 1) := dq_4 (hz_wg wX9_plan_0 (j := 11) (n := 4) rfl)
theorem dX9_plan_12 : decode cX9_plan 12 = .ok (.bipush 99, 2) := dq_16 (hz_wg wX9_plan_0 (j := 12) (n := 16) rfl) (hz_wg wX9_plan_0 (j := 13) (n := 99) rfl) (by decide)
theorem dX9_plan_14 : decode cX9_plan 14 = .ok (.invokestatic 128, 3) := dq_184 (hz_wg wX9_plan_0 (j := 14) (n := 184) rfl) (hz_wg wX9_plan_0 (j := 15) (n := 0) rfl) (hz_wg wX9_plan_0 (j := 16) (n := 128) rfl) rfl
theorem dX9_plan_17 : decode cX9_plan 17 = .ok (.ifCond .ne 5, 3) := dq_154 (hz_wg wX9_plan_0 (j := 17) (n := 154) rfl) (hz_wg wX9_plan_0 (j := 18) (n := 0) rfl) (hz_wg wX9_plan_0 (j := 19) (n := 5) rfl) (by decide)
theorem dX9_plan_20 : decode cX9_plan 20 = .ok (.iconst (-1), 1) := dq_2 (hz_wg wX9_plan_0 (j := 20) (n := 2) rfl)
theorem dX9_plan_21 : decode cX9_plan 21 = .ok (.ireturn, 1) := dq_172 (hz_wg wX9_plan_0 (j := 21) (n := 172) rfl)
theorem dX9_plan_22 : decode cX9_plan 22 = .ok (.aload_n 0, 1) := dq_42 (hz_wg wX9_plan_0 (j := 22) (n := 42) rfl)
theorem dX9_plan_23 : decode cX9_plan 23 = .ok (.getfield 72, 3) := dq_180 (hz_wg wX9_plan_0 (j := 23) (n := 180) rfl) (hz_wg wX9_plan_0 (j := 24) (n := 0) rfl) (hz_wg wX9_plan_0 (j := 25) (n := 72) rfl) rfl
theorem dX9_plan_26 : decode cX9_plan 26 = .ok (.iload_n 2, 1) := dq_28 (hz_wg wX9_plan_0 (j := 26) (n := 28) rfl)
theorem dX9_plan_27 : decode cX9_plan 27 = .ok (.aload_n 3, 1) := dq_45 (hz_wg wX9_plan_0 (j := 27) (n := 45) rfl)
theorem dX9_plan_28 : decode cX9_plan 28 = .ok (.aload_n 0, 1) := dq_42 (hz_wg wX9_plan_0 (j := 28) (n := 42) rfl)
theorem dX9_plan_29 : decode cX9_plan 29 = .ok (.aload_n 0, 1) := dq_42 (hz_wg wX9_plan_0 (j := 29) (n := 42) rfl)
theorem dX9_plan_30 : decode cX9_plan 30 = .ok (.getfield 94, 3) := dq_180 (hz_wg wX9_plan_0 (j := 30) (n := 180) rfl) (hz_wg wX9_plan_0 (j := 31) (n := 0) rfl) (hz_wg wX9_plan_0 (j := 32) (n := 94) rfl) rfl
theorem dX9_plan_33 : decode cX9_plan 33 = .ok (.invokevirtual 115, 3) := dq_182 (hz_wg wX9_plan_0 (j := 33) (n := 182) rfl) (hz_wg wX9_plan_0 (j := 34) (n := 0) rfl) (hz_wg wX9_plan_0 (j := 35) (n := 115) rfl) rfl
theorem dX9_plan_36 : decode cX9_plan 36 = .ok (.invokevirtual 264, 3) := dq_182 (hz_wg wX9_plan_0 (j := 36) (n := 182) rfl) (hz_wg wX9_plan_0 (j := 37) (n := 1) rfl) (hz_wg wX9_plan_0 (j := 38) (n := 8) rfl) rfl
theorem dX9_plan_39 : decode cX9_plan 39 = .ok (.invokevirtual 323, 3) := dq_182 (hz_wg wX9_plan_0 (j := 39) (n := 182) rfl) (hz_wg wX9_plan_0 (j := 40) (n := 1) rfl) (hz_wg wX9_plan_0 (j := 41) (n := 67) rfl) rfl
theorem dX9_plan_42 : decode cX9_plan 42 = .ok (.iconst 0, 1) := dq_3 (hz_wg wX9_plan_0 (j := 42) (n := 3) rfl)
theorem dX9_plan_43 : decode cX9_plan 43 = .ok (.istore 4, 2) := dq_54 (hz_wg wX9_plan_0 (j := 43) (n := 54) rfl) (hz_wg wX9_plan_0 (j := 44) (n := 4) rfl)
theorem dX9_plan_45 : decode cX9_plan 45 = .ok (.iload 4, 2) := dq_21 (hz_wg wX9_plan_0 (j := 45) (n := 21) rfl) (hz_wg wX9_plan_0 (j := 46) (n := 4) rfl)
theorem dX9_plan_47 : decode cX9_plan 47 = .ok (.aload_n 0, 1) := dq_42 (hz_wg wX9_plan_0 (j := 47) (n := 42) rfl)
theorem dX9_plan_48 : decode cX9_plan 48 = .ok (.getfield 181, 3) := dq_180 (hz_wg wX9_plan_0 (j := 48) (n := 180) rfl) (hz_wg wX9_plan_0 (j := 49) (n := 0) rfl) (hz_wg wX9_plan_0 (j := 50) (n := 181) rfl) rfl
theorem dX9_plan_51 : decode cX9_plan 51 = .ok (.if_icmp .ge 82, 3) := dq_162 (hz_wg wX9_plan_0 (j := 51) (n := 162) rfl) (hz_wg wX9_plan_0 (j := 52) (n := 0) rfl) (hz_wg wX9_plan_0 (j := 53) (n := 82) rfl) (by decide)
theorem dX9_plan_54 : decode cX9_plan 54 = .ok (.aload_n 0, 1) := dq_42 (hz_wg wX9_plan_0 (j := 54) (n := 42) rfl)
theorem dX9_plan_55 : decode cX9_plan 55 = .ok (.getfield 48, 3) := dq_180 (hz_wg wX9_plan_0 (j := 55) (n := 180) rfl) (hz_wg wX9_plan_0 (j := 56) (n := 0) rfl) (hz_wg wX9_plan_0 (j := 57) (n := 48) rfl) rfl
theorem dX9_plan_58 : decode cX9_plan 58 = .ok (.iload 4, 2) := dq_21 (hz_wg wX9_plan_0 (j := 58) (n := 21) rfl) (hz_wg wX9_plan_0 (j := 59) (n := 4) rfl)
theorem dX9_plan_60 : decode cX9_plan 60 = .ok (.aaload, 1) := dq_50 (hz_wg wX9_plan_0 (j := 60) (n := 50) rfl)
theorem dX9_plan_61 : decode cX9_plan 61 = .ok (.astore 5, 2) := dq_58 (hz_wg wX9_plan_0 (j := 61) (n := 58) rfl) (hz_wg wX9_plan_0 (j := 62) (n := 5) rfl)
theorem dX9_plan_63 : decode cX9_plan 63 = .ok (.aload 5, 2) := dq_25 (hz_wg wX9_plan_0 (j := 63) (n := 25) rfl) (hz_wg wX9_plan_1 (j := 0) (n := 5) rfl)
theorem dX9_plan_65 : decode cX9_plan 65 = .ok (.getfield 212, 3) := dq_180 (hz_wg wX9_plan_1 (j := 1) (n := 180) rfl) (hz_wg wX9_plan_1 (j := 2) (n := 0) rfl) (hz_wg wX9_plan_1 (j := 3) (n := 212) rfl) rfl
theorem dX9_plan_68 : decode cX9_plan 68 = .ok (.aload_n 3, 1) := dq_45 (hz_wg wX9_plan_1 (j := 4) (n := 45) rfl)
theorem dX9_plan_69 : decode cX9_plan 69 = .ok (.if_acmp .ne 58, 3) := dq_166 (hz_wg wX9_plan_1 (j := 5) (n := 166) rfl) (hz_wg wX9_plan_1 (j := 6) (n := 0) rfl) (hz_wg wX9_plan_1 (j := 7) (n := 58) rfl) (by decide)
theorem dX9_plan_72 : decode cX9_plan 72 = .ok (.aload 5, 2) := dq_25 (hz_wg wX9_plan_1 (j := 8) (n := 25) rfl) (hz_wg wX9_plan_1 (j := 9) (n := 5) rfl)
theorem dX9_plan_74 : decode cX9_plan 74 = .ok (.aload_n 0, 1) := dq_42 (hz_wg wX9_plan_1 (j := 10) (n := 42) rfl)
theorem dX9_plan_75 : decode cX9_plan 75 = .ok (.getfield 58, 3) := dq_180 (hz_wg wX9_plan_1 (j := 11) (n := 180) rfl) (hz_wg wX9_plan_1 (j := 12) (n := 0) rfl) (hz_wg wX9_plan_1 (j := 13) (n := 58) rfl) rfl
theorem dX9_plan_78 : decode cX9_plan 78 = .ok (.aload_n 0, 1) := dq_42 (hz_wg wX9_plan_1 (j := 14) (n := 42) rfl)
theorem dX9_plan_79 : decode cX9_plan 79 = .ok (.getfield 94, 3) := dq_180 (hz_wg wX9_plan_1 (j := 15) (n := 180) rfl) (hz_wg wX9_plan_1 (j := 16) (n := 0) rfl) (hz_wg wX9_plan_1 (j := 17) (n := 94) rfl) rfl
theorem dX9_plan_82 : decode cX9_plan 82 = .ok (.invokevirtual 274, 3) := dq_182 (hz_wg wX9_plan_1 (j := 18) (n := 182) rfl) (hz_wg wX9_plan_1 (j := 19) (n := 1) rfl) (hz_wg wX9_plan_1 (j := 20) (n := 18) rfl) rfl
theorem dX9_plan_85 : decode cX9_plan 85 = .ok (.ifCond .eq 42, 3) := dq_153 (hz_wg wX9_plan_1 (j := 21) (n := 153) rfl) (hz_wg wX9_plan_1 (j := 22) (n := 0) rfl) (hz_wg wX9_plan_1 (j := 23) (n := 42) rfl) (by decide)
theorem dX9_plan_88 : decode cX9_plan 88 = .ok (.aload_n 0, 1) := dq_42 (hz_wg wX9_plan_1 (j := 24) (n := 42) rfl)
theorem dX9_plan_89 : decode cX9_plan 89 = .ok (.getfield 72, 3) := dq_180 (hz_wg wX9_plan_1 (j := 25) (n := 180) rfl) (hz_wg wX9_plan_1 (j := 26) (n := 0) rfl) (hz_wg wX9_plan_1 (j := 27) (n := 72) rfl) rfl
theorem dX9_plan_92 : decode cX9_plan 92 = .ok (.getfield 326, 3) := dq_180 (hz_wg wX9_plan_1 (j := 28) (n := 180) rfl) (hz_wg wX9_plan_1 (j := 29) (n := 1) rfl) (hz_wg wX9_plan_1 (j := 30) (n := 70) rfl) rfl
theorem dX9_plan_95 : decode cX9_plan 95 = .ok (.iconst 4, 1) := dq_7 (hz_wg wX9_plan_1 (j := 31) (n := 7) rfl)
theorem dX9_plan_96 : decode cX9_plan 96 = .ok (.if_icmp .lt 5, 3) := dq_161 (hz_wg wX9_plan_1 (j := 32) (n := 161) rfl) (hz_wg wX9_plan_1 (j := 33) (n := 0) rfl) (hz_wg wX9_plan_1 (j := 34) (n := 5) rfl) (by decide)
theorem dX9_plan_99 : decode cX9_plan 99 = .ok (.iconst (-1), 1) := dq_2 (hz_wg wX9_plan_1 (j := 35) (n := 2) rfl)
theorem dX9_plan_100 : decode cX9_plan 100 = .ok (.ireturn, 1) := dq_172 (hz_wg wX9_plan_1 (j := 36) (n := 172) rfl)
theorem dX9_plan_101 : decode cX9_plan 101 = .ok (.aload_n 0, 1) := dq_42 (hz_wg wX9_plan_1 (j := 37) (n := 42) rfl)
theorem dX9_plan_102 : decode cX9_plan 102 = .ok (.getfield 72, 3) := dq_180 (hz_wg wX9_plan_1 (j := 38) (n := 180) rfl) (hz_wg wX9_plan_1 (j := 39) (n := 0) rfl) (hz_wg wX9_plan_1 (j := 40) (n := 72) rfl) rfl
theorem dX9_plan_105 : decode cX9_plan 105 = .ok (.aload 5, 2) := dq_25 (hz_wg wX9_plan_1 (j := 41) (n := 25) rfl) (hz_wg wX9_plan_1 (j := 42) (n := 5) rfl)
theorem dX9_plan_107 : decode cX9_plan 107 = .ok (.aload 5, 2) := dq_25 (hz_wg wX9_plan_1 (j := 43) (n := 25) rfl) (hz_wg wX9_plan_1 (j := 44) (n := 5) rfl)
theorem dX9_plan_109 : decode cX9_plan 109 = .ok (.aload_n 0, 1) := dq_42 (hz_wg wX9_plan_1 (j := 45) (n := 42) rfl)
theorem dX9_plan_110 : decode cX9_plan 110 = .ok (.getfield 58, 3) := dq_180 (hz_wg wX9_plan_1 (j := 46) (n := 180) rfl) (hz_wg wX9_plan_1 (j := 47) (n := 0) rfl) (hz_wg wX9_plan_1 (j := 48) (n := 58) rfl) rfl
theorem dX9_plan_113 : decode cX9_plan 113 = .ok (.aload_n 0, 1) := dq_42 (hz_wg wX9_plan_1 (j := 49) (n := 42) rfl)
theorem dX9_plan_114 : decode cX9_plan 114 = .ok (.getfield 94, 3) := dq_180 (hz_wg wX9_plan_1 (j := 50) (n := 180) rfl) (hz_wg wX9_plan_1 (j := 51) (n := 0) rfl) (hz_wg wX9_plan_1 (j := 52) (n := 94) rfl) rfl
theorem dX9_plan_117 : decode cX9_plan 117 = .ok (.aload_n 0, 1) := dq_42 (hz_wg wX9_plan_1 (j := 53) (n := 42) rfl)
theorem dX9_plan_118 : decode cX9_plan 118 = .ok (.getfield 94, 3) := dq_180 (hz_wg wX9_plan_1 (j := 54) (n := 180) rfl) (hz_wg wX9_plan_1 (j := 55) (n := 0) rfl) (hz_wg wX9_plan_1 (j := 56) (n := 94) rfl) rfl
theorem dX9_plan_121 : decode cX9_plan 121 = .ok (.invokevirtual 302, 3) := dq_182 (hz_wg wX9_plan_1 (j := 57) (n := 182) rfl) (hz_wg wX9_plan_1 (j := 58) (n := 1) rfl) (hz_wg wX9_plan_1 (j := 59) (n := 46) rfl) rfl
theorem dX9_plan_124 : decode cX9_plan 124 = .ok (.invokevirtual 329, 3) := dq_182 (hz_wg wX9_plan_1 (j := 60) (n := 182) rfl) (hz_wg wX9_plan_1 (j := 61) (n := 1) rfl) (hz_wg wX9_plan_1 (j := 62) (n := 73) rfl) rfl
theorem dX9_plan_127 : decode cX9_plan 127 = .ok (.iinc 4 1, 3) := dq_132 (hz_wg wX9_plan_1 (j := 63) (n := 132) rfl) (hz_wg wX9_plan_2 (j := 0) (n := 4) rfl) (hz_wg wX9_plan_2 (j := 1) (n := 1) rfl) (by decide)
theorem dX9_plan_130 : decode cX9_plan 130 = .ok (.goto (-85), 3) := dq_167 (hz_wg wX9_plan_2 (j := 2) (n := 167) rfl) (hz_wg wX9_plan_2 (j := 3) (n := 255) rfl) (hz_wg wX9_plan_2 (j := 4) (n := 171) rfl) (by decide)
theorem dX9_plan_133 : decode cX9_plan 133 = .ok (.aload_n 0, 1) := dq_42 (hz_wg wX9_plan_2 (j := 5) (n := 42) rfl)
theorem dX9_plan_134 : decode cX9_plan 134 = .ok (.getfield 72, 3) := dq_180 (hz_wg wX9_plan_2 (j := 6) (n := 180) rfl) (hz_wg wX9_plan_2 (j := 7) (n := 0) rfl) (hz_wg wX9_plan_2 (j := 8) (n := 72) rfl) rfl
theorem dX9_plan_137 : decode cX9_plan 137 = .ok (.invokevirtual 333, 3) := dq_182 (hz_wg wX9_plan_2 (j := 9) (n := 182) rfl) (hz_wg wX9_plan_2 (j := 10) (n := 1) rfl) (hz_wg wX9_plan_2 (j := 11) (n := 77) rfl) rfl
theorem dX9_plan_140 : decode cX9_plan 140 = .ok (.ireturn, 1) := dq_172 (hz_wg wX9_plan_2 (j := 12) (n := 172) rfl)
set_option maxHeartbeats 4000000 in
set_option maxRecDepth 100000 in
theorem t_X9_plan (l : Launch) (dC : Nat → ClassId) (dI : Nat → Nat → Nat) (dA : Nat → ClassId) (L : List Nat) (h : hx_h) (sz : Nat) (b0 : hx_z) (x : Nat) (i1 : Int32) (i2 : Int32) (hT : hx_T T_tb L h) (gx : hx_g L h x 9) (qp : Nat) (gqp : hx_g L h qp 44) (f_x_7 : h.2.2 x 7 = some qp) (qc : Nat) (gqc : hx_g L h qc 45) (f_x_10 : h.2.2 x 10 = some qc) (qa : Nat) (gqa : hx_g L h qa 43) (f_x_5 : h.2.2 x 5 = some qa) (pf_x_8 : ∀ j : Nat, (j : Int) < (h.2.1 x 8).toInt → h.2.2 qp j ≠ none) (pf_x_11 : ∀ j : Nat, (j : Int) < (h.2.1 x 11).toInt → h.2.2 qc j ≠ none) (pf_x_6 : ∀ j : Nat, (j : Int) < (h.2.1 x 6).toInt → h.2.2 qa j ≠ none) : Met l yX9_plan (Cond.code yX9_plan cX9_plan 6 (some .int) :: hx_all) ({ frames := 8, cells := 0, slots := 0, locals := 223 }) (va_Pc [.ref x, .int i1, .int i2] (hx_BX T_tb (P_ty dA) (dC, dI) vwCl L h sz b0)) (va_Qi (fun (r : Int32) (u : List Nat × hx_h) => (True) ∧ hx_T T_tb u.1 u.2 ∧ hx_S T_tb [(5, 0), (5, 1), (5, 9), (5, 10), (5, 11), (5, 12), (27, 0), (28, 0), (29, 0), (30, 0), (31, 0), (32, 0), (33, 0)] L h u.1 u.2) (hx_E T_tb (P_ty dA) (dC, dI) vwCl (hx_A L sz)) (hx_A L sz)) 0 0 (hx_A L sz) := by
  refine hx_metX (lv := [(0, .ref x), (1, .int i1), (2, .int i2)]) (by decide +kernel) rfl (Nat.le_of_ble_eq_true rfl) rfl ?_
  intro p e s m below meth c hx hb hml hr hlk hts0 hown hin hsz hW hZ ls hl
  have hts : ∀ w ∈ hx_all, w.before _ s = true := fun w hw => hts0 w (List.mem_cons_of_mem _ hw)
  have hown : s.vm.findClass "SmallCourt" = some m.cls := hown
  have hM : hx_S T_tb [(5, 0), (5, 1), (5, 9), (5, 10), (5, 11), (5, 12), (27, 0), (28, 0), (29, 0), (30, 0), (31, 0), (32, 0), (33, 0)] L h L h := hx_S.rf
  refine lv_aload_n hx hb dX9_plan_0 rfl (lv_at hl 0 rfl) ?_
  refine lv_iload_n hx hb dX9_plan_1 rfl (lv_at hl 1 rfl) ?_
  refine hx_goq (hx_runV (As := [.int i1]) (rest := []) ⟨hx, hb, hml, hown, hts⟩ hW (gx.S hM) tt_9 (T := TX9) (N := 20) rfl (t_X9_personAt l dC dI dA L h s.heap.size x i1 hT (gx.S hM) qp (gqp.S hM) ((hM.o gx trivial rfl).2.trans f_x_7) pf_x_8) (cwV 1 hts (hx_gV kw_659 kw_656 kw_658 kw_20 kw_94) rfl rfl rfl (by decide +kernel) ⟨Nat.le_of_ble_eq_true rfl, Nat.le_of_ble_eq_true rfl⟩) rfl hl.1 rfl (Nat.le_of_ble_eq_true rfl) dX9_plan_2 ⟨Nat.le_of_ble_eq_true rfl, Nat.le_of_ble_eq_true rfl⟩) hW (fun r_3 L_1 h_2 H locs p_4 hW => ?_)
  obtain ⟨hr_5, hT, hs⟩ := p_4
  replace hT : hx_T T_tb L_1 h_2 := hT
  replace hs : hx_S T_tb [] L h L_1 h_2 := hs
  replace pf_x_8 : ∀ j : Nat, (j : Int) < (h_2.2.1 x 8).toInt → h_2.2.2 qp j ≠ none := by
    intro j hj; rw [(hs.o (gx.S hM) trivial rfl).1] at hj; rw [(hs.a (gqp.S hM) rfl j).2]; exact pf_x_8 j hj
  replace pf_x_11 : ∀ j : Nat, (j : Int) < (h_2.2.1 x 11).toInt → h_2.2.2 qc j ≠ none := by
    intro j hj; rw [(hs.o (gx.S hM) trivial rfl).1] at hj; rw [(hs.a (gqc.S hM) rfl j).2]; exact pf_x_11 j hj
  replace pf_x_6 : ∀ j : Nat, (j : Int) < (h_2.2.1 x 6).toInt → h_2.2.2 qa j ≠ none := by
    intro j hj; rw [(hs.o (gx.S hM) trivial rfl).1] at hj; rw [(hs.a (gqa.S hM) rfl j).2]; exact pf_x_6 j hj
  replace hM := hM.tr (hs.mono (by decide))
  have hr_5 : ∀ q, r_3 = some q → hx_g L_1 h_2 q 4 := hr_5
  rcases r_3 with _ | q_6
  · skip
    refine lv_astore_nN (lv' := [(3, .null), (0, .ref x), (1, .int i1), (2, .int i2)]) hx hb dX9_plan_5 rfl hl (by decide) rfl (fun ls hl => ?_)
    refine lv_aload_nN hx hb dX9_plan_6 rfl (lv_at hl 0 rfl) ?_
    refine lv_ifnullN (tgt := 20) hx hb dX9_plan_7 (by decide) ?_
    refine lv_iconst (v := -1) hx hb dX9_plan_20 (by decide) ?_
    exact hx_reti hx hb hr hlk hW ⟨trivial, hT, hM⟩ dX9_plan_21
  · have gq_6 := hr_5 _ rfl
    refine lv_astore_n (lv' := [(3, .ref q_6), (0, .ref x), (1, .int i1), (2, .int i2)]) hx hb dX9_plan_5 rfl hl (by decide) rfl (fun ls hl => ?_)
    refine lv_aload_n hx hb dX9_plan_6 rfl (lv_at hl 0 rfl) ?_
    refine lv_ifnull hx hb dX9_plan_7 ?_
    refine lv_iload_n hx hb dX9_plan_10 rfl (lv_at hl 3 rfl) ?_
    refine lv_iconst (v := 1) hx hb dX9_plan_11 (by decide) ?_
    refine lv_bipush (v := 99) hx hb dX9_plan_12 (by decide) ?_
    have zc_99 : (99 : Int32).toInt = 99 := by decide
    have zc_1 : (1 : Int32).toInt = 1 := by decide
    refine hx_goi (hx_runS (As := [.int i2, .int (1 : Int32), .int (99 : Int32)]) (rest := []) ⟨hx, hb, hml, hown, hts⟩ hW (t_X9_isWithin_2 l dC dI dA L_1 h_2 H.size i2 (1 : Int32) (99 : Int32) hT) (va_cwS 3 hts (hx_gS kw_434 kw_432 kw_433 kw_94) rfl rfl rfl (by decide +kernel) ⟨Nat.le_of_ble_eq_true rfl, Nat.le_of_ble_eq_true rfl⟩) rfl hl.1 rfl (Nat.le_of_ble_eq_true rfl) dX9_plan_14 ⟨Nat.le_of_ble_eq_true rfl, Nat.le_of_ble_eq_true rfl⟩) hW (fun r_9 L_7 h_8 H locs p_10 hW => ?_)
    obtain ⟨hr_11, hT, hs⟩ := p_10
    replace hT : hx_T T_tb L_7 h_8 := hT
    replace hs : hx_S T_tb [] L_1 h_2 L_7 h_8 := hs
    replace pf_x_8 : ∀ j : Nat, (j : Int) < (h_8.2.1 x 8).toInt → h_8.2.2 qp j ≠ none := by
      intro j hj; rw [(hs.o (gx.S hM) trivial rfl).1] at hj; rw [(hs.a (gqp.S hM) rfl j).2]; exact pf_x_8 j hj
    replace pf_x_11 : ∀ j : Nat, (j : Int) < (h_8.2.1 x 11).toInt → h_8.2.2 qc j ≠ none := by
      intro j hj; rw [(hs.o (gx.S hM) trivial rfl).1] at hj; rw [(hs.a (gqc.S hM) rfl j).2]; exact pf_x_11 j hj
    replace pf_x_6 : ∀ j : Nat, (j : Int) < (h_8.2.1 x 6).toInt → h_8.2.2 qa j ≠ none := by
      intro j hj; rw [(hs.o (gx.S hM) trivial rfl).1] at hj; rw [(hs.a (gqa.S hM) rfl j).2]; exact pf_x_6 j hj
    replace hM := hM.tr (hs.mono (by decide))
    replace gq_6 := gq_6.S hs
    refine hb_if_ne (zx := r_9.toInt) (tgt := 22) hx hb rfl dX9_plan_17 (by decide) (fun c_12 => ?_) (fun c_12 => ?_)
    · skip
      replace hr_11 := hr_11.resolve_left (fun z9 => c_12 z9.1)
      replace c_12 := hr_11.1
      replace hr_11 := hr_11.2
      refine lv_aload_n hx hb dX9_plan_22 rfl (lv_at hl 1 rfl) ?_
      refine hx_getn hx hb hts hC_9 hown hW hT (gx.S hM) tt_9 17 (by decide) rfl kw_381 ⟨rfl, rfl, rfl⟩ dX9_plan_23 (fun q_13 fq_13 gq_13 => ?_)
      refine lv_iload_n hx hb dX9_plan_26 rfl (lv_at hl 3 rfl) ?_
      refine lv_aload_n hx hb dX9_plan_27 rfl (lv_at hl 0 rfl) ?_
      refine lv_aload_n hx hb dX9_plan_28 rfl (lv_at hl 1 rfl) ?_
      refine lv_aload_n hx hb dX9_plan_29 rfl (lv_at hl 1 rfl) ?_
      refine hx_geti hx hb hts hC_9 hown hW hT (gx.S hM) tt_9 2 (by decide) rfl kw_366 ⟨rfl, rfl, rfl⟩ dX9_plan_30 (fun x_14 ex_14 lx_14 ux_14 => ?_)
      have fx_14 := ex_14.symm
      refine hx_goq (hx_runV (As := [.int x_14]) (rest := [.ref q_6, .int i2, .ref q_13]) ⟨hx, hb, hml, hown, hts⟩ hW (gx.S hM) tt_9 (T := TX9) (N := 20) rfl (t_X9_inForce l dC dI dA L_7 h_8 H.size x x_14 hT (gx.S hM) qa (gqa.S hM) ((hM.o gx trivial rfl).2.trans f_x_5) pf_x_6) (cwV 1 hts (hx_gV kw_597 kw_594 kw_596 kw_19 kw_94) rfl rfl rfl (by decide +kernel) ⟨Nat.le_of_ble_eq_true rfl, Nat.le_of_ble_eq_true rfl⟩) rfl hl.1 rfl (Nat.le_of_ble_eq_true rfl) dX9_plan_33 ⟨Nat.le_of_ble_eq_true rfl, Nat.le_of_ble_eq_true rfl⟩) hW (fun r_17 L_15 h_16 H locs p_18 hW => ?_)
      obtain ⟨hr_19, hT, hs⟩ := p_18
      replace hT : hx_T T_tb L_15 h_16 := hT
      replace hs : hx_S T_tb [] L_7 h_8 L_15 h_16 := hs
      replace fq_13 := (hs.o (gx.S hM) trivial rfl).2.trans fq_13
      replace fx_14 := (hs.o (gx.S hM) trivial rfl).1.trans fx_14
      replace pf_x_8 : ∀ j : Nat, (j : Int) < (h_16.2.1 x 8).toInt → h_16.2.2 qp j ≠ none := by
        intro j hj; rw [(hs.o (gx.S hM) trivial rfl).1] at hj; rw [(hs.a (gqp.S hM) rfl j).2]; exact pf_x_8 j hj
      replace pf_x_11 : ∀ j : Nat, (j : Int) < (h_16.2.1 x 11).toInt → h_16.2.2 qc j ≠ none := by
        intro j hj; rw [(hs.o (gx.S hM) trivial rfl).1] at hj; rw [(hs.a (gqc.S hM) rfl j).2]; exact pf_x_11 j hj
      replace pf_x_6 : ∀ j : Nat, (j : Int) < (h_16.2.1 x 6).toInt → h_16.2.2 qa j ≠ none := by
        intro j hj; rw [(hs.o (gx.S hM) trivial rfl).1] at hj; rw [(hs.a (gqa.S hM) rfl j).2]; exact pf_x_6 j hj
      replace hM := hM.tr (hs.mono (by decide))
      replace gq_6 := gq_6.S hs
      replace gq_13 := gq_13.S hs
      obtain ⟨q_20, rfl, gq_20⟩ := hr_19
      have gq_20 : hx_g L_15 h_16 q_20 0 := gq_20
      refine hx_goi (hx_runV (As := [.ref q_20]) (rest := [.int i2, .ref q_13]) ⟨hx, hb, hml, hown, hts⟩ hW gq_6 tt_4 (T := TX4) (N := 10) rfl (t_X4_meansBy l dC dI dA L_15 h_16 H.size q_6 q_20 hT gq_6 gq_20) (cwV 1 hts (hx_gV kw_887 kw_884 kw_885 kw_886 kw_108) rfl rfl rfl (by decide +kernel) ⟨Nat.le_of_ble_eq_true rfl, Nat.le_of_ble_eq_true rfl⟩) rfl hl.1 rfl (Nat.le_of_ble_eq_true rfl) dX9_plan_36 ⟨Nat.le_of_ble_eq_true rfl, Nat.le_of_ble_eq_true rfl⟩) hW (fun r_23 L_21 h_22 H locs p_24 hW => ?_)
      obtain ⟨hr_25, hT, hs⟩ := p_24
      replace hT : hx_T T_tb L_21 h_22 := hT
      replace hs : hx_S T_tb [] L_15 h_16 L_21 h_22 := hs
      replace fq_13 := (hs.o (gx.S hM) trivial rfl).2.trans fq_13
      replace fx_14 := (hs.o (gx.S hM) trivial rfl).1.trans fx_14
      replace pf_x_8 : ∀ j : Nat, (j : Int) < (h_22.2.1 x 8).toInt → h_22.2.2 qp j ≠ none := by
        intro j hj; rw [(hs.o (gx.S hM) trivial rfl).1] at hj; rw [(hs.a (gqp.S hM) rfl j).2]; exact pf_x_8 j hj
      replace pf_x_11 : ∀ j : Nat, (j : Int) < (h_22.2.1 x 11).toInt → h_22.2.2 qc j ≠ none := by
        intro j hj; rw [(hs.o (gx.S hM) trivial rfl).1] at hj; rw [(hs.a (gqc.S hM) rfl j).2]; exact pf_x_11 j hj
      replace pf_x_6 : ∀ j : Nat, (j : Int) < (h_22.2.1 x 6).toInt → h_22.2.2 qa j ≠ none := by
        intro j hj; rw [(hs.o (gx.S hM) trivial rfl).1] at hj; rw [(hs.a (gqa.S hM) rfl j).2]; exact pf_x_6 j hj
      replace hM := hM.tr (hs.mono (by decide))
      replace gq_6 := gq_6.S hs
      replace gq_13 := gq_13.S hs
      replace gq_20 := gq_20.S hs
      refine hx_gov (hx_runV (As := [.int i2, .int r_23]) (rest := []) ⟨hx, hb, hml, hown, hts⟩ hW gq_13 tt_5 (T := TX5) (N := 13) rfl (t_X5_clear l dC dI dA L_21 h_22 H.size q_13 i2 r_23 hT gq_13) (cwV 2 hts (hx_gV kw_951 kw_948 kw_949 kw_950 kw_100) rfl rfl rfl (by decide +kernel) ⟨Nat.le_of_ble_eq_true rfl, Nat.le_of_ble_eq_true rfl⟩) rfl hl.1 rfl (Nat.le_of_ble_eq_true rfl) dX9_plan_39 ⟨Nat.le_of_ble_eq_true rfl, Nat.le_of_ble_eq_true rfl⟩) hW (fun L_26 h_27 H locs p_29 hW => ?_)
      obtain ⟨hT, hs⟩ := p_29
      replace hT : hx_T T_tb L_26 h_27 := hT
      replace hs : hx_S T_tb [(5, 0), (5, 9), (5, 10)] L_21 h_22 L_26 h_27 := hs
      replace fq_13 := (hs.o (gx.S hM) trivial rfl).2.trans fq_13
      replace fx_14 := (hs.o (gx.S hM) trivial rfl).1.trans fx_14
      replace pf_x_8 : ∀ j : Nat, (j : Int) < (h_27.2.1 x 8).toInt → h_27.2.2 qp j ≠ none := by
        intro j hj; rw [(hs.o (gx.S hM) trivial rfl).1] at hj; rw [(hs.a (gqp.S hM) rfl j).2]; exact pf_x_8 j hj
      replace pf_x_11 : ∀ j : Nat, (j : Int) < (h_27.2.1 x 11).toInt → h_27.2.2 qc j ≠ none := by
        intro j hj; rw [(hs.o (gx.S hM) trivial rfl).1] at hj; rw [(hs.a (gqc.S hM) rfl j).2]; exact pf_x_11 j hj
      replace pf_x_6 : ∀ j : Nat, (j : Int) < (h_27.2.1 x 6).toInt → h_27.2.2 qa j ≠ none := by
        intro j hj; rw [(hs.o (gx.S hM) trivial rfl).1] at hj; rw [(hs.a (gqa.S hM) rfl j).2]; exact pf_x_6 j hj
      replace hM := hM.tr (hs.mono (by decide))
      replace gq_6 := gq_6.S hs
      replace gq_13 := gq_13.S hs
      replace gq_20 := gq_20.S hs
      refine lv_iconst (v := 0) hx hb dX9_plan_42 (by decide) ?_
      refine lv_istore (lv' := [(4, .int (0 : Int32)), (3, .ref q_6), (0, .ref x), (1, .int i1), (2, .int i2)]) hx hb dX9_plan_43 hl (by decide) rfl (fun ls hl => ?_)
      have loop45 : ∀ (n45 : Nat) (iv45_4 : Int32) (H : Heap) (locs : List Loc) (hL1 : List Nat) (hl1 : hx_h), 0 ≤ iv45_4.toInt → iv45_4.toInt ≤ 100 → ∀ (ls : Array Slot), 100 - iv45_4.toInt < (n45 : Int) → hx_W T_tb (P_ty dA) (dC, dI) vwCl (hx_A L sz) s.heap hL1 hl1 s H locs → hx_T T_tb hL1 hl1 → hx_S T_tb [(5, 0), (5, 1), (5, 9), (5, 10), (5, 11), (5, 12), (27, 0), (28, 0), (29, 0), (30, 0), (31, 0), (32, 0), (33, 0)] L h hL1 hl1 → hl1.2.2 x 17 = some q_13 → hl1.2.1 x 2 = x_14 → hx_g hL1 hl1 q_6 4 → hx_g hL1 hl1 q_13 5 → hx_g hL1 hl1 q_20 0 → (∀ j : Nat, (j : Int) < (hl1.2.1 x 8).toInt → hl1.2.2 qp j ≠ none) → (∀ j : Nat, (j : Int) < (hl1.2.1 x 11).toInt → hl1.2.2 qc j ≠ none) → (∀ j : Nat, (j : Int) < (hl1.2.1 x 6).toInt → hl1.2.2 qa j ≠ none) → lv_has ls 6 [(4, .int iv45_4), (3, .ref q_6), (0, .ref x), (1, .int i1), (2, .int i2)] → W p l e ({ frames := 8, cells := 0, slots := 0, locals := 223 }) s m ([.ref x, .int i1, .int i2] : List Value).toArray below meth c H locs 0 0 (MQ below (va_Qi (fun (r : Int32) (u : List Nat × hx_h) => (True) ∧ hx_T T_tb u.1 u.2 ∧ hx_S T_tb [(5, 0), (5, 1), (5, 9), (5, 10), (5, 11), (5, 12), (27, 0), (28, 0), (29, 0), (30, 0), (31, 0), (32, 0), (33, 0)] L h u.1 u.2) (hx_E T_tb (P_ty dA) (dC, dI) vwCl (hx_A L sz)) (hx_A L sz)) ([.ref x, .int i1, .int i2] : List Value).toArray s 0 0 (hx_A L sz)) (F0 m 45 ls []) := by
        intro n45
        induction n45 with
        | zero => intro iv45_4 H locs hL1 hl1 bliv45_4 buiv45_4  ls hn45; exfalso; omega
        | succ n45 ih45 =>
          intro iv45_4 H locs hL1 hl1 bliv45_4 buiv45_4  ls hn45 hW hT hM fq_13 fx_14 gq_6 gq_13 gq_20 pf_x_8 pf_x_11 pf_x_6 hl
          refine lv_iload hx hb dX9_plan_45 (lv_at hl 0 rfl) ?_
          refine lv_aload_n hx hb dX9_plan_47 rfl (lv_at hl 2 rfl) ?_
          refine hx_geti hx hb hts hC_9 hown hW hT (gx.S hM) tt_9 11 (by decide) rfl kw_375 ⟨rfl, rfl, rfl⟩ dX9_plan_48 (fun x_31 ex_31 lx_31 ux_31 => ?_)
          have fx_31 := ex_31.symm
          refine hb_icmp_ge (zx := iv45_4.toInt) (zy := x_31.toInt) (tgt := 133) hx hb rfl rfl dX9_plan_51 (by decide) (fun c_32 => ?_) (fun c_32 => ?_)
          · skip
            refine lv_aload_n hx hb dX9_plan_133 rfl (lv_at hl 2 rfl) ?_
            refine hk_getr hx hb hts hC_9 hown hW (gx.S hM) tt_9 17 (by decide) rfl kw_381 ⟨rfl, rfl, rfl⟩ fq_13 dX9_plan_134 ?_
            refine hx_goi (hx_runVX (As := []) (rest := []) ⟨hx, hb, hml, hown, hts⟩ hW gq_13 tt_5 (T := TX5) (N := 13) rfl (t_X5_settle l dC dI dA hL1 hl1 H.size b0 q_13 hT gq_13) hZ (cwV 0 hts (hx_gV kw_960 kw_957 kw_958 kw_959 kw_100) rfl rfl rfl (by decide +kernel) ⟨Nat.le_of_ble_eq_true rfl, Nat.le_of_ble_eq_true rfl⟩) rfl hl.1 rfl (Nat.le_of_ble_eq_true rfl) dX9_plan_137 ⟨Nat.le_of_ble_eq_true rfl, Nat.le_of_ble_eq_true rfl⟩) hW (fun r_35 L_33 h_34 H locs p_36 hW => ?_)
            obtain ⟨hr_37, hT, hs⟩ := p_36
            replace hT : hx_T T_tb L_33 h_34 := hT
            replace hs : hx_S T_tb [(5, 1), (5, 11), (5, 12), (27, 0), (28, 0), (29, 0), (33, 0)] hL1 hl1 L_33 h_34 := hs
            replace fq_13 := (hs.o (gx.S hM) trivial rfl).2.trans fq_13
            replace fx_14 := (hs.o (gx.S hM) trivial rfl).1.trans fx_14
            replace fx_31 := (hs.o (gx.S hM) trivial rfl).1.trans fx_31
            replace pf_x_8 : ∀ j : Nat, (j : Int) < (h_34.2.1 x 8).toInt → h_34.2.2 qp j ≠ none := by
              intro j hj; rw [(hs.o (gx.S hM) trivial rfl).1] at hj; rw [(hs.a (gqp.S hM) rfl j).2]; exact pf_x_8 j hj
            replace pf_x_11 : ∀ j : Nat, (j : Int) < (h_34.2.1 x 11).toInt → h_34.2.2 qc j ≠ none := by
              intro j hj; rw [(hs.o (gx.S hM) trivial rfl).1] at hj; rw [(hs.a (gqc.S hM) rfl j).2]; exact pf_x_11 j hj
            replace pf_x_6 : ∀ j : Nat, (j : Int) < (h_34.2.1 x 6).toInt → h_34.2.2 qa j ≠ none := by
              intro j hj; rw [(hs.o (gx.S hM) trivial rfl).1] at hj; rw [(hs.a (gqa.S hM) rfl j).2]; exact pf_x_6 j hj
            replace hM := hM.tr (hs.mono (by decide))
            replace gq_6 := gq_6.S hs
            replace gq_13 := gq_13.S hs
            replace gq_20 := gq_20.S hs
            exact hx_reti hx hb hr hlk hW ⟨trivial, hT, hM⟩ dX9_plan_140
          · skip
            refine lv_aload_n hx hb dX9_plan_54 rfl (lv_at hl 2 rfl) ?_
            refine hk_getr hx hb hts hC_9 hown hW (gx.S hM) tt_9 10 (by decide) rfl kw_374 ⟨rfl, rfl, rfl⟩ ((hM.o gx trivial rfl).2.trans f_x_10) dX9_plan_55 ?_
            refine lv_iload hx hb dX9_plan_58 (lv_at hl 0 rfl) ?_
            refine hx_aaldN hx hb hW hT (gqc.S hM) tt_45 (t1 := 2) rfl ⟨by omega, by omega⟩ (pf_x_11 _ (by rw [fx_31]; exact hx_tnI (by omega) (by omega))) dX9_plan_60 (fun q_38 fq_38 gq_38 => ?_)
            refine lv_astore (lv' := [(5, .ref q_38), (4, .int iv45_4), (3, .ref q_6), (0, .ref x), (1, .int i1), (2, .int i2)]) hx hb dX9_plan_61 hl (by decide) rfl (fun ls hl => ?_)
            refine lv_aload hx hb dX9_plan_63 (lv_at hl 0 rfl) ?_
            refine hx_getn hx hb hts hC_2 hown hW hT gq_38 tt_2 2 (by decide) rfl kw_733 ⟨rfl, rfl, rfl⟩ dX9_plan_65 (fun q_39 fq_39 gq_39 => ?_)
            refine lv_aload_n hx hb dX9_plan_68 rfl (lv_at hl 2 rfl) ?_
            refine lv_acmp_ne (rx := (some q_39)) (ry := (some q_6)) (tgt := 127) hx hb dX9_plan_69 (by decide) (fun c_40 => ?_) (fun c_40 => ?_)
            · skip
              obtain ⟨x_41, ex_41⟩ : ∃ y : Int32, y = iv45_4 + Int32.ofInt 1 := ⟨_, rfl⟩
              have rg_42 := i32_r iv45_4
              have zx_41 : x_41.toInt = iv45_4.toInt + (1) := by rw [ex_41]; exact i32_add rfl (by decide) (by omega) (by omega)
              refine lv_iinc (v := x_41) (lv' := [(4, .int x_41), (5, .ref q_38), (3, .ref q_6), (0, .ref x), (1, .int i1), (2, .int i2)]) hx hb dX9_plan_127 hl (k := 1) rfl ex_41.symm (by decide) rfl (fun ls hl => ?_)
              refine lv_goto (tgt := 45) hx hb dX9_plan_130 (by decide) ?_
              exact ih45 x_41 _ _ hL1 hl1 (by omega) (by omega)  ls (by omega) hW hT hM fq_13 fx_14 gq_6 gq_13 gq_20 pf_x_8 pf_x_11 pf_x_6 (lv_sub hl [0, 2, 3, 4, 5] rfl)
            · skip
              refine lv_aload hx hb dX9_plan_72 (lv_at hl 0 rfl) ?_
              refine lv_aload_n hx hb dX9_plan_74 rfl (lv_at hl 3 rfl) ?_
              refine hx_getn hx hb hts hC_9 hown hW hT (gx.S hM) tt_9 14 (by decide) rfl kw_378 ⟨rfl, rfl, rfl⟩ dX9_plan_75 (fun q_43 fq_43 gq_43 => ?_)
              refine lv_aload_n hx hb dX9_plan_78 rfl (lv_at hl 3 rfl) ?_
              refine hk_geti hx hb hts hC_9 hown hW (gx.S hM) tt_9 2 (by decide) rfl kw_366 ⟨rfl, rfl, rfl⟩ fx_14 dX9_plan_79 ?_
              refine hx_goi (hx_runV (As := [.ref q_43, .int x_14]) (rest := []) ⟨hx, hb, hml, hown, hts⟩ hW gq_38 tt_2 (T := TX2) (N := 19) rfl (t_X2_isOpen l dC dI dA hL1 hl1 H.size q_38 q_43 x_14 hT gq_38 gq_43) (cwV 2 hts (hx_gV kw_857 kw_854 kw_855 kw_856 kw_110) rfl rfl rfl (by decide +kernel) ⟨Nat.le_of_ble_eq_true rfl, Nat.le_of_ble_eq_true rfl⟩) rfl hl.1 rfl (Nat.le_of_ble_eq_true rfl) dX9_plan_82 ⟨Nat.le_of_ble_eq_true rfl, Nat.le_of_ble_eq_true rfl⟩) hW (fun r_46 L_44 h_45 H locs p_47 hW => ?_)
              obtain ⟨hr_48, hT, hs⟩ := p_47
              replace hT : hx_T T_tb L_44 h_45 := hT
              replace hs : hx_S T_tb [] hL1 hl1 L_44 h_45 := hs
              replace fq_13 := (hs.o (gx.S hM) trivial rfl).2.trans fq_13
              replace fx_14 := (hs.o (gx.S hM) trivial rfl).1.trans fx_14
              replace fx_31 := (hs.o (gx.S hM) trivial rfl).1.trans fx_31
              replace fq_39 := (hs.o gq_38 trivial rfl).2.trans fq_39
              replace fq_43 := (hs.o (gx.S hM) trivial rfl).2.trans fq_43
              replace pf_x_8 : ∀ j : Nat, (j : Int) < (h_45.2.1 x 8).toInt → h_45.2.2 qp j ≠ none := by
                intro j hj; rw [(hs.o (gx.S hM) trivial rfl).1] at hj; rw [(hs.a (gqp.S hM) rfl j).2]; exact pf_x_8 j hj
              replace pf_x_11 : ∀ j : Nat, (j : Int) < (h_45.2.1 x 11).toInt → h_45.2.2 qc j ≠ none := by
                intro j hj; rw [(hs.o (gx.S hM) trivial rfl).1] at hj; rw [(hs.a (gqc.S hM) rfl j).2]; exact pf_x_11 j hj
              replace pf_x_6 : ∀ j : Nat, (j : Int) < (h_45.2.1 x 6).toInt → h_45.2.2 qa j ≠ none := by
                intro j hj; rw [(hs.o (gx.S hM) trivial rfl).1] at hj; rw [(hs.a (gqa.S hM) rfl j).2]; exact pf_x_6 j hj
              replace hM := hM.tr (hs.mono (by decide))
              replace gq_6 := gq_6.S hs
              replace gq_13 := gq_13.S hs
              replace gq_20 := gq_20.S hs
              replace gq_38 := gq_38.S hs
              replace gq_39 := gq_39.S hs
              replace gq_43 := gq_43.S hs
              refine hb_if_eq (zx := r_46.toInt) (tgt := 127) hx hb rfl dX9_plan_85 (by decide) (fun c_49 => ?_) (fun c_49 => ?_)
              · skip
                obtain ⟨x_50, ex_50⟩ : ∃ y : Int32, y = iv45_4 + Int32.ofInt 1 := ⟨_, rfl⟩
                have rg_51 := i32_r iv45_4
                have zx_50 : x_50.toInt = iv45_4.toInt + (1) := by rw [ex_50]; exact i32_add rfl (by decide) (by omega) (by omega)
                refine lv_iinc (v := x_50) (lv' := [(4, .int x_50), (5, .ref q_38), (3, .ref q_6), (0, .ref x), (1, .int i1), (2, .int i2)]) hx hb dX9_plan_127 hl (k := 1) rfl ex_50.symm (by decide) rfl (fun ls hl => ?_)
                refine lv_goto (tgt := 45) hx hb dX9_plan_130 (by decide) ?_
                exact ih45 x_50 _ _ L_44 h_45 (by omega) (by omega)  ls (by omega) hW hT hM fq_13 fx_14 gq_6 gq_13 gq_20 pf_x_8 pf_x_11 pf_x_6 (lv_sub hl [0, 2, 3, 4, 5] rfl)
              · skip
                refine lv_aload_n hx hb dX9_plan_88 rfl (lv_at hl 3 rfl) ?_
                refine hk_getr hx hb hts hC_9 hown hW (gx.S hM) tt_9 17 (by decide) rfl kw_381 ⟨rfl, rfl, rfl⟩ fq_13 dX9_plan_89 ?_
                refine hx_geti hx hb hts hC_5 hown hW hT gq_13 tt_5 0 (by decide) rfl kw_259 ⟨rfl, rfl, rfl⟩ dX9_plan_92 (fun x_52 ex_52 lx_52 ux_52 => ?_)
                have fx_52 := ex_52.symm
                refine lv_iconst (v := 4) hx hb dX9_plan_95 (by decide) ?_
                refine hb_icmp_lt (zx := x_52.toInt) (zy := 4) (tgt := 101) hx hb rfl (by decide) dX9_plan_96 (by decide) (fun c_53 => ?_) (fun c_53 => ?_)
                · skip
                  refine lv_aload_n hx hb dX9_plan_101 rfl (lv_at hl 3 rfl) ?_
                  refine hk_getr hx hb hts hC_9 hown hW (gx.S hM) tt_9 17 (by decide) rfl kw_381 ⟨rfl, rfl, rfl⟩ fq_13 dX9_plan_102 ?_
                  refine lv_aload hx hb dX9_plan_105 (lv_at hl 0 rfl) ?_
                  refine lv_aload hx hb dX9_plan_107 (lv_at hl 0 rfl) ?_
                  refine lv_aload_n hx hb dX9_plan_109 rfl (lv_at hl 3 rfl) ?_
                  refine hk_getr hx hb hts hC_9 hown hW (gx.S hM) tt_9 14 (by decide) rfl kw_378 ⟨rfl, rfl, rfl⟩ fq_43 dX9_plan_110 ?_
                  refine lv_aload_n hx hb dX9_plan_113 rfl (lv_at hl 3 rfl) ?_
                  refine hk_geti hx hb hts hC_9 hown hW (gx.S hM) tt_9 2 (by decide) rfl kw_366 ⟨rfl, rfl, rfl⟩ fx_14 dX9_plan_114 ?_
                  refine lv_aload_n hx hb dX9_plan_117 rfl (lv_at hl 3 rfl) ?_
                  refine hk_geti hx hb hts hC_9 hown hW (gx.S hM) tt_9 2 (by decide) rfl kw_366 ⟨rfl, rfl, rfl⟩ fx_14 dX9_plan_118 ?_
                  refine hx_goi (hx_runV (As := [.ref q_43, .int x_14, .int x_14]) (rest := [.ref q_38, .ref q_13]) ⟨hx, hb, hml, hown, hts⟩ hW gq_38 tt_2 (T := TX2) (N := 19) rfl (t_X2_restOn l dC dI dA L_44 h_45 H.size q_38 q_43 x_14 x_14 hT gq_38 gq_43) (cwV 3 hts (hx_gV kw_861 kw_927 kw_859 kw_860 kw_110) rfl rfl rfl (by decide +kernel) ⟨Nat.le_of_ble_eq_true rfl, Nat.le_of_ble_eq_true rfl⟩) rfl hl.1 rfl (Nat.le_of_ble_eq_true rfl) dX9_plan_121 ⟨Nat.le_of_ble_eq_true rfl, Nat.le_of_ble_eq_true rfl⟩) hW (fun r_56 L_54 h_55 H locs p_57 hW => ?_)
                  obtain ⟨hr_58, hT, hs⟩ := p_57
                  replace hT : hx_T T_tb L_54 h_55 := hT
                  replace hs : hx_S T_tb [] L_44 h_45 L_54 h_55 := hs
                  replace fq_13 := (hs.o (gx.S hM) trivial rfl).2.trans fq_13
                  replace fx_14 := (hs.o (gx.S hM) trivial rfl).1.trans fx_14
                  replace fx_31 := (hs.o (gx.S hM) trivial rfl).1.trans fx_31
                  replace fq_39 := (hs.o gq_38 trivial rfl).2.trans fq_39
                  replace fq_43 := (hs.o (gx.S hM) trivial rfl).2.trans fq_43
                  replace fx_52 := (hs.o gq_13 trivial rfl).1.trans fx_52
                  replace pf_x_8 : ∀ j : Nat, (j : Int) < (h_55.2.1 x 8).toInt → h_55.2.2 qp j ≠ none := by
                    intro j hj; rw [(hs.o (gx.S hM) trivial rfl).1] at hj; rw [(hs.a (gqp.S hM) rfl j).2]; exact pf_x_8 j hj
                  replace pf_x_11 : ∀ j : Nat, (j : Int) < (h_55.2.1 x 11).toInt → h_55.2.2 qc j ≠ none := by
                    intro j hj; rw [(hs.o (gx.S hM) trivial rfl).1] at hj; rw [(hs.a (gqc.S hM) rfl j).2]; exact pf_x_11 j hj
                  replace pf_x_6 : ∀ j : Nat, (j : Int) < (h_55.2.1 x 6).toInt → h_55.2.2 qa j ≠ none := by
                    intro j hj; rw [(hs.o (gx.S hM) trivial rfl).1] at hj; rw [(hs.a (gqa.S hM) rfl j).2]; exact pf_x_6 j hj
                  replace hM := hM.tr (hs.mono (by decide))
                  replace gq_6 := gq_6.S hs
                  replace gq_13 := gq_13.S hs
                  replace gq_20 := gq_20.S hs
                  replace gq_38 := gq_38.S hs
                  replace gq_39 := gq_39.S hs
                  replace gq_43 := gq_43.S hs
                  refine hx_gov (hx_runV (As := [.ref q_38, .int r_56]) (rest := []) ⟨hx, hb, hml, hown, hts⟩ hW gq_13 tt_5 (T := TX5) (N := 13) rfl (t_X5_addOpen l dC dI dA L_54 h_55 H.size q_13 q_38 r_56 hT gq_13 gq_38) (cwV 2 hts (hx_gV kw_955 kw_952 kw_953 kw_954 kw_100) rfl rfl rfl (by decide +kernel) ⟨Nat.le_of_ble_eq_true rfl, Nat.le_of_ble_eq_true rfl⟩) rfl hl.1 rfl (Nat.le_of_ble_eq_true rfl) dX9_plan_124 ⟨Nat.le_of_ble_eq_true rfl, Nat.le_of_ble_eq_true rfl⟩) hW (fun L_59 h_60 H locs p_62 hW => ?_)
                  obtain ⟨hT, hs⟩ := p_62
                  replace hT : hx_T T_tb L_59 h_60 := hT
                  replace hs : hx_S T_tb [(5, 0), (30, 0), (31, 0), (32, 0)] L_54 h_55 L_59 h_60 := hs
                  replace fq_13 := (hs.o (gx.S hM) trivial rfl).2.trans fq_13
                  replace fx_14 := (hs.o (gx.S hM) trivial rfl).1.trans fx_14
                  replace fx_31 := (hs.o (gx.S hM) trivial rfl).1.trans fx_31
                  replace fq_39 := (hs.o gq_38 trivial rfl).2.trans fq_39
                  replace fq_43 := (hs.o (gx.S hM) trivial rfl).2.trans fq_43
                  replace pf_x_8 : ∀ j : Nat, (j : Int) < (h_60.2.1 x 8).toInt → h_60.2.2 qp j ≠ none := by
                    intro j hj; rw [(hs.o (gx.S hM) trivial rfl).1] at hj; rw [(hs.a (gqp.S hM) rfl j).2]; exact pf_x_8 j hj
                  replace pf_x_11 : ∀ j : Nat, (j : Int) < (h_60.2.1 x 11).toInt → h_60.2.2 qc j ≠ none := by
                    intro j hj; rw [(hs.o (gx.S hM) trivial rfl).1] at hj; rw [(hs.a (gqc.S hM) rfl j).2]; exact pf_x_11 j hj
                  replace pf_x_6 : ∀ j : Nat, (j : Int) < (h_60.2.1 x 6).toInt → h_60.2.2 qa j ≠ none := by
                    intro j hj; rw [(hs.o (gx.S hM) trivial rfl).1] at hj; rw [(hs.a (gqa.S hM) rfl j).2]; exact pf_x_6 j hj
                  replace hM := hM.tr (hs.mono (by decide))
                  replace gq_6 := gq_6.S hs
                  replace gq_13 := gq_13.S hs
                  replace gq_20 := gq_20.S hs
                  replace gq_38 := gq_38.S hs
                  replace gq_39 := gq_39.S hs
                  replace gq_43 := gq_43.S hs
                  obtain ⟨x_64, ex_64⟩ : ∃ y : Int32, y = iv45_4 + Int32.ofInt 1 := ⟨_, rfl⟩
                  have rg_65 := i32_r iv45_4
                  have zx_64 : x_64.toInt = iv45_4.toInt + (1) := by rw [ex_64]; exact i32_add rfl (by decide) (by omega) (by omega)
                  refine lv_iinc (v := x_64) (lv' := [(4, .int x_64), (5, .ref q_38), (3, .ref q_6), (0, .ref x), (1, .int i1), (2, .int i2)]) hx hb dX9_plan_127 hl (k := 1) rfl ex_64.symm (by decide) rfl (fun ls hl => ?_)
                  refine lv_goto (tgt := 45) hx hb dX9_plan_130 (by decide) ?_
                  exact ih45 x_64 _ _ L_59 h_60 (by omega) (by omega)  ls (by omega) hW hT hM fq_13 fx_14 gq_6 gq_13 gq_20 pf_x_8 pf_x_11 pf_x_6 (lv_sub hl [0, 2, 3, 4, 5] rfl)
                · skip
                  refine lv_iconst (v := -1) hx hb dX9_plan_99 (by decide) ?_
                  exact hx_reti hx hb hr hlk hW ⟨trivial, hT, hM⟩ dX9_plan_100
      have zk_0 : (0 : Int32).toInt = 0 := by decide
      exact loop45 101 (0 : Int32) _ _ L_26 h_27 (by decide) (by decide)  ls (by omega) hW hT hM fq_13 fx_14 gq_6 gq_13 gq_20 pf_x_8 pf_x_11 pf_x_6 hl
    · skip
      replace hr_11 := hr_11.resolve_right (fun z9 => absurd (c_12.symm.trans z9.1) (by decide))
      replace hr_11 := hr_11.2
      refine lv_iconst (v := -1) hx hb dX9_plan_20 (by decide) ?_
      exact hx_reti hx hb hr hlk hW ⟨trivial, hT, hM⟩ dX9_plan_21
