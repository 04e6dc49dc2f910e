theorem dX9_act_0 : decode cX9_act 0 = .ok (.aload_n 0, 1) := by decide +kernel
theorem dX9_act_1 : decode cX9_act 1 = .ok (.getfield 105, 3) := by decide +kernel
theorem dX9_act_4 : decode cX9_act 4 = .ok (.bipush 8, 2) := by decide +kernel
theorem dX9_act_6 : decode cX9_act 6 = .ok (.if_icmp .ge 10, 3) := by decide +kernel
theorem dX9_act_9 : decode cX9_act 9 = .ok (.iload_n 1, 1) := by decide +kernel
theorem dX9_act_10 : decode cX9_act 10 = .ok (.invokestatic 90, 3) := by decide +kernel
theorem dX9_act_13 : decode cX9_act 13 = .ok (.ifCond .ne 5, 3) := by decide +kernel
theorem dX9_act_16 : decode cX9_act 16 = .ok (.iconst (-1), 1) := by decide +kernel
theorem dX9_act_17 : decode cX9_act 17 = .ok (.ireturn, 1) := by decide +kernel
theorem dX9_act_18 : decode cX9_act 18 = .ok (.new 20, 3) := by decide +kernel
theorem dX9_act_21 : decode cX9_act 21 = .ok (.dup, 1) := by decide +kernel
theorem dX9_act_22 : decode cX9_act 22 = .ok (.aload_n 0, 1) := by decide +kernel
theorem dX9_act_23 : decode cX9_act 23 = .ok (.getfield 105, 3) := by decide +kernel
theorem dX9_act_26 : decode cX9_act 26 = .ok (.iload_n 1, 1) := by decide +kernel
theorem dX9_act_27 : decode cX9_act 27 = .ok (.invokespecial 22, 3) := by decide +kernel
theorem dX9_act_30 : decode cX9_act 30 = .ok (.astore_n 2, 1) := by decide +kernel
theorem dX9_act_31 : decode cX9_act 31 = .ok (.aload_n 0, 1) := by decide +kernel
theorem dX9_act_32 : decode cX9_act 32 = .ok (.getfield 16, 3) := by decide +kernel
theorem dX9_act_35 : decode cX9_act 35 = .ok (.aload_n 0, 1) := by decide +kernel
theorem dX9_act_36 : decode cX9_act 36 = .ok (.getfield 9, 3) := by decide +kernel
theorem dX9_act_39 : decode cX9_act 39 = .ok (.aload_n 0, 1) := by decide +kernel
theorem dX9_act_40 : decode cX9_act 40 = .ok (.getfield 98, 3) := by decide +kernel
theorem dX9_act_43 : decode cX9_act 43 = .ok (.aload_n 2, 1) := by decide +kernel
theorem dX9_act_44 : decode cX9_act 44 = .ok (.invokevirtual 108, 3) := by decide +kernel
theorem dX9_act_47 : decode cX9_act 47 = .ok (.istore_n 3, 1) := by decide +kernel
theorem dX9_act_48 : decode cX9_act 48 = .ok (.aload_n 0, 1) := by decide +kernel
theorem dX9_act_49 : decode cX9_act 49 = .ok (.iconst 0, 1) := by decide +kernel
theorem dX9_act_50 : decode cX9_act 50 = .ok (.putfield 98, 3) := by decide +kernel
theorem dX9_act_53 : decode cX9_act 53 = .ok (.iload_n 3, 1) := by decide +kernel
theorem dX9_act_54 : decode cX9_act 54 = .ok (.ifCond .eq 8, 3) := by decide +kernel
theorem dX9_act_57 : decode cX9_act 57 = .ok (.bipush (-2), 2) := by decide +kernel
theorem dX9_act_59 : decode cX9_act 59 = .ok (.iload_n 3, 1) := by decide +kernel
theorem dX9_act_60 : decode cX9_act 60 = .ok (.isub, 1) := by decide +kernel
theorem dX9_act_61 : decode cX9_act 61 = .ok (.ireturn, 1) := by decide +kernel
theorem dX9_act_62 : decode cX9_act 62 = .ok (.aload_n 0, 1) := by decide +kernel
theorem dX9_act_63 : decode cX9_act 63 = .ok (.getfield 29, 3) := by decide +kernel
theorem dX9_act_66 : decode cX9_act 66 = .ok (.aload_n 0, 1) := by decide +kernel
theorem dX9_act_67 : decode cX9_act 67 = .ok (.getfield 105, 3) := by decide +kernel
theorem dX9_act_70 : decode cX9_act 70 = .ok (.aload_n 2, 1) := by decide +kernel
theorem dX9_act_71 : decode cX9_act 71 = .ok (.aastore, 1) := by decide +kernel
theorem dX9_act_72 : decode cX9_act 72 = .ok (.aload_n 0, 1) := by decide +kernel
theorem dX9_act_73 : decode cX9_act 73 = .ok (.dup, 1) := by decide +kernel
theorem dX9_act_74 : decode cX9_act 74 = .ok (.getfield 105, 3) := by decide +kernel
theorem dX9_act_77 : decode cX9_act 77 = .ok (.iconst 1, 1) := by decide +kernel
theorem dX9_act_78 : decode cX9_act 78 = .ok (.iadd, 1) := by decide +kernel
theorem dX9_act_79 : decode cX9_act 79 = .ok (.putfield 105, 3) := by decide +kernel
theorem dX9_act_82 : decode cX9_act 82 = .ok (.aload_n 2, 1) := by decide +kernel
theorem dX9_act_83 : decode cX9_act 83 = .ok (.getfield 112, 3) := by decide +kernel
theorem dX9_act_86 : decode cX9_act 86 = .ok (.ireturn, 1) := by decide +kernel
set_option maxHeartbeats 4000000 in
set_option maxRecDepth 100000 in
theorem t_X9_act (l : Launch) (dC : Nat → ClassId) (dI : Nat → Nat → Nat) (dA : Nat → ClassId) (L : List Nat) (h : hx_h) (sz : Nat) (b0 : hx_z) (x : Nat) (i1 : Int32) (hT : hx_T T_tb L h) (gx : hx_g L h x 9) (qa : Nat) (gqa : hx_g L h qa 43) (f_x_5 : h.2.2 x 5 = some qa) (pf_x_6 : ∀ j : Nat, (j : Int) < (h.2.1 x 6).toInt → h.2.2 qa j ≠ none) : Met l yX9_act (Cond.code yX9_act cX9_act 4 (some .int) :: hx_all) ({ frames := 27, cells := 3, slots := 179, locals := 619 }) (va_Pc [.ref x, .int i1] (hx_BX T_tb (P_ty dA) (dC, dI) vwCl L h sz b0)) (va_Qi (fun (r : Int32) (u : List Nat × hx_h) => (True) ∧ hx_T T_tb u.1 u.2 ∧ hx_S T_tb [(0, 4), (6, 0), (6, 1), (6, 2), (6, 3), (6, 4), (6, 5), (6, 6), (9, 1), (9, 6), (11, 0), (12, 0), (43, 0), (116, 0), (116, 1), (116, 2), (116, 3), (116, 4)] L h u.1 u.2 ∧ (∀ j : Nat, (j : Int) < (u.2.2.1 x 6).toInt → u.2.2.2 qa j ≠ none)) (hx_E T_tb (P_ty dA) (dC, dI) vwCl (hx_A L sz)) (hx_A L sz)) 3 179 (hx_A L sz) := by
  refine hx_metX (lv := [(0, .ref x), (1, .int i1)]) (by decide +kernel) rfl (Nat.le_of_ble_eq_true rfl) rfl ?_
  intro p e s m below meth c hx hb hml hr hlk hts0 hown hin hsz hW hZ ls hl
  have hts : ∀ w ∈ hx_all, w.before _ s = true := fun w hw => hts0 w (List.mem_cons_of_mem _ hw)
  have hown : s.vm.findClass "SmallCourt" = some m.cls := hown
  have hM : hx_S T_tb [(0, 4), (6, 0), (6, 1), (6, 2), (6, 3), (6, 4), (6, 5), (6, 6), (9, 1), (9, 6), (11, 0), (12, 0), (43, 0), (116, 0), (116, 1), (116, 2), (116, 3), (116, 4)] L h L h := hx_S.rf
  refine lv_aload_n hx hb dX9_act_0 rfl (lv_at hl 0 rfl) ?_
  refine hx_geti hx hb hts hC_9 hown hW hT gx tt_9 6 (by decide) rfl kw_370 ⟨rfl, rfl, rfl⟩ dX9_act_1 (fun x_1 ex_1 lx_1 ux_1 => ?_)
  have fx_1 := ex_1.symm
  refine lv_bipush (v := 8) hx hb dX9_act_4 (by decide) ?_
  refine hb_icmp_ge (zx := x_1.toInt) (zy := 8) (tgt := 16) hx hb rfl (by decide) dX9_act_6 (by decide) (fun c_2 => ?_) (fun c_2 => ?_)
  · skip
    refine lv_iconst (v := -1) hx hb dX9_act_16 (by decide) ?_
    refine W.widen (k := 3) (n := 179) (Nat.le_of_ble_eq_true rfl) (Nat.le_of_ble_eq_true rfl) ?_
    exact hx_reti hx hb hr hlk hW ⟨trivial, hT, hM, pf_x_6⟩ dX9_act_17
  · skip
    refine lv_iload_n hx hb dX9_act_9 rfl (lv_at hl 1 rfl) ?_
    refine hx_goi (hx_runS (As := [.int i1]) (rest := []) ⟨hx, hb, hml, hown, hts⟩ hW (t_X9_isDay_2 l dC dI dA L h s.heap.size i1 hT) (va_cwS 1 hts (hx_gS kw_431 kw_429 kw_430 kw_94) rfl rfl rfl (by decide +kernel) ⟨Nat.le_of_ble_eq_true rfl, Nat.le_of_ble_eq_true rfl⟩) rfl hl.1 rfl (Nat.le_of_ble_eq_true rfl) dX9_act_10 ⟨Nat.le_of_ble_eq_true rfl, Nat.le_of_ble_eq_true rfl⟩) hW (fun r_5 L_3 h_4 H locs p_6 hW => ?_)
    obtain ⟨hr_7, hT, hs⟩ := p_6
    have hT : hx_T T_tb L_3 h_4 := hT
    have hs : hx_S T_tb [] L h L_3 h_4 := hs
    have f_x_5 := (hs.o gx trivial rfl).2.trans f_x_5
    have fx_1 := (hs.o gx trivial rfl).1.trans fx_1
    have pf_x_6 : ∀ j : Nat, (j : Int) < (h_4.2.1 x 6).toInt → h_4.2.2 qa j ≠ none := by
      intro j hj; rw [(hs.o gx trivial rfl).1] at hj; rw [(hs.a gqa rfl j).2]; exact pf_x_6 j hj
    have hM := hM.tr (hs.mono (by decide))
    have gx := gx.S hs
    have gqa := gqa.S hs
    refine hb_if_ne (zx := r_5.toInt) (tgt := 18) hx hb rfl dX9_act_13 (by decide) (fun c_8 => ?_) (fun c_8 => ?_)
    · skip
      refine hk_new hx hb hts hC_0 hown hW 116 tt_116 rfl (by decide) kw_148 kw_149 kw_96 (Nat.le_of_ble_eq_true rfl) (Nat.le_of_ble_eq_true rfl) dX9_act_18 (fun q_10 H h_9 eh_9 hqq_10 hW hs gq_10 => ?_)
      have nq_q_10 : ∀ a ∈ L, a ≠ q_10 := fun a ha z => hqq_10 (z ▸ (hM.1 a ha).1)
      have hT : hx_T T_tb (L_3 ++ [q_10]) h_9 := by rw [eh_9]; exact hx_T_nw hT hqq_10 tt_116 rfl
      have f_x_5 := (hs.o gx trivial rfl).2.trans f_x_5
      have fx_1 := (hs.o gx trivial rfl).1.trans fx_1
      have pf_x_6 : ∀ j : Nat, (j : Int) < (h_9.2.1 x 6).toInt → h_9.2.2 qa j ≠ none := by
        intro j hj; rw [(hs.o gx trivial rfl).1] at hj; rw [(hs.a gqa rfl j).2]; exact pf_x_6 j hj
      have hM := hM.tr (hs.mono (by decide))
      have gx := gx.S hs
      have gqa := gqa.S hs
      have fz_11 : ∀ j, ([] : List Nat).contains j = false → h_9.2.1 q_10 j = 0 ∧ h_9.2.2 q_10 j = none := by rw [eh_9]; exact fun _ _ => ⟨hx_nw_i, hx_nw_r⟩
      refine lv_dup hx hb dX9_act_21 rfl ?_
      refine lv_aload_n hx hb dX9_act_22 rfl (lv_at hl 0 rfl) ?_
      refine hk_geti hx hb hts hC_9 hown hW gx tt_9 6 (by decide) rfl kw_370 ⟨rfl, rfl, rfl⟩ fx_1 dX9_act_23 ?_
      refine lv_iload_n hx hb dX9_act_26 rfl (lv_at hl 1 rfl) ?_
      refine hx_gov (hx_runIX (As := [.int x_1, .int i1]) (rest := [.ref q_10]) ⟨hx, hb, hml, hown, hts⟩ hW (t_X0_init l dC dI dA (L_3 ++ [q_10]) h_9 H.size b0 q_10 x_1 i1 hT gq_10 (fun j => fz_11 j rfl) ⟨by omega, by omega⟩ ⟨by omega, by omega⟩) hZ (cwI 2 hts (hx_gC kw_152) rfl rfl rfl (hts _ kw_96) (hts _ kw_150) (hts _ kw_151) rfl (by decide +kernel) ⟨Nat.le_of_ble_eq_true rfl, Nat.le_of_ble_eq_true rfl⟩) rfl hl.1 rfl (Nat.le_of_ble_eq_true rfl) dX9_act_27 ⟨Nat.le_of_ble_eq_true rfl, Nat.le_of_ble_eq_true rfl⟩) hW (fun L_12 h_13 H locs p_15 hW => ?_)
      obtain ⟨hT, hs, gNq_10⟩ := p_15
      have hT : hx_T T_tb L_12 h_13 := hT
      have hs : hx_S T_tb [(11, 0), (12, 0), (116, 0), (116, 1), (116, 2), (116, 3), (116, 4)] (hx_X (L_3 ++ [q_10]) q_10) h_9 L_12 h_13 := hs
      have gx := hx_gX gx (gx.ne gq_10 (by decide))
      have gqa := hx_gX gqa (gqa.ne gq_10 (by decide))
      have f_x_5 := (hs.o gx trivial rfl).2.trans f_x_5
      have fx_1 := (hs.o gx trivial rfl).1.trans fx_1
      have pf_x_6 : ∀ j : Nat, (j : Int) < (h_13.2.1 x 6).toInt → h_13.2.2 qa j ≠ none := by
        intro j hj; rw [(hs.o gx trivial rfl).1] at hj; rw [(hs.a gqa rfl j).2]; exact pf_x_6 j hj
      have hM := hM.trX (hs.mono (by decide)) nq_q_10
      have gx := gx.S hs
      have gqa := gqa.S hs
      have gq_10 : hx_g L_12 h_13 q_10 0 := gNq_10
      refine lv_astore_n (lv' := [(2, .ref q_10), (0, .ref x), (1, .int i1)]) hx hb dX9_act_30 rfl hl (by decide) rfl (fun ls hl => ?_)
      refine lv_aload_n hx hb dX9_act_31 rfl (lv_at hl 1 rfl) ?_
      refine hx_getn hx hb hts hC_9 hown hW hT gx tt_9 3 (by decide) rfl kw_367 ⟨rfl, rfl, rfl⟩ dX9_act_32 (fun q_16 fq_16 gq_16 => ?_)
      refine lv_aload_n hx hb dX9_act_35 rfl (lv_at hl 1 rfl) ?_
      refine hx_getn hx hb hts hC_9 hown hW hT gx tt_9 0 (by decide) rfl kw_364 ⟨rfl, rfl, rfl⟩ dX9_act_36 (fun q_17 fq_17 gq_17 => ?_)
      refine lv_aload_n hx hb dX9_act_39 rfl (lv_at hl 1 rfl) ?_
      refine hx_geti hx hb hts hC_9 hown hW hT gx tt_9 1 (by decide) rfl kw_365 ⟨rfl, rfl, rfl⟩ dX9_act_40 (fun x_18 ex_18 lx_18 ux_18 => ?_)
      have fx_18 := ex_18.symm
      refine lv_aload_n hx hb dX9_act_43 rfl (lv_at hl 0 rfl) ?_
      refine hx_goi (hx_runVX (As := [.ref q_17, .int x_18, .ref q_10]) (rest := []) ⟨hx, hb, hml, hown, hts⟩ hW gq_16 tt_6 (T := TX6) (N := 7) rfl (t_X6_readAct l dC dI dA L_12 h_13 H.size b0 q_16 q_17 x_18 q_10 hT gq_16 gq_17 gq_10) hZ (cwV 3 hts (hx_gV kw_454 kw_451 kw_452 kw_453 kw_95) rfl rfl rfl (by decide +kernel) ⟨Nat.le_of_ble_eq_true rfl, Nat.le_of_ble_eq_true rfl⟩) rfl hl.1 rfl (Nat.le_of_ble_eq_true rfl) dX9_act_44 ⟨Nat.le_of_ble_eq_true rfl, Nat.le_of_ble_eq_true rfl⟩) hW (fun r_21 L_19 h_20 H locs p_22 hW => ?_)
      obtain ⟨hr_23, hT, hs⟩ := p_22
      have hT : hx_T T_tb L_19 h_20 := hT
      have hs : hx_S T_tb [(0, 4), (6, 0), (6, 1), (6, 2), (6, 3), (6, 4), (6, 5), (6, 6), (11, 0), (12, 0)] L_12 h_13 L_19 h_20 := hs
      have f_x_5 := (hs.o gx trivial rfl).2.trans f_x_5
      have fx_1 := (hs.o gx trivial rfl).1.trans fx_1
      have fq_16 := (hs.o gx trivial rfl).2.trans fq_16
      have fq_17 := (hs.o gx trivial rfl).2.trans fq_17
      have fx_18 := (hs.o gx trivial rfl).1.trans fx_18
      have pf_x_6 : ∀ j : Nat, (j : Int) < (h_20.2.1 x 6).toInt → h_20.2.2 qa j ≠ none := by
        intro j hj; rw [(hs.o gx trivial rfl).1] at hj; rw [(hs.a gqa rfl j).2]; exact pf_x_6 j hj
      have hM := hM.tr (hs.mono (by decide))
      have gx := gx.S hs
      have gqa := gqa.S hs
      have gq_10 := gq_10.S hs
      have gq_16 := gq_16.S hs
      have gq_17 := gq_17.S hs
      refine lv_istore_n (lv' := [(3, .int r_21), (2, .ref q_10), (0, .ref x), (1, .int i1)]) hx hb dX9_act_47 rfl hl (by decide) rfl (fun ls hl => ?_)
      refine lv_aload_n hx hb dX9_act_48 rfl (lv_at hl 2 rfl) ?_
      refine lv_iconst (v := 0) hx hb dX9_act_49 (by decide) ?_
      refine hx_puti hx hb hts hC_9 hown hW hT (hx_S.rf (M := [(9, 1)])) gx tt_9 1 (by decide) rfl kw_365 ⟨rfl, rfl, rfl⟩ rfl (x := (0 : Int32)) (by decide) rfl rfl rfl (List.mem_singleton.mpr rfl) dX9_act_50 (fun H locs h_24 eh_24 hW hT hs => ?_)
      have f_x_5 := (hs.o gx trivial rfl).2.trans f_x_5
      have fx_1 := (hs.o gx trivial rfl).1.trans fx_1
      have fq_16 := (hs.o gx trivial rfl).2.trans fq_16
      have fq_17 := (hs.o gx trivial rfl).2.trans fq_17
      have pf_x_6 : ∀ j : Nat, (j : Int) < (h_24.2.1 x 6).toInt → h_24.2.2 qa j ≠ none := by
        intro j hj; rw [(hs.o gx trivial rfl).1] at hj; rw [(hs.a gqa rfl j).2]; exact pf_x_6 j hj
      have hM := hM.tr (hs.mono (by decide))
      have gx := gx.S hs
      have gqa := gqa.S hs
      have gq_10 := gq_10.S hs
      have gq_16 := gq_16.S hs
      have gq_17 := gq_17.S hs
      have f_25 : h_24.2.1 x 1 = (0 : Int32) := by rw [eh_24]; exact hx_pi_at _ _ _ _
      refine lv_iload_n hx hb dX9_act_53 rfl (lv_at hl 0 rfl) ?_
      refine hb_if_eq (zx := r_21.toInt) (tgt := 62) hx hb rfl dX9_act_54 (by decide) (fun c_26 => ?_) (fun c_26 => ?_)
      · skip
        refine lv_aload_n hx hb dX9_act_62 rfl (lv_at hl 2 rfl) ?_
        refine hk_getr hx hb hts hC_9 hown hW gx tt_9 5 (by decide) rfl kw_369 ⟨rfl, rfl, rfl⟩ f_x_5 dX9_act_63 ?_
        refine lv_aload_n hx hb dX9_act_66 rfl (lv_at hl 2 rfl) ?_
        refine hk_geti hx hb hts hC_9 hown hW gx tt_9 6 (by decide) rfl kw_370 ⟨rfl, rfl, rfl⟩ fx_1 dX9_act_67 ?_
        refine lv_aload_n hx hb dX9_act_70 rfl (lv_at hl 1 rfl) ?_
        have pf_x_6O := pf_x_6
        refine hx_aast hx hb hW hT (hx_S.rf (M := [(43, 0)])) gqa tt_43 rfl gq_10 tt_0 rfl (by decide) ⟨by omega, by omega⟩ (List.mem_singleton.mpr rfl) dX9_act_71 (fun H locs h_27 eh_27 hW hT hs => ?_)
        have f_x_5 := (hs.o gx trivial rfl).2.trans f_x_5
        have fx_1 := (hs.o gx trivial rfl).1.trans fx_1
        have fq_16 := (hs.o gx trivial rfl).2.trans fq_16
        have fq_17 := (hs.o gx trivial rfl).2.trans fq_17
        have f_25 := (hs.o gx trivial rfl).1.trans f_25
        have hM := hM.tr (hs.mono (by decide))
        have gx := gx.S hs
        have gqa := gqa.S hs
        have gq_10 := gq_10.S hs
        have gq_16 := gq_16.S hs
        have gq_17 := gq_17.S hs
        have pf_x_6 : ∀ j : Nat, (j : Int) < (h_27.2.1 x 6).toInt → h_27.2.2 qa j ≠ none := hx_pfk pf_x_6O eh_27
        have px_28 : ∀ j : Nat, (j : Int) < x_1.toInt + 1 → h_27.2.2 qa j ≠ none := hx_pfx pf_x_6O (by first | exact fx_1 | exact ((hs.o gx trivial rfl).1.symm.trans fx_1)) (by omega) eh_27
        refine lv_aload_n hx hb dX9_act_72 rfl (lv_at hl 2 rfl) ?_
        refine lv_dup hx hb dX9_act_73 rfl ?_
        refine hk_geti hx hb hts hC_9 hown hW gx tt_9 6 (by decide) rfl kw_370 ⟨rfl, rfl, rfl⟩ fx_1 dX9_act_74 ?_
        refine lv_iconst (v := 1) hx hb dX9_act_77 (by decide) ?_
        refine lv_iadd hx hb dX9_act_78 ?_
        have rg_29 := i32_r x_1
        refine lv_topi (fun x_30 ex_30 => ?_)
        have zx_30 : x_30.toInt = x_1.toInt + 1 := by rw [ex_30]; exact i32_add rfl (by decide) (by omega) (by omega)
        refine hx_puti hx hb hts hC_9 hown hW hT (hx_S.rf (M := [(9, 6)])) gx tt_9 6 (by decide) rfl kw_370 ⟨rfl, rfl, rfl⟩ rfl (x := x_30) ⟨by omega, by omega⟩ rfl rfl rfl (List.mem_singleton.mpr rfl) dX9_act_79 (fun H locs h_31 eh_31 hW hT hs => ?_)
        have px_28 : ∀ j : Nat, (j : Int) < x_1.toInt + 1 → h_31.2.2 qa j ≠ none := fun j hj => by rw [(hs.a gqa rfl j).2]; exact px_28 j hj
        have f_x_5 := (hs.o gx trivial rfl).2.trans f_x_5
        have fq_16 := (hs.o gx trivial rfl).2.trans fq_16
        have fq_17 := (hs.o gx trivial rfl).2.trans fq_17
        have f_25 := (hs.o gx trivial rfl).1.trans f_25
        have hM := hM.tr (hs.mono (by decide))
        have gx := gx.S hs
        have gqa := gqa.S hs
        have gq_10 := gq_10.S hs
        have gq_16 := gq_16.S hs
        have gq_17 := gq_17.S hs
        have f_32 : h_31.2.1 x 6 = x_30 := by rw [eh_31]; exact hx_pi_at _ _ _ _
        have pf_33 : ∀ j : Nat, (j : Int) < (h_31.2.1 x 6).toInt → h_31.2.2 qa j ≠ none := fun j hj => px_28 j (by rw [f_32] at hj; omega)
        refine lv_aload_n hx hb dX9_act_82 rfl (lv_at hl 1 rfl) ?_
        refine hx_geti hx hb hts hC_0 hown hW hT gq_10 tt_0 0 (by decide) rfl kw_163 ⟨rfl, rfl, rfl⟩ dX9_act_83 (fun x_34 ex_34 lx_34 ux_34 => ?_)
        have fx_34 := ex_34.symm
        refine W.widen (k := 3) (n := 179) (Nat.le_of_ble_eq_true rfl) (Nat.le_of_ble_eq_true rfl) ?_
        exact hx_reti hx hb hr hlk hW ⟨trivial, hT, hM, pf_33⟩ dX9_act_86
      · skip
        refine lv_bipush (v := -2) hx hb dX9_act_57 (by decide) ?_
        refine lv_iload_n hx hb dX9_act_59 rfl (lv_at hl 0 rfl) ?_
        refine lv_isub hx hb dX9_act_60 ?_
        have rg_35 := i32_r r_21
        refine lv_topi (fun x_36 ex_36 => ?_)
        refine W.widen (k := 3) (n := 179) (Nat.le_of_ble_eq_true rfl) (Nat.le_of_ble_eq_true rfl) ?_
        exact hx_reti hx hb hr hlk hW ⟨trivial, hT, hM, pf_x_6⟩ dX9_act_61
    · skip
      refine lv_iconst (v := -1) hx hb dX9_act_16 (by decide) ?_
      refine W.widen (k := 3) (n := 179) (Nat.le_of_ble_eq_true rfl) (Nat.le_of_ble_eq_true rfl) ?_
      exact hx_reti hx hb hr hlk hW ⟨trivial, hT, hM, pf_x_6⟩ dX9_act_17

theorem dX9_file_0 : decode cX9_file 0 = .ok (.aload_n 0, 1) := by decide +kernel
theorem dX9_file_1 : decode cX9_file 1 = .ok (.iload_n 1, 1) := by decide +kernel
theorem dX9_file_2 : decode cX9_file 2 = .ok (.invokevirtual 144, 3) := by decide +kernel
theorem dX9_file_5 : decode cX9_file 5 = .ok (.astore 7, 2) := by decide +kernel
theorem dX9_file_7 : decode cX9_file 7 = .ok (.aload_n 0, 1) := by decide +kernel
theorem dX9_file_8 : decode cX9_file 8 = .ok (.iload_n 2, 1) := by decide +kernel
theorem dX9_file_9 : decode cX9_file 9 = .ok (.invokevirtual 144, 3) := by decide +kernel
theorem dX9_file_12 : decode cX9_file 12 = .ok (.astore 8, 2) := by decide +kernel
theorem dX9_file_14 : decode cX9_file 14 = .ok (.aload_n 0, 1) := by decide +kernel
theorem dX9_file_15 : decode cX9_file 15 = .ok (.getfield 181, 3) := by decide +kernel
theorem dX9_file_18 : decode cX9_file 18 = .ok (.bipush 100, 2) := by decide +kernel
theorem dX9_file_20 : decode cX9_file 20 = .ok (.if_icmp .ge 61, 3) := by decide +kernel
theorem dX9_file_23 : decode cX9_file 23 = .ok (.aload 7, 2) := by decide +kernel
theorem dX9_file_25 : decode cX9_file 25 = .ok (.ifnull 56, 3) := by decide +kernel
theorem dX9_file_28 : decode cX9_file 28 = .ok (.aload 8, 2) := by decide +kernel
theorem dX9_file_30 : decode cX9_file 30 = .ok (.ifnull 51, 3) := by decide +kernel
theorem dX9_file_33 : decode cX9_file 33 = .ok (.iload_n 1, 1) := by decide +kernel
theorem dX9_file_34 : decode cX9_file 34 = .ok (.iload_n 2, 1) := by decide +kernel
theorem dX9_file_35 : decode cX9_file 35 = .ok (.if_icmp .eq 46, 3) := by decide +kernel
theorem dX9_file_38 : decode cX9_file 38 = .ok (.aload 8, 2) := by decide +kernel
theorem dX9_file_40 : decode cX9_file 40 = .ok (.getfield 148, 3) := by decide +kernel
theorem dX9_file_43 : decode cX9_file 43 = .ok (.ifCond .ne 38, 3) := by decide +kernel
theorem dX9_file_46 : decode cX9_file 46 = .ok (.iload_n 3, 1) := by decide +kernel
theorem dX9_file_47 : decode cX9_file 47 = .ok (.iconst 1, 1) := by decide +kernel
theorem dX9_file_48 : decode cX9_file 48 = .ok (.sipush 9999, 3) := by decide +kernel
theorem dX9_file_51 : decode cX9_file 51 = .ok (.invokestatic 128, 3) := by decide +kernel
theorem dX9_file_54 : decode cX9_file 54 = .ok (.ifCond .eq 27, 3) := by decide +kernel
theorem dX9_file_57 : decode cX9_file 57 = .ok (.iload 4, 2) := by decide +kernel
theorem dX9_file_59 : decode cX9_file 59 = .ok (.iconst 0, 1) := by decide +kernel
theorem dX9_file_60 : decode cX9_file 60 = .ok (.aload_n 0, 1) := by decide +kernel
theorem dX9_file_61 : decode cX9_file 61 = .ok (.getfield 94, 3) := by decide +kernel
theorem dX9_file_64 : decode cX9_file 64 = .ok (.invokestatic 128, 3) := by decide +kernel
theorem dX9_file_67 : decode cX9_file 67 = .ok (.ifCond .eq 14, 3) := by decide +kernel
theorem dX9_file_70 : decode cX9_file 70 = .ok (.iload 6, 2) := by decide +kernel
theorem dX9_file_72 : decode cX9_file 72 = .ok (.iconst 0, 1) := by decide +kernel
theorem dX9_file_73 : decode cX9_file 73 = .ok (.bipush 9, 2) := by decide +kernel
theorem dX9_file_75 : decode cX9_file 75 = .ok (.invokestatic 128, 3) := by decide +kernel
theorem dX9_file_78 : decode cX9_file 78 = .ok (.ifCond .ne 5, 3) := by decide +kernel
theorem dX9_file_81 : decode cX9_file 81 = .ok (.iconst (-1), 1) := by decide +kernel
theorem dX9_file_82 : decode cX9_file 82 = .ok (.ireturn, 1) := by decide +kernel
theorem dX9_file_83 : decode cX9_file 83 = .ok (.new 46, 3) := by decide +kernel
theorem dX9_file_86 : decode cX9_file 86 = .ok (.dup, 1) := by decide +kernel
theorem dX9_file_87 : decode cX9_file 87 = .ok (.aload_n 0, 1) := by decide +kernel
theorem dX9_file_88 : decode cX9_file 88 = .ok (.getfield 181, 3) := by decide +kernel
theorem dX9_file_91 : decode cX9_file 91 = .ok (.aload 7, 2) := by decide +kernel
theorem dX9_file_93 : decode cX9_file 93 = .ok (.aload 8, 2) := by decide +kernel
theorem dX9_file_95 : decode cX9_file 95 = .ok (.aload_n 0, 1) := by decide +kernel
theorem dX9_file_96 : decode cX9_file 96 = .ok (.aload_n 0, 1) := by decide +kernel
theorem dX9_file_97 : decode cX9_file 97 = .ok (.getfield 94, 3) := by decide +kernel
theorem dX9_file_100 : decode cX9_file 100 = .ok (.invokevirtual 115, 3) := by decide +kernel
theorem dX9_file_103 : decode cX9_file 103 = .ok (.invokespecial 184, 3) := by decide +kernel
theorem dX9_file_106 : decode cX9_file 106 = .ok (.astore 9, 2) := by decide +kernel
theorem dX9_file_108 : decode cX9_file 108 = .ok (.aload 9, 2) := by decide +kernel
theorem dX9_file_110 : decode cX9_file 110 = .ok (.iload_n 3, 1) := by decide +kernel
theorem dX9_file_111 : decode cX9_file 111 = .ok (.putfield 187, 3) := by decide +kernel
theorem dX9_file_114 : decode cX9_file 114 = .ok (.aload 9, 2) := by decide +kernel
theorem dX9_file_116 : decode cX9_file 116 = .ok (.iload 4, 2) := by decide +kernel
theorem dX9_file_118 : decode cX9_file 118 = .ok (.putfield 190, 3) := by decide +kernel
theorem dX9_file_121 : decode cX9_file 121 = .ok (.aload 9, 2) := by decide +kernel
theorem dX9_file_123 : decode cX9_file 123 = .ok (.aload_n 0, 1) := by decide +kernel
theorem dX9_file_124 : decode cX9_file 124 = .ok (.getfield 94, 3) := by decide +kernel
theorem dX9_file_127 : decode cX9_file 127 = .ok (.putfield 193, 3) := by decide +kernel
theorem dX9_file_130 : decode cX9_file 130 = .ok (.aload 9, 2) := by decide +kernel
theorem dX9_file_132 : decode cX9_file 132 = .ok (.getfield 196, 3) := by decide +kernel
theorem dX9_file_135 : decode cX9_file 135 = .ok (.iconst 2, 1) := by decide +kernel
theorem dX9_file_136 : decode cX9_file 136 = .ok (.iload 5, 2) := by decide +kernel
theorem dX9_file_138 : decode cX9_file 138 = .ok (.ifCond .eq 7, 3) := by decide +kernel
theorem dX9_file_141 : decode cX9_file 141 = .ok (.iconst 1, 1) := by decide +kernel
theorem dX9_file_142 : decode cX9_file 142 = .ok (.goto 4, 3) := by decide +kernel
theorem dX9_file_145 : decode cX9_file 145 = .ok (.iconst 0, 1) := by decide +kernel
theorem dX9_file_146 : decode cX9_file 146 = .ok (.iastore, 1) := by decide +kernel
theorem dX9_file_147 : decode cX9_file 147 = .ok (.aload 9, 2) := by decide +kernel
theorem dX9_file_149 : decode cX9_file 149 = .ok (.getfield 196, 3) := by decide +kernel
theorem dX9_file_152 : decode cX9_file 152 = .ok (.iconst 3, 1) := by decide +kernel
theorem dX9_file_153 : decode cX9_file 153 = .ok (.iload 6, 2) := by decide +kernel
theorem dX9_file_155 : decode cX9_file 155 = .ok (.iastore, 1) := by decide +kernel
theorem dX9_file_156 : decode cX9_file 156 = .ok (.aload 9, 2) := by decide +kernel
theorem dX9_file_158 : decode cX9_file 158 = .ok (.getfield 196, 3) := by decide +kernel
theorem dX9_file_161 : decode cX9_file 161 = .ok (.bipush 7, 2) := by decide +kernel
theorem dX9_file_163 : decode cX9_file 163 = .ok (.iload_n 3, 1) := by decide +kernel
theorem dX9_file_164 : decode cX9_file 164 = .ok (.iastore, 1) := by decide +kernel
theorem dX9_file_165 : decode cX9_file 165 = .ok (.aload_n 0, 1) := by decide +kernel
theorem dX9_file_166 : decode cX9_file 166 = .ok (.getfield 48, 3) := by decide +kernel
theorem dX9_file_169 : decode cX9_file 169 = .ok (.aload_n 0, 1) := by decide +kernel
theorem dX9_file_170 : decode cX9_file 170 = .ok (.getfield 181, 3) := by decide +kernel
theorem dX9_file_173 : decode cX9_file 173 = .ok (.aload 9, 2) := by decide +kernel
theorem dX9_file_175 : decode cX9_file 175 = .ok (.aastore, 1) := by decide +kernel
theorem dX9_file_176 : decode cX9_file 176 = .ok (.aload_n 0, 1) := by decide +kernel
theorem dX9_file_177 : decode cX9_file 177 = .ok (.dup, 1) := by decide +kernel
theorem dX9_file_178 : decode cX9_file 178 = .ok (.getfield 181, 3) := by decide +kernel
theorem dX9_file_181 : decode cX9_file 181 = .ok (.iconst 1, 1) := by decide +kernel
theorem dX9_file_182 : decode cX9_file 182 = .ok (.iadd, 1) := by decide +kernel
theorem dX9_file_183 : decode cX9_file 183 = .ok (.putfield 181, 3) := by decide +kernel
theorem dX9_file_186 : decode cX9_file 186 = .ok (.aload 9, 2) := by decide +kernel
theorem dX9_file_188 : decode cX9_file 188 = .ok (.getfield 199, 3) := by decide +kernel
theorem dX9_file_191 : decode cX9_file 191 = .ok (.ireturn, 1) := by decide +kernel
set_option maxHeartbeats 4000000 in
set_option maxRecDepth 100000 in
theorem t_X9_file (l : Launch) (dC : Nat → ClassId) (dI : Nat → Nat → Nat) (dA : Nat → ClassId) (L : List Nat) (h : hx_h) (sz : Nat) (x : Nat) (i1 : Int32) (i2 : Int32) (i3 : Int32) (i4 : Int32) (i5 : Int32) (i6 : Int32) (hT : hx_T T_tb L h) (gx : hx_g L h x 9) (qp : Nat) (gqp : hx_g L h qp 44) (f_x_7 : h.2.2 x 7 = some qp) (qc : Nat) (gqc : hx_g L h qc 45) (f_x_10 : h.2.2 x 10 = some qc) (qa : Nat) (gqa : hx_g L h qa 43) (f_x_5 : h.2.2 x 5 = some qa) (pf_x_8 : ∀ j : Nat, (j : Int) < (h.2.1 x 8).toInt → h.2.2 qp j ≠ none) (pf_x_11 : ∀ j : Nat, (j : Int) < (h.2.1 x 11).toInt → h.2.2 qc j ≠ none) (pf_x_6 : ∀ j : Nat, (j : Int) < (h.2.1 x 6).toInt → h.2.2 qa j ≠ none) : Met l yX9_file (Cond.code yX9_file cX9_file 10 (some .int) :: hx_all) ({ frames := 2, cells := 3, slots := 30, locals := 36 }) (va_Pc [.ref x, .int i1, .int i2, .int i3, .int i4, .int i5, .int i6] (hx_B T_tb (P_ty dA) (dC, dI) vwCl L h sz)) (va_Qi (fun (r : Int32) (u : List Nat × hx_h) => (True) ∧ hx_T T_tb u.1 u.2 ∧ hx_S T_tb [(2, 6), (2, 7), (2, 8), (9, 11), (20, 0), (21, 0), (45, 0), (118, 0), (118, 1), (118, 2), (118, 3), (118, 4), (118, 5), (118, 10), (118, 11), (118, 13), (118, 16), (118, 18)] L h u.1 u.2 ∧ (∀ j : Nat, (j : Int) < (u.2.2.1 x 11).toInt → u.2.2.2 qc j ≠ none)) (hx_E T_tb (P_ty dA) (dC, dI) vwCl (hx_A L sz)) (hx_A L sz)) 3 30 (hx_A L sz) := by
  refine hx_met (lv := [(0, .ref x), (1, .int i1), (2, .int i2), (3, .int i3), (4, .int i4), (5, .int i5), (6, .int i6)]) (by decide +kernel) rfl (Nat.le_of_ble_eq_true rfl) rfl ?_
  intro p e s m below meth c hx hb hml hr hlk hts0 hown hin hsz hW ls hl
  have hts : ∀ w ∈ hx_all, w.before _ s = true := fun w hw => hts0 w (List.mem_cons_of_mem _ hw)
  have hown : s.vm.findClass "SmallCourt" = some m.cls := hown
  have hM : hx_S T_tb [(2, 6), (2, 7), (2, 8), (9, 11), (20, 0), (21, 0), (45, 0), (118, 0), (118, 1), (118, 2), (118, 3), (118, 4), (118, 5), (118, 10), (118, 11), (118, 13), (118, 16), (118, 18)] L h L h := hx_S.rf
  refine lv_aload_n hx hb dX9_file_0 rfl (lv_at hl 0 rfl) ?_
  refine lv_iload_n hx hb dX9_file_1 rfl (lv_at hl 1 rfl) ?_
  refine hx_goq (hx_runV (As := [.int i1]) (rest := []) ⟨hx, hb, hml, hown, hts⟩ hW gx tt_9 (T := TX9) (N := 20) rfl (t_X9_personAt l dC dI dA L h s.heap.size x i1 hT gx qp gqp f_x_7 pf_x_8) (cwV 1 hts (hx_gV kw_659 kw_656 kw_658 kw_20 kw_94) rfl rfl rfl (by decide +kernel) ⟨Nat.le_of_ble_eq_true rfl, Nat.le_of_ble_eq_true rfl⟩) rfl hl.1 rfl (Nat.le_of_ble_eq_true rfl) dX9_file_2 ⟨Nat.le_of_ble_eq_true rfl, Nat.le_of_ble_eq_true rfl⟩) hW (fun r_3 L_1 h_2 H locs p_4 hW => ?_)
  obtain ⟨hr_5, hT, hs⟩ := p_4
  have hT : hx_T T_tb L_1 h_2 := hT
  have hs : hx_S T_tb [] L h L_1 h_2 := hs
  have f_x_7 := (hs.o gx trivial rfl).2.trans f_x_7
  have f_x_10 := (hs.o gx trivial rfl).2.trans f_x_10
  have f_x_5 := (hs.o gx trivial rfl).2.trans f_x_5
  have pf_x_8 : ∀ j : Nat, (j : Int) < (h_2.2.1 x 8).toInt → h_2.2.2 qp j ≠ none := by
    intro j hj; rw [(hs.o gx trivial rfl).1] at hj; rw [(hs.a gqp rfl j).2]; exact pf_x_8 j hj
  have pf_x_11 : ∀ j : Nat, (j : Int) < (h_2.2.1 x 11).toInt → h_2.2.2 qc j ≠ none := by
    intro j hj; rw [(hs.o gx trivial rfl).1] at hj; rw [(hs.a gqc rfl j).2]; exact pf_x_11 j hj
  have pf_x_6 : ∀ j : Nat, (j : Int) < (h_2.2.1 x 6).toInt → h_2.2.2 qa j ≠ none := by
    intro j hj; rw [(hs.o gx trivial rfl).1] at hj; rw [(hs.a gqa rfl j).2]; exact pf_x_6 j hj
  have hM := hM.tr (hs.mono (by decide))
  have gx := gx.S hs
  have gqp := gqp.S hs
  have gqc := gqc.S hs
  have gqa := gqa.S hs
  have hr_5 : ∀ q, r_3 = some q → hx_g L_1 h_2 q 4 := hr_5
  rcases r_3 with _ | q_6
  · skip
    refine lv_astoreN (lv' := [(7, .null), (0, .ref x), (1, .int i1), (2, .int i2), (3, .int i3), (4, .int i4), (5, .int i5), (6, .int i6)]) hx hb dX9_file_5 hl (by decide) rfl (fun ls hl => ?_)
    refine lv_aload_n hx hb dX9_file_7 rfl (lv_at hl 1 rfl) ?_
    refine lv_iload_n hx hb dX9_file_8 rfl (lv_at hl 3 rfl) ?_
    refine hx_goq (hx_runV (As := [.int i2]) (rest := []) ⟨hx, hb, hml, hown, hts⟩ hW gx tt_9 (T := TX9) (N := 20) rfl (t_X9_personAt l dC dI dA L_1 h_2 H.size x i2 hT gx qp gqp f_x_7 pf_x_8) (cwV 1 hts (hx_gV kw_659 kw_656 kw_658 kw_20 kw_94) rfl rfl rfl (by decide +kernel) ⟨Nat.le_of_ble_eq_true rfl, Nat.le_of_ble_eq_true rfl⟩) rfl hl.1 rfl (Nat.le_of_ble_eq_true rfl) dX9_file_9 ⟨Nat.le_of_ble_eq_true rfl, Nat.le_of_ble_eq_true rfl⟩) hW (fun r_9 L_7 h_8 H locs p_10 hW => ?_)
    obtain ⟨hr_11, hT, hs⟩ := p_10
    have hT : hx_T T_tb L_7 h_8 := hT
    have hs : hx_S T_tb [] L_1 h_2 L_7 h_8 := hs
    have f_x_7 := (hs.o gx trivial rfl).2.trans f_x_7
    have f_x_10 := (hs.o gx trivial rfl).2.trans f_x_10
    have f_x_5 := (hs.o gx trivial rfl).2.trans f_x_5
    have pf_x_8 : ∀ j : Nat, (j : Int) < (h_8.2.1 x 8).toInt → h_8.2.2 qp j ≠ none := by
      intro j hj; rw [(hs.o gx trivial rfl).1] at hj; rw [(hs.a gqp rfl j).2]; exact pf_x_8 j hj
    have pf_x_11 : ∀ j : Nat, (j : Int) < (h_8.2.1 x 11).toInt → h_8.2.2 qc j ≠ none := by
      intro j hj; rw [(hs.o gx trivial rfl).1] at hj; rw [(hs.a gqc rfl j).2]; exact pf_x_11 j hj
    have pf_x_6 : ∀ j : Nat, (j : Int) < (h_8.2.1 x 6).toInt → h_8.2.2 qa j ≠ none := by
      intro j hj; rw [(hs.o gx trivial rfl).1] at hj; rw [(hs.a gqa rfl j).2]; exact pf_x_6 j hj
    have hM := hM.tr (hs.mono (by decide))
    have gx := gx.S hs
    have gqp := gqp.S hs
    have gqc := gqc.S hs
    have gqa := gqa.S hs
    have hr_11 : ∀ q, r_9 = some q → hx_g L_7 h_8 q 4 := hr_11
    rcases r_9 with _ | q_12
    · skip
      refine lv_astoreN (lv' := [(8, .null), (7, .null), (0, .ref x), (1, .int i1), (2, .int i2), (3, .int i3), (4, .int i4), (5, .int i5), (6, .int i6)]) hx hb dX9_file_12 hl (by decide) rfl (fun ls hl => ?_)
      refine lv_aload_n hx hb dX9_file_14 rfl (lv_at hl 2 rfl) ?_
      refine hx_geti hx hb hts hC_9 hown hW hT gx tt_9 11 (by decide) rfl kw_375 ⟨rfl, rfl, rfl⟩ dX9_file_15 (fun x_13 ex_13 lx_13 ux_13 => ?_)
      have fx_13 := ex_13.symm
      refine lv_bipush (v := 100) hx hb dX9_file_18 (by decide) ?_
      refine hb_icmp_ge (zx := x_13.toInt) (zy := 100) (tgt := 81) hx hb rfl (by decide) dX9_file_20 (by decide) (fun c_14 => ?_) (fun c_14 => ?_)
      · skip
        refine lv_iconst (v := -1) hx hb dX9_file_81 (by decide) ?_
        refine W.widen (k := 3) (n := 30) (Nat.le_of_ble_eq_true rfl) (Nat.le_of_ble_eq_true rfl) ?_
        exact hx_reti hx hb hr hlk hW ⟨trivial, hT, hM, pf_x_11⟩ dX9_file_82
      · skip
        refine lv_aloadN hx hb dX9_file_23 (lv_at hl 1 rfl) ?_
        refine lv_ifnullN (tgt := 81) hx hb dX9_file_25 (by decide) ?_
        refine lv_iconst (v := -1) hx hb dX9_file_81 (by decide) ?_
        refine W.widen (k := 3) (n := 30) (Nat.le_of_ble_eq_true rfl) (Nat.le_of_ble_eq_true rfl) ?_
        exact hx_reti hx hb hr hlk hW ⟨trivial, hT, hM, pf_x_11⟩ dX9_file_82
    · have gq_12 := hr_11 _ rfl
      refine lv_astore (lv' := [(8, .ref q_12), (7, .null), (0, .ref x), (1, .int i1), (2, .int i2), (3, .int i3), (4, .int i4), (5, .int i5), (6, .int i6)]) hx hb dX9_file_12 hl (by decide) rfl (fun ls hl => ?_)
      refine lv_aload_n hx hb dX9_file_14 rfl (lv_at hl 2 rfl) ?_
      refine hx_geti hx hb hts hC_9 hown hW hT gx tt_9 11 (by decide) rfl kw_375 ⟨rfl, rfl, rfl⟩ dX9_file_15 (fun x_15 ex_15 lx_15 ux_15 => ?_)
      have fx_15 := ex_15.symm
      refine lv_bipush (v := 100) hx hb dX9_file_18 (by decide) ?_
      refine hb_icmp_ge (zx := x_15.toInt) (zy := 100) (tgt := 81) hx hb rfl (by decide) dX9_file_20 (by decide) (fun c_16 => ?_) (fun c_16 => ?_)
      · skip
        refine lv_iconst (v := -1) hx hb dX9_file_81 (by decide) ?_
        refine W.widen (k := 3) (n := 30) (Nat.le_of_ble_eq_true rfl) (Nat.le_of_ble_eq_true rfl) ?_
        exact hx_reti hx hb hr hlk hW ⟨trivial, hT, hM, pf_x_11⟩ dX9_file_82
      · skip
        refine lv_aloadN hx hb dX9_file_23 (lv_at hl 1 rfl) ?_
        refine lv_ifnullN (tgt := 81) hx hb dX9_file_25 (by decide) ?_
        refine lv_iconst (v := -1) hx hb dX9_file_81 (by decide) ?_
        refine W.widen (k := 3) (n := 30) (Nat.le_of_ble_eq_true rfl) (Nat.le_of_ble_eq_true rfl) ?_
        exact hx_reti hx hb hr hlk hW ⟨trivial, hT, hM, pf_x_11⟩ dX9_file_82
  · have gq_6 := hr_5 _ rfl
    refine lv_astore (lv' := [(7, .ref q_6), (0, .ref x), (1, .int i1), (2, .int i2), (3, .int i3), (4, .int i4), (5, .int i5), (6, .int i6)]) hx hb dX9_file_5 hl (by decide) rfl (fun ls hl => ?_)
    refine lv_aload_n hx hb dX9_file_7 rfl (lv_at hl 1 rfl) ?_
    refine lv_iload_n hx hb dX9_file_8 rfl (lv_at hl 3 rfl) ?_
    refine hx_goq (hx_runV (As := [.int i2]) (rest := []) ⟨hx, hb, hml, hown, hts⟩ hW gx tt_9 (T := TX9) (N := 20) rfl (t_X9_personAt l dC dI dA L_1 h_2 H.size x i2 hT gx qp gqp f_x_7 pf_x_8) (cwV 1 hts (hx_gV kw_659 kw_656 kw_658 kw_20 kw_94) rfl rfl rfl (by decide +kernel) ⟨Nat.le_of_ble_eq_true rfl, Nat.le_of_ble_eq_true rfl⟩) rfl hl.1 rfl (Nat.le_of_ble_eq_true rfl) dX9_file_9 ⟨Nat.le_of_ble_eq_true rfl, Nat.le_of_ble_eq_true rfl⟩) hW (fun r_19 L_17 h_18 H locs p_20 hW => ?_)
    obtain ⟨hr_21, hT, hs⟩ := p_20
    have hT : hx_T T_tb L_17 h_18 := hT
    have hs : hx_S T_tb [] L_1 h_2 L_17 h_18 := hs
    have f_x_7 := (hs.o gx trivial rfl).2.trans f_x_7
    have f_x_10 := (hs.o gx trivial rfl).2.trans f_x_10
    have f_x_5 := (hs.o gx trivial rfl).2.trans f_x_5
    have pf_x_8 : ∀ j : Nat, (j : Int) < (h_18.2.1 x 8).toInt → h_18.2.2 qp j ≠ none := by
      intro j hj; rw [(hs.o gx trivial rfl).1] at hj; rw [(hs.a gqp rfl j).2]; exact pf_x_8 j hj
    have pf_x_11 : ∀ j : Nat, (j : Int) < (h_18.2.1 x 11).toInt → h_18.2.2 qc j ≠ none := by
      intro j hj; rw [(hs.o gx trivial rfl).1] at hj; rw [(hs.a gqc rfl j).2]; exact pf_x_11 j hj
    have pf_x_6 : ∀ j : Nat, (j : Int) < (h_18.2.1 x 6).toInt → h_18.2.2 qa j ≠ none := by
      intro j hj; rw [(hs.o gx trivial rfl).1] at hj; rw [(hs.a gqa rfl j).2]; exact pf_x_6 j hj
    have hM := hM.tr (hs.mono (by decide))
    have gx := gx.S hs
    have gqp := gqp.S hs
    have gqc := gqc.S hs
    have gqa := gqa.S hs
    have gq_6 := gq_6.S hs
    have hr_21 : ∀ q, r_19 = some q → hx_g L_17 h_18 q 4 := hr_21
    rcases r_19 with _ | q_22
    · skip
      refine lv_astoreN (lv' := [(8, .null), (7, .ref q_6), (0, .ref x), (1, .int i1), (2, .int i2), (3, .int i3), (4, .int i4), (5, .int i5), (6, .int i6)]) hx hb dX9_file_12 hl (by decide) rfl (fun ls hl => ?_)
      refine lv_aload_n hx hb dX9_file_14 rfl (lv_at hl 2 rfl) ?_
      refine hx_geti hx hb hts hC_9 hown hW hT gx tt_9 11 (by decide) rfl kw_375 ⟨rfl, rfl, rfl⟩ dX9_file_15 (fun x_23 ex_23 lx_23 ux_23 => ?_)
      have fx_23 := ex_23.symm
      refine lv_bipush (v := 100) hx hb dX9_file_18 (by decide) ?_
      refine hb_icmp_ge (zx := x_23.toInt) (zy := 100) (tgt := 81) hx hb rfl (by decide) dX9_file_20 (by decide) (fun c_24 => ?_) (fun c_24 => ?_)
      · skip
        refine lv_iconst (v := -1) hx hb dX9_file_81 (by decide) ?_
        refine W.widen (k := 3) (n := 30) (Nat.le_of_ble_eq_true rfl) (Nat.le_of_ble_eq_true rfl) ?_
        exact hx_reti hx hb hr hlk hW ⟨trivial, hT, hM, pf_x_11⟩ dX9_file_82
      · skip
        refine lv_aload hx hb dX9_file_23 (lv_at hl 1 rfl) ?_
        refine lv_ifnull hx hb dX9_file_25 ?_
        refine lv_aloadN hx hb dX9_file_28 (lv_at hl 0 rfl) ?_
        refine lv_ifnullN (tgt := 81) hx hb dX9_file_30 (by decide) ?_
        refine lv_iconst (v := -1) hx hb dX9_file_81 (by decide) ?_
        refine W.widen (k := 3) (n := 30) (Nat.le_of_ble_eq_true rfl) (Nat.le_of_ble_eq_true rfl) ?_
        exact hx_reti hx hb hr hlk hW ⟨trivial, hT, hM, pf_x_11⟩ dX9_file_82
    · have gq_22 := hr_21 _ rfl
      refine lv_astore (lv' := [(8, .ref q_22), (7, .ref q_6), (0, .ref x), (1, .int i1), (2, .int i2), (3, .int i3), (4, .int i4), (5, .int i5), (6, .int i6)]) hx hb dX9_file_12 hl (by decide) rfl (fun ls hl => ?_)
      refine lv_aload_n hx hb dX9_file_14 rfl (lv_at hl 2 rfl) ?_
      refine hx_geti hx hb hts hC_9 hown hW hT gx tt_9 11 (by decide) rfl kw_375 ⟨rfl, rfl, rfl⟩ dX9_file_15 (fun x_25 ex_25 lx_25 ux_25 => ?_)
      have fx_25 := ex_25.symm
      refine lv_bipush (v := 100) hx hb dX9_file_18 (by decide) ?_
      refine hb_icmp_ge (zx := x_25.toInt) (zy := 100) (tgt := 81) hx hb rfl (by decide) dX9_file_20 (by decide) (fun c_26 => ?_) (fun c_26 => ?_)
      · skip
        refine lv_iconst (v := -1) hx hb dX9_file_81 (by decide) ?_
        refine W.widen (k := 3) (n := 30) (Nat.le_of_ble_eq_true rfl) (Nat.le_of_ble_eq_true rfl) ?_
        exact hx_reti hx hb hr hlk hW ⟨trivial, hT, hM, pf_x_11⟩ dX9_file_82
      · skip
        refine lv_aload hx hb dX9_file_23 (lv_at hl 1 rfl) ?_
        refine lv_ifnull hx hb dX9_file_25 ?_
        refine lv_aload hx hb dX9_file_28 (lv_at hl 0 rfl) ?_
        refine lv_ifnull hx hb dX9_file_30 ?_
        refine lv_iload_n hx hb dX9_file_33 rfl (lv_at hl 3 rfl) ?_
        refine lv_iload_n hx hb dX9_file_34 rfl (lv_at hl 4 rfl) ?_
        refine hb_icmp_eq (zx := i1.toInt) (zy := i2.toInt) (tgt := 81) hx hb rfl rfl dX9_file_35 (by decide) (fun c_27 => ?_) (fun c_27 => ?_)
        · skip
          refine lv_iconst (v := -1) hx hb dX9_file_81 (by decide) ?_
          refine W.widen (k := 3) (n := 30) (Nat.le_of_ble_eq_true rfl) (Nat.le_of_ble_eq_true rfl) ?_
          exact hx_reti hx hb hr hlk hW ⟨trivial, hT, hM, pf_x_11⟩ dX9_file_82
        · skip
          refine lv_aload hx hb dX9_file_38 (lv_at hl 0 rfl) ?_
          refine hx_geti hx hb hts hC_4 hown hW hT gq_22 tt_4 7 (by decide) rfl kw_623 ⟨rfl, rfl, rfl⟩ dX9_file_40 (fun x_28 ex_28 lx_28 ux_28 => ?_)
          have fx_28 := ex_28.symm
          refine hb_if_ne (zx := x_28.toInt) (tgt := 81) hx hb rfl dX9_file_43 (by decide) (fun c_29 => ?_) (fun c_29 => ?_)
          · skip
            refine lv_iconst (v := -1) hx hb dX9_file_81 (by decide) ?_
            refine W.widen (k := 3) (n := 30) (Nat.le_of_ble_eq_true rfl) (Nat.le_of_ble_eq_true rfl) ?_
            exact hx_reti hx hb hr hlk hW ⟨trivial, hT, hM, pf_x_11⟩ dX9_file_82
          · skip
            refine lv_iload_n hx hb dX9_file_46 rfl (lv_at hl 5 rfl) ?_
            refine lv_iconst (v := 1) hx hb dX9_file_47 (by decide) ?_
            refine lv_sipush (v := 9999) hx hb dX9_file_48 (by decide) ?_
            have zc_9999 : (9999 : Int32).toInt = 9999 := by decide
            have zc_1 : (1 : Int32).toInt = 1 := by decide
            refine hx_goi (hx_runS (As := [.int i3, .int (1 : Int32), .int (9999 : Int32)]) (rest := []) ⟨hx, hb, hml, hown, hts⟩ hW (t_X9_isWithin_2 l dC dI dA L_17 h_18 H.size i3 (1 : Int32) (9999 : Int32) hT) (va_cwS 3 hts (hx_gS kw_434 kw_432 kw_433 kw_94) rfl rfl rfl (by decide +kernel) ⟨Nat.le_of_ble_eq_true rfl, Nat.le_of_ble_eq_true rfl⟩) rfl hl.1 rfl (Nat.le_of_ble_eq_true rfl) dX9_file_51 ⟨Nat.le_of_ble_eq_true rfl, Nat.le_of_ble_eq_true rfl⟩) hW (fun r_32 L_30 h_31 H locs p_33 hW => ?_)
            obtain ⟨hr_34, hT, hs⟩ := p_33
            have hT : hx_T T_tb L_30 h_31 := hT
            have hs : hx_S T_tb [] L_17 h_18 L_30 h_31 := hs
            have f_x_7 := (hs.o gx trivial rfl).2.trans f_x_7
            have f_x_10 := (hs.o gx trivial rfl).2.trans f_x_10
            have f_x_5 := (hs.o gx trivial rfl).2.trans f_x_5
            have fx_25 := (hs.o gx trivial rfl).1.trans fx_25
            have fx_28 := (hs.o gq_22 trivial rfl).1.trans fx_28
            have pf_x_8 : ∀ j : Nat, (j : Int) < (h_31.2.1 x 8).toInt → h_31.2.2 qp j ≠ none := by
              intro j hj; rw [(hs.o gx trivial rfl).1] at hj; rw [(hs.a gqp rfl j).2]; exact pf_x_8 j hj
            have pf_x_11 : ∀ j : Nat, (j : Int) < (h_31.2.1 x 11).toInt → h_31.2.2 qc j ≠ none := by
              intro j hj; rw [(hs.o gx trivial rfl).1] at hj; rw [(hs.a gqc rfl j).2]; exact pf_x_11 j hj
            have pf_x_6 : ∀ j : Nat, (j : Int) < (h_31.2.1 x 6).toInt → h_31.2.2 qa j ≠ none := by
              intro j hj; rw [(hs.o gx trivial rfl).1] at hj; rw [(hs.a gqa rfl j).2]; exact pf_x_6 j hj
            have hM := hM.tr (hs.mono (by decide))
            have gx := gx.S hs
            have gqp := gqp.S hs
            have gqc := gqc.S hs
            have gqa := gqa.S hs
            have gq_6 := gq_6.S hs
            have gq_22 := gq_22.S hs
            refine hb_if_eq (zx := r_32.toInt) (tgt := 81) hx hb rfl dX9_file_54 (by decide) (fun c_35 => ?_) (fun c_35 => ?_)
            · skip
              refine lv_iconst (v := -1) hx hb dX9_file_81 (by decide) ?_
              refine W.widen (k := 3) (n := 30) (Nat.le_of_ble_eq_true rfl) (Nat.le_of_ble_eq_true rfl) ?_
              exact hx_reti hx hb hr hlk hW ⟨trivial, hT, hM, pf_x_11⟩ dX9_file_82
            · skip
              refine lv_iload hx hb dX9_file_57 (lv_at hl 6 rfl) ?_
              refine lv_iconst (v := 0) hx hb dX9_file_59 (by decide) ?_
              refine lv_aload_n hx hb dX9_file_60 rfl (lv_at hl 2 rfl) ?_
              refine hx_geti hx hb hts hC_9 hown hW hT gx tt_9 2 (by decide) rfl kw_366 ⟨rfl, rfl, rfl⟩ dX9_file_61 (fun x_36 ex_36 lx_36 ux_36 => ?_)
              have fx_36 := ex_36.symm
              have zc_0 : (0 : Int32).toInt = 0 := by decide
              refine hx_goi (hx_runS (As := [.int i4, .int (0 : Int32), .int x_36]) (rest := []) ⟨hx, hb, hml, hown, hts⟩ hW (t_X9_isWithin_2 l dC dI dA L_30 h_31 H.size i4 (0 : Int32) x_36 hT) (va_cwS 3 hts (hx_gS kw_434 kw_432 kw_433 kw_94) rfl rfl rfl (by decide +kernel) ⟨Nat.le_of_ble_eq_true rfl, Nat.le_of_ble_eq_true rfl⟩) rfl hl.1 rfl (Nat.le_of_ble_eq_true rfl) dX9_file_64 ⟨Nat.le_of_ble_eq_true rfl, Nat.le_of_ble_eq_true rfl⟩) hW (fun r_39 L_37 h_38 H locs p_40 hW => ?_)
              obtain ⟨hr_41, hT, hs⟩ := p_40
              have hT : hx_T T_tb L_37 h_38 := hT
              have hs : hx_S T_tb [] L_30 h_31 L_37 h_38 := hs
              have f_x_7 := (hs.o gx trivial rfl).2.trans f_x_7
              have f_x_10 := (hs.o gx trivial rfl).2.trans f_x_10
              have f_x_5 := (hs.o gx trivial rfl).2.trans f_x_5
              have fx_25 := (hs.o gx trivial rfl).1.trans fx_25
              have fx_28 := (hs.o gq_22 trivial rfl).1.trans fx_28
              have fx_36 := (hs.o gx trivial rfl).1.trans fx_36
              have pf_x_8 : ∀ j : Nat, (j : Int) < (h_38.2.1 x 8).toInt → h_38.2.2 qp j ≠ none := by
                intro j hj; rw [(hs.o gx trivial rfl).1] at hj; rw [(hs.a gqp rfl j).2]; exact pf_x_8 j hj
              have pf_x_11 : ∀ j : Nat, (j : Int) < (h_38.2.1 x 11).toInt → h_38.2.2 qc j ≠ none := by
                intro j hj; rw [(hs.o gx trivial rfl).1] at hj; rw [(hs.a gqc rfl j).2]; exact pf_x_11 j hj
              have pf_x_6 : ∀ j : Nat, (j : Int) < (h_38.2.1 x 6).toInt → h_38.2.2 qa j ≠ none := by
                intro j hj; rw [(hs.o gx trivial rfl).1] at hj; rw [(hs.a gqa rfl j).2]; exact pf_x_6 j hj
              have hM := hM.tr (hs.mono (by decide))
              have gx := gx.S hs
              have gqp := gqp.S hs
              have gqc := gqc.S hs
              have gqa := gqa.S hs
              have gq_6 := gq_6.S hs
              have gq_22 := gq_22.S hs
              refine hb_if_eq (zx := r_39.toInt) (tgt := 81) hx hb rfl dX9_file_67 (by decide) (fun c_42 => ?_) (fun c_42 => ?_)
              · skip
                refine lv_iconst (v := -1) hx hb dX9_file_81 (by decide) ?_
                refine W.widen (k := 3) (n := 30) (Nat.le_of_ble_eq_true rfl) (Nat.le_of_ble_eq_true rfl) ?_
                exact hx_reti hx hb hr hlk hW ⟨trivial, hT, hM, pf_x_11⟩ dX9_file_82
              · skip
                refine lv_iload hx hb dX9_file_70 (lv_at hl 8 rfl) ?_
                refine lv_iconst (v := 0) hx hb dX9_file_72 (by decide) ?_
                refine lv_bipush (v := 9) hx hb dX9_file_73 (by decide) ?_
                have zc_9 : (9 : Int32).toInt = 9 := by decide
                refine hx_goi (hx_runS (As := [.int i6, .int (0 : Int32), .int (9 : Int32)]) (rest := []) ⟨hx, hb, hml, hown, hts⟩ hW (t_X9_isWithin_2 l dC dI dA L_37 h_38 H.size i6 (0 : Int32) (9 : Int32) hT) (va_cwS 3 hts (hx_gS kw_434 kw_432 kw_433 kw_94) rfl rfl rfl (by decide +kernel) ⟨Nat.le_of_ble_eq_true rfl, Nat.le_of_ble_eq_true rfl⟩) rfl hl.1 rfl (Nat.le_of_ble_eq_true rfl) dX9_file_75 ⟨Nat.le_of_ble_eq_true rfl, Nat.le_of_ble_eq_true rfl⟩) hW (fun r_45 L_43 h_44 H locs p_46 hW => ?_)
                obtain ⟨hr_47, hT, hs⟩ := p_46
                have hT : hx_T T_tb L_43 h_44 := hT
                have hs : hx_S T_tb [] L_37 h_38 L_43 h_44 := hs
                have f_x_7 := (hs.o gx trivial rfl).2.trans f_x_7
                have f_x_10 := (hs.o gx trivial rfl).2.trans f_x_10
                have f_x_5 := (hs.o gx trivial rfl).2.trans f_x_5
                have fx_25 := (hs.o gx trivial rfl).1.trans fx_25
                have fx_28 := (hs.o gq_22 trivial rfl).1.trans fx_28
                have fx_36 := (hs.o gx trivial rfl).1.trans fx_36
                have pf_x_8 : ∀ j : Nat, (j : Int) < (h_44.2.1 x 8).toInt → h_44.2.2 qp j ≠ none := by
                  intro j hj; rw [(hs.o gx trivial rfl).1] at hj; rw [(hs.a gqp rfl j).2]; exact pf_x_8 j hj
                have pf_x_11 : ∀ j : Nat, (j : Int) < (h_44.2.1 x 11).toInt → h_44.2.2 qc j ≠ none := by
                  intro j hj; rw [(hs.o gx trivial rfl).1] at hj; rw [(hs.a gqc rfl j).2]; exact pf_x_11 j hj
                have pf_x_6 : ∀ j : Nat, (j : Int) < (h_44.2.1 x 6).toInt → h_44.2.2 qa j ≠ none := by
                  intro j hj; rw [(hs.o gx trivial rfl).1] at hj; rw [(hs.a gqa rfl j).2]; exact pf_x_6 j hj
                have hM := hM.tr (hs.mono (by decide))
                have gx := gx.S hs
                have gqp := gqp.S hs
                have gqc := gqc.S hs
                have gqa := gqa.S hs
                have gq_6 := gq_6.S hs
                have gq_22 := gq_22.S hs
                refine hb_if_ne (zx := r_45.toInt) (tgt := 83) hx hb rfl dX9_file_78 (by decide) (fun c_48 => ?_) (fun c_48 => ?_)
                · skip
                  refine hk_new hx hb hts hC_2 hown hW 118 tt_118 rfl (by decide) kw_223 kw_716 kw_110 (Nat.le_of_ble_eq_true rfl) (Nat.le_of_ble_eq_true rfl) dX9_file_83 (fun q_50 H h_49 eh_49 hqq_50 hW hs gq_50 => ?_)
                  have nq_q_50 : ∀ a ∈ L, a ≠ q_50 := fun a ha z => hqq_50 (z ▸ (hM.1 a ha).1)
                  have hT : hx_T T_tb (L_43 ++ [q_50]) h_49 := by rw [eh_49]; exact hx_T_nw hT hqq_50 tt_118 rfl
                  have f_x_7 := (hs.o gx trivial rfl).2.trans f_x_7
                  have f_x_10 := (hs.o gx trivial rfl).2.trans f_x_10
                  have f_x_5 := (hs.o gx trivial rfl).2.trans f_x_5
                  have fx_25 := (hs.o gx trivial rfl).1.trans fx_25
                  have fx_28 := (hs.o gq_22 trivial rfl).1.trans fx_28
                  have fx_36 := (hs.o gx trivial rfl).1.trans fx_36
                  have pf_x_8 : ∀ j : Nat, (j : Int) < (h_49.2.1 x 8).toInt → h_49.2.2 qp j ≠ none := by
                    intro j hj; rw [(hs.o gx trivial rfl).1] at hj; rw [(hs.a gqp rfl j).2]; exact pf_x_8 j hj
                  have pf_x_11 : ∀ j : Nat, (j : Int) < (h_49.2.1 x 11).toInt → h_49.2.2 qc j ≠ none := by
                    intro j hj; rw [(hs.o gx trivial rfl).1] at hj; rw [(hs.a gqc rfl j).2]; exact pf_x_11 j hj
                  have pf_x_6 : ∀ j : Nat, (j : Int) < (h_49.2.1 x 6).toInt → h_49.2.2 qa j ≠ none := by
                    intro j hj; rw [(hs.o gx trivial rfl).1] at hj; rw [(hs.a gqa rfl j).2]; exact pf_x_6 j hj
                  have hM := hM.tr (hs.mono (by decide))
                  have gx := gx.S hs
                  have gqp := gqp.S hs
                  have gqc := gqc.S hs
                  have gqa := gqa.S hs
                  have gq_6 := gq_6.S hs
                  have gq_22 := gq_22.S hs
                  have fz_51 : ∀ j, ([] : List Nat).contains j = false → h_49.2.1 q_50 j = 0 ∧ h_49.2.2 q_50 j = none := by rw [eh_49]; exact fun _ _ => ⟨hx_nw_i, hx_nw_r⟩
                  refine lv_dup hx hb dX9_file_86 rfl ?_
                  refine lv_aload_n hx hb dX9_file_87 rfl (lv_at hl 2 rfl) ?_
                  refine hk_geti hx hb hts hC_9 hown hW gx tt_9 11 (by decide) rfl kw_375 ⟨rfl, rfl, rfl⟩ fx_25 dX9_file_88 ?_
                  refine lv_aload hx hb dX9_file_91 (lv_at hl 1 rfl) ?_
                  refine lv_aload hx hb dX9_file_93 (lv_at hl 0 rfl) ?_
                  refine lv_aload_n hx hb dX9_file_95 rfl (lv_at hl 2 rfl) ?_
                  refine lv_aload_n hx hb dX9_file_96 rfl (lv_at hl 2 rfl) ?_
                  refine hk_geti hx hb hts hC_9 hown hW gx tt_9 2 (by decide) rfl kw_366 ⟨rfl, rfl, rfl⟩ fx_36 dX9_file_97 ?_
                  refine hx_goq (hx_runV (As := [.int x_36]) (rest := [.ref q_22, .ref q_6, .int x_25, .ref q_50, .ref q_50]) ⟨hx, hb, hml, hown, hts⟩ hW gx tt_9 (T := TX9) (N := 20) rfl (t_X9_inForce l dC dI dA (L_43 ++ [q_50]) h_49 H.size x x_36 hT gx qa gqa f_x_5 pf_x_6) (cwV 1 hts (hx_gV kw_597 kw_594 kw_596 kw_19 kw_94) rfl rfl rfl (by decide +kernel) ⟨Nat.le_of_ble_eq_true rfl, Nat.le_of_ble_eq_true rfl⟩) rfl hl.1 rfl (Nat.le_of_ble_eq_true rfl) dX9_file_100 ⟨Nat.le_of_ble_eq_true rfl, Nat.le_of_ble_eq_true rfl⟩) hW (fun r_54 L_52 h_53 H locs p_55 hW => ?_)
                  obtain ⟨hr_56, hT, hs⟩ := p_55
                  have hT : hx_T T_tb L_52 h_53 := hT
                  have hs : hx_S T_tb [] (L_43 ++ [q_50]) h_49 L_52 h_53 := hs
                  have f_x_7 := (hs.o gx trivial rfl).2.trans f_x_7
                  have f_x_10 := (hs.o gx trivial rfl).2.trans f_x_10
                  have f_x_5 := (hs.o gx trivial rfl).2.trans f_x_5
                  have fx_25 := (hs.o gx trivial rfl).1.trans fx_25
                  have fx_28 := (hs.o gq_22 trivial rfl).1.trans fx_28
                  have fx_36 := (hs.o gx trivial rfl).1.trans fx_36
                  have pf_x_8 : ∀ j : Nat, (j : Int) < (h_53.2.1 x 8).toInt → h_53.2.2 qp j ≠ none := by
                    intro j hj; rw [(hs.o gx trivial rfl).1] at hj; rw [(hs.a gqp rfl j).2]; exact pf_x_8 j hj
                  have pf_x_11 : ∀ j : Nat, (j : Int) < (h_53.2.1 x 11).toInt → h_53.2.2 qc j ≠ none := by
                    intro j hj; rw [(hs.o gx trivial rfl).1] at hj; rw [(hs.a gqc rfl j).2]; exact pf_x_11 j hj
                  have pf_x_6 : ∀ j : Nat, (j : Int) < (h_53.2.1 x 6).toInt → h_53.2.2 qa j ≠ none := by
                    intro j hj; rw [(hs.o gx trivial rfl).1] at hj; rw [(hs.a gqa rfl j).2]; exact pf_x_6 j hj
                  have fz_51 := hx_zr [] fz_51 hs gq_50 trivial rfl
                  have hM := hM.tr (hs.mono (by decide))
                  have gx := gx.S hs
                  have gqp := gqp.S hs
                  have gqc := gqc.S hs
                  have gqa := gqa.S hs
                  have gq_6 := gq_6.S hs
                  have gq_22 := gq_22.S hs
                  have gq_50 := gq_50.S hs
                  obtain ⟨q_57, rfl, gq_57⟩ := hr_56
                  have gq_57 : hx_g L_52 h_53 q_57 0 := gq_57
                  refine hx_gov (hx_runI (As := [.int x_25, .ref q_6, .ref q_22, .ref q_57]) (rest := [.ref q_50]) ⟨hx, hb, hml, hown, hts⟩ hW (t_X2_init l dC dI dA L_52 h_53 H.size q_50 x_25 q_6 q_22 q_57 hT gq_50 gq_6 gq_22 gq_57 (fun j => fz_51 j rfl) ⟨by omega, by omega⟩) (cwI 4 hts (hx_gC kw_719) rfl rfl rfl (hts _ kw_110) (hts _ kw_717) (hts _ kw_718) rfl (by decide +kernel) ⟨Nat.le_of_ble_eq_true rfl, Nat.le_of_ble_eq_true rfl⟩) rfl hl.1 rfl (Nat.le_of_ble_eq_true rfl) dX9_file_103 ⟨Nat.le_of_ble_eq_true rfl, Nat.le_of_ble_eq_true rfl⟩) hW (fun L_58 h_59 H locs p_61 hW => ?_)
                  obtain ⟨hT, hs, gNq_50, po_62, po_63, po_64, po_65, po_66⟩ := p_61
                  have hT : hx_T T_tb L_58 h_59 := hT
                  have hs : hx_S T_tb [(21, 0), (118, 0), (118, 1), (118, 2), (118, 3), (118, 4), (118, 5), (118, 10), (118, 11), (118, 13), (118, 16), (118, 18)] (hx_X L_52 q_50) h_53 L_58 h_59 := hs
                  have gx := hx_gX gx (gx.ne gq_50 (by decide))
                  have gqp := hx_gX gqp (gqp.ne gq_50 (by decide))
                  have gqc := hx_gX gqc (gqc.ne gq_50 (by decide))
                  have gqa := hx_gX gqa (gqa.ne gq_50 (by decide))
                  have gq_6 := hx_gX gq_6 (gq_6.ne gq_50 (by decide))
                  have gq_22 := hx_gX gq_22 (gq_22.ne gq_50 (by decide))
                  have gq_57 := hx_gX gq_57 (gq_57.ne gq_50 (by decide))
                  have f_x_7 := (hs.o gx trivial rfl).2.trans f_x_7
                  have f_x_10 := (hs.o gx trivial rfl).2.trans f_x_10
                  have f_x_5 := (hs.o gx trivial rfl).2.trans f_x_5
                  have fx_25 := (hs.o gx trivial rfl).1.trans fx_25
                  have fx_28 := (hs.o gq_22 trivial rfl).1.trans fx_28
                  have fx_36 := (hs.o gx trivial rfl).1.trans fx_36
                  have pf_x_8 : ∀ j : Nat, (j : Int) < (h_59.2.1 x 8).toInt → h_59.2.2 qp j ≠ none := by
                    intro j hj; rw [(hs.o gx trivial rfl).1] at hj; rw [(hs.a gqp rfl j).2]; exact pf_x_8 j hj
                  have pf_x_11 : ∀ j : Nat, (j : Int) < (h_59.2.1 x 11).toInt → h_59.2.2 qc j ≠ none := by
                    intro j hj; rw [(hs.o gx trivial rfl).1] at hj; rw [(hs.a gqc rfl j).2]; exact pf_x_11 j hj
                  have pf_x_6 : ∀ j : Nat, (j : Int) < (h_59.2.1 x 6).toInt → h_59.2.2 qa j ≠ none := by
                    intro j hj; rw [(hs.o gx trivial rfl).1] at hj; rw [(hs.a gqa rfl j).2]; exact pf_x_6 j hj
                  have hM := hM.trX (hs.mono (by decide)) nq_q_50
                  have gx := gx.S hs
                  have gqp := gqp.S hs
                  have gqc := gqc.S hs
                  have gqa := gqa.S hs
                  have gq_6 := gq_6.S hs
                  have gq_22 := gq_22.S hs
                  have gq_57 := gq_57.S hs
                  have gq_50 : hx_g L_58 h_59 q_50 2 := gNq_50
                  have po_62 : h_59.2.1 q_50 0 = x_25 := po_62
                  have po_63 : h_59.2.1 q_50 10 = -1 := po_63
                  have po_64 : h_59.2.1 q_50 11 = -1 := po_64
                  have po_65 : h_59.2.1 q_50 9 = 0 := po_65
                  have po_66 : h_59.2.2 q_50 2 = some q_22 := po_66
                  refine lv_astore (lv' := [(9, .ref q_50), (8, .ref q_22), (7, .ref q_6), (0, .ref x), (1, .int i1), (2, .int i2), (3, .int i3), (4, .int i4), (5, .int i5), (6, .int i6)]) hx hb dX9_file_106 hl (by decide) rfl (fun ls hl => ?_)
                  refine lv_aload hx hb dX9_file_108 (lv_at hl 0 rfl) ?_
                  refine lv_iload_n hx hb dX9_file_110 rfl (lv_at hl 6 rfl) ?_
                  refine hx_puti hx hb hts hC_2 hown hW hT (hx_S.rf (M := [(2, 6)])) gq_50 tt_2 6 (by decide) rfl kw_741 ⟨rfl, rfl, rfl⟩ rfl (x := i3) (i32_r _) rfl rfl rfl (List.mem_singleton.mpr rfl) dX9_file_111 (fun H locs h_67 eh_67 hW hT hs => ?_)
                  have f_x_7 := (hs.o gx trivial rfl).2.trans f_x_7
                  have f_x_10 := (hs.o gx trivial rfl).2.trans f_x_10
                  have f_x_5 := (hs.o gx trivial rfl).2.trans f_x_5
                  have fx_25 := (hs.o gx trivial rfl).1.trans fx_25
                  have fx_28 := (hs.o gq_22 trivial rfl).1.trans fx_28
                  have fx_36 := (hs.o gx trivial rfl).1.trans fx_36
                  have po_62 := (hs.o gq_50 trivial rfl).1.trans po_62
                  have po_63 := (hs.o gq_50 trivial rfl).1.trans po_63
                  have po_64 := (hs.o gq_50 trivial rfl).1.trans po_64
                  have po_65 := (hs.o gq_50 trivial rfl).1.trans po_65
                  have po_66 := (hs.o gq_50 trivial rfl).2.trans po_66
                  have pf_x_8 : ∀ j : Nat, (j : Int) < (h_67.2.1 x 8).toInt → h_67.2.2 qp j ≠ none := by
                    intro j hj; rw [(hs.o gx trivial rfl).1] at hj; rw [(hs.a gqp rfl j).2]; exact pf_x_8 j hj
                  have pf_x_11 : ∀ j : Nat, (j : Int) < (h_67.2.1 x 11).toInt → h_67.2.2 qc j ≠ none := by
                    intro j hj; rw [(hs.o gx trivial rfl).1] at hj; rw [(hs.a gqc rfl j).2]; exact pf_x_11 j hj
                  have pf_x_6 : ∀ j : Nat, (j : Int) < (h_67.2.1 x 6).toInt → h_67.2.2 qa j ≠ none := by
                    intro j hj; rw [(hs.o gx trivial rfl).1] at hj; rw [(hs.a gqa rfl j).2]; exact pf_x_6 j hj
                  have hM := hM.tr (hs.mono (by decide))
                  have gx := gx.S hs
                  have gqp := gqp.S hs
                  have gqc := gqc.S hs
                  have gqa := gqa.S hs
                  have gq_6 := gq_6.S hs
                  have gq_22 := gq_22.S hs
                  have gq_57 := gq_57.S hs
                  have gq_50 := gq_50.S hs
                  have f_68 : h_67.2.1 q_50 6 = i3 := by rw [eh_67]; exact hx_pi_at _ _ _ _
                  refine lv_aload hx hb dX9_file_114 (lv_at hl 0 rfl) ?_
                  refine lv_iload hx hb dX9_file_116 (lv_at hl 7 rfl) ?_
                  refine hx_puti hx hb hts hC_2 hown hW hT (hx_S.rf (M := [(2, 7)])) gq_50 tt_2 7 (by decide) rfl kw_742 ⟨rfl, rfl, rfl⟩ rfl (x := i4) (i32_r _) rfl rfl rfl (List.mem_singleton.mpr rfl) dX9_file_118 (fun H locs h_69 eh_69 hW hT hs => ?_)
                  have f_x_7 := (hs.o gx trivial rfl).2.trans f_x_7
                  have f_x_10 := (hs.o gx trivial rfl).2.trans f_x_10
                  have f_x_5 := (hs.o gx trivial rfl).2.trans f_x_5
                  have fx_25 := (hs.o gx trivial rfl).1.trans fx_25
                  have fx_28 := (hs.o gq_22 trivial rfl).1.trans fx_28
                  have fx_36 := (hs.o gx trivial rfl).1.trans fx_36
                  have po_62 := (hs.o gq_50 trivial rfl).1.trans po_62
                  have po_63 := (hs.o gq_50 trivial rfl).1.trans po_63
                  have po_64 := (hs.o gq_50 trivial rfl).1.trans po_64
                  have po_65 := (hs.o gq_50 trivial rfl).1.trans po_65
                  have po_66 := (hs.o gq_50 trivial rfl).2.trans po_66
                  have f_68 := (hs.o gq_50 trivial rfl).1.trans f_68
                  have pf_x_8 : ∀ j : Nat, (j : Int) < (h_69.2.1 x 8).toInt → h_69.2.2 qp j ≠ none := by
                    intro j hj; rw [(hs.o gx trivial rfl).1] at hj; rw [(hs.a gqp rfl j).2]; exact pf_x_8 j hj
                  have pf_x_11 : ∀ j : Nat, (j : Int) < (h_69.2.1 x 11).toInt → h_69.2.2 qc j ≠ none := by
                    intro j hj; rw [(hs.o gx trivial rfl).1] at hj; rw [(hs.a gqc rfl j).2]; exact pf_x_11 j hj
                  have pf_x_6 : ∀ j : Nat, (j : Int) < (h_69.2.1 x 6).toInt → h_69.2.2 qa j ≠ none := by
                    intro j hj; rw [(hs.o gx trivial rfl).1] at hj; rw [(hs.a gqa rfl j).2]; exact pf_x_6 j hj
                  have hM := hM.tr (hs.mono (by decide))
                  have gx := gx.S hs
                  have gqp := gqp.S hs
                  have gqc := gqc.S hs
                  have gqa := gqa.S hs
                  have gq_6 := gq_6.S hs
                  have gq_22 := gq_22.S hs
                  have gq_57 := gq_57.S hs
                  have gq_50 := gq_50.S hs
                  have f_70 : h_69.2.1 q_50 7 = i4 := by rw [eh_69]; exact hx_pi_at _ _ _ _
                  refine lv_aload hx hb dX9_file_121 (lv_at hl 0 rfl) ?_
                  refine lv_aload_n hx hb dX9_file_123 rfl (lv_at hl 3 rfl) ?_
                  refine hk_geti hx hb hts hC_9 hown hW gx tt_9 2 (by decide) rfl kw_366 ⟨rfl, rfl, rfl⟩ fx_36 dX9_file_124 ?_
                  refine hx_puti hx hb hts hC_2 hown hW hT (hx_S.rf (M := [(2, 8)])) gq_50 tt_2 8 (by decide) rfl kw_743 ⟨rfl, rfl, rfl⟩ rfl (x := x_36) (i32_r _) rfl rfl rfl (List.mem_singleton.mpr rfl) dX9_file_127 (fun H locs h_71 eh_71 hW hT hs => ?_)
                  have f_x_7 := (hs.o gx trivial rfl).2.trans f_x_7
                  have f_x_10 := (hs.o gx trivial rfl).2.trans f_x_10
                  have f_x_5 := (hs.o gx trivial rfl).2.trans f_x_5
                  have fx_25 := (hs.o gx trivial rfl).1.trans fx_25
                  have fx_28 := (hs.o gq_22 trivial rfl).1.trans fx_28
                  have fx_36 := (hs.o gx trivial rfl).1.trans fx_36
                  have po_62 := (hs.o gq_50 trivial rfl).1.trans po_62
                  have po_63 := (hs.o gq_50 trivial rfl).1.trans po_63
                  have po_64 := (hs.o gq_50 trivial rfl).1.trans po_64
                  have po_65 := (hs.o gq_50 trivial rfl).1.trans po_65
                  have po_66 := (hs.o gq_50 trivial rfl).2.trans po_66
                  have f_68 := (hs.o gq_50 trivial rfl).1.trans f_68
                  have f_70 := (hs.o gq_50 trivial rfl).1.trans f_70
                  have pf_x_8 : ∀ j : Nat, (j : Int) < (h_71.2.1 x 8).toInt → h_71.2.2 qp j ≠ none := by
                    intro j hj; rw [(hs.o gx trivial rfl).1] at hj; rw [(hs.a gqp rfl j).2]; exact pf_x_8 j hj
                  have pf_x_11 : ∀ j : Nat, (j : Int) < (h_71.2.1 x 11).toInt → h_71.2.2 qc j ≠ none := by
                    intro j hj; rw [(hs.o gx trivial rfl).1] at hj; rw [(hs.a gqc rfl j).2]; exact pf_x_11 j hj
                  have pf_x_6 : ∀ j : Nat, (j : Int) < (h_71.2.1 x 6).toInt → h_71.2.2 qa j ≠ none := by
                    intro j hj; rw [(hs.o gx trivial rfl).1] at hj; rw [(hs.a gqa rfl j).2]; exact pf_x_6 j hj
                  have hM := hM.tr (hs.mono (by decide))
                  have gx := gx.S hs
                  have gqp := gqp.S hs
                  have gqc := gqc.S hs
                  have gqa := gqa.S hs
                  have gq_6 := gq_6.S hs
                  have gq_22 := gq_22.S hs
                  have gq_57 := gq_57.S hs
                  have gq_50 := gq_50.S hs
                  have f_72 : h_71.2.1 q_50 8 = x_36 := by rw [eh_71]; exact hx_pi_at _ _ _ _
                  refine lv_aload hx hb dX9_file_130 (lv_at hl 0 rfl) ?_
                  refine hx_getn hx hb hts hC_2 hown hW hT gq_50 tt_2 4 (by decide) rfl kw_738 ⟨rfl, rfl, rfl⟩ dX9_file_132 (fun q_73 fq_73 gq_73 => ?_)
                  refine lv_iconst (v := 2) hx hb dX9_file_135 (by decide) ?_
                  refine lv_iload hx hb dX9_file_136 (lv_at hl 8 rfl) ?_
                  have jn_146 : ∀ (xj_74 : Int32) (ls : Array Slot), 0 ≤ xj_74.toInt → xj_74.toInt ≤ 1 → lv_has ls 10 [(9, .ref q_50), (8, .ref q_22), (7, .ref q_6), (0, .ref x), (1, .int i1), (2, .int i2), (3, .int i3), (4, .int i4), (5, .int i5), (6, .int i6)] → W p l e ({ frames := 2, cells := 3, slots := 30, locals := 36 }) s m ([.ref x, .int i1, .int i2, .int i3, .int i4, .int i5, .int i6] : List Value).toArray below meth c H locs 3 30 (MQ below (va_Qi (fun (r : Int32) (u : List Nat × hx_h) => (True) ∧ hx_T T_tb u.1 u.2 ∧ hx_S T_tb [(2, 6), (2, 7), (2, 8), (9, 11), (20, 0), (21, 0), (45, 0), (118, 0), (118, 1), (118, 2), (118, 3), (118, 4), (118, 5), (118, 10), (118, 11), (118, 13), (118, 16), (118, 18)] L h u.1 u.2 ∧ (∀ j : Nat, (j : Int) < (u.2.2.1 x 11).toInt → u.2.2.2 qc j ≠ none)) (hx_E T_tb (P_ty dA) (dC, dI) vwCl (hx_A L sz)) (hx_A L sz)) ([.ref x, .int i1, .int i2, .int i3, .int i4, .int i5, .int i6] : List Value).toArray s 3 30 (hx_A L sz)) (F0 m 146 ls [.int xj_74, .int (2 : Int32), .ref q_73]) := by
                    intro xj_74 ls blxj_74 buxj_74 hl
                    refine hx_iast hx hb hW hT (hx_S.rf (M := [(20, 0)])) gq_73 tt_20 rfl (by decide) rfl (i32_r _) (List.mem_singleton.mpr rfl) dX9_file_146 (fun H locs h_75 eh_75 hW hT hs => ?_)
                    have f_x_7 := (hs.o gx trivial rfl).2.trans f_x_7
                    have f_x_10 := (hs.o gx trivial rfl).2.trans f_x_10
                    have f_x_5 := (hs.o gx trivial rfl).2.trans f_x_5
                    have fx_25 := (hs.o gx trivial rfl).1.trans fx_25
                    have fx_28 := (hs.o gq_22 trivial rfl).1.trans fx_28
                    have fx_36 := (hs.o gx trivial rfl).1.trans fx_36
                    have po_62 := (hs.o gq_50 trivial rfl).1.trans po_62
                    have po_63 := (hs.o gq_50 trivial rfl).1.trans po_63
                    have po_64 := (hs.o gq_50 trivial rfl).1.trans po_64
                    have po_65 := (hs.o gq_50 trivial rfl).1.trans po_65
                    have po_66 := (hs.o gq_50 trivial rfl).2.trans po_66
                    have f_68 := (hs.o gq_50 trivial rfl).1.trans f_68
                    have f_70 := (hs.o gq_50 trivial rfl).1.trans f_70
                    have f_72 := (hs.o gq_50 trivial rfl).1.trans f_72
                    have fq_73 := (hs.o gq_50 trivial rfl).2.trans fq_73
                    have pf_x_8 : ∀ j : Nat, (j : Int) < (h_75.2.1 x 8).toInt → h_75.2.2 qp j ≠ none := by
                      intro j hj; rw [(hs.o gx trivial rfl).1] at hj; rw [(hs.a gqp rfl j).2]; exact pf_x_8 j hj
                    have pf_x_11 : ∀ j : Nat, (j : Int) < (h_75.2.1 x 11).toInt → h_75.2.2 qc j ≠ none := by
                      intro j hj; rw [(hs.o gx trivial rfl).1] at hj; rw [(hs.a gqc rfl j).2]; exact pf_x_11 j hj
                    have pf_x_6 : ∀ j : Nat, (j : Int) < (h_75.2.1 x 6).toInt → h_75.2.2 qa j ≠ none := by
                      intro j hj; rw [(hs.o gx trivial rfl).1] at hj; rw [(hs.a gqa rfl j).2]; exact pf_x_6 j hj
                    have hM := hM.tr (hs.mono (by decide))
                    have gx := gx.S hs
                    have gqp := gqp.S hs
                    have gqc := gqc.S hs
                    have gqa := gqa.S hs
                    have gq_6 := gq_6.S hs
                    have gq_22 := gq_22.S hs
                    have gq_57 := gq_57.S hs
                    have gq_50 := gq_50.S hs
                    have gq_73 := gq_73.S hs
                    refine lv_aload hx hb dX9_file_147 (lv_at hl 0 rfl) ?_
                    refine hk_getr hx hb hts hC_2 hown hW gq_50 tt_2 4 (by decide) rfl kw_738 ⟨rfl, rfl, rfl⟩ fq_73 dX9_file_149 ?_
                    refine lv_iconst (v := 3) hx hb dX9_file_152 (by decide) ?_
                    refine lv_iload hx hb dX9_file_153 (lv_at hl 9 rfl) ?_
                    refine hx_iast hx hb hW hT (hx_S.rf (M := [(20, 0)])) gq_73 tt_20 rfl (by decide) rfl (i32_r _) (List.mem_singleton.mpr rfl) dX9_file_155 (fun H locs h_76 eh_76 hW hT hs => ?_)
                    have f_x_7 := (hs.o gx trivial rfl).2.trans f_x_7
                    have f_x_10 := (hs.o gx trivial rfl).2.trans f_x_10
                    have f_x_5 := (hs.o gx trivial rfl).2.trans f_x_5
                    have fx_25 := (hs.o gx trivial rfl).1.trans fx_25
                    have fx_28 := (hs.o gq_22 trivial rfl).1.trans fx_28
                    have fx_36 := (hs.o gx trivial rfl).1.trans fx_36
                    have po_62 := (hs.o gq_50 trivial rfl).1.trans po_62
                    have po_63 := (hs.o gq_50 trivial rfl).1.trans po_63
                    have po_64 := (hs.o gq_50 trivial rfl).1.trans po_64
                    have po_65 := (hs.o gq_50 trivial rfl).1.trans po_65
                    have po_66 := (hs.o gq_50 trivial rfl).2.trans po_66
                    have f_68 := (hs.o gq_50 trivial rfl).1.trans f_68
                    have f_70 := (hs.o gq_50 trivial rfl).1.trans f_70
                    have f_72 := (hs.o gq_50 trivial rfl).1.trans f_72
                    have fq_73 := (hs.o gq_50 trivial rfl).2.trans fq_73
                    have pf_x_8 : ∀ j : Nat, (j : Int) < (h_76.2.1 x 8).toInt → h_76.2.2 qp j ≠ none := by
                      intro j hj; rw [(hs.o gx trivial rfl).1] at hj; rw [(hs.a gqp rfl j).2]; exact pf_x_8 j hj
                    have pf_x_11 : ∀ j : Nat, (j : Int) < (h_76.2.1 x 11).toInt → h_76.2.2 qc j ≠ none := by
                      intro j hj; rw [(hs.o gx trivial rfl).1] at hj; rw [(hs.a gqc rfl j).2]; exact pf_x_11 j hj
                    have pf_x_6 : ∀ j : Nat, (j : Int) < (h_76.2.1 x 6).toInt → h_76.2.2 qa j ≠ none := by
                      intro j hj; rw [(hs.o gx trivial rfl).1] at hj; rw [(hs.a gqa rfl j).2]; exact pf_x_6 j hj
                    have hM := hM.tr (hs.mono (by decide))
                    have gx := gx.S hs
                    have gqp := gqp.S hs
                    have gqc := gqc.S hs
                    have gqa := gqa.S hs
                    have gq_6 := gq_6.S hs
                    have gq_22 := gq_22.S hs
                    have gq_57 := gq_57.S hs
                    have gq_50 := gq_50.S hs
                    have gq_73 := gq_73.S hs
                    refine lv_aload hx hb dX9_file_156 (lv_at hl 0 rfl) ?_
                    refine hk_getr hx hb hts hC_2 hown hW gq_50 tt_2 4 (by decide) rfl kw_738 ⟨rfl, rfl, rfl⟩ fq_73 dX9_file_158 ?_
                    refine lv_bipush (v := 7) hx hb dX9_file_161 (by decide) ?_
                    refine lv_iload_n hx hb dX9_file_163 rfl (lv_at hl 6 rfl) ?_
                    refine hx_iast hx hb hW hT (hx_S.rf (M := [(20, 0)])) gq_73 tt_20 rfl (by decide) rfl (i32_r _) (List.mem_singleton.mpr rfl) dX9_file_164 (fun H locs h_77 eh_77 hW hT hs => ?_)
                    have f_x_7 := (hs.o gx trivial rfl).2.trans f_x_7
                    have f_x_10 := (hs.o gx trivial rfl).2.trans f_x_10
                    have f_x_5 := (hs.o gx trivial rfl).2.trans f_x_5
                    have fx_25 := (hs.o gx trivial rfl).1.trans fx_25
                    have fx_28 := (hs.o gq_22 trivial rfl).1.trans fx_28
                    have fx_36 := (hs.o gx trivial rfl).1.trans fx_36
                    have po_62 := (hs.o gq_50 trivial rfl).1.trans po_62
                    have po_63 := (hs.o gq_50 trivial rfl).1.trans po_63
                    have po_64 := (hs.o gq_50 trivial rfl).1.trans po_64
                    have po_65 := (hs.o gq_50 trivial rfl).1.trans po_65
                    have po_66 := (hs.o gq_50 trivial rfl).2.trans po_66
                    have f_68 := (hs.o gq_50 trivial rfl).1.trans f_68
                    have f_70 := (hs.o gq_50 trivial rfl).1.trans f_70
                    have f_72 := (hs.o gq_50 trivial rfl).1.trans f_72
                    have fq_73 := (hs.o gq_50 trivial rfl).2.trans fq_73
                    have pf_x_8 : ∀ j : Nat, (j : Int) < (h_77.2.1 x 8).toInt → h_77.2.2 qp j ≠ none := by
                      intro j hj; rw [(hs.o gx trivial rfl).1] at hj; rw [(hs.a gqp rfl j).2]; exact pf_x_8 j hj
                    have pf_x_11 : ∀ j : Nat, (j : Int) < (h_77.2.1 x 11).toInt → h_77.2.2 qc j ≠ none := by
                      intro j hj; rw [(hs.o gx trivial rfl).1] at hj; rw [(hs.a gqc rfl j).2]; exact pf_x_11 j hj
                    have pf_x_6 : ∀ j : Nat, (j : Int) < (h_77.2.1 x 6).toInt → h_77.2.2 qa j ≠ none := by
                      intro j hj; rw [(hs.o gx trivial rfl).1] at hj; rw [(hs.a gqa rfl j).2]; exact pf_x_6 j hj
                    have hM := hM.tr (hs.mono (by decide))
                    have gx := gx.S hs
                    have gqp := gqp.S hs
                    have gqc := gqc.S hs
                    have gqa := gqa.S hs
                    have gq_6 := gq_6.S hs
                    have gq_22 := gq_22.S hs
                    have gq_57 := gq_57.S hs
                    have gq_50 := gq_50.S hs
                    have gq_73 := gq_73.S hs
                    refine lv_aload_n hx hb dX9_file_165 rfl (lv_at hl 3 rfl) ?_
                    refine hk_getr hx hb hts hC_9 hown hW gx tt_9 10 (by decide) rfl kw_374 ⟨rfl, rfl, rfl⟩ f_x_10 dX9_file_166 ?_
                    refine lv_aload_n hx hb dX9_file_169 rfl (lv_at hl 3 rfl) ?_
                    refine hk_geti hx hb hts hC_9 hown hW gx tt_9 11 (by decide) rfl kw_375 ⟨rfl, rfl, rfl⟩ fx_25 dX9_file_170 ?_
                    refine lv_aload hx hb dX9_file_173 (lv_at hl 0 rfl) ?_
                    have pf_x_11O := pf_x_11
                    refine hx_aast hx hb hW hT (hx_S.rf (M := [(45, 0)])) gqc tt_45 rfl gq_50 tt_2 rfl (by decide) ⟨by omega, by omega⟩ (List.mem_singleton.mpr rfl) dX9_file_175 (fun H locs h_78 eh_78 hW hT hs => ?_)
                    have f_x_7 := (hs.o gx trivial rfl).2.trans f_x_7
                    have f_x_10 := (hs.o gx trivial rfl).2.trans f_x_10
                    have f_x_5 := (hs.o gx trivial rfl).2.trans f_x_5
                    have fx_25 := (hs.o gx trivial rfl).1.trans fx_25
                    have fx_28 := (hs.o gq_22 trivial rfl).1.trans fx_28
                    have fx_36 := (hs.o gx trivial rfl).1.trans fx_36
                    have po_62 := (hs.o gq_50 trivial rfl).1.trans po_62
                    have po_63 := (hs.o gq_50 trivial rfl).1.trans po_63
                    have po_64 := (hs.o gq_50 trivial rfl).1.trans po_64
                    have po_65 := (hs.o gq_50 trivial rfl).1.trans po_65
                    have po_66 := (hs.o gq_50 trivial rfl).2.trans po_66
                    have f_68 := (hs.o gq_50 trivial rfl).1.trans f_68
                    have f_70 := (hs.o gq_50 trivial rfl).1.trans f_70
                    have f_72 := (hs.o gq_50 trivial rfl).1.trans f_72
                    have fq_73 := (hs.o gq_50 trivial rfl).2.trans fq_73
                    have pf_x_8 : ∀ j : Nat, (j : Int) < (h_78.2.1 x 8).toInt → h_78.2.2 qp j ≠ none := by
                      intro j hj; rw [(hs.o gx trivial rfl).1] at hj; rw [(hs.a gqp rfl j).2]; exact pf_x_8 j hj
                    have pf_x_6 : ∀ j : Nat, (j : Int) < (h_78.2.1 x 6).toInt → h_78.2.2 qa j ≠ none := by
                      intro j hj; rw [(hs.o gx trivial rfl).1] at hj; rw [(hs.a gqa rfl j).2]; exact pf_x_6 j hj
                    have hM := hM.tr (hs.mono (by decide))
                    have gx := gx.S hs
                    have gqp := gqp.S hs
                    have gqc := gqc.S hs
                    have gqa := gqa.S hs
                    have gq_6 := gq_6.S hs
                    have gq_22 := gq_22.S hs
                    have gq_57 := gq_57.S hs
                    have gq_50 := gq_50.S hs
                    have gq_73 := gq_73.S hs
                    have pf_x_11 : ∀ j : Nat, (j : Int) < (h_78.2.1 x 11).toInt → h_78.2.2 qc j ≠ none := hx_pfk pf_x_11O eh_78
                    have px_79 : ∀ j : Nat, (j : Int) < x_25.toInt + 1 → h_78.2.2 qc j ≠ none := hx_pfx pf_x_11O (by first | exact fx_25 | exact ((hs.o gx trivial rfl).1.symm.trans fx_25)) (by omega) eh_78
                    refine lv_aload_n hx hb dX9_file_176 rfl (lv_at hl 3 rfl) ?_
                    refine lv_dup hx hb dX9_file_177 rfl ?_
                    refine hk_geti hx hb hts hC_9 hown hW gx tt_9 11 (by decide) rfl kw_375 ⟨rfl, rfl, rfl⟩ fx_25 dX9_file_178 ?_
                    refine lv_iconst (v := 1) hx hb dX9_file_181 (by decide) ?_
                    refine lv_iadd hx hb dX9_file_182 ?_
                    have rg_80 := i32_r x_25
                    refine lv_topi (fun x_81 ex_81 => ?_)
                    have zx_81 : x_81.toInt = x_25.toInt + 1 := by rw [ex_81]; exact i32_add rfl (by decide) (by omega) (by omega)
                    refine hx_puti hx hb hts hC_9 hown hW hT (hx_S.rf (M := [(9, 11)])) gx tt_9 11 (by decide) rfl kw_375 ⟨rfl, rfl, rfl⟩ rfl (x := x_81) ⟨by omega, by omega⟩ rfl rfl rfl (List.mem_singleton.mpr rfl) dX9_file_183 (fun H locs h_82 eh_82 hW hT hs => ?_)
                    have px_79 : ∀ j : Nat, (j : Int) < x_25.toInt + 1 → h_82.2.2 qc j ≠ none := fun j hj => by rw [(hs.a gqc rfl j).2]; exact px_79 j hj
                    have f_x_7 := (hs.o gx trivial rfl).2.trans f_x_7
                    have f_x_10 := (hs.o gx trivial rfl).2.trans f_x_10
                    have f_x_5 := (hs.o gx trivial rfl).2.trans f_x_5
                    have fx_28 := (hs.o gq_22 trivial rfl).1.trans fx_28
                    have fx_36 := (hs.o gx trivial rfl).1.trans fx_36
                    have po_62 := (hs.o gq_50 trivial rfl).1.trans po_62
                    have po_63 := (hs.o gq_50 trivial rfl).1.trans po_63
                    have po_64 := (hs.o gq_50 trivial rfl).1.trans po_64
                    have po_65 := (hs.o gq_50 trivial rfl).1.trans po_65
                    have po_66 := (hs.o gq_50 trivial rfl).2.trans po_66
                    have f_68 := (hs.o gq_50 trivial rfl).1.trans f_68
                    have f_70 := (hs.o gq_50 trivial rfl).1.trans f_70
                    have f_72 := (hs.o gq_50 trivial rfl).1.trans f_72
                    have fq_73 := (hs.o gq_50 trivial rfl).2.trans fq_73
                    have pf_x_8 : ∀ j : Nat, (j : Int) < (h_82.2.1 x 8).toInt → h_82.2.2 qp j ≠ none := by
                      intro j hj; rw [(hs.o gx trivial rfl).1] at hj; rw [(hs.a gqp rfl j).2]; exact pf_x_8 j hj
                    have pf_x_6 : ∀ j : Nat, (j : Int) < (h_82.2.1 x 6).toInt → h_82.2.2 qa j ≠ none := by
                      intro j hj; rw [(hs.o gx trivial rfl).1] at hj; rw [(hs.a gqa rfl j).2]; exact pf_x_6 j hj
                    have hM := hM.tr (hs.mono (by decide))
                    have gx := gx.S hs
                    have gqp := gqp.S hs
                    have gqc := gqc.S hs
                    have gqa := gqa.S hs
                    have gq_6 := gq_6.S hs
                    have gq_22 := gq_22.S hs
                    have gq_57 := gq_57.S hs
                    have gq_50 := gq_50.S hs
                    have gq_73 := gq_73.S hs
                    have f_83 : h_82.2.1 x 11 = x_81 := by rw [eh_82]; exact hx_pi_at _ _ _ _
                    have pf_84 : ∀ j : Nat, (j : Int) < (h_82.2.1 x 11).toInt → h_82.2.2 qc j ≠ none := fun j hj => px_79 j (by rw [f_83] at hj; omega)
                    refine lv_aload hx hb dX9_file_186 (lv_at hl 0 rfl) ?_
                    refine hk_geti hx hb hts hC_2 hown hW gq_50 tt_2 0 (by decide) rfl kw_724 ⟨rfl, rfl, rfl⟩ po_62 dX9_file_188 ?_
                    refine W.widen (k := 3) (n := 30) (Nat.le_of_ble_eq_true rfl) (Nat.le_of_ble_eq_true rfl) ?_
                    exact hx_reti hx hb hr hlk hW ⟨trivial, hT, hM, pf_84⟩ dX9_file_191
                  refine hb_if_eq (zx := i5.toInt) (tgt := 145) hx hb rfl dX9_file_138 (by decide) (fun c_85 => ?_) (fun c_85 => ?_)
                  · skip
                    refine lv_iconst (v := 0) hx hb dX9_file_145 (by decide) ?_
                    exact jn_146 (0 : Int32) ls (by decide) (by decide) hl
                  · skip
                    refine lv_iconst (v := 1) hx hb dX9_file_141 (by decide) ?_
                    refine lv_goto (tgt := 146) hx hb dX9_file_142 (by decide) ?_
                    exact jn_146 (1 : Int32) ls (by decide) (by decide) hl
                · skip
                  refine lv_iconst (v := -1) hx hb dX9_file_81 (by decide) ?_
                  refine W.widen (k := 3) (n := 30) (Nat.le_of_ble_eq_true rfl) (Nat.le_of_ble_eq_true rfl) ?_
                  exact hx_reti hx hb hr hlk hW ⟨trivial, hT, hM, pf_x_11⟩ dX9_file_82

theorem dX8_putOnList_0 : decode cX8_putOnList 0 = .ok (.aload_n 0, 1) := by decide +kernel
theorem dX8_putOnList_1 : decode cX8_putOnList 1 = .ok (.getfield 24, 3) := by decide +kernel
theorem dX8_putOnList_4 : decode cX8_putOnList 4 = .ok (.bipush 8, 2) := by decide +kernel
theorem dX8_putOnList_6 : decode cX8_putOnList 6 = .ok (.if_icmp .lt 4, 3) := by decide +kernel
theorem dX8_putOnList_9 : decode cX8_putOnList 9 = .ok (.return_, 1) := by decide +kernel
theorem dX8_putOnList_10 : decode cX8_putOnList 10 = .ok (.aload_n 0, 1) := by decide +kernel
theorem dX8_putOnList_11 : decode cX8_putOnList 11 = .ok (.getfield 24, 3) := by decide +kernel
theorem dX8_putOnList_14 : decode cX8_putOnList 14 = .ok (.istore_n 2, 1) := by decide +kernel
theorem dX8_putOnList_15 : decode cX8_putOnList 15 = .ok (.iload_n 2, 1) := by decide +kernel
theorem dX8_putOnList_16 : decode cX8_putOnList 16 = .ok (.ifCond .le 41, 3) := by decide +kernel
theorem dX8_putOnList_19 : decode cX8_putOnList 19 = .ok (.aload_n 0, 1) := by decide +kernel
theorem dX8_putOnList_20 : decode cX8_putOnList 20 = .ok (.getfield 17, 3) := by decide +kernel
theorem dX8_putOnList_23 : decode cX8_putOnList 23 = .ok (.iload_n 2, 1) := by decide +kernel
theorem dX8_putOnList_24 : decode cX8_putOnList 24 = .ok (.iconst 1, 1) := by decide +kernel
theorem dX8_putOnList_25 : decode cX8_putOnList 25 = .ok (.isub, 1) := by decide +kernel
theorem dX8_putOnList_26 : decode cX8_putOnList 26 = .ok (.aaload, 1) := by decide +kernel
theorem dX8_putOnList_27 : decode cX8_putOnList 27 = .ok (.getfield 28, 3) := by decide +kernel
theorem dX8_putOnList_30 : decode cX8_putOnList 30 = .ok (.aload_n 1, 1) := by decide +kernel
theorem dX8_putOnList_31 : decode cX8_putOnList 31 = .ok (.getfield 28, 3) := by decide +kernel
theorem dX8_putOnList_34 : decode cX8_putOnList 34 = .ok (.if_icmp .le 23, 3) := by decide +kernel
theorem dX8_putOnList_37 : decode cX8_putOnList 37 = .ok (.aload_n 0, 1) := by decide +kernel
theorem dX8_putOnList_38 : decode cX8_putOnList 38 = .ok (.getfield 17, 3) := by decide +kernel
theorem dX8_putOnList_41 : decode cX8_putOnList 41 = .ok (.iload_n 2, 1) := by decide +kernel
theorem dX8_putOnList_42 : decode cX8_putOnList 42 = .ok (.aload_n 0, 1) := by decide +kernel
theorem dX8_putOnList_43 : decode cX8_putOnList 43 = .ok (.getfield 17, 3) := by decide +kernel
theorem dX8_putOnList_46 : decode cX8_putOnList 46 = .ok (.iload_n 2, 1) := by decide +kernel
theorem dX8_putOnList_47 : decode cX8_putOnList 47 = .ok (.iconst 1, 1) := by decide +kernel
theorem dX8_putOnList_48 : decode cX8_putOnList 48 = .ok (.isub, 1) := by decide +kernel
theorem dX8_putOnList_49 : decode cX8_putOnList 49 = .ok (.aaload, 1) := by decide +kernel
theorem dX8_putOnList_50 : decode cX8_putOnList 50 = .ok (.aastore, 1) := by decide +kernel
theorem dX8_putOnList_51 : decode cX8_putOnList 51 = .ok (.iinc 2 (-1), 3) := by decide +kernel
theorem dX8_putOnList_54 : decode cX8_putOnList 54 = .ok (.goto (-39), 3) := by decide +kernel
theorem dX8_putOnList_57 : decode cX8_putOnList 57 = .ok (.aload_n 0, 1) := by decide +kernel
theorem dX8_putOnList_58 : decode cX8_putOnList 58 = .ok (.getfield 17, 3) := by decide +kernel
theorem dX8_putOnList_61 : decode cX8_putOnList 61 = .ok (.iload_n 2, 1) := by decide +kernel
theorem dX8_putOnList_62 : decode cX8_putOnList 62 = .ok (.aload_n 1, 1) := by decide +kernel
theorem dX8_putOnList_63 : decode cX8_putOnList 63 = .ok (.aastore, 1) := by decide +kernel
theorem dX8_putOnList_64 : decode cX8_putOnList 64 = .ok (.aload_n 0, 1) := by decide +kernel
theorem dX8_putOnList_65 : decode cX8_putOnList 65 = .ok (.dup, 1) := by decide +kernel
theorem dX8_putOnList_66 : decode cX8_putOnList 66 = .ok (.getfield 24, 3) := by decide +kernel
theorem dX8_putOnList_69 : decode cX8_putOnList 69 = .ok (.iconst 1, 1) := by decide +kernel
theorem dX8_putOnList_70 : decode cX8_putOnList 70 = .ok (.iadd, 1) := by decide +kernel
theorem dX8_putOnList_71 : decode cX8_putOnList 71 = .ok (.putfield 24, 3) := by decide +kernel
theorem dX8_putOnList_74 : decode cX8_putOnList 74 = .ok (.return_, 1) := by decide +kernel
set_option maxHeartbeats 4000000 in
set_option maxRecDepth 100000 in
theorem t_X8_putOnList (l : Launch) (dC : Nat → ClassId) (dI : Nat → Nat → Nat) (dA : Nat → ClassId) (L : List Nat) (h : hx_h) (sz : Nat) (x : Nat) (v1 : Nat) (hT : hx_T T_tb L h) (gx : hx_g L h x 8) (gv1 : hx_g L h v1 2) (ql : Nat) (gql : hx_g L h ql 40) (f_x_3 : h.2.2 x 3 = some ql) (pf_x_0 : ∀ j : Nat, (j : Int) < (h.2.1 x 0).toInt → h.2.2 ql j ≠ none) : Met l yX8_putOnList (Cond.code yX8_putOnList cX8_putOnList 3 none :: hx_all) ({ frames := 0, cells := 0, slots := 0, locals := 0 }) (va_Pc [.ref x, .ref v1] (hx_B T_tb (P_ty dA) (dC, dI) vwCl L h sz)) (va_Qv (fun (u : List Nat × hx_h) => hx_T T_tb u.1 u.2 ∧ hx_S T_tb [(8, 0), (40, 0)] L h u.1 u.2 ∧ (∀ j : Nat, (j : Int) < (u.2.2.1 x 0).toInt → u.2.2.2 ql j ≠ none)) (hx_E T_tb (P_ty dA) (dC, dI) vwCl (hx_A L sz)) (hx_A L sz)) 0 0 (hx_A L sz) := by
  refine hx_met (lv := [(0, .ref x), (1, .ref v1)]) (by decide +kernel) rfl (Nat.le_of_ble_eq_true rfl) rfl ?_
  intro p e s m below meth c hx hb hml hr hlk hts0 hown hin hsz hW ls hl
  have hts : ∀ w ∈ hx_all, w.before _ s = true := fun w hw => hts0 w (List.mem_cons_of_mem _ hw)
  have hown : s.vm.findClass "SmallCourt$Walk" = some m.cls := hown
  have hM : hx_S T_tb [(8, 0), (40, 0)] L h L h := hx_S.rf
  refine lv_aload_n hx hb dX8_putOnList_0 rfl (lv_at hl 0 rfl) ?_
  refine hx_geti hx hb hts hC_8 hown hW hT gx tt_8 0 (by decide) rfl kw_345 ⟨rfl, rfl, rfl⟩ dX8_putOnList_1 (fun x_1 ex_1 lx_1 ux_1 => ?_)
  have fx_1 := ex_1.symm
  refine lv_bipush (v := 8) hx hb dX8_putOnList_4 (by decide) ?_
  refine hb_icmp_lt (zx := x_1.toInt) (zy := 8) (tgt := 10) hx hb rfl (by decide) dX8_putOnList_6 (by decide) (fun c_2 => ?_) (fun c_2 => ?_)
  · skip
    refine lv_aload_n hx hb dX8_putOnList_10 rfl (lv_at hl 0 rfl) ?_
    refine hk_geti hx hb hts hC_8 hown hW gx tt_8 0 (by decide) rfl kw_345 ⟨rfl, rfl, rfl⟩ fx_1 dX8_putOnList_11 ?_
    refine lv_istore_n (lv' := [(2, .int x_1), (0, .ref x), (1, .ref v1)]) hx hb dX8_putOnList_14 rfl hl (by decide) rfl (fun ls hl => ?_)
    have loop15 : ∀ (n15 : Nat) (iv15_2 : Int32) (H : Heap) (locs : List Loc) (hL1 : List Nat) (hl1 : hx_h), 0 ≤ iv15_2.toInt → iv15_2.toInt ≤ 8 → (iv15_2.toInt <= x_1.toInt) → ∀ (ls : Array Slot), iv15_2.toInt < (n15 : Int) → hx_W T_tb (P_ty dA) (dC, dI) vwCl (hx_A L sz) s.heap hL1 hl1 s H locs → hx_T T_tb hL1 hl1 → hx_S T_tb [(8, 0), (40, 0)] L h hL1 hl1 → hl1.2.2 x 3 = some ql → hl1.2.1 x 0 = x_1 → hx_g hL1 hl1 x 8 → hx_g hL1 hl1 v1 2 → hx_g hL1 hl1 ql 40 → (∀ j : Nat, (j : Int) < x_1.toInt + 1 → (j : Int) ≠ iv15_2.toInt → hl1.2.2 ql j ≠ none) → lv_has ls 3 [(2, .int iv15_2), (0, .ref x), (1, .ref v1)] → W p l e ({ frames := 0, cells := 0, slots := 0, locals := 0 }) s m ([.ref x, .ref v1] : List Value).toArray below meth c H locs 0 0 (MQ below (va_Qv (fun (u : List Nat × hx_h) => hx_T T_tb u.1 u.2 ∧ hx_S T_tb [(8, 0), (40, 0)] L h u.1 u.2 ∧ (∀ j : Nat, (j : Int) < (u.2.2.1 x 0).toInt → u.2.2.2 ql j ≠ none)) (hx_E T_tb (P_ty dA) (dC, dI) vwCl (hx_A L sz)) (hx_A L sz)) ([.ref x, .ref v1] : List Value).toArray s 0 0 (hx_A L sz)) (F0 m 15 ls []) := by
      intro n15
      induction n15 with
      | zero => intro iv15_2 H locs hL1 hl1 bliv15_2 buiv15_2 vi15_0 ls hn15; exfalso; omega
      | succ n15 ih15 =>
        intro iv15_2 H locs hL1 hl1 bliv15_2 buiv15_2 vi15_0 ls hn15 hW hT hM f_x_3 fx_1 gx gv1 gql hole15 hl
        refine lv_iload_n hx hb dX8_putOnList_15 rfl (lv_at hl 0 rfl) ?_
        refine hb_if_le (zx := iv15_2.toInt) (tgt := 57) hx hb rfl dX8_putOnList_16 (by decide) (fun c_3 => ?_) (fun c_3 => ?_)
        · skip
          refine lv_aload_n hx hb dX8_putOnList_57 rfl (lv_at hl 1 rfl) ?_
          refine hk_getr hx hb hts hC_8 hown hW gx tt_8 3 (by decide) rfl kw_351 ⟨rfl, rfl, rfl⟩ f_x_3 dX8_putOnList_58 ?_
          refine lv_iload_n hx hb dX8_putOnList_61 rfl (lv_at hl 0 rfl) ?_
          refine lv_aload_n hx hb dX8_putOnList_62 rfl (lv_at hl 2 rfl) ?_
          refine hx_aast hx hb hW hT (hx_S.rf (M := [(40, 0)])) gql tt_40 rfl gv1 tt_2 rfl (by decide) ⟨by omega, by omega⟩ (List.mem_singleton.mpr rfl) dX8_putOnList_63 (fun H locs h_4 eh_4 hW hT hs => ?_)
          have f_x_3 := (hs.o gx trivial rfl).2.trans f_x_3
          have fx_1 := (hs.o gx trivial rfl).1.trans fx_1
          have hM := hM.tr (hs.mono (by decide))
          have gx := gx.S hs
          have gv1 := gv1.S hs
          have gql := gql.S hs
          have px_5 : ∀ j : Nat, (j : Int) < x_1.toInt + 1 → h_4.2.2 ql j ≠ none := hx_hole hole15 (by omega) eh_4
          refine lv_aload_n hx hb dX8_putOnList_64 rfl (lv_at hl 1 rfl) ?_
          refine lv_dup hx hb dX8_putOnList_65 rfl ?_
          refine hk_geti hx hb hts hC_8 hown hW gx tt_8 0 (by decide) rfl kw_345 ⟨rfl, rfl, rfl⟩ fx_1 dX8_putOnList_66 ?_
          refine lv_iconst (v := 1) hx hb dX8_putOnList_69 (by decide) ?_
          refine lv_iadd hx hb dX8_putOnList_70 ?_
          have rg_6 := i32_r x_1
          refine lv_topi (fun x_7 ex_7 => ?_)
          have zx_7 : x_7.toInt = x_1.toInt + 1 := by rw [ex_7]; exact i32_add rfl (by decide) (by omega) (by omega)
          refine hx_puti hx hb hts hC_8 hown hW hT (hx_S.rf (M := [(8, 0)])) gx tt_8 0 (by decide) rfl kw_345 ⟨rfl, rfl, rfl⟩ rfl (x := x_7) ⟨by omega, by omega⟩ rfl rfl rfl (List.mem_singleton.mpr rfl) dX8_putOnList_71 (fun H locs h_8 eh_8 hW hT hs => ?_)
          have px_5 : ∀ j : Nat, (j : Int) < x_1.toInt + 1 → h_8.2.2 ql j ≠ none := fun j hj => by rw [(hs.a gql rfl j).2]; exact px_5 j hj
          have f_x_3 := (hs.o gx trivial rfl).2.trans f_x_3
          have hM := hM.tr (hs.mono (by decide))
          have gx := gx.S hs
          have gv1 := gv1.S hs
          have gql := gql.S hs
          have f_9 : h_8.2.1 x 0 = x_7 := by rw [eh_8]; exact hx_pi_at _ _ _ _
          have pf_10 : ∀ j : Nat, (j : Int) < (h_8.2.1 x 0).toInt → h_8.2.2 ql j ≠ none := fun j hj => px_5 j (by rw [f_9] at hj; omega)
          exact hx_retv hx hb hr hlk hW ⟨hT, hM, pf_10⟩ dX8_putOnList_74
        · skip
          refine lv_aload_n hx hb dX8_putOnList_19 rfl (lv_at hl 1 rfl) ?_
          refine hk_getr hx hb hts hC_8 hown hW gx tt_8 3 (by decide) rfl kw_351 ⟨rfl, rfl, rfl⟩ f_x_3 dX8_putOnList_20 ?_
          refine lv_iload_n hx hb dX8_putOnList_23 rfl (lv_at hl 0 rfl) ?_
          refine lv_iconst (v := 1) hx hb dX8_putOnList_24 (by decide) ?_
          refine lv_isub hx hb dX8_putOnList_25 ?_
          have rg_11 := i32_r iv15_2
          refine lv_topi (fun x_12 ex_12 => ?_)
          have zx_12 : x_12.toInt = iv15_2.toInt - 1 := by rw [ex_12]; exact i32_sub rfl (by decide) (by omega) (by omega)
          refine hx_aaldN hx hb hW hT gql tt_40 (t1 := 2) rfl ⟨by omega, by omega⟩ (hole15 _ (by rw [hx_cl (by omega)]; omega) (by rw [hx_cl (by omega)]; omega)) dX8_putOnList_26 (fun q_13 fq_13 gq_13 => ?_)
          refine hx_geti hx hb hts hC_2 hown hW hT gq_13 tt_2 0 (by decide) rfl kw_723 ⟨rfl, rfl, rfl⟩ dX8_putOnList_27 (fun x_14 ex_14 lx_14 ux_14 => ?_)
          have fx_14 := ex_14.symm
          refine lv_aload_n hx hb dX8_putOnList_30 rfl (lv_at hl 2 rfl) ?_
          refine hx_geti hx hb hts hC_2 hown hW hT gv1 tt_2 0 (by decide) rfl kw_723 ⟨rfl, rfl, rfl⟩ dX8_putOnList_31 (fun x_15 ex_15 lx_15 ux_15 => ?_)
          have fx_15 := ex_15.symm
          refine hb_icmp_le (zx := x_14.toInt) (zy := x_15.toInt) (tgt := 57) hx hb rfl rfl dX8_putOnList_34 (by decide) (fun c_16 => ?_) (fun c_16 => ?_)
          · skip
            refine lv_aload_n hx hb dX8_putOnList_57 rfl (lv_at hl 1 rfl) ?_
            refine hk_getr hx hb hts hC_8 hown hW gx tt_8 3 (by decide) rfl kw_351 ⟨rfl, rfl, rfl⟩ f_x_3 dX8_putOnList_58 ?_
            refine lv_iload_n hx hb dX8_putOnList_61 rfl (lv_at hl 0 rfl) ?_
            refine lv_aload_n hx hb dX8_putOnList_62 rfl (lv_at hl 2 rfl) ?_
            refine hx_aast hx hb hW hT (hx_S.rf (M := [(40, 0)])) gql tt_40 rfl gv1 tt_2 rfl (by decide) ⟨by omega, by omega⟩ (List.mem_singleton.mpr rfl) dX8_putOnList_63 (fun H locs h_17 eh_17 hW hT hs => ?_)
            have f_x_3 := (hs.o gx trivial rfl).2.trans f_x_3
            have fx_1 := (hs.o gx trivial rfl).1.trans fx_1
            have fx_14 := (hs.o gq_13 trivial rfl).1.trans fx_14
            have fx_15 := (hs.o gv1 trivial rfl).1.trans fx_15
            have hM := hM.tr (hs.mono (by decide))
            have gx := gx.S hs
            have gv1 := gv1.S hs
            have gql := gql.S hs
            have gq_13 := gq_13.S hs
            have px_18 : ∀ j : Nat, (j : Int) < x_1.toInt + 1 → h_17.2.2 ql j ≠ none := hx_hole hole15 (by omega) eh_17
            refine lv_aload_n hx hb dX8_putOnList_64 rfl (lv_at hl 1 rfl) ?_
            refine lv_dup hx hb dX8_putOnList_65 rfl ?_
            refine hk_geti hx hb hts hC_8 hown hW gx tt_8 0 (by decide) rfl kw_345 ⟨rfl, rfl, rfl⟩ fx_1 dX8_putOnList_66 ?_
            refine lv_iconst (v := 1) hx hb dX8_putOnList_69 (by decide) ?_
            refine lv_iadd hx hb dX8_putOnList_70 ?_
            have rg_19 := i32_r x_1
            refine lv_topi (fun x_20 ex_20 => ?_)
            have zx_20 : x_20.toInt = x_1.toInt + 1 := by rw [ex_20]; exact i32_add rfl (by decide) (by omega) (by omega)
            refine hx_puti hx hb hts hC_8 hown hW hT (hx_S.rf (M := [(8, 0)])) gx tt_8 0 (by decide) rfl kw_345 ⟨rfl, rfl, rfl⟩ rfl (x := x_20) ⟨by omega, by omega⟩ rfl rfl rfl (List.mem_singleton.mpr rfl) dX8_putOnList_71 (fun H locs h_21 eh_21 hW hT hs => ?_)
            have px_18 : ∀ j : Nat, (j : Int) < x_1.toInt + 1 → h_21.2.2 ql j ≠ none := fun j hj => by rw [(hs.a gql rfl j).2]; exact px_18 j hj
            have f_x_3 := (hs.o gx trivial rfl).2.trans f_x_3
            have fx_14 := (hs.o gq_13 trivial rfl).1.trans fx_14
            have fx_15 := (hs.o gv1 trivial rfl).1.trans fx_15
            have hM := hM.tr (hs.mono (by decide))
            have gx := gx.S hs
            have gv1 := gv1.S hs
            have gql := gql.S hs
            have gq_13 := gq_13.S hs
            have f_22 : h_21.2.1 x 0 = x_20 := by rw [eh_21]; exact hx_pi_at _ _ _ _
            have pf_23 : ∀ j : Nat, (j : Int) < (h_21.2.1 x 0).toInt → h_21.2.2 ql j ≠ none := fun j hj => px_18 j (by rw [f_22] at hj; omega)
            exact hx_retv hx hb hr hlk hW ⟨hT, hM, pf_23⟩ dX8_putOnList_74
          · skip
            refine lv_aload_n hx hb dX8_putOnList_37 rfl (lv_at hl 1 rfl) ?_
            refine hk_getr hx hb hts hC_8 hown hW gx tt_8 3 (by decide) rfl kw_351 ⟨rfl, rfl, rfl⟩ f_x_3 dX8_putOnList_38 ?_
            refine lv_iload_n hx hb dX8_putOnList_41 rfl (lv_at hl 0 rfl) ?_
            refine lv_aload_n hx hb dX8_putOnList_42 rfl (lv_at hl 1 rfl) ?_
            refine hk_getr hx hb hts hC_8 hown hW gx tt_8 3 (by decide) rfl kw_351 ⟨rfl, rfl, rfl⟩ f_x_3 dX8_putOnList_43 ?_
            refine lv_iload_n hx hb dX8_putOnList_46 rfl (lv_at hl 0 rfl) ?_
            refine lv_iconst (v := 1) hx hb dX8_putOnList_47 (by decide) ?_
            refine lv_isub hx hb dX8_putOnList_48 ?_
            refine lv_topi (fun x_24 ex_24 => ?_)
            have zx_24 : x_24.toInt = iv15_2.toInt - 1 := by rw [ex_24]; exact i32_sub rfl (by decide) (by omega) (by omega)
            refine hx_aaldN hx hb hW hT gql tt_40 (t1 := 2) rfl ⟨by omega, by omega⟩ (hole15 _ (by rw [hx_cl (by omega)]; omega) (by rw [hx_cl (by omega)]; omega)) dX8_putOnList_49 (fun q_25 fq_25 gq_25 => ?_)
            refine hx_aast hx hb hW hT (hx_S.rf (M := [(40, 0)])) gql tt_40 rfl gq_25 tt_2 rfl (by decide) ⟨by omega, by omega⟩ (List.mem_singleton.mpr rfl) dX8_putOnList_50 (fun H locs h_26 eh_26 hW hT hs => ?_)
            have f_x_3 := (hs.o gx trivial rfl).2.trans f_x_3
            have fx_1 := (hs.o gx trivial rfl).1.trans fx_1
            have fx_14 := (hs.o gq_13 trivial rfl).1.trans fx_14
            have fx_15 := (hs.o gv1 trivial rfl).1.trans fx_15
            have hM := hM.tr (hs.mono (by decide))
            have gx := gx.S hs
            have gv1 := gv1.S hs
            have gql := gql.S hs
            have gq_13 := gq_13.S hs
            have gq_25 := gq_25.S hs
            have px_27 : ∀ j : Nat, (j : Int) < x_1.toInt + 1 → h_26.2.2 ql j ≠ none := hx_hole hole15 (by omega) eh_26
            obtain ⟨x_28, ex_28⟩ : ∃ y : Int32, y = iv15_2 + Int32.ofInt (-1) := ⟨_, rfl⟩
            have zx_28 : x_28.toInt = iv15_2.toInt + (-1) := by rw [ex_28]; exact i32_add rfl (by decide) (by omega) (by omega)
            refine lv_iinc (v := x_28) (lv' := [(2, .int x_28), (0, .ref x), (1, .ref v1)]) hx hb dX8_putOnList_51 hl (k := 0) rfl ex_28.symm (by decide) rfl (fun ls hl => ?_)
            refine lv_goto (tgt := 15) hx hb dX8_putOnList_54 (by decide) ?_
            exact ih15 x_28 _ _ hL1 h_26 (by omega) (by omega) (by omega) ls (by omega) hW hT hM f_x_3 fx_1 gx gv1 gql (fun j hj _ => px_27 j hj) (lv_sub hl [0, 1, 2] rfl)
    exact loop15 9 x_1 _ _ L h (by omega) (by omega) (by omega) ls (by omega) hW hT hM f_x_3 fx_1 gx gv1 gql (fun j hj hn => pf_x_0 j (by rw [fx_1]; omega)) hl
  · skip
    exact hx_retv hx hb hr hlk hW ⟨hT, hM, pf_x_0⟩ dX8_putOnList_9

theorem dX9_list_0 : decode cX9_list 0 = .ok (.aload_n 0, 1) := by decide +kernel
theorem dX9_list_1 : decode cX9_list 1 = .ok (.iload_n 1, 1) := by decide +kernel
theorem dX9_list_2 : decode cX9_list 2 = .ok (.invokevirtual 200, 3) := by decide +kernel
theorem dX9_list_5 : decode cX9_list 5 = .ok (.astore_n 2, 1) := by decide +kernel
theorem dX9_list_6 : decode cX9_list 6 = .ok (.aload_n 2, 1) := by decide +kernel
theorem dX9_list_7 : decode cX9_list 7 = .ok (.ifnull 34, 3) := by decide +kernel
theorem dX9_list_10 : decode cX9_list 10 = .ok (.aload_n 2, 1) := by decide +kernel
theorem dX9_list_11 : decode cX9_list 11 = .ok (.getfield 204, 3) := by decide +kernel
theorem dX9_list_14 : decode cX9_list 14 = .ok (.iconst (-1), 1) := by decide +kernel
theorem dX9_list_15 : decode cX9_list 15 = .ok (.if_icmp .ne 26, 3) := by decide +kernel
theorem dX9_list_18 : decode cX9_list 18 = .ok (.aload_n 0, 1) := by decide +kernel
theorem dX9_list_19 : decode cX9_list 19 = .ok (.getfield 86, 3) := by decide +kernel
theorem dX9_list_22 : decode cX9_list 22 = .ok (.aload_n 2, 1) := by decide +kernel
theorem dX9_list_23 : decode cX9_list 23 = .ok (.invokevirtual 378, 3) := by decide +kernel
theorem dX9_list_26 : decode cX9_list 26 = .ok (.ifCond .ne 15, 3) := by decide +kernel
theorem dX9_list_29 : decode cX9_list 29 = .ok (.aload_n 0, 1) := by decide +kernel
theorem dX9_list_30 : decode cX9_list 30 = .ok (.getfield 86, 3) := by decide +kernel
theorem dX9_list_33 : decode cX9_list 33 = .ok (.getfield 381, 3) := by decide +kernel
theorem dX9_list_36 : decode cX9_list 36 = .ok (.bipush 8, 2) := by decide +kernel
theorem dX9_list_38 : decode cX9_list 38 = .ok (.if_icmp .lt 5, 3) := by decide +kernel
theorem dX9_list_41 : decode cX9_list 41 = .ok (.iconst (-1), 1) := by decide +kernel
theorem dX9_list_42 : decode cX9_list 42 = .ok (.ireturn, 1) := by decide +kernel
theorem dX9_list_43 : decode cX9_list 43 = .ok (.aload_n 0, 1) := by decide +kernel
theorem dX9_list_44 : decode cX9_list 44 = .ok (.getfield 86, 3) := by decide +kernel
theorem dX9_list_47 : decode cX9_list 47 = .ok (.aload_n 2, 1) := by decide +kernel
theorem dX9_list_48 : decode cX9_list 48 = .ok (.invokevirtual 384, 3) := by decide +kernel
theorem dX9_list_51 : decode cX9_list 51 = .ok (.aload_n 0, 1) := by decide +kernel
theorem dX9_list_52 : decode cX9_list 52 = .ok (.getfield 86, 3) := by decide +kernel
theorem dX9_list_55 : decode cX9_list 55 = .ok (.getfield 381, 3) := by decide +kernel
theorem dX9_list_58 : decode cX9_list 58 = .ok (.ireturn, 1) := by decide +kernel
set_option maxHeartbeats 4000000 in
set_option maxRecDepth 100000 in
theorem t_X9_list (l : Launch) (dC : Nat → ClassId) (dI : Nat → Nat → Nat) (dA : Nat → ClassId) (L : List Nat) (h : hx_h) (sz : Nat) (x : Nat) (i1 : Int32) (hT : hx_T T_tb L h) (gx : hx_g L h x 9) (qc : Nat) (gqc : hx_g L h qc 45) (f_x_10 : h.2.2 x 10 = some qc) (qw : Nat) (gqw : hx_g L h qw 8) (f_x_19 : h.2.2 x 19 = some qw) (ql : Nat) (gql : hx_g L h ql 40) (f_qw_3 : h.2.2 qw 3 = some ql) (pf_x_11 : ∀ j : Nat, (j : Int) < (h.2.1 x 11).toInt → h.2.2 qc j ≠ none) (pf_qw_0 : ∀ j : Nat, (j : Int) < (h.2.1 qw 0).toInt → h.2.2 ql j ≠ none) : Met l yX9_list (Cond.code yX9_list cX9_list 3 (some .int) :: hx_all) ({ frames := 1, cells := 0, slots := 0, locals := 22 }) (va_Pc [.ref x, .int i1] (hx_B T_tb (P_ty dA) (dC, dI) vwCl L h sz)) (va_Qi (fun (r : Int32) (u : List Nat × hx_h) => (True) ∧ hx_T T_tb u.1 u.2 ∧ hx_S T_tb [(8, 0), (40, 0)] L h u.1 u.2 ∧ (∀ j : Nat, (j : Int) < (u.2.2.1 qw 0).toInt → u.2.2.2 ql j ≠ none)) (hx_E T_tb (P_ty dA) (dC, dI) vwCl (hx_A L sz)) (hx_A L sz)) 0 0 (hx_A L sz) := by
  refine hx_met (lv := [(0, .ref x), (1, .int i1)]) (by decide +kernel) rfl (Nat.le_of_ble_eq_true rfl) rfl ?_
  intro p e s m below meth c hx hb hml hr hlk hts0 hown hin hsz hW ls hl
  have hts : ∀ w ∈ hx_all, w.before _ s = true := fun w hw => hts0 w (List.mem_cons_of_mem _ hw)
  have hown : s.vm.findClass "SmallCourt" = some m.cls := hown
  have hM : hx_S T_tb [(8, 0), (40, 0)] L h L h := hx_S.rf
  refine lv_aload_n hx hb dX9_list_0 rfl (lv_at hl 0 rfl) ?_
  refine lv_iload_n hx hb dX9_list_1 rfl (lv_at hl 1 rfl) ?_
  refine hx_goq (hx_runV (As := [.int i1]) (rest := []) ⟨hx, hb, hml, hown, hts⟩ hW gx tt_9 (T := TX9) (N := 20) rfl (t_X9_claimAt l dC dI dA L h s.heap.size x i1 hT gx qc gqc f_x_10 pf_x_11) (cwV 1 hts (hx_gV kw_810 kw_807 kw_809 kw_25 kw_94) rfl rfl rfl (by decide +kernel) ⟨Nat.le_of_ble_eq_true rfl, Nat.le_of_ble_eq_true rfl⟩) rfl hl.1 rfl (Nat.le_of_ble_eq_true rfl) dX9_list_2 ⟨Nat.le_of_ble_eq_true rfl, Nat.le_of_ble_eq_true rfl⟩) hW (fun r_3 L_1 h_2 H locs p_4 hW => ?_)
  obtain ⟨hr_5, hT, hs⟩ := p_4
  have hT : hx_T T_tb L_1 h_2 := hT
  have hs : hx_S T_tb [] L h L_1 h_2 := hs
  have f_x_10 := (hs.o gx trivial rfl).2.trans f_x_10
  have f_x_19 := (hs.o gx trivial rfl).2.trans f_x_19
  have f_qw_3 := (hs.o gqw trivial rfl).2.trans f_qw_3
  have pf_x_11 : ∀ j : Nat, (j : Int) < (h_2.2.1 x 11).toInt → h_2.2.2 qc j ≠ none := by
    intro j hj; rw [(hs.o gx trivial rfl).1] at hj; rw [(hs.a gqc rfl j).2]; exact pf_x_11 j hj
  have pf_qw_0 : ∀ j : Nat, (j : Int) < (h_2.2.1 qw 0).toInt → h_2.2.2 ql j ≠ none := by
    intro j hj; rw [(hs.o gqw trivial rfl).1] at hj; rw [(hs.a gql rfl j).2]; exact pf_qw_0 j hj
  have hM := hM.tr (hs.mono (by decide))
  have gx := gx.S hs
  have gqc := gqc.S hs
  have gqw := gqw.S hs
  have gql := gql.S hs
  have hr_5 : ∀ q, r_3 = some q → hx_g L_1 h_2 q 2 := hr_5
  rcases r_3 with _ | q_6
  · skip
    refine lv_astore_nN (lv' := [(2, .null), (0, .ref x), (1, .int i1)]) hx hb dX9_list_5 rfl hl (by decide) rfl (fun ls hl => ?_)
    refine lv_aload_nN hx hb dX9_list_6 rfl (lv_at hl 0 rfl) ?_
    refine lv_ifnullN (tgt := 41) hx hb dX9_list_7 (by decide) ?_
    refine lv_iconst (v := -1) hx hb dX9_list_41 (by decide) ?_
    exact hx_reti hx hb hr hlk hW ⟨trivial, hT, hM, pf_qw_0⟩ dX9_list_42
  · have gq_6 := hr_5 _ rfl
    refine lv_astore_n (lv' := [(2, .ref q_6), (0, .ref x), (1, .int i1)]) hx hb dX9_list_5 rfl hl (by decide) rfl (fun ls hl => ?_)
    refine lv_aload_n hx hb dX9_list_6 rfl (lv_at hl 0 rfl) ?_
    refine lv_ifnull hx hb dX9_list_7 ?_
    refine lv_aload_n hx hb dX9_list_10 rfl (lv_at hl 0 rfl) ?_
    refine hx_geti hx hb hts hC_2 hown hW hT gq_6 tt_2 10 (by decide) rfl kw_747 ⟨rfl, rfl, rfl⟩ dX9_list_11 (fun x_7 ex_7 lx_7 ux_7 => ?_)
    have fx_7 := ex_7.symm
    refine lv_iconst (v := -1) hx hb dX9_list_14 (by decide) ?_
    refine hb_icmp_ne (zx := x_7.toInt) (zy := (-1)) (tgt := 41) hx hb rfl (by decide) dX9_list_15 (by decide) (fun c_8 => ?_) (fun c_8 => ?_)
    · skip
      refine lv_iconst (v := -1) hx hb dX9_list_41 (by decide) ?_
      exact hx_reti hx hb hr hlk hW ⟨trivial, hT, hM, pf_qw_0⟩ dX9_list_42
    · skip
      refine lv_aload_n hx hb dX9_list_18 rfl (lv_at hl 1 rfl) ?_
      refine hk_getr hx hb hts hC_9 hown hW gx tt_9 19 (by decide) rfl kw_383 ⟨rfl, rfl, rfl⟩ f_x_19 dX9_list_19 ?_
      refine lv_aload_n hx hb dX9_list_22 rfl (lv_at hl 0 rfl) ?_
      refine hx_goi (hx_runV (As := [.ref q_6]) (rest := []) ⟨hx, hb, hml, hown, hts⟩ hW gqw tt_8 (T := TX8) (N := 5) rfl (t_X8_isListed l dC dI dA L_1 h_2 H.size qw q_6 hT gqw gq_6 ql gql f_qw_3 pf_qw_0) (cwV 1 hts (hx_gV kw_1043 kw_1040 kw_1041 kw_1042 kw_102) rfl rfl rfl (by decide +kernel) ⟨Nat.le_of_ble_eq_true rfl, Nat.le_of_ble_eq_true rfl⟩) rfl hl.1 rfl (Nat.le_of_ble_eq_true rfl) dX9_list_23 ⟨Nat.le_of_ble_eq_true rfl, Nat.le_of_ble_eq_true rfl⟩) hW (fun r_11 L_9 h_10 H locs p_12 hW => ?_)
      obtain ⟨hr_13, hT, hs⟩ := p_12
      have hT : hx_T T_tb L_9 h_10 := hT
      have hs : hx_S T_tb [] L_1 h_2 L_9 h_10 := hs
      have f_x_10 := (hs.o gx trivial rfl).2.trans f_x_10
      have f_x_19 := (hs.o gx trivial rfl).2.trans f_x_19
      have f_qw_3 := (hs.o gqw trivial rfl).2.trans f_qw_3
      have fx_7 := (hs.o gq_6 trivial rfl).1.trans fx_7
      have pf_x_11 : ∀ j : Nat, (j : Int) < (h_10.2.1 x 11).toInt → h_10.2.2 qc j ≠ none := by
        intro j hj; rw [(hs.o gx trivial rfl).1] at hj; rw [(hs.a gqc rfl j).2]; exact pf_x_11 j hj
      have pf_qw_0 : ∀ j : Nat, (j : Int) < (h_10.2.1 qw 0).toInt → h_10.2.2 ql j ≠ none := by
        intro j hj; rw [(hs.o gqw trivial rfl).1] at hj; rw [(hs.a gql rfl j).2]; exact pf_qw_0 j hj
      have hM := hM.tr (hs.mono (by decide))
      have gx := gx.S hs
      have gqc := gqc.S hs
      have gqw := gqw.S hs
      have gql := gql.S hs
      have gq_6 := gq_6.S hs
      refine hb_if_ne (zx := r_11.toInt) (tgt := 41) hx hb rfl dX9_list_26 (by decide) (fun c_14 => ?_) (fun c_14 => ?_)
      · skip
        refine lv_iconst (v := -1) hx hb dX9_list_41 (by decide) ?_
        exact hx_reti hx hb hr hlk hW ⟨trivial, hT, hM, pf_qw_0⟩ dX9_list_42
      · skip
        refine lv_aload_n hx hb dX9_list_29 rfl (lv_at hl 1 rfl) ?_
        refine hk_getr hx hb hts hC_9 hown hW gx tt_9 19 (by decide) rfl kw_383 ⟨rfl, rfl, rfl⟩ f_x_19 dX9_list_30 ?_
        refine hx_geti hx hb hts hC_8 hown hW hT gqw tt_8 0 (by decide) rfl kw_346 ⟨rfl, rfl, rfl⟩ dX9_list_33 (fun x_15 ex_15 lx_15 ux_15 => ?_)
        have fx_15 := ex_15.symm
        refine lv_bipush (v := 8) hx hb dX9_list_36 (by decide) ?_
        refine hb_icmp_lt (zx := x_15.toInt) (zy := 8) (tgt := 43) hx hb rfl (by decide) dX9_list_38 (by decide) (fun c_16 => ?_) (fun c_16 => ?_)
        · skip
          refine lv_aload_n hx hb dX9_list_43 rfl (lv_at hl 1 rfl) ?_
          refine hk_getr hx hb hts hC_9 hown hW gx tt_9 19 (by decide) rfl kw_383 ⟨rfl, rfl, rfl⟩ f_x_19 dX9_list_44 ?_
          refine lv_aload_n hx hb dX9_list_47 rfl (lv_at hl 0 rfl) ?_
          refine hx_gov (hx_runV (As := [.ref q_6]) (rest := []) ⟨hx, hb, hml, hown, hts⟩ hW gqw tt_8 (T := TX8) (N := 5) rfl (t_X8_putOnList l dC dI dA L_9 h_10 H.size qw q_6 hT gqw gq_6 ql gql f_qw_3 pf_qw_0) (cwV 1 hts (hx_gV kw_1047 kw_1044 kw_1045 kw_1046 kw_102) rfl rfl rfl (by decide +kernel) ⟨Nat.le_of_ble_eq_true rfl, Nat.le_of_ble_eq_true rfl⟩) rfl hl.1 rfl (Nat.le_of_ble_eq_true rfl) dX9_list_48 ⟨Nat.le_of_ble_eq_true rfl, Nat.le_of_ble_eq_true rfl⟩) hW (fun L_17 h_18 H locs p_20 hW => ?_)
          obtain ⟨hT, hs, pf_22⟩ := p_20
          have hT : hx_T T_tb L_17 h_18 := hT
          have hs : hx_S T_tb [(8, 0), (40, 0)] L_9 h_10 L_17 h_18 := hs
          have f_x_10 := (hs.o gx trivial rfl).2.trans f_x_10
          have f_x_19 := (hs.o gx trivial rfl).2.trans f_x_19
          have f_qw_3 := (hs.o gqw trivial rfl).2.trans f_qw_3
          have fx_7 := (hs.o gq_6 trivial rfl).1.trans fx_7
          have pf_x_11 : ∀ j : Nat, (j : Int) < (h_18.2.1 x 11).toInt → h_18.2.2 qc j ≠ none := by
            intro j hj; rw [(hs.o gx trivial rfl).1] at hj; rw [(hs.a gqc rfl j).2]; exact pf_x_11 j hj
          have hM := hM.tr (hs.mono (by decide))
          have gx := gx.S hs
          have gqc := gqc.S hs
          have gqw := gqw.S hs
          have gql := gql.S hs
          have gq_6 := gq_6.S hs
          have pf_22 : ∀ j : Nat, (j : Int) < (h_18.2.1 qw 0).toInt → h_18.2.2 ql j ≠ none := pf_22
          refine lv_aload_n hx hb dX9_list_51 rfl (lv_at hl 1 rfl) ?_
          refine hk_getr hx hb hts hC_9 hown hW gx tt_9 19 (by decide) rfl kw_383 ⟨rfl, rfl, rfl⟩ f_x_19 dX9_list_52 ?_
          refine hx_geti hx hb hts hC_8 hown hW hT gqw tt_8 0 (by decide) rfl kw_346 ⟨rfl, rfl, rfl⟩ dX9_list_55 (fun x_23 ex_23 lx_23 ux_23 => ?_)
          have fx_23 := ex_23.symm
          exact hx_reti hx hb hr hlk hW ⟨trivial, hT, hM, pf_22⟩ dX9_list_58
        · skip
          refine lv_iconst (v := -1) hx hb dX9_list_41 (by decide) ?_
          exact hx_reti hx hb hr hlk hW ⟨trivial, hT, hM, pf_qw_0⟩ dX9_list_42

theorem dX9_plan_0 : decode cX9_plan 0 = .ok (.aload_n 0, 1) := by decide +kernel
theorem dX9_plan_1 : decode cX9_plan 1 = .ok (.iload_n 1, 1) := by decide +kernel
theorem dX9_plan_2 : decode cX9_plan 2 = .ok (.invokevirtual 144, 3) := by decide +kernel
theorem dX9_plan_5 : decode cX9_plan 5 = .ok (.astore_n 3, 1) := by decide +kernel
theorem dX9_plan_6 : decode cX9_plan 6 = .ok (.aload_n 3, 1) := by decide +kernel
theorem dX9_plan_7 : decode cX9_plan 7 = .ok (.ifnull 13, 3) := by decide +kernel
theorem dX9_plan_10 : decode cX9_plan 10 = .ok (.iload_n 2, 1) := by decide +kernel
theorem dX9_plan_11 : decode cX9_plan 11 = .ok (.iconst 1, 1) := by decide +kernel
theorem dX9_plan_12 : decode cX9_plan 12 = .ok (.bipush 99, 2) := by decide +kernel
theorem dX9_plan_14 : decode cX9_plan 14 = .ok (.invokestatic 128, 3) := by decide +kernel
theorem dX9_plan_17 : decode cX9_plan 17 = .ok (.ifCond .ne 5, 3) := by decide +kernel
theorem dX9_plan_20 : decode cX9_plan 20 = .ok (.iconst (-1), 1) := by decide +kernel
theorem dX9_plan_21 : decode cX9_plan 21 = .ok (.ireturn, 1) := by decide +kernel
theorem dX9_plan_22 : decode cX9_plan 22 = .ok (.aload_n 0, 1) := by decide +kernel
theorem dX9_plan_23 : decode cX9_plan 23 = .ok (.getfield 72, 3) := by decide +kernel
theorem dX9_plan_26 : decode cX9_plan 26 = .ok (.iload_n 2, 1) := by decide +kernel
theorem dX9_plan_27 : decode cX9_plan 27 = .ok (.aload_n 3, 1) := by decide +kernel
theorem dX9_plan_28 : decode cX9_plan 28 = .ok (.aload_n 0, 1) := by decide +kernel
theorem dX9_plan_29 : decode cX9_plan 29 = .ok (.aload_n 0, 1) := by decide +kernel
theorem dX9_plan_30 : decode cX9_plan 30 = .ok (.getfield 94, 3) := by decide +kernel
theorem dX9_plan_33 : decode cX9_plan 33 = .ok (.invokevirtual 115, 3) := by decide +kernel
theorem dX9_plan_36 : decode cX9_plan 36 = .ok (.invokevirtual 264, 3) := by decide +kernel
theorem dX9_plan_39 : decode cX9_plan 39 = .ok (.invokevirtual 323, 3) := by decide +kernel
theorem dX9_plan_42 : decode cX9_plan 42 = .ok (.iconst 0, 1) := by decide +kernel
theorem dX9_plan_43 : decode cX9_plan 43 = .ok (.istore 4, 2) := by decide +kernel
theorem dX9_plan_45 : decode cX9_plan 45 = .ok (.iload 4, 2) := by decide +kernel
theorem dX9_plan_47 : decode cX9_plan 47 = .ok (.aload_n 0, 1) := by decide +kernel
theorem dX9_plan_48 : decode cX9_plan 48 = .ok (.getfield 181, 3) := by decide +kernel
theorem dX9_plan_51 : decode cX9_plan 51 = .ok (.if_icmp .ge 82, 3) := by decide +kernel
theorem dX9_plan_54 : decode cX9_plan 54 = .ok (.aload_n 0, 1) := by decide +kernel
theorem dX9_plan_55 : decode cX9_plan 55 = .ok (.getfield 48, 3) := by decide +kernel
theorem dX9_plan_58 : decode cX9_plan 58 = .ok (.iload 4, 2) := by decide +kernel
theorem dX9_plan_60 : decode cX9_plan 60 = .ok (.aaload, 1) := by decide +kernel
theorem dX9_plan_61 : decode cX9_plan 61 = .ok (.astore 5, 2) := by decide +kernel
theorem dX9_plan_63 : decode cX9_plan 63 = .ok (.aload 5, 2) := by decide +kernel
theorem dX9_plan_65 : decode cX9_plan 65 = .ok (.getfield 212, 3) := by decide +kernel
theorem dX9_plan_68 : decode cX9_plan 68 = .ok (.aload_n 3, 1) := by decide +kernel
theorem dX9_plan_69 : decode cX9_plan 69 = .ok (.if_acmp .ne 58, 3) := by decide +kernel
theorem dX9_plan_72 : decode cX9_plan 72 = .ok (.aload 5, 2) := by decide +kernel
theorem dX9_plan_74 : decode cX9_plan 74 = .ok (.aload_n 0, 1) := by decide +kernel
theorem dX9_plan_75 : decode cX9_plan 75 = .ok (.getfield 58, 3) := by decide +kernel
theorem dX9_plan_78 : decode cX9_plan 78 = .ok (.aload_n 0, 1) := by decide +kernel
theorem dX9_plan_79 : decode cX9_plan 79 = .ok (.getfield 94, 3) := by decide +kernel
theorem dX9_plan_82 : decode cX9_plan 82 = .ok (.invokevirtual 274, 3) := by decide +kernel
theorem dX9_plan_85 : decode cX9_plan 85 = .ok (.ifCond .eq 42, 3) := by decide +kernel
theorem dX9_plan_88 : decode cX9_plan 88 = .ok (.aload_n 0, 1) := by decide +kernel
theorem dX9_plan_89 : decode cX9_plan 89 = .ok (.getfield 72, 3) := by decide +kernel
theorem dX9_plan_92 : decode cX9_plan 92 = .ok (.getfield 326, 3) := by decide +kernel
theorem dX9_plan_95 : decode cX9_plan 95 = .ok (.iconst 4, 1) := by decide +kernel
theorem dX9_plan_96 : decode cX9_plan 96 = .ok (.if_icmp .lt 5, 3) := by decide +kernel
theorem dX9_plan_99 : decode cX9_plan 99 = .ok (.iconst (-1), 1) := by decide +kernel
theorem dX9_plan_100 : decode cX9_plan 100 = .ok (.ireturn, 1) := by decide +kernel
theorem dX9_plan_101 : decode cX9_plan 101 = .ok (.aload_n 0, 1) := by decide +kernel
theorem dX9_plan_102 : decode cX9_plan 102 = .ok (.getfield 72, 3) := by decide +kernel
theorem dX9_plan_105 : decode cX9_plan 105 = .ok (.aload 5, 2) := by decide +kernel
theorem dX9_plan_107 : decode cX9_plan 107 = .ok (.aload 5, 2) := by decide +kernel
theorem dX9_plan_109 : decode cX9_plan 109 = .ok (.aload_n 0, 1) := by decide +kernel
theorem dX9_plan_110 : decode cX9_plan 110 = .ok (.getfield 58, 3) := by decide +kernel
theorem dX9_plan_113 : decode cX9_plan 113 = .ok (.aload_n 0, 1) := by decide +kernel
theorem dX9_plan_114 : decode cX9_plan 114 = .ok (.getfield 94, 3) := by decide +kernel
theorem dX9_plan_117 : decode cX9_plan 117 = .ok (.aload_n 0, 1) := by decide +kernel
theorem dX9_plan_118 : decode cX9_plan 118 = .ok (.getfield 94, 3) := by decide +kernel
theorem dX9_plan_121 : decode cX9_plan 121 = .ok (.invokevirtual 302, 3) := by decide +kernel
theorem dX9_plan_124 : decode cX9_plan 124 = .ok (.invokevirtual 329, 3) := by decide +kernel
theorem dX9_plan_127 : decode cX9_plan 127 = .ok (.iinc 4 1, 3) := by decide +kernel
theorem dX9_plan_130 : decode cX9_plan 130 = .ok (.goto (-85), 3) := by decide +kernel
theorem dX9_plan_133 : decode cX9_plan 133 = .ok (.aload_n 0, 1) := by decide +kernel
theorem dX9_plan_134 : decode cX9_plan 134 = .ok (.getfield 72, 3) := by decide +kernel
theorem dX9_plan_137 : decode cX9_plan 137 = .ok (.invokevirtual 333, 3) := by decide +kernel
theorem dX9_plan_140 : decode cX9_plan 140 = .ok (.ireturn, 1) := by decide +kernel
set_option maxHeartbeats 4000000 in
set_option maxRecDepth 100000 in
theorem t_X9_plan (l : Launch) (dC : Nat → ClassId) (dI : Nat → Nat → Nat) (dA : Nat → ClassId) (L : List Nat) (h : hx_h) (sz : Nat) (b0 : hx_z) (x : Nat) (i1 : Int32) (i2 : Int32) (hT : hx_T T_tb L h) (gx : hx_g L h x 9) (qp : Nat) (gqp : hx_g L h qp 44) (f_x_7 : h.2.2 x 7 = some qp) (qc : Nat) (gqc : hx_g L h qc 45) (f_x_10 : h.2.2 x 10 = some qc) (qa : Nat) (gqa : hx_g L h qa 43) (f_x_5 : h.2.2 x 5 = some qa) (pf_x_8 : ∀ j : Nat, (j : Int) < (h.2.1 x 8).toInt → h.2.2 qp j ≠ none) (pf_x_11 : ∀ j : Nat, (j : Int) < (h.2.1 x 11).toInt → h.2.2 qc j ≠ none) (pf_x_6 : ∀ j : Nat, (j : Int) < (h.2.1 x 6).toInt → h.2.2 qa j ≠ none) : Met l yX9_plan (Cond.code yX9_plan cX9_plan 6 (some .int) :: hx_all) ({ frames := 8, cells := 0, slots := 0, locals := 223 }) (va_Pc [.ref x, .int i1, .int i2] (hx_BX T_tb (P_ty dA) (dC, dI) vwCl L h sz b0)) (va_Qi (fun (r : Int32) (u : List Nat × hx_h) => (True) ∧ hx_T T_tb u.1 u.2 ∧ hx_S T_tb [(5, 0), (5, 1), (5, 9), (5, 10), (5, 11), (5, 12), (27, 0), (28, 0), (29, 0), (30, 0), (31, 0), (32, 0), (33, 0)] L h u.1 u.2) (hx_E T_tb (P_ty dA) (dC, dI) vwCl (hx_A L sz)) (hx_A L sz)) 0 0 (hx_A L sz) := by
  refine hx_metX (lv := [(0, .ref x), (1, .int i1), (2, .int i2)]) (by decide +kernel) rfl (Nat.le_of_ble_eq_true rfl) rfl ?_
  intro p e s m below meth c hx hb hml hr hlk hts0 hown hin hsz hW hZ ls hl
  have hts : ∀ w ∈ hx_all, w.before _ s = true := fun w hw => hts0 w (List.mem_cons_of_mem _ hw)
  have hown : s.vm.findClass "SmallCourt" = some m.cls := hown
  have hM : hx_S T_tb [(5, 0), (5, 1), (5, 9), (5, 10), (5, 11), (5, 12), (27, 0), (28, 0), (29, 0), (30, 0), (31, 0), (32, 0), (33, 0)] L h L h := hx_S.rf
  refine lv_aload_n hx hb dX9_plan_0 rfl (lv_at hl 0 rfl) ?_
  refine lv_iload_n hx hb dX9_plan_1 rfl (lv_at hl 1 rfl) ?_
  refine hx_goq (hx_runV (As := [.int i1]) (rest := []) ⟨hx, hb, hml, hown, hts⟩ hW gx tt_9 (T := TX9) (N := 20) rfl (t_X9_personAt l dC dI dA L h s.heap.size x i1 hT gx qp gqp f_x_7 pf_x_8) (cwV 1 hts (hx_gV kw_659 kw_656 kw_658 kw_20 kw_94) rfl rfl rfl (by decide +kernel) ⟨Nat.le_of_ble_eq_true rfl, Nat.le_of_ble_eq_true rfl⟩) rfl hl.1 rfl (Nat.le_of_ble_eq_true rfl) dX9_plan_2 ⟨Nat.le_of_ble_eq_true rfl, Nat.le_of_ble_eq_true rfl⟩) hW (fun r_3 L_1 h_2 H locs p_4 hW => ?_)
  obtain ⟨hr_5, hT, hs⟩ := p_4
  have hT : hx_T T_tb L_1 h_2 := hT
  have hs : hx_S T_tb [] L h L_1 h_2 := hs
  have f_x_7 := (hs.o gx trivial rfl).2.trans f_x_7
  have f_x_10 := (hs.o gx trivial rfl).2.trans f_x_10
  have f_x_5 := (hs.o gx trivial rfl).2.trans f_x_5
  have pf_x_8 : ∀ j : Nat, (j : Int) < (h_2.2.1 x 8).toInt → h_2.2.2 qp j ≠ none := by
    intro j hj; rw [(hs.o gx trivial rfl).1] at hj; rw [(hs.a gqp rfl j).2]; exact pf_x_8 j hj
  have pf_x_11 : ∀ j : Nat, (j : Int) < (h_2.2.1 x 11).toInt → h_2.2.2 qc j ≠ none := by
    intro j hj; rw [(hs.o gx trivial rfl).1] at hj; rw [(hs.a gqc rfl j).2]; exact pf_x_11 j hj
  have pf_x_6 : ∀ j : Nat, (j : Int) < (h_2.2.1 x 6).toInt → h_2.2.2 qa j ≠ none := by
    intro j hj; rw [(hs.o gx trivial rfl).1] at hj; rw [(hs.a gqa rfl j).2]; exact pf_x_6 j hj
  have hM := hM.tr (hs.mono (by decide))
  have gx := gx.S hs
  have gqp := gqp.S hs
  have gqc := gqc.S hs
  have gqa := gqa.S hs
  have hr_5 : ∀ q, r_3 = some q → hx_g L_1 h_2 q 4 := hr_5
  rcases r_3 with _ | q_6
  · skip
    refine lv_astore_nN (lv' := [(3, .null), (0, .ref x), (1, .int i1), (2, .int i2)]) hx hb dX9_plan_5 rfl hl (by decide) rfl (fun ls hl => ?_)
    refine lv_aload_nN hx hb dX9_plan_6 rfl (lv_at hl 0 rfl) ?_
    refine lv_ifnullN (tgt := 20) hx hb dX9_plan_7 (by decide) ?_
    refine lv_iconst (v := -1) hx hb dX9_plan_20 (by decide) ?_
    exact hx_reti hx hb hr hlk hW ⟨trivial, hT, hM⟩ dX9_plan_21
  · have gq_6 := hr_5 _ rfl
    refine lv_astore_n (lv' := [(3, .ref q_6), (0, .ref x), (1, .int i1), (2, .int i2)]) hx hb dX9_plan_5 rfl hl (by decide) rfl (fun ls hl => ?_)
    refine lv_aload_n hx hb dX9_plan_6 rfl (lv_at hl 0 rfl) ?_
    refine lv_ifnull hx hb dX9_plan_7 ?_
    refine lv_iload_n hx hb dX9_plan_10 rfl (lv_at hl 3 rfl) ?_
    refine lv_iconst (v := 1) hx hb dX9_plan_11 (by decide) ?_
    refine lv_bipush (v := 99) hx hb dX9_plan_12 (by decide) ?_
    have zc_99 : (99 : Int32).toInt = 99 := by decide
    have zc_1 : (1 : Int32).toInt = 1 := by decide
    refine hx_goi (hx_runS (As := [.int i2, .int (1 : Int32), .int (99 : Int32)]) (rest := []) ⟨hx, hb, hml, hown, hts⟩ hW (t_X9_isWithin_2 l dC dI dA L_1 h_2 H.size i2 (1 : Int32) (99 : Int32) hT) (va_cwS 3 hts (hx_gS kw_434 kw_432 kw_433 kw_94) rfl rfl rfl (by decide +kernel) ⟨Nat.le_of_ble_eq_true rfl, Nat.le_of_ble_eq_true rfl⟩) rfl hl.1 rfl (Nat.le_of_ble_eq_true rfl) dX9_plan_14 ⟨Nat.le_of_ble_eq_true rfl, Nat.le_of_ble_eq_true rfl⟩) hW (fun r_9 L_7 h_8 H locs p_10 hW => ?_)
    obtain ⟨hr_11, hT, hs⟩ := p_10
    have hT : hx_T T_tb L_7 h_8 := hT
    have hs : hx_S T_tb [] L_1 h_2 L_7 h_8 := hs
    have f_x_7 := (hs.o gx trivial rfl).2.trans f_x_7
    have f_x_10 := (hs.o gx trivial rfl).2.trans f_x_10
    have f_x_5 := (hs.o gx trivial rfl).2.trans f_x_5
    have pf_x_8 : ∀ j : Nat, (j : Int) < (h_8.2.1 x 8).toInt → h_8.2.2 qp j ≠ none := by
      intro j hj; rw [(hs.o gx trivial rfl).1] at hj; rw [(hs.a gqp rfl j).2]; exact pf_x_8 j hj
    have pf_x_11 : ∀ j : Nat, (j : Int) < (h_8.2.1 x 11).toInt → h_8.2.2 qc j ≠ none := by
      intro j hj; rw [(hs.o gx trivial rfl).1] at hj; rw [(hs.a gqc rfl j).2]; exact pf_x_11 j hj
    have pf_x_6 : ∀ j : Nat, (j : Int) < (h_8.2.1 x 6).toInt → h_8.2.2 qa j ≠ none := by
      intro j hj; rw [(hs.o gx trivial rfl).1] at hj; rw [(hs.a gqa rfl j).2]; exact pf_x_6 j hj
    have hM := hM.tr (hs.mono (by decide))
    have gx := gx.S hs
    have gqp := gqp.S hs
    have gqc := gqc.S hs
    have gqa := gqa.S hs
    have gq_6 := gq_6.S hs
    refine hb_if_ne (zx := r_9.toInt) (tgt := 22) hx hb rfl dX9_plan_17 (by decide) (fun c_12 => ?_) (fun c_12 => ?_)
    · skip
      refine lv_aload_n hx hb dX9_plan_22 rfl (lv_at hl 1 rfl) ?_
      refine hx_getn hx hb hts hC_9 hown hW hT gx tt_9 17 (by decide) rfl kw_381 ⟨rfl, rfl, rfl⟩ dX9_plan_23 (fun q_13 fq_13 gq_13 => ?_)
      refine lv_iload_n hx hb dX9_plan_26 rfl (lv_at hl 3 rfl) ?_
      refine lv_aload_n hx hb dX9_plan_27 rfl (lv_at hl 0 rfl) ?_
      refine lv_aload_n hx hb dX9_plan_28 rfl (lv_at hl 1 rfl) ?_
      refine lv_aload_n hx hb dX9_plan_29 rfl (lv_at hl 1 rfl) ?_
      refine hx_geti hx hb hts hC_9 hown hW hT gx tt_9 2 (by decide) rfl kw_366 ⟨rfl, rfl, rfl⟩ dX9_plan_30 (fun x_14 ex_14 lx_14 ux_14 => ?_)
      have fx_14 := ex_14.symm
      refine hx_goq (hx_runV (As := [.int x_14]) (rest := [.ref q_6, .int i2, .ref q_13]) ⟨hx, hb, hml, hown, hts⟩ hW gx tt_9 (T := TX9) (N := 20) rfl (t_X9_inForce l dC dI dA L_7 h_8 H.size x x_14 hT gx qa gqa f_x_5 pf_x_6) (cwV 1 hts (hx_gV kw_597 kw_594 kw_596 kw_19 kw_94) rfl rfl rfl (by decide +kernel) ⟨Nat.le_of_ble_eq_true rfl, Nat.le_of_ble_eq_true rfl⟩) rfl hl.1 rfl (Nat.le_of_ble_eq_true rfl) dX9_plan_33 ⟨Nat.le_of_ble_eq_true rfl, Nat.le_of_ble_eq_true rfl⟩) hW (fun r_17 L_15 h_16 H locs p_18 hW => ?_)
      obtain ⟨hr_19, hT, hs⟩ := p_18
      have hT : hx_T T_tb L_15 h_16 := hT
      have hs : hx_S T_tb [] L_7 h_8 L_15 h_16 := hs
      have f_x_7 := (hs.o gx trivial rfl).2.trans f_x_7
      have f_x_10 := (hs.o gx trivial rfl).2.trans f_x_10
      have f_x_5 := (hs.o gx trivial rfl).2.trans f_x_5
      have fq_13 := (hs.o gx trivial rfl).2.trans fq_13
      have fx_14 := (hs.o gx trivial rfl).1.trans fx_14
      have pf_x_8 : ∀ j : Nat, (j : Int) < (h_16.2.1 x 8).toInt → h_16.2.2 qp j ≠ none := by
        intro j hj; rw [(hs.o gx trivial rfl).1] at hj; rw [(hs.a gqp rfl j).2]; exact pf_x_8 j hj
      have pf_x_11 : ∀ j : Nat, (j : Int) < (h_16.2.1 x 11).toInt → h_16.2.2 qc j ≠ none := by
        intro j hj; rw [(hs.o gx trivial rfl).1] at hj; rw [(hs.a gqc rfl j).2]; exact pf_x_11 j hj
      have pf_x_6 : ∀ j : Nat, (j : Int) < (h_16.2.1 x 6).toInt → h_16.2.2 qa j ≠ none := by
        intro j hj; rw [(hs.o gx trivial rfl).1] at hj; rw [(hs.a gqa rfl j).2]; exact pf_x_6 j hj
      have hM := hM.tr (hs.mono (by decide))
      have gx := gx.S hs
      have gqp := gqp.S hs
      have gqc := gqc.S hs
      have gqa := gqa.S hs
      have gq_6 := gq_6.S hs
      have gq_13 := gq_13.S hs
      obtain ⟨q_20, rfl, gq_20⟩ := hr_19
      have gq_20 : hx_g L_15 h_16 q_20 0 := gq_20
      refine hx_goi (hx_runV (As := [.ref q_20]) (rest := [.int i2, .ref q_13]) ⟨hx, hb, hml, hown, hts⟩ hW gq_6 tt_4 (T := TX4) (N := 10) rfl (t_X4_meansBy l dC dI dA L_15 h_16 H.size q_6 q_20 hT gq_6 gq_20) (cwV 1 hts (hx_gV kw_887 kw_884 kw_885 kw_886 kw_108) rfl rfl rfl (by decide +kernel) ⟨Nat.le_of_ble_eq_true rfl, Nat.le_of_ble_eq_true rfl⟩) rfl hl.1 rfl (Nat.le_of_ble_eq_true rfl) dX9_plan_36 ⟨Nat.le_of_ble_eq_true rfl, Nat.le_of_ble_eq_true rfl⟩) hW (fun r_23 L_21 h_22 H locs p_24 hW => ?_)
      obtain ⟨hr_25, hT, hs⟩ := p_24
      have hT : hx_T T_tb L_21 h_22 := hT
      have hs : hx_S T_tb [] L_15 h_16 L_21 h_22 := hs
      have f_x_7 := (hs.o gx trivial rfl).2.trans f_x_7
      have f_x_10 := (hs.o gx trivial rfl).2.trans f_x_10
      have f_x_5 := (hs.o gx trivial rfl).2.trans f_x_5
      have fq_13 := (hs.o gx trivial rfl).2.trans fq_13
      have fx_14 := (hs.o gx trivial rfl).1.trans fx_14
      have pf_x_8 : ∀ j : Nat, (j : Int) < (h_22.2.1 x 8).toInt → h_22.2.2 qp j ≠ none := by
        intro j hj; rw [(hs.o gx trivial rfl).1] at hj; rw [(hs.a gqp rfl j).2]; exact pf_x_8 j hj
      have pf_x_11 : ∀ j : Nat, (j : Int) < (h_22.2.1 x 11).toInt → h_22.2.2 qc j ≠ none := by
        intro j hj; rw [(hs.o gx trivial rfl).1] at hj; rw [(hs.a gqc rfl j).2]; exact pf_x_11 j hj
      have pf_x_6 : ∀ j : Nat, (j : Int) < (h_22.2.1 x 6).toInt → h_22.2.2 qa j ≠ none := by
        intro j hj; rw [(hs.o gx trivial rfl).1] at hj; rw [(hs.a gqa rfl j).2]; exact pf_x_6 j hj
      have hM := hM.tr (hs.mono (by decide))
      have gx := gx.S hs
      have gqp := gqp.S hs
      have gqc := gqc.S hs
      have gqa := gqa.S hs
      have gq_6 := gq_6.S hs
      have gq_13 := gq_13.S hs
      have gq_20 := gq_20.S hs
      refine hx_gov (hx_runV (As := [.int i2, .int r_23]) (rest := []) ⟨hx, hb, hml, hown, hts⟩ hW gq_13 tt_5 (T := TX5) (N := 13) rfl (t_X5_clear l dC dI dA L_21 h_22 H.size q_13 i2 r_23 hT gq_13) (cwV 2 hts (hx_gV kw_951 kw_948 kw_949 kw_950 kw_100) rfl rfl rfl (by decide +kernel) ⟨Nat.le_of_ble_eq_true rfl, Nat.le_of_ble_eq_true rfl⟩) rfl hl.1 rfl (Nat.le_of_ble_eq_true rfl) dX9_plan_39 ⟨Nat.le_of_ble_eq_true rfl, Nat.le_of_ble_eq_true rfl⟩) hW (fun L_26 h_27 H locs p_29 hW => ?_)
      obtain ⟨hT, hs⟩ := p_29
      have hT : hx_T T_tb L_26 h_27 := hT
      have hs : hx_S T_tb [(5, 0), (5, 9), (5, 10)] L_21 h_22 L_26 h_27 := hs
      have f_x_7 := (hs.o gx trivial rfl).2.trans f_x_7
      have f_x_10 := (hs.o gx trivial rfl).2.trans f_x_10
      have f_x_5 := (hs.o gx trivial rfl).2.trans f_x_5
      have fq_13 := (hs.o gx trivial rfl).2.trans fq_13
      have fx_14 := (hs.o gx trivial rfl).1.trans fx_14
      have pf_x_8 : ∀ j : Nat, (j : Int) < (h_27.2.1 x 8).toInt → h_27.2.2 qp j ≠ none := by
        intro j hj; rw [(hs.o gx trivial rfl).1] at hj; rw [(hs.a gqp rfl j).2]; exact pf_x_8 j hj
      have pf_x_11 : ∀ j : Nat, (j : Int) < (h_27.2.1 x 11).toInt → h_27.2.2 qc j ≠ none := by
        intro j hj; rw [(hs.o gx trivial rfl).1] at hj; rw [(hs.a gqc rfl j).2]; exact pf_x_11 j hj
      have pf_x_6 : ∀ j : Nat, (j : Int) < (h_27.2.1 x 6).toInt → h_27.2.2 qa j ≠ none := by
        intro j hj; rw [(hs.o gx trivial rfl).1] at hj; rw [(hs.a gqa rfl j).2]; exact pf_x_6 j hj
      have hM := hM.tr (hs.mono (by decide))
      have gx := gx.S hs
      have gqp := gqp.S hs
      have gqc := gqc.S hs
      have gqa := gqa.S hs
      have gq_6 := gq_6.S hs
      have gq_13 := gq_13.S hs
      have gq_20 := gq_20.S hs
      refine lv_iconst (v := 0) hx hb dX9_plan_42 (by decide) ?_
      refine lv_istore (lv' := [(4, .int (0 : Int32)), (3, .ref q_6), (0, .ref x), (1, .int i1), (2, .int i2)]) hx hb dX9_plan_43 hl (by decide) rfl (fun ls hl => ?_)
      have loop45 : ∀ (n45 : Nat) (iv45_4 : Int32) (H : Heap) (locs : List Loc) (hL1 : List Nat) (hl1 : hx_h), 0 ≤ iv45_4.toInt → iv45_4.toInt ≤ 100 → ∀ (ls : Array Slot), 100 - iv45_4.toInt < (n45 : Int) → hx_W T_tb (P_ty dA) (dC, dI) vwCl (hx_A L sz) s.heap hL1 hl1 s H locs → hx_T T_tb hL1 hl1 → hx_S T_tb [(5, 0), (5, 1), (5, 9), (5, 10), (5, 11), (5, 12), (27, 0), (28, 0), (29, 0), (30, 0), (31, 0), (32, 0), (33, 0)] L h hL1 hl1 → hl1.2.2 x 7 = some qp → hl1.2.2 x 10 = some qc → hl1.2.2 x 5 = some qa → hl1.2.2 x 17 = some q_13 → hl1.2.1 x 2 = x_14 → hx_g hL1 hl1 x 9 → hx_g hL1 hl1 qp 44 → hx_g hL1 hl1 qc 45 → hx_g hL1 hl1 qa 43 → hx_g hL1 hl1 q_6 4 → hx_g hL1 hl1 q_13 5 → hx_g hL1 hl1 q_20 0 → (∀ j : Nat, (j : Int) < (hl1.2.1 x 8).toInt → hl1.2.2 qp j ≠ none) → (∀ j : Nat, (j : Int) < (hl1.2.1 x 11).toInt → hl1.2.2 qc j ≠ none) → (∀ j : Nat, (j : Int) < (hl1.2.1 x 6).toInt → hl1.2.2 qa j ≠ none) → lv_has ls 6 [(4, .int iv45_4), (3, .ref q_6), (0, .ref x), (1, .int i1), (2, .int i2)] → W p l e ({ frames := 8, cells := 0, slots := 0, locals := 223 }) s m ([.ref x, .int i1, .int i2] : List Value).toArray below meth c H locs 0 0 (MQ below (va_Qi (fun (r : Int32) (u : List Nat × hx_h) => (True) ∧ hx_T T_tb u.1 u.2 ∧ hx_S T_tb [(5, 0), (5, 1), (5, 9), (5, 10), (5, 11), (5, 12), (27, 0), (28, 0), (29, 0), (30, 0), (31, 0), (32, 0), (33, 0)] L h u.1 u.2) (hx_E T_tb (P_ty dA) (dC, dI) vwCl (hx_A L sz)) (hx_A L sz)) ([.ref x, .int i1, .int i2] : List Value).toArray s 0 0 (hx_A L sz)) (F0 m 45 ls []) := by
        intro n45
        induction n45 with
        | zero => intro iv45_4 H locs hL1 hl1 bliv45_4 buiv45_4  ls hn45; exfalso; omega
        | succ n45 ih45 =>
          intro iv45_4 H locs hL1 hl1 bliv45_4 buiv45_4  ls hn45 hW hT hM f_x_7 f_x_10 f_x_5 fq_13 fx_14 gx gqp gqc gqa gq_6 gq_13 gq_20 pf_x_8 pf_x_11 pf_x_6 hl
          refine lv_iload hx hb dX9_plan_45 (lv_at hl 0 rfl) ?_
          refine lv_aload_n hx hb dX9_plan_47 rfl (lv_at hl 2 rfl) ?_
          refine hx_geti hx hb hts hC_9 hown hW hT gx tt_9 11 (by decide) rfl kw_375 ⟨rfl, rfl, rfl⟩ dX9_plan_48 (fun x_31 ex_31 lx_31 ux_31 => ?_)
          have fx_31 := ex_31.symm
          refine hb_icmp_ge (zx := iv45_4.toInt) (zy := x_31.toInt) (tgt := 133) hx hb rfl rfl dX9_plan_51 (by decide) (fun c_32 => ?_) (fun c_32 => ?_)
          · skip
            refine lv_aload_n hx hb dX9_plan_133 rfl (lv_at hl 2 rfl) ?_
            refine hk_getr hx hb hts hC_9 hown hW gx tt_9 17 (by decide) rfl kw_381 ⟨rfl, rfl, rfl⟩ fq_13 dX9_plan_134 ?_
            refine hx_goi (hx_runVX (As := []) (rest := []) ⟨hx, hb, hml, hown, hts⟩ hW gq_13 tt_5 (T := TX5) (N := 13) rfl (t_X5_settle l dC dI dA hL1 hl1 H.size b0 q_13 hT gq_13) hZ (cwV 0 hts (hx_gV kw_960 kw_957 kw_958 kw_959 kw_100) rfl rfl rfl (by decide +kernel) ⟨Nat.le_of_ble_eq_true rfl, Nat.le_of_ble_eq_true rfl⟩) rfl hl.1 rfl (Nat.le_of_ble_eq_true rfl) dX9_plan_137 ⟨Nat.le_of_ble_eq_true rfl, Nat.le_of_ble_eq_true rfl⟩) hW (fun r_35 L_33 h_34 H locs p_36 hW => ?_)
            obtain ⟨hr_37, hT, hs⟩ := p_36
            have hT : hx_T T_tb L_33 h_34 := hT
            have hs : hx_S T_tb [(5, 1), (5, 11), (5, 12), (27, 0), (28, 0), (29, 0), (33, 0)] hL1 hl1 L_33 h_34 := hs
            have f_x_7 := (hs.o gx trivial rfl).2.trans f_x_7
            have f_x_10 := (hs.o gx trivial rfl).2.trans f_x_10
            have f_x_5 := (hs.o gx trivial rfl).2.trans f_x_5
            have fq_13 := (hs.o gx trivial rfl).2.trans fq_13
            have fx_14 := (hs.o gx trivial rfl).1.trans fx_14
            have fx_31 := (hs.o gx trivial rfl).1.trans fx_31
            have pf_x_8 : ∀ j : Nat, (j : Int) < (h_34.2.1 x 8).toInt → h_34.2.2 qp j ≠ none := by
              intro j hj; rw [(hs.o gx trivial rfl).1] at hj; rw [(hs.a gqp rfl j).2]; exact pf_x_8 j hj
            have pf_x_11 : ∀ j : Nat, (j : Int) < (h_34.2.1 x 11).toInt → h_34.2.2 qc j ≠ none := by
              intro j hj; rw [(hs.o gx trivial rfl).1] at hj; rw [(hs.a gqc rfl j).2]; exact pf_x_11 j hj
            have pf_x_6 : ∀ j : Nat, (j : Int) < (h_34.2.1 x 6).toInt → h_34.2.2 qa j ≠ none := by
              intro j hj; rw [(hs.o gx trivial rfl).1] at hj; rw [(hs.a gqa rfl j).2]; exact pf_x_6 j hj
            have hM := hM.tr (hs.mono (by decide))
            have gx := gx.S hs
            have gqp := gqp.S hs
            have gqc := gqc.S hs
            have gqa := gqa.S hs
            have gq_6 := gq_6.S hs
            have gq_13 := gq_13.S hs
            have gq_20 := gq_20.S hs
            exact hx_reti hx hb hr hlk hW ⟨trivial, hT, hM⟩ dX9_plan_140
          · skip
            refine lv_aload_n hx hb dX9_plan_54 rfl (lv_at hl 2 rfl) ?_
            refine hk_getr hx hb hts hC_9 hown hW gx tt_9 10 (by decide) rfl kw_374 ⟨rfl, rfl, rfl⟩ f_x_10 dX9_plan_55 ?_
            refine lv_iload hx hb dX9_plan_58 (lv_at hl 0 rfl) ?_
            refine hx_aaldN hx hb hW hT gqc tt_45 (t1 := 2) rfl ⟨by omega, by omega⟩ (pf_x_11 _ (by rw [fx_31]; exact hx_tnI (by omega) (by omega))) dX9_plan_60 (fun q_38 fq_38 gq_38 => ?_)
            refine lv_astore (lv' := [(5, .ref q_38), (4, .int iv45_4), (3, .ref q_6), (0, .ref x), (1, .int i1), (2, .int i2)]) hx hb dX9_plan_61 hl (by decide) rfl (fun ls hl => ?_)
            refine lv_aload hx hb dX9_plan_63 (lv_at hl 0 rfl) ?_
            refine hx_getn hx hb hts hC_2 hown hW hT gq_38 tt_2 2 (by decide) rfl kw_733 ⟨rfl, rfl, rfl⟩ dX9_plan_65 (fun q_39 fq_39 gq_39 => ?_)
            refine lv_aload_n hx hb dX9_plan_68 rfl (lv_at hl 2 rfl) ?_
            refine lv_acmp_ne (rx := (some q_39)) (ry := (some q_6)) (tgt := 127) hx hb dX9_plan_69 (by decide) (fun c_40 => ?_) (fun c_40 => ?_)
            · skip
              obtain ⟨x_41, ex_41⟩ : ∃ y : Int32, y = iv45_4 + Int32.ofInt 1 := ⟨_, rfl⟩
              have rg_42 := i32_r iv45_4
              have zx_41 : x_41.toInt = iv45_4.toInt + (1) := by rw [ex_41]; exact i32_add rfl (by decide) (by omega) (by omega)
              refine lv_iinc (v := x_41) (lv' := [(4, .int x_41), (5, .ref q_38), (3, .ref q_6), (0, .ref x), (1, .int i1), (2, .int i2)]) hx hb dX9_plan_127 hl (k := 1) rfl ex_41.symm (by decide) rfl (fun ls hl => ?_)
              refine lv_goto (tgt := 45) hx hb dX9_plan_130 (by decide) ?_
              exact ih45 x_41 _ _ hL1 hl1 (by omega) (by omega)  ls (by omega) hW hT hM f_x_7 f_x_10 f_x_5 fq_13 fx_14 gx gqp gqc gqa gq_6 gq_13 gq_20 pf_x_8 pf_x_11 pf_x_6 (lv_sub hl [0, 2, 3, 4, 5] rfl)
            · skip
              refine lv_aload hx hb dX9_plan_72 (lv_at hl 0 rfl) ?_
              refine lv_aload_n hx hb dX9_plan_74 rfl (lv_at hl 3 rfl) ?_
              refine hx_getn hx hb hts hC_9 hown hW hT gx tt_9 14 (by decide) rfl kw_378 ⟨rfl, rfl, rfl⟩ dX9_plan_75 (fun q_43 fq_43 gq_43 => ?_)
              refine lv_aload_n hx hb dX9_plan_78 rfl (lv_at hl 3 rfl) ?_
              refine hk_geti hx hb hts hC_9 hown hW gx tt_9 2 (by decide) rfl kw_366 ⟨rfl, rfl, rfl⟩ fx_14 dX9_plan_79 ?_
              refine hx_goi (hx_runV (As := [.ref q_43, .int x_14]) (rest := []) ⟨hx, hb, hml, hown, hts⟩ hW gq_38 tt_2 (T := TX2) (N := 19) rfl (t_X2_isOpen l dC dI dA hL1 hl1 H.size q_38 q_43 x_14 hT gq_38 gq_43) (cwV 2 hts (hx_gV kw_857 kw_854 kw_855 kw_856 kw_110) rfl rfl rfl (by decide +kernel) ⟨Nat.le_of_ble_eq_true rfl, Nat.le_of_ble_eq_true rfl⟩) rfl hl.1 rfl (Nat.le_of_ble_eq_true rfl) dX9_plan_82 ⟨Nat.le_of_ble_eq_true rfl, Nat.le_of_ble_eq_true rfl⟩) hW (fun r_46 L_44 h_45 H locs p_47 hW => ?_)
              obtain ⟨hr_48, hT, hs⟩ := p_47
              have hT : hx_T T_tb L_44 h_45 := hT
              have hs : hx_S T_tb [] hL1 hl1 L_44 h_45 := hs
              have f_x_7 := (hs.o gx trivial rfl).2.trans f_x_7
              have f_x_10 := (hs.o gx trivial rfl).2.trans f_x_10
              have f_x_5 := (hs.o gx trivial rfl).2.trans f_x_5
              have fq_13 := (hs.o gx trivial rfl).2.trans fq_13
              have fx_14 := (hs.o gx trivial rfl).1.trans fx_14
              have fx_31 := (hs.o gx trivial rfl).1.trans fx_31
              have fq_39 := (hs.o gq_38 trivial rfl).2.trans fq_39
              have fq_43 := (hs.o gx trivial rfl).2.trans fq_43
              have pf_x_8 : ∀ j : Nat, (j : Int) < (h_45.2.1 x 8).toInt → h_45.2.2 qp j ≠ none := by
                intro j hj; rw [(hs.o gx trivial rfl).1] at hj; rw [(hs.a gqp rfl j).2]; exact pf_x_8 j hj
              have pf_x_11 : ∀ j : Nat, (j : Int) < (h_45.2.1 x 11).toInt → h_45.2.2 qc j ≠ none := by
                intro j hj; rw [(hs.o gx trivial rfl).1] at hj; rw [(hs.a gqc rfl j).2]; exact pf_x_11 j hj
              have pf_x_6 : ∀ j : Nat, (j : Int) < (h_45.2.1 x 6).toInt → h_45.2.2 qa j ≠ none := by
                intro j hj; rw [(hs.o gx trivial rfl).1] at hj; rw [(hs.a gqa rfl j).2]; exact pf_x_6 j hj
              have hM := hM.tr (hs.mono (by decide))
              have gx := gx.S hs
              have gqp := gqp.S hs
              have gqc := gqc.S hs
              have gqa := gqa.S hs
              have gq_6 := gq_6.S hs
              have gq_13 := gq_13.S hs
              have gq_20 := gq_20.S hs
              have gq_38 := gq_38.S hs
              have gq_39 := gq_39.S hs
              have gq_43 := gq_43.S hs
              refine hb_if_eq (zx := r_46.toInt) (tgt := 127) hx hb rfl dX9_plan_85 (by decide) (fun c_49 => ?_) (fun c_49 => ?_)
              · skip
                obtain ⟨x_50, ex_50⟩ : ∃ y : Int32, y = iv45_4 + Int32.ofInt 1 := ⟨_, rfl⟩
                have rg_51 := i32_r iv45_4
                have zx_50 : x_50.toInt = iv45_4.toInt + (1) := by rw [ex_50]; exact i32_add rfl (by decide) (by omega) (by omega)
                refine lv_iinc (v := x_50) (lv' := [(4, .int x_50), (5, .ref q_38), (3, .ref q_6), (0, .ref x), (1, .int i1), (2, .int i2)]) hx hb dX9_plan_127 hl (k := 1) rfl ex_50.symm (by decide) rfl (fun ls hl => ?_)
                refine lv_goto (tgt := 45) hx hb dX9_plan_130 (by decide) ?_
                exact ih45 x_50 _ _ L_44 h_45 (by omega) (by omega)  ls (by omega) hW hT hM f_x_7 f_x_10 f_x_5 fq_13 fx_14 gx gqp gqc gqa gq_6 gq_13 gq_20 pf_x_8 pf_x_11 pf_x_6 (lv_sub hl [0, 2, 3, 4, 5] rfl)
              · skip
                refine lv_aload_n hx hb dX9_plan_88 rfl (lv_at hl 3 rfl) ?_
                refine hk_getr hx hb hts hC_9 hown hW gx tt_9 17 (by decide) rfl kw_381 ⟨rfl, rfl, rfl⟩ fq_13 dX9_plan_89 ?_
                refine hx_geti hx hb hts hC_5 hown hW hT gq_13 tt_5 0 (by decide) rfl kw_259 ⟨rfl, rfl, rfl⟩ dX9_plan_92 (fun x_52 ex_52 lx_52 ux_52 => ?_)
                have fx_52 := ex_52.symm
                refine lv_iconst (v := 4) hx hb dX9_plan_95 (by decide) ?_
                refine hb_icmp_lt (zx := x_52.toInt) (zy := 4) (tgt := 101) hx hb rfl (by decide) dX9_plan_96 (by decide) (fun c_53 => ?_) (fun c_53 => ?_)
                · skip
                  refine lv_aload_n hx hb dX9_plan_101 rfl (lv_at hl 3 rfl) ?_
                  refine hk_getr hx hb hts hC_9 hown hW gx tt_9 17 (by decide) rfl kw_381 ⟨rfl, rfl, rfl⟩ fq_13 dX9_plan_102 ?_
                  refine lv_aload hx hb dX9_plan_105 (lv_at hl 0 rfl) ?_
                  refine lv_aload hx hb dX9_plan_107 (lv_at hl 0 rfl) ?_
                  refine lv_aload_n hx hb dX9_plan_109 rfl (lv_at hl 3 rfl) ?_
                  refine hk_getr hx hb hts hC_9 hown hW gx tt_9 14 (by decide) rfl kw_378 ⟨rfl, rfl, rfl⟩ fq_43 dX9_plan_110 ?_
                  refine lv_aload_n hx hb dX9_plan_113 rfl (lv_at hl 3 rfl) ?_
                  refine hk_geti hx hb hts hC_9 hown hW gx tt_9 2 (by decide) rfl kw_366 ⟨rfl, rfl, rfl⟩ fx_14 dX9_plan_114 ?_
                  refine lv_aload_n hx hb dX9_plan_117 rfl (lv_at hl 3 rfl) ?_
                  refine hk_geti hx hb hts hC_9 hown hW gx tt_9 2 (by decide) rfl kw_366 ⟨rfl, rfl, rfl⟩ fx_14 dX9_plan_118 ?_
                  refine hx_goi (hx_runV (As := [.ref q_43, .int x_14, .int x_14]) (rest := [.ref q_38, .ref q_13]) ⟨hx, hb, hml, hown, hts⟩ hW gq_38 tt_2 (T := TX2) (N := 19) rfl (t_X2_restOn l dC dI dA L_44 h_45 H.size q_38 q_43 x_14 x_14 hT gq_38 gq_43) (cwV 3 hts (hx_gV kw_861 kw_927 kw_859 kw_860 kw_110) rfl rfl rfl (by decide +kernel) ⟨Nat.le_of_ble_eq_true rfl, Nat.le_of_ble_eq_true rfl⟩) rfl hl.1 rfl (Nat.le_of_ble_eq_true rfl) dX9_plan_121 ⟨Nat.le_of_ble_eq_true rfl, Nat.le_of_ble_eq_true rfl⟩) hW (fun r_56 L_54 h_55 H locs p_57 hW => ?_)
                  obtain ⟨hr_58, hT, hs⟩ := p_57
                  have hT : hx_T T_tb L_54 h_55 := hT
                  have hs : hx_S T_tb [] L_44 h_45 L_54 h_55 := hs
                  have f_x_7 := (hs.o gx trivial rfl).2.trans f_x_7
                  have f_x_10 := (hs.o gx trivial rfl).2.trans f_x_10
                  have f_x_5 := (hs.o gx trivial rfl).2.trans f_x_5
                  have fq_13 := (hs.o gx trivial rfl).2.trans fq_13
                  have fx_14 := (hs.o gx trivial rfl).1.trans fx_14
                  have fx_31 := (hs.o gx trivial rfl).1.trans fx_31
                  have fq_39 := (hs.o gq_38 trivial rfl).2.trans fq_39
                  have fq_43 := (hs.o gx trivial rfl).2.trans fq_43
                  have fx_52 := (hs.o gq_13 trivial rfl).1.trans fx_52
                  have pf_x_8 : ∀ j : Nat, (j : Int) < (h_55.2.1 x 8).toInt → h_55.2.2 qp j ≠ none := by
                    intro j hj; rw [(hs.o gx trivial rfl).1] at hj; rw [(hs.a gqp rfl j).2]; exact pf_x_8 j hj
                  have pf_x_11 : ∀ j : Nat, (j : Int) < (h_55.2.1 x 11).toInt → h_55.2.2 qc j ≠ none := by
                    intro j hj; rw [(hs.o gx trivial rfl).1] at hj; rw [(hs.a gqc rfl j).2]; exact pf_x_11 j hj
                  have pf_x_6 : ∀ j : Nat, (j : Int) < (h_55.2.1 x 6).toInt → h_55.2.2 qa j ≠ none := by
                    intro j hj; rw [(hs.o gx trivial rfl).1] at hj; rw [(hs.a gqa rfl j).2]; exact pf_x_6 j hj
                  have hM := hM.tr (hs.mono (by decide))
                  have gx := gx.S hs
                  have gqp := gqp.S hs
                  have gqc := gqc.S hs
                  have gqa := gqa.S hs
                  have gq_6 := gq_6.S hs
                  have gq_13 := gq_13.S hs
                  have gq_20 := gq_20.S hs
                  have gq_38 := gq_38.S hs
                  have gq_39 := gq_39.S hs
                  have gq_43 := gq_43.S hs
                  refine hx_gov (hx_runV (As := [.ref q_38, .int r_56]) (rest := []) ⟨hx, hb, hml, hown, hts⟩ hW gq_13 tt_5 (T := TX5) (N := 13) rfl (t_X5_addOpen l dC dI dA L_54 h_55 H.size q_13 q_38 r_56 hT gq_13 gq_38) (cwV 2 hts (hx_gV kw_955 kw_952 kw_953 kw_954 kw_100) rfl rfl rfl (by decide +kernel) ⟨Nat.le_of_ble_eq_true rfl, Nat.le_of_ble_eq_true rfl⟩) rfl hl.1 rfl (Nat.le_of_ble_eq_true rfl) dX9_plan_124 ⟨Nat.le_of_ble_eq_true rfl, Nat.le_of_ble_eq_true rfl⟩) hW (fun L_59 h_60 H locs p_62 hW => ?_)
                  obtain ⟨hT, hs⟩ := p_62
                  have hT : hx_T T_tb L_59 h_60 := hT
                  have hs : hx_S T_tb [(5, 0), (30, 0), (31, 0), (32, 0)] L_54 h_55 L_59 h_60 := hs
                  have f_x_7 := (hs.o gx trivial rfl).2.trans f_x_7
                  have f_x_10 := (hs.o gx trivial rfl).2.trans f_x_10
                  have f_x_5 := (hs.o gx trivial rfl).2.trans f_x_5
                  have fq_13 := (hs.o gx trivial rfl).2.trans fq_13
                  have fx_14 := (hs.o gx trivial rfl).1.trans fx_14
                  have fx_31 := (hs.o gx trivial rfl).1.trans fx_31
                  have fq_39 := (hs.o gq_38 trivial rfl).2.trans fq_39
                  have fq_43 := (hs.o gx trivial rfl).2.trans fq_43
                  have pf_x_8 : ∀ j : Nat, (j : Int) < (h_60.2.1 x 8).toInt → h_60.2.2 qp j ≠ none := by
                    intro j hj; rw [(hs.o gx trivial rfl).1] at hj; rw [(hs.a gqp rfl j).2]; exact pf_x_8 j hj
                  have pf_x_11 : ∀ j : Nat, (j : Int) < (h_60.2.1 x 11).toInt → h_60.2.2 qc j ≠ none := by
                    intro j hj; rw [(hs.o gx trivial rfl).1] at hj; rw [(hs.a gqc rfl j).2]; exact pf_x_11 j hj
                  have pf_x_6 : ∀ j : Nat, (j : Int) < (h_60.2.1 x 6).toInt → h_60.2.2 qa j ≠ none := by
                    intro j hj; rw [(hs.o gx trivial rfl).1] at hj; rw [(hs.a gqa rfl j).2]; exact pf_x_6 j hj
                  have hM := hM.tr (hs.mono (by decide))
                  have gx := gx.S hs
                  have gqp := gqp.S hs
                  have gqc := gqc.S hs
                  have gqa := gqa.S hs
                  have gq_6 := gq_6.S hs
                  have gq_13 := gq_13.S hs
                  have gq_20 := gq_20.S hs
                  have gq_38 := gq_38.S hs
                  have gq_39 := gq_39.S hs
                  have gq_43 := gq_43.S hs
                  obtain ⟨x_64, ex_64⟩ : ∃ y : Int32, y = iv45_4 + Int32.ofInt 1 := ⟨_, rfl⟩
                  have rg_65 := i32_r iv45_4
                  have zx_64 : x_64.toInt = iv45_4.toInt + (1) := by rw [ex_64]; exact i32_add rfl (by decide) (by omega) (by omega)
                  refine lv_iinc (v := x_64) (lv' := [(4, .int x_64), (5, .ref q_38), (3, .ref q_6), (0, .ref x), (1, .int i1), (2, .int i2)]) hx hb dX9_plan_127 hl (k := 1) rfl ex_64.symm (by decide) rfl (fun ls hl => ?_)
                  refine lv_goto (tgt := 45) hx hb dX9_plan_130 (by decide) ?_
                  exact ih45 x_64 _ _ L_59 h_60 (by omega) (by omega)  ls (by omega) hW hT hM f_x_7 f_x_10 f_x_5 fq_13 fx_14 gx gqp gqc gqa gq_6 gq_13 gq_20 pf_x_8 pf_x_11 pf_x_6 (lv_sub hl [0, 2, 3, 4, 5] rfl)
                · skip
                  refine lv_iconst (v := -1) hx hb dX9_plan_99 (by decide) ?_
                  exact hx_reti hx hb hr hlk hW ⟨trivial, hT, hM⟩ dX9_plan_100
      have zk_0 : (0 : Int32).toInt = 0 := by decide
      exact loop45 101 (0 : Int32) _ _ L_26 h_27 (by decide) (by decide)  ls (by omega) hW hT hM f_x_7 f_x_10 f_x_5 fq_13 fx_14 gx gqp gqc gqa gq_6 gq_13 gq_20 pf_x_8 pf_x_11 pf_x_6 hl
    · skip
      refine lv_iconst (v := -1) hx hb dX9_plan_20 (by decide) ?_
      exact hx_reti hx hb hr hlk hW ⟨trivial, hT, hM⟩ dX9_plan_21
