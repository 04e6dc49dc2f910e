def wLX9_pay_0 : List Nat := [42, 27, 182, 0, 200, 58, 4, 42, 180, 0, 58, 180, 1, 22, 17, 2, 88, 162, 0, 53, 25, 4, 198, 0, 48, 25, 4, 180, 0, 253, 2, 159, 0, 39, 25, 4, 180, 1, 23, 2, 160, 0, 30, 28, 25, 4, 180, 0, 253, 42, 180, 0, 94, 184, 0, 128, 153, 0, 14, 29, 4, 17, 39, 15]
def wLX9_pay_1 : List Nat := [184, 0, 128, 154, 0, 5, 2, 172, 42, 180, 0, 58, 27, 28, 42, 180, 0, 94, 29, 182, 1, 26, 172]
theorem wX9_pay_0 : (cX9_pay.data.toList.map UInt8.toNat).drop 0 = wLX9_pay_0 ++ (wLX9_pay_1 ++ ([])) := by decide +kernel
theorem wX9_pay_1 : (cX9_pay.data.toList.map UInt8.toNat).drop 64 = wLX9_pay_1 ++ ([]) := hz_wn wX9_pay_0 rfl
theorem dX9_pay_0 : decode cX9_pay 0 = .ok (.aload_n 0, 1) := dq_42 (hz_wg wX9_pay_0 (j := 0) (n := 42) rfl)
theorem dX9_pay_1 : decode cX9_pay 1 = .ok (.iload_n 1, 1) := dq_27 (hz_wg wX9_pay_0 (j := 1) (n := 27) rfl)
theorem dX9_pay_2 : decode cX9_pay 2 = .ok (.invokevirtual 200, 3) := dq_182 (hz_wg wX9_pay_0 (j := 2) (n := 182) rfl) (hz_wg wX9_pay_0 (j := 3) (n := 0) rfl) (hz_wg wX9_pay_0 (j := 4) (n := 200) rfl) rfl
theorem dX9_pay_5 : decode cX9_pay 5 = .ok (.astore 4, 2) := dq_58 (hz_wg wX9_pay_0 (j := 5) (n := 58) rfl) (hz_wg wX9_pay_0 (j := 6) (n := 4) rfl)
theorem dX9_pay_7 : decode cX9_pay 7 = .ok (.aload_n 0, 1) := dq_42 (hz_wg wX9_pay_0 (j := 7) (n := 42) rfl)
theorem dX9_pay_8 : decode cX9_pay 8 = .ok (.getfield 58, 3) := dq_180 (hz_wg wX9_pay_0 (j := 8) (n := 180) rfl) (hz_wg wX9_pay_0 (j := 9) (n := 0) rfl) (hz_wg wX9_pay_0 (j := 10) (n := 58) rfl) rfl
theorem dX9_pay_11 : decode cX9_pay 11 = .ok (.getfield 278, 3) := dq_180 (hz_wg wX9_pay_0 (j := 11) (n := 180) rfl) (hz_wg wX9_pay_0 (j := 12) (n := 1) rfl) (hz_wg wX9_pay_0 (j := 13) (n := 22) rfl) rfl
theorem dX9_pay_14 : decode cX9_pay 14 = .ok (.sipush 600, 3) := dq_17 (hz_wg wX9_pay_0 (j := 14) (n := 17) rfl) (hz_wg wX9_pay_0 (j := 15) (n := 2) rfl) (hz_wg wX9_pay_0 (j := 16) (n := 88) rfl) (by decide)
theorem dX9_pay_17 : decode cX9_pay 17 = .ok (.if_icmp .ge 53, 3) := dq_162 (hz_wg wX9_pay_0 (j := 17) (n := 162) rfl) (hz_wg wX9_pay_0 (j := 18) (n := 0) rfl) (hz_wg wX9_pay_0 (j := 19) (n := 53) rfl) (by decide)
theorem dX9_pay_20 : decode cX9_pay 20 = .ok (.aload 4, 2) := dq_25 (hz_wg wX9_pay_0 (j := 20) (n := 25) rfl) (hz_wg wX9_pay_0 (j := 21) (n := 4) rfl)
theorem dX9_pay_22 : decode cX9_pay 22 = .ok (.ifnull 48, 3) := dq_198 (hz_wg wX9_pay_0 (j := 22) (n := 198) rfl) (hz_wg wX9_pay_0 (j := 23) (n := 0) rfl) (hz_wg wX9_pay_0 (j := 24) (n := 48) rfl) (by decide)
theorem dX9_pay_25 : decode cX9_pay 25 = .ok (.aload 4, 2) := dq_25 (hz_wg wX9_pay_0 (j := 25) (n := 25) rfl) (hz_wg wX9_pay_0 (j := 26) (n := 4) rfl)
theorem dX9_pay_27 : decode cX9_pay 27 = .ok (.getfield 253, 3) := dq_180 (hz_wg wX9_pay_0 (j := 27) (n := 180) rfl) (hz_wg wX9_pay_0 (j := 28) (n := 0) rfl) (hz_wg wX9_pay_0 (j := 29) (n := 253) rfl) rfl
theorem dX9_pay_30 : decode cX9_pay 30 = .ok (.iconst (-1), 1) := dq_2 (hz_wg wX9_pay_0 (j := 30) (n := 2) rfl)
theorem dX9_pay_31 : decode cX9_pay 31 = .ok (.if_icmp .eq 39, 3) := dq_159 (hz_wg wX9_pay_0 (j := 31) (n := 159) rfl) (hz_wg wX9_pay_0 (j := 32) (n := 0) rfl) (hz_wg wX9_pay_0 (j := 33) (n := 39) rfl) (by decide)
theorem dX9_pay_34 : decode cX9_pay 34 = .ok (.aload 4, 2) := dq_25 (hz_wg wX9_pay_0 (j := 34) (n := 25) rfl) (hz_wg wX9_pay_0 (j := 35) (n := 4) rfl)
theorem dX9_pay_36 : decode cX9_pay 36 = .ok (.getfield 279, 3) := dq_180 (hz_wg wX9_pay_0 (j := 36) (n := 180) rfl) (hz_wg wX9_pay_0 (j := 37) (n := 1) rfl) (hz_wg wX9_pay_0 (j := 38) (n := 23) rfl) rfl
theorem dX9_pay_39 : decode cX9_pay 39 = .ok (.iconst (-1), 1) := dq_2 (hz_wg wX9_pay_0 (j := 39) (n := 2) rfl)
theorem dX9_pay_40 : decode cX9_pay 40 = .ok (.if_icmp .ne 30, 3) := dq_160 (hz_wg wX9_pay_0 (j := 40) (n := 160) rfl) (hz_wg wX9_pay_0 (j := 41) (n := 0) rfl) (hz_wg wX9_pay_0 (j := 42) (n := 30) rfl) (by decide)
theorem dX9_pay_43 : decode cX9_pay 43 = .ok (.iload_n 2, 1) := dq_28 (hz_wg wX9_pay_0 (j := 43) (n := 28) rfl)
theorem dX9_pay_44 : decode cX9_pay 44 = .ok (.aload 4, 2) := dq_25 (hz_wg wX9_pay_0 (j := 44) (n := 25) rfl) (hz_wg wX9_pay_0 (j := 45) (n := 4) rfl)
theorem dX9_pay_46 : decode cX9_pay 46 = .ok (.getfield 253, 3) := dq_180 (hz_wg wX9_pay_0 (j := 46) (n := 180) rfl) (hz_wg wX9_pay_0 (j := 47) (n := 0) rfl) (hz_wg wX9_pay_0 (j := 48) (n := 253) rfl) rfl
theorem dX9_pay_49 : decode cX9_pay 49 = .ok (.aload_n 0, 1) := dq_42 (hz_wg wX9_pay_0 (j := 49) (n := 42) rfl)
theorem dX9_pay_50 : decode cX9_pay 50 = .ok (.getfield 94, 3) := dq_180 (hz_wg wX9_pay_0 (j := 50) (n := 180) rfl) (hz_wg wX9_pay_0 (j := 51) (n := 0) rfl) (hz_wg wX9_pay_0 (j := 52) (n := 94) rfl) rfl
theorem dX9_pay_53 : decode cX9_pay 53 = .ok (.invokestatic 128, 3) := dq_184 (hz_wg wX9_pay_0 (j := 53) (n := 184) rfl) (hz_wg wX9_pay_0 (j := 54) (n := 0) rfl) (hz_wg wX9_pay_0 (j := 55) (n := 128) rfl) rfl
theorem dX9_pay_56 : decode cX9_pay 56 = .ok (.ifCond .eq 14, 3) := dq_153 (hz_wg wX9_pay_0 (j := 56) (n := 153) rfl) (hz_wg wX9_pay_0 (j := 57) (n := 0) rfl) (hz_wg wX9_pay_0 (j := 58) (n := 14) rfl) (by decide)
theorem dX9_pay_59 : decode cX9_pay 59 = .ok (.iload_n 3, 1) := dq_29 (hz_wg wX9_pay_0 (j := 59) (n := 29) rfl)
theorem dX9_pay_60 : decode cX9_pay 60 = .ok (.iconst 1, 1) := dq_4 (hz_wg wX9_pay_0 (j := 60) (n := 4) rfl)
theorem dX9_pay_61 : decode cX9_pay 61 = .ok (.sipush 9999, 3) := dq_17 (hz_wg wX9_pay_0 (j := 61) (n := 17) rfl) (hz_wg wX9_pay_0 (j := 62) (n := 39) rfl) (hz_wg wX9_pay_0 (j := 63) (n := 15) rfl) (by decide)
theorem dX9_pay_64 : decode cX9_pay 64 = .ok (.invokestatic 128, 3) := dq_184 (hz_wg wX9_pay_1 (j := 0) (n := 184) rfl) (hz_wg wX9_pay_1 (j := 1) (n := 0) rfl) (hz_wg wX9_pay_1 (j := 2) (n := 128) rfl) rfl
theorem dX9_pay_67 : decode cX9_pay 67 = .ok (.ifCond .ne 5, 3) := dq_154 (hz_wg wX9_pay_1 (j := 3) (n := 154) rfl) (hz_wg wX9_pay_1 (j := 4) (n := 0) rfl) (hz_wg wX9_pay_1 (j := 5) (n := 5) rfl) (by decide)
theorem dX9_pay_70 : decode cX9_pay 70 = .ok (.iconst (-1), 1) := dq_2 (hz_wg wX9_pay_1 (j := 6) (n := 2) rfl)
theorem dX9_pay_71 : decode cX9_pay 71 = .ok (.ireturn, 1) := dq_172 (hz_wg wX9_pay_1 (j := 7) (n := 172) rfl)
theorem dX9_pay_72 : decode cX9_pay 72 = .ok (.aload_n 0, 1) := dq_42 (hz_wg wX9_pay_1 (j := 8) (n := 42) rfl)
theorem dX9_pay_73 : decode cX9_pay 73 = .ok (.getfield 58, 3) := dq_180 (hz_wg wX9_pay_1 (j := 9) (n := 180) rfl) (hz_wg wX9_pay_1 (j := 10) (n := 0) rfl) (hz_wg wX9_pay_1 (j := 11) (n := 58) rfl) rfl
theorem dX9_pay_76 : decode cX9_pay 76 = .ok (.iload_n 1, 1) := dq_27 (hz_wg wX9_pay_1 (j := 12) (n := 27) rfl)
theorem dX9_pay_77 : decode cX9_pay 77 = .ok (.iload_n 2, 1) := dq_28 (hz_wg wX9_pay_1 (j := 13) (n := 28) rfl)
theorem dX9_pay_78 : decode cX9_pay 78 = .ok (.aload_n 0, 1) := dq_42 (hz_wg wX9_pay_1 (j := 14) (n := 42) rfl)
theorem dX9_pay_79 : decode cX9_pay 79 = .ok (.getfield 94, 3) := dq_180 (hz_wg wX9_pay_1 (j := 15) (n := 180) rfl) (hz_wg wX9_pay_1 (j := 16) (n := 0) rfl) (hz_wg wX9_pay_1 (j := 17) (n := 94) rfl) rfl
theorem dX9_pay_82 : decode cX9_pay 82 = .ok (.iload_n 3, 1) := dq_29 (hz_wg wX9_pay_1 (j := 18) (n := 29) rfl)
theorem dX9_pay_83 : decode cX9_pay 83 = .ok (.invokevirtual 282, 3) := dq_182 (hz_wg wX9_pay_1 (j := 19) (n := 182) rfl) (hz_wg wX9_pay_1 (j := 20) (n := 1) rfl) (hz_wg wX9_pay_1 (j := 21) (n := 26) rfl) rfl
theorem dX9_pay_86 : decode cX9_pay 86 = .ok (.ireturn, 1) := dq_172 (hz_wg wX9_pay_1 (j := 22) (n := 172) rfl)
set_option maxHeartbeats 4000000 in
set_option maxRecDepth 100000 in
theorem t_X9_pay (l : Launch) (dC : Nat → ClassId) (dI : Nat → Nat → Nat) (dA : Nat → ClassId) (L : List Nat) (h : hx_h) (sz : Nat) (x : Nat) (i1 : Int32) (i2 : Int32) (i3 : Int32) (hT : hx_T T_tb L h) (gx : hx_g L h x 9) (qc : Nat) (gqc : hx_g L h qc 45) (f_x_10 : h.2.2 x 10 = some qc) (pf_x_11 : ∀ j : Nat, (j : Int) < (h.2.1 x 11).toInt → h.2.2 qc j ≠ none) : Met l yX9_pay (Cond.code yX9_pay cX9_pay 5 (some .int) :: hx_all) ({ frames := 1, cells := 0, slots := 0, locals := 24 }) (va_Pc [.ref x, .int i1, .int i2, .int i3] (hx_B T_tb (P_ty dA) (dC, dI) vwCl L h sz)) (va_Qi (fun (r : Int32) (u : List Nat × hx_h) => (True) ∧ hx_T T_tb u.1 u.2 ∧ hx_S T_tb [(3, 0), (22, 0), (23, 0), (24, 0), (25, 0), (26, 0)] L h u.1 u.2) (hx_E T_tb (P_ty dA) (dC, dI) vwCl (hx_A L sz)) (hx_A L sz)) 0 0 (hx_A L sz) := by
  refine hx_met (lv := [(0, .ref x), (1, .int i1), (2, .int i2), (3, .int i3)]) (by decide +kernel) rfl (Nat.le_of_ble_eq_true rfl) rfl ?_
  intro p e s m below meth c hx hb hml hr hlk hts0 hown hin hsz hW ls hl
  have hts : ∀ w ∈ hx_all, w.before _ s = true := fun w hw => hts0 w (List.mem_cons_of_mem _ hw)
  have hown : s.vm.findClass "SmallCourt" = some m.cls := hown
  have hM : hx_S T_tb [(3, 0), (22, 0), (23, 0), (24, 0), (25, 0), (26, 0)] L h L h := hx_S.rf
  refine lv_aload_n hx hb dX9_pay_0 rfl (lv_at hl 0 rfl) ?_
  refine lv_iload_n hx hb dX9_pay_1 rfl (lv_at hl 1 rfl) ?_
  refine hx_goq (hx_runV (As := [.int i1]) (rest := []) ⟨hx, hb, hml, hown, hts⟩ hW (gx.S hM) tt_9 (T := TX9) (N := 20) rfl (t_X9_claimAt l dC dI dA L h s.heap.size x i1 hT (gx.S hM) qc (gqc.S hM) ((hM.o gx trivial rfl).2.trans f_x_10) pf_x_11) (cwV 1 hts (hx_gV kw_810 kw_807 kw_809 kw_25 kw_94) rfl rfl rfl (by decide +kernel) ⟨Nat.le_of_ble_eq_true rfl, Nat.le_of_ble_eq_true rfl⟩) rfl hl.1 rfl (Nat.le_of_ble_eq_true rfl) dX9_pay_2 ⟨Nat.le_of_ble_eq_true rfl, Nat.le_of_ble_eq_true rfl⟩) hW (fun r_3 L_1 h_2 H locs p_4 hW => ?_)
  obtain ⟨hr_5, hT, hs⟩ := p_4
  replace hT : hx_T T_tb L_1 h_2 := hT
  replace hs : hx_S T_tb [] L h L_1 h_2 := hs
  replace pf_x_11 : ∀ j : Nat, (j : Int) < (h_2.2.1 x 11).toInt → h_2.2.2 qc j ≠ none := by
    intro j hj; rw [(hs.o (gx.S hM) trivial rfl).1] at hj; rw [(hs.a (gqc.S hM) rfl j).2]; exact pf_x_11 j hj
  replace hM := hM.tr (hs.mono (by decide))
  have hr_5 : ∀ q, r_3 = some q → hx_g L_1 h_2 q 2 := hr_5
  rcases r_3 with _ | q_6
  · skip
    refine lv_astoreN (lv' := [(4, .null), (0, .ref x), (1, .int i1), (2, .int i2), (3, .int i3)]) hx hb dX9_pay_5 hl (by decide) rfl (fun ls hl => ?_)
    refine lv_aload_n hx hb dX9_pay_7 rfl (lv_at hl 1 rfl) ?_
    refine hx_getn hx hb hts hC_9 hown hW hT (gx.S hM) tt_9 14 (by decide) rfl kw_378 ⟨rfl, rfl, rfl⟩ dX9_pay_8 (fun q_7 fq_7 gq_7 => ?_)
    refine hx_geti hx hb hts hC_3 hown hW hT gq_7 tt_3 0 (by decide) rfl kw_232 ⟨rfl, rfl, rfl⟩ dX9_pay_11 (fun x_8 ex_8 lx_8 ux_8 => ?_)
    have fx_8 := ex_8.symm
    refine lv_sipush (v := 600) hx hb dX9_pay_14 (by decide) ?_
    refine hb_icmp_ge (zx := x_8.toInt) (zy := 600) (tgt := 70) hx hb rfl (by decide) dX9_pay_17 (by decide) (fun c_9 => ?_) (fun c_9 => ?_)
    · skip
      refine lv_iconst (v := -1) hx hb dX9_pay_70 (by decide) ?_
      exact hx_reti hx hb hr hlk hW ⟨trivial, hT, hM⟩ dX9_pay_71
    · skip
      refine lv_aloadN hx hb dX9_pay_20 (lv_at hl 0 rfl) ?_
      refine lv_ifnullN (tgt := 70) hx hb dX9_pay_22 (by decide) ?_
      refine lv_iconst (v := -1) hx hb dX9_pay_70 (by decide) ?_
      exact hx_reti hx hb hr hlk hW ⟨trivial, hT, hM⟩ dX9_pay_71
  · have gq_6 := hr_5 _ rfl
    refine lv_astore (lv' := [(4, .ref q_6), (0, .ref x), (1, .int i1), (2, .int i2), (3, .int i3)]) hx hb dX9_pay_5 hl (by decide) rfl (fun ls hl => ?_)
    refine lv_aload_n hx hb dX9_pay_7 rfl (lv_at hl 1 rfl) ?_
    refine hx_getn hx hb hts hC_9 hown hW hT (gx.S hM) tt_9 14 (by decide) rfl kw_378 ⟨rfl, rfl, rfl⟩ dX9_pay_8 (fun q_10 fq_10 gq_10 => ?_)
    refine hx_geti hx hb hts hC_3 hown hW hT gq_10 tt_3 0 (by decide) rfl kw_232 ⟨rfl, rfl, rfl⟩ dX9_pay_11 (fun x_11 ex_11 lx_11 ux_11 => ?_)
    have fx_11 := ex_11.symm
    refine lv_sipush (v := 600) hx hb dX9_pay_14 (by decide) ?_
    refine hb_icmp_ge (zx := x_11.toInt) (zy := 600) (tgt := 70) hx hb rfl (by decide) dX9_pay_17 (by decide) (fun c_12 => ?_) (fun c_12 => ?_)
    · skip
      refine lv_iconst (v := -1) hx hb dX9_pay_70 (by decide) ?_
      exact hx_reti hx hb hr hlk hW ⟨trivial, hT, hM⟩ dX9_pay_71
    · skip
      refine lv_aload hx hb dX9_pay_20 (lv_at hl 0 rfl) ?_
      refine lv_ifnull hx hb dX9_pay_22 ?_
      refine lv_aload hx hb dX9_pay_25 (lv_at hl 0 rfl) ?_
      refine hx_geti hx hb hts hC_2 hown hW hT gq_6 tt_2 13 (by decide) rfl kw_753 ⟨rfl, rfl, rfl⟩ dX9_pay_27 (fun x_13 ex_13 lx_13 ux_13 => ?_)
      have fx_13 := ex_13.symm
      refine lv_iconst (v := -1) hx hb dX9_pay_30 (by decide) ?_
      refine hb_icmp_eq (zx := x_13.toInt) (zy := (-1)) (tgt := 70) hx hb rfl (by decide) dX9_pay_31 (by decide) (fun c_14 => ?_) (fun c_14 => ?_)
      · skip
        refine lv_iconst (v := -1) hx hb dX9_pay_70 (by decide) ?_
        exact hx_reti hx hb hr hlk hW ⟨trivial, hT, hM⟩ dX9_pay_71
      · skip
        refine lv_aload hx hb dX9_pay_34 (lv_at hl 0 rfl) ?_
        refine hx_geti hx hb hts hC_2 hown hW hT gq_6 tt_2 18 (by decide) rfl kw_763 ⟨rfl, rfl, rfl⟩ dX9_pay_36 (fun x_15 ex_15 lx_15 ux_15 => ?_)
        have fx_15 := ex_15.symm
        refine lv_iconst (v := -1) hx hb dX9_pay_39 (by decide) ?_
        refine hb_icmp_ne (zx := x_15.toInt) (zy := (-1)) (tgt := 70) hx hb rfl (by decide) dX9_pay_40 (by decide) (fun c_16 => ?_) (fun c_16 => ?_)
        · skip
          refine lv_iconst (v := -1) hx hb dX9_pay_70 (by decide) ?_
          exact hx_reti hx hb hr hlk hW ⟨trivial, hT, hM⟩ dX9_pay_71
        · skip
          refine lv_iload_n hx hb dX9_pay_43 rfl (lv_at hl 3 rfl) ?_
          refine lv_aload hx hb dX9_pay_44 (lv_at hl 0 rfl) ?_
          refine hk_geti hx hb hts hC_2 hown hW gq_6 tt_2 13 (by decide) rfl kw_753 ⟨rfl, rfl, rfl⟩ fx_13 dX9_pay_46 ?_
          refine lv_aload_n hx hb dX9_pay_49 rfl (lv_at hl 1 rfl) ?_
          refine hx_geti hx hb hts hC_9 hown hW hT (gx.S hM) tt_9 2 (by decide) rfl kw_366 ⟨rfl, rfl, rfl⟩ dX9_pay_50 (fun x_17 ex_17 lx_17 ux_17 => ?_)
          have fx_17 := ex_17.symm
          refine hx_goi (hx_runS (As := [.int i2, .int x_13, .int x_17]) (rest := []) ⟨hx, hb, hml, hown, hts⟩ hW (t_X9_isWithin l dC dI dA L_1 h_2 H.size i2 x_13 x_17 hT) (va_cwS 3 hts (hx_gS kw_434 kw_432 kw_433 kw_94) rfl rfl rfl (by decide +kernel) ⟨Nat.le_of_ble_eq_true rfl, Nat.le_of_ble_eq_true rfl⟩) rfl hl.1 rfl (Nat.le_of_ble_eq_true rfl) dX9_pay_53 ⟨Nat.le_of_ble_eq_true rfl, Nat.le_of_ble_eq_true rfl⟩) hW (fun r_20 L_18 h_19 H locs p_21 hW => ?_)
          obtain ⟨hr_22, hT, hs⟩ := p_21
          replace hT : hx_T T_tb L_18 h_19 := hT
          replace hs : hx_S T_tb [] L_1 h_2 L_18 h_19 := hs
          replace fq_10 := (hs.o (gx.S hM) trivial rfl).2.trans fq_10
          replace fx_11 := (hs.o gq_10 trivial rfl).1.trans fx_11
          replace fx_13 := (hs.o gq_6 trivial rfl).1.trans fx_13
          replace fx_15 := (hs.o gq_6 trivial rfl).1.trans fx_15
          replace fx_17 := (hs.o (gx.S hM) trivial rfl).1.trans fx_17
          replace pf_x_11 : ∀ j : Nat, (j : Int) < (h_19.2.1 x 11).toInt → h_19.2.2 qc j ≠ none := by
            intro j hj; rw [(hs.o (gx.S hM) trivial rfl).1] at hj; rw [(hs.a (gqc.S hM) rfl j).2]; exact pf_x_11 j hj
          replace hM := hM.tr (hs.mono (by decide))
          replace gq_6 := gq_6.S hs
          replace gq_10 := gq_10.S hs
          refine hb_if_eq (zx := r_20.toInt) (tgt := 70) hx hb rfl dX9_pay_56 (by decide) (fun c_23 => ?_) (fun c_23 => ?_)
          · skip
            refine lv_iconst (v := -1) hx hb dX9_pay_70 (by decide) ?_
            exact hx_reti hx hb hr hlk hW ⟨trivial, hT, hM⟩ dX9_pay_71
          · skip
            refine lv_iload_n hx hb dX9_pay_59 rfl (lv_at hl 4 rfl) ?_
            refine lv_iconst (v := 1) hx hb dX9_pay_60 (by decide) ?_
            refine lv_sipush (v := 9999) hx hb dX9_pay_61 (by decide) ?_
            have zc_9999 : (9999 : Int32).toInt = 9999 := by decide
            have zc_1 : (1 : Int32).toInt = 1 := by decide
            refine hx_goi (hx_runS (As := [.int i3, .int (1 : Int32), .int (9999 : Int32)]) (rest := []) ⟨hx, hb, hml, hown, hts⟩ hW (t_X9_isWithin l dC dI dA L_18 h_19 H.size i3 (1 : Int32) (9999 : Int32) hT) (va_cwS 3 hts (hx_gS kw_434 kw_432 kw_433 kw_94) rfl rfl rfl (by decide +kernel) ⟨Nat.le_of_ble_eq_true rfl, Nat.le_of_ble_eq_true rfl⟩) rfl hl.1 rfl (Nat.le_of_ble_eq_true rfl) dX9_pay_64 ⟨Nat.le_of_ble_eq_true rfl, Nat.le_of_ble_eq_true rfl⟩) hW (fun r_26 L_24 h_25 H locs p_27 hW => ?_)
            obtain ⟨hr_28, hT, hs⟩ := p_27
            replace hT : hx_T T_tb L_24 h_25 := hT
            replace hs : hx_S T_tb [] L_18 h_19 L_24 h_25 := hs
            replace fq_10 := (hs.o (gx.S hM) trivial rfl).2.trans fq_10
            replace fx_11 := (hs.o gq_10 trivial rfl).1.trans fx_11
            replace fx_13 := (hs.o gq_6 trivial rfl).1.trans fx_13
            replace fx_15 := (hs.o gq_6 trivial rfl).1.trans fx_15
            replace fx_17 := (hs.o (gx.S hM) trivial rfl).1.trans fx_17
            replace pf_x_11 : ∀ j : Nat, (j : Int) < (h_25.2.1 x 11).toInt → h_25.2.2 qc j ≠ none := by
              intro j hj; rw [(hs.o (gx.S hM) trivial rfl).1] at hj; rw [(hs.a (gqc.S hM) rfl j).2]; exact pf_x_11 j hj
            replace hM := hM.tr (hs.mono (by decide))
            replace gq_6 := gq_6.S hs
            replace gq_10 := gq_10.S hs
            refine hb_if_ne (zx := r_26.toInt) (tgt := 72) hx hb rfl dX9_pay_67 (by decide) (fun c_29 => ?_) (fun c_29 => ?_)
            · skip
              refine lv_aload_n hx hb dX9_pay_72 rfl (lv_at hl 1 rfl) ?_
              refine hk_getr hx hb hts hC_9 hown hW (gx.S hM) tt_9 14 (by decide) rfl kw_378 ⟨rfl, rfl, rfl⟩ fq_10 dX9_pay_73 ?_
              refine lv_iload_n hx hb dX9_pay_76 rfl (lv_at hl 2 rfl) ?_
              refine lv_iload_n hx hb dX9_pay_77 rfl (lv_at hl 3 rfl) ?_
              refine lv_aload_n hx hb dX9_pay_78 rfl (lv_at hl 1 rfl) ?_
              refine hk_geti hx hb hts hC_9 hown hW (gx.S hM) tt_9 2 (by decide) rfl kw_366 ⟨rfl, rfl, rfl⟩ fx_17 dX9_pay_79 ?_
              refine lv_iload_n hx hb dX9_pay_82 rfl (lv_at hl 4 rfl) ?_
              refine hx_goi (hx_runV (As := [.int i1, .int i2, .int x_17, .int i3]) (rest := []) ⟨hx, hb, hml, hown, hts⟩ hW gq_10 tt_3 (T := TX3) (N := 6) rfl (t_X3_addPayment l dC dI dA L_24 h_25 H.size q_10 i1 i2 x_17 i3 hT gq_10) (cwV 4 hts (hx_gV kw_895 kw_892 kw_893 kw_894 kw_99) rfl rfl rfl (by decide +kernel) ⟨Nat.le_of_ble_eq_true rfl, Nat.le_of_ble_eq_true rfl⟩) rfl hl.1 rfl (Nat.le_of_ble_eq_true rfl) dX9_pay_83 ⟨Nat.le_of_ble_eq_true rfl, Nat.le_of_ble_eq_true rfl⟩) hW (fun r_32 L_30 h_31 H locs p_33 hW => ?_)
              obtain ⟨hr_34, hT, hs⟩ := p_33
              replace hT : hx_T T_tb L_30 h_31 := hT
              replace hs : hx_S T_tb [(3, 0), (22, 0), (23, 0), (24, 0), (25, 0), (26, 0)] L_24 h_25 L_30 h_31 := hs
              replace fq_10 := (hs.o (gx.S hM) trivial rfl).2.trans fq_10
              replace fx_13 := (hs.o gq_6 trivial rfl).1.trans fx_13
              replace fx_15 := (hs.o gq_6 trivial rfl).1.trans fx_15
              replace fx_17 := (hs.o (gx.S hM) trivial rfl).1.trans fx_17
              replace pf_x_11 : ∀ j : Nat, (j : Int) < (h_31.2.1 x 11).toInt → h_31.2.2 qc j ≠ none := by
                intro j hj; rw [(hs.o (gx.S hM) trivial rfl).1] at hj; rw [(hs.a (gqc.S hM) rfl j).2]; exact pf_x_11 j hj
              replace hM := hM.tr (hs.mono (by decide))
              replace gq_6 := gq_6.S hs
              replace gq_10 := gq_10.S hs
              exact hx_reti hx hb hr hlk hW ⟨trivial, hT, hM⟩ dX9_pay_86
            · skip
              refine lv_iconst (v := -1) hx hb dX9_pay_70 (by decide) ?_
              exact hx_reti hx hb hr hlk hW ⟨trivial, hT, hM⟩ dX9_pay_71

def wLX9_strike_0 : List Nat := [27, 155, 0, 27, 27, 42, 180, 0, 58, 180, 1, 22, 162, 0, 16, 42, 180, 0, 58, 180, 1, 30, 27, 46, 2, 159, 0, 5, 3, 172, 42, 180, 0, 58, 180, 1, 30, 27, 42, 180, 0, 94, 79, 4, 172]
theorem wX9_strike_0 : (cX9_strike.data.toList.map UInt8.toNat).drop 0 = wLX9_strike_0 ++ ([]) := by decide +kernel
theorem dX9_strike_0 : decode cX9_strike 0 = .ok (.iload_n 1, 1) := dq_27 (hz_wg wX9_strike_0 (j := 0) (n := 27) rfl)
theorem dX9_strike_1 : decode cX9_strike 1 = .ok (.ifCond .lt 27, 3) := dq_155 (hz_wg wX9_strike_0 (j := 1) (n := 155) rfl) (hz_wg wX9_strike_0 (j := 2) (n := 0) rfl) (hz_wg wX9_strike_0 (j := 3) (n := 27) rfl) (by decide)
theorem dX9_strike_4 : decode cX9_strike 4 = .ok (.iload_n 1, 1) := dq_27 (hz_wg wX9_strike_0 (j := 4) (n := 27) rfl)
theorem dX9_strike_5 : decode cX9_strike 5 = .ok (.aload_n 0, 1) := dq_42 (hz_wg wX9_strike_0 (j := 5) (n := 42) rfl)
theorem dX9_strike_6 : decode cX9_strike 6 = .ok (.getfield 58, 3) := dq_180 (hz_wg wX9_strike_0 (j := 6) (n := 180) rfl) (hz_wg wX9_strike_0 (j := 7) (n := 0) rfl) (hz_wg wX9_strike_0 (j := 8) (n := 58) rfl) rfl
theorem dX9_strike_9 : decode cX9_strike 9 = .ok (.getfield 278, 3) := dq_180 (hz_wg wX9_strike_0 (j := 9) (n := 180) rfl) (hz_wg wX9_strike_0 (j := 10) (n := 1) rfl) (hz_wg wX9_strike_0 (j := 11) (n := 22) rfl) rfl
theorem dX9_strike_12 : decode cX9_strike 12 = .ok (.if_icmp .ge 16, 3) := dq_162 (hz_wg wX9_strike_0 (j := 12) (n := 162) rfl) (hz_wg wX9_strike_0 (j := 13) (n := 0) rfl) (hz_wg wX9_strike_0 (j := 14) (n := 16) rfl) (by decide)
theorem dX9_strike_15 : decode cX9_strike 15 = .ok (.aload_n 0, 1) := dq_42 (hz_wg wX9_strike_0 (j := 15) (n := 42) rfl)
theorem dX9_strike_16 : decode cX9_strike 16 = .ok (.getfield 58, 3) := dq_180 (hz_wg wX9_strike_0 (j := 16) (n := 180) rfl) (hz_wg wX9_strike_0 (j := 17) (n := 0) rfl) (hz_wg wX9_strike_0 (j := 18) (n := 58) rfl) rfl
theorem dX9_strike_19 : decode cX9_strike 19 = .ok (.getfield 286, 3) := dq_180 (hz_wg wX9_strike_0 (j := 19) (n := 180) rfl) (hz_wg wX9_strike_0 (j := 20) (n := 1) rfl) (hz_wg wX9_strike_0 (j := 21) (n := 30) rfl) rfl
theorem dX9_strike_22 : decode cX9_strike 22 = .ok (.iload_n 1, 1) := dq_27 (hz_wg wX9_strike_0 (j := 22) (n := 27) rfl)
theorem dX9_strike_23 : decode cX9_strike 23 = .ok (.iaload, 1) := dq_46 (hz_wg wX9_strike_0 (j := 23) (n := 46) rfl)
theorem dX9_strike_24 : decode cX9_strike 24 = .ok (.iconst (-1), 1) := dq_2 (hz_wg wX9_strike_0 (j := 24) (n := 2) rfl)
theorem dX9_strike_25 : decode cX9_strike 25 = .ok (.if_icmp .eq 5, 3) := dq_159 (hz_wg wX9_strike_0 (j := 25) (n := 159) rfl) (hz_wg wX9_strike_0 (j := 26) (n := 0) rfl) (hz_wg wX9_strike_0 (j := 27) (n := 5) rfl) (by decide)
theorem dX9_strike_28 : decode cX9_strike 28 = .ok (.iconst 0, 1) := dq_3 (hz_wg wX9_strike_0 (j := 28) (n := 3) rfl)
theorem dX9_strike_29 : decode cX9_strike 29 = .ok (.ireturn, 1) := dq_172 (hz_wg wX9_strike_0 (j := 29) (n := 172) rfl)
theorem dX9_strike_30 : decode cX9_strike 30 = .ok (.aload_n 0, 1) := dq_42 (hz_wg wX9_strike_0 (j := 30) (n := 42) rfl)
theorem dX9_strike_31 : decode cX9_strike 31 = .ok (.getfield 58, 3) := dq_180 (hz_wg wX9_strike_0 (j := 31) (n := 180) rfl) (hz_wg wX9_strike_0 (j := 32) (n := 0) rfl) (hz_wg wX9_strike_0 (j := 33) (n := 58) rfl) rfl
theorem dX9_strike_34 : decode cX9_strike 34 = .ok (.getfield 286, 3) := dq_180 (hz_wg wX9_strike_0 (j := 34) (n := 180) rfl) (hz_wg wX9_strike_0 (j := 35) (n := 1) rfl) (hz_wg wX9_strike_0 (j := 36) (n := 30) rfl) rfl
theorem dX9_strike_37 : decode cX9_strike 37 = .ok (.iload_n 1, 1) := dq_27 (hz_wg wX9_strike_0 (j := 37) (n := 27) rfl)
theorem dX9_strike_38 : decode cX9_strike 38 = .ok (.aload_n 0, 1) := dq_42 (hz_wg wX9_strike_0 (j := 38) (n := 42) rfl)
theorem dX9_strike_39 : decode cX9_strike 39 = .ok (.getfield 94, 3) := dq_180 (hz_wg wX9_strike_0 (j := 39) (n := 180) rfl) (hz_wg wX9_strike_0 (j := 40) (n := 0) rfl) (hz_wg wX9_strike_0 (j := 41) (n := 94) rfl) rfl
theorem dX9_strike_42 : decode cX9_strike 42 = .ok (.iastore, 1) := dq_79 (hz_wg wX9_strike_0 (j := 42) (n := 79) rfl)
theorem dX9_strike_43 : decode cX9_strike 43 = .ok (.iconst 1, 1) := dq_4 (hz_wg wX9_strike_0 (j := 43) (n := 4) rfl)
theorem dX9_strike_44 : decode cX9_strike 44 = .ok (.ireturn, 1) := dq_172 (hz_wg wX9_strike_0 (j := 44) (n := 172) rfl)
set_option maxHeartbeats 4000000 in
set_option maxRecDepth 100000 in
theorem t_X9_strike (l : Launch) (dC : Nat → ClassId) (dI : Nat → Nat → Nat) (dA : Nat → ClassId) (L : List Nat) (h : hx_h) (sz : Nat) (x : Nat) (i1 : Int32) (hT : hx_T T_tb L h) (gx : hx_g L h x 9)  : Met l yX9_strike (Cond.code yX9_strike cX9_strike 2 (some .boolean) :: hx_all) ({ frames := 0, cells := 0, slots := 0, locals := 0 }) (va_Pc [.ref x, .int i1] (hx_B T_tb (P_ty dA) (dC, dI) vwCl L h sz)) (va_Qi (fun (r : Int32) (u : List Nat × hx_h) => (r.toInt = 0 ∨ r.toInt = 1) ∧ hx_T T_tb u.1 u.2 ∧ hx_S T_tb [(22, 0)] L h u.1 u.2) (hx_E T_tb (P_ty dA) (dC, dI) vwCl (hx_A L sz)) (hx_A L sz)) 0 0 (hx_A L sz) := by
  refine hx_met (lv := [(0, .ref x), (1, .int i1)]) (by decide +kernel) rfl (Nat.le_of_ble_eq_true rfl) rfl ?_
  intro p e s m below meth c hx hb hml hr hlk hts0 hown hin hsz hW ls hl
  have hts : ∀ w ∈ hx_all, w.before _ s = true := fun w hw => hts0 w (List.mem_cons_of_mem _ hw)
  have hown : s.vm.findClass "SmallCourt" = some m.cls := hown
  have hM : hx_S T_tb [(22, 0)] L h L h := hx_S.rf
  refine lv_iload_n hx hb dX9_strike_0 rfl (lv_at hl 1 rfl) ?_
  refine hb_if_lt (zx := i1.toInt) (tgt := 28) hx hb rfl dX9_strike_1 (by decide) (fun c_1 => ?_) (fun c_1 => ?_)
  · skip
    refine lv_iconst (v := 0) hx hb dX9_strike_28 (by decide) ?_
    exact hx_retz hx hb hr rfl hlk hW ⟨(by decide), hT, hM⟩ dX9_strike_29
  · skip
    refine lv_iload_n hx hb dX9_strike_4 rfl (lv_at hl 1 rfl) ?_
    refine lv_aload_n hx hb dX9_strike_5 rfl (lv_at hl 0 rfl) ?_
    refine hx_getn hx hb hts hC_9 hown hW hT (gx.S hM) tt_9 14 (by decide) rfl kw_378 ⟨rfl, rfl, rfl⟩ dX9_strike_6 (fun q_2 fq_2 gq_2 => ?_)
    refine hx_geti hx hb hts hC_3 hown hW hT gq_2 tt_3 0 (by decide) rfl kw_232 ⟨rfl, rfl, rfl⟩ dX9_strike_9 (fun x_3 ex_3 lx_3 ux_3 => ?_)
    have fx_3 := ex_3.symm
    refine hb_icmp_ge (zx := i1.toInt) (zy := x_3.toInt) (tgt := 28) hx hb rfl rfl dX9_strike_12 (by decide) (fun c_4 => ?_) (fun c_4 => ?_)
    · skip
      refine lv_iconst (v := 0) hx hb dX9_strike_28 (by decide) ?_
      exact hx_retz hx hb hr rfl hlk hW ⟨(by decide), hT, hM⟩ dX9_strike_29
    · skip
      refine lv_aload_n hx hb dX9_strike_15 rfl (lv_at hl 0 rfl) ?_
      refine hk_getr hx hb hts hC_9 hown hW (gx.S hM) tt_9 14 (by decide) rfl kw_378 ⟨rfl, rfl, rfl⟩ fq_2 dX9_strike_16 ?_
      refine hx_getn hx hb hts hC_3 hown hW hT gq_2 tt_3 1 (by decide) rfl kw_234 ⟨rfl, rfl, rfl⟩ dX9_strike_19 (fun q_5 fq_5 gq_5 => ?_)
      refine lv_iload_n hx hb dX9_strike_22 rfl (lv_at hl 1 rfl) ?_
      refine hx_iald hx hb hW hT gq_5 tt_22 rfl ⟨by omega, by omega⟩ dX9_strike_23 (fun x_6 ex_6 lx_6 ux_6 => ?_)
      refine lv_iconst (v := -1) hx hb dX9_strike_24 (by decide) ?_
      refine hb_icmp_eq (zx := x_6.toInt) (zy := (-1)) (tgt := 30) hx hb rfl (by decide) dX9_strike_25 (by decide) (fun c_7 => ?_) (fun c_7 => ?_)
      · skip
        refine lv_aload_n hx hb dX9_strike_30 rfl (lv_at hl 0 rfl) ?_
        refine hk_getr hx hb hts hC_9 hown hW (gx.S hM) tt_9 14 (by decide) rfl kw_378 ⟨rfl, rfl, rfl⟩ fq_2 dX9_strike_31 ?_
        refine hk_getr hx hb hts hC_3 hown hW gq_2 tt_3 1 (by decide) rfl kw_234 ⟨rfl, rfl, rfl⟩ fq_5 dX9_strike_34 ?_
        refine lv_iload_n hx hb dX9_strike_37 rfl (lv_at hl 1 rfl) ?_
        refine lv_aload_n hx hb dX9_strike_38 rfl (lv_at hl 0 rfl) ?_
        refine hx_geti hx hb hts hC_9 hown hW hT (gx.S hM) tt_9 2 (by decide) rfl kw_366 ⟨rfl, rfl, rfl⟩ dX9_strike_39 (fun x_8 ex_8 lx_8 ux_8 => ?_)
        have fx_8 := ex_8.symm
        refine hx_iast hx hb hW hT (hx_S.rf (M := [(22, 0)])) gq_5 tt_22 rfl ⟨by omega, by omega⟩ rfl (i32_r _) (List.mem_singleton.mpr rfl) dX9_strike_42 (fun H locs h_9 eh_9 hW hT hs => ?_)
        replace fq_2 := (hs.o (gx.S hM) trivial rfl).2.trans fq_2
        replace fx_3 := (hs.o gq_2 trivial rfl).1.trans fx_3
        replace fq_5 := (hs.o gq_2 trivial rfl).2.trans fq_5
        replace fx_8 := (hs.o (gx.S hM) trivial rfl).1.trans fx_8
        replace hM := hM.tr (hs.mono (by decide))
        replace gq_2 := gq_2.S hs
        replace gq_5 := gq_5.S hs
        refine lv_iconst (v := 1) hx hb dX9_strike_43 (by decide) ?_
        exact hx_retz hx hb hr rfl hlk hW ⟨(by decide), hT, hM⟩ dX9_strike_44
      · skip
        refine lv_iconst (v := 0) hx hb dX9_strike_28 (by decide) ?_
        exact hx_retz hx hb hr rfl hlk hW ⟨(by decide), hT, hM⟩ dX9_strike_29

def wLX9_order_0 : List Nat := [42, 27, 182, 0, 200, 78, 45, 198, 0, 40, 45, 180, 0, 233, 8, 160, 0, 32, 45, 180, 0, 253, 2, 160, 0, 24, 45, 180, 0, 212, 180, 0, 148, 154, 0, 14, 28, 4, 17, 39, 15, 184, 0, 128, 154, 0, 5, 2, 172, 45, 180, 0, 187, 45, 45, 180, 0, 226, 4, 182, 1, 0, 96, 54]
def wLX9_order_1 : List Nat := [4, 28, 45, 180, 0, 226, 180, 0, 119, 6, 46, 162, 0, 12, 28, 21, 4, 162, 0, 6, 16, 254, 172, 28, 42, 45, 180, 0, 212, 182, 1, 4, 96, 45, 180, 0, 212, 45, 180, 0, 226, 182, 1, 8, 164, 0, 6, 16, 253, 172, 45, 21, 4, 181, 1, 12, 45, 28, 181, 1, 15, 45, 42, 180]
def wLX9_order_2 : List Nat := [0, 94, 181, 0, 253, 21, 4, 172]
theorem wX9_order_0 : (cX9_order.data.toList.map UInt8.toNat).drop 0 = wLX9_order_0 ++ (wLX9_order_1 ++ (wLX9_order_2 ++ ([]))) := by decide +kernel
theorem wX9_order_1 : (cX9_order.data.toList.map UInt8.toNat).drop 64 = wLX9_order_1 ++ (wLX9_order_2 ++ ([])) := hz_wn wX9_order_0 rfl
theorem wX9_order_2 : (cX9_order.data.toList.map UInt8.toNat).drop 128 = wLX9_order_2 ++ ([]) := hz_wn wX9_order_1 rfl
theorem dX9_order_0 : decode cX9_order 0 = .ok (.aload_n 0, 1) := dq_42 (hz_wg wX9_order_0 (j := 0) (n := 42) rfl)
theorem dX9_order_1 : decode cX9_order 1 = .ok (.iload_n 1, 1) := dq_27 (hz_wg wX9_order_0 (j := 1) (n := 27) rfl)
theorem dX9_order_2 : decode cX9_order 2 = .ok (.invokevirtual 200, 3) := dq_182 (hz_wg wX9_order_0 (j := 2) (n := 182) rfl) (hz_wg wX9_order_0 (j := 3) (n := 0) rfl) (hz_wg wX9_order_0 (j := 4) (n := 200) rfl) rfl
theorem dX9_order_5 : decode cX9_order 5 = .ok (.astore_n 3, 1) := dq_78 (hz_wg wX9_order_0 (j := 5) (n := 78) rfl)
theorem dX9_order_6 : decode cX9_order 6 = .ok (.aload_n 3, 1) := dq_45 (hz_wg wX9_order_0 (j := 6) (n := 45) rfl)
theorem dX9_order_7 : decode cX9_order 7 = .ok (.ifnull 40, 3) := dq_198 (hz_wg wX9_order_0 (j := 7) (n := 198) rfl) (hz_wg wX9_order_0 (j := 8) (n := 0) rfl) (hz_wg wX9_order_0 (j := 9) (n := 40) rfl) (by decide)
theorem dX9_order_10 : decode cX9_order 10 = .ok (.aload_n 3, 1) := dq_45 (hz_wg wX9_order_0 (j := 10) (n := 45) rfl)
theorem dX9_order_11 : decode cX9_order 11 = .ok (.getfield 233, 3) := dq_180 (hz_wg wX9_order_0 (j := 11) (n := 180) rfl) (hz_wg wX9_order_0 (j := 12) (n := 0) rfl) (hz_wg wX9_order_0 (j := 13) (n := 233) rfl) rfl
theorem dX9_order_14 : decode cX9_order 14 = .ok (.iconst 5, 1) := dq_8 (hz_wg wX9_order_0 (j := 14) (n := 8) rfl)
theorem dX9_order_15 : decode cX9_order 15 = .ok (.if_icmp .ne 32, 3) := dq_160 (hz_wg wX9_order_0 (j := 15) (n := 160) rfl) (hz_wg wX9_order_0 (j := 16) (n := 0) rfl) (hz_wg wX9_order_0 (j := 17) (n := 32) rfl) (by decide)
theorem dX9_order_18 : decode cX9_order 18 = .ok (.aload_n 3, 1) := dq_45 (hz_wg wX9_order_0 (j := 18) (n := 45) rfl)
theorem dX9_order_19 : decode cX9_order 19 = .ok (.getfield 253, 3) := dq_180 (hz_wg wX9_order_0 (j := 19) (n := 180) rfl) (hz_wg wX9_order_0 (j := 20) (n := 0) rfl) (hz_wg wX9_order_0 (j := 21) (n := 253) rfl) rfl
theorem dX9_order_22 : decode cX9_order 22 = .ok (.iconst (-1), 1) := dq_2 (hz_wg wX9_order_0 (j := 22) (n := 2) rfl)
theorem dX9_order_23 : decode cX9_order 23 = .ok (.if_icmp .ne 24, 3) := dq_160 (hz_wg wX9_order_0 (j := 23) (n := 160) rfl) (hz_wg wX9_order_0 (j := 24) (n := 0) rfl) (hz_wg wX9_order_0 (j := 25) (n := 24) rfl) (by decide)
theorem dX9_order_26 : decode cX9_order 26 = .ok (.aload_n 3, 1) := dq_45 (hz_wg wX9_order_0 (j := 26) (n := 45) rfl)
theorem dX9_order_27 : decode cX9_order 27 = .ok (.getfield 212, 3) := dq_180 (hz_wg wX9_order_0 (j := 27) (n := 180) rfl) (hz_wg wX9_order_0 (j := 28) (n := 0) rfl) (hz_wg wX9_order_0 (j := 29) (n := 212) rfl) rfl
theorem dX9_order_30 : decode cX9_order 30 = .ok (.getfield 148, 3) := dq_180 (hz_wg wX9_order_0 (j := 30) (n := 180) rfl) (hz_wg wX9_order_0 (j := 31) (n := 0) rfl) (hz_wg wX9_order_0 (j := 32) (n := 148) rfl) rfl
theorem dX9_order_33 : decode cX9_order 33 = .ok (.ifCond .ne 14, 3) := dq_154 (hz_wg wX9_order_0 (j := 33) (n := 154) rfl) (hz_wg wX9_order_0 (j := 34) (n := 0) rfl) (hz_wg wX9_order_0 (j := 35) (n := 14) rfl) (by decide)
theorem dX9_order_36 : decode cX9_order 36 = .ok (.iload_n 2, 1) := dq_28 (hz_wg wX9_order_0 (j := 36) (n := 28) rfl)
theorem dX9_order_37 : decode cX9_order 37 = .ok (.iconst 1, 1) := dq_4 (hz_wg wX9_order_0 (j := 37) (n := 4) rfl)
theorem dX9_order_38 : decode cX9_order 38 = .ok (.sipush 9999, 3) := dq_17 (hz_wg wX9_order_0 (j := 38) (n := 17) rfl) (hz_wg wX9_order_0 (j := 39) (n := 39) rfl) (hz_wg wX9_order_0 (j := 40) (n := 15) rfl) (by decide)
theorem dX9_order_41 : decode cX9_order 41 = .ok (.invokestatic 128, 3) := dq_184 (hz_wg wX9_order_0 (j := 41) (n := 184) rfl) (hz_wg wX9_order_0 (j := 42) (n := 0) rfl) (hz_wg wX9_order_0 (j := 43) (n := 128) rfl) rfl
theorem dX9_order_44 : decode cX9_order 44 = .ok (.ifCond .ne 5, 3) := dq_154 (hz_wg wX9_order_0 (j := 44) (n := 154) rfl) (hz_wg wX9_order_0 (j := 45) (n := 0) rfl) (hz_wg wX9_order_0 (j := 46) (n := 5) rfl) (by decide)
theorem dX9_order_47 : decode cX9_order 47 = .ok (.iconst (-1), 1) := dq_2 (hz_wg wX9_order_0 (j := 47) (n := 2) rfl)
theorem dX9_order_48 : decode cX9_order 48 = .ok (.ireturn, 1) := dq_172 (hz_wg wX9_order_0 (j := 48) (n := 172) rfl)
theorem dX9_order_49 : decode cX9_order 49 = .ok (.aload_n 3, 1) := dq_45 (hz_wg wX9_order_0 (j := 49) (n := 45) rfl)
theorem dX9_order_50 : decode cX9_order 50 = .ok (.getfield 187, 3) := dq_180 (hz_wg wX9_order_0 (j := 50) (n := 180) rfl) (hz_wg wX9_order_0 (j := 51) (n := 0) rfl) (hz_wg wX9_order_0 (j := 52) (n := 187) rfl) rfl
theorem dX9_order_53 : decode cX9_order 53 = .ok (.aload_n 3, 1) := dq_45 (hz_wg wX9_order_0 (j := 53) (n := 45) rfl)
theorem dX9_order_54 : decode cX9_order 54 = .ok (.aload_n 3, 1) := dq_45 (hz_wg wX9_order_0 (j := 54) (n := 45) rfl)
theorem dX9_order_55 : decode cX9_order 55 = .ok (.getfield 226, 3) := dq_180 (hz_wg wX9_order_0 (j := 55) (n := 180) rfl) (hz_wg wX9_order_0 (j := 56) (n := 0) rfl) (hz_wg wX9_order_0 (j := 57) (n := 226) rfl) rfl
theorem dX9_order_58 : decode cX9_order 58 = .ok (.iconst 1, 1) := dq_4 (hz_wg wX9_order_0 (j := 58) (n := 4) rfl)
theorem dX9_order_59 : decode cX9_order 59 = .ok (.invokevirtual 256, 3) := dq_182 (hz_wg wX9_order_0 (j := 59) (n := 182) rfl) (hz_wg wX9_order_0 (j := 60) (n := 1) rfl) (hz_wg wX9_order_0 (j := 61) (n := 0) rfl) rfl
theorem dX9_order_62 : decode cX9_order 62 = .ok (.iadd, 1) := dq_96 (hz_wg wX9_order_0 (j := 62) (n := 96) rfl)
theorem dX9_order_63 : decode cX9_order 63 = .ok (.istore 4, 2) := dq_54 (hz_wg wX9_order_0 (j := 63) (n := 54) rfl) (hz_wg wX9_order_1 (j := 0) (n := 4) rfl)
theorem dX9_order_65 : decode cX9_order 65 = .ok (.iload_n 2, 1) := dq_28 (hz_wg wX9_order_1 (j := 1) (n := 28) rfl)
theorem dX9_order_66 : decode cX9_order 66 = .ok (.aload_n 3, 1) := dq_45 (hz_wg wX9_order_1 (j := 2) (n := 45) rfl)
theorem dX9_order_67 : decode cX9_order 67 = .ok (.getfield 226, 3) := dq_180 (hz_wg wX9_order_1 (j := 3) (n := 180) rfl) (hz_wg wX9_order_1 (j := 4) (n := 0) rfl) (hz_wg wX9_order_1 (j := 5) (n := 226) rfl) rfl
theorem dX9_order_70 : decode cX9_order 70 = .ok (.getfield 119, 3) := dq_180 (hz_wg wX9_order_1 (j := 6) (n := 180) rfl) (hz_wg wX9_order_1 (j := 7) (n := 0) rfl) (hz_wg wX9_order_1 (j := 8) (n := 119) rfl) rfl
theorem dX9_order_73 : decode cX9_order 73 = .ok (.iconst 3, 1) := dq_6 (hz_wg wX9_order_1 (j := 9) (n := 6) rfl)
theorem dX9_order_74 : decode cX9_order 74 = .ok (.iaload, 1) := dq_46 (hz_wg wX9_order_1 (j := 10) (n := 46) rfl)
theorem dX9_order_75 : decode cX9_order 75 = .ok (.if_icmp .ge 12, 3) := dq_162 (hz_wg wX9_order_1 (j := 11) (n := 162) rfl) (hz_wg wX9_order_1 (j := 12) (n := 0) rfl) (hz_wg wX9_order_1 (j := 13) (n := 12) rfl) (by decide)
theorem dX9_order_78 : decode cX9_order 78 = .ok (.iload_n 2, 1) := dq_28 (hz_wg wX9_order_1 (j := 14) (n := 28) rfl)
theorem dX9_order_79 : decode cX9_order 79 = .ok (.iload 4, 2) := dq_21 (hz_wg wX9_order_1 (j := 15) (n := 21) rfl) (hz_wg wX9_order_1 (j := 16) (n := 4) rfl)
theorem dX9_order_81 : decode cX9_order 81 = .ok (.if_icmp .ge 6, 3) := dq_162 (hz_wg wX9_order_1 (j := 17) (n := 162) rfl) (hz_wg wX9_order_1 (j := 18) (n := 0) rfl) (hz_wg wX9_order_1 (j := 19) (n := 6) rfl) (by decide)
theorem dX9_order_84 : decode cX9_order 84 = .ok (.bipush (-2), 2) := dq_16 (hz_wg wX9_order_1 (j := 20) (n := 16) rfl) (hz_wg wX9_order_1 (j := 21) (n := 254) rfl) (by decide)
theorem dX9_order_86 : decode cX9_order 86 = .ok (.ireturn, 1) := dq_172 (hz_wg wX9_order_1 (j := 22) (n := 172) rfl)
theorem dX9_order_87 : decode cX9_order 87 = .ok (.iload_n 2, 1) := dq_28 (hz_wg wX9_order_1 (j := 23) (n := 28) rfl)
theorem dX9_order_88 : decode cX9_order 88 = .ok (.aload_n 0, 1) := dq_42 (hz_wg wX9_order_1 (j := 24) (n := 42) rfl)
theorem dX9_order_89 : decode cX9_order 89 = .ok (.aload_n 3, 1) := dq_45 (hz_wg wX9_order_1 (j := 25) (n := 45) rfl)
theorem dX9_order_90 : decode cX9_order 90 = .ok (.getfield 212, 3) := dq_180 (hz_wg wX9_order_1 (j := 26) (n := 180) rfl) (hz_wg wX9_order_1 (j := 27) (n := 0) rfl) (hz_wg wX9_order_1 (j := 28) (n := 212) rfl) rfl
theorem dX9_order_93 : decode cX9_order 93 = .ok (.invokevirtual 260, 3) := dq_182 (hz_wg wX9_order_1 (j := 29) (n := 182) rfl) (hz_wg wX9_order_1 (j := 30) (n := 1) rfl) (hz_wg wX9_order_1 (j := 31) (n := 4) rfl) rfl
theorem dX9_order_96 : decode cX9_order 96 = .ok (.iadd, 1) := dq_96 (hz_wg wX9_order_1 (j := 32) (n := 96) rfl)
theorem dX9_order_97 : decode cX9_order 97 = .ok (.aload_n 3, 1) := dq_45 (hz_wg wX9_order_1 (j := 33) (n := 45) rfl)
theorem dX9_order_98 : decode cX9_order 98 = .ok (.getfield 212, 3) := dq_180 (hz_wg wX9_order_1 (j := 34) (n := 180) rfl) (hz_wg wX9_order_1 (j := 35) (n := 0) rfl) (hz_wg wX9_order_1 (j := 36) (n := 212) rfl) rfl
theorem dX9_order_101 : decode cX9_order 101 = .ok (.aload_n 3, 1) := dq_45 (hz_wg wX9_order_1 (j := 37) (n := 45) rfl)
theorem dX9_order_102 : decode cX9_order 102 = .ok (.getfield 226, 3) := dq_180 (hz_wg wX9_order_1 (j := 38) (n := 180) rfl) (hz_wg wX9_order_1 (j := 39) (n := 0) rfl) (hz_wg wX9_order_1 (j := 40) (n := 226) rfl) rfl
theorem dX9_order_105 : decode cX9_order 105 = .ok (.invokevirtual 264, 3) := dq_182 (hz_wg wX9_order_1 (j := 41) (n := 182) rfl) (hz_wg wX9_order_1 (j := 42) (n := 1) rfl) (hz_wg wX9_order_1 (j := 43) (n := 8) rfl) rfl
theorem dX9_order_108 : decode cX9_order 108 = .ok (.if_icmp .le 6, 3) := dq_164 (hz_wg wX9_order_1 (j := 44) (n := 164) rfl) (hz_wg wX9_order_1 (j := 45) (n := 0) rfl) (hz_wg wX9_order_1 (j := 46) (n := 6) rfl) (by decide)
theorem dX9_order_111 : decode cX9_order 111 = .ok (.bipush (-3), 2) := dq_16 (hz_wg wX9_order_1 (j := 47) (n := 16) rfl) (hz_wg wX9_order_1 (j := 48) (n := 253) rfl) (by decide)
theorem dX9_order_113 : decode cX9_order 113 = .ok (.ireturn, 1) := dq_172 (hz_wg wX9_order_1 (j := 49) (n := 172) rfl)
theorem dX9_order_114 : decode cX9_order 114 = .ok (.aload_n 3, 1) := dq_45 (hz_wg wX9_order_1 (j := 50) (n := 45) rfl)
theorem dX9_order_115 : decode cX9_order 115 = .ok (.iload 4, 2) := dq_21 (hz_wg wX9_order_1 (j := 51) (n := 21) rfl) (hz_wg wX9_order_1 (j := 52) (n := 4) rfl)
theorem dX9_order_117 : decode cX9_order 117 = .ok (.putfield 268, 3) := dq_181 (hz_wg wX9_order_1 (j := 53) (n := 181) rfl) (hz_wg wX9_order_1 (j := 54) (n := 1) rfl) (hz_wg wX9_order_1 (j := 55) (n := 12) rfl) rfl
theorem dX9_order_120 : decode cX9_order 120 = .ok (.aload_n 3, 1) := dq_45 (hz_wg wX9_order_1 (j := 56) (n := 45) rfl)
theorem dX9_order_121 : decode cX9_order 121 = .ok (.iload_n 2, 1) := dq_28 (hz_wg wX9_order_1 (j := 57) (n := 28) rfl)
theorem dX9_order_122 : decode cX9_order 122 = .ok (.putfield 271, 3) := dq_181 (hz_wg wX9_order_1 (j := 58) (n := 181) rfl) (hz_wg wX9_order_1 (j := 59) (n := 1) rfl) (hz_wg wX9_order_1 (j := 60) (n := 15) rfl) rfl
theorem dX9_order_125 : decode cX9_order 125 = .ok (.aload_n 3, 1) := dq_45 (hz_wg wX9_order_1 (j := 61) (n := 45) rfl)
theorem dX9_order_126 : decode cX9_order 126 = .ok (.aload_n 0, 1) := dq_42 (hz_wg wX9_order_1 (j := 62) (n := 42) rfl)
theorem dX9_order_127 : decode cX9_order 127 = .ok (.getfield 94, 3) := dq_180 (hz_wg wX9_order_1 (j := 63) (n := 180) rfl) (hz_wg wX9_order_2 (j := 0) (n := 0) rfl) (hz_wg wX9_order_2 (j := 1) (n := 94) rfl) rfl
theorem dX9_order_130 : decode cX9_order 130 = .ok (.putfield 253, 3) := dq_181 (hz_wg wX9_order_2 (j := 2) (n := 181) rfl) (hz_wg wX9_order_2 (j := 3) (n := 0) rfl) (hz_wg wX9_order_2 (j := 4) (n := 253) rfl) rfl
theorem dX9_order_133 : decode cX9_order 133 = .ok (.iload 4, 2) := dq_21 (hz_wg wX9_order_2 (j := 5) (n := 21) rfl) (hz_wg wX9_order_2 (j := 6) (n := 4) rfl)
theorem dX9_order_135 : decode cX9_order 135 = .ok (.ireturn, 1) := dq_172 (hz_wg wX9_order_2 (j := 7) (n := 172) rfl)
set_option maxHeartbeats 4000000 in
set_option maxRecDepth 100000 in
theorem t_X9_order (l : Launch) (dC : Nat → ClassId) (dI : Nat → Nat → Nat) (dA : Nat → ClassId) (L : List Nat) (h : hx_h) (sz : Nat) (x : Nat) (i1 : Int32) (i2 : Int32) (hT : hx_T T_tb L h) (gx : hx_g L h x 9) (qc : Nat) (gqc : hx_g L h qc 45) (f_x_10 : h.2.2 x 10 = some qc) (pf_x_11 : ∀ j : Nat, (j : Int) < (h.2.1 x 11).toInt → h.2.2 qc j ≠ none) : Met l yX9_order (Cond.code yX9_order cX9_order 5 (some .int) :: hx_all) ({ frames := 6, cells := 0, slots := 0, locals := 141 }) (va_Pc [.ref x, .int i1, .int i2] (hx_B T_tb (P_ty dA) (dC, dI) vwCl L h sz)) (va_Qi (fun (r : Int32) (u : List Nat × hx_h) => (True) ∧ hx_T T_tb u.1 u.2 ∧ hx_S T_tb [(2, 13), (2, 14), (2, 15)] L h u.1 u.2) (hx_E T_tb (P_ty dA) (dC, dI) vwCl (hx_A L sz)) (hx_A L sz)) 0 0 (hx_A L sz) := by
  refine hx_met (lv := [(0, .ref x), (1, .int i1), (2, .int i2)]) (by decide +kernel) rfl (Nat.le_of_ble_eq_true rfl) rfl ?_
  intro p e s m below meth c hx hb hml hr hlk hts0 hown hin hsz hW ls hl
  have hts : ∀ w ∈ hx_all, w.before _ s = true := fun w hw => hts0 w (List.mem_cons_of_mem _ hw)
  have hown : s.vm.findClass "SmallCourt" = some m.cls := hown
  have hM : hx_S T_tb [(2, 13), (2, 14), (2, 15)] L h L h := hx_S.rf
  refine lv_aload_n hx hb dX9_order_0 rfl (lv_at hl 0 rfl) ?_
  refine lv_iload_n hx hb dX9_order_1 rfl (lv_at hl 1 rfl) ?_
  refine hx_goq (hx_runV (As := [.int i1]) (rest := []) ⟨hx, hb, hml, hown, hts⟩ hW (gx.S hM) tt_9 (T := TX9) (N := 20) rfl (t_X9_claimAt l dC dI dA L h s.heap.size x i1 hT (gx.S hM) qc (gqc.S hM) ((hM.o gx trivial rfl).2.trans f_x_10) pf_x_11) (cwV 1 hts (hx_gV kw_810 kw_807 kw_809 kw_25 kw_94) rfl rfl rfl (by decide +kernel) ⟨Nat.le_of_ble_eq_true rfl, Nat.le_of_ble_eq_true rfl⟩) rfl hl.1 rfl (Nat.le_of_ble_eq_true rfl) dX9_order_2 ⟨Nat.le_of_ble_eq_true rfl, Nat.le_of_ble_eq_true rfl⟩) hW (fun r_3 L_1 h_2 H locs p_4 hW => ?_)
  obtain ⟨hr_5, hT, hs⟩ := p_4
  replace hT : hx_T T_tb L_1 h_2 := hT
  replace hs : hx_S T_tb [] L h L_1 h_2 := hs
  replace pf_x_11 : ∀ j : Nat, (j : Int) < (h_2.2.1 x 11).toInt → h_2.2.2 qc j ≠ none := by
    intro j hj; rw [(hs.o (gx.S hM) trivial rfl).1] at hj; rw [(hs.a (gqc.S hM) rfl j).2]; exact pf_x_11 j hj
  replace hM := hM.tr (hs.mono (by decide))
  have hr_5 : ∀ q, r_3 = some q → hx_g L_1 h_2 q 2 := hr_5
  rcases r_3 with _ | q_6
  · skip
    refine lv_astore_nN (lv' := [(3, .null), (0, .ref x), (1, .int i1), (2, .int i2)]) hx hb dX9_order_5 rfl hl (by decide) rfl (fun ls hl => ?_)
    refine lv_aload_nN hx hb dX9_order_6 rfl (lv_at hl 0 rfl) ?_
    refine lv_ifnullN (tgt := 47) hx hb dX9_order_7 (by decide) ?_
    refine lv_iconst (v := -1) hx hb dX9_order_47 (by decide) ?_
    exact hx_reti hx hb hr hlk hW ⟨trivial, hT, hM⟩ dX9_order_48
  · have gq_6 := hr_5 _ rfl
    refine lv_astore_n (lv' := [(3, .ref q_6), (0, .ref x), (1, .int i1), (2, .int i2)]) hx hb dX9_order_5 rfl hl (by decide) rfl (fun ls hl => ?_)
    refine lv_aload_n hx hb dX9_order_6 rfl (lv_at hl 0 rfl) ?_
    refine lv_ifnull hx hb dX9_order_7 ?_
    refine lv_aload_n hx hb dX9_order_10 rfl (lv_at hl 0 rfl) ?_
    refine hx_geti hx hb hts hC_2 hown hW hT gq_6 tt_2 12 (by decide) rfl kw_751 ⟨rfl, rfl, rfl⟩ dX9_order_11 (fun x_7 ex_7 lx_7 ux_7 => ?_)
    have fx_7 := ex_7.symm
    refine lv_iconst (v := 5) hx hb dX9_order_14 (by decide) ?_
    refine hb_icmp_ne (zx := x_7.toInt) (zy := 5) (tgt := 47) hx hb rfl (by decide) dX9_order_15 (by decide) (fun c_8 => ?_) (fun c_8 => ?_)
    · skip
      refine lv_iconst (v := -1) hx hb dX9_order_47 (by decide) ?_
      exact hx_reti hx hb hr hlk hW ⟨trivial, hT, hM⟩ dX9_order_48
    · skip
      refine lv_aload_n hx hb dX9_order_18 rfl (lv_at hl 0 rfl) ?_
      refine hx_geti hx hb hts hC_2 hown hW hT gq_6 tt_2 13 (by decide) rfl kw_753 ⟨rfl, rfl, rfl⟩ dX9_order_19 (fun x_9 ex_9 lx_9 ux_9 => ?_)
      have fx_9 := ex_9.symm
      refine lv_iconst (v := -1) hx hb dX9_order_22 (by decide) ?_
      refine hb_icmp_ne (zx := x_9.toInt) (zy := (-1)) (tgt := 47) hx hb rfl (by decide) dX9_order_23 (by decide) (fun c_10 => ?_) (fun c_10 => ?_)
      · skip
        refine lv_iconst (v := -1) hx hb dX9_order_47 (by decide) ?_
        exact hx_reti hx hb hr hlk hW ⟨trivial, hT, hM⟩ dX9_order_48
      · skip
        refine lv_aload_n hx hb dX9_order_26 rfl (lv_at hl 0 rfl) ?_
        refine hx_getn hx hb hts hC_2 hown hW hT gq_6 tt_2 2 (by decide) rfl kw_733 ⟨rfl, rfl, rfl⟩ dX9_order_27 (fun q_11 fq_11 gq_11 => ?_)
        refine hx_geti hx hb hts hC_4 hown hW hT gq_11 tt_4 7 (by decide) rfl kw_623 ⟨rfl, rfl, rfl⟩ dX9_order_30 (fun x_12 ex_12 lx_12 ux_12 => ?_)
        have fx_12 := ex_12.symm
        refine hb_if_ne (zx := x_12.toInt) (tgt := 47) hx hb rfl dX9_order_33 (by decide) (fun c_13 => ?_) (fun c_13 => ?_)
        · skip
          refine lv_iconst (v := -1) hx hb dX9_order_47 (by decide) ?_
          exact hx_reti hx hb hr hlk hW ⟨trivial, hT, hM⟩ dX9_order_48
        · skip
          refine lv_iload_n hx hb dX9_order_36 rfl (lv_at hl 3 rfl) ?_
          refine lv_iconst (v := 1) hx hb dX9_order_37 (by decide) ?_
          refine lv_sipush (v := 9999) hx hb dX9_order_38 (by decide) ?_
          have zc_9999 : (9999 : Int32).toInt = 9999 := by decide
          have zc_1 : (1 : Int32).toInt = 1 := by decide
          refine hx_goi (hx_runS (As := [.int i2, .int (1 : Int32), .int (9999 : Int32)]) (rest := []) ⟨hx, hb, hml, hown, hts⟩ hW (t_X9_isWithin l dC dI dA L_1 h_2 H.size i2 (1 : Int32) (9999 : Int32) hT) (va_cwS 3 hts (hx_gS kw_434 kw_432 kw_433 kw_94) rfl rfl rfl (by decide +kernel) ⟨Nat.le_of_ble_eq_true rfl, Nat.le_of_ble_eq_true rfl⟩) rfl hl.1 rfl (Nat.le_of_ble_eq_true rfl) dX9_order_41 ⟨Nat.le_of_ble_eq_true rfl, Nat.le_of_ble_eq_true rfl⟩) hW (fun r_16 L_14 h_15 H locs p_17 hW => ?_)
          obtain ⟨hr_18, hT, hs⟩ := p_17
          replace hT : hx_T T_tb L_14 h_15 := hT
          replace hs : hx_S T_tb [] L_1 h_2 L_14 h_15 := hs
          replace fx_7 := (hs.o gq_6 trivial rfl).1.trans fx_7
          replace fx_9 := (hs.o gq_6 trivial rfl).1.trans fx_9
          replace fq_11 := (hs.o gq_6 trivial rfl).2.trans fq_11
          replace fx_12 := (hs.o gq_11 trivial rfl).1.trans fx_12
          replace pf_x_11 : ∀ j : Nat, (j : Int) < (h_15.2.1 x 11).toInt → h_15.2.2 qc j ≠ none := by
            intro j hj; rw [(hs.o (gx.S hM) trivial rfl).1] at hj; rw [(hs.a (gqc.S hM) rfl j).2]; exact pf_x_11 j hj
          replace hM := hM.tr (hs.mono (by decide))
          replace gq_6 := gq_6.S hs
          replace gq_11 := gq_11.S hs
          refine hb_if_ne (zx := r_16.toInt) (tgt := 49) hx hb rfl dX9_order_44 (by decide) (fun c_19 => ?_) (fun c_19 => ?_)
          · skip
            refine lv_aload_n hx hb dX9_order_49 rfl (lv_at hl 0 rfl) ?_
            refine hx_geti hx hb hts hC_2 hown hW hT gq_6 tt_2 6 (by decide) rfl kw_741 ⟨rfl, rfl, rfl⟩ dX9_order_50 (fun x_20 ex_20 lx_20 ux_20 => ?_)
            have fx_20 := ex_20.symm
            refine lv_aload_n hx hb dX9_order_53 rfl (lv_at hl 0 rfl) ?_
            refine lv_aload_n hx hb dX9_order_54 rfl (lv_at hl 0 rfl) ?_
            refine hx_getn hx hb hts hC_2 hown hW hT gq_6 tt_2 3 (by decide) rfl kw_736 ⟨rfl, rfl, rfl⟩ dX9_order_55 (fun q_21 fq_21 gq_21 => ?_)
            refine lv_iconst (v := 1) hx hb dX9_order_58 (by decide) ?_
            refine hx_goi (hx_runV (As := [.ref q_21, .int (1 : Int32)]) (rest := [.int x_20]) ⟨hx, hb, hml, hown, hts⟩ hW gq_6 tt_2 (T := TX2) (N := 19) rfl (t_X2_costsBy l dC dI dA L_14 h_15 H.size q_6 q_21 (1 : Int32) hT gq_6 gq_21) (cwV 2 hts (hx_gV kw_849 kw_846 kw_847 kw_848 kw_110) rfl rfl rfl (by decide +kernel) ⟨Nat.le_of_ble_eq_true rfl, Nat.le_of_ble_eq_true rfl⟩) rfl hl.1 rfl (Nat.le_of_ble_eq_true rfl) dX9_order_59 ⟨Nat.le_of_ble_eq_true rfl, Nat.le_of_ble_eq_true rfl⟩) hW (fun r_24 L_22 h_23 H locs p_25 hW => ?_)
            obtain ⟨hr_26, hT, hs⟩ := p_25
            replace hT : hx_T T_tb L_22 h_23 := hT
            replace hs : hx_S T_tb [] L_14 h_15 L_22 h_23 := hs
            replace fx_7 := (hs.o gq_6 trivial rfl).1.trans fx_7
            replace fx_9 := (hs.o gq_6 trivial rfl).1.trans fx_9
            replace fq_11 := (hs.o gq_6 trivial rfl).2.trans fq_11
            replace fx_12 := (hs.o gq_11 trivial rfl).1.trans fx_12
            replace fx_20 := (hs.o gq_6 trivial rfl).1.trans fx_20
            replace fq_21 := (hs.o gq_6 trivial rfl).2.trans fq_21
            replace pf_x_11 : ∀ j : Nat, (j : Int) < (h_23.2.1 x 11).toInt → h_23.2.2 qc j ≠ none := by
              intro j hj; rw [(hs.o (gx.S hM) trivial rfl).1] at hj; rw [(hs.a (gqc.S hM) rfl j).2]; exact pf_x_11 j hj
            replace hM := hM.tr (hs.mono (by decide))
            replace gq_6 := gq_6.S hs
            replace gq_11 := gq_11.S hs
            replace gq_21 := gq_21.S hs
            refine lv_iadd hx hb dX9_order_62 ?_
            have rg_27 := i32_r x_20
            have rg_28 := i32_r r_24
            refine lv_topi (fun x_29 ex_29 => ?_)
            refine lv_istore (lv' := [(4, .int x_29), (3, .ref q_6), (0, .ref x), (1, .int i1), (2, .int i2)]) hx hb dX9_order_63 hl (by decide) rfl (fun ls hl => ?_)
            refine lv_iload_n hx hb dX9_order_65 rfl (lv_at hl 4 rfl) ?_
            refine lv_aload_n hx hb dX9_order_66 rfl (lv_at hl 1 rfl) ?_
            refine hk_getr hx hb hts hC_2 hown hW gq_6 tt_2 3 (by decide) rfl kw_736 ⟨rfl, rfl, rfl⟩ fq_21 dX9_order_67 ?_
            refine hx_getn hx hb hts hC_0 hown hW hT gq_21 tt_0 2 (by decide) rfl kw_170 ⟨rfl, rfl, rfl⟩ dX9_order_70 (fun q_30 fq_30 gq_30 => ?_)
            refine lv_iconst (v := 3) hx hb dX9_order_73 (by decide) ?_
            refine hx_iald hx hb hW hT gq_30 tt_11 rfl (by decide) dX9_order_74 (fun x_31 ex_31 lx_31 ux_31 => ?_)
            refine hb_icmp_ge (zx := i2.toInt) (zy := x_31.toInt) (tgt := 87) hx hb rfl rfl dX9_order_75 (by decide) (fun c_32 => ?_) (fun c_32 => ?_)
            · skip
              refine lv_iload_n hx hb dX9_order_87 rfl (lv_at hl 4 rfl) ?_
              refine lv_aload_n hx hb dX9_order_88 rfl (lv_at hl 2 rfl) ?_
              refine lv_aload_n hx hb dX9_order_89 rfl (lv_at hl 1 rfl) ?_
              refine hk_getr hx hb hts hC_2 hown hW gq_6 tt_2 2 (by decide) rfl kw_733 ⟨rfl, rfl, rfl⟩ fq_11 dX9_order_90 ?_
              refine hx_goi (hx_runV (As := [.ref q_11]) (rest := [.int i2]) ⟨hx, hb, hml, hown, hts⟩ hW (gx.S hM) tt_9 (T := TX9) (N := 20) rfl (t_X9_openInstalments l dC dI dA L_22 h_23 H.size x q_11 hT (gx.S hM) gq_11 qc (gqc.S hM) ((hM.o gx trivial rfl).2.trans f_x_10) pf_x_11) (cwV 1 hts (hx_gV kw_853 kw_850 kw_852 kw_30 kw_94) rfl rfl rfl (by decide +kernel) ⟨Nat.le_of_ble_eq_true rfl, Nat.le_of_ble_eq_true rfl⟩) rfl hl.1 rfl (Nat.le_of_ble_eq_true rfl) dX9_order_93 ⟨Nat.le_of_ble_eq_true rfl, Nat.le_of_ble_eq_true rfl⟩) hW (fun r_35 L_33 h_34 H locs p_36 hW => ?_)
              obtain ⟨hr_37, hT, hs⟩ := p_36
              replace hT : hx_T T_tb L_33 h_34 := hT
              replace hs : hx_S T_tb [] L_22 h_23 L_33 h_34 := hs
              replace fx_7 := (hs.o gq_6 trivial rfl).1.trans fx_7
              replace fx_9 := (hs.o gq_6 trivial rfl).1.trans fx_9
              replace fq_11 := (hs.o gq_6 trivial rfl).2.trans fq_11
              replace fx_12 := (hs.o gq_11 trivial rfl).1.trans fx_12
              replace fx_20 := (hs.o gq_6 trivial rfl).1.trans fx_20
              replace fq_21 := (hs.o gq_6 trivial rfl).2.trans fq_21
              replace fq_30 := (hs.o gq_21 trivial rfl).2.trans fq_30
              replace pf_x_11 : ∀ j : Nat, (j : Int) < (h_34.2.1 x 11).toInt → h_34.2.2 qc j ≠ none := by
                intro j hj; rw [(hs.o (gx.S hM) trivial rfl).1] at hj; rw [(hs.a (gqc.S hM) rfl j).2]; exact pf_x_11 j hj
              replace ex_31 := ex_31.trans (hs.a gq_30 rfl _).1.symm
              replace hM := hM.tr (hs.mono (by decide))
              replace gq_6 := gq_6.S hs
              replace gq_11 := gq_11.S hs
              replace gq_21 := gq_21.S hs
              replace gq_30 := gq_30.S hs
              refine lv_iadd hx hb dX9_order_96 ?_
              have rg_38 := i32_r i2
              have rg_39 := i32_r r_35
              refine lv_topi (fun x_40 ex_40 => ?_)
              refine lv_aload_n hx hb dX9_order_97 rfl (lv_at hl 1 rfl) ?_
              refine hk_getr hx hb hts hC_2 hown hW gq_6 tt_2 2 (by decide) rfl kw_733 ⟨rfl, rfl, rfl⟩ fq_11 dX9_order_98 ?_
              refine lv_aload_n hx hb dX9_order_101 rfl (lv_at hl 1 rfl) ?_
              refine hk_getr hx hb hts hC_2 hown hW gq_6 tt_2 3 (by decide) rfl kw_736 ⟨rfl, rfl, rfl⟩ fq_21 dX9_order_102 ?_
              refine hx_goi (hx_runV (As := [.ref q_21]) (rest := [.int x_40]) ⟨hx, hb, hml, hown, hts⟩ hW gq_11 tt_4 (T := TX4) (N := 10) rfl (t_X4_meansBy l dC dI dA L_33 h_34 H.size q_11 q_21 hT gq_11 gq_21) (cwV 1 hts (hx_gV kw_887 kw_884 kw_885 kw_886 kw_108) rfl rfl rfl (by decide +kernel) ⟨Nat.le_of_ble_eq_true rfl, Nat.le_of_ble_eq_true rfl⟩) rfl hl.1 rfl (Nat.le_of_ble_eq_true rfl) dX9_order_105 ⟨Nat.le_of_ble_eq_true rfl, Nat.le_of_ble_eq_true rfl⟩) hW (fun r_43 L_41 h_42 H locs p_44 hW => ?_)
              obtain ⟨hr_45, hT, hs⟩ := p_44
              replace hT : hx_T T_tb L_41 h_42 := hT
              replace hs : hx_S T_tb [] L_33 h_34 L_41 h_42 := hs
              replace fx_7 := (hs.o gq_6 trivial rfl).1.trans fx_7
              replace fx_9 := (hs.o gq_6 trivial rfl).1.trans fx_9
              replace fq_11 := (hs.o gq_6 trivial rfl).2.trans fq_11
              replace fx_12 := (hs.o gq_11 trivial rfl).1.trans fx_12
              replace fx_20 := (hs.o gq_6 trivial rfl).1.trans fx_20
              replace fq_21 := (hs.o gq_6 trivial rfl).2.trans fq_21
              replace fq_30 := (hs.o gq_21 trivial rfl).2.trans fq_30
              replace pf_x_11 : ∀ j : Nat, (j : Int) < (h_42.2.1 x 11).toInt → h_42.2.2 qc j ≠ none := by
                intro j hj; rw [(hs.o (gx.S hM) trivial rfl).1] at hj; rw [(hs.a (gqc.S hM) rfl j).2]; exact pf_x_11 j hj
              replace ex_31 := ex_31.trans (hs.a gq_30 rfl _).1.symm
              replace hM := hM.tr (hs.mono (by decide))
              replace gq_6 := gq_6.S hs
              replace gq_11 := gq_11.S hs
              replace gq_21 := gq_21.S hs
              replace gq_30 := gq_30.S hs
              refine hb_icmp_le (zx := x_40.toInt) (zy := r_43.toInt) (tgt := 114) hx hb rfl rfl dX9_order_108 (by decide) (fun c_46 => ?_) (fun c_46 => ?_)
              · skip
                refine lv_aload_n hx hb dX9_order_114 rfl (lv_at hl 1 rfl) ?_
                refine lv_iload hx hb dX9_order_115 (lv_at hl 0 rfl) ?_
                refine hx_puti hx hb hts hC_2 hown hW hT (hx_S.rf (M := [(2, 15)])) gq_6 tt_2 15 (by decide) rfl kw_757 ⟨rfl, rfl, rfl⟩ rfl (x := x_29) (i32_r _) rfl rfl rfl (List.mem_singleton.mpr rfl) dX9_order_117 (fun H locs h_47 eh_47 hW hT hs => ?_)
                replace fx_7 := (hs.o gq_6 trivial rfl).1.trans fx_7
                replace fx_9 := (hs.o gq_6 trivial rfl).1.trans fx_9
                replace fq_11 := (hs.o gq_6 trivial rfl).2.trans fq_11
                replace fx_12 := (hs.o gq_11 trivial rfl).1.trans fx_12
                replace fx_20 := (hs.o gq_6 trivial rfl).1.trans fx_20
                replace fq_21 := (hs.o gq_6 trivial rfl).2.trans fq_21
                replace fq_30 := (hs.o gq_21 trivial rfl).2.trans fq_30
                replace pf_x_11 : ∀ j : Nat, (j : Int) < (h_47.2.1 x 11).toInt → h_47.2.2 qc j ≠ none := by
                  intro j hj; rw [(hs.o (gx.S hM) trivial rfl).1] at hj; rw [(hs.a (gqc.S hM) rfl j).2]; exact pf_x_11 j hj
                replace ex_31 := ex_31.trans (hs.a gq_30 rfl _).1.symm
                replace hM := hM.tr (hs.mono (by decide))
                replace gq_6 := gq_6.S hs
                replace gq_11 := gq_11.S hs
                replace gq_21 := gq_21.S hs
                replace gq_30 := gq_30.S hs
                have f_48 : h_47.2.1 q_6 15 = x_29 := by rw [eh_47]; exact hx_pi_at _ _ _ _
                refine lv_aload_n hx hb dX9_order_120 rfl (lv_at hl 1 rfl) ?_
                refine lv_iload_n hx hb dX9_order_121 rfl (lv_at hl 4 rfl) ?_
                refine hx_puti hx hb hts hC_2 hown hW hT (hx_S.rf (M := [(2, 14)])) gq_6 tt_2 14 (by decide) rfl kw_755 ⟨rfl, rfl, rfl⟩ rfl (x := i2) (i32_r _) rfl rfl rfl (List.mem_singleton.mpr rfl) dX9_order_122 (fun H locs h_49 eh_49 hW hT hs => ?_)
                replace fx_7 := (hs.o gq_6 trivial rfl).1.trans fx_7
                replace fx_9 := (hs.o gq_6 trivial rfl).1.trans fx_9
                replace fq_11 := (hs.o gq_6 trivial rfl).2.trans fq_11
                replace fx_12 := (hs.o gq_11 trivial rfl).1.trans fx_12
                replace fx_20 := (hs.o gq_6 trivial rfl).1.trans fx_20
                replace fq_21 := (hs.o gq_6 trivial rfl).2.trans fq_21
                replace fq_30 := (hs.o gq_21 trivial rfl).2.trans fq_30
                replace f_48 := (hs.o gq_6 trivial rfl).1.trans f_48
                replace pf_x_11 : ∀ j : Nat, (j : Int) < (h_49.2.1 x 11).toInt → h_49.2.2 qc j ≠ none := by
                  intro j hj; rw [(hs.o (gx.S hM) trivial rfl).1] at hj; rw [(hs.a (gqc.S hM) rfl j).2]; exact pf_x_11 j hj
                replace ex_31 := ex_31.trans (hs.a gq_30 rfl _).1.symm
                replace hM := hM.tr (hs.mono (by decide))
                replace gq_6 := gq_6.S hs
                replace gq_11 := gq_11.S hs
                replace gq_21 := gq_21.S hs
                replace gq_30 := gq_30.S hs
                have f_50 : h_49.2.1 q_6 14 = i2 := by rw [eh_49]; exact hx_pi_at _ _ _ _
                refine lv_aload_n hx hb dX9_order_125 rfl (lv_at hl 1 rfl) ?_
                refine lv_aload_n hx hb dX9_order_126 rfl (lv_at hl 2 rfl) ?_
                refine hx_geti hx hb hts hC_9 hown hW hT (gx.S hM) tt_9 2 (by decide) rfl kw_366 ⟨rfl, rfl, rfl⟩ dX9_order_127 (fun x_51 ex_51 lx_51 ux_51 => ?_)
                have fx_51 := ex_51.symm
                refine hx_puti hx hb hts hC_2 hown hW hT (hx_S.rf (M := [(2, 13)])) gq_6 tt_2 13 (by decide) rfl kw_753 ⟨rfl, rfl, rfl⟩ rfl (x := x_51) (i32_r _) rfl rfl rfl (List.mem_singleton.mpr rfl) dX9_order_130 (fun H locs h_52 eh_52 hW hT hs => ?_)
                replace fx_7 := (hs.o gq_6 trivial rfl).1.trans fx_7
                replace fq_11 := (hs.o gq_6 trivial rfl).2.trans fq_11
                replace fx_12 := (hs.o gq_11 trivial rfl).1.trans fx_12
                replace fx_20 := (hs.o gq_6 trivial rfl).1.trans fx_20
                replace fq_21 := (hs.o gq_6 trivial rfl).2.trans fq_21
                replace fq_30 := (hs.o gq_21 trivial rfl).2.trans fq_30
                replace f_48 := (hs.o gq_6 trivial rfl).1.trans f_48
                replace f_50 := (hs.o gq_6 trivial rfl).1.trans f_50
                replace fx_51 := (hs.o (gx.S hM) trivial rfl).1.trans fx_51
                replace pf_x_11 : ∀ j : Nat, (j : Int) < (h_52.2.1 x 11).toInt → h_52.2.2 qc j ≠ none := by
                  intro j hj; rw [(hs.o (gx.S hM) trivial rfl).1] at hj; rw [(hs.a (gqc.S hM) rfl j).2]; exact pf_x_11 j hj
                replace ex_31 := ex_31.trans (hs.a gq_30 rfl _).1.symm
                replace hM := hM.tr (hs.mono (by decide))
                replace gq_6 := gq_6.S hs
                replace gq_11 := gq_11.S hs
                replace gq_21 := gq_21.S hs
                replace gq_30 := gq_30.S hs
                have f_53 : h_52.2.1 q_6 13 = x_51 := by rw [eh_52]; exact hx_pi_at _ _ _ _
                refine lv_iload hx hb dX9_order_133 (lv_at hl 0 rfl) ?_
                exact hx_reti hx hb hr hlk hW ⟨trivial, hT, hM⟩ dX9_order_135
              · skip
                refine lv_bipush (v := -3) hx hb dX9_order_111 (by decide) ?_
                exact hx_reti hx hb hr hlk hW ⟨trivial, hT, hM⟩ dX9_order_113
            · skip
              refine lv_iload_n hx hb dX9_order_78 rfl (lv_at hl 4 rfl) ?_
              refine lv_iload hx hb dX9_order_79 (lv_at hl 0 rfl) ?_
              refine hb_icmp_ge (zx := i2.toInt) (zy := x_29.toInt) (tgt := 87) hx hb rfl rfl dX9_order_81 (by decide) (fun c_54 => ?_) (fun c_54 => ?_)
              · skip
                refine lv_iload_n hx hb dX9_order_87 rfl (lv_at hl 4 rfl) ?_
                refine lv_aload_n hx hb dX9_order_88 rfl (lv_at hl 2 rfl) ?_
                refine lv_aload_n hx hb dX9_order_89 rfl (lv_at hl 1 rfl) ?_
                refine hk_getr hx hb hts hC_2 hown hW gq_6 tt_2 2 (by decide) rfl kw_733 ⟨rfl, rfl, rfl⟩ fq_11 dX9_order_90 ?_
                refine hx_goi (hx_runV (As := [.ref q_11]) (rest := [.int i2]) ⟨hx, hb, hml, hown, hts⟩ hW (gx.S hM) tt_9 (T := TX9) (N := 20) rfl (t_X9_openInstalments l dC dI dA L_22 h_23 H.size x q_11 hT (gx.S hM) gq_11 qc (gqc.S hM) ((hM.o gx trivial rfl).2.trans f_x_10) pf_x_11) (cwV 1 hts (hx_gV kw_853 kw_850 kw_852 kw_30 kw_94) rfl rfl rfl (by decide +kernel) ⟨Nat.le_of_ble_eq_true rfl, Nat.le_of_ble_eq_true rfl⟩) rfl hl.1 rfl (Nat.le_of_ble_eq_true rfl) dX9_order_93 ⟨Nat.le_of_ble_eq_true rfl, Nat.le_of_ble_eq_true rfl⟩) hW (fun r_57 L_55 h_56 H locs p_58 hW => ?_)
                obtain ⟨hr_59, hT, hs⟩ := p_58
                replace hT : hx_T T_tb L_55 h_56 := hT
                replace hs : hx_S T_tb [] L_22 h_23 L_55 h_56 := hs
                replace fx_7 := (hs.o gq_6 trivial rfl).1.trans fx_7
                replace fx_9 := (hs.o gq_6 trivial rfl).1.trans fx_9
                replace fq_11 := (hs.o gq_6 trivial rfl).2.trans fq_11
                replace fx_12 := (hs.o gq_11 trivial rfl).1.trans fx_12
                replace fx_20 := (hs.o gq_6 trivial rfl).1.trans fx_20
                replace fq_21 := (hs.o gq_6 trivial rfl).2.trans fq_21
                replace fq_30 := (hs.o gq_21 trivial rfl).2.trans fq_30
                replace pf_x_11 : ∀ j : Nat, (j : Int) < (h_56.2.1 x 11).toInt → h_56.2.2 qc j ≠ none := by
                  intro j hj; rw [(hs.o (gx.S hM) trivial rfl).1] at hj; rw [(hs.a (gqc.S hM) rfl j).2]; exact pf_x_11 j hj
                replace ex_31 := ex_31.trans (hs.a gq_30 rfl _).1.symm
                replace hM := hM.tr (hs.mono (by decide))
                replace gq_6 := gq_6.S hs
                replace gq_11 := gq_11.S hs
                replace gq_21 := gq_21.S hs
                replace gq_30 := gq_30.S hs
                refine lv_iadd hx hb dX9_order_96 ?_
                have rg_60 := i32_r i2
                have rg_61 := i32_r r_57
                refine lv_topi (fun x_62 ex_62 => ?_)
                refine lv_aload_n hx hb dX9_order_97 rfl (lv_at hl 1 rfl) ?_
                refine hk_getr hx hb hts hC_2 hown hW gq_6 tt_2 2 (by decide) rfl kw_733 ⟨rfl, rfl, rfl⟩ fq_11 dX9_order_98 ?_
                refine lv_aload_n hx hb dX9_order_101 rfl (lv_at hl 1 rfl) ?_
                refine hk_getr hx hb hts hC_2 hown hW gq_6 tt_2 3 (by decide) rfl kw_736 ⟨rfl, rfl, rfl⟩ fq_21 dX9_order_102 ?_
                refine hx_goi (hx_runV (As := [.ref q_21]) (rest := [.int x_62]) ⟨hx, hb, hml, hown, hts⟩ hW gq_11 tt_4 (T := TX4) (N := 10) rfl (t_X4_meansBy l dC dI dA L_55 h_56 H.size q_11 q_21 hT gq_11 gq_21) (cwV 1 hts (hx_gV kw_887 kw_884 kw_885 kw_886 kw_108) rfl rfl rfl (by decide +kernel) ⟨Nat.le_of_ble_eq_true rfl, Nat.le_of_ble_eq_true rfl⟩) rfl hl.1 rfl (Nat.le_of_ble_eq_true rfl) dX9_order_105 ⟨Nat.le_of_ble_eq_true rfl, Nat.le_of_ble_eq_true rfl⟩) hW (fun r_65 L_63 h_64 H locs p_66 hW => ?_)
                obtain ⟨hr_67, hT, hs⟩ := p_66
                replace hT : hx_T T_tb L_63 h_64 := hT
                replace hs : hx_S T_tb [] L_55 h_56 L_63 h_64 := hs
                replace fx_7 := (hs.o gq_6 trivial rfl).1.trans fx_7
                replace fx_9 := (hs.o gq_6 trivial rfl).1.trans fx_9
                replace fq_11 := (hs.o gq_6 trivial rfl).2.trans fq_11
                replace fx_12 := (hs.o gq_11 trivial rfl).1.trans fx_12
                replace fx_20 := (hs.o gq_6 trivial rfl).1.trans fx_20
                replace fq_21 := (hs.o gq_6 trivial rfl).2.trans fq_21
                replace fq_30 := (hs.o gq_21 trivial rfl).2.trans fq_30
                replace pf_x_11 : ∀ j : Nat, (j : Int) < (h_64.2.1 x 11).toInt → h_64.2.2 qc j ≠ none := by
                  intro j hj; rw [(hs.o (gx.S hM) trivial rfl).1] at hj; rw [(hs.a (gqc.S hM) rfl j).2]; exact pf_x_11 j hj
                replace ex_31 := ex_31.trans (hs.a gq_30 rfl _).1.symm
                replace hM := hM.tr (hs.mono (by decide))
                replace gq_6 := gq_6.S hs
                replace gq_11 := gq_11.S hs
                replace gq_21 := gq_21.S hs
                replace gq_30 := gq_30.S hs
                refine hb_icmp_le (zx := x_62.toInt) (zy := r_65.toInt) (tgt := 114) hx hb rfl rfl dX9_order_108 (by decide) (fun c_68 => ?_) (fun c_68 => ?_)
                · skip
                  refine lv_aload_n hx hb dX9_order_114 rfl (lv_at hl 1 rfl) ?_
                  refine lv_iload hx hb dX9_order_115 (lv_at hl 0 rfl) ?_
                  refine hx_puti hx hb hts hC_2 hown hW hT (hx_S.rf (M := [(2, 15)])) gq_6 tt_2 15 (by decide) rfl kw_757 ⟨rfl, rfl, rfl⟩ rfl (x := x_29) (i32_r _) rfl rfl rfl (List.mem_singleton.mpr rfl) dX9_order_117 (fun H locs h_69 eh_69 hW hT hs => ?_)
                  replace fx_7 := (hs.o gq_6 trivial rfl).1.trans fx_7
                  replace fx_9 := (hs.o gq_6 trivial rfl).1.trans fx_9
                  replace fq_11 := (hs.o gq_6 trivial rfl).2.trans fq_11
                  replace fx_12 := (hs.o gq_11 trivial rfl).1.trans fx_12
                  replace fx_20 := (hs.o gq_6 trivial rfl).1.trans fx_20
                  replace fq_21 := (hs.o gq_6 trivial rfl).2.trans fq_21
                  replace fq_30 := (hs.o gq_21 trivial rfl).2.trans fq_30
                  replace pf_x_11 : ∀ j : Nat, (j : Int) < (h_69.2.1 x 11).toInt → h_69.2.2 qc j ≠ none := by
                    intro j hj; rw [(hs.o (gx.S hM) trivial rfl).1] at hj; rw [(hs.a (gqc.S hM) rfl j).2]; exact pf_x_11 j hj
                  replace ex_31 := ex_31.trans (hs.a gq_30 rfl _).1.symm
                  replace hM := hM.tr (hs.mono (by decide))
                  replace gq_6 := gq_6.S hs
                  replace gq_11 := gq_11.S hs
                  replace gq_21 := gq_21.S hs
                  replace gq_30 := gq_30.S hs
                  have f_70 : h_69.2.1 q_6 15 = x_29 := by rw [eh_69]; exact hx_pi_at _ _ _ _
                  refine lv_aload_n hx hb dX9_order_120 rfl (lv_at hl 1 rfl) ?_
                  refine lv_iload_n hx hb dX9_order_121 rfl (lv_at hl 4 rfl) ?_
                  refine hx_puti hx hb hts hC_2 hown hW hT (hx_S.rf (M := [(2, 14)])) gq_6 tt_2 14 (by decide) rfl kw_755 ⟨rfl, rfl, rfl⟩ rfl (x := i2) (i32_r _) rfl rfl rfl (List.mem_singleton.mpr rfl) dX9_order_122 (fun H locs h_71 eh_71 hW hT hs => ?_)
                  replace fx_7 := (hs.o gq_6 trivial rfl).1.trans fx_7
                  replace fx_9 := (hs.o gq_6 trivial rfl).1.trans fx_9
                  replace fq_11 := (hs.o gq_6 trivial rfl).2.trans fq_11
                  replace fx_12 := (hs.o gq_11 trivial rfl).1.trans fx_12
                  replace fx_20 := (hs.o gq_6 trivial rfl).1.trans fx_20
                  replace fq_21 := (hs.o gq_6 trivial rfl).2.trans fq_21
                  replace fq_30 := (hs.o gq_21 trivial rfl).2.trans fq_30
                  replace f_70 := (hs.o gq_6 trivial rfl).1.trans f_70
                  replace pf_x_11 : ∀ j : Nat, (j : Int) < (h_71.2.1 x 11).toInt → h_71.2.2 qc j ≠ none := by
                    intro j hj; rw [(hs.o (gx.S hM) trivial rfl).1] at hj; rw [(hs.a (gqc.S hM) rfl j).2]; exact pf_x_11 j hj
                  replace ex_31 := ex_31.trans (hs.a gq_30 rfl _).1.symm
                  replace hM := hM.tr (hs.mono (by decide))
                  replace gq_6 := gq_6.S hs
                  replace gq_11 := gq_11.S hs
                  replace gq_21 := gq_21.S hs
                  replace gq_30 := gq_30.S hs
                  have f_72 : h_71.2.1 q_6 14 = i2 := by rw [eh_71]; exact hx_pi_at _ _ _ _
                  refine lv_aload_n hx hb dX9_order_125 rfl (lv_at hl 1 rfl) ?_
                  refine lv_aload_n hx hb dX9_order_126 rfl (lv_at hl 2 rfl) ?_
                  refine hx_geti hx hb hts hC_9 hown hW hT (gx.S hM) tt_9 2 (by decide) rfl kw_366 ⟨rfl, rfl, rfl⟩ dX9_order_127 (fun x_73 ex_73 lx_73 ux_73 => ?_)
                  have fx_73 := ex_73.symm
                  refine hx_puti hx hb hts hC_2 hown hW hT (hx_S.rf (M := [(2, 13)])) gq_6 tt_2 13 (by decide) rfl kw_753 ⟨rfl, rfl, rfl⟩ rfl (x := x_73) (i32_r _) rfl rfl rfl (List.mem_singleton.mpr rfl) dX9_order_130 (fun H locs h_74 eh_74 hW hT hs => ?_)
                  replace fx_7 := (hs.o gq_6 trivial rfl).1.trans fx_7
                  replace fq_11 := (hs.o gq_6 trivial rfl).2.trans fq_11
                  replace fx_12 := (hs.o gq_11 trivial rfl).1.trans fx_12
                  replace fx_20 := (hs.o gq_6 trivial rfl).1.trans fx_20
                  replace fq_21 := (hs.o gq_6 trivial rfl).2.trans fq_21
                  replace fq_30 := (hs.o gq_21 trivial rfl).2.trans fq_30
                  replace f_70 := (hs.o gq_6 trivial rfl).1.trans f_70
                  replace f_72 := (hs.o gq_6 trivial rfl).1.trans f_72
                  replace fx_73 := (hs.o (gx.S hM) trivial rfl).1.trans fx_73
                  replace pf_x_11 : ∀ j : Nat, (j : Int) < (h_74.2.1 x 11).toInt → h_74.2.2 qc j ≠ none := by
                    intro j hj; rw [(hs.o (gx.S hM) trivial rfl).1] at hj; rw [(hs.a (gqc.S hM) rfl j).2]; exact pf_x_11 j hj
                  replace ex_31 := ex_31.trans (hs.a gq_30 rfl _).1.symm
                  replace hM := hM.tr (hs.mono (by decide))
                  replace gq_6 := gq_6.S hs
                  replace gq_11 := gq_11.S hs
                  replace gq_21 := gq_21.S hs
                  replace gq_30 := gq_30.S hs
                  have f_75 : h_74.2.1 q_6 13 = x_73 := by rw [eh_74]; exact hx_pi_at _ _ _ _
                  refine lv_iload hx hb dX9_order_133 (lv_at hl 0 rfl) ?_
                  exact hx_reti hx hb hr hlk hW ⟨trivial, hT, hM⟩ dX9_order_135
                · skip
                  refine lv_bipush (v := -3) hx hb dX9_order_111 (by decide) ?_
                  exact hx_reti hx hb hr hlk hW ⟨trivial, hT, hM⟩ dX9_order_113
              · skip
                refine lv_bipush (v := -2) hx hb dX9_order_84 (by decide) ?_
                exact hx_reti hx hb hr hlk hW ⟨trivial, hT, hM⟩ dX9_order_86
          · skip
            refine lv_iconst (v := -1) hx hb dX9_order_47 (by decide) ?_
            exact hx_reti hx hb hr hlk hW ⟨trivial, hT, hM⟩ dX9_order_48

def wLX9_seize_0 : List Nat := [42, 27, 182, 0, 200, 78, 45, 198, 0, 22, 45, 180, 1, 33, 2, 160, 0, 14, 28, 4, 17, 39, 15, 184, 0, 128, 154, 0, 6, 18, 169, 172, 45, 42, 180, 0, 58, 42, 180, 0, 94, 42, 180, 0, 94, 182, 1, 36, 54, 4, 21, 4, 8, 159, 0, 13, 21, 4, 16, 6, 159, 0, 6, 18]
def wLX9_seize_1 : List Nat := [169, 172, 45, 42, 180, 0, 94, 181, 1, 33, 45, 28, 181, 1, 40, 45, 42, 180, 0, 58, 42, 180, 0, 94, 42, 180, 0, 94, 182, 1, 43, 172]
theorem wX9_seize_0 : (cX9_seize.data.toList.map UInt8.toNat).drop 0 = wLX9_seize_0 ++ (wLX9_seize_1 ++ ([])) := by decide +kernel
theorem wX9_seize_1 : (cX9_seize.data.toList.map UInt8.toNat).drop 64 = wLX9_seize_1 ++ ([]) := hz_wn wX9_seize_0 rfl
theorem dX9_seize_0 : decode cX9_seize 0 = .ok (.aload_n 0, 1) := dq_42 (hz_wg wX9_seize_0 (j := 0) (n := 42) rfl)
theorem dX9_seize_1 : decode cX9_seize 1 = .ok (.iload_n 1, 1) := dq_27 (hz_wg wX9_seize_0 (j := 1) (n := 27) rfl)
theorem dX9_seize_2 : decode cX9_seize 2 = .ok (.invokevirtual 200, 3) := dq_182 (hz_wg wX9_seize_0 (j := 2) (n := 182) rfl) (hz_wg wX9_seize_0 (j := 3) (n := 0) rfl) (hz_wg wX9_seize_0 (j := 4) (n := 200) rfl) rfl
theorem dX9_seize_5 : decode cX9_seize 5 = .ok (.astore_n 3, 1) := dq_78 (hz_wg wX9_seize_0 (j := 5) (n := 78) rfl)
theorem dX9_seize_6 : decode cX9_seize 6 = .ok (.aload_n 3, 1) := dq_45 (hz_wg wX9_seize_0 (j := 6) (n := 45) rfl)
theorem dX9_seize_7 : decode cX9_seize 7 = .ok (.ifnull 22, 3) := dq_198 (hz_wg wX9_seize_0 (j := 7) (n := 198) rfl) (hz_wg wX9_seize_0 (j := 8) (n := 0) rfl) (hz_wg wX9_seize_0 (j := 9) (n := 22) rfl) (by decide)
theorem dX9_seize_10 : decode cX9_seize 10 = .ok (.aload_n 3, 1) := dq_45 (hz_wg wX9_seize_0 (j := 10) (n := 45) rfl)
theorem dX9_seize_11 : decode cX9_seize 11 = .ok (.getfield 289, 3) := dq_180 (hz_wg wX9_seize_0 (j := 11) (n := 180) rfl) (hz_wg wX9_seize_0 (j := 12) (n := 1) rfl) (hz_wg wX9_seize_0 (j := 13) (n := 33) rfl) rfl
theorem dX9_seize_14 : decode cX9_seize 14 = .ok (.iconst (-1), 1) := dq_2 (hz_wg wX9_seize_0 (j := 14) (n := 2) rfl)
theorem dX9_seize_15 : decode cX9_seize 15 = .ok (.if_icmp .ne 14, 3) := dq_160 (hz_wg wX9_seize_0 (j := 15) (n := 160) rfl) (hz_wg wX9_seize_0 (j := 16) (n := 0) rfl) (hz_wg wX9_seize_0 (j := 17) (n := 14) rfl) (by decide)
theorem dX9_seize_18 : decode cX9_seize 18 = .ok (.iload_n 2, 1) := dq_28 (hz_wg wX9_seize_0 (j := 18) (n := 28) rfl)
theorem dX9_seize_19 : decode cX9_seize 19 = .ok (.iconst 1, 1) := dq_4 (hz_wg wX9_seize_0 (j := 19) (n := 4) rfl)
theorem dX9_seize_20 : decode cX9_seize 20 = .ok (.sipush 9999, 3) := dq_17 (hz_wg wX9_seize_0 (j := 20) (n := 17) rfl) (hz_wg wX9_seize_0 (j := 21) (n := 39) rfl) (hz_wg wX9_seize_0 (j := 22) (n := 15) rfl) (by decide)
theorem dX9_seize_23 : decode cX9_seize 23 = .ok (.invokestatic 128, 3) := dq_184 (hz_wg wX9_seize_0 (j := 23) (n := 184) rfl) (hz_wg wX9_seize_0 (j := 24) (n := 0) rfl) (hz_wg wX9_seize_0 (j := 25) (n := 128) rfl) rfl
theorem dX9_seize_26 : decode cX9_seize 26 = .ok (.ifCond .ne 6, 3) := dq_154 (hz_wg wX9_seize_0 (j := 26) (n := 154) rfl) (hz_wg wX9_seize_0 (j := 27) (n := 0) rfl) (hz_wg wX9_seize_0 (j := 28) (n := 6) rfl) (by decide)
theorem dX9_seize_29 : decode cX9_seize 29 = .ok (.ldc 169, 2) := dq_18 (hz_wg wX9_seize_0 (j := 29) (n := 18) rfl) (hz_wg wX9_seize_0 (j := 30) (n := 169) rfl)
theorem dX9_seize_31 : decode cX9_seize 31 = .ok (.ireturn, 1) := dq_172 (hz_wg wX9_seize_0 (j := 31) (n := 172) rfl)
theorem dX9_seize_32 : decode cX9_seize 32 = .ok (.aload_n 3, 1) := dq_45 (hz_wg wX9_seize_0 (j := 32) (n := 45) rfl)
theorem dX9_seize_33 : decode cX9_seize 33 = .ok (.aload_n 0, 1) := dq_42 (hz_wg wX9_seize_0 (j := 33) (n := 42) rfl)
theorem dX9_seize_34 : decode cX9_seize 34 = .ok (.getfield 58, 3) := dq_180 (hz_wg wX9_seize_0 (j := 34) (n := 180) rfl) (hz_wg wX9_seize_0 (j := 35) (n := 0) rfl) (hz_wg wX9_seize_0 (j := 36) (n := 58) rfl) rfl
theorem dX9_seize_37 : decode cX9_seize 37 = .ok (.aload_n 0, 1) := dq_42 (hz_wg wX9_seize_0 (j := 37) (n := 42) rfl)
theorem dX9_seize_38 : decode cX9_seize 38 = .ok (.getfield 94, 3) := dq_180 (hz_wg wX9_seize_0 (j := 38) (n := 180) rfl) (hz_wg wX9_seize_0 (j := 39) (n := 0) rfl) (hz_wg wX9_seize_0 (j := 40) (n := 94) rfl) rfl
theorem dX9_seize_41 : decode cX9_seize 41 = .ok (.aload_n 0, 1) := dq_42 (hz_wg wX9_seize_0 (j := 41) (n := 42) rfl)
theorem dX9_seize_42 : decode cX9_seize 42 = .ok (.getfield 94, 3) := dq_180 (hz_wg wX9_seize_0 (j := 42) (n := 180) rfl) (hz_wg wX9_seize_0 (j := 43) (n := 0) rfl) (hz_wg wX9_seize_0 (j := 44) (n := 94) rfl) rfl
theorem dX9_seize_45 : decode cX9_seize 45 = .ok (.invokevirtual 292, 3) := dq_182 (hz_wg wX9_seize_0 (j := 45) (n := 182) rfl) (hz_wg wX9_seize_0 (j := 46) (n := 1) rfl) (hz_wg wX9_seize_0 (j := 47) (n := 36) rfl) rfl
theorem dX9_seize_48 : decode cX9_seize 48 = .ok (.istore 4, 2) := dq_54 (hz_wg wX9_seize_0 (j := 48) (n := 54) rfl) (hz_wg wX9_seize_0 (j := 49) (n := 4) rfl)
theorem dX9_seize_50 : decode cX9_seize 50 = .ok (.iload 4, 2) := dq_21 (hz_wg wX9_seize_0 (j := 50) (n := 21) rfl) (hz_wg wX9_seize_0 (j := 51) (n := 4) rfl)
theorem dX9_seize_52 : decode cX9_seize 52 = .ok (.iconst 5, 1) := dq_8 (hz_wg wX9_seize_0 (j := 52) (n := 8) rfl)
theorem dX9_seize_53 : decode cX9_seize 53 = .ok (.if_icmp .eq 13, 3) := dq_159 (hz_wg wX9_seize_0 (j := 53) (n := 159) rfl) (hz_wg wX9_seize_0 (j := 54) (n := 0) rfl) (hz_wg wX9_seize_0 (j := 55) (n := 13) rfl) (by decide)
theorem dX9_seize_56 : decode cX9_seize 56 = .ok (.iload 4, 2) := dq_21 (hz_wg wX9_seize_0 (j := 56) (n := 21) rfl) (hz_wg wX9_seize_0 (j := 57) (n := 4) rfl)
theorem dX9_seize_58 : decode cX9_seize 58 = .ok (.bipush 6, 2) := dq_16 (hz_wg wX9_seize_0 (j := 58) (n := 16) rfl) (hz_wg wX9_seize_0 (j := 59) (n := 6) rfl) (by decide)
theorem dX9_seize_60 : decode cX9_seize 60 = .ok (.if_icmp .eq 6, 3) := dq_159 (hz_wg wX9_seize_0 (j := 60) (n := 159) rfl) (hz_wg wX9_seize_0 (j := 61) (n := 0) rfl) (hz_wg wX9_seize_0 (j := 62) (n := 6) rfl) (by decide)
theorem dX9_seize_63 : decode cX9_seize 63 = .ok (.ldc 169, 2) := dq_18 (hz_wg wX9_seize_0 (j := 63) (n := 18) rfl) (hz_wg wX9_seize_1 (j := 0) (n := 169) rfl)
theorem dX9_seize_65 : decode cX9_seize 65 = .ok (.ireturn, 1) := dq_172 (hz_wg wX9_seize_1 (j := 1) (n := 172) rfl)
theorem dX9_seize_66 : decode cX9_seize 66 = .ok (.aload_n 3, 1) := dq_45 (hz_wg wX9_seize_1 (j := 2) (n := 45) rfl)
theorem dX9_seize_67 : decode cX9_seize 67 = .ok (.aload_n 0, 1) := dq_42 (hz_wg wX9_seize_1 (j := 3) (n := 42) rfl)
theorem dX9_seize_68 : decode cX9_seize 68 = .ok (.getfield 94, 3) := dq_180 (hz_wg wX9_seize_1 (j := 4) (n := 180) rfl) (hz_wg wX9_seize_1 (j := 5) (n := 0) rfl) (hz_wg wX9_seize_1 (j := 6) (n := 94) rfl) rfl
theorem dX9_seize_71 : decode cX9_seize 71 = .ok (.putfield 289, 3) := dq_181 (hz_wg wX9_seize_1 (j := 7) (n := 181) rfl) (hz_wg wX9_seize_1 (j := 8) (n := 1) rfl) (hz_wg wX9_seize_1 (j := 9) (n := 33) rfl) rfl
theorem dX9_seize_74 : decode cX9_seize 74 = .ok (.aload_n 3, 1) := dq_45 (hz_wg wX9_seize_1 (j := 10) (n := 45) rfl)
theorem dX9_seize_75 : decode cX9_seize 75 = .ok (.iload_n 2, 1) := dq_28 (hz_wg wX9_seize_1 (j := 11) (n := 28) rfl)
theorem dX9_seize_76 : decode cX9_seize 76 = .ok (.putfield 296, 3) := dq_181 (hz_wg wX9_seize_1 (j := 12) (n := 181) rfl) (hz_wg wX9_seize_1 (j := 13) (n := 1) rfl) (hz_wg wX9_seize_1 (j := 14) (n := 40) rfl) rfl
theorem dX9_seize_79 : decode cX9_seize 79 = .ok (.aload_n 3, 1) := dq_45 (hz_wg wX9_seize_1 (j := 15) (n := 45) rfl)
theorem dX9_seize_80 : decode cX9_seize 80 = .ok (.aload_n 0, 1) := dq_42 (hz_wg wX9_seize_1 (j := 16) (n := 42) rfl)
theorem dX9_seize_81 : decode cX9_seize 81 = .ok (.getfield 58, 3) := dq_180 (hz_wg wX9_seize_1 (j := 17) (n := 180) rfl) (hz_wg wX9_seize_1 (j := 18) (n := 0) rfl) (hz_wg wX9_seize_1 (j := 19) (n := 58) rfl) rfl
theorem dX9_seize_84 : decode cX9_seize 84 = .ok (.aload_n 0, 1) := dq_42 (hz_wg wX9_seize_1 (j := 20) (n := 42) rfl)
theorem dX9_seize_85 : decode cX9_seize 85 = .ok (.getfield 94, 3) := dq_180 (hz_wg wX9_seize_1 (j := 21) (n := 180) rfl) (hz_wg wX9_seize_1 (j := 22) (n := 0) rfl) (hz_wg wX9_seize_1 (j := 23) (n := 94) rfl) rfl
theorem dX9_seize_88 : decode cX9_seize 88 = .ok (.aload_n 0, 1) := dq_42 (hz_wg wX9_seize_1 (j := 24) (n := 42) rfl)
theorem dX9_seize_89 : decode cX9_seize 89 = .ok (.getfield 94, 3) := dq_180 (hz_wg wX9_seize_1 (j := 25) (n := 180) rfl) (hz_wg wX9_seize_1 (j := 26) (n := 0) rfl) (hz_wg wX9_seize_1 (j := 27) (n := 94) rfl) rfl
theorem dX9_seize_92 : decode cX9_seize 92 = .ok (.invokevirtual 299, 3) := dq_182 (hz_wg wX9_seize_1 (j := 28) (n := 182) rfl) (hz_wg wX9_seize_1 (j := 29) (n := 1) rfl) (hz_wg wX9_seize_1 (j := 30) (n := 43) rfl) rfl
theorem dX9_seize_95 : decode cX9_seize 95 = .ok (.ireturn, 1) := dq_172 (hz_wg wX9_seize_1 (j := 31) (n := 172) rfl)
set_option maxHeartbeats 4000000 in
set_option maxRecDepth 100000 in
theorem t_X9_seize (l : Launch) (dC : Nat → ClassId) (dI : Nat → Nat → Nat) (dA : Nat → ClassId) (L : List Nat) (h : hx_h) (sz : Nat) (b0 : hx_z) (x : Nat) (i1 : Int32) (i2 : Int32) (hT : hx_T T_tb L h) (gx : hx_g L h x 9) (qc : Nat) (gqc : hx_g L h qc 45) (f_x_10 : h.2.2 x 10 = some qc) (pf_x_11 : ∀ j : Nat, (j : Int) < (h.2.1 x 11).toInt → h.2.2 qc j ≠ none) : Met l yX9_seize (Cond.code yX9_seize cX9_seize 5 (some .int) :: hx_all) ({ frames := 5, cells := 0, slots := 0, locals := 120 }) (va_Pc [.ref x, .int i1, .int i2] (hx_BX T_tb (P_ty dA) (dC, dI) vwCl L h sz b0)) (va_Qi (fun (r : Int32) (u : List Nat × hx_h) => (True) ∧ hx_T T_tb u.1 u.2 ∧ hx_S T_tb [(2, 16), (2, 17)] L h u.1 u.2) (hx_E T_tb (P_ty dA) (dC, dI) vwCl (hx_A L sz)) (hx_A L sz)) 0 0 (hx_A L sz) := by
  refine hx_metX (lv := [(0, .ref x), (1, .int i1), (2, .int i2)]) (by decide +kernel) rfl (Nat.le_of_ble_eq_true rfl) rfl ?_
  intro p e s m below meth c hx hb hml hr hlk hts0 hown hin hsz hW hZ ls hl
  have hts : ∀ w ∈ hx_all, w.before _ s = true := fun w hw => hts0 w (List.mem_cons_of_mem _ hw)
  have hown : s.vm.findClass "SmallCourt" = some m.cls := hown
  have hM : hx_S T_tb [(2, 16), (2, 17)] L h L h := hx_S.rf
  refine lv_aload_n hx hb dX9_seize_0 rfl (lv_at hl 0 rfl) ?_
  refine lv_iload_n hx hb dX9_seize_1 rfl (lv_at hl 1 rfl) ?_
  refine hx_goq (hx_runV (As := [.int i1]) (rest := []) ⟨hx, hb, hml, hown, hts⟩ hW (gx.S hM) tt_9 (T := TX9) (N := 20) rfl (t_X9_claimAt l dC dI dA L h s.heap.size x i1 hT (gx.S hM) qc (gqc.S hM) ((hM.o gx trivial rfl).2.trans f_x_10) pf_x_11) (cwV 1 hts (hx_gV kw_810 kw_807 kw_809 kw_25 kw_94) rfl rfl rfl (by decide +kernel) ⟨Nat.le_of_ble_eq_true rfl, Nat.le_of_ble_eq_true rfl⟩) rfl hl.1 rfl (Nat.le_of_ble_eq_true rfl) dX9_seize_2 ⟨Nat.le_of_ble_eq_true rfl, Nat.le_of_ble_eq_true rfl⟩) hW (fun r_3 L_1 h_2 H locs p_4 hW => ?_)
  obtain ⟨hr_5, hT, hs⟩ := p_4
  replace hT : hx_T T_tb L_1 h_2 := hT
  replace hs : hx_S T_tb [] L h L_1 h_2 := hs
  replace pf_x_11 : ∀ j : Nat, (j : Int) < (h_2.2.1 x 11).toInt → h_2.2.2 qc j ≠ none := by
    intro j hj; rw [(hs.o (gx.S hM) trivial rfl).1] at hj; rw [(hs.a (gqc.S hM) rfl j).2]; exact pf_x_11 j hj
  replace hM := hM.tr (hs.mono (by decide))
  have hr_5 : ∀ q, r_3 = some q → hx_g L_1 h_2 q 2 := hr_5
  rcases r_3 with _ | q_6
  · skip
    refine lv_astore_nN (lv' := [(3, .null), (0, .ref x), (1, .int i1), (2, .int i2)]) hx hb dX9_seize_5 rfl hl (by decide) rfl (fun ls hl => ?_)
    refine lv_aload_nN hx hb dX9_seize_6 rfl (lv_at hl 0 rfl) ?_
    refine lv_ifnullN (tgt := 29) hx hb dX9_seize_7 (by decide) ?_
    refine lv_ldc (v := -1000000) hx hb hown (hts _ kw_684) dX9_seize_29 ?_
    exact hx_reti hx hb hr hlk hW ⟨trivial, hT, hM⟩ dX9_seize_31
  · have gq_6 := hr_5 _ rfl
    refine lv_astore_n (lv' := [(3, .ref q_6), (0, .ref x), (1, .int i1), (2, .int i2)]) hx hb dX9_seize_5 rfl hl (by decide) rfl (fun ls hl => ?_)
    refine lv_aload_n hx hb dX9_seize_6 rfl (lv_at hl 0 rfl) ?_
    refine lv_ifnull hx hb dX9_seize_7 ?_
    refine lv_aload_n hx hb dX9_seize_10 rfl (lv_at hl 0 rfl) ?_
    refine hx_geti hx hb hts hC_2 hown hW hT gq_6 tt_2 16 (by decide) rfl kw_759 ⟨rfl, rfl, rfl⟩ dX9_seize_11 (fun x_7 ex_7 lx_7 ux_7 => ?_)
    have fx_7 := ex_7.symm
    refine lv_iconst (v := -1) hx hb dX9_seize_14 (by decide) ?_
    refine hb_icmp_ne (zx := x_7.toInt) (zy := (-1)) (tgt := 29) hx hb rfl (by decide) dX9_seize_15 (by decide) (fun c_8 => ?_) (fun c_8 => ?_)
    · skip
      refine lv_ldc (v := -1000000) hx hb hown (hts _ kw_684) dX9_seize_29 ?_
      exact hx_reti hx hb hr hlk hW ⟨trivial, hT, hM⟩ dX9_seize_31
    · skip
      refine lv_iload_n hx hb dX9_seize_18 rfl (lv_at hl 3 rfl) ?_
      refine lv_iconst (v := 1) hx hb dX9_seize_19 (by decide) ?_
      refine lv_sipush (v := 9999) hx hb dX9_seize_20 (by decide) ?_
      have zc_9999 : (9999 : Int32).toInt = 9999 := by decide
      have zc_1 : (1 : Int32).toInt = 1 := by decide
      refine hx_goi (hx_runS (As := [.int i2, .int (1 : Int32), .int (9999 : Int32)]) (rest := []) ⟨hx, hb, hml, hown, hts⟩ hW (t_X9_isWithin l dC dI dA L_1 h_2 H.size i2 (1 : Int32) (9999 : Int32) hT) (va_cwS 3 hts (hx_gS kw_434 kw_432 kw_433 kw_94) rfl rfl rfl (by decide +kernel) ⟨Nat.le_of_ble_eq_true rfl, Nat.le_of_ble_eq_true rfl⟩) rfl hl.1 rfl (Nat.le_of_ble_eq_true rfl) dX9_seize_23 ⟨Nat.le_of_ble_eq_true rfl, Nat.le_of_ble_eq_true rfl⟩) hW (fun r_11 L_9 h_10 H locs p_12 hW => ?_)
      obtain ⟨hr_13, hT, hs⟩ := p_12
      replace hT : hx_T T_tb L_9 h_10 := hT
      replace hs : hx_S T_tb [] L_1 h_2 L_9 h_10 := hs
      replace fx_7 := (hs.o gq_6 trivial rfl).1.trans fx_7
      replace pf_x_11 : ∀ j : Nat, (j : Int) < (h_10.2.1 x 11).toInt → h_10.2.2 qc j ≠ none := by
        intro j hj; rw [(hs.o (gx.S hM) trivial rfl).1] at hj; rw [(hs.a (gqc.S hM) rfl j).2]; exact pf_x_11 j hj
      replace hM := hM.tr (hs.mono (by decide))
      replace gq_6 := gq_6.S hs
      refine hb_if_ne (zx := r_11.toInt) (tgt := 32) hx hb rfl dX9_seize_26 (by decide) (fun c_14 => ?_) (fun c_14 => ?_)
      · skip
        refine lv_aload_n hx hb dX9_seize_32 rfl (lv_at hl 0 rfl) ?_
        refine lv_aload_n hx hb dX9_seize_33 rfl (lv_at hl 1 rfl) ?_
        refine hx_getn hx hb hts hC_9 hown hW hT (gx.S hM) tt_9 14 (by decide) rfl kw_378 ⟨rfl, rfl, rfl⟩ dX9_seize_34 (fun q_15 fq_15 gq_15 => ?_)
        refine lv_aload_n hx hb dX9_seize_37 rfl (lv_at hl 1 rfl) ?_
        refine hx_geti hx hb hts hC_9 hown hW hT (gx.S hM) tt_9 2 (by decide) rfl kw_366 ⟨rfl, rfl, rfl⟩ dX9_seize_38 (fun x_16 ex_16 lx_16 ux_16 => ?_)
        have fx_16 := ex_16.symm
        refine lv_aload_n hx hb dX9_seize_41 rfl (lv_at hl 1 rfl) ?_
        refine hk_geti hx hb hts hC_9 hown hW (gx.S hM) tt_9 2 (by decide) rfl kw_366 ⟨rfl, rfl, rfl⟩ fx_16 dX9_seize_42 ?_
        refine hx_goi (hx_runVX (As := [.ref q_15, .int x_16, .int x_16]) (rest := []) ⟨hx, hb, hml, hown, hts⟩ hW gq_6 tt_2 (T := TX2) (N := 19) rfl (t_X2_stateOn l dC dI dA L_9 h_10 H.size b0 q_6 q_15 x_16 x_16 hT gq_6 gq_15) hZ (cwV 3 hts (hx_gV kw_907 kw_904 kw_905 kw_906 kw_110) rfl rfl rfl (by decide +kernel) ⟨Nat.le_of_ble_eq_true rfl, Nat.le_of_ble_eq_true rfl⟩) rfl hl.1 rfl (Nat.le_of_ble_eq_true rfl) dX9_seize_45 ⟨Nat.le_of_ble_eq_true rfl, Nat.le_of_ble_eq_true rfl⟩) hW (fun r_19 L_17 h_18 H locs p_20 hW => ?_)
        obtain ⟨hr_21, hT, hs⟩ := p_20
        replace hT : hx_T T_tb L_17 h_18 := hT
        replace hs : hx_S T_tb [] L_9 h_10 L_17 h_18 := hs
        replace fx_7 := (hs.o gq_6 trivial rfl).1.trans fx_7
        replace fq_15 := (hs.o (gx.S hM) trivial rfl).2.trans fq_15
        replace fx_16 := (hs.o (gx.S hM) trivial rfl).1.trans fx_16
        replace pf_x_11 : ∀ j : Nat, (j : Int) < (h_18.2.1 x 11).toInt → h_18.2.2 qc j ≠ none := by
          intro j hj; rw [(hs.o (gx.S hM) trivial rfl).1] at hj; rw [(hs.a (gqc.S hM) rfl j).2]; exact pf_x_11 j hj
        replace hM := hM.tr (hs.mono (by decide))
        replace gq_6 := gq_6.S hs
        replace gq_15 := gq_15.S hs
        refine lv_istore (lv' := [(4, .int r_19), (3, .ref q_6), (0, .ref x), (1, .int i1), (2, .int i2)]) hx hb dX9_seize_48 hl (by decide) rfl (fun ls hl => ?_)
        refine lv_iload hx hb dX9_seize_50 (lv_at hl 0 rfl) ?_
        refine lv_iconst (v := 5) hx hb dX9_seize_52 (by decide) ?_
        refine hb_icmp_eq (zx := r_19.toInt) (zy := 5) (tgt := 66) hx hb rfl (by decide) dX9_seize_53 (by decide) (fun c_22 => ?_) (fun c_22 => ?_)
        · skip
          refine lv_aload_n hx hb dX9_seize_66 rfl (lv_at hl 1 rfl) ?_
          refine lv_aload_n hx hb dX9_seize_67 rfl (lv_at hl 2 rfl) ?_
          refine hk_geti hx hb hts hC_9 hown hW (gx.S hM) tt_9 2 (by decide) rfl kw_366 ⟨rfl, rfl, rfl⟩ fx_16 dX9_seize_68 ?_
          refine hx_puti hx hb hts hC_2 hown hW hT (hx_S.rf (M := [(2, 16)])) gq_6 tt_2 16 (by decide) rfl kw_759 ⟨rfl, rfl, rfl⟩ rfl (x := x_16) (i32_r _) rfl rfl rfl (List.mem_singleton.mpr rfl) dX9_seize_71 (fun H locs h_23 eh_23 hW hT hs => ?_)
          replace fq_15 := (hs.o (gx.S hM) trivial rfl).2.trans fq_15
          replace fx_16 := (hs.o (gx.S hM) trivial rfl).1.trans fx_16
          replace pf_x_11 : ∀ j : Nat, (j : Int) < (h_23.2.1 x 11).toInt → h_23.2.2 qc j ≠ none := by
            intro j hj; rw [(hs.o (gx.S hM) trivial rfl).1] at hj; rw [(hs.a (gqc.S hM) rfl j).2]; exact pf_x_11 j hj
          replace hM := hM.tr (hs.mono (by decide))
          replace gq_6 := gq_6.S hs
          replace gq_15 := gq_15.S hs
          have f_24 : h_23.2.1 q_6 16 = x_16 := by rw [eh_23]; exact hx_pi_at _ _ _ _
          refine lv_aload_n hx hb dX9_seize_74 rfl (lv_at hl 1 rfl) ?_
          refine lv_iload_n hx hb dX9_seize_75 rfl (lv_at hl 4 rfl) ?_
          refine hx_puti hx hb hts hC_2 hown hW hT (hx_S.rf (M := [(2, 17)])) gq_6 tt_2 17 (by decide) rfl kw_761 ⟨rfl, rfl, rfl⟩ rfl (x := i2) (i32_r _) rfl rfl rfl (List.mem_singleton.mpr rfl) dX9_seize_76 (fun H locs h_25 eh_25 hW hT hs => ?_)
          replace fq_15 := (hs.o (gx.S hM) trivial rfl).2.trans fq_15
          replace fx_16 := (hs.o (gx.S hM) trivial rfl).1.trans fx_16
          replace f_24 := (hs.o gq_6 trivial rfl).1.trans f_24
          replace pf_x_11 : ∀ j : Nat, (j : Int) < (h_25.2.1 x 11).toInt → h_25.2.2 qc j ≠ none := by
            intro j hj; rw [(hs.o (gx.S hM) trivial rfl).1] at hj; rw [(hs.a (gqc.S hM) rfl j).2]; exact pf_x_11 j hj
          replace hM := hM.tr (hs.mono (by decide))
          replace gq_6 := gq_6.S hs
          replace gq_15 := gq_15.S hs
          have f_26 : h_25.2.1 q_6 17 = i2 := by rw [eh_25]; exact hx_pi_at _ _ _ _
          refine lv_aload_n hx hb dX9_seize_79 rfl (lv_at hl 1 rfl) ?_
          refine lv_aload_n hx hb dX9_seize_80 rfl (lv_at hl 2 rfl) ?_
          refine hk_getr hx hb hts hC_9 hown hW (gx.S hM) tt_9 14 (by decide) rfl kw_378 ⟨rfl, rfl, rfl⟩ fq_15 dX9_seize_81 ?_
          refine lv_aload_n hx hb dX9_seize_84 rfl (lv_at hl 2 rfl) ?_
          refine hk_geti hx hb hts hC_9 hown hW (gx.S hM) tt_9 2 (by decide) rfl kw_366 ⟨rfl, rfl, rfl⟩ fx_16 dX9_seize_85 ?_
          refine lv_aload_n hx hb dX9_seize_88 rfl (lv_at hl 2 rfl) ?_
          refine hk_geti hx hb hts hC_9 hown hW (gx.S hM) tt_9 2 (by decide) rfl kw_366 ⟨rfl, rfl, rfl⟩ fx_16 dX9_seize_89 ?_
          refine hx_goi (hx_runV (As := [.ref q_15, .int x_16, .int x_16]) (rest := []) ⟨hx, hb, hml, hown, hts⟩ hW gq_6 tt_2 (T := TX2) (N := 19) rfl (t_X2_balanceOn l dC dI dA L_17 h_25 H.size q_6 q_15 x_16 x_16 hT gq_6 gq_15) (cwV 3 hts (hx_gV kw_868 kw_922 kw_866 kw_867 kw_110) rfl rfl rfl (by decide +kernel) ⟨Nat.le_of_ble_eq_true rfl, Nat.le_of_ble_eq_true rfl⟩) rfl hl.1 rfl (Nat.le_of_ble_eq_true rfl) dX9_seize_92 ⟨Nat.le_of_ble_eq_true rfl, Nat.le_of_ble_eq_true rfl⟩) hW (fun r_29 L_27 h_28 H locs p_30 hW => ?_)
          obtain ⟨hr_31, hT, hs⟩ := p_30
          replace hT : hx_T T_tb L_27 h_28 := hT
          replace hs : hx_S T_tb [] L_17 h_25 L_27 h_28 := hs
          replace fq_15 := (hs.o (gx.S hM) trivial rfl).2.trans fq_15
          replace fx_16 := (hs.o (gx.S hM) trivial rfl).1.trans fx_16
          replace f_24 := (hs.o gq_6 trivial rfl).1.trans f_24
          replace f_26 := (hs.o gq_6 trivial rfl).1.trans f_26
          replace pf_x_11 : ∀ j : Nat, (j : Int) < (h_28.2.1 x 11).toInt → h_28.2.2 qc j ≠ none := by
            intro j hj; rw [(hs.o (gx.S hM) trivial rfl).1] at hj; rw [(hs.a (gqc.S hM) rfl j).2]; exact pf_x_11 j hj
          replace hM := hM.tr (hs.mono (by decide))
          replace gq_6 := gq_6.S hs
          replace gq_15 := gq_15.S hs
          exact hx_reti hx hb hr hlk hW ⟨trivial, hT, hM⟩ dX9_seize_95
        · skip
          refine lv_iload hx hb dX9_seize_56 (lv_at hl 0 rfl) ?_
          refine lv_bipush (v := 6) hx hb dX9_seize_58 (by decide) ?_
          refine hb_icmp_eq (zx := r_19.toInt) (zy := 6) (tgt := 66) hx hb rfl (by decide) dX9_seize_60 (by decide) (fun c_32 => ?_) (fun c_32 => ?_)
          · skip
            refine lv_aload_n hx hb dX9_seize_66 rfl (lv_at hl 1 rfl) ?_
            refine lv_aload_n hx hb dX9_seize_67 rfl (lv_at hl 2 rfl) ?_
            refine hk_geti hx hb hts hC_9 hown hW (gx.S hM) tt_9 2 (by decide) rfl kw_366 ⟨rfl, rfl, rfl⟩ fx_16 dX9_seize_68 ?_
            refine hx_puti hx hb hts hC_2 hown hW hT (hx_S.rf (M := [(2, 16)])) gq_6 tt_2 16 (by decide) rfl kw_759 ⟨rfl, rfl, rfl⟩ rfl (x := x_16) (i32_r _) rfl rfl rfl (List.mem_singleton.mpr rfl) dX9_seize_71 (fun H locs h_33 eh_33 hW hT hs => ?_)
            replace fq_15 := (hs.o (gx.S hM) trivial rfl).2.trans fq_15
            replace fx_16 := (hs.o (gx.S hM) trivial rfl).1.trans fx_16
            replace pf_x_11 : ∀ j : Nat, (j : Int) < (h_33.2.1 x 11).toInt → h_33.2.2 qc j ≠ none := by
              intro j hj; rw [(hs.o (gx.S hM) trivial rfl).1] at hj; rw [(hs.a (gqc.S hM) rfl j).2]; exact pf_x_11 j hj
            replace hM := hM.tr (hs.mono (by decide))
            replace gq_6 := gq_6.S hs
            replace gq_15 := gq_15.S hs
            have f_34 : h_33.2.1 q_6 16 = x_16 := by rw [eh_33]; exact hx_pi_at _ _ _ _
            refine lv_aload_n hx hb dX9_seize_74 rfl (lv_at hl 1 rfl) ?_
            refine lv_iload_n hx hb dX9_seize_75 rfl (lv_at hl 4 rfl) ?_
            refine hx_puti hx hb hts hC_2 hown hW hT (hx_S.rf (M := [(2, 17)])) gq_6 tt_2 17 (by decide) rfl kw_761 ⟨rfl, rfl, rfl⟩ rfl (x := i2) (i32_r _) rfl rfl rfl (List.mem_singleton.mpr rfl) dX9_seize_76 (fun H locs h_35 eh_35 hW hT hs => ?_)
            replace fq_15 := (hs.o (gx.S hM) trivial rfl).2.trans fq_15
            replace fx_16 := (hs.o (gx.S hM) trivial rfl).1.trans fx_16
            replace f_34 := (hs.o gq_6 trivial rfl).1.trans f_34
            replace pf_x_11 : ∀ j : Nat, (j : Int) < (h_35.2.1 x 11).toInt → h_35.2.2 qc j ≠ none := by
              intro j hj; rw [(hs.o (gx.S hM) trivial rfl).1] at hj; rw [(hs.a (gqc.S hM) rfl j).2]; exact pf_x_11 j hj
            replace hM := hM.tr (hs.mono (by decide))
            replace gq_6 := gq_6.S hs
            replace gq_15 := gq_15.S hs
            have f_36 : h_35.2.1 q_6 17 = i2 := by rw [eh_35]; exact hx_pi_at _ _ _ _
            refine lv_aload_n hx hb dX9_seize_79 rfl (lv_at hl 1 rfl) ?_
            refine lv_aload_n hx hb dX9_seize_80 rfl (lv_at hl 2 rfl) ?_
            refine hk_getr hx hb hts hC_9 hown hW (gx.S hM) tt_9 14 (by decide) rfl kw_378 ⟨rfl, rfl, rfl⟩ fq_15 dX9_seize_81 ?_
            refine lv_aload_n hx hb dX9_seize_84 rfl (lv_at hl 2 rfl) ?_
            refine hk_geti hx hb hts hC_9 hown hW (gx.S hM) tt_9 2 (by decide) rfl kw_366 ⟨rfl, rfl, rfl⟩ fx_16 dX9_seize_85 ?_
            refine lv_aload_n hx hb dX9_seize_88 rfl (lv_at hl 2 rfl) ?_
            refine hk_geti hx hb hts hC_9 hown hW (gx.S hM) tt_9 2 (by decide) rfl kw_366 ⟨rfl, rfl, rfl⟩ fx_16 dX9_seize_89 ?_
            refine hx_goi (hx_runV (As := [.ref q_15, .int x_16, .int x_16]) (rest := []) ⟨hx, hb, hml, hown, hts⟩ hW gq_6 tt_2 (T := TX2) (N := 19) rfl (t_X2_balanceOn l dC dI dA L_17 h_35 H.size q_6 q_15 x_16 x_16 hT gq_6 gq_15) (cwV 3 hts (hx_gV kw_868 kw_922 kw_866 kw_867 kw_110) rfl rfl rfl (by decide +kernel) ⟨Nat.le_of_ble_eq_true rfl, Nat.le_of_ble_eq_true rfl⟩) rfl hl.1 rfl (Nat.le_of_ble_eq_true rfl) dX9_seize_92 ⟨Nat.le_of_ble_eq_true rfl, Nat.le_of_ble_eq_true rfl⟩) hW (fun r_39 L_37 h_38 H locs p_40 hW => ?_)
            obtain ⟨hr_41, hT, hs⟩ := p_40
            replace hT : hx_T T_tb L_37 h_38 := hT
            replace hs : hx_S T_tb [] L_17 h_35 L_37 h_38 := hs
            replace fq_15 := (hs.o (gx.S hM) trivial rfl).2.trans fq_15
            replace fx_16 := (hs.o (gx.S hM) trivial rfl).1.trans fx_16
            replace f_34 := (hs.o gq_6 trivial rfl).1.trans f_34
            replace f_36 := (hs.o gq_6 trivial rfl).1.trans f_36
            replace pf_x_11 : ∀ j : Nat, (j : Int) < (h_38.2.1 x 11).toInt → h_38.2.2 qc j ≠ none := by
              intro j hj; rw [(hs.o (gx.S hM) trivial rfl).1] at hj; rw [(hs.a (gqc.S hM) rfl j).2]; exact pf_x_11 j hj
            replace hM := hM.tr (hs.mono (by decide))
            replace gq_6 := gq_6.S hs
            replace gq_15 := gq_15.S hs
            exact hx_reti hx hb hr hlk hW ⟨trivial, hT, hM⟩ dX9_seize_95
          · skip
            refine lv_ldc (v := -1000000) hx hb hown (hts _ kw_684) dX9_seize_63 ?_
            exact hx_reti hx hb hr hlk hW ⟨trivial, hT, hM⟩ dX9_seize_65
      · skip
        refine lv_ldc (v := -1000000) hx hb hown (hts _ kw_684) dX9_seize_29 ?_
        exact hx_reti hx hb hr hlk hW ⟨trivial, hT, hM⟩ dX9_seize_31

def wLX9_gaol_0 : List Nat := [42, 27, 182, 0, 200, 77, 44, 198, 0, 42, 44, 180, 1, 33, 2, 159, 0, 34, 44, 180, 0, 212, 180, 0, 148, 154, 0, 24, 44, 42, 180, 0, 58, 42, 180, 0, 94, 42, 180, 0, 94, 182, 1, 36, 16, 6, 159, 0, 5, 2, 172, 44, 42, 180, 0, 58, 42, 180, 0, 94, 42, 180, 0, 94]
def wLX9_gaol_1 : List Nat := [182, 1, 46, 16, 12, 184, 1, 49, 44, 180, 0, 226, 180, 0, 119, 16, 7, 46, 104, 62, 44, 42, 180, 0, 94, 181, 1, 23, 29, 44, 180, 0, 226, 180, 0, 119, 16, 8, 46, 184, 1, 53, 172]
theorem wX9_gaol_0 : (cX9_gaol.data.toList.map UInt8.toNat).drop 0 = wLX9_gaol_0 ++ (wLX9_gaol_1 ++ ([])) := by decide +kernel
theorem wX9_gaol_1 : (cX9_gaol.data.toList.map UInt8.toNat).drop 64 = wLX9_gaol_1 ++ ([]) := hz_wn wX9_gaol_0 rfl
theorem dX9_gaol_0 : decode cX9_gaol 0 = .ok (.aload_n 0, 1) := dq_42 (hz_wg wX9_gaol_0 (j := 0) (n := 42) rfl)
theorem dX9_gaol_1 : decode cX9_gaol 1 = .ok (.iload_n 1, 1) := dq_27 (hz_wg wX9_gaol_0 (j := 1) (n := 27) rfl)
theorem dX9_gaol_2 : decode cX9_gaol 2 = .ok (.invokevirtual 200, 3) := dq_182 (hz_wg wX9_gaol_0 (j := 2) (n := 182) rfl) (hz_wg wX9_gaol_0 (j := 3) (n := 0) rfl) (hz_wg wX9_gaol_0 (j := 4) (n := 200) rfl) rfl
theorem dX9_gaol_5 : decode cX9_gaol 5 = .ok (.astore_n 2, 1) := dq_77 (hz_wg wX9_gaol_0 (j := 5) (n := 77) rfl)
theorem dX9_gaol_6 : decode cX9_gaol 6 = .ok (.aload_n 2, 1) := dq_44 (hz_wg wX9_gaol_0 (j := 6) (n := 44) rfl)
theorem dX9_gaol_7 : decode cX9_gaol 7 = .ok (.ifnull 42, 3) := dq_198 (hz_wg wX9_gaol_0 (j := 7) (n := 198) rfl) (hz_wg wX9_gaol_0 (j := 8) (n := 0) rfl) (hz_wg wX9_gaol_0 (j := 9) (n := 42) rfl) (by decide)
theorem dX9_gaol_10 : decode cX9_gaol 10 = .ok (.aload_n 2, 1) := dq_44 (hz_wg wX9_gaol_0 (j := 10) (n := 44) rfl)
theorem dX9_gaol_11 : decode cX9_gaol 11 = .ok (.getfield 289, 3) := dq_180 (hz_wg wX9_gaol_0 (j := 11) (n := 180) rfl) (hz_wg wX9_gaol_0 (j := 12) (n := 1) rfl) (hz_wg wX9_gaol_0 (j := 13) (n := 33) rfl) rfl
theorem dX9_gaol_14 : decode cX9_gaol 14 = .ok (.iconst (-1), 1) := dq_2 (hz_wg wX9_gaol_0 (j := 14) (n := 2) rfl)
theorem dX9_gaol_15 : decode cX9_gaol 15 = .ok (.if_icmp .eq 34, 3) := dq_159 (hz_wg wX9_gaol_0 (j := 15) (n := 159) rfl) (hz_wg wX9_gaol_0 (j := 16) (n := 0) rfl) (hz_wg wX9_gaol_0 (j := 17) (n := 34) rfl) (by decide)
theorem dX9_gaol_18 : decode cX9_gaol 18 = .ok (.aload_n 2, 1) := dq_44 (hz_wg wX9_gaol_0 (j := 18) (n := 44) rfl)
theorem dX9_gaol_19 : decode cX9_gaol 19 = .ok (.getfield 212, 3) := dq_180 (hz_wg wX9_gaol_0 (j := 19) (n := 180) rfl) (hz_wg wX9_gaol_0 (j := 20) (n := 0) rfl) (hz_wg wX9_gaol_0 (j := 21) (n := 212) rfl) rfl
theorem dX9_gaol_22 : decode cX9_gaol 22 = .ok (.getfield 148, 3) := dq_180 (hz_wg wX9_gaol_0 (j := 22) (n := 180) rfl) (hz_wg wX9_gaol_0 (j := 23) (n := 0) rfl) (hz_wg wX9_gaol_0 (j := 24) (n := 148) rfl) rfl
theorem dX9_gaol_25 : decode cX9_gaol 25 = .ok (.ifCond .ne 24, 3) := dq_154 (hz_wg wX9_gaol_0 (j := 25) (n := 154) rfl) (hz_wg wX9_gaol_0 (j := 26) (n := 0) rfl) (hz_wg wX9_gaol_0 (j := 27) (n := 24) rfl) (by decide)
theorem dX9_gaol_28 : decode cX9_gaol 28 = .ok (.aload_n 2, 1) := dq_44 (hz_wg wX9_gaol_0 (j := 28) (n := 44) rfl)
theorem dX9_gaol_29 : decode cX9_gaol 29 = .ok (.aload_n 0, 1) := dq_42 (hz_wg wX9_gaol_0 (j := 29) (n := 42) rfl)
theorem dX9_gaol_30 : decode cX9_gaol 30 = .ok (.getfield 58, 3) := dq_180 (hz_wg wX9_gaol_0 (j := 30) (n := 180) rfl) (hz_wg wX9_gaol_0 (j := 31) (n := 0) rfl) (hz_wg wX9_gaol_0 (j := 32) (n := 58) rfl) rfl
theorem dX9_gaol_33 : decode cX9_gaol 33 = .ok (.aload_n 0, 1) := dq_42 (hz_wg wX9_gaol_0 (j := 33) (n := 42) rfl)
theorem dX9_gaol_34 : decode cX9_gaol 34 = .ok (.getfield 94, 3) := dq_180 (hz_wg wX9_gaol_0 (j := 34) (n := 180) rfl) (hz_wg wX9_gaol_0 (j := 35) (n := 0) rfl) (hz_wg wX9_gaol_0 (j := 36) (n := 94) rfl) rfl
theorem dX9_gaol_37 : decode cX9_gaol 37 = .ok (.aload_n 0, 1) := dq_42 (hz_wg wX9_gaol_0 (j := 37) (n := 42) rfl)
theorem dX9_gaol_38 : decode cX9_gaol 38 = .ok (.getfield 94, 3) := dq_180 (hz_wg wX9_gaol_0 (j := 38) (n := 180) rfl) (hz_wg wX9_gaol_0 (j := 39) (n := 0) rfl) (hz_wg wX9_gaol_0 (j := 40) (n := 94) rfl) rfl
theorem dX9_gaol_41 : decode cX9_gaol 41 = .ok (.invokevirtual 292, 3) := dq_182 (hz_wg wX9_gaol_0 (j := 41) (n := 182) rfl) (hz_wg wX9_gaol_0 (j := 42) (n := 1) rfl) (hz_wg wX9_gaol_0 (j := 43) (n := 36) rfl) rfl
theorem dX9_gaol_44 : decode cX9_gaol 44 = .ok (.bipush 6, 2) := dq_16 (hz_wg wX9_gaol_0 (j := 44) (n := 16) rfl) (hz_wg wX9_gaol_0 (j := 45) (n := 6) rfl) (by decide)
theorem dX9_gaol_46 : decode cX9_gaol 46 = .ok (.if_icmp .eq 5, 3) := dq_159 (hz_wg wX9_gaol_0 (j := 46) (n := 159) rfl) (hz_wg wX9_gaol_0 (j := 47) (n := 0) rfl) (hz_wg wX9_gaol_0 (j := 48) (n := 5) rfl) (by decide)
theorem dX9_gaol_49 : decode cX9_gaol 49 = .ok (.iconst (-1), 1) := dq_2 (hz_wg wX9_gaol_0 (j := 49) (n := 2) rfl)
theorem dX9_gaol_50 : decode cX9_gaol 50 = .ok (.ireturn, 1) := dq_172 (hz_wg wX9_gaol_0 (j := 50) (n := 172) rfl)
theorem dX9_gaol_51 : decode cX9_gaol 51 = .ok (.aload_n 2, 1) := dq_44 (hz_wg wX9_gaol_0 (j := 51) (n := 44) rfl)
theorem dX9_gaol_52 : decode cX9_gaol 52 = .ok (.aload_n 0, 1) := dq_42 (hz_wg wX9_gaol_0 (j := 52) (n := 42) rfl)
theorem dX9_gaol_53 : decode cX9_gaol 53 = .ok (.getfield 58, 3) := dq_180 (hz_wg wX9_gaol_0 (j := 53) (n := 180) rfl) (hz_wg wX9_gaol_0 (j := 54) (n := 0) rfl) (hz_wg wX9_gaol_0 (j := 55) (n := 58) rfl) rfl
theorem dX9_gaol_56 : decode cX9_gaol 56 = .ok (.aload_n 0, 1) := dq_42 (hz_wg wX9_gaol_0 (j := 56) (n := 42) rfl)
theorem dX9_gaol_57 : decode cX9_gaol 57 = .ok (.getfield 94, 3) := dq_180 (hz_wg wX9_gaol_0 (j := 57) (n := 180) rfl) (hz_wg wX9_gaol_0 (j := 58) (n := 0) rfl) (hz_wg wX9_gaol_0 (j := 59) (n := 94) rfl) rfl
theorem dX9_gaol_60 : decode cX9_gaol 60 = .ok (.aload_n 0, 1) := dq_42 (hz_wg wX9_gaol_0 (j := 60) (n := 42) rfl)
theorem dX9_gaol_61 : decode cX9_gaol 61 = .ok (.getfield 94, 3) := dq_180 (hz_wg wX9_gaol_0 (j := 61) (n := 180) rfl) (hz_wg wX9_gaol_0 (j := 62) (n := 0) rfl) (hz_wg wX9_gaol_0 (j := 63) (n := 94) rfl) rfl
theorem dX9_gaol_64 : decode cX9_gaol 64 = .ok (.invokevirtual 302, 3) := dq_182 (hz_wg wX9_gaol_1 (j := 0) (n := 182) rfl) (hz_wg wX9_gaol_1 (j := 1) (n := 1) rfl) (hz_wg wX9_gaol_1 (j := 2) (n := 46) rfl) rfl
theorem dX9_gaol_67 : decode cX9_gaol 67 = .ok (.bipush 12, 2) := dq_16 (hz_wg wX9_gaol_1 (j := 3) (n := 16) rfl) (hz_wg wX9_gaol_1 (j := 4) (n := 12) rfl) (by decide)
theorem dX9_gaol_69 : decode cX9_gaol 69 = .ok (.invokestatic 305, 3) := dq_184 (hz_wg wX9_gaol_1 (j := 5) (n := 184) rfl) (hz_wg wX9_gaol_1 (j := 6) (n := 1) rfl) (hz_wg wX9_gaol_1 (j := 7) (n := 49) rfl) rfl
theorem dX9_gaol_72 : decode cX9_gaol 72 = .ok (.aload_n 2, 1) := dq_44 (hz_wg wX9_gaol_1 (j := 8) (n := 44) rfl)
theorem dX9_gaol_73 : decode cX9_gaol 73 = .ok (.getfield 226, 3) := dq_180 (hz_wg wX9_gaol_1 (j := 9) (n := 180) rfl) (hz_wg wX9_gaol_1 (j := 10) (n := 0) rfl) (hz_wg wX9_gaol_1 (j := 11) (n := 226) rfl) rfl
theorem dX9_gaol_76 : decode cX9_gaol 76 = .ok (.getfield 119, 3) := dq_180 (hz_wg wX9_gaol_1 (j := 12) (n := 180) rfl) (hz_wg wX9_gaol_1 (j := 13) (n := 0) rfl) (hz_wg wX9_gaol_1 (j := 14) (n := 119) rfl) rfl
theorem dX9_gaol_79 : decode cX9_gaol 79 = .ok (.bipush 7, 2) := dq_16 (hz_wg wX9_gaol_1 (j := 15) (n := 16) rfl) (hz_wg wX9_gaol_1 (j := 16) (n := 7) rfl) (by decide)
theorem dX9_gaol_81 : decode cX9_gaol 81 = .ok (.iaload, 1) := dq_46 (hz_wg wX9_gaol_1 (j := 17) (n := 46) rfl)
theorem dX9_gaol_82 : decode cX9_gaol 82 = .ok (.imul, 1) := dq_104 (hz_wg wX9_gaol_1 (j := 18) (n := 104) rfl)
theorem dX9_gaol_83 : decode cX9_gaol 83 = .ok (.istore_n 3, 1) := dq_62 (hz_wg wX9_gaol_1 (j := 19) (n := 62) rfl)
theorem dX9_gaol_84 : decode cX9_gaol 84 = .ok (.aload_n 2, 1) := dq_44 (hz_wg wX9_gaol_1 (j := 20) (n := 44) rfl)
theorem dX9_gaol_85 : decode cX9_gaol 85 = .ok (.aload_n 0, 1) := dq_42 (hz_wg wX9_gaol_1 (j := 21) (n := 42) rfl)
theorem dX9_gaol_86 : decode cX9_gaol 86 = .ok (.getfield 94, 3) := dq_180 (hz_wg wX9_gaol_1 (j := 22) (n := 180) rfl) (hz_wg wX9_gaol_1 (j := 23) (n := 0) rfl) (hz_wg wX9_gaol_1 (j := 24) (n := 94) rfl) rfl
theorem dX9_gaol_89 : decode cX9_gaol 89 = .ok (.putfield 279, 3) := dq_181 (hz_wg wX9_gaol_1 (j := 25) (n := 181) rfl) (hz_wg wX9_gaol_1 (j := 26) (n := 1) rfl) (hz_wg wX9_gaol_1 (j := 27) (n := 23) rfl) rfl
theorem dX9_gaol_92 : decode cX9_gaol 92 = .ok (.iload_n 3, 1) := dq_29 (hz_wg wX9_gaol_1 (j := 28) (n := 29) rfl)
theorem dX9_gaol_93 : decode cX9_gaol 93 = .ok (.aload_n 2, 1) := dq_44 (hz_wg wX9_gaol_1 (j := 29) (n := 44) rfl)
theorem dX9_gaol_94 : decode cX9_gaol 94 = .ok (.getfield 226, 3) := dq_180 (hz_wg wX9_gaol_1 (j := 30) (n := 180) rfl) (hz_wg wX9_gaol_1 (j := 31) (n := 0) rfl) (hz_wg wX9_gaol_1 (j := 32) (n := 226) rfl) rfl
theorem dX9_gaol_97 : decode cX9_gaol 97 = .ok (.getfield 119, 3) := dq_180 (hz_wg wX9_gaol_1 (j := 33) (n := 180) rfl) (hz_wg wX9_gaol_1 (j := 34) (n := 0) rfl) (hz_wg wX9_gaol_1 (j := 35) (n := 119) rfl) rfl
theorem dX9_gaol_100 : decode cX9_gaol 100 = .ok (.bipush 8, 2) := dq_16 (hz_wg wX9_gaol_1 (j := 36) (n := 16) rfl) (hz_wg wX9_gaol_1 (j := 37) (n := 8) rfl) (by decide)
theorem dX9_gaol_102 : decode cX9_gaol 102 = .ok (.iaload, 1) := dq_46 (hz_wg wX9_gaol_1 (j := 38) (n := 46) rfl)
theorem dX9_gaol_103 : decode cX9_gaol 103 = .ok (.invokestatic 309, 3) := dq_184 (hz_wg wX9_gaol_1 (j := 39) (n := 184) rfl) (hz_wg wX9_gaol_1 (j := 40) (n := 1) rfl) (hz_wg wX9_gaol_1 (j := 41) (n := 53) rfl) rfl
theorem dX9_gaol_106 : decode cX9_gaol 106 = .ok (.ireturn, 1) := dq_172 (hz_wg wX9_gaol_1 (j := 42) (n := 172) rfl)
set_option maxHeartbeats 4000000 in
set_option maxRecDepth 100000 in
theorem t_X9_gaol (l : Launch) (dC : Nat → ClassId) (dI : Nat → Nat → Nat) (dA : Nat → ClassId) (L : List Nat) (h : hx_h) (sz : Nat) (b0 : hx_z) (x : Nat) (i1 : Int32) (hT : hx_T T_tb L h) (gx : hx_g L h x 9) (qc : Nat) (gqc : hx_g L h qc 45) (f_x_10 : h.2.2 x 10 = some qc) (pf_x_11 : ∀ j : Nat, (j : Int) < (h.2.1 x 11).toInt → h.2.2 qc j ≠ none) : Met l yX9_gaol (Cond.code yX9_gaol cX9_gaol 4 (some .int) :: hx_all) ({ frames := 5, cells := 0, slots := 0, locals := 120 }) (va_Pc [.ref x, .int i1] (hx_BX T_tb (P_ty dA) (dC, dI) vwCl L h sz b0)) (va_Qi (fun (r : Int32) (u : List Nat × hx_h) => (True) ∧ hx_T T_tb u.1 u.2 ∧ hx_S T_tb [(2, 18)] L h u.1 u.2) (hx_E T_tb (P_ty dA) (dC, dI) vwCl (hx_A L sz)) (hx_A L sz)) 0 0 (hx_A L sz) := by
  refine hx_metX (lv := [(0, .ref x), (1, .int i1)]) (by decide +kernel) rfl (Nat.le_of_ble_eq_true rfl) rfl ?_
  intro p e s m below meth c hx hb hml hr hlk hts0 hown hin hsz hW hZ ls hl
  have hts : ∀ w ∈ hx_all, w.before _ s = true := fun w hw => hts0 w (List.mem_cons_of_mem _ hw)
  have hown : s.vm.findClass "SmallCourt" = some m.cls := hown
  have hM : hx_S T_tb [(2, 18)] L h L h := hx_S.rf
  refine lv_aload_n hx hb dX9_gaol_0 rfl (lv_at hl 0 rfl) ?_
  refine lv_iload_n hx hb dX9_gaol_1 rfl (lv_at hl 1 rfl) ?_
  refine hx_goq (hx_runV (As := [.int i1]) (rest := []) ⟨hx, hb, hml, hown, hts⟩ hW (gx.S hM) tt_9 (T := TX9) (N := 20) rfl (t_X9_claimAt l dC dI dA L h s.heap.size x i1 hT (gx.S hM) qc (gqc.S hM) ((hM.o gx trivial rfl).2.trans f_x_10) pf_x_11) (cwV 1 hts (hx_gV kw_810 kw_807 kw_809 kw_25 kw_94) rfl rfl rfl (by decide +kernel) ⟨Nat.le_of_ble_eq_true rfl, Nat.le_of_ble_eq_true rfl⟩) rfl hl.1 rfl (Nat.le_of_ble_eq_true rfl) dX9_gaol_2 ⟨Nat.le_of_ble_eq_true rfl, Nat.le_of_ble_eq_true rfl⟩) hW (fun r_3 L_1 h_2 H locs p_4 hW => ?_)
  obtain ⟨hr_5, hT, hs⟩ := p_4
  replace hT : hx_T T_tb L_1 h_2 := hT
  replace hs : hx_S T_tb [] L h L_1 h_2 := hs
  replace pf_x_11 : ∀ j : Nat, (j : Int) < (h_2.2.1 x 11).toInt → h_2.2.2 qc j ≠ none := by
    intro j hj; rw [(hs.o (gx.S hM) trivial rfl).1] at hj; rw [(hs.a (gqc.S hM) rfl j).2]; exact pf_x_11 j hj
  replace hM := hM.tr (hs.mono (by decide))
  have hr_5 : ∀ q, r_3 = some q → hx_g L_1 h_2 q 2 := hr_5
  rcases r_3 with _ | q_6
  · skip
    refine lv_astore_nN (lv' := [(2, .null), (0, .ref x), (1, .int i1)]) hx hb dX9_gaol_5 rfl hl (by decide) rfl (fun ls hl => ?_)
    refine lv_aload_nN hx hb dX9_gaol_6 rfl (lv_at hl 0 rfl) ?_
    refine lv_ifnullN (tgt := 49) hx hb dX9_gaol_7 (by decide) ?_
    refine lv_iconst (v := -1) hx hb dX9_gaol_49 (by decide) ?_
    exact hx_reti hx hb hr hlk hW ⟨trivial, hT, hM⟩ dX9_gaol_50
  · have gq_6 := hr_5 _ rfl
    refine lv_astore_n (lv' := [(2, .ref q_6), (0, .ref x), (1, .int i1)]) hx hb dX9_gaol_5 rfl hl (by decide) rfl (fun ls hl => ?_)
    refine lv_aload_n hx hb dX9_gaol_6 rfl (lv_at hl 0 rfl) ?_
    refine lv_ifnull hx hb dX9_gaol_7 ?_
    refine lv_aload_n hx hb dX9_gaol_10 rfl (lv_at hl 0 rfl) ?_
    refine hx_geti hx hb hts hC_2 hown hW hT gq_6 tt_2 16 (by decide) rfl kw_759 ⟨rfl, rfl, rfl⟩ dX9_gaol_11 (fun x_7 ex_7 lx_7 ux_7 => ?_)
    have fx_7 := ex_7.symm
    refine lv_iconst (v := -1) hx hb dX9_gaol_14 (by decide) ?_
    refine hb_icmp_eq (zx := x_7.toInt) (zy := (-1)) (tgt := 49) hx hb rfl (by decide) dX9_gaol_15 (by decide) (fun c_8 => ?_) (fun c_8 => ?_)
    · skip
      refine lv_iconst (v := -1) hx hb dX9_gaol_49 (by decide) ?_
      exact hx_reti hx hb hr hlk hW ⟨trivial, hT, hM⟩ dX9_gaol_50
    · skip
      refine lv_aload_n hx hb dX9_gaol_18 rfl (lv_at hl 0 rfl) ?_
      refine hx_getn hx hb hts hC_2 hown hW hT gq_6 tt_2 2 (by decide) rfl kw_733 ⟨rfl, rfl, rfl⟩ dX9_gaol_19 (fun q_9 fq_9 gq_9 => ?_)
      refine hx_geti hx hb hts hC_4 hown hW hT gq_9 tt_4 7 (by decide) rfl kw_623 ⟨rfl, rfl, rfl⟩ dX9_gaol_22 (fun x_10 ex_10 lx_10 ux_10 => ?_)
      have fx_10 := ex_10.symm
      refine hb_if_ne (zx := x_10.toInt) (tgt := 49) hx hb rfl dX9_gaol_25 (by decide) (fun c_11 => ?_) (fun c_11 => ?_)
      · skip
        refine lv_iconst (v := -1) hx hb dX9_gaol_49 (by decide) ?_
        exact hx_reti hx hb hr hlk hW ⟨trivial, hT, hM⟩ dX9_gaol_50
      · skip
        refine lv_aload_n hx hb dX9_gaol_28 rfl (lv_at hl 0 rfl) ?_
        refine lv_aload_n hx hb dX9_gaol_29 rfl (lv_at hl 1 rfl) ?_
        refine hx_getn hx hb hts hC_9 hown hW hT (gx.S hM) tt_9 14 (by decide) rfl kw_378 ⟨rfl, rfl, rfl⟩ dX9_gaol_30 (fun q_12 fq_12 gq_12 => ?_)
        refine lv_aload_n hx hb dX9_gaol_33 rfl (lv_at hl 1 rfl) ?_
        refine hx_geti hx hb hts hC_9 hown hW hT (gx.S hM) tt_9 2 (by decide) rfl kw_366 ⟨rfl, rfl, rfl⟩ dX9_gaol_34 (fun x_13 ex_13 lx_13 ux_13 => ?_)
        have fx_13 := ex_13.symm
        refine lv_aload_n hx hb dX9_gaol_37 rfl (lv_at hl 1 rfl) ?_
        refine hk_geti hx hb hts hC_9 hown hW (gx.S hM) tt_9 2 (by decide) rfl kw_366 ⟨rfl, rfl, rfl⟩ fx_13 dX9_gaol_38 ?_
        refine hx_goi (hx_runVX (As := [.ref q_12, .int x_13, .int x_13]) (rest := []) ⟨hx, hb, hml, hown, hts⟩ hW gq_6 tt_2 (T := TX2) (N := 19) rfl (t_X2_stateOn l dC dI dA L_1 h_2 H.size b0 q_6 q_12 x_13 x_13 hT gq_6 gq_12) hZ (cwV 3 hts (hx_gV kw_907 kw_904 kw_905 kw_906 kw_110) rfl rfl rfl (by decide +kernel) ⟨Nat.le_of_ble_eq_true rfl, Nat.le_of_ble_eq_true rfl⟩) rfl hl.1 rfl (Nat.le_of_ble_eq_true rfl) dX9_gaol_41 ⟨Nat.le_of_ble_eq_true rfl, Nat.le_of_ble_eq_true rfl⟩) hW (fun r_16 L_14 h_15 H locs p_17 hW => ?_)
        obtain ⟨hr_18, hT, hs⟩ := p_17
        replace hT : hx_T T_tb L_14 h_15 := hT
        replace hs : hx_S T_tb [] L_1 h_2 L_14 h_15 := hs
        replace fx_7 := (hs.o gq_6 trivial rfl).1.trans fx_7
        replace fq_9 := (hs.o gq_6 trivial rfl).2.trans fq_9
        replace fx_10 := (hs.o gq_9 trivial rfl).1.trans fx_10
        replace fq_12 := (hs.o (gx.S hM) trivial rfl).2.trans fq_12
        replace fx_13 := (hs.o (gx.S hM) trivial rfl).1.trans fx_13
        replace pf_x_11 : ∀ j : Nat, (j : Int) < (h_15.2.1 x 11).toInt → h_15.2.2 qc j ≠ none := by
          intro j hj; rw [(hs.o (gx.S hM) trivial rfl).1] at hj; rw [(hs.a (gqc.S hM) rfl j).2]; exact pf_x_11 j hj
        replace hM := hM.tr (hs.mono (by decide))
        replace gq_6 := gq_6.S hs
        replace gq_9 := gq_9.S hs
        replace gq_12 := gq_12.S hs
        refine lv_bipush (v := 6) hx hb dX9_gaol_44 (by decide) ?_
        refine hb_icmp_eq (zx := r_16.toInt) (zy := 6) (tgt := 51) hx hb rfl (by decide) dX9_gaol_46 (by decide) (fun c_19 => ?_) (fun c_19 => ?_)
        · skip
          refine lv_aload_n hx hb dX9_gaol_51 rfl (lv_at hl 0 rfl) ?_
          refine lv_aload_n hx hb dX9_gaol_52 rfl (lv_at hl 1 rfl) ?_
          refine hk_getr hx hb hts hC_9 hown hW (gx.S hM) tt_9 14 (by decide) rfl kw_378 ⟨rfl, rfl, rfl⟩ fq_12 dX9_gaol_53 ?_
          refine lv_aload_n hx hb dX9_gaol_56 rfl (lv_at hl 1 rfl) ?_
          refine hk_geti hx hb hts hC_9 hown hW (gx.S hM) tt_9 2 (by decide) rfl kw_366 ⟨rfl, rfl, rfl⟩ fx_13 dX9_gaol_57 ?_
          refine lv_aload_n hx hb dX9_gaol_60 rfl (lv_at hl 1 rfl) ?_
          refine hk_geti hx hb hts hC_9 hown hW (gx.S hM) tt_9 2 (by decide) rfl kw_366 ⟨rfl, rfl, rfl⟩ fx_13 dX9_gaol_61 ?_
          refine hx_goi (hx_runV (As := [.ref q_12, .int x_13, .int x_13]) (rest := []) ⟨hx, hb, hml, hown, hts⟩ hW gq_6 tt_2 (T := TX2) (N := 19) rfl (t_X2_restOn l dC dI dA L_14 h_15 H.size q_6 q_12 x_13 x_13 hT gq_6 gq_12) (cwV 3 hts (hx_gV kw_861 kw_927 kw_859 kw_860 kw_110) rfl rfl rfl (by decide +kernel) ⟨Nat.le_of_ble_eq_true rfl, Nat.le_of_ble_eq_true rfl⟩) rfl hl.1 rfl (Nat.le_of_ble_eq_true rfl) dX9_gaol_64 ⟨Nat.le_of_ble_eq_true rfl, Nat.le_of_ble_eq_true rfl⟩) hW (fun r_22 L_20 h_21 H locs p_23 hW => ?_)
          obtain ⟨hr_24, hT, hs⟩ := p_23
          replace hT : hx_T T_tb L_20 h_21 := hT
          replace hs : hx_S T_tb [] L_14 h_15 L_20 h_21 := hs
          replace fx_7 := (hs.o gq_6 trivial rfl).1.trans fx_7
          replace fq_9 := (hs.o gq_6 trivial rfl).2.trans fq_9
          replace fx_10 := (hs.o gq_9 trivial rfl).1.trans fx_10
          replace fq_12 := (hs.o (gx.S hM) trivial rfl).2.trans fq_12
          replace fx_13 := (hs.o (gx.S hM) trivial rfl).1.trans fx_13
          replace pf_x_11 : ∀ j : Nat, (j : Int) < (h_21.2.1 x 11).toInt → h_21.2.2 qc j ≠ none := by
            intro j hj; rw [(hs.o (gx.S hM) trivial rfl).1] at hj; rw [(hs.a (gqc.S hM) rfl j).2]; exact pf_x_11 j hj
          replace hM := hM.tr (hs.mono (by decide))
          replace gq_6 := gq_6.S hs
          replace gq_9 := gq_9.S hs
          replace gq_12 := gq_12.S hs
          refine lv_bipush (v := 12) hx hb dX9_gaol_67 (by decide) ?_
          have zc_12 : (12 : Int32).toInt = 12 := by decide
          refine hx_goi (hx_runS (As := [.int r_22, .int (12 : Int32)]) (rest := []) ⟨hx, hb, hml, hown, hts⟩ hW (t_X9_roundUp l dC dI dA L_20 h_21 H.size r_22 (12 : Int32) hT) (va_cwS 2 hts (hx_gS kw_921 kw_928 kw_920 kw_94) rfl rfl rfl (by decide +kernel) ⟨Nat.le_of_ble_eq_true rfl, Nat.le_of_ble_eq_true rfl⟩) rfl hl.1 rfl (Nat.le_of_ble_eq_true rfl) dX9_gaol_69 ⟨Nat.le_of_ble_eq_true rfl, Nat.le_of_ble_eq_true rfl⟩) hW (fun r_27 L_25 h_26 H locs p_28 hW => ?_)
          obtain ⟨hr_29, hT, hs⟩ := p_28
          replace hT : hx_T T_tb L_25 h_26 := hT
          replace hs : hx_S T_tb [] L_20 h_21 L_25 h_26 := hs
          replace fx_7 := (hs.o gq_6 trivial rfl).1.trans fx_7
          replace fq_9 := (hs.o gq_6 trivial rfl).2.trans fq_9
          replace fx_10 := (hs.o gq_9 trivial rfl).1.trans fx_10
          replace fq_12 := (hs.o (gx.S hM) trivial rfl).2.trans fq_12
          replace fx_13 := (hs.o (gx.S hM) trivial rfl).1.trans fx_13
          replace pf_x_11 : ∀ j : Nat, (j : Int) < (h_26.2.1 x 11).toInt → h_26.2.2 qc j ≠ none := by
            intro j hj; rw [(hs.o (gx.S hM) trivial rfl).1] at hj; rw [(hs.a (gqc.S hM) rfl j).2]; exact pf_x_11 j hj
          replace hM := hM.tr (hs.mono (by decide))
          replace gq_6 := gq_6.S hs
          replace gq_9 := gq_9.S hs
          replace gq_12 := gq_12.S hs
          refine lv_aload_n hx hb dX9_gaol_72 rfl (lv_at hl 0 rfl) ?_
          refine hx_getn hx hb hts hC_2 hown hW hT gq_6 tt_2 3 (by decide) rfl kw_736 ⟨rfl, rfl, rfl⟩ dX9_gaol_73 (fun q_30 fq_30 gq_30 => ?_)
          refine hx_getn hx hb hts hC_0 hown hW hT gq_30 tt_0 2 (by decide) rfl kw_170 ⟨rfl, rfl, rfl⟩ dX9_gaol_76 (fun q_31 fq_31 gq_31 => ?_)
          refine lv_bipush (v := 7) hx hb dX9_gaol_79 (by decide) ?_
          refine hx_iald hx hb hW hT gq_31 tt_11 rfl (by decide) dX9_gaol_81 (fun x_32 ex_32 lx_32 ux_32 => ?_)
          refine lv_imul hx hb dX9_gaol_82 ?_
          refine lv_topi (fun x_33 ex_33 => ?_)
          have mx_33 : r_27.toInt = 0 → x_33.toInt = 0 := fun z => by rw [ex_33]; exact hx_mul0 z
          refine lv_istore_n (lv' := [(3, .int x_33), (2, .ref q_6), (0, .ref x), (1, .int i1)]) hx hb dX9_gaol_83 rfl hl (by decide) rfl (fun ls hl => ?_)
          refine lv_aload_n hx hb dX9_gaol_84 rfl (lv_at hl 1 rfl) ?_
          refine lv_aload_n hx hb dX9_gaol_85 rfl (lv_at hl 2 rfl) ?_
          refine hk_geti hx hb hts hC_9 hown hW (gx.S hM) tt_9 2 (by decide) rfl kw_366 ⟨rfl, rfl, rfl⟩ fx_13 dX9_gaol_86 ?_
          refine hx_puti hx hb hts hC_2 hown hW hT (hx_S.rf (M := [(2, 18)])) gq_6 tt_2 18 (by decide) rfl kw_763 ⟨rfl, rfl, rfl⟩ rfl (x := x_13) (i32_r _) rfl rfl rfl (List.mem_singleton.mpr rfl) dX9_gaol_89 (fun H locs h_34 eh_34 hW hT hs => ?_)
          replace fx_7 := (hs.o gq_6 trivial rfl).1.trans fx_7
          replace fq_9 := (hs.o gq_6 trivial rfl).2.trans fq_9
          replace fx_10 := (hs.o gq_9 trivial rfl).1.trans fx_10
          replace fq_12 := (hs.o (gx.S hM) trivial rfl).2.trans fq_12
          replace fx_13 := (hs.o (gx.S hM) trivial rfl).1.trans fx_13
          replace fq_30 := (hs.o gq_6 trivial rfl).2.trans fq_30
          replace fq_31 := (hs.o gq_30 trivial rfl).2.trans fq_31
          replace pf_x_11 : ∀ j : Nat, (j : Int) < (h_34.2.1 x 11).toInt → h_34.2.2 qc j ≠ none := by
            intro j hj; rw [(hs.o (gx.S hM) trivial rfl).1] at hj; rw [(hs.a (gqc.S hM) rfl j).2]; exact pf_x_11 j hj
          replace ex_32 := ex_32.trans (hs.a gq_31 rfl _).1.symm
          replace hM := hM.tr (hs.mono (by decide))
          replace gq_6 := gq_6.S hs
          replace gq_9 := gq_9.S hs
          replace gq_12 := gq_12.S hs
          replace gq_30 := gq_30.S hs
          replace gq_31 := gq_31.S hs
          have f_35 : h_34.2.1 q_6 18 = x_13 := by rw [eh_34]; exact hx_pi_at _ _ _ _
          refine lv_iload_n hx hb dX9_gaol_92 rfl (lv_at hl 0 rfl) ?_
          refine lv_aload_n hx hb dX9_gaol_93 rfl (lv_at hl 1 rfl) ?_
          refine hk_getr hx hb hts hC_2 hown hW gq_6 tt_2 3 (by decide) rfl kw_736 ⟨rfl, rfl, rfl⟩ fq_30 dX9_gaol_94 ?_
          refine hk_getr hx hb hts hC_0 hown hW gq_30 tt_0 2 (by decide) rfl kw_170 ⟨rfl, rfl, rfl⟩ fq_31 dX9_gaol_97 ?_
          refine lv_bipush (v := 8) hx hb dX9_gaol_100 (by decide) ?_
          refine hx_iald hx hb hW hT gq_31 tt_11 rfl (by decide) dX9_gaol_102 (fun x_36 ex_36 lx_36 ux_36 => ?_)
          refine va_mmin hx hb (hml.trans hl.1.symm) hown (hts _ kw_929) (hts _ kw_917) (hts _ kw_109) (hts _ kw_918) (Nat.le_of_ble_eq_true rfl) (Nat.le_of_ble_eq_true rfl) (Nat.le_of_ble_eq_true rfl) (Nat.le_of_ble_eq_true rfl) dX9_gaol_103 ?_
          refine lv_topi (fun x_37 ex_37 => ?_)
          exact hx_reti hx hb hr hlk hW ⟨trivial, hT, hM⟩ dX9_gaol_106
        · skip
          refine lv_iconst (v := -1) hx hb dX9_gaol_49 (by decide) ?_
          exact hx_reti hx hb hr hlk hW ⟨trivial, hT, hM⟩ dX9_gaol_50

def wLX9_claim_0 : List Nat := [42, 27, 182, 0, 200, 78, 45, 199, 0, 5, 2, 172, 28, 170, 0, 0, 0, 0, 0, 165, 0, 0, 0, 0, 0, 0, 0, 13, 0, 0, 0, 71, 0, 0, 0, 79, 0, 0, 0, 87, 0, 0, 0, 92, 0, 0, 0, 97, 0, 0, 0, 102, 0, 0, 0, 107, 0, 0, 0, 114, 0, 0, 0, 121]
def wLX9_claim_1 : List Nat := [0, 0, 0, 128, 0, 0, 0, 133, 0, 0, 0, 138, 0, 0, 0, 143, 0, 0, 0, 151, 45, 180, 0, 223, 180, 0, 143, 172, 45, 180, 0, 212, 180, 0, 143, 172, 45, 180, 0, 187, 172, 45, 180, 0, 193, 172, 45, 180, 0, 207, 172, 45, 180, 0, 233, 172, 45, 180, 0, 240, 3, 46, 172, 45]
def wLX9_claim_2 : List Nat := [180, 0, 240, 4, 46, 172, 45, 180, 0, 240, 5, 46, 172, 45, 180, 0, 253, 172, 45, 180, 1, 15, 172, 45, 180, 1, 12, 172, 45, 180, 0, 226, 180, 0, 112, 172, 45, 180, 1, 33, 2, 160, 0, 7, 3, 167, 0, 4, 4, 172, 2, 172]
theorem wX9_claim_0 : (cX9_claim.data.toList.map UInt8.toNat).drop 0 = wLX9_claim_0 ++ (wLX9_claim_1 ++ (wLX9_claim_2 ++ ([]))) := by decide +kernel
theorem wX9_claim_1 : (cX9_claim.data.toList.map UInt8.toNat).drop 64 = wLX9_claim_1 ++ (wLX9_claim_2 ++ ([])) := hz_wn wX9_claim_0 rfl
theorem wX9_claim_2 : (cX9_claim.data.toList.map UInt8.toNat).drop 128 = wLX9_claim_2 ++ ([]) := hz_wn wX9_claim_1 rfl
theorem dX9_claim_0 : decode cX9_claim 0 = .ok (.aload_n 0, 1) := dq_42 (hz_wg wX9_claim_0 (j := 0) (n := 42) rfl)
theorem dX9_claim_1 : decode cX9_claim 1 = .ok (.iload_n 1, 1) := dq_27 (hz_wg wX9_claim_0 (j := 1) (n := 27) rfl)
theorem dX9_claim_2 : decode cX9_claim 2 = .ok (.invokevirtual 200, 3) := dq_182 (hz_wg wX9_claim_0 (j := 2) (n := 182) rfl) (hz_wg wX9_claim_0 (j := 3) (n := 0) rfl) (hz_wg wX9_claim_0 (j := 4) (n := 200) rfl) rfl
theorem dX9_claim_5 : decode cX9_claim 5 = .ok (.astore_n 3, 1) := dq_78 (hz_wg wX9_claim_0 (j := 5) (n := 78) rfl)
theorem dX9_claim_6 : decode cX9_claim 6 = .ok (.aload_n 3, 1) := dq_45 (hz_wg wX9_claim_0 (j := 6) (n := 45) rfl)
theorem dX9_claim_7 : decode cX9_claim 7 = .ok (.ifnonnull 5, 3) := dq_199 (hz_wg wX9_claim_0 (j := 7) (n := 199) rfl) (hz_wg wX9_claim_0 (j := 8) (n := 0) rfl) (hz_wg wX9_claim_0 (j := 9) (n := 5) rfl) (by decide)
theorem dX9_claim_10 : decode cX9_claim 10 = .ok (.iconst (-1), 1) := dq_2 (hz_wg wX9_claim_0 (j := 10) (n := 2) rfl)
theorem dX9_claim_11 : decode cX9_claim 11 = .ok (.ireturn, 1) := dq_172 (hz_wg wX9_claim_0 (j := 11) (n := 172) rfl)
theorem dX9_claim_12 : decode cX9_claim 12 = .ok (.iload_n 2, 1) := dq_28 (hz_wg wX9_claim_0 (j := 12) (n := 28) rfl)
theorem dX9_claim_13 : decode cX9_claim 13 = .ok (.tableswitch 165 0 13 #[71, 79, 87, 92, 97, 102, 107, 114, 121, 128, 133, 138, 143, 151], 71) := by decide +kernel
theorem dX9_claim_84 : decode cX9_claim 84 = .ok (.aload_n 3, 1) := dq_45 (hz_wg wX9_claim_1 (j := 20) (n := 45) rfl)
theorem dX9_claim_85 : decode cX9_claim 85 = .ok (.getfield 223, 3) := dq_180 (hz_wg wX9_claim_1 (j := 21) (n := 180) rfl) (hz_wg wX9_claim_1 (j := 22) (n := 0) rfl) (hz_wg wX9_claim_1 (j := 23) (n := 223) rfl) rfl
theorem dX9_claim_88 : decode cX9_claim 88 = .ok (.getfield 143, 3) := dq_180 (hz_wg wX9_claim_1 (j := 24) (n := 180) rfl) (hz_wg wX9_claim_1 (j := 25) (n := 0) rfl) (hz_wg wX9_claim_1 (j := 26) (n := 143) rfl) rfl
theorem dX9_claim_91 : decode cX9_claim 91 = .ok (.ireturn, 1) := dq_172 (hz_wg wX9_claim_1 (j := 27) (n := 172) rfl)
theorem dX9_claim_92 : decode cX9_claim 92 = .ok (.aload_n 3, 1) := dq_45 (hz_wg wX9_claim_1 (j := 28) (n := 45) rfl)
theorem dX9_claim_93 : decode cX9_claim 93 = .ok (.getfield 212, 3) := dq_180 (hz_wg wX9_claim_1 (j := 29) (n := 180) rfl) (hz_wg wX9_claim_1 (j := 30) (n := 0) rfl) (hz_wg wX9_claim_1 (j := 31) (n := 212) rfl) rfl
theorem dX9_claim_96 : decode cX9_claim 96 = .ok (.getfield 143, 3) := dq_180 (hz_wg wX9_claim_1 (j := 32) (n := 180) rfl) (hz_wg wX9_claim_1 (j := 33) (n := 0) rfl) (hz_wg wX9_claim_1 (j := 34) (n := 143) rfl) rfl
theorem dX9_claim_99 : decode cX9_claim 99 = .ok (.ireturn, 1) := dq_172 (hz_wg wX9_claim_1 (j := 35) (n := 172) rfl)
theorem dX9_claim_100 : decode cX9_claim 100 = .ok (.aload_n 3, 1) := dq_45 (hz_wg wX9_claim_1 (j := 36) (n := 45) rfl)
theorem dX9_claim_101 : decode cX9_claim 101 = .ok (.getfield 187, 3) := dq_180 (hz_wg wX9_claim_1 (j := 37) (n := 180) rfl) (hz_wg wX9_claim_1 (j := 38) (n := 0) rfl) (hz_wg wX9_claim_1 (j := 39) (n := 187) rfl) rfl
theorem dX9_claim_104 : decode cX9_claim 104 = .ok (.ireturn, 1) := dq_172 (hz_wg wX9_claim_1 (j := 40) (n := 172) rfl)
theorem dX9_claim_105 : decode cX9_claim 105 = .ok (.aload_n 3, 1) := dq_45 (hz_wg wX9_claim_1 (j := 41) (n := 45) rfl)
theorem dX9_claim_106 : decode cX9_claim 106 = .ok (.getfield 193, 3) := dq_180 (hz_wg wX9_claim_1 (j := 42) (n := 180) rfl) (hz_wg wX9_claim_1 (j := 43) (n := 0) rfl) (hz_wg wX9_claim_1 (j := 44) (n := 193) rfl) rfl
theorem dX9_claim_109 : decode cX9_claim 109 = .ok (.ireturn, 1) := dq_172 (hz_wg wX9_claim_1 (j := 45) (n := 172) rfl)
theorem dX9_claim_110 : decode cX9_claim 110 = .ok (.aload_n 3, 1) := dq_45 (hz_wg wX9_claim_1 (j := 46) (n := 45) rfl)
theorem dX9_claim_111 : decode cX9_claim 111 = .ok (.getfield 207, 3) := dq_180 (hz_wg wX9_claim_1 (j := 47) (n := 180) rfl) (hz_wg wX9_claim_1 (j := 48) (n := 0) rfl) (hz_wg wX9_claim_1 (j := 49) (n := 207) rfl) rfl
theorem dX9_claim_114 : decode cX9_claim 114 = .ok (.ireturn, 1) := dq_172 (hz_wg wX9_claim_1 (j := 50) (n := 172) rfl)
theorem dX9_claim_115 : decode cX9_claim 115 = .ok (.aload_n 3, 1) := dq_45 (hz_wg wX9_claim_1 (j := 51) (n := 45) rfl)
theorem dX9_claim_116 : decode cX9_claim 116 = .ok (.getfield 233, 3) := dq_180 (hz_wg wX9_claim_1 (j := 52) (n := 180) rfl) (hz_wg wX9_claim_1 (j := 53) (n := 0) rfl) (hz_wg wX9_claim_1 (j := 54) (n := 233) rfl) rfl
theorem dX9_claim_119 : decode cX9_claim 119 = .ok (.ireturn, 1) := dq_172 (hz_wg wX9_claim_1 (j := 55) (n := 172) rfl)
theorem dX9_claim_120 : decode cX9_claim 120 = .ok (.aload_n 3, 1) := dq_45 (hz_wg wX9_claim_1 (j := 56) (n := 45) rfl)
theorem dX9_claim_121 : decode cX9_claim 121 = .ok (.getfield 240, 3) := dq_180 (hz_wg wX9_claim_1 (j := 57) (n := 180) rfl) (hz_wg wX9_claim_1 (j := 58) (n := 0) rfl) (hz_wg wX9_claim_1 (j := 59) (n := 240) rfl) rfl
theorem dX9_claim_124 : decode cX9_claim 124 = .ok (.iconst 0, 1) := dq_3 (hz_wg wX9_claim_1 (j := 60) (n := 3) rfl)
theorem dX9_claim_125 : decode cX9_claim 125 = .ok (.iaload, 1) := dq_46 (hz_wg wX9_claim_1 (j := 61) (n := 46) rfl)
theorem dX9_claim_126 : decode cX9_claim 126 = .ok (.ireturn, 1) := dq_172 (hz_wg wX9_claim_1 (j := 62) (n := 172) rfl)
theorem dX9_claim_127 : decode cX9_claim 127 = .ok (.aload_n 3, 1) := dq_45 (hz_wg wX9_claim_1 (j := 63) (n := 45) rfl)
theorem dX9_claim_128 : decode cX9_claim 128 = .ok (.getfield 240, 3) := dq_180 (hz_wg wX9_claim_2 (j := 0) (n := 180) rfl) (hz_wg wX9_claim_2 (j := 1) (n := 0) rfl) (hz_wg wX9_claim_2 (j := 2) (n := 240) rfl) rfl
theorem dX9_claim_131 : decode cX9_claim 131 = .ok (.iconst 1, 1) := dq_4 (hz_wg wX9_claim_2 (j := 3) (n := 4) rfl)
theorem dX9_claim_132 : decode cX9_claim 132 = .ok (.iaload, 1) := dq_46 (hz_wg wX9_claim_2 (j := 4) (n := 46) rfl)
theorem dX9_claim_133 : decode cX9_claim 133 = .ok (.ireturn, 1) := dq_172 (hz_wg wX9_claim_2 (j := 5) (n := 172) rfl)
theorem dX9_claim_134 : decode cX9_claim 134 = .ok (.aload_n 3, 1) := dq_45 (hz_wg wX9_claim_2 (j := 6) (n := 45) rfl)
theorem dX9_claim_135 : decode cX9_claim 135 = .ok (.getfield 240, 3) := dq_180 (hz_wg wX9_claim_2 (j := 7) (n := 180) rfl) (hz_wg wX9_claim_2 (j := 8) (n := 0) rfl) (hz_wg wX9_claim_2 (j := 9) (n := 240) rfl) rfl
theorem dX9_claim_138 : decode cX9_claim 138 = .ok (.iconst 2, 1) := dq_5 (hz_wg wX9_claim_2 (j := 10) (n := 5) rfl)
theorem dX9_claim_139 : decode cX9_claim 139 = .ok (.iaload, 1) := dq_46 (hz_wg wX9_claim_2 (j := 11) (n := 46) rfl)
theorem dX9_claim_140 : decode cX9_claim 140 = .ok (.ireturn, 1) := dq_172 (hz_wg wX9_claim_2 (j := 12) (n := 172) rfl)
theorem dX9_claim_141 : decode cX9_claim 141 = .ok (.aload_n 3, 1) := dq_45 (hz_wg wX9_claim_2 (j := 13) (n := 45) rfl)
theorem dX9_claim_142 : decode cX9_claim 142 = .ok (.getfield 253, 3) := dq_180 (hz_wg wX9_claim_2 (j := 14) (n := 180) rfl) (hz_wg wX9_claim_2 (j := 15) (n := 0) rfl) (hz_wg wX9_claim_2 (j := 16) (n := 253) rfl) rfl
theorem dX9_claim_145 : decode cX9_claim 145 = .ok (.ireturn, 1) := dq_172 (hz_wg wX9_claim_2 (j := 17) (n := 172) rfl)
theorem dX9_claim_146 : decode cX9_claim 146 = .ok (.aload_n 3, 1) := dq_45 (hz_wg wX9_claim_2 (j := 18) (n := 45) rfl)
theorem dX9_claim_147 : decode cX9_claim 147 = .ok (.getfield 271, 3) := dq_180 (hz_wg wX9_claim_2 (j := 19) (n := 180) rfl) (hz_wg wX9_claim_2 (j := 20) (n := 1) rfl) (hz_wg wX9_claim_2 (j := 21) (n := 15) rfl) rfl
theorem dX9_claim_150 : decode cX9_claim 150 = .ok (.ireturn, 1) := dq_172 (hz_wg wX9_claim_2 (j := 22) (n := 172) rfl)
theorem dX9_claim_151 : decode cX9_claim 151 = .ok (.aload_n 3, 1) := dq_45 (hz_wg wX9_claim_2 (j := 23) (n := 45) rfl)
theorem dX9_claim_152 : decode cX9_claim 152 = .ok (.getfield 268, 3) := dq_180 (hz_wg wX9_claim_2 (j := 24) (n := 180) rfl) (hz_wg wX9_claim_2 (j := 25) (n := 1) rfl) (hz_wg wX9_claim_2 (j := 26) (n := 12) rfl) rfl
theorem dX9_claim_155 : decode cX9_claim 155 = .ok (.ireturn, 1) := dq_172 (hz_wg wX9_claim_2 (j := 27) (n := 172) rfl)
theorem dX9_claim_156 : decode cX9_claim 156 = .ok (.aload_n 3, 1) := dq_45 (hz_wg wX9_claim_2 (j := 28) (n := 45) rfl)
theorem dX9_claim_157 : decode cX9_claim 157 = .ok (.getfield 226, 3) := dq_180 (hz_wg wX9_claim_2 (j := 29) (n := 180) rfl) (hz_wg wX9_claim_2 (j := 30) (n := 0) rfl) (hz_wg wX9_claim_2 (j := 31) (n := 226) rfl) rfl
theorem dX9_claim_160 : decode cX9_claim 160 = .ok (.getfield 112, 3) := dq_180 (hz_wg wX9_claim_2 (j := 32) (n := 180) rfl) (hz_wg wX9_claim_2 (j := 33) (n := 0) rfl) (hz_wg wX9_claim_2 (j := 34) (n := 112) rfl) rfl
theorem dX9_claim_163 : decode cX9_claim 163 = .ok (.ireturn, 1) := dq_172 (hz_wg wX9_claim_2 (j := 35) (n := 172) rfl)
theorem dX9_claim_164 : decode cX9_claim 164 = .ok (.aload_n 3, 1) := dq_45 (hz_wg wX9_claim_2 (j := 36) (n := 45) rfl)
theorem dX9_claim_165 : decode cX9_claim 165 = .ok (.getfield 289, 3) := dq_180 (hz_wg wX9_claim_2 (j := 37) (n := 180) rfl) (hz_wg wX9_claim_2 (j := 38) (n := 1) rfl) (hz_wg wX9_claim_2 (j := 39) (n := 33) rfl) rfl
theorem dX9_claim_168 : decode cX9_claim 168 = .ok (.iconst (-1), 1) := dq_2 (hz_wg wX9_claim_2 (j := 40) (n := 2) rfl)
theorem dX9_claim_169 : decode cX9_claim 169 = .ok (.if_icmp .ne 7, 3) := dq_160 (hz_wg wX9_claim_2 (j := 41) (n := 160) rfl) (hz_wg wX9_claim_2 (j := 42) (n := 0) rfl) (hz_wg wX9_claim_2 (j := 43) (n := 7) rfl) (by decide)
theorem dX9_claim_172 : decode cX9_claim 172 = .ok (.iconst 0, 1) := dq_3 (hz_wg wX9_claim_2 (j := 44) (n := 3) rfl)
theorem dX9_claim_173 : decode cX9_claim 173 = .ok (.goto 4, 3) := dq_167 (hz_wg wX9_claim_2 (j := 45) (n := 167) rfl) (hz_wg wX9_claim_2 (j := 46) (n := 0) rfl) (hz_wg wX9_claim_2 (j := 47) (n := 4) rfl) (by decide)
theorem dX9_claim_176 : decode cX9_claim 176 = .ok (.iconst 1, 1) := dq_4 (hz_wg wX9_claim_2 (j := 48) (n := 4) rfl)
theorem dX9_claim_177 : decode cX9_claim 177 = .ok (.ireturn, 1) := dq_172 (hz_wg wX9_claim_2 (j := 49) (n := 172) rfl)
theorem dX9_claim_178 : decode cX9_claim 178 = .ok (.iconst (-1), 1) := dq_2 (hz_wg wX9_claim_2 (j := 50) (n := 2) rfl)
theorem dX9_claim_179 : decode cX9_claim 179 = .ok (.ireturn, 1) := dq_172 (hz_wg wX9_claim_2 (j := 51) (n := 172) rfl)
set_option maxHeartbeats 4000000 in
set_option maxRecDepth 100000 in
theorem t_X9_claim (l : Launch) (dC : Nat → ClassId) (dI : Nat → Nat → Nat) (dA : Nat → ClassId) (L : List Nat) (h : hx_h) (sz : Nat) (x : Nat) (i1 : Int32) (i2 : Int32) (hT : hx_T T_tb L h) (gx : hx_g L h x 9) (qc : Nat) (gqc : hx_g L h qc 45) (f_x_10 : h.2.2 x 10 = some qc) (pf_x_11 : ∀ j : Nat, (j : Int) < (h.2.1 x 11).toInt → h.2.2 qc j ≠ none) : Met l yX9_claim (Cond.code yX9_claim cX9_claim 4 (some .int) :: hx_all) ({ frames := 1, cells := 0, slots := 0, locals := 21 }) (va_Pc [.ref x, .int i1, .int i2] (hx_B T_tb (P_ty dA) (dC, dI) vwCl L h sz)) (va_Qi (fun (r : Int32) (u : List Nat × hx_h) => (True) ∧ hx_T T_tb u.1 u.2 ∧ hx_S T_tb [] L h u.1 u.2) (hx_E T_tb (P_ty dA) (dC, dI) vwCl (hx_A L sz)) (hx_A L sz)) 0 0 (hx_A L sz) := by
  refine hx_met (lv := [(0, .ref x), (1, .int i1), (2, .int i2)]) (by decide +kernel) rfl (Nat.le_of_ble_eq_true rfl) rfl ?_
  intro p e s m below meth c hx hb hml hr hlk hts0 hown hin hsz hW ls hl
  have hts : ∀ w ∈ hx_all, w.before _ s = true := fun w hw => hts0 w (List.mem_cons_of_mem _ hw)
  have hown : s.vm.findClass "SmallCourt" = some m.cls := hown
  have hM : hx_S T_tb [] L h L h := hx_S.rf
  refine lv_aload_n hx hb dX9_claim_0 rfl (lv_at hl 0 rfl) ?_
  refine lv_iload_n hx hb dX9_claim_1 rfl (lv_at hl 1 rfl) ?_
  refine hx_goq (hx_runV (As := [.int i1]) (rest := []) ⟨hx, hb, hml, hown, hts⟩ hW (gx.S hM) tt_9 (T := TX9) (N := 20) rfl (t_X9_claimAt l dC dI dA L h s.heap.size x i1 hT (gx.S hM) qc (gqc.S hM) ((hM.o gx trivial rfl).2.trans f_x_10) pf_x_11) (cwV 1 hts (hx_gV kw_810 kw_807 kw_809 kw_25 kw_94) rfl rfl rfl (by decide +kernel) ⟨Nat.le_of_ble_eq_true rfl, Nat.le_of_ble_eq_true rfl⟩) rfl hl.1 rfl (Nat.le_of_ble_eq_true rfl) dX9_claim_2 ⟨Nat.le_of_ble_eq_true rfl, Nat.le_of_ble_eq_true rfl⟩) hW (fun r_3 L_1 h_2 H locs p_4 hW => ?_)
  obtain ⟨hr_5, hT, hs⟩ := p_4
  replace hT : hx_T T_tb L_1 h_2 := hT
  replace hs : hx_S T_tb [] L h L_1 h_2 := hs
  replace pf_x_11 : ∀ j : Nat, (j : Int) < (h_2.2.1 x 11).toInt → h_2.2.2 qc j ≠ none := by
    intro j hj; rw [(hs.o (gx.S hM) trivial rfl).1] at hj; rw [(hs.a (gqc.S hM) rfl j).2]; exact pf_x_11 j hj
  replace hM := hM.tr (hs.mono (by decide))
  have hr_5 : ∀ q, r_3 = some q → hx_g L_1 h_2 q 2 := hr_5
  rcases r_3 with _ | q_6
  · skip
    refine lv_astore_nN (lv' := [(3, .null), (0, .ref x), (1, .int i1), (2, .int i2)]) hx hb dX9_claim_5 rfl hl (by decide) rfl (fun ls hl => ?_)
    refine lv_aload_nN hx hb dX9_claim_6 rfl (lv_at hl 0 rfl) ?_
    refine lv_ifnonnullN hx hb dX9_claim_7 ?_
    refine lv_iconst (v := -1) hx hb dX9_claim_10 (by decide) ?_
    exact hx_reti hx hb hr hlk hW ⟨trivial, hT, hM⟩ dX9_claim_11
  · have gq_6 := hr_5 _ rfl
    refine lv_astore_n (lv' := [(3, .ref q_6), (0, .ref x), (1, .int i1), (2, .int i2)]) hx hb dX9_claim_5 rfl hl (by decide) rfl (fun ls hl => ?_)
    refine lv_aload_n hx hb dX9_claim_6 rfl (lv_at hl 0 rfl) ?_
    refine lv_ifnonnull (tgt := 12) hx hb dX9_claim_7 (by decide) ?_
    refine lv_iload_n hx hb dX9_claim_12 rfl (lv_at hl 3 rfl) ?_
    rcases (show (i2.toInt < 0 ∨ 13 < i2.toInt) ∨ i2.toInt = 0 ∨ i2.toInt = 1 ∨ i2.toInt = 2 ∨ i2.toInt = 3 ∨ i2.toInt = 4 ∨ i2.toInt = 5 ∨ i2.toInt = 6 ∨ i2.toInt = 7 ∨ i2.toInt = 8 ∨ i2.toInt = 9 ∨ i2.toInt = 10 ∨ i2.toInt = 11 ∨ i2.toInt = 12 ∨ i2.toInt = 13 from by omega) with c_7 | c_7 | c_7 | c_7 | c_7 | c_7 | c_7 | c_7 | c_7 | c_7 | c_7 | c_7 | c_7 | c_7 | c_7
    · refine lv_tableOut (tgt := 178) hx hb dX9_claim_13 c_7 (by decide) ?_
      refine lv_iconst (v := -1) hx hb dX9_claim_178 (by decide) ?_
      exact hx_reti hx hb hr hlk hW ⟨trivial, hT, hM⟩ dX9_claim_179
    · refine lv_tableIn (off := 71) (tgt := 84) hx hb dX9_claim_13 (by omega) (by omega) (by rw [c_7]; rfl) (by decide) ?_
      refine lv_aload_n hx hb dX9_claim_84 rfl (lv_at hl 0 rfl) ?_
      refine hx_getn hx hb hts hC_2 hown hW hT gq_6 tt_2 1 (by decide) rfl kw_728 ⟨rfl, rfl, rfl⟩ dX9_claim_85 (fun q_8 fq_8 gq_8 => ?_)
      refine hx_geti hx hb hts hC_4 hown hW hT gq_8 tt_4 0 (by decide) rfl kw_612 ⟨rfl, rfl, rfl⟩ dX9_claim_88 (fun x_9 ex_9 lx_9 ux_9 => ?_)
      have fx_9 := ex_9.symm
      exact hx_reti hx hb hr hlk hW ⟨trivial, hT, hM⟩ dX9_claim_91
    · refine lv_tableIn (off := 79) (tgt := 92) hx hb dX9_claim_13 (by omega) (by omega) (by rw [c_7]; rfl) (by decide) ?_
      refine lv_aload_n hx hb dX9_claim_92 rfl (lv_at hl 0 rfl) ?_
      refine hx_getn hx hb hts hC_2 hown hW hT gq_6 tt_2 2 (by decide) rfl kw_733 ⟨rfl, rfl, rfl⟩ dX9_claim_93 (fun q_10 fq_10 gq_10 => ?_)
      refine hx_geti hx hb hts hC_4 hown hW hT gq_10 tt_4 0 (by decide) rfl kw_612 ⟨rfl, rfl, rfl⟩ dX9_claim_96 (fun x_11 ex_11 lx_11 ux_11 => ?_)
      have fx_11 := ex_11.symm
      exact hx_reti hx hb hr hlk hW ⟨trivial, hT, hM⟩ dX9_claim_99
    · refine lv_tableIn (off := 87) (tgt := 100) hx hb dX9_claim_13 (by omega) (by omega) (by rw [c_7]; rfl) (by decide) ?_
      refine lv_aload_n hx hb dX9_claim_100 rfl (lv_at hl 0 rfl) ?_
      refine hx_geti hx hb hts hC_2 hown hW hT gq_6 tt_2 6 (by decide) rfl kw_741 ⟨rfl, rfl, rfl⟩ dX9_claim_101 (fun x_12 ex_12 lx_12 ux_12 => ?_)
      have fx_12 := ex_12.symm
      exact hx_reti hx hb hr hlk hW ⟨trivial, hT, hM⟩ dX9_claim_104
    · refine lv_tableIn (off := 92) (tgt := 105) hx hb dX9_claim_13 (by omega) (by omega) (by rw [c_7]; rfl) (by decide) ?_
      refine lv_aload_n hx hb dX9_claim_105 rfl (lv_at hl 0 rfl) ?_
      refine hx_geti hx hb hts hC_2 hown hW hT gq_6 tt_2 8 (by decide) rfl kw_743 ⟨rfl, rfl, rfl⟩ dX9_claim_106 (fun x_13 ex_13 lx_13 ux_13 => ?_)
      have fx_13 := ex_13.symm
      exact hx_reti hx hb hr hlk hW ⟨trivial, hT, hM⟩ dX9_claim_109
    · refine lv_tableIn (off := 97) (tgt := 110) hx hb dX9_claim_13 (by omega) (by omega) (by rw [c_7]; rfl) (by decide) ?_
      refine lv_aload_n hx hb dX9_claim_110 rfl (lv_at hl 0 rfl) ?_
      refine hx_geti hx hb hts hC_2 hown hW hT gq_6 tt_2 9 (by decide) rfl kw_745 ⟨rfl, rfl, rfl⟩ dX9_claim_111 (fun x_14 ex_14 lx_14 ux_14 => ?_)
      have fx_14 := ex_14.symm
      exact hx_reti hx hb hr hlk hW ⟨trivial, hT, hM⟩ dX9_claim_114
    · refine lv_tableIn (off := 102) (tgt := 115) hx hb dX9_claim_13 (by omega) (by omega) (by rw [c_7]; rfl) (by decide) ?_
      refine lv_aload_n hx hb dX9_claim_115 rfl (lv_at hl 0 rfl) ?_
      refine hx_geti hx hb hts hC_2 hown hW hT gq_6 tt_2 12 (by decide) rfl kw_751 ⟨rfl, rfl, rfl⟩ dX9_claim_116 (fun x_15 ex_15 lx_15 ux_15 => ?_)
      have fx_15 := ex_15.symm
      exact hx_reti hx hb hr hlk hW ⟨trivial, hT, hM⟩ dX9_claim_119
    · refine lv_tableIn (off := 107) (tgt := 120) hx hb dX9_claim_13 (by omega) (by omega) (by rw [c_7]; rfl) (by decide) ?_
      refine lv_aload_n hx hb dX9_claim_120 rfl (lv_at hl 0 rfl) ?_
      refine hx_getn hx hb hts hC_2 hown hW hT gq_6 tt_2 5 (by decide) rfl kw_740 ⟨rfl, rfl, rfl⟩ dX9_claim_121 (fun q_16 fq_16 gq_16 => ?_)
      refine lv_iconst (v := 0) hx hb dX9_claim_124 (by decide) ?_
      refine hx_iald hx hb hW hT gq_16 tt_21 rfl (by decide) dX9_claim_125 (fun x_17 ex_17 lx_17 ux_17 => ?_)
      exact hx_reti hx hb hr hlk hW ⟨trivial, hT, hM⟩ dX9_claim_126
    · refine lv_tableIn (off := 114) (tgt := 127) hx hb dX9_claim_13 (by omega) (by omega) (by rw [c_7]; rfl) (by decide) ?_
      refine lv_aload_n hx hb dX9_claim_127 rfl (lv_at hl 0 rfl) ?_
      refine hx_getn hx hb hts hC_2 hown hW hT gq_6 tt_2 5 (by decide) rfl kw_740 ⟨rfl, rfl, rfl⟩ dX9_claim_128 (fun q_18 fq_18 gq_18 => ?_)
      refine lv_iconst (v := 1) hx hb dX9_claim_131 (by decide) ?_
      refine hx_iald hx hb hW hT gq_18 tt_21 rfl (by decide) dX9_claim_132 (fun x_19 ex_19 lx_19 ux_19 => ?_)
      exact hx_reti hx hb hr hlk hW ⟨trivial, hT, hM⟩ dX9_claim_133
    · refine lv_tableIn (off := 121) (tgt := 134) hx hb dX9_claim_13 (by omega) (by omega) (by rw [c_7]; rfl) (by decide) ?_
      refine lv_aload_n hx hb dX9_claim_134 rfl (lv_at hl 0 rfl) ?_
      refine hx_getn hx hb hts hC_2 hown hW hT gq_6 tt_2 5 (by decide) rfl kw_740 ⟨rfl, rfl, rfl⟩ dX9_claim_135 (fun q_20 fq_20 gq_20 => ?_)
      refine lv_iconst (v := 2) hx hb dX9_claim_138 (by decide) ?_
      refine hx_iald hx hb hW hT gq_20 tt_21 rfl (by decide) dX9_claim_139 (fun x_21 ex_21 lx_21 ux_21 => ?_)
      exact hx_reti hx hb hr hlk hW ⟨trivial, hT, hM⟩ dX9_claim_140
    · refine lv_tableIn (off := 128) (tgt := 141) hx hb dX9_claim_13 (by omega) (by omega) (by rw [c_7]; rfl) (by decide) ?_
      refine lv_aload_n hx hb dX9_claim_141 rfl (lv_at hl 0 rfl) ?_
      refine hx_geti hx hb hts hC_2 hown hW hT gq_6 tt_2 13 (by decide) rfl kw_753 ⟨rfl, rfl, rfl⟩ dX9_claim_142 (fun x_22 ex_22 lx_22 ux_22 => ?_)
      have fx_22 := ex_22.symm
      exact hx_reti hx hb hr hlk hW ⟨trivial, hT, hM⟩ dX9_claim_145
    · refine lv_tableIn (off := 133) (tgt := 146) hx hb dX9_claim_13 (by omega) (by omega) (by rw [c_7]; rfl) (by decide) ?_
      refine lv_aload_n hx hb dX9_claim_146 rfl (lv_at hl 0 rfl) ?_
      refine hx_geti hx hb hts hC_2 hown hW hT gq_6 tt_2 14 (by decide) rfl kw_755 ⟨rfl, rfl, rfl⟩ dX9_claim_147 (fun x_23 ex_23 lx_23 ux_23 => ?_)
      have fx_23 := ex_23.symm
      exact hx_reti hx hb hr hlk hW ⟨trivial, hT, hM⟩ dX9_claim_150
    · refine lv_tableIn (off := 138) (tgt := 151) hx hb dX9_claim_13 (by omega) (by omega) (by rw [c_7]; rfl) (by decide) ?_
      refine lv_aload_n hx hb dX9_claim_151 rfl (lv_at hl 0 rfl) ?_
      refine hx_geti hx hb hts hC_2 hown hW hT gq_6 tt_2 15 (by decide) rfl kw_757 ⟨rfl, rfl, rfl⟩ dX9_claim_152 (fun x_24 ex_24 lx_24 ux_24 => ?_)
      have fx_24 := ex_24.symm
      exact hx_reti hx hb hr hlk hW ⟨trivial, hT, hM⟩ dX9_claim_155
    · refine lv_tableIn (off := 143) (tgt := 156) hx hb dX9_claim_13 (by omega) (by omega) (by rw [c_7]; rfl) (by decide) ?_
      refine lv_aload_n hx hb dX9_claim_156 rfl (lv_at hl 0 rfl) ?_
      refine hx_getn hx hb hts hC_2 hown hW hT gq_6 tt_2 3 (by decide) rfl kw_736 ⟨rfl, rfl, rfl⟩ dX9_claim_157 (fun q_25 fq_25 gq_25 => ?_)
      refine hx_geti hx hb hts hC_0 hown hW hT gq_25 tt_0 0 (by decide) rfl kw_163 ⟨rfl, rfl, rfl⟩ dX9_claim_160 (fun x_26 ex_26 lx_26 ux_26 => ?_)
      have fx_26 := ex_26.symm
      exact hx_reti hx hb hr hlk hW ⟨trivial, hT, hM⟩ dX9_claim_163
    · refine lv_tableIn (off := 151) (tgt := 164) hx hb dX9_claim_13 (by omega) (by omega) (by rw [c_7]; rfl) (by decide) ?_
      refine lv_aload_n hx hb dX9_claim_164 rfl (lv_at hl 0 rfl) ?_
      refine hx_geti hx hb hts hC_2 hown hW hT gq_6 tt_2 16 (by decide) rfl kw_759 ⟨rfl, rfl, rfl⟩ dX9_claim_165 (fun x_27 ex_27 lx_27 ux_27 => ?_)
      have fx_27 := ex_27.symm
      refine lv_iconst (v := -1) hx hb dX9_claim_168 (by decide) ?_
      have jn_177 : ∀ (xj_28 : Int32) (ls : Array Slot), 0 ≤ xj_28.toInt → xj_28.toInt ≤ 1 → lv_has ls 4 [(3, .ref q_6), (0, .ref x), (1, .int i1), (2, .int i2)] → W p l e ({ frames := 1, cells := 0, slots := 0, locals := 21 }) s m ([.ref x, .int i1, .int i2] : List Value).toArray below meth c H locs 0 0 (MQ below (va_Qi (fun (r : Int32) (u : List Nat × hx_h) => (True) ∧ hx_T T_tb u.1 u.2 ∧ hx_S T_tb [] L h u.1 u.2) (hx_E T_tb (P_ty dA) (dC, dI) vwCl (hx_A L sz)) (hx_A L sz)) ([.ref x, .int i1, .int i2] : List Value).toArray s 0 0 (hx_A L sz)) (F0 m 177 ls [.int xj_28]) := by
        intro xj_28 ls blxj_28 buxj_28 hl
        exact hx_reti hx hb hr hlk hW ⟨trivial, hT, hM⟩ dX9_claim_177
      refine hb_icmp_ne (zx := x_27.toInt) (zy := (-1)) (tgt := 176) hx hb rfl (by decide) dX9_claim_169 (by decide) (fun c_29 => ?_) (fun c_29 => ?_)
      · skip
        refine lv_iconst (v := 1) hx hb dX9_claim_176 (by decide) ?_
        exact jn_177 (1 : Int32) ls (by decide) (by decide) hl
      · skip
        refine lv_iconst (v := 0) hx hb dX9_claim_172 (by decide) ?_
        refine lv_goto (tgt := 177) hx hb dX9_claim_173 (by decide) ?_
        exact jn_177 (0 : Int32) ls (by decide) (by decide) hl

def wLX9_state_0 : List Nat := [42, 27, 182, 0, 200, 58, 5, 25, 5, 198, 0, 33, 28, 25, 5, 180, 0, 193, 17, 31, 63, 184, 0, 128, 153, 0, 18, 29, 25, 5, 180, 0, 193, 17, 31, 63, 184, 0, 128, 154, 0, 5, 2, 172, 21, 4, 170, 0, 0, 0, 0, 94, 0, 0, 0, 0, 0, 0, 0, 4, 0, 0, 0, 34]
def wLX9_state_1 : List Nat := [0, 0, 0, 46, 0, 0, 0, 58, 0, 0, 0, 70, 0, 0, 0, 82, 25, 5, 42, 180, 0, 58, 28, 29, 182, 1, 36, 172, 25, 5, 42, 180, 0, 58, 28, 29, 182, 1, 46, 172, 25, 5, 42, 180, 0, 58, 28, 29, 182, 1, 58, 172, 25, 5, 42, 180, 0, 58, 28, 29, 182, 1, 61, 172]
def wLX9_state_2 : List Nat := [25, 5, 42, 180, 0, 58, 28, 29, 182, 1, 64, 172, 2, 172]
theorem wX9_state_0 : (cX9_state.data.toList.map UInt8.toNat).drop 0 = wLX9_state_0 ++ (wLX9_state_1 ++ (wLX9_state_2 ++ ([]))) := by decide +kernel
theorem wX9_state_1 : (cX9_state.data.toList.map UInt8.toNat).drop 64 = wLX9_state_1 ++ (wLX9_state_2 ++ ([])) := hz_wn wX9_state_0 rfl
theorem wX9_state_2 : (cX9_state.data.toList.map UInt8.toNat).drop 128 = wLX9_state_2 ++ ([]) := hz_wn wX9_state_1 rfl
theorem dX9_state_0 : decode cX9_state 0 = .ok (.aload_n 0, 1) := dq_42 (hz_wg wX9_state_0 (j := 0) (n := 42) rfl)
theorem dX9_state_1 : decode cX9_state 1 = .ok (.iload_n 1, 1) := dq_27 (hz_wg wX9_state_0 (j := 1) (n := 27) rfl)
theorem dX9_state_2 : decode cX9_state 2 = .ok (.invokevirtual 200, 3) := dq_182 (hz_wg wX9_state_0 (j := 2) (n := 182) rfl) (hz_wg wX9_state_0 (j := 3) (n := 0) rfl) (hz_wg wX9_state_0 (j := 4) (n := 200) rfl) rfl
theorem dX9_state_5 : decode cX9_state 5 = .ok (.astore 5, 2) := dq_58 (hz_wg wX9_state_0 (j := 5) (n := 58) rfl) (hz_wg wX9_state_0 (j := 6) (n := 5) rfl)
theorem dX9_state_7 : decode cX9_state 7 = .ok (.aload 5, 2) := dq_25 (hz_wg wX9_state_0 (j := 7) (n := 25) rfl) (hz_wg wX9_state_0 (j := 8) (n := 5) rfl)
theorem dX9_state_9 : decode cX9_state 9 = .ok (.ifnull 33, 3) := dq_198 (hz_wg wX9_state_0 (j := 9) (n := 198) rfl) (hz_wg wX9_state_0 (j := 10) (n := 0) rfl) (hz_wg wX9_state_0 (j := 11) (n := 33) rfl) (by decide)
theorem dX9_state_12 : decode cX9_state 12 = .ok (.iload_n 2, 1) := dq_28 (hz_wg wX9_state_0 (j := 12) (n := 28) rfl)
theorem dX9_state_13 : decode cX9_state 13 = .ok (.aload 5, 2) := dq_25 (hz_wg wX9_state_0 (j := 13) (n := 25) rfl) (hz_wg wX9_state_0 (j := 14) (n := 5) rfl)
theorem dX9_state_15 : decode cX9_state 15 = .ok (.getfield 193, 3) := dq_180 (hz_wg wX9_state_0 (j := 15) (n := 180) rfl) (hz_wg wX9_state_0 (j := 16) (n := 0) rfl) (hz_wg wX9_state_0 (j := 17) (n := 193) rfl) rfl
theorem dX9_state_18 : decode cX9_state 18 = .ok (.sipush 7999, 3) := dq_17 (hz_wg wX9_state_0 (j := 18) (n := 17) rfl) (hz_wg wX9_state_0 (j := 19) (n := 31) rfl) (hz_wg wX9_state_0 (j := 20) (n := 63) rfl) (by decide)
theorem dX9_state_21 : decode cX9_state 21 = .ok (.invokestatic 128, 3) := dq_184 (hz_wg wX9_state_0 (j := 21) (n := 184) rfl) (hz_wg wX9_state_0 (j := 22) (n := 0) rfl) (hz_wg wX9_state_0 (j := 23) (n := 128) rfl) rfl
theorem dX9_state_24 : decode cX9_state 24 = .ok (.ifCond .eq 18, 3) := dq_153 (hz_wg wX9_state_0 (j := 24) (n := 153) rfl) (hz_wg wX9_state_0 (j := 25) (n := 0) rfl) (hz_wg wX9_state_0 (j := 26) (n := 18) rfl) (by decide)
theorem dX9_state_27 : decode cX9_state 27 = .ok (.iload_n 3, 1) := dq_29 (hz_wg wX9_state_0 (j := 27) (n := 29) rfl)
theorem dX9_state_28 : decode cX9_state 28 = .ok (.aload 5, 2) := dq_25 (hz_wg wX9_state_0 (j := 28) (n := 25) rfl) (hz_wg wX9_state_0 (j := 29) (n := 5) rfl)
theorem dX9_state_30 : decode cX9_state 30 = .ok (.getfield 193, 3) := dq_180 (hz_wg wX9_state_0 (j := 30) (n := 180) rfl) (hz_wg wX9_state_0 (j := 31) (n := 0) rfl) (hz_wg wX9_state_0 (j := 32) (n := 193) rfl) rfl
theorem dX9_state_33 : decode cX9_state 33 = .ok (.sipush 7999, 3) := dq_17 (hz_wg wX9_state_0 (j := 33) (n := 17) rfl) (hz_wg wX9_state_0 (j := 34) (n := 31) rfl) (hz_wg wX9_state_0 (j := 35) (n := 63) rfl) (by decide)
theorem dX9_state_36 : decode cX9_state 36 = .ok (.invokestatic 128, 3) := dq_184 (hz_wg wX9_state_0 (j := 36) (n := 184) rfl) (hz_wg wX9_state_0 (j := 37) (n := 0) rfl) (hz_wg wX9_state_0 (j := 38) (n := 128) rfl) rfl
theorem dX9_state_39 : decode cX9_state 39 = .ok (.ifCond .ne 5, 3) := dq_154 (hz_wg wX9_state_0 (j := 39) (n := 154) rfl) (hz_wg wX9_state_0 (j := 40) (n := 0) rfl) (hz_wg wX9_state_0 (j := 41) (n := 5) rfl) (by decide)
theorem dX9_state_42 : decode cX9_state 42 = .ok (.iconst (-1), 1) := dq_2 (hz_wg wX9_state_0 (j := 42) (n := 2) rfl)
theorem dX9_state_43 : decode cX9_state 43 = .ok (.ireturn, 1) := dq_172 (hz_wg wX9_state_0 (j := 43) (n := 172) rfl)
theorem dX9_state_44 : decode cX9_state 44 = .ok (.iload 4, 2) := dq_21 (hz_wg wX9_state_0 (j := 44) (n := 21) rfl) (hz_wg wX9_state_0 (j := 45) (n := 4) rfl)
theorem dX9_state_46 : decode cX9_state 46 = .ok (.tableswitch 94 0 4 #[34, 46, 58, 70, 82], 34) := by decide +kernel
theorem dX9_state_80 : decode cX9_state 80 = .ok (.aload 5, 2) := dq_25 (hz_wg wX9_state_1 (j := 16) (n := 25) rfl) (hz_wg wX9_state_1 (j := 17) (n := 5) rfl)
theorem dX9_state_82 : decode cX9_state 82 = .ok (.aload_n 0, 1) := dq_42 (hz_wg wX9_state_1 (j := 18) (n := 42) rfl)
theorem dX9_state_83 : decode cX9_state 83 = .ok (.getfield 58, 3) := dq_180 (hz_wg wX9_state_1 (j := 19) (n := 180) rfl) (hz_wg wX9_state_1 (j := 20) (n := 0) rfl) (hz_wg wX9_state_1 (j := 21) (n := 58) rfl) rfl
theorem dX9_state_86 : decode cX9_state 86 = .ok (.iload_n 2, 1) := dq_28 (hz_wg wX9_state_1 (j := 22) (n := 28) rfl)
theorem dX9_state_87 : decode cX9_state 87 = .ok (.iload_n 3, 1) := dq_29 (hz_wg wX9_state_1 (j := 23) (n := 29) rfl)
theorem dX9_state_88 : decode cX9_state 88 = .ok (.invokevirtual 292, 3) := dq_182 (hz_wg wX9_state_1 (j := 24) (n := 182) rfl) (hz_wg wX9_state_1 (j := 25) (n := 1) rfl) (hz_wg wX9_state_1 (j := 26) (n := 36) rfl) rfl
theorem dX9_state_91 : decode cX9_state 91 = .ok (.ireturn, 1) := dq_172 (hz_wg wX9_state_1 (j := 27) (n := 172) rfl)
theorem dX9_state_92 : decode cX9_state 92 = .ok (.aload 5, 2) := dq_25 (hz_wg wX9_state_1 (j := 28) (n := 25) rfl) (hz_wg wX9_state_1 (j := 29) (n := 5) rfl)
theorem dX9_state_94 : decode cX9_state 94 = .ok (.aload_n 0, 1) := dq_42 (hz_wg wX9_state_1 (j := 30) (n := 42) rfl)
theorem dX9_state_95 : decode cX9_state 95 = .ok (.getfield 58, 3) := dq_180 (hz_wg wX9_state_1 (j := 31) (n := 180) rfl) (hz_wg wX9_state_1 (j := 32) (n := 0) rfl) (hz_wg wX9_state_1 (j := 33) (n := 58) rfl) rfl
theorem dX9_state_98 : decode cX9_state 98 = .ok (.iload_n 2, 1) := dq_28 (hz_wg wX9_state_1 (j := 34) (n := 28) rfl)
theorem dX9_state_99 : decode cX9_state 99 = .ok (.iload_n 3, 1) := dq_29 (hz_wg wX9_state_1 (j := 35) (n := 29) rfl)
theorem dX9_state_100 : decode cX9_state 100 = .ok (.invokevirtual 302, 3) := dq_182 (hz_wg wX9_state_1 (j := 36) (n := 182) rfl) (hz_wg wX9_state_1 (j := 37) (n := 1) rfl) (hz_wg wX9_state_1 (j := 38) (n := 46) rfl) rfl
theorem dX9_state_103 : decode cX9_state 103 = .ok (.ireturn, 1) := dq_172 (hz_wg wX9_state_1 (j := 39) (n := 172) rfl)
theorem dX9_state_104 : decode cX9_state 104 = .ok (.aload 5, 2) := dq_25 (hz_wg wX9_state_1 (j := 40) (n := 25) rfl) (hz_wg wX9_state_1 (j := 41) (n := 5) rfl)
theorem dX9_state_106 : decode cX9_state 106 = .ok (.aload_n 0, 1) := dq_42 (hz_wg wX9_state_1 (j := 42) (n := 42) rfl)
theorem dX9_state_107 : decode cX9_state 107 = .ok (.getfield 58, 3) := dq_180 (hz_wg wX9_state_1 (j := 43) (n := 180) rfl) (hz_wg wX9_state_1 (j := 44) (n := 0) rfl) (hz_wg wX9_state_1 (j := 45) (n := 58) rfl) rfl
theorem dX9_state_110 : decode cX9_state 110 = .ok (.iload_n 2, 1) := dq_28 (hz_wg wX9_state_1 (j := 46) (n := 28) rfl)
theorem dX9_state_111 : decode cX9_state 111 = .ok (.iload_n 3, 1) := dq_29 (hz_wg wX9_state_1 (j := 47) (n := 29) rfl)
theorem dX9_state_112 : decode cX9_state 112 = .ok (.invokevirtual 314, 3) := dq_182 (hz_wg wX9_state_1 (j := 48) (n := 182) rfl) (hz_wg wX9_state_1 (j := 49) (n := 1) rfl) (hz_wg wX9_state_1 (j := 50) (n := 58) rfl) rfl
theorem dX9_state_115 : decode cX9_state 115 = .ok (.ireturn, 1) := dq_172 (hz_wg wX9_state_1 (j := 51) (n := 172) rfl)
theorem dX9_state_116 : decode cX9_state 116 = .ok (.aload 5, 2) := dq_25 (hz_wg wX9_state_1 (j := 52) (n := 25) rfl) (hz_wg wX9_state_1 (j := 53) (n := 5) rfl)
theorem dX9_state_118 : decode cX9_state 118 = .ok (.aload_n 0, 1) := dq_42 (hz_wg wX9_state_1 (j := 54) (n := 42) rfl)
theorem dX9_state_119 : decode cX9_state 119 = .ok (.getfield 58, 3) := dq_180 (hz_wg wX9_state_1 (j := 55) (n := 180) rfl) (hz_wg wX9_state_1 (j := 56) (n := 0) rfl) (hz_wg wX9_state_1 (j := 57) (n := 58) rfl) rfl
theorem dX9_state_122 : decode cX9_state 122 = .ok (.iload_n 2, 1) := dq_28 (hz_wg wX9_state_1 (j := 58) (n := 28) rfl)
theorem dX9_state_123 : decode cX9_state 123 = .ok (.iload_n 3, 1) := dq_29 (hz_wg wX9_state_1 (j := 59) (n := 29) rfl)
theorem dX9_state_124 : decode cX9_state 124 = .ok (.invokevirtual 317, 3) := dq_182 (hz_wg wX9_state_1 (j := 60) (n := 182) rfl) (hz_wg wX9_state_1 (j := 61) (n := 1) rfl) (hz_wg wX9_state_1 (j := 62) (n := 61) rfl) rfl
theorem dX9_state_127 : decode cX9_state 127 = .ok (.ireturn, 1) := dq_172 (hz_wg wX9_state_1 (j := 63) (n := 172) rfl)
theorem dX9_state_128 : decode cX9_state 128 = .ok (.aload 5, 2) := dq_25 (hz_wg wX9_state_2 (j := 0) (n := 25) rfl) (hz_wg wX9_state_2 (j := 1) (n := 5) rfl)
theorem dX9_state_130 : decode cX9_state 130 = .ok (.aload_n 0, 1) := dq_42 (hz_wg wX9_state_2 (j := 2) (n := 42) rfl)
theorem dX9_state_131 : decode cX9_state 131 = .ok (.getfield 58, 3) := dq_180 (hz_wg wX9_state_2 (j := 3) (n := 180) rfl) (hz_wg wX9_state_2 (j := 4) (n := 0) rfl) (hz_wg wX9_state_2 (j := 5) (n := 58) rfl) rfl
theorem dX9_state_134 : decode cX9_state 134 = .ok (.iload_n 2, 1) := dq_28 (hz_wg wX9_state_2 (j := 6) (n := 28) rfl)
theorem dX9_state_135 : decode cX9_state 135 = .ok (.iload_n 3, 1) := dq_29 (hz_wg wX9_state_2 (j := 7) (n := 29) rfl)
theorem dX9_state_136 : decode cX9_state 136 = .ok (.invokevirtual 320, 3) := dq_182 (hz_wg wX9_state_2 (j := 8) (n := 182) rfl) (hz_wg wX9_state_2 (j := 9) (n := 1) rfl) (hz_wg wX9_state_2 (j := 10) (n := 64) rfl) rfl
theorem dX9_state_139 : decode cX9_state 139 = .ok (.ireturn, 1) := dq_172 (hz_wg wX9_state_2 (j := 11) (n := 172) rfl)
theorem dX9_state_140 : decode cX9_state 140 = .ok (.iconst (-1), 1) := dq_2 (hz_wg wX9_state_2 (j := 12) (n := 2) rfl)
theorem dX9_state_141 : decode cX9_state 141 = .ok (.ireturn, 1) := dq_172 (hz_wg wX9_state_2 (j := 13) (n := 172) rfl)
set_option maxHeartbeats 4000000 in
set_option maxRecDepth 100000 in
theorem t_X9_state (l : Launch) (dC : Nat → ClassId) (dI : Nat → Nat → Nat) (dA : Nat → ClassId) (L : List Nat) (h : hx_h) (sz : Nat) (b0 : hx_z) (x : Nat) (i1 : Int32) (i2 : Int32) (i3 : Int32) (i4 : Int32) (hT : hx_T T_tb L h) (gx : hx_g L h x 9) (qc : Nat) (gqc : hx_g L h qc 45) (f_x_10 : h.2.2 x 10 = some qc) (pf_x_11 : ∀ j : Nat, (j : Int) < (h.2.1 x 11).toInt → h.2.2 qc j ≠ none) : Met l yX9_state (Cond.code yX9_state cX9_state 6 (some .int) :: hx_all) ({ frames := 5, cells := 0, slots := 0, locals := 120 }) (va_Pc [.ref x, .int i1, .int i2, .int i3, .int i4] (hx_BX T_tb (P_ty dA) (dC, dI) vwCl L h sz b0)) (va_Qi (fun (r : Int32) (u : List Nat × hx_h) => (True) ∧ hx_T T_tb u.1 u.2 ∧ hx_S T_tb [] L h u.1 u.2) (hx_E T_tb (P_ty dA) (dC, dI) vwCl (hx_A L sz)) (hx_A L sz)) 0 0 (hx_A L sz) := by
  refine hx_metX (lv := [(0, .ref x), (1, .int i1), (2, .int i2), (3, .int i3), (4, .int i4)]) (by decide +kernel) rfl (Nat.le_of_ble_eq_true rfl) rfl ?_
  intro p e s m below meth c hx hb hml hr hlk hts0 hown hin hsz hW hZ ls hl
  have hts : ∀ w ∈ hx_all, w.before _ s = true := fun w hw => hts0 w (List.mem_cons_of_mem _ hw)
  have hown : s.vm.findClass "SmallCourt" = some m.cls := hown
  have hM : hx_S T_tb [] L h L h := hx_S.rf
  refine lv_aload_n hx hb dX9_state_0 rfl (lv_at hl 0 rfl) ?_
  refine lv_iload_n hx hb dX9_state_1 rfl (lv_at hl 1 rfl) ?_
  refine hx_goq (hx_runV (As := [.int i1]) (rest := []) ⟨hx, hb, hml, hown, hts⟩ hW (gx.S hM) tt_9 (T := TX9) (N := 20) rfl (t_X9_claimAt l dC dI dA L h s.heap.size x i1 hT (gx.S hM) qc (gqc.S hM) ((hM.o gx trivial rfl).2.trans f_x_10) pf_x_11) (cwV 1 hts (hx_gV kw_810 kw_807 kw_809 kw_25 kw_94) rfl rfl rfl (by decide +kernel) ⟨Nat.le_of_ble_eq_true rfl, Nat.le_of_ble_eq_true rfl⟩) rfl hl.1 rfl (Nat.le_of_ble_eq_true rfl) dX9_state_2 ⟨Nat.le_of_ble_eq_true rfl, Nat.le_of_ble_eq_true rfl⟩) hW (fun r_3 L_1 h_2 H locs p_4 hW => ?_)
  obtain ⟨hr_5, hT, hs⟩ := p_4
  replace hT : hx_T T_tb L_1 h_2 := hT
  replace hs : hx_S T_tb [] L h L_1 h_2 := hs
  replace pf_x_11 : ∀ j : Nat, (j : Int) < (h_2.2.1 x 11).toInt → h_2.2.2 qc j ≠ none := by
    intro j hj; rw [(hs.o (gx.S hM) trivial rfl).1] at hj; rw [(hs.a (gqc.S hM) rfl j).2]; exact pf_x_11 j hj
  replace hM := hM.tr (hs.mono (by decide))
  have hr_5 : ∀ q, r_3 = some q → hx_g L_1 h_2 q 2 := hr_5
  rcases r_3 with _ | q_6
  · skip
    refine lv_astoreN (lv' := [(5, .null), (0, .ref x), (1, .int i1), (2, .int i2), (3, .int i3), (4, .int i4)]) hx hb dX9_state_5 hl (by decide) rfl (fun ls hl => ?_)
    refine lv_aloadN hx hb dX9_state_7 (lv_at hl 0 rfl) ?_
    refine lv_ifnullN (tgt := 42) hx hb dX9_state_9 (by decide) ?_
    refine lv_iconst (v := -1) hx hb dX9_state_42 (by decide) ?_
    exact hx_reti hx hb hr hlk hW ⟨trivial, hT, hM⟩ dX9_state_43
  · have gq_6 := hr_5 _ rfl
    refine lv_astore (lv' := [(5, .ref q_6), (0, .ref x), (1, .int i1), (2, .int i2), (3, .int i3), (4, .int i4)]) hx hb dX9_state_5 hl (by decide) rfl (fun ls hl => ?_)
    refine lv_aload hx hb dX9_state_7 (lv_at hl 0 rfl) ?_
    refine lv_ifnull hx hb dX9_state_9 ?_
    refine lv_iload_n hx hb dX9_state_12 rfl (lv_at hl 3 rfl) ?_
    refine lv_aload hx hb dX9_state_13 (lv_at hl 0 rfl) ?_
    refine hx_geti hx hb hts hC_2 hown hW hT gq_6 tt_2 8 (by decide) rfl kw_743 ⟨rfl, rfl, rfl⟩ dX9_state_15 (fun x_7 ex_7 lx_7 ux_7 => ?_)
    have fx_7 := ex_7.symm
    refine lv_sipush (v := 7999) hx hb dX9_state_18 (by decide) ?_
    have zc_7999 : (7999 : Int32).toInt = 7999 := by decide
    refine hx_goi (hx_runS (As := [.int i2, .int x_7, .int (7999 : Int32)]) (rest := []) ⟨hx, hb, hml, hown, hts⟩ hW (t_X9_isWithin l dC dI dA L_1 h_2 H.size i2 x_7 (7999 : Int32) hT) (va_cwS 3 hts (hx_gS kw_434 kw_432 kw_433 kw_94) rfl rfl rfl (by decide +kernel) ⟨Nat.le_of_ble_eq_true rfl, Nat.le_of_ble_eq_true rfl⟩) rfl hl.1 rfl (Nat.le_of_ble_eq_true rfl) dX9_state_21 ⟨Nat.le_of_ble_eq_true rfl, Nat.le_of_ble_eq_true rfl⟩) hW (fun r_10 L_8 h_9 H locs p_11 hW => ?_)
    obtain ⟨hr_12, hT, hs⟩ := p_11
    replace hT : hx_T T_tb L_8 h_9 := hT
    replace hs : hx_S T_tb [] L_1 h_2 L_8 h_9 := hs
    replace fx_7 := (hs.o gq_6 trivial rfl).1.trans fx_7
    replace pf_x_11 : ∀ j : Nat, (j : Int) < (h_9.2.1 x 11).toInt → h_9.2.2 qc j ≠ none := by
      intro j hj; rw [(hs.o (gx.S hM) trivial rfl).1] at hj; rw [(hs.a (gqc.S hM) rfl j).2]; exact pf_x_11 j hj
    replace hM := hM.tr (hs.mono (by decide))
    replace gq_6 := gq_6.S hs
    refine hb_if_eq (zx := r_10.toInt) (tgt := 42) hx hb rfl dX9_state_24 (by decide) (fun c_13 => ?_) (fun c_13 => ?_)
    · skip
      refine lv_iconst (v := -1) hx hb dX9_state_42 (by decide) ?_
      exact hx_reti hx hb hr hlk hW ⟨trivial, hT, hM⟩ dX9_state_43
    · skip
      refine lv_iload_n hx hb dX9_state_27 rfl (lv_at hl 4 rfl) ?_
      refine lv_aload hx hb dX9_state_28 (lv_at hl 0 rfl) ?_
      refine hk_geti hx hb hts hC_2 hown hW gq_6 tt_2 8 (by decide) rfl kw_743 ⟨rfl, rfl, rfl⟩ fx_7 dX9_state_30 ?_
      refine lv_sipush (v := 7999) hx hb dX9_state_33 (by decide) ?_
      refine hx_goi (hx_runS (As := [.int i3, .int x_7, .int (7999 : Int32)]) (rest := []) ⟨hx, hb, hml, hown, hts⟩ hW (t_X9_isWithin l dC dI dA L_8 h_9 H.size i3 x_7 (7999 : Int32) hT) (va_cwS 3 hts (hx_gS kw_434 kw_432 kw_433 kw_94) rfl rfl rfl (by decide +kernel) ⟨Nat.le_of_ble_eq_true rfl, Nat.le_of_ble_eq_true rfl⟩) rfl hl.1 rfl (Nat.le_of_ble_eq_true rfl) dX9_state_36 ⟨Nat.le_of_ble_eq_true rfl, Nat.le_of_ble_eq_true rfl⟩) hW (fun r_16 L_14 h_15 H locs p_17 hW => ?_)
      obtain ⟨hr_18, hT, hs⟩ := p_17
      replace hT : hx_T T_tb L_14 h_15 := hT
      replace hs : hx_S T_tb [] L_8 h_9 L_14 h_15 := hs
      replace fx_7 := (hs.o gq_6 trivial rfl).1.trans fx_7
      replace pf_x_11 : ∀ j : Nat, (j : Int) < (h_15.2.1 x 11).toInt → h_15.2.2 qc j ≠ none := by
        intro j hj; rw [(hs.o (gx.S hM) trivial rfl).1] at hj; rw [(hs.a (gqc.S hM) rfl j).2]; exact pf_x_11 j hj
      replace hM := hM.tr (hs.mono (by decide))
      replace gq_6 := gq_6.S hs
      refine hb_if_ne (zx := r_16.toInt) (tgt := 44) hx hb rfl dX9_state_39 (by decide) (fun c_19 => ?_) (fun c_19 => ?_)
      · skip
        refine lv_iload hx hb dX9_state_44 (lv_at hl 5 rfl) ?_
        rcases (show (i4.toInt < 0 ∨ 4 < i4.toInt) ∨ i4.toInt = 0 ∨ i4.toInt = 1 ∨ i4.toInt = 2 ∨ i4.toInt = 3 ∨ i4.toInt = 4 from by omega) with c_20 | c_20 | c_20 | c_20 | c_20 | c_20
        · refine lv_tableOut (tgt := 140) hx hb dX9_state_46 c_20 (by decide) ?_
          refine lv_iconst (v := -1) hx hb dX9_state_140 (by decide) ?_
          exact hx_reti hx hb hr hlk hW ⟨trivial, hT, hM⟩ dX9_state_141
        · refine lv_tableIn (off := 34) (tgt := 80) hx hb dX9_state_46 (by omega) (by omega) (by rw [c_20]; rfl) (by decide) ?_
          refine lv_aload hx hb dX9_state_80 (lv_at hl 0 rfl) ?_
          refine lv_aload_n hx hb dX9_state_82 rfl (lv_at hl 1 rfl) ?_
          refine hx_getn hx hb hts hC_9 hown hW hT (gx.S hM) tt_9 14 (by decide) rfl kw_378 ⟨rfl, rfl, rfl⟩ dX9_state_83 (fun q_21 fq_21 gq_21 => ?_)
          refine lv_iload_n hx hb dX9_state_86 rfl (lv_at hl 3 rfl) ?_
          refine lv_iload_n hx hb dX9_state_87 rfl (lv_at hl 4 rfl) ?_
          refine hx_goi (hx_runVX (As := [.ref q_21, .int i2, .int i3]) (rest := []) ⟨hx, hb, hml, hown, hts⟩ hW gq_6 tt_2 (T := TX2) (N := 19) rfl (t_X2_stateOn l dC dI dA L_14 h_15 H.size b0 q_6 q_21 i2 i3 hT gq_6 gq_21) hZ (cwV 3 hts (hx_gV kw_907 kw_904 kw_905 kw_906 kw_110) rfl rfl rfl (by decide +kernel) ⟨Nat.le_of_ble_eq_true rfl, Nat.le_of_ble_eq_true rfl⟩) rfl hl.1 rfl (Nat.le_of_ble_eq_true rfl) dX9_state_88 ⟨Nat.le_of_ble_eq_true rfl, Nat.le_of_ble_eq_true rfl⟩) hW (fun r_24 L_22 h_23 H locs p_25 hW => ?_)
          obtain ⟨hr_26, hT, hs⟩ := p_25
          replace hT : hx_T T_tb L_22 h_23 := hT
          replace hs : hx_S T_tb [] L_14 h_15 L_22 h_23 := hs
          replace fx_7 := (hs.o gq_6 trivial rfl).1.trans fx_7
          replace fq_21 := (hs.o (gx.S hM) trivial rfl).2.trans fq_21
          replace pf_x_11 : ∀ j : Nat, (j : Int) < (h_23.2.1 x 11).toInt → h_23.2.2 qc j ≠ none := by
            intro j hj; rw [(hs.o (gx.S hM) trivial rfl).1] at hj; rw [(hs.a (gqc.S hM) rfl j).2]; exact pf_x_11 j hj
          replace hM := hM.tr (hs.mono (by decide))
          replace gq_6 := gq_6.S hs
          replace gq_21 := gq_21.S hs
          exact hx_reti hx hb hr hlk hW ⟨trivial, hT, hM⟩ dX9_state_91
        · refine lv_tableIn (off := 46) (tgt := 92) hx hb dX9_state_46 (by omega) (by omega) (by rw [c_20]; rfl) (by decide) ?_
          refine lv_aload hx hb dX9_state_92 (lv_at hl 0 rfl) ?_
          refine lv_aload_n hx hb dX9_state_94 rfl (lv_at hl 1 rfl) ?_
          refine hx_getn hx hb hts hC_9 hown hW hT (gx.S hM) tt_9 14 (by decide) rfl kw_378 ⟨rfl, rfl, rfl⟩ dX9_state_95 (fun q_27 fq_27 gq_27 => ?_)
          refine lv_iload_n hx hb dX9_state_98 rfl (lv_at hl 3 rfl) ?_
          refine lv_iload_n hx hb dX9_state_99 rfl (lv_at hl 4 rfl) ?_
          refine hx_goi (hx_runV (As := [.ref q_27, .int i2, .int i3]) (rest := []) ⟨hx, hb, hml, hown, hts⟩ hW gq_6 tt_2 (T := TX2) (N := 19) rfl (t_X2_restOn l dC dI dA L_14 h_15 H.size q_6 q_27 i2 i3 hT gq_6 gq_27) (cwV 3 hts (hx_gV kw_861 kw_927 kw_859 kw_860 kw_110) rfl rfl rfl (by decide +kernel) ⟨Nat.le_of_ble_eq_true rfl, Nat.le_of_ble_eq_true rfl⟩) rfl hl.1 rfl (Nat.le_of_ble_eq_true rfl) dX9_state_100 ⟨Nat.le_of_ble_eq_true rfl, Nat.le_of_ble_eq_true rfl⟩) hW (fun r_30 L_28 h_29 H locs p_31 hW => ?_)
          obtain ⟨hr_32, hT, hs⟩ := p_31
          replace hT : hx_T T_tb L_28 h_29 := hT
          replace hs : hx_S T_tb [] L_14 h_15 L_28 h_29 := hs
          replace fx_7 := (hs.o gq_6 trivial rfl).1.trans fx_7
          replace fq_27 := (hs.o (gx.S hM) trivial rfl).2.trans fq_27
          replace pf_x_11 : ∀ j : Nat, (j : Int) < (h_29.2.1 x 11).toInt → h_29.2.2 qc j ≠ none := by
            intro j hj; rw [(hs.o (gx.S hM) trivial rfl).1] at hj; rw [(hs.a (gqc.S hM) rfl j).2]; exact pf_x_11 j hj
          replace hM := hM.tr (hs.mono (by decide))
          replace gq_6 := gq_6.S hs
          replace gq_27 := gq_27.S hs
          exact hx_reti hx hb hr hlk hW ⟨trivial, hT, hM⟩ dX9_state_103
        · refine lv_tableIn (off := 58) (tgt := 104) hx hb dX9_state_46 (by omega) (by omega) (by rw [c_20]; rfl) (by decide) ?_
          refine lv_aload hx hb dX9_state_104 (lv_at hl 0 rfl) ?_
          refine lv_aload_n hx hb dX9_state_106 rfl (lv_at hl 1 rfl) ?_
          refine hx_getn hx hb hts hC_9 hown hW hT (gx.S hM) tt_9 14 (by decide) rfl kw_378 ⟨rfl, rfl, rfl⟩ dX9_state_107 (fun q_33 fq_33 gq_33 => ?_)
          refine lv_iload_n hx hb dX9_state_110 rfl (lv_at hl 3 rfl) ?_
          refine lv_iload_n hx hb dX9_state_111 rfl (lv_at hl 4 rfl) ?_
          refine hx_goi (hx_runVX (As := [.ref q_33, .int i2, .int i3]) (rest := []) ⟨hx, hb, hml, hown, hts⟩ hW gq_6 tt_2 (T := TX2) (N := 19) rfl (t_X2_missedOn l dC dI dA L_14 h_15 H.size b0 q_6 q_33 i2 i3 hT gq_6 gq_33) hZ (cwV 3 hts (hx_gV kw_915 kw_938 kw_913 kw_914 kw_110) rfl rfl rfl (by decide +kernel) ⟨Nat.le_of_ble_eq_true rfl, Nat.le_of_ble_eq_true rfl⟩) rfl hl.1 rfl (Nat.le_of_ble_eq_true rfl) dX9_state_112 ⟨Nat.le_of_ble_eq_true rfl, Nat.le_of_ble_eq_true rfl⟩) hW (fun r_36 L_34 h_35 H locs p_37 hW => ?_)
          obtain ⟨hr_38, hT, hs⟩ := p_37
          replace hT : hx_T T_tb L_34 h_35 := hT
          replace hs : hx_S T_tb [] L_14 h_15 L_34 h_35 := hs
          replace fx_7 := (hs.o gq_6 trivial rfl).1.trans fx_7
          replace fq_33 := (hs.o (gx.S hM) trivial rfl).2.trans fq_33
          replace pf_x_11 : ∀ j : Nat, (j : Int) < (h_35.2.1 x 11).toInt → h_35.2.2 qc j ≠ none := by
            intro j hj; rw [(hs.o (gx.S hM) trivial rfl).1] at hj; rw [(hs.a (gqc.S hM) rfl j).2]; exact pf_x_11 j hj
          replace hM := hM.tr (hs.mono (by decide))
          replace gq_6 := gq_6.S hs
          replace gq_33 := gq_33.S hs
          exact hx_reti hx hb hr hlk hW ⟨trivial, hT, hM⟩ dX9_state_115
        · refine lv_tableIn (off := 70) (tgt := 116) hx hb dX9_state_46 (by omega) (by omega) (by rw [c_20]; rfl) (by decide) ?_
          refine lv_aload hx hb dX9_state_116 (lv_at hl 0 rfl) ?_
          refine lv_aload_n hx hb dX9_state_118 rfl (lv_at hl 1 rfl) ?_
          refine hx_getn hx hb hts hC_9 hown hW hT (gx.S hM) tt_9 14 (by decide) rfl kw_378 ⟨rfl, rfl, rfl⟩ dX9_state_119 (fun q_39 fq_39 gq_39 => ?_)
          refine lv_iload_n hx hb dX9_state_122 rfl (lv_at hl 3 rfl) ?_
          refine lv_iload_n hx hb dX9_state_123 rfl (lv_at hl 4 rfl) ?_
          refine hx_goi (hx_runV (As := [.ref q_39, .int i2, .int i3]) (rest := []) ⟨hx, hb, hml, hown, hts⟩ hW gq_6 tt_2 (T := TX2) (N := 19) rfl (t_X2_paidOn l dC dI dA L_14 h_15 H.size q_6 q_39 i2 i3 hT gq_6 gq_39) (cwV 3 hts (hx_gV kw_876 kw_939 kw_874 kw_875 kw_110) rfl rfl rfl (by decide +kernel) ⟨Nat.le_of_ble_eq_true rfl, Nat.le_of_ble_eq_true rfl⟩) rfl hl.1 rfl (Nat.le_of_ble_eq_true rfl) dX9_state_124 ⟨Nat.le_of_ble_eq_true rfl, Nat.le_of_ble_eq_true rfl⟩) hW (fun r_42 L_40 h_41 H locs p_43 hW => ?_)
          obtain ⟨hr_44, hT, hs⟩ := p_43
          replace hT : hx_T T_tb L_40 h_41 := hT
          replace hs : hx_S T_tb [] L_14 h_15 L_40 h_41 := hs
          replace fx_7 := (hs.o gq_6 trivial rfl).1.trans fx_7
          replace fq_39 := (hs.o (gx.S hM) trivial rfl).2.trans fq_39
          replace pf_x_11 : ∀ j : Nat, (j : Int) < (h_41.2.1 x 11).toInt → h_41.2.2 qc j ≠ none := by
            intro j hj; rw [(hs.o (gx.S hM) trivial rfl).1] at hj; rw [(hs.a (gqc.S hM) rfl j).2]; exact pf_x_11 j hj
          replace hM := hM.tr (hs.mono (by decide))
          replace gq_6 := gq_6.S hs
          replace gq_39 := gq_39.S hs
          exact hx_reti hx hb hr hlk hW ⟨trivial, hT, hM⟩ dX9_state_127
        · refine lv_tableIn (off := 82) (tgt := 128) hx hb dX9_state_46 (by omega) (by omega) (by rw [c_20]; rfl) (by decide) ?_
          refine lv_aload hx hb dX9_state_128 (lv_at hl 0 rfl) ?_
          refine lv_aload_n hx hb dX9_state_130 rfl (lv_at hl 1 rfl) ?_
          refine hx_getn hx hb hts hC_9 hown hW hT (gx.S hM) tt_9 14 (by decide) rfl kw_378 ⟨rfl, rfl, rfl⟩ dX9_state_131 (fun q_45 fq_45 gq_45 => ?_)
          refine lv_iload_n hx hb dX9_state_134 rfl (lv_at hl 3 rfl) ?_
          refine lv_iload_n hx hb dX9_state_135 rfl (lv_at hl 4 rfl) ?_
          refine hx_goi (hx_runV (As := [.ref q_45, .int i2, .int i3]) (rest := []) ⟨hx, hb, hml, hown, hts⟩ hW gq_6 tt_2 (T := TX2) (N := 19) rfl (t_X2_overOn l dC dI dA L_14 h_15 H.size q_6 q_45 i2 i3 hT gq_6 gq_45) (cwV 3 hts (hx_gV kw_943 kw_940 kw_941 kw_942 kw_110) rfl rfl rfl (by decide +kernel) ⟨Nat.le_of_ble_eq_true rfl, Nat.le_of_ble_eq_true rfl⟩) rfl hl.1 rfl (Nat.le_of_ble_eq_true rfl) dX9_state_136 ⟨Nat.le_of_ble_eq_true rfl, Nat.le_of_ble_eq_true rfl⟩) hW (fun r_48 L_46 h_47 H locs p_49 hW => ?_)
          obtain ⟨hr_50, hT, hs⟩ := p_49
          replace hT : hx_T T_tb L_46 h_47 := hT
          replace hs : hx_S T_tb [] L_14 h_15 L_46 h_47 := hs
          replace fx_7 := (hs.o gq_6 trivial rfl).1.trans fx_7
          replace fq_45 := (hs.o (gx.S hM) trivial rfl).2.trans fq_45
          replace pf_x_11 : ∀ j : Nat, (j : Int) < (h_47.2.1 x 11).toInt → h_47.2.2 qc j ≠ none := by
            intro j hj; rw [(hs.o (gx.S hM) trivial rfl).1] at hj; rw [(hs.a (gqc.S hM) rfl j).2]; exact pf_x_11 j hj
          replace hM := hM.tr (hs.mono (by decide))
          replace gq_6 := gq_6.S hs
          replace gq_45 := gq_45.S hs
          exact hx_reti hx hb hr hlk hW ⟨trivial, hT, hM⟩ dX9_state_139
      · skip
        refine lv_iconst (v := -1) hx hb dX9_state_42 (by decide) ?_
        exact hx_reti hx hb hr hlk hW ⟨trivial, hT, hM⟩ dX9_state_43

def wLX9_planned_0 : List Nat := [27, 155, 0, 14, 27, 42, 180, 0, 72, 180, 1, 81, 161, 0, 5, 2, 172, 28, 170, 0, 0, 0, 0, 56, 0, 0, 0, 0, 0, 0, 0, 2, 0, 0, 0, 26, 0, 0, 0, 36, 0, 0, 0, 46, 42, 180, 0, 72, 180, 1, 83, 27, 46, 172, 42, 180, 0, 72, 180, 1, 85, 27, 46, 172]
def wLX9_planned_1 : List Nat := [42, 180, 0, 72, 180, 1, 87, 27, 46, 172, 2, 172]
theorem wX9_planned_0 : (cX9_planned.data.toList.map UInt8.toNat).drop 0 = wLX9_planned_0 ++ (wLX9_planned_1 ++ ([])) := by decide +kernel
theorem wX9_planned_1 : (cX9_planned.data.toList.map UInt8.toNat).drop 64 = wLX9_planned_1 ++ ([]) := hz_wn wX9_planned_0 rfl
theorem dX9_planned_0 : decode cX9_planned 0 = .ok (.iload_n 1, 1) := dq_27 (hz_wg wX9_planned_0 (j := 0) (n := 27) rfl)
theorem dX9_planned_1 : decode cX9_planned 1 = .ok (.ifCond .lt 14, 3) := dq_155 (hz_wg wX9_planned_0 (j := 1) (n := 155) rfl) (hz_wg wX9_planned_0 (j := 2) (n := 0) rfl) (hz_wg wX9_planned_0 (j := 3) (n := 14) rfl) (by decide)
theorem dX9_planned_4 : decode cX9_planned 4 = .ok (.iload_n 1, 1) := dq_27 (hz_wg wX9_planned_0 (j := 4) (n := 27) rfl)
theorem dX9_planned_5 : decode cX9_planned 5 = .ok (.aload_n 0, 1) := dq_42 (hz_wg wX9_planned_0 (j := 5) (n := 42) rfl)
theorem dX9_planned_6 : decode cX9_planned 6 = .ok (.getfield 72, 3) := dq_180 (hz_wg wX9_planned_0 (j := 6) (n := 180) rfl) (hz_wg wX9_planned_0 (j := 7) (n := 0) rfl) (hz_wg wX9_planned_0 (j := 8) (n := 72) rfl) rfl
theorem dX9_planned_9 : decode cX9_planned 9 = .ok (.getfield 337, 3) := dq_180 (hz_wg wX9_planned_0 (j := 9) (n := 180) rfl) (hz_wg wX9_planned_0 (j := 10) (n := 1) rfl) (hz_wg wX9_planned_0 (j := 11) (n := 81) rfl) rfl
theorem dX9_planned_12 : decode cX9_planned 12 = .ok (.if_icmp .lt 5, 3) := dq_161 (hz_wg wX9_planned_0 (j := 12) (n := 161) rfl) (hz_wg wX9_planned_0 (j := 13) (n := 0) rfl) (hz_wg wX9_planned_0 (j := 14) (n := 5) rfl) (by decide)
theorem dX9_planned_15 : decode cX9_planned 15 = .ok (.iconst (-1), 1) := dq_2 (hz_wg wX9_planned_0 (j := 15) (n := 2) rfl)
theorem dX9_planned_16 : decode cX9_planned 16 = .ok (.ireturn, 1) := dq_172 (hz_wg wX9_planned_0 (j := 16) (n := 172) rfl)
theorem dX9_planned_17 : decode cX9_planned 17 = .ok (.iload_n 2, 1) := dq_28 (hz_wg wX9_planned_0 (j := 17) (n := 28) rfl)
theorem dX9_planned_18 : decode cX9_planned 18 = .ok (.tableswitch 56 0 2 #[26, 36, 46], 26) := by decide +kernel
theorem dX9_planned_44 : decode cX9_planned 44 = .ok (.aload_n 0, 1) := dq_42 (hz_wg wX9_planned_0 (j := 44) (n := 42) rfl)
theorem dX9_planned_45 : decode cX9_planned 45 = .ok (.getfield 72, 3) := dq_180 (hz_wg wX9_planned_0 (j := 45) (n := 180) rfl) (hz_wg wX9_planned_0 (j := 46) (n := 0) rfl) (hz_wg wX9_planned_0 (j := 47) (n := 72) rfl) rfl
theorem dX9_planned_48 : decode cX9_planned 48 = .ok (.getfield 339, 3) := dq_180 (hz_wg wX9_planned_0 (j := 48) (n := 180) rfl) (hz_wg wX9_planned_0 (j := 49) (n := 1) rfl) (hz_wg wX9_planned_0 (j := 50) (n := 83) rfl) rfl
theorem dX9_planned_51 : decode cX9_planned 51 = .ok (.iload_n 1, 1) := dq_27 (hz_wg wX9_planned_0 (j := 51) (n := 27) rfl)
theorem dX9_planned_52 : decode cX9_planned 52 = .ok (.iaload, 1) := dq_46 (hz_wg wX9_planned_0 (j := 52) (n := 46) rfl)
theorem dX9_planned_53 : decode cX9_planned 53 = .ok (.ireturn, 1) := dq_172 (hz_wg wX9_planned_0 (j := 53) (n := 172) rfl)
theorem dX9_planned_54 : decode cX9_planned 54 = .ok (.aload_n 0, 1) := dq_42 (hz_wg wX9_planned_0 (j := 54) (n := 42) rfl)
theorem dX9_planned_55 : decode cX9_planned 55 = .ok (.getfield 72, 3) := dq_180 (hz_wg wX9_planned_0 (j := 55) (n := 180) rfl) (hz_wg wX9_planned_0 (j := 56) (n := 0) rfl) (hz_wg wX9_planned_0 (j := 57) (n := 72) rfl) rfl
theorem dX9_planned_58 : decode cX9_planned 58 = .ok (.getfield 341, 3) := dq_180 (hz_wg wX9_planned_0 (j := 58) (n := 180) rfl) (hz_wg wX9_planned_0 (j := 59) (n := 1) rfl) (hz_wg wX9_planned_0 (j := 60) (n := 85) rfl) rfl
theorem dX9_planned_61 : decode cX9_planned 61 = .ok (.iload_n 1, 1) := dq_27 (hz_wg wX9_planned_0 (j := 61) (n := 27) rfl)
theorem dX9_planned_62 : decode cX9_planned 62 = .ok (.iaload, 1) := dq_46 (hz_wg wX9_planned_0 (j := 62) (n := 46) rfl)
theorem dX9_planned_63 : decode cX9_planned 63 = .ok (.ireturn, 1) := dq_172 (hz_wg wX9_planned_0 (j := 63) (n := 172) rfl)
theorem dX9_planned_64 : decode cX9_planned 64 = .ok (.aload_n 0, 1) := dq_42 (hz_wg wX9_planned_1 (j := 0) (n := 42) rfl)
theorem dX9_planned_65 : decode cX9_planned 65 = .ok (.getfield 72, 3) := dq_180 (hz_wg wX9_planned_1 (j := 1) (n := 180) rfl) (hz_wg wX9_planned_1 (j := 2) (n := 0) rfl) (hz_wg wX9_planned_1 (j := 3) (n := 72) rfl) rfl
theorem dX9_planned_68 : decode cX9_planned 68 = .ok (.getfield 343, 3) := dq_180 (hz_wg wX9_planned_1 (j := 4) (n := 180) rfl) (hz_wg wX9_planned_1 (j := 5) (n := 1) rfl) (hz_wg wX9_planned_1 (j := 6) (n := 87) rfl) rfl
theorem dX9_planned_71 : decode cX9_planned 71 = .ok (.iload_n 1, 1) := dq_27 (hz_wg wX9_planned_1 (j := 7) (n := 27) rfl)
theorem dX9_planned_72 : decode cX9_planned 72 = .ok (.iaload, 1) := dq_46 (hz_wg wX9_planned_1 (j := 8) (n := 46) rfl)
theorem dX9_planned_73 : decode cX9_planned 73 = .ok (.ireturn, 1) := dq_172 (hz_wg wX9_planned_1 (j := 9) (n := 172) rfl)
theorem dX9_planned_74 : decode cX9_planned 74 = .ok (.iconst (-1), 1) := dq_2 (hz_wg wX9_planned_1 (j := 10) (n := 2) rfl)
theorem dX9_planned_75 : decode cX9_planned 75 = .ok (.ireturn, 1) := dq_172 (hz_wg wX9_planned_1 (j := 11) (n := 172) rfl)
set_option maxHeartbeats 4000000 in
set_option maxRecDepth 100000 in
theorem t_X9_planned (l : Launch) (dC : Nat → ClassId) (dI : Nat → Nat → Nat) (dA : Nat → ClassId) (L : List Nat) (h : hx_h) (sz : Nat) (x : Nat) (i1 : Int32) (i2 : Int32) (hT : hx_T T_tb L h) (gx : hx_g L h x 9)  : Met l yX9_planned (Cond.code yX9_planned cX9_planned 3 (some .int) :: hx_all) ({ frames := 0, cells := 0, slots := 0, locals := 0 }) (va_Pc [.ref x, .int i1, .int i2] (hx_B T_tb (P_ty dA) (dC, dI) vwCl L h sz)) (va_Qi (fun (r : Int32) (u : List Nat × hx_h) => (True) ∧ hx_T T_tb u.1 u.2 ∧ hx_S T_tb [] L h u.1 u.2) (hx_E T_tb (P_ty dA) (dC, dI) vwCl (hx_A L sz)) (hx_A L sz)) 0 0 (hx_A L sz) := by
  refine hx_met (lv := [(0, .ref x), (1, .int i1), (2, .int i2)]) (by decide +kernel) rfl (Nat.le_of_ble_eq_true rfl) rfl ?_
  intro p e s m below meth c hx hb hml hr hlk hts0 hown hin hsz hW ls hl
  have hts : ∀ w ∈ hx_all, w.before _ s = true := fun w hw => hts0 w (List.mem_cons_of_mem _ hw)
  have hown : s.vm.findClass "SmallCourt" = some m.cls := hown
  have hM : hx_S T_tb [] L h L h := hx_S.rf
  refine lv_iload_n hx hb dX9_planned_0 rfl (lv_at hl 1 rfl) ?_
  refine hb_if_lt (zx := i1.toInt) (tgt := 15) hx hb rfl dX9_planned_1 (by decide) (fun c_1 => ?_) (fun c_1 => ?_)
  · skip
    refine lv_iconst (v := -1) hx hb dX9_planned_15 (by decide) ?_
    exact hx_reti hx hb hr hlk hW ⟨trivial, hT, hM⟩ dX9_planned_16
  · skip
    refine lv_iload_n hx hb dX9_planned_4 rfl (lv_at hl 1 rfl) ?_
    refine lv_aload_n hx hb dX9_planned_5 rfl (lv_at hl 0 rfl) ?_
    refine hx_getn hx hb hts hC_9 hown hW hT (gx.S hM) tt_9 17 (by decide) rfl kw_381 ⟨rfl, rfl, rfl⟩ dX9_planned_6 (fun q_2 fq_2 gq_2 => ?_)
    refine hx_geti hx hb hts hC_5 hown hW hT gq_2 tt_5 1 (by decide) rfl kw_261 ⟨rfl, rfl, rfl⟩ dX9_planned_9 (fun x_3 ex_3 lx_3 ux_3 => ?_)
    have fx_3 := ex_3.symm
    refine hb_icmp_lt (zx := i1.toInt) (zy := x_3.toInt) (tgt := 17) hx hb rfl rfl dX9_planned_12 (by decide) (fun c_4 => ?_) (fun c_4 => ?_)
    · skip
      refine lv_iload_n hx hb dX9_planned_17 rfl (lv_at hl 2 rfl) ?_
      rcases (show (i2.toInt < 0 ∨ 2 < i2.toInt) ∨ i2.toInt = 0 ∨ i2.toInt = 1 ∨ i2.toInt = 2 from by omega) with c_5 | c_5 | c_5 | c_5
      · refine lv_tableOut (tgt := 74) hx hb dX9_planned_18 c_5 (by decide) ?_
        refine lv_iconst (v := -1) hx hb dX9_planned_74 (by decide) ?_
        exact hx_reti hx hb hr hlk hW ⟨trivial, hT, hM⟩ dX9_planned_75
      · refine lv_tableIn (off := 26) (tgt := 44) hx hb dX9_planned_18 (by omega) (by omega) (by rw [c_5]; rfl) (by decide) ?_
        refine lv_aload_n hx hb dX9_planned_44 rfl (lv_at hl 0 rfl) ?_
        refine hk_getr hx hb hts hC_9 hown hW (gx.S hM) tt_9 17 (by decide) rfl kw_381 ⟨rfl, rfl, rfl⟩ fq_2 dX9_planned_45 ?_
        refine hx_getn hx hb hts hC_5 hown hW hT gq_2 tt_5 2 (by decide) rfl kw_263 ⟨rfl, rfl, rfl⟩ dX9_planned_48 (fun q_6 fq_6 gq_6 => ?_)
        refine lv_iload_n hx hb dX9_planned_51 rfl (lv_at hl 1 rfl) ?_
        refine hx_iald hx hb hW hT gq_6 tt_27 rfl ⟨by omega, by omega⟩ dX9_planned_52 (fun x_7 ex_7 lx_7 ux_7 => ?_)
        exact hx_reti hx hb hr hlk hW ⟨trivial, hT, hM⟩ dX9_planned_53
      · refine lv_tableIn (off := 36) (tgt := 54) hx hb dX9_planned_18 (by omega) (by omega) (by rw [c_5]; rfl) (by decide) ?_
        refine lv_aload_n hx hb dX9_planned_54 rfl (lv_at hl 0 rfl) ?_
        refine hk_getr hx hb hts hC_9 hown hW (gx.S hM) tt_9 17 (by decide) rfl kw_381 ⟨rfl, rfl, rfl⟩ fq_2 dX9_planned_55 ?_
        refine hx_getn hx hb hts hC_5 hown hW hT gq_2 tt_5 3 (by decide) rfl kw_265 ⟨rfl, rfl, rfl⟩ dX9_planned_58 (fun q_8 fq_8 gq_8 => ?_)
        refine lv_iload_n hx hb dX9_planned_61 rfl (lv_at hl 1 rfl) ?_
        refine hx_iald hx hb hW hT gq_8 tt_28 rfl ⟨by omega, by omega⟩ dX9_planned_62 (fun x_9 ex_9 lx_9 ux_9 => ?_)
        exact hx_reti hx hb hr hlk hW ⟨trivial, hT, hM⟩ dX9_planned_63
      · refine lv_tableIn (off := 46) (tgt := 64) hx hb dX9_planned_18 (by omega) (by omega) (by rw [c_5]; rfl) (by decide) ?_
        refine lv_aload_n hx hb dX9_planned_64 rfl (lv_at hl 0 rfl) ?_
        refine hk_getr hx hb hts hC_9 hown hW (gx.S hM) tt_9 17 (by decide) rfl kw_381 ⟨rfl, rfl, rfl⟩ fq_2 dX9_planned_65 ?_
        refine hx_getn hx hb hts hC_5 hown hW hT gq_2 tt_5 4 (by decide) rfl kw_267 ⟨rfl, rfl, rfl⟩ dX9_planned_68 (fun q_10 fq_10 gq_10 => ?_)
        refine lv_iload_n hx hb dX9_planned_71 rfl (lv_at hl 1 rfl) ?_
        refine hx_iald hx hb hW hT gq_10 tt_29 rfl ⟨by omega, by omega⟩ dX9_planned_72 (fun x_11 ex_11 lx_11 ux_11 => ?_)
        exact hx_reti hx hb hr hlk hW ⟨trivial, hT, hM⟩ dX9_planned_73
    · skip
      refine lv_iconst (v := -1) hx hb dX9_planned_15 (by decide) ?_
      exact hx_reti hx hb hr hlk hW ⟨trivial, hT, hM⟩ dX9_planned_16

def wLX9_netted_0 : List Nat := [27, 2, 160, 0, 11, 42, 180, 0, 79, 180, 1, 118, 172, 27, 155, 0, 14, 27, 42, 180, 0, 79, 180, 1, 118, 161, 0, 7, 2, 167, 0, 12, 42, 180, 0, 79, 180, 1, 119, 27, 46, 172]
theorem wX9_netted_0 : (cX9_netted.data.toList.map UInt8.toNat).drop 0 = wLX9_netted_0 ++ ([]) := by decide +kernel
theorem dX9_netted_0 : decode cX9_netted 0 = .ok (.iload_n 1, 1) := dq_27 (hz_wg wX9_netted_0 (j := 0) (n := 27) rfl)
theorem dX9_netted_1 : decode cX9_netted 1 = .ok (.iconst (-1), 1) := dq_2 (hz_wg wX9_netted_0 (j := 1) (n := 2) rfl)
theorem dX9_netted_2 : decode cX9_netted 2 = .ok (.if_icmp .ne 11, 3) := dq_160 (hz_wg wX9_netted_0 (j := 2) (n := 160) rfl) (hz_wg wX9_netted_0 (j := 3) (n := 0) rfl) (hz_wg wX9_netted_0 (j := 4) (n := 11) rfl) (by decide)
theorem dX9_netted_5 : decode cX9_netted 5 = .ok (.aload_n 0, 1) := dq_42 (hz_wg wX9_netted_0 (j := 5) (n := 42) rfl)
theorem dX9_netted_6 : decode cX9_netted 6 = .ok (.getfield 79, 3) := dq_180 (hz_wg wX9_netted_0 (j := 6) (n := 180) rfl) (hz_wg wX9_netted_0 (j := 7) (n := 0) rfl) (hz_wg wX9_netted_0 (j := 8) (n := 79) rfl) rfl
theorem dX9_netted_9 : decode cX9_netted 9 = .ok (.getfield 374, 3) := dq_180 (hz_wg wX9_netted_0 (j := 9) (n := 180) rfl) (hz_wg wX9_netted_0 (j := 10) (n := 1) rfl) (hz_wg wX9_netted_0 (j := 11) (n := 118) rfl) rfl
theorem dX9_netted_12 : decode cX9_netted 12 = .ok (.ireturn, 1) := dq_172 (hz_wg wX9_netted_0 (j := 12) (n := 172) rfl)
theorem dX9_netted_13 : decode cX9_netted 13 = .ok (.iload_n 1, 1) := dq_27 (hz_wg wX9_netted_0 (j := 13) (n := 27) rfl)
theorem dX9_netted_14 : decode cX9_netted 14 = .ok (.ifCond .lt 14, 3) := dq_155 (hz_wg wX9_netted_0 (j := 14) (n := 155) rfl) (hz_wg wX9_netted_0 (j := 15) (n := 0) rfl) (hz_wg wX9_netted_0 (j := 16) (n := 14) rfl) (by decide)
theorem dX9_netted_17 : decode cX9_netted 17 = .ok (.iload_n 1, 1) := dq_27 (hz_wg wX9_netted_0 (j := 17) (n := 27) rfl)
theorem dX9_netted_18 : decode cX9_netted 18 = .ok (.aload_n 0, 1) := dq_42 (hz_wg wX9_netted_0 (j := 18) (n := 42) rfl)
theorem dX9_netted_19 : decode cX9_netted 19 = .ok (.getfield 79, 3) := dq_180 (hz_wg wX9_netted_0 (j := 19) (n := 180) rfl) (hz_wg wX9_netted_0 (j := 20) (n := 0) rfl) (hz_wg wX9_netted_0 (j := 21) (n := 79) rfl) rfl
theorem dX9_netted_22 : decode cX9_netted 22 = .ok (.getfield 374, 3) := dq_180 (hz_wg wX9_netted_0 (j := 22) (n := 180) rfl) (hz_wg wX9_netted_0 (j := 23) (n := 1) rfl) (hz_wg wX9_netted_0 (j := 24) (n := 118) rfl) rfl
theorem dX9_netted_25 : decode cX9_netted 25 = .ok (.if_icmp .lt 7, 3) := dq_161 (hz_wg wX9_netted_0 (j := 25) (n := 161) rfl) (hz_wg wX9_netted_0 (j := 26) (n := 0) rfl) (hz_wg wX9_netted_0 (j := 27) (n := 7) rfl) (by decide)
theorem dX9_netted_28 : decode cX9_netted 28 = .ok (.iconst (-1), 1) := dq_2 (hz_wg wX9_netted_0 (j := 28) (n := 2) rfl)
theorem dX9_netted_29 : decode cX9_netted 29 = .ok (.goto 12, 3) := dq_167 (hz_wg wX9_netted_0 (j := 29) (n := 167) rfl) (hz_wg wX9_netted_0 (j := 30) (n := 0) rfl) (hz_wg wX9_netted_0 (j := 31) (n := 12) rfl) (by decide)
theorem dX9_netted_32 : decode cX9_netted 32 = .ok (.aload_n 0, 1) := dq_42 (hz_wg wX9_netted_0 (j := 32) (n := 42) rfl)
theorem dX9_netted_33 : decode cX9_netted 33 = .ok (.getfield 79, 3) := dq_180 (hz_wg wX9_netted_0 (j := 33) (n := 180) rfl) (hz_wg wX9_netted_0 (j := 34) (n := 0) rfl) (hz_wg wX9_netted_0 (j := 35) (n := 79) rfl) rfl
theorem dX9_netted_36 : decode cX9_netted 36 = .ok (.getfield 375, 3) := dq_180 (hz_wg wX9_netted_0 (j := 36) (n := 180) rfl) (hz_wg wX9_netted_0 (j := 37) (n := 1) rfl) (hz_wg wX9_netted_0 (j := 38) (n := 119) rfl) rfl
theorem dX9_netted_39 : decode cX9_netted 39 = .ok (.iload_n 1, 1) := dq_27 (hz_wg wX9_netted_0 (j := 39) (n := 27) rfl)
theorem dX9_netted_40 : decode cX9_netted 40 = .ok (.iaload, 1) := dq_46 (hz_wg wX9_netted_0 (j := 40) (n := 46) rfl)
theorem dX9_netted_41 : decode cX9_netted 41 = .ok (.ireturn, 1) := dq_172 (hz_wg wX9_netted_0 (j := 41) (n := 172) rfl)
set_option maxHeartbeats 4000000 in
set_option maxRecDepth 100000 in
theorem t_X9_netted (l : Launch) (dC : Nat → ClassId) (dI : Nat → Nat → Nat) (dA : Nat → ClassId) (L : List Nat) (h : hx_h) (sz : Nat) (x : Nat) (i1 : Int32) (hT : hx_T T_tb L h) (gx : hx_g L h x 9)  : Met l yX9_netted (Cond.code yX9_netted cX9_netted 2 (some .int) :: hx_all) ({ frames := 0, cells := 0, slots := 0, locals := 0 }) (va_Pc [.ref x, .int i1] (hx_B T_tb (P_ty dA) (dC, dI) vwCl L h sz)) (va_Qi (fun (r : Int32) (u : List Nat × hx_h) => (True) ∧ hx_T T_tb u.1 u.2 ∧ hx_S T_tb [] L h u.1 u.2) (hx_E T_tb (P_ty dA) (dC, dI) vwCl (hx_A L sz)) (hx_A L sz)) 0 0 (hx_A L sz) := by
  refine hx_met (lv := [(0, .ref x), (1, .int i1)]) (by decide +kernel) rfl (Nat.le_of_ble_eq_true rfl) rfl ?_
  intro p e s m below meth c hx hb hml hr hlk hts0 hown hin hsz hW ls hl
  have hts : ∀ w ∈ hx_all, w.before _ s = true := fun w hw => hts0 w (List.mem_cons_of_mem _ hw)
  have hown : s.vm.findClass "SmallCourt" = some m.cls := hown
  have hM : hx_S T_tb [] L h L h := hx_S.rf
  refine lv_iload_n hx hb dX9_netted_0 rfl (lv_at hl 1 rfl) ?_
  refine lv_iconst (v := -1) hx hb dX9_netted_1 (by decide) ?_
  refine hb_icmp_ne (zx := i1.toInt) (zy := (-1)) (tgt := 13) hx hb rfl (by decide) dX9_netted_2 (by decide) (fun c_1 => ?_) (fun c_1 => ?_)
  · skip
    refine lv_iload_n hx hb dX9_netted_13 rfl (lv_at hl 1 rfl) ?_
    refine hb_if_lt (zx := i1.toInt) (tgt := 28) hx hb rfl dX9_netted_14 (by decide) (fun c_2 => ?_) (fun c_2 => ?_)
    · skip
      refine lv_iconst (v := -1) hx hb dX9_netted_28 (by decide) ?_
      refine lv_goto (tgt := 41) hx hb dX9_netted_29 (by decide) ?_
      exact hx_reti hx hb hr hlk hW ⟨trivial, hT, hM⟩ dX9_netted_41
    · skip
      refine lv_iload_n hx hb dX9_netted_17 rfl (lv_at hl 1 rfl) ?_
      refine lv_aload_n hx hb dX9_netted_18 rfl (lv_at hl 0 rfl) ?_
      refine hx_getn hx hb hts hC_9 hown hW hT (gx.S hM) tt_9 18 (by decide) rfl kw_382 ⟨rfl, rfl, rfl⟩ dX9_netted_19 (fun q_3 fq_3 gq_3 => ?_)
      refine hx_geti hx hb hts hC_7 hown hW hT gq_3 tt_7 0 (by decide) rfl kw_310 ⟨rfl, rfl, rfl⟩ dX9_netted_22 (fun x_4 ex_4 lx_4 ux_4 => ?_)
      have fx_4 := ex_4.symm
      refine hb_icmp_lt (zx := i1.toInt) (zy := x_4.toInt) (tgt := 32) hx hb rfl rfl dX9_netted_25 (by decide) (fun c_5 => ?_) (fun c_5 => ?_)
      · skip
        refine lv_aload_n hx hb dX9_netted_32 rfl (lv_at hl 0 rfl) ?_
        refine hk_getr hx hb hts hC_9 hown hW (gx.S hM) tt_9 18 (by decide) rfl kw_382 ⟨rfl, rfl, rfl⟩ fq_3 dX9_netted_33 ?_
        refine hx_getn hx hb hts hC_7 hown hW hT gq_3 tt_7 3 (by decide) rfl kw_316 ⟨rfl, rfl, rfl⟩ dX9_netted_36 (fun q_6 fq_6 gq_6 => ?_)
        refine lv_iload_n hx hb dX9_netted_39 rfl (lv_at hl 1 rfl) ?_
        refine hx_iald hx hb hW hT gq_6 tt_35 rfl ⟨by omega, by omega⟩ dX9_netted_40 (fun x_7 ex_7 lx_7 ux_7 => ?_)
        exact hx_reti hx hb hr hlk hW ⟨trivial, hT, hM⟩ dX9_netted_41
      · skip
        refine lv_iconst (v := -1) hx hb dX9_netted_28 (by decide) ?_
        refine lv_goto (tgt := 41) hx hb dX9_netted_29 (by decide) ?_
        exact hx_reti hx hb hr hlk hW ⟨trivial, hT, hM⟩ dX9_netted_41
  · skip
    refine lv_aload_n hx hb dX9_netted_5 rfl (lv_at hl 0 rfl) ?_
    refine hx_getn hx hb hts hC_9 hown hW hT (gx.S hM) tt_9 18 (by decide) rfl kw_382 ⟨rfl, rfl, rfl⟩ dX9_netted_6 (fun q_8 fq_8 gq_8 => ?_)
    refine hx_geti hx hb hts hC_7 hown hW hT gq_8 tt_7 0 (by decide) rfl kw_310 ⟨rfl, rfl, rfl⟩ dX9_netted_9 (fun x_9 ex_9 lx_9 ux_9 => ?_)
    have fx_9 := ex_9.symm
    exact hx_reti hx hb hr hlk hW ⟨trivial, hT, hM⟩ dX9_netted_12

theorem dX9_walked_0 : decode cX9_walked 0 = .ok (.iload_n 1, 1) := by decide +kernel
theorem dX9_walked_1 : decode cX9_walked 1 = .ok (.ifCond .lt 14, 3) := by decide +kernel
theorem dX9_walked_4 : decode cX9_walked 4 = .ok (.iload_n 1, 1) := by decide +kernel
theorem dX9_walked_5 : decode cX9_walked 5 = .ok (.aload_n 0, 1) := by decide +kernel
theorem dX9_walked_6 : decode cX9_walked 6 = .ok (.getfield 86, 3) := by decide +kernel
theorem dX9_walked_9 : decode cX9_walked 9 = .ok (.getfield 391, 3) := by decide +kernel
theorem dX9_walked_12 : decode cX9_walked 12 = .ok (.if_icmp .lt 7, 3) := by decide +kernel
theorem dX9_walked_15 : decode cX9_walked 15 = .ok (.iconst (-1), 1) := by decide +kernel
theorem dX9_walked_16 : decode cX9_walked 16 = .ok (.goto 12, 3) := by decide +kernel
theorem dX9_walked_19 : decode cX9_walked 19 = .ok (.aload_n 0, 1) := by decide +kernel
theorem dX9_walked_20 : decode cX9_walked 20 = .ok (.getfield 86, 3) := by decide +kernel
theorem dX9_walked_23 : decode cX9_walked 23 = .ok (.getfield 394, 3) := by decide +kernel
theorem dX9_walked_26 : decode cX9_walked 26 = .ok (.iload_n 1, 1) := by decide +kernel
theorem dX9_walked_27 : decode cX9_walked 27 = .ok (.iaload, 1) := by decide +kernel
theorem dX9_walked_28 : decode cX9_walked 28 = .ok (.ireturn, 1) := by decide +kernel
def wLX9_count_0 : List Nat := [27, 170, 0, 0, 0, 0, 0, 105, 0, 0, 0, 0, 0, 0, 0, 8, 0, 0, 0, 51, 0, 0, 0, 56, 0, 0, 0, 61, 0, 0, 0, 66, 0, 0, 0, 71, 0, 0, 0, 79, 0, 0, 0, 84, 0, 0, 0, 92, 0, 0, 0, 97, 42, 180, 0, 94, 172, 42, 180, 0, 105, 172, 42, 180]
def wLX9_count_1 : List Nat := [0, 125, 172, 42, 182, 1, 149, 172, 42, 180, 0, 42, 180, 0, 158, 172, 42, 180, 0, 181, 172, 42, 180, 0, 58, 180, 1, 22, 172, 42, 180, 0, 98, 172, 42, 180, 0, 86, 180, 1, 125, 172, 2, 172]
theorem wX9_count_0 : (cX9_count.data.toList.map UInt8.toNat).drop 0 = wLX9_count_0 ++ (wLX9_count_1 ++ ([])) := by decide +kernel
theorem wX9_count_1 : (cX9_count.data.toList.map UInt8.toNat).drop 64 = wLX9_count_1 ++ ([]) := hz_wn wX9_count_0 rfl
theorem dX9_count_0 : decode cX9_count 0 = .ok (.iload_n 1, 1) := dq_27 (hz_wg wX9_count_0 (j := 0) (n := 27) rfl)
theorem dX9_count_1 : decode cX9_count 1 = .ok (.tableswitch 105 0 8 #[51, 56, 61, 66, 71, 79, 84, 92, 97], 51) := by decide +kernel
theorem dX9_count_52 : decode cX9_count 52 = .ok (.aload_n 0, 1) := dq_42 (hz_wg wX9_count_0 (j := 52) (n := 42) rfl)
theorem dX9_count_53 : decode cX9_count 53 = .ok (.getfield 94, 3) := dq_180 (hz_wg wX9_count_0 (j := 53) (n := 180) rfl) (hz_wg wX9_count_0 (j := 54) (n := 0) rfl) (hz_wg wX9_count_0 (j := 55) (n := 94) rfl) rfl
theorem dX9_count_56 : decode cX9_count 56 = .ok (.ireturn, 1) := dq_172 (hz_wg wX9_count_0 (j := 56) (n := 172) rfl)
theorem dX9_count_57 : decode cX9_count 57 = .ok (.aload_n 0, 1) := dq_42 (hz_wg wX9_count_0 (j := 57) (n := 42) rfl)
theorem dX9_count_58 : decode cX9_count 58 = .ok (.getfield 105, 3) := dq_180 (hz_wg wX9_count_0 (j := 58) (n := 180) rfl) (hz_wg wX9_count_0 (j := 59) (n := 0) rfl) (hz_wg wX9_count_0 (j := 60) (n := 105) rfl) rfl
theorem dX9_count_61 : decode cX9_count 61 = .ok (.ireturn, 1) := dq_172 (hz_wg wX9_count_0 (j := 61) (n := 172) rfl)
theorem dX9_count_62 : decode cX9_count 62 = .ok (.aload_n 0, 1) := dq_42 (hz_wg wX9_count_0 (j := 62) (n := 42) rfl)
theorem dX9_count_63 : decode cX9_count 63 = .ok (.getfield 125, 3) := dq_180 (hz_wg wX9_count_0 (j := 63) (n := 180) rfl) (hz_wg wX9_count_1 (j := 0) (n := 0) rfl) (hz_wg wX9_count_1 (j := 1) (n := 125) rfl) rfl
theorem dX9_count_66 : decode cX9_count 66 = .ok (.ireturn, 1) := dq_172 (hz_wg wX9_count_1 (j := 2) (n := 172) rfl)
theorem dX9_count_67 : decode cX9_count 67 = .ok (.aload_n 0, 1) := dq_42 (hz_wg wX9_count_1 (j := 3) (n := 42) rfl)
theorem dX9_count_68 : decode cX9_count 68 = .ok (.invokevirtual 405, 3) := dq_182 (hz_wg wX9_count_1 (j := 4) (n := 182) rfl) (hz_wg wX9_count_1 (j := 5) (n := 1) rfl) (hz_wg wX9_count_1 (j := 6) (n := 149) rfl) rfl
theorem dX9_count_71 : decode cX9_count 71 = .ok (.ireturn, 1) := dq_172 (hz_wg wX9_count_1 (j := 7) (n := 172) rfl)
theorem dX9_count_72 : decode cX9_count 72 = .ok (.aload_n 0, 1) := dq_42 (hz_wg wX9_count_1 (j := 8) (n := 42) rfl)
theorem dX9_count_73 : decode cX9_count 73 = .ok (.getfield 42, 3) := dq_180 (hz_wg wX9_count_1 (j := 9) (n := 180) rfl) (hz_wg wX9_count_1 (j := 10) (n := 0) rfl) (hz_wg wX9_count_1 (j := 11) (n := 42) rfl) rfl
theorem dX9_count_76 : decode cX9_count 76 = .ok (.getfield 158, 3) := dq_180 (hz_wg wX9_count_1 (j := 12) (n := 180) rfl) (hz_wg wX9_count_1 (j := 13) (n := 0) rfl) (hz_wg wX9_count_1 (j := 14) (n := 158) rfl) rfl
theorem dX9_count_79 : decode cX9_count 79 = .ok (.ireturn, 1) := dq_172 (hz_wg wX9_count_1 (j := 15) (n := 172) rfl)
theorem dX9_count_80 : decode cX9_count 80 = .ok (.aload_n 0, 1) := dq_42 (hz_wg wX9_count_1 (j := 16) (n := 42) rfl)
theorem dX9_count_81 : decode cX9_count 81 = .ok (.getfield 181, 3) := dq_180 (hz_wg wX9_count_1 (j := 17) (n := 180) rfl) (hz_wg wX9_count_1 (j := 18) (n := 0) rfl) (hz_wg wX9_count_1 (j := 19) (n := 181) rfl) rfl
theorem dX9_count_84 : decode cX9_count 84 = .ok (.ireturn, 1) := dq_172 (hz_wg wX9_count_1 (j := 20) (n := 172) rfl)
theorem dX9_count_85 : decode cX9_count 85 = .ok (.aload_n 0, 1) := dq_42 (hz_wg wX9_count_1 (j := 21) (n := 42) rfl)
theorem dX9_count_86 : decode cX9_count 86 = .ok (.getfield 58, 3) := dq_180 (hz_wg wX9_count_1 (j := 22) (n := 180) rfl) (hz_wg wX9_count_1 (j := 23) (n := 0) rfl) (hz_wg wX9_count_1 (j := 24) (n := 58) rfl) rfl
theorem dX9_count_89 : decode cX9_count 89 = .ok (.getfield 278, 3) := dq_180 (hz_wg wX9_count_1 (j := 25) (n := 180) rfl) (hz_wg wX9_count_1 (j := 26) (n := 1) rfl) (hz_wg wX9_count_1 (j := 27) (n := 22) rfl) rfl
theorem dX9_count_92 : decode cX9_count 92 = .ok (.ireturn, 1) := dq_172 (hz_wg wX9_count_1 (j := 28) (n := 172) rfl)
theorem dX9_count_93 : decode cX9_count 93 = .ok (.aload_n 0, 1) := dq_42 (hz_wg wX9_count_1 (j := 29) (n := 42) rfl)
theorem dX9_count_94 : decode cX9_count 94 = .ok (.getfield 98, 3) := dq_180 (hz_wg wX9_count_1 (j := 30) (n := 180) rfl) (hz_wg wX9_count_1 (j := 31) (n := 0) rfl) (hz_wg wX9_count_1 (j := 32) (n := 98) rfl) rfl
theorem dX9_count_97 : decode cX9_count 97 = .ok (.ireturn, 1) := dq_172 (hz_wg wX9_count_1 (j := 33) (n := 172) rfl)
theorem dX9_count_98 : decode cX9_count 98 = .ok (.aload_n 0, 1) := dq_42 (hz_wg wX9_count_1 (j := 34) (n := 42) rfl)
theorem dX9_count_99 : decode cX9_count 99 = .ok (.getfield 86, 3) := dq_180 (hz_wg wX9_count_1 (j := 35) (n := 180) rfl) (hz_wg wX9_count_1 (j := 36) (n := 0) rfl) (hz_wg wX9_count_1 (j := 37) (n := 86) rfl) rfl
theorem dX9_count_102 : decode cX9_count 102 = .ok (.getfield 381, 3) := dq_180 (hz_wg wX9_count_1 (j := 38) (n := 180) rfl) (hz_wg wX9_count_1 (j := 39) (n := 1) rfl) (hz_wg wX9_count_1 (j := 40) (n := 125) rfl) rfl
theorem dX9_count_105 : decode cX9_count 105 = .ok (.ireturn, 1) := dq_172 (hz_wg wX9_count_1 (j := 41) (n := 172) rfl)
theorem dX9_count_106 : decode cX9_count 106 = .ok (.iconst (-1), 1) := dq_2 (hz_wg wX9_count_1 (j := 42) (n := 2) rfl)
theorem dX9_count_107 : decode cX9_count 107 = .ok (.ireturn, 1) := dq_172 (hz_wg wX9_count_1 (j := 43) (n := 172) rfl)
set_option maxHeartbeats 4000000 in
set_option maxRecDepth 100000 in
theorem t_X9_count (l : Launch) (dC : Nat → ClassId) (dI : Nat → Nat → Nat) (dA : Nat → ClassId) (L : List Nat) (h : hx_h) (sz : Nat) (x : Nat) (i1 : Int32) (hT : hx_T T_tb L h) (gx : hx_g L h x 9) (qp : Nat) (gqp : hx_g L h qp 44) (f_x_7 : h.2.2 x 7 = some qp) (pf_x_8 : ∀ j : Nat, (j : Int) < (h.2.1 x 8).toInt → h.2.2 qp j ≠ none) : Met l yX9_count (Cond.code yX9_count cX9_count 2 (some .int) :: hx_all) ({ frames := 1, cells := 0, slots := 0, locals := 22 }) (va_Pc [.ref x, .int i1] (hx_B T_tb (P_ty dA) (dC, dI) vwCl L h sz)) (va_Qi (fun (r : Int32) (u : List Nat × hx_h) => (True) ∧ hx_T T_tb u.1 u.2 ∧ hx_S T_tb [] L h u.1 u.2) (hx_E T_tb (P_ty dA) (dC, dI) vwCl (hx_A L sz)) (hx_A L sz)) 0 0 (hx_A L sz) := by
  refine hx_met (lv := [(0, .ref x), (1, .int i1)]) (by decide +kernel) rfl (Nat.le_of_ble_eq_true rfl) rfl ?_
  intro p e s m below meth c hx hb hml hr hlk hts0 hown hin hsz hW ls hl
  have hts : ∀ w ∈ hx_all, w.before _ s = true := fun w hw => hts0 w (List.mem_cons_of_mem _ hw)
  have hown : s.vm.findClass "SmallCourt" = some m.cls := hown
  have hM : hx_S T_tb [] L h L h := hx_S.rf
  refine lv_iload_n hx hb dX9_count_0 rfl (lv_at hl 1 rfl) ?_
  rcases (show (i1.toInt < 0 ∨ 8 < i1.toInt) ∨ i1.toInt = 0 ∨ i1.toInt = 1 ∨ i1.toInt = 2 ∨ i1.toInt = 3 ∨ i1.toInt = 4 ∨ i1.toInt = 5 ∨ i1.toInt = 6 ∨ i1.toInt = 7 ∨ i1.toInt = 8 from by omega) with c_1 | c_1 | c_1 | c_1 | c_1 | c_1 | c_1 | c_1 | c_1 | c_1
  · refine lv_tableOut (tgt := 106) hx hb dX9_count_1 c_1 (by decide) ?_
    refine lv_iconst (v := -1) hx hb dX9_count_106 (by decide) ?_
    exact hx_reti hx hb hr hlk hW ⟨trivial, hT, hM⟩ dX9_count_107
  · refine lv_tableIn (off := 51) (tgt := 52) hx hb dX9_count_1 (by omega) (by omega) (by rw [c_1]; rfl) (by decide) ?_
    refine lv_aload_n hx hb dX9_count_52 rfl (lv_at hl 0 rfl) ?_
    refine hx_geti hx hb hts hC_9 hown hW hT (gx.S hM) tt_9 2 (by decide) rfl kw_366 ⟨rfl, rfl, rfl⟩ dX9_count_53 (fun x_2 ex_2 lx_2 ux_2 => ?_)
    have fx_2 := ex_2.symm
    exact hx_reti hx hb hr hlk hW ⟨trivial, hT, hM⟩ dX9_count_56
  · refine lv_tableIn (off := 56) (tgt := 57) hx hb dX9_count_1 (by omega) (by omega) (by rw [c_1]; rfl) (by decide) ?_
    refine lv_aload_n hx hb dX9_count_57 rfl (lv_at hl 0 rfl) ?_
    refine hx_geti hx hb hts hC_9 hown hW hT (gx.S hM) tt_9 6 (by decide) rfl kw_370 ⟨rfl, rfl, rfl⟩ dX9_count_58 (fun x_3 ex_3 lx_3 ux_3 => ?_)
    have fx_3 := ex_3.symm
    exact hx_reti hx hb hr hlk hW ⟨trivial, hT, hM⟩ dX9_count_61
  · refine lv_tableIn (off := 61) (tgt := 62) hx hb dX9_count_1 (by omega) (by omega) (by rw [c_1]; rfl) (by decide) ?_
    refine lv_aload_n hx hb dX9_count_62 rfl (lv_at hl 0 rfl) ?_
    refine hx_geti hx hb hts hC_9 hown hW hT (gx.S hM) tt_9 8 (by decide) rfl kw_372 ⟨rfl, rfl, rfl⟩ dX9_count_63 (fun x_4 ex_4 lx_4 ux_4 => ?_)
    have fx_4 := ex_4.symm
    exact hx_reti hx hb hr hlk hW ⟨trivial, hT, hM⟩ dX9_count_66
  · refine lv_tableIn (off := 66) (tgt := 67) hx hb dX9_count_1 (by omega) (by omega) (by rw [c_1]; rfl) (by decide) ?_
    refine lv_aload_n hx hb dX9_count_67 rfl (lv_at hl 0 rfl) ?_
    refine hx_goi (hx_runV (As := []) (rest := []) ⟨hx, hb, hml, hown, hts⟩ hW (gx.S hM) tt_9 (T := TX9) (N := 20) rfl (t_X9_livingJudges l dC dI dA L h s.heap.size x hT (gx.S hM) qp (gqp.S hM) ((hM.o gx trivial rfl).2.trans f_x_7) pf_x_8) (cwV 0 hts (hx_gV kw_1112 kw_1109 kw_1111 kw_47 kw_94) rfl rfl rfl (by decide +kernel) ⟨Nat.le_of_ble_eq_true rfl, Nat.le_of_ble_eq_true rfl⟩) rfl hl.1 rfl (Nat.le_of_ble_eq_true rfl) dX9_count_68 ⟨Nat.le_of_ble_eq_true rfl, Nat.le_of_ble_eq_true rfl⟩) hW (fun r_7 L_5 h_6 H locs p_8 hW => ?_)
    obtain ⟨hr_9, hT, hs⟩ := p_8
    replace hT : hx_T T_tb L_5 h_6 := hT
    replace hs : hx_S T_tb [] L h L_5 h_6 := hs
    replace pf_x_8 : ∀ j : Nat, (j : Int) < (h_6.2.1 x 8).toInt → h_6.2.2 qp j ≠ none := by
      intro j hj; rw [(hs.o (gx.S hM) trivial rfl).1] at hj; rw [(hs.a (gqp.S hM) rfl j).2]; exact pf_x_8 j hj
    replace hM := hM.tr (hs.mono (by decide))
    exact hx_reti hx hb hr hlk hW ⟨trivial, hT, hM⟩ dX9_count_71
  · refine lv_tableIn (off := 71) (tgt := 72) hx hb dX9_count_1 (by omega) (by omega) (by rw [c_1]; rfl) (by decide) ?_
    refine lv_aload_n hx hb dX9_count_72 rfl (lv_at hl 0 rfl) ?_
    refine hx_getn hx hb hts hC_9 hown hW hT (gx.S hM) tt_9 9 (by decide) rfl kw_373 ⟨rfl, rfl, rfl⟩ dX9_count_73 (fun q_10 fq_10 gq_10 => ?_)
    refine hx_geti hx hb hts hC_1 hown hW hT gq_10 tt_1 0 (by decide) rfl kw_197 ⟨rfl, rfl, rfl⟩ dX9_count_76 (fun x_11 ex_11 lx_11 ux_11 => ?_)
    have fx_11 := ex_11.symm
    exact hx_reti hx hb hr hlk hW ⟨trivial, hT, hM⟩ dX9_count_79
  · refine lv_tableIn (off := 79) (tgt := 80) hx hb dX9_count_1 (by omega) (by omega) (by rw [c_1]; rfl) (by decide) ?_
    refine lv_aload_n hx hb dX9_count_80 rfl (lv_at hl 0 rfl) ?_
    refine hx_geti hx hb hts hC_9 hown hW hT (gx.S hM) tt_9 11 (by decide) rfl kw_375 ⟨rfl, rfl, rfl⟩ dX9_count_81 (fun x_12 ex_12 lx_12 ux_12 => ?_)
    have fx_12 := ex_12.symm
    exact hx_reti hx hb hr hlk hW ⟨trivial, hT, hM⟩ dX9_count_84
  · refine lv_tableIn (off := 84) (tgt := 85) hx hb dX9_count_1 (by omega) (by omega) (by rw [c_1]; rfl) (by decide) ?_
    refine lv_aload_n hx hb dX9_count_85 rfl (lv_at hl 0 rfl) ?_
    refine hx_getn hx hb hts hC_9 hown hW hT (gx.S hM) tt_9 14 (by decide) rfl kw_378 ⟨rfl, rfl, rfl⟩ dX9_count_86 (fun q_13 fq_13 gq_13 => ?_)
    refine hx_geti hx hb hts hC_3 hown hW hT gq_13 tt_3 0 (by decide) rfl kw_232 ⟨rfl, rfl, rfl⟩ dX9_count_89 (fun x_14 ex_14 lx_14 ux_14 => ?_)
    have fx_14 := ex_14.symm
    exact hx_reti hx hb hr hlk hW ⟨trivial, hT, hM⟩ dX9_count_92
  · refine lv_tableIn (off := 92) (tgt := 93) hx hb dX9_count_1 (by omega) (by omega) (by rw [c_1]; rfl) (by decide) ?_
    refine lv_aload_n hx hb dX9_count_93 rfl (lv_at hl 0 rfl) ?_
    refine hx_geti hx hb hts hC_9 hown hW hT (gx.S hM) tt_9 1 (by decide) rfl kw_365 ⟨rfl, rfl, rfl⟩ dX9_count_94 (fun x_15 ex_15 lx_15 ux_15 => ?_)
    have fx_15 := ex_15.symm
    exact hx_reti hx hb hr hlk hW ⟨trivial, hT, hM⟩ dX9_count_97
  · refine lv_tableIn (off := 97) (tgt := 98) hx hb dX9_count_1 (by omega) (by omega) (by rw [c_1]; rfl) (by decide) ?_
    refine lv_aload_n hx hb dX9_count_98 rfl (lv_at hl 0 rfl) ?_
    refine hx_getn hx hb hts hC_9 hown hW hT (gx.S hM) tt_9 19 (by decide) rfl kw_383 ⟨rfl, rfl, rfl⟩ dX9_count_99 (fun q_16 fq_16 gq_16 => ?_)
    refine hx_geti hx hb hts hC_8 hown hW hT gq_16 tt_8 0 (by decide) rfl kw_346 ⟨rfl, rfl, rfl⟩ dX9_count_102 (fun x_17 ex_17 lx_17 ux_17 => ?_)
    have fx_17 := ex_17.symm
    exact hx_reti hx hb hr hlk hW ⟨trivial, hT, hM⟩ dX9_count_105

theorem dX9_walk_0 : decode cX9_walk 0 = .ok (.aload_n 0, 1) := by decide +kernel
theorem dX9_walk_1 : decode cX9_walk 1 = .ok (.getfield 86, 3) := by decide +kernel
theorem dX9_walk_4 : decode cX9_walk 4 = .ok (.invokevirtual 388, 3) := by decide +kernel
theorem dX9_walk_7 : decode cX9_walk 7 = .ok (.ireturn, 1) := by decide +kernel