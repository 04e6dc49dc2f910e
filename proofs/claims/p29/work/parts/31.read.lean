def wLX6_skipBlanks_0 : List Nat := [42, 180, 0, 19, 42, 180, 0, 15, 162, 0, 30, 42, 180, 0, 9, 42, 180, 0, 19, 51, 16, 32, 160, 0, 16, 42, 89, 180, 0, 19, 4, 96, 181, 0, 19, 167, 255, 221, 177]
theorem wX6_skipBlanks_0 : (cX6_skipBlanks.data.toList.map UInt8.toNat).drop 0 = wLX6_skipBlanks_0 ++ ([]) := by decide +kernel
theorem dX6_skipBlanks_0 : decode cX6_skipBlanks 0 = .ok (.aload_n 0, 1) := dq_42 (hz_wg wX6_skipBlanks_0 (j := 0) (n := 42) rfl)
theorem dX6_skipBlanks_1 : decode cX6_skipBlanks 1 = .ok (.getfield 19, 3) := dq_180 (hz_wg wX6_skipBlanks_0 (j := 1) (n := 180) rfl) (hz_wg wX6_skipBlanks_0 (j := 2) (n := 0) rfl) (hz_wg wX6_skipBlanks_0 (j := 3) (n := 19) rfl) rfl
theorem dX6_skipBlanks_4 : decode cX6_skipBlanks 4 = .ok (.aload_n 0, 1) := dq_42 (hz_wg wX6_skipBlanks_0 (j := 4) (n := 42) rfl)
theorem dX6_skipBlanks_5 : decode cX6_skipBlanks 5 = .ok (.getfield 15, 3) := dq_180 (hz_wg wX6_skipBlanks_0 (j := 5) (n := 180) rfl) (hz_wg wX6_skipBlanks_0 (j := 6) (n := 0) rfl) (hz_wg wX6_skipBlanks_0 (j := 7) (n := 15) rfl) rfl
theorem dX6_skipBlanks_8 : decode cX6_skipBlanks 8 = .ok (.if_icmp .ge 30, 3) := dq_162 (hz_wg wX6_skipBlanks_0 (j := 8) (n := 162) rfl) (hz_wg wX6_skipBlanks_0 (j := 9) (n := 0) rfl) (hz_wg wX6_skipBlanks_0 (j := 10) (n := 30) rfl) (by decide)
theorem dX6_skipBlanks_11 : decode cX6_skipBlanks 11 = .ok (.aload_n 0, 1) := dq_42 (hz_wg wX6_skipBlanks_0 (j := 11) (n := 42) rfl)
theorem dX6_skipBlanks_12 : decode cX6_skipBlanks 12 = .ok (.getfield 9, 3) := dq_180 (hz_wg wX6_skipBlanks_0 (j := 12) (n := 180) rfl) (hz_wg wX6_skipBlanks_0 (j := 13) (n := 0) rfl) (hz_wg wX6_skipBlanks_0 (j := 14) (n := 9) rfl) rfl
theorem dX6_skipBlanks_15 : decode cX6_skipBlanks 15 = .ok (.aload_n 0, 1) := dq_42 (hz_wg wX6_skipBlanks_0 (j := 15) (n := 42) rfl)
theorem dX6_skipBlanks_16 : decode cX6_skipBlanks 16 = .ok (.getfield 19, 3) := dq_180 (hz_wg wX6_skipBlanks_0 (j := 16) (n := 180) rfl) (hz_wg wX6_skipBlanks_0 (j := 17) (n := 0) rfl) (hz_wg wX6_skipBlanks_0 (j := 18) (n := 19) rfl) rfl
theorem dX6_skipBlanks_19 : decode cX6_skipBlanks 19 = .ok (.baload, 1) := dq_51 (hz_wg wX6_skipBlanks_0 (j := 19) (n := 51) rfl)
theorem dX6_skipBlanks_20 : decode cX6_skipBlanks 20 = .ok (.bipush 32, 2) := dq_16 (hz_wg wX6_skipBlanks_0 (j := 20) (n := 16) rfl) (hz_wg wX6_skipBlanks_0 (j := 21) (n := 32) rfl) (by decide)
theorem dX6_skipBlanks_22 : decode cX6_skipBlanks 22 = .ok (.if_icmp .ne 16, 3) := dq_160 (hz_wg wX6_skipBlanks_0 (j := 22) (n := 160) rfl) (hz_wg wX6_skipBlanks_0 (j := 23) (n := 0) rfl) (hz_wg wX6_skipBlanks_0 (j := 24) (n := 16) rfl) (by decide)
theorem dX6_skipBlanks_25 : decode cX6_skipBlanks 25 = .ok (.aload_n 0, 1) := dq_42 (hz_wg wX6_skipBlanks_0 (j := 25) (n := 42) rfl)
theorem dX6_skipBlanks_26 : decode cX6_skipBlanks 26 = .ok (.dup, 1) := dq_89 (hz_wg wX6_skipBlanks_0 (j := 26) (n := 89) rfl)
theorem dX6_skipBlanks_27 : decode cX6_skipBlanks 27 = .ok (.getfield 19, 3) := dq_180 (hz_wg wX6_skipBlanks_0 (j := 27) (n := 180) rfl) (hz_wg wX6_skipBlanks_0 (j := 28) (n := 0) rfl) (hz_wg wX6_skipBlanks_0 (j := 29) (n := 19) rfl) rfl
theorem dX6_skipBlanks_30 : decode cX6_skipBlanks 30 = .ok (.iconst 1, 1) := dq_4 (hz_wg wX6_skipBlanks_0 (j := 30) (n := 4) rfl)
theorem dX6_skipBlanks_31 : decode cX6_skipBlanks 31 = .ok (.iadd, 1) := dq_96 (hz_wg wX6_skipBlanks_0 (j := 31) (n := 96) rfl)
theorem dX6_skipBlanks_32 : decode cX6_skipBlanks 32 = .ok (.putfield 19, 3) := dq_181 (hz_wg wX6_skipBlanks_0 (j := 32) (n := 181) rfl) (hz_wg wX6_skipBlanks_0 (j := 33) (n := 0) rfl) (hz_wg wX6_skipBlanks_0 (j := 34) (n := 19) rfl) rfl
theorem dX6_skipBlanks_35 : decode cX6_skipBlanks 35 = .ok (.goto (-35), 3) := dq_167 (hz_wg wX6_skipBlanks_0 (j := 35) (n := 167) rfl) (hz_wg wX6_skipBlanks_0 (j := 36) (n := 255) rfl) (hz_wg wX6_skipBlanks_0 (j := 37) (n := 221) rfl) (by decide)
theorem dX6_skipBlanks_38 : decode cX6_skipBlanks 38 = .ok (.return_, 1) := dq_177 (hz_wg wX6_skipBlanks_0 (j := 38) (n := 177) rfl)
set_option maxHeartbeats 4000000 in
set_option maxRecDepth 100000 in
theorem t_X6_skipBlanks (l : Launch) (dC : Nat → ClassId) (dI : Nat → Nat → Nat) (dA : Nat → ClassId) (L : List Nat) (h : hx_h) (sz : Nat) (x : Nat) (hT : hx_T T_tb L h) (gx : hx_g L h x 6) (qt : Nat) (gqt : hx_g L h qt 42) (f_x_0 : h.2.2 x 0 = some qt) : Met l yX6_skipBlanks (Cond.code yX6_skipBlanks cX6_skipBlanks 1 none :: hx_all) ({ frames := 0, cells := 0, slots := 0, locals := 0 }) (va_Pc [.ref x] (hx_B T_tb (P_ty dA) (dC, dI) vwCl L h sz)) (va_Qv (fun (u : List Nat × hx_h) => hx_T T_tb u.1 u.2 ∧ hx_S T_tb [(6, 2)] L h u.1 u.2) (hx_E T_tb (P_ty dA) (dC, dI) vwCl (hx_A L sz)) (hx_A L sz)) 0 0 (hx_A L sz) := by
  refine hx_met (lv := [(0, .ref x)]) (by decide +kernel) rfl (Nat.le_of_ble_eq_true rfl) rfl ?_
  intro p e s m below meth c hx hb hml hr hlk hts0 hown hin hsz hW ls hl
  have hts : ∀ w ∈ hx_all, w.before _ s = true := fun w hw => hts0 w (List.mem_cons_of_mem _ hw)
  have hown : s.vm.findClass "SmallCourt$Reader" = some m.cls := hown
  have hM : hx_S T_tb [(6, 2)] L h L h := hx_S.rf
  obtain ⟨fv_1, efv_1⟩ : ∃ y : Int32, y = h.2.1 x 2 := ⟨_, rfl⟩
  have bfv_1 := hT.gi (gx.S hM) tt_6 (k := 2) rfl
  rw [← efv_1] at bfv_1
  have bfv_1 : 0 ≤ fv_1.toInt ∧ fv_1.toInt ≤ 402 := bfv_1
  have ffv_1 := efv_1.symm
  have loop0 : ∀ (n0 : Nat) (fw0_x_2 : Int32) (H : Heap) (locs : List Loc) (hL1 : List Nat) (hl1 : hx_h), 0 ≤ fw0_x_2.toInt → fw0_x_2.toInt ≤ 402 → ∀ (ls : Array Slot), 402 - fw0_x_2.toInt < (n0 : Int) → hx_W T_tb (P_ty dA) (dC, dI) vwCl (hx_A L sz) s.heap hL1 hl1 s H locs → hx_T T_tb hL1 hl1 → hx_S T_tb [(6, 2)] L h hL1 hl1 → hl1.2.1 x 2 = fw0_x_2 → lv_has ls 1 [(0, .ref x)] → W p l e ({ frames := 0, cells := 0, slots := 0, locals := 0 }) s m ([.ref x] : List Value).toArray below meth c H locs 0 0 (MQ below (va_Qv (fun (u : List Nat × hx_h) => hx_T T_tb u.1 u.2 ∧ hx_S T_tb [(6, 2)] L h u.1 u.2) (hx_E T_tb (P_ty dA) (dC, dI) vwCl (hx_A L sz)) (hx_A L sz)) ([.ref x] : List Value).toArray s 0 0 (hx_A L sz)) (F0 m 0 ls []) := by
    intro n0
    induction n0 with
    | zero => intro fw0_x_2 H locs hL1 hl1 blfw0_x_2 bufw0_x_2  ls hn0; exfalso; omega
    | succ n0 ih0 =>
      intro fw0_x_2 H locs hL1 hl1 blfw0_x_2 bufw0_x_2  ls hn0 hW hT hM ffw0_x_2  hl
      refine lv_aload_n hx hb dX6_skipBlanks_0 rfl (lv_at hl 0 rfl) ?_
      refine hk_geti hx hb hts hC_6 hown hW (gx.S hM) tt_6 2 (by decide) rfl kw_127 ⟨rfl, rfl, rfl⟩ ffw0_x_2 dX6_skipBlanks_1 ?_
      refine lv_aload_n hx hb dX6_skipBlanks_4 rfl (lv_at hl 0 rfl) ?_
      refine hx_geti hx hb hts hC_6 hown hW hT (gx.S hM) tt_6 1 (by decide) rfl kw_126 ⟨rfl, rfl, rfl⟩ dX6_skipBlanks_5 (fun x_2 ex_2 lx_2 ux_2 => ?_)
      have fx_2 := ex_2.symm
      refine hb_icmp_ge (zx := fw0_x_2.toInt) (zy := x_2.toInt) (tgt := 38) hx hb rfl rfl dX6_skipBlanks_8 (by decide) (fun c_3 => ?_) (fun c_3 => ?_)
      · skip
        exact hx_retv hx hb hr hlk hW ⟨hT, hM⟩ dX6_skipBlanks_38
      · skip
        refine lv_aload_n hx hb dX6_skipBlanks_11 rfl (lv_at hl 0 rfl) ?_
        refine hk_getr hx hb hts hC_6 hown hW (gx.S hM) tt_6 0 (by decide) rfl kw_125 ⟨rfl, rfl, rfl⟩ ((hM.o gx trivial rfl).2.trans f_x_0) dX6_skipBlanks_12 ?_
        refine lv_aload_n hx hb dX6_skipBlanks_15 rfl (lv_at hl 0 rfl) ?_
        refine hk_geti hx hb hts hC_6 hown hW (gx.S hM) tt_6 2 (by decide) rfl kw_127 ⟨rfl, rfl, rfl⟩ ffw0_x_2 dX6_skipBlanks_16 ?_
        refine hx_bald hx hb hW hT (gqt.S hM) tt_42 rfl ⟨by omega, by omega⟩ dX6_skipBlanks_19 (fun x_4 ex_4 lx_4 ux_4 => ?_)
        refine lv_bipush (v := 32) hx hb dX6_skipBlanks_20 (by decide) ?_
        refine hb_icmp_ne (zx := x_4.toInt) (zy := 32) (tgt := 38) hx hb rfl (by decide) dX6_skipBlanks_22 (by decide) (fun c_5 => ?_) (fun c_5 => ?_)
        · skip
          exact hx_retv hx hb hr hlk hW ⟨hT, hM⟩ dX6_skipBlanks_38
        · skip
          refine lv_aload_n hx hb dX6_skipBlanks_25 rfl (lv_at hl 0 rfl) ?_
          refine lv_dup hx hb dX6_skipBlanks_26 rfl ?_
          refine hk_geti hx hb hts hC_6 hown hW (gx.S hM) tt_6 2 (by decide) rfl kw_127 ⟨rfl, rfl, rfl⟩ ffw0_x_2 dX6_skipBlanks_27 ?_
          refine lv_iconst (v := 1) hx hb dX6_skipBlanks_30 (by decide) ?_
          refine lv_iadd hx hb dX6_skipBlanks_31 ?_
          have rg_6 := i32_r fw0_x_2
          refine lv_topi (fun x_7 ex_7 => ?_)
          have zx_7 : x_7.toInt = fw0_x_2.toInt + 1 := by rw [ex_7]; exact i32_add rfl (by decide) (by omega) (by omega)
          refine hx_puti hx hb hts hC_6 hown hW hT (hx_S.rf (M := [(6, 2)])) (gx.S hM) tt_6 2 (by decide) rfl kw_127 ⟨rfl, rfl, rfl⟩ rfl (x := x_7) ⟨by omega, by omega⟩ rfl rfl rfl (List.mem_singleton.mpr rfl) dX6_skipBlanks_32 (fun H locs h_8 eh_8 hW hT hs => ?_)
          replace fx_2 := (hs.o (gx.S hM) trivial rfl).1.trans fx_2
          replace ex_4 := ex_4.trans (hs.a (gqt.S hM) rfl _).1.symm
          replace hM := hM.tr (hs.mono (by decide))
          have f_9 : h_8.2.1 x 2 = x_7 := by rw [eh_8]; exact hx_pi_at _ _ _ _
          refine lv_goto (tgt := 0) hx hb dX6_skipBlanks_35 (by decide) ?_
          exact ih0 x_7 _ _ hL1 h_8 (by omega) (by omega)  ls (by omega) hW hT hM f_9  (lv_sub hl [0] rfl)
  exact loop0 403 fv_1 _ _ L h (by omega) (by omega)  ls (by omega) hW hT hM ffv_1  hl


set_option maxHeartbeats 4000000 in
set_option maxRecDepth 100000 in
theorem t_X6_wordEnd_2 (l : Launch) (dC : Nat → ClassId) (dI : Nat → Nat → Nat) (dA : Nat → ClassId) (L : List Nat) (h : hx_h) (sz : Nat) (x : Nat) (hT : hx_T T_tb L h) (gx : hx_g L h x 6) (at0 : Int32) (f_x_2 : h.2.1 x 2 = at0) (qt : Nat) (gqt : hx_g L h qt 42) (f_x_0 : h.2.2 x 0 = some qt) : Met l yX6_wordEnd (Cond.code yX6_wordEnd cX6_wordEnd 2 (some .int) :: hx_all) ({ frames := 0, cells := 0, slots := 0, locals := 0 }) (va_Pc [.ref x] (hx_B T_tb (P_ty dA) (dC, dI) vwCl L h sz)) (va_Qi (fun (r : Int32) (u : List Nat × hx_h) => (0 ≤ r.toInt ∧ (r.toInt ≤ 400 ∨ r.toInt = at0.toInt)) ∧ hx_T T_tb u.1 u.2 ∧ hx_S T_tb [] L h u.1 u.2) (hx_E T_tb (P_ty dA) (dC, dI) vwCl (hx_A L sz)) (hx_A L sz)) 0 0 (hx_A L sz) := by
  refine hx_met (lv := [(0, .ref x)]) (by decide +kernel) rfl (Nat.le_of_ble_eq_true rfl) rfl ?_
  intro p e s m below meth c hx hb hml hr hlk hts0 hown hin hsz hW ls hl
  have hts : ∀ w ∈ hx_all, w.before _ s = true := fun w hw => hts0 w (List.mem_cons_of_mem _ hw)
  have hown : s.vm.findClass "SmallCourt$Reader" = some m.cls := hown
  have hM : hx_S T_tb [] L h L h := hx_S.rf
  have b_at0 := hT.gi gx tt_6 (k := 2) rfl
  rw [f_x_2] at b_at0
  have b_at0 : 0 ≤ at0.toInt ∧ at0.toInt ≤ 402 := b_at0
  refine lv_aload_n hx hb dX6_wordEnd_0 rfl (lv_at hl 0 rfl) ?_
  refine hk_geti hx hb hts hC_6 hown hW (gx.S hM) tt_6 2 (by decide) rfl kw_127 ⟨rfl, rfl, rfl⟩ ((hM.o gx trivial rfl).1.trans f_x_2) dX6_wordEnd_1 ?_
  refine lv_istore_n (lv' := [(1, .int at0), (0, .ref x)]) hx hb dX6_wordEnd_4 rfl hl (by decide) rfl (fun ls hl => ?_)
  have loop5 : ∀ (n5 : Nat) (iv5_1 : Int32) (H : Heap) (locs : List Loc) (hL1 : List Nat) (hl1 : hx_h), 0 ≤ iv5_1.toInt → iv5_1.toInt ≤ 402 → (iv5_1.toInt ≤ 400 ∨ iv5_1.toInt = at0.toInt) → ∀ (ls : Array Slot), 402 - iv5_1.toInt < (n5 : Int) → hx_W T_tb (P_ty dA) (dC, dI) vwCl (hx_A L sz) s.heap hL1 hl1 s H locs → hx_T T_tb hL1 hl1 → hx_S T_tb [] L h hL1 hl1 → lv_has ls 2 [(1, .int iv5_1), (0, .ref x)] → W p l e ({ frames := 0, cells := 0, slots := 0, locals := 0 }) s m ([.ref x] : List Value).toArray below meth c H locs 0 0 (MQ below (va_Qi (fun (r : Int32) (u : List Nat × hx_h) => (0 ≤ r.toInt ∧ (r.toInt ≤ 400 ∨ r.toInt = at0.toInt)) ∧ hx_T T_tb u.1 u.2 ∧ hx_S T_tb [] L h u.1 u.2) (hx_E T_tb (P_ty dA) (dC, dI) vwCl (hx_A L sz)) (hx_A L sz)) ([.ref x] : List Value).toArray s 0 0 (hx_A L sz)) (F0 m 5 ls []) := by
    intro n5
    induction n5 with
    | zero => intro iv5_1 H locs hL1 hl1 bliv5_1 buiv5_1 vi5_0 ls hn5; exfalso; omega
    | succ n5 ih5 =>
      intro iv5_1 H locs hL1 hl1 bliv5_1 buiv5_1 vi5_0 ls hn5 hW hT hM   hl
      refine lv_iload_n hx hb dX6_wordEnd_5 rfl (lv_at hl 0 rfl) ?_
      refine lv_aload_n hx hb dX6_wordEnd_6 rfl (lv_at hl 1 rfl) ?_
      refine hx_geti hx hb hts hC_6 hown hW hT (gx.S hM) tt_6 1 (by decide) rfl kw_126 ⟨rfl, rfl, rfl⟩ dX6_wordEnd_7 (fun x_1 ex_1 lx_1 ux_1 => ?_)
      have fx_1 := ex_1.symm
      refine hb_icmp_ge (zx := iv5_1.toInt) (zy := x_1.toInt) (tgt := 41) hx hb rfl rfl dX6_wordEnd_10 (by decide) (fun c_2 => ?_) (fun c_2 => ?_)
      · skip
        refine lv_iload_n hx hb dX6_wordEnd_41 rfl (lv_at hl 0 rfl) ?_
        exact hx_reti hx hb hr hlk hW ⟨(by first | omega | (refine ⟨?_, ?_⟩ <;> omega)), hT, hM⟩ dX6_wordEnd_42
      · skip
        refine lv_aload_n hx hb dX6_wordEnd_13 rfl (lv_at hl 1 rfl) ?_
        refine hk_getr hx hb hts hC_6 hown hW (gx.S hM) tt_6 0 (by decide) rfl kw_125 ⟨rfl, rfl, rfl⟩ ((hM.o gx trivial rfl).2.trans f_x_0) dX6_wordEnd_14 ?_
        refine lv_iload_n hx hb dX6_wordEnd_17 rfl (lv_at hl 0 rfl) ?_
        refine hx_bald hx hb hW hT (gqt.S hM) tt_42 rfl ⟨by omega, by omega⟩ dX6_wordEnd_18 (fun x_3 ex_3 lx_3 ux_3 => ?_)
        refine lv_bipush (v := 97) hx hb dX6_wordEnd_19 (by decide) ?_
        refine hb_icmp_lt (zx := x_3.toInt) (zy := 97) (tgt := 41) hx hb rfl (by decide) dX6_wordEnd_21 (by decide) (fun c_4 => ?_) (fun c_4 => ?_)
        · skip
          refine lv_iload_n hx hb dX6_wordEnd_41 rfl (lv_at hl 0 rfl) ?_
          exact hx_reti hx hb hr hlk hW ⟨(by first | omega | (refine ⟨?_, ?_⟩ <;> omega)), hT, hM⟩ dX6_wordEnd_42
        · skip
          refine lv_aload_n hx hb dX6_wordEnd_24 rfl (lv_at hl 1 rfl) ?_
          refine hk_getr hx hb hts hC_6 hown hW (gx.S hM) tt_6 0 (by decide) rfl kw_125 ⟨rfl, rfl, rfl⟩ ((hM.o gx trivial rfl).2.trans f_x_0) dX6_wordEnd_25 ?_
          refine lv_iload_n hx hb dX6_wordEnd_28 rfl (lv_at hl 0 rfl) ?_
          refine hx_bald hx hb hW hT (gqt.S hM) tt_42 rfl ⟨by omega, by omega⟩ dX6_wordEnd_29 (fun x_5 ex_5 lx_5 ux_5 => ?_)
          obtain rfl : x_3 = x_5 := ex_3.trans ex_5.symm
          refine lv_bipush (v := 122) hx hb dX6_wordEnd_30 (by decide) ?_
          refine hb_icmp_gt (zx := x_3.toInt) (zy := 122) (tgt := 41) hx hb rfl (by decide) dX6_wordEnd_32 (by decide) (fun c_6 => ?_) (fun c_6 => ?_)
          · skip
            refine lv_iload_n hx hb dX6_wordEnd_41 rfl (lv_at hl 0 rfl) ?_
            exact hx_reti hx hb hr hlk hW ⟨(by first | omega | (refine ⟨?_, ?_⟩ <;> omega)), hT, hM⟩ dX6_wordEnd_42
          · skip
            obtain ⟨x_7, ex_7⟩ : ∃ y : Int32, y = iv5_1 + Int32.ofInt 1 := ⟨_, rfl⟩
            have rg_8 := i32_r iv5_1
            have zx_7 : x_7.toInt = iv5_1.toInt + (1) := by rw [ex_7]; exact i32_add rfl (by decide) (by omega) (by omega)
            refine lv_iinc (v := x_7) (lv' := [(1, .int x_7), (0, .ref x)]) hx hb dX6_wordEnd_35 hl (k := 0) rfl ex_7.symm (by decide) rfl (fun ls hl => ?_)
            refine lv_goto (tgt := 5) hx hb dX6_wordEnd_38 (by decide) ?_
            exact ih5 x_7 _ _ hL1 hl1 (by omega) (by omega) (by omega) ls (by omega) hW hT hM   (lv_sub hl [0, 1] rfl)
  exact loop5 403 at0 _ _ L h (by omega) (by omega) (by omega) ls (by omega) hW hT hM   hl

theorem dX6_isByte_0 : decode cX6_isByte 0 = .ok (.aload_n 0, 1) := by decide +kernel
theorem dX6_isByte_1 : decode cX6_isByte 1 = .ok (.getfield 19, 3) := by decide +kernel
theorem dX6_isByte_4 : decode cX6_isByte 4 = .ok (.aload_n 0, 1) := by decide +kernel
theorem dX6_isByte_5 : decode cX6_isByte 5 = .ok (.getfield 15, 3) := by decide +kernel
theorem dX6_isByte_8 : decode cX6_isByte 8 = .ok (.if_icmp .ge 20, 3) := by decide +kernel
theorem dX6_isByte_11 : decode cX6_isByte 11 = .ok (.aload_n 0, 1) := by decide +kernel
theorem dX6_isByte_12 : decode cX6_isByte 12 = .ok (.getfield 9, 3) := by decide +kernel
theorem dX6_isByte_15 : decode cX6_isByte 15 = .ok (.aload_n 0, 1) := by decide +kernel
theorem dX6_isByte_16 : decode cX6_isByte 16 = .ok (.getfield 19, 3) := by decide +kernel
theorem dX6_isByte_19 : decode cX6_isByte 19 = .ok (.baload, 1) := by decide +kernel
theorem dX6_isByte_20 : decode cX6_isByte 20 = .ok (.iload_n 1, 1) := by decide +kernel
theorem dX6_isByte_21 : decode cX6_isByte 21 = .ok (.if_icmp .ne 7, 3) := by decide +kernel
theorem dX6_isByte_24 : decode cX6_isByte 24 = .ok (.iconst 1, 1) := by decide +kernel
theorem dX6_isByte_25 : decode cX6_isByte 25 = .ok (.goto 4, 3) := by decide +kernel
theorem dX6_isByte_28 : decode cX6_isByte 28 = .ok (.iconst 0, 1) := by decide +kernel
theorem dX6_isByte_29 : decode cX6_isByte 29 = .ok (.ireturn, 1) := by decide +kernel
set_option maxHeartbeats 4000000 in
set_option maxRecDepth 100000 in
theorem t_X6_isByte (l : Launch) (dC : Nat → ClassId) (dI : Nat → Nat → Nat) (dA : Nat → ClassId) (L : List Nat) (h : hx_h) (sz : Nat) (x : Nat) (i1 : Int32) (hT : hx_T T_tb L h) (gx : hx_g L h x 6) (at0 : Int32) (f_x_2 : h.2.1 x 2 = at0) (qt : Nat) (gqt : hx_g L h qt 42) (f_x_0 : h.2.2 x 0 = some qt) : Met l yX6_isByte (Cond.code yX6_isByte cX6_isByte 2 (some .boolean) :: hx_all) ({ frames := 0, cells := 0, slots := 0, locals := 0 }) (va_Pc [.ref x, .int i1] (hx_B T_tb (P_ty dA) (dC, dI) vwCl L h sz)) (va_Qi (fun (r : Int32) (u : List Nat × hx_h) => ((r.toInt = 0 ∨ r.toInt = 1) ∧ (r.toInt = 1 → at0.toInt ≤ 399)) ∧ hx_T T_tb u.1 u.2 ∧ hx_S T_tb [] L h u.1 u.2) (hx_E T_tb (P_ty dA) (dC, dI) vwCl (hx_A L sz)) (hx_A L sz)) 0 0 (hx_A L sz) := by
  refine hx_met (lv := [(0, .ref x), (1, .int i1)]) (by decide +kernel) rfl (Nat.le_of_ble_eq_true rfl) rfl ?_
  intro p e s m below meth c hx hb hml hr hlk hts0 hown hin hsz hW ls hl
  have hts : ∀ w ∈ hx_all, w.before _ s = true := fun w hw => hts0 w (List.mem_cons_of_mem _ hw)
  have hown : s.vm.findClass "SmallCourt$Reader" = some m.cls := hown
  have hM : hx_S T_tb [] L h L h := hx_S.rf
  have b_at0 := hT.gi gx tt_6 (k := 2) rfl
  rw [f_x_2] at b_at0
  have b_at0 : 0 ≤ at0.toInt ∧ at0.toInt ≤ 402 := b_at0
  refine lv_aload_n hx hb dX6_isByte_0 rfl (lv_at hl 0 rfl) ?_
  refine hk_geti hx hb hts hC_6 hown hW (gx.S hM) tt_6 2 (by decide) rfl kw_127 ⟨rfl, rfl, rfl⟩ ((hM.o gx trivial rfl).1.trans f_x_2) dX6_isByte_1 ?_
  refine lv_aload_n hx hb dX6_isByte_4 rfl (lv_at hl 0 rfl) ?_
  refine hx_geti hx hb hts hC_6 hown hW hT (gx.S hM) tt_6 1 (by decide) rfl kw_126 ⟨rfl, rfl, rfl⟩ dX6_isByte_5 (fun x_1 ex_1 lx_1 ux_1 => ?_)
  have fx_1 := ex_1.symm
  refine hb_icmp_ge (zx := at0.toInt) (zy := x_1.toInt) (tgt := 28) hx hb rfl rfl dX6_isByte_8 (by decide) (fun c_2 => ?_) (fun c_2 => ?_)
  · skip
    refine lv_iconst (v := 0) hx hb dX6_isByte_28 (by decide) ?_
    exact hx_retz hx hb hr rfl hlk hW ⟨(by have zr : (0 : Int32).toInt = 0 := (by decide); (first | omega | (refine ⟨?_, ?_⟩ <;> omega))), hT, hM⟩ dX6_isByte_29
  · skip
    refine lv_aload_n hx hb dX6_isByte_11 rfl (lv_at hl 0 rfl) ?_
    refine hk_getr hx hb hts hC_6 hown hW (gx.S hM) tt_6 0 (by decide) rfl kw_125 ⟨rfl, rfl, rfl⟩ ((hM.o gx trivial rfl).2.trans f_x_0) dX6_isByte_12 ?_
    refine lv_aload_n hx hb dX6_isByte_15 rfl (lv_at hl 0 rfl) ?_
    refine hk_geti hx hb hts hC_6 hown hW (gx.S hM) tt_6 2 (by decide) rfl kw_127 ⟨rfl, rfl, rfl⟩ ((hM.o gx trivial rfl).1.trans f_x_2) dX6_isByte_16 ?_
    refine hx_bald hx hb hW hT (gqt.S hM) tt_42 rfl ⟨by omega, by omega⟩ dX6_isByte_19 (fun x_3 ex_3 lx_3 ux_3 => ?_)
    refine lv_iload_n hx hb dX6_isByte_20 rfl (lv_at hl 1 rfl) ?_
    have jn_29 : ∀ (xj_4 : Int32) (ls : Array Slot), 0 ≤ xj_4.toInt → xj_4.toInt ≤ 1 → lv_has ls 2 [(0, .ref x), (1, .int i1)] → W p l e ({ frames := 0, cells := 0, slots := 0, locals := 0 }) s m ([.ref x, .int i1] : List Value).toArray below meth c s.heap [] 0 0 (MQ below (va_Qi (fun (r : Int32) (u : List Nat × hx_h) => ((r.toInt = 0 ∨ r.toInt = 1) ∧ (r.toInt = 1 → at0.toInt ≤ 399)) ∧ hx_T T_tb u.1 u.2 ∧ hx_S T_tb [] L h u.1 u.2) (hx_E T_tb (P_ty dA) (dC, dI) vwCl (hx_A L sz)) (hx_A L sz)) ([.ref x, .int i1] : List Value).toArray s 0 0 (hx_A L sz)) (F0 m 29 ls [.int xj_4]) := by
      intro xj_4 ls blxj_4 buxj_4 hl
      exact hx_retz hx hb hr (hx_nar01 (by omega)) hlk hW ⟨(by first | omega | (refine ⟨?_, ?_⟩ <;> omega)), hT, hM⟩ dX6_isByte_29
    refine hb_icmp_ne (zx := x_3.toInt) (zy := i1.toInt) (tgt := 28) hx hb rfl rfl dX6_isByte_21 (by decide) (fun c_5 => ?_) (fun c_5 => ?_)
    · skip
      refine lv_iconst (v := 0) hx hb dX6_isByte_28 (by decide) ?_
      exact jn_29 (0 : Int32) ls (by decide) (by decide) hl
    · skip
      refine lv_iconst (v := 1) hx hb dX6_isByte_24 (by decide) ?_
      refine lv_goto (tgt := 29) hx hb dX6_isByte_25 (by decide) ?_
      exact jn_29 (1 : Int32) ls (by decide) (by decide) hl

def wLX6_isSlot_0 : List Nat := [29, 42, 180, 0, 19, 100, 16, 8, 164, 0, 5, 3, 172, 3, 54, 4, 21, 4, 16, 8, 162, 0, 65, 28, 21, 4, 96, 43, 182, 0, 128, 162, 0, 54, 42, 180, 0, 19, 21, 4, 96, 29, 162, 0, 18, 42, 180, 0, 9, 42, 180, 0, 19, 21, 4, 96, 51, 167, 0, 5, 16, 32, 54, 5]
def wLX6_isSlot_1 : List Nat := [43, 28, 21, 4, 96, 182, 0, 136, 21, 5, 159, 0, 5, 3, 172, 132, 4, 1, 167, 255, 190, 4, 172]
theorem wX6_isSlot_0 : (cX6_isSlot.data.toList.map UInt8.toNat).drop 0 = wLX6_isSlot_0 ++ (wLX6_isSlot_1 ++ ([])) := by decide +kernel
theorem wX6_isSlot_1 : (cX6_isSlot.data.toList.map UInt8.toNat).drop 64 = wLX6_isSlot_1 ++ ([]) := hz_wn wX6_isSlot_0 rfl
theorem dX6_isSlot_0 : decode cX6_isSlot 0 = .ok (.iload_n 3, 1) := dq_29 (hz_wg wX6_isSlot_0 (j := 0) (n := 29) rfl)
theorem dX6_isSlot_1 : decode cX6_isSlot 1 = .ok (.aload_n 0, 1) := dq_42 (hz_wg wX6_isSlot_0 (j := 1) (n := 42) rfl)
theorem dX6_isSlot_2 : decode cX6_isSlot 2 = .ok (.getfield 19, 3) := dq_180 (hz_wg wX6_isSlot_0 (j := 2) (n := 180) rfl) (hz_wg wX6_isSlot_0 (j := 3) (n := 0) rfl) (hz_wg wX6_isSlot_0 (j := 4) (n := 19) rfl) rfl
theorem dX6_isSlot_5 : decode cX6_isSlot 5 = .ok (.isub, 1) := dq_100 (hz_wg wX6_isSlot_0 (j := 5) (n := 100) rfl)
theorem dX6_isSlot_6 : decode cX6_isSlot 6 = .ok (.bipush 8, 2) := dq_16 (hz_wg wX6_isSlot_0 (j := 6) (n := 16) rfl) (hz_wg wX6_isSlot_0 (j := 7) (n := 8) rfl) (by decide)
theorem dX6_isSlot_8 : decode cX6_isSlot 8 = .ok (.if_icmp .le 5, 3) := dq_164 (hz_wg wX6_isSlot_0 (j := 8) (n := 164) rfl) (hz_wg wX6_isSlot_0 (j := 9) (n := 0) rfl) (hz_wg wX6_isSlot_0 (j := 10) (n := 5) rfl) (by decide)
theorem dX6_isSlot_11 : decode cX6_isSlot 11 = .ok (.iconst 0, 1) := dq_3 (hz_wg wX6_isSlot_0 (j := 11) (n := 3) rfl)
theorem dX6_isSlot_12 : decode cX6_isSlot 12 = .ok (.ireturn, 1) := dq_172 (hz_wg wX6_isSlot_0 (j := 12) (n := 172) rfl)
theorem dX6_isSlot_13 : decode cX6_isSlot 13 = .ok (.iconst 0, 1) := dq_3 (hz_wg wX6_isSlot_0 (j := 13) (n := 3) rfl)
theorem dX6_isSlot_14 : decode cX6_isSlot 14 = .ok (.istore 4, 2) := dq_54 (hz_wg wX6_isSlot_0 (j := 14) (n := 54) rfl) (hz_wg wX6_isSlot_0 (j := 15) (n := 4) rfl)
theorem dX6_isSlot_16 : decode cX6_isSlot 16 = .ok (.iload 4, 2) := dq_21 (hz_wg wX6_isSlot_0 (j := 16) (n := 21) rfl) (hz_wg wX6_isSlot_0 (j := 17) (n := 4) rfl)
theorem dX6_isSlot_18 : decode cX6_isSlot 18 = .ok (.bipush 8, 2) := dq_16 (hz_wg wX6_isSlot_0 (j := 18) (n := 16) rfl) (hz_wg wX6_isSlot_0 (j := 19) (n := 8) rfl) (by decide)
theorem dX6_isSlot_20 : decode cX6_isSlot 20 = .ok (.if_icmp .ge 65, 3) := dq_162 (hz_wg wX6_isSlot_0 (j := 20) (n := 162) rfl) (hz_wg wX6_isSlot_0 (j := 21) (n := 0) rfl) (hz_wg wX6_isSlot_0 (j := 22) (n := 65) rfl) (by decide)
theorem dX6_isSlot_23 : decode cX6_isSlot 23 = .ok (.iload_n 2, 1) := dq_28 (hz_wg wX6_isSlot_0 (j := 23) (n := 28) rfl)
theorem dX6_isSlot_24 : decode cX6_isSlot 24 = .ok (.iload 4, 2) := dq_21 (hz_wg wX6_isSlot_0 (j := 24) (n := 21) rfl) (hz_wg wX6_isSlot_0 (j := 25) (n := 4) rfl)
theorem dX6_isSlot_26 : decode cX6_isSlot 26 = .ok (.iadd, 1) := dq_96 (hz_wg wX6_isSlot_0 (j := 26) (n := 96) rfl)
theorem dX6_isSlot_27 : decode cX6_isSlot 27 = .ok (.aload_n 1, 1) := dq_43 (hz_wg wX6_isSlot_0 (j := 27) (n := 43) rfl)
theorem dX6_isSlot_28 : decode cX6_isSlot 28 = .ok (.invokevirtual 128, 3) := dq_182 (hz_wg wX6_isSlot_0 (j := 28) (n := 182) rfl) (hz_wg wX6_isSlot_0 (j := 29) (n := 0) rfl) (hz_wg wX6_isSlot_0 (j := 30) (n := 128) rfl) rfl
theorem dX6_isSlot_31 : decode cX6_isSlot 31 = .ok (.if_icmp .ge 54, 3) := dq_162 (hz_wg wX6_isSlot_0 (j := 31) (n := 162) rfl) (hz_wg wX6_isSlot_0 (j := 32) (n := 0) rfl) (hz_wg wX6_isSlot_0 (j := 33) (n := 54) rfl) (by decide)
theorem dX6_isSlot_34 : decode cX6_isSlot 34 = .ok (.aload_n 0, 1) := dq_42 (hz_wg wX6_isSlot_0 (j := 34) (n := 42) rfl)
theorem dX6_isSlot_35 : decode cX6_isSlot 35 = .ok (.getfield 19, 3) := dq_180 (hz_wg wX6_isSlot_0 (j := 35) (n := 180) rfl) (hz_wg wX6_isSlot_0 (j := 36) (n := 0) rfl) (hz_wg wX6_isSlot_0 (j := 37) (n := 19) rfl) rfl
theorem dX6_isSlot_38 : decode cX6_isSlot 38 = .ok (.iload 4, 2) := dq_21 (hz_wg wX6_isSlot_0 (j := 38) (n := 21) rfl) (hz_wg wX6_isSlot_0 (j := 39) (n := 4) rfl)
theorem dX6_isSlot_40 : decode cX6_isSlot 40 = .ok (.iadd, 1) := dq_96 (hz_wg wX6_isSlot_0 (j := 40) (n := 96) rfl)
theorem dX6_isSlot_41 : decode cX6_isSlot 41 = .ok (.iload_n 3, 1) := dq_29 (hz_wg wX6_isSlot_0 (j := 41) (n := 29) rfl)
theorem dX6_isSlot_42 : decode cX6_isSlot 42 = .ok (.if_icmp .ge 18, 3) := dq_162 (hz_wg wX6_isSlot_0 (j := 42) (n := 162) rfl) (hz_wg wX6_isSlot_0 (j := 43) (n := 0) rfl) (hz_wg wX6_isSlot_0 (j := 44) (n := 18) rfl) (by decide)
theorem dX6_isSlot_45 : decode cX6_isSlot 45 = .ok (.aload_n 0, 1) := dq_42 (hz_wg wX6_isSlot_0 (j := 45) (n := 42) rfl)
theorem dX6_isSlot_46 : decode cX6_isSlot 46 = .ok (.getfield 9, 3) := dq_180 (hz_wg wX6_isSlot_0 (j := 46) (n := 180) rfl) (hz_wg wX6_isSlot_0 (j := 47) (n := 0) rfl) (hz_wg wX6_isSlot_0 (j := 48) (n := 9) rfl) rfl
theorem dX6_isSlot_49 : decode cX6_isSlot 49 = .ok (.aload_n 0, 1) := dq_42 (hz_wg wX6_isSlot_0 (j := 49) (n := 42) rfl)
theorem dX6_isSlot_50 : decode cX6_isSlot 50 = .ok (.getfield 19, 3) := dq_180 (hz_wg wX6_isSlot_0 (j := 50) (n := 180) rfl) (hz_wg wX6_isSlot_0 (j := 51) (n := 0) rfl) (hz_wg wX6_isSlot_0 (j := 52) (n := 19) rfl) rfl
theorem dX6_isSlot_53 : decode cX6_isSlot 53 = .ok (.iload 4, 2) := dq_21 (hz_wg wX6_isSlot_0 (j := 53) (n := 21) rfl) (hz_wg wX6_isSlot_0 (j := 54) (n := 4) rfl)
theorem dX6_isSlot_55 : decode cX6_isSlot 55 = .ok (.iadd, 1) := dq_96 (hz_wg wX6_isSlot_0 (j := 55) (n := 96) rfl)
theorem dX6_isSlot_56 : decode cX6_isSlot 56 = .ok (.baload, 1) := dq_51 (hz_wg wX6_isSlot_0 (j := 56) (n := 51) rfl)
theorem dX6_isSlot_57 : decode cX6_isSlot 57 = .ok (.goto 5, 3) := dq_167 (hz_wg wX6_isSlot_0 (j := 57) (n := 167) rfl) (hz_wg wX6_isSlot_0 (j := 58) (n := 0) rfl) (hz_wg wX6_isSlot_0 (j := 59) (n := 5) rfl) (by decide)
theorem dX6_isSlot_60 : decode cX6_isSlot 60 = .ok (.bipush 32, 2) := dq_16 (hz_wg wX6_isSlot_0 (j := 60) (n := 16) rfl) (hz_wg wX6_isSlot_0 (j := 61) (n := 32) rfl) (by decide)
theorem dX6_isSlot_62 : decode cX6_isSlot 62 = .ok (.istore 5, 2) := dq_54 (hz_wg wX6_isSlot_0 (j := 62) (n := 54) rfl) (hz_wg wX6_isSlot_0 (j := 63) (n := 5) rfl)
theorem dX6_isSlot_64 : decode cX6_isSlot 64 = .ok (.aload_n 1, 1) := dq_43 (hz_wg wX6_isSlot_1 (j := 0) (n := 43) rfl)
theorem dX6_isSlot_65 : decode cX6_isSlot 65 = .ok (.iload_n 2, 1) := dq_28 (hz_wg wX6_isSlot_1 (j := 1) (n := 28) rfl)
theorem dX6_isSlot_66 : decode cX6_isSlot 66 = .ok (.iload 4, 2) := dq_21 (hz_wg wX6_isSlot_1 (j := 2) (n := 21) rfl) (hz_wg wX6_isSlot_1 (j := 3) (n := 4) rfl)
theorem dX6_isSlot_68 : decode cX6_isSlot 68 = .ok (.iadd, 1) := dq_96 (hz_wg wX6_isSlot_1 (j := 4) (n := 96) rfl)
theorem dX6_isSlot_69 : decode cX6_isSlot 69 = .ok (.invokevirtual 136, 3) := dq_182 (hz_wg wX6_isSlot_1 (j := 5) (n := 182) rfl) (hz_wg wX6_isSlot_1 (j := 6) (n := 0) rfl) (hz_wg wX6_isSlot_1 (j := 7) (n := 136) rfl) rfl
theorem dX6_isSlot_72 : decode cX6_isSlot 72 = .ok (.iload 5, 2) := dq_21 (hz_wg wX6_isSlot_1 (j := 8) (n := 21) rfl) (hz_wg wX6_isSlot_1 (j := 9) (n := 5) rfl)
theorem dX6_isSlot_74 : decode cX6_isSlot 74 = .ok (.if_icmp .eq 5, 3) := dq_159 (hz_wg wX6_isSlot_1 (j := 10) (n := 159) rfl) (hz_wg wX6_isSlot_1 (j := 11) (n := 0) rfl) (hz_wg wX6_isSlot_1 (j := 12) (n := 5) rfl) (by decide)
theorem dX6_isSlot_77 : decode cX6_isSlot 77 = .ok (.iconst 0, 1) := dq_3 (hz_wg wX6_isSlot_1 (j := 13) (n := 3) rfl)
theorem dX6_isSlot_78 : decode cX6_isSlot 78 = .ok (.ireturn, 1) := dq_172 (hz_wg wX6_isSlot_1 (j := 14) (n := 172) rfl)
theorem dX6_isSlot_79 : decode cX6_isSlot 79 = .ok (.iinc 4 1, 3) := dq_132 (hz_wg wX6_isSlot_1 (j := 15) (n := 132) rfl) (hz_wg wX6_isSlot_1 (j := 16) (n := 4) rfl) (hz_wg wX6_isSlot_1 (j := 17) (n := 1) rfl) (by decide)
theorem dX6_isSlot_82 : decode cX6_isSlot 82 = .ok (.goto (-66), 3) := dq_167 (hz_wg wX6_isSlot_1 (j := 18) (n := 167) rfl) (hz_wg wX6_isSlot_1 (j := 19) (n := 255) rfl) (hz_wg wX6_isSlot_1 (j := 20) (n := 190) rfl) (by decide)
theorem dX6_isSlot_85 : decode cX6_isSlot 85 = .ok (.iconst 1, 1) := dq_4 (hz_wg wX6_isSlot_1 (j := 21) (n := 4) rfl)
theorem dX6_isSlot_86 : decode cX6_isSlot 86 = .ok (.ireturn, 1) := dq_172 (hz_wg wX6_isSlot_1 (j := 22) (n := 172) rfl)
set_option maxHeartbeats 4000000 in
set_option maxRecDepth 100000 in
theorem t_X6_isSlot (l : Launch) (dC : Nat → ClassId) (dI : Nat → Nat → Nat) (dA : Nat → ClassId) (L : List Nat) (h : hx_h) (sz : Nat) (b0 : hx_z) (x : Nat) (js : Nat) (i2 : Int32) (i3 : Int32) (hT : hx_T T_tb L h) (gx : hx_g L h x 6) (hjs : js < 6) (at0 : Int32) (f_x_2 : h.2.1 x 2 = at0) (hi2 : 0 ≤ i2.toInt ∧ i2.toInt ≤ 96) (hi3 : at0.toInt < i3.toInt ∧ i3.toInt ≤ 400) (qt : Nat) (gqt : hx_g L h qt 42) (f_x_0 : h.2.2 x 0 = some qt) : Met l yX6_isSlot (Cond.code yX6_isSlot cX6_isSlot 6 (some .boolean) :: hx_all) ({ frames := 4, cells := 0, slots := 0, locals := 85 }) (va_Pc [.ref x, .ref (b0.2.2.2.1 js), .int i2, .int i3] (hx_BX T_tb (P_ty dA) (dC, dI) vwCl L h sz b0)) (va_Qi (fun (r : Int32) (u : List Nat × hx_h) => (r.toInt = 0 ∨ r.toInt = 1) ∧ hx_T T_tb u.1 u.2 ∧ hx_S T_tb [] L h u.1 u.2) (hx_E T_tb (P_ty dA) (dC, dI) vwCl (hx_A L sz)) (hx_A L sz)) 0 0 (hx_A L sz) := by
  refine hx_metX (lv := [(0, .ref x), (1, .ref (b0.2.2.2.1 js)), (2, .int i2), (3, .int i3)]) (by decide +kernel) rfl (Nat.le_of_ble_eq_true rfl) rfl ?_
  intro p e s m below meth c hx hb hml hr hlk hts0 hown hin hsz hW hZ ls hl
  have hts : ∀ w ∈ hx_all, w.before _ s = true := fun w hw => hts0 w (List.mem_cons_of_mem _ hw)
  have hown : s.vm.findClass "SmallCourt$Reader" = some m.cls := hown
  have hM : hx_S T_tb [] L h L h := hx_S.rf
  obtain ⟨zLT, zLA, zMT, zMA, zCS, zSF, zVS, zVR⟩ := hZ.2.2.2.2.2.2
  have b_at0 := hT.gi gx tt_6 (k := 2) rfl
  rw [f_x_2] at b_at0
  have b_at0 : 0 ≤ at0.toInt ∧ at0.toInt ≤ 402 := b_at0
  refine lv_iload_n hx hb dX6_isSlot_0 rfl (lv_at hl 3 rfl) ?_
  refine lv_aload_n hx hb dX6_isSlot_1 rfl (lv_at hl 0 rfl) ?_
  refine hk_geti hx hb hts hC_6 hown hW (gx.S hM) tt_6 2 (by decide) rfl kw_127 ⟨rfl, rfl, rfl⟩ ((hM.o gx trivial rfl).1.trans f_x_2) dX6_isSlot_2 ?_
  refine lv_isub hx hb dX6_isSlot_5 ?_
  have rg_1 := i32_r i3
  have rg_2 := i32_r at0
  refine lv_topi (fun x_3 ex_3 => ?_)
  have zx_3 : x_3.toInt = i3.toInt - at0.toInt := by rw [ex_3]; exact i32_sub rfl rfl (by omega) (by omega)
  refine lv_bipush (v := 8) hx hb dX6_isSlot_6 (by decide) ?_
  refine hb_icmp_le (zx := x_3.toInt) (zy := 8) (tgt := 13) hx hb rfl (by decide) dX6_isSlot_8 (by decide) (fun c_4 => ?_) (fun c_4 => ?_)
  · skip
    refine lv_iconst (v := 0) hx hb dX6_isSlot_13 (by decide) ?_
    refine lv_istore (lv' := [(4, .int (0 : Int32)), (0, .ref x), (1, .ref (b0.2.2.2.1 js)), (2, .int i2), (3, .int i3)]) hx hb dX6_isSlot_14 hl (by decide) rfl (fun ls hl => ?_)
    have loop16 : ∀ (n16 : Nat) (iv16_4 : Int32) (H : Heap) (locs : List Loc) (hL1 : List Nat) (hl1 : hx_h), 0 ≤ iv16_4.toInt → iv16_4.toInt ≤ 8 → ∀ (ls : Array Slot), 8 - iv16_4.toInt < (n16 : Int) → hx_W T_tb (P_ty dA) (dC, dI) vwCl (hx_A L sz) s.heap hL1 hl1 s H locs → hx_T T_tb hL1 hl1 → hx_S T_tb [] L h hL1 hl1 → lv_has ls 6 [(4, .int iv16_4), (0, .ref x), (1, .ref (b0.2.2.2.1 js)), (2, .int i2), (3, .int i3)] → W p l e ({ frames := 4, cells := 0, slots := 0, locals := 85 }) s m ([.ref x, .ref (b0.2.2.2.1 js), .int i2, .int i3] : List Value).toArray below meth c H locs 0 0 (MQ below (va_Qi (fun (r : Int32) (u : List Nat × hx_h) => (r.toInt = 0 ∨ r.toInt = 1) ∧ hx_T T_tb u.1 u.2 ∧ hx_S T_tb [] L h u.1 u.2) (hx_E T_tb (P_ty dA) (dC, dI) vwCl (hx_A L sz)) (hx_A L sz)) ([.ref x, .ref (b0.2.2.2.1 js), .int i2, .int i3] : List Value).toArray s 0 0 (hx_A L sz)) (F0 m 16 ls []) := by
      intro n16
      induction n16 with
      | zero => intro iv16_4 H locs hL1 hl1 bliv16_4 buiv16_4  ls hn16; exfalso; omega
      | succ n16 ih16 =>
        intro iv16_4 H locs hL1 hl1 bliv16_4 buiv16_4  ls hn16 hW hT hM   hl
        refine lv_iload hx hb dX6_isSlot_16 (lv_at hl 0 rfl) ?_
        refine lv_bipush (v := 8) hx hb dX6_isSlot_18 (by decide) ?_
        refine hb_icmp_ge (zx := iv16_4.toInt) (zy := 8) (tgt := 85) hx hb rfl (by decide) dX6_isSlot_20 (by decide) (fun c_5 => ?_) (fun c_5 => ?_)
        · skip
          refine lv_iconst (v := 1) hx hb dX6_isSlot_85 (by decide) ?_
          exact hx_retz hx hb hr rfl hlk hW ⟨(by decide), hT, hM⟩ dX6_isSlot_86
        · skip
          refine lv_iload_n hx hb dX6_isSlot_23 rfl (lv_at hl 3 rfl) ?_
          refine lv_iload hx hb dX6_isSlot_24 (lv_at hl 0 rfl) ?_
          refine lv_iadd hx hb dX6_isSlot_26 ?_
          have rg_6 := i32_r i2
          have rg_7 := i32_r iv16_4
          refine lv_topi (fun x_8 ex_8 => ?_)
          have zx_8 : x_8.toInt = i2.toInt + iv16_4.toInt := by rw [ex_8]; exact i32_add rfl rfl (by omega) (by omega)
          refine lv_aload_n hx hb dX6_isSlot_27 rfl (lv_at hl 2 rfl) ?_
          refine hx_goi (hx_runVS (As := []) (rest := [.int x_8]) ⟨hx, hb, hml, hown, hts⟩ hW hZ (i := js) hjs (t_J0_length_8abf5 l dC dI dA hL1 hl1 H.size b0 js hT hjs) (cwV 0 hts (hx_gV kw_475 kw_472 kw_473 kw_474 kw_104) rfl rfl rfl (by decide +kernel) ⟨Nat.le_of_ble_eq_true rfl, Nat.le_of_ble_eq_true rfl⟩) rfl hl.1 rfl (Nat.le_of_ble_eq_true rfl) dX6_isSlot_28 ⟨Nat.le_of_ble_eq_true rfl, Nat.le_of_ble_eq_true rfl⟩) hW (fun r_11 L_9 h_10 H locs p_12 hW => ?_)
          obtain ⟨hr_13, hT, hs⟩ := p_12
          replace hT : hx_T T_tb L_9 h_10 := hT
          replace hs : hx_S T_tb [] hL1 hl1 L_9 h_10 := hs
          replace hM := hM.tr (hs.mono (by decide))
          have lr_11 := hx_ln js hjs; rw [← hr_13] at lr_11
          have kr_11 : (Int32.ofNat (P_ln.getD js 0)).toInt = r_11.toInt := by rw [hr_13]
          refine hb_icmp_ge (zx := x_8.toInt) (zy := r_11.toInt) (tgt := 85) hx hb rfl rfl dX6_isSlot_31 (by decide) (fun c_14 => ?_) (fun c_14 => ?_)
          · skip
            refine lv_iconst (v := 1) hx hb dX6_isSlot_85 (by decide) ?_
            exact hx_retz hx hb hr rfl hlk hW ⟨(by decide), hT, hM⟩ dX6_isSlot_86
          · skip
            refine lv_aload_n hx hb dX6_isSlot_34 rfl (lv_at hl 1 rfl) ?_
            refine hk_geti hx hb hts hC_6 hown hW (gx.S hM) tt_6 2 (by decide) rfl kw_127 ⟨rfl, rfl, rfl⟩ ((hM.o gx trivial rfl).1.trans f_x_2) dX6_isSlot_35 ?_
            refine lv_iload hx hb dX6_isSlot_38 (lv_at hl 0 rfl) ?_
            refine lv_iadd hx hb dX6_isSlot_40 ?_
            refine lv_topi (fun x_15 ex_15 => ?_)
            have zx_15 : x_15.toInt = at0.toInt + iv16_4.toInt := by rw [ex_15]; exact i32_add rfl rfl (by omega) (by omega)
            refine lv_iload_n hx hb dX6_isSlot_41 rfl (lv_at hl 4 rfl) ?_
            refine hb_icmp_ge (zx := x_15.toInt) (zy := i3.toInt) (tgt := 60) hx hb rfl rfl dX6_isSlot_42 (by decide) (fun c_16 => ?_) (fun c_16 => ?_)
            · skip
              refine lv_bipush (v := 32) hx hb dX6_isSlot_60 (by decide) ?_
              refine lv_istore (lv' := [(5, .int (32 : Int32)), (4, .int iv16_4), (0, .ref x), (1, .ref (b0.2.2.2.1 js)), (2, .int i2), (3, .int i3)]) hx hb dX6_isSlot_62 hl (by decide) rfl (fun ls hl => ?_)
              refine lv_aload_n hx hb dX6_isSlot_64 rfl (lv_at hl 3 rfl) ?_
              refine lv_iload_n hx hb dX6_isSlot_65 rfl (lv_at hl 4 rfl) ?_
              refine lv_iload hx hb dX6_isSlot_66 (lv_at hl 1 rfl) ?_
              refine lv_iadd hx hb dX6_isSlot_68 ?_
              refine lv_topi (fun x_17 ex_17 => ?_)
              have zx_17 : x_17.toInt = i2.toInt + iv16_4.toInt := by rw [ex_17]; exact i32_add rfl rfl (by omega) (by omega)
              refine hx_goi (hx_runVS (As := [.int x_17]) (rest := []) ⟨hx, hb, hml, hown, hts⟩ hW hZ (i := js) hjs (t_J0_charAt_5068e l dC dI dA L_9 h_10 H.size b0 js x_17 hT hjs (by rw [← hr_13]; exact ⟨by omega, by omega⟩)) (cwV 1 hts (hx_gV kw_489 kw_486 kw_487 kw_488 kw_104) rfl rfl rfl (by decide +kernel) ⟨Nat.le_of_ble_eq_true rfl, Nat.le_of_ble_eq_true rfl⟩) rfl hl.1 rfl (Nat.le_of_ble_eq_true rfl) dX6_isSlot_69 ⟨Nat.le_of_ble_eq_true rfl, Nat.le_of_ble_eq_true rfl⟩) hW (fun r_20 L_18 h_19 H locs p_21 hW => ?_)
              obtain ⟨hr_22, hT, hs⟩ := p_21
              replace hT : hx_T T_tb L_18 h_19 := hT
              replace hs : hx_S T_tb [] L_9 h_10 L_18 h_19 := hs
              replace hM := hM.tr (hs.mono (by decide))
              refine lv_iload hx hb dX6_isSlot_72 (lv_at hl 0 rfl) ?_
              refine hb_icmp_eq (zx := r_20.toInt) (zy := 32) (tgt := 79) hx hb rfl (by decide) dX6_isSlot_74 (by decide) (fun c_23 => ?_) (fun c_23 => ?_)
              · skip
                obtain ⟨x_24, ex_24⟩ : ∃ y : Int32, y = iv16_4 + Int32.ofInt 1 := ⟨_, rfl⟩
                have zx_24 : x_24.toInt = iv16_4.toInt + (1) := by rw [ex_24]; exact i32_add rfl (by decide) (by omega) (by omega)
                refine lv_iinc (v := x_24) (lv' := [(4, .int x_24), (5, .int (32 : Int32)), (0, .ref x), (1, .ref (b0.2.2.2.1 js)), (2, .int i2), (3, .int i3)]) hx hb dX6_isSlot_79 hl (k := 1) rfl ex_24.symm (by decide) rfl (fun ls hl => ?_)
                refine lv_goto (tgt := 16) hx hb dX6_isSlot_82 (by decide) ?_
                exact ih16 x_24 _ _ L_18 h_19 (by omega) (by omega)  ls (by omega) hW hT hM   (lv_sub hl [0, 2, 3, 4, 5] rfl)
              · skip
                refine lv_iconst (v := 0) hx hb dX6_isSlot_77 (by decide) ?_
                exact hx_retz hx hb hr rfl hlk hW ⟨(by decide), hT, hM⟩ dX6_isSlot_78
            · skip
              refine lv_aload_n hx hb dX6_isSlot_45 rfl (lv_at hl 1 rfl) ?_
              refine hk_getr hx hb hts hC_6 hown hW (gx.S hM) tt_6 0 (by decide) rfl kw_125 ⟨rfl, rfl, rfl⟩ ((hM.o gx trivial rfl).2.trans f_x_0) dX6_isSlot_46 ?_
              refine lv_aload_n hx hb dX6_isSlot_49 rfl (lv_at hl 1 rfl) ?_
              refine hk_geti hx hb hts hC_6 hown hW (gx.S hM) tt_6 2 (by decide) rfl kw_127 ⟨rfl, rfl, rfl⟩ ((hM.o gx trivial rfl).1.trans f_x_2) dX6_isSlot_50 ?_
              refine lv_iload hx hb dX6_isSlot_53 (lv_at hl 0 rfl) ?_
              refine lv_iadd hx hb dX6_isSlot_55 ?_
              refine lv_topi (fun x_25 ex_25 => ?_)
              have zx_25 : x_25.toInt = at0.toInt + iv16_4.toInt := by rw [ex_25]; exact i32_add rfl rfl (by omega) (by omega)
              refine hx_bald hx hb hW hT (gqt.S hM) tt_42 rfl ⟨by omega, by omega⟩ dX6_isSlot_56 (fun x_26 ex_26 lx_26 ux_26 => ?_)
              refine lv_goto (tgt := 62) hx hb dX6_isSlot_57 (by decide) ?_
              refine lv_istore (lv' := [(5, .int x_26), (4, .int iv16_4), (0, .ref x), (1, .ref (b0.2.2.2.1 js)), (2, .int i2), (3, .int i3)]) hx hb dX6_isSlot_62 hl (by decide) rfl (fun ls hl => ?_)
              refine lv_aload_n hx hb dX6_isSlot_64 rfl (lv_at hl 3 rfl) ?_
              refine lv_iload_n hx hb dX6_isSlot_65 rfl (lv_at hl 4 rfl) ?_
              refine lv_iload hx hb dX6_isSlot_66 (lv_at hl 1 rfl) ?_
              refine lv_iadd hx hb dX6_isSlot_68 ?_
              refine lv_topi (fun x_27 ex_27 => ?_)
              have zx_27 : x_27.toInt = i2.toInt + iv16_4.toInt := by rw [ex_27]; exact i32_add rfl rfl (by omega) (by omega)
              refine hx_goi (hx_runVS (As := [.int x_27]) (rest := []) ⟨hx, hb, hml, hown, hts⟩ hW hZ (i := js) hjs (t_J0_charAt_5068e l dC dI dA L_9 h_10 H.size b0 js x_27 hT hjs (by rw [← hr_13]; exact ⟨by omega, by omega⟩)) (cwV 1 hts (hx_gV kw_489 kw_486 kw_487 kw_488 kw_104) rfl rfl rfl (by decide +kernel) ⟨Nat.le_of_ble_eq_true rfl, Nat.le_of_ble_eq_true rfl⟩) rfl hl.1 rfl (Nat.le_of_ble_eq_true rfl) dX6_isSlot_69 ⟨Nat.le_of_ble_eq_true rfl, Nat.le_of_ble_eq_true rfl⟩) hW (fun r_30 L_28 h_29 H locs p_31 hW => ?_)
              obtain ⟨hr_32, hT, hs⟩ := p_31
              replace hT : hx_T T_tb L_28 h_29 := hT
              replace hs : hx_S T_tb [] L_9 h_10 L_28 h_29 := hs
              replace ex_26 := ex_26.trans (hs.a (gqt.S hM) rfl _).1.symm
              replace hM := hM.tr (hs.mono (by decide))
              refine lv_iload hx hb dX6_isSlot_72 (lv_at hl 0 rfl) ?_
              refine hb_icmp_eq (zx := r_30.toInt) (zy := x_26.toInt) (tgt := 79) hx hb rfl rfl dX6_isSlot_74 (by decide) (fun c_33 => ?_) (fun c_33 => ?_)
              · skip
                obtain ⟨x_34, ex_34⟩ : ∃ y : Int32, y = iv16_4 + Int32.ofInt 1 := ⟨_, rfl⟩
                have zx_34 : x_34.toInt = iv16_4.toInt + (1) := by rw [ex_34]; exact i32_add rfl (by decide) (by omega) (by omega)
                refine lv_iinc (v := x_34) (lv' := [(4, .int x_34), (5, .int x_26), (0, .ref x), (1, .ref (b0.2.2.2.1 js)), (2, .int i2), (3, .int i3)]) hx hb dX6_isSlot_79 hl (k := 1) rfl ex_34.symm (by decide) rfl (fun ls hl => ?_)
                refine lv_goto (tgt := 16) hx hb dX6_isSlot_82 (by decide) ?_
                exact ih16 x_34 _ _ L_28 h_29 (by omega) (by omega)  ls (by omega) hW hT hM   (lv_sub hl [0, 2, 3, 4, 5] rfl)
              · skip
                refine lv_iconst (v := 0) hx hb dX6_isSlot_77 (by decide) ?_
                exact hx_retz hx hb hr rfl hlk hW ⟨(by decide), hT, hM⟩ dX6_isSlot_78
    have zk_0 : (0 : Int32).toInt = 0 := by decide
    exact loop16 9 (0 : Int32) _ _ L h (by decide) (by decide)  ls (by omega) hW hT hM   hl
  · skip
    refine lv_iconst (v := 0) hx hb dX6_isSlot_11 (by decide) ?_
    exact hx_retz hx hb hr rfl hlk hW ⟨(by decide), hT, hM⟩ dX6_isSlot_12

def wLX6_readWord_0 : List Nat := [42, 182, 0, 35, 42, 182, 0, 125, 61, 3, 62, 28, 42, 180, 0, 19, 164, 0, 40, 29, 16, 8, 96, 43, 182, 0, 128, 163, 0, 29, 42, 43, 29, 28, 182, 0, 132, 153, 0, 13, 42, 28, 181, 0, 19, 29, 16, 8, 108, 172, 132, 3, 8, 167, 255, 214, 2, 172]
theorem wX6_readWord_0 : (cX6_readWord.data.toList.map UInt8.toNat).drop 0 = wLX6_readWord_0 ++ ([]) := by decide +kernel
theorem dX6_readWord_0 : decode cX6_readWord 0 = .ok (.aload_n 0, 1) := dq_42 (hz_wg wX6_readWord_0 (j := 0) (n := 42) rfl)
theorem dX6_readWord_1 : decode cX6_readWord 1 = .ok (.invokevirtual 35, 3) := dq_182 (hz_wg wX6_readWord_0 (j := 1) (n := 182) rfl) (hz_wg wX6_readWord_0 (j := 2) (n := 0) rfl) (hz_wg wX6_readWord_0 (j := 3) (n := 35) rfl) rfl
theorem dX6_readWord_4 : decode cX6_readWord 4 = .ok (.aload_n 0, 1) := dq_42 (hz_wg wX6_readWord_0 (j := 4) (n := 42) rfl)
theorem dX6_readWord_5 : decode cX6_readWord 5 = .ok (.invokevirtual 125, 3) := dq_182 (hz_wg wX6_readWord_0 (j := 5) (n := 182) rfl) (hz_wg wX6_readWord_0 (j := 6) (n := 0) rfl) (hz_wg wX6_readWord_0 (j := 7) (n := 125) rfl) rfl
theorem dX6_readWord_8 : decode cX6_readWord 8 = .ok (.istore_n 2, 1) := dq_61 (hz_wg wX6_readWord_0 (j := 8) (n := 61) rfl)
theorem dX6_readWord_9 : decode cX6_readWord 9 = .ok (.iconst 0, 1) := dq_3 (hz_wg wX6_readWord_0 (j := 9) (n := 3) rfl)
theorem dX6_readWord_10 : decode cX6_readWord 10 = .ok (.istore_n 3, 1) := dq_62 (hz_wg wX6_readWord_0 (j := 10) (n := 62) rfl)
theorem dX6_readWord_11 : decode cX6_readWord 11 = .ok (.iload_n 2, 1) := dq_28 (hz_wg wX6_readWord_0 (j := 11) (n := 28) rfl)
theorem dX6_readWord_12 : decode cX6_readWord 12 = .ok (.aload_n 0, 1) := dq_42 (hz_wg wX6_readWord_0 (j := 12) (n := 42) rfl)
theorem dX6_readWord_13 : decode cX6_readWord 13 = .ok (.getfield 19, 3) := dq_180 (hz_wg wX6_readWord_0 (j := 13) (n := 180) rfl) (hz_wg wX6_readWord_0 (j := 14) (n := 0) rfl) (hz_wg wX6_readWord_0 (j := 15) (n := 19) rfl) rfl
theorem dX6_readWord_16 : decode cX6_readWord 16 = .ok (.if_icmp .le 40, 3) := dq_164 (hz_wg wX6_readWord_0 (j := 16) (n := 164) rfl) (hz_wg wX6_readWord_0 (j := 17) (n := 0) rfl) (hz_wg wX6_readWord_0 (j := 18) (n := 40) rfl) (by decide)
theorem dX6_readWord_19 : decode cX6_readWord 19 = .ok (.iload_n 3, 1) := dq_29 (hz_wg wX6_readWord_0 (j := 19) (n := 29) rfl)
theorem dX6_readWord_20 : decode cX6_readWord 20 = .ok (.bipush 8, 2) := dq_16 (hz_wg wX6_readWord_0 (j := 20) (n := 16) rfl) (hz_wg wX6_readWord_0 (j := 21) (n := 8) rfl) (by decide)
theorem dX6_readWord_22 : decode cX6_readWord 22 = .ok (.iadd, 1) := dq_96 (hz_wg wX6_readWord_0 (j := 22) (n := 96) rfl)
theorem dX6_readWord_23 : decode cX6_readWord 23 = .ok (.aload_n 1, 1) := dq_43 (hz_wg wX6_readWord_0 (j := 23) (n := 43) rfl)
theorem dX6_readWord_24 : decode cX6_readWord 24 = .ok (.invokevirtual 128, 3) := dq_182 (hz_wg wX6_readWord_0 (j := 24) (n := 182) rfl) (hz_wg wX6_readWord_0 (j := 25) (n := 0) rfl) (hz_wg wX6_readWord_0 (j := 26) (n := 128) rfl) rfl
theorem dX6_readWord_27 : decode cX6_readWord 27 = .ok (.if_icmp .gt 29, 3) := dq_163 (hz_wg wX6_readWord_0 (j := 27) (n := 163) rfl) (hz_wg wX6_readWord_0 (j := 28) (n := 0) rfl) (hz_wg wX6_readWord_0 (j := 29) (n := 29) rfl) (by decide)
theorem dX6_readWord_30 : decode cX6_readWord 30 = .ok (.aload_n 0, 1) := dq_42 (hz_wg wX6_readWord_0 (j := 30) (n := 42) rfl)
theorem dX6_readWord_31 : decode cX6_readWord 31 = .ok (.aload_n 1, 1) := dq_43 (hz_wg wX6_readWord_0 (j := 31) (n := 43) rfl)
theorem dX6_readWord_32 : decode cX6_readWord 32 = .ok (.iload_n 3, 1) := dq_29 (hz_wg wX6_readWord_0 (j := 32) (n := 29) rfl)
theorem dX6_readWord_33 : decode cX6_readWord 33 = .ok (.iload_n 2, 1) := dq_28 (hz_wg wX6_readWord_0 (j := 33) (n := 28) rfl)
theorem dX6_readWord_34 : decode cX6_readWord 34 = .ok (.invokevirtual 132, 3) := dq_182 (hz_wg wX6_readWord_0 (j := 34) (n := 182) rfl) (hz_wg wX6_readWord_0 (j := 35) (n := 0) rfl) (hz_wg wX6_readWord_0 (j := 36) (n := 132) rfl) rfl
theorem dX6_readWord_37 : decode cX6_readWord 37 = .ok (.ifCond .eq 13, 3) := dq_153 (hz_wg wX6_readWord_0 (j := 37) (n := 153) rfl) (hz_wg wX6_readWord_0 (j := 38) (n := 0) rfl) (hz_wg wX6_readWord_0 (j := 39) (n := 13) rfl) (by decide)
theorem dX6_readWord_40 : decode cX6_readWord 40 = .ok (.aload_n 0, 1) := dq_42 (hz_wg wX6_readWord_0 (j := 40) (n := 42) rfl)
theorem dX6_readWord_41 : decode cX6_readWord 41 = .ok (.iload_n 2, 1) := dq_28 (hz_wg wX6_readWord_0 (j := 41) (n := 28) rfl)
theorem dX6_readWord_42 : decode cX6_readWord 42 = .ok (.putfield 19, 3) := dq_181 (hz_wg wX6_readWord_0 (j := 42) (n := 181) rfl) (hz_wg wX6_readWord_0 (j := 43) (n := 0) rfl) (hz_wg wX6_readWord_0 (j := 44) (n := 19) rfl) rfl
theorem dX6_readWord_45 : decode cX6_readWord 45 = .ok (.iload_n 3, 1) := dq_29 (hz_wg wX6_readWord_0 (j := 45) (n := 29) rfl)
theorem dX6_readWord_46 : decode cX6_readWord 46 = .ok (.bipush 8, 2) := dq_16 (hz_wg wX6_readWord_0 (j := 46) (n := 16) rfl) (hz_wg wX6_readWord_0 (j := 47) (n := 8) rfl) (by decide)
theorem dX6_readWord_48 : decode cX6_readWord 48 = .ok (.idiv, 1) := dq_108 (hz_wg wX6_readWord_0 (j := 48) (n := 108) rfl)
theorem dX6_readWord_49 : decode cX6_readWord 49 = .ok (.ireturn, 1) := dq_172 (hz_wg wX6_readWord_0 (j := 49) (n := 172) rfl)
theorem dX6_readWord_50 : decode cX6_readWord 50 = .ok (.iinc 3 8, 3) := dq_132 (hz_wg wX6_readWord_0 (j := 50) (n := 132) rfl) (hz_wg wX6_readWord_0 (j := 51) (n := 3) rfl) (hz_wg wX6_readWord_0 (j := 52) (n := 8) rfl) (by decide)
theorem dX6_readWord_53 : decode cX6_readWord 53 = .ok (.goto (-42), 3) := dq_167 (hz_wg wX6_readWord_0 (j := 53) (n := 167) rfl) (hz_wg wX6_readWord_0 (j := 54) (n := 255) rfl) (hz_wg wX6_readWord_0 (j := 55) (n := 214) rfl) (by decide)
theorem dX6_readWord_56 : decode cX6_readWord 56 = .ok (.iconst (-1), 1) := dq_2 (hz_wg wX6_readWord_0 (j := 56) (n := 2) rfl)
theorem dX6_readWord_57 : decode cX6_readWord 57 = .ok (.ireturn, 1) := dq_172 (hz_wg wX6_readWord_0 (j := 57) (n := 172) rfl)
set_option maxHeartbeats 4000000 in
set_option maxRecDepth 100000 in
theorem t_X6_readWord (l : Launch) (dC : Nat → ClassId) (dI : Nat → Nat → Nat) (dA : Nat → ClassId) (L : List Nat) (h : hx_h) (sz : Nat) (b0 : hx_z) (x : Nat) (js : Nat) (hT : hx_T T_tb L h) (gx : hx_g L h x 6) (hjs : js < 6) (qt : Nat) (gqt : hx_g L h qt 42) (f_x_0 : h.2.2 x 0 = some qt) : Met l yX6_readWord (Cond.code yX6_readWord cX6_readWord 4 (some .int) :: hx_all) ({ frames := 5, cells := 0, slots := 0, locals := 110 }) (va_Pc [.ref x, .ref (b0.2.2.2.1 js)] (hx_BX T_tb (P_ty dA) (dC, dI) vwCl L h sz b0)) (va_Qi (fun (r : Int32) (u : List Nat × hx_h) => (r.toInt = -1 ∨ (0 ≤ r.toInt ∧ 8 * r.toInt + 8 ≤ (Int32.ofNat (P_ln.getD js 0)).toInt)) ∧ hx_T T_tb u.1 u.2 ∧ hx_S T_tb [(6, 2)] L h u.1 u.2) (hx_E T_tb (P_ty dA) (dC, dI) vwCl (hx_A L sz)) (hx_A L sz)) 0 0 (hx_A L sz) := by
  refine hx_metX (lv := [(0, .ref x), (1, .ref (b0.2.2.2.1 js))]) (by decide +kernel) rfl (Nat.le_of_ble_eq_true rfl) rfl ?_
  intro p e s m below meth c hx hb hml hr hlk hts0 hown hin hsz hW hZ ls hl
  have hts : ∀ w ∈ hx_all, w.before _ s = true := fun w hw => hts0 w (List.mem_cons_of_mem _ hw)
  have hown : s.vm.findClass "SmallCourt$Reader" = some m.cls := hown
  have hM : hx_S T_tb [(6, 2)] L h L h := hx_S.rf
  obtain ⟨zLT, zLA, zMT, zMA, zCS, zSF, zVS, zVR⟩ := hZ.2.2.2.2.2.2
  refine lv_aload_n hx hb dX6_readWord_0 rfl (lv_at hl 0 rfl) ?_
  refine hx_gov (hx_runV (As := []) (rest := []) ⟨hx, hb, hml, hown, hts⟩ hW (gx.S hM) tt_6 (T := TX6) (N := 7) rfl (t_X6_skipBlanks l dC dI dA L h s.heap.size x hT (gx.S hM) qt (gqt.S hM) ((hM.o gx trivial rfl).2.trans f_x_0)) (cwV 0 hts (hx_gV kw_458 kw_455 kw_457 kw_1 kw_95) rfl rfl rfl (by decide +kernel) ⟨Nat.le_of_ble_eq_true rfl, Nat.le_of_ble_eq_true rfl⟩) rfl hl.1 rfl (Nat.le_of_ble_eq_true rfl) dX6_readWord_1 ⟨Nat.le_of_ble_eq_true rfl, Nat.le_of_ble_eq_true rfl⟩) hW (fun L_1 h_2 H locs p_4 hW => ?_)
  obtain ⟨hT, hs⟩ := p_4
  replace hT : hx_T T_tb L_1 h_2 := hT
  replace hs : hx_S T_tb [(6, 2)] L h L_1 h_2 := hs
  replace hM := hM.tr (hs.mono (by decide))
  refine lv_aload_n hx hb dX6_readWord_4 rfl (lv_at hl 0 rfl) ?_
  obtain ⟨fv_6, efv_6⟩ : ∃ y : Int32, y = h_2.2.1 x 2 := ⟨_, rfl⟩
  have bfv_6 := hT.gi (gx.S hM) tt_6 (k := 2) rfl
  rw [← efv_6] at bfv_6
  have bfv_6 : 0 ≤ fv_6.toInt ∧ fv_6.toInt ≤ 402 := bfv_6
  have ffv_6 := efv_6.symm
  refine hx_goi (hx_runV (As := []) (rest := []) ⟨hx, hb, hml, hown, hts⟩ hW (gx.S hM) tt_6 (T := TX6) (N := 7) rfl (t_X6_wordEnd_2 l dC dI dA L_1 h_2 H.size x hT (gx.S hM) fv_6 ffv_6 qt (gqt.S hM) ((hM.o gx trivial rfl).2.trans f_x_0)) (cwV 0 hts (hx_gV kw_471 kw_468 kw_470 kw_4 kw_95) rfl rfl rfl (by decide +kernel) ⟨Nat.le_of_ble_eq_true rfl, Nat.le_of_ble_eq_true rfl⟩) rfl hl.1 rfl (Nat.le_of_ble_eq_true rfl) dX6_readWord_5 ⟨Nat.le_of_ble_eq_true rfl, Nat.le_of_ble_eq_true rfl⟩) hW (fun r_9 L_7 h_8 H locs p_10 hW => ?_)
  obtain ⟨hr_11, hT, hs⟩ := p_10
  replace hT : hx_T T_tb L_7 h_8 := hT
  replace hs : hx_S T_tb [] L_1 h_2 L_7 h_8 := hs
  replace ffv_6 := (hs.o (gx.S hM) trivial rfl).1.trans ffv_6
  replace hM := hM.tr (hs.mono (by decide))
  refine lv_istore_n (lv' := [(2, .int r_9), (0, .ref x), (1, .ref (b0.2.2.2.1 js))]) hx hb dX6_readWord_8 rfl hl (by decide) rfl (fun ls hl => ?_)
  refine lv_iconst (v := 0) hx hb dX6_readWord_9 (by decide) ?_
  refine lv_istore_n (lv' := [(3, .int (0 : Int32)), (2, .int r_9), (0, .ref x), (1, .ref (b0.2.2.2.1 js))]) hx hb dX6_readWord_10 rfl hl (by decide) rfl (fun ls hl => ?_)
  have loop11 : ∀ (n11 : Nat) (iv11_3 : Int32) (H : Heap) (locs : List Loc) (hL1 : List Nat) (hl1 : hx_h), 0 ≤ iv11_3.toInt → iv11_3.toInt ≤ 96 → ∀ (ls : Array Slot), 96 - iv11_3.toInt < (n11 : Int) → hx_W T_tb (P_ty dA) (dC, dI) vwCl (hx_A L sz) s.heap hL1 hl1 s H locs → hx_T T_tb hL1 hl1 → hx_S T_tb [(6, 2)] L h hL1 hl1 → hl1.2.1 x 2 = fv_6 → lv_has ls 4 [(3, .int iv11_3), (2, .int r_9), (0, .ref x), (1, .ref (b0.2.2.2.1 js))] → W p l e ({ frames := 5, cells := 0, slots := 0, locals := 110 }) s m ([.ref x, .ref (b0.2.2.2.1 js)] : List Value).toArray below meth c H locs 0 0 (MQ below (va_Qi (fun (r : Int32) (u : List Nat × hx_h) => (r.toInt = -1 ∨ (0 ≤ r.toInt ∧ 8 * r.toInt + 8 ≤ (Int32.ofNat (P_ln.getD js 0)).toInt)) ∧ hx_T T_tb u.1 u.2 ∧ hx_S T_tb [(6, 2)] L h u.1 u.2) (hx_E T_tb (P_ty dA) (dC, dI) vwCl (hx_A L sz)) (hx_A L sz)) ([.ref x, .ref (b0.2.2.2.1 js)] : List Value).toArray s 0 0 (hx_A L sz)) (F0 m 11 ls []) := by
    intro n11
    induction n11 with
    | zero => intro iv11_3 H locs hL1 hl1 bliv11_3 buiv11_3  ls hn11; exfalso; omega
    | succ n11 ih11 =>
      intro iv11_3 H locs hL1 hl1 bliv11_3 buiv11_3  ls hn11 hW hT hM ffv_6  hl
      refine lv_iload_n hx hb dX6_readWord_11 rfl (lv_at hl 1 rfl) ?_
      refine lv_aload_n hx hb dX6_readWord_12 rfl (lv_at hl 2 rfl) ?_
      refine hk_geti hx hb hts hC_6 hown hW (gx.S hM) tt_6 2 (by decide) rfl kw_127 ⟨rfl, rfl, rfl⟩ ffv_6 dX6_readWord_13 ?_
      refine hb_icmp_le (zx := r_9.toInt) (zy := fv_6.toInt) (tgt := 56) hx hb rfl rfl dX6_readWord_16 (by decide) (fun c_12 => ?_) (fun c_12 => ?_)
      · skip
        refine lv_iconst (v := -1) hx hb dX6_readWord_56 (by decide) ?_
        exact hx_reti hx hb hr hlk hW ⟨(by have zr : (-1 : Int32).toInt = -1 := (by decide); (first | omega | (refine ⟨?_, ?_⟩ <;> omega))), hT, hM⟩ dX6_readWord_57
      · skip
        refine lv_iload_n hx hb dX6_readWord_19 rfl (lv_at hl 0 rfl) ?_
        refine lv_bipush (v := 8) hx hb dX6_readWord_20 (by decide) ?_
        refine lv_iadd hx hb dX6_readWord_22 ?_
        have rg_13 := i32_r iv11_3
        refine lv_topi (fun x_14 ex_14 => ?_)
        have zx_14 : x_14.toInt = iv11_3.toInt + 8 := by rw [ex_14]; exact i32_add rfl (by decide) (by omega) (by omega)
        refine lv_aload_n hx hb dX6_readWord_23 rfl (lv_at hl 3 rfl) ?_
        refine hx_goi (hx_runVS (As := []) (rest := [.int x_14]) ⟨hx, hb, hml, hown, hts⟩ hW hZ (i := js) hjs (t_J0_length_8abf5 l dC dI dA hL1 hl1 H.size b0 js hT hjs) (cwV 0 hts (hx_gV kw_475 kw_472 kw_473 kw_474 kw_104) rfl rfl rfl (by decide +kernel) ⟨Nat.le_of_ble_eq_true rfl, Nat.le_of_ble_eq_true rfl⟩) rfl hl.1 rfl (Nat.le_of_ble_eq_true rfl) dX6_readWord_24 ⟨Nat.le_of_ble_eq_true rfl, Nat.le_of_ble_eq_true rfl⟩) hW (fun r_17 L_15 h_16 H locs p_18 hW => ?_)
        obtain ⟨hr_19, hT, hs⟩ := p_18
        replace hT : hx_T T_tb L_15 h_16 := hT
        replace hs : hx_S T_tb [] hL1 hl1 L_15 h_16 := hs
        replace ffv_6 := (hs.o (gx.S hM) trivial rfl).1.trans ffv_6
        replace hM := hM.tr (hs.mono (by decide))
        have lr_17 := hx_ln js hjs; rw [← hr_19] at lr_17
        have kr_17 : (Int32.ofNat (P_ln.getD js 0)).toInt = r_17.toInt := by rw [hr_19]
        refine hb_icmp_gt (zx := x_14.toInt) (zy := r_17.toInt) (tgt := 56) hx hb rfl rfl dX6_readWord_27 (by decide) (fun c_20 => ?_) (fun c_20 => ?_)
        · skip
          refine lv_iconst (v := -1) hx hb dX6_readWord_56 (by decide) ?_
          exact hx_reti hx hb hr hlk hW ⟨(by have zr : (-1 : Int32).toInt = -1 := (by decide); (first | omega | (refine ⟨?_, ?_⟩ <;> omega))), hT, hM⟩ dX6_readWord_57
        · skip
          refine lv_aload_n hx hb dX6_readWord_30 rfl (lv_at hl 2 rfl) ?_
          refine lv_aload_n hx hb dX6_readWord_31 rfl (lv_at hl 3 rfl) ?_
          refine lv_iload_n hx hb dX6_readWord_32 rfl (lv_at hl 0 rfl) ?_
          refine lv_iload_n hx hb dX6_readWord_33 rfl (lv_at hl 1 rfl) ?_
          refine hx_goi (hx_runVX (As := [.ref (b0.2.2.2.1 js), .int iv11_3, .int r_9]) (rest := []) ⟨hx, hb, hml, hown, hts⟩ hW (gx.S hM) tt_6 (T := TX6) (N := 7) rfl (t_X6_isSlot l dC dI dA L_15 h_16 H.size b0 x js iv11_3 r_9 hT (gx.S hM) hjs fv_6 ffv_6 ⟨by omega, by omega⟩ ⟨by omega, by omega⟩ qt (gqt.S hM) ((hM.o gx trivial rfl).2.trans f_x_0)) hZ (cwV 3 hts (hx_gV kw_485 kw_482 kw_484 kw_5 kw_95) rfl rfl rfl (by decide +kernel) ⟨Nat.le_of_ble_eq_true rfl, Nat.le_of_ble_eq_true rfl⟩) rfl hl.1 rfl (Nat.le_of_ble_eq_true rfl) dX6_readWord_34 ⟨Nat.le_of_ble_eq_true rfl, Nat.le_of_ble_eq_true rfl⟩) hW (fun r_23 L_21 h_22 H locs p_24 hW => ?_)
          obtain ⟨hr_25, hT, hs⟩ := p_24
          replace hT : hx_T T_tb L_21 h_22 := hT
          replace hs : hx_S T_tb [] L_15 h_16 L_21 h_22 := hs
          replace ffv_6 := (hs.o (gx.S hM) trivial rfl).1.trans ffv_6
          replace hM := hM.tr (hs.mono (by decide))
          refine hb_if_eq (zx := r_23.toInt) (tgt := 50) hx hb rfl dX6_readWord_37 (by decide) (fun c_26 => ?_) (fun c_26 => ?_)
          · skip
            obtain ⟨x_27, ex_27⟩ : ∃ y : Int32, y = iv11_3 + Int32.ofInt 8 := ⟨_, rfl⟩
            have zx_27 : x_27.toInt = iv11_3.toInt + (8) := by rw [ex_27]; exact i32_add rfl (by decide) (by omega) (by omega)
            refine lv_iinc (v := x_27) (lv' := [(3, .int x_27), (2, .int r_9), (0, .ref x), (1, .ref (b0.2.2.2.1 js))]) hx hb dX6_readWord_50 hl (k := 0) rfl ex_27.symm (by decide) rfl (fun ls hl => ?_)
            refine lv_goto (tgt := 11) hx hb dX6_readWord_53 (by decide) ?_
            exact ih11 x_27 _ _ L_21 h_22 (by omega) (by omega)  ls (by omega) hW hT hM ffv_6  (lv_sub hl [0, 1, 2, 3] rfl)
          · skip
            refine lv_aload_n hx hb dX6_readWord_40 rfl (lv_at hl 2 rfl) ?_
            refine lv_iload_n hx hb dX6_readWord_41 rfl (lv_at hl 1 rfl) ?_
            refine hx_puti hx hb hts hC_6 hown hW hT (hx_S.rf (M := [(6, 2)])) (gx.S hM) tt_6 2 (by decide) rfl kw_127 ⟨rfl, rfl, rfl⟩ rfl (x := r_9) ⟨by omega, by omega⟩ rfl rfl rfl (List.mem_singleton.mpr rfl) dX6_readWord_42 (fun H locs h_28 eh_28 hW hT hs => ?_)
            replace hM := hM.tr (hs.mono (by decide))
            have f_29 : h_28.2.1 x 2 = r_9 := by rw [eh_28]; exact hx_pi_at _ _ _ _
            refine lv_iload_n hx hb dX6_readWord_45 rfl (lv_at hl 0 rfl) ?_
            refine lv_bipush (v := 8) hx hb dX6_readWord_46 (by decide) ?_
            refine lv_idiv hx hb dX6_readWord_48 (by decide) ?_
            refine lv_topi (fun x_30 ex_30 => ?_)
            have zx_30 : x_30.toInt = iv11_3.toInt / 8 := by rw [ex_30, hx_dv (by omega) (by decide)]; rfl
            exact hx_reti hx hb hr hlk hW ⟨(by first | omega | (refine ⟨?_, ?_⟩ <;> omega)), hT, hM⟩ dX6_readWord_49
  have zk_0 : (0 : Int32).toInt = 0 := by decide
  exact loop11 97 (0 : Int32) _ _ L_7 h_8 (by decide) (by decide)  ls (by omega) hW hT hM ffv_6  hl

def wLX6_isNextWord_0 : List Nat := [42, 182, 0, 35, 42, 182, 0, 125, 61, 28, 42, 180, 0, 19, 164, 0, 17, 42, 43, 3, 28, 182, 0, 132, 153, 0, 7, 4, 167, 0, 4, 3, 172]
theorem wX6_isNextWord_0 : (cX6_isNextWord.data.toList.map UInt8.toNat).drop 0 = wLX6_isNextWord_0 ++ ([]) := by decide +kernel
theorem dX6_isNextWord_0 : decode cX6_isNextWord 0 = .ok (.aload_n 0, 1) := dq_42 (hz_wg wX6_isNextWord_0 (j := 0) (n := 42) rfl)
theorem dX6_isNextWord_1 : decode cX6_isNextWord 1 = .ok (.invokevirtual 35, 3) := dq_182 (hz_wg wX6_isNextWord_0 (j := 1) (n := 182) rfl) (hz_wg wX6_isNextWord_0 (j := 2) (n := 0) rfl) (hz_wg wX6_isNextWord_0 (j := 3) (n := 35) rfl) rfl
theorem dX6_isNextWord_4 : decode cX6_isNextWord 4 = .ok (.aload_n 0, 1) := dq_42 (hz_wg wX6_isNextWord_0 (j := 4) (n := 42) rfl)
theorem dX6_isNextWord_5 : decode cX6_isNextWord 5 = .ok (.invokevirtual 125, 3) := dq_182 (hz_wg wX6_isNextWord_0 (j := 5) (n := 182) rfl) (hz_wg wX6_isNextWord_0 (j := 6) (n := 0) rfl) (hz_wg wX6_isNextWord_0 (j := 7) (n := 125) rfl) rfl
theorem dX6_isNextWord_8 : decode cX6_isNextWord 8 = .ok (.istore_n 2, 1) := dq_61 (hz_wg wX6_isNextWord_0 (j := 8) (n := 61) rfl)
theorem dX6_isNextWord_9 : decode cX6_isNextWord 9 = .ok (.iload_n 2, 1) := dq_28 (hz_wg wX6_isNextWord_0 (j := 9) (n := 28) rfl)
theorem dX6_isNextWord_10 : decode cX6_isNextWord 10 = .ok (.aload_n 0, 1) := dq_42 (hz_wg wX6_isNextWord_0 (j := 10) (n := 42) rfl)
theorem dX6_isNextWord_11 : decode cX6_isNextWord 11 = .ok (.getfield 19, 3) := dq_180 (hz_wg wX6_isNextWord_0 (j := 11) (n := 180) rfl) (hz_wg wX6_isNextWord_0 (j := 12) (n := 0) rfl) (hz_wg wX6_isNextWord_0 (j := 13) (n := 19) rfl) rfl
theorem dX6_isNextWord_14 : decode cX6_isNextWord 14 = .ok (.if_icmp .le 17, 3) := dq_164 (hz_wg wX6_isNextWord_0 (j := 14) (n := 164) rfl) (hz_wg wX6_isNextWord_0 (j := 15) (n := 0) rfl) (hz_wg wX6_isNextWord_0 (j := 16) (n := 17) rfl) (by decide)
theorem dX6_isNextWord_17 : decode cX6_isNextWord 17 = .ok (.aload_n 0, 1) := dq_42 (hz_wg wX6_isNextWord_0 (j := 17) (n := 42) rfl)
theorem dX6_isNextWord_18 : decode cX6_isNextWord 18 = .ok (.aload_n 1, 1) := dq_43 (hz_wg wX6_isNextWord_0 (j := 18) (n := 43) rfl)
theorem dX6_isNextWord_19 : decode cX6_isNextWord 19 = .ok (.iconst 0, 1) := dq_3 (hz_wg wX6_isNextWord_0 (j := 19) (n := 3) rfl)
theorem dX6_isNextWord_20 : decode cX6_isNextWord 20 = .ok (.iload_n 2, 1) := dq_28 (hz_wg wX6_isNextWord_0 (j := 20) (n := 28) rfl)
theorem dX6_isNextWord_21 : decode cX6_isNextWord 21 = .ok (.invokevirtual 132, 3) := dq_182 (hz_wg wX6_isNextWord_0 (j := 21) (n := 182) rfl) (hz_wg wX6_isNextWord_0 (j := 22) (n := 0) rfl) (hz_wg wX6_isNextWord_0 (j := 23) (n := 132) rfl) rfl
theorem dX6_isNextWord_24 : decode cX6_isNextWord 24 = .ok (.ifCond .eq 7, 3) := dq_153 (hz_wg wX6_isNextWord_0 (j := 24) (n := 153) rfl) (hz_wg wX6_isNextWord_0 (j := 25) (n := 0) rfl) (hz_wg wX6_isNextWord_0 (j := 26) (n := 7) rfl) (by decide)
theorem dX6_isNextWord_27 : decode cX6_isNextWord 27 = .ok (.iconst 1, 1) := dq_4 (hz_wg wX6_isNextWord_0 (j := 27) (n := 4) rfl)
theorem dX6_isNextWord_28 : decode cX6_isNextWord 28 = .ok (.goto 4, 3) := dq_167 (hz_wg wX6_isNextWord_0 (j := 28) (n := 167) rfl) (hz_wg wX6_isNextWord_0 (j := 29) (n := 0) rfl) (hz_wg wX6_isNextWord_0 (j := 30) (n := 4) rfl) (by decide)
theorem dX6_isNextWord_31 : decode cX6_isNextWord 31 = .ok (.iconst 0, 1) := dq_3 (hz_wg wX6_isNextWord_0 (j := 31) (n := 3) rfl)
theorem dX6_isNextWord_32 : decode cX6_isNextWord 32 = .ok (.ireturn, 1) := dq_172 (hz_wg wX6_isNextWord_0 (j := 32) (n := 172) rfl)
set_option maxHeartbeats 4000000 in
set_option maxRecDepth 100000 in
theorem t_X6_isNextWord (l : Launch) (dC : Nat → ClassId) (dI : Nat → Nat → Nat) (dA : Nat → ClassId) (L : List Nat) (h : hx_h) (sz : Nat) (b0 : hx_z) (x : Nat) (js : Nat) (hT : hx_T T_tb L h) (gx : hx_g L h x 6) (hjs : js < 6) (qt : Nat) (gqt : hx_g L h qt 42) (f_x_0 : h.2.2 x 0 = some qt) : Met l yX6_isNextWord (Cond.code yX6_isNextWord cX6_isNextWord 3 (some .boolean) :: hx_all) ({ frames := 5, cells := 0, slots := 0, locals := 110 }) (va_Pc [.ref x, .ref (b0.2.2.2.1 js)] (hx_BX T_tb (P_ty dA) (dC, dI) vwCl L h sz b0)) (va_Qi (fun (r : Int32) (u : List Nat × hx_h) => (∃ (w0 : Int32), u.2.2.1 x 2 = w0 ∧ ((r.toInt = 0 ∨ r.toInt = 1) ∧ (r.toInt = 1 → w0.toInt ≤ 399))) ∧ hx_T T_tb u.1 u.2 ∧ hx_S T_tb [(6, 2)] L h u.1 u.2) (hx_E T_tb (P_ty dA) (dC, dI) vwCl (hx_A L sz)) (hx_A L sz)) 0 0 (hx_A L sz) := by
  refine hx_metX (lv := [(0, .ref x), (1, .ref (b0.2.2.2.1 js))]) (by decide +kernel) rfl (Nat.le_of_ble_eq_true rfl) rfl ?_
  intro p e s m below meth c hx hb hml hr hlk hts0 hown hin hsz hW hZ ls hl
  have hts : ∀ w ∈ hx_all, w.before _ s = true := fun w hw => hts0 w (List.mem_cons_of_mem _ hw)
  have hown : s.vm.findClass "SmallCourt$Reader" = some m.cls := hown
  have hM : hx_S T_tb [(6, 2)] L h L h := hx_S.rf
  obtain ⟨zLT, zLA, zMT, zMA, zCS, zSF, zVS, zVR⟩ := hZ.2.2.2.2.2.2
  refine lv_aload_n hx hb dX6_isNextWord_0 rfl (lv_at hl 0 rfl) ?_
  refine hx_gov (hx_runV (As := []) (rest := []) ⟨hx, hb, hml, hown, hts⟩ hW (gx.S hM) tt_6 (T := TX6) (N := 7) rfl (t_X6_skipBlanks l dC dI dA L h s.heap.size x hT (gx.S hM) qt (gqt.S hM) ((hM.o gx trivial rfl).2.trans f_x_0)) (cwV 0 hts (hx_gV kw_458 kw_455 kw_457 kw_1 kw_95) rfl rfl rfl (by decide +kernel) ⟨Nat.le_of_ble_eq_true rfl, Nat.le_of_ble_eq_true rfl⟩) rfl hl.1 rfl (Nat.le_of_ble_eq_true rfl) dX6_isNextWord_1 ⟨Nat.le_of_ble_eq_true rfl, Nat.le_of_ble_eq_true rfl⟩) hW (fun L_1 h_2 H locs p_4 hW => ?_)
  obtain ⟨hT, hs⟩ := p_4
  replace hT : hx_T T_tb L_1 h_2 := hT
  replace hs : hx_S T_tb [(6, 2)] L h L_1 h_2 := hs
  replace hM := hM.tr (hs.mono (by decide))
  refine lv_aload_n hx hb dX6_isNextWord_4 rfl (lv_at hl 0 rfl) ?_
  obtain ⟨fv_6, efv_6⟩ : ∃ y : Int32, y = h_2.2.1 x 2 := ⟨_, rfl⟩
  have bfv_6 := hT.gi (gx.S hM) tt_6 (k := 2) rfl
  rw [← efv_6] at bfv_6
  have bfv_6 : 0 ≤ fv_6.toInt ∧ fv_6.toInt ≤ 402 := bfv_6
  have ffv_6 := efv_6.symm
  refine hx_goi (hx_runV (As := []) (rest := []) ⟨hx, hb, hml, hown, hts⟩ hW (gx.S hM) tt_6 (T := TX6) (N := 7) rfl (t_X6_wordEnd_2 l dC dI dA L_1 h_2 H.size x hT (gx.S hM) fv_6 ffv_6 qt (gqt.S hM) ((hM.o gx trivial rfl).2.trans f_x_0)) (cwV 0 hts (hx_gV kw_471 kw_468 kw_470 kw_4 kw_95) rfl rfl rfl (by decide +kernel) ⟨Nat.le_of_ble_eq_true rfl, Nat.le_of_ble_eq_true rfl⟩) rfl hl.1 rfl (Nat.le_of_ble_eq_true rfl) dX6_isNextWord_5 ⟨Nat.le_of_ble_eq_true rfl, Nat.le_of_ble_eq_true rfl⟩) hW (fun r_9 L_7 h_8 H locs p_10 hW => ?_)
  obtain ⟨hr_11, hT, hs⟩ := p_10
  replace hT : hx_T T_tb L_7 h_8 := hT
  replace hs : hx_S T_tb [] L_1 h_2 L_7 h_8 := hs
  replace ffv_6 := (hs.o (gx.S hM) trivial rfl).1.trans ffv_6
  replace hM := hM.tr (hs.mono (by decide))
  refine lv_istore_n (lv' := [(2, .int r_9), (0, .ref x), (1, .ref (b0.2.2.2.1 js))]) hx hb dX6_isNextWord_8 rfl hl (by decide) rfl (fun ls hl => ?_)
  refine lv_iload_n hx hb dX6_isNextWord_9 rfl (lv_at hl 0 rfl) ?_
  refine lv_aload_n hx hb dX6_isNextWord_10 rfl (lv_at hl 1 rfl) ?_
  refine hk_geti hx hb hts hC_6 hown hW (gx.S hM) tt_6 2 (by decide) rfl kw_127 ⟨rfl, rfl, rfl⟩ ffv_6 dX6_isNextWord_11 ?_
  refine hb_icmp_le (zx := r_9.toInt) (zy := fv_6.toInt) (tgt := 31) hx hb rfl rfl dX6_isNextWord_14 (by decide) (fun c_12 => ?_) (fun c_12 => ?_)
  · skip
    refine lv_iconst (v := 0) hx hb dX6_isNextWord_31 (by decide) ?_
    exact hx_retz hx hb hr rfl hlk hW ⟨⟨fv_6, ffv_6, (by have zr : (0 : Int32).toInt = 0 := (by decide); (first | omega | (refine ⟨?_, ?_⟩ <;> omega)))⟩, hT, hM⟩ dX6_isNextWord_32
  · skip
    refine lv_aload_n hx hb dX6_isNextWord_17 rfl (lv_at hl 1 rfl) ?_
    refine lv_aload_n hx hb dX6_isNextWord_18 rfl (lv_at hl 2 rfl) ?_
    refine lv_iconst (v := 0) hx hb dX6_isNextWord_19 (by decide) ?_
    refine lv_iload_n hx hb dX6_isNextWord_20 rfl (lv_at hl 0 rfl) ?_
    have zc_0 : (0 : Int32).toInt = 0 := by decide
    refine hx_goi (hx_runVX (As := [.ref (b0.2.2.2.1 js), .int (0 : Int32), .int r_9]) (rest := []) ⟨hx, hb, hml, hown, hts⟩ hW (gx.S hM) tt_6 (T := TX6) (N := 7) rfl (t_X6_isSlot l dC dI dA L_7 h_8 H.size b0 x js (0 : Int32) r_9 hT (gx.S hM) hjs fv_6 ffv_6 (by decide) ⟨by omega, by omega⟩ qt (gqt.S hM) ((hM.o gx trivial rfl).2.trans f_x_0)) hZ (cwV 3 hts (hx_gV kw_485 kw_482 kw_484 kw_5 kw_95) rfl rfl rfl (by decide +kernel) ⟨Nat.le_of_ble_eq_true rfl, Nat.le_of_ble_eq_true rfl⟩) rfl hl.1 rfl (Nat.le_of_ble_eq_true rfl) dX6_isNextWord_21 ⟨Nat.le_of_ble_eq_true rfl, Nat.le_of_ble_eq_true rfl⟩) hW (fun r_15 L_13 h_14 H locs p_16 hW => ?_)
    obtain ⟨hr_17, hT, hs⟩ := p_16
    replace hT : hx_T T_tb L_13 h_14 := hT
    replace hs : hx_S T_tb [] L_7 h_8 L_13 h_14 := hs
    replace ffv_6 := (hs.o (gx.S hM) trivial rfl).1.trans ffv_6
    replace hM := hM.tr (hs.mono (by decide))
    have jn_32 : ∀ (xj_18 : Int32) (ls : Array Slot), 0 ≤ xj_18.toInt → xj_18.toInt ≤ 1 → lv_has ls 3 [(2, .int r_9), (0, .ref x), (1, .ref (b0.2.2.2.1 js))] → W p l e ({ frames := 5, cells := 0, slots := 0, locals := 110 }) s m ([.ref x, .ref (b0.2.2.2.1 js)] : List Value).toArray below meth c H locs 0 0 (MQ below (va_Qi (fun (r : Int32) (u : List Nat × hx_h) => (∃ (w0 : Int32), u.2.2.1 x 2 = w0 ∧ ((r.toInt = 0 ∨ r.toInt = 1) ∧ (r.toInt = 1 → w0.toInt ≤ 399))) ∧ hx_T T_tb u.1 u.2 ∧ hx_S T_tb [(6, 2)] L h u.1 u.2) (hx_E T_tb (P_ty dA) (dC, dI) vwCl (hx_A L sz)) (hx_A L sz)) ([.ref x, .ref (b0.2.2.2.1 js)] : List Value).toArray s 0 0 (hx_A L sz)) (F0 m 32 ls [.int xj_18]) := by
      intro xj_18 ls blxj_18 buxj_18 hl
      exact hx_retz hx hb hr (hx_nar01 (by omega)) hlk hW ⟨⟨fv_6, ffv_6, (by first | omega | (refine ⟨?_, ?_⟩ <;> omega))⟩, hT, hM⟩ dX6_isNextWord_32
    refine hb_if_eq (zx := r_15.toInt) (tgt := 31) hx hb rfl dX6_isNextWord_24 (by decide) (fun c_19 => ?_) (fun c_19 => ?_)
    · skip
      refine lv_iconst (v := 0) hx hb dX6_isNextWord_31 (by decide) ?_
      exact jn_32 (0 : Int32) ls (by decide) (by decide) hl
    · skip
      refine lv_iconst (v := 1) hx hb dX6_isNextWord_27 (by decide) ?_
      refine lv_goto (tgt := 32) hx hb dX6_isNextWord_28 (by decide) ?_
      exact jn_32 (1 : Int32) ls (by decide) (by decide) hl

def wLX6_readNumber_0 : List Nat := [42, 180, 0, 19, 60, 3, 61, 42, 180, 0, 19, 42, 180, 0, 15, 162, 0, 55, 42, 42, 180, 0, 19, 182, 0, 75, 153, 0, 44, 42, 180, 0, 19, 27, 100, 7, 162, 0, 21, 28, 16, 10, 104, 42, 180, 0, 9, 42, 180, 0, 19, 51, 96, 16, 48, 100, 61, 42, 89, 180, 0, 19, 4, 96]
def wLX6_readNumber_1 : List Nat := [181, 0, 19, 167, 255, 196, 42, 180, 0, 19, 27, 100, 7, 164, 0, 7, 2, 167, 0, 4, 28, 172]
theorem wX6_readNumber_0 : (cX6_readNumber.data.toList.map UInt8.toNat).drop 0 = wLX6_readNumber_0 ++ (wLX6_readNumber_1 ++ ([])) := by decide +kernel
theorem wX6_readNumber_1 : (cX6_readNumber.data.toList.map UInt8.toNat).drop 64 = wLX6_readNumber_1 ++ ([]) := hz_wn wX6_readNumber_0 rfl
theorem dX6_readNumber_0 : decode cX6_readNumber 0 = .ok (.aload_n 0, 1) := dq_42 (hz_wg wX6_readNumber_0 (j := 0) (n := 42) rfl)
theorem dX6_readNumber_1 : decode cX6_readNumber 1 = .ok (.getfield 19, 3) := dq_180 (hz_wg wX6_readNumber_0 (j := 1) (n := 180) rfl) (hz_wg wX6_readNumber_0 (j := 2) (n := 0) rfl) (hz_wg wX6_readNumber_0 (j := 3) (n := 19) rfl) rfl
theorem dX6_readNumber_4 : decode cX6_readNumber 4 = .ok (.istore_n 1, 1) := dq_60 (hz_wg wX6_readNumber_0 (j := 4) (n := 60) rfl)
theorem dX6_readNumber_5 : decode cX6_readNumber 5 = .ok (.iconst 0, 1) := dq_3 (hz_wg wX6_readNumber_0 (j := 5) (n := 3) rfl)
theorem dX6_readNumber_6 : decode cX6_readNumber 6 = .ok (.istore_n 2, 1) := dq_61 (hz_wg wX6_readNumber_0 (j := 6) (n := 61) rfl)
theorem dX6_readNumber_7 : decode cX6_readNumber 7 = .ok (.aload_n 0, 1) := dq_42 (hz_wg wX6_readNumber_0 (j := 7) (n := 42) rfl)
theorem dX6_readNumber_8 : decode cX6_readNumber 8 = .ok (.getfield 19, 3) := dq_180 (hz_wg wX6_readNumber_0 (j := 8) (n := 180) rfl) (hz_wg wX6_readNumber_0 (j := 9) (n := 0) rfl) (hz_wg wX6_readNumber_0 (j := 10) (n := 19) rfl) rfl
theorem dX6_readNumber_11 : decode cX6_readNumber 11 = .ok (.aload_n 0, 1) := dq_42 (hz_wg wX6_readNumber_0 (j := 11) (n := 42) rfl)
theorem dX6_readNumber_12 : decode cX6_readNumber 12 = .ok (.getfield 15, 3) := dq_180 (hz_wg wX6_readNumber_0 (j := 12) (n := 180) rfl) (hz_wg wX6_readNumber_0 (j := 13) (n := 0) rfl) (hz_wg wX6_readNumber_0 (j := 14) (n := 15) rfl) rfl
theorem dX6_readNumber_15 : decode cX6_readNumber 15 = .ok (.if_icmp .ge 55, 3) := dq_162 (hz_wg wX6_readNumber_0 (j := 15) (n := 162) rfl) (hz_wg wX6_readNumber_0 (j := 16) (n := 0) rfl) (hz_wg wX6_readNumber_0 (j := 17) (n := 55) rfl) (by decide)
theorem dX6_readNumber_18 : decode cX6_readNumber 18 = .ok (.aload_n 0, 1) := dq_42 (hz_wg wX6_readNumber_0 (j := 18) (n := 42) rfl)
theorem dX6_readNumber_19 : decode cX6_readNumber 19 = .ok (.aload_n 0, 1) := dq_42 (hz_wg wX6_readNumber_0 (j := 19) (n := 42) rfl)
theorem dX6_readNumber_20 : decode cX6_readNumber 20 = .ok (.getfield 19, 3) := dq_180 (hz_wg wX6_readNumber_0 (j := 20) (n := 180) rfl) (hz_wg wX6_readNumber_0 (j := 21) (n := 0) rfl) (hz_wg wX6_readNumber_0 (j := 22) (n := 19) rfl) rfl
theorem dX6_readNumber_23 : decode cX6_readNumber 23 = .ok (.invokevirtual 75, 3) := dq_182 (hz_wg wX6_readNumber_0 (j := 23) (n := 182) rfl) (hz_wg wX6_readNumber_0 (j := 24) (n := 0) rfl) (hz_wg wX6_readNumber_0 (j := 25) (n := 75) rfl) rfl
theorem dX6_readNumber_26 : decode cX6_readNumber 26 = .ok (.ifCond .eq 44, 3) := dq_153 (hz_wg wX6_readNumber_0 (j := 26) (n := 153) rfl) (hz_wg wX6_readNumber_0 (j := 27) (n := 0) rfl) (hz_wg wX6_readNumber_0 (j := 28) (n := 44) rfl) (by decide)
theorem dX6_readNumber_29 : decode cX6_readNumber 29 = .ok (.aload_n 0, 1) := dq_42 (hz_wg wX6_readNumber_0 (j := 29) (n := 42) rfl)
theorem dX6_readNumber_30 : decode cX6_readNumber 30 = .ok (.getfield 19, 3) := dq_180 (hz_wg wX6_readNumber_0 (j := 30) (n := 180) rfl) (hz_wg wX6_readNumber_0 (j := 31) (n := 0) rfl) (hz_wg wX6_readNumber_0 (j := 32) (n := 19) rfl) rfl
theorem dX6_readNumber_33 : decode cX6_readNumber 33 = .ok (.iload_n 1, 1) := dq_27 (hz_wg wX6_readNumber_0 (j := 33) (n := 27) rfl)
theorem dX6_readNumber_34 : decode cX6_readNumber 34 = .ok (.isub, 1) := dq_100 (hz_wg wX6_readNumber_0 (j := 34) (n := 100) rfl)
theorem dX6_readNumber_35 : decode cX6_readNumber 35 = .ok (.iconst 4, 1) := dq_7 (hz_wg wX6_readNumber_0 (j := 35) (n := 7) rfl)
theorem dX6_readNumber_36 : decode cX6_readNumber 36 = .ok (.if_icmp .ge 21, 3) := dq_162 (hz_wg wX6_readNumber_0 (j := 36) (n := 162) rfl) (hz_wg wX6_readNumber_0 (j := 37) (n := 0) rfl) (hz_wg wX6_readNumber_0 (j := 38) (n := 21) rfl) (by decide)
theorem dX6_readNumber_39 : decode cX6_readNumber 39 = .ok (.iload_n 2, 1) := dq_28 (hz_wg wX6_readNumber_0 (j := 39) (n := 28) rfl)
theorem dX6_readNumber_40 : decode cX6_readNumber 40 = .ok (.bipush 10, 2) := dq_16 (hz_wg wX6_readNumber_0 (j := 40) (n := 16) rfl) (hz_wg wX6_readNumber_0 (j := 41) (n := 10) rfl) (by decide)
theorem dX6_readNumber_42 : decode cX6_readNumber 42 = .ok (.imul, 1) := dq_104 (hz_wg wX6_readNumber_0 (j := 42) (n := 104) rfl)
theorem dX6_readNumber_43 : decode cX6_readNumber 43 = .ok (.aload_n 0, 1) := dq_42 (hz_wg wX6_readNumber_0 (j := 43) (n := 42) rfl)
theorem dX6_readNumber_44 : decode cX6_readNumber 44 = .ok (.getfield 9, 3) := dq_180 (hz_wg wX6_readNumber_0 (j := 44) (n := 180) rfl) (hz_wg wX6_readNumber_0 (j := 45) (n := 0) rfl) (hz_wg wX6_readNumber_0 (j := 46) (n := 9) rfl) rfl
theorem dX6_readNumber_47 : decode cX6_readNumber 47 = .ok (.aload_n 0, 1) := dq_42 (hz_wg wX6_readNumber_0 (j := 47) (n := 42) rfl)
theorem dX6_readNumber_48 : decode cX6_readNumber 48 = .ok (.getfield 19, 3) := dq_180 (hz_wg wX6_readNumber_0 (j := 48) (n := 180) rfl) (hz_wg wX6_readNumber_0 (j := 49) (n := 0) rfl) (hz_wg wX6_readNumber_0 (j := 50) (n := 19) rfl) rfl
theorem dX6_readNumber_51 : decode cX6_readNumber 51 = .ok (.baload, 1) := dq_51 (hz_wg wX6_readNumber_0 (j := 51) (n := 51) rfl)
theorem dX6_readNumber_52 : decode cX6_readNumber 52 = .ok (.iadd, 1) := dq_96 (hz_wg wX6_readNumber_0 (j := 52) (n := 96) rfl)
theorem dX6_readNumber_53 : decode cX6_readNumber 53 = .ok (.bipush 48, 2) := dq_16 (hz_wg wX6_readNumber_0 (j := 53) (n := 16) rfl) (hz_wg wX6_readNumber_0 (j := 54) (n := 48) rfl) (by decide)
theorem dX6_readNumber_55 : decode cX6_readNumber 55 = .ok (.isub, 1) := dq_100 (hz_wg wX6_readNumber_0 (j := 55) (n := 100) rfl)
theorem dX6_readNumber_56 : decode cX6_readNumber 56 = .ok (.istore_n 2, 1) := dq_61 (hz_wg wX6_readNumber_0 (j := 56) (n := 61) rfl)
theorem dX6_readNumber_57 : decode cX6_readNumber 57 = .ok (.aload_n 0, 1) := dq_42 (hz_wg wX6_readNumber_0 (j := 57) (n := 42) rfl)
theorem dX6_readNumber_58 : decode cX6_readNumber 58 = .ok (.dup, 1) := dq_89 (hz_wg wX6_readNumber_0 (j := 58) (n := 89) rfl)
theorem dX6_readNumber_59 : decode cX6_readNumber 59 = .ok (.getfield 19, 3) := dq_180 (hz_wg wX6_readNumber_0 (j := 59) (n := 180) rfl) (hz_wg wX6_readNumber_0 (j := 60) (n := 0) rfl) (hz_wg wX6_readNumber_0 (j := 61) (n := 19) rfl) rfl
theorem dX6_readNumber_62 : decode cX6_readNumber 62 = .ok (.iconst 1, 1) := dq_4 (hz_wg wX6_readNumber_0 (j := 62) (n := 4) rfl)
theorem dX6_readNumber_63 : decode cX6_readNumber 63 = .ok (.iadd, 1) := dq_96 (hz_wg wX6_readNumber_0 (j := 63) (n := 96) rfl)
theorem dX6_readNumber_64 : decode cX6_readNumber 64 = .ok (.putfield 19, 3) := dq_181 (hz_wg wX6_readNumber_1 (j := 0) (n := 181) rfl) (hz_wg wX6_readNumber_1 (j := 1) (n := 0) rfl) (hz_wg wX6_readNumber_1 (j := 2) (n := 19) rfl) rfl
theorem dX6_readNumber_67 : decode cX6_readNumber 67 = .ok (.goto (-60), 3) := dq_167 (hz_wg wX6_readNumber_1 (j := 3) (n := 167) rfl) (hz_wg wX6_readNumber_1 (j := 4) (n := 255) rfl) (hz_wg wX6_readNumber_1 (j := 5) (n := 196) rfl) (by decide)
theorem dX6_readNumber_70 : decode cX6_readNumber 70 = .ok (.aload_n 0, 1) := dq_42 (hz_wg wX6_readNumber_1 (j := 6) (n := 42) rfl)
theorem dX6_readNumber_71 : decode cX6_readNumber 71 = .ok (.getfield 19, 3) := dq_180 (hz_wg wX6_readNumber_1 (j := 7) (n := 180) rfl) (hz_wg wX6_readNumber_1 (j := 8) (n := 0) rfl) (hz_wg wX6_readNumber_1 (j := 9) (n := 19) rfl) rfl
theorem dX6_readNumber_74 : decode cX6_readNumber 74 = .ok (.iload_n 1, 1) := dq_27 (hz_wg wX6_readNumber_1 (j := 10) (n := 27) rfl)
theorem dX6_readNumber_75 : decode cX6_readNumber 75 = .ok (.isub, 1) := dq_100 (hz_wg wX6_readNumber_1 (j := 11) (n := 100) rfl)
theorem dX6_readNumber_76 : decode cX6_readNumber 76 = .ok (.iconst 4, 1) := dq_7 (hz_wg wX6_readNumber_1 (j := 12) (n := 7) rfl)
theorem dX6_readNumber_77 : decode cX6_readNumber 77 = .ok (.if_icmp .le 7, 3) := dq_164 (hz_wg wX6_readNumber_1 (j := 13) (n := 164) rfl) (hz_wg wX6_readNumber_1 (j := 14) (n := 0) rfl) (hz_wg wX6_readNumber_1 (j := 15) (n := 7) rfl) (by decide)
theorem dX6_readNumber_80 : decode cX6_readNumber 80 = .ok (.iconst (-1), 1) := dq_2 (hz_wg wX6_readNumber_1 (j := 16) (n := 2) rfl)
theorem dX6_readNumber_81 : decode cX6_readNumber 81 = .ok (.goto 4, 3) := dq_167 (hz_wg wX6_readNumber_1 (j := 17) (n := 167) rfl) (hz_wg wX6_readNumber_1 (j := 18) (n := 0) rfl) (hz_wg wX6_readNumber_1 (j := 19) (n := 4) rfl) (by decide)
theorem dX6_readNumber_84 : decode cX6_readNumber 84 = .ok (.iload_n 2, 1) := dq_28 (hz_wg wX6_readNumber_1 (j := 20) (n := 28) rfl)
theorem dX6_readNumber_85 : decode cX6_readNumber 85 = .ok (.ireturn, 1) := dq_172 (hz_wg wX6_readNumber_1 (j := 21) (n := 172) rfl)
set_option maxHeartbeats 4000000 in
set_option maxRecDepth 100000 in
theorem t_X6_readNumber (l : Launch) (dC : Nat → ClassId) (dI : Nat → Nat → Nat) (dA : Nat → ClassId) (L : List Nat) (h : hx_h) (sz : Nat) (x : Nat) (hT : hx_T T_tb L h) (gx : hx_g L h x 6) (qt : Nat) (gqt : hx_g L h qt 42) (f_x_0 : h.2.2 x 0 = some qt) : Met l yX6_readNumber (Cond.code yX6_readNumber cX6_readNumber 3 (some .int) :: hx_all) ({ frames := 1, cells := 0, slots := 0, locals := 21 }) (va_Pc [.ref x] (hx_B T_tb (P_ty dA) (dC, dI) vwCl L h sz)) (va_Qi (fun (r : Int32) (u : List Nat × hx_h) => (True) ∧ hx_T T_tb u.1 u.2 ∧ hx_S T_tb [(6, 2)] L h u.1 u.2) (hx_E T_tb (P_ty dA) (dC, dI) vwCl (hx_A L sz)) (hx_A L sz)) 0 0 (hx_A L sz) := by
  refine hx_met (lv := [(0, .ref x)]) (by decide +kernel) rfl (Nat.le_of_ble_eq_true rfl) rfl ?_
  intro p e s m below meth c hx hb hml hr hlk hts0 hown hin hsz hW ls hl
  have hts : ∀ w ∈ hx_all, w.before _ s = true := fun w hw => hts0 w (List.mem_cons_of_mem _ hw)
  have hown : s.vm.findClass "SmallCourt$Reader" = some m.cls := hown
  have hM : hx_S T_tb [(6, 2)] L h L h := hx_S.rf
  refine lv_aload_n hx hb dX6_readNumber_0 rfl (lv_at hl 0 rfl) ?_
  refine hx_geti hx hb hts hC_6 hown hW hT (gx.S hM) tt_6 2 (by decide) rfl kw_127 ⟨rfl, rfl, rfl⟩ dX6_readNumber_1 (fun x_1 ex_1 lx_1 ux_1 => ?_)
  have fx_1 := ex_1.symm
  refine lv_istore_n (lv' := [(1, .int x_1), (0, .ref x)]) hx hb dX6_readNumber_4 rfl hl (by decide) rfl (fun ls hl => ?_)
  refine lv_iconst (v := 0) hx hb dX6_readNumber_5 (by decide) ?_
  refine lv_istore_n (lv' := [(2, .int (0 : Int32)), (1, .int x_1), (0, .ref x)]) hx hb dX6_readNumber_6 rfl hl (by decide) rfl (fun ls hl => ?_)
  have loop7 : ∀ (n7 : Nat) (iv7_2 fw7_x_2 : Int32) (H : Heap) (locs : List Loc) (hL1 : List Nat) (hl1 : hx_h), -2147483648 ≤ iv7_2.toInt → iv7_2.toInt ≤ 2147483647 → 0 ≤ fw7_x_2.toInt → fw7_x_2.toInt ≤ 402 → ∀ (ls : Array Slot), 402 - fw7_x_2.toInt < (n7 : Int) → hx_W T_tb (P_ty dA) (dC, dI) vwCl (hx_A L sz) s.heap hL1 hl1 s H locs → hx_T T_tb hL1 hl1 → hx_S T_tb [(6, 2)] L h hL1 hl1 → hl1.2.1 x 2 = fw7_x_2 → lv_has ls 3 [(2, .int iv7_2), (1, .int x_1), (0, .ref x)] → W p l e ({ frames := 1, cells := 0, slots := 0, locals := 21 }) s m ([.ref x] : List Value).toArray below meth c H locs 0 0 (MQ below (va_Qi (fun (r : Int32) (u : List Nat × hx_h) => (True) ∧ hx_T T_tb u.1 u.2 ∧ hx_S T_tb [(6, 2)] L h u.1 u.2) (hx_E T_tb (P_ty dA) (dC, dI) vwCl (hx_A L sz)) (hx_A L sz)) ([.ref x] : List Value).toArray s 0 0 (hx_A L sz)) (F0 m 7 ls []) := by
    intro n7
    induction n7 with
    | zero => intro iv7_2 fw7_x_2 H locs hL1 hl1 bliv7_2 buiv7_2 blfw7_x_2 bufw7_x_2  ls hn7; exfalso; omega
    | succ n7 ih7 =>
      intro iv7_2 fw7_x_2 H locs hL1 hl1 bliv7_2 buiv7_2 blfw7_x_2 bufw7_x_2  ls hn7 hW hT hM ffw7_x_2  hl
      refine lv_aload_n hx hb dX6_readNumber_7 rfl (lv_at hl 2 rfl) ?_
      refine hk_geti hx hb hts hC_6 hown hW (gx.S hM) tt_6 2 (by decide) rfl kw_127 ⟨rfl, rfl, rfl⟩ ffw7_x_2 dX6_readNumber_8 ?_
      refine lv_aload_n hx hb dX6_readNumber_11 rfl (lv_at hl 2 rfl) ?_
      refine hx_geti hx hb hts hC_6 hown hW hT (gx.S hM) tt_6 1 (by decide) rfl kw_126 ⟨rfl, rfl, rfl⟩ dX6_readNumber_12 (fun x_2 ex_2 lx_2 ux_2 => ?_)
      have fx_2 := ex_2.symm
      refine hb_icmp_ge (zx := fw7_x_2.toInt) (zy := x_2.toInt) (tgt := 70) hx hb rfl rfl dX6_readNumber_15 (by decide) (fun c_3 => ?_) (fun c_3 => ?_)
      · skip
        refine lv_aload_n hx hb dX6_readNumber_70 rfl (lv_at hl 2 rfl) ?_
        refine hk_geti hx hb hts hC_6 hown hW (gx.S hM) tt_6 2 (by decide) rfl kw_127 ⟨rfl, rfl, rfl⟩ ffw7_x_2 dX6_readNumber_71 ?_
        refine lv_iload_n hx hb dX6_readNumber_74 rfl (lv_at hl 1 rfl) ?_
        refine lv_isub hx hb dX6_readNumber_75 ?_
        have rg_4 := i32_r fw7_x_2
        have rg_5 := i32_r x_1
        refine lv_topi (fun x_6 ex_6 => ?_)
        have zx_6 : x_6.toInt = fw7_x_2.toInt - x_1.toInt := by rw [ex_6]; exact i32_sub rfl rfl (by omega) (by omega)
        refine lv_iconst (v := 4) hx hb dX6_readNumber_76 (by decide) ?_
        refine hb_icmp_le (zx := x_6.toInt) (zy := 4) (tgt := 84) hx hb rfl (by decide) dX6_readNumber_77 (by decide) (fun c_7 => ?_) (fun c_7 => ?_)
        · skip
          refine lv_iload_n hx hb dX6_readNumber_84 rfl (lv_at hl 0 rfl) ?_
          exact hx_reti hx hb hr hlk hW ⟨trivial, hT, hM⟩ dX6_readNumber_85
        · skip
          refine lv_iconst (v := -1) hx hb dX6_readNumber_80 (by decide) ?_
          refine lv_goto (tgt := 85) hx hb dX6_readNumber_81 (by decide) ?_
          exact hx_reti hx hb hr hlk hW ⟨trivial, hT, hM⟩ dX6_readNumber_85
      · skip
        refine lv_aload_n hx hb dX6_readNumber_18 rfl (lv_at hl 2 rfl) ?_
        refine lv_aload_n hx hb dX6_readNumber_19 rfl (lv_at hl 2 rfl) ?_
        refine hk_geti hx hb hts hC_6 hown hW (gx.S hM) tt_6 2 (by decide) rfl kw_127 ⟨rfl, rfl, rfl⟩ ffw7_x_2 dX6_readNumber_20 ?_
        refine hx_goi (hx_runV (As := [.int fw7_x_2]) (rest := []) ⟨hx, hb, hml, hown, hts⟩ hW (gx.S hM) tt_6 (T := TX6) (N := 7) rfl (t_X6_isDigit l dC dI dA hL1 hl1 H.size x fw7_x_2 hT (gx.S hM) (by omega) qt (gqt.S hM) ((hM.o gx trivial rfl).2.trans f_x_0)) (cwV 1 hts (hx_gV kw_544 kw_541 kw_543 kw_10 kw_95) rfl rfl rfl (by decide +kernel) ⟨Nat.le_of_ble_eq_true rfl, Nat.le_of_ble_eq_true rfl⟩) rfl hl.1 rfl (Nat.le_of_ble_eq_true rfl) dX6_readNumber_23 ⟨Nat.le_of_ble_eq_true rfl, Nat.le_of_ble_eq_true rfl⟩) hW (fun r_10 L_8 h_9 H locs p_11 hW => ?_)
        obtain ⟨hr_12, hT, hs⟩ := p_11
        replace hT : hx_T T_tb L_8 h_9 := hT
        replace hs : hx_S T_tb [] hL1 hl1 L_8 h_9 := hs
        replace ffw7_x_2 := (hs.o (gx.S hM) trivial rfl).1.trans ffw7_x_2
        replace fx_2 := (hs.o (gx.S hM) trivial rfl).1.trans fx_2
        replace hM := hM.tr (hs.mono (by decide))
        refine hb_if_eq (zx := r_10.toInt) (tgt := 70) hx hb rfl dX6_readNumber_26 (by decide) (fun c_13 => ?_) (fun c_13 => ?_)
        · skip
          refine lv_aload_n hx hb dX6_readNumber_70 rfl (lv_at hl 2 rfl) ?_
          refine hk_geti hx hb hts hC_6 hown hW (gx.S hM) tt_6 2 (by decide) rfl kw_127 ⟨rfl, rfl, rfl⟩ ffw7_x_2 dX6_readNumber_71 ?_
          refine lv_iload_n hx hb dX6_readNumber_74 rfl (lv_at hl 1 rfl) ?_
          refine lv_isub hx hb dX6_readNumber_75 ?_
          have rg_14 := i32_r fw7_x_2
          have rg_15 := i32_r x_1
          refine lv_topi (fun x_16 ex_16 => ?_)
          have zx_16 : x_16.toInt = fw7_x_2.toInt - x_1.toInt := by rw [ex_16]; exact i32_sub rfl rfl (by omega) (by omega)
          refine lv_iconst (v := 4) hx hb dX6_readNumber_76 (by decide) ?_
          refine hb_icmp_le (zx := x_16.toInt) (zy := 4) (tgt := 84) hx hb rfl (by decide) dX6_readNumber_77 (by decide) (fun c_17 => ?_) (fun c_17 => ?_)
          · skip
            refine lv_iload_n hx hb dX6_readNumber_84 rfl (lv_at hl 0 rfl) ?_
            exact hx_reti hx hb hr hlk hW ⟨trivial, hT, hM⟩ dX6_readNumber_85
          · skip
            refine lv_iconst (v := -1) hx hb dX6_readNumber_80 (by decide) ?_
            refine lv_goto (tgt := 85) hx hb dX6_readNumber_81 (by decide) ?_
            exact hx_reti hx hb hr hlk hW ⟨trivial, hT, hM⟩ dX6_readNumber_85
        · skip
          refine lv_aload_n hx hb dX6_readNumber_29 rfl (lv_at hl 2 rfl) ?_
          refine hk_geti hx hb hts hC_6 hown hW (gx.S hM) tt_6 2 (by decide) rfl kw_127 ⟨rfl, rfl, rfl⟩ ffw7_x_2 dX6_readNumber_30 ?_
          refine lv_iload_n hx hb dX6_readNumber_33 rfl (lv_at hl 1 rfl) ?_
          refine lv_isub hx hb dX6_readNumber_34 ?_
          have rg_18 := i32_r fw7_x_2
          have rg_19 := i32_r x_1
          refine lv_topi (fun x_20 ex_20 => ?_)
          have zx_20 : x_20.toInt = fw7_x_2.toInt - x_1.toInt := by rw [ex_20]; exact i32_sub rfl rfl (by omega) (by omega)
          refine lv_iconst (v := 4) hx hb dX6_readNumber_35 (by decide) ?_
          refine hb_icmp_ge (zx := x_20.toInt) (zy := 4) (tgt := 57) hx hb rfl (by decide) dX6_readNumber_36 (by decide) (fun c_21 => ?_) (fun c_21 => ?_)
          · skip
            refine lv_aload_n hx hb dX6_readNumber_57 rfl (lv_at hl 2 rfl) ?_
            refine lv_dup hx hb dX6_readNumber_58 rfl ?_
            refine hk_geti hx hb hts hC_6 hown hW (gx.S hM) tt_6 2 (by decide) rfl kw_127 ⟨rfl, rfl, rfl⟩ ffw7_x_2 dX6_readNumber_59 ?_
            refine lv_iconst (v := 1) hx hb dX6_readNumber_62 (by decide) ?_
            refine lv_iadd hx hb dX6_readNumber_63 ?_
            refine lv_topi (fun x_22 ex_22 => ?_)
            have zx_22 : x_22.toInt = fw7_x_2.toInt + 1 := by rw [ex_22]; exact i32_add rfl (by decide) (by omega) (by omega)
            refine hx_puti hx hb hts hC_6 hown hW hT (hx_S.rf (M := [(6, 2)])) (gx.S hM) tt_6 2 (by decide) rfl kw_127 ⟨rfl, rfl, rfl⟩ rfl (x := x_22) ⟨by omega, by omega⟩ rfl rfl rfl (List.mem_singleton.mpr rfl) dX6_readNumber_64 (fun H locs h_23 eh_23 hW hT hs => ?_)
            replace fx_2 := (hs.o (gx.S hM) trivial rfl).1.trans fx_2
            replace hM := hM.tr (hs.mono (by decide))
            have f_24 : h_23.2.1 x 2 = x_22 := by rw [eh_23]; exact hx_pi_at _ _ _ _
            refine lv_goto (tgt := 7) hx hb dX6_readNumber_67 (by decide) ?_
            exact ih7 iv7_2 x_22 _ _ L_8 h_23 (i32_r _).1 (i32_r _).2 (by omega) (by omega)  ls (by omega) hW hT hM f_24  (lv_sub hl [0, 1, 2] rfl)
          · skip
            refine lv_iload_n hx hb dX6_readNumber_39 rfl (lv_at hl 0 rfl) ?_
            refine lv_bipush (v := 10) hx hb dX6_readNumber_40 (by decide) ?_
            refine lv_imul hx hb dX6_readNumber_42 ?_
            refine lv_topi (fun x_25 ex_25 => ?_)
            refine lv_aload_n hx hb dX6_readNumber_43 rfl (lv_at hl 2 rfl) ?_
            refine hk_getr hx hb hts hC_6 hown hW (gx.S hM) tt_6 0 (by decide) rfl kw_125 ⟨rfl, rfl, rfl⟩ ((hM.o gx trivial rfl).2.trans f_x_0) dX6_readNumber_44 ?_
            refine lv_aload_n hx hb dX6_readNumber_47 rfl (lv_at hl 2 rfl) ?_
            refine hk_geti hx hb hts hC_6 hown hW (gx.S hM) tt_6 2 (by decide) rfl kw_127 ⟨rfl, rfl, rfl⟩ ffw7_x_2 dX6_readNumber_48 ?_
            refine hx_bald hx hb hW hT (gqt.S hM) tt_42 rfl ⟨by omega, by omega⟩ dX6_readNumber_51 (fun x_26 ex_26 lx_26 ux_26 => ?_)
            refine lv_iadd hx hb dX6_readNumber_52 ?_
            have rg_27 := i32_r x_25
            have rg_28 := i32_r x_26
            refine lv_topi (fun x_29 ex_29 => ?_)
            refine lv_bipush (v := 48) hx hb dX6_readNumber_53 (by decide) ?_
            refine lv_isub hx hb dX6_readNumber_55 ?_
            have rg_30 := i32_r x_29
            refine lv_topi (fun x_31 ex_31 => ?_)
            refine lv_istore_n (lv' := [(2, .int x_31), (1, .int x_1), (0, .ref x)]) hx hb dX6_readNumber_56 rfl hl (by decide) rfl (fun ls hl => ?_)
            refine lv_aload_n hx hb dX6_readNumber_57 rfl (lv_at hl 2 rfl) ?_
            refine lv_dup hx hb dX6_readNumber_58 rfl ?_
            refine hk_geti hx hb hts hC_6 hown hW (gx.S hM) tt_6 2 (by decide) rfl kw_127 ⟨rfl, rfl, rfl⟩ ffw7_x_2 dX6_readNumber_59 ?_
            refine lv_iconst (v := 1) hx hb dX6_readNumber_62 (by decide) ?_
            refine lv_iadd hx hb dX6_readNumber_63 ?_
            refine lv_topi (fun x_32 ex_32 => ?_)
            have zx_32 : x_32.toInt = fw7_x_2.toInt + 1 := by rw [ex_32]; exact i32_add rfl (by decide) (by omega) (by omega)
            refine hx_puti hx hb hts hC_6 hown hW hT (hx_S.rf (M := [(6, 2)])) (gx.S hM) tt_6 2 (by decide) rfl kw_127 ⟨rfl, rfl, rfl⟩ rfl (x := x_32) ⟨by omega, by omega⟩ rfl rfl rfl (List.mem_singleton.mpr rfl) dX6_readNumber_64 (fun H locs h_33 eh_33 hW hT hs => ?_)
            replace fx_2 := (hs.o (gx.S hM) trivial rfl).1.trans fx_2
            replace ex_26 := ex_26.trans (hs.a (gqt.S hM) rfl _).1.symm
            replace hM := hM.tr (hs.mono (by decide))
            have f_34 : h_33.2.1 x 2 = x_32 := by rw [eh_33]; exact hx_pi_at _ _ _ _
            refine lv_goto (tgt := 7) hx hb dX6_readNumber_67 (by decide) ?_
            exact ih7 x_31 x_32 _ _ L_8 h_33 (i32_r _).1 (i32_r _).2 (by omega) (by omega)  ls (by omega) hW hT hM f_34  (lv_sub hl [0, 1, 2] rfl)
  have zk_0 : (0 : Int32).toInt = 0 := by decide
  exact loop7 403 (0 : Int32) x_1 _ _ L h (by decide) (by decide) (by omega) (by omega)  ls (by omega) hW hT hM fx_1  hl

def wLX6_readSign_0 : List Nat := [42, 182, 0, 35, 42, 16, 60, 182, 0, 109, 153, 0, 7, 4, 167, 0, 17, 42, 16, 62, 182, 0, 109, 153, 0, 7, 7, 167, 0, 4, 3, 60, 27, 153, 0, 13, 42, 89, 180, 0, 19, 4, 96, 181, 0, 19, 42, 16, 61, 182, 0, 109, 153, 0, 17, 42, 89, 180, 0, 19, 4, 96, 181, 0]
def wLX6_readSign_1 : List Nat := [19, 27, 5, 128, 60, 27, 172]
theorem wX6_readSign_0 : (cX6_readSign.data.toList.map UInt8.toNat).drop 0 = wLX6_readSign_0 ++ (wLX6_readSign_1 ++ ([])) := by decide +kernel
theorem wX6_readSign_1 : (cX6_readSign.data.toList.map UInt8.toNat).drop 64 = wLX6_readSign_1 ++ ([]) := hz_wn wX6_readSign_0 rfl
theorem dX6_readSign_0 : decode cX6_readSign 0 = .ok (.aload_n 0, 1) := dq_42 (hz_wg wX6_readSign_0 (j := 0) (n := 42) rfl)
theorem dX6_readSign_1 : decode cX6_readSign 1 = .ok (.invokevirtual 35, 3) := dq_182 (hz_wg wX6_readSign_0 (j := 1) (n := 182) rfl) (hz_wg wX6_readSign_0 (j := 2) (n := 0) rfl) (hz_wg wX6_readSign_0 (j := 3) (n := 35) rfl) rfl
theorem dX6_readSign_4 : decode cX6_readSign 4 = .ok (.aload_n 0, 1) := dq_42 (hz_wg wX6_readSign_0 (j := 4) (n := 42) rfl)
theorem dX6_readSign_5 : decode cX6_readSign 5 = .ok (.bipush 60, 2) := dq_16 (hz_wg wX6_readSign_0 (j := 5) (n := 16) rfl) (hz_wg wX6_readSign_0 (j := 6) (n := 60) rfl) (by decide)
theorem dX6_readSign_7 : decode cX6_readSign 7 = .ok (.invokevirtual 109, 3) := dq_182 (hz_wg wX6_readSign_0 (j := 7) (n := 182) rfl) (hz_wg wX6_readSign_0 (j := 8) (n := 0) rfl) (hz_wg wX6_readSign_0 (j := 9) (n := 109) rfl) rfl
theorem dX6_readSign_10 : decode cX6_readSign 10 = .ok (.ifCond .eq 7, 3) := dq_153 (hz_wg wX6_readSign_0 (j := 10) (n := 153) rfl) (hz_wg wX6_readSign_0 (j := 11) (n := 0) rfl) (hz_wg wX6_readSign_0 (j := 12) (n := 7) rfl) (by decide)
theorem dX6_readSign_13 : decode cX6_readSign 13 = .ok (.iconst 1, 1) := dq_4 (hz_wg wX6_readSign_0 (j := 13) (n := 4) rfl)
theorem dX6_readSign_14 : decode cX6_readSign 14 = .ok (.goto 17, 3) := dq_167 (hz_wg wX6_readSign_0 (j := 14) (n := 167) rfl) (hz_wg wX6_readSign_0 (j := 15) (n := 0) rfl) (hz_wg wX6_readSign_0 (j := 16) (n := 17) rfl) (by decide)
theorem dX6_readSign_17 : decode cX6_readSign 17 = .ok (.aload_n 0, 1) := dq_42 (hz_wg wX6_readSign_0 (j := 17) (n := 42) rfl)
theorem dX6_readSign_18 : decode cX6_readSign 18 = .ok (.bipush 62, 2) := dq_16 (hz_wg wX6_readSign_0 (j := 18) (n := 16) rfl) (hz_wg wX6_readSign_0 (j := 19) (n := 62) rfl) (by decide)
theorem dX6_readSign_20 : decode cX6_readSign 20 = .ok (.invokevirtual 109, 3) := dq_182 (hz_wg wX6_readSign_0 (j := 20) (n := 182) rfl) (hz_wg wX6_readSign_0 (j := 21) (n := 0) rfl) (hz_wg wX6_readSign_0 (j := 22) (n := 109) rfl) rfl
theorem dX6_readSign_23 : decode cX6_readSign 23 = .ok (.ifCond .eq 7, 3) := dq_153 (hz_wg wX6_readSign_0 (j := 23) (n := 153) rfl) (hz_wg wX6_readSign_0 (j := 24) (n := 0) rfl) (hz_wg wX6_readSign_0 (j := 25) (n := 7) rfl) (by decide)
theorem dX6_readSign_26 : decode cX6_readSign 26 = .ok (.iconst 4, 1) := dq_7 (hz_wg wX6_readSign_0 (j := 26) (n := 7) rfl)
theorem dX6_readSign_27 : decode cX6_readSign 27 = .ok (.goto 4, 3) := dq_167 (hz_wg wX6_readSign_0 (j := 27) (n := 167) rfl) (hz_wg wX6_readSign_0 (j := 28) (n := 0) rfl) (hz_wg wX6_readSign_0 (j := 29) (n := 4) rfl) (by decide)
theorem dX6_readSign_30 : decode cX6_readSign 30 = .ok (.iconst 0, 1) := dq_3 (hz_wg wX6_readSign_0 (j := 30) (n := 3) rfl)
theorem dX6_readSign_31 : decode cX6_readSign 31 = .ok (.istore_n 1, 1) := dq_60 (hz_wg wX6_readSign_0 (j := 31) (n := 60) rfl)
theorem dX6_readSign_32 : decode cX6_readSign 32 = .ok (.iload_n 1, 1) := dq_27 (hz_wg wX6_readSign_0 (j := 32) (n := 27) rfl)
theorem dX6_readSign_33 : decode cX6_readSign 33 = .ok (.ifCond .eq 13, 3) := dq_153 (hz_wg wX6_readSign_0 (j := 33) (n := 153) rfl) (hz_wg wX6_readSign_0 (j := 34) (n := 0) rfl) (hz_wg wX6_readSign_0 (j := 35) (n := 13) rfl) (by decide)
theorem dX6_readSign_36 : decode cX6_readSign 36 = .ok (.aload_n 0, 1) := dq_42 (hz_wg wX6_readSign_0 (j := 36) (n := 42) rfl)
theorem dX6_readSign_37 : decode cX6_readSign 37 = .ok (.dup, 1) := dq_89 (hz_wg wX6_readSign_0 (j := 37) (n := 89) rfl)
theorem dX6_readSign_38 : decode cX6_readSign 38 = .ok (.getfield 19, 3) := dq_180 (hz_wg wX6_readSign_0 (j := 38) (n := 180) rfl) (hz_wg wX6_readSign_0 (j := 39) (n := 0) rfl) (hz_wg wX6_readSign_0 (j := 40) (n := 19) rfl) rfl
theorem dX6_readSign_41 : decode cX6_readSign 41 = .ok (.iconst 1, 1) := dq_4 (hz_wg wX6_readSign_0 (j := 41) (n := 4) rfl)
theorem dX6_readSign_42 : decode cX6_readSign 42 = .ok (.iadd, 1) := dq_96 (hz_wg wX6_readSign_0 (j := 42) (n := 96) rfl)
theorem dX6_readSign_43 : decode cX6_readSign 43 = .ok (.putfield 19, 3) := dq_181 (hz_wg wX6_readSign_0 (j := 43) (n := 181) rfl) (hz_wg wX6_readSign_0 (j := 44) (n := 0) rfl) (hz_wg wX6_readSign_0 (j := 45) (n := 19) rfl) rfl
theorem dX6_readSign_46 : decode cX6_readSign 46 = .ok (.aload_n 0, 1) := dq_42 (hz_wg wX6_readSign_0 (j := 46) (n := 42) rfl)
theorem dX6_readSign_47 : decode cX6_readSign 47 = .ok (.bipush 61, 2) := dq_16 (hz_wg wX6_readSign_0 (j := 47) (n := 16) rfl) (hz_wg wX6_readSign_0 (j := 48) (n := 61) rfl) (by decide)
theorem dX6_readSign_49 : decode cX6_readSign 49 = .ok (.invokevirtual 109, 3) := dq_182 (hz_wg wX6_readSign_0 (j := 49) (n := 182) rfl) (hz_wg wX6_readSign_0 (j := 50) (n := 0) rfl) (hz_wg wX6_readSign_0 (j := 51) (n := 109) rfl) rfl
theorem dX6_readSign_52 : decode cX6_readSign 52 = .ok (.ifCond .eq 17, 3) := dq_153 (hz_wg wX6_readSign_0 (j := 52) (n := 153) rfl) (hz_wg wX6_readSign_0 (j := 53) (n := 0) rfl) (hz_wg wX6_readSign_0 (j := 54) (n := 17) rfl) (by decide)
theorem dX6_readSign_55 : decode cX6_readSign 55 = .ok (.aload_n 0, 1) := dq_42 (hz_wg wX6_readSign_0 (j := 55) (n := 42) rfl)
theorem dX6_readSign_56 : decode cX6_readSign 56 = .ok (.dup, 1) := dq_89 (hz_wg wX6_readSign_0 (j := 56) (n := 89) rfl)
theorem dX6_readSign_57 : decode cX6_readSign 57 = .ok (.getfield 19, 3) := dq_180 (hz_wg wX6_readSign_0 (j := 57) (n := 180) rfl) (hz_wg wX6_readSign_0 (j := 58) (n := 0) rfl) (hz_wg wX6_readSign_0 (j := 59) (n := 19) rfl) rfl
theorem dX6_readSign_60 : decode cX6_readSign 60 = .ok (.iconst 1, 1) := dq_4 (hz_wg wX6_readSign_0 (j := 60) (n := 4) rfl)
theorem dX6_readSign_61 : decode cX6_readSign 61 = .ok (.iadd, 1) := dq_96 (hz_wg wX6_readSign_0 (j := 61) (n := 96) rfl)
theorem dX6_readSign_62 : decode cX6_readSign 62 = .ok (.putfield 19, 3) := dq_181 (hz_wg wX6_readSign_0 (j := 62) (n := 181) rfl) (hz_wg wX6_readSign_0 (j := 63) (n := 0) rfl) (hz_wg wX6_readSign_1 (j := 0) (n := 19) rfl) rfl
theorem dX6_readSign_65 : decode cX6_readSign 65 = .ok (.iload_n 1, 1) := dq_27 (hz_wg wX6_readSign_1 (j := 1) (n := 27) rfl)
theorem dX6_readSign_66 : decode cX6_readSign 66 = .ok (.iconst 2, 1) := dq_5 (hz_wg wX6_readSign_1 (j := 2) (n := 5) rfl)
theorem dX6_readSign_67 : decode cX6_readSign 67 = .ok (.ior, 1) := dq_128 (hz_wg wX6_readSign_1 (j := 3) (n := 128) rfl)
theorem dX6_readSign_68 : decode cX6_readSign 68 = .ok (.istore_n 1, 1) := dq_60 (hz_wg wX6_readSign_1 (j := 4) (n := 60) rfl)
theorem dX6_readSign_69 : decode cX6_readSign 69 = .ok (.iload_n 1, 1) := dq_27 (hz_wg wX6_readSign_1 (j := 5) (n := 27) rfl)
theorem dX6_readSign_70 : decode cX6_readSign 70 = .ok (.ireturn, 1) := dq_172 (hz_wg wX6_readSign_1 (j := 6) (n := 172) rfl)
set_option maxHeartbeats 4000000 in
set_option maxRecDepth 100000 in
theorem t_X6_readSign (l : Launch) (dC : Nat → ClassId) (dI : Nat → Nat → Nat) (dA : Nat → ClassId) (L : List Nat) (h : hx_h) (sz : Nat) (x : Nat) (hT : hx_T T_tb L h) (gx : hx_g L h x 6) (qt : Nat) (gqt : hx_g L h qt 42) (f_x_0 : h.2.2 x 0 = some qt) : Met l yX6_readSign (Cond.code yX6_readSign cX6_readSign 2 (some .int) :: hx_all) ({ frames := 1, cells := 0, slots := 0, locals := 21 }) (va_Pc [.ref x] (hx_B T_tb (P_ty dA) (dC, dI) vwCl L h sz)) (va_Qi (fun (r : Int32) (u : List Nat × hx_h) => (True) ∧ hx_T T_tb u.1 u.2 ∧ hx_S T_tb [(6, 2)] L h u.1 u.2) (hx_E T_tb (P_ty dA) (dC, dI) vwCl (hx_A L sz)) (hx_A L sz)) 0 0 (hx_A L sz) := by
  refine hx_met (lv := [(0, .ref x)]) (by decide +kernel) rfl (Nat.le_of_ble_eq_true rfl) rfl ?_
  intro p e s m below meth c hx hb hml hr hlk hts0 hown hin hsz hW ls hl
  have hts : ∀ w ∈ hx_all, w.before _ s = true := fun w hw => hts0 w (List.mem_cons_of_mem _ hw)
  have hown : s.vm.findClass "SmallCourt$Reader" = some m.cls := hown
  have hM : hx_S T_tb [(6, 2)] L h L h := hx_S.rf
  refine lv_aload_n hx hb dX6_readSign_0 rfl (lv_at hl 0 rfl) ?_
  refine hx_gov (hx_runV (As := []) (rest := []) ⟨hx, hb, hml, hown, hts⟩ hW (gx.S hM) tt_6 (T := TX6) (N := 7) rfl (t_X6_skipBlanks l dC dI dA L h s.heap.size x hT (gx.S hM) qt (gqt.S hM) ((hM.o gx trivial rfl).2.trans f_x_0)) (cwV 0 hts (hx_gV kw_458 kw_455 kw_457 kw_1 kw_95) rfl rfl rfl (by decide +kernel) ⟨Nat.le_of_ble_eq_true rfl, Nat.le_of_ble_eq_true rfl⟩) rfl hl.1 rfl (Nat.le_of_ble_eq_true rfl) dX6_readSign_1 ⟨Nat.le_of_ble_eq_true rfl, Nat.le_of_ble_eq_true rfl⟩) hW (fun L_1 h_2 H locs p_4 hW => ?_)
  obtain ⟨hT, hs⟩ := p_4
  replace hT : hx_T T_tb L_1 h_2 := hT
  replace hs : hx_S T_tb [(6, 2)] L h L_1 h_2 := hs
  replace hM := hM.tr (hs.mono (by decide))
  refine lv_aload_n hx hb dX6_readSign_4 rfl (lv_at hl 0 rfl) ?_
  refine lv_bipush (v := 60) hx hb dX6_readSign_5 (by decide) ?_
  have zc_60 : (60 : Int32).toInt = 60 := by decide
  obtain ⟨fv_6, efv_6⟩ : ∃ y : Int32, y = h_2.2.1 x 2 := ⟨_, rfl⟩
  have bfv_6 := hT.gi (gx.S hM) tt_6 (k := 2) rfl
  rw [← efv_6] at bfv_6
  have bfv_6 : 0 ≤ fv_6.toInt ∧ fv_6.toInt ≤ 402 := bfv_6
  have ffv_6 := efv_6.symm
  refine hx_goi (hx_runV (As := [.int (60 : Int32)]) (rest := []) ⟨hx, hb, hml, hown, hts⟩ hW (gx.S hM) tt_6 (T := TX6) (N := 7) rfl (t_X6_isByte l dC dI dA L_1 h_2 H.size x (60 : Int32) hT (gx.S hM) fv_6 ffv_6 qt (gqt.S hM) ((hM.o gx trivial rfl).2.trans f_x_0)) (cwV 1 hts (hx_gV kw_569 kw_566 kw_568 kw_15 kw_95) rfl rfl rfl (by decide +kernel) ⟨Nat.le_of_ble_eq_true rfl, Nat.le_of_ble_eq_true rfl⟩) rfl hl.1 rfl (Nat.le_of_ble_eq_true rfl) dX6_readSign_7 ⟨Nat.le_of_ble_eq_true rfl, Nat.le_of_ble_eq_true rfl⟩) hW (fun r_9 L_7 h_8 H locs p_10 hW => ?_)
  obtain ⟨hr_11, hT, hs⟩ := p_10
  replace hT : hx_T T_tb L_7 h_8 := hT
  replace hs : hx_S T_tb [] L_1 h_2 L_7 h_8 := hs
  replace ffv_6 := (hs.o (gx.S hM) trivial rfl).1.trans ffv_6
  replace hM := hM.tr (hs.mono (by decide))
  refine hb_if_eq (zx := r_9.toInt) (tgt := 17) hx hb rfl dX6_readSign_10 (by decide) (fun c_12 => ?_) (fun c_12 => ?_)
  · skip
    refine lv_aload_n hx hb dX6_readSign_17 rfl (lv_at hl 0 rfl) ?_
    refine lv_bipush (v := 62) hx hb dX6_readSign_18 (by decide) ?_
    have zc_62 : (62 : Int32).toInt = 62 := by decide
    refine hx_goi (hx_runV (As := [.int (62 : Int32)]) (rest := []) ⟨hx, hb, hml, hown, hts⟩ hW (gx.S hM) tt_6 (T := TX6) (N := 7) rfl (t_X6_isByte l dC dI dA L_7 h_8 H.size x (62 : Int32) hT (gx.S hM) fv_6 ffv_6 qt (gqt.S hM) ((hM.o gx trivial rfl).2.trans f_x_0)) (cwV 1 hts (hx_gV kw_569 kw_566 kw_568 kw_15 kw_95) rfl rfl rfl (by decide +kernel) ⟨Nat.le_of_ble_eq_true rfl, Nat.le_of_ble_eq_true rfl⟩) rfl hl.1 rfl (Nat.le_of_ble_eq_true rfl) dX6_readSign_20 ⟨Nat.le_of_ble_eq_true rfl, Nat.le_of_ble_eq_true rfl⟩) hW (fun r_15 L_13 h_14 H locs p_16 hW => ?_)
    obtain ⟨hr_17, hT, hs⟩ := p_16
    replace hT : hx_T T_tb L_13 h_14 := hT
    replace hs : hx_S T_tb [] L_7 h_8 L_13 h_14 := hs
    replace ffv_6 := (hs.o (gx.S hM) trivial rfl).1.trans ffv_6
    replace hM := hM.tr (hs.mono (by decide))
    refine hb_if_eq (zx := r_15.toInt) (tgt := 30) hx hb rfl dX6_readSign_23 (by decide) (fun c_18 => ?_) (fun c_18 => ?_)
    · skip
      refine lv_iconst (v := 0) hx hb dX6_readSign_30 (by decide) ?_
      refine lv_istore_n (lv' := [(1, .int (0 : Int32)), (0, .ref x)]) hx hb dX6_readSign_31 rfl hl (by decide) rfl (fun ls hl => ?_)
      refine lv_iload_n hx hb dX6_readSign_32 rfl (lv_at hl 0 rfl) ?_
      refine hb_if_eq (zx := 0) (tgt := 46) hx hb (by decide) dX6_readSign_33 (by decide) (fun c_19 => ?_) (fun c_19 => absurd c_19 (by decide))
      refine lv_aload_n hx hb dX6_readSign_46 rfl (lv_at hl 1 rfl) ?_
      refine lv_bipush (v := 61) hx hb dX6_readSign_47 (by decide) ?_
      have zc_61 : (61 : Int32).toInt = 61 := by decide
      refine hx_goi (hx_runV (As := [.int (61 : Int32)]) (rest := []) ⟨hx, hb, hml, hown, hts⟩ hW (gx.S hM) tt_6 (T := TX6) (N := 7) rfl (t_X6_isByte l dC dI dA L_13 h_14 H.size x (61 : Int32) hT (gx.S hM) fv_6 ffv_6 qt (gqt.S hM) ((hM.o gx trivial rfl).2.trans f_x_0)) (cwV 1 hts (hx_gV kw_569 kw_566 kw_568 kw_15 kw_95) rfl rfl rfl (by decide +kernel) ⟨Nat.le_of_ble_eq_true rfl, Nat.le_of_ble_eq_true rfl⟩) rfl hl.1 rfl (Nat.le_of_ble_eq_true rfl) dX6_readSign_49 ⟨Nat.le_of_ble_eq_true rfl, Nat.le_of_ble_eq_true rfl⟩) hW (fun r_22 L_20 h_21 H locs p_23 hW => ?_)
      obtain ⟨hr_24, hT, hs⟩ := p_23
      replace hT : hx_T T_tb L_20 h_21 := hT
      replace hs : hx_S T_tb [] L_13 h_14 L_20 h_21 := hs
      replace ffv_6 := (hs.o (gx.S hM) trivial rfl).1.trans ffv_6
      replace hM := hM.tr (hs.mono (by decide))
      refine hb_if_eq (zx := r_22.toInt) (tgt := 69) hx hb rfl dX6_readSign_52 (by decide) (fun c_25 => ?_) (fun c_25 => ?_)
      · skip
        refine lv_iload_n hx hb dX6_readSign_69 rfl (lv_at hl 0 rfl) ?_
        exact hx_reti hx hb hr hlk hW ⟨trivial, hT, hM⟩ dX6_readSign_70
      · skip
        refine lv_aload_n hx hb dX6_readSign_55 rfl (lv_at hl 1 rfl) ?_
        refine lv_dup hx hb dX6_readSign_56 rfl ?_
        refine hk_geti hx hb hts hC_6 hown hW (gx.S hM) tt_6 2 (by decide) rfl kw_127 ⟨rfl, rfl, rfl⟩ ffv_6 dX6_readSign_57 ?_
        refine lv_iconst (v := 1) hx hb dX6_readSign_60 (by decide) ?_
        refine lv_iadd hx hb dX6_readSign_61 ?_
        have rg_26 := i32_r fv_6
        refine lv_topi (fun x_27 ex_27 => ?_)
        have zx_27 : x_27.toInt = fv_6.toInt + 1 := by rw [ex_27]; exact i32_add rfl (by decide) (by omega) (by omega)
        refine hx_puti hx hb hts hC_6 hown hW hT (hx_S.rf (M := [(6, 2)])) (gx.S hM) tt_6 2 (by decide) rfl kw_127 ⟨rfl, rfl, rfl⟩ rfl (x := x_27) ⟨by omega, by omega⟩ rfl rfl rfl (List.mem_singleton.mpr rfl) dX6_readSign_62 (fun H locs h_28 eh_28 hW hT hs => ?_)
        replace hM := hM.tr (hs.mono (by decide))
        have f_29 : h_28.2.1 x 2 = x_27 := by rw [eh_28]; exact hx_pi_at _ _ _ _
        refine lv_iload_n hx hb dX6_readSign_65 rfl (lv_at hl 0 rfl) ?_
        refine lv_iconst (v := 2) hx hb dX6_readSign_66 (by decide) ?_
        refine lv_ior hx hb dX6_readSign_67 ?_
        refine lv_topi (fun x_30 ex_30 => ?_)
        obtain rfl : x_30 = (2 : Int32) := ex_30.trans (by decide)
        refine lv_istore_n (lv' := [(1, .int (2 : Int32)), (0, .ref x)]) hx hb dX6_readSign_68 rfl hl (by decide) rfl (fun ls hl => ?_)
        refine lv_iload_n hx hb dX6_readSign_69 rfl (lv_at hl 0 rfl) ?_
        exact hx_reti hx hb hr hlk hW ⟨trivial, hT, hM⟩ dX6_readSign_70
    · skip
      refine lv_iconst (v := 4) hx hb dX6_readSign_26 (by decide) ?_
      refine lv_goto (tgt := 31) hx hb dX6_readSign_27 (by decide) ?_
      refine lv_istore_n (lv' := [(1, .int (4 : Int32)), (0, .ref x)]) hx hb dX6_readSign_31 rfl hl (by decide) rfl (fun ls hl => ?_)
      refine lv_iload_n hx hb dX6_readSign_32 rfl (lv_at hl 0 rfl) ?_
      refine hb_if_eq (zx := 4) (tgt := 46) hx hb (by decide) dX6_readSign_33 (by decide) (fun c_31 => absurd c_31 (by decide)) (fun c_31 => ?_)
      refine lv_aload_n hx hb dX6_readSign_36 rfl (lv_at hl 1 rfl) ?_
      refine lv_dup hx hb dX6_readSign_37 rfl ?_
      refine hk_geti hx hb hts hC_6 hown hW (gx.S hM) tt_6 2 (by decide) rfl kw_127 ⟨rfl, rfl, rfl⟩ ffv_6 dX6_readSign_38 ?_
      refine lv_iconst (v := 1) hx hb dX6_readSign_41 (by decide) ?_
      refine lv_iadd hx hb dX6_readSign_42 ?_
      have rg_32 := i32_r fv_6
      refine lv_topi (fun x_33 ex_33 => ?_)
      have zx_33 : x_33.toInt = fv_6.toInt + 1 := by rw [ex_33]; exact i32_add rfl (by decide) (by omega) (by omega)
      refine hx_puti hx hb hts hC_6 hown hW hT (hx_S.rf (M := [(6, 2)])) (gx.S hM) tt_6 2 (by decide) rfl kw_127 ⟨rfl, rfl, rfl⟩ rfl (x := x_33) ⟨by omega, by omega⟩ rfl rfl rfl (List.mem_singleton.mpr rfl) dX6_readSign_43 (fun H locs h_34 eh_34 hW hT hs => ?_)
      replace hM := hM.tr (hs.mono (by decide))
      have f_35 : h_34.2.1 x 2 = x_33 := by rw [eh_34]; exact hx_pi_at _ _ _ _
      refine lv_aload_n hx hb dX6_readSign_46 rfl (lv_at hl 1 rfl) ?_
      refine lv_bipush (v := 61) hx hb dX6_readSign_47 (by decide) ?_
      have zc_61 : (61 : Int32).toInt = 61 := by decide
      refine hx_goi (hx_runV (As := [.int (61 : Int32)]) (rest := []) ⟨hx, hb, hml, hown, hts⟩ hW (gx.S hM) tt_6 (T := TX6) (N := 7) rfl (t_X6_isByte l dC dI dA L_13 h_34 H.size x (61 : Int32) hT (gx.S hM) x_33 f_35 qt (gqt.S hM) ((hM.o gx trivial rfl).2.trans f_x_0)) (cwV 1 hts (hx_gV kw_569 kw_566 kw_568 kw_15 kw_95) rfl rfl rfl (by decide +kernel) ⟨Nat.le_of_ble_eq_true rfl, Nat.le_of_ble_eq_true rfl⟩) rfl hl.1 rfl (Nat.le_of_ble_eq_true rfl) dX6_readSign_49 ⟨Nat.le_of_ble_eq_true rfl, Nat.le_of_ble_eq_true rfl⟩) hW (fun r_38 L_36 h_37 H locs p_39 hW => ?_)
      obtain ⟨hr_40, hT, hs⟩ := p_39
      replace hT : hx_T T_tb L_36 h_37 := hT
      replace hs : hx_S T_tb [] L_13 h_34 L_36 h_37 := hs
      replace f_35 := (hs.o (gx.S hM) trivial rfl).1.trans f_35
      replace hM := hM.tr (hs.mono (by decide))
      refine hb_if_eq (zx := r_38.toInt) (tgt := 69) hx hb rfl dX6_readSign_52 (by decide) (fun c_41 => ?_) (fun c_41 => ?_)
      · skip
        refine lv_iload_n hx hb dX6_readSign_69 rfl (lv_at hl 0 rfl) ?_
        exact hx_reti hx hb hr hlk hW ⟨trivial, hT, hM⟩ dX6_readSign_70
      · skip
        refine lv_aload_n hx hb dX6_readSign_55 rfl (lv_at hl 1 rfl) ?_
        refine lv_dup hx hb dX6_readSign_56 rfl ?_
        refine hk_geti hx hb hts hC_6 hown hW (gx.S hM) tt_6 2 (by decide) rfl kw_127 ⟨rfl, rfl, rfl⟩ f_35 dX6_readSign_57 ?_
        refine lv_iconst (v := 1) hx hb dX6_readSign_60 (by decide) ?_
        refine lv_iadd hx hb dX6_readSign_61 ?_
        have rg_42 := i32_r x_33
        refine lv_topi (fun x_43 ex_43 => ?_)
        have zx_43 : x_43.toInt = x_33.toInt + 1 := by rw [ex_43]; exact i32_add rfl (by decide) (by omega) (by omega)
        refine hx_puti hx hb hts hC_6 hown hW hT (hx_S.rf (M := [(6, 2)])) (gx.S hM) tt_6 2 (by decide) rfl kw_127 ⟨rfl, rfl, rfl⟩ rfl (x := x_43) ⟨by omega, by omega⟩ rfl rfl rfl (List.mem_singleton.mpr rfl) dX6_readSign_62 (fun H locs h_44 eh_44 hW hT hs => ?_)
        replace hM := hM.tr (hs.mono (by decide))
        have f_45 : h_44.2.1 x 2 = x_43 := by rw [eh_44]; exact hx_pi_at _ _ _ _
        refine lv_iload_n hx hb dX6_readSign_65 rfl (lv_at hl 0 rfl) ?_
        refine lv_iconst (v := 2) hx hb dX6_readSign_66 (by decide) ?_
        refine lv_ior hx hb dX6_readSign_67 ?_
        refine lv_topi (fun x_46 ex_46 => ?_)
        obtain rfl : x_46 = (6 : Int32) := ex_46.trans (by decide)
        refine lv_istore_n (lv' := [(1, .int (6 : Int32)), (0, .ref x)]) hx hb dX6_readSign_68 rfl hl (by decide) rfl (fun ls hl => ?_)
        refine lv_iload_n hx hb dX6_readSign_69 rfl (lv_at hl 0 rfl) ?_
        exact hx_reti hx hb hr hlk hW ⟨trivial, hT, hM⟩ dX6_readSign_70
  · skip
    refine lv_iconst (v := 1) hx hb dX6_readSign_13 (by decide) ?_
    refine lv_goto (tgt := 31) hx hb dX6_readSign_14 (by decide) ?_
    refine lv_istore_n (lv' := [(1, .int (1 : Int32)), (0, .ref x)]) hx hb dX6_readSign_31 rfl hl (by decide) rfl (fun ls hl => ?_)
    refine lv_iload_n hx hb dX6_readSign_32 rfl (lv_at hl 0 rfl) ?_
    refine hb_if_eq (zx := 1) (tgt := 46) hx hb (by decide) dX6_readSign_33 (by decide) (fun c_47 => absurd c_47 (by decide)) (fun c_47 => ?_)
    refine lv_aload_n hx hb dX6_readSign_36 rfl (lv_at hl 1 rfl) ?_
    refine lv_dup hx hb dX6_readSign_37 rfl ?_
    refine hk_geti hx hb hts hC_6 hown hW (gx.S hM) tt_6 2 (by decide) rfl kw_127 ⟨rfl, rfl, rfl⟩ ffv_6 dX6_readSign_38 ?_
    refine lv_iconst (v := 1) hx hb dX6_readSign_41 (by decide) ?_
    refine lv_iadd hx hb dX6_readSign_42 ?_
    have rg_48 := i32_r fv_6
    refine lv_topi (fun x_49 ex_49 => ?_)
    have zx_49 : x_49.toInt = fv_6.toInt + 1 := by rw [ex_49]; exact i32_add rfl (by decide) (by omega) (by omega)
    refine hx_puti hx hb hts hC_6 hown hW hT (hx_S.rf (M := [(6, 2)])) (gx.S hM) tt_6 2 (by decide) rfl kw_127 ⟨rfl, rfl, rfl⟩ rfl (x := x_49) ⟨by omega, by omega⟩ rfl rfl rfl (List.mem_singleton.mpr rfl) dX6_readSign_43 (fun H locs h_50 eh_50 hW hT hs => ?_)
    replace hM := hM.tr (hs.mono (by decide))
    have f_51 : h_50.2.1 x 2 = x_49 := by rw [eh_50]; exact hx_pi_at _ _ _ _
    refine lv_aload_n hx hb dX6_readSign_46 rfl (lv_at hl 1 rfl) ?_
    refine lv_bipush (v := 61) hx hb dX6_readSign_47 (by decide) ?_
    have zc_61 : (61 : Int32).toInt = 61 := by decide
    refine hx_goi (hx_runV (As := [.int (61 : Int32)]) (rest := []) ⟨hx, hb, hml, hown, hts⟩ hW (gx.S hM) tt_6 (T := TX6) (N := 7) rfl (t_X6_isByte l dC dI dA L_7 h_50 H.size x (61 : Int32) hT (gx.S hM) x_49 f_51 qt (gqt.S hM) ((hM.o gx trivial rfl).2.trans f_x_0)) (cwV 1 hts (hx_gV kw_569 kw_566 kw_568 kw_15 kw_95) rfl rfl rfl (by decide +kernel) ⟨Nat.le_of_ble_eq_true rfl, Nat.le_of_ble_eq_true rfl⟩) rfl hl.1 rfl (Nat.le_of_ble_eq_true rfl) dX6_readSign_49 ⟨Nat.le_of_ble_eq_true rfl, Nat.le_of_ble_eq_true rfl⟩) hW (fun r_54 L_52 h_53 H locs p_55 hW => ?_)
    obtain ⟨hr_56, hT, hs⟩ := p_55
    replace hT : hx_T T_tb L_52 h_53 := hT
    replace hs : hx_S T_tb [] L_7 h_50 L_52 h_53 := hs
    replace f_51 := (hs.o (gx.S hM) trivial rfl).1.trans f_51
    replace hM := hM.tr (hs.mono (by decide))
    refine hb_if_eq (zx := r_54.toInt) (tgt := 69) hx hb rfl dX6_readSign_52 (by decide) (fun c_57 => ?_) (fun c_57 => ?_)
    · skip
      refine lv_iload_n hx hb dX6_readSign_69 rfl (lv_at hl 0 rfl) ?_
      exact hx_reti hx hb hr hlk hW ⟨trivial, hT, hM⟩ dX6_readSign_70
    · skip
      refine lv_aload_n hx hb dX6_readSign_55 rfl (lv_at hl 1 rfl) ?_
      refine lv_dup hx hb dX6_readSign_56 rfl ?_
      refine hk_geti hx hb hts hC_6 hown hW (gx.S hM) tt_6 2 (by decide) rfl kw_127 ⟨rfl, rfl, rfl⟩ f_51 dX6_readSign_57 ?_
      refine lv_iconst (v := 1) hx hb dX6_readSign_60 (by decide) ?_
      refine lv_iadd hx hb dX6_readSign_61 ?_
      have rg_58 := i32_r x_49
      refine lv_topi (fun x_59 ex_59 => ?_)
      have zx_59 : x_59.toInt = x_49.toInt + 1 := by rw [ex_59]; exact i32_add rfl (by decide) (by omega) (by omega)
      refine hx_puti hx hb hts hC_6 hown hW hT (hx_S.rf (M := [(6, 2)])) (gx.S hM) tt_6 2 (by decide) rfl kw_127 ⟨rfl, rfl, rfl⟩ rfl (x := x_59) ⟨by omega, by omega⟩ rfl rfl rfl (List.mem_singleton.mpr rfl) dX6_readSign_62 (fun H locs h_60 eh_60 hW hT hs => ?_)
      replace hM := hM.tr (hs.mono (by decide))
      have f_61 : h_60.2.1 x 2 = x_59 := by rw [eh_60]; exact hx_pi_at _ _ _ _
      refine lv_iload_n hx hb dX6_readSign_65 rfl (lv_at hl 0 rfl) ?_
      refine lv_iconst (v := 2) hx hb dX6_readSign_66 (by decide) ?_
      refine lv_ior hx hb dX6_readSign_67 ?_
      refine lv_topi (fun x_62 ex_62 => ?_)
      obtain rfl : x_62 = (3 : Int32) := ex_62.trans (by decide)
      refine lv_istore_n (lv' := [(1, .int (3 : Int32)), (0, .ref x)]) hx hb dX6_readSign_68 rfl hl (by decide) rfl (fun ls hl => ?_)
      refine lv_iload_n hx hb dX6_readSign_69 rfl (lv_at hl 0 rfl) ?_
      exact hx_reti hx hb hr hlk hW ⟨trivial, hT, hM⟩ dX6_readSign_70

def wLX6_readTold_0 : List Nat := [42, 182, 0, 35, 42, 180, 0, 19, 61, 42, 42, 180, 0, 19, 182, 0, 75, 154, 0, 10, 42, 28, 3, 182, 0, 45, 172, 42, 182, 0, 78, 62, 29, 178, 0, 82, 27, 46, 161, 0, 12, 29, 178, 0, 86, 27, 46, 164, 0, 10, 42, 28, 4, 182, 0, 45, 172, 42, 180, 0, 31, 180, 0, 89]
def wLX6_readTold_1 : List Nat := [27, 29, 79, 4, 172]
theorem wX6_readTold_0 : (cX6_readTold.data.toList.map UInt8.toNat).drop 0 = wLX6_readTold_0 ++ (wLX6_readTold_1 ++ ([])) := by decide +kernel
theorem wX6_readTold_1 : (cX6_readTold.data.toList.map UInt8.toNat).drop 64 = wLX6_readTold_1 ++ ([]) := hz_wn wX6_readTold_0 rfl
theorem dX6_readTold_0 : decode cX6_readTold 0 = .ok (.aload_n 0, 1) := dq_42 (hz_wg wX6_readTold_0 (j := 0) (n := 42) rfl)
theorem dX6_readTold_1 : decode cX6_readTold 1 = .ok (.invokevirtual 35, 3) := dq_182 (hz_wg wX6_readTold_0 (j := 1) (n := 182) rfl) (hz_wg wX6_readTold_0 (j := 2) (n := 0) rfl) (hz_wg wX6_readTold_0 (j := 3) (n := 35) rfl) rfl
theorem dX6_readTold_4 : decode cX6_readTold 4 = .ok (.aload_n 0, 1) := dq_42 (hz_wg wX6_readTold_0 (j := 4) (n := 42) rfl)
theorem dX6_readTold_5 : decode cX6_readTold 5 = .ok (.getfield 19, 3) := dq_180 (hz_wg wX6_readTold_0 (j := 5) (n := 180) rfl) (hz_wg wX6_readTold_0 (j := 6) (n := 0) rfl) (hz_wg wX6_readTold_0 (j := 7) (n := 19) rfl) rfl
theorem dX6_readTold_8 : decode cX6_readTold 8 = .ok (.istore_n 2, 1) := dq_61 (hz_wg wX6_readTold_0 (j := 8) (n := 61) rfl)
theorem dX6_readTold_9 : decode cX6_readTold 9 = .ok (.aload_n 0, 1) := dq_42 (hz_wg wX6_readTold_0 (j := 9) (n := 42) rfl)
theorem dX6_readTold_10 : decode cX6_readTold 10 = .ok (.aload_n 0, 1) := dq_42 (hz_wg wX6_readTold_0 (j := 10) (n := 42) rfl)
theorem dX6_readTold_11 : decode cX6_readTold 11 = .ok (.getfield 19, 3) := dq_180 (hz_wg wX6_readTold_0 (j := 11) (n := 180) rfl) (hz_wg wX6_readTold_0 (j := 12) (n := 0) rfl) (hz_wg wX6_readTold_0 (j := 13) (n := 19) rfl) rfl
theorem dX6_readTold_14 : decode cX6_readTold 14 = .ok (.invokevirtual 75, 3) := dq_182 (hz_wg wX6_readTold_0 (j := 14) (n := 182) rfl) (hz_wg wX6_readTold_0 (j := 15) (n := 0) rfl) (hz_wg wX6_readTold_0 (j := 16) (n := 75) rfl) rfl
theorem dX6_readTold_17 : decode cX6_readTold 17 = .ok (.ifCond .ne 10, 3) := dq_154 (hz_wg wX6_readTold_0 (j := 17) (n := 154) rfl) (hz_wg wX6_readTold_0 (j := 18) (n := 0) rfl) (hz_wg wX6_readTold_0 (j := 19) (n := 10) rfl) (by decide)
theorem dX6_readTold_20 : decode cX6_readTold 20 = .ok (.aload_n 0, 1) := dq_42 (hz_wg wX6_readTold_0 (j := 20) (n := 42) rfl)
theorem dX6_readTold_21 : decode cX6_readTold 21 = .ok (.iload_n 2, 1) := dq_28 (hz_wg wX6_readTold_0 (j := 21) (n := 28) rfl)
theorem dX6_readTold_22 : decode cX6_readTold 22 = .ok (.iconst 0, 1) := dq_3 (hz_wg wX6_readTold_0 (j := 22) (n := 3) rfl)
theorem dX6_readTold_23 : decode cX6_readTold 23 = .ok (.invokevirtual 45, 3) := dq_182 (hz_wg wX6_readTold_0 (j := 23) (n := 182) rfl) (hz_wg wX6_readTold_0 (j := 24) (n := 0) rfl) (hz_wg wX6_readTold_0 (j := 25) (n := 45) rfl) rfl
theorem dX6_readTold_26 : decode cX6_readTold 26 = .ok (.ireturn, 1) := dq_172 (hz_wg wX6_readTold_0 (j := 26) (n := 172) rfl)
theorem dX6_readTold_27 : decode cX6_readTold 27 = .ok (.aload_n 0, 1) := dq_42 (hz_wg wX6_readTold_0 (j := 27) (n := 42) rfl)
theorem dX6_readTold_28 : decode cX6_readTold 28 = .ok (.invokevirtual 78, 3) := dq_182 (hz_wg wX6_readTold_0 (j := 28) (n := 182) rfl) (hz_wg wX6_readTold_0 (j := 29) (n := 0) rfl) (hz_wg wX6_readTold_0 (j := 30) (n := 78) rfl) rfl
theorem dX6_readTold_31 : decode cX6_readTold 31 = .ok (.istore_n 3, 1) := dq_62 (hz_wg wX6_readTold_0 (j := 31) (n := 62) rfl)
theorem dX6_readTold_32 : decode cX6_readTold 32 = .ok (.iload_n 3, 1) := dq_29 (hz_wg wX6_readTold_0 (j := 32) (n := 29) rfl)
theorem dX6_readTold_33 : decode cX6_readTold 33 = .ok (.getstatic 82, 3) := dq_178 (hz_wg wX6_readTold_0 (j := 33) (n := 178) rfl) (hz_wg wX6_readTold_0 (j := 34) (n := 0) rfl) (hz_wg wX6_readTold_0 (j := 35) (n := 82) rfl) rfl
theorem dX6_readTold_36 : decode cX6_readTold 36 = .ok (.iload_n 1, 1) := dq_27 (hz_wg wX6_readTold_0 (j := 36) (n := 27) rfl)
theorem dX6_readTold_37 : decode cX6_readTold 37 = .ok (.iaload, 1) := dq_46 (hz_wg wX6_readTold_0 (j := 37) (n := 46) rfl)
theorem dX6_readTold_38 : decode cX6_readTold 38 = .ok (.if_icmp .lt 12, 3) := dq_161 (hz_wg wX6_readTold_0 (j := 38) (n := 161) rfl) (hz_wg wX6_readTold_0 (j := 39) (n := 0) rfl) (hz_wg wX6_readTold_0 (j := 40) (n := 12) rfl) (by decide)
theorem dX6_readTold_41 : decode cX6_readTold 41 = .ok (.iload_n 3, 1) := dq_29 (hz_wg wX6_readTold_0 (j := 41) (n := 29) rfl)
theorem dX6_readTold_42 : decode cX6_readTold 42 = .ok (.getstatic 86, 3) := dq_178 (hz_wg wX6_readTold_0 (j := 42) (n := 178) rfl) (hz_wg wX6_readTold_0 (j := 43) (n := 0) rfl) (hz_wg wX6_readTold_0 (j := 44) (n := 86) rfl) rfl
theorem dX6_readTold_45 : decode cX6_readTold 45 = .ok (.iload_n 1, 1) := dq_27 (hz_wg wX6_readTold_0 (j := 45) (n := 27) rfl)
theorem dX6_readTold_46 : decode cX6_readTold 46 = .ok (.iaload, 1) := dq_46 (hz_wg wX6_readTold_0 (j := 46) (n := 46) rfl)
theorem dX6_readTold_47 : decode cX6_readTold 47 = .ok (.if_icmp .le 10, 3) := dq_164 (hz_wg wX6_readTold_0 (j := 47) (n := 164) rfl) (hz_wg wX6_readTold_0 (j := 48) (n := 0) rfl) (hz_wg wX6_readTold_0 (j := 49) (n := 10) rfl) (by decide)
theorem dX6_readTold_50 : decode cX6_readTold 50 = .ok (.aload_n 0, 1) := dq_42 (hz_wg wX6_readTold_0 (j := 50) (n := 42) rfl)
theorem dX6_readTold_51 : decode cX6_readTold 51 = .ok (.iload_n 2, 1) := dq_28 (hz_wg wX6_readTold_0 (j := 51) (n := 28) rfl)
theorem dX6_readTold_52 : decode cX6_readTold 52 = .ok (.iconst 1, 1) := dq_4 (hz_wg wX6_readTold_0 (j := 52) (n := 4) rfl)
theorem dX6_readTold_53 : decode cX6_readTold 53 = .ok (.invokevirtual 45, 3) := dq_182 (hz_wg wX6_readTold_0 (j := 53) (n := 182) rfl) (hz_wg wX6_readTold_0 (j := 54) (n := 0) rfl) (hz_wg wX6_readTold_0 (j := 55) (n := 45) rfl) rfl
theorem dX6_readTold_56 : decode cX6_readTold 56 = .ok (.ireturn, 1) := dq_172 (hz_wg wX6_readTold_0 (j := 56) (n := 172) rfl)
theorem dX6_readTold_57 : decode cX6_readTold 57 = .ok (.aload_n 0, 1) := dq_42 (hz_wg wX6_readTold_0 (j := 57) (n := 42) rfl)
theorem dX6_readTold_58 : decode cX6_readTold 58 = .ok (.getfield 31, 3) := dq_180 (hz_wg wX6_readTold_0 (j := 58) (n := 180) rfl) (hz_wg wX6_readTold_0 (j := 59) (n := 0) rfl) (hz_wg wX6_readTold_0 (j := 60) (n := 31) rfl) rfl
theorem dX6_readTold_61 : decode cX6_readTold 61 = .ok (.getfield 89, 3) := dq_180 (hz_wg wX6_readTold_0 (j := 61) (n := 180) rfl) (hz_wg wX6_readTold_0 (j := 62) (n := 0) rfl) (hz_wg wX6_readTold_0 (j := 63) (n := 89) rfl) rfl
theorem dX6_readTold_64 : decode cX6_readTold 64 = .ok (.iload_n 1, 1) := dq_27 (hz_wg wX6_readTold_1 (j := 0) (n := 27) rfl)
theorem dX6_readTold_65 : decode cX6_readTold 65 = .ok (.iload_n 3, 1) := dq_29 (hz_wg wX6_readTold_1 (j := 1) (n := 29) rfl)
theorem dX6_readTold_66 : decode cX6_readTold 66 = .ok (.iastore, 1) := dq_79 (hz_wg wX6_readTold_1 (j := 2) (n := 79) rfl)
theorem dX6_readTold_67 : decode cX6_readTold 67 = .ok (.iconst 1, 1) := dq_4 (hz_wg wX6_readTold_1 (j := 3) (n := 4) rfl)
theorem dX6_readTold_68 : decode cX6_readTold 68 = .ok (.ireturn, 1) := dq_172 (hz_wg wX6_readTold_1 (j := 4) (n := 172) rfl)
set_option maxHeartbeats 4000000 in
set_option maxRecDepth 100000 in
theorem t_X6_readTold (l : Launch) (dC : Nat → ClassId) (dI : Nat → Nat → Nat) (dA : Nat → ClassId) (L : List Nat) (h : hx_h) (sz : Nat) (b0 : hx_z) (x : Nat) (i1 : Int32) (hT : hx_T T_tb L h) (gx : hx_g L h x 6) (hi1 : 0 ≤ i1.toInt ∧ i1.toInt ≤ 13) (qt : Nat) (gqt : hx_g L h qt 42) (f_x_0 : h.2.2 x 0 = some qt) (qi : Nat) (gqi : hx_g L h qi 0) (f_x_6 : h.2.2 x 6 = some qi) : Met l yX6_readTold (Cond.code yX6_readTold cX6_readTold 4 (some .boolean) :: hx_all) ({ frames := 2, cells := 0, slots := 0, locals := 43 }) (va_Pc [.ref x, .int i1] (hx_BX T_tb (P_ty dA) (dC, dI) vwCl L h sz b0)) (va_Qi (fun (r : Int32) (u : List Nat × hx_h) => (r.toInt = 0 ∨ r.toInt = 1) ∧ hx_T T_tb u.1 u.2 ∧ hx_S T_tb [(6, 2), (6, 3), (11, 0)] L h u.1 u.2) (hx_E T_tb (P_ty dA) (dC, dI) vwCl (hx_A L sz)) (hx_A L sz)) 0 0 (hx_A L sz) := by
  refine hx_metX (lv := [(0, .ref x), (1, .int i1)]) (by decide +kernel) rfl (Nat.le_of_ble_eq_true rfl) rfl ?_
  intro p e s m below meth c hx hb hml hr hlk hts0 hown hin hsz hW hZ ls hl
  have hts : ∀ w ∈ hx_all, w.before _ s = true := fun w hw => hts0 w (List.mem_cons_of_mem _ hw)
  have hown : s.vm.findClass "SmallCourt$Reader" = some m.cls := hown
  have hM : hx_S T_tb [(6, 2), (6, 3), (11, 0)] L h L h := hx_S.rf
  obtain ⟨zLT, zLA, zMT, zMA, zCS, zSF, zVS, zVR⟩ := hZ.2.2.2.2.2.2
  refine lv_aload_n hx hb dX6_readTold_0 rfl (lv_at hl 0 rfl) ?_
  refine hx_gov (hx_runV (As := []) (rest := []) ⟨hx, hb, hml, hown, hts⟩ hW (gx.S hM) tt_6 (T := TX6) (N := 7) rfl (t_X6_skipBlanks l dC dI dA L h s.heap.size x hT (gx.S hM) qt (gqt.S hM) ((hM.o gx trivial rfl).2.trans f_x_0)) (cwV 0 hts (hx_gV kw_458 kw_455 kw_457 kw_1 kw_95) rfl rfl rfl (by decide +kernel) ⟨Nat.le_of_ble_eq_true rfl, Nat.le_of_ble_eq_true rfl⟩) rfl hl.1 rfl (Nat.le_of_ble_eq_true rfl) dX6_readTold_1 ⟨Nat.le_of_ble_eq_true rfl, Nat.le_of_ble_eq_true rfl⟩) hW (fun L_1 h_2 H locs p_4 hW => ?_)
  obtain ⟨hT, hs⟩ := p_4
  replace hT : hx_T T_tb L_1 h_2 := hT
  replace hs : hx_S T_tb [(6, 2)] L h L_1 h_2 := hs
  replace hM := hM.tr (hs.mono (by decide))
  refine lv_aload_n hx hb dX6_readTold_4 rfl (lv_at hl 0 rfl) ?_
  refine hx_geti hx hb hts hC_6 hown hW hT (gx.S hM) tt_6 2 (by decide) rfl kw_127 ⟨rfl, rfl, rfl⟩ dX6_readTold_5 (fun x_6 ex_6 lx_6 ux_6 => ?_)
  have fx_6 := ex_6.symm
  refine lv_istore_n (lv' := [(2, .int x_6), (0, .ref x), (1, .int i1)]) hx hb dX6_readTold_8 rfl hl (by decide) rfl (fun ls hl => ?_)
  refine lv_aload_n hx hb dX6_readTold_9 rfl (lv_at hl 1 rfl) ?_
  refine lv_aload_n hx hb dX6_readTold_10 rfl (lv_at hl 1 rfl) ?_
  refine hk_geti hx hb hts hC_6 hown hW (gx.S hM) tt_6 2 (by decide) rfl kw_127 ⟨rfl, rfl, rfl⟩ fx_6 dX6_readTold_11 ?_
  refine hx_goi (hx_runV (As := [.int x_6]) (rest := []) ⟨hx, hb, hml, hown, hts⟩ hW (gx.S hM) tt_6 (T := TX6) (N := 7) rfl (t_X6_isDigit l dC dI dA L_1 h_2 H.size x x_6 hT (gx.S hM) (by omega) qt (gqt.S hM) ((hM.o gx trivial rfl).2.trans f_x_0)) (cwV 1 hts (hx_gV kw_544 kw_541 kw_543 kw_10 kw_95) rfl rfl rfl (by decide +kernel) ⟨Nat.le_of_ble_eq_true rfl, Nat.le_of_ble_eq_true rfl⟩) rfl hl.1 rfl (Nat.le_of_ble_eq_true rfl) dX6_readTold_14 ⟨Nat.le_of_ble_eq_true rfl, Nat.le_of_ble_eq_true rfl⟩) hW (fun r_9 L_7 h_8 H locs p_10 hW => ?_)
  obtain ⟨hr_11, hT, hs⟩ := p_10
  replace hT : hx_T T_tb L_7 h_8 := hT
  replace hs : hx_S T_tb [] L_1 h_2 L_7 h_8 := hs
  replace fx_6 := (hs.o (gx.S hM) trivial rfl).1.trans fx_6
  replace hM := hM.tr (hs.mono (by decide))
  refine hb_if_ne (zx := r_9.toInt) (tgt := 27) hx hb rfl dX6_readTold_17 (by decide) (fun c_12 => ?_) (fun c_12 => ?_)
  · skip
    refine lv_aload_n hx hb dX6_readTold_27 rfl (lv_at hl 1 rfl) ?_
    refine hx_goi (hx_runV (As := []) (rest := []) ⟨hx, hb, hml, hown, hts⟩ hW (gx.S hM) tt_6 (T := TX6) (N := 7) rfl (t_X6_readNumber l dC dI dA L_7 h_8 H.size x hT (gx.S hM) qt (gqt.S hM) ((hM.o gx trivial rfl).2.trans f_x_0)) (cwV 0 hts (hx_gV kw_548 kw_545 kw_547 kw_11 kw_95) rfl rfl rfl (by decide +kernel) ⟨Nat.le_of_ble_eq_true rfl, Nat.le_of_ble_eq_true rfl⟩) rfl hl.1 rfl (Nat.le_of_ble_eq_true rfl) dX6_readTold_28 ⟨Nat.le_of_ble_eq_true rfl, Nat.le_of_ble_eq_true rfl⟩) hW (fun r_15 L_13 h_14 H locs p_16 hW => ?_)
    obtain ⟨hr_17, hT, hs⟩ := p_16
    replace hT : hx_T T_tb L_13 h_14 := hT
    replace hs : hx_S T_tb [(6, 2)] L_7 h_8 L_13 h_14 := hs
    replace hM := hM.tr (hs.mono (by decide))
    refine lv_istore_n (lv' := [(3, .int r_15), (2, .int x_6), (0, .ref x), (1, .int i1)]) hx hb dX6_readTold_31 rfl hl (by decide) rfl (fun ls hl => ?_)
    refine lv_iload_n hx hb dX6_readTold_32 rfl (lv_at hl 0 rfl) ?_
    refine va_getsN hx hb zLT hW.2.2.2.1 hown (va_Nw.use rfl (hZ.1 _ (List.mem_of_getElem? (i := 7) rfl))) (fun _ h9 => h9) dX6_readTold_33 ?_
    refine lv_iload_n hx hb dX6_readTold_36 rfl (lv_at hl 3 rfl) ?_
    refine va_ti hx hb zLA hW.2.2.2.1 (vp_in_iff.mpr ⟨by omega, by omega⟩) rfl dX6_readTold_37 ?_
    refine lv_topi (fun x_18 ex_18 => ?_)
    refine hb_icmp_lt (zx := r_15.toInt) (zy := x_18.toInt) (tgt := 50) hx hb rfl rfl dX6_readTold_38 (by decide) (fun c_19 => ?_) (fun c_19 => ?_)
    · skip
      refine lv_aload_n hx hb dX6_readTold_50 rfl (lv_at hl 2 rfl) ?_
      refine lv_iload_n hx hb dX6_readTold_51 rfl (lv_at hl 1 rfl) ?_
      refine lv_iconst (v := 1) hx hb dX6_readTold_52 (by decide) ?_
      have zc_1 : (1 : Int32).toInt = 1 := by decide
      refine hx_goi (hx_runV (As := [.int x_6, .int (1 : Int32)]) (rest := []) ⟨hx, hb, hml, hown, hts⟩ hW (gx.S hM) tt_6 (T := TX6) (N := 7) rfl (t_X6_refuse l dC dI dA L_13 h_14 H.size x x_6 (1 : Int32) hT (gx.S hM)) (cwV 2 hts (hx_gV kw_527 kw_524 kw_526 kw_6 kw_95) rfl rfl rfl (by decide +kernel) ⟨Nat.le_of_ble_eq_true rfl, Nat.le_of_ble_eq_true rfl⟩) rfl hl.1 rfl (Nat.le_of_ble_eq_true rfl) dX6_readTold_53 ⟨Nat.le_of_ble_eq_true rfl, Nat.le_of_ble_eq_true rfl⟩) hW (fun r_22 L_20 h_21 H locs p_23 hW => ?_)
      obtain ⟨hr_24, hT, hs⟩ := p_23
      replace hT : hx_T T_tb L_20 h_21 := hT
      replace hs : hx_S T_tb [(6, 3)] L_13 h_14 L_20 h_21 := hs
      replace hM := hM.tr (hs.mono (by decide))
      exact hx_retz hx hb hr (hx_nar01 (by omega)) hlk hW ⟨(by omega), hT, hM⟩ dX6_readTold_56
    · skip
      refine lv_iload_n hx hb dX6_readTold_41 rfl (lv_at hl 0 rfl) ?_
      refine va_getsN hx hb zMT hW.2.2.2.1 hown (va_Nw.use rfl (hZ.1 _ (List.mem_of_getElem? (i := 8) rfl))) (fun _ h9 => h9) dX6_readTold_42 ?_
      refine lv_iload_n hx hb dX6_readTold_45 rfl (lv_at hl 3 rfl) ?_
      refine va_ti hx hb zMA hW.2.2.2.1 (vp_in_iff.mpr ⟨by omega, by omega⟩) rfl dX6_readTold_46 ?_
      refine lv_topi (fun x_25 ex_25 => ?_)
      refine hb_icmp_le (zx := r_15.toInt) (zy := x_25.toInt) (tgt := 57) hx hb rfl rfl dX6_readTold_47 (by decide) (fun c_26 => ?_) (fun c_26 => ?_)
      · skip
        refine lv_aload_n hx hb dX6_readTold_57 rfl (lv_at hl 2 rfl) ?_
        refine hk_getr hx hb hts hC_6 hown hW (gx.S hM) tt_6 6 (by decide) rfl kw_131 ⟨rfl, rfl, rfl⟩ ((hM.o gx trivial rfl).2.trans f_x_6) dX6_readTold_58 ?_
        refine hx_getn hx hb hts hC_0 hown hW hT (gqi.S hM) tt_0 2 (by decide) rfl kw_171 ⟨rfl, rfl, rfl⟩ dX6_readTold_61 (fun q_27 fq_27 gq_27 => ?_)
        refine lv_iload_n hx hb dX6_readTold_64 rfl (lv_at hl 3 rfl) ?_
        refine lv_iload_n hx hb dX6_readTold_65 rfl (lv_at hl 0 rfl) ?_
        refine hx_iast hx hb hW hT (hx_S.rf (M := [(11, 0)])) gq_27 tt_11 rfl ⟨by omega, by omega⟩ rfl (i32_r _) (List.mem_singleton.mpr rfl) dX6_readTold_66 (fun H locs h_28 eh_28 hW hT hs => ?_)
        replace fq_27 := (hs.o (gqi.S hM) trivial rfl).2.trans fq_27
        replace hM := hM.tr (hs.mono (by decide))
        replace gq_27 := gq_27.S hs
        refine lv_iconst (v := 1) hx hb dX6_readTold_67 (by decide) ?_
        exact hx_retz hx hb hr rfl hlk hW ⟨(by decide), hT, hM⟩ dX6_readTold_68
      · skip
        refine lv_aload_n hx hb dX6_readTold_50 rfl (lv_at hl 2 rfl) ?_
        refine lv_iload_n hx hb dX6_readTold_51 rfl (lv_at hl 1 rfl) ?_
        refine lv_iconst (v := 1) hx hb dX6_readTold_52 (by decide) ?_
        have zc_1 : (1 : Int32).toInt = 1 := by decide
        refine hx_goi (hx_runV (As := [.int x_6, .int (1 : Int32)]) (rest := []) ⟨hx, hb, hml, hown, hts⟩ hW (gx.S hM) tt_6 (T := TX6) (N := 7) rfl (t_X6_refuse l dC dI dA L_13 h_14 H.size x x_6 (1 : Int32) hT (gx.S hM)) (cwV 2 hts (hx_gV kw_527 kw_524 kw_526 kw_6 kw_95) rfl rfl rfl (by decide +kernel) ⟨Nat.le_of_ble_eq_true rfl, Nat.le_of_ble_eq_true rfl⟩) rfl hl.1 rfl (Nat.le_of_ble_eq_true rfl) dX6_readTold_53 ⟨Nat.le_of_ble_eq_true rfl, Nat.le_of_ble_eq_true rfl⟩) hW (fun r_31 L_29 h_30 H locs p_32 hW => ?_)
        obtain ⟨hr_33, hT, hs⟩ := p_32
        replace hT : hx_T T_tb L_29 h_30 := hT
        replace hs : hx_S T_tb [(6, 3)] L_13 h_14 L_29 h_30 := hs
        replace hM := hM.tr (hs.mono (by decide))
        exact hx_retz hx hb hr (hx_nar01 (by omega)) hlk hW ⟨(by omega), hT, hM⟩ dX6_readTold_56
  · skip
    refine lv_aload_n hx hb dX6_readTold_20 rfl (lv_at hl 1 rfl) ?_
    refine lv_iload_n hx hb dX6_readTold_21 rfl (lv_at hl 0 rfl) ?_
    refine lv_iconst (v := 0) hx hb dX6_readTold_22 (by decide) ?_
    have zc_0 : (0 : Int32).toInt = 0 := by decide
    refine hx_goi (hx_runV (As := [.int x_6, .int (0 : Int32)]) (rest := []) ⟨hx, hb, hml, hown, hts⟩ hW (gx.S hM) tt_6 (T := TX6) (N := 7) rfl (t_X6_refuse l dC dI dA L_7 h_8 H.size x x_6 (0 : Int32) hT (gx.S hM)) (cwV 2 hts (hx_gV kw_527 kw_524 kw_526 kw_6 kw_95) rfl rfl rfl (by decide +kernel) ⟨Nat.le_of_ble_eq_true rfl, Nat.le_of_ble_eq_true rfl⟩) rfl hl.1 rfl (Nat.le_of_ble_eq_true rfl) dX6_readTold_23 ⟨Nat.le_of_ble_eq_true rfl, Nat.le_of_ble_eq_true rfl⟩) hW (fun r_36 L_34 h_35 H locs p_37 hW => ?_)
    obtain ⟨hr_38, hT, hs⟩ := p_37
    replace hT : hx_T T_tb L_34 h_35 := hT
    replace hs : hx_S T_tb [(6, 3)] L_7 h_8 L_34 h_35 := hs
    replace fx_6 := (hs.o (gx.S hM) trivial rfl).1.trans fx_6
    replace hM := hM.tr (hs.mono (by decide))
    exact hx_retz hx hb hr (hx_nar01 (by omega)) hlk hW ⟨(by omega), hT, hM⟩ dX6_readTold_26

def wLX6_readCost_0 : List Nat := [42, 182, 0, 35, 42, 180, 0, 19, 60, 42, 18, 73, 182, 0, 51, 61, 28, 156, 0, 10, 42, 27, 3, 182, 0, 45, 172, 42, 16, 10, 28, 96, 27, 182, 0, 63, 153, 0, 18, 42, 16, 10, 28, 96, 182, 0, 70, 153, 0, 7, 4, 167, 0, 4, 3, 172]
theorem wX6_readCost_0 : (cX6_readCost.data.toList.map UInt8.toNat).drop 0 = wLX6_readCost_0 ++ ([]) := by decide +kernel
theorem dX6_readCost_0 : decode cX6_readCost 0 = .ok (.aload_n 0, 1) := dq_42 (hz_wg wX6_readCost_0 (j := 0) (n := 42) rfl)
theorem dX6_readCost_1 : decode cX6_readCost 1 = .ok (.invokevirtual 35, 3) := dq_182 (hz_wg wX6_readCost_0 (j := 1) (n := 182) rfl) (hz_wg wX6_readCost_0 (j := 2) (n := 0) rfl) (hz_wg wX6_readCost_0 (j := 3) (n := 35) rfl) rfl
theorem dX6_readCost_4 : decode cX6_readCost 4 = .ok (.aload_n 0, 1) := dq_42 (hz_wg wX6_readCost_0 (j := 4) (n := 42) rfl)
theorem dX6_readCost_5 : decode cX6_readCost 5 = .ok (.getfield 19, 3) := dq_180 (hz_wg wX6_readCost_0 (j := 5) (n := 180) rfl) (hz_wg wX6_readCost_0 (j := 6) (n := 0) rfl) (hz_wg wX6_readCost_0 (j := 7) (n := 19) rfl) rfl
theorem dX6_readCost_8 : decode cX6_readCost 8 = .ok (.istore_n 1, 1) := dq_60 (hz_wg wX6_readCost_0 (j := 8) (n := 60) rfl)
theorem dX6_readCost_9 : decode cX6_readCost 9 = .ok (.aload_n 0, 1) := dq_42 (hz_wg wX6_readCost_0 (j := 9) (n := 42) rfl)
theorem dX6_readCost_10 : decode cX6_readCost 10 = .ok (.ldc 73, 2) := dq_18 (hz_wg wX6_readCost_0 (j := 10) (n := 18) rfl) (hz_wg wX6_readCost_0 (j := 11) (n := 73) rfl)
theorem dX6_readCost_12 : decode cX6_readCost 12 = .ok (.invokevirtual 51, 3) := dq_182 (hz_wg wX6_readCost_0 (j := 12) (n := 182) rfl) (hz_wg wX6_readCost_0 (j := 13) (n := 0) rfl) (hz_wg wX6_readCost_0 (j := 14) (n := 51) rfl) rfl
theorem dX6_readCost_15 : decode cX6_readCost 15 = .ok (.istore_n 2, 1) := dq_61 (hz_wg wX6_readCost_0 (j := 15) (n := 61) rfl)
theorem dX6_readCost_16 : decode cX6_readCost 16 = .ok (.iload_n 2, 1) := dq_28 (hz_wg wX6_readCost_0 (j := 16) (n := 28) rfl)
theorem dX6_readCost_17 : decode cX6_readCost 17 = .ok (.ifCond .ge 10, 3) := dq_156 (hz_wg wX6_readCost_0 (j := 17) (n := 156) rfl) (hz_wg wX6_readCost_0 (j := 18) (n := 0) rfl) (hz_wg wX6_readCost_0 (j := 19) (n := 10) rfl) (by decide)
theorem dX6_readCost_20 : decode cX6_readCost 20 = .ok (.aload_n 0, 1) := dq_42 (hz_wg wX6_readCost_0 (j := 20) (n := 42) rfl)
theorem dX6_readCost_21 : decode cX6_readCost 21 = .ok (.iload_n 1, 1) := dq_27 (hz_wg wX6_readCost_0 (j := 21) (n := 27) rfl)
theorem dX6_readCost_22 : decode cX6_readCost 22 = .ok (.iconst 0, 1) := dq_3 (hz_wg wX6_readCost_0 (j := 22) (n := 3) rfl)
theorem dX6_readCost_23 : decode cX6_readCost 23 = .ok (.invokevirtual 45, 3) := dq_182 (hz_wg wX6_readCost_0 (j := 23) (n := 182) rfl) (hz_wg wX6_readCost_0 (j := 24) (n := 0) rfl) (hz_wg wX6_readCost_0 (j := 25) (n := 45) rfl) rfl
theorem dX6_readCost_26 : decode cX6_readCost 26 = .ok (.ireturn, 1) := dq_172 (hz_wg wX6_readCost_0 (j := 26) (n := 172) rfl)
theorem dX6_readCost_27 : decode cX6_readCost 27 = .ok (.aload_n 0, 1) := dq_42 (hz_wg wX6_readCost_0 (j := 27) (n := 42) rfl)
theorem dX6_readCost_28 : decode cX6_readCost 28 = .ok (.bipush 10, 2) := dq_16 (hz_wg wX6_readCost_0 (j := 28) (n := 16) rfl) (hz_wg wX6_readCost_0 (j := 29) (n := 10) rfl) (by decide)
theorem dX6_readCost_30 : decode cX6_readCost 30 = .ok (.iload_n 2, 1) := dq_28 (hz_wg wX6_readCost_0 (j := 30) (n := 28) rfl)
theorem dX6_readCost_31 : decode cX6_readCost 31 = .ok (.iadd, 1) := dq_96 (hz_wg wX6_readCost_0 (j := 31) (n := 96) rfl)
theorem dX6_readCost_32 : decode cX6_readCost 32 = .ok (.iload_n 1, 1) := dq_27 (hz_wg wX6_readCost_0 (j := 32) (n := 27) rfl)
theorem dX6_readCost_33 : decode cX6_readCost 33 = .ok (.invokevirtual 63, 3) := dq_182 (hz_wg wX6_readCost_0 (j := 33) (n := 182) rfl) (hz_wg wX6_readCost_0 (j := 34) (n := 0) rfl) (hz_wg wX6_readCost_0 (j := 35) (n := 63) rfl) rfl
theorem dX6_readCost_36 : decode cX6_readCost 36 = .ok (.ifCond .eq 18, 3) := dq_153 (hz_wg wX6_readCost_0 (j := 36) (n := 153) rfl) (hz_wg wX6_readCost_0 (j := 37) (n := 0) rfl) (hz_wg wX6_readCost_0 (j := 38) (n := 18) rfl) (by decide)
theorem dX6_readCost_39 : decode cX6_readCost 39 = .ok (.aload_n 0, 1) := dq_42 (hz_wg wX6_readCost_0 (j := 39) (n := 42) rfl)
theorem dX6_readCost_40 : decode cX6_readCost 40 = .ok (.bipush 10, 2) := dq_16 (hz_wg wX6_readCost_0 (j := 40) (n := 16) rfl) (hz_wg wX6_readCost_0 (j := 41) (n := 10) rfl) (by decide)
theorem dX6_readCost_42 : decode cX6_readCost 42 = .ok (.iload_n 2, 1) := dq_28 (hz_wg wX6_readCost_0 (j := 42) (n := 28) rfl)
theorem dX6_readCost_43 : decode cX6_readCost 43 = .ok (.iadd, 1) := dq_96 (hz_wg wX6_readCost_0 (j := 43) (n := 96) rfl)
theorem dX6_readCost_44 : decode cX6_readCost 44 = .ok (.invokevirtual 70, 3) := dq_182 (hz_wg wX6_readCost_0 (j := 44) (n := 182) rfl) (hz_wg wX6_readCost_0 (j := 45) (n := 0) rfl) (hz_wg wX6_readCost_0 (j := 46) (n := 70) rfl) rfl
theorem dX6_readCost_47 : decode cX6_readCost 47 = .ok (.ifCond .eq 7, 3) := dq_153 (hz_wg wX6_readCost_0 (j := 47) (n := 153) rfl) (hz_wg wX6_readCost_0 (j := 48) (n := 0) rfl) (hz_wg wX6_readCost_0 (j := 49) (n := 7) rfl) (by decide)
theorem dX6_readCost_50 : decode cX6_readCost 50 = .ok (.iconst 1, 1) := dq_4 (hz_wg wX6_readCost_0 (j := 50) (n := 4) rfl)
theorem dX6_readCost_51 : decode cX6_readCost 51 = .ok (.goto 4, 3) := dq_167 (hz_wg wX6_readCost_0 (j := 51) (n := 167) rfl) (hz_wg wX6_readCost_0 (j := 52) (n := 0) rfl) (hz_wg wX6_readCost_0 (j := 53) (n := 4) rfl) (by decide)
theorem dX6_readCost_54 : decode cX6_readCost 54 = .ok (.iconst 0, 1) := dq_3 (hz_wg wX6_readCost_0 (j := 54) (n := 3) rfl)
theorem dX6_readCost_55 : decode cX6_readCost 55 = .ok (.ireturn, 1) := dq_172 (hz_wg wX6_readCost_0 (j := 55) (n := 172) rfl)
set_option maxHeartbeats 4000000 in
set_option maxRecDepth 100000 in
theorem t_X6_readCost (l : Launch) (dC : Nat → ClassId) (dI : Nat → Nat → Nat) (dA : Nat → ClassId) (L : List Nat) (h : hx_h) (sz : Nat) (b0 : hx_z) (x : Nat) (hT : hx_T T_tb L h) (gx : hx_g L h x 6) (qt : Nat) (gqt : hx_g L h qt 42) (f_x_0 : h.2.2 x 0 = some qt) (qi : Nat) (gqi : hx_g L h qi 0) (f_x_6 : h.2.2 x 6 = some qi) : Met l yX6_readCost (Cond.code yX6_readCost cX6_readCost 3 (some .boolean) :: hx_all) ({ frames := 6, cells := 0, slots := 0, locals := 133 }) (va_Pc [.ref x] (hx_BX T_tb (P_ty dA) (dC, dI) vwCl L h sz b0)) (va_Qi (fun (r : Int32) (u : List Nat × hx_h) => (r.toInt = 0 ∨ r.toInt = 1) ∧ hx_T T_tb u.1 u.2 ∧ hx_S T_tb [(6, 2), (6, 3), (6, 4), (11, 0)] L h u.1 u.2) (hx_E T_tb (P_ty dA) (dC, dI) vwCl (hx_A L sz)) (hx_A L sz)) 0 0 (hx_A L sz) := by
  refine hx_metX (lv := [(0, .ref x)]) (by decide +kernel) rfl (Nat.le_of_ble_eq_true rfl) rfl ?_
  intro p e s m below meth c hx hb hml hr hlk hts0 hown hin hsz hW hZ ls hl
  have hts : ∀ w ∈ hx_all, w.before _ s = true := fun w hw => hts0 w (List.mem_cons_of_mem _ hw)
  have hown : s.vm.findClass "SmallCourt$Reader" = some m.cls := hown
  have hM : hx_S T_tb [(6, 2), (6, 3), (6, 4), (11, 0)] L h L h := hx_S.rf
  obtain ⟨zLT, zLA, zMT, zMA, zCS, zSF, zVS, zVR⟩ := hZ.2.2.2.2.2.2
  refine lv_aload_n hx hb dX6_readCost_0 rfl (lv_at hl 0 rfl) ?_
  refine hx_gov (hx_runV (As := []) (rest := []) ⟨hx, hb, hml, hown, hts⟩ hW (gx.S hM) tt_6 (T := TX6) (N := 7) rfl (t_X6_skipBlanks l dC dI dA L h s.heap.size x hT (gx.S hM) qt (gqt.S hM) ((hM.o gx trivial rfl).2.trans f_x_0)) (cwV 0 hts (hx_gV kw_458 kw_455 kw_457 kw_1 kw_95) rfl rfl rfl (by decide +kernel) ⟨Nat.le_of_ble_eq_true rfl, Nat.le_of_ble_eq_true rfl⟩) rfl hl.1 rfl (Nat.le_of_ble_eq_true rfl) dX6_readCost_1 ⟨Nat.le_of_ble_eq_true rfl, Nat.le_of_ble_eq_true rfl⟩) hW (fun L_1 h_2 H locs p_4 hW => ?_)
  obtain ⟨hT, hs⟩ := p_4
  replace hT : hx_T T_tb L_1 h_2 := hT
  replace hs : hx_S T_tb [(6, 2)] L h L_1 h_2 := hs
  replace hM := hM.tr (hs.mono (by decide))
  refine lv_aload_n hx hb dX6_readCost_4 rfl (lv_at hl 0 rfl) ?_
  refine hx_geti hx hb hts hC_6 hown hW hT (gx.S hM) tt_6 2 (by decide) rfl kw_127 ⟨rfl, rfl, rfl⟩ dX6_readCost_5 (fun x_6 ex_6 lx_6 ux_6 => ?_)
  have fx_6 := ex_6.symm
  refine lv_istore_n (lv' := [(1, .int x_6), (0, .ref x)]) hx hb dX6_readCost_8 rfl hl (by decide) rfl (fun ls hl => ?_)
  refine lv_aload_n hx hb dX6_readCost_9 rfl (lv_at hl 1 rfl) ?_
  refine va_ldcS (tx := P_st.getD 1 "") hx hb hown (zVR 1 (by decide)) dX6_readCost_10 ?_
  refine hx_goi (hx_runVX (As := [.ref (b0.2.2.2.1 1)]) (rest := []) ⟨hx, hb, hml, hown, hts⟩ hW (gx.S hM) tt_6 (T := TX6) (N := 7) rfl (t_X6_readWord l dC dI dA L_1 h_2 H.size b0 x 1 hT (gx.S hM) (by decide) qt (gqt.S hM) ((hM.o gx trivial rfl).2.trans f_x_0)) hZ (cwV 1 hts (hx_gV kw_467 kw_464 kw_466 kw_3 kw_95) rfl rfl rfl (by decide +kernel) ⟨Nat.le_of_ble_eq_true rfl, Nat.le_of_ble_eq_true rfl⟩) rfl hl.1 rfl (Nat.le_of_ble_eq_true rfl) dX6_readCost_12 ⟨Nat.le_of_ble_eq_true rfl, Nat.le_of_ble_eq_true rfl⟩) hW (fun r_9 L_7 h_8 H locs p_10 hW => ?_)
  obtain ⟨hr_11, hT, hs⟩ := p_10
  replace hT : hx_T T_tb L_7 h_8 := hT
  replace hs : hx_S T_tb [(6, 2)] L_1 h_2 L_7 h_8 := hs
  replace hM := hM.tr (hs.mono (by decide))
  have zl_r_9 : (Int32.ofNat (P_ln.getD 1 0)).toInt = 32 := by decide
  refine lv_istore_n (lv' := [(2, .int r_9), (1, .int x_6), (0, .ref x)]) hx hb dX6_readCost_15 rfl hl (by decide) rfl (fun ls hl => ?_)
  refine lv_iload_n hx hb dX6_readCost_16 rfl (lv_at hl 0 rfl) ?_
  refine hb_if_ge (zx := r_9.toInt) (tgt := 27) hx hb rfl dX6_readCost_17 (by decide) (fun c_12 => ?_) (fun c_12 => ?_)
  · skip
    refine lv_aload_n hx hb dX6_readCost_27 rfl (lv_at hl 2 rfl) ?_
    refine lv_bipush (v := 10) hx hb dX6_readCost_28 (by decide) ?_
    refine lv_iload_n hx hb dX6_readCost_30 rfl (lv_at hl 0 rfl) ?_
    refine lv_iadd hx hb dX6_readCost_31 ?_
    have rg_13 := i32_r r_9
    refine lv_topi (fun x_14 ex_14 => ?_)
    have zx_14 : x_14.toInt = 10 + r_9.toInt := by rw [ex_14]; exact i32_add (by decide) rfl (by omega) (by omega)
    refine lv_iload_n hx hb dX6_readCost_32 rfl (lv_at hl 1 rfl) ?_
    refine hx_goi (hx_runV (As := [.int x_14, .int x_6]) (rest := []) ⟨hx, hb, hml, hown, hts⟩ hW (gx.S hM) tt_6 (T := TX6) (N := 7) rfl (t_X6_tellOnce l dC dI dA L_7 h_8 H.size x x_14 x_6 hT (gx.S hM)) (cwV 2 hts (hx_gV kw_536 kw_533 kw_535 kw_8 kw_95) rfl rfl rfl (by decide +kernel) ⟨Nat.le_of_ble_eq_true rfl, Nat.le_of_ble_eq_true rfl⟩) rfl hl.1 rfl (Nat.le_of_ble_eq_true rfl) dX6_readCost_33 ⟨Nat.le_of_ble_eq_true rfl, Nat.le_of_ble_eq_true rfl⟩) hW (fun r_17 L_15 h_16 H locs p_18 hW => ?_)
    obtain ⟨hr_19, hT, hs⟩ := p_18
    replace hT : hx_T T_tb L_15 h_16 := hT
    replace hs : hx_S T_tb [(6, 3), (6, 4)] L_7 h_8 L_15 h_16 := hs
    replace hM := hM.tr (hs.mono (by decide))
    refine hb_if_eq (zx := r_17.toInt) (tgt := 54) hx hb rfl dX6_readCost_36 (by decide) (fun c_20 => ?_) (fun c_20 => ?_)
    · skip
      refine lv_iconst (v := 0) hx hb dX6_readCost_54 (by decide) ?_
      exact hx_retz hx hb hr rfl hlk hW ⟨(by decide), hT, hM⟩ dX6_readCost_55
    · skip
      refine lv_aload_n hx hb dX6_readCost_39 rfl (lv_at hl 2 rfl) ?_
      refine lv_bipush (v := 10) hx hb dX6_readCost_40 (by decide) ?_
      refine lv_iload_n hx hb dX6_readCost_42 rfl (lv_at hl 0 rfl) ?_
      refine lv_iadd hx hb dX6_readCost_43 ?_
      refine lv_topi (fun x_21 ex_21 => ?_)
      have zx_21 : x_21.toInt = 10 + r_9.toInt := by rw [ex_21]; exact i32_add (by decide) rfl (by omega) (by omega)
      refine hx_goi (hx_runVX (As := [.int x_21]) (rest := []) ⟨hx, hb, hml, hown, hts⟩ hW (gx.S hM) tt_6 (T := TX6) (N := 7) rfl (t_X6_readTold l dC dI dA L_15 h_16 H.size b0 x x_21 hT (gx.S hM) ⟨by omega, by omega⟩ qt (gqt.S hM) ((hM.o gx trivial rfl).2.trans f_x_0) qi (gqi.S hM) ((hM.o gx trivial rfl).2.trans f_x_6)) hZ (cwV 1 hts (hx_gV kw_540 kw_537 kw_539 kw_9 kw_95) rfl rfl rfl (by decide +kernel) ⟨Nat.le_of_ble_eq_true rfl, Nat.le_of_ble_eq_true rfl⟩) rfl hl.1 rfl (Nat.le_of_ble_eq_true rfl) dX6_readCost_44 ⟨Nat.le_of_ble_eq_true rfl, Nat.le_of_ble_eq_true rfl⟩) hW (fun r_24 L_22 h_23 H locs p_25 hW => ?_)
      obtain ⟨hr_26, hT, hs⟩ := p_25
      replace hT : hx_T T_tb L_22 h_23 := hT
      replace hs : hx_S T_tb [(6, 2), (6, 3), (11, 0)] L_15 h_16 L_22 h_23 := hs
      replace hM := hM.tr (hs.mono (by decide))
      have jn_55 : ∀ (xj_27 : Int32) (ls : Array Slot), 0 ≤ xj_27.toInt → xj_27.toInt ≤ 1 → lv_has ls 3 [(2, .int r_9), (1, .int x_6), (0, .ref x)] → W p l e ({ frames := 6, cells := 0, slots := 0, locals := 133 }) s m ([.ref x] : List Value).toArray below meth c H locs 0 0 (MQ below (va_Qi (fun (r : Int32) (u : List Nat × hx_h) => (r.toInt = 0 ∨ r.toInt = 1) ∧ hx_T T_tb u.1 u.2 ∧ hx_S T_tb [(6, 2), (6, 3), (6, 4), (11, 0)] L h u.1 u.2) (hx_E T_tb (P_ty dA) (dC, dI) vwCl (hx_A L sz)) (hx_A L sz)) ([.ref x] : List Value).toArray s 0 0 (hx_A L sz)) (F0 m 55 ls [.int xj_27]) := by
        intro xj_27 ls blxj_27 buxj_27 hl
        exact hx_retz hx hb hr (hx_nar01 (by omega)) hlk hW ⟨(by omega), hT, hM⟩ dX6_readCost_55
      refine hb_if_eq (zx := r_24.toInt) (tgt := 54) hx hb rfl dX6_readCost_47 (by decide) (fun c_28 => ?_) (fun c_28 => ?_)
      · skip
        refine lv_iconst (v := 0) hx hb dX6_readCost_54 (by decide) ?_
        exact jn_55 (0 : Int32) ls (by decide) (by decide) hl
      · skip
        refine lv_iconst (v := 1) hx hb dX6_readCost_50 (by decide) ?_
        refine lv_goto (tgt := 55) hx hb dX6_readCost_51 (by decide) ?_
        exact jn_55 (1 : Int32) ls (by decide) (by decide) hl
  · skip
    refine lv_aload_n hx hb dX6_readCost_20 rfl (lv_at hl 2 rfl) ?_
    refine lv_iload_n hx hb dX6_readCost_21 rfl (lv_at hl 1 rfl) ?_
    refine lv_iconst (v := 0) hx hb dX6_readCost_22 (by decide) ?_
    have zc_0 : (0 : Int32).toInt = 0 := by decide
    refine hx_goi (hx_runV (As := [.int x_6, .int (0 : Int32)]) (rest := []) ⟨hx, hb, hml, hown, hts⟩ hW (gx.S hM) tt_6 (T := TX6) (N := 7) rfl (t_X6_refuse l dC dI dA L_7 h_8 H.size x x_6 (0 : Int32) hT (gx.S hM)) (cwV 2 hts (hx_gV kw_527 kw_524 kw_526 kw_6 kw_95) rfl rfl rfl (by decide +kernel) ⟨Nat.le_of_ble_eq_true rfl, Nat.le_of_ble_eq_true rfl⟩) rfl hl.1 rfl (Nat.le_of_ble_eq_true rfl) dX6_readCost_23 ⟨Nat.le_of_ble_eq_true rfl, Nat.le_of_ble_eq_true rfl⟩) hW (fun r_31 L_29 h_30 H locs p_32 hW => ?_)
    obtain ⟨hr_33, hT, hs⟩ := p_32
    replace hT : hx_T T_tb L_29 h_30 := hT
    replace hs : hx_S T_tb [(6, 3)] L_7 h_8 L_29 h_30 := hs
    replace hM := hM.tr (hs.mono (by decide))
    exact hx_retz hx hb hr (hx_nar01 (by omega)) hlk hW ⟨(by omega), hT, hM⟩ dX6_readCost_26
