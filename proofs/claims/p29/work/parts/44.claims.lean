theorem dX10_isClaim_0 : decode cX10_isClaim 0 = .ok (.iload_n 1, 1) := by decide +kernel
theorem dX10_isClaim_1 : decode cX10_isClaim 1 = .ok (.iconst 0, 1) := by decide +kernel
theorem dX10_isClaim_2 : decode cX10_isClaim 2 = .ok (.aload_n 0, 1) := by decide +kernel
theorem dX10_isClaim_3 : decode cX10_isClaim 3 = .ok (.getfield 367, 3) := by decide +kernel
theorem dX10_isClaim_6 : decode cX10_isClaim 6 = .ok (.iconst 1, 1) := by decide +kernel
theorem dX10_isClaim_7 : decode cX10_isClaim 7 = .ok (.isub, 1) := by decide +kernel
theorem dX10_isClaim_8 : decode cX10_isClaim 8 = .ok (.invokestatic 228, 3) := by decide +kernel
theorem dX10_isClaim_11 : decode cX10_isClaim 11 = .ok (.ireturn, 1) := by decide +kernel
set_option maxHeartbeats 4000000 in
set_option maxRecDepth 100000 in
theorem t_X10_isClaim (l : Launch) (dC : Nat → ClassId) (dI : Nat → Nat → Nat) (dA : Nat → ClassId) (L : List Nat) (h : hx_h) (sz : Nat) (x : Nat) (i1 : Int32) (hT : hx_T T_tb L h) (gx : hx_g L h x 10) (c0 : Int32) (f_x_36 : h.2.1 x 36 = c0) : Met l yX10_isClaim (Cond.code yX10_isClaim cX10_isClaim 2 (some .boolean) :: hx_all) ({ frames := 1, cells := 0, slots := 0, locals := 22 }) (va_Pc [.ref x, .int i1] (hx_B T_tb (P_ty dA) (dC, dI) vwCl L h sz)) (va_Qi (fun (r : Int32) (u : List Nat × hx_h) => ((r.toInt = 0 ∧ (i1.toInt < 0 ∨ c0.toInt ≤ i1.toInt)) ∨ (r.toInt = 1 ∧ 0 ≤ i1.toInt ∧ i1.toInt < c0.toInt)) ∧ hx_T T_tb u.1 u.2 ∧ hx_S T_tb [] L h u.1 u.2) (hx_E T_tb (P_ty dA) (dC, dI) vwCl (hx_A L sz)) (hx_A L sz)) 0 0 (hx_A L sz) := by
  refine hx_met (lv := [(0, .ref x), (1, .int i1)]) (by decide +kernel) rfl (Nat.le_of_ble_eq_true rfl) rfl ?_
  intro p e s m below meth c hx hb hml hr hlk hts0 hown hin hsz hW ls hl
  have hts : ∀ w ∈ hx_all, w.before _ s = true := fun w hw => hts0 w (List.mem_cons_of_mem _ hw)
  have hown : s.vm.findClass "SmallCourtModel" = some m.cls := hown
  have hM : hx_S T_tb [] L h L h := hx_S.rf
  have b_c0 := hT.gi gx tt_10 (k := 36) rfl
  rw [f_x_36] at b_c0
  have b_c0 : 0 ≤ c0.toInt ∧ c0.toInt ≤ 100 := b_c0
  refine lv_iload_n hx hb dX10_isClaim_0 rfl (lv_at hl 1 rfl) ?_
  refine lv_iconst (v := 0) hx hb dX10_isClaim_1 (by decide) ?_
  refine lv_aload_n hx hb dX10_isClaim_2 rfl (lv_at hl 0 rfl) ?_
  refine hk_geti hx hb hts hC_10 hown hW (gx.S hM) tt_10 36 (by decide) rfl kw_1179 ⟨rfl, rfl, rfl⟩ ((hM.o gx trivial rfl).1.trans f_x_36) dX10_isClaim_3 ?_
  refine lv_iconst (v := 1) hx hb dX10_isClaim_6 (by decide) ?_
  refine lv_isub hx hb dX10_isClaim_7 ?_
  have rg_1 := i32_r c0
  refine lv_topi (fun x_2 ex_2 => ?_)
  have zx_2 : x_2.toInt = c0.toInt - 1 := by rw [ex_2]; exact i32_sub rfl (by decide) (by omega) (by omega)
  have zc_0 : (0 : Int32).toInt = 0 := by decide
  refine hx_goi (hx_runS (As := [.int i1, .int (0 : Int32), .int x_2]) (rest := []) ⟨hx, hb, hml, hown, hts⟩ hW (t_X10_in l dC dI dA L h s.heap.size i1 (0 : Int32) x_2 hT) (va_cwS 3 hts (hx_gS kw_1445 kw_1443 kw_1444 kw_103) rfl rfl rfl (by decide +kernel) ⟨Nat.le_of_ble_eq_true rfl, Nat.le_of_ble_eq_true rfl⟩) rfl hl.1 rfl (Nat.le_of_ble_eq_true rfl) dX10_isClaim_8 ⟨Nat.le_of_ble_eq_true rfl, Nat.le_of_ble_eq_true rfl⟩) hW (fun r_5 L_3 h_4 H locs p_6 hW => ?_)
  obtain ⟨hr_7, hT, hs⟩ := p_6
  replace hT : hx_T T_tb L_3 h_4 := hT
  replace hs : hx_S T_tb [] L h L_3 h_4 := hs
  replace hM := hM.tr (hs.mono (by decide))
  exact hx_retz hx hb hr (hx_nar01 (by omega)) hlk hW ⟨(by first | omega | (refine ⟨?_, ?_⟩ <;> omega)), hT, hM⟩ dX10_isClaim_11

def wLX10_isKinOf_0 : List Nat := [27, 28, 159, 0, 27, 42, 180, 0, 53, 27, 46, 155, 0, 22, 42, 180, 0, 53, 27, 46, 42, 180, 0, 53, 28, 46, 160, 0, 7, 4, 167, 0, 4, 3, 172]
theorem wX10_isKinOf_0 : (cX10_isKinOf.data.toList.map UInt8.toNat).drop 0 = wLX10_isKinOf_0 ++ ([]) := by decide +kernel
theorem dX10_isKinOf_0 : decode cX10_isKinOf 0 = .ok (.iload_n 1, 1) := dq_27 (hz_wg wX10_isKinOf_0 (j := 0) (n := 27) rfl)
theorem dX10_isKinOf_1 : decode cX10_isKinOf 1 = .ok (.iload_n 2, 1) := dq_28 (hz_wg wX10_isKinOf_0 (j := 1) (n := 28) rfl)
theorem dX10_isKinOf_2 : decode cX10_isKinOf 2 = .ok (.if_icmp .eq 27, 3) := dq_159 (hz_wg wX10_isKinOf_0 (j := 2) (n := 159) rfl) (hz_wg wX10_isKinOf_0 (j := 3) (n := 0) rfl) (hz_wg wX10_isKinOf_0 (j := 4) (n := 27) rfl) (by decide)
theorem dX10_isKinOf_5 : decode cX10_isKinOf 5 = .ok (.aload_n 0, 1) := dq_42 (hz_wg wX10_isKinOf_0 (j := 5) (n := 42) rfl)
theorem dX10_isKinOf_6 : decode cX10_isKinOf 6 = .ok (.getfield 53, 3) := dq_180 (hz_wg wX10_isKinOf_0 (j := 6) (n := 180) rfl) (hz_wg wX10_isKinOf_0 (j := 7) (n := 0) rfl) (hz_wg wX10_isKinOf_0 (j := 8) (n := 53) rfl) rfl
theorem dX10_isKinOf_9 : decode cX10_isKinOf 9 = .ok (.iload_n 1, 1) := dq_27 (hz_wg wX10_isKinOf_0 (j := 9) (n := 27) rfl)
theorem dX10_isKinOf_10 : decode cX10_isKinOf 10 = .ok (.iaload, 1) := dq_46 (hz_wg wX10_isKinOf_0 (j := 10) (n := 46) rfl)
theorem dX10_isKinOf_11 : decode cX10_isKinOf 11 = .ok (.ifCond .lt 22, 3) := dq_155 (hz_wg wX10_isKinOf_0 (j := 11) (n := 155) rfl) (hz_wg wX10_isKinOf_0 (j := 12) (n := 0) rfl) (hz_wg wX10_isKinOf_0 (j := 13) (n := 22) rfl) (by decide)
theorem dX10_isKinOf_14 : decode cX10_isKinOf 14 = .ok (.aload_n 0, 1) := dq_42 (hz_wg wX10_isKinOf_0 (j := 14) (n := 42) rfl)
theorem dX10_isKinOf_15 : decode cX10_isKinOf 15 = .ok (.getfield 53, 3) := dq_180 (hz_wg wX10_isKinOf_0 (j := 15) (n := 180) rfl) (hz_wg wX10_isKinOf_0 (j := 16) (n := 0) rfl) (hz_wg wX10_isKinOf_0 (j := 17) (n := 53) rfl) rfl
theorem dX10_isKinOf_18 : decode cX10_isKinOf 18 = .ok (.iload_n 1, 1) := dq_27 (hz_wg wX10_isKinOf_0 (j := 18) (n := 27) rfl)
theorem dX10_isKinOf_19 : decode cX10_isKinOf 19 = .ok (.iaload, 1) := dq_46 (hz_wg wX10_isKinOf_0 (j := 19) (n := 46) rfl)
theorem dX10_isKinOf_20 : decode cX10_isKinOf 20 = .ok (.aload_n 0, 1) := dq_42 (hz_wg wX10_isKinOf_0 (j := 20) (n := 42) rfl)
theorem dX10_isKinOf_21 : decode cX10_isKinOf 21 = .ok (.getfield 53, 3) := dq_180 (hz_wg wX10_isKinOf_0 (j := 21) (n := 180) rfl) (hz_wg wX10_isKinOf_0 (j := 22) (n := 0) rfl) (hz_wg wX10_isKinOf_0 (j := 23) (n := 53) rfl) rfl
theorem dX10_isKinOf_24 : decode cX10_isKinOf 24 = .ok (.iload_n 2, 1) := dq_28 (hz_wg wX10_isKinOf_0 (j := 24) (n := 28) rfl)
theorem dX10_isKinOf_25 : decode cX10_isKinOf 25 = .ok (.iaload, 1) := dq_46 (hz_wg wX10_isKinOf_0 (j := 25) (n := 46) rfl)
theorem dX10_isKinOf_26 : decode cX10_isKinOf 26 = .ok (.if_icmp .ne 7, 3) := dq_160 (hz_wg wX10_isKinOf_0 (j := 26) (n := 160) rfl) (hz_wg wX10_isKinOf_0 (j := 27) (n := 0) rfl) (hz_wg wX10_isKinOf_0 (j := 28) (n := 7) rfl) (by decide)
theorem dX10_isKinOf_29 : decode cX10_isKinOf 29 = .ok (.iconst 1, 1) := dq_4 (hz_wg wX10_isKinOf_0 (j := 29) (n := 4) rfl)
theorem dX10_isKinOf_30 : decode cX10_isKinOf 30 = .ok (.goto 4, 3) := dq_167 (hz_wg wX10_isKinOf_0 (j := 30) (n := 167) rfl) (hz_wg wX10_isKinOf_0 (j := 31) (n := 0) rfl) (hz_wg wX10_isKinOf_0 (j := 32) (n := 4) rfl) (by decide)
theorem dX10_isKinOf_33 : decode cX10_isKinOf 33 = .ok (.iconst 0, 1) := dq_3 (hz_wg wX10_isKinOf_0 (j := 33) (n := 3) rfl)
theorem dX10_isKinOf_34 : decode cX10_isKinOf 34 = .ok (.ireturn, 1) := dq_172 (hz_wg wX10_isKinOf_0 (j := 34) (n := 172) rfl)
set_option maxHeartbeats 4000000 in
set_option maxRecDepth 100000 in
theorem t_X10_isKinOf (l : Launch) (dC : Nat → ClassId) (dI : Nat → Nat → Nat) (dA : Nat → ClassId) (L : List Nat) (h : hx_h) (sz : Nat) (x : Nat) (i1 : Int32) (i2 : Int32) (hT : hx_T T_tb L h) (gx : hx_g L h x 10) (hi1 : 0 ≤ i1.toInt ∧ i1.toInt ≤ 39) (hi2 : 0 ≤ i2.toInt ∧ i2.toInt ≤ 39) : Met l yX10_isKinOf (Cond.code yX10_isKinOf cX10_isKinOf 3 (some .boolean) :: hx_all) ({ frames := 0, cells := 0, slots := 0, locals := 0 }) (va_Pc [.ref x, .int i1, .int i2] (hx_B T_tb (P_ty dA) (dC, dI) vwCl L h sz)) (va_Qi (fun (r : Int32) (u : List Nat × hx_h) => (r.toInt = 0 ∨ r.toInt = 1) ∧ hx_T T_tb u.1 u.2 ∧ hx_S T_tb [] L h u.1 u.2) (hx_E T_tb (P_ty dA) (dC, dI) vwCl (hx_A L sz)) (hx_A L sz)) 0 0 (hx_A L sz) := by
  refine hx_met (lv := [(0, .ref x), (1, .int i1), (2, .int i2)]) (by decide +kernel) rfl (Nat.le_of_ble_eq_true rfl) rfl ?_
  intro p e s m below meth c hx hb hml hr hlk hts0 hown hin hsz hW ls hl
  have hts : ∀ w ∈ hx_all, w.before _ s = true := fun w hw => hts0 w (List.mem_cons_of_mem _ hw)
  have hown : s.vm.findClass "SmallCourtModel" = some m.cls := hown
  have hM : hx_S T_tb [] L h L h := hx_S.rf
  refine lv_iload_n hx hb dX10_isKinOf_0 rfl (lv_at hl 1 rfl) ?_
  refine lv_iload_n hx hb dX10_isKinOf_1 rfl (lv_at hl 2 rfl) ?_
  refine hb_icmp_eq (zx := i1.toInt) (zy := i2.toInt) (tgt := 29) hx hb rfl rfl dX10_isKinOf_2 (by decide) (fun c_1 => ?_) (fun c_1 => ?_)
  · skip
    refine lv_iconst (v := 1) hx hb dX10_isKinOf_29 (by decide) ?_
    refine lv_goto (tgt := 34) hx hb dX10_isKinOf_30 (by decide) ?_
    exact hx_retz hx hb hr rfl hlk hW ⟨(by decide), hT, hM⟩ dX10_isKinOf_34
  · skip
    refine lv_aload_n hx hb dX10_isKinOf_5 rfl (lv_at hl 0 rfl) ?_
    refine hx_getn hx hb hts hC_10 hown hW hT (gx.S hM) tt_10 26 (by decide) rfl kw_1169 ⟨rfl, rfl, rfl⟩ dX10_isKinOf_6 (fun q_2 fq_2 gq_2 => ?_)
    refine lv_iload_n hx hb dX10_isKinOf_9 rfl (lv_at hl 1 rfl) ?_
    refine hx_iald hx hb hW hT gq_2 tt_63 rfl ⟨by omega, by omega⟩ dX10_isKinOf_10 (fun x_3 ex_3 lx_3 ux_3 => ?_)
    refine hb_if_lt (zx := x_3.toInt) (tgt := 33) hx hb rfl dX10_isKinOf_11 (by decide) (fun c_4 => ?_) (fun c_4 => ?_)
    · skip
      refine lv_iconst (v := 0) hx hb dX10_isKinOf_33 (by decide) ?_
      exact hx_retz hx hb hr rfl hlk hW ⟨(by decide), hT, hM⟩ dX10_isKinOf_34
    · skip
      refine lv_aload_n hx hb dX10_isKinOf_14 rfl (lv_at hl 0 rfl) ?_
      refine hk_getr hx hb hts hC_10 hown hW (gx.S hM) tt_10 26 (by decide) rfl kw_1169 ⟨rfl, rfl, rfl⟩ fq_2 dX10_isKinOf_15 ?_
      refine lv_iload_n hx hb dX10_isKinOf_18 rfl (lv_at hl 1 rfl) ?_
      refine hx_iald hx hb hW hT gq_2 tt_63 rfl ⟨by omega, by omega⟩ dX10_isKinOf_19 (fun x_5 ex_5 lx_5 ux_5 => ?_)
      obtain rfl : x_3 = x_5 := ex_3.trans ex_5.symm
      refine lv_aload_n hx hb dX10_isKinOf_20 rfl (lv_at hl 0 rfl) ?_
      refine hk_getr hx hb hts hC_10 hown hW (gx.S hM) tt_10 26 (by decide) rfl kw_1169 ⟨rfl, rfl, rfl⟩ fq_2 dX10_isKinOf_21 ?_
      refine lv_iload_n hx hb dX10_isKinOf_24 rfl (lv_at hl 2 rfl) ?_
      refine hx_iald hx hb hW hT gq_2 tt_63 rfl ⟨by omega, by omega⟩ dX10_isKinOf_25 (fun x_6 ex_6 lx_6 ux_6 => ?_)
      have jn_34 : ∀ (xj_7 : Int32) (ls : Array Slot), 0 ≤ xj_7.toInt → xj_7.toInt ≤ 1 → lv_has ls 3 [(0, .ref x), (1, .int i1), (2, .int i2)] → W p l e ({ frames := 0, cells := 0, slots := 0, locals := 0 }) s m ([.ref x, .int i1, .int i2] : List Value).toArray below meth c s.heap [] 0 0 (MQ below (va_Qi (fun (r : Int32) (u : List Nat × hx_h) => (r.toInt = 0 ∨ r.toInt = 1) ∧ hx_T T_tb u.1 u.2 ∧ hx_S T_tb [] L h u.1 u.2) (hx_E T_tb (P_ty dA) (dC, dI) vwCl (hx_A L sz)) (hx_A L sz)) ([.ref x, .int i1, .int i2] : List Value).toArray s 0 0 (hx_A L sz)) (F0 m 34 ls [.int xj_7]) := by
        intro xj_7 ls blxj_7 buxj_7 hl
        exact hx_retz hx hb hr (hx_nar01 (by omega)) hlk hW ⟨(by omega), hT, hM⟩ dX10_isKinOf_34
      refine hb_icmp_ne (zx := x_3.toInt) (zy := x_6.toInt) (tgt := 33) hx hb rfl rfl dX10_isKinOf_26 (by decide) (fun c_8 => ?_) (fun c_8 => ?_)
      · skip
        refine lv_iconst (v := 0) hx hb dX10_isKinOf_33 (by decide) ?_
        exact jn_34 (0 : Int32) ls (by decide) (by decide) hl
      · skip
        refine lv_iconst (v := 1) hx hb dX10_isKinOf_29 (by decide) ?_
        refine lv_goto (tgt := 34) hx hb dX10_isKinOf_30 (by decide) ?_
        exact jn_34 (1 : Int32) ls (by decide) (by decide) hl

def wLX10_isSplit_0 : List Nat := [3, 62, 3, 54, 4, 3, 54, 5, 21, 5, 42, 180, 1, 111, 162, 0, 82, 42, 180, 0, 81, 21, 5, 46, 42, 180, 0, 81, 27, 46, 160, 0, 60, 42, 180, 0, 84, 21, 5, 46, 42, 180, 0, 84, 27, 46, 160, 0, 44, 42, 180, 0, 99, 21, 5, 46, 42, 180, 0, 99, 27, 46, 42, 28]
def wLX10_isSplit_1 : List Nat := [4, 182, 1, 77, 100, 162, 0, 6, 167, 0, 18, 132, 3, 1, 21, 4, 42, 180, 0, 87, 21, 5, 46, 96, 54, 4, 132, 5, 1, 167, 255, 171, 29, 4, 164, 0, 18, 21, 4, 42, 28, 3, 182, 1, 77, 164, 0, 7, 4, 167, 0, 4, 3, 172]
theorem wX10_isSplit_0 : (cX10_isSplit.data.toList.map UInt8.toNat).drop 0 = wLX10_isSplit_0 ++ (wLX10_isSplit_1 ++ ([])) := by decide +kernel
theorem wX10_isSplit_1 : (cX10_isSplit.data.toList.map UInt8.toNat).drop 64 = wLX10_isSplit_1 ++ ([]) := hz_wn wX10_isSplit_0 rfl
theorem dX10_isSplit_0 : decode cX10_isSplit 0 = .ok (.iconst 0, 1) := dq_3 (hz_wg wX10_isSplit_0 (j := 0) (n := 3) rfl)
theorem dX10_isSplit_1 : decode cX10_isSplit 1 = .ok (.istore_n 3, 1) := dq_62 (hz_wg wX10_isSplit_0 (j := 1) (n := 62) rfl)
theorem dX10_isSplit_2 : decode cX10_isSplit 2 = .ok (.iconst 0, 1) := dq_3 (hz_wg wX10_isSplit_0 (j := 2) (n := 3) rfl)
theorem dX10_isSplit_3 : decode cX10_isSplit 3 = .ok (.istore 4, 2) := dq_54 (hz_wg wX10_isSplit_0 (j := 3) (n := 54) rfl) (hz_wg wX10_isSplit_0 (j := 4) (n := 4) rfl)
theorem dX10_isSplit_5 : decode cX10_isSplit 5 = .ok (.iconst 0, 1) := dq_3 (hz_wg wX10_isSplit_0 (j := 5) (n := 3) rfl)
theorem dX10_isSplit_6 : decode cX10_isSplit 6 = .ok (.istore 5, 2) := dq_54 (hz_wg wX10_isSplit_0 (j := 6) (n := 54) rfl) (hz_wg wX10_isSplit_0 (j := 7) (n := 5) rfl)
theorem dX10_isSplit_8 : decode cX10_isSplit 8 = .ok (.iload 5, 2) := dq_21 (hz_wg wX10_isSplit_0 (j := 8) (n := 21) rfl) (hz_wg wX10_isSplit_0 (j := 9) (n := 5) rfl)
theorem dX10_isSplit_10 : decode cX10_isSplit 10 = .ok (.aload_n 0, 1) := dq_42 (hz_wg wX10_isSplit_0 (j := 10) (n := 42) rfl)
theorem dX10_isSplit_11 : decode cX10_isSplit 11 = .ok (.getfield 367, 3) := dq_180 (hz_wg wX10_isSplit_0 (j := 11) (n := 180) rfl) (hz_wg wX10_isSplit_0 (j := 12) (n := 1) rfl) (hz_wg wX10_isSplit_0 (j := 13) (n := 111) rfl) rfl
theorem dX10_isSplit_14 : decode cX10_isSplit 14 = .ok (.if_icmp .ge 82, 3) := dq_162 (hz_wg wX10_isSplit_0 (j := 14) (n := 162) rfl) (hz_wg wX10_isSplit_0 (j := 15) (n := 0) rfl) (hz_wg wX10_isSplit_0 (j := 16) (n := 82) rfl) (by decide)
theorem dX10_isSplit_17 : decode cX10_isSplit 17 = .ok (.aload_n 0, 1) := dq_42 (hz_wg wX10_isSplit_0 (j := 17) (n := 42) rfl)
theorem dX10_isSplit_18 : decode cX10_isSplit 18 = .ok (.getfield 81, 3) := dq_180 (hz_wg wX10_isSplit_0 (j := 18) (n := 180) rfl) (hz_wg wX10_isSplit_0 (j := 19) (n := 0) rfl) (hz_wg wX10_isSplit_0 (j := 20) (n := 81) rfl) rfl
theorem dX10_isSplit_21 : decode cX10_isSplit 21 = .ok (.iload 5, 2) := dq_21 (hz_wg wX10_isSplit_0 (j := 21) (n := 21) rfl) (hz_wg wX10_isSplit_0 (j := 22) (n := 5) rfl)
theorem dX10_isSplit_23 : decode cX10_isSplit 23 = .ok (.iaload, 1) := dq_46 (hz_wg wX10_isSplit_0 (j := 23) (n := 46) rfl)
theorem dX10_isSplit_24 : decode cX10_isSplit 24 = .ok (.aload_n 0, 1) := dq_42 (hz_wg wX10_isSplit_0 (j := 24) (n := 42) rfl)
theorem dX10_isSplit_25 : decode cX10_isSplit 25 = .ok (.getfield 81, 3) := dq_180 (hz_wg wX10_isSplit_0 (j := 25) (n := 180) rfl) (hz_wg wX10_isSplit_0 (j := 26) (n := 0) rfl) (hz_wg wX10_isSplit_0 (j := 27) (n := 81) rfl) rfl
theorem dX10_isSplit_28 : decode cX10_isSplit 28 = .ok (.iload_n 1, 1) := dq_27 (hz_wg wX10_isSplit_0 (j := 28) (n := 27) rfl)
theorem dX10_isSplit_29 : decode cX10_isSplit 29 = .ok (.iaload, 1) := dq_46 (hz_wg wX10_isSplit_0 (j := 29) (n := 46) rfl)
theorem dX10_isSplit_30 : decode cX10_isSplit 30 = .ok (.if_icmp .ne 60, 3) := dq_160 (hz_wg wX10_isSplit_0 (j := 30) (n := 160) rfl) (hz_wg wX10_isSplit_0 (j := 31) (n := 0) rfl) (hz_wg wX10_isSplit_0 (j := 32) (n := 60) rfl) (by decide)
theorem dX10_isSplit_33 : decode cX10_isSplit 33 = .ok (.aload_n 0, 1) := dq_42 (hz_wg wX10_isSplit_0 (j := 33) (n := 42) rfl)
theorem dX10_isSplit_34 : decode cX10_isSplit 34 = .ok (.getfield 84, 3) := dq_180 (hz_wg wX10_isSplit_0 (j := 34) (n := 180) rfl) (hz_wg wX10_isSplit_0 (j := 35) (n := 0) rfl) (hz_wg wX10_isSplit_0 (j := 36) (n := 84) rfl) rfl
theorem dX10_isSplit_37 : decode cX10_isSplit 37 = .ok (.iload 5, 2) := dq_21 (hz_wg wX10_isSplit_0 (j := 37) (n := 21) rfl) (hz_wg wX10_isSplit_0 (j := 38) (n := 5) rfl)
theorem dX10_isSplit_39 : decode cX10_isSplit 39 = .ok (.iaload, 1) := dq_46 (hz_wg wX10_isSplit_0 (j := 39) (n := 46) rfl)
theorem dX10_isSplit_40 : decode cX10_isSplit 40 = .ok (.aload_n 0, 1) := dq_42 (hz_wg wX10_isSplit_0 (j := 40) (n := 42) rfl)
theorem dX10_isSplit_41 : decode cX10_isSplit 41 = .ok (.getfield 84, 3) := dq_180 (hz_wg wX10_isSplit_0 (j := 41) (n := 180) rfl) (hz_wg wX10_isSplit_0 (j := 42) (n := 0) rfl) (hz_wg wX10_isSplit_0 (j := 43) (n := 84) rfl) rfl
theorem dX10_isSplit_44 : decode cX10_isSplit 44 = .ok (.iload_n 1, 1) := dq_27 (hz_wg wX10_isSplit_0 (j := 44) (n := 27) rfl)
theorem dX10_isSplit_45 : decode cX10_isSplit 45 = .ok (.iaload, 1) := dq_46 (hz_wg wX10_isSplit_0 (j := 45) (n := 46) rfl)
theorem dX10_isSplit_46 : decode cX10_isSplit 46 = .ok (.if_icmp .ne 44, 3) := dq_160 (hz_wg wX10_isSplit_0 (j := 46) (n := 160) rfl) (hz_wg wX10_isSplit_0 (j := 47) (n := 0) rfl) (hz_wg wX10_isSplit_0 (j := 48) (n := 44) rfl) (by decide)
theorem dX10_isSplit_49 : decode cX10_isSplit 49 = .ok (.aload_n 0, 1) := dq_42 (hz_wg wX10_isSplit_0 (j := 49) (n := 42) rfl)
theorem dX10_isSplit_50 : decode cX10_isSplit 50 = .ok (.getfield 99, 3) := dq_180 (hz_wg wX10_isSplit_0 (j := 50) (n := 180) rfl) (hz_wg wX10_isSplit_0 (j := 51) (n := 0) rfl) (hz_wg wX10_isSplit_0 (j := 52) (n := 99) rfl) rfl
theorem dX10_isSplit_53 : decode cX10_isSplit 53 = .ok (.iload 5, 2) := dq_21 (hz_wg wX10_isSplit_0 (j := 53) (n := 21) rfl) (hz_wg wX10_isSplit_0 (j := 54) (n := 5) rfl)
theorem dX10_isSplit_55 : decode cX10_isSplit 55 = .ok (.iaload, 1) := dq_46 (hz_wg wX10_isSplit_0 (j := 55) (n := 46) rfl)
theorem dX10_isSplit_56 : decode cX10_isSplit 56 = .ok (.aload_n 0, 1) := dq_42 (hz_wg wX10_isSplit_0 (j := 56) (n := 42) rfl)
theorem dX10_isSplit_57 : decode cX10_isSplit 57 = .ok (.getfield 99, 3) := dq_180 (hz_wg wX10_isSplit_0 (j := 57) (n := 180) rfl) (hz_wg wX10_isSplit_0 (j := 58) (n := 0) rfl) (hz_wg wX10_isSplit_0 (j := 59) (n := 99) rfl) rfl
theorem dX10_isSplit_60 : decode cX10_isSplit 60 = .ok (.iload_n 1, 1) := dq_27 (hz_wg wX10_isSplit_0 (j := 60) (n := 27) rfl)
theorem dX10_isSplit_61 : decode cX10_isSplit 61 = .ok (.iaload, 1) := dq_46 (hz_wg wX10_isSplit_0 (j := 61) (n := 46) rfl)
theorem dX10_isSplit_62 : decode cX10_isSplit 62 = .ok (.aload_n 0, 1) := dq_42 (hz_wg wX10_isSplit_0 (j := 62) (n := 42) rfl)
theorem dX10_isSplit_63 : decode cX10_isSplit 63 = .ok (.iload_n 2, 1) := dq_28 (hz_wg wX10_isSplit_0 (j := 63) (n := 28) rfl)
theorem dX10_isSplit_64 : decode cX10_isSplit 64 = .ok (.iconst 1, 1) := dq_4 (hz_wg wX10_isSplit_1 (j := 0) (n := 4) rfl)
theorem dX10_isSplit_65 : decode cX10_isSplit 65 = .ok (.invokevirtual 333, 3) := dq_182 (hz_wg wX10_isSplit_1 (j := 1) (n := 182) rfl) (hz_wg wX10_isSplit_1 (j := 2) (n := 1) rfl) (hz_wg wX10_isSplit_1 (j := 3) (n := 77) rfl) rfl
theorem dX10_isSplit_68 : decode cX10_isSplit 68 = .ok (.isub, 1) := dq_100 (hz_wg wX10_isSplit_1 (j := 4) (n := 100) rfl)
theorem dX10_isSplit_69 : decode cX10_isSplit 69 = .ok (.if_icmp .ge 6, 3) := dq_162 (hz_wg wX10_isSplit_1 (j := 5) (n := 162) rfl) (hz_wg wX10_isSplit_1 (j := 6) (n := 0) rfl) (hz_wg wX10_isSplit_1 (j := 7) (n := 6) rfl) (by decide)
theorem dX10_isSplit_72 : decode cX10_isSplit 72 = .ok (.goto 18, 3) := dq_167 (hz_wg wX10_isSplit_1 (j := 8) (n := 167) rfl) (hz_wg wX10_isSplit_1 (j := 9) (n := 0) rfl) (hz_wg wX10_isSplit_1 (j := 10) (n := 18) rfl) (by decide)
theorem dX10_isSplit_75 : decode cX10_isSplit 75 = .ok (.iinc 3 1, 3) := dq_132 (hz_wg wX10_isSplit_1 (j := 11) (n := 132) rfl) (hz_wg wX10_isSplit_1 (j := 12) (n := 3) rfl) (hz_wg wX10_isSplit_1 (j := 13) (n := 1) rfl) (by decide)
theorem dX10_isSplit_78 : decode cX10_isSplit 78 = .ok (.iload 4, 2) := dq_21 (hz_wg wX10_isSplit_1 (j := 14) (n := 21) rfl) (hz_wg wX10_isSplit_1 (j := 15) (n := 4) rfl)
theorem dX10_isSplit_80 : decode cX10_isSplit 80 = .ok (.aload_n 0, 1) := dq_42 (hz_wg wX10_isSplit_1 (j := 16) (n := 42) rfl)
theorem dX10_isSplit_81 : decode cX10_isSplit 81 = .ok (.getfield 87, 3) := dq_180 (hz_wg wX10_isSplit_1 (j := 17) (n := 180) rfl) (hz_wg wX10_isSplit_1 (j := 18) (n := 0) rfl) (hz_wg wX10_isSplit_1 (j := 19) (n := 87) rfl) rfl
theorem dX10_isSplit_84 : decode cX10_isSplit 84 = .ok (.iload 5, 2) := dq_21 (hz_wg wX10_isSplit_1 (j := 20) (n := 21) rfl) (hz_wg wX10_isSplit_1 (j := 21) (n := 5) rfl)
theorem dX10_isSplit_86 : decode cX10_isSplit 86 = .ok (.iaload, 1) := dq_46 (hz_wg wX10_isSplit_1 (j := 22) (n := 46) rfl)
theorem dX10_isSplit_87 : decode cX10_isSplit 87 = .ok (.iadd, 1) := dq_96 (hz_wg wX10_isSplit_1 (j := 23) (n := 96) rfl)
theorem dX10_isSplit_88 : decode cX10_isSplit 88 = .ok (.istore 4, 2) := dq_54 (hz_wg wX10_isSplit_1 (j := 24) (n := 54) rfl) (hz_wg wX10_isSplit_1 (j := 25) (n := 4) rfl)
theorem dX10_isSplit_90 : decode cX10_isSplit 90 = .ok (.iinc 5 1, 3) := dq_132 (hz_wg wX10_isSplit_1 (j := 26) (n := 132) rfl) (hz_wg wX10_isSplit_1 (j := 27) (n := 5) rfl) (hz_wg wX10_isSplit_1 (j := 28) (n := 1) rfl) (by decide)
theorem dX10_isSplit_93 : decode cX10_isSplit 93 = .ok (.goto (-85), 3) := dq_167 (hz_wg wX10_isSplit_1 (j := 29) (n := 167) rfl) (hz_wg wX10_isSplit_1 (j := 30) (n := 255) rfl) (hz_wg wX10_isSplit_1 (j := 31) (n := 171) rfl) (by decide)
theorem dX10_isSplit_96 : decode cX10_isSplit 96 = .ok (.iload_n 3, 1) := dq_29 (hz_wg wX10_isSplit_1 (j := 32) (n := 29) rfl)
theorem dX10_isSplit_97 : decode cX10_isSplit 97 = .ok (.iconst 1, 1) := dq_4 (hz_wg wX10_isSplit_1 (j := 33) (n := 4) rfl)
theorem dX10_isSplit_98 : decode cX10_isSplit 98 = .ok (.if_icmp .le 18, 3) := dq_164 (hz_wg wX10_isSplit_1 (j := 34) (n := 164) rfl) (hz_wg wX10_isSplit_1 (j := 35) (n := 0) rfl) (hz_wg wX10_isSplit_1 (j := 36) (n := 18) rfl) (by decide)
theorem dX10_isSplit_101 : decode cX10_isSplit 101 = .ok (.iload 4, 2) := dq_21 (hz_wg wX10_isSplit_1 (j := 37) (n := 21) rfl) (hz_wg wX10_isSplit_1 (j := 38) (n := 4) rfl)
theorem dX10_isSplit_103 : decode cX10_isSplit 103 = .ok (.aload_n 0, 1) := dq_42 (hz_wg wX10_isSplit_1 (j := 39) (n := 42) rfl)
theorem dX10_isSplit_104 : decode cX10_isSplit 104 = .ok (.iload_n 2, 1) := dq_28 (hz_wg wX10_isSplit_1 (j := 40) (n := 28) rfl)
theorem dX10_isSplit_105 : decode cX10_isSplit 105 = .ok (.iconst 0, 1) := dq_3 (hz_wg wX10_isSplit_1 (j := 41) (n := 3) rfl)
theorem dX10_isSplit_106 : decode cX10_isSplit 106 = .ok (.invokevirtual 333, 3) := dq_182 (hz_wg wX10_isSplit_1 (j := 42) (n := 182) rfl) (hz_wg wX10_isSplit_1 (j := 43) (n := 1) rfl) (hz_wg wX10_isSplit_1 (j := 44) (n := 77) rfl) rfl
theorem dX10_isSplit_109 : decode cX10_isSplit 109 = .ok (.if_icmp .le 7, 3) := dq_164 (hz_wg wX10_isSplit_1 (j := 45) (n := 164) rfl) (hz_wg wX10_isSplit_1 (j := 46) (n := 0) rfl) (hz_wg wX10_isSplit_1 (j := 47) (n := 7) rfl) (by decide)
theorem dX10_isSplit_112 : decode cX10_isSplit 112 = .ok (.iconst 1, 1) := dq_4 (hz_wg wX10_isSplit_1 (j := 48) (n := 4) rfl)
theorem dX10_isSplit_113 : decode cX10_isSplit 113 = .ok (.goto 4, 3) := dq_167 (hz_wg wX10_isSplit_1 (j := 49) (n := 167) rfl) (hz_wg wX10_isSplit_1 (j := 50) (n := 0) rfl) (hz_wg wX10_isSplit_1 (j := 51) (n := 4) rfl) (by decide)
theorem dX10_isSplit_116 : decode cX10_isSplit 116 = .ok (.iconst 0, 1) := dq_3 (hz_wg wX10_isSplit_1 (j := 52) (n := 3) rfl)
theorem dX10_isSplit_117 : decode cX10_isSplit 117 = .ok (.ireturn, 1) := dq_172 (hz_wg wX10_isSplit_1 (j := 53) (n := 172) rfl)
set_option maxHeartbeats 4000000 in
set_option maxRecDepth 100000 in
theorem t_X10_isSplit (l : Launch) (dC : Nat → ClassId) (dI : Nat → Nat → Nat) (dA : Nat → ClassId) (L : List Nat) (h : hx_h) (sz : Nat) (x : Nat) (i1 : Int32) (i2 : Int32) (hT : hx_T T_tb L h) (gx : hx_g L h x 10) (hi1 : 0 ≤ i1.toInt ∧ i1.toInt ≤ 99) (hi2 : 0 ≤ i2.toInt ∧ i2.toInt ≤ 8) : Met l yX10_isSplit (Cond.code yX10_isSplit cX10_isSplit 6 (some .boolean) :: hx_all) ({ frames := 1, cells := 0, slots := 0, locals := 22 }) (va_Pc [.ref x, .int i1, .int i2] (hx_B T_tb (P_ty dA) (dC, dI) vwCl L h sz)) (va_Qi (fun (r : Int32) (u : List Nat × hx_h) => (r.toInt = 0 ∨ r.toInt = 1) ∧ hx_T T_tb u.1 u.2 ∧ hx_S T_tb [] L h u.1 u.2) (hx_E T_tb (P_ty dA) (dC, dI) vwCl (hx_A L sz)) (hx_A L sz)) 0 0 (hx_A L sz) := by
  refine hx_met (lv := [(0, .ref x), (1, .int i1), (2, .int i2)]) (by decide +kernel) rfl (Nat.le_of_ble_eq_true rfl) rfl ?_
  intro p e s m below meth c hx hb hml hr hlk hts0 hown hin hsz hW ls hl
  have hts : ∀ w ∈ hx_all, w.before _ s = true := fun w hw => hts0 w (List.mem_cons_of_mem _ hw)
  have hown : s.vm.findClass "SmallCourtModel" = some m.cls := hown
  have hM : hx_S T_tb [] L h L h := hx_S.rf
  refine lv_iconst (v := 0) hx hb dX10_isSplit_0 (by decide) ?_
  refine lv_istore_n (lv' := [(3, .int (0 : Int32)), (0, .ref x), (1, .int i1), (2, .int i2)]) hx hb dX10_isSplit_1 rfl hl (by decide) rfl (fun ls hl => ?_)
  refine lv_iconst (v := 0) hx hb dX10_isSplit_2 (by decide) ?_
  refine lv_istore (lv' := [(4, .int (0 : Int32)), (3, .int (0 : Int32)), (0, .ref x), (1, .int i1), (2, .int i2)]) hx hb dX10_isSplit_3 hl (by decide) rfl (fun ls hl => ?_)
  refine lv_iconst (v := 0) hx hb dX10_isSplit_5 (by decide) ?_
  refine lv_istore (lv' := [(5, .int (0 : Int32)), (4, .int (0 : Int32)), (3, .int (0 : Int32)), (0, .ref x), (1, .int i1), (2, .int i2)]) hx hb dX10_isSplit_6 hl (by decide) rfl (fun ls hl => ?_)
  have loop8 : ∀ (n8 : Nat) (iv8_3 iv8_4 iv8_5 : Int32) (H : Heap) (locs : List Loc) (hL1 : List Nat) (hl1 : hx_h), -2147483648 ≤ iv8_3.toInt → iv8_3.toInt ≤ 2147483647 → -2147483648 ≤ iv8_4.toInt → iv8_4.toInt ≤ 2147483647 → 0 ≤ iv8_5.toInt → iv8_5.toInt ≤ 100 → ∀ (ls : Array Slot), 100 - iv8_5.toInt < (n8 : Int) → hx_W T_tb (P_ty dA) (dC, dI) vwCl (hx_A L sz) s.heap hL1 hl1 s H locs → hx_T T_tb hL1 hl1 → hx_S T_tb [] L h hL1 hl1 → lv_has ls 6 [(5, .int iv8_5), (4, .int iv8_4), (3, .int iv8_3), (0, .ref x), (1, .int i1), (2, .int i2)] → W p l e ({ frames := 1, cells := 0, slots := 0, locals := 22 }) s m ([.ref x, .int i1, .int i2] : List Value).toArray below meth c H locs 0 0 (MQ below (va_Qi (fun (r : Int32) (u : List Nat × hx_h) => (r.toInt = 0 ∨ r.toInt = 1) ∧ hx_T T_tb u.1 u.2 ∧ hx_S T_tb [] L h u.1 u.2) (hx_E T_tb (P_ty dA) (dC, dI) vwCl (hx_A L sz)) (hx_A L sz)) ([.ref x, .int i1, .int i2] : List Value).toArray s 0 0 (hx_A L sz)) (F0 m 8 ls []) := by
    intro n8
    induction n8 with
    | zero => intro iv8_3 iv8_4 iv8_5 H locs hL1 hl1 bliv8_3 buiv8_3 bliv8_4 buiv8_4 bliv8_5 buiv8_5  ls hn8; exfalso; omega
    | succ n8 ih8 =>
      intro iv8_3 iv8_4 iv8_5 H locs hL1 hl1 bliv8_3 buiv8_3 bliv8_4 buiv8_4 bliv8_5 buiv8_5  ls hn8 hW hT hM   hl
      refine lv_iload hx hb dX10_isSplit_8 (lv_at hl 0 rfl) ?_
      refine lv_aload_n hx hb dX10_isSplit_10 rfl (lv_at hl 3 rfl) ?_
      refine hx_geti hx hb hts hC_10 hown hW hT (gx.S hM) tt_10 36 (by decide) rfl kw_1179 ⟨rfl, rfl, rfl⟩ dX10_isSplit_11 (fun x_1 ex_1 lx_1 ux_1 => ?_)
      have fx_1 := ex_1.symm
      refine hb_icmp_ge (zx := iv8_5.toInt) (zy := x_1.toInt) (tgt := 96) hx hb rfl rfl dX10_isSplit_14 (by decide) (fun c_2 => ?_) (fun c_2 => ?_)
      · skip
        refine lv_iload_n hx hb dX10_isSplit_96 rfl (lv_at hl 2 rfl) ?_
        refine lv_iconst (v := 1) hx hb dX10_isSplit_97 (by decide) ?_
        refine hb_icmp_le (zx := iv8_3.toInt) (zy := 1) (tgt := 116) hx hb rfl (by decide) dX10_isSplit_98 (by decide) (fun c_3 => ?_) (fun c_3 => ?_)
        · skip
          refine lv_iconst (v := 0) hx hb dX10_isSplit_116 (by decide) ?_
          exact hx_retz hx hb hr rfl hlk hW ⟨(by decide), hT, hM⟩ dX10_isSplit_117
        · skip
          refine lv_iload hx hb dX10_isSplit_101 (lv_at hl 1 rfl) ?_
          refine lv_aload_n hx hb dX10_isSplit_103 rfl (lv_at hl 3 rfl) ?_
          refine lv_iload_n hx hb dX10_isSplit_104 rfl (lv_at hl 5 rfl) ?_
          refine lv_iconst (v := 0) hx hb dX10_isSplit_105 (by decide) ?_
          have zc_0 : (0 : Int32).toInt = 0 := by decide
          refine hx_goi (hx_runV (As := [.int i2, .int (0 : Int32)]) (rest := [.int iv8_4]) ⟨hx, hb, hml, hown, hts⟩ hW (gx.S hM) tt_10 (T := TX10) (N := 98) rfl (t_X10_ruleOf l dC dI dA hL1 hl1 H.size x i2 (0 : Int32) hT (gx.S hM) ⟨by omega, by omega⟩ (by decide)) (cwV 2 hts (hx_gV kw_1533 kw_1530 kw_1532 kw_66 kw_103) rfl rfl rfl (by decide +kernel) ⟨Nat.le_of_ble_eq_true rfl, Nat.le_of_ble_eq_true rfl⟩) rfl hl.1 rfl (Nat.le_of_ble_eq_true rfl) dX10_isSplit_106 ⟨Nat.le_of_ble_eq_true rfl, Nat.le_of_ble_eq_true rfl⟩) hW (fun r_6 L_4 h_5 H locs p_7 hW => ?_)
          obtain ⟨hr_8, hT, hs⟩ := p_7
          replace hT : hx_T T_tb L_4 h_5 := hT
          replace hs : hx_S T_tb [] hL1 hl1 L_4 h_5 := hs
          replace fx_1 := (hs.o (gx.S hM) trivial rfl).1.trans fx_1
          replace hM := hM.tr (hs.mono (by decide))
          have jn_117 : ∀ (xj_9 : Int32) (ls : Array Slot), 0 ≤ xj_9.toInt → xj_9.toInt ≤ 1 → lv_has ls 6 [(5, .int iv8_5), (4, .int iv8_4), (3, .int iv8_3), (0, .ref x), (1, .int i1), (2, .int i2)] → W p l e ({ frames := 1, cells := 0, slots := 0, locals := 22 }) s m ([.ref x, .int i1, .int i2] : List Value).toArray below meth c H locs 0 0 (MQ below (va_Qi (fun (r : Int32) (u : List Nat × hx_h) => (r.toInt = 0 ∨ r.toInt = 1) ∧ hx_T T_tb u.1 u.2 ∧ hx_S T_tb [] L h u.1 u.2) (hx_E T_tb (P_ty dA) (dC, dI) vwCl (hx_A L sz)) (hx_A L sz)) ([.ref x, .int i1, .int i2] : List Value).toArray s 0 0 (hx_A L sz)) (F0 m 117 ls [.int xj_9]) := by
            intro xj_9 ls blxj_9 buxj_9 hl
            exact hx_retz hx hb hr (hx_nar01 (by omega)) hlk hW ⟨(by omega), hT, hM⟩ dX10_isSplit_117
          refine hb_icmp_le (zx := iv8_4.toInt) (zy := r_6.toInt) (tgt := 116) hx hb rfl rfl dX10_isSplit_109 (by decide) (fun c_10 => ?_) (fun c_10 => ?_)
          · skip
            refine lv_iconst (v := 0) hx hb dX10_isSplit_116 (by decide) ?_
            exact jn_117 (0 : Int32) ls (by decide) (by decide) hl
          · skip
            refine lv_iconst (v := 1) hx hb dX10_isSplit_112 (by decide) ?_
            refine lv_goto (tgt := 117) hx hb dX10_isSplit_113 (by decide) ?_
            exact jn_117 (1 : Int32) ls (by decide) (by decide) hl
      · skip
        refine lv_aload_n hx hb dX10_isSplit_17 rfl (lv_at hl 3 rfl) ?_
        refine hx_getn hx hb hts hC_10 hown hW hT (gx.S hM) tt_10 37 (by decide) rfl kw_1180 ⟨rfl, rfl, rfl⟩ dX10_isSplit_18 (fun q_11 fq_11 gq_11 => ?_)
        refine lv_iload hx hb dX10_isSplit_21 (lv_at hl 0 rfl) ?_
        refine hx_iald hx hb hW hT gq_11 tt_72 rfl ⟨by omega, by omega⟩ dX10_isSplit_23 (fun x_12 ex_12 lx_12 ux_12 => ?_)
        refine lv_aload_n hx hb dX10_isSplit_24 rfl (lv_at hl 3 rfl) ?_
        refine hk_getr hx hb hts hC_10 hown hW (gx.S hM) tt_10 37 (by decide) rfl kw_1180 ⟨rfl, rfl, rfl⟩ fq_11 dX10_isSplit_25 ?_
        refine lv_iload_n hx hb dX10_isSplit_28 rfl (lv_at hl 4 rfl) ?_
        refine hx_iald hx hb hW hT gq_11 tt_72 rfl ⟨by omega, by omega⟩ dX10_isSplit_29 (fun x_13 ex_13 lx_13 ux_13 => ?_)
        refine hb_icmp_ne (zx := x_12.toInt) (zy := x_13.toInt) (tgt := 90) hx hb rfl rfl dX10_isSplit_30 (by decide) (fun c_14 => ?_) (fun c_14 => ?_)
        · skip
          obtain ⟨x_15, ex_15⟩ : ∃ y : Int32, y = iv8_5 + Int32.ofInt 1 := ⟨_, rfl⟩
          have rg_16 := i32_r iv8_5
          have zx_15 : x_15.toInt = iv8_5.toInt + (1) := by rw [ex_15]; exact i32_add rfl (by decide) (by omega) (by omega)
          refine lv_iinc (v := x_15) (lv' := [(5, .int x_15), (4, .int iv8_4), (3, .int iv8_3), (0, .ref x), (1, .int i1), (2, .int i2)]) hx hb dX10_isSplit_90 hl (k := 0) rfl ex_15.symm (by decide) rfl (fun ls hl => ?_)
          refine lv_goto (tgt := 8) hx hb dX10_isSplit_93 (by decide) ?_
          exact ih8 iv8_3 iv8_4 x_15 _ _ hL1 hl1 (i32_r _).1 (i32_r _).2 (i32_r _).1 (i32_r _).2 (by omega) (by omega)  ls (by omega) hW hT hM   (lv_sub hl [0, 1, 2, 3, 4, 5] rfl)
        · skip
          refine lv_aload_n hx hb dX10_isSplit_33 rfl (lv_at hl 3 rfl) ?_
          refine hx_getn hx hb hts hC_10 hown hW hT (gx.S hM) tt_10 38 (by decide) rfl kw_1181 ⟨rfl, rfl, rfl⟩ dX10_isSplit_34 (fun q_17 fq_17 gq_17 => ?_)
          refine lv_iload hx hb dX10_isSplit_37 (lv_at hl 0 rfl) ?_
          refine hx_iald hx hb hW hT gq_17 tt_73 rfl ⟨by omega, by omega⟩ dX10_isSplit_39 (fun x_18 ex_18 lx_18 ux_18 => ?_)
          refine lv_aload_n hx hb dX10_isSplit_40 rfl (lv_at hl 3 rfl) ?_
          refine hk_getr hx hb hts hC_10 hown hW (gx.S hM) tt_10 38 (by decide) rfl kw_1181 ⟨rfl, rfl, rfl⟩ fq_17 dX10_isSplit_41 ?_
          refine lv_iload_n hx hb dX10_isSplit_44 rfl (lv_at hl 4 rfl) ?_
          refine hx_iald hx hb hW hT gq_17 tt_73 rfl ⟨by omega, by omega⟩ dX10_isSplit_45 (fun x_19 ex_19 lx_19 ux_19 => ?_)
          refine hb_icmp_ne (zx := x_18.toInt) (zy := x_19.toInt) (tgt := 90) hx hb rfl rfl dX10_isSplit_46 (by decide) (fun c_20 => ?_) (fun c_20 => ?_)
          · skip
            obtain ⟨x_21, ex_21⟩ : ∃ y : Int32, y = iv8_5 + Int32.ofInt 1 := ⟨_, rfl⟩
            have rg_22 := i32_r iv8_5
            have zx_21 : x_21.toInt = iv8_5.toInt + (1) := by rw [ex_21]; exact i32_add rfl (by decide) (by omega) (by omega)
            refine lv_iinc (v := x_21) (lv' := [(5, .int x_21), (4, .int iv8_4), (3, .int iv8_3), (0, .ref x), (1, .int i1), (2, .int i2)]) hx hb dX10_isSplit_90 hl (k := 0) rfl ex_21.symm (by decide) rfl (fun ls hl => ?_)
            refine lv_goto (tgt := 8) hx hb dX10_isSplit_93 (by decide) ?_
            exact ih8 iv8_3 iv8_4 x_21 _ _ hL1 hl1 (i32_r _).1 (i32_r _).2 (i32_r _).1 (i32_r _).2 (by omega) (by omega)  ls (by omega) hW hT hM   (lv_sub hl [0, 1, 2, 3, 4, 5] rfl)
          · skip
            refine lv_aload_n hx hb dX10_isSplit_49 rfl (lv_at hl 3 rfl) ?_
            refine hx_getn hx hb hts hC_10 hown hW hT (gx.S hM) tt_10 43 (by decide) rfl kw_1186 ⟨rfl, rfl, rfl⟩ dX10_isSplit_50 (fun q_23 fq_23 gq_23 => ?_)
            refine lv_iload hx hb dX10_isSplit_53 (lv_at hl 0 rfl) ?_
            refine hx_iald hx hb hW hT gq_23 tt_78 rfl ⟨by omega, by omega⟩ dX10_isSplit_55 (fun x_24 ex_24 lx_24 ux_24 => ?_)
            refine lv_aload_n hx hb dX10_isSplit_56 rfl (lv_at hl 3 rfl) ?_
            refine hk_getr hx hb hts hC_10 hown hW (gx.S hM) tt_10 43 (by decide) rfl kw_1186 ⟨rfl, rfl, rfl⟩ fq_23 dX10_isSplit_57 ?_
            refine lv_iload_n hx hb dX10_isSplit_60 rfl (lv_at hl 4 rfl) ?_
            refine hx_iald hx hb hW hT gq_23 tt_78 rfl ⟨by omega, by omega⟩ dX10_isSplit_61 (fun x_25 ex_25 lx_25 ux_25 => ?_)
            refine lv_aload_n hx hb dX10_isSplit_62 rfl (lv_at hl 3 rfl) ?_
            refine lv_iload_n hx hb dX10_isSplit_63 rfl (lv_at hl 5 rfl) ?_
            refine lv_iconst (v := 1) hx hb dX10_isSplit_64 (by decide) ?_
            have zc_1 : (1 : Int32).toInt = 1 := by decide
            refine hx_goi (hx_runV (As := [.int i2, .int (1 : Int32)]) (rest := [.int x_25, .int x_24]) ⟨hx, hb, hml, hown, hts⟩ hW (gx.S hM) tt_10 (T := TX10) (N := 98) rfl (t_X10_ruleOf l dC dI dA hL1 hl1 H.size x i2 (1 : Int32) hT (gx.S hM) ⟨by omega, by omega⟩ (by decide)) (cwV 2 hts (hx_gV kw_1533 kw_1530 kw_1532 kw_66 kw_103) rfl rfl rfl (by decide +kernel) ⟨Nat.le_of_ble_eq_true rfl, Nat.le_of_ble_eq_true rfl⟩) rfl hl.1 rfl (Nat.le_of_ble_eq_true rfl) dX10_isSplit_65 ⟨Nat.le_of_ble_eq_true rfl, Nat.le_of_ble_eq_true rfl⟩) hW (fun r_28 L_26 h_27 H locs p_29 hW => ?_)
            obtain ⟨hr_30, hT, hs⟩ := p_29
            replace hT : hx_T T_tb L_26 h_27 := hT
            replace hs : hx_S T_tb [] hL1 hl1 L_26 h_27 := hs
            replace fx_1 := (hs.o (gx.S hM) trivial rfl).1.trans fx_1
            replace fq_11 := (hs.o (gx.S hM) trivial rfl).2.trans fq_11
            replace fq_17 := (hs.o (gx.S hM) trivial rfl).2.trans fq_17
            replace fq_23 := (hs.o (gx.S hM) trivial rfl).2.trans fq_23
            replace ex_12 := ex_12.trans (hs.a gq_11 rfl _).1.symm
            replace ex_13 := ex_13.trans (hs.a gq_11 rfl _).1.symm
            replace ex_18 := ex_18.trans (hs.a gq_17 rfl _).1.symm
            replace ex_19 := ex_19.trans (hs.a gq_17 rfl _).1.symm
            replace ex_24 := ex_24.trans (hs.a gq_23 rfl _).1.symm
            replace ex_25 := ex_25.trans (hs.a gq_23 rfl _).1.symm
            replace hM := hM.tr (hs.mono (by decide))
            replace gq_11 := gq_11.S hs
            replace gq_17 := gq_17.S hs
            replace gq_23 := gq_23.S hs
            refine lv_isub hx hb dX10_isSplit_68 ?_
            have rg_31 := i32_r x_25
            have rg_32 := i32_r r_28
            refine lv_topi (fun x_33 ex_33 => ?_)
            have zx_33 : x_33.toInt = x_25.toInt - r_28.toInt := by rw [ex_33]; exact i32_sub rfl rfl (by omega) (by omega)
            refine hb_icmp_ge (zx := x_24.toInt) (zy := x_33.toInt) (tgt := 75) hx hb rfl rfl dX10_isSplit_69 (by decide) (fun c_34 => ?_) (fun c_34 => ?_)
            · skip
              obtain ⟨x_35, ex_35⟩ : ∃ y : Int32, y = iv8_3 + Int32.ofInt 1 := ⟨_, rfl⟩
              have rg_36 := i32_r iv8_3
              refine lv_iinc (v := x_35) (lv' := [(3, .int x_35), (5, .int iv8_5), (4, .int iv8_4), (0, .ref x), (1, .int i1), (2, .int i2)]) hx hb dX10_isSplit_75 hl (k := 2) rfl ex_35.symm (by decide) rfl (fun ls hl => ?_)
              refine lv_iload hx hb dX10_isSplit_78 (lv_at hl 2 rfl) ?_
              refine lv_aload_n hx hb dX10_isSplit_80 rfl (lv_at hl 3 rfl) ?_
              refine hx_getn hx hb hts hC_10 hown hW hT (gx.S hM) tt_10 39 (by decide) rfl kw_1182 ⟨rfl, rfl, rfl⟩ dX10_isSplit_81 (fun q_37 fq_37 gq_37 => ?_)
              refine lv_iload hx hb dX10_isSplit_84 (lv_at hl 1 rfl) ?_
              refine hx_iald hx hb hW hT gq_37 tt_74 rfl ⟨by omega, by omega⟩ dX10_isSplit_86 (fun x_38 ex_38 lx_38 ux_38 => ?_)
              refine lv_iadd hx hb dX10_isSplit_87 ?_
              have rg_39 := i32_r iv8_4
              have rg_40 := i32_r x_38
              refine lv_topi (fun x_41 ex_41 => ?_)
              refine lv_istore (lv' := [(4, .int x_41), (3, .int x_35), (5, .int iv8_5), (0, .ref x), (1, .int i1), (2, .int i2)]) hx hb dX10_isSplit_88 hl (by decide) rfl (fun ls hl => ?_)
              obtain ⟨x_42, ex_42⟩ : ∃ y : Int32, y = iv8_5 + Int32.ofInt 1 := ⟨_, rfl⟩
              have rg_43 := i32_r iv8_5
              have zx_42 : x_42.toInt = iv8_5.toInt + (1) := by rw [ex_42]; exact i32_add rfl (by decide) (by omega) (by omega)
              refine lv_iinc (v := x_42) (lv' := [(5, .int x_42), (4, .int x_41), (3, .int x_35), (0, .ref x), (1, .int i1), (2, .int i2)]) hx hb dX10_isSplit_90 hl (k := 2) rfl ex_42.symm (by decide) rfl (fun ls hl => ?_)
              refine lv_goto (tgt := 8) hx hb dX10_isSplit_93 (by decide) ?_
              exact ih8 x_35 x_41 x_42 _ _ L_26 h_27 (i32_r _).1 (i32_r _).2 (i32_r _).1 (i32_r _).2 (by omega) (by omega)  ls (by omega) hW hT hM   (lv_sub hl [0, 1, 2, 3, 4, 5] rfl)
            · skip
              refine lv_goto (tgt := 90) hx hb dX10_isSplit_72 (by decide) ?_
              obtain ⟨x_44, ex_44⟩ : ∃ y : Int32, y = iv8_5 + Int32.ofInt 1 := ⟨_, rfl⟩
              have rg_45 := i32_r iv8_5
              have zx_44 : x_44.toInt = iv8_5.toInt + (1) := by rw [ex_44]; exact i32_add rfl (by decide) (by omega) (by omega)
              refine lv_iinc (v := x_44) (lv' := [(5, .int x_44), (4, .int iv8_4), (3, .int iv8_3), (0, .ref x), (1, .int i1), (2, .int i2)]) hx hb dX10_isSplit_90 hl (k := 0) rfl ex_44.symm (by decide) rfl (fun ls hl => ?_)
              refine lv_goto (tgt := 8) hx hb dX10_isSplit_93 (by decide) ?_
              exact ih8 iv8_3 iv8_4 x_44 _ _ L_26 h_27 (i32_r _).1 (i32_r _).2 (i32_r _).1 (i32_r _).2 (by omega) (by omega)  ls (by omega) hW hT hM   (lv_sub hl [0, 1, 2, 3, 4, 5] rfl)
  have zk_0 : (0 : Int32).toInt = 0 := by decide
  have zk_0 : (0 : Int32).toInt = 0 := by decide
  have zk_0 : (0 : Int32).toInt = 0 := by decide
  exact loop8 101 (0 : Int32) (0 : Int32) (0 : Int32) _ _ L h (by decide) (by decide) (by decide) (by decide) (by decide) (by decide)  ls (by omega) hW hT hM   hl

def wLX10_sits_0 : List Nat := [3, 61, 3, 62, 29, 42, 180, 1, 81, 162, 0, 68, 42, 180, 0, 60, 29, 51, 153, 0, 53, 42, 180, 0, 56, 29, 51, 154, 0, 44, 42, 29, 42, 180, 0, 81, 27, 46, 182, 1, 126, 154, 0, 30, 42, 29, 42, 180, 0, 84, 27, 46, 182, 1, 126, 153, 0, 6, 167, 0, 13, 42, 180, 0]
def wLX10_sits_1 : List Nat := [159, 28, 29, 79, 132, 2, 1, 132, 3, 1, 167, 255, 186, 28, 172]
theorem wX10_sits_0 : (cX10_sits.data.toList.map UInt8.toNat).drop 0 = wLX10_sits_0 ++ (wLX10_sits_1 ++ ([])) := by decide +kernel
theorem wX10_sits_1 : (cX10_sits.data.toList.map UInt8.toNat).drop 64 = wLX10_sits_1 ++ ([]) := hz_wn wX10_sits_0 rfl
theorem dX10_sits_0 : decode cX10_sits 0 = .ok (.iconst 0, 1) := dq_3 (hz_wg wX10_sits_0 (j := 0) (n := 3) rfl)
theorem dX10_sits_1 : decode cX10_sits 1 = .ok (.istore_n 2, 1) := dq_61 (hz_wg wX10_sits_0 (j := 1) (n := 61) rfl)
theorem dX10_sits_2 : decode cX10_sits 2 = .ok (.iconst 0, 1) := dq_3 (hz_wg wX10_sits_0 (j := 2) (n := 3) rfl)
theorem dX10_sits_3 : decode cX10_sits 3 = .ok (.istore_n 3, 1) := dq_62 (hz_wg wX10_sits_0 (j := 3) (n := 62) rfl)
theorem dX10_sits_4 : decode cX10_sits 4 = .ok (.iload_n 3, 1) := dq_29 (hz_wg wX10_sits_0 (j := 4) (n := 29) rfl)
theorem dX10_sits_5 : decode cX10_sits 5 = .ok (.aload_n 0, 1) := dq_42 (hz_wg wX10_sits_0 (j := 5) (n := 42) rfl)
theorem dX10_sits_6 : decode cX10_sits 6 = .ok (.getfield 337, 3) := dq_180 (hz_wg wX10_sits_0 (j := 6) (n := 180) rfl) (hz_wg wX10_sits_0 (j := 7) (n := 1) rfl) (hz_wg wX10_sits_0 (j := 8) (n := 81) rfl) rfl
theorem dX10_sits_9 : decode cX10_sits 9 = .ok (.if_icmp .ge 68, 3) := dq_162 (hz_wg wX10_sits_0 (j := 9) (n := 162) rfl) (hz_wg wX10_sits_0 (j := 10) (n := 0) rfl) (hz_wg wX10_sits_0 (j := 11) (n := 68) rfl) (by decide)
theorem dX10_sits_12 : decode cX10_sits 12 = .ok (.aload_n 0, 1) := dq_42 (hz_wg wX10_sits_0 (j := 12) (n := 42) rfl)
theorem dX10_sits_13 : decode cX10_sits 13 = .ok (.getfield 60, 3) := dq_180 (hz_wg wX10_sits_0 (j := 13) (n := 180) rfl) (hz_wg wX10_sits_0 (j := 14) (n := 0) rfl) (hz_wg wX10_sits_0 (j := 15) (n := 60) rfl) rfl
theorem dX10_sits_16 : decode cX10_sits 16 = .ok (.iload_n 3, 1) := dq_29 (hz_wg wX10_sits_0 (j := 16) (n := 29) rfl)
theorem dX10_sits_17 : decode cX10_sits 17 = .ok (.baload, 1) := dq_51 (hz_wg wX10_sits_0 (j := 17) (n := 51) rfl)
theorem dX10_sits_18 : decode cX10_sits 18 = .ok (.ifCond .eq 53, 3) := dq_153 (hz_wg wX10_sits_0 (j := 18) (n := 153) rfl) (hz_wg wX10_sits_0 (j := 19) (n := 0) rfl) (hz_wg wX10_sits_0 (j := 20) (n := 53) rfl) (by decide)
theorem dX10_sits_21 : decode cX10_sits 21 = .ok (.aload_n 0, 1) := dq_42 (hz_wg wX10_sits_0 (j := 21) (n := 42) rfl)
theorem dX10_sits_22 : decode cX10_sits 22 = .ok (.getfield 56, 3) := dq_180 (hz_wg wX10_sits_0 (j := 22) (n := 180) rfl) (hz_wg wX10_sits_0 (j := 23) (n := 0) rfl) (hz_wg wX10_sits_0 (j := 24) (n := 56) rfl) rfl
theorem dX10_sits_25 : decode cX10_sits 25 = .ok (.iload_n 3, 1) := dq_29 (hz_wg wX10_sits_0 (j := 25) (n := 29) rfl)
theorem dX10_sits_26 : decode cX10_sits 26 = .ok (.baload, 1) := dq_51 (hz_wg wX10_sits_0 (j := 26) (n := 51) rfl)
theorem dX10_sits_27 : decode cX10_sits 27 = .ok (.ifCond .ne 44, 3) := dq_154 (hz_wg wX10_sits_0 (j := 27) (n := 154) rfl) (hz_wg wX10_sits_0 (j := 28) (n := 0) rfl) (hz_wg wX10_sits_0 (j := 29) (n := 44) rfl) (by decide)
theorem dX10_sits_30 : decode cX10_sits 30 = .ok (.aload_n 0, 1) := dq_42 (hz_wg wX10_sits_0 (j := 30) (n := 42) rfl)
theorem dX10_sits_31 : decode cX10_sits 31 = .ok (.iload_n 3, 1) := dq_29 (hz_wg wX10_sits_0 (j := 31) (n := 29) rfl)
theorem dX10_sits_32 : decode cX10_sits 32 = .ok (.aload_n 0, 1) := dq_42 (hz_wg wX10_sits_0 (j := 32) (n := 42) rfl)
theorem dX10_sits_33 : decode cX10_sits 33 = .ok (.getfield 81, 3) := dq_180 (hz_wg wX10_sits_0 (j := 33) (n := 180) rfl) (hz_wg wX10_sits_0 (j := 34) (n := 0) rfl) (hz_wg wX10_sits_0 (j := 35) (n := 81) rfl) rfl
theorem dX10_sits_36 : decode cX10_sits 36 = .ok (.iload_n 1, 1) := dq_27 (hz_wg wX10_sits_0 (j := 36) (n := 27) rfl)
theorem dX10_sits_37 : decode cX10_sits 37 = .ok (.iaload, 1) := dq_46 (hz_wg wX10_sits_0 (j := 37) (n := 46) rfl)
theorem dX10_sits_38 : decode cX10_sits 38 = .ok (.invokevirtual 382, 3) := dq_182 (hz_wg wX10_sits_0 (j := 38) (n := 182) rfl) (hz_wg wX10_sits_0 (j := 39) (n := 1) rfl) (hz_wg wX10_sits_0 (j := 40) (n := 126) rfl) rfl
theorem dX10_sits_41 : decode cX10_sits 41 = .ok (.ifCond .ne 30, 3) := dq_154 (hz_wg wX10_sits_0 (j := 41) (n := 154) rfl) (hz_wg wX10_sits_0 (j := 42) (n := 0) rfl) (hz_wg wX10_sits_0 (j := 43) (n := 30) rfl) (by decide)
theorem dX10_sits_44 : decode cX10_sits 44 = .ok (.aload_n 0, 1) := dq_42 (hz_wg wX10_sits_0 (j := 44) (n := 42) rfl)
theorem dX10_sits_45 : decode cX10_sits 45 = .ok (.iload_n 3, 1) := dq_29 (hz_wg wX10_sits_0 (j := 45) (n := 29) rfl)
theorem dX10_sits_46 : decode cX10_sits 46 = .ok (.aload_n 0, 1) := dq_42 (hz_wg wX10_sits_0 (j := 46) (n := 42) rfl)
theorem dX10_sits_47 : decode cX10_sits 47 = .ok (.getfield 84, 3) := dq_180 (hz_wg wX10_sits_0 (j := 47) (n := 180) rfl) (hz_wg wX10_sits_0 (j := 48) (n := 0) rfl) (hz_wg wX10_sits_0 (j := 49) (n := 84) rfl) rfl
theorem dX10_sits_50 : decode cX10_sits 50 = .ok (.iload_n 1, 1) := dq_27 (hz_wg wX10_sits_0 (j := 50) (n := 27) rfl)
theorem dX10_sits_51 : decode cX10_sits 51 = .ok (.iaload, 1) := dq_46 (hz_wg wX10_sits_0 (j := 51) (n := 46) rfl)
theorem dX10_sits_52 : decode cX10_sits 52 = .ok (.invokevirtual 382, 3) := dq_182 (hz_wg wX10_sits_0 (j := 52) (n := 182) rfl) (hz_wg wX10_sits_0 (j := 53) (n := 1) rfl) (hz_wg wX10_sits_0 (j := 54) (n := 126) rfl) rfl
theorem dX10_sits_55 : decode cX10_sits 55 = .ok (.ifCond .eq 6, 3) := dq_153 (hz_wg wX10_sits_0 (j := 55) (n := 153) rfl) (hz_wg wX10_sits_0 (j := 56) (n := 0) rfl) (hz_wg wX10_sits_0 (j := 57) (n := 6) rfl) (by decide)
theorem dX10_sits_58 : decode cX10_sits 58 = .ok (.goto 13, 3) := dq_167 (hz_wg wX10_sits_0 (j := 58) (n := 167) rfl) (hz_wg wX10_sits_0 (j := 59) (n := 0) rfl) (hz_wg wX10_sits_0 (j := 60) (n := 13) rfl) (by decide)
theorem dX10_sits_61 : decode cX10_sits 61 = .ok (.aload_n 0, 1) := dq_42 (hz_wg wX10_sits_0 (j := 61) (n := 42) rfl)
theorem dX10_sits_62 : decode cX10_sits 62 = .ok (.getfield 159, 3) := dq_180 (hz_wg wX10_sits_0 (j := 62) (n := 180) rfl) (hz_wg wX10_sits_0 (j := 63) (n := 0) rfl) (hz_wg wX10_sits_1 (j := 0) (n := 159) rfl) rfl
theorem dX10_sits_65 : decode cX10_sits 65 = .ok (.iload_n 2, 1) := dq_28 (hz_wg wX10_sits_1 (j := 1) (n := 28) rfl)
theorem dX10_sits_66 : decode cX10_sits 66 = .ok (.iload_n 3, 1) := dq_29 (hz_wg wX10_sits_1 (j := 2) (n := 29) rfl)
theorem dX10_sits_67 : decode cX10_sits 67 = .ok (.iastore, 1) := dq_79 (hz_wg wX10_sits_1 (j := 3) (n := 79) rfl)
theorem dX10_sits_68 : decode cX10_sits 68 = .ok (.iinc 2 1, 3) := dq_132 (hz_wg wX10_sits_1 (j := 4) (n := 132) rfl) (hz_wg wX10_sits_1 (j := 5) (n := 2) rfl) (hz_wg wX10_sits_1 (j := 6) (n := 1) rfl) (by decide)
theorem dX10_sits_71 : decode cX10_sits 71 = .ok (.iinc 3 1, 3) := dq_132 (hz_wg wX10_sits_1 (j := 7) (n := 132) rfl) (hz_wg wX10_sits_1 (j := 8) (n := 3) rfl) (hz_wg wX10_sits_1 (j := 9) (n := 1) rfl) (by decide)
theorem dX10_sits_74 : decode cX10_sits 74 = .ok (.goto (-70), 3) := dq_167 (hz_wg wX10_sits_1 (j := 10) (n := 167) rfl) (hz_wg wX10_sits_1 (j := 11) (n := 255) rfl) (hz_wg wX10_sits_1 (j := 12) (n := 186) rfl) (by decide)
theorem dX10_sits_77 : decode cX10_sits 77 = .ok (.iload_n 2, 1) := dq_28 (hz_wg wX10_sits_1 (j := 13) (n := 28) rfl)
theorem dX10_sits_78 : decode cX10_sits 78 = .ok (.ireturn, 1) := dq_172 (hz_wg wX10_sits_1 (j := 14) (n := 172) rfl)
set_option maxHeartbeats 4000000 in
set_option maxRecDepth 100000 in
theorem t_X10_sits (l : Launch) (dC : Nat → ClassId) (dI : Nat → Nat → Nat) (dA : Nat → ClassId) (L : List Nat) (h : hx_h) (sz : Nat) (x : Nat) (i1 : Int32) (hT : hx_T T_tb L h) (gx : hx_g L h x 10) (hi1 : 0 ≤ i1.toInt ∧ i1.toInt ≤ 99) : Met l yX10_sits (Cond.code yX10_sits cX10_sits 4 (some .int) :: hx_all) ({ frames := 1, cells := 0, slots := 0, locals := 22 }) (va_Pc [.ref x, .int i1] (hx_B T_tb (P_ty dA) (dC, dI) vwCl L h sz)) (va_Qi (fun (r : Int32) (u : List Nat × hx_h) => (0 ≤ r.toInt ∧ r.toInt ≤ 40) ∧ hx_T T_tb u.1 u.2 ∧ hx_S T_tb [(98, 0)] L h u.1 u.2) (hx_E T_tb (P_ty dA) (dC, dI) vwCl (hx_A L sz)) (hx_A L sz)) 0 0 (hx_A L sz) := by
  refine hx_met (lv := [(0, .ref x), (1, .int i1)]) (by decide +kernel) rfl (Nat.le_of_ble_eq_true rfl) rfl ?_
  intro p e s m below meth c hx hb hml hr hlk hts0 hown hin hsz hW ls hl
  have hts : ∀ w ∈ hx_all, w.before _ s = true := fun w hw => hts0 w (List.mem_cons_of_mem _ hw)
  have hown : s.vm.findClass "SmallCourtModel" = some m.cls := hown
  have hM : hx_S T_tb [(98, 0)] L h L h := hx_S.rf
  refine lv_iconst (v := 0) hx hb dX10_sits_0 (by decide) ?_
  refine lv_istore_n (lv' := [(2, .int (0 : Int32)), (0, .ref x), (1, .int i1)]) hx hb dX10_sits_1 rfl hl (by decide) rfl (fun ls hl => ?_)
  refine lv_iconst (v := 0) hx hb dX10_sits_2 (by decide) ?_
  refine lv_istore_n (lv' := [(3, .int (0 : Int32)), (2, .int (0 : Int32)), (0, .ref x), (1, .int i1)]) hx hb dX10_sits_3 rfl hl (by decide) rfl (fun ls hl => ?_)
  have loop4 : ∀ (n4 : Nat) (iv4_2 iv4_3 : Int32) (H : Heap) (locs : List Loc) (hL1 : List Nat) (hl1 : hx_h), 0 ≤ iv4_2.toInt → iv4_2.toInt ≤ 40 → 0 ≤ iv4_3.toInt → iv4_3.toInt ≤ 40 → (iv4_2.toInt ≤ iv4_3.toInt) → ∀ (ls : Array Slot), 40 - iv4_3.toInt < (n4 : Int) → hx_W T_tb (P_ty dA) (dC, dI) vwCl (hx_A L sz) s.heap hL1 hl1 s H locs → hx_T T_tb hL1 hl1 → hx_S T_tb [(98, 0)] L h hL1 hl1 → lv_has ls 4 [(3, .int iv4_3), (2, .int iv4_2), (0, .ref x), (1, .int i1)] → W p l e ({ frames := 1, cells := 0, slots := 0, locals := 22 }) s m ([.ref x, .int i1] : List Value).toArray below meth c H locs 0 0 (MQ below (va_Qi (fun (r : Int32) (u : List Nat × hx_h) => (0 ≤ r.toInt ∧ r.toInt ≤ 40) ∧ hx_T T_tb u.1 u.2 ∧ hx_S T_tb [(98, 0)] L h u.1 u.2) (hx_E T_tb (P_ty dA) (dC, dI) vwCl (hx_A L sz)) (hx_A L sz)) ([.ref x, .int i1] : List Value).toArray s 0 0 (hx_A L sz)) (F0 m 4 ls []) := by
    intro n4
    induction n4 with
    | zero => intro iv4_2 iv4_3 H locs hL1 hl1 bliv4_2 buiv4_2 bliv4_3 buiv4_3 vi4_0 ls hn4; exfalso; omega
    | succ n4 ih4 =>
      intro iv4_2 iv4_3 H locs hL1 hl1 bliv4_2 buiv4_2 bliv4_3 buiv4_3 vi4_0 ls hn4 hW hT hM   hl
      refine lv_iload_n hx hb dX10_sits_4 rfl (lv_at hl 0 rfl) ?_
      refine lv_aload_n hx hb dX10_sits_5 rfl (lv_at hl 2 rfl) ?_
      refine hx_geti hx hb hts hC_10 hown hW hT (gx.S hM) tt_10 20 (by decide) rfl kw_1163 ⟨rfl, rfl, rfl⟩ dX10_sits_6 (fun x_1 ex_1 lx_1 ux_1 => ?_)
      have fx_1 := ex_1.symm
      refine hb_icmp_ge (zx := iv4_3.toInt) (zy := x_1.toInt) (tgt := 77) hx hb rfl rfl dX10_sits_9 (by decide) (fun c_2 => ?_) (fun c_2 => ?_)
      · skip
        refine lv_iload_n hx hb dX10_sits_77 rfl (lv_at hl 1 rfl) ?_
        exact hx_reti hx hb hr hlk hW ⟨(by first | omega | (refine ⟨?_, ?_⟩ <;> omega)), hT, hM⟩ dX10_sits_78
      · skip
        refine lv_aload_n hx hb dX10_sits_12 rfl (lv_at hl 2 rfl) ?_
        refine hx_getn hx hb hts hC_10 hown hW hT (gx.S hM) tt_10 28 (by decide) rfl kw_1171 ⟨rfl, rfl, rfl⟩ dX10_sits_13 (fun q_3 fq_3 gq_3 => ?_)
        refine lv_iload_n hx hb dX10_sits_16 rfl (lv_at hl 0 rfl) ?_
        refine hx_zald hx hb hW hT gq_3 tt_65 rfl ⟨by omega, by omega⟩ dX10_sits_17 (fun x_4 ex_4 lx_4 ux_4 => ?_)
        refine hb_if_eq (zx := x_4.toInt) (tgt := 71) hx hb rfl dX10_sits_18 (by decide) (fun c_5 => ?_) (fun c_5 => ?_)
        · skip
          obtain ⟨x_6, ex_6⟩ : ∃ y : Int32, y = iv4_3 + Int32.ofInt 1 := ⟨_, rfl⟩
          have rg_7 := i32_r iv4_3
          have zx_6 : x_6.toInt = iv4_3.toInt + (1) := by rw [ex_6]; exact i32_add rfl (by decide) (by omega) (by omega)
          refine lv_iinc (v := x_6) (lv' := [(3, .int x_6), (2, .int iv4_2), (0, .ref x), (1, .int i1)]) hx hb dX10_sits_71 hl (k := 0) rfl ex_6.symm (by decide) rfl (fun ls hl => ?_)
          refine lv_goto (tgt := 4) hx hb dX10_sits_74 (by decide) ?_
          exact ih4 iv4_2 x_6 _ _ hL1 hl1 (by omega) (by omega) (by omega) (by omega) (by omega) ls (by omega) hW hT hM   (lv_sub hl [0, 1, 2, 3] rfl)
        · skip
          refine lv_aload_n hx hb dX10_sits_21 rfl (lv_at hl 2 rfl) ?_
          refine hx_getn hx hb hts hC_10 hown hW hT (gx.S hM) tt_10 27 (by decide) rfl kw_1170 ⟨rfl, rfl, rfl⟩ dX10_sits_22 (fun q_8 fq_8 gq_8 => ?_)
          refine lv_iload_n hx hb dX10_sits_25 rfl (lv_at hl 0 rfl) ?_
          refine hx_zald hx hb hW hT gq_8 tt_64 rfl ⟨by omega, by omega⟩ dX10_sits_26 (fun x_9 ex_9 lx_9 ux_9 => ?_)
          refine hb_if_ne (zx := x_9.toInt) (tgt := 71) hx hb rfl dX10_sits_27 (by decide) (fun c_10 => ?_) (fun c_10 => ?_)
          · skip
            obtain ⟨x_11, ex_11⟩ : ∃ y : Int32, y = iv4_3 + Int32.ofInt 1 := ⟨_, rfl⟩
            have rg_12 := i32_r iv4_3
            have zx_11 : x_11.toInt = iv4_3.toInt + (1) := by rw [ex_11]; exact i32_add rfl (by decide) (by omega) (by omega)
            refine lv_iinc (v := x_11) (lv' := [(3, .int x_11), (2, .int iv4_2), (0, .ref x), (1, .int i1)]) hx hb dX10_sits_71 hl (k := 0) rfl ex_11.symm (by decide) rfl (fun ls hl => ?_)
            refine lv_goto (tgt := 4) hx hb dX10_sits_74 (by decide) ?_
            exact ih4 iv4_2 x_11 _ _ hL1 hl1 (by omega) (by omega) (by omega) (by omega) (by omega) ls (by omega) hW hT hM   (lv_sub hl [0, 1, 2, 3] rfl)
          · skip
            refine lv_aload_n hx hb dX10_sits_30 rfl (lv_at hl 2 rfl) ?_
            refine lv_iload_n hx hb dX10_sits_31 rfl (lv_at hl 0 rfl) ?_
            refine lv_aload_n hx hb dX10_sits_32 rfl (lv_at hl 2 rfl) ?_
            refine hx_getn hx hb hts hC_10 hown hW hT (gx.S hM) tt_10 37 (by decide) rfl kw_1180 ⟨rfl, rfl, rfl⟩ dX10_sits_33 (fun q_13 fq_13 gq_13 => ?_)
            refine lv_iload_n hx hb dX10_sits_36 rfl (lv_at hl 3 rfl) ?_
            refine hx_iald hx hb hW hT gq_13 tt_72 rfl ⟨by omega, by omega⟩ dX10_sits_37 (fun x_14 ex_14 lx_14 ux_14 => ?_)
            refine hx_goi (hx_runV (As := [.int iv4_3, .int x_14]) (rest := []) ⟨hx, hb, hml, hown, hts⟩ hW (gx.S hM) tt_10 (T := TX10) (N := 98) rfl (t_X10_isKinOf l dC dI dA hL1 hl1 H.size x iv4_3 x_14 hT (gx.S hM) ⟨by omega, by omega⟩ ⟨by omega, by omega⟩) (cwV 2 hts (hx_gV kw_1609 kw_1606 kw_1608 kw_75 kw_103) rfl rfl rfl (by decide +kernel) ⟨Nat.le_of_ble_eq_true rfl, Nat.le_of_ble_eq_true rfl⟩) rfl hl.1 rfl (Nat.le_of_ble_eq_true rfl) dX10_sits_38 ⟨Nat.le_of_ble_eq_true rfl, Nat.le_of_ble_eq_true rfl⟩) hW (fun r_17 L_15 h_16 H locs p_18 hW => ?_)
            obtain ⟨hr_19, hT, hs⟩ := p_18
            replace hT : hx_T T_tb L_15 h_16 := hT
            replace hs : hx_S T_tb [] hL1 hl1 L_15 h_16 := hs
            replace fx_1 := (hs.o (gx.S hM) trivial rfl).1.trans fx_1
            replace fq_3 := (hs.o (gx.S hM) trivial rfl).2.trans fq_3
            replace fq_8 := (hs.o (gx.S hM) trivial rfl).2.trans fq_8
            replace fq_13 := (hs.o (gx.S hM) trivial rfl).2.trans fq_13
            replace ex_4 := ex_4.trans (hs.a gq_3 rfl _).1.symm
            replace ex_9 := ex_9.trans (hs.a gq_8 rfl _).1.symm
            replace ex_14 := ex_14.trans (hs.a gq_13 rfl _).1.symm
            replace hM := hM.tr (hs.mono (by decide))
            replace gq_3 := gq_3.S hs
            replace gq_8 := gq_8.S hs
            replace gq_13 := gq_13.S hs
            refine hb_if_ne (zx := r_17.toInt) (tgt := 71) hx hb rfl dX10_sits_41 (by decide) (fun c_20 => ?_) (fun c_20 => ?_)
            · skip
              obtain ⟨x_21, ex_21⟩ : ∃ y : Int32, y = iv4_3 + Int32.ofInt 1 := ⟨_, rfl⟩
              have rg_22 := i32_r iv4_3
              have zx_21 : x_21.toInt = iv4_3.toInt + (1) := by rw [ex_21]; exact i32_add rfl (by decide) (by omega) (by omega)
              refine lv_iinc (v := x_21) (lv' := [(3, .int x_21), (2, .int iv4_2), (0, .ref x), (1, .int i1)]) hx hb dX10_sits_71 hl (k := 0) rfl ex_21.symm (by decide) rfl (fun ls hl => ?_)
              refine lv_goto (tgt := 4) hx hb dX10_sits_74 (by decide) ?_
              exact ih4 iv4_2 x_21 _ _ L_15 h_16 (by omega) (by omega) (by omega) (by omega) (by omega) ls (by omega) hW hT hM   (lv_sub hl [0, 1, 2, 3] rfl)
            · skip
              refine lv_aload_n hx hb dX10_sits_44 rfl (lv_at hl 2 rfl) ?_
              refine lv_iload_n hx hb dX10_sits_45 rfl (lv_at hl 0 rfl) ?_
              refine lv_aload_n hx hb dX10_sits_46 rfl (lv_at hl 2 rfl) ?_
              refine hx_getn hx hb hts hC_10 hown hW hT (gx.S hM) tt_10 38 (by decide) rfl kw_1181 ⟨rfl, rfl, rfl⟩ dX10_sits_47 (fun q_23 fq_23 gq_23 => ?_)
              refine lv_iload_n hx hb dX10_sits_50 rfl (lv_at hl 3 rfl) ?_
              refine hx_iald hx hb hW hT gq_23 tt_73 rfl ⟨by omega, by omega⟩ dX10_sits_51 (fun x_24 ex_24 lx_24 ux_24 => ?_)
              refine hx_goi (hx_runV (As := [.int iv4_3, .int x_24]) (rest := []) ⟨hx, hb, hml, hown, hts⟩ hW (gx.S hM) tt_10 (T := TX10) (N := 98) rfl (t_X10_isKinOf l dC dI dA L_15 h_16 H.size x iv4_3 x_24 hT (gx.S hM) ⟨by omega, by omega⟩ ⟨by omega, by omega⟩) (cwV 2 hts (hx_gV kw_1609 kw_1606 kw_1608 kw_75 kw_103) rfl rfl rfl (by decide +kernel) ⟨Nat.le_of_ble_eq_true rfl, Nat.le_of_ble_eq_true rfl⟩) rfl hl.1 rfl (Nat.le_of_ble_eq_true rfl) dX10_sits_52 ⟨Nat.le_of_ble_eq_true rfl, Nat.le_of_ble_eq_true rfl⟩) hW (fun r_27 L_25 h_26 H locs p_28 hW => ?_)
              obtain ⟨hr_29, hT, hs⟩ := p_28
              replace hT : hx_T T_tb L_25 h_26 := hT
              replace hs : hx_S T_tb [] L_15 h_16 L_25 h_26 := hs
              replace fx_1 := (hs.o (gx.S hM) trivial rfl).1.trans fx_1
              replace fq_3 := (hs.o (gx.S hM) trivial rfl).2.trans fq_3
              replace fq_8 := (hs.o (gx.S hM) trivial rfl).2.trans fq_8
              replace fq_13 := (hs.o (gx.S hM) trivial rfl).2.trans fq_13
              replace fq_23 := (hs.o (gx.S hM) trivial rfl).2.trans fq_23
              replace ex_4 := ex_4.trans (hs.a gq_3 rfl _).1.symm
              replace ex_9 := ex_9.trans (hs.a gq_8 rfl _).1.symm
              replace ex_14 := ex_14.trans (hs.a gq_13 rfl _).1.symm
              replace ex_24 := ex_24.trans (hs.a gq_23 rfl _).1.symm
              replace hM := hM.tr (hs.mono (by decide))
              replace gq_3 := gq_3.S hs
              replace gq_8 := gq_8.S hs
              replace gq_13 := gq_13.S hs
              replace gq_23 := gq_23.S hs
              refine hb_if_eq (zx := r_27.toInt) (tgt := 61) hx hb rfl dX10_sits_55 (by decide) (fun c_30 => ?_) (fun c_30 => ?_)
              · skip
                refine lv_aload_n hx hb dX10_sits_61 rfl (lv_at hl 2 rfl) ?_
                refine hx_getn hx hb hts hC_10 hown hW hT (gx.S hM) tt_10 65 (by decide) rfl kw_1208 ⟨rfl, rfl, rfl⟩ dX10_sits_62 (fun q_31 fq_31 gq_31 => ?_)
                refine lv_iload_n hx hb dX10_sits_65 rfl (lv_at hl 1 rfl) ?_
                refine lv_iload_n hx hb dX10_sits_66 rfl (lv_at hl 0 rfl) ?_
                refine hx_iast hx hb hW hT (hx_S.rf (M := [(98, 0)])) gq_31 tt_98 rfl ⟨by omega, by omega⟩ rfl ⟨by omega, by omega⟩ (List.mem_singleton.mpr rfl) dX10_sits_67 (fun H locs h_32 eh_32 hW hT hs => ?_)
                replace fx_1 := (hs.o (gx.S hM) trivial rfl).1.trans fx_1
                replace fq_3 := (hs.o (gx.S hM) trivial rfl).2.trans fq_3
                replace fq_8 := (hs.o (gx.S hM) trivial rfl).2.trans fq_8
                replace fq_13 := (hs.o (gx.S hM) trivial rfl).2.trans fq_13
                replace fq_23 := (hs.o (gx.S hM) trivial rfl).2.trans fq_23
                replace fq_31 := (hs.o (gx.S hM) trivial rfl).2.trans fq_31
                replace ex_4 := ex_4.trans (hs.a gq_3 rfl _).1.symm
                replace ex_9 := ex_9.trans (hs.a gq_8 rfl _).1.symm
                replace ex_14 := ex_14.trans (hs.a gq_13 rfl _).1.symm
                replace ex_24 := ex_24.trans (hs.a gq_23 rfl _).1.symm
                replace hM := hM.tr (hs.mono (by decide))
                replace gq_3 := gq_3.S hs
                replace gq_8 := gq_8.S hs
                replace gq_13 := gq_13.S hs
                replace gq_23 := gq_23.S hs
                replace gq_31 := gq_31.S hs
                obtain ⟨x_33, ex_33⟩ : ∃ y : Int32, y = iv4_2 + Int32.ofInt 1 := ⟨_, rfl⟩
                have rg_34 := i32_r iv4_2
                have zx_33 : x_33.toInt = iv4_2.toInt + (1) := by rw [ex_33]; exact i32_add rfl (by decide) (by omega) (by omega)
                refine lv_iinc (v := x_33) (lv' := [(2, .int x_33), (3, .int iv4_3), (0, .ref x), (1, .int i1)]) hx hb dX10_sits_68 hl (k := 1) rfl ex_33.symm (by decide) rfl (fun ls hl => ?_)
                obtain ⟨x_35, ex_35⟩ : ∃ y : Int32, y = iv4_3 + Int32.ofInt 1 := ⟨_, rfl⟩
                have rg_36 := i32_r iv4_3
                have zx_35 : x_35.toInt = iv4_3.toInt + (1) := by rw [ex_35]; exact i32_add rfl (by decide) (by omega) (by omega)
                refine lv_iinc (v := x_35) (lv' := [(3, .int x_35), (2, .int x_33), (0, .ref x), (1, .int i1)]) hx hb dX10_sits_71 hl (k := 1) rfl ex_35.symm (by decide) rfl (fun ls hl => ?_)
                refine lv_goto (tgt := 4) hx hb dX10_sits_74 (by decide) ?_
                exact ih4 x_33 x_35 _ _ L_25 h_32 (by omega) (by omega) (by omega) (by omega) (by omega) ls (by omega) hW hT hM   (lv_sub hl [0, 1, 2, 3] rfl)
              · skip
                refine lv_goto (tgt := 71) hx hb dX10_sits_58 (by decide) ?_
                obtain ⟨x_37, ex_37⟩ : ∃ y : Int32, y = iv4_3 + Int32.ofInt 1 := ⟨_, rfl⟩
                have rg_38 := i32_r iv4_3
                have zx_37 : x_37.toInt = iv4_3.toInt + (1) := by rw [ex_37]; exact i32_add rfl (by decide) (by omega) (by omega)
                refine lv_iinc (v := x_37) (lv' := [(3, .int x_37), (2, .int iv4_2), (0, .ref x), (1, .int i1)]) hx hb dX10_sits_71 hl (k := 0) rfl ex_37.symm (by decide) rfl (fun ls hl => ?_)
                refine lv_goto (tgt := 4) hx hb dX10_sits_74 (by decide) ?_
                exact ih4 iv4_2 x_37 _ _ L_25 h_26 (by omega) (by omega) (by omega) (by omega) (by omega) ls (by omega) hW hT hM   (lv_sub hl [0, 1, 2, 3] rfl)
  have zk_0 : (0 : Int32).toInt = 0 := by decide
  have zk_0 : (0 : Int32).toInt = 0 := by decide
  exact loop4 41 (0 : Int32) (0 : Int32) _ _ L h (by decide) (by decide) (by decide) (by decide) (by omega) ls (by omega) hW hT hM   hl

def wLX10_draws_0 : List Nat := [29, 54, 4, 3, 54, 5, 21, 5, 28, 162, 0, 102, 21, 5, 4, 96, 54, 6, 21, 6, 28, 162, 0, 84, 21, 6, 4, 96, 54, 7, 21, 7, 28, 162, 0, 66, 21, 4, 154, 0, 52, 42, 180, 0, 126, 6, 27, 104, 42, 180, 0, 159, 21, 5, 46, 79, 42, 180, 0, 126, 6, 27, 104, 4]
def wLX10_draws_1 : List Nat := [96, 42, 180, 0, 159, 21, 6, 46, 79, 42, 180, 0, 126, 6, 27, 104, 5, 96, 42, 180, 0, 159, 21, 7, 46, 79, 132, 4, 255, 132, 7, 1, 167, 255, 190, 132, 6, 1, 167, 255, 172, 132, 5, 1, 167, 255, 154, 177]
theorem wX10_draws_0 : (cX10_draws.data.toList.map UInt8.toNat).drop 0 = wLX10_draws_0 ++ (wLX10_draws_1 ++ ([])) := by decide +kernel
theorem wX10_draws_1 : (cX10_draws.data.toList.map UInt8.toNat).drop 64 = wLX10_draws_1 ++ ([]) := hz_wn wX10_draws_0 rfl
theorem dX10_draws_0 : decode cX10_draws 0 = .ok (.iload_n 3, 1) := dq_29 (hz_wg wX10_draws_0 (j := 0) (n := 29) rfl)
theorem dX10_draws_1 : decode cX10_draws 1 = .ok (.istore 4, 2) := dq_54 (hz_wg wX10_draws_0 (j := 1) (n := 54) rfl) (hz_wg wX10_draws_0 (j := 2) (n := 4) rfl)
theorem dX10_draws_3 : decode cX10_draws 3 = .ok (.iconst 0, 1) := dq_3 (hz_wg wX10_draws_0 (j := 3) (n := 3) rfl)
theorem dX10_draws_4 : decode cX10_draws 4 = .ok (.istore 5, 2) := dq_54 (hz_wg wX10_draws_0 (j := 4) (n := 54) rfl) (hz_wg wX10_draws_0 (j := 5) (n := 5) rfl)
theorem dX10_draws_6 : decode cX10_draws 6 = .ok (.iload 5, 2) := dq_21 (hz_wg wX10_draws_0 (j := 6) (n := 21) rfl) (hz_wg wX10_draws_0 (j := 7) (n := 5) rfl)
theorem dX10_draws_8 : decode cX10_draws 8 = .ok (.iload_n 2, 1) := dq_28 (hz_wg wX10_draws_0 (j := 8) (n := 28) rfl)
theorem dX10_draws_9 : decode cX10_draws 9 = .ok (.if_icmp .ge 102, 3) := dq_162 (hz_wg wX10_draws_0 (j := 9) (n := 162) rfl) (hz_wg wX10_draws_0 (j := 10) (n := 0) rfl) (hz_wg wX10_draws_0 (j := 11) (n := 102) rfl) (by decide)
theorem dX10_draws_12 : decode cX10_draws 12 = .ok (.iload 5, 2) := dq_21 (hz_wg wX10_draws_0 (j := 12) (n := 21) rfl) (hz_wg wX10_draws_0 (j := 13) (n := 5) rfl)
theorem dX10_draws_14 : decode cX10_draws 14 = .ok (.iconst 1, 1) := dq_4 (hz_wg wX10_draws_0 (j := 14) (n := 4) rfl)
theorem dX10_draws_15 : decode cX10_draws 15 = .ok (.iadd, 1) := dq_96 (hz_wg wX10_draws_0 (j := 15) (n := 96) rfl)
theorem dX10_draws_16 : decode cX10_draws 16 = .ok (.istore 6, 2) := dq_54 (hz_wg wX10_draws_0 (j := 16) (n := 54) rfl) (hz_wg wX10_draws_0 (j := 17) (n := 6) rfl)
theorem dX10_draws_18 : decode cX10_draws 18 = .ok (.iload 6, 2) := dq_21 (hz_wg wX10_draws_0 (j := 18) (n := 21) rfl) (hz_wg wX10_draws_0 (j := 19) (n := 6) rfl)
theorem dX10_draws_20 : decode cX10_draws 20 = .ok (.iload_n 2, 1) := dq_28 (hz_wg wX10_draws_0 (j := 20) (n := 28) rfl)
theorem dX10_draws_21 : decode cX10_draws 21 = .ok (.if_icmp .ge 84, 3) := dq_162 (hz_wg wX10_draws_0 (j := 21) (n := 162) rfl) (hz_wg wX10_draws_0 (j := 22) (n := 0) rfl) (hz_wg wX10_draws_0 (j := 23) (n := 84) rfl) (by decide)
theorem dX10_draws_24 : decode cX10_draws 24 = .ok (.iload 6, 2) := dq_21 (hz_wg wX10_draws_0 (j := 24) (n := 21) rfl) (hz_wg wX10_draws_0 (j := 25) (n := 6) rfl)
theorem dX10_draws_26 : decode cX10_draws 26 = .ok (.iconst 1, 1) := dq_4 (hz_wg wX10_draws_0 (j := 26) (n := 4) rfl)
theorem dX10_draws_27 : decode cX10_draws 27 = .ok (.iadd, 1) := dq_96 (hz_wg wX10_draws_0 (j := 27) (n := 96) rfl)
theorem dX10_draws_28 : decode cX10_draws 28 = .ok (.istore 7, 2) := dq_54 (hz_wg wX10_draws_0 (j := 28) (n := 54) rfl) (hz_wg wX10_draws_0 (j := 29) (n := 7) rfl)
theorem dX10_draws_30 : decode cX10_draws 30 = .ok (.iload 7, 2) := dq_21 (hz_wg wX10_draws_0 (j := 30) (n := 21) rfl) (hz_wg wX10_draws_0 (j := 31) (n := 7) rfl)
theorem dX10_draws_32 : decode cX10_draws 32 = .ok (.iload_n 2, 1) := dq_28 (hz_wg wX10_draws_0 (j := 32) (n := 28) rfl)
theorem dX10_draws_33 : decode cX10_draws 33 = .ok (.if_icmp .ge 66, 3) := dq_162 (hz_wg wX10_draws_0 (j := 33) (n := 162) rfl) (hz_wg wX10_draws_0 (j := 34) (n := 0) rfl) (hz_wg wX10_draws_0 (j := 35) (n := 66) rfl) (by decide)
theorem dX10_draws_36 : decode cX10_draws 36 = .ok (.iload 4, 2) := dq_21 (hz_wg wX10_draws_0 (j := 36) (n := 21) rfl) (hz_wg wX10_draws_0 (j := 37) (n := 4) rfl)
theorem dX10_draws_38 : decode cX10_draws 38 = .ok (.ifCond .ne 52, 3) := dq_154 (hz_wg wX10_draws_0 (j := 38) (n := 154) rfl) (hz_wg wX10_draws_0 (j := 39) (n := 0) rfl) (hz_wg wX10_draws_0 (j := 40) (n := 52) rfl) (by decide)
theorem dX10_draws_41 : decode cX10_draws 41 = .ok (.aload_n 0, 1) := dq_42 (hz_wg wX10_draws_0 (j := 41) (n := 42) rfl)
theorem dX10_draws_42 : decode cX10_draws 42 = .ok (.getfield 126, 3) := dq_180 (hz_wg wX10_draws_0 (j := 42) (n := 180) rfl) (hz_wg wX10_draws_0 (j := 43) (n := 0) rfl) (hz_wg wX10_draws_0 (j := 44) (n := 126) rfl) rfl
theorem dX10_draws_45 : decode cX10_draws 45 = .ok (.iconst 3, 1) := dq_6 (hz_wg wX10_draws_0 (j := 45) (n := 6) rfl)
theorem dX10_draws_46 : decode cX10_draws 46 = .ok (.iload_n 1, 1) := dq_27 (hz_wg wX10_draws_0 (j := 46) (n := 27) rfl)
theorem dX10_draws_47 : decode cX10_draws 47 = .ok (.imul, 1) := dq_104 (hz_wg wX10_draws_0 (j := 47) (n := 104) rfl)
theorem dX10_draws_48 : decode cX10_draws 48 = .ok (.aload_n 0, 1) := dq_42 (hz_wg wX10_draws_0 (j := 48) (n := 42) rfl)
theorem dX10_draws_49 : decode cX10_draws 49 = .ok (.getfield 159, 3) := dq_180 (hz_wg wX10_draws_0 (j := 49) (n := 180) rfl) (hz_wg wX10_draws_0 (j := 50) (n := 0) rfl) (hz_wg wX10_draws_0 (j := 51) (n := 159) rfl) rfl
theorem dX10_draws_52 : decode cX10_draws 52 = .ok (.iload 5, 2) := dq_21 (hz_wg wX10_draws_0 (j := 52) (n := 21) rfl) (hz_wg wX10_draws_0 (j := 53) (n := 5) rfl)
theorem dX10_draws_54 : decode cX10_draws 54 = .ok (.iaload, 1) := dq_46 (hz_wg wX10_draws_0 (j := 54) (n := 46) rfl)
theorem dX10_draws_55 : decode cX10_draws 55 = .ok (.iastore, 1) := dq_79 (hz_wg wX10_draws_0 (j := 55) (n := 79) rfl)
theorem dX10_draws_56 : decode cX10_draws 56 = .ok (.aload_n 0, 1) := dq_42 (hz_wg wX10_draws_0 (j := 56) (n := 42) rfl)
theorem dX10_draws_57 : decode cX10_draws 57 = .ok (.getfield 126, 3) := dq_180 (hz_wg wX10_draws_0 (j := 57) (n := 180) rfl) (hz_wg wX10_draws_0 (j := 58) (n := 0) rfl) (hz_wg wX10_draws_0 (j := 59) (n := 126) rfl) rfl
theorem dX10_draws_60 : decode cX10_draws 60 = .ok (.iconst 3, 1) := dq_6 (hz_wg wX10_draws_0 (j := 60) (n := 6) rfl)
theorem dX10_draws_61 : decode cX10_draws 61 = .ok (.iload_n 1, 1) := dq_27 (hz_wg wX10_draws_0 (j := 61) (n := 27) rfl)
theorem dX10_draws_62 : decode cX10_draws 62 = .ok (.imul, 1) := dq_104 (hz_wg wX10_draws_0 (j := 62) (n := 104) rfl)
theorem dX10_draws_63 : decode cX10_draws 63 = .ok (.iconst 1, 1) := dq_4 (hz_wg wX10_draws_0 (j := 63) (n := 4) rfl)
theorem dX10_draws_64 : decode cX10_draws 64 = .ok (.iadd, 1) := dq_96 (hz_wg wX10_draws_1 (j := 0) (n := 96) rfl)
theorem dX10_draws_65 : decode cX10_draws 65 = .ok (.aload_n 0, 1) := dq_42 (hz_wg wX10_draws_1 (j := 1) (n := 42) rfl)
theorem dX10_draws_66 : decode cX10_draws 66 = .ok (.getfield 159, 3) := dq_180 (hz_wg wX10_draws_1 (j := 2) (n := 180) rfl) (hz_wg wX10_draws_1 (j := 3) (n := 0) rfl) (hz_wg wX10_draws_1 (j := 4) (n := 159) rfl) rfl
theorem dX10_draws_69 : decode cX10_draws 69 = .ok (.iload 6, 2) := dq_21 (hz_wg wX10_draws_1 (j := 5) (n := 21) rfl) (hz_wg wX10_draws_1 (j := 6) (n := 6) rfl)
theorem dX10_draws_71 : decode cX10_draws 71 = .ok (.iaload, 1) := dq_46 (hz_wg wX10_draws_1 (j := 7) (n := 46) rfl)
theorem dX10_draws_72 : decode cX10_draws 72 = .ok (.iastore, 1) := dq_79 (hz_wg wX10_draws_1 (j := 8) (n := 79) rfl)
theorem dX10_draws_73 : decode cX10_draws 73 = .ok (.aload_n 0, 1) := dq_42 (hz_wg wX10_draws_1 (j := 9) (n := 42) rfl)
theorem dX10_draws_74 : decode cX10_draws 74 = .ok (.getfield 126, 3) := dq_180 (hz_wg wX10_draws_1 (j := 10) (n := 180) rfl) (hz_wg wX10_draws_1 (j := 11) (n := 0) rfl) (hz_wg wX10_draws_1 (j := 12) (n := 126) rfl) rfl
theorem dX10_draws_77 : decode cX10_draws 77 = .ok (.iconst 3, 1) := dq_6 (hz_wg wX10_draws_1 (j := 13) (n := 6) rfl)
theorem dX10_draws_78 : decode cX10_draws 78 = .ok (.iload_n 1, 1) := dq_27 (hz_wg wX10_draws_1 (j := 14) (n := 27) rfl)
theorem dX10_draws_79 : decode cX10_draws 79 = .ok (.imul, 1) := dq_104 (hz_wg wX10_draws_1 (j := 15) (n := 104) rfl)
theorem dX10_draws_80 : decode cX10_draws 80 = .ok (.iconst 2, 1) := dq_5 (hz_wg wX10_draws_1 (j := 16) (n := 5) rfl)
theorem dX10_draws_81 : decode cX10_draws 81 = .ok (.iadd, 1) := dq_96 (hz_wg wX10_draws_1 (j := 17) (n := 96) rfl)
theorem dX10_draws_82 : decode cX10_draws 82 = .ok (.aload_n 0, 1) := dq_42 (hz_wg wX10_draws_1 (j := 18) (n := 42) rfl)
theorem dX10_draws_83 : decode cX10_draws 83 = .ok (.getfield 159, 3) := dq_180 (hz_wg wX10_draws_1 (j := 19) (n := 180) rfl) (hz_wg wX10_draws_1 (j := 20) (n := 0) rfl) (hz_wg wX10_draws_1 (j := 21) (n := 159) rfl) rfl
theorem dX10_draws_86 : decode cX10_draws 86 = .ok (.iload 7, 2) := dq_21 (hz_wg wX10_draws_1 (j := 22) (n := 21) rfl) (hz_wg wX10_draws_1 (j := 23) (n := 7) rfl)
theorem dX10_draws_88 : decode cX10_draws 88 = .ok (.iaload, 1) := dq_46 (hz_wg wX10_draws_1 (j := 24) (n := 46) rfl)
theorem dX10_draws_89 : decode cX10_draws 89 = .ok (.iastore, 1) := dq_79 (hz_wg wX10_draws_1 (j := 25) (n := 79) rfl)
theorem dX10_draws_90 : decode cX10_draws 90 = .ok (.iinc 4 (-1), 3) := dq_132 (hz_wg wX10_draws_1 (j := 26) (n := 132) rfl) (hz_wg wX10_draws_1 (j := 27) (n := 4) rfl) (hz_wg wX10_draws_1 (j := 28) (n := 255) rfl) (by decide)
theorem dX10_draws_93 : decode cX10_draws 93 = .ok (.iinc 7 1, 3) := dq_132 (hz_wg wX10_draws_1 (j := 29) (n := 132) rfl) (hz_wg wX10_draws_1 (j := 30) (n := 7) rfl) (hz_wg wX10_draws_1 (j := 31) (n := 1) rfl) (by decide)
theorem dX10_draws_96 : decode cX10_draws 96 = .ok (.goto (-66), 3) := dq_167 (hz_wg wX10_draws_1 (j := 32) (n := 167) rfl) (hz_wg wX10_draws_1 (j := 33) (n := 255) rfl) (hz_wg wX10_draws_1 (j := 34) (n := 190) rfl) (by decide)
theorem dX10_draws_99 : decode cX10_draws 99 = .ok (.iinc 6 1, 3) := dq_132 (hz_wg wX10_draws_1 (j := 35) (n := 132) rfl) (hz_wg wX10_draws_1 (j := 36) (n := 6) rfl) (hz_wg wX10_draws_1 (j := 37) (n := 1) rfl) (by decide)
theorem dX10_draws_102 : decode cX10_draws 102 = .ok (.goto (-84), 3) := dq_167 (hz_wg wX10_draws_1 (j := 38) (n := 167) rfl) (hz_wg wX10_draws_1 (j := 39) (n := 255) rfl) (hz_wg wX10_draws_1 (j := 40) (n := 172) rfl) (by decide)
theorem dX10_draws_105 : decode cX10_draws 105 = .ok (.iinc 5 1, 3) := dq_132 (hz_wg wX10_draws_1 (j := 41) (n := 132) rfl) (hz_wg wX10_draws_1 (j := 42) (n := 5) rfl) (hz_wg wX10_draws_1 (j := 43) (n := 1) rfl) (by decide)
theorem dX10_draws_108 : decode cX10_draws 108 = .ok (.goto (-102), 3) := dq_167 (hz_wg wX10_draws_1 (j := 44) (n := 167) rfl) (hz_wg wX10_draws_1 (j := 45) (n := 255) rfl) (hz_wg wX10_draws_1 (j := 46) (n := 154) rfl) (by decide)
theorem dX10_draws_111 : decode cX10_draws 111 = .ok (.return_, 1) := dq_177 (hz_wg wX10_draws_1 (j := 47) (n := 177) rfl)
set_option maxHeartbeats 4000000 in
set_option maxRecDepth 100000 in
theorem t_X10_draws (l : Launch) (dC : Nat → ClassId) (dI : Nat → Nat → Nat) (dA : Nat → ClassId) (L : List Nat) (h : hx_h) (sz : Nat) (x : Nat) (i1 : Int32) (i2 : Int32) (i3 : Int32) (hT : hx_T T_tb L h) (gx : hx_g L h x 10) (hi1 : 0 ≤ i1.toInt ∧ i1.toInt ≤ 99) (hi2 : 0 ≤ i2.toInt ∧ i2.toInt ≤ 40) : Met l yX10_draws (Cond.code yX10_draws cX10_draws 8 none :: hx_all) ({ frames := 0, cells := 0, slots := 0, locals := 0 }) (va_Pc [.ref x, .int i1, .int i2, .int i3] (hx_B T_tb (P_ty dA) (dC, dI) vwCl L h sz)) (va_Qv (fun (u : List Nat × hx_h) => hx_T T_tb u.1 u.2 ∧ hx_S T_tb [(87, 0)] L h u.1 u.2) (hx_E T_tb (P_ty dA) (dC, dI) vwCl (hx_A L sz)) (hx_A L sz)) 0 0 (hx_A L sz) := by
  refine hx_met (lv := [(0, .ref x), (1, .int i1), (2, .int i2), (3, .int i3)]) (by decide +kernel) rfl (Nat.le_of_ble_eq_true rfl) rfl ?_
  intro p e s m below meth c hx hb hml hr hlk hts0 hown hin hsz hW ls hl
  have hts : ∀ w ∈ hx_all, w.before _ s = true := fun w hw => hts0 w (List.mem_cons_of_mem _ hw)
  have hown : s.vm.findClass "SmallCourtModel" = some m.cls := hown
  have hM : hx_S T_tb [(87, 0)] L h L h := hx_S.rf
  refine lv_iload_n hx hb dX10_draws_0 rfl (lv_at hl 3 rfl) ?_
  refine lv_istore (lv' := [(4, .int i3), (0, .ref x), (1, .int i1), (2, .int i2), (3, .int i3)]) hx hb dX10_draws_1 hl (by decide) rfl (fun ls hl => ?_)
  refine lv_iconst (v := 0) hx hb dX10_draws_3 (by decide) ?_
  refine lv_istore (lv' := [(5, .int (0 : Int32)), (4, .int i3), (0, .ref x), (1, .int i1), (2, .int i2), (3, .int i3)]) hx hb dX10_draws_4 hl (by decide) rfl (fun ls hl => ?_)
  have loop6 : ∀ (n6 : Nat) (iv6_4 iv6_5 : Int32) (H : Heap) (locs : List Loc) (hL1 : List Nat) (hl1 : hx_h), -2147483648 ≤ iv6_4.toInt → iv6_4.toInt ≤ 2147483647 → 0 ≤ iv6_5.toInt → iv6_5.toInt ≤ 40 → ∀ (ls : Array Slot), 40 - iv6_5.toInt < (n6 : Int) → hx_W T_tb (P_ty dA) (dC, dI) vwCl (hx_A L sz) s.heap hL1 hl1 s H locs → hx_T T_tb hL1 hl1 → hx_S T_tb [(87, 0)] L h hL1 hl1 → lv_has ls 8 [(5, .int iv6_5), (4, .int iv6_4), (0, .ref x), (1, .int i1), (2, .int i2), (3, .int i3)] → W p l e ({ frames := 0, cells := 0, slots := 0, locals := 0 }) s m ([.ref x, .int i1, .int i2, .int i3] : List Value).toArray below meth c H locs 0 0 (MQ below (va_Qv (fun (u : List Nat × hx_h) => hx_T T_tb u.1 u.2 ∧ hx_S T_tb [(87, 0)] L h u.1 u.2) (hx_E T_tb (P_ty dA) (dC, dI) vwCl (hx_A L sz)) (hx_A L sz)) ([.ref x, .int i1, .int i2, .int i3] : List Value).toArray s 0 0 (hx_A L sz)) (F0 m 6 ls []) := by
    intro n6
    induction n6 with
    | zero => intro iv6_4 iv6_5 H locs hL1 hl1 bliv6_4 buiv6_4 bliv6_5 buiv6_5  ls hn6; exfalso; omega
    | succ n6 ih6 =>
      intro iv6_4 iv6_5 H locs hL1 hl1 bliv6_4 buiv6_4 bliv6_5 buiv6_5  ls hn6 hW hT hM   hl
      refine lv_iload hx hb dX10_draws_6 (lv_at hl 0 rfl) ?_
      refine lv_iload_n hx hb dX10_draws_8 rfl (lv_at hl 4 rfl) ?_
      refine hb_icmp_ge (zx := iv6_5.toInt) (zy := i2.toInt) (tgt := 111) hx hb rfl rfl dX10_draws_9 (by decide) (fun c_1 => ?_) (fun c_1 => ?_)
      · skip
        exact hx_retv hx hb hr hlk hW ⟨hT, hM⟩ dX10_draws_111
      · skip
        refine lv_iload hx hb dX10_draws_12 (lv_at hl 0 rfl) ?_
        refine lv_iconst (v := 1) hx hb dX10_draws_14 (by decide) ?_
        refine lv_iadd hx hb dX10_draws_15 ?_
        have rg_2 := i32_r iv6_5
        refine lv_topi (fun x_3 ex_3 => ?_)
        have zx_3 : x_3.toInt = iv6_5.toInt + 1 := by rw [ex_3]; exact i32_add rfl (by decide) (by omega) (by omega)
        refine lv_istore (lv' := [(6, .int x_3), (5, .int iv6_5), (4, .int iv6_4), (0, .ref x), (1, .int i1), (2, .int i2), (3, .int i3)]) hx hb dX10_draws_16 hl (by decide) rfl (fun ls hl => ?_)
        have loop18 : ∀ (n18 : Nat) (iv18_4 iv18_6 : Int32) (H : Heap) (locs : List Loc) (hL1 : List Nat) (hl1 : hx_h), -2147483648 ≤ iv18_4.toInt → iv18_4.toInt ≤ 2147483647 → 0 ≤ iv18_6.toInt → iv18_6.toInt ≤ 40 → ∀ (ls : Array Slot), 40 - iv18_6.toInt < (n18 : Int) → hx_W T_tb (P_ty dA) (dC, dI) vwCl (hx_A L sz) s.heap hL1 hl1 s H locs → hx_T T_tb hL1 hl1 → hx_S T_tb [(87, 0)] L h hL1 hl1 → lv_has ls 8 [(6, .int iv18_6), (5, .int iv6_5), (4, .int iv18_4), (0, .ref x), (1, .int i1), (2, .int i2), (3, .int i3)] → W p l e ({ frames := 0, cells := 0, slots := 0, locals := 0 }) s m ([.ref x, .int i1, .int i2, .int i3] : List Value).toArray below meth c H locs 0 0 (MQ below (va_Qv (fun (u : List Nat × hx_h) => hx_T T_tb u.1 u.2 ∧ hx_S T_tb [(87, 0)] L h u.1 u.2) (hx_E T_tb (P_ty dA) (dC, dI) vwCl (hx_A L sz)) (hx_A L sz)) ([.ref x, .int i1, .int i2, .int i3] : List Value).toArray s 0 0 (hx_A L sz)) (F0 m 18 ls []) := by
          intro n18
          induction n18 with
          | zero => intro iv18_4 iv18_6 H locs hL1 hl1 bliv18_4 buiv18_4 bliv18_6 buiv18_6  ls hn18; exfalso; omega
          | succ n18 ih18 =>
            intro iv18_4 iv18_6 H locs hL1 hl1 bliv18_4 buiv18_4 bliv18_6 buiv18_6  ls hn18 hW hT hM   hl
            refine lv_iload hx hb dX10_draws_18 (lv_at hl 0 rfl) ?_
            refine lv_iload_n hx hb dX10_draws_20 rfl (lv_at hl 5 rfl) ?_
            refine hb_icmp_ge (zx := iv18_6.toInt) (zy := i2.toInt) (tgt := 105) hx hb rfl rfl dX10_draws_21 (by decide) (fun c_4 => ?_) (fun c_4 => ?_)
            · skip
              obtain ⟨x_5, ex_5⟩ : ∃ y : Int32, y = iv6_5 + Int32.ofInt 1 := ⟨_, rfl⟩
              have zx_5 : x_5.toInt = iv6_5.toInt + (1) := by rw [ex_5]; exact i32_add rfl (by decide) (by omega) (by omega)
              refine lv_iinc (v := x_5) (lv' := [(5, .int x_5), (6, .int iv18_6), (4, .int iv18_4), (0, .ref x), (1, .int i1), (2, .int i2), (3, .int i3)]) hx hb dX10_draws_105 hl (k := 1) rfl ex_5.symm (by decide) rfl (fun ls hl => ?_)
              refine lv_goto (tgt := 6) hx hb dX10_draws_108 (by decide) ?_
              exact ih6 iv18_4 x_5 _ _ hL1 hl1 (i32_r _).1 (i32_r _).2 (by omega) (by omega)  ls (by omega) hW hT hM   (lv_sub hl [0, 2, 3, 4, 5, 6] rfl)
            · skip
              refine lv_iload hx hb dX10_draws_24 (lv_at hl 0 rfl) ?_
              refine lv_iconst (v := 1) hx hb dX10_draws_26 (by decide) ?_
              refine lv_iadd hx hb dX10_draws_27 ?_
              have rg_6 := i32_r iv18_6
              refine lv_topi (fun x_7 ex_7 => ?_)
              have zx_7 : x_7.toInt = iv18_6.toInt + 1 := by rw [ex_7]; exact i32_add rfl (by decide) (by omega) (by omega)
              refine lv_istore (lv' := [(7, .int x_7), (6, .int iv18_6), (5, .int iv6_5), (4, .int iv18_4), (0, .ref x), (1, .int i1), (2, .int i2), (3, .int i3)]) hx hb dX10_draws_28 hl (by decide) rfl (fun ls hl => ?_)
              have loop30 : ∀ (n30 : Nat) (iv30_4 iv30_7 : Int32) (H : Heap) (locs : List Loc) (hL1 : List Nat) (hl1 : hx_h), -2147483648 ≤ iv30_4.toInt → iv30_4.toInt ≤ 2147483647 → 0 ≤ iv30_7.toInt → iv30_7.toInt ≤ 40 → ∀ (ls : Array Slot), 40 - iv30_7.toInt < (n30 : Int) → hx_W T_tb (P_ty dA) (dC, dI) vwCl (hx_A L sz) s.heap hL1 hl1 s H locs → hx_T T_tb hL1 hl1 → hx_S T_tb [(87, 0)] L h hL1 hl1 → lv_has ls 8 [(7, .int iv30_7), (6, .int iv18_6), (5, .int iv6_5), (4, .int iv30_4), (0, .ref x), (1, .int i1), (2, .int i2), (3, .int i3)] → W p l e ({ frames := 0, cells := 0, slots := 0, locals := 0 }) s m ([.ref x, .int i1, .int i2, .int i3] : List Value).toArray below meth c H locs 0 0 (MQ below (va_Qv (fun (u : List Nat × hx_h) => hx_T T_tb u.1 u.2 ∧ hx_S T_tb [(87, 0)] L h u.1 u.2) (hx_E T_tb (P_ty dA) (dC, dI) vwCl (hx_A L sz)) (hx_A L sz)) ([.ref x, .int i1, .int i2, .int i3] : List Value).toArray s 0 0 (hx_A L sz)) (F0 m 30 ls []) := by
                intro n30
                induction n30 with
                | zero => intro iv30_4 iv30_7 H locs hL1 hl1 bliv30_4 buiv30_4 bliv30_7 buiv30_7  ls hn30; exfalso; omega
                | succ n30 ih30 =>
                  intro iv30_4 iv30_7 H locs hL1 hl1 bliv30_4 buiv30_4 bliv30_7 buiv30_7  ls hn30 hW hT hM   hl
                  refine lv_iload hx hb dX10_draws_30 (lv_at hl 0 rfl) ?_
                  refine lv_iload_n hx hb dX10_draws_32 rfl (lv_at hl 6 rfl) ?_
                  refine hb_icmp_ge (zx := iv30_7.toInt) (zy := i2.toInt) (tgt := 99) hx hb rfl rfl dX10_draws_33 (by decide) (fun c_8 => ?_) (fun c_8 => ?_)
                  · skip
                    obtain ⟨x_9, ex_9⟩ : ∃ y : Int32, y = iv18_6 + Int32.ofInt 1 := ⟨_, rfl⟩
                    have zx_9 : x_9.toInt = iv18_6.toInt + (1) := by rw [ex_9]; exact i32_add rfl (by decide) (by omega) (by omega)
                    refine lv_iinc (v := x_9) (lv' := [(6, .int x_9), (7, .int iv30_7), (5, .int iv6_5), (4, .int iv30_4), (0, .ref x), (1, .int i1), (2, .int i2), (3, .int i3)]) hx hb dX10_draws_99 hl (k := 1) rfl ex_9.symm (by decide) rfl (fun ls hl => ?_)
                    refine lv_goto (tgt := 18) hx hb dX10_draws_102 (by decide) ?_
                    exact ih18 iv30_4 x_9 _ _ hL1 hl1 (i32_r _).1 (i32_r _).2 (by omega) (by omega)  ls (by omega) hW hT hM   (lv_sub hl [0, 2, 3, 4, 5, 6, 7] rfl)
                  · skip
                    refine lv_iload hx hb dX10_draws_36 (lv_at hl 3 rfl) ?_
                    refine hb_if_ne (zx := iv30_4.toInt) (tgt := 90) hx hb rfl dX10_draws_38 (by decide) (fun c_10 => ?_) (fun c_10 => ?_)
                    · skip
                      obtain ⟨x_11, ex_11⟩ : ∃ y : Int32, y = iv30_4 + Int32.ofInt (-1) := ⟨_, rfl⟩
                      have rg_12 := i32_r iv30_4
                      refine lv_iinc (v := x_11) (lv' := [(4, .int x_11), (7, .int iv30_7), (6, .int iv18_6), (5, .int iv6_5), (0, .ref x), (1, .int i1), (2, .int i2), (3, .int i3)]) hx hb dX10_draws_90 hl (k := 3) rfl ex_11.symm (by decide) rfl (fun ls hl => ?_)
                      obtain ⟨x_13, ex_13⟩ : ∃ y : Int32, y = iv30_7 + Int32.ofInt 1 := ⟨_, rfl⟩
                      have rg_14 := i32_r iv30_7
                      have zx_13 : x_13.toInt = iv30_7.toInt + (1) := by rw [ex_13]; exact i32_add rfl (by decide) (by omega) (by omega)
                      refine lv_iinc (v := x_13) (lv' := [(7, .int x_13), (4, .int x_11), (6, .int iv18_6), (5, .int iv6_5), (0, .ref x), (1, .int i1), (2, .int i2), (3, .int i3)]) hx hb dX10_draws_93 hl (k := 1) rfl ex_13.symm (by decide) rfl (fun ls hl => ?_)
                      refine lv_goto (tgt := 30) hx hb dX10_draws_96 (by decide) ?_
                      exact ih30 x_11 x_13 _ _ hL1 hl1 (i32_r _).1 (i32_r _).2 (by omega) (by omega)  ls (by omega) hW hT hM   (lv_sub hl [0, 2, 3, 1, 4, 5, 6, 7] rfl)
                    · skip
                      refine lv_aload_n hx hb dX10_draws_41 rfl (lv_at hl 4 rfl) ?_
                      refine hx_getn hx hb hts hC_10 hown hW hT (gx.S hM) tt_10 52 (by decide) rfl kw_1195 ⟨rfl, rfl, rfl⟩ dX10_draws_42 (fun q_15 fq_15 gq_15 => ?_)
                      refine lv_iconst (v := 3) hx hb dX10_draws_45 (by decide) ?_
                      refine lv_iload_n hx hb dX10_draws_46 rfl (lv_at hl 5 rfl) ?_
                      refine lv_imul hx hb dX10_draws_47 ?_
                      refine lv_topi (fun x_16 ex_16 => ?_)
                      have zx_16 : x_16.toInt = 3 * i1.toInt := by rw [ex_16]; exact i32_mul (by decide) rfl rfl (by omega) (by omega)
                      refine lv_aload_n hx hb dX10_draws_48 rfl (lv_at hl 4 rfl) ?_
                      refine hx_getn hx hb hts hC_10 hown hW hT (gx.S hM) tt_10 65 (by decide) rfl kw_1208 ⟨rfl, rfl, rfl⟩ dX10_draws_49 (fun q_17 fq_17 gq_17 => ?_)
                      refine lv_iload hx hb dX10_draws_52 (lv_at hl 2 rfl) ?_
                      refine hx_iald hx hb hW hT gq_17 tt_98 rfl ⟨by omega, by omega⟩ dX10_draws_54 (fun x_18 ex_18 lx_18 ux_18 => ?_)
                      refine hx_iast hx hb hW hT (hx_S.rf (M := [(87, 0)])) gq_15 tt_87 rfl ⟨by omega, by omega⟩ rfl (i32_r _) (List.mem_singleton.mpr rfl) dX10_draws_55 (fun H locs h_19 eh_19 hW hT hs => ?_)
                      replace fq_15 := (hs.o (gx.S hM) trivial rfl).2.trans fq_15
                      replace fq_17 := (hs.o (gx.S hM) trivial rfl).2.trans fq_17
                      replace ex_18 := ex_18.trans (hs.a gq_17 rfl _).1.symm
                      replace hM := hM.tr (hs.mono (by decide))
                      replace gq_15 := gq_15.S hs
                      replace gq_17 := gq_17.S hs
                      refine lv_aload_n hx hb dX10_draws_56 rfl (lv_at hl 4 rfl) ?_
                      refine hk_getr hx hb hts hC_10 hown hW (gx.S hM) tt_10 52 (by decide) rfl kw_1195 ⟨rfl, rfl, rfl⟩ fq_15 dX10_draws_57 ?_
                      refine lv_iconst (v := 3) hx hb dX10_draws_60 (by decide) ?_
                      refine lv_iload_n hx hb dX10_draws_61 rfl (lv_at hl 5 rfl) ?_
                      refine lv_imul hx hb dX10_draws_62 ?_
                      refine lv_topi (fun x_20 ex_20 => ?_)
                      have zx_20 : x_20.toInt = 3 * i1.toInt := by rw [ex_20]; exact i32_mul (by decide) rfl rfl (by omega) (by omega)
                      refine lv_iconst (v := 1) hx hb dX10_draws_63 (by decide) ?_
                      refine lv_iadd hx hb dX10_draws_64 ?_
                      have rg_21 := i32_r x_20
                      refine lv_topi (fun x_22 ex_22 => ?_)
                      have zx_22 : x_22.toInt = x_20.toInt + 1 := by rw [ex_22]; exact i32_add rfl (by decide) (by omega) (by omega)
                      refine lv_aload_n hx hb dX10_draws_65 rfl (lv_at hl 4 rfl) ?_
                      refine hk_getr hx hb hts hC_10 hown hW (gx.S hM) tt_10 65 (by decide) rfl kw_1208 ⟨rfl, rfl, rfl⟩ fq_17 dX10_draws_66 ?_
                      refine lv_iload hx hb dX10_draws_69 (lv_at hl 1 rfl) ?_
                      refine hx_iald hx hb hW hT gq_17 tt_98 rfl ⟨by omega, by omega⟩ dX10_draws_71 (fun x_23 ex_23 lx_23 ux_23 => ?_)
                      refine hx_iast hx hb hW hT (hx_S.rf (M := [(87, 0)])) gq_15 tt_87 rfl ⟨by omega, by omega⟩ rfl (i32_r _) (List.mem_singleton.mpr rfl) dX10_draws_72 (fun H locs h_24 eh_24 hW hT hs => ?_)
                      replace fq_15 := (hs.o (gx.S hM) trivial rfl).2.trans fq_15
                      replace fq_17 := (hs.o (gx.S hM) trivial rfl).2.trans fq_17
                      replace ex_18 := ex_18.trans (hs.a gq_17 rfl _).1.symm
                      replace ex_23 := ex_23.trans (hs.a gq_17 rfl _).1.symm
                      replace hM := hM.tr (hs.mono (by decide))
                      replace gq_15 := gq_15.S hs
                      replace gq_17 := gq_17.S hs
                      refine lv_aload_n hx hb dX10_draws_73 rfl (lv_at hl 4 rfl) ?_
                      refine hk_getr hx hb hts hC_10 hown hW (gx.S hM) tt_10 52 (by decide) rfl kw_1195 ⟨rfl, rfl, rfl⟩ fq_15 dX10_draws_74 ?_
                      refine lv_iconst (v := 3) hx hb dX10_draws_77 (by decide) ?_
                      refine lv_iload_n hx hb dX10_draws_78 rfl (lv_at hl 5 rfl) ?_
                      refine lv_imul hx hb dX10_draws_79 ?_
                      refine lv_topi (fun x_25 ex_25 => ?_)
                      have zx_25 : x_25.toInt = 3 * i1.toInt := by rw [ex_25]; exact i32_mul (by decide) rfl rfl (by omega) (by omega)
                      refine lv_iconst (v := 2) hx hb dX10_draws_80 (by decide) ?_
                      refine lv_iadd hx hb dX10_draws_81 ?_
                      have rg_26 := i32_r x_25
                      refine lv_topi (fun x_27 ex_27 => ?_)
                      have zx_27 : x_27.toInt = x_25.toInt + 2 := by rw [ex_27]; exact i32_add rfl (by decide) (by omega) (by omega)
                      refine lv_aload_n hx hb dX10_draws_82 rfl (lv_at hl 4 rfl) ?_
                      refine hk_getr hx hb hts hC_10 hown hW (gx.S hM) tt_10 65 (by decide) rfl kw_1208 ⟨rfl, rfl, rfl⟩ fq_17 dX10_draws_83 ?_
                      refine lv_iload hx hb dX10_draws_86 (lv_at hl 0 rfl) ?_
                      refine hx_iald hx hb hW hT gq_17 tt_98 rfl ⟨by omega, by omega⟩ dX10_draws_88 (fun x_28 ex_28 lx_28 ux_28 => ?_)
                      refine hx_iast hx hb hW hT (hx_S.rf (M := [(87, 0)])) gq_15 tt_87 rfl ⟨by omega, by omega⟩ rfl (i32_r _) (List.mem_singleton.mpr rfl) dX10_draws_89 (fun H locs h_29 eh_29 hW hT hs => ?_)
                      replace fq_15 := (hs.o (gx.S hM) trivial rfl).2.trans fq_15
                      replace fq_17 := (hs.o (gx.S hM) trivial rfl).2.trans fq_17
                      replace ex_18 := ex_18.trans (hs.a gq_17 rfl _).1.symm
                      replace ex_23 := ex_23.trans (hs.a gq_17 rfl _).1.symm
                      replace ex_28 := ex_28.trans (hs.a gq_17 rfl _).1.symm
                      replace hM := hM.tr (hs.mono (by decide))
                      replace gq_15 := gq_15.S hs
                      replace gq_17 := gq_17.S hs
                      obtain ⟨x_30, ex_30⟩ : ∃ y : Int32, y = iv30_4 + Int32.ofInt (-1) := ⟨_, rfl⟩
                      have rg_31 := i32_r iv30_4
                      have zx_30 : x_30.toInt = iv30_4.toInt + (-1) := by rw [ex_30]; exact i32_add rfl (by decide) (by omega) (by omega)
                      refine lv_iinc (v := x_30) (lv' := [(4, .int x_30), (7, .int iv30_7), (6, .int iv18_6), (5, .int iv6_5), (0, .ref x), (1, .int i1), (2, .int i2), (3, .int i3)]) hx hb dX10_draws_90 hl (k := 3) rfl ex_30.symm (by decide) rfl (fun ls hl => ?_)
                      obtain ⟨x_32, ex_32⟩ : ∃ y : Int32, y = iv30_7 + Int32.ofInt 1 := ⟨_, rfl⟩
                      have rg_33 := i32_r iv30_7
                      have zx_32 : x_32.toInt = iv30_7.toInt + (1) := by rw [ex_32]; exact i32_add rfl (by decide) (by omega) (by omega)
                      refine lv_iinc (v := x_32) (lv' := [(7, .int x_32), (4, .int x_30), (6, .int iv18_6), (5, .int iv6_5), (0, .ref x), (1, .int i1), (2, .int i2), (3, .int i3)]) hx hb dX10_draws_93 hl (k := 1) rfl ex_32.symm (by decide) rfl (fun ls hl => ?_)
                      refine lv_goto (tgt := 30) hx hb dX10_draws_96 (by decide) ?_
                      exact ih30 x_30 x_32 _ _ hL1 h_29 (i32_r _).1 (i32_r _).2 (by omega) (by omega)  ls (by omega) hW hT hM   (lv_sub hl [0, 2, 3, 1, 4, 5, 6, 7] rfl)
              exact loop30 41 iv18_4 x_7 _ _ hL1 hl1 (i32_r _).1 (i32_r _).2 (by omega) (by omega)  ls (by omega) hW hT hM   hl
        exact loop18 41 iv6_4 x_3 _ _ hL1 hl1 (i32_r _).1 (i32_r _).2 (by omega) (by omega)  ls (by omega) hW hT hM   hl
  have zk_0 : (0 : Int32).toInt = 0 := by decide
  exact loop6 41 i3 (0 : Int32) _ _ L h (i32_r _).1 (i32_r _).2 (by decide) (by decide)  ls (by omega) hW hT hM   hl
