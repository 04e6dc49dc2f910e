def wLX1_isLine_0 : List Nat := [42, 180, 0, 9, 27, 46, 28, 160, 0, 28, 42, 180, 0, 15, 27, 46, 29, 160, 0, 18, 42, 180, 0, 18, 27, 46, 21, 4, 163, 0, 7, 4, 167, 0, 4, 3, 172]
theorem wX1_isLine_0 : (cX1_isLine.data.toList.map UInt8.toNat).drop 0 = wLX1_isLine_0 ++ ([]) := by decide +kernel
theorem dX1_isLine_0 : decode cX1_isLine 0 = .ok (.aload_n 0, 1) := dq_42 (hz_wg wX1_isLine_0 (j := 0) (n := 42) rfl)
theorem dX1_isLine_1 : decode cX1_isLine 1 = .ok (.getfield 9, 3) := dq_180 (hz_wg wX1_isLine_0 (j := 1) (n := 180) rfl) (hz_wg wX1_isLine_0 (j := 2) (n := 0) rfl) (hz_wg wX1_isLine_0 (j := 3) (n := 9) rfl) rfl
theorem dX1_isLine_4 : decode cX1_isLine 4 = .ok (.iload_n 1, 1) := dq_27 (hz_wg wX1_isLine_0 (j := 4) (n := 27) rfl)
theorem dX1_isLine_5 : decode cX1_isLine 5 = .ok (.iaload, 1) := dq_46 (hz_wg wX1_isLine_0 (j := 5) (n := 46) rfl)
theorem dX1_isLine_6 : decode cX1_isLine 6 = .ok (.iload_n 2, 1) := dq_28 (hz_wg wX1_isLine_0 (j := 6) (n := 28) rfl)
theorem dX1_isLine_7 : decode cX1_isLine 7 = .ok (.if_icmp .ne 28, 3) := dq_160 (hz_wg wX1_isLine_0 (j := 7) (n := 160) rfl) (hz_wg wX1_isLine_0 (j := 8) (n := 0) rfl) (hz_wg wX1_isLine_0 (j := 9) (n := 28) rfl) (by decide)
theorem dX1_isLine_10 : decode cX1_isLine 10 = .ok (.aload_n 0, 1) := dq_42 (hz_wg wX1_isLine_0 (j := 10) (n := 42) rfl)
theorem dX1_isLine_11 : decode cX1_isLine 11 = .ok (.getfield 15, 3) := dq_180 (hz_wg wX1_isLine_0 (j := 11) (n := 180) rfl) (hz_wg wX1_isLine_0 (j := 12) (n := 0) rfl) (hz_wg wX1_isLine_0 (j := 13) (n := 15) rfl) rfl
theorem dX1_isLine_14 : decode cX1_isLine 14 = .ok (.iload_n 1, 1) := dq_27 (hz_wg wX1_isLine_0 (j := 14) (n := 27) rfl)
theorem dX1_isLine_15 : decode cX1_isLine 15 = .ok (.iaload, 1) := dq_46 (hz_wg wX1_isLine_0 (j := 15) (n := 46) rfl)
theorem dX1_isLine_16 : decode cX1_isLine 16 = .ok (.iload_n 3, 1) := dq_29 (hz_wg wX1_isLine_0 (j := 16) (n := 29) rfl)
theorem dX1_isLine_17 : decode cX1_isLine 17 = .ok (.if_icmp .ne 18, 3) := dq_160 (hz_wg wX1_isLine_0 (j := 17) (n := 160) rfl) (hz_wg wX1_isLine_0 (j := 18) (n := 0) rfl) (hz_wg wX1_isLine_0 (j := 19) (n := 18) rfl) (by decide)
theorem dX1_isLine_20 : decode cX1_isLine 20 = .ok (.aload_n 0, 1) := dq_42 (hz_wg wX1_isLine_0 (j := 20) (n := 42) rfl)
theorem dX1_isLine_21 : decode cX1_isLine 21 = .ok (.getfield 18, 3) := dq_180 (hz_wg wX1_isLine_0 (j := 21) (n := 180) rfl) (hz_wg wX1_isLine_0 (j := 22) (n := 0) rfl) (hz_wg wX1_isLine_0 (j := 23) (n := 18) rfl) rfl
theorem dX1_isLine_24 : decode cX1_isLine 24 = .ok (.iload_n 1, 1) := dq_27 (hz_wg wX1_isLine_0 (j := 24) (n := 27) rfl)
theorem dX1_isLine_25 : decode cX1_isLine 25 = .ok (.iaload, 1) := dq_46 (hz_wg wX1_isLine_0 (j := 25) (n := 46) rfl)
theorem dX1_isLine_26 : decode cX1_isLine 26 = .ok (.iload 4, 2) := dq_21 (hz_wg wX1_isLine_0 (j := 26) (n := 21) rfl) (hz_wg wX1_isLine_0 (j := 27) (n := 4) rfl)
theorem dX1_isLine_28 : decode cX1_isLine 28 = .ok (.if_icmp .gt 7, 3) := dq_163 (hz_wg wX1_isLine_0 (j := 28) (n := 163) rfl) (hz_wg wX1_isLine_0 (j := 29) (n := 0) rfl) (hz_wg wX1_isLine_0 (j := 30) (n := 7) rfl) (by decide)
theorem dX1_isLine_31 : decode cX1_isLine 31 = .ok (.iconst 1, 1) := dq_4 (hz_wg wX1_isLine_0 (j := 31) (n := 4) rfl)
theorem dX1_isLine_32 : decode cX1_isLine 32 = .ok (.goto 4, 3) := dq_167 (hz_wg wX1_isLine_0 (j := 32) (n := 167) rfl) (hz_wg wX1_isLine_0 (j := 33) (n := 0) rfl) (hz_wg wX1_isLine_0 (j := 34) (n := 4) rfl) (by decide)
theorem dX1_isLine_35 : decode cX1_isLine 35 = .ok (.iconst 0, 1) := dq_3 (hz_wg wX1_isLine_0 (j := 35) (n := 3) rfl)
theorem dX1_isLine_36 : decode cX1_isLine 36 = .ok (.ireturn, 1) := dq_172 (hz_wg wX1_isLine_0 (j := 36) (n := 172) rfl)
set_option maxHeartbeats 4000000 in
set_option maxRecDepth 100000 in
theorem t_X1_isLine (l : Launch) (dC : Nat → ClassId) (dI : Nat → Nat → Nat) (dA : Nat → ClassId) (L : List Nat) (h : hx_h) (sz : Nat) (x : Nat) (i1 : Int32) (i2 : Int32) (i3 : Int32) (i4 : Int32) (hT : hx_T T_tb L h) (gx : hx_g L h x 1) (hi1 : 0 ≤ i1.toInt ∧ i1.toInt ≤ 399) : Met l yX1_isLine (Cond.code yX1_isLine cX1_isLine 5 (some .boolean) :: hx_all) ({ frames := 0, cells := 0, slots := 0, locals := 0 }) (va_Pc [.ref x, .int i1, .int i2, .int i3, .int i4] (hx_B T_tb (P_ty dA) (dC, dI) vwCl L h sz)) (va_Qi (fun (r : Int32) (u : List Nat × hx_h) => (r.toInt = 0 ∨ r.toInt = 1) ∧ hx_T T_tb u.1 u.2 ∧ hx_S T_tb [] L h u.1 u.2) (hx_E T_tb (P_ty dA) (dC, dI) vwCl (hx_A L sz)) (hx_A L sz)) 0 0 (hx_A L sz) := by
  refine hx_met (lv := [(0, .ref x), (1, .int i1), (2, .int i2), (3, .int i3), (4, .int i4)]) (by decide +kernel) rfl (Nat.le_of_ble_eq_true rfl) rfl ?_
  intro p e s m below meth c hx hb hml hr hlk hts0 hown hin hsz hW ls hl
  have hts : ∀ w ∈ hx_all, w.before _ s = true := fun w hw => hts0 w (List.mem_cons_of_mem _ hw)
  have hown : s.vm.findClass "SmallCourt$Books" = some m.cls := hown
  have hM : hx_S T_tb [] L h L h := hx_S.rf
  refine lv_aload_n hx hb dX1_isLine_0 rfl (lv_at hl 0 rfl) ?_
  refine hx_getn hx hb hts hC_1 hown hW hT gx tt_1 1 (by decide) rfl kw_198 ⟨rfl, rfl, rfl⟩ dX1_isLine_1 (fun q_1 fq_1 gq_1 => ?_)
  refine lv_iload_n hx hb dX1_isLine_4 rfl (lv_at hl 1 rfl) ?_
  refine hx_iald hx hb hW hT gq_1 tt_13 rfl ⟨by omega, by omega⟩ dX1_isLine_5 (fun x_2 ex_2 lx_2 ux_2 => ?_)
  refine lv_iload_n hx hb dX1_isLine_6 rfl (lv_at hl 2 rfl) ?_
  refine hb_icmp_ne (zx := x_2.toInt) (zy := i2.toInt) (tgt := 35) hx hb rfl rfl dX1_isLine_7 (by decide) (fun c_3 => ?_) (fun c_3 => ?_)
  · skip
    refine lv_iconst (v := 0) hx hb dX1_isLine_35 (by decide) ?_
    exact hx_retz hx hb hr rfl hlk hW ⟨(by decide), hT, hM⟩ dX1_isLine_36
  · skip
    refine lv_aload_n hx hb dX1_isLine_10 rfl (lv_at hl 0 rfl) ?_
    refine hx_getn hx hb hts hC_1 hown hW hT gx tt_1 2 (by decide) rfl kw_199 ⟨rfl, rfl, rfl⟩ dX1_isLine_11 (fun q_4 fq_4 gq_4 => ?_)
    refine lv_iload_n hx hb dX1_isLine_14 rfl (lv_at hl 1 rfl) ?_
    refine hx_iald hx hb hW hT gq_4 tt_14 rfl ⟨by omega, by omega⟩ dX1_isLine_15 (fun x_5 ex_5 lx_5 ux_5 => ?_)
    refine lv_iload_n hx hb dX1_isLine_16 rfl (lv_at hl 3 rfl) ?_
    refine hb_icmp_ne (zx := x_5.toInt) (zy := i3.toInt) (tgt := 35) hx hb rfl rfl dX1_isLine_17 (by decide) (fun c_6 => ?_) (fun c_6 => ?_)
    · skip
      refine lv_iconst (v := 0) hx hb dX1_isLine_35 (by decide) ?_
      exact hx_retz hx hb hr rfl hlk hW ⟨(by decide), hT, hM⟩ dX1_isLine_36
    · skip
      refine lv_aload_n hx hb dX1_isLine_20 rfl (lv_at hl 0 rfl) ?_
      refine hx_getn hx hb hts hC_1 hown hW hT gx tt_1 3 (by decide) rfl kw_200 ⟨rfl, rfl, rfl⟩ dX1_isLine_21 (fun q_7 fq_7 gq_7 => ?_)
      refine lv_iload_n hx hb dX1_isLine_24 rfl (lv_at hl 1 rfl) ?_
      refine hx_iald hx hb hW hT gq_7 tt_15 rfl ⟨by omega, by omega⟩ dX1_isLine_25 (fun x_8 ex_8 lx_8 ux_8 => ?_)
      refine lv_iload hx hb dX1_isLine_26 (lv_at hl 4 rfl) ?_
      refine hb_icmp_gt (zx := x_8.toInt) (zy := i4.toInt) (tgt := 35) hx hb rfl rfl dX1_isLine_28 (by decide) (fun c_9 => ?_) (fun c_9 => ?_)
      · skip
        refine lv_iconst (v := 0) hx hb dX1_isLine_35 (by decide) ?_
        exact hx_retz hx hb hr rfl hlk hW ⟨(by decide), hT, hM⟩ dX1_isLine_36
      · skip
        refine lv_iconst (v := 1) hx hb dX1_isLine_31 (by decide) ?_
        refine lv_goto (tgt := 36) hx hb dX1_isLine_32 (by decide) ?_
        exact hx_retz hx hb hr rfl hlk hW ⟨(by decide), hT, hM⟩ dX1_isLine_36

def wLX1_sumWith_0 : List Nat := [3, 54, 4, 3, 54, 5, 21, 5, 42, 180, 0, 34, 162, 0, 65, 42, 21, 5, 27, 28, 29, 182, 0, 38, 153, 0, 47, 21, 4, 42, 180, 0, 21, 21, 5, 46, 153, 0, 14, 42, 180, 0, 21, 21, 5, 46, 6, 160, 0, 13, 42, 180, 0, 24, 21, 5, 46, 167, 0, 11, 42, 180, 0, 24]
def wLX1_sumWith_1 : List Nat := [21, 5, 46, 116, 96, 54, 4, 132, 5, 1, 167, 255, 188, 21, 4, 172]
theorem wX1_sumWith_0 : (cX1_sumWith.data.toList.map UInt8.toNat).drop 0 = wLX1_sumWith_0 ++ (wLX1_sumWith_1 ++ ([])) := by decide +kernel
theorem wX1_sumWith_1 : (cX1_sumWith.data.toList.map UInt8.toNat).drop 64 = wLX1_sumWith_1 ++ ([]) := hz_wn wX1_sumWith_0 rfl
theorem dX1_sumWith_0 : decode cX1_sumWith 0 = .ok (.iconst 0, 1) := dq_3 (hz_wg wX1_sumWith_0 (j := 0) (n := 3) rfl)
theorem dX1_sumWith_1 : decode cX1_sumWith 1 = .ok (.istore 4, 2) := dq_54 (hz_wg wX1_sumWith_0 (j := 1) (n := 54) rfl) (hz_wg wX1_sumWith_0 (j := 2) (n := 4) rfl)
theorem dX1_sumWith_3 : decode cX1_sumWith 3 = .ok (.iconst 0, 1) := dq_3 (hz_wg wX1_sumWith_0 (j := 3) (n := 3) rfl)
theorem dX1_sumWith_4 : decode cX1_sumWith 4 = .ok (.istore 5, 2) := dq_54 (hz_wg wX1_sumWith_0 (j := 4) (n := 54) rfl) (hz_wg wX1_sumWith_0 (j := 5) (n := 5) rfl)
theorem dX1_sumWith_6 : decode cX1_sumWith 6 = .ok (.iload 5, 2) := dq_21 (hz_wg wX1_sumWith_0 (j := 6) (n := 21) rfl) (hz_wg wX1_sumWith_0 (j := 7) (n := 5) rfl)
theorem dX1_sumWith_8 : decode cX1_sumWith 8 = .ok (.aload_n 0, 1) := dq_42 (hz_wg wX1_sumWith_0 (j := 8) (n := 42) rfl)
theorem dX1_sumWith_9 : decode cX1_sumWith 9 = .ok (.getfield 34, 3) := dq_180 (hz_wg wX1_sumWith_0 (j := 9) (n := 180) rfl) (hz_wg wX1_sumWith_0 (j := 10) (n := 0) rfl) (hz_wg wX1_sumWith_0 (j := 11) (n := 34) rfl) rfl
theorem dX1_sumWith_12 : decode cX1_sumWith 12 = .ok (.if_icmp .ge 65, 3) := dq_162 (hz_wg wX1_sumWith_0 (j := 12) (n := 162) rfl) (hz_wg wX1_sumWith_0 (j := 13) (n := 0) rfl) (hz_wg wX1_sumWith_0 (j := 14) (n := 65) rfl) (by decide)
theorem dX1_sumWith_15 : decode cX1_sumWith 15 = .ok (.aload_n 0, 1) := dq_42 (hz_wg wX1_sumWith_0 (j := 15) (n := 42) rfl)
theorem dX1_sumWith_16 : decode cX1_sumWith 16 = .ok (.iload 5, 2) := dq_21 (hz_wg wX1_sumWith_0 (j := 16) (n := 21) rfl) (hz_wg wX1_sumWith_0 (j := 17) (n := 5) rfl)
theorem dX1_sumWith_18 : decode cX1_sumWith 18 = .ok (.iload_n 1, 1) := dq_27 (hz_wg wX1_sumWith_0 (j := 18) (n := 27) rfl)
theorem dX1_sumWith_19 : decode cX1_sumWith 19 = .ok (.iload_n 2, 1) := dq_28 (hz_wg wX1_sumWith_0 (j := 19) (n := 28) rfl)
theorem dX1_sumWith_20 : decode cX1_sumWith 20 = .ok (.iload_n 3, 1) := dq_29 (hz_wg wX1_sumWith_0 (j := 20) (n := 29) rfl)
theorem dX1_sumWith_21 : decode cX1_sumWith 21 = .ok (.invokevirtual 38, 3) := dq_182 (hz_wg wX1_sumWith_0 (j := 21) (n := 182) rfl) (hz_wg wX1_sumWith_0 (j := 22) (n := 0) rfl) (hz_wg wX1_sumWith_0 (j := 23) (n := 38) rfl) rfl
theorem dX1_sumWith_24 : decode cX1_sumWith 24 = .ok (.ifCond .eq 47, 3) := dq_153 (hz_wg wX1_sumWith_0 (j := 24) (n := 153) rfl) (hz_wg wX1_sumWith_0 (j := 25) (n := 0) rfl) (hz_wg wX1_sumWith_0 (j := 26) (n := 47) rfl) (by decide)
theorem dX1_sumWith_27 : decode cX1_sumWith 27 = .ok (.iload 4, 2) := dq_21 (hz_wg wX1_sumWith_0 (j := 27) (n := 21) rfl) (hz_wg wX1_sumWith_0 (j := 28) (n := 4) rfl)
theorem dX1_sumWith_29 : decode cX1_sumWith 29 = .ok (.aload_n 0, 1) := dq_42 (hz_wg wX1_sumWith_0 (j := 29) (n := 42) rfl)
theorem dX1_sumWith_30 : decode cX1_sumWith 30 = .ok (.getfield 21, 3) := dq_180 (hz_wg wX1_sumWith_0 (j := 30) (n := 180) rfl) (hz_wg wX1_sumWith_0 (j := 31) (n := 0) rfl) (hz_wg wX1_sumWith_0 (j := 32) (n := 21) rfl) rfl
theorem dX1_sumWith_33 : decode cX1_sumWith 33 = .ok (.iload 5, 2) := dq_21 (hz_wg wX1_sumWith_0 (j := 33) (n := 21) rfl) (hz_wg wX1_sumWith_0 (j := 34) (n := 5) rfl)
theorem dX1_sumWith_35 : decode cX1_sumWith 35 = .ok (.iaload, 1) := dq_46 (hz_wg wX1_sumWith_0 (j := 35) (n := 46) rfl)
theorem dX1_sumWith_36 : decode cX1_sumWith 36 = .ok (.ifCond .eq 14, 3) := dq_153 (hz_wg wX1_sumWith_0 (j := 36) (n := 153) rfl) (hz_wg wX1_sumWith_0 (j := 37) (n := 0) rfl) (hz_wg wX1_sumWith_0 (j := 38) (n := 14) rfl) (by decide)
theorem dX1_sumWith_39 : decode cX1_sumWith 39 = .ok (.aload_n 0, 1) := dq_42 (hz_wg wX1_sumWith_0 (j := 39) (n := 42) rfl)
theorem dX1_sumWith_40 : decode cX1_sumWith 40 = .ok (.getfield 21, 3) := dq_180 (hz_wg wX1_sumWith_0 (j := 40) (n := 180) rfl) (hz_wg wX1_sumWith_0 (j := 41) (n := 0) rfl) (hz_wg wX1_sumWith_0 (j := 42) (n := 21) rfl) rfl
theorem dX1_sumWith_43 : decode cX1_sumWith 43 = .ok (.iload 5, 2) := dq_21 (hz_wg wX1_sumWith_0 (j := 43) (n := 21) rfl) (hz_wg wX1_sumWith_0 (j := 44) (n := 5) rfl)
theorem dX1_sumWith_45 : decode cX1_sumWith 45 = .ok (.iaload, 1) := dq_46 (hz_wg wX1_sumWith_0 (j := 45) (n := 46) rfl)
theorem dX1_sumWith_46 : decode cX1_sumWith 46 = .ok (.iconst 3, 1) := dq_6 (hz_wg wX1_sumWith_0 (j := 46) (n := 6) rfl)
theorem dX1_sumWith_47 : decode cX1_sumWith 47 = .ok (.if_icmp .ne 13, 3) := dq_160 (hz_wg wX1_sumWith_0 (j := 47) (n := 160) rfl) (hz_wg wX1_sumWith_0 (j := 48) (n := 0) rfl) (hz_wg wX1_sumWith_0 (j := 49) (n := 13) rfl) (by decide)
theorem dX1_sumWith_50 : decode cX1_sumWith 50 = .ok (.aload_n 0, 1) := dq_42 (hz_wg wX1_sumWith_0 (j := 50) (n := 42) rfl)
theorem dX1_sumWith_51 : decode cX1_sumWith 51 = .ok (.getfield 24, 3) := dq_180 (hz_wg wX1_sumWith_0 (j := 51) (n := 180) rfl) (hz_wg wX1_sumWith_0 (j := 52) (n := 0) rfl) (hz_wg wX1_sumWith_0 (j := 53) (n := 24) rfl) rfl
theorem dX1_sumWith_54 : decode cX1_sumWith 54 = .ok (.iload 5, 2) := dq_21 (hz_wg wX1_sumWith_0 (j := 54) (n := 21) rfl) (hz_wg wX1_sumWith_0 (j := 55) (n := 5) rfl)
theorem dX1_sumWith_56 : decode cX1_sumWith 56 = .ok (.iaload, 1) := dq_46 (hz_wg wX1_sumWith_0 (j := 56) (n := 46) rfl)
theorem dX1_sumWith_57 : decode cX1_sumWith 57 = .ok (.goto 11, 3) := dq_167 (hz_wg wX1_sumWith_0 (j := 57) (n := 167) rfl) (hz_wg wX1_sumWith_0 (j := 58) (n := 0) rfl) (hz_wg wX1_sumWith_0 (j := 59) (n := 11) rfl) (by decide)
theorem dX1_sumWith_60 : decode cX1_sumWith 60 = .ok (.aload_n 0, 1) := dq_42 (hz_wg wX1_sumWith_0 (j := 60) (n := 42) rfl)
theorem dX1_sumWith_61 : decode cX1_sumWith 61 = .ok (.getfield 24, 3) := dq_180 (hz_wg wX1_sumWith_0 (j := 61) (n := 180) rfl) (hz_wg wX1_sumWith_0 (j := 62) (n := 0) rfl) (hz_wg wX1_sumWith_0 (j := 63) (n := 24) rfl) rfl
theorem dX1_sumWith_64 : decode cX1_sumWith 64 = .ok (.iload 5, 2) := dq_21 (hz_wg wX1_sumWith_1 (j := 0) (n := 21) rfl) (hz_wg wX1_sumWith_1 (j := 1) (n := 5) rfl)
theorem dX1_sumWith_66 : decode cX1_sumWith 66 = .ok (.iaload, 1) := dq_46 (hz_wg wX1_sumWith_1 (j := 2) (n := 46) rfl)
theorem dX1_sumWith_67 : decode cX1_sumWith 67 = .ok (.ineg, 1) := dq_116 (hz_wg wX1_sumWith_1 (j := 3) (n := 116) rfl)
theorem dX1_sumWith_68 : decode cX1_sumWith 68 = .ok (.iadd, 1) := dq_96 (hz_wg wX1_sumWith_1 (j := 4) (n := 96) rfl)
theorem dX1_sumWith_69 : decode cX1_sumWith 69 = .ok (.istore 4, 2) := dq_54 (hz_wg wX1_sumWith_1 (j := 5) (n := 54) rfl) (hz_wg wX1_sumWith_1 (j := 6) (n := 4) rfl)
theorem dX1_sumWith_71 : decode cX1_sumWith 71 = .ok (.iinc 5 1, 3) := dq_132 (hz_wg wX1_sumWith_1 (j := 7) (n := 132) rfl) (hz_wg wX1_sumWith_1 (j := 8) (n := 5) rfl) (hz_wg wX1_sumWith_1 (j := 9) (n := 1) rfl) (by decide)
theorem dX1_sumWith_74 : decode cX1_sumWith 74 = .ok (.goto (-68), 3) := dq_167 (hz_wg wX1_sumWith_1 (j := 10) (n := 167) rfl) (hz_wg wX1_sumWith_1 (j := 11) (n := 255) rfl) (hz_wg wX1_sumWith_1 (j := 12) (n := 188) rfl) (by decide)
theorem dX1_sumWith_77 : decode cX1_sumWith 77 = .ok (.iload 4, 2) := dq_21 (hz_wg wX1_sumWith_1 (j := 13) (n := 21) rfl) (hz_wg wX1_sumWith_1 (j := 14) (n := 4) rfl)
theorem dX1_sumWith_79 : decode cX1_sumWith 79 = .ok (.ireturn, 1) := dq_172 (hz_wg wX1_sumWith_1 (j := 15) (n := 172) rfl)
set_option maxHeartbeats 4000000 in
set_option maxRecDepth 100000 in
theorem t_X1_sumWith (l : Launch) (dC : Nat → ClassId) (dI : Nat → Nat → Nat) (dA : Nat → ClassId) (L : List Nat) (h : hx_h) (sz : Nat) (x : Nat) (i1 : Int32) (i2 : Int32) (i3 : Int32) (hT : hx_T T_tb L h) (gx : hx_g L h x 1)  : Met l yX1_sumWith (Cond.code yX1_sumWith cX1_sumWith 6 (some .int) :: hx_all) ({ frames := 1, cells := 0, slots := 0, locals := 24 }) (va_Pc [.ref x, .int i1, .int i2, .int i3] (hx_B T_tb (P_ty dA) (dC, dI) vwCl L h sz)) (va_Qi (fun (r : Int32) (u : List Nat × hx_h) => (True) ∧ hx_T T_tb u.1 u.2 ∧ hx_S T_tb [] L h u.1 u.2) (hx_E T_tb (P_ty dA) (dC, dI) vwCl (hx_A L sz)) (hx_A L sz)) 0 0 (hx_A L sz) := by
  refine hx_met (lv := [(0, .ref x), (1, .int i1), (2, .int i2), (3, .int i3)]) (by decide +kernel) rfl (Nat.le_of_ble_eq_true rfl) rfl ?_
  intro p e s m below meth c hx hb hml hr hlk hts0 hown hin hsz hW ls hl
  have hts : ∀ w ∈ hx_all, w.before _ s = true := fun w hw => hts0 w (List.mem_cons_of_mem _ hw)
  have hown : s.vm.findClass "SmallCourt$Books" = some m.cls := hown
  have hM : hx_S T_tb [] L h L h := hx_S.rf
  refine lv_iconst (v := 0) hx hb dX1_sumWith_0 (by decide) ?_
  refine lv_istore (lv' := [(4, .int (0 : Int32)), (0, .ref x), (1, .int i1), (2, .int i2), (3, .int i3)]) hx hb dX1_sumWith_1 hl (by decide) rfl (fun ls hl => ?_)
  refine lv_iconst (v := 0) hx hb dX1_sumWith_3 (by decide) ?_
  refine lv_istore (lv' := [(5, .int (0 : Int32)), (4, .int (0 : Int32)), (0, .ref x), (1, .int i1), (2, .int i2), (3, .int i3)]) hx hb dX1_sumWith_4 hl (by decide) rfl (fun ls hl => ?_)
  have loop6 : ∀ (n6 : Nat) (iv6_5 iv6_4 : Int32) (H : Heap) (locs : List Loc) (hL1 : List Nat) (hl1 : hx_h) (ls : Array Slot), 0 ≤ iv6_5.toInt → iv6_5.toInt ≤ 400 → 400 < iv6_5.toInt + n6 → hx_W T_tb (P_ty dA) (dC, dI) vwCl (hx_A L sz) s.heap hL1 hl1 s H locs → hx_T T_tb hL1 hl1 → hx_S T_tb [] L h hL1 hl1 → hx_g hL1 hl1 x 1 → lv_has ls 6 [(5, .int iv6_5), (4, .int iv6_4), (0, .ref x), (1, .int i1), (2, .int i2), (3, .int i3)] → W p l e ({ frames := 1, cells := 0, slots := 0, locals := 24 }) s m ([.ref x, .int i1, .int i2, .int i3] : List Value).toArray below meth c H locs 0 0 (MQ below (va_Qi (fun (r : Int32) (u : List Nat × hx_h) => (True) ∧ hx_T T_tb u.1 u.2 ∧ hx_S T_tb [] L h u.1 u.2) (hx_E T_tb (P_ty dA) (dC, dI) vwCl (hx_A L sz)) (hx_A L sz)) ([.ref x, .int i1, .int i2, .int i3] : List Value).toArray s 0 0 (hx_A L sz)) (F0 m 6 ls []) := by
    intro n6
    induction n6 with
    | zero => intro iv6_5 iv6_4 H locs hL1 hl1 ls bl6_5 bu6_5 hn6; exfalso; omega
    | succ n6 ih6 =>
      intro iv6_5 iv6_4 H locs hL1 hl1 ls bl6_5 bu6_5 hn6 hW hT hM  gx  hl
      refine lv_iload hx hb dX1_sumWith_6 (lv_at hl 0 rfl) ?_
      refine lv_aload_n hx hb dX1_sumWith_8 rfl (lv_at hl 2 rfl) ?_
      refine hx_geti hx hb hts hC_1 hown hW hT gx tt_1 0 (by decide) rfl kw_196 ⟨rfl, rfl, rfl⟩ dX1_sumWith_9 (fun x_1 ex_1 lx_1 ux_1 => ?_)
      have fx_1 := ex_1.symm
      refine hb_icmp_ge (zx := iv6_5.toInt) (zy := x_1.toInt) (tgt := 77) hx hb rfl rfl dX1_sumWith_12 (by decide) (fun c_2 => ?_) (fun c_2 => ?_)
      · skip
        refine lv_iload hx hb dX1_sumWith_77 (lv_at hl 1 rfl) ?_
        exact hx_reti hx hb hr hlk hW ⟨trivial, hT, hM⟩ dX1_sumWith_79
      · skip
        refine lv_aload_n hx hb dX1_sumWith_15 rfl (lv_at hl 2 rfl) ?_
        refine lv_iload hx hb dX1_sumWith_16 (lv_at hl 0 rfl) ?_
        refine lv_iload_n hx hb dX1_sumWith_18 rfl (lv_at hl 3 rfl) ?_
        refine lv_iload_n hx hb dX1_sumWith_19 rfl (lv_at hl 4 rfl) ?_
        refine lv_iload_n hx hb dX1_sumWith_20 rfl (lv_at hl 5 rfl) ?_
        refine hx_goi (hx_runV (As := [.int iv6_5, .int i1, .int i2, .int i3]) (rest := []) ⟨hx, hb, hml, hown, hts⟩ hW gx tt_1 (T := TX1) (N := 8) rfl (t_X1_isLine l dC dI dA hL1 hl1 H.size x iv6_5 i1 i2 i3 hT gx ⟨by omega, by omega⟩) (cwV 4 hts (hx_gV kw_692 kw_689 kw_691 kw_22 kw_98) rfl rfl rfl (by decide +kernel) ⟨Nat.le_of_ble_eq_true rfl, Nat.le_of_ble_eq_true rfl⟩) rfl hl.1 rfl (Nat.le_of_ble_eq_true rfl) dX1_sumWith_21 ⟨Nat.le_of_ble_eq_true rfl, Nat.le_of_ble_eq_true rfl⟩) hW (fun r_5 L_3 h_4 H locs p_6 hW => ?_)
        obtain ⟨hr_7, hT, hs⟩ := p_6
        replace hT : hx_T T_tb L_3 h_4 := hT
        replace hs : hx_S T_tb [] hL1 hl1 L_3 h_4 := hs
        replace fx_1 := (hs.o gx trivial rfl).1.trans fx_1
        replace hM := hM.tr (hs.mono (by decide))
        replace gx := gx.S hs
        refine hb_if_eq (zx := r_5.toInt) (tgt := 71) hx hb rfl dX1_sumWith_24 (by decide) (fun c_8 => ?_) (fun c_8 => ?_)
        · skip
          obtain ⟨x_9, ex_9⟩ : ∃ y : Int32, y = iv6_5 + Int32.ofInt 1 := ⟨_, rfl⟩
          have rg_10 := i32_r iv6_5
          have zx_9 : x_9.toInt = iv6_5.toInt + (1) := by rw [ex_9]; exact i32_add rfl (by decide) (by omega) (by omega)
          refine lv_iinc (v := x_9) (lv' := [(5, .int x_9), (4, .int iv6_4), (0, .ref x), (1, .int i1), (2, .int i2), (3, .int i3)]) hx hb dX1_sumWith_71 hl (k := 0) rfl ex_9.symm (by decide) rfl (fun ls hl => ?_)
          refine lv_goto (tgt := 6) hx hb dX1_sumWith_74 (by decide) ?_
          exact ih6 x_9 iv6_4 _ _ L_3 h_4 ls (by omega) (by omega) (by omega) hW hT hM  gx  (lv_sub hl [0, 1, 2, 3, 4, 5] rfl)
        · skip
          refine lv_iload hx hb dX1_sumWith_27 (lv_at hl 1 rfl) ?_
          refine lv_aload_n hx hb dX1_sumWith_29 rfl (lv_at hl 2 rfl) ?_
          refine hx_getn hx hb hts hC_1 hown hW hT gx tt_1 4 (by decide) rfl kw_201 ⟨rfl, rfl, rfl⟩ dX1_sumWith_30 (fun q_11 fq_11 gq_11 => ?_)
          refine lv_iload hx hb dX1_sumWith_33 (lv_at hl 0 rfl) ?_
          refine hx_iald hx hb hW hT gq_11 tt_16 rfl ⟨by omega, by omega⟩ dX1_sumWith_35 (fun x_12 ex_12 lx_12 ux_12 => ?_)
          refine hb_if_eq (zx := x_12.toInt) (tgt := 50) hx hb rfl dX1_sumWith_36 (by decide) (fun c_13 => ?_) (fun c_13 => ?_)
          · skip
            refine lv_aload_n hx hb dX1_sumWith_50 rfl (lv_at hl 2 rfl) ?_
            refine hx_getn hx hb hts hC_1 hown hW hT gx tt_1 5 (by decide) rfl kw_202 ⟨rfl, rfl, rfl⟩ dX1_sumWith_51 (fun q_14 fq_14 gq_14 => ?_)
            refine lv_iload hx hb dX1_sumWith_54 (lv_at hl 0 rfl) ?_
            refine hx_iald hx hb hW hT gq_14 tt_17 rfl ⟨by omega, by omega⟩ dX1_sumWith_56 (fun x_15 ex_15 lx_15 ux_15 => ?_)
            refine lv_goto (tgt := 68) hx hb dX1_sumWith_57 (by decide) ?_
            refine lv_iadd hx hb dX1_sumWith_68 ?_
            have rg_16 := i32_r iv6_4
            have rg_17 := i32_r x_15
            refine lv_topi (fun x_18 ex_18 => ?_)
            refine lv_istore (lv' := [(4, .int x_18), (5, .int iv6_5), (0, .ref x), (1, .int i1), (2, .int i2), (3, .int i3)]) hx hb dX1_sumWith_69 hl (by decide) rfl (fun ls hl => ?_)
            obtain ⟨x_19, ex_19⟩ : ∃ y : Int32, y = iv6_5 + Int32.ofInt 1 := ⟨_, rfl⟩
            have rg_20 := i32_r iv6_5
            have zx_19 : x_19.toInt = iv6_5.toInt + (1) := by rw [ex_19]; exact i32_add rfl (by decide) (by omega) (by omega)
            refine lv_iinc (v := x_19) (lv' := [(5, .int x_19), (4, .int x_18), (0, .ref x), (1, .int i1), (2, .int i2), (3, .int i3)]) hx hb dX1_sumWith_71 hl (k := 1) rfl ex_19.symm (by decide) rfl (fun ls hl => ?_)
            refine lv_goto (tgt := 6) hx hb dX1_sumWith_74 (by decide) ?_
            exact ih6 x_19 x_18 _ _ L_3 h_4 ls (by omega) (by omega) (by omega) hW hT hM  gx  (lv_sub hl [0, 1, 2, 3, 4, 5] rfl)
          · skip
            refine lv_aload_n hx hb dX1_sumWith_39 rfl (lv_at hl 2 rfl) ?_
            refine hk_getr hx hb hts hC_1 hown hW gx tt_1 4 (by decide) rfl kw_201 ⟨rfl, rfl, rfl⟩ fq_11 dX1_sumWith_40 ?_
            refine lv_iload hx hb dX1_sumWith_43 (lv_at hl 0 rfl) ?_
            refine hx_iald hx hb hW hT gq_11 tt_16 rfl ⟨by omega, by omega⟩ dX1_sumWith_45 (fun x_21 ex_21 lx_21 ux_21 => ?_)
            refine lv_iconst (v := 3) hx hb dX1_sumWith_46 (by decide) ?_
            refine hb_icmp_ne (zx := x_21.toInt) (zy := 3) (tgt := 60) hx hb rfl (by decide) dX1_sumWith_47 (by decide) (fun c_22 => ?_) (fun c_22 => ?_)
            · skip
              refine lv_aload_n hx hb dX1_sumWith_60 rfl (lv_at hl 2 rfl) ?_
              refine hx_getn hx hb hts hC_1 hown hW hT gx tt_1 5 (by decide) rfl kw_202 ⟨rfl, rfl, rfl⟩ dX1_sumWith_61 (fun q_23 fq_23 gq_23 => ?_)
              refine lv_iload hx hb dX1_sumWith_64 (lv_at hl 0 rfl) ?_
              refine hx_iald hx hb hW hT gq_23 tt_17 rfl ⟨by omega, by omega⟩ dX1_sumWith_66 (fun x_24 ex_24 lx_24 ux_24 => ?_)
              refine lv_ineg hx hb dX1_sumWith_67 ?_
              refine lv_topi (fun x_25 ex_25 => ?_)
              refine lv_iadd hx hb dX1_sumWith_68 ?_
              have rg_26 := i32_r iv6_4
              have rg_27 := i32_r x_25
              refine lv_topi (fun x_28 ex_28 => ?_)
              refine lv_istore (lv' := [(4, .int x_28), (5, .int iv6_5), (0, .ref x), (1, .int i1), (2, .int i2), (3, .int i3)]) hx hb dX1_sumWith_69 hl (by decide) rfl (fun ls hl => ?_)
              obtain ⟨x_29, ex_29⟩ : ∃ y : Int32, y = iv6_5 + Int32.ofInt 1 := ⟨_, rfl⟩
              have rg_30 := i32_r iv6_5
              have zx_29 : x_29.toInt = iv6_5.toInt + (1) := by rw [ex_29]; exact i32_add rfl (by decide) (by omega) (by omega)
              refine lv_iinc (v := x_29) (lv' := [(5, .int x_29), (4, .int x_28), (0, .ref x), (1, .int i1), (2, .int i2), (3, .int i3)]) hx hb dX1_sumWith_71 hl (k := 1) rfl ex_29.symm (by decide) rfl (fun ls hl => ?_)
              refine lv_goto (tgt := 6) hx hb dX1_sumWith_74 (by decide) ?_
              exact ih6 x_29 x_28 _ _ L_3 h_4 ls (by omega) (by omega) (by omega) hW hT hM  gx  (lv_sub hl [0, 1, 2, 3, 4, 5] rfl)
            · skip
              refine lv_aload_n hx hb dX1_sumWith_50 rfl (lv_at hl 2 rfl) ?_
              refine hx_getn hx hb hts hC_1 hown hW hT gx tt_1 5 (by decide) rfl kw_202 ⟨rfl, rfl, rfl⟩ dX1_sumWith_51 (fun q_31 fq_31 gq_31 => ?_)
              refine lv_iload hx hb dX1_sumWith_54 (lv_at hl 0 rfl) ?_
              refine hx_iald hx hb hW hT gq_31 tt_17 rfl ⟨by omega, by omega⟩ dX1_sumWith_56 (fun x_32 ex_32 lx_32 ux_32 => ?_)
              refine lv_goto (tgt := 68) hx hb dX1_sumWith_57 (by decide) ?_
              refine lv_iadd hx hb dX1_sumWith_68 ?_
              have rg_33 := i32_r iv6_4
              have rg_34 := i32_r x_32
              refine lv_topi (fun x_35 ex_35 => ?_)
              refine lv_istore (lv' := [(4, .int x_35), (5, .int iv6_5), (0, .ref x), (1, .int i1), (2, .int i2), (3, .int i3)]) hx hb dX1_sumWith_69 hl (by decide) rfl (fun ls hl => ?_)
              obtain ⟨x_36, ex_36⟩ : ∃ y : Int32, y = iv6_5 + Int32.ofInt 1 := ⟨_, rfl⟩
              have rg_37 := i32_r iv6_5
              have zx_36 : x_36.toInt = iv6_5.toInt + (1) := by rw [ex_36]; exact i32_add rfl (by decide) (by omega) (by omega)
              refine lv_iinc (v := x_36) (lv' := [(5, .int x_36), (4, .int x_35), (0, .ref x), (1, .int i1), (2, .int i2), (3, .int i3)]) hx hb dX1_sumWith_71 hl (k := 1) rfl ex_36.symm (by decide) rfl (fun ls hl => ?_)
              refine lv_goto (tgt := 6) hx hb dX1_sumWith_74 (by decide) ?_
              exact ih6 x_36 x_35 _ _ L_3 h_4 ls (by omega) (by omega) (by omega) hW hT hM  gx  (lv_sub hl [0, 1, 2, 3, 4, 5] rfl)
  exact loop6 401 (0 : Int32) (0 : Int32) _ _ L h ls (by decide) (by decide) (by decide) hW hT hM  gx  hl

def wLX1_areTwins_0 : List Nat := [42, 180, 0, 21, 27, 46, 4, 130, 42, 180, 0, 21, 28, 46, 160, 0, 42, 42, 180, 0, 24, 27, 46, 42, 180, 0, 24, 28, 46, 160, 0, 27, 42, 180, 0, 18, 27, 46, 42, 180, 0, 18, 28, 46, 100, 184, 0, 49, 6, 163, 0, 7, 4, 167, 0, 4, 3, 172]
theorem wX1_areTwins_0 : (cX1_areTwins.data.toList.map UInt8.toNat).drop 0 = wLX1_areTwins_0 ++ ([]) := by decide +kernel
theorem dX1_areTwins_0 : decode cX1_areTwins 0 = .ok (.aload_n 0, 1) := dq_42 (hz_wg wX1_areTwins_0 (j := 0) (n := 42) rfl)
theorem dX1_areTwins_1 : decode cX1_areTwins 1 = .ok (.getfield 21, 3) := dq_180 (hz_wg wX1_areTwins_0 (j := 1) (n := 180) rfl) (hz_wg wX1_areTwins_0 (j := 2) (n := 0) rfl) (hz_wg wX1_areTwins_0 (j := 3) (n := 21) rfl) rfl
theorem dX1_areTwins_4 : decode cX1_areTwins 4 = .ok (.iload_n 1, 1) := dq_27 (hz_wg wX1_areTwins_0 (j := 4) (n := 27) rfl)
theorem dX1_areTwins_5 : decode cX1_areTwins 5 = .ok (.iaload, 1) := dq_46 (hz_wg wX1_areTwins_0 (j := 5) (n := 46) rfl)
theorem dX1_areTwins_6 : decode cX1_areTwins 6 = .ok (.iconst 1, 1) := dq_4 (hz_wg wX1_areTwins_0 (j := 6) (n := 4) rfl)
theorem dX1_areTwins_7 : decode cX1_areTwins 7 = .ok (.ixor, 1) := dq_130 (hz_wg wX1_areTwins_0 (j := 7) (n := 130) rfl)
theorem dX1_areTwins_8 : decode cX1_areTwins 8 = .ok (.aload_n 0, 1) := dq_42 (hz_wg wX1_areTwins_0 (j := 8) (n := 42) rfl)
theorem dX1_areTwins_9 : decode cX1_areTwins 9 = .ok (.getfield 21, 3) := dq_180 (hz_wg wX1_areTwins_0 (j := 9) (n := 180) rfl) (hz_wg wX1_areTwins_0 (j := 10) (n := 0) rfl) (hz_wg wX1_areTwins_0 (j := 11) (n := 21) rfl) rfl
theorem dX1_areTwins_12 : decode cX1_areTwins 12 = .ok (.iload_n 2, 1) := dq_28 (hz_wg wX1_areTwins_0 (j := 12) (n := 28) rfl)
theorem dX1_areTwins_13 : decode cX1_areTwins 13 = .ok (.iaload, 1) := dq_46 (hz_wg wX1_areTwins_0 (j := 13) (n := 46) rfl)
theorem dX1_areTwins_14 : decode cX1_areTwins 14 = .ok (.if_icmp .ne 42, 3) := dq_160 (hz_wg wX1_areTwins_0 (j := 14) (n := 160) rfl) (hz_wg wX1_areTwins_0 (j := 15) (n := 0) rfl) (hz_wg wX1_areTwins_0 (j := 16) (n := 42) rfl) (by decide)
theorem dX1_areTwins_17 : decode cX1_areTwins 17 = .ok (.aload_n 0, 1) := dq_42 (hz_wg wX1_areTwins_0 (j := 17) (n := 42) rfl)
theorem dX1_areTwins_18 : decode cX1_areTwins 18 = .ok (.getfield 24, 3) := dq_180 (hz_wg wX1_areTwins_0 (j := 18) (n := 180) rfl) (hz_wg wX1_areTwins_0 (j := 19) (n := 0) rfl) (hz_wg wX1_areTwins_0 (j := 20) (n := 24) rfl) rfl
theorem dX1_areTwins_21 : decode cX1_areTwins 21 = .ok (.iload_n 1, 1) := dq_27 (hz_wg wX1_areTwins_0 (j := 21) (n := 27) rfl)
theorem dX1_areTwins_22 : decode cX1_areTwins 22 = .ok (.iaload, 1) := dq_46 (hz_wg wX1_areTwins_0 (j := 22) (n := 46) rfl)
theorem dX1_areTwins_23 : decode cX1_areTwins 23 = .ok (.aload_n 0, 1) := dq_42 (hz_wg wX1_areTwins_0 (j := 23) (n := 42) rfl)
theorem dX1_areTwins_24 : decode cX1_areTwins 24 = .ok (.getfield 24, 3) := dq_180 (hz_wg wX1_areTwins_0 (j := 24) (n := 180) rfl) (hz_wg wX1_areTwins_0 (j := 25) (n := 0) rfl) (hz_wg wX1_areTwins_0 (j := 26) (n := 24) rfl) rfl
theorem dX1_areTwins_27 : decode cX1_areTwins 27 = .ok (.iload_n 2, 1) := dq_28 (hz_wg wX1_areTwins_0 (j := 27) (n := 28) rfl)
theorem dX1_areTwins_28 : decode cX1_areTwins 28 = .ok (.iaload, 1) := dq_46 (hz_wg wX1_areTwins_0 (j := 28) (n := 46) rfl)
theorem dX1_areTwins_29 : decode cX1_areTwins 29 = .ok (.if_icmp .ne 27, 3) := dq_160 (hz_wg wX1_areTwins_0 (j := 29) (n := 160) rfl) (hz_wg wX1_areTwins_0 (j := 30) (n := 0) rfl) (hz_wg wX1_areTwins_0 (j := 31) (n := 27) rfl) (by decide)
theorem dX1_areTwins_32 : decode cX1_areTwins 32 = .ok (.aload_n 0, 1) := dq_42 (hz_wg wX1_areTwins_0 (j := 32) (n := 42) rfl)
theorem dX1_areTwins_33 : decode cX1_areTwins 33 = .ok (.getfield 18, 3) := dq_180 (hz_wg wX1_areTwins_0 (j := 33) (n := 180) rfl) (hz_wg wX1_areTwins_0 (j := 34) (n := 0) rfl) (hz_wg wX1_areTwins_0 (j := 35) (n := 18) rfl) rfl
theorem dX1_areTwins_36 : decode cX1_areTwins 36 = .ok (.iload_n 1, 1) := dq_27 (hz_wg wX1_areTwins_0 (j := 36) (n := 27) rfl)
theorem dX1_areTwins_37 : decode cX1_areTwins 37 = .ok (.iaload, 1) := dq_46 (hz_wg wX1_areTwins_0 (j := 37) (n := 46) rfl)
theorem dX1_areTwins_38 : decode cX1_areTwins 38 = .ok (.aload_n 0, 1) := dq_42 (hz_wg wX1_areTwins_0 (j := 38) (n := 42) rfl)
theorem dX1_areTwins_39 : decode cX1_areTwins 39 = .ok (.getfield 18, 3) := dq_180 (hz_wg wX1_areTwins_0 (j := 39) (n := 180) rfl) (hz_wg wX1_areTwins_0 (j := 40) (n := 0) rfl) (hz_wg wX1_areTwins_0 (j := 41) (n := 18) rfl) rfl
theorem dX1_areTwins_42 : decode cX1_areTwins 42 = .ok (.iload_n 2, 1) := dq_28 (hz_wg wX1_areTwins_0 (j := 42) (n := 28) rfl)
theorem dX1_areTwins_43 : decode cX1_areTwins 43 = .ok (.iaload, 1) := dq_46 (hz_wg wX1_areTwins_0 (j := 43) (n := 46) rfl)
theorem dX1_areTwins_44 : decode cX1_areTwins 44 = .ok (.isub, 1) := dq_100 (hz_wg wX1_areTwins_0 (j := 44) (n := 100) rfl)
theorem dX1_areTwins_45 : decode cX1_areTwins 45 = .ok (.invokestatic 49, 3) := dq_184 (hz_wg wX1_areTwins_0 (j := 45) (n := 184) rfl) (hz_wg wX1_areTwins_0 (j := 46) (n := 0) rfl) (hz_wg wX1_areTwins_0 (j := 47) (n := 49) rfl) rfl
theorem dX1_areTwins_48 : decode cX1_areTwins 48 = .ok (.iconst 3, 1) := dq_6 (hz_wg wX1_areTwins_0 (j := 48) (n := 6) rfl)
theorem dX1_areTwins_49 : decode cX1_areTwins 49 = .ok (.if_icmp .gt 7, 3) := dq_163 (hz_wg wX1_areTwins_0 (j := 49) (n := 163) rfl) (hz_wg wX1_areTwins_0 (j := 50) (n := 0) rfl) (hz_wg wX1_areTwins_0 (j := 51) (n := 7) rfl) (by decide)
theorem dX1_areTwins_52 : decode cX1_areTwins 52 = .ok (.iconst 1, 1) := dq_4 (hz_wg wX1_areTwins_0 (j := 52) (n := 4) rfl)
theorem dX1_areTwins_53 : decode cX1_areTwins 53 = .ok (.goto 4, 3) := dq_167 (hz_wg wX1_areTwins_0 (j := 53) (n := 167) rfl) (hz_wg wX1_areTwins_0 (j := 54) (n := 0) rfl) (hz_wg wX1_areTwins_0 (j := 55) (n := 4) rfl) (by decide)
theorem dX1_areTwins_56 : decode cX1_areTwins 56 = .ok (.iconst 0, 1) := dq_3 (hz_wg wX1_areTwins_0 (j := 56) (n := 3) rfl)
theorem dX1_areTwins_57 : decode cX1_areTwins 57 = .ok (.ireturn, 1) := dq_172 (hz_wg wX1_areTwins_0 (j := 57) (n := 172) rfl)
set_option maxHeartbeats 4000000 in
set_option maxRecDepth 100000 in
theorem t_X1_areTwins (l : Launch) (dC : Nat → ClassId) (dI : Nat → Nat → Nat) (dA : Nat → ClassId) (L : List Nat) (h : hx_h) (sz : Nat) (x : Nat) (i1 : Int32) (i2 : Int32) (hT : hx_T T_tb L h) (gx : hx_g L h x 1) (hi1 : 0 ≤ i1.toInt ∧ i1.toInt ≤ 399) (hi2 : 0 ≤ i2.toInt ∧ i2.toInt ≤ 399) : Met l yX1_areTwins (Cond.code yX1_areTwins cX1_areTwins 3 (some .boolean) :: hx_all) ({ frames := 1, cells := 0, slots := 0, locals := 21 }) (va_Pc [.ref x, .int i1, .int i2] (hx_B T_tb (P_ty dA) (dC, dI) vwCl L h sz)) (va_Qi (fun (r : Int32) (u : List Nat × hx_h) => (r.toInt = 0 ∨ r.toInt = 1) ∧ hx_T T_tb u.1 u.2 ∧ hx_S T_tb [] L h u.1 u.2) (hx_E T_tb (P_ty dA) (dC, dI) vwCl (hx_A L sz)) (hx_A L sz)) 0 0 (hx_A L sz) := by
  refine hx_met (lv := [(0, .ref x), (1, .int i1), (2, .int i2)]) (by decide +kernel) rfl (Nat.le_of_ble_eq_true rfl) rfl ?_
  intro p e s m below meth c hx hb hml hr hlk hts0 hown hin hsz hW ls hl
  have hts : ∀ w ∈ hx_all, w.before _ s = true := fun w hw => hts0 w (List.mem_cons_of_mem _ hw)
  have hown : s.vm.findClass "SmallCourt$Books" = some m.cls := hown
  have hM : hx_S T_tb [] L h L h := hx_S.rf
  refine lv_aload_n hx hb dX1_areTwins_0 rfl (lv_at hl 0 rfl) ?_
  refine hx_getn hx hb hts hC_1 hown hW hT gx tt_1 4 (by decide) rfl kw_201 ⟨rfl, rfl, rfl⟩ dX1_areTwins_1 (fun q_1 fq_1 gq_1 => ?_)
  refine lv_iload_n hx hb dX1_areTwins_4 rfl (lv_at hl 1 rfl) ?_
  refine hx_iald hx hb hW hT gq_1 tt_16 rfl ⟨by omega, by omega⟩ dX1_areTwins_5 (fun x_2 ex_2 lx_2 ux_2 => ?_)
  refine lv_iconst (v := 1) hx hb dX1_areTwins_6 (by decide) ?_
  refine lv_ixor hx hb dX1_areTwins_7 ?_
  refine lv_topi (fun x_3 ex_3 => ?_)
  refine lv_aload_n hx hb dX1_areTwins_8 rfl (lv_at hl 0 rfl) ?_
  refine hk_getr hx hb hts hC_1 hown hW gx tt_1 4 (by decide) rfl kw_201 ⟨rfl, rfl, rfl⟩ fq_1 dX1_areTwins_9 ?_
  refine lv_iload_n hx hb dX1_areTwins_12 rfl (lv_at hl 2 rfl) ?_
  refine hx_iald hx hb hW hT gq_1 tt_16 rfl ⟨by omega, by omega⟩ dX1_areTwins_13 (fun x_4 ex_4 lx_4 ux_4 => ?_)
  refine hb_icmp_ne (zx := x_3.toInt) (zy := x_4.toInt) (tgt := 56) hx hb rfl rfl dX1_areTwins_14 (by decide) (fun c_5 => ?_) (fun c_5 => ?_)
  · skip
    refine lv_iconst (v := 0) hx hb dX1_areTwins_56 (by decide) ?_
    exact hx_retz hx hb hr rfl hlk hW ⟨(by decide), hT, hM⟩ dX1_areTwins_57
  · skip
    refine lv_aload_n hx hb dX1_areTwins_17 rfl (lv_at hl 0 rfl) ?_
    refine hx_getn hx hb hts hC_1 hown hW hT gx tt_1 5 (by decide) rfl kw_202 ⟨rfl, rfl, rfl⟩ dX1_areTwins_18 (fun q_6 fq_6 gq_6 => ?_)
    refine lv_iload_n hx hb dX1_areTwins_21 rfl (lv_at hl 1 rfl) ?_
    refine hx_iald hx hb hW hT gq_6 tt_17 rfl ⟨by omega, by omega⟩ dX1_areTwins_22 (fun x_7 ex_7 lx_7 ux_7 => ?_)
    refine lv_aload_n hx hb dX1_areTwins_23 rfl (lv_at hl 0 rfl) ?_
    refine hk_getr hx hb hts hC_1 hown hW gx tt_1 5 (by decide) rfl kw_202 ⟨rfl, rfl, rfl⟩ fq_6 dX1_areTwins_24 ?_
    refine lv_iload_n hx hb dX1_areTwins_27 rfl (lv_at hl 2 rfl) ?_
    refine hx_iald hx hb hW hT gq_6 tt_17 rfl ⟨by omega, by omega⟩ dX1_areTwins_28 (fun x_8 ex_8 lx_8 ux_8 => ?_)
    refine hb_icmp_ne (zx := x_7.toInt) (zy := x_8.toInt) (tgt := 56) hx hb rfl rfl dX1_areTwins_29 (by decide) (fun c_9 => ?_) (fun c_9 => ?_)
    · skip
      refine lv_iconst (v := 0) hx hb dX1_areTwins_56 (by decide) ?_
      exact hx_retz hx hb hr rfl hlk hW ⟨(by decide), hT, hM⟩ dX1_areTwins_57
    · skip
      refine lv_aload_n hx hb dX1_areTwins_32 rfl (lv_at hl 0 rfl) ?_
      refine hx_getn hx hb hts hC_1 hown hW hT gx tt_1 3 (by decide) rfl kw_200 ⟨rfl, rfl, rfl⟩ dX1_areTwins_33 (fun q_10 fq_10 gq_10 => ?_)
      refine lv_iload_n hx hb dX1_areTwins_36 rfl (lv_at hl 1 rfl) ?_
      refine hx_iald hx hb hW hT gq_10 tt_15 rfl ⟨by omega, by omega⟩ dX1_areTwins_37 (fun x_11 ex_11 lx_11 ux_11 => ?_)
      refine lv_aload_n hx hb dX1_areTwins_38 rfl (lv_at hl 0 rfl) ?_
      refine hk_getr hx hb hts hC_1 hown hW gx tt_1 3 (by decide) rfl kw_200 ⟨rfl, rfl, rfl⟩ fq_10 dX1_areTwins_39 ?_
      refine lv_iload_n hx hb dX1_areTwins_42 rfl (lv_at hl 2 rfl) ?_
      refine hx_iald hx hb hW hT gq_10 tt_15 rfl ⟨by omega, by omega⟩ dX1_areTwins_43 (fun x_12 ex_12 lx_12 ux_12 => ?_)
      refine lv_isub hx hb dX1_areTwins_44 ?_
      have rg_13 := i32_r x_11
      have rg_14 := i32_r x_12
      refine lv_topi (fun x_15 ex_15 => ?_)
      refine va_mabs hx hb (hml.trans hl.1.symm) hown (hts _ kw_705) (hts _ kw_706) (hts _ kw_109) (hts _ kw_707) (Nat.le_of_ble_eq_true rfl) (Nat.le_of_ble_eq_true rfl) (Nat.le_of_ble_eq_true rfl) (Nat.le_of_ble_eq_true rfl) dX1_areTwins_45 ?_
      refine lv_topi (fun x_16 ex_16 => ?_)
      refine lv_iconst (v := 3) hx hb dX1_areTwins_48 (by decide) ?_
      refine hb_icmp_gt (zx := x_16.toInt) (zy := 3) (tgt := 56) hx hb rfl (by decide) dX1_areTwins_49 (by decide) (fun c_17 => ?_) (fun c_17 => ?_)
      · skip
        refine lv_iconst (v := 0) hx hb dX1_areTwins_56 (by decide) ?_
        exact hx_retz hx hb hr rfl hlk hW ⟨(by decide), hT, hM⟩ dX1_areTwins_57
      · skip
        refine lv_iconst (v := 1) hx hb dX1_areTwins_52 (by decide) ?_
        refine lv_goto (tgt := 57) hx hb dX1_areTwins_53 (by decide) ?_
        exact hx_retz hx hb hr rfl hlk hW ⟨(by decide), hT, hM⟩ dX1_areTwins_57

def wLX1_disorder_0 : List Nat := [3, 61, 3, 62, 3, 54, 4, 21, 4, 42, 180, 0, 34, 162, 0, 47, 42, 180, 0, 9, 21, 4, 46, 27, 160, 0, 30, 28, 42, 180, 0, 18, 21, 4, 46, 29, 162, 0, 7, 4, 167, 0, 4, 3, 96, 61, 42, 180, 0, 18, 21, 4, 46, 62, 132, 4, 1, 167, 255, 206, 28, 172]
theorem wX1_disorder_0 : (cX1_disorder.data.toList.map UInt8.toNat).drop 0 = wLX1_disorder_0 ++ ([]) := by decide +kernel
theorem dX1_disorder_0 : decode cX1_disorder 0 = .ok (.iconst 0, 1) := dq_3 (hz_wg wX1_disorder_0 (j := 0) (n := 3) rfl)
theorem dX1_disorder_1 : decode cX1_disorder 1 = .ok (.istore_n 2, 1) := dq_61 (hz_wg wX1_disorder_0 (j := 1) (n := 61) rfl)
theorem dX1_disorder_2 : decode cX1_disorder 2 = .ok (.iconst 0, 1) := dq_3 (hz_wg wX1_disorder_0 (j := 2) (n := 3) rfl)
theorem dX1_disorder_3 : decode cX1_disorder 3 = .ok (.istore_n 3, 1) := dq_62 (hz_wg wX1_disorder_0 (j := 3) (n := 62) rfl)
theorem dX1_disorder_4 : decode cX1_disorder 4 = .ok (.iconst 0, 1) := dq_3 (hz_wg wX1_disorder_0 (j := 4) (n := 3) rfl)
theorem dX1_disorder_5 : decode cX1_disorder 5 = .ok (.istore 4, 2) := dq_54 (hz_wg wX1_disorder_0 (j := 5) (n := 54) rfl) (hz_wg wX1_disorder_0 (j := 6) (n := 4) rfl)
theorem dX1_disorder_7 : decode cX1_disorder 7 = .ok (.iload 4, 2) := dq_21 (hz_wg wX1_disorder_0 (j := 7) (n := 21) rfl) (hz_wg wX1_disorder_0 (j := 8) (n := 4) rfl)
theorem dX1_disorder_9 : decode cX1_disorder 9 = .ok (.aload_n 0, 1) := dq_42 (hz_wg wX1_disorder_0 (j := 9) (n := 42) rfl)
theorem dX1_disorder_10 : decode cX1_disorder 10 = .ok (.getfield 34, 3) := dq_180 (hz_wg wX1_disorder_0 (j := 10) (n := 180) rfl) (hz_wg wX1_disorder_0 (j := 11) (n := 0) rfl) (hz_wg wX1_disorder_0 (j := 12) (n := 34) rfl) rfl
theorem dX1_disorder_13 : decode cX1_disorder 13 = .ok (.if_icmp .ge 47, 3) := dq_162 (hz_wg wX1_disorder_0 (j := 13) (n := 162) rfl) (hz_wg wX1_disorder_0 (j := 14) (n := 0) rfl) (hz_wg wX1_disorder_0 (j := 15) (n := 47) rfl) (by decide)
theorem dX1_disorder_16 : decode cX1_disorder 16 = .ok (.aload_n 0, 1) := dq_42 (hz_wg wX1_disorder_0 (j := 16) (n := 42) rfl)
theorem dX1_disorder_17 : decode cX1_disorder 17 = .ok (.getfield 9, 3) := dq_180 (hz_wg wX1_disorder_0 (j := 17) (n := 180) rfl) (hz_wg wX1_disorder_0 (j := 18) (n := 0) rfl) (hz_wg wX1_disorder_0 (j := 19) (n := 9) rfl) rfl
theorem dX1_disorder_20 : decode cX1_disorder 20 = .ok (.iload 4, 2) := dq_21 (hz_wg wX1_disorder_0 (j := 20) (n := 21) rfl) (hz_wg wX1_disorder_0 (j := 21) (n := 4) rfl)
theorem dX1_disorder_22 : decode cX1_disorder 22 = .ok (.iaload, 1) := dq_46 (hz_wg wX1_disorder_0 (j := 22) (n := 46) rfl)
theorem dX1_disorder_23 : decode cX1_disorder 23 = .ok (.iload_n 1, 1) := dq_27 (hz_wg wX1_disorder_0 (j := 23) (n := 27) rfl)
theorem dX1_disorder_24 : decode cX1_disorder 24 = .ok (.if_icmp .ne 30, 3) := dq_160 (hz_wg wX1_disorder_0 (j := 24) (n := 160) rfl) (hz_wg wX1_disorder_0 (j := 25) (n := 0) rfl) (hz_wg wX1_disorder_0 (j := 26) (n := 30) rfl) (by decide)
theorem dX1_disorder_27 : decode cX1_disorder 27 = .ok (.iload_n 2, 1) := dq_28 (hz_wg wX1_disorder_0 (j := 27) (n := 28) rfl)
theorem dX1_disorder_28 : decode cX1_disorder 28 = .ok (.aload_n 0, 1) := dq_42 (hz_wg wX1_disorder_0 (j := 28) (n := 42) rfl)
theorem dX1_disorder_29 : decode cX1_disorder 29 = .ok (.getfield 18, 3) := dq_180 (hz_wg wX1_disorder_0 (j := 29) (n := 180) rfl) (hz_wg wX1_disorder_0 (j := 30) (n := 0) rfl) (hz_wg wX1_disorder_0 (j := 31) (n := 18) rfl) rfl
theorem dX1_disorder_32 : decode cX1_disorder 32 = .ok (.iload 4, 2) := dq_21 (hz_wg wX1_disorder_0 (j := 32) (n := 21) rfl) (hz_wg wX1_disorder_0 (j := 33) (n := 4) rfl)
theorem dX1_disorder_34 : decode cX1_disorder 34 = .ok (.iaload, 1) := dq_46 (hz_wg wX1_disorder_0 (j := 34) (n := 46) rfl)
theorem dX1_disorder_35 : decode cX1_disorder 35 = .ok (.iload_n 3, 1) := dq_29 (hz_wg wX1_disorder_0 (j := 35) (n := 29) rfl)
theorem dX1_disorder_36 : decode cX1_disorder 36 = .ok (.if_icmp .ge 7, 3) := dq_162 (hz_wg wX1_disorder_0 (j := 36) (n := 162) rfl) (hz_wg wX1_disorder_0 (j := 37) (n := 0) rfl) (hz_wg wX1_disorder_0 (j := 38) (n := 7) rfl) (by decide)
theorem dX1_disorder_39 : decode cX1_disorder 39 = .ok (.iconst 1, 1) := dq_4 (hz_wg wX1_disorder_0 (j := 39) (n := 4) rfl)
theorem dX1_disorder_40 : decode cX1_disorder 40 = .ok (.goto 4, 3) := dq_167 (hz_wg wX1_disorder_0 (j := 40) (n := 167) rfl) (hz_wg wX1_disorder_0 (j := 41) (n := 0) rfl) (hz_wg wX1_disorder_0 (j := 42) (n := 4) rfl) (by decide)
theorem dX1_disorder_43 : decode cX1_disorder 43 = .ok (.iconst 0, 1) := dq_3 (hz_wg wX1_disorder_0 (j := 43) (n := 3) rfl)
theorem dX1_disorder_44 : decode cX1_disorder 44 = .ok (.iadd, 1) := dq_96 (hz_wg wX1_disorder_0 (j := 44) (n := 96) rfl)
theorem dX1_disorder_45 : decode cX1_disorder 45 = .ok (.istore_n 2, 1) := dq_61 (hz_wg wX1_disorder_0 (j := 45) (n := 61) rfl)
theorem dX1_disorder_46 : decode cX1_disorder 46 = .ok (.aload_n 0, 1) := dq_42 (hz_wg wX1_disorder_0 (j := 46) (n := 42) rfl)
theorem dX1_disorder_47 : decode cX1_disorder 47 = .ok (.getfield 18, 3) := dq_180 (hz_wg wX1_disorder_0 (j := 47) (n := 180) rfl) (hz_wg wX1_disorder_0 (j := 48) (n := 0) rfl) (hz_wg wX1_disorder_0 (j := 49) (n := 18) rfl) rfl
theorem dX1_disorder_50 : decode cX1_disorder 50 = .ok (.iload 4, 2) := dq_21 (hz_wg wX1_disorder_0 (j := 50) (n := 21) rfl) (hz_wg wX1_disorder_0 (j := 51) (n := 4) rfl)
theorem dX1_disorder_52 : decode cX1_disorder 52 = .ok (.iaload, 1) := dq_46 (hz_wg wX1_disorder_0 (j := 52) (n := 46) rfl)
theorem dX1_disorder_53 : decode cX1_disorder 53 = .ok (.istore_n 3, 1) := dq_62 (hz_wg wX1_disorder_0 (j := 53) (n := 62) rfl)
theorem dX1_disorder_54 : decode cX1_disorder 54 = .ok (.iinc 4 1, 3) := dq_132 (hz_wg wX1_disorder_0 (j := 54) (n := 132) rfl) (hz_wg wX1_disorder_0 (j := 55) (n := 4) rfl) (hz_wg wX1_disorder_0 (j := 56) (n := 1) rfl) (by decide)
theorem dX1_disorder_57 : decode cX1_disorder 57 = .ok (.goto (-50), 3) := dq_167 (hz_wg wX1_disorder_0 (j := 57) (n := 167) rfl) (hz_wg wX1_disorder_0 (j := 58) (n := 255) rfl) (hz_wg wX1_disorder_0 (j := 59) (n := 206) rfl) (by decide)
theorem dX1_disorder_60 : decode cX1_disorder 60 = .ok (.iload_n 2, 1) := dq_28 (hz_wg wX1_disorder_0 (j := 60) (n := 28) rfl)
theorem dX1_disorder_61 : decode cX1_disorder 61 = .ok (.ireturn, 1) := dq_172 (hz_wg wX1_disorder_0 (j := 61) (n := 172) rfl)
def wLX1_takeTwin_0 : List Nat := [3, 62, 29, 42, 180, 0, 34, 162, 0, 69, 42, 180, 0, 27, 29, 46, 54, 4, 42, 180, 0, 30, 21, 4, 51, 154, 0, 45, 42, 21, 4, 42, 180, 0, 15, 27, 46, 42, 180, 0, 9, 27, 46, 28, 182, 0, 38, 153, 0, 23, 42, 27, 21, 4, 182, 0, 46, 153, 0, 13, 42, 180, 0, 30]
def wLX1_takeTwin_1 : List Nat := [21, 4, 4, 84, 4, 172, 132, 3, 1, 167, 255, 185, 3, 172]
theorem wX1_takeTwin_0 : (cX1_takeTwin.data.toList.map UInt8.toNat).drop 0 = wLX1_takeTwin_0 ++ (wLX1_takeTwin_1 ++ ([])) := by decide +kernel
theorem wX1_takeTwin_1 : (cX1_takeTwin.data.toList.map UInt8.toNat).drop 64 = wLX1_takeTwin_1 ++ ([]) := hz_wn wX1_takeTwin_0 rfl
theorem dX1_takeTwin_0 : decode cX1_takeTwin 0 = .ok (.iconst 0, 1) := dq_3 (hz_wg wX1_takeTwin_0 (j := 0) (n := 3) rfl)
theorem dX1_takeTwin_1 : decode cX1_takeTwin 1 = .ok (.istore_n 3, 1) := dq_62 (hz_wg wX1_takeTwin_0 (j := 1) (n := 62) rfl)
theorem dX1_takeTwin_2 : decode cX1_takeTwin 2 = .ok (.iload_n 3, 1) := dq_29 (hz_wg wX1_takeTwin_0 (j := 2) (n := 29) rfl)
theorem dX1_takeTwin_3 : decode cX1_takeTwin 3 = .ok (.aload_n 0, 1) := dq_42 (hz_wg wX1_takeTwin_0 (j := 3) (n := 42) rfl)
theorem dX1_takeTwin_4 : decode cX1_takeTwin 4 = .ok (.getfield 34, 3) := dq_180 (hz_wg wX1_takeTwin_0 (j := 4) (n := 180) rfl) (hz_wg wX1_takeTwin_0 (j := 5) (n := 0) rfl) (hz_wg wX1_takeTwin_0 (j := 6) (n := 34) rfl) rfl
theorem dX1_takeTwin_7 : decode cX1_takeTwin 7 = .ok (.if_icmp .ge 69, 3) := dq_162 (hz_wg wX1_takeTwin_0 (j := 7) (n := 162) rfl) (hz_wg wX1_takeTwin_0 (j := 8) (n := 0) rfl) (hz_wg wX1_takeTwin_0 (j := 9) (n := 69) rfl) (by decide)
theorem dX1_takeTwin_10 : decode cX1_takeTwin 10 = .ok (.aload_n 0, 1) := dq_42 (hz_wg wX1_takeTwin_0 (j := 10) (n := 42) rfl)
theorem dX1_takeTwin_11 : decode cX1_takeTwin 11 = .ok (.getfield 27, 3) := dq_180 (hz_wg wX1_takeTwin_0 (j := 11) (n := 180) rfl) (hz_wg wX1_takeTwin_0 (j := 12) (n := 0) rfl) (hz_wg wX1_takeTwin_0 (j := 13) (n := 27) rfl) rfl
theorem dX1_takeTwin_14 : decode cX1_takeTwin 14 = .ok (.iload_n 3, 1) := dq_29 (hz_wg wX1_takeTwin_0 (j := 14) (n := 29) rfl)
theorem dX1_takeTwin_15 : decode cX1_takeTwin 15 = .ok (.iaload, 1) := dq_46 (hz_wg wX1_takeTwin_0 (j := 15) (n := 46) rfl)
theorem dX1_takeTwin_16 : decode cX1_takeTwin 16 = .ok (.istore 4, 2) := dq_54 (hz_wg wX1_takeTwin_0 (j := 16) (n := 54) rfl) (hz_wg wX1_takeTwin_0 (j := 17) (n := 4) rfl)
theorem dX1_takeTwin_18 : decode cX1_takeTwin 18 = .ok (.aload_n 0, 1) := dq_42 (hz_wg wX1_takeTwin_0 (j := 18) (n := 42) rfl)
theorem dX1_takeTwin_19 : decode cX1_takeTwin 19 = .ok (.getfield 30, 3) := dq_180 (hz_wg wX1_takeTwin_0 (j := 19) (n := 180) rfl) (hz_wg wX1_takeTwin_0 (j := 20) (n := 0) rfl) (hz_wg wX1_takeTwin_0 (j := 21) (n := 30) rfl) rfl
theorem dX1_takeTwin_22 : decode cX1_takeTwin 22 = .ok (.iload 4, 2) := dq_21 (hz_wg wX1_takeTwin_0 (j := 22) (n := 21) rfl) (hz_wg wX1_takeTwin_0 (j := 23) (n := 4) rfl)
theorem dX1_takeTwin_24 : decode cX1_takeTwin 24 = .ok (.baload, 1) := dq_51 (hz_wg wX1_takeTwin_0 (j := 24) (n := 51) rfl)
theorem dX1_takeTwin_25 : decode cX1_takeTwin 25 = .ok (.ifCond .ne 45, 3) := dq_154 (hz_wg wX1_takeTwin_0 (j := 25) (n := 154) rfl) (hz_wg wX1_takeTwin_0 (j := 26) (n := 0) rfl) (hz_wg wX1_takeTwin_0 (j := 27) (n := 45) rfl) (by decide)
theorem dX1_takeTwin_28 : decode cX1_takeTwin 28 = .ok (.aload_n 0, 1) := dq_42 (hz_wg wX1_takeTwin_0 (j := 28) (n := 42) rfl)
theorem dX1_takeTwin_29 : decode cX1_takeTwin 29 = .ok (.iload 4, 2) := dq_21 (hz_wg wX1_takeTwin_0 (j := 29) (n := 21) rfl) (hz_wg wX1_takeTwin_0 (j := 30) (n := 4) rfl)
theorem dX1_takeTwin_31 : decode cX1_takeTwin 31 = .ok (.aload_n 0, 1) := dq_42 (hz_wg wX1_takeTwin_0 (j := 31) (n := 42) rfl)
theorem dX1_takeTwin_32 : decode cX1_takeTwin 32 = .ok (.getfield 15, 3) := dq_180 (hz_wg wX1_takeTwin_0 (j := 32) (n := 180) rfl) (hz_wg wX1_takeTwin_0 (j := 33) (n := 0) rfl) (hz_wg wX1_takeTwin_0 (j := 34) (n := 15) rfl) rfl
theorem dX1_takeTwin_35 : decode cX1_takeTwin 35 = .ok (.iload_n 1, 1) := dq_27 (hz_wg wX1_takeTwin_0 (j := 35) (n := 27) rfl)
theorem dX1_takeTwin_36 : decode cX1_takeTwin 36 = .ok (.iaload, 1) := dq_46 (hz_wg wX1_takeTwin_0 (j := 36) (n := 46) rfl)
theorem dX1_takeTwin_37 : decode cX1_takeTwin 37 = .ok (.aload_n 0, 1) := dq_42 (hz_wg wX1_takeTwin_0 (j := 37) (n := 42) rfl)
theorem dX1_takeTwin_38 : decode cX1_takeTwin 38 = .ok (.getfield 9, 3) := dq_180 (hz_wg wX1_takeTwin_0 (j := 38) (n := 180) rfl) (hz_wg wX1_takeTwin_0 (j := 39) (n := 0) rfl) (hz_wg wX1_takeTwin_0 (j := 40) (n := 9) rfl) rfl
theorem dX1_takeTwin_41 : decode cX1_takeTwin 41 = .ok (.iload_n 1, 1) := dq_27 (hz_wg wX1_takeTwin_0 (j := 41) (n := 27) rfl)
theorem dX1_takeTwin_42 : decode cX1_takeTwin 42 = .ok (.iaload, 1) := dq_46 (hz_wg wX1_takeTwin_0 (j := 42) (n := 46) rfl)
theorem dX1_takeTwin_43 : decode cX1_takeTwin 43 = .ok (.iload_n 2, 1) := dq_28 (hz_wg wX1_takeTwin_0 (j := 43) (n := 28) rfl)
theorem dX1_takeTwin_44 : decode cX1_takeTwin 44 = .ok (.invokevirtual 38, 3) := dq_182 (hz_wg wX1_takeTwin_0 (j := 44) (n := 182) rfl) (hz_wg wX1_takeTwin_0 (j := 45) (n := 0) rfl) (hz_wg wX1_takeTwin_0 (j := 46) (n := 38) rfl) rfl
theorem dX1_takeTwin_47 : decode cX1_takeTwin 47 = .ok (.ifCond .eq 23, 3) := dq_153 (hz_wg wX1_takeTwin_0 (j := 47) (n := 153) rfl) (hz_wg wX1_takeTwin_0 (j := 48) (n := 0) rfl) (hz_wg wX1_takeTwin_0 (j := 49) (n := 23) rfl) (by decide)
theorem dX1_takeTwin_50 : decode cX1_takeTwin 50 = .ok (.aload_n 0, 1) := dq_42 (hz_wg wX1_takeTwin_0 (j := 50) (n := 42) rfl)
theorem dX1_takeTwin_51 : decode cX1_takeTwin 51 = .ok (.iload_n 1, 1) := dq_27 (hz_wg wX1_takeTwin_0 (j := 51) (n := 27) rfl)
theorem dX1_takeTwin_52 : decode cX1_takeTwin 52 = .ok (.iload 4, 2) := dq_21 (hz_wg wX1_takeTwin_0 (j := 52) (n := 21) rfl) (hz_wg wX1_takeTwin_0 (j := 53) (n := 4) rfl)
theorem dX1_takeTwin_54 : decode cX1_takeTwin 54 = .ok (.invokevirtual 46, 3) := dq_182 (hz_wg wX1_takeTwin_0 (j := 54) (n := 182) rfl) (hz_wg wX1_takeTwin_0 (j := 55) (n := 0) rfl) (hz_wg wX1_takeTwin_0 (j := 56) (n := 46) rfl) rfl
theorem dX1_takeTwin_57 : decode cX1_takeTwin 57 = .ok (.ifCond .eq 13, 3) := dq_153 (hz_wg wX1_takeTwin_0 (j := 57) (n := 153) rfl) (hz_wg wX1_takeTwin_0 (j := 58) (n := 0) rfl) (hz_wg wX1_takeTwin_0 (j := 59) (n := 13) rfl) (by decide)
theorem dX1_takeTwin_60 : decode cX1_takeTwin 60 = .ok (.aload_n 0, 1) := dq_42 (hz_wg wX1_takeTwin_0 (j := 60) (n := 42) rfl)
theorem dX1_takeTwin_61 : decode cX1_takeTwin 61 = .ok (.getfield 30, 3) := dq_180 (hz_wg wX1_takeTwin_0 (j := 61) (n := 180) rfl) (hz_wg wX1_takeTwin_0 (j := 62) (n := 0) rfl) (hz_wg wX1_takeTwin_0 (j := 63) (n := 30) rfl) rfl
theorem dX1_takeTwin_64 : decode cX1_takeTwin 64 = .ok (.iload 4, 2) := dq_21 (hz_wg wX1_takeTwin_1 (j := 0) (n := 21) rfl) (hz_wg wX1_takeTwin_1 (j := 1) (n := 4) rfl)
theorem dX1_takeTwin_66 : decode cX1_takeTwin 66 = .ok (.iconst 1, 1) := dq_4 (hz_wg wX1_takeTwin_1 (j := 2) (n := 4) rfl)
theorem dX1_takeTwin_67 : decode cX1_takeTwin 67 = .ok (.bastore, 1) := dq_84 (hz_wg wX1_takeTwin_1 (j := 3) (n := 84) rfl)
theorem dX1_takeTwin_68 : decode cX1_takeTwin 68 = .ok (.iconst 1, 1) := dq_4 (hz_wg wX1_takeTwin_1 (j := 4) (n := 4) rfl)
theorem dX1_takeTwin_69 : decode cX1_takeTwin 69 = .ok (.ireturn, 1) := dq_172 (hz_wg wX1_takeTwin_1 (j := 5) (n := 172) rfl)
theorem dX1_takeTwin_70 : decode cX1_takeTwin 70 = .ok (.iinc 3 1, 3) := dq_132 (hz_wg wX1_takeTwin_1 (j := 6) (n := 132) rfl) (hz_wg wX1_takeTwin_1 (j := 7) (n := 3) rfl) (hz_wg wX1_takeTwin_1 (j := 8) (n := 1) rfl) (by decide)
theorem dX1_takeTwin_73 : decode cX1_takeTwin 73 = .ok (.goto (-71), 3) := dq_167 (hz_wg wX1_takeTwin_1 (j := 9) (n := 167) rfl) (hz_wg wX1_takeTwin_1 (j := 10) (n := 255) rfl) (hz_wg wX1_takeTwin_1 (j := 11) (n := 185) rfl) (by decide)
theorem dX1_takeTwin_76 : decode cX1_takeTwin 76 = .ok (.iconst 0, 1) := dq_3 (hz_wg wX1_takeTwin_1 (j := 12) (n := 3) rfl)
theorem dX1_takeTwin_77 : decode cX1_takeTwin 77 = .ok (.ireturn, 1) := dq_172 (hz_wg wX1_takeTwin_1 (j := 13) (n := 172) rfl)
set_option maxHeartbeats 4000000 in
set_option maxRecDepth 100000 in
theorem t_X1_takeTwin (l : Launch) (dC : Nat → ClassId) (dI : Nat → Nat → Nat) (dA : Nat → ClassId) (L : List Nat) (h : hx_h) (sz : Nat) (x : Nat) (i1 : Int32) (i2 : Int32) (hT : hx_T T_tb L h) (gx : hx_g L h x 1) (hi1 : 0 ≤ i1.toInt ∧ i1.toInt ≤ 399) : Met l yX1_takeTwin (Cond.code yX1_takeTwin cX1_takeTwin 5 (some .boolean) :: hx_all) ({ frames := 2, cells := 0, slots := 0, locals := 43 }) (va_Pc [.ref x, .int i1, .int i2] (hx_B T_tb (P_ty dA) (dC, dI) vwCl L h sz)) (va_Qi (fun (r : Int32) (u : List Nat × hx_h) => (r.toInt = 0 ∨ r.toInt = 1) ∧ hx_T T_tb u.1 u.2 ∧ hx_S T_tb [(19, 0)] L h u.1 u.2) (hx_E T_tb (P_ty dA) (dC, dI) vwCl (hx_A L sz)) (hx_A L sz)) 0 0 (hx_A L sz) := by
  refine hx_met (lv := [(0, .ref x), (1, .int i1), (2, .int i2)]) (by decide +kernel) rfl (Nat.le_of_ble_eq_true rfl) rfl ?_
  intro p e s m below meth c hx hb hml hr hlk hts0 hown hin hsz hW ls hl
  have hts : ∀ w ∈ hx_all, w.before _ s = true := fun w hw => hts0 w (List.mem_cons_of_mem _ hw)
  have hown : s.vm.findClass "SmallCourt$Books" = some m.cls := hown
  have hM : hx_S T_tb [(19, 0)] L h L h := hx_S.rf
  refine lv_iconst (v := 0) hx hb dX1_takeTwin_0 (by decide) ?_
  refine lv_istore_n (lv' := [(3, .int (0 : Int32)), (0, .ref x), (1, .int i1), (2, .int i2)]) hx hb dX1_takeTwin_1 rfl hl (by decide) rfl (fun ls hl => ?_)
  have loop2 : ∀ (n2 : Nat) (iv2_3 : Int32) (H : Heap) (locs : List Loc) (hL1 : List Nat) (hl1 : hx_h) (ls : Array Slot), 0 ≤ iv2_3.toInt → iv2_3.toInt ≤ 400 → 400 < iv2_3.toInt + n2 → hx_W T_tb (P_ty dA) (dC, dI) vwCl (hx_A L sz) s.heap hL1 hl1 s H locs → hx_T T_tb hL1 hl1 → hx_S T_tb [(19, 0)] L h hL1 hl1 → hx_g hL1 hl1 x 1 → lv_has ls 5 [(3, .int iv2_3), (0, .ref x), (1, .int i1), (2, .int i2)] → W p l e ({ frames := 2, cells := 0, slots := 0, locals := 43 }) s m ([.ref x, .int i1, .int i2] : List Value).toArray below meth c H locs 0 0 (MQ below (va_Qi (fun (r : Int32) (u : List Nat × hx_h) => (r.toInt = 0 ∨ r.toInt = 1) ∧ hx_T T_tb u.1 u.2 ∧ hx_S T_tb [(19, 0)] L h u.1 u.2) (hx_E T_tb (P_ty dA) (dC, dI) vwCl (hx_A L sz)) (hx_A L sz)) ([.ref x, .int i1, .int i2] : List Value).toArray s 0 0 (hx_A L sz)) (F0 m 2 ls []) := by
    intro n2
    induction n2 with
    | zero => intro iv2_3 H locs hL1 hl1 ls bl2_3 bu2_3 hn2; exfalso; omega
    | succ n2 ih2 =>
      intro iv2_3 H locs hL1 hl1 ls bl2_3 bu2_3 hn2 hW hT hM  gx  hl
      refine lv_iload_n hx hb dX1_takeTwin_2 rfl (lv_at hl 0 rfl) ?_
      refine lv_aload_n hx hb dX1_takeTwin_3 rfl (lv_at hl 1 rfl) ?_
      refine hx_geti hx hb hts hC_1 hown hW hT gx tt_1 0 (by decide) rfl kw_196 ⟨rfl, rfl, rfl⟩ dX1_takeTwin_4 (fun x_1 ex_1 lx_1 ux_1 => ?_)
      have fx_1 := ex_1.symm
      refine hb_icmp_ge (zx := iv2_3.toInt) (zy := x_1.toInt) (tgt := 76) hx hb rfl rfl dX1_takeTwin_7 (by decide) (fun c_2 => ?_) (fun c_2 => ?_)
      · skip
        refine lv_iconst (v := 0) hx hb dX1_takeTwin_76 (by decide) ?_
        exact hx_retz hx hb hr rfl hlk hW ⟨(by decide), hT, hM⟩ dX1_takeTwin_77
      · skip
        refine lv_aload_n hx hb dX1_takeTwin_10 rfl (lv_at hl 1 rfl) ?_
        refine hx_getn hx hb hts hC_1 hown hW hT gx tt_1 6 (by decide) rfl kw_203 ⟨rfl, rfl, rfl⟩ dX1_takeTwin_11 (fun q_3 fq_3 gq_3 => ?_)
        refine lv_iload_n hx hb dX1_takeTwin_14 rfl (lv_at hl 0 rfl) ?_
        refine hx_iald hx hb hW hT gq_3 tt_18 rfl ⟨by omega, by omega⟩ dX1_takeTwin_15 (fun x_4 ex_4 lx_4 ux_4 => ?_)
        refine lv_istore (lv' := [(4, .int x_4), (3, .int iv2_3), (0, .ref x), (1, .int i1), (2, .int i2)]) hx hb dX1_takeTwin_16 hl (by decide) rfl (fun ls hl => ?_)
        refine lv_aload_n hx hb dX1_takeTwin_18 rfl (lv_at hl 2 rfl) ?_
        refine hx_getn hx hb hts hC_1 hown hW hT gx tt_1 7 (by decide) rfl kw_204 ⟨rfl, rfl, rfl⟩ dX1_takeTwin_19 (fun q_5 fq_5 gq_5 => ?_)
        refine lv_iload hx hb dX1_takeTwin_22 (lv_at hl 0 rfl) ?_
        refine hx_zald hx hb hW hT gq_5 tt_19 rfl ⟨by omega, by omega⟩ dX1_takeTwin_24 (fun x_6 ex_6 lx_6 ux_6 => ?_)
        refine hb_if_ne (zx := x_6.toInt) (tgt := 70) hx hb rfl dX1_takeTwin_25 (by decide) (fun c_7 => ?_) (fun c_7 => ?_)
        · skip
          obtain ⟨x_8, ex_8⟩ : ∃ y : Int32, y = iv2_3 + Int32.ofInt 1 := ⟨_, rfl⟩
          have rg_9 := i32_r iv2_3
          have zx_8 : x_8.toInt = iv2_3.toInt + (1) := by rw [ex_8]; exact i32_add rfl (by decide) (by omega) (by omega)
          refine lv_iinc (v := x_8) (lv' := [(3, .int x_8), (4, .int x_4), (0, .ref x), (1, .int i1), (2, .int i2)]) hx hb dX1_takeTwin_70 hl (k := 1) rfl ex_8.symm (by decide) rfl (fun ls hl => ?_)
          refine lv_goto (tgt := 2) hx hb dX1_takeTwin_73 (by decide) ?_
          exact ih2 x_8 _ _ hL1 hl1 ls (by omega) (by omega) (by omega) hW hT hM  gx  (lv_sub hl [0, 2, 3, 4] rfl)
        · skip
          refine lv_aload_n hx hb dX1_takeTwin_28 rfl (lv_at hl 2 rfl) ?_
          refine lv_iload hx hb dX1_takeTwin_29 (lv_at hl 0 rfl) ?_
          refine lv_aload_n hx hb dX1_takeTwin_31 rfl (lv_at hl 2 rfl) ?_
          refine hx_getn hx hb hts hC_1 hown hW hT gx tt_1 2 (by decide) rfl kw_199 ⟨rfl, rfl, rfl⟩ dX1_takeTwin_32 (fun q_10 fq_10 gq_10 => ?_)
          refine lv_iload_n hx hb dX1_takeTwin_35 rfl (lv_at hl 3 rfl) ?_
          refine hx_iald hx hb hW hT gq_10 tt_14 rfl ⟨by omega, by omega⟩ dX1_takeTwin_36 (fun x_11 ex_11 lx_11 ux_11 => ?_)
          refine lv_aload_n hx hb dX1_takeTwin_37 rfl (lv_at hl 2 rfl) ?_
          refine hx_getn hx hb hts hC_1 hown hW hT gx tt_1 1 (by decide) rfl kw_198 ⟨rfl, rfl, rfl⟩ dX1_takeTwin_38 (fun q_12 fq_12 gq_12 => ?_)
          refine lv_iload_n hx hb dX1_takeTwin_41 rfl (lv_at hl 3 rfl) ?_
          refine hx_iald hx hb hW hT gq_12 tt_13 rfl ⟨by omega, by omega⟩ dX1_takeTwin_42 (fun x_13 ex_13 lx_13 ux_13 => ?_)
          refine lv_iload_n hx hb dX1_takeTwin_43 rfl (lv_at hl 4 rfl) ?_
          refine hx_goi (hx_runV (As := [.int x_4, .int x_11, .int x_13, .int i2]) (rest := []) ⟨hx, hb, hml, hown, hts⟩ hW gx tt_1 (T := TX1) (N := 8) rfl (t_X1_isLine l dC dI dA hL1 hl1 H.size x x_4 x_11 x_13 i2 hT gx ⟨by omega, by omega⟩) (cwV 4 hts (hx_gV kw_692 kw_689 kw_691 kw_22 kw_98) rfl rfl rfl (by decide +kernel) ⟨Nat.le_of_ble_eq_true rfl, Nat.le_of_ble_eq_true rfl⟩) rfl hl.1 rfl (Nat.le_of_ble_eq_true rfl) dX1_takeTwin_44 ⟨Nat.le_of_ble_eq_true rfl, Nat.le_of_ble_eq_true rfl⟩) hW (fun r_16 L_14 h_15 H locs p_17 hW => ?_)
          obtain ⟨hr_18, hT, hs⟩ := p_17
          replace hT : hx_T T_tb L_14 h_15 := hT
          replace hs : hx_S T_tb [] hL1 hl1 L_14 h_15 := hs
          replace fx_1 := (hs.o gx trivial rfl).1.trans fx_1
          replace fq_3 := (hs.o gx trivial rfl).2.trans fq_3
          replace fq_5 := (hs.o gx trivial rfl).2.trans fq_5
          replace fq_10 := (hs.o gx trivial rfl).2.trans fq_10
          replace fq_12 := (hs.o gx trivial rfl).2.trans fq_12
          replace hM := hM.tr (hs.mono (by decide))
          replace gx := gx.S hs
          replace gq_3 := gq_3.S hs
          replace gq_5 := gq_5.S hs
          replace gq_10 := gq_10.S hs
          replace gq_12 := gq_12.S hs
          refine hb_if_eq (zx := r_16.toInt) (tgt := 70) hx hb rfl dX1_takeTwin_47 (by decide) (fun c_19 => ?_) (fun c_19 => ?_)
          · skip
            obtain ⟨x_20, ex_20⟩ : ∃ y : Int32, y = iv2_3 + Int32.ofInt 1 := ⟨_, rfl⟩
            have rg_21 := i32_r iv2_3
            have zx_20 : x_20.toInt = iv2_3.toInt + (1) := by rw [ex_20]; exact i32_add rfl (by decide) (by omega) (by omega)
            refine lv_iinc (v := x_20) (lv' := [(3, .int x_20), (4, .int x_4), (0, .ref x), (1, .int i1), (2, .int i2)]) hx hb dX1_takeTwin_70 hl (k := 1) rfl ex_20.symm (by decide) rfl (fun ls hl => ?_)
            refine lv_goto (tgt := 2) hx hb dX1_takeTwin_73 (by decide) ?_
            exact ih2 x_20 _ _ L_14 h_15 ls (by omega) (by omega) (by omega) hW hT hM  gx  (lv_sub hl [0, 2, 3, 4] rfl)
          · skip
            refine lv_aload_n hx hb dX1_takeTwin_50 rfl (lv_at hl 2 rfl) ?_
            refine lv_iload_n hx hb dX1_takeTwin_51 rfl (lv_at hl 3 rfl) ?_
            refine lv_iload hx hb dX1_takeTwin_52 (lv_at hl 0 rfl) ?_
            refine hx_goi (hx_runV (As := [.int i1, .int x_4]) (rest := []) ⟨hx, hb, hml, hown, hts⟩ hW gx tt_1 (T := TX1) (N := 8) rfl (t_X1_areTwins l dC dI dA L_14 h_15 H.size x i1 x_4 hT gx ⟨by omega, by omega⟩ ⟨by omega, by omega⟩) (cwV 2 hts (hx_gV kw_704 kw_701 kw_703 kw_24 kw_98) rfl rfl rfl (by decide +kernel) ⟨Nat.le_of_ble_eq_true rfl, Nat.le_of_ble_eq_true rfl⟩) rfl hl.1 rfl (Nat.le_of_ble_eq_true rfl) dX1_takeTwin_54 ⟨Nat.le_of_ble_eq_true rfl, Nat.le_of_ble_eq_true rfl⟩) hW (fun r_24 L_22 h_23 H locs p_25 hW => ?_)
            obtain ⟨hr_26, hT, hs⟩ := p_25
            replace hT : hx_T T_tb L_22 h_23 := hT
            replace hs : hx_S T_tb [] L_14 h_15 L_22 h_23 := hs
            replace fx_1 := (hs.o gx trivial rfl).1.trans fx_1
            replace fq_3 := (hs.o gx trivial rfl).2.trans fq_3
            replace fq_5 := (hs.o gx trivial rfl).2.trans fq_5
            replace fq_10 := (hs.o gx trivial rfl).2.trans fq_10
            replace fq_12 := (hs.o gx trivial rfl).2.trans fq_12
            replace hM := hM.tr (hs.mono (by decide))
            replace gx := gx.S hs
            replace gq_3 := gq_3.S hs
            replace gq_5 := gq_5.S hs
            replace gq_10 := gq_10.S hs
            replace gq_12 := gq_12.S hs
            refine hb_if_eq (zx := r_24.toInt) (tgt := 70) hx hb rfl dX1_takeTwin_57 (by decide) (fun c_27 => ?_) (fun c_27 => ?_)
            · skip
              obtain ⟨x_28, ex_28⟩ : ∃ y : Int32, y = iv2_3 + Int32.ofInt 1 := ⟨_, rfl⟩
              have rg_29 := i32_r iv2_3
              have zx_28 : x_28.toInt = iv2_3.toInt + (1) := by rw [ex_28]; exact i32_add rfl (by decide) (by omega) (by omega)
              refine lv_iinc (v := x_28) (lv' := [(3, .int x_28), (4, .int x_4), (0, .ref x), (1, .int i1), (2, .int i2)]) hx hb dX1_takeTwin_70 hl (k := 1) rfl ex_28.symm (by decide) rfl (fun ls hl => ?_)
              refine lv_goto (tgt := 2) hx hb dX1_takeTwin_73 (by decide) ?_
              exact ih2 x_28 _ _ L_22 h_23 ls (by omega) (by omega) (by omega) hW hT hM  gx  (lv_sub hl [0, 2, 3, 4] rfl)
            · skip
              refine lv_aload_n hx hb dX1_takeTwin_60 rfl (lv_at hl 2 rfl) ?_
              refine hk_getr hx hb hts hC_1 hown hW gx tt_1 7 (by decide) rfl kw_204 ⟨rfl, rfl, rfl⟩ fq_5 dX1_takeTwin_61 ?_
              refine lv_iload hx hb dX1_takeTwin_64 (lv_at hl 0 rfl) ?_
              refine lv_iconst (v := 1) hx hb dX1_takeTwin_66 (by decide) ?_
              refine hx_zast hx hb hW hT (hx_S.rf (M := [(19, 0)])) gq_5 tt_19 rfl ⟨by omega, by omega⟩ (y := 1) (by decide) (by decide) (List.mem_singleton.mpr rfl) dX1_takeTwin_67 (fun H locs h_30 eh_30 hW hT hs => ?_)
              replace fx_1 := (hs.o gx trivial rfl).1.trans fx_1
              replace fq_3 := (hs.o gx trivial rfl).2.trans fq_3
              replace fq_5 := (hs.o gx trivial rfl).2.trans fq_5
              replace fq_10 := (hs.o gx trivial rfl).2.trans fq_10
              replace fq_12 := (hs.o gx trivial rfl).2.trans fq_12
              replace hM := hM.tr (hs.mono (by decide))
              replace gx := gx.S hs
              replace gq_3 := gq_3.S hs
              replace gq_5 := gq_5.S hs
              replace gq_10 := gq_10.S hs
              replace gq_12 := gq_12.S hs
              refine lv_iconst (v := 1) hx hb dX1_takeTwin_68 (by decide) ?_
              exact hx_retz hx hb hr rfl hlk hW ⟨(by decide), hT, hM⟩ dX1_takeTwin_69
  exact loop2 401 (0 : Int32) _ _ L h ls (by decide) (by decide) (by decide) hW hT hM  gx  hl

def wLX1_twinPairs_0 : List Nat := [3, 54, 4, 21, 4, 42, 180, 0, 34, 162, 0, 17, 42, 180, 0, 30, 21, 4, 3, 84, 132, 4, 1, 167, 255, 236, 3, 54, 4, 3, 54, 5, 21, 5, 42, 180, 0, 34, 162, 0, 44, 42, 42, 180, 0, 27, 21, 5, 46, 27, 28, 29, 182, 0, 38, 153, 0, 21, 42, 42, 180, 0, 27, 21]
def wLX1_twinPairs_1 : List Nat := [5, 46, 29, 182, 0, 42, 153, 0, 6, 132, 4, 1, 132, 5, 1, 167, 255, 209, 21, 4, 172]
theorem wX1_twinPairs_0 : (cX1_twinPairs.data.toList.map UInt8.toNat).drop 0 = wLX1_twinPairs_0 ++ (wLX1_twinPairs_1 ++ ([])) := by decide +kernel
theorem wX1_twinPairs_1 : (cX1_twinPairs.data.toList.map UInt8.toNat).drop 64 = wLX1_twinPairs_1 ++ ([]) := hz_wn wX1_twinPairs_0 rfl
theorem dX1_twinPairs_0 : decode cX1_twinPairs 0 = .ok (.iconst 0, 1) := dq_3 (hz_wg wX1_twinPairs_0 (j := 0) (n := 3) rfl)
theorem dX1_twinPairs_1 : decode cX1_twinPairs 1 = .ok (.istore 4, 2) := dq_54 (hz_wg wX1_twinPairs_0 (j := 1) (n := 54) rfl) (hz_wg wX1_twinPairs_0 (j := 2) (n := 4) rfl)
theorem dX1_twinPairs_3 : decode cX1_twinPairs 3 = .ok (.iload 4, 2) := dq_21 (hz_wg wX1_twinPairs_0 (j := 3) (n := 21) rfl) (hz_wg wX1_twinPairs_0 (j := 4) (n := 4) rfl)
theorem dX1_twinPairs_5 : decode cX1_twinPairs 5 = .ok (.aload_n 0, 1) := dq_42 (hz_wg wX1_twinPairs_0 (j := 5) (n := 42) rfl)
theorem dX1_twinPairs_6 : decode cX1_twinPairs 6 = .ok (.getfield 34, 3) := dq_180 (hz_wg wX1_twinPairs_0 (j := 6) (n := 180) rfl) (hz_wg wX1_twinPairs_0 (j := 7) (n := 0) rfl) (hz_wg wX1_twinPairs_0 (j := 8) (n := 34) rfl) rfl
theorem dX1_twinPairs_9 : decode cX1_twinPairs 9 = .ok (.if_icmp .ge 17, 3) := dq_162 (hz_wg wX1_twinPairs_0 (j := 9) (n := 162) rfl) (hz_wg wX1_twinPairs_0 (j := 10) (n := 0) rfl) (hz_wg wX1_twinPairs_0 (j := 11) (n := 17) rfl) (by decide)
theorem dX1_twinPairs_12 : decode cX1_twinPairs 12 = .ok (.aload_n 0, 1) := dq_42 (hz_wg wX1_twinPairs_0 (j := 12) (n := 42) rfl)
theorem dX1_twinPairs_13 : decode cX1_twinPairs 13 = .ok (.getfield 30, 3) := dq_180 (hz_wg wX1_twinPairs_0 (j := 13) (n := 180) rfl) (hz_wg wX1_twinPairs_0 (j := 14) (n := 0) rfl) (hz_wg wX1_twinPairs_0 (j := 15) (n := 30) rfl) rfl
theorem dX1_twinPairs_16 : decode cX1_twinPairs 16 = .ok (.iload 4, 2) := dq_21 (hz_wg wX1_twinPairs_0 (j := 16) (n := 21) rfl) (hz_wg wX1_twinPairs_0 (j := 17) (n := 4) rfl)
theorem dX1_twinPairs_18 : decode cX1_twinPairs 18 = .ok (.iconst 0, 1) := dq_3 (hz_wg wX1_twinPairs_0 (j := 18) (n := 3) rfl)
theorem dX1_twinPairs_19 : decode cX1_twinPairs 19 = .ok (.bastore, 1) := dq_84 (hz_wg wX1_twinPairs_0 (j := 19) (n := 84) rfl)
theorem dX1_twinPairs_20 : decode cX1_twinPairs 20 = .ok (.iinc 4 1, 3) := dq_132 (hz_wg wX1_twinPairs_0 (j := 20) (n := 132) rfl) (hz_wg wX1_twinPairs_0 (j := 21) (n := 4) rfl) (hz_wg wX1_twinPairs_0 (j := 22) (n := 1) rfl) (by decide)
theorem dX1_twinPairs_23 : decode cX1_twinPairs 23 = .ok (.goto (-20), 3) := dq_167 (hz_wg wX1_twinPairs_0 (j := 23) (n := 167) rfl) (hz_wg wX1_twinPairs_0 (j := 24) (n := 255) rfl) (hz_wg wX1_twinPairs_0 (j := 25) (n := 236) rfl) (by decide)
theorem dX1_twinPairs_26 : decode cX1_twinPairs 26 = .ok (.iconst 0, 1) := dq_3 (hz_wg wX1_twinPairs_0 (j := 26) (n := 3) rfl)
theorem dX1_twinPairs_27 : decode cX1_twinPairs 27 = .ok (.istore 4, 2) := dq_54 (hz_wg wX1_twinPairs_0 (j := 27) (n := 54) rfl) (hz_wg wX1_twinPairs_0 (j := 28) (n := 4) rfl)
theorem dX1_twinPairs_29 : decode cX1_twinPairs 29 = .ok (.iconst 0, 1) := dq_3 (hz_wg wX1_twinPairs_0 (j := 29) (n := 3) rfl)
theorem dX1_twinPairs_30 : decode cX1_twinPairs 30 = .ok (.istore 5, 2) := dq_54 (hz_wg wX1_twinPairs_0 (j := 30) (n := 54) rfl) (hz_wg wX1_twinPairs_0 (j := 31) (n := 5) rfl)
theorem dX1_twinPairs_32 : decode cX1_twinPairs 32 = .ok (.iload 5, 2) := dq_21 (hz_wg wX1_twinPairs_0 (j := 32) (n := 21) rfl) (hz_wg wX1_twinPairs_0 (j := 33) (n := 5) rfl)
theorem dX1_twinPairs_34 : decode cX1_twinPairs 34 = .ok (.aload_n 0, 1) := dq_42 (hz_wg wX1_twinPairs_0 (j := 34) (n := 42) rfl)
theorem dX1_twinPairs_35 : decode cX1_twinPairs 35 = .ok (.getfield 34, 3) := dq_180 (hz_wg wX1_twinPairs_0 (j := 35) (n := 180) rfl) (hz_wg wX1_twinPairs_0 (j := 36) (n := 0) rfl) (hz_wg wX1_twinPairs_0 (j := 37) (n := 34) rfl) rfl
theorem dX1_twinPairs_38 : decode cX1_twinPairs 38 = .ok (.if_icmp .ge 44, 3) := dq_162 (hz_wg wX1_twinPairs_0 (j := 38) (n := 162) rfl) (hz_wg wX1_twinPairs_0 (j := 39) (n := 0) rfl) (hz_wg wX1_twinPairs_0 (j := 40) (n := 44) rfl) (by decide)
theorem dX1_twinPairs_41 : decode cX1_twinPairs 41 = .ok (.aload_n 0, 1) := dq_42 (hz_wg wX1_twinPairs_0 (j := 41) (n := 42) rfl)
theorem dX1_twinPairs_42 : decode cX1_twinPairs 42 = .ok (.aload_n 0, 1) := dq_42 (hz_wg wX1_twinPairs_0 (j := 42) (n := 42) rfl)
theorem dX1_twinPairs_43 : decode cX1_twinPairs 43 = .ok (.getfield 27, 3) := dq_180 (hz_wg wX1_twinPairs_0 (j := 43) (n := 180) rfl) (hz_wg wX1_twinPairs_0 (j := 44) (n := 0) rfl) (hz_wg wX1_twinPairs_0 (j := 45) (n := 27) rfl) rfl
theorem dX1_twinPairs_46 : decode cX1_twinPairs 46 = .ok (.iload 5, 2) := dq_21 (hz_wg wX1_twinPairs_0 (j := 46) (n := 21) rfl) (hz_wg wX1_twinPairs_0 (j := 47) (n := 5) rfl)
theorem dX1_twinPairs_48 : decode cX1_twinPairs 48 = .ok (.iaload, 1) := dq_46 (hz_wg wX1_twinPairs_0 (j := 48) (n := 46) rfl)
theorem dX1_twinPairs_49 : decode cX1_twinPairs 49 = .ok (.iload_n 1, 1) := dq_27 (hz_wg wX1_twinPairs_0 (j := 49) (n := 27) rfl)
theorem dX1_twinPairs_50 : decode cX1_twinPairs 50 = .ok (.iload_n 2, 1) := dq_28 (hz_wg wX1_twinPairs_0 (j := 50) (n := 28) rfl)
theorem dX1_twinPairs_51 : decode cX1_twinPairs 51 = .ok (.iload_n 3, 1) := dq_29 (hz_wg wX1_twinPairs_0 (j := 51) (n := 29) rfl)
theorem dX1_twinPairs_52 : decode cX1_twinPairs 52 = .ok (.invokevirtual 38, 3) := dq_182 (hz_wg wX1_twinPairs_0 (j := 52) (n := 182) rfl) (hz_wg wX1_twinPairs_0 (j := 53) (n := 0) rfl) (hz_wg wX1_twinPairs_0 (j := 54) (n := 38) rfl) rfl
theorem dX1_twinPairs_55 : decode cX1_twinPairs 55 = .ok (.ifCond .eq 21, 3) := dq_153 (hz_wg wX1_twinPairs_0 (j := 55) (n := 153) rfl) (hz_wg wX1_twinPairs_0 (j := 56) (n := 0) rfl) (hz_wg wX1_twinPairs_0 (j := 57) (n := 21) rfl) (by decide)
theorem dX1_twinPairs_58 : decode cX1_twinPairs 58 = .ok (.aload_n 0, 1) := dq_42 (hz_wg wX1_twinPairs_0 (j := 58) (n := 42) rfl)
theorem dX1_twinPairs_59 : decode cX1_twinPairs 59 = .ok (.aload_n 0, 1) := dq_42 (hz_wg wX1_twinPairs_0 (j := 59) (n := 42) rfl)
theorem dX1_twinPairs_60 : decode cX1_twinPairs 60 = .ok (.getfield 27, 3) := dq_180 (hz_wg wX1_twinPairs_0 (j := 60) (n := 180) rfl) (hz_wg wX1_twinPairs_0 (j := 61) (n := 0) rfl) (hz_wg wX1_twinPairs_0 (j := 62) (n := 27) rfl) rfl
theorem dX1_twinPairs_63 : decode cX1_twinPairs 63 = .ok (.iload 5, 2) := dq_21 (hz_wg wX1_twinPairs_0 (j := 63) (n := 21) rfl) (hz_wg wX1_twinPairs_1 (j := 0) (n := 5) rfl)
theorem dX1_twinPairs_65 : decode cX1_twinPairs 65 = .ok (.iaload, 1) := dq_46 (hz_wg wX1_twinPairs_1 (j := 1) (n := 46) rfl)
theorem dX1_twinPairs_66 : decode cX1_twinPairs 66 = .ok (.iload_n 3, 1) := dq_29 (hz_wg wX1_twinPairs_1 (j := 2) (n := 29) rfl)
theorem dX1_twinPairs_67 : decode cX1_twinPairs 67 = .ok (.invokevirtual 42, 3) := dq_182 (hz_wg wX1_twinPairs_1 (j := 3) (n := 182) rfl) (hz_wg wX1_twinPairs_1 (j := 4) (n := 0) rfl) (hz_wg wX1_twinPairs_1 (j := 5) (n := 42) rfl) rfl
theorem dX1_twinPairs_70 : decode cX1_twinPairs 70 = .ok (.ifCond .eq 6, 3) := dq_153 (hz_wg wX1_twinPairs_1 (j := 6) (n := 153) rfl) (hz_wg wX1_twinPairs_1 (j := 7) (n := 0) rfl) (hz_wg wX1_twinPairs_1 (j := 8) (n := 6) rfl) (by decide)
theorem dX1_twinPairs_73 : decode cX1_twinPairs 73 = .ok (.iinc 4 1, 3) := dq_132 (hz_wg wX1_twinPairs_1 (j := 9) (n := 132) rfl) (hz_wg wX1_twinPairs_1 (j := 10) (n := 4) rfl) (hz_wg wX1_twinPairs_1 (j := 11) (n := 1) rfl) (by decide)
theorem dX1_twinPairs_76 : decode cX1_twinPairs 76 = .ok (.iinc 5 1, 3) := dq_132 (hz_wg wX1_twinPairs_1 (j := 12) (n := 132) rfl) (hz_wg wX1_twinPairs_1 (j := 13) (n := 5) rfl) (hz_wg wX1_twinPairs_1 (j := 14) (n := 1) rfl) (by decide)
theorem dX1_twinPairs_79 : decode cX1_twinPairs 79 = .ok (.goto (-47), 3) := dq_167 (hz_wg wX1_twinPairs_1 (j := 15) (n := 167) rfl) (hz_wg wX1_twinPairs_1 (j := 16) (n := 255) rfl) (hz_wg wX1_twinPairs_1 (j := 17) (n := 209) rfl) (by decide)
theorem dX1_twinPairs_82 : decode cX1_twinPairs 82 = .ok (.iload 4, 2) := dq_21 (hz_wg wX1_twinPairs_1 (j := 18) (n := 21) rfl) (hz_wg wX1_twinPairs_1 (j := 19) (n := 4) rfl)
theorem dX1_twinPairs_84 : decode cX1_twinPairs 84 = .ok (.ireturn, 1) := dq_172 (hz_wg wX1_twinPairs_1 (j := 20) (n := 172) rfl)
set_option maxHeartbeats 4000000 in
set_option maxRecDepth 100000 in
theorem t_X1_twinPairs (l : Launch) (dC : Nat → ClassId) (dI : Nat → Nat → Nat) (dA : Nat → ClassId) (L : List Nat) (h : hx_h) (sz : Nat) (x : Nat) (i1 : Int32) (i2 : Int32) (i3 : Int32) (hT : hx_T T_tb L h) (gx : hx_g L h x 1)  : Met l yX1_twinPairs (Cond.code yX1_twinPairs cX1_twinPairs 6 (some .int) :: hx_all) ({ frames := 3, cells := 0, slots := 0, locals := 67 }) (va_Pc [.ref x, .int i1, .int i2, .int i3] (hx_B T_tb (P_ty dA) (dC, dI) vwCl L h sz)) (va_Qi (fun (r : Int32) (u : List Nat × hx_h) => (True) ∧ hx_T T_tb u.1 u.2 ∧ hx_S T_tb [(19, 0)] L h u.1 u.2) (hx_E T_tb (P_ty dA) (dC, dI) vwCl (hx_A L sz)) (hx_A L sz)) 0 0 (hx_A L sz) := by
  refine hx_met (lv := [(0, .ref x), (1, .int i1), (2, .int i2), (3, .int i3)]) (by decide +kernel) rfl (Nat.le_of_ble_eq_true rfl) rfl ?_
  intro p e s m below meth c hx hb hml hr hlk hts0 hown hin hsz hW ls hl
  have hts : ∀ w ∈ hx_all, w.before _ s = true := fun w hw => hts0 w (List.mem_cons_of_mem _ hw)
  have hown : s.vm.findClass "SmallCourt$Books" = some m.cls := hown
  have hM : hx_S T_tb [(19, 0)] L h L h := hx_S.rf
  refine lv_iconst (v := 0) hx hb dX1_twinPairs_0 (by decide) ?_
  refine lv_istore (lv' := [(4, .int (0 : Int32)), (0, .ref x), (1, .int i1), (2, .int i2), (3, .int i3)]) hx hb dX1_twinPairs_1 hl (by decide) rfl (fun ls hl => ?_)
  have loop3 : ∀ (n3 : Nat) (iv3_4 : Int32) (H : Heap) (locs : List Loc) (hL1 : List Nat) (hl1 : hx_h) (ls : Array Slot), 0 ≤ iv3_4.toInt → iv3_4.toInt ≤ 400 → 400 < iv3_4.toInt + n3 → hx_W T_tb (P_ty dA) (dC, dI) vwCl (hx_A L sz) s.heap hL1 hl1 s H locs → hx_T T_tb hL1 hl1 → hx_S T_tb [(19, 0)] L h hL1 hl1 → hx_g hL1 hl1 x 1 → lv_has ls 6 [(4, .int iv3_4), (0, .ref x), (1, .int i1), (2, .int i2), (3, .int i3)] → W p l e ({ frames := 3, cells := 0, slots := 0, locals := 67 }) s m ([.ref x, .int i1, .int i2, .int i3] : List Value).toArray below meth c H locs 0 0 (MQ below (va_Qi (fun (r : Int32) (u : List Nat × hx_h) => (True) ∧ hx_T T_tb u.1 u.2 ∧ hx_S T_tb [(19, 0)] L h u.1 u.2) (hx_E T_tb (P_ty dA) (dC, dI) vwCl (hx_A L sz)) (hx_A L sz)) ([.ref x, .int i1, .int i2, .int i3] : List Value).toArray s 0 0 (hx_A L sz)) (F0 m 3 ls []) := by
    intro n3
    induction n3 with
    | zero => intro iv3_4 H locs hL1 hl1 ls bl3_4 bu3_4 hn3; exfalso; omega
    | succ n3 ih3 =>
      intro iv3_4 H locs hL1 hl1 ls bl3_4 bu3_4 hn3 hW hT hM  gx  hl
      refine lv_iload hx hb dX1_twinPairs_3 (lv_at hl 0 rfl) ?_
      refine lv_aload_n hx hb dX1_twinPairs_5 rfl (lv_at hl 1 rfl) ?_
      refine hx_geti hx hb hts hC_1 hown hW hT gx tt_1 0 (by decide) rfl kw_196 ⟨rfl, rfl, rfl⟩ dX1_twinPairs_6 (fun x_1 ex_1 lx_1 ux_1 => ?_)
      have fx_1 := ex_1.symm
      refine hb_icmp_ge (zx := iv3_4.toInt) (zy := x_1.toInt) (tgt := 26) hx hb rfl rfl dX1_twinPairs_9 (by decide) (fun c_2 => ?_) (fun c_2 => ?_)
      · skip
        refine lv_iconst (v := 0) hx hb dX1_twinPairs_26 (by decide) ?_
        refine lv_istore (lv' := [(4, .int (0 : Int32)), (0, .ref x), (1, .int i1), (2, .int i2), (3, .int i3)]) hx hb dX1_twinPairs_27 hl (by decide) rfl (fun ls hl => ?_)
        refine lv_iconst (v := 0) hx hb dX1_twinPairs_29 (by decide) ?_
        refine lv_istore (lv' := [(5, .int (0 : Int32)), (4, .int (0 : Int32)), (0, .ref x), (1, .int i1), (2, .int i2), (3, .int i3)]) hx hb dX1_twinPairs_30 hl (by decide) rfl (fun ls hl => ?_)
        have loop32 : ∀ (n32 : Nat) (iv32_5 iv32_4 : Int32) (H : Heap) (locs : List Loc) (hL1 : List Nat) (hl1 : hx_h) (ls : Array Slot), 0 ≤ iv32_5.toInt → iv32_5.toInt ≤ 400 → 400 < iv32_5.toInt + n32 → hx_W T_tb (P_ty dA) (dC, dI) vwCl (hx_A L sz) s.heap hL1 hl1 s H locs → hx_T T_tb hL1 hl1 → hx_S T_tb [(19, 0)] L h hL1 hl1 → hl1.2.1 x 0 = x_1 → hx_g hL1 hl1 x 1 → lv_has ls 6 [(5, .int iv32_5), (4, .int iv32_4), (0, .ref x), (1, .int i1), (2, .int i2), (3, .int i3)] → W p l e ({ frames := 3, cells := 0, slots := 0, locals := 67 }) s m ([.ref x, .int i1, .int i2, .int i3] : List Value).toArray below meth c H locs 0 0 (MQ below (va_Qi (fun (r : Int32) (u : List Nat × hx_h) => (True) ∧ hx_T T_tb u.1 u.2 ∧ hx_S T_tb [(19, 0)] L h u.1 u.2) (hx_E T_tb (P_ty dA) (dC, dI) vwCl (hx_A L sz)) (hx_A L sz)) ([.ref x, .int i1, .int i2, .int i3] : List Value).toArray s 0 0 (hx_A L sz)) (F0 m 32 ls []) := by
          intro n32
          induction n32 with
          | zero => intro iv32_5 iv32_4 H locs hL1 hl1 ls bl32_5 bu32_5 hn32; exfalso; omega
          | succ n32 ih32 =>
            intro iv32_5 iv32_4 H locs hL1 hl1 ls bl32_5 bu32_5 hn32 hW hT hM fx_1 gx  hl
            refine lv_iload hx hb dX1_twinPairs_32 (lv_at hl 0 rfl) ?_
            refine lv_aload_n hx hb dX1_twinPairs_34 rfl (lv_at hl 2 rfl) ?_
            refine hk_geti hx hb hts hC_1 hown hW gx tt_1 0 (by decide) rfl kw_196 ⟨rfl, rfl, rfl⟩ fx_1 dX1_twinPairs_35 ?_
            refine hb_icmp_ge (zx := iv32_5.toInt) (zy := x_1.toInt) (tgt := 82) hx hb rfl rfl dX1_twinPairs_38 (by decide) (fun c_3 => ?_) (fun c_3 => ?_)
            · skip
              refine lv_iload hx hb dX1_twinPairs_82 (lv_at hl 1 rfl) ?_
              exact hx_reti hx hb hr hlk hW ⟨trivial, hT, hM⟩ dX1_twinPairs_84
            · skip
              refine lv_aload_n hx hb dX1_twinPairs_41 rfl (lv_at hl 2 rfl) ?_
              refine lv_aload_n hx hb dX1_twinPairs_42 rfl (lv_at hl 2 rfl) ?_
              refine hx_getn hx hb hts hC_1 hown hW hT gx tt_1 6 (by decide) rfl kw_203 ⟨rfl, rfl, rfl⟩ dX1_twinPairs_43 (fun q_4 fq_4 gq_4 => ?_)
              refine lv_iload hx hb dX1_twinPairs_46 (lv_at hl 0 rfl) ?_
              refine hx_iald hx hb hW hT gq_4 tt_18 rfl ⟨by omega, by omega⟩ dX1_twinPairs_48 (fun x_5 ex_5 lx_5 ux_5 => ?_)
              refine lv_iload_n hx hb dX1_twinPairs_49 rfl (lv_at hl 3 rfl) ?_
              refine lv_iload_n hx hb dX1_twinPairs_50 rfl (lv_at hl 4 rfl) ?_
              refine lv_iload_n hx hb dX1_twinPairs_51 rfl (lv_at hl 5 rfl) ?_
              refine hx_goi (hx_runV (As := [.int x_5, .int i1, .int i2, .int i3]) (rest := []) ⟨hx, hb, hml, hown, hts⟩ hW gx tt_1 (T := TX1) (N := 8) rfl (t_X1_isLine l dC dI dA hL1 hl1 H.size x x_5 i1 i2 i3 hT gx ⟨by omega, by omega⟩) (cwV 4 hts (hx_gV kw_692 kw_689 kw_691 kw_22 kw_98) rfl rfl rfl (by decide +kernel) ⟨Nat.le_of_ble_eq_true rfl, Nat.le_of_ble_eq_true rfl⟩) rfl hl.1 rfl (Nat.le_of_ble_eq_true rfl) dX1_twinPairs_52 ⟨Nat.le_of_ble_eq_true rfl, Nat.le_of_ble_eq_true rfl⟩) hW (fun r_8 L_6 h_7 H locs p_9 hW => ?_)
              obtain ⟨hr_10, hT, hs⟩ := p_9
              replace hT : hx_T T_tb L_6 h_7 := hT
              replace hs : hx_S T_tb [] hL1 hl1 L_6 h_7 := hs
              replace fx_1 := (hs.o gx trivial rfl).1.trans fx_1
              replace fq_4 := (hs.o gx trivial rfl).2.trans fq_4
              replace hM := hM.tr (hs.mono (by decide))
              replace gx := gx.S hs
              replace gq_4 := gq_4.S hs
              refine hb_if_eq (zx := r_8.toInt) (tgt := 76) hx hb rfl dX1_twinPairs_55 (by decide) (fun c_11 => ?_) (fun c_11 => ?_)
              · skip
                obtain ⟨x_12, ex_12⟩ : ∃ y : Int32, y = iv32_5 + Int32.ofInt 1 := ⟨_, rfl⟩
                have rg_13 := i32_r iv32_5
                have zx_12 : x_12.toInt = iv32_5.toInt + (1) := by rw [ex_12]; exact i32_add rfl (by decide) (by omega) (by omega)
                refine lv_iinc (v := x_12) (lv' := [(5, .int x_12), (4, .int iv32_4), (0, .ref x), (1, .int i1), (2, .int i2), (3, .int i3)]) hx hb dX1_twinPairs_76 hl (k := 0) rfl ex_12.symm (by decide) rfl (fun ls hl => ?_)
                refine lv_goto (tgt := 32) hx hb dX1_twinPairs_79 (by decide) ?_
                exact ih32 x_12 iv32_4 _ _ L_6 h_7 ls (by omega) (by omega) (by omega) hW hT hM fx_1 gx  (lv_sub hl [0, 1, 2, 3, 4, 5] rfl)
              · skip
                refine lv_aload_n hx hb dX1_twinPairs_58 rfl (lv_at hl 2 rfl) ?_
                refine lv_aload_n hx hb dX1_twinPairs_59 rfl (lv_at hl 2 rfl) ?_
                refine hk_getr hx hb hts hC_1 hown hW gx tt_1 6 (by decide) rfl kw_203 ⟨rfl, rfl, rfl⟩ fq_4 dX1_twinPairs_60 ?_
                refine lv_iload hx hb dX1_twinPairs_63 (lv_at hl 0 rfl) ?_
                refine hx_iald hx hb hW hT gq_4 tt_18 rfl ⟨by omega, by omega⟩ dX1_twinPairs_65 (fun x_14 ex_14 lx_14 ux_14 => ?_)
                refine lv_iload_n hx hb dX1_twinPairs_66 rfl (lv_at hl 5 rfl) ?_
                refine hx_goi (hx_runV (As := [.int x_14, .int i3]) (rest := []) ⟨hx, hb, hml, hown, hts⟩ hW gx tt_1 (T := TX1) (N := 8) rfl (t_X1_takeTwin l dC dI dA L_6 h_7 H.size x x_14 i3 hT gx ⟨by omega, by omega⟩) (cwV 2 hts (hx_gV kw_700 kw_697 kw_699 kw_23 kw_98) rfl rfl rfl (by decide +kernel) ⟨Nat.le_of_ble_eq_true rfl, Nat.le_of_ble_eq_true rfl⟩) rfl hl.1 rfl (Nat.le_of_ble_eq_true rfl) dX1_twinPairs_67 ⟨Nat.le_of_ble_eq_true rfl, Nat.le_of_ble_eq_true rfl⟩) hW (fun r_17 L_15 h_16 H locs p_18 hW => ?_)
                obtain ⟨hr_19, hT, hs⟩ := p_18
                replace hT : hx_T T_tb L_15 h_16 := hT
                replace hs : hx_S T_tb [(19, 0)] L_6 h_7 L_15 h_16 := hs
                replace fx_1 := (hs.o gx trivial rfl).1.trans fx_1
                replace fq_4 := (hs.o gx trivial rfl).2.trans fq_4
                replace hM := hM.tr (hs.mono (by decide))
                replace gx := gx.S hs
                replace gq_4 := gq_4.S hs
                refine hb_if_eq (zx := r_17.toInt) (tgt := 76) hx hb rfl dX1_twinPairs_70 (by decide) (fun c_20 => ?_) (fun c_20 => ?_)
                · skip
                  obtain ⟨x_21, ex_21⟩ : ∃ y : Int32, y = iv32_5 + Int32.ofInt 1 := ⟨_, rfl⟩
                  have rg_22 := i32_r iv32_5
                  have zx_21 : x_21.toInt = iv32_5.toInt + (1) := by rw [ex_21]; exact i32_add rfl (by decide) (by omega) (by omega)
                  refine lv_iinc (v := x_21) (lv' := [(5, .int x_21), (4, .int iv32_4), (0, .ref x), (1, .int i1), (2, .int i2), (3, .int i3)]) hx hb dX1_twinPairs_76 hl (k := 0) rfl ex_21.symm (by decide) rfl (fun ls hl => ?_)
                  refine lv_goto (tgt := 32) hx hb dX1_twinPairs_79 (by decide) ?_
                  exact ih32 x_21 iv32_4 _ _ L_15 h_16 ls (by omega) (by omega) (by omega) hW hT hM fx_1 gx  (lv_sub hl [0, 1, 2, 3, 4, 5] rfl)
                · skip
                  obtain ⟨x_23, ex_23⟩ : ∃ y : Int32, y = iv32_4 + Int32.ofInt 1 := ⟨_, rfl⟩
                  have rg_24 := i32_r iv32_4
                  refine lv_iinc (v := x_23) (lv' := [(4, .int x_23), (5, .int iv32_5), (0, .ref x), (1, .int i1), (2, .int i2), (3, .int i3)]) hx hb dX1_twinPairs_73 hl (k := 1) rfl ex_23.symm (by decide) rfl (fun ls hl => ?_)
                  obtain ⟨x_25, ex_25⟩ : ∃ y : Int32, y = iv32_5 + Int32.ofInt 1 := ⟨_, rfl⟩
                  have rg_26 := i32_r iv32_5
                  have zx_25 : x_25.toInt = iv32_5.toInt + (1) := by rw [ex_25]; exact i32_add rfl (by decide) (by omega) (by omega)
                  refine lv_iinc (v := x_25) (lv' := [(5, .int x_25), (4, .int x_23), (0, .ref x), (1, .int i1), (2, .int i2), (3, .int i3)]) hx hb dX1_twinPairs_76 hl (k := 1) rfl ex_25.symm (by decide) rfl (fun ls hl => ?_)
                  refine lv_goto (tgt := 32) hx hb dX1_twinPairs_79 (by decide) ?_
                  exact ih32 x_25 x_23 _ _ L_15 h_16 ls (by omega) (by omega) (by omega) hW hT hM fx_1 gx  (lv_sub hl [0, 1, 2, 3, 4, 5] rfl)
        exact loop32 401 (0 : Int32) (0 : Int32) _ _ hL1 hl1 ls (by decide) (by decide) (by decide) hW hT hM fx_1 gx  hl
      · skip
        refine lv_aload_n hx hb dX1_twinPairs_12 rfl (lv_at hl 1 rfl) ?_
        refine hx_getn hx hb hts hC_1 hown hW hT gx tt_1 7 (by decide) rfl kw_204 ⟨rfl, rfl, rfl⟩ dX1_twinPairs_13 (fun q_27 fq_27 gq_27 => ?_)
        refine lv_iload hx hb dX1_twinPairs_16 (lv_at hl 0 rfl) ?_
        refine lv_iconst (v := 0) hx hb dX1_twinPairs_18 (by decide) ?_
        refine hx_zast hx hb hW hT (hx_S.rf (M := [(19, 0)])) gq_27 tt_19 rfl ⟨by omega, by omega⟩ (y := 0) (by decide) (by decide) (List.mem_singleton.mpr rfl) dX1_twinPairs_19 (fun H locs h_28 eh_28 hW hT hs => ?_)
        replace fx_1 := (hs.o gx trivial rfl).1.trans fx_1
        replace fq_27 := (hs.o gx trivial rfl).2.trans fq_27
        replace hM := hM.tr (hs.mono (by decide))
        replace gx := gx.S hs
        replace gq_27 := gq_27.S hs
        obtain ⟨x_29, ex_29⟩ : ∃ y : Int32, y = iv3_4 + Int32.ofInt 1 := ⟨_, rfl⟩
        have rg_30 := i32_r iv3_4
        have zx_29 : x_29.toInt = iv3_4.toInt + (1) := by rw [ex_29]; exact i32_add rfl (by decide) (by omega) (by omega)
        refine lv_iinc (v := x_29) (lv' := [(4, .int x_29), (0, .ref x), (1, .int i1), (2, .int i2), (3, .int i3)]) hx hb dX1_twinPairs_20 hl (k := 0) rfl ex_29.symm (by decide) rfl (fun ls hl => ?_)
        refine lv_goto (tgt := 3) hx hb dX1_twinPairs_23 (by decide) ?_
        exact ih3 x_29 _ _ hL1 h_28 ls (by omega) (by omega) (by omega) hW hT hM  gx  (lv_sub hl [0, 1, 2, 3, 4] rfl)
  exact loop3 401 (0 : Int32) _ _ L h ls (by decide) (by decide) (by decide) hW hT hM  gx  hl

def wLX1_addLine_0 : List Nat := [42, 180, 0, 34, 17, 1, 144, 161, 0, 4, 177, 42, 180, 0, 9, 42, 180, 0, 34, 27, 79, 42, 180, 0, 15, 42, 180, 0, 34, 28, 79, 42, 180, 0, 18, 42, 180, 0, 34, 29, 79, 42, 180, 0, 21, 42, 180, 0, 34, 21, 4, 79, 42, 180, 0, 24, 42, 180, 0, 34, 21, 5, 79, 42]
def wLX1_addLine_1 : List Nat := [180, 0, 34, 54, 6, 21, 6, 158, 0, 43, 42, 180, 0, 18, 42, 180, 0, 27, 21, 6, 4, 100, 46, 46, 29, 164, 0, 25, 42, 180, 0, 27, 21, 6, 42, 180, 0, 27, 21, 6, 4, 100, 46, 79, 132, 6, 255, 167, 255, 214, 42, 180, 0, 27, 21, 6, 42, 180, 0, 34, 79, 42, 89, 180]
def wLX1_addLine_2 : List Nat := [0, 34, 4, 96, 181, 0, 34, 177]
theorem wX1_addLine_0 : (cX1_addLine.data.toList.map UInt8.toNat).drop 0 = wLX1_addLine_0 ++ (wLX1_addLine_1 ++ (wLX1_addLine_2 ++ ([]))) := by decide +kernel
theorem wX1_addLine_1 : (cX1_addLine.data.toList.map UInt8.toNat).drop 64 = wLX1_addLine_1 ++ (wLX1_addLine_2 ++ ([])) := hz_wn wX1_addLine_0 rfl
theorem wX1_addLine_2 : (cX1_addLine.data.toList.map UInt8.toNat).drop 128 = wLX1_addLine_2 ++ ([]) := hz_wn wX1_addLine_1 rfl
theorem dX1_addLine_0 : decode cX1_addLine 0 = .ok (.aload_n 0, 1) := dq_42 (hz_wg wX1_addLine_0 (j := 0) (n := 42) rfl)
theorem dX1_addLine_1 : decode cX1_addLine 1 = .ok (.getfield 34, 3) := dq_180 (hz_wg wX1_addLine_0 (j := 1) (n := 180) rfl) (hz_wg wX1_addLine_0 (j := 2) (n := 0) rfl) (hz_wg wX1_addLine_0 (j := 3) (n := 34) rfl) rfl
theorem dX1_addLine_4 : decode cX1_addLine 4 = .ok (.sipush 400, 3) := dq_17 (hz_wg wX1_addLine_0 (j := 4) (n := 17) rfl) (hz_wg wX1_addLine_0 (j := 5) (n := 1) rfl) (hz_wg wX1_addLine_0 (j := 6) (n := 144) rfl) (by decide)
theorem dX1_addLine_7 : decode cX1_addLine 7 = .ok (.if_icmp .lt 4, 3) := dq_161 (hz_wg wX1_addLine_0 (j := 7) (n := 161) rfl) (hz_wg wX1_addLine_0 (j := 8) (n := 0) rfl) (hz_wg wX1_addLine_0 (j := 9) (n := 4) rfl) (by decide)
theorem dX1_addLine_11 : decode cX1_addLine 11 = .ok (.aload_n 0, 1) := dq_42 (hz_wg wX1_addLine_0 (j := 11) (n := 42) rfl)
theorem dX1_addLine_12 : decode cX1_addLine 12 = .ok (.getfield 9, 3) := dq_180 (hz_wg wX1_addLine_0 (j := 12) (n := 180) rfl) (hz_wg wX1_addLine_0 (j := 13) (n := 0) rfl) (hz_wg wX1_addLine_0 (j := 14) (n := 9) rfl) rfl
theorem dX1_addLine_15 : decode cX1_addLine 15 = .ok (.aload_n 0, 1) := dq_42 (hz_wg wX1_addLine_0 (j := 15) (n := 42) rfl)
theorem dX1_addLine_16 : decode cX1_addLine 16 = .ok (.getfield 34, 3) := dq_180 (hz_wg wX1_addLine_0 (j := 16) (n := 180) rfl) (hz_wg wX1_addLine_0 (j := 17) (n := 0) rfl) (hz_wg wX1_addLine_0 (j := 18) (n := 34) rfl) rfl
theorem dX1_addLine_19 : decode cX1_addLine 19 = .ok (.iload_n 1, 1) := dq_27 (hz_wg wX1_addLine_0 (j := 19) (n := 27) rfl)
theorem dX1_addLine_20 : decode cX1_addLine 20 = .ok (.iastore, 1) := dq_79 (hz_wg wX1_addLine_0 (j := 20) (n := 79) rfl)
theorem dX1_addLine_21 : decode cX1_addLine 21 = .ok (.aload_n 0, 1) := dq_42 (hz_wg wX1_addLine_0 (j := 21) (n := 42) rfl)
theorem dX1_addLine_22 : decode cX1_addLine 22 = .ok (.getfield 15, 3) := dq_180 (hz_wg wX1_addLine_0 (j := 22) (n := 180) rfl) (hz_wg wX1_addLine_0 (j := 23) (n := 0) rfl) (hz_wg wX1_addLine_0 (j := 24) (n := 15) rfl) rfl
theorem dX1_addLine_25 : decode cX1_addLine 25 = .ok (.aload_n 0, 1) := dq_42 (hz_wg wX1_addLine_0 (j := 25) (n := 42) rfl)
theorem dX1_addLine_26 : decode cX1_addLine 26 = .ok (.getfield 34, 3) := dq_180 (hz_wg wX1_addLine_0 (j := 26) (n := 180) rfl) (hz_wg wX1_addLine_0 (j := 27) (n := 0) rfl) (hz_wg wX1_addLine_0 (j := 28) (n := 34) rfl) rfl
theorem dX1_addLine_29 : decode cX1_addLine 29 = .ok (.iload_n 2, 1) := dq_28 (hz_wg wX1_addLine_0 (j := 29) (n := 28) rfl)
theorem dX1_addLine_30 : decode cX1_addLine 30 = .ok (.iastore, 1) := dq_79 (hz_wg wX1_addLine_0 (j := 30) (n := 79) rfl)
theorem dX1_addLine_31 : decode cX1_addLine 31 = .ok (.aload_n 0, 1) := dq_42 (hz_wg wX1_addLine_0 (j := 31) (n := 42) rfl)
theorem dX1_addLine_32 : decode cX1_addLine 32 = .ok (.getfield 18, 3) := dq_180 (hz_wg wX1_addLine_0 (j := 32) (n := 180) rfl) (hz_wg wX1_addLine_0 (j := 33) (n := 0) rfl) (hz_wg wX1_addLine_0 (j := 34) (n := 18) rfl) rfl
theorem dX1_addLine_35 : decode cX1_addLine 35 = .ok (.aload_n 0, 1) := dq_42 (hz_wg wX1_addLine_0 (j := 35) (n := 42) rfl)
theorem dX1_addLine_36 : decode cX1_addLine 36 = .ok (.getfield 34, 3) := dq_180 (hz_wg wX1_addLine_0 (j := 36) (n := 180) rfl) (hz_wg wX1_addLine_0 (j := 37) (n := 0) rfl) (hz_wg wX1_addLine_0 (j := 38) (n := 34) rfl) rfl
theorem dX1_addLine_39 : decode cX1_addLine 39 = .ok (.iload_n 3, 1) := dq_29 (hz_wg wX1_addLine_0 (j := 39) (n := 29) rfl)
theorem dX1_addLine_40 : decode cX1_addLine 40 = .ok (.iastore, 1) := dq_79 (hz_wg wX1_addLine_0 (j := 40) (n := 79) rfl)
theorem dX1_addLine_41 : decode cX1_addLine 41 = .ok (.aload_n 0, 1) := dq_42 (hz_wg wX1_addLine_0 (j := 41) (n := 42) rfl)
theorem dX1_addLine_42 : decode cX1_addLine 42 = .ok (.getfield 21, 3) := dq_180 (hz_wg wX1_addLine_0 (j := 42) (n := 180) rfl) (hz_wg wX1_addLine_0 (j := 43) (n := 0) rfl) (hz_wg wX1_addLine_0 (j := 44) (n := 21) rfl) rfl
theorem dX1_addLine_45 : decode cX1_addLine 45 = .ok (.aload_n 0, 1) := dq_42 (hz_wg wX1_addLine_0 (j := 45) (n := 42) rfl)
theorem dX1_addLine_46 : decode cX1_addLine 46 = .ok (.getfield 34, 3) := dq_180 (hz_wg wX1_addLine_0 (j := 46) (n := 180) rfl) (hz_wg wX1_addLine_0 (j := 47) (n := 0) rfl) (hz_wg wX1_addLine_0 (j := 48) (n := 34) rfl) rfl
theorem dX1_addLine_49 : decode cX1_addLine 49 = .ok (.iload 4, 2) := dq_21 (hz_wg wX1_addLine_0 (j := 49) (n := 21) rfl) (hz_wg wX1_addLine_0 (j := 50) (n := 4) rfl)
theorem dX1_addLine_51 : decode cX1_addLine 51 = .ok (.iastore, 1) := dq_79 (hz_wg wX1_addLine_0 (j := 51) (n := 79) rfl)
theorem dX1_addLine_52 : decode cX1_addLine 52 = .ok (.aload_n 0, 1) := dq_42 (hz_wg wX1_addLine_0 (j := 52) (n := 42) rfl)
theorem dX1_addLine_53 : decode cX1_addLine 53 = .ok (.getfield 24, 3) := dq_180 (hz_wg wX1_addLine_0 (j := 53) (n := 180) rfl) (hz_wg wX1_addLine_0 (j := 54) (n := 0) rfl) (hz_wg wX1_addLine_0 (j := 55) (n := 24) rfl) rfl
theorem dX1_addLine_56 : decode cX1_addLine 56 = .ok (.aload_n 0, 1) := dq_42 (hz_wg wX1_addLine_0 (j := 56) (n := 42) rfl)
theorem dX1_addLine_57 : decode cX1_addLine 57 = .ok (.getfield 34, 3) := dq_180 (hz_wg wX1_addLine_0 (j := 57) (n := 180) rfl) (hz_wg wX1_addLine_0 (j := 58) (n := 0) rfl) (hz_wg wX1_addLine_0 (j := 59) (n := 34) rfl) rfl
theorem dX1_addLine_60 : decode cX1_addLine 60 = .ok (.iload 5, 2) := dq_21 (hz_wg wX1_addLine_0 (j := 60) (n := 21) rfl) (hz_wg wX1_addLine_0 (j := 61) (n := 5) rfl)
theorem dX1_addLine_62 : decode cX1_addLine 62 = .ok (.iastore, 1) := dq_79 (hz_wg wX1_addLine_0 (j := 62) (n := 79) rfl)
theorem dX1_addLine_63 : decode cX1_addLine 63 = .ok (.aload_n 0, 1) := dq_42 (hz_wg wX1_addLine_0 (j := 63) (n := 42) rfl)
theorem dX1_addLine_64 : decode cX1_addLine 64 = .ok (.getfield 34, 3) := dq_180 (hz_wg wX1_addLine_1 (j := 0) (n := 180) rfl) (hz_wg wX1_addLine_1 (j := 1) (n := 0) rfl) (hz_wg wX1_addLine_1 (j := 2) (n := 34) rfl) rfl
theorem dX1_addLine_67 : decode cX1_addLine 67 = .ok (.istore 6, 2) := dq_54 (hz_wg wX1_addLine_1 (j := 3) (n := 54) rfl) (hz_wg wX1_addLine_1 (j := 4) (n := 6) rfl)
theorem dX1_addLine_69 : decode cX1_addLine 69 = .ok (.iload 6, 2) := dq_21 (hz_wg wX1_addLine_1 (j := 5) (n := 21) rfl) (hz_wg wX1_addLine_1 (j := 6) (n := 6) rfl)
theorem dX1_addLine_71 : decode cX1_addLine 71 = .ok (.ifCond .le 43, 3) := dq_158 (hz_wg wX1_addLine_1 (j := 7) (n := 158) rfl) (hz_wg wX1_addLine_1 (j := 8) (n := 0) rfl) (hz_wg wX1_addLine_1 (j := 9) (n := 43) rfl) (by decide)
theorem dX1_addLine_74 : decode cX1_addLine 74 = .ok (.aload_n 0, 1) := dq_42 (hz_wg wX1_addLine_1 (j := 10) (n := 42) rfl)
theorem dX1_addLine_75 : decode cX1_addLine 75 = .ok (.getfield 18, 3) := dq_180 (hz_wg wX1_addLine_1 (j := 11) (n := 180) rfl) (hz_wg wX1_addLine_1 (j := 12) (n := 0) rfl) (hz_wg wX1_addLine_1 (j := 13) (n := 18) rfl) rfl
theorem dX1_addLine_78 : decode cX1_addLine 78 = .ok (.aload_n 0, 1) := dq_42 (hz_wg wX1_addLine_1 (j := 14) (n := 42) rfl)
theorem dX1_addLine_79 : decode cX1_addLine 79 = .ok (.getfield 27, 3) := dq_180 (hz_wg wX1_addLine_1 (j := 15) (n := 180) rfl) (hz_wg wX1_addLine_1 (j := 16) (n := 0) rfl) (hz_wg wX1_addLine_1 (j := 17) (n := 27) rfl) rfl
theorem dX1_addLine_82 : decode cX1_addLine 82 = .ok (.iload 6, 2) := dq_21 (hz_wg wX1_addLine_1 (j := 18) (n := 21) rfl) (hz_wg wX1_addLine_1 (j := 19) (n := 6) rfl)
theorem dX1_addLine_84 : decode cX1_addLine 84 = .ok (.iconst 1, 1) := dq_4 (hz_wg wX1_addLine_1 (j := 20) (n := 4) rfl)
theorem dX1_addLine_85 : decode cX1_addLine 85 = .ok (.isub, 1) := dq_100 (hz_wg wX1_addLine_1 (j := 21) (n := 100) rfl)
theorem dX1_addLine_86 : decode cX1_addLine 86 = .ok (.iaload, 1) := dq_46 (hz_wg wX1_addLine_1 (j := 22) (n := 46) rfl)
theorem dX1_addLine_87 : decode cX1_addLine 87 = .ok (.iaload, 1) := dq_46 (hz_wg wX1_addLine_1 (j := 23) (n := 46) rfl)
theorem dX1_addLine_88 : decode cX1_addLine 88 = .ok (.iload_n 3, 1) := dq_29 (hz_wg wX1_addLine_1 (j := 24) (n := 29) rfl)
theorem dX1_addLine_89 : decode cX1_addLine 89 = .ok (.if_icmp .le 25, 3) := dq_164 (hz_wg wX1_addLine_1 (j := 25) (n := 164) rfl) (hz_wg wX1_addLine_1 (j := 26) (n := 0) rfl) (hz_wg wX1_addLine_1 (j := 27) (n := 25) rfl) (by decide)
theorem dX1_addLine_92 : decode cX1_addLine 92 = .ok (.aload_n 0, 1) := dq_42 (hz_wg wX1_addLine_1 (j := 28) (n := 42) rfl)
theorem dX1_addLine_93 : decode cX1_addLine 93 = .ok (.getfield 27, 3) := dq_180 (hz_wg wX1_addLine_1 (j := 29) (n := 180) rfl) (hz_wg wX1_addLine_1 (j := 30) (n := 0) rfl) (hz_wg wX1_addLine_1 (j := 31) (n := 27) rfl) rfl
theorem dX1_addLine_96 : decode cX1_addLine 96 = .ok (.iload 6, 2) := dq_21 (hz_wg wX1_addLine_1 (j := 32) (n := 21) rfl) (hz_wg wX1_addLine_1 (j := 33) (n := 6) rfl)
theorem dX1_addLine_98 : decode cX1_addLine 98 = .ok (.aload_n 0, 1) := dq_42 (hz_wg wX1_addLine_1 (j := 34) (n := 42) rfl)
theorem dX1_addLine_99 : decode cX1_addLine 99 = .ok (.getfield 27, 3) := dq_180 (hz_wg wX1_addLine_1 (j := 35) (n := 180) rfl) (hz_wg wX1_addLine_1 (j := 36) (n := 0) rfl) (hz_wg wX1_addLine_1 (j := 37) (n := 27) rfl) rfl
theorem dX1_addLine_102 : decode cX1_addLine 102 = .ok (.iload 6, 2) := dq_21 (hz_wg wX1_addLine_1 (j := 38) (n := 21) rfl) (hz_wg wX1_addLine_1 (j := 39) (n := 6) rfl)
theorem dX1_addLine_104 : decode cX1_addLine 104 = .ok (.iconst 1, 1) := dq_4 (hz_wg wX1_addLine_1 (j := 40) (n := 4) rfl)
theorem dX1_addLine_105 : decode cX1_addLine 105 = .ok (.isub, 1) := dq_100 (hz_wg wX1_addLine_1 (j := 41) (n := 100) rfl)
theorem dX1_addLine_106 : decode cX1_addLine 106 = .ok (.iaload, 1) := dq_46 (hz_wg wX1_addLine_1 (j := 42) (n := 46) rfl)
theorem dX1_addLine_107 : decode cX1_addLine 107 = .ok (.iastore, 1) := dq_79 (hz_wg wX1_addLine_1 (j := 43) (n := 79) rfl)
theorem dX1_addLine_108 : decode cX1_addLine 108 = .ok (.iinc 6 (-1), 3) := dq_132 (hz_wg wX1_addLine_1 (j := 44) (n := 132) rfl) (hz_wg wX1_addLine_1 (j := 45) (n := 6) rfl) (hz_wg wX1_addLine_1 (j := 46) (n := 255) rfl) (by decide)
theorem dX1_addLine_111 : decode cX1_addLine 111 = .ok (.goto (-42), 3) := dq_167 (hz_wg wX1_addLine_1 (j := 47) (n := 167) rfl) (hz_wg wX1_addLine_1 (j := 48) (n := 255) rfl) (hz_wg wX1_addLine_1 (j := 49) (n := 214) rfl) (by decide)
theorem dX1_addLine_114 : decode cX1_addLine 114 = .ok (.aload_n 0, 1) := dq_42 (hz_wg wX1_addLine_1 (j := 50) (n := 42) rfl)
theorem dX1_addLine_115 : decode cX1_addLine 115 = .ok (.getfield 27, 3) := dq_180 (hz_wg wX1_addLine_1 (j := 51) (n := 180) rfl) (hz_wg wX1_addLine_1 (j := 52) (n := 0) rfl) (hz_wg wX1_addLine_1 (j := 53) (n := 27) rfl) rfl
theorem dX1_addLine_118 : decode cX1_addLine 118 = .ok (.iload 6, 2) := dq_21 (hz_wg wX1_addLine_1 (j := 54) (n := 21) rfl) (hz_wg wX1_addLine_1 (j := 55) (n := 6) rfl)
theorem dX1_addLine_120 : decode cX1_addLine 120 = .ok (.aload_n 0, 1) := dq_42 (hz_wg wX1_addLine_1 (j := 56) (n := 42) rfl)
theorem dX1_addLine_121 : decode cX1_addLine 121 = .ok (.getfield 34, 3) := dq_180 (hz_wg wX1_addLine_1 (j := 57) (n := 180) rfl) (hz_wg wX1_addLine_1 (j := 58) (n := 0) rfl) (hz_wg wX1_addLine_1 (j := 59) (n := 34) rfl) rfl
theorem dX1_addLine_124 : decode cX1_addLine 124 = .ok (.iastore, 1) := dq_79 (hz_wg wX1_addLine_1 (j := 60) (n := 79) rfl)
theorem dX1_addLine_125 : decode cX1_addLine 125 = .ok (.aload_n 0, 1) := dq_42 (hz_wg wX1_addLine_1 (j := 61) (n := 42) rfl)
theorem dX1_addLine_126 : decode cX1_addLine 126 = .ok (.dup, 1) := dq_89 (hz_wg wX1_addLine_1 (j := 62) (n := 89) rfl)
theorem dX1_addLine_127 : decode cX1_addLine 127 = .ok (.getfield 34, 3) := dq_180 (hz_wg wX1_addLine_1 (j := 63) (n := 180) rfl) (hz_wg wX1_addLine_2 (j := 0) (n := 0) rfl) (hz_wg wX1_addLine_2 (j := 1) (n := 34) rfl) rfl
theorem dX1_addLine_130 : decode cX1_addLine 130 = .ok (.iconst 1, 1) := dq_4 (hz_wg wX1_addLine_2 (j := 2) (n := 4) rfl)
theorem dX1_addLine_131 : decode cX1_addLine 131 = .ok (.iadd, 1) := dq_96 (hz_wg wX1_addLine_2 (j := 3) (n := 96) rfl)
theorem dX1_addLine_132 : decode cX1_addLine 132 = .ok (.putfield 34, 3) := dq_181 (hz_wg wX1_addLine_2 (j := 4) (n := 181) rfl) (hz_wg wX1_addLine_2 (j := 5) (n := 0) rfl) (hz_wg wX1_addLine_2 (j := 6) (n := 34) rfl) rfl
theorem dX1_addLine_135 : decode cX1_addLine 135 = .ok (.return_, 1) := dq_177 (hz_wg wX1_addLine_2 (j := 7) (n := 177) rfl)