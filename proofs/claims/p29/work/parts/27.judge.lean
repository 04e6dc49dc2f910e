def wLX0_holds_0 : List Nat := [43, 26, 16, 7, 126, 46, 61, 26, 16, 7, 122, 62, 26, 16, 6, 122, 4, 126, 4, 160, 0, 10, 43, 29, 16, 7, 126, 46, 62, 28, 29, 162, 0, 7, 4, 167, 0, 13, 28, 29, 160, 0, 7, 5, 167, 0, 4, 7, 54, 4, 26, 6, 122, 21, 4, 126, 153, 0, 7, 4, 167, 0, 4, 3]
def wLX0_holds_1 : List Nat := [172]
theorem wX0_holds_0 : (cX0_holds.data.toList.map UInt8.toNat).drop 0 = wLX0_holds_0 ++ (wLX0_holds_1 ++ ([])) := by decide +kernel
theorem wX0_holds_1 : (cX0_holds.data.toList.map UInt8.toNat).drop 64 = wLX0_holds_1 ++ ([]) := hz_wn wX0_holds_0 rfl
theorem dX0_holds_0 : decode cX0_holds 0 = .ok (.aload_n 1, 1) := dq_43 (hz_wg wX0_holds_0 (j := 0) (n := 43) rfl)
theorem dX0_holds_1 : decode cX0_holds 1 = .ok (.iload_n 0, 1) := dq_26 (hz_wg wX0_holds_0 (j := 1) (n := 26) rfl)
theorem dX0_holds_2 : decode cX0_holds 2 = .ok (.bipush 7, 2) := dq_16 (hz_wg wX0_holds_0 (j := 2) (n := 16) rfl) (hz_wg wX0_holds_0 (j := 3) (n := 7) rfl) (by decide)
theorem dX0_holds_4 : decode cX0_holds 4 = .ok (.iand, 1) := dq_126 (hz_wg wX0_holds_0 (j := 4) (n := 126) rfl)
theorem dX0_holds_5 : decode cX0_holds 5 = .ok (.iaload, 1) := dq_46 (hz_wg wX0_holds_0 (j := 5) (n := 46) rfl)
theorem dX0_holds_6 : decode cX0_holds 6 = .ok (.istore_n 2, 1) := dq_61 (hz_wg wX0_holds_0 (j := 6) (n := 61) rfl)
theorem dX0_holds_7 : decode cX0_holds 7 = .ok (.iload_n 0, 1) := dq_26 (hz_wg wX0_holds_0 (j := 7) (n := 26) rfl)
theorem dX0_holds_8 : decode cX0_holds 8 = .ok (.bipush 7, 2) := dq_16 (hz_wg wX0_holds_0 (j := 8) (n := 16) rfl) (hz_wg wX0_holds_0 (j := 9) (n := 7) rfl) (by decide)
theorem dX0_holds_10 : decode cX0_holds 10 = .ok (.ishr, 1) := dq_122 (hz_wg wX0_holds_0 (j := 10) (n := 122) rfl)
theorem dX0_holds_11 : decode cX0_holds 11 = .ok (.istore_n 3, 1) := dq_62 (hz_wg wX0_holds_0 (j := 11) (n := 62) rfl)
theorem dX0_holds_12 : decode cX0_holds 12 = .ok (.iload_n 0, 1) := dq_26 (hz_wg wX0_holds_0 (j := 12) (n := 26) rfl)
theorem dX0_holds_13 : decode cX0_holds 13 = .ok (.bipush 6, 2) := dq_16 (hz_wg wX0_holds_0 (j := 13) (n := 16) rfl) (hz_wg wX0_holds_0 (j := 14) (n := 6) rfl) (by decide)
theorem dX0_holds_15 : decode cX0_holds 15 = .ok (.ishr, 1) := dq_122 (hz_wg wX0_holds_0 (j := 15) (n := 122) rfl)
theorem dX0_holds_16 : decode cX0_holds 16 = .ok (.iconst 1, 1) := dq_4 (hz_wg wX0_holds_0 (j := 16) (n := 4) rfl)
theorem dX0_holds_17 : decode cX0_holds 17 = .ok (.iand, 1) := dq_126 (hz_wg wX0_holds_0 (j := 17) (n := 126) rfl)
theorem dX0_holds_18 : decode cX0_holds 18 = .ok (.iconst 1, 1) := dq_4 (hz_wg wX0_holds_0 (j := 18) (n := 4) rfl)
theorem dX0_holds_19 : decode cX0_holds 19 = .ok (.if_icmp .ne 10, 3) := dq_160 (hz_wg wX0_holds_0 (j := 19) (n := 160) rfl) (hz_wg wX0_holds_0 (j := 20) (n := 0) rfl) (hz_wg wX0_holds_0 (j := 21) (n := 10) rfl) (by decide)
theorem dX0_holds_22 : decode cX0_holds 22 = .ok (.aload_n 1, 1) := dq_43 (hz_wg wX0_holds_0 (j := 22) (n := 43) rfl)
theorem dX0_holds_23 : decode cX0_holds 23 = .ok (.iload_n 3, 1) := dq_29 (hz_wg wX0_holds_0 (j := 23) (n := 29) rfl)
theorem dX0_holds_24 : decode cX0_holds 24 = .ok (.bipush 7, 2) := dq_16 (hz_wg wX0_holds_0 (j := 24) (n := 16) rfl) (hz_wg wX0_holds_0 (j := 25) (n := 7) rfl) (by decide)
theorem dX0_holds_26 : decode cX0_holds 26 = .ok (.iand, 1) := dq_126 (hz_wg wX0_holds_0 (j := 26) (n := 126) rfl)
theorem dX0_holds_27 : decode cX0_holds 27 = .ok (.iaload, 1) := dq_46 (hz_wg wX0_holds_0 (j := 27) (n := 46) rfl)
theorem dX0_holds_28 : decode cX0_holds 28 = .ok (.istore_n 3, 1) := dq_62 (hz_wg wX0_holds_0 (j := 28) (n := 62) rfl)
theorem dX0_holds_29 : decode cX0_holds 29 = .ok (.iload_n 2, 1) := dq_28 (hz_wg wX0_holds_0 (j := 29) (n := 28) rfl)
theorem dX0_holds_30 : decode cX0_holds 30 = .ok (.iload_n 3, 1) := dq_29 (hz_wg wX0_holds_0 (j := 30) (n := 29) rfl)
theorem dX0_holds_31 : decode cX0_holds 31 = .ok (.if_icmp .ge 7, 3) := dq_162 (hz_wg wX0_holds_0 (j := 31) (n := 162) rfl) (hz_wg wX0_holds_0 (j := 32) (n := 0) rfl) (hz_wg wX0_holds_0 (j := 33) (n := 7) rfl) (by decide)
theorem dX0_holds_34 : decode cX0_holds 34 = .ok (.iconst 1, 1) := dq_4 (hz_wg wX0_holds_0 (j := 34) (n := 4) rfl)
theorem dX0_holds_35 : decode cX0_holds 35 = .ok (.goto 13, 3) := dq_167 (hz_wg wX0_holds_0 (j := 35) (n := 167) rfl) (hz_wg wX0_holds_0 (j := 36) (n := 0) rfl) (hz_wg wX0_holds_0 (j := 37) (n := 13) rfl) (by decide)
theorem dX0_holds_38 : decode cX0_holds 38 = .ok (.iload_n 2, 1) := dq_28 (hz_wg wX0_holds_0 (j := 38) (n := 28) rfl)
theorem dX0_holds_39 : decode cX0_holds 39 = .ok (.iload_n 3, 1) := dq_29 (hz_wg wX0_holds_0 (j := 39) (n := 29) rfl)
theorem dX0_holds_40 : decode cX0_holds 40 = .ok (.if_icmp .ne 7, 3) := dq_160 (hz_wg wX0_holds_0 (j := 40) (n := 160) rfl) (hz_wg wX0_holds_0 (j := 41) (n := 0) rfl) (hz_wg wX0_holds_0 (j := 42) (n := 7) rfl) (by decide)
theorem dX0_holds_43 : decode cX0_holds 43 = .ok (.iconst 2, 1) := dq_5 (hz_wg wX0_holds_0 (j := 43) (n := 5) rfl)
theorem dX0_holds_44 : decode cX0_holds 44 = .ok (.goto 4, 3) := dq_167 (hz_wg wX0_holds_0 (j := 44) (n := 167) rfl) (hz_wg wX0_holds_0 (j := 45) (n := 0) rfl) (hz_wg wX0_holds_0 (j := 46) (n := 4) rfl) (by decide)
theorem dX0_holds_47 : decode cX0_holds 47 = .ok (.iconst 4, 1) := dq_7 (hz_wg wX0_holds_0 (j := 47) (n := 7) rfl)
theorem dX0_holds_48 : decode cX0_holds 48 = .ok (.istore 4, 2) := dq_54 (hz_wg wX0_holds_0 (j := 48) (n := 54) rfl) (hz_wg wX0_holds_0 (j := 49) (n := 4) rfl)
theorem dX0_holds_50 : decode cX0_holds 50 = .ok (.iload_n 0, 1) := dq_26 (hz_wg wX0_holds_0 (j := 50) (n := 26) rfl)
theorem dX0_holds_51 : decode cX0_holds 51 = .ok (.iconst 3, 1) := dq_6 (hz_wg wX0_holds_0 (j := 51) (n := 6) rfl)
theorem dX0_holds_52 : decode cX0_holds 52 = .ok (.ishr, 1) := dq_122 (hz_wg wX0_holds_0 (j := 52) (n := 122) rfl)
theorem dX0_holds_53 : decode cX0_holds 53 = .ok (.iload 4, 2) := dq_21 (hz_wg wX0_holds_0 (j := 53) (n := 21) rfl) (hz_wg wX0_holds_0 (j := 54) (n := 4) rfl)
theorem dX0_holds_55 : decode cX0_holds 55 = .ok (.iand, 1) := dq_126 (hz_wg wX0_holds_0 (j := 55) (n := 126) rfl)
theorem dX0_holds_56 : decode cX0_holds 56 = .ok (.ifCond .eq 7, 3) := dq_153 (hz_wg wX0_holds_0 (j := 56) (n := 153) rfl) (hz_wg wX0_holds_0 (j := 57) (n := 0) rfl) (hz_wg wX0_holds_0 (j := 58) (n := 7) rfl) (by decide)
theorem dX0_holds_59 : decode cX0_holds 59 = .ok (.iconst 1, 1) := dq_4 (hz_wg wX0_holds_0 (j := 59) (n := 4) rfl)
theorem dX0_holds_60 : decode cX0_holds 60 = .ok (.goto 4, 3) := dq_167 (hz_wg wX0_holds_0 (j := 60) (n := 167) rfl) (hz_wg wX0_holds_0 (j := 61) (n := 0) rfl) (hz_wg wX0_holds_0 (j := 62) (n := 4) rfl) (by decide)
theorem dX0_holds_63 : decode cX0_holds 63 = .ok (.iconst 0, 1) := dq_3 (hz_wg wX0_holds_0 (j := 63) (n := 3) rfl)
theorem dX0_holds_64 : decode cX0_holds 64 = .ok (.ireturn, 1) := dq_172 (hz_wg wX0_holds_1 (j := 0) (n := 172) rfl)
set_option maxHeartbeats 4000000 in
set_option maxRecDepth 100000 in
theorem t_X0_holds (l : Launch) (dC : Nat → ClassId) (dI : Nat → Nat → Nat) (dA : Nat → ClassId) (L : List Nat) (h : hx_h) (sz : Nat) (i1 : Int32) (v1 : Nat) (hT : hx_T T_tb L h) (gv1 : hx_g L h v1 20)  : Met l yX0_holds (Cond.code yX0_holds cX0_holds 5 (some .boolean) :: hx_all) ({ frames := 0, cells := 0, slots := 0, locals := 0 }) (va_Pc [.int i1, .ref v1] (hx_B T_tb (P_ty dA) (dC, dI) vwCl L h sz)) (va_Qi (fun (r : Int32) (u : List Nat × hx_h) => (r.toInt = 0 ∨ r.toInt = 1) ∧ hx_T T_tb u.1 u.2 ∧ hx_S T_tb [] L h u.1 u.2) (hx_E T_tb (P_ty dA) (dC, dI) vwCl (hx_A L sz)) (hx_A L sz)) 0 0 (hx_A L sz) := by
  refine hx_met (lv := [(0, .int i1), (1, .ref v1)]) (by decide +kernel) rfl (Nat.le_of_ble_eq_true rfl) rfl ?_
  intro p e s m below meth c hx hb hml hr hlk hts0 hown hin hsz hW ls hl
  have hts : ∀ w ∈ hx_all, w.before _ s = true := fun w hw => hts0 w (List.mem_cons_of_mem _ hw)
  have hown : s.vm.findClass "SmallCourt$Act" = some m.cls := hown
  have hM : hx_S T_tb [] L h L h := hx_S.rf
  refine lv_aload_n hx hb dX0_holds_0 rfl (lv_at hl 1 rfl) ?_
  refine lv_iload_n hx hb dX0_holds_1 rfl (lv_at hl 0 rfl) ?_
  refine lv_bipush (v := 7) hx hb dX0_holds_2 (by decide) ?_
  refine lv_iand hx hb dX0_holds_4 ?_
  refine lv_topi (fun x_1 ex_1 => ?_)
  have zx_1 : 0 ≤ x_1.toInt ∧ x_1.toInt ≤ 7 := by rw [ex_1]; exact hx_andR (by decide) (by decide)
  refine hx_iald hx hb hW hT (gv1.S hM) tt_20 rfl ⟨by omega, by omega⟩ dX0_holds_5 (fun x_2 ex_2 lx_2 ux_2 => ?_)
  refine lv_istore_n (lv' := [(2, .int x_2), (0, .int i1), (1, .ref v1)]) hx hb dX0_holds_6 rfl hl (by decide) rfl (fun ls hl => ?_)
  refine lv_iload_n hx hb dX0_holds_7 rfl (lv_at hl 1 rfl) ?_
  refine lv_bipush (v := 7) hx hb dX0_holds_8 (by decide) ?_
  refine lv_ishr hx hb dX0_holds_10 ?_
  refine lv_topi (fun x_3 ex_3 => ?_)
  refine lv_istore_n (lv' := [(3, .int x_3), (2, .int x_2), (0, .int i1), (1, .ref v1)]) hx hb dX0_holds_11 rfl hl (by decide) rfl (fun ls hl => ?_)
  refine lv_iload_n hx hb dX0_holds_12 rfl (lv_at hl 2 rfl) ?_
  refine lv_bipush (v := 6) hx hb dX0_holds_13 (by decide) ?_
  refine lv_ishr hx hb dX0_holds_15 ?_
  refine lv_topi (fun x_4 ex_4 => ?_)
  refine lv_iconst (v := 1) hx hb dX0_holds_16 (by decide) ?_
  refine lv_iand hx hb dX0_holds_17 ?_
  refine lv_topi (fun x_5 ex_5 => ?_)
  have zx_5 : 0 ≤ x_5.toInt ∧ x_5.toInt ≤ 1 := by rw [ex_5]; exact hx_andR (by decide) (by decide)
  refine lv_iconst (v := 1) hx hb dX0_holds_18 (by decide) ?_
  refine hb_icmp_ne (zx := x_5.toInt) (zy := 1) (tgt := 29) hx hb rfl (by decide) dX0_holds_19 (by decide) (fun c_6 => ?_) (fun c_6 => ?_)
  · skip
    refine lv_iload_n hx hb dX0_holds_29 rfl (lv_at hl 1 rfl) ?_
    refine lv_iload_n hx hb dX0_holds_30 rfl (lv_at hl 0 rfl) ?_
    refine hb_icmp_ge (zx := x_2.toInt) (zy := x_3.toInt) (tgt := 38) hx hb rfl rfl dX0_holds_31 (by decide) (fun c_7 => ?_) (fun c_7 => ?_)
    · skip
      refine lv_iload_n hx hb dX0_holds_38 rfl (lv_at hl 1 rfl) ?_
      refine lv_iload_n hx hb dX0_holds_39 rfl (lv_at hl 0 rfl) ?_
      have jn_48 : ∀ (xj_8 : Int32) (ls : Array Slot), 2 ≤ xj_8.toInt → xj_8.toInt ≤ 4 → lv_has ls 5 [(3, .int x_3), (2, .int x_2), (0, .int i1), (1, .ref v1)] → W p l e ({ frames := 0, cells := 0, slots := 0, locals := 0 }) s m ([.int i1, .ref v1] : List Value).toArray below meth c s.heap [] 0 0 (MQ below (va_Qi (fun (r : Int32) (u : List Nat × hx_h) => (r.toInt = 0 ∨ r.toInt = 1) ∧ hx_T T_tb u.1 u.2 ∧ hx_S T_tb [] L h u.1 u.2) (hx_E T_tb (P_ty dA) (dC, dI) vwCl (hx_A L sz)) (hx_A L sz)) ([.int i1, .ref v1] : List Value).toArray s 0 0 (hx_A L sz)) (F0 m 48 ls [.int xj_8]) := by
        intro xj_8 ls blxj_8 buxj_8 hl
        refine lv_istore (lv' := [(4, .int xj_8), (3, .int x_3), (2, .int x_2), (0, .int i1), (1, .ref v1)]) hx hb dX0_holds_48 hl (by decide) rfl (fun ls hl => ?_)
        refine lv_iload_n hx hb dX0_holds_50 rfl (lv_at hl 3 rfl) ?_
        refine lv_iconst (v := 3) hx hb dX0_holds_51 (by decide) ?_
        refine lv_ishr hx hb dX0_holds_52 ?_
        refine lv_topi (fun x_9 ex_9 => ?_)
        refine lv_iload hx hb dX0_holds_53 (lv_at hl 0 rfl) ?_
        refine lv_iand hx hb dX0_holds_55 ?_
        refine lv_topi (fun x_10 ex_10 => ?_)
        have jn_64 : ∀ (xj_11 : Int32) (ls : Array Slot), 0 ≤ xj_11.toInt → xj_11.toInt ≤ 1 → lv_has ls 5 [(4, .int xj_8), (3, .int x_3), (2, .int x_2), (0, .int i1), (1, .ref v1)] → W p l e ({ frames := 0, cells := 0, slots := 0, locals := 0 }) s m ([.int i1, .ref v1] : List Value).toArray below meth c s.heap [] 0 0 (MQ below (va_Qi (fun (r : Int32) (u : List Nat × hx_h) => (r.toInt = 0 ∨ r.toInt = 1) ∧ hx_T T_tb u.1 u.2 ∧ hx_S T_tb [] L h u.1 u.2) (hx_E T_tb (P_ty dA) (dC, dI) vwCl (hx_A L sz)) (hx_A L sz)) ([.int i1, .ref v1] : List Value).toArray s 0 0 (hx_A L sz)) (F0 m 64 ls [.int xj_11]) := by
          intro xj_11 ls blxj_11 buxj_11 hl
          exact hx_retz hx hb hr (hx_nar01 (by omega)) hlk hW ⟨(by omega), hT, hM⟩ dX0_holds_64
        refine hb_if_eq (zx := x_10.toInt) (tgt := 63) hx hb rfl dX0_holds_56 (by decide) (fun c_12 => ?_) (fun c_12 => ?_)
        · skip
          refine lv_iconst (v := 0) hx hb dX0_holds_63 (by decide) ?_
          exact jn_64 (0 : Int32) ls (by decide) (by decide) hl
        · skip
          refine lv_iconst (v := 1) hx hb dX0_holds_59 (by decide) ?_
          refine lv_goto (tgt := 64) hx hb dX0_holds_60 (by decide) ?_
          exact jn_64 (1 : Int32) ls (by decide) (by decide) hl
      refine hb_icmp_ne (zx := x_2.toInt) (zy := x_3.toInt) (tgt := 47) hx hb rfl rfl dX0_holds_40 (by decide) (fun c_13 => ?_) (fun c_13 => ?_)
      · skip
        refine lv_iconst (v := 4) hx hb dX0_holds_47 (by decide) ?_
        exact jn_48 (4 : Int32) ls (by decide) (by decide) hl
      · skip
        refine lv_iconst (v := 2) hx hb dX0_holds_43 (by decide) ?_
        refine lv_goto (tgt := 48) hx hb dX0_holds_44 (by decide) ?_
        exact jn_48 (2 : Int32) ls (by decide) (by decide) hl
    · skip
      refine lv_iconst (v := 1) hx hb dX0_holds_34 (by decide) ?_
      refine lv_goto (tgt := 48) hx hb dX0_holds_35 (by decide) ?_
      refine lv_istore (lv' := [(4, .int (1 : Int32)), (3, .int x_3), (2, .int x_2), (0, .int i1), (1, .ref v1)]) hx hb dX0_holds_48 hl (by decide) rfl (fun ls hl => ?_)
      refine lv_iload_n hx hb dX0_holds_50 rfl (lv_at hl 3 rfl) ?_
      refine lv_iconst (v := 3) hx hb dX0_holds_51 (by decide) ?_
      refine lv_ishr hx hb dX0_holds_52 ?_
      refine lv_topi (fun x_14 ex_14 => ?_)
      refine lv_iload hx hb dX0_holds_53 (lv_at hl 0 rfl) ?_
      refine lv_iand hx hb dX0_holds_55 ?_
      refine lv_topi (fun x_15 ex_15 => ?_)
      have zx_15 : 0 ≤ x_15.toInt ∧ x_15.toInt ≤ 1 := by rw [ex_15]; exact hx_andR (by decide) (by decide)
      have jn_64 : ∀ (xj_16 : Int32) (ls : Array Slot), 0 ≤ xj_16.toInt → xj_16.toInt ≤ 1 → lv_has ls 5 [(4, .int (1 : Int32)), (3, .int x_3), (2, .int x_2), (0, .int i1), (1, .ref v1)] → W p l e ({ frames := 0, cells := 0, slots := 0, locals := 0 }) s m ([.int i1, .ref v1] : List Value).toArray below meth c s.heap [] 0 0 (MQ below (va_Qi (fun (r : Int32) (u : List Nat × hx_h) => (r.toInt = 0 ∨ r.toInt = 1) ∧ hx_T T_tb u.1 u.2 ∧ hx_S T_tb [] L h u.1 u.2) (hx_E T_tb (P_ty dA) (dC, dI) vwCl (hx_A L sz)) (hx_A L sz)) ([.int i1, .ref v1] : List Value).toArray s 0 0 (hx_A L sz)) (F0 m 64 ls [.int xj_16]) := by
        intro xj_16 ls blxj_16 buxj_16 hl
        exact hx_retz hx hb hr (hx_nar01 (by omega)) hlk hW ⟨(by omega), hT, hM⟩ dX0_holds_64
      refine hb_if_eq (zx := x_15.toInt) (tgt := 63) hx hb rfl dX0_holds_56 (by decide) (fun c_17 => ?_) (fun c_17 => ?_)
      · skip
        refine lv_iconst (v := 0) hx hb dX0_holds_63 (by decide) ?_
        exact jn_64 (0 : Int32) ls (by decide) (by decide) hl
      · skip
        refine lv_iconst (v := 1) hx hb dX0_holds_59 (by decide) ?_
        refine lv_goto (tgt := 64) hx hb dX0_holds_60 (by decide) ?_
        exact jn_64 (1 : Int32) ls (by decide) (by decide) hl
  · skip
    refine lv_aload_n hx hb dX0_holds_22 rfl (lv_at hl 3 rfl) ?_
    refine lv_iload_n hx hb dX0_holds_23 rfl (lv_at hl 0 rfl) ?_
    refine lv_bipush (v := 7) hx hb dX0_holds_24 (by decide) ?_
    refine lv_iand hx hb dX0_holds_26 ?_
    refine lv_topi (fun x_18 ex_18 => ?_)
    have zx_18 : 0 ≤ x_18.toInt ∧ x_18.toInt ≤ 7 := by rw [ex_18]; exact hx_andR (by decide) (by decide)
    refine hx_iald hx hb hW hT (gv1.S hM) tt_20 rfl ⟨by omega, by omega⟩ dX0_holds_27 (fun x_19 ex_19 lx_19 ux_19 => ?_)
    refine lv_istore_n (lv' := [(3, .int x_19), (2, .int x_2), (0, .int i1), (1, .ref v1)]) hx hb dX0_holds_28 rfl hl (by decide) rfl (fun ls hl => ?_)
    refine lv_iload_n hx hb dX0_holds_29 rfl (lv_at hl 1 rfl) ?_
    refine lv_iload_n hx hb dX0_holds_30 rfl (lv_at hl 0 rfl) ?_
    refine hb_icmp_ge (zx := x_2.toInt) (zy := x_19.toInt) (tgt := 38) hx hb rfl rfl dX0_holds_31 (by decide) (fun c_20 => ?_) (fun c_20 => ?_)
    · skip
      refine lv_iload_n hx hb dX0_holds_38 rfl (lv_at hl 1 rfl) ?_
      refine lv_iload_n hx hb dX0_holds_39 rfl (lv_at hl 0 rfl) ?_
      have jn_48 : ∀ (xj_21 : Int32) (ls : Array Slot), 2 ≤ xj_21.toInt → xj_21.toInt ≤ 4 → lv_has ls 5 [(3, .int x_19), (2, .int x_2), (0, .int i1), (1, .ref v1)] → W p l e ({ frames := 0, cells := 0, slots := 0, locals := 0 }) s m ([.int i1, .ref v1] : List Value).toArray below meth c s.heap [] 0 0 (MQ below (va_Qi (fun (r : Int32) (u : List Nat × hx_h) => (r.toInt = 0 ∨ r.toInt = 1) ∧ hx_T T_tb u.1 u.2 ∧ hx_S T_tb [] L h u.1 u.2) (hx_E T_tb (P_ty dA) (dC, dI) vwCl (hx_A L sz)) (hx_A L sz)) ([.int i1, .ref v1] : List Value).toArray s 0 0 (hx_A L sz)) (F0 m 48 ls [.int xj_21]) := by
        intro xj_21 ls blxj_21 buxj_21 hl
        refine lv_istore (lv' := [(4, .int xj_21), (3, .int x_19), (2, .int x_2), (0, .int i1), (1, .ref v1)]) hx hb dX0_holds_48 hl (by decide) rfl (fun ls hl => ?_)
        refine lv_iload_n hx hb dX0_holds_50 rfl (lv_at hl 3 rfl) ?_
        refine lv_iconst (v := 3) hx hb dX0_holds_51 (by decide) ?_
        refine lv_ishr hx hb dX0_holds_52 ?_
        refine lv_topi (fun x_22 ex_22 => ?_)
        refine lv_iload hx hb dX0_holds_53 (lv_at hl 0 rfl) ?_
        refine lv_iand hx hb dX0_holds_55 ?_
        refine lv_topi (fun x_23 ex_23 => ?_)
        have jn_64 : ∀ (xj_24 : Int32) (ls : Array Slot), 0 ≤ xj_24.toInt → xj_24.toInt ≤ 1 → lv_has ls 5 [(4, .int xj_21), (3, .int x_19), (2, .int x_2), (0, .int i1), (1, .ref v1)] → W p l e ({ frames := 0, cells := 0, slots := 0, locals := 0 }) s m ([.int i1, .ref v1] : List Value).toArray below meth c s.heap [] 0 0 (MQ below (va_Qi (fun (r : Int32) (u : List Nat × hx_h) => (r.toInt = 0 ∨ r.toInt = 1) ∧ hx_T T_tb u.1 u.2 ∧ hx_S T_tb [] L h u.1 u.2) (hx_E T_tb (P_ty dA) (dC, dI) vwCl (hx_A L sz)) (hx_A L sz)) ([.int i1, .ref v1] : List Value).toArray s 0 0 (hx_A L sz)) (F0 m 64 ls [.int xj_24]) := by
          intro xj_24 ls blxj_24 buxj_24 hl
          exact hx_retz hx hb hr (hx_nar01 (by omega)) hlk hW ⟨(by omega), hT, hM⟩ dX0_holds_64
        refine hb_if_eq (zx := x_23.toInt) (tgt := 63) hx hb rfl dX0_holds_56 (by decide) (fun c_25 => ?_) (fun c_25 => ?_)
        · skip
          refine lv_iconst (v := 0) hx hb dX0_holds_63 (by decide) ?_
          exact jn_64 (0 : Int32) ls (by decide) (by decide) hl
        · skip
          refine lv_iconst (v := 1) hx hb dX0_holds_59 (by decide) ?_
          refine lv_goto (tgt := 64) hx hb dX0_holds_60 (by decide) ?_
          exact jn_64 (1 : Int32) ls (by decide) (by decide) hl
      refine hb_icmp_ne (zx := x_2.toInt) (zy := x_19.toInt) (tgt := 47) hx hb rfl rfl dX0_holds_40 (by decide) (fun c_26 => ?_) (fun c_26 => ?_)
      · skip
        refine lv_iconst (v := 4) hx hb dX0_holds_47 (by decide) ?_
        exact jn_48 (4 : Int32) ls (by decide) (by decide) hl
      · skip
        refine lv_iconst (v := 2) hx hb dX0_holds_43 (by decide) ?_
        refine lv_goto (tgt := 48) hx hb dX0_holds_44 (by decide) ?_
        exact jn_48 (2 : Int32) ls (by decide) (by decide) hl
    · skip
      refine lv_iconst (v := 1) hx hb dX0_holds_34 (by decide) ?_
      refine lv_goto (tgt := 48) hx hb dX0_holds_35 (by decide) ?_
      refine lv_istore (lv' := [(4, .int (1 : Int32)), (3, .int x_19), (2, .int x_2), (0, .int i1), (1, .ref v1)]) hx hb dX0_holds_48 hl (by decide) rfl (fun ls hl => ?_)
      refine lv_iload_n hx hb dX0_holds_50 rfl (lv_at hl 3 rfl) ?_
      refine lv_iconst (v := 3) hx hb dX0_holds_51 (by decide) ?_
      refine lv_ishr hx hb dX0_holds_52 ?_
      refine lv_topi (fun x_27 ex_27 => ?_)
      refine lv_iload hx hb dX0_holds_53 (lv_at hl 0 rfl) ?_
      refine lv_iand hx hb dX0_holds_55 ?_
      refine lv_topi (fun x_28 ex_28 => ?_)
      have zx_28 : 0 ≤ x_28.toInt ∧ x_28.toInt ≤ 1 := by rw [ex_28]; exact hx_andR (by decide) (by decide)
      have jn_64 : ∀ (xj_29 : Int32) (ls : Array Slot), 0 ≤ xj_29.toInt → xj_29.toInt ≤ 1 → lv_has ls 5 [(4, .int (1 : Int32)), (3, .int x_19), (2, .int x_2), (0, .int i1), (1, .ref v1)] → W p l e ({ frames := 0, cells := 0, slots := 0, locals := 0 }) s m ([.int i1, .ref v1] : List Value).toArray below meth c s.heap [] 0 0 (MQ below (va_Qi (fun (r : Int32) (u : List Nat × hx_h) => (r.toInt = 0 ∨ r.toInt = 1) ∧ hx_T T_tb u.1 u.2 ∧ hx_S T_tb [] L h u.1 u.2) (hx_E T_tb (P_ty dA) (dC, dI) vwCl (hx_A L sz)) (hx_A L sz)) ([.int i1, .ref v1] : List Value).toArray s 0 0 (hx_A L sz)) (F0 m 64 ls [.int xj_29]) := by
        intro xj_29 ls blxj_29 buxj_29 hl
        exact hx_retz hx hb hr (hx_nar01 (by omega)) hlk hW ⟨(by omega), hT, hM⟩ dX0_holds_64
      refine hb_if_eq (zx := x_28.toInt) (tgt := 63) hx hb rfl dX0_holds_56 (by decide) (fun c_30 => ?_) (fun c_30 => ?_)
      · skip
        refine lv_iconst (v := 0) hx hb dX0_holds_63 (by decide) ?_
        exact jn_64 (0 : Int32) ls (by decide) (by decide) hl
      · skip
        refine lv_iconst (v := 1) hx hb dX0_holds_59 (by decide) ?_
        refine lv_goto (tgt := 64) hx hb dX0_holds_60 (by decide) ?_
        exact jn_64 (1 : Int32) ls (by decide) (by decide) hl

def wLX0_proves_0 : List Nat := [3, 61, 3, 62, 29, 42, 180, 0, 38, 162, 0, 113, 28, 4, 126, 54, 4, 28, 4, 122, 4, 126, 54, 5, 42, 180, 0, 15, 29, 46, 170, 0, 0, 0, 0, 63, 255, 255, 255, 253, 255, 255, 255, 255, 0, 0, 0, 26, 0, 0, 0, 48, 0, 0, 0, 33, 28, 4, 130, 61, 167, 0, 56, 28]
def wLX0_proves_1 : List Nat := [5, 122, 4, 120, 21, 4, 21, 5, 126, 128, 61, 167, 0, 41, 28, 5, 122, 4, 120, 21, 4, 128, 21, 5, 128, 61, 167, 0, 26, 28, 4, 120, 42, 180, 0, 15, 29, 46, 43, 184, 0, 41, 153, 0, 7, 4, 167, 0, 4, 3, 128, 61, 132, 3, 1, 167, 255, 141, 28, 4, 126, 4, 160, 0]
def wLX0_proves_2 : List Nat := [7, 4, 167, 0, 4, 3, 172]
theorem wX0_proves_0 : (cX0_proves.data.toList.map UInt8.toNat).drop 0 = wLX0_proves_0 ++ (wLX0_proves_1 ++ (wLX0_proves_2 ++ ([]))) := by decide +kernel
theorem wX0_proves_1 : (cX0_proves.data.toList.map UInt8.toNat).drop 64 = wLX0_proves_1 ++ (wLX0_proves_2 ++ ([])) := hz_wn wX0_proves_0 rfl
theorem wX0_proves_2 : (cX0_proves.data.toList.map UInt8.toNat).drop 128 = wLX0_proves_2 ++ ([]) := hz_wn wX0_proves_1 rfl
theorem dX0_proves_0 : decode cX0_proves 0 = .ok (.iconst 0, 1) := dq_3 (hz_wg wX0_proves_0 (j := 0) (n := 3) rfl)
theorem dX0_proves_1 : decode cX0_proves 1 = .ok (.istore_n 2, 1) := dq_61 (hz_wg wX0_proves_0 (j := 1) (n := 61) rfl)
theorem dX0_proves_2 : decode cX0_proves 2 = .ok (.iconst 0, 1) := dq_3 (hz_wg wX0_proves_0 (j := 2) (n := 3) rfl)
theorem dX0_proves_3 : decode cX0_proves 3 = .ok (.istore_n 3, 1) := dq_62 (hz_wg wX0_proves_0 (j := 3) (n := 62) rfl)
theorem dX0_proves_4 : decode cX0_proves 4 = .ok (.iload_n 3, 1) := dq_29 (hz_wg wX0_proves_0 (j := 4) (n := 29) rfl)
theorem dX0_proves_5 : decode cX0_proves 5 = .ok (.aload_n 0, 1) := dq_42 (hz_wg wX0_proves_0 (j := 5) (n := 42) rfl)
theorem dX0_proves_6 : decode cX0_proves 6 = .ok (.getfield 38, 3) := dq_180 (hz_wg wX0_proves_0 (j := 6) (n := 180) rfl) (hz_wg wX0_proves_0 (j := 7) (n := 0) rfl) (hz_wg wX0_proves_0 (j := 8) (n := 38) rfl) rfl
theorem dX0_proves_9 : decode cX0_proves 9 = .ok (.if_icmp .ge 113, 3) := dq_162 (hz_wg wX0_proves_0 (j := 9) (n := 162) rfl) (hz_wg wX0_proves_0 (j := 10) (n := 0) rfl) (hz_wg wX0_proves_0 (j := 11) (n := 113) rfl) (by decide)
theorem dX0_proves_12 : decode cX0_proves 12 = .ok (.iload_n 2, 1) := dq_28 (hz_wg wX0_proves_0 (j := 12) (n := 28) rfl)
theorem dX0_proves_13 : decode cX0_proves 13 = .ok (.iconst 1, 1) := dq_4 (hz_wg wX0_proves_0 (j := 13) (n := 4) rfl)
theorem dX0_proves_14 : decode cX0_proves 14 = .ok (.iand, 1) := dq_126 (hz_wg wX0_proves_0 (j := 14) (n := 126) rfl)
theorem dX0_proves_15 : decode cX0_proves 15 = .ok (.istore 4, 2) := dq_54 (hz_wg wX0_proves_0 (j := 15) (n := 54) rfl) (hz_wg wX0_proves_0 (j := 16) (n := 4) rfl)
theorem dX0_proves_17 : decode cX0_proves 17 = .ok (.iload_n 2, 1) := dq_28 (hz_wg wX0_proves_0 (j := 17) (n := 28) rfl)
theorem dX0_proves_18 : decode cX0_proves 18 = .ok (.iconst 1, 1) := dq_4 (hz_wg wX0_proves_0 (j := 18) (n := 4) rfl)
theorem dX0_proves_19 : decode cX0_proves 19 = .ok (.ishr, 1) := dq_122 (hz_wg wX0_proves_0 (j := 19) (n := 122) rfl)
theorem dX0_proves_20 : decode cX0_proves 20 = .ok (.iconst 1, 1) := dq_4 (hz_wg wX0_proves_0 (j := 20) (n := 4) rfl)
theorem dX0_proves_21 : decode cX0_proves 21 = .ok (.iand, 1) := dq_126 (hz_wg wX0_proves_0 (j := 21) (n := 126) rfl)
theorem dX0_proves_22 : decode cX0_proves 22 = .ok (.istore 5, 2) := dq_54 (hz_wg wX0_proves_0 (j := 22) (n := 54) rfl) (hz_wg wX0_proves_0 (j := 23) (n := 5) rfl)
theorem dX0_proves_24 : decode cX0_proves 24 = .ok (.aload_n 0, 1) := dq_42 (hz_wg wX0_proves_0 (j := 24) (n := 42) rfl)
theorem dX0_proves_25 : decode cX0_proves 25 = .ok (.getfield 15, 3) := dq_180 (hz_wg wX0_proves_0 (j := 25) (n := 180) rfl) (hz_wg wX0_proves_0 (j := 26) (n := 0) rfl) (hz_wg wX0_proves_0 (j := 27) (n := 15) rfl) rfl
theorem dX0_proves_28 : decode cX0_proves 28 = .ok (.iload_n 3, 1) := dq_29 (hz_wg wX0_proves_0 (j := 28) (n := 29) rfl)
theorem dX0_proves_29 : decode cX0_proves 29 = .ok (.iaload, 1) := dq_46 (hz_wg wX0_proves_0 (j := 29) (n := 46) rfl)
theorem dX0_proves_30 : decode cX0_proves 30 = .ok (.tableswitch 63 (-3) (-1) #[26, 48, 33], 26) := by decide +kernel
theorem dX0_proves_56 : decode cX0_proves 56 = .ok (.iload_n 2, 1) := dq_28 (hz_wg wX0_proves_0 (j := 56) (n := 28) rfl)
theorem dX0_proves_57 : decode cX0_proves 57 = .ok (.iconst 1, 1) := dq_4 (hz_wg wX0_proves_0 (j := 57) (n := 4) rfl)
theorem dX0_proves_58 : decode cX0_proves 58 = .ok (.ixor, 1) := dq_130 (hz_wg wX0_proves_0 (j := 58) (n := 130) rfl)
theorem dX0_proves_59 : decode cX0_proves 59 = .ok (.istore_n 2, 1) := dq_61 (hz_wg wX0_proves_0 (j := 59) (n := 61) rfl)
theorem dX0_proves_60 : decode cX0_proves 60 = .ok (.goto 56, 3) := dq_167 (hz_wg wX0_proves_0 (j := 60) (n := 167) rfl) (hz_wg wX0_proves_0 (j := 61) (n := 0) rfl) (hz_wg wX0_proves_0 (j := 62) (n := 56) rfl) (by decide)
theorem dX0_proves_63 : decode cX0_proves 63 = .ok (.iload_n 2, 1) := dq_28 (hz_wg wX0_proves_0 (j := 63) (n := 28) rfl)
theorem dX0_proves_64 : decode cX0_proves 64 = .ok (.iconst 2, 1) := dq_5 (hz_wg wX0_proves_1 (j := 0) (n := 5) rfl)
theorem dX0_proves_65 : decode cX0_proves 65 = .ok (.ishr, 1) := dq_122 (hz_wg wX0_proves_1 (j := 1) (n := 122) rfl)
theorem dX0_proves_66 : decode cX0_proves 66 = .ok (.iconst 1, 1) := dq_4 (hz_wg wX0_proves_1 (j := 2) (n := 4) rfl)
theorem dX0_proves_67 : decode cX0_proves 67 = .ok (.ishl, 1) := dq_120 (hz_wg wX0_proves_1 (j := 3) (n := 120) rfl)
theorem dX0_proves_68 : decode cX0_proves 68 = .ok (.iload 4, 2) := dq_21 (hz_wg wX0_proves_1 (j := 4) (n := 21) rfl) (hz_wg wX0_proves_1 (j := 5) (n := 4) rfl)
theorem dX0_proves_70 : decode cX0_proves 70 = .ok (.iload 5, 2) := dq_21 (hz_wg wX0_proves_1 (j := 6) (n := 21) rfl) (hz_wg wX0_proves_1 (j := 7) (n := 5) rfl)
theorem dX0_proves_72 : decode cX0_proves 72 = .ok (.iand, 1) := dq_126 (hz_wg wX0_proves_1 (j := 8) (n := 126) rfl)
theorem dX0_proves_73 : decode cX0_proves 73 = .ok (.ior, 1) := dq_128 (hz_wg wX0_proves_1 (j := 9) (n := 128) rfl)
theorem dX0_proves_74 : decode cX0_proves 74 = .ok (.istore_n 2, 1) := dq_61 (hz_wg wX0_proves_1 (j := 10) (n := 61) rfl)
theorem dX0_proves_75 : decode cX0_proves 75 = .ok (.goto 41, 3) := dq_167 (hz_wg wX0_proves_1 (j := 11) (n := 167) rfl) (hz_wg wX0_proves_1 (j := 12) (n := 0) rfl) (hz_wg wX0_proves_1 (j := 13) (n := 41) rfl) (by decide)
theorem dX0_proves_78 : decode cX0_proves 78 = .ok (.iload_n 2, 1) := dq_28 (hz_wg wX0_proves_1 (j := 14) (n := 28) rfl)
theorem dX0_proves_79 : decode cX0_proves 79 = .ok (.iconst 2, 1) := dq_5 (hz_wg wX0_proves_1 (j := 15) (n := 5) rfl)
theorem dX0_proves_80 : decode cX0_proves 80 = .ok (.ishr, 1) := dq_122 (hz_wg wX0_proves_1 (j := 16) (n := 122) rfl)
theorem dX0_proves_81 : decode cX0_proves 81 = .ok (.iconst 1, 1) := dq_4 (hz_wg wX0_proves_1 (j := 17) (n := 4) rfl)
theorem dX0_proves_82 : decode cX0_proves 82 = .ok (.ishl, 1) := dq_120 (hz_wg wX0_proves_1 (j := 18) (n := 120) rfl)
theorem dX0_proves_83 : decode cX0_proves 83 = .ok (.iload 4, 2) := dq_21 (hz_wg wX0_proves_1 (j := 19) (n := 21) rfl) (hz_wg wX0_proves_1 (j := 20) (n := 4) rfl)
theorem dX0_proves_85 : decode cX0_proves 85 = .ok (.ior, 1) := dq_128 (hz_wg wX0_proves_1 (j := 21) (n := 128) rfl)
theorem dX0_proves_86 : decode cX0_proves 86 = .ok (.iload 5, 2) := dq_21 (hz_wg wX0_proves_1 (j := 22) (n := 21) rfl) (hz_wg wX0_proves_1 (j := 23) (n := 5) rfl)
theorem dX0_proves_88 : decode cX0_proves 88 = .ok (.ior, 1) := dq_128 (hz_wg wX0_proves_1 (j := 24) (n := 128) rfl)
theorem dX0_proves_89 : decode cX0_proves 89 = .ok (.istore_n 2, 1) := dq_61 (hz_wg wX0_proves_1 (j := 25) (n := 61) rfl)
theorem dX0_proves_90 : decode cX0_proves 90 = .ok (.goto 26, 3) := dq_167 (hz_wg wX0_proves_1 (j := 26) (n := 167) rfl) (hz_wg wX0_proves_1 (j := 27) (n := 0) rfl) (hz_wg wX0_proves_1 (j := 28) (n := 26) rfl) (by decide)
theorem dX0_proves_93 : decode cX0_proves 93 = .ok (.iload_n 2, 1) := dq_28 (hz_wg wX0_proves_1 (j := 29) (n := 28) rfl)
theorem dX0_proves_94 : decode cX0_proves 94 = .ok (.iconst 1, 1) := dq_4 (hz_wg wX0_proves_1 (j := 30) (n := 4) rfl)
theorem dX0_proves_95 : decode cX0_proves 95 = .ok (.ishl, 1) := dq_120 (hz_wg wX0_proves_1 (j := 31) (n := 120) rfl)
theorem dX0_proves_96 : decode cX0_proves 96 = .ok (.aload_n 0, 1) := dq_42 (hz_wg wX0_proves_1 (j := 32) (n := 42) rfl)
theorem dX0_proves_97 : decode cX0_proves 97 = .ok (.getfield 15, 3) := dq_180 (hz_wg wX0_proves_1 (j := 33) (n := 180) rfl) (hz_wg wX0_proves_1 (j := 34) (n := 0) rfl) (hz_wg wX0_proves_1 (j := 35) (n := 15) rfl) rfl
theorem dX0_proves_100 : decode cX0_proves 100 = .ok (.iload_n 3, 1) := dq_29 (hz_wg wX0_proves_1 (j := 36) (n := 29) rfl)
theorem dX0_proves_101 : decode cX0_proves 101 = .ok (.iaload, 1) := dq_46 (hz_wg wX0_proves_1 (j := 37) (n := 46) rfl)
theorem dX0_proves_102 : decode cX0_proves 102 = .ok (.aload_n 1, 1) := dq_43 (hz_wg wX0_proves_1 (j := 38) (n := 43) rfl)
theorem dX0_proves_103 : decode cX0_proves 103 = .ok (.invokestatic 41, 3) := dq_184 (hz_wg wX0_proves_1 (j := 39) (n := 184) rfl) (hz_wg wX0_proves_1 (j := 40) (n := 0) rfl) (hz_wg wX0_proves_1 (j := 41) (n := 41) rfl) rfl
theorem dX0_proves_106 : decode cX0_proves 106 = .ok (.ifCond .eq 7, 3) := dq_153 (hz_wg wX0_proves_1 (j := 42) (n := 153) rfl) (hz_wg wX0_proves_1 (j := 43) (n := 0) rfl) (hz_wg wX0_proves_1 (j := 44) (n := 7) rfl) (by decide)
theorem dX0_proves_109 : decode cX0_proves 109 = .ok (.iconst 1, 1) := dq_4 (hz_wg wX0_proves_1 (j := 45) (n := 4) rfl)
theorem dX0_proves_110 : decode cX0_proves 110 = .ok (.goto 4, 3) := dq_167 (hz_wg wX0_proves_1 (j := 46) (n := 167) rfl) (hz_wg wX0_proves_1 (j := 47) (n := 0) rfl) (hz_wg wX0_proves_1 (j := 48) (n := 4) rfl) (by decide)
theorem dX0_proves_113 : decode cX0_proves 113 = .ok (.iconst 0, 1) := dq_3 (hz_wg wX0_proves_1 (j := 49) (n := 3) rfl)
theorem dX0_proves_114 : decode cX0_proves 114 = .ok (.ior, 1) := dq_128 (hz_wg wX0_proves_1 (j := 50) (n := 128) rfl)
theorem dX0_proves_115 : decode cX0_proves 115 = .ok (.istore_n 2, 1) := dq_61 (hz_wg wX0_proves_1 (j := 51) (n := 61) rfl)
theorem dX0_proves_116 : decode cX0_proves 116 = .ok (.iinc 3 1, 3) := dq_132 (hz_wg wX0_proves_1 (j := 52) (n := 132) rfl) (hz_wg wX0_proves_1 (j := 53) (n := 3) rfl) (hz_wg wX0_proves_1 (j := 54) (n := 1) rfl) (by decide)
theorem dX0_proves_119 : decode cX0_proves 119 = .ok (.goto (-115), 3) := dq_167 (hz_wg wX0_proves_1 (j := 55) (n := 167) rfl) (hz_wg wX0_proves_1 (j := 56) (n := 255) rfl) (hz_wg wX0_proves_1 (j := 57) (n := 141) rfl) (by decide)
theorem dX0_proves_122 : decode cX0_proves 122 = .ok (.iload_n 2, 1) := dq_28 (hz_wg wX0_proves_1 (j := 58) (n := 28) rfl)
theorem dX0_proves_123 : decode cX0_proves 123 = .ok (.iconst 1, 1) := dq_4 (hz_wg wX0_proves_1 (j := 59) (n := 4) rfl)
theorem dX0_proves_124 : decode cX0_proves 124 = .ok (.iand, 1) := dq_126 (hz_wg wX0_proves_1 (j := 60) (n := 126) rfl)
theorem dX0_proves_125 : decode cX0_proves 125 = .ok (.iconst 1, 1) := dq_4 (hz_wg wX0_proves_1 (j := 61) (n := 4) rfl)
theorem dX0_proves_126 : decode cX0_proves 126 = .ok (.if_icmp .ne 7, 3) := dq_160 (hz_wg wX0_proves_1 (j := 62) (n := 160) rfl) (hz_wg wX0_proves_1 (j := 63) (n := 0) rfl) (hz_wg wX0_proves_2 (j := 0) (n := 7) rfl) (by decide)
theorem dX0_proves_129 : decode cX0_proves 129 = .ok (.iconst 1, 1) := dq_4 (hz_wg wX0_proves_2 (j := 1) (n := 4) rfl)
theorem dX0_proves_130 : decode cX0_proves 130 = .ok (.goto 4, 3) := dq_167 (hz_wg wX0_proves_2 (j := 2) (n := 167) rfl) (hz_wg wX0_proves_2 (j := 3) (n := 0) rfl) (hz_wg wX0_proves_2 (j := 4) (n := 4) rfl) (by decide)
theorem dX0_proves_133 : decode cX0_proves 133 = .ok (.iconst 0, 1) := dq_3 (hz_wg wX0_proves_2 (j := 5) (n := 3) rfl)
theorem dX0_proves_134 : decode cX0_proves 134 = .ok (.ireturn, 1) := dq_172 (hz_wg wX0_proves_2 (j := 6) (n := 172) rfl)
set_option maxHeartbeats 4000000 in
set_option maxRecDepth 100000 in
theorem t_X0_proves (l : Launch) (dC : Nat → ClassId) (dI : Nat → Nat → Nat) (dA : Nat → ClassId) (L : List Nat) (h : hx_h) (sz : Nat) (x : Nat) (v1 : Nat) (hT : hx_T T_tb L h) (gx : hx_g L h x 0) (gv1 : hx_g L h v1 20)  : Met l yX0_proves (Cond.code yX0_proves cX0_proves 6 (some .boolean) :: hx_all) ({ frames := 1, cells := 0, slots := 0, locals := 24 }) (va_Pc [.ref x, .ref v1] (hx_B T_tb (P_ty dA) (dC, dI) vwCl L h sz)) (va_Qi (fun (r : Int32) (u : List Nat × hx_h) => (r.toInt = 0 ∨ r.toInt = 1) ∧ hx_T T_tb u.1 u.2 ∧ hx_S T_tb [] L h u.1 u.2) (hx_E T_tb (P_ty dA) (dC, dI) vwCl (hx_A L sz)) (hx_A L sz)) 0 0 (hx_A L sz) := by
  refine hx_met (lv := [(0, .ref x), (1, .ref v1)]) (by decide +kernel) rfl (Nat.le_of_ble_eq_true rfl) rfl ?_
  intro p e s m below meth c hx hb hml hr hlk hts0 hown hin hsz hW ls hl
  have hts : ∀ w ∈ hx_all, w.before _ s = true := fun w hw => hts0 w (List.mem_cons_of_mem _ hw)
  have hown : s.vm.findClass "SmallCourt$Act" = some m.cls := hown
  have hM : hx_S T_tb [] L h L h := hx_S.rf
  refine lv_iconst (v := 0) hx hb dX0_proves_0 (by decide) ?_
  refine lv_istore_n (lv' := [(2, .int (0 : Int32)), (0, .ref x), (1, .ref v1)]) hx hb dX0_proves_1 rfl hl (by decide) rfl (fun ls hl => ?_)
  refine lv_iconst (v := 0) hx hb dX0_proves_2 (by decide) ?_
  refine lv_istore_n (lv' := [(3, .int (0 : Int32)), (2, .int (0 : Int32)), (0, .ref x), (1, .ref v1)]) hx hb dX0_proves_3 rfl hl (by decide) rfl (fun ls hl => ?_)
  have loop4 : ∀ (n4 : Nat) (iv4_2 iv4_3 : Int32) (H : Heap) (locs : List Loc) (hL1 : List Nat) (hl1 : hx_h), -2147483648 ≤ iv4_2.toInt → iv4_2.toInt ≤ 2147483647 → 0 ≤ iv4_3.toInt → iv4_3.toInt ≤ 160 → ∀ (ls : Array Slot), 160 - iv4_3.toInt < (n4 : Int) → hx_W T_tb (P_ty dA) (dC, dI) vwCl (hx_A L sz) s.heap hL1 hl1 s H locs → hx_T T_tb hL1 hl1 → hx_S T_tb [] L h hL1 hl1 → lv_has ls 6 [(3, .int iv4_3), (2, .int iv4_2), (0, .ref x), (1, .ref v1)] → W p l e ({ frames := 1, cells := 0, slots := 0, locals := 24 }) s m ([.ref x, .ref v1] : List Value).toArray below meth c H locs 0 0 (MQ below (va_Qi (fun (r : Int32) (u : List Nat × hx_h) => (r.toInt = 0 ∨ r.toInt = 1) ∧ hx_T T_tb u.1 u.2 ∧ hx_S T_tb [] L h u.1 u.2) (hx_E T_tb (P_ty dA) (dC, dI) vwCl (hx_A L sz)) (hx_A L sz)) ([.ref x, .ref v1] : List Value).toArray s 0 0 (hx_A L sz)) (F0 m 4 ls []) := by
    intro n4
    induction n4 with
    | zero => intro iv4_2 iv4_3 H locs hL1 hl1 bliv4_2 buiv4_2 bliv4_3 buiv4_3  ls hn4; exfalso; omega
    | succ n4 ih4 =>
      intro iv4_2 iv4_3 H locs hL1 hl1 bliv4_2 buiv4_2 bliv4_3 buiv4_3  ls hn4 hW hT hM   hl
      refine lv_iload_n hx hb dX0_proves_4 rfl (lv_at hl 0 rfl) ?_
      refine lv_aload_n hx hb dX0_proves_5 rfl (lv_at hl 2 rfl) ?_
      refine hx_geti hx hb hts hC_0 hown hW hT (gx.S hM) tt_0 4 (by decide) rfl kw_173 ⟨rfl, rfl, rfl⟩ dX0_proves_6 (fun x_1 ex_1 lx_1 ux_1 => ?_)
      have fx_1 := ex_1.symm
      refine hb_icmp_ge (zx := iv4_3.toInt) (zy := x_1.toInt) (tgt := 122) hx hb rfl rfl dX0_proves_9 (by decide) (fun c_2 => ?_) (fun c_2 => ?_)
      · skip
        refine lv_iload_n hx hb dX0_proves_122 rfl (lv_at hl 1 rfl) ?_
        refine lv_iconst (v := 1) hx hb dX0_proves_123 (by decide) ?_
        refine lv_iand hx hb dX0_proves_124 ?_
        refine lv_topi (fun x_3 ex_3 => ?_)
        have zx_3 : 0 ≤ x_3.toInt ∧ x_3.toInt ≤ 1 := by rw [ex_3]; exact hx_andR (by decide) (by decide)
        refine lv_iconst (v := 1) hx hb dX0_proves_125 (by decide) ?_
        have jn_134 : ∀ (xj_4 : Int32) (ls : Array Slot), 0 ≤ xj_4.toInt → xj_4.toInt ≤ 1 → lv_has ls 6 [(3, .int iv4_3), (2, .int iv4_2), (0, .ref x), (1, .ref v1)] → W p l e ({ frames := 1, cells := 0, slots := 0, locals := 24 }) s m ([.ref x, .ref v1] : List Value).toArray below meth c H locs 0 0 (MQ below (va_Qi (fun (r : Int32) (u : List Nat × hx_h) => (r.toInt = 0 ∨ r.toInt = 1) ∧ hx_T T_tb u.1 u.2 ∧ hx_S T_tb [] L h u.1 u.2) (hx_E T_tb (P_ty dA) (dC, dI) vwCl (hx_A L sz)) (hx_A L sz)) ([.ref x, .ref v1] : List Value).toArray s 0 0 (hx_A L sz)) (F0 m 134 ls [.int xj_4]) := by
          intro xj_4 ls blxj_4 buxj_4 hl
          exact hx_retz hx hb hr (hx_nar01 (by omega)) hlk hW ⟨(by omega), hT, hM⟩ dX0_proves_134
        refine hb_icmp_ne (zx := x_3.toInt) (zy := 1) (tgt := 133) hx hb rfl (by decide) dX0_proves_126 (by decide) (fun c_5 => ?_) (fun c_5 => ?_)
        · skip
          refine lv_iconst (v := 0) hx hb dX0_proves_133 (by decide) ?_
          exact jn_134 (0 : Int32) ls (by decide) (by decide) hl
        · skip
          refine lv_iconst (v := 1) hx hb dX0_proves_129 (by decide) ?_
          refine lv_goto (tgt := 134) hx hb dX0_proves_130 (by decide) ?_
          exact jn_134 (1 : Int32) ls (by decide) (by decide) hl
      · skip
        refine lv_iload_n hx hb dX0_proves_12 rfl (lv_at hl 1 rfl) ?_
        refine lv_iconst (v := 1) hx hb dX0_proves_13 (by decide) ?_
        refine lv_iand hx hb dX0_proves_14 ?_
        refine lv_topi (fun x_6 ex_6 => ?_)
        have zx_6 : 0 ≤ x_6.toInt ∧ x_6.toInt ≤ 1 := by rw [ex_6]; exact hx_andR (by decide) (by decide)
        refine lv_istore (lv' := [(4, .int x_6), (3, .int iv4_3), (2, .int iv4_2), (0, .ref x), (1, .ref v1)]) hx hb dX0_proves_15 hl (by decide) rfl (fun ls hl => ?_)
        refine lv_iload_n hx hb dX0_proves_17 rfl (lv_at hl 2 rfl) ?_
        refine lv_iconst (v := 1) hx hb dX0_proves_18 (by decide) ?_
        refine lv_ishr hx hb dX0_proves_19 ?_
        refine lv_topi (fun x_7 ex_7 => ?_)
        refine lv_iconst (v := 1) hx hb dX0_proves_20 (by decide) ?_
        refine lv_iand hx hb dX0_proves_21 ?_
        refine lv_topi (fun x_8 ex_8 => ?_)
        have zx_8 : 0 ≤ x_8.toInt ∧ x_8.toInt ≤ 1 := by rw [ex_8]; exact hx_andR (by decide) (by decide)
        refine lv_istore (lv' := [(5, .int x_8), (4, .int x_6), (3, .int iv4_3), (2, .int iv4_2), (0, .ref x), (1, .ref v1)]) hx hb dX0_proves_22 hl (by decide) rfl (fun ls hl => ?_)
        refine lv_aload_n hx hb dX0_proves_24 rfl (lv_at hl 4 rfl) ?_
        refine hx_getn hx hb hts hC_0 hown hW hT (gx.S hM) tt_0 3 (by decide) rfl kw_172 ⟨rfl, rfl, rfl⟩ dX0_proves_25 (fun q_9 fq_9 gq_9 => ?_)
        refine lv_iload_n hx hb dX0_proves_28 rfl (lv_at hl 2 rfl) ?_
        refine hx_iald hx hb hW hT gq_9 tt_12 rfl ⟨by omega, by omega⟩ dX0_proves_29 (fun x_10 ex_10 lx_10 ux_10 => ?_)
        rcases (show (x_10.toInt < -3 ∨ -1 < x_10.toInt) ∨ x_10.toInt = -3 ∨ x_10.toInt = -2 ∨ x_10.toInt = -1 from by omega) with c_11 | c_11 | c_11 | c_11
        · refine lv_tableOut (tgt := 93) hx hb dX0_proves_30 c_11 (by decide) ?_
          refine lv_iload_n hx hb dX0_proves_93 rfl (lv_at hl 3 rfl) ?_
          refine lv_iconst (v := 1) hx hb dX0_proves_94 (by decide) ?_
          refine lv_ishl hx hb dX0_proves_95 ?_
          refine lv_topi (fun x_12 ex_12 => ?_)
          refine lv_aload_n hx hb dX0_proves_96 rfl (lv_at hl 4 rfl) ?_
          refine hk_getr hx hb hts hC_0 hown hW (gx.S hM) tt_0 3 (by decide) rfl kw_172 ⟨rfl, rfl, rfl⟩ fq_9 dX0_proves_97 ?_
          refine lv_iload_n hx hb dX0_proves_100 rfl (lv_at hl 2 rfl) ?_
          refine hx_iald hx hb hW hT gq_9 tt_12 rfl ⟨by omega, by omega⟩ dX0_proves_101 (fun x_13 ex_13 lx_13 ux_13 => ?_)
          obtain rfl : x_10 = x_13 := ex_10.trans ex_13.symm
          refine lv_aload_n hx hb dX0_proves_102 rfl (lv_at hl 5 rfl) ?_
          refine hx_goi (hx_runS (As := [.int x_10, .ref v1]) (rest := [.int x_12]) ⟨hx, hb, hml, hown, hts⟩ hW (t_X0_holds l dC dI dA hL1 hl1 H.size x_10 v1 hT (gv1.S hM)) (va_cwS 2 hts (hx_gS kw_841 kw_839 kw_840 kw_96) rfl rfl rfl (by decide +kernel) ⟨Nat.le_of_ble_eq_true rfl, Nat.le_of_ble_eq_true rfl⟩) rfl hl.1 rfl (Nat.le_of_ble_eq_true rfl) dX0_proves_103 ⟨Nat.le_of_ble_eq_true rfl, Nat.le_of_ble_eq_true rfl⟩) hW (fun r_16 L_14 h_15 H locs p_17 hW => ?_)
          obtain ⟨hr_18, hT, hs⟩ := p_17
          replace hT : hx_T T_tb L_14 h_15 := hT
          replace hs : hx_S T_tb [] hL1 hl1 L_14 h_15 := hs
          replace fx_1 := (hs.o (gx.S hM) trivial rfl).1.trans fx_1
          replace fq_9 := (hs.o (gx.S hM) trivial rfl).2.trans fq_9
          replace ex_10 := ex_10.trans (hs.a gq_9 rfl _).1.symm
          replace hM := hM.tr (hs.mono (by decide))
          replace gq_9 := gq_9.S hs
          have jn_114 : ∀ (xj_19 : Int32) (ls : Array Slot), 0 ≤ xj_19.toInt → xj_19.toInt ≤ 1 → lv_has ls 6 [(5, .int x_8), (4, .int x_6), (3, .int iv4_3), (2, .int iv4_2), (0, .ref x), (1, .ref v1)] → W p l e ({ frames := 1, cells := 0, slots := 0, locals := 24 }) s m ([.ref x, .ref v1] : List Value).toArray below meth c H locs 0 0 (MQ below (va_Qi (fun (r : Int32) (u : List Nat × hx_h) => (r.toInt = 0 ∨ r.toInt = 1) ∧ hx_T T_tb u.1 u.2 ∧ hx_S T_tb [] L h u.1 u.2) (hx_E T_tb (P_ty dA) (dC, dI) vwCl (hx_A L sz)) (hx_A L sz)) ([.ref x, .ref v1] : List Value).toArray s 0 0 (hx_A L sz)) (F0 m 114 ls [.int xj_19, .int x_12]) := by
            intro xj_19 ls blxj_19 buxj_19 hl
            refine lv_ior hx hb dX0_proves_114 ?_
            refine lv_topi (fun x_20 ex_20 => ?_)
            refine lv_istore_n (lv' := [(2, .int x_20), (5, .int x_8), (4, .int x_6), (3, .int iv4_3), (0, .ref x), (1, .ref v1)]) hx hb dX0_proves_115 rfl hl (by decide) rfl (fun ls hl => ?_)
            obtain ⟨x_21, ex_21⟩ : ∃ y : Int32, y = iv4_3 + Int32.ofInt 1 := ⟨_, rfl⟩
            have rg_22 := i32_r iv4_3
            have zx_21 : x_21.toInt = iv4_3.toInt + (1) := by rw [ex_21]; exact i32_add rfl (by decide) (by omega) (by omega)
            refine lv_iinc (v := x_21) (lv' := [(3, .int x_21), (2, .int x_20), (5, .int x_8), (4, .int x_6), (0, .ref x), (1, .ref v1)]) hx hb dX0_proves_116 hl (k := 3) rfl ex_21.symm (by decide) rfl (fun ls hl => ?_)
            refine lv_goto (tgt := 4) hx hb dX0_proves_119 (by decide) ?_
            exact ih4 x_20 x_21 _ _ L_14 h_15 (i32_r _).1 (i32_r _).2 (by omega) (by omega)  ls (by omega) hW hT hM   (lv_sub hl [0, 1, 4, 5] rfl)
          refine hb_if_eq (zx := r_16.toInt) (tgt := 113) hx hb rfl dX0_proves_106 (by decide) (fun c_23 => ?_) (fun c_23 => ?_)
          · skip
            refine lv_iconst (v := 0) hx hb dX0_proves_113 (by decide) ?_
            exact jn_114 (0 : Int32) ls (by decide) (by decide) hl
          · skip
            refine lv_iconst (v := 1) hx hb dX0_proves_109 (by decide) ?_
            refine lv_goto (tgt := 114) hx hb dX0_proves_110 (by decide) ?_
            exact jn_114 (1 : Int32) ls (by decide) (by decide) hl
        · refine lv_tableIn (off := 26) (tgt := 56) hx hb dX0_proves_30 (by omega) (by omega) (by rw [c_11]; rfl) (by decide) ?_
          refine lv_iload_n hx hb dX0_proves_56 rfl (lv_at hl 3 rfl) ?_
          refine lv_iconst (v := 1) hx hb dX0_proves_57 (by decide) ?_
          refine lv_ixor hx hb dX0_proves_58 ?_
          refine lv_topi (fun x_24 ex_24 => ?_)
          refine lv_istore_n (lv' := [(2, .int x_24), (5, .int x_8), (4, .int x_6), (3, .int iv4_3), (0, .ref x), (1, .ref v1)]) hx hb dX0_proves_59 rfl hl (by decide) rfl (fun ls hl => ?_)
          refine lv_goto (tgt := 116) hx hb dX0_proves_60 (by decide) ?_
          obtain ⟨x_25, ex_25⟩ : ∃ y : Int32, y = iv4_3 + Int32.ofInt 1 := ⟨_, rfl⟩
          have rg_26 := i32_r iv4_3
          have zx_25 : x_25.toInt = iv4_3.toInt + (1) := by rw [ex_25]; exact i32_add rfl (by decide) (by omega) (by omega)
          refine lv_iinc (v := x_25) (lv' := [(3, .int x_25), (2, .int x_24), (5, .int x_8), (4, .int x_6), (0, .ref x), (1, .ref v1)]) hx hb dX0_proves_116 hl (k := 3) rfl ex_25.symm (by decide) rfl (fun ls hl => ?_)
          refine lv_goto (tgt := 4) hx hb dX0_proves_119 (by decide) ?_
          exact ih4 x_24 x_25 _ _ hL1 hl1 (i32_r _).1 (i32_r _).2 (by omega) (by omega)  ls (by omega) hW hT hM   (lv_sub hl [0, 1, 4, 5] rfl)
        · refine lv_tableIn (off := 48) (tgt := 78) hx hb dX0_proves_30 (by omega) (by omega) (by rw [c_11]; rfl) (by decide) ?_
          refine lv_iload_n hx hb dX0_proves_78 rfl (lv_at hl 3 rfl) ?_
          refine lv_iconst (v := 2) hx hb dX0_proves_79 (by decide) ?_
          refine lv_ishr hx hb dX0_proves_80 ?_
          refine lv_topi (fun x_27 ex_27 => ?_)
          refine lv_iconst (v := 1) hx hb dX0_proves_81 (by decide) ?_
          refine lv_ishl hx hb dX0_proves_82 ?_
          refine lv_topi (fun x_28 ex_28 => ?_)
          refine lv_iload hx hb dX0_proves_83 (lv_at hl 1 rfl) ?_
          refine lv_ior hx hb dX0_proves_85 ?_
          refine lv_topi (fun x_29 ex_29 => ?_)
          refine lv_iload hx hb dX0_proves_86 (lv_at hl 0 rfl) ?_
          refine lv_ior hx hb dX0_proves_88 ?_
          refine lv_topi (fun x_30 ex_30 => ?_)
          refine lv_istore_n (lv' := [(2, .int x_30), (5, .int x_8), (4, .int x_6), (3, .int iv4_3), (0, .ref x), (1, .ref v1)]) hx hb dX0_proves_89 rfl hl (by decide) rfl (fun ls hl => ?_)
          refine lv_goto (tgt := 116) hx hb dX0_proves_90 (by decide) ?_
          obtain ⟨x_31, ex_31⟩ : ∃ y : Int32, y = iv4_3 + Int32.ofInt 1 := ⟨_, rfl⟩
          have rg_32 := i32_r iv4_3
          have zx_31 : x_31.toInt = iv4_3.toInt + (1) := by rw [ex_31]; exact i32_add rfl (by decide) (by omega) (by omega)
          refine lv_iinc (v := x_31) (lv' := [(3, .int x_31), (2, .int x_30), (5, .int x_8), (4, .int x_6), (0, .ref x), (1, .ref v1)]) hx hb dX0_proves_116 hl (k := 3) rfl ex_31.symm (by decide) rfl (fun ls hl => ?_)
          refine lv_goto (tgt := 4) hx hb dX0_proves_119 (by decide) ?_
          exact ih4 x_30 x_31 _ _ hL1 hl1 (i32_r _).1 (i32_r _).2 (by omega) (by omega)  ls (by omega) hW hT hM   (lv_sub hl [0, 1, 4, 5] rfl)
        · refine lv_tableIn (off := 33) (tgt := 63) hx hb dX0_proves_30 (by omega) (by omega) (by rw [c_11]; rfl) (by decide) ?_
          refine lv_iload_n hx hb dX0_proves_63 rfl (lv_at hl 3 rfl) ?_
          refine lv_iconst (v := 2) hx hb dX0_proves_64 (by decide) ?_
          refine lv_ishr hx hb dX0_proves_65 ?_
          refine lv_topi (fun x_33 ex_33 => ?_)
          refine lv_iconst (v := 1) hx hb dX0_proves_66 (by decide) ?_
          refine lv_ishl hx hb dX0_proves_67 ?_
          refine lv_topi (fun x_34 ex_34 => ?_)
          refine lv_iload hx hb dX0_proves_68 (lv_at hl 1 rfl) ?_
          refine lv_iload hx hb dX0_proves_70 (lv_at hl 0 rfl) ?_
          refine lv_iand hx hb dX0_proves_72 ?_
          refine lv_topi (fun x_35 ex_35 => ?_)
          refine lv_ior hx hb dX0_proves_73 ?_
          refine lv_topi (fun x_36 ex_36 => ?_)
          refine lv_istore_n (lv' := [(2, .int x_36), (5, .int x_8), (4, .int x_6), (3, .int iv4_3), (0, .ref x), (1, .ref v1)]) hx hb dX0_proves_74 rfl hl (by decide) rfl (fun ls hl => ?_)
          refine lv_goto (tgt := 116) hx hb dX0_proves_75 (by decide) ?_
          obtain ⟨x_37, ex_37⟩ : ∃ y : Int32, y = iv4_3 + Int32.ofInt 1 := ⟨_, rfl⟩
          have rg_38 := i32_r iv4_3
          have zx_37 : x_37.toInt = iv4_3.toInt + (1) := by rw [ex_37]; exact i32_add rfl (by decide) (by omega) (by omega)
          refine lv_iinc (v := x_37) (lv' := [(3, .int x_37), (2, .int x_36), (5, .int x_8), (4, .int x_6), (0, .ref x), (1, .ref v1)]) hx hb dX0_proves_116 hl (k := 3) rfl ex_37.symm (by decide) rfl (fun ls hl => ?_)
          refine lv_goto (tgt := 4) hx hb dX0_proves_119 (by decide) ?_
          exact ih4 x_36 x_37 _ _ hL1 hl1 (i32_r _).1 (i32_r _).2 (by omega) (by omega)  ls (by omega) hW hT hM   (lv_sub hl [0, 1, 4, 5] rfl)
  have zk_0 : (0 : Int32).toInt = 0 := by decide
  have zk_0 : (0 : Int32).toInt = 0 := by decide
  exact loop4 161 (0 : Int32) (0 : Int32) _ _ L h (by decide) (by decide) (by decide) (by decide)  ls (by omega) hW hT hM   hl

theorem dX4_isKinOf_0 : decode cX4_isKinOf 0 = .ok (.aload_n 0, 1) := by decide +kernel
theorem dX4_isKinOf_1 : decode cX4_isKinOf 1 = .ok (.aload_n 1, 1) := by decide +kernel
theorem dX4_isKinOf_2 : decode cX4_isKinOf 2 = .ok (.if_acmp .eq 22, 3) := by decide +kernel
theorem dX4_isKinOf_5 : decode cX4_isKinOf 5 = .ok (.aload_n 0, 1) := by decide +kernel
theorem dX4_isKinOf_6 : decode cX4_isKinOf 6 = .ok (.getfield 18, 3) := by decide +kernel
theorem dX4_isKinOf_9 : decode cX4_isKinOf 9 = .ok (.iconst (-1), 1) := by decide +kernel
theorem dX4_isKinOf_10 : decode cX4_isKinOf 10 = .ok (.if_icmp .eq 18, 3) := by decide +kernel
theorem dX4_isKinOf_13 : decode cX4_isKinOf 13 = .ok (.aload_n 0, 1) := by decide +kernel
theorem dX4_isKinOf_14 : decode cX4_isKinOf 14 = .ok (.getfield 18, 3) := by decide +kernel
theorem dX4_isKinOf_17 : decode cX4_isKinOf 17 = .ok (.aload_n 1, 1) := by decide +kernel
theorem dX4_isKinOf_18 : decode cX4_isKinOf 18 = .ok (.getfield 18, 3) := by decide +kernel
theorem dX4_isKinOf_21 : decode cX4_isKinOf 21 = .ok (.if_icmp .ne 7, 3) := by decide +kernel
theorem dX4_isKinOf_24 : decode cX4_isKinOf 24 = .ok (.iconst 1, 1) := by decide +kernel
theorem dX4_isKinOf_25 : decode cX4_isKinOf 25 = .ok (.goto 4, 3) := by decide +kernel
theorem dX4_isKinOf_28 : decode cX4_isKinOf 28 = .ok (.iconst 0, 1) := by decide +kernel
theorem dX4_isKinOf_29 : decode cX4_isKinOf 29 = .ok (.ireturn, 1) := by decide +kernel
set_option maxHeartbeats 4000000 in
set_option maxRecDepth 100000 in
theorem t_X4_isKinOf (l : Launch) (dC : Nat → ClassId) (dI : Nat → Nat → Nat) (dA : Nat → ClassId) (L : List Nat) (h : hx_h) (sz : Nat) (x : Nat) (v1 : Nat) (hT : hx_T T_tb L h) (gx : hx_g L h x 4) (gv1 : hx_g L h v1 4)  : Met l yX4_isKinOf (Cond.code yX4_isKinOf cX4_isKinOf 2 (some .boolean) :: hx_all) ({ frames := 0, cells := 0, slots := 0, locals := 0 }) (va_Pc [.ref x, .ref v1] (hx_B T_tb (P_ty dA) (dC, dI) vwCl L h sz)) (va_Qi (fun (r : Int32) (u : List Nat × hx_h) => (r.toInt = 0 ∨ r.toInt = 1) ∧ hx_T T_tb u.1 u.2 ∧ hx_S T_tb [] L h u.1 u.2) (hx_E T_tb (P_ty dA) (dC, dI) vwCl (hx_A L sz)) (hx_A L sz)) 0 0 (hx_A L sz) := by
  refine hx_met (lv := [(0, .ref x), (1, .ref v1)]) (by decide +kernel) rfl (Nat.le_of_ble_eq_true rfl) rfl ?_
  intro p e s m below meth c hx hb hml hr hlk hts0 hown hin hsz hW ls hl
  have hts : ∀ w ∈ hx_all, w.before _ s = true := fun w hw => hts0 w (List.mem_cons_of_mem _ hw)
  have hown : s.vm.findClass "SmallCourt$Person" = some m.cls := hown
  have hM : hx_S T_tb [] L h L h := hx_S.rf
  refine lv_aload_n hx hb dX4_isKinOf_0 rfl (lv_at hl 0 rfl) ?_
  refine lv_aload_n hx hb dX4_isKinOf_1 rfl (lv_at hl 1 rfl) ?_
  refine lv_acmp_eq (rx := (some x)) (ry := (some v1)) (tgt := 24) hx hb dX4_isKinOf_2 (by decide) (fun c_1 => ?_) (fun c_1 => ?_)
  · skip
    refine lv_iconst (v := 1) hx hb dX4_isKinOf_24 (by decide) ?_
    refine lv_goto (tgt := 29) hx hb dX4_isKinOf_25 (by decide) ?_
    exact hx_retz hx hb hr rfl hlk hW ⟨(by decide), hT, hM⟩ dX4_isKinOf_29
  · skip
    refine lv_aload_n hx hb dX4_isKinOf_5 rfl (lv_at hl 0 rfl) ?_
    refine hx_geti hx hb hts hC_4 hown hW hT (gx.S hM) tt_4 2 (by decide) rfl kw_615 ⟨rfl, rfl, rfl⟩ dX4_isKinOf_6 (fun x_2 ex_2 lx_2 ux_2 => ?_)
    have fx_2 := ex_2.symm
    refine lv_iconst (v := -1) hx hb dX4_isKinOf_9 (by decide) ?_
    refine hb_icmp_eq (zx := x_2.toInt) (zy := (-1)) (tgt := 28) hx hb rfl (by decide) dX4_isKinOf_10 (by decide) (fun c_3 => ?_) (fun c_3 => ?_)
    · skip
      refine lv_iconst (v := 0) hx hb dX4_isKinOf_28 (by decide) ?_
      exact hx_retz hx hb hr rfl hlk hW ⟨(by decide), hT, hM⟩ dX4_isKinOf_29
    · skip
      refine lv_aload_n hx hb dX4_isKinOf_13 rfl (lv_at hl 0 rfl) ?_
      refine hk_geti hx hb hts hC_4 hown hW (gx.S hM) tt_4 2 (by decide) rfl kw_615 ⟨rfl, rfl, rfl⟩ fx_2 dX4_isKinOf_14 ?_
      refine lv_aload_n hx hb dX4_isKinOf_17 rfl (lv_at hl 1 rfl) ?_
      refine hx_geti hx hb hts hC_4 hown hW hT (gv1.S hM) tt_4 2 (by decide) rfl kw_615 ⟨rfl, rfl, rfl⟩ dX4_isKinOf_18 (fun x_4 ex_4 lx_4 ux_4 => ?_)
      have fx_4 := ex_4.symm
      have jn_29 : ∀ (xj_5 : Int32) (ls : Array Slot), 0 ≤ xj_5.toInt → xj_5.toInt ≤ 1 → lv_has ls 2 [(0, .ref x), (1, .ref v1)] → W p l e ({ frames := 0, cells := 0, slots := 0, locals := 0 }) s m ([.ref x, .ref v1] : List Value).toArray below meth c s.heap [] 0 0 (MQ below (va_Qi (fun (r : Int32) (u : List Nat × hx_h) => (r.toInt = 0 ∨ r.toInt = 1) ∧ hx_T T_tb u.1 u.2 ∧ hx_S T_tb [] L h u.1 u.2) (hx_E T_tb (P_ty dA) (dC, dI) vwCl (hx_A L sz)) (hx_A L sz)) ([.ref x, .ref v1] : List Value).toArray s 0 0 (hx_A L sz)) (F0 m 29 ls [.int xj_5]) := by
        intro xj_5 ls blxj_5 buxj_5 hl
        exact hx_retz hx hb hr (hx_nar01 (by omega)) hlk hW ⟨(by omega), hT, hM⟩ dX4_isKinOf_29
      refine hb_icmp_ne (zx := x_2.toInt) (zy := x_4.toInt) (tgt := 28) hx hb rfl rfl dX4_isKinOf_21 (by decide) (fun c_6 => ?_) (fun c_6 => ?_)
      · skip
        refine lv_iconst (v := 0) hx hb dX4_isKinOf_28 (by decide) ?_
        exact jn_29 (0 : Int32) ls (by decide) (by decide) hl
      · skip
        refine lv_iconst (v := 1) hx hb dX4_isKinOf_24 (by decide) ?_
        refine lv_goto (tgt := 29) hx hb dX4_isKinOf_25 (by decide) ?_
        exact jn_29 (1 : Int32) ls (by decide) (by decide) hl

def wLX4_maySit_0 : List Nat := [42, 180, 0, 39, 153, 0, 36, 42, 180, 0, 43, 154, 0, 29, 42, 43, 180, 0, 46, 182, 0, 52, 154, 0, 18, 42, 43, 180, 0, 56, 182, 0, 52, 154, 0, 7, 4, 167, 0, 4, 3, 172]
theorem wX4_maySit_0 : (cX4_maySit.data.toList.map UInt8.toNat).drop 0 = wLX4_maySit_0 ++ ([]) := by decide +kernel
theorem dX4_maySit_0 : decode cX4_maySit 0 = .ok (.aload_n 0, 1) := dq_42 (hz_wg wX4_maySit_0 (j := 0) (n := 42) rfl)
theorem dX4_maySit_1 : decode cX4_maySit 1 = .ok (.getfield 39, 3) := dq_180 (hz_wg wX4_maySit_0 (j := 1) (n := 180) rfl) (hz_wg wX4_maySit_0 (j := 2) (n := 0) rfl) (hz_wg wX4_maySit_0 (j := 3) (n := 39) rfl) rfl
theorem dX4_maySit_4 : decode cX4_maySit 4 = .ok (.ifCond .eq 36, 3) := dq_153 (hz_wg wX4_maySit_0 (j := 4) (n := 153) rfl) (hz_wg wX4_maySit_0 (j := 5) (n := 0) rfl) (hz_wg wX4_maySit_0 (j := 6) (n := 36) rfl) (by decide)
theorem dX4_maySit_7 : decode cX4_maySit 7 = .ok (.aload_n 0, 1) := dq_42 (hz_wg wX4_maySit_0 (j := 7) (n := 42) rfl)
theorem dX4_maySit_8 : decode cX4_maySit 8 = .ok (.getfield 43, 3) := dq_180 (hz_wg wX4_maySit_0 (j := 8) (n := 180) rfl) (hz_wg wX4_maySit_0 (j := 9) (n := 0) rfl) (hz_wg wX4_maySit_0 (j := 10) (n := 43) rfl) rfl
theorem dX4_maySit_11 : decode cX4_maySit 11 = .ok (.ifCond .ne 29, 3) := dq_154 (hz_wg wX4_maySit_0 (j := 11) (n := 154) rfl) (hz_wg wX4_maySit_0 (j := 12) (n := 0) rfl) (hz_wg wX4_maySit_0 (j := 13) (n := 29) rfl) (by decide)
theorem dX4_maySit_14 : decode cX4_maySit 14 = .ok (.aload_n 0, 1) := dq_42 (hz_wg wX4_maySit_0 (j := 14) (n := 42) rfl)
theorem dX4_maySit_15 : decode cX4_maySit 15 = .ok (.aload_n 1, 1) := dq_43 (hz_wg wX4_maySit_0 (j := 15) (n := 43) rfl)
theorem dX4_maySit_16 : decode cX4_maySit 16 = .ok (.getfield 46, 3) := dq_180 (hz_wg wX4_maySit_0 (j := 16) (n := 180) rfl) (hz_wg wX4_maySit_0 (j := 17) (n := 0) rfl) (hz_wg wX4_maySit_0 (j := 18) (n := 46) rfl) rfl
theorem dX4_maySit_19 : decode cX4_maySit 19 = .ok (.invokevirtual 52, 3) := dq_182 (hz_wg wX4_maySit_0 (j := 19) (n := 182) rfl) (hz_wg wX4_maySit_0 (j := 20) (n := 0) rfl) (hz_wg wX4_maySit_0 (j := 21) (n := 52) rfl) rfl
theorem dX4_maySit_22 : decode cX4_maySit 22 = .ok (.ifCond .ne 18, 3) := dq_154 (hz_wg wX4_maySit_0 (j := 22) (n := 154) rfl) (hz_wg wX4_maySit_0 (j := 23) (n := 0) rfl) (hz_wg wX4_maySit_0 (j := 24) (n := 18) rfl) (by decide)
theorem dX4_maySit_25 : decode cX4_maySit 25 = .ok (.aload_n 0, 1) := dq_42 (hz_wg wX4_maySit_0 (j := 25) (n := 42) rfl)
theorem dX4_maySit_26 : decode cX4_maySit 26 = .ok (.aload_n 1, 1) := dq_43 (hz_wg wX4_maySit_0 (j := 26) (n := 43) rfl)
theorem dX4_maySit_27 : decode cX4_maySit 27 = .ok (.getfield 56, 3) := dq_180 (hz_wg wX4_maySit_0 (j := 27) (n := 180) rfl) (hz_wg wX4_maySit_0 (j := 28) (n := 0) rfl) (hz_wg wX4_maySit_0 (j := 29) (n := 56) rfl) rfl
theorem dX4_maySit_30 : decode cX4_maySit 30 = .ok (.invokevirtual 52, 3) := dq_182 (hz_wg wX4_maySit_0 (j := 30) (n := 182) rfl) (hz_wg wX4_maySit_0 (j := 31) (n := 0) rfl) (hz_wg wX4_maySit_0 (j := 32) (n := 52) rfl) rfl
theorem dX4_maySit_33 : decode cX4_maySit 33 = .ok (.ifCond .ne 7, 3) := dq_154 (hz_wg wX4_maySit_0 (j := 33) (n := 154) rfl) (hz_wg wX4_maySit_0 (j := 34) (n := 0) rfl) (hz_wg wX4_maySit_0 (j := 35) (n := 7) rfl) (by decide)
theorem dX4_maySit_36 : decode cX4_maySit 36 = .ok (.iconst 1, 1) := dq_4 (hz_wg wX4_maySit_0 (j := 36) (n := 4) rfl)
theorem dX4_maySit_37 : decode cX4_maySit 37 = .ok (.goto 4, 3) := dq_167 (hz_wg wX4_maySit_0 (j := 37) (n := 167) rfl) (hz_wg wX4_maySit_0 (j := 38) (n := 0) rfl) (hz_wg wX4_maySit_0 (j := 39) (n := 4) rfl) (by decide)
theorem dX4_maySit_40 : decode cX4_maySit 40 = .ok (.iconst 0, 1) := dq_3 (hz_wg wX4_maySit_0 (j := 40) (n := 3) rfl)
theorem dX4_maySit_41 : decode cX4_maySit 41 = .ok (.ireturn, 1) := dq_172 (hz_wg wX4_maySit_0 (j := 41) (n := 172) rfl)
set_option maxHeartbeats 4000000 in
set_option maxRecDepth 100000 in
theorem t_X4_maySit (l : Launch) (dC : Nat → ClassId) (dI : Nat → Nat → Nat) (dA : Nat → ClassId) (L : List Nat) (h : hx_h) (sz : Nat) (x : Nat) (v1 : Nat) (hT : hx_T T_tb L h) (gx : hx_g L h x 4) (gv1 : hx_g L h v1 2)  : Met l yX4_maySit (Cond.code yX4_maySit cX4_maySit 2 (some .boolean) :: hx_all) ({ frames := 1, cells := 0, slots := 0, locals := 21 }) (va_Pc [.ref x, .ref v1] (hx_B T_tb (P_ty dA) (dC, dI) vwCl L h sz)) (va_Qi (fun (r : Int32) (u : List Nat × hx_h) => (r.toInt = 0 ∨ r.toInt = 1) ∧ hx_T T_tb u.1 u.2 ∧ hx_S T_tb [] L h u.1 u.2) (hx_E T_tb (P_ty dA) (dC, dI) vwCl (hx_A L sz)) (hx_A L sz)) 0 0 (hx_A L sz) := by
  refine hx_met (lv := [(0, .ref x), (1, .ref v1)]) (by decide +kernel) rfl (Nat.le_of_ble_eq_true rfl) rfl ?_
  intro p e s m below meth c hx hb hml hr hlk hts0 hown hin hsz hW ls hl
  have hts : ∀ w ∈ hx_all, w.before _ s = true := fun w hw => hts0 w (List.mem_cons_of_mem _ hw)
  have hown : s.vm.findClass "SmallCourt$Person" = some m.cls := hown
  have hM : hx_S T_tb [] L h L h := hx_S.rf
  refine lv_aload_n hx hb dX4_maySit_0 rfl (lv_at hl 0 rfl) ?_
  refine hx_geti hx hb hts hC_4 hown hW hT (gx.S hM) tt_4 8 (by decide) rfl kw_624 ⟨rfl, rfl, rfl⟩ dX4_maySit_1 (fun x_1 ex_1 lx_1 ux_1 => ?_)
  have fx_1 := ex_1.symm
  refine hb_if_eq (zx := x_1.toInt) (tgt := 40) hx hb rfl dX4_maySit_4 (by decide) (fun c_2 => ?_) (fun c_2 => ?_)
  · skip
    refine lv_iconst (v := 0) hx hb dX4_maySit_40 (by decide) ?_
    exact hx_retz hx hb hr rfl hlk hW ⟨(by decide), hT, hM⟩ dX4_maySit_41
  · skip
    refine lv_aload_n hx hb dX4_maySit_7 rfl (lv_at hl 0 rfl) ?_
    refine hx_geti hx hb hts hC_4 hown hW hT (gx.S hM) tt_4 7 (by decide) rfl kw_622 ⟨rfl, rfl, rfl⟩ dX4_maySit_8 (fun x_3 ex_3 lx_3 ux_3 => ?_)
    have fx_3 := ex_3.symm
    refine hb_if_ne (zx := x_3.toInt) (tgt := 40) hx hb rfl dX4_maySit_11 (by decide) (fun c_4 => ?_) (fun c_4 => ?_)
    · skip
      refine lv_iconst (v := 0) hx hb dX4_maySit_40 (by decide) ?_
      exact hx_retz hx hb hr rfl hlk hW ⟨(by decide), hT, hM⟩ dX4_maySit_41
    · skip
      refine lv_aload_n hx hb dX4_maySit_14 rfl (lv_at hl 0 rfl) ?_
      refine lv_aload_n hx hb dX4_maySit_15 rfl (lv_at hl 1 rfl) ?_
      refine hx_getn hx hb hts hC_2 hown hW hT (gv1.S hM) tt_2 1 (by decide) rfl kw_726 ⟨rfl, rfl, rfl⟩ dX4_maySit_16 (fun q_5 fq_5 gq_5 => ?_)
      refine hx_goi (hx_runV (As := [.ref q_5]) (rest := []) ⟨hx, hb, hml, hown, hts⟩ hW (gx.S hM) tt_4 (T := TX4) (N := 10) rfl (t_X4_isKinOf l dC dI dA L h s.heap.size x q_5 hT (gx.S hM) gq_5) (cwV 1 hts (hx_gV kw_826 kw_823 kw_825 kw_27 kw_108) rfl rfl rfl (by decide +kernel) ⟨Nat.le_of_ble_eq_true rfl, Nat.le_of_ble_eq_true rfl⟩) rfl hl.1 rfl (Nat.le_of_ble_eq_true rfl) dX4_maySit_19 ⟨Nat.le_of_ble_eq_true rfl, Nat.le_of_ble_eq_true rfl⟩) hW (fun r_8 L_6 h_7 H locs p_9 hW => ?_)
      obtain ⟨hr_10, hT, hs⟩ := p_9
      replace hT : hx_T T_tb L_6 h_7 := hT
      replace hs : hx_S T_tb [] L h L_6 h_7 := hs
      replace fx_1 := (hs.o (gx.S hM) trivial rfl).1.trans fx_1
      replace fx_3 := (hs.o (gx.S hM) trivial rfl).1.trans fx_3
      replace fq_5 := (hs.o (gv1.S hM) trivial rfl).2.trans fq_5
      replace hM := hM.tr (hs.mono (by decide))
      replace gq_5 := gq_5.S hs
      refine hb_if_ne (zx := r_8.toInt) (tgt := 40) hx hb rfl dX4_maySit_22 (by decide) (fun c_11 => ?_) (fun c_11 => ?_)
      · skip
        refine lv_iconst (v := 0) hx hb dX4_maySit_40 (by decide) ?_
        exact hx_retz hx hb hr rfl hlk hW ⟨(by decide), hT, hM⟩ dX4_maySit_41
      · skip
        refine lv_aload_n hx hb dX4_maySit_25 rfl (lv_at hl 0 rfl) ?_
        refine lv_aload_n hx hb dX4_maySit_26 rfl (lv_at hl 1 rfl) ?_
        refine hx_getn hx hb hts hC_2 hown hW hT (gv1.S hM) tt_2 2 (by decide) rfl kw_730 ⟨rfl, rfl, rfl⟩ dX4_maySit_27 (fun q_12 fq_12 gq_12 => ?_)
        refine hx_goi (hx_runV (As := [.ref q_12]) (rest := []) ⟨hx, hb, hml, hown, hts⟩ hW (gx.S hM) tt_4 (T := TX4) (N := 10) rfl (t_X4_isKinOf l dC dI dA L_6 h_7 H.size x q_12 hT (gx.S hM) gq_12) (cwV 1 hts (hx_gV kw_826 kw_823 kw_825 kw_27 kw_108) rfl rfl rfl (by decide +kernel) ⟨Nat.le_of_ble_eq_true rfl, Nat.le_of_ble_eq_true rfl⟩) rfl hl.1 rfl (Nat.le_of_ble_eq_true rfl) dX4_maySit_30 ⟨Nat.le_of_ble_eq_true rfl, Nat.le_of_ble_eq_true rfl⟩) hW (fun r_15 L_13 h_14 H locs p_16 hW => ?_)
        obtain ⟨hr_17, hT, hs⟩ := p_16
        replace hT : hx_T T_tb L_13 h_14 := hT
        replace hs : hx_S T_tb [] L_6 h_7 L_13 h_14 := hs
        replace fx_1 := (hs.o (gx.S hM) trivial rfl).1.trans fx_1
        replace fx_3 := (hs.o (gx.S hM) trivial rfl).1.trans fx_3
        replace fq_5 := (hs.o (gv1.S hM) trivial rfl).2.trans fq_5
        replace fq_12 := (hs.o (gv1.S hM) trivial rfl).2.trans fq_12
        replace hM := hM.tr (hs.mono (by decide))
        replace gq_5 := gq_5.S hs
        replace gq_12 := gq_12.S hs
        have jn_41 : ∀ (xj_18 : Int32) (ls : Array Slot), 0 ≤ xj_18.toInt → xj_18.toInt ≤ 1 → lv_has ls 2 [(0, .ref x), (1, .ref v1)] → W p l e ({ frames := 1, cells := 0, slots := 0, locals := 21 }) s m ([.ref x, .ref v1] : List Value).toArray below meth c H locs 0 0 (MQ below (va_Qi (fun (r : Int32) (u : List Nat × hx_h) => (r.toInt = 0 ∨ r.toInt = 1) ∧ hx_T T_tb u.1 u.2 ∧ hx_S T_tb [] L h u.1 u.2) (hx_E T_tb (P_ty dA) (dC, dI) vwCl (hx_A L sz)) (hx_A L sz)) ([.ref x, .ref v1] : List Value).toArray s 0 0 (hx_A L sz)) (F0 m 41 ls [.int xj_18]) := by
          intro xj_18 ls blxj_18 buxj_18 hl
          exact hx_retz hx hb hr (hx_nar01 (by omega)) hlk hW ⟨(by omega), hT, hM⟩ dX4_maySit_41
        refine hb_if_ne (zx := r_15.toInt) (tgt := 40) hx hb rfl dX4_maySit_33 (by decide) (fun c_19 => ?_) (fun c_19 => ?_)
        · skip
          refine lv_iconst (v := 0) hx hb dX4_maySit_40 (by decide) ?_
          exact jn_41 (0 : Int32) ls (by decide) (by decide) hl
        · skip
          refine lv_iconst (v := 1) hx hb dX4_maySit_36 (by decide) ?_
          refine lv_goto (tgt := 41) hx hb dX4_maySit_37 (by decide) ?_
          exact jn_41 (1 : Int32) ls (by decide) (by decide) hl

def wLX9_inForce_0 : List Nat := [42, 180, 0, 25, 77, 3, 62, 29, 42, 180, 0, 105, 162, 0, 45, 42, 180, 0, 29, 29, 50, 180, 0, 122, 27, 163, 0, 26, 42, 180, 0, 29, 29, 50, 180, 0, 122, 44, 180, 0, 122, 161, 0, 10, 42, 180, 0, 29, 29, 50, 77, 132, 3, 1, 167, 255, 209, 44, 176]
theorem wX9_inForce_0 : (cX9_inForce.data.toList.map UInt8.toNat).drop 0 = wLX9_inForce_0 ++ ([]) := by decide +kernel
theorem dX9_inForce_0 : decode cX9_inForce 0 = .ok (.aload_n 0, 1) := dq_42 (hz_wg wX9_inForce_0 (j := 0) (n := 42) rfl)
theorem dX9_inForce_1 : decode cX9_inForce 1 = .ok (.getfield 25, 3) := dq_180 (hz_wg wX9_inForce_0 (j := 1) (n := 180) rfl) (hz_wg wX9_inForce_0 (j := 2) (n := 0) rfl) (hz_wg wX9_inForce_0 (j := 3) (n := 25) rfl) rfl
theorem dX9_inForce_4 : decode cX9_inForce 4 = .ok (.astore_n 2, 1) := dq_77 (hz_wg wX9_inForce_0 (j := 4) (n := 77) rfl)
theorem dX9_inForce_5 : decode cX9_inForce 5 = .ok (.iconst 0, 1) := dq_3 (hz_wg wX9_inForce_0 (j := 5) (n := 3) rfl)
theorem dX9_inForce_6 : decode cX9_inForce 6 = .ok (.istore_n 3, 1) := dq_62 (hz_wg wX9_inForce_0 (j := 6) (n := 62) rfl)
theorem dX9_inForce_7 : decode cX9_inForce 7 = .ok (.iload_n 3, 1) := dq_29 (hz_wg wX9_inForce_0 (j := 7) (n := 29) rfl)
theorem dX9_inForce_8 : decode cX9_inForce 8 = .ok (.aload_n 0, 1) := dq_42 (hz_wg wX9_inForce_0 (j := 8) (n := 42) rfl)
theorem dX9_inForce_9 : decode cX9_inForce 9 = .ok (.getfield 105, 3) := dq_180 (hz_wg wX9_inForce_0 (j := 9) (n := 180) rfl) (hz_wg wX9_inForce_0 (j := 10) (n := 0) rfl) (hz_wg wX9_inForce_0 (j := 11) (n := 105) rfl) rfl
theorem dX9_inForce_12 : decode cX9_inForce 12 = .ok (.if_icmp .ge 45, 3) := dq_162 (hz_wg wX9_inForce_0 (j := 12) (n := 162) rfl) (hz_wg wX9_inForce_0 (j := 13) (n := 0) rfl) (hz_wg wX9_inForce_0 (j := 14) (n := 45) rfl) (by decide)
theorem dX9_inForce_15 : decode cX9_inForce 15 = .ok (.aload_n 0, 1) := dq_42 (hz_wg wX9_inForce_0 (j := 15) (n := 42) rfl)
theorem dX9_inForce_16 : decode cX9_inForce 16 = .ok (.getfield 29, 3) := dq_180 (hz_wg wX9_inForce_0 (j := 16) (n := 180) rfl) (hz_wg wX9_inForce_0 (j := 17) (n := 0) rfl) (hz_wg wX9_inForce_0 (j := 18) (n := 29) rfl) rfl
theorem dX9_inForce_19 : decode cX9_inForce 19 = .ok (.iload_n 3, 1) := dq_29 (hz_wg wX9_inForce_0 (j := 19) (n := 29) rfl)
theorem dX9_inForce_20 : decode cX9_inForce 20 = .ok (.aaload, 1) := dq_50 (hz_wg wX9_inForce_0 (j := 20) (n := 50) rfl)
theorem dX9_inForce_21 : decode cX9_inForce 21 = .ok (.getfield 122, 3) := dq_180 (hz_wg wX9_inForce_0 (j := 21) (n := 180) rfl) (hz_wg wX9_inForce_0 (j := 22) (n := 0) rfl) (hz_wg wX9_inForce_0 (j := 23) (n := 122) rfl) rfl
theorem dX9_inForce_24 : decode cX9_inForce 24 = .ok (.iload_n 1, 1) := dq_27 (hz_wg wX9_inForce_0 (j := 24) (n := 27) rfl)
theorem dX9_inForce_25 : decode cX9_inForce 25 = .ok (.if_icmp .gt 26, 3) := dq_163 (hz_wg wX9_inForce_0 (j := 25) (n := 163) rfl) (hz_wg wX9_inForce_0 (j := 26) (n := 0) rfl) (hz_wg wX9_inForce_0 (j := 27) (n := 26) rfl) (by decide)
theorem dX9_inForce_28 : decode cX9_inForce 28 = .ok (.aload_n 0, 1) := dq_42 (hz_wg wX9_inForce_0 (j := 28) (n := 42) rfl)
theorem dX9_inForce_29 : decode cX9_inForce 29 = .ok (.getfield 29, 3) := dq_180 (hz_wg wX9_inForce_0 (j := 29) (n := 180) rfl) (hz_wg wX9_inForce_0 (j := 30) (n := 0) rfl) (hz_wg wX9_inForce_0 (j := 31) (n := 29) rfl) rfl
theorem dX9_inForce_32 : decode cX9_inForce 32 = .ok (.iload_n 3, 1) := dq_29 (hz_wg wX9_inForce_0 (j := 32) (n := 29) rfl)
theorem dX9_inForce_33 : decode cX9_inForce 33 = .ok (.aaload, 1) := dq_50 (hz_wg wX9_inForce_0 (j := 33) (n := 50) rfl)
theorem dX9_inForce_34 : decode cX9_inForce 34 = .ok (.getfield 122, 3) := dq_180 (hz_wg wX9_inForce_0 (j := 34) (n := 180) rfl) (hz_wg wX9_inForce_0 (j := 35) (n := 0) rfl) (hz_wg wX9_inForce_0 (j := 36) (n := 122) rfl) rfl
theorem dX9_inForce_37 : decode cX9_inForce 37 = .ok (.aload_n 2, 1) := dq_44 (hz_wg wX9_inForce_0 (j := 37) (n := 44) rfl)
theorem dX9_inForce_38 : decode cX9_inForce 38 = .ok (.getfield 122, 3) := dq_180 (hz_wg wX9_inForce_0 (j := 38) (n := 180) rfl) (hz_wg wX9_inForce_0 (j := 39) (n := 0) rfl) (hz_wg wX9_inForce_0 (j := 40) (n := 122) rfl) rfl
theorem dX9_inForce_41 : decode cX9_inForce 41 = .ok (.if_icmp .lt 10, 3) := dq_161 (hz_wg wX9_inForce_0 (j := 41) (n := 161) rfl) (hz_wg wX9_inForce_0 (j := 42) (n := 0) rfl) (hz_wg wX9_inForce_0 (j := 43) (n := 10) rfl) (by decide)
theorem dX9_inForce_44 : decode cX9_inForce 44 = .ok (.aload_n 0, 1) := dq_42 (hz_wg wX9_inForce_0 (j := 44) (n := 42) rfl)
theorem dX9_inForce_45 : decode cX9_inForce 45 = .ok (.getfield 29, 3) := dq_180 (hz_wg wX9_inForce_0 (j := 45) (n := 180) rfl) (hz_wg wX9_inForce_0 (j := 46) (n := 0) rfl) (hz_wg wX9_inForce_0 (j := 47) (n := 29) rfl) rfl
theorem dX9_inForce_48 : decode cX9_inForce 48 = .ok (.iload_n 3, 1) := dq_29 (hz_wg wX9_inForce_0 (j := 48) (n := 29) rfl)
theorem dX9_inForce_49 : decode cX9_inForce 49 = .ok (.aaload, 1) := dq_50 (hz_wg wX9_inForce_0 (j := 49) (n := 50) rfl)
theorem dX9_inForce_50 : decode cX9_inForce 50 = .ok (.astore_n 2, 1) := dq_77 (hz_wg wX9_inForce_0 (j := 50) (n := 77) rfl)
theorem dX9_inForce_51 : decode cX9_inForce 51 = .ok (.iinc 3 1, 3) := dq_132 (hz_wg wX9_inForce_0 (j := 51) (n := 132) rfl) (hz_wg wX9_inForce_0 (j := 52) (n := 3) rfl) (hz_wg wX9_inForce_0 (j := 53) (n := 1) rfl) (by decide)
theorem dX9_inForce_54 : decode cX9_inForce 54 = .ok (.goto (-47), 3) := dq_167 (hz_wg wX9_inForce_0 (j := 54) (n := 167) rfl) (hz_wg wX9_inForce_0 (j := 55) (n := 255) rfl) (hz_wg wX9_inForce_0 (j := 56) (n := 209) rfl) (by decide)
theorem dX9_inForce_57 : decode cX9_inForce 57 = .ok (.aload_n 2, 1) := dq_44 (hz_wg wX9_inForce_0 (j := 57) (n := 44) rfl)
theorem dX9_inForce_58 : decode cX9_inForce 58 = .ok (.areturn, 1) := dq_176 (hz_wg wX9_inForce_0 (j := 58) (n := 176) rfl)
set_option maxHeartbeats 4000000 in
set_option maxRecDepth 100000 in
theorem t_X9_inForce (l : Launch) (dC : Nat → ClassId) (dI : Nat → Nat → Nat) (dA : Nat → ClassId) (L : List Nat) (h : hx_h) (sz : Nat) (x : Nat) (i1 : Int32) (hT : hx_T T_tb L h) (gx : hx_g L h x 9) (qa : Nat) (gqa : hx_g L h qa 43) (f_x_5 : h.2.2 x 5 = some qa) (pf_x_6 : ∀ j : Nat, (j : Int) < (h.2.1 x 6).toInt → h.2.2 qa j ≠ none) : Met l yX9_inForce (Cond.code yX9_inForce cX9_inForce 4 (some (.object "SmallCourt$Act")) :: hx_all) ({ frames := 0, cells := 0, slots := 0, locals := 0 }) (va_Pc [.ref x, .int i1] (hx_B T_tb (P_ty dA) (dC, dI) vwCl L h sz)) (va_Qq (fun (r : Option Nat) (u : List Nat × hx_h) => ((∃ q, r = some q ∧ hx_g u.1 u.2 q 0)) ∧ hx_T T_tb u.1 u.2 ∧ hx_S T_tb [] L h u.1 u.2) (hx_E T_tb (P_ty dA) (dC, dI) vwCl (hx_A L sz)) (hx_A L sz)) 0 0 (hx_A L sz) := by
  refine hx_met (lv := [(0, .ref x), (1, .int i1)]) (by decide +kernel) rfl (Nat.le_of_ble_eq_true rfl) rfl ?_
  intro p e s m below meth c hx hb hml hr hlk hts0 hown hin hsz hW ls hl
  have hts : ∀ w ∈ hx_all, w.before _ s = true := fun w hw => hts0 w (List.mem_cons_of_mem _ hw)
  have hown : s.vm.findClass "SmallCourt" = some m.cls := hown
  have hM : hx_S T_tb [] L h L h := hx_S.rf
  refine lv_aload_n hx hb dX9_inForce_0 rfl (lv_at hl 0 rfl) ?_
  refine hx_getn hx hb hts hC_9 hown hW hT (gx.S hM) tt_9 4 (by decide) rfl kw_368 ⟨rfl, rfl, rfl⟩ dX9_inForce_1 (fun q_1 fq_1 gq_1 => ?_)
  refine lv_astore_n (lv' := [(2, .ref q_1), (0, .ref x), (1, .int i1)]) hx hb dX9_inForce_4 rfl hl (by decide) rfl (fun ls hl => ?_)
  refine lv_iconst (v := 0) hx hb dX9_inForce_5 (by decide) ?_
  refine lv_istore_n (lv' := [(3, .int (0 : Int32)), (2, .ref q_1), (0, .ref x), (1, .int i1)]) hx hb dX9_inForce_6 rfl hl (by decide) rfl (fun ls hl => ?_)
  have loop7 : ∀ (n7 : Nat) (iv7_3 : Int32) (iv7_2 : Nat) (H : Heap) (locs : List Loc) (hL1 : List Nat) (hl1 : hx_h), 0 ≤ iv7_3.toInt → iv7_3.toInt ≤ 8 → ∀ (ls : Array Slot), 8 - iv7_3.toInt < (n7 : Int) → hx_W T_tb (P_ty dA) (dC, dI) vwCl (hx_A L sz) s.heap hL1 hl1 s H locs → hx_T T_tb hL1 hl1 → hx_S T_tb [] L h hL1 hl1 → hl1.2.2 x 4 = some q_1 → hx_g hL1 hl1 iv7_2 0 → hx_g hL1 hl1 q_1 0 → (∀ j : Nat, (j : Int) < (hl1.2.1 x 6).toInt → hl1.2.2 qa j ≠ none) → lv_has ls 4 [(3, .int iv7_3), (2, .ref iv7_2), (0, .ref x), (1, .int i1)] → W p l e ({ frames := 0, cells := 0, slots := 0, locals := 0 }) s m ([.ref x, .int i1] : List Value).toArray below meth c H locs 0 0 (MQ below (va_Qq (fun (r : Option Nat) (u : List Nat × hx_h) => ((∃ q, r = some q ∧ hx_g u.1 u.2 q 0)) ∧ hx_T T_tb u.1 u.2 ∧ hx_S T_tb [] L h u.1 u.2) (hx_E T_tb (P_ty dA) (dC, dI) vwCl (hx_A L sz)) (hx_A L sz)) ([.ref x, .int i1] : List Value).toArray s 0 0 (hx_A L sz)) (F0 m 7 ls []) := by
    intro n7
    induction n7 with
    | zero => intro iv7_3 iv7_2 H locs hL1 hl1 bliv7_3 buiv7_3  ls hn7; exfalso; omega
    | succ n7 ih7 =>
      intro iv7_3 iv7_2 H locs hL1 hl1 bliv7_3 buiv7_3  ls hn7 hW hT hM fq_1 giv7_2 gq_1 pf_x_6 hl
      refine lv_iload_n hx hb dX9_inForce_7 rfl (lv_at hl 0 rfl) ?_
      refine lv_aload_n hx hb dX9_inForce_8 rfl (lv_at hl 2 rfl) ?_
      refine hx_geti hx hb hts hC_9 hown hW hT (gx.S hM) tt_9 6 (by decide) rfl kw_370 ⟨rfl, rfl, rfl⟩ dX9_inForce_9 (fun x_2 ex_2 lx_2 ux_2 => ?_)
      have fx_2 := ex_2.symm
      refine hb_icmp_ge (zx := iv7_3.toInt) (zy := x_2.toInt) (tgt := 57) hx hb rfl rfl dX9_inForce_12 (by decide) (fun c_3 => ?_) (fun c_3 => ?_)
      · skip
        refine lv_aload_n hx hb dX9_inForce_57 rfl (lv_at hl 1 rfl) ?_
        exact hx_retq (v := (some iv7_2)) hx hb hr (Or.inl ⟨_, rfl⟩) hlk hW ⟨⟨_, rfl, giv7_2⟩, hT, hM⟩ dX9_inForce_58
      · skip
        refine lv_aload_n hx hb dX9_inForce_15 rfl (lv_at hl 2 rfl) ?_
        refine hk_getr hx hb hts hC_9 hown hW (gx.S hM) tt_9 5 (by decide) rfl kw_369 ⟨rfl, rfl, rfl⟩ ((hM.o gx trivial rfl).2.trans f_x_5) dX9_inForce_16 ?_
        refine lv_iload_n hx hb dX9_inForce_19 rfl (lv_at hl 0 rfl) ?_
        refine hx_aaldN hx hb hW hT (gqa.S hM) tt_43 (t1 := 0) rfl ⟨by omega, by omega⟩ (pf_x_6 _ (by rw [fx_2]; exact hx_tnI (by omega) (by omega))) dX9_inForce_20 (fun q_4 fq_4 gq_4 => ?_)
        refine hx_geti hx hb hts hC_0 hown hW hT gq_4 tt_0 1 (by decide) rfl kw_165 ⟨rfl, rfl, rfl⟩ dX9_inForce_21 (fun x_5 ex_5 lx_5 ux_5 => ?_)
        have fx_5 := ex_5.symm
        refine lv_iload_n hx hb dX9_inForce_24 rfl (lv_at hl 3 rfl) ?_
        refine hb_icmp_gt (zx := x_5.toInt) (zy := i1.toInt) (tgt := 51) hx hb rfl rfl dX9_inForce_25 (by decide) (fun c_6 => ?_) (fun c_6 => ?_)
        · skip
          obtain ⟨x_7, ex_7⟩ : ∃ y : Int32, y = iv7_3 + Int32.ofInt 1 := ⟨_, rfl⟩
          have rg_8 := i32_r iv7_3
          have zx_7 : x_7.toInt = iv7_3.toInt + (1) := by rw [ex_7]; exact i32_add rfl (by decide) (by omega) (by omega)
          refine lv_iinc (v := x_7) (lv' := [(3, .int x_7), (2, .ref iv7_2), (0, .ref x), (1, .int i1)]) hx hb dX9_inForce_51 hl (k := 0) rfl ex_7.symm (by decide) rfl (fun ls hl => ?_)
          refine lv_goto (tgt := 7) hx hb dX9_inForce_54 (by decide) ?_
          exact ih7 x_7 iv7_2 _ _ hL1 hl1 (by omega) (by omega)  ls (by omega) hW hT hM fq_1 giv7_2 gq_1 pf_x_6 (lv_sub hl [0, 1, 2, 3] rfl)
        · skip
          refine lv_aload_n hx hb dX9_inForce_28 rfl (lv_at hl 2 rfl) ?_
          refine hk_getr hx hb hts hC_9 hown hW (gx.S hM) tt_9 5 (by decide) rfl kw_369 ⟨rfl, rfl, rfl⟩ ((hM.o gx trivial rfl).2.trans f_x_5) dX9_inForce_29 ?_
          refine lv_iload_n hx hb dX9_inForce_32 rfl (lv_at hl 0 rfl) ?_
          refine hx_aaldN hx hb hW hT (gqa.S hM) tt_43 (t1 := 0) rfl ⟨by omega, by omega⟩ (pf_x_6 _ (by rw [fx_2]; exact hx_tnI (by omega) (by omega))) dX9_inForce_33 (fun q_9 fq_9 gq_9 => ?_)
          refine hx_geti hx hb hts hC_0 hown hW hT gq_9 tt_0 1 (by decide) rfl kw_165 ⟨rfl, rfl, rfl⟩ dX9_inForce_34 (fun x_10 ex_10 lx_10 ux_10 => ?_)
          have fx_10 := ex_10.symm
          refine lv_aload_n hx hb dX9_inForce_37 rfl (lv_at hl 1 rfl) ?_
          refine hx_geti hx hb hts hC_0 hown hW hT giv7_2 tt_0 1 (by decide) rfl kw_165 ⟨rfl, rfl, rfl⟩ dX9_inForce_38 (fun x_11 ex_11 lx_11 ux_11 => ?_)
          have fx_11 := ex_11.symm
          refine hb_icmp_lt (zx := x_10.toInt) (zy := x_11.toInt) (tgt := 51) hx hb rfl rfl dX9_inForce_41 (by decide) (fun c_12 => ?_) (fun c_12 => ?_)
          · skip
            obtain ⟨x_13, ex_13⟩ : ∃ y : Int32, y = iv7_3 + Int32.ofInt 1 := ⟨_, rfl⟩
            have rg_14 := i32_r iv7_3
            have zx_13 : x_13.toInt = iv7_3.toInt + (1) := by rw [ex_13]; exact i32_add rfl (by decide) (by omega) (by omega)
            refine lv_iinc (v := x_13) (lv' := [(3, .int x_13), (2, .ref iv7_2), (0, .ref x), (1, .int i1)]) hx hb dX9_inForce_51 hl (k := 0) rfl ex_13.symm (by decide) rfl (fun ls hl => ?_)
            refine lv_goto (tgt := 7) hx hb dX9_inForce_54 (by decide) ?_
            exact ih7 x_13 iv7_2 _ _ hL1 hl1 (by omega) (by omega)  ls (by omega) hW hT hM fq_1 giv7_2 gq_1 pf_x_6 (lv_sub hl [0, 1, 2, 3] rfl)
          · skip
            refine lv_aload_n hx hb dX9_inForce_44 rfl (lv_at hl 2 rfl) ?_
            refine hk_getr hx hb hts hC_9 hown hW (gx.S hM) tt_9 5 (by decide) rfl kw_369 ⟨rfl, rfl, rfl⟩ ((hM.o gx trivial rfl).2.trans f_x_5) dX9_inForce_45 ?_
            refine lv_iload_n hx hb dX9_inForce_48 rfl (lv_at hl 0 rfl) ?_
            refine hx_aaldN hx hb hW hT (gqa.S hM) tt_43 (t1 := 0) rfl ⟨by omega, by omega⟩ (pf_x_6 _ (by rw [fx_2]; exact hx_tnI (by omega) (by omega))) dX9_inForce_49 (fun q_15 fq_15 gq_15 => ?_)
            refine lv_astore_n (lv' := [(2, .ref q_15), (3, .int iv7_3), (0, .ref x), (1, .int i1)]) hx hb dX9_inForce_50 rfl hl (by decide) rfl (fun ls hl => ?_)
            obtain ⟨x_16, ex_16⟩ : ∃ y : Int32, y = iv7_3 + Int32.ofInt 1 := ⟨_, rfl⟩
            have rg_17 := i32_r iv7_3
            have zx_16 : x_16.toInt = iv7_3.toInt + (1) := by rw [ex_16]; exact i32_add rfl (by decide) (by omega) (by omega)
            refine lv_iinc (v := x_16) (lv' := [(3, .int x_16), (2, .ref q_15), (0, .ref x), (1, .int i1)]) hx hb dX9_inForce_51 hl (k := 1) rfl ex_16.symm (by decide) rfl (fun ls hl => ?_)
            refine lv_goto (tgt := 7) hx hb dX9_inForce_54 (by decide) ?_
            exact ih7 x_16 q_15 _ _ hL1 hl1 (by omega) (by omega)  ls (by omega) hW hT hM fq_1 gq_15 gq_1 pf_x_6 (lv_sub hl [0, 1, 2, 3] rfl)
  have zk_0 : (0 : Int32).toInt = 0 := by decide
  exact loop7 9 (0 : Int32) q_1 _ _ L h (by decide) (by decide)  ls (by omega) hW hT hM fq_1 gq_1 gq_1 pf_x_6 hl

def wLX9_force_0 : List Nat := [27, 184, 0, 90, 153, 0, 13, 28, 155, 0, 9, 28, 16, 14, 161, 0, 5, 2, 172, 42, 27, 182, 0, 115, 78, 28, 154, 0, 10, 45, 180, 0, 112, 167, 0, 9, 45, 180, 0, 119, 28, 46, 172]
theorem wX9_force_0 : (cX9_force.data.toList.map UInt8.toNat).drop 0 = wLX9_force_0 ++ ([]) := by decide +kernel
theorem dX9_force_0 : decode cX9_force 0 = .ok (.iload_n 1, 1) := dq_27 (hz_wg wX9_force_0 (j := 0) (n := 27) rfl)
theorem dX9_force_1 : decode cX9_force 1 = .ok (.invokestatic 90, 3) := dq_184 (hz_wg wX9_force_0 (j := 1) (n := 184) rfl) (hz_wg wX9_force_0 (j := 2) (n := 0) rfl) (hz_wg wX9_force_0 (j := 3) (n := 90) rfl) rfl
theorem dX9_force_4 : decode cX9_force 4 = .ok (.ifCond .eq 13, 3) := dq_153 (hz_wg wX9_force_0 (j := 4) (n := 153) rfl) (hz_wg wX9_force_0 (j := 5) (n := 0) rfl) (hz_wg wX9_force_0 (j := 6) (n := 13) rfl) (by decide)
theorem dX9_force_7 : decode cX9_force 7 = .ok (.iload_n 2, 1) := dq_28 (hz_wg wX9_force_0 (j := 7) (n := 28) rfl)
theorem dX9_force_8 : decode cX9_force 8 = .ok (.ifCond .lt 9, 3) := dq_155 (hz_wg wX9_force_0 (j := 8) (n := 155) rfl) (hz_wg wX9_force_0 (j := 9) (n := 0) rfl) (hz_wg wX9_force_0 (j := 10) (n := 9) rfl) (by decide)
theorem dX9_force_11 : decode cX9_force 11 = .ok (.iload_n 2, 1) := dq_28 (hz_wg wX9_force_0 (j := 11) (n := 28) rfl)
theorem dX9_force_12 : decode cX9_force 12 = .ok (.bipush 14, 2) := dq_16 (hz_wg wX9_force_0 (j := 12) (n := 16) rfl) (hz_wg wX9_force_0 (j := 13) (n := 14) rfl) (by decide)
theorem dX9_force_14 : decode cX9_force 14 = .ok (.if_icmp .lt 5, 3) := dq_161 (hz_wg wX9_force_0 (j := 14) (n := 161) rfl) (hz_wg wX9_force_0 (j := 15) (n := 0) rfl) (hz_wg wX9_force_0 (j := 16) (n := 5) rfl) (by decide)
theorem dX9_force_17 : decode cX9_force 17 = .ok (.iconst (-1), 1) := dq_2 (hz_wg wX9_force_0 (j := 17) (n := 2) rfl)
theorem dX9_force_18 : decode cX9_force 18 = .ok (.ireturn, 1) := dq_172 (hz_wg wX9_force_0 (j := 18) (n := 172) rfl)
theorem dX9_force_19 : decode cX9_force 19 = .ok (.aload_n 0, 1) := dq_42 (hz_wg wX9_force_0 (j := 19) (n := 42) rfl)
theorem dX9_force_20 : decode cX9_force 20 = .ok (.iload_n 1, 1) := dq_27 (hz_wg wX9_force_0 (j := 20) (n := 27) rfl)
theorem dX9_force_21 : decode cX9_force 21 = .ok (.invokevirtual 115, 3) := dq_182 (hz_wg wX9_force_0 (j := 21) (n := 182) rfl) (hz_wg wX9_force_0 (j := 22) (n := 0) rfl) (hz_wg wX9_force_0 (j := 23) (n := 115) rfl) rfl
theorem dX9_force_24 : decode cX9_force 24 = .ok (.astore_n 3, 1) := dq_78 (hz_wg wX9_force_0 (j := 24) (n := 78) rfl)
theorem dX9_force_25 : decode cX9_force 25 = .ok (.iload_n 2, 1) := dq_28 (hz_wg wX9_force_0 (j := 25) (n := 28) rfl)
theorem dX9_force_26 : decode cX9_force 26 = .ok (.ifCond .ne 10, 3) := dq_154 (hz_wg wX9_force_0 (j := 26) (n := 154) rfl) (hz_wg wX9_force_0 (j := 27) (n := 0) rfl) (hz_wg wX9_force_0 (j := 28) (n := 10) rfl) (by decide)
theorem dX9_force_29 : decode cX9_force 29 = .ok (.aload_n 3, 1) := dq_45 (hz_wg wX9_force_0 (j := 29) (n := 45) rfl)
theorem dX9_force_30 : decode cX9_force 30 = .ok (.getfield 112, 3) := dq_180 (hz_wg wX9_force_0 (j := 30) (n := 180) rfl) (hz_wg wX9_force_0 (j := 31) (n := 0) rfl) (hz_wg wX9_force_0 (j := 32) (n := 112) rfl) rfl
theorem dX9_force_33 : decode cX9_force 33 = .ok (.goto 9, 3) := dq_167 (hz_wg wX9_force_0 (j := 33) (n := 167) rfl) (hz_wg wX9_force_0 (j := 34) (n := 0) rfl) (hz_wg wX9_force_0 (j := 35) (n := 9) rfl) (by decide)
theorem dX9_force_36 : decode cX9_force 36 = .ok (.aload_n 3, 1) := dq_45 (hz_wg wX9_force_0 (j := 36) (n := 45) rfl)
theorem dX9_force_37 : decode cX9_force 37 = .ok (.getfield 119, 3) := dq_180 (hz_wg wX9_force_0 (j := 37) (n := 180) rfl) (hz_wg wX9_force_0 (j := 38) (n := 0) rfl) (hz_wg wX9_force_0 (j := 39) (n := 119) rfl) rfl
theorem dX9_force_40 : decode cX9_force 40 = .ok (.iload_n 2, 1) := dq_28 (hz_wg wX9_force_0 (j := 40) (n := 28) rfl)
theorem dX9_force_41 : decode cX9_force 41 = .ok (.iaload, 1) := dq_46 (hz_wg wX9_force_0 (j := 41) (n := 46) rfl)
theorem dX9_force_42 : decode cX9_force 42 = .ok (.ireturn, 1) := dq_172 (hz_wg wX9_force_0 (j := 42) (n := 172) rfl)
set_option maxHeartbeats 4000000 in
set_option maxRecDepth 100000 in
theorem t_X9_force (l : Launch) (dC : Nat → ClassId) (dI : Nat → Nat → Nat) (dA : Nat → ClassId) (L : List Nat) (h : hx_h) (sz : Nat) (x : Nat) (i1 : Int32) (i2 : Int32) (hT : hx_T T_tb L h) (gx : hx_g L h x 9) (qa : Nat) (gqa : hx_g L h qa 43) (f_x_5 : h.2.2 x 5 = some qa) (pf_x_6 : ∀ j : Nat, (j : Int) < (h.2.1 x 6).toInt → h.2.2 qa j ≠ none) : Met l yX9_force (Cond.code yX9_force cX9_force 4 (some .int) :: hx_all) ({ frames := 2, cells := 0, slots := 0, locals := 42 }) (va_Pc [.ref x, .int i1, .int i2] (hx_B T_tb (P_ty dA) (dC, dI) vwCl L h sz)) (va_Qi (fun (r : Int32) (u : List Nat × hx_h) => (True) ∧ hx_T T_tb u.1 u.2 ∧ hx_S T_tb [] L h u.1 u.2) (hx_E T_tb (P_ty dA) (dC, dI) vwCl (hx_A L sz)) (hx_A L sz)) 0 0 (hx_A L sz) := by
  refine hx_met (lv := [(0, .ref x), (1, .int i1), (2, .int i2)]) (by decide +kernel) rfl (Nat.le_of_ble_eq_true rfl) rfl ?_
  intro p e s m below meth c hx hb hml hr hlk hts0 hown hin hsz hW ls hl
  have hts : ∀ w ∈ hx_all, w.before _ s = true := fun w hw => hts0 w (List.mem_cons_of_mem _ hw)
  have hown : s.vm.findClass "SmallCourt" = some m.cls := hown
  have hM : hx_S T_tb [] L h L h := hx_S.rf
  refine lv_iload_n hx hb dX9_force_0 rfl (lv_at hl 1 rfl) ?_
  refine hx_goi (hx_runS (As := [.int i1]) (rest := []) ⟨hx, hb, hml, hown, hts⟩ hW (t_X9_isDay l dC dI dA L h s.heap.size i1 hT) (va_cwS 1 hts (hx_gS kw_431 kw_429 kw_430 kw_94) rfl rfl rfl (by decide +kernel) ⟨Nat.le_of_ble_eq_true rfl, Nat.le_of_ble_eq_true rfl⟩) rfl hl.1 rfl (Nat.le_of_ble_eq_true rfl) dX9_force_1 ⟨Nat.le_of_ble_eq_true rfl, Nat.le_of_ble_eq_true rfl⟩) hW (fun r_3 L_1 h_2 H locs p_4 hW => ?_)
  obtain ⟨hr_5, hT, hs⟩ := p_4
  replace hT : hx_T T_tb L_1 h_2 := hT
  replace hs : hx_S T_tb [] L h L_1 h_2 := hs
  replace pf_x_6 : ∀ j : Nat, (j : Int) < (h_2.2.1 x 6).toInt → h_2.2.2 qa j ≠ none := by
    intro j hj; rw [(hs.o (gx.S hM) trivial rfl).1] at hj; rw [(hs.a (gqa.S hM) rfl j).2]; exact pf_x_6 j hj
  replace hM := hM.tr (hs.mono (by decide))
  refine hb_if_eq (zx := r_3.toInt) (tgt := 17) hx hb rfl dX9_force_4 (by decide) (fun c_6 => ?_) (fun c_6 => ?_)
  · skip
    refine lv_iconst (v := -1) hx hb dX9_force_17 (by decide) ?_
    exact hx_reti hx hb hr hlk hW ⟨trivial, hT, hM⟩ dX9_force_18
  · skip
    refine lv_iload_n hx hb dX9_force_7 rfl (lv_at hl 2 rfl) ?_
    refine hb_if_lt (zx := i2.toInt) (tgt := 17) hx hb rfl dX9_force_8 (by decide) (fun c_7 => ?_) (fun c_7 => ?_)
    · skip
      refine lv_iconst (v := -1) hx hb dX9_force_17 (by decide) ?_
      exact hx_reti hx hb hr hlk hW ⟨trivial, hT, hM⟩ dX9_force_18
    · skip
      refine lv_iload_n hx hb dX9_force_11 rfl (lv_at hl 2 rfl) ?_
      refine lv_bipush (v := 14) hx hb dX9_force_12 (by decide) ?_
      refine hb_icmp_lt (zx := i2.toInt) (zy := 14) (tgt := 19) hx hb rfl (by decide) dX9_force_14 (by decide) (fun c_8 => ?_) (fun c_8 => ?_)
      · skip
        refine lv_aload_n hx hb dX9_force_19 rfl (lv_at hl 0 rfl) ?_
        refine lv_iload_n hx hb dX9_force_20 rfl (lv_at hl 1 rfl) ?_
        refine hx_goq (hx_runV (As := [.int i1]) (rest := []) ⟨hx, hb, hml, hown, hts⟩ hW (gx.S hM) tt_9 (T := TX9) (N := 20) rfl (t_X9_inForce l dC dI dA L_1 h_2 H.size x i1 hT (gx.S hM) qa (gqa.S hM) ((hM.o gx trivial rfl).2.trans f_x_5) pf_x_6) (cwV 1 hts (hx_gV kw_597 kw_594 kw_596 kw_19 kw_94) rfl rfl rfl (by decide +kernel) ⟨Nat.le_of_ble_eq_true rfl, Nat.le_of_ble_eq_true rfl⟩) rfl hl.1 rfl (Nat.le_of_ble_eq_true rfl) dX9_force_21 ⟨Nat.le_of_ble_eq_true rfl, Nat.le_of_ble_eq_true rfl⟩) hW (fun r_11 L_9 h_10 H locs p_12 hW => ?_)
        obtain ⟨hr_13, hT, hs⟩ := p_12
        replace hT : hx_T T_tb L_9 h_10 := hT
        replace hs : hx_S T_tb [] L_1 h_2 L_9 h_10 := hs
        replace pf_x_6 : ∀ j : Nat, (j : Int) < (h_10.2.1 x 6).toInt → h_10.2.2 qa j ≠ none := by
          intro j hj; rw [(hs.o (gx.S hM) trivial rfl).1] at hj; rw [(hs.a (gqa.S hM) rfl j).2]; exact pf_x_6 j hj
        replace hM := hM.tr (hs.mono (by decide))
        obtain ⟨q_14, rfl, gq_14⟩ := hr_13
        have gq_14 : hx_g L_9 h_10 q_14 0 := gq_14
        refine lv_astore_n (lv' := [(3, .ref q_14), (0, .ref x), (1, .int i1), (2, .int i2)]) hx hb dX9_force_24 rfl hl (by decide) rfl (fun ls hl => ?_)
        refine lv_iload_n hx hb dX9_force_25 rfl (lv_at hl 3 rfl) ?_
        refine hb_if_ne (zx := i2.toInt) (tgt := 36) hx hb rfl dX9_force_26 (by decide) (fun c_15 => ?_) (fun c_15 => ?_)
        · skip
          refine lv_aload_n hx hb dX9_force_36 rfl (lv_at hl 0 rfl) ?_
          refine hx_getn hx hb hts hC_0 hown hW hT gq_14 tt_0 2 (by decide) rfl kw_170 ⟨rfl, rfl, rfl⟩ dX9_force_37 (fun q_16 fq_16 gq_16 => ?_)
          refine lv_iload_n hx hb dX9_force_40 rfl (lv_at hl 3 rfl) ?_
          refine hx_iald hx hb hW hT gq_16 tt_11 rfl ⟨by omega, by omega⟩ dX9_force_41 (fun x_17 ex_17 lx_17 ux_17 => ?_)
          exact hx_reti hx hb hr hlk hW ⟨trivial, hT, hM⟩ dX9_force_42
        · skip
          refine lv_aload_n hx hb dX9_force_29 rfl (lv_at hl 0 rfl) ?_
          refine hx_geti hx hb hts hC_0 hown hW hT gq_14 tt_0 0 (by decide) rfl kw_163 ⟨rfl, rfl, rfl⟩ dX9_force_30 (fun x_18 ex_18 lx_18 ux_18 => ?_)
          have fx_18 := ex_18.symm
          refine lv_goto (tgt := 42) hx hb dX9_force_33 (by decide) ?_
          exact hx_reti hx hb hr hlk hW ⟨trivial, hT, hM⟩ dX9_force_42
      · skip
        refine lv_iconst (v := -1) hx hb dX9_force_17 (by decide) ?_
        exact hx_reti hx hb hr hlk hW ⟨trivial, hT, hM⟩ dX9_force_18

def wLX9_judgement_0 : List Nat := [43, 180, 0, 190, 43, 180, 0, 212, 180, 0, 243, 17, 1, 109, 44, 180, 0, 119, 16, 9, 46, 104, 96, 162, 0, 5, 4, 172, 43, 180, 0, 187, 44, 180, 0, 119, 4, 46, 164, 0, 5, 5, 172, 42, 43, 44, 182, 0, 246, 44, 180, 0, 119, 4, 46, 164, 0, 5, 6, 172, 44, 43, 180, 0]
def wLX9_judgement_1 : List Nat := [196, 182, 0, 249, 153, 0, 7, 8, 167, 0, 4, 7, 172]
theorem wX9_judgement_0 : (cX9_judgement.data.toList.map UInt8.toNat).drop 0 = wLX9_judgement_0 ++ (wLX9_judgement_1 ++ ([])) := by decide +kernel
theorem wX9_judgement_1 : (cX9_judgement.data.toList.map UInt8.toNat).drop 64 = wLX9_judgement_1 ++ ([]) := hz_wn wX9_judgement_0 rfl
theorem dX9_judgement_0 : decode cX9_judgement 0 = .ok (.aload_n 1, 1) := dq_43 (hz_wg wX9_judgement_0 (j := 0) (n := 43) rfl)
theorem dX9_judgement_1 : decode cX9_judgement 1 = .ok (.getfield 190, 3) := dq_180 (hz_wg wX9_judgement_0 (j := 1) (n := 180) rfl) (hz_wg wX9_judgement_0 (j := 2) (n := 0) rfl) (hz_wg wX9_judgement_0 (j := 3) (n := 190) rfl) rfl
theorem dX9_judgement_4 : decode cX9_judgement 4 = .ok (.aload_n 1, 1) := dq_43 (hz_wg wX9_judgement_0 (j := 4) (n := 43) rfl)
theorem dX9_judgement_5 : decode cX9_judgement 5 = .ok (.getfield 212, 3) := dq_180 (hz_wg wX9_judgement_0 (j := 5) (n := 180) rfl) (hz_wg wX9_judgement_0 (j := 6) (n := 0) rfl) (hz_wg wX9_judgement_0 (j := 7) (n := 212) rfl) rfl
theorem dX9_judgement_8 : decode cX9_judgement 8 = .ok (.getfield 243, 3) := dq_180 (hz_wg wX9_judgement_0 (j := 8) (n := 180) rfl) (hz_wg wX9_judgement_0 (j := 9) (n := 0) rfl) (hz_wg wX9_judgement_0 (j := 10) (n := 243) rfl) rfl
theorem dX9_judgement_11 : decode cX9_judgement 11 = .ok (.sipush 365, 3) := dq_17 (hz_wg wX9_judgement_0 (j := 11) (n := 17) rfl) (hz_wg wX9_judgement_0 (j := 12) (n := 1) rfl) (hz_wg wX9_judgement_0 (j := 13) (n := 109) rfl) (by decide)
theorem dX9_judgement_14 : decode cX9_judgement 14 = .ok (.aload_n 2, 1) := dq_44 (hz_wg wX9_judgement_0 (j := 14) (n := 44) rfl)
theorem dX9_judgement_15 : decode cX9_judgement 15 = .ok (.getfield 119, 3) := dq_180 (hz_wg wX9_judgement_0 (j := 15) (n := 180) rfl) (hz_wg wX9_judgement_0 (j := 16) (n := 0) rfl) (hz_wg wX9_judgement_0 (j := 17) (n := 119) rfl) rfl
theorem dX9_judgement_18 : decode cX9_judgement 18 = .ok (.bipush 9, 2) := dq_16 (hz_wg wX9_judgement_0 (j := 18) (n := 16) rfl) (hz_wg wX9_judgement_0 (j := 19) (n := 9) rfl) (by decide)
theorem dX9_judgement_20 : decode cX9_judgement 20 = .ok (.iaload, 1) := dq_46 (hz_wg wX9_judgement_0 (j := 20) (n := 46) rfl)
theorem dX9_judgement_21 : decode cX9_judgement 21 = .ok (.imul, 1) := dq_104 (hz_wg wX9_judgement_0 (j := 21) (n := 104) rfl)
theorem dX9_judgement_22 : decode cX9_judgement 22 = .ok (.iadd, 1) := dq_96 (hz_wg wX9_judgement_0 (j := 22) (n := 96) rfl)
theorem dX9_judgement_23 : decode cX9_judgement 23 = .ok (.if_icmp .ge 5, 3) := dq_162 (hz_wg wX9_judgement_0 (j := 23) (n := 162) rfl) (hz_wg wX9_judgement_0 (j := 24) (n := 0) rfl) (hz_wg wX9_judgement_0 (j := 25) (n := 5) rfl) (by decide)
theorem dX9_judgement_26 : decode cX9_judgement 26 = .ok (.iconst 1, 1) := dq_4 (hz_wg wX9_judgement_0 (j := 26) (n := 4) rfl)
theorem dX9_judgement_27 : decode cX9_judgement 27 = .ok (.ireturn, 1) := dq_172 (hz_wg wX9_judgement_0 (j := 27) (n := 172) rfl)
theorem dX9_judgement_28 : decode cX9_judgement 28 = .ok (.aload_n 1, 1) := dq_43 (hz_wg wX9_judgement_0 (j := 28) (n := 43) rfl)
theorem dX9_judgement_29 : decode cX9_judgement 29 = .ok (.getfield 187, 3) := dq_180 (hz_wg wX9_judgement_0 (j := 29) (n := 180) rfl) (hz_wg wX9_judgement_0 (j := 30) (n := 0) rfl) (hz_wg wX9_judgement_0 (j := 31) (n := 187) rfl) rfl
theorem dX9_judgement_32 : decode cX9_judgement 32 = .ok (.aload_n 2, 1) := dq_44 (hz_wg wX9_judgement_0 (j := 32) (n := 44) rfl)
theorem dX9_judgement_33 : decode cX9_judgement 33 = .ok (.getfield 119, 3) := dq_180 (hz_wg wX9_judgement_0 (j := 33) (n := 180) rfl) (hz_wg wX9_judgement_0 (j := 34) (n := 0) rfl) (hz_wg wX9_judgement_0 (j := 35) (n := 119) rfl) rfl
theorem dX9_judgement_36 : decode cX9_judgement 36 = .ok (.iconst 1, 1) := dq_4 (hz_wg wX9_judgement_0 (j := 36) (n := 4) rfl)
theorem dX9_judgement_37 : decode cX9_judgement 37 = .ok (.iaload, 1) := dq_46 (hz_wg wX9_judgement_0 (j := 37) (n := 46) rfl)
theorem dX9_judgement_38 : decode cX9_judgement 38 = .ok (.if_icmp .le 5, 3) := dq_164 (hz_wg wX9_judgement_0 (j := 38) (n := 164) rfl) (hz_wg wX9_judgement_0 (j := 39) (n := 0) rfl) (hz_wg wX9_judgement_0 (j := 40) (n := 5) rfl) (by decide)
theorem dX9_judgement_41 : decode cX9_judgement 41 = .ok (.iconst 2, 1) := dq_5 (hz_wg wX9_judgement_0 (j := 41) (n := 5) rfl)
theorem dX9_judgement_42 : decode cX9_judgement 42 = .ok (.ireturn, 1) := dq_172 (hz_wg wX9_judgement_0 (j := 42) (n := 172) rfl)
theorem dX9_judgement_43 : decode cX9_judgement 43 = .ok (.aload_n 0, 1) := dq_42 (hz_wg wX9_judgement_0 (j := 43) (n := 42) rfl)
theorem dX9_judgement_44 : decode cX9_judgement 44 = .ok (.aload_n 1, 1) := dq_43 (hz_wg wX9_judgement_0 (j := 44) (n := 43) rfl)
theorem dX9_judgement_45 : decode cX9_judgement 45 = .ok (.aload_n 2, 1) := dq_44 (hz_wg wX9_judgement_0 (j := 45) (n := 44) rfl)
theorem dX9_judgement_46 : decode cX9_judgement 46 = .ok (.invokevirtual 246, 3) := dq_182 (hz_wg wX9_judgement_0 (j := 46) (n := 182) rfl) (hz_wg wX9_judgement_0 (j := 47) (n := 0) rfl) (hz_wg wX9_judgement_0 (j := 48) (n := 246) rfl) rfl
theorem dX9_judgement_49 : decode cX9_judgement 49 = .ok (.aload_n 2, 1) := dq_44 (hz_wg wX9_judgement_0 (j := 49) (n := 44) rfl)
theorem dX9_judgement_50 : decode cX9_judgement 50 = .ok (.getfield 119, 3) := dq_180 (hz_wg wX9_judgement_0 (j := 50) (n := 180) rfl) (hz_wg wX9_judgement_0 (j := 51) (n := 0) rfl) (hz_wg wX9_judgement_0 (j := 52) (n := 119) rfl) rfl
theorem dX9_judgement_53 : decode cX9_judgement 53 = .ok (.iconst 1, 1) := dq_4 (hz_wg wX9_judgement_0 (j := 53) (n := 4) rfl)
theorem dX9_judgement_54 : decode cX9_judgement 54 = .ok (.iaload, 1) := dq_46 (hz_wg wX9_judgement_0 (j := 54) (n := 46) rfl)
theorem dX9_judgement_55 : decode cX9_judgement 55 = .ok (.if_icmp .le 5, 3) := dq_164 (hz_wg wX9_judgement_0 (j := 55) (n := 164) rfl) (hz_wg wX9_judgement_0 (j := 56) (n := 0) rfl) (hz_wg wX9_judgement_0 (j := 57) (n := 5) rfl) (by decide)
theorem dX9_judgement_58 : decode cX9_judgement 58 = .ok (.iconst 3, 1) := dq_6 (hz_wg wX9_judgement_0 (j := 58) (n := 6) rfl)
theorem dX9_judgement_59 : decode cX9_judgement 59 = .ok (.ireturn, 1) := dq_172 (hz_wg wX9_judgement_0 (j := 59) (n := 172) rfl)
theorem dX9_judgement_60 : decode cX9_judgement 60 = .ok (.aload_n 2, 1) := dq_44 (hz_wg wX9_judgement_0 (j := 60) (n := 44) rfl)
theorem dX9_judgement_61 : decode cX9_judgement 61 = .ok (.aload_n 1, 1) := dq_43 (hz_wg wX9_judgement_0 (j := 61) (n := 43) rfl)
theorem dX9_judgement_62 : decode cX9_judgement 62 = .ok (.getfield 196, 3) := dq_180 (hz_wg wX9_judgement_0 (j := 62) (n := 180) rfl) (hz_wg wX9_judgement_0 (j := 63) (n := 0) rfl) (hz_wg wX9_judgement_1 (j := 0) (n := 196) rfl) rfl
theorem dX9_judgement_65 : decode cX9_judgement 65 = .ok (.invokevirtual 249, 3) := dq_182 (hz_wg wX9_judgement_1 (j := 1) (n := 182) rfl) (hz_wg wX9_judgement_1 (j := 2) (n := 0) rfl) (hz_wg wX9_judgement_1 (j := 3) (n := 249) rfl) rfl
theorem dX9_judgement_68 : decode cX9_judgement 68 = .ok (.ifCond .eq 7, 3) := dq_153 (hz_wg wX9_judgement_1 (j := 4) (n := 153) rfl) (hz_wg wX9_judgement_1 (j := 5) (n := 0) rfl) (hz_wg wX9_judgement_1 (j := 6) (n := 7) rfl) (by decide)
theorem dX9_judgement_71 : decode cX9_judgement 71 = .ok (.iconst 5, 1) := dq_8 (hz_wg wX9_judgement_1 (j := 7) (n := 8) rfl)
theorem dX9_judgement_72 : decode cX9_judgement 72 = .ok (.goto 4, 3) := dq_167 (hz_wg wX9_judgement_1 (j := 8) (n := 167) rfl) (hz_wg wX9_judgement_1 (j := 9) (n := 0) rfl) (hz_wg wX9_judgement_1 (j := 10) (n := 4) rfl) (by decide)
theorem dX9_judgement_75 : decode cX9_judgement 75 = .ok (.iconst 4, 1) := dq_7 (hz_wg wX9_judgement_1 (j := 11) (n := 7) rfl)
theorem dX9_judgement_76 : decode cX9_judgement 76 = .ok (.ireturn, 1) := dq_172 (hz_wg wX9_judgement_1 (j := 12) (n := 172) rfl)
set_option maxHeartbeats 4000000 in
set_option maxRecDepth 100000 in
theorem t_X9_judgement (l : Launch) (dC : Nat → ClassId) (dI : Nat → Nat → Nat) (dA : Nat → ClassId) (L : List Nat) (h : hx_h) (sz : Nat) (x : Nat) (v1 : Nat) (v2 : Nat) (hT : hx_T T_tb L h) (gx : hx_g L h x 9) (gv1 : hx_g L h v1 2) (gv2 : hx_g L h v2 0) (qc : Nat) (gqc : hx_g L h qc 45) (f_x_10 : h.2.2 x 10 = some qc) (pf_x_11 : ∀ j : Nat, (j : Int) < (h.2.1 x 11).toInt → h.2.2 qc j ≠ none) : Met l yX9_judgement (Cond.code yX9_judgement cX9_judgement 3 (some .int) :: hx_all) ({ frames := 2, cells := 0, slots := 0, locals := 49 }) (va_Pc [.ref x, .ref v1, .ref v2] (hx_B T_tb (P_ty dA) (dC, dI) vwCl L h sz)) (va_Qi (fun (r : Int32) (u : List Nat × hx_h) => (True) ∧ hx_T T_tb u.1 u.2 ∧ hx_S T_tb [] L h u.1 u.2) (hx_E T_tb (P_ty dA) (dC, dI) vwCl (hx_A L sz)) (hx_A L sz)) 0 0 (hx_A L sz) := by
  refine hx_met (lv := [(0, .ref x), (1, .ref v1), (2, .ref v2)]) (by decide +kernel) rfl (Nat.le_of_ble_eq_true rfl) rfl ?_
  intro p e s m below meth c hx hb hml hr hlk hts0 hown hin hsz hW ls hl
  have hts : ∀ w ∈ hx_all, w.before _ s = true := fun w hw => hts0 w (List.mem_cons_of_mem _ hw)
  have hown : s.vm.findClass "SmallCourt" = some m.cls := hown
  have hM : hx_S T_tb [] L h L h := hx_S.rf
  refine lv_aload_n hx hb dX9_judgement_0 rfl (lv_at hl 1 rfl) ?_
  refine hx_geti hx hb hts hC_2 hown hW hT (gv1.S hM) tt_2 7 (by decide) rfl kw_742 ⟨rfl, rfl, rfl⟩ dX9_judgement_1 (fun x_1 ex_1 lx_1 ux_1 => ?_)
  have fx_1 := ex_1.symm
  refine lv_aload_n hx hb dX9_judgement_4 rfl (lv_at hl 1 rfl) ?_
  refine hx_getn hx hb hts hC_2 hown hW hT (gv1.S hM) tt_2 2 (by decide) rfl kw_733 ⟨rfl, rfl, rfl⟩ dX9_judgement_5 (fun q_2 fq_2 gq_2 => ?_)
  refine hx_geti hx hb hts hC_4 hown hW hT gq_2 tt_4 1 (by decide) rfl kw_614 ⟨rfl, rfl, rfl⟩ dX9_judgement_8 (fun x_3 ex_3 lx_3 ux_3 => ?_)
  have fx_3 := ex_3.symm
  refine lv_sipush (v := 365) hx hb dX9_judgement_11 (by decide) ?_
  refine lv_aload_n hx hb dX9_judgement_14 rfl (lv_at hl 2 rfl) ?_
  refine hx_getn hx hb hts hC_0 hown hW hT (gv2.S hM) tt_0 2 (by decide) rfl kw_170 ⟨rfl, rfl, rfl⟩ dX9_judgement_15 (fun q_4 fq_4 gq_4 => ?_)
  refine lv_bipush (v := 9) hx hb dX9_judgement_18 (by decide) ?_
  refine hx_iald hx hb hW hT gq_4 tt_11 rfl (by decide) dX9_judgement_20 (fun x_5 ex_5 lx_5 ux_5 => ?_)
  refine lv_imul hx hb dX9_judgement_21 ?_
  refine lv_topi (fun x_6 ex_6 => ?_)
  refine lv_iadd hx hb dX9_judgement_22 ?_
  have rg_7 := i32_r x_3
  have rg_8 := i32_r x_6
  refine lv_topi (fun x_9 ex_9 => ?_)
  refine hb_icmp_ge (zx := x_1.toInt) (zy := x_9.toInt) (tgt := 28) hx hb rfl rfl dX9_judgement_23 (by decide) (fun c_10 => ?_) (fun c_10 => ?_)
  · skip
    refine lv_aload_n hx hb dX9_judgement_28 rfl (lv_at hl 1 rfl) ?_
    refine hx_geti hx hb hts hC_2 hown hW hT (gv1.S hM) tt_2 6 (by decide) rfl kw_741 ⟨rfl, rfl, rfl⟩ dX9_judgement_29 (fun x_11 ex_11 lx_11 ux_11 => ?_)
    have fx_11 := ex_11.symm
    refine lv_aload_n hx hb dX9_judgement_32 rfl (lv_at hl 2 rfl) ?_
    refine hk_getr hx hb hts hC_0 hown hW (gv2.S hM) tt_0 2 (by decide) rfl kw_170 ⟨rfl, rfl, rfl⟩ fq_4 dX9_judgement_33 ?_
    refine lv_iconst (v := 1) hx hb dX9_judgement_36 (by decide) ?_
    refine hx_iald hx hb hW hT gq_4 tt_11 rfl (by decide) dX9_judgement_37 (fun x_12 ex_12 lx_12 ux_12 => ?_)
    refine hb_icmp_le (zx := x_11.toInt) (zy := x_12.toInt) (tgt := 43) hx hb rfl rfl dX9_judgement_38 (by decide) (fun c_13 => ?_) (fun c_13 => ?_)
    · skip
      refine lv_aload_n hx hb dX9_judgement_43 rfl (lv_at hl 0 rfl) ?_
      refine lv_aload_n hx hb dX9_judgement_44 rfl (lv_at hl 1 rfl) ?_
      refine lv_aload_n hx hb dX9_judgement_45 rfl (lv_at hl 2 rfl) ?_
      refine hx_goi (hx_runV (As := [.ref v1, .ref v2]) (rest := []) ⟨hx, hb, hml, hown, hts⟩ hW (gx.S hM) tt_9 (T := TX9) (N := 20) rfl (t_X9_sumOfSplit l dC dI dA L h s.heap.size x v1 v2 hT (gx.S hM) (gv1.S hM) (gv2.S hM) qc (gqc.S hM) ((hM.o gx trivial rfl).2.trans f_x_10) pf_x_11) (cwV 2 hts (hx_gV kw_834 kw_831 kw_833 kw_29 kw_94) rfl rfl rfl (by decide +kernel) ⟨Nat.le_of_ble_eq_true rfl, Nat.le_of_ble_eq_true rfl⟩) rfl hl.1 rfl (Nat.le_of_ble_eq_true rfl) dX9_judgement_46 ⟨Nat.le_of_ble_eq_true rfl, Nat.le_of_ble_eq_true rfl⟩) hW (fun r_16 L_14 h_15 H locs p_17 hW => ?_)
      obtain ⟨hr_18, hT, hs⟩ := p_17
      replace hT : hx_T T_tb L_14 h_15 := hT
      replace hs : hx_S T_tb [] L h L_14 h_15 := hs
      replace fx_1 := (hs.o (gv1.S hM) trivial rfl).1.trans fx_1
      replace fq_2 := (hs.o (gv1.S hM) trivial rfl).2.trans fq_2
      replace fx_3 := (hs.o gq_2 trivial rfl).1.trans fx_3
      replace fq_4 := (hs.o (gv2.S hM) trivial rfl).2.trans fq_4
      replace fx_11 := (hs.o (gv1.S hM) trivial rfl).1.trans fx_11
      replace pf_x_11 : ∀ j : Nat, (j : Int) < (h_15.2.1 x 11).toInt → h_15.2.2 qc j ≠ none := by
        intro j hj; rw [(hs.o (gx.S hM) trivial rfl).1] at hj; rw [(hs.a (gqc.S hM) rfl j).2]; exact pf_x_11 j hj
      replace ex_5 := ex_5.trans (hs.a gq_4 rfl _).1.symm
      replace ex_12 := ex_12.trans (hs.a gq_4 rfl _).1.symm
      replace hM := hM.tr (hs.mono (by decide))
      replace gq_2 := gq_2.S hs
      replace gq_4 := gq_4.S hs
      refine lv_aload_n hx hb dX9_judgement_49 rfl (lv_at hl 2 rfl) ?_
      refine hk_getr hx hb hts hC_0 hown hW (gv2.S hM) tt_0 2 (by decide) rfl kw_170 ⟨rfl, rfl, rfl⟩ fq_4 dX9_judgement_50 ?_
      refine lv_iconst (v := 1) hx hb dX9_judgement_53 (by decide) ?_
      refine hx_iald hx hb hW hT gq_4 tt_11 rfl (by decide) dX9_judgement_54 (fun x_19 ex_19 lx_19 ux_19 => ?_)
      obtain rfl : x_12 = x_19 := ex_12.trans ex_19.symm
      refine hb_icmp_le (zx := r_16.toInt) (zy := x_12.toInt) (tgt := 60) hx hb rfl rfl dX9_judgement_55 (by decide) (fun c_20 => ?_) (fun c_20 => ?_)
      · skip
        refine lv_aload_n hx hb dX9_judgement_60 rfl (lv_at hl 2 rfl) ?_
        refine lv_aload_n hx hb dX9_judgement_61 rfl (lv_at hl 1 rfl) ?_
        refine hx_getn hx hb hts hC_2 hown hW hT (gv1.S hM) tt_2 4 (by decide) rfl kw_738 ⟨rfl, rfl, rfl⟩ dX9_judgement_62 (fun q_21 fq_21 gq_21 => ?_)
        refine hx_goi (hx_runV (As := [.ref q_21]) (rest := []) ⟨hx, hb, hml, hown, hts⟩ hW (gv2.S hM) tt_0 (T := TX0) (N := 5) rfl (t_X0_proves l dC dI dA L_14 h_15 H.size v2 q_21 hT (gv2.S hM) gq_21) (cwV 1 hts (hx_gV kw_838 kw_835 kw_836 kw_837 kw_96) rfl rfl rfl (by decide +kernel) ⟨Nat.le_of_ble_eq_true rfl, Nat.le_of_ble_eq_true rfl⟩) rfl hl.1 rfl (Nat.le_of_ble_eq_true rfl) dX9_judgement_65 ⟨Nat.le_of_ble_eq_true rfl, Nat.le_of_ble_eq_true rfl⟩) hW (fun r_24 L_22 h_23 H locs p_25 hW => ?_)
        obtain ⟨hr_26, hT, hs⟩ := p_25
        replace hT : hx_T T_tb L_22 h_23 := hT
        replace hs : hx_S T_tb [] L_14 h_15 L_22 h_23 := hs
        replace fx_1 := (hs.o (gv1.S hM) trivial rfl).1.trans fx_1
        replace fq_2 := (hs.o (gv1.S hM) trivial rfl).2.trans fq_2
        replace fx_3 := (hs.o gq_2 trivial rfl).1.trans fx_3
        replace fq_4 := (hs.o (gv2.S hM) trivial rfl).2.trans fq_4
        replace fx_11 := (hs.o (gv1.S hM) trivial rfl).1.trans fx_11
        replace fq_21 := (hs.o (gv1.S hM) trivial rfl).2.trans fq_21
        replace pf_x_11 : ∀ j : Nat, (j : Int) < (h_23.2.1 x 11).toInt → h_23.2.2 qc j ≠ none := by
          intro j hj; rw [(hs.o (gx.S hM) trivial rfl).1] at hj; rw [(hs.a (gqc.S hM) rfl j).2]; exact pf_x_11 j hj
        replace ex_5 := ex_5.trans (hs.a gq_4 rfl _).1.symm
        replace ex_12 := ex_12.trans (hs.a gq_4 rfl _).1.symm
        replace hM := hM.tr (hs.mono (by decide))
        replace gq_2 := gq_2.S hs
        replace gq_4 := gq_4.S hs
        replace gq_21 := gq_21.S hs
        have jn_76 : ∀ (xj_27 : Int32) (ls : Array Slot), 4 ≤ xj_27.toInt → xj_27.toInt ≤ 5 → lv_has ls 3 [(0, .ref x), (1, .ref v1), (2, .ref v2)] → W p l e ({ frames := 2, cells := 0, slots := 0, locals := 49 }) s m ([.ref x, .ref v1, .ref v2] : List Value).toArray below meth c H locs 0 0 (MQ below (va_Qi (fun (r : Int32) (u : List Nat × hx_h) => (True) ∧ hx_T T_tb u.1 u.2 ∧ hx_S T_tb [] L h u.1 u.2) (hx_E T_tb (P_ty dA) (dC, dI) vwCl (hx_A L sz)) (hx_A L sz)) ([.ref x, .ref v1, .ref v2] : List Value).toArray s 0 0 (hx_A L sz)) (F0 m 76 ls [.int xj_27]) := by
          intro xj_27 ls blxj_27 buxj_27 hl
          exact hx_reti hx hb hr hlk hW ⟨trivial, hT, hM⟩ dX9_judgement_76
        refine hb_if_eq (zx := r_24.toInt) (tgt := 75) hx hb rfl dX9_judgement_68 (by decide) (fun c_28 => ?_) (fun c_28 => ?_)
        · skip
          refine lv_iconst (v := 4) hx hb dX9_judgement_75 (by decide) ?_
          exact jn_76 (4 : Int32) ls (by decide) (by decide) hl
        · skip
          refine lv_iconst (v := 5) hx hb dX9_judgement_71 (by decide) ?_
          refine lv_goto (tgt := 76) hx hb dX9_judgement_72 (by decide) ?_
          exact jn_76 (5 : Int32) ls (by decide) (by decide) hl
      · skip
        refine lv_iconst (v := 3) hx hb dX9_judgement_58 (by decide) ?_
        exact hx_reti hx hb hr hlk hW ⟨trivial, hT, hM⟩ dX9_judgement_59
    · skip
      refine lv_iconst (v := 2) hx hb dX9_judgement_41 (by decide) ?_
      exact hx_reti hx hb hr hlk hW ⟨trivial, hT, hM⟩ dX9_judgement_42
  · skip
    refine lv_iconst (v := 1) hx hb dX9_judgement_26 (by decide) ?_
    exact hx_reti hx hb hr hlk hW ⟨trivial, hT, hM⟩ dX9_judgement_27

def wLX9_drawBench_0 : List Nat := [3, 62, 3, 54, 4, 21, 4, 42, 180, 0, 125, 162, 0, 34, 42, 180, 0, 35, 21, 4, 50, 43, 182, 0, 236, 153, 0, 14, 42, 180, 0, 62, 29, 21, 4, 79, 132, 3, 1, 132, 4, 1, 167, 255, 219, 29, 29, 4, 100, 104, 29, 5, 100, 104, 16, 6, 108, 54, 4, 21, 4, 4, 162, 0]
def wLX9_drawBench_1 : List Nat := [5, 3, 172, 28, 21, 4, 112, 54, 5, 3, 54, 6, 21, 6, 29, 162, 0, 95, 21, 6, 4, 96, 54, 7, 21, 7, 29, 162, 0, 77, 29, 21, 7, 100, 4, 100, 54, 8, 21, 5, 21, 8, 162, 0, 49, 43, 180, 0, 240, 3, 42, 180, 0, 62, 21, 6, 46, 79, 43, 180, 0, 240, 4, 42]
def wLX9_drawBench_2 : List Nat := [180, 0, 62, 21, 7, 46, 79, 43, 180, 0, 240, 5, 42, 180, 0, 62, 21, 7, 4, 96, 21, 5, 96, 46, 79, 4, 172, 21, 5, 21, 8, 100, 54, 5, 132, 7, 1, 167, 255, 179, 132, 6, 1, 167, 255, 161, 3, 172]
theorem wX9_drawBench_0 : (cX9_drawBench.data.toList.map UInt8.toNat).drop 0 = wLX9_drawBench_0 ++ (wLX9_drawBench_1 ++ (wLX9_drawBench_2 ++ ([]))) := by decide +kernel
theorem wX9_drawBench_1 : (cX9_drawBench.data.toList.map UInt8.toNat).drop 64 = wLX9_drawBench_1 ++ (wLX9_drawBench_2 ++ ([])) := hz_wn wX9_drawBench_0 rfl
theorem wX9_drawBench_2 : (cX9_drawBench.data.toList.map UInt8.toNat).drop 128 = wLX9_drawBench_2 ++ ([]) := hz_wn wX9_drawBench_1 rfl
theorem dX9_drawBench_0 : decode cX9_drawBench 0 = .ok (.iconst 0, 1) := dq_3 (hz_wg wX9_drawBench_0 (j := 0) (n := 3) rfl)
theorem dX9_drawBench_1 : decode cX9_drawBench 1 = .ok (.istore_n 3, 1) := dq_62 (hz_wg wX9_drawBench_0 (j := 1) (n := 62) rfl)
theorem dX9_drawBench_2 : decode cX9_drawBench 2 = .ok (.iconst 0, 1) := dq_3 (hz_wg wX9_drawBench_0 (j := 2) (n := 3) rfl)
theorem dX9_drawBench_3 : decode cX9_drawBench 3 = .ok (.istore 4, 2) := dq_54 (hz_wg wX9_drawBench_0 (j := 3) (n := 54) rfl) (hz_wg wX9_drawBench_0 (j := 4) (n := 4) rfl)
theorem dX9_drawBench_5 : decode cX9_drawBench 5 = .ok (.iload 4, 2) := dq_21 (hz_wg wX9_drawBench_0 (j := 5) (n := 21) rfl) (hz_wg wX9_drawBench_0 (j := 6) (n := 4) rfl)
theorem dX9_drawBench_7 : decode cX9_drawBench 7 = .ok (.aload_n 0, 1) := dq_42 (hz_wg wX9_drawBench_0 (j := 7) (n := 42) rfl)
theorem dX9_drawBench_8 : decode cX9_drawBench 8 = .ok (.getfield 125, 3) := dq_180 (hz_wg wX9_drawBench_0 (j := 8) (n := 180) rfl) (hz_wg wX9_drawBench_0 (j := 9) (n := 0) rfl) (hz_wg wX9_drawBench_0 (j := 10) (n := 125) rfl) rfl
theorem dX9_drawBench_11 : decode cX9_drawBench 11 = .ok (.if_icmp .ge 34, 3) := dq_162 (hz_wg wX9_drawBench_0 (j := 11) (n := 162) rfl) (hz_wg wX9_drawBench_0 (j := 12) (n := 0) rfl) (hz_wg wX9_drawBench_0 (j := 13) (n := 34) rfl) (by decide)
theorem dX9_drawBench_14 : decode cX9_drawBench 14 = .ok (.aload_n 0, 1) := dq_42 (hz_wg wX9_drawBench_0 (j := 14) (n := 42) rfl)
theorem dX9_drawBench_15 : decode cX9_drawBench 15 = .ok (.getfield 35, 3) := dq_180 (hz_wg wX9_drawBench_0 (j := 15) (n := 180) rfl) (hz_wg wX9_drawBench_0 (j := 16) (n := 0) rfl) (hz_wg wX9_drawBench_0 (j := 17) (n := 35) rfl) rfl
theorem dX9_drawBench_18 : decode cX9_drawBench 18 = .ok (.iload 4, 2) := dq_21 (hz_wg wX9_drawBench_0 (j := 18) (n := 21) rfl) (hz_wg wX9_drawBench_0 (j := 19) (n := 4) rfl)
theorem dX9_drawBench_20 : decode cX9_drawBench 20 = .ok (.aaload, 1) := dq_50 (hz_wg wX9_drawBench_0 (j := 20) (n := 50) rfl)
theorem dX9_drawBench_21 : decode cX9_drawBench 21 = .ok (.aload_n 1, 1) := dq_43 (hz_wg wX9_drawBench_0 (j := 21) (n := 43) rfl)
theorem dX9_drawBench_22 : decode cX9_drawBench 22 = .ok (.invokevirtual 236, 3) := dq_182 (hz_wg wX9_drawBench_0 (j := 22) (n := 182) rfl) (hz_wg wX9_drawBench_0 (j := 23) (n := 0) rfl) (hz_wg wX9_drawBench_0 (j := 24) (n := 236) rfl) rfl
theorem dX9_drawBench_25 : decode cX9_drawBench 25 = .ok (.ifCond .eq 14, 3) := dq_153 (hz_wg wX9_drawBench_0 (j := 25) (n := 153) rfl) (hz_wg wX9_drawBench_0 (j := 26) (n := 0) rfl) (hz_wg wX9_drawBench_0 (j := 27) (n := 14) rfl) (by decide)
theorem dX9_drawBench_28 : decode cX9_drawBench 28 = .ok (.aload_n 0, 1) := dq_42 (hz_wg wX9_drawBench_0 (j := 28) (n := 42) rfl)
theorem dX9_drawBench_29 : decode cX9_drawBench 29 = .ok (.getfield 62, 3) := dq_180 (hz_wg wX9_drawBench_0 (j := 29) (n := 180) rfl) (hz_wg wX9_drawBench_0 (j := 30) (n := 0) rfl) (hz_wg wX9_drawBench_0 (j := 31) (n := 62) rfl) rfl
theorem dX9_drawBench_32 : decode cX9_drawBench 32 = .ok (.iload_n 3, 1) := dq_29 (hz_wg wX9_drawBench_0 (j := 32) (n := 29) rfl)
theorem dX9_drawBench_33 : decode cX9_drawBench 33 = .ok (.iload 4, 2) := dq_21 (hz_wg wX9_drawBench_0 (j := 33) (n := 21) rfl) (hz_wg wX9_drawBench_0 (j := 34) (n := 4) rfl)
theorem dX9_drawBench_35 : decode cX9_drawBench 35 = .ok (.iastore, 1) := dq_79 (hz_wg wX9_drawBench_0 (j := 35) (n := 79) rfl)
theorem dX9_drawBench_36 : decode cX9_drawBench 36 = .ok (.iinc 3 1, 3) := dq_132 (hz_wg wX9_drawBench_0 (j := 36) (n := 132) rfl) (hz_wg wX9_drawBench_0 (j := 37) (n := 3) rfl) (hz_wg wX9_drawBench_0 (j := 38) (n := 1) rfl) (by decide)
theorem dX9_drawBench_39 : decode cX9_drawBench 39 = .ok (.iinc 4 1, 3) := dq_132 (hz_wg wX9_drawBench_0 (j := 39) (n := 132) rfl) (hz_wg wX9_drawBench_0 (j := 40) (n := 4) rfl) (hz_wg wX9_drawBench_0 (j := 41) (n := 1) rfl) (by decide)
theorem dX9_drawBench_42 : decode cX9_drawBench 42 = .ok (.goto (-37), 3) := dq_167 (hz_wg wX9_drawBench_0 (j := 42) (n := 167) rfl) (hz_wg wX9_drawBench_0 (j := 43) (n := 255) rfl) (hz_wg wX9_drawBench_0 (j := 44) (n := 219) rfl) (by decide)
theorem dX9_drawBench_45 : decode cX9_drawBench 45 = .ok (.iload_n 3, 1) := dq_29 (hz_wg wX9_drawBench_0 (j := 45) (n := 29) rfl)
theorem dX9_drawBench_46 : decode cX9_drawBench 46 = .ok (.iload_n 3, 1) := dq_29 (hz_wg wX9_drawBench_0 (j := 46) (n := 29) rfl)
theorem dX9_drawBench_47 : decode cX9_drawBench 47 = .ok (.iconst 1, 1) := dq_4 (hz_wg wX9_drawBench_0 (j := 47) (n := 4) rfl)
theorem dX9_drawBench_48 : decode cX9_drawBench 48 = .ok (.isub, 1) := dq_100 (hz_wg wX9_drawBench_0 (j := 48) (n := 100) rfl)
theorem dX9_drawBench_49 : decode cX9_drawBench 49 = .ok (.imul, 1) := dq_104 (hz_wg wX9_drawBench_0 (j := 49) (n := 104) rfl)
theorem dX9_drawBench_50 : decode cX9_drawBench 50 = .ok (.iload_n 3, 1) := dq_29 (hz_wg wX9_drawBench_0 (j := 50) (n := 29) rfl)
theorem dX9_drawBench_51 : decode cX9_drawBench 51 = .ok (.iconst 2, 1) := dq_5 (hz_wg wX9_drawBench_0 (j := 51) (n := 5) rfl)
theorem dX9_drawBench_52 : decode cX9_drawBench 52 = .ok (.isub, 1) := dq_100 (hz_wg wX9_drawBench_0 (j := 52) (n := 100) rfl)
theorem dX9_drawBench_53 : decode cX9_drawBench 53 = .ok (.imul, 1) := dq_104 (hz_wg wX9_drawBench_0 (j := 53) (n := 104) rfl)
theorem dX9_drawBench_54 : decode cX9_drawBench 54 = .ok (.bipush 6, 2) := dq_16 (hz_wg wX9_drawBench_0 (j := 54) (n := 16) rfl) (hz_wg wX9_drawBench_0 (j := 55) (n := 6) rfl) (by decide)
theorem dX9_drawBench_56 : decode cX9_drawBench 56 = .ok (.idiv, 1) := dq_108 (hz_wg wX9_drawBench_0 (j := 56) (n := 108) rfl)
theorem dX9_drawBench_57 : decode cX9_drawBench 57 = .ok (.istore 4, 2) := dq_54 (hz_wg wX9_drawBench_0 (j := 57) (n := 54) rfl) (hz_wg wX9_drawBench_0 (j := 58) (n := 4) rfl)
theorem dX9_drawBench_59 : decode cX9_drawBench 59 = .ok (.iload 4, 2) := dq_21 (hz_wg wX9_drawBench_0 (j := 59) (n := 21) rfl) (hz_wg wX9_drawBench_0 (j := 60) (n := 4) rfl)
theorem dX9_drawBench_61 : decode cX9_drawBench 61 = .ok (.iconst 1, 1) := dq_4 (hz_wg wX9_drawBench_0 (j := 61) (n := 4) rfl)
theorem dX9_drawBench_62 : decode cX9_drawBench 62 = .ok (.if_icmp .ge 5, 3) := dq_162 (hz_wg wX9_drawBench_0 (j := 62) (n := 162) rfl) (hz_wg wX9_drawBench_0 (j := 63) (n := 0) rfl) (hz_wg wX9_drawBench_1 (j := 0) (n := 5) rfl) (by decide)
theorem dX9_drawBench_65 : decode cX9_drawBench 65 = .ok (.iconst 0, 1) := dq_3 (hz_wg wX9_drawBench_1 (j := 1) (n := 3) rfl)
theorem dX9_drawBench_66 : decode cX9_drawBench 66 = .ok (.ireturn, 1) := dq_172 (hz_wg wX9_drawBench_1 (j := 2) (n := 172) rfl)
theorem dX9_drawBench_67 : decode cX9_drawBench 67 = .ok (.iload_n 2, 1) := dq_28 (hz_wg wX9_drawBench_1 (j := 3) (n := 28) rfl)
theorem dX9_drawBench_68 : decode cX9_drawBench 68 = .ok (.iload 4, 2) := dq_21 (hz_wg wX9_drawBench_1 (j := 4) (n := 21) rfl) (hz_wg wX9_drawBench_1 (j := 5) (n := 4) rfl)
theorem dX9_drawBench_70 : decode cX9_drawBench 70 = .ok (.irem, 1) := dq_112 (hz_wg wX9_drawBench_1 (j := 6) (n := 112) rfl)
theorem dX9_drawBench_71 : decode cX9_drawBench 71 = .ok (.istore 5, 2) := dq_54 (hz_wg wX9_drawBench_1 (j := 7) (n := 54) rfl) (hz_wg wX9_drawBench_1 (j := 8) (n := 5) rfl)
theorem dX9_drawBench_73 : decode cX9_drawBench 73 = .ok (.iconst 0, 1) := dq_3 (hz_wg wX9_drawBench_1 (j := 9) (n := 3) rfl)
theorem dX9_drawBench_74 : decode cX9_drawBench 74 = .ok (.istore 6, 2) := dq_54 (hz_wg wX9_drawBench_1 (j := 10) (n := 54) rfl) (hz_wg wX9_drawBench_1 (j := 11) (n := 6) rfl)
theorem dX9_drawBench_76 : decode cX9_drawBench 76 = .ok (.iload 6, 2) := dq_21 (hz_wg wX9_drawBench_1 (j := 12) (n := 21) rfl) (hz_wg wX9_drawBench_1 (j := 13) (n := 6) rfl)
theorem dX9_drawBench_78 : decode cX9_drawBench 78 = .ok (.iload_n 3, 1) := dq_29 (hz_wg wX9_drawBench_1 (j := 14) (n := 29) rfl)
theorem dX9_drawBench_79 : decode cX9_drawBench 79 = .ok (.if_icmp .ge 95, 3) := dq_162 (hz_wg wX9_drawBench_1 (j := 15) (n := 162) rfl) (hz_wg wX9_drawBench_1 (j := 16) (n := 0) rfl) (hz_wg wX9_drawBench_1 (j := 17) (n := 95) rfl) (by decide)
theorem dX9_drawBench_82 : decode cX9_drawBench 82 = .ok (.iload 6, 2) := dq_21 (hz_wg wX9_drawBench_1 (j := 18) (n := 21) rfl) (hz_wg wX9_drawBench_1 (j := 19) (n := 6) rfl)
theorem dX9_drawBench_84 : decode cX9_drawBench 84 = .ok (.iconst 1, 1) := dq_4 (hz_wg wX9_drawBench_1 (j := 20) (n := 4) rfl)
theorem dX9_drawBench_85 : decode cX9_drawBench 85 = .ok (.iadd, 1) := dq_96 (hz_wg wX9_drawBench_1 (j := 21) (n := 96) rfl)
theorem dX9_drawBench_86 : decode cX9_drawBench 86 = .ok (.istore 7, 2) := dq_54 (hz_wg wX9_drawBench_1 (j := 22) (n := 54) rfl) (hz_wg wX9_drawBench_1 (j := 23) (n := 7) rfl)
theorem dX9_drawBench_88 : decode cX9_drawBench 88 = .ok (.iload 7, 2) := dq_21 (hz_wg wX9_drawBench_1 (j := 24) (n := 21) rfl) (hz_wg wX9_drawBench_1 (j := 25) (n := 7) rfl)
theorem dX9_drawBench_90 : decode cX9_drawBench 90 = .ok (.iload_n 3, 1) := dq_29 (hz_wg wX9_drawBench_1 (j := 26) (n := 29) rfl)
theorem dX9_drawBench_91 : decode cX9_drawBench 91 = .ok (.if_icmp .ge 77, 3) := dq_162 (hz_wg wX9_drawBench_1 (j := 27) (n := 162) rfl) (hz_wg wX9_drawBench_1 (j := 28) (n := 0) rfl) (hz_wg wX9_drawBench_1 (j := 29) (n := 77) rfl) (by decide)
theorem dX9_drawBench_94 : decode cX9_drawBench 94 = .ok (.iload_n 3, 1) := dq_29 (hz_wg wX9_drawBench_1 (j := 30) (n := 29) rfl)
theorem dX9_drawBench_95 : decode cX9_drawBench 95 = .ok (.iload 7, 2) := dq_21 (hz_wg wX9_drawBench_1 (j := 31) (n := 21) rfl) (hz_wg wX9_drawBench_1 (j := 32) (n := 7) rfl)
theorem dX9_drawBench_97 : decode cX9_drawBench 97 = .ok (.isub, 1) := dq_100 (hz_wg wX9_drawBench_1 (j := 33) (n := 100) rfl)
theorem dX9_drawBench_98 : decode cX9_drawBench 98 = .ok (.iconst 1, 1) := dq_4 (hz_wg wX9_drawBench_1 (j := 34) (n := 4) rfl)
theorem dX9_drawBench_99 : decode cX9_drawBench 99 = .ok (.isub, 1) := dq_100 (hz_wg wX9_drawBench_1 (j := 35) (n := 100) rfl)
theorem dX9_drawBench_100 : decode cX9_drawBench 100 = .ok (.istore 8, 2) := dq_54 (hz_wg wX9_drawBench_1 (j := 36) (n := 54) rfl) (hz_wg wX9_drawBench_1 (j := 37) (n := 8) rfl)
theorem dX9_drawBench_102 : decode cX9_drawBench 102 = .ok (.iload 5, 2) := dq_21 (hz_wg wX9_drawBench_1 (j := 38) (n := 21) rfl) (hz_wg wX9_drawBench_1 (j := 39) (n := 5) rfl)
theorem dX9_drawBench_104 : decode cX9_drawBench 104 = .ok (.iload 8, 2) := dq_21 (hz_wg wX9_drawBench_1 (j := 40) (n := 21) rfl) (hz_wg wX9_drawBench_1 (j := 41) (n := 8) rfl)
theorem dX9_drawBench_106 : decode cX9_drawBench 106 = .ok (.if_icmp .ge 49, 3) := dq_162 (hz_wg wX9_drawBench_1 (j := 42) (n := 162) rfl) (hz_wg wX9_drawBench_1 (j := 43) (n := 0) rfl) (hz_wg wX9_drawBench_1 (j := 44) (n := 49) rfl) (by decide)
theorem dX9_drawBench_109 : decode cX9_drawBench 109 = .ok (.aload_n 1, 1) := dq_43 (hz_wg wX9_drawBench_1 (j := 45) (n := 43) rfl)
theorem dX9_drawBench_110 : decode cX9_drawBench 110 = .ok (.getfield 240, 3) := dq_180 (hz_wg wX9_drawBench_1 (j := 46) (n := 180) rfl) (hz_wg wX9_drawBench_1 (j := 47) (n := 0) rfl) (hz_wg wX9_drawBench_1 (j := 48) (n := 240) rfl) rfl
theorem dX9_drawBench_113 : decode cX9_drawBench 113 = .ok (.iconst 0, 1) := dq_3 (hz_wg wX9_drawBench_1 (j := 49) (n := 3) rfl)
theorem dX9_drawBench_114 : decode cX9_drawBench 114 = .ok (.aload_n 0, 1) := dq_42 (hz_wg wX9_drawBench_1 (j := 50) (n := 42) rfl)
theorem dX9_drawBench_115 : decode cX9_drawBench 115 = .ok (.getfield 62, 3) := dq_180 (hz_wg wX9_drawBench_1 (j := 51) (n := 180) rfl) (hz_wg wX9_drawBench_1 (j := 52) (n := 0) rfl) (hz_wg wX9_drawBench_1 (j := 53) (n := 62) rfl) rfl
theorem dX9_drawBench_118 : decode cX9_drawBench 118 = .ok (.iload 6, 2) := dq_21 (hz_wg wX9_drawBench_1 (j := 54) (n := 21) rfl) (hz_wg wX9_drawBench_1 (j := 55) (n := 6) rfl)
theorem dX9_drawBench_120 : decode cX9_drawBench 120 = .ok (.iaload, 1) := dq_46 (hz_wg wX9_drawBench_1 (j := 56) (n := 46) rfl)
theorem dX9_drawBench_121 : decode cX9_drawBench 121 = .ok (.iastore, 1) := dq_79 (hz_wg wX9_drawBench_1 (j := 57) (n := 79) rfl)
theorem dX9_drawBench_122 : decode cX9_drawBench 122 = .ok (.aload_n 1, 1) := dq_43 (hz_wg wX9_drawBench_1 (j := 58) (n := 43) rfl)
theorem dX9_drawBench_123 : decode cX9_drawBench 123 = .ok (.getfield 240, 3) := dq_180 (hz_wg wX9_drawBench_1 (j := 59) (n := 180) rfl) (hz_wg wX9_drawBench_1 (j := 60) (n := 0) rfl) (hz_wg wX9_drawBench_1 (j := 61) (n := 240) rfl) rfl
theorem dX9_drawBench_126 : decode cX9_drawBench 126 = .ok (.iconst 1, 1) := dq_4 (hz_wg wX9_drawBench_1 (j := 62) (n := 4) rfl)
theorem dX9_drawBench_127 : decode cX9_drawBench 127 = .ok (.aload_n 0, 1) := dq_42 (hz_wg wX9_drawBench_1 (j := 63) (n := 42) rfl)
theorem dX9_drawBench_128 : decode cX9_drawBench 128 = .ok (.getfield 62, 3) := dq_180 (hz_wg wX9_drawBench_2 (j := 0) (n := 180) rfl) (hz_wg wX9_drawBench_2 (j := 1) (n := 0) rfl) (hz_wg wX9_drawBench_2 (j := 2) (n := 62) rfl) rfl
theorem dX9_drawBench_131 : decode cX9_drawBench 131 = .ok (.iload 7, 2) := dq_21 (hz_wg wX9_drawBench_2 (j := 3) (n := 21) rfl) (hz_wg wX9_drawBench_2 (j := 4) (n := 7) rfl)
theorem dX9_drawBench_133 : decode cX9_drawBench 133 = .ok (.iaload, 1) := dq_46 (hz_wg wX9_drawBench_2 (j := 5) (n := 46) rfl)
theorem dX9_drawBench_134 : decode cX9_drawBench 134 = .ok (.iastore, 1) := dq_79 (hz_wg wX9_drawBench_2 (j := 6) (n := 79) rfl)
theorem dX9_drawBench_135 : decode cX9_drawBench 135 = .ok (.aload_n 1, 1) := dq_43 (hz_wg wX9_drawBench_2 (j := 7) (n := 43) rfl)
theorem dX9_drawBench_136 : decode cX9_drawBench 136 = .ok (.getfield 240, 3) := dq_180 (hz_wg wX9_drawBench_2 (j := 8) (n := 180) rfl) (hz_wg wX9_drawBench_2 (j := 9) (n := 0) rfl) (hz_wg wX9_drawBench_2 (j := 10) (n := 240) rfl) rfl
theorem dX9_drawBench_139 : decode cX9_drawBench 139 = .ok (.iconst 2, 1) := dq_5 (hz_wg wX9_drawBench_2 (j := 11) (n := 5) rfl)
theorem dX9_drawBench_140 : decode cX9_drawBench 140 = .ok (.aload_n 0, 1) := dq_42 (hz_wg wX9_drawBench_2 (j := 12) (n := 42) rfl)
theorem dX9_drawBench_141 : decode cX9_drawBench 141 = .ok (.getfield 62, 3) := dq_180 (hz_wg wX9_drawBench_2 (j := 13) (n := 180) rfl) (hz_wg wX9_drawBench_2 (j := 14) (n := 0) rfl) (hz_wg wX9_drawBench_2 (j := 15) (n := 62) rfl) rfl
theorem dX9_drawBench_144 : decode cX9_drawBench 144 = .ok (.iload 7, 2) := dq_21 (hz_wg wX9_drawBench_2 (j := 16) (n := 21) rfl) (hz_wg wX9_drawBench_2 (j := 17) (n := 7) rfl)
theorem dX9_drawBench_146 : decode cX9_drawBench 146 = .ok (.iconst 1, 1) := dq_4 (hz_wg wX9_drawBench_2 (j := 18) (n := 4) rfl)
theorem dX9_drawBench_147 : decode cX9_drawBench 147 = .ok (.iadd, 1) := dq_96 (hz_wg wX9_drawBench_2 (j := 19) (n := 96) rfl)
theorem dX9_drawBench_148 : decode cX9_drawBench 148 = .ok (.iload 5, 2) := dq_21 (hz_wg wX9_drawBench_2 (j := 20) (n := 21) rfl) (hz_wg wX9_drawBench_2 (j := 21) (n := 5) rfl)
theorem dX9_drawBench_150 : decode cX9_drawBench 150 = .ok (.iadd, 1) := dq_96 (hz_wg wX9_drawBench_2 (j := 22) (n := 96) rfl)
theorem dX9_drawBench_151 : decode cX9_drawBench 151 = .ok (.iaload, 1) := dq_46 (hz_wg wX9_drawBench_2 (j := 23) (n := 46) rfl)
theorem dX9_drawBench_152 : decode cX9_drawBench 152 = .ok (.iastore, 1) := dq_79 (hz_wg wX9_drawBench_2 (j := 24) (n := 79) rfl)
theorem dX9_drawBench_153 : decode cX9_drawBench 153 = .ok (.iconst 1, 1) := dq_4 (hz_wg wX9_drawBench_2 (j := 25) (n := 4) rfl)
theorem dX9_drawBench_154 : decode cX9_drawBench 154 = .ok (.ireturn, 1) := dq_172 (hz_wg wX9_drawBench_2 (j := 26) (n := 172) rfl)
theorem dX9_drawBench_155 : decode cX9_drawBench 155 = .ok (.iload 5, 2) := dq_21 (hz_wg wX9_drawBench_2 (j := 27) (n := 21) rfl) (hz_wg wX9_drawBench_2 (j := 28) (n := 5) rfl)
theorem dX9_drawBench_157 : decode cX9_drawBench 157 = .ok (.iload 8, 2) := dq_21 (hz_wg wX9_drawBench_2 (j := 29) (n := 21) rfl) (hz_wg wX9_drawBench_2 (j := 30) (n := 8) rfl)
theorem dX9_drawBench_159 : decode cX9_drawBench 159 = .ok (.isub, 1) := dq_100 (hz_wg wX9_drawBench_2 (j := 31) (n := 100) rfl)
theorem dX9_drawBench_160 : decode cX9_drawBench 160 = .ok (.istore 5, 2) := dq_54 (hz_wg wX9_drawBench_2 (j := 32) (n := 54) rfl) (hz_wg wX9_drawBench_2 (j := 33) (n := 5) rfl)
theorem dX9_drawBench_162 : decode cX9_drawBench 162 = .ok (.iinc 7 1, 3) := dq_132 (hz_wg wX9_drawBench_2 (j := 34) (n := 132) rfl) (hz_wg wX9_drawBench_2 (j := 35) (n := 7) rfl) (hz_wg wX9_drawBench_2 (j := 36) (n := 1) rfl) (by decide)
theorem dX9_drawBench_165 : decode cX9_drawBench 165 = .ok (.goto (-77), 3) := dq_167 (hz_wg wX9_drawBench_2 (j := 37) (n := 167) rfl) (hz_wg wX9_drawBench_2 (j := 38) (n := 255) rfl) (hz_wg wX9_drawBench_2 (j := 39) (n := 179) rfl) (by decide)
theorem dX9_drawBench_168 : decode cX9_drawBench 168 = .ok (.iinc 6 1, 3) := dq_132 (hz_wg wX9_drawBench_2 (j := 40) (n := 132) rfl) (hz_wg wX9_drawBench_2 (j := 41) (n := 6) rfl) (hz_wg wX9_drawBench_2 (j := 42) (n := 1) rfl) (by decide)
theorem dX9_drawBench_171 : decode cX9_drawBench 171 = .ok (.goto (-95), 3) := dq_167 (hz_wg wX9_drawBench_2 (j := 43) (n := 167) rfl) (hz_wg wX9_drawBench_2 (j := 44) (n := 255) rfl) (hz_wg wX9_drawBench_2 (j := 45) (n := 161) rfl) (by decide)
theorem dX9_drawBench_174 : decode cX9_drawBench 174 = .ok (.iconst 0, 1) := dq_3 (hz_wg wX9_drawBench_2 (j := 46) (n := 3) rfl)
theorem dX9_drawBench_175 : decode cX9_drawBench 175 = .ok (.ireturn, 1) := dq_172 (hz_wg wX9_drawBench_2 (j := 47) (n := 172) rfl)
set_option maxHeartbeats 4000000 in
set_option maxRecDepth 100000 in
theorem t_X9_drawBench (l : Launch) (dC : Nat → ClassId) (dI : Nat → Nat → Nat) (dA : Nat → ClassId) (L : List Nat) (h : hx_h) (sz : Nat) (x : Nat) (v1 : Nat) (i2 : Int32) (hT : hx_T T_tb L h) (gx : hx_g L h x 9) (gv1 : hx_g L h v1 2) (hi2 : 0 ≤ i2.toInt) (qp : Nat) (gqp : hx_g L h qp 44) (f_x_7 : h.2.2 x 7 = some qp) (pf_x_8 : ∀ j : Nat, (j : Int) < (h.2.1 x 8).toInt → h.2.2 qp j ≠ none) : Met l yX9_drawBench (Cond.code yX9_drawBench cX9_drawBench 9 (some .boolean) :: hx_all) ({ frames := 2, cells := 0, slots := 0, locals := 42 }) (va_Pc [.ref x, .ref v1, .int i2] (hx_B T_tb (P_ty dA) (dC, dI) vwCl L h sz)) (va_Qi (fun (r : Int32) (u : List Nat × hx_h) => (r.toInt = 0 ∨ r.toInt = 1) ∧ hx_T T_tb u.1 u.2 ∧ hx_S T_tb [(21, 0), (47, 0)] L h u.1 u.2) (hx_E T_tb (P_ty dA) (dC, dI) vwCl (hx_A L sz)) (hx_A L sz)) 0 0 (hx_A L sz) := by
  refine hx_met (lv := [(0, .ref x), (1, .ref v1), (2, .int i2)]) (by decide +kernel) rfl (Nat.le_of_ble_eq_true rfl) rfl ?_
  intro p e s m below meth c hx hb hml hr hlk hts0 hown hin hsz hW ls hl
  have hts : ∀ w ∈ hx_all, w.before _ s = true := fun w hw => hts0 w (List.mem_cons_of_mem _ hw)
  have hown : s.vm.findClass "SmallCourt" = some m.cls := hown
  have hM : hx_S T_tb [(21, 0), (47, 0)] L h L h := hx_S.rf
  refine lv_iconst (v := 0) hx hb dX9_drawBench_0 (by decide) ?_
  refine lv_istore_n (lv' := [(3, .int (0 : Int32)), (0, .ref x), (1, .ref v1), (2, .int i2)]) hx hb dX9_drawBench_1 rfl hl (by decide) rfl (fun ls hl => ?_)
  refine lv_iconst (v := 0) hx hb dX9_drawBench_2 (by decide) ?_
  refine lv_istore (lv' := [(4, .int (0 : Int32)), (3, .int (0 : Int32)), (0, .ref x), (1, .ref v1), (2, .int i2)]) hx hb dX9_drawBench_3 hl (by decide) rfl (fun ls hl => ?_)
  have loop5 : ∀ (n5 : Nat) (iv5_3 iv5_4 : Int32) (H : Heap) (locs : List Loc) (hL1 : List Nat) (hl1 : hx_h), 0 ≤ iv5_3.toInt → iv5_3.toInt ≤ 40 → 0 ≤ iv5_4.toInt → iv5_4.toInt ≤ 40 → (iv5_3.toInt <= iv5_4.toInt) → ∀ (ls : Array Slot), 40 - iv5_4.toInt < (n5 : Int) → hx_W T_tb (P_ty dA) (dC, dI) vwCl (hx_A L sz) s.heap hL1 hl1 s H locs → hx_T T_tb hL1 hl1 → hx_S T_tb [(21, 0), (47, 0)] L h hL1 hl1 → (∀ j : Nat, (j : Int) < (hl1.2.1 x 8).toInt → hl1.2.2 qp j ≠ none) → lv_has ls 9 [(4, .int iv5_4), (3, .int iv5_3), (0, .ref x), (1, .ref v1), (2, .int i2)] → W p l e ({ frames := 2, cells := 0, slots := 0, locals := 42 }) s m ([.ref x, .ref v1, .int i2] : List Value).toArray below meth c H locs 0 0 (MQ below (va_Qi (fun (r : Int32) (u : List Nat × hx_h) => (r.toInt = 0 ∨ r.toInt = 1) ∧ hx_T T_tb u.1 u.2 ∧ hx_S T_tb [(21, 0), (47, 0)] L h u.1 u.2) (hx_E T_tb (P_ty dA) (dC, dI) vwCl (hx_A L sz)) (hx_A L sz)) ([.ref x, .ref v1, .int i2] : List Value).toArray s 0 0 (hx_A L sz)) (F0 m 5 ls []) := by
    intro n5
    induction n5 with
    | zero => intro iv5_3 iv5_4 H locs hL1 hl1 bliv5_3 buiv5_3 bliv5_4 buiv5_4 vi5_0 ls hn5; exfalso; omega
    | succ n5 ih5 =>
      intro iv5_3 iv5_4 H locs hL1 hl1 bliv5_3 buiv5_3 bliv5_4 buiv5_4 vi5_0 ls hn5 hW hT hM  pf_x_8 hl
      refine lv_iload hx hb dX9_drawBench_5 (lv_at hl 0 rfl) ?_
      refine lv_aload_n hx hb dX9_drawBench_7 rfl (lv_at hl 2 rfl) ?_
      refine hx_geti hx hb hts hC_9 hown hW hT (gx.S hM) tt_9 8 (by decide) rfl kw_372 ⟨rfl, rfl, rfl⟩ dX9_drawBench_8 (fun x_1 ex_1 lx_1 ux_1 => ?_)
      have fx_1 := ex_1.symm
      refine hb_icmp_ge (zx := iv5_4.toInt) (zy := x_1.toInt) (tgt := 45) hx hb rfl rfl dX9_drawBench_11 (by decide) (fun c_2 => ?_) (fun c_2 => ?_)
      · skip
        refine lv_iload_n hx hb dX9_drawBench_45 rfl (lv_at hl 1 rfl) ?_
        refine lv_iload_n hx hb dX9_drawBench_46 rfl (lv_at hl 1 rfl) ?_
        refine lv_iconst (v := 1) hx hb dX9_drawBench_47 (by decide) ?_
        refine lv_isub hx hb dX9_drawBench_48 ?_
        have rg_3 := i32_r iv5_3
        refine lv_topi (fun x_4 ex_4 => ?_)
        have zx_4 : x_4.toInt = iv5_3.toInt - 1 := by rw [ex_4]; exact i32_sub rfl (by decide) (by omega) (by omega)
        refine lv_imul hx hb dX9_drawBench_49 ?_
        refine lv_topi (fun x_5 ex_5 => ?_)
        have mx_5 : iv5_3.toInt = 0 → x_5.toInt = 0 := fun z => by rw [ex_5]; exact hx_mul0 z
        refine lv_iload_n hx hb dX9_drawBench_50 rfl (lv_at hl 1 rfl) ?_
        refine lv_iconst (v := 2) hx hb dX9_drawBench_51 (by decide) ?_
        refine lv_isub hx hb dX9_drawBench_52 ?_
        refine lv_topi (fun x_6 ex_6 => ?_)
        have zx_6 : x_6.toInt = iv5_3.toInt - 2 := by rw [ex_6]; exact i32_sub rfl (by decide) (by omega) (by omega)
        refine lv_imul hx hb dX9_drawBench_53 ?_
        refine lv_topi (fun x_7 ex_7 => ?_)
        have mx_7 : x_5.toInt = 0 → x_7.toInt = 0 := fun z => by rw [ex_7]; exact hx_mul0 z
        refine lv_bipush (v := 6) hx hb dX9_drawBench_54 (by decide) ?_
        refine lv_idiv hx hb dX9_drawBench_56 (by decide) ?_
        refine lv_topi (fun x_8 ex_8 => ?_)
        have zx_8 : -1073741824 ≤ x_8.toInt ∧ x_8.toInt ≤ 1073741824 := by rw [ex_8]; exact hx_divb (by decide)
        refine lv_istore (lv' := [(4, .int x_8), (3, .int iv5_3), (0, .ref x), (1, .ref v1), (2, .int i2)]) hx hb dX9_drawBench_57 hl (by decide) rfl (fun ls hl => ?_)
        refine lv_iload hx hb dX9_drawBench_59 (lv_at hl 0 rfl) ?_
        refine lv_iconst (v := 1) hx hb dX9_drawBench_61 (by decide) ?_
        refine hb_icmp_ge (zx := x_8.toInt) (zy := 1) (tgt := 67) hx hb rfl (by decide) dX9_drawBench_62 (by decide) (fun c_9 => ?_) (fun c_9 => ?_)
        · skip
          refine lv_iload_n hx hb dX9_drawBench_67 rfl (lv_at hl 4 rfl) ?_
          refine lv_iload hx hb dX9_drawBench_68 (lv_at hl 0 rfl) ?_
          refine lv_irem hx hb dX9_drawBench_70 (hx_ne0 (by omega)) ?_
          refine lv_topi (fun x_10 ex_10 => ?_)
          have zx_10 : 0 ≤ x_10.toInt ∧ x_10.toInt < x_8.toInt := by rw [ex_10]; exact hx_rem (by omega) (by omega)
          refine lv_istore (lv' := [(5, .int x_10), (4, .int x_8), (3, .int iv5_3), (0, .ref x), (1, .ref v1), (2, .int i2)]) hx hb dX9_drawBench_71 hl (by decide) rfl (fun ls hl => ?_)
          refine lv_iconst (v := 0) hx hb dX9_drawBench_73 (by decide) ?_
          refine lv_istore (lv' := [(6, .int (0 : Int32)), (5, .int x_10), (4, .int x_8), (3, .int iv5_3), (0, .ref x), (1, .ref v1), (2, .int i2)]) hx hb dX9_drawBench_74 hl (by decide) rfl (fun ls hl => ?_)
          have loop76 : ∀ (n76 : Nat) (iv76_5 iv76_6 : Int32) (H : Heap) (locs : List Loc) (hL1 : List Nat) (hl1 : hx_h), 0 ≤ iv76_5.toInt → iv76_5.toInt ≤ 1073741824 → 0 ≤ iv76_6.toInt → iv76_6.toInt ≤ 40 → ∀ (ls : Array Slot), 40 - iv76_6.toInt < (n76 : Int) → hx_W T_tb (P_ty dA) (dC, dI) vwCl (hx_A L sz) s.heap hL1 hl1 s H locs → hx_T T_tb hL1 hl1 → hx_S T_tb [(21, 0), (47, 0)] L h hL1 hl1 → hl1.2.1 x 8 = x_1 → (∀ j : Nat, (j : Int) < (hl1.2.1 x 8).toInt → hl1.2.2 qp j ≠ none) → lv_has ls 9 [(6, .int iv76_6), (5, .int iv76_5), (4, .int x_8), (3, .int iv5_3), (0, .ref x), (1, .ref v1), (2, .int i2)] → W p l e ({ frames := 2, cells := 0, slots := 0, locals := 42 }) s m ([.ref x, .ref v1, .int i2] : List Value).toArray below meth c H locs 0 0 (MQ below (va_Qi (fun (r : Int32) (u : List Nat × hx_h) => (r.toInt = 0 ∨ r.toInt = 1) ∧ hx_T T_tb u.1 u.2 ∧ hx_S T_tb [(21, 0), (47, 0)] L h u.1 u.2) (hx_E T_tb (P_ty dA) (dC, dI) vwCl (hx_A L sz)) (hx_A L sz)) ([.ref x, .ref v1, .int i2] : List Value).toArray s 0 0 (hx_A L sz)) (F0 m 76 ls []) := by
            intro n76
            induction n76 with
            | zero => intro iv76_5 iv76_6 H locs hL1 hl1 bliv76_5 buiv76_5 bliv76_6 buiv76_6  ls hn76; exfalso; omega
            | succ n76 ih76 =>
              intro iv76_5 iv76_6 H locs hL1 hl1 bliv76_5 buiv76_5 bliv76_6 buiv76_6  ls hn76 hW hT hM fx_1 pf_x_8 hl
              refine lv_iload hx hb dX9_drawBench_76 (lv_at hl 0 rfl) ?_
              refine lv_iload_n hx hb dX9_drawBench_78 rfl (lv_at hl 3 rfl) ?_
              refine hb_icmp_ge (zx := iv76_6.toInt) (zy := iv5_3.toInt) (tgt := 174) hx hb rfl rfl dX9_drawBench_79 (by decide) (fun c_11 => ?_) (fun c_11 => ?_)
              · skip
                refine lv_iconst (v := 0) hx hb dX9_drawBench_174 (by decide) ?_
                exact hx_retz hx hb hr rfl hlk hW ⟨(by decide), hT, hM⟩ dX9_drawBench_175
              · skip
                refine lv_iload hx hb dX9_drawBench_82 (lv_at hl 0 rfl) ?_
                refine lv_iconst (v := 1) hx hb dX9_drawBench_84 (by decide) ?_
                refine lv_iadd hx hb dX9_drawBench_85 ?_
                have rg_12 := i32_r iv76_6
                refine lv_topi (fun x_13 ex_13 => ?_)
                have zx_13 : x_13.toInt = iv76_6.toInt + 1 := by rw [ex_13]; exact i32_add rfl (by decide) (by omega) (by omega)
                refine lv_istore (lv' := [(7, .int x_13), (6, .int iv76_6), (5, .int iv76_5), (4, .int x_8), (3, .int iv5_3), (0, .ref x), (1, .ref v1), (2, .int i2)]) hx hb dX9_drawBench_86 hl (by decide) rfl (fun ls hl => ?_)
                have loop88 : ∀ (n88 : Nat) (iv88_5 iv88_7 : Int32) (H : Heap) (locs : List Loc) (hL1 : List Nat) (hl1 : hx_h), 0 ≤ iv88_5.toInt → iv88_5.toInt ≤ 1073741824 → 0 ≤ iv88_7.toInt → iv88_7.toInt ≤ 40 → ∀ (ls : Array Slot), 40 - iv88_7.toInt < (n88 : Int) → hx_W T_tb (P_ty dA) (dC, dI) vwCl (hx_A L sz) s.heap hL1 hl1 s H locs → hx_T T_tb hL1 hl1 → hx_S T_tb [(21, 0), (47, 0)] L h hL1 hl1 → hl1.2.1 x 8 = x_1 → (∀ j : Nat, (j : Int) < (hl1.2.1 x 8).toInt → hl1.2.2 qp j ≠ none) → lv_has ls 9 [(7, .int iv88_7), (6, .int iv76_6), (5, .int iv88_5), (4, .int x_8), (3, .int iv5_3), (0, .ref x), (1, .ref v1), (2, .int i2)] → W p l e ({ frames := 2, cells := 0, slots := 0, locals := 42 }) s m ([.ref x, .ref v1, .int i2] : List Value).toArray below meth c H locs 0 0 (MQ below (va_Qi (fun (r : Int32) (u : List Nat × hx_h) => (r.toInt = 0 ∨ r.toInt = 1) ∧ hx_T T_tb u.1 u.2 ∧ hx_S T_tb [(21, 0), (47, 0)] L h u.1 u.2) (hx_E T_tb (P_ty dA) (dC, dI) vwCl (hx_A L sz)) (hx_A L sz)) ([.ref x, .ref v1, .int i2] : List Value).toArray s 0 0 (hx_A L sz)) (F0 m 88 ls []) := by
                  intro n88
                  induction n88 with
                  | zero => intro iv88_5 iv88_7 H locs hL1 hl1 bliv88_5 buiv88_5 bliv88_7 buiv88_7  ls hn88; exfalso; omega
                  | succ n88 ih88 =>
                    intro iv88_5 iv88_7 H locs hL1 hl1 bliv88_5 buiv88_5 bliv88_7 buiv88_7  ls hn88 hW hT hM fx_1 pf_x_8 hl
                    refine lv_iload hx hb dX9_drawBench_88 (lv_at hl 0 rfl) ?_
                    refine lv_iload_n hx hb dX9_drawBench_90 rfl (lv_at hl 4 rfl) ?_
                    refine hb_icmp_ge (zx := iv88_7.toInt) (zy := iv5_3.toInt) (tgt := 168) hx hb rfl rfl dX9_drawBench_91 (by decide) (fun c_14 => ?_) (fun c_14 => ?_)
                    · skip
                      obtain ⟨x_15, ex_15⟩ : ∃ y : Int32, y = iv76_6 + Int32.ofInt 1 := ⟨_, rfl⟩
                      have zx_15 : x_15.toInt = iv76_6.toInt + (1) := by rw [ex_15]; exact i32_add rfl (by decide) (by omega) (by omega)
                      refine lv_iinc (v := x_15) (lv' := [(6, .int x_15), (7, .int iv88_7), (5, .int iv88_5), (4, .int x_8), (3, .int iv5_3), (0, .ref x), (1, .ref v1), (2, .int i2)]) hx hb dX9_drawBench_168 hl (k := 1) rfl ex_15.symm (by decide) rfl (fun ls hl => ?_)
                      refine lv_goto (tgt := 76) hx hb dX9_drawBench_171 (by decide) ?_
                      exact ih76 iv88_5 x_15 _ _ hL1 hl1 (by omega) (by omega) (by omega) (by omega)  ls (by omega) hW hT hM fx_1 pf_x_8 (lv_sub hl [0, 2, 3, 4, 5, 6, 7] rfl)
                    · skip
                      refine lv_iload_n hx hb dX9_drawBench_94 rfl (lv_at hl 4 rfl) ?_
                      refine lv_iload hx hb dX9_drawBench_95 (lv_at hl 0 rfl) ?_
                      refine lv_isub hx hb dX9_drawBench_97 ?_
                      have rg_16 := i32_r iv88_7
                      refine lv_topi (fun x_17 ex_17 => ?_)
                      have zx_17 : x_17.toInt = iv5_3.toInt - iv88_7.toInt := by rw [ex_17]; exact i32_sub rfl rfl (by omega) (by omega)
                      refine lv_iconst (v := 1) hx hb dX9_drawBench_98 (by decide) ?_
                      refine lv_isub hx hb dX9_drawBench_99 ?_
                      have rg_18 := i32_r x_17
                      refine lv_topi (fun x_19 ex_19 => ?_)
                      have zx_19 : x_19.toInt = x_17.toInt - 1 := by rw [ex_19]; exact i32_sub rfl (by decide) (by omega) (by omega)
                      refine lv_istore (lv' := [(8, .int x_19), (7, .int iv88_7), (6, .int iv76_6), (5, .int iv88_5), (4, .int x_8), (3, .int iv5_3), (0, .ref x), (1, .ref v1), (2, .int i2)]) hx hb dX9_drawBench_100 hl (by decide) rfl (fun ls hl => ?_)
                      refine lv_iload hx hb dX9_drawBench_102 (lv_at hl 3 rfl) ?_
                      refine lv_iload hx hb dX9_drawBench_104 (lv_at hl 0 rfl) ?_
                      refine hb_icmp_ge (zx := iv88_5.toInt) (zy := x_19.toInt) (tgt := 155) hx hb rfl rfl dX9_drawBench_106 (by decide) (fun c_20 => ?_) (fun c_20 => ?_)
                      · skip
                        refine lv_iload hx hb dX9_drawBench_155 (lv_at hl 3 rfl) ?_
                        refine lv_iload hx hb dX9_drawBench_157 (lv_at hl 0 rfl) ?_
                        refine lv_isub hx hb dX9_drawBench_159 ?_
                        have rg_21 := i32_r iv88_5
                        have rg_22 := i32_r x_19
                        refine lv_topi (fun x_23 ex_23 => ?_)
                        have zx_23 : x_23.toInt = iv88_5.toInt - x_19.toInt := by rw [ex_23]; exact i32_sub rfl rfl (by omega) (by omega)
                        refine lv_istore (lv' := [(5, .int x_23), (8, .int x_19), (7, .int iv88_7), (6, .int iv76_6), (4, .int x_8), (3, .int iv5_3), (0, .ref x), (1, .ref v1), (2, .int i2)]) hx hb dX9_drawBench_160 hl (by decide) rfl (fun ls hl => ?_)
                        obtain ⟨x_24, ex_24⟩ : ∃ y : Int32, y = iv88_7 + Int32.ofInt 1 := ⟨_, rfl⟩
                        have zx_24 : x_24.toInt = iv88_7.toInt + (1) := by rw [ex_24]; exact i32_add rfl (by decide) (by omega) (by omega)
                        refine lv_iinc (v := x_24) (lv' := [(7, .int x_24), (5, .int x_23), (8, .int x_19), (6, .int iv76_6), (4, .int x_8), (3, .int iv5_3), (0, .ref x), (1, .ref v1), (2, .int i2)]) hx hb dX9_drawBench_162 hl (k := 2) rfl ex_24.symm (by decide) rfl (fun ls hl => ?_)
                        refine lv_goto (tgt := 88) hx hb dX9_drawBench_165 (by decide) ?_
                        exact ih88 x_23 x_24 _ _ hL1 hl1 (by omega) (by omega) (by omega) (by omega)  ls (by omega) hW hT hM fx_1 pf_x_8 (lv_sub hl [0, 3, 1, 4, 5, 6, 7, 8] rfl)
                      · skip
                        refine lv_aload_n hx hb dX9_drawBench_109 rfl (lv_at hl 7 rfl) ?_
                        refine hx_getn hx hb hts hC_2 hown hW hT (gv1.S hM) tt_2 5 (by decide) rfl kw_740 ⟨rfl, rfl, rfl⟩ dX9_drawBench_110 (fun q_25 fq_25 gq_25 => ?_)
                        refine lv_iconst (v := 0) hx hb dX9_drawBench_113 (by decide) ?_
                        refine lv_aload_n hx hb dX9_drawBench_114 rfl (lv_at hl 6 rfl) ?_
                        refine hx_getn hx hb hts hC_9 hown hW hT (gx.S hM) tt_9 15 (by decide) rfl kw_379 ⟨rfl, rfl, rfl⟩ dX9_drawBench_115 (fun q_26 fq_26 gq_26 => ?_)
                        refine lv_iload hx hb dX9_drawBench_118 (lv_at hl 2 rfl) ?_
                        refine hx_iald hx hb hW hT gq_26 tt_47 rfl ⟨by omega, by omega⟩ dX9_drawBench_120 (fun x_27 ex_27 lx_27 ux_27 => ?_)
                        refine hx_iast hx hb hW hT (hx_S.rf (M := [(21, 0)])) gq_25 tt_21 rfl (by decide) rfl (i32_r _) (List.mem_singleton.mpr rfl) dX9_drawBench_121 (fun H locs h_28 eh_28 hW hT hs => ?_)
                        replace fx_1 := (hs.o (gx.S hM) trivial rfl).1.trans fx_1
                        replace fq_25 := (hs.o (gv1.S hM) trivial rfl).2.trans fq_25
                        replace fq_26 := (hs.o (gx.S hM) trivial rfl).2.trans fq_26
                        replace pf_x_8 : ∀ j : Nat, (j : Int) < (h_28.2.1 x 8).toInt → h_28.2.2 qp j ≠ none := by
                          intro j hj; rw [(hs.o (gx.S hM) trivial rfl).1] at hj; rw [(hs.a (gqp.S hM) rfl j).2]; exact pf_x_8 j hj
                        replace ex_27 := ex_27.trans (hs.a gq_26 rfl _).1.symm
                        replace hM := hM.tr (hs.mono (by decide))
                        replace gq_25 := gq_25.S hs
                        replace gq_26 := gq_26.S hs
                        refine lv_aload_n hx hb dX9_drawBench_122 rfl (lv_at hl 7 rfl) ?_
                        refine hk_getr hx hb hts hC_2 hown hW (gv1.S hM) tt_2 5 (by decide) rfl kw_740 ⟨rfl, rfl, rfl⟩ fq_25 dX9_drawBench_123 ?_
                        refine lv_iconst (v := 1) hx hb dX9_drawBench_126 (by decide) ?_
                        refine lv_aload_n hx hb dX9_drawBench_127 rfl (lv_at hl 6 rfl) ?_
                        refine hk_getr hx hb hts hC_9 hown hW (gx.S hM) tt_9 15 (by decide) rfl kw_379 ⟨rfl, rfl, rfl⟩ fq_26 dX9_drawBench_128 ?_
                        refine lv_iload hx hb dX9_drawBench_131 (lv_at hl 1 rfl) ?_
                        refine hx_iald hx hb hW hT gq_26 tt_47 rfl ⟨by omega, by omega⟩ dX9_drawBench_133 (fun x_29 ex_29 lx_29 ux_29 => ?_)
                        refine hx_iast hx hb hW hT (hx_S.rf (M := [(21, 0)])) gq_25 tt_21 rfl (by decide) rfl (i32_r _) (List.mem_singleton.mpr rfl) dX9_drawBench_134 (fun H locs h_30 eh_30 hW hT hs => ?_)
                        replace fx_1 := (hs.o (gx.S hM) trivial rfl).1.trans fx_1
                        replace fq_25 := (hs.o (gv1.S hM) trivial rfl).2.trans fq_25
                        replace fq_26 := (hs.o (gx.S hM) trivial rfl).2.trans fq_26
                        replace pf_x_8 : ∀ j : Nat, (j : Int) < (h_30.2.1 x 8).toInt → h_30.2.2 qp j ≠ none := by
                          intro j hj; rw [(hs.o (gx.S hM) trivial rfl).1] at hj; rw [(hs.a (gqp.S hM) rfl j).2]; exact pf_x_8 j hj
                        replace ex_27 := ex_27.trans (hs.a gq_26 rfl _).1.symm
                        replace ex_29 := ex_29.trans (hs.a gq_26 rfl _).1.symm
                        replace hM := hM.tr (hs.mono (by decide))
                        replace gq_25 := gq_25.S hs
                        replace gq_26 := gq_26.S hs
                        refine lv_aload_n hx hb dX9_drawBench_135 rfl (lv_at hl 7 rfl) ?_
                        refine hk_getr hx hb hts hC_2 hown hW (gv1.S hM) tt_2 5 (by decide) rfl kw_740 ⟨rfl, rfl, rfl⟩ fq_25 dX9_drawBench_136 ?_
                        refine lv_iconst (v := 2) hx hb dX9_drawBench_139 (by decide) ?_
                        refine lv_aload_n hx hb dX9_drawBench_140 rfl (lv_at hl 6 rfl) ?_
                        refine hk_getr hx hb hts hC_9 hown hW (gx.S hM) tt_9 15 (by decide) rfl kw_379 ⟨rfl, rfl, rfl⟩ fq_26 dX9_drawBench_141 ?_
                        refine lv_iload hx hb dX9_drawBench_144 (lv_at hl 1 rfl) ?_
                        refine lv_iconst (v := 1) hx hb dX9_drawBench_146 (by decide) ?_
                        refine lv_iadd hx hb dX9_drawBench_147 ?_
                        refine lv_topi (fun x_31 ex_31 => ?_)
                        have zx_31 : x_31.toInt = iv88_7.toInt + 1 := by rw [ex_31]; exact i32_add rfl (by decide) (by omega) (by omega)
                        refine lv_iload hx hb dX9_drawBench_148 (lv_at hl 3 rfl) ?_
                        refine lv_iadd hx hb dX9_drawBench_150 ?_
                        have rg_32 := i32_r x_31
                        have rg_33 := i32_r iv88_5
                        refine lv_topi (fun x_34 ex_34 => ?_)
                        have zx_34 : x_34.toInt = x_31.toInt + iv88_5.toInt := by rw [ex_34]; exact i32_add rfl rfl (by omega) (by omega)
                        refine hx_iald hx hb hW hT gq_26 tt_47 rfl ⟨by omega, by omega⟩ dX9_drawBench_151 (fun x_35 ex_35 lx_35 ux_35 => ?_)
                        refine hx_iast hx hb hW hT (hx_S.rf (M := [(21, 0)])) gq_25 tt_21 rfl (by decide) rfl (i32_r _) (List.mem_singleton.mpr rfl) dX9_drawBench_152 (fun H locs h_36 eh_36 hW hT hs => ?_)
                        replace fx_1 := (hs.o (gx.S hM) trivial rfl).1.trans fx_1
                        replace fq_25 := (hs.o (gv1.S hM) trivial rfl).2.trans fq_25
                        replace fq_26 := (hs.o (gx.S hM) trivial rfl).2.trans fq_26
                        replace pf_x_8 : ∀ j : Nat, (j : Int) < (h_36.2.1 x 8).toInt → h_36.2.2 qp j ≠ none := by
                          intro j hj; rw [(hs.o (gx.S hM) trivial rfl).1] at hj; rw [(hs.a (gqp.S hM) rfl j).2]; exact pf_x_8 j hj
                        replace ex_27 := ex_27.trans (hs.a gq_26 rfl _).1.symm
                        replace ex_29 := ex_29.trans (hs.a gq_26 rfl _).1.symm
                        replace ex_35 := ex_35.trans (hs.a gq_26 rfl _).1.symm
                        replace hM := hM.tr (hs.mono (by decide))
                        replace gq_25 := gq_25.S hs
                        replace gq_26 := gq_26.S hs
                        refine lv_iconst (v := 1) hx hb dX9_drawBench_153 (by decide) ?_
                        exact hx_retz hx hb hr rfl hlk hW ⟨(by decide), hT, hM⟩ dX9_drawBench_154
                exact loop88 41 iv76_5 x_13 _ _ hL1 hl1 (by omega) (by omega) (by omega) (by omega)  ls (by omega) hW hT hM fx_1 pf_x_8 hl
          have zk_0 : (0 : Int32).toInt = 0 := by decide
          exact loop76 41 x_10 (0 : Int32) _ _ hL1 hl1 (by omega) (by omega) (by decide) (by decide)  ls (by omega) hW hT hM fx_1 pf_x_8 hl
        · skip
          refine lv_iconst (v := 0) hx hb dX9_drawBench_65 (by decide) ?_
          exact hx_retz hx hb hr rfl hlk hW ⟨(by decide), hT, hM⟩ dX9_drawBench_66
      · skip
        refine lv_aload_n hx hb dX9_drawBench_14 rfl (lv_at hl 2 rfl) ?_
        refine hk_getr hx hb hts hC_9 hown hW (gx.S hM) tt_9 7 (by decide) rfl kw_371 ⟨rfl, rfl, rfl⟩ ((hM.o gx trivial rfl).2.trans f_x_7) dX9_drawBench_15 ?_
        refine lv_iload hx hb dX9_drawBench_18 (lv_at hl 0 rfl) ?_
        refine hx_aaldN hx hb hW hT (gqp.S hM) tt_44 (t1 := 4) rfl ⟨by omega, by omega⟩ (pf_x_8 _ (by rw [fx_1]; exact hx_tnI (by omega) (by omega))) dX9_drawBench_20 (fun q_37 fq_37 gq_37 => ?_)
        refine lv_aload_n hx hb dX9_drawBench_21 rfl (lv_at hl 3 rfl) ?_
        refine hx_goi (hx_runV (As := [.ref v1]) (rest := []) ⟨hx, hb, hml, hown, hts⟩ hW gq_37 tt_4 (T := TX4) (N := 10) rfl (t_X4_maySit l dC dI dA hL1 hl1 H.size q_37 v1 hT gq_37 (gv1.S hM)) (cwV 1 hts (hx_gV kw_822 kw_819 kw_820 kw_821 kw_108) rfl rfl rfl (by decide +kernel) ⟨Nat.le_of_ble_eq_true rfl, Nat.le_of_ble_eq_true rfl⟩) rfl hl.1 rfl (Nat.le_of_ble_eq_true rfl) dX9_drawBench_22 ⟨Nat.le_of_ble_eq_true rfl, Nat.le_of_ble_eq_true rfl⟩) hW (fun r_40 L_38 h_39 H locs p_41 hW => ?_)
        obtain ⟨hr_42, hT, hs⟩ := p_41
        replace hT : hx_T T_tb L_38 h_39 := hT
        replace hs : hx_S T_tb [] hL1 hl1 L_38 h_39 := hs
        replace fx_1 := (hs.o (gx.S hM) trivial rfl).1.trans fx_1
        replace pf_x_8 : ∀ j : Nat, (j : Int) < (h_39.2.1 x 8).toInt → h_39.2.2 qp j ≠ none := by
          intro j hj; rw [(hs.o (gx.S hM) trivial rfl).1] at hj; rw [(hs.a (gqp.S hM) rfl j).2]; exact pf_x_8 j hj
        replace hM := hM.tr (hs.mono (by decide))
        replace gq_37 := gq_37.S hs
        refine hb_if_eq (zx := r_40.toInt) (tgt := 39) hx hb rfl dX9_drawBench_25 (by decide) (fun c_43 => ?_) (fun c_43 => ?_)
        · skip
          obtain ⟨x_44, ex_44⟩ : ∃ y : Int32, y = iv5_4 + Int32.ofInt 1 := ⟨_, rfl⟩
          have rg_45 := i32_r iv5_4
          have zx_44 : x_44.toInt = iv5_4.toInt + (1) := by rw [ex_44]; exact i32_add rfl (by decide) (by omega) (by omega)
          refine lv_iinc (v := x_44) (lv' := [(4, .int x_44), (3, .int iv5_3), (0, .ref x), (1, .ref v1), (2, .int i2)]) hx hb dX9_drawBench_39 hl (k := 0) rfl ex_44.symm (by decide) rfl (fun ls hl => ?_)
          refine lv_goto (tgt := 5) hx hb dX9_drawBench_42 (by decide) ?_
          exact ih5 iv5_3 x_44 _ _ L_38 h_39 (by omega) (by omega) (by omega) (by omega) (by omega) ls (by omega) hW hT hM  pf_x_8 (lv_sub hl [0, 1, 2, 3, 4] rfl)
        · skip
          refine lv_aload_n hx hb dX9_drawBench_28 rfl (lv_at hl 2 rfl) ?_
          refine hx_getn hx hb hts hC_9 hown hW hT (gx.S hM) tt_9 15 (by decide) rfl kw_379 ⟨rfl, rfl, rfl⟩ dX9_drawBench_29 (fun q_46 fq_46 gq_46 => ?_)
          refine lv_iload_n hx hb dX9_drawBench_32 rfl (lv_at hl 1 rfl) ?_
          refine lv_iload hx hb dX9_drawBench_33 (lv_at hl 0 rfl) ?_
          refine hx_iast hx hb hW hT (hx_S.rf (M := [(47, 0)])) gq_46 tt_47 rfl ⟨by omega, by omega⟩ rfl (i32_r _) (List.mem_singleton.mpr rfl) dX9_drawBench_35 (fun H locs h_47 eh_47 hW hT hs => ?_)
          replace fx_1 := (hs.o (gx.S hM) trivial rfl).1.trans fx_1
          replace fq_46 := (hs.o (gx.S hM) trivial rfl).2.trans fq_46
          replace pf_x_8 : ∀ j : Nat, (j : Int) < (h_47.2.1 x 8).toInt → h_47.2.2 qp j ≠ none := by
            intro j hj; rw [(hs.o (gx.S hM) trivial rfl).1] at hj; rw [(hs.a (gqp.S hM) rfl j).2]; exact pf_x_8 j hj
          replace hM := hM.tr (hs.mono (by decide))
          replace gq_37 := gq_37.S hs
          replace gq_46 := gq_46.S hs
          obtain ⟨x_48, ex_48⟩ : ∃ y : Int32, y = iv5_3 + Int32.ofInt 1 := ⟨_, rfl⟩
          have rg_49 := i32_r iv5_3
          have zx_48 : x_48.toInt = iv5_3.toInt + (1) := by rw [ex_48]; exact i32_add rfl (by decide) (by omega) (by omega)
          refine lv_iinc (v := x_48) (lv' := [(3, .int x_48), (4, .int iv5_4), (0, .ref x), (1, .ref v1), (2, .int i2)]) hx hb dX9_drawBench_36 hl (k := 1) rfl ex_48.symm (by decide) rfl (fun ls hl => ?_)
          obtain ⟨x_50, ex_50⟩ : ∃ y : Int32, y = iv5_4 + Int32.ofInt 1 := ⟨_, rfl⟩
          have rg_51 := i32_r iv5_4
          have zx_50 : x_50.toInt = iv5_4.toInt + (1) := by rw [ex_50]; exact i32_add rfl (by decide) (by omega) (by omega)
          refine lv_iinc (v := x_50) (lv' := [(4, .int x_50), (3, .int x_48), (0, .ref x), (1, .ref v1), (2, .int i2)]) hx hb dX9_drawBench_39 hl (k := 1) rfl ex_50.symm (by decide) rfl (fun ls hl => ?_)
          refine lv_goto (tgt := 5) hx hb dX9_drawBench_42 (by decide) ?_
          exact ih5 x_48 x_50 _ _ L_38 h_47 (by omega) (by omega) (by omega) (by omega) (by omega) ls (by omega) hW hT hM  pf_x_8 (lv_sub hl [0, 1, 2, 3, 4] rfl)
  have zk_0 : (0 : Int32).toInt = 0 := by decide
  have zk_0 : (0 : Int32).toInt = 0 := by decide
  exact loop5 41 (0 : Int32) (0 : Int32) _ _ L h (by decide) (by decide) (by decide) (by decide) (by omega) ls (by omega) hW hT hM  pf_x_8 hl
