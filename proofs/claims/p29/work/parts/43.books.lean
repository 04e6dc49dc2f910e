def wLX10_bookSum_0 : List Nat := [3, 54, 4, 3, 54, 5, 21, 5, 42, 180, 1, 95, 162, 0, 86, 42, 180, 0, 63, 21, 5, 46, 27, 160, 0, 69, 42, 180, 0, 66, 21, 5, 46, 28, 160, 0, 58, 42, 180, 0, 69, 21, 5, 46, 29, 163, 0, 47, 21, 4, 42, 180, 0, 72, 21, 5, 46, 153, 0, 14, 42, 180, 0, 72]
def wLX10_bookSum_1 : List Nat := [21, 5, 46, 6, 160, 0, 13, 42, 180, 0, 75, 21, 5, 46, 167, 0, 11, 42, 180, 0, 75, 21, 5, 46, 116, 96, 54, 4, 132, 5, 1, 167, 255, 167, 21, 4, 172]
theorem wX10_bookSum_0 : (cX10_bookSum.data.toList.map UInt8.toNat).drop 0 = wLX10_bookSum_0 ++ (wLX10_bookSum_1 ++ ([])) := by decide +kernel
theorem wX10_bookSum_1 : (cX10_bookSum.data.toList.map UInt8.toNat).drop 64 = wLX10_bookSum_1 ++ ([]) := hz_wn wX10_bookSum_0 rfl
theorem dX10_bookSum_0 : decode cX10_bookSum 0 = .ok (.iconst 0, 1) := dq_3 (hz_wg wX10_bookSum_0 (j := 0) (n := 3) rfl)
theorem dX10_bookSum_1 : decode cX10_bookSum 1 = .ok (.istore 4, 2) := dq_54 (hz_wg wX10_bookSum_0 (j := 1) (n := 54) rfl) (hz_wg wX10_bookSum_0 (j := 2) (n := 4) rfl)
theorem dX10_bookSum_3 : decode cX10_bookSum 3 = .ok (.iconst 0, 1) := dq_3 (hz_wg wX10_bookSum_0 (j := 3) (n := 3) rfl)
theorem dX10_bookSum_4 : decode cX10_bookSum 4 = .ok (.istore 5, 2) := dq_54 (hz_wg wX10_bookSum_0 (j := 4) (n := 54) rfl) (hz_wg wX10_bookSum_0 (j := 5) (n := 5) rfl)
theorem dX10_bookSum_6 : decode cX10_bookSum 6 = .ok (.iload 5, 2) := dq_21 (hz_wg wX10_bookSum_0 (j := 6) (n := 21) rfl) (hz_wg wX10_bookSum_0 (j := 7) (n := 5) rfl)
theorem dX10_bookSum_8 : decode cX10_bookSum 8 = .ok (.aload_n 0, 1) := dq_42 (hz_wg wX10_bookSum_0 (j := 8) (n := 42) rfl)
theorem dX10_bookSum_9 : decode cX10_bookSum 9 = .ok (.getfield 351, 3) := dq_180 (hz_wg wX10_bookSum_0 (j := 9) (n := 180) rfl) (hz_wg wX10_bookSum_0 (j := 10) (n := 1) rfl) (hz_wg wX10_bookSum_0 (j := 11) (n := 95) rfl) rfl
theorem dX10_bookSum_12 : decode cX10_bookSum 12 = .ok (.if_icmp .ge 86, 3) := dq_162 (hz_wg wX10_bookSum_0 (j := 12) (n := 162) rfl) (hz_wg wX10_bookSum_0 (j := 13) (n := 0) rfl) (hz_wg wX10_bookSum_0 (j := 14) (n := 86) rfl) (by decide)
theorem dX10_bookSum_15 : decode cX10_bookSum 15 = .ok (.aload_n 0, 1) := dq_42 (hz_wg wX10_bookSum_0 (j := 15) (n := 42) rfl)
theorem dX10_bookSum_16 : decode cX10_bookSum 16 = .ok (.getfield 63, 3) := dq_180 (hz_wg wX10_bookSum_0 (j := 16) (n := 180) rfl) (hz_wg wX10_bookSum_0 (j := 17) (n := 0) rfl) (hz_wg wX10_bookSum_0 (j := 18) (n := 63) rfl) rfl
theorem dX10_bookSum_19 : decode cX10_bookSum 19 = .ok (.iload 5, 2) := dq_21 (hz_wg wX10_bookSum_0 (j := 19) (n := 21) rfl) (hz_wg wX10_bookSum_0 (j := 20) (n := 5) rfl)
theorem dX10_bookSum_21 : decode cX10_bookSum 21 = .ok (.iaload, 1) := dq_46 (hz_wg wX10_bookSum_0 (j := 21) (n := 46) rfl)
theorem dX10_bookSum_22 : decode cX10_bookSum 22 = .ok (.iload_n 1, 1) := dq_27 (hz_wg wX10_bookSum_0 (j := 22) (n := 27) rfl)
theorem dX10_bookSum_23 : decode cX10_bookSum 23 = .ok (.if_icmp .ne 69, 3) := dq_160 (hz_wg wX10_bookSum_0 (j := 23) (n := 160) rfl) (hz_wg wX10_bookSum_0 (j := 24) (n := 0) rfl) (hz_wg wX10_bookSum_0 (j := 25) (n := 69) rfl) (by decide)
theorem dX10_bookSum_26 : decode cX10_bookSum 26 = .ok (.aload_n 0, 1) := dq_42 (hz_wg wX10_bookSum_0 (j := 26) (n := 42) rfl)
theorem dX10_bookSum_27 : decode cX10_bookSum 27 = .ok (.getfield 66, 3) := dq_180 (hz_wg wX10_bookSum_0 (j := 27) (n := 180) rfl) (hz_wg wX10_bookSum_0 (j := 28) (n := 0) rfl) (hz_wg wX10_bookSum_0 (j := 29) (n := 66) rfl) rfl
theorem dX10_bookSum_30 : decode cX10_bookSum 30 = .ok (.iload 5, 2) := dq_21 (hz_wg wX10_bookSum_0 (j := 30) (n := 21) rfl) (hz_wg wX10_bookSum_0 (j := 31) (n := 5) rfl)
theorem dX10_bookSum_32 : decode cX10_bookSum 32 = .ok (.iaload, 1) := dq_46 (hz_wg wX10_bookSum_0 (j := 32) (n := 46) rfl)
theorem dX10_bookSum_33 : decode cX10_bookSum 33 = .ok (.iload_n 2, 1) := dq_28 (hz_wg wX10_bookSum_0 (j := 33) (n := 28) rfl)
theorem dX10_bookSum_34 : decode cX10_bookSum 34 = .ok (.if_icmp .ne 58, 3) := dq_160 (hz_wg wX10_bookSum_0 (j := 34) (n := 160) rfl) (hz_wg wX10_bookSum_0 (j := 35) (n := 0) rfl) (hz_wg wX10_bookSum_0 (j := 36) (n := 58) rfl) (by decide)
theorem dX10_bookSum_37 : decode cX10_bookSum 37 = .ok (.aload_n 0, 1) := dq_42 (hz_wg wX10_bookSum_0 (j := 37) (n := 42) rfl)
theorem dX10_bookSum_38 : decode cX10_bookSum 38 = .ok (.getfield 69, 3) := dq_180 (hz_wg wX10_bookSum_0 (j := 38) (n := 180) rfl) (hz_wg wX10_bookSum_0 (j := 39) (n := 0) rfl) (hz_wg wX10_bookSum_0 (j := 40) (n := 69) rfl) rfl
theorem dX10_bookSum_41 : decode cX10_bookSum 41 = .ok (.iload 5, 2) := dq_21 (hz_wg wX10_bookSum_0 (j := 41) (n := 21) rfl) (hz_wg wX10_bookSum_0 (j := 42) (n := 5) rfl)
theorem dX10_bookSum_43 : decode cX10_bookSum 43 = .ok (.iaload, 1) := dq_46 (hz_wg wX10_bookSum_0 (j := 43) (n := 46) rfl)
theorem dX10_bookSum_44 : decode cX10_bookSum 44 = .ok (.iload_n 3, 1) := dq_29 (hz_wg wX10_bookSum_0 (j := 44) (n := 29) rfl)
theorem dX10_bookSum_45 : decode cX10_bookSum 45 = .ok (.if_icmp .gt 47, 3) := dq_163 (hz_wg wX10_bookSum_0 (j := 45) (n := 163) rfl) (hz_wg wX10_bookSum_0 (j := 46) (n := 0) rfl) (hz_wg wX10_bookSum_0 (j := 47) (n := 47) rfl) (by decide)
theorem dX10_bookSum_48 : decode cX10_bookSum 48 = .ok (.iload 4, 2) := dq_21 (hz_wg wX10_bookSum_0 (j := 48) (n := 21) rfl) (hz_wg wX10_bookSum_0 (j := 49) (n := 4) rfl)
theorem dX10_bookSum_50 : decode cX10_bookSum 50 = .ok (.aload_n 0, 1) := dq_42 (hz_wg wX10_bookSum_0 (j := 50) (n := 42) rfl)
theorem dX10_bookSum_51 : decode cX10_bookSum 51 = .ok (.getfield 72, 3) := dq_180 (hz_wg wX10_bookSum_0 (j := 51) (n := 180) rfl) (hz_wg wX10_bookSum_0 (j := 52) (n := 0) rfl) (hz_wg wX10_bookSum_0 (j := 53) (n := 72) rfl) rfl
theorem dX10_bookSum_54 : decode cX10_bookSum 54 = .ok (.iload 5, 2) := dq_21 (hz_wg wX10_bookSum_0 (j := 54) (n := 21) rfl) (hz_wg wX10_bookSum_0 (j := 55) (n := 5) rfl)
theorem dX10_bookSum_56 : decode cX10_bookSum 56 = .ok (.iaload, 1) := dq_46 (hz_wg wX10_bookSum_0 (j := 56) (n := 46) rfl)
theorem dX10_bookSum_57 : decode cX10_bookSum 57 = .ok (.ifCond .eq 14, 3) := dq_153 (hz_wg wX10_bookSum_0 (j := 57) (n := 153) rfl) (hz_wg wX10_bookSum_0 (j := 58) (n := 0) rfl) (hz_wg wX10_bookSum_0 (j := 59) (n := 14) rfl) (by decide)
theorem dX10_bookSum_60 : decode cX10_bookSum 60 = .ok (.aload_n 0, 1) := dq_42 (hz_wg wX10_bookSum_0 (j := 60) (n := 42) rfl)
theorem dX10_bookSum_61 : decode cX10_bookSum 61 = .ok (.getfield 72, 3) := dq_180 (hz_wg wX10_bookSum_0 (j := 61) (n := 180) rfl) (hz_wg wX10_bookSum_0 (j := 62) (n := 0) rfl) (hz_wg wX10_bookSum_0 (j := 63) (n := 72) rfl) rfl
theorem dX10_bookSum_64 : decode cX10_bookSum 64 = .ok (.iload 5, 2) := dq_21 (hz_wg wX10_bookSum_1 (j := 0) (n := 21) rfl) (hz_wg wX10_bookSum_1 (j := 1) (n := 5) rfl)
theorem dX10_bookSum_66 : decode cX10_bookSum 66 = .ok (.iaload, 1) := dq_46 (hz_wg wX10_bookSum_1 (j := 2) (n := 46) rfl)
theorem dX10_bookSum_67 : decode cX10_bookSum 67 = .ok (.iconst 3, 1) := dq_6 (hz_wg wX10_bookSum_1 (j := 3) (n := 6) rfl)
theorem dX10_bookSum_68 : decode cX10_bookSum 68 = .ok (.if_icmp .ne 13, 3) := dq_160 (hz_wg wX10_bookSum_1 (j := 4) (n := 160) rfl) (hz_wg wX10_bookSum_1 (j := 5) (n := 0) rfl) (hz_wg wX10_bookSum_1 (j := 6) (n := 13) rfl) (by decide)
theorem dX10_bookSum_71 : decode cX10_bookSum 71 = .ok (.aload_n 0, 1) := dq_42 (hz_wg wX10_bookSum_1 (j := 7) (n := 42) rfl)
theorem dX10_bookSum_72 : decode cX10_bookSum 72 = .ok (.getfield 75, 3) := dq_180 (hz_wg wX10_bookSum_1 (j := 8) (n := 180) rfl) (hz_wg wX10_bookSum_1 (j := 9) (n := 0) rfl) (hz_wg wX10_bookSum_1 (j := 10) (n := 75) rfl) rfl
theorem dX10_bookSum_75 : decode cX10_bookSum 75 = .ok (.iload 5, 2) := dq_21 (hz_wg wX10_bookSum_1 (j := 11) (n := 21) rfl) (hz_wg wX10_bookSum_1 (j := 12) (n := 5) rfl)
theorem dX10_bookSum_77 : decode cX10_bookSum 77 = .ok (.iaload, 1) := dq_46 (hz_wg wX10_bookSum_1 (j := 13) (n := 46) rfl)
theorem dX10_bookSum_78 : decode cX10_bookSum 78 = .ok (.goto 11, 3) := dq_167 (hz_wg wX10_bookSum_1 (j := 14) (n := 167) rfl) (hz_wg wX10_bookSum_1 (j := 15) (n := 0) rfl) (hz_wg wX10_bookSum_1 (j := 16) (n := 11) rfl) (by decide)
theorem dX10_bookSum_81 : decode cX10_bookSum 81 = .ok (.aload_n 0, 1) := dq_42 (hz_wg wX10_bookSum_1 (j := 17) (n := 42) rfl)
theorem dX10_bookSum_82 : decode cX10_bookSum 82 = .ok (.getfield 75, 3) := dq_180 (hz_wg wX10_bookSum_1 (j := 18) (n := 180) rfl) (hz_wg wX10_bookSum_1 (j := 19) (n := 0) rfl) (hz_wg wX10_bookSum_1 (j := 20) (n := 75) rfl) rfl
theorem dX10_bookSum_85 : decode cX10_bookSum 85 = .ok (.iload 5, 2) := dq_21 (hz_wg wX10_bookSum_1 (j := 21) (n := 21) rfl) (hz_wg wX10_bookSum_1 (j := 22) (n := 5) rfl)
theorem dX10_bookSum_87 : decode cX10_bookSum 87 = .ok (.iaload, 1) := dq_46 (hz_wg wX10_bookSum_1 (j := 23) (n := 46) rfl)
theorem dX10_bookSum_88 : decode cX10_bookSum 88 = .ok (.ineg, 1) := dq_116 (hz_wg wX10_bookSum_1 (j := 24) (n := 116) rfl)
theorem dX10_bookSum_89 : decode cX10_bookSum 89 = .ok (.iadd, 1) := dq_96 (hz_wg wX10_bookSum_1 (j := 25) (n := 96) rfl)
theorem dX10_bookSum_90 : decode cX10_bookSum 90 = .ok (.istore 4, 2) := dq_54 (hz_wg wX10_bookSum_1 (j := 26) (n := 54) rfl) (hz_wg wX10_bookSum_1 (j := 27) (n := 4) rfl)
theorem dX10_bookSum_92 : decode cX10_bookSum 92 = .ok (.iinc 5 1, 3) := dq_132 (hz_wg wX10_bookSum_1 (j := 28) (n := 132) rfl) (hz_wg wX10_bookSum_1 (j := 29) (n := 5) rfl) (hz_wg wX10_bookSum_1 (j := 30) (n := 1) rfl) (by decide)
theorem dX10_bookSum_95 : decode cX10_bookSum 95 = .ok (.goto (-89), 3) := dq_167 (hz_wg wX10_bookSum_1 (j := 31) (n := 167) rfl) (hz_wg wX10_bookSum_1 (j := 32) (n := 255) rfl) (hz_wg wX10_bookSum_1 (j := 33) (n := 167) rfl) (by decide)
theorem dX10_bookSum_98 : decode cX10_bookSum 98 = .ok (.iload 4, 2) := dq_21 (hz_wg wX10_bookSum_1 (j := 34) (n := 21) rfl) (hz_wg wX10_bookSum_1 (j := 35) (n := 4) rfl)
theorem dX10_bookSum_100 : decode cX10_bookSum 100 = .ok (.ireturn, 1) := dq_172 (hz_wg wX10_bookSum_1 (j := 36) (n := 172) rfl)
set_option maxHeartbeats 4000000 in
set_option maxRecDepth 100000 in
theorem t_X10_bookSum (l : Launch) (dC : Nat → ClassId) (dI : Nat → Nat → Nat) (dA : Nat → ClassId) (L : List Nat) (h : hx_h) (sz : Nat) (x : Nat) (i1 : Int32) (i2 : Int32) (i3 : Int32) (hT : hx_T T_tb L h) (gx : hx_g L h x 10)  : Met l yX10_bookSum (Cond.code yX10_bookSum cX10_bookSum 6 (some .int) :: hx_all) ({ frames := 0, cells := 0, slots := 0, locals := 0 }) (va_Pc [.ref x, .int i1, .int i2, .int i3] (hx_B T_tb (P_ty dA) (dC, dI) vwCl L h sz)) (va_Qi (fun (r : Int32) (u : List Nat × hx_h) => (True) ∧ hx_T T_tb u.1 u.2 ∧ hx_S T_tb [] L h u.1 u.2) (hx_E T_tb (P_ty dA) (dC, dI) vwCl (hx_A L sz)) (hx_A L sz)) 0 0 (hx_A L sz) := by
  refine hx_met (lv := [(0, .ref x), (1, .int i1), (2, .int i2), (3, .int i3)]) (by decide +kernel) rfl (Nat.le_of_ble_eq_true rfl) rfl ?_
  intro p e s m below meth c hx hb hml hr hlk hts0 hown hin hsz hW ls hl
  have hts : ∀ w ∈ hx_all, w.before _ s = true := fun w hw => hts0 w (List.mem_cons_of_mem _ hw)
  have hown : s.vm.findClass "SmallCourtModel" = some m.cls := hown
  have hM : hx_S T_tb [] L h L h := hx_S.rf
  refine lv_iconst (v := 0) hx hb dX10_bookSum_0 (by decide) ?_
  refine lv_istore (lv' := [(4, .int (0 : Int32)), (0, .ref x), (1, .int i1), (2, .int i2), (3, .int i3)]) hx hb dX10_bookSum_1 hl (by decide) rfl (fun ls hl => ?_)
  refine lv_iconst (v := 0) hx hb dX10_bookSum_3 (by decide) ?_
  refine lv_istore (lv' := [(5, .int (0 : Int32)), (4, .int (0 : Int32)), (0, .ref x), (1, .int i1), (2, .int i2), (3, .int i3)]) hx hb dX10_bookSum_4 hl (by decide) rfl (fun ls hl => ?_)
  have loop6 : ∀ (n6 : Nat) (iv6_4 iv6_5 : Int32) (H : Heap) (locs : List Loc) (hL1 : List Nat) (hl1 : hx_h), -2147483648 ≤ iv6_4.toInt → iv6_4.toInt ≤ 2147483647 → 0 ≤ iv6_5.toInt → iv6_5.toInt ≤ 400 → ∀ (ls : Array Slot), 400 - iv6_5.toInt < (n6 : Int) → hx_W T_tb (P_ty dA) (dC, dI) vwCl (hx_A L sz) s.heap hL1 hl1 s H locs → hx_T T_tb hL1 hl1 → hx_S T_tb [] L h hL1 hl1 → lv_has ls 6 [(5, .int iv6_5), (4, .int iv6_4), (0, .ref x), (1, .int i1), (2, .int i2), (3, .int i3)] → W p l e ({ frames := 0, cells := 0, slots := 0, locals := 0 }) s m ([.ref x, .int i1, .int i2, .int i3] : List Value).toArray below meth c H locs 0 0 (MQ below (va_Qi (fun (r : Int32) (u : List Nat × hx_h) => (True) ∧ hx_T T_tb u.1 u.2 ∧ hx_S T_tb [] L h u.1 u.2) (hx_E T_tb (P_ty dA) (dC, dI) vwCl (hx_A L sz)) (hx_A L sz)) ([.ref x, .int i1, .int i2, .int i3] : List Value).toArray s 0 0 (hx_A L sz)) (F0 m 6 ls []) := by
    intro n6
    induction n6 with
    | zero => intro iv6_4 iv6_5 H locs hL1 hl1 bliv6_4 buiv6_4 bliv6_5 buiv6_5  ls hn6; exfalso; omega
    | succ n6 ih6 =>
      intro iv6_4 iv6_5 H locs hL1 hl1 bliv6_4 buiv6_4 bliv6_5 buiv6_5  ls hn6 hW hT hM   hl
      refine lv_iload hx hb dX10_bookSum_6 (lv_at hl 0 rfl) ?_
      refine lv_aload_n hx hb dX10_bookSum_8 rfl (lv_at hl 2 rfl) ?_
      refine hx_geti hx hb hts hC_10 hown hW hT (gx.S hM) tt_10 29 (by decide) rfl kw_1172 ⟨rfl, rfl, rfl⟩ dX10_bookSum_9 (fun x_1 ex_1 lx_1 ux_1 => ?_)
      have fx_1 := ex_1.symm
      refine hb_icmp_ge (zx := iv6_5.toInt) (zy := x_1.toInt) (tgt := 98) hx hb rfl rfl dX10_bookSum_12 (by decide) (fun c_2 => ?_) (fun c_2 => ?_)
      · skip
        refine lv_iload hx hb dX10_bookSum_98 (lv_at hl 1 rfl) ?_
        exact hx_reti hx hb hr hlk hW ⟨trivial, hT, hM⟩ dX10_bookSum_100
      · skip
        refine lv_aload_n hx hb dX10_bookSum_15 rfl (lv_at hl 2 rfl) ?_
        refine hx_getn hx hb hts hC_10 hown hW hT (gx.S hM) tt_10 30 (by decide) rfl kw_1173 ⟨rfl, rfl, rfl⟩ dX10_bookSum_16 (fun q_3 fq_3 gq_3 => ?_)
        refine lv_iload hx hb dX10_bookSum_19 (lv_at hl 0 rfl) ?_
        refine hx_iald hx hb hW hT gq_3 tt_66 rfl ⟨by omega, by omega⟩ dX10_bookSum_21 (fun x_4 ex_4 lx_4 ux_4 => ?_)
        refine lv_iload_n hx hb dX10_bookSum_22 rfl (lv_at hl 3 rfl) ?_
        refine hb_icmp_ne (zx := x_4.toInt) (zy := i1.toInt) (tgt := 92) hx hb rfl rfl dX10_bookSum_23 (by decide) (fun c_5 => ?_) (fun c_5 => ?_)
        · skip
          obtain ⟨x_6, ex_6⟩ : ∃ y : Int32, y = iv6_5 + Int32.ofInt 1 := ⟨_, rfl⟩
          have rg_7 := i32_r iv6_5
          have zx_6 : x_6.toInt = iv6_5.toInt + (1) := by rw [ex_6]; exact i32_add rfl (by decide) (by omega) (by omega)
          refine lv_iinc (v := x_6) (lv' := [(5, .int x_6), (4, .int iv6_4), (0, .ref x), (1, .int i1), (2, .int i2), (3, .int i3)]) hx hb dX10_bookSum_92 hl (k := 0) rfl ex_6.symm (by decide) rfl (fun ls hl => ?_)
          refine lv_goto (tgt := 6) hx hb dX10_bookSum_95 (by decide) ?_
          exact ih6 iv6_4 x_6 _ _ hL1 hl1 (i32_r _).1 (i32_r _).2 (by omega) (by omega)  ls (by omega) hW hT hM   (lv_sub hl [0, 1, 2, 3, 4, 5] rfl)
        · skip
          refine lv_aload_n hx hb dX10_bookSum_26 rfl (lv_at hl 2 rfl) ?_
          refine hx_getn hx hb hts hC_10 hown hW hT (gx.S hM) tt_10 31 (by decide) rfl kw_1174 ⟨rfl, rfl, rfl⟩ dX10_bookSum_27 (fun q_8 fq_8 gq_8 => ?_)
          refine lv_iload hx hb dX10_bookSum_30 (lv_at hl 0 rfl) ?_
          refine hx_iald hx hb hW hT gq_8 tt_67 rfl ⟨by omega, by omega⟩ dX10_bookSum_32 (fun x_9 ex_9 lx_9 ux_9 => ?_)
          refine lv_iload_n hx hb dX10_bookSum_33 rfl (lv_at hl 4 rfl) ?_
          refine hb_icmp_ne (zx := x_9.toInt) (zy := i2.toInt) (tgt := 92) hx hb rfl rfl dX10_bookSum_34 (by decide) (fun c_10 => ?_) (fun c_10 => ?_)
          · skip
            obtain ⟨x_11, ex_11⟩ : ∃ y : Int32, y = iv6_5 + Int32.ofInt 1 := ⟨_, rfl⟩
            have rg_12 := i32_r iv6_5
            have zx_11 : x_11.toInt = iv6_5.toInt + (1) := by rw [ex_11]; exact i32_add rfl (by decide) (by omega) (by omega)
            refine lv_iinc (v := x_11) (lv' := [(5, .int x_11), (4, .int iv6_4), (0, .ref x), (1, .int i1), (2, .int i2), (3, .int i3)]) hx hb dX10_bookSum_92 hl (k := 0) rfl ex_11.symm (by decide) rfl (fun ls hl => ?_)
            refine lv_goto (tgt := 6) hx hb dX10_bookSum_95 (by decide) ?_
            exact ih6 iv6_4 x_11 _ _ hL1 hl1 (i32_r _).1 (i32_r _).2 (by omega) (by omega)  ls (by omega) hW hT hM   (lv_sub hl [0, 1, 2, 3, 4, 5] rfl)
          · skip
            refine lv_aload_n hx hb dX10_bookSum_37 rfl (lv_at hl 2 rfl) ?_
            refine hx_getn hx hb hts hC_10 hown hW hT (gx.S hM) tt_10 32 (by decide) rfl kw_1175 ⟨rfl, rfl, rfl⟩ dX10_bookSum_38 (fun q_13 fq_13 gq_13 => ?_)
            refine lv_iload hx hb dX10_bookSum_41 (lv_at hl 0 rfl) ?_
            refine hx_iald hx hb hW hT gq_13 tt_68 rfl ⟨by omega, by omega⟩ dX10_bookSum_43 (fun x_14 ex_14 lx_14 ux_14 => ?_)
            refine lv_iload_n hx hb dX10_bookSum_44 rfl (lv_at hl 5 rfl) ?_
            refine hb_icmp_gt (zx := x_14.toInt) (zy := i3.toInt) (tgt := 92) hx hb rfl rfl dX10_bookSum_45 (by decide) (fun c_15 => ?_) (fun c_15 => ?_)
            · skip
              obtain ⟨x_16, ex_16⟩ : ∃ y : Int32, y = iv6_5 + Int32.ofInt 1 := ⟨_, rfl⟩
              have rg_17 := i32_r iv6_5
              have zx_16 : x_16.toInt = iv6_5.toInt + (1) := by rw [ex_16]; exact i32_add rfl (by decide) (by omega) (by omega)
              refine lv_iinc (v := x_16) (lv' := [(5, .int x_16), (4, .int iv6_4), (0, .ref x), (1, .int i1), (2, .int i2), (3, .int i3)]) hx hb dX10_bookSum_92 hl (k := 0) rfl ex_16.symm (by decide) rfl (fun ls hl => ?_)
              refine lv_goto (tgt := 6) hx hb dX10_bookSum_95 (by decide) ?_
              exact ih6 iv6_4 x_16 _ _ hL1 hl1 (i32_r _).1 (i32_r _).2 (by omega) (by omega)  ls (by omega) hW hT hM   (lv_sub hl [0, 1, 2, 3, 4, 5] rfl)
            · skip
              refine lv_iload hx hb dX10_bookSum_48 (lv_at hl 1 rfl) ?_
              refine lv_aload_n hx hb dX10_bookSum_50 rfl (lv_at hl 2 rfl) ?_
              refine hx_getn hx hb hts hC_10 hown hW hT (gx.S hM) tt_10 33 (by decide) rfl kw_1176 ⟨rfl, rfl, rfl⟩ dX10_bookSum_51 (fun q_18 fq_18 gq_18 => ?_)
              refine lv_iload hx hb dX10_bookSum_54 (lv_at hl 0 rfl) ?_
              refine hx_iald hx hb hW hT gq_18 tt_69 rfl ⟨by omega, by omega⟩ dX10_bookSum_56 (fun x_19 ex_19 lx_19 ux_19 => ?_)
              refine hb_if_eq (zx := x_19.toInt) (tgt := 71) hx hb rfl dX10_bookSum_57 (by decide) (fun c_20 => ?_) (fun c_20 => ?_)
              · skip
                refine lv_aload_n hx hb dX10_bookSum_71 rfl (lv_at hl 2 rfl) ?_
                refine hx_getn hx hb hts hC_10 hown hW hT (gx.S hM) tt_10 34 (by decide) rfl kw_1177 ⟨rfl, rfl, rfl⟩ dX10_bookSum_72 (fun q_21 fq_21 gq_21 => ?_)
                refine lv_iload hx hb dX10_bookSum_75 (lv_at hl 0 rfl) ?_
                refine hx_iald hx hb hW hT gq_21 tt_70 rfl ⟨by omega, by omega⟩ dX10_bookSum_77 (fun x_22 ex_22 lx_22 ux_22 => ?_)
                refine lv_goto (tgt := 89) hx hb dX10_bookSum_78 (by decide) ?_
                refine lv_iadd hx hb dX10_bookSum_89 ?_
                have rg_23 := i32_r iv6_4
                have rg_24 := i32_r x_22
                refine lv_topi (fun x_25 ex_25 => ?_)
                refine lv_istore (lv' := [(4, .int x_25), (5, .int iv6_5), (0, .ref x), (1, .int i1), (2, .int i2), (3, .int i3)]) hx hb dX10_bookSum_90 hl (by decide) rfl (fun ls hl => ?_)
                obtain ⟨x_26, ex_26⟩ : ∃ y : Int32, y = iv6_5 + Int32.ofInt 1 := ⟨_, rfl⟩
                have rg_27 := i32_r iv6_5
                have zx_26 : x_26.toInt = iv6_5.toInt + (1) := by rw [ex_26]; exact i32_add rfl (by decide) (by omega) (by omega)
                refine lv_iinc (v := x_26) (lv' := [(5, .int x_26), (4, .int x_25), (0, .ref x), (1, .int i1), (2, .int i2), (3, .int i3)]) hx hb dX10_bookSum_92 hl (k := 1) rfl ex_26.symm (by decide) rfl (fun ls hl => ?_)
                refine lv_goto (tgt := 6) hx hb dX10_bookSum_95 (by decide) ?_
                exact ih6 x_25 x_26 _ _ hL1 hl1 (i32_r _).1 (i32_r _).2 (by omega) (by omega)  ls (by omega) hW hT hM   (lv_sub hl [0, 1, 2, 3, 4, 5] rfl)
              · skip
                refine lv_aload_n hx hb dX10_bookSum_60 rfl (lv_at hl 2 rfl) ?_
                refine hk_getr hx hb hts hC_10 hown hW (gx.S hM) tt_10 33 (by decide) rfl kw_1176 ⟨rfl, rfl, rfl⟩ fq_18 dX10_bookSum_61 ?_
                refine lv_iload hx hb dX10_bookSum_64 (lv_at hl 0 rfl) ?_
                refine hx_iald hx hb hW hT gq_18 tt_69 rfl ⟨by omega, by omega⟩ dX10_bookSum_66 (fun x_28 ex_28 lx_28 ux_28 => ?_)
                obtain rfl : x_19 = x_28 := ex_19.trans ex_28.symm
                refine lv_iconst (v := 3) hx hb dX10_bookSum_67 (by decide) ?_
                refine hb_icmp_ne (zx := x_19.toInt) (zy := 3) (tgt := 81) hx hb rfl (by decide) dX10_bookSum_68 (by decide) (fun c_29 => ?_) (fun c_29 => ?_)
                · skip
                  refine lv_aload_n hx hb dX10_bookSum_81 rfl (lv_at hl 2 rfl) ?_
                  refine hx_getn hx hb hts hC_10 hown hW hT (gx.S hM) tt_10 34 (by decide) rfl kw_1177 ⟨rfl, rfl, rfl⟩ dX10_bookSum_82 (fun q_30 fq_30 gq_30 => ?_)
                  refine lv_iload hx hb dX10_bookSum_85 (lv_at hl 0 rfl) ?_
                  refine hx_iald hx hb hW hT gq_30 tt_70 rfl ⟨by omega, by omega⟩ dX10_bookSum_87 (fun x_31 ex_31 lx_31 ux_31 => ?_)
                  refine lv_ineg hx hb dX10_bookSum_88 ?_
                  refine lv_topi (fun x_32 ex_32 => ?_)
                  refine lv_iadd hx hb dX10_bookSum_89 ?_
                  have rg_33 := i32_r iv6_4
                  have rg_34 := i32_r x_32
                  refine lv_topi (fun x_35 ex_35 => ?_)
                  refine lv_istore (lv' := [(4, .int x_35), (5, .int iv6_5), (0, .ref x), (1, .int i1), (2, .int i2), (3, .int i3)]) hx hb dX10_bookSum_90 hl (by decide) rfl (fun ls hl => ?_)
                  obtain ⟨x_36, ex_36⟩ : ∃ y : Int32, y = iv6_5 + Int32.ofInt 1 := ⟨_, rfl⟩
                  have rg_37 := i32_r iv6_5
                  have zx_36 : x_36.toInt = iv6_5.toInt + (1) := by rw [ex_36]; exact i32_add rfl (by decide) (by omega) (by omega)
                  refine lv_iinc (v := x_36) (lv' := [(5, .int x_36), (4, .int x_35), (0, .ref x), (1, .int i1), (2, .int i2), (3, .int i3)]) hx hb dX10_bookSum_92 hl (k := 1) rfl ex_36.symm (by decide) rfl (fun ls hl => ?_)
                  refine lv_goto (tgt := 6) hx hb dX10_bookSum_95 (by decide) ?_
                  exact ih6 x_35 x_36 _ _ hL1 hl1 (i32_r _).1 (i32_r _).2 (by omega) (by omega)  ls (by omega) hW hT hM   (lv_sub hl [0, 1, 2, 3, 4, 5] rfl)
                · skip
                  refine lv_aload_n hx hb dX10_bookSum_71 rfl (lv_at hl 2 rfl) ?_
                  refine hx_getn hx hb hts hC_10 hown hW hT (gx.S hM) tt_10 34 (by decide) rfl kw_1177 ⟨rfl, rfl, rfl⟩ dX10_bookSum_72 (fun q_38 fq_38 gq_38 => ?_)
                  refine lv_iload hx hb dX10_bookSum_75 (lv_at hl 0 rfl) ?_
                  refine hx_iald hx hb hW hT gq_38 tt_70 rfl ⟨by omega, by omega⟩ dX10_bookSum_77 (fun x_39 ex_39 lx_39 ux_39 => ?_)
                  refine lv_goto (tgt := 89) hx hb dX10_bookSum_78 (by decide) ?_
                  refine lv_iadd hx hb dX10_bookSum_89 ?_
                  have rg_40 := i32_r iv6_4
                  have rg_41 := i32_r x_39
                  refine lv_topi (fun x_42 ex_42 => ?_)
                  refine lv_istore (lv' := [(4, .int x_42), (5, .int iv6_5), (0, .ref x), (1, .int i1), (2, .int i2), (3, .int i3)]) hx hb dX10_bookSum_90 hl (by decide) rfl (fun ls hl => ?_)
                  obtain ⟨x_43, ex_43⟩ : ∃ y : Int32, y = iv6_5 + Int32.ofInt 1 := ⟨_, rfl⟩
                  have rg_44 := i32_r iv6_5
                  have zx_43 : x_43.toInt = iv6_5.toInt + (1) := by rw [ex_43]; exact i32_add rfl (by decide) (by omega) (by omega)
                  refine lv_iinc (v := x_43) (lv' := [(5, .int x_43), (4, .int x_42), (0, .ref x), (1, .int i1), (2, .int i2), (3, .int i3)]) hx hb dX10_bookSum_92 hl (k := 1) rfl ex_43.symm (by decide) rfl (fun ls hl => ?_)
                  refine lv_goto (tgt := 6) hx hb dX10_bookSum_95 (by decide) ?_
                  exact ih6 x_42 x_43 _ _ hL1 hl1 (i32_r _).1 (i32_r _).2 (by omega) (by omega)  ls (by omega) hW hT hM   (lv_sub hl [0, 1, 2, 3, 4, 5] rfl)
  have zk_0 : (0 : Int32).toInt = 0 := by decide
  have zk_0 : (0 : Int32).toInt = 0 := by decide
  exact loop6 401 (0 : Int32) (0 : Int32) _ _ L h (by decide) (by decide) (by decide) (by decide)  ls (by omega) hW hT hM   hl

def wLX10_disorder_0 : List Nat := [3, 61, 2, 62, 3, 54, 4, 21, 4, 42, 180, 1, 95, 162, 0, 50, 42, 180, 0, 63, 21, 4, 46, 27, 159, 0, 6, 167, 0, 30, 28, 42, 180, 0, 69, 21, 4, 46, 29, 162, 0, 7, 4, 167, 0, 4, 3, 96, 61, 42, 180, 0, 69, 21, 4, 46, 62, 132, 4, 1, 167, 255, 203, 28]
def wLX10_disorder_1 : List Nat := [172]
theorem wX10_disorder_0 : (cX10_disorder.data.toList.map UInt8.toNat).drop 0 = wLX10_disorder_0 ++ (wLX10_disorder_1 ++ ([])) := by decide +kernel
theorem wX10_disorder_1 : (cX10_disorder.data.toList.map UInt8.toNat).drop 64 = wLX10_disorder_1 ++ ([]) := hz_wn wX10_disorder_0 rfl
theorem dX10_disorder_0 : decode cX10_disorder 0 = .ok (.iconst 0, 1) := dq_3 (hz_wg wX10_disorder_0 (j := 0) (n := 3) rfl)
theorem dX10_disorder_1 : decode cX10_disorder 1 = .ok (.istore_n 2, 1) := dq_61 (hz_wg wX10_disorder_0 (j := 1) (n := 61) rfl)
theorem dX10_disorder_2 : decode cX10_disorder 2 = .ok (.iconst (-1), 1) := dq_2 (hz_wg wX10_disorder_0 (j := 2) (n := 2) rfl)
theorem dX10_disorder_3 : decode cX10_disorder 3 = .ok (.istore_n 3, 1) := dq_62 (hz_wg wX10_disorder_0 (j := 3) (n := 62) rfl)
theorem dX10_disorder_4 : decode cX10_disorder 4 = .ok (.iconst 0, 1) := dq_3 (hz_wg wX10_disorder_0 (j := 4) (n := 3) rfl)
theorem dX10_disorder_5 : decode cX10_disorder 5 = .ok (.istore 4, 2) := dq_54 (hz_wg wX10_disorder_0 (j := 5) (n := 54) rfl) (hz_wg wX10_disorder_0 (j := 6) (n := 4) rfl)
theorem dX10_disorder_7 : decode cX10_disorder 7 = .ok (.iload 4, 2) := dq_21 (hz_wg wX10_disorder_0 (j := 7) (n := 21) rfl) (hz_wg wX10_disorder_0 (j := 8) (n := 4) rfl)
theorem dX10_disorder_9 : decode cX10_disorder 9 = .ok (.aload_n 0, 1) := dq_42 (hz_wg wX10_disorder_0 (j := 9) (n := 42) rfl)
theorem dX10_disorder_10 : decode cX10_disorder 10 = .ok (.getfield 351, 3) := dq_180 (hz_wg wX10_disorder_0 (j := 10) (n := 180) rfl) (hz_wg wX10_disorder_0 (j := 11) (n := 1) rfl) (hz_wg wX10_disorder_0 (j := 12) (n := 95) rfl) rfl
theorem dX10_disorder_13 : decode cX10_disorder 13 = .ok (.if_icmp .ge 50, 3) := dq_162 (hz_wg wX10_disorder_0 (j := 13) (n := 162) rfl) (hz_wg wX10_disorder_0 (j := 14) (n := 0) rfl) (hz_wg wX10_disorder_0 (j := 15) (n := 50) rfl) (by decide)
theorem dX10_disorder_16 : decode cX10_disorder 16 = .ok (.aload_n 0, 1) := dq_42 (hz_wg wX10_disorder_0 (j := 16) (n := 42) rfl)
theorem dX10_disorder_17 : decode cX10_disorder 17 = .ok (.getfield 63, 3) := dq_180 (hz_wg wX10_disorder_0 (j := 17) (n := 180) rfl) (hz_wg wX10_disorder_0 (j := 18) (n := 0) rfl) (hz_wg wX10_disorder_0 (j := 19) (n := 63) rfl) rfl
theorem dX10_disorder_20 : decode cX10_disorder 20 = .ok (.iload 4, 2) := dq_21 (hz_wg wX10_disorder_0 (j := 20) (n := 21) rfl) (hz_wg wX10_disorder_0 (j := 21) (n := 4) rfl)
theorem dX10_disorder_22 : decode cX10_disorder 22 = .ok (.iaload, 1) := dq_46 (hz_wg wX10_disorder_0 (j := 22) (n := 46) rfl)
theorem dX10_disorder_23 : decode cX10_disorder 23 = .ok (.iload_n 1, 1) := dq_27 (hz_wg wX10_disorder_0 (j := 23) (n := 27) rfl)
theorem dX10_disorder_24 : decode cX10_disorder 24 = .ok (.if_icmp .eq 6, 3) := dq_159 (hz_wg wX10_disorder_0 (j := 24) (n := 159) rfl) (hz_wg wX10_disorder_0 (j := 25) (n := 0) rfl) (hz_wg wX10_disorder_0 (j := 26) (n := 6) rfl) (by decide)
theorem dX10_disorder_27 : decode cX10_disorder 27 = .ok (.goto 30, 3) := dq_167 (hz_wg wX10_disorder_0 (j := 27) (n := 167) rfl) (hz_wg wX10_disorder_0 (j := 28) (n := 0) rfl) (hz_wg wX10_disorder_0 (j := 29) (n := 30) rfl) (by decide)
theorem dX10_disorder_30 : decode cX10_disorder 30 = .ok (.iload_n 2, 1) := dq_28 (hz_wg wX10_disorder_0 (j := 30) (n := 28) rfl)
theorem dX10_disorder_31 : decode cX10_disorder 31 = .ok (.aload_n 0, 1) := dq_42 (hz_wg wX10_disorder_0 (j := 31) (n := 42) rfl)
theorem dX10_disorder_32 : decode cX10_disorder 32 = .ok (.getfield 69, 3) := dq_180 (hz_wg wX10_disorder_0 (j := 32) (n := 180) rfl) (hz_wg wX10_disorder_0 (j := 33) (n := 0) rfl) (hz_wg wX10_disorder_0 (j := 34) (n := 69) rfl) rfl
theorem dX10_disorder_35 : decode cX10_disorder 35 = .ok (.iload 4, 2) := dq_21 (hz_wg wX10_disorder_0 (j := 35) (n := 21) rfl) (hz_wg wX10_disorder_0 (j := 36) (n := 4) rfl)
theorem dX10_disorder_37 : decode cX10_disorder 37 = .ok (.iaload, 1) := dq_46 (hz_wg wX10_disorder_0 (j := 37) (n := 46) rfl)
theorem dX10_disorder_38 : decode cX10_disorder 38 = .ok (.iload_n 3, 1) := dq_29 (hz_wg wX10_disorder_0 (j := 38) (n := 29) rfl)
theorem dX10_disorder_39 : decode cX10_disorder 39 = .ok (.if_icmp .ge 7, 3) := dq_162 (hz_wg wX10_disorder_0 (j := 39) (n := 162) rfl) (hz_wg wX10_disorder_0 (j := 40) (n := 0) rfl) (hz_wg wX10_disorder_0 (j := 41) (n := 7) rfl) (by decide)
theorem dX10_disorder_42 : decode cX10_disorder 42 = .ok (.iconst 1, 1) := dq_4 (hz_wg wX10_disorder_0 (j := 42) (n := 4) rfl)
theorem dX10_disorder_43 : decode cX10_disorder 43 = .ok (.goto 4, 3) := dq_167 (hz_wg wX10_disorder_0 (j := 43) (n := 167) rfl) (hz_wg wX10_disorder_0 (j := 44) (n := 0) rfl) (hz_wg wX10_disorder_0 (j := 45) (n := 4) rfl) (by decide)
theorem dX10_disorder_46 : decode cX10_disorder 46 = .ok (.iconst 0, 1) := dq_3 (hz_wg wX10_disorder_0 (j := 46) (n := 3) rfl)
theorem dX10_disorder_47 : decode cX10_disorder 47 = .ok (.iadd, 1) := dq_96 (hz_wg wX10_disorder_0 (j := 47) (n := 96) rfl)
theorem dX10_disorder_48 : decode cX10_disorder 48 = .ok (.istore_n 2, 1) := dq_61 (hz_wg wX10_disorder_0 (j := 48) (n := 61) rfl)
theorem dX10_disorder_49 : decode cX10_disorder 49 = .ok (.aload_n 0, 1) := dq_42 (hz_wg wX10_disorder_0 (j := 49) (n := 42) rfl)
theorem dX10_disorder_50 : decode cX10_disorder 50 = .ok (.getfield 69, 3) := dq_180 (hz_wg wX10_disorder_0 (j := 50) (n := 180) rfl) (hz_wg wX10_disorder_0 (j := 51) (n := 0) rfl) (hz_wg wX10_disorder_0 (j := 52) (n := 69) rfl) rfl
theorem dX10_disorder_53 : decode cX10_disorder 53 = .ok (.iload 4, 2) := dq_21 (hz_wg wX10_disorder_0 (j := 53) (n := 21) rfl) (hz_wg wX10_disorder_0 (j := 54) (n := 4) rfl)
theorem dX10_disorder_55 : decode cX10_disorder 55 = .ok (.iaload, 1) := dq_46 (hz_wg wX10_disorder_0 (j := 55) (n := 46) rfl)
theorem dX10_disorder_56 : decode cX10_disorder 56 = .ok (.istore_n 3, 1) := dq_62 (hz_wg wX10_disorder_0 (j := 56) (n := 62) rfl)
theorem dX10_disorder_57 : decode cX10_disorder 57 = .ok (.iinc 4 1, 3) := dq_132 (hz_wg wX10_disorder_0 (j := 57) (n := 132) rfl) (hz_wg wX10_disorder_0 (j := 58) (n := 4) rfl) (hz_wg wX10_disorder_0 (j := 59) (n := 1) rfl) (by decide)
theorem dX10_disorder_60 : decode cX10_disorder 60 = .ok (.goto (-53), 3) := dq_167 (hz_wg wX10_disorder_0 (j := 60) (n := 167) rfl) (hz_wg wX10_disorder_0 (j := 61) (n := 255) rfl) (hz_wg wX10_disorder_0 (j := 62) (n := 203) rfl) (by decide)
theorem dX10_disorder_63 : decode cX10_disorder 63 = .ok (.iload_n 2, 1) := dq_28 (hz_wg wX10_disorder_0 (j := 63) (n := 28) rfl)
theorem dX10_disorder_64 : decode cX10_disorder 64 = .ok (.ireturn, 1) := dq_172 (hz_wg wX10_disorder_1 (j := 0) (n := 172) rfl)
def wLX10_areTwins_0 : List Nat := [42, 180, 0, 69, 27, 46, 42, 180, 0, 69, 28, 46, 100, 62, 42, 180, 0, 72, 27, 46, 4, 130, 42, 180, 0, 72, 28, 46, 160, 0, 32, 42, 180, 0, 75, 27, 46, 42, 180, 0, 75, 28, 46, 160, 0, 17, 29, 16, 253, 6, 184, 0, 228, 153, 0, 7, 4, 167, 0, 4, 3, 172]
theorem wX10_areTwins_0 : (cX10_areTwins.data.toList.map UInt8.toNat).drop 0 = wLX10_areTwins_0 ++ ([]) := by decide +kernel
theorem dX10_areTwins_0 : decode cX10_areTwins 0 = .ok (.aload_n 0, 1) := dq_42 (hz_wg wX10_areTwins_0 (j := 0) (n := 42) rfl)
theorem dX10_areTwins_1 : decode cX10_areTwins 1 = .ok (.getfield 69, 3) := dq_180 (hz_wg wX10_areTwins_0 (j := 1) (n := 180) rfl) (hz_wg wX10_areTwins_0 (j := 2) (n := 0) rfl) (hz_wg wX10_areTwins_0 (j := 3) (n := 69) rfl) rfl
theorem dX10_areTwins_4 : decode cX10_areTwins 4 = .ok (.iload_n 1, 1) := dq_27 (hz_wg wX10_areTwins_0 (j := 4) (n := 27) rfl)
theorem dX10_areTwins_5 : decode cX10_areTwins 5 = .ok (.iaload, 1) := dq_46 (hz_wg wX10_areTwins_0 (j := 5) (n := 46) rfl)
theorem dX10_areTwins_6 : decode cX10_areTwins 6 = .ok (.aload_n 0, 1) := dq_42 (hz_wg wX10_areTwins_0 (j := 6) (n := 42) rfl)
theorem dX10_areTwins_7 : decode cX10_areTwins 7 = .ok (.getfield 69, 3) := dq_180 (hz_wg wX10_areTwins_0 (j := 7) (n := 180) rfl) (hz_wg wX10_areTwins_0 (j := 8) (n := 0) rfl) (hz_wg wX10_areTwins_0 (j := 9) (n := 69) rfl) rfl
theorem dX10_areTwins_10 : decode cX10_areTwins 10 = .ok (.iload_n 2, 1) := dq_28 (hz_wg wX10_areTwins_0 (j := 10) (n := 28) rfl)
theorem dX10_areTwins_11 : decode cX10_areTwins 11 = .ok (.iaload, 1) := dq_46 (hz_wg wX10_areTwins_0 (j := 11) (n := 46) rfl)
theorem dX10_areTwins_12 : decode cX10_areTwins 12 = .ok (.isub, 1) := dq_100 (hz_wg wX10_areTwins_0 (j := 12) (n := 100) rfl)
theorem dX10_areTwins_13 : decode cX10_areTwins 13 = .ok (.istore_n 3, 1) := dq_62 (hz_wg wX10_areTwins_0 (j := 13) (n := 62) rfl)
theorem dX10_areTwins_14 : decode cX10_areTwins 14 = .ok (.aload_n 0, 1) := dq_42 (hz_wg wX10_areTwins_0 (j := 14) (n := 42) rfl)
theorem dX10_areTwins_15 : decode cX10_areTwins 15 = .ok (.getfield 72, 3) := dq_180 (hz_wg wX10_areTwins_0 (j := 15) (n := 180) rfl) (hz_wg wX10_areTwins_0 (j := 16) (n := 0) rfl) (hz_wg wX10_areTwins_0 (j := 17) (n := 72) rfl) rfl
theorem dX10_areTwins_18 : decode cX10_areTwins 18 = .ok (.iload_n 1, 1) := dq_27 (hz_wg wX10_areTwins_0 (j := 18) (n := 27) rfl)
theorem dX10_areTwins_19 : decode cX10_areTwins 19 = .ok (.iaload, 1) := dq_46 (hz_wg wX10_areTwins_0 (j := 19) (n := 46) rfl)
theorem dX10_areTwins_20 : decode cX10_areTwins 20 = .ok (.iconst 1, 1) := dq_4 (hz_wg wX10_areTwins_0 (j := 20) (n := 4) rfl)
theorem dX10_areTwins_21 : decode cX10_areTwins 21 = .ok (.ixor, 1) := dq_130 (hz_wg wX10_areTwins_0 (j := 21) (n := 130) rfl)
theorem dX10_areTwins_22 : decode cX10_areTwins 22 = .ok (.aload_n 0, 1) := dq_42 (hz_wg wX10_areTwins_0 (j := 22) (n := 42) rfl)
theorem dX10_areTwins_23 : decode cX10_areTwins 23 = .ok (.getfield 72, 3) := dq_180 (hz_wg wX10_areTwins_0 (j := 23) (n := 180) rfl) (hz_wg wX10_areTwins_0 (j := 24) (n := 0) rfl) (hz_wg wX10_areTwins_0 (j := 25) (n := 72) rfl) rfl
theorem dX10_areTwins_26 : decode cX10_areTwins 26 = .ok (.iload_n 2, 1) := dq_28 (hz_wg wX10_areTwins_0 (j := 26) (n := 28) rfl)
theorem dX10_areTwins_27 : decode cX10_areTwins 27 = .ok (.iaload, 1) := dq_46 (hz_wg wX10_areTwins_0 (j := 27) (n := 46) rfl)
theorem dX10_areTwins_28 : decode cX10_areTwins 28 = .ok (.if_icmp .ne 32, 3) := dq_160 (hz_wg wX10_areTwins_0 (j := 28) (n := 160) rfl) (hz_wg wX10_areTwins_0 (j := 29) (n := 0) rfl) (hz_wg wX10_areTwins_0 (j := 30) (n := 32) rfl) (by decide)
theorem dX10_areTwins_31 : decode cX10_areTwins 31 = .ok (.aload_n 0, 1) := dq_42 (hz_wg wX10_areTwins_0 (j := 31) (n := 42) rfl)
theorem dX10_areTwins_32 : decode cX10_areTwins 32 = .ok (.getfield 75, 3) := dq_180 (hz_wg wX10_areTwins_0 (j := 32) (n := 180) rfl) (hz_wg wX10_areTwins_0 (j := 33) (n := 0) rfl) (hz_wg wX10_areTwins_0 (j := 34) (n := 75) rfl) rfl
theorem dX10_areTwins_35 : decode cX10_areTwins 35 = .ok (.iload_n 1, 1) := dq_27 (hz_wg wX10_areTwins_0 (j := 35) (n := 27) rfl)
theorem dX10_areTwins_36 : decode cX10_areTwins 36 = .ok (.iaload, 1) := dq_46 (hz_wg wX10_areTwins_0 (j := 36) (n := 46) rfl)
theorem dX10_areTwins_37 : decode cX10_areTwins 37 = .ok (.aload_n 0, 1) := dq_42 (hz_wg wX10_areTwins_0 (j := 37) (n := 42) rfl)
theorem dX10_areTwins_38 : decode cX10_areTwins 38 = .ok (.getfield 75, 3) := dq_180 (hz_wg wX10_areTwins_0 (j := 38) (n := 180) rfl) (hz_wg wX10_areTwins_0 (j := 39) (n := 0) rfl) (hz_wg wX10_areTwins_0 (j := 40) (n := 75) rfl) rfl
theorem dX10_areTwins_41 : decode cX10_areTwins 41 = .ok (.iload_n 2, 1) := dq_28 (hz_wg wX10_areTwins_0 (j := 41) (n := 28) rfl)
theorem dX10_areTwins_42 : decode cX10_areTwins 42 = .ok (.iaload, 1) := dq_46 (hz_wg wX10_areTwins_0 (j := 42) (n := 46) rfl)
theorem dX10_areTwins_43 : decode cX10_areTwins 43 = .ok (.if_icmp .ne 17, 3) := dq_160 (hz_wg wX10_areTwins_0 (j := 43) (n := 160) rfl) (hz_wg wX10_areTwins_0 (j := 44) (n := 0) rfl) (hz_wg wX10_areTwins_0 (j := 45) (n := 17) rfl) (by decide)
theorem dX10_areTwins_46 : decode cX10_areTwins 46 = .ok (.iload_n 3, 1) := dq_29 (hz_wg wX10_areTwins_0 (j := 46) (n := 29) rfl)
theorem dX10_areTwins_47 : decode cX10_areTwins 47 = .ok (.bipush (-3), 2) := dq_16 (hz_wg wX10_areTwins_0 (j := 47) (n := 16) rfl) (hz_wg wX10_areTwins_0 (j := 48) (n := 253) rfl) (by decide)
theorem dX10_areTwins_49 : decode cX10_areTwins 49 = .ok (.iconst 3, 1) := dq_6 (hz_wg wX10_areTwins_0 (j := 49) (n := 6) rfl)
theorem dX10_areTwins_50 : decode cX10_areTwins 50 = .ok (.invokestatic 228, 3) := dq_184 (hz_wg wX10_areTwins_0 (j := 50) (n := 184) rfl) (hz_wg wX10_areTwins_0 (j := 51) (n := 0) rfl) (hz_wg wX10_areTwins_0 (j := 52) (n := 228) rfl) rfl
theorem dX10_areTwins_53 : decode cX10_areTwins 53 = .ok (.ifCond .eq 7, 3) := dq_153 (hz_wg wX10_areTwins_0 (j := 53) (n := 153) rfl) (hz_wg wX10_areTwins_0 (j := 54) (n := 0) rfl) (hz_wg wX10_areTwins_0 (j := 55) (n := 7) rfl) (by decide)
theorem dX10_areTwins_56 : decode cX10_areTwins 56 = .ok (.iconst 1, 1) := dq_4 (hz_wg wX10_areTwins_0 (j := 56) (n := 4) rfl)
theorem dX10_areTwins_57 : decode cX10_areTwins 57 = .ok (.goto 4, 3) := dq_167 (hz_wg wX10_areTwins_0 (j := 57) (n := 167) rfl) (hz_wg wX10_areTwins_0 (j := 58) (n := 0) rfl) (hz_wg wX10_areTwins_0 (j := 59) (n := 4) rfl) (by decide)
theorem dX10_areTwins_60 : decode cX10_areTwins 60 = .ok (.iconst 0, 1) := dq_3 (hz_wg wX10_areTwins_0 (j := 60) (n := 3) rfl)
theorem dX10_areTwins_61 : decode cX10_areTwins 61 = .ok (.ireturn, 1) := dq_172 (hz_wg wX10_areTwins_0 (j := 61) (n := 172) rfl)
set_option maxHeartbeats 4000000 in
set_option maxRecDepth 100000 in
theorem t_X10_areTwins (l : Launch) (dC : Nat → ClassId) (dI : Nat → Nat → Nat) (dA : Nat → ClassId) (L : List Nat) (h : hx_h) (sz : Nat) (x : Nat) (i1 : Int32) (i2 : Int32) (hT : hx_T T_tb L h) (gx : hx_g L h x 10) (hi1 : 0 ≤ i1.toInt ∧ i1.toInt ≤ 399) (hi2 : 0 ≤ i2.toInt ∧ i2.toInt ≤ 399) : Met l yX10_areTwins (Cond.code yX10_areTwins cX10_areTwins 4 (some .boolean) :: hx_all) ({ frames := 1, cells := 0, slots := 0, locals := 22 }) (va_Pc [.ref x, .int i1, .int i2] (hx_B T_tb (P_ty dA) (dC, dI) vwCl L h sz)) (va_Qi (fun (r : Int32) (u : List Nat × hx_h) => (r.toInt = 0 ∨ r.toInt = 1) ∧ hx_T T_tb u.1 u.2 ∧ hx_S T_tb [] L h u.1 u.2) (hx_E T_tb (P_ty dA) (dC, dI) vwCl (hx_A L sz)) (hx_A L sz)) 0 0 (hx_A L sz) := by
  refine hx_met (lv := [(0, .ref x), (1, .int i1), (2, .int i2)]) (by decide +kernel) rfl (Nat.le_of_ble_eq_true rfl) rfl ?_
  intro p e s m below meth c hx hb hml hr hlk hts0 hown hin hsz hW ls hl
  have hts : ∀ w ∈ hx_all, w.before _ s = true := fun w hw => hts0 w (List.mem_cons_of_mem _ hw)
  have hown : s.vm.findClass "SmallCourtModel" = some m.cls := hown
  have hM : hx_S T_tb [] L h L h := hx_S.rf
  refine lv_aload_n hx hb dX10_areTwins_0 rfl (lv_at hl 0 rfl) ?_
  refine hx_getn hx hb hts hC_10 hown hW hT (gx.S hM) tt_10 32 (by decide) rfl kw_1175 ⟨rfl, rfl, rfl⟩ dX10_areTwins_1 (fun q_1 fq_1 gq_1 => ?_)
  refine lv_iload_n hx hb dX10_areTwins_4 rfl (lv_at hl 1 rfl) ?_
  refine hx_iald hx hb hW hT gq_1 tt_68 rfl ⟨by omega, by omega⟩ dX10_areTwins_5 (fun x_2 ex_2 lx_2 ux_2 => ?_)
  refine lv_aload_n hx hb dX10_areTwins_6 rfl (lv_at hl 0 rfl) ?_
  refine hk_getr hx hb hts hC_10 hown hW (gx.S hM) tt_10 32 (by decide) rfl kw_1175 ⟨rfl, rfl, rfl⟩ fq_1 dX10_areTwins_7 ?_
  refine lv_iload_n hx hb dX10_areTwins_10 rfl (lv_at hl 2 rfl) ?_
  refine hx_iald hx hb hW hT gq_1 tt_68 rfl ⟨by omega, by omega⟩ dX10_areTwins_11 (fun x_3 ex_3 lx_3 ux_3 => ?_)
  refine lv_isub hx hb dX10_areTwins_12 ?_
  have rg_4 := i32_r x_2
  have rg_5 := i32_r x_3
  refine lv_topi (fun x_6 ex_6 => ?_)
  refine lv_istore_n (lv' := [(3, .int x_6), (0, .ref x), (1, .int i1), (2, .int i2)]) hx hb dX10_areTwins_13 rfl hl (by decide) rfl (fun ls hl => ?_)
  refine lv_aload_n hx hb dX10_areTwins_14 rfl (lv_at hl 1 rfl) ?_
  refine hx_getn hx hb hts hC_10 hown hW hT (gx.S hM) tt_10 33 (by decide) rfl kw_1176 ⟨rfl, rfl, rfl⟩ dX10_areTwins_15 (fun q_7 fq_7 gq_7 => ?_)
  refine lv_iload_n hx hb dX10_areTwins_18 rfl (lv_at hl 2 rfl) ?_
  refine hx_iald hx hb hW hT gq_7 tt_69 rfl ⟨by omega, by omega⟩ dX10_areTwins_19 (fun x_8 ex_8 lx_8 ux_8 => ?_)
  refine lv_iconst (v := 1) hx hb dX10_areTwins_20 (by decide) ?_
  refine lv_ixor hx hb dX10_areTwins_21 ?_
  refine lv_topi (fun x_9 ex_9 => ?_)
  refine lv_aload_n hx hb dX10_areTwins_22 rfl (lv_at hl 1 rfl) ?_
  refine hk_getr hx hb hts hC_10 hown hW (gx.S hM) tt_10 33 (by decide) rfl kw_1176 ⟨rfl, rfl, rfl⟩ fq_7 dX10_areTwins_23 ?_
  refine lv_iload_n hx hb dX10_areTwins_26 rfl (lv_at hl 3 rfl) ?_
  refine hx_iald hx hb hW hT gq_7 tt_69 rfl ⟨by omega, by omega⟩ dX10_areTwins_27 (fun x_10 ex_10 lx_10 ux_10 => ?_)
  refine hb_icmp_ne (zx := x_9.toInt) (zy := x_10.toInt) (tgt := 60) hx hb rfl rfl dX10_areTwins_28 (by decide) (fun c_11 => ?_) (fun c_11 => ?_)
  · skip
    refine lv_iconst (v := 0) hx hb dX10_areTwins_60 (by decide) ?_
    exact hx_retz hx hb hr rfl hlk hW ⟨(by decide), hT, hM⟩ dX10_areTwins_61
  · skip
    refine lv_aload_n hx hb dX10_areTwins_31 rfl (lv_at hl 1 rfl) ?_
    refine hx_getn hx hb hts hC_10 hown hW hT (gx.S hM) tt_10 34 (by decide) rfl kw_1177 ⟨rfl, rfl, rfl⟩ dX10_areTwins_32 (fun q_12 fq_12 gq_12 => ?_)
    refine lv_iload_n hx hb dX10_areTwins_35 rfl (lv_at hl 2 rfl) ?_
    refine hx_iald hx hb hW hT gq_12 tt_70 rfl ⟨by omega, by omega⟩ dX10_areTwins_36 (fun x_13 ex_13 lx_13 ux_13 => ?_)
    refine lv_aload_n hx hb dX10_areTwins_37 rfl (lv_at hl 1 rfl) ?_
    refine hk_getr hx hb hts hC_10 hown hW (gx.S hM) tt_10 34 (by decide) rfl kw_1177 ⟨rfl, rfl, rfl⟩ fq_12 dX10_areTwins_38 ?_
    refine lv_iload_n hx hb dX10_areTwins_41 rfl (lv_at hl 3 rfl) ?_
    refine hx_iald hx hb hW hT gq_12 tt_70 rfl ⟨by omega, by omega⟩ dX10_areTwins_42 (fun x_14 ex_14 lx_14 ux_14 => ?_)
    refine hb_icmp_ne (zx := x_13.toInt) (zy := x_14.toInt) (tgt := 60) hx hb rfl rfl dX10_areTwins_43 (by decide) (fun c_15 => ?_) (fun c_15 => ?_)
    · skip
      refine lv_iconst (v := 0) hx hb dX10_areTwins_60 (by decide) ?_
      exact hx_retz hx hb hr rfl hlk hW ⟨(by decide), hT, hM⟩ dX10_areTwins_61
    · skip
      refine lv_iload_n hx hb dX10_areTwins_46 rfl (lv_at hl 0 rfl) ?_
      refine lv_bipush (v := -3) hx hb dX10_areTwins_47 (by decide) ?_
      refine lv_iconst (v := 3) hx hb dX10_areTwins_49 (by decide) ?_
      have zc_3 : (3 : Int32).toInt = 3 := by decide
      have zc_m3 : (-3 : Int32).toInt = -3 := by decide
      refine hx_goi (hx_runS (As := [.int x_6, .int (-3 : Int32), .int (3 : Int32)]) (rest := []) ⟨hx, hb, hml, hown, hts⟩ hW (t_X10_in l dC dI dA L h s.heap.size x_6 (-3 : Int32) (3 : Int32) hT) (va_cwS 3 hts (hx_gS kw_1445 kw_1443 kw_1444 kw_103) rfl rfl rfl (by decide +kernel) ⟨Nat.le_of_ble_eq_true rfl, Nat.le_of_ble_eq_true rfl⟩) rfl hl.1 rfl (Nat.le_of_ble_eq_true rfl) dX10_areTwins_50 ⟨Nat.le_of_ble_eq_true rfl, Nat.le_of_ble_eq_true rfl⟩) hW (fun r_18 L_16 h_17 H locs p_19 hW => ?_)
      obtain ⟨hr_20, hT, hs⟩ := p_19
      replace hT : hx_T T_tb L_16 h_17 := hT
      replace hs : hx_S T_tb [] L h L_16 h_17 := hs
      replace fq_1 := (hs.o (gx.S hM) trivial rfl).2.trans fq_1
      replace fq_7 := (hs.o (gx.S hM) trivial rfl).2.trans fq_7
      replace fq_12 := (hs.o (gx.S hM) trivial rfl).2.trans fq_12
      replace ex_2 := ex_2.trans (hs.a gq_1 rfl _).1.symm
      replace ex_3 := ex_3.trans (hs.a gq_1 rfl _).1.symm
      replace ex_8 := ex_8.trans (hs.a gq_7 rfl _).1.symm
      replace ex_10 := ex_10.trans (hs.a gq_7 rfl _).1.symm
      replace ex_13 := ex_13.trans (hs.a gq_12 rfl _).1.symm
      replace ex_14 := ex_14.trans (hs.a gq_12 rfl _).1.symm
      replace hM := hM.tr (hs.mono (by decide))
      replace gq_1 := gq_1.S hs
      replace gq_7 := gq_7.S hs
      replace gq_12 := gq_12.S hs
      have jn_61 : ∀ (xj_21 : Int32) (ls : Array Slot), 0 ≤ xj_21.toInt → xj_21.toInt ≤ 1 → lv_has ls 4 [(3, .int x_6), (0, .ref x), (1, .int i1), (2, .int i2)] → W p l e ({ frames := 1, cells := 0, slots := 0, locals := 22 }) s m ([.ref x, .int i1, .int i2] : List Value).toArray below meth c H locs 0 0 (MQ below (va_Qi (fun (r : Int32) (u : List Nat × hx_h) => (r.toInt = 0 ∨ r.toInt = 1) ∧ hx_T T_tb u.1 u.2 ∧ hx_S T_tb [] L h u.1 u.2) (hx_E T_tb (P_ty dA) (dC, dI) vwCl (hx_A L sz)) (hx_A L sz)) ([.ref x, .int i1, .int i2] : List Value).toArray s 0 0 (hx_A L sz)) (F0 m 61 ls [.int xj_21]) := by
        intro xj_21 ls blxj_21 buxj_21 hl
        exact hx_retz hx hb hr (hx_nar01 (by omega)) hlk hW ⟨(by omega), hT, hM⟩ dX10_areTwins_61
      refine hb_if_eq (zx := r_18.toInt) (tgt := 60) hx hb rfl dX10_areTwins_53 (by decide) (fun c_22 => ?_) (fun c_22 => ?_)
      · skip
        replace hr_20 := hr_20.resolve_right (fun z9 => absurd (c_22.symm.trans z9.1) (by decide))
        replace hr_20 := hr_20.2
        refine lv_iconst (v := 0) hx hb dX10_areTwins_60 (by decide) ?_
        exact jn_61 (0 : Int32) ls (by decide) (by decide) hl
      · skip
        replace hr_20 := hr_20.resolve_left (fun z9 => c_22 z9.1)
        replace c_22 := hr_20.1
        replace hr_20 := hr_20.2
        refine lv_iconst (v := 1) hx hb dX10_areTwins_56 (by decide) ?_
        refine lv_goto (tgt := 61) hx hb dX10_areTwins_57 (by decide) ?_
        exact jn_61 (1 : Int32) ls (by decide) (by decide) hl

def wLX10_alike_0 : List Nat := [3, 54, 4, 21, 4, 42, 180, 1, 95, 162, 0, 17, 42, 180, 0, 78, 21, 4, 3, 84, 132, 4, 1, 167, 255, 236, 3, 54, 4, 3, 54, 5, 21, 5, 29, 163, 0, 187, 3, 54, 6, 21, 6, 42, 180, 1, 95, 162, 0, 169, 42, 180, 0, 69, 21, 6, 46, 21, 5, 160, 0, 151, 42, 180]
def wLX10_alike_1 : List Nat := [0, 63, 21, 6, 46, 27, 160, 0, 140, 42, 180, 0, 66, 21, 6, 46, 28, 159, 0, 6, 167, 0, 126, 2, 54, 7, 3, 54, 8, 21, 8, 42, 180, 1, 95, 162, 0, 92, 42, 180, 0, 78, 21, 8, 51, 154, 0, 76, 42, 180, 0, 63, 21, 8, 46, 28, 160, 0, 65, 42, 180, 0, 66, 21]
def wLX10_alike_2 : List Nat := [8, 46, 27, 160, 0, 54, 42, 180, 0, 69, 21, 8, 46, 29, 163, 0, 43, 42, 21, 6, 21, 8, 182, 1, 98, 154, 0, 6, 167, 0, 29, 21, 7, 155, 0, 20, 42, 180, 0, 69, 21, 8, 46, 42, 180, 0, 69, 21, 7, 46, 162, 0, 7, 21, 8, 54, 7, 132, 8, 1, 167, 255, 161, 21]
def wLX10_alike_3 : List Nat := [7, 156, 0, 6, 167, 0, 14, 42, 180, 0, 78, 21, 7, 4, 84, 132, 4, 1, 132, 6, 1, 167, 255, 84, 132, 5, 1, 167, 255, 69, 21, 4, 172]
theorem wX10_alike_0 : (cX10_alike.data.toList.map UInt8.toNat).drop 0 = wLX10_alike_0 ++ (wLX10_alike_1 ++ (wLX10_alike_2 ++ (wLX10_alike_3 ++ ([])))) := by decide +kernel
theorem wX10_alike_1 : (cX10_alike.data.toList.map UInt8.toNat).drop 64 = wLX10_alike_1 ++ (wLX10_alike_2 ++ (wLX10_alike_3 ++ ([]))) := hz_wn wX10_alike_0 rfl
theorem wX10_alike_2 : (cX10_alike.data.toList.map UInt8.toNat).drop 128 = wLX10_alike_2 ++ (wLX10_alike_3 ++ ([])) := hz_wn wX10_alike_1 rfl
theorem wX10_alike_3 : (cX10_alike.data.toList.map UInt8.toNat).drop 192 = wLX10_alike_3 ++ ([]) := hz_wn wX10_alike_2 rfl
theorem dX10_alike_0 : decode cX10_alike 0 = .ok (.iconst 0, 1) := dq_3 (hz_wg wX10_alike_0 (j := 0) (n := 3) rfl)
theorem dX10_alike_1 : decode cX10_alike 1 = .ok (.istore 4, 2) := dq_54 (hz_wg wX10_alike_0 (j := 1) (n := 54) rfl) (hz_wg wX10_alike_0 (j := 2) (n := 4) rfl)
theorem dX10_alike_3 : decode cX10_alike 3 = .ok (.iload 4, 2) := dq_21 (hz_wg wX10_alike_0 (j := 3) (n := 21) rfl) (hz_wg wX10_alike_0 (j := 4) (n := 4) rfl)
theorem dX10_alike_5 : decode cX10_alike 5 = .ok (.aload_n 0, 1) := dq_42 (hz_wg wX10_alike_0 (j := 5) (n := 42) rfl)
theorem dX10_alike_6 : decode cX10_alike 6 = .ok (.getfield 351, 3) := dq_180 (hz_wg wX10_alike_0 (j := 6) (n := 180) rfl) (hz_wg wX10_alike_0 (j := 7) (n := 1) rfl) (hz_wg wX10_alike_0 (j := 8) (n := 95) rfl) rfl
theorem dX10_alike_9 : decode cX10_alike 9 = .ok (.if_icmp .ge 17, 3) := dq_162 (hz_wg wX10_alike_0 (j := 9) (n := 162) rfl) (hz_wg wX10_alike_0 (j := 10) (n := 0) rfl) (hz_wg wX10_alike_0 (j := 11) (n := 17) rfl) (by decide)
theorem dX10_alike_12 : decode cX10_alike 12 = .ok (.aload_n 0, 1) := dq_42 (hz_wg wX10_alike_0 (j := 12) (n := 42) rfl)
theorem dX10_alike_13 : decode cX10_alike 13 = .ok (.getfield 78, 3) := dq_180 (hz_wg wX10_alike_0 (j := 13) (n := 180) rfl) (hz_wg wX10_alike_0 (j := 14) (n := 0) rfl) (hz_wg wX10_alike_0 (j := 15) (n := 78) rfl) rfl
theorem dX10_alike_16 : decode cX10_alike 16 = .ok (.iload 4, 2) := dq_21 (hz_wg wX10_alike_0 (j := 16) (n := 21) rfl) (hz_wg wX10_alike_0 (j := 17) (n := 4) rfl)
theorem dX10_alike_18 : decode cX10_alike 18 = .ok (.iconst 0, 1) := dq_3 (hz_wg wX10_alike_0 (j := 18) (n := 3) rfl)
theorem dX10_alike_19 : decode cX10_alike 19 = .ok (.bastore, 1) := dq_84 (hz_wg wX10_alike_0 (j := 19) (n := 84) rfl)
theorem dX10_alike_20 : decode cX10_alike 20 = .ok (.iinc 4 1, 3) := dq_132 (hz_wg wX10_alike_0 (j := 20) (n := 132) rfl) (hz_wg wX10_alike_0 (j := 21) (n := 4) rfl) (hz_wg wX10_alike_0 (j := 22) (n := 1) rfl) (by decide)
theorem dX10_alike_23 : decode cX10_alike 23 = .ok (.goto (-20), 3) := dq_167 (hz_wg wX10_alike_0 (j := 23) (n := 167) rfl) (hz_wg wX10_alike_0 (j := 24) (n := 255) rfl) (hz_wg wX10_alike_0 (j := 25) (n := 236) rfl) (by decide)
theorem dX10_alike_26 : decode cX10_alike 26 = .ok (.iconst 0, 1) := dq_3 (hz_wg wX10_alike_0 (j := 26) (n := 3) rfl)
theorem dX10_alike_27 : decode cX10_alike 27 = .ok (.istore 4, 2) := dq_54 (hz_wg wX10_alike_0 (j := 27) (n := 54) rfl) (hz_wg wX10_alike_0 (j := 28) (n := 4) rfl)
theorem dX10_alike_29 : decode cX10_alike 29 = .ok (.iconst 0, 1) := dq_3 (hz_wg wX10_alike_0 (j := 29) (n := 3) rfl)
theorem dX10_alike_30 : decode cX10_alike 30 = .ok (.istore 5, 2) := dq_54 (hz_wg wX10_alike_0 (j := 30) (n := 54) rfl) (hz_wg wX10_alike_0 (j := 31) (n := 5) rfl)
theorem dX10_alike_32 : decode cX10_alike 32 = .ok (.iload 5, 2) := dq_21 (hz_wg wX10_alike_0 (j := 32) (n := 21) rfl) (hz_wg wX10_alike_0 (j := 33) (n := 5) rfl)
theorem dX10_alike_34 : decode cX10_alike 34 = .ok (.iload_n 3, 1) := dq_29 (hz_wg wX10_alike_0 (j := 34) (n := 29) rfl)
theorem dX10_alike_35 : decode cX10_alike 35 = .ok (.if_icmp .gt 187, 3) := dq_163 (hz_wg wX10_alike_0 (j := 35) (n := 163) rfl) (hz_wg wX10_alike_0 (j := 36) (n := 0) rfl) (hz_wg wX10_alike_0 (j := 37) (n := 187) rfl) (by decide)
theorem dX10_alike_38 : decode cX10_alike 38 = .ok (.iconst 0, 1) := dq_3 (hz_wg wX10_alike_0 (j := 38) (n := 3) rfl)
theorem dX10_alike_39 : decode cX10_alike 39 = .ok (.istore 6, 2) := dq_54 (hz_wg wX10_alike_0 (j := 39) (n := 54) rfl) (hz_wg wX10_alike_0 (j := 40) (n := 6) rfl)
theorem dX10_alike_41 : decode cX10_alike 41 = .ok (.iload 6, 2) := dq_21 (hz_wg wX10_alike_0 (j := 41) (n := 21) rfl) (hz_wg wX10_alike_0 (j := 42) (n := 6) rfl)
theorem dX10_alike_43 : decode cX10_alike 43 = .ok (.aload_n 0, 1) := dq_42 (hz_wg wX10_alike_0 (j := 43) (n := 42) rfl)
theorem dX10_alike_44 : decode cX10_alike 44 = .ok (.getfield 351, 3) := dq_180 (hz_wg wX10_alike_0 (j := 44) (n := 180) rfl) (hz_wg wX10_alike_0 (j := 45) (n := 1) rfl) (hz_wg wX10_alike_0 (j := 46) (n := 95) rfl) rfl
theorem dX10_alike_47 : decode cX10_alike 47 = .ok (.if_icmp .ge 169, 3) := dq_162 (hz_wg wX10_alike_0 (j := 47) (n := 162) rfl) (hz_wg wX10_alike_0 (j := 48) (n := 0) rfl) (hz_wg wX10_alike_0 (j := 49) (n := 169) rfl) (by decide)
theorem dX10_alike_50 : decode cX10_alike 50 = .ok (.aload_n 0, 1) := dq_42 (hz_wg wX10_alike_0 (j := 50) (n := 42) rfl)
theorem dX10_alike_51 : decode cX10_alike 51 = .ok (.getfield 69, 3) := dq_180 (hz_wg wX10_alike_0 (j := 51) (n := 180) rfl) (hz_wg wX10_alike_0 (j := 52) (n := 0) rfl) (hz_wg wX10_alike_0 (j := 53) (n := 69) rfl) rfl
theorem dX10_alike_54 : decode cX10_alike 54 = .ok (.iload 6, 2) := dq_21 (hz_wg wX10_alike_0 (j := 54) (n := 21) rfl) (hz_wg wX10_alike_0 (j := 55) (n := 6) rfl)
theorem dX10_alike_56 : decode cX10_alike 56 = .ok (.iaload, 1) := dq_46 (hz_wg wX10_alike_0 (j := 56) (n := 46) rfl)
theorem dX10_alike_57 : decode cX10_alike 57 = .ok (.iload 5, 2) := dq_21 (hz_wg wX10_alike_0 (j := 57) (n := 21) rfl) (hz_wg wX10_alike_0 (j := 58) (n := 5) rfl)
theorem dX10_alike_59 : decode cX10_alike 59 = .ok (.if_icmp .ne 151, 3) := dq_160 (hz_wg wX10_alike_0 (j := 59) (n := 160) rfl) (hz_wg wX10_alike_0 (j := 60) (n := 0) rfl) (hz_wg wX10_alike_0 (j := 61) (n := 151) rfl) (by decide)
theorem dX10_alike_62 : decode cX10_alike 62 = .ok (.aload_n 0, 1) := dq_42 (hz_wg wX10_alike_0 (j := 62) (n := 42) rfl)
theorem dX10_alike_63 : decode cX10_alike 63 = .ok (.getfield 63, 3) := dq_180 (hz_wg wX10_alike_0 (j := 63) (n := 180) rfl) (hz_wg wX10_alike_1 (j := 0) (n := 0) rfl) (hz_wg wX10_alike_1 (j := 1) (n := 63) rfl) rfl
theorem dX10_alike_66 : decode cX10_alike 66 = .ok (.iload 6, 2) := dq_21 (hz_wg wX10_alike_1 (j := 2) (n := 21) rfl) (hz_wg wX10_alike_1 (j := 3) (n := 6) rfl)
theorem dX10_alike_68 : decode cX10_alike 68 = .ok (.iaload, 1) := dq_46 (hz_wg wX10_alike_1 (j := 4) (n := 46) rfl)
theorem dX10_alike_69 : decode cX10_alike 69 = .ok (.iload_n 1, 1) := dq_27 (hz_wg wX10_alike_1 (j := 5) (n := 27) rfl)
theorem dX10_alike_70 : decode cX10_alike 70 = .ok (.if_icmp .ne 140, 3) := dq_160 (hz_wg wX10_alike_1 (j := 6) (n := 160) rfl) (hz_wg wX10_alike_1 (j := 7) (n := 0) rfl) (hz_wg wX10_alike_1 (j := 8) (n := 140) rfl) (by decide)
theorem dX10_alike_73 : decode cX10_alike 73 = .ok (.aload_n 0, 1) := dq_42 (hz_wg wX10_alike_1 (j := 9) (n := 42) rfl)
theorem dX10_alike_74 : decode cX10_alike 74 = .ok (.getfield 66, 3) := dq_180 (hz_wg wX10_alike_1 (j := 10) (n := 180) rfl) (hz_wg wX10_alike_1 (j := 11) (n := 0) rfl) (hz_wg wX10_alike_1 (j := 12) (n := 66) rfl) rfl
theorem dX10_alike_77 : decode cX10_alike 77 = .ok (.iload 6, 2) := dq_21 (hz_wg wX10_alike_1 (j := 13) (n := 21) rfl) (hz_wg wX10_alike_1 (j := 14) (n := 6) rfl)
theorem dX10_alike_79 : decode cX10_alike 79 = .ok (.iaload, 1) := dq_46 (hz_wg wX10_alike_1 (j := 15) (n := 46) rfl)
theorem dX10_alike_80 : decode cX10_alike 80 = .ok (.iload_n 2, 1) := dq_28 (hz_wg wX10_alike_1 (j := 16) (n := 28) rfl)
theorem dX10_alike_81 : decode cX10_alike 81 = .ok (.if_icmp .eq 6, 3) := dq_159 (hz_wg wX10_alike_1 (j := 17) (n := 159) rfl) (hz_wg wX10_alike_1 (j := 18) (n := 0) rfl) (hz_wg wX10_alike_1 (j := 19) (n := 6) rfl) (by decide)
theorem dX10_alike_84 : decode cX10_alike 84 = .ok (.goto 126, 3) := dq_167 (hz_wg wX10_alike_1 (j := 20) (n := 167) rfl) (hz_wg wX10_alike_1 (j := 21) (n := 0) rfl) (hz_wg wX10_alike_1 (j := 22) (n := 126) rfl) (by decide)
theorem dX10_alike_87 : decode cX10_alike 87 = .ok (.iconst (-1), 1) := dq_2 (hz_wg wX10_alike_1 (j := 23) (n := 2) rfl)
theorem dX10_alike_88 : decode cX10_alike 88 = .ok (.istore 7, 2) := dq_54 (hz_wg wX10_alike_1 (j := 24) (n := 54) rfl) (hz_wg wX10_alike_1 (j := 25) (n := 7) rfl)
theorem dX10_alike_90 : decode cX10_alike 90 = .ok (.iconst 0, 1) := dq_3 (hz_wg wX10_alike_1 (j := 26) (n := 3) rfl)
theorem dX10_alike_91 : decode cX10_alike 91 = .ok (.istore 8, 2) := dq_54 (hz_wg wX10_alike_1 (j := 27) (n := 54) rfl) (hz_wg wX10_alike_1 (j := 28) (n := 8) rfl)
theorem dX10_alike_93 : decode cX10_alike 93 = .ok (.iload 8, 2) := dq_21 (hz_wg wX10_alike_1 (j := 29) (n := 21) rfl) (hz_wg wX10_alike_1 (j := 30) (n := 8) rfl)
theorem dX10_alike_95 : decode cX10_alike 95 = .ok (.aload_n 0, 1) := dq_42 (hz_wg wX10_alike_1 (j := 31) (n := 42) rfl)
theorem dX10_alike_96 : decode cX10_alike 96 = .ok (.getfield 351, 3) := dq_180 (hz_wg wX10_alike_1 (j := 32) (n := 180) rfl) (hz_wg wX10_alike_1 (j := 33) (n := 1) rfl) (hz_wg wX10_alike_1 (j := 34) (n := 95) rfl) rfl
theorem dX10_alike_99 : decode cX10_alike 99 = .ok (.if_icmp .ge 92, 3) := dq_162 (hz_wg wX10_alike_1 (j := 35) (n := 162) rfl) (hz_wg wX10_alike_1 (j := 36) (n := 0) rfl) (hz_wg wX10_alike_1 (j := 37) (n := 92) rfl) (by decide)
theorem dX10_alike_102 : decode cX10_alike 102 = .ok (.aload_n 0, 1) := dq_42 (hz_wg wX10_alike_1 (j := 38) (n := 42) rfl)
theorem dX10_alike_103 : decode cX10_alike 103 = .ok (.getfield 78, 3) := dq_180 (hz_wg wX10_alike_1 (j := 39) (n := 180) rfl) (hz_wg wX10_alike_1 (j := 40) (n := 0) rfl) (hz_wg wX10_alike_1 (j := 41) (n := 78) rfl) rfl
theorem dX10_alike_106 : decode cX10_alike 106 = .ok (.iload 8, 2) := dq_21 (hz_wg wX10_alike_1 (j := 42) (n := 21) rfl) (hz_wg wX10_alike_1 (j := 43) (n := 8) rfl)
theorem dX10_alike_108 : decode cX10_alike 108 = .ok (.baload, 1) := dq_51 (hz_wg wX10_alike_1 (j := 44) (n := 51) rfl)
theorem dX10_alike_109 : decode cX10_alike 109 = .ok (.ifCond .ne 76, 3) := dq_154 (hz_wg wX10_alike_1 (j := 45) (n := 154) rfl) (hz_wg wX10_alike_1 (j := 46) (n := 0) rfl) (hz_wg wX10_alike_1 (j := 47) (n := 76) rfl) (by decide)
theorem dX10_alike_112 : decode cX10_alike 112 = .ok (.aload_n 0, 1) := dq_42 (hz_wg wX10_alike_1 (j := 48) (n := 42) rfl)
theorem dX10_alike_113 : decode cX10_alike 113 = .ok (.getfield 63, 3) := dq_180 (hz_wg wX10_alike_1 (j := 49) (n := 180) rfl) (hz_wg wX10_alike_1 (j := 50) (n := 0) rfl) (hz_wg wX10_alike_1 (j := 51) (n := 63) rfl) rfl
theorem dX10_alike_116 : decode cX10_alike 116 = .ok (.iload 8, 2) := dq_21 (hz_wg wX10_alike_1 (j := 52) (n := 21) rfl) (hz_wg wX10_alike_1 (j := 53) (n := 8) rfl)
theorem dX10_alike_118 : decode cX10_alike 118 = .ok (.iaload, 1) := dq_46 (hz_wg wX10_alike_1 (j := 54) (n := 46) rfl)
theorem dX10_alike_119 : decode cX10_alike 119 = .ok (.iload_n 2, 1) := dq_28 (hz_wg wX10_alike_1 (j := 55) (n := 28) rfl)
theorem dX10_alike_120 : decode cX10_alike 120 = .ok (.if_icmp .ne 65, 3) := dq_160 (hz_wg wX10_alike_1 (j := 56) (n := 160) rfl) (hz_wg wX10_alike_1 (j := 57) (n := 0) rfl) (hz_wg wX10_alike_1 (j := 58) (n := 65) rfl) (by decide)
theorem dX10_alike_123 : decode cX10_alike 123 = .ok (.aload_n 0, 1) := dq_42 (hz_wg wX10_alike_1 (j := 59) (n := 42) rfl)
theorem dX10_alike_124 : decode cX10_alike 124 = .ok (.getfield 66, 3) := dq_180 (hz_wg wX10_alike_1 (j := 60) (n := 180) rfl) (hz_wg wX10_alike_1 (j := 61) (n := 0) rfl) (hz_wg wX10_alike_1 (j := 62) (n := 66) rfl) rfl
theorem dX10_alike_127 : decode cX10_alike 127 = .ok (.iload 8, 2) := dq_21 (hz_wg wX10_alike_1 (j := 63) (n := 21) rfl) (hz_wg wX10_alike_2 (j := 0) (n := 8) rfl)
theorem dX10_alike_129 : decode cX10_alike 129 = .ok (.iaload, 1) := dq_46 (hz_wg wX10_alike_2 (j := 1) (n := 46) rfl)
theorem dX10_alike_130 : decode cX10_alike 130 = .ok (.iload_n 1, 1) := dq_27 (hz_wg wX10_alike_2 (j := 2) (n := 27) rfl)
theorem dX10_alike_131 : decode cX10_alike 131 = .ok (.if_icmp .ne 54, 3) := dq_160 (hz_wg wX10_alike_2 (j := 3) (n := 160) rfl) (hz_wg wX10_alike_2 (j := 4) (n := 0) rfl) (hz_wg wX10_alike_2 (j := 5) (n := 54) rfl) (by decide)
theorem dX10_alike_134 : decode cX10_alike 134 = .ok (.aload_n 0, 1) := dq_42 (hz_wg wX10_alike_2 (j := 6) (n := 42) rfl)
theorem dX10_alike_135 : decode cX10_alike 135 = .ok (.getfield 69, 3) := dq_180 (hz_wg wX10_alike_2 (j := 7) (n := 180) rfl) (hz_wg wX10_alike_2 (j := 8) (n := 0) rfl) (hz_wg wX10_alike_2 (j := 9) (n := 69) rfl) rfl
theorem dX10_alike_138 : decode cX10_alike 138 = .ok (.iload 8, 2) := dq_21 (hz_wg wX10_alike_2 (j := 10) (n := 21) rfl) (hz_wg wX10_alike_2 (j := 11) (n := 8) rfl)
theorem dX10_alike_140 : decode cX10_alike 140 = .ok (.iaload, 1) := dq_46 (hz_wg wX10_alike_2 (j := 12) (n := 46) rfl)
theorem dX10_alike_141 : decode cX10_alike 141 = .ok (.iload_n 3, 1) := dq_29 (hz_wg wX10_alike_2 (j := 13) (n := 29) rfl)
theorem dX10_alike_142 : decode cX10_alike 142 = .ok (.if_icmp .gt 43, 3) := dq_163 (hz_wg wX10_alike_2 (j := 14) (n := 163) rfl) (hz_wg wX10_alike_2 (j := 15) (n := 0) rfl) (hz_wg wX10_alike_2 (j := 16) (n := 43) rfl) (by decide)
theorem dX10_alike_145 : decode cX10_alike 145 = .ok (.aload_n 0, 1) := dq_42 (hz_wg wX10_alike_2 (j := 17) (n := 42) rfl)
theorem dX10_alike_146 : decode cX10_alike 146 = .ok (.iload 6, 2) := dq_21 (hz_wg wX10_alike_2 (j := 18) (n := 21) rfl) (hz_wg wX10_alike_2 (j := 19) (n := 6) rfl)
theorem dX10_alike_148 : decode cX10_alike 148 = .ok (.iload 8, 2) := dq_21 (hz_wg wX10_alike_2 (j := 20) (n := 21) rfl) (hz_wg wX10_alike_2 (j := 21) (n := 8) rfl)
theorem dX10_alike_150 : decode cX10_alike 150 = .ok (.invokevirtual 354, 3) := dq_182 (hz_wg wX10_alike_2 (j := 22) (n := 182) rfl) (hz_wg wX10_alike_2 (j := 23) (n := 1) rfl) (hz_wg wX10_alike_2 (j := 24) (n := 98) rfl) rfl
theorem dX10_alike_153 : decode cX10_alike 153 = .ok (.ifCond .ne 6, 3) := dq_154 (hz_wg wX10_alike_2 (j := 25) (n := 154) rfl) (hz_wg wX10_alike_2 (j := 26) (n := 0) rfl) (hz_wg wX10_alike_2 (j := 27) (n := 6) rfl) (by decide)
theorem dX10_alike_156 : decode cX10_alike 156 = .ok (.goto 29, 3) := dq_167 (hz_wg wX10_alike_2 (j := 28) (n := 167) rfl) (hz_wg wX10_alike_2 (j := 29) (n := 0) rfl) (hz_wg wX10_alike_2 (j := 30) (n := 29) rfl) (by decide)
theorem dX10_alike_159 : decode cX10_alike 159 = .ok (.iload 7, 2) := dq_21 (hz_wg wX10_alike_2 (j := 31) (n := 21) rfl) (hz_wg wX10_alike_2 (j := 32) (n := 7) rfl)
theorem dX10_alike_161 : decode cX10_alike 161 = .ok (.ifCond .lt 20, 3) := dq_155 (hz_wg wX10_alike_2 (j := 33) (n := 155) rfl) (hz_wg wX10_alike_2 (j := 34) (n := 0) rfl) (hz_wg wX10_alike_2 (j := 35) (n := 20) rfl) (by decide)
theorem dX10_alike_164 : decode cX10_alike 164 = .ok (.aload_n 0, 1) := dq_42 (hz_wg wX10_alike_2 (j := 36) (n := 42) rfl)
theorem dX10_alike_165 : decode cX10_alike 165 = .ok (.getfield 69, 3) := dq_180 (hz_wg wX10_alike_2 (j := 37) (n := 180) rfl) (hz_wg wX10_alike_2 (j := 38) (n := 0) rfl) (hz_wg wX10_alike_2 (j := 39) (n := 69) rfl) rfl
theorem dX10_alike_168 : decode cX10_alike 168 = .ok (.iload 8, 2) := dq_21 (hz_wg wX10_alike_2 (j := 40) (n := 21) rfl) (hz_wg wX10_alike_2 (j := 41) (n := 8) rfl)
theorem dX10_alike_170 : decode cX10_alike 170 = .ok (.iaload, 1) := dq_46 (hz_wg wX10_alike_2 (j := 42) (n := 46) rfl)
theorem dX10_alike_171 : decode cX10_alike 171 = .ok (.aload_n 0, 1) := dq_42 (hz_wg wX10_alike_2 (j := 43) (n := 42) rfl)
theorem dX10_alike_172 : decode cX10_alike 172 = .ok (.getfield 69, 3) := dq_180 (hz_wg wX10_alike_2 (j := 44) (n := 180) rfl) (hz_wg wX10_alike_2 (j := 45) (n := 0) rfl) (hz_wg wX10_alike_2 (j := 46) (n := 69) rfl) rfl
theorem dX10_alike_175 : decode cX10_alike 175 = .ok (.iload 7, 2) := dq_21 (hz_wg wX10_alike_2 (j := 47) (n := 21) rfl) (hz_wg wX10_alike_2 (j := 48) (n := 7) rfl)
theorem dX10_alike_177 : decode cX10_alike 177 = .ok (.iaload, 1) := dq_46 (hz_wg wX10_alike_2 (j := 49) (n := 46) rfl)
theorem dX10_alike_178 : decode cX10_alike 178 = .ok (.if_icmp .ge 7, 3) := dq_162 (hz_wg wX10_alike_2 (j := 50) (n := 162) rfl) (hz_wg wX10_alike_2 (j := 51) (n := 0) rfl) (hz_wg wX10_alike_2 (j := 52) (n := 7) rfl) (by decide)
theorem dX10_alike_181 : decode cX10_alike 181 = .ok (.iload 8, 2) := dq_21 (hz_wg wX10_alike_2 (j := 53) (n := 21) rfl) (hz_wg wX10_alike_2 (j := 54) (n := 8) rfl)
theorem dX10_alike_183 : decode cX10_alike 183 = .ok (.istore 7, 2) := dq_54 (hz_wg wX10_alike_2 (j := 55) (n := 54) rfl) (hz_wg wX10_alike_2 (j := 56) (n := 7) rfl)
theorem dX10_alike_185 : decode cX10_alike 185 = .ok (.iinc 8 1, 3) := dq_132 (hz_wg wX10_alike_2 (j := 57) (n := 132) rfl) (hz_wg wX10_alike_2 (j := 58) (n := 8) rfl) (hz_wg wX10_alike_2 (j := 59) (n := 1) rfl) (by decide)
theorem dX10_alike_188 : decode cX10_alike 188 = .ok (.goto (-95), 3) := dq_167 (hz_wg wX10_alike_2 (j := 60) (n := 167) rfl) (hz_wg wX10_alike_2 (j := 61) (n := 255) rfl) (hz_wg wX10_alike_2 (j := 62) (n := 161) rfl) (by decide)
theorem dX10_alike_191 : decode cX10_alike 191 = .ok (.iload 7, 2) := dq_21 (hz_wg wX10_alike_2 (j := 63) (n := 21) rfl) (hz_wg wX10_alike_3 (j := 0) (n := 7) rfl)
theorem dX10_alike_193 : decode cX10_alike 193 = .ok (.ifCond .ge 6, 3) := dq_156 (hz_wg wX10_alike_3 (j := 1) (n := 156) rfl) (hz_wg wX10_alike_3 (j := 2) (n := 0) rfl) (hz_wg wX10_alike_3 (j := 3) (n := 6) rfl) (by decide)
theorem dX10_alike_196 : decode cX10_alike 196 = .ok (.goto 14, 3) := dq_167 (hz_wg wX10_alike_3 (j := 4) (n := 167) rfl) (hz_wg wX10_alike_3 (j := 5) (n := 0) rfl) (hz_wg wX10_alike_3 (j := 6) (n := 14) rfl) (by decide)
theorem dX10_alike_199 : decode cX10_alike 199 = .ok (.aload_n 0, 1) := dq_42 (hz_wg wX10_alike_3 (j := 7) (n := 42) rfl)
theorem dX10_alike_200 : decode cX10_alike 200 = .ok (.getfield 78, 3) := dq_180 (hz_wg wX10_alike_3 (j := 8) (n := 180) rfl) (hz_wg wX10_alike_3 (j := 9) (n := 0) rfl) (hz_wg wX10_alike_3 (j := 10) (n := 78) rfl) rfl
theorem dX10_alike_203 : decode cX10_alike 203 = .ok (.iload 7, 2) := dq_21 (hz_wg wX10_alike_3 (j := 11) (n := 21) rfl) (hz_wg wX10_alike_3 (j := 12) (n := 7) rfl)
theorem dX10_alike_205 : decode cX10_alike 205 = .ok (.iconst 1, 1) := dq_4 (hz_wg wX10_alike_3 (j := 13) (n := 4) rfl)
theorem dX10_alike_206 : decode cX10_alike 206 = .ok (.bastore, 1) := dq_84 (hz_wg wX10_alike_3 (j := 14) (n := 84) rfl)
theorem dX10_alike_207 : decode cX10_alike 207 = .ok (.iinc 4 1, 3) := dq_132 (hz_wg wX10_alike_3 (j := 15) (n := 132) rfl) (hz_wg wX10_alike_3 (j := 16) (n := 4) rfl) (hz_wg wX10_alike_3 (j := 17) (n := 1) rfl) (by decide)
theorem dX10_alike_210 : decode cX10_alike 210 = .ok (.iinc 6 1, 3) := dq_132 (hz_wg wX10_alike_3 (j := 18) (n := 132) rfl) (hz_wg wX10_alike_3 (j := 19) (n := 6) rfl) (hz_wg wX10_alike_3 (j := 20) (n := 1) rfl) (by decide)
theorem dX10_alike_213 : decode cX10_alike 213 = .ok (.goto (-172), 3) := dq_167 (hz_wg wX10_alike_3 (j := 21) (n := 167) rfl) (hz_wg wX10_alike_3 (j := 22) (n := 255) rfl) (hz_wg wX10_alike_3 (j := 23) (n := 84) rfl) (by decide)
theorem dX10_alike_216 : decode cX10_alike 216 = .ok (.iinc 5 1, 3) := dq_132 (hz_wg wX10_alike_3 (j := 24) (n := 132) rfl) (hz_wg wX10_alike_3 (j := 25) (n := 5) rfl) (hz_wg wX10_alike_3 (j := 26) (n := 1) rfl) (by decide)
theorem dX10_alike_219 : decode cX10_alike 219 = .ok (.goto (-187), 3) := dq_167 (hz_wg wX10_alike_3 (j := 27) (n := 167) rfl) (hz_wg wX10_alike_3 (j := 28) (n := 255) rfl) (hz_wg wX10_alike_3 (j := 29) (n := 69) rfl) (by decide)
theorem dX10_alike_222 : decode cX10_alike 222 = .ok (.iload 4, 2) := dq_21 (hz_wg wX10_alike_3 (j := 30) (n := 21) rfl) (hz_wg wX10_alike_3 (j := 31) (n := 4) rfl)
theorem dX10_alike_224 : decode cX10_alike 224 = .ok (.ireturn, 1) := dq_172 (hz_wg wX10_alike_3 (j := 32) (n := 172) rfl)
set_option maxHeartbeats 4000000 in
set_option maxRecDepth 100000 in
theorem t_X10_alike (l : Launch) (dC : Nat → ClassId) (dI : Nat → Nat → Nat) (dA : Nat → ClassId) (L : List Nat) (h : hx_h) (sz : Nat) (x : Nat) (i1 : Int32) (i2 : Int32) (i3 : Int32) (hT : hx_T T_tb L h) (gx : hx_g L h x 10) (hi3 : i3.toInt ≤ 7999) : Met l yX10_alike (Cond.code yX10_alike cX10_alike 9 (some .int) :: hx_all) ({ frames := 2, cells := 0, slots := 0, locals := 45 }) (va_Pc [.ref x, .int i1, .int i2, .int i3] (hx_B T_tb (P_ty dA) (dC, dI) vwCl L h sz)) (va_Qi (fun (r : Int32) (u : List Nat × hx_h) => (True) ∧ hx_T T_tb u.1 u.2 ∧ hx_S T_tb [(71, 0)] L h u.1 u.2) (hx_E T_tb (P_ty dA) (dC, dI) vwCl (hx_A L sz)) (hx_A L sz)) 0 0 (hx_A L sz) := by
  refine hx_met (lv := [(0, .ref x), (1, .int i1), (2, .int i2), (3, .int i3)]) (by decide +kernel) rfl (Nat.le_of_ble_eq_true rfl) rfl ?_
  intro p e s m below meth c hx hb hml hr hlk hts0 hown hin hsz hW ls hl
  have hts : ∀ w ∈ hx_all, w.before _ s = true := fun w hw => hts0 w (List.mem_cons_of_mem _ hw)
  have hown : s.vm.findClass "SmallCourtModel" = some m.cls := hown
  have hM : hx_S T_tb [(71, 0)] L h L h := hx_S.rf
  refine lv_iconst (v := 0) hx hb dX10_alike_0 (by decide) ?_
  refine lv_istore (lv' := [(4, .int (0 : Int32)), (0, .ref x), (1, .int i1), (2, .int i2), (3, .int i3)]) hx hb dX10_alike_1 hl (by decide) rfl (fun ls hl => ?_)
  have loop3 : ∀ (n3 : Nat) (iv3_4 : Int32) (H : Heap) (locs : List Loc) (hL1 : List Nat) (hl1 : hx_h), 0 ≤ iv3_4.toInt → iv3_4.toInt ≤ 400 → ∀ (ls : Array Slot), 400 - iv3_4.toInt < (n3 : Int) → hx_W T_tb (P_ty dA) (dC, dI) vwCl (hx_A L sz) s.heap hL1 hl1 s H locs → hx_T T_tb hL1 hl1 → hx_S T_tb [(71, 0)] L h hL1 hl1 → lv_has ls 9 [(4, .int iv3_4), (0, .ref x), (1, .int i1), (2, .int i2), (3, .int i3)] → W p l e ({ frames := 2, cells := 0, slots := 0, locals := 45 }) s m ([.ref x, .int i1, .int i2, .int i3] : List Value).toArray below meth c H locs 0 0 (MQ below (va_Qi (fun (r : Int32) (u : List Nat × hx_h) => (True) ∧ hx_T T_tb u.1 u.2 ∧ hx_S T_tb [(71, 0)] L h u.1 u.2) (hx_E T_tb (P_ty dA) (dC, dI) vwCl (hx_A L sz)) (hx_A L sz)) ([.ref x, .int i1, .int i2, .int i3] : List Value).toArray s 0 0 (hx_A L sz)) (F0 m 3 ls []) := by
    intro n3
    induction n3 with
    | zero => intro iv3_4 H locs hL1 hl1 bliv3_4 buiv3_4  ls hn3; exfalso; omega
    | succ n3 ih3 =>
      intro iv3_4 H locs hL1 hl1 bliv3_4 buiv3_4  ls hn3 hW hT hM   hl
      refine lv_iload hx hb dX10_alike_3 (lv_at hl 0 rfl) ?_
      refine lv_aload_n hx hb dX10_alike_5 rfl (lv_at hl 1 rfl) ?_
      refine hx_geti hx hb hts hC_10 hown hW hT (gx.S hM) tt_10 29 (by decide) rfl kw_1172 ⟨rfl, rfl, rfl⟩ dX10_alike_6 (fun x_1 ex_1 lx_1 ux_1 => ?_)
      have fx_1 := ex_1.symm
      refine hb_icmp_ge (zx := iv3_4.toInt) (zy := x_1.toInt) (tgt := 26) hx hb rfl rfl dX10_alike_9 (by decide) (fun c_2 => ?_) (fun c_2 => ?_)
      · skip
        refine lv_iconst (v := 0) hx hb dX10_alike_26 (by decide) ?_
        refine lv_istore (lv' := [(4, .int (0 : Int32)), (0, .ref x), (1, .int i1), (2, .int i2), (3, .int i3)]) hx hb dX10_alike_27 hl (by decide) rfl (fun ls hl => ?_)
        refine lv_iconst (v := 0) hx hb dX10_alike_29 (by decide) ?_
        refine lv_istore (lv' := [(5, .int (0 : Int32)), (4, .int (0 : Int32)), (0, .ref x), (1, .int i1), (2, .int i2), (3, .int i3)]) hx hb dX10_alike_30 hl (by decide) rfl (fun ls hl => ?_)
        have loop32 : ∀ (n32 : Nat) (iv32_4 iv32_5 : Int32) (H : Heap) (locs : List Loc) (hL1 : List Nat) (hl1 : hx_h), -2147483648 ≤ iv32_4.toInt → iv32_4.toInt ≤ 2147483647 → 0 ≤ iv32_5.toInt → iv32_5.toInt ≤ 8000 → ∀ (ls : Array Slot), 8000 - iv32_5.toInt < (n32 : Int) → hx_W T_tb (P_ty dA) (dC, dI) vwCl (hx_A L sz) s.heap hL1 hl1 s H locs → hx_T T_tb hL1 hl1 → hx_S T_tb [(71, 0)] L h hL1 hl1 → hl1.2.1 x 29 = x_1 → lv_has ls 9 [(5, .int iv32_5), (4, .int iv32_4), (0, .ref x), (1, .int i1), (2, .int i2), (3, .int i3)] → W p l e ({ frames := 2, cells := 0, slots := 0, locals := 45 }) s m ([.ref x, .int i1, .int i2, .int i3] : List Value).toArray below meth c H locs 0 0 (MQ below (va_Qi (fun (r : Int32) (u : List Nat × hx_h) => (True) ∧ hx_T T_tb u.1 u.2 ∧ hx_S T_tb [(71, 0)] L h u.1 u.2) (hx_E T_tb (P_ty dA) (dC, dI) vwCl (hx_A L sz)) (hx_A L sz)) ([.ref x, .int i1, .int i2, .int i3] : List Value).toArray s 0 0 (hx_A L sz)) (F0 m 32 ls []) := by
          intro n32
          induction n32 with
          | zero => intro iv32_4 iv32_5 H locs hL1 hl1 bliv32_4 buiv32_4 bliv32_5 buiv32_5  ls hn32; exfalso; omega
          | succ n32 ih32 =>
            intro iv32_4 iv32_5 H locs hL1 hl1 bliv32_4 buiv32_4 bliv32_5 buiv32_5  ls hn32 hW hT hM fx_1  hl
            refine lv_iload hx hb dX10_alike_32 (lv_at hl 0 rfl) ?_
            refine lv_iload_n hx hb dX10_alike_34 rfl (lv_at hl 5 rfl) ?_
            refine hb_icmp_gt (zx := iv32_5.toInt) (zy := i3.toInt) (tgt := 222) hx hb rfl rfl dX10_alike_35 (by decide) (fun c_3 => ?_) (fun c_3 => ?_)
            · skip
              refine lv_iload hx hb dX10_alike_222 (lv_at hl 1 rfl) ?_
              exact hx_reti hx hb hr hlk hW ⟨trivial, hT, hM⟩ dX10_alike_224
            · skip
              refine lv_iconst (v := 0) hx hb dX10_alike_38 (by decide) ?_
              refine lv_istore (lv' := [(6, .int (0 : Int32)), (5, .int iv32_5), (4, .int iv32_4), (0, .ref x), (1, .int i1), (2, .int i2), (3, .int i3)]) hx hb dX10_alike_39 hl (by decide) rfl (fun ls hl => ?_)
              have loop41 : ∀ (n41 : Nat) (iv41_4 iv41_6 : Int32) (H : Heap) (locs : List Loc) (hL1 : List Nat) (hl1 : hx_h), -2147483648 ≤ iv41_4.toInt → iv41_4.toInt ≤ 2147483647 → 0 ≤ iv41_6.toInt → iv41_6.toInt ≤ 400 → ∀ (ls : Array Slot), 400 - iv41_6.toInt < (n41 : Int) → hx_W T_tb (P_ty dA) (dC, dI) vwCl (hx_A L sz) s.heap hL1 hl1 s H locs → hx_T T_tb hL1 hl1 → hx_S T_tb [(71, 0)] L h hL1 hl1 → hl1.2.1 x 29 = x_1 → lv_has ls 9 [(6, .int iv41_6), (5, .int iv32_5), (4, .int iv41_4), (0, .ref x), (1, .int i1), (2, .int i2), (3, .int i3)] → W p l e ({ frames := 2, cells := 0, slots := 0, locals := 45 }) s m ([.ref x, .int i1, .int i2, .int i3] : List Value).toArray below meth c H locs 0 0 (MQ below (va_Qi (fun (r : Int32) (u : List Nat × hx_h) => (True) ∧ hx_T T_tb u.1 u.2 ∧ hx_S T_tb [(71, 0)] L h u.1 u.2) (hx_E T_tb (P_ty dA) (dC, dI) vwCl (hx_A L sz)) (hx_A L sz)) ([.ref x, .int i1, .int i2, .int i3] : List Value).toArray s 0 0 (hx_A L sz)) (F0 m 41 ls []) := by
                intro n41
                induction n41 with
                | zero => intro iv41_4 iv41_6 H locs hL1 hl1 bliv41_4 buiv41_4 bliv41_6 buiv41_6  ls hn41; exfalso; omega
                | succ n41 ih41 =>
                  intro iv41_4 iv41_6 H locs hL1 hl1 bliv41_4 buiv41_4 bliv41_6 buiv41_6  ls hn41 hW hT hM fx_1  hl
                  refine lv_iload hx hb dX10_alike_41 (lv_at hl 0 rfl) ?_
                  refine lv_aload_n hx hb dX10_alike_43 rfl (lv_at hl 3 rfl) ?_
                  refine hk_geti hx hb hts hC_10 hown hW (gx.S hM) tt_10 29 (by decide) rfl kw_1172 ⟨rfl, rfl, rfl⟩ fx_1 dX10_alike_44 ?_
                  refine hb_icmp_ge (zx := iv41_6.toInt) (zy := x_1.toInt) (tgt := 216) hx hb rfl rfl dX10_alike_47 (by decide) (fun c_4 => ?_) (fun c_4 => ?_)
                  · skip
                    obtain ⟨x_5, ex_5⟩ : ∃ y : Int32, y = iv32_5 + Int32.ofInt 1 := ⟨_, rfl⟩
                    have rg_6 := i32_r iv32_5
                    have zx_5 : x_5.toInt = iv32_5.toInt + (1) := by rw [ex_5]; exact i32_add rfl (by decide) (by omega) (by omega)
                    refine lv_iinc (v := x_5) (lv' := [(5, .int x_5), (6, .int iv41_6), (4, .int iv41_4), (0, .ref x), (1, .int i1), (2, .int i2), (3, .int i3)]) hx hb dX10_alike_216 hl (k := 1) rfl ex_5.symm (by decide) rfl (fun ls hl => ?_)
                    refine lv_goto (tgt := 32) hx hb dX10_alike_219 (by decide) ?_
                    exact ih32 iv41_4 x_5 _ _ hL1 hl1 (i32_r _).1 (i32_r _).2 (by omega) (by omega)  ls (by omega) hW hT hM fx_1  (lv_sub hl [0, 2, 3, 4, 5, 6] rfl)
                  · skip
                    refine lv_aload_n hx hb dX10_alike_50 rfl (lv_at hl 3 rfl) ?_
                    refine hx_getn hx hb hts hC_10 hown hW hT (gx.S hM) tt_10 32 (by decide) rfl kw_1175 ⟨rfl, rfl, rfl⟩ dX10_alike_51 (fun q_7 fq_7 gq_7 => ?_)
                    refine lv_iload hx hb dX10_alike_54 (lv_at hl 0 rfl) ?_
                    refine hx_iald hx hb hW hT gq_7 tt_68 rfl ⟨by omega, by omega⟩ dX10_alike_56 (fun x_8 ex_8 lx_8 ux_8 => ?_)
                    refine lv_iload hx hb dX10_alike_57 (lv_at hl 1 rfl) ?_
                    refine hb_icmp_ne (zx := x_8.toInt) (zy := iv32_5.toInt) (tgt := 210) hx hb rfl rfl dX10_alike_59 (by decide) (fun c_9 => ?_) (fun c_9 => ?_)
                    · skip
                      obtain ⟨x_10, ex_10⟩ : ∃ y : Int32, y = iv41_6 + Int32.ofInt 1 := ⟨_, rfl⟩
                      have rg_11 := i32_r iv41_6
                      have zx_10 : x_10.toInt = iv41_6.toInt + (1) := by rw [ex_10]; exact i32_add rfl (by decide) (by omega) (by omega)
                      refine lv_iinc (v := x_10) (lv' := [(6, .int x_10), (5, .int iv32_5), (4, .int iv41_4), (0, .ref x), (1, .int i1), (2, .int i2), (3, .int i3)]) hx hb dX10_alike_210 hl (k := 0) rfl ex_10.symm (by decide) rfl (fun ls hl => ?_)
                      refine lv_goto (tgt := 41) hx hb dX10_alike_213 (by decide) ?_
                      exact ih41 iv41_4 x_10 _ _ hL1 hl1 (i32_r _).1 (i32_r _).2 (by omega) (by omega)  ls (by omega) hW hT hM fx_1  (lv_sub hl [0, 1, 2, 3, 4, 5, 6] rfl)
                    · skip
                      refine lv_aload_n hx hb dX10_alike_62 rfl (lv_at hl 3 rfl) ?_
                      refine hx_getn hx hb hts hC_10 hown hW hT (gx.S hM) tt_10 30 (by decide) rfl kw_1173 ⟨rfl, rfl, rfl⟩ dX10_alike_63 (fun q_12 fq_12 gq_12 => ?_)
                      refine lv_iload hx hb dX10_alike_66 (lv_at hl 0 rfl) ?_
                      refine hx_iald hx hb hW hT gq_12 tt_66 rfl ⟨by omega, by omega⟩ dX10_alike_68 (fun x_13 ex_13 lx_13 ux_13 => ?_)
                      refine lv_iload_n hx hb dX10_alike_69 rfl (lv_at hl 4 rfl) ?_
                      refine hb_icmp_ne (zx := x_13.toInt) (zy := i1.toInt) (tgt := 210) hx hb rfl rfl dX10_alike_70 (by decide) (fun c_14 => ?_) (fun c_14 => ?_)
                      · skip
                        obtain ⟨x_15, ex_15⟩ : ∃ y : Int32, y = iv41_6 + Int32.ofInt 1 := ⟨_, rfl⟩
                        have rg_16 := i32_r iv41_6
                        have zx_15 : x_15.toInt = iv41_6.toInt + (1) := by rw [ex_15]; exact i32_add rfl (by decide) (by omega) (by omega)
                        refine lv_iinc (v := x_15) (lv' := [(6, .int x_15), (5, .int iv32_5), (4, .int iv41_4), (0, .ref x), (1, .int i1), (2, .int i2), (3, .int i3)]) hx hb dX10_alike_210 hl (k := 0) rfl ex_15.symm (by decide) rfl (fun ls hl => ?_)
                        refine lv_goto (tgt := 41) hx hb dX10_alike_213 (by decide) ?_
                        exact ih41 iv41_4 x_15 _ _ hL1 hl1 (i32_r _).1 (i32_r _).2 (by omega) (by omega)  ls (by omega) hW hT hM fx_1  (lv_sub hl [0, 1, 2, 3, 4, 5, 6] rfl)
                      · skip
                        refine lv_aload_n hx hb dX10_alike_73 rfl (lv_at hl 3 rfl) ?_
                        refine hx_getn hx hb hts hC_10 hown hW hT (gx.S hM) tt_10 31 (by decide) rfl kw_1174 ⟨rfl, rfl, rfl⟩ dX10_alike_74 (fun q_17 fq_17 gq_17 => ?_)
                        refine lv_iload hx hb dX10_alike_77 (lv_at hl 0 rfl) ?_
                        refine hx_iald hx hb hW hT gq_17 tt_67 rfl ⟨by omega, by omega⟩ dX10_alike_79 (fun x_18 ex_18 lx_18 ux_18 => ?_)
                        refine lv_iload_n hx hb dX10_alike_80 rfl (lv_at hl 5 rfl) ?_
                        refine hb_icmp_eq (zx := x_18.toInt) (zy := i2.toInt) (tgt := 87) hx hb rfl rfl dX10_alike_81 (by decide) (fun c_19 => ?_) (fun c_19 => ?_)
                        · skip
                          refine lv_iconst (v := -1) hx hb dX10_alike_87 (by decide) ?_
                          refine lv_istore (lv' := [(7, .int (-1 : Int32)), (6, .int iv41_6), (5, .int iv32_5), (4, .int iv41_4), (0, .ref x), (1, .int i1), (2, .int i2), (3, .int i3)]) hx hb dX10_alike_88 hl (by decide) rfl (fun ls hl => ?_)
                          refine lv_iconst (v := 0) hx hb dX10_alike_90 (by decide) ?_
                          refine lv_istore (lv' := [(8, .int (0 : Int32)), (7, .int (-1 : Int32)), (6, .int iv41_6), (5, .int iv32_5), (4, .int iv41_4), (0, .ref x), (1, .int i1), (2, .int i2), (3, .int i3)]) hx hb dX10_alike_91 hl (by decide) rfl (fun ls hl => ?_)
                          have loop93 : ∀ (n93 : Nat) (iv93_7 iv93_8 : Int32) (H : Heap) (locs : List Loc) (hL1 : List Nat) (hl1 : hx_h), -1 ≤ iv93_7.toInt → iv93_7.toInt ≤ 399 → 0 ≤ iv93_8.toInt → iv93_8.toInt ≤ 400 → ∀ (ls : Array Slot), 400 - iv93_8.toInt < (n93 : Int) → hx_W T_tb (P_ty dA) (dC, dI) vwCl (hx_A L sz) s.heap hL1 hl1 s H locs → hx_T T_tb hL1 hl1 → hx_S T_tb [(71, 0)] L h hL1 hl1 → hl1.2.1 x 29 = x_1 → hl1.2.2 x 32 = some q_7 → hl1.2.2 x 30 = some q_12 → hl1.2.2 x 31 = some q_17 → hx_g hL1 hl1 q_7 68 → hx_g hL1 hl1 q_12 66 → hx_g hL1 hl1 q_17 67 → lv_has ls 9 [(8, .int iv93_8), (7, .int iv93_7), (6, .int iv41_6), (5, .int iv32_5), (4, .int iv41_4), (0, .ref x), (1, .int i1), (2, .int i2), (3, .int i3)] → W p l e ({ frames := 2, cells := 0, slots := 0, locals := 45 }) s m ([.ref x, .int i1, .int i2, .int i3] : List Value).toArray below meth c H locs 0 0 (MQ below (va_Qi (fun (r : Int32) (u : List Nat × hx_h) => (True) ∧ hx_T T_tb u.1 u.2 ∧ hx_S T_tb [(71, 0)] L h u.1 u.2) (hx_E T_tb (P_ty dA) (dC, dI) vwCl (hx_A L sz)) (hx_A L sz)) ([.ref x, .int i1, .int i2, .int i3] : List Value).toArray s 0 0 (hx_A L sz)) (F0 m 93 ls []) := by
                            intro n93
                            induction n93 with
                            | zero => intro iv93_7 iv93_8 H locs hL1 hl1 bliv93_7 buiv93_7 bliv93_8 buiv93_8  ls hn93; exfalso; omega
                            | succ n93 ih93 =>
                              intro iv93_7 iv93_8 H locs hL1 hl1 bliv93_7 buiv93_7 bliv93_8 buiv93_8  ls hn93 hW hT hM fx_1 fq_7 fq_12 fq_17 gq_7 gq_12 gq_17 hl
                              refine lv_iload hx hb dX10_alike_93 (lv_at hl 0 rfl) ?_
                              refine lv_aload_n hx hb dX10_alike_95 rfl (lv_at hl 5 rfl) ?_
                              refine hk_geti hx hb hts hC_10 hown hW (gx.S hM) tt_10 29 (by decide) rfl kw_1172 ⟨rfl, rfl, rfl⟩ fx_1 dX10_alike_96 ?_
                              refine hb_icmp_ge (zx := iv93_8.toInt) (zy := x_1.toInt) (tgt := 191) hx hb rfl rfl dX10_alike_99 (by decide) (fun c_20 => ?_) (fun c_20 => ?_)
                              · skip
                                refine lv_iload hx hb dX10_alike_191 (lv_at hl 1 rfl) ?_
                                refine hb_if_ge (zx := iv93_7.toInt) (tgt := 199) hx hb rfl dX10_alike_193 (by decide) (fun c_21 => ?_) (fun c_21 => ?_)
                                · skip
                                  refine lv_aload_n hx hb dX10_alike_199 rfl (lv_at hl 5 rfl) ?_
                                  refine hx_getn hx hb hts hC_10 hown hW hT (gx.S hM) tt_10 35 (by decide) rfl kw_1178 ⟨rfl, rfl, rfl⟩ dX10_alike_200 (fun q_22 fq_22 gq_22 => ?_)
                                  refine lv_iload hx hb dX10_alike_203 (lv_at hl 1 rfl) ?_
                                  refine lv_iconst (v := 1) hx hb dX10_alike_205 (by decide) ?_
                                  refine hx_zast hx hb hW hT (hx_S.rf (M := [(71, 0)])) gq_22 tt_71 rfl ⟨by omega, by omega⟩ (y := 1) (by decide) (by decide) (List.mem_singleton.mpr rfl) dX10_alike_206 (fun H locs h_23 eh_23 hW hT hs => ?_)
                                  replace fx_1 := (hs.o (gx.S hM) trivial rfl).1.trans fx_1
                                  replace fq_7 := (hs.o (gx.S hM) trivial rfl).2.trans fq_7
                                  replace fq_12 := (hs.o (gx.S hM) trivial rfl).2.trans fq_12
                                  replace fq_17 := (hs.o (gx.S hM) trivial rfl).2.trans fq_17
                                  replace fq_22 := (hs.o (gx.S hM) trivial rfl).2.trans fq_22
                                  replace hM := hM.tr (hs.mono (by decide))
                                  replace gq_7 := gq_7.S hs
                                  replace gq_12 := gq_12.S hs
                                  replace gq_17 := gq_17.S hs
                                  replace gq_22 := gq_22.S hs
                                  obtain ⟨x_24, ex_24⟩ : ∃ y : Int32, y = iv41_4 + Int32.ofInt 1 := ⟨_, rfl⟩
                                  have rg_25 := i32_r iv41_4
                                  refine lv_iinc (v := x_24) (lv' := [(4, .int x_24), (8, .int iv93_8), (7, .int iv93_7), (6, .int iv41_6), (5, .int iv32_5), (0, .ref x), (1, .int i1), (2, .int i2), (3, .int i3)]) hx hb dX10_alike_207 hl (k := 4) rfl ex_24.symm (by decide) rfl (fun ls hl => ?_)
                                  obtain ⟨x_26, ex_26⟩ : ∃ y : Int32, y = iv41_6 + Int32.ofInt 1 := ⟨_, rfl⟩
                                  have rg_27 := i32_r iv41_6
                                  have zx_26 : x_26.toInt = iv41_6.toInt + (1) := by rw [ex_26]; exact i32_add rfl (by decide) (by omega) (by omega)
                                  refine lv_iinc (v := x_26) (lv' := [(6, .int x_26), (4, .int x_24), (8, .int iv93_8), (7, .int iv93_7), (5, .int iv32_5), (0, .ref x), (1, .int i1), (2, .int i2), (3, .int i3)]) hx hb dX10_alike_210 hl (k := 3) rfl ex_26.symm (by decide) rfl (fun ls hl => ?_)
                                  refine lv_goto (tgt := 41) hx hb dX10_alike_213 (by decide) ?_
                                  exact ih41 x_24 x_26 _ _ hL1 h_23 (i32_r _).1 (i32_r _).2 (by omega) (by omega)  ls (by omega) hW hT hM fx_1  (lv_sub hl [0, 4, 1, 5, 6, 7, 8] rfl)
                                · skip
                                  refine lv_goto (tgt := 210) hx hb dX10_alike_196 (by decide) ?_
                                  obtain ⟨x_28, ex_28⟩ : ∃ y : Int32, y = iv41_6 + Int32.ofInt 1 := ⟨_, rfl⟩
                                  have rg_29 := i32_r iv41_6
                                  have zx_28 : x_28.toInt = iv41_6.toInt + (1) := by rw [ex_28]; exact i32_add rfl (by decide) (by omega) (by omega)
                                  refine lv_iinc (v := x_28) (lv' := [(6, .int x_28), (8, .int iv93_8), (7, .int iv93_7), (5, .int iv32_5), (4, .int iv41_4), (0, .ref x), (1, .int i1), (2, .int i2), (3, .int i3)]) hx hb dX10_alike_210 hl (k := 2) rfl ex_28.symm (by decide) rfl (fun ls hl => ?_)
                                  refine lv_goto (tgt := 41) hx hb dX10_alike_213 (by decide) ?_
                                  exact ih41 iv41_4 x_28 _ _ hL1 hl1 (i32_r _).1 (i32_r _).2 (by omega) (by omega)  ls (by omega) hW hT hM fx_1  (lv_sub hl [0, 3, 4, 5, 6, 7, 8] rfl)
                              · skip
                                refine lv_aload_n hx hb dX10_alike_102 rfl (lv_at hl 5 rfl) ?_
                                refine hx_getn hx hb hts hC_10 hown hW hT (gx.S hM) tt_10 35 (by decide) rfl kw_1178 ⟨rfl, rfl, rfl⟩ dX10_alike_103 (fun q_30 fq_30 gq_30 => ?_)
                                refine lv_iload hx hb dX10_alike_106 (lv_at hl 0 rfl) ?_
                                refine hx_zald hx hb hW hT gq_30 tt_71 rfl ⟨by omega, by omega⟩ dX10_alike_108 (fun x_31 ex_31 lx_31 ux_31 => ?_)
                                refine hb_if_ne (zx := x_31.toInt) (tgt := 185) hx hb rfl dX10_alike_109 (by decide) (fun c_32 => ?_) (fun c_32 => ?_)
                                · skip
                                  obtain ⟨x_33, ex_33⟩ : ∃ y : Int32, y = iv93_8 + Int32.ofInt 1 := ⟨_, rfl⟩
                                  have rg_34 := i32_r iv93_8
                                  have zx_33 : x_33.toInt = iv93_8.toInt + (1) := by rw [ex_33]; exact i32_add rfl (by decide) (by omega) (by omega)
                                  refine lv_iinc (v := x_33) (lv' := [(8, .int x_33), (7, .int iv93_7), (6, .int iv41_6), (5, .int iv32_5), (4, .int iv41_4), (0, .ref x), (1, .int i1), (2, .int i2), (3, .int i3)]) hx hb dX10_alike_185 hl (k := 0) rfl ex_33.symm (by decide) rfl (fun ls hl => ?_)
                                  refine lv_goto (tgt := 93) hx hb dX10_alike_188 (by decide) ?_
                                  exact ih93 iv93_7 x_33 _ _ hL1 hl1 (by omega) (by omega) (by omega) (by omega)  ls (by omega) hW hT hM fx_1 fq_7 fq_12 fq_17 gq_7 gq_12 gq_17 (lv_sub hl [0, 1, 2, 3, 4, 5, 6, 7, 8] rfl)
                                · skip
                                  refine lv_aload_n hx hb dX10_alike_112 rfl (lv_at hl 5 rfl) ?_
                                  refine hk_getr hx hb hts hC_10 hown hW (gx.S hM) tt_10 30 (by decide) rfl kw_1173 ⟨rfl, rfl, rfl⟩ fq_12 dX10_alike_113 ?_
                                  refine lv_iload hx hb dX10_alike_116 (lv_at hl 0 rfl) ?_
                                  refine hx_iald hx hb hW hT gq_12 tt_66 rfl ⟨by omega, by omega⟩ dX10_alike_118 (fun x_35 ex_35 lx_35 ux_35 => ?_)
                                  refine lv_iload_n hx hb dX10_alike_119 rfl (lv_at hl 7 rfl) ?_
                                  refine hb_icmp_ne (zx := x_35.toInt) (zy := i2.toInt) (tgt := 185) hx hb rfl rfl dX10_alike_120 (by decide) (fun c_36 => ?_) (fun c_36 => ?_)
                                  · skip
                                    obtain ⟨x_37, ex_37⟩ : ∃ y : Int32, y = iv93_8 + Int32.ofInt 1 := ⟨_, rfl⟩
                                    have rg_38 := i32_r iv93_8
                                    have zx_37 : x_37.toInt = iv93_8.toInt + (1) := by rw [ex_37]; exact i32_add rfl (by decide) (by omega) (by omega)
                                    refine lv_iinc (v := x_37) (lv' := [(8, .int x_37), (7, .int iv93_7), (6, .int iv41_6), (5, .int iv32_5), (4, .int iv41_4), (0, .ref x), (1, .int i1), (2, .int i2), (3, .int i3)]) hx hb dX10_alike_185 hl (k := 0) rfl ex_37.symm (by decide) rfl (fun ls hl => ?_)
                                    refine lv_goto (tgt := 93) hx hb dX10_alike_188 (by decide) ?_
                                    exact ih93 iv93_7 x_37 _ _ hL1 hl1 (by omega) (by omega) (by omega) (by omega)  ls (by omega) hW hT hM fx_1 fq_7 fq_12 fq_17 gq_7 gq_12 gq_17 (lv_sub hl [0, 1, 2, 3, 4, 5, 6, 7, 8] rfl)
                                  · skip
                                    refine lv_aload_n hx hb dX10_alike_123 rfl (lv_at hl 5 rfl) ?_
                                    refine hk_getr hx hb hts hC_10 hown hW (gx.S hM) tt_10 31 (by decide) rfl kw_1174 ⟨rfl, rfl, rfl⟩ fq_17 dX10_alike_124 ?_
                                    refine lv_iload hx hb dX10_alike_127 (lv_at hl 0 rfl) ?_
                                    refine hx_iald hx hb hW hT gq_17 tt_67 rfl ⟨by omega, by omega⟩ dX10_alike_129 (fun x_39 ex_39 lx_39 ux_39 => ?_)
                                    refine lv_iload_n hx hb dX10_alike_130 rfl (lv_at hl 6 rfl) ?_
                                    refine hb_icmp_ne (zx := x_39.toInt) (zy := i1.toInt) (tgt := 185) hx hb rfl rfl dX10_alike_131 (by decide) (fun c_40 => ?_) (fun c_40 => ?_)
                                    · skip
                                      obtain ⟨x_41, ex_41⟩ : ∃ y : Int32, y = iv93_8 + Int32.ofInt 1 := ⟨_, rfl⟩
                                      have rg_42 := i32_r iv93_8
                                      have zx_41 : x_41.toInt = iv93_8.toInt + (1) := by rw [ex_41]; exact i32_add rfl (by decide) (by omega) (by omega)
                                      refine lv_iinc (v := x_41) (lv' := [(8, .int x_41), (7, .int iv93_7), (6, .int iv41_6), (5, .int iv32_5), (4, .int iv41_4), (0, .ref x), (1, .int i1), (2, .int i2), (3, .int i3)]) hx hb dX10_alike_185 hl (k := 0) rfl ex_41.symm (by decide) rfl (fun ls hl => ?_)
                                      refine lv_goto (tgt := 93) hx hb dX10_alike_188 (by decide) ?_
                                      exact ih93 iv93_7 x_41 _ _ hL1 hl1 (by omega) (by omega) (by omega) (by omega)  ls (by omega) hW hT hM fx_1 fq_7 fq_12 fq_17 gq_7 gq_12 gq_17 (lv_sub hl [0, 1, 2, 3, 4, 5, 6, 7, 8] rfl)
                                    · skip
                                      refine lv_aload_n hx hb dX10_alike_134 rfl (lv_at hl 5 rfl) ?_
                                      refine hk_getr hx hb hts hC_10 hown hW (gx.S hM) tt_10 32 (by decide) rfl kw_1175 ⟨rfl, rfl, rfl⟩ fq_7 dX10_alike_135 ?_
                                      refine lv_iload hx hb dX10_alike_138 (lv_at hl 0 rfl) ?_
                                      refine hx_iald hx hb hW hT gq_7 tt_68 rfl ⟨by omega, by omega⟩ dX10_alike_140 (fun x_43 ex_43 lx_43 ux_43 => ?_)
                                      refine lv_iload_n hx hb dX10_alike_141 rfl (lv_at hl 8 rfl) ?_
                                      refine hb_icmp_gt (zx := x_43.toInt) (zy := i3.toInt) (tgt := 185) hx hb rfl rfl dX10_alike_142 (by decide) (fun c_44 => ?_) (fun c_44 => ?_)
                                      · skip
                                        obtain ⟨x_45, ex_45⟩ : ∃ y : Int32, y = iv93_8 + Int32.ofInt 1 := ⟨_, rfl⟩
                                        have rg_46 := i32_r iv93_8
                                        have zx_45 : x_45.toInt = iv93_8.toInt + (1) := by rw [ex_45]; exact i32_add rfl (by decide) (by omega) (by omega)
                                        refine lv_iinc (v := x_45) (lv' := [(8, .int x_45), (7, .int iv93_7), (6, .int iv41_6), (5, .int iv32_5), (4, .int iv41_4), (0, .ref x), (1, .int i1), (2, .int i2), (3, .int i3)]) hx hb dX10_alike_185 hl (k := 0) rfl ex_45.symm (by decide) rfl (fun ls hl => ?_)
                                        refine lv_goto (tgt := 93) hx hb dX10_alike_188 (by decide) ?_
                                        exact ih93 iv93_7 x_45 _ _ hL1 hl1 (by omega) (by omega) (by omega) (by omega)  ls (by omega) hW hT hM fx_1 fq_7 fq_12 fq_17 gq_7 gq_12 gq_17 (lv_sub hl [0, 1, 2, 3, 4, 5, 6, 7, 8] rfl)
                                      · skip
                                        refine lv_aload_n hx hb dX10_alike_145 rfl (lv_at hl 5 rfl) ?_
                                        refine lv_iload hx hb dX10_alike_146 (lv_at hl 2 rfl) ?_
                                        refine lv_iload hx hb dX10_alike_148 (lv_at hl 0 rfl) ?_
                                        refine hx_goi (hx_runV (As := [.int iv41_6, .int iv93_8]) (rest := []) ⟨hx, hb, hml, hown, hts⟩ hW (gx.S hM) tt_10 (T := TX10) (N := 98) rfl (t_X10_areTwins l dC dI dA hL1 hl1 H.size x iv41_6 iv93_8 hT (gx.S hM) ⟨by omega, by omega⟩ ⟨by omega, by omega⟩) (cwV 2 hts (hx_gV kw_1581 kw_1578 kw_1580 kw_71 kw_103) rfl rfl rfl (by decide +kernel) ⟨Nat.le_of_ble_eq_true rfl, Nat.le_of_ble_eq_true rfl⟩) rfl hl.1 rfl (Nat.le_of_ble_eq_true rfl) dX10_alike_150 ⟨Nat.le_of_ble_eq_true rfl, Nat.le_of_ble_eq_true rfl⟩) hW (fun r_49 L_47 h_48 H locs p_50 hW => ?_)
                                        obtain ⟨hr_51, hT, hs⟩ := p_50
                                        replace hT : hx_T T_tb L_47 h_48 := hT
                                        replace hs : hx_S T_tb [] hL1 hl1 L_47 h_48 := hs
                                        replace fx_1 := (hs.o (gx.S hM) trivial rfl).1.trans fx_1
                                        replace fq_7 := (hs.o (gx.S hM) trivial rfl).2.trans fq_7
                                        replace fq_12 := (hs.o (gx.S hM) trivial rfl).2.trans fq_12
                                        replace fq_17 := (hs.o (gx.S hM) trivial rfl).2.trans fq_17
                                        replace fq_30 := (hs.o (gx.S hM) trivial rfl).2.trans fq_30
                                        replace ex_31 := ex_31.trans (hs.a gq_30 rfl _).1.symm
                                        replace ex_35 := ex_35.trans (hs.a gq_12 rfl _).1.symm
                                        replace ex_39 := ex_39.trans (hs.a gq_17 rfl _).1.symm
                                        replace ex_43 := ex_43.trans (hs.a gq_7 rfl _).1.symm
                                        replace hM := hM.tr (hs.mono (by decide))
                                        replace gq_7 := gq_7.S hs
                                        replace gq_12 := gq_12.S hs
                                        replace gq_17 := gq_17.S hs
                                        replace gq_30 := gq_30.S hs
                                        refine hb_if_ne (zx := r_49.toInt) (tgt := 159) hx hb rfl dX10_alike_153 (by decide) (fun c_52 => ?_) (fun c_52 => ?_)
                                        · skip
                                          refine lv_iload hx hb dX10_alike_159 (lv_at hl 1 rfl) ?_
                                          refine hb_if_lt (zx := iv93_7.toInt) (tgt := 181) hx hb rfl dX10_alike_161 (by decide) (fun c_53 => ?_) (fun c_53 => ?_)
                                          · skip
                                            refine lv_iload hx hb dX10_alike_181 (lv_at hl 0 rfl) ?_
                                            refine lv_istore (lv' := [(7, .int iv93_8), (8, .int iv93_8), (6, .int iv41_6), (5, .int iv32_5), (4, .int iv41_4), (0, .ref x), (1, .int i1), (2, .int i2), (3, .int i3)]) hx hb dX10_alike_183 hl (by decide) rfl (fun ls hl => ?_)
                                            obtain ⟨x_54, ex_54⟩ : ∃ y : Int32, y = iv93_8 + Int32.ofInt 1 := ⟨_, rfl⟩
                                            have rg_55 := i32_r iv93_8
                                            have zx_54 : x_54.toInt = iv93_8.toInt + (1) := by rw [ex_54]; exact i32_add rfl (by decide) (by omega) (by omega)
                                            refine lv_iinc (v := x_54) (lv' := [(8, .int x_54), (7, .int iv93_8), (6, .int iv41_6), (5, .int iv32_5), (4, .int iv41_4), (0, .ref x), (1, .int i1), (2, .int i2), (3, .int i3)]) hx hb dX10_alike_185 hl (k := 1) rfl ex_54.symm (by decide) rfl (fun ls hl => ?_)
                                            refine lv_goto (tgt := 93) hx hb dX10_alike_188 (by decide) ?_
                                            exact ih93 iv93_8 x_54 _ _ L_47 h_48 (by omega) (by omega) (by omega) (by omega)  ls (by omega) hW hT hM fx_1 fq_7 fq_12 fq_17 gq_7 gq_12 gq_17 (lv_sub hl [0, 1, 2, 3, 4, 5, 6, 7, 8] rfl)
                                          · skip
                                            refine lv_aload_n hx hb dX10_alike_164 rfl (lv_at hl 5 rfl) ?_
                                            refine hk_getr hx hb hts hC_10 hown hW (gx.S hM) tt_10 32 (by decide) rfl kw_1175 ⟨rfl, rfl, rfl⟩ fq_7 dX10_alike_165 ?_
                                            refine lv_iload hx hb dX10_alike_168 (lv_at hl 0 rfl) ?_
                                            refine hx_iald hx hb hW hT gq_7 tt_68 rfl ⟨by omega, by omega⟩ dX10_alike_170 (fun x_56 ex_56 lx_56 ux_56 => ?_)
                                            obtain rfl : x_43 = x_56 := ex_43.trans ex_56.symm
                                            refine lv_aload_n hx hb dX10_alike_171 rfl (lv_at hl 5 rfl) ?_
                                            refine hk_getr hx hb hts hC_10 hown hW (gx.S hM) tt_10 32 (by decide) rfl kw_1175 ⟨rfl, rfl, rfl⟩ fq_7 dX10_alike_172 ?_
                                            refine lv_iload hx hb dX10_alike_175 (lv_at hl 1 rfl) ?_
                                            refine hx_iald hx hb hW hT gq_7 tt_68 rfl ⟨by omega, by omega⟩ dX10_alike_177 (fun x_57 ex_57 lx_57 ux_57 => ?_)
                                            refine hb_icmp_ge (zx := x_43.toInt) (zy := x_57.toInt) (tgt := 185) hx hb rfl rfl dX10_alike_178 (by decide) (fun c_58 => ?_) (fun c_58 => ?_)
                                            · skip
                                              obtain ⟨x_59, ex_59⟩ : ∃ y : Int32, y = iv93_8 + Int32.ofInt 1 := ⟨_, rfl⟩
                                              have rg_60 := i32_r iv93_8
                                              have zx_59 : x_59.toInt = iv93_8.toInt + (1) := by rw [ex_59]; exact i32_add rfl (by decide) (by omega) (by omega)
                                              refine lv_iinc (v := x_59) (lv' := [(8, .int x_59), (7, .int iv93_7), (6, .int iv41_6), (5, .int iv32_5), (4, .int iv41_4), (0, .ref x), (1, .int i1), (2, .int i2), (3, .int i3)]) hx hb dX10_alike_185 hl (k := 0) rfl ex_59.symm (by decide) rfl (fun ls hl => ?_)
                                              refine lv_goto (tgt := 93) hx hb dX10_alike_188 (by decide) ?_
                                              exact ih93 iv93_7 x_59 _ _ L_47 h_48 (by omega) (by omega) (by omega) (by omega)  ls (by omega) hW hT hM fx_1 fq_7 fq_12 fq_17 gq_7 gq_12 gq_17 (lv_sub hl [0, 1, 2, 3, 4, 5, 6, 7, 8] rfl)
                                            · skip
                                              refine lv_iload hx hb dX10_alike_181 (lv_at hl 0 rfl) ?_
                                              refine lv_istore (lv' := [(7, .int iv93_8), (8, .int iv93_8), (6, .int iv41_6), (5, .int iv32_5), (4, .int iv41_4), (0, .ref x), (1, .int i1), (2, .int i2), (3, .int i3)]) hx hb dX10_alike_183 hl (by decide) rfl (fun ls hl => ?_)
                                              obtain ⟨x_61, ex_61⟩ : ∃ y : Int32, y = iv93_8 + Int32.ofInt 1 := ⟨_, rfl⟩
                                              have rg_62 := i32_r iv93_8
                                              have zx_61 : x_61.toInt = iv93_8.toInt + (1) := by rw [ex_61]; exact i32_add rfl (by decide) (by omega) (by omega)
                                              refine lv_iinc (v := x_61) (lv' := [(8, .int x_61), (7, .int iv93_8), (6, .int iv41_6), (5, .int iv32_5), (4, .int iv41_4), (0, .ref x), (1, .int i1), (2, .int i2), (3, .int i3)]) hx hb dX10_alike_185 hl (k := 1) rfl ex_61.symm (by decide) rfl (fun ls hl => ?_)
                                              refine lv_goto (tgt := 93) hx hb dX10_alike_188 (by decide) ?_
                                              exact ih93 iv93_8 x_61 _ _ L_47 h_48 (by omega) (by omega) (by omega) (by omega)  ls (by omega) hW hT hM fx_1 fq_7 fq_12 fq_17 gq_7 gq_12 gq_17 (lv_sub hl [0, 1, 2, 3, 4, 5, 6, 7, 8] rfl)
                                        · skip
                                          refine lv_goto (tgt := 185) hx hb dX10_alike_156 (by decide) ?_
                                          obtain ⟨x_63, ex_63⟩ : ∃ y : Int32, y = iv93_8 + Int32.ofInt 1 := ⟨_, rfl⟩
                                          have rg_64 := i32_r iv93_8
                                          have zx_63 : x_63.toInt = iv93_8.toInt + (1) := by rw [ex_63]; exact i32_add rfl (by decide) (by omega) (by omega)
                                          refine lv_iinc (v := x_63) (lv' := [(8, .int x_63), (7, .int iv93_7), (6, .int iv41_6), (5, .int iv32_5), (4, .int iv41_4), (0, .ref x), (1, .int i1), (2, .int i2), (3, .int i3)]) hx hb dX10_alike_185 hl (k := 0) rfl ex_63.symm (by decide) rfl (fun ls hl => ?_)
                                          refine lv_goto (tgt := 93) hx hb dX10_alike_188 (by decide) ?_
                                          exact ih93 iv93_7 x_63 _ _ L_47 h_48 (by omega) (by omega) (by omega) (by omega)  ls (by omega) hW hT hM fx_1 fq_7 fq_12 fq_17 gq_7 gq_12 gq_17 (lv_sub hl [0, 1, 2, 3, 4, 5, 6, 7, 8] rfl)
                          have zk_m1 : (-1 : Int32).toInt = -1 := by decide
                          have zk_0 : (0 : Int32).toInt = 0 := by decide
                          exact loop93 401 (-1 : Int32) (0 : Int32) _ _ hL1 hl1 (by decide) (by decide) (by decide) (by decide)  ls (by omega) hW hT hM fx_1 fq_7 fq_12 fq_17 gq_7 gq_12 gq_17 hl
                        · skip
                          refine lv_goto (tgt := 210) hx hb dX10_alike_84 (by decide) ?_
                          obtain ⟨x_65, ex_65⟩ : ∃ y : Int32, y = iv41_6 + Int32.ofInt 1 := ⟨_, rfl⟩
                          have rg_66 := i32_r iv41_6
                          have zx_65 : x_65.toInt = iv41_6.toInt + (1) := by rw [ex_65]; exact i32_add rfl (by decide) (by omega) (by omega)
                          refine lv_iinc (v := x_65) (lv' := [(6, .int x_65), (5, .int iv32_5), (4, .int iv41_4), (0, .ref x), (1, .int i1), (2, .int i2), (3, .int i3)]) hx hb dX10_alike_210 hl (k := 0) rfl ex_65.symm (by decide) rfl (fun ls hl => ?_)
                          refine lv_goto (tgt := 41) hx hb dX10_alike_213 (by decide) ?_
                          exact ih41 iv41_4 x_65 _ _ hL1 hl1 (i32_r _).1 (i32_r _).2 (by omega) (by omega)  ls (by omega) hW hT hM fx_1  (lv_sub hl [0, 1, 2, 3, 4, 5, 6] rfl)
              have zk_0 : (0 : Int32).toInt = 0 := by decide
              exact loop41 401 iv32_4 (0 : Int32) _ _ hL1 hl1 (i32_r _).1 (i32_r _).2 (by decide) (by decide)  ls (by omega) hW hT hM fx_1  hl
        have zk_0 : (0 : Int32).toInt = 0 := by decide
        have zk_0 : (0 : Int32).toInt = 0 := by decide
        exact loop32 8001 (0 : Int32) (0 : Int32) _ _ hL1 hl1 (by decide) (by decide) (by decide) (by decide)  ls (by omega) hW hT hM fx_1  hl
      · skip
        refine lv_aload_n hx hb dX10_alike_12 rfl (lv_at hl 1 rfl) ?_
        refine hx_getn hx hb hts hC_10 hown hW hT (gx.S hM) tt_10 35 (by decide) rfl kw_1178 ⟨rfl, rfl, rfl⟩ dX10_alike_13 (fun q_67 fq_67 gq_67 => ?_)
        refine lv_iload hx hb dX10_alike_16 (lv_at hl 0 rfl) ?_
        refine lv_iconst (v := 0) hx hb dX10_alike_18 (by decide) ?_
        refine hx_zast hx hb hW hT (hx_S.rf (M := [(71, 0)])) gq_67 tt_71 rfl ⟨by omega, by omega⟩ (y := 0) (by decide) (by decide) (List.mem_singleton.mpr rfl) dX10_alike_19 (fun H locs h_68 eh_68 hW hT hs => ?_)
        replace fx_1 := (hs.o (gx.S hM) trivial rfl).1.trans fx_1
        replace fq_67 := (hs.o (gx.S hM) trivial rfl).2.trans fq_67
        replace hM := hM.tr (hs.mono (by decide))
        replace gq_67 := gq_67.S hs
        obtain ⟨x_69, ex_69⟩ : ∃ y : Int32, y = iv3_4 + Int32.ofInt 1 := ⟨_, rfl⟩
        have rg_70 := i32_r iv3_4
        have zx_69 : x_69.toInt = iv3_4.toInt + (1) := by rw [ex_69]; exact i32_add rfl (by decide) (by omega) (by omega)
        refine lv_iinc (v := x_69) (lv' := [(4, .int x_69), (0, .ref x), (1, .int i1), (2, .int i2), (3, .int i3)]) hx hb dX10_alike_20 hl (k := 0) rfl ex_69.symm (by decide) rfl (fun ls hl => ?_)
        refine lv_goto (tgt := 3) hx hb dX10_alike_23 (by decide) ?_
        exact ih3 x_69 _ _ hL1 h_68 (by omega) (by omega)  ls (by omega) hW hT hM   (lv_sub hl [0, 1, 2, 3, 4] rfl)
  have zk_0 : (0 : Int32).toInt = 0 := by decide
  exact loop3 401 (0 : Int32) _ _ L h (by decide) (by decide)  ls (by omega) hW hT hM   hl

def wLX10_book_0 : List Nat := [42, 27, 182, 1, 92, 153, 0, 23, 42, 28, 182, 1, 92, 153, 0, 15, 27, 28, 159, 0, 10, 29, 184, 1, 68, 154, 0, 7, 19, 1, 101, 172, 21, 4, 154, 0, 13, 42, 27, 28, 29, 182, 1, 102, 167, 0, 36, 21, 4, 4, 160, 0, 13, 42, 27, 28, 29, 182, 1, 105, 167, 0, 20, 21]
def wLX10_book_1 : List Nat := [4, 5, 160, 0, 11, 42, 27, 182, 1, 108, 167, 0, 6, 19, 1, 101, 172]
theorem wX10_book_0 : (cX10_book.data.toList.map UInt8.toNat).drop 0 = wLX10_book_0 ++ (wLX10_book_1 ++ ([])) := by decide +kernel
theorem wX10_book_1 : (cX10_book.data.toList.map UInt8.toNat).drop 64 = wLX10_book_1 ++ ([]) := hz_wn wX10_book_0 rfl
theorem dX10_book_0 : decode cX10_book 0 = .ok (.aload_n 0, 1) := dq_42 (hz_wg wX10_book_0 (j := 0) (n := 42) rfl)
theorem dX10_book_1 : decode cX10_book 1 = .ok (.iload_n 1, 1) := dq_27 (hz_wg wX10_book_0 (j := 1) (n := 27) rfl)
theorem dX10_book_2 : decode cX10_book 2 = .ok (.invokevirtual 348, 3) := dq_182 (hz_wg wX10_book_0 (j := 2) (n := 182) rfl) (hz_wg wX10_book_0 (j := 3) (n := 1) rfl) (hz_wg wX10_book_0 (j := 4) (n := 92) rfl) rfl
theorem dX10_book_5 : decode cX10_book 5 = .ok (.ifCond .eq 23, 3) := dq_153 (hz_wg wX10_book_0 (j := 5) (n := 153) rfl) (hz_wg wX10_book_0 (j := 6) (n := 0) rfl) (hz_wg wX10_book_0 (j := 7) (n := 23) rfl) (by decide)
theorem dX10_book_8 : decode cX10_book 8 = .ok (.aload_n 0, 1) := dq_42 (hz_wg wX10_book_0 (j := 8) (n := 42) rfl)
theorem dX10_book_9 : decode cX10_book 9 = .ok (.iload_n 2, 1) := dq_28 (hz_wg wX10_book_0 (j := 9) (n := 28) rfl)
theorem dX10_book_10 : decode cX10_book 10 = .ok (.invokevirtual 348, 3) := dq_182 (hz_wg wX10_book_0 (j := 10) (n := 182) rfl) (hz_wg wX10_book_0 (j := 11) (n := 1) rfl) (hz_wg wX10_book_0 (j := 12) (n := 92) rfl) rfl
theorem dX10_book_13 : decode cX10_book 13 = .ok (.ifCond .eq 15, 3) := dq_153 (hz_wg wX10_book_0 (j := 13) (n := 153) rfl) (hz_wg wX10_book_0 (j := 14) (n := 0) rfl) (hz_wg wX10_book_0 (j := 15) (n := 15) rfl) (by decide)
theorem dX10_book_16 : decode cX10_book 16 = .ok (.iload_n 1, 1) := dq_27 (hz_wg wX10_book_0 (j := 16) (n := 27) rfl)
theorem dX10_book_17 : decode cX10_book 17 = .ok (.iload_n 2, 1) := dq_28 (hz_wg wX10_book_0 (j := 17) (n := 28) rfl)
theorem dX10_book_18 : decode cX10_book 18 = .ok (.if_icmp .eq 10, 3) := dq_159 (hz_wg wX10_book_0 (j := 18) (n := 159) rfl) (hz_wg wX10_book_0 (j := 19) (n := 0) rfl) (hz_wg wX10_book_0 (j := 20) (n := 10) rfl) (by decide)
theorem dX10_book_21 : decode cX10_book 21 = .ok (.iload_n 3, 1) := dq_29 (hz_wg wX10_book_0 (j := 21) (n := 29) rfl)
theorem dX10_book_22 : decode cX10_book 22 = .ok (.invokestatic 324, 3) := dq_184 (hz_wg wX10_book_0 (j := 22) (n := 184) rfl) (hz_wg wX10_book_0 (j := 23) (n := 1) rfl) (hz_wg wX10_book_0 (j := 24) (n := 68) rfl) rfl
theorem dX10_book_25 : decode cX10_book 25 = .ok (.ifCond .ne 7, 3) := dq_154 (hz_wg wX10_book_0 (j := 25) (n := 154) rfl) (hz_wg wX10_book_0 (j := 26) (n := 0) rfl) (hz_wg wX10_book_0 (j := 27) (n := 7) rfl) (by decide)
theorem dX10_book_28 : decode cX10_book 28 = .ok (.ldc_w 357, 3) := dq_19 (hz_wg wX10_book_0 (j := 28) (n := 19) rfl) (hz_wg wX10_book_0 (j := 29) (n := 1) rfl) (hz_wg wX10_book_0 (j := 30) (n := 101) rfl) rfl
theorem dX10_book_31 : decode cX10_book 31 = .ok (.ireturn, 1) := dq_172 (hz_wg wX10_book_0 (j := 31) (n := 172) rfl)
theorem dX10_book_32 : decode cX10_book 32 = .ok (.iload 4, 2) := dq_21 (hz_wg wX10_book_0 (j := 32) (n := 21) rfl) (hz_wg wX10_book_0 (j := 33) (n := 4) rfl)
theorem dX10_book_34 : decode cX10_book 34 = .ok (.ifCond .ne 13, 3) := dq_154 (hz_wg wX10_book_0 (j := 34) (n := 154) rfl) (hz_wg wX10_book_0 (j := 35) (n := 0) rfl) (hz_wg wX10_book_0 (j := 36) (n := 13) rfl) (by decide)
theorem dX10_book_37 : decode cX10_book 37 = .ok (.aload_n 0, 1) := dq_42 (hz_wg wX10_book_0 (j := 37) (n := 42) rfl)
theorem dX10_book_38 : decode cX10_book 38 = .ok (.iload_n 1, 1) := dq_27 (hz_wg wX10_book_0 (j := 38) (n := 27) rfl)
theorem dX10_book_39 : decode cX10_book 39 = .ok (.iload_n 2, 1) := dq_28 (hz_wg wX10_book_0 (j := 39) (n := 28) rfl)
theorem dX10_book_40 : decode cX10_book 40 = .ok (.iload_n 3, 1) := dq_29 (hz_wg wX10_book_0 (j := 40) (n := 29) rfl)
theorem dX10_book_41 : decode cX10_book 41 = .ok (.invokevirtual 358, 3) := dq_182 (hz_wg wX10_book_0 (j := 41) (n := 182) rfl) (hz_wg wX10_book_0 (j := 42) (n := 1) rfl) (hz_wg wX10_book_0 (j := 43) (n := 102) rfl) rfl
theorem dX10_book_44 : decode cX10_book 44 = .ok (.goto 36, 3) := dq_167 (hz_wg wX10_book_0 (j := 44) (n := 167) rfl) (hz_wg wX10_book_0 (j := 45) (n := 0) rfl) (hz_wg wX10_book_0 (j := 46) (n := 36) rfl) (by decide)
theorem dX10_book_47 : decode cX10_book 47 = .ok (.iload 4, 2) := dq_21 (hz_wg wX10_book_0 (j := 47) (n := 21) rfl) (hz_wg wX10_book_0 (j := 48) (n := 4) rfl)
theorem dX10_book_49 : decode cX10_book 49 = .ok (.iconst 1, 1) := dq_4 (hz_wg wX10_book_0 (j := 49) (n := 4) rfl)
theorem dX10_book_50 : decode cX10_book 50 = .ok (.if_icmp .ne 13, 3) := dq_160 (hz_wg wX10_book_0 (j := 50) (n := 160) rfl) (hz_wg wX10_book_0 (j := 51) (n := 0) rfl) (hz_wg wX10_book_0 (j := 52) (n := 13) rfl) (by decide)
theorem dX10_book_53 : decode cX10_book 53 = .ok (.aload_n 0, 1) := dq_42 (hz_wg wX10_book_0 (j := 53) (n := 42) rfl)
theorem dX10_book_54 : decode cX10_book 54 = .ok (.iload_n 1, 1) := dq_27 (hz_wg wX10_book_0 (j := 54) (n := 27) rfl)
theorem dX10_book_55 : decode cX10_book 55 = .ok (.iload_n 2, 1) := dq_28 (hz_wg wX10_book_0 (j := 55) (n := 28) rfl)
theorem dX10_book_56 : decode cX10_book 56 = .ok (.iload_n 3, 1) := dq_29 (hz_wg wX10_book_0 (j := 56) (n := 29) rfl)
theorem dX10_book_57 : decode cX10_book 57 = .ok (.invokevirtual 361, 3) := dq_182 (hz_wg wX10_book_0 (j := 57) (n := 182) rfl) (hz_wg wX10_book_0 (j := 58) (n := 1) rfl) (hz_wg wX10_book_0 (j := 59) (n := 105) rfl) rfl
theorem dX10_book_60 : decode cX10_book 60 = .ok (.goto 20, 3) := dq_167 (hz_wg wX10_book_0 (j := 60) (n := 167) rfl) (hz_wg wX10_book_0 (j := 61) (n := 0) rfl) (hz_wg wX10_book_0 (j := 62) (n := 20) rfl) (by decide)
theorem dX10_book_63 : decode cX10_book 63 = .ok (.iload 4, 2) := dq_21 (hz_wg wX10_book_0 (j := 63) (n := 21) rfl) (hz_wg wX10_book_1 (j := 0) (n := 4) rfl)
theorem dX10_book_65 : decode cX10_book 65 = .ok (.iconst 2, 1) := dq_5 (hz_wg wX10_book_1 (j := 1) (n := 5) rfl)
theorem dX10_book_66 : decode cX10_book 66 = .ok (.if_icmp .ne 11, 3) := dq_160 (hz_wg wX10_book_1 (j := 2) (n := 160) rfl) (hz_wg wX10_book_1 (j := 3) (n := 0) rfl) (hz_wg wX10_book_1 (j := 4) (n := 11) rfl) (by decide)
theorem dX10_book_69 : decode cX10_book 69 = .ok (.aload_n 0, 1) := dq_42 (hz_wg wX10_book_1 (j := 5) (n := 42) rfl)
theorem dX10_book_70 : decode cX10_book 70 = .ok (.iload_n 1, 1) := dq_27 (hz_wg wX10_book_1 (j := 6) (n := 27) rfl)
theorem dX10_book_71 : decode cX10_book 71 = .ok (.invokevirtual 364, 3) := dq_182 (hz_wg wX10_book_1 (j := 7) (n := 182) rfl) (hz_wg wX10_book_1 (j := 8) (n := 1) rfl) (hz_wg wX10_book_1 (j := 9) (n := 108) rfl) rfl
theorem dX10_book_74 : decode cX10_book 74 = .ok (.goto 6, 3) := dq_167 (hz_wg wX10_book_1 (j := 10) (n := 167) rfl) (hz_wg wX10_book_1 (j := 11) (n := 0) rfl) (hz_wg wX10_book_1 (j := 12) (n := 6) rfl) (by decide)
theorem dX10_book_77 : decode cX10_book 77 = .ok (.ldc_w 357, 3) := dq_19 (hz_wg wX10_book_1 (j := 13) (n := 19) rfl) (hz_wg wX10_book_1 (j := 14) (n := 1) rfl) (hz_wg wX10_book_1 (j := 15) (n := 101) rfl) rfl
theorem dX10_book_80 : decode cX10_book 80 = .ok (.ireturn, 1) := dq_172 (hz_wg wX10_book_1 (j := 16) (n := 172) rfl)