def wLX3_sumFor_0 : List Nat := [3, 54, 4, 3, 54, 5, 21, 5, 42, 180, 0, 27, 162, 0, 88, 42, 180, 0, 9, 21, 5, 46, 2, 159, 0, 18, 42, 180, 0, 9, 21, 5, 46, 29, 163, 0, 7, 4, 167, 0, 4, 3, 54, 6, 42, 180, 0, 15, 21, 5, 46, 27, 160, 0, 42, 42, 180, 0, 18, 21, 5, 46, 28, 163]
def wLX3_sumFor_1 : List Nat := [0, 31, 42, 180, 0, 21, 21, 5, 46, 29, 163, 0, 20, 21, 6, 154, 0, 15, 21, 4, 42, 180, 0, 24, 21, 5, 46, 96, 54, 4, 132, 5, 1, 167, 255, 165, 21, 4, 172]
theorem wX3_sumFor_0 : (cX3_sumFor.data.toList.map UInt8.toNat).drop 0 = wLX3_sumFor_0 ++ (wLX3_sumFor_1 ++ ([])) := by decide +kernel
theorem wX3_sumFor_1 : (cX3_sumFor.data.toList.map UInt8.toNat).drop 64 = wLX3_sumFor_1 ++ ([]) := hz_wn wX3_sumFor_0 rfl
theorem dX3_sumFor_0 : decode cX3_sumFor 0 = .ok (.iconst 0, 1) := dq_3 (hz_wg wX3_sumFor_0 (j := 0) (n := 3) rfl)
theorem dX3_sumFor_1 : decode cX3_sumFor 1 = .ok (.istore 4, 2) := dq_54 (hz_wg wX3_sumFor_0 (j := 1) (n := 54) rfl) (hz_wg wX3_sumFor_0 (j := 2) (n := 4) rfl)
theorem dX3_sumFor_3 : decode cX3_sumFor 3 = .ok (.iconst 0, 1) := dq_3 (hz_wg wX3_sumFor_0 (j := 3) (n := 3) rfl)
theorem dX3_sumFor_4 : decode cX3_sumFor 4 = .ok (.istore 5, 2) := dq_54 (hz_wg wX3_sumFor_0 (j := 4) (n := 54) rfl) (hz_wg wX3_sumFor_0 (j := 5) (n := 5) rfl)
theorem dX3_sumFor_6 : decode cX3_sumFor 6 = .ok (.iload 5, 2) := dq_21 (hz_wg wX3_sumFor_0 (j := 6) (n := 21) rfl) (hz_wg wX3_sumFor_0 (j := 7) (n := 5) rfl)
theorem dX3_sumFor_8 : decode cX3_sumFor 8 = .ok (.aload_n 0, 1) := dq_42 (hz_wg wX3_sumFor_0 (j := 8) (n := 42) rfl)
theorem dX3_sumFor_9 : decode cX3_sumFor 9 = .ok (.getfield 27, 3) := dq_180 (hz_wg wX3_sumFor_0 (j := 9) (n := 180) rfl) (hz_wg wX3_sumFor_0 (j := 10) (n := 0) rfl) (hz_wg wX3_sumFor_0 (j := 11) (n := 27) rfl) rfl
theorem dX3_sumFor_12 : decode cX3_sumFor 12 = .ok (.if_icmp .ge 88, 3) := dq_162 (hz_wg wX3_sumFor_0 (j := 12) (n := 162) rfl) (hz_wg wX3_sumFor_0 (j := 13) (n := 0) rfl) (hz_wg wX3_sumFor_0 (j := 14) (n := 88) rfl) (by decide)
theorem dX3_sumFor_15 : decode cX3_sumFor 15 = .ok (.aload_n 0, 1) := dq_42 (hz_wg wX3_sumFor_0 (j := 15) (n := 42) rfl)
theorem dX3_sumFor_16 : decode cX3_sumFor 16 = .ok (.getfield 9, 3) := dq_180 (hz_wg wX3_sumFor_0 (j := 16) (n := 180) rfl) (hz_wg wX3_sumFor_0 (j := 17) (n := 0) rfl) (hz_wg wX3_sumFor_0 (j := 18) (n := 9) rfl) rfl
theorem dX3_sumFor_19 : decode cX3_sumFor 19 = .ok (.iload 5, 2) := dq_21 (hz_wg wX3_sumFor_0 (j := 19) (n := 21) rfl) (hz_wg wX3_sumFor_0 (j := 20) (n := 5) rfl)
theorem dX3_sumFor_21 : decode cX3_sumFor 21 = .ok (.iaload, 1) := dq_46 (hz_wg wX3_sumFor_0 (j := 21) (n := 46) rfl)
theorem dX3_sumFor_22 : decode cX3_sumFor 22 = .ok (.iconst (-1), 1) := dq_2 (hz_wg wX3_sumFor_0 (j := 22) (n := 2) rfl)
theorem dX3_sumFor_23 : decode cX3_sumFor 23 = .ok (.if_icmp .eq 18, 3) := dq_159 (hz_wg wX3_sumFor_0 (j := 23) (n := 159) rfl) (hz_wg wX3_sumFor_0 (j := 24) (n := 0) rfl) (hz_wg wX3_sumFor_0 (j := 25) (n := 18) rfl) (by decide)
theorem dX3_sumFor_26 : decode cX3_sumFor 26 = .ok (.aload_n 0, 1) := dq_42 (hz_wg wX3_sumFor_0 (j := 26) (n := 42) rfl)
theorem dX3_sumFor_27 : decode cX3_sumFor 27 = .ok (.getfield 9, 3) := dq_180 (hz_wg wX3_sumFor_0 (j := 27) (n := 180) rfl) (hz_wg wX3_sumFor_0 (j := 28) (n := 0) rfl) (hz_wg wX3_sumFor_0 (j := 29) (n := 9) rfl) rfl
theorem dX3_sumFor_30 : decode cX3_sumFor 30 = .ok (.iload 5, 2) := dq_21 (hz_wg wX3_sumFor_0 (j := 30) (n := 21) rfl) (hz_wg wX3_sumFor_0 (j := 31) (n := 5) rfl)
theorem dX3_sumFor_32 : decode cX3_sumFor 32 = .ok (.iaload, 1) := dq_46 (hz_wg wX3_sumFor_0 (j := 32) (n := 46) rfl)
theorem dX3_sumFor_33 : decode cX3_sumFor 33 = .ok (.iload_n 3, 1) := dq_29 (hz_wg wX3_sumFor_0 (j := 33) (n := 29) rfl)
theorem dX3_sumFor_34 : decode cX3_sumFor 34 = .ok (.if_icmp .gt 7, 3) := dq_163 (hz_wg wX3_sumFor_0 (j := 34) (n := 163) rfl) (hz_wg wX3_sumFor_0 (j := 35) (n := 0) rfl) (hz_wg wX3_sumFor_0 (j := 36) (n := 7) rfl) (by decide)
theorem dX3_sumFor_37 : decode cX3_sumFor 37 = .ok (.iconst 1, 1) := dq_4 (hz_wg wX3_sumFor_0 (j := 37) (n := 4) rfl)
theorem dX3_sumFor_38 : decode cX3_sumFor 38 = .ok (.goto 4, 3) := dq_167 (hz_wg wX3_sumFor_0 (j := 38) (n := 167) rfl) (hz_wg wX3_sumFor_0 (j := 39) (n := 0) rfl) (hz_wg wX3_sumFor_0 (j := 40) (n := 4) rfl) (by decide)
theorem dX3_sumFor_41 : decode cX3_sumFor 41 = .ok (.iconst 0, 1) := dq_3 (hz_wg wX3_sumFor_0 (j := 41) (n := 3) rfl)
theorem dX3_sumFor_42 : decode cX3_sumFor 42 = .ok (.istore 6, 2) := dq_54 (hz_wg wX3_sumFor_0 (j := 42) (n := 54) rfl) (hz_wg wX3_sumFor_0 (j := 43) (n := 6) rfl)
theorem dX3_sumFor_44 : decode cX3_sumFor 44 = .ok (.aload_n 0, 1) := dq_42 (hz_wg wX3_sumFor_0 (j := 44) (n := 42) rfl)
theorem dX3_sumFor_45 : decode cX3_sumFor 45 = .ok (.getfield 15, 3) := dq_180 (hz_wg wX3_sumFor_0 (j := 45) (n := 180) rfl) (hz_wg wX3_sumFor_0 (j := 46) (n := 0) rfl) (hz_wg wX3_sumFor_0 (j := 47) (n := 15) rfl) rfl
theorem dX3_sumFor_48 : decode cX3_sumFor 48 = .ok (.iload 5, 2) := dq_21 (hz_wg wX3_sumFor_0 (j := 48) (n := 21) rfl) (hz_wg wX3_sumFor_0 (j := 49) (n := 5) rfl)
theorem dX3_sumFor_50 : decode cX3_sumFor 50 = .ok (.iaload, 1) := dq_46 (hz_wg wX3_sumFor_0 (j := 50) (n := 46) rfl)
theorem dX3_sumFor_51 : decode cX3_sumFor 51 = .ok (.iload_n 1, 1) := dq_27 (hz_wg wX3_sumFor_0 (j := 51) (n := 27) rfl)
theorem dX3_sumFor_52 : decode cX3_sumFor 52 = .ok (.if_icmp .ne 42, 3) := dq_160 (hz_wg wX3_sumFor_0 (j := 52) (n := 160) rfl) (hz_wg wX3_sumFor_0 (j := 53) (n := 0) rfl) (hz_wg wX3_sumFor_0 (j := 54) (n := 42) rfl) (by decide)
theorem dX3_sumFor_55 : decode cX3_sumFor 55 = .ok (.aload_n 0, 1) := dq_42 (hz_wg wX3_sumFor_0 (j := 55) (n := 42) rfl)
theorem dX3_sumFor_56 : decode cX3_sumFor 56 = .ok (.getfield 18, 3) := dq_180 (hz_wg wX3_sumFor_0 (j := 56) (n := 180) rfl) (hz_wg wX3_sumFor_0 (j := 57) (n := 0) rfl) (hz_wg wX3_sumFor_0 (j := 58) (n := 18) rfl) rfl
theorem dX3_sumFor_59 : decode cX3_sumFor 59 = .ok (.iload 5, 2) := dq_21 (hz_wg wX3_sumFor_0 (j := 59) (n := 21) rfl) (hz_wg wX3_sumFor_0 (j := 60) (n := 5) rfl)
theorem dX3_sumFor_61 : decode cX3_sumFor 61 = .ok (.iaload, 1) := dq_46 (hz_wg wX3_sumFor_0 (j := 61) (n := 46) rfl)
theorem dX3_sumFor_62 : decode cX3_sumFor 62 = .ok (.iload_n 2, 1) := dq_28 (hz_wg wX3_sumFor_0 (j := 62) (n := 28) rfl)
theorem dX3_sumFor_63 : decode cX3_sumFor 63 = .ok (.if_icmp .gt 31, 3) := dq_163 (hz_wg wX3_sumFor_0 (j := 63) (n := 163) rfl) (hz_wg wX3_sumFor_1 (j := 0) (n := 0) rfl) (hz_wg wX3_sumFor_1 (j := 1) (n := 31) rfl) (by decide)
theorem dX3_sumFor_66 : decode cX3_sumFor 66 = .ok (.aload_n 0, 1) := dq_42 (hz_wg wX3_sumFor_1 (j := 2) (n := 42) rfl)
theorem dX3_sumFor_67 : decode cX3_sumFor 67 = .ok (.getfield 21, 3) := dq_180 (hz_wg wX3_sumFor_1 (j := 3) (n := 180) rfl) (hz_wg wX3_sumFor_1 (j := 4) (n := 0) rfl) (hz_wg wX3_sumFor_1 (j := 5) (n := 21) rfl) rfl
theorem dX3_sumFor_70 : decode cX3_sumFor 70 = .ok (.iload 5, 2) := dq_21 (hz_wg wX3_sumFor_1 (j := 6) (n := 21) rfl) (hz_wg wX3_sumFor_1 (j := 7) (n := 5) rfl)
theorem dX3_sumFor_72 : decode cX3_sumFor 72 = .ok (.iaload, 1) := dq_46 (hz_wg wX3_sumFor_1 (j := 8) (n := 46) rfl)
theorem dX3_sumFor_73 : decode cX3_sumFor 73 = .ok (.iload_n 3, 1) := dq_29 (hz_wg wX3_sumFor_1 (j := 9) (n := 29) rfl)
theorem dX3_sumFor_74 : decode cX3_sumFor 74 = .ok (.if_icmp .gt 20, 3) := dq_163 (hz_wg wX3_sumFor_1 (j := 10) (n := 163) rfl) (hz_wg wX3_sumFor_1 (j := 11) (n := 0) rfl) (hz_wg wX3_sumFor_1 (j := 12) (n := 20) rfl) (by decide)
theorem dX3_sumFor_77 : decode cX3_sumFor 77 = .ok (.iload 6, 2) := dq_21 (hz_wg wX3_sumFor_1 (j := 13) (n := 21) rfl) (hz_wg wX3_sumFor_1 (j := 14) (n := 6) rfl)
theorem dX3_sumFor_79 : decode cX3_sumFor 79 = .ok (.ifCond .ne 15, 3) := dq_154 (hz_wg wX3_sumFor_1 (j := 15) (n := 154) rfl) (hz_wg wX3_sumFor_1 (j := 16) (n := 0) rfl) (hz_wg wX3_sumFor_1 (j := 17) (n := 15) rfl) (by decide)
theorem dX3_sumFor_82 : decode cX3_sumFor 82 = .ok (.iload 4, 2) := dq_21 (hz_wg wX3_sumFor_1 (j := 18) (n := 21) rfl) (hz_wg wX3_sumFor_1 (j := 19) (n := 4) rfl)
theorem dX3_sumFor_84 : decode cX3_sumFor 84 = .ok (.aload_n 0, 1) := dq_42 (hz_wg wX3_sumFor_1 (j := 20) (n := 42) rfl)
theorem dX3_sumFor_85 : decode cX3_sumFor 85 = .ok (.getfield 24, 3) := dq_180 (hz_wg wX3_sumFor_1 (j := 21) (n := 180) rfl) (hz_wg wX3_sumFor_1 (j := 22) (n := 0) rfl) (hz_wg wX3_sumFor_1 (j := 23) (n := 24) rfl) rfl
theorem dX3_sumFor_88 : decode cX3_sumFor 88 = .ok (.iload 5, 2) := dq_21 (hz_wg wX3_sumFor_1 (j := 24) (n := 21) rfl) (hz_wg wX3_sumFor_1 (j := 25) (n := 5) rfl)
theorem dX3_sumFor_90 : decode cX3_sumFor 90 = .ok (.iaload, 1) := dq_46 (hz_wg wX3_sumFor_1 (j := 26) (n := 46) rfl)
theorem dX3_sumFor_91 : decode cX3_sumFor 91 = .ok (.iadd, 1) := dq_96 (hz_wg wX3_sumFor_1 (j := 27) (n := 96) rfl)
theorem dX3_sumFor_92 : decode cX3_sumFor 92 = .ok (.istore 4, 2) := dq_54 (hz_wg wX3_sumFor_1 (j := 28) (n := 54) rfl) (hz_wg wX3_sumFor_1 (j := 29) (n := 4) rfl)
theorem dX3_sumFor_94 : decode cX3_sumFor 94 = .ok (.iinc 5 1, 3) := dq_132 (hz_wg wX3_sumFor_1 (j := 30) (n := 132) rfl) (hz_wg wX3_sumFor_1 (j := 31) (n := 5) rfl) (hz_wg wX3_sumFor_1 (j := 32) (n := 1) rfl) (by decide)
theorem dX3_sumFor_97 : decode cX3_sumFor 97 = .ok (.goto (-91), 3) := dq_167 (hz_wg wX3_sumFor_1 (j := 33) (n := 167) rfl) (hz_wg wX3_sumFor_1 (j := 34) (n := 255) rfl) (hz_wg wX3_sumFor_1 (j := 35) (n := 165) rfl) (by decide)
theorem dX3_sumFor_100 : decode cX3_sumFor 100 = .ok (.iload 4, 2) := dq_21 (hz_wg wX3_sumFor_1 (j := 36) (n := 21) rfl) (hz_wg wX3_sumFor_1 (j := 37) (n := 4) rfl)
theorem dX3_sumFor_102 : decode cX3_sumFor 102 = .ok (.ireturn, 1) := dq_172 (hz_wg wX3_sumFor_1 (j := 38) (n := 172) rfl)
set_option maxHeartbeats 4000000 in
set_option maxRecDepth 100000 in
theorem t_X3_sumFor (l : Launch) (dC : Nat → ClassId) (dI : Nat → Nat → Nat) (dA : Nat → ClassId) (L : List Nat) (h : hx_h) (sz : Nat) (x : Nat) (i1 : Int32) (i2 : Int32) (i3 : Int32) (hT : hx_T T_tb L h) (gx : hx_g L h x 3)  : Met l yX3_sumFor (Cond.code yX3_sumFor cX3_sumFor 7 (some .int) :: hx_all) ({ frames := 0, cells := 0, slots := 0, locals := 0 }) (va_Pc [.ref x, .int i1, .int i2, .int i3] (hx_B T_tb (P_ty dA) (dC, dI) vwCl L h sz)) (va_Qi (fun (r : Int32) (u : List Nat × hx_h) => (True) ∧ hx_T T_tb u.1 u.2 ∧ hx_S T_tb [] L h u.1 u.2) (hx_E T_tb (P_ty dA) (dC, dI) vwCl (hx_A L sz)) (hx_A L sz)) 0 0 (hx_A L sz) := by
  refine hx_met (lv := [(0, .ref x), (1, .int i1), (2, .int i2), (3, .int i3)]) (by decide +kernel) rfl (Nat.le_of_ble_eq_true rfl) rfl ?_
  intro p e s m below meth c hx hb hml hr hlk hts0 hown hin hsz hW ls hl
  have hts : ∀ w ∈ hx_all, w.before _ s = true := fun w hw => hts0 w (List.mem_cons_of_mem _ hw)
  have hown : s.vm.findClass "SmallCourt$Payments" = some m.cls := hown
  have hM : hx_S T_tb [] L h L h := hx_S.rf
  refine lv_iconst (v := 0) hx hb dX3_sumFor_0 (by decide) ?_
  refine lv_istore (lv' := [(4, .int (0 : Int32)), (0, .ref x), (1, .int i1), (2, .int i2), (3, .int i3)]) hx hb dX3_sumFor_1 hl (by decide) rfl (fun ls hl => ?_)
  refine lv_iconst (v := 0) hx hb dX3_sumFor_3 (by decide) ?_
  refine lv_istore (lv' := [(5, .int (0 : Int32)), (4, .int (0 : Int32)), (0, .ref x), (1, .int i1), (2, .int i2), (3, .int i3)]) hx hb dX3_sumFor_4 hl (by decide) rfl (fun ls hl => ?_)
  have loop6 : ∀ (n6 : Nat) (iv6_5 iv6_4 : Int32) (H : Heap) (locs : List Loc) (hL1 : List Nat) (hl1 : hx_h) (ls : Array Slot), 0 ≤ iv6_5.toInt → iv6_5.toInt ≤ 600 → 600 < iv6_5.toInt + n6 → hx_W T_tb (P_ty dA) (dC, dI) vwCl (hx_A L sz) s.heap hL1 hl1 s H locs → hx_T T_tb hL1 hl1 → hx_S T_tb [] L h hL1 hl1 → hx_g hL1 hl1 x 3 → lv_has ls 7 [(5, .int iv6_5), (4, .int iv6_4), (0, .ref x), (1, .int i1), (2, .int i2), (3, .int i3)] → W p l e ({ frames := 0, cells := 0, slots := 0, locals := 0 }) s m ([.ref x, .int i1, .int i2, .int i3] : List Value).toArray below meth c H locs 0 0 (MQ below (va_Qi (fun (r : Int32) (u : List Nat × hx_h) => (True) ∧ hx_T T_tb u.1 u.2 ∧ hx_S T_tb [] L h u.1 u.2) (hx_E T_tb (P_ty dA) (dC, dI) vwCl (hx_A L sz)) (hx_A L sz)) ([.ref x, .int i1, .int i2, .int i3] : List Value).toArray s 0 0 (hx_A L sz)) (F0 m 6 ls []) := by
    intro n6
    induction n6 with
    | zero => intro iv6_5 iv6_4 H locs hL1 hl1 ls bl6_5 bu6_5 hn6; exfalso; omega
    | succ n6 ih6 =>
      intro iv6_5 iv6_4 H locs hL1 hl1 ls bl6_5 bu6_5 hn6 hW hT hM  gx  hl
      refine lv_iload hx hb dX3_sumFor_6 (lv_at hl 0 rfl) ?_
      refine lv_aload_n hx hb dX3_sumFor_8 rfl (lv_at hl 2 rfl) ?_
      refine hx_geti hx hb hts hC_3 hown hW hT gx tt_3 0 (by decide) rfl kw_231 ⟨rfl, rfl, rfl⟩ dX3_sumFor_9 (fun x_1 ex_1 lx_1 ux_1 => ?_)
      have fx_1 := ex_1.symm
      refine hb_icmp_ge (zx := iv6_5.toInt) (zy := x_1.toInt) (tgt := 100) hx hb rfl rfl dX3_sumFor_12 (by decide) (fun c_2 => ?_) (fun c_2 => ?_)
      · skip
        refine lv_iload hx hb dX3_sumFor_100 (lv_at hl 1 rfl) ?_
        exact hx_reti hx hb hr hlk hW ⟨trivial, hT, hM⟩ dX3_sumFor_102
      · skip
        refine lv_aload_n hx hb dX3_sumFor_15 rfl (lv_at hl 2 rfl) ?_
        refine hx_getn hx hb hts hC_3 hown hW hT gx tt_3 1 (by decide) rfl kw_233 ⟨rfl, rfl, rfl⟩ dX3_sumFor_16 (fun q_3 fq_3 gq_3 => ?_)
        refine lv_iload hx hb dX3_sumFor_19 (lv_at hl 0 rfl) ?_
        refine hx_iald hx hb hW hT gq_3 tt_22 rfl ⟨by omega, by omega⟩ dX3_sumFor_21 (fun x_4 ex_4 lx_4 ux_4 => ?_)
        refine lv_iconst (v := -1) hx hb dX3_sumFor_22 (by decide) ?_
        refine hb_icmp_eq (zx := x_4.toInt) (zy := (-1)) (tgt := 41) hx hb rfl (by decide) dX3_sumFor_23 (by decide) (fun c_5 => ?_) (fun c_5 => ?_)
        · skip
          refine lv_iconst (v := 0) hx hb dX3_sumFor_41 (by decide) ?_
          refine lv_istore (lv' := [(6, .int (0 : Int32)), (5, .int iv6_5), (4, .int iv6_4), (0, .ref x), (1, .int i1), (2, .int i2), (3, .int i3)]) hx hb dX3_sumFor_42 hl (by decide) rfl (fun ls hl => ?_)
          refine lv_aload_n hx hb dX3_sumFor_44 rfl (lv_at hl 3 rfl) ?_
          refine hx_getn hx hb hts hC_3 hown hW hT gx tt_3 2 (by decide) rfl kw_235 ⟨rfl, rfl, rfl⟩ dX3_sumFor_45 (fun q_6 fq_6 gq_6 => ?_)
          refine lv_iload hx hb dX3_sumFor_48 (lv_at hl 1 rfl) ?_
          refine hx_iald hx hb hW hT gq_6 tt_23 rfl ⟨by omega, by omega⟩ dX3_sumFor_50 (fun x_7 ex_7 lx_7 ux_7 => ?_)
          refine lv_iload_n hx hb dX3_sumFor_51 rfl (lv_at hl 4 rfl) ?_
          refine hb_icmp_ne (zx := x_7.toInt) (zy := i1.toInt) (tgt := 94) hx hb rfl rfl dX3_sumFor_52 (by decide) (fun c_8 => ?_) (fun c_8 => ?_)
          · skip
            obtain ⟨x_9, ex_9⟩ : ∃ y : Int32, y = iv6_5 + Int32.ofInt 1 := ⟨_, rfl⟩
            have rg_10 := i32_r iv6_5
            have zx_9 : x_9.toInt = iv6_5.toInt + (1) := by rw [ex_9]; exact i32_add rfl (by decide) (by omega) (by omega)
            refine lv_iinc (v := x_9) (lv' := [(5, .int x_9), (6, .int (0 : Int32)), (4, .int iv6_4), (0, .ref x), (1, .int i1), (2, .int i2), (3, .int i3)]) hx hb dX3_sumFor_94 hl (k := 1) rfl ex_9.symm (by decide) rfl (fun ls hl => ?_)
            refine lv_goto (tgt := 6) hx hb dX3_sumFor_97 (by decide) ?_
            exact ih6 x_9 iv6_4 _ _ hL1 hl1 ls (by omega) (by omega) (by omega) hW hT hM  gx  (lv_sub hl [0, 2, 3, 4, 5, 6] rfl)
          · skip
            refine lv_aload_n hx hb dX3_sumFor_55 rfl (lv_at hl 3 rfl) ?_
            refine hx_getn hx hb hts hC_3 hown hW hT gx tt_3 3 (by decide) rfl kw_236 ⟨rfl, rfl, rfl⟩ dX3_sumFor_56 (fun q_11 fq_11 gq_11 => ?_)
            refine lv_iload hx hb dX3_sumFor_59 (lv_at hl 1 rfl) ?_
            refine hx_iald hx hb hW hT gq_11 tt_24 rfl ⟨by omega, by omega⟩ dX3_sumFor_61 (fun x_12 ex_12 lx_12 ux_12 => ?_)
            refine lv_iload_n hx hb dX3_sumFor_62 rfl (lv_at hl 5 rfl) ?_
            refine hb_icmp_gt (zx := x_12.toInt) (zy := i2.toInt) (tgt := 94) hx hb rfl rfl dX3_sumFor_63 (by decide) (fun c_13 => ?_) (fun c_13 => ?_)
            · skip
              obtain ⟨x_14, ex_14⟩ : ∃ y : Int32, y = iv6_5 + Int32.ofInt 1 := ⟨_, rfl⟩
              have rg_15 := i32_r iv6_5
              have zx_14 : x_14.toInt = iv6_5.toInt + (1) := by rw [ex_14]; exact i32_add rfl (by decide) (by omega) (by omega)
              refine lv_iinc (v := x_14) (lv' := [(5, .int x_14), (6, .int (0 : Int32)), (4, .int iv6_4), (0, .ref x), (1, .int i1), (2, .int i2), (3, .int i3)]) hx hb dX3_sumFor_94 hl (k := 1) rfl ex_14.symm (by decide) rfl (fun ls hl => ?_)
              refine lv_goto (tgt := 6) hx hb dX3_sumFor_97 (by decide) ?_
              exact ih6 x_14 iv6_4 _ _ hL1 hl1 ls (by omega) (by omega) (by omega) hW hT hM  gx  (lv_sub hl [0, 2, 3, 4, 5, 6] rfl)
            · skip
              refine lv_aload_n hx hb dX3_sumFor_66 rfl (lv_at hl 3 rfl) ?_
              refine hx_getn hx hb hts hC_3 hown hW hT gx tt_3 4 (by decide) rfl kw_237 ⟨rfl, rfl, rfl⟩ dX3_sumFor_67 (fun q_16 fq_16 gq_16 => ?_)
              refine lv_iload hx hb dX3_sumFor_70 (lv_at hl 1 rfl) ?_
              refine hx_iald hx hb hW hT gq_16 tt_25 rfl ⟨by omega, by omega⟩ dX3_sumFor_72 (fun x_17 ex_17 lx_17 ux_17 => ?_)
              refine lv_iload_n hx hb dX3_sumFor_73 rfl (lv_at hl 6 rfl) ?_
              refine hb_icmp_gt (zx := x_17.toInt) (zy := i3.toInt) (tgt := 94) hx hb rfl rfl dX3_sumFor_74 (by decide) (fun c_18 => ?_) (fun c_18 => ?_)
              · skip
                obtain ⟨x_19, ex_19⟩ : ∃ y : Int32, y = iv6_5 + Int32.ofInt 1 := ⟨_, rfl⟩
                have rg_20 := i32_r iv6_5
                have zx_19 : x_19.toInt = iv6_5.toInt + (1) := by rw [ex_19]; exact i32_add rfl (by decide) (by omega) (by omega)
                refine lv_iinc (v := x_19) (lv' := [(5, .int x_19), (6, .int (0 : Int32)), (4, .int iv6_4), (0, .ref x), (1, .int i1), (2, .int i2), (3, .int i3)]) hx hb dX3_sumFor_94 hl (k := 1) rfl ex_19.symm (by decide) rfl (fun ls hl => ?_)
                refine lv_goto (tgt := 6) hx hb dX3_sumFor_97 (by decide) ?_
                exact ih6 x_19 iv6_4 _ _ hL1 hl1 ls (by omega) (by omega) (by omega) hW hT hM  gx  (lv_sub hl [0, 2, 3, 4, 5, 6] rfl)
              · skip
                refine lv_iload hx hb dX3_sumFor_77 (lv_at hl 0 rfl) ?_
                refine hb_if_ne (zx := 0) (tgt := 94) hx hb (by decide) dX3_sumFor_79 (by decide) (fun c_21 => absurd c_21 (by decide)) (fun c_21 => ?_)
                refine lv_iload hx hb dX3_sumFor_82 (lv_at hl 2 rfl) ?_
                refine lv_aload_n hx hb dX3_sumFor_84 rfl (lv_at hl 3 rfl) ?_
                refine hx_getn hx hb hts hC_3 hown hW hT gx tt_3 5 (by decide) rfl kw_238 ⟨rfl, rfl, rfl⟩ dX3_sumFor_85 (fun q_22 fq_22 gq_22 => ?_)
                refine lv_iload hx hb dX3_sumFor_88 (lv_at hl 1 rfl) ?_
                refine hx_iald hx hb hW hT gq_22 tt_26 rfl ⟨by omega, by omega⟩ dX3_sumFor_90 (fun x_23 ex_23 lx_23 ux_23 => ?_)
                refine lv_iadd hx hb dX3_sumFor_91 ?_
                have rg_24 := i32_r iv6_4
                have rg_25 := i32_r x_23
                refine lv_topi (fun x_26 ex_26 => ?_)
                refine lv_istore (lv' := [(4, .int x_26), (6, .int (0 : Int32)), (5, .int iv6_5), (0, .ref x), (1, .int i1), (2, .int i2), (3, .int i3)]) hx hb dX3_sumFor_92 hl (by decide) rfl (fun ls hl => ?_)
                obtain ⟨x_27, ex_27⟩ : ∃ y : Int32, y = iv6_5 + Int32.ofInt 1 := ⟨_, rfl⟩
                have rg_28 := i32_r iv6_5
                have zx_27 : x_27.toInt = iv6_5.toInt + (1) := by rw [ex_27]; exact i32_add rfl (by decide) (by omega) (by omega)
                refine lv_iinc (v := x_27) (lv' := [(5, .int x_27), (4, .int x_26), (6, .int (0 : Int32)), (0, .ref x), (1, .int i1), (2, .int i2), (3, .int i3)]) hx hb dX3_sumFor_94 hl (k := 2) rfl ex_27.symm (by decide) rfl (fun ls hl => ?_)
                refine lv_goto (tgt := 6) hx hb dX3_sumFor_97 (by decide) ?_
                exact ih6 x_27 x_26 _ _ hL1 hl1 ls (by omega) (by omega) (by omega) hW hT hM  gx  (lv_sub hl [0, 1, 3, 4, 5, 6] rfl)
        · skip
          refine lv_aload_n hx hb dX3_sumFor_26 rfl (lv_at hl 2 rfl) ?_
          refine hk_getr hx hb hts hC_3 hown hW gx tt_3 1 (by decide) rfl kw_233 ⟨rfl, rfl, rfl⟩ fq_3 dX3_sumFor_27 ?_
          refine lv_iload hx hb dX3_sumFor_30 (lv_at hl 0 rfl) ?_
          refine hx_iald hx hb hW hT gq_3 tt_22 rfl ⟨by omega, by omega⟩ dX3_sumFor_32 (fun x_29 ex_29 lx_29 ux_29 => ?_)
          refine lv_iload_n hx hb dX3_sumFor_33 rfl (lv_at hl 5 rfl) ?_
          refine hb_icmp_gt (zx := x_29.toInt) (zy := i3.toInt) (tgt := 41) hx hb rfl rfl dX3_sumFor_34 (by decide) (fun c_30 => ?_) (fun c_30 => ?_)
          · skip
            refine lv_iconst (v := 0) hx hb dX3_sumFor_41 (by decide) ?_
            refine lv_istore (lv' := [(6, .int (0 : Int32)), (5, .int iv6_5), (4, .int iv6_4), (0, .ref x), (1, .int i1), (2, .int i2), (3, .int i3)]) hx hb dX3_sumFor_42 hl (by decide) rfl (fun ls hl => ?_)
            refine lv_aload_n hx hb dX3_sumFor_44 rfl (lv_at hl 3 rfl) ?_
            refine hx_getn hx hb hts hC_3 hown hW hT gx tt_3 2 (by decide) rfl kw_235 ⟨rfl, rfl, rfl⟩ dX3_sumFor_45 (fun q_31 fq_31 gq_31 => ?_)
            refine lv_iload hx hb dX3_sumFor_48 (lv_at hl 1 rfl) ?_
            refine hx_iald hx hb hW hT gq_31 tt_23 rfl ⟨by omega, by omega⟩ dX3_sumFor_50 (fun x_32 ex_32 lx_32 ux_32 => ?_)
            refine lv_iload_n hx hb dX3_sumFor_51 rfl (lv_at hl 4 rfl) ?_
            refine hb_icmp_ne (zx := x_32.toInt) (zy := i1.toInt) (tgt := 94) hx hb rfl rfl dX3_sumFor_52 (by decide) (fun c_33 => ?_) (fun c_33 => ?_)
            · skip
              obtain ⟨x_34, ex_34⟩ : ∃ y : Int32, y = iv6_5 + Int32.ofInt 1 := ⟨_, rfl⟩
              have rg_35 := i32_r iv6_5
              have zx_34 : x_34.toInt = iv6_5.toInt + (1) := by rw [ex_34]; exact i32_add rfl (by decide) (by omega) (by omega)
              refine lv_iinc (v := x_34) (lv' := [(5, .int x_34), (6, .int (0 : Int32)), (4, .int iv6_4), (0, .ref x), (1, .int i1), (2, .int i2), (3, .int i3)]) hx hb dX3_sumFor_94 hl (k := 1) rfl ex_34.symm (by decide) rfl (fun ls hl => ?_)
              refine lv_goto (tgt := 6) hx hb dX3_sumFor_97 (by decide) ?_
              exact ih6 x_34 iv6_4 _ _ hL1 hl1 ls (by omega) (by omega) (by omega) hW hT hM  gx  (lv_sub hl [0, 2, 3, 4, 5, 6] rfl)
            · skip
              refine lv_aload_n hx hb dX3_sumFor_55 rfl (lv_at hl 3 rfl) ?_
              refine hx_getn hx hb hts hC_3 hown hW hT gx tt_3 3 (by decide) rfl kw_236 ⟨rfl, rfl, rfl⟩ dX3_sumFor_56 (fun q_36 fq_36 gq_36 => ?_)
              refine lv_iload hx hb dX3_sumFor_59 (lv_at hl 1 rfl) ?_
              refine hx_iald hx hb hW hT gq_36 tt_24 rfl ⟨by omega, by omega⟩ dX3_sumFor_61 (fun x_37 ex_37 lx_37 ux_37 => ?_)
              refine lv_iload_n hx hb dX3_sumFor_62 rfl (lv_at hl 5 rfl) ?_
              refine hb_icmp_gt (zx := x_37.toInt) (zy := i2.toInt) (tgt := 94) hx hb rfl rfl dX3_sumFor_63 (by decide) (fun c_38 => ?_) (fun c_38 => ?_)
              · skip
                obtain ⟨x_39, ex_39⟩ : ∃ y : Int32, y = iv6_5 + Int32.ofInt 1 := ⟨_, rfl⟩
                have rg_40 := i32_r iv6_5
                have zx_39 : x_39.toInt = iv6_5.toInt + (1) := by rw [ex_39]; exact i32_add rfl (by decide) (by omega) (by omega)
                refine lv_iinc (v := x_39) (lv' := [(5, .int x_39), (6, .int (0 : Int32)), (4, .int iv6_4), (0, .ref x), (1, .int i1), (2, .int i2), (3, .int i3)]) hx hb dX3_sumFor_94 hl (k := 1) rfl ex_39.symm (by decide) rfl (fun ls hl => ?_)
                refine lv_goto (tgt := 6) hx hb dX3_sumFor_97 (by decide) ?_
                exact ih6 x_39 iv6_4 _ _ hL1 hl1 ls (by omega) (by omega) (by omega) hW hT hM  gx  (lv_sub hl [0, 2, 3, 4, 5, 6] rfl)
              · skip
                refine lv_aload_n hx hb dX3_sumFor_66 rfl (lv_at hl 3 rfl) ?_
                refine hx_getn hx hb hts hC_3 hown hW hT gx tt_3 4 (by decide) rfl kw_237 ⟨rfl, rfl, rfl⟩ dX3_sumFor_67 (fun q_41 fq_41 gq_41 => ?_)
                refine lv_iload hx hb dX3_sumFor_70 (lv_at hl 1 rfl) ?_
                refine hx_iald hx hb hW hT gq_41 tt_25 rfl ⟨by omega, by omega⟩ dX3_sumFor_72 (fun x_42 ex_42 lx_42 ux_42 => ?_)
                refine lv_iload_n hx hb dX3_sumFor_73 rfl (lv_at hl 6 rfl) ?_
                refine hb_icmp_gt (zx := x_42.toInt) (zy := i3.toInt) (tgt := 94) hx hb rfl rfl dX3_sumFor_74 (by decide) (fun c_43 => ?_) (fun c_43 => ?_)
                · skip
                  obtain ⟨x_44, ex_44⟩ : ∃ y : Int32, y = iv6_5 + Int32.ofInt 1 := ⟨_, rfl⟩
                  have rg_45 := i32_r iv6_5
                  have zx_44 : x_44.toInt = iv6_5.toInt + (1) := by rw [ex_44]; exact i32_add rfl (by decide) (by omega) (by omega)
                  refine lv_iinc (v := x_44) (lv' := [(5, .int x_44), (6, .int (0 : Int32)), (4, .int iv6_4), (0, .ref x), (1, .int i1), (2, .int i2), (3, .int i3)]) hx hb dX3_sumFor_94 hl (k := 1) rfl ex_44.symm (by decide) rfl (fun ls hl => ?_)
                  refine lv_goto (tgt := 6) hx hb dX3_sumFor_97 (by decide) ?_
                  exact ih6 x_44 iv6_4 _ _ hL1 hl1 ls (by omega) (by omega) (by omega) hW hT hM  gx  (lv_sub hl [0, 2, 3, 4, 5, 6] rfl)
                · skip
                  refine lv_iload hx hb dX3_sumFor_77 (lv_at hl 0 rfl) ?_
                  refine hb_if_ne (zx := 0) (tgt := 94) hx hb (by decide) dX3_sumFor_79 (by decide) (fun c_46 => absurd c_46 (by decide)) (fun c_46 => ?_)
                  refine lv_iload hx hb dX3_sumFor_82 (lv_at hl 2 rfl) ?_
                  refine lv_aload_n hx hb dX3_sumFor_84 rfl (lv_at hl 3 rfl) ?_
                  refine hx_getn hx hb hts hC_3 hown hW hT gx tt_3 5 (by decide) rfl kw_238 ⟨rfl, rfl, rfl⟩ dX3_sumFor_85 (fun q_47 fq_47 gq_47 => ?_)
                  refine lv_iload hx hb dX3_sumFor_88 (lv_at hl 1 rfl) ?_
                  refine hx_iald hx hb hW hT gq_47 tt_26 rfl ⟨by omega, by omega⟩ dX3_sumFor_90 (fun x_48 ex_48 lx_48 ux_48 => ?_)
                  refine lv_iadd hx hb dX3_sumFor_91 ?_
                  have rg_49 := i32_r iv6_4
                  have rg_50 := i32_r x_48
                  refine lv_topi (fun x_51 ex_51 => ?_)
                  refine lv_istore (lv' := [(4, .int x_51), (6, .int (0 : Int32)), (5, .int iv6_5), (0, .ref x), (1, .int i1), (2, .int i2), (3, .int i3)]) hx hb dX3_sumFor_92 hl (by decide) rfl (fun ls hl => ?_)
                  obtain ⟨x_52, ex_52⟩ : ∃ y : Int32, y = iv6_5 + Int32.ofInt 1 := ⟨_, rfl⟩
                  have rg_53 := i32_r iv6_5
                  have zx_52 : x_52.toInt = iv6_5.toInt + (1) := by rw [ex_52]; exact i32_add rfl (by decide) (by omega) (by omega)
                  refine lv_iinc (v := x_52) (lv' := [(5, .int x_52), (4, .int x_51), (6, .int (0 : Int32)), (0, .ref x), (1, .int i1), (2, .int i2), (3, .int i3)]) hx hb dX3_sumFor_94 hl (k := 2) rfl ex_52.symm (by decide) rfl (fun ls hl => ?_)
                  refine lv_goto (tgt := 6) hx hb dX3_sumFor_97 (by decide) ?_
                  exact ih6 x_52 x_51 _ _ hL1 hl1 ls (by omega) (by omega) (by omega) hW hT hM  gx  (lv_sub hl [0, 1, 3, 4, 5, 6] rfl)
          · skip
            refine lv_iconst (v := 1) hx hb dX3_sumFor_37 (by decide) ?_
            refine lv_goto (tgt := 42) hx hb dX3_sumFor_38 (by decide) ?_
            refine lv_istore (lv' := [(6, .int (1 : Int32)), (5, .int iv6_5), (4, .int iv6_4), (0, .ref x), (1, .int i1), (2, .int i2), (3, .int i3)]) hx hb dX3_sumFor_42 hl (by decide) rfl (fun ls hl => ?_)
            refine lv_aload_n hx hb dX3_sumFor_44 rfl (lv_at hl 3 rfl) ?_
            refine hx_getn hx hb hts hC_3 hown hW hT gx tt_3 2 (by decide) rfl kw_235 ⟨rfl, rfl, rfl⟩ dX3_sumFor_45 (fun q_54 fq_54 gq_54 => ?_)
            refine lv_iload hx hb dX3_sumFor_48 (lv_at hl 1 rfl) ?_
            refine hx_iald hx hb hW hT gq_54 tt_23 rfl ⟨by omega, by omega⟩ dX3_sumFor_50 (fun x_55 ex_55 lx_55 ux_55 => ?_)
            refine lv_iload_n hx hb dX3_sumFor_51 rfl (lv_at hl 4 rfl) ?_
            refine hb_icmp_ne (zx := x_55.toInt) (zy := i1.toInt) (tgt := 94) hx hb rfl rfl dX3_sumFor_52 (by decide) (fun c_56 => ?_) (fun c_56 => ?_)
            · skip
              obtain ⟨x_57, ex_57⟩ : ∃ y : Int32, y = iv6_5 + Int32.ofInt 1 := ⟨_, rfl⟩
              have rg_58 := i32_r iv6_5
              have zx_57 : x_57.toInt = iv6_5.toInt + (1) := by rw [ex_57]; exact i32_add rfl (by decide) (by omega) (by omega)
              refine lv_iinc (v := x_57) (lv' := [(5, .int x_57), (6, .int (1 : Int32)), (4, .int iv6_4), (0, .ref x), (1, .int i1), (2, .int i2), (3, .int i3)]) hx hb dX3_sumFor_94 hl (k := 1) rfl ex_57.symm (by decide) rfl (fun ls hl => ?_)
              refine lv_goto (tgt := 6) hx hb dX3_sumFor_97 (by decide) ?_
              exact ih6 x_57 iv6_4 _ _ hL1 hl1 ls (by omega) (by omega) (by omega) hW hT hM  gx  (lv_sub hl [0, 2, 3, 4, 5, 6] rfl)
            · skip
              refine lv_aload_n hx hb dX3_sumFor_55 rfl (lv_at hl 3 rfl) ?_
              refine hx_getn hx hb hts hC_3 hown hW hT gx tt_3 3 (by decide) rfl kw_236 ⟨rfl, rfl, rfl⟩ dX3_sumFor_56 (fun q_59 fq_59 gq_59 => ?_)
              refine lv_iload hx hb dX3_sumFor_59 (lv_at hl 1 rfl) ?_
              refine hx_iald hx hb hW hT gq_59 tt_24 rfl ⟨by omega, by omega⟩ dX3_sumFor_61 (fun x_60 ex_60 lx_60 ux_60 => ?_)
              refine lv_iload_n hx hb dX3_sumFor_62 rfl (lv_at hl 5 rfl) ?_
              refine hb_icmp_gt (zx := x_60.toInt) (zy := i2.toInt) (tgt := 94) hx hb rfl rfl dX3_sumFor_63 (by decide) (fun c_61 => ?_) (fun c_61 => ?_)
              · skip
                obtain ⟨x_62, ex_62⟩ : ∃ y : Int32, y = iv6_5 + Int32.ofInt 1 := ⟨_, rfl⟩
                have rg_63 := i32_r iv6_5
                have zx_62 : x_62.toInt = iv6_5.toInt + (1) := by rw [ex_62]; exact i32_add rfl (by decide) (by omega) (by omega)
                refine lv_iinc (v := x_62) (lv' := [(5, .int x_62), (6, .int (1 : Int32)), (4, .int iv6_4), (0, .ref x), (1, .int i1), (2, .int i2), (3, .int i3)]) hx hb dX3_sumFor_94 hl (k := 1) rfl ex_62.symm (by decide) rfl (fun ls hl => ?_)
                refine lv_goto (tgt := 6) hx hb dX3_sumFor_97 (by decide) ?_
                exact ih6 x_62 iv6_4 _ _ hL1 hl1 ls (by omega) (by omega) (by omega) hW hT hM  gx  (lv_sub hl [0, 2, 3, 4, 5, 6] rfl)
              · skip
                refine lv_aload_n hx hb dX3_sumFor_66 rfl (lv_at hl 3 rfl) ?_
                refine hx_getn hx hb hts hC_3 hown hW hT gx tt_3 4 (by decide) rfl kw_237 ⟨rfl, rfl, rfl⟩ dX3_sumFor_67 (fun q_64 fq_64 gq_64 => ?_)
                refine lv_iload hx hb dX3_sumFor_70 (lv_at hl 1 rfl) ?_
                refine hx_iald hx hb hW hT gq_64 tt_25 rfl ⟨by omega, by omega⟩ dX3_sumFor_72 (fun x_65 ex_65 lx_65 ux_65 => ?_)
                refine lv_iload_n hx hb dX3_sumFor_73 rfl (lv_at hl 6 rfl) ?_
                refine hb_icmp_gt (zx := x_65.toInt) (zy := i3.toInt) (tgt := 94) hx hb rfl rfl dX3_sumFor_74 (by decide) (fun c_66 => ?_) (fun c_66 => ?_)
                · skip
                  obtain ⟨x_67, ex_67⟩ : ∃ y : Int32, y = iv6_5 + Int32.ofInt 1 := ⟨_, rfl⟩
                  have rg_68 := i32_r iv6_5
                  have zx_67 : x_67.toInt = iv6_5.toInt + (1) := by rw [ex_67]; exact i32_add rfl (by decide) (by omega) (by omega)
                  refine lv_iinc (v := x_67) (lv' := [(5, .int x_67), (6, .int (1 : Int32)), (4, .int iv6_4), (0, .ref x), (1, .int i1), (2, .int i2), (3, .int i3)]) hx hb dX3_sumFor_94 hl (k := 1) rfl ex_67.symm (by decide) rfl (fun ls hl => ?_)
                  refine lv_goto (tgt := 6) hx hb dX3_sumFor_97 (by decide) ?_
                  exact ih6 x_67 iv6_4 _ _ hL1 hl1 ls (by omega) (by omega) (by omega) hW hT hM  gx  (lv_sub hl [0, 2, 3, 4, 5, 6] rfl)
                · skip
                  refine lv_iload hx hb dX3_sumFor_77 (lv_at hl 0 rfl) ?_
                  refine hb_if_ne (zx := 1) (tgt := 94) hx hb (by decide) dX3_sumFor_79 (by decide) (fun c_69 => ?_) (fun c_69 => absurd c_69 (by decide))
                  obtain ⟨x_70, ex_70⟩ : ∃ y : Int32, y = iv6_5 + Int32.ofInt 1 := ⟨_, rfl⟩
                  have rg_71 := i32_r iv6_5
                  have zx_70 : x_70.toInt = iv6_5.toInt + (1) := by rw [ex_70]; exact i32_add rfl (by decide) (by omega) (by omega)
                  refine lv_iinc (v := x_70) (lv' := [(5, .int x_70), (6, .int (1 : Int32)), (4, .int iv6_4), (0, .ref x), (1, .int i1), (2, .int i2), (3, .int i3)]) hx hb dX3_sumFor_94 hl (k := 1) rfl ex_70.symm (by decide) rfl (fun ls hl => ?_)
                  refine lv_goto (tgt := 6) hx hb dX3_sumFor_97 (by decide) ?_
                  exact ih6 x_70 iv6_4 _ _ hL1 hl1 ls (by omega) (by omega) (by omega) hW hT hM  gx  (lv_sub hl [0, 2, 3, 4, 5, 6] rfl)
  exact loop6 601 (0 : Int32) (0 : Int32) _ _ L h ls (by decide) (by decide) (by decide) hW hT hM  gx  hl

def wLX3_addPayment_0 : List Nat := [42, 180, 0, 27, 17, 2, 88, 161, 0, 5, 2, 172, 42, 180, 0, 15, 42, 180, 0, 27, 27, 79, 42, 180, 0, 18, 42, 180, 0, 27, 28, 79, 42, 180, 0, 21, 42, 180, 0, 27, 29, 79, 42, 180, 0, 24, 42, 180, 0, 27, 21, 4, 79, 42, 180, 0, 9, 42, 180, 0, 27, 2, 79, 42]
def wLX3_addPayment_1 : List Nat := [89, 180, 0, 27, 4, 96, 181, 0, 27, 42, 180, 0, 27, 4, 100, 172]
theorem wX3_addPayment_0 : (cX3_addPayment.data.toList.map UInt8.toNat).drop 0 = wLX3_addPayment_0 ++ (wLX3_addPayment_1 ++ ([])) := by decide +kernel
theorem wX3_addPayment_1 : (cX3_addPayment.data.toList.map UInt8.toNat).drop 64 = wLX3_addPayment_1 ++ ([]) := hz_wn wX3_addPayment_0 rfl
theorem dX3_addPayment_0 : decode cX3_addPayment 0 = .ok (.aload_n 0, 1) := dq_42 (hz_wg wX3_addPayment_0 (j := 0) (n := 42) rfl)
theorem dX3_addPayment_1 : decode cX3_addPayment 1 = .ok (.getfield 27, 3) := dq_180 (hz_wg wX3_addPayment_0 (j := 1) (n := 180) rfl) (hz_wg wX3_addPayment_0 (j := 2) (n := 0) rfl) (hz_wg wX3_addPayment_0 (j := 3) (n := 27) rfl) rfl
theorem dX3_addPayment_4 : decode cX3_addPayment 4 = .ok (.sipush 600, 3) := dq_17 (hz_wg wX3_addPayment_0 (j := 4) (n := 17) rfl) (hz_wg wX3_addPayment_0 (j := 5) (n := 2) rfl) (hz_wg wX3_addPayment_0 (j := 6) (n := 88) rfl) (by decide)
theorem dX3_addPayment_7 : decode cX3_addPayment 7 = .ok (.if_icmp .lt 5, 3) := dq_161 (hz_wg wX3_addPayment_0 (j := 7) (n := 161) rfl) (hz_wg wX3_addPayment_0 (j := 8) (n := 0) rfl) (hz_wg wX3_addPayment_0 (j := 9) (n := 5) rfl) (by decide)
theorem dX3_addPayment_10 : decode cX3_addPayment 10 = .ok (.iconst (-1), 1) := dq_2 (hz_wg wX3_addPayment_0 (j := 10) (n := 2) rfl)
theorem dX3_addPayment_11 : decode cX3_addPayment 11 = .ok (.ireturn, 1) := dq_172 (hz_wg wX3_addPayment_0 (j := 11) (n := 172) rfl)
theorem dX3_addPayment_12 : decode cX3_addPayment 12 = .ok (.aload_n 0, 1) := dq_42 (hz_wg wX3_addPayment_0 (j := 12) (n := 42) rfl)
theorem dX3_addPayment_13 : decode cX3_addPayment 13 = .ok (.getfield 15, 3) := dq_180 (hz_wg wX3_addPayment_0 (j := 13) (n := 180) rfl) (hz_wg wX3_addPayment_0 (j := 14) (n := 0) rfl) (hz_wg wX3_addPayment_0 (j := 15) (n := 15) rfl) rfl
theorem dX3_addPayment_16 : decode cX3_addPayment 16 = .ok (.aload_n 0, 1) := dq_42 (hz_wg wX3_addPayment_0 (j := 16) (n := 42) rfl)
theorem dX3_addPayment_17 : decode cX3_addPayment 17 = .ok (.getfield 27, 3) := dq_180 (hz_wg wX3_addPayment_0 (j := 17) (n := 180) rfl) (hz_wg wX3_addPayment_0 (j := 18) (n := 0) rfl) (hz_wg wX3_addPayment_0 (j := 19) (n := 27) rfl) rfl
theorem dX3_addPayment_20 : decode cX3_addPayment 20 = .ok (.iload_n 1, 1) := dq_27 (hz_wg wX3_addPayment_0 (j := 20) (n := 27) rfl)
theorem dX3_addPayment_21 : decode cX3_addPayment 21 = .ok (.iastore, 1) := dq_79 (hz_wg wX3_addPayment_0 (j := 21) (n := 79) rfl)
theorem dX3_addPayment_22 : decode cX3_addPayment 22 = .ok (.aload_n 0, 1) := dq_42 (hz_wg wX3_addPayment_0 (j := 22) (n := 42) rfl)
theorem dX3_addPayment_23 : decode cX3_addPayment 23 = .ok (.getfield 18, 3) := dq_180 (hz_wg wX3_addPayment_0 (j := 23) (n := 180) rfl) (hz_wg wX3_addPayment_0 (j := 24) (n := 0) rfl) (hz_wg wX3_addPayment_0 (j := 25) (n := 18) rfl) rfl
theorem dX3_addPayment_26 : decode cX3_addPayment 26 = .ok (.aload_n 0, 1) := dq_42 (hz_wg wX3_addPayment_0 (j := 26) (n := 42) rfl)
theorem dX3_addPayment_27 : decode cX3_addPayment 27 = .ok (.getfield 27, 3) := dq_180 (hz_wg wX3_addPayment_0 (j := 27) (n := 180) rfl) (hz_wg wX3_addPayment_0 (j := 28) (n := 0) rfl) (hz_wg wX3_addPayment_0 (j := 29) (n := 27) rfl) rfl
theorem dX3_addPayment_30 : decode cX3_addPayment 30 = .ok (.iload_n 2, 1) := dq_28 (hz_wg wX3_addPayment_0 (j := 30) (n := 28) rfl)
theorem dX3_addPayment_31 : decode cX3_addPayment 31 = .ok (.iastore, 1) := dq_79 (hz_wg wX3_addPayment_0 (j := 31) (n := 79) rfl)
theorem dX3_addPayment_32 : decode cX3_addPayment 32 = .ok (.aload_n 0, 1) := dq_42 (hz_wg wX3_addPayment_0 (j := 32) (n := 42) rfl)
theorem dX3_addPayment_33 : decode cX3_addPayment 33 = .ok (.getfield 21, 3) := dq_180 (hz_wg wX3_addPayment_0 (j := 33) (n := 180) rfl) (hz_wg wX3_addPayment_0 (j := 34) (n := 0) rfl) (hz_wg wX3_addPayment_0 (j := 35) (n := 21) rfl) rfl
theorem dX3_addPayment_36 : decode cX3_addPayment 36 = .ok (.aload_n 0, 1) := dq_42 (hz_wg wX3_addPayment_0 (j := 36) (n := 42) rfl)
theorem dX3_addPayment_37 : decode cX3_addPayment 37 = .ok (.getfield 27, 3) := dq_180 (hz_wg wX3_addPayment_0 (j := 37) (n := 180) rfl) (hz_wg wX3_addPayment_0 (j := 38) (n := 0) rfl) (hz_wg wX3_addPayment_0 (j := 39) (n := 27) rfl) rfl
theorem dX3_addPayment_40 : decode cX3_addPayment 40 = .ok (.iload_n 3, 1) := dq_29 (hz_wg wX3_addPayment_0 (j := 40) (n := 29) rfl)
theorem dX3_addPayment_41 : decode cX3_addPayment 41 = .ok (.iastore, 1) := dq_79 (hz_wg wX3_addPayment_0 (j := 41) (n := 79) rfl)
theorem dX3_addPayment_42 : decode cX3_addPayment 42 = .ok (.aload_n 0, 1) := dq_42 (hz_wg wX3_addPayment_0 (j := 42) (n := 42) rfl)
theorem dX3_addPayment_43 : decode cX3_addPayment 43 = .ok (.getfield 24, 3) := dq_180 (hz_wg wX3_addPayment_0 (j := 43) (n := 180) rfl) (hz_wg wX3_addPayment_0 (j := 44) (n := 0) rfl) (hz_wg wX3_addPayment_0 (j := 45) (n := 24) rfl) rfl
theorem dX3_addPayment_46 : decode cX3_addPayment 46 = .ok (.aload_n 0, 1) := dq_42 (hz_wg wX3_addPayment_0 (j := 46) (n := 42) rfl)
theorem dX3_addPayment_47 : decode cX3_addPayment 47 = .ok (.getfield 27, 3) := dq_180 (hz_wg wX3_addPayment_0 (j := 47) (n := 180) rfl) (hz_wg wX3_addPayment_0 (j := 48) (n := 0) rfl) (hz_wg wX3_addPayment_0 (j := 49) (n := 27) rfl) rfl
theorem dX3_addPayment_50 : decode cX3_addPayment 50 = .ok (.iload 4, 2) := dq_21 (hz_wg wX3_addPayment_0 (j := 50) (n := 21) rfl) (hz_wg wX3_addPayment_0 (j := 51) (n := 4) rfl)
theorem dX3_addPayment_52 : decode cX3_addPayment 52 = .ok (.iastore, 1) := dq_79 (hz_wg wX3_addPayment_0 (j := 52) (n := 79) rfl)
theorem dX3_addPayment_53 : decode cX3_addPayment 53 = .ok (.aload_n 0, 1) := dq_42 (hz_wg wX3_addPayment_0 (j := 53) (n := 42) rfl)
theorem dX3_addPayment_54 : decode cX3_addPayment 54 = .ok (.getfield 9, 3) := dq_180 (hz_wg wX3_addPayment_0 (j := 54) (n := 180) rfl) (hz_wg wX3_addPayment_0 (j := 55) (n := 0) rfl) (hz_wg wX3_addPayment_0 (j := 56) (n := 9) rfl) rfl
theorem dX3_addPayment_57 : decode cX3_addPayment 57 = .ok (.aload_n 0, 1) := dq_42 (hz_wg wX3_addPayment_0 (j := 57) (n := 42) rfl)
theorem dX3_addPayment_58 : decode cX3_addPayment 58 = .ok (.getfield 27, 3) := dq_180 (hz_wg wX3_addPayment_0 (j := 58) (n := 180) rfl) (hz_wg wX3_addPayment_0 (j := 59) (n := 0) rfl) (hz_wg wX3_addPayment_0 (j := 60) (n := 27) rfl) rfl
theorem dX3_addPayment_61 : decode cX3_addPayment 61 = .ok (.iconst (-1), 1) := dq_2 (hz_wg wX3_addPayment_0 (j := 61) (n := 2) rfl)
theorem dX3_addPayment_62 : decode cX3_addPayment 62 = .ok (.iastore, 1) := dq_79 (hz_wg wX3_addPayment_0 (j := 62) (n := 79) rfl)
theorem dX3_addPayment_63 : decode cX3_addPayment 63 = .ok (.aload_n 0, 1) := dq_42 (hz_wg wX3_addPayment_0 (j := 63) (n := 42) rfl)
theorem dX3_addPayment_64 : decode cX3_addPayment 64 = .ok (.dup, 1) := dq_89 (hz_wg wX3_addPayment_1 (j := 0) (n := 89) rfl)
theorem dX3_addPayment_65 : decode cX3_addPayment 65 = .ok (.getfield 27, 3) := dq_180 (hz_wg wX3_addPayment_1 (j := 1) (n := 180) rfl) (hz_wg wX3_addPayment_1 (j := 2) (n := 0) rfl) (hz_wg wX3_addPayment_1 (j := 3) (n := 27) rfl) rfl
theorem dX3_addPayment_68 : decode cX3_addPayment 68 = .ok (.iconst 1, 1) := dq_4 (hz_wg wX3_addPayment_1 (j := 4) (n := 4) rfl)
theorem dX3_addPayment_69 : decode cX3_addPayment 69 = .ok (.iadd, 1) := dq_96 (hz_wg wX3_addPayment_1 (j := 5) (n := 96) rfl)
theorem dX3_addPayment_70 : decode cX3_addPayment 70 = .ok (.putfield 27, 3) := dq_181 (hz_wg wX3_addPayment_1 (j := 6) (n := 181) rfl) (hz_wg wX3_addPayment_1 (j := 7) (n := 0) rfl) (hz_wg wX3_addPayment_1 (j := 8) (n := 27) rfl) rfl
theorem dX3_addPayment_73 : decode cX3_addPayment 73 = .ok (.aload_n 0, 1) := dq_42 (hz_wg wX3_addPayment_1 (j := 9) (n := 42) rfl)
theorem dX3_addPayment_74 : decode cX3_addPayment 74 = .ok (.getfield 27, 3) := dq_180 (hz_wg wX3_addPayment_1 (j := 10) (n := 180) rfl) (hz_wg wX3_addPayment_1 (j := 11) (n := 0) rfl) (hz_wg wX3_addPayment_1 (j := 12) (n := 27) rfl) rfl
theorem dX3_addPayment_77 : decode cX3_addPayment 77 = .ok (.iconst 1, 1) := dq_4 (hz_wg wX3_addPayment_1 (j := 13) (n := 4) rfl)
theorem dX3_addPayment_78 : decode cX3_addPayment 78 = .ok (.isub, 1) := dq_100 (hz_wg wX3_addPayment_1 (j := 14) (n := 100) rfl)
theorem dX3_addPayment_79 : decode cX3_addPayment 79 = .ok (.ireturn, 1) := dq_172 (hz_wg wX3_addPayment_1 (j := 15) (n := 172) rfl)
set_option maxHeartbeats 4000000 in
set_option maxRecDepth 100000 in
theorem t_X3_addPayment (l : Launch) (dC : Nat → ClassId) (dI : Nat → Nat → Nat) (dA : Nat → ClassId) (L : List Nat) (h : hx_h) (sz : Nat) (x : Nat) (i1 : Int32) (i2 : Int32) (i3 : Int32) (i4 : Int32) (hT : hx_T T_tb L h) (gx : hx_g L h x 3)  : Met l yX3_addPayment (Cond.code yX3_addPayment cX3_addPayment 5 (some .int) :: hx_all) ({ frames := 0, cells := 0, slots := 0, locals := 0 }) (va_Pc [.ref x, .int i1, .int i2, .int i3, .int i4] (hx_B T_tb (P_ty dA) (dC, dI) vwCl L h sz)) (va_Qi (fun (r : Int32) (u : List Nat × hx_h) => (True) ∧ hx_T T_tb u.1 u.2 ∧ hx_S T_tb [(3, 0), (22, 0), (23, 0), (24, 0), (25, 0), (26, 0)] L h u.1 u.2) (hx_E T_tb (P_ty dA) (dC, dI) vwCl (hx_A L sz)) (hx_A L sz)) 0 0 (hx_A L sz) := by
  refine hx_met (lv := [(0, .ref x), (1, .int i1), (2, .int i2), (3, .int i3), (4, .int i4)]) (by decide +kernel) rfl (Nat.le_of_ble_eq_true rfl) rfl ?_
  intro p e s m below meth c hx hb hml hr hlk hts0 hown hin hsz hW ls hl
  have hts : ∀ w ∈ hx_all, w.before _ s = true := fun w hw => hts0 w (List.mem_cons_of_mem _ hw)
  have hown : s.vm.findClass "SmallCourt$Payments" = some m.cls := hown
  have hM : hx_S T_tb [(3, 0), (22, 0), (23, 0), (24, 0), (25, 0), (26, 0)] L h L h := hx_S.rf
  refine lv_aload_n hx hb dX3_addPayment_0 rfl (lv_at hl 0 rfl) ?_
  refine hx_geti hx hb hts hC_3 hown hW hT gx tt_3 0 (by decide) rfl kw_231 ⟨rfl, rfl, rfl⟩ dX3_addPayment_1 (fun x_1 ex_1 lx_1 ux_1 => ?_)
  have fx_1 := ex_1.symm
  refine lv_sipush (v := 600) hx hb dX3_addPayment_4 (by decide) ?_
  refine hb_icmp_lt (zx := x_1.toInt) (zy := 600) (tgt := 12) hx hb rfl (by decide) dX3_addPayment_7 (by decide) (fun c_2 => ?_) (fun c_2 => ?_)
  · skip
    refine lv_aload_n hx hb dX3_addPayment_12 rfl (lv_at hl 0 rfl) ?_
    refine hx_getn hx hb hts hC_3 hown hW hT gx tt_3 2 (by decide) rfl kw_235 ⟨rfl, rfl, rfl⟩ dX3_addPayment_13 (fun q_3 fq_3 gq_3 => ?_)
    refine lv_aload_n hx hb dX3_addPayment_16 rfl (lv_at hl 0 rfl) ?_
    refine hk_geti hx hb hts hC_3 hown hW gx tt_3 0 (by decide) rfl kw_231 ⟨rfl, rfl, rfl⟩ fx_1 dX3_addPayment_17 ?_
    refine lv_iload_n hx hb dX3_addPayment_20 rfl (lv_at hl 1 rfl) ?_
    refine hx_iast hx hb hW hT (hx_S.rf (M := [(23, 0)])) gq_3 tt_23 rfl ⟨by omega, by omega⟩ rfl (i32_r _) (List.mem_singleton.mpr rfl) dX3_addPayment_21 (fun H locs h_4 eh_4 hW hT hs => ?_)
    replace fx_1 := (hs.o gx trivial rfl).1.trans fx_1
    replace fq_3 := (hs.o gx trivial rfl).2.trans fq_3
    replace hM := hM.tr (hs.mono (by decide))
    replace gx := gx.S hs
    replace gq_3 := gq_3.S hs
    refine lv_aload_n hx hb dX3_addPayment_22 rfl (lv_at hl 0 rfl) ?_
    refine hx_getn hx hb hts hC_3 hown hW hT gx tt_3 3 (by decide) rfl kw_236 ⟨rfl, rfl, rfl⟩ dX3_addPayment_23 (fun q_5 fq_5 gq_5 => ?_)
    refine lv_aload_n hx hb dX3_addPayment_26 rfl (lv_at hl 0 rfl) ?_
    refine hk_geti hx hb hts hC_3 hown hW gx tt_3 0 (by decide) rfl kw_231 ⟨rfl, rfl, rfl⟩ fx_1 dX3_addPayment_27 ?_
    refine lv_iload_n hx hb dX3_addPayment_30 rfl (lv_at hl 2 rfl) ?_
    refine hx_iast hx hb hW hT (hx_S.rf (M := [(24, 0)])) gq_5 tt_24 rfl ⟨by omega, by omega⟩ rfl (i32_r _) (List.mem_singleton.mpr rfl) dX3_addPayment_31 (fun H locs h_6 eh_6 hW hT hs => ?_)
    replace fx_1 := (hs.o gx trivial rfl).1.trans fx_1
    replace fq_3 := (hs.o gx trivial rfl).2.trans fq_3
    replace fq_5 := (hs.o gx trivial rfl).2.trans fq_5
    replace hM := hM.tr (hs.mono (by decide))
    replace gx := gx.S hs
    replace gq_3 := gq_3.S hs
    replace gq_5 := gq_5.S hs
    refine lv_aload_n hx hb dX3_addPayment_32 rfl (lv_at hl 0 rfl) ?_
    refine hx_getn hx hb hts hC_3 hown hW hT gx tt_3 4 (by decide) rfl kw_237 ⟨rfl, rfl, rfl⟩ dX3_addPayment_33 (fun q_7 fq_7 gq_7 => ?_)
    refine lv_aload_n hx hb dX3_addPayment_36 rfl (lv_at hl 0 rfl) ?_
    refine hk_geti hx hb hts hC_3 hown hW gx tt_3 0 (by decide) rfl kw_231 ⟨rfl, rfl, rfl⟩ fx_1 dX3_addPayment_37 ?_
    refine lv_iload_n hx hb dX3_addPayment_40 rfl (lv_at hl 3 rfl) ?_
    refine hx_iast hx hb hW hT (hx_S.rf (M := [(25, 0)])) gq_7 tt_25 rfl ⟨by omega, by omega⟩ rfl (i32_r _) (List.mem_singleton.mpr rfl) dX3_addPayment_41 (fun H locs h_8 eh_8 hW hT hs => ?_)
    replace fx_1 := (hs.o gx trivial rfl).1.trans fx_1
    replace fq_3 := (hs.o gx trivial rfl).2.trans fq_3
    replace fq_5 := (hs.o gx trivial rfl).2.trans fq_5
    replace fq_7 := (hs.o gx trivial rfl).2.trans fq_7
    replace hM := hM.tr (hs.mono (by decide))
    replace gx := gx.S hs
    replace gq_3 := gq_3.S hs
    replace gq_5 := gq_5.S hs
    replace gq_7 := gq_7.S hs
    refine lv_aload_n hx hb dX3_addPayment_42 rfl (lv_at hl 0 rfl) ?_
    refine hx_getn hx hb hts hC_3 hown hW hT gx tt_3 5 (by decide) rfl kw_238 ⟨rfl, rfl, rfl⟩ dX3_addPayment_43 (fun q_9 fq_9 gq_9 => ?_)
    refine lv_aload_n hx hb dX3_addPayment_46 rfl (lv_at hl 0 rfl) ?_
    refine hk_geti hx hb hts hC_3 hown hW gx tt_3 0 (by decide) rfl kw_231 ⟨rfl, rfl, rfl⟩ fx_1 dX3_addPayment_47 ?_
    refine lv_iload hx hb dX3_addPayment_50 (lv_at hl 4 rfl) ?_
    refine hx_iast hx hb hW hT (hx_S.rf (M := [(26, 0)])) gq_9 tt_26 rfl ⟨by omega, by omega⟩ rfl (i32_r _) (List.mem_singleton.mpr rfl) dX3_addPayment_52 (fun H locs h_10 eh_10 hW hT hs => ?_)
    replace fx_1 := (hs.o gx trivial rfl).1.trans fx_1
    replace fq_3 := (hs.o gx trivial rfl).2.trans fq_3
    replace fq_5 := (hs.o gx trivial rfl).2.trans fq_5
    replace fq_7 := (hs.o gx trivial rfl).2.trans fq_7
    replace fq_9 := (hs.o gx trivial rfl).2.trans fq_9
    replace hM := hM.tr (hs.mono (by decide))
    replace gx := gx.S hs
    replace gq_3 := gq_3.S hs
    replace gq_5 := gq_5.S hs
    replace gq_7 := gq_7.S hs
    replace gq_9 := gq_9.S hs
    refine lv_aload_n hx hb dX3_addPayment_53 rfl (lv_at hl 0 rfl) ?_
    refine hx_getn hx hb hts hC_3 hown hW hT gx tt_3 1 (by decide) rfl kw_233 ⟨rfl, rfl, rfl⟩ dX3_addPayment_54 (fun q_11 fq_11 gq_11 => ?_)
    refine lv_aload_n hx hb dX3_addPayment_57 rfl (lv_at hl 0 rfl) ?_
    refine hk_geti hx hb hts hC_3 hown hW gx tt_3 0 (by decide) rfl kw_231 ⟨rfl, rfl, rfl⟩ fx_1 dX3_addPayment_58 ?_
    refine lv_iconst (v := -1) hx hb dX3_addPayment_61 (by decide) ?_
    refine hx_iast hx hb hW hT (hx_S.rf (M := [(22, 0)])) gq_11 tt_22 rfl ⟨by omega, by omega⟩ rfl (by decide) (List.mem_singleton.mpr rfl) dX3_addPayment_62 (fun H locs h_12 eh_12 hW hT hs => ?_)
    replace fx_1 := (hs.o gx trivial rfl).1.trans fx_1
    replace fq_3 := (hs.o gx trivial rfl).2.trans fq_3
    replace fq_5 := (hs.o gx trivial rfl).2.trans fq_5
    replace fq_7 := (hs.o gx trivial rfl).2.trans fq_7
    replace fq_9 := (hs.o gx trivial rfl).2.trans fq_9
    replace fq_11 := (hs.o gx trivial rfl).2.trans fq_11
    replace hM := hM.tr (hs.mono (by decide))
    replace gx := gx.S hs
    replace gq_3 := gq_3.S hs
    replace gq_5 := gq_5.S hs
    replace gq_7 := gq_7.S hs
    replace gq_9 := gq_9.S hs
    replace gq_11 := gq_11.S hs
    refine lv_aload_n hx hb dX3_addPayment_63 rfl (lv_at hl 0 rfl) ?_
    refine lv_dup hx hb dX3_addPayment_64 rfl ?_
    refine hk_geti hx hb hts hC_3 hown hW gx tt_3 0 (by decide) rfl kw_231 ⟨rfl, rfl, rfl⟩ fx_1 dX3_addPayment_65 ?_
    refine lv_iconst (v := 1) hx hb dX3_addPayment_68 (by decide) ?_
    refine lv_iadd hx hb dX3_addPayment_69 ?_
    have rg_13 := i32_r x_1
    refine lv_topi (fun x_14 ex_14 => ?_)
    have zx_14 : x_14.toInt = x_1.toInt + 1 := by rw [ex_14]; exact i32_add rfl (by decide) (by omega) (by omega)
    refine hx_puti hx hb hts hC_3 hown hW hT (hx_S.rf (M := [(3, 0)])) gx tt_3 0 (by decide) rfl kw_231 ⟨rfl, rfl, rfl⟩ rfl (x := x_14) ⟨by omega, by omega⟩ rfl rfl rfl (List.mem_singleton.mpr rfl) dX3_addPayment_70 (fun H locs h_15 eh_15 hW hT hs => ?_)
    replace fq_3 := (hs.o gx trivial rfl).2.trans fq_3
    replace fq_5 := (hs.o gx trivial rfl).2.trans fq_5
    replace fq_7 := (hs.o gx trivial rfl).2.trans fq_7
    replace fq_9 := (hs.o gx trivial rfl).2.trans fq_9
    replace fq_11 := (hs.o gx trivial rfl).2.trans fq_11
    replace hM := hM.tr (hs.mono (by decide))
    replace gx := gx.S hs
    replace gq_3 := gq_3.S hs
    replace gq_5 := gq_5.S hs
    replace gq_7 := gq_7.S hs
    replace gq_9 := gq_9.S hs
    replace gq_11 := gq_11.S hs
    have f_16 : h_15.2.1 x 0 = x_14 := by rw [eh_15]; exact hx_pi_at _ _ _ _
    refine lv_aload_n hx hb dX3_addPayment_73 rfl (lv_at hl 0 rfl) ?_
    refine hk_geti hx hb hts hC_3 hown hW gx tt_3 0 (by decide) rfl kw_231 ⟨rfl, rfl, rfl⟩ f_16 dX3_addPayment_74 ?_
    refine lv_iconst (v := 1) hx hb dX3_addPayment_77 (by decide) ?_
    refine lv_isub hx hb dX3_addPayment_78 ?_
    have rg_17 := i32_r x_14
    refine lv_topi (fun x_18 ex_18 => ?_)
    have zx_18 : x_18.toInt = x_14.toInt - 1 := by rw [ex_18]; exact i32_sub rfl (by decide) (by omega) (by omega)
    exact hx_reti hx hb hr hlk hW ⟨trivial, hT, hM⟩ dX3_addPayment_79
  · skip
    refine lv_iconst (v := -1) hx hb dX3_addPayment_10 (by decide) ?_
    exact hx_reti hx hb hr hlk hW ⟨trivial, hT, hM⟩ dX3_addPayment_11
