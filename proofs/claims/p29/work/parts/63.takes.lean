def wLX10_takes_0 : List Nat := [29, 54, 5, 3, 54, 6, 3, 54, 7, 21, 7, 42, 180, 1, 111, 162, 0, 87, 21, 5, 158, 0, 82, 42, 180, 0, 84, 21, 7, 46, 27, 160, 0, 65, 42, 180, 0, 81, 21, 7, 46, 28, 160, 0, 54, 42, 21, 7, 182, 1, 163, 154, 0, 6, 167, 0, 42, 21, 5, 42, 180, 1, 145, 184]
def wLX10_takes_1 : List Nat := [1, 192, 54, 8, 21, 4, 153, 0, 16, 42, 21, 7, 42, 180, 0, 232, 21, 8, 182, 1, 169, 87, 21, 5, 21, 8, 100, 54, 5, 132, 6, 1, 132, 7, 1, 167, 255, 166, 21, 6, 172]
theorem wX10_takes_0 : (cX10_takes.data.toList.map UInt8.toNat).drop 0 = wLX10_takes_0 ++ (wLX10_takes_1 ++ ([])) := by decide +kernel
theorem wX10_takes_1 : (cX10_takes.data.toList.map UInt8.toNat).drop 64 = wLX10_takes_1 ++ ([]) := hz_wn wX10_takes_0 rfl
theorem dX10_takes_0 : decode cX10_takes 0 = .ok (.iload_n 3, 1) := dq_29 (hz_wg wX10_takes_0 (j := 0) (n := 29) rfl)
theorem dX10_takes_1 : decode cX10_takes 1 = .ok (.istore 5, 2) := dq_54 (hz_wg wX10_takes_0 (j := 1) (n := 54) rfl) (hz_wg wX10_takes_0 (j := 2) (n := 5) rfl)
theorem dX10_takes_3 : decode cX10_takes 3 = .ok (.iconst 0, 1) := dq_3 (hz_wg wX10_takes_0 (j := 3) (n := 3) rfl)
theorem dX10_takes_4 : decode cX10_takes 4 = .ok (.istore 6, 2) := dq_54 (hz_wg wX10_takes_0 (j := 4) (n := 54) rfl) (hz_wg wX10_takes_0 (j := 5) (n := 6) rfl)
theorem dX10_takes_6 : decode cX10_takes 6 = .ok (.iconst 0, 1) := dq_3 (hz_wg wX10_takes_0 (j := 6) (n := 3) rfl)
theorem dX10_takes_7 : decode cX10_takes 7 = .ok (.istore 7, 2) := dq_54 (hz_wg wX10_takes_0 (j := 7) (n := 54) rfl) (hz_wg wX10_takes_0 (j := 8) (n := 7) rfl)
theorem dX10_takes_9 : decode cX10_takes 9 = .ok (.iload 7, 2) := dq_21 (hz_wg wX10_takes_0 (j := 9) (n := 21) rfl) (hz_wg wX10_takes_0 (j := 10) (n := 7) rfl)
theorem dX10_takes_11 : decode cX10_takes 11 = .ok (.aload_n 0, 1) := dq_42 (hz_wg wX10_takes_0 (j := 11) (n := 42) rfl)
theorem dX10_takes_12 : decode cX10_takes 12 = .ok (.getfield 367, 3) := dq_180 (hz_wg wX10_takes_0 (j := 12) (n := 180) rfl) (hz_wg wX10_takes_0 (j := 13) (n := 1) rfl) (hz_wg wX10_takes_0 (j := 14) (n := 111) rfl) rfl
theorem dX10_takes_15 : decode cX10_takes 15 = .ok (.if_icmp .ge 87, 3) := dq_162 (hz_wg wX10_takes_0 (j := 15) (n := 162) rfl) (hz_wg wX10_takes_0 (j := 16) (n := 0) rfl) (hz_wg wX10_takes_0 (j := 17) (n := 87) rfl) (by decide)
theorem dX10_takes_18 : decode cX10_takes 18 = .ok (.iload 5, 2) := dq_21 (hz_wg wX10_takes_0 (j := 18) (n := 21) rfl) (hz_wg wX10_takes_0 (j := 19) (n := 5) rfl)
theorem dX10_takes_20 : decode cX10_takes 20 = .ok (.ifCond .le 82, 3) := dq_158 (hz_wg wX10_takes_0 (j := 20) (n := 158) rfl) (hz_wg wX10_takes_0 (j := 21) (n := 0) rfl) (hz_wg wX10_takes_0 (j := 22) (n := 82) rfl) (by decide)
theorem dX10_takes_23 : decode cX10_takes 23 = .ok (.aload_n 0, 1) := dq_42 (hz_wg wX10_takes_0 (j := 23) (n := 42) rfl)
theorem dX10_takes_24 : decode cX10_takes 24 = .ok (.getfield 84, 3) := dq_180 (hz_wg wX10_takes_0 (j := 24) (n := 180) rfl) (hz_wg wX10_takes_0 (j := 25) (n := 0) rfl) (hz_wg wX10_takes_0 (j := 26) (n := 84) rfl) rfl
theorem dX10_takes_27 : decode cX10_takes 27 = .ok (.iload 7, 2) := dq_21 (hz_wg wX10_takes_0 (j := 27) (n := 21) rfl) (hz_wg wX10_takes_0 (j := 28) (n := 7) rfl)
theorem dX10_takes_29 : decode cX10_takes 29 = .ok (.iaload, 1) := dq_46 (hz_wg wX10_takes_0 (j := 29) (n := 46) rfl)
theorem dX10_takes_30 : decode cX10_takes 30 = .ok (.iload_n 1, 1) := dq_27 (hz_wg wX10_takes_0 (j := 30) (n := 27) rfl)
theorem dX10_takes_31 : decode cX10_takes 31 = .ok (.if_icmp .ne 65, 3) := dq_160 (hz_wg wX10_takes_0 (j := 31) (n := 160) rfl) (hz_wg wX10_takes_0 (j := 32) (n := 0) rfl) (hz_wg wX10_takes_0 (j := 33) (n := 65) rfl) (by decide)
theorem dX10_takes_34 : decode cX10_takes 34 = .ok (.aload_n 0, 1) := dq_42 (hz_wg wX10_takes_0 (j := 34) (n := 42) rfl)
theorem dX10_takes_35 : decode cX10_takes 35 = .ok (.getfield 81, 3) := dq_180 (hz_wg wX10_takes_0 (j := 35) (n := 180) rfl) (hz_wg wX10_takes_0 (j := 36) (n := 0) rfl) (hz_wg wX10_takes_0 (j := 37) (n := 81) rfl) rfl
theorem dX10_takes_38 : decode cX10_takes 38 = .ok (.iload 7, 2) := dq_21 (hz_wg wX10_takes_0 (j := 38) (n := 21) rfl) (hz_wg wX10_takes_0 (j := 39) (n := 7) rfl)
theorem dX10_takes_40 : decode cX10_takes 40 = .ok (.iaload, 1) := dq_46 (hz_wg wX10_takes_0 (j := 40) (n := 46) rfl)
theorem dX10_takes_41 : decode cX10_takes 41 = .ok (.iload_n 2, 1) := dq_28 (hz_wg wX10_takes_0 (j := 41) (n := 28) rfl)
theorem dX10_takes_42 : decode cX10_takes 42 = .ok (.if_icmp .ne 54, 3) := dq_160 (hz_wg wX10_takes_0 (j := 42) (n := 160) rfl) (hz_wg wX10_takes_0 (j := 43) (n := 0) rfl) (hz_wg wX10_takes_0 (j := 44) (n := 54) rfl) (by decide)
theorem dX10_takes_45 : decode cX10_takes 45 = .ok (.aload_n 0, 1) := dq_42 (hz_wg wX10_takes_0 (j := 45) (n := 42) rfl)
theorem dX10_takes_46 : decode cX10_takes 46 = .ok (.iload 7, 2) := dq_21 (hz_wg wX10_takes_0 (j := 46) (n := 21) rfl) (hz_wg wX10_takes_0 (j := 47) (n := 7) rfl)
theorem dX10_takes_48 : decode cX10_takes 48 = .ok (.invokevirtual 419, 3) := dq_182 (hz_wg wX10_takes_0 (j := 48) (n := 182) rfl) (hz_wg wX10_takes_0 (j := 49) (n := 1) rfl) (hz_wg wX10_takes_0 (j := 50) (n := 163) rfl) rfl
theorem dX10_takes_51 : decode cX10_takes 51 = .ok (.ifCond .ne 6, 3) := dq_154 (hz_wg wX10_takes_0 (j := 51) (n := 154) rfl) (hz_wg wX10_takes_0 (j := 52) (n := 0) rfl) (hz_wg wX10_takes_0 (j := 53) (n := 6) rfl) (by decide)
theorem dX10_takes_54 : decode cX10_takes 54 = .ok (.goto 42, 3) := dq_167 (hz_wg wX10_takes_0 (j := 54) (n := 167) rfl) (hz_wg wX10_takes_0 (j := 55) (n := 0) rfl) (hz_wg wX10_takes_0 (j := 56) (n := 42) rfl) (by decide)
theorem dX10_takes_57 : decode cX10_takes 57 = .ok (.iload 5, 2) := dq_21 (hz_wg wX10_takes_0 (j := 57) (n := 21) rfl) (hz_wg wX10_takes_0 (j := 58) (n := 5) rfl)
theorem dX10_takes_59 : decode cX10_takes 59 = .ok (.aload_n 0, 1) := dq_42 (hz_wg wX10_takes_0 (j := 59) (n := 42) rfl)
theorem dX10_takes_60 : decode cX10_takes 60 = .ok (.getfield 401, 3) := dq_180 (hz_wg wX10_takes_0 (j := 60) (n := 180) rfl) (hz_wg wX10_takes_0 (j := 61) (n := 1) rfl) (hz_wg wX10_takes_0 (j := 62) (n := 145) rfl) rfl
theorem dX10_takes_63 : decode cX10_takes 63 = .ok (.invokestatic 448, 3) := dq_184 (hz_wg wX10_takes_0 (j := 63) (n := 184) rfl) (hz_wg wX10_takes_1 (j := 0) (n := 1) rfl) (hz_wg wX10_takes_1 (j := 1) (n := 192) rfl) rfl
theorem dX10_takes_66 : decode cX10_takes 66 = .ok (.istore 8, 2) := dq_54 (hz_wg wX10_takes_1 (j := 2) (n := 54) rfl) (hz_wg wX10_takes_1 (j := 3) (n := 8) rfl)
theorem dX10_takes_68 : decode cX10_takes 68 = .ok (.iload 4, 2) := dq_21 (hz_wg wX10_takes_1 (j := 4) (n := 21) rfl) (hz_wg wX10_takes_1 (j := 5) (n := 4) rfl)
theorem dX10_takes_70 : decode cX10_takes 70 = .ok (.ifCond .eq 16, 3) := dq_153 (hz_wg wX10_takes_1 (j := 6) (n := 153) rfl) (hz_wg wX10_takes_1 (j := 7) (n := 0) rfl) (hz_wg wX10_takes_1 (j := 8) (n := 16) rfl) (by decide)
theorem dX10_takes_86 : decode cX10_takes 86 = .ok (.iload 5, 2) := dq_21 (hz_wg wX10_takes_1 (j := 22) (n := 21) rfl) (hz_wg wX10_takes_1 (j := 23) (n := 5) rfl)
theorem dX10_takes_88 : decode cX10_takes 88 = .ok (.iload 8, 2) := dq_21 (hz_wg wX10_takes_1 (j := 24) (n := 21) rfl) (hz_wg wX10_takes_1 (j := 25) (n := 8) rfl)
theorem dX10_takes_90 : decode cX10_takes 90 = .ok (.isub, 1) := dq_100 (hz_wg wX10_takes_1 (j := 26) (n := 100) rfl)
theorem dX10_takes_91 : decode cX10_takes 91 = .ok (.istore 5, 2) := dq_54 (hz_wg wX10_takes_1 (j := 27) (n := 54) rfl) (hz_wg wX10_takes_1 (j := 28) (n := 5) rfl)
theorem dX10_takes_93 : decode cX10_takes 93 = .ok (.iinc 6 1, 3) := dq_132 (hz_wg wX10_takes_1 (j := 29) (n := 132) rfl) (hz_wg wX10_takes_1 (j := 30) (n := 6) rfl) (hz_wg wX10_takes_1 (j := 31) (n := 1) rfl) (by decide)
theorem dX10_takes_96 : decode cX10_takes 96 = .ok (.iinc 7 1, 3) := dq_132 (hz_wg wX10_takes_1 (j := 32) (n := 132) rfl) (hz_wg wX10_takes_1 (j := 33) (n := 7) rfl) (hz_wg wX10_takes_1 (j := 34) (n := 1) rfl) (by decide)
theorem dX10_takes_99 : decode cX10_takes 99 = .ok (.goto (-90), 3) := dq_167 (hz_wg wX10_takes_1 (j := 35) (n := 167) rfl) (hz_wg wX10_takes_1 (j := 36) (n := 255) rfl) (hz_wg wX10_takes_1 (j := 37) (n := 166) rfl) (by decide)
theorem dX10_takes_102 : decode cX10_takes 102 = .ok (.iload 6, 2) := dq_21 (hz_wg wX10_takes_1 (j := 38) (n := 21) rfl) (hz_wg wX10_takes_1 (j := 39) (n := 6) rfl)
theorem dX10_takes_104 : decode cX10_takes 104 = .ok (.ireturn, 1) := dq_172 (hz_wg wX10_takes_1 (j := 40) (n := 172) rfl)
set_option maxHeartbeats 4000000 in
set_option maxRecDepth 100000 in
theorem t_X10_takes_0 (l : Launch) (dC : Nat → ClassId) (dI : Nat → Nat → Nat) (dA : Nat → ClassId) (L : List Nat) (h : hx_h) (sz : Nat) (x : Nat) (i1 : Int32) (i2 : Int32) (i3 : Int32) (hT : hx_T T_tb L h) (gx : hx_g L h x 10) (qod : Nat) (gqod : hx_g L h qod 83) (f_x_48 : h.2.2 x 48 = some qod) (qsv : Nat) (gqsv : hx_g L h qsv 85) (f_x_50 : h.2.2 x 50 = some qsv) (qsz : Nat) (gqsz : hx_g L h qsz 84) (f_x_49 : h.2.2 x 49 = some qsz) (qgd : Nat) (gqgd : hx_g L h qgd 91) (f_x_56 : h.2.2 x 56 = some qgd) (qow : Nat) (gqow : hx_g L h qow 90) (f_x_55 : h.2.2 x 55 = some qow) (qpl : Nat) (gqpl : hx_g L h qpl 79) (f_x_44 : h.2.2 x 44 = some qpl) (qru : Nat) (gqru : hx_g L h qru 50) (f_x_3 : h.2.2 x 3 = some qru) (qpo : Nat) (gqpo : hx_g L h qpo 93) (f_x_60 : h.2.2 x 60 = some qpo) (qpd : Nat) (gqpd : hx_g L h qpd 94) (f_x_61 : h.2.2 x 61 = some qpd) (qps : Nat) (gqps : hx_g L h qps 95) (f_x_62 : h.2.2 x 62 = some qps) (qpk : Nat) (gqpk : hx_g L h qpk 96) (f_x_63 : h.2.2 x 63 = some qpk) (qpt : Nat) (gqpt : hx_g L h qpt 97) (f_x_64 : h.2.2 x 64 = some qpt) (qag : Nat) (gqag : hx_g L h qag 73) (f_x_38 : h.2.2 x 38 = some qag) (qby : Nat) (gqby : hx_g L h qby 72) (f_x_37 : h.2.2 x 37 = some qby) (odf : Nat → Int32) (af_qod : h.2.1 qod = odf) (svf : Nat → Int32) (af_qsv : h.2.1 qsv = svf) (szf : Nat → Int32) (af_qsz : h.2.1 qsz = szf) (gdf : Nat → Int32) (af_qgd : h.2.1 qgd = gdf) (owf : Nat → Int32) (af_qow : h.2.1 qow = owf) (plf : Nat → Int32) (af_qpl : h.2.1 qpl = plf) (rf : Nat → Int32) (af_qru : h.2.1 qru = rf) (pof : Nat → Int32) (af_qpo : h.2.1 qpo = pof) (pdf : Nat → Int32) (af_qpd : h.2.1 qpd = pdf) (psm : Nat → Int32) (af_qps : h.2.1 qps = psm) (pkf : Nat → Int32) (af_qpk : h.2.1 qpk = pkf) (pst : Nat → Int32) (af_qpt : h.2.1 qpt = pst) (agf : Nat → Int32) (af_qag : h.2.1 qag = agf) (byf : Nat → Int32) (af_qby : h.2.1 qby = byf) (nw0 : Int32) (f_x_0 : h.2.1 x 0 = nw0) (pm0 : Int32) (f_x_59 : h.2.1 x 59 = pm0) (c0 : Int32) (f_x_36 : h.2.1 x 36 = c0) (hi3 : 0 ≤ i3.toInt ∧ i3.toInt ≤ 2147483647) : Met l yX10_takes (Cond.code yX10_takes cX10_takes 9 (some .int) :: hx_all) ({ frames := 3, cells := 0, slots := 0, locals := 71 }) (va_Pc [.ref x, .int i1, .int i2, .int i3, .int (0 : Int32)] (hx_B T_tb (P_ty dA) (dC, dI) vwCl L h sz)) (va_Qi (fun (r : Int32) (u : List Nat × hx_h) => (0 ≤ r.toInt ∧ r.toInt ≤ 100 ∧ r.toInt = (hx_tl (fun c => hx_Rn odf svf szf gdf owf plf rf pof pdf psm pkf pst nw0.toInt pm0.toInt.toNat c) (hx_mt agf byf i1.toInt i2.toInt) i3.toInt (c0.toInt).toNat).2) ∧ hx_T T_tb u.1 u.2 ∧ hx_S T_tb [(10, 67), (10, 68), (10, 69), (10, 70), (10, 71)] L h u.1 u.2) (hx_E T_tb (P_ty dA) (dC, dI) vwCl (hx_A L sz)) (hx_A L sz)) 0 0 (hx_A L sz) := by
  refine hx_met (lv := [(0, .ref x), (1, .int i1), (2, .int i2), (3, .int i3), (4, .int (0 : Int32))]) (by decide +kernel) rfl (Nat.le_of_ble_eq_true rfl) rfl ?_
  intro p e s m below meth c hx hb hml hr hlk hts0 hown hin hsz hW ls hl
  have hts : ∀ w ∈ hx_all, w.before _ s = true := fun w hw => hts0 w (List.mem_cons_of_mem _ hw)
  have hown : s.vm.findClass "SmallCourtModel" = some m.cls := hown
  have hM : hx_S T_tb [(10, 67), (10, 68), (10, 69), (10, 70), (10, 71)] L h L h := hx_S.rf
  have b_nw0 := hT.gi gx tt_10 (k := 0) rfl
  rw [f_x_0] at b_nw0
  have b_nw0 : 0 ≤ nw0.toInt ∧ nw0.toInt ≤ 7999 := b_nw0
  have b_pm0 := hT.gi gx tt_10 (k := 59) rfl
  rw [f_x_59] at b_pm0
  have b_pm0 : 0 ≤ pm0.toInt ∧ pm0.toInt ≤ 600 := b_pm0
  have b_c0 := hT.gi gx tt_10 (k := 36) rfl
  rw [f_x_36] at b_c0
  have b_c0 : 0 ≤ c0.toInt ∧ c0.toInt ≤ 100 := b_c0
  refine lv_iload_n hx hb dX10_takes_0 rfl (lv_at hl 3 rfl) ?_
  refine lv_istore (lv' := [(5, .int i3), (0, .ref x), (1, .int i1), (2, .int i2), (3, .int i3), (4, .int (0 : Int32))]) hx hb dX10_takes_1 hl (by decide) rfl (fun ls hl => ?_)
  refine lv_iconst (v := 0) hx hb dX10_takes_3 (by decide) ?_
  refine lv_istore (lv' := [(6, .int (0 : Int32)), (5, .int i3), (0, .ref x), (1, .int i1), (2, .int i2), (3, .int i3), (4, .int (0 : Int32))]) hx hb dX10_takes_4 hl (by decide) rfl (fun ls hl => ?_)
  refine lv_iconst (v := 0) hx hb dX10_takes_6 (by decide) ?_
  refine lv_istore (lv' := [(7, .int (0 : Int32)), (6, .int (0 : Int32)), (5, .int i3), (0, .ref x), (1, .int i1), (2, .int i2), (3, .int i3), (4, .int (0 : Int32))]) hx hb dX10_takes_7 hl (by decide) rfl (fun ls hl => ?_)
  have loop9 : ∀ (n9 : Nat) (iv9_5 iv9_6 iv9_7 : Int32) (H : Heap) (locs : List Loc) (hL1 : List Nat) (hl1 : hx_h), 0 ≤ iv9_5.toInt → iv9_5.toInt ≤ 2147483647 → 0 ≤ iv9_6.toInt → iv9_6.toInt ≤ 100 → 0 ≤ iv9_7.toInt → iv9_7.toInt ≤ 100 → (hx_tl (fun c => hx_Rn odf svf szf gdf owf plf rf pof pdf psm pkf pst nw0.toInt pm0.toInt.toNat c) (hx_mt agf byf i1.toInt i2.toInt) i3.toInt ((iv9_7.toInt : Int)).toNat = (iv9_5.toInt, iv9_6.toInt)) → (iv9_7.toInt ≤ c0.toInt) → (iv9_6.toInt ≤ iv9_7.toInt) → ∀ (ls : Array Slot), 100 - iv9_7.toInt < (n9 : Int) → hx_W T_tb (P_ty dA) (dC, dI) vwCl (hx_A L sz) s.heap hL1 hl1 s H locs → hx_T T_tb hL1 hl1 → hx_S T_tb [(10, 67), (10, 68), (10, 69), (10, 70), (10, 71)] L h hL1 hl1 → lv_has ls 9 [(7, .int iv9_7), (6, .int iv9_6), (5, .int iv9_5), (0, .ref x), (1, .int i1), (2, .int i2), (3, .int i3), (4, .int (0 : Int32))] → W p l e ({ frames := 3, cells := 0, slots := 0, locals := 71 }) s m ([.ref x, .int i1, .int i2, .int i3, .int (0 : Int32)] : List Value).toArray below meth c H locs 0 0 (MQ below (va_Qi (fun (r : Int32) (u : List Nat × hx_h) => (0 ≤ r.toInt ∧ r.toInt ≤ 100 ∧ r.toInt = (hx_tl (fun c => hx_Rn odf svf szf gdf owf plf rf pof pdf psm pkf pst nw0.toInt pm0.toInt.toNat c) (hx_mt agf byf i1.toInt i2.toInt) i3.toInt (c0.toInt).toNat).2) ∧ hx_T T_tb u.1 u.2 ∧ hx_S T_tb [(10, 67), (10, 68), (10, 69), (10, 70), (10, 71)] L h u.1 u.2) (hx_E T_tb (P_ty dA) (dC, dI) vwCl (hx_A L sz)) (hx_A L sz)) ([.ref x, .int i1, .int i2, .int i3, .int (0 : Int32)] : List Value).toArray s 0 0 (hx_A L sz)) (F0 m 9 ls []) := by
    intro n9
    induction n9 with
    | zero => intro iv9_5 iv9_6 iv9_7 H locs hL1 hl1 bliv9_5 buiv9_5 bliv9_6 buiv9_6 bliv9_7 buiv9_7 vi9_0 vi9_1 vi9_2 ls hn9; exfalso; omega
    | succ n9 ih9 =>
      intro iv9_5 iv9_6 iv9_7 H locs hL1 hl1 bliv9_5 buiv9_5 bliv9_6 buiv9_6 bliv9_7 buiv9_7 vi9_0 vi9_1 vi9_2 ls hn9 hW hT hM   hl
      refine lv_iload hx hb dX10_takes_9 (lv_at hl 0 rfl) ?_
      refine lv_aload_n hx hb dX10_takes_11 rfl (lv_at hl 3 rfl) ?_
      refine hk_geti hx hb hts hC_10 hown hW (gx.S hM) tt_10 36 (by decide) rfl kw_1179 ⟨rfl, rfl, rfl⟩ ((hM.o gx trivial rfl).1.trans f_x_36) dX10_takes_12 ?_
      refine hb_icmp_ge (zx := iv9_7.toInt) (zy := c0.toInt) (tgt := 102) hx hb rfl rfl dX10_takes_15 (by decide) (fun c_1 => ?_) (fun c_1 => ?_)
      · skip
        refine lv_iload hx hb dX10_takes_102 (lv_at hl 1 rfl) ?_
        exact hx_reti hx hb hr hlk hW ⟨⟨by omega, by omega, (hx_tl_end vi9_0 (by omega) (by omega) (by omega)).symm⟩, hT, hM⟩ dX10_takes_104
      · skip
        refine lv_iload hx hb dX10_takes_18 (lv_at hl 2 rfl) ?_
        refine hb_if_le (zx := iv9_5.toInt) (tgt := 102) hx hb rfl dX10_takes_20 (by decide) (fun c_2 => ?_) (fun c_2 => ?_)
        · skip
          refine lv_iload hx hb dX10_takes_102 (lv_at hl 1 rfl) ?_
          exact hx_reti hx hb hr hlk hW ⟨⟨by omega, by omega, (hx_tl_end vi9_0 (by omega) (by omega) (by omega)).symm⟩, hT, hM⟩ dX10_takes_104
        · skip
          refine lv_aload_n hx hb dX10_takes_23 rfl (lv_at hl 3 rfl) ?_
          refine hk_getr hx hb hts hC_10 hown hW (gx.S hM) tt_10 38 (by decide) rfl kw_1181 ⟨rfl, rfl, rfl⟩ ((hM.o gx trivial rfl).2.trans f_x_38) dX10_takes_24 ?_
          refine lv_iload hx hb dX10_takes_27 (lv_at hl 0 rfl) ?_
          refine hx_iald hx hb hW hT (gqag.S hM) tt_73 rfl ⟨by omega, by omega⟩ dX10_takes_29 (fun x_3 ex_3 lx_3 ux_3 => ?_)
          have ax_3 : x_3 = agf iv9_7.toNatClampNeg := ex_3.trans (congrFun (hx_afS hM gqag rfl af_qag) _)
          refine lv_iload_n hx hb dX10_takes_30 rfl (lv_at hl 4 rfl) ?_
          refine hb_icmp_ne (zx := x_3.toInt) (zy := i1.toInt) (tgt := 96) hx hb rfl rfl dX10_takes_31 (by decide) (fun c_4 => ?_) (fun c_4 => ?_)
          · skip
            obtain ⟨x_5, ex_5⟩ : ∃ y : Int32, y = iv9_7 + Int32.ofInt 1 := ⟨_, rfl⟩
            have rg_6 := i32_r iv9_7
            have zx_5 : x_5.toInt = iv9_7.toInt + (1) := by rw [ex_5]; exact i32_add rfl (by decide) (by omega) (by omega)
            refine lv_iinc (v := x_5) (lv' := [(7, .int x_5), (6, .int iv9_6), (5, .int iv9_5), (0, .ref x), (1, .int i1), (2, .int i2), (3, .int i3), (4, .int (0 : Int32))]) hx hb dX10_takes_96 hl (k := 0) rfl ex_5.symm (by decide) rfl (fun ls hl => ?_)
            refine lv_goto (tgt := 9) hx hb dX10_takes_99 (by decide) ?_
            exact ih9 iv9_5 iv9_6 x_5 _ _ hL1 hl1 (by omega) (by omega) (by omega) (by omega) (by omega) (by omega) (hx_tl_no vi9_0 (by omega) zx_5 (fun q => by have w := (hx_mt_e q.2.1).1; rw [show agf iv9_7.toInt.toNat = x_3 from ax_3.symm] at w; omega)) (by omega) (by omega) ls (by omega) hW hT hM   (lv_sub hl [0, 1, 2, 3, 4, 5, 6, 7] rfl)
          · skip
            refine lv_aload_n hx hb dX10_takes_34 rfl (lv_at hl 3 rfl) ?_
            refine hk_getr hx hb hts hC_10 hown hW (gx.S hM) tt_10 37 (by decide) rfl kw_1180 ⟨rfl, rfl, rfl⟩ ((hM.o gx trivial rfl).2.trans f_x_37) dX10_takes_35 ?_
            refine lv_iload hx hb dX10_takes_38 (lv_at hl 0 rfl) ?_
            refine hx_iald hx hb hW hT (gqby.S hM) tt_72 rfl ⟨by omega, by omega⟩ dX10_takes_40 (fun x_7 ex_7 lx_7 ux_7 => ?_)
            have ax_7 : x_7 = byf iv9_7.toNatClampNeg := ex_7.trans (congrFun (hx_afS hM gqby rfl af_qby) _)
            refine lv_iload_n hx hb dX10_takes_41 rfl (lv_at hl 5 rfl) ?_
            refine hb_icmp_ne (zx := x_7.toInt) (zy := i2.toInt) (tgt := 96) hx hb rfl rfl dX10_takes_42 (by decide) (fun c_8 => ?_) (fun c_8 => ?_)
            · skip
              obtain ⟨x_9, ex_9⟩ : ∃ y : Int32, y = iv9_7 + Int32.ofInt 1 := ⟨_, rfl⟩
              have rg_10 := i32_r iv9_7
              have zx_9 : x_9.toInt = iv9_7.toInt + (1) := by rw [ex_9]; exact i32_add rfl (by decide) (by omega) (by omega)
              refine lv_iinc (v := x_9) (lv' := [(7, .int x_9), (6, .int iv9_6), (5, .int iv9_5), (0, .ref x), (1, .int i1), (2, .int i2), (3, .int i3), (4, .int (0 : Int32))]) hx hb dX10_takes_96 hl (k := 0) rfl ex_9.symm (by decide) rfl (fun ls hl => ?_)
              refine lv_goto (tgt := 9) hx hb dX10_takes_99 (by decide) ?_
              exact ih9 iv9_5 iv9_6 x_9 _ _ hL1 hl1 (by omega) (by omega) (by omega) (by omega) (by omega) (by omega) (hx_tl_no vi9_0 (by omega) zx_9 (fun q => by have w := (hx_mt_e q.2.1).2; rw [show byf iv9_7.toInt.toNat = x_7 from ax_7.symm] at w; omega)) (by omega) (by omega) ls (by omega) hW hT hM   (lv_sub hl [0, 1, 2, 3, 4, 5, 6, 7] rfl)
            · skip
              refine lv_aload_n hx hb dX10_takes_45 rfl (lv_at hl 3 rfl) ?_
              refine lv_iload hx hb dX10_takes_46 (lv_at hl 0 rfl) ?_
              refine hx_goi (hx_runV (As := [.int iv9_7]) (rest := []) ⟨hx, hb, hml, hown, hts⟩ hW (gx.S hM) tt_10 (T := TX10) (N := 98) rfl (t_X10_isOpen_2 l dC dI dA hL1 hl1 H.size x iv9_7 hT (gx.S hM) qod (gqod.S hM) ((hM.o gx trivial rfl).2.trans f_x_48) qsv (gqsv.S hM) ((hM.o gx trivial rfl).2.trans f_x_50) qsz (gqsz.S hM) ((hM.o gx trivial rfl).2.trans f_x_49) qgd (gqgd.S hM) ((hM.o gx trivial rfl).2.trans f_x_56) qow (gqow.S hM) ((hM.o gx trivial rfl).2.trans f_x_55) qpl (gqpl.S hM) ((hM.o gx trivial rfl).2.trans f_x_44) qru (gqru.S hM) ((hM.o gx trivial rfl).2.trans f_x_3) qpo (gqpo.S hM) ((hM.o gx trivial rfl).2.trans f_x_60) qpd (gqpd.S hM) ((hM.o gx trivial rfl).2.trans f_x_61) qps (gqps.S hM) ((hM.o gx trivial rfl).2.trans f_x_62) qpk (gqpk.S hM) ((hM.o gx trivial rfl).2.trans f_x_63) qpt (gqpt.S hM) ((hM.o gx trivial rfl).2.trans f_x_64) odf (hx_afS hM gqod rfl af_qod) svf (hx_afS hM gqsv rfl af_qsv) szf (hx_afS hM gqsz rfl af_qsz) gdf (hx_afS hM gqgd rfl af_qgd) owf (hx_afS hM gqow rfl af_qow) plf (hx_afS hM gqpl rfl af_qpl) rf (hx_afS hM gqru rfl af_qru) pof (hx_afS hM gqpo rfl af_qpo) pdf (hx_afS hM gqpd rfl af_qpd) psm (hx_afS hM gqps rfl af_qps) pkf (hx_afS hM gqpk rfl af_qpk) pst (hx_afS hM gqpt rfl af_qpt) nw0 ((hM.o gx trivial rfl).1.trans f_x_0) pm0 ((hM.o gx trivial rfl).1.trans f_x_59) ⟨by omega, by omega⟩) (cwV 1 hts (hx_gV kw_1637 kw_1634 kw_1636 kw_81 kw_103) rfl rfl rfl (by decide +kernel) ⟨Nat.le_of_ble_eq_true rfl, Nat.le_of_ble_eq_true rfl⟩) rfl hl.1 rfl (Nat.le_of_ble_eq_true rfl) dX10_takes_48 ⟨Nat.le_of_ble_eq_true rfl, Nat.le_of_ble_eq_true rfl⟩) hW (fun r_13 L_11 h_12 H locs p_14 hW => ?_)
              obtain ⟨⟨w_16, fw_16, hr_15⟩, hT, hs⟩ := p_14
              replace hT : hx_T T_tb L_11 h_12 := hT
              replace hs : hx_S T_tb [(10, 67), (10, 68), (10, 69), (10, 70), (10, 71)] hL1 hl1 L_11 h_12 := hs
              replace ex_3 := ex_3.trans (hs.a (gqag.S hM) rfl _).1.symm
              replace ex_7 := ex_7.trans (hs.a (gqby.S hM) rfl _).1.symm
              replace hM := hM.tr (hs.mono (by decide))
              have fw_16 : h_12.2.1 x 68 = w_16 := fw_16
              have bw_16 := hT.gi (gx.S hM) tt_10 (k := 68) rfl
              rw [fw_16] at bw_16
              have bw_16 : 0 ≤ w_16.toInt ∧ w_16.toInt ≤ 610000 := bw_16
              have hrs : w_16.toInt = hx_Rn odf svf szf gdf owf plf rf pof pdf psm pkf pst nw0.toInt pm0.toInt.toNat iv9_7.toInt := hr_15.2.2
              have hio := hr_15.2.1
              refine hb_if_ne (zx := r_13.toInt) (tgt := 57) hx hb rfl dX10_takes_51 (by decide) (fun c_17 => ?_) (fun c_17 => ?_)
              · skip
                have hmt : hx_mt agf byf i1.toInt i2.toInt iv9_7.toInt = true := hx_mt_t (by rw [show agf iv9_7.toInt.toNat = x_3 from ax_3.symm]; omega) (by rw [show byf iv9_7.toInt.toNat = x_7 from ax_7.symm]; omega)
                have hRp : 0 < hx_Rn odf svf szf gdf owf plf rf pof pdf psm pkf pst nw0.toInt pm0.toInt.toNat iv9_7.toInt := by rw [← hrs]; omega
                refine lv_iload hx hb dX10_takes_57 (lv_at hl 2 rfl) ?_
                refine lv_aload_n hx hb dX10_takes_59 rfl (lv_at hl 3 rfl) ?_
                refine hk_geti hx hb hts hC_10 hown hW (gx.S hM) tt_10 68 (by decide) rfl kw_1211 ⟨rfl, rfl, rfl⟩ fw_16 dX10_takes_60 ?_
                refine hx_goi (hx_runS (As := [.int iv9_5, .int w_16]) (rest := []) ⟨hx, hb, hml, hown, hts⟩ hW (t_X10_lesser_3 l dC dI dA L_11 h_12 H.size iv9_5 w_16 hT) (va_cwS 2 hts (hx_gS kw_1705 kw_1703 kw_1704 kw_103) rfl rfl rfl (by decide +kernel) ⟨Nat.le_of_ble_eq_true rfl, Nat.le_of_ble_eq_true rfl⟩) rfl hl.1 rfl (Nat.le_of_ble_eq_true rfl) dX10_takes_63 ⟨Nat.le_of_ble_eq_true rfl, Nat.le_of_ble_eq_true rfl⟩) hW (fun r_20 L_18 h_19 H locs p_21 hW => ?_)
                obtain ⟨hr_22, hT, hs⟩ := p_21
                replace hT : hx_T T_tb L_18 h_19 := hT
                replace hs : hx_S T_tb [] L_11 h_12 L_18 h_19 := hs
                replace fw_16 := (hs.o (gx.S hM) trivial rfl).1.trans fw_16
                replace ex_3 := ex_3.trans (hs.a (gqag.S hM) rfl _).1.symm
                replace ex_7 := ex_7.trans (hs.a (gqby.S hM) rfl _).1.symm
                replace hM := hM.tr (hs.mono (by decide))
                refine lv_istore (lv' := [(8, .int r_20), (7, .int iv9_7), (6, .int iv9_6), (5, .int iv9_5), (0, .ref x), (1, .int i1), (2, .int i2), (3, .int i3), (4, .int (0 : Int32))]) hx hb dX10_takes_66 hl (by decide) rfl (fun ls hl => ?_)
                have hof : (r_20.toInt = iv9_5.toInt ∧ iv9_5.toInt < hx_Rn odf svf szf gdf owf plf rf pof pdf psm pkf pst nw0.toInt pm0.toInt.toNat iv9_7.toInt) ∨ (r_20.toInt = hx_Rn odf svf szf gdf owf plf rf pof pdf psm pkf pst nw0.toInt pm0.toInt.toNat iv9_7.toInt ∧ hx_Rn odf svf szf gdf owf plf rf pof pdf psm pkf pst nw0.toInt pm0.toInt.toNat iv9_7.toInt ≤ iv9_5.toInt) := by rw [← hrs]; exact hr_22.elim (fun w => Or.inl ⟨congrArg Int32.toInt w.1, w.2⟩) (fun w => Or.inr ⟨congrArg Int32.toInt w.1, w.2⟩)
                have hle : r_20.toInt ≤ iv9_5.toInt ∧ 0 ≤ r_20.toInt ∧ r_20.toInt ≤ w_16.toInt := by rw [← hrs] at hof; omega
                refine lv_iload hx hb dX10_takes_68 (lv_at hl 8 rfl) ?_
                refine hb_if_eq (zx := 0) (tgt := 86) hx hb (by decide) dX10_takes_70 (by decide) (fun c_23 => ?_) (fun c_23 => absurd c_23 (by decide))
                refine lv_iload hx hb dX10_takes_86 (lv_at hl 3 rfl) ?_
                refine lv_iload hx hb dX10_takes_88 (lv_at hl 0 rfl) ?_
                refine lv_isub hx hb dX10_takes_90 ?_
                have rg_24 := i32_r iv9_5
                have rg_25 := i32_r r_20
                refine lv_topi (fun x_26 ex_26 => ?_)
                have zx_26 : x_26.toInt = iv9_5.toInt - r_20.toInt := by rw [ex_26]; exact i32_sub rfl rfl (by omega) (by omega)
                refine lv_istore (lv' := [(5, .int x_26), (8, .int r_20), (7, .int iv9_7), (6, .int iv9_6), (0, .ref x), (1, .int i1), (2, .int i2), (3, .int i3), (4, .int (0 : Int32))]) hx hb dX10_takes_91 hl (by decide) rfl (fun ls hl => ?_)
                obtain ⟨x_27, ex_27⟩ : ∃ y : Int32, y = iv9_6 + Int32.ofInt 1 := ⟨_, rfl⟩
                have rg_28 := i32_r iv9_6
                have zx_27 : x_27.toInt = iv9_6.toInt + (1) := by rw [ex_27]; exact i32_add rfl (by decide) (by omega) (by omega)
                refine lv_iinc (v := x_27) (lv' := [(6, .int x_27), (5, .int x_26), (8, .int r_20), (7, .int iv9_7), (0, .ref x), (1, .int i1), (2, .int i2), (3, .int i3), (4, .int (0 : Int32))]) hx hb dX10_takes_93 hl (k := 3) rfl ex_27.symm (by decide) rfl (fun ls hl => ?_)
                obtain ⟨x_29, ex_29⟩ : ∃ y : Int32, y = iv9_7 + Int32.ofInt 1 := ⟨_, rfl⟩
                have rg_30 := i32_r iv9_7
                have zx_29 : x_29.toInt = iv9_7.toInt + (1) := by rw [ex_29]; exact i32_add rfl (by decide) (by omega) (by omega)
                refine lv_iinc (v := x_29) (lv' := [(7, .int x_29), (6, .int x_27), (5, .int x_26), (8, .int r_20), (0, .ref x), (1, .int i1), (2, .int i2), (3, .int i3), (4, .int (0 : Int32))]) hx hb dX10_takes_96 hl (k := 3) rfl ex_29.symm (by decide) rfl (fun ls hl => ?_)
                refine lv_goto (tgt := 9) hx hb dX10_takes_99 (by decide) ?_
                exact ih9 x_26 x_27 x_29 _ _ L_18 h_19 (by omega) (by omega) (by omega) (by omega) (by omega) (by omega) (hx_tl_yes vi9_0 (by omega) zx_29 (by omega) hmt hRp hof zx_26 zx_27) (by omega) (by omega) ls (by omega) hW hT hM   (lv_sub hl [0, 1, 2, 4, 5, 6, 7, 8] rfl)
              · skip
                refine lv_goto (tgt := 96) hx hb dX10_takes_54 (by decide) ?_
                obtain ⟨x_31, ex_31⟩ : ∃ y : Int32, y = iv9_7 + Int32.ofInt 1 := ⟨_, rfl⟩
                have rg_32 := i32_r iv9_7
                have zx_31 : x_31.toInt = iv9_7.toInt + (1) := by rw [ex_31]; exact i32_add rfl (by decide) (by omega) (by omega)
                refine lv_iinc (v := x_31) (lv' := [(7, .int x_31), (6, .int iv9_6), (5, .int iv9_5), (0, .ref x), (1, .int i1), (2, .int i2), (3, .int i3), (4, .int (0 : Int32))]) hx hb dX10_takes_96 hl (k := 0) rfl ex_31.symm (by decide) rfl (fun ls hl => ?_)
                refine lv_goto (tgt := 9) hx hb dX10_takes_99 (by decide) ?_
                exact ih9 iv9_5 iv9_6 x_31 _ _ L_11 h_12 (by omega) (by omega) (by omega) (by omega) (by omega) (by omega) (hx_tl_no vi9_0 (by omega) zx_31 (fun q => by have w := q.2.2; rw [← hrs] at w; omega)) (by omega) (by omega) ls (by omega) hW hT hM   (lv_sub hl [0, 1, 2, 3, 4, 5, 6, 7] rfl)
  have zk_0 : (0 : Int32).toInt = 0 := by decide
  have zk_0 : (0 : Int32).toInt = 0 := by decide
  exact loop9 101 i3 (0 : Int32) (0 : Int32) _ _ L h (by omega) (by omega) (by decide) (by decide) (by decide) (by decide) rfl (by omega) (by omega) ls (by omega) hW hT hM   hl

theorem dX10_takes_73 : decode cX10_takes 73 = .ok (.aload_n 0, 1) := dq_42 (hz_wg wX10_takes_1 (j := 9) (n := 42) rfl)
theorem dX10_takes_74 : decode cX10_takes 74 = .ok (.iload 7, 2) := dq_21 (hz_wg wX10_takes_1 (j := 10) (n := 21) rfl) (hz_wg wX10_takes_1 (j := 11) (n := 7) rfl)
theorem dX10_takes_76 : decode cX10_takes 76 = .ok (.aload_n 0, 1) := dq_42 (hz_wg wX10_takes_1 (j := 12) (n := 42) rfl)
theorem dX10_takes_77 : decode cX10_takes 77 = .ok (.getfield 232, 3) := dq_180 (hz_wg wX10_takes_1 (j := 13) (n := 180) rfl) (hz_wg wX10_takes_1 (j := 14) (n := 0) rfl) (hz_wg wX10_takes_1 (j := 15) (n := 232) rfl) rfl
theorem dX10_takes_80 : decode cX10_takes 80 = .ok (.iload 8, 2) := dq_21 (hz_wg wX10_takes_1 (j := 16) (n := 21) rfl) (hz_wg wX10_takes_1 (j := 17) (n := 8) rfl)
theorem dX10_takes_82 : decode cX10_takes 82 = .ok (.invokevirtual 425, 3) := dq_182 (hz_wg wX10_takes_1 (j := 18) (n := 182) rfl) (hz_wg wX10_takes_1 (j := 19) (n := 1) rfl) (hz_wg wX10_takes_1 (j := 20) (n := 169) rfl) rfl
theorem dX10_takes_85 : decode cX10_takes 85 = .ok (.pop, 1) := dq_87 (hz_wg wX10_takes_1 (j := 21) (n := 87) rfl)
set_option maxHeartbeats 4000000 in
set_option maxRecDepth 100000 in
theorem t_X10_takes_1 (l : Launch) (dC : Nat → ClassId) (dI : Nat → Nat → Nat) (dA : Nat → ClassId) (L : List Nat) (h : hx_h) (sz : Nat) (x : Nat) (i1 : Int32) (i2 : Int32) (i3 : Int32) (hT : hx_T T_tb L h) (gx : hx_g L h x 10) (qod : Nat) (gqod : hx_g L h qod 83) (f_x_48 : h.2.2 x 48 = some qod) (qsv : Nat) (gqsv : hx_g L h qsv 85) (f_x_50 : h.2.2 x 50 = some qsv) (qsz : Nat) (gqsz : hx_g L h qsz 84) (f_x_49 : h.2.2 x 49 = some qsz) (qgd : Nat) (gqgd : hx_g L h qgd 91) (f_x_56 : h.2.2 x 56 = some qgd) (qow : Nat) (gqow : hx_g L h qow 90) (f_x_55 : h.2.2 x 55 = some qow) (qpl : Nat) (gqpl : hx_g L h qpl 79) (f_x_44 : h.2.2 x 44 = some qpl) (qru : Nat) (gqru : hx_g L h qru 50) (f_x_3 : h.2.2 x 3 = some qru) (qpo : Nat) (gqpo : hx_g L h qpo 93) (f_x_60 : h.2.2 x 60 = some qpo) (qpd : Nat) (gqpd : hx_g L h qpd 94) (f_x_61 : h.2.2 x 61 = some qpd) (qps : Nat) (gqps : hx_g L h qps 95) (f_x_62 : h.2.2 x 62 = some qps) (qpk : Nat) (gqpk : hx_g L h qpk 96) (f_x_63 : h.2.2 x 63 = some qpk) (qpt : Nat) (gqpt : hx_g L h qpt 97) (f_x_64 : h.2.2 x 64 = some qpt) (qag : Nat) (gqag : hx_g L h qag 73) (f_x_38 : h.2.2 x 38 = some qag) (qby : Nat) (gqby : hx_g L h qby 72) (f_x_37 : h.2.2 x 37 = some qby) (odf : Nat → Int32) (af_qod : h.2.1 qod = odf) (svf : Nat → Int32) (af_qsv : h.2.1 qsv = svf) (szf : Nat → Int32) (af_qsz : h.2.1 qsz = szf) (gdf : Nat → Int32) (af_qgd : h.2.1 qgd = gdf) (owf : Nat → Int32) (af_qow : h.2.1 qow = owf) (plf : Nat → Int32) (af_qpl : h.2.1 qpl = plf) (rf : Nat → Int32) (af_qru : h.2.1 qru = rf) (pof : Nat → Int32) (af_qpo : h.2.1 qpo = pof) (pdf : Nat → Int32) (af_qpd : h.2.1 qpd = pdf) (psm : Nat → Int32) (af_qps : h.2.1 qps = psm) (pkf : Nat → Int32) (af_qpk : h.2.1 qpk = pkf) (pst : Nat → Int32) (af_qpt : h.2.1 qpt = pst) (agf : Nat → Int32) (af_qag : h.2.1 qag = agf) (byf : Nat → Int32) (af_qby : h.2.1 qby = byf) (nw0 : Int32) (f_x_0 : h.2.1 x 0 = nw0) (pm0 : Int32) (f_x_59 : h.2.1 x 59 = pm0) (c0 : Int32) (f_x_36 : h.2.1 x 36 = c0) (hi3 : 0 ≤ i3.toInt ∧ i3.toInt ≤ 2147483647) (hrm : pm0.toInt + (hx_tl (fun c => hx_Rn odf svf szf gdf owf plf rf pof pdf psm pkf pst nw0.toInt pm0.toInt.toNat c) (hx_mt agf byf i1.toInt i2.toInt) i3.toInt (c0.toInt).toNat).2 ≤ 600) : Met l yX10_takes (Cond.code yX10_takes cX10_takes 9 (some .int) :: hx_all) ({ frames := 3, cells := 0, slots := 0, locals := 71 }) (va_Pc [.ref x, .int i1, .int i2, .int i3, .int (1 : Int32)] (hx_B T_tb (P_ty dA) (dC, dI) vwCl L h sz)) (va_Qi (fun (r : Int32) (u : List Nat × hx_h) => (∃ (p1 : Int32) (pof1 : Nat → Int32) (pdf1 : Nat → Int32) (psm1 : Nat → Int32) (pkf1 : Nat → Int32) (pst1 : Nat → Int32), u.2.2.1 x 59 = p1 ∧ u.2.2.1 qpo = pof1 ∧ u.2.2.1 qpd = pdf1 ∧ u.2.2.1 qps = psm1 ∧ u.2.2.1 qpk = pkf1 ∧ u.2.2.1 qpt = pst1 ∧ (p1.toInt = pm0.toInt + (hx_tl (fun c => hx_Rn odf svf szf gdf owf plf rf pof pdf psm pkf pst nw0.toInt pm0.toInt.toNat c) (hx_mt agf byf i1.toInt i2.toInt) i3.toInt (c0.toInt).toNat).2 ∧ ∀ c : Int, (hx_mt agf byf i1.toInt i2.toInt) c = false → hx_Rn odf svf szf gdf owf plf rf pof1 pdf1 psm1 pkf1 pst1 nw0.toInt p1.toInt.toNat c = hx_Rn odf svf szf gdf owf plf rf pof pdf psm pkf pst nw0.toInt pm0.toInt.toNat c)) ∧ hx_T T_tb u.1 u.2 ∧ hx_S T_tb [(10, 59), (10, 67), (10, 68), (10, 69), (10, 70), (10, 71), (93, 0), (94, 0), (95, 0), (96, 0), (97, 0)] L h u.1 u.2) (hx_E T_tb (P_ty dA) (dC, dI) vwCl (hx_A L sz)) (hx_A L sz)) 0 0 (hx_A L sz) := by
  refine hx_met (lv := [(0, .ref x), (1, .int i1), (2, .int i2), (3, .int i3), (4, .int (1 : Int32))]) (by decide +kernel) rfl (Nat.le_of_ble_eq_true rfl) rfl ?_
  intro p e s m below meth c hx hb hml hr hlk hts0 hown hin hsz hW ls hl
  have hts : ∀ w ∈ hx_all, w.before _ s = true := fun w hw => hts0 w (List.mem_cons_of_mem _ hw)
  have hown : s.vm.findClass "SmallCourtModel" = some m.cls := hown
  have hM : hx_S T_tb [(10, 59), (10, 67), (10, 68), (10, 69), (10, 70), (10, 71), (93, 0), (94, 0), (95, 0), (96, 0), (97, 0)] L h L h := hx_S.rf
  have b_nw0 := hT.gi gx tt_10 (k := 0) rfl
  rw [f_x_0] at b_nw0
  have b_nw0 : 0 ≤ nw0.toInt ∧ nw0.toInt ≤ 7999 := b_nw0
  have b_pm0 := hT.gi gx tt_10 (k := 59) rfl
  rw [f_x_59] at b_pm0
  have b_pm0 : 0 ≤ pm0.toInt ∧ pm0.toInt ≤ 600 := b_pm0
  have b_c0 := hT.gi gx tt_10 (k := 36) rfl
  rw [f_x_36] at b_c0
  have b_c0 : 0 ≤ c0.toInt ∧ c0.toInt ≤ 100 := b_c0
  refine lv_iload_n hx hb dX10_takes_0 rfl (lv_at hl 3 rfl) ?_
  refine lv_istore (lv' := [(5, .int i3), (0, .ref x), (1, .int i1), (2, .int i2), (3, .int i3), (4, .int (1 : Int32))]) hx hb dX10_takes_1 hl (by decide) rfl (fun ls hl => ?_)
  refine lv_iconst (v := 0) hx hb dX10_takes_3 (by decide) ?_
  refine lv_istore (lv' := [(6, .int (0 : Int32)), (5, .int i3), (0, .ref x), (1, .int i1), (2, .int i2), (3, .int i3), (4, .int (1 : Int32))]) hx hb dX10_takes_4 hl (by decide) rfl (fun ls hl => ?_)
  refine lv_iconst (v := 0) hx hb dX10_takes_6 (by decide) ?_
  refine lv_istore (lv' := [(7, .int (0 : Int32)), (6, .int (0 : Int32)), (5, .int i3), (0, .ref x), (1, .int i1), (2, .int i2), (3, .int i3), (4, .int (1 : Int32))]) hx hb dX10_takes_7 hl (by decide) rfl (fun ls hl => ?_)
  have loop9 : ∀ (n9 : Nat) (iv9_5 iv9_6 iv9_7 fw9_x_59 : Int32) (ia9_qpo ia9_qpd ia9_qps ia9_qpk ia9_qpt : Nat → Int32) (H : Heap) (locs : List Loc) (hL1 : List Nat) (hl1 : hx_h), 0 ≤ iv9_5.toInt → iv9_5.toInt ≤ 2147483647 → 0 ≤ iv9_6.toInt → iv9_6.toInt ≤ 100 → 0 ≤ iv9_7.toInt → iv9_7.toInt ≤ 100 → 0 ≤ fw9_x_59.toInt → fw9_x_59.toInt ≤ 600 → (hx_tl (fun c => hx_Rn odf svf szf gdf owf plf rf pof pdf psm pkf pst nw0.toInt pm0.toInt.toNat c) (hx_mt agf byf i1.toInt i2.toInt) i3.toInt ((iv9_7.toInt : Int)).toNat = (iv9_5.toInt, iv9_6.toInt)) → (iv9_7.toInt ≤ c0.toInt) → (iv9_6.toInt ≤ iv9_7.toInt) → (∀ c : Int, (iv9_7.toInt ≤ c ∨ (hx_mt agf byf i1.toInt i2.toInt) c = false) → hx_Rn odf svf szf gdf owf plf rf ia9_qpo ia9_qpd ia9_qps ia9_qpk ia9_qpt nw0.toInt fw9_x_59.toInt.toNat c = hx_Rn odf svf szf gdf owf plf rf pof pdf psm pkf pst nw0.toInt pm0.toInt.toNat c) → (fw9_x_59.toInt = pm0.toInt + iv9_6.toInt) → ∀ (ls : Array Slot), 100 - iv9_7.toInt < (n9 : Int) → hx_W T_tb (P_ty dA) (dC, dI) vwCl (hx_A L sz) s.heap hL1 hl1 s H locs → hx_T T_tb hL1 hl1 → hx_S T_tb [(10, 59), (10, 67), (10, 68), (10, 69), (10, 70), (10, 71), (93, 0), (94, 0), (95, 0), (96, 0), (97, 0)] L h hL1 hl1 → hl1.2.1 x 59 = fw9_x_59 → hl1.2.1 qpo = ia9_qpo → hl1.2.1 qpd = ia9_qpd → hl1.2.1 qps = ia9_qps → hl1.2.1 qpk = ia9_qpk → hl1.2.1 qpt = ia9_qpt → lv_has ls 9 [(7, .int iv9_7), (6, .int iv9_6), (5, .int iv9_5), (0, .ref x), (1, .int i1), (2, .int i2), (3, .int i3), (4, .int (1 : Int32))] → W p l e ({ frames := 3, cells := 0, slots := 0, locals := 71 }) s m ([.ref x, .int i1, .int i2, .int i3, .int (1 : Int32)] : List Value).toArray below meth c H locs 0 0 (MQ below (va_Qi (fun (r : Int32) (u : List Nat × hx_h) => (∃ (p1 : Int32) (pof1 : Nat → Int32) (pdf1 : Nat → Int32) (psm1 : Nat → Int32) (pkf1 : Nat → Int32) (pst1 : Nat → Int32), u.2.2.1 x 59 = p1 ∧ u.2.2.1 qpo = pof1 ∧ u.2.2.1 qpd = pdf1 ∧ u.2.2.1 qps = psm1 ∧ u.2.2.1 qpk = pkf1 ∧ u.2.2.1 qpt = pst1 ∧ (p1.toInt = pm0.toInt + (hx_tl (fun c => hx_Rn odf svf szf gdf owf plf rf pof pdf psm pkf pst nw0.toInt pm0.toInt.toNat c) (hx_mt agf byf i1.toInt i2.toInt) i3.toInt (c0.toInt).toNat).2 ∧ ∀ c : Int, (hx_mt agf byf i1.toInt i2.toInt) c = false → hx_Rn odf svf szf gdf owf plf rf pof1 pdf1 psm1 pkf1 pst1 nw0.toInt p1.toInt.toNat c = hx_Rn odf svf szf gdf owf plf rf pof pdf psm pkf pst nw0.toInt pm0.toInt.toNat c)) ∧ hx_T T_tb u.1 u.2 ∧ hx_S T_tb [(10, 59), (10, 67), (10, 68), (10, 69), (10, 70), (10, 71), (93, 0), (94, 0), (95, 0), (96, 0), (97, 0)] L h u.1 u.2) (hx_E T_tb (P_ty dA) (dC, dI) vwCl (hx_A L sz)) (hx_A L sz)) ([.ref x, .int i1, .int i2, .int i3, .int (1 : Int32)] : List Value).toArray s 0 0 (hx_A L sz)) (F0 m 9 ls []) := by
    intro n9
    induction n9 with
    | zero => intro iv9_5 iv9_6 iv9_7 fw9_x_59 ia9_qpo ia9_qpd ia9_qps ia9_qpk ia9_qpt H locs hL1 hl1 bliv9_5 buiv9_5 bliv9_6 buiv9_6 bliv9_7 buiv9_7 blfw9_x_59 bufw9_x_59 vi9_0 vi9_1 vi9_2 vi9_3 vi9_4 ls hn9; exfalso; omega
    | succ n9 ih9 =>
      intro iv9_5 iv9_6 iv9_7 fw9_x_59 ia9_qpo ia9_qpd ia9_qps ia9_qpk ia9_qpt H locs hL1 hl1 bliv9_5 buiv9_5 bliv9_6 buiv9_6 bliv9_7 buiv9_7 blfw9_x_59 bufw9_x_59 vi9_0 vi9_1 vi9_2 vi9_3 vi9_4 ls hn9 hW hT hM ffw9_x_59 nia9_qpo nia9_qpd nia9_qps nia9_qpk nia9_qpt hl
      refine lv_iload hx hb dX10_takes_9 (lv_at hl 0 rfl) ?_
      refine lv_aload_n hx hb dX10_takes_11 rfl (lv_at hl 3 rfl) ?_
      refine hk_geti hx hb hts hC_10 hown hW (gx.S hM) tt_10 36 (by decide) rfl kw_1179 ⟨rfl, rfl, rfl⟩ ((hM.o gx trivial rfl).1.trans f_x_36) dX10_takes_12 ?_
      refine hb_icmp_ge (zx := iv9_7.toInt) (zy := c0.toInt) (tgt := 102) hx hb rfl rfl dX10_takes_15 (by decide) (fun c_1 => ?_) (fun c_1 => ?_)
      · skip
        refine lv_iload hx hb dX10_takes_102 (lv_at hl 1 rfl) ?_
        exact hx_reti hx hb hr hlk hW ⟨⟨fw9_x_59, ia9_qpo, ia9_qpd, ia9_qps, ia9_qpk, ia9_qpt, ffw9_x_59, nia9_qpo, nia9_qpd, nia9_qps, nia9_qpk, nia9_qpt, ⟨by rw [hx_tl_end vi9_0 (by omega) (by omega) (by omega)]; omega, fun c hc => vi9_3 c (Or.inr hc)⟩⟩, hT, hM⟩ dX10_takes_104
      · skip
        refine lv_iload hx hb dX10_takes_18 (lv_at hl 2 rfl) ?_
        refine hb_if_le (zx := iv9_5.toInt) (tgt := 102) hx hb rfl dX10_takes_20 (by decide) (fun c_2 => ?_) (fun c_2 => ?_)
        · skip
          refine lv_iload hx hb dX10_takes_102 (lv_at hl 1 rfl) ?_
          exact hx_reti hx hb hr hlk hW ⟨⟨fw9_x_59, ia9_qpo, ia9_qpd, ia9_qps, ia9_qpk, ia9_qpt, ffw9_x_59, nia9_qpo, nia9_qpd, nia9_qps, nia9_qpk, nia9_qpt, ⟨by rw [hx_tl_end vi9_0 (by omega) (by omega) (by omega)]; omega, fun c hc => vi9_3 c (Or.inr hc)⟩⟩, hT, hM⟩ dX10_takes_104
        · skip
          refine lv_aload_n hx hb dX10_takes_23 rfl (lv_at hl 3 rfl) ?_
          refine hk_getr hx hb hts hC_10 hown hW (gx.S hM) tt_10 38 (by decide) rfl kw_1181 ⟨rfl, rfl, rfl⟩ ((hM.o gx trivial rfl).2.trans f_x_38) dX10_takes_24 ?_
          refine lv_iload hx hb dX10_takes_27 (lv_at hl 0 rfl) ?_
          refine hx_iald hx hb hW hT (gqag.S hM) tt_73 rfl ⟨by omega, by omega⟩ dX10_takes_29 (fun x_3 ex_3 lx_3 ux_3 => ?_)
          have ax_3 : x_3 = agf iv9_7.toNatClampNeg := ex_3.trans (congrFun (hx_afS hM gqag rfl af_qag) _)
          refine lv_iload_n hx hb dX10_takes_30 rfl (lv_at hl 4 rfl) ?_
          refine hb_icmp_ne (zx := x_3.toInt) (zy := i1.toInt) (tgt := 96) hx hb rfl rfl dX10_takes_31 (by decide) (fun c_4 => ?_) (fun c_4 => ?_)
          · skip
            obtain ⟨x_5, ex_5⟩ : ∃ y : Int32, y = iv9_7 + Int32.ofInt 1 := ⟨_, rfl⟩
            have rg_6 := i32_r iv9_7
            have zx_5 : x_5.toInt = iv9_7.toInt + (1) := by rw [ex_5]; exact i32_add rfl (by decide) (by omega) (by omega)
            refine lv_iinc (v := x_5) (lv' := [(7, .int x_5), (6, .int iv9_6), (5, .int iv9_5), (0, .ref x), (1, .int i1), (2, .int i2), (3, .int i3), (4, .int (1 : Int32))]) hx hb dX10_takes_96 hl (k := 0) rfl ex_5.symm (by decide) rfl (fun ls hl => ?_)
            refine lv_goto (tgt := 9) hx hb dX10_takes_99 (by decide) ?_
            exact ih9 iv9_5 iv9_6 x_5 fw9_x_59 ia9_qpo ia9_qpd ia9_qps ia9_qpk ia9_qpt _ _ hL1 hl1 (by omega) (by omega) (by omega) (by omega) (by omega) (by omega) (by omega) (by omega) (hx_tl_no vi9_0 (by omega) zx_5 (fun q => by have w := (hx_mt_e q.2.1).1; rw [show agf iv9_7.toInt.toNat = x_3 from ax_3.symm] at w; omega)) (by omega) (by omega) (fun c hc => vi9_3 c (hc.imp (fun w => by omega) id)) (by omega) ls (by omega) hW hT hM ffw9_x_59 nia9_qpo nia9_qpd nia9_qps nia9_qpk nia9_qpt (lv_sub hl [0, 1, 2, 3, 4, 5, 6, 7] rfl)
          · skip
            refine lv_aload_n hx hb dX10_takes_34 rfl (lv_at hl 3 rfl) ?_
            refine hk_getr hx hb hts hC_10 hown hW (gx.S hM) tt_10 37 (by decide) rfl kw_1180 ⟨rfl, rfl, rfl⟩ ((hM.o gx trivial rfl).2.trans f_x_37) dX10_takes_35 ?_
            refine lv_iload hx hb dX10_takes_38 (lv_at hl 0 rfl) ?_
            refine hx_iald hx hb hW hT (gqby.S hM) tt_72 rfl ⟨by omega, by omega⟩ dX10_takes_40 (fun x_7 ex_7 lx_7 ux_7 => ?_)
            have ax_7 : x_7 = byf iv9_7.toNatClampNeg := ex_7.trans (congrFun (hx_afS hM gqby rfl af_qby) _)
            refine lv_iload_n hx hb dX10_takes_41 rfl (lv_at hl 5 rfl) ?_
            refine hb_icmp_ne (zx := x_7.toInt) (zy := i2.toInt) (tgt := 96) hx hb rfl rfl dX10_takes_42 (by decide) (fun c_8 => ?_) (fun c_8 => ?_)
            · skip
              obtain ⟨x_9, ex_9⟩ : ∃ y : Int32, y = iv9_7 + Int32.ofInt 1 := ⟨_, rfl⟩
              have rg_10 := i32_r iv9_7
              have zx_9 : x_9.toInt = iv9_7.toInt + (1) := by rw [ex_9]; exact i32_add rfl (by decide) (by omega) (by omega)
              refine lv_iinc (v := x_9) (lv' := [(7, .int x_9), (6, .int iv9_6), (5, .int iv9_5), (0, .ref x), (1, .int i1), (2, .int i2), (3, .int i3), (4, .int (1 : Int32))]) hx hb dX10_takes_96 hl (k := 0) rfl ex_9.symm (by decide) rfl (fun ls hl => ?_)
              refine lv_goto (tgt := 9) hx hb dX10_takes_99 (by decide) ?_
              exact ih9 iv9_5 iv9_6 x_9 fw9_x_59 ia9_qpo ia9_qpd ia9_qps ia9_qpk ia9_qpt _ _ hL1 hl1 (by omega) (by omega) (by omega) (by omega) (by omega) (by omega) (by omega) (by omega) (hx_tl_no vi9_0 (by omega) zx_9 (fun q => by have w := (hx_mt_e q.2.1).2; rw [show byf iv9_7.toInt.toNat = x_7 from ax_7.symm] at w; omega)) (by omega) (by omega) (fun c hc => vi9_3 c (hc.imp (fun w => by omega) id)) (by omega) ls (by omega) hW hT hM ffw9_x_59 nia9_qpo nia9_qpd nia9_qps nia9_qpk nia9_qpt (lv_sub hl [0, 1, 2, 3, 4, 5, 6, 7] rfl)
            · skip
              refine lv_aload_n hx hb dX10_takes_45 rfl (lv_at hl 3 rfl) ?_
              refine lv_iload hx hb dX10_takes_46 (lv_at hl 0 rfl) ?_
              refine hx_goi (hx_runV (As := [.int iv9_7]) (rest := []) ⟨hx, hb, hml, hown, hts⟩ hW (gx.S hM) tt_10 (T := TX10) (N := 98) rfl (t_X10_isOpen_2 l dC dI dA hL1 hl1 H.size x iv9_7 hT (gx.S hM) qod (gqod.S hM) ((hM.o gx trivial rfl).2.trans f_x_48) qsv (gqsv.S hM) ((hM.o gx trivial rfl).2.trans f_x_50) qsz (gqsz.S hM) ((hM.o gx trivial rfl).2.trans f_x_49) qgd (gqgd.S hM) ((hM.o gx trivial rfl).2.trans f_x_56) qow (gqow.S hM) ((hM.o gx trivial rfl).2.trans f_x_55) qpl (gqpl.S hM) ((hM.o gx trivial rfl).2.trans f_x_44) qru (gqru.S hM) ((hM.o gx trivial rfl).2.trans f_x_3) qpo (gqpo.S hM) ((hM.o gx trivial rfl).2.trans f_x_60) qpd (gqpd.S hM) ((hM.o gx trivial rfl).2.trans f_x_61) qps (gqps.S hM) ((hM.o gx trivial rfl).2.trans f_x_62) qpk (gqpk.S hM) ((hM.o gx trivial rfl).2.trans f_x_63) qpt (gqpt.S hM) ((hM.o gx trivial rfl).2.trans f_x_64) odf (hx_afS hM gqod rfl af_qod) svf (hx_afS hM gqsv rfl af_qsv) szf (hx_afS hM gqsz rfl af_qsz) gdf (hx_afS hM gqgd rfl af_qgd) owf (hx_afS hM gqow rfl af_qow) plf (hx_afS hM gqpl rfl af_qpl) rf (hx_afS hM gqru rfl af_qru) ia9_qpo nia9_qpo ia9_qpd nia9_qpd ia9_qps nia9_qps ia9_qpk nia9_qpk ia9_qpt nia9_qpt nw0 ((hM.o gx trivial rfl).1.trans f_x_0) fw9_x_59 ffw9_x_59 ⟨by omega, by omega⟩) (cwV 1 hts (hx_gV kw_1637 kw_1634 kw_1636 kw_81 kw_103) rfl rfl rfl (by decide +kernel) ⟨Nat.le_of_ble_eq_true rfl, Nat.le_of_ble_eq_true rfl⟩) rfl hl.1 rfl (Nat.le_of_ble_eq_true rfl) dX10_takes_48 ⟨Nat.le_of_ble_eq_true rfl, Nat.le_of_ble_eq_true rfl⟩) hW (fun r_13 L_11 h_12 H locs p_14 hW => ?_)
              obtain ⟨⟨w_16, fw_16, hr_15⟩, hT, hs⟩ := p_14
              replace hT : hx_T T_tb L_11 h_12 := hT
              replace hs : hx_S T_tb [(10, 67), (10, 68), (10, 69), (10, 70), (10, 71)] hL1 hl1 L_11 h_12 := hs
              replace ffw9_x_59 := (hs.o (gx.S hM) trivial rfl).1.trans ffw9_x_59
              replace nia9_qpo : h_12.2.1 qpo = ia9_qpo := (funext fun j => (hs.a (gqpo.S hM) rfl j).1).trans nia9_qpo
              replace nia9_qpd : h_12.2.1 qpd = ia9_qpd := (funext fun j => (hs.a (gqpd.S hM) rfl j).1).trans nia9_qpd
              replace nia9_qps : h_12.2.1 qps = ia9_qps := (funext fun j => (hs.a (gqps.S hM) rfl j).1).trans nia9_qps
              replace nia9_qpk : h_12.2.1 qpk = ia9_qpk := (funext fun j => (hs.a (gqpk.S hM) rfl j).1).trans nia9_qpk
              replace nia9_qpt : h_12.2.1 qpt = ia9_qpt := (funext fun j => (hs.a (gqpt.S hM) rfl j).1).trans nia9_qpt
              replace ex_3 := ex_3.trans (hs.a (gqag.S hM) rfl _).1.symm
              replace ex_7 := ex_7.trans (hs.a (gqby.S hM) rfl _).1.symm
              replace hM := hM.tr (hs.mono (by decide))
              have fw_16 : h_12.2.1 x 68 = w_16 := fw_16
              have bw_16 := hT.gi (gx.S hM) tt_10 (k := 68) rfl
              rw [fw_16] at bw_16
              have bw_16 : 0 ≤ w_16.toInt ∧ w_16.toInt ≤ 610000 := bw_16
              have hrs : w_16.toInt = hx_Rn odf svf szf gdf owf plf rf pof pdf psm pkf pst nw0.toInt pm0.toInt.toNat iv9_7.toInt := hr_15.2.2.trans (vi9_3 _ (Or.inl (Int.le_refl _)))
              have hio := hr_15.2.1
              refine hb_if_ne (zx := r_13.toInt) (tgt := 57) hx hb rfl dX10_takes_51 (by decide) (fun c_17 => ?_) (fun c_17 => ?_)
              · skip
                have hmt : hx_mt agf byf i1.toInt i2.toInt iv9_7.toInt = true := hx_mt_t (by rw [show agf iv9_7.toInt.toNat = x_3 from ax_3.symm]; omega) (by rw [show byf iv9_7.toInt.toNat = x_7 from ax_7.symm]; omega)
                have hRp : 0 < hx_Rn odf svf szf gdf owf plf rf pof pdf psm pkf pst nw0.toInt pm0.toInt.toNat iv9_7.toInt := by rw [← hrs]; omega
                refine lv_iload hx hb dX10_takes_57 (lv_at hl 2 rfl) ?_
                refine lv_aload_n hx hb dX10_takes_59 rfl (lv_at hl 3 rfl) ?_
                refine hk_geti hx hb hts hC_10 hown hW (gx.S hM) tt_10 68 (by decide) rfl kw_1211 ⟨rfl, rfl, rfl⟩ fw_16 dX10_takes_60 ?_
                refine hx_goi (hx_runS (As := [.int iv9_5, .int w_16]) (rest := []) ⟨hx, hb, hml, hown, hts⟩ hW (t_X10_lesser_3 l dC dI dA L_11 h_12 H.size iv9_5 w_16 hT) (va_cwS 2 hts (hx_gS kw_1705 kw_1703 kw_1704 kw_103) rfl rfl rfl (by decide +kernel) ⟨Nat.le_of_ble_eq_true rfl, Nat.le_of_ble_eq_true rfl⟩) rfl hl.1 rfl (Nat.le_of_ble_eq_true rfl) dX10_takes_63 ⟨Nat.le_of_ble_eq_true rfl, Nat.le_of_ble_eq_true rfl⟩) hW (fun r_20 L_18 h_19 H locs p_21 hW => ?_)
                obtain ⟨hr_22, hT, hs⟩ := p_21
                replace hT : hx_T T_tb L_18 h_19 := hT
                replace hs : hx_S T_tb [] L_11 h_12 L_18 h_19 := hs
                replace ffw9_x_59 := (hs.o (gx.S hM) trivial rfl).1.trans ffw9_x_59
                replace fw_16 := (hs.o (gx.S hM) trivial rfl).1.trans fw_16
                replace nia9_qpo : h_19.2.1 qpo = ia9_qpo := (funext fun j => (hs.a (gqpo.S hM) rfl j).1).trans nia9_qpo
                replace nia9_qpd : h_19.2.1 qpd = ia9_qpd := (funext fun j => (hs.a (gqpd.S hM) rfl j).1).trans nia9_qpd
                replace nia9_qps : h_19.2.1 qps = ia9_qps := (funext fun j => (hs.a (gqps.S hM) rfl j).1).trans nia9_qps
                replace nia9_qpk : h_19.2.1 qpk = ia9_qpk := (funext fun j => (hs.a (gqpk.S hM) rfl j).1).trans nia9_qpk
                replace nia9_qpt : h_19.2.1 qpt = ia9_qpt := (funext fun j => (hs.a (gqpt.S hM) rfl j).1).trans nia9_qpt
                replace ex_3 := ex_3.trans (hs.a (gqag.S hM) rfl _).1.symm
                replace ex_7 := ex_7.trans (hs.a (gqby.S hM) rfl _).1.symm
                replace hM := hM.tr (hs.mono (by decide))
                refine lv_istore (lv' := [(8, .int r_20), (7, .int iv9_7), (6, .int iv9_6), (5, .int iv9_5), (0, .ref x), (1, .int i1), (2, .int i2), (3, .int i3), (4, .int (1 : Int32))]) hx hb dX10_takes_66 hl (by decide) rfl (fun ls hl => ?_)
                have hof : (r_20.toInt = iv9_5.toInt ∧ iv9_5.toInt < hx_Rn odf svf szf gdf owf plf rf pof pdf psm pkf pst nw0.toInt pm0.toInt.toNat iv9_7.toInt) ∨ (r_20.toInt = hx_Rn odf svf szf gdf owf plf rf pof pdf psm pkf pst nw0.toInt pm0.toInt.toNat iv9_7.toInt ∧ hx_Rn odf svf szf gdf owf plf rf pof pdf psm pkf pst nw0.toInt pm0.toInt.toNat iv9_7.toInt ≤ iv9_5.toInt) := by rw [← hrs]; exact hr_22.elim (fun w => Or.inl ⟨congrArg Int32.toInt w.1, w.2⟩) (fun w => Or.inr ⟨congrArg Int32.toInt w.1, w.2⟩)
                have hle : r_20.toInt ≤ iv9_5.toInt ∧ 0 ≤ r_20.toInt ∧ r_20.toInt ≤ w_16.toInt := by rw [← hrs] at hof; omega
                refine lv_iload hx hb dX10_takes_68 (lv_at hl 8 rfl) ?_
                refine hb_if_eq (zx := 1) (tgt := 86) hx hb (by decide) dX10_takes_70 (by decide) (fun c_23 => absurd c_23 (by decide)) (fun c_23 => ?_)
                refine lv_aload_n hx hb dX10_takes_73 rfl (lv_at hl 4 rfl) ?_
                refine lv_iload hx hb dX10_takes_74 (lv_at hl 1 rfl) ?_
                refine lv_aload_n hx hb dX10_takes_76 rfl (lv_at hl 4 rfl) ?_
                refine hk_geti hx hb hts hC_10 hown hW (gx.S hM) tt_10 0 (by decide) rfl kw_1143 ⟨rfl, rfl, rfl⟩ ((hM.o gx trivial rfl).1.trans f_x_0) dX10_takes_77 ?_
                refine lv_iload hx hb dX10_takes_80 (lv_at hl 0 rfl) ?_
                have hroom := hx_tl_le (hx_tl_yes vi9_0 (by omega) (k1 := iv9_7.toInt + 1) rfl (by omega) hmt hRp hof rfl rfl) (c := c0.toInt) (by omega)
                refine hx_goi (hx_runV (As := [.int iv9_7, .int nw0, .int r_20]) (rest := []) ⟨hx, hb, hml, hown, hts⟩ hW (gx.S hM) tt_10 (T := TX10) (N := 98) rfl (t_X10_pays_2 l dC dI dA L_18 h_19 H.size x iv9_7 nw0 r_20 hT (gx.S hM) qpo (gqpo.S hM) ((hM.o gx trivial rfl).2.trans f_x_60) qpd (gqpd.S hM) ((hM.o gx trivial rfl).2.trans f_x_61) qps (gqps.S hM) ((hM.o gx trivial rfl).2.trans f_x_62) qpk (gqpk.S hM) ((hM.o gx trivial rfl).2.trans f_x_63) qpt (gqpt.S hM) ((hM.o gx trivial rfl).2.trans f_x_64) ia9_qpo nia9_qpo ia9_qpd nia9_qpd ia9_qps nia9_qps ia9_qpk nia9_qpk ia9_qpt nia9_qpt nw0 ((hM.o gx trivial rfl).1.trans f_x_0) fw9_x_59 ffw9_x_59 (by omega) ⟨by omega, by omega⟩) (cwV 3 hts (hx_gV kw_1653 kw_1650 kw_1652 kw_84 kw_103) rfl rfl rfl (by decide +kernel) ⟨Nat.le_of_ble_eq_true rfl, Nat.le_of_ble_eq_true rfl⟩) rfl hl.1 rfl (Nat.le_of_ble_eq_true rfl) dX10_takes_82 ⟨Nat.le_of_ble_eq_true rfl, Nat.le_of_ble_eq_true rfl⟩) hW (fun r_26 L_24 h_25 H locs p_27 hW => ?_)
                obtain ⟨⟨w_29, w_30, w_31, w_32, w_33, w_34, fw_29, fw_30, fw_31, fw_32, fw_33, fw_34, hr_28⟩, hT, hs⟩ := p_27
                replace hT : hx_T T_tb L_24 h_25 := hT
                replace hs : hx_S T_tb [(10, 59), (93, 0), (94, 0), (95, 0), (96, 0), (97, 0)] L_18 h_19 L_24 h_25 := hs
                replace fw_16 := (hs.o (gx.S hM) trivial rfl).1.trans fw_16
                replace ex_3 := ex_3.trans (hs.a (gqag.S hM) rfl _).1.symm
                replace ex_7 := ex_7.trans (hs.a (gqby.S hM) rfl _).1.symm
                replace hM := hM.tr (hs.mono (by decide))
                have fw_29 : h_25.2.1 x 59 = w_29 := fw_29
                have bw_29 := hT.gi (gx.S hM) tt_10 (k := 59) rfl
                rw [fw_29] at bw_29
                have bw_29 : 0 ≤ w_29.toInt ∧ w_29.toInt ≤ 600 := bw_29
                have fw_30 : h_25.2.1 qpo = w_30 := fw_30
                have fw_31 : h_25.2.1 qpd = w_31 := fw_31
                have fw_32 : h_25.2.1 qps = w_32 := fw_32
                have fw_33 : h_25.2.1 qpk = w_33 := fw_33
                have fw_34 : h_25.2.1 qpt = w_34 := fw_34
                obtain ⟨hy0, hy1, hy2, hy3, hy4, vst, hy5⟩ := hr_28
                have hKR : ∀ c : Int, (iv9_7.toInt + 1 ≤ c ∨ (hx_mt agf byf i1.toInt i2.toInt) c = false) → hx_Rn odf svf szf gdf owf plf rf w_30 w_31 w_32 w_33 w_34 nw0.toInt w_29.toInt.toNat c = hx_Rn odf svf szf gdf owf plf rf pof pdf psm pkf pst nw0.toInt pm0.toInt.toNat c := fun c hc => (hx_Rn_pay2 hy0 (by omega) hy1 hy2 hy3 hy4 hy5 (fun z => hc.elim (fun w => by omega) (fun w => by rw [← z, hmt] at w; cases w))).trans (vi9_3 c (hc.imp (fun w => by omega) id))
                refine lv_pop hx hb dX10_takes_85 rfl ?_
                refine lv_iload hx hb dX10_takes_86 (lv_at hl 3 rfl) ?_
                refine lv_iload hx hb dX10_takes_88 (lv_at hl 0 rfl) ?_
                refine lv_isub hx hb dX10_takes_90 ?_
                have rg_35 := i32_r iv9_5
                have rg_36 := i32_r r_20
                refine lv_topi (fun x_37 ex_37 => ?_)
                have zx_37 : x_37.toInt = iv9_5.toInt - r_20.toInt := by rw [ex_37]; exact i32_sub rfl rfl (by omega) (by omega)
                refine lv_istore (lv' := [(5, .int x_37), (8, .int r_20), (7, .int iv9_7), (6, .int iv9_6), (0, .ref x), (1, .int i1), (2, .int i2), (3, .int i3), (4, .int (1 : Int32))]) hx hb dX10_takes_91 hl (by decide) rfl (fun ls hl => ?_)
                obtain ⟨x_38, ex_38⟩ : ∃ y : Int32, y = iv9_6 + Int32.ofInt 1 := ⟨_, rfl⟩
                have rg_39 := i32_r iv9_6
                have zx_38 : x_38.toInt = iv9_6.toInt + (1) := by rw [ex_38]; exact i32_add rfl (by decide) (by omega) (by omega)
                refine lv_iinc (v := x_38) (lv' := [(6, .int x_38), (5, .int x_37), (8, .int r_20), (7, .int iv9_7), (0, .ref x), (1, .int i1), (2, .int i2), (3, .int i3), (4, .int (1 : Int32))]) hx hb dX10_takes_93 hl (k := 3) rfl ex_38.symm (by decide) rfl (fun ls hl => ?_)
                obtain ⟨x_40, ex_40⟩ : ∃ y : Int32, y = iv9_7 + Int32.ofInt 1 := ⟨_, rfl⟩
                have rg_41 := i32_r iv9_7
                have zx_40 : x_40.toInt = iv9_7.toInt + (1) := by rw [ex_40]; exact i32_add rfl (by decide) (by omega) (by omega)
                refine lv_iinc (v := x_40) (lv' := [(7, .int x_40), (6, .int x_38), (5, .int x_37), (8, .int r_20), (0, .ref x), (1, .int i1), (2, .int i2), (3, .int i3), (4, .int (1 : Int32))]) hx hb dX10_takes_96 hl (k := 3) rfl ex_40.symm (by decide) rfl (fun ls hl => ?_)
                refine lv_goto (tgt := 9) hx hb dX10_takes_99 (by decide) ?_
                exact ih9 x_37 x_38 x_40 w_29 w_30 w_31 w_32 w_33 w_34 _ _ L_24 h_25 (by omega) (by omega) (by omega) (by omega) (by omega) (by omega) (by omega) (by omega) (hx_tl_yes vi9_0 (by omega) zx_40 (by omega) hmt hRp hof zx_37 zx_38) (by omega) (by omega) (fun c hc => hKR c (hc.imp (fun w => by omega) id)) (by omega) ls (by omega) hW hT hM fw_29 fw_30 fw_31 fw_32 fw_33 fw_34 (lv_sub hl [0, 1, 2, 4, 5, 6, 7, 8] rfl)
              · skip
                refine lv_goto (tgt := 96) hx hb dX10_takes_54 (by decide) ?_
                obtain ⟨x_42, ex_42⟩ : ∃ y : Int32, y = iv9_7 + Int32.ofInt 1 := ⟨_, rfl⟩
                have rg_43 := i32_r iv9_7
                have zx_42 : x_42.toInt = iv9_7.toInt + (1) := by rw [ex_42]; exact i32_add rfl (by decide) (by omega) (by omega)
                refine lv_iinc (v := x_42) (lv' := [(7, .int x_42), (6, .int iv9_6), (5, .int iv9_5), (0, .ref x), (1, .int i1), (2, .int i2), (3, .int i3), (4, .int (1 : Int32))]) hx hb dX10_takes_96 hl (k := 0) rfl ex_42.symm (by decide) rfl (fun ls hl => ?_)
                refine lv_goto (tgt := 9) hx hb dX10_takes_99 (by decide) ?_
                exact ih9 iv9_5 iv9_6 x_42 fw9_x_59 ia9_qpo ia9_qpd ia9_qps ia9_qpk ia9_qpt _ _ L_11 h_12 (by omega) (by omega) (by omega) (by omega) (by omega) (by omega) (by omega) (by omega) (hx_tl_no vi9_0 (by omega) zx_42 (fun q => by have w := q.2.2; rw [← hrs] at w; omega)) (by omega) (by omega) (fun c hc => vi9_3 c (hc.imp (fun w => by omega) id)) (by omega) ls (by omega) hW hT hM ffw9_x_59 nia9_qpo nia9_qpd nia9_qps nia9_qpk nia9_qpt (lv_sub hl [0, 1, 2, 3, 4, 5, 6, 7] rfl)
  have zk_0 : (0 : Int32).toInt = 0 := by decide
  have zk_0 : (0 : Int32).toInt = 0 := by decide
  exact loop9 101 i3 (0 : Int32) (0 : Int32) pm0 pof pdf psm pkf pst _ _ L h (by omega) (by omega) (by decide) (by decide) (by decide) (by decide) (by omega) (by omega) rfl (by omega) (by omega) (fun _ _ => rfl) (by omega) ls (by omega) hW hT hM f_x_59 af_qpo af_qpd af_qps af_qpk af_qpt hl
