def wLX10_see_0 : List Nat := [42, 180, 0, 245, 42, 180, 0, 236, 162, 0, 30, 42, 180, 0, 22, 42, 180, 0, 245, 51, 16, 32, 160, 0, 16, 42, 89, 180, 0, 245, 4, 96, 181, 0, 245, 167, 255, 221, 42, 180, 0, 245, 42, 180, 0, 236, 162, 0, 19, 42, 180, 0, 22, 42, 180, 0, 245, 51, 17, 0, 255, 126, 167, 0]
def wLX10_see_1 : List Nat := [4, 2, 172]
theorem wX10_see_0 : (cX10_see.data.toList.map UInt8.toNat).drop 0 = wLX10_see_0 ++ (wLX10_see_1 ++ ([])) := by decide +kernel
theorem wX10_see_1 : (cX10_see.data.toList.map UInt8.toNat).drop 64 = wLX10_see_1 ++ ([]) := hz_wn wX10_see_0 rfl
theorem dX10_see_0 : decode cX10_see 0 = .ok (.aload_n 0, 1) := dq_42 (hz_wg wX10_see_0 (j := 0) (n := 42) rfl)
theorem dX10_see_1 : decode cX10_see 1 = .ok (.getfield 245, 3) := dq_180 (hz_wg wX10_see_0 (j := 1) (n := 180) rfl) (hz_wg wX10_see_0 (j := 2) (n := 0) rfl) (hz_wg wX10_see_0 (j := 3) (n := 245) rfl) rfl
theorem dX10_see_4 : decode cX10_see 4 = .ok (.aload_n 0, 1) := dq_42 (hz_wg wX10_see_0 (j := 4) (n := 42) rfl)
theorem dX10_see_5 : decode cX10_see 5 = .ok (.getfield 236, 3) := dq_180 (hz_wg wX10_see_0 (j := 5) (n := 180) rfl) (hz_wg wX10_see_0 (j := 6) (n := 0) rfl) (hz_wg wX10_see_0 (j := 7) (n := 236) rfl) rfl
theorem dX10_see_8 : decode cX10_see 8 = .ok (.if_icmp .ge 30, 3) := dq_162 (hz_wg wX10_see_0 (j := 8) (n := 162) rfl) (hz_wg wX10_see_0 (j := 9) (n := 0) rfl) (hz_wg wX10_see_0 (j := 10) (n := 30) rfl) (by decide)
theorem dX10_see_11 : decode cX10_see 11 = .ok (.aload_n 0, 1) := dq_42 (hz_wg wX10_see_0 (j := 11) (n := 42) rfl)
theorem dX10_see_12 : decode cX10_see 12 = .ok (.getfield 22, 3) := dq_180 (hz_wg wX10_see_0 (j := 12) (n := 180) rfl) (hz_wg wX10_see_0 (j := 13) (n := 0) rfl) (hz_wg wX10_see_0 (j := 14) (n := 22) rfl) rfl
theorem dX10_see_15 : decode cX10_see 15 = .ok (.aload_n 0, 1) := dq_42 (hz_wg wX10_see_0 (j := 15) (n := 42) rfl)
theorem dX10_see_16 : decode cX10_see 16 = .ok (.getfield 245, 3) := dq_180 (hz_wg wX10_see_0 (j := 16) (n := 180) rfl) (hz_wg wX10_see_0 (j := 17) (n := 0) rfl) (hz_wg wX10_see_0 (j := 18) (n := 245) rfl) rfl
theorem dX10_see_19 : decode cX10_see 19 = .ok (.baload, 1) := dq_51 (hz_wg wX10_see_0 (j := 19) (n := 51) rfl)
theorem dX10_see_20 : decode cX10_see 20 = .ok (.bipush 32, 2) := dq_16 (hz_wg wX10_see_0 (j := 20) (n := 16) rfl) (hz_wg wX10_see_0 (j := 21) (n := 32) rfl) (by decide)
theorem dX10_see_22 : decode cX10_see 22 = .ok (.if_icmp .ne 16, 3) := dq_160 (hz_wg wX10_see_0 (j := 22) (n := 160) rfl) (hz_wg wX10_see_0 (j := 23) (n := 0) rfl) (hz_wg wX10_see_0 (j := 24) (n := 16) rfl) (by decide)
theorem dX10_see_25 : decode cX10_see 25 = .ok (.aload_n 0, 1) := dq_42 (hz_wg wX10_see_0 (j := 25) (n := 42) rfl)
theorem dX10_see_26 : decode cX10_see 26 = .ok (.dup, 1) := dq_89 (hz_wg wX10_see_0 (j := 26) (n := 89) rfl)
theorem dX10_see_27 : decode cX10_see 27 = .ok (.getfield 245, 3) := dq_180 (hz_wg wX10_see_0 (j := 27) (n := 180) rfl) (hz_wg wX10_see_0 (j := 28) (n := 0) rfl) (hz_wg wX10_see_0 (j := 29) (n := 245) rfl) rfl
theorem dX10_see_30 : decode cX10_see 30 = .ok (.iconst 1, 1) := dq_4 (hz_wg wX10_see_0 (j := 30) (n := 4) rfl)
theorem dX10_see_31 : decode cX10_see 31 = .ok (.iadd, 1) := dq_96 (hz_wg wX10_see_0 (j := 31) (n := 96) rfl)
theorem dX10_see_32 : decode cX10_see 32 = .ok (.putfield 245, 3) := dq_181 (hz_wg wX10_see_0 (j := 32) (n := 181) rfl) (hz_wg wX10_see_0 (j := 33) (n := 0) rfl) (hz_wg wX10_see_0 (j := 34) (n := 245) rfl) rfl
theorem dX10_see_35 : decode cX10_see 35 = .ok (.goto (-35), 3) := dq_167 (hz_wg wX10_see_0 (j := 35) (n := 167) rfl) (hz_wg wX10_see_0 (j := 36) (n := 255) rfl) (hz_wg wX10_see_0 (j := 37) (n := 221) rfl) (by decide)
theorem dX10_see_38 : decode cX10_see 38 = .ok (.aload_n 0, 1) := dq_42 (hz_wg wX10_see_0 (j := 38) (n := 42) rfl)
theorem dX10_see_39 : decode cX10_see 39 = .ok (.getfield 245, 3) := dq_180 (hz_wg wX10_see_0 (j := 39) (n := 180) rfl) (hz_wg wX10_see_0 (j := 40) (n := 0) rfl) (hz_wg wX10_see_0 (j := 41) (n := 245) rfl) rfl
theorem dX10_see_42 : decode cX10_see 42 = .ok (.aload_n 0, 1) := dq_42 (hz_wg wX10_see_0 (j := 42) (n := 42) rfl)
theorem dX10_see_43 : decode cX10_see 43 = .ok (.getfield 236, 3) := dq_180 (hz_wg wX10_see_0 (j := 43) (n := 180) rfl) (hz_wg wX10_see_0 (j := 44) (n := 0) rfl) (hz_wg wX10_see_0 (j := 45) (n := 236) rfl) rfl
theorem dX10_see_46 : decode cX10_see 46 = .ok (.if_icmp .ge 19, 3) := dq_162 (hz_wg wX10_see_0 (j := 46) (n := 162) rfl) (hz_wg wX10_see_0 (j := 47) (n := 0) rfl) (hz_wg wX10_see_0 (j := 48) (n := 19) rfl) (by decide)
theorem dX10_see_49 : decode cX10_see 49 = .ok (.aload_n 0, 1) := dq_42 (hz_wg wX10_see_0 (j := 49) (n := 42) rfl)
theorem dX10_see_50 : decode cX10_see 50 = .ok (.getfield 22, 3) := dq_180 (hz_wg wX10_see_0 (j := 50) (n := 180) rfl) (hz_wg wX10_see_0 (j := 51) (n := 0) rfl) (hz_wg wX10_see_0 (j := 52) (n := 22) rfl) rfl
theorem dX10_see_53 : decode cX10_see 53 = .ok (.aload_n 0, 1) := dq_42 (hz_wg wX10_see_0 (j := 53) (n := 42) rfl)
theorem dX10_see_54 : decode cX10_see 54 = .ok (.getfield 245, 3) := dq_180 (hz_wg wX10_see_0 (j := 54) (n := 180) rfl) (hz_wg wX10_see_0 (j := 55) (n := 0) rfl) (hz_wg wX10_see_0 (j := 56) (n := 245) rfl) rfl
theorem dX10_see_57 : decode cX10_see 57 = .ok (.baload, 1) := dq_51 (hz_wg wX10_see_0 (j := 57) (n := 51) rfl)
theorem dX10_see_58 : decode cX10_see 58 = .ok (.sipush 255, 3) := dq_17 (hz_wg wX10_see_0 (j := 58) (n := 17) rfl) (hz_wg wX10_see_0 (j := 59) (n := 0) rfl) (hz_wg wX10_see_0 (j := 60) (n := 255) rfl) (by decide)
theorem dX10_see_61 : decode cX10_see 61 = .ok (.iand, 1) := dq_126 (hz_wg wX10_see_0 (j := 61) (n := 126) rfl)
theorem dX10_see_62 : decode cX10_see 62 = .ok (.goto 4, 3) := dq_167 (hz_wg wX10_see_0 (j := 62) (n := 167) rfl) (hz_wg wX10_see_0 (j := 63) (n := 0) rfl) (hz_wg wX10_see_1 (j := 0) (n := 4) rfl) (by decide)
theorem dX10_see_65 : decode cX10_see 65 = .ok (.iconst (-1), 1) := dq_2 (hz_wg wX10_see_1 (j := 1) (n := 2) rfl)
theorem dX10_see_66 : decode cX10_see 66 = .ok (.ireturn, 1) := dq_172 (hz_wg wX10_see_1 (j := 2) (n := 172) rfl)
set_option maxHeartbeats 4000000 in
set_option maxRecDepth 100000 in
theorem t_X10_see (l : Launch) (dC : Nat → ClassId) (dI : Nat → Nat → Nat) (dA : Nat → ClassId) (L : List Nat) (h : hx_h) (sz : Nat) (x : Nat) (hT : hx_T T_tb L h) (gx : hx_g L h x 10) (qt : Nat) (gqt : hx_g L h qt 53) (f_x_6 : h.2.2 x 6 = some qt) (tf : Nat → Int32) (af_qt : h.2.1 qt = tf) (nx0 : Int32) (f_x_8 : h.2.1 x 8 = nx0) (tp0 : Int32) (f_x_7 : h.2.1 x 7 = tp0) : Met l yX10_see (Cond.code yX10_see cX10_see 1 (some .int) :: hx_all) ({ frames := 0, cells := 0, slots := 0, locals := 0 }) (va_Pc [.ref x] (hx_B T_tb (P_ty dA) (dC, dI) vwCl L h sz)) (va_Qi (fun (r : Int32) (u : List Nat × hx_h) => (∃ (nx1 : Int32), u.2.2.1 x 8 = nx1 ∧ (nx0.toInt ≤ nx1.toInt ∧ (nx1.toInt = nx0.toInt ∨ nx1.toInt ≤ tp0.toInt) ∧ ((r.toInt = -1 ∧ tp0.toInt ≤ nx1.toInt) ∨ (nx1.toInt < tp0.toInt ∧ 0 ≤ r.toInt ∧ r.toInt ≤ 255 ∧ r = tf nx1.toNatClampNeg &&& 255)))) ∧ hx_T T_tb u.1 u.2 ∧ hx_S T_tb [(10, 8)] L h u.1 u.2) (hx_E T_tb (P_ty dA) (dC, dI) vwCl (hx_A L sz)) (hx_A L sz)) 0 0 (hx_A L sz) := by
  refine hx_met (lv := [(0, .ref x)]) (by decide +kernel) rfl (Nat.le_of_ble_eq_true rfl) rfl ?_
  intro p e s m below meth c hx hb hml hr hlk hts0 hown hin hsz hW ls hl
  have hts : ∀ w ∈ hx_all, w.before _ s = true := fun w hw => hts0 w (List.mem_cons_of_mem _ hw)
  have hown : s.vm.findClass "SmallCourtModel" = some m.cls := hown
  have hM : hx_S T_tb [(10, 8)] L h L h := hx_S.rf
  have b_nx0 := hT.gi gx tt_10 (k := 8) rfl
  rw [f_x_8] at b_nx0
  have b_nx0 : 0 ≤ nx0.toInt ∧ nx0.toInt ≤ 402 := b_nx0
  have b_tp0 := hT.gi gx tt_10 (k := 7) rfl
  rw [f_x_7] at b_tp0
  have b_tp0 : 0 ≤ tp0.toInt ∧ tp0.toInt ≤ 400 := b_tp0
  have loop0 : ∀ (n0 : Nat) (fw0_x_8 : Int32) (H : Heap) (locs : List Loc) (hL1 : List Nat) (hl1 : hx_h), 0 ≤ fw0_x_8.toInt → fw0_x_8.toInt ≤ 402 → (nx0.toInt ≤ fw0_x_8.toInt) → (fw0_x_8.toInt = nx0.toInt ∨ fw0_x_8.toInt ≤ tp0.toInt) → ∀ (ls : Array Slot), 402 - fw0_x_8.toInt < (n0 : Int) → hx_W T_tb (P_ty dA) (dC, dI) vwCl (hx_A L sz) s.heap hL1 hl1 s H locs → hx_T T_tb hL1 hl1 → hx_S T_tb [(10, 8)] L h hL1 hl1 → hl1.2.1 x 8 = fw0_x_8 → lv_has ls 1 [(0, .ref x)] → W p l e ({ frames := 0, cells := 0, slots := 0, locals := 0 }) s m ([.ref x] : List Value).toArray below meth c H locs 0 0 (MQ below (va_Qi (fun (r : Int32) (u : List Nat × hx_h) => (∃ (nx1 : Int32), u.2.2.1 x 8 = nx1 ∧ (nx0.toInt ≤ nx1.toInt ∧ (nx1.toInt = nx0.toInt ∨ nx1.toInt ≤ tp0.toInt) ∧ ((r.toInt = -1 ∧ tp0.toInt ≤ nx1.toInt) ∨ (nx1.toInt < tp0.toInt ∧ 0 ≤ r.toInt ∧ r.toInt ≤ 255 ∧ r = tf nx1.toNatClampNeg &&& 255)))) ∧ hx_T T_tb u.1 u.2 ∧ hx_S T_tb [(10, 8)] L h u.1 u.2) (hx_E T_tb (P_ty dA) (dC, dI) vwCl (hx_A L sz)) (hx_A L sz)) ([.ref x] : List Value).toArray s 0 0 (hx_A L sz)) (F0 m 0 ls []) := by
    intro n0
    induction n0 with
    | zero => intro fw0_x_8 H locs hL1 hl1 blfw0_x_8 bufw0_x_8 vi0_0 vi0_1 ls hn0; exfalso; omega
    | succ n0 ih0 =>
      intro fw0_x_8 H locs hL1 hl1 blfw0_x_8 bufw0_x_8 vi0_0 vi0_1 ls hn0 hW hT hM ffw0_x_8  hl
      refine lv_aload_n hx hb dX10_see_0 rfl (lv_at hl 0 rfl) ?_
      refine hk_geti hx hb hts hC_10 hown hW (gx.S hM) tt_10 8 (by decide) rfl kw_1151 ⟨rfl, rfl, rfl⟩ ffw0_x_8 dX10_see_1 ?_
      refine lv_aload_n hx hb dX10_see_4 rfl (lv_at hl 0 rfl) ?_
      refine hk_geti hx hb hts hC_10 hown hW (gx.S hM) tt_10 7 (by decide) rfl kw_1150 ⟨rfl, rfl, rfl⟩ ((hM.o gx trivial rfl).1.trans f_x_7) dX10_see_5 ?_
      refine hb_icmp_ge (zx := fw0_x_8.toInt) (zy := tp0.toInt) (tgt := 38) hx hb rfl rfl dX10_see_8 (by decide) (fun c_1 => ?_) (fun c_1 => ?_)
      · skip
        refine lv_aload_n hx hb dX10_see_38 rfl (lv_at hl 0 rfl) ?_
        refine hk_geti hx hb hts hC_10 hown hW (gx.S hM) tt_10 8 (by decide) rfl kw_1151 ⟨rfl, rfl, rfl⟩ ffw0_x_8 dX10_see_39 ?_
        refine lv_aload_n hx hb dX10_see_42 rfl (lv_at hl 0 rfl) ?_
        refine hk_geti hx hb hts hC_10 hown hW (gx.S hM) tt_10 7 (by decide) rfl kw_1150 ⟨rfl, rfl, rfl⟩ ((hM.o gx trivial rfl).1.trans f_x_7) dX10_see_43 ?_
        refine hb_icmp_ge (zx := fw0_x_8.toInt) (zy := tp0.toInt) (tgt := 65) hx hb rfl rfl dX10_see_46 (by decide) (fun c_2 => ?_) (fun c_2 => ?_)
        · skip
          refine lv_iconst (v := -1) hx hb dX10_see_65 (by decide) ?_
          exact hx_reti hx hb hr hlk hW ⟨⟨fw0_x_8, ffw0_x_8, ⟨by omega, by omega, Or.inl ⟨by decide, by omega⟩⟩⟩, hT, hM⟩ dX10_see_66
        · skip
          refine lv_aload_n hx hb dX10_see_49 rfl (lv_at hl 0 rfl) ?_
          refine hk_getr hx hb hts hC_10 hown hW (gx.S hM) tt_10 6 (by decide) rfl kw_1149 ⟨rfl, rfl, rfl⟩ ((hM.o gx trivial rfl).2.trans f_x_6) dX10_see_50 ?_
          refine lv_aload_n hx hb dX10_see_53 rfl (lv_at hl 0 rfl) ?_
          refine hk_geti hx hb hts hC_10 hown hW (gx.S hM) tt_10 8 (by decide) rfl kw_1151 ⟨rfl, rfl, rfl⟩ ffw0_x_8 dX10_see_54 ?_
          refine hx_bald hx hb hW hT (gqt.S hM) tt_53 rfl ⟨by omega, by omega⟩ dX10_see_57 (fun x_3 ex_3 lx_3 ux_3 => ?_)
          have ax_3 : x_3 = tf fw0_x_8.toNatClampNeg := ex_3.trans (congrFun (hx_afS hM gqt rfl af_qt) _)
          refine lv_sipush (v := 255) hx hb dX10_see_58 (by decide) ?_
          refine lv_iand hx hb dX10_see_61 ?_
          refine lv_topi (fun x_4 ex_4 => ?_)
          have zx_4 : 0 ≤ x_4.toInt ∧ x_4.toInt ≤ 255 := by rw [ex_4]; exact hx_andR (by decide) (by decide)
          refine lv_goto (tgt := 66) hx hb dX10_see_62 (by decide) ?_
          exact hx_reti hx hb hr hlk hW ⟨⟨fw0_x_8, ffw0_x_8, ⟨by omega, by omega, Or.inr ⟨by omega, by omega, by omega, by rw [ex_4, ax_3]⟩⟩⟩, hT, hM⟩ dX10_see_66
      · skip
        refine lv_aload_n hx hb dX10_see_11 rfl (lv_at hl 0 rfl) ?_
        refine hk_getr hx hb hts hC_10 hown hW (gx.S hM) tt_10 6 (by decide) rfl kw_1149 ⟨rfl, rfl, rfl⟩ ((hM.o gx trivial rfl).2.trans f_x_6) dX10_see_12 ?_
        refine lv_aload_n hx hb dX10_see_15 rfl (lv_at hl 0 rfl) ?_
        refine hk_geti hx hb hts hC_10 hown hW (gx.S hM) tt_10 8 (by decide) rfl kw_1151 ⟨rfl, rfl, rfl⟩ ffw0_x_8 dX10_see_16 ?_
        refine hx_bald hx hb hW hT (gqt.S hM) tt_53 rfl ⟨by omega, by omega⟩ dX10_see_19 (fun x_5 ex_5 lx_5 ux_5 => ?_)
        have ax_5 : x_5 = tf fw0_x_8.toNatClampNeg := ex_5.trans (congrFun (hx_afS hM gqt rfl af_qt) _)
        refine lv_bipush (v := 32) hx hb dX10_see_20 (by decide) ?_
        refine hb_icmp_ne (zx := x_5.toInt) (zy := 32) (tgt := 38) hx hb rfl (by decide) dX10_see_22 (by decide) (fun c_6 => ?_) (fun c_6 => ?_)
        · skip
          refine lv_aload_n hx hb dX10_see_38 rfl (lv_at hl 0 rfl) ?_
          refine hk_geti hx hb hts hC_10 hown hW (gx.S hM) tt_10 8 (by decide) rfl kw_1151 ⟨rfl, rfl, rfl⟩ ffw0_x_8 dX10_see_39 ?_
          refine lv_aload_n hx hb dX10_see_42 rfl (lv_at hl 0 rfl) ?_
          refine hk_geti hx hb hts hC_10 hown hW (gx.S hM) tt_10 7 (by decide) rfl kw_1150 ⟨rfl, rfl, rfl⟩ ((hM.o gx trivial rfl).1.trans f_x_7) dX10_see_43 ?_
          refine hb_icmp_ge (zx := fw0_x_8.toInt) (zy := tp0.toInt) (tgt := 65) hx hb rfl rfl dX10_see_46 (by decide) (fun c_7 => ?_) (fun c_7 => ?_)
          · skip
            refine lv_iconst (v := -1) hx hb dX10_see_65 (by decide) ?_
            exact hx_reti hx hb hr hlk hW ⟨⟨fw0_x_8, ffw0_x_8, ⟨by omega, by omega, Or.inl ⟨by decide, by omega⟩⟩⟩, hT, hM⟩ dX10_see_66
          · skip
            refine lv_aload_n hx hb dX10_see_49 rfl (lv_at hl 0 rfl) ?_
            refine hk_getr hx hb hts hC_10 hown hW (gx.S hM) tt_10 6 (by decide) rfl kw_1149 ⟨rfl, rfl, rfl⟩ ((hM.o gx trivial rfl).2.trans f_x_6) dX10_see_50 ?_
            refine lv_aload_n hx hb dX10_see_53 rfl (lv_at hl 0 rfl) ?_
            refine hk_geti hx hb hts hC_10 hown hW (gx.S hM) tt_10 8 (by decide) rfl kw_1151 ⟨rfl, rfl, rfl⟩ ffw0_x_8 dX10_see_54 ?_
            refine hx_bald hx hb hW hT (gqt.S hM) tt_53 rfl ⟨by omega, by omega⟩ dX10_see_57 (fun x_8 ex_8 lx_8 ux_8 => ?_)
            have ax_8 : x_8 = tf fw0_x_8.toNatClampNeg := ex_8.trans (congrFun (hx_afS hM gqt rfl af_qt) _)
            obtain rfl : x_5 = x_8 := ex_5.trans ex_8.symm
            refine lv_sipush (v := 255) hx hb dX10_see_58 (by decide) ?_
            refine lv_iand hx hb dX10_see_61 ?_
            refine lv_topi (fun x_9 ex_9 => ?_)
            have zx_9 : 0 ≤ x_9.toInt ∧ x_9.toInt ≤ 255 := by rw [ex_9]; exact hx_andR (by decide) (by decide)
            refine lv_goto (tgt := 66) hx hb dX10_see_62 (by decide) ?_
            exact hx_reti hx hb hr hlk hW ⟨⟨fw0_x_8, ffw0_x_8, ⟨by omega, by omega, Or.inr ⟨by omega, by omega, by omega, by rw [ex_9, ax_5]⟩⟩⟩, hT, hM⟩ dX10_see_66
        · skip
          refine lv_aload_n hx hb dX10_see_25 rfl (lv_at hl 0 rfl) ?_
          refine lv_dup hx hb dX10_see_26 rfl ?_
          refine hk_geti hx hb hts hC_10 hown hW (gx.S hM) tt_10 8 (by decide) rfl kw_1151 ⟨rfl, rfl, rfl⟩ ffw0_x_8 dX10_see_27 ?_
          refine lv_iconst (v := 1) hx hb dX10_see_30 (by decide) ?_
          refine lv_iadd hx hb dX10_see_31 ?_
          have rg_10 := i32_r fw0_x_8
          refine lv_topi (fun x_11 ex_11 => ?_)
          have zx_11 : x_11.toInt = fw0_x_8.toInt + 1 := by rw [ex_11]; exact i32_add rfl (by decide) (by omega) (by omega)
          refine hx_puti hx hb hts hC_10 hown hW hT (hx_S.rf (M := [(10, 8)])) (gx.S hM) tt_10 8 (by decide) rfl kw_1151 ⟨rfl, rfl, rfl⟩ rfl (x := x_11) ⟨by omega, by omega⟩ rfl rfl rfl (List.mem_singleton.mpr rfl) dX10_see_32 (fun H locs h_12 eh_12 hW hT hs => ?_)
          replace ex_5 := ex_5.trans (hs.a (gqt.S hM) rfl _).1.symm
          replace hM := hM.tr (hs.mono (by decide))
          have f_13 : h_12.2.1 x 8 = x_11 := by rw [eh_12]; exact hx_pi_at _ _ _ _
          refine lv_goto (tgt := 0) hx hb dX10_see_35 (by decide) ?_
          exact ih0 x_11 _ _ hL1 h_12 (by omega) (by omega) (by omega) (by omega) ls (by omega) hW hT hM f_13  (lv_sub hl [0] rfl)
  exact loop0 403 nx0 _ _ L h (by omega) (by omega) (by omega) (by omega) ls (by omega) hW hT hM f_x_8  hl

def wLX10_wordHere_0 : List Nat := [42, 182, 0, 248, 87, 42, 3, 181, 0, 252, 42, 180, 0, 245, 42, 180, 0, 252, 96, 42, 180, 0, 236, 162, 0, 54, 42, 180, 0, 22, 42, 180, 0, 245, 42, 180, 0, 252, 96, 51, 16, 97, 161, 0, 35, 42, 180, 0, 22, 42, 180, 0, 245, 42, 180, 0, 252, 96, 51, 16, 122, 163, 0, 16]
def wLX10_wordHere_1 : List Nat := [42, 89, 180, 0, 252, 4, 96, 181, 0, 252, 167, 255, 192, 3, 60, 27, 16, 25, 162, 0, 118, 42, 180, 0, 252, 16, 7, 163, 0, 109, 3, 61, 28, 16, 7, 162, 0, 23, 42, 180, 0, 35, 16, 7, 27, 104, 28, 96, 51, 153, 0, 9, 132, 2, 1, 167, 255, 233, 28, 42, 180, 0, 252, 160]
def wLX10_wordHere_2 : List Nat := [0, 7, 4, 167, 0, 4, 3, 62, 3, 54, 4, 29, 153, 0, 48, 21, 4, 28, 162, 0, 42, 42, 180, 0, 35, 16, 7, 27, 104, 21, 4, 96, 51, 42, 180, 0, 22, 42, 180, 0, 245, 21, 4, 96, 51, 160, 0, 7, 4, 167, 0, 4, 3, 62, 132, 4, 1, 167, 255, 210, 29, 153, 0, 5]
def wLX10_wordHere_3 : List Nat := [27, 172, 132, 1, 1, 167, 255, 138, 2, 172]
theorem wX10_wordHere_0 : (cX10_wordHere.data.toList.map UInt8.toNat).drop 0 = wLX10_wordHere_0 ++ (wLX10_wordHere_1 ++ (wLX10_wordHere_2 ++ (wLX10_wordHere_3 ++ ([])))) := by decide +kernel
theorem wX10_wordHere_1 : (cX10_wordHere.data.toList.map UInt8.toNat).drop 64 = wLX10_wordHere_1 ++ (wLX10_wordHere_2 ++ (wLX10_wordHere_3 ++ ([]))) := hz_wn wX10_wordHere_0 rfl
theorem wX10_wordHere_2 : (cX10_wordHere.data.toList.map UInt8.toNat).drop 128 = wLX10_wordHere_2 ++ (wLX10_wordHere_3 ++ ([])) := hz_wn wX10_wordHere_1 rfl
theorem wX10_wordHere_3 : (cX10_wordHere.data.toList.map UInt8.toNat).drop 192 = wLX10_wordHere_3 ++ ([]) := hz_wn wX10_wordHere_2 rfl
theorem dX10_wordHere_0 : decode cX10_wordHere 0 = .ok (.aload_n 0, 1) := dq_42 (hz_wg wX10_wordHere_0 (j := 0) (n := 42) rfl)
theorem dX10_wordHere_1 : decode cX10_wordHere 1 = .ok (.invokevirtual 248, 3) := dq_182 (hz_wg wX10_wordHere_0 (j := 1) (n := 182) rfl) (hz_wg wX10_wordHere_0 (j := 2) (n := 0) rfl) (hz_wg wX10_wordHere_0 (j := 3) (n := 248) rfl) rfl
theorem dX10_wordHere_4 : decode cX10_wordHere 4 = .ok (.pop, 1) := dq_87 (hz_wg wX10_wordHere_0 (j := 4) (n := 87) rfl)
theorem dX10_wordHere_5 : decode cX10_wordHere 5 = .ok (.aload_n 0, 1) := dq_42 (hz_wg wX10_wordHere_0 (j := 5) (n := 42) rfl)
theorem dX10_wordHere_6 : decode cX10_wordHere 6 = .ok (.iconst 0, 1) := dq_3 (hz_wg wX10_wordHere_0 (j := 6) (n := 3) rfl)
theorem dX10_wordHere_7 : decode cX10_wordHere 7 = .ok (.putfield 252, 3) := dq_181 (hz_wg wX10_wordHere_0 (j := 7) (n := 181) rfl) (hz_wg wX10_wordHere_0 (j := 8) (n := 0) rfl) (hz_wg wX10_wordHere_0 (j := 9) (n := 252) rfl) rfl
theorem dX10_wordHere_10 : decode cX10_wordHere 10 = .ok (.aload_n 0, 1) := dq_42 (hz_wg wX10_wordHere_0 (j := 10) (n := 42) rfl)
theorem dX10_wordHere_11 : decode cX10_wordHere 11 = .ok (.getfield 245, 3) := dq_180 (hz_wg wX10_wordHere_0 (j := 11) (n := 180) rfl) (hz_wg wX10_wordHere_0 (j := 12) (n := 0) rfl) (hz_wg wX10_wordHere_0 (j := 13) (n := 245) rfl) rfl
theorem dX10_wordHere_14 : decode cX10_wordHere 14 = .ok (.aload_n 0, 1) := dq_42 (hz_wg wX10_wordHere_0 (j := 14) (n := 42) rfl)
theorem dX10_wordHere_15 : decode cX10_wordHere 15 = .ok (.getfield 252, 3) := dq_180 (hz_wg wX10_wordHere_0 (j := 15) (n := 180) rfl) (hz_wg wX10_wordHere_0 (j := 16) (n := 0) rfl) (hz_wg wX10_wordHere_0 (j := 17) (n := 252) rfl) rfl
theorem dX10_wordHere_18 : decode cX10_wordHere 18 = .ok (.iadd, 1) := dq_96 (hz_wg wX10_wordHere_0 (j := 18) (n := 96) rfl)
theorem dX10_wordHere_19 : decode cX10_wordHere 19 = .ok (.aload_n 0, 1) := dq_42 (hz_wg wX10_wordHere_0 (j := 19) (n := 42) rfl)
theorem dX10_wordHere_20 : decode cX10_wordHere 20 = .ok (.getfield 236, 3) := dq_180 (hz_wg wX10_wordHere_0 (j := 20) (n := 180) rfl) (hz_wg wX10_wordHere_0 (j := 21) (n := 0) rfl) (hz_wg wX10_wordHere_0 (j := 22) (n := 236) rfl) rfl
theorem dX10_wordHere_23 : decode cX10_wordHere 23 = .ok (.if_icmp .ge 54, 3) := dq_162 (hz_wg wX10_wordHere_0 (j := 23) (n := 162) rfl) (hz_wg wX10_wordHere_0 (j := 24) (n := 0) rfl) (hz_wg wX10_wordHere_0 (j := 25) (n := 54) rfl) (by decide)
theorem dX10_wordHere_26 : decode cX10_wordHere 26 = .ok (.aload_n 0, 1) := dq_42 (hz_wg wX10_wordHere_0 (j := 26) (n := 42) rfl)
theorem dX10_wordHere_27 : decode cX10_wordHere 27 = .ok (.getfield 22, 3) := dq_180 (hz_wg wX10_wordHere_0 (j := 27) (n := 180) rfl) (hz_wg wX10_wordHere_0 (j := 28) (n := 0) rfl) (hz_wg wX10_wordHere_0 (j := 29) (n := 22) rfl) rfl
theorem dX10_wordHere_30 : decode cX10_wordHere 30 = .ok (.aload_n 0, 1) := dq_42 (hz_wg wX10_wordHere_0 (j := 30) (n := 42) rfl)
theorem dX10_wordHere_31 : decode cX10_wordHere 31 = .ok (.getfield 245, 3) := dq_180 (hz_wg wX10_wordHere_0 (j := 31) (n := 180) rfl) (hz_wg wX10_wordHere_0 (j := 32) (n := 0) rfl) (hz_wg wX10_wordHere_0 (j := 33) (n := 245) rfl) rfl
theorem dX10_wordHere_34 : decode cX10_wordHere 34 = .ok (.aload_n 0, 1) := dq_42 (hz_wg wX10_wordHere_0 (j := 34) (n := 42) rfl)
theorem dX10_wordHere_35 : decode cX10_wordHere 35 = .ok (.getfield 252, 3) := dq_180 (hz_wg wX10_wordHere_0 (j := 35) (n := 180) rfl) (hz_wg wX10_wordHere_0 (j := 36) (n := 0) rfl) (hz_wg wX10_wordHere_0 (j := 37) (n := 252) rfl) rfl
theorem dX10_wordHere_38 : decode cX10_wordHere 38 = .ok (.iadd, 1) := dq_96 (hz_wg wX10_wordHere_0 (j := 38) (n := 96) rfl)
theorem dX10_wordHere_39 : decode cX10_wordHere 39 = .ok (.baload, 1) := dq_51 (hz_wg wX10_wordHere_0 (j := 39) (n := 51) rfl)
theorem dX10_wordHere_40 : decode cX10_wordHere 40 = .ok (.bipush 97, 2) := dq_16 (hz_wg wX10_wordHere_0 (j := 40) (n := 16) rfl) (hz_wg wX10_wordHere_0 (j := 41) (n := 97) rfl) (by decide)
theorem dX10_wordHere_42 : decode cX10_wordHere 42 = .ok (.if_icmp .lt 35, 3) := dq_161 (hz_wg wX10_wordHere_0 (j := 42) (n := 161) rfl) (hz_wg wX10_wordHere_0 (j := 43) (n := 0) rfl) (hz_wg wX10_wordHere_0 (j := 44) (n := 35) rfl) (by decide)
theorem dX10_wordHere_45 : decode cX10_wordHere 45 = .ok (.aload_n 0, 1) := dq_42 (hz_wg wX10_wordHere_0 (j := 45) (n := 42) rfl)
theorem dX10_wordHere_46 : decode cX10_wordHere 46 = .ok (.getfield 22, 3) := dq_180 (hz_wg wX10_wordHere_0 (j := 46) (n := 180) rfl) (hz_wg wX10_wordHere_0 (j := 47) (n := 0) rfl) (hz_wg wX10_wordHere_0 (j := 48) (n := 22) rfl) rfl
theorem dX10_wordHere_49 : decode cX10_wordHere 49 = .ok (.aload_n 0, 1) := dq_42 (hz_wg wX10_wordHere_0 (j := 49) (n := 42) rfl)
theorem dX10_wordHere_50 : decode cX10_wordHere 50 = .ok (.getfield 245, 3) := dq_180 (hz_wg wX10_wordHere_0 (j := 50) (n := 180) rfl) (hz_wg wX10_wordHere_0 (j := 51) (n := 0) rfl) (hz_wg wX10_wordHere_0 (j := 52) (n := 245) rfl) rfl
theorem dX10_wordHere_53 : decode cX10_wordHere 53 = .ok (.aload_n 0, 1) := dq_42 (hz_wg wX10_wordHere_0 (j := 53) (n := 42) rfl)
theorem dX10_wordHere_54 : decode cX10_wordHere 54 = .ok (.getfield 252, 3) := dq_180 (hz_wg wX10_wordHere_0 (j := 54) (n := 180) rfl) (hz_wg wX10_wordHere_0 (j := 55) (n := 0) rfl) (hz_wg wX10_wordHere_0 (j := 56) (n := 252) rfl) rfl
theorem dX10_wordHere_57 : decode cX10_wordHere 57 = .ok (.iadd, 1) := dq_96 (hz_wg wX10_wordHere_0 (j := 57) (n := 96) rfl)
theorem dX10_wordHere_58 : decode cX10_wordHere 58 = .ok (.baload, 1) := dq_51 (hz_wg wX10_wordHere_0 (j := 58) (n := 51) rfl)
theorem dX10_wordHere_59 : decode cX10_wordHere 59 = .ok (.bipush 122, 2) := dq_16 (hz_wg wX10_wordHere_0 (j := 59) (n := 16) rfl) (hz_wg wX10_wordHere_0 (j := 60) (n := 122) rfl) (by decide)
theorem dX10_wordHere_61 : decode cX10_wordHere 61 = .ok (.if_icmp .gt 16, 3) := dq_163 (hz_wg wX10_wordHere_0 (j := 61) (n := 163) rfl) (hz_wg wX10_wordHere_0 (j := 62) (n := 0) rfl) (hz_wg wX10_wordHere_0 (j := 63) (n := 16) rfl) (by decide)
theorem dX10_wordHere_64 : decode cX10_wordHere 64 = .ok (.aload_n 0, 1) := dq_42 (hz_wg wX10_wordHere_1 (j := 0) (n := 42) rfl)
theorem dX10_wordHere_65 : decode cX10_wordHere 65 = .ok (.dup, 1) := dq_89 (hz_wg wX10_wordHere_1 (j := 1) (n := 89) rfl)
theorem dX10_wordHere_66 : decode cX10_wordHere 66 = .ok (.getfield 252, 3) := dq_180 (hz_wg wX10_wordHere_1 (j := 2) (n := 180) rfl) (hz_wg wX10_wordHere_1 (j := 3) (n := 0) rfl) (hz_wg wX10_wordHere_1 (j := 4) (n := 252) rfl) rfl
theorem dX10_wordHere_69 : decode cX10_wordHere 69 = .ok (.iconst 1, 1) := dq_4 (hz_wg wX10_wordHere_1 (j := 5) (n := 4) rfl)
theorem dX10_wordHere_70 : decode cX10_wordHere 70 = .ok (.iadd, 1) := dq_96 (hz_wg wX10_wordHere_1 (j := 6) (n := 96) rfl)
theorem dX10_wordHere_71 : decode cX10_wordHere 71 = .ok (.putfield 252, 3) := dq_181 (hz_wg wX10_wordHere_1 (j := 7) (n := 181) rfl) (hz_wg wX10_wordHere_1 (j := 8) (n := 0) rfl) (hz_wg wX10_wordHere_1 (j := 9) (n := 252) rfl) rfl
theorem dX10_wordHere_74 : decode cX10_wordHere 74 = .ok (.goto (-64), 3) := dq_167 (hz_wg wX10_wordHere_1 (j := 10) (n := 167) rfl) (hz_wg wX10_wordHere_1 (j := 11) (n := 255) rfl) (hz_wg wX10_wordHere_1 (j := 12) (n := 192) rfl) (by decide)
theorem dX10_wordHere_77 : decode cX10_wordHere 77 = .ok (.iconst 0, 1) := dq_3 (hz_wg wX10_wordHere_1 (j := 13) (n := 3) rfl)
theorem dX10_wordHere_78 : decode cX10_wordHere 78 = .ok (.istore_n 1, 1) := dq_60 (hz_wg wX10_wordHere_1 (j := 14) (n := 60) rfl)
theorem dX10_wordHere_79 : decode cX10_wordHere 79 = .ok (.iload_n 1, 1) := dq_27 (hz_wg wX10_wordHere_1 (j := 15) (n := 27) rfl)
theorem dX10_wordHere_80 : decode cX10_wordHere 80 = .ok (.bipush 25, 2) := dq_16 (hz_wg wX10_wordHere_1 (j := 16) (n := 16) rfl) (hz_wg wX10_wordHere_1 (j := 17) (n := 25) rfl) (by decide)
theorem dX10_wordHere_82 : decode cX10_wordHere 82 = .ok (.if_icmp .ge 118, 3) := dq_162 (hz_wg wX10_wordHere_1 (j := 18) (n := 162) rfl) (hz_wg wX10_wordHere_1 (j := 19) (n := 0) rfl) (hz_wg wX10_wordHere_1 (j := 20) (n := 118) rfl) (by decide)
theorem dX10_wordHere_85 : decode cX10_wordHere 85 = .ok (.aload_n 0, 1) := dq_42 (hz_wg wX10_wordHere_1 (j := 21) (n := 42) rfl)
theorem dX10_wordHere_86 : decode cX10_wordHere 86 = .ok (.getfield 252, 3) := dq_180 (hz_wg wX10_wordHere_1 (j := 22) (n := 180) rfl) (hz_wg wX10_wordHere_1 (j := 23) (n := 0) rfl) (hz_wg wX10_wordHere_1 (j := 24) (n := 252) rfl) rfl
theorem dX10_wordHere_89 : decode cX10_wordHere 89 = .ok (.bipush 7, 2) := dq_16 (hz_wg wX10_wordHere_1 (j := 25) (n := 16) rfl) (hz_wg wX10_wordHere_1 (j := 26) (n := 7) rfl) (by decide)
theorem dX10_wordHere_91 : decode cX10_wordHere 91 = .ok (.if_icmp .gt 109, 3) := dq_163 (hz_wg wX10_wordHere_1 (j := 27) (n := 163) rfl) (hz_wg wX10_wordHere_1 (j := 28) (n := 0) rfl) (hz_wg wX10_wordHere_1 (j := 29) (n := 109) rfl) (by decide)
theorem dX10_wordHere_94 : decode cX10_wordHere 94 = .ok (.iconst 0, 1) := dq_3 (hz_wg wX10_wordHere_1 (j := 30) (n := 3) rfl)
theorem dX10_wordHere_95 : decode cX10_wordHere 95 = .ok (.istore_n 2, 1) := dq_61 (hz_wg wX10_wordHere_1 (j := 31) (n := 61) rfl)
theorem dX10_wordHere_96 : decode cX10_wordHere 96 = .ok (.iload_n 2, 1) := dq_28 (hz_wg wX10_wordHere_1 (j := 32) (n := 28) rfl)
theorem dX10_wordHere_97 : decode cX10_wordHere 97 = .ok (.bipush 7, 2) := dq_16 (hz_wg wX10_wordHere_1 (j := 33) (n := 16) rfl) (hz_wg wX10_wordHere_1 (j := 34) (n := 7) rfl) (by decide)
theorem dX10_wordHere_99 : decode cX10_wordHere 99 = .ok (.if_icmp .ge 23, 3) := dq_162 (hz_wg wX10_wordHere_1 (j := 35) (n := 162) rfl) (hz_wg wX10_wordHere_1 (j := 36) (n := 0) rfl) (hz_wg wX10_wordHere_1 (j := 37) (n := 23) rfl) (by decide)
theorem dX10_wordHere_102 : decode cX10_wordHere 102 = .ok (.aload_n 0, 1) := dq_42 (hz_wg wX10_wordHere_1 (j := 38) (n := 42) rfl)
theorem dX10_wordHere_103 : decode cX10_wordHere 103 = .ok (.getfield 35, 3) := dq_180 (hz_wg wX10_wordHere_1 (j := 39) (n := 180) rfl) (hz_wg wX10_wordHere_1 (j := 40) (n := 0) rfl) (hz_wg wX10_wordHere_1 (j := 41) (n := 35) rfl) rfl
theorem dX10_wordHere_106 : decode cX10_wordHere 106 = .ok (.bipush 7, 2) := dq_16 (hz_wg wX10_wordHere_1 (j := 42) (n := 16) rfl) (hz_wg wX10_wordHere_1 (j := 43) (n := 7) rfl) (by decide)
theorem dX10_wordHere_108 : decode cX10_wordHere 108 = .ok (.iload_n 1, 1) := dq_27 (hz_wg wX10_wordHere_1 (j := 44) (n := 27) rfl)
theorem dX10_wordHere_109 : decode cX10_wordHere 109 = .ok (.imul, 1) := dq_104 (hz_wg wX10_wordHere_1 (j := 45) (n := 104) rfl)
theorem dX10_wordHere_110 : decode cX10_wordHere 110 = .ok (.iload_n 2, 1) := dq_28 (hz_wg wX10_wordHere_1 (j := 46) (n := 28) rfl)
theorem dX10_wordHere_111 : decode cX10_wordHere 111 = .ok (.iadd, 1) := dq_96 (hz_wg wX10_wordHere_1 (j := 47) (n := 96) rfl)
theorem dX10_wordHere_112 : decode cX10_wordHere 112 = .ok (.baload, 1) := dq_51 (hz_wg wX10_wordHere_1 (j := 48) (n := 51) rfl)
theorem dX10_wordHere_113 : decode cX10_wordHere 113 = .ok (.ifCond .eq 9, 3) := dq_153 (hz_wg wX10_wordHere_1 (j := 49) (n := 153) rfl) (hz_wg wX10_wordHere_1 (j := 50) (n := 0) rfl) (hz_wg wX10_wordHere_1 (j := 51) (n := 9) rfl) (by decide)
theorem dX10_wordHere_116 : decode cX10_wordHere 116 = .ok (.iinc 2 1, 3) := dq_132 (hz_wg wX10_wordHere_1 (j := 52) (n := 132) rfl) (hz_wg wX10_wordHere_1 (j := 53) (n := 2) rfl) (hz_wg wX10_wordHere_1 (j := 54) (n := 1) rfl) (by decide)
theorem dX10_wordHere_119 : decode cX10_wordHere 119 = .ok (.goto (-23), 3) := dq_167 (hz_wg wX10_wordHere_1 (j := 55) (n := 167) rfl) (hz_wg wX10_wordHere_1 (j := 56) (n := 255) rfl) (hz_wg wX10_wordHere_1 (j := 57) (n := 233) rfl) (by decide)
theorem dX10_wordHere_122 : decode cX10_wordHere 122 = .ok (.iload_n 2, 1) := dq_28 (hz_wg wX10_wordHere_1 (j := 58) (n := 28) rfl)
theorem dX10_wordHere_123 : decode cX10_wordHere 123 = .ok (.aload_n 0, 1) := dq_42 (hz_wg wX10_wordHere_1 (j := 59) (n := 42) rfl)
theorem dX10_wordHere_124 : decode cX10_wordHere 124 = .ok (.getfield 252, 3) := dq_180 (hz_wg wX10_wordHere_1 (j := 60) (n := 180) rfl) (hz_wg wX10_wordHere_1 (j := 61) (n := 0) rfl) (hz_wg wX10_wordHere_1 (j := 62) (n := 252) rfl) rfl
theorem dX10_wordHere_127 : decode cX10_wordHere 127 = .ok (.if_icmp .ne 7, 3) := dq_160 (hz_wg wX10_wordHere_1 (j := 63) (n := 160) rfl) (hz_wg wX10_wordHere_2 (j := 0) (n := 0) rfl) (hz_wg wX10_wordHere_2 (j := 1) (n := 7) rfl) (by decide)
theorem dX10_wordHere_130 : decode cX10_wordHere 130 = .ok (.iconst 1, 1) := dq_4 (hz_wg wX10_wordHere_2 (j := 2) (n := 4) rfl)
theorem dX10_wordHere_131 : decode cX10_wordHere 131 = .ok (.goto 4, 3) := dq_167 (hz_wg wX10_wordHere_2 (j := 3) (n := 167) rfl) (hz_wg wX10_wordHere_2 (j := 4) (n := 0) rfl) (hz_wg wX10_wordHere_2 (j := 5) (n := 4) rfl) (by decide)
theorem dX10_wordHere_134 : decode cX10_wordHere 134 = .ok (.iconst 0, 1) := dq_3 (hz_wg wX10_wordHere_2 (j := 6) (n := 3) rfl)
theorem dX10_wordHere_135 : decode cX10_wordHere 135 = .ok (.istore_n 3, 1) := dq_62 (hz_wg wX10_wordHere_2 (j := 7) (n := 62) rfl)
theorem dX10_wordHere_136 : decode cX10_wordHere 136 = .ok (.iconst 0, 1) := dq_3 (hz_wg wX10_wordHere_2 (j := 8) (n := 3) rfl)
theorem dX10_wordHere_137 : decode cX10_wordHere 137 = .ok (.istore 4, 2) := dq_54 (hz_wg wX10_wordHere_2 (j := 9) (n := 54) rfl) (hz_wg wX10_wordHere_2 (j := 10) (n := 4) rfl)
theorem dX10_wordHere_139 : decode cX10_wordHere 139 = .ok (.iload_n 3, 1) := dq_29 (hz_wg wX10_wordHere_2 (j := 11) (n := 29) rfl)
theorem dX10_wordHere_140 : decode cX10_wordHere 140 = .ok (.ifCond .eq 48, 3) := dq_153 (hz_wg wX10_wordHere_2 (j := 12) (n := 153) rfl) (hz_wg wX10_wordHere_2 (j := 13) (n := 0) rfl) (hz_wg wX10_wordHere_2 (j := 14) (n := 48) rfl) (by decide)
theorem dX10_wordHere_143 : decode cX10_wordHere 143 = .ok (.iload 4, 2) := dq_21 (hz_wg wX10_wordHere_2 (j := 15) (n := 21) rfl) (hz_wg wX10_wordHere_2 (j := 16) (n := 4) rfl)
theorem dX10_wordHere_145 : decode cX10_wordHere 145 = .ok (.iload_n 2, 1) := dq_28 (hz_wg wX10_wordHere_2 (j := 17) (n := 28) rfl)
theorem dX10_wordHere_146 : decode cX10_wordHere 146 = .ok (.if_icmp .ge 42, 3) := dq_162 (hz_wg wX10_wordHere_2 (j := 18) (n := 162) rfl) (hz_wg wX10_wordHere_2 (j := 19) (n := 0) rfl) (hz_wg wX10_wordHere_2 (j := 20) (n := 42) rfl) (by decide)
theorem dX10_wordHere_149 : decode cX10_wordHere 149 = .ok (.aload_n 0, 1) := dq_42 (hz_wg wX10_wordHere_2 (j := 21) (n := 42) rfl)
theorem dX10_wordHere_150 : decode cX10_wordHere 150 = .ok (.getfield 35, 3) := dq_180 (hz_wg wX10_wordHere_2 (j := 22) (n := 180) rfl) (hz_wg wX10_wordHere_2 (j := 23) (n := 0) rfl) (hz_wg wX10_wordHere_2 (j := 24) (n := 35) rfl) rfl
theorem dX10_wordHere_153 : decode cX10_wordHere 153 = .ok (.bipush 7, 2) := dq_16 (hz_wg wX10_wordHere_2 (j := 25) (n := 16) rfl) (hz_wg wX10_wordHere_2 (j := 26) (n := 7) rfl) (by decide)
theorem dX10_wordHere_155 : decode cX10_wordHere 155 = .ok (.iload_n 1, 1) := dq_27 (hz_wg wX10_wordHere_2 (j := 27) (n := 27) rfl)
theorem dX10_wordHere_156 : decode cX10_wordHere 156 = .ok (.imul, 1) := dq_104 (hz_wg wX10_wordHere_2 (j := 28) (n := 104) rfl)
theorem dX10_wordHere_157 : decode cX10_wordHere 157 = .ok (.iload 4, 2) := dq_21 (hz_wg wX10_wordHere_2 (j := 29) (n := 21) rfl) (hz_wg wX10_wordHere_2 (j := 30) (n := 4) rfl)
theorem dX10_wordHere_159 : decode cX10_wordHere 159 = .ok (.iadd, 1) := dq_96 (hz_wg wX10_wordHere_2 (j := 31) (n := 96) rfl)
theorem dX10_wordHere_160 : decode cX10_wordHere 160 = .ok (.baload, 1) := dq_51 (hz_wg wX10_wordHere_2 (j := 32) (n := 51) rfl)
theorem dX10_wordHere_161 : decode cX10_wordHere 161 = .ok (.aload_n 0, 1) := dq_42 (hz_wg wX10_wordHere_2 (j := 33) (n := 42) rfl)
theorem dX10_wordHere_162 : decode cX10_wordHere 162 = .ok (.getfield 22, 3) := dq_180 (hz_wg wX10_wordHere_2 (j := 34) (n := 180) rfl) (hz_wg wX10_wordHere_2 (j := 35) (n := 0) rfl) (hz_wg wX10_wordHere_2 (j := 36) (n := 22) rfl) rfl
theorem dX10_wordHere_165 : decode cX10_wordHere 165 = .ok (.aload_n 0, 1) := dq_42 (hz_wg wX10_wordHere_2 (j := 37) (n := 42) rfl)
theorem dX10_wordHere_166 : decode cX10_wordHere 166 = .ok (.getfield 245, 3) := dq_180 (hz_wg wX10_wordHere_2 (j := 38) (n := 180) rfl) (hz_wg wX10_wordHere_2 (j := 39) (n := 0) rfl) (hz_wg wX10_wordHere_2 (j := 40) (n := 245) rfl) rfl
theorem dX10_wordHere_169 : decode cX10_wordHere 169 = .ok (.iload 4, 2) := dq_21 (hz_wg wX10_wordHere_2 (j := 41) (n := 21) rfl) (hz_wg wX10_wordHere_2 (j := 42) (n := 4) rfl)
theorem dX10_wordHere_171 : decode cX10_wordHere 171 = .ok (.iadd, 1) := dq_96 (hz_wg wX10_wordHere_2 (j := 43) (n := 96) rfl)
theorem dX10_wordHere_172 : decode cX10_wordHere 172 = .ok (.baload, 1) := dq_51 (hz_wg wX10_wordHere_2 (j := 44) (n := 51) rfl)
theorem dX10_wordHere_173 : decode cX10_wordHere 173 = .ok (.if_icmp .ne 7, 3) := dq_160 (hz_wg wX10_wordHere_2 (j := 45) (n := 160) rfl) (hz_wg wX10_wordHere_2 (j := 46) (n := 0) rfl) (hz_wg wX10_wordHere_2 (j := 47) (n := 7) rfl) (by decide)
theorem dX10_wordHere_176 : decode cX10_wordHere 176 = .ok (.iconst 1, 1) := dq_4 (hz_wg wX10_wordHere_2 (j := 48) (n := 4) rfl)
theorem dX10_wordHere_177 : decode cX10_wordHere 177 = .ok (.goto 4, 3) := dq_167 (hz_wg wX10_wordHere_2 (j := 49) (n := 167) rfl) (hz_wg wX10_wordHere_2 (j := 50) (n := 0) rfl) (hz_wg wX10_wordHere_2 (j := 51) (n := 4) rfl) (by decide)
theorem dX10_wordHere_180 : decode cX10_wordHere 180 = .ok (.iconst 0, 1) := dq_3 (hz_wg wX10_wordHere_2 (j := 52) (n := 3) rfl)
theorem dX10_wordHere_181 : decode cX10_wordHere 181 = .ok (.istore_n 3, 1) := dq_62 (hz_wg wX10_wordHere_2 (j := 53) (n := 62) rfl)
theorem dX10_wordHere_182 : decode cX10_wordHere 182 = .ok (.iinc 4 1, 3) := dq_132 (hz_wg wX10_wordHere_2 (j := 54) (n := 132) rfl) (hz_wg wX10_wordHere_2 (j := 55) (n := 4) rfl) (hz_wg wX10_wordHere_2 (j := 56) (n := 1) rfl) (by decide)
theorem dX10_wordHere_185 : decode cX10_wordHere 185 = .ok (.goto (-46), 3) := dq_167 (hz_wg wX10_wordHere_2 (j := 57) (n := 167) rfl) (hz_wg wX10_wordHere_2 (j := 58) (n := 255) rfl) (hz_wg wX10_wordHere_2 (j := 59) (n := 210) rfl) (by decide)
theorem dX10_wordHere_188 : decode cX10_wordHere 188 = .ok (.iload_n 3, 1) := dq_29 (hz_wg wX10_wordHere_2 (j := 60) (n := 29) rfl)
theorem dX10_wordHere_189 : decode cX10_wordHere 189 = .ok (.ifCond .eq 5, 3) := dq_153 (hz_wg wX10_wordHere_2 (j := 61) (n := 153) rfl) (hz_wg wX10_wordHere_2 (j := 62) (n := 0) rfl) (hz_wg wX10_wordHere_2 (j := 63) (n := 5) rfl) (by decide)
theorem dX10_wordHere_192 : decode cX10_wordHere 192 = .ok (.iload_n 1, 1) := dq_27 (hz_wg wX10_wordHere_3 (j := 0) (n := 27) rfl)
theorem dX10_wordHere_193 : decode cX10_wordHere 193 = .ok (.ireturn, 1) := dq_172 (hz_wg wX10_wordHere_3 (j := 1) (n := 172) rfl)
theorem dX10_wordHere_194 : decode cX10_wordHere 194 = .ok (.iinc 1 1, 3) := dq_132 (hz_wg wX10_wordHere_3 (j := 2) (n := 132) rfl) (hz_wg wX10_wordHere_3 (j := 3) (n := 1) rfl) (hz_wg wX10_wordHere_3 (j := 4) (n := 1) rfl) (by decide)
theorem dX10_wordHere_197 : decode cX10_wordHere 197 = .ok (.goto (-118), 3) := dq_167 (hz_wg wX10_wordHere_3 (j := 5) (n := 167) rfl) (hz_wg wX10_wordHere_3 (j := 6) (n := 255) rfl) (hz_wg wX10_wordHere_3 (j := 7) (n := 138) rfl) (by decide)
theorem dX10_wordHere_200 : decode cX10_wordHere 200 = .ok (.iconst (-1), 1) := dq_2 (hz_wg wX10_wordHere_3 (j := 8) (n := 2) rfl)
theorem dX10_wordHere_201 : decode cX10_wordHere 201 = .ok (.ireturn, 1) := dq_172 (hz_wg wX10_wordHere_3 (j := 9) (n := 172) rfl)
set_option maxHeartbeats 4000000 in
set_option maxRecDepth 100000 in
theorem t_X10_wordHere (l : Launch) (dC : Nat → ClassId) (dI : Nat → Nat → Nat) (dA : Nat → ClassId) (L : List Nat) (h : hx_h) (sz : Nat) (x : Nat) (hT : hx_T T_tb L h) (gx : hx_g L h x 10) (qt : Nat) (gqt : hx_g L h qt 53) (f_x_6 : h.2.2 x 6 = some qt) (qw : Nat) (gqw : hx_g L h qw 57) (f_x_19 : h.2.2 x 19 = some qw) (tf : Nat → Int32) (af_qt : h.2.1 qt = tf) (wf : Nat → Int32) (af_qw : h.2.1 qw = wf) (nx0 : Int32) (f_x_8 : h.2.1 x 8 = nx0) (tp0 : Int32) (f_x_7 : h.2.1 x 7 = tp0) (hwd : hx_wd wf) : Met l yX10_wordHere (Cond.code yX10_wordHere cX10_wordHere 5 (some .int) :: hx_all) ({ frames := 1, cells := 0, slots := 0, locals := 20 }) (va_Pc [.ref x] (hx_B T_tb (P_ty dA) (dC, dI) vwCl L h sz)) (va_Qi (fun (r : Int32) (u : List Nat × hx_h) => (∃ (nx1 : Int32) (ws1 : Int32), u.2.2.1 x 8 = nx1 ∧ u.2.2.1 x 11 = ws1 ∧ (nx0.toInt ≤ nx1.toInt ∧ (nx1.toInt = nx0.toInt ∨ nx1.toInt ≤ tp0.toInt) ∧ 0 ≤ ws1.toInt ∧ (r.toInt = -1 ∨ (0 ≤ r.toInt ∧ r.toInt ≤ 24 ∧ nx1.toInt + ws1.toInt ≤ tp0.toInt ∧ 1 ≤ ws1.toInt ∧ (r.toInt = 0 → ws1.toInt = 2) ∧ (r.toInt = 1 → ws1.toInt = 3) ∧ (r.toInt = 2 → ws1.toInt = 3) ∧ (3 ≤ r.toInt ∧ r.toInt ≤ 10 → 3 ≤ ws1.toInt) ∧ (r.toInt = 20 → ws1.toInt = 5))))) ∧ hx_T T_tb u.1 u.2 ∧ hx_S T_tb [(10, 8), (10, 11)] L h u.1 u.2) (hx_E T_tb (P_ty dA) (dC, dI) vwCl (hx_A L sz)) (hx_A L sz)) 0 0 (hx_A L sz) := by
  refine hx_met (lv := [(0, .ref x)]) (by decide +kernel) rfl (Nat.le_of_ble_eq_true rfl) rfl ?_
  intro p e s m below meth c hx hb hml hr hlk hts0 hown hin hsz hW ls hl
  have hts : ∀ w ∈ hx_all, w.before _ s = true := fun w hw => hts0 w (List.mem_cons_of_mem _ hw)
  have hown : s.vm.findClass "SmallCourtModel" = some m.cls := hown
  have hM : hx_S T_tb [(10, 8), (10, 11)] L h L h := hx_S.rf
  have b_nx0 := hT.gi gx tt_10 (k := 8) rfl
  rw [f_x_8] at b_nx0
  have b_nx0 : 0 ≤ nx0.toInt ∧ nx0.toInt ≤ 402 := b_nx0
  have b_tp0 := hT.gi gx tt_10 (k := 7) rfl
  rw [f_x_7] at b_tp0
  have b_tp0 : 0 ≤ tp0.toInt ∧ tp0.toInt ≤ 400 := b_tp0
  refine lv_aload_n hx hb dX10_wordHere_0 rfl (lv_at hl 0 rfl) ?_
  refine hx_goi (hx_runV (As := []) (rest := []) ⟨hx, hb, hml, hown, hts⟩ hW (gx.S hM) tt_10 (T := TX10) (N := 98) rfl (t_X10_see l dC dI dA L h s.heap.size x hT (gx.S hM) qt (gqt.S hM) ((hM.o gx trivial rfl).2.trans f_x_6) tf (hx_afS hM gqt rfl af_qt) nx0 f_x_8 tp0 ((hM.o gx trivial rfl).1.trans f_x_7)) (cwV 0 hts (hx_gV kw_1468 kw_1465 kw_1467 kw_53 kw_103) rfl rfl rfl (by decide +kernel) ⟨Nat.le_of_ble_eq_true rfl, Nat.le_of_ble_eq_true rfl⟩) rfl hl.1 rfl (Nat.le_of_ble_eq_true rfl) dX10_wordHere_1 ⟨Nat.le_of_ble_eq_true rfl, Nat.le_of_ble_eq_true rfl⟩) hW (fun r_3 L_1 h_2 H locs p_4 hW => ?_)
  obtain ⟨⟨w_6, fw_6, hr_5⟩, hT, hs⟩ := p_4
  replace hT : hx_T T_tb L_1 h_2 := hT
  replace hs : hx_S T_tb [(10, 8)] L h L_1 h_2 := hs
  replace hM := hM.tr (hs.mono (by decide))
  have fw_6 : h_2.2.1 x 8 = w_6 := fw_6
  have bw_6 := hT.gi (gx.S hM) tt_10 (k := 8) rfl
  rw [fw_6] at bw_6
  have bw_6 : 0 ≤ w_6.toInt ∧ w_6.toInt ≤ 402 := bw_6
  refine lv_pop hx hb dX10_wordHere_4 rfl ?_
  refine lv_aload_n hx hb dX10_wordHere_5 rfl (lv_at hl 0 rfl) ?_
  refine lv_iconst (v := 0) hx hb dX10_wordHere_6 (by decide) ?_
  refine hx_puti hx hb hts hC_10 hown hW hT (hx_S.rf (M := [(10, 11)])) (gx.S hM) tt_10 11 (by decide) rfl kw_1154 ⟨rfl, rfl, rfl⟩ rfl (x := (0 : Int32)) (by decide) rfl rfl rfl (List.mem_singleton.mpr rfl) dX10_wordHere_7 (fun H locs h_7 eh_7 hW hT hs => ?_)
  replace fw_6 := (hs.o (gx.S hM) trivial rfl).1.trans fw_6
  replace hM := hM.tr (hs.mono (by decide))
  have f_8 : h_7.2.1 x 11 = (0 : Int32) := by rw [eh_7]; exact hx_pi_at _ _ _ _
  have loop10 : ∀ (n10 : Nat) (fw10_x_11 : Int32) (H : Heap) (locs : List Loc) (hL1 : List Nat) (hl1 : hx_h), 0 ≤ fw10_x_11.toInt → fw10_x_11.toInt ≤ 400 → (fw10_x_11.toInt = 0 ∨ w_6.toInt + fw10_x_11.toInt ≤ tp0.toInt) → ∀ (ls : Array Slot), 400 - fw10_x_11.toInt < (n10 : Int) → hx_W T_tb (P_ty dA) (dC, dI) vwCl (hx_A L sz) s.heap hL1 hl1 s H locs → hx_T T_tb hL1 hl1 → hx_S T_tb [(10, 8), (10, 11)] L h hL1 hl1 → hl1.2.1 x 11 = fw10_x_11 → hl1.2.1 x 8 = w_6 → lv_has ls 5 [(0, .ref x)] → W p l e ({ frames := 1, cells := 0, slots := 0, locals := 20 }) s m ([.ref x] : List Value).toArray below meth c H locs 0 0 (MQ below (va_Qi (fun (r : Int32) (u : List Nat × hx_h) => (∃ (nx1 : Int32) (ws1 : Int32), u.2.2.1 x 8 = nx1 ∧ u.2.2.1 x 11 = ws1 ∧ (nx0.toInt ≤ nx1.toInt ∧ (nx1.toInt = nx0.toInt ∨ nx1.toInt ≤ tp0.toInt) ∧ 0 ≤ ws1.toInt ∧ (r.toInt = -1 ∨ (0 ≤ r.toInt ∧ r.toInt ≤ 24 ∧ nx1.toInt + ws1.toInt ≤ tp0.toInt ∧ 1 ≤ ws1.toInt ∧ (r.toInt = 0 → ws1.toInt = 2) ∧ (r.toInt = 1 → ws1.toInt = 3) ∧ (r.toInt = 2 → ws1.toInt = 3) ∧ (3 ≤ r.toInt ∧ r.toInt ≤ 10 → 3 ≤ ws1.toInt) ∧ (r.toInt = 20 → ws1.toInt = 5))))) ∧ hx_T T_tb u.1 u.2 ∧ hx_S T_tb [(10, 8), (10, 11)] L h u.1 u.2) (hx_E T_tb (P_ty dA) (dC, dI) vwCl (hx_A L sz)) (hx_A L sz)) ([.ref x] : List Value).toArray s 0 0 (hx_A L sz)) (F0 m 10 ls []) := by
    intro n10
    induction n10 with
    | zero => intro fw10_x_11 H locs hL1 hl1 blfw10_x_11 bufw10_x_11 vi10_0 ls hn10; exfalso; omega
    | succ n10 ih10 =>
      intro fw10_x_11 H locs hL1 hl1 blfw10_x_11 bufw10_x_11 vi10_0 ls hn10 hW hT hM ffw10_x_11 fw_6  hl
      refine lv_aload_n hx hb dX10_wordHere_10 rfl (lv_at hl 0 rfl) ?_
      refine hk_geti hx hb hts hC_10 hown hW (gx.S hM) tt_10 8 (by decide) rfl kw_1151 ⟨rfl, rfl, rfl⟩ fw_6 dX10_wordHere_11 ?_
      refine lv_aload_n hx hb dX10_wordHere_14 rfl (lv_at hl 0 rfl) ?_
      refine hk_geti hx hb hts hC_10 hown hW (gx.S hM) tt_10 11 (by decide) rfl kw_1154 ⟨rfl, rfl, rfl⟩ ffw10_x_11 dX10_wordHere_15 ?_
      refine lv_iadd hx hb dX10_wordHere_18 ?_
      have rg_9 := i32_r w_6
      have rg_10 := i32_r fw10_x_11
      refine lv_topi (fun x_11 ex_11 => ?_)
      have zx_11 : x_11.toInt = w_6.toInt + fw10_x_11.toInt := by rw [ex_11]; exact i32_add rfl rfl (by omega) (by omega)
      refine lv_aload_n hx hb dX10_wordHere_19 rfl (lv_at hl 0 rfl) ?_
      refine hk_geti hx hb hts hC_10 hown hW (gx.S hM) tt_10 7 (by decide) rfl kw_1150 ⟨rfl, rfl, rfl⟩ ((hM.o gx trivial rfl).1.trans f_x_7) dX10_wordHere_20 ?_
      refine hb_icmp_ge (zx := x_11.toInt) (zy := tp0.toInt) (tgt := 77) hx hb rfl rfl dX10_wordHere_23 (by decide) (fun c_12 => ?_) (fun c_12 => ?_)
      · skip
        refine lv_iconst (v := 0) hx hb dX10_wordHere_77 (by decide) ?_
        refine lv_istore_n (lv' := [(1, .int (0 : Int32)), (0, .ref x)]) hx hb dX10_wordHere_78 rfl hl (by decide) rfl (fun ls hl => ?_)
        have loop79 : ∀ (n79 : Nat) (iv79_1 : Int32) (H : Heap) (locs : List Loc) (hL1 : List Nat) (hl1 : hx_h), 0 ≤ iv79_1.toInt → iv79_1.toInt ≤ 25 → ∀ (ls : Array Slot), 25 - iv79_1.toInt < (n79 : Int) → hx_W T_tb (P_ty dA) (dC, dI) vwCl (hx_A L sz) s.heap hL1 hl1 s H locs → hx_T T_tb hL1 hl1 → hx_S T_tb [(10, 8), (10, 11)] L h hL1 hl1 → hl1.2.1 x 8 = w_6 → hl1.2.1 x 11 = fw10_x_11 → lv_has ls 5 [(1, .int iv79_1), (0, .ref x)] → W p l e ({ frames := 1, cells := 0, slots := 0, locals := 20 }) s m ([.ref x] : List Value).toArray below meth c H locs 0 0 (MQ below (va_Qi (fun (r : Int32) (u : List Nat × hx_h) => (∃ (nx1 : Int32) (ws1 : Int32), u.2.2.1 x 8 = nx1 ∧ u.2.2.1 x 11 = ws1 ∧ (nx0.toInt ≤ nx1.toInt ∧ (nx1.toInt = nx0.toInt ∨ nx1.toInt ≤ tp0.toInt) ∧ 0 ≤ ws1.toInt ∧ (r.toInt = -1 ∨ (0 ≤ r.toInt ∧ r.toInt ≤ 24 ∧ nx1.toInt + ws1.toInt ≤ tp0.toInt ∧ 1 ≤ ws1.toInt ∧ (r.toInt = 0 → ws1.toInt = 2) ∧ (r.toInt = 1 → ws1.toInt = 3) ∧ (r.toInt = 2 → ws1.toInt = 3) ∧ (3 ≤ r.toInt ∧ r.toInt ≤ 10 → 3 ≤ ws1.toInt) ∧ (r.toInt = 20 → ws1.toInt = 5))))) ∧ hx_T T_tb u.1 u.2 ∧ hx_S T_tb [(10, 8), (10, 11)] L h u.1 u.2) (hx_E T_tb (P_ty dA) (dC, dI) vwCl (hx_A L sz)) (hx_A L sz)) ([.ref x] : List Value).toArray s 0 0 (hx_A L sz)) (F0 m 79 ls []) := by
          intro n79
          induction n79 with
          | zero => intro iv79_1 H locs hL1 hl1 bliv79_1 buiv79_1  ls hn79; exfalso; omega
          | succ n79 ih79 =>
            intro iv79_1 H locs hL1 hl1 bliv79_1 buiv79_1  ls hn79 hW hT hM fw_6 ffw10_x_11  hl
            refine lv_iload_n hx hb dX10_wordHere_79 rfl (lv_at hl 0 rfl) ?_
            refine lv_bipush (v := 25) hx hb dX10_wordHere_80 (by decide) ?_
            refine hb_icmp_ge (zx := iv79_1.toInt) (zy := 25) (tgt := 200) hx hb rfl (by decide) dX10_wordHere_82 (by decide) (fun c_13 => ?_) (fun c_13 => ?_)
            · skip
              refine lv_iconst (v := -1) hx hb dX10_wordHere_200 (by decide) ?_
              exact hx_reti hx hb hr hlk hW ⟨⟨w_6, fw10_x_11, fw_6, ffw10_x_11, (by have zr : (-1 : Int32).toInt = -1 := (by decide); omega)⟩, hT, hM⟩ dX10_wordHere_201
            · skip
              refine lv_aload_n hx hb dX10_wordHere_85 rfl (lv_at hl 1 rfl) ?_
              refine hk_geti hx hb hts hC_10 hown hW (gx.S hM) tt_10 11 (by decide) rfl kw_1154 ⟨rfl, rfl, rfl⟩ ffw10_x_11 dX10_wordHere_86 ?_
              refine lv_bipush (v := 7) hx hb dX10_wordHere_89 (by decide) ?_
              refine hb_icmp_gt (zx := fw10_x_11.toInt) (zy := 7) (tgt := 200) hx hb rfl (by decide) dX10_wordHere_91 (by decide) (fun c_14 => ?_) (fun c_14 => ?_)
              · skip
                refine lv_iconst (v := -1) hx hb dX10_wordHere_200 (by decide) ?_
                exact hx_reti hx hb hr hlk hW ⟨⟨w_6, fw10_x_11, fw_6, ffw10_x_11, (by have zr : (-1 : Int32).toInt = -1 := (by decide); omega)⟩, hT, hM⟩ dX10_wordHere_201
              · skip
                refine lv_iconst (v := 0) hx hb dX10_wordHere_94 (by decide) ?_
                refine lv_istore_n (lv' := [(2, .int (0 : Int32)), (1, .int iv79_1), (0, .ref x)]) hx hb dX10_wordHere_95 rfl hl (by decide) rfl (fun ls hl => ?_)
                have loop96 : ∀ (n96 : Nat) (iv96_2 : Int32) (H : Heap) (locs : List Loc) (hL1 : List Nat) (hl1 : hx_h), 0 ≤ iv96_2.toInt → iv96_2.toInt ≤ 7 → (hx_wp wf iv79_1.toInt iv96_2.toInt) → ∀ (ls : Array Slot), 7 - iv96_2.toInt < (n96 : Int) → hx_W T_tb (P_ty dA) (dC, dI) vwCl (hx_A L sz) s.heap hL1 hl1 s H locs → hx_T T_tb hL1 hl1 → hx_S T_tb [(10, 8), (10, 11)] L h hL1 hl1 → hl1.2.1 x 8 = w_6 → hl1.2.1 x 11 = fw10_x_11 → lv_has ls 5 [(2, .int iv96_2), (1, .int iv79_1), (0, .ref x)] → W p l e ({ frames := 1, cells := 0, slots := 0, locals := 20 }) s m ([.ref x] : List Value).toArray below meth c H locs 0 0 (MQ below (va_Qi (fun (r : Int32) (u : List Nat × hx_h) => (∃ (nx1 : Int32) (ws1 : Int32), u.2.2.1 x 8 = nx1 ∧ u.2.2.1 x 11 = ws1 ∧ (nx0.toInt ≤ nx1.toInt ∧ (nx1.toInt = nx0.toInt ∨ nx1.toInt ≤ tp0.toInt) ∧ 0 ≤ ws1.toInt ∧ (r.toInt = -1 ∨ (0 ≤ r.toInt ∧ r.toInt ≤ 24 ∧ nx1.toInt + ws1.toInt ≤ tp0.toInt ∧ 1 ≤ ws1.toInt ∧ (r.toInt = 0 → ws1.toInt = 2) ∧ (r.toInt = 1 → ws1.toInt = 3) ∧ (r.toInt = 2 → ws1.toInt = 3) ∧ (3 ≤ r.toInt ∧ r.toInt ≤ 10 → 3 ≤ ws1.toInt) ∧ (r.toInt = 20 → ws1.toInt = 5))))) ∧ hx_T T_tb u.1 u.2 ∧ hx_S T_tb [(10, 8), (10, 11)] L h u.1 u.2) (hx_E T_tb (P_ty dA) (dC, dI) vwCl (hx_A L sz)) (hx_A L sz)) ([.ref x] : List Value).toArray s 0 0 (hx_A L sz)) (F0 m 96 ls []) := by
                  intro n96
                  induction n96 with
                  | zero => intro iv96_2 H locs hL1 hl1 bliv96_2 buiv96_2 vi96_0 ls hn96; exfalso; omega
                  | succ n96 ih96 =>
                    intro iv96_2 H locs hL1 hl1 bliv96_2 buiv96_2 vi96_0 ls hn96 hW hT hM fw_6 ffw10_x_11  hl
                    refine lv_iload_n hx hb dX10_wordHere_96 rfl (lv_at hl 0 rfl) ?_
                    refine lv_bipush (v := 7) hx hb dX10_wordHere_97 (by decide) ?_
                    refine hb_icmp_ge (zx := iv96_2.toInt) (zy := 7) (tgt := 122) hx hb rfl (by decide) dX10_wordHere_99 (by decide) (fun c_15 => ?_) (fun c_15 => ?_)
                    · skip
                      have hend : iv96_2.toInt = 7 ∨ (wf (7 * iv79_1.toInt.toNat + iv96_2.toInt.toNat)).toInt = 0 := by first | exact Or.inl (by omega)
                      have hwl := hx_wl hwd (by omega) (by omega) (by omega) (by omega) vi96_0 hend
                      refine lv_iload_n hx hb dX10_wordHere_122 rfl (lv_at hl 0 rfl) ?_
                      refine lv_aload_n hx hb dX10_wordHere_123 rfl (lv_at hl 2 rfl) ?_
                      refine hk_geti hx hb hts hC_10 hown hW (gx.S hM) tt_10 11 (by decide) rfl kw_1154 ⟨rfl, rfl, rfl⟩ ffw10_x_11 dX10_wordHere_124 ?_
                      refine hb_icmp_ne (zx := iv96_2.toInt) (zy := fw10_x_11.toInt) (tgt := 134) hx hb rfl rfl dX10_wordHere_127 (by decide) (fun c_16 => ?_) (fun c_16 => ?_)
                      · skip
                        refine lv_iconst (v := 0) hx hb dX10_wordHere_134 (by decide) ?_
                        refine lv_istore_n (lv' := [(3, .int (0 : Int32)), (2, .int iv96_2), (1, .int iv79_1), (0, .ref x)]) hx hb dX10_wordHere_135 rfl hl (by decide) rfl (fun ls hl => ?_)
                        refine lv_iconst (v := 0) hx hb dX10_wordHere_136 (by decide) ?_
                        refine lv_istore (lv' := [(4, .int (0 : Int32)), (3, .int (0 : Int32)), (2, .int iv96_2), (1, .int iv79_1), (0, .ref x)]) hx hb dX10_wordHere_137 hl (by decide) rfl (fun ls hl => ?_)
                        have loop139 : ∀ (n139 : Nat) (iv139_3 iv139_4 : Int32) (H : Heap) (locs : List Loc) (hL1 : List Nat) (hl1 : hx_h), 0 ≤ iv139_3.toInt → iv139_3.toInt ≤ 1 → 0 ≤ iv139_4.toInt → iv139_4.toInt ≤ 7 → (iv139_3.toInt = 0 ∨ iv96_2.toInt = fw10_x_11.toInt) → ∀ (ls : Array Slot), 7 - iv139_4.toInt < (n139 : Int) → hx_W T_tb (P_ty dA) (dC, dI) vwCl (hx_A L sz) s.heap hL1 hl1 s H locs → hx_T T_tb hL1 hl1 → hx_S T_tb [(10, 8), (10, 11)] L h hL1 hl1 → hl1.2.1 x 8 = w_6 → hl1.2.1 x 11 = fw10_x_11 → lv_has ls 5 [(4, .int iv139_4), (3, .int iv139_3), (2, .int iv96_2), (1, .int iv79_1), (0, .ref x)] → W p l e ({ frames := 1, cells := 0, slots := 0, locals := 20 }) s m ([.ref x] : List Value).toArray below meth c H locs 0 0 (MQ below (va_Qi (fun (r : Int32) (u : List Nat × hx_h) => (∃ (nx1 : Int32) (ws1 : Int32), u.2.2.1 x 8 = nx1 ∧ u.2.2.1 x 11 = ws1 ∧ (nx0.toInt ≤ nx1.toInt ∧ (nx1.toInt = nx0.toInt ∨ nx1.toInt ≤ tp0.toInt) ∧ 0 ≤ ws1.toInt ∧ (r.toInt = -1 ∨ (0 ≤ r.toInt ∧ r.toInt ≤ 24 ∧ nx1.toInt + ws1.toInt ≤ tp0.toInt ∧ 1 ≤ ws1.toInt ∧ (r.toInt = 0 → ws1.toInt = 2) ∧ (r.toInt = 1 → ws1.toInt = 3) ∧ (r.toInt = 2 → ws1.toInt = 3) ∧ (3 ≤ r.toInt ∧ r.toInt ≤ 10 → 3 ≤ ws1.toInt) ∧ (r.toInt = 20 → ws1.toInt = 5))))) ∧ hx_T T_tb u.1 u.2 ∧ hx_S T_tb [(10, 8), (10, 11)] L h u.1 u.2) (hx_E T_tb (P_ty dA) (dC, dI) vwCl (hx_A L sz)) (hx_A L sz)) ([.ref x] : List Value).toArray s 0 0 (hx_A L sz)) (F0 m 139 ls []) := by
                          intro n139
                          induction n139 with
                          | zero => intro iv139_3 iv139_4 H locs hL1 hl1 bliv139_3 buiv139_3 bliv139_4 buiv139_4 vi139_0 ls hn139; exfalso; omega
                          | succ n139 ih139 =>
                            intro iv139_3 iv139_4 H locs hL1 hl1 bliv139_3 buiv139_3 bliv139_4 buiv139_4 vi139_0 ls hn139 hW hT hM fw_6 ffw10_x_11  hl
                            refine lv_iload_n hx hb dX10_wordHere_139 rfl (lv_at hl 1 rfl) ?_
                            refine hb_if_eq (zx := iv139_3.toInt) (tgt := 188) hx hb rfl dX10_wordHere_140 (by decide) (fun c_17 => ?_) (fun c_17 => ?_)
                            · skip
                              refine lv_iload_n hx hb dX10_wordHere_188 rfl (lv_at hl 1 rfl) ?_
                              refine hb_if_eq (zx := iv139_3.toInt) (tgt := 194) hx hb rfl dX10_wordHere_189 (by decide) (fun c_18 => ?_) (fun c_18 => by exfalso; omega)
                              obtain ⟨x_19, ex_19⟩ : ∃ y : Int32, y = iv79_1 + Int32.ofInt 1 := ⟨_, rfl⟩
                              have rg_20 := i32_r iv79_1
                              have zx_19 : x_19.toInt = iv79_1.toInt + (1) := by rw [ex_19]; exact i32_add rfl (by decide) (by omega) (by omega)
                              refine lv_iinc (v := x_19) (lv' := [(1, .int x_19), (4, .int iv139_4), (3, .int iv139_3), (2, .int iv96_2), (0, .ref x)]) hx hb dX10_wordHere_194 hl (k := 3) rfl ex_19.symm (by decide) rfl (fun ls hl => ?_)
                              refine lv_goto (tgt := 79) hx hb dX10_wordHere_197 (by decide) ?_
                              exact ih79 x_19 _ _ hL1 hl1 (by omega) (by omega)  ls (by omega) hW hT hM fw_6 ffw10_x_11  (lv_sub hl [0, 4] rfl)
                            · skip
                              refine lv_iload hx hb dX10_wordHere_143 (lv_at hl 0 rfl) ?_
                              refine lv_iload_n hx hb dX10_wordHere_145 rfl (lv_at hl 2 rfl) ?_
                              refine hb_icmp_ge (zx := iv139_4.toInt) (zy := iv96_2.toInt) (tgt := 188) hx hb rfl rfl dX10_wordHere_146 (by decide) (fun c_21 => ?_) (fun c_21 => ?_)
                              · skip
                                refine lv_iload_n hx hb dX10_wordHere_188 rfl (lv_at hl 1 rfl) ?_
                                refine hb_if_eq (zx := iv139_3.toInt) (tgt := 194) hx hb rfl dX10_wordHere_189 (by decide) (fun c_22 => by exfalso; omega) (fun c_22 => ?_)
                                refine lv_iload_n hx hb dX10_wordHere_192 rfl (lv_at hl 3 rfl) ?_
                                exact hx_reti hx hb hr hlk hW ⟨⟨w_6, fw10_x_11, fw_6, ffw10_x_11, (by refine ⟨by omega, by omega, by omega, Or.inr ?_⟩; omega)⟩, hT, hM⟩ dX10_wordHere_193
                              · skip
                                refine lv_aload_n hx hb dX10_wordHere_149 rfl (lv_at hl 4 rfl) ?_
                                refine hk_getr hx hb hts hC_10 hown hW (gx.S hM) tt_10 19 (by decide) rfl kw_1162 ⟨rfl, rfl, rfl⟩ ((hM.o gx trivial rfl).2.trans f_x_19) dX10_wordHere_150 ?_
                                refine lv_bipush (v := 7) hx hb dX10_wordHere_153 (by decide) ?_
                                refine lv_iload_n hx hb dX10_wordHere_155 rfl (lv_at hl 3 rfl) ?_
                                refine lv_imul hx hb dX10_wordHere_156 ?_
                                refine lv_topi (fun x_23 ex_23 => ?_)
                                have zx_23 : x_23.toInt = 7 * iv79_1.toInt := by rw [ex_23]; exact i32_mul (by decide) rfl rfl (by omega) (by omega)
                                refine lv_iload hx hb dX10_wordHere_157 (lv_at hl 0 rfl) ?_
                                refine lv_iadd hx hb dX10_wordHere_159 ?_
                                have rg_24 := i32_r x_23
                                have rg_25 := i32_r iv139_4
                                refine lv_topi (fun x_26 ex_26 => ?_)
                                have zx_26 : x_26.toInt = x_23.toInt + iv139_4.toInt := by rw [ex_26]; exact i32_add rfl rfl (by omega) (by omega)
                                refine hx_bald hx hb hW hT (gqw.S hM) tt_57 rfl ⟨by omega, by omega⟩ dX10_wordHere_160 (fun x_27 ex_27 lx_27 ux_27 => ?_)
                                have ax_27 : x_27 = wf x_26.toNatClampNeg := ex_27.trans (congrFun (hx_afS hM gqw rfl af_qw) _)
                                refine lv_aload_n hx hb dX10_wordHere_161 rfl (lv_at hl 4 rfl) ?_
                                refine hk_getr hx hb hts hC_10 hown hW (gx.S hM) tt_10 6 (by decide) rfl kw_1149 ⟨rfl, rfl, rfl⟩ ((hM.o gx trivial rfl).2.trans f_x_6) dX10_wordHere_162 ?_
                                refine lv_aload_n hx hb dX10_wordHere_165 rfl (lv_at hl 4 rfl) ?_
                                refine hk_geti hx hb hts hC_10 hown hW (gx.S hM) tt_10 8 (by decide) rfl kw_1151 ⟨rfl, rfl, rfl⟩ fw_6 dX10_wordHere_166 ?_
                                refine lv_iload hx hb dX10_wordHere_169 (lv_at hl 0 rfl) ?_
                                refine lv_iadd hx hb dX10_wordHere_171 ?_
                                refine lv_topi (fun x_28 ex_28 => ?_)
                                have zx_28 : x_28.toInt = w_6.toInt + iv139_4.toInt := by rw [ex_28]; exact i32_add rfl rfl (by omega) (by omega)
                                refine hx_bald hx hb hW hT (gqt.S hM) tt_53 rfl ⟨by omega, by omega⟩ dX10_wordHere_172 (fun x_29 ex_29 lx_29 ux_29 => ?_)
                                have ax_29 : x_29 = tf x_28.toNatClampNeg := ex_29.trans (congrFun (hx_afS hM gqt rfl af_qt) _)
                                refine hb_icmp_ne (zx := x_27.toInt) (zy := x_29.toInt) (tgt := 180) hx hb rfl rfl dX10_wordHere_173 (by decide) (fun c_30 => ?_) (fun c_30 => ?_)
                                · skip
                                  refine lv_iconst (v := 0) hx hb dX10_wordHere_180 (by decide) ?_
                                  refine lv_istore_n (lv' := [(3, .int (0 : Int32)), (4, .int iv139_4), (2, .int iv96_2), (1, .int iv79_1), (0, .ref x)]) hx hb dX10_wordHere_181 rfl hl (by decide) rfl (fun ls hl => ?_)
                                  obtain ⟨x_31, ex_31⟩ : ∃ y : Int32, y = iv139_4 + Int32.ofInt 1 := ⟨_, rfl⟩
                                  have zx_31 : x_31.toInt = iv139_4.toInt + (1) := by rw [ex_31]; exact i32_add rfl (by decide) (by omega) (by omega)
                                  refine lv_iinc (v := x_31) (lv' := [(4, .int x_31), (3, .int (0 : Int32)), (2, .int iv96_2), (1, .int iv79_1), (0, .ref x)]) hx hb dX10_wordHere_182 hl (k := 1) rfl ex_31.symm (by decide) rfl (fun ls hl => ?_)
                                  refine lv_goto (tgt := 139) hx hb dX10_wordHere_185 (by decide) ?_
                                  have zk_0 : (0 : Int32).toInt = 0 := by decide
                                  exact ih139 (0 : Int32) x_31 _ _ hL1 hl1 (by decide) (by decide) (by omega) (by omega) (by omega) ls (by omega) hW hT hM fw_6 ffw10_x_11  (lv_sub hl [0, 1, 2, 3, 4] rfl)
                                · skip
                                  refine lv_iconst (v := 1) hx hb dX10_wordHere_176 (by decide) ?_
                                  refine lv_goto (tgt := 181) hx hb dX10_wordHere_177 (by decide) ?_
                                  refine lv_istore_n (lv' := [(3, .int (1 : Int32)), (4, .int iv139_4), (2, .int iv96_2), (1, .int iv79_1), (0, .ref x)]) hx hb dX10_wordHere_181 rfl hl (by decide) rfl (fun ls hl => ?_)
                                  obtain ⟨x_32, ex_32⟩ : ∃ y : Int32, y = iv139_4 + Int32.ofInt 1 := ⟨_, rfl⟩
                                  have zx_32 : x_32.toInt = iv139_4.toInt + (1) := by rw [ex_32]; exact i32_add rfl (by decide) (by omega) (by omega)
                                  refine lv_iinc (v := x_32) (lv' := [(4, .int x_32), (3, .int (1 : Int32)), (2, .int iv96_2), (1, .int iv79_1), (0, .ref x)]) hx hb dX10_wordHere_182 hl (k := 1) rfl ex_32.symm (by decide) rfl (fun ls hl => ?_)
                                  refine lv_goto (tgt := 139) hx hb dX10_wordHere_185 (by decide) ?_
                                  have zk_1 : (1 : Int32).toInt = 1 := by decide
                                  exact ih139 (1 : Int32) x_32 _ _ hL1 hl1 (by decide) (by decide) (by omega) (by omega) (by omega) ls (by omega) hW hT hM fw_6 ffw10_x_11  (lv_sub hl [0, 1, 2, 3, 4] rfl)
                        have zk_0 : (0 : Int32).toInt = 0 := by decide
                        have zk_0 : (0 : Int32).toInt = 0 := by decide
                        exact loop139 8 (0 : Int32) (0 : Int32) _ _ hL1 hl1 (by decide) (by decide) (by decide) (by decide) (by omega) ls (by omega) hW hT hM fw_6 ffw10_x_11  hl
                      · skip
                        refine lv_iconst (v := 1) hx hb dX10_wordHere_130 (by decide) ?_
                        refine lv_goto (tgt := 135) hx hb dX10_wordHere_131 (by decide) ?_
                        refine lv_istore_n (lv' := [(3, .int (1 : Int32)), (2, .int iv96_2), (1, .int iv79_1), (0, .ref x)]) hx hb dX10_wordHere_135 rfl hl (by decide) rfl (fun ls hl => ?_)
                        refine lv_iconst (v := 0) hx hb dX10_wordHere_136 (by decide) ?_
                        refine lv_istore (lv' := [(4, .int (0 : Int32)), (3, .int (1 : Int32)), (2, .int iv96_2), (1, .int iv79_1), (0, .ref x)]) hx hb dX10_wordHere_137 hl (by decide) rfl (fun ls hl => ?_)
                        have loop139 : ∀ (n139 : Nat) (iv139_3 iv139_4 : Int32) (H : Heap) (locs : List Loc) (hL1 : List Nat) (hl1 : hx_h), 0 ≤ iv139_3.toInt → iv139_3.toInt ≤ 1 → 0 ≤ iv139_4.toInt → iv139_4.toInt ≤ 7 → (iv139_3.toInt = 0 ∨ iv96_2.toInt = fw10_x_11.toInt) → ∀ (ls : Array Slot), 7 - iv139_4.toInt < (n139 : Int) → hx_W T_tb (P_ty dA) (dC, dI) vwCl (hx_A L sz) s.heap hL1 hl1 s H locs → hx_T T_tb hL1 hl1 → hx_S T_tb [(10, 8), (10, 11)] L h hL1 hl1 → hl1.2.1 x 8 = w_6 → hl1.2.1 x 11 = fw10_x_11 → lv_has ls 5 [(4, .int iv139_4), (3, .int iv139_3), (2, .int iv96_2), (1, .int iv79_1), (0, .ref x)] → W p l e ({ frames := 1, cells := 0, slots := 0, locals := 20 }) s m ([.ref x] : List Value).toArray below meth c H locs 0 0 (MQ below (va_Qi (fun (r : Int32) (u : List Nat × hx_h) => (∃ (nx1 : Int32) (ws1 : Int32), u.2.2.1 x 8 = nx1 ∧ u.2.2.1 x 11 = ws1 ∧ (nx0.toInt ≤ nx1.toInt ∧ (nx1.toInt = nx0.toInt ∨ nx1.toInt ≤ tp0.toInt) ∧ 0 ≤ ws1.toInt ∧ (r.toInt = -1 ∨ (0 ≤ r.toInt ∧ r.toInt ≤ 24 ∧ nx1.toInt + ws1.toInt ≤ tp0.toInt ∧ 1 ≤ ws1.toInt ∧ (r.toInt = 0 → ws1.toInt = 2) ∧ (r.toInt = 1 → ws1.toInt = 3) ∧ (r.toInt = 2 → ws1.toInt = 3) ∧ (3 ≤ r.toInt ∧ r.toInt ≤ 10 → 3 ≤ ws1.toInt) ∧ (r.toInt = 20 → ws1.toInt = 5))))) ∧ hx_T T_tb u.1 u.2 ∧ hx_S T_tb [(10, 8), (10, 11)] L h u.1 u.2) (hx_E T_tb (P_ty dA) (dC, dI) vwCl (hx_A L sz)) (hx_A L sz)) ([.ref x] : List Value).toArray s 0 0 (hx_A L sz)) (F0 m 139 ls []) := by
                          intro n139
                          induction n139 with
                          | zero => intro iv139_3 iv139_4 H locs hL1 hl1 bliv139_3 buiv139_3 bliv139_4 buiv139_4 vi139_0 ls hn139; exfalso; omega
                          | succ n139 ih139 =>
                            intro iv139_3 iv139_4 H locs hL1 hl1 bliv139_3 buiv139_3 bliv139_4 buiv139_4 vi139_0 ls hn139 hW hT hM fw_6 ffw10_x_11  hl
                            refine lv_iload_n hx hb dX10_wordHere_139 rfl (lv_at hl 1 rfl) ?_
                            refine hb_if_eq (zx := iv139_3.toInt) (tgt := 188) hx hb rfl dX10_wordHere_140 (by decide) (fun c_33 => ?_) (fun c_33 => ?_)
                            · skip
                              refine lv_iload_n hx hb dX10_wordHere_188 rfl (lv_at hl 1 rfl) ?_
                              refine hb_if_eq (zx := iv139_3.toInt) (tgt := 194) hx hb rfl dX10_wordHere_189 (by decide) (fun c_34 => ?_) (fun c_34 => by exfalso; omega)
                              obtain ⟨x_35, ex_35⟩ : ∃ y : Int32, y = iv79_1 + Int32.ofInt 1 := ⟨_, rfl⟩
                              have rg_36 := i32_r iv79_1
                              have zx_35 : x_35.toInt = iv79_1.toInt + (1) := by rw [ex_35]; exact i32_add rfl (by decide) (by omega) (by omega)
                              refine lv_iinc (v := x_35) (lv' := [(1, .int x_35), (4, .int iv139_4), (3, .int iv139_3), (2, .int iv96_2), (0, .ref x)]) hx hb dX10_wordHere_194 hl (k := 3) rfl ex_35.symm (by decide) rfl (fun ls hl => ?_)
                              refine lv_goto (tgt := 79) hx hb dX10_wordHere_197 (by decide) ?_
                              exact ih79 x_35 _ _ hL1 hl1 (by omega) (by omega)  ls (by omega) hW hT hM fw_6 ffw10_x_11  (lv_sub hl [0, 4] rfl)
                            · skip
                              refine lv_iload hx hb dX10_wordHere_143 (lv_at hl 0 rfl) ?_
                              refine lv_iload_n hx hb dX10_wordHere_145 rfl (lv_at hl 2 rfl) ?_
                              refine hb_icmp_ge (zx := iv139_4.toInt) (zy := iv96_2.toInt) (tgt := 188) hx hb rfl rfl dX10_wordHere_146 (by decide) (fun c_37 => ?_) (fun c_37 => ?_)
                              · skip
                                refine lv_iload_n hx hb dX10_wordHere_188 rfl (lv_at hl 1 rfl) ?_
                                refine hb_if_eq (zx := iv139_3.toInt) (tgt := 194) hx hb rfl dX10_wordHere_189 (by decide) (fun c_38 => by exfalso; omega) (fun c_38 => ?_)
                                refine lv_iload_n hx hb dX10_wordHere_192 rfl (lv_at hl 3 rfl) ?_
                                exact hx_reti hx hb hr hlk hW ⟨⟨w_6, fw10_x_11, fw_6, ffw10_x_11, (by refine ⟨by omega, by omega, by omega, Or.inr ?_⟩; omega)⟩, hT, hM⟩ dX10_wordHere_193
                              · skip
                                refine lv_aload_n hx hb dX10_wordHere_149 rfl (lv_at hl 4 rfl) ?_
                                refine hk_getr hx hb hts hC_10 hown hW (gx.S hM) tt_10 19 (by decide) rfl kw_1162 ⟨rfl, rfl, rfl⟩ ((hM.o gx trivial rfl).2.trans f_x_19) dX10_wordHere_150 ?_
                                refine lv_bipush (v := 7) hx hb dX10_wordHere_153 (by decide) ?_
                                refine lv_iload_n hx hb dX10_wordHere_155 rfl (lv_at hl 3 rfl) ?_
                                refine lv_imul hx hb dX10_wordHere_156 ?_
                                refine lv_topi (fun x_39 ex_39 => ?_)
                                have zx_39 : x_39.toInt = 7 * iv79_1.toInt := by rw [ex_39]; exact i32_mul (by decide) rfl rfl (by omega) (by omega)
                                refine lv_iload hx hb dX10_wordHere_157 (lv_at hl 0 rfl) ?_
                                refine lv_iadd hx hb dX10_wordHere_159 ?_
                                have rg_40 := i32_r x_39
                                have rg_41 := i32_r iv139_4
                                refine lv_topi (fun x_42 ex_42 => ?_)
                                have zx_42 : x_42.toInt = x_39.toInt + iv139_4.toInt := by rw [ex_42]; exact i32_add rfl rfl (by omega) (by omega)
                                refine hx_bald hx hb hW hT (gqw.S hM) tt_57 rfl ⟨by omega, by omega⟩ dX10_wordHere_160 (fun x_43 ex_43 lx_43 ux_43 => ?_)
                                have ax_43 : x_43 = wf x_42.toNatClampNeg := ex_43.trans (congrFun (hx_afS hM gqw rfl af_qw) _)
                                refine lv_aload_n hx hb dX10_wordHere_161 rfl (lv_at hl 4 rfl) ?_
                                refine hk_getr hx hb hts hC_10 hown hW (gx.S hM) tt_10 6 (by decide) rfl kw_1149 ⟨rfl, rfl, rfl⟩ ((hM.o gx trivial rfl).2.trans f_x_6) dX10_wordHere_162 ?_
                                refine lv_aload_n hx hb dX10_wordHere_165 rfl (lv_at hl 4 rfl) ?_
                                refine hk_geti hx hb hts hC_10 hown hW (gx.S hM) tt_10 8 (by decide) rfl kw_1151 ⟨rfl, rfl, rfl⟩ fw_6 dX10_wordHere_166 ?_
                                refine lv_iload hx hb dX10_wordHere_169 (lv_at hl 0 rfl) ?_
                                refine lv_iadd hx hb dX10_wordHere_171 ?_
                                refine lv_topi (fun x_44 ex_44 => ?_)
                                have zx_44 : x_44.toInt = w_6.toInt + iv139_4.toInt := by rw [ex_44]; exact i32_add rfl rfl (by omega) (by omega)
                                refine hx_bald hx hb hW hT (gqt.S hM) tt_53 rfl ⟨by omega, by omega⟩ dX10_wordHere_172 (fun x_45 ex_45 lx_45 ux_45 => ?_)
                                have ax_45 : x_45 = tf x_44.toNatClampNeg := ex_45.trans (congrFun (hx_afS hM gqt rfl af_qt) _)
                                refine hb_icmp_ne (zx := x_43.toInt) (zy := x_45.toInt) (tgt := 180) hx hb rfl rfl dX10_wordHere_173 (by decide) (fun c_46 => ?_) (fun c_46 => ?_)
                                · skip
                                  refine lv_iconst (v := 0) hx hb dX10_wordHere_180 (by decide) ?_
                                  refine lv_istore_n (lv' := [(3, .int (0 : Int32)), (4, .int iv139_4), (2, .int iv96_2), (1, .int iv79_1), (0, .ref x)]) hx hb dX10_wordHere_181 rfl hl (by decide) rfl (fun ls hl => ?_)
                                  obtain ⟨x_47, ex_47⟩ : ∃ y : Int32, y = iv139_4 + Int32.ofInt 1 := ⟨_, rfl⟩
                                  have zx_47 : x_47.toInt = iv139_4.toInt + (1) := by rw [ex_47]; exact i32_add rfl (by decide) (by omega) (by omega)
                                  refine lv_iinc (v := x_47) (lv' := [(4, .int x_47), (3, .int (0 : Int32)), (2, .int iv96_2), (1, .int iv79_1), (0, .ref x)]) hx hb dX10_wordHere_182 hl (k := 1) rfl ex_47.symm (by decide) rfl (fun ls hl => ?_)
                                  refine lv_goto (tgt := 139) hx hb dX10_wordHere_185 (by decide) ?_
                                  have zk_0 : (0 : Int32).toInt = 0 := by decide
                                  exact ih139 (0 : Int32) x_47 _ _ hL1 hl1 (by decide) (by decide) (by omega) (by omega) (by omega) ls (by omega) hW hT hM fw_6 ffw10_x_11  (lv_sub hl [0, 1, 2, 3, 4] rfl)
                                · skip
                                  refine lv_iconst (v := 1) hx hb dX10_wordHere_176 (by decide) ?_
                                  refine lv_goto (tgt := 181) hx hb dX10_wordHere_177 (by decide) ?_
                                  refine lv_istore_n (lv' := [(3, .int (1 : Int32)), (4, .int iv139_4), (2, .int iv96_2), (1, .int iv79_1), (0, .ref x)]) hx hb dX10_wordHere_181 rfl hl (by decide) rfl (fun ls hl => ?_)
                                  obtain ⟨x_48, ex_48⟩ : ∃ y : Int32, y = iv139_4 + Int32.ofInt 1 := ⟨_, rfl⟩
                                  have zx_48 : x_48.toInt = iv139_4.toInt + (1) := by rw [ex_48]; exact i32_add rfl (by decide) (by omega) (by omega)
                                  refine lv_iinc (v := x_48) (lv' := [(4, .int x_48), (3, .int (1 : Int32)), (2, .int iv96_2), (1, .int iv79_1), (0, .ref x)]) hx hb dX10_wordHere_182 hl (k := 1) rfl ex_48.symm (by decide) rfl (fun ls hl => ?_)
                                  refine lv_goto (tgt := 139) hx hb dX10_wordHere_185 (by decide) ?_
                                  have zk_1 : (1 : Int32).toInt = 1 := by decide
                                  exact ih139 (1 : Int32) x_48 _ _ hL1 hl1 (by decide) (by decide) (by omega) (by omega) (by omega) ls (by omega) hW hT hM fw_6 ffw10_x_11  (lv_sub hl [0, 1, 2, 3, 4] rfl)
                        have zk_1 : (1 : Int32).toInt = 1 := by decide
                        have zk_0 : (0 : Int32).toInt = 0 := by decide
                        exact loop139 8 (1 : Int32) (0 : Int32) _ _ hL1 hl1 (by decide) (by decide) (by decide) (by decide) (by omega) ls (by omega) hW hT hM fw_6 ffw10_x_11  hl
                    · skip
                      refine lv_aload_n hx hb dX10_wordHere_102 rfl (lv_at hl 2 rfl) ?_
                      refine hk_getr hx hb hts hC_10 hown hW (gx.S hM) tt_10 19 (by decide) rfl kw_1162 ⟨rfl, rfl, rfl⟩ ((hM.o gx trivial rfl).2.trans f_x_19) dX10_wordHere_103 ?_
                      refine lv_bipush (v := 7) hx hb dX10_wordHere_106 (by decide) ?_
                      refine lv_iload_n hx hb dX10_wordHere_108 rfl (lv_at hl 1 rfl) ?_
                      refine lv_imul hx hb dX10_wordHere_109 ?_
                      refine lv_topi (fun x_49 ex_49 => ?_)
                      have zx_49 : x_49.toInt = 7 * iv79_1.toInt := by rw [ex_49]; exact i32_mul (by decide) rfl rfl (by omega) (by omega)
                      refine lv_iload_n hx hb dX10_wordHere_110 rfl (lv_at hl 0 rfl) ?_
                      refine lv_iadd hx hb dX10_wordHere_111 ?_
                      have rg_50 := i32_r x_49
                      have rg_51 := i32_r iv96_2
                      refine lv_topi (fun x_52 ex_52 => ?_)
                      have zx_52 : x_52.toInt = x_49.toInt + iv96_2.toInt := by rw [ex_52]; exact i32_add rfl rfl (by omega) (by omega)
                      refine hx_bald hx hb hW hT (gqw.S hM) tt_57 rfl ⟨by omega, by omega⟩ dX10_wordHere_112 (fun x_53 ex_53 lx_53 ux_53 => ?_)
                      have ax_53 : x_53 = wf x_52.toNatClampNeg := ex_53.trans (congrFun (hx_afS hM gqw rfl af_qw) _)
                      refine hb_if_eq (zx := x_53.toInt) (tgt := 122) hx hb rfl dX10_wordHere_113 (by decide) (fun c_54 => ?_) (fun c_54 => ?_)
                      · skip
                        have hend : iv96_2.toInt = 7 ∨ (wf (7 * iv79_1.toInt.toNat + iv96_2.toInt.toNat)).toInt = 0 := by first | exact Or.inl (by omega) | exact Or.inr (hx_wz (by omega) ax_53 (by omega) (by omega) (by omega))
                        have hwl := hx_wl hwd (by omega) (by omega) (by omega) (by omega) vi96_0 hend
                        refine lv_iload_n hx hb dX10_wordHere_122 rfl (lv_at hl 0 rfl) ?_
                        refine lv_aload_n hx hb dX10_wordHere_123 rfl (lv_at hl 2 rfl) ?_
                        refine hk_geti hx hb hts hC_10 hown hW (gx.S hM) tt_10 11 (by decide) rfl kw_1154 ⟨rfl, rfl, rfl⟩ ffw10_x_11 dX10_wordHere_124 ?_
                        refine hb_icmp_ne (zx := iv96_2.toInt) (zy := fw10_x_11.toInt) (tgt := 134) hx hb rfl rfl dX10_wordHere_127 (by decide) (fun c_55 => ?_) (fun c_55 => ?_)
                        · skip
                          refine lv_iconst (v := 0) hx hb dX10_wordHere_134 (by decide) ?_
                          refine lv_istore_n (lv' := [(3, .int (0 : Int32)), (2, .int iv96_2), (1, .int iv79_1), (0, .ref x)]) hx hb dX10_wordHere_135 rfl hl (by decide) rfl (fun ls hl => ?_)
                          refine lv_iconst (v := 0) hx hb dX10_wordHere_136 (by decide) ?_
                          refine lv_istore (lv' := [(4, .int (0 : Int32)), (3, .int (0 : Int32)), (2, .int iv96_2), (1, .int iv79_1), (0, .ref x)]) hx hb dX10_wordHere_137 hl (by decide) rfl (fun ls hl => ?_)
                          have loop139 : ∀ (n139 : Nat) (iv139_3 iv139_4 : Int32) (H : Heap) (locs : List Loc) (hL1 : List Nat) (hl1 : hx_h), 0 ≤ iv139_3.toInt → iv139_3.toInt ≤ 1 → 0 ≤ iv139_4.toInt → iv139_4.toInt ≤ 7 → (iv139_3.toInt = 0 ∨ iv96_2.toInt = fw10_x_11.toInt) → ∀ (ls : Array Slot), 7 - iv139_4.toInt < (n139 : Int) → hx_W T_tb (P_ty dA) (dC, dI) vwCl (hx_A L sz) s.heap hL1 hl1 s H locs → hx_T T_tb hL1 hl1 → hx_S T_tb [(10, 8), (10, 11)] L h hL1 hl1 → hl1.2.1 x 8 = w_6 → hl1.2.1 x 11 = fw10_x_11 → lv_has ls 5 [(4, .int iv139_4), (3, .int iv139_3), (2, .int iv96_2), (1, .int iv79_1), (0, .ref x)] → W p l e ({ frames := 1, cells := 0, slots := 0, locals := 20 }) s m ([.ref x] : List Value).toArray below meth c H locs 0 0 (MQ below (va_Qi (fun (r : Int32) (u : List Nat × hx_h) => (∃ (nx1 : Int32) (ws1 : Int32), u.2.2.1 x 8 = nx1 ∧ u.2.2.1 x 11 = ws1 ∧ (nx0.toInt ≤ nx1.toInt ∧ (nx1.toInt = nx0.toInt ∨ nx1.toInt ≤ tp0.toInt) ∧ 0 ≤ ws1.toInt ∧ (r.toInt = -1 ∨ (0 ≤ r.toInt ∧ r.toInt ≤ 24 ∧ nx1.toInt + ws1.toInt ≤ tp0.toInt ∧ 1 ≤ ws1.toInt ∧ (r.toInt = 0 → ws1.toInt = 2) ∧ (r.toInt = 1 → ws1.toInt = 3) ∧ (r.toInt = 2 → ws1.toInt = 3) ∧ (3 ≤ r.toInt ∧ r.toInt ≤ 10 → 3 ≤ ws1.toInt) ∧ (r.toInt = 20 → ws1.toInt = 5))))) ∧ hx_T T_tb u.1 u.2 ∧ hx_S T_tb [(10, 8), (10, 11)] L h u.1 u.2) (hx_E T_tb (P_ty dA) (dC, dI) vwCl (hx_A L sz)) (hx_A L sz)) ([.ref x] : List Value).toArray s 0 0 (hx_A L sz)) (F0 m 139 ls []) := by
                            intro n139
                            induction n139 with
                            | zero => intro iv139_3 iv139_4 H locs hL1 hl1 bliv139_3 buiv139_3 bliv139_4 buiv139_4 vi139_0 ls hn139; exfalso; omega
                            | succ n139 ih139 =>
                              intro iv139_3 iv139_4 H locs hL1 hl1 bliv139_3 buiv139_3 bliv139_4 buiv139_4 vi139_0 ls hn139 hW hT hM fw_6 ffw10_x_11  hl
                              refine lv_iload_n hx hb dX10_wordHere_139 rfl (lv_at hl 1 rfl) ?_
                              refine hb_if_eq (zx := iv139_3.toInt) (tgt := 188) hx hb rfl dX10_wordHere_140 (by decide) (fun c_56 => ?_) (fun c_56 => ?_)
                              · skip
                                refine lv_iload_n hx hb dX10_wordHere_188 rfl (lv_at hl 1 rfl) ?_
                                refine hb_if_eq (zx := iv139_3.toInt) (tgt := 194) hx hb rfl dX10_wordHere_189 (by decide) (fun c_57 => ?_) (fun c_57 => by exfalso; omega)
                                obtain ⟨x_58, ex_58⟩ : ∃ y : Int32, y = iv79_1 + Int32.ofInt 1 := ⟨_, rfl⟩
                                have rg_59 := i32_r iv79_1
                                have zx_58 : x_58.toInt = iv79_1.toInt + (1) := by rw [ex_58]; exact i32_add rfl (by decide) (by omega) (by omega)
                                refine lv_iinc (v := x_58) (lv' := [(1, .int x_58), (4, .int iv139_4), (3, .int iv139_3), (2, .int iv96_2), (0, .ref x)]) hx hb dX10_wordHere_194 hl (k := 3) rfl ex_58.symm (by decide) rfl (fun ls hl => ?_)
                                refine lv_goto (tgt := 79) hx hb dX10_wordHere_197 (by decide) ?_
                                exact ih79 x_58 _ _ hL1 hl1 (by omega) (by omega)  ls (by omega) hW hT hM fw_6 ffw10_x_11  (lv_sub hl [0, 4] rfl)
                              · skip
                                refine lv_iload hx hb dX10_wordHere_143 (lv_at hl 0 rfl) ?_
                                refine lv_iload_n hx hb dX10_wordHere_145 rfl (lv_at hl 2 rfl) ?_
                                refine hb_icmp_ge (zx := iv139_4.toInt) (zy := iv96_2.toInt) (tgt := 188) hx hb rfl rfl dX10_wordHere_146 (by decide) (fun c_60 => ?_) (fun c_60 => ?_)
                                · skip
                                  refine lv_iload_n hx hb dX10_wordHere_188 rfl (lv_at hl 1 rfl) ?_
                                  refine hb_if_eq (zx := iv139_3.toInt) (tgt := 194) hx hb rfl dX10_wordHere_189 (by decide) (fun c_61 => by exfalso; omega) (fun c_61 => ?_)
                                  refine lv_iload_n hx hb dX10_wordHere_192 rfl (lv_at hl 3 rfl) ?_
                                  exact hx_reti hx hb hr hlk hW ⟨⟨w_6, fw10_x_11, fw_6, ffw10_x_11, (by refine ⟨by omega, by omega, by omega, Or.inr ?_⟩; omega)⟩, hT, hM⟩ dX10_wordHere_193
                                · skip
                                  refine lv_aload_n hx hb dX10_wordHere_149 rfl (lv_at hl 4 rfl) ?_
                                  refine hk_getr hx hb hts hC_10 hown hW (gx.S hM) tt_10 19 (by decide) rfl kw_1162 ⟨rfl, rfl, rfl⟩ ((hM.o gx trivial rfl).2.trans f_x_19) dX10_wordHere_150 ?_
                                  refine lv_bipush (v := 7) hx hb dX10_wordHere_153 (by decide) ?_
                                  refine lv_iload_n hx hb dX10_wordHere_155 rfl (lv_at hl 3 rfl) ?_
                                  refine lv_imul hx hb dX10_wordHere_156 ?_
                                  refine lv_topi (fun x_62 ex_62 => ?_)
                                  have zx_62 : x_62.toInt = 7 * iv79_1.toInt := by rw [ex_62]; exact i32_mul (by decide) rfl rfl (by omega) (by omega)
                                  refine lv_iload hx hb dX10_wordHere_157 (lv_at hl 0 rfl) ?_
                                  refine lv_iadd hx hb dX10_wordHere_159 ?_
                                  have rg_63 := i32_r x_62
                                  have rg_64 := i32_r iv139_4
                                  refine lv_topi (fun x_65 ex_65 => ?_)
                                  have zx_65 : x_65.toInt = x_62.toInt + iv139_4.toInt := by rw [ex_65]; exact i32_add rfl rfl (by omega) (by omega)
                                  refine hx_bald hx hb hW hT (gqw.S hM) tt_57 rfl ⟨by omega, by omega⟩ dX10_wordHere_160 (fun x_66 ex_66 lx_66 ux_66 => ?_)
                                  have ax_66 : x_66 = wf x_65.toNatClampNeg := ex_66.trans (congrFun (hx_afS hM gqw rfl af_qw) _)
                                  refine lv_aload_n hx hb dX10_wordHere_161 rfl (lv_at hl 4 rfl) ?_
                                  refine hk_getr hx hb hts hC_10 hown hW (gx.S hM) tt_10 6 (by decide) rfl kw_1149 ⟨rfl, rfl, rfl⟩ ((hM.o gx trivial rfl).2.trans f_x_6) dX10_wordHere_162 ?_
                                  refine lv_aload_n hx hb dX10_wordHere_165 rfl (lv_at hl 4 rfl) ?_
                                  refine hk_geti hx hb hts hC_10 hown hW (gx.S hM) tt_10 8 (by decide) rfl kw_1151 ⟨rfl, rfl, rfl⟩ fw_6 dX10_wordHere_166 ?_
                                  refine lv_iload hx hb dX10_wordHere_169 (lv_at hl 0 rfl) ?_
                                  refine lv_iadd hx hb dX10_wordHere_171 ?_
                                  refine lv_topi (fun x_67 ex_67 => ?_)
                                  have zx_67 : x_67.toInt = w_6.toInt + iv139_4.toInt := by rw [ex_67]; exact i32_add rfl rfl (by omega) (by omega)
                                  refine hx_bald hx hb hW hT (gqt.S hM) tt_53 rfl ⟨by omega, by omega⟩ dX10_wordHere_172 (fun x_68 ex_68 lx_68 ux_68 => ?_)
                                  have ax_68 : x_68 = tf x_67.toNatClampNeg := ex_68.trans (congrFun (hx_afS hM gqt rfl af_qt) _)
                                  refine hb_icmp_ne (zx := x_66.toInt) (zy := x_68.toInt) (tgt := 180) hx hb rfl rfl dX10_wordHere_173 (by decide) (fun c_69 => ?_) (fun c_69 => ?_)
                                  · skip
                                    refine lv_iconst (v := 0) hx hb dX10_wordHere_180 (by decide) ?_
                                    refine lv_istore_n (lv' := [(3, .int (0 : Int32)), (4, .int iv139_4), (2, .int iv96_2), (1, .int iv79_1), (0, .ref x)]) hx hb dX10_wordHere_181 rfl hl (by decide) rfl (fun ls hl => ?_)
                                    obtain ⟨x_70, ex_70⟩ : ∃ y : Int32, y = iv139_4 + Int32.ofInt 1 := ⟨_, rfl⟩
                                    have zx_70 : x_70.toInt = iv139_4.toInt + (1) := by rw [ex_70]; exact i32_add rfl (by decide) (by omega) (by omega)
                                    refine lv_iinc (v := x_70) (lv' := [(4, .int x_70), (3, .int (0 : Int32)), (2, .int iv96_2), (1, .int iv79_1), (0, .ref x)]) hx hb dX10_wordHere_182 hl (k := 1) rfl ex_70.symm (by decide) rfl (fun ls hl => ?_)
                                    refine lv_goto (tgt := 139) hx hb dX10_wordHere_185 (by decide) ?_
                                    have zk_0 : (0 : Int32).toInt = 0 := by decide
                                    exact ih139 (0 : Int32) x_70 _ _ hL1 hl1 (by decide) (by decide) (by omega) (by omega) (by omega) ls (by omega) hW hT hM fw_6 ffw10_x_11  (lv_sub hl [0, 1, 2, 3, 4] rfl)
                                  · skip
                                    refine lv_iconst (v := 1) hx hb dX10_wordHere_176 (by decide) ?_
                                    refine lv_goto (tgt := 181) hx hb dX10_wordHere_177 (by decide) ?_
                                    refine lv_istore_n (lv' := [(3, .int (1 : Int32)), (4, .int iv139_4), (2, .int iv96_2), (1, .int iv79_1), (0, .ref x)]) hx hb dX10_wordHere_181 rfl hl (by decide) rfl (fun ls hl => ?_)
                                    obtain ⟨x_71, ex_71⟩ : ∃ y : Int32, y = iv139_4 + Int32.ofInt 1 := ⟨_, rfl⟩
                                    have zx_71 : x_71.toInt = iv139_4.toInt + (1) := by rw [ex_71]; exact i32_add rfl (by decide) (by omega) (by omega)
                                    refine lv_iinc (v := x_71) (lv' := [(4, .int x_71), (3, .int (1 : Int32)), (2, .int iv96_2), (1, .int iv79_1), (0, .ref x)]) hx hb dX10_wordHere_182 hl (k := 1) rfl ex_71.symm (by decide) rfl (fun ls hl => ?_)
                                    refine lv_goto (tgt := 139) hx hb dX10_wordHere_185 (by decide) ?_
                                    have zk_1 : (1 : Int32).toInt = 1 := by decide
                                    exact ih139 (1 : Int32) x_71 _ _ hL1 hl1 (by decide) (by decide) (by omega) (by omega) (by omega) ls (by omega) hW hT hM fw_6 ffw10_x_11  (lv_sub hl [0, 1, 2, 3, 4] rfl)
                          have zk_0 : (0 : Int32).toInt = 0 := by decide
                          have zk_0 : (0 : Int32).toInt = 0 := by decide
                          exact loop139 8 (0 : Int32) (0 : Int32) _ _ hL1 hl1 (by decide) (by decide) (by decide) (by decide) (by omega) ls (by omega) hW hT hM fw_6 ffw10_x_11  hl
                        · skip
                          refine lv_iconst (v := 1) hx hb dX10_wordHere_130 (by decide) ?_
                          refine lv_goto (tgt := 135) hx hb dX10_wordHere_131 (by decide) ?_
                          refine lv_istore_n (lv' := [(3, .int (1 : Int32)), (2, .int iv96_2), (1, .int iv79_1), (0, .ref x)]) hx hb dX10_wordHere_135 rfl hl (by decide) rfl (fun ls hl => ?_)
                          refine lv_iconst (v := 0) hx hb dX10_wordHere_136 (by decide) ?_
                          refine lv_istore (lv' := [(4, .int (0 : Int32)), (3, .int (1 : Int32)), (2, .int iv96_2), (1, .int iv79_1), (0, .ref x)]) hx hb dX10_wordHere_137 hl (by decide) rfl (fun ls hl => ?_)
                          have loop139 : ∀ (n139 : Nat) (iv139_3 iv139_4 : Int32) (H : Heap) (locs : List Loc) (hL1 : List Nat) (hl1 : hx_h), 0 ≤ iv139_3.toInt → iv139_3.toInt ≤ 1 → 0 ≤ iv139_4.toInt → iv139_4.toInt ≤ 7 → (iv139_3.toInt = 0 ∨ iv96_2.toInt = fw10_x_11.toInt) → ∀ (ls : Array Slot), 7 - iv139_4.toInt < (n139 : Int) → hx_W T_tb (P_ty dA) (dC, dI) vwCl (hx_A L sz) s.heap hL1 hl1 s H locs → hx_T T_tb hL1 hl1 → hx_S T_tb [(10, 8), (10, 11)] L h hL1 hl1 → hl1.2.1 x 8 = w_6 → hl1.2.1 x 11 = fw10_x_11 → lv_has ls 5 [(4, .int iv139_4), (3, .int iv139_3), (2, .int iv96_2), (1, .int iv79_1), (0, .ref x)] → W p l e ({ frames := 1, cells := 0, slots := 0, locals := 20 }) s m ([.ref x] : List Value).toArray below meth c H locs 0 0 (MQ below (va_Qi (fun (r : Int32) (u : List Nat × hx_h) => (∃ (nx1 : Int32) (ws1 : Int32), u.2.2.1 x 8 = nx1 ∧ u.2.2.1 x 11 = ws1 ∧ (nx0.toInt ≤ nx1.toInt ∧ (nx1.toInt = nx0.toInt ∨ nx1.toInt ≤ tp0.toInt) ∧ 0 ≤ ws1.toInt ∧ (r.toInt = -1 ∨ (0 ≤ r.toInt ∧ r.toInt ≤ 24 ∧ nx1.toInt + ws1.toInt ≤ tp0.toInt ∧ 1 ≤ ws1.toInt ∧ (r.toInt = 0 → ws1.toInt = 2) ∧ (r.toInt = 1 → ws1.toInt = 3) ∧ (r.toInt = 2 → ws1.toInt = 3) ∧ (3 ≤ r.toInt ∧ r.toInt ≤ 10 → 3 ≤ ws1.toInt) ∧ (r.toInt = 20 → ws1.toInt = 5))))) ∧ hx_T T_tb u.1 u.2 ∧ hx_S T_tb [(10, 8), (10, 11)] L h u.1 u.2) (hx_E T_tb (P_ty dA) (dC, dI) vwCl (hx_A L sz)) (hx_A L sz)) ([.ref x] : List Value).toArray s 0 0 (hx_A L sz)) (F0 m 139 ls []) := by
                            intro n139
                            induction n139 with
                            | zero => intro iv139_3 iv139_4 H locs hL1 hl1 bliv139_3 buiv139_3 bliv139_4 buiv139_4 vi139_0 ls hn139; exfalso; omega
                            | succ n139 ih139 =>
                              intro iv139_3 iv139_4 H locs hL1 hl1 bliv139_3 buiv139_3 bliv139_4 buiv139_4 vi139_0 ls hn139 hW hT hM fw_6 ffw10_x_11  hl
                              refine lv_iload_n hx hb dX10_wordHere_139 rfl (lv_at hl 1 rfl) ?_
                              refine hb_if_eq (zx := iv139_3.toInt) (tgt := 188) hx hb rfl dX10_wordHere_140 (by decide) (fun c_72 => ?_) (fun c_72 => ?_)
                              · skip
                                refine lv_iload_n hx hb dX10_wordHere_188 rfl (lv_at hl 1 rfl) ?_
                                refine hb_if_eq (zx := iv139_3.toInt) (tgt := 194) hx hb rfl dX10_wordHere_189 (by decide) (fun c_73 => ?_) (fun c_73 => by exfalso; omega)
                                obtain ⟨x_74, ex_74⟩ : ∃ y : Int32, y = iv79_1 + Int32.ofInt 1 := ⟨_, rfl⟩
                                have rg_75 := i32_r iv79_1
                                have zx_74 : x_74.toInt = iv79_1.toInt + (1) := by rw [ex_74]; exact i32_add rfl (by decide) (by omega) (by omega)
                                refine lv_iinc (v := x_74) (lv' := [(1, .int x_74), (4, .int iv139_4), (3, .int iv139_3), (2, .int iv96_2), (0, .ref x)]) hx hb dX10_wordHere_194 hl (k := 3) rfl ex_74.symm (by decide) rfl (fun ls hl => ?_)
                                refine lv_goto (tgt := 79) hx hb dX10_wordHere_197 (by decide) ?_
                                exact ih79 x_74 _ _ hL1 hl1 (by omega) (by omega)  ls (by omega) hW hT hM fw_6 ffw10_x_11  (lv_sub hl [0, 4] rfl)
                              · skip
                                refine lv_iload hx hb dX10_wordHere_143 (lv_at hl 0 rfl) ?_
                                refine lv_iload_n hx hb dX10_wordHere_145 rfl (lv_at hl 2 rfl) ?_
                                refine hb_icmp_ge (zx := iv139_4.toInt) (zy := iv96_2.toInt) (tgt := 188) hx hb rfl rfl dX10_wordHere_146 (by decide) (fun c_76 => ?_) (fun c_76 => ?_)
                                · skip
                                  refine lv_iload_n hx hb dX10_wordHere_188 rfl (lv_at hl 1 rfl) ?_
                                  refine hb_if_eq (zx := iv139_3.toInt) (tgt := 194) hx hb rfl dX10_wordHere_189 (by decide) (fun c_77 => by exfalso; omega) (fun c_77 => ?_)
                                  refine lv_iload_n hx hb dX10_wordHere_192 rfl (lv_at hl 3 rfl) ?_
                                  exact hx_reti hx hb hr hlk hW ⟨⟨w_6, fw10_x_11, fw_6, ffw10_x_11, (by refine ⟨by omega, by omega, by omega, Or.inr ?_⟩; omega)⟩, hT, hM⟩ dX10_wordHere_193
                                · skip
                                  refine lv_aload_n hx hb dX10_wordHere_149 rfl (lv_at hl 4 rfl) ?_
                                  refine hk_getr hx hb hts hC_10 hown hW (gx.S hM) tt_10 19 (by decide) rfl kw_1162 ⟨rfl, rfl, rfl⟩ ((hM.o gx trivial rfl).2.trans f_x_19) dX10_wordHere_150 ?_
                                  refine lv_bipush (v := 7) hx hb dX10_wordHere_153 (by decide) ?_
                                  refine lv_iload_n hx hb dX10_wordHere_155 rfl (lv_at hl 3 rfl) ?_
                                  refine lv_imul hx hb dX10_wordHere_156 ?_
                                  refine lv_topi (fun x_78 ex_78 => ?_)
                                  have zx_78 : x_78.toInt = 7 * iv79_1.toInt := by rw [ex_78]; exact i32_mul (by decide) rfl rfl (by omega) (by omega)
                                  refine lv_iload hx hb dX10_wordHere_157 (lv_at hl 0 rfl) ?_
                                  refine lv_iadd hx hb dX10_wordHere_159 ?_
                                  have rg_79 := i32_r x_78
                                  have rg_80 := i32_r iv139_4
                                  refine lv_topi (fun x_81 ex_81 => ?_)
                                  have zx_81 : x_81.toInt = x_78.toInt + iv139_4.toInt := by rw [ex_81]; exact i32_add rfl rfl (by omega) (by omega)
                                  refine hx_bald hx hb hW hT (gqw.S hM) tt_57 rfl ⟨by omega, by omega⟩ dX10_wordHere_160 (fun x_82 ex_82 lx_82 ux_82 => ?_)
                                  have ax_82 : x_82 = wf x_81.toNatClampNeg := ex_82.trans (congrFun (hx_afS hM gqw rfl af_qw) _)
                                  refine lv_aload_n hx hb dX10_wordHere_161 rfl (lv_at hl 4 rfl) ?_
                                  refine hk_getr hx hb hts hC_10 hown hW (gx.S hM) tt_10 6 (by decide) rfl kw_1149 ⟨rfl, rfl, rfl⟩ ((hM.o gx trivial rfl).2.trans f_x_6) dX10_wordHere_162 ?_
                                  refine lv_aload_n hx hb dX10_wordHere_165 rfl (lv_at hl 4 rfl) ?_
                                  refine hk_geti hx hb hts hC_10 hown hW (gx.S hM) tt_10 8 (by decide) rfl kw_1151 ⟨rfl, rfl, rfl⟩ fw_6 dX10_wordHere_166 ?_
                                  refine lv_iload hx hb dX10_wordHere_169 (lv_at hl 0 rfl) ?_
                                  refine lv_iadd hx hb dX10_wordHere_171 ?_
                                  refine lv_topi (fun x_83 ex_83 => ?_)
                                  have zx_83 : x_83.toInt = w_6.toInt + iv139_4.toInt := by rw [ex_83]; exact i32_add rfl rfl (by omega) (by omega)
                                  refine hx_bald hx hb hW hT (gqt.S hM) tt_53 rfl ⟨by omega, by omega⟩ dX10_wordHere_172 (fun x_84 ex_84 lx_84 ux_84 => ?_)
                                  have ax_84 : x_84 = tf x_83.toNatClampNeg := ex_84.trans (congrFun (hx_afS hM gqt rfl af_qt) _)
                                  refine hb_icmp_ne (zx := x_82.toInt) (zy := x_84.toInt) (tgt := 180) hx hb rfl rfl dX10_wordHere_173 (by decide) (fun c_85 => ?_) (fun c_85 => ?_)
                                  · skip
                                    refine lv_iconst (v := 0) hx hb dX10_wordHere_180 (by decide) ?_
                                    refine lv_istore_n (lv' := [(3, .int (0 : Int32)), (4, .int iv139_4), (2, .int iv96_2), (1, .int iv79_1), (0, .ref x)]) hx hb dX10_wordHere_181 rfl hl (by decide) rfl (fun ls hl => ?_)
                                    obtain ⟨x_86, ex_86⟩ : ∃ y : Int32, y = iv139_4 + Int32.ofInt 1 := ⟨_, rfl⟩
                                    have zx_86 : x_86.toInt = iv139_4.toInt + (1) := by rw [ex_86]; exact i32_add rfl (by decide) (by omega) (by omega)
                                    refine lv_iinc (v := x_86) (lv' := [(4, .int x_86), (3, .int (0 : Int32)), (2, .int iv96_2), (1, .int iv79_1), (0, .ref x)]) hx hb dX10_wordHere_182 hl (k := 1) rfl ex_86.symm (by decide) rfl (fun ls hl => ?_)
                                    refine lv_goto (tgt := 139) hx hb dX10_wordHere_185 (by decide) ?_
                                    have zk_0 : (0 : Int32).toInt = 0 := by decide
                                    exact ih139 (0 : Int32) x_86 _ _ hL1 hl1 (by decide) (by decide) (by omega) (by omega) (by omega) ls (by omega) hW hT hM fw_6 ffw10_x_11  (lv_sub hl [0, 1, 2, 3, 4] rfl)
                                  · skip
                                    refine lv_iconst (v := 1) hx hb dX10_wordHere_176 (by decide) ?_
                                    refine lv_goto (tgt := 181) hx hb dX10_wordHere_177 (by decide) ?_
                                    refine lv_istore_n (lv' := [(3, .int (1 : Int32)), (4, .int iv139_4), (2, .int iv96_2), (1, .int iv79_1), (0, .ref x)]) hx hb dX10_wordHere_181 rfl hl (by decide) rfl (fun ls hl => ?_)
                                    obtain ⟨x_87, ex_87⟩ : ∃ y : Int32, y = iv139_4 + Int32.ofInt 1 := ⟨_, rfl⟩
                                    have zx_87 : x_87.toInt = iv139_4.toInt + (1) := by rw [ex_87]; exact i32_add rfl (by decide) (by omega) (by omega)
                                    refine lv_iinc (v := x_87) (lv' := [(4, .int x_87), (3, .int (1 : Int32)), (2, .int iv96_2), (1, .int iv79_1), (0, .ref x)]) hx hb dX10_wordHere_182 hl (k := 1) rfl ex_87.symm (by decide) rfl (fun ls hl => ?_)
                                    refine lv_goto (tgt := 139) hx hb dX10_wordHere_185 (by decide) ?_
                                    have zk_1 : (1 : Int32).toInt = 1 := by decide
                                    exact ih139 (1 : Int32) x_87 _ _ hL1 hl1 (by decide) (by decide) (by omega) (by omega) (by omega) ls (by omega) hW hT hM fw_6 ffw10_x_11  (lv_sub hl [0, 1, 2, 3, 4] rfl)
                          have zk_1 : (1 : Int32).toInt = 1 := by decide
                          have zk_0 : (0 : Int32).toInt = 0 := by decide
                          exact loop139 8 (1 : Int32) (0 : Int32) _ _ hL1 hl1 (by decide) (by decide) (by decide) (by decide) (by omega) ls (by omega) hW hT hM fw_6 ffw10_x_11  hl
                      · skip
                        obtain ⟨x_88, ex_88⟩ : ∃ y : Int32, y = iv96_2 + Int32.ofInt 1 := ⟨_, rfl⟩
                        have zx_88 : x_88.toInt = iv96_2.toInt + (1) := by rw [ex_88]; exact i32_add rfl (by decide) (by omega) (by omega)
                        refine lv_iinc (v := x_88) (lv' := [(2, .int x_88), (1, .int iv79_1), (0, .ref x)]) hx hb dX10_wordHere_116 hl (k := 0) rfl ex_88.symm (by decide) rfl (fun ls hl => ?_)
                        refine lv_goto (tgt := 96) hx hb dX10_wordHere_119 (by decide) ?_
                        exact ih96 x_88 _ _ hL1 hl1 (by omega) (by omega) (hx_wp_s vi96_0 (by omega) ax_53 (by omega) (by omega) zx_88) ls (by omega) hW hT hM fw_6 ffw10_x_11  (lv_sub hl [0, 1, 2] rfl)
                have zk_0 : (0 : Int32).toInt = 0 := by decide
                exact loop96 8 (0 : Int32) _ _ hL1 hl1 (by decide) (by decide) hx_wp0 ls (by omega) hW hT hM fw_6 ffw10_x_11  hl
        have zk_0 : (0 : Int32).toInt = 0 := by decide
        exact loop79 26 (0 : Int32) _ _ hL1 hl1 (by decide) (by decide)  ls (by omega) hW hT hM fw_6 ffw10_x_11  hl
      · skip
        refine lv_aload_n hx hb dX10_wordHere_26 rfl (lv_at hl 0 rfl) ?_
        refine hk_getr hx hb hts hC_10 hown hW (gx.S hM) tt_10 6 (by decide) rfl kw_1149 ⟨rfl, rfl, rfl⟩ ((hM.o gx trivial rfl).2.trans f_x_6) dX10_wordHere_27 ?_
        refine lv_aload_n hx hb dX10_wordHere_30 rfl (lv_at hl 0 rfl) ?_
        refine hk_geti hx hb hts hC_10 hown hW (gx.S hM) tt_10 8 (by decide) rfl kw_1151 ⟨rfl, rfl, rfl⟩ fw_6 dX10_wordHere_31 ?_
        refine lv_aload_n hx hb dX10_wordHere_34 rfl (lv_at hl 0 rfl) ?_
        refine hk_geti hx hb hts hC_10 hown hW (gx.S hM) tt_10 11 (by decide) rfl kw_1154 ⟨rfl, rfl, rfl⟩ ffw10_x_11 dX10_wordHere_35 ?_
        refine lv_iadd hx hb dX10_wordHere_38 ?_
        refine lv_topi (fun x_89 ex_89 => ?_)
        have zx_89 : x_89.toInt = w_6.toInt + fw10_x_11.toInt := by rw [ex_89]; exact i32_add rfl rfl (by omega) (by omega)
        refine hx_bald hx hb hW hT (gqt.S hM) tt_53 rfl ⟨by omega, by omega⟩ dX10_wordHere_39 (fun x_90 ex_90 lx_90 ux_90 => ?_)
        have ax_90 : x_90 = tf x_89.toNatClampNeg := ex_90.trans (congrFun (hx_afS hM gqt rfl af_qt) _)
        refine lv_bipush (v := 97) hx hb dX10_wordHere_40 (by decide) ?_
        refine hb_icmp_lt (zx := x_90.toInt) (zy := 97) (tgt := 77) hx hb rfl (by decide) dX10_wordHere_42 (by decide) (fun c_91 => ?_) (fun c_91 => ?_)
        · skip
          refine lv_iconst (v := 0) hx hb dX10_wordHere_77 (by decide) ?_
          refine lv_istore_n (lv' := [(1, .int (0 : Int32)), (0, .ref x)]) hx hb dX10_wordHere_78 rfl hl (by decide) rfl (fun ls hl => ?_)
          have loop79 : ∀ (n79 : Nat) (iv79_1 : Int32) (H : Heap) (locs : List Loc) (hL1 : List Nat) (hl1 : hx_h), 0 ≤ iv79_1.toInt → iv79_1.toInt ≤ 25 → ∀ (ls : Array Slot), 25 - iv79_1.toInt < (n79 : Int) → hx_W T_tb (P_ty dA) (dC, dI) vwCl (hx_A L sz) s.heap hL1 hl1 s H locs → hx_T T_tb hL1 hl1 → hx_S T_tb [(10, 8), (10, 11)] L h hL1 hl1 → hl1.2.1 x 8 = w_6 → hl1.2.1 x 11 = fw10_x_11 → lv_has ls 5 [(1, .int iv79_1), (0, .ref x)] → W p l e ({ frames := 1, cells := 0, slots := 0, locals := 20 }) s m ([.ref x] : List Value).toArray below meth c H locs 0 0 (MQ below (va_Qi (fun (r : Int32) (u : List Nat × hx_h) => (∃ (nx1 : Int32) (ws1 : Int32), u.2.2.1 x 8 = nx1 ∧ u.2.2.1 x 11 = ws1 ∧ (nx0.toInt ≤ nx1.toInt ∧ (nx1.toInt = nx0.toInt ∨ nx1.toInt ≤ tp0.toInt) ∧ 0 ≤ ws1.toInt ∧ (r.toInt = -1 ∨ (0 ≤ r.toInt ∧ r.toInt ≤ 24 ∧ nx1.toInt + ws1.toInt ≤ tp0.toInt ∧ 1 ≤ ws1.toInt ∧ (r.toInt = 0 → ws1.toInt = 2) ∧ (r.toInt = 1 → ws1.toInt = 3) ∧ (r.toInt = 2 → ws1.toInt = 3) ∧ (3 ≤ r.toInt ∧ r.toInt ≤ 10 → 3 ≤ ws1.toInt) ∧ (r.toInt = 20 → ws1.toInt = 5))))) ∧ hx_T T_tb u.1 u.2 ∧ hx_S T_tb [(10, 8), (10, 11)] L h u.1 u.2) (hx_E T_tb (P_ty dA) (dC, dI) vwCl (hx_A L sz)) (hx_A L sz)) ([.ref x] : List Value).toArray s 0 0 (hx_A L sz)) (F0 m 79 ls []) := by
            intro n79
            induction n79 with
            | zero => intro iv79_1 H locs hL1 hl1 bliv79_1 buiv79_1  ls hn79; exfalso; omega
            | succ n79 ih79 =>
              intro iv79_1 H locs hL1 hl1 bliv79_1 buiv79_1  ls hn79 hW hT hM fw_6 ffw10_x_11  hl
              refine lv_iload_n hx hb dX10_wordHere_79 rfl (lv_at hl 0 rfl) ?_
              refine lv_bipush (v := 25) hx hb dX10_wordHere_80 (by decide) ?_
              refine hb_icmp_ge (zx := iv79_1.toInt) (zy := 25) (tgt := 200) hx hb rfl (by decide) dX10_wordHere_82 (by decide) (fun c_92 => ?_) (fun c_92 => ?_)
              · skip
                refine lv_iconst (v := -1) hx hb dX10_wordHere_200 (by decide) ?_
                exact hx_reti hx hb hr hlk hW ⟨⟨w_6, fw10_x_11, fw_6, ffw10_x_11, (by have zr : (-1 : Int32).toInt = -1 := (by decide); omega)⟩, hT, hM⟩ dX10_wordHere_201
              · skip
                refine lv_aload_n hx hb dX10_wordHere_85 rfl (lv_at hl 1 rfl) ?_
                refine hk_geti hx hb hts hC_10 hown hW (gx.S hM) tt_10 11 (by decide) rfl kw_1154 ⟨rfl, rfl, rfl⟩ ffw10_x_11 dX10_wordHere_86 ?_
                refine lv_bipush (v := 7) hx hb dX10_wordHere_89 (by decide) ?_
                refine hb_icmp_gt (zx := fw10_x_11.toInt) (zy := 7) (tgt := 200) hx hb rfl (by decide) dX10_wordHere_91 (by decide) (fun c_93 => ?_) (fun c_93 => ?_)
                · skip
                  refine lv_iconst (v := -1) hx hb dX10_wordHere_200 (by decide) ?_
                  exact hx_reti hx hb hr hlk hW ⟨⟨w_6, fw10_x_11, fw_6, ffw10_x_11, (by have zr : (-1 : Int32).toInt = -1 := (by decide); omega)⟩, hT, hM⟩ dX10_wordHere_201
                · skip
                  refine lv_iconst (v := 0) hx hb dX10_wordHere_94 (by decide) ?_
                  refine lv_istore_n (lv' := [(2, .int (0 : Int32)), (1, .int iv79_1), (0, .ref x)]) hx hb dX10_wordHere_95 rfl hl (by decide) rfl (fun ls hl => ?_)
                  have loop96 : ∀ (n96 : Nat) (iv96_2 : Int32) (H : Heap) (locs : List Loc) (hL1 : List Nat) (hl1 : hx_h), 0 ≤ iv96_2.toInt → iv96_2.toInt ≤ 7 → (hx_wp wf iv79_1.toInt iv96_2.toInt) → ∀ (ls : Array Slot), 7 - iv96_2.toInt < (n96 : Int) → hx_W T_tb (P_ty dA) (dC, dI) vwCl (hx_A L sz) s.heap hL1 hl1 s H locs → hx_T T_tb hL1 hl1 → hx_S T_tb [(10, 8), (10, 11)] L h hL1 hl1 → hl1.2.1 x 8 = w_6 → hl1.2.1 x 11 = fw10_x_11 → lv_has ls 5 [(2, .int iv96_2), (1, .int iv79_1), (0, .ref x)] → W p l e ({ frames := 1, cells := 0, slots := 0, locals := 20 }) s m ([.ref x] : List Value).toArray below meth c H locs 0 0 (MQ below (va_Qi (fun (r : Int32) (u : List Nat × hx_h) => (∃ (nx1 : Int32) (ws1 : Int32), u.2.2.1 x 8 = nx1 ∧ u.2.2.1 x 11 = ws1 ∧ (nx0.toInt ≤ nx1.toInt ∧ (nx1.toInt = nx0.toInt ∨ nx1.toInt ≤ tp0.toInt) ∧ 0 ≤ ws1.toInt ∧ (r.toInt = -1 ∨ (0 ≤ r.toInt ∧ r.toInt ≤ 24 ∧ nx1.toInt + ws1.toInt ≤ tp0.toInt ∧ 1 ≤ ws1.toInt ∧ (r.toInt = 0 → ws1.toInt = 2) ∧ (r.toInt = 1 → ws1.toInt = 3) ∧ (r.toInt = 2 → ws1.toInt = 3) ∧ (3 ≤ r.toInt ∧ r.toInt ≤ 10 → 3 ≤ ws1.toInt) ∧ (r.toInt = 20 → ws1.toInt = 5))))) ∧ hx_T T_tb u.1 u.2 ∧ hx_S T_tb [(10, 8), (10, 11)] L h u.1 u.2) (hx_E T_tb (P_ty dA) (dC, dI) vwCl (hx_A L sz)) (hx_A L sz)) ([.ref x] : List Value).toArray s 0 0 (hx_A L sz)) (F0 m 96 ls []) := by
                    intro n96
                    induction n96 with
                    | zero => intro iv96_2 H locs hL1 hl1 bliv96_2 buiv96_2 vi96_0 ls hn96; exfalso; omega
                    | succ n96 ih96 =>
                      intro iv96_2 H locs hL1 hl1 bliv96_2 buiv96_2 vi96_0 ls hn96 hW hT hM fw_6 ffw10_x_11  hl
                      refine lv_iload_n hx hb dX10_wordHere_96 rfl (lv_at hl 0 rfl) ?_
                      refine lv_bipush (v := 7) hx hb dX10_wordHere_97 (by decide) ?_
                      refine hb_icmp_ge (zx := iv96_2.toInt) (zy := 7) (tgt := 122) hx hb rfl (by decide) dX10_wordHere_99 (by decide) (fun c_94 => ?_) (fun c_94 => ?_)
                      · skip
                        have hend : iv96_2.toInt = 7 ∨ (wf (7 * iv79_1.toInt.toNat + iv96_2.toInt.toNat)).toInt = 0 := by first | exact Or.inl (by omega)
                        have hwl := hx_wl hwd (by omega) (by omega) (by omega) (by omega) vi96_0 hend
                        refine lv_iload_n hx hb dX10_wordHere_122 rfl (lv_at hl 0 rfl) ?_
                        refine lv_aload_n hx hb dX10_wordHere_123 rfl (lv_at hl 2 rfl) ?_
                        refine hk_geti hx hb hts hC_10 hown hW (gx.S hM) tt_10 11 (by decide) rfl kw_1154 ⟨rfl, rfl, rfl⟩ ffw10_x_11 dX10_wordHere_124 ?_
                        refine hb_icmp_ne (zx := iv96_2.toInt) (zy := fw10_x_11.toInt) (tgt := 134) hx hb rfl rfl dX10_wordHere_127 (by decide) (fun c_95 => ?_) (fun c_95 => ?_)
                        · skip
                          refine lv_iconst (v := 0) hx hb dX10_wordHere_134 (by decide) ?_
                          refine lv_istore_n (lv' := [(3, .int (0 : Int32)), (2, .int iv96_2), (1, .int iv79_1), (0, .ref x)]) hx hb dX10_wordHere_135 rfl hl (by decide) rfl (fun ls hl => ?_)
                          refine lv_iconst (v := 0) hx hb dX10_wordHere_136 (by decide) ?_
                          refine lv_istore (lv' := [(4, .int (0 : Int32)), (3, .int (0 : Int32)), (2, .int iv96_2), (1, .int iv79_1), (0, .ref x)]) hx hb dX10_wordHere_137 hl (by decide) rfl (fun ls hl => ?_)
                          have loop139 : ∀ (n139 : Nat) (iv139_3 iv139_4 : Int32) (H : Heap) (locs : List Loc) (hL1 : List Nat) (hl1 : hx_h), 0 ≤ iv139_3.toInt → iv139_3.toInt ≤ 1 → 0 ≤ iv139_4.toInt → iv139_4.toInt ≤ 7 → (iv139_3.toInt = 0 ∨ iv96_2.toInt = fw10_x_11.toInt) → ∀ (ls : Array Slot), 7 - iv139_4.toInt < (n139 : Int) → hx_W T_tb (P_ty dA) (dC, dI) vwCl (hx_A L sz) s.heap hL1 hl1 s H locs → hx_T T_tb hL1 hl1 → hx_S T_tb [(10, 8), (10, 11)] L h hL1 hl1 → hl1.2.1 x 8 = w_6 → hl1.2.1 x 11 = fw10_x_11 → lv_has ls 5 [(4, .int iv139_4), (3, .int iv139_3), (2, .int iv96_2), (1, .int iv79_1), (0, .ref x)] → W p l e ({ frames := 1, cells := 0, slots := 0, locals := 20 }) s m ([.ref x] : List Value).toArray below meth c H locs 0 0 (MQ below (va_Qi (fun (r : Int32) (u : List Nat × hx_h) => (∃ (nx1 : Int32) (ws1 : Int32), u.2.2.1 x 8 = nx1 ∧ u.2.2.1 x 11 = ws1 ∧ (nx0.toInt ≤ nx1.toInt ∧ (nx1.toInt = nx0.toInt ∨ nx1.toInt ≤ tp0.toInt) ∧ 0 ≤ ws1.toInt ∧ (r.toInt = -1 ∨ (0 ≤ r.toInt ∧ r.toInt ≤ 24 ∧ nx1.toInt + ws1.toInt ≤ tp0.toInt ∧ 1 ≤ ws1.toInt ∧ (r.toInt = 0 → ws1.toInt = 2) ∧ (r.toInt = 1 → ws1.toInt = 3) ∧ (r.toInt = 2 → ws1.toInt = 3) ∧ (3 ≤ r.toInt ∧ r.toInt ≤ 10 → 3 ≤ ws1.toInt) ∧ (r.toInt = 20 → ws1.toInt = 5))))) ∧ hx_T T_tb u.1 u.2 ∧ hx_S T_tb [(10, 8), (10, 11)] L h u.1 u.2) (hx_E T_tb (P_ty dA) (dC, dI) vwCl (hx_A L sz)) (hx_A L sz)) ([.ref x] : List Value).toArray s 0 0 (hx_A L sz)) (F0 m 139 ls []) := by
                            intro n139
                            induction n139 with
                            | zero => intro iv139_3 iv139_4 H locs hL1 hl1 bliv139_3 buiv139_3 bliv139_4 buiv139_4 vi139_0 ls hn139; exfalso; omega
                            | succ n139 ih139 =>
                              intro iv139_3 iv139_4 H locs hL1 hl1 bliv139_3 buiv139_3 bliv139_4 buiv139_4 vi139_0 ls hn139 hW hT hM fw_6 ffw10_x_11  hl
                              refine lv_iload_n hx hb dX10_wordHere_139 rfl (lv_at hl 1 rfl) ?_
                              refine hb_if_eq (zx := iv139_3.toInt) (tgt := 188) hx hb rfl dX10_wordHere_140 (by decide) (fun c_96 => ?_) (fun c_96 => ?_)
                              · skip
                                refine lv_iload_n hx hb dX10_wordHere_188 rfl (lv_at hl 1 rfl) ?_
                                refine hb_if_eq (zx := iv139_3.toInt) (tgt := 194) hx hb rfl dX10_wordHere_189 (by decide) (fun c_97 => ?_) (fun c_97 => by exfalso; omega)
                                obtain ⟨x_98, ex_98⟩ : ∃ y : Int32, y = iv79_1 + Int32.ofInt 1 := ⟨_, rfl⟩
                                have rg_99 := i32_r iv79_1
                                have zx_98 : x_98.toInt = iv79_1.toInt + (1) := by rw [ex_98]; exact i32_add rfl (by decide) (by omega) (by omega)
                                refine lv_iinc (v := x_98) (lv' := [(1, .int x_98), (4, .int iv139_4), (3, .int iv139_3), (2, .int iv96_2), (0, .ref x)]) hx hb dX10_wordHere_194 hl (k := 3) rfl ex_98.symm (by decide) rfl (fun ls hl => ?_)
                                refine lv_goto (tgt := 79) hx hb dX10_wordHere_197 (by decide) ?_
                                exact ih79 x_98 _ _ hL1 hl1 (by omega) (by omega)  ls (by omega) hW hT hM fw_6 ffw10_x_11  (lv_sub hl [0, 4] rfl)
                              · skip
                                refine lv_iload hx hb dX10_wordHere_143 (lv_at hl 0 rfl) ?_
                                refine lv_iload_n hx hb dX10_wordHere_145 rfl (lv_at hl 2 rfl) ?_
                                refine hb_icmp_ge (zx := iv139_4.toInt) (zy := iv96_2.toInt) (tgt := 188) hx hb rfl rfl dX10_wordHere_146 (by decide) (fun c_100 => ?_) (fun c_100 => ?_)
                                · skip
                                  refine lv_iload_n hx hb dX10_wordHere_188 rfl (lv_at hl 1 rfl) ?_
                                  refine hb_if_eq (zx := iv139_3.toInt) (tgt := 194) hx hb rfl dX10_wordHere_189 (by decide) (fun c_101 => by exfalso; omega) (fun c_101 => ?_)
                                  refine lv_iload_n hx hb dX10_wordHere_192 rfl (lv_at hl 3 rfl) ?_
                                  exact hx_reti hx hb hr hlk hW ⟨⟨w_6, fw10_x_11, fw_6, ffw10_x_11, (by refine ⟨by omega, by omega, by omega, Or.inr ?_⟩; omega)⟩, hT, hM⟩ dX10_wordHere_193
                                · skip
                                  refine lv_aload_n hx hb dX10_wordHere_149 rfl (lv_at hl 4 rfl) ?_
                                  refine hk_getr hx hb hts hC_10 hown hW (gx.S hM) tt_10 19 (by decide) rfl kw_1162 ⟨rfl, rfl, rfl⟩ ((hM.o gx trivial rfl).2.trans f_x_19) dX10_wordHere_150 ?_
                                  refine lv_bipush (v := 7) hx hb dX10_wordHere_153 (by decide) ?_
                                  refine lv_iload_n hx hb dX10_wordHere_155 rfl (lv_at hl 3 rfl) ?_
                                  refine lv_imul hx hb dX10_wordHere_156 ?_
                                  refine lv_topi (fun x_102 ex_102 => ?_)
                                  have zx_102 : x_102.toInt = 7 * iv79_1.toInt := by rw [ex_102]; exact i32_mul (by decide) rfl rfl (by omega) (by omega)
                                  refine lv_iload hx hb dX10_wordHere_157 (lv_at hl 0 rfl) ?_
                                  refine lv_iadd hx hb dX10_wordHere_159 ?_
                                  have rg_103 := i32_r x_102
                                  have rg_104 := i32_r iv139_4
                                  refine lv_topi (fun x_105 ex_105 => ?_)
                                  have zx_105 : x_105.toInt = x_102.toInt + iv139_4.toInt := by rw [ex_105]; exact i32_add rfl rfl (by omega) (by omega)
                                  refine hx_bald hx hb hW hT (gqw.S hM) tt_57 rfl ⟨by omega, by omega⟩ dX10_wordHere_160 (fun x_106 ex_106 lx_106 ux_106 => ?_)
                                  have ax_106 : x_106 = wf x_105.toNatClampNeg := ex_106.trans (congrFun (hx_afS hM gqw rfl af_qw) _)
                                  refine lv_aload_n hx hb dX10_wordHere_161 rfl (lv_at hl 4 rfl) ?_
                                  refine hk_getr hx hb hts hC_10 hown hW (gx.S hM) tt_10 6 (by decide) rfl kw_1149 ⟨rfl, rfl, rfl⟩ ((hM.o gx trivial rfl).2.trans f_x_6) dX10_wordHere_162 ?_
                                  refine lv_aload_n hx hb dX10_wordHere_165 rfl (lv_at hl 4 rfl) ?_
                                  refine hk_geti hx hb hts hC_10 hown hW (gx.S hM) tt_10 8 (by decide) rfl kw_1151 ⟨rfl, rfl, rfl⟩ fw_6 dX10_wordHere_166 ?_
                                  refine lv_iload hx hb dX10_wordHere_169 (lv_at hl 0 rfl) ?_
                                  refine lv_iadd hx hb dX10_wordHere_171 ?_
                                  refine lv_topi (fun x_107 ex_107 => ?_)
                                  have zx_107 : x_107.toInt = w_6.toInt + iv139_4.toInt := by rw [ex_107]; exact i32_add rfl rfl (by omega) (by omega)
                                  refine hx_bald hx hb hW hT (gqt.S hM) tt_53 rfl ⟨by omega, by omega⟩ dX10_wordHere_172 (fun x_108 ex_108 lx_108 ux_108 => ?_)
                                  have ax_108 : x_108 = tf x_107.toNatClampNeg := ex_108.trans (congrFun (hx_afS hM gqt rfl af_qt) _)
                                  refine hb_icmp_ne (zx := x_106.toInt) (zy := x_108.toInt) (tgt := 180) hx hb rfl rfl dX10_wordHere_173 (by decide) (fun c_109 => ?_) (fun c_109 => ?_)
                                  · skip
                                    refine lv_iconst (v := 0) hx hb dX10_wordHere_180 (by decide) ?_
                                    refine lv_istore_n (lv' := [(3, .int (0 : Int32)), (4, .int iv139_4), (2, .int iv96_2), (1, .int iv79_1), (0, .ref x)]) hx hb dX10_wordHere_181 rfl hl (by decide) rfl (fun ls hl => ?_)
                                    obtain ⟨x_110, ex_110⟩ : ∃ y : Int32, y = iv139_4 + Int32.ofInt 1 := ⟨_, rfl⟩
                                    have zx_110 : x_110.toInt = iv139_4.toInt + (1) := by rw [ex_110]; exact i32_add rfl (by decide) (by omega) (by omega)
                                    refine lv_iinc (v := x_110) (lv' := [(4, .int x_110), (3, .int (0 : Int32)), (2, .int iv96_2), (1, .int iv79_1), (0, .ref x)]) hx hb dX10_wordHere_182 hl (k := 1) rfl ex_110.symm (by decide) rfl (fun ls hl => ?_)
                                    refine lv_goto (tgt := 139) hx hb dX10_wordHere_185 (by decide) ?_
                                    have zk_0 : (0 : Int32).toInt = 0 := by decide
                                    exact ih139 (0 : Int32) x_110 _ _ hL1 hl1 (by decide) (by decide) (by omega) (by omega) (by omega) ls (by omega) hW hT hM fw_6 ffw10_x_11  (lv_sub hl [0, 1, 2, 3, 4] rfl)
                                  · skip
                                    refine lv_iconst (v := 1) hx hb dX10_wordHere_176 (by decide) ?_
                                    refine lv_goto (tgt := 181) hx hb dX10_wordHere_177 (by decide) ?_
                                    refine lv_istore_n (lv' := [(3, .int (1 : Int32)), (4, .int iv139_4), (2, .int iv96_2), (1, .int iv79_1), (0, .ref x)]) hx hb dX10_wordHere_181 rfl hl (by decide) rfl (fun ls hl => ?_)
                                    obtain ⟨x_111, ex_111⟩ : ∃ y : Int32, y = iv139_4 + Int32.ofInt 1 := ⟨_, rfl⟩
                                    have zx_111 : x_111.toInt = iv139_4.toInt + (1) := by rw [ex_111]; exact i32_add rfl (by decide) (by omega) (by omega)
                                    refine lv_iinc (v := x_111) (lv' := [(4, .int x_111), (3, .int (1 : Int32)), (2, .int iv96_2), (1, .int iv79_1), (0, .ref x)]) hx hb dX10_wordHere_182 hl (k := 1) rfl ex_111.symm (by decide) rfl (fun ls hl => ?_)
                                    refine lv_goto (tgt := 139) hx hb dX10_wordHere_185 (by decide) ?_
                                    have zk_1 : (1 : Int32).toInt = 1 := by decide
                                    exact ih139 (1 : Int32) x_111 _ _ hL1 hl1 (by decide) (by decide) (by omega) (by omega) (by omega) ls (by omega) hW hT hM fw_6 ffw10_x_11  (lv_sub hl [0, 1, 2, 3, 4] rfl)
                          have zk_0 : (0 : Int32).toInt = 0 := by decide
                          have zk_0 : (0 : Int32).toInt = 0 := by decide
                          exact loop139 8 (0 : Int32) (0 : Int32) _ _ hL1 hl1 (by decide) (by decide) (by decide) (by decide) (by omega) ls (by omega) hW hT hM fw_6 ffw10_x_11  hl
                        · skip
                          refine lv_iconst (v := 1) hx hb dX10_wordHere_130 (by decide) ?_
                          refine lv_goto (tgt := 135) hx hb dX10_wordHere_131 (by decide) ?_
                          refine lv_istore_n (lv' := [(3, .int (1 : Int32)), (2, .int iv96_2), (1, .int iv79_1), (0, .ref x)]) hx hb dX10_wordHere_135 rfl hl (by decide) rfl (fun ls hl => ?_)
                          refine lv_iconst (v := 0) hx hb dX10_wordHere_136 (by decide) ?_
                          refine lv_istore (lv' := [(4, .int (0 : Int32)), (3, .int (1 : Int32)), (2, .int iv96_2), (1, .int iv79_1), (0, .ref x)]) hx hb dX10_wordHere_137 hl (by decide) rfl (fun ls hl => ?_)
                          have loop139 : ∀ (n139 : Nat) (iv139_3 iv139_4 : Int32) (H : Heap) (locs : List Loc) (hL1 : List Nat) (hl1 : hx_h), 0 ≤ iv139_3.toInt → iv139_3.toInt ≤ 1 → 0 ≤ iv139_4.toInt → iv139_4.toInt ≤ 7 → (iv139_3.toInt = 0 ∨ iv96_2.toInt = fw10_x_11.toInt) → ∀ (ls : Array Slot), 7 - iv139_4.toInt < (n139 : Int) → hx_W T_tb (P_ty dA) (dC, dI) vwCl (hx_A L sz) s.heap hL1 hl1 s H locs → hx_T T_tb hL1 hl1 → hx_S T_tb [(10, 8), (10, 11)] L h hL1 hl1 → hl1.2.1 x 8 = w_6 → hl1.2.1 x 11 = fw10_x_11 → lv_has ls 5 [(4, .int iv139_4), (3, .int iv139_3), (2, .int iv96_2), (1, .int iv79_1), (0, .ref x)] → W p l e ({ frames := 1, cells := 0, slots := 0, locals := 20 }) s m ([.ref x] : List Value).toArray below meth c H locs 0 0 (MQ below (va_Qi (fun (r : Int32) (u : List Nat × hx_h) => (∃ (nx1 : Int32) (ws1 : Int32), u.2.2.1 x 8 = nx1 ∧ u.2.2.1 x 11 = ws1 ∧ (nx0.toInt ≤ nx1.toInt ∧ (nx1.toInt = nx0.toInt ∨ nx1.toInt ≤ tp0.toInt) ∧ 0 ≤ ws1.toInt ∧ (r.toInt = -1 ∨ (0 ≤ r.toInt ∧ r.toInt ≤ 24 ∧ nx1.toInt + ws1.toInt ≤ tp0.toInt ∧ 1 ≤ ws1.toInt ∧ (r.toInt = 0 → ws1.toInt = 2) ∧ (r.toInt = 1 → ws1.toInt = 3) ∧ (r.toInt = 2 → ws1.toInt = 3) ∧ (3 ≤ r.toInt ∧ r.toInt ≤ 10 → 3 ≤ ws1.toInt) ∧ (r.toInt = 20 → ws1.toInt = 5))))) ∧ hx_T T_tb u.1 u.2 ∧ hx_S T_tb [(10, 8), (10, 11)] L h u.1 u.2) (hx_E T_tb (P_ty dA) (dC, dI) vwCl (hx_A L sz)) (hx_A L sz)) ([.ref x] : List Value).toArray s 0 0 (hx_A L sz)) (F0 m 139 ls []) := by
                            intro n139
                            induction n139 with
                            | zero => intro iv139_3 iv139_4 H locs hL1 hl1 bliv139_3 buiv139_3 bliv139_4 buiv139_4 vi139_0 ls hn139; exfalso; omega
                            | succ n139 ih139 =>
                              intro iv139_3 iv139_4 H locs hL1 hl1 bliv139_3 buiv139_3 bliv139_4 buiv139_4 vi139_0 ls hn139 hW hT hM fw_6 ffw10_x_11  hl
                              refine lv_iload_n hx hb dX10_wordHere_139 rfl (lv_at hl 1 rfl) ?_
                              refine hb_if_eq (zx := iv139_3.toInt) (tgt := 188) hx hb rfl dX10_wordHere_140 (by decide) (fun c_112 => ?_) (fun c_112 => ?_)
                              · skip
                                refine lv_iload_n hx hb dX10_wordHere_188 rfl (lv_at hl 1 rfl) ?_
                                refine hb_if_eq (zx := iv139_3.toInt) (tgt := 194) hx hb rfl dX10_wordHere_189 (by decide) (fun c_113 => ?_) (fun c_113 => by exfalso; omega)
                                obtain ⟨x_114, ex_114⟩ : ∃ y : Int32, y = iv79_1 + Int32.ofInt 1 := ⟨_, rfl⟩
                                have rg_115 := i32_r iv79_1
                                have zx_114 : x_114.toInt = iv79_1.toInt + (1) := by rw [ex_114]; exact i32_add rfl (by decide) (by omega) (by omega)
                                refine lv_iinc (v := x_114) (lv' := [(1, .int x_114), (4, .int iv139_4), (3, .int iv139_3), (2, .int iv96_2), (0, .ref x)]) hx hb dX10_wordHere_194 hl (k := 3) rfl ex_114.symm (by decide) rfl (fun ls hl => ?_)
                                refine lv_goto (tgt := 79) hx hb dX10_wordHere_197 (by decide) ?_
                                exact ih79 x_114 _ _ hL1 hl1 (by omega) (by omega)  ls (by omega) hW hT hM fw_6 ffw10_x_11  (lv_sub hl [0, 4] rfl)
                              · skip
                                refine lv_iload hx hb dX10_wordHere_143 (lv_at hl 0 rfl) ?_
                                refine lv_iload_n hx hb dX10_wordHere_145 rfl (lv_at hl 2 rfl) ?_
                                refine hb_icmp_ge (zx := iv139_4.toInt) (zy := iv96_2.toInt) (tgt := 188) hx hb rfl rfl dX10_wordHere_146 (by decide) (fun c_116 => ?_) (fun c_116 => ?_)
                                · skip
                                  refine lv_iload_n hx hb dX10_wordHere_188 rfl (lv_at hl 1 rfl) ?_
                                  refine hb_if_eq (zx := iv139_3.toInt) (tgt := 194) hx hb rfl dX10_wordHere_189 (by decide) (fun c_117 => by exfalso; omega) (fun c_117 => ?_)
                                  refine lv_iload_n hx hb dX10_wordHere_192 rfl (lv_at hl 3 rfl) ?_
                                  exact hx_reti hx hb hr hlk hW ⟨⟨w_6, fw10_x_11, fw_6, ffw10_x_11, (by refine ⟨by omega, by omega, by omega, Or.inr ?_⟩; omega)⟩, hT, hM⟩ dX10_wordHere_193
                                · skip
                                  refine lv_aload_n hx hb dX10_wordHere_149 rfl (lv_at hl 4 rfl) ?_
                                  refine hk_getr hx hb hts hC_10 hown hW (gx.S hM) tt_10 19 (by decide) rfl kw_1162 ⟨rfl, rfl, rfl⟩ ((hM.o gx trivial rfl).2.trans f_x_19) dX10_wordHere_150 ?_
                                  refine lv_bipush (v := 7) hx hb dX10_wordHere_153 (by decide) ?_
                                  refine lv_iload_n hx hb dX10_wordHere_155 rfl (lv_at hl 3 rfl) ?_
                                  refine lv_imul hx hb dX10_wordHere_156 ?_
                                  refine lv_topi (fun x_118 ex_118 => ?_)
                                  have zx_118 : x_118.toInt = 7 * iv79_1.toInt := by rw [ex_118]; exact i32_mul (by decide) rfl rfl (by omega) (by omega)
                                  refine lv_iload hx hb dX10_wordHere_157 (lv_at hl 0 rfl) ?_
                                  refine lv_iadd hx hb dX10_wordHere_159 ?_
                                  have rg_119 := i32_r x_118
                                  have rg_120 := i32_r iv139_4
                                  refine lv_topi (fun x_121 ex_121 => ?_)
                                  have zx_121 : x_121.toInt = x_118.toInt + iv139_4.toInt := by rw [ex_121]; exact i32_add rfl rfl (by omega) (by omega)
                                  refine hx_bald hx hb hW hT (gqw.S hM) tt_57 rfl ⟨by omega, by omega⟩ dX10_wordHere_160 (fun x_122 ex_122 lx_122 ux_122 => ?_)
                                  have ax_122 : x_122 = wf x_121.toNatClampNeg := ex_122.trans (congrFun (hx_afS hM gqw rfl af_qw) _)
                                  refine lv_aload_n hx hb dX10_wordHere_161 rfl (lv_at hl 4 rfl) ?_
                                  refine hk_getr hx hb hts hC_10 hown hW (gx.S hM) tt_10 6 (by decide) rfl kw_1149 ⟨rfl, rfl, rfl⟩ ((hM.o gx trivial rfl).2.trans f_x_6) dX10_wordHere_162 ?_
                                  refine lv_aload_n hx hb dX10_wordHere_165 rfl (lv_at hl 4 rfl) ?_
                                  refine hk_geti hx hb hts hC_10 hown hW (gx.S hM) tt_10 8 (by decide) rfl kw_1151 ⟨rfl, rfl, rfl⟩ fw_6 dX10_wordHere_166 ?_
                                  refine lv_iload hx hb dX10_wordHere_169 (lv_at hl 0 rfl) ?_
                                  refine lv_iadd hx hb dX10_wordHere_171 ?_
                                  refine lv_topi (fun x_123 ex_123 => ?_)
                                  have zx_123 : x_123.toInt = w_6.toInt + iv139_4.toInt := by rw [ex_123]; exact i32_add rfl rfl (by omega) (by omega)
                                  refine hx_bald hx hb hW hT (gqt.S hM) tt_53 rfl ⟨by omega, by omega⟩ dX10_wordHere_172 (fun x_124 ex_124 lx_124 ux_124 => ?_)
                                  have ax_124 : x_124 = tf x_123.toNatClampNeg := ex_124.trans (congrFun (hx_afS hM gqt rfl af_qt) _)
                                  refine hb_icmp_ne (zx := x_122.toInt) (zy := x_124.toInt) (tgt := 180) hx hb rfl rfl dX10_wordHere_173 (by decide) (fun c_125 => ?_) (fun c_125 => ?_)
                                  · skip
                                    refine lv_iconst (v := 0) hx hb dX10_wordHere_180 (by decide) ?_
                                    refine lv_istore_n (lv' := [(3, .int (0 : Int32)), (4, .int iv139_4), (2, .int iv96_2), (1, .int iv79_1), (0, .ref x)]) hx hb dX10_wordHere_181 rfl hl (by decide) rfl (fun ls hl => ?_)
                                    obtain ⟨x_126, ex_126⟩ : ∃ y : Int32, y = iv139_4 + Int32.ofInt 1 := ⟨_, rfl⟩
                                    have zx_126 : x_126.toInt = iv139_4.toInt + (1) := by rw [ex_126]; exact i32_add rfl (by decide) (by omega) (by omega)
                                    refine lv_iinc (v := x_126) (lv' := [(4, .int x_126), (3, .int (0 : Int32)), (2, .int iv96_2), (1, .int iv79_1), (0, .ref x)]) hx hb dX10_wordHere_182 hl (k := 1) rfl ex_126.symm (by decide) rfl (fun ls hl => ?_)
                                    refine lv_goto (tgt := 139) hx hb dX10_wordHere_185 (by decide) ?_
                                    have zk_0 : (0 : Int32).toInt = 0 := by decide
                                    exact ih139 (0 : Int32) x_126 _ _ hL1 hl1 (by decide) (by decide) (by omega) (by omega) (by omega) ls (by omega) hW hT hM fw_6 ffw10_x_11  (lv_sub hl [0, 1, 2, 3, 4] rfl)
                                  · skip
                                    refine lv_iconst (v := 1) hx hb dX10_wordHere_176 (by decide) ?_
                                    refine lv_goto (tgt := 181) hx hb dX10_wordHere_177 (by decide) ?_
                                    refine lv_istore_n (lv' := [(3, .int (1 : Int32)), (4, .int iv139_4), (2, .int iv96_2), (1, .int iv79_1), (0, .ref x)]) hx hb dX10_wordHere_181 rfl hl (by decide) rfl (fun ls hl => ?_)
                                    obtain ⟨x_127, ex_127⟩ : ∃ y : Int32, y = iv139_4 + Int32.ofInt 1 := ⟨_, rfl⟩
                                    have zx_127 : x_127.toInt = iv139_4.toInt + (1) := by rw [ex_127]; exact i32_add rfl (by decide) (by omega) (by omega)
                                    refine lv_iinc (v := x_127) (lv' := [(4, .int x_127), (3, .int (1 : Int32)), (2, .int iv96_2), (1, .int iv79_1), (0, .ref x)]) hx hb dX10_wordHere_182 hl (k := 1) rfl ex_127.symm (by decide) rfl (fun ls hl => ?_)
                                    refine lv_goto (tgt := 139) hx hb dX10_wordHere_185 (by decide) ?_
                                    have zk_1 : (1 : Int32).toInt = 1 := by decide
                                    exact ih139 (1 : Int32) x_127 _ _ hL1 hl1 (by decide) (by decide) (by omega) (by omega) (by omega) ls (by omega) hW hT hM fw_6 ffw10_x_11  (lv_sub hl [0, 1, 2, 3, 4] rfl)
                          have zk_1 : (1 : Int32).toInt = 1 := by decide
                          have zk_0 : (0 : Int32).toInt = 0 := by decide
                          exact loop139 8 (1 : Int32) (0 : Int32) _ _ hL1 hl1 (by decide) (by decide) (by decide) (by decide) (by omega) ls (by omega) hW hT hM fw_6 ffw10_x_11  hl
                      · skip
                        refine lv_aload_n hx hb dX10_wordHere_102 rfl (lv_at hl 2 rfl) ?_
                        refine hk_getr hx hb hts hC_10 hown hW (gx.S hM) tt_10 19 (by decide) rfl kw_1162 ⟨rfl, rfl, rfl⟩ ((hM.o gx trivial rfl).2.trans f_x_19) dX10_wordHere_103 ?_
                        refine lv_bipush (v := 7) hx hb dX10_wordHere_106 (by decide) ?_
                        refine lv_iload_n hx hb dX10_wordHere_108 rfl (lv_at hl 1 rfl) ?_
                        refine lv_imul hx hb dX10_wordHere_109 ?_
                        refine lv_topi (fun x_128 ex_128 => ?_)
                        have zx_128 : x_128.toInt = 7 * iv79_1.toInt := by rw [ex_128]; exact i32_mul (by decide) rfl rfl (by omega) (by omega)
                        refine lv_iload_n hx hb dX10_wordHere_110 rfl (lv_at hl 0 rfl) ?_
                        refine lv_iadd hx hb dX10_wordHere_111 ?_
                        have rg_129 := i32_r x_128
                        have rg_130 := i32_r iv96_2
                        refine lv_topi (fun x_131 ex_131 => ?_)
                        have zx_131 : x_131.toInt = x_128.toInt + iv96_2.toInt := by rw [ex_131]; exact i32_add rfl rfl (by omega) (by omega)
                        refine hx_bald hx hb hW hT (gqw.S hM) tt_57 rfl ⟨by omega, by omega⟩ dX10_wordHere_112 (fun x_132 ex_132 lx_132 ux_132 => ?_)
                        have ax_132 : x_132 = wf x_131.toNatClampNeg := ex_132.trans (congrFun (hx_afS hM gqw rfl af_qw) _)
                        refine hb_if_eq (zx := x_132.toInt) (tgt := 122) hx hb rfl dX10_wordHere_113 (by decide) (fun c_133 => ?_) (fun c_133 => ?_)
                        · skip
                          have hend : iv96_2.toInt = 7 ∨ (wf (7 * iv79_1.toInt.toNat + iv96_2.toInt.toNat)).toInt = 0 := by first | exact Or.inl (by omega) | exact Or.inr (hx_wz (by omega) ax_132 (by omega) (by omega) (by omega))
                          have hwl := hx_wl hwd (by omega) (by omega) (by omega) (by omega) vi96_0 hend
                          refine lv_iload_n hx hb dX10_wordHere_122 rfl (lv_at hl 0 rfl) ?_
                          refine lv_aload_n hx hb dX10_wordHere_123 rfl (lv_at hl 2 rfl) ?_
                          refine hk_geti hx hb hts hC_10 hown hW (gx.S hM) tt_10 11 (by decide) rfl kw_1154 ⟨rfl, rfl, rfl⟩ ffw10_x_11 dX10_wordHere_124 ?_
                          refine hb_icmp_ne (zx := iv96_2.toInt) (zy := fw10_x_11.toInt) (tgt := 134) hx hb rfl rfl dX10_wordHere_127 (by decide) (fun c_134 => ?_) (fun c_134 => ?_)
                          · skip
                            refine lv_iconst (v := 0) hx hb dX10_wordHere_134 (by decide) ?_
                            refine lv_istore_n (lv' := [(3, .int (0 : Int32)), (2, .int iv96_2), (1, .int iv79_1), (0, .ref x)]) hx hb dX10_wordHere_135 rfl hl (by decide) rfl (fun ls hl => ?_)
                            refine lv_iconst (v := 0) hx hb dX10_wordHere_136 (by decide) ?_
                            refine lv_istore (lv' := [(4, .int (0 : Int32)), (3, .int (0 : Int32)), (2, .int iv96_2), (1, .int iv79_1), (0, .ref x)]) hx hb dX10_wordHere_137 hl (by decide) rfl (fun ls hl => ?_)
                            have loop139 : ∀ (n139 : Nat) (iv139_3 iv139_4 : Int32) (H : Heap) (locs : List Loc) (hL1 : List Nat) (hl1 : hx_h), 0 ≤ iv139_3.toInt → iv139_3.toInt ≤ 1 → 0 ≤ iv139_4.toInt → iv139_4.toInt ≤ 7 → (iv139_3.toInt = 0 ∨ iv96_2.toInt = fw10_x_11.toInt) → ∀ (ls : Array Slot), 7 - iv139_4.toInt < (n139 : Int) → hx_W T_tb (P_ty dA) (dC, dI) vwCl (hx_A L sz) s.heap hL1 hl1 s H locs → hx_T T_tb hL1 hl1 → hx_S T_tb [(10, 8), (10, 11)] L h hL1 hl1 → hl1.2.1 x 8 = w_6 → hl1.2.1 x 11 = fw10_x_11 → lv_has ls 5 [(4, .int iv139_4), (3, .int iv139_3), (2, .int iv96_2), (1, .int iv79_1), (0, .ref x)] → W p l e ({ frames := 1, cells := 0, slots := 0, locals := 20 }) s m ([.ref x] : List Value).toArray below meth c H locs 0 0 (MQ below (va_Qi (fun (r : Int32) (u : List Nat × hx_h) => (∃ (nx1 : Int32) (ws1 : Int32), u.2.2.1 x 8 = nx1 ∧ u.2.2.1 x 11 = ws1 ∧ (nx0.toInt ≤ nx1.toInt ∧ (nx1.toInt = nx0.toInt ∨ nx1.toInt ≤ tp0.toInt) ∧ 0 ≤ ws1.toInt ∧ (r.toInt = -1 ∨ (0 ≤ r.toInt ∧ r.toInt ≤ 24 ∧ nx1.toInt + ws1.toInt ≤ tp0.toInt ∧ 1 ≤ ws1.toInt ∧ (r.toInt = 0 → ws1.toInt = 2) ∧ (r.toInt = 1 → ws1.toInt = 3) ∧ (r.toInt = 2 → ws1.toInt = 3) ∧ (3 ≤ r.toInt ∧ r.toInt ≤ 10 → 3 ≤ ws1.toInt) ∧ (r.toInt = 20 → ws1.toInt = 5))))) ∧ hx_T T_tb u.1 u.2 ∧ hx_S T_tb [(10, 8), (10, 11)] L h u.1 u.2) (hx_E T_tb (P_ty dA) (dC, dI) vwCl (hx_A L sz)) (hx_A L sz)) ([.ref x] : List Value).toArray s 0 0 (hx_A L sz)) (F0 m 139 ls []) := by
                              intro n139
                              induction n139 with
                              | zero => intro iv139_3 iv139_4 H locs hL1 hl1 bliv139_3 buiv139_3 bliv139_4 buiv139_4 vi139_0 ls hn139; exfalso; omega
                              | succ n139 ih139 =>
                                intro iv139_3 iv139_4 H locs hL1 hl1 bliv139_3 buiv139_3 bliv139_4 buiv139_4 vi139_0 ls hn139 hW hT hM fw_6 ffw10_x_11  hl
                                refine lv_iload_n hx hb dX10_wordHere_139 rfl (lv_at hl 1 rfl) ?_
                                refine hb_if_eq (zx := iv139_3.toInt) (tgt := 188) hx hb rfl dX10_wordHere_140 (by decide) (fun c_135 => ?_) (fun c_135 => ?_)
                                · skip
                                  refine lv_iload_n hx hb dX10_wordHere_188 rfl (lv_at hl 1 rfl) ?_
                                  refine hb_if_eq (zx := iv139_3.toInt) (tgt := 194) hx hb rfl dX10_wordHere_189 (by decide) (fun c_136 => ?_) (fun c_136 => by exfalso; omega)
                                  obtain ⟨x_137, ex_137⟩ : ∃ y : Int32, y = iv79_1 + Int32.ofInt 1 := ⟨_, rfl⟩
                                  have rg_138 := i32_r iv79_1
                                  have zx_137 : x_137.toInt = iv79_1.toInt + (1) := by rw [ex_137]; exact i32_add rfl (by decide) (by omega) (by omega)
                                  refine lv_iinc (v := x_137) (lv' := [(1, .int x_137), (4, .int iv139_4), (3, .int iv139_3), (2, .int iv96_2), (0, .ref x)]) hx hb dX10_wordHere_194 hl (k := 3) rfl ex_137.symm (by decide) rfl (fun ls hl => ?_)
                                  refine lv_goto (tgt := 79) hx hb dX10_wordHere_197 (by decide) ?_
                                  exact ih79 x_137 _ _ hL1 hl1 (by omega) (by omega)  ls (by omega) hW hT hM fw_6 ffw10_x_11  (lv_sub hl [0, 4] rfl)
                                · skip
                                  refine lv_iload hx hb dX10_wordHere_143 (lv_at hl 0 rfl) ?_
                                  refine lv_iload_n hx hb dX10_wordHere_145 rfl (lv_at hl 2 rfl) ?_
                                  refine hb_icmp_ge (zx := iv139_4.toInt) (zy := iv96_2.toInt) (tgt := 188) hx hb rfl rfl dX10_wordHere_146 (by decide) (fun c_139 => ?_) (fun c_139 => ?_)
                                  · skip
                                    refine lv_iload_n hx hb dX10_wordHere_188 rfl (lv_at hl 1 rfl) ?_
                                    refine hb_if_eq (zx := iv139_3.toInt) (tgt := 194) hx hb rfl dX10_wordHere_189 (by decide) (fun c_140 => by exfalso; omega) (fun c_140 => ?_)
                                    refine lv_iload_n hx hb dX10_wordHere_192 rfl (lv_at hl 3 rfl) ?_
                                    exact hx_reti hx hb hr hlk hW ⟨⟨w_6, fw10_x_11, fw_6, ffw10_x_11, (by refine ⟨by omega, by omega, by omega, Or.inr ?_⟩; omega)⟩, hT, hM⟩ dX10_wordHere_193
                                  · skip
                                    refine lv_aload_n hx hb dX10_wordHere_149 rfl (lv_at hl 4 rfl) ?_
                                    refine hk_getr hx hb hts hC_10 hown hW (gx.S hM) tt_10 19 (by decide) rfl kw_1162 ⟨rfl, rfl, rfl⟩ ((hM.o gx trivial rfl).2.trans f_x_19) dX10_wordHere_150 ?_
                                    refine lv_bipush (v := 7) hx hb dX10_wordHere_153 (by decide) ?_
                                    refine lv_iload_n hx hb dX10_wordHere_155 rfl (lv_at hl 3 rfl) ?_
                                    refine lv_imul hx hb dX10_wordHere_156 ?_
                                    refine lv_topi (fun x_141 ex_141 => ?_)
                                    have zx_141 : x_141.toInt = 7 * iv79_1.toInt := by rw [ex_141]; exact i32_mul (by decide) rfl rfl (by omega) (by omega)
                                    refine lv_iload hx hb dX10_wordHere_157 (lv_at hl 0 rfl) ?_
                                    refine lv_iadd hx hb dX10_wordHere_159 ?_
                                    have rg_142 := i32_r x_141
                                    have rg_143 := i32_r iv139_4
                                    refine lv_topi (fun x_144 ex_144 => ?_)
                                    have zx_144 : x_144.toInt = x_141.toInt + iv139_4.toInt := by rw [ex_144]; exact i32_add rfl rfl (by omega) (by omega)
                                    refine hx_bald hx hb hW hT (gqw.S hM) tt_57 rfl ⟨by omega, by omega⟩ dX10_wordHere_160 (fun x_145 ex_145 lx_145 ux_145 => ?_)
                                    have ax_145 : x_145 = wf x_144.toNatClampNeg := ex_145.trans (congrFun (hx_afS hM gqw rfl af_qw) _)
                                    refine lv_aload_n hx hb dX10_wordHere_161 rfl (lv_at hl 4 rfl) ?_
                                    refine hk_getr hx hb hts hC_10 hown hW (gx.S hM) tt_10 6 (by decide) rfl kw_1149 ⟨rfl, rfl, rfl⟩ ((hM.o gx trivial rfl).2.trans f_x_6) dX10_wordHere_162 ?_
                                    refine lv_aload_n hx hb dX10_wordHere_165 rfl (lv_at hl 4 rfl) ?_
                                    refine hk_geti hx hb hts hC_10 hown hW (gx.S hM) tt_10 8 (by decide) rfl kw_1151 ⟨rfl, rfl, rfl⟩ fw_6 dX10_wordHere_166 ?_
                                    refine lv_iload hx hb dX10_wordHere_169 (lv_at hl 0 rfl) ?_
                                    refine lv_iadd hx hb dX10_wordHere_171 ?_
                                    refine lv_topi (fun x_146 ex_146 => ?_)
                                    have zx_146 : x_146.toInt = w_6.toInt + iv139_4.toInt := by rw [ex_146]; exact i32_add rfl rfl (by omega) (by omega)
                                    refine hx_bald hx hb hW hT (gqt.S hM) tt_53 rfl ⟨by omega, by omega⟩ dX10_wordHere_172 (fun x_147 ex_147 lx_147 ux_147 => ?_)
                                    have ax_147 : x_147 = tf x_146.toNatClampNeg := ex_147.trans (congrFun (hx_afS hM gqt rfl af_qt) _)
                                    refine hb_icmp_ne (zx := x_145.toInt) (zy := x_147.toInt) (tgt := 180) hx hb rfl rfl dX10_wordHere_173 (by decide) (fun c_148 => ?_) (fun c_148 => ?_)
                                    · skip
                                      refine lv_iconst (v := 0) hx hb dX10_wordHere_180 (by decide) ?_
                                      refine lv_istore_n (lv' := [(3, .int (0 : Int32)), (4, .int iv139_4), (2, .int iv96_2), (1, .int iv79_1), (0, .ref x)]) hx hb dX10_wordHere_181 rfl hl (by decide) rfl (fun ls hl => ?_)
                                      obtain ⟨x_149, ex_149⟩ : ∃ y : Int32, y = iv139_4 + Int32.ofInt 1 := ⟨_, rfl⟩
                                      have zx_149 : x_149.toInt = iv139_4.toInt + (1) := by rw [ex_149]; exact i32_add rfl (by decide) (by omega) (by omega)
                                      refine lv_iinc (v := x_149) (lv' := [(4, .int x_149), (3, .int (0 : Int32)), (2, .int iv96_2), (1, .int iv79_1), (0, .ref x)]) hx hb dX10_wordHere_182 hl (k := 1) rfl ex_149.symm (by decide) rfl (fun ls hl => ?_)
                                      refine lv_goto (tgt := 139) hx hb dX10_wordHere_185 (by decide) ?_
                                      have zk_0 : (0 : Int32).toInt = 0 := by decide
                                      exact ih139 (0 : Int32) x_149 _ _ hL1 hl1 (by decide) (by decide) (by omega) (by omega) (by omega) ls (by omega) hW hT hM fw_6 ffw10_x_11  (lv_sub hl [0, 1, 2, 3, 4] rfl)
                                    · skip
                                      refine lv_iconst (v := 1) hx hb dX10_wordHere_176 (by decide) ?_
                                      refine lv_goto (tgt := 181) hx hb dX10_wordHere_177 (by decide) ?_
                                      refine lv_istore_n (lv' := [(3, .int (1 : Int32)), (4, .int iv139_4), (2, .int iv96_2), (1, .int iv79_1), (0, .ref x)]) hx hb dX10_wordHere_181 rfl hl (by decide) rfl (fun ls hl => ?_)
                                      obtain ⟨x_150, ex_150⟩ : ∃ y : Int32, y = iv139_4 + Int32.ofInt 1 := ⟨_, rfl⟩
                                      have zx_150 : x_150.toInt = iv139_4.toInt + (1) := by rw [ex_150]; exact i32_add rfl (by decide) (by omega) (by omega)
                                      refine lv_iinc (v := x_150) (lv' := [(4, .int x_150), (3, .int (1 : Int32)), (2, .int iv96_2), (1, .int iv79_1), (0, .ref x)]) hx hb dX10_wordHere_182 hl (k := 1) rfl ex_150.symm (by decide) rfl (fun ls hl => ?_)
                                      refine lv_goto (tgt := 139) hx hb dX10_wordHere_185 (by decide) ?_
                                      have zk_1 : (1 : Int32).toInt = 1 := by decide
                                      exact ih139 (1 : Int32) x_150 _ _ hL1 hl1 (by decide) (by decide) (by omega) (by omega) (by omega) ls (by omega) hW hT hM fw_6 ffw10_x_11  (lv_sub hl [0, 1, 2, 3, 4] rfl)
                            have zk_0 : (0 : Int32).toInt = 0 := by decide
                            have zk_0 : (0 : Int32).toInt = 0 := by decide
                            exact loop139 8 (0 : Int32) (0 : Int32) _ _ hL1 hl1 (by decide) (by decide) (by decide) (by decide) (by omega) ls (by omega) hW hT hM fw_6 ffw10_x_11  hl
                          · skip
                            refine lv_iconst (v := 1) hx hb dX10_wordHere_130 (by decide) ?_
                            refine lv_goto (tgt := 135) hx hb dX10_wordHere_131 (by decide) ?_
                            refine lv_istore_n (lv' := [(3, .int (1 : Int32)), (2, .int iv96_2), (1, .int iv79_1), (0, .ref x)]) hx hb dX10_wordHere_135 rfl hl (by decide) rfl (fun ls hl => ?_)
                            refine lv_iconst (v := 0) hx hb dX10_wordHere_136 (by decide) ?_
                            refine lv_istore (lv' := [(4, .int (0 : Int32)), (3, .int (1 : Int32)), (2, .int iv96_2), (1, .int iv79_1), (0, .ref x)]) hx hb dX10_wordHere_137 hl (by decide) rfl (fun ls hl => ?_)
                            have loop139 : ∀ (n139 : Nat) (iv139_3 iv139_4 : Int32) (H : Heap) (locs : List Loc) (hL1 : List Nat) (hl1 : hx_h), 0 ≤ iv139_3.toInt → iv139_3.toInt ≤ 1 → 0 ≤ iv139_4.toInt → iv139_4.toInt ≤ 7 → (iv139_3.toInt = 0 ∨ iv96_2.toInt = fw10_x_11.toInt) → ∀ (ls : Array Slot), 7 - iv139_4.toInt < (n139 : Int) → hx_W T_tb (P_ty dA) (dC, dI) vwCl (hx_A L sz) s.heap hL1 hl1 s H locs → hx_T T_tb hL1 hl1 → hx_S T_tb [(10, 8), (10, 11)] L h hL1 hl1 → hl1.2.1 x 8 = w_6 → hl1.2.1 x 11 = fw10_x_11 → lv_has ls 5 [(4, .int iv139_4), (3, .int iv139_3), (2, .int iv96_2), (1, .int iv79_1), (0, .ref x)] → W p l e ({ frames := 1, cells := 0, slots := 0, locals := 20 }) s m ([.ref x] : List Value).toArray below meth c H locs 0 0 (MQ below (va_Qi (fun (r : Int32) (u : List Nat × hx_h) => (∃ (nx1 : Int32) (ws1 : Int32), u.2.2.1 x 8 = nx1 ∧ u.2.2.1 x 11 = ws1 ∧ (nx0.toInt ≤ nx1.toInt ∧ (nx1.toInt = nx0.toInt ∨ nx1.toInt ≤ tp0.toInt) ∧ 0 ≤ ws1.toInt ∧ (r.toInt = -1 ∨ (0 ≤ r.toInt ∧ r.toInt ≤ 24 ∧ nx1.toInt + ws1.toInt ≤ tp0.toInt ∧ 1 ≤ ws1.toInt ∧ (r.toInt = 0 → ws1.toInt = 2) ∧ (r.toInt = 1 → ws1.toInt = 3) ∧ (r.toInt = 2 → ws1.toInt = 3) ∧ (3 ≤ r.toInt ∧ r.toInt ≤ 10 → 3 ≤ ws1.toInt) ∧ (r.toInt = 20 → ws1.toInt = 5))))) ∧ hx_T T_tb u.1 u.2 ∧ hx_S T_tb [(10, 8), (10, 11)] L h u.1 u.2) (hx_E T_tb (P_ty dA) (dC, dI) vwCl (hx_A L sz)) (hx_A L sz)) ([.ref x] : List Value).toArray s 0 0 (hx_A L sz)) (F0 m 139 ls []) := by
                              intro n139
                              induction n139 with
                              | zero => intro iv139_3 iv139_4 H locs hL1 hl1 bliv139_3 buiv139_3 bliv139_4 buiv139_4 vi139_0 ls hn139; exfalso; omega
                              | succ n139 ih139 =>
                                intro iv139_3 iv139_4 H locs hL1 hl1 bliv139_3 buiv139_3 bliv139_4 buiv139_4 vi139_0 ls hn139 hW hT hM fw_6 ffw10_x_11  hl
                                refine lv_iload_n hx hb dX10_wordHere_139 rfl (lv_at hl 1 rfl) ?_
                                refine hb_if_eq (zx := iv139_3.toInt) (tgt := 188) hx hb rfl dX10_wordHere_140 (by decide) (fun c_151 => ?_) (fun c_151 => ?_)
                                · skip
                                  refine lv_iload_n hx hb dX10_wordHere_188 rfl (lv_at hl 1 rfl) ?_
                                  refine hb_if_eq (zx := iv139_3.toInt) (tgt := 194) hx hb rfl dX10_wordHere_189 (by decide) (fun c_152 => ?_) (fun c_152 => by exfalso; omega)
                                  obtain ⟨x_153, ex_153⟩ : ∃ y : Int32, y = iv79_1 + Int32.ofInt 1 := ⟨_, rfl⟩
                                  have rg_154 := i32_r iv79_1
                                  have zx_153 : x_153.toInt = iv79_1.toInt + (1) := by rw [ex_153]; exact i32_add rfl (by decide) (by omega) (by omega)
                                  refine lv_iinc (v := x_153) (lv' := [(1, .int x_153), (4, .int iv139_4), (3, .int iv139_3), (2, .int iv96_2), (0, .ref x)]) hx hb dX10_wordHere_194 hl (k := 3) rfl ex_153.symm (by decide) rfl (fun ls hl => ?_)
                                  refine lv_goto (tgt := 79) hx hb dX10_wordHere_197 (by decide) ?_
                                  exact ih79 x_153 _ _ hL1 hl1 (by omega) (by omega)  ls (by omega) hW hT hM fw_6 ffw10_x_11  (lv_sub hl [0, 4] rfl)
                                · skip
                                  refine lv_iload hx hb dX10_wordHere_143 (lv_at hl 0 rfl) ?_
                                  refine lv_iload_n hx hb dX10_wordHere_145 rfl (lv_at hl 2 rfl) ?_
                                  refine hb_icmp_ge (zx := iv139_4.toInt) (zy := iv96_2.toInt) (tgt := 188) hx hb rfl rfl dX10_wordHere_146 (by decide) (fun c_155 => ?_) (fun c_155 => ?_)
                                  · skip
                                    refine lv_iload_n hx hb dX10_wordHere_188 rfl (lv_at hl 1 rfl) ?_
                                    refine hb_if_eq (zx := iv139_3.toInt) (tgt := 194) hx hb rfl dX10_wordHere_189 (by decide) (fun c_156 => by exfalso; omega) (fun c_156 => ?_)
                                    refine lv_iload_n hx hb dX10_wordHere_192 rfl (lv_at hl 3 rfl) ?_
                                    exact hx_reti hx hb hr hlk hW ⟨⟨w_6, fw10_x_11, fw_6, ffw10_x_11, (by refine ⟨by omega, by omega, by omega, Or.inr ?_⟩; omega)⟩, hT, hM⟩ dX10_wordHere_193
                                  · skip
                                    refine lv_aload_n hx hb dX10_wordHere_149 rfl (lv_at hl 4 rfl) ?_
                                    refine hk_getr hx hb hts hC_10 hown hW (gx.S hM) tt_10 19 (by decide) rfl kw_1162 ⟨rfl, rfl, rfl⟩ ((hM.o gx trivial rfl).2.trans f_x_19) dX10_wordHere_150 ?_
                                    refine lv_bipush (v := 7) hx hb dX10_wordHere_153 (by decide) ?_
                                    refine lv_iload_n hx hb dX10_wordHere_155 rfl (lv_at hl 3 rfl) ?_
                                    refine lv_imul hx hb dX10_wordHere_156 ?_
                                    refine lv_topi (fun x_157 ex_157 => ?_)
                                    have zx_157 : x_157.toInt = 7 * iv79_1.toInt := by rw [ex_157]; exact i32_mul (by decide) rfl rfl (by omega) (by omega)
                                    refine lv_iload hx hb dX10_wordHere_157 (lv_at hl 0 rfl) ?_
                                    refine lv_iadd hx hb dX10_wordHere_159 ?_
                                    have rg_158 := i32_r x_157
                                    have rg_159 := i32_r iv139_4
                                    refine lv_topi (fun x_160 ex_160 => ?_)
                                    have zx_160 : x_160.toInt = x_157.toInt + iv139_4.toInt := by rw [ex_160]; exact i32_add rfl rfl (by omega) (by omega)
                                    refine hx_bald hx hb hW hT (gqw.S hM) tt_57 rfl ⟨by omega, by omega⟩ dX10_wordHere_160 (fun x_161 ex_161 lx_161 ux_161 => ?_)
                                    have ax_161 : x_161 = wf x_160.toNatClampNeg := ex_161.trans (congrFun (hx_afS hM gqw rfl af_qw) _)
                                    refine lv_aload_n hx hb dX10_wordHere_161 rfl (lv_at hl 4 rfl) ?_
                                    refine hk_getr hx hb hts hC_10 hown hW (gx.S hM) tt_10 6 (by decide) rfl kw_1149 ⟨rfl, rfl, rfl⟩ ((hM.o gx trivial rfl).2.trans f_x_6) dX10_wordHere_162 ?_
                                    refine lv_aload_n hx hb dX10_wordHere_165 rfl (lv_at hl 4 rfl) ?_
                                    refine hk_geti hx hb hts hC_10 hown hW (gx.S hM) tt_10 8 (by decide) rfl kw_1151 ⟨rfl, rfl, rfl⟩ fw_6 dX10_wordHere_166 ?_
                                    refine lv_iload hx hb dX10_wordHere_169 (lv_at hl 0 rfl) ?_
                                    refine lv_iadd hx hb dX10_wordHere_171 ?_
                                    refine lv_topi (fun x_162 ex_162 => ?_)
                                    have zx_162 : x_162.toInt = w_6.toInt + iv139_4.toInt := by rw [ex_162]; exact i32_add rfl rfl (by omega) (by omega)
                                    refine hx_bald hx hb hW hT (gqt.S hM) tt_53 rfl ⟨by omega, by omega⟩ dX10_wordHere_172 (fun x_163 ex_163 lx_163 ux_163 => ?_)
                                    have ax_163 : x_163 = tf x_162.toNatClampNeg := ex_163.trans (congrFun (hx_afS hM gqt rfl af_qt) _)
                                    refine hb_icmp_ne (zx := x_161.toInt) (zy := x_163.toInt) (tgt := 180) hx hb rfl rfl dX10_wordHere_173 (by decide) (fun c_164 => ?_) (fun c_164 => ?_)
                                    · skip
                                      refine lv_iconst (v := 0) hx hb dX10_wordHere_180 (by decide) ?_
                                      refine lv_istore_n (lv' := [(3, .int (0 : Int32)), (4, .int iv139_4), (2, .int iv96_2), (1, .int iv79_1), (0, .ref x)]) hx hb dX10_wordHere_181 rfl hl (by decide) rfl (fun ls hl => ?_)
                                      obtain ⟨x_165, ex_165⟩ : ∃ y : Int32, y = iv139_4 + Int32.ofInt 1 := ⟨_, rfl⟩
                                      have zx_165 : x_165.toInt = iv139_4.toInt + (1) := by rw [ex_165]; exact i32_add rfl (by decide) (by omega) (by omega)
                                      refine lv_iinc (v := x_165) (lv' := [(4, .int x_165), (3, .int (0 : Int32)), (2, .int iv96_2), (1, .int iv79_1), (0, .ref x)]) hx hb dX10_wordHere_182 hl (k := 1) rfl ex_165.symm (by decide) rfl (fun ls hl => ?_)
                                      refine lv_goto (tgt := 139) hx hb dX10_wordHere_185 (by decide) ?_
                                      have zk_0 : (0 : Int32).toInt = 0 := by decide
                                      exact ih139 (0 : Int32) x_165 _ _ hL1 hl1 (by decide) (by decide) (by omega) (by omega) (by omega) ls (by omega) hW hT hM fw_6 ffw10_x_11  (lv_sub hl [0, 1, 2, 3, 4] rfl)
                                    · skip
                                      refine lv_iconst (v := 1) hx hb dX10_wordHere_176 (by decide) ?_
                                      refine lv_goto (tgt := 181) hx hb dX10_wordHere_177 (by decide) ?_
                                      refine lv_istore_n (lv' := [(3, .int (1 : Int32)), (4, .int iv139_4), (2, .int iv96_2), (1, .int iv79_1), (0, .ref x)]) hx hb dX10_wordHere_181 rfl hl (by decide) rfl (fun ls hl => ?_)
                                      obtain ⟨x_166, ex_166⟩ : ∃ y : Int32, y = iv139_4 + Int32.ofInt 1 := ⟨_, rfl⟩
                                      have zx_166 : x_166.toInt = iv139_4.toInt + (1) := by rw [ex_166]; exact i32_add rfl (by decide) (by omega) (by omega)
                                      refine lv_iinc (v := x_166) (lv' := [(4, .int x_166), (3, .int (1 : Int32)), (2, .int iv96_2), (1, .int iv79_1), (0, .ref x)]) hx hb dX10_wordHere_182 hl (k := 1) rfl ex_166.symm (by decide) rfl (fun ls hl => ?_)
                                      refine lv_goto (tgt := 139) hx hb dX10_wordHere_185 (by decide) ?_
                                      have zk_1 : (1 : Int32).toInt = 1 := by decide
                                      exact ih139 (1 : Int32) x_166 _ _ hL1 hl1 (by decide) (by decide) (by omega) (by omega) (by omega) ls (by omega) hW hT hM fw_6 ffw10_x_11  (lv_sub hl [0, 1, 2, 3, 4] rfl)
                            have zk_1 : (1 : Int32).toInt = 1 := by decide
                            have zk_0 : (0 : Int32).toInt = 0 := by decide
                            exact loop139 8 (1 : Int32) (0 : Int32) _ _ hL1 hl1 (by decide) (by decide) (by decide) (by decide) (by omega) ls (by omega) hW hT hM fw_6 ffw10_x_11  hl
                        · skip
                          obtain ⟨x_167, ex_167⟩ : ∃ y : Int32, y = iv96_2 + Int32.ofInt 1 := ⟨_, rfl⟩
                          have zx_167 : x_167.toInt = iv96_2.toInt + (1) := by rw [ex_167]; exact i32_add rfl (by decide) (by omega) (by omega)
                          refine lv_iinc (v := x_167) (lv' := [(2, .int x_167), (1, .int iv79_1), (0, .ref x)]) hx hb dX10_wordHere_116 hl (k := 0) rfl ex_167.symm (by decide) rfl (fun ls hl => ?_)
                          refine lv_goto (tgt := 96) hx hb dX10_wordHere_119 (by decide) ?_
                          exact ih96 x_167 _ _ hL1 hl1 (by omega) (by omega) (hx_wp_s vi96_0 (by omega) ax_132 (by omega) (by omega) zx_167) ls (by omega) hW hT hM fw_6 ffw10_x_11  (lv_sub hl [0, 1, 2] rfl)
                  have zk_0 : (0 : Int32).toInt = 0 := by decide
                  exact loop96 8 (0 : Int32) _ _ hL1 hl1 (by decide) (by decide) hx_wp0 ls (by omega) hW hT hM fw_6 ffw10_x_11  hl
          have zk_0 : (0 : Int32).toInt = 0 := by decide
          exact loop79 26 (0 : Int32) _ _ hL1 hl1 (by decide) (by decide)  ls (by omega) hW hT hM fw_6 ffw10_x_11  hl
        · skip
          refine lv_aload_n hx hb dX10_wordHere_45 rfl (lv_at hl 0 rfl) ?_
          refine hk_getr hx hb hts hC_10 hown hW (gx.S hM) tt_10 6 (by decide) rfl kw_1149 ⟨rfl, rfl, rfl⟩ ((hM.o gx trivial rfl).2.trans f_x_6) dX10_wordHere_46 ?_
          refine lv_aload_n hx hb dX10_wordHere_49 rfl (lv_at hl 0 rfl) ?_
          refine hk_geti hx hb hts hC_10 hown hW (gx.S hM) tt_10 8 (by decide) rfl kw_1151 ⟨rfl, rfl, rfl⟩ fw_6 dX10_wordHere_50 ?_
          refine lv_aload_n hx hb dX10_wordHere_53 rfl (lv_at hl 0 rfl) ?_
          refine hk_geti hx hb hts hC_10 hown hW (gx.S hM) tt_10 11 (by decide) rfl kw_1154 ⟨rfl, rfl, rfl⟩ ffw10_x_11 dX10_wordHere_54 ?_
          refine lv_iadd hx hb dX10_wordHere_57 ?_
          refine lv_topi (fun x_168 ex_168 => ?_)
          have zx_168 : x_168.toInt = w_6.toInt + fw10_x_11.toInt := by rw [ex_168]; exact i32_add rfl rfl (by omega) (by omega)
          refine hx_bald hx hb hW hT (gqt.S hM) tt_53 rfl ⟨by omega, by omega⟩ dX10_wordHere_58 (fun x_169 ex_169 lx_169 ux_169 => ?_)
          have ax_169 : x_169 = tf x_168.toNatClampNeg := ex_169.trans (congrFun (hx_afS hM gqt rfl af_qt) _)
          refine lv_bipush (v := 122) hx hb dX10_wordHere_59 (by decide) ?_
          refine hb_icmp_gt (zx := x_169.toInt) (zy := 122) (tgt := 77) hx hb rfl (by decide) dX10_wordHere_61 (by decide) (fun c_170 => ?_) (fun c_170 => ?_)
          · skip
            refine lv_iconst (v := 0) hx hb dX10_wordHere_77 (by decide) ?_
            refine lv_istore_n (lv' := [(1, .int (0 : Int32)), (0, .ref x)]) hx hb dX10_wordHere_78 rfl hl (by decide) rfl (fun ls hl => ?_)
            have loop79 : ∀ (n79 : Nat) (iv79_1 : Int32) (H : Heap) (locs : List Loc) (hL1 : List Nat) (hl1 : hx_h), 0 ≤ iv79_1.toInt → iv79_1.toInt ≤ 25 → ∀ (ls : Array Slot), 25 - iv79_1.toInt < (n79 : Int) → hx_W T_tb (P_ty dA) (dC, dI) vwCl (hx_A L sz) s.heap hL1 hl1 s H locs → hx_T T_tb hL1 hl1 → hx_S T_tb [(10, 8), (10, 11)] L h hL1 hl1 → hl1.2.1 x 8 = w_6 → hl1.2.1 x 11 = fw10_x_11 → lv_has ls 5 [(1, .int iv79_1), (0, .ref x)] → W p l e ({ frames := 1, cells := 0, slots := 0, locals := 20 }) s m ([.ref x] : List Value).toArray below meth c H locs 0 0 (MQ below (va_Qi (fun (r : Int32) (u : List Nat × hx_h) => (∃ (nx1 : Int32) (ws1 : Int32), u.2.2.1 x 8 = nx1 ∧ u.2.2.1 x 11 = ws1 ∧ (nx0.toInt ≤ nx1.toInt ∧ (nx1.toInt = nx0.toInt ∨ nx1.toInt ≤ tp0.toInt) ∧ 0 ≤ ws1.toInt ∧ (r.toInt = -1 ∨ (0 ≤ r.toInt ∧ r.toInt ≤ 24 ∧ nx1.toInt + ws1.toInt ≤ tp0.toInt ∧ 1 ≤ ws1.toInt ∧ (r.toInt = 0 → ws1.toInt = 2) ∧ (r.toInt = 1 → ws1.toInt = 3) ∧ (r.toInt = 2 → ws1.toInt = 3) ∧ (3 ≤ r.toInt ∧ r.toInt ≤ 10 → 3 ≤ ws1.toInt) ∧ (r.toInt = 20 → ws1.toInt = 5))))) ∧ hx_T T_tb u.1 u.2 ∧ hx_S T_tb [(10, 8), (10, 11)] L h u.1 u.2) (hx_E T_tb (P_ty dA) (dC, dI) vwCl (hx_A L sz)) (hx_A L sz)) ([.ref x] : List Value).toArray s 0 0 (hx_A L sz)) (F0 m 79 ls []) := by
              intro n79
              induction n79 with
              | zero => intro iv79_1 H locs hL1 hl1 bliv79_1 buiv79_1  ls hn79; exfalso; omega
              | succ n79 ih79 =>
                intro iv79_1 H locs hL1 hl1 bliv79_1 buiv79_1  ls hn79 hW hT hM fw_6 ffw10_x_11  hl
                refine lv_iload_n hx hb dX10_wordHere_79 rfl (lv_at hl 0 rfl) ?_
                refine lv_bipush (v := 25) hx hb dX10_wordHere_80 (by decide) ?_
                refine hb_icmp_ge (zx := iv79_1.toInt) (zy := 25) (tgt := 200) hx hb rfl (by decide) dX10_wordHere_82 (by decide) (fun c_171 => ?_) (fun c_171 => ?_)
                · skip
                  refine lv_iconst (v := -1) hx hb dX10_wordHere_200 (by decide) ?_
                  exact hx_reti hx hb hr hlk hW ⟨⟨w_6, fw10_x_11, fw_6, ffw10_x_11, (by have zr : (-1 : Int32).toInt = -1 := (by decide); omega)⟩, hT, hM⟩ dX10_wordHere_201
                · skip
                  refine lv_aload_n hx hb dX10_wordHere_85 rfl (lv_at hl 1 rfl) ?_
                  refine hk_geti hx hb hts hC_10 hown hW (gx.S hM) tt_10 11 (by decide) rfl kw_1154 ⟨rfl, rfl, rfl⟩ ffw10_x_11 dX10_wordHere_86 ?_
                  refine lv_bipush (v := 7) hx hb dX10_wordHere_89 (by decide) ?_
                  refine hb_icmp_gt (zx := fw10_x_11.toInt) (zy := 7) (tgt := 200) hx hb rfl (by decide) dX10_wordHere_91 (by decide) (fun c_172 => ?_) (fun c_172 => ?_)
                  · skip
                    refine lv_iconst (v := -1) hx hb dX10_wordHere_200 (by decide) ?_
                    exact hx_reti hx hb hr hlk hW ⟨⟨w_6, fw10_x_11, fw_6, ffw10_x_11, (by have zr : (-1 : Int32).toInt = -1 := (by decide); omega)⟩, hT, hM⟩ dX10_wordHere_201
                  · skip
                    refine lv_iconst (v := 0) hx hb dX10_wordHere_94 (by decide) ?_
                    refine lv_istore_n (lv' := [(2, .int (0 : Int32)), (1, .int iv79_1), (0, .ref x)]) hx hb dX10_wordHere_95 rfl hl (by decide) rfl (fun ls hl => ?_)
                    have loop96 : ∀ (n96 : Nat) (iv96_2 : Int32) (H : Heap) (locs : List Loc) (hL1 : List Nat) (hl1 : hx_h), 0 ≤ iv96_2.toInt → iv96_2.toInt ≤ 7 → (hx_wp wf iv79_1.toInt iv96_2.toInt) → ∀ (ls : Array Slot), 7 - iv96_2.toInt < (n96 : Int) → hx_W T_tb (P_ty dA) (dC, dI) vwCl (hx_A L sz) s.heap hL1 hl1 s H locs → hx_T T_tb hL1 hl1 → hx_S T_tb [(10, 8), (10, 11)] L h hL1 hl1 → hl1.2.1 x 8 = w_6 → hl1.2.1 x 11 = fw10_x_11 → lv_has ls 5 [(2, .int iv96_2), (1, .int iv79_1), (0, .ref x)] → W p l e ({ frames := 1, cells := 0, slots := 0, locals := 20 }) s m ([.ref x] : List Value).toArray below meth c H locs 0 0 (MQ below (va_Qi (fun (r : Int32) (u : List Nat × hx_h) => (∃ (nx1 : Int32) (ws1 : Int32), u.2.2.1 x 8 = nx1 ∧ u.2.2.1 x 11 = ws1 ∧ (nx0.toInt ≤ nx1.toInt ∧ (nx1.toInt = nx0.toInt ∨ nx1.toInt ≤ tp0.toInt) ∧ 0 ≤ ws1.toInt ∧ (r.toInt = -1 ∨ (0 ≤ r.toInt ∧ r.toInt ≤ 24 ∧ nx1.toInt + ws1.toInt ≤ tp0.toInt ∧ 1 ≤ ws1.toInt ∧ (r.toInt = 0 → ws1.toInt = 2) ∧ (r.toInt = 1 → ws1.toInt = 3) ∧ (r.toInt = 2 → ws1.toInt = 3) ∧ (3 ≤ r.toInt ∧ r.toInt ≤ 10 → 3 ≤ ws1.toInt) ∧ (r.toInt = 20 → ws1.toInt = 5))))) ∧ hx_T T_tb u.1 u.2 ∧ hx_S T_tb [(10, 8), (10, 11)] L h u.1 u.2) (hx_E T_tb (P_ty dA) (dC, dI) vwCl (hx_A L sz)) (hx_A L sz)) ([.ref x] : List Value).toArray s 0 0 (hx_A L sz)) (F0 m 96 ls []) := by
                      intro n96
                      induction n96 with
                      | zero => intro iv96_2 H locs hL1 hl1 bliv96_2 buiv96_2 vi96_0 ls hn96; exfalso; omega
                      | succ n96 ih96 =>
                        intro iv96_2 H locs hL1 hl1 bliv96_2 buiv96_2 vi96_0 ls hn96 hW hT hM fw_6 ffw10_x_11  hl
                        refine lv_iload_n hx hb dX10_wordHere_96 rfl (lv_at hl 0 rfl) ?_
                        refine lv_bipush (v := 7) hx hb dX10_wordHere_97 (by decide) ?_
                        refine hb_icmp_ge (zx := iv96_2.toInt) (zy := 7) (tgt := 122) hx hb rfl (by decide) dX10_wordHere_99 (by decide) (fun c_173 => ?_) (fun c_173 => ?_)
                        · skip
                          have hend : iv96_2.toInt = 7 ∨ (wf (7 * iv79_1.toInt.toNat + iv96_2.toInt.toNat)).toInt = 0 := by first | exact Or.inl (by omega)
                          have hwl := hx_wl hwd (by omega) (by omega) (by omega) (by omega) vi96_0 hend
                          refine lv_iload_n hx hb dX10_wordHere_122 rfl (lv_at hl 0 rfl) ?_
                          refine lv_aload_n hx hb dX10_wordHere_123 rfl (lv_at hl 2 rfl) ?_
                          refine hk_geti hx hb hts hC_10 hown hW (gx.S hM) tt_10 11 (by decide) rfl kw_1154 ⟨rfl, rfl, rfl⟩ ffw10_x_11 dX10_wordHere_124 ?_
                          refine hb_icmp_ne (zx := iv96_2.toInt) (zy := fw10_x_11.toInt) (tgt := 134) hx hb rfl rfl dX10_wordHere_127 (by decide) (fun c_174 => ?_) (fun c_174 => ?_)
                          · skip
                            refine lv_iconst (v := 0) hx hb dX10_wordHere_134 (by decide) ?_
                            refine lv_istore_n (lv' := [(3, .int (0 : Int32)), (2, .int iv96_2), (1, .int iv79_1), (0, .ref x)]) hx hb dX10_wordHere_135 rfl hl (by decide) rfl (fun ls hl => ?_)
                            refine lv_iconst (v := 0) hx hb dX10_wordHere_136 (by decide) ?_
                            refine lv_istore (lv' := [(4, .int (0 : Int32)), (3, .int (0 : Int32)), (2, .int iv96_2), (1, .int iv79_1), (0, .ref x)]) hx hb dX10_wordHere_137 hl (by decide) rfl (fun ls hl => ?_)
                            have loop139 : ∀ (n139 : Nat) (iv139_3 iv139_4 : Int32) (H : Heap) (locs : List Loc) (hL1 : List Nat) (hl1 : hx_h), 0 ≤ iv139_3.toInt → iv139_3.toInt ≤ 1 → 0 ≤ iv139_4.toInt → iv139_4.toInt ≤ 7 → (iv139_3.toInt = 0 ∨ iv96_2.toInt = fw10_x_11.toInt) → ∀ (ls : Array Slot), 7 - iv139_4.toInt < (n139 : Int) → hx_W T_tb (P_ty dA) (dC, dI) vwCl (hx_A L sz) s.heap hL1 hl1 s H locs → hx_T T_tb hL1 hl1 → hx_S T_tb [(10, 8), (10, 11)] L h hL1 hl1 → hl1.2.1 x 8 = w_6 → hl1.2.1 x 11 = fw10_x_11 → lv_has ls 5 [(4, .int iv139_4), (3, .int iv139_3), (2, .int iv96_2), (1, .int iv79_1), (0, .ref x)] → W p l e ({ frames := 1, cells := 0, slots := 0, locals := 20 }) s m ([.ref x] : List Value).toArray below meth c H locs 0 0 (MQ below (va_Qi (fun (r : Int32) (u : List Nat × hx_h) => (∃ (nx1 : Int32) (ws1 : Int32), u.2.2.1 x 8 = nx1 ∧ u.2.2.1 x 11 = ws1 ∧ (nx0.toInt ≤ nx1.toInt ∧ (nx1.toInt = nx0.toInt ∨ nx1.toInt ≤ tp0.toInt) ∧ 0 ≤ ws1.toInt ∧ (r.toInt = -1 ∨ (0 ≤ r.toInt ∧ r.toInt ≤ 24 ∧ nx1.toInt + ws1.toInt ≤ tp0.toInt ∧ 1 ≤ ws1.toInt ∧ (r.toInt = 0 → ws1.toInt = 2) ∧ (r.toInt = 1 → ws1.toInt = 3) ∧ (r.toInt = 2 → ws1.toInt = 3) ∧ (3 ≤ r.toInt ∧ r.toInt ≤ 10 → 3 ≤ ws1.toInt) ∧ (r.toInt = 20 → ws1.toInt = 5))))) ∧ hx_T T_tb u.1 u.2 ∧ hx_S T_tb [(10, 8), (10, 11)] L h u.1 u.2) (hx_E T_tb (P_ty dA) (dC, dI) vwCl (hx_A L sz)) (hx_A L sz)) ([.ref x] : List Value).toArray s 0 0 (hx_A L sz)) (F0 m 139 ls []) := by
                              intro n139
                              induction n139 with
                              | zero => intro iv139_3 iv139_4 H locs hL1 hl1 bliv139_3 buiv139_3 bliv139_4 buiv139_4 vi139_0 ls hn139; exfalso; omega
                              | succ n139 ih139 =>
                                intro iv139_3 iv139_4 H locs hL1 hl1 bliv139_3 buiv139_3 bliv139_4 buiv139_4 vi139_0 ls hn139 hW hT hM fw_6 ffw10_x_11  hl
                                refine lv_iload_n hx hb dX10_wordHere_139 rfl (lv_at hl 1 rfl) ?_
                                refine hb_if_eq (zx := iv139_3.toInt) (tgt := 188) hx hb rfl dX10_wordHere_140 (by decide) (fun c_175 => ?_) (fun c_175 => ?_)
                                · skip
                                  refine lv_iload_n hx hb dX10_wordHere_188 rfl (lv_at hl 1 rfl) ?_
                                  refine hb_if_eq (zx := iv139_3.toInt) (tgt := 194) hx hb rfl dX10_wordHere_189 (by decide) (fun c_176 => ?_) (fun c_176 => by exfalso; omega)
                                  obtain ⟨x_177, ex_177⟩ : ∃ y : Int32, y = iv79_1 + Int32.ofInt 1 := ⟨_, rfl⟩
                                  have rg_178 := i32_r iv79_1
                                  have zx_177 : x_177.toInt = iv79_1.toInt + (1) := by rw [ex_177]; exact i32_add rfl (by decide) (by omega) (by omega)
                                  refine lv_iinc (v := x_177) (lv' := [(1, .int x_177), (4, .int iv139_4), (3, .int iv139_3), (2, .int iv96_2), (0, .ref x)]) hx hb dX10_wordHere_194 hl (k := 3) rfl ex_177.symm (by decide) rfl (fun ls hl => ?_)
                                  refine lv_goto (tgt := 79) hx hb dX10_wordHere_197 (by decide) ?_
                                  exact ih79 x_177 _ _ hL1 hl1 (by omega) (by omega)  ls (by omega) hW hT hM fw_6 ffw10_x_11  (lv_sub hl [0, 4] rfl)
                                · skip
                                  refine lv_iload hx hb dX10_wordHere_143 (lv_at hl 0 rfl) ?_
                                  refine lv_iload_n hx hb dX10_wordHere_145 rfl (lv_at hl 2 rfl) ?_
                                  refine hb_icmp_ge (zx := iv139_4.toInt) (zy := iv96_2.toInt) (tgt := 188) hx hb rfl rfl dX10_wordHere_146 (by decide) (fun c_179 => ?_) (fun c_179 => ?_)
                                  · skip
                                    refine lv_iload_n hx hb dX10_wordHere_188 rfl (lv_at hl 1 rfl) ?_
                                    refine hb_if_eq (zx := iv139_3.toInt) (tgt := 194) hx hb rfl dX10_wordHere_189 (by decide) (fun c_180 => by exfalso; omega) (fun c_180 => ?_)
                                    refine lv_iload_n hx hb dX10_wordHere_192 rfl (lv_at hl 3 rfl) ?_
                                    exact hx_reti hx hb hr hlk hW ⟨⟨w_6, fw10_x_11, fw_6, ffw10_x_11, (by refine ⟨by omega, by omega, by omega, Or.inr ?_⟩; omega)⟩, hT, hM⟩ dX10_wordHere_193
                                  · skip
                                    refine lv_aload_n hx hb dX10_wordHere_149 rfl (lv_at hl 4 rfl) ?_
                                    refine hk_getr hx hb hts hC_10 hown hW (gx.S hM) tt_10 19 (by decide) rfl kw_1162 ⟨rfl, rfl, rfl⟩ ((hM.o gx trivial rfl).2.trans f_x_19) dX10_wordHere_150 ?_
                                    refine lv_bipush (v := 7) hx hb dX10_wordHere_153 (by decide) ?_
                                    refine lv_iload_n hx hb dX10_wordHere_155 rfl (lv_at hl 3 rfl) ?_
                                    refine lv_imul hx hb dX10_wordHere_156 ?_
                                    refine lv_topi (fun x_181 ex_181 => ?_)
                                    have zx_181 : x_181.toInt = 7 * iv79_1.toInt := by rw [ex_181]; exact i32_mul (by decide) rfl rfl (by omega) (by omega)
                                    refine lv_iload hx hb dX10_wordHere_157 (lv_at hl 0 rfl) ?_
                                    refine lv_iadd hx hb dX10_wordHere_159 ?_
                                    have rg_182 := i32_r x_181
                                    have rg_183 := i32_r iv139_4
                                    refine lv_topi (fun x_184 ex_184 => ?_)
                                    have zx_184 : x_184.toInt = x_181.toInt + iv139_4.toInt := by rw [ex_184]; exact i32_add rfl rfl (by omega) (by omega)
                                    refine hx_bald hx hb hW hT (gqw.S hM) tt_57 rfl ⟨by omega, by omega⟩ dX10_wordHere_160 (fun x_185 ex_185 lx_185 ux_185 => ?_)
                                    have ax_185 : x_185 = wf x_184.toNatClampNeg := ex_185.trans (congrFun (hx_afS hM gqw rfl af_qw) _)
                                    refine lv_aload_n hx hb dX10_wordHere_161 rfl (lv_at hl 4 rfl) ?_
                                    refine hk_getr hx hb hts hC_10 hown hW (gx.S hM) tt_10 6 (by decide) rfl kw_1149 ⟨rfl, rfl, rfl⟩ ((hM.o gx trivial rfl).2.trans f_x_6) dX10_wordHere_162 ?_
                                    refine lv_aload_n hx hb dX10_wordHere_165 rfl (lv_at hl 4 rfl) ?_
                                    refine hk_geti hx hb hts hC_10 hown hW (gx.S hM) tt_10 8 (by decide) rfl kw_1151 ⟨rfl, rfl, rfl⟩ fw_6 dX10_wordHere_166 ?_
                                    refine lv_iload hx hb dX10_wordHere_169 (lv_at hl 0 rfl) ?_
                                    refine lv_iadd hx hb dX10_wordHere_171 ?_
                                    refine lv_topi (fun x_186 ex_186 => ?_)
                                    have zx_186 : x_186.toInt = w_6.toInt + iv139_4.toInt := by rw [ex_186]; exact i32_add rfl rfl (by omega) (by omega)
                                    refine hx_bald hx hb hW hT (gqt.S hM) tt_53 rfl ⟨by omega, by omega⟩ dX10_wordHere_172 (fun x_187 ex_187 lx_187 ux_187 => ?_)
                                    have ax_187 : x_187 = tf x_186.toNatClampNeg := ex_187.trans (congrFun (hx_afS hM gqt rfl af_qt) _)
                                    refine hb_icmp_ne (zx := x_185.toInt) (zy := x_187.toInt) (tgt := 180) hx hb rfl rfl dX10_wordHere_173 (by decide) (fun c_188 => ?_) (fun c_188 => ?_)
                                    · skip
                                      refine lv_iconst (v := 0) hx hb dX10_wordHere_180 (by decide) ?_
                                      refine lv_istore_n (lv' := [(3, .int (0 : Int32)), (4, .int iv139_4), (2, .int iv96_2), (1, .int iv79_1), (0, .ref x)]) hx hb dX10_wordHere_181 rfl hl (by decide) rfl (fun ls hl => ?_)
                                      obtain ⟨x_189, ex_189⟩ : ∃ y : Int32, y = iv139_4 + Int32.ofInt 1 := ⟨_, rfl⟩
                                      have zx_189 : x_189.toInt = iv139_4.toInt + (1) := by rw [ex_189]; exact i32_add rfl (by decide) (by omega) (by omega)
                                      refine lv_iinc (v := x_189) (lv' := [(4, .int x_189), (3, .int (0 : Int32)), (2, .int iv96_2), (1, .int iv79_1), (0, .ref x)]) hx hb dX10_wordHere_182 hl (k := 1) rfl ex_189.symm (by decide) rfl (fun ls hl => ?_)
                                      refine lv_goto (tgt := 139) hx hb dX10_wordHere_185 (by decide) ?_
                                      have zk_0 : (0 : Int32).toInt = 0 := by decide
                                      exact ih139 (0 : Int32) x_189 _ _ hL1 hl1 (by decide) (by decide) (by omega) (by omega) (by omega) ls (by omega) hW hT hM fw_6 ffw10_x_11  (lv_sub hl [0, 1, 2, 3, 4] rfl)
                                    · skip
                                      refine lv_iconst (v := 1) hx hb dX10_wordHere_176 (by decide) ?_
                                      refine lv_goto (tgt := 181) hx hb dX10_wordHere_177 (by decide) ?_
                                      refine lv_istore_n (lv' := [(3, .int (1 : Int32)), (4, .int iv139_4), (2, .int iv96_2), (1, .int iv79_1), (0, .ref x)]) hx hb dX10_wordHere_181 rfl hl (by decide) rfl (fun ls hl => ?_)
                                      obtain ⟨x_190, ex_190⟩ : ∃ y : Int32, y = iv139_4 + Int32.ofInt 1 := ⟨_, rfl⟩
                                      have zx_190 : x_190.toInt = iv139_4.toInt + (1) := by rw [ex_190]; exact i32_add rfl (by decide) (by omega) (by omega)
                                      refine lv_iinc (v := x_190) (lv' := [(4, .int x_190), (3, .int (1 : Int32)), (2, .int iv96_2), (1, .int iv79_1), (0, .ref x)]) hx hb dX10_wordHere_182 hl (k := 1) rfl ex_190.symm (by decide) rfl (fun ls hl => ?_)
                                      refine lv_goto (tgt := 139) hx hb dX10_wordHere_185 (by decide) ?_
                                      have zk_1 : (1 : Int32).toInt = 1 := by decide
                                      exact ih139 (1 : Int32) x_190 _ _ hL1 hl1 (by decide) (by decide) (by omega) (by omega) (by omega) ls (by omega) hW hT hM fw_6 ffw10_x_11  (lv_sub hl [0, 1, 2, 3, 4] rfl)
                            have zk_0 : (0 : Int32).toInt = 0 := by decide
                            have zk_0 : (0 : Int32).toInt = 0 := by decide
                            exact loop139 8 (0 : Int32) (0 : Int32) _ _ hL1 hl1 (by decide) (by decide) (by decide) (by decide) (by omega) ls (by omega) hW hT hM fw_6 ffw10_x_11  hl
                          · skip
                            refine lv_iconst (v := 1) hx hb dX10_wordHere_130 (by decide) ?_
                            refine lv_goto (tgt := 135) hx hb dX10_wordHere_131 (by decide) ?_
                            refine lv_istore_n (lv' := [(3, .int (1 : Int32)), (2, .int iv96_2), (1, .int iv79_1), (0, .ref x)]) hx hb dX10_wordHere_135 rfl hl (by decide) rfl (fun ls hl => ?_)
                            refine lv_iconst (v := 0) hx hb dX10_wordHere_136 (by decide) ?_
                            refine lv_istore (lv' := [(4, .int (0 : Int32)), (3, .int (1 : Int32)), (2, .int iv96_2), (1, .int iv79_1), (0, .ref x)]) hx hb dX10_wordHere_137 hl (by decide) rfl (fun ls hl => ?_)
                            have loop139 : ∀ (n139 : Nat) (iv139_3 iv139_4 : Int32) (H : Heap) (locs : List Loc) (hL1 : List Nat) (hl1 : hx_h), 0 ≤ iv139_3.toInt → iv139_3.toInt ≤ 1 → 0 ≤ iv139_4.toInt → iv139_4.toInt ≤ 7 → (iv139_3.toInt = 0 ∨ iv96_2.toInt = fw10_x_11.toInt) → ∀ (ls : Array Slot), 7 - iv139_4.toInt < (n139 : Int) → hx_W T_tb (P_ty dA) (dC, dI) vwCl (hx_A L sz) s.heap hL1 hl1 s H locs → hx_T T_tb hL1 hl1 → hx_S T_tb [(10, 8), (10, 11)] L h hL1 hl1 → hl1.2.1 x 8 = w_6 → hl1.2.1 x 11 = fw10_x_11 → lv_has ls 5 [(4, .int iv139_4), (3, .int iv139_3), (2, .int iv96_2), (1, .int iv79_1), (0, .ref x)] → W p l e ({ frames := 1, cells := 0, slots := 0, locals := 20 }) s m ([.ref x] : List Value).toArray below meth c H locs 0 0 (MQ below (va_Qi (fun (r : Int32) (u : List Nat × hx_h) => (∃ (nx1 : Int32) (ws1 : Int32), u.2.2.1 x 8 = nx1 ∧ u.2.2.1 x 11 = ws1 ∧ (nx0.toInt ≤ nx1.toInt ∧ (nx1.toInt = nx0.toInt ∨ nx1.toInt ≤ tp0.toInt) ∧ 0 ≤ ws1.toInt ∧ (r.toInt = -1 ∨ (0 ≤ r.toInt ∧ r.toInt ≤ 24 ∧ nx1.toInt + ws1.toInt ≤ tp0.toInt ∧ 1 ≤ ws1.toInt ∧ (r.toInt = 0 → ws1.toInt = 2) ∧ (r.toInt = 1 → ws1.toInt = 3) ∧ (r.toInt = 2 → ws1.toInt = 3) ∧ (3 ≤ r.toInt ∧ r.toInt ≤ 10 → 3 ≤ ws1.toInt) ∧ (r.toInt = 20 → ws1.toInt = 5))))) ∧ hx_T T_tb u.1 u.2 ∧ hx_S T_tb [(10, 8), (10, 11)] L h u.1 u.2) (hx_E T_tb (P_ty dA) (dC, dI) vwCl (hx_A L sz)) (hx_A L sz)) ([.ref x] : List Value).toArray s 0 0 (hx_A L sz)) (F0 m 139 ls []) := by
                              intro n139
                              induction n139 with
                              | zero => intro iv139_3 iv139_4 H locs hL1 hl1 bliv139_3 buiv139_3 bliv139_4 buiv139_4 vi139_0 ls hn139; exfalso; omega
                              | succ n139 ih139 =>
                                intro iv139_3 iv139_4 H locs hL1 hl1 bliv139_3 buiv139_3 bliv139_4 buiv139_4 vi139_0 ls hn139 hW hT hM fw_6 ffw10_x_11  hl
                                refine lv_iload_n hx hb dX10_wordHere_139 rfl (lv_at hl 1 rfl) ?_
                                refine hb_if_eq (zx := iv139_3.toInt) (tgt := 188) hx hb rfl dX10_wordHere_140 (by decide) (fun c_191 => ?_) (fun c_191 => ?_)
                                · skip
                                  refine lv_iload_n hx hb dX10_wordHere_188 rfl (lv_at hl 1 rfl) ?_
                                  refine hb_if_eq (zx := iv139_3.toInt) (tgt := 194) hx hb rfl dX10_wordHere_189 (by decide) (fun c_192 => ?_) (fun c_192 => by exfalso; omega)
                                  obtain ⟨x_193, ex_193⟩ : ∃ y : Int32, y = iv79_1 + Int32.ofInt 1 := ⟨_, rfl⟩
                                  have rg_194 := i32_r iv79_1
                                  have zx_193 : x_193.toInt = iv79_1.toInt + (1) := by rw [ex_193]; exact i32_add rfl (by decide) (by omega) (by omega)
                                  refine lv_iinc (v := x_193) (lv' := [(1, .int x_193), (4, .int iv139_4), (3, .int iv139_3), (2, .int iv96_2), (0, .ref x)]) hx hb dX10_wordHere_194 hl (k := 3) rfl ex_193.symm (by decide) rfl (fun ls hl => ?_)
                                  refine lv_goto (tgt := 79) hx hb dX10_wordHere_197 (by decide) ?_
                                  exact ih79 x_193 _ _ hL1 hl1 (by omega) (by omega)  ls (by omega) hW hT hM fw_6 ffw10_x_11  (lv_sub hl [0, 4] rfl)
                                · skip
                                  refine lv_iload hx hb dX10_wordHere_143 (lv_at hl 0 rfl) ?_
                                  refine lv_iload_n hx hb dX10_wordHere_145 rfl (lv_at hl 2 rfl) ?_
                                  refine hb_icmp_ge (zx := iv139_4.toInt) (zy := iv96_2.toInt) (tgt := 188) hx hb rfl rfl dX10_wordHere_146 (by decide) (fun c_195 => ?_) (fun c_195 => ?_)
                                  · skip
                                    refine lv_iload_n hx hb dX10_wordHere_188 rfl (lv_at hl 1 rfl) ?_
                                    refine hb_if_eq (zx := iv139_3.toInt) (tgt := 194) hx hb rfl dX10_wordHere_189 (by decide) (fun c_196 => by exfalso; omega) (fun c_196 => ?_)
                                    refine lv_iload_n hx hb dX10_wordHere_192 rfl (lv_at hl 3 rfl) ?_
                                    exact hx_reti hx hb hr hlk hW ⟨⟨w_6, fw10_x_11, fw_6, ffw10_x_11, (by refine ⟨by omega, by omega, by omega, Or.inr ?_⟩; omega)⟩, hT, hM⟩ dX10_wordHere_193
                                  · skip
                                    refine lv_aload_n hx hb dX10_wordHere_149 rfl (lv_at hl 4 rfl) ?_
                                    refine hk_getr hx hb hts hC_10 hown hW (gx.S hM) tt_10 19 (by decide) rfl kw_1162 ⟨rfl, rfl, rfl⟩ ((hM.o gx trivial rfl).2.trans f_x_19) dX10_wordHere_150 ?_
                                    refine lv_bipush (v := 7) hx hb dX10_wordHere_153 (by decide) ?_
                                    refine lv_iload_n hx hb dX10_wordHere_155 rfl (lv_at hl 3 rfl) ?_
                                    refine lv_imul hx hb dX10_wordHere_156 ?_
                                    refine lv_topi (fun x_197 ex_197 => ?_)
                                    have zx_197 : x_197.toInt = 7 * iv79_1.toInt := by rw [ex_197]; exact i32_mul (by decide) rfl rfl (by omega) (by omega)
                                    refine lv_iload hx hb dX10_wordHere_157 (lv_at hl 0 rfl) ?_
                                    refine lv_iadd hx hb dX10_wordHere_159 ?_
                                    have rg_198 := i32_r x_197
                                    have rg_199 := i32_r iv139_4
                                    refine lv_topi (fun x_200 ex_200 => ?_)
                                    have zx_200 : x_200.toInt = x_197.toInt + iv139_4.toInt := by rw [ex_200]; exact i32_add rfl rfl (by omega) (by omega)
                                    refine hx_bald hx hb hW hT (gqw.S hM) tt_57 rfl ⟨by omega, by omega⟩ dX10_wordHere_160 (fun x_201 ex_201 lx_201 ux_201 => ?_)
                                    have ax_201 : x_201 = wf x_200.toNatClampNeg := ex_201.trans (congrFun (hx_afS hM gqw rfl af_qw) _)
                                    refine lv_aload_n hx hb dX10_wordHere_161 rfl (lv_at hl 4 rfl) ?_
                                    refine hk_getr hx hb hts hC_10 hown hW (gx.S hM) tt_10 6 (by decide) rfl kw_1149 ⟨rfl, rfl, rfl⟩ ((hM.o gx trivial rfl).2.trans f_x_6) dX10_wordHere_162 ?_
                                    refine lv_aload_n hx hb dX10_wordHere_165 rfl (lv_at hl 4 rfl) ?_
                                    refine hk_geti hx hb hts hC_10 hown hW (gx.S hM) tt_10 8 (by decide) rfl kw_1151 ⟨rfl, rfl, rfl⟩ fw_6 dX10_wordHere_166 ?_
                                    refine lv_iload hx hb dX10_wordHere_169 (lv_at hl 0 rfl) ?_
                                    refine lv_iadd hx hb dX10_wordHere_171 ?_
                                    refine lv_topi (fun x_202 ex_202 => ?_)
                                    have zx_202 : x_202.toInt = w_6.toInt + iv139_4.toInt := by rw [ex_202]; exact i32_add rfl rfl (by omega) (by omega)
                                    refine hx_bald hx hb hW hT (gqt.S hM) tt_53 rfl ⟨by omega, by omega⟩ dX10_wordHere_172 (fun x_203 ex_203 lx_203 ux_203 => ?_)
                                    have ax_203 : x_203 = tf x_202.toNatClampNeg := ex_203.trans (congrFun (hx_afS hM gqt rfl af_qt) _)
                                    refine hb_icmp_ne (zx := x_201.toInt) (zy := x_203.toInt) (tgt := 180) hx hb rfl rfl dX10_wordHere_173 (by decide) (fun c_204 => ?_) (fun c_204 => ?_)
                                    · skip
                                      refine lv_iconst (v := 0) hx hb dX10_wordHere_180 (by decide) ?_
                                      refine lv_istore_n (lv' := [(3, .int (0 : Int32)), (4, .int iv139_4), (2, .int iv96_2), (1, .int iv79_1), (0, .ref x)]) hx hb dX10_wordHere_181 rfl hl (by decide) rfl (fun ls hl => ?_)
                                      obtain ⟨x_205, ex_205⟩ : ∃ y : Int32, y = iv139_4 + Int32.ofInt 1 := ⟨_, rfl⟩
                                      have zx_205 : x_205.toInt = iv139_4.toInt + (1) := by rw [ex_205]; exact i32_add rfl (by decide) (by omega) (by omega)
                                      refine lv_iinc (v := x_205) (lv' := [(4, .int x_205), (3, .int (0 : Int32)), (2, .int iv96_2), (1, .int iv79_1), (0, .ref x)]) hx hb dX10_wordHere_182 hl (k := 1) rfl ex_205.symm (by decide) rfl (fun ls hl => ?_)
                                      refine lv_goto (tgt := 139) hx hb dX10_wordHere_185 (by decide) ?_
                                      have zk_0 : (0 : Int32).toInt = 0 := by decide
                                      exact ih139 (0 : Int32) x_205 _ _ hL1 hl1 (by decide) (by decide) (by omega) (by omega) (by omega) ls (by omega) hW hT hM fw_6 ffw10_x_11  (lv_sub hl [0, 1, 2, 3, 4] rfl)
                                    · skip
                                      refine lv_iconst (v := 1) hx hb dX10_wordHere_176 (by decide) ?_
                                      refine lv_goto (tgt := 181) hx hb dX10_wordHere_177 (by decide) ?_
                                      refine lv_istore_n (lv' := [(3, .int (1 : Int32)), (4, .int iv139_4), (2, .int iv96_2), (1, .int iv79_1), (0, .ref x)]) hx hb dX10_wordHere_181 rfl hl (by decide) rfl (fun ls hl => ?_)
                                      obtain ⟨x_206, ex_206⟩ : ∃ y : Int32, y = iv139_4 + Int32.ofInt 1 := ⟨_, rfl⟩
                                      have zx_206 : x_206.toInt = iv139_4.toInt + (1) := by rw [ex_206]; exact i32_add rfl (by decide) (by omega) (by omega)
                                      refine lv_iinc (v := x_206) (lv' := [(4, .int x_206), (3, .int (1 : Int32)), (2, .int iv96_2), (1, .int iv79_1), (0, .ref x)]) hx hb dX10_wordHere_182 hl (k := 1) rfl ex_206.symm (by decide) rfl (fun ls hl => ?_)
                                      refine lv_goto (tgt := 139) hx hb dX10_wordHere_185 (by decide) ?_
                                      have zk_1 : (1 : Int32).toInt = 1 := by decide
                                      exact ih139 (1 : Int32) x_206 _ _ hL1 hl1 (by decide) (by decide) (by omega) (by omega) (by omega) ls (by omega) hW hT hM fw_6 ffw10_x_11  (lv_sub hl [0, 1, 2, 3, 4] rfl)
                            have zk_1 : (1 : Int32).toInt = 1 := by decide
                            have zk_0 : (0 : Int32).toInt = 0 := by decide
                            exact loop139 8 (1 : Int32) (0 : Int32) _ _ hL1 hl1 (by decide) (by decide) (by decide) (by decide) (by omega) ls (by omega) hW hT hM fw_6 ffw10_x_11  hl
                        · skip
                          refine lv_aload_n hx hb dX10_wordHere_102 rfl (lv_at hl 2 rfl) ?_
                          refine hk_getr hx hb hts hC_10 hown hW (gx.S hM) tt_10 19 (by decide) rfl kw_1162 ⟨rfl, rfl, rfl⟩ ((hM.o gx trivial rfl).2.trans f_x_19) dX10_wordHere_103 ?_
                          refine lv_bipush (v := 7) hx hb dX10_wordHere_106 (by decide) ?_
                          refine lv_iload_n hx hb dX10_wordHere_108 rfl (lv_at hl 1 rfl) ?_
                          refine lv_imul hx hb dX10_wordHere_109 ?_
                          refine lv_topi (fun x_207 ex_207 => ?_)
                          have zx_207 : x_207.toInt = 7 * iv79_1.toInt := by rw [ex_207]; exact i32_mul (by decide) rfl rfl (by omega) (by omega)
                          refine lv_iload_n hx hb dX10_wordHere_110 rfl (lv_at hl 0 rfl) ?_
                          refine lv_iadd hx hb dX10_wordHere_111 ?_
                          have rg_208 := i32_r x_207
                          have rg_209 := i32_r iv96_2
                          refine lv_topi (fun x_210 ex_210 => ?_)
                          have zx_210 : x_210.toInt = x_207.toInt + iv96_2.toInt := by rw [ex_210]; exact i32_add rfl rfl (by omega) (by omega)
                          refine hx_bald hx hb hW hT (gqw.S hM) tt_57 rfl ⟨by omega, by omega⟩ dX10_wordHere_112 (fun x_211 ex_211 lx_211 ux_211 => ?_)
                          have ax_211 : x_211 = wf x_210.toNatClampNeg := ex_211.trans (congrFun (hx_afS hM gqw rfl af_qw) _)
                          refine hb_if_eq (zx := x_211.toInt) (tgt := 122) hx hb rfl dX10_wordHere_113 (by decide) (fun c_212 => ?_) (fun c_212 => ?_)
                          · skip
                            have hend : iv96_2.toInt = 7 ∨ (wf (7 * iv79_1.toInt.toNat + iv96_2.toInt.toNat)).toInt = 0 := by first | exact Or.inl (by omega) | exact Or.inr (hx_wz (by omega) ax_211 (by omega) (by omega) (by omega))
                            have hwl := hx_wl hwd (by omega) (by omega) (by omega) (by omega) vi96_0 hend
                            refine lv_iload_n hx hb dX10_wordHere_122 rfl (lv_at hl 0 rfl) ?_
                            refine lv_aload_n hx hb dX10_wordHere_123 rfl (lv_at hl 2 rfl) ?_
                            refine hk_geti hx hb hts hC_10 hown hW (gx.S hM) tt_10 11 (by decide) rfl kw_1154 ⟨rfl, rfl, rfl⟩ ffw10_x_11 dX10_wordHere_124 ?_
                            refine hb_icmp_ne (zx := iv96_2.toInt) (zy := fw10_x_11.toInt) (tgt := 134) hx hb rfl rfl dX10_wordHere_127 (by decide) (fun c_213 => ?_) (fun c_213 => ?_)
                            · skip
                              refine lv_iconst (v := 0) hx hb dX10_wordHere_134 (by decide) ?_
                              refine lv_istore_n (lv' := [(3, .int (0 : Int32)), (2, .int iv96_2), (1, .int iv79_1), (0, .ref x)]) hx hb dX10_wordHere_135 rfl hl (by decide) rfl (fun ls hl => ?_)
                              refine lv_iconst (v := 0) hx hb dX10_wordHere_136 (by decide) ?_
                              refine lv_istore (lv' := [(4, .int (0 : Int32)), (3, .int (0 : Int32)), (2, .int iv96_2), (1, .int iv79_1), (0, .ref x)]) hx hb dX10_wordHere_137 hl (by decide) rfl (fun ls hl => ?_)
                              have loop139 : ∀ (n139 : Nat) (iv139_3 iv139_4 : Int32) (H : Heap) (locs : List Loc) (hL1 : List Nat) (hl1 : hx_h), 0 ≤ iv139_3.toInt → iv139_3.toInt ≤ 1 → 0 ≤ iv139_4.toInt → iv139_4.toInt ≤ 7 → (iv139_3.toInt = 0 ∨ iv96_2.toInt = fw10_x_11.toInt) → ∀ (ls : Array Slot), 7 - iv139_4.toInt < (n139 : Int) → hx_W T_tb (P_ty dA) (dC, dI) vwCl (hx_A L sz) s.heap hL1 hl1 s H locs → hx_T T_tb hL1 hl1 → hx_S T_tb [(10, 8), (10, 11)] L h hL1 hl1 → hl1.2.1 x 8 = w_6 → hl1.2.1 x 11 = fw10_x_11 → lv_has ls 5 [(4, .int iv139_4), (3, .int iv139_3), (2, .int iv96_2), (1, .int iv79_1), (0, .ref x)] → W p l e ({ frames := 1, cells := 0, slots := 0, locals := 20 }) s m ([.ref x] : List Value).toArray below meth c H locs 0 0 (MQ below (va_Qi (fun (r : Int32) (u : List Nat × hx_h) => (∃ (nx1 : Int32) (ws1 : Int32), u.2.2.1 x 8 = nx1 ∧ u.2.2.1 x 11 = ws1 ∧ (nx0.toInt ≤ nx1.toInt ∧ (nx1.toInt = nx0.toInt ∨ nx1.toInt ≤ tp0.toInt) ∧ 0 ≤ ws1.toInt ∧ (r.toInt = -1 ∨ (0 ≤ r.toInt ∧ r.toInt ≤ 24 ∧ nx1.toInt + ws1.toInt ≤ tp0.toInt ∧ 1 ≤ ws1.toInt ∧ (r.toInt = 0 → ws1.toInt = 2) ∧ (r.toInt = 1 → ws1.toInt = 3) ∧ (r.toInt = 2 → ws1.toInt = 3) ∧ (3 ≤ r.toInt ∧ r.toInt ≤ 10 → 3 ≤ ws1.toInt) ∧ (r.toInt = 20 → ws1.toInt = 5))))) ∧ hx_T T_tb u.1 u.2 ∧ hx_S T_tb [(10, 8), (10, 11)] L h u.1 u.2) (hx_E T_tb (P_ty dA) (dC, dI) vwCl (hx_A L sz)) (hx_A L sz)) ([.ref x] : List Value).toArray s 0 0 (hx_A L sz)) (F0 m 139 ls []) := by
                                intro n139
                                induction n139 with
                                | zero => intro iv139_3 iv139_4 H locs hL1 hl1 bliv139_3 buiv139_3 bliv139_4 buiv139_4 vi139_0 ls hn139; exfalso; omega
                                | succ n139 ih139 =>
                                  intro iv139_3 iv139_4 H locs hL1 hl1 bliv139_3 buiv139_3 bliv139_4 buiv139_4 vi139_0 ls hn139 hW hT hM fw_6 ffw10_x_11  hl
                                  refine lv_iload_n hx hb dX10_wordHere_139 rfl (lv_at hl 1 rfl) ?_
                                  refine hb_if_eq (zx := iv139_3.toInt) (tgt := 188) hx hb rfl dX10_wordHere_140 (by decide) (fun c_214 => ?_) (fun c_214 => ?_)
                                  · skip
                                    refine lv_iload_n hx hb dX10_wordHere_188 rfl (lv_at hl 1 rfl) ?_
                                    refine hb_if_eq (zx := iv139_3.toInt) (tgt := 194) hx hb rfl dX10_wordHere_189 (by decide) (fun c_215 => ?_) (fun c_215 => by exfalso; omega)
                                    obtain ⟨x_216, ex_216⟩ : ∃ y : Int32, y = iv79_1 + Int32.ofInt 1 := ⟨_, rfl⟩
                                    have rg_217 := i32_r iv79_1
                                    have zx_216 : x_216.toInt = iv79_1.toInt + (1) := by rw [ex_216]; exact i32_add rfl (by decide) (by omega) (by omega)
                                    refine lv_iinc (v := x_216) (lv' := [(1, .int x_216), (4, .int iv139_4), (3, .int iv139_3), (2, .int iv96_2), (0, .ref x)]) hx hb dX10_wordHere_194 hl (k := 3) rfl ex_216.symm (by decide) rfl (fun ls hl => ?_)
                                    refine lv_goto (tgt := 79) hx hb dX10_wordHere_197 (by decide) ?_
                                    exact ih79 x_216 _ _ hL1 hl1 (by omega) (by omega)  ls (by omega) hW hT hM fw_6 ffw10_x_11  (lv_sub hl [0, 4] rfl)
                                  · skip
                                    refine lv_iload hx hb dX10_wordHere_143 (lv_at hl 0 rfl) ?_
                                    refine lv_iload_n hx hb dX10_wordHere_145 rfl (lv_at hl 2 rfl) ?_
                                    refine hb_icmp_ge (zx := iv139_4.toInt) (zy := iv96_2.toInt) (tgt := 188) hx hb rfl rfl dX10_wordHere_146 (by decide) (fun c_218 => ?_) (fun c_218 => ?_)
                                    · skip
                                      refine lv_iload_n hx hb dX10_wordHere_188 rfl (lv_at hl 1 rfl) ?_
                                      refine hb_if_eq (zx := iv139_3.toInt) (tgt := 194) hx hb rfl dX10_wordHere_189 (by decide) (fun c_219 => by exfalso; omega) (fun c_219 => ?_)
                                      refine lv_iload_n hx hb dX10_wordHere_192 rfl (lv_at hl 3 rfl) ?_
                                      exact hx_reti hx hb hr hlk hW ⟨⟨w_6, fw10_x_11, fw_6, ffw10_x_11, (by refine ⟨by omega, by omega, by omega, Or.inr ?_⟩; omega)⟩, hT, hM⟩ dX10_wordHere_193
                                    · skip
                                      refine lv_aload_n hx hb dX10_wordHere_149 rfl (lv_at hl 4 rfl) ?_
                                      refine hk_getr hx hb hts hC_10 hown hW (gx.S hM) tt_10 19 (by decide) rfl kw_1162 ⟨rfl, rfl, rfl⟩ ((hM.o gx trivial rfl).2.trans f_x_19) dX10_wordHere_150 ?_
                                      refine lv_bipush (v := 7) hx hb dX10_wordHere_153 (by decide) ?_
                                      refine lv_iload_n hx hb dX10_wordHere_155 rfl (lv_at hl 3 rfl) ?_
                                      refine lv_imul hx hb dX10_wordHere_156 ?_
                                      refine lv_topi (fun x_220 ex_220 => ?_)
                                      have zx_220 : x_220.toInt = 7 * iv79_1.toInt := by rw [ex_220]; exact i32_mul (by decide) rfl rfl (by omega) (by omega)
                                      refine lv_iload hx hb dX10_wordHere_157 (lv_at hl 0 rfl) ?_
                                      refine lv_iadd hx hb dX10_wordHere_159 ?_
                                      have rg_221 := i32_r x_220
                                      have rg_222 := i32_r iv139_4
                                      refine lv_topi (fun x_223 ex_223 => ?_)
                                      have zx_223 : x_223.toInt = x_220.toInt + iv139_4.toInt := by rw [ex_223]; exact i32_add rfl rfl (by omega) (by omega)
                                      refine hx_bald hx hb hW hT (gqw.S hM) tt_57 rfl ⟨by omega, by omega⟩ dX10_wordHere_160 (fun x_224 ex_224 lx_224 ux_224 => ?_)
                                      have ax_224 : x_224 = wf x_223.toNatClampNeg := ex_224.trans (congrFun (hx_afS hM gqw rfl af_qw) _)
                                      refine lv_aload_n hx hb dX10_wordHere_161 rfl (lv_at hl 4 rfl) ?_
                                      refine hk_getr hx hb hts hC_10 hown hW (gx.S hM) tt_10 6 (by decide) rfl kw_1149 ⟨rfl, rfl, rfl⟩ ((hM.o gx trivial rfl).2.trans f_x_6) dX10_wordHere_162 ?_
                                      refine lv_aload_n hx hb dX10_wordHere_165 rfl (lv_at hl 4 rfl) ?_
                                      refine hk_geti hx hb hts hC_10 hown hW (gx.S hM) tt_10 8 (by decide) rfl kw_1151 ⟨rfl, rfl, rfl⟩ fw_6 dX10_wordHere_166 ?_
                                      refine lv_iload hx hb dX10_wordHere_169 (lv_at hl 0 rfl) ?_
                                      refine lv_iadd hx hb dX10_wordHere_171 ?_
                                      refine lv_topi (fun x_225 ex_225 => ?_)
                                      have zx_225 : x_225.toInt = w_6.toInt + iv139_4.toInt := by rw [ex_225]; exact i32_add rfl rfl (by omega) (by omega)
                                      refine hx_bald hx hb hW hT (gqt.S hM) tt_53 rfl ⟨by omega, by omega⟩ dX10_wordHere_172 (fun x_226 ex_226 lx_226 ux_226 => ?_)
                                      have ax_226 : x_226 = tf x_225.toNatClampNeg := ex_226.trans (congrFun (hx_afS hM gqt rfl af_qt) _)
                                      refine hb_icmp_ne (zx := x_224.toInt) (zy := x_226.toInt) (tgt := 180) hx hb rfl rfl dX10_wordHere_173 (by decide) (fun c_227 => ?_) (fun c_227 => ?_)
                                      · skip
                                        refine lv_iconst (v := 0) hx hb dX10_wordHere_180 (by decide) ?_
                                        refine lv_istore_n (lv' := [(3, .int (0 : Int32)), (4, .int iv139_4), (2, .int iv96_2), (1, .int iv79_1), (0, .ref x)]) hx hb dX10_wordHere_181 rfl hl (by decide) rfl (fun ls hl => ?_)
                                        obtain ⟨x_228, ex_228⟩ : ∃ y : Int32, y = iv139_4 + Int32.ofInt 1 := ⟨_, rfl⟩
                                        have zx_228 : x_228.toInt = iv139_4.toInt + (1) := by rw [ex_228]; exact i32_add rfl (by decide) (by omega) (by omega)
                                        refine lv_iinc (v := x_228) (lv' := [(4, .int x_228), (3, .int (0 : Int32)), (2, .int iv96_2), (1, .int iv79_1), (0, .ref x)]) hx hb dX10_wordHere_182 hl (k := 1) rfl ex_228.symm (by decide) rfl (fun ls hl => ?_)
                                        refine lv_goto (tgt := 139) hx hb dX10_wordHere_185 (by decide) ?_
                                        have zk_0 : (0 : Int32).toInt = 0 := by decide
                                        exact ih139 (0 : Int32) x_228 _ _ hL1 hl1 (by decide) (by decide) (by omega) (by omega) (by omega) ls (by omega) hW hT hM fw_6 ffw10_x_11  (lv_sub hl [0, 1, 2, 3, 4] rfl)
                                      · skip
                                        refine lv_iconst (v := 1) hx hb dX10_wordHere_176 (by decide) ?_
                                        refine lv_goto (tgt := 181) hx hb dX10_wordHere_177 (by decide) ?_
                                        refine lv_istore_n (lv' := [(3, .int (1 : Int32)), (4, .int iv139_4), (2, .int iv96_2), (1, .int iv79_1), (0, .ref x)]) hx hb dX10_wordHere_181 rfl hl (by decide) rfl (fun ls hl => ?_)
                                        obtain ⟨x_229, ex_229⟩ : ∃ y : Int32, y = iv139_4 + Int32.ofInt 1 := ⟨_, rfl⟩
                                        have zx_229 : x_229.toInt = iv139_4.toInt + (1) := by rw [ex_229]; exact i32_add rfl (by decide) (by omega) (by omega)
                                        refine lv_iinc (v := x_229) (lv' := [(4, .int x_229), (3, .int (1 : Int32)), (2, .int iv96_2), (1, .int iv79_1), (0, .ref x)]) hx hb dX10_wordHere_182 hl (k := 1) rfl ex_229.symm (by decide) rfl (fun ls hl => ?_)
                                        refine lv_goto (tgt := 139) hx hb dX10_wordHere_185 (by decide) ?_
                                        have zk_1 : (1 : Int32).toInt = 1 := by decide
                                        exact ih139 (1 : Int32) x_229 _ _ hL1 hl1 (by decide) (by decide) (by omega) (by omega) (by omega) ls (by omega) hW hT hM fw_6 ffw10_x_11  (lv_sub hl [0, 1, 2, 3, 4] rfl)
                              have zk_0 : (0 : Int32).toInt = 0 := by decide
                              have zk_0 : (0 : Int32).toInt = 0 := by decide
                              exact loop139 8 (0 : Int32) (0 : Int32) _ _ hL1 hl1 (by decide) (by decide) (by decide) (by decide) (by omega) ls (by omega) hW hT hM fw_6 ffw10_x_11  hl
                            · skip
                              refine lv_iconst (v := 1) hx hb dX10_wordHere_130 (by decide) ?_
                              refine lv_goto (tgt := 135) hx hb dX10_wordHere_131 (by decide) ?_
                              refine lv_istore_n (lv' := [(3, .int (1 : Int32)), (2, .int iv96_2), (1, .int iv79_1), (0, .ref x)]) hx hb dX10_wordHere_135 rfl hl (by decide) rfl (fun ls hl => ?_)
                              refine lv_iconst (v := 0) hx hb dX10_wordHere_136 (by decide) ?_
                              refine lv_istore (lv' := [(4, .int (0 : Int32)), (3, .int (1 : Int32)), (2, .int iv96_2), (1, .int iv79_1), (0, .ref x)]) hx hb dX10_wordHere_137 hl (by decide) rfl (fun ls hl => ?_)
                              have loop139 : ∀ (n139 : Nat) (iv139_3 iv139_4 : Int32) (H : Heap) (locs : List Loc) (hL1 : List Nat) (hl1 : hx_h), 0 ≤ iv139_3.toInt → iv139_3.toInt ≤ 1 → 0 ≤ iv139_4.toInt → iv139_4.toInt ≤ 7 → (iv139_3.toInt = 0 ∨ iv96_2.toInt = fw10_x_11.toInt) → ∀ (ls : Array Slot), 7 - iv139_4.toInt < (n139 : Int) → hx_W T_tb (P_ty dA) (dC, dI) vwCl (hx_A L sz) s.heap hL1 hl1 s H locs → hx_T T_tb hL1 hl1 → hx_S T_tb [(10, 8), (10, 11)] L h hL1 hl1 → hl1.2.1 x 8 = w_6 → hl1.2.1 x 11 = fw10_x_11 → lv_has ls 5 [(4, .int iv139_4), (3, .int iv139_3), (2, .int iv96_2), (1, .int iv79_1), (0, .ref x)] → W p l e ({ frames := 1, cells := 0, slots := 0, locals := 20 }) s m ([.ref x] : List Value).toArray below meth c H locs 0 0 (MQ below (va_Qi (fun (r : Int32) (u : List Nat × hx_h) => (∃ (nx1 : Int32) (ws1 : Int32), u.2.2.1 x 8 = nx1 ∧ u.2.2.1 x 11 = ws1 ∧ (nx0.toInt ≤ nx1.toInt ∧ (nx1.toInt = nx0.toInt ∨ nx1.toInt ≤ tp0.toInt) ∧ 0 ≤ ws1.toInt ∧ (r.toInt = -1 ∨ (0 ≤ r.toInt ∧ r.toInt ≤ 24 ∧ nx1.toInt + ws1.toInt ≤ tp0.toInt ∧ 1 ≤ ws1.toInt ∧ (r.toInt = 0 → ws1.toInt = 2) ∧ (r.toInt = 1 → ws1.toInt = 3) ∧ (r.toInt = 2 → ws1.toInt = 3) ∧ (3 ≤ r.toInt ∧ r.toInt ≤ 10 → 3 ≤ ws1.toInt) ∧ (r.toInt = 20 → ws1.toInt = 5))))) ∧ hx_T T_tb u.1 u.2 ∧ hx_S T_tb [(10, 8), (10, 11)] L h u.1 u.2) (hx_E T_tb (P_ty dA) (dC, dI) vwCl (hx_A L sz)) (hx_A L sz)) ([.ref x] : List Value).toArray s 0 0 (hx_A L sz)) (F0 m 139 ls []) := by
                                intro n139
                                induction n139 with
                                | zero => intro iv139_3 iv139_4 H locs hL1 hl1 bliv139_3 buiv139_3 bliv139_4 buiv139_4 vi139_0 ls hn139; exfalso; omega
                                | succ n139 ih139 =>
                                  intro iv139_3 iv139_4 H locs hL1 hl1 bliv139_3 buiv139_3 bliv139_4 buiv139_4 vi139_0 ls hn139 hW hT hM fw_6 ffw10_x_11  hl
                                  refine lv_iload_n hx hb dX10_wordHere_139 rfl (lv_at hl 1 rfl) ?_
                                  refine hb_if_eq (zx := iv139_3.toInt) (tgt := 188) hx hb rfl dX10_wordHere_140 (by decide) (fun c_230 => ?_) (fun c_230 => ?_)
                                  · skip
                                    refine lv_iload_n hx hb dX10_wordHere_188 rfl (lv_at hl 1 rfl) ?_
                                    refine hb_if_eq (zx := iv139_3.toInt) (tgt := 194) hx hb rfl dX10_wordHere_189 (by decide) (fun c_231 => ?_) (fun c_231 => by exfalso; omega)
                                    obtain ⟨x_232, ex_232⟩ : ∃ y : Int32, y = iv79_1 + Int32.ofInt 1 := ⟨_, rfl⟩
                                    have rg_233 := i32_r iv79_1
                                    have zx_232 : x_232.toInt = iv79_1.toInt + (1) := by rw [ex_232]; exact i32_add rfl (by decide) (by omega) (by omega)
                                    refine lv_iinc (v := x_232) (lv' := [(1, .int x_232), (4, .int iv139_4), (3, .int iv139_3), (2, .int iv96_2), (0, .ref x)]) hx hb dX10_wordHere_194 hl (k := 3) rfl ex_232.symm (by decide) rfl (fun ls hl => ?_)
                                    refine lv_goto (tgt := 79) hx hb dX10_wordHere_197 (by decide) ?_
                                    exact ih79 x_232 _ _ hL1 hl1 (by omega) (by omega)  ls (by omega) hW hT hM fw_6 ffw10_x_11  (lv_sub hl [0, 4] rfl)
                                  · skip
                                    refine lv_iload hx hb dX10_wordHere_143 (lv_at hl 0 rfl) ?_
                                    refine lv_iload_n hx hb dX10_wordHere_145 rfl (lv_at hl 2 rfl) ?_
                                    refine hb_icmp_ge (zx := iv139_4.toInt) (zy := iv96_2.toInt) (tgt := 188) hx hb rfl rfl dX10_wordHere_146 (by decide) (fun c_234 => ?_) (fun c_234 => ?_)
                                    · skip
                                      refine lv_iload_n hx hb dX10_wordHere_188 rfl (lv_at hl 1 rfl) ?_
                                      refine hb_if_eq (zx := iv139_3.toInt) (tgt := 194) hx hb rfl dX10_wordHere_189 (by decide) (fun c_235 => by exfalso; omega) (fun c_235 => ?_)
                                      refine lv_iload_n hx hb dX10_wordHere_192 rfl (lv_at hl 3 rfl) ?_
                                      exact hx_reti hx hb hr hlk hW ⟨⟨w_6, fw10_x_11, fw_6, ffw10_x_11, (by refine ⟨by omega, by omega, by omega, Or.inr ?_⟩; omega)⟩, hT, hM⟩ dX10_wordHere_193
                                    · skip
                                      refine lv_aload_n hx hb dX10_wordHere_149 rfl (lv_at hl 4 rfl) ?_
                                      refine hk_getr hx hb hts hC_10 hown hW (gx.S hM) tt_10 19 (by decide) rfl kw_1162 ⟨rfl, rfl, rfl⟩ ((hM.o gx trivial rfl).2.trans f_x_19) dX10_wordHere_150 ?_
                                      refine lv_bipush (v := 7) hx hb dX10_wordHere_153 (by decide) ?_
                                      refine lv_iload_n hx hb dX10_wordHere_155 rfl (lv_at hl 3 rfl) ?_
                                      refine lv_imul hx hb dX10_wordHere_156 ?_
                                      refine lv_topi (fun x_236 ex_236 => ?_)
                                      have zx_236 : x_236.toInt = 7 * iv79_1.toInt := by rw [ex_236]; exact i32_mul (by decide) rfl rfl (by omega) (by omega)
                                      refine lv_iload hx hb dX10_wordHere_157 (lv_at hl 0 rfl) ?_
                                      refine lv_iadd hx hb dX10_wordHere_159 ?_
                                      have rg_237 := i32_r x_236
                                      have rg_238 := i32_r iv139_4
                                      refine lv_topi (fun x_239 ex_239 => ?_)
                                      have zx_239 : x_239.toInt = x_236.toInt + iv139_4.toInt := by rw [ex_239]; exact i32_add rfl rfl (by omega) (by omega)
                                      refine hx_bald hx hb hW hT (gqw.S hM) tt_57 rfl ⟨by omega, by omega⟩ dX10_wordHere_160 (fun x_240 ex_240 lx_240 ux_240 => ?_)
                                      have ax_240 : x_240 = wf x_239.toNatClampNeg := ex_240.trans (congrFun (hx_afS hM gqw rfl af_qw) _)
                                      refine lv_aload_n hx hb dX10_wordHere_161 rfl (lv_at hl 4 rfl) ?_
                                      refine hk_getr hx hb hts hC_10 hown hW (gx.S hM) tt_10 6 (by decide) rfl kw_1149 ⟨rfl, rfl, rfl⟩ ((hM.o gx trivial rfl).2.trans f_x_6) dX10_wordHere_162 ?_
                                      refine lv_aload_n hx hb dX10_wordHere_165 rfl (lv_at hl 4 rfl) ?_
                                      refine hk_geti hx hb hts hC_10 hown hW (gx.S hM) tt_10 8 (by decide) rfl kw_1151 ⟨rfl, rfl, rfl⟩ fw_6 dX10_wordHere_166 ?_
                                      refine lv_iload hx hb dX10_wordHere_169 (lv_at hl 0 rfl) ?_
                                      refine lv_iadd hx hb dX10_wordHere_171 ?_
                                      refine lv_topi (fun x_241 ex_241 => ?_)
                                      have zx_241 : x_241.toInt = w_6.toInt + iv139_4.toInt := by rw [ex_241]; exact i32_add rfl rfl (by omega) (by omega)
                                      refine hx_bald hx hb hW hT (gqt.S hM) tt_53 rfl ⟨by omega, by omega⟩ dX10_wordHere_172 (fun x_242 ex_242 lx_242 ux_242 => ?_)
                                      have ax_242 : x_242 = tf x_241.toNatClampNeg := ex_242.trans (congrFun (hx_afS hM gqt rfl af_qt) _)
                                      refine hb_icmp_ne (zx := x_240.toInt) (zy := x_242.toInt) (tgt := 180) hx hb rfl rfl dX10_wordHere_173 (by decide) (fun c_243 => ?_) (fun c_243 => ?_)
                                      · skip
                                        refine lv_iconst (v := 0) hx hb dX10_wordHere_180 (by decide) ?_
                                        refine lv_istore_n (lv' := [(3, .int (0 : Int32)), (4, .int iv139_4), (2, .int iv96_2), (1, .int iv79_1), (0, .ref x)]) hx hb dX10_wordHere_181 rfl hl (by decide) rfl (fun ls hl => ?_)
                                        obtain ⟨x_244, ex_244⟩ : ∃ y : Int32, y = iv139_4 + Int32.ofInt 1 := ⟨_, rfl⟩
                                        have zx_244 : x_244.toInt = iv139_4.toInt + (1) := by rw [ex_244]; exact i32_add rfl (by decide) (by omega) (by omega)
                                        refine lv_iinc (v := x_244) (lv' := [(4, .int x_244), (3, .int (0 : Int32)), (2, .int iv96_2), (1, .int iv79_1), (0, .ref x)]) hx hb dX10_wordHere_182 hl (k := 1) rfl ex_244.symm (by decide) rfl (fun ls hl => ?_)
                                        refine lv_goto (tgt := 139) hx hb dX10_wordHere_185 (by decide) ?_
                                        have zk_0 : (0 : Int32).toInt = 0 := by decide
                                        exact ih139 (0 : Int32) x_244 _ _ hL1 hl1 (by decide) (by decide) (by omega) (by omega) (by omega) ls (by omega) hW hT hM fw_6 ffw10_x_11  (lv_sub hl [0, 1, 2, 3, 4] rfl)
                                      · skip
                                        refine lv_iconst (v := 1) hx hb dX10_wordHere_176 (by decide) ?_
                                        refine lv_goto (tgt := 181) hx hb dX10_wordHere_177 (by decide) ?_
                                        refine lv_istore_n (lv' := [(3, .int (1 : Int32)), (4, .int iv139_4), (2, .int iv96_2), (1, .int iv79_1), (0, .ref x)]) hx hb dX10_wordHere_181 rfl hl (by decide) rfl (fun ls hl => ?_)
                                        obtain ⟨x_245, ex_245⟩ : ∃ y : Int32, y = iv139_4 + Int32.ofInt 1 := ⟨_, rfl⟩
                                        have zx_245 : x_245.toInt = iv139_4.toInt + (1) := by rw [ex_245]; exact i32_add rfl (by decide) (by omega) (by omega)
                                        refine lv_iinc (v := x_245) (lv' := [(4, .int x_245), (3, .int (1 : Int32)), (2, .int iv96_2), (1, .int iv79_1), (0, .ref x)]) hx hb dX10_wordHere_182 hl (k := 1) rfl ex_245.symm (by decide) rfl (fun ls hl => ?_)
                                        refine lv_goto (tgt := 139) hx hb dX10_wordHere_185 (by decide) ?_
                                        have zk_1 : (1 : Int32).toInt = 1 := by decide
                                        exact ih139 (1 : Int32) x_245 _ _ hL1 hl1 (by decide) (by decide) (by omega) (by omega) (by omega) ls (by omega) hW hT hM fw_6 ffw10_x_11  (lv_sub hl [0, 1, 2, 3, 4] rfl)
                              have zk_1 : (1 : Int32).toInt = 1 := by decide
                              have zk_0 : (0 : Int32).toInt = 0 := by decide
                              exact loop139 8 (1 : Int32) (0 : Int32) _ _ hL1 hl1 (by decide) (by decide) (by decide) (by decide) (by omega) ls (by omega) hW hT hM fw_6 ffw10_x_11  hl
                          · skip
                            obtain ⟨x_246, ex_246⟩ : ∃ y : Int32, y = iv96_2 + Int32.ofInt 1 := ⟨_, rfl⟩
                            have zx_246 : x_246.toInt = iv96_2.toInt + (1) := by rw [ex_246]; exact i32_add rfl (by decide) (by omega) (by omega)
                            refine lv_iinc (v := x_246) (lv' := [(2, .int x_246), (1, .int iv79_1), (0, .ref x)]) hx hb dX10_wordHere_116 hl (k := 0) rfl ex_246.symm (by decide) rfl (fun ls hl => ?_)
                            refine lv_goto (tgt := 96) hx hb dX10_wordHere_119 (by decide) ?_
                            exact ih96 x_246 _ _ hL1 hl1 (by omega) (by omega) (hx_wp_s vi96_0 (by omega) ax_211 (by omega) (by omega) zx_246) ls (by omega) hW hT hM fw_6 ffw10_x_11  (lv_sub hl [0, 1, 2] rfl)
                    have zk_0 : (0 : Int32).toInt = 0 := by decide
                    exact loop96 8 (0 : Int32) _ _ hL1 hl1 (by decide) (by decide) hx_wp0 ls (by omega) hW hT hM fw_6 ffw10_x_11  hl
            have zk_0 : (0 : Int32).toInt = 0 := by decide
            exact loop79 26 (0 : Int32) _ _ hL1 hl1 (by decide) (by decide)  ls (by omega) hW hT hM fw_6 ffw10_x_11  hl
          · skip
            refine lv_aload_n hx hb dX10_wordHere_64 rfl (lv_at hl 0 rfl) ?_
            refine lv_dup hx hb dX10_wordHere_65 rfl ?_
            refine hk_geti hx hb hts hC_10 hown hW (gx.S hM) tt_10 11 (by decide) rfl kw_1154 ⟨rfl, rfl, rfl⟩ ffw10_x_11 dX10_wordHere_66 ?_
            refine lv_iconst (v := 1) hx hb dX10_wordHere_69 (by decide) ?_
            refine lv_iadd hx hb dX10_wordHere_70 ?_
            refine lv_topi (fun x_247 ex_247 => ?_)
            have zx_247 : x_247.toInt = fw10_x_11.toInt + 1 := by rw [ex_247]; exact i32_add rfl (by decide) (by omega) (by omega)
            refine hx_puti hx hb hts hC_10 hown hW hT (hx_S.rf (M := [(10, 11)])) (gx.S hM) tt_10 11 (by decide) rfl kw_1154 ⟨rfl, rfl, rfl⟩ rfl (x := x_247) ⟨by omega, by omega⟩ rfl rfl rfl (List.mem_singleton.mpr rfl) dX10_wordHere_71 (fun H locs h_248 eh_248 hW hT hs => ?_)
            replace fw_6 := (hs.o (gx.S hM) trivial rfl).1.trans fw_6
            replace ex_90 := ex_90.trans (hs.a (gqt.S hM) rfl _).1.symm
            replace ex_169 := ex_169.trans (hs.a (gqt.S hM) rfl _).1.symm
            replace hM := hM.tr (hs.mono (by decide))
            have f_249 : h_248.2.1 x 11 = x_247 := by rw [eh_248]; exact hx_pi_at _ _ _ _
            refine lv_goto (tgt := 10) hx hb dX10_wordHere_74 (by decide) ?_
            exact ih10 x_247 _ _ hL1 h_248 (by omega) (by omega) (by omega) ls (by omega) hW hT hM f_249 fw_6  (lv_sub hl [0] rfl)
  have zk_0 : (0 : Int32).toInt = 0 := by decide
  exact loop10 401 (0 : Int32) _ _ L_1 h_7 (by decide) (by decide) (by omega) ls (by omega) hW hT hM f_8 fw_6  hl

def wLX10_number_0 : List Nat := [42, 182, 0, 248, 62, 29, 16, 48, 161, 0, 9, 29, 16, 57, 164, 0, 13, 42, 3, 42, 180, 0, 245, 182, 0, 255, 172, 42, 180, 0, 245, 54, 4, 3, 54, 5, 3, 54, 6, 42, 180, 0, 245, 42, 180, 0, 236, 162, 0, 73, 42, 180, 0, 22, 42, 180, 0, 245, 51, 16, 48, 161, 0, 59]
def wLX10_number_1 : List Nat := [42, 180, 0, 22, 42, 180, 0, 245, 51, 16, 57, 163, 0, 45, 21, 5, 7, 162, 0, 23, 16, 10, 21, 6, 104, 42, 180, 0, 22, 42, 180, 0, 245, 51, 96, 16, 48, 100, 54, 6, 132, 5, 1, 42, 89, 180, 0, 245, 4, 96, 181, 0, 245, 167, 255, 178, 42, 21, 6, 181, 1, 3, 21, 5]
def wLX10_number_2 : List Nat := [7, 163, 0, 13, 21, 6, 27, 28, 184, 0, 228, 154, 0, 13, 42, 4, 21, 4, 182, 0, 255, 153, 0, 7, 4, 167, 0, 4, 3, 172]
theorem wX10_number_0 : (cX10_number.data.toList.map UInt8.toNat).drop 0 = wLX10_number_0 ++ (wLX10_number_1 ++ (wLX10_number_2 ++ ([]))) := by decide +kernel
theorem wX10_number_1 : (cX10_number.data.toList.map UInt8.toNat).drop 64 = wLX10_number_1 ++ (wLX10_number_2 ++ ([])) := hz_wn wX10_number_0 rfl
theorem wX10_number_2 : (cX10_number.data.toList.map UInt8.toNat).drop 128 = wLX10_number_2 ++ ([]) := hz_wn wX10_number_1 rfl
theorem dX10_number_0 : decode cX10_number 0 = .ok (.aload_n 0, 1) := dq_42 (hz_wg wX10_number_0 (j := 0) (n := 42) rfl)
theorem dX10_number_1 : decode cX10_number 1 = .ok (.invokevirtual 248, 3) := dq_182 (hz_wg wX10_number_0 (j := 1) (n := 182) rfl) (hz_wg wX10_number_0 (j := 2) (n := 0) rfl) (hz_wg wX10_number_0 (j := 3) (n := 248) rfl) rfl
theorem dX10_number_4 : decode cX10_number 4 = .ok (.istore_n 3, 1) := dq_62 (hz_wg wX10_number_0 (j := 4) (n := 62) rfl)
theorem dX10_number_5 : decode cX10_number 5 = .ok (.iload_n 3, 1) := dq_29 (hz_wg wX10_number_0 (j := 5) (n := 29) rfl)
theorem dX10_number_6 : decode cX10_number 6 = .ok (.bipush 48, 2) := dq_16 (hz_wg wX10_number_0 (j := 6) (n := 16) rfl) (hz_wg wX10_number_0 (j := 7) (n := 48) rfl) (by decide)
theorem dX10_number_8 : decode cX10_number 8 = .ok (.if_icmp .lt 9, 3) := dq_161 (hz_wg wX10_number_0 (j := 8) (n := 161) rfl) (hz_wg wX10_number_0 (j := 9) (n := 0) rfl) (hz_wg wX10_number_0 (j := 10) (n := 9) rfl) (by decide)
theorem dX10_number_11 : decode cX10_number 11 = .ok (.iload_n 3, 1) := dq_29 (hz_wg wX10_number_0 (j := 11) (n := 29) rfl)
theorem dX10_number_12 : decode cX10_number 12 = .ok (.bipush 57, 2) := dq_16 (hz_wg wX10_number_0 (j := 12) (n := 16) rfl) (hz_wg wX10_number_0 (j := 13) (n := 57) rfl) (by decide)
theorem dX10_number_14 : decode cX10_number 14 = .ok (.if_icmp .le 13, 3) := dq_164 (hz_wg wX10_number_0 (j := 14) (n := 164) rfl) (hz_wg wX10_number_0 (j := 15) (n := 0) rfl) (hz_wg wX10_number_0 (j := 16) (n := 13) rfl) (by decide)
theorem dX10_number_17 : decode cX10_number 17 = .ok (.aload_n 0, 1) := dq_42 (hz_wg wX10_number_0 (j := 17) (n := 42) rfl)
theorem dX10_number_18 : decode cX10_number 18 = .ok (.iconst 0, 1) := dq_3 (hz_wg wX10_number_0 (j := 18) (n := 3) rfl)
theorem dX10_number_19 : decode cX10_number 19 = .ok (.aload_n 0, 1) := dq_42 (hz_wg wX10_number_0 (j := 19) (n := 42) rfl)
theorem dX10_number_20 : decode cX10_number 20 = .ok (.getfield 245, 3) := dq_180 (hz_wg wX10_number_0 (j := 20) (n := 180) rfl) (hz_wg wX10_number_0 (j := 21) (n := 0) rfl) (hz_wg wX10_number_0 (j := 22) (n := 245) rfl) rfl
theorem dX10_number_23 : decode cX10_number 23 = .ok (.invokevirtual 255, 3) := dq_182 (hz_wg wX10_number_0 (j := 23) (n := 182) rfl) (hz_wg wX10_number_0 (j := 24) (n := 0) rfl) (hz_wg wX10_number_0 (j := 25) (n := 255) rfl) rfl
theorem dX10_number_26 : decode cX10_number 26 = .ok (.ireturn, 1) := dq_172 (hz_wg wX10_number_0 (j := 26) (n := 172) rfl)
theorem dX10_number_27 : decode cX10_number 27 = .ok (.aload_n 0, 1) := dq_42 (hz_wg wX10_number_0 (j := 27) (n := 42) rfl)
theorem dX10_number_28 : decode cX10_number 28 = .ok (.getfield 245, 3) := dq_180 (hz_wg wX10_number_0 (j := 28) (n := 180) rfl) (hz_wg wX10_number_0 (j := 29) (n := 0) rfl) (hz_wg wX10_number_0 (j := 30) (n := 245) rfl) rfl
theorem dX10_number_31 : decode cX10_number 31 = .ok (.istore 4, 2) := dq_54 (hz_wg wX10_number_0 (j := 31) (n := 54) rfl) (hz_wg wX10_number_0 (j := 32) (n := 4) rfl)
theorem dX10_number_33 : decode cX10_number 33 = .ok (.iconst 0, 1) := dq_3 (hz_wg wX10_number_0 (j := 33) (n := 3) rfl)
theorem dX10_number_34 : decode cX10_number 34 = .ok (.istore 5, 2) := dq_54 (hz_wg wX10_number_0 (j := 34) (n := 54) rfl) (hz_wg wX10_number_0 (j := 35) (n := 5) rfl)
theorem dX10_number_36 : decode cX10_number 36 = .ok (.iconst 0, 1) := dq_3 (hz_wg wX10_number_0 (j := 36) (n := 3) rfl)
theorem dX10_number_37 : decode cX10_number 37 = .ok (.istore 6, 2) := dq_54 (hz_wg wX10_number_0 (j := 37) (n := 54) rfl) (hz_wg wX10_number_0 (j := 38) (n := 6) rfl)
theorem dX10_number_39 : decode cX10_number 39 = .ok (.aload_n 0, 1) := dq_42 (hz_wg wX10_number_0 (j := 39) (n := 42) rfl)
theorem dX10_number_40 : decode cX10_number 40 = .ok (.getfield 245, 3) := dq_180 (hz_wg wX10_number_0 (j := 40) (n := 180) rfl) (hz_wg wX10_number_0 (j := 41) (n := 0) rfl) (hz_wg wX10_number_0 (j := 42) (n := 245) rfl) rfl
theorem dX10_number_43 : decode cX10_number 43 = .ok (.aload_n 0, 1) := dq_42 (hz_wg wX10_number_0 (j := 43) (n := 42) rfl)
theorem dX10_number_44 : decode cX10_number 44 = .ok (.getfield 236, 3) := dq_180 (hz_wg wX10_number_0 (j := 44) (n := 180) rfl) (hz_wg wX10_number_0 (j := 45) (n := 0) rfl) (hz_wg wX10_number_0 (j := 46) (n := 236) rfl) rfl
theorem dX10_number_47 : decode cX10_number 47 = .ok (.if_icmp .ge 73, 3) := dq_162 (hz_wg wX10_number_0 (j := 47) (n := 162) rfl) (hz_wg wX10_number_0 (j := 48) (n := 0) rfl) (hz_wg wX10_number_0 (j := 49) (n := 73) rfl) (by decide)
theorem dX10_number_50 : decode cX10_number 50 = .ok (.aload_n 0, 1) := dq_42 (hz_wg wX10_number_0 (j := 50) (n := 42) rfl)
theorem dX10_number_51 : decode cX10_number 51 = .ok (.getfield 22, 3) := dq_180 (hz_wg wX10_number_0 (j := 51) (n := 180) rfl) (hz_wg wX10_number_0 (j := 52) (n := 0) rfl) (hz_wg wX10_number_0 (j := 53) (n := 22) rfl) rfl
theorem dX10_number_54 : decode cX10_number 54 = .ok (.aload_n 0, 1) := dq_42 (hz_wg wX10_number_0 (j := 54) (n := 42) rfl)
theorem dX10_number_55 : decode cX10_number 55 = .ok (.getfield 245, 3) := dq_180 (hz_wg wX10_number_0 (j := 55) (n := 180) rfl) (hz_wg wX10_number_0 (j := 56) (n := 0) rfl) (hz_wg wX10_number_0 (j := 57) (n := 245) rfl) rfl
theorem dX10_number_58 : decode cX10_number 58 = .ok (.baload, 1) := dq_51 (hz_wg wX10_number_0 (j := 58) (n := 51) rfl)
theorem dX10_number_59 : decode cX10_number 59 = .ok (.bipush 48, 2) := dq_16 (hz_wg wX10_number_0 (j := 59) (n := 16) rfl) (hz_wg wX10_number_0 (j := 60) (n := 48) rfl) (by decide)
theorem dX10_number_61 : decode cX10_number 61 = .ok (.if_icmp .lt 59, 3) := dq_161 (hz_wg wX10_number_0 (j := 61) (n := 161) rfl) (hz_wg wX10_number_0 (j := 62) (n := 0) rfl) (hz_wg wX10_number_0 (j := 63) (n := 59) rfl) (by decide)
theorem dX10_number_64 : decode cX10_number 64 = .ok (.aload_n 0, 1) := dq_42 (hz_wg wX10_number_1 (j := 0) (n := 42) rfl)
theorem dX10_number_65 : decode cX10_number 65 = .ok (.getfield 22, 3) := dq_180 (hz_wg wX10_number_1 (j := 1) (n := 180) rfl) (hz_wg wX10_number_1 (j := 2) (n := 0) rfl) (hz_wg wX10_number_1 (j := 3) (n := 22) rfl) rfl
theorem dX10_number_68 : decode cX10_number 68 = .ok (.aload_n 0, 1) := dq_42 (hz_wg wX10_number_1 (j := 4) (n := 42) rfl)
theorem dX10_number_69 : decode cX10_number 69 = .ok (.getfield 245, 3) := dq_180 (hz_wg wX10_number_1 (j := 5) (n := 180) rfl) (hz_wg wX10_number_1 (j := 6) (n := 0) rfl) (hz_wg wX10_number_1 (j := 7) (n := 245) rfl) rfl
theorem dX10_number_72 : decode cX10_number 72 = .ok (.baload, 1) := dq_51 (hz_wg wX10_number_1 (j := 8) (n := 51) rfl)
theorem dX10_number_73 : decode cX10_number 73 = .ok (.bipush 57, 2) := dq_16 (hz_wg wX10_number_1 (j := 9) (n := 16) rfl) (hz_wg wX10_number_1 (j := 10) (n := 57) rfl) (by decide)
theorem dX10_number_75 : decode cX10_number 75 = .ok (.if_icmp .gt 45, 3) := dq_163 (hz_wg wX10_number_1 (j := 11) (n := 163) rfl) (hz_wg wX10_number_1 (j := 12) (n := 0) rfl) (hz_wg wX10_number_1 (j := 13) (n := 45) rfl) (by decide)
theorem dX10_number_78 : decode cX10_number 78 = .ok (.iload 5, 2) := dq_21 (hz_wg wX10_number_1 (j := 14) (n := 21) rfl) (hz_wg wX10_number_1 (j := 15) (n := 5) rfl)
theorem dX10_number_80 : decode cX10_number 80 = .ok (.iconst 4, 1) := dq_7 (hz_wg wX10_number_1 (j := 16) (n := 7) rfl)
theorem dX10_number_81 : decode cX10_number 81 = .ok (.if_icmp .ge 23, 3) := dq_162 (hz_wg wX10_number_1 (j := 17) (n := 162) rfl) (hz_wg wX10_number_1 (j := 18) (n := 0) rfl) (hz_wg wX10_number_1 (j := 19) (n := 23) rfl) (by decide)
theorem dX10_number_84 : decode cX10_number 84 = .ok (.bipush 10, 2) := dq_16 (hz_wg wX10_number_1 (j := 20) (n := 16) rfl) (hz_wg wX10_number_1 (j := 21) (n := 10) rfl) (by decide)
theorem dX10_number_86 : decode cX10_number 86 = .ok (.iload 6, 2) := dq_21 (hz_wg wX10_number_1 (j := 22) (n := 21) rfl) (hz_wg wX10_number_1 (j := 23) (n := 6) rfl)
theorem dX10_number_88 : decode cX10_number 88 = .ok (.imul, 1) := dq_104 (hz_wg wX10_number_1 (j := 24) (n := 104) rfl)
theorem dX10_number_89 : decode cX10_number 89 = .ok (.aload_n 0, 1) := dq_42 (hz_wg wX10_number_1 (j := 25) (n := 42) rfl)
theorem dX10_number_90 : decode cX10_number 90 = .ok (.getfield 22, 3) := dq_180 (hz_wg wX10_number_1 (j := 26) (n := 180) rfl) (hz_wg wX10_number_1 (j := 27) (n := 0) rfl) (hz_wg wX10_number_1 (j := 28) (n := 22) rfl) rfl
theorem dX10_number_93 : decode cX10_number 93 = .ok (.aload_n 0, 1) := dq_42 (hz_wg wX10_number_1 (j := 29) (n := 42) rfl)
theorem dX10_number_94 : decode cX10_number 94 = .ok (.getfield 245, 3) := dq_180 (hz_wg wX10_number_1 (j := 30) (n := 180) rfl) (hz_wg wX10_number_1 (j := 31) (n := 0) rfl) (hz_wg wX10_number_1 (j := 32) (n := 245) rfl) rfl
theorem dX10_number_97 : decode cX10_number 97 = .ok (.baload, 1) := dq_51 (hz_wg wX10_number_1 (j := 33) (n := 51) rfl)
theorem dX10_number_98 : decode cX10_number 98 = .ok (.iadd, 1) := dq_96 (hz_wg wX10_number_1 (j := 34) (n := 96) rfl)
theorem dX10_number_99 : decode cX10_number 99 = .ok (.bipush 48, 2) := dq_16 (hz_wg wX10_number_1 (j := 35) (n := 16) rfl) (hz_wg wX10_number_1 (j := 36) (n := 48) rfl) (by decide)
theorem dX10_number_101 : decode cX10_number 101 = .ok (.isub, 1) := dq_100 (hz_wg wX10_number_1 (j := 37) (n := 100) rfl)
theorem dX10_number_102 : decode cX10_number 102 = .ok (.istore 6, 2) := dq_54 (hz_wg wX10_number_1 (j := 38) (n := 54) rfl) (hz_wg wX10_number_1 (j := 39) (n := 6) rfl)
theorem dX10_number_104 : decode cX10_number 104 = .ok (.iinc 5 1, 3) := dq_132 (hz_wg wX10_number_1 (j := 40) (n := 132) rfl) (hz_wg wX10_number_1 (j := 41) (n := 5) rfl) (hz_wg wX10_number_1 (j := 42) (n := 1) rfl) (by decide)
theorem dX10_number_107 : decode cX10_number 107 = .ok (.aload_n 0, 1) := dq_42 (hz_wg wX10_number_1 (j := 43) (n := 42) rfl)
theorem dX10_number_108 : decode cX10_number 108 = .ok (.dup, 1) := dq_89 (hz_wg wX10_number_1 (j := 44) (n := 89) rfl)
theorem dX10_number_109 : decode cX10_number 109 = .ok (.getfield 245, 3) := dq_180 (hz_wg wX10_number_1 (j := 45) (n := 180) rfl) (hz_wg wX10_number_1 (j := 46) (n := 0) rfl) (hz_wg wX10_number_1 (j := 47) (n := 245) rfl) rfl
theorem dX10_number_112 : decode cX10_number 112 = .ok (.iconst 1, 1) := dq_4 (hz_wg wX10_number_1 (j := 48) (n := 4) rfl)
theorem dX10_number_113 : decode cX10_number 113 = .ok (.iadd, 1) := dq_96 (hz_wg wX10_number_1 (j := 49) (n := 96) rfl)
theorem dX10_number_114 : decode cX10_number 114 = .ok (.putfield 245, 3) := dq_181 (hz_wg wX10_number_1 (j := 50) (n := 181) rfl) (hz_wg wX10_number_1 (j := 51) (n := 0) rfl) (hz_wg wX10_number_1 (j := 52) (n := 245) rfl) rfl
theorem dX10_number_117 : decode cX10_number 117 = .ok (.goto (-78), 3) := dq_167 (hz_wg wX10_number_1 (j := 53) (n := 167) rfl) (hz_wg wX10_number_1 (j := 54) (n := 255) rfl) (hz_wg wX10_number_1 (j := 55) (n := 178) rfl) (by decide)
theorem dX10_number_120 : decode cX10_number 120 = .ok (.aload_n 0, 1) := dq_42 (hz_wg wX10_number_1 (j := 56) (n := 42) rfl)
theorem dX10_number_121 : decode cX10_number 121 = .ok (.iload 6, 2) := dq_21 (hz_wg wX10_number_1 (j := 57) (n := 21) rfl) (hz_wg wX10_number_1 (j := 58) (n := 6) rfl)
theorem dX10_number_123 : decode cX10_number 123 = .ok (.putfield 259, 3) := dq_181 (hz_wg wX10_number_1 (j := 59) (n := 181) rfl) (hz_wg wX10_number_1 (j := 60) (n := 1) rfl) (hz_wg wX10_number_1 (j := 61) (n := 3) rfl) rfl
theorem dX10_number_126 : decode cX10_number 126 = .ok (.iload 5, 2) := dq_21 (hz_wg wX10_number_1 (j := 62) (n := 21) rfl) (hz_wg wX10_number_1 (j := 63) (n := 5) rfl)
theorem dX10_number_128 : decode cX10_number 128 = .ok (.iconst 4, 1) := dq_7 (hz_wg wX10_number_2 (j := 0) (n := 7) rfl)
theorem dX10_number_129 : decode cX10_number 129 = .ok (.if_icmp .gt 13, 3) := dq_163 (hz_wg wX10_number_2 (j := 1) (n := 163) rfl) (hz_wg wX10_number_2 (j := 2) (n := 0) rfl) (hz_wg wX10_number_2 (j := 3) (n := 13) rfl) (by decide)
theorem dX10_number_132 : decode cX10_number 132 = .ok (.iload 6, 2) := dq_21 (hz_wg wX10_number_2 (j := 4) (n := 21) rfl) (hz_wg wX10_number_2 (j := 5) (n := 6) rfl)
theorem dX10_number_134 : decode cX10_number 134 = .ok (.iload_n 1, 1) := dq_27 (hz_wg wX10_number_2 (j := 6) (n := 27) rfl)
theorem dX10_number_135 : decode cX10_number 135 = .ok (.iload_n 2, 1) := dq_28 (hz_wg wX10_number_2 (j := 7) (n := 28) rfl)
theorem dX10_number_136 : decode cX10_number 136 = .ok (.invokestatic 228, 3) := dq_184 (hz_wg wX10_number_2 (j := 8) (n := 184) rfl) (hz_wg wX10_number_2 (j := 9) (n := 0) rfl) (hz_wg wX10_number_2 (j := 10) (n := 228) rfl) rfl
theorem dX10_number_139 : decode cX10_number 139 = .ok (.ifCond .ne 13, 3) := dq_154 (hz_wg wX10_number_2 (j := 11) (n := 154) rfl) (hz_wg wX10_number_2 (j := 12) (n := 0) rfl) (hz_wg wX10_number_2 (j := 13) (n := 13) rfl) (by decide)
theorem dX10_number_142 : decode cX10_number 142 = .ok (.aload_n 0, 1) := dq_42 (hz_wg wX10_number_2 (j := 14) (n := 42) rfl)
theorem dX10_number_143 : decode cX10_number 143 = .ok (.iconst 1, 1) := dq_4 (hz_wg wX10_number_2 (j := 15) (n := 4) rfl)
theorem dX10_number_144 : decode cX10_number 144 = .ok (.iload 4, 2) := dq_21 (hz_wg wX10_number_2 (j := 16) (n := 21) rfl) (hz_wg wX10_number_2 (j := 17) (n := 4) rfl)
theorem dX10_number_146 : decode cX10_number 146 = .ok (.invokevirtual 255, 3) := dq_182 (hz_wg wX10_number_2 (j := 18) (n := 182) rfl) (hz_wg wX10_number_2 (j := 19) (n := 0) rfl) (hz_wg wX10_number_2 (j := 20) (n := 255) rfl) rfl
theorem dX10_number_149 : decode cX10_number 149 = .ok (.ifCond .eq 7, 3) := dq_153 (hz_wg wX10_number_2 (j := 21) (n := 153) rfl) (hz_wg wX10_number_2 (j := 22) (n := 0) rfl) (hz_wg wX10_number_2 (j := 23) (n := 7) rfl) (by decide)
theorem dX10_number_152 : decode cX10_number 152 = .ok (.iconst 1, 1) := dq_4 (hz_wg wX10_number_2 (j := 24) (n := 4) rfl)
theorem dX10_number_153 : decode cX10_number 153 = .ok (.goto 4, 3) := dq_167 (hz_wg wX10_number_2 (j := 25) (n := 167) rfl) (hz_wg wX10_number_2 (j := 26) (n := 0) rfl) (hz_wg wX10_number_2 (j := 27) (n := 4) rfl) (by decide)
theorem dX10_number_156 : decode cX10_number 156 = .ok (.iconst 0, 1) := dq_3 (hz_wg wX10_number_2 (j := 28) (n := 3) rfl)
theorem dX10_number_157 : decode cX10_number 157 = .ok (.ireturn, 1) := dq_172 (hz_wg wX10_number_2 (j := 29) (n := 172) rfl)
set_option maxHeartbeats 4000000 in
set_option maxRecDepth 100000 in
theorem t_X10_number (l : Launch) (dC : Nat → ClassId) (dI : Nat → Nat → Nat) (dA : Nat → ClassId) (L : List Nat) (h : hx_h) (sz : Nat) (x : Nat) (i1 : Int32) (i2 : Int32) (hT : hx_T T_tb L h) (gx : hx_g L h x 10) (qt : Nat) (gqt : hx_g L h qt 53) (f_x_6 : h.2.2 x 6 = some qt) (tf : Nat → Int32) (af_qt : h.2.1 qt = tf) (nx0 : Int32) (f_x_8 : h.2.1 x 8 = nx0) (tp0 : Int32) (f_x_7 : h.2.1 x 7 = tp0) : Met l yX10_number (Cond.code yX10_number cX10_number 7 (some .boolean) :: hx_all) ({ frames := 1, cells := 0, slots := 0, locals := 22 }) (va_Pc [.ref x, .int i1, .int i2] (hx_B T_tb (P_ty dA) (dC, dI) vwCl L h sz)) (va_Qi (fun (r : Int32) (u : List Nat × hx_h) => (∃ (nx1 : Int32) (sd1 : Int32), u.2.2.1 x 8 = nx1 ∧ u.2.2.1 x 10 = sd1 ∧ ((r.toInt = 0 ∨ r.toInt = 1) ∧ nx0.toInt ≤ nx1.toInt ∧ (nx1.toInt = nx0.toInt ∨ nx1.toInt ≤ tp0.toInt) ∧ (r.toInt = 1 → nx0.toInt + 1 ≤ nx1.toInt ∧ nx1.toInt ≤ tp0.toInt ∧ i1.toInt ≤ sd1.toInt ∧ sd1.toInt ≤ i2.toInt))) ∧ hx_T T_tb u.1 u.2 ∧ hx_S T_tb [(10, 8), (10, 9), (10, 10)] L h u.1 u.2) (hx_E T_tb (P_ty dA) (dC, dI) vwCl (hx_A L sz)) (hx_A L sz)) 0 0 (hx_A L sz) := by
  refine hx_met (lv := [(0, .ref x), (1, .int i1), (2, .int i2)]) (by decide +kernel) rfl (Nat.le_of_ble_eq_true rfl) rfl ?_
  intro p e s m below meth c hx hb hml hr hlk hts0 hown hin hsz hW ls hl
  have hts : ∀ w ∈ hx_all, w.before _ s = true := fun w hw => hts0 w (List.mem_cons_of_mem _ hw)
  have hown : s.vm.findClass "SmallCourtModel" = some m.cls := hown
  have hM : hx_S T_tb [(10, 8), (10, 9), (10, 10)] L h L h := hx_S.rf
  have b_nx0 := hT.gi gx tt_10 (k := 8) rfl
  rw [f_x_8] at b_nx0
  have b_nx0 : 0 ≤ nx0.toInt ∧ nx0.toInt ≤ 402 := b_nx0
  have b_tp0 := hT.gi gx tt_10 (k := 7) rfl
  rw [f_x_7] at b_tp0
  have b_tp0 : 0 ≤ tp0.toInt ∧ tp0.toInt ≤ 400 := b_tp0
  refine lv_aload_n hx hb dX10_number_0 rfl (lv_at hl 0 rfl) ?_
  refine hx_goi (hx_runV (As := []) (rest := []) ⟨hx, hb, hml, hown, hts⟩ hW (gx.S hM) tt_10 (T := TX10) (N := 98) rfl (t_X10_see l dC dI dA L h s.heap.size x hT (gx.S hM) qt (gqt.S hM) ((hM.o gx trivial rfl).2.trans f_x_6) tf (hx_afS hM gqt rfl af_qt) nx0 f_x_8 tp0 ((hM.o gx trivial rfl).1.trans f_x_7)) (cwV 0 hts (hx_gV kw_1468 kw_1465 kw_1467 kw_53 kw_103) rfl rfl rfl (by decide +kernel) ⟨Nat.le_of_ble_eq_true rfl, Nat.le_of_ble_eq_true rfl⟩) rfl hl.1 rfl (Nat.le_of_ble_eq_true rfl) dX10_number_1 ⟨Nat.le_of_ble_eq_true rfl, Nat.le_of_ble_eq_true rfl⟩) hW (fun r_3 L_1 h_2 H locs p_4 hW => ?_)
  obtain ⟨⟨w_6, fw_6, hr_5⟩, hT, hs⟩ := p_4
  replace hT : hx_T T_tb L_1 h_2 := hT
  replace hs : hx_S T_tb [(10, 8)] L h L_1 h_2 := hs
  replace hM := hM.tr (hs.mono (by decide))
  have fw_6 : h_2.2.1 x 8 = w_6 := fw_6
  have bw_6 := hT.gi (gx.S hM) tt_10 (k := 8) rfl
  rw [fw_6] at bw_6
  have bw_6 : 0 ≤ w_6.toInt ∧ w_6.toInt ≤ 402 := bw_6
  refine lv_istore_n (lv' := [(3, .int r_3), (0, .ref x), (1, .int i1), (2, .int i2)]) hx hb dX10_number_4 rfl hl (by decide) rfl (fun ls hl => ?_)
  refine lv_iload_n hx hb dX10_number_5 rfl (lv_at hl 0 rfl) ?_
  refine lv_bipush (v := 48) hx hb dX10_number_6 (by decide) ?_
  refine hb_icmp_lt (zx := r_3.toInt) (zy := 48) (tgt := 17) hx hb rfl (by decide) dX10_number_8 (by decide) (fun c_7 => ?_) (fun c_7 => ?_)
  · skip
    refine lv_aload_n hx hb dX10_number_17 rfl (lv_at hl 1 rfl) ?_
    refine lv_iconst (v := 0) hx hb dX10_number_18 (by decide) ?_
    refine lv_aload_n hx hb dX10_number_19 rfl (lv_at hl 1 rfl) ?_
    refine hk_geti hx hb hts hC_10 hown hW (gx.S hM) tt_10 8 (by decide) rfl kw_1151 ⟨rfl, rfl, rfl⟩ fw_6 dX10_number_20 ?_
    have zc_0 : (0 : Int32).toInt = 0 := by decide
    refine hx_goi (hx_runV (As := [.int (0 : Int32), .int w_6]) (rest := []) ⟨hx, hb, hml, hown, hts⟩ hW (gx.S hM) tt_10 (T := TX10) (N := 98) rfl (t_X10_fails l dC dI dA L_1 h_2 H.size x (0 : Int32) w_6 hT (gx.S hM)) (cwV 2 hts (hx_gV kw_1480 kw_1477 kw_1479 kw_56 kw_103) rfl rfl rfl (by decide +kernel) ⟨Nat.le_of_ble_eq_true rfl, Nat.le_of_ble_eq_true rfl⟩) rfl hl.1 rfl (Nat.le_of_ble_eq_true rfl) dX10_number_23 ⟨Nat.le_of_ble_eq_true rfl, Nat.le_of_ble_eq_true rfl⟩) hW (fun r_10 L_8 h_9 H locs p_11 hW => ?_)
    obtain ⟨hr_12, hT, hs⟩ := p_11
    replace hT : hx_T T_tb L_8 h_9 := hT
    replace hs : hx_S T_tb [(10, 9)] L_1 h_2 L_8 h_9 := hs
    replace fw_6 := (hs.o (gx.S hM) trivial rfl).1.trans fw_6
    replace hM := hM.tr (hs.mono (by decide))
    obtain ⟨fv_13, efv_13⟩ : ∃ y : Int32, y = h_9.2.1 x 10 := ⟨_, rfl⟩
    have bfv_13 := hT.gi (gx.S hM) tt_10 (k := 10) rfl
    rw [← efv_13] at bfv_13
    have bfv_13 : 0 ≤ fv_13.toInt ∧ fv_13.toInt ≤ 9999 := bfv_13
    have ffv_13 := efv_13.symm
    exact hx_retz hx hb hr (hx_nar01 (by omega)) hlk hW ⟨⟨w_6, fv_13, fw_6, ffv_13, (by omega)⟩, hT, hM⟩ dX10_number_26
  · skip
    refine lv_iload_n hx hb dX10_number_11 rfl (lv_at hl 0 rfl) ?_
    refine lv_bipush (v := 57) hx hb dX10_number_12 (by decide) ?_
    refine hb_icmp_le (zx := r_3.toInt) (zy := 57) (tgt := 27) hx hb rfl (by decide) dX10_number_14 (by decide) (fun c_14 => ?_) (fun c_14 => ?_)
    · skip
      have hcd : w_6.toInt < tp0.toInt ∧ r_3 = tf w_6.toNatClampNeg &&& 255 := by
        rcases hr_5.2.2 with q | q
        · exfalso; omega
        · exact ⟨q.1, q.2.2.2⟩
      refine lv_aload_n hx hb dX10_number_27 rfl (lv_at hl 1 rfl) ?_
      refine hk_geti hx hb hts hC_10 hown hW (gx.S hM) tt_10 8 (by decide) rfl kw_1151 ⟨rfl, rfl, rfl⟩ fw_6 dX10_number_28 ?_
      refine lv_istore (lv' := [(4, .int w_6), (3, .int r_3), (0, .ref x), (1, .int i1), (2, .int i2)]) hx hb dX10_number_31 hl (by decide) rfl (fun ls hl => ?_)
      refine lv_iconst (v := 0) hx hb dX10_number_33 (by decide) ?_
      refine lv_istore (lv' := [(5, .int (0 : Int32)), (4, .int w_6), (3, .int r_3), (0, .ref x), (1, .int i1), (2, .int i2)]) hx hb dX10_number_34 hl (by decide) rfl (fun ls hl => ?_)
      refine lv_iconst (v := 0) hx hb dX10_number_36 (by decide) ?_
      refine lv_istore (lv' := [(6, .int (0 : Int32)), (5, .int (0 : Int32)), (4, .int w_6), (3, .int r_3), (0, .ref x), (1, .int i1), (2, .int i2)]) hx hb dX10_number_37 hl (by decide) rfl (fun ls hl => ?_)
      have loop39 : ∀ (n39 : Nat) (iv39_5 iv39_6 fw39_x_8 : Int32) (H : Heap) (locs : List Loc) (hL1 : List Nat) (hl1 : hx_h), 0 ≤ iv39_5.toInt → iv39_5.toInt ≤ 400 → 0 ≤ iv39_6.toInt → iv39_6.toInt ≤ 9999 → 0 ≤ fw39_x_8.toInt → fw39_x_8.toInt ≤ 402 → (fw39_x_8.toInt = w_6.toInt + iv39_5.toInt) → ((iv39_5.toInt = 0 ∧ iv39_6.toInt = 0) ∨ (iv39_5.toInt = 1 ∧ iv39_6.toInt ≤ 9) ∨ (iv39_5.toInt = 2 ∧ iv39_6.toInt ≤ 99) ∨ (iv39_5.toInt = 3 ∧ iv39_6.toInt ≤ 999) ∨ 4 ≤ iv39_5.toInt) → (w_6.toInt + iv39_5.toInt ≤ tp0.toInt) → ∀ (ls : Array Slot), 402 - fw39_x_8.toInt < (n39 : Int) → hx_W T_tb (P_ty dA) (dC, dI) vwCl (hx_A L sz) s.heap hL1 hl1 s H locs → hx_T T_tb hL1 hl1 → hx_S T_tb [(10, 8), (10, 9), (10, 10)] L h hL1 hl1 → hl1.2.1 x 8 = fw39_x_8 → lv_has ls 7 [(6, .int iv39_6), (5, .int iv39_5), (4, .int w_6), (3, .int r_3), (0, .ref x), (1, .int i1), (2, .int i2)] → W p l e ({ frames := 1, cells := 0, slots := 0, locals := 22 }) s m ([.ref x, .int i1, .int i2] : List Value).toArray below meth c H locs 0 0 (MQ below (va_Qi (fun (r : Int32) (u : List Nat × hx_h) => (∃ (nx1 : Int32) (sd1 : Int32), u.2.2.1 x 8 = nx1 ∧ u.2.2.1 x 10 = sd1 ∧ ((r.toInt = 0 ∨ r.toInt = 1) ∧ nx0.toInt ≤ nx1.toInt ∧ (nx1.toInt = nx0.toInt ∨ nx1.toInt ≤ tp0.toInt) ∧ (r.toInt = 1 → nx0.toInt + 1 ≤ nx1.toInt ∧ nx1.toInt ≤ tp0.toInt ∧ i1.toInt ≤ sd1.toInt ∧ sd1.toInt ≤ i2.toInt))) ∧ hx_T T_tb u.1 u.2 ∧ hx_S T_tb [(10, 8), (10, 9), (10, 10)] L h u.1 u.2) (hx_E T_tb (P_ty dA) (dC, dI) vwCl (hx_A L sz)) (hx_A L sz)) ([.ref x, .int i1, .int i2] : List Value).toArray s 0 0 (hx_A L sz)) (F0 m 39 ls []) := by
        intro n39
        induction n39 with
        | zero => intro iv39_5 iv39_6 fw39_x_8 H locs hL1 hl1 bliv39_5 buiv39_5 bliv39_6 buiv39_6 blfw39_x_8 bufw39_x_8 vi39_0 vi39_1 vi39_2 ls hn39; exfalso; omega
        | succ n39 ih39 =>
          intro iv39_5 iv39_6 fw39_x_8 H locs hL1 hl1 bliv39_5 buiv39_5 bliv39_6 buiv39_6 blfw39_x_8 bufw39_x_8 vi39_0 vi39_1 vi39_2 ls hn39 hW hT hM ffw39_x_8  hl
          refine lv_aload_n hx hb dX10_number_39 rfl (lv_at hl 4 rfl) ?_
          refine hk_geti hx hb hts hC_10 hown hW (gx.S hM) tt_10 8 (by decide) rfl kw_1151 ⟨rfl, rfl, rfl⟩ ffw39_x_8 dX10_number_40 ?_
          refine lv_aload_n hx hb dX10_number_43 rfl (lv_at hl 4 rfl) ?_
          refine hk_geti hx hb hts hC_10 hown hW (gx.S hM) tt_10 7 (by decide) rfl kw_1150 ⟨rfl, rfl, rfl⟩ ((hM.o gx trivial rfl).1.trans f_x_7) dX10_number_44 ?_
          refine hb_icmp_ge (zx := fw39_x_8.toInt) (zy := tp0.toInt) (tgt := 120) hx hb rfl rfl dX10_number_47 (by decide) (fun c_15 => ?_) (fun c_15 => ?_)
          · skip
            have hn1 : 1 ≤ iv39_5.toInt := by
              rcases (show 0 < iv39_5.toInt ∨ iv39_5.toInt ≤ 0 by omega) with z | z
              · omega
              · have ez : fw39_x_8 = w_6 := Int32.toInt_inj.mp (by omega)
                have hl0 := hcd.1
                exfalso; omega
            refine lv_aload_n hx hb dX10_number_120 rfl (lv_at hl 4 rfl) ?_
            refine lv_iload hx hb dX10_number_121 (lv_at hl 0 rfl) ?_
            refine hx_puti hx hb hts hC_10 hown hW hT (hx_S.rf (M := [(10, 10)])) (gx.S hM) tt_10 10 (by decide) rfl kw_1153 ⟨rfl, rfl, rfl⟩ rfl (x := iv39_6) ⟨by omega, by omega⟩ rfl rfl rfl (List.mem_singleton.mpr rfl) dX10_number_123 (fun H locs h_16 eh_16 hW hT hs => ?_)
            replace ffw39_x_8 := (hs.o (gx.S hM) trivial rfl).1.trans ffw39_x_8
            replace hM := hM.tr (hs.mono (by decide))
            have f_17 : h_16.2.1 x 10 = iv39_6 := by rw [eh_16]; exact hx_pi_at _ _ _ _
            refine lv_iload hx hb dX10_number_126 (lv_at hl 1 rfl) ?_
            refine lv_iconst (v := 4) hx hb dX10_number_128 (by decide) ?_
            refine hb_icmp_gt (zx := iv39_5.toInt) (zy := 4) (tgt := 142) hx hb rfl (by decide) dX10_number_129 (by decide) (fun c_18 => ?_) (fun c_18 => ?_)
            · skip
              refine lv_aload_n hx hb dX10_number_142 rfl (lv_at hl 4 rfl) ?_
              refine lv_iconst (v := 1) hx hb dX10_number_143 (by decide) ?_
              refine lv_iload hx hb dX10_number_144 (lv_at hl 2 rfl) ?_
              have zc_1 : (1 : Int32).toInt = 1 := by decide
              refine hx_goi (hx_runV (As := [.int (1 : Int32), .int w_6]) (rest := []) ⟨hx, hb, hml, hown, hts⟩ hW (gx.S hM) tt_10 (T := TX10) (N := 98) rfl (t_X10_fails l dC dI dA hL1 h_16 H.size x (1 : Int32) w_6 hT (gx.S hM)) (cwV 2 hts (hx_gV kw_1480 kw_1477 kw_1479 kw_56 kw_103) rfl rfl rfl (by decide +kernel) ⟨Nat.le_of_ble_eq_true rfl, Nat.le_of_ble_eq_true rfl⟩) rfl hl.1 rfl (Nat.le_of_ble_eq_true rfl) dX10_number_146 ⟨Nat.le_of_ble_eq_true rfl, Nat.le_of_ble_eq_true rfl⟩) hW (fun r_21 L_19 h_20 H locs p_22 hW => ?_)
              obtain ⟨hr_23, hT, hs⟩ := p_22
              replace hT : hx_T T_tb L_19 h_20 := hT
              replace hs : hx_S T_tb [(10, 9)] hL1 h_16 L_19 h_20 := hs
              replace ffw39_x_8 := (hs.o (gx.S hM) trivial rfl).1.trans ffw39_x_8
              replace f_17 := (hs.o (gx.S hM) trivial rfl).1.trans f_17
              replace hM := hM.tr (hs.mono (by decide))
              refine hb_if_eq (zx := r_21.toInt) (tgt := 156) hx hb rfl dX10_number_149 (by decide) (fun c_24 => ?_) (fun c_24 => by exfalso; omega)
              refine lv_iconst (v := 0) hx hb dX10_number_156 (by decide) ?_
              exact hx_retz hx hb hr rfl hlk hW ⟨⟨fw39_x_8, iv39_6, ffw39_x_8, f_17, (by have zr : (0 : Int32).toInt = 0 := (by decide); omega)⟩, hT, hM⟩ dX10_number_157
            · skip
              refine lv_iload hx hb dX10_number_132 (lv_at hl 0 rfl) ?_
              refine lv_iload_n hx hb dX10_number_134 rfl (lv_at hl 5 rfl) ?_
              refine lv_iload_n hx hb dX10_number_135 rfl (lv_at hl 6 rfl) ?_
              refine hx_goi (hx_runS (As := [.int iv39_6, .int i1, .int i2]) (rest := []) ⟨hx, hb, hml, hown, hts⟩ hW (t_X10_in l dC dI dA hL1 h_16 H.size iv39_6 i1 i2 hT) (va_cwS 3 hts (hx_gS kw_1445 kw_1443 kw_1444 kw_103) rfl rfl rfl (by decide +kernel) ⟨Nat.le_of_ble_eq_true rfl, Nat.le_of_ble_eq_true rfl⟩) rfl hl.1 rfl (Nat.le_of_ble_eq_true rfl) dX10_number_136 ⟨Nat.le_of_ble_eq_true rfl, Nat.le_of_ble_eq_true rfl⟩) hW (fun r_27 L_25 h_26 H locs p_28 hW => ?_)
              obtain ⟨hr_29, hT, hs⟩ := p_28
              replace hT : hx_T T_tb L_25 h_26 := hT
              replace hs : hx_S T_tb [] hL1 h_16 L_25 h_26 := hs
              replace ffw39_x_8 := (hs.o (gx.S hM) trivial rfl).1.trans ffw39_x_8
              replace f_17 := (hs.o (gx.S hM) trivial rfl).1.trans f_17
              replace hM := hM.tr (hs.mono (by decide))
              refine hb_if_ne (zx := r_27.toInt) (tgt := 152) hx hb rfl dX10_number_139 (by decide) (fun c_30 => ?_) (fun c_30 => ?_)
              · skip
                replace hr_29 := hr_29.resolve_left (fun z9 => c_30 z9.1)
                replace c_30 := hr_29.1
                replace hr_29 := hr_29.2
                refine lv_iconst (v := 1) hx hb dX10_number_152 (by decide) ?_
                refine lv_goto (tgt := 157) hx hb dX10_number_153 (by decide) ?_
                exact hx_retz hx hb hr rfl hlk hW ⟨⟨fw39_x_8, iv39_6, ffw39_x_8, f_17, (by have zr : (1 : Int32).toInt = 1 := (by decide); omega)⟩, hT, hM⟩ dX10_number_157
              · skip
                replace hr_29 := hr_29.resolve_right (fun z9 => absurd (c_30.symm.trans z9.1) (by decide))
                replace hr_29 := hr_29.2
                refine lv_aload_n hx hb dX10_number_142 rfl (lv_at hl 4 rfl) ?_
                refine lv_iconst (v := 1) hx hb dX10_number_143 (by decide) ?_
                refine lv_iload hx hb dX10_number_144 (lv_at hl 2 rfl) ?_
                have zc_1 : (1 : Int32).toInt = 1 := by decide
                refine hx_goi (hx_runV (As := [.int (1 : Int32), .int w_6]) (rest := []) ⟨hx, hb, hml, hown, hts⟩ hW (gx.S hM) tt_10 (T := TX10) (N := 98) rfl (t_X10_fails l dC dI dA L_25 h_26 H.size x (1 : Int32) w_6 hT (gx.S hM)) (cwV 2 hts (hx_gV kw_1480 kw_1477 kw_1479 kw_56 kw_103) rfl rfl rfl (by decide +kernel) ⟨Nat.le_of_ble_eq_true rfl, Nat.le_of_ble_eq_true rfl⟩) rfl hl.1 rfl (Nat.le_of_ble_eq_true rfl) dX10_number_146 ⟨Nat.le_of_ble_eq_true rfl, Nat.le_of_ble_eq_true rfl⟩) hW (fun r_33 L_31 h_32 H locs p_34 hW => ?_)
                obtain ⟨hr_35, hT, hs⟩ := p_34
                replace hT : hx_T T_tb L_31 h_32 := hT
                replace hs : hx_S T_tb [(10, 9)] L_25 h_26 L_31 h_32 := hs
                replace ffw39_x_8 := (hs.o (gx.S hM) trivial rfl).1.trans ffw39_x_8
                replace f_17 := (hs.o (gx.S hM) trivial rfl).1.trans f_17
                replace hM := hM.tr (hs.mono (by decide))
                refine hb_if_eq (zx := r_33.toInt) (tgt := 156) hx hb rfl dX10_number_149 (by decide) (fun c_36 => ?_) (fun c_36 => by exfalso; omega)
                refine lv_iconst (v := 0) hx hb dX10_number_156 (by decide) ?_
                exact hx_retz hx hb hr rfl hlk hW ⟨⟨fw39_x_8, iv39_6, ffw39_x_8, f_17, (by have zr : (0 : Int32).toInt = 0 := (by decide); omega)⟩, hT, hM⟩ dX10_number_157
          · skip
            refine lv_aload_n hx hb dX10_number_50 rfl (lv_at hl 4 rfl) ?_
            refine hk_getr hx hb hts hC_10 hown hW (gx.S hM) tt_10 6 (by decide) rfl kw_1149 ⟨rfl, rfl, rfl⟩ ((hM.o gx trivial rfl).2.trans f_x_6) dX10_number_51 ?_
            refine lv_aload_n hx hb dX10_number_54 rfl (lv_at hl 4 rfl) ?_
            refine hk_geti hx hb hts hC_10 hown hW (gx.S hM) tt_10 8 (by decide) rfl kw_1151 ⟨rfl, rfl, rfl⟩ ffw39_x_8 dX10_number_55 ?_
            refine hx_bald hx hb hW hT (gqt.S hM) tt_53 rfl ⟨by omega, by omega⟩ dX10_number_58 (fun x_37 ex_37 lx_37 ux_37 => ?_)
            have ax_37 : x_37 = tf fw39_x_8.toNatClampNeg := ex_37.trans (congrFun (hx_afS hM gqt rfl af_qt) _)
            refine lv_bipush (v := 48) hx hb dX10_number_59 (by decide) ?_
            refine hb_icmp_lt (zx := x_37.toInt) (zy := 48) (tgt := 120) hx hb rfl (by decide) dX10_number_61 (by decide) (fun c_38 => ?_) (fun c_38 => ?_)
            · skip
              have hn1 : 1 ≤ iv39_5.toInt := by
                rcases (show 0 < iv39_5.toInt ∨ iv39_5.toInt ≤ 0 by omega) with z | z
                · omega
                · have ez : fw39_x_8 = w_6 := Int32.toInt_inj.mp (by omega)
                  have hd := hx_dig (x := x_37) (c := r_3) (by omega) (by omega) (by rw [ax_37, ez]; exact hcd.2) (by omega) (by omega)
                  have hl0 := hcd.1
                  exfalso; omega
              refine lv_aload_n hx hb dX10_number_120 rfl (lv_at hl 4 rfl) ?_
              refine lv_iload hx hb dX10_number_121 (lv_at hl 0 rfl) ?_
              refine hx_puti hx hb hts hC_10 hown hW hT (hx_S.rf (M := [(10, 10)])) (gx.S hM) tt_10 10 (by decide) rfl kw_1153 ⟨rfl, rfl, rfl⟩ rfl (x := iv39_6) ⟨by omega, by omega⟩ rfl rfl rfl (List.mem_singleton.mpr rfl) dX10_number_123 (fun H locs h_39 eh_39 hW hT hs => ?_)
              replace ffw39_x_8 := (hs.o (gx.S hM) trivial rfl).1.trans ffw39_x_8
              replace ex_37 := ex_37.trans (hs.a (gqt.S hM) rfl _).1.symm
              replace hM := hM.tr (hs.mono (by decide))
              have f_40 : h_39.2.1 x 10 = iv39_6 := by rw [eh_39]; exact hx_pi_at _ _ _ _
              refine lv_iload hx hb dX10_number_126 (lv_at hl 1 rfl) ?_
              refine lv_iconst (v := 4) hx hb dX10_number_128 (by decide) ?_
              refine hb_icmp_gt (zx := iv39_5.toInt) (zy := 4) (tgt := 142) hx hb rfl (by decide) dX10_number_129 (by decide) (fun c_41 => ?_) (fun c_41 => ?_)
              · skip
                refine lv_aload_n hx hb dX10_number_142 rfl (lv_at hl 4 rfl) ?_
                refine lv_iconst (v := 1) hx hb dX10_number_143 (by decide) ?_
                refine lv_iload hx hb dX10_number_144 (lv_at hl 2 rfl) ?_
                have zc_1 : (1 : Int32).toInt = 1 := by decide
                refine hx_goi (hx_runV (As := [.int (1 : Int32), .int w_6]) (rest := []) ⟨hx, hb, hml, hown, hts⟩ hW (gx.S hM) tt_10 (T := TX10) (N := 98) rfl (t_X10_fails l dC dI dA hL1 h_39 H.size x (1 : Int32) w_6 hT (gx.S hM)) (cwV 2 hts (hx_gV kw_1480 kw_1477 kw_1479 kw_56 kw_103) rfl rfl rfl (by decide +kernel) ⟨Nat.le_of_ble_eq_true rfl, Nat.le_of_ble_eq_true rfl⟩) rfl hl.1 rfl (Nat.le_of_ble_eq_true rfl) dX10_number_146 ⟨Nat.le_of_ble_eq_true rfl, Nat.le_of_ble_eq_true rfl⟩) hW (fun r_44 L_42 h_43 H locs p_45 hW => ?_)
                obtain ⟨hr_46, hT, hs⟩ := p_45
                replace hT : hx_T T_tb L_42 h_43 := hT
                replace hs : hx_S T_tb [(10, 9)] hL1 h_39 L_42 h_43 := hs
                replace ffw39_x_8 := (hs.o (gx.S hM) trivial rfl).1.trans ffw39_x_8
                replace f_40 := (hs.o (gx.S hM) trivial rfl).1.trans f_40
                replace ex_37 := ex_37.trans (hs.a (gqt.S hM) rfl _).1.symm
                replace hM := hM.tr (hs.mono (by decide))
                refine hb_if_eq (zx := r_44.toInt) (tgt := 156) hx hb rfl dX10_number_149 (by decide) (fun c_47 => ?_) (fun c_47 => by exfalso; omega)
                refine lv_iconst (v := 0) hx hb dX10_number_156 (by decide) ?_
                exact hx_retz hx hb hr rfl hlk hW ⟨⟨fw39_x_8, iv39_6, ffw39_x_8, f_40, (by have zr : (0 : Int32).toInt = 0 := (by decide); omega)⟩, hT, hM⟩ dX10_number_157
              · skip
                refine lv_iload hx hb dX10_number_132 (lv_at hl 0 rfl) ?_
                refine lv_iload_n hx hb dX10_number_134 rfl (lv_at hl 5 rfl) ?_
                refine lv_iload_n hx hb dX10_number_135 rfl (lv_at hl 6 rfl) ?_
                refine hx_goi (hx_runS (As := [.int iv39_6, .int i1, .int i2]) (rest := []) ⟨hx, hb, hml, hown, hts⟩ hW (t_X10_in l dC dI dA hL1 h_39 H.size iv39_6 i1 i2 hT) (va_cwS 3 hts (hx_gS kw_1445 kw_1443 kw_1444 kw_103) rfl rfl rfl (by decide +kernel) ⟨Nat.le_of_ble_eq_true rfl, Nat.le_of_ble_eq_true rfl⟩) rfl hl.1 rfl (Nat.le_of_ble_eq_true rfl) dX10_number_136 ⟨Nat.le_of_ble_eq_true rfl, Nat.le_of_ble_eq_true rfl⟩) hW (fun r_50 L_48 h_49 H locs p_51 hW => ?_)
                obtain ⟨hr_52, hT, hs⟩ := p_51
                replace hT : hx_T T_tb L_48 h_49 := hT
                replace hs : hx_S T_tb [] hL1 h_39 L_48 h_49 := hs
                replace ffw39_x_8 := (hs.o (gx.S hM) trivial rfl).1.trans ffw39_x_8
                replace f_40 := (hs.o (gx.S hM) trivial rfl).1.trans f_40
                replace ex_37 := ex_37.trans (hs.a (gqt.S hM) rfl _).1.symm
                replace hM := hM.tr (hs.mono (by decide))
                refine hb_if_ne (zx := r_50.toInt) (tgt := 152) hx hb rfl dX10_number_139 (by decide) (fun c_53 => ?_) (fun c_53 => ?_)
                · skip
                  replace hr_52 := hr_52.resolve_left (fun z9 => c_53 z9.1)
                  replace c_53 := hr_52.1
                  replace hr_52 := hr_52.2
                  refine lv_iconst (v := 1) hx hb dX10_number_152 (by decide) ?_
                  refine lv_goto (tgt := 157) hx hb dX10_number_153 (by decide) ?_
                  exact hx_retz hx hb hr rfl hlk hW ⟨⟨fw39_x_8, iv39_6, ffw39_x_8, f_40, (by have zr : (1 : Int32).toInt = 1 := (by decide); omega)⟩, hT, hM⟩ dX10_number_157
                · skip
                  replace hr_52 := hr_52.resolve_right (fun z9 => absurd (c_53.symm.trans z9.1) (by decide))
                  replace hr_52 := hr_52.2
                  refine lv_aload_n hx hb dX10_number_142 rfl (lv_at hl 4 rfl) ?_
                  refine lv_iconst (v := 1) hx hb dX10_number_143 (by decide) ?_
                  refine lv_iload hx hb dX10_number_144 (lv_at hl 2 rfl) ?_
                  have zc_1 : (1 : Int32).toInt = 1 := by decide
                  refine hx_goi (hx_runV (As := [.int (1 : Int32), .int w_6]) (rest := []) ⟨hx, hb, hml, hown, hts⟩ hW (gx.S hM) tt_10 (T := TX10) (N := 98) rfl (t_X10_fails l dC dI dA L_48 h_49 H.size x (1 : Int32) w_6 hT (gx.S hM)) (cwV 2 hts (hx_gV kw_1480 kw_1477 kw_1479 kw_56 kw_103) rfl rfl rfl (by decide +kernel) ⟨Nat.le_of_ble_eq_true rfl, Nat.le_of_ble_eq_true rfl⟩) rfl hl.1 rfl (Nat.le_of_ble_eq_true rfl) dX10_number_146 ⟨Nat.le_of_ble_eq_true rfl, Nat.le_of_ble_eq_true rfl⟩) hW (fun r_56 L_54 h_55 H locs p_57 hW => ?_)
                  obtain ⟨hr_58, hT, hs⟩ := p_57
                  replace hT : hx_T T_tb L_54 h_55 := hT
                  replace hs : hx_S T_tb [(10, 9)] L_48 h_49 L_54 h_55 := hs
                  replace ffw39_x_8 := (hs.o (gx.S hM) trivial rfl).1.trans ffw39_x_8
                  replace f_40 := (hs.o (gx.S hM) trivial rfl).1.trans f_40
                  replace ex_37 := ex_37.trans (hs.a (gqt.S hM) rfl _).1.symm
                  replace hM := hM.tr (hs.mono (by decide))
                  refine hb_if_eq (zx := r_56.toInt) (tgt := 156) hx hb rfl dX10_number_149 (by decide) (fun c_59 => ?_) (fun c_59 => by exfalso; omega)
                  refine lv_iconst (v := 0) hx hb dX10_number_156 (by decide) ?_
                  exact hx_retz hx hb hr rfl hlk hW ⟨⟨fw39_x_8, iv39_6, ffw39_x_8, f_40, (by have zr : (0 : Int32).toInt = 0 := (by decide); omega)⟩, hT, hM⟩ dX10_number_157
            · skip
              refine lv_aload_n hx hb dX10_number_64 rfl (lv_at hl 4 rfl) ?_
              refine hk_getr hx hb hts hC_10 hown hW (gx.S hM) tt_10 6 (by decide) rfl kw_1149 ⟨rfl, rfl, rfl⟩ ((hM.o gx trivial rfl).2.trans f_x_6) dX10_number_65 ?_
              refine lv_aload_n hx hb dX10_number_68 rfl (lv_at hl 4 rfl) ?_
              refine hk_geti hx hb hts hC_10 hown hW (gx.S hM) tt_10 8 (by decide) rfl kw_1151 ⟨rfl, rfl, rfl⟩ ffw39_x_8 dX10_number_69 ?_
              refine hx_bald hx hb hW hT (gqt.S hM) tt_53 rfl ⟨by omega, by omega⟩ dX10_number_72 (fun x_60 ex_60 lx_60 ux_60 => ?_)
              have ax_60 : x_60 = tf fw39_x_8.toNatClampNeg := ex_60.trans (congrFun (hx_afS hM gqt rfl af_qt) _)
              obtain rfl : x_37 = x_60 := ex_37.trans ex_60.symm
              refine lv_bipush (v := 57) hx hb dX10_number_73 (by decide) ?_
              refine hb_icmp_gt (zx := x_37.toInt) (zy := 57) (tgt := 120) hx hb rfl (by decide) dX10_number_75 (by decide) (fun c_61 => ?_) (fun c_61 => ?_)
              · skip
                have hn1 : 1 ≤ iv39_5.toInt := by
                  rcases (show 0 < iv39_5.toInt ∨ iv39_5.toInt ≤ 0 by omega) with z | z
                  · omega
                  · have ez : fw39_x_8 = w_6 := Int32.toInt_inj.mp (by omega)
                    have hd := hx_dig (x := x_37) (c := r_3) (by omega) (by omega) (by rw [ax_37, ez]; exact hcd.2) (by omega) (by omega)
                    have hl0 := hcd.1
                    exfalso; omega
                refine lv_aload_n hx hb dX10_number_120 rfl (lv_at hl 4 rfl) ?_
                refine lv_iload hx hb dX10_number_121 (lv_at hl 0 rfl) ?_
                refine hx_puti hx hb hts hC_10 hown hW hT (hx_S.rf (M := [(10, 10)])) (gx.S hM) tt_10 10 (by decide) rfl kw_1153 ⟨rfl, rfl, rfl⟩ rfl (x := iv39_6) ⟨by omega, by omega⟩ rfl rfl rfl (List.mem_singleton.mpr rfl) dX10_number_123 (fun H locs h_62 eh_62 hW hT hs => ?_)
                replace ffw39_x_8 := (hs.o (gx.S hM) trivial rfl).1.trans ffw39_x_8
                replace ex_37 := ex_37.trans (hs.a (gqt.S hM) rfl _).1.symm
                replace hM := hM.tr (hs.mono (by decide))
                have f_63 : h_62.2.1 x 10 = iv39_6 := by rw [eh_62]; exact hx_pi_at _ _ _ _
                refine lv_iload hx hb dX10_number_126 (lv_at hl 1 rfl) ?_
                refine lv_iconst (v := 4) hx hb dX10_number_128 (by decide) ?_
                refine hb_icmp_gt (zx := iv39_5.toInt) (zy := 4) (tgt := 142) hx hb rfl (by decide) dX10_number_129 (by decide) (fun c_64 => ?_) (fun c_64 => ?_)
                · skip
                  refine lv_aload_n hx hb dX10_number_142 rfl (lv_at hl 4 rfl) ?_
                  refine lv_iconst (v := 1) hx hb dX10_number_143 (by decide) ?_
                  refine lv_iload hx hb dX10_number_144 (lv_at hl 2 rfl) ?_
                  have zc_1 : (1 : Int32).toInt = 1 := by decide
                  refine hx_goi (hx_runV (As := [.int (1 : Int32), .int w_6]) (rest := []) ⟨hx, hb, hml, hown, hts⟩ hW (gx.S hM) tt_10 (T := TX10) (N := 98) rfl (t_X10_fails l dC dI dA hL1 h_62 H.size x (1 : Int32) w_6 hT (gx.S hM)) (cwV 2 hts (hx_gV kw_1480 kw_1477 kw_1479 kw_56 kw_103) rfl rfl rfl (by decide +kernel) ⟨Nat.le_of_ble_eq_true rfl, Nat.le_of_ble_eq_true rfl⟩) rfl hl.1 rfl (Nat.le_of_ble_eq_true rfl) dX10_number_146 ⟨Nat.le_of_ble_eq_true rfl, Nat.le_of_ble_eq_true rfl⟩) hW (fun r_67 L_65 h_66 H locs p_68 hW => ?_)
                  obtain ⟨hr_69, hT, hs⟩ := p_68
                  replace hT : hx_T T_tb L_65 h_66 := hT
                  replace hs : hx_S T_tb [(10, 9)] hL1 h_62 L_65 h_66 := hs
                  replace ffw39_x_8 := (hs.o (gx.S hM) trivial rfl).1.trans ffw39_x_8
                  replace f_63 := (hs.o (gx.S hM) trivial rfl).1.trans f_63
                  replace ex_37 := ex_37.trans (hs.a (gqt.S hM) rfl _).1.symm
                  replace hM := hM.tr (hs.mono (by decide))
                  refine hb_if_eq (zx := r_67.toInt) (tgt := 156) hx hb rfl dX10_number_149 (by decide) (fun c_70 => ?_) (fun c_70 => by exfalso; omega)
                  refine lv_iconst (v := 0) hx hb dX10_number_156 (by decide) ?_
                  exact hx_retz hx hb hr rfl hlk hW ⟨⟨fw39_x_8, iv39_6, ffw39_x_8, f_63, (by have zr : (0 : Int32).toInt = 0 := (by decide); omega)⟩, hT, hM⟩ dX10_number_157
                · skip
                  refine lv_iload hx hb dX10_number_132 (lv_at hl 0 rfl) ?_
                  refine lv_iload_n hx hb dX10_number_134 rfl (lv_at hl 5 rfl) ?_
                  refine lv_iload_n hx hb dX10_number_135 rfl (lv_at hl 6 rfl) ?_
                  refine hx_goi (hx_runS (As := [.int iv39_6, .int i1, .int i2]) (rest := []) ⟨hx, hb, hml, hown, hts⟩ hW (t_X10_in l dC dI dA hL1 h_62 H.size iv39_6 i1 i2 hT) (va_cwS 3 hts (hx_gS kw_1445 kw_1443 kw_1444 kw_103) rfl rfl rfl (by decide +kernel) ⟨Nat.le_of_ble_eq_true rfl, Nat.le_of_ble_eq_true rfl⟩) rfl hl.1 rfl (Nat.le_of_ble_eq_true rfl) dX10_number_136 ⟨Nat.le_of_ble_eq_true rfl, Nat.le_of_ble_eq_true rfl⟩) hW (fun r_73 L_71 h_72 H locs p_74 hW => ?_)
                  obtain ⟨hr_75, hT, hs⟩ := p_74
                  replace hT : hx_T T_tb L_71 h_72 := hT
                  replace hs : hx_S T_tb [] hL1 h_62 L_71 h_72 := hs
                  replace ffw39_x_8 := (hs.o (gx.S hM) trivial rfl).1.trans ffw39_x_8
                  replace f_63 := (hs.o (gx.S hM) trivial rfl).1.trans f_63
                  replace ex_37 := ex_37.trans (hs.a (gqt.S hM) rfl _).1.symm
                  replace hM := hM.tr (hs.mono (by decide))
                  refine hb_if_ne (zx := r_73.toInt) (tgt := 152) hx hb rfl dX10_number_139 (by decide) (fun c_76 => ?_) (fun c_76 => ?_)
                  · skip
                    replace hr_75 := hr_75.resolve_left (fun z9 => c_76 z9.1)
                    replace c_76 := hr_75.1
                    replace hr_75 := hr_75.2
                    refine lv_iconst (v := 1) hx hb dX10_number_152 (by decide) ?_
                    refine lv_goto (tgt := 157) hx hb dX10_number_153 (by decide) ?_
                    exact hx_retz hx hb hr rfl hlk hW ⟨⟨fw39_x_8, iv39_6, ffw39_x_8, f_63, (by have zr : (1 : Int32).toInt = 1 := (by decide); omega)⟩, hT, hM⟩ dX10_number_157
                  · skip
                    replace hr_75 := hr_75.resolve_right (fun z9 => absurd (c_76.symm.trans z9.1) (by decide))
                    replace hr_75 := hr_75.2
                    refine lv_aload_n hx hb dX10_number_142 rfl (lv_at hl 4 rfl) ?_
                    refine lv_iconst (v := 1) hx hb dX10_number_143 (by decide) ?_
                    refine lv_iload hx hb dX10_number_144 (lv_at hl 2 rfl) ?_
                    have zc_1 : (1 : Int32).toInt = 1 := by decide
                    refine hx_goi (hx_runV (As := [.int (1 : Int32), .int w_6]) (rest := []) ⟨hx, hb, hml, hown, hts⟩ hW (gx.S hM) tt_10 (T := TX10) (N := 98) rfl (t_X10_fails l dC dI dA L_71 h_72 H.size x (1 : Int32) w_6 hT (gx.S hM)) (cwV 2 hts (hx_gV kw_1480 kw_1477 kw_1479 kw_56 kw_103) rfl rfl rfl (by decide +kernel) ⟨Nat.le_of_ble_eq_true rfl, Nat.le_of_ble_eq_true rfl⟩) rfl hl.1 rfl (Nat.le_of_ble_eq_true rfl) dX10_number_146 ⟨Nat.le_of_ble_eq_true rfl, Nat.le_of_ble_eq_true rfl⟩) hW (fun r_79 L_77 h_78 H locs p_80 hW => ?_)
                    obtain ⟨hr_81, hT, hs⟩ := p_80
                    replace hT : hx_T T_tb L_77 h_78 := hT
                    replace hs : hx_S T_tb [(10, 9)] L_71 h_72 L_77 h_78 := hs
                    replace ffw39_x_8 := (hs.o (gx.S hM) trivial rfl).1.trans ffw39_x_8
                    replace f_63 := (hs.o (gx.S hM) trivial rfl).1.trans f_63
                    replace ex_37 := ex_37.trans (hs.a (gqt.S hM) rfl _).1.symm
                    replace hM := hM.tr (hs.mono (by decide))
                    refine hb_if_eq (zx := r_79.toInt) (tgt := 156) hx hb rfl dX10_number_149 (by decide) (fun c_82 => ?_) (fun c_82 => by exfalso; omega)
                    refine lv_iconst (v := 0) hx hb dX10_number_156 (by decide) ?_
                    exact hx_retz hx hb hr rfl hlk hW ⟨⟨fw39_x_8, iv39_6, ffw39_x_8, f_63, (by have zr : (0 : Int32).toInt = 0 := (by decide); omega)⟩, hT, hM⟩ dX10_number_157
              · skip
                refine lv_iload hx hb dX10_number_78 (lv_at hl 1 rfl) ?_
                refine lv_iconst (v := 4) hx hb dX10_number_80 (by decide) ?_
                refine hb_icmp_ge (zx := iv39_5.toInt) (zy := 4) (tgt := 104) hx hb rfl (by decide) dX10_number_81 (by decide) (fun c_83 => ?_) (fun c_83 => ?_)
                · skip
                  obtain ⟨x_84, ex_84⟩ : ∃ y : Int32, y = iv39_5 + Int32.ofInt 1 := ⟨_, rfl⟩
                  have rg_85 := i32_r iv39_5
                  have zx_84 : x_84.toInt = iv39_5.toInt + (1) := by rw [ex_84]; exact i32_add rfl (by decide) (by omega) (by omega)
                  refine lv_iinc (v := x_84) (lv' := [(5, .int x_84), (6, .int iv39_6), (4, .int w_6), (3, .int r_3), (0, .ref x), (1, .int i1), (2, .int i2)]) hx hb dX10_number_104 hl (k := 1) rfl ex_84.symm (by decide) rfl (fun ls hl => ?_)
                  refine lv_aload_n hx hb dX10_number_107 rfl (lv_at hl 4 rfl) ?_
                  refine lv_dup hx hb dX10_number_108 rfl ?_
                  refine hk_geti hx hb hts hC_10 hown hW (gx.S hM) tt_10 8 (by decide) rfl kw_1151 ⟨rfl, rfl, rfl⟩ ffw39_x_8 dX10_number_109 ?_
                  refine lv_iconst (v := 1) hx hb dX10_number_112 (by decide) ?_
                  refine lv_iadd hx hb dX10_number_113 ?_
                  have rg_86 := i32_r fw39_x_8
                  refine lv_topi (fun x_87 ex_87 => ?_)
                  have zx_87 : x_87.toInt = fw39_x_8.toInt + 1 := by rw [ex_87]; exact i32_add rfl (by decide) (by omega) (by omega)
                  refine hx_puti hx hb hts hC_10 hown hW hT (hx_S.rf (M := [(10, 8)])) (gx.S hM) tt_10 8 (by decide) rfl kw_1151 ⟨rfl, rfl, rfl⟩ rfl (x := x_87) ⟨by omega, by omega⟩ rfl rfl rfl (List.mem_singleton.mpr rfl) dX10_number_114 (fun H locs h_88 eh_88 hW hT hs => ?_)
                  replace ex_37 := ex_37.trans (hs.a (gqt.S hM) rfl _).1.symm
                  replace hM := hM.tr (hs.mono (by decide))
                  have f_89 : h_88.2.1 x 8 = x_87 := by rw [eh_88]; exact hx_pi_at _ _ _ _
                  refine lv_goto (tgt := 39) hx hb dX10_number_117 (by decide) ?_
                  exact ih39 x_84 iv39_6 x_87 _ _ hL1 h_88 (by omega) (by omega) (by omega) (by omega) (by omega) (by omega) (by omega) (by omega) (by omega) ls (by omega) hW hT hM f_89  (lv_sub hl [1, 0, 2, 3, 4, 5, 6] rfl)
                · skip
                  refine lv_bipush (v := 10) hx hb dX10_number_84 (by decide) ?_
                  refine lv_iload hx hb dX10_number_86 (lv_at hl 0 rfl) ?_
                  refine lv_imul hx hb dX10_number_88 ?_
                  refine lv_topi (fun x_90 ex_90 => ?_)
                  have zx_90 : x_90.toInt = 10 * iv39_6.toInt := by rw [ex_90]; exact i32_mul (by decide) rfl rfl (by omega) (by omega)
                  refine lv_aload_n hx hb dX10_number_89 rfl (lv_at hl 4 rfl) ?_
                  refine hk_getr hx hb hts hC_10 hown hW (gx.S hM) tt_10 6 (by decide) rfl kw_1149 ⟨rfl, rfl, rfl⟩ ((hM.o gx trivial rfl).2.trans f_x_6) dX10_number_90 ?_
                  refine lv_aload_n hx hb dX10_number_93 rfl (lv_at hl 4 rfl) ?_
                  refine hk_geti hx hb hts hC_10 hown hW (gx.S hM) tt_10 8 (by decide) rfl kw_1151 ⟨rfl, rfl, rfl⟩ ffw39_x_8 dX10_number_94 ?_
                  refine hx_bald hx hb hW hT (gqt.S hM) tt_53 rfl ⟨by omega, by omega⟩ dX10_number_97 (fun x_91 ex_91 lx_91 ux_91 => ?_)
                  have ax_91 : x_91 = tf fw39_x_8.toNatClampNeg := ex_91.trans (congrFun (hx_afS hM gqt rfl af_qt) _)
                  obtain rfl : x_37 = x_91 := ex_37.trans ex_91.symm
                  refine lv_iadd hx hb dX10_number_98 ?_
                  have rg_92 := i32_r x_90
                  have rg_93 := i32_r x_37
                  refine lv_topi (fun x_94 ex_94 => ?_)
                  have zx_94 : x_94.toInt = x_90.toInt + x_37.toInt := by rw [ex_94]; exact i32_add rfl rfl (by omega) (by omega)
                  refine lv_bipush (v := 48) hx hb dX10_number_99 (by decide) ?_
                  refine lv_isub hx hb dX10_number_101 ?_
                  have rg_95 := i32_r x_94
                  refine lv_topi (fun x_96 ex_96 => ?_)
                  have zx_96 : x_96.toInt = x_94.toInt - 48 := by rw [ex_96]; exact i32_sub rfl (by decide) (by omega) (by omega)
                  refine lv_istore (lv' := [(6, .int x_96), (5, .int iv39_5), (4, .int w_6), (3, .int r_3), (0, .ref x), (1, .int i1), (2, .int i2)]) hx hb dX10_number_102 hl (by decide) rfl (fun ls hl => ?_)
                  obtain ⟨x_97, ex_97⟩ : ∃ y : Int32, y = iv39_5 + Int32.ofInt 1 := ⟨_, rfl⟩
                  have rg_98 := i32_r iv39_5
                  have zx_97 : x_97.toInt = iv39_5.toInt + (1) := by rw [ex_97]; exact i32_add rfl (by decide) (by omega) (by omega)
                  refine lv_iinc (v := x_97) (lv' := [(5, .int x_97), (6, .int x_96), (4, .int w_6), (3, .int r_3), (0, .ref x), (1, .int i1), (2, .int i2)]) hx hb dX10_number_104 hl (k := 1) rfl ex_97.symm (by decide) rfl (fun ls hl => ?_)
                  refine lv_aload_n hx hb dX10_number_107 rfl (lv_at hl 4 rfl) ?_
                  refine lv_dup hx hb dX10_number_108 rfl ?_
                  refine hk_geti hx hb hts hC_10 hown hW (gx.S hM) tt_10 8 (by decide) rfl kw_1151 ⟨rfl, rfl, rfl⟩ ffw39_x_8 dX10_number_109 ?_
                  refine lv_iconst (v := 1) hx hb dX10_number_112 (by decide) ?_
                  refine lv_iadd hx hb dX10_number_113 ?_
                  have rg_99 := i32_r fw39_x_8
                  refine lv_topi (fun x_100 ex_100 => ?_)
                  have zx_100 : x_100.toInt = fw39_x_8.toInt + 1 := by rw [ex_100]; exact i32_add rfl (by decide) (by omega) (by omega)
                  refine hx_puti hx hb hts hC_10 hown hW hT (hx_S.rf (M := [(10, 8)])) (gx.S hM) tt_10 8 (by decide) rfl kw_1151 ⟨rfl, rfl, rfl⟩ rfl (x := x_100) ⟨by omega, by omega⟩ rfl rfl rfl (List.mem_singleton.mpr rfl) dX10_number_114 (fun H locs h_101 eh_101 hW hT hs => ?_)
                  replace ex_37 := ex_37.trans (hs.a (gqt.S hM) rfl _).1.symm
                  replace hM := hM.tr (hs.mono (by decide))
                  have f_102 : h_101.2.1 x 8 = x_100 := by rw [eh_101]; exact hx_pi_at _ _ _ _
                  refine lv_goto (tgt := 39) hx hb dX10_number_117 (by decide) ?_
                  exact ih39 x_97 x_96 x_100 _ _ hL1 h_101 (by omega) (by omega) (by omega) (by omega) (by omega) (by omega) (by omega) (by omega) (by omega) ls (by omega) hW hT hM f_102  (lv_sub hl [1, 0, 2, 3, 4, 5, 6] rfl)
      have zk_0 : (0 : Int32).toInt = 0 := by decide
      have zk_0 : (0 : Int32).toInt = 0 := by decide
      exact loop39 403 (0 : Int32) (0 : Int32) w_6 _ _ L_1 h_2 (by decide) (by decide) (by decide) (by decide) (by omega) (by omega) (by omega) (by omega) (by omega) ls (by omega) hW hT hM fw_6  hl
    · skip
      refine lv_aload_n hx hb dX10_number_17 rfl (lv_at hl 1 rfl) ?_
      refine lv_iconst (v := 0) hx hb dX10_number_18 (by decide) ?_
      refine lv_aload_n hx hb dX10_number_19 rfl (lv_at hl 1 rfl) ?_
      refine hk_geti hx hb hts hC_10 hown hW (gx.S hM) tt_10 8 (by decide) rfl kw_1151 ⟨rfl, rfl, rfl⟩ fw_6 dX10_number_20 ?_
      have zc_0 : (0 : Int32).toInt = 0 := by decide
      refine hx_goi (hx_runV (As := [.int (0 : Int32), .int w_6]) (rest := []) ⟨hx, hb, hml, hown, hts⟩ hW (gx.S hM) tt_10 (T := TX10) (N := 98) rfl (t_X10_fails l dC dI dA L_1 h_2 H.size x (0 : Int32) w_6 hT (gx.S hM)) (cwV 2 hts (hx_gV kw_1480 kw_1477 kw_1479 kw_56 kw_103) rfl rfl rfl (by decide +kernel) ⟨Nat.le_of_ble_eq_true rfl, Nat.le_of_ble_eq_true rfl⟩) rfl hl.1 rfl (Nat.le_of_ble_eq_true rfl) dX10_number_23 ⟨Nat.le_of_ble_eq_true rfl, Nat.le_of_ble_eq_true rfl⟩) hW (fun r_105 L_103 h_104 H locs p_106 hW => ?_)
      obtain ⟨hr_107, hT, hs⟩ := p_106
      replace hT : hx_T T_tb L_103 h_104 := hT
      replace hs : hx_S T_tb [(10, 9)] L_1 h_2 L_103 h_104 := hs
      replace fw_6 := (hs.o (gx.S hM) trivial rfl).1.trans fw_6
      replace hM := hM.tr (hs.mono (by decide))
      obtain ⟨fv_108, efv_108⟩ : ∃ y : Int32, y = h_104.2.1 x 10 := ⟨_, rfl⟩
      have bfv_108 := hT.gi (gx.S hM) tt_10 (k := 10) rfl
      rw [← efv_108] at bfv_108
      have bfv_108 : 0 ≤ fv_108.toInt ∧ fv_108.toInt ≤ 9999 := bfv_108
      have ffv_108 := efv_108.symm
      exact hx_retz hx hb hr (hx_nar01 (by omega)) hlk hW ⟨⟨w_6, fv_108, fw_6, ffv_108, (by omega)⟩, hT, hM⟩ dX10_number_26

theorem dX10_compareOf_0 : decode cX10_compareOf 0 = .ok (.ldc_w 268, 3) := by decide +kernel
theorem dX10_compareOf_3 : decode cX10_compareOf 3 = .ok (.iconst 1, 1) := by decide +kernel
theorem dX10_compareOf_4 : decode cX10_compareOf 4 = .ok (.iload_n 0, 1) := by decide +kernel
theorem dX10_compareOf_5 : decode cX10_compareOf 5 = .ok (.iadd, 1) := by decide +kernel
theorem dX10_compareOf_6 : decode cX10_compareOf 6 = .ok (.imul, 1) := by decide +kernel
theorem dX10_compareOf_7 : decode cX10_compareOf 7 = .ok (.ldc_w 269, 3) := by decide +kernel
theorem dX10_compareOf_10 : decode cX10_compareOf 10 = .ok (.iload_n 1, 1) := by decide +kernel
theorem dX10_compareOf_11 : decode cX10_compareOf 11 = .ok (.imul, 1) := by decide +kernel
theorem dX10_compareOf_12 : decode cX10_compareOf 12 = .ok (.iadd, 1) := by decide +kernel
theorem dX10_compareOf_13 : decode cX10_compareOf 13 = .ok (.iload_n 2, 1) := by decide +kernel
theorem dX10_compareOf_14 : decode cX10_compareOf 14 = .ok (.iadd, 1) := by decide +kernel
theorem dX10_compareOf_15 : decode cX10_compareOf 15 = .ok (.ireturn, 1) := by decide +kernel
set_option maxHeartbeats 4000000 in
set_option maxRecDepth 100000 in
theorem t_X10_compareOf (l : Launch) (dC : Nat → ClassId) (dI : Nat → Nat → Nat) (dA : Nat → ClassId) (L : List Nat) (h : hx_h) (sz : Nat) (i1 : Int32) (i2 : Int32) (i3 : Int32) (hT : hx_T T_tb L h)  (hi1 : 0 ≤ i1.toInt ∧ i1.toInt ≤ 7) (hi2 : 0 ≤ i2.toInt ∧ i2.toInt ≤ 4) (hi3 : 0 ≤ i3.toInt ∧ i3.toInt ≤ 10007) : Met l yX10_compareOf (Cond.code yX10_compareOf cX10_compareOf 3 (some .int) :: hx_all) ({ frames := 0, cells := 0, slots := 0, locals := 0 }) (va_Pc [.int i1, .int i2, .int i3] (hx_B T_tb (P_ty dA) (dC, dI) vwCl L h sz)) (va_Qi (fun (r : Int32) (u : List Nat × hx_h) => (hx_okc r.toInt = true) ∧ hx_T T_tb u.1 u.2 ∧ hx_S T_tb [] L h u.1 u.2) (hx_E T_tb (P_ty dA) (dC, dI) vwCl (hx_A L sz)) (hx_A L sz)) 0 0 (hx_A L sz) := by
  refine hx_met (lv := [(0, .int i1), (1, .int i2), (2, .int i3)]) (by decide +kernel) rfl (Nat.le_of_ble_eq_true rfl) rfl ?_
  intro p e s m below meth c hx hb hml hr hlk hts0 hown hin hsz hW ls hl
  have hts : ∀ w ∈ hx_all, w.before _ s = true := fun w hw => hts0 w (List.mem_cons_of_mem _ hw)
  have hown : s.vm.findClass "SmallCourtModel" = some m.cls := hown
  have hM : hx_S T_tb [] L h L h := hx_S.rf
  refine lv_ldcw (v := 1000000) hx hb hown (hts _ kw_1133) dX10_compareOf_0 ?_
  refine lv_iconst (v := 1) hx hb dX10_compareOf_3 (by decide) ?_
  refine lv_iload_n hx hb dX10_compareOf_4 rfl (lv_at hl 0 rfl) ?_
  refine lv_iadd hx hb dX10_compareOf_5 ?_
  have rg_1 := i32_r i1
  refine lv_topi (fun x_2 ex_2 => ?_)
  have zx_2 : x_2.toInt = 1 + i1.toInt := by rw [ex_2]; exact i32_add (by decide) rfl (by omega) (by omega)
  refine lv_imul hx hb dX10_compareOf_6 ?_
  refine lv_topi (fun x_3 ex_3 => ?_)
  have zx_3 : x_3.toInt = 1000000 * x_2.toInt := by rw [ex_3]; exact i32_mul (by decide) rfl rfl (by omega) (by omega)
  refine lv_ldcw (v := 100000) hx hb hown (hts _ kw_1134) dX10_compareOf_7 ?_
  refine lv_iload_n hx hb dX10_compareOf_10 rfl (lv_at hl 1 rfl) ?_
  refine lv_imul hx hb dX10_compareOf_11 ?_
  refine lv_topi (fun x_4 ex_4 => ?_)
  have zx_4 : x_4.toInt = 100000 * i2.toInt := by rw [ex_4]; exact i32_mul (by decide) rfl rfl (by omega) (by omega)
  refine lv_iadd hx hb dX10_compareOf_12 ?_
  have rg_5 := i32_r x_3
  have rg_6 := i32_r x_4
  refine lv_topi (fun x_7 ex_7 => ?_)
  have zx_7 : x_7.toInt = x_3.toInt + x_4.toInt := by rw [ex_7]; exact i32_add rfl rfl (by omega) (by omega)
  refine lv_iload_n hx hb dX10_compareOf_13 rfl (lv_at hl 2 rfl) ?_
  refine lv_iadd hx hb dX10_compareOf_14 ?_
  have rg_8 := i32_r x_7
  have rg_9 := i32_r i3
  refine lv_topi (fun x_10 ex_10 => ?_)
  have zx_10 : x_10.toInt = x_7.toInt + i3.toInt := by rw [ex_10]; exact i32_add rfl rfl (by omega) (by omega)
  exact hx_reti hx hb hr hlk hW ⟨(hx_okc_i (by omega) (by omega) (by omega)), hT, hM⟩ dX10_compareOf_15

theorem dX10_writes_0 : decode cX10_writes 0 = .ok (.aload_n 0, 1) := by decide +kernel
theorem dX10_writes_1 : decode cX10_writes 1 = .ok (.getfield 29, 3) := by decide +kernel
theorem dX10_writes_4 : decode cX10_writes 4 = .ok (.aload_n 0, 1) := by decide +kernel
theorem dX10_writes_5 : decode cX10_writes 5 = .ok (.getfield 262, 3) := by decide +kernel
theorem dX10_writes_8 : decode cX10_writes 8 = .ok (.iload_n 1, 1) := by decide +kernel
theorem dX10_writes_9 : decode cX10_writes 9 = .ok (.iastore, 1) := by decide +kernel
theorem dX10_writes_10 : decode cX10_writes 10 = .ok (.aload_n 0, 1) := by decide +kernel
theorem dX10_writes_11 : decode cX10_writes 11 = .ok (.dup, 1) := by decide +kernel
theorem dX10_writes_12 : decode cX10_writes 12 = .ok (.getfield 262, 3) := by decide +kernel
theorem dX10_writes_15 : decode cX10_writes 15 = .ok (.iconst 1, 1) := by decide +kernel
theorem dX10_writes_16 : decode cX10_writes 16 = .ok (.iadd, 1) := by decide +kernel
theorem dX10_writes_17 : decode cX10_writes 17 = .ok (.putfield 262, 3) := by decide +kernel
theorem dX10_writes_20 : decode cX10_writes 20 = .ok (.return_, 1) := by decide +kernel
set_option maxHeartbeats 4000000 in
set_option maxRecDepth 100000 in
theorem t_X10_writes (l : Launch) (dC : Nat → ClassId) (dI : Nat → Nat → Nat) (dA : Nat → ClassId) (L : List Nat) (h : hx_h) (sz : Nat) (x : Nat) (i1 : Int32) (hT : hx_T T_tb L h) (gx : hx_g L h x 10) (qs : Nat) (gqs : hx_g L h qs 55) (f_x_15 : h.2.2 x 15 = some qs) (sf : Nat → Int32) (af_qs : h.2.1 qs = sf) (st0 : Int32) (f_x_14 : h.2.1 x 14 = st0) (hst : st0.toInt ≤ 127) : Met l yX10_writes (Cond.code yX10_writes cX10_writes 2 none :: hx_all) ({ frames := 0, cells := 0, slots := 0, locals := 0 }) (va_Pc [.ref x, .int i1] (hx_B T_tb (P_ty dA) (dC, dI) vwCl L h sz)) (va_Qv (fun (u : List Nat × hx_h) => (∃ (st1 : Int32) (sf1 : Nat → Int32), u.2.2.1 x 14 = st1 ∧ u.2.2.1 qs = sf1 ∧ (st1.toInt = st0.toInt + 1 ∧ sf1 = hx_up sf st0.toNatClampNeg i1)) ∧ hx_T T_tb u.1 u.2 ∧ hx_S T_tb [(10, 14), (55, 0)] L h u.1 u.2) (hx_E T_tb (P_ty dA) (dC, dI) vwCl (hx_A L sz)) (hx_A L sz)) 0 0 (hx_A L sz) := by
  refine hx_met (lv := [(0, .ref x), (1, .int i1)]) (by decide +kernel) rfl (Nat.le_of_ble_eq_true rfl) rfl ?_
  intro p e s m below meth c hx hb hml hr hlk hts0 hown hin hsz hW ls hl
  have hts : ∀ w ∈ hx_all, w.before _ s = true := fun w hw => hts0 w (List.mem_cons_of_mem _ hw)
  have hown : s.vm.findClass "SmallCourtModel" = some m.cls := hown
  have hM : hx_S T_tb [(10, 14), (55, 0)] L h L h := hx_S.rf
  have b_st0 := hT.gi gx tt_10 (k := 14) rfl
  rw [f_x_14] at b_st0
  have b_st0 : 0 ≤ st0.toInt ∧ st0.toInt ≤ 128 := b_st0
  refine lv_aload_n hx hb dX10_writes_0 rfl (lv_at hl 0 rfl) ?_
  refine hk_getr hx hb hts hC_10 hown hW (gx.S hM) tt_10 15 (by decide) rfl kw_1158 ⟨rfl, rfl, rfl⟩ ((hM.o gx trivial rfl).2.trans f_x_15) dX10_writes_1 ?_
  refine lv_aload_n hx hb dX10_writes_4 rfl (lv_at hl 0 rfl) ?_
  refine hk_geti hx hb hts hC_10 hown hW (gx.S hM) tt_10 14 (by decide) rfl kw_1157 ⟨rfl, rfl, rfl⟩ f_x_14 dX10_writes_5 ?_
  refine lv_iload_n hx hb dX10_writes_8 rfl (lv_at hl 1 rfl) ?_
  have af_qsO := af_qs
  refine hx_iast hx hb hW hT (hx_S.rf (M := [(55, 0)])) (gqs.S hM) tt_55 rfl ⟨by omega, by omega⟩ rfl (i32_r _) (List.mem_singleton.mpr rfl) dX10_writes_9 (fun H locs h_1 eh_1 hW hT hs => ?_)
  replace f_x_14 := (hs.o (gx.S hM) trivial rfl).1.trans f_x_14
  replace hM := hM.tr (hs.mono (by decide))
  obtain ⟨fa_2, dfa_2⟩ : ∃ g : Nat → Int32, g = hx_up sf st0.toNatClampNeg i1 := ⟨_, rfl⟩
  have nfa_2 : h_1.2.1 qs = fa_2 := by rw [eh_1, dfa_2, ← af_qsO]; exact hx_pi_fun _ _ _ _
  refine lv_aload_n hx hb dX10_writes_10 rfl (lv_at hl 0 rfl) ?_
  refine lv_dup hx hb dX10_writes_11 rfl ?_
  refine hk_geti hx hb hts hC_10 hown hW (gx.S hM) tt_10 14 (by decide) rfl kw_1157 ⟨rfl, rfl, rfl⟩ f_x_14 dX10_writes_12 ?_
  refine lv_iconst (v := 1) hx hb dX10_writes_15 (by decide) ?_
  refine lv_iadd hx hb dX10_writes_16 ?_
  have rg_3 := i32_r st0
  refine lv_topi (fun x_4 ex_4 => ?_)
  have zx_4 : x_4.toInt = st0.toInt + 1 := by rw [ex_4]; exact i32_add rfl (by decide) (by omega) (by omega)
  refine hx_puti hx hb hts hC_10 hown hW hT (hx_S.rf (M := [(10, 14)])) (gx.S hM) tt_10 14 (by decide) rfl kw_1157 ⟨rfl, rfl, rfl⟩ rfl (x := x_4) ⟨by omega, by omega⟩ rfl rfl rfl (List.mem_singleton.mpr rfl) dX10_writes_17 (fun H locs h_5 eh_5 hW hT hs => ?_)
  replace nfa_2 : h_5.2.1 qs = fa_2 := (funext fun j => (hs.a (gqs.S hM) rfl j).1).trans nfa_2
  replace hM := hM.tr (hs.mono (by decide))
  have f_6 : h_5.2.1 x 14 = x_4 := by rw [eh_5]; exact hx_pi_at _ _ _ _
  exact hx_retv hx hb hr hlk hW ⟨⟨x_4, fa_2, f_6, nfa_2, ⟨by omega, dfa_2⟩⟩, hT, hM⟩ dX10_writes_20
