def wLX9_ringNeeds_0 : List Nat := [3, 60, 3, 61, 28, 42, 180, 0, 79, 180, 1, 105, 162, 0, 84, 42, 180, 0, 79, 180, 1, 108, 62, 3, 54, 4, 21, 4, 42, 180, 0, 181, 162, 0, 58, 29, 158, 0, 54, 42, 180, 0, 66, 21, 4, 46, 158, 0, 38, 42, 180, 0, 79, 28, 42, 180, 0, 48, 21, 4, 50, 182, 1, 111]
def wLX9_ringNeeds_1 : List Nat := [153, 0, 20, 29, 29, 42, 180, 0, 66, 21, 4, 46, 184, 1, 53, 100, 62, 132, 1, 1, 132, 4, 1, 167, 255, 195, 132, 2, 1, 167, 255, 167, 27, 172]
theorem wX9_ringNeeds_0 : (cX9_ringNeeds.data.toList.map UInt8.toNat).drop 0 = wLX9_ringNeeds_0 ++ (wLX9_ringNeeds_1 ++ ([])) := by decide +kernel
theorem wX9_ringNeeds_1 : (cX9_ringNeeds.data.toList.map UInt8.toNat).drop 64 = wLX9_ringNeeds_1 ++ ([]) := hz_wn wX9_ringNeeds_0 rfl
theorem dX9_ringNeeds_0 : decode cX9_ringNeeds 0 = .ok (.iconst 0, 1) := dq_3 (hz_wg wX9_ringNeeds_0 (j := 0) (n := 3) rfl)
theorem dX9_ringNeeds_1 : decode cX9_ringNeeds 1 = .ok (.istore_n 1, 1) := dq_60 (hz_wg wX9_ringNeeds_0 (j := 1) (n := 60) rfl)
theorem dX9_ringNeeds_2 : decode cX9_ringNeeds 2 = .ok (.iconst 0, 1) := dq_3 (hz_wg wX9_ringNeeds_0 (j := 2) (n := 3) rfl)
theorem dX9_ringNeeds_3 : decode cX9_ringNeeds 3 = .ok (.istore_n 2, 1) := dq_61 (hz_wg wX9_ringNeeds_0 (j := 3) (n := 61) rfl)
theorem dX9_ringNeeds_4 : decode cX9_ringNeeds 4 = .ok (.iload_n 2, 1) := dq_28 (hz_wg wX9_ringNeeds_0 (j := 4) (n := 28) rfl)
theorem dX9_ringNeeds_5 : decode cX9_ringNeeds 5 = .ok (.aload_n 0, 1) := dq_42 (hz_wg wX9_ringNeeds_0 (j := 5) (n := 42) rfl)
theorem dX9_ringNeeds_6 : decode cX9_ringNeeds 6 = .ok (.getfield 79, 3) := dq_180 (hz_wg wX9_ringNeeds_0 (j := 6) (n := 180) rfl) (hz_wg wX9_ringNeeds_0 (j := 7) (n := 0) rfl) (hz_wg wX9_ringNeeds_0 (j := 8) (n := 79) rfl) rfl
theorem dX9_ringNeeds_9 : decode cX9_ringNeeds 9 = .ok (.getfield 361, 3) := dq_180 (hz_wg wX9_ringNeeds_0 (j := 9) (n := 180) rfl) (hz_wg wX9_ringNeeds_0 (j := 10) (n := 1) rfl) (hz_wg wX9_ringNeeds_0 (j := 11) (n := 105) rfl) rfl
theorem dX9_ringNeeds_12 : decode cX9_ringNeeds 12 = .ok (.if_icmp .ge 84, 3) := dq_162 (hz_wg wX9_ringNeeds_0 (j := 12) (n := 162) rfl) (hz_wg wX9_ringNeeds_0 (j := 13) (n := 0) rfl) (hz_wg wX9_ringNeeds_0 (j := 14) (n := 84) rfl) (by decide)
theorem dX9_ringNeeds_15 : decode cX9_ringNeeds 15 = .ok (.aload_n 0, 1) := dq_42 (hz_wg wX9_ringNeeds_0 (j := 15) (n := 42) rfl)
theorem dX9_ringNeeds_16 : decode cX9_ringNeeds 16 = .ok (.getfield 79, 3) := dq_180 (hz_wg wX9_ringNeeds_0 (j := 16) (n := 180) rfl) (hz_wg wX9_ringNeeds_0 (j := 17) (n := 0) rfl) (hz_wg wX9_ringNeeds_0 (j := 18) (n := 79) rfl) rfl
theorem dX9_ringNeeds_19 : decode cX9_ringNeeds 19 = .ok (.getfield 364, 3) := dq_180 (hz_wg wX9_ringNeeds_0 (j := 19) (n := 180) rfl) (hz_wg wX9_ringNeeds_0 (j := 20) (n := 1) rfl) (hz_wg wX9_ringNeeds_0 (j := 21) (n := 108) rfl) rfl
theorem dX9_ringNeeds_22 : decode cX9_ringNeeds 22 = .ok (.istore_n 3, 1) := dq_62 (hz_wg wX9_ringNeeds_0 (j := 22) (n := 62) rfl)
theorem dX9_ringNeeds_23 : decode cX9_ringNeeds 23 = .ok (.iconst 0, 1) := dq_3 (hz_wg wX9_ringNeeds_0 (j := 23) (n := 3) rfl)
theorem dX9_ringNeeds_24 : decode cX9_ringNeeds 24 = .ok (.istore 4, 2) := dq_54 (hz_wg wX9_ringNeeds_0 (j := 24) (n := 54) rfl) (hz_wg wX9_ringNeeds_0 (j := 25) (n := 4) rfl)
theorem dX9_ringNeeds_26 : decode cX9_ringNeeds 26 = .ok (.iload 4, 2) := dq_21 (hz_wg wX9_ringNeeds_0 (j := 26) (n := 21) rfl) (hz_wg wX9_ringNeeds_0 (j := 27) (n := 4) rfl)
theorem dX9_ringNeeds_28 : decode cX9_ringNeeds 28 = .ok (.aload_n 0, 1) := dq_42 (hz_wg wX9_ringNeeds_0 (j := 28) (n := 42) rfl)
theorem dX9_ringNeeds_29 : decode cX9_ringNeeds 29 = .ok (.getfield 181, 3) := dq_180 (hz_wg wX9_ringNeeds_0 (j := 29) (n := 180) rfl) (hz_wg wX9_ringNeeds_0 (j := 30) (n := 0) rfl) (hz_wg wX9_ringNeeds_0 (j := 31) (n := 181) rfl) rfl
theorem dX9_ringNeeds_32 : decode cX9_ringNeeds 32 = .ok (.if_icmp .ge 58, 3) := dq_162 (hz_wg wX9_ringNeeds_0 (j := 32) (n := 162) rfl) (hz_wg wX9_ringNeeds_0 (j := 33) (n := 0) rfl) (hz_wg wX9_ringNeeds_0 (j := 34) (n := 58) rfl) (by decide)
theorem dX9_ringNeeds_35 : decode cX9_ringNeeds 35 = .ok (.iload_n 3, 1) := dq_29 (hz_wg wX9_ringNeeds_0 (j := 35) (n := 29) rfl)
theorem dX9_ringNeeds_36 : decode cX9_ringNeeds 36 = .ok (.ifCond .le 54, 3) := dq_158 (hz_wg wX9_ringNeeds_0 (j := 36) (n := 158) rfl) (hz_wg wX9_ringNeeds_0 (j := 37) (n := 0) rfl) (hz_wg wX9_ringNeeds_0 (j := 38) (n := 54) rfl) (by decide)
theorem dX9_ringNeeds_39 : decode cX9_ringNeeds 39 = .ok (.aload_n 0, 1) := dq_42 (hz_wg wX9_ringNeeds_0 (j := 39) (n := 42) rfl)
theorem dX9_ringNeeds_40 : decode cX9_ringNeeds 40 = .ok (.getfield 66, 3) := dq_180 (hz_wg wX9_ringNeeds_0 (j := 40) (n := 180) rfl) (hz_wg wX9_ringNeeds_0 (j := 41) (n := 0) rfl) (hz_wg wX9_ringNeeds_0 (j := 42) (n := 66) rfl) rfl
theorem dX9_ringNeeds_43 : decode cX9_ringNeeds 43 = .ok (.iload 4, 2) := dq_21 (hz_wg wX9_ringNeeds_0 (j := 43) (n := 21) rfl) (hz_wg wX9_ringNeeds_0 (j := 44) (n := 4) rfl)
theorem dX9_ringNeeds_45 : decode cX9_ringNeeds 45 = .ok (.iaload, 1) := dq_46 (hz_wg wX9_ringNeeds_0 (j := 45) (n := 46) rfl)
theorem dX9_ringNeeds_46 : decode cX9_ringNeeds 46 = .ok (.ifCond .le 38, 3) := dq_158 (hz_wg wX9_ringNeeds_0 (j := 46) (n := 158) rfl) (hz_wg wX9_ringNeeds_0 (j := 47) (n := 0) rfl) (hz_wg wX9_ringNeeds_0 (j := 48) (n := 38) rfl) (by decide)
theorem dX9_ringNeeds_49 : decode cX9_ringNeeds 49 = .ok (.aload_n 0, 1) := dq_42 (hz_wg wX9_ringNeeds_0 (j := 49) (n := 42) rfl)
theorem dX9_ringNeeds_50 : decode cX9_ringNeeds 50 = .ok (.getfield 79, 3) := dq_180 (hz_wg wX9_ringNeeds_0 (j := 50) (n := 180) rfl) (hz_wg wX9_ringNeeds_0 (j := 51) (n := 0) rfl) (hz_wg wX9_ringNeeds_0 (j := 52) (n := 79) rfl) rfl
theorem dX9_ringNeeds_53 : decode cX9_ringNeeds 53 = .ok (.iload_n 2, 1) := dq_28 (hz_wg wX9_ringNeeds_0 (j := 53) (n := 28) rfl)
theorem dX9_ringNeeds_54 : decode cX9_ringNeeds 54 = .ok (.aload_n 0, 1) := dq_42 (hz_wg wX9_ringNeeds_0 (j := 54) (n := 42) rfl)
theorem dX9_ringNeeds_55 : decode cX9_ringNeeds 55 = .ok (.getfield 48, 3) := dq_180 (hz_wg wX9_ringNeeds_0 (j := 55) (n := 180) rfl) (hz_wg wX9_ringNeeds_0 (j := 56) (n := 0) rfl) (hz_wg wX9_ringNeeds_0 (j := 57) (n := 48) rfl) rfl
theorem dX9_ringNeeds_58 : decode cX9_ringNeeds 58 = .ok (.iload 4, 2) := dq_21 (hz_wg wX9_ringNeeds_0 (j := 58) (n := 21) rfl) (hz_wg wX9_ringNeeds_0 (j := 59) (n := 4) rfl)
theorem dX9_ringNeeds_60 : decode cX9_ringNeeds 60 = .ok (.aaload, 1) := dq_50 (hz_wg wX9_ringNeeds_0 (j := 60) (n := 50) rfl)
theorem dX9_ringNeeds_61 : decode cX9_ringNeeds 61 = .ok (.invokevirtual 367, 3) := dq_182 (hz_wg wX9_ringNeeds_0 (j := 61) (n := 182) rfl) (hz_wg wX9_ringNeeds_0 (j := 62) (n := 1) rfl) (hz_wg wX9_ringNeeds_0 (j := 63) (n := 111) rfl) rfl
theorem dX9_ringNeeds_64 : decode cX9_ringNeeds 64 = .ok (.ifCond .eq 20, 3) := dq_153 (hz_wg wX9_ringNeeds_1 (j := 0) (n := 153) rfl) (hz_wg wX9_ringNeeds_1 (j := 1) (n := 0) rfl) (hz_wg wX9_ringNeeds_1 (j := 2) (n := 20) rfl) (by decide)
theorem dX9_ringNeeds_67 : decode cX9_ringNeeds 67 = .ok (.iload_n 3, 1) := dq_29 (hz_wg wX9_ringNeeds_1 (j := 3) (n := 29) rfl)
theorem dX9_ringNeeds_68 : decode cX9_ringNeeds 68 = .ok (.iload_n 3, 1) := dq_29 (hz_wg wX9_ringNeeds_1 (j := 4) (n := 29) rfl)
theorem dX9_ringNeeds_69 : decode cX9_ringNeeds 69 = .ok (.aload_n 0, 1) := dq_42 (hz_wg wX9_ringNeeds_1 (j := 5) (n := 42) rfl)
theorem dX9_ringNeeds_70 : decode cX9_ringNeeds 70 = .ok (.getfield 66, 3) := dq_180 (hz_wg wX9_ringNeeds_1 (j := 6) (n := 180) rfl) (hz_wg wX9_ringNeeds_1 (j := 7) (n := 0) rfl) (hz_wg wX9_ringNeeds_1 (j := 8) (n := 66) rfl) rfl
theorem dX9_ringNeeds_73 : decode cX9_ringNeeds 73 = .ok (.iload 4, 2) := dq_21 (hz_wg wX9_ringNeeds_1 (j := 9) (n := 21) rfl) (hz_wg wX9_ringNeeds_1 (j := 10) (n := 4) rfl)
theorem dX9_ringNeeds_75 : decode cX9_ringNeeds 75 = .ok (.iaload, 1) := dq_46 (hz_wg wX9_ringNeeds_1 (j := 11) (n := 46) rfl)
theorem dX9_ringNeeds_76 : decode cX9_ringNeeds 76 = .ok (.invokestatic 309, 3) := dq_184 (hz_wg wX9_ringNeeds_1 (j := 12) (n := 184) rfl) (hz_wg wX9_ringNeeds_1 (j := 13) (n := 1) rfl) (hz_wg wX9_ringNeeds_1 (j := 14) (n := 53) rfl) rfl
theorem dX9_ringNeeds_79 : decode cX9_ringNeeds 79 = .ok (.isub, 1) := dq_100 (hz_wg wX9_ringNeeds_1 (j := 15) (n := 100) rfl)
theorem dX9_ringNeeds_80 : decode cX9_ringNeeds 80 = .ok (.istore_n 3, 1) := dq_62 (hz_wg wX9_ringNeeds_1 (j := 16) (n := 62) rfl)
theorem dX9_ringNeeds_81 : decode cX9_ringNeeds 81 = .ok (.iinc 1 1, 3) := dq_132 (hz_wg wX9_ringNeeds_1 (j := 17) (n := 132) rfl) (hz_wg wX9_ringNeeds_1 (j := 18) (n := 1) rfl) (hz_wg wX9_ringNeeds_1 (j := 19) (n := 1) rfl) (by decide)
theorem dX9_ringNeeds_84 : decode cX9_ringNeeds 84 = .ok (.iinc 4 1, 3) := dq_132 (hz_wg wX9_ringNeeds_1 (j := 20) (n := 132) rfl) (hz_wg wX9_ringNeeds_1 (j := 21) (n := 4) rfl) (hz_wg wX9_ringNeeds_1 (j := 22) (n := 1) rfl) (by decide)
theorem dX9_ringNeeds_87 : decode cX9_ringNeeds 87 = .ok (.goto (-61), 3) := dq_167 (hz_wg wX9_ringNeeds_1 (j := 23) (n := 167) rfl) (hz_wg wX9_ringNeeds_1 (j := 24) (n := 255) rfl) (hz_wg wX9_ringNeeds_1 (j := 25) (n := 195) rfl) (by decide)
theorem dX9_ringNeeds_90 : decode cX9_ringNeeds 90 = .ok (.iinc 2 1, 3) := dq_132 (hz_wg wX9_ringNeeds_1 (j := 26) (n := 132) rfl) (hz_wg wX9_ringNeeds_1 (j := 27) (n := 2) rfl) (hz_wg wX9_ringNeeds_1 (j := 28) (n := 1) rfl) (by decide)
theorem dX9_ringNeeds_93 : decode cX9_ringNeeds 93 = .ok (.goto (-89), 3) := dq_167 (hz_wg wX9_ringNeeds_1 (j := 29) (n := 167) rfl) (hz_wg wX9_ringNeeds_1 (j := 30) (n := 255) rfl) (hz_wg wX9_ringNeeds_1 (j := 31) (n := 167) rfl) (by decide)
theorem dX9_ringNeeds_96 : decode cX9_ringNeeds 96 = .ok (.iload_n 1, 1) := dq_27 (hz_wg wX9_ringNeeds_1 (j := 32) (n := 27) rfl)
theorem dX9_ringNeeds_97 : decode cX9_ringNeeds 97 = .ok (.ireturn, 1) := dq_172 (hz_wg wX9_ringNeeds_1 (j := 33) (n := 172) rfl)
set_option maxHeartbeats 4000000 in
set_option maxRecDepth 100000 in
theorem t_X9_ringNeeds (l : Launch) (dC : Nat → ClassId) (dI : Nat → Nat → Nat) (dA : Nat → ClassId) (L : List Nat) (h : hx_h) (sz : Nat) (x : Nat) (hT : hx_T T_tb L h) (gx : hx_g L h x 9) (qc : Nat) (gqc : hx_g L h qc 45) (f_x_10 : h.2.2 x 10 = some qc) (pf_x_11 : ∀ j : Nat, (j : Int) < (h.2.1 x 11).toInt → h.2.2 qc j ≠ none) : Met l yX9_ringNeeds (Cond.code yX9_ringNeeds cX9_ringNeeds 5 (some .int) :: hx_all) ({ frames := 2, cells := 0, slots := 0, locals := 43 }) (va_Pc [.ref x] (hx_B T_tb (P_ty dA) (dC, dI) vwCl L h sz)) (va_Qi (fun (r : Int32) (u : List Nat × hx_h) => (True) ∧ hx_T T_tb u.1 u.2 ∧ hx_S T_tb [] L h u.1 u.2) (hx_E T_tb (P_ty dA) (dC, dI) vwCl (hx_A L sz)) (hx_A L sz)) 0 0 (hx_A L sz) := by
  refine hx_met (lv := [(0, .ref x)]) (by decide +kernel) rfl (Nat.le_of_ble_eq_true rfl) rfl ?_
  intro p e s m below meth c hx hb hml hr hlk hts0 hown hin hsz hW ls hl
  have hts : ∀ w ∈ hx_all, w.before _ s = true := fun w hw => hts0 w (List.mem_cons_of_mem _ hw)
  have hown : s.vm.findClass "SmallCourt" = some m.cls := hown
  have hM : hx_S T_tb [] L h L h := hx_S.rf
  refine lv_iconst (v := 0) hx hb dX9_ringNeeds_0 (by decide) ?_
  refine lv_istore_n (lv' := [(1, .int (0 : Int32)), (0, .ref x)]) hx hb dX9_ringNeeds_1 rfl hl (by decide) rfl (fun ls hl => ?_)
  refine lv_iconst (v := 0) hx hb dX9_ringNeeds_2 (by decide) ?_
  refine lv_istore_n (lv' := [(2, .int (0 : Int32)), (1, .int (0 : Int32)), (0, .ref x)]) hx hb dX9_ringNeeds_3 rfl hl (by decide) rfl (fun ls hl => ?_)
  have loop4 : ∀ (n4 : Nat) (iv4_1 iv4_2 : Int32) (H : Heap) (locs : List Loc) (hL1 : List Nat) (hl1 : hx_h), -2147483648 ≤ iv4_1.toInt → iv4_1.toInt ≤ 2147483647 → 0 ≤ iv4_2.toInt → iv4_2.toInt ≤ 4 → ∀ (ls : Array Slot), 4 - iv4_2.toInt < (n4 : Int) → hx_W T_tb (P_ty dA) (dC, dI) vwCl (hx_A L sz) s.heap hL1 hl1 s H locs → hx_T T_tb hL1 hl1 → hx_S T_tb [] L h hL1 hl1 → (∀ j : Nat, (j : Int) < (hl1.2.1 x 11).toInt → hl1.2.2 qc j ≠ none) → lv_has ls 5 [(2, .int iv4_2), (1, .int iv4_1), (0, .ref x)] → W p l e ({ frames := 2, cells := 0, slots := 0, locals := 43 }) s m ([.ref x] : List Value).toArray below meth c H locs 0 0 (MQ below (va_Qi (fun (r : Int32) (u : List Nat × hx_h) => (True) ∧ hx_T T_tb u.1 u.2 ∧ hx_S T_tb [] L h u.1 u.2) (hx_E T_tb (P_ty dA) (dC, dI) vwCl (hx_A L sz)) (hx_A L sz)) ([.ref x] : List Value).toArray s 0 0 (hx_A L sz)) (F0 m 4 ls []) := by
    intro n4
    induction n4 with
    | zero => intro iv4_1 iv4_2 H locs hL1 hl1 bliv4_1 buiv4_1 bliv4_2 buiv4_2  ls hn4; exfalso; omega
    | succ n4 ih4 =>
      intro iv4_1 iv4_2 H locs hL1 hl1 bliv4_1 buiv4_1 bliv4_2 buiv4_2  ls hn4 hW hT hM  pf_x_11 hl
      refine lv_iload_n hx hb dX9_ringNeeds_4 rfl (lv_at hl 0 rfl) ?_
      refine lv_aload_n hx hb dX9_ringNeeds_5 rfl (lv_at hl 2 rfl) ?_
      refine hx_getn hx hb hts hC_9 hown hW hT (gx.S hM) tt_9 18 (by decide) rfl kw_382 ⟨rfl, rfl, rfl⟩ dX9_ringNeeds_6 (fun q_1 fq_1 gq_1 => ?_)
      refine hx_geti hx hb hts hC_7 hown hW hT gq_1 tt_7 1 (by decide) rfl kw_312 ⟨rfl, rfl, rfl⟩ dX9_ringNeeds_9 (fun x_2 ex_2 lx_2 ux_2 => ?_)
      have fx_2 := ex_2.symm
      refine hb_icmp_ge (zx := iv4_2.toInt) (zy := x_2.toInt) (tgt := 96) hx hb rfl rfl dX9_ringNeeds_12 (by decide) (fun c_3 => ?_) (fun c_3 => ?_)
      · skip
        refine lv_iload_n hx hb dX9_ringNeeds_96 rfl (lv_at hl 1 rfl) ?_
        exact hx_reti hx hb hr hlk hW ⟨trivial, hT, hM⟩ dX9_ringNeeds_97
      · skip
        refine lv_aload_n hx hb dX9_ringNeeds_15 rfl (lv_at hl 2 rfl) ?_
        refine hk_getr hx hb hts hC_9 hown hW (gx.S hM) tt_9 18 (by decide) rfl kw_382 ⟨rfl, rfl, rfl⟩ fq_1 dX9_ringNeeds_16 ?_
        refine hx_geti hx hb hts hC_7 hown hW hT gq_1 tt_7 2 (by decide) rfl kw_314 ⟨rfl, rfl, rfl⟩ dX9_ringNeeds_19 (fun x_4 ex_4 lx_4 ux_4 => ?_)
        have fx_4 := ex_4.symm
        refine lv_istore_n (lv' := [(3, .int x_4), (2, .int iv4_2), (1, .int iv4_1), (0, .ref x)]) hx hb dX9_ringNeeds_22 rfl hl (by decide) rfl (fun ls hl => ?_)
        refine lv_iconst (v := 0) hx hb dX9_ringNeeds_23 (by decide) ?_
        refine lv_istore (lv' := [(4, .int (0 : Int32)), (3, .int x_4), (2, .int iv4_2), (1, .int iv4_1), (0, .ref x)]) hx hb dX9_ringNeeds_24 hl (by decide) rfl (fun ls hl => ?_)
        have loop26 : ∀ (n26 : Nat) (iv26_1 iv26_3 iv26_4 : Int32) (H : Heap) (locs : List Loc) (hL1 : List Nat) (hl1 : hx_h), -2147483648 ≤ iv26_1.toInt → iv26_1.toInt ≤ 2147483647 → -2147483648 ≤ iv26_3.toInt → iv26_3.toInt ≤ 2147483647 → 0 ≤ iv26_4.toInt → iv26_4.toInt ≤ 100 → ∀ (ls : Array Slot), 100 - iv26_4.toInt < (n26 : Int) → hx_W T_tb (P_ty dA) (dC, dI) vwCl (hx_A L sz) s.heap hL1 hl1 s H locs → hx_T T_tb hL1 hl1 → hx_S T_tb [] L h hL1 hl1 → hl1.2.2 x 18 = some q_1 → hl1.2.1 q_1 1 = x_2 → hl1.2.1 q_1 2 = x_4 → hx_g hL1 hl1 q_1 7 → (∀ j : Nat, (j : Int) < (hl1.2.1 x 11).toInt → hl1.2.2 qc j ≠ none) → lv_has ls 5 [(4, .int iv26_4), (3, .int iv26_3), (2, .int iv4_2), (1, .int iv26_1), (0, .ref x)] → W p l e ({ frames := 2, cells := 0, slots := 0, locals := 43 }) s m ([.ref x] : List Value).toArray below meth c H locs 0 0 (MQ below (va_Qi (fun (r : Int32) (u : List Nat × hx_h) => (True) ∧ hx_T T_tb u.1 u.2 ∧ hx_S T_tb [] L h u.1 u.2) (hx_E T_tb (P_ty dA) (dC, dI) vwCl (hx_A L sz)) (hx_A L sz)) ([.ref x] : List Value).toArray s 0 0 (hx_A L sz)) (F0 m 26 ls []) := by
          intro n26
          induction n26 with
          | zero => intro iv26_1 iv26_3 iv26_4 H locs hL1 hl1 bliv26_1 buiv26_1 bliv26_3 buiv26_3 bliv26_4 buiv26_4  ls hn26; exfalso; omega
          | succ n26 ih26 =>
            intro iv26_1 iv26_3 iv26_4 H locs hL1 hl1 bliv26_1 buiv26_1 bliv26_3 buiv26_3 bliv26_4 buiv26_4  ls hn26 hW hT hM fq_1 fx_2 fx_4 gq_1 pf_x_11 hl
            refine lv_iload hx hb dX9_ringNeeds_26 (lv_at hl 0 rfl) ?_
            refine lv_aload_n hx hb dX9_ringNeeds_28 rfl (lv_at hl 4 rfl) ?_
            refine hx_geti hx hb hts hC_9 hown hW hT (gx.S hM) tt_9 11 (by decide) rfl kw_375 ⟨rfl, rfl, rfl⟩ dX9_ringNeeds_29 (fun x_5 ex_5 lx_5 ux_5 => ?_)
            have fx_5 := ex_5.symm
            refine hb_icmp_ge (zx := iv26_4.toInt) (zy := x_5.toInt) (tgt := 90) hx hb rfl rfl dX9_ringNeeds_32 (by decide) (fun c_6 => ?_) (fun c_6 => ?_)
            · skip
              obtain ⟨x_7, ex_7⟩ : ∃ y : Int32, y = iv4_2 + Int32.ofInt 1 := ⟨_, rfl⟩
              have rg_8 := i32_r iv4_2
              have zx_7 : x_7.toInt = iv4_2.toInt + (1) := by rw [ex_7]; exact i32_add rfl (by decide) (by omega) (by omega)
              refine lv_iinc (v := x_7) (lv' := [(2, .int x_7), (4, .int iv26_4), (3, .int iv26_3), (1, .int iv26_1), (0, .ref x)]) hx hb dX9_ringNeeds_90 hl (k := 2) rfl ex_7.symm (by decide) rfl (fun ls hl => ?_)
              refine lv_goto (tgt := 4) hx hb dX9_ringNeeds_93 (by decide) ?_
              exact ih4 iv26_1 x_7 _ _ hL1 hl1 (i32_r _).1 (i32_r _).2 (by omega) (by omega)  ls (by omega) hW hT hM  pf_x_11 (lv_sub hl [0, 3, 4] rfl)
            · skip
              refine lv_iload_n hx hb dX9_ringNeeds_35 rfl (lv_at hl 1 rfl) ?_
              refine hb_if_le (zx := iv26_3.toInt) (tgt := 90) hx hb rfl dX9_ringNeeds_36 (by decide) (fun c_9 => ?_) (fun c_9 => ?_)
              · skip
                obtain ⟨x_10, ex_10⟩ : ∃ y : Int32, y = iv4_2 + Int32.ofInt 1 := ⟨_, rfl⟩
                have rg_11 := i32_r iv4_2
                have zx_10 : x_10.toInt = iv4_2.toInt + (1) := by rw [ex_10]; exact i32_add rfl (by decide) (by omega) (by omega)
                refine lv_iinc (v := x_10) (lv' := [(2, .int x_10), (4, .int iv26_4), (3, .int iv26_3), (1, .int iv26_1), (0, .ref x)]) hx hb dX9_ringNeeds_90 hl (k := 2) rfl ex_10.symm (by decide) rfl (fun ls hl => ?_)
                refine lv_goto (tgt := 4) hx hb dX9_ringNeeds_93 (by decide) ?_
                exact ih4 iv26_1 x_10 _ _ hL1 hl1 (i32_r _).1 (i32_r _).2 (by omega) (by omega)  ls (by omega) hW hT hM  pf_x_11 (lv_sub hl [0, 3, 4] rfl)
              · skip
                refine lv_aload_n hx hb dX9_ringNeeds_39 rfl (lv_at hl 4 rfl) ?_
                refine hx_getn hx hb hts hC_9 hown hW hT (gx.S hM) tt_9 16 (by decide) rfl kw_380 ⟨rfl, rfl, rfl⟩ dX9_ringNeeds_40 (fun q_12 fq_12 gq_12 => ?_)
                refine lv_iload hx hb dX9_ringNeeds_43 (lv_at hl 0 rfl) ?_
                refine hx_iald hx hb hW hT gq_12 tt_48 rfl ⟨by omega, by omega⟩ dX9_ringNeeds_45 (fun x_13 ex_13 lx_13 ux_13 => ?_)
                refine hb_if_le (zx := x_13.toInt) (tgt := 84) hx hb rfl dX9_ringNeeds_46 (by decide) (fun c_14 => ?_) (fun c_14 => ?_)
                · skip
                  obtain ⟨x_15, ex_15⟩ : ∃ y : Int32, y = iv26_4 + Int32.ofInt 1 := ⟨_, rfl⟩
                  have rg_16 := i32_r iv26_4
                  have zx_15 : x_15.toInt = iv26_4.toInt + (1) := by rw [ex_15]; exact i32_add rfl (by decide) (by omega) (by omega)
                  refine lv_iinc (v := x_15) (lv' := [(4, .int x_15), (3, .int iv26_3), (2, .int iv4_2), (1, .int iv26_1), (0, .ref x)]) hx hb dX9_ringNeeds_84 hl (k := 0) rfl ex_15.symm (by decide) rfl (fun ls hl => ?_)
                  refine lv_goto (tgt := 26) hx hb dX9_ringNeeds_87 (by decide) ?_
                  exact ih26 iv26_1 iv26_3 x_15 _ _ hL1 hl1 (i32_r _).1 (i32_r _).2 (i32_r _).1 (i32_r _).2 (by omega) (by omega)  ls (by omega) hW hT hM fq_1 fx_2 fx_4 gq_1 pf_x_11 (lv_sub hl [0, 1, 2, 3, 4] rfl)
                · skip
                  refine lv_aload_n hx hb dX9_ringNeeds_49 rfl (lv_at hl 4 rfl) ?_
                  refine hk_getr hx hb hts hC_9 hown hW (gx.S hM) tt_9 18 (by decide) rfl kw_382 ⟨rfl, rfl, rfl⟩ fq_1 dX9_ringNeeds_50 ?_
                  refine lv_iload_n hx hb dX9_ringNeeds_53 rfl (lv_at hl 2 rfl) ?_
                  refine lv_aload_n hx hb dX9_ringNeeds_54 rfl (lv_at hl 4 rfl) ?_
                  refine hk_getr hx hb hts hC_9 hown hW (gx.S hM) tt_9 10 (by decide) rfl kw_374 ⟨rfl, rfl, rfl⟩ ((hM.o gx trivial rfl).2.trans f_x_10) dX9_ringNeeds_55 ?_
                  refine lv_iload hx hb dX9_ringNeeds_58 (lv_at hl 0 rfl) ?_
                  refine hx_aaldN hx hb hW hT (gqc.S hM) tt_45 (t1 := 2) rfl ⟨by omega, by omega⟩ (pf_x_11 _ (by rw [fx_5]; exact hx_tnI (by omega) (by omega))) dX9_ringNeeds_60 (fun q_17 fq_17 gq_17 => ?_)
                  refine hx_goi (hx_runV (As := [.int iv4_2, .ref q_17]) (rest := []) ⟨hx, hb, hml, hown, hts⟩ hW gq_1 tt_7 (T := TX7) (N := 8) rfl (t_X7_isDebt l dC dI dA hL1 hl1 H.size q_1 iv4_2 q_17 hT gq_1 gq_17 ⟨by omega, by omega⟩) (cwV 2 hts (hx_gV kw_1019 kw_1016 kw_1017 kw_1018 kw_101) rfl rfl rfl (by decide +kernel) ⟨Nat.le_of_ble_eq_true rfl, Nat.le_of_ble_eq_true rfl⟩) rfl hl.1 rfl (Nat.le_of_ble_eq_true rfl) dX9_ringNeeds_61 ⟨Nat.le_of_ble_eq_true rfl, Nat.le_of_ble_eq_true rfl⟩) hW (fun r_20 L_18 h_19 H locs p_21 hW => ?_)
                  obtain ⟨hr_22, hT, hs⟩ := p_21
                  replace hT : hx_T T_tb L_18 h_19 := hT
                  replace hs : hx_S T_tb [] hL1 hl1 L_18 h_19 := hs
                  replace fq_1 := (hs.o (gx.S hM) trivial rfl).2.trans fq_1
                  replace fx_2 := (hs.o gq_1 trivial rfl).1.trans fx_2
                  replace fx_4 := (hs.o gq_1 trivial rfl).1.trans fx_4
                  replace fx_5 := (hs.o (gx.S hM) trivial rfl).1.trans fx_5
                  replace fq_12 := (hs.o (gx.S hM) trivial rfl).2.trans fq_12
                  replace pf_x_11 : ∀ j : Nat, (j : Int) < (h_19.2.1 x 11).toInt → h_19.2.2 qc j ≠ none := by
                    intro j hj; rw [(hs.o (gx.S hM) trivial rfl).1] at hj; rw [(hs.a (gqc.S hM) rfl j).2]; exact pf_x_11 j hj
                  replace ex_13 := ex_13.trans (hs.a gq_12 rfl _).1.symm
                  replace hM := hM.tr (hs.mono (by decide))
                  replace gq_1 := gq_1.S hs
                  replace gq_12 := gq_12.S hs
                  replace gq_17 := gq_17.S hs
                  refine hb_if_eq (zx := r_20.toInt) (tgt := 84) hx hb rfl dX9_ringNeeds_64 (by decide) (fun c_23 => ?_) (fun c_23 => ?_)
                  · skip
                    obtain ⟨x_24, ex_24⟩ : ∃ y : Int32, y = iv26_4 + Int32.ofInt 1 := ⟨_, rfl⟩
                    have rg_25 := i32_r iv26_4
                    have zx_24 : x_24.toInt = iv26_4.toInt + (1) := by rw [ex_24]; exact i32_add rfl (by decide) (by omega) (by omega)
                    refine lv_iinc (v := x_24) (lv' := [(4, .int x_24), (3, .int iv26_3), (2, .int iv4_2), (1, .int iv26_1), (0, .ref x)]) hx hb dX9_ringNeeds_84 hl (k := 0) rfl ex_24.symm (by decide) rfl (fun ls hl => ?_)
                    refine lv_goto (tgt := 26) hx hb dX9_ringNeeds_87 (by decide) ?_
                    exact ih26 iv26_1 iv26_3 x_24 _ _ L_18 h_19 (i32_r _).1 (i32_r _).2 (i32_r _).1 (i32_r _).2 (by omega) (by omega)  ls (by omega) hW hT hM fq_1 fx_2 fx_4 gq_1 pf_x_11 (lv_sub hl [0, 1, 2, 3, 4] rfl)
                  · skip
                    refine lv_iload_n hx hb dX9_ringNeeds_67 rfl (lv_at hl 1 rfl) ?_
                    refine lv_iload_n hx hb dX9_ringNeeds_68 rfl (lv_at hl 1 rfl) ?_
                    refine lv_aload_n hx hb dX9_ringNeeds_69 rfl (lv_at hl 4 rfl) ?_
                    refine hk_getr hx hb hts hC_9 hown hW (gx.S hM) tt_9 16 (by decide) rfl kw_380 ⟨rfl, rfl, rfl⟩ fq_12 dX9_ringNeeds_70 ?_
                    refine lv_iload hx hb dX9_ringNeeds_73 (lv_at hl 0 rfl) ?_
                    refine hx_iald hx hb hW hT gq_12 tt_48 rfl ⟨by omega, by omega⟩ dX9_ringNeeds_75 (fun x_26 ex_26 lx_26 ux_26 => ?_)
                    obtain rfl : x_13 = x_26 := ex_13.trans ex_26.symm
                    refine va_mmin hx hb (hml.trans hl.1.symm) hown (hts _ kw_929) (hts _ kw_917) (hts _ kw_109) (hts _ kw_918) (Nat.le_of_ble_eq_true rfl) (Nat.le_of_ble_eq_true rfl) (Nat.le_of_ble_eq_true rfl) (Nat.le_of_ble_eq_true rfl) dX9_ringNeeds_76 ?_
                    refine lv_topi (fun x_27 ex_27 => ?_)
                    refine lv_isub hx hb dX9_ringNeeds_79 ?_
                    have rg_28 := i32_r iv26_3
                    have rg_29 := i32_r x_27
                    refine lv_topi (fun x_30 ex_30 => ?_)
                    refine lv_istore_n (lv' := [(3, .int x_30), (4, .int iv26_4), (2, .int iv4_2), (1, .int iv26_1), (0, .ref x)]) hx hb dX9_ringNeeds_80 rfl hl (by decide) rfl (fun ls hl => ?_)
                    obtain ⟨x_31, ex_31⟩ : ∃ y : Int32, y = iv26_1 + Int32.ofInt 1 := ⟨_, rfl⟩
                    have rg_32 := i32_r iv26_1
                    refine lv_iinc (v := x_31) (lv' := [(1, .int x_31), (3, .int x_30), (4, .int iv26_4), (2, .int iv4_2), (0, .ref x)]) hx hb dX9_ringNeeds_81 hl (k := 3) rfl ex_31.symm (by decide) rfl (fun ls hl => ?_)
                    obtain ⟨x_33, ex_33⟩ : ∃ y : Int32, y = iv26_4 + Int32.ofInt 1 := ⟨_, rfl⟩
                    have rg_34 := i32_r iv26_4
                    have zx_33 : x_33.toInt = iv26_4.toInt + (1) := by rw [ex_33]; exact i32_add rfl (by decide) (by omega) (by omega)
                    refine lv_iinc (v := x_33) (lv' := [(4, .int x_33), (1, .int x_31), (3, .int x_30), (2, .int iv4_2), (0, .ref x)]) hx hb dX9_ringNeeds_84 hl (k := 2) rfl ex_33.symm (by decide) rfl (fun ls hl => ?_)
                    refine lv_goto (tgt := 26) hx hb dX9_ringNeeds_87 (by decide) ?_
                    exact ih26 x_31 x_30 x_33 _ _ L_18 h_19 (i32_r _).1 (i32_r _).2 (i32_r _).1 (i32_r _).2 (by omega) (by omega)  ls (by omega) hW hT hM fq_1 fx_2 fx_4 gq_1 pf_x_11 (lv_sub hl [0, 2, 3, 1, 4] rfl)
        have zk_0 : (0 : Int32).toInt = 0 := by decide
        exact loop26 101 iv4_1 x_4 (0 : Int32) _ _ hL1 hl1 (i32_r _).1 (i32_r _).2 (i32_r _).1 (i32_r _).2 (by decide) (by decide)  ls (by omega) hW hT hM fq_1 fx_2 fx_4 gq_1 pf_x_11 hl
  have zk_0 : (0 : Int32).toInt = 0 := by decide
  have zk_0 : (0 : Int32).toInt = 0 := by decide
  exact loop4 5 (0 : Int32) (0 : Int32) _ _ L h (by decide) (by decide) (by decide) (by decide)  ls (by omega) hW hT hM  pf_x_11 hl

def wLX9_takeOffRing_0 : List Nat := [42, 180, 0, 79, 180, 1, 108, 60, 3, 61, 28, 42, 180, 0, 79, 180, 1, 105, 162, 0, 111, 27, 62, 3, 54, 4, 21, 4, 42, 180, 0, 181, 162, 0, 91, 29, 158, 0, 87, 42, 180, 0, 66, 21, 4, 46, 158, 0, 71, 42, 180, 0, 79, 28, 42, 180, 0, 48, 21, 4, 50, 182, 1, 111]
def wLX9_takeOffRing_1 : List Nat := [153, 0, 53, 29, 42, 180, 0, 66, 21, 4, 46, 184, 1, 53, 54, 5, 42, 180, 0, 58, 21, 4, 42, 180, 0, 94, 42, 180, 0, 94, 21, 5, 182, 1, 26, 87, 42, 180, 0, 66, 21, 4, 92, 46, 21, 5, 100, 79, 29, 21, 5, 100, 62, 132, 4, 1, 167, 255, 162, 132, 2, 1, 167, 255]
def wLX9_takeOffRing_2 : List Nat := [140, 27, 42, 180, 0, 79, 180, 1, 105, 104, 61, 42, 180, 0, 79, 182, 1, 115, 28, 172]
theorem wX9_takeOffRing_0 : (cX9_takeOffRing.data.toList.map UInt8.toNat).drop 0 = wLX9_takeOffRing_0 ++ (wLX9_takeOffRing_1 ++ (wLX9_takeOffRing_2 ++ ([]))) := by decide +kernel
theorem wX9_takeOffRing_1 : (cX9_takeOffRing.data.toList.map UInt8.toNat).drop 64 = wLX9_takeOffRing_1 ++ (wLX9_takeOffRing_2 ++ ([])) := hz_wn wX9_takeOffRing_0 rfl
theorem wX9_takeOffRing_2 : (cX9_takeOffRing.data.toList.map UInt8.toNat).drop 128 = wLX9_takeOffRing_2 ++ ([]) := hz_wn wX9_takeOffRing_1 rfl
theorem dX9_takeOffRing_0 : decode cX9_takeOffRing 0 = .ok (.aload_n 0, 1) := dq_42 (hz_wg wX9_takeOffRing_0 (j := 0) (n := 42) rfl)
theorem dX9_takeOffRing_1 : decode cX9_takeOffRing 1 = .ok (.getfield 79, 3) := dq_180 (hz_wg wX9_takeOffRing_0 (j := 1) (n := 180) rfl) (hz_wg wX9_takeOffRing_0 (j := 2) (n := 0) rfl) (hz_wg wX9_takeOffRing_0 (j := 3) (n := 79) rfl) rfl
theorem dX9_takeOffRing_4 : decode cX9_takeOffRing 4 = .ok (.getfield 364, 3) := dq_180 (hz_wg wX9_takeOffRing_0 (j := 4) (n := 180) rfl) (hz_wg wX9_takeOffRing_0 (j := 5) (n := 1) rfl) (hz_wg wX9_takeOffRing_0 (j := 6) (n := 108) rfl) rfl
theorem dX9_takeOffRing_7 : decode cX9_takeOffRing 7 = .ok (.istore_n 1, 1) := dq_60 (hz_wg wX9_takeOffRing_0 (j := 7) (n := 60) rfl)
theorem dX9_takeOffRing_8 : decode cX9_takeOffRing 8 = .ok (.iconst 0, 1) := dq_3 (hz_wg wX9_takeOffRing_0 (j := 8) (n := 3) rfl)
theorem dX9_takeOffRing_9 : decode cX9_takeOffRing 9 = .ok (.istore_n 2, 1) := dq_61 (hz_wg wX9_takeOffRing_0 (j := 9) (n := 61) rfl)
theorem dX9_takeOffRing_10 : decode cX9_takeOffRing 10 = .ok (.iload_n 2, 1) := dq_28 (hz_wg wX9_takeOffRing_0 (j := 10) (n := 28) rfl)
theorem dX9_takeOffRing_11 : decode cX9_takeOffRing 11 = .ok (.aload_n 0, 1) := dq_42 (hz_wg wX9_takeOffRing_0 (j := 11) (n := 42) rfl)
theorem dX9_takeOffRing_12 : decode cX9_takeOffRing 12 = .ok (.getfield 79, 3) := dq_180 (hz_wg wX9_takeOffRing_0 (j := 12) (n := 180) rfl) (hz_wg wX9_takeOffRing_0 (j := 13) (n := 0) rfl) (hz_wg wX9_takeOffRing_0 (j := 14) (n := 79) rfl) rfl
theorem dX9_takeOffRing_15 : decode cX9_takeOffRing 15 = .ok (.getfield 361, 3) := dq_180 (hz_wg wX9_takeOffRing_0 (j := 15) (n := 180) rfl) (hz_wg wX9_takeOffRing_0 (j := 16) (n := 1) rfl) (hz_wg wX9_takeOffRing_0 (j := 17) (n := 105) rfl) rfl
theorem dX9_takeOffRing_18 : decode cX9_takeOffRing 18 = .ok (.if_icmp .ge 111, 3) := dq_162 (hz_wg wX9_takeOffRing_0 (j := 18) (n := 162) rfl) (hz_wg wX9_takeOffRing_0 (j := 19) (n := 0) rfl) (hz_wg wX9_takeOffRing_0 (j := 20) (n := 111) rfl) (by decide)
theorem dX9_takeOffRing_21 : decode cX9_takeOffRing 21 = .ok (.iload_n 1, 1) := dq_27 (hz_wg wX9_takeOffRing_0 (j := 21) (n := 27) rfl)
theorem dX9_takeOffRing_22 : decode cX9_takeOffRing 22 = .ok (.istore_n 3, 1) := dq_62 (hz_wg wX9_takeOffRing_0 (j := 22) (n := 62) rfl)
theorem dX9_takeOffRing_23 : decode cX9_takeOffRing 23 = .ok (.iconst 0, 1) := dq_3 (hz_wg wX9_takeOffRing_0 (j := 23) (n := 3) rfl)
theorem dX9_takeOffRing_24 : decode cX9_takeOffRing 24 = .ok (.istore 4, 2) := dq_54 (hz_wg wX9_takeOffRing_0 (j := 24) (n := 54) rfl) (hz_wg wX9_takeOffRing_0 (j := 25) (n := 4) rfl)
theorem dX9_takeOffRing_26 : decode cX9_takeOffRing 26 = .ok (.iload 4, 2) := dq_21 (hz_wg wX9_takeOffRing_0 (j := 26) (n := 21) rfl) (hz_wg wX9_takeOffRing_0 (j := 27) (n := 4) rfl)
theorem dX9_takeOffRing_28 : decode cX9_takeOffRing 28 = .ok (.aload_n 0, 1) := dq_42 (hz_wg wX9_takeOffRing_0 (j := 28) (n := 42) rfl)
theorem dX9_takeOffRing_29 : decode cX9_takeOffRing 29 = .ok (.getfield 181, 3) := dq_180 (hz_wg wX9_takeOffRing_0 (j := 29) (n := 180) rfl) (hz_wg wX9_takeOffRing_0 (j := 30) (n := 0) rfl) (hz_wg wX9_takeOffRing_0 (j := 31) (n := 181) rfl) rfl
theorem dX9_takeOffRing_32 : decode cX9_takeOffRing 32 = .ok (.if_icmp .ge 91, 3) := dq_162 (hz_wg wX9_takeOffRing_0 (j := 32) (n := 162) rfl) (hz_wg wX9_takeOffRing_0 (j := 33) (n := 0) rfl) (hz_wg wX9_takeOffRing_0 (j := 34) (n := 91) rfl) (by decide)
theorem dX9_takeOffRing_35 : decode cX9_takeOffRing 35 = .ok (.iload_n 3, 1) := dq_29 (hz_wg wX9_takeOffRing_0 (j := 35) (n := 29) rfl)
theorem dX9_takeOffRing_36 : decode cX9_takeOffRing 36 = .ok (.ifCond .le 87, 3) := dq_158 (hz_wg wX9_takeOffRing_0 (j := 36) (n := 158) rfl) (hz_wg wX9_takeOffRing_0 (j := 37) (n := 0) rfl) (hz_wg wX9_takeOffRing_0 (j := 38) (n := 87) rfl) (by decide)
theorem dX9_takeOffRing_39 : decode cX9_takeOffRing 39 = .ok (.aload_n 0, 1) := dq_42 (hz_wg wX9_takeOffRing_0 (j := 39) (n := 42) rfl)
theorem dX9_takeOffRing_40 : decode cX9_takeOffRing 40 = .ok (.getfield 66, 3) := dq_180 (hz_wg wX9_takeOffRing_0 (j := 40) (n := 180) rfl) (hz_wg wX9_takeOffRing_0 (j := 41) (n := 0) rfl) (hz_wg wX9_takeOffRing_0 (j := 42) (n := 66) rfl) rfl
theorem dX9_takeOffRing_43 : decode cX9_takeOffRing 43 = .ok (.iload 4, 2) := dq_21 (hz_wg wX9_takeOffRing_0 (j := 43) (n := 21) rfl) (hz_wg wX9_takeOffRing_0 (j := 44) (n := 4) rfl)
theorem dX9_takeOffRing_45 : decode cX9_takeOffRing 45 = .ok (.iaload, 1) := dq_46 (hz_wg wX9_takeOffRing_0 (j := 45) (n := 46) rfl)
theorem dX9_takeOffRing_46 : decode cX9_takeOffRing 46 = .ok (.ifCond .le 71, 3) := dq_158 (hz_wg wX9_takeOffRing_0 (j := 46) (n := 158) rfl) (hz_wg wX9_takeOffRing_0 (j := 47) (n := 0) rfl) (hz_wg wX9_takeOffRing_0 (j := 48) (n := 71) rfl) (by decide)
theorem dX9_takeOffRing_49 : decode cX9_takeOffRing 49 = .ok (.aload_n 0, 1) := dq_42 (hz_wg wX9_takeOffRing_0 (j := 49) (n := 42) rfl)
theorem dX9_takeOffRing_50 : decode cX9_takeOffRing 50 = .ok (.getfield 79, 3) := dq_180 (hz_wg wX9_takeOffRing_0 (j := 50) (n := 180) rfl) (hz_wg wX9_takeOffRing_0 (j := 51) (n := 0) rfl) (hz_wg wX9_takeOffRing_0 (j := 52) (n := 79) rfl) rfl
theorem dX9_takeOffRing_53 : decode cX9_takeOffRing 53 = .ok (.iload_n 2, 1) := dq_28 (hz_wg wX9_takeOffRing_0 (j := 53) (n := 28) rfl)
theorem dX9_takeOffRing_54 : decode cX9_takeOffRing 54 = .ok (.aload_n 0, 1) := dq_42 (hz_wg wX9_takeOffRing_0 (j := 54) (n := 42) rfl)
theorem dX9_takeOffRing_55 : decode cX9_takeOffRing 55 = .ok (.getfield 48, 3) := dq_180 (hz_wg wX9_takeOffRing_0 (j := 55) (n := 180) rfl) (hz_wg wX9_takeOffRing_0 (j := 56) (n := 0) rfl) (hz_wg wX9_takeOffRing_0 (j := 57) (n := 48) rfl) rfl
theorem dX9_takeOffRing_58 : decode cX9_takeOffRing 58 = .ok (.iload 4, 2) := dq_21 (hz_wg wX9_takeOffRing_0 (j := 58) (n := 21) rfl) (hz_wg wX9_takeOffRing_0 (j := 59) (n := 4) rfl)
theorem dX9_takeOffRing_60 : decode cX9_takeOffRing 60 = .ok (.aaload, 1) := dq_50 (hz_wg wX9_takeOffRing_0 (j := 60) (n := 50) rfl)
theorem dX9_takeOffRing_61 : decode cX9_takeOffRing 61 = .ok (.invokevirtual 367, 3) := dq_182 (hz_wg wX9_takeOffRing_0 (j := 61) (n := 182) rfl) (hz_wg wX9_takeOffRing_0 (j := 62) (n := 1) rfl) (hz_wg wX9_takeOffRing_0 (j := 63) (n := 111) rfl) rfl
theorem dX9_takeOffRing_64 : decode cX9_takeOffRing 64 = .ok (.ifCond .eq 53, 3) := dq_153 (hz_wg wX9_takeOffRing_1 (j := 0) (n := 153) rfl) (hz_wg wX9_takeOffRing_1 (j := 1) (n := 0) rfl) (hz_wg wX9_takeOffRing_1 (j := 2) (n := 53) rfl) (by decide)
theorem dX9_takeOffRing_67 : decode cX9_takeOffRing 67 = .ok (.iload_n 3, 1) := dq_29 (hz_wg wX9_takeOffRing_1 (j := 3) (n := 29) rfl)
theorem dX9_takeOffRing_68 : decode cX9_takeOffRing 68 = .ok (.aload_n 0, 1) := dq_42 (hz_wg wX9_takeOffRing_1 (j := 4) (n := 42) rfl)
theorem dX9_takeOffRing_69 : decode cX9_takeOffRing 69 = .ok (.getfield 66, 3) := dq_180 (hz_wg wX9_takeOffRing_1 (j := 5) (n := 180) rfl) (hz_wg wX9_takeOffRing_1 (j := 6) (n := 0) rfl) (hz_wg wX9_takeOffRing_1 (j := 7) (n := 66) rfl) rfl
theorem dX9_takeOffRing_72 : decode cX9_takeOffRing 72 = .ok (.iload 4, 2) := dq_21 (hz_wg wX9_takeOffRing_1 (j := 8) (n := 21) rfl) (hz_wg wX9_takeOffRing_1 (j := 9) (n := 4) rfl)
theorem dX9_takeOffRing_74 : decode cX9_takeOffRing 74 = .ok (.iaload, 1) := dq_46 (hz_wg wX9_takeOffRing_1 (j := 10) (n := 46) rfl)
theorem dX9_takeOffRing_75 : decode cX9_takeOffRing 75 = .ok (.invokestatic 309, 3) := dq_184 (hz_wg wX9_takeOffRing_1 (j := 11) (n := 184) rfl) (hz_wg wX9_takeOffRing_1 (j := 12) (n := 1) rfl) (hz_wg wX9_takeOffRing_1 (j := 13) (n := 53) rfl) rfl
theorem dX9_takeOffRing_78 : decode cX9_takeOffRing 78 = .ok (.istore 5, 2) := dq_54 (hz_wg wX9_takeOffRing_1 (j := 14) (n := 54) rfl) (hz_wg wX9_takeOffRing_1 (j := 15) (n := 5) rfl)
theorem dX9_takeOffRing_80 : decode cX9_takeOffRing 80 = .ok (.aload_n 0, 1) := dq_42 (hz_wg wX9_takeOffRing_1 (j := 16) (n := 42) rfl)
theorem dX9_takeOffRing_81 : decode cX9_takeOffRing 81 = .ok (.getfield 58, 3) := dq_180 (hz_wg wX9_takeOffRing_1 (j := 17) (n := 180) rfl) (hz_wg wX9_takeOffRing_1 (j := 18) (n := 0) rfl) (hz_wg wX9_takeOffRing_1 (j := 19) (n := 58) rfl) rfl
theorem dX9_takeOffRing_84 : decode cX9_takeOffRing 84 = .ok (.iload 4, 2) := dq_21 (hz_wg wX9_takeOffRing_1 (j := 20) (n := 21) rfl) (hz_wg wX9_takeOffRing_1 (j := 21) (n := 4) rfl)
theorem dX9_takeOffRing_86 : decode cX9_takeOffRing 86 = .ok (.aload_n 0, 1) := dq_42 (hz_wg wX9_takeOffRing_1 (j := 22) (n := 42) rfl)
theorem dX9_takeOffRing_87 : decode cX9_takeOffRing 87 = .ok (.getfield 94, 3) := dq_180 (hz_wg wX9_takeOffRing_1 (j := 23) (n := 180) rfl) (hz_wg wX9_takeOffRing_1 (j := 24) (n := 0) rfl) (hz_wg wX9_takeOffRing_1 (j := 25) (n := 94) rfl) rfl
theorem dX9_takeOffRing_90 : decode cX9_takeOffRing 90 = .ok (.aload_n 0, 1) := dq_42 (hz_wg wX9_takeOffRing_1 (j := 26) (n := 42) rfl)
theorem dX9_takeOffRing_91 : decode cX9_takeOffRing 91 = .ok (.getfield 94, 3) := dq_180 (hz_wg wX9_takeOffRing_1 (j := 27) (n := 180) rfl) (hz_wg wX9_takeOffRing_1 (j := 28) (n := 0) rfl) (hz_wg wX9_takeOffRing_1 (j := 29) (n := 94) rfl) rfl
theorem dX9_takeOffRing_94 : decode cX9_takeOffRing 94 = .ok (.iload 5, 2) := dq_21 (hz_wg wX9_takeOffRing_1 (j := 30) (n := 21) rfl) (hz_wg wX9_takeOffRing_1 (j := 31) (n := 5) rfl)
theorem dX9_takeOffRing_96 : decode cX9_takeOffRing 96 = .ok (.invokevirtual 282, 3) := dq_182 (hz_wg wX9_takeOffRing_1 (j := 32) (n := 182) rfl) (hz_wg wX9_takeOffRing_1 (j := 33) (n := 1) rfl) (hz_wg wX9_takeOffRing_1 (j := 34) (n := 26) rfl) rfl
theorem dX9_takeOffRing_99 : decode cX9_takeOffRing 99 = .ok (.pop, 1) := dq_87 (hz_wg wX9_takeOffRing_1 (j := 35) (n := 87) rfl)
theorem dX9_takeOffRing_100 : decode cX9_takeOffRing 100 = .ok (.aload_n 0, 1) := dq_42 (hz_wg wX9_takeOffRing_1 (j := 36) (n := 42) rfl)
theorem dX9_takeOffRing_101 : decode cX9_takeOffRing 101 = .ok (.getfield 66, 3) := dq_180 (hz_wg wX9_takeOffRing_1 (j := 37) (n := 180) rfl) (hz_wg wX9_takeOffRing_1 (j := 38) (n := 0) rfl) (hz_wg wX9_takeOffRing_1 (j := 39) (n := 66) rfl) rfl
theorem dX9_takeOffRing_104 : decode cX9_takeOffRing 104 = .ok (.iload 4, 2) := dq_21 (hz_wg wX9_takeOffRing_1 (j := 40) (n := 21) rfl) (hz_wg wX9_takeOffRing_1 (j := 41) (n := 4) rfl)
theorem dX9_takeOffRing_106 : decode cX9_takeOffRing 106 = .ok (.dup2, 1) := dq_92 (hz_wg wX9_takeOffRing_1 (j := 42) (n := 92) rfl)
theorem dX9_takeOffRing_107 : decode cX9_takeOffRing 107 = .ok (.iaload, 1) := dq_46 (hz_wg wX9_takeOffRing_1 (j := 43) (n := 46) rfl)
theorem dX9_takeOffRing_108 : decode cX9_takeOffRing 108 = .ok (.iload 5, 2) := dq_21 (hz_wg wX9_takeOffRing_1 (j := 44) (n := 21) rfl) (hz_wg wX9_takeOffRing_1 (j := 45) (n := 5) rfl)
theorem dX9_takeOffRing_110 : decode cX9_takeOffRing 110 = .ok (.isub, 1) := dq_100 (hz_wg wX9_takeOffRing_1 (j := 46) (n := 100) rfl)
theorem dX9_takeOffRing_111 : decode cX9_takeOffRing 111 = .ok (.iastore, 1) := dq_79 (hz_wg wX9_takeOffRing_1 (j := 47) (n := 79) rfl)
theorem dX9_takeOffRing_112 : decode cX9_takeOffRing 112 = .ok (.iload_n 3, 1) := dq_29 (hz_wg wX9_takeOffRing_1 (j := 48) (n := 29) rfl)
theorem dX9_takeOffRing_113 : decode cX9_takeOffRing 113 = .ok (.iload 5, 2) := dq_21 (hz_wg wX9_takeOffRing_1 (j := 49) (n := 21) rfl) (hz_wg wX9_takeOffRing_1 (j := 50) (n := 5) rfl)
theorem dX9_takeOffRing_115 : decode cX9_takeOffRing 115 = .ok (.isub, 1) := dq_100 (hz_wg wX9_takeOffRing_1 (j := 51) (n := 100) rfl)
theorem dX9_takeOffRing_116 : decode cX9_takeOffRing 116 = .ok (.istore_n 3, 1) := dq_62 (hz_wg wX9_takeOffRing_1 (j := 52) (n := 62) rfl)
theorem dX9_takeOffRing_117 : decode cX9_takeOffRing 117 = .ok (.iinc 4 1, 3) := dq_132 (hz_wg wX9_takeOffRing_1 (j := 53) (n := 132) rfl) (hz_wg wX9_takeOffRing_1 (j := 54) (n := 4) rfl) (hz_wg wX9_takeOffRing_1 (j := 55) (n := 1) rfl) (by decide)
theorem dX9_takeOffRing_120 : decode cX9_takeOffRing 120 = .ok (.goto (-94), 3) := dq_167 (hz_wg wX9_takeOffRing_1 (j := 56) (n := 167) rfl) (hz_wg wX9_takeOffRing_1 (j := 57) (n := 255) rfl) (hz_wg wX9_takeOffRing_1 (j := 58) (n := 162) rfl) (by decide)
theorem dX9_takeOffRing_123 : decode cX9_takeOffRing 123 = .ok (.iinc 2 1, 3) := dq_132 (hz_wg wX9_takeOffRing_1 (j := 59) (n := 132) rfl) (hz_wg wX9_takeOffRing_1 (j := 60) (n := 2) rfl) (hz_wg wX9_takeOffRing_1 (j := 61) (n := 1) rfl) (by decide)
theorem dX9_takeOffRing_126 : decode cX9_takeOffRing 126 = .ok (.goto (-116), 3) := dq_167 (hz_wg wX9_takeOffRing_1 (j := 62) (n := 167) rfl) (hz_wg wX9_takeOffRing_1 (j := 63) (n := 255) rfl) (hz_wg wX9_takeOffRing_2 (j := 0) (n := 140) rfl) (by decide)
theorem dX9_takeOffRing_129 : decode cX9_takeOffRing 129 = .ok (.iload_n 1, 1) := dq_27 (hz_wg wX9_takeOffRing_2 (j := 1) (n := 27) rfl)
theorem dX9_takeOffRing_130 : decode cX9_takeOffRing 130 = .ok (.aload_n 0, 1) := dq_42 (hz_wg wX9_takeOffRing_2 (j := 2) (n := 42) rfl)
theorem dX9_takeOffRing_131 : decode cX9_takeOffRing 131 = .ok (.getfield 79, 3) := dq_180 (hz_wg wX9_takeOffRing_2 (j := 3) (n := 180) rfl) (hz_wg wX9_takeOffRing_2 (j := 4) (n := 0) rfl) (hz_wg wX9_takeOffRing_2 (j := 5) (n := 79) rfl) rfl
theorem dX9_takeOffRing_134 : decode cX9_takeOffRing 134 = .ok (.getfield 361, 3) := dq_180 (hz_wg wX9_takeOffRing_2 (j := 6) (n := 180) rfl) (hz_wg wX9_takeOffRing_2 (j := 7) (n := 1) rfl) (hz_wg wX9_takeOffRing_2 (j := 8) (n := 105) rfl) rfl
theorem dX9_takeOffRing_137 : decode cX9_takeOffRing 137 = .ok (.imul, 1) := dq_104 (hz_wg wX9_takeOffRing_2 (j := 9) (n := 104) rfl)
theorem dX9_takeOffRing_138 : decode cX9_takeOffRing 138 = .ok (.istore_n 2, 1) := dq_61 (hz_wg wX9_takeOffRing_2 (j := 10) (n := 61) rfl)
theorem dX9_takeOffRing_139 : decode cX9_takeOffRing 139 = .ok (.aload_n 0, 1) := dq_42 (hz_wg wX9_takeOffRing_2 (j := 11) (n := 42) rfl)
theorem dX9_takeOffRing_140 : decode cX9_takeOffRing 140 = .ok (.getfield 79, 3) := dq_180 (hz_wg wX9_takeOffRing_2 (j := 12) (n := 180) rfl) (hz_wg wX9_takeOffRing_2 (j := 13) (n := 0) rfl) (hz_wg wX9_takeOffRing_2 (j := 14) (n := 79) rfl) rfl
theorem dX9_takeOffRing_143 : decode cX9_takeOffRing 143 = .ok (.invokevirtual 371, 3) := dq_182 (hz_wg wX9_takeOffRing_2 (j := 15) (n := 182) rfl) (hz_wg wX9_takeOffRing_2 (j := 16) (n := 1) rfl) (hz_wg wX9_takeOffRing_2 (j := 17) (n := 115) rfl) rfl
theorem dX9_takeOffRing_146 : decode cX9_takeOffRing 146 = .ok (.iload_n 2, 1) := dq_28 (hz_wg wX9_takeOffRing_2 (j := 18) (n := 28) rfl)
theorem dX9_takeOffRing_147 : decode cX9_takeOffRing 147 = .ok (.ireturn, 1) := dq_172 (hz_wg wX9_takeOffRing_2 (j := 19) (n := 172) rfl)
set_option maxHeartbeats 4000000 in
set_option maxRecDepth 100000 in
theorem t_X9_takeOffRing (l : Launch) (dC : Nat → ClassId) (dI : Nat → Nat → Nat) (dA : Nat → ClassId) (L : List Nat) (h : hx_h) (sz : Nat) (x : Nat) (hT : hx_T T_tb L h) (gx : hx_g L h x 9) (qc : Nat) (gqc : hx_g L h qc 45) (f_x_10 : h.2.2 x 10 = some qc) (pf_x_11 : ∀ j : Nat, (j : Int) < (h.2.1 x 11).toInt → h.2.2 qc j ≠ none) : Met l yX9_takeOffRing (Cond.code yX9_takeOffRing cX9_takeOffRing 6 (some .int) :: hx_all) ({ frames := 2, cells := 0, slots := 0, locals := 43 }) (va_Pc [.ref x] (hx_B T_tb (P_ty dA) (dC, dI) vwCl L h sz)) (va_Qi (fun (r : Int32) (u : List Nat × hx_h) => (True) ∧ hx_T T_tb u.1 u.2 ∧ hx_S T_tb [(3, 0), (7, 0), (22, 0), (23, 0), (24, 0), (25, 0), (26, 0), (35, 0), (36, 0), (48, 0)] L h u.1 u.2) (hx_E T_tb (P_ty dA) (dC, dI) vwCl (hx_A L sz)) (hx_A L sz)) 0 0 (hx_A L sz) := by
  refine hx_met (lv := [(0, .ref x)]) (by decide +kernel) rfl (Nat.le_of_ble_eq_true rfl) rfl ?_
  intro p e s m below meth c hx hb hml hr hlk hts0 hown hin hsz hW ls hl
  have hts : ∀ w ∈ hx_all, w.before _ s = true := fun w hw => hts0 w (List.mem_cons_of_mem _ hw)
  have hown : s.vm.findClass "SmallCourt" = some m.cls := hown
  have hM : hx_S T_tb [(3, 0), (7, 0), (22, 0), (23, 0), (24, 0), (25, 0), (26, 0), (35, 0), (36, 0), (48, 0)] L h L h := hx_S.rf
  refine lv_aload_n hx hb dX9_takeOffRing_0 rfl (lv_at hl 0 rfl) ?_
  refine hx_getn hx hb hts hC_9 hown hW hT (gx.S hM) tt_9 18 (by decide) rfl kw_382 ⟨rfl, rfl, rfl⟩ dX9_takeOffRing_1 (fun q_1 fq_1 gq_1 => ?_)
  refine hx_geti hx hb hts hC_7 hown hW hT gq_1 tt_7 2 (by decide) rfl kw_314 ⟨rfl, rfl, rfl⟩ dX9_takeOffRing_4 (fun x_2 ex_2 lx_2 ux_2 => ?_)
  have fx_2 := ex_2.symm
  refine lv_istore_n (lv' := [(1, .int x_2), (0, .ref x)]) hx hb dX9_takeOffRing_7 rfl hl (by decide) rfl (fun ls hl => ?_)
  refine lv_iconst (v := 0) hx hb dX9_takeOffRing_8 (by decide) ?_
  refine lv_istore_n (lv' := [(2, .int (0 : Int32)), (1, .int x_2), (0, .ref x)]) hx hb dX9_takeOffRing_9 rfl hl (by decide) rfl (fun ls hl => ?_)
  have loop10 : ∀ (n10 : Nat) (iv10_2 : Int32) (H : Heap) (locs : List Loc) (hL1 : List Nat) (hl1 : hx_h), 0 ≤ iv10_2.toInt → iv10_2.toInt ≤ 4 → ∀ (ls : Array Slot), 4 - iv10_2.toInt < (n10 : Int) → hx_W T_tb (P_ty dA) (dC, dI) vwCl (hx_A L sz) s.heap hL1 hl1 s H locs → hx_T T_tb hL1 hl1 → hx_S T_tb [(3, 0), (7, 0), (22, 0), (23, 0), (24, 0), (25, 0), (26, 0), (35, 0), (36, 0), (48, 0)] L h hL1 hl1 → hl1.2.2 x 18 = some q_1 → hl1.2.1 q_1 2 = x_2 → hx_g hL1 hl1 q_1 7 → (∀ j : Nat, (j : Int) < (hl1.2.1 x 11).toInt → hl1.2.2 qc j ≠ none) → lv_has ls 6 [(2, .int iv10_2), (1, .int x_2), (0, .ref x)] → W p l e ({ frames := 2, cells := 0, slots := 0, locals := 43 }) s m ([.ref x] : List Value).toArray below meth c H locs 0 0 (MQ below (va_Qi (fun (r : Int32) (u : List Nat × hx_h) => (True) ∧ hx_T T_tb u.1 u.2 ∧ hx_S T_tb [(3, 0), (7, 0), (22, 0), (23, 0), (24, 0), (25, 0), (26, 0), (35, 0), (36, 0), (48, 0)] L h u.1 u.2) (hx_E T_tb (P_ty dA) (dC, dI) vwCl (hx_A L sz)) (hx_A L sz)) ([.ref x] : List Value).toArray s 0 0 (hx_A L sz)) (F0 m 10 ls []) := by
    intro n10
    induction n10 with
    | zero => intro iv10_2 H locs hL1 hl1 bliv10_2 buiv10_2  ls hn10; exfalso; omega
    | succ n10 ih10 =>
      intro iv10_2 H locs hL1 hl1 bliv10_2 buiv10_2  ls hn10 hW hT hM fq_1 fx_2 gq_1 pf_x_11 hl
      refine lv_iload_n hx hb dX9_takeOffRing_10 rfl (lv_at hl 0 rfl) ?_
      refine lv_aload_n hx hb dX9_takeOffRing_11 rfl (lv_at hl 2 rfl) ?_
      refine hk_getr hx hb hts hC_9 hown hW (gx.S hM) tt_9 18 (by decide) rfl kw_382 ⟨rfl, rfl, rfl⟩ fq_1 dX9_takeOffRing_12 ?_
      refine hx_geti hx hb hts hC_7 hown hW hT gq_1 tt_7 1 (by decide) rfl kw_312 ⟨rfl, rfl, rfl⟩ dX9_takeOffRing_15 (fun x_3 ex_3 lx_3 ux_3 => ?_)
      have fx_3 := ex_3.symm
      refine hb_icmp_ge (zx := iv10_2.toInt) (zy := x_3.toInt) (tgt := 129) hx hb rfl rfl dX9_takeOffRing_18 (by decide) (fun c_4 => ?_) (fun c_4 => ?_)
      · skip
        refine lv_iload_n hx hb dX9_takeOffRing_129 rfl (lv_at hl 1 rfl) ?_
        refine lv_aload_n hx hb dX9_takeOffRing_130 rfl (lv_at hl 2 rfl) ?_
        refine hk_getr hx hb hts hC_9 hown hW (gx.S hM) tt_9 18 (by decide) rfl kw_382 ⟨rfl, rfl, rfl⟩ fq_1 dX9_takeOffRing_131 ?_
        refine hk_geti hx hb hts hC_7 hown hW gq_1 tt_7 1 (by decide) rfl kw_312 ⟨rfl, rfl, rfl⟩ fx_3 dX9_takeOffRing_134 ?_
        refine lv_imul hx hb dX9_takeOffRing_137 ?_
        refine lv_topi (fun x_5 ex_5 => ?_)
        have mx_5 : x_2.toInt = 0 → x_5.toInt = 0 := fun z => by rw [ex_5]; exact hx_mul0 z
        refine lv_istore_n (lv' := [(2, .int x_5), (1, .int x_2), (0, .ref x)]) hx hb dX9_takeOffRing_138 rfl hl (by decide) rfl (fun ls hl => ?_)
        refine lv_aload_n hx hb dX9_takeOffRing_139 rfl (lv_at hl 2 rfl) ?_
        refine hk_getr hx hb hts hC_9 hown hW (gx.S hM) tt_9 18 (by decide) rfl kw_382 ⟨rfl, rfl, rfl⟩ fq_1 dX9_takeOffRing_140 ?_
        refine hx_gov (hx_runV (As := []) (rest := []) ⟨hx, hb, hml, hown, hts⟩ hW gq_1 tt_7 (T := TX7) (N := 8) rfl (t_X7_takeOff l dC dI dA hL1 hl1 H.size q_1 hT gq_1) (cwV 0 hts (hx_gV kw_1031 kw_1028 kw_1029 kw_1030 kw_101) rfl rfl rfl (by decide +kernel) ⟨Nat.le_of_ble_eq_true rfl, Nat.le_of_ble_eq_true rfl⟩) rfl hl.1 rfl (Nat.le_of_ble_eq_true rfl) dX9_takeOffRing_143 ⟨Nat.le_of_ble_eq_true rfl, Nat.le_of_ble_eq_true rfl⟩) hW (fun L_6 h_7 H locs p_9 hW => ?_)
        obtain ⟨hT, hs⟩ := p_9
        replace hT : hx_T T_tb L_6 h_7 := hT
        replace hs : hx_S T_tb [(7, 0), (35, 0), (36, 0)] hL1 hl1 L_6 h_7 := hs
        replace fq_1 := (hs.o (gx.S hM) trivial rfl).2.trans fq_1
        replace fx_2 := (hs.o gq_1 trivial rfl).1.trans fx_2
        replace fx_3 := (hs.o gq_1 trivial rfl).1.trans fx_3
        replace pf_x_11 : ∀ j : Nat, (j : Int) < (h_7.2.1 x 11).toInt → h_7.2.2 qc j ≠ none := by
          intro j hj; rw [(hs.o (gx.S hM) trivial rfl).1] at hj; rw [(hs.a (gqc.S hM) rfl j).2]; exact pf_x_11 j hj
        replace hM := hM.tr (hs.mono (by decide))
        replace gq_1 := gq_1.S hs
        refine lv_iload_n hx hb dX9_takeOffRing_146 rfl (lv_at hl 0 rfl) ?_
        exact hx_reti hx hb hr hlk hW ⟨trivial, hT, hM⟩ dX9_takeOffRing_147
      · skip
        refine lv_iload_n hx hb dX9_takeOffRing_21 rfl (lv_at hl 1 rfl) ?_
        refine lv_istore_n (lv' := [(3, .int x_2), (2, .int iv10_2), (1, .int x_2), (0, .ref x)]) hx hb dX9_takeOffRing_22 rfl hl (by decide) rfl (fun ls hl => ?_)
        refine lv_iconst (v := 0) hx hb dX9_takeOffRing_23 (by decide) ?_
        refine lv_istore (lv' := [(4, .int (0 : Int32)), (3, .int x_2), (2, .int iv10_2), (1, .int x_2), (0, .ref x)]) hx hb dX9_takeOffRing_24 hl (by decide) rfl (fun ls hl => ?_)
        have loop26 : ∀ (n26 : Nat) (iv26_3 iv26_4 : Int32) (H : Heap) (locs : List Loc) (hL1 : List Nat) (hl1 : hx_h), -2147483648 ≤ iv26_3.toInt → iv26_3.toInt ≤ 2147483647 → 0 ≤ iv26_4.toInt → iv26_4.toInt ≤ 100 → ∀ (ls : Array Slot), 100 - iv26_4.toInt < (n26 : Int) → hx_W T_tb (P_ty dA) (dC, dI) vwCl (hx_A L sz) s.heap hL1 hl1 s H locs → hx_T T_tb hL1 hl1 → hx_S T_tb [(3, 0), (7, 0), (22, 0), (23, 0), (24, 0), (25, 0), (26, 0), (35, 0), (36, 0), (48, 0)] L h hL1 hl1 → hl1.2.2 x 18 = some q_1 → hl1.2.1 q_1 2 = x_2 → hl1.2.1 q_1 1 = x_3 → hx_g hL1 hl1 q_1 7 → (∀ j : Nat, (j : Int) < (hl1.2.1 x 11).toInt → hl1.2.2 qc j ≠ none) → lv_has ls 6 [(4, .int iv26_4), (3, .int iv26_3), (2, .int iv10_2), (1, .int x_2), (0, .ref x)] → W p l e ({ frames := 2, cells := 0, slots := 0, locals := 43 }) s m ([.ref x] : List Value).toArray below meth c H locs 0 0 (MQ below (va_Qi (fun (r : Int32) (u : List Nat × hx_h) => (True) ∧ hx_T T_tb u.1 u.2 ∧ hx_S T_tb [(3, 0), (7, 0), (22, 0), (23, 0), (24, 0), (25, 0), (26, 0), (35, 0), (36, 0), (48, 0)] L h u.1 u.2) (hx_E T_tb (P_ty dA) (dC, dI) vwCl (hx_A L sz)) (hx_A L sz)) ([.ref x] : List Value).toArray s 0 0 (hx_A L sz)) (F0 m 26 ls []) := by
          intro n26
          induction n26 with
          | zero => intro iv26_3 iv26_4 H locs hL1 hl1 bliv26_3 buiv26_3 bliv26_4 buiv26_4  ls hn26; exfalso; omega
          | succ n26 ih26 =>
            intro iv26_3 iv26_4 H locs hL1 hl1 bliv26_3 buiv26_3 bliv26_4 buiv26_4  ls hn26 hW hT hM fq_1 fx_2 fx_3 gq_1 pf_x_11 hl
            refine lv_iload hx hb dX9_takeOffRing_26 (lv_at hl 0 rfl) ?_
            refine lv_aload_n hx hb dX9_takeOffRing_28 rfl (lv_at hl 4 rfl) ?_
            refine hx_geti hx hb hts hC_9 hown hW hT (gx.S hM) tt_9 11 (by decide) rfl kw_375 ⟨rfl, rfl, rfl⟩ dX9_takeOffRing_29 (fun x_11 ex_11 lx_11 ux_11 => ?_)
            have fx_11 := ex_11.symm
            refine hb_icmp_ge (zx := iv26_4.toInt) (zy := x_11.toInt) (tgt := 123) hx hb rfl rfl dX9_takeOffRing_32 (by decide) (fun c_12 => ?_) (fun c_12 => ?_)
            · skip
              obtain ⟨x_13, ex_13⟩ : ∃ y : Int32, y = iv10_2 + Int32.ofInt 1 := ⟨_, rfl⟩
              have rg_14 := i32_r iv10_2
              have zx_13 : x_13.toInt = iv10_2.toInt + (1) := by rw [ex_13]; exact i32_add rfl (by decide) (by omega) (by omega)
              refine lv_iinc (v := x_13) (lv' := [(2, .int x_13), (4, .int iv26_4), (3, .int iv26_3), (1, .int x_2), (0, .ref x)]) hx hb dX9_takeOffRing_123 hl (k := 2) rfl ex_13.symm (by decide) rfl (fun ls hl => ?_)
              refine lv_goto (tgt := 10) hx hb dX9_takeOffRing_126 (by decide) ?_
              exact ih10 x_13 _ _ hL1 hl1 (by omega) (by omega)  ls (by omega) hW hT hM fq_1 fx_2 gq_1 pf_x_11 (lv_sub hl [0, 3, 4] rfl)
            · skip
              refine lv_iload_n hx hb dX9_takeOffRing_35 rfl (lv_at hl 1 rfl) ?_
              refine hb_if_le (zx := iv26_3.toInt) (tgt := 123) hx hb rfl dX9_takeOffRing_36 (by decide) (fun c_15 => ?_) (fun c_15 => ?_)
              · skip
                obtain ⟨x_16, ex_16⟩ : ∃ y : Int32, y = iv10_2 + Int32.ofInt 1 := ⟨_, rfl⟩
                have rg_17 := i32_r iv10_2
                have zx_16 : x_16.toInt = iv10_2.toInt + (1) := by rw [ex_16]; exact i32_add rfl (by decide) (by omega) (by omega)
                refine lv_iinc (v := x_16) (lv' := [(2, .int x_16), (4, .int iv26_4), (3, .int iv26_3), (1, .int x_2), (0, .ref x)]) hx hb dX9_takeOffRing_123 hl (k := 2) rfl ex_16.symm (by decide) rfl (fun ls hl => ?_)
                refine lv_goto (tgt := 10) hx hb dX9_takeOffRing_126 (by decide) ?_
                exact ih10 x_16 _ _ hL1 hl1 (by omega) (by omega)  ls (by omega) hW hT hM fq_1 fx_2 gq_1 pf_x_11 (lv_sub hl [0, 3, 4] rfl)
              · skip
                refine lv_aload_n hx hb dX9_takeOffRing_39 rfl (lv_at hl 4 rfl) ?_
                refine hx_getn hx hb hts hC_9 hown hW hT (gx.S hM) tt_9 16 (by decide) rfl kw_380 ⟨rfl, rfl, rfl⟩ dX9_takeOffRing_40 (fun q_18 fq_18 gq_18 => ?_)
                refine lv_iload hx hb dX9_takeOffRing_43 (lv_at hl 0 rfl) ?_
                refine hx_iald hx hb hW hT gq_18 tt_48 rfl ⟨by omega, by omega⟩ dX9_takeOffRing_45 (fun x_19 ex_19 lx_19 ux_19 => ?_)
                refine hb_if_le (zx := x_19.toInt) (tgt := 117) hx hb rfl dX9_takeOffRing_46 (by decide) (fun c_20 => ?_) (fun c_20 => ?_)
                · skip
                  obtain ⟨x_21, ex_21⟩ : ∃ y : Int32, y = iv26_4 + Int32.ofInt 1 := ⟨_, rfl⟩
                  have rg_22 := i32_r iv26_4
                  have zx_21 : x_21.toInt = iv26_4.toInt + (1) := by rw [ex_21]; exact i32_add rfl (by decide) (by omega) (by omega)
                  refine lv_iinc (v := x_21) (lv' := [(4, .int x_21), (3, .int iv26_3), (2, .int iv10_2), (1, .int x_2), (0, .ref x)]) hx hb dX9_takeOffRing_117 hl (k := 0) rfl ex_21.symm (by decide) rfl (fun ls hl => ?_)
                  refine lv_goto (tgt := 26) hx hb dX9_takeOffRing_120 (by decide) ?_
                  exact ih26 iv26_3 x_21 _ _ hL1 hl1 (i32_r _).1 (i32_r _).2 (by omega) (by omega)  ls (by omega) hW hT hM fq_1 fx_2 fx_3 gq_1 pf_x_11 (lv_sub hl [0, 1, 2, 3, 4] rfl)
                · skip
                  refine lv_aload_n hx hb dX9_takeOffRing_49 rfl (lv_at hl 4 rfl) ?_
                  refine hk_getr hx hb hts hC_9 hown hW (gx.S hM) tt_9 18 (by decide) rfl kw_382 ⟨rfl, rfl, rfl⟩ fq_1 dX9_takeOffRing_50 ?_
                  refine lv_iload_n hx hb dX9_takeOffRing_53 rfl (lv_at hl 2 rfl) ?_
                  refine lv_aload_n hx hb dX9_takeOffRing_54 rfl (lv_at hl 4 rfl) ?_
                  refine hk_getr hx hb hts hC_9 hown hW (gx.S hM) tt_9 10 (by decide) rfl kw_374 ⟨rfl, rfl, rfl⟩ ((hM.o gx trivial rfl).2.trans f_x_10) dX9_takeOffRing_55 ?_
                  refine lv_iload hx hb dX9_takeOffRing_58 (lv_at hl 0 rfl) ?_
                  refine hx_aaldN hx hb hW hT (gqc.S hM) tt_45 (t1 := 2) rfl ⟨by omega, by omega⟩ (pf_x_11 _ (by rw [fx_11]; exact hx_tnI (by omega) (by omega))) dX9_takeOffRing_60 (fun q_23 fq_23 gq_23 => ?_)
                  refine hx_goi (hx_runV (As := [.int iv10_2, .ref q_23]) (rest := []) ⟨hx, hb, hml, hown, hts⟩ hW gq_1 tt_7 (T := TX7) (N := 8) rfl (t_X7_isDebt l dC dI dA hL1 hl1 H.size q_1 iv10_2 q_23 hT gq_1 gq_23 ⟨by omega, by omega⟩) (cwV 2 hts (hx_gV kw_1019 kw_1016 kw_1017 kw_1018 kw_101) rfl rfl rfl (by decide +kernel) ⟨Nat.le_of_ble_eq_true rfl, Nat.le_of_ble_eq_true rfl⟩) rfl hl.1 rfl (Nat.le_of_ble_eq_true rfl) dX9_takeOffRing_61 ⟨Nat.le_of_ble_eq_true rfl, Nat.le_of_ble_eq_true rfl⟩) hW (fun r_26 L_24 h_25 H locs p_27 hW => ?_)
                  obtain ⟨hr_28, hT, hs⟩ := p_27
                  replace hT : hx_T T_tb L_24 h_25 := hT
                  replace hs : hx_S T_tb [] hL1 hl1 L_24 h_25 := hs
                  replace fq_1 := (hs.o (gx.S hM) trivial rfl).2.trans fq_1
                  replace fx_2 := (hs.o gq_1 trivial rfl).1.trans fx_2
                  replace fx_3 := (hs.o gq_1 trivial rfl).1.trans fx_3
                  replace fx_11 := (hs.o (gx.S hM) trivial rfl).1.trans fx_11
                  replace fq_18 := (hs.o (gx.S hM) trivial rfl).2.trans fq_18
                  replace pf_x_11 : ∀ j : Nat, (j : Int) < (h_25.2.1 x 11).toInt → h_25.2.2 qc j ≠ none := by
                    intro j hj; rw [(hs.o (gx.S hM) trivial rfl).1] at hj; rw [(hs.a (gqc.S hM) rfl j).2]; exact pf_x_11 j hj
                  replace ex_19 := ex_19.trans (hs.a gq_18 rfl _).1.symm
                  replace hM := hM.tr (hs.mono (by decide))
                  replace gq_1 := gq_1.S hs
                  replace gq_18 := gq_18.S hs
                  replace gq_23 := gq_23.S hs
                  refine hb_if_eq (zx := r_26.toInt) (tgt := 117) hx hb rfl dX9_takeOffRing_64 (by decide) (fun c_29 => ?_) (fun c_29 => ?_)
                  · skip
                    obtain ⟨x_30, ex_30⟩ : ∃ y : Int32, y = iv26_4 + Int32.ofInt 1 := ⟨_, rfl⟩
                    have rg_31 := i32_r iv26_4
                    have zx_30 : x_30.toInt = iv26_4.toInt + (1) := by rw [ex_30]; exact i32_add rfl (by decide) (by omega) (by omega)
                    refine lv_iinc (v := x_30) (lv' := [(4, .int x_30), (3, .int iv26_3), (2, .int iv10_2), (1, .int x_2), (0, .ref x)]) hx hb dX9_takeOffRing_117 hl (k := 0) rfl ex_30.symm (by decide) rfl (fun ls hl => ?_)
                    refine lv_goto (tgt := 26) hx hb dX9_takeOffRing_120 (by decide) ?_
                    exact ih26 iv26_3 x_30 _ _ L_24 h_25 (i32_r _).1 (i32_r _).2 (by omega) (by omega)  ls (by omega) hW hT hM fq_1 fx_2 fx_3 gq_1 pf_x_11 (lv_sub hl [0, 1, 2, 3, 4] rfl)
                  · skip
                    refine lv_iload_n hx hb dX9_takeOffRing_67 rfl (lv_at hl 1 rfl) ?_
                    refine lv_aload_n hx hb dX9_takeOffRing_68 rfl (lv_at hl 4 rfl) ?_
                    refine hk_getr hx hb hts hC_9 hown hW (gx.S hM) tt_9 16 (by decide) rfl kw_380 ⟨rfl, rfl, rfl⟩ fq_18 dX9_takeOffRing_69 ?_
                    refine lv_iload hx hb dX9_takeOffRing_72 (lv_at hl 0 rfl) ?_
                    refine hx_iald hx hb hW hT gq_18 tt_48 rfl ⟨by omega, by omega⟩ dX9_takeOffRing_74 (fun x_32 ex_32 lx_32 ux_32 => ?_)
                    obtain rfl : x_19 = x_32 := ex_19.trans ex_32.symm
                    refine va_mmin hx hb (hml.trans hl.1.symm) hown (hts _ kw_929) (hts _ kw_917) (hts _ kw_109) (hts _ kw_918) (Nat.le_of_ble_eq_true rfl) (Nat.le_of_ble_eq_true rfl) (Nat.le_of_ble_eq_true rfl) (Nat.le_of_ble_eq_true rfl) dX9_takeOffRing_75 ?_
                    refine lv_topi (fun x_33 ex_33 => ?_)
                    refine lv_istore (lv' := [(5, .int x_33), (4, .int iv26_4), (3, .int iv26_3), (2, .int iv10_2), (1, .int x_2), (0, .ref x)]) hx hb dX9_takeOffRing_78 hl (by decide) rfl (fun ls hl => ?_)
                    refine lv_aload_n hx hb dX9_takeOffRing_80 rfl (lv_at hl 5 rfl) ?_
                    refine hx_getn hx hb hts hC_9 hown hW hT (gx.S hM) tt_9 14 (by decide) rfl kw_378 ⟨rfl, rfl, rfl⟩ dX9_takeOffRing_81 (fun q_34 fq_34 gq_34 => ?_)
                    refine lv_iload hx hb dX9_takeOffRing_84 (lv_at hl 1 rfl) ?_
                    refine lv_aload_n hx hb dX9_takeOffRing_86 rfl (lv_at hl 5 rfl) ?_
                    refine hx_geti hx hb hts hC_9 hown hW hT (gx.S hM) tt_9 2 (by decide) rfl kw_366 ⟨rfl, rfl, rfl⟩ dX9_takeOffRing_87 (fun x_35 ex_35 lx_35 ux_35 => ?_)
                    have fx_35 := ex_35.symm
                    refine lv_aload_n hx hb dX9_takeOffRing_90 rfl (lv_at hl 5 rfl) ?_
                    refine hk_geti hx hb hts hC_9 hown hW (gx.S hM) tt_9 2 (by decide) rfl kw_366 ⟨rfl, rfl, rfl⟩ fx_35 dX9_takeOffRing_91 ?_
                    refine lv_iload hx hb dX9_takeOffRing_94 (lv_at hl 0 rfl) ?_
                    refine hx_goi (hx_runV (As := [.int iv26_4, .int x_35, .int x_35, .int x_33]) (rest := []) ⟨hx, hb, hml, hown, hts⟩ hW gq_34 tt_3 (T := TX3) (N := 6) rfl (t_X3_addPayment l dC dI dA L_24 h_25 H.size q_34 iv26_4 x_35 x_35 x_33 hT gq_34) (cwV 4 hts (hx_gV kw_895 kw_892 kw_893 kw_894 kw_99) rfl rfl rfl (by decide +kernel) ⟨Nat.le_of_ble_eq_true rfl, Nat.le_of_ble_eq_true rfl⟩) rfl hl.1 rfl (Nat.le_of_ble_eq_true rfl) dX9_takeOffRing_96 ⟨Nat.le_of_ble_eq_true rfl, Nat.le_of_ble_eq_true rfl⟩) hW (fun r_38 L_36 h_37 H locs p_39 hW => ?_)
                    obtain ⟨hr_40, hT, hs⟩ := p_39
                    replace hT : hx_T T_tb L_36 h_37 := hT
                    replace hs : hx_S T_tb [(3, 0), (22, 0), (23, 0), (24, 0), (25, 0), (26, 0)] L_24 h_25 L_36 h_37 := hs
                    replace fq_1 := (hs.o (gx.S hM) trivial rfl).2.trans fq_1
                    replace fx_2 := (hs.o gq_1 trivial rfl).1.trans fx_2
                    replace fx_3 := (hs.o gq_1 trivial rfl).1.trans fx_3
                    replace fx_11 := (hs.o (gx.S hM) trivial rfl).1.trans fx_11
                    replace fq_18 := (hs.o (gx.S hM) trivial rfl).2.trans fq_18
                    replace fq_34 := (hs.o (gx.S hM) trivial rfl).2.trans fq_34
                    replace fx_35 := (hs.o (gx.S hM) trivial rfl).1.trans fx_35
                    replace pf_x_11 : ∀ j : Nat, (j : Int) < (h_37.2.1 x 11).toInt → h_37.2.2 qc j ≠ none := by
                      intro j hj; rw [(hs.o (gx.S hM) trivial rfl).1] at hj; rw [(hs.a (gqc.S hM) rfl j).2]; exact pf_x_11 j hj
                    replace ex_19 := ex_19.trans (hs.a gq_18 rfl _).1.symm
                    replace hM := hM.tr (hs.mono (by decide))
                    replace gq_1 := gq_1.S hs
                    replace gq_18 := gq_18.S hs
                    replace gq_23 := gq_23.S hs
                    replace gq_34 := gq_34.S hs
                    refine lv_pop hx hb dX9_takeOffRing_99 rfl ?_
                    refine lv_aload_n hx hb dX9_takeOffRing_100 rfl (lv_at hl 5 rfl) ?_
                    refine hk_getr hx hb hts hC_9 hown hW (gx.S hM) tt_9 16 (by decide) rfl kw_380 ⟨rfl, rfl, rfl⟩ fq_18 dX9_takeOffRing_101 ?_
                    refine lv_iload hx hb dX9_takeOffRing_104 (lv_at hl 1 rfl) ?_
                    refine lv_dup2_11 hx hb dX9_takeOffRing_106 rfl rfl ?_
                    refine hx_iald hx hb hW hT gq_18 tt_48 rfl ⟨by omega, by omega⟩ dX9_takeOffRing_107 (fun x_41 ex_41 lx_41 ux_41 => ?_)
                    obtain rfl : x_19 = x_41 := ex_19.trans ex_41.symm
                    refine lv_iload hx hb dX9_takeOffRing_108 (lv_at hl 0 rfl) ?_
                    refine lv_isub hx hb dX9_takeOffRing_110 ?_
                    have rg_42 := i32_r x_19
                    have rg_43 := i32_r x_33
                    refine lv_topi (fun x_44 ex_44 => ?_)
                    refine hx_iast hx hb hW hT (hx_S.rf (M := [(48, 0)])) gq_18 tt_48 rfl ⟨by omega, by omega⟩ rfl (i32_r _) (List.mem_singleton.mpr rfl) dX9_takeOffRing_111 (fun H locs h_45 eh_45 hW hT hs => ?_)
                    replace fq_1 := (hs.o (gx.S hM) trivial rfl).2.trans fq_1
                    replace fx_2 := (hs.o gq_1 trivial rfl).1.trans fx_2
                    replace fx_3 := (hs.o gq_1 trivial rfl).1.trans fx_3
                    replace fx_11 := (hs.o (gx.S hM) trivial rfl).1.trans fx_11
                    replace fq_18 := (hs.o (gx.S hM) trivial rfl).2.trans fq_18
                    replace fq_34 := (hs.o (gx.S hM) trivial rfl).2.trans fq_34
                    replace fx_35 := (hs.o (gx.S hM) trivial rfl).1.trans fx_35
                    replace pf_x_11 : ∀ j : Nat, (j : Int) < (h_45.2.1 x 11).toInt → h_45.2.2 qc j ≠ none := by
                      intro j hj; rw [(hs.o (gx.S hM) trivial rfl).1] at hj; rw [(hs.a (gqc.S hM) rfl j).2]; exact pf_x_11 j hj
                    replace hM := hM.tr (hs.mono (by decide))
                    replace gq_1 := gq_1.S hs
                    replace gq_18 := gq_18.S hs
                    replace gq_23 := gq_23.S hs
                    replace gq_34 := gq_34.S hs
                    refine lv_iload_n hx hb dX9_takeOffRing_112 rfl (lv_at hl 2 rfl) ?_
                    refine lv_iload hx hb dX9_takeOffRing_113 (lv_at hl 0 rfl) ?_
                    refine lv_isub hx hb dX9_takeOffRing_115 ?_
                    have rg_46 := i32_r iv26_3
                    refine lv_topi (fun x_47 ex_47 => ?_)
                    refine lv_istore_n (lv' := [(3, .int x_47), (5, .int x_33), (4, .int iv26_4), (2, .int iv10_2), (1, .int x_2), (0, .ref x)]) hx hb dX9_takeOffRing_116 rfl hl (by decide) rfl (fun ls hl => ?_)
                    obtain ⟨x_48, ex_48⟩ : ∃ y : Int32, y = iv26_4 + Int32.ofInt 1 := ⟨_, rfl⟩
                    have rg_49 := i32_r iv26_4
                    have zx_48 : x_48.toInt = iv26_4.toInt + (1) := by rw [ex_48]; exact i32_add rfl (by decide) (by omega) (by omega)
                    refine lv_iinc (v := x_48) (lv' := [(4, .int x_48), (3, .int x_47), (5, .int x_33), (2, .int iv10_2), (1, .int x_2), (0, .ref x)]) hx hb dX9_takeOffRing_117 hl (k := 2) rfl ex_48.symm (by decide) rfl (fun ls hl => ?_)
                    refine lv_goto (tgt := 26) hx hb dX9_takeOffRing_120 (by decide) ?_
                    exact ih26 x_47 x_48 _ _ L_36 h_45 (i32_r _).1 (i32_r _).2 (by omega) (by omega)  ls (by omega) hW hT hM fq_1 fx_2 fx_3 gq_1 pf_x_11 (lv_sub hl [0, 1, 3, 4, 5] rfl)
        have zk_0 : (0 : Int32).toInt = 0 := by decide
        exact loop26 101 x_2 (0 : Int32) _ _ hL1 hl1 (i32_r _).1 (i32_r _).2 (by decide) (by decide)  ls (by omega) hW hT hM fq_1 fx_2 fx_3 gq_1 pf_x_11 hl
  have zk_0 : (0 : Int32).toInt = 0 := by decide
  exact loop10 5 (0 : Int32) _ _ L h (by decide) (by decide)  ls (by omega) hW hT hM fq_1 fx_2 gq_1 pf_x_11 hl

def wLX9_net_0 : List Nat := [42, 180, 0, 79, 42, 180, 0, 125, 182, 1, 90, 3, 60, 27, 42, 180, 0, 181, 162, 0, 65, 42, 180, 0, 48, 27, 50, 77, 42, 180, 0, 66, 27, 44, 42, 180, 0, 58, 42, 180, 0, 94, 42, 180, 0, 94, 182, 1, 46, 79, 42, 180, 0, 79, 44, 180, 0, 212, 180, 0, 143, 44, 180, 0]
def wLX9_net_1 : List Nat := [223, 180, 0, 143, 42, 180, 0, 66, 27, 46, 182, 1, 92, 132, 1, 1, 167, 255, 189, 3, 60, 3, 61, 28, 16, 100, 162, 0, 44, 42, 180, 0, 79, 182, 1, 95, 153, 0, 34, 42, 182, 1, 99, 17, 2, 88, 42, 180, 0, 58, 180, 1, 22, 100, 163, 0, 16, 27, 42, 182, 1, 102, 96, 60]
def wLX9_net_2 : List Nat := [132, 2, 1, 167, 255, 212, 27, 172]
theorem wX9_net_0 : (cX9_net.data.toList.map UInt8.toNat).drop 0 = wLX9_net_0 ++ (wLX9_net_1 ++ (wLX9_net_2 ++ ([]))) := by decide +kernel
theorem wX9_net_1 : (cX9_net.data.toList.map UInt8.toNat).drop 64 = wLX9_net_1 ++ (wLX9_net_2 ++ ([])) := hz_wn wX9_net_0 rfl
theorem wX9_net_2 : (cX9_net.data.toList.map UInt8.toNat).drop 128 = wLX9_net_2 ++ ([]) := hz_wn wX9_net_1 rfl
theorem dX9_net_0 : decode cX9_net 0 = .ok (.aload_n 0, 1) := dq_42 (hz_wg wX9_net_0 (j := 0) (n := 42) rfl)
theorem dX9_net_1 : decode cX9_net 1 = .ok (.getfield 79, 3) := dq_180 (hz_wg wX9_net_0 (j := 1) (n := 180) rfl) (hz_wg wX9_net_0 (j := 2) (n := 0) rfl) (hz_wg wX9_net_0 (j := 3) (n := 79) rfl) rfl
theorem dX9_net_4 : decode cX9_net 4 = .ok (.aload_n 0, 1) := dq_42 (hz_wg wX9_net_0 (j := 4) (n := 42) rfl)
theorem dX9_net_5 : decode cX9_net 5 = .ok (.getfield 125, 3) := dq_180 (hz_wg wX9_net_0 (j := 5) (n := 180) rfl) (hz_wg wX9_net_0 (j := 6) (n := 0) rfl) (hz_wg wX9_net_0 (j := 7) (n := 125) rfl) rfl
theorem dX9_net_8 : decode cX9_net 8 = .ok (.invokevirtual 346, 3) := dq_182 (hz_wg wX9_net_0 (j := 8) (n := 182) rfl) (hz_wg wX9_net_0 (j := 9) (n := 1) rfl) (hz_wg wX9_net_0 (j := 10) (n := 90) rfl) rfl
theorem dX9_net_11 : decode cX9_net 11 = .ok (.iconst 0, 1) := dq_3 (hz_wg wX9_net_0 (j := 11) (n := 3) rfl)
theorem dX9_net_12 : decode cX9_net 12 = .ok (.istore_n 1, 1) := dq_60 (hz_wg wX9_net_0 (j := 12) (n := 60) rfl)
theorem dX9_net_13 : decode cX9_net 13 = .ok (.iload_n 1, 1) := dq_27 (hz_wg wX9_net_0 (j := 13) (n := 27) rfl)
theorem dX9_net_14 : decode cX9_net 14 = .ok (.aload_n 0, 1) := dq_42 (hz_wg wX9_net_0 (j := 14) (n := 42) rfl)
theorem dX9_net_15 : decode cX9_net 15 = .ok (.getfield 181, 3) := dq_180 (hz_wg wX9_net_0 (j := 15) (n := 180) rfl) (hz_wg wX9_net_0 (j := 16) (n := 0) rfl) (hz_wg wX9_net_0 (j := 17) (n := 181) rfl) rfl
theorem dX9_net_18 : decode cX9_net 18 = .ok (.if_icmp .ge 65, 3) := dq_162 (hz_wg wX9_net_0 (j := 18) (n := 162) rfl) (hz_wg wX9_net_0 (j := 19) (n := 0) rfl) (hz_wg wX9_net_0 (j := 20) (n := 65) rfl) (by decide)
theorem dX9_net_21 : decode cX9_net 21 = .ok (.aload_n 0, 1) := dq_42 (hz_wg wX9_net_0 (j := 21) (n := 42) rfl)
theorem dX9_net_22 : decode cX9_net 22 = .ok (.getfield 48, 3) := dq_180 (hz_wg wX9_net_0 (j := 22) (n := 180) rfl) (hz_wg wX9_net_0 (j := 23) (n := 0) rfl) (hz_wg wX9_net_0 (j := 24) (n := 48) rfl) rfl
theorem dX9_net_25 : decode cX9_net 25 = .ok (.iload_n 1, 1) := dq_27 (hz_wg wX9_net_0 (j := 25) (n := 27) rfl)
theorem dX9_net_26 : decode cX9_net 26 = .ok (.aaload, 1) := dq_50 (hz_wg wX9_net_0 (j := 26) (n := 50) rfl)
theorem dX9_net_27 : decode cX9_net 27 = .ok (.astore_n 2, 1) := dq_77 (hz_wg wX9_net_0 (j := 27) (n := 77) rfl)
theorem dX9_net_28 : decode cX9_net 28 = .ok (.aload_n 0, 1) := dq_42 (hz_wg wX9_net_0 (j := 28) (n := 42) rfl)
theorem dX9_net_29 : decode cX9_net 29 = .ok (.getfield 66, 3) := dq_180 (hz_wg wX9_net_0 (j := 29) (n := 180) rfl) (hz_wg wX9_net_0 (j := 30) (n := 0) rfl) (hz_wg wX9_net_0 (j := 31) (n := 66) rfl) rfl
theorem dX9_net_32 : decode cX9_net 32 = .ok (.iload_n 1, 1) := dq_27 (hz_wg wX9_net_0 (j := 32) (n := 27) rfl)
theorem dX9_net_33 : decode cX9_net 33 = .ok (.aload_n 2, 1) := dq_44 (hz_wg wX9_net_0 (j := 33) (n := 44) rfl)
theorem dX9_net_34 : decode cX9_net 34 = .ok (.aload_n 0, 1) := dq_42 (hz_wg wX9_net_0 (j := 34) (n := 42) rfl)
theorem dX9_net_35 : decode cX9_net 35 = .ok (.getfield 58, 3) := dq_180 (hz_wg wX9_net_0 (j := 35) (n := 180) rfl) (hz_wg wX9_net_0 (j := 36) (n := 0) rfl) (hz_wg wX9_net_0 (j := 37) (n := 58) rfl) rfl
theorem dX9_net_38 : decode cX9_net 38 = .ok (.aload_n 0, 1) := dq_42 (hz_wg wX9_net_0 (j := 38) (n := 42) rfl)
theorem dX9_net_39 : decode cX9_net 39 = .ok (.getfield 94, 3) := dq_180 (hz_wg wX9_net_0 (j := 39) (n := 180) rfl) (hz_wg wX9_net_0 (j := 40) (n := 0) rfl) (hz_wg wX9_net_0 (j := 41) (n := 94) rfl) rfl
theorem dX9_net_42 : decode cX9_net 42 = .ok (.aload_n 0, 1) := dq_42 (hz_wg wX9_net_0 (j := 42) (n := 42) rfl)
theorem dX9_net_43 : decode cX9_net 43 = .ok (.getfield 94, 3) := dq_180 (hz_wg wX9_net_0 (j := 43) (n := 180) rfl) (hz_wg wX9_net_0 (j := 44) (n := 0) rfl) (hz_wg wX9_net_0 (j := 45) (n := 94) rfl) rfl
theorem dX9_net_46 : decode cX9_net 46 = .ok (.invokevirtual 302, 3) := dq_182 (hz_wg wX9_net_0 (j := 46) (n := 182) rfl) (hz_wg wX9_net_0 (j := 47) (n := 1) rfl) (hz_wg wX9_net_0 (j := 48) (n := 46) rfl) rfl
theorem dX9_net_49 : decode cX9_net 49 = .ok (.iastore, 1) := dq_79 (hz_wg wX9_net_0 (j := 49) (n := 79) rfl)
theorem dX9_net_50 : decode cX9_net 50 = .ok (.aload_n 0, 1) := dq_42 (hz_wg wX9_net_0 (j := 50) (n := 42) rfl)
theorem dX9_net_51 : decode cX9_net 51 = .ok (.getfield 79, 3) := dq_180 (hz_wg wX9_net_0 (j := 51) (n := 180) rfl) (hz_wg wX9_net_0 (j := 52) (n := 0) rfl) (hz_wg wX9_net_0 (j := 53) (n := 79) rfl) rfl
theorem dX9_net_54 : decode cX9_net 54 = .ok (.aload_n 2, 1) := dq_44 (hz_wg wX9_net_0 (j := 54) (n := 44) rfl)
theorem dX9_net_55 : decode cX9_net 55 = .ok (.getfield 212, 3) := dq_180 (hz_wg wX9_net_0 (j := 55) (n := 180) rfl) (hz_wg wX9_net_0 (j := 56) (n := 0) rfl) (hz_wg wX9_net_0 (j := 57) (n := 212) rfl) rfl
theorem dX9_net_58 : decode cX9_net 58 = .ok (.getfield 143, 3) := dq_180 (hz_wg wX9_net_0 (j := 58) (n := 180) rfl) (hz_wg wX9_net_0 (j := 59) (n := 0) rfl) (hz_wg wX9_net_0 (j := 60) (n := 143) rfl) rfl
theorem dX9_net_61 : decode cX9_net 61 = .ok (.aload_n 2, 1) := dq_44 (hz_wg wX9_net_0 (j := 61) (n := 44) rfl)
theorem dX9_net_62 : decode cX9_net 62 = .ok (.getfield 223, 3) := dq_180 (hz_wg wX9_net_0 (j := 62) (n := 180) rfl) (hz_wg wX9_net_0 (j := 63) (n := 0) rfl) (hz_wg wX9_net_1 (j := 0) (n := 223) rfl) rfl
theorem dX9_net_65 : decode cX9_net 65 = .ok (.getfield 143, 3) := dq_180 (hz_wg wX9_net_1 (j := 1) (n := 180) rfl) (hz_wg wX9_net_1 (j := 2) (n := 0) rfl) (hz_wg wX9_net_1 (j := 3) (n := 143) rfl) rfl
theorem dX9_net_68 : decode cX9_net 68 = .ok (.aload_n 0, 1) := dq_42 (hz_wg wX9_net_1 (j := 4) (n := 42) rfl)
theorem dX9_net_69 : decode cX9_net 69 = .ok (.getfield 66, 3) := dq_180 (hz_wg wX9_net_1 (j := 5) (n := 180) rfl) (hz_wg wX9_net_1 (j := 6) (n := 0) rfl) (hz_wg wX9_net_1 (j := 7) (n := 66) rfl) rfl
theorem dX9_net_72 : decode cX9_net 72 = .ok (.iload_n 1, 1) := dq_27 (hz_wg wX9_net_1 (j := 8) (n := 27) rfl)
theorem dX9_net_73 : decode cX9_net 73 = .ok (.iaload, 1) := dq_46 (hz_wg wX9_net_1 (j := 9) (n := 46) rfl)
theorem dX9_net_74 : decode cX9_net 74 = .ok (.invokevirtual 348, 3) := dq_182 (hz_wg wX9_net_1 (j := 10) (n := 182) rfl) (hz_wg wX9_net_1 (j := 11) (n := 1) rfl) (hz_wg wX9_net_1 (j := 12) (n := 92) rfl) rfl
theorem dX9_net_77 : decode cX9_net 77 = .ok (.iinc 1 1, 3) := dq_132 (hz_wg wX9_net_1 (j := 13) (n := 132) rfl) (hz_wg wX9_net_1 (j := 14) (n := 1) rfl) (hz_wg wX9_net_1 (j := 15) (n := 1) rfl) (by decide)
theorem dX9_net_80 : decode cX9_net 80 = .ok (.goto (-67), 3) := dq_167 (hz_wg wX9_net_1 (j := 16) (n := 167) rfl) (hz_wg wX9_net_1 (j := 17) (n := 255) rfl) (hz_wg wX9_net_1 (j := 18) (n := 189) rfl) (by decide)
theorem dX9_net_83 : decode cX9_net 83 = .ok (.iconst 0, 1) := dq_3 (hz_wg wX9_net_1 (j := 19) (n := 3) rfl)
theorem dX9_net_84 : decode cX9_net 84 = .ok (.istore_n 1, 1) := dq_60 (hz_wg wX9_net_1 (j := 20) (n := 60) rfl)
theorem dX9_net_85 : decode cX9_net 85 = .ok (.iconst 0, 1) := dq_3 (hz_wg wX9_net_1 (j := 21) (n := 3) rfl)
theorem dX9_net_86 : decode cX9_net 86 = .ok (.istore_n 2, 1) := dq_61 (hz_wg wX9_net_1 (j := 22) (n := 61) rfl)
theorem dX9_net_87 : decode cX9_net 87 = .ok (.iload_n 2, 1) := dq_28 (hz_wg wX9_net_1 (j := 23) (n := 28) rfl)
theorem dX9_net_88 : decode cX9_net 88 = .ok (.bipush 100, 2) := dq_16 (hz_wg wX9_net_1 (j := 24) (n := 16) rfl) (hz_wg wX9_net_1 (j := 25) (n := 100) rfl) (by decide)
theorem dX9_net_90 : decode cX9_net 90 = .ok (.if_icmp .ge 44, 3) := dq_162 (hz_wg wX9_net_1 (j := 26) (n := 162) rfl) (hz_wg wX9_net_1 (j := 27) (n := 0) rfl) (hz_wg wX9_net_1 (j := 28) (n := 44) rfl) (by decide)
theorem dX9_net_93 : decode cX9_net 93 = .ok (.aload_n 0, 1) := dq_42 (hz_wg wX9_net_1 (j := 29) (n := 42) rfl)
theorem dX9_net_94 : decode cX9_net 94 = .ok (.getfield 79, 3) := dq_180 (hz_wg wX9_net_1 (j := 30) (n := 180) rfl) (hz_wg wX9_net_1 (j := 31) (n := 0) rfl) (hz_wg wX9_net_1 (j := 32) (n := 79) rfl) rfl
theorem dX9_net_97 : decode cX9_net 97 = .ok (.invokevirtual 351, 3) := dq_182 (hz_wg wX9_net_1 (j := 33) (n := 182) rfl) (hz_wg wX9_net_1 (j := 34) (n := 1) rfl) (hz_wg wX9_net_1 (j := 35) (n := 95) rfl) rfl
theorem dX9_net_100 : decode cX9_net 100 = .ok (.ifCond .eq 34, 3) := dq_153 (hz_wg wX9_net_1 (j := 36) (n := 153) rfl) (hz_wg wX9_net_1 (j := 37) (n := 0) rfl) (hz_wg wX9_net_1 (j := 38) (n := 34) rfl) (by decide)
theorem dX9_net_103 : decode cX9_net 103 = .ok (.aload_n 0, 1) := dq_42 (hz_wg wX9_net_1 (j := 39) (n := 42) rfl)
theorem dX9_net_104 : decode cX9_net 104 = .ok (.invokevirtual 355, 3) := dq_182 (hz_wg wX9_net_1 (j := 40) (n := 182) rfl) (hz_wg wX9_net_1 (j := 41) (n := 1) rfl) (hz_wg wX9_net_1 (j := 42) (n := 99) rfl) rfl
theorem dX9_net_107 : decode cX9_net 107 = .ok (.sipush 600, 3) := dq_17 (hz_wg wX9_net_1 (j := 43) (n := 17) rfl) (hz_wg wX9_net_1 (j := 44) (n := 2) rfl) (hz_wg wX9_net_1 (j := 45) (n := 88) rfl) (by decide)
theorem dX9_net_110 : decode cX9_net 110 = .ok (.aload_n 0, 1) := dq_42 (hz_wg wX9_net_1 (j := 46) (n := 42) rfl)
theorem dX9_net_111 : decode cX9_net 111 = .ok (.getfield 58, 3) := dq_180 (hz_wg wX9_net_1 (j := 47) (n := 180) rfl) (hz_wg wX9_net_1 (j := 48) (n := 0) rfl) (hz_wg wX9_net_1 (j := 49) (n := 58) rfl) rfl
theorem dX9_net_114 : decode cX9_net 114 = .ok (.getfield 278, 3) := dq_180 (hz_wg wX9_net_1 (j := 50) (n := 180) rfl) (hz_wg wX9_net_1 (j := 51) (n := 1) rfl) (hz_wg wX9_net_1 (j := 52) (n := 22) rfl) rfl
theorem dX9_net_117 : decode cX9_net 117 = .ok (.isub, 1) := dq_100 (hz_wg wX9_net_1 (j := 53) (n := 100) rfl)
theorem dX9_net_118 : decode cX9_net 118 = .ok (.if_icmp .gt 16, 3) := dq_163 (hz_wg wX9_net_1 (j := 54) (n := 163) rfl) (hz_wg wX9_net_1 (j := 55) (n := 0) rfl) (hz_wg wX9_net_1 (j := 56) (n := 16) rfl) (by decide)
theorem dX9_net_121 : decode cX9_net 121 = .ok (.iload_n 1, 1) := dq_27 (hz_wg wX9_net_1 (j := 57) (n := 27) rfl)
theorem dX9_net_122 : decode cX9_net 122 = .ok (.aload_n 0, 1) := dq_42 (hz_wg wX9_net_1 (j := 58) (n := 42) rfl)
theorem dX9_net_123 : decode cX9_net 123 = .ok (.invokevirtual 358, 3) := dq_182 (hz_wg wX9_net_1 (j := 59) (n := 182) rfl) (hz_wg wX9_net_1 (j := 60) (n := 1) rfl) (hz_wg wX9_net_1 (j := 61) (n := 102) rfl) rfl
theorem dX9_net_126 : decode cX9_net 126 = .ok (.iadd, 1) := dq_96 (hz_wg wX9_net_1 (j := 62) (n := 96) rfl)
theorem dX9_net_127 : decode cX9_net 127 = .ok (.istore_n 1, 1) := dq_60 (hz_wg wX9_net_1 (j := 63) (n := 60) rfl)
theorem dX9_net_128 : decode cX9_net 128 = .ok (.iinc 2 1, 3) := dq_132 (hz_wg wX9_net_2 (j := 0) (n := 132) rfl) (hz_wg wX9_net_2 (j := 1) (n := 2) rfl) (hz_wg wX9_net_2 (j := 2) (n := 1) rfl) (by decide)
theorem dX9_net_131 : decode cX9_net 131 = .ok (.goto (-44), 3) := dq_167 (hz_wg wX9_net_2 (j := 3) (n := 167) rfl) (hz_wg wX9_net_2 (j := 4) (n := 255) rfl) (hz_wg wX9_net_2 (j := 5) (n := 212) rfl) (by decide)
theorem dX9_net_134 : decode cX9_net 134 = .ok (.iload_n 1, 1) := dq_27 (hz_wg wX9_net_2 (j := 6) (n := 27) rfl)
theorem dX9_net_135 : decode cX9_net 135 = .ok (.ireturn, 1) := dq_172 (hz_wg wX9_net_2 (j := 7) (n := 172) rfl)
set_option maxHeartbeats 4000000 in
set_option maxRecDepth 100000 in
theorem t_X9_net (l : Launch) (dC : Nat → ClassId) (dI : Nat → Nat → Nat) (dA : Nat → ClassId) (L : List Nat) (h : hx_h) (sz : Nat) (x : Nat) (hT : hx_T T_tb L h) (gx : hx_g L h x 9) (qc : Nat) (gqc : hx_g L h qc 45) (f_x_10 : h.2.2 x 10 = some qc) (pf_x_11 : ∀ j : Nat, (j : Int) < (h.2.1 x 11).toInt → h.2.2 qc j ≠ none) : Met l yX9_net (Cond.code yX9_net cX9_net 3 (some .int) :: hx_all) ({ frames := 7, cells := 0, slots := 0, locals := 183 }) (va_Pc [.ref x] (hx_B T_tb (P_ty dA) (dC, dI) vwCl L h sz)) (va_Qi (fun (r : Int32) (u : List Nat × hx_h) => (True) ∧ hx_T T_tb u.1 u.2 ∧ hx_S T_tb [(3, 0), (7, 0), (7, 1), (7, 2), (7, 4), (22, 0), (23, 0), (24, 0), (25, 0), (26, 0), (35, 0), (36, 0), (37, 0), (38, 0), (48, 0)] L h u.1 u.2) (hx_E T_tb (P_ty dA) (dC, dI) vwCl (hx_A L sz)) (hx_A L sz)) 0 0 (hx_A L sz) := by
  refine hx_met (lv := [(0, .ref x)]) (by decide +kernel) rfl (Nat.le_of_ble_eq_true rfl) rfl ?_
  intro p e s m below meth c hx hb hml hr hlk hts0 hown hin hsz hW ls hl
  have hts : ∀ w ∈ hx_all, w.before _ s = true := fun w hw => hts0 w (List.mem_cons_of_mem _ hw)
  have hown : s.vm.findClass "SmallCourt" = some m.cls := hown
  have hM : hx_S T_tb [(3, 0), (7, 0), (7, 1), (7, 2), (7, 4), (22, 0), (23, 0), (24, 0), (25, 0), (26, 0), (35, 0), (36, 0), (37, 0), (38, 0), (48, 0)] L h L h := hx_S.rf
  refine lv_aload_n hx hb dX9_net_0 rfl (lv_at hl 0 rfl) ?_
  refine hx_getn hx hb hts hC_9 hown hW hT (gx.S hM) tt_9 18 (by decide) rfl kw_382 ⟨rfl, rfl, rfl⟩ dX9_net_1 (fun q_1 fq_1 gq_1 => ?_)
  refine lv_aload_n hx hb dX9_net_4 rfl (lv_at hl 0 rfl) ?_
  refine hx_geti hx hb hts hC_9 hown hW hT (gx.S hM) tt_9 8 (by decide) rfl kw_372 ⟨rfl, rfl, rfl⟩ dX9_net_5 (fun x_2 ex_2 lx_2 ux_2 => ?_)
  have fx_2 := ex_2.symm
  refine hx_gov (hx_runV (As := [.int x_2]) (rest := []) ⟨hx, hb, hml, hown, hts⟩ hW gq_1 tt_7 (T := TX7) (N := 8) rfl (t_X7_clear l dC dI dA L h s.heap.size q_1 x_2 hT gq_1 ⟨by omega, by omega⟩) (cwV 1 hts (hx_gV kw_988 kw_985 kw_986 kw_987 kw_101) rfl rfl rfl (by decide +kernel) ⟨Nat.le_of_ble_eq_true rfl, Nat.le_of_ble_eq_true rfl⟩) rfl hl.1 rfl (Nat.le_of_ble_eq_true rfl) dX9_net_8 ⟨Nat.le_of_ble_eq_true rfl, Nat.le_of_ble_eq_true rfl⟩) hW (fun L_3 h_4 H locs p_6 hW => ?_)
  obtain ⟨hT, hs⟩ := p_6
  replace hT : hx_T T_tb L_3 h_4 := hT
  replace hs : hx_S T_tb [(7, 0), (7, 4), (36, 0)] L h L_3 h_4 := hs
  replace fq_1 := (hs.o (gx.S hM) trivial rfl).2.trans fq_1
  replace fx_2 := (hs.o (gx.S hM) trivial rfl).1.trans fx_2
  replace pf_x_11 : ∀ j : Nat, (j : Int) < (h_4.2.1 x 11).toInt → h_4.2.2 qc j ≠ none := by
    intro j hj; rw [(hs.o (gx.S hM) trivial rfl).1] at hj; rw [(hs.a (gqc.S hM) rfl j).2]; exact pf_x_11 j hj
  replace hM := hM.tr (hs.mono (by decide))
  replace gq_1 := gq_1.S hs
  refine lv_iconst (v := 0) hx hb dX9_net_11 (by decide) ?_
  refine lv_istore_n (lv' := [(1, .int (0 : Int32)), (0, .ref x)]) hx hb dX9_net_12 rfl hl (by decide) rfl (fun ls hl => ?_)
  have loop13 : ∀ (n13 : Nat) (iv13_1 : Int32) (H : Heap) (locs : List Loc) (hL1 : List Nat) (hl1 : hx_h), 0 ≤ iv13_1.toInt → iv13_1.toInt ≤ 100 → ∀ (ls : Array Slot), 100 - iv13_1.toInt < (n13 : Int) → hx_W T_tb (P_ty dA) (dC, dI) vwCl (hx_A L sz) s.heap hL1 hl1 s H locs → hx_T T_tb hL1 hl1 → hx_S T_tb [(3, 0), (7, 0), (7, 1), (7, 2), (7, 4), (22, 0), (23, 0), (24, 0), (25, 0), (26, 0), (35, 0), (36, 0), (37, 0), (38, 0), (48, 0)] L h hL1 hl1 → hl1.2.2 x 18 = some q_1 → hl1.2.1 x 8 = x_2 → hx_g hL1 hl1 q_1 7 → (∀ j : Nat, (j : Int) < (hl1.2.1 x 11).toInt → hl1.2.2 qc j ≠ none) → lv_has ls 3 [(1, .int iv13_1), (0, .ref x)] → W p l e ({ frames := 7, cells := 0, slots := 0, locals := 183 }) s m ([.ref x] : List Value).toArray below meth c H locs 0 0 (MQ below (va_Qi (fun (r : Int32) (u : List Nat × hx_h) => (True) ∧ hx_T T_tb u.1 u.2 ∧ hx_S T_tb [(3, 0), (7, 0), (7, 1), (7, 2), (7, 4), (22, 0), (23, 0), (24, 0), (25, 0), (26, 0), (35, 0), (36, 0), (37, 0), (38, 0), (48, 0)] L h u.1 u.2) (hx_E T_tb (P_ty dA) (dC, dI) vwCl (hx_A L sz)) (hx_A L sz)) ([.ref x] : List Value).toArray s 0 0 (hx_A L sz)) (F0 m 13 ls []) := by
    intro n13
    induction n13 with
    | zero => intro iv13_1 H locs hL1 hl1 bliv13_1 buiv13_1  ls hn13; exfalso; omega
    | succ n13 ih13 =>
      intro iv13_1 H locs hL1 hl1 bliv13_1 buiv13_1  ls hn13 hW hT hM fq_1 fx_2 gq_1 pf_x_11 hl
      refine lv_iload_n hx hb dX9_net_13 rfl (lv_at hl 0 rfl) ?_
      refine lv_aload_n hx hb dX9_net_14 rfl (lv_at hl 1 rfl) ?_
      refine hx_geti hx hb hts hC_9 hown hW hT (gx.S hM) tt_9 11 (by decide) rfl kw_375 ⟨rfl, rfl, rfl⟩ dX9_net_15 (fun x_8 ex_8 lx_8 ux_8 => ?_)
      have fx_8 := ex_8.symm
      refine hb_icmp_ge (zx := iv13_1.toInt) (zy := x_8.toInt) (tgt := 83) hx hb rfl rfl dX9_net_18 (by decide) (fun c_9 => ?_) (fun c_9 => ?_)
      · skip
        refine lv_iconst (v := 0) hx hb dX9_net_83 (by decide) ?_
        refine lv_istore_n (lv' := [(1, .int (0 : Int32)), (0, .ref x)]) hx hb dX9_net_84 rfl hl (by decide) rfl (fun ls hl => ?_)
        refine lv_iconst (v := 0) hx hb dX9_net_85 (by decide) ?_
        refine lv_istore_n (lv' := [(2, .int (0 : Int32)), (1, .int (0 : Int32)), (0, .ref x)]) hx hb dX9_net_86 rfl hl (by decide) rfl (fun ls hl => ?_)
        have loop87 : ∀ (n87 : Nat) (iv87_1 iv87_2 : Int32) (H : Heap) (locs : List Loc) (hL1 : List Nat) (hl1 : hx_h), -2147483648 ≤ iv87_1.toInt → iv87_1.toInt ≤ 2147483647 → 0 ≤ iv87_2.toInt → iv87_2.toInt ≤ 100 → ∀ (ls : Array Slot), 100 - iv87_2.toInt < (n87 : Int) → hx_W T_tb (P_ty dA) (dC, dI) vwCl (hx_A L sz) s.heap hL1 hl1 s H locs → hx_T T_tb hL1 hl1 → hx_S T_tb [(3, 0), (7, 0), (7, 1), (7, 2), (7, 4), (22, 0), (23, 0), (24, 0), (25, 0), (26, 0), (35, 0), (36, 0), (37, 0), (38, 0), (48, 0)] L h hL1 hl1 → hl1.2.2 x 18 = some q_1 → hl1.2.1 x 8 = x_2 → hl1.2.1 x 11 = x_8 → hx_g hL1 hl1 q_1 7 → (∀ j : Nat, (j : Int) < (hl1.2.1 x 11).toInt → hl1.2.2 qc j ≠ none) → lv_has ls 3 [(2, .int iv87_2), (1, .int iv87_1), (0, .ref x)] → W p l e ({ frames := 7, cells := 0, slots := 0, locals := 183 }) s m ([.ref x] : List Value).toArray below meth c H locs 0 0 (MQ below (va_Qi (fun (r : Int32) (u : List Nat × hx_h) => (True) ∧ hx_T T_tb u.1 u.2 ∧ hx_S T_tb [(3, 0), (7, 0), (7, 1), (7, 2), (7, 4), (22, 0), (23, 0), (24, 0), (25, 0), (26, 0), (35, 0), (36, 0), (37, 0), (38, 0), (48, 0)] L h u.1 u.2) (hx_E T_tb (P_ty dA) (dC, dI) vwCl (hx_A L sz)) (hx_A L sz)) ([.ref x] : List Value).toArray s 0 0 (hx_A L sz)) (F0 m 87 ls []) := by
          intro n87
          induction n87 with
          | zero => intro iv87_1 iv87_2 H locs hL1 hl1 bliv87_1 buiv87_1 bliv87_2 buiv87_2  ls hn87; exfalso; omega
          | succ n87 ih87 =>
            intro iv87_1 iv87_2 H locs hL1 hl1 bliv87_1 buiv87_1 bliv87_2 buiv87_2  ls hn87 hW hT hM fq_1 fx_2 fx_8 gq_1 pf_x_11 hl
            refine lv_iload_n hx hb dX9_net_87 rfl (lv_at hl 0 rfl) ?_
            refine lv_bipush (v := 100) hx hb dX9_net_88 (by decide) ?_
            refine hb_icmp_ge (zx := iv87_2.toInt) (zy := 100) (tgt := 134) hx hb rfl (by decide) dX9_net_90 (by decide) (fun c_10 => ?_) (fun c_10 => ?_)
            · skip
              refine lv_iload_n hx hb dX9_net_134 rfl (lv_at hl 1 rfl) ?_
              exact hx_reti hx hb hr hlk hW ⟨trivial, hT, hM⟩ dX9_net_135
            · skip
              refine lv_aload_n hx hb dX9_net_93 rfl (lv_at hl 2 rfl) ?_
              refine hk_getr hx hb hts hC_9 hown hW (gx.S hM) tt_9 18 (by decide) rfl kw_382 ⟨rfl, rfl, rfl⟩ fq_1 dX9_net_94 ?_
              refine hx_goi (hx_runV (As := []) (rest := []) ⟨hx, hb, hml, hown, hts⟩ hW gq_1 tt_7 (T := TX7) (N := 8) rfl (t_X7_findBest l dC dI dA hL1 hl1 H.size q_1 hT gq_1) (cwV 0 hts (hx_gV kw_996 kw_993 kw_994 kw_995 kw_101) rfl rfl rfl (by decide +kernel) ⟨Nat.le_of_ble_eq_true rfl, Nat.le_of_ble_eq_true rfl⟩) rfl hl.1 rfl (Nat.le_of_ble_eq_true rfl) dX9_net_97 ⟨Nat.le_of_ble_eq_true rfl, Nat.le_of_ble_eq_true rfl⟩) hW (fun r_13 L_11 h_12 H locs p_14 hW => ?_)
              obtain ⟨hr_15, hT, hs⟩ := p_14
              replace hT : hx_T T_tb L_11 h_12 := hT
              replace hs : hx_S T_tb [(7, 1), (7, 2), (37, 0), (38, 0)] hL1 hl1 L_11 h_12 := hs
              replace fq_1 := (hs.o (gx.S hM) trivial rfl).2.trans fq_1
              replace fx_2 := (hs.o (gx.S hM) trivial rfl).1.trans fx_2
              replace fx_8 := (hs.o (gx.S hM) trivial rfl).1.trans fx_8
              replace pf_x_11 : ∀ j : Nat, (j : Int) < (h_12.2.1 x 11).toInt → h_12.2.2 qc j ≠ none := by
                intro j hj; rw [(hs.o (gx.S hM) trivial rfl).1] at hj; rw [(hs.a (gqc.S hM) rfl j).2]; exact pf_x_11 j hj
              replace hM := hM.tr (hs.mono (by decide))
              replace gq_1 := gq_1.S hs
              refine hb_if_eq (zx := r_13.toInt) (tgt := 134) hx hb rfl dX9_net_100 (by decide) (fun c_16 => ?_) (fun c_16 => ?_)
              · skip
                refine lv_iload_n hx hb dX9_net_134 rfl (lv_at hl 1 rfl) ?_
                exact hx_reti hx hb hr hlk hW ⟨trivial, hT, hM⟩ dX9_net_135
              · skip
                refine lv_aload_n hx hb dX9_net_103 rfl (lv_at hl 2 rfl) ?_
                refine hx_goi (hx_runV (As := []) (rest := []) ⟨hx, hb, hml, hown, hts⟩ hW (gx.S hM) tt_9 (T := TX9) (N := 20) rfl (t_X9_ringNeeds l dC dI dA L_11 h_12 H.size x hT (gx.S hM) qc (gqc.S hM) ((hM.o gx trivial rfl).2.trans f_x_10) pf_x_11) (cwV 0 hts (hx_gV kw_1015 kw_1012 kw_1014 kw_39 kw_94) rfl rfl rfl (by decide +kernel) ⟨Nat.le_of_ble_eq_true rfl, Nat.le_of_ble_eq_true rfl⟩) rfl hl.1 rfl (Nat.le_of_ble_eq_true rfl) dX9_net_104 ⟨Nat.le_of_ble_eq_true rfl, Nat.le_of_ble_eq_true rfl⟩) hW (fun r_19 L_17 h_18 H locs p_20 hW => ?_)
                obtain ⟨hr_21, hT, hs⟩ := p_20
                replace hT : hx_T T_tb L_17 h_18 := hT
                replace hs : hx_S T_tb [] L_11 h_12 L_17 h_18 := hs
                replace fq_1 := (hs.o (gx.S hM) trivial rfl).2.trans fq_1
                replace fx_2 := (hs.o (gx.S hM) trivial rfl).1.trans fx_2
                replace fx_8 := (hs.o (gx.S hM) trivial rfl).1.trans fx_8
                replace pf_x_11 : ∀ j : Nat, (j : Int) < (h_18.2.1 x 11).toInt → h_18.2.2 qc j ≠ none := by
                  intro j hj; rw [(hs.o (gx.S hM) trivial rfl).1] at hj; rw [(hs.a (gqc.S hM) rfl j).2]; exact pf_x_11 j hj
                replace hM := hM.tr (hs.mono (by decide))
                replace gq_1 := gq_1.S hs
                refine lv_sipush (v := 600) hx hb dX9_net_107 (by decide) ?_
                refine lv_aload_n hx hb dX9_net_110 rfl (lv_at hl 2 rfl) ?_
                refine hx_getn hx hb hts hC_9 hown hW hT (gx.S hM) tt_9 14 (by decide) rfl kw_378 ⟨rfl, rfl, rfl⟩ dX9_net_111 (fun q_22 fq_22 gq_22 => ?_)
                refine hx_geti hx hb hts hC_3 hown hW hT gq_22 tt_3 0 (by decide) rfl kw_232 ⟨rfl, rfl, rfl⟩ dX9_net_114 (fun x_23 ex_23 lx_23 ux_23 => ?_)
                have fx_23 := ex_23.symm
                refine lv_isub hx hb dX9_net_117 ?_
                have rg_24 := i32_r x_23
                refine lv_topi (fun x_25 ex_25 => ?_)
                have zx_25 : x_25.toInt = 600 - x_23.toInt := by rw [ex_25]; exact i32_sub (by decide) rfl (by omega) (by omega)
                refine hb_icmp_gt (zx := r_19.toInt) (zy := x_25.toInt) (tgt := 134) hx hb rfl rfl dX9_net_118 (by decide) (fun c_26 => ?_) (fun c_26 => ?_)
                · skip
                  refine lv_iload_n hx hb dX9_net_134 rfl (lv_at hl 1 rfl) ?_
                  exact hx_reti hx hb hr hlk hW ⟨trivial, hT, hM⟩ dX9_net_135
                · skip
                  refine lv_iload_n hx hb dX9_net_121 rfl (lv_at hl 1 rfl) ?_
                  refine lv_aload_n hx hb dX9_net_122 rfl (lv_at hl 2 rfl) ?_
                  refine hx_goi (hx_runV (As := []) (rest := [.int iv87_1]) ⟨hx, hb, hml, hown, hts⟩ hW (gx.S hM) tt_9 (T := TX9) (N := 20) rfl (t_X9_takeOffRing l dC dI dA L_17 h_18 H.size x hT (gx.S hM) qc (gqc.S hM) ((hM.o gx trivial rfl).2.trans f_x_10) pf_x_11) (cwV 0 hts (hx_gV kw_1027 kw_1024 kw_1026 kw_41 kw_94) rfl rfl rfl (by decide +kernel) ⟨Nat.le_of_ble_eq_true rfl, Nat.le_of_ble_eq_true rfl⟩) rfl hl.1 rfl (Nat.le_of_ble_eq_true rfl) dX9_net_123 ⟨Nat.le_of_ble_eq_true rfl, Nat.le_of_ble_eq_true rfl⟩) hW (fun r_29 L_27 h_28 H locs p_30 hW => ?_)
                  obtain ⟨hr_31, hT, hs⟩ := p_30
                  replace hT : hx_T T_tb L_27 h_28 := hT
                  replace hs : hx_S T_tb [(3, 0), (7, 0), (22, 0), (23, 0), (24, 0), (25, 0), (26, 0), (35, 0), (36, 0), (48, 0)] L_17 h_18 L_27 h_28 := hs
                  replace fq_1 := (hs.o (gx.S hM) trivial rfl).2.trans fq_1
                  replace fx_2 := (hs.o (gx.S hM) trivial rfl).1.trans fx_2
                  replace fx_8 := (hs.o (gx.S hM) trivial rfl).1.trans fx_8
                  replace fq_22 := (hs.o (gx.S hM) trivial rfl).2.trans fq_22
                  replace pf_x_11 : ∀ j : Nat, (j : Int) < (h_28.2.1 x 11).toInt → h_28.2.2 qc j ≠ none := by
                    intro j hj; rw [(hs.o (gx.S hM) trivial rfl).1] at hj; rw [(hs.a (gqc.S hM) rfl j).2]; exact pf_x_11 j hj
                  replace hM := hM.tr (hs.mono (by decide))
                  replace gq_1 := gq_1.S hs
                  replace gq_22 := gq_22.S hs
                  refine lv_iadd hx hb dX9_net_126 ?_
                  have rg_32 := i32_r iv87_1
                  have rg_33 := i32_r r_29
                  refine lv_topi (fun x_34 ex_34 => ?_)
                  refine lv_istore_n (lv' := [(1, .int x_34), (2, .int iv87_2), (0, .ref x)]) hx hb dX9_net_127 rfl hl (by decide) rfl (fun ls hl => ?_)
                  obtain ⟨x_35, ex_35⟩ : ∃ y : Int32, y = iv87_2 + Int32.ofInt 1 := ⟨_, rfl⟩
                  have rg_36 := i32_r iv87_2
                  have zx_35 : x_35.toInt = iv87_2.toInt + (1) := by rw [ex_35]; exact i32_add rfl (by decide) (by omega) (by omega)
                  refine lv_iinc (v := x_35) (lv' := [(2, .int x_35), (1, .int x_34), (0, .ref x)]) hx hb dX9_net_128 hl (k := 1) rfl ex_35.symm (by decide) rfl (fun ls hl => ?_)
                  refine lv_goto (tgt := 87) hx hb dX9_net_131 (by decide) ?_
                  exact ih87 x_34 x_35 _ _ L_27 h_28 (i32_r _).1 (i32_r _).2 (by omega) (by omega)  ls (by omega) hW hT hM fq_1 fx_2 fx_8 gq_1 pf_x_11 (lv_sub hl [0, 1, 2] rfl)
        have zk_0 : (0 : Int32).toInt = 0 := by decide
        have zk_0 : (0 : Int32).toInt = 0 := by decide
        exact loop87 101 (0 : Int32) (0 : Int32) _ _ hL1 hl1 (by decide) (by decide) (by decide) (by decide)  ls (by omega) hW hT hM fq_1 fx_2 fx_8 gq_1 pf_x_11 hl
      · skip
        refine lv_aload_n hx hb dX9_net_21 rfl (lv_at hl 1 rfl) ?_
        refine hk_getr hx hb hts hC_9 hown hW (gx.S hM) tt_9 10 (by decide) rfl kw_374 ⟨rfl, rfl, rfl⟩ ((hM.o gx trivial rfl).2.trans f_x_10) dX9_net_22 ?_
        refine lv_iload_n hx hb dX9_net_25 rfl (lv_at hl 0 rfl) ?_
        refine hx_aaldN hx hb hW hT (gqc.S hM) tt_45 (t1 := 2) rfl ⟨by omega, by omega⟩ (pf_x_11 _ (by rw [fx_8]; exact hx_tnI (by omega) (by omega))) dX9_net_26 (fun q_37 fq_37 gq_37 => ?_)
        refine lv_astore_n (lv' := [(2, .ref q_37), (1, .int iv13_1), (0, .ref x)]) hx hb dX9_net_27 rfl hl (by decide) rfl (fun ls hl => ?_)
        refine lv_aload_n hx hb dX9_net_28 rfl (lv_at hl 2 rfl) ?_
        refine hx_getn hx hb hts hC_9 hown hW hT (gx.S hM) tt_9 16 (by decide) rfl kw_380 ⟨rfl, rfl, rfl⟩ dX9_net_29 (fun q_38 fq_38 gq_38 => ?_)
        refine lv_iload_n hx hb dX9_net_32 rfl (lv_at hl 1 rfl) ?_
        refine lv_aload_n hx hb dX9_net_33 rfl (lv_at hl 0 rfl) ?_
        refine lv_aload_n hx hb dX9_net_34 rfl (lv_at hl 2 rfl) ?_
        refine hx_getn hx hb hts hC_9 hown hW hT (gx.S hM) tt_9 14 (by decide) rfl kw_378 ⟨rfl, rfl, rfl⟩ dX9_net_35 (fun q_39 fq_39 gq_39 => ?_)
        refine lv_aload_n hx hb dX9_net_38 rfl (lv_at hl 2 rfl) ?_
        refine hx_geti hx hb hts hC_9 hown hW hT (gx.S hM) tt_9 2 (by decide) rfl kw_366 ⟨rfl, rfl, rfl⟩ dX9_net_39 (fun x_40 ex_40 lx_40 ux_40 => ?_)
        have fx_40 := ex_40.symm
        refine lv_aload_n hx hb dX9_net_42 rfl (lv_at hl 2 rfl) ?_
        refine hk_geti hx hb hts hC_9 hown hW (gx.S hM) tt_9 2 (by decide) rfl kw_366 ⟨rfl, rfl, rfl⟩ fx_40 dX9_net_43 ?_
        refine hx_goi (hx_runV (As := [.ref q_39, .int x_40, .int x_40]) (rest := [.int iv13_1, .ref q_38]) ⟨hx, hb, hml, hown, hts⟩ hW gq_37 tt_2 (T := TX2) (N := 19) rfl (t_X2_restOn l dC dI dA hL1 hl1 H.size q_37 q_39 x_40 x_40 hT gq_37 gq_39) (cwV 3 hts (hx_gV kw_861 kw_927 kw_859 kw_860 kw_110) rfl rfl rfl (by decide +kernel) ⟨Nat.le_of_ble_eq_true rfl, Nat.le_of_ble_eq_true rfl⟩) rfl hl.1 rfl (Nat.le_of_ble_eq_true rfl) dX9_net_46 ⟨Nat.le_of_ble_eq_true rfl, Nat.le_of_ble_eq_true rfl⟩) hW (fun r_43 L_41 h_42 H locs p_44 hW => ?_)
        obtain ⟨hr_45, hT, hs⟩ := p_44
        replace hT : hx_T T_tb L_41 h_42 := hT
        replace hs : hx_S T_tb [] hL1 hl1 L_41 h_42 := hs
        replace fq_1 := (hs.o (gx.S hM) trivial rfl).2.trans fq_1
        replace fx_2 := (hs.o (gx.S hM) trivial rfl).1.trans fx_2
        replace fx_8 := (hs.o (gx.S hM) trivial rfl).1.trans fx_8
        replace fq_38 := (hs.o (gx.S hM) trivial rfl).2.trans fq_38
        replace fq_39 := (hs.o (gx.S hM) trivial rfl).2.trans fq_39
        replace fx_40 := (hs.o (gx.S hM) trivial rfl).1.trans fx_40
        replace pf_x_11 : ∀ j : Nat, (j : Int) < (h_42.2.1 x 11).toInt → h_42.2.2 qc j ≠ none := by
          intro j hj; rw [(hs.o (gx.S hM) trivial rfl).1] at hj; rw [(hs.a (gqc.S hM) rfl j).2]; exact pf_x_11 j hj
        replace hM := hM.tr (hs.mono (by decide))
        replace gq_1 := gq_1.S hs
        replace gq_37 := gq_37.S hs
        replace gq_38 := gq_38.S hs
        replace gq_39 := gq_39.S hs
        refine hx_iast hx hb hW hT (hx_S.rf (M := [(48, 0)])) gq_38 tt_48 rfl ⟨by omega, by omega⟩ rfl (i32_r _) (List.mem_singleton.mpr rfl) dX9_net_49 (fun H locs h_46 eh_46 hW hT hs => ?_)
        replace fq_1 := (hs.o (gx.S hM) trivial rfl).2.trans fq_1
        replace fx_2 := (hs.o (gx.S hM) trivial rfl).1.trans fx_2
        replace fx_8 := (hs.o (gx.S hM) trivial rfl).1.trans fx_8
        replace fq_38 := (hs.o (gx.S hM) trivial rfl).2.trans fq_38
        replace fq_39 := (hs.o (gx.S hM) trivial rfl).2.trans fq_39
        replace fx_40 := (hs.o (gx.S hM) trivial rfl).1.trans fx_40
        replace pf_x_11 : ∀ j : Nat, (j : Int) < (h_46.2.1 x 11).toInt → h_46.2.2 qc j ≠ none := by
          intro j hj; rw [(hs.o (gx.S hM) trivial rfl).1] at hj; rw [(hs.a (gqc.S hM) rfl j).2]; exact pf_x_11 j hj
        replace hM := hM.tr (hs.mono (by decide))
        replace gq_1 := gq_1.S hs
        replace gq_37 := gq_37.S hs
        replace gq_38 := gq_38.S hs
        replace gq_39 := gq_39.S hs
        refine lv_aload_n hx hb dX9_net_50 rfl (lv_at hl 2 rfl) ?_
        refine hk_getr hx hb hts hC_9 hown hW (gx.S hM) tt_9 18 (by decide) rfl kw_382 ⟨rfl, rfl, rfl⟩ fq_1 dX9_net_51 ?_
        refine lv_aload_n hx hb dX9_net_54 rfl (lv_at hl 0 rfl) ?_
        refine hx_getn hx hb hts hC_2 hown hW hT gq_37 tt_2 2 (by decide) rfl kw_733 ⟨rfl, rfl, rfl⟩ dX9_net_55 (fun q_47 fq_47 gq_47 => ?_)
        refine hx_geti hx hb hts hC_4 hown hW hT gq_47 tt_4 0 (by decide) rfl kw_612 ⟨rfl, rfl, rfl⟩ dX9_net_58 (fun x_48 ex_48 lx_48 ux_48 => ?_)
        have fx_48 := ex_48.symm
        refine lv_aload_n hx hb dX9_net_61 rfl (lv_at hl 0 rfl) ?_
        refine hx_getn hx hb hts hC_2 hown hW hT gq_37 tt_2 1 (by decide) rfl kw_728 ⟨rfl, rfl, rfl⟩ dX9_net_62 (fun q_49 fq_49 gq_49 => ?_)
        refine hx_geti hx hb hts hC_4 hown hW hT gq_49 tt_4 0 (by decide) rfl kw_612 ⟨rfl, rfl, rfl⟩ dX9_net_65 (fun x_50 ex_50 lx_50 ux_50 => ?_)
        have fx_50 := ex_50.symm
        refine lv_aload_n hx hb dX9_net_68 rfl (lv_at hl 2 rfl) ?_
        refine hk_getr hx hb hts hC_9 hown hW (gx.S hM) tt_9 16 (by decide) rfl kw_380 ⟨rfl, rfl, rfl⟩ fq_38 dX9_net_69 ?_
        refine lv_iload_n hx hb dX9_net_72 rfl (lv_at hl 1 rfl) ?_
        refine hx_iald hx hb hW hT gq_38 tt_48 rfl ⟨by omega, by omega⟩ dX9_net_73 (fun x_51 ex_51 lx_51 ux_51 => ?_)
        refine hx_gov (hx_runV (As := [.int x_48, .int x_50, .int x_51]) (rest := []) ⟨hx, hb, hml, hown, hts⟩ hW gq_1 tt_7 (T := TX7) (N := 8) rfl (t_X7_owe l dC dI dA L_41 h_46 H.size q_1 x_48 x_50 x_51 hT gq_1 ⟨by omega, by omega⟩ ⟨by omega, by omega⟩) (cwV 3 hts (hx_gV kw_992 kw_989 kw_990 kw_991 kw_101) rfl rfl rfl (by decide +kernel) ⟨Nat.le_of_ble_eq_true rfl, Nat.le_of_ble_eq_true rfl⟩) rfl hl.1 rfl (Nat.le_of_ble_eq_true rfl) dX9_net_74 ⟨Nat.le_of_ble_eq_true rfl, Nat.le_of_ble_eq_true rfl⟩) hW (fun L_52 h_53 H locs p_55 hW => ?_)
        obtain ⟨hT, hs⟩ := p_55
        replace hT : hx_T T_tb L_52 h_53 := hT
        replace hs : hx_S T_tb [(36, 0)] L_41 h_46 L_52 h_53 := hs
        replace fq_1 := (hs.o (gx.S hM) trivial rfl).2.trans fq_1
        replace fx_2 := (hs.o (gx.S hM) trivial rfl).1.trans fx_2
        replace fx_8 := (hs.o (gx.S hM) trivial rfl).1.trans fx_8
        replace fq_38 := (hs.o (gx.S hM) trivial rfl).2.trans fq_38
        replace fq_39 := (hs.o (gx.S hM) trivial rfl).2.trans fq_39
        replace fx_40 := (hs.o (gx.S hM) trivial rfl).1.trans fx_40
        replace fq_47 := (hs.o gq_37 trivial rfl).2.trans fq_47
        replace fx_48 := (hs.o gq_47 trivial rfl).1.trans fx_48
        replace fq_49 := (hs.o gq_37 trivial rfl).2.trans fq_49
        replace fx_50 := (hs.o gq_49 trivial rfl).1.trans fx_50
        replace pf_x_11 : ∀ j : Nat, (j : Int) < (h_53.2.1 x 11).toInt → h_53.2.2 qc j ≠ none := by
          intro j hj; rw [(hs.o (gx.S hM) trivial rfl).1] at hj; rw [(hs.a (gqc.S hM) rfl j).2]; exact pf_x_11 j hj
        replace ex_51 := ex_51.trans (hs.a gq_38 rfl _).1.symm
        replace hM := hM.tr (hs.mono (by decide))
        replace gq_1 := gq_1.S hs
        replace gq_37 := gq_37.S hs
        replace gq_38 := gq_38.S hs
        replace gq_39 := gq_39.S hs
        replace gq_47 := gq_47.S hs
        replace gq_49 := gq_49.S hs
        obtain ⟨x_57, ex_57⟩ : ∃ y : Int32, y = iv13_1 + Int32.ofInt 1 := ⟨_, rfl⟩
        have rg_58 := i32_r iv13_1
        have zx_57 : x_57.toInt = iv13_1.toInt + (1) := by rw [ex_57]; exact i32_add rfl (by decide) (by omega) (by omega)
        refine lv_iinc (v := x_57) (lv' := [(1, .int x_57), (2, .ref q_37), (0, .ref x)]) hx hb dX9_net_77 hl (k := 1) rfl ex_57.symm (by decide) rfl (fun ls hl => ?_)
        refine lv_goto (tgt := 13) hx hb dX9_net_80 (by decide) ?_
        exact ih13 x_57 _ _ L_52 h_53 (by omega) (by omega)  ls (by omega) hW hT hM fq_1 fx_2 gq_1 pf_x_11 (lv_sub hl [0, 2] rfl)
  have zk_0 : (0 : Int32).toInt = 0 := by decide
  exact loop13 101 (0 : Int32) _ _ L_3 h_4 (by decide) (by decide)  ls (by omega) hW hT hM fq_1 fx_2 gq_1 pf_x_11 hl
