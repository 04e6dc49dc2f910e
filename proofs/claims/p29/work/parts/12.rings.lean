theorem dX7_isInRing_0 : decode cX7_isInRing 0 = .ok (.iconst 0, 1) := by decide +kernel
theorem dX7_isInRing_1 : decode cX7_isInRing 1 = .ok (.istore_n 3, 1) := by decide +kernel
theorem dX7_isInRing_2 : decode cX7_isInRing 2 = .ok (.iload_n 3, 1) := by decide +kernel
theorem dX7_isInRing_3 : decode cX7_isInRing 3 = .ok (.iload_n 2, 1) := by decide +kernel
theorem dX7_isInRing_4 : decode cX7_isInRing 4 = .ok (.if_icmp .ge 21, 3) := by decide +kernel
theorem dX7_isInRing_7 : decode cX7_isInRing 7 = .ok (.aload_n 0, 1) := by decide +kernel
theorem dX7_isInRing_8 : decode cX7_isInRing 8 = .ok (.getfield 22, 3) := by decide +kernel
theorem dX7_isInRing_11 : decode cX7_isInRing 11 = .ok (.iload_n 3, 1) := by decide +kernel
theorem dX7_isInRing_12 : decode cX7_isInRing 12 = .ok (.iaload, 1) := by decide +kernel
theorem dX7_isInRing_13 : decode cX7_isInRing 13 = .ok (.iload_n 1, 1) := by decide +kernel
theorem dX7_isInRing_14 : decode cX7_isInRing 14 = .ok (.if_icmp .ne 5, 3) := by decide +kernel
theorem dX7_isInRing_17 : decode cX7_isInRing 17 = .ok (.iconst 1, 1) := by decide +kernel
theorem dX7_isInRing_18 : decode cX7_isInRing 18 = .ok (.ireturn, 1) := by decide +kernel
theorem dX7_isInRing_19 : decode cX7_isInRing 19 = .ok (.iinc 3 1, 3) := by decide +kernel
theorem dX7_isInRing_22 : decode cX7_isInRing 22 = .ok (.goto (-20), 3) := by decide +kernel
theorem dX7_isInRing_25 : decode cX7_isInRing 25 = .ok (.iconst 0, 1) := by decide +kernel
theorem dX7_isInRing_26 : decode cX7_isInRing 26 = .ok (.ireturn, 1) := by decide +kernel
set_option maxHeartbeats 4000000 in
set_option maxRecDepth 100000 in
theorem t_X7_isInRing (l : Launch) (dC : Nat → ClassId) (dI : Nat → Nat → Nat) (dA : Nat → ClassId) (L : List Nat) (h : hx_h) (sz : Nat) (x : Nat) (i1 : Int32) (i2 : Int32) (hT : hx_T T_tb L h) (gx : hx_g L h x 7) (hi2 : i2.toInt ≤ 4) : Met l yX7_isInRing (Cond.code yX7_isInRing cX7_isInRing 4 (some .boolean) :: hx_all) ({ frames := 0, cells := 0, slots := 0, locals := 0 }) (va_Pc [.ref x, .int i1, .int i2] (hx_B T_tb (P_ty dA) (dC, dI) vwCl L h sz)) (va_Qi (fun (r : Int32) (u : List Nat × hx_h) => (r.toInt = 0 ∨ r.toInt = 1) ∧ hx_T T_tb u.1 u.2 ∧ hx_S T_tb [] L h u.1 u.2) (hx_E T_tb (P_ty dA) (dC, dI) vwCl (hx_A L sz)) (hx_A L sz)) 0 0 (hx_A L sz) := by
  refine hx_met (lv := [(0, .ref x), (1, .int i1), (2, .int i2)]) (by decide +kernel) rfl (Nat.le_of_ble_eq_true rfl) rfl ?_
  intro p e s m below meth c hx hb hml hr hlk hts0 hown hin hsz hW ls hl
  have hts : ∀ w ∈ hx_all, w.before _ s = true := fun w hw => hts0 w (List.mem_cons_of_mem _ hw)
  have hown : s.vm.findClass "SmallCourt$Rings" = some m.cls := hown
  have hM : hx_S T_tb [] L h L h := hx_S.rf
  refine lv_iconst (v := 0) hx hb dX7_isInRing_0 (by decide) ?_
  refine lv_istore_n (lv' := [(3, .int (0 : Int32)), (0, .ref x), (1, .int i1), (2, .int i2)]) hx hb dX7_isInRing_1 rfl hl (by decide) rfl (fun ls hl => ?_)
  have loop2 : ∀ (n2 : Nat) (iv2_3 : Int32) (H : Heap) (locs : List Loc) (hL1 : List Nat) (hl1 : hx_h) (ls : Array Slot), 0 ≤ iv2_3.toInt → iv2_3.toInt ≤ 2147483647 → 2147483647 < iv2_3.toInt + n2 → hx_W T_tb (P_ty dA) (dC, dI) vwCl (hx_A L sz) s.heap hL1 hl1 s H locs → hx_T T_tb hL1 hl1 → hx_S T_tb [] L h hL1 hl1 → hx_g hL1 hl1 x 7 → lv_has ls 4 [(3, .int iv2_3), (0, .ref x), (1, .int i1), (2, .int i2)] → W p l e ({ frames := 0, cells := 0, slots := 0, locals := 0 }) s m ([.ref x, .int i1, .int i2] : List Value).toArray below meth c H locs 0 0 (MQ below (va_Qi (fun (r : Int32) (u : List Nat × hx_h) => (r.toInt = 0 ∨ r.toInt = 1) ∧ hx_T T_tb u.1 u.2 ∧ hx_S T_tb [] L h u.1 u.2) (hx_E T_tb (P_ty dA) (dC, dI) vwCl (hx_A L sz)) (hx_A L sz)) ([.ref x, .int i1, .int i2] : List Value).toArray s 0 0 (hx_A L sz)) (F0 m 2 ls []) := by
    intro n2
    induction n2 with
    | zero => intro iv2_3 H locs hL1 hl1 ls bl2_3 bu2_3 hn2; exfalso; omega
    | succ n2 ih2 =>
      intro iv2_3 H locs hL1 hl1 ls bl2_3 bu2_3 hn2 hW hT hM  gx  hl
      refine lv_iload_n hx hb dX7_isInRing_2 rfl (lv_at hl 0 rfl) ?_
      refine lv_iload_n hx hb dX7_isInRing_3 rfl (lv_at hl 3 rfl) ?_
      refine hb_icmp_ge (zx := iv2_3.toInt) (zy := i2.toInt) (tgt := 25) hx hb rfl rfl dX7_isInRing_4 (by decide) (fun c_1 => ?_) (fun c_1 => ?_)
      · skip
        refine lv_iconst (v := 0) hx hb dX7_isInRing_25 (by decide) ?_
        exact hx_retz hx hb hr rfl hlk hW ⟨(by decide), hT, hM⟩ dX7_isInRing_26
      · skip
        refine lv_aload_n hx hb dX7_isInRing_7 rfl (lv_at hl 1 rfl) ?_
        refine hx_getn hx hb hts hC_7 hown hW hT gx tt_7 6 (by decide) rfl kw_319 ⟨rfl, rfl, rfl⟩ dX7_isInRing_8 (fun q_2 fq_2 gq_2 => ?_)
        refine lv_iload_n hx hb dX7_isInRing_11 rfl (lv_at hl 0 rfl) ?_
        refine hx_iald hx hb hW hT gq_2 tt_37 rfl ⟨by omega, by omega⟩ dX7_isInRing_12 (fun x_3 ex_3 lx_3 ux_3 => ?_)
        refine lv_iload_n hx hb dX7_isInRing_13 rfl (lv_at hl 2 rfl) ?_
        refine hb_icmp_ne (zx := x_3.toInt) (zy := i1.toInt) (tgt := 19) hx hb rfl rfl dX7_isInRing_14 (by decide) (fun c_4 => ?_) (fun c_4 => ?_)
        · skip
          obtain ⟨x_5, ex_5⟩ : ∃ y : Int32, y = iv2_3 + Int32.ofInt 1 := ⟨_, rfl⟩
          have rg_6 := i32_r iv2_3
          have zx_5 : x_5.toInt = iv2_3.toInt + (1) := by rw [ex_5]; exact i32_add rfl (by decide) (by omega) (by omega)
          refine lv_iinc (v := x_5) (lv' := [(3, .int x_5), (0, .ref x), (1, .int i1), (2, .int i2)]) hx hb dX7_isInRing_19 hl (k := 0) rfl ex_5.symm (by decide) rfl (fun ls hl => ?_)
          refine lv_goto (tgt := 2) hx hb dX7_isInRing_22 (by decide) ?_
          exact ih2 x_5 _ _ hL1 hl1 ls (by omega) (by omega) (by omega) hW hT hM  gx  (lv_sub hl [0, 1, 2, 3] rfl)
        · skip
          refine lv_iconst (v := 1) hx hb dX7_isInRing_17 (by decide) ?_
          exact hx_retz hx hb hr rfl hlk hW ⟨(by decide), hT, hM⟩ dX7_isInRing_18
  exact loop2 2147483648 (0 : Int32) _ _ L h ls (by decide) (by decide) (by decide) hW hT hM  gx  hl

def wLX7_clear_0 : List Nat := [42, 27, 181, 0, 28, 42, 3, 181, 0, 9, 3, 61, 28, 42, 180, 0, 19, 190, 162, 0, 16, 42, 180, 0, 19, 28, 3, 79, 132, 2, 1, 167, 255, 237, 177]
theorem wX7_clear_0 : (cX7_clear.data.toList.map UInt8.toNat).drop 0 = wLX7_clear_0 ++ ([]) := by decide +kernel
theorem dX7_clear_0 : decode cX7_clear 0 = .ok (.aload_n 0, 1) := dq_42 (hz_wg wX7_clear_0 (j := 0) (n := 42) rfl)
theorem dX7_clear_1 : decode cX7_clear 1 = .ok (.iload_n 1, 1) := dq_27 (hz_wg wX7_clear_0 (j := 1) (n := 27) rfl)
theorem dX7_clear_2 : decode cX7_clear 2 = .ok (.putfield 28, 3) := dq_181 (hz_wg wX7_clear_0 (j := 2) (n := 181) rfl) (hz_wg wX7_clear_0 (j := 3) (n := 0) rfl) (hz_wg wX7_clear_0 (j := 4) (n := 28) rfl) rfl
theorem dX7_clear_5 : decode cX7_clear 5 = .ok (.aload_n 0, 1) := dq_42 (hz_wg wX7_clear_0 (j := 5) (n := 42) rfl)
theorem dX7_clear_6 : decode cX7_clear 6 = .ok (.iconst 0, 1) := dq_3 (hz_wg wX7_clear_0 (j := 6) (n := 3) rfl)
theorem dX7_clear_7 : decode cX7_clear 7 = .ok (.putfield 9, 3) := dq_181 (hz_wg wX7_clear_0 (j := 7) (n := 181) rfl) (hz_wg wX7_clear_0 (j := 8) (n := 0) rfl) (hz_wg wX7_clear_0 (j := 9) (n := 9) rfl) rfl
theorem dX7_clear_10 : decode cX7_clear 10 = .ok (.iconst 0, 1) := dq_3 (hz_wg wX7_clear_0 (j := 10) (n := 3) rfl)
theorem dX7_clear_11 : decode cX7_clear 11 = .ok (.istore_n 2, 1) := dq_61 (hz_wg wX7_clear_0 (j := 11) (n := 61) rfl)
theorem dX7_clear_12 : decode cX7_clear 12 = .ok (.iload_n 2, 1) := dq_28 (hz_wg wX7_clear_0 (j := 12) (n := 28) rfl)
theorem dX7_clear_13 : decode cX7_clear 13 = .ok (.aload_n 0, 1) := dq_42 (hz_wg wX7_clear_0 (j := 13) (n := 42) rfl)
theorem dX7_clear_14 : decode cX7_clear 14 = .ok (.getfield 19, 3) := dq_180 (hz_wg wX7_clear_0 (j := 14) (n := 180) rfl) (hz_wg wX7_clear_0 (j := 15) (n := 0) rfl) (hz_wg wX7_clear_0 (j := 16) (n := 19) rfl) rfl
theorem dX7_clear_17 : decode cX7_clear 17 = .ok (.arraylength, 1) := dq_190 (hz_wg wX7_clear_0 (j := 17) (n := 190) rfl)
theorem dX7_clear_18 : decode cX7_clear 18 = .ok (.if_icmp .ge 16, 3) := dq_162 (hz_wg wX7_clear_0 (j := 18) (n := 162) rfl) (hz_wg wX7_clear_0 (j := 19) (n := 0) rfl) (hz_wg wX7_clear_0 (j := 20) (n := 16) rfl) (by decide)
theorem dX7_clear_21 : decode cX7_clear 21 = .ok (.aload_n 0, 1) := dq_42 (hz_wg wX7_clear_0 (j := 21) (n := 42) rfl)
theorem dX7_clear_22 : decode cX7_clear 22 = .ok (.getfield 19, 3) := dq_180 (hz_wg wX7_clear_0 (j := 22) (n := 180) rfl) (hz_wg wX7_clear_0 (j := 23) (n := 0) rfl) (hz_wg wX7_clear_0 (j := 24) (n := 19) rfl) rfl
theorem dX7_clear_25 : decode cX7_clear 25 = .ok (.iload_n 2, 1) := dq_28 (hz_wg wX7_clear_0 (j := 25) (n := 28) rfl)
theorem dX7_clear_26 : decode cX7_clear 26 = .ok (.iconst 0, 1) := dq_3 (hz_wg wX7_clear_0 (j := 26) (n := 3) rfl)
theorem dX7_clear_27 : decode cX7_clear 27 = .ok (.iastore, 1) := dq_79 (hz_wg wX7_clear_0 (j := 27) (n := 79) rfl)
theorem dX7_clear_28 : decode cX7_clear 28 = .ok (.iinc 2 1, 3) := dq_132 (hz_wg wX7_clear_0 (j := 28) (n := 132) rfl) (hz_wg wX7_clear_0 (j := 29) (n := 2) rfl) (hz_wg wX7_clear_0 (j := 30) (n := 1) rfl) (by decide)
theorem dX7_clear_31 : decode cX7_clear 31 = .ok (.goto (-19), 3) := dq_167 (hz_wg wX7_clear_0 (j := 31) (n := 167) rfl) (hz_wg wX7_clear_0 (j := 32) (n := 255) rfl) (hz_wg wX7_clear_0 (j := 33) (n := 237) rfl) (by decide)
theorem dX7_clear_34 : decode cX7_clear 34 = .ok (.return_, 1) := dq_177 (hz_wg wX7_clear_0 (j := 34) (n := 177) rfl)
set_option maxHeartbeats 4000000 in
set_option maxRecDepth 100000 in
theorem t_X7_clear (l : Launch) (dC : Nat → ClassId) (dI : Nat → Nat → Nat) (dA : Nat → ClassId) (L : List Nat) (h : hx_h) (sz : Nat) (x : Nat) (i1 : Int32) (hT : hx_T T_tb L h) (gx : hx_g L h x 7) (hi1 : 0 ≤ i1.toInt ∧ i1.toInt ≤ 40) : Met l yX7_clear (Cond.code yX7_clear cX7_clear 3 none :: hx_all) ({ frames := 0, cells := 0, slots := 0, locals := 0 }) (va_Pc [.ref x, .int i1] (hx_B T_tb (P_ty dA) (dC, dI) vwCl L h sz)) (va_Qv (fun (u : List Nat × hx_h) => hx_T T_tb u.1 u.2 ∧ hx_S T_tb [(7, 0), (7, 4), (36, 0)] L h u.1 u.2) (hx_E T_tb (P_ty dA) (dC, dI) vwCl (hx_A L sz)) (hx_A L sz)) 0 0 (hx_A L sz) := by
  refine hx_met (lv := [(0, .ref x), (1, .int i1)]) (by decide +kernel) rfl (Nat.le_of_ble_eq_true rfl) rfl ?_
  intro p e s m below meth c hx hb hml hr hlk hts0 hown hin hsz hW ls hl
  have hts : ∀ w ∈ hx_all, w.before _ s = true := fun w hw => hts0 w (List.mem_cons_of_mem _ hw)
  have hown : s.vm.findClass "SmallCourt$Rings" = some m.cls := hown
  have hM : hx_S T_tb [(7, 0), (7, 4), (36, 0)] L h L h := hx_S.rf
  refine lv_aload_n hx hb dX7_clear_0 rfl (lv_at hl 0 rfl) ?_
  refine lv_iload_n hx hb dX7_clear_1 rfl (lv_at hl 1 rfl) ?_
  refine hx_puti hx hb hts hC_7 hown hW hT (hx_S.rf (M := [(7, 4)])) gx tt_7 4 (by decide) rfl kw_317 ⟨rfl, rfl, rfl⟩ rfl (x := i1) ⟨by omega, by omega⟩ rfl rfl rfl (List.mem_singleton.mpr rfl) dX7_clear_2 (fun H locs h_1 eh_1 hW hT hs => ?_)
  replace hM := hM.tr (hs.mono (by decide))
  replace gx := gx.S hs
  have f_2 : h_1.2.1 x 4 = i1 := by rw [eh_1]; exact hx_pi_at _ _ _ _
  refine lv_aload_n hx hb dX7_clear_5 rfl (lv_at hl 0 rfl) ?_
  refine lv_iconst (v := 0) hx hb dX7_clear_6 (by decide) ?_
  refine hx_puti hx hb hts hC_7 hown hW hT (hx_S.rf (M := [(7, 0)])) gx tt_7 0 (by decide) rfl kw_309 ⟨rfl, rfl, rfl⟩ rfl (x := (0 : Int32)) (by decide) rfl rfl rfl (List.mem_singleton.mpr rfl) dX7_clear_7 (fun H locs h_3 eh_3 hW hT hs => ?_)
  replace f_2 := (hs.o gx trivial rfl).1.trans f_2
  replace hM := hM.tr (hs.mono (by decide))
  replace gx := gx.S hs
  have f_4 : h_3.2.1 x 0 = (0 : Int32) := by rw [eh_3]; exact hx_pi_at _ _ _ _
  refine lv_iconst (v := 0) hx hb dX7_clear_10 (by decide) ?_
  refine lv_istore_n (lv' := [(2, .int (0 : Int32)), (0, .ref x), (1, .int i1)]) hx hb dX7_clear_11 rfl hl (by decide) rfl (fun ls hl => ?_)
  have loop12 : ∀ (n12 : Nat) (iv12_2 : Int32) (H : Heap) (locs : List Loc) (hL1 : List Nat) (hl1 : hx_h) (ls : Array Slot), 0 ≤ iv12_2.toInt → iv12_2.toInt ≤ 1600 → 1600 < iv12_2.toInt + n12 → hx_W T_tb (P_ty dA) (dC, dI) vwCl (hx_A L sz) s.heap hL1 hl1 s H locs → hx_T T_tb hL1 hl1 → hx_S T_tb [(7, 0), (7, 4), (36, 0)] L h hL1 hl1 → hx_g hL1 hl1 x 7 → lv_has ls 3 [(2, .int iv12_2), (0, .ref x), (1, .int i1)] → W p l e ({ frames := 0, cells := 0, slots := 0, locals := 0 }) s m ([.ref x, .int i1] : List Value).toArray below meth c H locs 0 0 (MQ below (va_Qv (fun (u : List Nat × hx_h) => hx_T T_tb u.1 u.2 ∧ hx_S T_tb [(7, 0), (7, 4), (36, 0)] L h u.1 u.2) (hx_E T_tb (P_ty dA) (dC, dI) vwCl (hx_A L sz)) (hx_A L sz)) ([.ref x, .int i1] : List Value).toArray s 0 0 (hx_A L sz)) (F0 m 12 ls []) := by
    intro n12
    induction n12 with
    | zero => intro iv12_2 H locs hL1 hl1 ls bl12_2 bu12_2 hn12; exfalso; omega
    | succ n12 ih12 =>
      intro iv12_2 H locs hL1 hl1 ls bl12_2 bu12_2 hn12 hW hT hM  gx  hl
      refine lv_iload_n hx hb dX7_clear_12 rfl (lv_at hl 0 rfl) ?_
      refine lv_aload_n hx hb dX7_clear_13 rfl (lv_at hl 1 rfl) ?_
      refine hx_getn hx hb hts hC_7 hown hW hT gx tt_7 5 (by decide) rfl kw_318 ⟨rfl, rfl, rfl⟩ dX7_clear_14 (fun q_5 fq_5 gq_5 => ?_)
      refine hx_alen hx hb hW gq_5 tt_36 rfl dX7_clear_17 ?_
      refine lv_topi (fun x_6 ex_6 => ?_)
      obtain rfl : x_6 = (1600 : Int32) := ex_6.trans (by decide)
      refine hb_icmp_ge (zx := iv12_2.toInt) (zy := 1600) (tgt := 34) hx hb rfl (by decide) dX7_clear_18 (by decide) (fun c_7 => ?_) (fun c_7 => ?_)
      · skip
        exact hx_retv hx hb hr hlk hW ⟨hT, hM⟩ dX7_clear_34
      · skip
        refine lv_aload_n hx hb dX7_clear_21 rfl (lv_at hl 1 rfl) ?_
        refine hk_getr hx hb hts hC_7 hown hW gx tt_7 5 (by decide) rfl kw_318 ⟨rfl, rfl, rfl⟩ fq_5 dX7_clear_22 ?_
        refine lv_iload_n hx hb dX7_clear_25 rfl (lv_at hl 0 rfl) ?_
        refine lv_iconst (v := 0) hx hb dX7_clear_26 (by decide) ?_
        refine hx_iast hx hb hW hT (hx_S.rf (M := [(36, 0)])) gq_5 tt_36 rfl ⟨by omega, by omega⟩ rfl (by decide) (List.mem_singleton.mpr rfl) dX7_clear_27 (fun H locs h_8 eh_8 hW hT hs => ?_)
        replace fq_5 := (hs.o gx trivial rfl).2.trans fq_5
        replace hM := hM.tr (hs.mono (by decide))
        replace gx := gx.S hs
        replace gq_5 := gq_5.S hs
        obtain ⟨x_9, ex_9⟩ : ∃ y : Int32, y = iv12_2 + Int32.ofInt 1 := ⟨_, rfl⟩
        have rg_10 := i32_r iv12_2
        have zx_9 : x_9.toInt = iv12_2.toInt + (1) := by rw [ex_9]; exact i32_add rfl (by decide) (by omega) (by omega)
        refine lv_iinc (v := x_9) (lv' := [(2, .int x_9), (0, .ref x), (1, .int i1)]) hx hb dX7_clear_28 hl (k := 0) rfl ex_9.symm (by decide) rfl (fun ls hl => ?_)
        refine lv_goto (tgt := 12) hx hb dX7_clear_31 (by decide) ?_
        exact ih12 x_9 _ _ hL1 h_8 ls (by omega) (by omega) (by omega) hW hT hM  gx  (lv_sub hl [0, 1, 2] rfl)
  exact loop12 1601 (0 : Int32) _ _ L h_3 ls (by decide) (by decide) (by decide) hW hT hM  gx  hl

theorem dX7_owe_0 : decode cX7_owe 0 = .ok (.aload_n 0, 1) := by decide +kernel
theorem dX7_owe_1 : decode cX7_owe 1 = .ok (.getfield 19, 3) := by decide +kernel
theorem dX7_owe_4 : decode cX7_owe 4 = .ok (.iload_n 1, 1) := by decide +kernel
theorem dX7_owe_5 : decode cX7_owe 5 = .ok (.bipush 40, 2) := by decide +kernel
theorem dX7_owe_7 : decode cX7_owe 7 = .ok (.imul, 1) := by decide +kernel
theorem dX7_owe_8 : decode cX7_owe 8 = .ok (.iload_n 2, 1) := by decide +kernel
theorem dX7_owe_9 : decode cX7_owe 9 = .ok (.iadd, 1) := by decide +kernel
theorem dX7_owe_10 : decode cX7_owe 10 = .ok (.dup2, 1) := by decide +kernel
theorem dX7_owe_11 : decode cX7_owe 11 = .ok (.iaload, 1) := by decide +kernel
theorem dX7_owe_12 : decode cX7_owe 12 = .ok (.iload_n 3, 1) := by decide +kernel
theorem dX7_owe_13 : decode cX7_owe 13 = .ok (.iadd, 1) := by decide +kernel
theorem dX7_owe_14 : decode cX7_owe 14 = .ok (.iastore, 1) := by decide +kernel
theorem dX7_owe_15 : decode cX7_owe 15 = .ok (.return_, 1) := by decide +kernel
set_option maxHeartbeats 4000000 in
set_option maxRecDepth 100000 in
theorem t_X7_owe (l : Launch) (dC : Nat → ClassId) (dI : Nat → Nat → Nat) (dA : Nat → ClassId) (L : List Nat) (h : hx_h) (sz : Nat) (x : Nat) (i1 : Int32) (i2 : Int32) (i3 : Int32) (hT : hx_T T_tb L h) (gx : hx_g L h x 7) (hi1 : 0 ≤ i1.toInt ∧ i1.toInt ≤ 39) (hi2 : 0 ≤ i2.toInt ∧ i2.toInt ≤ 39) : Met l yX7_owe (Cond.code yX7_owe cX7_owe 4 none :: hx_all) ({ frames := 0, cells := 0, slots := 0, locals := 0 }) (va_Pc [.ref x, .int i1, .int i2, .int i3] (hx_B T_tb (P_ty dA) (dC, dI) vwCl L h sz)) (va_Qv (fun (u : List Nat × hx_h) => hx_T T_tb u.1 u.2 ∧ hx_S T_tb [(36, 0)] L h u.1 u.2) (hx_E T_tb (P_ty dA) (dC, dI) vwCl (hx_A L sz)) (hx_A L sz)) 0 0 (hx_A L sz) := by
  refine hx_met (lv := [(0, .ref x), (1, .int i1), (2, .int i2), (3, .int i3)]) (by decide +kernel) rfl (Nat.le_of_ble_eq_true rfl) rfl ?_
  intro p e s m below meth c hx hb hml hr hlk hts0 hown hin hsz hW ls hl
  have hts : ∀ w ∈ hx_all, w.before _ s = true := fun w hw => hts0 w (List.mem_cons_of_mem _ hw)
  have hown : s.vm.findClass "SmallCourt$Rings" = some m.cls := hown
  have hM : hx_S T_tb [(36, 0)] L h L h := hx_S.rf
  refine lv_aload_n hx hb dX7_owe_0 rfl (lv_at hl 0 rfl) ?_
  refine hx_getn hx hb hts hC_7 hown hW hT gx tt_7 5 (by decide) rfl kw_318 ⟨rfl, rfl, rfl⟩ dX7_owe_1 (fun q_1 fq_1 gq_1 => ?_)
  refine lv_iload_n hx hb dX7_owe_4 rfl (lv_at hl 1 rfl) ?_
  refine lv_bipush (v := 40) hx hb dX7_owe_5 (by decide) ?_
  refine lv_imul hx hb dX7_owe_7 ?_
  refine lv_topi (fun x_2 ex_2 => ?_)
  have zx_2 : x_2.toInt = i1.toInt * 40 := by rw [ex_2]; exact i32_mul rfl (by decide) rfl (by omega) (by omega)
  refine lv_iload_n hx hb dX7_owe_8 rfl (lv_at hl 2 rfl) ?_
  refine lv_iadd hx hb dX7_owe_9 ?_
  have rg_3 := i32_r x_2
  have rg_4 := i32_r i2
  refine lv_topi (fun x_5 ex_5 => ?_)
  have zx_5 : x_5.toInt = x_2.toInt + i2.toInt := by rw [ex_5]; exact i32_add rfl rfl (by omega) (by omega)
  refine lv_dup2_11 hx hb dX7_owe_10 rfl rfl ?_
  refine hx_iald hx hb hW hT gq_1 tt_36 rfl ⟨by omega, by omega⟩ dX7_owe_11 (fun x_6 ex_6 lx_6 ux_6 => ?_)
  refine lv_iload_n hx hb dX7_owe_12 rfl (lv_at hl 3 rfl) ?_
  refine lv_iadd hx hb dX7_owe_13 ?_
  have rg_7 := i32_r x_6
  have rg_8 := i32_r i3
  refine lv_topi (fun x_9 ex_9 => ?_)
  refine hx_iast hx hb hW hT (hx_S.rf (M := [(36, 0)])) gq_1 tt_36 rfl ⟨by omega, by omega⟩ rfl (i32_r _) (List.mem_singleton.mpr rfl) dX7_owe_14 (fun H locs h_10 eh_10 hW hT hs => ?_)
  replace fq_1 := (hs.o gx trivial rfl).2.trans fq_1
  replace hM := hM.tr (hs.mono (by decide))
  replace gx := gx.S hs
  replace gq_1 := gq_1.S hs
  exact hx_retv hx hb hr hlk hW ⟨hT, hM⟩ dX7_owe_15

theorem dX7_placeAfter_0 : decode cX7_placeAfter 0 = .ok (.iload_n 1, 1) := by decide +kernel
theorem dX7_placeAfter_1 : decode cX7_placeAfter 1 = .ok (.iconst 1, 1) := by decide +kernel
theorem dX7_placeAfter_2 : decode cX7_placeAfter 2 = .ok (.iadd, 1) := by decide +kernel
theorem dX7_placeAfter_3 : decode cX7_placeAfter 3 = .ok (.aload_n 0, 1) := by decide +kernel
theorem dX7_placeAfter_4 : decode cX7_placeAfter 4 = .ok (.getfield 31, 3) := by decide +kernel
theorem dX7_placeAfter_7 : decode cX7_placeAfter 7 = .ok (.if_icmp .ge 9, 3) := by decide +kernel
theorem dX7_placeAfter_10 : decode cX7_placeAfter 10 = .ok (.iload_n 1, 1) := by decide +kernel
theorem dX7_placeAfter_11 : decode cX7_placeAfter 11 = .ok (.iconst 1, 1) := by decide +kernel
theorem dX7_placeAfter_12 : decode cX7_placeAfter 12 = .ok (.iadd, 1) := by decide +kernel
theorem dX7_placeAfter_13 : decode cX7_placeAfter 13 = .ok (.goto 4, 3) := by decide +kernel
theorem dX7_placeAfter_16 : decode cX7_placeAfter 16 = .ok (.iconst 0, 1) := by decide +kernel
theorem dX7_placeAfter_17 : decode cX7_placeAfter 17 = .ok (.ireturn, 1) := by decide +kernel
set_option maxHeartbeats 4000000 in
set_option maxRecDepth 100000 in
theorem t_X7_placeAfter (l : Launch) (dC : Nat → ClassId) (dI : Nat → Nat → Nat) (dA : Nat → ClassId) (L : List Nat) (h : hx_h) (sz : Nat) (x : Nat) (i1 : Int32) (hT : hx_T T_tb L h) (gx : hx_g L h x 7) (hi1 : 0 ≤ i1.toInt ∧ i1.toInt ≤ 3) : Met l yX7_placeAfter (Cond.code yX7_placeAfter cX7_placeAfter 2 (some .int) :: hx_all) ({ frames := 0, cells := 0, slots := 0, locals := 0 }) (va_Pc [.ref x, .int i1] (hx_B T_tb (P_ty dA) (dC, dI) vwCl L h sz)) (va_Qi (fun (r : Int32) (u : List Nat × hx_h) => (0 ≤ r.toInt ∧ r.toInt ≤ 3) ∧ hx_T T_tb u.1 u.2 ∧ hx_S T_tb [] L h u.1 u.2) (hx_E T_tb (P_ty dA) (dC, dI) vwCl (hx_A L sz)) (hx_A L sz)) 0 0 (hx_A L sz) := by
  refine hx_met (lv := [(0, .ref x), (1, .int i1)]) (by decide +kernel) rfl (Nat.le_of_ble_eq_true rfl) rfl ?_
  intro p e s m below meth c hx hb hml hr hlk hts0 hown hin hsz hW ls hl
  have hts : ∀ w ∈ hx_all, w.before _ s = true := fun w hw => hts0 w (List.mem_cons_of_mem _ hw)
  have hown : s.vm.findClass "SmallCourt$Rings" = some m.cls := hown
  have hM : hx_S T_tb [] L h L h := hx_S.rf
  refine lv_iload_n hx hb dX7_placeAfter_0 rfl (lv_at hl 1 rfl) ?_
  refine lv_iconst (v := 1) hx hb dX7_placeAfter_1 (by decide) ?_
  refine lv_iadd hx hb dX7_placeAfter_2 ?_
  have rg_1 := i32_r i1
  refine lv_topi (fun x_2 ex_2 => ?_)
  have zx_2 : x_2.toInt = i1.toInt + 1 := by rw [ex_2]; exact i32_add rfl (by decide) (by omega) (by omega)
  refine lv_aload_n hx hb dX7_placeAfter_3 rfl (lv_at hl 0 rfl) ?_
  refine hx_geti hx hb hts hC_7 hown hW hT gx tt_7 1 (by decide) rfl kw_311 ⟨rfl, rfl, rfl⟩ dX7_placeAfter_4 (fun x_3 ex_3 lx_3 ux_3 => ?_)
  have fx_3 := ex_3.symm
  refine hb_icmp_ge (zx := x_2.toInt) (zy := x_3.toInt) (tgt := 16) hx hb rfl rfl dX7_placeAfter_7 (by decide) (fun c_4 => ?_) (fun c_4 => ?_)
  · skip
    refine lv_iconst (v := 0) hx hb dX7_placeAfter_16 (by decide) ?_
    exact hx_reti hx hb hr hlk hW ⟨(by decide), hT, hM⟩ dX7_placeAfter_17
  · skip
    refine lv_iload_n hx hb dX7_placeAfter_10 rfl (lv_at hl 1 rfl) ?_
    refine lv_iconst (v := 1) hx hb dX7_placeAfter_11 (by decide) ?_
    refine lv_iadd hx hb dX7_placeAfter_12 ?_
    refine lv_topi (fun x_5 ex_5 => ?_)
    have zx_5 : x_5.toInt = i1.toInt + 1 := by rw [ex_5]; exact i32_add rfl (by decide) (by omega) (by omega)
    refine lv_goto (tgt := 17) hx hb dX7_placeAfter_13 (by decide) ?_
    exact hx_reti hx hb hr hlk hW ⟨⟨by omega, by omega⟩, hT, hM⟩ dX7_placeAfter_17
