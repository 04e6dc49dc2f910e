def wNX10_closesNots : Nat := 379905307890462226614338447542943968691229454886998367638100993116696079397029620871449096919036970
theorem wX10_closesNots_c : hz_cd cX10_closesNots wNX10_closesNots 41 := ⟨by decide +kernel, by decide +kernel⟩
theorem dX10_closesNots_0 : decode cX10_closesNots 0 = .ok (.aload_n 0, 1) := dw_42 wX10_closesNots_c rfl
theorem dX10_closesNots_1 : decode cX10_closesNots 1 = .ok (.getfield 265, 3) := dw_180 wX10_closesNots_c 1 9 rfl rfl
theorem dX10_closesNots_4 : decode cX10_closesNots 4 = .ok (.ifCond .le 36, 3) := dw_158 wX10_closesNots_c 0 36 rfl rfl rfl
theorem dX10_closesNots_7 : decode cX10_closesNots 7 = .ok (.aload_n 0, 1) := dw_42 wX10_closesNots_c rfl
theorem dX10_closesNots_8 : decode cX10_closesNots 8 = .ok (.getfield 32, 3) := dw_180 wX10_closesNots_c 0 32 rfl rfl
theorem dX10_closesNots_11 : decode cX10_closesNots 11 = .ok (.aload_n 0, 1) := dw_42 wX10_closesNots_c rfl
theorem dX10_closesNots_12 : decode cX10_closesNots 12 = .ok (.getfield 265, 3) := dw_180 wX10_closesNots_c 1 9 rfl rfl
theorem dX10_closesNots_15 : decode cX10_closesNots 15 = .ok (.iconst 1, 1) := dw_4 wX10_closesNots_c rfl
theorem dX10_closesNots_16 : decode cX10_closesNots 16 = .ok (.isub, 1) := dw_100 wX10_closesNots_c rfl
theorem dX10_closesNots_17 : decode cX10_closesNots 17 = .ok (.iaload, 1) := dw_46 wX10_closesNots_c rfl
theorem dX10_closesNots_18 : decode cX10_closesNots 18 = .ok (.iconst 2, 1) := dw_5 wX10_closesNots_c rfl
theorem dX10_closesNots_19 : decode cX10_closesNots 19 = .ok (.if_icmp .ne 21, 3) := dw_160 wX10_closesNots_c 0 21 rfl rfl rfl
theorem dX10_closesNots_22 : decode cX10_closesNots 22 = .ok (.aload_n 0, 1) := dw_42 wX10_closesNots_c rfl
theorem dX10_closesNots_23 : decode cX10_closesNots 23 = .ok (.iconst 2, 1) := dw_5 wX10_closesNots_c rfl
theorem dX10_closesNots_24 : decode cX10_closesNots 24 = .ok (.invokevirtual 284, 3) := dw_182 wX10_closesNots_c 1 28 rfl rfl
theorem dX10_closesNots_27 : decode cX10_closesNots 27 = .ok (.aload_n 0, 1) := dw_42 wX10_closesNots_c rfl
theorem dX10_closesNots_28 : decode cX10_closesNots 28 = .ok (.dup, 1) := dw_89 wX10_closesNots_c rfl
theorem dX10_closesNots_29 : decode cX10_closesNots 29 = .ok (.getfield 265, 3) := dw_180 wX10_closesNots_c 1 9 rfl rfl
theorem dX10_closesNots_32 : decode cX10_closesNots 32 = .ok (.iconst 1, 1) := dw_4 wX10_closesNots_c rfl
theorem dX10_closesNots_33 : decode cX10_closesNots 33 = .ok (.isub, 1) := dw_100 wX10_closesNots_c rfl
theorem dX10_closesNots_34 : decode cX10_closesNots 34 = .ok (.putfield 265, 3) := dw_181 wX10_closesNots_c 1 9 rfl rfl
theorem dX10_closesNots_37 : decode cX10_closesNots 37 = .ok (.goto (-37), 3) := dn_167 wX10_closesNots_c 255 219 rfl (by decide)
theorem dX10_closesNots_40 : decode cX10_closesNots 40 = .ok (.return_, 1) := dw_177 wX10_closesNots_c rfl
def wNX10_closesDown : Nat := 156194736501486184841560473626237431618043558250293090022917335775634932923771055869009533666988146778518119446388154360506079132671727619835338005297880816006186
theorem wX10_closesDown_c : hz_cd cX10_closesDown wNX10_closesDown 67 := ⟨by decide +kernel, by decide +kernel⟩
theorem dX10_closesDown_0 : decode cX10_closesDown 0 = .ok (.aload_n 0, 1) := dw_42 wX10_closesDown_c rfl
theorem dX10_closesDown_1 : decode cX10_closesDown 1 = .ok (.getfield 265, 3) := dw_180 wX10_closesDown_c 1 9 rfl rfl
theorem dX10_closesDown_4 : decode cX10_closesDown 4 = .ok (.ifCond .le 62, 3) := dw_158 wX10_closesDown_c 0 62 rfl rfl rfl
theorem dX10_closesDown_7 : decode cX10_closesDown 7 = .ok (.aload_n 0, 1) := dw_42 wX10_closesDown_c rfl
theorem dX10_closesDown_8 : decode cX10_closesDown 8 = .ok (.getfield 32, 3) := dw_180 wX10_closesDown_c 0 32 rfl rfl
theorem dX10_closesDown_11 : decode cX10_closesDown 11 = .ok (.aload_n 0, 1) := dw_42 wX10_closesDown_c rfl
theorem dX10_closesDown_12 : decode cX10_closesDown 12 = .ok (.getfield 265, 3) := dw_180 wX10_closesDown_c 1 9 rfl rfl
theorem dX10_closesDown_15 : decode cX10_closesDown 15 = .ok (.iconst 1, 1) := dw_4 wX10_closesDown_c rfl
theorem dX10_closesDown_16 : decode cX10_closesDown 16 = .ok (.isub, 1) := dw_100 wX10_closesDown_c rfl
theorem dX10_closesDown_17 : decode cX10_closesDown 17 = .ok (.iaload, 1) := dw_46 wX10_closesDown_c rfl
theorem dX10_closesDown_18 : decode cX10_closesDown 18 = .ok (.bipush 100, 2) := dw_16 wX10_closesDown_c 100 rfl rfl rfl
theorem dX10_closesDown_20 : decode cX10_closesDown 20 = .ok (.if_icmp .eq 46, 3) := dw_159 wX10_closesDown_c 0 46 rfl rfl rfl
theorem dX10_closesDown_23 : decode cX10_closesDown 23 = .ok (.aload_n 0, 1) := dw_42 wX10_closesDown_c rfl
theorem dX10_closesDown_24 : decode cX10_closesDown 24 = .ok (.getfield 32, 3) := dw_180 wX10_closesDown_c 0 32 rfl rfl
theorem dX10_closesDown_27 : decode cX10_closesDown 27 = .ok (.aload_n 0, 1) := dw_42 wX10_closesDown_c rfl
theorem dX10_closesDown_28 : decode cX10_closesDown 28 = .ok (.getfield 265, 3) := dw_180 wX10_closesDown_c 1 9 rfl rfl
theorem dX10_closesDown_31 : decode cX10_closesDown 31 = .ok (.iconst 1, 1) := dw_4 wX10_closesDown_c rfl
theorem dX10_closesDown_32 : decode cX10_closesDown 32 = .ok (.isub, 1) := dw_100 wX10_closesDown_c rfl
theorem dX10_closesDown_33 : decode cX10_closesDown 33 = .ok (.iaload, 1) := dw_46 wX10_closesDown_c rfl
theorem dX10_closesDown_34 : decode cX10_closesDown 34 = .ok (.iload_n 1, 1) := dw_27 wX10_closesDown_c rfl
theorem dX10_closesDown_35 : decode cX10_closesDown 35 = .ok (.if_icmp .lt 31, 3) := dw_161 wX10_closesDown_c 0 31 rfl rfl rfl
theorem dX10_closesDown_38 : decode cX10_closesDown 38 = .ok (.aload_n 0, 1) := dw_42 wX10_closesDown_c rfl
theorem dX10_closesDown_39 : decode cX10_closesDown 39 = .ok (.aload_n 0, 1) := dw_42 wX10_closesDown_c rfl
theorem dX10_closesDown_40 : decode cX10_closesDown 40 = .ok (.getfield 32, 3) := dw_180 wX10_closesDown_c 0 32 rfl rfl
theorem dX10_closesDown_43 : decode cX10_closesDown 43 = .ok (.aload_n 0, 1) := dw_42 wX10_closesDown_c rfl
theorem dX10_closesDown_44 : decode cX10_closesDown 44 = .ok (.getfield 265, 3) := dw_180 wX10_closesDown_c 1 9 rfl rfl
theorem dX10_closesDown_47 : decode cX10_closesDown 47 = .ok (.iconst 1, 1) := dw_4 wX10_closesDown_c rfl
theorem dX10_closesDown_48 : decode cX10_closesDown 48 = .ok (.isub, 1) := dw_100 wX10_closesDown_c rfl
theorem dX10_closesDown_49 : decode cX10_closesDown 49 = .ok (.iaload, 1) := dw_46 wX10_closesDown_c rfl
theorem dX10_closesDown_50 : decode cX10_closesDown 50 = .ok (.invokevirtual 284, 3) := dw_182 wX10_closesDown_c 1 28 rfl rfl
theorem dX10_closesDown_53 : decode cX10_closesDown 53 = .ok (.aload_n 0, 1) := dw_42 wX10_closesDown_c rfl
theorem dX10_closesDown_54 : decode cX10_closesDown 54 = .ok (.dup, 1) := dw_89 wX10_closesDown_c rfl
theorem dX10_closesDown_55 : decode cX10_closesDown 55 = .ok (.getfield 265, 3) := dw_180 wX10_closesDown_c 1 9 rfl rfl
theorem dX10_closesDown_58 : decode cX10_closesDown 58 = .ok (.iconst 1, 1) := dw_4 wX10_closesDown_c rfl
theorem dX10_closesDown_59 : decode cX10_closesDown 59 = .ok (.isub, 1) := dw_100 wX10_closesDown_c rfl
theorem dX10_closesDown_60 : decode cX10_closesDown 60 = .ok (.putfield 265, 3) := dw_181 wX10_closesDown_c 1 9 rfl rfl
theorem dX10_closesDown_63 : decode cX10_closesDown 63 = .ok (.goto (-63), 3) := dn_167 wX10_closesDown_c 255 193 rfl (by decide)
theorem dX10_closesDown_66 : decode cX10_closesDown 66 = .ok (.return_, 1) := dw_177 wX10_closesDown_c rfl
set_option maxHeartbeats 4000000 in
set_option maxRecDepth 100000 in
theorem t_X10_deep_2 (l : Launch) (dC : Nat → ClassId) (dI : Nat → Nat → Nat) (dA : Nat → ClassId) (L : List Nat) (h : hx_h) (sz : Nat) (x : Nat) (hT : hx_T T_tb L h) (gx : hx_g L h x 10) (qo : Nat) (gqo : hx_g L h qo 56) (f_x_17 : h.2.2 x 17 = some qo) (of : Nat → Int32) (af_qo : h.2.1 qo = of) (op0 : Int32) (f_x_18 : h.2.1 x 18 = op0) : Met l yX10_deep (Cond.code yX10_deep cX10_deep 3 (some .int) :: hx_all) ({ frames := 0, cells := 0, slots := 0, locals := 0 }) (va_Pc [.ref x] (hx_B T_tb (P_ty dA) (dC, dI) vwCl L h sz)) (va_Qi (fun (r : Int32) (u : List Nat × hx_h) => (r.toInt = (hx_dp of op0.toInt.toNat : Int)) ∧ hx_T T_tb u.1 u.2 ∧ hx_S T_tb [] L h u.1 u.2) (hx_E T_tb (P_ty dA) (dC, dI) vwCl (hx_A L sz)) (hx_A L sz)) 0 0 (hx_A L sz) := by
  refine hx_met (lv := [(0, .ref x)]) (by decide +kernel) rfl (Nat.le_of_ble_eq_true rfl) rfl ?_
  intro p e s m below meth c hx hb hml hr hlk hts0 hown hin hsz hW ls hl
  have hts : ∀ w ∈ hx_all, w.before _ s = true := fun w hw => hts0 w (List.mem_cons_of_mem _ hw)
  have hown : s.vm.findClass "SmallCourtModel" = some m.cls := hown
  have hM : hx_S T_tb [] L h L h := hx_S.rf
  have b_op0 := hT.gi gx tt_10 (k := 18) rfl
  rw [f_x_18] at b_op0
  have b_op0 : 0 ≤ op0.toInt ∧ op0.toInt ≤ 128 := b_op0
  refine lv_iconst (v := 0) hx hb dX10_deep_0 (by decide) ?_
  refine lv_istore_n (lv' := [(1, .int (0 : Int32)), (0, .ref x)]) hx hb dX10_deep_1 rfl hl (by decide) rfl (fun ls hl => ?_)
  refine lv_iconst (v := 0) hx hb dX10_deep_2 (by decide) ?_
  refine lv_istore_n (lv' := [(2, .int (0 : Int32)), (1, .int (0 : Int32)), (0, .ref x)]) hx hb dX10_deep_3 rfl hl (by decide) rfl (fun ls hl => ?_)
  have loop4 : ∀ (n4 : Nat) (iv4_1 iv4_2 : Int32) (H : Heap) (locs : List Loc) (hL1 : List Nat) (hl1 : hx_h), 0 ≤ iv4_1.toInt → iv4_1.toInt ≤ 128 → 0 ≤ iv4_2.toInt → iv4_2.toInt ≤ 128 → ((iv4_1.toInt : Int) = (hx_dp of ((iv4_2.toInt : Int)).toNat : Int)) → (iv4_2.toInt ≤ op0.toInt) → (iv4_1.toInt ≤ iv4_2.toInt) → ∀ (ls : Array Slot), 128 - iv4_2.toInt < (n4 : Int) → hx_W T_tb (P_ty dA) (dC, dI) vwCl (hx_A L sz) s.heap hL1 hl1 s H locs → hx_T T_tb hL1 hl1 → hx_S T_tb [] L h hL1 hl1 → lv_has ls 3 [(2, .int iv4_2), (1, .int iv4_1), (0, .ref x)] → W p l e ({ frames := 0, cells := 0, slots := 0, locals := 0 }) s m ([.ref x] : List Value).toArray below meth c H locs 0 0 (MQ below (va_Qi (fun (r : Int32) (u : List Nat × hx_h) => (r.toInt = (hx_dp of op0.toInt.toNat : Int)) ∧ hx_T T_tb u.1 u.2 ∧ hx_S T_tb [] L h u.1 u.2) (hx_E T_tb (P_ty dA) (dC, dI) vwCl (hx_A L sz)) (hx_A L sz)) ([.ref x] : List Value).toArray s 0 0 (hx_A L sz)) (F0 m 4 ls []) := by
    intro n4
    induction n4 with
    | zero => intro iv4_1 iv4_2 H locs hL1 hl1 bliv4_1 buiv4_1 bliv4_2 buiv4_2 vi4_0 vi4_1 vi4_2 ls hn4; exfalso; omega
    | succ n4 ih4 =>
      intro iv4_1 iv4_2 H locs hL1 hl1 bliv4_1 buiv4_1 bliv4_2 buiv4_2 vi4_0 vi4_1 vi4_2 ls hn4 hW hT hM   hl
      refine lv_iload_n hx hb dX10_deep_4 rfl (lv_at hl 0 rfl) ?_
      refine lv_aload_n hx hb dX10_deep_5 rfl (lv_at hl 2 rfl) ?_
      refine hk_geti hx hb hts hC_10 hown hW (gx.S hM) tt_10 18 (by decide) rfl kw_1161 ⟨rfl, rfl, rfl⟩ ((hM.o gx trivial rfl).1.trans f_x_18) dX10_deep_6 ?_
      refine hb_icmp_ge (zx := iv4_2.toInt) (zy := op0.toInt) (tgt := 47) hx hb rfl rfl dX10_deep_9 (by decide) (fun c_1 => ?_) (fun c_1 => ?_)
      · skip
        refine lv_iload_n hx hb dX10_deep_47 rfl (lv_at hl 1 rfl) ?_
        exact hx_reti hx hb hr hlk hW ⟨(by have e0 : iv4_2.toInt = op0.toInt := (by omega); rw [← e0]; exact vi4_0), hT, hM⟩ dX10_deep_48
      · skip
        refine lv_iload_n hx hb dX10_deep_12 rfl (lv_at hl 1 rfl) ?_
        refine lv_aload_n hx hb dX10_deep_13 rfl (lv_at hl 2 rfl) ?_
        refine hk_getr hx hb hts hC_10 hown hW (gx.S hM) tt_10 17 (by decide) rfl kw_1160 ⟨rfl, rfl, rfl⟩ ((hM.o gx trivial rfl).2.trans f_x_17) dX10_deep_14 ?_
        refine lv_iload_n hx hb dX10_deep_17 rfl (lv_at hl 0 rfl) ?_
        refine hx_iald hx hb hW hT (gqo.S hM) tt_56 rfl ⟨by omega, by omega⟩ dX10_deep_18 (fun x_2 ex_2 lx_2 ux_2 => ?_)
        have ax_2 : x_2 = of iv4_2.toNatClampNeg := ex_2.trans (congrFun (hx_afS hM gqo rfl af_qo) _)
        refine lv_iconst (v := 2) hx hb dX10_deep_19 (by decide) ?_
        refine hb_icmp_eq (zx := x_2.toInt) (zy := 2) (tgt := 34) hx hb rfl (by decide) dX10_deep_20 (by decide) (fun c_3 => ?_) (fun c_3 => ?_)
        · skip
          refine lv_iconst (v := 1) hx hb dX10_deep_34 (by decide) ?_
          refine lv_goto (tgt := 39) hx hb dX10_deep_35 (by decide) ?_
          refine lv_iadd hx hb dX10_deep_39 ?_
          have rg_4 := i32_r iv4_1
          refine lv_topi (fun x_5 ex_5 => ?_)
          have zx_5 : x_5.toInt = iv4_1.toInt + 1 := by rw [ex_5]; exact i32_add rfl (by decide) (by omega) (by omega)
          refine lv_istore_n (lv' := [(1, .int x_5), (2, .int iv4_2), (0, .ref x)]) hx hb dX10_deep_40 rfl hl (by decide) rfl (fun ls hl => ?_)
          obtain ⟨x_6, ex_6⟩ : ∃ y : Int32, y = iv4_2 + Int32.ofInt 1 := ⟨_, rfl⟩
          have rg_7 := i32_r iv4_2
          have zx_6 : x_6.toInt = iv4_2.toInt + (1) := by rw [ex_6]; exact i32_add rfl (by decide) (by omega) (by omega)
          refine lv_iinc (v := x_6) (lv' := [(2, .int x_6), (1, .int x_5), (0, .ref x)]) hx hb dX10_deep_41 hl (k := 1) rfl ex_6.symm (by decide) rfl (fun ls hl => ?_)
          refine lv_goto (tgt := 4) hx hb dX10_deep_44 (by decide) ?_
          exact ih4 x_5 x_6 _ _ hL1 hl1 (by omega) (by omega) (by omega) (by omega) (by have q := hx_dp_s (n := iv4_2.toInt) (by omega) ax_2 rfl; rw [zx_6]; first | (rw [if_pos (by omega)] at q; omega) | (rw [if_neg (by omega)] at q; omega)) (by omega) (by omega) ls (by omega) hW hT hM   (lv_sub hl [0, 1, 2] rfl)
        · skip
          refine lv_aload_n hx hb dX10_deep_23 rfl (lv_at hl 2 rfl) ?_
          refine hk_getr hx hb hts hC_10 hown hW (gx.S hM) tt_10 17 (by decide) rfl kw_1160 ⟨rfl, rfl, rfl⟩ ((hM.o gx trivial rfl).2.trans f_x_17) dX10_deep_24 ?_
          refine lv_iload_n hx hb dX10_deep_27 rfl (lv_at hl 0 rfl) ?_
          refine hx_iald hx hb hW hT (gqo.S hM) tt_56 rfl ⟨by omega, by omega⟩ dX10_deep_28 (fun x_8 ex_8 lx_8 ux_8 => ?_)
          have ax_8 : x_8 = of iv4_2.toNatClampNeg := ex_8.trans (congrFun (hx_afS hM gqo rfl af_qo) _)
          obtain rfl : x_2 = x_8 := ex_2.trans ex_8.symm
          refine lv_bipush (v := 100) hx hb dX10_deep_29 (by decide) ?_
          refine hb_icmp_ne (zx := x_2.toInt) (zy := 100) (tgt := 38) hx hb rfl (by decide) dX10_deep_31 (by decide) (fun c_9 => ?_) (fun c_9 => ?_)
          · skip
            refine lv_iconst (v := 0) hx hb dX10_deep_38 (by decide) ?_
            refine lv_iadd hx hb dX10_deep_39 ?_
            have rg_10 := i32_r iv4_1
            refine lv_topi (fun x_11 ex_11 => ?_)
            have zx_11 : x_11.toInt = iv4_1.toInt + 0 := by rw [ex_11]; exact i32_add rfl (by decide) (by omega) (by omega)
            refine lv_istore_n (lv' := [(1, .int x_11), (2, .int iv4_2), (0, .ref x)]) hx hb dX10_deep_40 rfl hl (by decide) rfl (fun ls hl => ?_)
            obtain ⟨x_12, ex_12⟩ : ∃ y : Int32, y = iv4_2 + Int32.ofInt 1 := ⟨_, rfl⟩
            have rg_13 := i32_r iv4_2
            have zx_12 : x_12.toInt = iv4_2.toInt + (1) := by rw [ex_12]; exact i32_add rfl (by decide) (by omega) (by omega)
            refine lv_iinc (v := x_12) (lv' := [(2, .int x_12), (1, .int x_11), (0, .ref x)]) hx hb dX10_deep_41 hl (k := 1) rfl ex_12.symm (by decide) rfl (fun ls hl => ?_)
            refine lv_goto (tgt := 4) hx hb dX10_deep_44 (by decide) ?_
            exact ih4 x_11 x_12 _ _ hL1 hl1 (by omega) (by omega) (by omega) (by omega) (by have q := hx_dp_s (n := iv4_2.toInt) (by omega) ax_2 rfl; rw [zx_12]; first | (rw [if_pos (by omega)] at q; omega) | (rw [if_neg (by omega)] at q; omega)) (by omega) (by omega) ls (by omega) hW hT hM   (lv_sub hl [0, 1, 2] rfl)
          · skip
            refine lv_iconst (v := 1) hx hb dX10_deep_34 (by decide) ?_
            refine lv_goto (tgt := 39) hx hb dX10_deep_35 (by decide) ?_
            refine lv_iadd hx hb dX10_deep_39 ?_
            have rg_14 := i32_r iv4_1
            refine lv_topi (fun x_15 ex_15 => ?_)
            have zx_15 : x_15.toInt = iv4_1.toInt + 1 := by rw [ex_15]; exact i32_add rfl (by decide) (by omega) (by omega)
            refine lv_istore_n (lv' := [(1, .int x_15), (2, .int iv4_2), (0, .ref x)]) hx hb dX10_deep_40 rfl hl (by decide) rfl (fun ls hl => ?_)
            obtain ⟨x_16, ex_16⟩ : ∃ y : Int32, y = iv4_2 + Int32.ofInt 1 := ⟨_, rfl⟩
            have rg_17 := i32_r iv4_2
            have zx_16 : x_16.toInt = iv4_2.toInt + (1) := by rw [ex_16]; exact i32_add rfl (by decide) (by omega) (by omega)
            refine lv_iinc (v := x_16) (lv' := [(2, .int x_16), (1, .int x_15), (0, .ref x)]) hx hb dX10_deep_41 hl (k := 1) rfl ex_16.symm (by decide) rfl (fun ls hl => ?_)
            refine lv_goto (tgt := 4) hx hb dX10_deep_44 (by decide) ?_
            exact ih4 x_15 x_16 _ _ hL1 hl1 (by omega) (by omega) (by omega) (by omega) (by have q := hx_dp_s (n := iv4_2.toInt) (by omega) ax_2 rfl; rw [zx_16]; first | (rw [if_pos (by omega)] at q; omega) | (rw [if_neg (by omega)] at q; omega)) (by omega) (by omega) ls (by omega) hW hT hM   (lv_sub hl [0, 1, 2] rfl)
  have zk_0 : (0 : Int32).toInt = 0 := by decide
  have zk_0 : (0 : Int32).toInt = 0 := by decide
  exact loop4 129 (0 : Int32) (0 : Int32) _ _ L h (by decide) (by decide) (by decide) (by decide) (by simp [hx_dp]) (by omega) (by omega) ls (by omega) hW hT hM   hl
