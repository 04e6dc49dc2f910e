section
set_option maxHeartbeats 4000000 in
set_option maxRecDepth 100000 in
theorem t_X2_isDone_v (l : Launch) (dC : Nat → ClassId) (dI : Nat → Nat → Nat) (dA : Nat → ClassId) (L : List Nat) (h : hx_h) (sz : Nat) (i1 : Int32) (i2 : Int32) (hT : hx_T T_tb L h)   : Met l yX2_isDone (Cond.code yX2_isDone cX2_isDone 2 (some .boolean) :: hx_all) ({ frames := 0, cells := 0, slots := 0, locals := 0 }) (va_Pc [.int i1, .int i2] (hx_B T_tb (P_ty dA) (dC, dI) vwCl L h sz)) (va_Qi (fun (r : Int32) (u : List Nat × hx_h) => ((r.toInt = 1 ∧ i1.toInt ≠ -1 ∧ i1.toInt ≤ i2.toInt) ∨ (r.toInt = 0 ∧ (i1.toInt = -1 ∨ i2.toInt < i1.toInt))) ∧ hx_T T_tb u.1 u.2 ∧ hx_S T_tb [] L h u.1 u.2) (hx_E T_tb (P_ty dA) (dC, dI) vwCl (hx_A L sz)) (hx_A L sz)) 0 0 (hx_A L sz) := by
  refine hx_met (lv := [(0, .int i1), (1, .int i2)]) (by decide +kernel) rfl (Nat.le_of_ble_eq_true rfl) rfl ?_
  intro p e s m below meth c hx hb hml hr hlk hts0 hown hin hsz hW ls hl
  have hts : ∀ w ∈ hx_all, w.before _ s = true := fun w hw => hts0 w (List.mem_cons_of_mem _ hw)
  have hown : s.vm.findClass "SmallCourt$Claim" = some m.cls := hown
  have hM : hx_S T_tb [] L h L h := hx_S.rf
  refine lv_iload_n hx hb dX2_isDone_0 rfl (lv_at hl 0 rfl) ?_
  refine lv_iconst (v := -1) hx hb dX2_isDone_1 (by decide) ?_
  refine hb_icmp_eq (zx := i1.toInt) (zy := (-1)) (tgt := 14) hx hb rfl (by decide) dX2_isDone_2 (by decide) (fun c_1 => ?_) (fun c_1 => ?_)
  · skip
    refine lv_iconst (v := 0) hx hb dX2_isDone_14 (by decide) ?_
    exact hx_retz hx hb hr rfl hlk hW ⟨(by have zr : (0 : Int32).toInt = 0 := (by decide); (first | omega | (refine ⟨?_, ?_⟩ <;> omega))), hT, hM⟩ dX2_isDone_15
  · skip
    refine lv_iload_n hx hb dX2_isDone_5 rfl (lv_at hl 0 rfl) ?_
    refine lv_iload_n hx hb dX2_isDone_6 rfl (lv_at hl 1 rfl) ?_
    refine hb_icmp_gt (zx := i1.toInt) (zy := i2.toInt) (tgt := 14) hx hb rfl rfl dX2_isDone_7 (by decide) (fun c_2 => ?_) (fun c_2 => ?_)
    · skip
      refine lv_iconst (v := 0) hx hb dX2_isDone_14 (by decide) ?_
      exact hx_retz hx hb hr rfl hlk hW ⟨(by have zr : (0 : Int32).toInt = 0 := (by decide); (first | omega | (refine ⟨?_, ?_⟩ <;> omega))), hT, hM⟩ dX2_isDone_15
    · skip
      refine lv_iconst (v := 1) hx hb dX2_isDone_10 (by decide) ?_
      refine lv_goto (tgt := 15) hx hb dX2_isDone_11 (by decide) ?_
      exact hx_retz hx hb hr rfl hlk hW ⟨(by have zr : (1 : Int32).toInt = 1 := (by decide); (first | omega | (refine ⟨?_, ?_⟩ <;> omega))), hT, hM⟩ dX2_isDone_15


set_option maxHeartbeats 4000000 in
set_option maxRecDepth 100000 in
theorem t_X9_roundUp_v (l : Launch) (dC : Nat → ClassId) (dI : Nat → Nat → Nat) (dA : Nat → ClassId) (L : List Nat) (h : hx_h) (sz : Nat) (i1 : Int32) (i2 : Int32) (hT : hx_T T_tb L h)   : Met l yX9_roundUp (Cond.code yX9_roundUp cX9_roundUp 2 (some .int) :: hx_all) ({ frames := 0, cells := 0, slots := 0, locals := 0 }) (va_Pc [.int i1, .int i2] (hx_B T_tb (P_ty dA) (dC, dI) vwCl L h sz)) (va_Qi (fun (r : Int32) (u : List Nat × hx_h) => (r.toInt = hz_ru i1.toInt i2.toInt) ∧ hx_T T_tb u.1 u.2 ∧ hx_S T_tb [] L h u.1 u.2) (hx_E T_tb (P_ty dA) (dC, dI) vwCl (hx_A L sz)) (hx_A L sz)) 0 0 (hx_A L sz) := by
  refine hx_met (lv := [(0, .int i1), (1, .int i2)]) (by decide +kernel) rfl (Nat.le_of_ble_eq_true rfl) rfl ?_
  intro p e s m below meth c hx hb hml hr hlk hts0 hown hin hsz hW ls hl
  have hts : ∀ w ∈ hx_all, w.before _ s = true := fun w hw => hts0 w (List.mem_cons_of_mem _ hw)
  have hown : s.vm.findClass "SmallCourt" = some m.cls := hown
  have hM : hx_S T_tb [] L h L h := hx_S.rf
  refine lv_iload_n hx hb dX9_roundUp_0 rfl (lv_at hl 0 rfl) ?_
  refine hb_if_le (zx := i1.toInt) (tgt := 9) hx hb rfl dX9_roundUp_1 (by decide) (fun c_1 => ?_) (fun c_1 => ?_)
  · skip
    refine lv_iconst (v := 0) hx hb dX9_roundUp_9 (by decide) ?_
    refine lv_goto (tgt := 20) hx hb dX9_roundUp_10 (by decide) ?_
    exact hx_reti hx hb hr hlk hW ⟨(by have zr : (0 : Int32).toInt = 0 := (by decide); unfold hz_ru; rw [if_pos (by omega)]; omega), hT, hM⟩ dX9_roundUp_20
  · skip
    refine lv_iload_n hx hb dX9_roundUp_4 rfl (lv_at hl 1 rfl) ?_
    refine lv_iconst (v := 1) hx hb dX9_roundUp_5 (by decide) ?_
    refine hb_icmp_ge (zx := i2.toInt) (zy := 1) (tgt := 13) hx hb rfl (by decide) dX9_roundUp_6 (by decide) (fun c_2 => ?_) (fun c_2 => ?_)
    · skip
      refine lv_iload_n hx hb dX9_roundUp_13 rfl (lv_at hl 0 rfl) ?_
      refine lv_iconst (v := 1) hx hb dX9_roundUp_14 (by decide) ?_
      refine lv_isub hx hb dX9_roundUp_15 ?_
      have rg_3 := i32_r i1
      refine lv_topi (fun x_4 ex_4 => ?_)
      have zx_4 : x_4.toInt = i1.toInt - 1 := by rw [ex_4]; exact i32_sub rfl (by decide) (by omega) (by omega)
      refine lv_iload_n hx hb dX9_roundUp_16 rfl (lv_at hl 1 rfl) ?_
      refine lv_idiv hx hb dX9_roundUp_17 (hx_ne0 (by omega)) ?_
      refine lv_topi (fun x_5 ex_5 => ?_)
      have zq9 : x_5.toInt = x_4.toInt / i2.toInt := by rw [ex_5]; exact hx_dv (by omega) (by omega)
      have zl9 : 0 ≤ x_5.toInt ∧ x_5.toInt ≤ x_4.toInt := by rw [zq9]; exact ⟨Int.ediv_nonneg (by omega) (by omega), Int.ediv_le_self _ (by omega)⟩
      refine lv_iconst (v := 1) hx hb dX9_roundUp_18 (by decide) ?_
      refine lv_iadd hx hb dX9_roundUp_19 ?_
      have rg_6 := i32_r x_5
      refine lv_topi (fun x_7 ex_7 => ?_)
      have zx_7 : x_7.toInt = x_5.toInt + 1 := by rw [ex_7]; exact i32_add rfl (by decide) (by omega) (by omega)
      exact hx_reti hx hb hr hlk hW ⟨(by unfold hz_ru; rw [if_neg (by omega), zx_7, zq9, zx_4]), hT, hM⟩ dX9_roundUp_20
    · skip
      refine lv_iconst (v := 0) hx hb dX9_roundUp_9 (by decide) ?_
      refine lv_goto (tgt := 20) hx hb dX9_roundUp_10 (by decide) ?_
      exact hx_reti hx hb hr hlk hW ⟨(by have zr : (0 : Int32).toInt = 0 := (by decide); unfold hz_ru; rw [if_pos (by omega)]; omega), hT, hM⟩ dX9_roundUp_20


set_option maxHeartbeats 4000000 in
set_option maxRecDepth 100000 in
theorem t_X3_sumFor_v (l : Launch) (dC : Nat → ClassId) (dI : Nat → Nat → Nat) (dA : Nat → ClassId) (L : List Nat) (h : hx_h) (sz : Nat) (x : Nat) (i1 : Int32) (i2 : Int32) (i3 : Int32) (hT : hx_T T_tb L h) (gx : hx_g L h x 3) (pqo : Nat) (gpqo : hx_g L h pqo 23) (f_x_2 : h.2.2 x 2 = some pqo) (pqd : Nat) (gpqd : hx_g L h pqd 24) (f_x_3 : h.2.2 x 3 = some pqd) (pqs : Nat) (gpqs : hx_g L h pqs 26) (f_x_5 : h.2.2 x 5 = some pqs) (pqk : Nat) (gpqk : hx_g L h pqk 25) (f_x_4 : h.2.2 x 4 = some pqk) (pqt : Nat) (gpqt : hx_g L h pqt 22) (f_x_1 : h.2.2 x 1 = some pqt) (pof : Nat → Int32) (af_pqo : h.2.1 pqo = pof) (pdf : Nat → Int32) (af_pqd : h.2.1 pqd = pdf) (psm : Nat → Int32) (af_pqs : h.2.1 pqs = psm) (pkf : Nat → Int32) (af_pqk : h.2.1 pqk = pkf) (pst : Nat → Int32) (af_pqt : h.2.1 pqt = pst) (n0 : Int32) (f_x_0 : h.2.1 x 0 = n0) (hps : ∀ j, j < 600 → 0 ≤ (psm j).toInt ∧ (psm j).toInt ≤ 610000) : Met l yX3_sumFor (Cond.code yX3_sumFor cX3_sumFor 7 (some .int) :: hx_all) ({ frames := 0, cells := 0, slots := 0, locals := 0 }) (va_Pc [.ref x, .int i1, .int i2, .int i3] (hx_B T_tb (P_ty dA) (dC, dI) vwCl L h sz)) (va_Qi (fun (r : Int32) (u : List Nat × hx_h) => (r.toInt = hx_ps pof pdf psm pkf pst i2.toInt i3.toInt i1.toInt n0.toInt.toNat ∧ (0 ≤ r.toInt ∧ r.toInt ≤ 366000000)) ∧ hx_T T_tb u.1 u.2 ∧ hx_S T_tb [] L h u.1 u.2) (hx_E T_tb (P_ty dA) (dC, dI) vwCl (hx_A L sz)) (hx_A L sz)) 0 0 (hx_A L sz) := by
  refine hx_met (lv := [(0, .ref x), (1, .int i1), (2, .int i2), (3, .int i3)]) (by decide +kernel) rfl (Nat.le_of_ble_eq_true rfl) rfl ?_
  intro p e s m below meth c hx hb hml hr hlk hts0 hown hin hsz hW ls hl
  have hts : ∀ w ∈ hx_all, w.before _ s = true := fun w hw => hts0 w (List.mem_cons_of_mem _ hw)
  have hown : s.vm.findClass "SmallCourt$Payments" = some m.cls := hown
  have hM : hx_S T_tb [] L h L h := hx_S.rf
  have b_n0 := hT.gi gx tt_3 (k := 0) rfl
  rw [f_x_0] at b_n0
  have b_n0 : 0 ≤ n0.toInt ∧ n0.toInt ≤ 600 := b_n0
  refine lv_iconst (v := 0) hx hb dX3_sumFor_0 (by decide) ?_
  refine lv_istore (lv' := [(4, .int (0 : Int32)), (0, .ref x), (1, .int i1), (2, .int i2), (3, .int i3)]) hx hb dX3_sumFor_1 hl (by decide) rfl (fun ls hl => ?_)
  refine lv_iconst (v := 0) hx hb dX3_sumFor_3 (by decide) ?_
  refine lv_istore (lv' := [(5, .int (0 : Int32)), (4, .int (0 : Int32)), (0, .ref x), (1, .int i1), (2, .int i2), (3, .int i3)]) hx hb dX3_sumFor_4 hl (by decide) rfl (fun ls hl => ?_)
  have loop6 : ∀ (n6 : Nat) (iv6_4 iv6_5 : Int32) (H : Heap) (locs : List Loc) (hL1 : List Nat) (hl1 : hx_h), 0 ≤ iv6_4.toInt → iv6_4.toInt ≤ 366000000 → 0 ≤ iv6_5.toInt → iv6_5.toInt ≤ 600 → (iv6_4.toInt = hx_ps pof pdf psm pkf pst i2.toInt i3.toInt i1.toInt (iv6_5.toInt).toNat) → (iv6_4.toInt ≤ 610000 * iv6_5.toInt) → (iv6_5.toInt ≤ n0.toInt) → ∀ (ls : Array Slot), 600 - iv6_5.toInt < (n6 : Int) → hx_W T_tb (P_ty dA) (dC, dI) vwCl (hx_A L sz) s.heap hL1 hl1 s H locs → hx_T T_tb hL1 hl1 → hx_S T_tb [] L h hL1 hl1 → lv_has ls 7 [(5, .int iv6_5), (4, .int iv6_4), (0, .ref x), (1, .int i1), (2, .int i2), (3, .int i3)] → W p l e ({ frames := 0, cells := 0, slots := 0, locals := 0 }) s m ([.ref x, .int i1, .int i2, .int i3] : List Value).toArray below meth c H locs 0 0 (MQ below (va_Qi (fun (r : Int32) (u : List Nat × hx_h) => (r.toInt = hx_ps pof pdf psm pkf pst i2.toInt i3.toInt i1.toInt n0.toInt.toNat ∧ (0 ≤ r.toInt ∧ r.toInt ≤ 366000000)) ∧ hx_T T_tb u.1 u.2 ∧ hx_S T_tb [] L h u.1 u.2) (hx_E T_tb (P_ty dA) (dC, dI) vwCl (hx_A L sz)) (hx_A L sz)) ([.ref x, .int i1, .int i2, .int i3] : List Value).toArray s 0 0 (hx_A L sz)) (F0 m 6 ls []) := by
    intro n6
    induction n6 with
    | zero => intro iv6_4 iv6_5 H locs hL1 hl1 bliv6_4 buiv6_4 bliv6_5 buiv6_5 vi6_0 vi6_1 vi6_2 ls hn6; exfalso; omega
    | succ n6 ih6 =>
      intro iv6_4 iv6_5 H locs hL1 hl1 bliv6_4 buiv6_4 bliv6_5 buiv6_5 vi6_0 vi6_1 vi6_2 ls hn6 hW hT hM   hl
      refine lv_iload hx hb dX3_sumFor_6 (lv_at hl 0 rfl) ?_
      refine lv_aload_n hx hb dX3_sumFor_8 rfl (lv_at hl 2 rfl) ?_
      refine hk_geti hx hb hts hC_3 hown hW (gx.S hM) tt_3 0 (by decide) rfl kw_231 ⟨rfl, rfl, rfl⟩ ((hM.o gx trivial rfl).1.trans f_x_0) dX3_sumFor_9 ?_
      refine hb_icmp_ge (zx := iv6_5.toInt) (zy := n0.toInt) (tgt := 100) hx hb rfl rfl dX3_sumFor_12 (by decide) (fun c_1 => ?_) (fun c_1 => ?_)
      · skip
        refine lv_iload hx hb dX3_sumFor_100 (lv_at hl 1 rfl) ?_
        exact hx_reti hx hb hr hlk hW ⟨⟨(by have e9 : iv6_5.toInt = n0.toInt := (by omega); have h9 := vi6_0; rw [e9] at h9; exact h9), by omega, by omega⟩, hT, hM⟩ dX3_sumFor_102
      · skip
        refine lv_aload_n hx hb dX3_sumFor_15 rfl (lv_at hl 2 rfl) ?_
        refine hk_getr hx hb hts hC_3 hown hW (gx.S hM) tt_3 1 (by decide) rfl kw_233 ⟨rfl, rfl, rfl⟩ ((hM.o gx trivial rfl).2.trans f_x_1) dX3_sumFor_16 ?_
        refine lv_iload hx hb dX3_sumFor_19 (lv_at hl 0 rfl) ?_
        refine hx_iald hx hb hW hT (gpqt.S hM) tt_22 rfl ⟨by omega, by omega⟩ dX3_sumFor_21 (fun x_2 ex_2 lx_2 ux_2 => ?_)
        have ax_2 : x_2 = pst iv6_5.toNatClampNeg := ex_2.trans (congrFun (hx_afS hM gpqt rfl af_pqt) _)
        refine lv_iconst (v := -1) hx hb dX3_sumFor_22 (by decide) ?_
        refine hb_icmp_eq (zx := x_2.toInt) (zy := (-1)) (tgt := 41) hx hb rfl (by decide) dX3_sumFor_23 (by decide) (fun c_3 => ?_) (fun c_3 => ?_)
        · skip
          refine lv_iconst (v := 0) hx hb dX3_sumFor_41 (by decide) ?_
          refine lv_istore (lv' := [(6, .int (0 : Int32)), (5, .int iv6_5), (4, .int iv6_4), (0, .ref x), (1, .int i1), (2, .int i2), (3, .int i3)]) hx hb dX3_sumFor_42 hl (by decide) rfl (fun ls hl => ?_)
          refine lv_aload_n hx hb dX3_sumFor_44 rfl (lv_at hl 3 rfl) ?_
          refine hk_getr hx hb hts hC_3 hown hW (gx.S hM) tt_3 2 (by decide) rfl kw_235 ⟨rfl, rfl, rfl⟩ ((hM.o gx trivial rfl).2.trans f_x_2) dX3_sumFor_45 ?_
          refine lv_iload hx hb dX3_sumFor_48 (lv_at hl 1 rfl) ?_
          refine hx_iald hx hb hW hT (gpqo.S hM) tt_23 rfl ⟨by omega, by omega⟩ dX3_sumFor_50 (fun x_4 ex_4 lx_4 ux_4 => ?_)
          have ax_4 : x_4 = pof iv6_5.toNatClampNeg := ex_4.trans (congrFun (hx_afS hM gpqo rfl af_pqo) _)
          refine lv_iload_n hx hb dX3_sumFor_51 rfl (lv_at hl 4 rfl) ?_
          refine hb_icmp_ne (zx := x_4.toInt) (zy := i1.toInt) (tgt := 94) hx hb rfl rfl dX3_sumFor_52 (by decide) (fun c_5 => ?_) (fun c_5 => ?_)
          · skip
            obtain ⟨x_6, ex_6⟩ : ∃ y : Int32, y = iv6_5 + Int32.ofInt 1 := ⟨_, rfl⟩
            have rg_7 := i32_r iv6_5
            have zx_6 : x_6.toInt = iv6_5.toInt + (1) := by rw [ex_6]; exact i32_add rfl (by decide) (by omega) (by omega)
            refine lv_iinc (v := x_6) (lv' := [(5, .int x_6), (6, .int (0 : Int32)), (4, .int iv6_4), (0, .ref x), (1, .int i1), (2, .int i2), (3, .int i3)]) hx hb dX3_sumFor_94 hl (k := 1) rfl ex_6.symm (by decide) rfl (fun ls hl => ?_)
            refine lv_goto (tgt := 6) hx hb dX3_sumFor_97 (by decide) ?_
            exact ih6 iv6_4 x_6 _ _ hL1 hl1 (by omega) (by omega) (by omega) (by omega) (hx_ps_no1 vi6_0 (by omega) zx_6 ax_4 rfl (by omega)) (by omega) (by omega) ls (by omega) hW hT hM   (lv_sub hl [0, 2, 3, 4, 5, 6] rfl)
          · skip
            refine lv_aload_n hx hb dX3_sumFor_55 rfl (lv_at hl 3 rfl) ?_
            refine hk_getr hx hb hts hC_3 hown hW (gx.S hM) tt_3 3 (by decide) rfl kw_236 ⟨rfl, rfl, rfl⟩ ((hM.o gx trivial rfl).2.trans f_x_3) dX3_sumFor_56 ?_
            refine lv_iload hx hb dX3_sumFor_59 (lv_at hl 1 rfl) ?_
            refine hx_iald hx hb hW hT (gpqd.S hM) tt_24 rfl ⟨by omega, by omega⟩ dX3_sumFor_61 (fun x_8 ex_8 lx_8 ux_8 => ?_)
            have ax_8 : x_8 = pdf iv6_5.toNatClampNeg := ex_8.trans (congrFun (hx_afS hM gpqd rfl af_pqd) _)
            refine lv_iload_n hx hb dX3_sumFor_62 rfl (lv_at hl 5 rfl) ?_
            refine hb_icmp_gt (zx := x_8.toInt) (zy := i2.toInt) (tgt := 94) hx hb rfl rfl dX3_sumFor_63 (by decide) (fun c_9 => ?_) (fun c_9 => ?_)
            · skip
              obtain ⟨x_10, ex_10⟩ : ∃ y : Int32, y = iv6_5 + Int32.ofInt 1 := ⟨_, rfl⟩
              have rg_11 := i32_r iv6_5
              have zx_10 : x_10.toInt = iv6_5.toInt + (1) := by rw [ex_10]; exact i32_add rfl (by decide) (by omega) (by omega)
              refine lv_iinc (v := x_10) (lv' := [(5, .int x_10), (6, .int (0 : Int32)), (4, .int iv6_4), (0, .ref x), (1, .int i1), (2, .int i2), (3, .int i3)]) hx hb dX3_sumFor_94 hl (k := 1) rfl ex_10.symm (by decide) rfl (fun ls hl => ?_)
              refine lv_goto (tgt := 6) hx hb dX3_sumFor_97 (by decide) ?_
              exact ih6 iv6_4 x_10 _ _ hL1 hl1 (by omega) (by omega) (by omega) (by omega) (hx_ps_no2 vi6_0 (by omega) zx_10 ax_8 rfl (by omega)) (by omega) (by omega) ls (by omega) hW hT hM   (lv_sub hl [0, 2, 3, 4, 5, 6] rfl)
            · skip
              refine lv_aload_n hx hb dX3_sumFor_66 rfl (lv_at hl 3 rfl) ?_
              refine hk_getr hx hb hts hC_3 hown hW (gx.S hM) tt_3 4 (by decide) rfl kw_237 ⟨rfl, rfl, rfl⟩ ((hM.o gx trivial rfl).2.trans f_x_4) dX3_sumFor_67 ?_
              refine lv_iload hx hb dX3_sumFor_70 (lv_at hl 1 rfl) ?_
              refine hx_iald hx hb hW hT (gpqk.S hM) tt_25 rfl ⟨by omega, by omega⟩ dX3_sumFor_72 (fun x_12 ex_12 lx_12 ux_12 => ?_)
              have ax_12 : x_12 = pkf iv6_5.toNatClampNeg := ex_12.trans (congrFun (hx_afS hM gpqk rfl af_pqk) _)
              refine lv_iload_n hx hb dX3_sumFor_73 rfl (lv_at hl 6 rfl) ?_
              refine hb_icmp_gt (zx := x_12.toInt) (zy := i3.toInt) (tgt := 94) hx hb rfl rfl dX3_sumFor_74 (by decide) (fun c_13 => ?_) (fun c_13 => ?_)
              · skip
                obtain ⟨x_14, ex_14⟩ : ∃ y : Int32, y = iv6_5 + Int32.ofInt 1 := ⟨_, rfl⟩
                have rg_15 := i32_r iv6_5
                have zx_14 : x_14.toInt = iv6_5.toInt + (1) := by rw [ex_14]; exact i32_add rfl (by decide) (by omega) (by omega)
                refine lv_iinc (v := x_14) (lv' := [(5, .int x_14), (6, .int (0 : Int32)), (4, .int iv6_4), (0, .ref x), (1, .int i1), (2, .int i2), (3, .int i3)]) hx hb dX3_sumFor_94 hl (k := 1) rfl ex_14.symm (by decide) rfl (fun ls hl => ?_)
                refine lv_goto (tgt := 6) hx hb dX3_sumFor_97 (by decide) ?_
                exact ih6 iv6_4 x_14 _ _ hL1 hl1 (by omega) (by omega) (by omega) (by omega) (by first | exact hx_ps_no4 vi6_0 (by omega) zx_14 ax_2 rfl (by omega) (by omega) | exact hx_ps_no3 vi6_0 (by omega) zx_14 ax_12 rfl (by omega)) (by omega) (by omega) ls (by omega) hW hT hM   (lv_sub hl [0, 2, 3, 4, 5, 6] rfl)
              · skip
                refine lv_iload hx hb dX3_sumFor_77 (lv_at hl 0 rfl) ?_
                refine hb_if_ne (zx := 0) (tgt := 94) hx hb (by decide) dX3_sumFor_79 (by decide) (fun c_16 => absurd c_16 (by decide)) (fun c_16 => ?_)
                refine lv_iload hx hb dX3_sumFor_82 (lv_at hl 2 rfl) ?_
                refine lv_aload_n hx hb dX3_sumFor_84 rfl (lv_at hl 3 rfl) ?_
                refine hk_getr hx hb hts hC_3 hown hW (gx.S hM) tt_3 5 (by decide) rfl kw_238 ⟨rfl, rfl, rfl⟩ ((hM.o gx trivial rfl).2.trans f_x_5) dX3_sumFor_85 ?_
                refine lv_iload hx hb dX3_sumFor_88 (lv_at hl 1 rfl) ?_
                refine hx_iald hx hb hW hT (gpqs.S hM) tt_26 rfl ⟨by omega, by omega⟩ dX3_sumFor_90 (fun x_17 ex_17 lx_17 ux_17 => ?_)
                have ax_17 : x_17 = psm iv6_5.toNatClampNeg := ex_17.trans (congrFun (hx_afS hM gpqs rfl af_pqs) _)
                have hb9 := hps iv6_5.toNatClampNeg (by unfold Int32.toNatClampNeg; omega); rw [← ax_17] at hb9
                refine lv_iadd hx hb dX3_sumFor_91 ?_
                have rg_18 := i32_r iv6_4
                have rg_19 := i32_r x_17
                refine lv_topi (fun x_20 ex_20 => ?_)
                have zx_20 : x_20.toInt = iv6_4.toInt + x_17.toInt := by rw [ex_20]; exact i32_add rfl rfl (by omega) (by omega)
                refine lv_istore (lv' := [(4, .int x_20), (6, .int (0 : Int32)), (5, .int iv6_5), (0, .ref x), (1, .int i1), (2, .int i2), (3, .int i3)]) hx hb dX3_sumFor_92 hl (by decide) rfl (fun ls hl => ?_)
                obtain ⟨x_21, ex_21⟩ : ∃ y : Int32, y = iv6_5 + Int32.ofInt 1 := ⟨_, rfl⟩
                have rg_22 := i32_r iv6_5
                have zx_21 : x_21.toInt = iv6_5.toInt + (1) := by rw [ex_21]; exact i32_add rfl (by decide) (by omega) (by omega)
                refine lv_iinc (v := x_21) (lv' := [(5, .int x_21), (4, .int x_20), (6, .int (0 : Int32)), (0, .ref x), (1, .int i1), (2, .int i2), (3, .int i3)]) hx hb dX3_sumFor_94 hl (k := 2) rfl ex_21.symm (by decide) rfl (fun ls hl => ?_)
                refine lv_goto (tgt := 6) hx hb dX3_sumFor_97 (by decide) ?_
                exact ih6 x_20 x_21 _ _ hL1 hl1 (by omega) (by omega) (by omega) (by omega) (hx_ps_yes vi6_0 (by omega) zx_21 rfl ax_4 ax_8 ax_12 ax_2 ax_17 (by omega) (by omega) (by omega) (by omega) (by omega)) (by omega) (by omega) ls (by omega) hW hT hM   (lv_sub hl [0, 1, 3, 4, 5, 6] rfl)
        · skip
          refine lv_aload_n hx hb dX3_sumFor_26 rfl (lv_at hl 2 rfl) ?_
          refine hk_getr hx hb hts hC_3 hown hW (gx.S hM) tt_3 1 (by decide) rfl kw_233 ⟨rfl, rfl, rfl⟩ ((hM.o gx trivial rfl).2.trans f_x_1) dX3_sumFor_27 ?_
          refine lv_iload hx hb dX3_sumFor_30 (lv_at hl 0 rfl) ?_
          refine hx_iald hx hb hW hT (gpqt.S hM) tt_22 rfl ⟨by omega, by omega⟩ dX3_sumFor_32 (fun x_23 ex_23 lx_23 ux_23 => ?_)
          have ax_23 : x_23 = pst iv6_5.toNatClampNeg := ex_23.trans (congrFun (hx_afS hM gpqt rfl af_pqt) _)
          obtain rfl : x_2 = x_23 := ex_2.trans ex_23.symm
          refine lv_iload_n hx hb dX3_sumFor_33 rfl (lv_at hl 5 rfl) ?_
          refine hb_icmp_gt (zx := x_2.toInt) (zy := i3.toInt) (tgt := 41) hx hb rfl rfl dX3_sumFor_34 (by decide) (fun c_24 => ?_) (fun c_24 => ?_)
          · skip
            refine lv_iconst (v := 0) hx hb dX3_sumFor_41 (by decide) ?_
            refine lv_istore (lv' := [(6, .int (0 : Int32)), (5, .int iv6_5), (4, .int iv6_4), (0, .ref x), (1, .int i1), (2, .int i2), (3, .int i3)]) hx hb dX3_sumFor_42 hl (by decide) rfl (fun ls hl => ?_)
            refine lv_aload_n hx hb dX3_sumFor_44 rfl (lv_at hl 3 rfl) ?_
            refine hk_getr hx hb hts hC_3 hown hW (gx.S hM) tt_3 2 (by decide) rfl kw_235 ⟨rfl, rfl, rfl⟩ ((hM.o gx trivial rfl).2.trans f_x_2) dX3_sumFor_45 ?_
            refine lv_iload hx hb dX3_sumFor_48 (lv_at hl 1 rfl) ?_
            refine hx_iald hx hb hW hT (gpqo.S hM) tt_23 rfl ⟨by omega, by omega⟩ dX3_sumFor_50 (fun x_25 ex_25 lx_25 ux_25 => ?_)
            have ax_25 : x_25 = pof iv6_5.toNatClampNeg := ex_25.trans (congrFun (hx_afS hM gpqo rfl af_pqo) _)
            refine lv_iload_n hx hb dX3_sumFor_51 rfl (lv_at hl 4 rfl) ?_
            refine hb_icmp_ne (zx := x_25.toInt) (zy := i1.toInt) (tgt := 94) hx hb rfl rfl dX3_sumFor_52 (by decide) (fun c_26 => ?_) (fun c_26 => ?_)
            · skip
              obtain ⟨x_27, ex_27⟩ : ∃ y : Int32, y = iv6_5 + Int32.ofInt 1 := ⟨_, rfl⟩
              have rg_28 := i32_r iv6_5
              have zx_27 : x_27.toInt = iv6_5.toInt + (1) := by rw [ex_27]; exact i32_add rfl (by decide) (by omega) (by omega)
              refine lv_iinc (v := x_27) (lv' := [(5, .int x_27), (6, .int (0 : Int32)), (4, .int iv6_4), (0, .ref x), (1, .int i1), (2, .int i2), (3, .int i3)]) hx hb dX3_sumFor_94 hl (k := 1) rfl ex_27.symm (by decide) rfl (fun ls hl => ?_)
              refine lv_goto (tgt := 6) hx hb dX3_sumFor_97 (by decide) ?_
              exact ih6 iv6_4 x_27 _ _ hL1 hl1 (by omega) (by omega) (by omega) (by omega) (hx_ps_no1 vi6_0 (by omega) zx_27 ax_25 rfl (by omega)) (by omega) (by omega) ls (by omega) hW hT hM   (lv_sub hl [0, 2, 3, 4, 5, 6] rfl)
            · skip
              refine lv_aload_n hx hb dX3_sumFor_55 rfl (lv_at hl 3 rfl) ?_
              refine hk_getr hx hb hts hC_3 hown hW (gx.S hM) tt_3 3 (by decide) rfl kw_236 ⟨rfl, rfl, rfl⟩ ((hM.o gx trivial rfl).2.trans f_x_3) dX3_sumFor_56 ?_
              refine lv_iload hx hb dX3_sumFor_59 (lv_at hl 1 rfl) ?_
              refine hx_iald hx hb hW hT (gpqd.S hM) tt_24 rfl ⟨by omega, by omega⟩ dX3_sumFor_61 (fun x_29 ex_29 lx_29 ux_29 => ?_)
              have ax_29 : x_29 = pdf iv6_5.toNatClampNeg := ex_29.trans (congrFun (hx_afS hM gpqd rfl af_pqd) _)
              refine lv_iload_n hx hb dX3_sumFor_62 rfl (lv_at hl 5 rfl) ?_
              refine hb_icmp_gt (zx := x_29.toInt) (zy := i2.toInt) (tgt := 94) hx hb rfl rfl dX3_sumFor_63 (by decide) (fun c_30 => ?_) (fun c_30 => ?_)
              · skip
                obtain ⟨x_31, ex_31⟩ : ∃ y : Int32, y = iv6_5 + Int32.ofInt 1 := ⟨_, rfl⟩
                have rg_32 := i32_r iv6_5
                have zx_31 : x_31.toInt = iv6_5.toInt + (1) := by rw [ex_31]; exact i32_add rfl (by decide) (by omega) (by omega)
                refine lv_iinc (v := x_31) (lv' := [(5, .int x_31), (6, .int (0 : Int32)), (4, .int iv6_4), (0, .ref x), (1, .int i1), (2, .int i2), (3, .int i3)]) hx hb dX3_sumFor_94 hl (k := 1) rfl ex_31.symm (by decide) rfl (fun ls hl => ?_)
                refine lv_goto (tgt := 6) hx hb dX3_sumFor_97 (by decide) ?_
                exact ih6 iv6_4 x_31 _ _ hL1 hl1 (by omega) (by omega) (by omega) (by omega) (hx_ps_no2 vi6_0 (by omega) zx_31 ax_29 rfl (by omega)) (by omega) (by omega) ls (by omega) hW hT hM   (lv_sub hl [0, 2, 3, 4, 5, 6] rfl)
              · skip
                refine lv_aload_n hx hb dX3_sumFor_66 rfl (lv_at hl 3 rfl) ?_
                refine hk_getr hx hb hts hC_3 hown hW (gx.S hM) tt_3 4 (by decide) rfl kw_237 ⟨rfl, rfl, rfl⟩ ((hM.o gx trivial rfl).2.trans f_x_4) dX3_sumFor_67 ?_
                refine lv_iload hx hb dX3_sumFor_70 (lv_at hl 1 rfl) ?_
                refine hx_iald hx hb hW hT (gpqk.S hM) tt_25 rfl ⟨by omega, by omega⟩ dX3_sumFor_72 (fun x_33 ex_33 lx_33 ux_33 => ?_)
                have ax_33 : x_33 = pkf iv6_5.toNatClampNeg := ex_33.trans (congrFun (hx_afS hM gpqk rfl af_pqk) _)
                refine lv_iload_n hx hb dX3_sumFor_73 rfl (lv_at hl 6 rfl) ?_
                refine hb_icmp_gt (zx := x_33.toInt) (zy := i3.toInt) (tgt := 94) hx hb rfl rfl dX3_sumFor_74 (by decide) (fun c_34 => ?_) (fun c_34 => ?_)
                · skip
                  obtain ⟨x_35, ex_35⟩ : ∃ y : Int32, y = iv6_5 + Int32.ofInt 1 := ⟨_, rfl⟩
                  have rg_36 := i32_r iv6_5
                  have zx_35 : x_35.toInt = iv6_5.toInt + (1) := by rw [ex_35]; exact i32_add rfl (by decide) (by omega) (by omega)
                  refine lv_iinc (v := x_35) (lv' := [(5, .int x_35), (6, .int (0 : Int32)), (4, .int iv6_4), (0, .ref x), (1, .int i1), (2, .int i2), (3, .int i3)]) hx hb dX3_sumFor_94 hl (k := 1) rfl ex_35.symm (by decide) rfl (fun ls hl => ?_)
                  refine lv_goto (tgt := 6) hx hb dX3_sumFor_97 (by decide) ?_
                  exact ih6 iv6_4 x_35 _ _ hL1 hl1 (by omega) (by omega) (by omega) (by omega) (by first | exact hx_ps_no4 vi6_0 (by omega) zx_35 ax_2 rfl (by omega) (by omega) | exact hx_ps_no3 vi6_0 (by omega) zx_35 ax_33 rfl (by omega)) (by omega) (by omega) ls (by omega) hW hT hM   (lv_sub hl [0, 2, 3, 4, 5, 6] rfl)
                · skip
                  refine lv_iload hx hb dX3_sumFor_77 (lv_at hl 0 rfl) ?_
                  refine hb_if_ne (zx := 0) (tgt := 94) hx hb (by decide) dX3_sumFor_79 (by decide) (fun c_37 => absurd c_37 (by decide)) (fun c_37 => ?_)
                  refine lv_iload hx hb dX3_sumFor_82 (lv_at hl 2 rfl) ?_
                  refine lv_aload_n hx hb dX3_sumFor_84 rfl (lv_at hl 3 rfl) ?_
                  refine hk_getr hx hb hts hC_3 hown hW (gx.S hM) tt_3 5 (by decide) rfl kw_238 ⟨rfl, rfl, rfl⟩ ((hM.o gx trivial rfl).2.trans f_x_5) dX3_sumFor_85 ?_
                  refine lv_iload hx hb dX3_sumFor_88 (lv_at hl 1 rfl) ?_
                  refine hx_iald hx hb hW hT (gpqs.S hM) tt_26 rfl ⟨by omega, by omega⟩ dX3_sumFor_90 (fun x_38 ex_38 lx_38 ux_38 => ?_)
                  have ax_38 : x_38 = psm iv6_5.toNatClampNeg := ex_38.trans (congrFun (hx_afS hM gpqs rfl af_pqs) _)
                  have hb9 := hps iv6_5.toNatClampNeg (by unfold Int32.toNatClampNeg; omega); rw [← ax_38] at hb9
                  refine lv_iadd hx hb dX3_sumFor_91 ?_
                  have rg_39 := i32_r iv6_4
                  have rg_40 := i32_r x_38
                  refine lv_topi (fun x_41 ex_41 => ?_)
                  have zx_41 : x_41.toInt = iv6_4.toInt + x_38.toInt := by rw [ex_41]; exact i32_add rfl rfl (by omega) (by omega)
                  refine lv_istore (lv' := [(4, .int x_41), (6, .int (0 : Int32)), (5, .int iv6_5), (0, .ref x), (1, .int i1), (2, .int i2), (3, .int i3)]) hx hb dX3_sumFor_92 hl (by decide) rfl (fun ls hl => ?_)
                  obtain ⟨x_42, ex_42⟩ : ∃ y : Int32, y = iv6_5 + Int32.ofInt 1 := ⟨_, rfl⟩
                  have rg_43 := i32_r iv6_5
                  have zx_42 : x_42.toInt = iv6_5.toInt + (1) := by rw [ex_42]; exact i32_add rfl (by decide) (by omega) (by omega)
                  refine lv_iinc (v := x_42) (lv' := [(5, .int x_42), (4, .int x_41), (6, .int (0 : Int32)), (0, .ref x), (1, .int i1), (2, .int i2), (3, .int i3)]) hx hb dX3_sumFor_94 hl (k := 2) rfl ex_42.symm (by decide) rfl (fun ls hl => ?_)
                  refine lv_goto (tgt := 6) hx hb dX3_sumFor_97 (by decide) ?_
                  exact ih6 x_41 x_42 _ _ hL1 hl1 (by omega) (by omega) (by omega) (by omega) (hx_ps_yes vi6_0 (by omega) zx_42 rfl ax_25 ax_29 ax_33 ax_2 ax_38 (by omega) (by omega) (by omega) (by omega) (by omega)) (by omega) (by omega) ls (by omega) hW hT hM   (lv_sub hl [0, 1, 3, 4, 5, 6] rfl)
          · skip
            refine lv_iconst (v := 1) hx hb dX3_sumFor_37 (by decide) ?_
            refine lv_goto (tgt := 42) hx hb dX3_sumFor_38 (by decide) ?_
            refine lv_istore (lv' := [(6, .int (1 : Int32)), (5, .int iv6_5), (4, .int iv6_4), (0, .ref x), (1, .int i1), (2, .int i2), (3, .int i3)]) hx hb dX3_sumFor_42 hl (by decide) rfl (fun ls hl => ?_)
            refine lv_aload_n hx hb dX3_sumFor_44 rfl (lv_at hl 3 rfl) ?_
            refine hk_getr hx hb hts hC_3 hown hW (gx.S hM) tt_3 2 (by decide) rfl kw_235 ⟨rfl, rfl, rfl⟩ ((hM.o gx trivial rfl).2.trans f_x_2) dX3_sumFor_45 ?_
            refine lv_iload hx hb dX3_sumFor_48 (lv_at hl 1 rfl) ?_
            refine hx_iald hx hb hW hT (gpqo.S hM) tt_23 rfl ⟨by omega, by omega⟩ dX3_sumFor_50 (fun x_44 ex_44 lx_44 ux_44 => ?_)
            have ax_44 : x_44 = pof iv6_5.toNatClampNeg := ex_44.trans (congrFun (hx_afS hM gpqo rfl af_pqo) _)
            refine lv_iload_n hx hb dX3_sumFor_51 rfl (lv_at hl 4 rfl) ?_
            refine hb_icmp_ne (zx := x_44.toInt) (zy := i1.toInt) (tgt := 94) hx hb rfl rfl dX3_sumFor_52 (by decide) (fun c_45 => ?_) (fun c_45 => ?_)
            · skip
              obtain ⟨x_46, ex_46⟩ : ∃ y : Int32, y = iv6_5 + Int32.ofInt 1 := ⟨_, rfl⟩
              have rg_47 := i32_r iv6_5
              have zx_46 : x_46.toInt = iv6_5.toInt + (1) := by rw [ex_46]; exact i32_add rfl (by decide) (by omega) (by omega)
              refine lv_iinc (v := x_46) (lv' := [(5, .int x_46), (6, .int (1 : Int32)), (4, .int iv6_4), (0, .ref x), (1, .int i1), (2, .int i2), (3, .int i3)]) hx hb dX3_sumFor_94 hl (k := 1) rfl ex_46.symm (by decide) rfl (fun ls hl => ?_)
              refine lv_goto (tgt := 6) hx hb dX3_sumFor_97 (by decide) ?_
              exact ih6 iv6_4 x_46 _ _ hL1 hl1 (by omega) (by omega) (by omega) (by omega) (hx_ps_no1 vi6_0 (by omega) zx_46 ax_44 rfl (by omega)) (by omega) (by omega) ls (by omega) hW hT hM   (lv_sub hl [0, 2, 3, 4, 5, 6] rfl)
            · skip
              refine lv_aload_n hx hb dX3_sumFor_55 rfl (lv_at hl 3 rfl) ?_
              refine hk_getr hx hb hts hC_3 hown hW (gx.S hM) tt_3 3 (by decide) rfl kw_236 ⟨rfl, rfl, rfl⟩ ((hM.o gx trivial rfl).2.trans f_x_3) dX3_sumFor_56 ?_
              refine lv_iload hx hb dX3_sumFor_59 (lv_at hl 1 rfl) ?_
              refine hx_iald hx hb hW hT (gpqd.S hM) tt_24 rfl ⟨by omega, by omega⟩ dX3_sumFor_61 (fun x_48 ex_48 lx_48 ux_48 => ?_)
              have ax_48 : x_48 = pdf iv6_5.toNatClampNeg := ex_48.trans (congrFun (hx_afS hM gpqd rfl af_pqd) _)
              refine lv_iload_n hx hb dX3_sumFor_62 rfl (lv_at hl 5 rfl) ?_
              refine hb_icmp_gt (zx := x_48.toInt) (zy := i2.toInt) (tgt := 94) hx hb rfl rfl dX3_sumFor_63 (by decide) (fun c_49 => ?_) (fun c_49 => ?_)
              · skip
                obtain ⟨x_50, ex_50⟩ : ∃ y : Int32, y = iv6_5 + Int32.ofInt 1 := ⟨_, rfl⟩
                have rg_51 := i32_r iv6_5
                have zx_50 : x_50.toInt = iv6_5.toInt + (1) := by rw [ex_50]; exact i32_add rfl (by decide) (by omega) (by omega)
                refine lv_iinc (v := x_50) (lv' := [(5, .int x_50), (6, .int (1 : Int32)), (4, .int iv6_4), (0, .ref x), (1, .int i1), (2, .int i2), (3, .int i3)]) hx hb dX3_sumFor_94 hl (k := 1) rfl ex_50.symm (by decide) rfl (fun ls hl => ?_)
                refine lv_goto (tgt := 6) hx hb dX3_sumFor_97 (by decide) ?_
                exact ih6 iv6_4 x_50 _ _ hL1 hl1 (by omega) (by omega) (by omega) (by omega) (hx_ps_no2 vi6_0 (by omega) zx_50 ax_48 rfl (by omega)) (by omega) (by omega) ls (by omega) hW hT hM   (lv_sub hl [0, 2, 3, 4, 5, 6] rfl)
              · skip
                refine lv_aload_n hx hb dX3_sumFor_66 rfl (lv_at hl 3 rfl) ?_
                refine hk_getr hx hb hts hC_3 hown hW (gx.S hM) tt_3 4 (by decide) rfl kw_237 ⟨rfl, rfl, rfl⟩ ((hM.o gx trivial rfl).2.trans f_x_4) dX3_sumFor_67 ?_
                refine lv_iload hx hb dX3_sumFor_70 (lv_at hl 1 rfl) ?_
                refine hx_iald hx hb hW hT (gpqk.S hM) tt_25 rfl ⟨by omega, by omega⟩ dX3_sumFor_72 (fun x_52 ex_52 lx_52 ux_52 => ?_)
                have ax_52 : x_52 = pkf iv6_5.toNatClampNeg := ex_52.trans (congrFun (hx_afS hM gpqk rfl af_pqk) _)
                refine lv_iload_n hx hb dX3_sumFor_73 rfl (lv_at hl 6 rfl) ?_
                refine hb_icmp_gt (zx := x_52.toInt) (zy := i3.toInt) (tgt := 94) hx hb rfl rfl dX3_sumFor_74 (by decide) (fun c_53 => ?_) (fun c_53 => ?_)
                · skip
                  obtain ⟨x_54, ex_54⟩ : ∃ y : Int32, y = iv6_5 + Int32.ofInt 1 := ⟨_, rfl⟩
                  have rg_55 := i32_r iv6_5
                  have zx_54 : x_54.toInt = iv6_5.toInt + (1) := by rw [ex_54]; exact i32_add rfl (by decide) (by omega) (by omega)
                  refine lv_iinc (v := x_54) (lv' := [(5, .int x_54), (6, .int (1 : Int32)), (4, .int iv6_4), (0, .ref x), (1, .int i1), (2, .int i2), (3, .int i3)]) hx hb dX3_sumFor_94 hl (k := 1) rfl ex_54.symm (by decide) rfl (fun ls hl => ?_)
                  refine lv_goto (tgt := 6) hx hb dX3_sumFor_97 (by decide) ?_
                  exact ih6 iv6_4 x_54 _ _ hL1 hl1 (by omega) (by omega) (by omega) (by omega) (by first | exact hx_ps_no4 vi6_0 (by omega) zx_54 ax_2 rfl (by omega) (by omega) | exact hx_ps_no3 vi6_0 (by omega) zx_54 ax_52 rfl (by omega)) (by omega) (by omega) ls (by omega) hW hT hM   (lv_sub hl [0, 2, 3, 4, 5, 6] rfl)
                · skip
                  refine lv_iload hx hb dX3_sumFor_77 (lv_at hl 0 rfl) ?_
                  refine hb_if_ne (zx := 1) (tgt := 94) hx hb (by decide) dX3_sumFor_79 (by decide) (fun c_56 => ?_) (fun c_56 => absurd c_56 (by decide))
                  obtain ⟨x_57, ex_57⟩ : ∃ y : Int32, y = iv6_5 + Int32.ofInt 1 := ⟨_, rfl⟩
                  have rg_58 := i32_r iv6_5
                  have zx_57 : x_57.toInt = iv6_5.toInt + (1) := by rw [ex_57]; exact i32_add rfl (by decide) (by omega) (by omega)
                  refine lv_iinc (v := x_57) (lv' := [(5, .int x_57), (6, .int (1 : Int32)), (4, .int iv6_4), (0, .ref x), (1, .int i1), (2, .int i2), (3, .int i3)]) hx hb dX3_sumFor_94 hl (k := 1) rfl ex_57.symm (by decide) rfl (fun ls hl => ?_)
                  refine lv_goto (tgt := 6) hx hb dX3_sumFor_97 (by decide) ?_
                  exact ih6 iv6_4 x_57 _ _ hL1 hl1 (by omega) (by omega) (by omega) (by omega) (by first | exact hx_ps_no4 vi6_0 (by omega) zx_57 ax_2 rfl (by omega) (by omega) | exact hx_ps_no3 vi6_0 (by omega) zx_57 ax_52 rfl (by omega)) (by omega) (by omega) ls (by omega) hW hT hM   (lv_sub hl [0, 2, 3, 4, 5, 6] rfl)
  have zk_0 : (0 : Int32).toInt = 0 := by decide
  have zk_0 : (0 : Int32).toInt = 0 := by decide
  exact loop6 601 (0 : Int32) (0 : Int32) _ _ L h (by decide) (by decide) (by decide) (by decide) (by rw [zk_0]; rfl) (by omega) (by omega) ls (by omega) hW hT hM   hl


set_option maxHeartbeats 4000000 in
set_option maxRecDepth 100000 in
theorem t_X2_paidOn_v (l : Launch) (dC : Nat → ClassId) (dI : Nat → Nat → Nat) (dA : Nat → ClassId) (L : List Nat) (h : hx_h) (sz : Nat) (x : Nat) (v1 : Nat) (i1 : Int32) (i2 : Int32) (hT : hx_T T_tb L h) (gx : hx_g L h x 2) (gv1 : hx_g L h v1 3) (pqo : Nat) (gpqo : hx_g L h pqo 23) (f_v1_2 : h.2.2 v1 2 = some pqo) (pqd : Nat) (gpqd : hx_g L h pqd 24) (f_v1_3 : h.2.2 v1 3 = some pqd) (pqs : Nat) (gpqs : hx_g L h pqs 26) (f_v1_5 : h.2.2 v1 5 = some pqs) (pqk : Nat) (gpqk : hx_g L h pqk 25) (f_v1_4 : h.2.2 v1 4 = some pqk) (pqt : Nat) (gpqt : hx_g L h pqt 22) (f_v1_1 : h.2.2 v1 1 = some pqt) (pof : Nat → Int32) (af_pqo : h.2.1 pqo = pof) (pdf : Nat → Int32) (af_pqd : h.2.1 pqd = pdf) (psm : Nat → Int32) (af_pqs : h.2.1 pqs = psm) (pkf : Nat → Int32) (af_pqk : h.2.1 pqk = pkf) (pst : Nat → Int32) (af_pqt : h.2.1 pqt = pst) (od : Int32) (f_x_13 : h.2.1 x 13 = od) (sei : Int32) (f_x_16 : h.2.1 x 16 = sei) (gd : Int32) (f_x_17 : h.2.1 x 17 = gd) (nm : Int32) (f_x_0 : h.2.1 x 0 = nm) (n0 : Int32) (f_v1_0 : h.2.1 v1 0 = n0) (hgd : 0 ≤ gd.toInt ∧ gd.toInt ≤ 9999) (hps : ∀ j, j < 600 → 0 ≤ (psm j).toInt ∧ (psm j).toInt ≤ 610000) : Met l yX2_paidOn (Cond.code yX2_paidOn cX2_paidOn 5 (some .int) :: hx_all) ({ frames := 1, cells := 0, slots := 0, locals := 26 }) (va_Pc [.ref x, .ref v1, .int i1, .int i2] (hx_B T_tb (P_ty dA) (dC, dI) vwCl L h sz)) (va_Qi (fun (r : Int32) (u : List Nat × hx_h) => (r.toInt = hz_pdy od.toInt sei.toInt gd.toInt i1.toInt (hx_ps pof pdf psm pkf pst i1.toInt i2.toInt nm.toInt n0.toInt.toNat) ∧ (0 ≤ r.toInt ∧ r.toInt ≤ 366100000)) ∧ hx_T T_tb u.1 u.2 ∧ hx_S T_tb [] L h u.1 u.2) (hx_E T_tb (P_ty dA) (dC, dI) vwCl (hx_A L sz)) (hx_A L sz)) 0 0 (hx_A L sz) := by
  refine hx_met (lv := [(0, .ref x), (1, .ref v1), (2, .int i1), (3, .int i2)]) (by decide +kernel) rfl (Nat.le_of_ble_eq_true rfl) rfl ?_
  intro p e s m below meth c hx hb hml hr hlk hts0 hown hin hsz hW ls hl
  have hts : ∀ w ∈ hx_all, w.before _ s = true := fun w hw => hts0 w (List.mem_cons_of_mem _ hw)
  have hown : s.vm.findClass "SmallCourt$Claim" = some m.cls := hown
  have hM : hx_S T_tb [] L h L h := hx_S.rf
  have b_od := hT.gi gx tt_2 (k := 13) rfl
  rw [f_x_13] at b_od
  have b_od : -2147483648 ≤ od.toInt ∧ od.toInt ≤ 2147483647 := b_od
  have b_sei := hT.gi gx tt_2 (k := 16) rfl
  rw [f_x_16] at b_sei
  have b_sei : -2147483648 ≤ sei.toInt ∧ sei.toInt ≤ 2147483647 := b_sei
  have b_gd := hT.gi gx tt_2 (k := 17) rfl
  rw [f_x_17] at b_gd
  have b_gd : -2147483648 ≤ gd.toInt ∧ gd.toInt ≤ 2147483647 := b_gd
  have b_nm := hT.gi gx tt_2 (k := 0) rfl
  rw [f_x_0] at b_nm
  have b_nm : 0 ≤ nm.toInt ∧ nm.toInt ≤ 99 := b_nm
  have b_n0 := hT.gi gv1 tt_3 (k := 0) rfl
  rw [f_v1_0] at b_n0
  have b_n0 : 0 ≤ n0.toInt ∧ n0.toInt ≤ 600 := b_n0
  refine lv_aload_n hx hb dX2_paidOn_0 rfl (lv_at hl 0 rfl) ?_
  refine hk_geti hx hb hts hC_2 hown hW (gx.S hM) tt_2 16 (by decide) rfl kw_758 ⟨rfl, rfl, rfl⟩ ((hM.o gx trivial rfl).1.trans f_x_16) dX2_paidOn_1 ?_
  refine lv_iload_n hx hb dX2_paidOn_4 rfl (lv_at hl 2 rfl) ?_
  refine hx_goi (hx_runS (As := [.int sei, .int i1]) (rest := []) ⟨hx, hb, hml, hown, hts⟩ hW (t_X2_isDone_v l dC dI dA L h s.heap.size sei i1 hT) (va_cwS 2 hts (hx_gS kw_864 kw_862 kw_863 kw_110) rfl rfl rfl (by decide +kernel) ⟨Nat.le_of_ble_eq_true rfl, Nat.le_of_ble_eq_true rfl⟩) rfl hl.1 rfl (Nat.le_of_ble_eq_true rfl) dX2_paidOn_5 ⟨Nat.le_of_ble_eq_true rfl, Nat.le_of_ble_eq_true rfl⟩) hW (fun r_3 L_1 h_2 H locs p_4 hW => ?_)
  obtain ⟨hr_5, hT, hs⟩ := p_4
  replace hT : hx_T T_tb L_1 h_2 := hT
  replace hs : hx_S T_tb [] L h L_1 h_2 := hs
  replace hM := hM.tr (hs.mono (by decide))
  refine hb_if_eq (zx := r_3.toInt) (tgt := 18) hx hb rfl dX2_paidOn_8 (by decide) (fun c_6 => ?_) (fun c_6 => ?_)
  · skip
    replace hr_5 := hr_5.resolve_left (fun z => by have := z.1; omega)
    refine lv_iconst (v := 0) hx hb dX2_paidOn_18 (by decide) ?_
    refine lv_istore (lv' := [(4, .int (0 : Int32)), (0, .ref x), (1, .ref v1), (2, .int i1), (3, .int i2)]) hx hb dX2_paidOn_19 hl (by decide) rfl (fun ls hl => ?_)
    refine lv_aload_n hx hb dX2_paidOn_21 rfl (lv_at hl 1 rfl) ?_
    refine hk_geti hx hb hts hC_2 hown hW (gx.S hM) tt_2 13 (by decide) rfl kw_752 ⟨rfl, rfl, rfl⟩ ((hM.o gx trivial rfl).1.trans f_x_13) dX2_paidOn_22 ?_
    refine lv_iload_n hx hb dX2_paidOn_25 rfl (lv_at hl 3 rfl) ?_
    refine hx_goi (hx_runS (As := [.int od, .int i1]) (rest := []) ⟨hx, hb, hml, hown, hts⟩ hW (t_X2_isDone_v l dC dI dA L_1 h_2 H.size od i1 hT) (va_cwS 2 hts (hx_gS kw_864 kw_862 kw_863 kw_110) rfl rfl rfl (by decide +kernel) ⟨Nat.le_of_ble_eq_true rfl, Nat.le_of_ble_eq_true rfl⟩) rfl hl.1 rfl (Nat.le_of_ble_eq_true rfl) dX2_paidOn_26 ⟨Nat.le_of_ble_eq_true rfl, Nat.le_of_ble_eq_true rfl⟩) hW (fun r_9 L_7 h_8 H locs p_10 hW => ?_)
    obtain ⟨hr_11, hT, hs⟩ := p_10
    replace hT : hx_T T_tb L_7 h_8 := hT
    replace hs : hx_S T_tb [] L_1 h_2 L_7 h_8 := hs
    replace hM := hM.tr (hs.mono (by decide))
    refine hb_if_eq (zx := r_9.toInt) (tgt := 48) hx hb rfl dX2_paidOn_29 (by decide) (fun c_12 => ?_) (fun c_12 => ?_)
    · skip
      replace hr_11 := hr_11.resolve_left (fun z => by have := z.1; omega)
      refine lv_iconst (v := 0) hx hb dX2_paidOn_48 (by decide) ?_
      exact hx_reti hx hb hr hlk hW ⟨(by have zr : (0 : Int32).toInt = 0 := (by decide); exact ⟨(by unfold hz_pdy; (repeat' split) <;> omega), by omega, by omega⟩), hT, hM⟩ dX2_paidOn_49
    · skip
      replace hr_11 := hr_11.resolve_right (fun z => by have := z.1; omega)
      refine lv_aload_n hx hb dX2_paidOn_32 rfl (lv_at hl 2 rfl) ?_
      refine lv_aload_n hx hb dX2_paidOn_33 rfl (lv_at hl 1 rfl) ?_
      refine hk_geti hx hb hts hC_2 hown hW (gx.S hM) tt_2 0 (by decide) rfl kw_721 ⟨rfl, rfl, rfl⟩ ((hM.o gx trivial rfl).1.trans f_x_0) dX2_paidOn_34 ?_
      refine lv_iload_n hx hb dX2_paidOn_37 rfl (lv_at hl 3 rfl) ?_
      refine lv_iload_n hx hb dX2_paidOn_38 rfl (lv_at hl 4 rfl) ?_
      refine hx_goi (hx_runV (As := [.int nm, .int i1, .int i2]) (rest := []) ⟨hx, hb, hml, hown, hts⟩ hW (gv1.S hM) tt_3 (T := TX3) (N := 6) rfl (t_X3_sumFor_v l dC dI dA L_7 h_8 H.size v1 nm i1 i2 hT (gv1.S hM) pqo (gpqo.S hM) ((hM.o gv1 trivial rfl).2.trans f_v1_2) pqd (gpqd.S hM) ((hM.o gv1 trivial rfl).2.trans f_v1_3) pqs (gpqs.S hM) ((hM.o gv1 trivial rfl).2.trans f_v1_5) pqk (gpqk.S hM) ((hM.o gv1 trivial rfl).2.trans f_v1_4) pqt (gpqt.S hM) ((hM.o gv1 trivial rfl).2.trans f_v1_1) pof (hx_afS hM gpqo rfl af_pqo) pdf (hx_afS hM gpqd rfl af_pqd) psm (hx_afS hM gpqs rfl af_pqs) pkf (hx_afS hM gpqk rfl af_pqk) pst (hx_afS hM gpqt rfl af_pqt) n0 ((hM.o gv1 trivial rfl).1.trans f_v1_0) hps) (cwV 3 hts (hx_gV kw_880 kw_877 kw_878 kw_879 kw_99) rfl rfl rfl (by decide +kernel) ⟨Nat.le_of_ble_eq_true rfl, Nat.le_of_ble_eq_true rfl⟩) rfl hl.1 rfl (Nat.le_of_ble_eq_true rfl) dX2_paidOn_39 ⟨Nat.le_of_ble_eq_true rfl, Nat.le_of_ble_eq_true rfl⟩) hW (fun r_15 L_13 h_14 H locs p_16 hW => ?_)
      obtain ⟨hr_17, hT, hs⟩ := p_16
      replace hT : hx_T T_tb L_13 h_14 := hT
      replace hs : hx_S T_tb [] L_7 h_8 L_13 h_14 := hs
      replace hM := hM.tr (hs.mono (by decide))
      refine lv_iload hx hb dX2_paidOn_42 (lv_at hl 0 rfl) ?_
      refine lv_iadd hx hb dX2_paidOn_44 ?_
      have rg_18 := i32_r r_15
      refine lv_topi (fun x_19 ex_19 => ?_)
      have zx_19 : x_19.toInt = r_15.toInt + 0 := by rw [ex_19]; exact i32_add rfl (by decide) (by omega) (by omega)
      refine lv_goto (tgt := 49) hx hb dX2_paidOn_45 (by decide) ?_
      exact hx_reti hx hb hr hlk hW ⟨⟨(by unfold hz_pdy; (repeat' split) <;> omega), by omega, by omega⟩, hT, hM⟩ dX2_paidOn_49
  · skip
    replace hr_5 := hr_5.resolve_right (fun z => by have := z.1; omega)
    refine lv_aload_n hx hb dX2_paidOn_11 rfl (lv_at hl 0 rfl) ?_
    refine hk_geti hx hb hts hC_2 hown hW (gx.S hM) tt_2 17 (by decide) rfl kw_760 ⟨rfl, rfl, rfl⟩ ((hM.o gx trivial rfl).1.trans f_x_17) dX2_paidOn_12 ?_
    refine lv_goto (tgt := 19) hx hb dX2_paidOn_15 (by decide) ?_
    refine lv_istore (lv' := [(4, .int gd), (0, .ref x), (1, .ref v1), (2, .int i1), (3, .int i2)]) hx hb dX2_paidOn_19 hl (by decide) rfl (fun ls hl => ?_)
    refine lv_aload_n hx hb dX2_paidOn_21 rfl (lv_at hl 1 rfl) ?_
    refine hk_geti hx hb hts hC_2 hown hW (gx.S hM) tt_2 13 (by decide) rfl kw_752 ⟨rfl, rfl, rfl⟩ ((hM.o gx trivial rfl).1.trans f_x_13) dX2_paidOn_22 ?_
    refine lv_iload_n hx hb dX2_paidOn_25 rfl (lv_at hl 3 rfl) ?_
    refine hx_goi (hx_runS (As := [.int od, .int i1]) (rest := []) ⟨hx, hb, hml, hown, hts⟩ hW (t_X2_isDone_v l dC dI dA L_1 h_2 H.size od i1 hT) (va_cwS 2 hts (hx_gS kw_864 kw_862 kw_863 kw_110) rfl rfl rfl (by decide +kernel) ⟨Nat.le_of_ble_eq_true rfl, Nat.le_of_ble_eq_true rfl⟩) rfl hl.1 rfl (Nat.le_of_ble_eq_true rfl) dX2_paidOn_26 ⟨Nat.le_of_ble_eq_true rfl, Nat.le_of_ble_eq_true rfl⟩) hW (fun r_22 L_20 h_21 H locs p_23 hW => ?_)
    obtain ⟨hr_24, hT, hs⟩ := p_23
    replace hT : hx_T T_tb L_20 h_21 := hT
    replace hs : hx_S T_tb [] L_1 h_2 L_20 h_21 := hs
    replace hM := hM.tr (hs.mono (by decide))
    refine hb_if_eq (zx := r_22.toInt) (tgt := 48) hx hb rfl dX2_paidOn_29 (by decide) (fun c_25 => ?_) (fun c_25 => ?_)
    · skip
      replace hr_24 := hr_24.resolve_left (fun z => by have := z.1; omega)
      refine lv_iconst (v := 0) hx hb dX2_paidOn_48 (by decide) ?_
      exact hx_reti hx hb hr hlk hW ⟨(by have zr : (0 : Int32).toInt = 0 := (by decide); exact ⟨(by unfold hz_pdy; (repeat' split) <;> omega), by omega, by omega⟩), hT, hM⟩ dX2_paidOn_49
    · skip
      replace hr_24 := hr_24.resolve_right (fun z => by have := z.1; omega)
      refine lv_aload_n hx hb dX2_paidOn_32 rfl (lv_at hl 2 rfl) ?_
      refine lv_aload_n hx hb dX2_paidOn_33 rfl (lv_at hl 1 rfl) ?_
      refine hk_geti hx hb hts hC_2 hown hW (gx.S hM) tt_2 0 (by decide) rfl kw_721 ⟨rfl, rfl, rfl⟩ ((hM.o gx trivial rfl).1.trans f_x_0) dX2_paidOn_34 ?_
      refine lv_iload_n hx hb dX2_paidOn_37 rfl (lv_at hl 3 rfl) ?_
      refine lv_iload_n hx hb dX2_paidOn_38 rfl (lv_at hl 4 rfl) ?_
      refine hx_goi (hx_runV (As := [.int nm, .int i1, .int i2]) (rest := []) ⟨hx, hb, hml, hown, hts⟩ hW (gv1.S hM) tt_3 (T := TX3) (N := 6) rfl (t_X3_sumFor_v l dC dI dA L_20 h_21 H.size v1 nm i1 i2 hT (gv1.S hM) pqo (gpqo.S hM) ((hM.o gv1 trivial rfl).2.trans f_v1_2) pqd (gpqd.S hM) ((hM.o gv1 trivial rfl).2.trans f_v1_3) pqs (gpqs.S hM) ((hM.o gv1 trivial rfl).2.trans f_v1_5) pqk (gpqk.S hM) ((hM.o gv1 trivial rfl).2.trans f_v1_4) pqt (gpqt.S hM) ((hM.o gv1 trivial rfl).2.trans f_v1_1) pof (hx_afS hM gpqo rfl af_pqo) pdf (hx_afS hM gpqd rfl af_pqd) psm (hx_afS hM gpqs rfl af_pqs) pkf (hx_afS hM gpqk rfl af_pqk) pst (hx_afS hM gpqt rfl af_pqt) n0 ((hM.o gv1 trivial rfl).1.trans f_v1_0) hps) (cwV 3 hts (hx_gV kw_880 kw_877 kw_878 kw_879 kw_99) rfl rfl rfl (by decide +kernel) ⟨Nat.le_of_ble_eq_true rfl, Nat.le_of_ble_eq_true rfl⟩) rfl hl.1 rfl (Nat.le_of_ble_eq_true rfl) dX2_paidOn_39 ⟨Nat.le_of_ble_eq_true rfl, Nat.le_of_ble_eq_true rfl⟩) hW (fun r_28 L_26 h_27 H locs p_29 hW => ?_)
      obtain ⟨hr_30, hT, hs⟩ := p_29
      replace hT : hx_T T_tb L_26 h_27 := hT
      replace hs : hx_S T_tb [] L_20 h_21 L_26 h_27 := hs
      replace hM := hM.tr (hs.mono (by decide))
      refine lv_iload hx hb dX2_paidOn_42 (lv_at hl 0 rfl) ?_
      refine lv_iadd hx hb dX2_paidOn_44 ?_
      have rg_31 := i32_r r_28
      have rg_32 := i32_r gd
      refine lv_topi (fun x_33 ex_33 => ?_)
      have zx_33 : x_33.toInt = r_28.toInt + gd.toInt := by rw [ex_33]; exact i32_add rfl rfl (by omega) (by omega)
      refine lv_goto (tgt := 49) hx hb dX2_paidOn_45 (by decide) ?_
      exact hx_reti hx hb hr hlk hW ⟨⟨(by unfold hz_pdy; (repeat' split) <;> omega), by omega, by omega⟩, hT, hM⟩ dX2_paidOn_49


set_option maxHeartbeats 4000000 in
set_option maxRecDepth 100000 in
theorem t_X2_owedOn_v (l : Launch) (dC : Nat → ClassId) (dI : Nat → Nat → Nat) (dA : Nat → ClassId) (L : List Nat) (h : hx_h) (sz : Nat) (x : Nat) (i1 : Int32) (hT : hx_T T_tb L h) (gx : hx_g L h x 2) (qac : Nat) (gqac : hx_g L h qac 0) (f_x_3 : h.2.2 x 3 = some qac) (qt : Nat) (gqt : hx_g L h qt 11) (f_qac_2 : h.2.2 qac 2 = some qt) (tf : Nat → Int32) (af_qt : h.2.1 qt = tf) (sei : Int32) (f_x_16 : h.2.1 x 16 = sei) (ow : Int32) (f_x_15 : h.2.1 x 15 = ow) (R : Nat → Int) (hR : hv_rC tf = R) (hRb : ∀ k, 0 ≤ R k ∧ R k ≤ 9999) (how : 0 ≤ ow.toInt ∧ ow.toInt ≤ 600000) : Met l yX2_owedOn (Cond.code yX2_owedOn cX2_owedOn 2 (some .int) :: hx_all) ({ frames := 1, cells := 0, slots := 0, locals := 21 }) (va_Pc [.ref x, .int i1] (hx_B T_tb (P_ty dA) (dC, dI) vwCl L h sz)) (va_Qi (fun (r : Int32) (u : List Nat × hx_h) => (r.toInt = hz_al ow.toInt sei.toInt (R 12) i1.toInt ∧ (0 ≤ r.toInt ∧ r.toInt ≤ 609999)) ∧ hx_T T_tb u.1 u.2 ∧ hx_S T_tb [] L h u.1 u.2) (hx_E T_tb (P_ty dA) (dC, dI) vwCl (hx_A L sz)) (hx_A L sz)) 0 0 (hx_A L sz) := by
  refine hx_met (lv := [(0, .ref x), (1, .int i1)]) (by decide +kernel) rfl (Nat.le_of_ble_eq_true rfl) rfl ?_
  intro p e s m below meth c hx hb hml hr hlk hts0 hown hin hsz hW ls hl
  have hts : ∀ w ∈ hx_all, w.before _ s = true := fun w hw => hts0 w (List.mem_cons_of_mem _ hw)
  have hown : s.vm.findClass "SmallCourt$Claim" = some m.cls := hown
  have hM : hx_S T_tb [] L h L h := hx_S.rf
  have b_sei := hT.gi gx tt_2 (k := 16) rfl
  rw [f_x_16] at b_sei
  have b_sei : -2147483648 ≤ sei.toInt ∧ sei.toInt ≤ 2147483647 := b_sei
  have b_ow := hT.gi gx tt_2 (k := 15) rfl
  rw [f_x_15] at b_ow
  have b_ow : -2147483648 ≤ ow.toInt ∧ ow.toInt ≤ 2147483647 := b_ow
  refine lv_aload_n hx hb dX2_owedOn_0 rfl (lv_at hl 0 rfl) ?_
  refine hk_geti hx hb hts hC_2 hown hW (gx.S hM) tt_2 16 (by decide) rfl kw_758 ⟨rfl, rfl, rfl⟩ ((hM.o gx trivial rfl).1.trans f_x_16) dX2_owedOn_1 ?_
  refine lv_iload_n hx hb dX2_owedOn_4 rfl (lv_at hl 1 rfl) ?_
  refine hx_goi (hx_runS (As := [.int sei, .int i1]) (rest := []) ⟨hx, hb, hml, hown, hts⟩ hW (t_X2_isDone_v l dC dI dA L h s.heap.size sei i1 hT) (va_cwS 2 hts (hx_gS kw_864 kw_862 kw_863 kw_110) rfl rfl rfl (by decide +kernel) ⟨Nat.le_of_ble_eq_true rfl, Nat.le_of_ble_eq_true rfl⟩) rfl hl.1 rfl (Nat.le_of_ble_eq_true rfl) dX2_owedOn_5 ⟨Nat.le_of_ble_eq_true rfl, Nat.le_of_ble_eq_true rfl⟩) hW (fun r_3 L_1 h_2 H locs p_4 hW => ?_)
  obtain ⟨hr_5, hT, hs⟩ := p_4
  replace hT : hx_T T_tb L_1 h_2 := hT
  replace hs : hx_S T_tb [] L h L_1 h_2 := hs
  replace hM := hM.tr (hs.mono (by decide))
  refine hb_if_eq (zx := r_3.toInt) (tgt := 29) hx hb rfl dX2_owedOn_8 (by decide) (fun c_6 => ?_) (fun c_6 => ?_)
  · skip
    replace hr_5 := hr_5.resolve_left (fun z => by have := z.1; omega)
    refine lv_aload_n hx hb dX2_owedOn_29 rfl (lv_at hl 0 rfl) ?_
    refine hk_geti hx hb hts hC_2 hown hW (gx.S hM) tt_2 15 (by decide) rfl kw_756 ⟨rfl, rfl, rfl⟩ ((hM.o gx trivial rfl).1.trans f_x_15) dX2_owedOn_30 ?_
    exact hx_reti hx hb hr hlk hW ⟨⟨(by unfold hz_al; (repeat' split) <;> omega), by omega, by omega⟩, hT, hM⟩ dX2_owedOn_33
  · skip
    replace hr_5 := hr_5.resolve_right (fun z => by have := z.1; omega)
    refine lv_aload_n hx hb dX2_owedOn_11 rfl (lv_at hl 0 rfl) ?_
    refine hk_geti hx hb hts hC_2 hown hW (gx.S hM) tt_2 15 (by decide) rfl kw_756 ⟨rfl, rfl, rfl⟩ ((hM.o gx trivial rfl).1.trans f_x_15) dX2_owedOn_12 ?_
    refine lv_aload_n hx hb dX2_owedOn_15 rfl (lv_at hl 0 rfl) ?_
    refine hk_getr hx hb hts hC_2 hown hW (gx.S hM) tt_2 3 (by decide) rfl kw_734 ⟨rfl, rfl, rfl⟩ ((hM.o gx trivial rfl).2.trans f_x_3) dX2_owedOn_16 ?_
    refine hk_getr hx hb hts hC_0 hown hW (gqac.S hM) tt_0 2 (by decide) rfl kw_167 ⟨rfl, rfl, rfl⟩ ((hM.o gqac trivial rfl).2.trans f_qac_2) dX2_owedOn_19 ?_
    refine lv_bipush (v := 13) hx hb dX2_owedOn_22 (by decide) ?_
    refine hx_iald hx hb hW hT (gqt.S hM) tt_11 rfl (by decide) dX2_owedOn_24 (fun x_7 ex_7 lx_7 ux_7 => ?_)
    have ax_7 : x_7 = tf (13 : Int32).toNatClampNeg := ex_7.trans (congrFun (hx_afS hM gqt rfl af_qt) _)
    have hR_8 : x_7.toInt = R 12 := by rw [← hR, ax_7, show (13 : Int32).toNatClampNeg = 13 from by decide]; rfl
    have hR_8b := hRb 12
    rw [← hR_8] at hR_8b
    refine lv_iadd hx hb dX2_owedOn_25 ?_
    have rg_9 := i32_r ow
    have rg_10 := i32_r x_7
    refine lv_topi (fun x_11 ex_11 => ?_)
    have zx_11 : x_11.toInt = ow.toInt + x_7.toInt := by rw [ex_11]; exact i32_add rfl rfl (by omega) (by omega)
    refine lv_goto (tgt := 33) hx hb dX2_owedOn_26 (by decide) ?_
    exact hx_reti hx hb hr hlk hW ⟨⟨(by unfold hz_al; rw [← hR_8]; (repeat' split) <;> omega), by omega, by omega⟩, hT, hM⟩ dX2_owedOn_33


set_option maxHeartbeats 4000000 in
set_option maxRecDepth 100000 in
theorem t_X2_balanceOn_v (l : Launch) (dC : Nat → ClassId) (dI : Nat → Nat → Nat) (dA : Nat → ClassId) (L : List Nat) (h : hx_h) (sz : Nat) (x : Nat) (v1 : Nat) (i1 : Int32) (i2 : Int32) (hT : hx_T T_tb L h) (gx : hx_g L h x 2) (gv1 : hx_g L h v1 3) (pqo : Nat) (gpqo : hx_g L h pqo 23) (f_v1_2 : h.2.2 v1 2 = some pqo) (pqd : Nat) (gpqd : hx_g L h pqd 24) (f_v1_3 : h.2.2 v1 3 = some pqd) (pqs : Nat) (gpqs : hx_g L h pqs 26) (f_v1_5 : h.2.2 v1 5 = some pqs) (pqk : Nat) (gpqk : hx_g L h pqk 25) (f_v1_4 : h.2.2 v1 4 = some pqk) (pqt : Nat) (gpqt : hx_g L h pqt 22) (f_v1_1 : h.2.2 v1 1 = some pqt) (qac : Nat) (gqac : hx_g L h qac 0) (f_x_3 : h.2.2 x 3 = some qac) (qt : Nat) (gqt : hx_g L h qt 11) (f_qac_2 : h.2.2 qac 2 = some qt) (pof : Nat → Int32) (af_pqo : h.2.1 pqo = pof) (pdf : Nat → Int32) (af_pqd : h.2.1 pqd = pdf) (psm : Nat → Int32) (af_pqs : h.2.1 pqs = psm) (pkf : Nat → Int32) (af_pqk : h.2.1 pqk = pkf) (pst : Nat → Int32) (af_pqt : h.2.1 pqt = pst) (tf : Nat → Int32) (af_qt : h.2.1 qt = tf) (od : Int32) (f_x_13 : h.2.1 x 13 = od) (sei : Int32) (f_x_16 : h.2.1 x 16 = sei) (gd : Int32) (f_x_17 : h.2.1 x 17 = gd) (ow : Int32) (f_x_15 : h.2.1 x 15 = ow) (nm : Int32) (f_x_0 : h.2.1 x 0 = nm) (n0 : Int32) (f_v1_0 : h.2.1 v1 0 = n0) (R : Nat → Int) (hR : hv_rC tf = R) (hRb : ∀ k, 0 ≤ R k ∧ R k ≤ 9999) (how : 0 ≤ ow.toInt ∧ ow.toInt ≤ 600000) (hgd : 0 ≤ gd.toInt ∧ gd.toInt ≤ 9999) (hps : ∀ j, j < 600 → 0 ≤ (psm j).toInt ∧ (psm j).toInt ≤ 610000) : Met l yX2_balanceOn (Cond.code yX2_balanceOn cX2_balanceOn 4 (some .int) :: hx_all) ({ frames := 2, cells := 0, slots := 0, locals := 50 }) (va_Pc [.ref x, .ref v1, .int i1, .int i2] (hx_B T_tb (P_ty dA) (dC, dI) vwCl L h sz)) (va_Qi (fun (r : Int32) (u : List Nat × hx_h) => (r.toInt = hz_bl od.toInt sei.toInt gd.toInt ow.toInt (R 12) i1.toInt (hx_ps pof pdf psm pkf pst i1.toInt i2.toInt nm.toInt n0.toInt.toNat) ∧ (-366100000 ≤ r.toInt ∧ r.toInt ≤ 609999)) ∧ hx_T T_tb u.1 u.2 ∧ hx_S T_tb [] L h u.1 u.2) (hx_E T_tb (P_ty dA) (dC, dI) vwCl (hx_A L sz)) (hx_A L sz)) 0 0 (hx_A L sz) := by
  refine hx_met (lv := [(0, .ref x), (1, .ref v1), (2, .int i1), (3, .int i2)]) (by decide +kernel) rfl (Nat.le_of_ble_eq_true rfl) rfl ?_
  intro p e s m below meth c hx hb hml hr hlk hts0 hown hin hsz hW ls hl
  have hts : ∀ w ∈ hx_all, w.before _ s = true := fun w hw => hts0 w (List.mem_cons_of_mem _ hw)
  have hown : s.vm.findClass "SmallCourt$Claim" = some m.cls := hown
  have hM : hx_S T_tb [] L h L h := hx_S.rf
  have b_od := hT.gi gx tt_2 (k := 13) rfl
  rw [f_x_13] at b_od
  have b_od : -2147483648 ≤ od.toInt ∧ od.toInt ≤ 2147483647 := b_od
  have b_sei := hT.gi gx tt_2 (k := 16) rfl
  rw [f_x_16] at b_sei
  have b_sei : -2147483648 ≤ sei.toInt ∧ sei.toInt ≤ 2147483647 := b_sei
  have b_gd := hT.gi gx tt_2 (k := 17) rfl
  rw [f_x_17] at b_gd
  have b_gd : -2147483648 ≤ gd.toInt ∧ gd.toInt ≤ 2147483647 := b_gd
  have b_ow := hT.gi gx tt_2 (k := 15) rfl
  rw [f_x_15] at b_ow
  have b_ow : -2147483648 ≤ ow.toInt ∧ ow.toInt ≤ 2147483647 := b_ow
  have b_nm := hT.gi gx tt_2 (k := 0) rfl
  rw [f_x_0] at b_nm
  have b_nm : 0 ≤ nm.toInt ∧ nm.toInt ≤ 99 := b_nm
  have b_n0 := hT.gi gv1 tt_3 (k := 0) rfl
  rw [f_v1_0] at b_n0
  have b_n0 : 0 ≤ n0.toInt ∧ n0.toInt ≤ 600 := b_n0
  refine lv_aload_n hx hb dX2_balanceOn_0 rfl (lv_at hl 0 rfl) ?_
  refine hk_geti hx hb hts hC_2 hown hW (gx.S hM) tt_2 13 (by decide) rfl kw_752 ⟨rfl, rfl, rfl⟩ ((hM.o gx trivial rfl).1.trans f_x_13) dX2_balanceOn_1 ?_
  refine lv_iload_n hx hb dX2_balanceOn_4 rfl (lv_at hl 2 rfl) ?_
  refine hx_goi (hx_runS (As := [.int od, .int i1]) (rest := []) ⟨hx, hb, hml, hown, hts⟩ hW (t_X2_isDone_v l dC dI dA L h s.heap.size od i1 hT) (va_cwS 2 hts (hx_gS kw_864 kw_862 kw_863 kw_110) rfl rfl rfl (by decide +kernel) ⟨Nat.le_of_ble_eq_true rfl, Nat.le_of_ble_eq_true rfl⟩) rfl hl.1 rfl (Nat.le_of_ble_eq_true rfl) dX2_balanceOn_5 ⟨Nat.le_of_ble_eq_true rfl, Nat.le_of_ble_eq_true rfl⟩) hW (fun r_3 L_1 h_2 H locs p_4 hW => ?_)
  obtain ⟨hr_5, hT, hs⟩ := p_4
  replace hT : hx_T T_tb L_1 h_2 := hT
  replace hs : hx_S T_tb [] L h L_1 h_2 := hs
  replace hM := hM.tr (hs.mono (by decide))
  refine hb_if_eq (zx := r_3.toInt) (tgt := 27) hx hb rfl dX2_balanceOn_8 (by decide) (fun c_6 => ?_) (fun c_6 => ?_)
  · skip
    replace hr_5 := hr_5.resolve_left (fun z => by have := z.1; omega)
    refine lv_iconst (v := 0) hx hb dX2_balanceOn_27 (by decide) ?_
    exact hx_reti hx hb hr hlk hW ⟨(by have zr : (0 : Int32).toInt = 0 := (by decide); exact ⟨(by unfold hz_bl; (repeat' split) <;> omega), by omega, by omega⟩), hT, hM⟩ dX2_balanceOn_28
  · skip
    replace hr_5 := hr_5.resolve_right (fun z => by have := z.1; omega)
    refine lv_aload_n hx hb dX2_balanceOn_11 rfl (lv_at hl 0 rfl) ?_
    refine lv_iload_n hx hb dX2_balanceOn_12 rfl (lv_at hl 2 rfl) ?_
    refine hx_goi (hx_runV (As := [.int i1]) (rest := []) ⟨hx, hb, hml, hown, hts⟩ hW (gx.S hM) tt_2 (T := TX2) (N := 19) rfl (t_X2_owedOn_v l dC dI dA L_1 h_2 H.size x i1 hT (gx.S hM) qac (gqac.S hM) ((hM.o gx trivial rfl).2.trans f_x_3) qt (gqt.S hM) ((hM.o gqac trivial rfl).2.trans f_qac_2) tf (hx_afS hM gqt rfl af_qt) sei ((hM.o gx trivial rfl).1.trans f_x_16) ow ((hM.o gx trivial rfl).1.trans f_x_15) R hR hRb ⟨by omega, by omega⟩) (cwV 1 hts (hx_gV kw_872 kw_869 kw_871 kw_31 kw_110) rfl rfl rfl (by decide +kernel) ⟨Nat.le_of_ble_eq_true rfl, Nat.le_of_ble_eq_true rfl⟩) rfl hl.1 rfl (Nat.le_of_ble_eq_true rfl) dX2_balanceOn_13 ⟨Nat.le_of_ble_eq_true rfl, Nat.le_of_ble_eq_true rfl⟩) hW (fun r_9 L_7 h_8 H locs p_10 hW => ?_)
    obtain ⟨hr_11, hT, hs⟩ := p_10
    replace hT : hx_T T_tb L_7 h_8 := hT
    replace hs : hx_S T_tb [] L_1 h_2 L_7 h_8 := hs
    replace hM := hM.tr (hs.mono (by decide))
    refine lv_aload_n hx hb dX2_balanceOn_16 rfl (lv_at hl 0 rfl) ?_
    refine lv_aload_n hx hb dX2_balanceOn_17 rfl (lv_at hl 1 rfl) ?_
    refine lv_iload_n hx hb dX2_balanceOn_18 rfl (lv_at hl 2 rfl) ?_
    refine lv_iload_n hx hb dX2_balanceOn_19 rfl (lv_at hl 3 rfl) ?_
    refine hx_goi (hx_runV (As := [.ref v1, .int i1, .int i2]) (rest := [.int r_9]) ⟨hx, hb, hml, hown, hts⟩ hW (gx.S hM) tt_2 (T := TX2) (N := 19) rfl (t_X2_paidOn_v l dC dI dA L_7 h_8 H.size x v1 i1 i2 hT (gx.S hM) (gv1.S hM) pqo (gpqo.S hM) ((hM.o gv1 trivial rfl).2.trans f_v1_2) pqd (gpqd.S hM) ((hM.o gv1 trivial rfl).2.trans f_v1_3) pqs (gpqs.S hM) ((hM.o gv1 trivial rfl).2.trans f_v1_5) pqk (gpqk.S hM) ((hM.o gv1 trivial rfl).2.trans f_v1_4) pqt (gpqt.S hM) ((hM.o gv1 trivial rfl).2.trans f_v1_1) pof (hx_afS hM gpqo rfl af_pqo) pdf (hx_afS hM gpqd rfl af_pqd) psm (hx_afS hM gpqs rfl af_pqs) pkf (hx_afS hM gpqk rfl af_pqk) pst (hx_afS hM gpqt rfl af_pqt) od ((hM.o gx trivial rfl).1.trans f_x_13) sei ((hM.o gx trivial rfl).1.trans f_x_16) gd ((hM.o gx trivial rfl).1.trans f_x_17) nm ((hM.o gx trivial rfl).1.trans f_x_0) n0 ((hM.o gv1 trivial rfl).1.trans f_v1_0) ⟨by omega, by omega⟩ hps) (cwV 3 hts (hx_gV kw_876 kw_873 kw_874 kw_875 kw_110) rfl rfl rfl (by decide +kernel) ⟨Nat.le_of_ble_eq_true rfl, Nat.le_of_ble_eq_true rfl⟩) rfl hl.1 rfl (Nat.le_of_ble_eq_true rfl) dX2_balanceOn_20 ⟨Nat.le_of_ble_eq_true rfl, Nat.le_of_ble_eq_true rfl⟩) hW (fun r_14 L_12 h_13 H locs p_15 hW => ?_)
    obtain ⟨hr_16, hT, hs⟩ := p_15
    replace hT : hx_T T_tb L_12 h_13 := hT
    replace hs : hx_S T_tb [] L_7 h_8 L_12 h_13 := hs
    replace hM := hM.tr (hs.mono (by decide))
    refine lv_isub hx hb dX2_balanceOn_23 ?_
    have rg_17 := i32_r r_9
    have rg_18 := i32_r r_14
    refine lv_topi (fun x_19 ex_19 => ?_)
    have zx_19 : x_19.toInt = r_9.toInt - r_14.toInt := by rw [ex_19]; exact i32_sub rfl rfl (by omega) (by omega)
    refine lv_goto (tgt := 28) hx hb dX2_balanceOn_24 (by decide) ?_
    exact hx_reti hx hb hr hlk hW ⟨⟨(by unfold hz_bl; (repeat' split) <;> omega), by omega, by omega⟩, hT, hM⟩ dX2_balanceOn_28


set_option maxHeartbeats 4000000 in
set_option maxRecDepth 100000 in
theorem t_X2_restOn_v (l : Launch) (dC : Nat → ClassId) (dI : Nat → Nat → Nat) (dA : Nat → ClassId) (L : List Nat) (h : hx_h) (sz : Nat) (x : Nat) (v1 : Nat) (i1 : Int32) (i2 : Int32) (hT : hx_T T_tb L h) (gx : hx_g L h x 2) (gv1 : hx_g L h v1 3) (pqo : Nat) (gpqo : hx_g L h pqo 23) (f_v1_2 : h.2.2 v1 2 = some pqo) (pqd : Nat) (gpqd : hx_g L h pqd 24) (f_v1_3 : h.2.2 v1 3 = some pqd) (pqs : Nat) (gpqs : hx_g L h pqs 26) (f_v1_5 : h.2.2 v1 5 = some pqs) (pqk : Nat) (gpqk : hx_g L h pqk 25) (f_v1_4 : h.2.2 v1 4 = some pqk) (pqt : Nat) (gpqt : hx_g L h pqt 22) (f_v1_1 : h.2.2 v1 1 = some pqt) (qac : Nat) (gqac : hx_g L h qac 0) (f_x_3 : h.2.2 x 3 = some qac) (qt : Nat) (gqt : hx_g L h qt 11) (f_qac_2 : h.2.2 qac 2 = some qt) (pof : Nat → Int32) (af_pqo : h.2.1 pqo = pof) (pdf : Nat → Int32) (af_pqd : h.2.1 pqd = pdf) (psm : Nat → Int32) (af_pqs : h.2.1 pqs = psm) (pkf : Nat → Int32) (af_pqk : h.2.1 pqk = pkf) (pst : Nat → Int32) (af_pqt : h.2.1 pqt = pst) (tf : Nat → Int32) (af_qt : h.2.1 qt = tf) (od : Int32) (f_x_13 : h.2.1 x 13 = od) (sei : Int32) (f_x_16 : h.2.1 x 16 = sei) (gd : Int32) (f_x_17 : h.2.1 x 17 = gd) (ow : Int32) (f_x_15 : h.2.1 x 15 = ow) (sv : Int32) (f_x_18 : h.2.1 x 18 = sv) (nm : Int32) (f_x_0 : h.2.1 x 0 = nm) (n0 : Int32) (f_v1_0 : h.2.1 v1 0 = n0) (R : Nat → Int) (hR : hv_rC tf = R) (hRb : ∀ k, 0 ≤ R k ∧ R k ≤ 9999) (how : 0 ≤ ow.toInt ∧ ow.toInt ≤ 600000) (hgd : 0 ≤ gd.toInt ∧ gd.toInt ≤ 9999) (hps : ∀ j, j < 600 → 0 ≤ (psm j).toInt ∧ (psm j).toInt ≤ 610000) : Met l yX2_restOn (Cond.code yX2_restOn cX2_restOn 4 (some .int) :: hx_all) ({ frames := 3, cells := 0, slots := 0, locals := 73 }) (va_Pc [.ref x, .ref v1, .int i1, .int i2] (hx_B T_tb (P_ty dA) (dC, dI) vwCl L h sz)) (va_Qi (fun (r : Int32) (u : List Nat × hx_h) => (r.toInt = hz_rs sv.toInt (hz_bl od.toInt sei.toInt gd.toInt ow.toInt (R 12) i1.toInt (hx_ps pof pdf psm pkf pst i1.toInt i2.toInt nm.toInt n0.toInt.toNat)) i1.toInt ∧ (0 ≤ r.toInt ∧ r.toInt ≤ 609999)) ∧ hx_T T_tb u.1 u.2 ∧ hx_S T_tb [] L h u.1 u.2) (hx_E T_tb (P_ty dA) (dC, dI) vwCl (hx_A L sz)) (hx_A L sz)) 0 0 (hx_A L sz) := by
  refine hx_met (lv := [(0, .ref x), (1, .ref v1), (2, .int i1), (3, .int i2)]) (by decide +kernel) rfl (Nat.le_of_ble_eq_true rfl) rfl ?_
  intro p e s m below meth c hx hb hml hr hlk hts0 hown hin hsz hW ls hl
  have hts : ∀ w ∈ hx_all, w.before _ s = true := fun w hw => hts0 w (List.mem_cons_of_mem _ hw)
  have hown : s.vm.findClass "SmallCourt$Claim" = some m.cls := hown
  have hM : hx_S T_tb [] L h L h := hx_S.rf
  have b_od := hT.gi gx tt_2 (k := 13) rfl
  rw [f_x_13] at b_od
  have b_od : -2147483648 ≤ od.toInt ∧ od.toInt ≤ 2147483647 := b_od
  have b_sei := hT.gi gx tt_2 (k := 16) rfl
  rw [f_x_16] at b_sei
  have b_sei : -2147483648 ≤ sei.toInt ∧ sei.toInt ≤ 2147483647 := b_sei
  have b_gd := hT.gi gx tt_2 (k := 17) rfl
  rw [f_x_17] at b_gd
  have b_gd : -2147483648 ≤ gd.toInt ∧ gd.toInt ≤ 2147483647 := b_gd
  have b_ow := hT.gi gx tt_2 (k := 15) rfl
  rw [f_x_15] at b_ow
  have b_ow : -2147483648 ≤ ow.toInt ∧ ow.toInt ≤ 2147483647 := b_ow
  have b_sv := hT.gi gx tt_2 (k := 18) rfl
  rw [f_x_18] at b_sv
  have b_sv : -2147483648 ≤ sv.toInt ∧ sv.toInt ≤ 2147483647 := b_sv
  have b_nm := hT.gi gx tt_2 (k := 0) rfl
  rw [f_x_0] at b_nm
  have b_nm : 0 ≤ nm.toInt ∧ nm.toInt ≤ 99 := b_nm
  have b_n0 := hT.gi gv1 tt_3 (k := 0) rfl
  rw [f_v1_0] at b_n0
  have b_n0 : 0 ≤ n0.toInt ∧ n0.toInt ≤ 600 := b_n0
  refine lv_aload_n hx hb dX2_restOn_0 rfl (lv_at hl 0 rfl) ?_
  refine hk_geti hx hb hts hC_2 hown hW (gx.S hM) tt_2 18 (by decide) rfl kw_762 ⟨rfl, rfl, rfl⟩ ((hM.o gx trivial rfl).1.trans f_x_18) dX2_restOn_1 ?_
  refine lv_iload_n hx hb dX2_restOn_4 rfl (lv_at hl 2 rfl) ?_
  refine hx_goi (hx_runS (As := [.int sv, .int i1]) (rest := []) ⟨hx, hb, hml, hown, hts⟩ hW (t_X2_isDone_v l dC dI dA L h s.heap.size sv i1 hT) (va_cwS 2 hts (hx_gS kw_864 kw_862 kw_863 kw_110) rfl rfl rfl (by decide +kernel) ⟨Nat.le_of_ble_eq_true rfl, Nat.le_of_ble_eq_true rfl⟩) rfl hl.1 rfl (Nat.le_of_ble_eq_true rfl) dX2_restOn_5 ⟨Nat.le_of_ble_eq_true rfl, Nat.le_of_ble_eq_true rfl⟩) hW (fun r_3 L_1 h_2 H locs p_4 hW => ?_)
  obtain ⟨hr_5, hT, hs⟩ := p_4
  replace hT : hx_T T_tb L_1 h_2 := hT
  replace hs : hx_S T_tb [] L h L_1 h_2 := hs
  replace hM := hM.tr (hs.mono (by decide))
  refine hb_if_eq (zx := r_3.toInt) (tgt := 15) hx hb rfl dX2_restOn_8 (by decide) (fun c_6 => ?_) (fun c_6 => ?_)
  · skip
    replace hr_5 := hr_5.resolve_left (fun z => by have := z.1; omega)
    refine lv_iconst (v := 0) hx hb dX2_restOn_15 (by decide) ?_
    refine lv_aload_n hx hb dX2_restOn_16 rfl (lv_at hl 0 rfl) ?_
    refine lv_aload_n hx hb dX2_restOn_17 rfl (lv_at hl 1 rfl) ?_
    refine lv_iload_n hx hb dX2_restOn_18 rfl (lv_at hl 2 rfl) ?_
    refine lv_iload_n hx hb dX2_restOn_19 rfl (lv_at hl 3 rfl) ?_
    have zc_0 : (0 : Int32).toInt = 0 := by decide
    refine hx_goi (hx_runV (As := [.ref v1, .int i1, .int i2]) (rest := [.int (0 : Int32)]) ⟨hx, hb, hml, hown, hts⟩ hW (gx.S hM) tt_2 (T := TX2) (N := 19) rfl (t_X2_balanceOn_v l dC dI dA L_1 h_2 H.size x v1 i1 i2 hT (gx.S hM) (gv1.S hM) pqo (gpqo.S hM) ((hM.o gv1 trivial rfl).2.trans f_v1_2) pqd (gpqd.S hM) ((hM.o gv1 trivial rfl).2.trans f_v1_3) pqs (gpqs.S hM) ((hM.o gv1 trivial rfl).2.trans f_v1_5) pqk (gpqk.S hM) ((hM.o gv1 trivial rfl).2.trans f_v1_4) pqt (gpqt.S hM) ((hM.o gv1 trivial rfl).2.trans f_v1_1) qac (gqac.S hM) ((hM.o gx trivial rfl).2.trans f_x_3) qt (gqt.S hM) ((hM.o gqac trivial rfl).2.trans f_qac_2) pof (hx_afS hM gpqo rfl af_pqo) pdf (hx_afS hM gpqd rfl af_pqd) psm (hx_afS hM gpqs rfl af_pqs) pkf (hx_afS hM gpqk rfl af_pqk) pst (hx_afS hM gpqt rfl af_pqt) tf (hx_afS hM gqt rfl af_qt) od ((hM.o gx trivial rfl).1.trans f_x_13) sei ((hM.o gx trivial rfl).1.trans f_x_16) gd ((hM.o gx trivial rfl).1.trans f_x_17) ow ((hM.o gx trivial rfl).1.trans f_x_15) nm ((hM.o gx trivial rfl).1.trans f_x_0) n0 ((hM.o gv1 trivial rfl).1.trans f_v1_0) R hR hRb ⟨by omega, by omega⟩ ⟨by omega, by omega⟩ hps) (cwV 3 hts (hx_gV kw_868 kw_865 kw_866 kw_867 kw_110) rfl rfl rfl (by decide +kernel) ⟨Nat.le_of_ble_eq_true rfl, Nat.le_of_ble_eq_true rfl⟩) rfl hl.1 rfl (Nat.le_of_ble_eq_true rfl) dX2_restOn_20 ⟨Nat.le_of_ble_eq_true rfl, Nat.le_of_ble_eq_true rfl⟩) hW (fun r_9 L_7 h_8 H locs p_10 hW => ?_)
    obtain ⟨hr_11, hT, hs⟩ := p_10
    replace hT : hx_T T_tb L_7 h_8 := hT
    replace hs : hx_S T_tb [] L_1 h_2 L_7 h_8 := hs
    replace hM := hM.tr (hs.mono (by decide))
    refine va_mmax hx hb (hml.trans hl.1.symm) hown (hts _ kw_881) (hts _ kw_882) (hts _ kw_109) (hts _ kw_883) (Nat.le_of_ble_eq_true rfl) (Nat.le_of_ble_eq_true rfl) (Nat.le_of_ble_eq_true rfl) (Nat.le_of_ble_eq_true rfl) dX2_restOn_23 ?_
    refine lv_topi (fun x_12 ex_12 => ?_)
    have hmx9 := hz_mx_e ex_12; rw [show (0 : Int32).toInt = 0 from by decide] at hmx9
    exact hx_reti hx hb hr hlk hW ⟨⟨(by unfold hz_rs; (repeat' split) <;> omega), by omega, by omega⟩, hT, hM⟩ dX2_restOn_26
  · skip
    replace hr_5 := hr_5.resolve_right (fun z => by have := z.1; omega)
    refine lv_iconst (v := 0) hx hb dX2_restOn_11 (by decide) ?_
    refine lv_goto (tgt := 26) hx hb dX2_restOn_12 (by decide) ?_
    exact hx_reti hx hb hr hlk hW ⟨(by have zr : (0 : Int32).toInt = 0 := (by decide); exact ⟨(by unfold hz_rs; (repeat' split) <;> omega), by omega, by omega⟩), hT, hM⟩ dX2_restOn_26


set_option maxHeartbeats 4000000 in
set_option maxRecDepth 100000 in
theorem t_X2_overOn_v (l : Launch) (dC : Nat → ClassId) (dI : Nat → Nat → Nat) (dA : Nat → ClassId) (L : List Nat) (h : hx_h) (sz : Nat) (x : Nat) (v1 : Nat) (i1 : Int32) (i2 : Int32) (hT : hx_T T_tb L h) (gx : hx_g L h x 2) (gv1 : hx_g L h v1 3) (pqo : Nat) (gpqo : hx_g L h pqo 23) (f_v1_2 : h.2.2 v1 2 = some pqo) (pqd : Nat) (gpqd : hx_g L h pqd 24) (f_v1_3 : h.2.2 v1 3 = some pqd) (pqs : Nat) (gpqs : hx_g L h pqs 26) (f_v1_5 : h.2.2 v1 5 = some pqs) (pqk : Nat) (gpqk : hx_g L h pqk 25) (f_v1_4 : h.2.2 v1 4 = some pqk) (pqt : Nat) (gpqt : hx_g L h pqt 22) (f_v1_1 : h.2.2 v1 1 = some pqt) (qac : Nat) (gqac : hx_g L h qac 0) (f_x_3 : h.2.2 x 3 = some qac) (qt : Nat) (gqt : hx_g L h qt 11) (f_qac_2 : h.2.2 qac 2 = some qt) (pof : Nat → Int32) (af_pqo : h.2.1 pqo = pof) (pdf : Nat → Int32) (af_pqd : h.2.1 pqd = pdf) (psm : Nat → Int32) (af_pqs : h.2.1 pqs = psm) (pkf : Nat → Int32) (af_pqk : h.2.1 pqk = pkf) (pst : Nat → Int32) (af_pqt : h.2.1 pqt = pst) (tf : Nat → Int32) (af_qt : h.2.1 qt = tf) (od : Int32) (f_x_13 : h.2.1 x 13 = od) (sei : Int32) (f_x_16 : h.2.1 x 16 = sei) (gd : Int32) (f_x_17 : h.2.1 x 17 = gd) (ow : Int32) (f_x_15 : h.2.1 x 15 = ow) (sv : Int32) (f_x_18 : h.2.1 x 18 = sv) (nm : Int32) (f_x_0 : h.2.1 x 0 = nm) (n0 : Int32) (f_v1_0 : h.2.1 v1 0 = n0) (R : Nat → Int) (hR : hv_rC tf = R) (hRb : ∀ k, 0 ≤ R k ∧ R k ≤ 9999) (how : 0 ≤ ow.toInt ∧ ow.toInt ≤ 600000) (hgd : 0 ≤ gd.toInt ∧ gd.toInt ≤ 9999) (hps : ∀ j, j < 600 → 0 ≤ (psm j).toInt ∧ (psm j).toInt ≤ 610000) : Met l yX2_overOn (Cond.code yX2_overOn cX2_overOn 4 (some .int) :: hx_all) ({ frames := 3, cells := 0, slots := 0, locals := 73 }) (va_Pc [.ref x, .ref v1, .int i1, .int i2] (hx_B T_tb (P_ty dA) (dC, dI) vwCl L h sz)) (va_Qi (fun (r : Int32) (u : List Nat × hx_h) => (r.toInt = hz_ov sv.toInt (hz_bl od.toInt sei.toInt gd.toInt ow.toInt (R 12) i1.toInt (hx_ps pof pdf psm pkf pst i1.toInt i2.toInt nm.toInt n0.toInt.toNat)) i1.toInt ∧ (0 ≤ r.toInt ∧ r.toInt ≤ 366100000)) ∧ hx_T T_tb u.1 u.2 ∧ hx_S T_tb [] L h u.1 u.2) (hx_E T_tb (P_ty dA) (dC, dI) vwCl (hx_A L sz)) (hx_A L sz)) 0 0 (hx_A L sz) := by
  refine hx_met (lv := [(0, .ref x), (1, .ref v1), (2, .int i1), (3, .int i2)]) (by decide +kernel) rfl (Nat.le_of_ble_eq_true rfl) rfl ?_
  intro p e s m below meth c hx hb hml hr hlk hts0 hown hin hsz hW ls hl
  have hts : ∀ w ∈ hx_all, w.before _ s = true := fun w hw => hts0 w (List.mem_cons_of_mem _ hw)
  have hown : s.vm.findClass "SmallCourt$Claim" = some m.cls := hown
  have hM : hx_S T_tb [] L h L h := hx_S.rf
  have b_od := hT.gi gx tt_2 (k := 13) rfl
  rw [f_x_13] at b_od
  have b_od : -2147483648 ≤ od.toInt ∧ od.toInt ≤ 2147483647 := b_od
  have b_sei := hT.gi gx tt_2 (k := 16) rfl
  rw [f_x_16] at b_sei
  have b_sei : -2147483648 ≤ sei.toInt ∧ sei.toInt ≤ 2147483647 := b_sei
  have b_gd := hT.gi gx tt_2 (k := 17) rfl
  rw [f_x_17] at b_gd
  have b_gd : -2147483648 ≤ gd.toInt ∧ gd.toInt ≤ 2147483647 := b_gd
  have b_ow := hT.gi gx tt_2 (k := 15) rfl
  rw [f_x_15] at b_ow
  have b_ow : -2147483648 ≤ ow.toInt ∧ ow.toInt ≤ 2147483647 := b_ow
  have b_sv := hT.gi gx tt_2 (k := 18) rfl
  rw [f_x_18] at b_sv
  have b_sv : -2147483648 ≤ sv.toInt ∧ sv.toInt ≤ 2147483647 := b_sv
  have b_nm := hT.gi gx tt_2 (k := 0) rfl
  rw [f_x_0] at b_nm
  have b_nm : 0 ≤ nm.toInt ∧ nm.toInt ≤ 99 := b_nm
  have b_n0 := hT.gi gv1 tt_3 (k := 0) rfl
  rw [f_v1_0] at b_n0
  have b_n0 : 0 ≤ n0.toInt ∧ n0.toInt ≤ 600 := b_n0
  refine lv_aload_n hx hb dX2_overOn_0 rfl (lv_at hl 0 rfl) ?_
  refine hk_geti hx hb hts hC_2 hown hW (gx.S hM) tt_2 18 (by decide) rfl kw_762 ⟨rfl, rfl, rfl⟩ ((hM.o gx trivial rfl).1.trans f_x_18) dX2_overOn_1 ?_
  refine lv_iload_n hx hb dX2_overOn_4 rfl (lv_at hl 2 rfl) ?_
  refine hx_goi (hx_runS (As := [.int sv, .int i1]) (rest := []) ⟨hx, hb, hml, hown, hts⟩ hW (t_X2_isDone_v l dC dI dA L h s.heap.size sv i1 hT) (va_cwS 2 hts (hx_gS kw_864 kw_862 kw_863 kw_110) rfl rfl rfl (by decide +kernel) ⟨Nat.le_of_ble_eq_true rfl, Nat.le_of_ble_eq_true rfl⟩) rfl hl.1 rfl (Nat.le_of_ble_eq_true rfl) dX2_overOn_5 ⟨Nat.le_of_ble_eq_true rfl, Nat.le_of_ble_eq_true rfl⟩) hW (fun r_3 L_1 h_2 H locs p_4 hW => ?_)
  obtain ⟨hr_5, hT, hs⟩ := p_4
  replace hT : hx_T T_tb L_1 h_2 := hT
  replace hs : hx_S T_tb [] L h L_1 h_2 := hs
  replace hM := hM.tr (hs.mono (by decide))
  refine hb_if_eq (zx := r_3.toInt) (tgt := 15) hx hb rfl dX2_overOn_8 (by decide) (fun c_6 => ?_) (fun c_6 => ?_)
  · skip
    replace hr_5 := hr_5.resolve_left (fun z => by have := z.1; omega)
    refine lv_iconst (v := 0) hx hb dX2_overOn_15 (by decide) ?_
    refine lv_aload_n hx hb dX2_overOn_16 rfl (lv_at hl 0 rfl) ?_
    refine lv_aload_n hx hb dX2_overOn_17 rfl (lv_at hl 1 rfl) ?_
    refine lv_iload_n hx hb dX2_overOn_18 rfl (lv_at hl 2 rfl) ?_
    refine lv_iload_n hx hb dX2_overOn_19 rfl (lv_at hl 3 rfl) ?_
    have zc_0 : (0 : Int32).toInt = 0 := by decide
    refine hx_goi (hx_runV (As := [.ref v1, .int i1, .int i2]) (rest := [.int (0 : Int32)]) ⟨hx, hb, hml, hown, hts⟩ hW (gx.S hM) tt_2 (T := TX2) (N := 19) rfl (t_X2_balanceOn_v l dC dI dA L_1 h_2 H.size x v1 i1 i2 hT (gx.S hM) (gv1.S hM) pqo (gpqo.S hM) ((hM.o gv1 trivial rfl).2.trans f_v1_2) pqd (gpqd.S hM) ((hM.o gv1 trivial rfl).2.trans f_v1_3) pqs (gpqs.S hM) ((hM.o gv1 trivial rfl).2.trans f_v1_5) pqk (gpqk.S hM) ((hM.o gv1 trivial rfl).2.trans f_v1_4) pqt (gpqt.S hM) ((hM.o gv1 trivial rfl).2.trans f_v1_1) qac (gqac.S hM) ((hM.o gx trivial rfl).2.trans f_x_3) qt (gqt.S hM) ((hM.o gqac trivial rfl).2.trans f_qac_2) pof (hx_afS hM gpqo rfl af_pqo) pdf (hx_afS hM gpqd rfl af_pqd) psm (hx_afS hM gpqs rfl af_pqs) pkf (hx_afS hM gpqk rfl af_pqk) pst (hx_afS hM gpqt rfl af_pqt) tf (hx_afS hM gqt rfl af_qt) od ((hM.o gx trivial rfl).1.trans f_x_13) sei ((hM.o gx trivial rfl).1.trans f_x_16) gd ((hM.o gx trivial rfl).1.trans f_x_17) ow ((hM.o gx trivial rfl).1.trans f_x_15) nm ((hM.o gx trivial rfl).1.trans f_x_0) n0 ((hM.o gv1 trivial rfl).1.trans f_v1_0) R hR hRb ⟨by omega, by omega⟩ ⟨by omega, by omega⟩ hps) (cwV 3 hts (hx_gV kw_868 kw_865 kw_866 kw_867 kw_110) rfl rfl rfl (by decide +kernel) ⟨Nat.le_of_ble_eq_true rfl, Nat.le_of_ble_eq_true rfl⟩) rfl hl.1 rfl (Nat.le_of_ble_eq_true rfl) dX2_overOn_20 ⟨Nat.le_of_ble_eq_true rfl, Nat.le_of_ble_eq_true rfl⟩) hW (fun r_9 L_7 h_8 H locs p_10 hW => ?_)
    obtain ⟨hr_11, hT, hs⟩ := p_10
    replace hT : hx_T T_tb L_7 h_8 := hT
    replace hs : hx_S T_tb [] L_1 h_2 L_7 h_8 := hs
    replace hM := hM.tr (hs.mono (by decide))
    refine lv_ineg hx hb dX2_overOn_23 ?_
    refine lv_topi (fun x_12 ex_12 => ?_)
    have zn9 := hz_neg ex_12 (by omega)
    refine va_mmax hx hb (hml.trans hl.1.symm) hown (hts _ kw_881) (hts _ kw_882) (hts _ kw_109) (hts _ kw_883) (Nat.le_of_ble_eq_true rfl) (Nat.le_of_ble_eq_true rfl) (Nat.le_of_ble_eq_true rfl) (Nat.le_of_ble_eq_true rfl) dX2_overOn_24 ?_
    refine lv_topi (fun x_13 ex_13 => ?_)
    have hmx9 := hz_mx_e ex_13; rw [show (0 : Int32).toInt = 0 from by decide] at hmx9
    exact hx_reti hx hb hr hlk hW ⟨⟨(by unfold hz_ov; (repeat' split) <;> omega), by omega, by omega⟩, hT, hM⟩ dX2_overOn_27
  · skip
    replace hr_5 := hr_5.resolve_right (fun z => by have := z.1; omega)
    refine lv_iconst (v := 0) hx hb dX2_overOn_11 (by decide) ?_
    refine lv_goto (tgt := 27) hx hb dX2_overOn_12 (by decide) ?_
    exact hx_reti hx hb hr hlk hW ⟨(by have zr : (0 : Int32).toInt = 0 := (by decide); exact ⟨(by unfold hz_ov; (repeat' split) <;> omega), by omega, by omega⟩), hT, hM⟩ dX2_overOn_27


set_option maxHeartbeats 4000000 in
set_option maxRecDepth 100000 in
theorem t_X2_missedOn_v (l : Launch) (dC : Nat → ClassId) (dI : Nat → Nat → Nat) (dA : Nat → ClassId) (L : List Nat) (h : hx_h) (sz : Nat) (b0 : hx_z) (x : Nat) (v1 : Nat) (i1 : Int32) (i2 : Int32) (hT : hx_T T_tb L h) (gx : hx_g L h x 2) (gv1 : hx_g L h v1 3) (pqo : Nat) (gpqo : hx_g L h pqo 23) (f_v1_2 : h.2.2 v1 2 = some pqo) (pqd : Nat) (gpqd : hx_g L h pqd 24) (f_v1_3 : h.2.2 v1 3 = some pqd) (pqs : Nat) (gpqs : hx_g L h pqs 26) (f_v1_5 : h.2.2 v1 5 = some pqs) (pqk : Nat) (gpqk : hx_g L h pqk 25) (f_v1_4 : h.2.2 v1 4 = some pqk) (pqt : Nat) (gpqt : hx_g L h pqt 22) (f_v1_1 : h.2.2 v1 1 = some pqt) (qac : Nat) (gqac : hx_g L h qac 0) (f_x_3 : h.2.2 x 3 = some qac) (qt : Nat) (gqt : hx_g L h qt 11) (f_qac_2 : h.2.2 qac 2 = some qt) (pof : Nat → Int32) (af_pqo : h.2.1 pqo = pof) (pdf : Nat → Int32) (af_pqd : h.2.1 pqd = pdf) (psm : Nat → Int32) (af_pqs : h.2.1 pqs = psm) (pkf : Nat → Int32) (af_pqk : h.2.1 pqk = pkf) (pst : Nat → Int32) (af_pqt : h.2.1 pqt = pst) (tf : Nat → Int32) (af_qt : h.2.1 qt = tf) (od : Int32) (f_x_13 : h.2.1 x 13 = od) (wk : Int32) (f_x_14 : h.2.1 x 14 = wk) (ow : Int32) (f_x_15 : h.2.1 x 15 = ow) (sei : Int32) (f_x_16 : h.2.1 x 16 = sei) (gd : Int32) (f_x_17 : h.2.1 x 17 = gd) (sv : Int32) (f_x_18 : h.2.1 x 18 = sv) (nm : Int32) (f_x_0 : h.2.1 x 0 = nm) (n0 : Int32) (f_v1_0 : h.2.1 v1 0 = n0) (R : Nat → Int) (hR : hv_rC tf = R) (hRb : ∀ k, 0 ≤ R k ∧ R k ≤ 9999) (hod : -1 ≤ od.toInt ∧ od.toInt ≤ 7999) (hwk : 0 ≤ wk.toInt ∧ wk.toInt ≤ 9999) (how : 0 ≤ ow.toInt ∧ ow.toInt ≤ 600000) (hgd : 0 ≤ gd.toInt ∧ gd.toInt ≤ 9999) (hps : ∀ j, j < 600 → 0 ≤ (psm j).toInt ∧ (psm j).toInt ≤ 610000) (hi1 : 0 ≤ i1.toInt ∧ i1.toInt ≤ 7999) : Met l yX2_missedOn (Cond.code yX2_missedOn cX2_missedOn 5 (some .int) :: hx_all) ({ frames := 2, cells := 0, slots := 0, locals := 50 }) (va_Pc [.ref x, .ref v1, .int i1, .int i2] (hx_BX T_tb (P_ty dA) (dC, dI) vwCl L h sz b0)) (va_Qi (fun (r : Int32) (u : List Nat × hx_h) => (r.toInt = hz_ms od.toInt sv.toInt wk.toInt (hz_al ow.toInt sei.toInt (R 12) i1.toInt) (hz_pdy od.toInt sei.toInt gd.toInt i1.toInt (hx_ps pof pdf psm pkf pst i1.toInt i2.toInt nm.toInt n0.toInt.toNat)) i1.toInt ∧ (0 ≤ r.toInt ∧ r.toInt ≤ 609999)) ∧ hx_T T_tb u.1 u.2 ∧ hx_S T_tb [] L h u.1 u.2) (hx_E T_tb (P_ty dA) (dC, dI) vwCl (hx_A L sz)) (hx_A L sz)) 0 0 (hx_A L sz) := by
  refine hx_metX (lv := [(0, .ref x), (1, .ref v1), (2, .int i1), (3, .int i2)]) (by decide +kernel) rfl (Nat.le_of_ble_eq_true rfl) rfl ?_
  intro p e s m below meth c hx hb hml hr hlk hts0 hown hin hsz hW hZ ls hl
  have hts : ∀ w ∈ hx_all, w.before _ s = true := fun w hw => hts0 w (List.mem_cons_of_mem _ hw)
  have hown : s.vm.findClass "SmallCourt$Claim" = some m.cls := hown
  have hM : hx_S T_tb [] L h L h := hx_S.rf
  have b_od := hT.gi gx tt_2 (k := 13) rfl
  rw [f_x_13] at b_od
  have b_od : -2147483648 ≤ od.toInt ∧ od.toInt ≤ 2147483647 := b_od
  have b_wk := hT.gi gx tt_2 (k := 14) rfl
  rw [f_x_14] at b_wk
  have b_wk : -2147483648 ≤ wk.toInt ∧ wk.toInt ≤ 2147483647 := b_wk
  have b_ow := hT.gi gx tt_2 (k := 15) rfl
  rw [f_x_15] at b_ow
  have b_ow : -2147483648 ≤ ow.toInt ∧ ow.toInt ≤ 2147483647 := b_ow
  have b_sei := hT.gi gx tt_2 (k := 16) rfl
  rw [f_x_16] at b_sei
  have b_sei : -2147483648 ≤ sei.toInt ∧ sei.toInt ≤ 2147483647 := b_sei
  have b_gd := hT.gi gx tt_2 (k := 17) rfl
  rw [f_x_17] at b_gd
  have b_gd : -2147483648 ≤ gd.toInt ∧ gd.toInt ≤ 2147483647 := b_gd
  have b_sv := hT.gi gx tt_2 (k := 18) rfl
  rw [f_x_18] at b_sv
  have b_sv : -2147483648 ≤ sv.toInt ∧ sv.toInt ≤ 2147483647 := b_sv
  have b_nm := hT.gi gx tt_2 (k := 0) rfl
  rw [f_x_0] at b_nm
  have b_nm : 0 ≤ nm.toInt ∧ nm.toInt ≤ 99 := b_nm
  have b_n0 := hT.gi gv1 tt_3 (k := 0) rfl
  rw [f_v1_0] at b_n0
  have b_n0 : 0 ≤ n0.toInt ∧ n0.toInt ≤ 600 := b_n0
  refine lv_aload_n hx hb dX2_missedOn_0 rfl (lv_at hl 0 rfl) ?_
  refine hk_geti hx hb hts hC_2 hown hW (gx.S hM) tt_2 13 (by decide) rfl kw_752 ⟨rfl, rfl, rfl⟩ ((hM.o gx trivial rfl).1.trans f_x_13) dX2_missedOn_1 ?_
  refine lv_iload_n hx hb dX2_missedOn_4 rfl (lv_at hl 2 rfl) ?_
  refine hx_goi (hx_runS (As := [.int od, .int i1]) (rest := []) ⟨hx, hb, hml, hown, hts⟩ hW (t_X2_isDone_v l dC dI dA L h s.heap.size od i1 hT) (va_cwS 2 hts (hx_gS kw_864 kw_862 kw_863 kw_110) rfl rfl rfl (by decide +kernel) ⟨Nat.le_of_ble_eq_true rfl, Nat.le_of_ble_eq_true rfl⟩) rfl hl.1 rfl (Nat.le_of_ble_eq_true rfl) dX2_missedOn_5 ⟨Nat.le_of_ble_eq_true rfl, Nat.le_of_ble_eq_true rfl⟩) hW (fun r_3 L_1 h_2 H locs p_4 hW => ?_)
  obtain ⟨hr_5, hT, hs⟩ := p_4
  replace hT : hx_T T_tb L_1 h_2 := hT
  replace hs : hx_S T_tb [] L h L_1 h_2 := hs
  replace hM := hM.tr (hs.mono (by decide))
  refine hb_if_eq (zx := r_3.toInt) (tgt := 22) hx hb rfl dX2_missedOn_8 (by decide) (fun c_6 => ?_) (fun c_6 => ?_)
  · skip
    refine lv_iconst (v := 0) hx hb dX2_missedOn_22 (by decide) ?_
    exact hx_reti hx hb hr hlk hW ⟨(by have zr : (0 : Int32).toInt = 0 := (by decide); exact ⟨(by unfold hz_ms; rw [if_pos (by omega)]; omega), by omega, by omega⟩), hT, hM⟩ dX2_missedOn_23
  · skip
    replace hr_5 := hr_5.resolve_right (fun z => by have := z.1; omega)
    refine lv_aload_n hx hb dX2_missedOn_11 rfl (lv_at hl 0 rfl) ?_
    refine hk_geti hx hb hts hC_2 hown hW (gx.S hM) tt_2 18 (by decide) rfl kw_762 ⟨rfl, rfl, rfl⟩ ((hM.o gx trivial rfl).1.trans f_x_18) dX2_missedOn_12 ?_
    refine lv_iload_n hx hb dX2_missedOn_15 rfl (lv_at hl 2 rfl) ?_
    refine hx_goi (hx_runS (As := [.int sv, .int i1]) (rest := []) ⟨hx, hb, hml, hown, hts⟩ hW (t_X2_isDone_v l dC dI dA L_1 h_2 H.size sv i1 hT) (va_cwS 2 hts (hx_gS kw_864 kw_862 kw_863 kw_110) rfl rfl rfl (by decide +kernel) ⟨Nat.le_of_ble_eq_true rfl, Nat.le_of_ble_eq_true rfl⟩) rfl hl.1 rfl (Nat.le_of_ble_eq_true rfl) dX2_missedOn_16 ⟨Nat.le_of_ble_eq_true rfl, Nat.le_of_ble_eq_true rfl⟩) hW (fun r_9 L_7 h_8 H locs p_10 hW => ?_)
    obtain ⟨hr_11, hT, hs⟩ := p_10
    replace hT : hx_T T_tb L_7 h_8 := hT
    replace hs : hx_S T_tb [] L_1 h_2 L_7 h_8 := hs
    replace hM := hM.tr (hs.mono (by decide))
    refine hb_if_eq (zx := r_9.toInt) (tgt := 24) hx hb rfl dX2_missedOn_19 (by decide) (fun c_12 => ?_) (fun c_12 => ?_)
    · skip
      replace hr_11 := hr_11.resolve_left (fun z => by have := z.1; omega)
      refine lv_aload_n hx hb dX2_missedOn_24 rfl (lv_at hl 0 rfl) ?_
      refine lv_iload_n hx hb dX2_missedOn_25 rfl (lv_at hl 2 rfl) ?_
      refine hx_goi (hx_runV (As := [.int i1]) (rest := []) ⟨hx, hb, hml, hown, hts⟩ hW (gx.S hM) tt_2 (T := TX2) (N := 19) rfl (t_X2_owedOn_v l dC dI dA L_7 h_8 H.size x i1 hT (gx.S hM) qac (gqac.S hM) ((hM.o gx trivial rfl).2.trans f_x_3) qt (gqt.S hM) ((hM.o gqac trivial rfl).2.trans f_qac_2) tf (hx_afS hM gqt rfl af_qt) sei ((hM.o gx trivial rfl).1.trans f_x_16) ow ((hM.o gx trivial rfl).1.trans f_x_15) R hR hRb ⟨by omega, by omega⟩) (cwV 1 hts (hx_gV kw_872 kw_869 kw_871 kw_31 kw_110) rfl rfl rfl (by decide +kernel) ⟨Nat.le_of_ble_eq_true rfl, Nat.le_of_ble_eq_true rfl⟩) rfl hl.1 rfl (Nat.le_of_ble_eq_true rfl) dX2_missedOn_26 ⟨Nat.le_of_ble_eq_true rfl, Nat.le_of_ble_eq_true rfl⟩) hW (fun r_15 L_13 h_14 H locs p_16 hW => ?_)
      obtain ⟨hr_17, hT, hs⟩ := p_16
      replace hT : hx_T T_tb L_13 h_14 := hT
      replace hs : hx_S T_tb [] L_7 h_8 L_13 h_14 := hs
      replace hM := hM.tr (hs.mono (by decide))
      refine lv_aload_n hx hb dX2_missedOn_29 rfl (lv_at hl 0 rfl) ?_
      refine hk_geti hx hb hts hC_2 hown hW (gx.S hM) tt_2 14 (by decide) rfl kw_754 ⟨rfl, rfl, rfl⟩ ((hM.o gx trivial rfl).1.trans f_x_14) dX2_missedOn_30 ?_
      refine lv_iload_n hx hb dX2_missedOn_33 rfl (lv_at hl 2 rfl) ?_
      refine lv_aload_n hx hb dX2_missedOn_34 rfl (lv_at hl 0 rfl) ?_
      refine hk_geti hx hb hts hC_2 hown hW (gx.S hM) tt_2 13 (by decide) rfl kw_752 ⟨rfl, rfl, rfl⟩ ((hM.o gx trivial rfl).1.trans f_x_13) dX2_missedOn_35 ?_
      refine lv_isub hx hb dX2_missedOn_38 ?_
      have rg_18 := i32_r i1
      have rg_19 := i32_r od
      refine lv_topi (fun x_20 ex_20 => ?_)
      have zx_20 : x_20.toInt = i1.toInt - od.toInt := by rw [ex_20]; exact i32_sub rfl rfl (by omega) (by omega)
      refine lv_bipush (v := 7) hx hb dX2_missedOn_39 (by decide) ?_
      refine lv_idiv hx hb dX2_missedOn_41 (by decide) ?_
      refine lv_topi (fun x_21 ex_21 => ?_)
      have zx_21 : x_21.toInt = x_20.toInt / 7 := by rw [ex_21, hx_dv (by omega) (by decide)]; rfl
      refine lv_imul hx hb dX2_missedOn_42 ?_
      refine lv_topi (fun x_22 ex_22 => ?_)
      have mx_22 : wk.toInt = 0 → x_22.toInt = 0 := fun z => by rw [ex_22]; exact hx_mul0 z
      obtain ⟨m9, m9l, m9h⟩ := hz_mul ⟨by omega, by omega⟩ ⟨by omega, by omega⟩ ex_22
      refine va_mmin hx hb (hml.trans hl.1.symm) hown (hts _ kw_916) (hts _ kw_917) (hts _ kw_109) (hts _ kw_918) (Nat.le_of_ble_eq_true rfl) (Nat.le_of_ble_eq_true rfl) (Nat.le_of_ble_eq_true rfl) (Nat.le_of_ble_eq_true rfl) dX2_missedOn_43 ?_
      refine lv_topi (fun x_23 ex_23 => ?_)
      have hmi9 := hz_mi_e ex_23
      have hmb9 : 0 ≤ x_23.toInt ∧ x_23.toInt ≤ 609999 := by rw [hmi9]; unfold hz_mi; split <;> omega
      refine lv_istore (lv' := [(4, .int x_23), (0, .ref x), (1, .ref v1), (2, .int i1), (3, .int i2)]) hx hb dX2_missedOn_46 hl (by decide) rfl (fun ls hl => ?_)
      refine lv_iload hx hb dX2_missedOn_48 (lv_at hl 0 rfl) ?_
      refine lv_aload_n hx hb dX2_missedOn_50 rfl (lv_at hl 1 rfl) ?_
      refine lv_aload_n hx hb dX2_missedOn_51 rfl (lv_at hl 2 rfl) ?_
      refine lv_iload_n hx hb dX2_missedOn_52 rfl (lv_at hl 3 rfl) ?_
      refine lv_iload_n hx hb dX2_missedOn_53 rfl (lv_at hl 4 rfl) ?_
      refine hx_goi (hx_runV (As := [.ref v1, .int i1, .int i2]) (rest := [.int x_23]) ⟨hx, hb, hml, hown, hts⟩ hW (gx.S hM) tt_2 (T := TX2) (N := 19) rfl (t_X2_paidOn_v l dC dI dA L_13 h_14 H.size x v1 i1 i2 hT (gx.S hM) (gv1.S hM) pqo (gpqo.S hM) ((hM.o gv1 trivial rfl).2.trans f_v1_2) pqd (gpqd.S hM) ((hM.o gv1 trivial rfl).2.trans f_v1_3) pqs (gpqs.S hM) ((hM.o gv1 trivial rfl).2.trans f_v1_5) pqk (gpqk.S hM) ((hM.o gv1 trivial rfl).2.trans f_v1_4) pqt (gpqt.S hM) ((hM.o gv1 trivial rfl).2.trans f_v1_1) pof (hx_afS hM gpqo rfl af_pqo) pdf (hx_afS hM gpqd rfl af_pqd) psm (hx_afS hM gpqs rfl af_pqs) pkf (hx_afS hM gpqk rfl af_pqk) pst (hx_afS hM gpqt rfl af_pqt) od ((hM.o gx trivial rfl).1.trans f_x_13) sei ((hM.o gx trivial rfl).1.trans f_x_16) gd ((hM.o gx trivial rfl).1.trans f_x_17) nm ((hM.o gx trivial rfl).1.trans f_x_0) n0 ((hM.o gv1 trivial rfl).1.trans f_v1_0) ⟨by omega, by omega⟩ hps) (cwV 3 hts (hx_gV kw_876 kw_873 kw_874 kw_875 kw_110) rfl rfl rfl (by decide +kernel) ⟨Nat.le_of_ble_eq_true rfl, Nat.le_of_ble_eq_true rfl⟩) rfl hl.1 rfl (Nat.le_of_ble_eq_true rfl) dX2_missedOn_54 ⟨Nat.le_of_ble_eq_true rfl, Nat.le_of_ble_eq_true rfl⟩) hW (fun r_26 L_24 h_25 H locs p_27 hW => ?_)
      obtain ⟨hr_28, hT, hs⟩ := p_27
      replace hT : hx_T T_tb L_24 h_25 := hT
      replace hs : hx_S T_tb [] L_13 h_14 L_24 h_25 := hs
      replace hM := hM.tr (hs.mono (by decide))
      refine lv_isub hx hb dX2_missedOn_57 ?_
      have rg_29 := i32_r x_23
      have rg_30 := i32_r r_26
      refine lv_topi (fun x_31 ex_31 => ?_)
      have zx_31 : x_31.toInt = x_23.toInt - r_26.toInt := by rw [ex_31]; exact i32_sub rfl rfl (by omega) (by omega)
      refine lv_aload_n hx hb dX2_missedOn_58 rfl (lv_at hl 1 rfl) ?_
      refine hk_geti hx hb hts hC_2 hown hW (gx.S hM) tt_2 14 (by decide) rfl kw_754 ⟨rfl, rfl, rfl⟩ ((hM.o gx trivial rfl).1.trans f_x_14) dX2_missedOn_59 ?_
      refine hx_goi (hx_runSN (As := [.int x_31, .int wk]) (rest := []) ⟨hx, hb, hml, hown, hts⟩ hW (t_X9_roundUp_v l dC dI dA L_24 h_25 H.size x_31 wk hT) ⟨va_cnB 2 hts (hx_gC kw_921) rfl rfl rfl (hZ.1 _ (List.mem_of_getElem? (i := 9) rfl)) (hts _ kw_94) (by decide +kernel) ⟨Nat.le_of_ble_eq_true rfl, Nat.le_of_ble_eq_true rfl⟩, hts _ kw_920, trivial⟩ rfl hl.1 rfl (Nat.le_of_ble_eq_true rfl) dX2_missedOn_62 ⟨Nat.le_of_ble_eq_true rfl, Nat.le_of_ble_eq_true rfl⟩) hW (fun r_34 L_32 h_33 H locs p_35 hW => ?_)
      obtain ⟨hr_36, hT, hs⟩ := p_35
      replace hT : hx_T T_tb L_32 h_33 := hT
      replace hs : hx_S T_tb [] L_24 h_25 L_32 h_33 := hs
      replace hM := hM.tr (hs.mono (by decide))
      exact hx_reti hx hb hr hlk hW ⟨⟨(by unfold hz_ms; rw [if_neg (by omega), hr_36, zx_31, hmi9, m9, zx_21, zx_20, hr_17.1, hr_28.1]), (by rw [hr_36]; exact hz_ru_b.1), (by have h9 := (hz_ru_b (s := x_31.toInt) (b := wk.toInt)).2; rw [← hr_36] at h9; omega)⟩, hT, hM⟩ dX2_missedOn_65
    · skip
      refine lv_iconst (v := 0) hx hb dX2_missedOn_22 (by decide) ?_
      exact hx_reti hx hb hr hlk hW ⟨(by have zr : (0 : Int32).toInt = 0 := (by decide); exact ⟨(by unfold hz_ms; rw [if_pos (by omega)]; omega), by omega, by omega⟩), hT, hM⟩ dX2_missedOn_23


set_option maxHeartbeats 4000000 in
set_option maxRecDepth 100000 in
theorem t_X2_stateAheadOfOrder_v (l : Launch) (dC : Nat → ClassId) (dI : Nat → Nat → Nat) (dA : Nat → ClassId) (L : List Nat) (h : hx_h) (sz : Nat) (x : Nat) (i1 : Int32) (hT : hx_T T_tb L h) (gx : hx_g L h x 2) (fo : Int32) (f_x_10 : h.2.1 x 10 = fo) (he : Int32) (f_x_11 : h.2.1 x 11 = he) (ju : Int32) (f_x_12 : h.2.1 x 12 = ju) : Met l yX2_stateAheadOfOrder (Cond.code yX2_stateAheadOfOrder cX2_stateAheadOfOrder 2 (some .int) :: hx_all) ({ frames := 1, cells := 0, slots := 0, locals := 21 }) (va_Pc [.ref x, .int i1] (hx_B T_tb (P_ty dA) (dC, dI) vwCl L h sz)) (va_Qi (fun (r : Int32) (u : List Nat × hx_h) => (r.toInt = hz_sa fo.toInt he.toInt ju.toInt i1.toInt ∧ (0 ≤ r.toInt ∧ r.toInt ≤ 3)) ∧ hx_T T_tb u.1 u.2 ∧ hx_S T_tb [] L h u.1 u.2) (hx_E T_tb (P_ty dA) (dC, dI) vwCl (hx_A L sz)) (hx_A L sz)) 0 0 (hx_A L sz) := by
  refine hx_met (lv := [(0, .ref x), (1, .int i1)]) (by decide +kernel) rfl (Nat.le_of_ble_eq_true rfl) rfl ?_
  intro p e s m below meth c hx hb hml hr hlk hts0 hown hin hsz hW ls hl
  have hts : ∀ w ∈ hx_all, w.before _ s = true := fun w hw => hts0 w (List.mem_cons_of_mem _ hw)
  have hown : s.vm.findClass "SmallCourt$Claim" = some m.cls := hown
  have hM : hx_S T_tb [] L h L h := hx_S.rf
  have b_fo := hT.gi gx tt_2 (k := 10) rfl
  rw [f_x_10] at b_fo
  have b_fo : -1 ≤ fo.toInt ∧ fo.toInt ≤ 7999 := b_fo
  have b_he := hT.gi gx tt_2 (k := 11) rfl
  rw [f_x_11] at b_he
  have b_he : -1 ≤ he.toInt ∧ he.toInt ≤ 7999 := b_he
  have b_ju := hT.gi gx tt_2 (k := 12) rfl
  rw [f_x_12] at b_ju
  have b_ju : 0 ≤ ju.toInt ∧ ju.toInt ≤ 5 := b_ju
  refine lv_aload_n hx hb dX2_stateAheadOfOrder_0 rfl (lv_at hl 0 rfl) ?_
  refine hk_geti hx hb hts hC_2 hown hW (gx.S hM) tt_2 11 (by decide) rfl kw_748 ⟨rfl, rfl, rfl⟩ ((hM.o gx trivial rfl).1.trans f_x_11) dX2_stateAheadOfOrder_1 ?_
  refine lv_iload_n hx hb dX2_stateAheadOfOrder_4 rfl (lv_at hl 1 rfl) ?_
  refine hx_goi (hx_runS (As := [.int he, .int i1]) (rest := []) ⟨hx, hb, hml, hown, hts⟩ hW (t_X2_isDone_v l dC dI dA L h s.heap.size he i1 hT) (va_cwS 2 hts (hx_gS kw_864 kw_862 kw_863 kw_110) rfl rfl rfl (by decide +kernel) ⟨Nat.le_of_ble_eq_true rfl, Nat.le_of_ble_eq_true rfl⟩) rfl hl.1 rfl (Nat.le_of_ble_eq_true rfl) dX2_stateAheadOfOrder_5 ⟨Nat.le_of_ble_eq_true rfl, Nat.le_of_ble_eq_true rfl⟩) hW (fun r_3 L_1 h_2 H locs p_4 hW => ?_)
  obtain ⟨hr_5, hT, hs⟩ := p_4
  replace hT : hx_T T_tb L_1 h_2 := hT
  replace hs : hx_S T_tb [] L h L_1 h_2 := hs
  replace hM := hM.tr (hs.mono (by decide))
  refine hb_if_eq (zx := r_3.toInt) (tgt := 25) hx hb rfl dX2_stateAheadOfOrder_8 (by decide) (fun c_6 => ?_) (fun c_6 => ?_)
  · skip
    replace hr_5 := hr_5.resolve_left (fun z => by have := z.1; omega)
    refine lv_aload_n hx hb dX2_stateAheadOfOrder_25 rfl (lv_at hl 0 rfl) ?_
    refine hk_geti hx hb hts hC_2 hown hW (gx.S hM) tt_2 10 (by decide) rfl kw_746 ⟨rfl, rfl, rfl⟩ ((hM.o gx trivial rfl).1.trans f_x_10) dX2_stateAheadOfOrder_26 ?_
    refine lv_iload_n hx hb dX2_stateAheadOfOrder_29 rfl (lv_at hl 1 rfl) ?_
    refine hx_goi (hx_runS (As := [.int fo, .int i1]) (rest := []) ⟨hx, hb, hml, hown, hts⟩ hW (t_X2_isDone_v l dC dI dA L_1 h_2 H.size fo i1 hT) (va_cwS 2 hts (hx_gS kw_864 kw_862 kw_863 kw_110) rfl rfl rfl (by decide +kernel) ⟨Nat.le_of_ble_eq_true rfl, Nat.le_of_ble_eq_true rfl⟩) rfl hl.1 rfl (Nat.le_of_ble_eq_true rfl) dX2_stateAheadOfOrder_30 ⟨Nat.le_of_ble_eq_true rfl, Nat.le_of_ble_eq_true rfl⟩) hW (fun r_9 L_7 h_8 H locs p_10 hW => ?_)
    obtain ⟨hr_11, hT, hs⟩ := p_10
    replace hT : hx_T T_tb L_7 h_8 := hT
    replace hs : hx_S T_tb [] L_1 h_2 L_7 h_8 := hs
    replace hM := hM.tr (hs.mono (by decide))
    refine hb_if_eq (zx := r_9.toInt) (tgt := 40) hx hb rfl dX2_stateAheadOfOrder_33 (by decide) (fun c_12 => ?_) (fun c_12 => ?_)
    · skip
      replace hr_11 := hr_11.resolve_left (fun z => by have := z.1; omega)
      refine lv_iconst (v := 0) hx hb dX2_stateAheadOfOrder_40 (by decide) ?_
      exact hx_reti hx hb hr hlk hW ⟨(by have zr : (0 : Int32).toInt = 0 := (by decide); exact ⟨(by unfold hz_sa; (repeat' split) <;> omega), by omega, by omega⟩), hT, hM⟩ dX2_stateAheadOfOrder_41
    · skip
      replace hr_11 := hr_11.resolve_right (fun z => by have := z.1; omega)
      refine lv_iconst (v := 1) hx hb dX2_stateAheadOfOrder_36 (by decide) ?_
      refine lv_goto (tgt := 41) hx hb dX2_stateAheadOfOrder_37 (by decide) ?_
      exact hx_reti hx hb hr hlk hW ⟨(by have zr : (1 : Int32).toInt = 1 := (by decide); exact ⟨(by unfold hz_sa; (repeat' split) <;> omega), by omega, by omega⟩), hT, hM⟩ dX2_stateAheadOfOrder_41
  · skip
    replace hr_5 := hr_5.resolve_right (fun z => by have := z.1; omega)
    refine lv_aload_n hx hb dX2_stateAheadOfOrder_11 rfl (lv_at hl 0 rfl) ?_
    refine hk_geti hx hb hts hC_2 hown hW (gx.S hM) tt_2 12 (by decide) rfl kw_750 ⟨rfl, rfl, rfl⟩ ((hM.o gx trivial rfl).1.trans f_x_12) dX2_stateAheadOfOrder_12 ?_
    refine lv_iconst (v := 5) hx hb dX2_stateAheadOfOrder_15 (by decide) ?_
    refine hb_icmp_ne (zx := ju.toInt) (zy := 5) (tgt := 23) hx hb rfl (by decide) dX2_stateAheadOfOrder_16 (by decide) (fun c_13 => ?_) (fun c_13 => ?_)
    · skip
      refine lv_iconst (v := 2) hx hb dX2_stateAheadOfOrder_23 (by decide) ?_
      exact hx_reti hx hb hr hlk hW ⟨(by have zr : (2 : Int32).toInt = 2 := (by decide); exact ⟨(by unfold hz_sa; (repeat' split) <;> omega), by omega, by omega⟩), hT, hM⟩ dX2_stateAheadOfOrder_24
    · skip
      refine lv_iconst (v := 3) hx hb dX2_stateAheadOfOrder_19 (by decide) ?_
      refine lv_goto (tgt := 24) hx hb dX2_stateAheadOfOrder_20 (by decide) ?_
      exact hx_reti hx hb hr hlk hW ⟨(by have zr : (3 : Int32).toInt = 3 := (by decide); exact ⟨(by unfold hz_sa; (repeat' split) <;> omega), by omega, by omega⟩), hT, hM⟩ dX2_stateAheadOfOrder_24


set_option maxHeartbeats 4000000 in
set_option maxRecDepth 100000 in
theorem t_X2_stateOn_v (l : Launch) (dC : Nat → ClassId) (dI : Nat → Nat → Nat) (dA : Nat → ClassId) (L : List Nat) (h : hx_h) (sz : Nat) (b0 : hx_z) (x : Nat) (v1 : Nat) (i1 : Int32) (i2 : Int32) (hT : hx_T T_tb L h) (gx : hx_g L h x 2) (gv1 : hx_g L h v1 3) (pqo : Nat) (gpqo : hx_g L h pqo 23) (f_v1_2 : h.2.2 v1 2 = some pqo) (pqd : Nat) (gpqd : hx_g L h pqd 24) (f_v1_3 : h.2.2 v1 3 = some pqd) (pqs : Nat) (gpqs : hx_g L h pqs 26) (f_v1_5 : h.2.2 v1 5 = some pqs) (pqk : Nat) (gpqk : hx_g L h pqk 25) (f_v1_4 : h.2.2 v1 4 = some pqk) (pqt : Nat) (gpqt : hx_g L h pqt 22) (f_v1_1 : h.2.2 v1 1 = some pqt) (qac : Nat) (gqac : hx_g L h qac 0) (f_x_3 : h.2.2 x 3 = some qac) (qt : Nat) (gqt : hx_g L h qt 11) (f_qac_2 : h.2.2 qac 2 = some qt) (pof : Nat → Int32) (af_pqo : h.2.1 pqo = pof) (pdf : Nat → Int32) (af_pqd : h.2.1 pqd = pdf) (psm : Nat → Int32) (af_pqs : h.2.1 pqs = psm) (pkf : Nat → Int32) (af_pqk : h.2.1 pqk = pkf) (pst : Nat → Int32) (af_pqt : h.2.1 pqt = pst) (tf : Nat → Int32) (af_qt : h.2.1 qt = tf) (fo : Int32) (f_x_10 : h.2.1 x 10 = fo) (he : Int32) (f_x_11 : h.2.1 x 11 = he) (ju : Int32) (f_x_12 : h.2.1 x 12 = ju) (od : Int32) (f_x_13 : h.2.1 x 13 = od) (wk : Int32) (f_x_14 : h.2.1 x 14 = wk) (ow : Int32) (f_x_15 : h.2.1 x 15 = ow) (sei : Int32) (f_x_16 : h.2.1 x 16 = sei) (gd : Int32) (f_x_17 : h.2.1 x 17 = gd) (sv : Int32) (f_x_18 : h.2.1 x 18 = sv) (nm : Int32) (f_x_0 : h.2.1 x 0 = nm) (n0 : Int32) (f_v1_0 : h.2.1 v1 0 = n0) (R : Nat → Int) (hR : hv_rC tf = R) (hRb : ∀ k, 0 ≤ R k ∧ R k ≤ 9999) (hod : -1 ≤ od.toInt ∧ od.toInt ≤ 7999) (hwk : 0 ≤ wk.toInt ∧ wk.toInt ≤ 9999) (how : 0 ≤ ow.toInt ∧ ow.toInt ≤ 600000) (hgd : 0 ≤ gd.toInt ∧ gd.toInt ≤ 9999) (hps : ∀ j, j < 600 → 0 ≤ (psm j).toInt ∧ (psm j).toInt ≤ 610000) (hi1 : 0 ≤ i1.toInt ∧ i1.toInt ≤ 7999) : Met l yX2_stateOn (Cond.code yX2_stateOn cX2_stateOn 5 (some .int) :: hx_all) ({ frames := 4, cells := 0, slots := 0, locals := 96 }) (va_Pc [.ref x, .ref v1, .int i1, .int i2] (hx_BX T_tb (P_ty dA) (dC, dI) vwCl L h sz b0)) (va_Qi (fun (r : Int32) (u : List Nat × hx_h) => (r.toInt = hz_st fo.toInt he.toInt ju.toInt od.toInt sv.toInt (hz_rs sv.toInt (hz_bl od.toInt sei.toInt gd.toInt ow.toInt (R 12) i1.toInt (hx_ps pof pdf psm pkf pst i1.toInt i2.toInt nm.toInt n0.toInt.toNat)) i1.toInt) (hz_ms od.toInt sv.toInt wk.toInt (hz_al ow.toInt sei.toInt (R 12) i1.toInt) (hz_pdy od.toInt sei.toInt gd.toInt i1.toInt (hx_ps pof pdf psm pkf pst i1.toInt i2.toInt nm.toInt n0.toInt.toNat)) i1.toInt) (R 4) (R 5) i1.toInt ∧ (0 ≤ r.toInt ∧ r.toInt ≤ 8)) ∧ hx_T T_tb u.1 u.2 ∧ hx_S T_tb [] L h u.1 u.2) (hx_E T_tb (P_ty dA) (dC, dI) vwCl (hx_A L sz)) (hx_A L sz)) 0 0 (hx_A L sz) := by
  refine hx_metX (lv := [(0, .ref x), (1, .ref v1), (2, .int i1), (3, .int i2)]) (by decide +kernel) rfl (Nat.le_of_ble_eq_true rfl) rfl ?_
  intro p e s m below meth c hx hb hml hr hlk hts0 hown hin hsz hW hZ ls hl
  have hts : ∀ w ∈ hx_all, w.before _ s = true := fun w hw => hts0 w (List.mem_cons_of_mem _ hw)
  have hown : s.vm.findClass "SmallCourt$Claim" = some m.cls := hown
  have hM : hx_S T_tb [] L h L h := hx_S.rf
  have b_fo := hT.gi gx tt_2 (k := 10) rfl
  rw [f_x_10] at b_fo
  have b_fo : -1 ≤ fo.toInt ∧ fo.toInt ≤ 7999 := b_fo
  have b_he := hT.gi gx tt_2 (k := 11) rfl
  rw [f_x_11] at b_he
  have b_he : -1 ≤ he.toInt ∧ he.toInt ≤ 7999 := b_he
  have b_ju := hT.gi gx tt_2 (k := 12) rfl
  rw [f_x_12] at b_ju
  have b_ju : 0 ≤ ju.toInt ∧ ju.toInt ≤ 5 := b_ju
  have b_od := hT.gi gx tt_2 (k := 13) rfl
  rw [f_x_13] at b_od
  have b_od : -2147483648 ≤ od.toInt ∧ od.toInt ≤ 2147483647 := b_od
  have b_wk := hT.gi gx tt_2 (k := 14) rfl
  rw [f_x_14] at b_wk
  have b_wk : -2147483648 ≤ wk.toInt ∧ wk.toInt ≤ 2147483647 := b_wk
  have b_ow := hT.gi gx tt_2 (k := 15) rfl
  rw [f_x_15] at b_ow
  have b_ow : -2147483648 ≤ ow.toInt ∧ ow.toInt ≤ 2147483647 := b_ow
  have b_sei := hT.gi gx tt_2 (k := 16) rfl
  rw [f_x_16] at b_sei
  have b_sei : -2147483648 ≤ sei.toInt ∧ sei.toInt ≤ 2147483647 := b_sei
  have b_gd := hT.gi gx tt_2 (k := 17) rfl
  rw [f_x_17] at b_gd
  have b_gd : -2147483648 ≤ gd.toInt ∧ gd.toInt ≤ 2147483647 := b_gd
  have b_sv := hT.gi gx tt_2 (k := 18) rfl
  rw [f_x_18] at b_sv
  have b_sv : -2147483648 ≤ sv.toInt ∧ sv.toInt ≤ 2147483647 := b_sv
  have b_nm := hT.gi gx tt_2 (k := 0) rfl
  rw [f_x_0] at b_nm
  have b_nm : 0 ≤ nm.toInt ∧ nm.toInt ≤ 99 := b_nm
  have b_n0 := hT.gi gv1 tt_3 (k := 0) rfl
  rw [f_v1_0] at b_n0
  have b_n0 : 0 ≤ n0.toInt ∧ n0.toInt ≤ 600 := b_n0
  refine lv_aload_n hx hb dX2_stateOn_0 rfl (lv_at hl 0 rfl) ?_
  refine hk_geti hx hb hts hC_2 hown hW (gx.S hM) tt_2 13 (by decide) rfl kw_752 ⟨rfl, rfl, rfl⟩ ((hM.o gx trivial rfl).1.trans f_x_13) dX2_stateOn_1 ?_
  refine lv_iload_n hx hb dX2_stateOn_4 rfl (lv_at hl 2 rfl) ?_
  refine hx_goi (hx_runS (As := [.int od, .int i1]) (rest := []) ⟨hx, hb, hml, hown, hts⟩ hW (t_X2_isDone_v l dC dI dA L h s.heap.size od i1 hT) (va_cwS 2 hts (hx_gS kw_864 kw_862 kw_863 kw_110) rfl rfl rfl (by decide +kernel) ⟨Nat.le_of_ble_eq_true rfl, Nat.le_of_ble_eq_true rfl⟩) rfl hl.1 rfl (Nat.le_of_ble_eq_true rfl) dX2_stateOn_5 ⟨Nat.le_of_ble_eq_true rfl, Nat.le_of_ble_eq_true rfl⟩) hW (fun r_3 L_1 h_2 H locs p_4 hW => ?_)
  obtain ⟨hr_5, hT, hs⟩ := p_4
  replace hT : hx_T T_tb L_1 h_2 := hT
  replace hs : hx_S T_tb [] L h L_1 h_2 := hs
  replace hM := hM.tr (hs.mono (by decide))
  refine hb_if_ne (zx := r_3.toInt) (tgt := 17) hx hb rfl dX2_stateOn_8 (by decide) (fun c_6 => ?_) (fun c_6 => ?_)
  · skip
    replace hr_5 := hr_5.resolve_right (fun z => by have := z.1; omega)
    refine lv_aload_n hx hb dX2_stateOn_17 rfl (lv_at hl 0 rfl) ?_
    refine hk_geti hx hb hts hC_2 hown hW (gx.S hM) tt_2 18 (by decide) rfl kw_762 ⟨rfl, rfl, rfl⟩ ((hM.o gx trivial rfl).1.trans f_x_18) dX2_stateOn_18 ?_
    refine lv_iload_n hx hb dX2_stateOn_21 rfl (lv_at hl 2 rfl) ?_
    refine hx_goi (hx_runS (As := [.int sv, .int i1]) (rest := []) ⟨hx, hb, hml, hown, hts⟩ hW (t_X2_isDone_v l dC dI dA L_1 h_2 H.size sv i1 hT) (va_cwS 2 hts (hx_gS kw_864 kw_862 kw_863 kw_110) rfl rfl rfl (by decide +kernel) ⟨Nat.le_of_ble_eq_true rfl, Nat.le_of_ble_eq_true rfl⟩) rfl hl.1 rfl (Nat.le_of_ble_eq_true rfl) dX2_stateOn_22 ⟨Nat.le_of_ble_eq_true rfl, Nat.le_of_ble_eq_true rfl⟩) hW (fun r_9 L_7 h_8 H locs p_10 hW => ?_)
    obtain ⟨hr_11, hT, hs⟩ := p_10
    replace hT : hx_T T_tb L_7 h_8 := hT
    replace hs : hx_S T_tb [] L_1 h_2 L_7 h_8 := hs
    replace hM := hM.tr (hs.mono (by decide))
    refine hb_if_eq (zx := r_9.toInt) (tgt := 31) hx hb rfl dX2_stateOn_25 (by decide) (fun c_12 => ?_) (fun c_12 => ?_)
    · skip
      replace hr_11 := hr_11.resolve_left (fun z => by have := z.1; omega)
      refine lv_aload_n hx hb dX2_stateOn_31 rfl (lv_at hl 0 rfl) ?_
      refine lv_aload_n hx hb dX2_stateOn_32 rfl (lv_at hl 1 rfl) ?_
      refine lv_iload_n hx hb dX2_stateOn_33 rfl (lv_at hl 2 rfl) ?_
      refine lv_iload_n hx hb dX2_stateOn_34 rfl (lv_at hl 3 rfl) ?_
      refine hx_goi (hx_runV (As := [.ref v1, .int i1, .int i2]) (rest := []) ⟨hx, hb, hml, hown, hts⟩ hW (gx.S hM) tt_2 (T := TX2) (N := 19) rfl (t_X2_restOn_v l dC dI dA L_7 h_8 H.size x v1 i1 i2 hT (gx.S hM) (gv1.S hM) pqo (gpqo.S hM) ((hM.o gv1 trivial rfl).2.trans f_v1_2) pqd (gpqd.S hM) ((hM.o gv1 trivial rfl).2.trans f_v1_3) pqs (gpqs.S hM) ((hM.o gv1 trivial rfl).2.trans f_v1_5) pqk (gpqk.S hM) ((hM.o gv1 trivial rfl).2.trans f_v1_4) pqt (gpqt.S hM) ((hM.o gv1 trivial rfl).2.trans f_v1_1) qac (gqac.S hM) ((hM.o gx trivial rfl).2.trans f_x_3) qt (gqt.S hM) ((hM.o gqac trivial rfl).2.trans f_qac_2) pof (hx_afS hM gpqo rfl af_pqo) pdf (hx_afS hM gpqd rfl af_pqd) psm (hx_afS hM gpqs rfl af_pqs) pkf (hx_afS hM gpqk rfl af_pqk) pst (hx_afS hM gpqt rfl af_pqt) tf (hx_afS hM gqt rfl af_qt) od ((hM.o gx trivial rfl).1.trans f_x_13) sei ((hM.o gx trivial rfl).1.trans f_x_16) gd ((hM.o gx trivial rfl).1.trans f_x_17) ow ((hM.o gx trivial rfl).1.trans f_x_15) sv ((hM.o gx trivial rfl).1.trans f_x_18) nm ((hM.o gx trivial rfl).1.trans f_x_0) n0 ((hM.o gv1 trivial rfl).1.trans f_v1_0) R hR hRb ⟨by omega, by omega⟩ ⟨by omega, by omega⟩ hps) (cwV 3 hts (hx_gV kw_861 kw_858 kw_859 kw_860 kw_110) rfl rfl rfl (by decide +kernel) ⟨Nat.le_of_ble_eq_true rfl, Nat.le_of_ble_eq_true rfl⟩) rfl hl.1 rfl (Nat.le_of_ble_eq_true rfl) dX2_stateOn_35 ⟨Nat.le_of_ble_eq_true rfl, Nat.le_of_ble_eq_true rfl⟩) hW (fun r_15 L_13 h_14 H locs p_16 hW => ?_)
      obtain ⟨hr_17, hT, hs⟩ := p_16
      replace hT : hx_T T_tb L_13 h_14 := hT
      replace hs : hx_S T_tb [] L_7 h_8 L_13 h_14 := hs
      replace hM := hM.tr (hs.mono (by decide))
      refine hb_if_ne (zx := r_15.toInt) (tgt := 44) hx hb rfl dX2_stateOn_38 (by decide) (fun c_18 => ?_) (fun c_18 => ?_)
      · skip
        refine lv_aload_n hx hb dX2_stateOn_44 rfl (lv_at hl 0 rfl) ?_
        refine lv_aload_n hx hb dX2_stateOn_45 rfl (lv_at hl 1 rfl) ?_
        refine lv_iload_n hx hb dX2_stateOn_46 rfl (lv_at hl 2 rfl) ?_
        refine lv_iload_n hx hb dX2_stateOn_47 rfl (lv_at hl 3 rfl) ?_
        refine hx_goi (hx_runVX (As := [.ref v1, .int i1, .int i2]) (rest := []) ⟨hx, hb, hml, hown, hts⟩ hW (gx.S hM) tt_2 (T := TX2) (N := 19) rfl (t_X2_missedOn_v l dC dI dA L_13 h_14 H.size b0 x v1 i1 i2 hT (gx.S hM) (gv1.S hM) pqo (gpqo.S hM) ((hM.o gv1 trivial rfl).2.trans f_v1_2) pqd (gpqd.S hM) ((hM.o gv1 trivial rfl).2.trans f_v1_3) pqs (gpqs.S hM) ((hM.o gv1 trivial rfl).2.trans f_v1_5) pqk (gpqk.S hM) ((hM.o gv1 trivial rfl).2.trans f_v1_4) pqt (gpqt.S hM) ((hM.o gv1 trivial rfl).2.trans f_v1_1) qac (gqac.S hM) ((hM.o gx trivial rfl).2.trans f_x_3) qt (gqt.S hM) ((hM.o gqac trivial rfl).2.trans f_qac_2) pof (hx_afS hM gpqo rfl af_pqo) pdf (hx_afS hM gpqd rfl af_pqd) psm (hx_afS hM gpqs rfl af_pqs) pkf (hx_afS hM gpqk rfl af_pqk) pst (hx_afS hM gpqt rfl af_pqt) tf (hx_afS hM gqt rfl af_qt) od ((hM.o gx trivial rfl).1.trans f_x_13) wk ((hM.o gx trivial rfl).1.trans f_x_14) ow ((hM.o gx trivial rfl).1.trans f_x_15) sei ((hM.o gx trivial rfl).1.trans f_x_16) gd ((hM.o gx trivial rfl).1.trans f_x_17) sv ((hM.o gx trivial rfl).1.trans f_x_18) nm ((hM.o gx trivial rfl).1.trans f_x_0) n0 ((hM.o gv1 trivial rfl).1.trans f_v1_0) R hR hRb ⟨by omega, by omega⟩ ⟨by omega, by omega⟩ ⟨by omega, by omega⟩ ⟨by omega, by omega⟩ hps ⟨by omega, by omega⟩) hZ (cwV 3 hts (hx_gV kw_915 kw_912 kw_913 kw_914 kw_110) rfl rfl rfl (by decide +kernel) ⟨Nat.le_of_ble_eq_true rfl, Nat.le_of_ble_eq_true rfl⟩) rfl hl.1 rfl (Nat.le_of_ble_eq_true rfl) dX2_stateOn_48 ⟨Nat.le_of_ble_eq_true rfl, Nat.le_of_ble_eq_true rfl⟩) hW (fun r_21 L_19 h_20 H locs p_22 hW => ?_)
        obtain ⟨hr_23, hT, hs⟩ := p_22
        replace hT : hx_T T_tb L_19 h_20 := hT
        replace hs : hx_S T_tb [] L_13 h_14 L_19 h_20 := hs
        replace hM := hM.tr (hs.mono (by decide))
        refine lv_istore (lv' := [(4, .int r_21), (0, .ref x), (1, .ref v1), (2, .int i1), (3, .int i2)]) hx hb dX2_stateOn_51 hl (by decide) rfl (fun ls hl => ?_)
        refine lv_iload hx hb dX2_stateOn_53 (lv_at hl 0 rfl) ?_
        refine lv_aload_n hx hb dX2_stateOn_55 rfl (lv_at hl 1 rfl) ?_
        refine hk_getr hx hb hts hC_2 hown hW (gx.S hM) tt_2 3 (by decide) rfl kw_734 ⟨rfl, rfl, rfl⟩ ((hM.o gx trivial rfl).2.trans f_x_3) dX2_stateOn_56 ?_
        refine hk_getr hx hb hts hC_0 hown hW (gqac.S hM) tt_0 2 (by decide) rfl kw_167 ⟨rfl, rfl, rfl⟩ ((hM.o gqac trivial rfl).2.trans f_qac_2) dX2_stateOn_59 ?_
        refine lv_iconst (v := 5) hx hb dX2_stateOn_62 (by decide) ?_
        refine hx_iald hx hb hW hT (gqt.S hM) tt_11 rfl (by decide) dX2_stateOn_63 (fun x_24 ex_24 lx_24 ux_24 => ?_)
        have ax_24 : x_24 = tf (5 : Int32).toNatClampNeg := ex_24.trans (congrFun (hx_afS hM gqt rfl af_qt) _)
        have hR_25 : x_24.toInt = R 4 := by rw [← hR, ax_24, show (5 : Int32).toNatClampNeg = 5 from by decide]; rfl
        have hR_25b := hRb 4
        rw [← hR_25] at hR_25b
        refine hb_icmp_ge (zx := r_21.toInt) (zy := x_24.toInt) (tgt := 69) hx hb rfl rfl dX2_stateOn_64 (by decide) (fun c_26 => ?_) (fun c_26 => ?_)
        · skip
          refine lv_iload hx hb dX2_stateOn_69 (lv_at hl 0 rfl) ?_
          refine lv_aload_n hx hb dX2_stateOn_71 rfl (lv_at hl 1 rfl) ?_
          refine hk_getr hx hb hts hC_2 hown hW (gx.S hM) tt_2 3 (by decide) rfl kw_734 ⟨rfl, rfl, rfl⟩ ((hM.o gx trivial rfl).2.trans f_x_3) dX2_stateOn_72 ?_
          refine hk_getr hx hb hts hC_0 hown hW (gqac.S hM) tt_0 2 (by decide) rfl kw_167 ⟨rfl, rfl, rfl⟩ ((hM.o gqac trivial rfl).2.trans f_qac_2) dX2_stateOn_75 ?_
          refine lv_iconst (v := 5) hx hb dX2_stateOn_78 (by decide) ?_
          refine hx_iald hx hb hW hT (gqt.S hM) tt_11 rfl (by decide) dX2_stateOn_79 (fun x_27 ex_27 lx_27 ux_27 => ?_)
          have ax_27 : x_27 = tf (5 : Int32).toNatClampNeg := ex_27.trans (congrFun (hx_afS hM gqt rfl af_qt) _)
          obtain rfl : x_24 = x_27 := ex_24.trans ex_27.symm
          have hR_28 : x_24.toInt = R 4 := by rw [← hR, ax_24, show (5 : Int32).toNatClampNeg = 5 from by decide]; rfl
          have hR_28b := hRb 4
          rw [← hR_28] at hR_28b
          refine lv_aload_n hx hb dX2_stateOn_80 rfl (lv_at hl 1 rfl) ?_
          refine hk_getr hx hb hts hC_2 hown hW (gx.S hM) tt_2 3 (by decide) rfl kw_734 ⟨rfl, rfl, rfl⟩ ((hM.o gx trivial rfl).2.trans f_x_3) dX2_stateOn_81 ?_
          refine hk_getr hx hb hts hC_0 hown hW (gqac.S hM) tt_0 2 (by decide) rfl kw_167 ⟨rfl, rfl, rfl⟩ ((hM.o gqac trivial rfl).2.trans f_qac_2) dX2_stateOn_84 ?_
          refine lv_bipush (v := 6) hx hb dX2_stateOn_87 (by decide) ?_
          refine hx_iald hx hb hW hT (gqt.S hM) tt_11 rfl (by decide) dX2_stateOn_89 (fun x_29 ex_29 lx_29 ux_29 => ?_)
          have ax_29 : x_29 = tf (6 : Int32).toNatClampNeg := ex_29.trans (congrFun (hx_afS hM gqt rfl af_qt) _)
          have hR_30 : x_29.toInt = R 5 := by rw [← hR, ax_29, show (6 : Int32).toNatClampNeg = 6 from by decide]; rfl
          have hR_30b := hRb 5
          rw [← hR_30] at hR_30b
          refine lv_iadd hx hb dX2_stateOn_90 ?_
          have rg_31 := i32_r x_24
          have rg_32 := i32_r x_29
          refine lv_topi (fun x_33 ex_33 => ?_)
          have zx_33 : x_33.toInt = x_24.toInt + x_29.toInt := by rw [ex_33]; exact i32_add rfl rfl (by omega) (by omega)
          refine hb_icmp_ge (zx := r_21.toInt) (zy := x_33.toInt) (tgt := 98) hx hb rfl rfl dX2_stateOn_91 (by decide) (fun c_34 => ?_) (fun c_34 => ?_)
          · skip
            refine lv_bipush (v := 6) hx hb dX2_stateOn_98 (by decide) ?_
            exact hx_reti hx hb hr hlk hW ⟨(by have zr : (6 : Int32).toInt = 6 := (by decide); exact ⟨(by unfold hz_st; (repeat' split) <;> omega), by omega, by omega⟩), hT, hM⟩ dX2_stateOn_100
          · skip
            refine lv_iconst (v := 5) hx hb dX2_stateOn_94 (by decide) ?_
            refine lv_goto (tgt := 100) hx hb dX2_stateOn_95 (by decide) ?_
            exact hx_reti hx hb hr hlk hW ⟨(by have zr : (5 : Int32).toInt = 5 := (by decide); exact ⟨(by unfold hz_st; (repeat' split) <;> omega), by omega, by omega⟩), hT, hM⟩ dX2_stateOn_100
        · skip
          refine lv_iconst (v := 4) hx hb dX2_stateOn_67 (by decide) ?_
          exact hx_reti hx hb hr hlk hW ⟨(by have zr : (4 : Int32).toInt = 4 := (by decide); exact ⟨(by unfold hz_st; (repeat' split) <;> omega), by omega, by omega⟩), hT, hM⟩ dX2_stateOn_68
      · skip
        refine lv_bipush (v := 7) hx hb dX2_stateOn_41 (by decide) ?_
        exact hx_reti hx hb hr hlk hW ⟨(by have zr : (7 : Int32).toInt = 7 := (by decide); exact ⟨(by unfold hz_st; (repeat' split) <;> omega), by omega, by omega⟩), hT, hM⟩ dX2_stateOn_43
    · skip
      replace hr_11 := hr_11.resolve_right (fun z => by have := z.1; omega)
      refine lv_bipush (v := 8) hx hb dX2_stateOn_28 (by decide) ?_
      exact hx_reti hx hb hr hlk hW ⟨(by have zr : (8 : Int32).toInt = 8 := (by decide); exact ⟨(by unfold hz_st; (repeat' split) <;> omega), by omega, by omega⟩), hT, hM⟩ dX2_stateOn_30
  · skip
    replace hr_5 := hr_5.resolve_left (fun z => by have := z.1; omega)
    refine lv_aload_n hx hb dX2_stateOn_11 rfl (lv_at hl 0 rfl) ?_
    refine lv_iload_n hx hb dX2_stateOn_12 rfl (lv_at hl 2 rfl) ?_
    refine hx_goi (hx_runV (As := [.int i1]) (rest := []) ⟨hx, hb, hml, hown, hts⟩ hW (gx.S hM) tt_2 (T := TX2) (N := 19) rfl (t_X2_stateAheadOfOrder_v l dC dI dA L_1 h_2 H.size x i1 hT (gx.S hM) fo ((hM.o gx trivial rfl).1.trans f_x_10) he ((hM.o gx trivial rfl).1.trans f_x_11) ju ((hM.o gx trivial rfl).1.trans f_x_12)) (cwV 1 hts (hx_gV kw_911 kw_908 kw_910 kw_32 kw_110) rfl rfl rfl (by decide +kernel) ⟨Nat.le_of_ble_eq_true rfl, Nat.le_of_ble_eq_true rfl⟩) rfl hl.1 rfl (Nat.le_of_ble_eq_true rfl) dX2_stateOn_13 ⟨Nat.le_of_ble_eq_true rfl, Nat.le_of_ble_eq_true rfl⟩) hW (fun r_37 L_35 h_36 H locs p_38 hW => ?_)
    obtain ⟨hr_39, hT, hs⟩ := p_38
    replace hT : hx_T T_tb L_35 h_36 := hT
    replace hs : hx_S T_tb [] L_1 h_2 L_35 h_36 := hs
    replace hM := hM.tr (hs.mono (by decide))
    exact hx_reti hx hb hr hlk hW ⟨⟨(by unfold hz_st; rw [if_pos (by omega)]; exact hr_39.1), by omega, by omega⟩, hT, hM⟩ dX2_stateOn_16


set_option maxHeartbeats 4000000 in
set_option maxRecDepth 100000 in
theorem t_X2_isOpen_v (l : Launch) (dC : Nat → ClassId) (dI : Nat → Nat → Nat) (dA : Nat → ClassId) (L : List Nat) (h : hx_h) (sz : Nat) (x : Nat) (v1 : Nat) (i1 : Int32) (hT : hx_T T_tb L h) (gx : hx_g L h x 2) (gv1 : hx_g L h v1 3) (pqo : Nat) (gpqo : hx_g L h pqo 23) (f_v1_2 : h.2.2 v1 2 = some pqo) (pqd : Nat) (gpqd : hx_g L h pqd 24) (f_v1_3 : h.2.2 v1 3 = some pqd) (pqs : Nat) (gpqs : hx_g L h pqs 26) (f_v1_5 : h.2.2 v1 5 = some pqs) (pqk : Nat) (gpqk : hx_g L h pqk 25) (f_v1_4 : h.2.2 v1 4 = some pqk) (pqt : Nat) (gpqt : hx_g L h pqt 22) (f_v1_1 : h.2.2 v1 1 = some pqt) (qac : Nat) (gqac : hx_g L h qac 0) (f_x_3 : h.2.2 x 3 = some qac) (qt : Nat) (gqt : hx_g L h qt 11) (f_qac_2 : h.2.2 qac 2 = some qt) (pof : Nat → Int32) (af_pqo : h.2.1 pqo = pof) (pdf : Nat → Int32) (af_pqd : h.2.1 pqd = pdf) (psm : Nat → Int32) (af_pqs : h.2.1 pqs = psm) (pkf : Nat → Int32) (af_pqk : h.2.1 pqk = pkf) (pst : Nat → Int32) (af_pqt : h.2.1 pqt = pst) (tf : Nat → Int32) (af_qt : h.2.1 qt = tf) (od : Int32) (f_x_13 : h.2.1 x 13 = od) (sei : Int32) (f_x_16 : h.2.1 x 16 = sei) (gd : Int32) (f_x_17 : h.2.1 x 17 = gd) (ow : Int32) (f_x_15 : h.2.1 x 15 = ow) (sv : Int32) (f_x_18 : h.2.1 x 18 = sv) (nm : Int32) (f_x_0 : h.2.1 x 0 = nm) (n0 : Int32) (f_v1_0 : h.2.1 v1 0 = n0) (R : Nat → Int) (hR : hv_rC tf = R) (hRb : ∀ k, 0 ≤ R k ∧ R k ≤ 9999) (how : 0 ≤ ow.toInt ∧ ow.toInt ≤ 600000) (hgd : 0 ≤ gd.toInt ∧ gd.toInt ≤ 9999) (hps : ∀ j, j < 600 → 0 ≤ (psm j).toInt ∧ (psm j).toInt ≤ 610000) : Met l yX2_isOpen (Cond.code yX2_isOpen cX2_isOpen 3 (some .boolean) :: hx_all) ({ frames := 4, cells := 0, slots := 0, locals := 96 }) (va_Pc [.ref x, .ref v1, .int i1] (hx_B T_tb (P_ty dA) (dC, dI) vwCl L h sz)) (va_Qi (fun (r : Int32) (u : List Nat × hx_h) => ((r.toInt = 1 ∧ 0 < hz_rs sv.toInt (hz_bl od.toInt sei.toInt gd.toInt ow.toInt (R 12) i1.toInt (hx_ps pof pdf psm pkf pst i1.toInt i1.toInt nm.toInt n0.toInt.toNat)) i1.toInt) ∨ (r.toInt = 0 ∧ ¬ 0 < hz_rs sv.toInt (hz_bl od.toInt sei.toInt gd.toInt ow.toInt (R 12) i1.toInt (hx_ps pof pdf psm pkf pst i1.toInt i1.toInt nm.toInt n0.toInt.toNat)) i1.toInt)) ∧ hx_T T_tb u.1 u.2 ∧ hx_S T_tb [] L h u.1 u.2) (hx_E T_tb (P_ty dA) (dC, dI) vwCl (hx_A L sz)) (hx_A L sz)) 0 0 (hx_A L sz) := by
  refine hx_met (lv := [(0, .ref x), (1, .ref v1), (2, .int i1)]) (by decide +kernel) rfl (Nat.le_of_ble_eq_true rfl) rfl ?_
  intro p e s m below meth c hx hb hml hr hlk hts0 hown hin hsz hW ls hl
  have hts : ∀ w ∈ hx_all, w.before _ s = true := fun w hw => hts0 w (List.mem_cons_of_mem _ hw)
  have hown : s.vm.findClass "SmallCourt$Claim" = some m.cls := hown
  have hM : hx_S T_tb [] L h L h := hx_S.rf
  have b_od := hT.gi gx tt_2 (k := 13) rfl
  rw [f_x_13] at b_od
  have b_od : -2147483648 ≤ od.toInt ∧ od.toInt ≤ 2147483647 := b_od
  have b_sei := hT.gi gx tt_2 (k := 16) rfl
  rw [f_x_16] at b_sei
  have b_sei : -2147483648 ≤ sei.toInt ∧ sei.toInt ≤ 2147483647 := b_sei
  have b_gd := hT.gi gx tt_2 (k := 17) rfl
  rw [f_x_17] at b_gd
  have b_gd : -2147483648 ≤ gd.toInt ∧ gd.toInt ≤ 2147483647 := b_gd
  have b_ow := hT.gi gx tt_2 (k := 15) rfl
  rw [f_x_15] at b_ow
  have b_ow : -2147483648 ≤ ow.toInt ∧ ow.toInt ≤ 2147483647 := b_ow
  have b_sv := hT.gi gx tt_2 (k := 18) rfl
  rw [f_x_18] at b_sv
  have b_sv : -2147483648 ≤ sv.toInt ∧ sv.toInt ≤ 2147483647 := b_sv
  have b_nm := hT.gi gx tt_2 (k := 0) rfl
  rw [f_x_0] at b_nm
  have b_nm : 0 ≤ nm.toInt ∧ nm.toInt ≤ 99 := b_nm
  have b_n0 := hT.gi gv1 tt_3 (k := 0) rfl
  rw [f_v1_0] at b_n0
  have b_n0 : 0 ≤ n0.toInt ∧ n0.toInt ≤ 600 := b_n0
  refine lv_aload_n hx hb dX2_isOpen_0 rfl (lv_at hl 0 rfl) ?_
  refine lv_aload_n hx hb dX2_isOpen_1 rfl (lv_at hl 1 rfl) ?_
  refine lv_iload_n hx hb dX2_isOpen_2 rfl (lv_at hl 2 rfl) ?_
  refine lv_iload_n hx hb dX2_isOpen_3 rfl (lv_at hl 2 rfl) ?_
  refine hx_goi (hx_runV (As := [.ref v1, .int i1, .int i1]) (rest := []) ⟨hx, hb, hml, hown, hts⟩ hW (gx.S hM) tt_2 (T := TX2) (N := 19) rfl (t_X2_restOn_v l dC dI dA L h s.heap.size x v1 i1 i1 hT (gx.S hM) (gv1.S hM) pqo (gpqo.S hM) ((hM.o gv1 trivial rfl).2.trans f_v1_2) pqd (gpqd.S hM) ((hM.o gv1 trivial rfl).2.trans f_v1_3) pqs (gpqs.S hM) ((hM.o gv1 trivial rfl).2.trans f_v1_5) pqk (gpqk.S hM) ((hM.o gv1 trivial rfl).2.trans f_v1_4) pqt (gpqt.S hM) ((hM.o gv1 trivial rfl).2.trans f_v1_1) qac (gqac.S hM) ((hM.o gx trivial rfl).2.trans f_x_3) qt (gqt.S hM) ((hM.o gqac trivial rfl).2.trans f_qac_2) pof (hx_afS hM gpqo rfl af_pqo) pdf (hx_afS hM gpqd rfl af_pqd) psm (hx_afS hM gpqs rfl af_pqs) pkf (hx_afS hM gpqk rfl af_pqk) pst (hx_afS hM gpqt rfl af_pqt) tf (hx_afS hM gqt rfl af_qt) od ((hM.o gx trivial rfl).1.trans f_x_13) sei ((hM.o gx trivial rfl).1.trans f_x_16) gd ((hM.o gx trivial rfl).1.trans f_x_17) ow ((hM.o gx trivial rfl).1.trans f_x_15) sv ((hM.o gx trivial rfl).1.trans f_x_18) nm ((hM.o gx trivial rfl).1.trans f_x_0) n0 ((hM.o gv1 trivial rfl).1.trans f_v1_0) R hR hRb ⟨by omega, by omega⟩ ⟨by omega, by omega⟩ hps) (cwV 3 hts (hx_gV kw_861 kw_858 kw_859 kw_860 kw_110) rfl rfl rfl (by decide +kernel) ⟨Nat.le_of_ble_eq_true rfl, Nat.le_of_ble_eq_true rfl⟩) rfl hl.1 rfl (Nat.le_of_ble_eq_true rfl) dX2_isOpen_4 ⟨Nat.le_of_ble_eq_true rfl, Nat.le_of_ble_eq_true rfl⟩) hW (fun r_3 L_1 h_2 H locs p_4 hW => ?_)
  obtain ⟨hr_5, hT, hs⟩ := p_4
  replace hT : hx_T T_tb L_1 h_2 := hT
  replace hs : hx_S T_tb [] L h L_1 h_2 := hs
  replace hM := hM.tr (hs.mono (by decide))
  refine hb_if_le (zx := r_3.toInt) (tgt := 14) hx hb rfl dX2_isOpen_7 (by decide) (fun c_6 => ?_) (fun c_6 => ?_)
  · skip
    refine lv_iconst (v := 0) hx hb dX2_isOpen_14 (by decide) ?_
    exact hx_retz hx hb hr rfl hlk hW ⟨(Or.inr ⟨by decide, by omega⟩), hT, hM⟩ dX2_isOpen_15
  · skip
    refine lv_iconst (v := 1) hx hb dX2_isOpen_10 (by decide) ?_
    refine lv_goto (tgt := 15) hx hb dX2_isOpen_11 (by decide) ?_
    exact hx_retz hx hb hr rfl hlk hW ⟨(Or.inl ⟨by decide, by omega⟩), hT, hM⟩ dX2_isOpen_15
end
section
set_option maxHeartbeats 4000000 in
set_option maxRecDepth 100000 in
theorem t_X10_looks_v (l : Launch) (dC : Nat → ClassId) (dI : Nat → Nat → Nat) (dA : Nat → ClassId) (L : List Nat) (h : hx_h) (sz : Nat) (x : Nat) (i1 : Int32) (i2 : Int32) (i3 : Int32) (hT : hx_T T_tb L h) (gx : hx_g L h x 10) (qfo : Nat) (gqfo : hx_g L h qfo 81) (f_x_46 : h.2.2 x 46 = some qfo) (qhe : Nat) (gqhe : hx_g L h qhe 82) (f_x_47 : h.2.2 x 47 = some qhe) (qju : Nat) (gqju : hx_g L h qju 86) (f_x_51 : h.2.2 x 51 = some qju) (qod : Nat) (gqod : hx_g L h qod 83) (f_x_48 : h.2.2 x 48 = some qod) (qsv : Nat) (gqsv : hx_g L h qsv 85) (f_x_50 : h.2.2 x 50 = some qsv) (qsz : Nat) (gqsz : hx_g L h qsz 84) (f_x_49 : h.2.2 x 49 = some qsz) (qgd : Nat) (gqgd : hx_g L h qgd 91) (f_x_56 : h.2.2 x 56 = some qgd) (qow : Nat) (gqow : hx_g L h qow 90) (f_x_55 : h.2.2 x 55 = some qow) (qwk : Nat) (gqwk : hx_g L h qwk 89) (f_x_54 : h.2.2 x 54 = some qwk) (qpl : Nat) (gqpl : hx_g L h qpl 79) (f_x_44 : h.2.2 x 44 = some qpl) (qru : Nat) (gqru : hx_g L h qru 50) (f_x_3 : h.2.2 x 3 = some qru) (qpo : Nat) (gqpo : hx_g L h qpo 93) (f_x_60 : h.2.2 x 60 = some qpo) (qpd : Nat) (gqpd : hx_g L h qpd 94) (f_x_61 : h.2.2 x 61 = some qpd) (qps : Nat) (gqps : hx_g L h qps 95) (f_x_62 : h.2.2 x 62 = some qps) (qpk : Nat) (gqpk : hx_g L h qpk 96) (f_x_63 : h.2.2 x 63 = some qpk) (qpt : Nat) (gqpt : hx_g L h qpt 97) (f_x_64 : h.2.2 x 64 = some qpt) (fof : Nat → Int32) (af_qfo : h.2.1 qfo = fof) (hrf : Nat → Int32) (af_qhe : h.2.1 qhe = hrf) (udf : Nat → Int32) (af_qju : h.2.1 qju = udf) (odf : Nat → Int32) (af_qod : h.2.1 qod = odf) (svf : Nat → Int32) (af_qsv : h.2.1 qsv = svf) (szf : Nat → Int32) (af_qsz : h.2.1 qsz = szf) (gdf : Nat → Int32) (af_qgd : h.2.1 qgd = gdf) (owf : Nat → Int32) (af_qow : h.2.1 qow = owf) (wkf : Nat → Int32) (af_qwk : h.2.1 qwk = wkf) (plf : Nat → Int32) (af_qpl : h.2.1 qpl = plf) (rlf : Nat → Int32) (af_qru : h.2.1 qru = rlf) (pof : Nat → Int32) (af_qpo : h.2.1 qpo = pof) (pdf : Nat → Int32) (af_qpd : h.2.1 qpd = pdf) (psm : Nat → Int32) (af_qps : h.2.1 qps = psm) (pkf : Nat → Int32) (af_qpk : h.2.1 qpk = pkf) (pst : Nat → Int32) (af_qpt : h.2.1 qpt = pst) (pm0 : Int32) (f_x_59 : h.2.1 x 59 = pm0) (hi1 : 0 ≤ i1.toInt ∧ i1.toInt ≤ 99) (hi2 : 0 ≤ i2.toInt ∧ i2.toInt ≤ 7999) (R : Nat → Int) (hRr : ∀ k : Nat, k ≤ 12 → (rlf (13 * (plf i1.toInt.toNat).toInt.toNat + k)).toInt = R k) : Met l yX10_looks (Cond.code yX10_looks cX10_looks 9 none :: hx_all) ({ frames := 1, cells := 0, slots := 0, locals := 22 }) (va_Pc [.ref x, .int i1, .int i2, .int i3] (hx_B T_tb (P_ty dA) (dC, dI) vwCl L h sz)) (va_Qv (fun (u : List Nat × hx_h) => (∃ (pd1 : Int32) (rs1 : Int32) (ov1 : Int32) (ms1 : Int32) (st1 : Int32), u.2.2.1 x 67 = pd1 ∧ u.2.2.1 x 68 = rs1 ∧ u.2.2.1 x 69 = ov1 ∧ u.2.2.1 x 70 = ms1 ∧ u.2.2.1 x 71 = st1 ∧ (pd1.toInt = hz_pdy (odf i1.toInt.toNat).toInt (szf i1.toInt.toNat).toInt (gdf i1.toInt.toNat).toInt i2.toInt (hx_ps pof pdf psm pkf pst i2.toInt i3.toInt i1.toInt pm0.toInt.toNat) ∧ rs1.toInt = hz_rs (svf i1.toInt.toNat).toInt (hz_bl (odf i1.toInt.toNat).toInt (szf i1.toInt.toNat).toInt (gdf i1.toInt.toNat).toInt (owf i1.toInt.toNat).toInt (R 12) i2.toInt (hx_ps pof pdf psm pkf pst i2.toInt i3.toInt i1.toInt pm0.toInt.toNat)) i2.toInt ∧ ov1.toInt = hz_ov (svf i1.toInt.toNat).toInt (hz_bl (odf i1.toInt.toNat).toInt (szf i1.toInt.toNat).toInt (gdf i1.toInt.toNat).toInt (owf i1.toInt.toNat).toInt (R 12) i2.toInt (hx_ps pof pdf psm pkf pst i2.toInt i3.toInt i1.toInt pm0.toInt.toNat)) i2.toInt ∧ ms1.toInt = hz_ms (odf i1.toInt.toNat).toInt (svf i1.toInt.toNat).toInt (wkf i1.toInt.toNat).toInt (hz_al (owf i1.toInt.toNat).toInt (szf i1.toInt.toNat).toInt (R 12) i2.toInt) (hz_pdy (odf i1.toInt.toNat).toInt (szf i1.toInt.toNat).toInt (gdf i1.toInt.toNat).toInt i2.toInt (hx_ps pof pdf psm pkf pst i2.toInt i3.toInt i1.toInt pm0.toInt.toNat)) i2.toInt ∧ st1.toInt = hz_st (fof i1.toInt.toNat).toInt (hrf i1.toInt.toNat).toInt (udf i1.toInt.toNat).toInt (odf i1.toInt.toNat).toInt (svf i1.toInt.toNat).toInt (hz_rs (svf i1.toInt.toNat).toInt (hz_bl (odf i1.toInt.toNat).toInt (szf i1.toInt.toNat).toInt (gdf i1.toInt.toNat).toInt (owf i1.toInt.toNat).toInt (R 12) i2.toInt (hx_ps pof pdf psm pkf pst i2.toInt i3.toInt i1.toInt pm0.toInt.toNat)) i2.toInt) (hz_ms (odf i1.toInt.toNat).toInt (svf i1.toInt.toNat).toInt (wkf i1.toInt.toNat).toInt (hz_al (owf i1.toInt.toNat).toInt (szf i1.toInt.toNat).toInt (R 12) i2.toInt) (hz_pdy (odf i1.toInt.toNat).toInt (szf i1.toInt.toNat).toInt (gdf i1.toInt.toNat).toInt i2.toInt (hx_ps pof pdf psm pkf pst i2.toInt i3.toInt i1.toInt pm0.toInt.toNat)) i2.toInt) (R 4) (R 5) i2.toInt)) ∧ hx_T T_tb u.1 u.2 ∧ hx_S T_tb [(10, 67), (10, 68), (10, 69), (10, 70), (10, 71)] L h u.1 u.2) (hx_E T_tb (P_ty dA) (dC, dI) vwCl (hx_A L sz)) (hx_A L sz)) 0 0 (hx_A L sz) := by
  refine hx_met (lv := [(0, .ref x), (1, .int i1), (2, .int i2), (3, .int i3)]) (by decide +kernel) rfl (Nat.le_of_ble_eq_true rfl) rfl ?_
  intro p e s m below meth c hx hb hml hr hlk hts0 hown hin hsz hW ls hl
  have hts : ∀ w ∈ hx_all, w.before _ s = true := fun w hw => hts0 w (List.mem_cons_of_mem _ hw)
  have hown : s.vm.findClass "SmallCourtModel" = some m.cls := hown
  have hM : hx_S T_tb [(10, 67), (10, 68), (10, 69), (10, 70), (10, 71)] L h L h := hx_S.rf
  have b_pm0 := hT.gi gx tt_10 (k := 59) rfl
  rw [f_x_59] at b_pm0
  have b_pm0 : 0 ≤ pm0.toInt ∧ pm0.toInt ≤ 600 := b_pm0
  refine lv_aload_n hx hb dX10_looks_0 rfl (lv_at hl 0 rfl) ?_
  refine lv_iconst (v := 0) hx hb dX10_looks_1 (by decide) ?_
  refine hx_puti hx hb hts hC_10 hown hW hT (hx_S.rf (M := [(10, 67)])) (gx.S hM) tt_10 67 (by decide) rfl kw_1210 ⟨rfl, rfl, rfl⟩ rfl (x := (0 : Int32)) (by decide) rfl rfl rfl (List.mem_singleton.mpr rfl) dX10_looks_2 (fun H locs h_1 eh_1 hW hT hs => ?_)
  replace hM := hM.tr (hs.mono (by decide))
  have f_2 : h_1.2.1 x 67 = (0 : Int32) := by rw [eh_1]; exact hx_pi_at _ _ _ _
  refine lv_aload_n hx hb dX10_looks_5 rfl (lv_at hl 0 rfl) ?_
  refine lv_iconst (v := 0) hx hb dX10_looks_6 (by decide) ?_
  refine hx_puti hx hb hts hC_10 hown hW hT (hx_S.rf (M := [(10, 68)])) (gx.S hM) tt_10 68 (by decide) rfl kw_1211 ⟨rfl, rfl, rfl⟩ rfl (x := (0 : Int32)) (by decide) rfl rfl rfl (List.mem_singleton.mpr rfl) dX10_looks_7 (fun H locs h_3 eh_3 hW hT hs => ?_)
  replace f_2 := (hs.o (gx.S hM) trivial rfl).1.trans f_2
  replace hM := hM.tr (hs.mono (by decide))
  have f_4 : h_3.2.1 x 68 = (0 : Int32) := by rw [eh_3]; exact hx_pi_at _ _ _ _
  refine lv_aload_n hx hb dX10_looks_10 rfl (lv_at hl 0 rfl) ?_
  refine lv_iconst (v := 0) hx hb dX10_looks_11 (by decide) ?_
  refine hx_puti hx hb hts hC_10 hown hW hT (hx_S.rf (M := [(10, 69)])) (gx.S hM) tt_10 69 (by decide) rfl kw_1212 ⟨rfl, rfl, rfl⟩ rfl (x := (0 : Int32)) (by decide) rfl rfl rfl (List.mem_singleton.mpr rfl) dX10_looks_12 (fun H locs h_5 eh_5 hW hT hs => ?_)
  replace f_2 := (hs.o (gx.S hM) trivial rfl).1.trans f_2
  replace f_4 := (hs.o (gx.S hM) trivial rfl).1.trans f_4
  replace hM := hM.tr (hs.mono (by decide))
  have f_6 : h_5.2.1 x 69 = (0 : Int32) := by rw [eh_5]; exact hx_pi_at _ _ _ _
  refine lv_aload_n hx hb dX10_looks_15 rfl (lv_at hl 0 rfl) ?_
  refine lv_iconst (v := 0) hx hb dX10_looks_16 (by decide) ?_
  refine hx_puti hx hb hts hC_10 hown hW hT (hx_S.rf (M := [(10, 70)])) (gx.S hM) tt_10 70 (by decide) rfl kw_1213 ⟨rfl, rfl, rfl⟩ rfl (x := (0 : Int32)) (by decide) rfl rfl rfl (List.mem_singleton.mpr rfl) dX10_looks_17 (fun H locs h_7 eh_7 hW hT hs => ?_)
  replace f_2 := (hs.o (gx.S hM) trivial rfl).1.trans f_2
  replace f_4 := (hs.o (gx.S hM) trivial rfl).1.trans f_4
  replace f_6 := (hs.o (gx.S hM) trivial rfl).1.trans f_6
  replace hM := hM.tr (hs.mono (by decide))
  have f_8 : h_7.2.1 x 70 = (0 : Int32) := by rw [eh_7]; exact hx_pi_at _ _ _ _
  have join49 : ∀ (jw49_x_71 : Int32) (H : Heap) (locs : List Loc) (hL1 : List Nat) (hl1 : hx_h), 0 ≤ jw49_x_71.toInt → jw49_x_71.toInt ≤ 8 → ((jw49_x_71.toInt = 1 ∧ (fof i1.toInt.toNat).toInt ≠ -1 ∧ (fof i1.toInt.toNat).toInt ≤ i2.toInt) ∨ (jw49_x_71.toInt = 0 ∧ ((fof i1.toInt.toNat).toInt = -1 ∨ i2.toInt < (fof i1.toInt.toNat).toInt))) → ∀ (ls : Array Slot), hx_W T_tb (P_ty dA) (dC, dI) vwCl (hx_A L sz) s.heap hL1 hl1 s H locs → hx_T T_tb hL1 hl1 → hx_S T_tb [(10, 67), (10, 68), (10, 69), (10, 70), (10, 71)] L h hL1 hl1 → hl1.2.1 x 71 = jw49_x_71 → hl1.2.1 x 67 = (0 : Int32) → hl1.2.1 x 68 = (0 : Int32) → hl1.2.1 x 69 = (0 : Int32) → hl1.2.1 x 70 = (0 : Int32) → lv_has ls 9 [(0, .ref x), (1, .int i1), (2, .int i2), (3, .int i3)] → W p l e ({ frames := 1, cells := 0, slots := 0, locals := 22 }) s m ([.ref x, .int i1, .int i2, .int i3] : List Value).toArray below meth c H locs 0 0 (MQ below (va_Qv (fun (u : List Nat × hx_h) => (∃ (pd1 : Int32) (rs1 : Int32) (ov1 : Int32) (ms1 : Int32) (st1 : Int32), u.2.2.1 x 67 = pd1 ∧ u.2.2.1 x 68 = rs1 ∧ u.2.2.1 x 69 = ov1 ∧ u.2.2.1 x 70 = ms1 ∧ u.2.2.1 x 71 = st1 ∧ (pd1.toInt = hz_pdy (odf i1.toInt.toNat).toInt (szf i1.toInt.toNat).toInt (gdf i1.toInt.toNat).toInt i2.toInt (hx_ps pof pdf psm pkf pst i2.toInt i3.toInt i1.toInt pm0.toInt.toNat) ∧ rs1.toInt = hz_rs (svf i1.toInt.toNat).toInt (hz_bl (odf i1.toInt.toNat).toInt (szf i1.toInt.toNat).toInt (gdf i1.toInt.toNat).toInt (owf i1.toInt.toNat).toInt (R 12) i2.toInt (hx_ps pof pdf psm pkf pst i2.toInt i3.toInt i1.toInt pm0.toInt.toNat)) i2.toInt ∧ ov1.toInt = hz_ov (svf i1.toInt.toNat).toInt (hz_bl (odf i1.toInt.toNat).toInt (szf i1.toInt.toNat).toInt (gdf i1.toInt.toNat).toInt (owf i1.toInt.toNat).toInt (R 12) i2.toInt (hx_ps pof pdf psm pkf pst i2.toInt i3.toInt i1.toInt pm0.toInt.toNat)) i2.toInt ∧ ms1.toInt = hz_ms (odf i1.toInt.toNat).toInt (svf i1.toInt.toNat).toInt (wkf i1.toInt.toNat).toInt (hz_al (owf i1.toInt.toNat).toInt (szf i1.toInt.toNat).toInt (R 12) i2.toInt) (hz_pdy (odf i1.toInt.toNat).toInt (szf i1.toInt.toNat).toInt (gdf i1.toInt.toNat).toInt i2.toInt (hx_ps pof pdf psm pkf pst i2.toInt i3.toInt i1.toInt pm0.toInt.toNat)) i2.toInt ∧ st1.toInt = hz_st (fof i1.toInt.toNat).toInt (hrf i1.toInt.toNat).toInt (udf i1.toInt.toNat).toInt (odf i1.toInt.toNat).toInt (svf i1.toInt.toNat).toInt (hz_rs (svf i1.toInt.toNat).toInt (hz_bl (odf i1.toInt.toNat).toInt (szf i1.toInt.toNat).toInt (gdf i1.toInt.toNat).toInt (owf i1.toInt.toNat).toInt (R 12) i2.toInt (hx_ps pof pdf psm pkf pst i2.toInt i3.toInt i1.toInt pm0.toInt.toNat)) i2.toInt) (hz_ms (odf i1.toInt.toNat).toInt (svf i1.toInt.toNat).toInt (wkf i1.toInt.toNat).toInt (hz_al (owf i1.toInt.toNat).toInt (szf i1.toInt.toNat).toInt (R 12) i2.toInt) (hz_pdy (odf i1.toInt.toNat).toInt (szf i1.toInt.toNat).toInt (gdf i1.toInt.toNat).toInt i2.toInt (hx_ps pof pdf psm pkf pst i2.toInt i3.toInt i1.toInt pm0.toInt.toNat)) i2.toInt) (R 4) (R 5) i2.toInt)) ∧ hx_T T_tb u.1 u.2 ∧ hx_S T_tb [(10, 67), (10, 68), (10, 69), (10, 70), (10, 71)] L h u.1 u.2) (hx_E T_tb (P_ty dA) (dC, dI) vwCl (hx_A L sz)) (hx_A L sz)) ([.ref x, .int i1, .int i2, .int i3] : List Value).toArray s 0 0 (hx_A L sz)) (F0 m 49 ls []) := by
    intro jw49_x_71 H locs hL1 hl1 bljw49_x_71 bujw49_x_71 vj49_0 ls hW hT hM fjw49_x_71 f_2 f_4 f_6 f_8  hl
    have join88 : ∀ (jw88_x_71 : Int32) (H : Heap) (locs : List Loc) (hL1 : List Nat) (hl1 : hx_h), 0 ≤ jw88_x_71.toInt → jw88_x_71.toInt ≤ 8 → (jw88_x_71.toInt = hz_sa (fof i1.toInt.toNat).toInt (hrf i1.toInt.toNat).toInt (udf i1.toInt.toNat).toInt i2.toInt) → ∀ (ls : Array Slot), hx_W T_tb (P_ty dA) (dC, dI) vwCl (hx_A L sz) s.heap hL1 hl1 s H locs → hx_T T_tb hL1 hl1 → hx_S T_tb [(10, 67), (10, 68), (10, 69), (10, 70), (10, 71)] L h hL1 hl1 → hl1.2.1 x 71 = jw88_x_71 → hl1.2.1 x 67 = (0 : Int32) → hl1.2.1 x 68 = (0 : Int32) → hl1.2.1 x 69 = (0 : Int32) → hl1.2.1 x 70 = (0 : Int32) → lv_has ls 9 [(0, .ref x), (1, .int i1), (2, .int i2), (3, .int i3)] → W p l e ({ frames := 1, cells := 0, slots := 0, locals := 22 }) s m ([.ref x, .int i1, .int i2, .int i3] : List Value).toArray below meth c H locs 0 0 (MQ below (va_Qv (fun (u : List Nat × hx_h) => (∃ (pd1 : Int32) (rs1 : Int32) (ov1 : Int32) (ms1 : Int32) (st1 : Int32), u.2.2.1 x 67 = pd1 ∧ u.2.2.1 x 68 = rs1 ∧ u.2.2.1 x 69 = ov1 ∧ u.2.2.1 x 70 = ms1 ∧ u.2.2.1 x 71 = st1 ∧ (pd1.toInt = hz_pdy (odf i1.toInt.toNat).toInt (szf i1.toInt.toNat).toInt (gdf i1.toInt.toNat).toInt i2.toInt (hx_ps pof pdf psm pkf pst i2.toInt i3.toInt i1.toInt pm0.toInt.toNat) ∧ rs1.toInt = hz_rs (svf i1.toInt.toNat).toInt (hz_bl (odf i1.toInt.toNat).toInt (szf i1.toInt.toNat).toInt (gdf i1.toInt.toNat).toInt (owf i1.toInt.toNat).toInt (R 12) i2.toInt (hx_ps pof pdf psm pkf pst i2.toInt i3.toInt i1.toInt pm0.toInt.toNat)) i2.toInt ∧ ov1.toInt = hz_ov (svf i1.toInt.toNat).toInt (hz_bl (odf i1.toInt.toNat).toInt (szf i1.toInt.toNat).toInt (gdf i1.toInt.toNat).toInt (owf i1.toInt.toNat).toInt (R 12) i2.toInt (hx_ps pof pdf psm pkf pst i2.toInt i3.toInt i1.toInt pm0.toInt.toNat)) i2.toInt ∧ ms1.toInt = hz_ms (odf i1.toInt.toNat).toInt (svf i1.toInt.toNat).toInt (wkf i1.toInt.toNat).toInt (hz_al (owf i1.toInt.toNat).toInt (szf i1.toInt.toNat).toInt (R 12) i2.toInt) (hz_pdy (odf i1.toInt.toNat).toInt (szf i1.toInt.toNat).toInt (gdf i1.toInt.toNat).toInt i2.toInt (hx_ps pof pdf psm pkf pst i2.toInt i3.toInt i1.toInt pm0.toInt.toNat)) i2.toInt ∧ st1.toInt = hz_st (fof i1.toInt.toNat).toInt (hrf i1.toInt.toNat).toInt (udf i1.toInt.toNat).toInt (odf i1.toInt.toNat).toInt (svf i1.toInt.toNat).toInt (hz_rs (svf i1.toInt.toNat).toInt (hz_bl (odf i1.toInt.toNat).toInt (szf i1.toInt.toNat).toInt (gdf i1.toInt.toNat).toInt (owf i1.toInt.toNat).toInt (R 12) i2.toInt (hx_ps pof pdf psm pkf pst i2.toInt i3.toInt i1.toInt pm0.toInt.toNat)) i2.toInt) (hz_ms (odf i1.toInt.toNat).toInt (svf i1.toInt.toNat).toInt (wkf i1.toInt.toNat).toInt (hz_al (owf i1.toInt.toNat).toInt (szf i1.toInt.toNat).toInt (R 12) i2.toInt) (hz_pdy (odf i1.toInt.toNat).toInt (szf i1.toInt.toNat).toInt (gdf i1.toInt.toNat).toInt i2.toInt (hx_ps pof pdf psm pkf pst i2.toInt i3.toInt i1.toInt pm0.toInt.toNat)) i2.toInt) (R 4) (R 5) i2.toInt)) ∧ hx_T T_tb u.1 u.2 ∧ hx_S T_tb [(10, 67), (10, 68), (10, 69), (10, 70), (10, 71)] L h u.1 u.2) (hx_E T_tb (P_ty dA) (dC, dI) vwCl (hx_A L sz)) (hx_A L sz)) ([.ref x, .int i1, .int i2, .int i3] : List Value).toArray s 0 0 (hx_A L sz)) (F0 m 88 ls []) := by
      intro jw88_x_71 H locs hL1 hl1 bljw88_x_71 bujw88_x_71 vj88_0 ls hW hT hM fjw88_x_71 f_2 f_4 f_6 f_8  hl
      refine lv_aload_n hx hb dX10_looks_88 rfl (lv_at hl 0 rfl) ?_
      refine hk_getr hx hb hts hC_10 hown hW (gx.S hM) tt_10 48 (by decide) rfl kw_1191 ⟨rfl, rfl, rfl⟩ ((hM.o gx trivial rfl).2.trans f_x_48) dX10_looks_89 ?_
      refine lv_iload_n hx hb dX10_looks_92 rfl (lv_at hl 1 rfl) ?_
      refine hx_iald hx hb hW hT (gqod.S hM) tt_83 rfl ⟨by omega, by omega⟩ dX10_looks_93 (fun x_9 ex_9 lx_9 ux_9 => ?_)
      have ax_9 : x_9 = odf i1.toNatClampNeg := ex_9.trans (congrFun (hx_afS hM gqod rfl af_qod) _)
      have sx_9 : x_9.toInt = (odf i1.toInt.toNat).toInt := congrArg Int32.toInt ax_9
      refine lv_iconst (v := -1) hx hb dX10_looks_94 (by decide) ?_
      refine hb_icmp_eq (zx := x_9.toInt) (zy := (-1)) (tgt := 108) hx hb rfl (by decide) dX10_looks_95 (by decide) (fun c_10 => ?_) (fun c_10 => ?_)
      · skip
        have zo_0 : (0 : Int32).toInt = 0 := by decide
        have zo_0 : (0 : Int32).toInt = 0 := by decide
        have zo_0 : (0 : Int32).toInt = 0 := by decide
        have zo_0 : (0 : Int32).toInt = 0 := by decide
        exact hx_retv hx hb hr hlk hW ⟨⟨(0 : Int32), (0 : Int32), (0 : Int32), (0 : Int32), jw88_x_71, f_2, f_4, f_6, f_8, fjw88_x_71, (by have zr_0 : (0 : Int32).toInt = 0 := (by decide); exact ⟨(by unfold hz_pdy; (repeat' split) <;> omega), (by unfold hz_rs hz_bl; (repeat' split) <;> omega), (by unfold hz_ov hz_bl; (repeat' split) <;> omega), (by unfold hz_ms; rw [if_pos (by omega)]; omega), (by unfold hz_st; rw [if_pos (by omega)]; omega)⟩)⟩, hT, hM⟩ dX10_looks_108
      · skip
        refine lv_aload_n hx hb dX10_looks_98 rfl (lv_at hl 0 rfl) ?_
        refine hk_getr hx hb hts hC_10 hown hW (gx.S hM) tt_10 48 (by decide) rfl kw_1191 ⟨rfl, rfl, rfl⟩ ((hM.o gx trivial rfl).2.trans f_x_48) dX10_looks_99 ?_
        refine lv_iload_n hx hb dX10_looks_102 rfl (lv_at hl 1 rfl) ?_
        refine hx_iald hx hb hW hT (gqod.S hM) tt_83 rfl ⟨by omega, by omega⟩ dX10_looks_103 (fun x_11 ex_11 lx_11 ux_11 => ?_)
        have ax_11 : x_11 = odf i1.toNatClampNeg := ex_11.trans (congrFun (hx_afS hM gqod rfl af_qod) _)
        obtain rfl : x_9 = x_11 := ex_9.trans ex_11.symm
        refine lv_iload_n hx hb dX10_looks_104 rfl (lv_at hl 2 rfl) ?_
        refine hb_icmp_le (zx := x_9.toInt) (zy := i2.toInt) (tgt := 109) hx hb rfl rfl dX10_looks_105 (by decide) (fun c_12 => ?_) (fun c_12 => ?_)
        · skip
          have join136 : ∀ (jv136_4 : Int32) (H : Heap) (locs : List Loc) (hL1 : List Nat) (hl1 : hx_h), 0 ≤ jv136_4.toInt → jv136_4.toInt ≤ 1 → ((jv136_4.toInt = 1 ∧ (szf i1.toInt.toNat).toInt ≠ -1 ∧ (szf i1.toInt.toNat).toInt ≤ i2.toInt) ∨ (jv136_4.toInt = 0 ∧ ((szf i1.toInt.toNat).toInt = -1 ∨ i2.toInt < (szf i1.toInt.toNat).toInt))) → ∀ (ls : Array Slot), hx_W T_tb (P_ty dA) (dC, dI) vwCl (hx_A L sz) s.heap hL1 hl1 s H locs → hx_T T_tb hL1 hl1 → hx_S T_tb [(10, 67), (10, 68), (10, 69), (10, 70), (10, 71)] L h hL1 hl1 → hl1.2.1 x 67 = (0 : Int32) → hl1.2.1 x 68 = (0 : Int32) → hl1.2.1 x 69 = (0 : Int32) → hl1.2.1 x 70 = (0 : Int32) → hl1.2.1 x 71 = jw88_x_71 → lv_has ls 9 [(4, .int jv136_4), (0, .ref x), (1, .int i1), (2, .int i2), (3, .int i3)] → W p l e ({ frames := 1, cells := 0, slots := 0, locals := 22 }) s m ([.ref x, .int i1, .int i2, .int i3] : List Value).toArray below meth c H locs 0 0 (MQ below (va_Qv (fun (u : List Nat × hx_h) => (∃ (pd1 : Int32) (rs1 : Int32) (ov1 : Int32) (ms1 : Int32) (st1 : Int32), u.2.2.1 x 67 = pd1 ∧ u.2.2.1 x 68 = rs1 ∧ u.2.2.1 x 69 = ov1 ∧ u.2.2.1 x 70 = ms1 ∧ u.2.2.1 x 71 = st1 ∧ (pd1.toInt = hz_pdy (odf i1.toInt.toNat).toInt (szf i1.toInt.toNat).toInt (gdf i1.toInt.toNat).toInt i2.toInt (hx_ps pof pdf psm pkf pst i2.toInt i3.toInt i1.toInt pm0.toInt.toNat) ∧ rs1.toInt = hz_rs (svf i1.toInt.toNat).toInt (hz_bl (odf i1.toInt.toNat).toInt (szf i1.toInt.toNat).toInt (gdf i1.toInt.toNat).toInt (owf i1.toInt.toNat).toInt (R 12) i2.toInt (hx_ps pof pdf psm pkf pst i2.toInt i3.toInt i1.toInt pm0.toInt.toNat)) i2.toInt ∧ ov1.toInt = hz_ov (svf i1.toInt.toNat).toInt (hz_bl (odf i1.toInt.toNat).toInt (szf i1.toInt.toNat).toInt (gdf i1.toInt.toNat).toInt (owf i1.toInt.toNat).toInt (R 12) i2.toInt (hx_ps pof pdf psm pkf pst i2.toInt i3.toInt i1.toInt pm0.toInt.toNat)) i2.toInt ∧ ms1.toInt = hz_ms (odf i1.toInt.toNat).toInt (svf i1.toInt.toNat).toInt (wkf i1.toInt.toNat).toInt (hz_al (owf i1.toInt.toNat).toInt (szf i1.toInt.toNat).toInt (R 12) i2.toInt) (hz_pdy (odf i1.toInt.toNat).toInt (szf i1.toInt.toNat).toInt (gdf i1.toInt.toNat).toInt i2.toInt (hx_ps pof pdf psm pkf pst i2.toInt i3.toInt i1.toInt pm0.toInt.toNat)) i2.toInt ∧ st1.toInt = hz_st (fof i1.toInt.toNat).toInt (hrf i1.toInt.toNat).toInt (udf i1.toInt.toNat).toInt (odf i1.toInt.toNat).toInt (svf i1.toInt.toNat).toInt (hz_rs (svf i1.toInt.toNat).toInt (hz_bl (odf i1.toInt.toNat).toInt (szf i1.toInt.toNat).toInt (gdf i1.toInt.toNat).toInt (owf i1.toInt.toNat).toInt (R 12) i2.toInt (hx_ps pof pdf psm pkf pst i2.toInt i3.toInt i1.toInt pm0.toInt.toNat)) i2.toInt) (hz_ms (odf i1.toInt.toNat).toInt (svf i1.toInt.toNat).toInt (wkf i1.toInt.toNat).toInt (hz_al (owf i1.toInt.toNat).toInt (szf i1.toInt.toNat).toInt (R 12) i2.toInt) (hz_pdy (odf i1.toInt.toNat).toInt (szf i1.toInt.toNat).toInt (gdf i1.toInt.toNat).toInt i2.toInt (hx_ps pof pdf psm pkf pst i2.toInt i3.toInt i1.toInt pm0.toInt.toNat)) i2.toInt) (R 4) (R 5) i2.toInt)) ∧ hx_T T_tb u.1 u.2 ∧ hx_S T_tb [(10, 67), (10, 68), (10, 69), (10, 70), (10, 71)] L h u.1 u.2) (hx_E T_tb (P_ty dA) (dC, dI) vwCl (hx_A L sz)) (hx_A L sz)) ([.ref x, .int i1, .int i2, .int i3] : List Value).toArray s 0 0 (hx_A L sz)) (F0 m 136 ls []) := by
            intro jv136_4 H locs hL1 hl1 bljv136_4 bujv136_4 vj136_0 ls hW hT hM f_2 f_4 f_6 f_8 fjw88_x_71  hl
            refine lv_iconst (v := 0) hx hb dX10_looks_136 (by decide) ?_
            refine lv_istore (lv' := [(5, .int (0 : Int32)), (4, .int jv136_4), (0, .ref x), (1, .int i1), (2, .int i2), (3, .int i3)]) hx hb dX10_looks_137 hl (by decide) rfl (fun ls hl => ?_)
            have loop139 : ∀ (n139 : Nat) (iv139_5 fw139_x_67 : Int32) (H : Heap) (locs : List Loc) (hL1 : List Nat) (hl1 : hx_h), 0 ≤ iv139_5.toInt → iv139_5.toInt ≤ 600 → 0 ≤ fw139_x_67.toInt → fw139_x_67.toInt ≤ 366100000 → (fw139_x_67.toInt ≤ 610000 * iv139_5.toInt) → (fw139_x_67.toInt = hx_ps pof pdf psm pkf pst i2.toInt i3.toInt i1.toInt (iv139_5.toInt).toNat) → (iv139_5.toInt ≤ pm0.toInt) → ∀ (ls : Array Slot), 600 - iv139_5.toInt < (n139 : Int) → hx_W T_tb (P_ty dA) (dC, dI) vwCl (hx_A L sz) s.heap hL1 hl1 s H locs → hx_T T_tb hL1 hl1 → hx_S T_tb [(10, 67), (10, 68), (10, 69), (10, 70), (10, 71)] L h hL1 hl1 → hl1.2.1 x 67 = fw139_x_67 → hl1.2.1 x 68 = (0 : Int32) → hl1.2.1 x 69 = (0 : Int32) → hl1.2.1 x 70 = (0 : Int32) → hl1.2.1 x 71 = jw88_x_71 → lv_has ls 9 [(5, .int iv139_5), (4, .int jv136_4), (0, .ref x), (1, .int i1), (2, .int i2), (3, .int i3)] → W p l e ({ frames := 1, cells := 0, slots := 0, locals := 22 }) s m ([.ref x, .int i1, .int i2, .int i3] : List Value).toArray below meth c H locs 0 0 (MQ below (va_Qv (fun (u : List Nat × hx_h) => (∃ (pd1 : Int32) (rs1 : Int32) (ov1 : Int32) (ms1 : Int32) (st1 : Int32), u.2.2.1 x 67 = pd1 ∧ u.2.2.1 x 68 = rs1 ∧ u.2.2.1 x 69 = ov1 ∧ u.2.2.1 x 70 = ms1 ∧ u.2.2.1 x 71 = st1 ∧ (pd1.toInt = hz_pdy (odf i1.toInt.toNat).toInt (szf i1.toInt.toNat).toInt (gdf i1.toInt.toNat).toInt i2.toInt (hx_ps pof pdf psm pkf pst i2.toInt i3.toInt i1.toInt pm0.toInt.toNat) ∧ rs1.toInt = hz_rs (svf i1.toInt.toNat).toInt (hz_bl (odf i1.toInt.toNat).toInt (szf i1.toInt.toNat).toInt (gdf i1.toInt.toNat).toInt (owf i1.toInt.toNat).toInt (R 12) i2.toInt (hx_ps pof pdf psm pkf pst i2.toInt i3.toInt i1.toInt pm0.toInt.toNat)) i2.toInt ∧ ov1.toInt = hz_ov (svf i1.toInt.toNat).toInt (hz_bl (odf i1.toInt.toNat).toInt (szf i1.toInt.toNat).toInt (gdf i1.toInt.toNat).toInt (owf i1.toInt.toNat).toInt (R 12) i2.toInt (hx_ps pof pdf psm pkf pst i2.toInt i3.toInt i1.toInt pm0.toInt.toNat)) i2.toInt ∧ ms1.toInt = hz_ms (odf i1.toInt.toNat).toInt (svf i1.toInt.toNat).toInt (wkf i1.toInt.toNat).toInt (hz_al (owf i1.toInt.toNat).toInt (szf i1.toInt.toNat).toInt (R 12) i2.toInt) (hz_pdy (odf i1.toInt.toNat).toInt (szf i1.toInt.toNat).toInt (gdf i1.toInt.toNat).toInt i2.toInt (hx_ps pof pdf psm pkf pst i2.toInt i3.toInt i1.toInt pm0.toInt.toNat)) i2.toInt ∧ st1.toInt = hz_st (fof i1.toInt.toNat).toInt (hrf i1.toInt.toNat).toInt (udf i1.toInt.toNat).toInt (odf i1.toInt.toNat).toInt (svf i1.toInt.toNat).toInt (hz_rs (svf i1.toInt.toNat).toInt (hz_bl (odf i1.toInt.toNat).toInt (szf i1.toInt.toNat).toInt (gdf i1.toInt.toNat).toInt (owf i1.toInt.toNat).toInt (R 12) i2.toInt (hx_ps pof pdf psm pkf pst i2.toInt i3.toInt i1.toInt pm0.toInt.toNat)) i2.toInt) (hz_ms (odf i1.toInt.toNat).toInt (svf i1.toInt.toNat).toInt (wkf i1.toInt.toNat).toInt (hz_al (owf i1.toInt.toNat).toInt (szf i1.toInt.toNat).toInt (R 12) i2.toInt) (hz_pdy (odf i1.toInt.toNat).toInt (szf i1.toInt.toNat).toInt (gdf i1.toInt.toNat).toInt i2.toInt (hx_ps pof pdf psm pkf pst i2.toInt i3.toInt i1.toInt pm0.toInt.toNat)) i2.toInt) (R 4) (R 5) i2.toInt)) ∧ hx_T T_tb u.1 u.2 ∧ hx_S T_tb [(10, 67), (10, 68), (10, 69), (10, 70), (10, 71)] L h u.1 u.2) (hx_E T_tb (P_ty dA) (dC, dI) vwCl (hx_A L sz)) (hx_A L sz)) ([.ref x, .int i1, .int i2, .int i3] : List Value).toArray s 0 0 (hx_A L sz)) (F0 m 139 ls []) := by
              intro n139
              induction n139 with
              | zero => intro iv139_5 fw139_x_67 H locs hL1 hl1 bliv139_5 buiv139_5 blfw139_x_67 bufw139_x_67 vi139_0 vi139_1 vi139_2 ls hn139; exfalso; omega
              | succ n139 ih139 =>
                intro iv139_5 fw139_x_67 H locs hL1 hl1 bliv139_5 buiv139_5 blfw139_x_67 bufw139_x_67 vi139_0 vi139_1 vi139_2 ls hn139 hW hT hM ffw139_x_67 f_4 f_6 f_8 fjw88_x_71  hl
                refine lv_iload hx hb dX10_looks_139 (lv_at hl 0 rfl) ?_
                refine lv_aload_n hx hb dX10_looks_141 rfl (lv_at hl 2 rfl) ?_
                refine hk_geti hx hb hts hC_10 hown hW (gx.S hM) tt_10 59 (by decide) rfl kw_1202 ⟨rfl, rfl, rfl⟩ ((hM.o gx trivial rfl).1.trans f_x_59) dX10_looks_142 ?_
                refine hb_icmp_ge (zx := iv139_5.toInt) (zy := pm0.toInt) (tgt := 225) hx hb rfl rfl dX10_looks_145 (by decide) (fun c_13 => ?_) (fun c_13 => ?_)
                · skip
                  have join279 : ∀ (jv279_5 jw279_x_67 : Int32) (H : Heap) (locs : List Loc) (hL1 : List Nat) (hl1 : hx_h), 0 ≤ jv279_5.toInt → jv279_5.toInt ≤ 609999 → 0 ≤ jw279_x_67.toInt → jw279_x_67.toInt ≤ 366100000 → (jw279_x_67.toInt = hz_pdy (odf i1.toInt.toNat).toInt (szf i1.toInt.toNat).toInt (gdf i1.toInt.toNat).toInt i2.toInt (hx_ps pof pdf psm pkf pst i2.toInt i3.toInt i1.toInt pm0.toInt.toNat)) → (jv279_5.toInt = hz_al (owf i1.toInt.toNat).toInt (szf i1.toInt.toNat).toInt (R 12) i2.toInt) → ∀ (ls : Array Slot), hx_W T_tb (P_ty dA) (dC, dI) vwCl (hx_A L sz) s.heap hL1 hl1 s H locs → hx_T T_tb hL1 hl1 → hx_S T_tb [(10, 67), (10, 68), (10, 69), (10, 70), (10, 71)] L h hL1 hl1 → hl1.2.1 x 67 = jw279_x_67 → hl1.2.1 x 68 = (0 : Int32) → hl1.2.1 x 69 = (0 : Int32) → hl1.2.1 x 70 = (0 : Int32) → hl1.2.1 x 71 = jw88_x_71 → lv_has ls 9 [(5, .int jv279_5), (4, .int jv136_4), (0, .ref x), (1, .int i1), (2, .int i2), (3, .int i3)] → W p l e ({ frames := 1, cells := 0, slots := 0, locals := 22 }) s m ([.ref x, .int i1, .int i2, .int i3] : List Value).toArray below meth c H locs 0 0 (MQ below (va_Qv (fun (u : List Nat × hx_h) => (∃ (pd1 : Int32) (rs1 : Int32) (ov1 : Int32) (ms1 : Int32) (st1 : Int32), u.2.2.1 x 67 = pd1 ∧ u.2.2.1 x 68 = rs1 ∧ u.2.2.1 x 69 = ov1 ∧ u.2.2.1 x 70 = ms1 ∧ u.2.2.1 x 71 = st1 ∧ (pd1.toInt = hz_pdy (odf i1.toInt.toNat).toInt (szf i1.toInt.toNat).toInt (gdf i1.toInt.toNat).toInt i2.toInt (hx_ps pof pdf psm pkf pst i2.toInt i3.toInt i1.toInt pm0.toInt.toNat) ∧ rs1.toInt = hz_rs (svf i1.toInt.toNat).toInt (hz_bl (odf i1.toInt.toNat).toInt (szf i1.toInt.toNat).toInt (gdf i1.toInt.toNat).toInt (owf i1.toInt.toNat).toInt (R 12) i2.toInt (hx_ps pof pdf psm pkf pst i2.toInt i3.toInt i1.toInt pm0.toInt.toNat)) i2.toInt ∧ ov1.toInt = hz_ov (svf i1.toInt.toNat).toInt (hz_bl (odf i1.toInt.toNat).toInt (szf i1.toInt.toNat).toInt (gdf i1.toInt.toNat).toInt (owf i1.toInt.toNat).toInt (R 12) i2.toInt (hx_ps pof pdf psm pkf pst i2.toInt i3.toInt i1.toInt pm0.toInt.toNat)) i2.toInt ∧ ms1.toInt = hz_ms (odf i1.toInt.toNat).toInt (svf i1.toInt.toNat).toInt (wkf i1.toInt.toNat).toInt (hz_al (owf i1.toInt.toNat).toInt (szf i1.toInt.toNat).toInt (R 12) i2.toInt) (hz_pdy (odf i1.toInt.toNat).toInt (szf i1.toInt.toNat).toInt (gdf i1.toInt.toNat).toInt i2.toInt (hx_ps pof pdf psm pkf pst i2.toInt i3.toInt i1.toInt pm0.toInt.toNat)) i2.toInt ∧ st1.toInt = hz_st (fof i1.toInt.toNat).toInt (hrf i1.toInt.toNat).toInt (udf i1.toInt.toNat).toInt (odf i1.toInt.toNat).toInt (svf i1.toInt.toNat).toInt (hz_rs (svf i1.toInt.toNat).toInt (hz_bl (odf i1.toInt.toNat).toInt (szf i1.toInt.toNat).toInt (gdf i1.toInt.toNat).toInt (owf i1.toInt.toNat).toInt (R 12) i2.toInt (hx_ps pof pdf psm pkf pst i2.toInt i3.toInt i1.toInt pm0.toInt.toNat)) i2.toInt) (hz_ms (odf i1.toInt.toNat).toInt (svf i1.toInt.toNat).toInt (wkf i1.toInt.toNat).toInt (hz_al (owf i1.toInt.toNat).toInt (szf i1.toInt.toNat).toInt (R 12) i2.toInt) (hz_pdy (odf i1.toInt.toNat).toInt (szf i1.toInt.toNat).toInt (gdf i1.toInt.toNat).toInt i2.toInt (hx_ps pof pdf psm pkf pst i2.toInt i3.toInt i1.toInt pm0.toInt.toNat)) i2.toInt) (R 4) (R 5) i2.toInt)) ∧ hx_T T_tb u.1 u.2 ∧ hx_S T_tb [(10, 67), (10, 68), (10, 69), (10, 70), (10, 71)] L h u.1 u.2) (hx_E T_tb (P_ty dA) (dC, dI) vwCl (hx_A L sz)) (hx_A L sz)) ([.ref x, .int i1, .int i2, .int i3] : List Value).toArray s 0 0 (hx_A L sz)) (F0 m 279 ls []) := by
                    intro jv279_5 jw279_x_67 H locs hL1 hl1 bljv279_5 bujv279_5 bljw279_x_67 bujw279_x_67 vj279_0 vj279_1 ls hW hT hM fjw279_x_67 f_4 f_6 f_8 fjw88_x_71  hl
                    refine lv_aload_n hx hb dX10_looks_279 rfl (lv_at hl 2 rfl) ?_
                    refine hk_getr hx hb hts hC_10 hown hW (gx.S hM) tt_10 50 (by decide) rfl kw_1193 ⟨rfl, rfl, rfl⟩ ((hM.o gx trivial rfl).2.trans f_x_50) dX10_looks_280 ?_
                    refine lv_iload_n hx hb dX10_looks_283 rfl (lv_at hl 3 rfl) ?_
                    refine hx_iald hx hb hW hT (gqsv.S hM) tt_85 rfl ⟨by omega, by omega⟩ dX10_looks_284 (fun x_14 ex_14 lx_14 ux_14 => ?_)
                    have ax_14 : x_14 = svf i1.toNatClampNeg := ex_14.trans (congrFun (hx_afS hM gqsv rfl af_qsv) _)
                    have sx_14 : x_14.toInt = (svf i1.toInt.toNat).toInt := congrArg Int32.toInt ax_14
                    refine lv_iconst (v := -1) hx hb dX10_looks_285 (by decide) ?_
                    refine hb_icmp_eq (zx := x_14.toInt) (zy := (-1)) (tgt := 306) hx hb rfl (by decide) dX10_looks_286 (by decide) (fun c_15 => ?_) (fun c_15 => ?_)
                    · skip
                      have join330 : ∀ (jw330_x_68 : Int32) (H : Heap) (locs : List Loc) (hL1 : List Nat) (hl1 : hx_h), 0 ≤ jw330_x_68.toInt → jw330_x_68.toInt ≤ 610000 → (jw330_x_68.toInt = hz_rs (svf i1.toInt.toNat).toInt (hz_bl (odf i1.toInt.toNat).toInt (szf i1.toInt.toNat).toInt (gdf i1.toInt.toNat).toInt (owf i1.toInt.toNat).toInt (R 12) i2.toInt (hx_ps pof pdf psm pkf pst i2.toInt i3.toInt i1.toInt pm0.toInt.toNat)) i2.toInt) → ∀ (ls : Array Slot), hx_W T_tb (P_ty dA) (dC, dI) vwCl (hx_A L sz) s.heap hL1 hl1 s H locs → hx_T T_tb hL1 hl1 → hx_S T_tb [(10, 67), (10, 68), (10, 69), (10, 70), (10, 71)] L h hL1 hl1 → hl1.2.1 x 68 = jw330_x_68 → hl1.2.1 x 69 = (0 : Int32) → hl1.2.1 x 70 = (0 : Int32) → hl1.2.1 x 71 = jw88_x_71 → hl1.2.1 x 67 = jw279_x_67 → lv_has ls 9 [(5, .int jv279_5), (4, .int jv136_4), (0, .ref x), (1, .int i1), (2, .int i2), (3, .int i3)] → W p l e ({ frames := 1, cells := 0, slots := 0, locals := 22 }) s m ([.ref x, .int i1, .int i2, .int i3] : List Value).toArray below meth c H locs 0 0 (MQ below (va_Qv (fun (u : List Nat × hx_h) => (∃ (pd1 : Int32) (rs1 : Int32) (ov1 : Int32) (ms1 : Int32) (st1 : Int32), u.2.2.1 x 67 = pd1 ∧ u.2.2.1 x 68 = rs1 ∧ u.2.2.1 x 69 = ov1 ∧ u.2.2.1 x 70 = ms1 ∧ u.2.2.1 x 71 = st1 ∧ (pd1.toInt = hz_pdy (odf i1.toInt.toNat).toInt (szf i1.toInt.toNat).toInt (gdf i1.toInt.toNat).toInt i2.toInt (hx_ps pof pdf psm pkf pst i2.toInt i3.toInt i1.toInt pm0.toInt.toNat) ∧ rs1.toInt = hz_rs (svf i1.toInt.toNat).toInt (hz_bl (odf i1.toInt.toNat).toInt (szf i1.toInt.toNat).toInt (gdf i1.toInt.toNat).toInt (owf i1.toInt.toNat).toInt (R 12) i2.toInt (hx_ps pof pdf psm pkf pst i2.toInt i3.toInt i1.toInt pm0.toInt.toNat)) i2.toInt ∧ ov1.toInt = hz_ov (svf i1.toInt.toNat).toInt (hz_bl (odf i1.toInt.toNat).toInt (szf i1.toInt.toNat).toInt (gdf i1.toInt.toNat).toInt (owf i1.toInt.toNat).toInt (R 12) i2.toInt (hx_ps pof pdf psm pkf pst i2.toInt i3.toInt i1.toInt pm0.toInt.toNat)) i2.toInt ∧ ms1.toInt = hz_ms (odf i1.toInt.toNat).toInt (svf i1.toInt.toNat).toInt (wkf i1.toInt.toNat).toInt (hz_al (owf i1.toInt.toNat).toInt (szf i1.toInt.toNat).toInt (R 12) i2.toInt) (hz_pdy (odf i1.toInt.toNat).toInt (szf i1.toInt.toNat).toInt (gdf i1.toInt.toNat).toInt i2.toInt (hx_ps pof pdf psm pkf pst i2.toInt i3.toInt i1.toInt pm0.toInt.toNat)) i2.toInt ∧ st1.toInt = hz_st (fof i1.toInt.toNat).toInt (hrf i1.toInt.toNat).toInt (udf i1.toInt.toNat).toInt (odf i1.toInt.toNat).toInt (svf i1.toInt.toNat).toInt (hz_rs (svf i1.toInt.toNat).toInt (hz_bl (odf i1.toInt.toNat).toInt (szf i1.toInt.toNat).toInt (gdf i1.toInt.toNat).toInt (owf i1.toInt.toNat).toInt (R 12) i2.toInt (hx_ps pof pdf psm pkf pst i2.toInt i3.toInt i1.toInt pm0.toInt.toNat)) i2.toInt) (hz_ms (odf i1.toInt.toNat).toInt (svf i1.toInt.toNat).toInt (wkf i1.toInt.toNat).toInt (hz_al (owf i1.toInt.toNat).toInt (szf i1.toInt.toNat).toInt (R 12) i2.toInt) (hz_pdy (odf i1.toInt.toNat).toInt (szf i1.toInt.toNat).toInt (gdf i1.toInt.toNat).toInt i2.toInt (hx_ps pof pdf psm pkf pst i2.toInt i3.toInt i1.toInt pm0.toInt.toNat)) i2.toInt) (R 4) (R 5) i2.toInt)) ∧ hx_T T_tb u.1 u.2 ∧ hx_S T_tb [(10, 67), (10, 68), (10, 69), (10, 70), (10, 71)] L h u.1 u.2) (hx_E T_tb (P_ty dA) (dC, dI) vwCl (hx_A L sz)) (hx_A L sz)) ([.ref x, .int i1, .int i2, .int i3] : List Value).toArray s 0 0 (hx_A L sz)) (F0 m 330 ls []) := by
                        intro jw330_x_68 H locs hL1 hl1 bljw330_x_68 bujw330_x_68 vj330_0 ls hW hT hM fjw330_x_68 f_6 f_8 fjw88_x_71 fjw279_x_67  hl
                        have join354 : ∀ (jw354_x_69 : Int32) (H : Heap) (locs : List Loc) (hL1 : List Nat) (hl1 : hx_h), -2147483648 ≤ jw354_x_69.toInt → jw354_x_69.toInt ≤ 2147483647 → (jw354_x_69.toInt = hz_ov (svf i1.toInt.toNat).toInt (hz_bl (odf i1.toInt.toNat).toInt (szf i1.toInt.toNat).toInt (gdf i1.toInt.toNat).toInt (owf i1.toInt.toNat).toInt (R 12) i2.toInt (hx_ps pof pdf psm pkf pst i2.toInt i3.toInt i1.toInt pm0.toInt.toNat)) i2.toInt) → ∀ (ls : Array Slot), hx_W T_tb (P_ty dA) (dC, dI) vwCl (hx_A L sz) s.heap hL1 hl1 s H locs → hx_T T_tb hL1 hl1 → hx_S T_tb [(10, 67), (10, 68), (10, 69), (10, 70), (10, 71)] L h hL1 hl1 → hl1.2.1 x 69 = jw354_x_69 → hl1.2.1 x 70 = (0 : Int32) → hl1.2.1 x 71 = jw88_x_71 → hl1.2.1 x 67 = jw279_x_67 → hl1.2.1 x 68 = jw330_x_68 → lv_has ls 9 [(5, .int jv279_5), (4, .int jv136_4), (0, .ref x), (1, .int i1), (2, .int i2), (3, .int i3)] → W p l e ({ frames := 1, cells := 0, slots := 0, locals := 22 }) s m ([.ref x, .int i1, .int i2, .int i3] : List Value).toArray below meth c H locs 0 0 (MQ below (va_Qv (fun (u : List Nat × hx_h) => (∃ (pd1 : Int32) (rs1 : Int32) (ov1 : Int32) (ms1 : Int32) (st1 : Int32), u.2.2.1 x 67 = pd1 ∧ u.2.2.1 x 68 = rs1 ∧ u.2.2.1 x 69 = ov1 ∧ u.2.2.1 x 70 = ms1 ∧ u.2.2.1 x 71 = st1 ∧ (pd1.toInt = hz_pdy (odf i1.toInt.toNat).toInt (szf i1.toInt.toNat).toInt (gdf i1.toInt.toNat).toInt i2.toInt (hx_ps pof pdf psm pkf pst i2.toInt i3.toInt i1.toInt pm0.toInt.toNat) ∧ rs1.toInt = hz_rs (svf i1.toInt.toNat).toInt (hz_bl (odf i1.toInt.toNat).toInt (szf i1.toInt.toNat).toInt (gdf i1.toInt.toNat).toInt (owf i1.toInt.toNat).toInt (R 12) i2.toInt (hx_ps pof pdf psm pkf pst i2.toInt i3.toInt i1.toInt pm0.toInt.toNat)) i2.toInt ∧ ov1.toInt = hz_ov (svf i1.toInt.toNat).toInt (hz_bl (odf i1.toInt.toNat).toInt (szf i1.toInt.toNat).toInt (gdf i1.toInt.toNat).toInt (owf i1.toInt.toNat).toInt (R 12) i2.toInt (hx_ps pof pdf psm pkf pst i2.toInt i3.toInt i1.toInt pm0.toInt.toNat)) i2.toInt ∧ ms1.toInt = hz_ms (odf i1.toInt.toNat).toInt (svf i1.toInt.toNat).toInt (wkf i1.toInt.toNat).toInt (hz_al (owf i1.toInt.toNat).toInt (szf i1.toInt.toNat).toInt (R 12) i2.toInt) (hz_pdy (odf i1.toInt.toNat).toInt (szf i1.toInt.toNat).toInt (gdf i1.toInt.toNat).toInt i2.toInt (hx_ps pof pdf psm pkf pst i2.toInt i3.toInt i1.toInt pm0.toInt.toNat)) i2.toInt ∧ st1.toInt = hz_st (fof i1.toInt.toNat).toInt (hrf i1.toInt.toNat).toInt (udf i1.toInt.toNat).toInt (odf i1.toInt.toNat).toInt (svf i1.toInt.toNat).toInt (hz_rs (svf i1.toInt.toNat).toInt (hz_bl (odf i1.toInt.toNat).toInt (szf i1.toInt.toNat).toInt (gdf i1.toInt.toNat).toInt (owf i1.toInt.toNat).toInt (R 12) i2.toInt (hx_ps pof pdf psm pkf pst i2.toInt i3.toInt i1.toInt pm0.toInt.toNat)) i2.toInt) (hz_ms (odf i1.toInt.toNat).toInt (svf i1.toInt.toNat).toInt (wkf i1.toInt.toNat).toInt (hz_al (owf i1.toInt.toNat).toInt (szf i1.toInt.toNat).toInt (R 12) i2.toInt) (hz_pdy (odf i1.toInt.toNat).toInt (szf i1.toInt.toNat).toInt (gdf i1.toInt.toNat).toInt i2.toInt (hx_ps pof pdf psm pkf pst i2.toInt i3.toInt i1.toInt pm0.toInt.toNat)) i2.toInt) (R 4) (R 5) i2.toInt)) ∧ hx_T T_tb u.1 u.2 ∧ hx_S T_tb [(10, 67), (10, 68), (10, 69), (10, 70), (10, 71)] L h u.1 u.2) (hx_E T_tb (P_ty dA) (dC, dI) vwCl (hx_A L sz)) (hx_A L sz)) ([.ref x, .int i1, .int i2, .int i3] : List Value).toArray s 0 0 (hx_A L sz)) (F0 m 354 ls []) := by
                          intro jw354_x_69 H locs hL1 hl1 bljw354_x_69 bujw354_x_69 vj354_0 ls hW hT hM fjw354_x_69 f_8 fjw88_x_71 fjw279_x_67 fjw330_x_68  hl
                          have join437 : ∀ (jw437_x_70 : Int32) (H : Heap) (locs : List Loc) (hL1 : List Nat) (hl1 : hx_h), -2147483648 ≤ jw437_x_70.toInt → jw437_x_70.toInt ≤ 2147483647 → (jw437_x_70.toInt = hz_ms (odf i1.toInt.toNat).toInt (svf i1.toInt.toNat).toInt (wkf i1.toInt.toNat).toInt (hz_al (owf i1.toInt.toNat).toInt (szf i1.toInt.toNat).toInt (R 12) i2.toInt) (hz_pdy (odf i1.toInt.toNat).toInt (szf i1.toInt.toNat).toInt (gdf i1.toInt.toNat).toInt i2.toInt (hx_ps pof pdf psm pkf pst i2.toInt i3.toInt i1.toInt pm0.toInt.toNat)) i2.toInt) → ∀ (ls : Array Slot), hx_W T_tb (P_ty dA) (dC, dI) vwCl (hx_A L sz) s.heap hL1 hl1 s H locs → hx_T T_tb hL1 hl1 → hx_S T_tb [(10, 67), (10, 68), (10, 69), (10, 70), (10, 71)] L h hL1 hl1 → hl1.2.1 x 70 = jw437_x_70 → hl1.2.1 x 71 = jw88_x_71 → hl1.2.1 x 67 = jw279_x_67 → hl1.2.1 x 68 = jw330_x_68 → hl1.2.1 x 69 = jw354_x_69 → lv_has ls 9 [(5, .int jv279_5), (4, .int jv136_4), (0, .ref x), (1, .int i1), (2, .int i2), (3, .int i3)] → W p l e ({ frames := 1, cells := 0, slots := 0, locals := 22 }) s m ([.ref x, .int i1, .int i2, .int i3] : List Value).toArray below meth c H locs 0 0 (MQ below (va_Qv (fun (u : List Nat × hx_h) => (∃ (pd1 : Int32) (rs1 : Int32) (ov1 : Int32) (ms1 : Int32) (st1 : Int32), u.2.2.1 x 67 = pd1 ∧ u.2.2.1 x 68 = rs1 ∧ u.2.2.1 x 69 = ov1 ∧ u.2.2.1 x 70 = ms1 ∧ u.2.2.1 x 71 = st1 ∧ (pd1.toInt = hz_pdy (odf i1.toInt.toNat).toInt (szf i1.toInt.toNat).toInt (gdf i1.toInt.toNat).toInt i2.toInt (hx_ps pof pdf psm pkf pst i2.toInt i3.toInt i1.toInt pm0.toInt.toNat) ∧ rs1.toInt = hz_rs (svf i1.toInt.toNat).toInt (hz_bl (odf i1.toInt.toNat).toInt (szf i1.toInt.toNat).toInt (gdf i1.toInt.toNat).toInt (owf i1.toInt.toNat).toInt (R 12) i2.toInt (hx_ps pof pdf psm pkf pst i2.toInt i3.toInt i1.toInt pm0.toInt.toNat)) i2.toInt ∧ ov1.toInt = hz_ov (svf i1.toInt.toNat).toInt (hz_bl (odf i1.toInt.toNat).toInt (szf i1.toInt.toNat).toInt (gdf i1.toInt.toNat).toInt (owf i1.toInt.toNat).toInt (R 12) i2.toInt (hx_ps pof pdf psm pkf pst i2.toInt i3.toInt i1.toInt pm0.toInt.toNat)) i2.toInt ∧ ms1.toInt = hz_ms (odf i1.toInt.toNat).toInt (svf i1.toInt.toNat).toInt (wkf i1.toInt.toNat).toInt (hz_al (owf i1.toInt.toNat).toInt (szf i1.toInt.toNat).toInt (R 12) i2.toInt) (hz_pdy (odf i1.toInt.toNat).toInt (szf i1.toInt.toNat).toInt (gdf i1.toInt.toNat).toInt i2.toInt (hx_ps pof pdf psm pkf pst i2.toInt i3.toInt i1.toInt pm0.toInt.toNat)) i2.toInt ∧ st1.toInt = hz_st (fof i1.toInt.toNat).toInt (hrf i1.toInt.toNat).toInt (udf i1.toInt.toNat).toInt (odf i1.toInt.toNat).toInt (svf i1.toInt.toNat).toInt (hz_rs (svf i1.toInt.toNat).toInt (hz_bl (odf i1.toInt.toNat).toInt (szf i1.toInt.toNat).toInt (gdf i1.toInt.toNat).toInt (owf i1.toInt.toNat).toInt (R 12) i2.toInt (hx_ps pof pdf psm pkf pst i2.toInt i3.toInt i1.toInt pm0.toInt.toNat)) i2.toInt) (hz_ms (odf i1.toInt.toNat).toInt (svf i1.toInt.toNat).toInt (wkf i1.toInt.toNat).toInt (hz_al (owf i1.toInt.toNat).toInt (szf i1.toInt.toNat).toInt (R 12) i2.toInt) (hz_pdy (odf i1.toInt.toNat).toInt (szf i1.toInt.toNat).toInt (gdf i1.toInt.toNat).toInt i2.toInt (hx_ps pof pdf psm pkf pst i2.toInt i3.toInt i1.toInt pm0.toInt.toNat)) i2.toInt) (R 4) (R 5) i2.toInt)) ∧ hx_T T_tb u.1 u.2 ∧ hx_S T_tb [(10, 67), (10, 68), (10, 69), (10, 70), (10, 71)] L h u.1 u.2) (hx_E T_tb (P_ty dA) (dC, dI) vwCl (hx_A L sz)) (hx_A L sz)) ([.ref x, .int i1, .int i2, .int i3] : List Value).toArray s 0 0 (hx_A L sz)) (F0 m 437 ls []) := by
                            intro jw437_x_70 H locs hL1 hl1 bljw437_x_70 bujw437_x_70 vj437_0 ls hW hT hM fjw437_x_70 fjw88_x_71 fjw279_x_67 fjw330_x_68 fjw354_x_69  hl
                            refine lv_aload_n hx hb dX10_looks_437 rfl (lv_at hl 2 rfl) ?_
                            refine lv_aload_n hx hb dX10_looks_438 rfl (lv_at hl 2 rfl) ?_
                            refine hk_getr hx hb hts hC_10 hown hW (gx.S hM) tt_10 44 (by decide) rfl kw_1187 ⟨rfl, rfl, rfl⟩ ((hM.o gx trivial rfl).2.trans f_x_44) dX10_looks_439 ?_
                            refine lv_iload_n hx hb dX10_looks_442 rfl (lv_at hl 3 rfl) ?_
                            refine hx_iald hx hb hW hT (gqpl.S hM) tt_79 rfl ⟨by omega, by omega⟩ dX10_looks_443 (fun x_16 ex_16 lx_16 ux_16 => ?_)
                            have ax_16 : x_16 = plf i1.toNatClampNeg := ex_16.trans (congrFun (hx_afS hM gqpl rfl af_qpl) _)
                            refine lv_iconst (v := 4) hx hb dX10_looks_444 (by decide) ?_
                            have zc_4 : (4 : Int32).toInt = 4 := by decide
                            refine hx_goi (hx_runV (As := [.int x_16, .int (4 : Int32)]) (rest := []) ⟨hx, hb, hml, hown, hts⟩ hW (gx.S hM) tt_10 (T := TX10) (N := 98) rfl (t_X10_ruleOf_v l dC dI dA hL1 hl1 H.size x x_16 (4 : Int32) hT (gx.S hM) qru (gqru.S hM) ((hM.o gx trivial rfl).2.trans f_x_3) rlf (hx_afS hM gqru rfl af_qru) ⟨by omega, by omega⟩ (by decide)) (cwV 2 hts (hx_gV kw_1533 kw_1530 kw_1532 kw_66 kw_103) rfl rfl rfl (by decide +kernel) ⟨Nat.le_of_ble_eq_true rfl, Nat.le_of_ble_eq_true rfl⟩) rfl hl.1 rfl (Nat.le_of_ble_eq_true rfl) dX10_looks_445 ⟨Nat.le_of_ble_eq_true rfl, Nat.le_of_ble_eq_true rfl⟩) hW (fun r_19 L_17 h_18 H locs p_20 hW => ?_)
                            obtain ⟨hr_21, hT, hs⟩ := p_20
                            replace hT : hx_T T_tb L_17 h_18 := hT
                            replace hs : hx_S T_tb [] hL1 hl1 L_17 h_18 := hs
                            replace fjw88_x_71 := (hs.o (gx.S hM) trivial rfl).1.trans fjw88_x_71
                            replace fjw279_x_67 := (hs.o (gx.S hM) trivial rfl).1.trans fjw279_x_67
                            replace fjw330_x_68 := (hs.o (gx.S hM) trivial rfl).1.trans fjw330_x_68
                            replace fjw354_x_69 := (hs.o (gx.S hM) trivial rfl).1.trans fjw354_x_69
                            replace fjw437_x_70 := (hs.o (gx.S hM) trivial rfl).1.trans fjw437_x_70
                            replace ex_16 := ex_16.trans (hs.a (gqpl.S hM) rfl _).1.symm
                            replace hM := hM.tr (hs.mono (by decide))
                            have hR_22 : r_19.toInt = R 4 := by rw [hr_21.1, ax_16, show (4 : Int32).toInt.toNat = 4 from by decide]; exact hRr 4 (by decide)
                            refine lv_istore (lv' := [(8, .int r_19), (5, .int jv279_5), (4, .int jv136_4), (0, .ref x), (1, .int i1), (2, .int i2), (3, .int i3)]) hx hb dX10_looks_448 hl (by decide) rfl (fun ls hl => ?_)
                            refine lv_aload_n hx hb dX10_looks_450 rfl (lv_at hl 3 rfl) ?_
                            refine lv_aload_n hx hb dX10_looks_451 rfl (lv_at hl 3 rfl) ?_
                            refine hk_geti hx hb hts hC_10 hown hW (gx.S hM) tt_10 68 (by decide) rfl kw_1211 ⟨rfl, rfl, rfl⟩ fjw330_x_68 dX10_looks_452 ?_
                            refine hb_if_ne (zx := jw330_x_68.toInt) (tgt := 463) hx hb rfl dX10_looks_455 (by decide) (fun c_23 => ?_) (fun c_23 => ?_)
                            · skip
                              refine lv_aload_n hx hb dX10_looks_463 rfl (lv_at hl 3 rfl) ?_
                              refine hk_geti hx hb hts hC_10 hown hW (gx.S hM) tt_10 70 (by decide) rfl kw_1213 ⟨rfl, rfl, rfl⟩ fjw437_x_70 dX10_looks_464 ?_
                              refine lv_iload hx hb dX10_looks_467 (lv_at hl 0 rfl) ?_
                              refine lv_aload_n hx hb dX10_looks_469 rfl (lv_at hl 3 rfl) ?_
                              refine lv_aload_n hx hb dX10_looks_470 rfl (lv_at hl 3 rfl) ?_
                              refine hk_getr hx hb hts hC_10 hown hW (gx.S hM) tt_10 44 (by decide) rfl kw_1187 ⟨rfl, rfl, rfl⟩ ((hM.o gx trivial rfl).2.trans f_x_44) dX10_looks_471 ?_
                              refine lv_iload_n hx hb dX10_looks_474 rfl (lv_at hl 4 rfl) ?_
                              refine hx_iald hx hb hW hT (gqpl.S hM) tt_79 rfl ⟨by omega, by omega⟩ dX10_looks_475 (fun x_24 ex_24 lx_24 ux_24 => ?_)
                              have ax_24 : x_24 = plf i1.toNatClampNeg := ex_24.trans (congrFun (hx_afS hM gqpl rfl af_qpl) _)
                              obtain rfl : x_16 = x_24 := ex_16.trans ex_24.symm
                              refine lv_iconst (v := 5) hx hb dX10_looks_476 (by decide) ?_
                              have zc_5 : (5 : Int32).toInt = 5 := by decide
                              refine hx_goi (hx_runV (As := [.int x_16, .int (5 : Int32)]) (rest := [.int r_19, .int jw437_x_70, .ref x]) ⟨hx, hb, hml, hown, hts⟩ hW (gx.S hM) tt_10 (T := TX10) (N := 98) rfl (t_X10_ruleOf_v l dC dI dA L_17 h_18 H.size x x_16 (5 : Int32) hT (gx.S hM) qru (gqru.S hM) ((hM.o gx trivial rfl).2.trans f_x_3) rlf (hx_afS hM gqru rfl af_qru) ⟨by omega, by omega⟩ (by decide)) (cwV 2 hts (hx_gV kw_1533 kw_1530 kw_1532 kw_66 kw_103) rfl rfl rfl (by decide +kernel) ⟨Nat.le_of_ble_eq_true rfl, Nat.le_of_ble_eq_true rfl⟩) rfl hl.1 rfl (Nat.le_of_ble_eq_true rfl) dX10_looks_477 ⟨Nat.le_of_ble_eq_true rfl, Nat.le_of_ble_eq_true rfl⟩) hW (fun r_27 L_25 h_26 H locs p_28 hW => ?_)
                              obtain ⟨hr_29, hT, hs⟩ := p_28
                              replace hT : hx_T T_tb L_25 h_26 := hT
                              replace hs : hx_S T_tb [] L_17 h_18 L_25 h_26 := hs
                              replace fjw88_x_71 := (hs.o (gx.S hM) trivial rfl).1.trans fjw88_x_71
                              replace fjw279_x_67 := (hs.o (gx.S hM) trivial rfl).1.trans fjw279_x_67
                              replace fjw330_x_68 := (hs.o (gx.S hM) trivial rfl).1.trans fjw330_x_68
                              replace fjw354_x_69 := (hs.o (gx.S hM) trivial rfl).1.trans fjw354_x_69
                              replace fjw437_x_70 := (hs.o (gx.S hM) trivial rfl).1.trans fjw437_x_70
                              replace ex_16 := ex_16.trans (hs.a (gqpl.S hM) rfl _).1.symm
                              replace hM := hM.tr (hs.mono (by decide))
                              have hR_30 : r_27.toInt = R 5 := by rw [hr_29.1, ax_16, show (5 : Int32).toInt.toNat = 5 from by decide]; exact hRr 5 (by decide)
                              refine lv_iadd hx hb dX10_looks_480 ?_
                              have rg_31 := i32_r r_19
                              have rg_32 := i32_r r_27
                              refine lv_topi (fun x_33 ex_33 => ?_)
                              have zx_33 : x_33.toInt = r_19.toInt + r_27.toInt := by rw [ex_33]; exact i32_add rfl rfl (by omega) (by omega)
                              refine hb_icmp_lt (zx := jw437_x_70.toInt) (zy := x_33.toInt) (tgt := 489) hx hb rfl rfl dX10_looks_481 (by decide) (fun c_34 => ?_) (fun c_34 => ?_)
                              · skip
                                refine lv_aload_n hx hb dX10_looks_489 rfl (lv_at hl 3 rfl) ?_
                                refine hk_geti hx hb hts hC_10 hown hW (gx.S hM) tt_10 70 (by decide) rfl kw_1213 ⟨rfl, rfl, rfl⟩ fjw437_x_70 dX10_looks_490 ?_
                                refine lv_iload hx hb dX10_looks_493 (lv_at hl 0 rfl) ?_
                                refine hb_icmp_lt (zx := jw437_x_70.toInt) (zy := r_19.toInt) (tgt := 502) hx hb rfl rfl dX10_looks_495 (by decide) (fun c_35 => ?_) (fun c_35 => ?_)
                                · skip
                                  refine lv_iconst (v := 4) hx hb dX10_looks_502 (by decide) ?_
                                  refine hx_puti hx hb hts hC_10 hown hW hT (hx_S.rf (M := [(10, 71)])) (gx.S hM) tt_10 71 (by decide) rfl kw_1214 ⟨rfl, rfl, rfl⟩ rfl (x := (4 : Int32)) (by decide) rfl rfl rfl (List.mem_singleton.mpr rfl) dX10_looks_503 (fun H locs h_36 eh_36 hW hT hs => ?_)
                                  replace fjw279_x_67 := (hs.o (gx.S hM) trivial rfl).1.trans fjw279_x_67
                                  replace fjw330_x_68 := (hs.o (gx.S hM) trivial rfl).1.trans fjw330_x_68
                                  replace fjw354_x_69 := (hs.o (gx.S hM) trivial rfl).1.trans fjw354_x_69
                                  replace fjw437_x_70 := (hs.o (gx.S hM) trivial rfl).1.trans fjw437_x_70
                                  replace ex_16 := ex_16.trans (hs.a (gqpl.S hM) rfl _).1.symm
                                  replace hM := hM.tr (hs.mono (by decide))
                                  have f_37 : h_36.2.1 x 71 = (4 : Int32) := by rw [eh_36]; exact hx_pi_at _ _ _ _
                                  have zo_4 : (4 : Int32).toInt = 4 := by decide
                                  exact hx_retv hx hb hr hlk hW ⟨⟨jw279_x_67, jw330_x_68, jw354_x_69, jw437_x_70, (4 : Int32), fjw279_x_67, fjw330_x_68, fjw354_x_69, fjw437_x_70, f_37, (by have zr_4 : (4 : Int32).toInt = 4 := (by decide); exact ⟨(by omega), (by omega), (by omega), (by omega), (by unfold hz_st; rw [if_neg (by omega), if_neg (by omega)]; rw [← hR_22]; rw [← hR_30]; (repeat' split) <;> omega)⟩)⟩, hT, hM⟩ dX10_looks_506
                                · skip
                                  refine lv_iconst (v := 5) hx hb dX10_looks_498 (by decide) ?_
                                  refine lv_goto (tgt := 503) hx hb dX10_looks_499 (by decide) ?_
                                  refine hx_puti hx hb hts hC_10 hown hW hT (hx_S.rf (M := [(10, 71)])) (gx.S hM) tt_10 71 (by decide) rfl kw_1214 ⟨rfl, rfl, rfl⟩ rfl (x := (5 : Int32)) (by decide) rfl rfl rfl (List.mem_singleton.mpr rfl) dX10_looks_503 (fun H locs h_38 eh_38 hW hT hs => ?_)
                                  replace fjw279_x_67 := (hs.o (gx.S hM) trivial rfl).1.trans fjw279_x_67
                                  replace fjw330_x_68 := (hs.o (gx.S hM) trivial rfl).1.trans fjw330_x_68
                                  replace fjw354_x_69 := (hs.o (gx.S hM) trivial rfl).1.trans fjw354_x_69
                                  replace fjw437_x_70 := (hs.o (gx.S hM) trivial rfl).1.trans fjw437_x_70
                                  replace ex_16 := ex_16.trans (hs.a (gqpl.S hM) rfl _).1.symm
                                  replace hM := hM.tr (hs.mono (by decide))
                                  have f_39 : h_38.2.1 x 71 = (5 : Int32) := by rw [eh_38]; exact hx_pi_at _ _ _ _
                                  have zo_5 : (5 : Int32).toInt = 5 := by decide
                                  exact hx_retv hx hb hr hlk hW ⟨⟨jw279_x_67, jw330_x_68, jw354_x_69, jw437_x_70, (5 : Int32), fjw279_x_67, fjw330_x_68, fjw354_x_69, fjw437_x_70, f_39, (by have zr_5 : (5 : Int32).toInt = 5 := (by decide); exact ⟨(by omega), (by omega), (by omega), (by omega), (by unfold hz_st; rw [if_neg (by omega), if_neg (by omega)]; rw [← hR_22]; rw [← hR_30]; (repeat' split) <;> omega)⟩)⟩, hT, hM⟩ dX10_looks_506
                              · skip
                                refine lv_bipush (v := 6) hx hb dX10_looks_484 (by decide) ?_
                                refine lv_goto (tgt := 503) hx hb dX10_looks_486 (by decide) ?_
                                refine hx_puti hx hb hts hC_10 hown hW hT (hx_S.rf (M := [(10, 71)])) (gx.S hM) tt_10 71 (by decide) rfl kw_1214 ⟨rfl, rfl, rfl⟩ rfl (x := (6 : Int32)) (by decide) rfl rfl rfl (List.mem_singleton.mpr rfl) dX10_looks_503 (fun H locs h_40 eh_40 hW hT hs => ?_)
                                replace fjw279_x_67 := (hs.o (gx.S hM) trivial rfl).1.trans fjw279_x_67
                                replace fjw330_x_68 := (hs.o (gx.S hM) trivial rfl).1.trans fjw330_x_68
                                replace fjw354_x_69 := (hs.o (gx.S hM) trivial rfl).1.trans fjw354_x_69
                                replace fjw437_x_70 := (hs.o (gx.S hM) trivial rfl).1.trans fjw437_x_70
                                replace ex_16 := ex_16.trans (hs.a (gqpl.S hM) rfl _).1.symm
                                replace hM := hM.tr (hs.mono (by decide))
                                have f_41 : h_40.2.1 x 71 = (6 : Int32) := by rw [eh_40]; exact hx_pi_at _ _ _ _
                                have zo_6 : (6 : Int32).toInt = 6 := by decide
                                exact hx_retv hx hb hr hlk hW ⟨⟨jw279_x_67, jw330_x_68, jw354_x_69, jw437_x_70, (6 : Int32), fjw279_x_67, fjw330_x_68, fjw354_x_69, fjw437_x_70, f_41, (by have zr_6 : (6 : Int32).toInt = 6 := (by decide); exact ⟨(by omega), (by omega), (by omega), (by omega), (by unfold hz_st; rw [if_neg (by omega), if_neg (by omega)]; rw [← hR_22]; rw [← hR_30]; (repeat' split) <;> omega)⟩)⟩, hT, hM⟩ dX10_looks_506
                            · skip
                              refine lv_bipush (v := 7) hx hb dX10_looks_458 (by decide) ?_
                              refine lv_goto (tgt := 503) hx hb dX10_looks_460 (by decide) ?_
                              refine hx_puti hx hb hts hC_10 hown hW hT (hx_S.rf (M := [(10, 71)])) (gx.S hM) tt_10 71 (by decide) rfl kw_1214 ⟨rfl, rfl, rfl⟩ rfl (x := (7 : Int32)) (by decide) rfl rfl rfl (List.mem_singleton.mpr rfl) dX10_looks_503 (fun H locs h_42 eh_42 hW hT hs => ?_)
                              replace fjw279_x_67 := (hs.o (gx.S hM) trivial rfl).1.trans fjw279_x_67
                              replace fjw330_x_68 := (hs.o (gx.S hM) trivial rfl).1.trans fjw330_x_68
                              replace fjw354_x_69 := (hs.o (gx.S hM) trivial rfl).1.trans fjw354_x_69
                              replace fjw437_x_70 := (hs.o (gx.S hM) trivial rfl).1.trans fjw437_x_70
                              replace ex_16 := ex_16.trans (hs.a (gqpl.S hM) rfl _).1.symm
                              replace hM := hM.tr (hs.mono (by decide))
                              have f_43 : h_42.2.1 x 71 = (7 : Int32) := by rw [eh_42]; exact hx_pi_at _ _ _ _
                              have zo_7 : (7 : Int32).toInt = 7 := by decide
                              exact hx_retv hx hb hr hlk hW ⟨⟨jw279_x_67, jw330_x_68, jw354_x_69, jw437_x_70, (7 : Int32), fjw279_x_67, fjw330_x_68, fjw354_x_69, fjw437_x_70, f_43, (by have zr_7 : (7 : Int32).toInt = 7 := (by decide); exact ⟨(by omega), (by omega), (by omega), (by omega), (by unfold hz_st; rw [if_neg (by omega), if_neg (by omega)]; rw [← hR_22]; (repeat' split) <;> omega)⟩)⟩, hT, hM⟩ dX10_looks_506
                          refine lv_iload_n hx hb dX10_looks_354 rfl (lv_at hl 4 rfl) ?_
                          refine lv_aload_n hx hb dX10_looks_355 rfl (lv_at hl 2 rfl) ?_
                          refine hk_getr hx hb hts hC_10 hown hW (gx.S hM) tt_10 48 (by decide) rfl kw_1191 ⟨rfl, rfl, rfl⟩ ((hM.o gx trivial rfl).2.trans f_x_48) dX10_looks_356 ?_
                          refine lv_iload_n hx hb dX10_looks_359 rfl (lv_at hl 3 rfl) ?_
                          refine hx_iald hx hb hW hT (gqod.S hM) tt_83 rfl ⟨by omega, by omega⟩ dX10_looks_360 (fun x_44 ex_44 lx_44 ux_44 => ?_)
                          have ax_44 : x_44 = odf i1.toNatClampNeg := ex_44.trans (congrFun (hx_afS hM gqod rfl af_qod) _)
                          have sx_44 : x_44.toInt = (odf i1.toInt.toNat).toInt := congrArg Int32.toInt ax_44
                          refine lv_isub hx hb dX10_looks_361 ?_
                          have rg_45 := i32_r i2
                          have rg_46 := i32_r x_44
                          refine lv_topi (fun x_47 ex_47 => ?_)
                          have zx_47 : x_47.toInt = i2.toInt - x_44.toInt := by rw [ex_47]; exact i32_sub rfl rfl (by omega) (by omega)
                          refine lv_bipush (v := 7) hx hb dX10_looks_362 (by decide) ?_
                          refine lv_idiv hx hb dX10_looks_364 (by decide) ?_
                          refine lv_topi (fun x_48 ex_48 => ?_)
                          have zx_48 : x_48.toInt = x_47.toInt / 7 := by rw [ex_48, hx_dv (by omega) (by decide)]; rfl
                          refine lv_istore (lv' := [(6, .int x_48), (5, .int jv279_5), (4, .int jv136_4), (0, .ref x), (1, .int i1), (2, .int i2), (3, .int i3)]) hx hb dX10_looks_365 hl (by decide) rfl (fun ls hl => ?_)
                          refine lv_aload_n hx hb dX10_looks_367 rfl (lv_at hl 3 rfl) ?_
                          refine hk_getr hx hb hts hC_10 hown hW (gx.S hM) tt_10 54 (by decide) rfl kw_1197 ⟨rfl, rfl, rfl⟩ ((hM.o gx trivial rfl).2.trans f_x_54) dX10_looks_368 ?_
                          refine lv_iload_n hx hb dX10_looks_371 rfl (lv_at hl 4 rfl) ?_
                          refine hx_iald hx hb hW hT (gqwk.S hM) tt_89 rfl ⟨by omega, by omega⟩ dX10_looks_372 (fun x_49 ex_49 lx_49 ux_49 => ?_)
                          have ax_49 : x_49 = wkf i1.toNatClampNeg := ex_49.trans (congrFun (hx_afS hM gqwk rfl af_qwk) _)
                          have sx_49 : x_49.toInt = (wkf i1.toInt.toNat).toInt := congrArg Int32.toInt ax_49
                          refine lv_iload hx hb dX10_looks_373 (lv_at hl 0 rfl) ?_
                          refine lv_imul hx hb dX10_looks_375 ?_
                          refine lv_topi (fun x_50 ex_50 => ?_)
                          have mx_50 : x_49.toInt = 0 → x_50.toInt = 0 := fun z => by rw [ex_50]; exact hx_mul0 z
                          obtain ⟨m9a, m9al, m9ah⟩ := hz_mul ⟨by omega, by omega⟩ ⟨by omega, by omega⟩ ex_50
                          rw [show x_49.toInt = (wkf i1.toInt.toNat).toInt from by omega, show x_48.toInt = (i2.toInt - (odf i1.toInt.toNat).toInt) / 7 from by omega] at m9a
                          refine lv_iload hx hb dX10_looks_376 (lv_at hl 1 rfl) ?_
                          refine hb_icmp_ge (zx := x_50.toInt) (zy := jv279_5.toInt) (tgt := 393) hx hb rfl rfl dX10_looks_378 (by decide) (fun c_51 => ?_) (fun c_51 => ?_)
                          · skip
                            refine lv_iload hx hb dX10_looks_393 (lv_at hl 1 rfl) ?_
                            refine lv_istore (lv' := [(7, .int jv279_5), (6, .int x_48), (5, .int jv279_5), (4, .int jv136_4), (0, .ref x), (1, .int i1), (2, .int i2), (3, .int i3)]) hx hb dX10_looks_395 hl (by decide) rfl (fun ls hl => ?_)
                            have hdu9 : jv279_5.toInt = hz_mi (hz_al (owf i1.toInt.toNat).toInt (szf i1.toInt.toNat).toInt (R 12) i2.toInt) ((wkf i1.toInt.toNat).toInt * ((i2.toInt - (odf i1.toInt.toNat).toInt) / 7)) := by unfold hz_mi; (repeat' split) <;> omega
                            have hpd9 : jw279_x_67.toInt = hz_pdy (odf i1.toInt.toNat).toInt (szf i1.toInt.toNat).toInt (gdf i1.toInt.toNat).toInt i2.toInt (hx_ps pof pdf psm pkf pst i2.toInt i3.toInt i1.toInt pm0.toInt.toNat) := by omega
                            refine lv_aload_n hx hb dX10_looks_397 rfl (lv_at hl 4 rfl) ?_
                            refine lv_iload hx hb dX10_looks_398 (lv_at hl 0 rfl) ?_
                            refine lv_aload_n hx hb dX10_looks_400 rfl (lv_at hl 4 rfl) ?_
                            refine hk_geti hx hb hts hC_10 hown hW (gx.S hM) tt_10 67 (by decide) rfl kw_1210 ⟨rfl, rfl, rfl⟩ fjw279_x_67 dX10_looks_401 ?_
                            refine hb_icmp_le (zx := jv279_5.toInt) (zy := jw279_x_67.toInt) (tgt := 433) hx hb rfl rfl dX10_looks_404 (by decide) (fun c_52 => ?_) (fun c_52 => ?_)
                            · skip
                              refine lv_iconst (v := 0) hx hb dX10_looks_433 (by decide) ?_
                              refine hx_puti hx hb hts hC_10 hown hW hT (hx_S.rf (M := [(10, 70)])) (gx.S hM) tt_10 70 (by decide) rfl kw_1213 ⟨rfl, rfl, rfl⟩ rfl (x := (0 : Int32)) (by decide) rfl rfl rfl (List.mem_singleton.mpr rfl) dX10_looks_434 (fun H locs h_53 eh_53 hW hT hs => ?_)
                              replace fjw88_x_71 := (hs.o (gx.S hM) trivial rfl).1.trans fjw88_x_71
                              replace fjw279_x_67 := (hs.o (gx.S hM) trivial rfl).1.trans fjw279_x_67
                              replace fjw330_x_68 := (hs.o (gx.S hM) trivial rfl).1.trans fjw330_x_68
                              replace fjw354_x_69 := (hs.o (gx.S hM) trivial rfl).1.trans fjw354_x_69
                              replace ex_44 := ex_44.trans (hs.a (gqod.S hM) rfl _).1.symm
                              replace ex_49 := ex_49.trans (hs.a (gqwk.S hM) rfl _).1.symm
                              replace hM := hM.tr (hs.mono (by decide))
                              have f_54 : h_53.2.1 x 70 = (0 : Int32) := by rw [eh_53]; exact hx_pi_at _ _ _ _
                              have zk_0 : (0 : Int32).toInt = 0 := by decide
                              exact join437 (0 : Int32) _ _ hL1 h_53 (by decide) (by decide) (by rw [zk_0]; unfold hz_ms; rw [if_neg (by omega), ← hdu9, ← hpd9]; unfold hz_ru; rw [if_pos (by omega)]) ls hW hT hM f_54 fjw88_x_71 fjw279_x_67 fjw330_x_68 fjw354_x_69  (lv_sub hl [2, 3, 4, 5, 6, 7] rfl)
                            · skip
                              refine lv_iload hx hb dX10_looks_407 (lv_at hl 0 rfl) ?_
                              refine lv_aload_n hx hb dX10_looks_409 rfl (lv_at hl 4 rfl) ?_
                              refine hk_geti hx hb hts hC_10 hown hW (gx.S hM) tt_10 67 (by decide) rfl kw_1210 ⟨rfl, rfl, rfl⟩ fjw279_x_67 dX10_looks_410 ?_
                              refine lv_isub hx hb dX10_looks_413 ?_
                              have rg_55 := i32_r jv279_5
                              have rg_56 := i32_r jw279_x_67
                              refine lv_topi (fun x_57 ex_57 => ?_)
                              have zx_57 : x_57.toInt = jv279_5.toInt - jw279_x_67.toInt := by rw [ex_57]; exact i32_sub rfl rfl (by omega) (by omega)
                              refine lv_aload_n hx hb dX10_looks_414 rfl (lv_at hl 4 rfl) ?_
                              refine hk_getr hx hb hts hC_10 hown hW (gx.S hM) tt_10 54 (by decide) rfl kw_1197 ⟨rfl, rfl, rfl⟩ ((hM.o gx trivial rfl).2.trans f_x_54) dX10_looks_415 ?_
                              refine lv_iload_n hx hb dX10_looks_418 rfl (lv_at hl 5 rfl) ?_
                              refine hx_iald hx hb hW hT (gqwk.S hM) tt_89 rfl ⟨by omega, by omega⟩ dX10_looks_419 (fun x_58 ex_58 lx_58 ux_58 => ?_)
                              have ax_58 : x_58 = wkf i1.toNatClampNeg := ex_58.trans (congrFun (hx_afS hM gqwk rfl af_qwk) _)
                              obtain rfl : x_49 = x_58 := ex_49.trans ex_58.symm
                              refine lv_iadd hx hb dX10_looks_420 ?_
                              have rg_59 := i32_r x_57
                              have rg_60 := i32_r x_49
                              refine lv_topi (fun x_61 ex_61 => ?_)
                              have zx_61 : x_61.toInt = x_57.toInt + x_49.toInt := by rw [ex_61]; exact i32_add rfl rfl (by omega) (by omega)
                              refine lv_iconst (v := 1) hx hb dX10_looks_421 (by decide) ?_
                              refine lv_isub hx hb dX10_looks_422 ?_
                              have rg_62 := i32_r x_61
                              refine lv_topi (fun x_63 ex_63 => ?_)
                              have zx_63 : x_63.toInt = x_61.toInt - 1 := by rw [ex_63]; exact i32_sub rfl (by decide) (by omega) (by omega)
                              refine lv_aload_n hx hb dX10_looks_423 rfl (lv_at hl 4 rfl) ?_
                              refine hk_getr hx hb hts hC_10 hown hW (gx.S hM) tt_10 54 (by decide) rfl kw_1197 ⟨rfl, rfl, rfl⟩ ((hM.o gx trivial rfl).2.trans f_x_54) dX10_looks_424 ?_
                              refine lv_iload_n hx hb dX10_looks_427 rfl (lv_at hl 5 rfl) ?_
                              refine hx_iald hx hb hW hT (gqwk.S hM) tt_89 rfl ⟨by omega, by omega⟩ dX10_looks_428 (fun x_64 ex_64 lx_64 ux_64 => ?_)
                              have ax_64 : x_64 = wkf i1.toNatClampNeg := ex_64.trans (congrFun (hx_afS hM gqwk rfl af_qwk) _)
                              obtain rfl : x_49 = x_64 := ex_49.trans ex_64.symm
                              refine lv_idiv hx hb dX10_looks_429 (hx_ne0 (by omega)) ?_
                              refine lv_topi (fun x_65 ex_65 => ?_)
                              have hru9 : x_65.toInt = hz_ru (jv279_5.toInt - jw279_x_67.toInt) (wkf i1.toInt.toNat).toInt := by rw [ex_65, hx_dv (by omega) (by omega), show x_63.toInt = (jv279_5.toInt - jw279_x_67.toInt) + (wkf i1.toInt.toNat).toInt - 1 from by omega, show x_49.toInt = (wkf i1.toInt.toNat).toInt from by omega]; exact hz_ru_m (by omega) (by omega)
                              refine lv_goto (tgt := 434) hx hb dX10_looks_430 (by decide) ?_
                              refine hx_puti hx hb hts hC_10 hown hW hT (hx_S.rf (M := [(10, 70)])) (gx.S hM) tt_10 70 (by decide) rfl kw_1213 ⟨rfl, rfl, rfl⟩ rfl (x := x_65) (i32_r _) rfl rfl rfl (List.mem_singleton.mpr rfl) dX10_looks_434 (fun H locs h_66 eh_66 hW hT hs => ?_)
                              replace fjw88_x_71 := (hs.o (gx.S hM) trivial rfl).1.trans fjw88_x_71
                              replace fjw279_x_67 := (hs.o (gx.S hM) trivial rfl).1.trans fjw279_x_67
                              replace fjw330_x_68 := (hs.o (gx.S hM) trivial rfl).1.trans fjw330_x_68
                              replace fjw354_x_69 := (hs.o (gx.S hM) trivial rfl).1.trans fjw354_x_69
                              replace ex_44 := ex_44.trans (hs.a (gqod.S hM) rfl _).1.symm
                              replace ex_49 := ex_49.trans (hs.a (gqwk.S hM) rfl _).1.symm
                              replace hM := hM.tr (hs.mono (by decide))
                              have f_67 : h_66.2.1 x 70 = x_65 := by rw [eh_66]; exact hx_pi_at _ _ _ _
                              exact join437 x_65 _ _ hL1 h_66 (i32_r _).1 (i32_r _).2 (by unfold hz_ms; rw [if_neg (by omega), ← hdu9, ← hpd9]; exact hru9) ls hW hT hM f_67 fjw88_x_71 fjw279_x_67 fjw330_x_68 fjw354_x_69  (lv_sub hl [2, 3, 4, 5, 6, 7] rfl)
                          · skip
                            refine lv_aload_n hx hb dX10_looks_381 rfl (lv_at hl 3 rfl) ?_
                            refine hk_getr hx hb hts hC_10 hown hW (gx.S hM) tt_10 54 (by decide) rfl kw_1197 ⟨rfl, rfl, rfl⟩ ((hM.o gx trivial rfl).2.trans f_x_54) dX10_looks_382 ?_
                            refine lv_iload_n hx hb dX10_looks_385 rfl (lv_at hl 4 rfl) ?_
                            refine hx_iald hx hb hW hT (gqwk.S hM) tt_89 rfl ⟨by omega, by omega⟩ dX10_looks_386 (fun x_68 ex_68 lx_68 ux_68 => ?_)
                            have ax_68 : x_68 = wkf i1.toNatClampNeg := ex_68.trans (congrFun (hx_afS hM gqwk rfl af_qwk) _)
                            obtain rfl : x_49 = x_68 := ex_49.trans ex_68.symm
                            refine lv_iload hx hb dX10_looks_387 (lv_at hl 0 rfl) ?_
                            refine lv_imul hx hb dX10_looks_389 ?_
                            refine lv_topi (fun x_69 ex_69 => ?_)
                            have mx_69 : x_49.toInt = 0 → x_69.toInt = 0 := fun z => by rw [ex_69]; exact hx_mul0 z
                            obtain ⟨m9b, m9bl, m9bh⟩ := hz_mul ⟨by omega, by omega⟩ ⟨by omega, by omega⟩ ex_69
                            rw [show x_49.toInt = (wkf i1.toInt.toNat).toInt from by omega, show x_48.toInt = (i2.toInt - (odf i1.toInt.toNat).toInt) / 7 from by omega] at m9b
                            refine lv_goto (tgt := 395) hx hb dX10_looks_390 (by decide) ?_
                            refine lv_istore (lv' := [(7, .int x_69), (6, .int x_48), (5, .int jv279_5), (4, .int jv136_4), (0, .ref x), (1, .int i1), (2, .int i2), (3, .int i3)]) hx hb dX10_looks_395 hl (by decide) rfl (fun ls hl => ?_)
                            have hdu9 : x_69.toInt = hz_mi (hz_al (owf i1.toInt.toNat).toInt (szf i1.toInt.toNat).toInt (R 12) i2.toInt) ((wkf i1.toInt.toNat).toInt * ((i2.toInt - (odf i1.toInt.toNat).toInt) / 7)) := by unfold hz_mi; (repeat' split) <;> omega
                            have hpd9 : jw279_x_67.toInt = hz_pdy (odf i1.toInt.toNat).toInt (szf i1.toInt.toNat).toInt (gdf i1.toInt.toNat).toInt i2.toInt (hx_ps pof pdf psm pkf pst i2.toInt i3.toInt i1.toInt pm0.toInt.toNat) := by omega
                            refine lv_aload_n hx hb dX10_looks_397 rfl (lv_at hl 4 rfl) ?_
                            refine lv_iload hx hb dX10_looks_398 (lv_at hl 0 rfl) ?_
                            refine lv_aload_n hx hb dX10_looks_400 rfl (lv_at hl 4 rfl) ?_
                            refine hk_geti hx hb hts hC_10 hown hW (gx.S hM) tt_10 67 (by decide) rfl kw_1210 ⟨rfl, rfl, rfl⟩ fjw279_x_67 dX10_looks_401 ?_
                            refine hb_icmp_le (zx := x_69.toInt) (zy := jw279_x_67.toInt) (tgt := 433) hx hb rfl rfl dX10_looks_404 (by decide) (fun c_70 => ?_) (fun c_70 => ?_)
                            · skip
                              refine lv_iconst (v := 0) hx hb dX10_looks_433 (by decide) ?_
                              refine hx_puti hx hb hts hC_10 hown hW hT (hx_S.rf (M := [(10, 70)])) (gx.S hM) tt_10 70 (by decide) rfl kw_1213 ⟨rfl, rfl, rfl⟩ rfl (x := (0 : Int32)) (by decide) rfl rfl rfl (List.mem_singleton.mpr rfl) dX10_looks_434 (fun H locs h_71 eh_71 hW hT hs => ?_)
                              replace fjw88_x_71 := (hs.o (gx.S hM) trivial rfl).1.trans fjw88_x_71
                              replace fjw279_x_67 := (hs.o (gx.S hM) trivial rfl).1.trans fjw279_x_67
                              replace fjw330_x_68 := (hs.o (gx.S hM) trivial rfl).1.trans fjw330_x_68
                              replace fjw354_x_69 := (hs.o (gx.S hM) trivial rfl).1.trans fjw354_x_69
                              replace ex_44 := ex_44.trans (hs.a (gqod.S hM) rfl _).1.symm
                              replace ex_49 := ex_49.trans (hs.a (gqwk.S hM) rfl _).1.symm
                              replace hM := hM.tr (hs.mono (by decide))
                              have f_72 : h_71.2.1 x 70 = (0 : Int32) := by rw [eh_71]; exact hx_pi_at _ _ _ _
                              have zk_0 : (0 : Int32).toInt = 0 := by decide
                              exact join437 (0 : Int32) _ _ hL1 h_71 (by decide) (by decide) (by rw [zk_0]; unfold hz_ms; rw [if_neg (by omega), ← hdu9, ← hpd9]; unfold hz_ru; rw [if_pos (by omega)]) ls hW hT hM f_72 fjw88_x_71 fjw279_x_67 fjw330_x_68 fjw354_x_69  (lv_sub hl [2, 3, 4, 5, 6, 7] rfl)
                            · skip
                              refine lv_iload hx hb dX10_looks_407 (lv_at hl 0 rfl) ?_
                              refine lv_aload_n hx hb dX10_looks_409 rfl (lv_at hl 4 rfl) ?_
                              refine hk_geti hx hb hts hC_10 hown hW (gx.S hM) tt_10 67 (by decide) rfl kw_1210 ⟨rfl, rfl, rfl⟩ fjw279_x_67 dX10_looks_410 ?_
                              refine lv_isub hx hb dX10_looks_413 ?_
                              have rg_73 := i32_r x_69
                              have rg_74 := i32_r jw279_x_67
                              refine lv_topi (fun x_75 ex_75 => ?_)
                              have zx_75 : x_75.toInt = x_69.toInt - jw279_x_67.toInt := by rw [ex_75]; exact i32_sub rfl rfl (by omega) (by omega)
                              refine lv_aload_n hx hb dX10_looks_414 rfl (lv_at hl 4 rfl) ?_
                              refine hk_getr hx hb hts hC_10 hown hW (gx.S hM) tt_10 54 (by decide) rfl kw_1197 ⟨rfl, rfl, rfl⟩ ((hM.o gx trivial rfl).2.trans f_x_54) dX10_looks_415 ?_
                              refine lv_iload_n hx hb dX10_looks_418 rfl (lv_at hl 5 rfl) ?_
                              refine hx_iald hx hb hW hT (gqwk.S hM) tt_89 rfl ⟨by omega, by omega⟩ dX10_looks_419 (fun x_76 ex_76 lx_76 ux_76 => ?_)
                              have ax_76 : x_76 = wkf i1.toNatClampNeg := ex_76.trans (congrFun (hx_afS hM gqwk rfl af_qwk) _)
                              obtain rfl : x_49 = x_76 := ex_49.trans ex_76.symm
                              refine lv_iadd hx hb dX10_looks_420 ?_
                              have rg_77 := i32_r x_75
                              have rg_78 := i32_r x_49
                              refine lv_topi (fun x_79 ex_79 => ?_)
                              have zx_79 : x_79.toInt = x_75.toInt + x_49.toInt := by rw [ex_79]; exact i32_add rfl rfl (by omega) (by omega)
                              refine lv_iconst (v := 1) hx hb dX10_looks_421 (by decide) ?_
                              refine lv_isub hx hb dX10_looks_422 ?_
                              have rg_80 := i32_r x_79
                              refine lv_topi (fun x_81 ex_81 => ?_)
                              have zx_81 : x_81.toInt = x_79.toInt - 1 := by rw [ex_81]; exact i32_sub rfl (by decide) (by omega) (by omega)
                              refine lv_aload_n hx hb dX10_looks_423 rfl (lv_at hl 4 rfl) ?_
                              refine hk_getr hx hb hts hC_10 hown hW (gx.S hM) tt_10 54 (by decide) rfl kw_1197 ⟨rfl, rfl, rfl⟩ ((hM.o gx trivial rfl).2.trans f_x_54) dX10_looks_424 ?_
                              refine lv_iload_n hx hb dX10_looks_427 rfl (lv_at hl 5 rfl) ?_
                              refine hx_iald hx hb hW hT (gqwk.S hM) tt_89 rfl ⟨by omega, by omega⟩ dX10_looks_428 (fun x_82 ex_82 lx_82 ux_82 => ?_)
                              have ax_82 : x_82 = wkf i1.toNatClampNeg := ex_82.trans (congrFun (hx_afS hM gqwk rfl af_qwk) _)
                              obtain rfl : x_49 = x_82 := ex_49.trans ex_82.symm
                              refine lv_idiv hx hb dX10_looks_429 (hx_ne0 (by omega)) ?_
                              refine lv_topi (fun x_83 ex_83 => ?_)
                              have hru9 : x_83.toInt = hz_ru (x_69.toInt - jw279_x_67.toInt) (wkf i1.toInt.toNat).toInt := by rw [ex_83, hx_dv (by omega) (by omega), show x_81.toInt = (x_69.toInt - jw279_x_67.toInt) + (wkf i1.toInt.toNat).toInt - 1 from by omega, show x_49.toInt = (wkf i1.toInt.toNat).toInt from by omega]; exact hz_ru_m (by omega) (by omega)
                              refine lv_goto (tgt := 434) hx hb dX10_looks_430 (by decide) ?_
                              refine hx_puti hx hb hts hC_10 hown hW hT (hx_S.rf (M := [(10, 70)])) (gx.S hM) tt_10 70 (by decide) rfl kw_1213 ⟨rfl, rfl, rfl⟩ rfl (x := x_83) (i32_r _) rfl rfl rfl (List.mem_singleton.mpr rfl) dX10_looks_434 (fun H locs h_84 eh_84 hW hT hs => ?_)
                              replace fjw88_x_71 := (hs.o (gx.S hM) trivial rfl).1.trans fjw88_x_71
                              replace fjw279_x_67 := (hs.o (gx.S hM) trivial rfl).1.trans fjw279_x_67
                              replace fjw330_x_68 := (hs.o (gx.S hM) trivial rfl).1.trans fjw330_x_68
                              replace fjw354_x_69 := (hs.o (gx.S hM) trivial rfl).1.trans fjw354_x_69
                              replace ex_44 := ex_44.trans (hs.a (gqod.S hM) rfl _).1.symm
                              replace ex_49 := ex_49.trans (hs.a (gqwk.S hM) rfl _).1.symm
                              replace hM := hM.tr (hs.mono (by decide))
                              have f_85 : h_84.2.1 x 70 = x_83 := by rw [eh_84]; exact hx_pi_at _ _ _ _
                              exact join437 x_83 _ _ hL1 h_84 (i32_r _).1 (i32_r _).2 (by unfold hz_ms; rw [if_neg (by omega), ← hdu9, ← hpd9]; exact hru9) ls hW hT hM f_85 fjw88_x_71 fjw279_x_67 fjw330_x_68 fjw354_x_69  (lv_sub hl [2, 3, 4, 5, 6, 7] rfl)
                        refine lv_aload_n hx hb dX10_looks_330 rfl (lv_at hl 2 rfl) ?_
                        refine lv_aload_n hx hb dX10_looks_331 rfl (lv_at hl 2 rfl) ?_
                        refine hk_geti hx hb hts hC_10 hown hW (gx.S hM) tt_10 67 (by decide) rfl kw_1210 ⟨rfl, rfl, rfl⟩ fjw279_x_67 dX10_looks_332 ?_
                        refine lv_iload hx hb dX10_looks_335 (lv_at hl 0 rfl) ?_
                        refine hb_icmp_le (zx := jw279_x_67.toInt) (zy := jv279_5.toInt) (tgt := 350) hx hb rfl rfl dX10_looks_337 (by decide) (fun c_86 => ?_) (fun c_86 => ?_)
                        · skip
                          refine lv_iconst (v := 0) hx hb dX10_looks_350 (by decide) ?_
                          refine hx_puti hx hb hts hC_10 hown hW hT (hx_S.rf (M := [(10, 69)])) (gx.S hM) tt_10 69 (by decide) rfl kw_1212 ⟨rfl, rfl, rfl⟩ rfl (x := (0 : Int32)) (by decide) rfl rfl rfl (List.mem_singleton.mpr rfl) dX10_looks_351 (fun H locs h_87 eh_87 hW hT hs => ?_)
                          replace f_8 := (hs.o (gx.S hM) trivial rfl).1.trans f_8
                          replace fjw88_x_71 := (hs.o (gx.S hM) trivial rfl).1.trans fjw88_x_71
                          replace fjw279_x_67 := (hs.o (gx.S hM) trivial rfl).1.trans fjw279_x_67
                          replace fjw330_x_68 := (hs.o (gx.S hM) trivial rfl).1.trans fjw330_x_68
                          replace hM := hM.tr (hs.mono (by decide))
                          have f_88 : h_87.2.1 x 69 = (0 : Int32) := by rw [eh_87]; exact hx_pi_at _ _ _ _
                          have zk_0 : (0 : Int32).toInt = 0 := by decide
                          exact join354 (0 : Int32) _ _ hL1 h_87 (by decide) (by decide) (by rw [zk_0]; unfold hz_ov hz_bl; (repeat' split) <;> omega) ls hW hT hM f_88 f_8 fjw88_x_71 fjw279_x_67 fjw330_x_68  (lv_sub hl [0, 1, 2, 3, 4, 5] rfl)
                        · skip
                          refine lv_aload_n hx hb dX10_looks_340 rfl (lv_at hl 2 rfl) ?_
                          refine hk_geti hx hb hts hC_10 hown hW (gx.S hM) tt_10 67 (by decide) rfl kw_1210 ⟨rfl, rfl, rfl⟩ fjw279_x_67 dX10_looks_341 ?_
                          refine lv_iload hx hb dX10_looks_344 (lv_at hl 0 rfl) ?_
                          refine lv_isub hx hb dX10_looks_346 ?_
                          have rg_89 := i32_r jw279_x_67
                          have rg_90 := i32_r jv279_5
                          refine lv_topi (fun x_91 ex_91 => ?_)
                          have zx_91 : x_91.toInt = jw279_x_67.toInt - jv279_5.toInt := by rw [ex_91]; exact i32_sub rfl rfl (by omega) (by omega)
                          refine lv_goto (tgt := 351) hx hb dX10_looks_347 (by decide) ?_
                          refine hx_puti hx hb hts hC_10 hown hW hT (hx_S.rf (M := [(10, 69)])) (gx.S hM) tt_10 69 (by decide) rfl kw_1212 ⟨rfl, rfl, rfl⟩ rfl (x := x_91) (i32_r _) rfl rfl rfl (List.mem_singleton.mpr rfl) dX10_looks_351 (fun H locs h_92 eh_92 hW hT hs => ?_)
                          replace f_8 := (hs.o (gx.S hM) trivial rfl).1.trans f_8
                          replace fjw88_x_71 := (hs.o (gx.S hM) trivial rfl).1.trans fjw88_x_71
                          replace fjw279_x_67 := (hs.o (gx.S hM) trivial rfl).1.trans fjw279_x_67
                          replace fjw330_x_68 := (hs.o (gx.S hM) trivial rfl).1.trans fjw330_x_68
                          replace hM := hM.tr (hs.mono (by decide))
                          have f_93 : h_92.2.1 x 69 = x_91 := by rw [eh_92]; exact hx_pi_at _ _ _ _
                          exact join354 x_91 _ _ hL1 h_92 (i32_r _).1 (i32_r _).2 (by unfold hz_ov hz_bl; (repeat' split) <;> omega) ls hW hT hM f_93 f_8 fjw88_x_71 fjw279_x_67 fjw330_x_68  (lv_sub hl [0, 1, 2, 3, 4, 5] rfl)
                      refine lv_aload_n hx hb dX10_looks_306 rfl (lv_at hl 2 rfl) ?_
                      refine lv_iload hx hb dX10_looks_307 (lv_at hl 0 rfl) ?_
                      refine lv_aload_n hx hb dX10_looks_309 rfl (lv_at hl 2 rfl) ?_
                      refine hk_geti hx hb hts hC_10 hown hW (gx.S hM) tt_10 67 (by decide) rfl kw_1210 ⟨rfl, rfl, rfl⟩ fjw279_x_67 dX10_looks_310 ?_
                      refine hb_icmp_le (zx := jv279_5.toInt) (zy := jw279_x_67.toInt) (tgt := 326) hx hb rfl rfl dX10_looks_313 (by decide) (fun c_94 => ?_) (fun c_94 => ?_)
                      · skip
                        refine lv_iconst (v := 0) hx hb dX10_looks_326 (by decide) ?_
                        refine hx_puti hx hb hts hC_10 hown hW hT (hx_S.rf (M := [(10, 68)])) (gx.S hM) tt_10 68 (by decide) rfl kw_1211 ⟨rfl, rfl, rfl⟩ rfl (x := (0 : Int32)) (by decide) rfl rfl rfl (List.mem_singleton.mpr rfl) dX10_looks_327 (fun H locs h_95 eh_95 hW hT hs => ?_)
                        replace f_6 := (hs.o (gx.S hM) trivial rfl).1.trans f_6
                        replace f_8 := (hs.o (gx.S hM) trivial rfl).1.trans f_8
                        replace fjw88_x_71 := (hs.o (gx.S hM) trivial rfl).1.trans fjw88_x_71
                        replace fjw279_x_67 := (hs.o (gx.S hM) trivial rfl).1.trans fjw279_x_67
                        replace ex_14 := ex_14.trans (hs.a (gqsv.S hM) rfl _).1.symm
                        replace hM := hM.tr (hs.mono (by decide))
                        have f_96 : h_95.2.1 x 68 = (0 : Int32) := by rw [eh_95]; exact hx_pi_at _ _ _ _
                        have zk_0 : (0 : Int32).toInt = 0 := by decide
                        exact join330 (0 : Int32) _ _ hL1 h_95 (by decide) (by decide) (by rw [zk_0]; unfold hz_rs hz_bl; (repeat' split) <;> omega) ls hW hT hM f_96 f_6 f_8 fjw88_x_71 fjw279_x_67  (lv_sub hl [0, 1, 2, 3, 4, 5] rfl)
                      · skip
                        refine lv_iload hx hb dX10_looks_316 (lv_at hl 0 rfl) ?_
                        refine lv_aload_n hx hb dX10_looks_318 rfl (lv_at hl 2 rfl) ?_
                        refine hk_geti hx hb hts hC_10 hown hW (gx.S hM) tt_10 67 (by decide) rfl kw_1210 ⟨rfl, rfl, rfl⟩ fjw279_x_67 dX10_looks_319 ?_
                        refine lv_isub hx hb dX10_looks_322 ?_
                        have rg_97 := i32_r jv279_5
                        have rg_98 := i32_r jw279_x_67
                        refine lv_topi (fun x_99 ex_99 => ?_)
                        have zx_99 : x_99.toInt = jv279_5.toInt - jw279_x_67.toInt := by rw [ex_99]; exact i32_sub rfl rfl (by omega) (by omega)
                        refine lv_goto (tgt := 327) hx hb dX10_looks_323 (by decide) ?_
                        refine hx_puti hx hb hts hC_10 hown hW hT (hx_S.rf (M := [(10, 68)])) (gx.S hM) tt_10 68 (by decide) rfl kw_1211 ⟨rfl, rfl, rfl⟩ rfl (x := x_99) ⟨by omega, by omega⟩ rfl rfl rfl (List.mem_singleton.mpr rfl) dX10_looks_327 (fun H locs h_100 eh_100 hW hT hs => ?_)
                        replace f_6 := (hs.o (gx.S hM) trivial rfl).1.trans f_6
                        replace f_8 := (hs.o (gx.S hM) trivial rfl).1.trans f_8
                        replace fjw88_x_71 := (hs.o (gx.S hM) trivial rfl).1.trans fjw88_x_71
                        replace fjw279_x_67 := (hs.o (gx.S hM) trivial rfl).1.trans fjw279_x_67
                        replace ex_14 := ex_14.trans (hs.a (gqsv.S hM) rfl _).1.symm
                        replace hM := hM.tr (hs.mono (by decide))
                        have f_101 : h_100.2.1 x 68 = x_99 := by rw [eh_100]; exact hx_pi_at _ _ _ _
                        exact join330 x_99 _ _ hL1 h_100 (by omega) (by omega) (by unfold hz_rs hz_bl; (repeat' split) <;> omega) ls hW hT hM f_101 f_6 f_8 fjw88_x_71 fjw279_x_67  (lv_sub hl [0, 1, 2, 3, 4, 5] rfl)
                    · skip
                      refine lv_aload_n hx hb dX10_looks_289 rfl (lv_at hl 2 rfl) ?_
                      refine hk_getr hx hb hts hC_10 hown hW (gx.S hM) tt_10 50 (by decide) rfl kw_1193 ⟨rfl, rfl, rfl⟩ ((hM.o gx trivial rfl).2.trans f_x_50) dX10_looks_290 ?_
                      refine lv_iload_n hx hb dX10_looks_293 rfl (lv_at hl 3 rfl) ?_
                      refine hx_iald hx hb hW hT (gqsv.S hM) tt_85 rfl ⟨by omega, by omega⟩ dX10_looks_294 (fun x_102 ex_102 lx_102 ux_102 => ?_)
                      have ax_102 : x_102 = svf i1.toNatClampNeg := ex_102.trans (congrFun (hx_afS hM gqsv rfl af_qsv) _)
                      obtain rfl : x_14 = x_102 := ex_14.trans ex_102.symm
                      refine lv_iload_n hx hb dX10_looks_295 rfl (lv_at hl 4 rfl) ?_
                      refine hb_icmp_gt (zx := x_14.toInt) (zy := i2.toInt) (tgt := 306) hx hb rfl rfl dX10_looks_296 (by decide) (fun c_103 => ?_) (fun c_103 => ?_)
                      · skip
                        have join330 : ∀ (jw330_x_68 : Int32) (H : Heap) (locs : List Loc) (hL1 : List Nat) (hl1 : hx_h), 0 ≤ jw330_x_68.toInt → jw330_x_68.toInt ≤ 610000 → (jw330_x_68.toInt = hz_rs (svf i1.toInt.toNat).toInt (hz_bl (odf i1.toInt.toNat).toInt (szf i1.toInt.toNat).toInt (gdf i1.toInt.toNat).toInt (owf i1.toInt.toNat).toInt (R 12) i2.toInt (hx_ps pof pdf psm pkf pst i2.toInt i3.toInt i1.toInt pm0.toInt.toNat)) i2.toInt) → ∀ (ls : Array Slot), hx_W T_tb (P_ty dA) (dC, dI) vwCl (hx_A L sz) s.heap hL1 hl1 s H locs → hx_T T_tb hL1 hl1 → hx_S T_tb [(10, 67), (10, 68), (10, 69), (10, 70), (10, 71)] L h hL1 hl1 → hl1.2.1 x 68 = jw330_x_68 → hl1.2.1 x 69 = (0 : Int32) → hl1.2.1 x 70 = (0 : Int32) → hl1.2.1 x 71 = jw88_x_71 → hl1.2.1 x 67 = jw279_x_67 → lv_has ls 9 [(5, .int jv279_5), (4, .int jv136_4), (0, .ref x), (1, .int i1), (2, .int i2), (3, .int i3)] → W p l e ({ frames := 1, cells := 0, slots := 0, locals := 22 }) s m ([.ref x, .int i1, .int i2, .int i3] : List Value).toArray below meth c H locs 0 0 (MQ below (va_Qv (fun (u : List Nat × hx_h) => (∃ (pd1 : Int32) (rs1 : Int32) (ov1 : Int32) (ms1 : Int32) (st1 : Int32), u.2.2.1 x 67 = pd1 ∧ u.2.2.1 x 68 = rs1 ∧ u.2.2.1 x 69 = ov1 ∧ u.2.2.1 x 70 = ms1 ∧ u.2.2.1 x 71 = st1 ∧ (pd1.toInt = hz_pdy (odf i1.toInt.toNat).toInt (szf i1.toInt.toNat).toInt (gdf i1.toInt.toNat).toInt i2.toInt (hx_ps pof pdf psm pkf pst i2.toInt i3.toInt i1.toInt pm0.toInt.toNat) ∧ rs1.toInt = hz_rs (svf i1.toInt.toNat).toInt (hz_bl (odf i1.toInt.toNat).toInt (szf i1.toInt.toNat).toInt (gdf i1.toInt.toNat).toInt (owf i1.toInt.toNat).toInt (R 12) i2.toInt (hx_ps pof pdf psm pkf pst i2.toInt i3.toInt i1.toInt pm0.toInt.toNat)) i2.toInt ∧ ov1.toInt = hz_ov (svf i1.toInt.toNat).toInt (hz_bl (odf i1.toInt.toNat).toInt (szf i1.toInt.toNat).toInt (gdf i1.toInt.toNat).toInt (owf i1.toInt.toNat).toInt (R 12) i2.toInt (hx_ps pof pdf psm pkf pst i2.toInt i3.toInt i1.toInt pm0.toInt.toNat)) i2.toInt ∧ ms1.toInt = hz_ms (odf i1.toInt.toNat).toInt (svf i1.toInt.toNat).toInt (wkf i1.toInt.toNat).toInt (hz_al (owf i1.toInt.toNat).toInt (szf i1.toInt.toNat).toInt (R 12) i2.toInt) (hz_pdy (odf i1.toInt.toNat).toInt (szf i1.toInt.toNat).toInt (gdf i1.toInt.toNat).toInt i2.toInt (hx_ps pof pdf psm pkf pst i2.toInt i3.toInt i1.toInt pm0.toInt.toNat)) i2.toInt ∧ st1.toInt = hz_st (fof i1.toInt.toNat).toInt (hrf i1.toInt.toNat).toInt (udf i1.toInt.toNat).toInt (odf i1.toInt.toNat).toInt (svf i1.toInt.toNat).toInt (hz_rs (svf i1.toInt.toNat).toInt (hz_bl (odf i1.toInt.toNat).toInt (szf i1.toInt.toNat).toInt (gdf i1.toInt.toNat).toInt (owf i1.toInt.toNat).toInt (R 12) i2.toInt (hx_ps pof pdf psm pkf pst i2.toInt i3.toInt i1.toInt pm0.toInt.toNat)) i2.toInt) (hz_ms (odf i1.toInt.toNat).toInt (svf i1.toInt.toNat).toInt (wkf i1.toInt.toNat).toInt (hz_al (owf i1.toInt.toNat).toInt (szf i1.toInt.toNat).toInt (R 12) i2.toInt) (hz_pdy (odf i1.toInt.toNat).toInt (szf i1.toInt.toNat).toInt (gdf i1.toInt.toNat).toInt i2.toInt (hx_ps pof pdf psm pkf pst i2.toInt i3.toInt i1.toInt pm0.toInt.toNat)) i2.toInt) (R 4) (R 5) i2.toInt)) ∧ hx_T T_tb u.1 u.2 ∧ hx_S T_tb [(10, 67), (10, 68), (10, 69), (10, 70), (10, 71)] L h u.1 u.2) (hx_E T_tb (P_ty dA) (dC, dI) vwCl (hx_A L sz)) (hx_A L sz)) ([.ref x, .int i1, .int i2, .int i3] : List Value).toArray s 0 0 (hx_A L sz)) (F0 m 330 ls []) := by
                          intro jw330_x_68 H locs hL1 hl1 bljw330_x_68 bujw330_x_68 vj330_0 ls hW hT hM fjw330_x_68 f_6 f_8 fjw88_x_71 fjw279_x_67  hl
                          have join354 : ∀ (jw354_x_69 : Int32) (H : Heap) (locs : List Loc) (hL1 : List Nat) (hl1 : hx_h), -2147483648 ≤ jw354_x_69.toInt → jw354_x_69.toInt ≤ 2147483647 → (jw354_x_69.toInt = hz_ov (svf i1.toInt.toNat).toInt (hz_bl (odf i1.toInt.toNat).toInt (szf i1.toInt.toNat).toInt (gdf i1.toInt.toNat).toInt (owf i1.toInt.toNat).toInt (R 12) i2.toInt (hx_ps pof pdf psm pkf pst i2.toInt i3.toInt i1.toInt pm0.toInt.toNat)) i2.toInt) → ∀ (ls : Array Slot), hx_W T_tb (P_ty dA) (dC, dI) vwCl (hx_A L sz) s.heap hL1 hl1 s H locs → hx_T T_tb hL1 hl1 → hx_S T_tb [(10, 67), (10, 68), (10, 69), (10, 70), (10, 71)] L h hL1 hl1 → hl1.2.1 x 69 = jw354_x_69 → hl1.2.1 x 70 = (0 : Int32) → hl1.2.1 x 71 = jw88_x_71 → hl1.2.1 x 67 = jw279_x_67 → hl1.2.1 x 68 = jw330_x_68 → lv_has ls 9 [(5, .int jv279_5), (4, .int jv136_4), (0, .ref x), (1, .int i1), (2, .int i2), (3, .int i3)] → W p l e ({ frames := 1, cells := 0, slots := 0, locals := 22 }) s m ([.ref x, .int i1, .int i2, .int i3] : List Value).toArray below meth c H locs 0 0 (MQ below (va_Qv (fun (u : List Nat × hx_h) => (∃ (pd1 : Int32) (rs1 : Int32) (ov1 : Int32) (ms1 : Int32) (st1 : Int32), u.2.2.1 x 67 = pd1 ∧ u.2.2.1 x 68 = rs1 ∧ u.2.2.1 x 69 = ov1 ∧ u.2.2.1 x 70 = ms1 ∧ u.2.2.1 x 71 = st1 ∧ (pd1.toInt = hz_pdy (odf i1.toInt.toNat).toInt (szf i1.toInt.toNat).toInt (gdf i1.toInt.toNat).toInt i2.toInt (hx_ps pof pdf psm pkf pst i2.toInt i3.toInt i1.toInt pm0.toInt.toNat) ∧ rs1.toInt = hz_rs (svf i1.toInt.toNat).toInt (hz_bl (odf i1.toInt.toNat).toInt (szf i1.toInt.toNat).toInt (gdf i1.toInt.toNat).toInt (owf i1.toInt.toNat).toInt (R 12) i2.toInt (hx_ps pof pdf psm pkf pst i2.toInt i3.toInt i1.toInt pm0.toInt.toNat)) i2.toInt ∧ ov1.toInt = hz_ov (svf i1.toInt.toNat).toInt (hz_bl (odf i1.toInt.toNat).toInt (szf i1.toInt.toNat).toInt (gdf i1.toInt.toNat).toInt (owf i1.toInt.toNat).toInt (R 12) i2.toInt (hx_ps pof pdf psm pkf pst i2.toInt i3.toInt i1.toInt pm0.toInt.toNat)) i2.toInt ∧ ms1.toInt = hz_ms (odf i1.toInt.toNat).toInt (svf i1.toInt.toNat).toInt (wkf i1.toInt.toNat).toInt (hz_al (owf i1.toInt.toNat).toInt (szf i1.toInt.toNat).toInt (R 12) i2.toInt) (hz_pdy (odf i1.toInt.toNat).toInt (szf i1.toInt.toNat).toInt (gdf i1.toInt.toNat).toInt i2.toInt (hx_ps pof pdf psm pkf pst i2.toInt i3.toInt i1.toInt pm0.toInt.toNat)) i2.toInt ∧ st1.toInt = hz_st (fof i1.toInt.toNat).toInt (hrf i1.toInt.toNat).toInt (udf i1.toInt.toNat).toInt (odf i1.toInt.toNat).toInt (svf i1.toInt.toNat).toInt (hz_rs (svf i1.toInt.toNat).toInt (hz_bl (odf i1.toInt.toNat).toInt (szf i1.toInt.toNat).toInt (gdf i1.toInt.toNat).toInt (owf i1.toInt.toNat).toInt (R 12) i2.toInt (hx_ps pof pdf psm pkf pst i2.toInt i3.toInt i1.toInt pm0.toInt.toNat)) i2.toInt) (hz_ms (odf i1.toInt.toNat).toInt (svf i1.toInt.toNat).toInt (wkf i1.toInt.toNat).toInt (hz_al (owf i1.toInt.toNat).toInt (szf i1.toInt.toNat).toInt (R 12) i2.toInt) (hz_pdy (odf i1.toInt.toNat).toInt (szf i1.toInt.toNat).toInt (gdf i1.toInt.toNat).toInt i2.toInt (hx_ps pof pdf psm pkf pst i2.toInt i3.toInt i1.toInt pm0.toInt.toNat)) i2.toInt) (R 4) (R 5) i2.toInt)) ∧ hx_T T_tb u.1 u.2 ∧ hx_S T_tb [(10, 67), (10, 68), (10, 69), (10, 70), (10, 71)] L h u.1 u.2) (hx_E T_tb (P_ty dA) (dC, dI) vwCl (hx_A L sz)) (hx_A L sz)) ([.ref x, .int i1, .int i2, .int i3] : List Value).toArray s 0 0 (hx_A L sz)) (F0 m 354 ls []) := by
                            intro jw354_x_69 H locs hL1 hl1 bljw354_x_69 bujw354_x_69 vj354_0 ls hW hT hM fjw354_x_69 f_8 fjw88_x_71 fjw279_x_67 fjw330_x_68  hl
                            have join437 : ∀ (jw437_x_70 : Int32) (H : Heap) (locs : List Loc) (hL1 : List Nat) (hl1 : hx_h), -2147483648 ≤ jw437_x_70.toInt → jw437_x_70.toInt ≤ 2147483647 → (jw437_x_70.toInt = hz_ms (odf i1.toInt.toNat).toInt (svf i1.toInt.toNat).toInt (wkf i1.toInt.toNat).toInt (hz_al (owf i1.toInt.toNat).toInt (szf i1.toInt.toNat).toInt (R 12) i2.toInt) (hz_pdy (odf i1.toInt.toNat).toInt (szf i1.toInt.toNat).toInt (gdf i1.toInt.toNat).toInt i2.toInt (hx_ps pof pdf psm pkf pst i2.toInt i3.toInt i1.toInt pm0.toInt.toNat)) i2.toInt) → ∀ (ls : Array Slot), hx_W T_tb (P_ty dA) (dC, dI) vwCl (hx_A L sz) s.heap hL1 hl1 s H locs → hx_T T_tb hL1 hl1 → hx_S T_tb [(10, 67), (10, 68), (10, 69), (10, 70), (10, 71)] L h hL1 hl1 → hl1.2.1 x 70 = jw437_x_70 → hl1.2.1 x 71 = jw88_x_71 → hl1.2.1 x 67 = jw279_x_67 → hl1.2.1 x 68 = jw330_x_68 → hl1.2.1 x 69 = jw354_x_69 → lv_has ls 9 [(5, .int jv279_5), (4, .int jv136_4), (0, .ref x), (1, .int i1), (2, .int i2), (3, .int i3)] → W p l e ({ frames := 1, cells := 0, slots := 0, locals := 22 }) s m ([.ref x, .int i1, .int i2, .int i3] : List Value).toArray below meth c H locs 0 0 (MQ below (va_Qv (fun (u : List Nat × hx_h) => (∃ (pd1 : Int32) (rs1 : Int32) (ov1 : Int32) (ms1 : Int32) (st1 : Int32), u.2.2.1 x 67 = pd1 ∧ u.2.2.1 x 68 = rs1 ∧ u.2.2.1 x 69 = ov1 ∧ u.2.2.1 x 70 = ms1 ∧ u.2.2.1 x 71 = st1 ∧ (pd1.toInt = hz_pdy (odf i1.toInt.toNat).toInt (szf i1.toInt.toNat).toInt (gdf i1.toInt.toNat).toInt i2.toInt (hx_ps pof pdf psm pkf pst i2.toInt i3.toInt i1.toInt pm0.toInt.toNat) ∧ rs1.toInt = hz_rs (svf i1.toInt.toNat).toInt (hz_bl (odf i1.toInt.toNat).toInt (szf i1.toInt.toNat).toInt (gdf i1.toInt.toNat).toInt (owf i1.toInt.toNat).toInt (R 12) i2.toInt (hx_ps pof pdf psm pkf pst i2.toInt i3.toInt i1.toInt pm0.toInt.toNat)) i2.toInt ∧ ov1.toInt = hz_ov (svf i1.toInt.toNat).toInt (hz_bl (odf i1.toInt.toNat).toInt (szf i1.toInt.toNat).toInt (gdf i1.toInt.toNat).toInt (owf i1.toInt.toNat).toInt (R 12) i2.toInt (hx_ps pof pdf psm pkf pst i2.toInt i3.toInt i1.toInt pm0.toInt.toNat)) i2.toInt ∧ ms1.toInt = hz_ms (odf i1.toInt.toNat).toInt (svf i1.toInt.toNat).toInt (wkf i1.toInt.toNat).toInt (hz_al (owf i1.toInt.toNat).toInt (szf i1.toInt.toNat).toInt (R 12) i2.toInt) (hz_pdy (odf i1.toInt.toNat).toInt (szf i1.toInt.toNat).toInt (gdf i1.toInt.toNat).toInt i2.toInt (hx_ps pof pdf psm pkf pst i2.toInt i3.toInt i1.toInt pm0.toInt.toNat)) i2.toInt ∧ st1.toInt = hz_st (fof i1.toInt.toNat).toInt (hrf i1.toInt.toNat).toInt (udf i1.toInt.toNat).toInt (odf i1.toInt.toNat).toInt (svf i1.toInt.toNat).toInt (hz_rs (svf i1.toInt.toNat).toInt (hz_bl (odf i1.toInt.toNat).toInt (szf i1.toInt.toNat).toInt (gdf i1.toInt.toNat).toInt (owf i1.toInt.toNat).toInt (R 12) i2.toInt (hx_ps pof pdf psm pkf pst i2.toInt i3.toInt i1.toInt pm0.toInt.toNat)) i2.toInt) (hz_ms (odf i1.toInt.toNat).toInt (svf i1.toInt.toNat).toInt (wkf i1.toInt.toNat).toInt (hz_al (owf i1.toInt.toNat).toInt (szf i1.toInt.toNat).toInt (R 12) i2.toInt) (hz_pdy (odf i1.toInt.toNat).toInt (szf i1.toInt.toNat).toInt (gdf i1.toInt.toNat).toInt i2.toInt (hx_ps pof pdf psm pkf pst i2.toInt i3.toInt i1.toInt pm0.toInt.toNat)) i2.toInt) (R 4) (R 5) i2.toInt)) ∧ hx_T T_tb u.1 u.2 ∧ hx_S T_tb [(10, 67), (10, 68), (10, 69), (10, 70), (10, 71)] L h u.1 u.2) (hx_E T_tb (P_ty dA) (dC, dI) vwCl (hx_A L sz)) (hx_A L sz)) ([.ref x, .int i1, .int i2, .int i3] : List Value).toArray s 0 0 (hx_A L sz)) (F0 m 437 ls []) := by
                              intro jw437_x_70 H locs hL1 hl1 bljw437_x_70 bujw437_x_70 vj437_0 ls hW hT hM fjw437_x_70 fjw88_x_71 fjw279_x_67 fjw330_x_68 fjw354_x_69  hl
                              refine lv_aload_n hx hb dX10_looks_437 rfl (lv_at hl 2 rfl) ?_
                              refine lv_aload_n hx hb dX10_looks_438 rfl (lv_at hl 2 rfl) ?_
                              refine hk_getr hx hb hts hC_10 hown hW (gx.S hM) tt_10 44 (by decide) rfl kw_1187 ⟨rfl, rfl, rfl⟩ ((hM.o gx trivial rfl).2.trans f_x_44) dX10_looks_439 ?_
                              refine lv_iload_n hx hb dX10_looks_442 rfl (lv_at hl 3 rfl) ?_
                              refine hx_iald hx hb hW hT (gqpl.S hM) tt_79 rfl ⟨by omega, by omega⟩ dX10_looks_443 (fun x_104 ex_104 lx_104 ux_104 => ?_)
                              have ax_104 : x_104 = plf i1.toNatClampNeg := ex_104.trans (congrFun (hx_afS hM gqpl rfl af_qpl) _)
                              refine lv_iconst (v := 4) hx hb dX10_looks_444 (by decide) ?_
                              have zc_4 : (4 : Int32).toInt = 4 := by decide
                              refine hx_goi (hx_runV (As := [.int x_104, .int (4 : Int32)]) (rest := []) ⟨hx, hb, hml, hown, hts⟩ hW (gx.S hM) tt_10 (T := TX10) (N := 98) rfl (t_X10_ruleOf_v l dC dI dA hL1 hl1 H.size x x_104 (4 : Int32) hT (gx.S hM) qru (gqru.S hM) ((hM.o gx trivial rfl).2.trans f_x_3) rlf (hx_afS hM gqru rfl af_qru) ⟨by omega, by omega⟩ (by decide)) (cwV 2 hts (hx_gV kw_1533 kw_1530 kw_1532 kw_66 kw_103) rfl rfl rfl (by decide +kernel) ⟨Nat.le_of_ble_eq_true rfl, Nat.le_of_ble_eq_true rfl⟩) rfl hl.1 rfl (Nat.le_of_ble_eq_true rfl) dX10_looks_445 ⟨Nat.le_of_ble_eq_true rfl, Nat.le_of_ble_eq_true rfl⟩) hW (fun r_107 L_105 h_106 H locs p_108 hW => ?_)
                              obtain ⟨hr_109, hT, hs⟩ := p_108
                              replace hT : hx_T T_tb L_105 h_106 := hT
                              replace hs : hx_S T_tb [] hL1 hl1 L_105 h_106 := hs
                              replace fjw88_x_71 := (hs.o (gx.S hM) trivial rfl).1.trans fjw88_x_71
                              replace fjw279_x_67 := (hs.o (gx.S hM) trivial rfl).1.trans fjw279_x_67
                              replace fjw330_x_68 := (hs.o (gx.S hM) trivial rfl).1.trans fjw330_x_68
                              replace fjw354_x_69 := (hs.o (gx.S hM) trivial rfl).1.trans fjw354_x_69
                              replace fjw437_x_70 := (hs.o (gx.S hM) trivial rfl).1.trans fjw437_x_70
                              replace ex_104 := ex_104.trans (hs.a (gqpl.S hM) rfl _).1.symm
                              replace hM := hM.tr (hs.mono (by decide))
                              have hR_110 : r_107.toInt = R 4 := by rw [hr_109.1, ax_104, show (4 : Int32).toInt.toNat = 4 from by decide]; exact hRr 4 (by decide)
                              refine lv_istore (lv' := [(8, .int r_107), (5, .int jv279_5), (4, .int jv136_4), (0, .ref x), (1, .int i1), (2, .int i2), (3, .int i3)]) hx hb dX10_looks_448 hl (by decide) rfl (fun ls hl => ?_)
                              refine lv_aload_n hx hb dX10_looks_450 rfl (lv_at hl 3 rfl) ?_
                              refine lv_aload_n hx hb dX10_looks_451 rfl (lv_at hl 3 rfl) ?_
                              refine hk_geti hx hb hts hC_10 hown hW (gx.S hM) tt_10 68 (by decide) rfl kw_1211 ⟨rfl, rfl, rfl⟩ fjw330_x_68 dX10_looks_452 ?_
                              refine hb_if_ne (zx := jw330_x_68.toInt) (tgt := 463) hx hb rfl dX10_looks_455 (by decide) (fun c_111 => ?_) (fun c_111 => ?_)
                              · skip
                                refine lv_aload_n hx hb dX10_looks_463 rfl (lv_at hl 3 rfl) ?_
                                refine hk_geti hx hb hts hC_10 hown hW (gx.S hM) tt_10 70 (by decide) rfl kw_1213 ⟨rfl, rfl, rfl⟩ fjw437_x_70 dX10_looks_464 ?_
                                refine lv_iload hx hb dX10_looks_467 (lv_at hl 0 rfl) ?_
                                refine lv_aload_n hx hb dX10_looks_469 rfl (lv_at hl 3 rfl) ?_
                                refine lv_aload_n hx hb dX10_looks_470 rfl (lv_at hl 3 rfl) ?_
                                refine hk_getr hx hb hts hC_10 hown hW (gx.S hM) tt_10 44 (by decide) rfl kw_1187 ⟨rfl, rfl, rfl⟩ ((hM.o gx trivial rfl).2.trans f_x_44) dX10_looks_471 ?_
                                refine lv_iload_n hx hb dX10_looks_474 rfl (lv_at hl 4 rfl) ?_
                                refine hx_iald hx hb hW hT (gqpl.S hM) tt_79 rfl ⟨by omega, by omega⟩ dX10_looks_475 (fun x_112 ex_112 lx_112 ux_112 => ?_)
                                have ax_112 : x_112 = plf i1.toNatClampNeg := ex_112.trans (congrFun (hx_afS hM gqpl rfl af_qpl) _)
                                obtain rfl : x_104 = x_112 := ex_104.trans ex_112.symm
                                refine lv_iconst (v := 5) hx hb dX10_looks_476 (by decide) ?_
                                have zc_5 : (5 : Int32).toInt = 5 := by decide
                                refine hx_goi (hx_runV (As := [.int x_104, .int (5 : Int32)]) (rest := [.int r_107, .int jw437_x_70, .ref x]) ⟨hx, hb, hml, hown, hts⟩ hW (gx.S hM) tt_10 (T := TX10) (N := 98) rfl (t_X10_ruleOf_v l dC dI dA L_105 h_106 H.size x x_104 (5 : Int32) hT (gx.S hM) qru (gqru.S hM) ((hM.o gx trivial rfl).2.trans f_x_3) rlf (hx_afS hM gqru rfl af_qru) ⟨by omega, by omega⟩ (by decide)) (cwV 2 hts (hx_gV kw_1533 kw_1530 kw_1532 kw_66 kw_103) rfl rfl rfl (by decide +kernel) ⟨Nat.le_of_ble_eq_true rfl, Nat.le_of_ble_eq_true rfl⟩) rfl hl.1 rfl (Nat.le_of_ble_eq_true rfl) dX10_looks_477 ⟨Nat.le_of_ble_eq_true rfl, Nat.le_of_ble_eq_true rfl⟩) hW (fun r_115 L_113 h_114 H locs p_116 hW => ?_)
                                obtain ⟨hr_117, hT, hs⟩ := p_116
                                replace hT : hx_T T_tb L_113 h_114 := hT
                                replace hs : hx_S T_tb [] L_105 h_106 L_113 h_114 := hs
                                replace fjw88_x_71 := (hs.o (gx.S hM) trivial rfl).1.trans fjw88_x_71
                                replace fjw279_x_67 := (hs.o (gx.S hM) trivial rfl).1.trans fjw279_x_67
                                replace fjw330_x_68 := (hs.o (gx.S hM) trivial rfl).1.trans fjw330_x_68
                                replace fjw354_x_69 := (hs.o (gx.S hM) trivial rfl).1.trans fjw354_x_69
                                replace fjw437_x_70 := (hs.o (gx.S hM) trivial rfl).1.trans fjw437_x_70
                                replace ex_104 := ex_104.trans (hs.a (gqpl.S hM) rfl _).1.symm
                                replace hM := hM.tr (hs.mono (by decide))
                                have hR_118 : r_115.toInt = R 5 := by rw [hr_117.1, ax_104, show (5 : Int32).toInt.toNat = 5 from by decide]; exact hRr 5 (by decide)
                                refine lv_iadd hx hb dX10_looks_480 ?_
                                have rg_119 := i32_r r_107
                                have rg_120 := i32_r r_115
                                refine lv_topi (fun x_121 ex_121 => ?_)
                                have zx_121 : x_121.toInt = r_107.toInt + r_115.toInt := by rw [ex_121]; exact i32_add rfl rfl (by omega) (by omega)
                                refine hb_icmp_lt (zx := jw437_x_70.toInt) (zy := x_121.toInt) (tgt := 489) hx hb rfl rfl dX10_looks_481 (by decide) (fun c_122 => ?_) (fun c_122 => ?_)
                                · skip
                                  refine lv_aload_n hx hb dX10_looks_489 rfl (lv_at hl 3 rfl) ?_
                                  refine hk_geti hx hb hts hC_10 hown hW (gx.S hM) tt_10 70 (by decide) rfl kw_1213 ⟨rfl, rfl, rfl⟩ fjw437_x_70 dX10_looks_490 ?_
                                  refine lv_iload hx hb dX10_looks_493 (lv_at hl 0 rfl) ?_
                                  refine hb_icmp_lt (zx := jw437_x_70.toInt) (zy := r_107.toInt) (tgt := 502) hx hb rfl rfl dX10_looks_495 (by decide) (fun c_123 => ?_) (fun c_123 => ?_)
                                  · skip
                                    refine lv_iconst (v := 4) hx hb dX10_looks_502 (by decide) ?_
                                    refine hx_puti hx hb hts hC_10 hown hW hT (hx_S.rf (M := [(10, 71)])) (gx.S hM) tt_10 71 (by decide) rfl kw_1214 ⟨rfl, rfl, rfl⟩ rfl (x := (4 : Int32)) (by decide) rfl rfl rfl (List.mem_singleton.mpr rfl) dX10_looks_503 (fun H locs h_124 eh_124 hW hT hs => ?_)
                                    replace fjw279_x_67 := (hs.o (gx.S hM) trivial rfl).1.trans fjw279_x_67
                                    replace fjw330_x_68 := (hs.o (gx.S hM) trivial rfl).1.trans fjw330_x_68
                                    replace fjw354_x_69 := (hs.o (gx.S hM) trivial rfl).1.trans fjw354_x_69
                                    replace fjw437_x_70 := (hs.o (gx.S hM) trivial rfl).1.trans fjw437_x_70
                                    replace ex_104 := ex_104.trans (hs.a (gqpl.S hM) rfl _).1.symm
                                    replace hM := hM.tr (hs.mono (by decide))
                                    have f_125 : h_124.2.1 x 71 = (4 : Int32) := by rw [eh_124]; exact hx_pi_at _ _ _ _
                                    have zo_4 : (4 : Int32).toInt = 4 := by decide
                                    exact hx_retv hx hb hr hlk hW ⟨⟨jw279_x_67, jw330_x_68, jw354_x_69, jw437_x_70, (4 : Int32), fjw279_x_67, fjw330_x_68, fjw354_x_69, fjw437_x_70, f_125, (by have zr_4 : (4 : Int32).toInt = 4 := (by decide); exact ⟨(by omega), (by omega), (by omega), (by omega), (by unfold hz_st; rw [if_neg (by omega), if_neg (by omega)]; rw [← hR_110]; rw [← hR_118]; (repeat' split) <;> omega)⟩)⟩, hT, hM⟩ dX10_looks_506
                                  · skip
                                    refine lv_iconst (v := 5) hx hb dX10_looks_498 (by decide) ?_
                                    refine lv_goto (tgt := 503) hx hb dX10_looks_499 (by decide) ?_
                                    refine hx_puti hx hb hts hC_10 hown hW hT (hx_S.rf (M := [(10, 71)])) (gx.S hM) tt_10 71 (by decide) rfl kw_1214 ⟨rfl, rfl, rfl⟩ rfl (x := (5 : Int32)) (by decide) rfl rfl rfl (List.mem_singleton.mpr rfl) dX10_looks_503 (fun H locs h_126 eh_126 hW hT hs => ?_)
                                    replace fjw279_x_67 := (hs.o (gx.S hM) trivial rfl).1.trans fjw279_x_67
                                    replace fjw330_x_68 := (hs.o (gx.S hM) trivial rfl).1.trans fjw330_x_68
                                    replace fjw354_x_69 := (hs.o (gx.S hM) trivial rfl).1.trans fjw354_x_69
                                    replace fjw437_x_70 := (hs.o (gx.S hM) trivial rfl).1.trans fjw437_x_70
                                    replace ex_104 := ex_104.trans (hs.a (gqpl.S hM) rfl _).1.symm
                                    replace hM := hM.tr (hs.mono (by decide))
                                    have f_127 : h_126.2.1 x 71 = (5 : Int32) := by rw [eh_126]; exact hx_pi_at _ _ _ _
                                    have zo_5 : (5 : Int32).toInt = 5 := by decide
                                    exact hx_retv hx hb hr hlk hW ⟨⟨jw279_x_67, jw330_x_68, jw354_x_69, jw437_x_70, (5 : Int32), fjw279_x_67, fjw330_x_68, fjw354_x_69, fjw437_x_70, f_127, (by have zr_5 : (5 : Int32).toInt = 5 := (by decide); exact ⟨(by omega), (by omega), (by omega), (by omega), (by unfold hz_st; rw [if_neg (by omega), if_neg (by omega)]; rw [← hR_110]; rw [← hR_118]; (repeat' split) <;> omega)⟩)⟩, hT, hM⟩ dX10_looks_506
                                · skip
                                  refine lv_bipush (v := 6) hx hb dX10_looks_484 (by decide) ?_
                                  refine lv_goto (tgt := 503) hx hb dX10_looks_486 (by decide) ?_
                                  refine hx_puti hx hb hts hC_10 hown hW hT (hx_S.rf (M := [(10, 71)])) (gx.S hM) tt_10 71 (by decide) rfl kw_1214 ⟨rfl, rfl, rfl⟩ rfl (x := (6 : Int32)) (by decide) rfl rfl rfl (List.mem_singleton.mpr rfl) dX10_looks_503 (fun H locs h_128 eh_128 hW hT hs => ?_)
                                  replace fjw279_x_67 := (hs.o (gx.S hM) trivial rfl).1.trans fjw279_x_67
                                  replace fjw330_x_68 := (hs.o (gx.S hM) trivial rfl).1.trans fjw330_x_68
                                  replace fjw354_x_69 := (hs.o (gx.S hM) trivial rfl).1.trans fjw354_x_69
                                  replace fjw437_x_70 := (hs.o (gx.S hM) trivial rfl).1.trans fjw437_x_70
                                  replace ex_104 := ex_104.trans (hs.a (gqpl.S hM) rfl _).1.symm
                                  replace hM := hM.tr (hs.mono (by decide))
                                  have f_129 : h_128.2.1 x 71 = (6 : Int32) := by rw [eh_128]; exact hx_pi_at _ _ _ _
                                  have zo_6 : (6 : Int32).toInt = 6 := by decide
                                  exact hx_retv hx hb hr hlk hW ⟨⟨jw279_x_67, jw330_x_68, jw354_x_69, jw437_x_70, (6 : Int32), fjw279_x_67, fjw330_x_68, fjw354_x_69, fjw437_x_70, f_129, (by have zr_6 : (6 : Int32).toInt = 6 := (by decide); exact ⟨(by omega), (by omega), (by omega), (by omega), (by unfold hz_st; rw [if_neg (by omega), if_neg (by omega)]; rw [← hR_110]; rw [← hR_118]; (repeat' split) <;> omega)⟩)⟩, hT, hM⟩ dX10_looks_506
                              · skip
                                refine lv_bipush (v := 7) hx hb dX10_looks_458 (by decide) ?_
                                refine lv_goto (tgt := 503) hx hb dX10_looks_460 (by decide) ?_
                                refine hx_puti hx hb hts hC_10 hown hW hT (hx_S.rf (M := [(10, 71)])) (gx.S hM) tt_10 71 (by decide) rfl kw_1214 ⟨rfl, rfl, rfl⟩ rfl (x := (7 : Int32)) (by decide) rfl rfl rfl (List.mem_singleton.mpr rfl) dX10_looks_503 (fun H locs h_130 eh_130 hW hT hs => ?_)
                                replace fjw279_x_67 := (hs.o (gx.S hM) trivial rfl).1.trans fjw279_x_67
                                replace fjw330_x_68 := (hs.o (gx.S hM) trivial rfl).1.trans fjw330_x_68
                                replace fjw354_x_69 := (hs.o (gx.S hM) trivial rfl).1.trans fjw354_x_69
                                replace fjw437_x_70 := (hs.o (gx.S hM) trivial rfl).1.trans fjw437_x_70
                                replace ex_104 := ex_104.trans (hs.a (gqpl.S hM) rfl _).1.symm
                                replace hM := hM.tr (hs.mono (by decide))
                                have f_131 : h_130.2.1 x 71 = (7 : Int32) := by rw [eh_130]; exact hx_pi_at _ _ _ _
                                have zo_7 : (7 : Int32).toInt = 7 := by decide
                                exact hx_retv hx hb hr hlk hW ⟨⟨jw279_x_67, jw330_x_68, jw354_x_69, jw437_x_70, (7 : Int32), fjw279_x_67, fjw330_x_68, fjw354_x_69, fjw437_x_70, f_131, (by have zr_7 : (7 : Int32).toInt = 7 := (by decide); exact ⟨(by omega), (by omega), (by omega), (by omega), (by unfold hz_st; rw [if_neg (by omega), if_neg (by omega)]; rw [← hR_110]; (repeat' split) <;> omega)⟩)⟩, hT, hM⟩ dX10_looks_506
                            refine lv_iload_n hx hb dX10_looks_354 rfl (lv_at hl 4 rfl) ?_
                            refine lv_aload_n hx hb dX10_looks_355 rfl (lv_at hl 2 rfl) ?_
                            refine hk_getr hx hb hts hC_10 hown hW (gx.S hM) tt_10 48 (by decide) rfl kw_1191 ⟨rfl, rfl, rfl⟩ ((hM.o gx trivial rfl).2.trans f_x_48) dX10_looks_356 ?_
                            refine lv_iload_n hx hb dX10_looks_359 rfl (lv_at hl 3 rfl) ?_
                            refine hx_iald hx hb hW hT (gqod.S hM) tt_83 rfl ⟨by omega, by omega⟩ dX10_looks_360 (fun x_132 ex_132 lx_132 ux_132 => ?_)
                            have ax_132 : x_132 = odf i1.toNatClampNeg := ex_132.trans (congrFun (hx_afS hM gqod rfl af_qod) _)
                            have sx_132 : x_132.toInt = (odf i1.toInt.toNat).toInt := congrArg Int32.toInt ax_132
                            refine lv_isub hx hb dX10_looks_361 ?_
                            have rg_133 := i32_r i2
                            have rg_134 := i32_r x_132
                            refine lv_topi (fun x_135 ex_135 => ?_)
                            have zx_135 : x_135.toInt = i2.toInt - x_132.toInt := by rw [ex_135]; exact i32_sub rfl rfl (by omega) (by omega)
                            refine lv_bipush (v := 7) hx hb dX10_looks_362 (by decide) ?_
                            refine lv_idiv hx hb dX10_looks_364 (by decide) ?_
                            refine lv_topi (fun x_136 ex_136 => ?_)
                            have zx_136 : x_136.toInt = x_135.toInt / 7 := by rw [ex_136, hx_dv (by omega) (by decide)]; rfl
                            refine lv_istore (lv' := [(6, .int x_136), (5, .int jv279_5), (4, .int jv136_4), (0, .ref x), (1, .int i1), (2, .int i2), (3, .int i3)]) hx hb dX10_looks_365 hl (by decide) rfl (fun ls hl => ?_)
                            refine lv_aload_n hx hb dX10_looks_367 rfl (lv_at hl 3 rfl) ?_
                            refine hk_getr hx hb hts hC_10 hown hW (gx.S hM) tt_10 54 (by decide) rfl kw_1197 ⟨rfl, rfl, rfl⟩ ((hM.o gx trivial rfl).2.trans f_x_54) dX10_looks_368 ?_
                            refine lv_iload_n hx hb dX10_looks_371 rfl (lv_at hl 4 rfl) ?_
                            refine hx_iald hx hb hW hT (gqwk.S hM) tt_89 rfl ⟨by omega, by omega⟩ dX10_looks_372 (fun x_137 ex_137 lx_137 ux_137 => ?_)
                            have ax_137 : x_137 = wkf i1.toNatClampNeg := ex_137.trans (congrFun (hx_afS hM gqwk rfl af_qwk) _)
                            have sx_137 : x_137.toInt = (wkf i1.toInt.toNat).toInt := congrArg Int32.toInt ax_137
                            refine lv_iload hx hb dX10_looks_373 (lv_at hl 0 rfl) ?_
                            refine lv_imul hx hb dX10_looks_375 ?_
                            refine lv_topi (fun x_138 ex_138 => ?_)
                            have mx_138 : x_137.toInt = 0 → x_138.toInt = 0 := fun z => by rw [ex_138]; exact hx_mul0 z
                            obtain ⟨m9a, m9al, m9ah⟩ := hz_mul ⟨by omega, by omega⟩ ⟨by omega, by omega⟩ ex_138
                            rw [show x_137.toInt = (wkf i1.toInt.toNat).toInt from by omega, show x_136.toInt = (i2.toInt - (odf i1.toInt.toNat).toInt) / 7 from by omega] at m9a
                            refine lv_iload hx hb dX10_looks_376 (lv_at hl 1 rfl) ?_
                            refine hb_icmp_ge (zx := x_138.toInt) (zy := jv279_5.toInt) (tgt := 393) hx hb rfl rfl dX10_looks_378 (by decide) (fun c_139 => ?_) (fun c_139 => ?_)
                            · skip
                              refine lv_iload hx hb dX10_looks_393 (lv_at hl 1 rfl) ?_
                              refine lv_istore (lv' := [(7, .int jv279_5), (6, .int x_136), (5, .int jv279_5), (4, .int jv136_4), (0, .ref x), (1, .int i1), (2, .int i2), (3, .int i3)]) hx hb dX10_looks_395 hl (by decide) rfl (fun ls hl => ?_)
                              have hdu9 : jv279_5.toInt = hz_mi (hz_al (owf i1.toInt.toNat).toInt (szf i1.toInt.toNat).toInt (R 12) i2.toInt) ((wkf i1.toInt.toNat).toInt * ((i2.toInt - (odf i1.toInt.toNat).toInt) / 7)) := by unfold hz_mi; (repeat' split) <;> omega
                              have hpd9 : jw279_x_67.toInt = hz_pdy (odf i1.toInt.toNat).toInt (szf i1.toInt.toNat).toInt (gdf i1.toInt.toNat).toInt i2.toInt (hx_ps pof pdf psm pkf pst i2.toInt i3.toInt i1.toInt pm0.toInt.toNat) := by omega
                              refine lv_aload_n hx hb dX10_looks_397 rfl (lv_at hl 4 rfl) ?_
                              refine lv_iload hx hb dX10_looks_398 (lv_at hl 0 rfl) ?_
                              refine lv_aload_n hx hb dX10_looks_400 rfl (lv_at hl 4 rfl) ?_
                              refine hk_geti hx hb hts hC_10 hown hW (gx.S hM) tt_10 67 (by decide) rfl kw_1210 ⟨rfl, rfl, rfl⟩ fjw279_x_67 dX10_looks_401 ?_
                              refine hb_icmp_le (zx := jv279_5.toInt) (zy := jw279_x_67.toInt) (tgt := 433) hx hb rfl rfl dX10_looks_404 (by decide) (fun c_140 => ?_) (fun c_140 => ?_)
                              · skip
                                refine lv_iconst (v := 0) hx hb dX10_looks_433 (by decide) ?_
                                refine hx_puti hx hb hts hC_10 hown hW hT (hx_S.rf (M := [(10, 70)])) (gx.S hM) tt_10 70 (by decide) rfl kw_1213 ⟨rfl, rfl, rfl⟩ rfl (x := (0 : Int32)) (by decide) rfl rfl rfl (List.mem_singleton.mpr rfl) dX10_looks_434 (fun H locs h_141 eh_141 hW hT hs => ?_)
                                replace fjw88_x_71 := (hs.o (gx.S hM) trivial rfl).1.trans fjw88_x_71
                                replace fjw279_x_67 := (hs.o (gx.S hM) trivial rfl).1.trans fjw279_x_67
                                replace fjw330_x_68 := (hs.o (gx.S hM) trivial rfl).1.trans fjw330_x_68
                                replace fjw354_x_69 := (hs.o (gx.S hM) trivial rfl).1.trans fjw354_x_69
                                replace ex_132 := ex_132.trans (hs.a (gqod.S hM) rfl _).1.symm
                                replace ex_137 := ex_137.trans (hs.a (gqwk.S hM) rfl _).1.symm
                                replace hM := hM.tr (hs.mono (by decide))
                                have f_142 : h_141.2.1 x 70 = (0 : Int32) := by rw [eh_141]; exact hx_pi_at _ _ _ _
                                have zk_0 : (0 : Int32).toInt = 0 := by decide
                                exact join437 (0 : Int32) _ _ hL1 h_141 (by decide) (by decide) (by rw [zk_0]; unfold hz_ms; rw [if_neg (by omega), ← hdu9, ← hpd9]; unfold hz_ru; rw [if_pos (by omega)]) ls hW hT hM f_142 fjw88_x_71 fjw279_x_67 fjw330_x_68 fjw354_x_69  (lv_sub hl [2, 3, 4, 5, 6, 7] rfl)
                              · skip
                                refine lv_iload hx hb dX10_looks_407 (lv_at hl 0 rfl) ?_
                                refine lv_aload_n hx hb dX10_looks_409 rfl (lv_at hl 4 rfl) ?_
                                refine hk_geti hx hb hts hC_10 hown hW (gx.S hM) tt_10 67 (by decide) rfl kw_1210 ⟨rfl, rfl, rfl⟩ fjw279_x_67 dX10_looks_410 ?_
                                refine lv_isub hx hb dX10_looks_413 ?_
                                have rg_143 := i32_r jv279_5
                                have rg_144 := i32_r jw279_x_67
                                refine lv_topi (fun x_145 ex_145 => ?_)
                                have zx_145 : x_145.toInt = jv279_5.toInt - jw279_x_67.toInt := by rw [ex_145]; exact i32_sub rfl rfl (by omega) (by omega)
                                refine lv_aload_n hx hb dX10_looks_414 rfl (lv_at hl 4 rfl) ?_
                                refine hk_getr hx hb hts hC_10 hown hW (gx.S hM) tt_10 54 (by decide) rfl kw_1197 ⟨rfl, rfl, rfl⟩ ((hM.o gx trivial rfl).2.trans f_x_54) dX10_looks_415 ?_
                                refine lv_iload_n hx hb dX10_looks_418 rfl (lv_at hl 5 rfl) ?_
                                refine hx_iald hx hb hW hT (gqwk.S hM) tt_89 rfl ⟨by omega, by omega⟩ dX10_looks_419 (fun x_146 ex_146 lx_146 ux_146 => ?_)
                                have ax_146 : x_146 = wkf i1.toNatClampNeg := ex_146.trans (congrFun (hx_afS hM gqwk rfl af_qwk) _)
                                obtain rfl : x_137 = x_146 := ex_137.trans ex_146.symm
                                refine lv_iadd hx hb dX10_looks_420 ?_
                                have rg_147 := i32_r x_145
                                have rg_148 := i32_r x_137
                                refine lv_topi (fun x_149 ex_149 => ?_)
                                have zx_149 : x_149.toInt = x_145.toInt + x_137.toInt := by rw [ex_149]; exact i32_add rfl rfl (by omega) (by omega)
                                refine lv_iconst (v := 1) hx hb dX10_looks_421 (by decide) ?_
                                refine lv_isub hx hb dX10_looks_422 ?_
                                have rg_150 := i32_r x_149
                                refine lv_topi (fun x_151 ex_151 => ?_)
                                have zx_151 : x_151.toInt = x_149.toInt - 1 := by rw [ex_151]; exact i32_sub rfl (by decide) (by omega) (by omega)
                                refine lv_aload_n hx hb dX10_looks_423 rfl (lv_at hl 4 rfl) ?_
                                refine hk_getr hx hb hts hC_10 hown hW (gx.S hM) tt_10 54 (by decide) rfl kw_1197 ⟨rfl, rfl, rfl⟩ ((hM.o gx trivial rfl).2.trans f_x_54) dX10_looks_424 ?_
                                refine lv_iload_n hx hb dX10_looks_427 rfl (lv_at hl 5 rfl) ?_
                                refine hx_iald hx hb hW hT (gqwk.S hM) tt_89 rfl ⟨by omega, by omega⟩ dX10_looks_428 (fun x_152 ex_152 lx_152 ux_152 => ?_)
                                have ax_152 : x_152 = wkf i1.toNatClampNeg := ex_152.trans (congrFun (hx_afS hM gqwk rfl af_qwk) _)
                                obtain rfl : x_137 = x_152 := ex_137.trans ex_152.symm
                                refine lv_idiv hx hb dX10_looks_429 (hx_ne0 (by omega)) ?_
                                refine lv_topi (fun x_153 ex_153 => ?_)
                                have hru9 : x_153.toInt = hz_ru (jv279_5.toInt - jw279_x_67.toInt) (wkf i1.toInt.toNat).toInt := by rw [ex_153, hx_dv (by omega) (by omega), show x_151.toInt = (jv279_5.toInt - jw279_x_67.toInt) + (wkf i1.toInt.toNat).toInt - 1 from by omega, show x_137.toInt = (wkf i1.toInt.toNat).toInt from by omega]; exact hz_ru_m (by omega) (by omega)
                                refine lv_goto (tgt := 434) hx hb dX10_looks_430 (by decide) ?_
                                refine hx_puti hx hb hts hC_10 hown hW hT (hx_S.rf (M := [(10, 70)])) (gx.S hM) tt_10 70 (by decide) rfl kw_1213 ⟨rfl, rfl, rfl⟩ rfl (x := x_153) (i32_r _) rfl rfl rfl (List.mem_singleton.mpr rfl) dX10_looks_434 (fun H locs h_154 eh_154 hW hT hs => ?_)
                                replace fjw88_x_71 := (hs.o (gx.S hM) trivial rfl).1.trans fjw88_x_71
                                replace fjw279_x_67 := (hs.o (gx.S hM) trivial rfl).1.trans fjw279_x_67
                                replace fjw330_x_68 := (hs.o (gx.S hM) trivial rfl).1.trans fjw330_x_68
                                replace fjw354_x_69 := (hs.o (gx.S hM) trivial rfl).1.trans fjw354_x_69
                                replace ex_132 := ex_132.trans (hs.a (gqod.S hM) rfl _).1.symm
                                replace ex_137 := ex_137.trans (hs.a (gqwk.S hM) rfl _).1.symm
                                replace hM := hM.tr (hs.mono (by decide))
                                have f_155 : h_154.2.1 x 70 = x_153 := by rw [eh_154]; exact hx_pi_at _ _ _ _
                                exact join437 x_153 _ _ hL1 h_154 (i32_r _).1 (i32_r _).2 (by unfold hz_ms; rw [if_neg (by omega), ← hdu9, ← hpd9]; exact hru9) ls hW hT hM f_155 fjw88_x_71 fjw279_x_67 fjw330_x_68 fjw354_x_69  (lv_sub hl [2, 3, 4, 5, 6, 7] rfl)
                            · skip
                              refine lv_aload_n hx hb dX10_looks_381 rfl (lv_at hl 3 rfl) ?_
                              refine hk_getr hx hb hts hC_10 hown hW (gx.S hM) tt_10 54 (by decide) rfl kw_1197 ⟨rfl, rfl, rfl⟩ ((hM.o gx trivial rfl).2.trans f_x_54) dX10_looks_382 ?_
                              refine lv_iload_n hx hb dX10_looks_385 rfl (lv_at hl 4 rfl) ?_
                              refine hx_iald hx hb hW hT (gqwk.S hM) tt_89 rfl ⟨by omega, by omega⟩ dX10_looks_386 (fun x_156 ex_156 lx_156 ux_156 => ?_)
                              have ax_156 : x_156 = wkf i1.toNatClampNeg := ex_156.trans (congrFun (hx_afS hM gqwk rfl af_qwk) _)
                              obtain rfl : x_137 = x_156 := ex_137.trans ex_156.symm
                              refine lv_iload hx hb dX10_looks_387 (lv_at hl 0 rfl) ?_
                              refine lv_imul hx hb dX10_looks_389 ?_
                              refine lv_topi (fun x_157 ex_157 => ?_)
                              have mx_157 : x_137.toInt = 0 → x_157.toInt = 0 := fun z => by rw [ex_157]; exact hx_mul0 z
                              obtain ⟨m9b, m9bl, m9bh⟩ := hz_mul ⟨by omega, by omega⟩ ⟨by omega, by omega⟩ ex_157
                              rw [show x_137.toInt = (wkf i1.toInt.toNat).toInt from by omega, show x_136.toInt = (i2.toInt - (odf i1.toInt.toNat).toInt) / 7 from by omega] at m9b
                              refine lv_goto (tgt := 395) hx hb dX10_looks_390 (by decide) ?_
                              refine lv_istore (lv' := [(7, .int x_157), (6, .int x_136), (5, .int jv279_5), (4, .int jv136_4), (0, .ref x), (1, .int i1), (2, .int i2), (3, .int i3)]) hx hb dX10_looks_395 hl (by decide) rfl (fun ls hl => ?_)
                              have hdu9 : x_157.toInt = hz_mi (hz_al (owf i1.toInt.toNat).toInt (szf i1.toInt.toNat).toInt (R 12) i2.toInt) ((wkf i1.toInt.toNat).toInt * ((i2.toInt - (odf i1.toInt.toNat).toInt) / 7)) := by unfold hz_mi; (repeat' split) <;> omega
                              have hpd9 : jw279_x_67.toInt = hz_pdy (odf i1.toInt.toNat).toInt (szf i1.toInt.toNat).toInt (gdf i1.toInt.toNat).toInt i2.toInt (hx_ps pof pdf psm pkf pst i2.toInt i3.toInt i1.toInt pm0.toInt.toNat) := by omega
                              refine lv_aload_n hx hb dX10_looks_397 rfl (lv_at hl 4 rfl) ?_
                              refine lv_iload hx hb dX10_looks_398 (lv_at hl 0 rfl) ?_
                              refine lv_aload_n hx hb dX10_looks_400 rfl (lv_at hl 4 rfl) ?_
                              refine hk_geti hx hb hts hC_10 hown hW (gx.S hM) tt_10 67 (by decide) rfl kw_1210 ⟨rfl, rfl, rfl⟩ fjw279_x_67 dX10_looks_401 ?_
                              refine hb_icmp_le (zx := x_157.toInt) (zy := jw279_x_67.toInt) (tgt := 433) hx hb rfl rfl dX10_looks_404 (by decide) (fun c_158 => ?_) (fun c_158 => ?_)
                              · skip
                                refine lv_iconst (v := 0) hx hb dX10_looks_433 (by decide) ?_
                                refine hx_puti hx hb hts hC_10 hown hW hT (hx_S.rf (M := [(10, 70)])) (gx.S hM) tt_10 70 (by decide) rfl kw_1213 ⟨rfl, rfl, rfl⟩ rfl (x := (0 : Int32)) (by decide) rfl rfl rfl (List.mem_singleton.mpr rfl) dX10_looks_434 (fun H locs h_159 eh_159 hW hT hs => ?_)
                                replace fjw88_x_71 := (hs.o (gx.S hM) trivial rfl).1.trans fjw88_x_71
                                replace fjw279_x_67 := (hs.o (gx.S hM) trivial rfl).1.trans fjw279_x_67
                                replace fjw330_x_68 := (hs.o (gx.S hM) trivial rfl).1.trans fjw330_x_68
                                replace fjw354_x_69 := (hs.o (gx.S hM) trivial rfl).1.trans fjw354_x_69
                                replace ex_132 := ex_132.trans (hs.a (gqod.S hM) rfl _).1.symm
                                replace ex_137 := ex_137.trans (hs.a (gqwk.S hM) rfl _).1.symm
                                replace hM := hM.tr (hs.mono (by decide))
                                have f_160 : h_159.2.1 x 70 = (0 : Int32) := by rw [eh_159]; exact hx_pi_at _ _ _ _
                                have zk_0 : (0 : Int32).toInt = 0 := by decide
                                exact join437 (0 : Int32) _ _ hL1 h_159 (by decide) (by decide) (by rw [zk_0]; unfold hz_ms; rw [if_neg (by omega), ← hdu9, ← hpd9]; unfold hz_ru; rw [if_pos (by omega)]) ls hW hT hM f_160 fjw88_x_71 fjw279_x_67 fjw330_x_68 fjw354_x_69  (lv_sub hl [2, 3, 4, 5, 6, 7] rfl)
                              · skip
                                refine lv_iload hx hb dX10_looks_407 (lv_at hl 0 rfl) ?_
                                refine lv_aload_n hx hb dX10_looks_409 rfl (lv_at hl 4 rfl) ?_
                                refine hk_geti hx hb hts hC_10 hown hW (gx.S hM) tt_10 67 (by decide) rfl kw_1210 ⟨rfl, rfl, rfl⟩ fjw279_x_67 dX10_looks_410 ?_
                                refine lv_isub hx hb dX10_looks_413 ?_
                                have rg_161 := i32_r x_157
                                have rg_162 := i32_r jw279_x_67
                                refine lv_topi (fun x_163 ex_163 => ?_)
                                have zx_163 : x_163.toInt = x_157.toInt - jw279_x_67.toInt := by rw [ex_163]; exact i32_sub rfl rfl (by omega) (by omega)
                                refine lv_aload_n hx hb dX10_looks_414 rfl (lv_at hl 4 rfl) ?_
                                refine hk_getr hx hb hts hC_10 hown hW (gx.S hM) tt_10 54 (by decide) rfl kw_1197 ⟨rfl, rfl, rfl⟩ ((hM.o gx trivial rfl).2.trans f_x_54) dX10_looks_415 ?_
                                refine lv_iload_n hx hb dX10_looks_418 rfl (lv_at hl 5 rfl) ?_
                                refine hx_iald hx hb hW hT (gqwk.S hM) tt_89 rfl ⟨by omega, by omega⟩ dX10_looks_419 (fun x_164 ex_164 lx_164 ux_164 => ?_)
                                have ax_164 : x_164 = wkf i1.toNatClampNeg := ex_164.trans (congrFun (hx_afS hM gqwk rfl af_qwk) _)
                                obtain rfl : x_137 = x_164 := ex_137.trans ex_164.symm
                                refine lv_iadd hx hb dX10_looks_420 ?_
                                have rg_165 := i32_r x_163
                                have rg_166 := i32_r x_137
                                refine lv_topi (fun x_167 ex_167 => ?_)
                                have zx_167 : x_167.toInt = x_163.toInt + x_137.toInt := by rw [ex_167]; exact i32_add rfl rfl (by omega) (by omega)
                                refine lv_iconst (v := 1) hx hb dX10_looks_421 (by decide) ?_
                                refine lv_isub hx hb dX10_looks_422 ?_
                                have rg_168 := i32_r x_167
                                refine lv_topi (fun x_169 ex_169 => ?_)
                                have zx_169 : x_169.toInt = x_167.toInt - 1 := by rw [ex_169]; exact i32_sub rfl (by decide) (by omega) (by omega)
                                refine lv_aload_n hx hb dX10_looks_423 rfl (lv_at hl 4 rfl) ?_
                                refine hk_getr hx hb hts hC_10 hown hW (gx.S hM) tt_10 54 (by decide) rfl kw_1197 ⟨rfl, rfl, rfl⟩ ((hM.o gx trivial rfl).2.trans f_x_54) dX10_looks_424 ?_
                                refine lv_iload_n hx hb dX10_looks_427 rfl (lv_at hl 5 rfl) ?_
                                refine hx_iald hx hb hW hT (gqwk.S hM) tt_89 rfl ⟨by omega, by omega⟩ dX10_looks_428 (fun x_170 ex_170 lx_170 ux_170 => ?_)
                                have ax_170 : x_170 = wkf i1.toNatClampNeg := ex_170.trans (congrFun (hx_afS hM gqwk rfl af_qwk) _)
                                obtain rfl : x_137 = x_170 := ex_137.trans ex_170.symm
                                refine lv_idiv hx hb dX10_looks_429 (hx_ne0 (by omega)) ?_
                                refine lv_topi (fun x_171 ex_171 => ?_)
                                have hru9 : x_171.toInt = hz_ru (x_157.toInt - jw279_x_67.toInt) (wkf i1.toInt.toNat).toInt := by rw [ex_171, hx_dv (by omega) (by omega), show x_169.toInt = (x_157.toInt - jw279_x_67.toInt) + (wkf i1.toInt.toNat).toInt - 1 from by omega, show x_137.toInt = (wkf i1.toInt.toNat).toInt from by omega]; exact hz_ru_m (by omega) (by omega)
                                refine lv_goto (tgt := 434) hx hb dX10_looks_430 (by decide) ?_
                                refine hx_puti hx hb hts hC_10 hown hW hT (hx_S.rf (M := [(10, 70)])) (gx.S hM) tt_10 70 (by decide) rfl kw_1213 ⟨rfl, rfl, rfl⟩ rfl (x := x_171) (i32_r _) rfl rfl rfl (List.mem_singleton.mpr rfl) dX10_looks_434 (fun H locs h_172 eh_172 hW hT hs => ?_)
                                replace fjw88_x_71 := (hs.o (gx.S hM) trivial rfl).1.trans fjw88_x_71
                                replace fjw279_x_67 := (hs.o (gx.S hM) trivial rfl).1.trans fjw279_x_67
                                replace fjw330_x_68 := (hs.o (gx.S hM) trivial rfl).1.trans fjw330_x_68
                                replace fjw354_x_69 := (hs.o (gx.S hM) trivial rfl).1.trans fjw354_x_69
                                replace ex_132 := ex_132.trans (hs.a (gqod.S hM) rfl _).1.symm
                                replace ex_137 := ex_137.trans (hs.a (gqwk.S hM) rfl _).1.symm
                                replace hM := hM.tr (hs.mono (by decide))
                                have f_173 : h_172.2.1 x 70 = x_171 := by rw [eh_172]; exact hx_pi_at _ _ _ _
                                exact join437 x_171 _ _ hL1 h_172 (i32_r _).1 (i32_r _).2 (by unfold hz_ms; rw [if_neg (by omega), ← hdu9, ← hpd9]; exact hru9) ls hW hT hM f_173 fjw88_x_71 fjw279_x_67 fjw330_x_68 fjw354_x_69  (lv_sub hl [2, 3, 4, 5, 6, 7] rfl)
                          refine lv_aload_n hx hb dX10_looks_330 rfl (lv_at hl 2 rfl) ?_
                          refine lv_aload_n hx hb dX10_looks_331 rfl (lv_at hl 2 rfl) ?_
                          refine hk_geti hx hb hts hC_10 hown hW (gx.S hM) tt_10 67 (by decide) rfl kw_1210 ⟨rfl, rfl, rfl⟩ fjw279_x_67 dX10_looks_332 ?_
                          refine lv_iload hx hb dX10_looks_335 (lv_at hl 0 rfl) ?_
                          refine hb_icmp_le (zx := jw279_x_67.toInt) (zy := jv279_5.toInt) (tgt := 350) hx hb rfl rfl dX10_looks_337 (by decide) (fun c_174 => ?_) (fun c_174 => ?_)
                          · skip
                            refine lv_iconst (v := 0) hx hb dX10_looks_350 (by decide) ?_
                            refine hx_puti hx hb hts hC_10 hown hW hT (hx_S.rf (M := [(10, 69)])) (gx.S hM) tt_10 69 (by decide) rfl kw_1212 ⟨rfl, rfl, rfl⟩ rfl (x := (0 : Int32)) (by decide) rfl rfl rfl (List.mem_singleton.mpr rfl) dX10_looks_351 (fun H locs h_175 eh_175 hW hT hs => ?_)
                            replace f_8 := (hs.o (gx.S hM) trivial rfl).1.trans f_8
                            replace fjw88_x_71 := (hs.o (gx.S hM) trivial rfl).1.trans fjw88_x_71
                            replace fjw279_x_67 := (hs.o (gx.S hM) trivial rfl).1.trans fjw279_x_67
                            replace fjw330_x_68 := (hs.o (gx.S hM) trivial rfl).1.trans fjw330_x_68
                            replace hM := hM.tr (hs.mono (by decide))
                            have f_176 : h_175.2.1 x 69 = (0 : Int32) := by rw [eh_175]; exact hx_pi_at _ _ _ _
                            have zk_0 : (0 : Int32).toInt = 0 := by decide
                            exact join354 (0 : Int32) _ _ hL1 h_175 (by decide) (by decide) (by rw [zk_0]; unfold hz_ov hz_bl; (repeat' split) <;> omega) ls hW hT hM f_176 f_8 fjw88_x_71 fjw279_x_67 fjw330_x_68  (lv_sub hl [0, 1, 2, 3, 4, 5] rfl)
                          · skip
                            refine lv_aload_n hx hb dX10_looks_340 rfl (lv_at hl 2 rfl) ?_
                            refine hk_geti hx hb hts hC_10 hown hW (gx.S hM) tt_10 67 (by decide) rfl kw_1210 ⟨rfl, rfl, rfl⟩ fjw279_x_67 dX10_looks_341 ?_
                            refine lv_iload hx hb dX10_looks_344 (lv_at hl 0 rfl) ?_
                            refine lv_isub hx hb dX10_looks_346 ?_
                            have rg_177 := i32_r jw279_x_67
                            have rg_178 := i32_r jv279_5
                            refine lv_topi (fun x_179 ex_179 => ?_)
                            have zx_179 : x_179.toInt = jw279_x_67.toInt - jv279_5.toInt := by rw [ex_179]; exact i32_sub rfl rfl (by omega) (by omega)
                            refine lv_goto (tgt := 351) hx hb dX10_looks_347 (by decide) ?_
                            refine hx_puti hx hb hts hC_10 hown hW hT (hx_S.rf (M := [(10, 69)])) (gx.S hM) tt_10 69 (by decide) rfl kw_1212 ⟨rfl, rfl, rfl⟩ rfl (x := x_179) (i32_r _) rfl rfl rfl (List.mem_singleton.mpr rfl) dX10_looks_351 (fun H locs h_180 eh_180 hW hT hs => ?_)
                            replace f_8 := (hs.o (gx.S hM) trivial rfl).1.trans f_8
                            replace fjw88_x_71 := (hs.o (gx.S hM) trivial rfl).1.trans fjw88_x_71
                            replace fjw279_x_67 := (hs.o (gx.S hM) trivial rfl).1.trans fjw279_x_67
                            replace fjw330_x_68 := (hs.o (gx.S hM) trivial rfl).1.trans fjw330_x_68
                            replace hM := hM.tr (hs.mono (by decide))
                            have f_181 : h_180.2.1 x 69 = x_179 := by rw [eh_180]; exact hx_pi_at _ _ _ _
                            exact join354 x_179 _ _ hL1 h_180 (i32_r _).1 (i32_r _).2 (by unfold hz_ov hz_bl; (repeat' split) <;> omega) ls hW hT hM f_181 f_8 fjw88_x_71 fjw279_x_67 fjw330_x_68  (lv_sub hl [0, 1, 2, 3, 4, 5] rfl)
                        refine lv_aload_n hx hb dX10_looks_306 rfl (lv_at hl 2 rfl) ?_
                        refine lv_iload hx hb dX10_looks_307 (lv_at hl 0 rfl) ?_
                        refine lv_aload_n hx hb dX10_looks_309 rfl (lv_at hl 2 rfl) ?_
                        refine hk_geti hx hb hts hC_10 hown hW (gx.S hM) tt_10 67 (by decide) rfl kw_1210 ⟨rfl, rfl, rfl⟩ fjw279_x_67 dX10_looks_310 ?_
                        refine hb_icmp_le (zx := jv279_5.toInt) (zy := jw279_x_67.toInt) (tgt := 326) hx hb rfl rfl dX10_looks_313 (by decide) (fun c_182 => ?_) (fun c_182 => ?_)
                        · skip
                          refine lv_iconst (v := 0) hx hb dX10_looks_326 (by decide) ?_
                          refine hx_puti hx hb hts hC_10 hown hW hT (hx_S.rf (M := [(10, 68)])) (gx.S hM) tt_10 68 (by decide) rfl kw_1211 ⟨rfl, rfl, rfl⟩ rfl (x := (0 : Int32)) (by decide) rfl rfl rfl (List.mem_singleton.mpr rfl) dX10_looks_327 (fun H locs h_183 eh_183 hW hT hs => ?_)
                          replace f_6 := (hs.o (gx.S hM) trivial rfl).1.trans f_6
                          replace f_8 := (hs.o (gx.S hM) trivial rfl).1.trans f_8
                          replace fjw88_x_71 := (hs.o (gx.S hM) trivial rfl).1.trans fjw88_x_71
                          replace fjw279_x_67 := (hs.o (gx.S hM) trivial rfl).1.trans fjw279_x_67
                          replace ex_14 := ex_14.trans (hs.a (gqsv.S hM) rfl _).1.symm
                          replace hM := hM.tr (hs.mono (by decide))
                          have f_184 : h_183.2.1 x 68 = (0 : Int32) := by rw [eh_183]; exact hx_pi_at _ _ _ _
                          have zk_0 : (0 : Int32).toInt = 0 := by decide
                          exact join330 (0 : Int32) _ _ hL1 h_183 (by decide) (by decide) (by rw [zk_0]; unfold hz_rs hz_bl; (repeat' split) <;> omega) ls hW hT hM f_184 f_6 f_8 fjw88_x_71 fjw279_x_67  (lv_sub hl [0, 1, 2, 3, 4, 5] rfl)
                        · skip
                          refine lv_iload hx hb dX10_looks_316 (lv_at hl 0 rfl) ?_
                          refine lv_aload_n hx hb dX10_looks_318 rfl (lv_at hl 2 rfl) ?_
                          refine hk_geti hx hb hts hC_10 hown hW (gx.S hM) tt_10 67 (by decide) rfl kw_1210 ⟨rfl, rfl, rfl⟩ fjw279_x_67 dX10_looks_319 ?_
                          refine lv_isub hx hb dX10_looks_322 ?_
                          have rg_185 := i32_r jv279_5
                          have rg_186 := i32_r jw279_x_67
                          refine lv_topi (fun x_187 ex_187 => ?_)
                          have zx_187 : x_187.toInt = jv279_5.toInt - jw279_x_67.toInt := by rw [ex_187]; exact i32_sub rfl rfl (by omega) (by omega)
                          refine lv_goto (tgt := 327) hx hb dX10_looks_323 (by decide) ?_
                          refine hx_puti hx hb hts hC_10 hown hW hT (hx_S.rf (M := [(10, 68)])) (gx.S hM) tt_10 68 (by decide) rfl kw_1211 ⟨rfl, rfl, rfl⟩ rfl (x := x_187) ⟨by omega, by omega⟩ rfl rfl rfl (List.mem_singleton.mpr rfl) dX10_looks_327 (fun H locs h_188 eh_188 hW hT hs => ?_)
                          replace f_6 := (hs.o (gx.S hM) trivial rfl).1.trans f_6
                          replace f_8 := (hs.o (gx.S hM) trivial rfl).1.trans f_8
                          replace fjw88_x_71 := (hs.o (gx.S hM) trivial rfl).1.trans fjw88_x_71
                          replace fjw279_x_67 := (hs.o (gx.S hM) trivial rfl).1.trans fjw279_x_67
                          replace ex_14 := ex_14.trans (hs.a (gqsv.S hM) rfl _).1.symm
                          replace hM := hM.tr (hs.mono (by decide))
                          have f_189 : h_188.2.1 x 68 = x_187 := by rw [eh_188]; exact hx_pi_at _ _ _ _
                          exact join330 x_187 _ _ hL1 h_188 (by omega) (by omega) (by unfold hz_rs hz_bl; (repeat' split) <;> omega) ls hW hT hM f_189 f_6 f_8 fjw88_x_71 fjw279_x_67  (lv_sub hl [0, 1, 2, 3, 4, 5] rfl)
                      · skip
                        refine lv_aload_n hx hb dX10_looks_299 rfl (lv_at hl 2 rfl) ?_
                        refine lv_bipush (v := 8) hx hb dX10_looks_300 (by decide) ?_
                        refine hx_puti hx hb hts hC_10 hown hW hT (hx_S.rf (M := [(10, 71)])) (gx.S hM) tt_10 71 (by decide) rfl kw_1214 ⟨rfl, rfl, rfl⟩ rfl (x := (8 : Int32)) (by decide) rfl rfl rfl (List.mem_singleton.mpr rfl) dX10_looks_302 (fun H locs h_190 eh_190 hW hT hs => ?_)
                        replace f_4 := (hs.o (gx.S hM) trivial rfl).1.trans f_4
                        replace f_6 := (hs.o (gx.S hM) trivial rfl).1.trans f_6
                        replace f_8 := (hs.o (gx.S hM) trivial rfl).1.trans f_8
                        replace fjw279_x_67 := (hs.o (gx.S hM) trivial rfl).1.trans fjw279_x_67
                        replace ex_14 := ex_14.trans (hs.a (gqsv.S hM) rfl _).1.symm
                        replace hM := hM.tr (hs.mono (by decide))
                        have f_191 : h_190.2.1 x 71 = (8 : Int32) := by rw [eh_190]; exact hx_pi_at _ _ _ _
                        have zo_0 : (0 : Int32).toInt = 0 := by decide
                        have zo_0 : (0 : Int32).toInt = 0 := by decide
                        have zo_0 : (0 : Int32).toInt = 0 := by decide
                        have zo_8 : (8 : Int32).toInt = 8 := by decide
                        exact hx_retv hx hb hr hlk hW ⟨⟨jw279_x_67, (0 : Int32), (0 : Int32), (0 : Int32), (8 : Int32), fjw279_x_67, f_4, f_6, f_8, f_191, (by have zr_0 : (0 : Int32).toInt = 0 := (by decide); have zr_8 : (8 : Int32).toInt = 8 := (by decide); exact ⟨(by omega), (by unfold hz_rs; (repeat' split) <;> omega), (by unfold hz_ov; (repeat' split) <;> omega), (by unfold hz_ms; rw [if_pos (by omega)]; omega), (by unfold hz_st; rw [if_neg (by omega), if_pos (by omega)]; omega)⟩)⟩, hT, hM⟩ dX10_looks_305
                  have hpx : fw139_x_67.toInt = hx_ps pof pdf psm pkf pst i2.toInt i3.toInt i1.toInt pm0.toInt.toNat := by rw [show pm0.toInt = iv139_5.toInt from by omega]; exact vi139_1
                  refine lv_aload_n hx hb dX10_looks_225 rfl (lv_at hl 2 rfl) ?_
                  refine lv_dup hx hb dX10_looks_226 rfl ?_
                  refine hk_geti hx hb hts hC_10 hown hW (gx.S hM) tt_10 67 (by decide) rfl kw_1210 ⟨rfl, rfl, rfl⟩ ffw139_x_67 dX10_looks_227 ?_
                  refine lv_iload hx hb dX10_looks_230 (lv_at hl 1 rfl) ?_
                  refine hb_if_eq (zx := jv136_4.toInt) (tgt := 244) hx hb rfl dX10_looks_232 (by decide) (fun c_192 => ?_) (fun c_192 => ?_)
                  · skip
                    refine lv_iconst (v := 0) hx hb dX10_looks_244 (by decide) ?_
                    refine lv_iadd hx hb dX10_looks_245 ?_
                    have rg_193 := i32_r fw139_x_67
                    refine lv_topi (fun x_194 ex_194 => ?_)
                    have zx_194 : x_194.toInt = fw139_x_67.toInt + 0 := by rw [ex_194]; exact i32_add rfl (by decide) (by omega) (by omega)
                    refine hx_puti hx hb hts hC_10 hown hW hT (hx_S.rf (M := [(10, 67)])) (gx.S hM) tt_10 67 (by decide) rfl kw_1210 ⟨rfl, rfl, rfl⟩ rfl (x := x_194) ⟨by omega, by omega⟩ rfl rfl rfl (List.mem_singleton.mpr rfl) dX10_looks_246 (fun H locs h_195 eh_195 hW hT hs => ?_)
                    replace f_4 := (hs.o (gx.S hM) trivial rfl).1.trans f_4
                    replace f_6 := (hs.o (gx.S hM) trivial rfl).1.trans f_6
                    replace f_8 := (hs.o (gx.S hM) trivial rfl).1.trans f_8
                    replace fjw88_x_71 := (hs.o (gx.S hM) trivial rfl).1.trans fjw88_x_71
                    replace hM := hM.tr (hs.mono (by decide))
                    have f_196 : h_195.2.1 x 67 = x_194 := by rw [eh_195]; exact hx_pi_at _ _ _ _
                    refine lv_aload_n hx hb dX10_looks_249 rfl (lv_at hl 2 rfl) ?_
                    refine hk_getr hx hb hts hC_10 hown hW (gx.S hM) tt_10 55 (by decide) rfl kw_1198 ⟨rfl, rfl, rfl⟩ ((hM.o gx trivial rfl).2.trans f_x_55) dX10_looks_250 ?_
                    refine lv_iload_n hx hb dX10_looks_253 rfl (lv_at hl 3 rfl) ?_
                    refine hx_iald hx hb hW hT (gqow.S hM) tt_90 rfl ⟨by omega, by omega⟩ dX10_looks_254 (fun x_197 ex_197 lx_197 ux_197 => ?_)
                    have ax_197 : x_197 = owf i1.toNatClampNeg := ex_197.trans (congrFun (hx_afS hM gqow rfl af_qow) _)
                    have sx_197 : x_197.toInt = (owf i1.toInt.toNat).toInt := congrArg Int32.toInt ax_197
                    refine lv_iload hx hb dX10_looks_255 (lv_at hl 1 rfl) ?_
                    refine hb_if_eq (zx := jv136_4.toInt) (tgt := 275) hx hb rfl dX10_looks_257 (by decide) (fun c_198 => ?_) (fun c_198 => by exfalso; omega)
                    refine lv_iconst (v := 0) hx hb dX10_looks_275 (by decide) ?_
                    refine lv_iadd hx hb dX10_looks_276 ?_
                    have rg_199 := i32_r x_197
                    refine lv_topi (fun x_200 ex_200 => ?_)
                    have zx_200 : x_200.toInt = x_197.toInt + 0 := by rw [ex_200]; exact i32_add rfl (by decide) (by omega) (by omega)
                    refine lv_istore (lv' := [(5, .int x_200), (4, .int jv136_4), (0, .ref x), (1, .int i1), (2, .int i2), (3, .int i3)]) hx hb dX10_looks_277 hl (by decide) rfl (fun ls hl => ?_)
                    exact join279 x_200 x_194 _ _ hL1 h_195 (by omega) (by omega) (by omega) (by omega) (by unfold hz_pdy; (repeat' split) <;> omega) (by unfold hz_al; (repeat' split) <;> omega) ls hW hT hM f_196 f_4 f_6 f_8 fjw88_x_71  (lv_sub hl [0, 1, 2, 3, 4, 5] rfl)
                  · skip
                    refine lv_aload_n hx hb dX10_looks_235 rfl (lv_at hl 2 rfl) ?_
                    refine hk_getr hx hb hts hC_10 hown hW (gx.S hM) tt_10 56 (by decide) rfl kw_1199 ⟨rfl, rfl, rfl⟩ ((hM.o gx trivial rfl).2.trans f_x_56) dX10_looks_236 ?_
                    refine lv_iload_n hx hb dX10_looks_239 rfl (lv_at hl 3 rfl) ?_
                    refine hx_iald hx hb hW hT (gqgd.S hM) tt_91 rfl ⟨by omega, by omega⟩ dX10_looks_240 (fun x_201 ex_201 lx_201 ux_201 => ?_)
                    have ax_201 : x_201 = gdf i1.toNatClampNeg := ex_201.trans (congrFun (hx_afS hM gqgd rfl af_qgd) _)
                    have sx_201 : x_201.toInt = (gdf i1.toInt.toNat).toInt := congrArg Int32.toInt ax_201
                    refine lv_goto (tgt := 245) hx hb dX10_looks_241 (by decide) ?_
                    refine lv_iadd hx hb dX10_looks_245 ?_
                    have rg_202 := i32_r fw139_x_67
                    have rg_203 := i32_r x_201
                    refine lv_topi (fun x_204 ex_204 => ?_)
                    have zx_204 : x_204.toInt = fw139_x_67.toInt + x_201.toInt := by rw [ex_204]; exact i32_add rfl rfl (by omega) (by omega)
                    refine hx_puti hx hb hts hC_10 hown hW hT (hx_S.rf (M := [(10, 67)])) (gx.S hM) tt_10 67 (by decide) rfl kw_1210 ⟨rfl, rfl, rfl⟩ rfl (x := x_204) ⟨by omega, by omega⟩ rfl rfl rfl (List.mem_singleton.mpr rfl) dX10_looks_246 (fun H locs h_205 eh_205 hW hT hs => ?_)
                    replace f_4 := (hs.o (gx.S hM) trivial rfl).1.trans f_4
                    replace f_6 := (hs.o (gx.S hM) trivial rfl).1.trans f_6
                    replace f_8 := (hs.o (gx.S hM) trivial rfl).1.trans f_8
                    replace fjw88_x_71 := (hs.o (gx.S hM) trivial rfl).1.trans fjw88_x_71
                    replace ex_201 := ex_201.trans (hs.a (gqgd.S hM) rfl _).1.symm
                    replace hM := hM.tr (hs.mono (by decide))
                    have f_206 : h_205.2.1 x 67 = x_204 := by rw [eh_205]; exact hx_pi_at _ _ _ _
                    refine lv_aload_n hx hb dX10_looks_249 rfl (lv_at hl 2 rfl) ?_
                    refine hk_getr hx hb hts hC_10 hown hW (gx.S hM) tt_10 55 (by decide) rfl kw_1198 ⟨rfl, rfl, rfl⟩ ((hM.o gx trivial rfl).2.trans f_x_55) dX10_looks_250 ?_
                    refine lv_iload_n hx hb dX10_looks_253 rfl (lv_at hl 3 rfl) ?_
                    refine hx_iald hx hb hW hT (gqow.S hM) tt_90 rfl ⟨by omega, by omega⟩ dX10_looks_254 (fun x_207 ex_207 lx_207 ux_207 => ?_)
                    have ax_207 : x_207 = owf i1.toNatClampNeg := ex_207.trans (congrFun (hx_afS hM gqow rfl af_qow) _)
                    have sx_207 : x_207.toInt = (owf i1.toInt.toNat).toInt := congrArg Int32.toInt ax_207
                    refine lv_iload hx hb dX10_looks_255 (lv_at hl 1 rfl) ?_
                    refine hb_if_eq (zx := jv136_4.toInt) (tgt := 275) hx hb rfl dX10_looks_257 (by decide) (fun c_208 => by exfalso; omega) (fun c_208 => ?_)
                    refine lv_aload_n hx hb dX10_looks_260 rfl (lv_at hl 2 rfl) ?_
                    refine lv_aload_n hx hb dX10_looks_261 rfl (lv_at hl 2 rfl) ?_
                    refine hk_getr hx hb hts hC_10 hown hW (gx.S hM) tt_10 44 (by decide) rfl kw_1187 ⟨rfl, rfl, rfl⟩ ((hM.o gx trivial rfl).2.trans f_x_44) dX10_looks_262 ?_
                    refine lv_iload_n hx hb dX10_looks_265 rfl (lv_at hl 3 rfl) ?_
                    refine hx_iald hx hb hW hT (gqpl.S hM) tt_79 rfl ⟨by omega, by omega⟩ dX10_looks_266 (fun x_209 ex_209 lx_209 ux_209 => ?_)
                    have ax_209 : x_209 = plf i1.toNatClampNeg := ex_209.trans (congrFun (hx_afS hM gqpl rfl af_qpl) _)
                    refine lv_bipush (v := 12) hx hb dX10_looks_267 (by decide) ?_
                    have zc_12 : (12 : Int32).toInt = 12 := by decide
                    refine hx_goi (hx_runV (As := [.int x_209, .int (12 : Int32)]) (rest := [.int x_207]) ⟨hx, hb, hml, hown, hts⟩ hW (gx.S hM) tt_10 (T := TX10) (N := 98) rfl (t_X10_ruleOf_v l dC dI dA hL1 h_205 H.size x x_209 (12 : Int32) hT (gx.S hM) qru (gqru.S hM) ((hM.o gx trivial rfl).2.trans f_x_3) rlf (hx_afS hM gqru rfl af_qru) ⟨by omega, by omega⟩ (by decide)) (cwV 2 hts (hx_gV kw_1533 kw_1530 kw_1532 kw_66 kw_103) rfl rfl rfl (by decide +kernel) ⟨Nat.le_of_ble_eq_true rfl, Nat.le_of_ble_eq_true rfl⟩) rfl hl.1 rfl (Nat.le_of_ble_eq_true rfl) dX10_looks_269 ⟨Nat.le_of_ble_eq_true rfl, Nat.le_of_ble_eq_true rfl⟩) hW (fun r_212 L_210 h_211 H locs p_213 hW => ?_)
                    obtain ⟨hr_214, hT, hs⟩ := p_213
                    replace hT : hx_T T_tb L_210 h_211 := hT
                    replace hs : hx_S T_tb [] hL1 h_205 L_210 h_211 := hs
                    replace f_4 := (hs.o (gx.S hM) trivial rfl).1.trans f_4
                    replace f_6 := (hs.o (gx.S hM) trivial rfl).1.trans f_6
                    replace f_8 := (hs.o (gx.S hM) trivial rfl).1.trans f_8
                    replace fjw88_x_71 := (hs.o (gx.S hM) trivial rfl).1.trans fjw88_x_71
                    replace f_206 := (hs.o (gx.S hM) trivial rfl).1.trans f_206
                    replace ex_201 := ex_201.trans (hs.a (gqgd.S hM) rfl _).1.symm
                    replace ex_207 := ex_207.trans (hs.a (gqow.S hM) rfl _).1.symm
                    replace ex_209 := ex_209.trans (hs.a (gqpl.S hM) rfl _).1.symm
                    replace hM := hM.tr (hs.mono (by decide))
                    have hR_215 : r_212.toInt = R 12 := by rw [hr_214.1, ax_209, show (12 : Int32).toInt.toNat = 12 from by decide]; exact hRr 12 (by decide)
                    refine lv_goto (tgt := 276) hx hb dX10_looks_272 (by decide) ?_
                    refine lv_iadd hx hb dX10_looks_276 ?_
                    have rg_216 := i32_r x_207
                    have rg_217 := i32_r r_212
                    refine lv_topi (fun x_218 ex_218 => ?_)
                    have zx_218 : x_218.toInt = x_207.toInt + r_212.toInt := by rw [ex_218]; exact i32_add rfl rfl (by omega) (by omega)
                    refine lv_istore (lv' := [(5, .int x_218), (4, .int jv136_4), (0, .ref x), (1, .int i1), (2, .int i2), (3, .int i3)]) hx hb dX10_looks_277 hl (by decide) rfl (fun ls hl => ?_)
                    exact join279 x_218 x_204 _ _ L_210 h_211 (by omega) (by omega) (by omega) (by omega) (by unfold hz_pdy; (repeat' split) <;> omega) (by unfold hz_al; rw [← hR_215]; (repeat' split) <;> omega) ls hW hT hM f_206 f_4 f_6 f_8 fjw88_x_71  (lv_sub hl [0, 1, 2, 3, 4, 5] rfl)
                · skip
                  refine lv_aload_n hx hb dX10_looks_148 rfl (lv_at hl 2 rfl) ?_
                  refine hk_getr hx hb hts hC_10 hown hW (gx.S hM) tt_10 60 (by decide) rfl kw_1203 ⟨rfl, rfl, rfl⟩ ((hM.o gx trivial rfl).2.trans f_x_60) dX10_looks_149 ?_
                  refine lv_iload hx hb dX10_looks_152 (lv_at hl 0 rfl) ?_
                  refine hx_iald hx hb hW hT (gqpo.S hM) tt_93 rfl ⟨by omega, by omega⟩ dX10_looks_154 (fun x_219 ex_219 lx_219 ux_219 => ?_)
                  have ax_219 : x_219 = pof iv139_5.toNatClampNeg := ex_219.trans (congrFun (hx_afS hM gqpo rfl af_qpo) _)
                  refine lv_iload_n hx hb dX10_looks_155 rfl (lv_at hl 3 rfl) ?_
                  refine hb_icmp_ne (zx := x_219.toInt) (zy := i1.toInt) (tgt := 219) hx hb rfl rfl dX10_looks_156 (by decide) (fun c_220 => ?_) (fun c_220 => ?_)
                  · skip
                    obtain ⟨x_221, ex_221⟩ : ∃ y : Int32, y = iv139_5 + Int32.ofInt 1 := ⟨_, rfl⟩
                    have rg_222 := i32_r iv139_5
                    have zx_221 : x_221.toInt = iv139_5.toInt + (1) := by rw [ex_221]; exact i32_add rfl (by decide) (by omega) (by omega)
                    refine lv_iinc (v := x_221) (lv' := [(5, .int x_221), (4, .int jv136_4), (0, .ref x), (1, .int i1), (2, .int i2), (3, .int i3)]) hx hb dX10_looks_219 hl (k := 0) rfl ex_221.symm (by decide) rfl (fun ls hl => ?_)
                    refine lv_goto (tgt := 139) hx hb dX10_looks_222 (by decide) ?_
                    exact ih139 x_221 fw139_x_67 _ _ hL1 hl1 (by omega) (by omega) (by omega) (by omega) (by omega) (by first | exact hx_ps_no1 vi139_1 (by omega) zx_221 ax_219 rfl (by omega)) (by omega) ls (by omega) hW hT hM ffw139_x_67 f_4 f_6 f_8 fjw88_x_71  (lv_sub hl [0, 1, 2, 3, 4, 5] rfl)
                  · skip
                    refine lv_aload_n hx hb dX10_looks_159 rfl (lv_at hl 2 rfl) ?_
                    refine hk_getr hx hb hts hC_10 hown hW (gx.S hM) tt_10 61 (by decide) rfl kw_1204 ⟨rfl, rfl, rfl⟩ ((hM.o gx trivial rfl).2.trans f_x_61) dX10_looks_160 ?_
                    refine lv_iload hx hb dX10_looks_163 (lv_at hl 0 rfl) ?_
                    refine hx_iald hx hb hW hT (gqpd.S hM) tt_94 rfl ⟨by omega, by omega⟩ dX10_looks_165 (fun x_223 ex_223 lx_223 ux_223 => ?_)
                    have ax_223 : x_223 = pdf iv139_5.toNatClampNeg := ex_223.trans (congrFun (hx_afS hM gqpd rfl af_qpd) _)
                    refine lv_iload_n hx hb dX10_looks_166 rfl (lv_at hl 4 rfl) ?_
                    refine hb_icmp_gt (zx := x_223.toInt) (zy := i2.toInt) (tgt := 219) hx hb rfl rfl dX10_looks_167 (by decide) (fun c_224 => ?_) (fun c_224 => ?_)
                    · skip
                      obtain ⟨x_225, ex_225⟩ : ∃ y : Int32, y = iv139_5 + Int32.ofInt 1 := ⟨_, rfl⟩
                      have rg_226 := i32_r iv139_5
                      have zx_225 : x_225.toInt = iv139_5.toInt + (1) := by rw [ex_225]; exact i32_add rfl (by decide) (by omega) (by omega)
                      refine lv_iinc (v := x_225) (lv' := [(5, .int x_225), (4, .int jv136_4), (0, .ref x), (1, .int i1), (2, .int i2), (3, .int i3)]) hx hb dX10_looks_219 hl (k := 0) rfl ex_225.symm (by decide) rfl (fun ls hl => ?_)
                      refine lv_goto (tgt := 139) hx hb dX10_looks_222 (by decide) ?_
                      exact ih139 x_225 fw139_x_67 _ _ hL1 hl1 (by omega) (by omega) (by omega) (by omega) (by omega) (by first | exact hx_ps_no2 vi139_1 (by omega) zx_225 ax_223 rfl (by omega) | exact hx_ps_no1 vi139_1 (by omega) zx_225 ax_219 rfl (by omega)) (by omega) ls (by omega) hW hT hM ffw139_x_67 f_4 f_6 f_8 fjw88_x_71  (lv_sub hl [0, 1, 2, 3, 4, 5] rfl)
                    · skip
                      refine lv_aload_n hx hb dX10_looks_170 rfl (lv_at hl 2 rfl) ?_
                      refine hk_getr hx hb hts hC_10 hown hW (gx.S hM) tt_10 63 (by decide) rfl kw_1206 ⟨rfl, rfl, rfl⟩ ((hM.o gx trivial rfl).2.trans f_x_63) dX10_looks_171 ?_
                      refine lv_iload hx hb dX10_looks_174 (lv_at hl 0 rfl) ?_
                      refine hx_iald hx hb hW hT (gqpk.S hM) tt_96 rfl ⟨by omega, by omega⟩ dX10_looks_176 (fun x_227 ex_227 lx_227 ux_227 => ?_)
                      have ax_227 : x_227 = pkf iv139_5.toNatClampNeg := ex_227.trans (congrFun (hx_afS hM gqpk rfl af_qpk) _)
                      refine lv_iload_n hx hb dX10_looks_177 rfl (lv_at hl 5 rfl) ?_
                      refine hb_icmp_gt (zx := x_227.toInt) (zy := i3.toInt) (tgt := 219) hx hb rfl rfl dX10_looks_178 (by decide) (fun c_228 => ?_) (fun c_228 => ?_)
                      · skip
                        obtain ⟨x_229, ex_229⟩ : ∃ y : Int32, y = iv139_5 + Int32.ofInt 1 := ⟨_, rfl⟩
                        have rg_230 := i32_r iv139_5
                        have zx_229 : x_229.toInt = iv139_5.toInt + (1) := by rw [ex_229]; exact i32_add rfl (by decide) (by omega) (by omega)
                        refine lv_iinc (v := x_229) (lv' := [(5, .int x_229), (4, .int jv136_4), (0, .ref x), (1, .int i1), (2, .int i2), (3, .int i3)]) hx hb dX10_looks_219 hl (k := 0) rfl ex_229.symm (by decide) rfl (fun ls hl => ?_)
                        refine lv_goto (tgt := 139) hx hb dX10_looks_222 (by decide) ?_
                        exact ih139 x_229 fw139_x_67 _ _ hL1 hl1 (by omega) (by omega) (by omega) (by omega) (by omega) (by first | exact hx_ps_no3 vi139_1 (by omega) zx_229 ax_227 rfl (by omega) | exact hx_ps_no2 vi139_1 (by omega) zx_229 ax_223 rfl (by omega) | exact hx_ps_no1 vi139_1 (by omega) zx_229 ax_219 rfl (by omega)) (by omega) ls (by omega) hW hT hM ffw139_x_67 f_4 f_6 f_8 fjw88_x_71  (lv_sub hl [0, 1, 2, 3, 4, 5] rfl)
                      · skip
                        refine lv_aload_n hx hb dX10_looks_181 rfl (lv_at hl 2 rfl) ?_
                        refine hk_getr hx hb hts hC_10 hown hW (gx.S hM) tt_10 64 (by decide) rfl kw_1207 ⟨rfl, rfl, rfl⟩ ((hM.o gx trivial rfl).2.trans f_x_64) dX10_looks_182 ?_
                        refine lv_iload hx hb dX10_looks_185 (lv_at hl 0 rfl) ?_
                        refine hx_iald hx hb hW hT (gqpt.S hM) tt_97 rfl ⟨by omega, by omega⟩ dX10_looks_187 (fun x_231 ex_231 lx_231 ux_231 => ?_)
                        have ax_231 : x_231 = pst iv139_5.toNatClampNeg := ex_231.trans (congrFun (hx_afS hM gqpt rfl af_qpt) _)
                        refine lv_iconst (v := -1) hx hb dX10_looks_188 (by decide) ?_
                        refine hb_icmp_eq (zx := x_231.toInt) (zy := (-1)) (tgt := 203) hx hb rfl (by decide) dX10_looks_189 (by decide) (fun c_232 => ?_) (fun c_232 => ?_)
                        · skip
                          refine lv_aload_n hx hb dX10_looks_203 rfl (lv_at hl 2 rfl) ?_
                          refine lv_dup hx hb dX10_looks_204 rfl ?_
                          refine hk_geti hx hb hts hC_10 hown hW (gx.S hM) tt_10 67 (by decide) rfl kw_1210 ⟨rfl, rfl, rfl⟩ ffw139_x_67 dX10_looks_205 ?_
                          refine lv_aload_n hx hb dX10_looks_208 rfl (lv_at hl 2 rfl) ?_
                          refine hk_getr hx hb hts hC_10 hown hW (gx.S hM) tt_10 62 (by decide) rfl kw_1205 ⟨rfl, rfl, rfl⟩ ((hM.o gx trivial rfl).2.trans f_x_62) dX10_looks_209 ?_
                          refine lv_iload hx hb dX10_looks_212 (lv_at hl 0 rfl) ?_
                          refine hx_iald hx hb hW hT (gqps.S hM) tt_95 rfl ⟨by omega, by omega⟩ dX10_looks_214 (fun x_233 ex_233 lx_233 ux_233 => ?_)
                          have ax_233 : x_233 = psm iv139_5.toNatClampNeg := ex_233.trans (congrFun (hx_afS hM gqps rfl af_qps) _)
                          refine lv_iadd hx hb dX10_looks_215 ?_
                          have rg_234 := i32_r fw139_x_67
                          have rg_235 := i32_r x_233
                          refine lv_topi (fun x_236 ex_236 => ?_)
                          have zx_236 : x_236.toInt = fw139_x_67.toInt + x_233.toInt := by rw [ex_236]; exact i32_add rfl rfl (by omega) (by omega)
                          refine hx_puti hx hb hts hC_10 hown hW hT (hx_S.rf (M := [(10, 67)])) (gx.S hM) tt_10 67 (by decide) rfl kw_1210 ⟨rfl, rfl, rfl⟩ rfl (x := x_236) ⟨by omega, by omega⟩ rfl rfl rfl (List.mem_singleton.mpr rfl) dX10_looks_216 (fun H locs h_237 eh_237 hW hT hs => ?_)
                          replace f_4 := (hs.o (gx.S hM) trivial rfl).1.trans f_4
                          replace f_6 := (hs.o (gx.S hM) trivial rfl).1.trans f_6
                          replace f_8 := (hs.o (gx.S hM) trivial rfl).1.trans f_8
                          replace fjw88_x_71 := (hs.o (gx.S hM) trivial rfl).1.trans fjw88_x_71
                          replace ex_219 := ex_219.trans (hs.a (gqpo.S hM) rfl _).1.symm
                          replace ex_223 := ex_223.trans (hs.a (gqpd.S hM) rfl _).1.symm
                          replace ex_227 := ex_227.trans (hs.a (gqpk.S hM) rfl _).1.symm
                          replace ex_231 := ex_231.trans (hs.a (gqpt.S hM) rfl _).1.symm
                          replace ex_233 := ex_233.trans (hs.a (gqps.S hM) rfl _).1.symm
                          replace hM := hM.tr (hs.mono (by decide))
                          have f_238 : h_237.2.1 x 67 = x_236 := by rw [eh_237]; exact hx_pi_at _ _ _ _
                          obtain ⟨x_239, ex_239⟩ : ∃ y : Int32, y = iv139_5 + Int32.ofInt 1 := ⟨_, rfl⟩
                          have rg_240 := i32_r iv139_5
                          have zx_239 : x_239.toInt = iv139_5.toInt + (1) := by rw [ex_239]; exact i32_add rfl (by decide) (by omega) (by omega)
                          refine lv_iinc (v := x_239) (lv' := [(5, .int x_239), (4, .int jv136_4), (0, .ref x), (1, .int i1), (2, .int i2), (3, .int i3)]) hx hb dX10_looks_219 hl (k := 0) rfl ex_239.symm (by decide) rfl (fun ls hl => ?_)
                          refine lv_goto (tgt := 139) hx hb dX10_looks_222 (by decide) ?_
                          exact ih139 x_239 x_236 _ _ hL1 h_237 (by omega) (by omega) (by omega) (by omega) (by omega) (hx_ps_yes vi139_1 (by omega) zx_239 rfl ax_219 ax_223 ax_227 ax_231 ax_233 (by omega) (by omega) (by omega) (by omega) (by omega)) (by omega) ls (by omega) hW hT hM f_238 f_4 f_6 f_8 fjw88_x_71  (lv_sub hl [0, 1, 2, 3, 4, 5] rfl)
                        · skip
                          refine lv_aload_n hx hb dX10_looks_192 rfl (lv_at hl 2 rfl) ?_
                          refine hk_getr hx hb hts hC_10 hown hW (gx.S hM) tt_10 64 (by decide) rfl kw_1207 ⟨rfl, rfl, rfl⟩ ((hM.o gx trivial rfl).2.trans f_x_64) dX10_looks_193 ?_
                          refine lv_iload hx hb dX10_looks_196 (lv_at hl 0 rfl) ?_
                          refine hx_iald hx hb hW hT (gqpt.S hM) tt_97 rfl ⟨by omega, by omega⟩ dX10_looks_198 (fun x_241 ex_241 lx_241 ux_241 => ?_)
                          have ax_241 : x_241 = pst iv139_5.toNatClampNeg := ex_241.trans (congrFun (hx_afS hM gqpt rfl af_qpt) _)
                          obtain rfl : x_231 = x_241 := ex_231.trans ex_241.symm
                          refine lv_iload_n hx hb dX10_looks_199 rfl (lv_at hl 5 rfl) ?_
                          refine hb_icmp_le (zx := x_231.toInt) (zy := i3.toInt) (tgt := 219) hx hb rfl rfl dX10_looks_200 (by decide) (fun c_242 => ?_) (fun c_242 => ?_)
                          · skip
                            obtain ⟨x_243, ex_243⟩ : ∃ y : Int32, y = iv139_5 + Int32.ofInt 1 := ⟨_, rfl⟩
                            have rg_244 := i32_r iv139_5
                            have zx_243 : x_243.toInt = iv139_5.toInt + (1) := by rw [ex_243]; exact i32_add rfl (by decide) (by omega) (by omega)
                            refine lv_iinc (v := x_243) (lv' := [(5, .int x_243), (4, .int jv136_4), (0, .ref x), (1, .int i1), (2, .int i2), (3, .int i3)]) hx hb dX10_looks_219 hl (k := 0) rfl ex_243.symm (by decide) rfl (fun ls hl => ?_)
                            refine lv_goto (tgt := 139) hx hb dX10_looks_222 (by decide) ?_
                            exact ih139 x_243 fw139_x_67 _ _ hL1 hl1 (by omega) (by omega) (by omega) (by omega) (by omega) (by first | exact hx_ps_no4 vi139_1 (by omega) zx_243 ax_231 rfl (by omega) (by omega) | exact hx_ps_no3 vi139_1 (by omega) zx_243 ax_227 rfl (by omega) | exact hx_ps_no2 vi139_1 (by omega) zx_243 ax_223 rfl (by omega) | exact hx_ps_no1 vi139_1 (by omega) zx_243 ax_219 rfl (by omega)) (by omega) ls (by omega) hW hT hM ffw139_x_67 f_4 f_6 f_8 fjw88_x_71  (lv_sub hl [0, 1, 2, 3, 4, 5] rfl)
                          · skip
                            refine lv_aload_n hx hb dX10_looks_203 rfl (lv_at hl 2 rfl) ?_
                            refine lv_dup hx hb dX10_looks_204 rfl ?_
                            refine hk_geti hx hb hts hC_10 hown hW (gx.S hM) tt_10 67 (by decide) rfl kw_1210 ⟨rfl, rfl, rfl⟩ ffw139_x_67 dX10_looks_205 ?_
                            refine lv_aload_n hx hb dX10_looks_208 rfl (lv_at hl 2 rfl) ?_
                            refine hk_getr hx hb hts hC_10 hown hW (gx.S hM) tt_10 62 (by decide) rfl kw_1205 ⟨rfl, rfl, rfl⟩ ((hM.o gx trivial rfl).2.trans f_x_62) dX10_looks_209 ?_
                            refine lv_iload hx hb dX10_looks_212 (lv_at hl 0 rfl) ?_
                            refine hx_iald hx hb hW hT (gqps.S hM) tt_95 rfl ⟨by omega, by omega⟩ dX10_looks_214 (fun x_245 ex_245 lx_245 ux_245 => ?_)
                            have ax_245 : x_245 = psm iv139_5.toNatClampNeg := ex_245.trans (congrFun (hx_afS hM gqps rfl af_qps) _)
                            refine lv_iadd hx hb dX10_looks_215 ?_
                            have rg_246 := i32_r fw139_x_67
                            have rg_247 := i32_r x_245
                            refine lv_topi (fun x_248 ex_248 => ?_)
                            have zx_248 : x_248.toInt = fw139_x_67.toInt + x_245.toInt := by rw [ex_248]; exact i32_add rfl rfl (by omega) (by omega)
                            refine hx_puti hx hb hts hC_10 hown hW hT (hx_S.rf (M := [(10, 67)])) (gx.S hM) tt_10 67 (by decide) rfl kw_1210 ⟨rfl, rfl, rfl⟩ rfl (x := x_248) ⟨by omega, by omega⟩ rfl rfl rfl (List.mem_singleton.mpr rfl) dX10_looks_216 (fun H locs h_249 eh_249 hW hT hs => ?_)
                            replace f_4 := (hs.o (gx.S hM) trivial rfl).1.trans f_4
                            replace f_6 := (hs.o (gx.S hM) trivial rfl).1.trans f_6
                            replace f_8 := (hs.o (gx.S hM) trivial rfl).1.trans f_8
                            replace fjw88_x_71 := (hs.o (gx.S hM) trivial rfl).1.trans fjw88_x_71
                            replace ex_219 := ex_219.trans (hs.a (gqpo.S hM) rfl _).1.symm
                            replace ex_223 := ex_223.trans (hs.a (gqpd.S hM) rfl _).1.symm
                            replace ex_227 := ex_227.trans (hs.a (gqpk.S hM) rfl _).1.symm
                            replace ex_231 := ex_231.trans (hs.a (gqpt.S hM) rfl _).1.symm
                            replace ex_245 := ex_245.trans (hs.a (gqps.S hM) rfl _).1.symm
                            replace hM := hM.tr (hs.mono (by decide))
                            have f_250 : h_249.2.1 x 67 = x_248 := by rw [eh_249]; exact hx_pi_at _ _ _ _
                            obtain ⟨x_251, ex_251⟩ : ∃ y : Int32, y = iv139_5 + Int32.ofInt 1 := ⟨_, rfl⟩
                            have rg_252 := i32_r iv139_5
                            have zx_251 : x_251.toInt = iv139_5.toInt + (1) := by rw [ex_251]; exact i32_add rfl (by decide) (by omega) (by omega)
                            refine lv_iinc (v := x_251) (lv' := [(5, .int x_251), (4, .int jv136_4), (0, .ref x), (1, .int i1), (2, .int i2), (3, .int i3)]) hx hb dX10_looks_219 hl (k := 0) rfl ex_251.symm (by decide) rfl (fun ls hl => ?_)
                            refine lv_goto (tgt := 139) hx hb dX10_looks_222 (by decide) ?_
                            exact ih139 x_251 x_248 _ _ hL1 h_249 (by omega) (by omega) (by omega) (by omega) (by omega) (hx_ps_yes vi139_1 (by omega) zx_251 rfl ax_219 ax_223 ax_227 ax_231 ax_245 (by omega) (by omega) (by omega) (by omega) (by omega)) (by omega) ls (by omega) hW hT hM f_250 f_4 f_6 f_8 fjw88_x_71  (lv_sub hl [0, 1, 2, 3, 4, 5] rfl)
            have zk_0 : (0 : Int32).toInt = 0 := by decide
            have zk_0 : (0 : Int32).toInt = 0 := by decide
            exact loop139 601 (0 : Int32) (0 : Int32) _ _ hL1 hl1 (by decide) (by decide) (by decide) (by decide) (by omega) rfl (by omega) ls (by omega) hW hT hM f_2 f_4 f_6 f_8 fjw88_x_71  hl
          refine lv_aload_n hx hb dX10_looks_109 rfl (lv_at hl 0 rfl) ?_
          refine hk_getr hx hb hts hC_10 hown hW (gx.S hM) tt_10 49 (by decide) rfl kw_1192 ⟨rfl, rfl, rfl⟩ ((hM.o gx trivial rfl).2.trans f_x_49) dX10_looks_110 ?_
          refine lv_iload_n hx hb dX10_looks_113 rfl (lv_at hl 1 rfl) ?_
          refine hx_iald hx hb hW hT (gqsz.S hM) tt_84 rfl ⟨by omega, by omega⟩ dX10_looks_114 (fun x_253 ex_253 lx_253 ux_253 => ?_)
          have ax_253 : x_253 = szf i1.toNatClampNeg := ex_253.trans (congrFun (hx_afS hM gqsz rfl af_qsz) _)
          have sx_253 : x_253.toInt = (szf i1.toInt.toNat).toInt := congrArg Int32.toInt ax_253
          refine lv_iconst (v := -1) hx hb dX10_looks_115 (by decide) ?_
          refine hb_icmp_eq (zx := x_253.toInt) (zy := (-1)) (tgt := 133) hx hb rfl (by decide) dX10_looks_116 (by decide) (fun c_254 => ?_) (fun c_254 => ?_)
          · skip
            refine lv_iconst (v := 0) hx hb dX10_looks_133 (by decide) ?_
            refine lv_istore (lv' := [(4, .int (0 : Int32)), (0, .ref x), (1, .int i1), (2, .int i2), (3, .int i3)]) hx hb dX10_looks_134 hl (by decide) rfl (fun ls hl => ?_)
            have zk_0 : (0 : Int32).toInt = 0 := by decide
            exact join136 (0 : Int32) _ _ hL1 hl1 (by decide) (by decide) (by omega) ls hW hT hM f_2 f_4 f_6 f_8 fjw88_x_71  (lv_sub hl [0, 1, 2, 3, 4] rfl)
          · skip
            refine lv_aload_n hx hb dX10_looks_119 rfl (lv_at hl 0 rfl) ?_
            refine hk_getr hx hb hts hC_10 hown hW (gx.S hM) tt_10 49 (by decide) rfl kw_1192 ⟨rfl, rfl, rfl⟩ ((hM.o gx trivial rfl).2.trans f_x_49) dX10_looks_120 ?_
            refine lv_iload_n hx hb dX10_looks_123 rfl (lv_at hl 1 rfl) ?_
            refine hx_iald hx hb hW hT (gqsz.S hM) tt_84 rfl ⟨by omega, by omega⟩ dX10_looks_124 (fun x_255 ex_255 lx_255 ux_255 => ?_)
            have ax_255 : x_255 = szf i1.toNatClampNeg := ex_255.trans (congrFun (hx_afS hM gqsz rfl af_qsz) _)
            obtain rfl : x_253 = x_255 := ex_253.trans ex_255.symm
            refine lv_iload_n hx hb dX10_looks_125 rfl (lv_at hl 2 rfl) ?_
            refine hb_icmp_gt (zx := x_253.toInt) (zy := i2.toInt) (tgt := 133) hx hb rfl rfl dX10_looks_126 (by decide) (fun c_256 => ?_) (fun c_256 => ?_)
            · skip
              refine lv_iconst (v := 0) hx hb dX10_looks_133 (by decide) ?_
              refine lv_istore (lv' := [(4, .int (0 : Int32)), (0, .ref x), (1, .int i1), (2, .int i2), (3, .int i3)]) hx hb dX10_looks_134 hl (by decide) rfl (fun ls hl => ?_)
              have zk_0 : (0 : Int32).toInt = 0 := by decide
              exact join136 (0 : Int32) _ _ hL1 hl1 (by decide) (by decide) (by omega) ls hW hT hM f_2 f_4 f_6 f_8 fjw88_x_71  (lv_sub hl [0, 1, 2, 3, 4] rfl)
            · skip
              refine lv_iconst (v := 1) hx hb dX10_looks_129 (by decide) ?_
              refine lv_goto (tgt := 134) hx hb dX10_looks_130 (by decide) ?_
              refine lv_istore (lv' := [(4, .int (1 : Int32)), (0, .ref x), (1, .int i1), (2, .int i2), (3, .int i3)]) hx hb dX10_looks_134 hl (by decide) rfl (fun ls hl => ?_)
              have zk_1 : (1 : Int32).toInt = 1 := by decide
              exact join136 (1 : Int32) _ _ hL1 hl1 (by decide) (by decide) (by omega) ls hW hT hM f_2 f_4 f_6 f_8 fjw88_x_71  (lv_sub hl [0, 1, 2, 3, 4] rfl)
        · skip
          have zo_0 : (0 : Int32).toInt = 0 := by decide
          have zo_0 : (0 : Int32).toInt = 0 := by decide
          have zo_0 : (0 : Int32).toInt = 0 := by decide
          have zo_0 : (0 : Int32).toInt = 0 := by decide
          exact hx_retv hx hb hr hlk hW ⟨⟨(0 : Int32), (0 : Int32), (0 : Int32), (0 : Int32), jw88_x_71, f_2, f_4, f_6, f_8, fjw88_x_71, (by have zr_0 : (0 : Int32).toInt = 0 := (by decide); exact ⟨(by unfold hz_pdy; (repeat' split) <;> omega), (by unfold hz_rs hz_bl; (repeat' split) <;> omega), (by unfold hz_ov hz_bl; (repeat' split) <;> omega), (by unfold hz_ms; rw [if_pos (by omega)]; omega), (by unfold hz_st; rw [if_pos (by omega)]; omega)⟩)⟩, hT, hM⟩ dX10_looks_108
    refine lv_aload_n hx hb dX10_looks_49 rfl (lv_at hl 0 rfl) ?_
    refine hk_getr hx hb hts hC_10 hown hW (gx.S hM) tt_10 47 (by decide) rfl kw_1190 ⟨rfl, rfl, rfl⟩ ((hM.o gx trivial rfl).2.trans f_x_47) dX10_looks_50 ?_
    refine lv_iload_n hx hb dX10_looks_53 rfl (lv_at hl 1 rfl) ?_
    refine hx_iald hx hb hW hT (gqhe.S hM) tt_82 rfl ⟨by omega, by omega⟩ dX10_looks_54 (fun x_257 ex_257 lx_257 ux_257 => ?_)
    have ax_257 : x_257 = hrf i1.toNatClampNeg := ex_257.trans (congrFun (hx_afS hM gqhe rfl af_qhe) _)
    have sx_257 : x_257.toInt = (hrf i1.toInt.toNat).toInt := congrArg Int32.toInt ax_257
    refine lv_iconst (v := -1) hx hb dX10_looks_55 (by decide) ?_
    refine hb_icmp_eq (zx := x_257.toInt) (zy := (-1)) (tgt := 88) hx hb rfl (by decide) dX10_looks_56 (by decide) (fun c_258 => ?_) (fun c_258 => ?_)
    · skip
      exact join88 jw49_x_71 _ _ hL1 hl1 (by omega) (by omega) (by unfold hz_sa; (repeat' split) <;> omega) ls hW hT hM fjw49_x_71 f_2 f_4 f_6 f_8  (lv_sub hl [0, 1, 2, 3] rfl)
    · skip
      refine lv_aload_n hx hb dX10_looks_59 rfl (lv_at hl 0 rfl) ?_
      refine hk_getr hx hb hts hC_10 hown hW (gx.S hM) tt_10 47 (by decide) rfl kw_1190 ⟨rfl, rfl, rfl⟩ ((hM.o gx trivial rfl).2.trans f_x_47) dX10_looks_60 ?_
      refine lv_iload_n hx hb dX10_looks_63 rfl (lv_at hl 1 rfl) ?_
      refine hx_iald hx hb hW hT (gqhe.S hM) tt_82 rfl ⟨by omega, by omega⟩ dX10_looks_64 (fun x_259 ex_259 lx_259 ux_259 => ?_)
      have ax_259 : x_259 = hrf i1.toNatClampNeg := ex_259.trans (congrFun (hx_afS hM gqhe rfl af_qhe) _)
      obtain rfl : x_257 = x_259 := ex_257.trans ex_259.symm
      refine lv_iload_n hx hb dX10_looks_65 rfl (lv_at hl 2 rfl) ?_
      refine hb_icmp_gt (zx := x_257.toInt) (zy := i2.toInt) (tgt := 88) hx hb rfl rfl dX10_looks_66 (by decide) (fun c_260 => ?_) (fun c_260 => ?_)
      · skip
        exact join88 jw49_x_71 _ _ hL1 hl1 (by omega) (by omega) (by unfold hz_sa; (repeat' split) <;> omega) ls hW hT hM fjw49_x_71 f_2 f_4 f_6 f_8  (lv_sub hl [0, 1, 2, 3] rfl)
      · skip
        refine lv_aload_n hx hb dX10_looks_69 rfl (lv_at hl 0 rfl) ?_
        refine lv_aload_n hx hb dX10_looks_70 rfl (lv_at hl 0 rfl) ?_
        refine hk_getr hx hb hts hC_10 hown hW (gx.S hM) tt_10 51 (by decide) rfl kw_1194 ⟨rfl, rfl, rfl⟩ ((hM.o gx trivial rfl).2.trans f_x_51) dX10_looks_71 ?_
        refine lv_iload_n hx hb dX10_looks_74 rfl (lv_at hl 1 rfl) ?_
        refine hx_iald hx hb hW hT (gqju.S hM) tt_86 rfl ⟨by omega, by omega⟩ dX10_looks_75 (fun x_261 ex_261 lx_261 ux_261 => ?_)
        have ax_261 : x_261 = udf i1.toNatClampNeg := ex_261.trans (congrFun (hx_afS hM gqju rfl af_qju) _)
        have sx_261 : x_261.toInt = (udf i1.toInt.toNat).toInt := congrArg Int32.toInt ax_261
        refine lv_iconst (v := 5) hx hb dX10_looks_76 (by decide) ?_
        refine hb_icmp_ne (zx := x_261.toInt) (zy := 5) (tgt := 84) hx hb rfl (by decide) dX10_looks_77 (by decide) (fun c_262 => ?_) (fun c_262 => ?_)
        · skip
          refine lv_iconst (v := 2) hx hb dX10_looks_84 (by decide) ?_
          refine hx_puti hx hb hts hC_10 hown hW hT (hx_S.rf (M := [(10, 71)])) (gx.S hM) tt_10 71 (by decide) rfl kw_1214 ⟨rfl, rfl, rfl⟩ rfl (x := (2 : Int32)) (by decide) rfl rfl rfl (List.mem_singleton.mpr rfl) dX10_looks_85 (fun H locs h_263 eh_263 hW hT hs => ?_)
          replace f_2 := (hs.o (gx.S hM) trivial rfl).1.trans f_2
          replace f_4 := (hs.o (gx.S hM) trivial rfl).1.trans f_4
          replace f_6 := (hs.o (gx.S hM) trivial rfl).1.trans f_6
          replace f_8 := (hs.o (gx.S hM) trivial rfl).1.trans f_8
          replace ex_257 := ex_257.trans (hs.a (gqhe.S hM) rfl _).1.symm
          replace ex_261 := ex_261.trans (hs.a (gqju.S hM) rfl _).1.symm
          replace hM := hM.tr (hs.mono (by decide))
          have f_264 : h_263.2.1 x 71 = (2 : Int32) := by rw [eh_263]; exact hx_pi_at _ _ _ _
          have zk_2 : (2 : Int32).toInt = 2 := by decide
          exact join88 (2 : Int32) _ _ hL1 h_263 (by decide) (by decide) (by rw [zk_2]; unfold hz_sa; (repeat' split) <;> omega) ls hW hT hM f_264 f_2 f_4 f_6 f_8  (lv_sub hl [0, 1, 2, 3] rfl)
        · skip
          refine lv_iconst (v := 3) hx hb dX10_looks_80 (by decide) ?_
          refine lv_goto (tgt := 85) hx hb dX10_looks_81 (by decide) ?_
          refine hx_puti hx hb hts hC_10 hown hW hT (hx_S.rf (M := [(10, 71)])) (gx.S hM) tt_10 71 (by decide) rfl kw_1214 ⟨rfl, rfl, rfl⟩ rfl (x := (3 : Int32)) (by decide) rfl rfl rfl (List.mem_singleton.mpr rfl) dX10_looks_85 (fun H locs h_265 eh_265 hW hT hs => ?_)
          replace f_2 := (hs.o (gx.S hM) trivial rfl).1.trans f_2
          replace f_4 := (hs.o (gx.S hM) trivial rfl).1.trans f_4
          replace f_6 := (hs.o (gx.S hM) trivial rfl).1.trans f_6
          replace f_8 := (hs.o (gx.S hM) trivial rfl).1.trans f_8
          replace ex_257 := ex_257.trans (hs.a (gqhe.S hM) rfl _).1.symm
          replace ex_261 := ex_261.trans (hs.a (gqju.S hM) rfl _).1.symm
          replace hM := hM.tr (hs.mono (by decide))
          have f_266 : h_265.2.1 x 71 = (3 : Int32) := by rw [eh_265]; exact hx_pi_at _ _ _ _
          have zk_3 : (3 : Int32).toInt = 3 := by decide
          exact join88 (3 : Int32) _ _ hL1 h_265 (by decide) (by decide) (by rw [zk_3]; unfold hz_sa; (repeat' split) <;> omega) ls hW hT hM f_266 f_2 f_4 f_6 f_8  (lv_sub hl [0, 1, 2, 3] rfl)
  refine lv_aload_n hx hb dX10_looks_20 rfl (lv_at hl 0 rfl) ?_
  refine lv_aload_n hx hb dX10_looks_21 rfl (lv_at hl 0 rfl) ?_
  refine hk_getr hx hb hts hC_10 hown hW (gx.S hM) tt_10 46 (by decide) rfl kw_1189 ⟨rfl, rfl, rfl⟩ ((hM.o gx trivial rfl).2.trans f_x_46) dX10_looks_22 ?_
  refine lv_iload_n hx hb dX10_looks_25 rfl (lv_at hl 1 rfl) ?_
  refine hx_iald hx hb hW hT (gqfo.S hM) tt_81 rfl ⟨by omega, by omega⟩ dX10_looks_26 (fun x_267 ex_267 lx_267 ux_267 => ?_)
  have ax_267 : x_267 = fof i1.toNatClampNeg := ex_267.trans (congrFun (hx_afS hM gqfo rfl af_qfo) _)
  have sx_267 : x_267.toInt = (fof i1.toInt.toNat).toInt := congrArg Int32.toInt ax_267
  refine lv_iconst (v := -1) hx hb dX10_looks_27 (by decide) ?_
  refine hb_icmp_eq (zx := x_267.toInt) (zy := (-1)) (tgt := 45) hx hb rfl (by decide) dX10_looks_28 (by decide) (fun c_268 => ?_) (fun c_268 => ?_)
  · skip
    refine lv_iconst (v := 0) hx hb dX10_looks_45 (by decide) ?_
    refine hx_puti hx hb hts hC_10 hown hW hT (hx_S.rf (M := [(10, 71)])) (gx.S hM) tt_10 71 (by decide) rfl kw_1214 ⟨rfl, rfl, rfl⟩ rfl (x := (0 : Int32)) (by decide) rfl rfl rfl (List.mem_singleton.mpr rfl) dX10_looks_46 (fun H locs h_269 eh_269 hW hT hs => ?_)
    replace f_2 := (hs.o (gx.S hM) trivial rfl).1.trans f_2
    replace f_4 := (hs.o (gx.S hM) trivial rfl).1.trans f_4
    replace f_6 := (hs.o (gx.S hM) trivial rfl).1.trans f_6
    replace f_8 := (hs.o (gx.S hM) trivial rfl).1.trans f_8
    replace ex_267 := ex_267.trans (hs.a (gqfo.S hM) rfl _).1.symm
    replace hM := hM.tr (hs.mono (by decide))
    have f_270 : h_269.2.1 x 71 = (0 : Int32) := by rw [eh_269]; exact hx_pi_at _ _ _ _
    have zk_0 : (0 : Int32).toInt = 0 := by decide
    exact join49 (0 : Int32) _ _ L h_269 (by decide) (by decide) (by omega) ls hW hT hM f_270 f_2 f_4 f_6 f_8  (lv_sub hl [0, 1, 2, 3] rfl)
  · skip
    refine lv_aload_n hx hb dX10_looks_31 rfl (lv_at hl 0 rfl) ?_
    refine hk_getr hx hb hts hC_10 hown hW (gx.S hM) tt_10 46 (by decide) rfl kw_1189 ⟨rfl, rfl, rfl⟩ ((hM.o gx trivial rfl).2.trans f_x_46) dX10_looks_32 ?_
    refine lv_iload_n hx hb dX10_looks_35 rfl (lv_at hl 1 rfl) ?_
    refine hx_iald hx hb hW hT (gqfo.S hM) tt_81 rfl ⟨by omega, by omega⟩ dX10_looks_36 (fun x_271 ex_271 lx_271 ux_271 => ?_)
    have ax_271 : x_271 = fof i1.toNatClampNeg := ex_271.trans (congrFun (hx_afS hM gqfo rfl af_qfo) _)
    obtain rfl : x_267 = x_271 := ex_267.trans ex_271.symm
    refine lv_iload_n hx hb dX10_looks_37 rfl (lv_at hl 2 rfl) ?_
    refine hb_icmp_gt (zx := x_267.toInt) (zy := i2.toInt) (tgt := 45) hx hb rfl rfl dX10_looks_38 (by decide) (fun c_272 => ?_) (fun c_272 => ?_)
    · skip
      refine lv_iconst (v := 0) hx hb dX10_looks_45 (by decide) ?_
      refine hx_puti hx hb hts hC_10 hown hW hT (hx_S.rf (M := [(10, 71)])) (gx.S hM) tt_10 71 (by decide) rfl kw_1214 ⟨rfl, rfl, rfl⟩ rfl (x := (0 : Int32)) (by decide) rfl rfl rfl (List.mem_singleton.mpr rfl) dX10_looks_46 (fun H locs h_273 eh_273 hW hT hs => ?_)
      replace f_2 := (hs.o (gx.S hM) trivial rfl).1.trans f_2
      replace f_4 := (hs.o (gx.S hM) trivial rfl).1.trans f_4
      replace f_6 := (hs.o (gx.S hM) trivial rfl).1.trans f_6
      replace f_8 := (hs.o (gx.S hM) trivial rfl).1.trans f_8
      replace ex_267 := ex_267.trans (hs.a (gqfo.S hM) rfl _).1.symm
      replace hM := hM.tr (hs.mono (by decide))
      have f_274 : h_273.2.1 x 71 = (0 : Int32) := by rw [eh_273]; exact hx_pi_at _ _ _ _
      have zk_0 : (0 : Int32).toInt = 0 := by decide
      exact join49 (0 : Int32) _ _ L h_273 (by decide) (by decide) (by omega) ls hW hT hM f_274 f_2 f_4 f_6 f_8  (lv_sub hl [0, 1, 2, 3] rfl)
    · skip
      refine lv_iconst (v := 1) hx hb dX10_looks_41 (by decide) ?_
      refine lv_goto (tgt := 46) hx hb dX10_looks_42 (by decide) ?_
      refine hx_puti hx hb hts hC_10 hown hW hT (hx_S.rf (M := [(10, 71)])) (gx.S hM) tt_10 71 (by decide) rfl kw_1214 ⟨rfl, rfl, rfl⟩ rfl (x := (1 : Int32)) (by decide) rfl rfl rfl (List.mem_singleton.mpr rfl) dX10_looks_46 (fun H locs h_275 eh_275 hW hT hs => ?_)
      replace f_2 := (hs.o (gx.S hM) trivial rfl).1.trans f_2
      replace f_4 := (hs.o (gx.S hM) trivial rfl).1.trans f_4
      replace f_6 := (hs.o (gx.S hM) trivial rfl).1.trans f_6
      replace f_8 := (hs.o (gx.S hM) trivial rfl).1.trans f_8
      replace ex_267 := ex_267.trans (hs.a (gqfo.S hM) rfl _).1.symm
      replace hM := hM.tr (hs.mono (by decide))
      have f_276 : h_275.2.1 x 71 = (1 : Int32) := by rw [eh_275]; exact hx_pi_at _ _ _ _
      have zk_1 : (1 : Int32).toInt = 1 := by decide
      exact join49 (1 : Int32) _ _ L h_275 (by decide) (by decide) (by omega) ls hW hT hM f_276 f_2 f_4 f_6 f_8  (lv_sub hl [0, 1, 2, 3] rfl)
end
