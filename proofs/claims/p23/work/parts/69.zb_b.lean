
set_option maxHeartbeats 4000000 in
set_option maxRecDepth 100000 in
theorem t_X2_isDone_v (l : Launch) (dC : Nat → ClassId) (dI : Nat → Nat → Nat) (dA : Nat → ClassId) (L : List Nat) (h : hx_h) (sz : Nat) (i1 : Int32) (i2 : Int32) (hT : hx_T T_tb L h)   : Met l yX2_isDone (Cond.code yX2_isDone cX2_isDone 2 (some .boolean) :: hx_all) ({ frames := 0, cells := 0, slots := 0, locals := 0 }) (va_Pc [.int i1, .int i2] (hx_B T_tb (P_ty dA) (dC, dI) vwCl L h sz)) (va_Qi (fun (r : Int32) (u : List Nat × hx_h) => ((r.toInt = 1 ∧ i1.toInt ≠ -1 ∧ i1.toInt ≤ i2.toInt) ∨ (r.toInt = 0 ∧ (i1.toInt = -1 ∨ i2.toInt < i1.toInt))) ∧ hx_T T_tb u.1 u.2 ∧ hx_S T_tb [] L h u.1 u.2) (hx_E T_tb (P_ty dA) (dC, dI) vwCl (hx_A L sz)) (hx_A L sz)) 0 0 (hx_A L sz) := by
  refine hx_met (lv := [(0, .int i1), (1, .int i2)]) (by decide +kernel) rfl (Nat.le_of_ble_eq_true rfl) rfl ?_
  intro p e s m below meth c hx hb hml hr hlk hts0 hown hin hsz hW ls hl
  have hts : ∀ w ∈ hx_all, w.before _ s = true := fun w hw => hts0 w (List.mem_cons_of_mem _ hw)
  have hown : s.vm.findClass "SmallCourt$Claim" = some m.cls := hown
  have hM : hx_S T_tb [] L h L h := hx_S.rf
  refine lv_iload_n hx hb dX2_isDone_0 rfl (lv_at hl 0 rfl) ?_
  refine lv_iconst (v := -1) hx hb dX2_isDone_1 (by decide) ?_
  refine hb_icmp_eq (zx := i1.toInt) (zy := (-1)) (tgt := 14) hx hb rfl (by decide) dX2_isDone_2 (by decide) (fun c_1 => ?_) (fun c_1 => ?_)
  · skip
    refine lv_iconst (v := 0) hx hb dX2_isDone_14 (by decide) ?_
    exact hx_retz hx hb hr rfl hlk hW ⟨(by have zr : (0 : Int32).toInt = 0 := (by decide); (first | omega | (refine ⟨?_, ?_⟩ <;> omega))), hT, hM⟩ dX2_isDone_15
  · skip
    refine lv_iload_n hx hb dX2_isDone_5 rfl (lv_at hl 0 rfl) ?_
    refine lv_iload_n hx hb dX2_isDone_6 rfl (lv_at hl 1 rfl) ?_
    refine hb_icmp_gt (zx := i1.toInt) (zy := i2.toInt) (tgt := 14) hx hb rfl rfl dX2_isDone_7 (by decide) (fun c_2 => ?_) (fun c_2 => ?_)
    · skip
      refine lv_iconst (v := 0) hx hb dX2_isDone_14 (by decide) ?_
      exact hx_retz hx hb hr rfl hlk hW ⟨(by have zr : (0 : Int32).toInt = 0 := (by decide); (first | omega | (refine ⟨?_, ?_⟩ <;> omega))), hT, hM⟩ dX2_isDone_15
    · skip
      refine lv_iconst (v := 1) hx hb dX2_isDone_10 (by decide) ?_
      refine lv_goto (tgt := 15) hx hb dX2_isDone_11 (by decide) ?_
      exact hx_retz hx hb hr rfl hlk hW ⟨(by have zr : (1 : Int32).toInt = 1 := (by decide); (first | omega | (refine ⟨?_, ?_⟩ <;> omega))), hT, hM⟩ dX2_isDone_15


set_option maxHeartbeats 4000000 in
set_option maxRecDepth 100000 in
theorem t_X9_roundUp_v (l : Launch) (dC : Nat → ClassId) (dI : Nat → Nat → Nat) (dA : Nat → ClassId) (L : List Nat) (h : hx_h) (sz : Nat) (i1 : Int32) (i2 : Int32) (hT : hx_T T_tb L h)   : Met l yX9_roundUp (Cond.code yX9_roundUp cX9_roundUp 2 (some .int) :: hx_all) ({ frames := 0, cells := 0, slots := 0, locals := 0 }) (va_Pc [.int i1, .int i2] (hx_B T_tb (P_ty dA) (dC, dI) vwCl L h sz)) (va_Qi (fun (r : Int32) (u : List Nat × hx_h) => (r.toInt = hz_ru i1.toInt i2.toInt) ∧ hx_T T_tb u.1 u.2 ∧ hx_S T_tb [] L h u.1 u.2) (hx_E T_tb (P_ty dA) (dC, dI) vwCl (hx_A L sz)) (hx_A L sz)) 0 0 (hx_A L sz) := by
  refine hx_met (lv := [(0, .int i1), (1, .int i2)]) (by decide +kernel) rfl (Nat.le_of_ble_eq_true rfl) rfl ?_
  intro p e s m below meth c hx hb hml hr hlk hts0 hown hin hsz hW ls hl
  have hts : ∀ w ∈ hx_all, w.before _ s = true := fun w hw => hts0 w (List.mem_cons_of_mem _ hw)
  have hown : s.vm.findClass "SmallCourt" = some m.cls := hown
  have hM : hx_S T_tb [] L h L h := hx_S.rf
  refine lv_iload_n hx hb dX9_roundUp_0 rfl (lv_at hl 0 rfl) ?_
  refine hb_if_le (zx := i1.toInt) (tgt := 9) hx hb rfl dX9_roundUp_1 (by decide) (fun c_1 => ?_) (fun c_1 => ?_)
  · skip
    refine lv_iconst (v := 0) hx hb dX9_roundUp_9 (by decide) ?_
    refine lv_goto (tgt := 20) hx hb dX9_roundUp_10 (by decide) ?_
    exact hx_reti hx hb hr hlk hW ⟨(by have zr : (0 : Int32).toInt = 0 := (by decide); unfold hz_ru; rw [if_pos (by omega)]; omega), hT, hM⟩ dX9_roundUp_20
  · skip
    refine lv_iload_n hx hb dX9_roundUp_4 rfl (lv_at hl 1 rfl) ?_
    refine lv_iconst (v := 1) hx hb dX9_roundUp_5 (by decide) ?_
    refine hb_icmp_ge (zx := i2.toInt) (zy := 1) (tgt := 13) hx hb rfl (by decide) dX9_roundUp_6 (by decide) (fun c_2 => ?_) (fun c_2 => ?_)
    · skip
      refine lv_iload_n hx hb dX9_roundUp_13 rfl (lv_at hl 0 rfl) ?_
      refine lv_iconst (v := 1) hx hb dX9_roundUp_14 (by decide) ?_
      refine lv_isub hx hb dX9_roundUp_15 ?_
      have rg_3 := i32_r i1
      refine lv_topi (fun x_4 ex_4 => ?_)
      have zx_4 : x_4.toInt = i1.toInt - 1 := by rw [ex_4]; exact i32_sub rfl (by decide) (by omega) (by omega)
      refine lv_iload_n hx hb dX9_roundUp_16 rfl (lv_at hl 1 rfl) ?_
      refine lv_idiv hx hb dX9_roundUp_17 (hx_ne0 (by omega)) ?_
      refine lv_topi (fun x_5 ex_5 => ?_)
      have zq9 : x_5.toInt = x_4.toInt / i2.toInt := by rw [ex_5]; exact hx_dv (by omega) (by omega)
      have zl9 : 0 ≤ x_5.toInt ∧ x_5.toInt ≤ x_4.toInt := by rw [zq9]; exact ⟨Int.ediv_nonneg (by omega) (by omega), Int.ediv_le_self _ (by omega)⟩
      refine lv_iconst (v := 1) hx hb dX9_roundUp_18 (by decide) ?_
      refine lv_iadd hx hb dX9_roundUp_19 ?_
      have rg_6 := i32_r x_5
      refine lv_topi (fun x_7 ex_7 => ?_)
      have zx_7 : x_7.toInt = x_5.toInt + 1 := by rw [ex_7]; exact i32_add rfl (by decide) (by omega) (by omega)
      exact hx_reti hx hb hr hlk hW ⟨(by unfold hz_ru; rw [if_neg (by omega), zx_7, zq9, zx_4]), hT, hM⟩ dX9_roundUp_20
    · skip
      refine lv_iconst (v := 0) hx hb dX9_roundUp_9 (by decide) ?_
      refine lv_goto (tgt := 20) hx hb dX9_roundUp_10 (by decide) ?_
      exact hx_reti hx hb hr hlk hW ⟨(by have zr : (0 : Int32).toInt = 0 := (by decide); unfold hz_ru; rw [if_pos (by omega)]; omega), hT, hM⟩ dX9_roundUp_20


set_option maxHeartbeats 4000000 in
set_option maxRecDepth 100000 in
theorem t_X3_sumFor_v (l : Launch) (dC : Nat → ClassId) (dI : Nat → Nat → Nat) (dA : Nat → ClassId) (L : List Nat) (h : hx_h) (sz : Nat) (x : Nat) (i1 : Int32) (i2 : Int32) (i3 : Int32) (hT : hx_T T_tb L h) (gx : hx_g L h x 3) (pqo : Nat) (gpqo : hx_g L h pqo 23) (f_x_2 : h.2.2 x 2 = some pqo) (pqd : Nat) (gpqd : hx_g L h pqd 24) (f_x_3 : h.2.2 x 3 = some pqd) (pqs : Nat) (gpqs : hx_g L h pqs 26) (f_x_5 : h.2.2 x 5 = some pqs) (pqk : Nat) (gpqk : hx_g L h pqk 25) (f_x_4 : h.2.2 x 4 = some pqk) (pqt : Nat) (gpqt : hx_g L h pqt 22) (f_x_1 : h.2.2 x 1 = some pqt) (pof : Nat → Int32) (af_pqo : h.2.1 pqo = pof) (pdf : Nat → Int32) (af_pqd : h.2.1 pqd = pdf) (psm : Nat → Int32) (af_pqs : h.2.1 pqs = psm) (pkf : Nat → Int32) (af_pqk : h.2.1 pqk = pkf) (pst : Nat → Int32) (af_pqt : h.2.1 pqt = pst) (n0 : Int32) (f_x_0 : h.2.1 x 0 = n0) (hps : ∀ j, j < 600 → 0 ≤ (psm j).toInt ∧ (psm j).toInt ≤ 610000) : Met l yX3_sumFor (Cond.code yX3_sumFor cX3_sumFor 7 (some .int) :: hx_all) ({ frames := 0, cells := 0, slots := 0, locals := 0 }) (va_Pc [.ref x, .int i1, .int i2, .int i3] (hx_B T_tb (P_ty dA) (dC, dI) vwCl L h sz)) (va_Qi (fun (r : Int32) (u : List Nat × hx_h) => (r.toInt = hx_ps pof pdf psm pkf pst i2.toInt i3.toInt i1.toInt n0.toInt.toNat ∧ (0 ≤ r.toInt ∧ r.toInt ≤ 366000000)) ∧ hx_T T_tb u.1 u.2 ∧ hx_S T_tb [] L h u.1 u.2) (hx_E T_tb (P_ty dA) (dC, dI) vwCl (hx_A L sz)) (hx_A L sz)) 0 0 (hx_A L sz) := by
  refine hx_met (lv := [(0, .ref x), (1, .int i1), (2, .int i2), (3, .int i3)]) (by decide +kernel) rfl (Nat.le_of_ble_eq_true rfl) rfl ?_
  intro p e s m below meth c hx hb hml hr hlk hts0 hown hin hsz hW ls hl
  have hts : ∀ w ∈ hx_all, w.before _ s = true := fun w hw => hts0 w (List.mem_cons_of_mem _ hw)
  have hown : s.vm.findClass "SmallCourt$Payments" = some m.cls := hown
  have hM : hx_S T_tb [] L h L h := hx_S.rf
  have b_n0 := hT.gi gx tt_3 (k := 0) rfl
  rw [f_x_0] at b_n0
  have b_n0 : 0 ≤ n0.toInt ∧ n0.toInt ≤ 600 := b_n0
  refine lv_iconst (v := 0) hx hb dX3_sumFor_0 (by decide) ?_
  refine lv_istore (lv' := [(4, .int (0 : Int32)), (0, .ref x), (1, .int i1), (2, .int i2), (3, .int i3)]) hx hb dX3_sumFor_1 hl (by decide) rfl (fun ls hl => ?_)
  refine lv_iconst (v := 0) hx hb dX3_sumFor_3 (by decide) ?_
  refine lv_istore (lv' := [(5, .int (0 : Int32)), (4, .int (0 : Int32)), (0, .ref x), (1, .int i1), (2, .int i2), (3, .int i3)]) hx hb dX3_sumFor_4 hl (by decide) rfl (fun ls hl => ?_)
  have loop6 : ∀ (n6 : Nat) (iv6_4 iv6_5 : Int32) (H : Heap) (locs : List Loc) (hL1 : List Nat) (hl1 : hx_h), 0 ≤ iv6_4.toInt → iv6_4.toInt ≤ 366000000 → 0 ≤ iv6_5.toInt → iv6_5.toInt ≤ 600 → (iv6_4.toInt = hx_ps pof pdf psm pkf pst i2.toInt i3.toInt i1.toInt (iv6_5.toInt).toNat) → (iv6_4.toInt ≤ 610000 * iv6_5.toInt) → (iv6_5.toInt ≤ n0.toInt) → ∀ (ls : Array Slot), 600 - iv6_5.toInt < (n6 : Int) → hx_W T_tb (P_ty dA) (dC, dI) vwCl (hx_A L sz) s.heap hL1 hl1 s H locs → hx_T T_tb hL1 hl1 → hx_S T_tb [] L h hL1 hl1 → lv_has ls 7 [(5, .int iv6_5), (4, .int iv6_4), (0, .ref x), (1, .int i1), (2, .int i2), (3, .int i3)] → W p l e ({ frames := 0, cells := 0, slots := 0, locals := 0 }) s m ([.ref x, .int i1, .int i2, .int i3] : List Value).toArray below meth c H locs 0 0 (MQ below (va_Qi (fun (r : Int32) (u : List Nat × hx_h) => (r.toInt = hx_ps pof pdf psm pkf pst i2.toInt i3.toInt i1.toInt n0.toInt.toNat ∧ (0 ≤ r.toInt ∧ r.toInt ≤ 366000000)) ∧ hx_T T_tb u.1 u.2 ∧ hx_S T_tb [] L h u.1 u.2) (hx_E T_tb (P_ty dA) (dC, dI) vwCl (hx_A L sz)) (hx_A L sz)) ([.ref x, .int i1, .int i2, .int i3] : List Value).toArray s 0 0 (hx_A L sz)) (F0 m 6 ls []) := by
    intro n6
    induction n6 with
    | zero => intro iv6_4 iv6_5 H locs hL1 hl1 bliv6_4 buiv6_4 bliv6_5 buiv6_5 vi6_0 vi6_1 vi6_2 ls hn6; exfalso; omega
    | succ n6 ih6 =>
      intro iv6_4 iv6_5 H locs hL1 hl1 bliv6_4 buiv6_4 bliv6_5 buiv6_5 vi6_0 vi6_1 vi6_2 ls hn6 hW hT hM   hl
      refine lv_iload hx hb dX3_sumFor_6 (lv_at hl 0 rfl) ?_
      refine lv_aload_n hx hb dX3_sumFor_8 rfl (lv_at hl 2 rfl) ?_
      refine hk_geti hx hb hts hC_3 hown hW (gx.S hM) tt_3 0 (by decide) rfl kw_231 ⟨rfl, rfl, rfl⟩ ((hM.o gx trivial rfl).1.trans f_x_0) dX3_sumFor_9 ?_
      refine hb_icmp_ge (zx := iv6_5.toInt) (zy := n0.toInt) (tgt := 100) hx hb rfl rfl dX3_sumFor_12 (by decide) (fun c_1 => ?_) (fun c_1 => ?_)
      · skip
        refine lv_iload hx hb dX3_sumFor_100 (lv_at hl 1 rfl) ?_
        exact hx_reti hx hb hr hlk hW ⟨⟨(by have e9 : iv6_5.toInt = n0.toInt := (by omega); have h9 := vi6_0; rw [e9] at h9; exact h9), by omega, by omega⟩, hT, hM⟩ dX3_sumFor_102
      · skip
        refine lv_aload_n hx hb dX3_sumFor_15 rfl (lv_at hl 2 rfl) ?_
        refine hk_getr hx hb hts hC_3 hown hW (gx.S hM) tt_3 1 (by decide) rfl kw_233 ⟨rfl, rfl, rfl⟩ ((hM.o gx trivial rfl).2.trans f_x_1) dX3_sumFor_16 ?_
        refine lv_iload hx hb dX3_sumFor_19 (lv_at hl 0 rfl) ?_
        refine hx_iald hx hb hW hT (gpqt.S hM) tt_22 rfl ⟨by omega, by omega⟩ dX3_sumFor_21 (fun x_2 ex_2 lx_2 ux_2 => ?_)
        have ax_2 : x_2 = pst iv6_5.toNatClampNeg := ex_2.trans (congrFun (hx_afS hM gpqt rfl af_pqt) _)
        refine lv_iconst (v := -1) hx hb dX3_sumFor_22 (by decide) ?_
        refine hb_icmp_eq (zx := x_2.toInt) (zy := (-1)) (tgt := 41) hx hb rfl (by decide) dX3_sumFor_23 (by decide) (fun c_3 => ?_) (fun c_3 => ?_)
        · skip
          refine lv_iconst (v := 0) hx hb dX3_sumFor_41 (by decide) ?_
          refine lv_istore (lv' := [(6, .int (0 : Int32)), (5, .int iv6_5), (4, .int iv6_4), (0, .ref x), (1, .int i1), (2, .int i2), (3, .int i3)]) hx hb dX3_sumFor_42 hl (by decide) rfl (fun ls hl => ?_)
          refine lv_aload_n hx hb dX3_sumFor_44 rfl (lv_at hl 3 rfl) ?_
          refine hk_getr hx hb hts hC_3 hown hW (gx.S hM) tt_3 2 (by decide) rfl kw_235 ⟨rfl, rfl, rfl⟩ ((hM.o gx trivial rfl).2.trans f_x_2) dX3_sumFor_45 ?_
          refine lv_iload hx hb dX3_sumFor_48 (lv_at hl 1 rfl) ?_
          refine hx_iald hx hb hW hT (gpqo.S hM) tt_23 rfl ⟨by omega, by omega⟩ dX3_sumFor_50 (fun x_4 ex_4 lx_4 ux_4 => ?_)
          have ax_4 : x_4 = pof iv6_5.toNatClampNeg := ex_4.trans (congrFun (hx_afS hM gpqo rfl af_pqo) _)
          refine lv_iload_n hx hb dX3_sumFor_51 rfl (lv_at hl 4 rfl) ?_
          refine hb_icmp_ne (zx := x_4.toInt) (zy := i1.toInt) (tgt := 94) hx hb rfl rfl dX3_sumFor_52 (by decide) (fun c_5 => ?_) (fun c_5 => ?_)
          · skip
            obtain ⟨x_6, ex_6⟩ : ∃ y : Int32, y = iv6_5 + Int32.ofInt 1 := ⟨_, rfl⟩
            have rg_7 := i32_r iv6_5
            have zx_6 : x_6.toInt = iv6_5.toInt + (1) := by rw [ex_6]; exact i32_add rfl (by decide) (by omega) (by omega)
            refine lv_iinc (v := x_6) (lv' := [(5, .int x_6), (6, .int (0 : Int32)), (4, .int iv6_4), (0, .ref x), (1, .int i1), (2, .int i2), (3, .int i3)]) hx hb dX3_sumFor_94 hl (k := 1) rfl ex_6.symm (by decide) rfl (fun ls hl => ?_)
            refine lv_goto (tgt := 6) hx hb dX3_sumFor_97 (by decide) ?_
            exact ih6 iv6_4 x_6 _ _ hL1 hl1 (by omega) (by omega) (by omega) (by omega) (hx_ps_no1 vi6_0 (by omega) zx_6 ax_4 rfl (by omega)) (by omega) (by omega) ls (by omega) hW hT hM   (lv_sub hl [0, 2, 3, 4, 5, 6] rfl)
          · skip
            refine lv_aload_n hx hb dX3_sumFor_55 rfl (lv_at hl 3 rfl) ?_
            refine hk_getr hx hb hts hC_3 hown hW (gx.S hM) tt_3 3 (by decide) rfl kw_236 ⟨rfl, rfl, rfl⟩ ((hM.o gx trivial rfl).2.trans f_x_3) dX3_sumFor_56 ?_
            refine lv_iload hx hb dX3_sumFor_59 (lv_at hl 1 rfl) ?_
            refine hx_iald hx hb hW hT (gpqd.S hM) tt_24 rfl ⟨by omega, by omega⟩ dX3_sumFor_61 (fun x_8 ex_8 lx_8 ux_8 => ?_)
            have ax_8 : x_8 = pdf iv6_5.toNatClampNeg := ex_8.trans (congrFun (hx_afS hM gpqd rfl af_pqd) _)
            refine lv_iload_n hx hb dX3_sumFor_62 rfl (lv_at hl 5 rfl) ?_
            refine hb_icmp_gt (zx := x_8.toInt) (zy := i2.toInt) (tgt := 94) hx hb rfl rfl dX3_sumFor_63 (by decide) (fun c_9 => ?_) (fun c_9 => ?_)
            · skip
              obtain ⟨x_10, ex_10⟩ : ∃ y : Int32, y = iv6_5 + Int32.ofInt 1 := ⟨_, rfl⟩
              have rg_11 := i32_r iv6_5
              have zx_10 : x_10.toInt = iv6_5.toInt + (1) := by rw [ex_10]; exact i32_add rfl (by decide) (by omega) (by omega)
              refine lv_iinc (v := x_10) (lv' := [(5, .int x_10), (6, .int (0 : Int32)), (4, .int iv6_4), (0, .ref x), (1, .int i1), (2, .int i2), (3, .int i3)]) hx hb dX3_sumFor_94 hl (k := 1) rfl ex_10.symm (by decide) rfl (fun ls hl => ?_)
              refine lv_goto (tgt := 6) hx hb dX3_sumFor_97 (by decide) ?_
              exact ih6 iv6_4 x_10 _ _ hL1 hl1 (by omega) (by omega) (by omega) (by omega) (hx_ps_no2 vi6_0 (by omega) zx_10 ax_8 rfl (by omega)) (by omega) (by omega) ls (by omega) hW hT hM   (lv_sub hl [0, 2, 3, 4, 5, 6] rfl)
            · skip
              refine lv_aload_n hx hb dX3_sumFor_66 rfl (lv_at hl 3 rfl) ?_
              refine hk_getr hx hb hts hC_3 hown hW (gx.S hM) tt_3 4 (by decide) rfl kw_237 ⟨rfl, rfl, rfl⟩ ((hM.o gx trivial rfl).2.trans f_x_4) dX3_sumFor_67 ?_
              refine lv_iload hx hb dX3_sumFor_70 (lv_at hl 1 rfl) ?_
              refine hx_iald hx hb hW hT (gpqk.S hM) tt_25 rfl ⟨by omega, by omega⟩ dX3_sumFor_72 (fun x_12 ex_12 lx_12 ux_12 => ?_)
              have ax_12 : x_12 = pkf iv6_5.toNatClampNeg := ex_12.trans (congrFun (hx_afS hM gpqk rfl af_pqk) _)
              refine lv_iload_n hx hb dX3_sumFor_73 rfl (lv_at hl 6 rfl) ?_
              refine hb_icmp_gt (zx := x_12.toInt) (zy := i3.toInt) (tgt := 94) hx hb rfl rfl dX3_sumFor_74 (by decide) (fun c_13 => ?_) (fun c_13 => ?_)
              · skip
                obtain ⟨x_14, ex_14⟩ : ∃ y : Int32, y = iv6_5 + Int32.ofInt 1 := ⟨_, rfl⟩
                have rg_15 := i32_r iv6_5
                have zx_14 : x_14.toInt = iv6_5.toInt + (1) := by rw [ex_14]; exact i32_add rfl (by decide) (by omega) (by omega)
                refine lv_iinc (v := x_14) (lv' := [(5, .int x_14), (6, .int (0 : Int32)), (4, .int iv6_4), (0, .ref x), (1, .int i1), (2, .int i2), (3, .int i3)]) hx hb dX3_sumFor_94 hl (k := 1) rfl ex_14.symm (by decide) rfl (fun ls hl => ?_)
                refine lv_goto (tgt := 6) hx hb dX3_sumFor_97 (by decide) ?_
                exact ih6 iv6_4 x_14 _ _ hL1 hl1 (by omega) (by omega) (by omega) (by omega) (by first | exact hx_ps_no4 vi6_0 (by omega) zx_14 ax_2 rfl (by omega) (by omega) | exact hx_ps_no3 vi6_0 (by omega) zx_14 ax_12 rfl (by omega)) (by omega) (by omega) ls (by omega) hW hT hM   (lv_sub hl [0, 2, 3, 4, 5, 6] rfl)
              · skip
                refine lv_iload hx hb dX3_sumFor_77 (lv_at hl 0 rfl) ?_
                refine hb_if_ne (zx := 0) (tgt := 94) hx hb (by decide) dX3_sumFor_79 (by decide) (fun c_16 => absurd c_16 (by decide)) (fun c_16 => ?_)
                refine lv_iload hx hb dX3_sumFor_82 (lv_at hl 2 rfl) ?_
                refine lv_aload_n hx hb dX3_sumFor_84 rfl (lv_at hl 3 rfl) ?_
                refine hk_getr hx hb hts hC_3 hown hW (gx.S hM) tt_3 5 (by decide) rfl kw_238 ⟨rfl, rfl, rfl⟩ ((hM.o gx trivial rfl).2.trans f_x_5) dX3_sumFor_85 ?_
                refine lv_iload hx hb dX3_sumFor_88 (lv_at hl 1 rfl) ?_
                refine hx_iald hx hb hW hT (gpqs.S hM) tt_26 rfl ⟨by omega, by omega⟩ dX3_sumFor_90 (fun x_17 ex_17 lx_17 ux_17 => ?_)
                have ax_17 : x_17 = psm iv6_5.toNatClampNeg := ex_17.trans (congrFun (hx_afS hM gpqs rfl af_pqs) _)
                have hb9 := hps iv6_5.toNatClampNeg (by unfold Int32.toNatClampNeg; omega); rw [← ax_17] at hb9
                refine lv_iadd hx hb dX3_sumFor_91 ?_
                have rg_18 := i32_r iv6_4
                have rg_19 := i32_r x_17
                refine lv_topi (fun x_20 ex_20 => ?_)
                have zx_20 : x_20.toInt = iv6_4.toInt + x_17.toInt := by rw [ex_20]; exact i32_add rfl rfl (by omega) (by omega)
                refine lv_istore (lv' := [(4, .int x_20), (6, .int (0 : Int32)), (5, .int iv6_5), (0, .ref x), (1, .int i1), (2, .int i2), (3, .int i3)]) hx hb dX3_sumFor_92 hl (by decide) rfl (fun ls hl => ?_)
                obtain ⟨x_21, ex_21⟩ : ∃ y : Int32, y = iv6_5 + Int32.ofInt 1 := ⟨_, rfl⟩
                have rg_22 := i32_r iv6_5
                have zx_21 : x_21.toInt = iv6_5.toInt + (1) := by rw [ex_21]; exact i32_add rfl (by decide) (by omega) (by omega)
                refine lv_iinc (v := x_21) (lv' := [(5, .int x_21), (4, .int x_20), (6, .int (0 : Int32)), (0, .ref x), (1, .int i1), (2, .int i2), (3, .int i3)]) hx hb dX3_sumFor_94 hl (k := 2) rfl ex_21.symm (by decide) rfl (fun ls hl => ?_)
                refine lv_goto (tgt := 6) hx hb dX3_sumFor_97 (by decide) ?_
                exact ih6 x_20 x_21 _ _ hL1 hl1 (by omega) (by omega) (by omega) (by omega) (hx_ps_yes vi6_0 (by omega) zx_21 rfl ax_4 ax_8 ax_12 ax_2 ax_17 (by omega) (by omega) (by omega) (by omega) (by omega)) (by omega) (by omega) ls (by omega) hW hT hM   (lv_sub hl [0, 1, 3, 4, 5, 6] rfl)
        · skip
          refine lv_aload_n hx hb dX3_sumFor_26 rfl (lv_at hl 2 rfl) ?_
          refine hk_getr hx hb hts hC_3 hown hW (gx.S hM) tt_3 1 (by decide) rfl kw_233 ⟨rfl, rfl, rfl⟩ ((hM.o gx trivial rfl).2.trans f_x_1) dX3_sumFor_27 ?_
          refine lv_iload hx hb dX3_sumFor_30 (lv_at hl 0 rfl) ?_
          refine hx_iald hx hb hW hT (gpqt.S hM) tt_22 rfl ⟨by omega, by omega⟩ dX3_sumFor_32 (fun x_23 ex_23 lx_23 ux_23 => ?_)
          have ax_23 : x_23 = pst iv6_5.toNatClampNeg := ex_23.trans (congrFun (hx_afS hM gpqt rfl af_pqt) _)
          obtain rfl : x_2 = x_23 := ex_2.trans ex_23.symm
          refine lv_iload_n hx hb dX3_sumFor_33 rfl (lv_at hl 5 rfl) ?_
          refine hb_icmp_gt (zx := x_2.toInt) (zy := i3.toInt) (tgt := 41) hx hb rfl rfl dX3_sumFor_34 (by decide) (fun c_24 => ?_) (fun c_24 => ?_)
          · skip
            refine lv_iconst (v := 0) hx hb dX3_sumFor_41 (by decide) ?_
            refine lv_istore (lv' := [(6, .int (0 : Int32)), (5, .int iv6_5), (4, .int iv6_4), (0, .ref x), (1, .int i1), (2, .int i2), (3, .int i3)]) hx hb dX3_sumFor_42 hl (by decide) rfl (fun ls hl => ?_)
            refine lv_aload_n hx hb dX3_sumFor_44 rfl (lv_at hl 3 rfl) ?_
            refine hk_getr hx hb hts hC_3 hown hW (gx.S hM) tt_3 2 (by decide) rfl kw_235 ⟨rfl, rfl, rfl⟩ ((hM.o gx trivial rfl).2.trans f_x_2) dX3_sumFor_45 ?_
            refine lv_iload hx hb dX3_sumFor_48 (lv_at hl 1 rfl) ?_
            refine hx_iald hx hb hW hT (gpqo.S hM) tt_23 rfl ⟨by omega, by omega⟩ dX3_sumFor_50 (fun x_25 ex_25 lx_25 ux_25 => ?_)
            have ax_25 : x_25 = pof iv6_5.toNatClampNeg := ex_25.trans (congrFun (hx_afS hM gpqo rfl af_pqo) _)
            refine lv_iload_n hx hb dX3_sumFor_51 rfl (lv_at hl 4 rfl) ?_
            refine hb_icmp_ne (zx := x_25.toInt) (zy := i1.toInt) (tgt := 94) hx hb rfl rfl dX3_sumFor_52 (by decide) (fun c_26 => ?_) (fun c_26 => ?_)
            · skip
              obtain ⟨x_27, ex_27⟩ : ∃ y : Int32, y = iv6_5 + Int32.ofInt 1 := ⟨_, rfl⟩
              have rg_28 := i32_r iv6_5
              have zx_27 : x_27.toInt = iv6_5.toInt + (1) := by rw [ex_27]; exact i32_add rfl (by decide) (by omega) (by omega)
              refine lv_iinc (v := x_27) (lv' := [(5, .int x_27), (6, .int (0 : Int32)), (4, .int iv6_4), (0, .ref x), (1, .int i1), (2, .int i2), (3, .int i3)]) hx hb dX3_sumFor_94 hl (k := 1) rfl ex_27.symm (by decide) rfl (fun ls hl => ?_)
              refine lv_goto (tgt := 6) hx hb dX3_sumFor_97 (by decide) ?_
              exact ih6 iv6_4 x_27 _ _ hL1 hl1 (by omega) (by omega) (by omega) (by omega) (hx_ps_no1 vi6_0 (by omega) zx_27 ax_25 rfl (by omega)) (by omega) (by omega) ls (by omega) hW hT hM   (lv_sub hl [0, 2, 3, 4, 5, 6] rfl)
            · skip
              refine lv_aload_n hx hb dX3_sumFor_55 rfl (lv_at hl 3 rfl) ?_
              refine hk_getr hx hb hts hC_3 hown hW (gx.S hM) tt_3 3 (by decide) rfl kw_236 ⟨rfl, rfl, rfl⟩ ((hM.o gx trivial rfl).2.trans f_x_3) dX3_sumFor_56 ?_
              refine lv_iload hx hb dX3_sumFor_59 (lv_at hl 1 rfl) ?_
              refine hx_iald hx hb hW hT (gpqd.S hM) tt_24 rfl ⟨by omega, by omega⟩ dX3_sumFor_61 (fun x_29 ex_29 lx_29 ux_29 => ?_)
              have ax_29 : x_29 = pdf iv6_5.toNatClampNeg := ex_29.trans (congrFun (hx_afS hM gpqd rfl af_pqd) _)
              refine lv_iload_n hx hb dX3_sumFor_62 rfl (lv_at hl 5 rfl) ?_
              refine hb_icmp_gt (zx := x_29.toInt) (zy := i2.toInt) (tgt := 94) hx hb rfl rfl dX3_sumFor_63 (by decide) (fun c_30 => ?_) (fun c_30 => ?_)
              · skip
                obtain ⟨x_31, ex_31⟩ : ∃ y : Int32, y = iv6_5 + Int32.ofInt 1 := ⟨_, rfl⟩
                have rg_32 := i32_r iv6_5
                have zx_31 : x_31.toInt = iv6_5.toInt + (1) := by rw [ex_31]; exact i32_add rfl (by decide) (by omega) (by omega)
                refine lv_iinc (v := x_31) (lv' := [(5, .int x_31), (6, .int (0 : Int32)), (4, .int iv6_4), (0, .ref x), (1, .int i1), (2, .int i2), (3, .int i3)]) hx hb dX3_sumFor_94 hl (k := 1) rfl ex_31.symm (by decide) rfl (fun ls hl => ?_)
                refine lv_goto (tgt := 6) hx hb dX3_sumFor_97 (by decide) ?_
                exact ih6 iv6_4 x_31 _ _ hL1 hl1 (by omega) (by omega) (by omega) (by omega) (hx_ps_no2 vi6_0 (by omega) zx_31 ax_29 rfl (by omega)) (by omega) (by omega) ls (by omega) hW hT hM   (lv_sub hl [0, 2, 3, 4, 5, 6] rfl)
              · skip
                refine lv_aload_n hx hb dX3_sumFor_66 rfl (lv_at hl 3 rfl) ?_
                refine hk_getr hx hb hts hC_3 hown hW (gx.S hM) tt_3 4 (by decide) rfl kw_237 ⟨rfl, rfl, rfl⟩ ((hM.o gx trivial rfl).2.trans f_x_4) dX3_sumFor_67 ?_
                refine lv_iload hx hb dX3_sumFor_70 (lv_at hl 1 rfl) ?_
                refine hx_iald hx hb hW hT (gpqk.S hM) tt_25 rfl ⟨by omega, by omega⟩ dX3_sumFor_72 (fun x_33 ex_33 lx_33 ux_33 => ?_)
                have ax_33 : x_33 = pkf iv6_5.toNatClampNeg := ex_33.trans (congrFun (hx_afS hM gpqk rfl af_pqk) _)
                refine lv_iload_n hx hb dX3_sumFor_73 rfl (lv_at hl 6 rfl) ?_
                refine hb_icmp_gt (zx := x_33.toInt) (zy := i3.toInt) (tgt := 94) hx hb rfl rfl dX3_sumFor_74 (by decide) (fun c_34 => ?_) (fun c_34 => ?_)
                · skip
                  obtain ⟨x_35, ex_35⟩ : ∃ y : Int32, y = iv6_5 + Int32.ofInt 1 := ⟨_, rfl⟩
                  have rg_36 := i32_r iv6_5
                  have zx_35 : x_35.toInt = iv6_5.toInt + (1) := by rw [ex_35]; exact i32_add rfl (by decide) (by omega) (by omega)
                  refine lv_iinc (v := x_35) (lv' := [(5, .int x_35), (6, .int (0 : Int32)), (4, .int iv6_4), (0, .ref x), (1, .int i1), (2, .int i2), (3, .int i3)]) hx hb dX3_sumFor_94 hl (k := 1) rfl ex_35.symm (by decide) rfl (fun ls hl => ?_)
                  refine lv_goto (tgt := 6) hx hb dX3_sumFor_97 (by decide) ?_
                  exact ih6 iv6_4 x_35 _ _ hL1 hl1 (by omega) (by omega) (by omega) (by omega) (by first | exact hx_ps_no4 vi6_0 (by omega) zx_35 ax_2 rfl (by omega) (by omega) | exact hx_ps_no3 vi6_0 (by omega) zx_35 ax_33 rfl (by omega)) (by omega) (by omega) ls (by omega) hW hT hM   (lv_sub hl [0, 2, 3, 4, 5, 6] rfl)
                · skip
                  refine lv_iload hx hb dX3_sumFor_77 (lv_at hl 0 rfl) ?_
                  refine hb_if_ne (zx := 0) (tgt := 94) hx hb (by decide) dX3_sumFor_79 (by decide) (fun c_37 => absurd c_37 (by decide)) (fun c_37 => ?_)
                  refine lv_iload hx hb dX3_sumFor_82 (lv_at hl 2 rfl) ?_
                  refine lv_aload_n hx hb dX3_sumFor_84 rfl (lv_at hl 3 rfl) ?_
                  refine hk_getr hx hb hts hC_3 hown hW (gx.S hM) tt_3 5 (by decide) rfl kw_238 ⟨rfl, rfl, rfl⟩ ((hM.o gx trivial rfl).2.trans f_x_5) dX3_sumFor_85 ?_
                  refine lv_iload hx hb dX3_sumFor_88 (lv_at hl 1 rfl) ?_
                  refine hx_iald hx hb hW hT (gpqs.S hM) tt_26 rfl ⟨by omega, by omega⟩ dX3_sumFor_90 (fun x_38 ex_38 lx_38 ux_38 => ?_)
                  have ax_38 : x_38 = psm iv6_5.toNatClampNeg := ex_38.trans (congrFun (hx_afS hM gpqs rfl af_pqs) _)
                  have hb9 := hps iv6_5.toNatClampNeg (by unfold Int32.toNatClampNeg; omega); rw [← ax_38] at hb9
                  refine lv_iadd hx hb dX3_sumFor_91 ?_
                  have rg_39 := i32_r iv6_4
                  have rg_40 := i32_r x_38
                  refine lv_topi (fun x_41 ex_41 => ?_)
                  have zx_41 : x_41.toInt = iv6_4.toInt + x_38.toInt := by rw [ex_41]; exact i32_add rfl rfl (by omega) (by omega)
                  refine lv_istore (lv' := [(4, .int x_41), (6, .int (0 : Int32)), (5, .int iv6_5), (0, .ref x), (1, .int i1), (2, .int i2), (3, .int i3)]) hx hb dX3_sumFor_92 hl (by decide) rfl (fun ls hl => ?_)
                  obtain ⟨x_42, ex_42⟩ : ∃ y : Int32, y = iv6_5 + Int32.ofInt 1 := ⟨_, rfl⟩
                  have rg_43 := i32_r iv6_5
                  have zx_42 : x_42.toInt = iv6_5.toInt + (1) := by rw [ex_42]; exact i32_add rfl (by decide) (by omega) (by omega)
                  refine lv_iinc (v := x_42) (lv' := [(5, .int x_42), (4, .int x_41), (6, .int (0 : Int32)), (0, .ref x), (1, .int i1), (2, .int i2), (3, .int i3)]) hx hb dX3_sumFor_94 hl (k := 2) rfl ex_42.symm (by decide) rfl (fun ls hl => ?_)
                  refine lv_goto (tgt := 6) hx hb dX3_sumFor_97 (by decide) ?_
                  exact ih6 x_41 x_42 _ _ hL1 hl1 (by omega) (by omega) (by omega) (by omega) (hx_ps_yes vi6_0 (by omega) zx_42 rfl ax_25 ax_29 ax_33 ax_2 ax_38 (by omega) (by omega) (by omega) (by omega) (by omega)) (by omega) (by omega) ls (by omega) hW hT hM   (lv_sub hl [0, 1, 3, 4, 5, 6] rfl)
          · skip
            refine lv_iconst (v := 1) hx hb dX3_sumFor_37 (by decide) ?_
            refine lv_goto (tgt := 42) hx hb dX3_sumFor_38 (by decide) ?_
            refine lv_istore (lv' := [(6, .int (1 : Int32)), (5, .int iv6_5), (4, .int iv6_4), (0, .ref x), (1, .int i1), (2, .int i2), (3, .int i3)]) hx hb dX3_sumFor_42 hl (by decide) rfl (fun ls hl => ?_)
            refine lv_aload_n hx hb dX3_sumFor_44 rfl (lv_at hl 3 rfl) ?_
            refine hk_getr hx hb hts hC_3 hown hW (gx.S hM) tt_3 2 (by decide) rfl kw_235 ⟨rfl, rfl, rfl⟩ ((hM.o gx trivial rfl).2.trans f_x_2) dX3_sumFor_45 ?_
            refine lv_iload hx hb dX3_sumFor_48 (lv_at hl 1 rfl) ?_
            refine hx_iald hx hb hW hT (gpqo.S hM) tt_23 rfl ⟨by omega, by omega⟩ dX3_sumFor_50 (fun x_44 ex_44 lx_44 ux_44 => ?_)
            have ax_44 : x_44 = pof iv6_5.toNatClampNeg := ex_44.trans (congrFun (hx_afS hM gpqo rfl af_pqo) _)
            refine lv_iload_n hx hb dX3_sumFor_51 rfl (lv_at hl 4 rfl) ?_
            refine hb_icmp_ne (zx := x_44.toInt) (zy := i1.toInt) (tgt := 94) hx hb rfl rfl dX3_sumFor_52 (by decide) (fun c_45 => ?_) (fun c_45 => ?_)
            · skip
              obtain ⟨x_46, ex_46⟩ : ∃ y : Int32, y = iv6_5 + Int32.ofInt 1 := ⟨_, rfl⟩
              have rg_47 := i32_r iv6_5
              have zx_46 : x_46.toInt = iv6_5.toInt + (1) := by rw [ex_46]; exact i32_add rfl (by decide) (by omega) (by omega)
              refine lv_iinc (v := x_46) (lv' := [(5, .int x_46), (6, .int (1 : Int32)), (4, .int iv6_4), (0, .ref x), (1, .int i1), (2, .int i2), (3, .int i3)]) hx hb dX3_sumFor_94 hl (k := 1) rfl ex_46.symm (by decide) rfl (fun ls hl => ?_)
              refine lv_goto (tgt := 6) hx hb dX3_sumFor_97 (by decide) ?_
              exact ih6 iv6_4 x_46 _ _ hL1 hl1 (by omega) (by omega) (by omega) (by omega) (hx_ps_no1 vi6_0 (by omega) zx_46 ax_44 rfl (by omega)) (by omega) (by omega) ls (by omega) hW hT hM   (lv_sub hl [0, 2, 3, 4, 5, 6] rfl)
            · skip
              refine lv_aload_n hx hb dX3_sumFor_55 rfl (lv_at hl 3 rfl) ?_
              refine hk_getr hx hb hts hC_3 hown hW (gx.S hM) tt_3 3 (by decide) rfl kw_236 ⟨rfl, rfl, rfl⟩ ((hM.o gx trivial rfl).2.trans f_x_3) dX3_sumFor_56 ?_
              refine lv_iload hx hb dX3_sumFor_59 (lv_at hl 1 rfl) ?_
              refine hx_iald hx hb hW hT (gpqd.S hM) tt_24 rfl ⟨by omega, by omega⟩ dX3_sumFor_61 (fun x_48 ex_48 lx_48 ux_48 => ?_)
              have ax_48 : x_48 = pdf iv6_5.toNatClampNeg := ex_48.trans (congrFun (hx_afS hM gpqd rfl af_pqd) _)
              refine lv_iload_n hx hb dX3_sumFor_62 rfl (lv_at hl 5 rfl) ?_
              refine hb_icmp_gt (zx := x_48.toInt) (zy := i2.toInt) (tgt := 94) hx hb rfl rfl dX3_sumFor_63 (by decide) (fun c_49 => ?_) (fun c_49 => ?_)
              · skip
                obtain ⟨x_50, ex_50⟩ : ∃ y : Int32, y = iv6_5 + Int32.ofInt 1 := ⟨_, rfl⟩
                have rg_51 := i32_r iv6_5
                have zx_50 : x_50.toInt = iv6_5.toInt + (1) := by rw [ex_50]; exact i32_add rfl (by decide) (by omega) (by omega)
                refine lv_iinc (v := x_50) (lv' := [(5, .int x_50), (6, .int (1 : Int32)), (4, .int iv6_4), (0, .ref x), (1, .int i1), (2, .int i2), (3, .int i3)]) hx hb dX3_sumFor_94 hl (k := 1) rfl ex_50.symm (by decide) rfl (fun ls hl => ?_)
                refine lv_goto (tgt := 6) hx hb dX3_sumFor_97 (by decide) ?_
                exact ih6 iv6_4 x_50 _ _ hL1 hl1 (by omega) (by omega) (by omega) (by omega) (hx_ps_no2 vi6_0 (by omega) zx_50 ax_48 rfl (by omega)) (by omega) (by omega) ls (by omega) hW hT hM   (lv_sub hl [0, 2, 3, 4, 5, 6] rfl)
              · skip
                refine lv_aload_n hx hb dX3_sumFor_66 rfl (lv_at hl 3 rfl) ?_
                refine hk_getr hx hb hts hC_3 hown hW (gx.S hM) tt_3 4 (by decide) rfl kw_237 ⟨rfl, rfl, rfl⟩ ((hM.o gx trivial rfl).2.trans f_x_4) dX3_sumFor_67 ?_
                refine lv_iload hx hb dX3_sumFor_70 (lv_at hl 1 rfl) ?_
                refine hx_iald hx hb hW hT (gpqk.S hM) tt_25 rfl ⟨by omega, by omega⟩ dX3_sumFor_72 (fun x_52 ex_52 lx_52 ux_52 => ?_)
                have ax_52 : x_52 = pkf iv6_5.toNatClampNeg := ex_52.trans (congrFun (hx_afS hM gpqk rfl af_pqk) _)
                refine lv_iload_n hx hb dX3_sumFor_73 rfl (lv_at hl 6 rfl) ?_
                refine hb_icmp_gt (zx := x_52.toInt) (zy := i3.toInt) (tgt := 94) hx hb rfl rfl dX3_sumFor_74 (by decide) (fun c_53 => ?_) (fun c_53 => ?_)
                · skip
                  obtain ⟨x_54, ex_54⟩ : ∃ y : Int32, y = iv6_5 + Int32.ofInt 1 := ⟨_, rfl⟩
                  have rg_55 := i32_r iv6_5
                  have zx_54 : x_54.toInt = iv6_5.toInt + (1) := by rw [ex_54]; exact i32_add rfl (by decide) (by omega) (by omega)
                  refine lv_iinc (v := x_54) (lv' := [(5, .int x_54), (6, .int (1 : Int32)), (4, .int iv6_4), (0, .ref x), (1, .int i1), (2, .int i2), (3, .int i3)]) hx hb dX3_sumFor_94 hl (k := 1) rfl ex_54.symm (by decide) rfl (fun ls hl => ?_)
                  refine lv_goto (tgt := 6) hx hb dX3_sumFor_97 (by decide) ?_
                  exact ih6 iv6_4 x_54 _ _ hL1 hl1 (by omega) (by omega) (by omega) (by omega) (by first | exact hx_ps_no4 vi6_0 (by omega) zx_54 ax_2 rfl (by omega) (by omega) | exact hx_ps_no3 vi6_0 (by omega) zx_54 ax_52 rfl (by omega)) (by omega) (by omega) ls (by omega) hW hT hM   (lv_sub hl [0, 2, 3, 4, 5, 6] rfl)
                · skip
                  refine lv_iload hx hb dX3_sumFor_77 (lv_at hl 0 rfl) ?_
                  refine hb_if_ne (zx := 1) (tgt := 94) hx hb (by decide) dX3_sumFor_79 (by decide) (fun c_56 => ?_) (fun c_56 => absurd c_56 (by decide))
                  obtain ⟨x_57, ex_57⟩ : ∃ y : Int32, y = iv6_5 + Int32.ofInt 1 := ⟨_, rfl⟩
                  have rg_58 := i32_r iv6_5
                  have zx_57 : x_57.toInt = iv6_5.toInt + (1) := by rw [ex_57]; exact i32_add rfl (by decide) (by omega) (by omega)
                  refine lv_iinc (v := x_57) (lv' := [(5, .int x_57), (6, .int (1 : Int32)), (4, .int iv6_4), (0, .ref x), (1, .int i1), (2, .int i2), (3, .int i3)]) hx hb dX3_sumFor_94 hl (k := 1) rfl ex_57.symm (by decide) rfl (fun ls hl => ?_)
                  refine lv_goto (tgt := 6) hx hb dX3_sumFor_97 (by decide) ?_
                  exact ih6 iv6_4 x_57 _ _ hL1 hl1 (by omega) (by omega) (by omega) (by omega) (by first | exact hx_ps_no4 vi6_0 (by omega) zx_57 ax_2 rfl (by omega) (by omega) | exact hx_ps_no3 vi6_0 (by omega) zx_57 ax_52 rfl (by omega)) (by omega) (by omega) ls (by omega) hW hT hM   (lv_sub hl [0, 2, 3, 4, 5, 6] rfl)
  have zk_0 : (0 : Int32).toInt = 0 := by decide
  have zk_0 : (0 : Int32).toInt = 0 := by decide
  exact loop6 601 (0 : Int32) (0 : Int32) _ _ L h (by decide) (by decide) (by decide) (by decide) (by rw [zk_0]; rfl) (by omega) (by omega) ls (by omega) hW hT hM   hl


set_option maxHeartbeats 4000000 in
set_option maxRecDepth 100000 in
theorem t_X2_paidOn_v (l : Launch) (dC : Nat → ClassId) (dI : Nat → Nat → Nat) (dA : Nat → ClassId) (L : List Nat) (h : hx_h) (sz : Nat) (x : Nat) (v1 : Nat) (i1 : Int32) (i2 : Int32) (hT : hx_T T_tb L h) (gx : hx_g L h x 2) (gv1 : hx_g L h v1 3) (pqo : Nat) (gpqo : hx_g L h pqo 23) (f_v1_2 : h.2.2 v1 2 = some pqo) (pqd : Nat) (gpqd : hx_g L h pqd 24) (f_v1_3 : h.2.2 v1 3 = some pqd) (pqs : Nat) (gpqs : hx_g L h pqs 26) (f_v1_5 : h.2.2 v1 5 = some pqs) (pqk : Nat) (gpqk : hx_g L h pqk 25) (f_v1_4 : h.2.2 v1 4 = some pqk) (pqt : Nat) (gpqt : hx_g L h pqt 22) (f_v1_1 : h.2.2 v1 1 = some pqt) (pof : Nat → Int32) (af_pqo : h.2.1 pqo = pof) (pdf : Nat → Int32) (af_pqd : h.2.1 pqd = pdf) (psm : Nat → Int32) (af_pqs : h.2.1 pqs = psm) (pkf : Nat → Int32) (af_pqk : h.2.1 pqk = pkf) (pst : Nat → Int32) (af_pqt : h.2.1 pqt = pst) (od : Int32) (f_x_13 : h.2.1 x 13 = od) (sei : Int32) (f_x_16 : h.2.1 x 16 = sei) (gd : Int32) (f_x_17 : h.2.1 x 17 = gd) (nm : Int32) (f_x_0 : h.2.1 x 0 = nm) (n0 : Int32) (f_v1_0 : h.2.1 v1 0 = n0) (hgd : 0 ≤ gd.toInt ∧ gd.toInt ≤ 9999) (hps : ∀ j, j < 600 → 0 ≤ (psm j).toInt ∧ (psm j).toInt ≤ 610000) : Met l yX2_paidOn (Cond.code yX2_paidOn cX2_paidOn 5 (some .int) :: hx_all) ({ frames := 1, cells := 0, slots := 0, locals := 26 }) (va_Pc [.ref x, .ref v1, .int i1, .int i2] (hx_B T_tb (P_ty dA) (dC, dI) vwCl L h sz)) (va_Qi (fun (r : Int32) (u : List Nat × hx_h) => (r.toInt = hz_pdy od.toInt sei.toInt gd.toInt i1.toInt (hx_ps pof pdf psm pkf pst i1.toInt i2.toInt nm.toInt n0.toInt.toNat) ∧ (0 ≤ r.toInt ∧ r.toInt ≤ 366100000)) ∧ hx_T T_tb u.1 u.2 ∧ hx_S T_tb [] L h u.1 u.2) (hx_E T_tb (P_ty dA) (dC, dI) vwCl (hx_A L sz)) (hx_A L sz)) 0 0 (hx_A L sz) := by
  refine hx_met (lv := [(0, .ref x), (1, .ref v1), (2, .int i1), (3, .int i2)]) (by decide +kernel) rfl (Nat.le_of_ble_eq_true rfl) rfl ?_
  intro p e s m below meth c hx hb hml hr hlk hts0 hown hin hsz hW ls hl
  have hts : ∀ w ∈ hx_all, w.before _ s = true := fun w hw => hts0 w (List.mem_cons_of_mem _ hw)
  have hown : s.vm.findClass "SmallCourt$Claim" = some m.cls := hown
  have hM : hx_S T_tb [] L h L h := hx_S.rf
  have b_od := hT.gi gx tt_2 (k := 13) rfl
  rw [f_x_13] at b_od
  have b_od : -2147483648 ≤ od.toInt ∧ od.toInt ≤ 2147483647 := b_od
  have b_sei := hT.gi gx tt_2 (k := 16) rfl
  rw [f_x_16] at b_sei
  have b_sei : -2147483648 ≤ sei.toInt ∧ sei.toInt ≤ 2147483647 := b_sei
  have b_gd := hT.gi gx tt_2 (k := 17) rfl
  rw [f_x_17] at b_gd
  have b_gd : -2147483648 ≤ gd.toInt ∧ gd.toInt ≤ 2147483647 := b_gd
  have b_nm := hT.gi gx tt_2 (k := 0) rfl
  rw [f_x_0] at b_nm
  have b_nm : 0 ≤ nm.toInt ∧ nm.toInt ≤ 99 := b_nm
  have b_n0 := hT.gi gv1 tt_3 (k := 0) rfl
  rw [f_v1_0] at b_n0
  have b_n0 : 0 ≤ n0.toInt ∧ n0.toInt ≤ 600 := b_n0
  refine lv_aload_n hx hb dX2_paidOn_0 rfl (lv_at hl 0 rfl) ?_
  refine hk_geti hx hb hts hC_2 hown hW (gx.S hM) tt_2 16 (by decide) rfl kw_758 ⟨rfl, rfl, rfl⟩ ((hM.o gx trivial rfl).1.trans f_x_16) dX2_paidOn_1 ?_
  refine lv_iload_n hx hb dX2_paidOn_4 rfl (lv_at hl 2 rfl) ?_
  refine hx_goi (hx_runS (As := [.int sei, .int i1]) (rest := []) ⟨hx, hb, hml, hown, hts⟩ hW (t_X2_isDone_v l dC dI dA L h s.heap.size sei i1 hT) (va_cwS 2 hts (hx_gS kw_864 kw_862 kw_863 kw_110) rfl rfl rfl (by decide +kernel) ⟨Nat.le_of_ble_eq_true rfl, Nat.le_of_ble_eq_true rfl⟩) rfl hl.1 rfl (Nat.le_of_ble_eq_true rfl) dX2_paidOn_5 ⟨Nat.le_of_ble_eq_true rfl, Nat.le_of_ble_eq_true rfl⟩) hW (fun r_3 L_1 h_2 H locs p_4 hW => ?_)
  obtain ⟨hr_5, hT, hs⟩ := p_4
  replace hT : hx_T T_tb L_1 h_2 := hT
  replace hs : hx_S T_tb [] L h L_1 h_2 := hs
  replace hM := hM.tr (hs.mono (by decide))
  refine hb_if_eq (zx := r_3.toInt) (tgt := 18) hx hb rfl dX2_paidOn_8 (by decide) (fun c_6 => ?_) (fun c_6 => ?_)
  · skip
    replace hr_5 := hr_5.resolve_left (fun z => by have := z.1; omega)
    refine lv_iconst (v := 0) hx hb dX2_paidOn_18 (by decide) ?_
    refine lv_istore (lv' := [(4, .int (0 : Int32)), (0, .ref x), (1, .ref v1), (2, .int i1), (3, .int i2)]) hx hb dX2_paidOn_19 hl (by decide) rfl (fun ls hl => ?_)
    refine lv_aload_n hx hb dX2_paidOn_21 rfl (lv_at hl 1 rfl) ?_
    refine hk_geti hx hb hts hC_2 hown hW (gx.S hM) tt_2 13 (by decide) rfl kw_752 ⟨rfl, rfl, rfl⟩ ((hM.o gx trivial rfl).1.trans f_x_13) dX2_paidOn_22 ?_
    refine lv_iload_n hx hb dX2_paidOn_25 rfl (lv_at hl 3 rfl) ?_
    refine hx_goi (hx_runS (As := [.int od, .int i1]) (rest := []) ⟨hx, hb, hml, hown, hts⟩ hW (t_X2_isDone_v l dC dI dA L_1 h_2 H.size od i1 hT) (va_cwS 2 hts (hx_gS kw_864 kw_862 kw_863 kw_110) rfl rfl rfl (by decide +kernel) ⟨Nat.le_of_ble_eq_true rfl, Nat.le_of_ble_eq_true rfl⟩) rfl hl.1 rfl (Nat.le_of_ble_eq_true rfl) dX2_paidOn_26 ⟨Nat.le_of_ble_eq_true rfl, Nat.le_of_ble_eq_true rfl⟩) hW (fun r_9 L_7 h_8 H locs p_10 hW => ?_)
    obtain ⟨hr_11, hT, hs⟩ := p_10
    replace hT : hx_T T_tb L_7 h_8 := hT
    replace hs : hx_S T_tb [] L_1 h_2 L_7 h_8 := hs
    replace hM := hM.tr (hs.mono (by decide))
    refine hb_if_eq (zx := r_9.toInt) (tgt := 48) hx hb rfl dX2_paidOn_29 (by decide) (fun c_12 => ?_) (fun c_12 => ?_)
    · skip
      replace hr_11 := hr_11.resolve_left (fun z => by have := z.1; omega)
      refine lv_iconst (v := 0) hx hb dX2_paidOn_48 (by decide) ?_
      exact hx_reti hx hb hr hlk hW ⟨(by have zr : (0 : Int32).toInt = 0 := (by decide); exact ⟨(by unfold hz_pdy; (repeat' split) <;> omega), by omega, by omega⟩), hT, hM⟩ dX2_paidOn_49
    · skip
      replace hr_11 := hr_11.resolve_right (fun z => by have := z.1; omega)
      refine lv_aload_n hx hb dX2_paidOn_32 rfl (lv_at hl 2 rfl) ?_
      refine lv_aload_n hx hb dX2_paidOn_33 rfl (lv_at hl 1 rfl) ?_
      refine hk_geti hx hb hts hC_2 hown hW (gx.S hM) tt_2 0 (by decide) rfl kw_721 ⟨rfl, rfl, rfl⟩ ((hM.o gx trivial rfl).1.trans f_x_0) dX2_paidOn_34 ?_
      refine lv_iload_n hx hb dX2_paidOn_37 rfl (lv_at hl 3 rfl) ?_
      refine lv_iload_n hx hb dX2_paidOn_38 rfl (lv_at hl 4 rfl) ?_
      refine hx_goi (hx_runV (As := [.int nm, .int i1, .int i2]) (rest := []) ⟨hx, hb, hml, hown, hts⟩ hW (gv1.S hM) tt_3 (T := TX3) (N := 6) rfl (t_X3_sumFor_v l dC dI dA L_7 h_8 H.size v1 nm i1 i2 hT (gv1.S hM) pqo (gpqo.S hM) ((hM.o gv1 trivial rfl).2.trans f_v1_2) pqd (gpqd.S hM) ((hM.o gv1 trivial rfl).2.trans f_v1_3) pqs (gpqs.S hM) ((hM.o gv1 trivial rfl).2.trans f_v1_5) pqk (gpqk.S hM) ((hM.o gv1 trivial rfl).2.trans f_v1_4) pqt (gpqt.S hM) ((hM.o gv1 trivial rfl).2.trans f_v1_1) pof (hx_afS hM gpqo rfl af_pqo) pdf (hx_afS hM gpqd rfl af_pqd) psm (hx_afS hM gpqs rfl af_pqs) pkf (hx_afS hM gpqk rfl af_pqk) pst (hx_afS hM gpqt rfl af_pqt) n0 ((hM.o gv1 trivial rfl).1.trans f_v1_0) hps) (cwV 3 hts (hx_gV kw_880 kw_877 kw_878 kw_879 kw_99) rfl rfl rfl (by decide +kernel) ⟨Nat.le_of_ble_eq_true rfl, Nat.le_of_ble_eq_true rfl⟩) rfl hl.1 rfl (Nat.le_of_ble_eq_true rfl) dX2_paidOn_39 ⟨Nat.le_of_ble_eq_true rfl, Nat.le_of_ble_eq_true rfl⟩) hW (fun r_15 L_13 h_14 H locs p_16 hW => ?_)
      obtain ⟨hr_17, hT, hs⟩ := p_16
      replace hT : hx_T T_tb L_13 h_14 := hT
      replace hs : hx_S T_tb [] L_7 h_8 L_13 h_14 := hs
      replace hM := hM.tr (hs.mono (by decide))
      refine lv_iload hx hb dX2_paidOn_42 (lv_at hl 0 rfl) ?_
      refine lv_iadd hx hb dX2_paidOn_44 ?_
      have rg_18 := i32_r r_15
      refine lv_topi (fun x_19 ex_19 => ?_)
      have zx_19 : x_19.toInt = r_15.toInt + 0 := by rw [ex_19]; exact i32_add rfl (by decide) (by omega) (by omega)
      refine lv_goto (tgt := 49) hx hb dX2_paidOn_45 (by decide) ?_
      exact hx_reti hx hb hr hlk hW ⟨⟨(by unfold hz_pdy; (repeat' split) <;> omega), by omega, by omega⟩, hT, hM⟩ dX2_paidOn_49
  · skip
    replace hr_5 := hr_5.resolve_right (fun z => by have := z.1; omega)
    refine lv_aload_n hx hb dX2_paidOn_11 rfl (lv_at hl 0 rfl) ?_
    refine hk_geti hx hb hts hC_2 hown hW (gx.S hM) tt_2 17 (by decide) rfl kw_760 ⟨rfl, rfl, rfl⟩ ((hM.o gx trivial rfl).1.trans f_x_17) dX2_paidOn_12 ?_
    refine lv_goto (tgt := 19) hx hb dX2_paidOn_15 (by decide) ?_
    refine lv_istore (lv' := [(4, .int gd), (0, .ref x), (1, .ref v1), (2, .int i1), (3, .int i2)]) hx hb dX2_paidOn_19 hl (by decide) rfl (fun ls hl => ?_)
    refine lv_aload_n hx hb dX2_paidOn_21 rfl (lv_at hl 1 rfl) ?_
    refine hk_geti hx hb hts hC_2 hown hW (gx.S hM) tt_2 13 (by decide) rfl kw_752 ⟨rfl, rfl, rfl⟩ ((hM.o gx trivial rfl).1.trans f_x_13) dX2_paidOn_22 ?_
    refine lv_iload_n hx hb dX2_paidOn_25 rfl (lv_at hl 3 rfl) ?_
    refine hx_goi (hx_runS (As := [.int od, .int i1]) (rest := []) ⟨hx, hb, hml, hown, hts⟩ hW (t_X2_isDone_v l dC dI dA L_1 h_2 H.size od i1 hT) (va_cwS 2 hts (hx_gS kw_864 kw_862 kw_863 kw_110) rfl rfl rfl (by decide +kernel) ⟨Nat.le_of_ble_eq_true rfl, Nat.le_of_ble_eq_true rfl⟩) rfl hl.1 rfl (Nat.le_of_ble_eq_true rfl) dX2_paidOn_26 ⟨Nat.le_of_ble_eq_true rfl, Nat.le_of_ble_eq_true rfl⟩) hW (fun r_22 L_20 h_21 H locs p_23 hW => ?_)
    obtain ⟨hr_24, hT, hs⟩ := p_23
    replace hT : hx_T T_tb L_20 h_21 := hT
    replace hs : hx_S T_tb [] L_1 h_2 L_20 h_21 := hs
    replace hM := hM.tr (hs.mono (by decide))
    refine hb_if_eq (zx := r_22.toInt) (tgt := 48) hx hb rfl dX2_paidOn_29 (by decide) (fun c_25 => ?_) (fun c_25 => ?_)
    · skip
      replace hr_24 := hr_24.resolve_left (fun z => by have := z.1; omega)
      refine lv_iconst (v := 0) hx hb dX2_paidOn_48 (by decide) ?_
      exact hx_reti hx hb hr hlk hW ⟨(by have zr : (0 : Int32).toInt = 0 := (by decide); exact ⟨(by unfold hz_pdy; (repeat' split) <;> omega), by omega, by omega⟩), hT, hM⟩ dX2_paidOn_49
    · skip
      replace hr_24 := hr_24.resolve_right (fun z => by have := z.1; omega)
      refine lv_aload_n hx hb dX2_paidOn_32 rfl (lv_at hl 2 rfl) ?_
      refine lv_aload_n hx hb dX2_paidOn_33 rfl (lv_at hl 1 rfl) ?_
      refine hk_geti hx hb hts hC_2 hown hW (gx.S hM) tt_2 0 (by decide) rfl kw_721 ⟨rfl, rfl, rfl⟩ ((hM.o gx trivial rfl).1.trans f_x_0) dX2_paidOn_34 ?_
      refine lv_iload_n hx hb dX2_paidOn_37 rfl (lv_at hl 3 rfl) ?_
      refine lv_iload_n hx hb dX2_paidOn_38 rfl (lv_at hl 4 rfl) ?_
      refine hx_goi (hx_runV (As := [.int nm, .int i1, .int i2]) (rest := []) ⟨hx, hb, hml, hown, hts⟩ hW (gv1.S hM) tt_3 (T := TX3) (N := 6) rfl (t_X3_sumFor_v l dC dI dA L_20 h_21 H.size v1 nm i1 i2 hT (gv1.S hM) pqo (gpqo.S hM) ((hM.o gv1 trivial rfl).2.trans f_v1_2) pqd (gpqd.S hM) ((hM.o gv1 trivial rfl).2.trans f_v1_3) pqs (gpqs.S hM) ((hM.o gv1 trivial rfl).2.trans f_v1_5) pqk (gpqk.S hM) ((hM.o gv1 trivial rfl).2.trans f_v1_4) pqt (gpqt.S hM) ((hM.o gv1 trivial rfl).2.trans f_v1_1) pof (hx_afS hM gpqo rfl af_pqo) pdf (hx_afS hM gpqd rfl af_pqd) psm (hx_afS hM gpqs rfl af_pqs) pkf (hx_afS hM gpqk rfl af_pqk) pst (hx_afS hM gpqt rfl af_pqt) n0 ((hM.o gv1 trivial rfl).1.trans f_v1_0) hps) (cwV 3 hts (hx_gV kw_880 kw_877 kw_878 kw_879 kw_99) rfl rfl rfl (by decide +kernel) ⟨Nat.le_of_ble_eq_true rfl, Nat.le_of_ble_eq_true rfl⟩) rfl hl.1 rfl (Nat.le_of_ble_eq_true rfl) dX2_paidOn_39 ⟨Nat.le_of_ble_eq_true rfl, Nat.le_of_ble_eq_true rfl⟩) hW (fun r_28 L_26 h_27 H locs p_29 hW => ?_)
      obtain ⟨hr_30, hT, hs⟩ := p_29
      replace hT : hx_T T_tb L_26 h_27 := hT
      replace hs : hx_S T_tb [] L_20 h_21 L_26 h_27 := hs
      replace hM := hM.tr (hs.mono (by decide))
      refine lv_iload hx hb dX2_paidOn_42 (lv_at hl 0 rfl) ?_
      refine lv_iadd hx hb dX2_paidOn_44 ?_
      have rg_31 := i32_r r_28
      have rg_32 := i32_r gd
      refine lv_topi (fun x_33 ex_33 => ?_)
      have zx_33 : x_33.toInt = r_28.toInt + gd.toInt := by rw [ex_33]; exact i32_add rfl rfl (by omega) (by omega)
      refine lv_goto (tgt := 49) hx hb dX2_paidOn_45 (by decide) ?_
      exact hx_reti hx hb hr hlk hW ⟨⟨(by unfold hz_pdy; (repeat' split) <;> omega), by omega, by omega⟩, hT, hM⟩ dX2_paidOn_49


set_option maxHeartbeats 4000000 in
set_option maxRecDepth 100000 in
theorem t_X2_owedOn_v (l : Launch) (dC : Nat → ClassId) (dI : Nat → Nat → Nat) (dA : Nat → ClassId) (L : List Nat) (h : hx_h) (sz : Nat) (x : Nat) (i1 : Int32) (hT : hx_T T_tb L h) (gx : hx_g L h x 2) (qac : Nat) (gqac : hx_g L h qac 0) (f_x_3 : h.2.2 x 3 = some qac) (qt : Nat) (gqt : hx_g L h qt 11) (f_qac_2 : h.2.2 qac 2 = some qt) (tf : Nat → Int32) (af_qt : h.2.1 qt = tf) (sei : Int32) (f_x_16 : h.2.1 x 16 = sei) (ow : Int32) (f_x_15 : h.2.1 x 15 = ow) (R : Nat → Int) (hR : hv_rC tf = R) (hRb : ∀ k, 0 ≤ R k ∧ R k ≤ 9999) (how : 0 ≤ ow.toInt ∧ ow.toInt ≤ 600000) : Met l yX2_owedOn (Cond.code yX2_owedOn cX2_owedOn 2 (some .int) :: hx_all) ({ frames := 1, cells := 0, slots := 0, locals := 21 }) (va_Pc [.ref x, .int i1] (hx_B T_tb (P_ty dA) (dC, dI) vwCl L h sz)) (va_Qi (fun (r : Int32) (u : List Nat × hx_h) => (r.toInt = hz_al ow.toInt sei.toInt (R 12) i1.toInt ∧ (0 ≤ r.toInt ∧ r.toInt ≤ 609999)) ∧ hx_T T_tb u.1 u.2 ∧ hx_S T_tb [] L h u.1 u.2) (hx_E T_tb (P_ty dA) (dC, dI) vwCl (hx_A L sz)) (hx_A L sz)) 0 0 (hx_A L sz) := by
  refine hx_met (lv := [(0, .ref x), (1, .int i1)]) (by decide +kernel) rfl (Nat.le_of_ble_eq_true rfl) rfl ?_
  intro p e s m below meth c hx hb hml hr hlk hts0 hown hin hsz hW ls hl
  have hts : ∀ w ∈ hx_all, w.before _ s = true := fun w hw => hts0 w (List.mem_cons_of_mem _ hw)
  have hown : s.vm.findClass "SmallCourt$Claim" = some m.cls := hown
  have hM : hx_S T_tb [] L h L h := hx_S.rf
  have b_sei := hT.gi gx tt_2 (k := 16) rfl
  rw [f_x_16] at b_sei
  have b_sei : -2147483648 ≤ sei.toInt ∧ sei.toInt ≤ 2147483647 := b_sei
  have b_ow := hT.gi gx tt_2 (k := 15) rfl
  rw [f_x_15] at b_ow
  have b_ow : -2147483648 ≤ ow.toInt ∧ ow.toInt ≤ 2147483647 := b_ow
  refine lv_aload_n hx hb dX2_owedOn_0 rfl (lv_at hl 0 rfl) ?_
  refine hk_geti hx hb hts hC_2 hown hW (gx.S hM) tt_2 16 (by decide) rfl kw_758 ⟨rfl, rfl, rfl⟩ ((hM.o gx trivial rfl).1.trans f_x_16) dX2_owedOn_1 ?_
  refine lv_iload_n hx hb dX2_owedOn_4 rfl (lv_at hl 1 rfl) ?_
  refine hx_goi (hx_runS (As := [.int sei, .int i1]) (rest := []) ⟨hx, hb, hml, hown, hts⟩ hW (t_X2_isDone_v l dC dI dA L h s.heap.size sei i1 hT) (va_cwS 2 hts (hx_gS kw_864 kw_862 kw_863 kw_110) rfl rfl rfl (by decide +kernel) ⟨Nat.le_of_ble_eq_true rfl, Nat.le_of_ble_eq_true rfl⟩) rfl hl.1 rfl (Nat.le_of_ble_eq_true rfl) dX2_owedOn_5 ⟨Nat.le_of_ble_eq_true rfl, Nat.le_of_ble_eq_true rfl⟩) hW (fun r_3 L_1 h_2 H locs p_4 hW => ?_)
  obtain ⟨hr_5, hT, hs⟩ := p_4
  replace hT : hx_T T_tb L_1 h_2 := hT
  replace hs : hx_S T_tb [] L h L_1 h_2 := hs
  replace hM := hM.tr (hs.mono (by decide))
  refine hb_if_eq (zx := r_3.toInt) (tgt := 29) hx hb rfl dX2_owedOn_8 (by decide) (fun c_6 => ?_) (fun c_6 => ?_)
  · skip
    replace hr_5 := hr_5.resolve_left (fun z => by have := z.1; omega)
    refine lv_aload_n hx hb dX2_owedOn_29 rfl (lv_at hl 0 rfl) ?_
    refine hk_geti hx hb hts hC_2 hown hW (gx.S hM) tt_2 15 (by decide) rfl kw_756 ⟨rfl, rfl, rfl⟩ ((hM.o gx trivial rfl).1.trans f_x_15) dX2_owedOn_30 ?_
    exact hx_reti hx hb hr hlk hW ⟨⟨(by unfold hz_al; (repeat' split) <;> omega), by omega, by omega⟩, hT, hM⟩ dX2_owedOn_33
  · skip
    replace hr_5 := hr_5.resolve_right (fun z => by have := z.1; omega)
    refine lv_aload_n hx hb dX2_owedOn_11 rfl (lv_at hl 0 rfl) ?_
    refine hk_geti hx hb hts hC_2 hown hW (gx.S hM) tt_2 15 (by decide) rfl kw_756 ⟨rfl, rfl, rfl⟩ ((hM.o gx trivial rfl).1.trans f_x_15) dX2_owedOn_12 ?_
    refine lv_aload_n hx hb dX2_owedOn_15 rfl (lv_at hl 0 rfl) ?_
    refine hk_getr hx hb hts hC_2 hown hW (gx.S hM) tt_2 3 (by decide) rfl kw_734 ⟨rfl, rfl, rfl⟩ ((hM.o gx trivial rfl).2.trans f_x_3) dX2_owedOn_16 ?_
    refine hk_getr hx hb hts hC_0 hown hW (gqac.S hM) tt_0 2 (by decide) rfl kw_167 ⟨rfl, rfl, rfl⟩ ((hM.o gqac trivial rfl).2.trans f_qac_2) dX2_owedOn_19 ?_
    refine lv_bipush (v := 13) hx hb dX2_owedOn_22 (by decide) ?_
    refine hx_iald hx hb hW hT (gqt.S hM) tt_11 rfl (by decide) dX2_owedOn_24 (fun x_7 ex_7 lx_7 ux_7 => ?_)
    have ax_7 : x_7 = tf (13 : Int32).toNatClampNeg := ex_7.trans (congrFun (hx_afS hM gqt rfl af_qt) _)
    have hR_8 : x_7.toInt = R 12 := by rw [← hR, ax_7, show (13 : Int32).toNatClampNeg = 13 from by decide]; rfl
    have hR_8b := hRb 12
    rw [← hR_8] at hR_8b
    refine lv_iadd hx hb dX2_owedOn_25 ?_
    have rg_9 := i32_r ow
    have rg_10 := i32_r x_7
    refine lv_topi (fun x_11 ex_11 => ?_)
    have zx_11 : x_11.toInt = ow.toInt + x_7.toInt := by rw [ex_11]; exact i32_add rfl rfl (by omega) (by omega)
    refine lv_goto (tgt := 33) hx hb dX2_owedOn_26 (by decide) ?_
    exact hx_reti hx hb hr hlk hW ⟨⟨(by unfold hz_al; rw [← hR_8]; (repeat' split) <;> omega), by omega, by omega⟩, hT, hM⟩ dX2_owedOn_33


set_option maxHeartbeats 4000000 in
set_option maxRecDepth 100000 in
theorem t_X2_balanceOn_v (l : Launch) (dC : Nat → ClassId) (dI : Nat → Nat → Nat) (dA : Nat → ClassId) (L : List Nat) (h : hx_h) (sz : Nat) (x : Nat) (v1 : Nat) (i1 : Int32) (i2 : Int32) (hT : hx_T T_tb L h) (gx : hx_g L h x 2) (gv1 : hx_g L h v1 3) (pqo : Nat) (gpqo : hx_g L h pqo 23) (f_v1_2 : h.2.2 v1 2 = some pqo) (pqd : Nat) (gpqd : hx_g L h pqd 24) (f_v1_3 : h.2.2 v1 3 = some pqd) (pqs : Nat) (gpqs : hx_g L h pqs 26) (f_v1_5 : h.2.2 v1 5 = some pqs) (pqk : Nat) (gpqk : hx_g L h pqk 25) (f_v1_4 : h.2.2 v1 4 = some pqk) (pqt : Nat) (gpqt : hx_g L h pqt 22) (f_v1_1 : h.2.2 v1 1 = some pqt) (qac : Nat) (gqac : hx_g L h qac 0) (f_x_3 : h.2.2 x 3 = some qac) (qt : Nat) (gqt : hx_g L h qt 11) (f_qac_2 : h.2.2 qac 2 = some qt) (pof : Nat → Int32) (af_pqo : h.2.1 pqo = pof) (pdf : Nat → Int32) (af_pqd : h.2.1 pqd = pdf) (psm : Nat → Int32) (af_pqs : h.2.1 pqs = psm) (pkf : Nat → Int32) (af_pqk : h.2.1 pqk = pkf) (pst : Nat → Int32) (af_pqt : h.2.1 pqt = pst) (tf : Nat → Int32) (af_qt : h.2.1 qt = tf) (od : Int32) (f_x_13 : h.2.1 x 13 = od) (sei : Int32) (f_x_16 : h.2.1 x 16 = sei) (gd : Int32) (f_x_17 : h.2.1 x 17 = gd) (ow : Int32) (f_x_15 : h.2.1 x 15 = ow) (nm : Int32) (f_x_0 : h.2.1 x 0 = nm) (n0 : Int32) (f_v1_0 : h.2.1 v1 0 = n0) (R : Nat → Int) (hR : hv_rC tf = R) (hRb : ∀ k, 0 ≤ R k ∧ R k ≤ 9999) (how : 0 ≤ ow.toInt ∧ ow.toInt ≤ 600000) (hgd : 0 ≤ gd.toInt ∧ gd.toInt ≤ 9999) (hps : ∀ j, j < 600 → 0 ≤ (psm j).toInt ∧ (psm j).toInt ≤ 610000) : Met l yX2_balanceOn (Cond.code yX2_balanceOn cX2_balanceOn 4 (some .int) :: hx_all) ({ frames := 2, cells := 0, slots := 0, locals := 50 }) (va_Pc [.ref x, .ref v1, .int i1, .int i2] (hx_B T_tb (P_ty dA) (dC, dI) vwCl L h sz)) (va_Qi (fun (r : Int32) (u : List Nat × hx_h) => (r.toInt = hz_bl od.toInt sei.toInt gd.toInt ow.toInt (R 12) i1.toInt (hx_ps pof pdf psm pkf pst i1.toInt i2.toInt nm.toInt n0.toInt.toNat) ∧ (-366100000 ≤ r.toInt ∧ r.toInt ≤ 609999)) ∧ hx_T T_tb u.1 u.2 ∧ hx_S T_tb [] L h u.1 u.2) (hx_E T_tb (P_ty dA) (dC, dI) vwCl (hx_A L sz)) (hx_A L sz)) 0 0 (hx_A L sz) := by
  refine hx_met (lv := [(0, .ref x), (1, .ref v1), (2, .int i1), (3, .int i2)]) (by decide +kernel) rfl (Nat.le_of_ble_eq_true rfl) rfl ?_
  intro p e s m below meth c hx hb hml hr hlk hts0 hown hin hsz hW ls hl
  have hts : ∀ w ∈ hx_all, w.before _ s = true := fun w hw => hts0 w (List.mem_cons_of_mem _ hw)
  have hown : s.vm.findClass "SmallCourt$Claim" = some m.cls := hown
  have hM : hx_S T_tb [] L h L h := hx_S.rf
  have b_od := hT.gi gx tt_2 (k := 13) rfl
  rw [f_x_13] at b_od
  have b_od : -2147483648 ≤ od.toInt ∧ od.toInt ≤ 2147483647 := b_od
  have b_sei := hT.gi gx tt_2 (k := 16) rfl
  rw [f_x_16] at b_sei
  have b_sei : -2147483648 ≤ sei.toInt ∧ sei.toInt ≤ 2147483647 := b_sei
  have b_gd := hT.gi gx tt_2 (k := 17) rfl
  rw [f_x_17] at b_gd
  have b_gd : -2147483648 ≤ gd.toInt ∧ gd.toInt ≤ 2147483647 := b_gd
  have b_ow := hT.gi gx tt_2 (k := 15) rfl
  rw [f_x_15] at b_ow
  have b_ow : -2147483648 ≤ ow.toInt ∧ ow.toInt ≤ 2147483647 := b_ow
  have b_nm := hT.gi gx tt_2 (k := 0) rfl
  rw [f_x_0] at b_nm
  have b_nm : 0 ≤ nm.toInt ∧ nm.toInt ≤ 99 := b_nm
  have b_n0 := hT.gi gv1 tt_3 (k := 0) rfl
  rw [f_v1_0] at b_n0
  have b_n0 : 0 ≤ n0.toInt ∧ n0.toInt ≤ 600 := b_n0
  refine lv_aload_n hx hb dX2_balanceOn_0 rfl (lv_at hl 0 rfl) ?_
  refine hk_geti hx hb hts hC_2 hown hW (gx.S hM) tt_2 13 (by decide) rfl kw_752 ⟨rfl, rfl, rfl⟩ ((hM.o gx trivial rfl).1.trans f_x_13) dX2_balanceOn_1 ?_
  refine lv_iload_n hx hb dX2_balanceOn_4 rfl (lv_at hl 2 rfl) ?_
  refine hx_goi (hx_runS (As := [.int od, .int i1]) (rest := []) ⟨hx, hb, hml, hown, hts⟩ hW (t_X2_isDone_v l dC dI dA L h s.heap.size od i1 hT) (va_cwS 2 hts (hx_gS kw_864 kw_862 kw_863 kw_110) rfl rfl rfl (by decide +kernel) ⟨Nat.le_of_ble_eq_true rfl, Nat.le_of_ble_eq_true rfl⟩) rfl hl.1 rfl (Nat.le_of_ble_eq_true rfl) dX2_balanceOn_5 ⟨Nat.le_of_ble_eq_true rfl, Nat.le_of_ble_eq_true rfl⟩) hW (fun r_3 L_1 h_2 H locs p_4 hW => ?_)
  obtain ⟨hr_5, hT, hs⟩ := p_4
  replace hT : hx_T T_tb L_1 h_2 := hT
  replace hs : hx_S T_tb [] L h L_1 h_2 := hs
  replace hM := hM.tr (hs.mono (by decide))
  refine hb_if_eq (zx := r_3.toInt) (tgt := 27) hx hb rfl dX2_balanceOn_8 (by decide) (fun c_6 => ?_) (fun c_6 => ?_)
  · skip
    replace hr_5 := hr_5.resolve_left (fun z => by have := z.1; omega)
    refine lv_iconst (v := 0) hx hb dX2_balanceOn_27 (by decide) ?_
    exact hx_reti hx hb hr hlk hW ⟨(by have zr : (0 : Int32).toInt = 0 := (by decide); exact ⟨(by unfold hz_bl; (repeat' split) <;> omega), by omega, by omega⟩), hT, hM⟩ dX2_balanceOn_28
  · skip
    replace hr_5 := hr_5.resolve_right (fun z => by have := z.1; omega)
    refine lv_aload_n hx hb dX2_balanceOn_11 rfl (lv_at hl 0 rfl) ?_
    refine lv_iload_n hx hb dX2_balanceOn_12 rfl (lv_at hl 2 rfl) ?_
    refine hx_goi (hx_runV (As := [.int i1]) (rest := []) ⟨hx, hb, hml, hown, hts⟩ hW (gx.S hM) tt_2 (T := TX2) (N := 19) rfl (t_X2_owedOn_v l dC dI dA L_1 h_2 H.size x i1 hT (gx.S hM) qac (gqac.S hM) ((hM.o gx trivial rfl).2.trans f_x_3) qt (gqt.S hM) ((hM.o gqac trivial rfl).2.trans f_qac_2) tf (hx_afS hM gqt rfl af_qt) sei ((hM.o gx trivial rfl).1.trans f_x_16) ow ((hM.o gx trivial rfl).1.trans f_x_15) R hR hRb ⟨by omega, by omega⟩) (cwV 1 hts (hx_gV kw_872 kw_869 kw_871 kw_31 kw_110) rfl rfl rfl (by decide +kernel) ⟨Nat.le_of_ble_eq_true rfl, Nat.le_of_ble_eq_true rfl⟩) rfl hl.1 rfl (Nat.le_of_ble_eq_true rfl) dX2_balanceOn_13 ⟨Nat.le_of_ble_eq_true rfl, Nat.le_of_ble_eq_true rfl⟩) hW (fun r_9 L_7 h_8 H locs p_10 hW => ?_)
    obtain ⟨hr_11, hT, hs⟩ := p_10
    replace hT : hx_T T_tb L_7 h_8 := hT
    replace hs : hx_S T_tb [] L_1 h_2 L_7 h_8 := hs
    replace hM := hM.tr (hs.mono (by decide))
    refine lv_aload_n hx hb dX2_balanceOn_16 rfl (lv_at hl 0 rfl) ?_
    refine lv_aload_n hx hb dX2_balanceOn_17 rfl (lv_at hl 1 rfl) ?_
    refine lv_iload_n hx hb dX2_balanceOn_18 rfl (lv_at hl 2 rfl) ?_
    refine lv_iload_n hx hb dX2_balanceOn_19 rfl (lv_at hl 3 rfl) ?_
    refine hx_goi (hx_runV (As := [.ref v1, .int i1, .int i2]) (rest := [.int r_9]) ⟨hx, hb, hml, hown, hts⟩ hW (gx.S hM) tt_2 (T := TX2) (N := 19) rfl (t_X2_paidOn_v l dC dI dA L_7 h_8 H.size x v1 i1 i2 hT (gx.S hM) (gv1.S hM) pqo (gpqo.S hM) ((hM.o gv1 trivial rfl).2.trans f_v1_2) pqd (gpqd.S hM) ((hM.o gv1 trivial rfl).2.trans f_v1_3) pqs (gpqs.S hM) ((hM.o gv1 trivial rfl).2.trans f_v1_5) pqk (gpqk.S hM) ((hM.o gv1 trivial rfl).2.trans f_v1_4) pqt (gpqt.S hM) ((hM.o gv1 trivial rfl).2.trans f_v1_1) pof (hx_afS hM gpqo rfl af_pqo) pdf (hx_afS hM gpqd rfl af_pqd) psm (hx_afS hM gpqs rfl af_pqs) pkf (hx_afS hM gpqk rfl af_pqk) pst (hx_afS hM gpqt rfl af_pqt) od ((hM.o gx trivial rfl).1.trans f_x_13) sei ((hM.o gx trivial rfl).1.trans f_x_16) gd ((hM.o gx trivial rfl).1.trans f_x_17) nm ((hM.o gx trivial rfl).1.trans f_x_0) n0 ((hM.o gv1 trivial rfl).1.trans f_v1_0) ⟨by omega, by omega⟩ hps) (cwV 3 hts (hx_gV kw_876 kw_873 kw_874 kw_875 kw_110) rfl rfl rfl (by decide +kernel) ⟨Nat.le_of_ble_eq_true rfl, Nat.le_of_ble_eq_true rfl⟩) rfl hl.1 rfl (Nat.le_of_ble_eq_true rfl) dX2_balanceOn_20 ⟨Nat.le_of_ble_eq_true rfl, Nat.le_of_ble_eq_true rfl⟩) hW (fun r_14 L_12 h_13 H locs p_15 hW => ?_)
    obtain ⟨hr_16, hT, hs⟩ := p_15
    replace hT : hx_T T_tb L_12 h_13 := hT
    replace hs : hx_S T_tb [] L_7 h_8 L_12 h_13 := hs
    replace hM := hM.tr (hs.mono (by decide))
    refine lv_isub hx hb dX2_balanceOn_23 ?_
    have rg_17 := i32_r r_9
    have rg_18 := i32_r r_14
    refine lv_topi (fun x_19 ex_19 => ?_)
    have zx_19 : x_19.toInt = r_9.toInt - r_14.toInt := by rw [ex_19]; exact i32_sub rfl rfl (by omega) (by omega)
    refine lv_goto (tgt := 28) hx hb dX2_balanceOn_24 (by decide) ?_
    exact hx_reti hx hb hr hlk hW ⟨⟨(by unfold hz_bl; (repeat' split) <;> omega), by omega, by omega⟩, hT, hM⟩ dX2_balanceOn_28


set_option maxHeartbeats 4000000 in
set_option maxRecDepth 100000 in
theorem t_X2_restOn_v (l : Launch) (dC : Nat → ClassId) (dI : Nat → Nat → Nat) (dA : Nat → ClassId) (L : List Nat) (h : hx_h) (sz : Nat) (x : Nat) (v1 : Nat) (i1 : Int32) (i2 : Int32) (hT : hx_T T_tb L h) (gx : hx_g L h x 2) (gv1 : hx_g L h v1 3) (pqo : Nat) (gpqo : hx_g L h pqo 23) (f_v1_2 : h.2.2 v1 2 = some pqo) (pqd : Nat) (gpqd : hx_g L h pqd 24) (f_v1_3 : h.2.2 v1 3 = some pqd) (pqs : Nat) (gpqs : hx_g L h pqs 26) (f_v1_5 : h.2.2 v1 5 = some pqs) (pqk : Nat) (gpqk : hx_g L h pqk 25) (f_v1_4 : h.2.2 v1 4 = some pqk) (pqt : Nat) (gpqt : hx_g L h pqt 22) (f_v1_1 : h.2.2 v1 1 = some pqt) (qac : Nat) (gqac : hx_g L h qac 0) (f_x_3 : h.2.2 x 3 = some qac) (qt : Nat) (gqt : hx_g L h qt 11) (f_qac_2 : h.2.2 qac 2 = some qt) (pof : Nat → Int32) (af_pqo : h.2.1 pqo = pof) (pdf : Nat → Int32) (af_pqd : h.2.1 pqd = pdf) (psm : Nat → Int32) (af_pqs : h.2.1 pqs = psm) (pkf : Nat → Int32) (af_pqk : h.2.1 pqk = pkf) (pst : Nat → Int32) (af_pqt : h.2.1 pqt = pst) (tf : Nat → Int32) (af_qt : h.2.1 qt = tf) (od : Int32) (f_x_13 : h.2.1 x 13 = od) (sei : Int32) (f_x_16 : h.2.1 x 16 = sei) (gd : Int32) (f_x_17 : h.2.1 x 17 = gd) (ow : Int32) (f_x_15 : h.2.1 x 15 = ow) (sv : Int32) (f_x_18 : h.2.1 x 18 = sv) (nm : Int32) (f_x_0 : h.2.1 x 0 = nm) (n0 : Int32) (f_v1_0 : h.2.1 v1 0 = n0) (R : Nat → Int) (hR : hv_rC tf = R) (hRb : ∀ k, 0 ≤ R k ∧ R k ≤ 9999) (how : 0 ≤ ow.toInt ∧ ow.toInt ≤ 600000) (hgd : 0 ≤ gd.toInt ∧ gd.toInt ≤ 9999) (hps : ∀ j, j < 600 → 0 ≤ (psm j).toInt ∧ (psm j).toInt ≤ 610000) : Met l yX2_restOn (Cond.code yX2_restOn cX2_restOn 4 (some .int) :: hx_all) ({ frames := 3, cells := 0, slots := 0, locals := 73 }) (va_Pc [.ref x, .ref v1, .int i1, .int i2] (hx_B T_tb (P_ty dA) (dC, dI) vwCl L h sz)) (va_Qi (fun (r : Int32) (u : List Nat × hx_h) => (r.toInt = hz_rs sv.toInt (hz_bl od.toInt sei.toInt gd.toInt ow.toInt (R 12) i1.toInt (hx_ps pof pdf psm pkf pst i1.toInt i2.toInt nm.toInt n0.toInt.toNat)) i1.toInt ∧ (0 ≤ r.toInt ∧ r.toInt ≤ 609999)) ∧ hx_T T_tb u.1 u.2 ∧ hx_S T_tb [] L h u.1 u.2) (hx_E T_tb (P_ty dA) (dC, dI) vwCl (hx_A L sz)) (hx_A L sz)) 0 0 (hx_A L sz) := by
  refine hx_met (lv := [(0, .ref x), (1, .ref v1), (2, .int i1), (3, .int i2)]) (by decide +kernel) rfl (Nat.le_of_ble_eq_true rfl) rfl ?_
  intro p e s m below meth c hx hb hml hr hlk hts0 hown hin hsz hW ls hl
  have hts : ∀ w ∈ hx_all, w.before _ s = true := fun w hw => hts0 w (List.mem_cons_of_mem _ hw)
  have hown : s.vm.findClass "SmallCourt$Claim" = some m.cls := hown
  have hM : hx_S T_tb [] L h L h := hx_S.rf
  have b_od := hT.gi gx tt_2 (k := 13) rfl
  rw [f_x_13] at b_od
  have b_od : -2147483648 ≤ od.toInt ∧ od.toInt ≤ 2147483647 := b_od
  have b_sei := hT.gi gx tt_2 (k := 16) rfl
  rw [f_x_16] at b_sei
  have b_sei : -2147483648 ≤ sei.toInt ∧ sei.toInt ≤ 2147483647 := b_sei
  have b_gd := hT.gi gx tt_2 (k := 17) rfl
  rw [f_x_17] at b_gd
  have b_gd : -2147483648 ≤ gd.toInt ∧ gd.toInt ≤ 2147483647 := b_gd
  have b_ow := hT.gi gx tt_2 (k := 15) rfl
  rw [f_x_15] at b_ow
  have b_ow : -2147483648 ≤ ow.toInt ∧ ow.toInt ≤ 2147483647 := b_ow
  have b_sv := hT.gi gx tt_2 (k := 18) rfl
  rw [f_x_18] at b_sv
  have b_sv : -2147483648 ≤ sv.toInt ∧ sv.toInt ≤ 2147483647 := b_sv
  have b_nm := hT.gi gx tt_2 (k := 0) rfl
  rw [f_x_0] at b_nm
  have b_nm : 0 ≤ nm.toInt ∧ nm.toInt ≤ 99 := b_nm
  have b_n0 := hT.gi gv1 tt_3 (k := 0) rfl
  rw [f_v1_0] at b_n0
  have b_n0 : 0 ≤ n0.toInt ∧ n0.toInt ≤ 600 := b_n0
  refine lv_aload_n hx hb dX2_restOn_0 rfl (lv_at hl 0 rfl) ?_
  refine hk_geti hx hb hts hC_2 hown hW (gx.S hM) tt_2 18 (by decide) rfl kw_762 ⟨rfl, rfl, rfl⟩ ((hM.o gx trivial rfl).1.trans f_x_18) dX2_restOn_1 ?_
  refine lv_iload_n hx hb dX2_restOn_4 rfl (lv_at hl 2 rfl) ?_
  refine hx_goi (hx_runS (As := [.int sv, .int i1]) (rest := []) ⟨hx, hb, hml, hown, hts⟩ hW (t_X2_isDone_v l dC dI dA L h s.heap.size sv i1 hT) (va_cwS 2 hts (hx_gS kw_864 kw_862 kw_863 kw_110) rfl rfl rfl (by decide +kernel) ⟨Nat.le_of_ble_eq_true rfl, Nat.le_of_ble_eq_true rfl⟩) rfl hl.1 rfl (Nat.le_of_ble_eq_true rfl) dX2_restOn_5 ⟨Nat.le_of_ble_eq_true rfl, Nat.le_of_ble_eq_true rfl⟩) hW (fun r_3 L_1 h_2 H locs p_4 hW => ?_)
  obtain ⟨hr_5, hT, hs⟩ := p_4
  replace hT : hx_T T_tb L_1 h_2 := hT
  replace hs : hx_S T_tb [] L h L_1 h_2 := hs
  replace hM := hM.tr (hs.mono (by decide))
  refine hb_if_eq (zx := r_3.toInt) (tgt := 15) hx hb rfl dX2_restOn_8 (by decide) (fun c_6 => ?_) (fun c_6 => ?_)
  · skip
    replace hr_5 := hr_5.resolve_left (fun z => by have := z.1; omega)
    refine lv_iconst (v := 0) hx hb dX2_restOn_15 (by decide) ?_
    refine lv_aload_n hx hb dX2_restOn_16 rfl (lv_at hl 0 rfl) ?_
    refine lv_aload_n hx hb dX2_restOn_17 rfl (lv_at hl 1 rfl) ?_
    refine lv_iload_n hx hb dX2_restOn_18 rfl (lv_at hl 2 rfl) ?_
    refine lv_iload_n hx hb dX2_restOn_19 rfl (lv_at hl 3 rfl) ?_
    have zc_0 : (0 : Int32).toInt = 0 := by decide
    refine hx_goi (hx_runV (As := [.ref v1, .int i1, .int i2]) (rest := [.int (0 : Int32)]) ⟨hx, hb, hml, hown, hts⟩ hW (gx.S hM) tt_2 (T := TX2) (N := 19) rfl (t_X2_balanceOn_v l dC dI dA L_1 h_2 H.size x v1 i1 i2 hT (gx.S hM) (gv1.S hM) pqo (gpqo.S hM) ((hM.o gv1 trivial rfl).2.trans f_v1_2) pqd (gpqd.S hM) ((hM.o gv1 trivial rfl).2.trans f_v1_3) pqs (gpqs.S hM) ((hM.o gv1 trivial rfl).2.trans f_v1_5) pqk (gpqk.S hM) ((hM.o gv1 trivial rfl).2.trans f_v1_4) pqt (gpqt.S hM) ((hM.o gv1 trivial rfl).2.trans f_v1_1) qac (gqac.S hM) ((hM.o gx trivial rfl).2.trans f_x_3) qt (gqt.S hM) ((hM.o gqac trivial rfl).2.trans f_qac_2) pof (hx_afS hM gpqo rfl af_pqo) pdf (hx_afS hM gpqd rfl af_pqd) psm (hx_afS hM gpqs rfl af_pqs) pkf (hx_afS hM gpqk rfl af_pqk) pst (hx_afS hM gpqt rfl af_pqt) tf (hx_afS hM gqt rfl af_qt) od ((hM.o gx trivial rfl).1.trans f_x_13) sei ((hM.o gx trivial rfl).1.trans f_x_16) gd ((hM.o gx trivial rfl).1.trans f_x_17) ow ((hM.o gx trivial rfl).1.trans f_x_15) nm ((hM.o gx trivial rfl).1.trans f_x_0) n0 ((hM.o gv1 trivial rfl).1.trans f_v1_0) R hR hRb ⟨by omega, by omega⟩ ⟨by omega, by omega⟩ hps) (cwV 3 hts (hx_gV kw_868 kw_865 kw_866 kw_867 kw_110) rfl rfl rfl (by decide +kernel) ⟨Nat.le_of_ble_eq_true rfl, Nat.le_of_ble_eq_true rfl⟩) rfl hl.1 rfl (Nat.le_of_ble_eq_true rfl) dX2_restOn_20 ⟨Nat.le_of_ble_eq_true rfl, Nat.le_of_ble_eq_true rfl⟩) hW (fun r_9 L_7 h_8 H locs p_10 hW => ?_)
    obtain ⟨hr_11, hT, hs⟩ := p_10
    replace hT : hx_T T_tb L_7 h_8 := hT
    replace hs : hx_S T_tb [] L_1 h_2 L_7 h_8 := hs
    replace hM := hM.tr (hs.mono (by decide))
    refine va_mmax hx hb (hml.trans hl.1.symm) hown (hts _ kw_881) (hts _ kw_882) (hts _ kw_109) (hts _ kw_883) (Nat.le_of_ble_eq_true rfl) (Nat.le_of_ble_eq_true rfl) (Nat.le_of_ble_eq_true rfl) (Nat.le_of_ble_eq_true rfl) dX2_restOn_23 ?_
    refine lv_topi (fun x_12 ex_12 => ?_)
    have hmx9 := hz_mx_e ex_12; rw [show (0 : Int32).toInt = 0 from by decide] at hmx9
    exact hx_reti hx hb hr hlk hW ⟨⟨(by unfold hz_rs; (repeat' split) <;> omega), by omega, by omega⟩, hT, hM⟩ dX2_restOn_26
  · skip
    replace hr_5 := hr_5.resolve_right (fun z => by have := z.1; omega)
    refine lv_iconst (v := 0) hx hb dX2_restOn_11 (by decide) ?_
    refine lv_goto (tgt := 26) hx hb dX2_restOn_12 (by decide) ?_
    exact hx_reti hx hb hr hlk hW ⟨(by have zr : (0 : Int32).toInt = 0 := (by decide); exact ⟨(by unfold hz_rs; (repeat' split) <;> omega), by omega, by omega⟩), hT, hM⟩ dX2_restOn_26


set_option maxHeartbeats 4000000 in
set_option maxRecDepth 100000 in
theorem t_X2_overOn_v (l : Launch) (dC : Nat → ClassId) (dI : Nat → Nat → Nat) (dA : Nat → ClassId) (L : List Nat) (h : hx_h) (sz : Nat) (x : Nat) (v1 : Nat) (i1 : Int32) (i2 : Int32) (hT : hx_T T_tb L h) (gx : hx_g L h x 2) (gv1 : hx_g L h v1 3) (pqo : Nat) (gpqo : hx_g L h pqo 23) (f_v1_2 : h.2.2 v1 2 = some pqo) (pqd : Nat) (gpqd : hx_g L h pqd 24) (f_v1_3 : h.2.2 v1 3 = some pqd) (pqs : Nat) (gpqs : hx_g L h pqs 26) (f_v1_5 : h.2.2 v1 5 = some pqs) (pqk : Nat) (gpqk : hx_g L h pqk 25) (f_v1_4 : h.2.2 v1 4 = some pqk) (pqt : Nat) (gpqt : hx_g L h pqt 22) (f_v1_1 : h.2.2 v1 1 = some pqt) (qac : Nat) (gqac : hx_g L h qac 0) (f_x_3 : h.2.2 x 3 = some qac) (qt : Nat) (gqt : hx_g L h qt 11) (f_qac_2 : h.2.2 qac 2 = some qt) (pof : Nat → Int32) (af_pqo : h.2.1 pqo = pof) (pdf : Nat → Int32) (af_pqd : h.2.1 pqd = pdf) (psm : Nat → Int32) (af_pqs : h.2.1 pqs = psm) (pkf : Nat → Int32) (af_pqk : h.2.1 pqk = pkf) (pst : Nat → Int32) (af_pqt : h.2.1 pqt = pst) (tf : Nat → Int32) (af_qt : h.2.1 qt = tf) (od : Int32) (f_x_13 : h.2.1 x 13 = od) (sei : Int32) (f_x_16 : h.2.1 x 16 = sei) (gd : Int32) (f_x_17 : h.2.1 x 17 = gd) (ow : Int32) (f_x_15 : h.2.1 x 15 = ow) (sv : Int32) (f_x_18 : h.2.1 x 18 = sv) (nm : Int32) (f_x_0 : h.2.1 x 0 = nm) (n0 : Int32) (f_v1_0 : h.2.1 v1 0 = n0) (R : Nat → Int) (hR : hv_rC tf = R) (hRb : ∀ k, 0 ≤ R k ∧ R k ≤ 9999) (how : 0 ≤ ow.toInt ∧ ow.toInt ≤ 600000) (hgd : 0 ≤ gd.toInt ∧ gd.toInt ≤ 9999) (hps : ∀ j, j < 600 → 0 ≤ (psm j).toInt ∧ (psm j).toInt ≤ 610000) : Met l yX2_overOn (Cond.code yX2_overOn cX2_overOn 4 (some .int) :: hx_all) ({ frames := 3, cells := 0, slots := 0, locals := 73 }) (va_Pc [.ref x, .ref v1, .int i1, .int i2] (hx_B T_tb (P_ty dA) (dC, dI) vwCl L h sz)) (va_Qi (fun (r : Int32) (u : List Nat × hx_h) => (r.toInt = hz_ov sv.toInt (hz_bl od.toInt sei.toInt gd.toInt ow.toInt (R 12) i1.toInt (hx_ps pof pdf psm pkf pst i1.toInt i2.toInt nm.toInt n0.toInt.toNat)) i1.toInt ∧ (0 ≤ r.toInt ∧ r.toInt ≤ 366100000)) ∧ hx_T T_tb u.1 u.2 ∧ hx_S T_tb [] L h u.1 u.2) (hx_E T_tb (P_ty dA) (dC, dI) vwCl (hx_A L sz)) (hx_A L sz)) 0 0 (hx_A L sz) := by
  refine hx_met (lv := [(0, .ref x), (1, .ref v1), (2, .int i1), (3, .int i2)]) (by decide +kernel) rfl (Nat.le_of_ble_eq_true rfl) rfl ?_
  intro p e s m below meth c hx hb hml hr hlk hts0 hown hin hsz hW ls hl
  have hts : ∀ w ∈ hx_all, w.before _ s = true := fun w hw => hts0 w (List.mem_cons_of_mem _ hw)
  have hown : s.vm.findClass "SmallCourt$Claim" = some m.cls := hown
  have hM : hx_S T_tb [] L h L h := hx_S.rf
  have b_od := hT.gi gx tt_2 (k := 13) rfl
  rw [f_x_13] at b_od
  have b_od : -2147483648 ≤ od.toInt ∧ od.toInt ≤ 2147483647 := b_od
  have b_sei := hT.gi gx tt_2 (k := 16) rfl
  rw [f_x_16] at b_sei
  have b_sei : -2147483648 ≤ sei.toInt ∧ sei.toInt ≤ 2147483647 := b_sei
  have b_gd := hT.gi gx tt_2 (k := 17) rfl
  rw [f_x_17] at b_gd
  have b_gd : -2147483648 ≤ gd.toInt ∧ gd.toInt ≤ 2147483647 := b_gd
  have b_ow := hT.gi gx tt_2 (k := 15) rfl
  rw [f_x_15] at b_ow
  have b_ow : -2147483648 ≤ ow.toInt ∧ ow.toInt ≤ 2147483647 := b_ow
  have b_sv := hT.gi gx tt_2 (k := 18) rfl
  rw [f_x_18] at b_sv
  have b_sv : -2147483648 ≤ sv.toInt ∧ sv.toInt ≤ 2147483647 := b_sv
  have b_nm := hT.gi gx tt_2 (k := 0) rfl
  rw [f_x_0] at b_nm
  have b_nm : 0 ≤ nm.toInt ∧ nm.toInt ≤ 99 := b_nm
  have b_n0 := hT.gi gv1 tt_3 (k := 0) rfl
  rw [f_v1_0] at b_n0
  have b_n0 : 0 ≤ n0.toInt ∧ n0.toInt ≤ 600 := b_n0
  refine lv_aload_n hx hb dX2_overOn_0 rfl (lv_at hl 0 rfl) ?_
  refine hk_geti hx hb hts hC_2 hown hW (gx.S hM) tt_2 18 (by decide) rfl kw_762 ⟨rfl, rfl, rfl⟩ ((hM.o gx trivial rfl).1.trans f_x_18) dX2_overOn_1 ?_
  refine lv_iload_n hx hb dX2_overOn_4 rfl (lv_at hl 2 rfl) ?_
  refine hx_goi (hx_runS (As := [.int sv, .int i1]) (rest := []) ⟨hx, hb, hml, hown, hts⟩ hW (t_X2_isDone_v l dC dI dA L h s.heap.size sv i1 hT) (va_cwS 2 hts (hx_gS kw_864 kw_862 kw_863 kw_110) rfl rfl rfl (by decide +kernel) ⟨Nat.le_of_ble_eq_true rfl, Nat.le_of_ble_eq_true rfl⟩) rfl hl.1 rfl (Nat.le_of_ble_eq_true rfl) dX2_overOn_5 ⟨Nat.le_of_ble_eq_true rfl, Nat.le_of_ble_eq_true rfl⟩) hW (fun r_3 L_1 h_2 H locs p_4 hW => ?_)
  obtain ⟨hr_5, hT, hs⟩ := p_4
  replace hT : hx_T T_tb L_1 h_2 := hT
  replace hs : hx_S T_tb [] L h L_1 h_2 := hs
  replace hM := hM.tr (hs.mono (by decide))
  refine hb_if_eq (zx := r_3.toInt) (tgt := 15) hx hb rfl dX2_overOn_8 (by decide) (fun c_6 => ?_) (fun c_6 => ?_)
  · skip
    replace hr_5 := hr_5.resolve_left (fun z => by have := z.1; omega)
    refine lv_iconst (v := 0) hx hb dX2_overOn_15 (by decide) ?_
    refine lv_aload_n hx hb dX2_overOn_16 rfl (lv_at hl 0 rfl) ?_
    refine lv_aload_n hx hb dX2_overOn_17 rfl (lv_at hl 1 rfl) ?_
    refine lv_iload_n hx hb dX2_overOn_18 rfl (lv_at hl 2 rfl) ?_
    refine lv_iload_n hx hb dX2_overOn_19 rfl (lv_at hl 3 rfl) ?_
    have zc_0 : (0 : Int32).toInt = 0 := by decide
    refine hx_goi (hx_runV (As := [.ref v1, .int i1, .int i2]) (rest := [.int (0 : Int32)]) ⟨hx, hb, hml, hown, hts⟩ hW (gx.S hM) tt_2 (T := TX2) (N := 19) rfl (t_X2_balanceOn_v l dC dI dA L_1 h_2 H.size x v1 i1 i2 hT (gx.S hM) (gv1.S hM) pqo (gpqo.S hM) ((hM.o gv1 trivial rfl).2.trans f_v1_2) pqd (gpqd.S hM) ((hM.o gv1 trivial rfl).2.trans f_v1_3) pqs (gpqs.S hM) ((hM.o gv1 trivial rfl).2.trans f_v1_5) pqk (gpqk.S hM) ((hM.o gv1 trivial rfl).2.trans f_v1_4) pqt (gpqt.S hM) ((hM.o gv1 trivial rfl).2.trans f_v1_1) qac (gqac.S hM) ((hM.o gx trivial rfl).2.trans f_x_3) qt (gqt.S hM) ((hM.o gqac trivial rfl).2.trans f_qac_2) pof (hx_afS hM gpqo rfl af_pqo) pdf (hx_afS hM gpqd rfl af_pqd) psm (hx_afS hM gpqs rfl af_pqs) pkf (hx_afS hM gpqk rfl af_pqk) pst (hx_afS hM gpqt rfl af_pqt) tf (hx_afS hM gqt rfl af_qt) od ((hM.o gx trivial rfl).1.trans f_x_13) sei ((hM.o gx trivial rfl).1.trans f_x_16) gd ((hM.o gx trivial rfl).1.trans f_x_17) ow ((hM.o gx trivial rfl).1.trans f_x_15) nm ((hM.o gx trivial rfl).1.trans f_x_0) n0 ((hM.o gv1 trivial rfl).1.trans f_v1_0) R hR hRb ⟨by omega, by omega⟩ ⟨by omega, by omega⟩ hps) (cwV 3 hts (hx_gV kw_868 kw_865 kw_866 kw_867 kw_110) rfl rfl rfl (by decide +kernel) ⟨Nat.le_of_ble_eq_true rfl, Nat.le_of_ble_eq_true rfl⟩) rfl hl.1 rfl (Nat.le_of_ble_eq_true rfl) dX2_overOn_20 ⟨Nat.le_of_ble_eq_true rfl, Nat.le_of_ble_eq_true rfl⟩) hW (fun r_9 L_7 h_8 H locs p_10 hW => ?_)
    obtain ⟨hr_11, hT, hs⟩ := p_10
    replace hT : hx_T T_tb L_7 h_8 := hT
    replace hs : hx_S T_tb [] L_1 h_2 L_7 h_8 := hs
    replace hM := hM.tr (hs.mono (by decide))
    refine lv_ineg hx hb dX2_overOn_23 ?_
    refine lv_topi (fun x_12 ex_12 => ?_)
    have zn9 := hz_neg ex_12 (by omega)
    refine va_mmax hx hb (hml.trans hl.1.symm) hown (hts _ kw_881) (hts _ kw_882) (hts _ kw_109) (hts _ kw_883) (Nat.le_of_ble_eq_true rfl) (Nat.le_of_ble_eq_true rfl) (Nat.le_of_ble_eq_true rfl) (Nat.le_of_ble_eq_true rfl) dX2_overOn_24 ?_
    refine lv_topi (fun x_13 ex_13 => ?_)
    have hmx9 := hz_mx_e ex_13; rw [show (0 : Int32).toInt = 0 from by decide] at hmx9
    exact hx_reti hx hb hr hlk hW ⟨⟨(by unfold hz_ov; (repeat' split) <;> omega), by omega, by omega⟩, hT, hM⟩ dX2_overOn_27
  · skip
    replace hr_5 := hr_5.resolve_right (fun z => by have := z.1; omega)
    refine lv_iconst (v := 0) hx hb dX2_overOn_11 (by decide) ?_
    refine lv_goto (tgt := 27) hx hb dX2_overOn_12 (by decide) ?_
    exact hx_reti hx hb hr hlk hW ⟨(by have zr : (0 : Int32).toInt = 0 := (by decide); exact ⟨(by unfold hz_ov; (repeat' split) <;> omega), by omega, by omega⟩), hT, hM⟩ dX2_overOn_27


set_option maxHeartbeats 4000000 in
set_option maxRecDepth 100000 in
theorem t_X2_missedOn_v (l : Launch) (dC : Nat → ClassId) (dI : Nat → Nat → Nat) (dA : Nat → ClassId) (L : List Nat) (h : hx_h) (sz : Nat) (b0 : hx_z) (x : Nat) (v1 : Nat) (i1 : Int32) (i2 : Int32) (hT : hx_T T_tb L h) (gx : hx_g L h x 2) (gv1 : hx_g L h v1 3) (pqo : Nat) (gpqo : hx_g L h pqo 23) (f_v1_2 : h.2.2 v1 2 = some pqo) (pqd : Nat) (gpqd : hx_g L h pqd 24) (f_v1_3 : h.2.2 v1 3 = some pqd) (pqs : Nat) (gpqs : hx_g L h pqs 26) (f_v1_5 : h.2.2 v1 5 = some pqs) (pqk : Nat) (gpqk : hx_g L h pqk 25) (f_v1_4 : h.2.2 v1 4 = some pqk) (pqt : Nat) (gpqt : hx_g L h pqt 22) (f_v1_1 : h.2.2 v1 1 = some pqt) (qac : Nat) (gqac : hx_g L h qac 0) (f_x_3 : h.2.2 x 3 = some qac) (qt : Nat) (gqt : hx_g L h qt 11) (f_qac_2 : h.2.2 qac 2 = some qt) (pof : Nat → Int32) (af_pqo : h.2.1 pqo = pof) (pdf : Nat → Int32) (af_pqd : h.2.1 pqd = pdf) (psm : Nat → Int32) (af_pqs : h.2.1 pqs = psm) (pkf : Nat → Int32) (af_pqk : h.2.1 pqk = pkf) (pst : Nat → Int32) (af_pqt : h.2.1 pqt = pst) (tf : Nat → Int32) (af_qt : h.2.1 qt = tf) (od : Int32) (f_x_13 : h.2.1 x 13 = od) (wk : Int32) (f_x_14 : h.2.1 x 14 = wk) (ow : Int32) (f_x_15 : h.2.1 x 15 = ow) (sei : Int32) (f_x_16 : h.2.1 x 16 = sei) (gd : Int32) (f_x_17 : h.2.1 x 17 = gd) (sv : Int32) (f_x_18 : h.2.1 x 18 = sv) (nm : Int32) (f_x_0 : h.2.1 x 0 = nm) (n0 : Int32) (f_v1_0 : h.2.1 v1 0 = n0) (R : Nat → Int) (hR : hv_rC tf = R) (hRb : ∀ k, 0 ≤ R k ∧ R k ≤ 9999) (hod : -1 ≤ od.toInt ∧ od.toInt ≤ 7999) (hwk : 0 ≤ wk.toInt ∧ wk.toInt ≤ 9999) (how : 0 ≤ ow.toInt ∧ ow.toInt ≤ 600000) (hgd : 0 ≤ gd.toInt ∧ gd.toInt ≤ 9999) (hps : ∀ j, j < 600 → 0 ≤ (psm j).toInt ∧ (psm j).toInt ≤ 610000) (hi1 : 0 ≤ i1.toInt ∧ i1.toInt ≤ 7999) : Met l yX2_missedOn (Cond.code yX2_missedOn cX2_missedOn 5 (some .int) :: hx_all) ({ frames := 2, cells := 0, slots := 0, locals := 50 }) (va_Pc [.ref x, .ref v1, .int i1, .int i2] (hx_BX T_tb (P_ty dA) (dC, dI) vwCl L h sz b0)) (va_Qi (fun (r : Int32) (u : List Nat × hx_h) => (r.toInt = hz_ms od.toInt sv.toInt wk.toInt (hz_al ow.toInt sei.toInt (R 12) i1.toInt) (hz_pdy od.toInt sei.toInt gd.toInt i1.toInt (hx_ps pof pdf psm pkf pst i1.toInt i2.toInt nm.toInt n0.toInt.toNat)) i1.toInt ∧ (0 ≤ r.toInt ∧ r.toInt ≤ 609999)) ∧ hx_T T_tb u.1 u.2 ∧ hx_S T_tb [] L h u.1 u.2) (hx_E T_tb (P_ty dA) (dC, dI) vwCl (hx_A L sz)) (hx_A L sz)) 0 0 (hx_A L sz) := by
  refine hx_metX (lv := [(0, .ref x), (1, .ref v1), (2, .int i1), (3, .int i2)]) (by decide +kernel) rfl (Nat.le_of_ble_eq_true rfl) rfl ?_
  intro p e s m below meth c hx hb hml hr hlk hts0 hown hin hsz hW hZ ls hl
  have hts : ∀ w ∈ hx_all, w.before _ s = true := fun w hw => hts0 w (List.mem_cons_of_mem _ hw)
  have hown : s.vm.findClass "SmallCourt$Claim" = some m.cls := hown
  have hM : hx_S T_tb [] L h L h := hx_S.rf
  have b_od := hT.gi gx tt_2 (k := 13) rfl
  rw [f_x_13] at b_od
  have b_od : -2147483648 ≤ od.toInt ∧ od.toInt ≤ 2147483647 := b_od
  have b_wk := hT.gi gx tt_2 (k := 14) rfl
  rw [f_x_14] at b_wk
  have b_wk : -2147483648 ≤ wk.toInt ∧ wk.toInt ≤ 2147483647 := b_wk
  have b_ow := hT.gi gx tt_2 (k := 15) rfl
  rw [f_x_15] at b_ow
  have b_ow : -2147483648 ≤ ow.toInt ∧ ow.toInt ≤ 2147483647 := b_ow
  have b_sei := hT.gi gx tt_2 (k := 16) rfl
  rw [f_x_16] at b_sei
  have b_sei : -2147483648 ≤ sei.toInt ∧ sei.toInt ≤ 2147483647 := b_sei
  have b_gd := hT.gi gx tt_2 (k := 17) rfl
  rw [f_x_17] at b_gd
  have b_gd : -2147483648 ≤ gd.toInt ∧ gd.toInt ≤ 2147483647 := b_gd
  have b_sv := hT.gi gx tt_2 (k := 18) rfl
  rw [f_x_18] at b_sv
  have b_sv : -2147483648 ≤ sv.toInt ∧ sv.toInt ≤ 2147483647 := b_sv
  have b_nm := hT.gi gx tt_2 (k := 0) rfl
  rw [f_x_0] at b_nm
  have b_nm : 0 ≤ nm.toInt ∧ nm.toInt ≤ 99 := b_nm
  have b_n0 := hT.gi gv1 tt_3 (k := 0) rfl
  rw [f_v1_0] at b_n0
  have b_n0 : 0 ≤ n0.toInt ∧ n0.toInt ≤ 600 := b_n0
  refine lv_aload_n hx hb dX2_missedOn_0 rfl (lv_at hl 0 rfl) ?_
  refine hk_geti hx hb hts hC_2 hown hW (gx.S hM) tt_2 13 (by decide) rfl kw_752 ⟨rfl, rfl, rfl⟩ ((hM.o gx trivial rfl).1.trans f_x_13) dX2_missedOn_1 ?_
  refine lv_iload_n hx hb dX2_missedOn_4 rfl (lv_at hl 2 rfl) ?_
  refine hx_goi (hx_runS (As := [.int od, .int i1]) (rest := []) ⟨hx, hb, hml, hown, hts⟩ hW (t_X2_isDone_v l dC dI dA L h s.heap.size od i1 hT) (va_cwS 2 hts (hx_gS kw_864 kw_862 kw_863 kw_110) rfl rfl rfl (by decide +kernel) ⟨Nat.le_of_ble_eq_true rfl, Nat.le_of_ble_eq_true rfl⟩) rfl hl.1 rfl (Nat.le_of_ble_eq_true rfl) dX2_missedOn_5 ⟨Nat.le_of_ble_eq_true rfl, Nat.le_of_ble_eq_true rfl⟩) hW (fun r_3 L_1 h_2 H locs p_4 hW => ?_)
  obtain ⟨hr_5, hT, hs⟩ := p_4
  replace hT : hx_T T_tb L_1 h_2 := hT
  replace hs : hx_S T_tb [] L h L_1 h_2 := hs
  replace hM := hM.tr (hs.mono (by decide))
  refine hb_if_eq (zx := r_3.toInt) (tgt := 22) hx hb rfl dX2_missedOn_8 (by decide) (fun c_6 => ?_) (fun c_6 => ?_)
  · skip
    refine lv_iconst (v := 0) hx hb dX2_missedOn_22 (by decide) ?_
    exact hx_reti hx hb hr hlk hW ⟨(by have zr : (0 : Int32).toInt = 0 := (by decide); exact ⟨(by unfold hz_ms; rw [if_pos (by omega)]; omega), by omega, by omega⟩), hT, hM⟩ dX2_missedOn_23
  · skip
    replace hr_5 := hr_5.resolve_right (fun z => by have := z.1; omega)
    refine lv_aload_n hx hb dX2_missedOn_11 rfl (lv_at hl 0 rfl) ?_
    refine hk_geti hx hb hts hC_2 hown hW (gx.S hM) tt_2 18 (by decide) rfl kw_762 ⟨rfl, rfl, rfl⟩ ((hM.o gx trivial rfl).1.trans f_x_18) dX2_missedOn_12 ?_
    refine lv_iload_n hx hb dX2_missedOn_15 rfl (lv_at hl 2 rfl) ?_
    refine hx_goi (hx_runS (As := [.int sv, .int i1]) (rest := []) ⟨hx, hb, hml, hown, hts⟩ hW (t_X2_isDone_v l dC dI dA L_1 h_2 H.size sv i1 hT) (va_cwS 2 hts (hx_gS kw_864 kw_862 kw_863 kw_110) rfl rfl rfl (by decide +kernel) ⟨Nat.le_of_ble_eq_true rfl, Nat.le_of_ble_eq_true rfl⟩) rfl hl.1 rfl (Nat.le_of_ble_eq_true rfl) dX2_missedOn_16 ⟨Nat.le_of_ble_eq_true rfl, Nat.le_of_ble_eq_true rfl⟩) hW (fun r_9 L_7 h_8 H locs p_10 hW => ?_)
    obtain ⟨hr_11, hT, hs⟩ := p_10
    replace hT : hx_T T_tb L_7 h_8 := hT
    replace hs : hx_S T_tb [] L_1 h_2 L_7 h_8 := hs
    replace hM := hM.tr (hs.mono (by decide))
    refine hb_if_eq (zx := r_9.toInt) (tgt := 24) hx hb rfl dX2_missedOn_19 (by decide) (fun c_12 => ?_) (fun c_12 => ?_)
    · skip
      replace hr_11 := hr_11.resolve_left (fun z => by have := z.1; omega)
      refine lv_aload_n hx hb dX2_missedOn_24 rfl (lv_at hl 0 rfl) ?_
      refine lv_iload_n hx hb dX2_missedOn_25 rfl (lv_at hl 2 rfl) ?_
      refine hx_goi (hx_runV (As := [.int i1]) (rest := []) ⟨hx, hb, hml, hown, hts⟩ hW (gx.S hM) tt_2 (T := TX2) (N := 19) rfl (t_X2_owedOn_v l dC dI dA L_7 h_8 H.size x i1 hT (gx.S hM) qac (gqac.S hM) ((hM.o gx trivial rfl).2.trans f_x_3) qt (gqt.S hM) ((hM.o gqac trivial rfl).2.trans f_qac_2) tf (hx_afS hM gqt rfl af_qt) sei ((hM.o gx trivial rfl).1.trans f_x_16) ow ((hM.o gx trivial rfl).1.trans f_x_15) R hR hRb ⟨by omega, by omega⟩) (cwV 1 hts (hx_gV kw_872 kw_869 kw_871 kw_31 kw_110) rfl rfl rfl (by decide +kernel) ⟨Nat.le_of_ble_eq_true rfl, Nat.le_of_ble_eq_true rfl⟩) rfl hl.1 rfl (Nat.le_of_ble_eq_true rfl) dX2_missedOn_26 ⟨Nat.le_of_ble_eq_true rfl, Nat.le_of_ble_eq_true rfl⟩) hW (fun r_15 L_13 h_14 H locs p_16 hW => ?_)
      obtain ⟨hr_17, hT, hs⟩ := p_16
      replace hT : hx_T T_tb L_13 h_14 := hT
      replace hs : hx_S T_tb [] L_7 h_8 L_13 h_14 := hs
      replace hM := hM.tr (hs.mono (by decide))
      refine lv_aload_n hx hb dX2_missedOn_29 rfl (lv_at hl 0 rfl) ?_
      refine hk_geti hx hb hts hC_2 hown hW (gx.S hM) tt_2 14 (by decide) rfl kw_754 ⟨rfl, rfl, rfl⟩ ((hM.o gx trivial rfl).1.trans f_x_14) dX2_missedOn_30 ?_
      refine lv_iload_n hx hb dX2_missedOn_33 rfl (lv_at hl 2 rfl) ?_
      refine lv_aload_n hx hb dX2_missedOn_34 rfl (lv_at hl 0 rfl) ?_
      refine hk_geti hx hb hts hC_2 hown hW (gx.S hM) tt_2 13 (by decide) rfl kw_752 ⟨rfl, rfl, rfl⟩ ((hM.o gx trivial rfl).1.trans f_x_13) dX2_missedOn_35 ?_
      refine lv_isub hx hb dX2_missedOn_38 ?_
      have rg_18 := i32_r i1
      have rg_19 := i32_r od
      refine lv_topi (fun x_20 ex_20 => ?_)
      have zx_20 : x_20.toInt = i1.toInt - od.toInt := by rw [ex_20]; exact i32_sub rfl rfl (by omega) (by omega)
      refine lv_bipush (v := 7) hx hb dX2_missedOn_39 (by decide) ?_
      refine lv_idiv hx hb dX2_missedOn_41 (by decide) ?_
      refine lv_topi (fun x_21 ex_21 => ?_)
      have zx_21 : x_21.toInt = x_20.toInt / 7 := by rw [ex_21, hx_dv (by omega) (by decide)]; rfl
      refine lv_imul hx hb dX2_missedOn_42 ?_
      refine lv_topi (fun x_22 ex_22 => ?_)
      have mx_22 : wk.toInt = 0 → x_22.toInt = 0 := fun z => by rw [ex_22]; exact hx_mul0 z
      obtain ⟨m9, m9l, m9h⟩ := hz_mul ⟨by omega, by omega⟩ ⟨by omega, by omega⟩ ex_22
      refine va_mmin hx hb (hml.trans hl.1.symm) hown (hts _ kw_916) (hts _ kw_917) (hts _ kw_109) (hts _ kw_918) (Nat.le_of_ble_eq_true rfl) (Nat.le_of_ble_eq_true rfl) (Nat.le_of_ble_eq_true rfl) (Nat.le_of_ble_eq_true rfl) dX2_missedOn_43 ?_
      refine lv_topi (fun x_23 ex_23 => ?_)
      have hmi9 := hz_mi_e ex_23
      have hmb9 : 0 ≤ x_23.toInt ∧ x_23.toInt ≤ 609999 := by rw [hmi9]; unfold hz_mi; split <;> omega
      refine lv_istore (lv' := [(4, .int x_23), (0, .ref x), (1, .ref v1), (2, .int i1), (3, .int i2)]) hx hb dX2_missedOn_46 hl (by decide) rfl (fun ls hl => ?_)
      refine lv_iload hx hb dX2_missedOn_48 (lv_at hl 0 rfl) ?_
      refine lv_aload_n hx hb dX2_missedOn_50 rfl (lv_at hl 1 rfl) ?_
      refine lv_aload_n hx hb dX2_missedOn_51 rfl (lv_at hl 2 rfl) ?_
      refine lv_iload_n hx hb dX2_missedOn_52 rfl (lv_at hl 3 rfl) ?_
      refine lv_iload_n hx hb dX2_missedOn_53 rfl (lv_at hl 4 rfl) ?_
      refine hx_goi (hx_runV (As := [.ref v1, .int i1, .int i2]) (rest := [.int x_23]) ⟨hx, hb, hml, hown, hts⟩ hW (gx.S hM) tt_2 (T := TX2) (N := 19) rfl (t_X2_paidOn_v l dC dI dA L_13 h_14 H.size x v1 i1 i2 hT (gx.S hM) (gv1.S hM) pqo (gpqo.S hM) ((hM.o gv1 trivial rfl).2.trans f_v1_2) pqd (gpqd.S hM) ((hM.o gv1 trivial rfl).2.trans f_v1_3) pqs (gpqs.S hM) ((hM.o gv1 trivial rfl).2.trans f_v1_5) pqk (gpqk.S hM) ((hM.o gv1 trivial rfl).2.trans f_v1_4) pqt (gpqt.S hM) ((hM.o gv1 trivial rfl).2.trans f_v1_1) pof (hx_afS hM gpqo rfl af_pqo) pdf (hx_afS hM gpqd rfl af_pqd) psm (hx_afS hM gpqs rfl af_pqs) pkf (hx_afS hM gpqk rfl af_pqk) pst (hx_afS hM gpqt rfl af_pqt) od ((hM.o gx trivial rfl).1.trans f_x_13) sei ((hM.o gx trivial rfl).1.trans f_x_16) gd ((hM.o gx trivial rfl).1.trans f_x_17) nm ((hM.o gx trivial rfl).1.trans f_x_0) n0 ((hM.o gv1 trivial rfl).1.trans f_v1_0) ⟨by omega, by omega⟩ hps) (cwV 3 hts (hx_gV kw_876 kw_873 kw_874 kw_875 kw_110) rfl rfl rfl (by decide +kernel) ⟨Nat.le_of_ble_eq_true rfl, Nat.le_of_ble_eq_true rfl⟩) rfl hl.1 rfl (Nat.le_of_ble_eq_true rfl) dX2_missedOn_54 ⟨Nat.le_of_ble_eq_true rfl, Nat.le_of_ble_eq_true rfl⟩) hW (fun r_26 L_24 h_25 H locs p_27 hW => ?_)
      obtain ⟨hr_28, hT, hs⟩ := p_27
      replace hT : hx_T T_tb L_24 h_25 := hT
      replace hs : hx_S T_tb [] L_13 h_14 L_24 h_25 := hs
      replace hM := hM.tr (hs.mono (by decide))
      refine lv_isub hx hb dX2_missedOn_57 ?_
      have rg_29 := i32_r x_23
      have rg_30 := i32_r r_26
      refine lv_topi (fun x_31 ex_31 => ?_)
      have zx_31 : x_31.toInt = x_23.toInt - r_26.toInt := by rw [ex_31]; exact i32_sub rfl rfl (by omega) (by omega)
      refine lv_aload_n hx hb dX2_missedOn_58 rfl (lv_at hl 1 rfl) ?_
      refine hk_geti hx hb hts hC_2 hown hW (gx.S hM) tt_2 14 (by decide) rfl kw_754 ⟨rfl, rfl, rfl⟩ ((hM.o gx trivial rfl).1.trans f_x_14) dX2_missedOn_59 ?_
      refine hx_goi (hx_runSN (As := [.int x_31, .int wk]) (rest := []) ⟨hx, hb, hml, hown, hts⟩ hW (t_X9_roundUp_v l dC dI dA L_24 h_25 H.size x_31 wk hT) ⟨va_cnB 2 hts (hx_gC kw_921) rfl rfl rfl (hZ.1 _ (List.mem_of_getElem? (i := 9) rfl)) (hts _ kw_94) (by decide +kernel) ⟨Nat.le_of_ble_eq_true rfl, Nat.le_of_ble_eq_true rfl⟩, hts _ kw_920, trivial⟩ rfl hl.1 rfl (Nat.le_of_ble_eq_true rfl) dX2_missedOn_62 ⟨Nat.le_of_ble_eq_true rfl, Nat.le_of_ble_eq_true rfl⟩) hW (fun r_34 L_32 h_33 H locs p_35 hW => ?_)
      obtain ⟨hr_36, hT, hs⟩ := p_35
      replace hT : hx_T T_tb L_32 h_33 := hT
      replace hs : hx_S T_tb [] L_24 h_25 L_32 h_33 := hs
      replace hM := hM.tr (hs.mono (by decide))
      exact hx_reti hx hb hr hlk hW ⟨⟨(by unfold hz_ms; rw [if_neg (by omega), hr_36, zx_31, hmi9, m9, zx_21, zx_20, hr_17.1, hr_28.1]), (by rw [hr_36]; exact hz_ru_b.1), (by have h9 := (hz_ru_b (s := x_31.toInt) (b := wk.toInt)).2; rw [← hr_36] at h9; omega)⟩, hT, hM⟩ dX2_missedOn_65
    · skip
      refine lv_iconst (v := 0) hx hb dX2_missedOn_22 (by decide) ?_
      exact hx_reti hx hb hr hlk hW ⟨(by have zr : (0 : Int32).toInt = 0 := (by decide); exact ⟨(by unfold hz_ms; rw [if_pos (by omega)]; omega), by omega, by omega⟩), hT, hM⟩ dX2_missedOn_23


set_option maxHeartbeats 4000000 in
set_option maxRecDepth 100000 in
theorem t_X2_stateAheadOfOrder_v (l : Launch) (dC : Nat → ClassId) (dI : Nat → Nat → Nat) (dA : Nat → ClassId) (L : List Nat) (h : hx_h) (sz : Nat) (x : Nat) (i1 : Int32) (hT : hx_T T_tb L h) (gx : hx_g L h x 2) (fo : Int32) (f_x_10 : h.2.1 x 10 = fo) (he : Int32) (f_x_11 : h.2.1 x 11 = he) (ju : Int32) (f_x_12 : h.2.1 x 12 = ju) : Met l yX2_stateAheadOfOrder (Cond.code yX2_stateAheadOfOrder cX2_stateAheadOfOrder 2 (some .int) :: hx_all) ({ frames := 1, cells := 0, slots := 0, locals := 21 }) (va_Pc [.ref x, .int i1] (hx_B T_tb (P_ty dA) (dC, dI) vwCl L h sz)) (va_Qi (fun (r : Int32) (u : List Nat × hx_h) => (r.toInt = hz_sa fo.toInt he.toInt ju.toInt i1.toInt ∧ (0 ≤ r.toInt ∧ r.toInt ≤ 3)) ∧ hx_T T_tb u.1 u.2 ∧ hx_S T_tb [] L h u.1 u.2) (hx_E T_tb (P_ty dA) (dC, dI) vwCl (hx_A L sz)) (hx_A L sz)) 0 0 (hx_A L sz) := by
  refine hx_met (lv := [(0, .ref x), (1, .int i1)]) (by decide +kernel) rfl (Nat.le_of_ble_eq_true rfl) rfl ?_
  intro p e s m below meth c hx hb hml hr hlk hts0 hown hin hsz hW ls hl
  have hts : ∀ w ∈ hx_all, w.before _ s = true := fun w hw => hts0 w (List.mem_cons_of_mem _ hw)
  have hown : s.vm.findClass "SmallCourt$Claim" = some m.cls := hown
  have hM : hx_S T_tb [] L h L h := hx_S.rf
  have b_fo := hT.gi gx tt_2 (k := 10) rfl
  rw [f_x_10] at b_fo
  have b_fo : -1 ≤ fo.toInt ∧ fo.toInt ≤ 7999 := b_fo
  have b_he := hT.gi gx tt_2 (k := 11) rfl
  rw [f_x_11] at b_he
  have b_he : -1 ≤ he.toInt ∧ he.toInt ≤ 7999 := b_he
  have b_ju := hT.gi gx tt_2 (k := 12) rfl
  rw [f_x_12] at b_ju
  have b_ju : 0 ≤ ju.toInt ∧ ju.toInt ≤ 5 := b_ju
  refine lv_aload_n hx hb dX2_stateAheadOfOrder_0 rfl (lv_at hl 0 rfl) ?_
  refine hk_geti hx hb hts hC_2 hown hW (gx.S hM) tt_2 11 (by decide) rfl kw_748 ⟨rfl, rfl, rfl⟩ ((hM.o gx trivial rfl).1.trans f_x_11) dX2_stateAheadOfOrder_1 ?_
  refine lv_iload_n hx hb dX2_stateAheadOfOrder_4 rfl (lv_at hl 1 rfl) ?_
  refine hx_goi (hx_runS (As := [.int he, .int i1]) (rest := []) ⟨hx, hb, hml, hown, hts⟩ hW (t_X2_isDone_v l dC dI dA L h s.heap.size he i1 hT) (va_cwS 2 hts (hx_gS kw_864 kw_862 kw_863 kw_110) rfl rfl rfl (by decide +kernel) ⟨Nat.le_of_ble_eq_true rfl, Nat.le_of_ble_eq_true rfl⟩) rfl hl.1 rfl (Nat.le_of_ble_eq_true rfl) dX2_stateAheadOfOrder_5 ⟨Nat.le_of_ble_eq_true rfl, Nat.le_of_ble_eq_true rfl⟩) hW (fun r_3 L_1 h_2 H locs p_4 hW => ?_)
  obtain ⟨hr_5, hT, hs⟩ := p_4
  replace hT : hx_T T_tb L_1 h_2 := hT
  replace hs : hx_S T_tb [] L h L_1 h_2 := hs
  replace hM := hM.tr (hs.mono (by decide))
  refine hb_if_eq (zx := r_3.toInt) (tgt := 25) hx hb rfl dX2_stateAheadOfOrder_8 (by decide) (fun c_6 => ?_) (fun c_6 => ?_)
  · skip
    replace hr_5 := hr_5.resolve_left (fun z => by have := z.1; omega)
    refine lv_aload_n hx hb dX2_stateAheadOfOrder_25 rfl (lv_at hl 0 rfl) ?_
    refine hk_geti hx hb hts hC_2 hown hW (gx.S hM) tt_2 10 (by decide) rfl kw_746 ⟨rfl, rfl, rfl⟩ ((hM.o gx trivial rfl).1.trans f_x_10) dX2_stateAheadOfOrder_26 ?_
    refine lv_iload_n hx hb dX2_stateAheadOfOrder_29 rfl (lv_at hl 1 rfl) ?_
    refine hx_goi (hx_runS (As := [.int fo, .int i1]) (rest := []) ⟨hx, hb, hml, hown, hts⟩ hW (t_X2_isDone_v l dC dI dA L_1 h_2 H.size fo i1 hT) (va_cwS 2 hts (hx_gS kw_864 kw_862 kw_863 kw_110) rfl rfl rfl (by decide +kernel) ⟨Nat.le_of_ble_eq_true rfl, Nat.le_of_ble_eq_true rfl⟩) rfl hl.1 rfl (Nat.le_of_ble_eq_true rfl) dX2_stateAheadOfOrder_30 ⟨Nat.le_of_ble_eq_true rfl, Nat.le_of_ble_eq_true rfl⟩) hW (fun r_9 L_7 h_8 H locs p_10 hW => ?_)
    obtain ⟨hr_11, hT, hs⟩ := p_10
    replace hT : hx_T T_tb L_7 h_8 := hT
    replace hs : hx_S T_tb [] L_1 h_2 L_7 h_8 := hs
    replace hM := hM.tr (hs.mono (by decide))
    refine hb_if_eq (zx := r_9.toInt) (tgt := 40) hx hb rfl dX2_stateAheadOfOrder_33 (by decide) (fun c_12 => ?_) (fun c_12 => ?_)
    · skip
      replace hr_11 := hr_11.resolve_left (fun z => by have := z.1; omega)
      refine lv_iconst (v := 0) hx hb dX2_stateAheadOfOrder_40 (by decide) ?_
      exact hx_reti hx hb hr hlk hW ⟨(by have zr : (0 : Int32).toInt = 0 := (by decide); exact ⟨(by unfold hz_sa; (repeat' split) <;> omega), by omega, by omega⟩), hT, hM⟩ dX2_stateAheadOfOrder_41
    · skip
      replace hr_11 := hr_11.resolve_right (fun z => by have := z.1; omega)
      refine lv_iconst (v := 1) hx hb dX2_stateAheadOfOrder_36 (by decide) ?_
      refine lv_goto (tgt := 41) hx hb dX2_stateAheadOfOrder_37 (by decide) ?_
      exact hx_reti hx hb hr hlk hW ⟨(by have zr : (1 : Int32).toInt = 1 := (by decide); exact ⟨(by unfold hz_sa; (repeat' split) <;> omega), by omega, by omega⟩), hT, hM⟩ dX2_stateAheadOfOrder_41
  · skip
    replace hr_5 := hr_5.resolve_right (fun z => by have := z.1; omega)
    refine lv_aload_n hx hb dX2_stateAheadOfOrder_11 rfl (lv_at hl 0 rfl) ?_
    refine hk_geti hx hb hts hC_2 hown hW (gx.S hM) tt_2 12 (by decide) rfl kw_750 ⟨rfl, rfl, rfl⟩ ((hM.o gx trivial rfl).1.trans f_x_12) dX2_stateAheadOfOrder_12 ?_
    refine lv_iconst (v := 5) hx hb dX2_stateAheadOfOrder_15 (by decide) ?_
    refine hb_icmp_ne (zx := ju.toInt) (zy := 5) (tgt := 23) hx hb rfl (by decide) dX2_stateAheadOfOrder_16 (by decide) (fun c_13 => ?_) (fun c_13 => ?_)
    · skip
      refine lv_iconst (v := 2) hx hb dX2_stateAheadOfOrder_23 (by decide) ?_
      exact hx_reti hx hb hr hlk hW ⟨(by have zr : (2 : Int32).toInt = 2 := (by decide); exact ⟨(by unfold hz_sa; (repeat' split) <;> omega), by omega, by omega⟩), hT, hM⟩ dX2_stateAheadOfOrder_24
    · skip
      refine lv_iconst (v := 3) hx hb dX2_stateAheadOfOrder_19 (by decide) ?_
      refine lv_goto (tgt := 24) hx hb dX2_stateAheadOfOrder_20 (by decide) ?_
      exact hx_reti hx hb hr hlk hW ⟨(by have zr : (3 : Int32).toInt = 3 := (by decide); exact ⟨(by unfold hz_sa; (repeat' split) <;> omega), by omega, by omega⟩), hT, hM⟩ dX2_stateAheadOfOrder_24


set_option maxHeartbeats 4000000 in
set_option maxRecDepth 100000 in
theorem t_X2_stateOn_v (l : Launch) (dC : Nat → ClassId) (dI : Nat → Nat → Nat) (dA : Nat → ClassId) (L : List Nat) (h : hx_h) (sz : Nat) (b0 : hx_z) (x : Nat) (v1 : Nat) (i1 : Int32) (i2 : Int32) (hT : hx_T T_tb L h) (gx : hx_g L h x 2) (gv1 : hx_g L h v1 3) (pqo : Nat) (gpqo : hx_g L h pqo 23) (f_v1_2 : h.2.2 v1 2 = some pqo) (pqd : Nat) (gpqd : hx_g L h pqd 24) (f_v1_3 : h.2.2 v1 3 = some pqd) (pqs : Nat) (gpqs : hx_g L h pqs 26) (f_v1_5 : h.2.2 v1 5 = some pqs) (pqk : Nat) (gpqk : hx_g L h pqk 25) (f_v1_4 : h.2.2 v1 4 = some pqk) (pqt : Nat) (gpqt : hx_g L h pqt 22) (f_v1_1 : h.2.2 v1 1 = some pqt) (qac : Nat) (gqac : hx_g L h qac 0) (f_x_3 : h.2.2 x 3 = some qac) (qt : Nat) (gqt : hx_g L h qt 11) (f_qac_2 : h.2.2 qac 2 = some qt) (pof : Nat → Int32) (af_pqo : h.2.1 pqo = pof) (pdf : Nat → Int32) (af_pqd : h.2.1 pqd = pdf) (psm : Nat → Int32) (af_pqs : h.2.1 pqs = psm) (pkf : Nat → Int32) (af_pqk : h.2.1 pqk = pkf) (pst : Nat → Int32) (af_pqt : h.2.1 pqt = pst) (tf : Nat → Int32) (af_qt : h.2.1 qt = tf) (fo : Int32) (f_x_10 : h.2.1 x 10 = fo) (he : Int32) (f_x_11 : h.2.1 x 11 = he) (ju : Int32) (f_x_12 : h.2.1 x 12 = ju) (od : Int32) (f_x_13 : h.2.1 x 13 = od) (wk : Int32) (f_x_14 : h.2.1 x 14 = wk) (ow : Int32) (f_x_15 : h.2.1 x 15 = ow) (sei : Int32) (f_x_16 : h.2.1 x 16 = sei) (gd : Int32) (f_x_17 : h.2.1 x 17 = gd) (sv : Int32) (f_x_18 : h.2.1 x 18 = sv) (nm : Int32) (f_x_0 : h.2.1 x 0 = nm) (n0 : Int32) (f_v1_0 : h.2.1 v1 0 = n0) (R : Nat → Int) (hR : hv_rC tf = R) (hRb : ∀ k, 0 ≤ R k ∧ R k ≤ 9999) (hod : -1 ≤ od.toInt ∧ od.toInt ≤ 7999) (hwk : 0 ≤ wk.toInt ∧ wk.toInt ≤ 9999) (how : 0 ≤ ow.toInt ∧ ow.toInt ≤ 600000) (hgd : 0 ≤ gd.toInt ∧ gd.toInt ≤ 9999) (hps : ∀ j, j < 600 → 0 ≤ (psm j).toInt ∧ (psm j).toInt ≤ 610000) (hi1 : 0 ≤ i1.toInt ∧ i1.toInt ≤ 7999) : Met l yX2_stateOn (Cond.code yX2_stateOn cX2_stateOn 5 (some .int) :: hx_all) ({ frames := 4, cells := 0, slots := 0, locals := 96 }) (va_Pc [.ref x, .ref v1, .int i1, .int i2] (hx_BX T_tb (P_ty dA) (dC, dI) vwCl L h sz b0)) (va_Qi (fun (r : Int32) (u : List Nat × hx_h) => (r.toInt = hz_st fo.toInt he.toInt ju.toInt od.toInt sv.toInt (hz_rs sv.toInt (hz_bl od.toInt sei.toInt gd.toInt ow.toInt (R 12) i1.toInt (hx_ps pof pdf psm pkf pst i1.toInt i2.toInt nm.toInt n0.toInt.toNat)) i1.toInt) (hz_ms od.toInt sv.toInt wk.toInt (hz_al ow.toInt sei.toInt (R 12) i1.toInt) (hz_pdy od.toInt sei.toInt gd.toInt i1.toInt (hx_ps pof pdf psm pkf pst i1.toInt i2.toInt nm.toInt n0.toInt.toNat)) i1.toInt) (R 4) (R 5) i1.toInt ∧ (0 ≤ r.toInt ∧ r.toInt ≤ 8)) ∧ hx_T T_tb u.1 u.2 ∧ hx_S T_tb [] L h u.1 u.2) (hx_E T_tb (P_ty dA) (dC, dI) vwCl (hx_A L sz)) (hx_A L sz)) 0 0 (hx_A L sz) := by
  refine hx_metX (lv := [(0, .ref x), (1, .ref v1), (2, .int i1), (3, .int i2)]) (by decide +kernel) rfl (Nat.le_of_ble_eq_true rfl) rfl ?_
  intro p e s m below meth c hx hb hml hr hlk hts0 hown hin hsz hW hZ ls hl
  have hts : ∀ w ∈ hx_all, w.before _ s = true := fun w hw => hts0 w (List.mem_cons_of_mem _ hw)
  have hown : s.vm.findClass "SmallCourt$Claim" = some m.cls := hown
  have hM : hx_S T_tb [] L h L h := hx_S.rf
  have b_fo := hT.gi gx tt_2 (k := 10) rfl
  rw [f_x_10] at b_fo
  have b_fo : -1 ≤ fo.toInt ∧ fo.toInt ≤ 7999 := b_fo
  have b_he := hT.gi gx tt_2 (k := 11) rfl
  rw [f_x_11] at b_he
  have b_he : -1 ≤ he.toInt ∧ he.toInt ≤ 7999 := b_he
  have b_ju := hT.gi gx tt_2 (k := 12) rfl
  rw [f_x_12] at b_ju
  have b_ju : 0 ≤ ju.toInt ∧ ju.toInt ≤ 5 := b_ju
  have b_od := hT.gi gx tt_2 (k := 13) rfl
  rw [f_x_13] at b_od
  have b_od : -2147483648 ≤ od.toInt ∧ od.toInt ≤ 2147483647 := b_od
  have b_wk := hT.gi gx tt_2 (k := 14) rfl
  rw [f_x_14] at b_wk
  have b_wk : -2147483648 ≤ wk.toInt ∧ wk.toInt ≤ 2147483647 := b_wk
  have b_ow := hT.gi gx tt_2 (k := 15) rfl
  rw [f_x_15] at b_ow
  have b_ow : -2147483648 ≤ ow.toInt ∧ ow.toInt ≤ 2147483647 := b_ow
  have b_sei := hT.gi gx tt_2 (k := 16) rfl
  rw [f_x_16] at b_sei
  have b_sei : -2147483648 ≤ sei.toInt ∧ sei.toInt ≤ 2147483647 := b_sei
  have b_gd := hT.gi gx tt_2 (k := 17) rfl
  rw [f_x_17] at b_gd
  have b_gd : -2147483648 ≤ gd.toInt ∧ gd.toInt ≤ 2147483647 := b_gd
  have b_sv := hT.gi gx tt_2 (k := 18) rfl
  rw [f_x_18] at b_sv
  have b_sv : -2147483648 ≤ sv.toInt ∧ sv.toInt ≤ 2147483647 := b_sv
  have b_nm := hT.gi gx tt_2 (k := 0) rfl
  rw [f_x_0] at b_nm
  have b_nm : 0 ≤ nm.toInt ∧ nm.toInt ≤ 99 := b_nm
  have b_n0 := hT.gi gv1 tt_3 (k := 0) rfl
  rw [f_v1_0] at b_n0
  have b_n0 : 0 ≤ n0.toInt ∧ n0.toInt ≤ 600 := b_n0
  refine lv_aload_n hx hb dX2_stateOn_0 rfl (lv_at hl 0 rfl) ?_
  refine hk_geti hx hb hts hC_2 hown hW (gx.S hM) tt_2 13 (by decide) rfl kw_752 ⟨rfl, rfl, rfl⟩ ((hM.o gx trivial rfl).1.trans f_x_13) dX2_stateOn_1 ?_
  refine lv_iload_n hx hb dX2_stateOn_4 rfl (lv_at hl 2 rfl) ?_
  refine hx_goi (hx_runS (As := [.int od, .int i1]) (rest := []) ⟨hx, hb, hml, hown, hts⟩ hW (t_X2_isDone_v l dC dI dA L h s.heap.size od i1 hT) (va_cwS 2 hts (hx_gS kw_864 kw_862 kw_863 kw_110) rfl rfl rfl (by decide +kernel) ⟨Nat.le_of_ble_eq_true rfl, Nat.le_of_ble_eq_true rfl⟩) rfl hl.1 rfl (Nat.le_of_ble_eq_true rfl) dX2_stateOn_5 ⟨Nat.le_of_ble_eq_true rfl, Nat.le_of_ble_eq_true rfl⟩) hW (fun r_3 L_1 h_2 H locs p_4 hW => ?_)
  obtain ⟨hr_5, hT, hs⟩ := p_4
  replace hT : hx_T T_tb L_1 h_2 := hT
  replace hs : hx_S T_tb [] L h L_1 h_2 := hs
  replace hM := hM.tr (hs.mono (by decide))
  refine hb_if_ne (zx := r_3.toInt) (tgt := 17) hx hb rfl dX2_stateOn_8 (by decide) (fun c_6 => ?_) (fun c_6 => ?_)
  · skip
    replace hr_5 := hr_5.resolve_right (fun z => by have := z.1; omega)
    refine lv_aload_n hx hb dX2_stateOn_17 rfl (lv_at hl 0 rfl) ?_
    refine hk_geti hx hb hts hC_2 hown hW (gx.S hM) tt_2 18 (by decide) rfl kw_762 ⟨rfl, rfl, rfl⟩ ((hM.o gx trivial rfl).1.trans f_x_18) dX2_stateOn_18 ?_
    refine lv_iload_n hx hb dX2_stateOn_21 rfl (lv_at hl 2 rfl) ?_
    refine hx_goi (hx_runS (As := [.int sv, .int i1]) (rest := []) ⟨hx, hb, hml, hown, hts⟩ hW (t_X2_isDone_v l dC dI dA L_1 h_2 H.size sv i1 hT) (va_cwS 2 hts (hx_gS kw_864 kw_862 kw_863 kw_110) rfl rfl rfl (by decide +kernel) ⟨Nat.le_of_ble_eq_true rfl, Nat.le_of_ble_eq_true rfl⟩) rfl hl.1 rfl (Nat.le_of_ble_eq_true rfl) dX2_stateOn_22 ⟨Nat.le_of_ble_eq_true rfl, Nat.le_of_ble_eq_true rfl⟩) hW (fun r_9 L_7 h_8 H locs p_10 hW => ?_)
    obtain ⟨hr_11, hT, hs⟩ := p_10
    replace hT : hx_T T_tb L_7 h_8 := hT
    replace hs : hx_S T_tb [] L_1 h_2 L_7 h_8 := hs
    replace hM := hM.tr (hs.mono (by decide))
    refine hb_if_eq (zx := r_9.toInt) (tgt := 31) hx hb rfl dX2_stateOn_25 (by decide) (fun c_12 => ?_) (fun c_12 => ?_)
    · skip
      replace hr_11 := hr_11.resolve_left (fun z => by have := z.1; omega)
      refine lv_aload_n hx hb dX2_stateOn_31 rfl (lv_at hl 0 rfl) ?_
      refine lv_aload_n hx hb dX2_stateOn_32 rfl (lv_at hl 1 rfl) ?_
      refine lv_iload_n hx hb dX2_stateOn_33 rfl (lv_at hl 2 rfl) ?_
      refine lv_iload_n hx hb dX2_stateOn_34 rfl (lv_at hl 3 rfl) ?_
      refine hx_goi (hx_runV (As := [.ref v1, .int i1, .int i2]) (rest := []) ⟨hx, hb, hml, hown, hts⟩ hW (gx.S hM) tt_2 (T := TX2) (N := 19) rfl (t_X2_restOn_v l dC dI dA L_7 h_8 H.size x v1 i1 i2 hT (gx.S hM) (gv1.S hM) pqo (gpqo.S hM) ((hM.o gv1 trivial rfl).2.trans f_v1_2) pqd (gpqd.S hM) ((hM.o gv1 trivial rfl).2.trans f_v1_3) pqs (gpqs.S hM) ((hM.o gv1 trivial rfl).2.trans f_v1_5) pqk (gpqk.S hM) ((hM.o gv1 trivial rfl).2.trans f_v1_4) pqt (gpqt.S hM) ((hM.o gv1 trivial rfl).2.trans f_v1_1) qac (gqac.S hM) ((hM.o gx trivial rfl).2.trans f_x_3) qt (gqt.S hM) ((hM.o gqac trivial rfl).2.trans f_qac_2) pof (hx_afS hM gpqo rfl af_pqo) pdf (hx_afS hM gpqd rfl af_pqd) psm (hx_afS hM gpqs rfl af_pqs) pkf (hx_afS hM gpqk rfl af_pqk) pst (hx_afS hM gpqt rfl af_pqt) tf (hx_afS hM gqt rfl af_qt) od ((hM.o gx trivial rfl).1.trans f_x_13) sei ((hM.o gx trivial rfl).1.trans f_x_16) gd ((hM.o gx trivial rfl).1.trans f_x_17) ow ((hM.o gx trivial rfl).1.trans f_x_15) sv ((hM.o gx trivial rfl).1.trans f_x_18) nm ((hM.o gx trivial rfl).1.trans f_x_0) n0 ((hM.o gv1 trivial rfl).1.trans f_v1_0) R hR hRb ⟨by omega, by omega⟩ ⟨by omega, by omega⟩ hps) (cwV 3 hts (hx_gV kw_861 kw_858 kw_859 kw_860 kw_110) rfl rfl rfl (by decide +kernel) ⟨Nat.le_of_ble_eq_true rfl, Nat.le_of_ble_eq_true rfl⟩) rfl hl.1 rfl (Nat.le_of_ble_eq_true rfl) dX2_stateOn_35 ⟨Nat.le_of_ble_eq_true rfl, Nat.le_of_ble_eq_true rfl⟩) hW (fun r_15 L_13 h_14 H locs p_16 hW => ?_)
      obtain ⟨hr_17, hT, hs⟩ := p_16
      replace hT : hx_T T_tb L_13 h_14 := hT
      replace hs : hx_S T_tb [] L_7 h_8 L_13 h_14 := hs
      replace hM := hM.tr (hs.mono (by decide))
      refine hb_if_ne (zx := r_15.toInt) (tgt := 44) hx hb rfl dX2_stateOn_38 (by decide) (fun c_18 => ?_) (fun c_18 => ?_)
      · skip
        refine lv_aload_n hx hb dX2_stateOn_44 rfl (lv_at hl 0 rfl) ?_
        refine lv_aload_n hx hb dX2_stateOn_45 rfl (lv_at hl 1 rfl) ?_
        refine lv_iload_n hx hb dX2_stateOn_46 rfl (lv_at hl 2 rfl) ?_
        refine lv_iload_n hx hb dX2_stateOn_47 rfl (lv_at hl 3 rfl) ?_
        refine hx_goi (hx_runVX (As := [.ref v1, .int i1, .int i2]) (rest := []) ⟨hx, hb, hml, hown, hts⟩ hW (gx.S hM) tt_2 (T := TX2) (N := 19) rfl (t_X2_missedOn_v l dC dI dA L_13 h_14 H.size b0 x v1 i1 i2 hT (gx.S hM) (gv1.S hM) pqo (gpqo.S hM) ((hM.o gv1 trivial rfl).2.trans f_v1_2) pqd (gpqd.S hM) ((hM.o gv1 trivial rfl).2.trans f_v1_3) pqs (gpqs.S hM) ((hM.o gv1 trivial rfl).2.trans f_v1_5) pqk (gpqk.S hM) ((hM.o gv1 trivial rfl).2.trans f_v1_4) pqt (gpqt.S hM) ((hM.o gv1 trivial rfl).2.trans f_v1_1) qac (gqac.S hM) ((hM.o gx trivial rfl).2.trans f_x_3) qt (gqt.S hM) ((hM.o gqac trivial rfl).2.trans f_qac_2) pof (hx_afS hM gpqo rfl af_pqo) pdf (hx_afS hM gpqd rfl af_pqd) psm (hx_afS hM gpqs rfl af_pqs) pkf (hx_afS hM gpqk rfl af_pqk) pst (hx_afS hM gpqt rfl af_pqt) tf (hx_afS hM gqt rfl af_qt) od ((hM.o gx trivial rfl).1.trans f_x_13) wk ((hM.o gx trivial rfl).1.trans f_x_14) ow ((hM.o gx trivial rfl).1.trans f_x_15) sei ((hM.o gx trivial rfl).1.trans f_x_16) gd ((hM.o gx trivial rfl).1.trans f_x_17) sv ((hM.o gx trivial rfl).1.trans f_x_18) nm ((hM.o gx trivial rfl).1.trans f_x_0) n0 ((hM.o gv1 trivial rfl).1.trans f_v1_0) R hR hRb ⟨by omega, by omega⟩ ⟨by omega, by omega⟩ ⟨by omega, by omega⟩ ⟨by omega, by omega⟩ hps ⟨by omega, by omega⟩) hZ (cwV 3 hts (hx_gV kw_915 kw_912 kw_913 kw_914 kw_110) rfl rfl rfl (by decide +kernel) ⟨Nat.le_of_ble_eq_true rfl, Nat.le_of_ble_eq_true rfl⟩) rfl hl.1 rfl (Nat.le_of_ble_eq_true rfl) dX2_stateOn_48 ⟨Nat.le_of_ble_eq_true rfl, Nat.le_of_ble_eq_true rfl⟩) hW (fun r_21 L_19 h_20 H locs p_22 hW => ?_)
        obtain ⟨hr_23, hT, hs⟩ := p_22
        replace hT : hx_T T_tb L_19 h_20 := hT
        replace hs : hx_S T_tb [] L_13 h_14 L_19 h_20 := hs
        replace hM := hM.tr (hs.mono (by decide))
        refine lv_istore (lv' := [(4, .int r_21), (0, .ref x), (1, .ref v1), (2, .int i1), (3, .int i2)]) hx hb dX2_stateOn_51 hl (by decide) rfl (fun ls hl => ?_)
        refine lv_iload hx hb dX2_stateOn_53 (lv_at hl 0 rfl) ?_
        refine lv_aload_n hx hb dX2_stateOn_55 rfl (lv_at hl 1 rfl) ?_
        refine hk_getr hx hb hts hC_2 hown hW (gx.S hM) tt_2 3 (by decide) rfl kw_734 ⟨rfl, rfl, rfl⟩ ((hM.o gx trivial rfl).2.trans f_x_3) dX2_stateOn_56 ?_
        refine hk_getr hx hb hts hC_0 hown hW (gqac.S hM) tt_0 2 (by decide) rfl kw_167 ⟨rfl, rfl, rfl⟩ ((hM.o gqac trivial rfl).2.trans f_qac_2) dX2_stateOn_59 ?_
        refine lv_iconst (v := 5) hx hb dX2_stateOn_62 (by decide) ?_
        refine hx_iald hx hb hW hT (gqt.S hM) tt_11 rfl (by decide) dX2_stateOn_63 (fun x_24 ex_24 lx_24 ux_24 => ?_)
        have ax_24 : x_24 = tf (5 : Int32).toNatClampNeg := ex_24.trans (congrFun (hx_afS hM gqt rfl af_qt) _)
        have hR_25 : x_24.toInt = R 4 := by rw [← hR, ax_24, show (5 : Int32).toNatClampNeg = 5 from by decide]; rfl
        have hR_25b := hRb 4
        rw [← hR_25] at hR_25b
        refine hb_icmp_ge (zx := r_21.toInt) (zy := x_24.toInt) (tgt := 69) hx hb rfl rfl dX2_stateOn_64 (by decide) (fun c_26 => ?_) (fun c_26 => ?_)
        · skip
          refine lv_iload hx hb dX2_stateOn_69 (lv_at hl 0 rfl) ?_
          refine lv_aload_n hx hb dX2_stateOn_71 rfl (lv_at hl 1 rfl) ?_
          refine hk_getr hx hb hts hC_2 hown hW (gx.S hM) tt_2 3 (by decide) rfl kw_734 ⟨rfl, rfl, rfl⟩ ((hM.o gx trivial rfl).2.trans f_x_3) dX2_stateOn_72 ?_
          refine hk_getr hx hb hts hC_0 hown hW (gqac.S hM) tt_0 2 (by decide) rfl kw_167 ⟨rfl, rfl, rfl⟩ ((hM.o gqac trivial rfl).2.trans f_qac_2) dX2_stateOn_75 ?_
          refine lv_iconst (v := 5) hx hb dX2_stateOn_78 (by decide) ?_
          refine hx_iald hx hb hW hT (gqt.S hM) tt_11 rfl (by decide) dX2_stateOn_79 (fun x_27 ex_27 lx_27 ux_27 => ?_)
          have ax_27 : x_27 = tf (5 : Int32).toNatClampNeg := ex_27.trans (congrFun (hx_afS hM gqt rfl af_qt) _)
          obtain rfl : x_24 = x_27 := ex_24.trans ex_27.symm
          have hR_28 : x_24.toInt = R 4 := by rw [← hR, ax_24, show (5 : Int32).toNatClampNeg = 5 from by decide]; rfl
          have hR_28b := hRb 4
          rw [← hR_28] at hR_28b
          refine lv_aload_n hx hb dX2_stateOn_80 rfl (lv_at hl 1 rfl) ?_
          refine hk_getr hx hb hts hC_2 hown hW (gx.S hM) tt_2 3 (by decide) rfl kw_734 ⟨rfl, rfl, rfl⟩ ((hM.o gx trivial rfl).2.trans f_x_3) dX2_stateOn_81 ?_
          refine hk_getr hx hb hts hC_0 hown hW (gqac.S hM) tt_0 2 (by decide) rfl kw_167 ⟨rfl, rfl, rfl⟩ ((hM.o gqac trivial rfl).2.trans f_qac_2) dX2_stateOn_84 ?_
          refine lv_bipush (v := 6) hx hb dX2_stateOn_87 (by decide) ?_
          refine hx_iald hx hb hW hT (gqt.S hM) tt_11 rfl (by decide) dX2_stateOn_89 (fun x_29 ex_29 lx_29 ux_29 => ?_)
          have ax_29 : x_29 = tf (6 : Int32).toNatClampNeg := ex_29.trans (congrFun (hx_afS hM gqt rfl af_qt) _)
          have hR_30 : x_29.toInt = R 5 := by rw [← hR, ax_29, show (6 : Int32).toNatClampNeg = 6 from by decide]; rfl
          have hR_30b := hRb 5
          rw [← hR_30] at hR_30b
          refine lv_iadd hx hb dX2_stateOn_90 ?_
          have rg_31 := i32_r x_24
          have rg_32 := i32_r x_29
          refine lv_topi (fun x_33 ex_33 => ?_)
          have zx_33 : x_33.toInt = x_24.toInt + x_29.toInt := by rw [ex_33]; exact i32_add rfl rfl (by omega) (by omega)
          refine hb_icmp_ge (zx := r_21.toInt) (zy := x_33.toInt) (tgt := 98) hx hb rfl rfl dX2_stateOn_91 (by decide) (fun c_34 => ?_) (fun c_34 => ?_)
          · skip
            refine lv_bipush (v := 6) hx hb dX2_stateOn_98 (by decide) ?_
            exact hx_reti hx hb hr hlk hW ⟨(by have zr : (6 : Int32).toInt = 6 := (by decide); exact ⟨(by unfold hz_st; (repeat' split) <;> omega), by omega, by omega⟩), hT, hM⟩ dX2_stateOn_100
          · skip
            refine lv_iconst (v := 5) hx hb dX2_stateOn_94 (by decide) ?_
            refine lv_goto (tgt := 100) hx hb dX2_stateOn_95 (by decide) ?_
            exact hx_reti hx hb hr hlk hW ⟨(by have zr : (5 : Int32).toInt = 5 := (by decide); exact ⟨(by unfold hz_st; (repeat' split) <;> omega), by omega, by omega⟩), hT, hM⟩ dX2_stateOn_100
        · skip
          refine lv_iconst (v := 4) hx hb dX2_stateOn_67 (by decide) ?_
          exact hx_reti hx hb hr hlk hW ⟨(by have zr : (4 : Int32).toInt = 4 := (by decide); exact ⟨(by unfold hz_st; (repeat' split) <;> omega), by omega, by omega⟩), hT, hM⟩ dX2_stateOn_68
      · skip
        refine lv_bipush (v := 7) hx hb dX2_stateOn_41 (by decide) ?_
        exact hx_reti hx hb hr hlk hW ⟨(by have zr : (7 : Int32).toInt = 7 := (by decide); exact ⟨(by unfold hz_st; (repeat' split) <;> omega), by omega, by omega⟩), hT, hM⟩ dX2_stateOn_43
    · skip
      replace hr_11 := hr_11.resolve_right (fun z => by have := z.1; omega)
      refine lv_bipush (v := 8) hx hb dX2_stateOn_28 (by decide) ?_
      exact hx_reti hx hb hr hlk hW ⟨(by have zr : (8 : Int32).toInt = 8 := (by decide); exact ⟨(by unfold hz_st; (repeat' split) <;> omega), by omega, by omega⟩), hT, hM⟩ dX2_stateOn_30
  · skip
    replace hr_5 := hr_5.resolve_left (fun z => by have := z.1; omega)
    refine lv_aload_n hx hb dX2_stateOn_11 rfl (lv_at hl 0 rfl) ?_
    refine lv_iload_n hx hb dX2_stateOn_12 rfl (lv_at hl 2 rfl) ?_
    refine hx_goi (hx_runV (As := [.int i1]) (rest := []) ⟨hx, hb, hml, hown, hts⟩ hW (gx.S hM) tt_2 (T := TX2) (N := 19) rfl (t_X2_stateAheadOfOrder_v l dC dI dA L_1 h_2 H.size x i1 hT (gx.S hM) fo ((hM.o gx trivial rfl).1.trans f_x_10) he ((hM.o gx trivial rfl).1.trans f_x_11) ju ((hM.o gx trivial rfl).1.trans f_x_12)) (cwV 1 hts (hx_gV kw_911 kw_908 kw_910 kw_32 kw_110) rfl rfl rfl (by decide +kernel) ⟨Nat.le_of_ble_eq_true rfl, Nat.le_of_ble_eq_true rfl⟩) rfl hl.1 rfl (Nat.le_of_ble_eq_true rfl) dX2_stateOn_13 ⟨Nat.le_of_ble_eq_true rfl, Nat.le_of_ble_eq_true rfl⟩) hW (fun r_37 L_35 h_36 H locs p_38 hW => ?_)
    obtain ⟨hr_39, hT, hs⟩ := p_38
    replace hT : hx_T T_tb L_35 h_36 := hT
    replace hs : hx_S T_tb [] L_1 h_2 L_35 h_36 := hs
    replace hM := hM.tr (hs.mono (by decide))
    exact hx_reti hx hb hr hlk hW ⟨⟨(by unfold hz_st; rw [if_pos (by omega)]; exact hr_39.1), by omega, by omega⟩, hT, hM⟩ dX2_stateOn_16


set_option maxHeartbeats 4000000 in
set_option maxRecDepth 100000 in
theorem t_X2_isOpen_v (l : Launch) (dC : Nat → ClassId) (dI : Nat → Nat → Nat) (dA : Nat → ClassId) (L : List Nat) (h : hx_h) (sz : Nat) (x : Nat) (v1 : Nat) (i1 : Int32) (hT : hx_T T_tb L h) (gx : hx_g L h x 2) (gv1 : hx_g L h v1 3) (pqo : Nat) (gpqo : hx_g L h pqo 23) (f_v1_2 : h.2.2 v1 2 = some pqo) (pqd : Nat) (gpqd : hx_g L h pqd 24) (f_v1_3 : h.2.2 v1 3 = some pqd) (pqs : Nat) (gpqs : hx_g L h pqs 26) (f_v1_5 : h.2.2 v1 5 = some pqs) (pqk : Nat) (gpqk : hx_g L h pqk 25) (f_v1_4 : h.2.2 v1 4 = some pqk) (pqt : Nat) (gpqt : hx_g L h pqt 22) (f_v1_1 : h.2.2 v1 1 = some pqt) (qac : Nat) (gqac : hx_g L h qac 0) (f_x_3 : h.2.2 x 3 = some qac) (qt : Nat) (gqt : hx_g L h qt 11) (f_qac_2 : h.2.2 qac 2 = some qt) (pof : Nat → Int32) (af_pqo : h.2.1 pqo = pof) (pdf : Nat → Int32) (af_pqd : h.2.1 pqd = pdf) (psm : Nat → Int32) (af_pqs : h.2.1 pqs = psm) (pkf : Nat → Int32) (af_pqk : h.2.1 pqk = pkf) (pst : Nat → Int32) (af_pqt : h.2.1 pqt = pst) (tf : Nat → Int32) (af_qt : h.2.1 qt = tf) (od : Int32) (f_x_13 : h.2.1 x 13 = od) (sei : Int32) (f_x_16 : h.2.1 x 16 = sei) (gd : Int32) (f_x_17 : h.2.1 x 17 = gd) (ow : Int32) (f_x_15 : h.2.1 x 15 = ow) (sv : Int32) (f_x_18 : h.2.1 x 18 = sv) (nm : Int32) (f_x_0 : h.2.1 x 0 = nm) (n0 : Int32) (f_v1_0 : h.2.1 v1 0 = n0) (R : Nat → Int) (hR : hv_rC tf = R) (hRb : ∀ k, 0 ≤ R k ∧ R k ≤ 9999) (how : 0 ≤ ow.toInt ∧ ow.toInt ≤ 600000) (hgd : 0 ≤ gd.toInt ∧ gd.toInt ≤ 9999) (hps : ∀ j, j < 600 → 0 ≤ (psm j).toInt ∧ (psm j).toInt ≤ 610000) : Met l yX2_isOpen (Cond.code yX2_isOpen cX2_isOpen 3 (some .boolean) :: hx_all) ({ frames := 4, cells := 0, slots := 0, locals := 96 }) (va_Pc [.ref x, .ref v1, .int i1] (hx_B T_tb (P_ty dA) (dC, dI) vwCl L h sz)) (va_Qi (fun (r : Int32) (u : List Nat × hx_h) => ((r.toInt = 1 ∧ 0 < hz_rs sv.toInt (hz_bl od.toInt sei.toInt gd.toInt ow.toInt (R 12) i1.toInt (hx_ps pof pdf psm pkf pst i1.toInt i1.toInt nm.toInt n0.toInt.toNat)) i1.toInt) ∨ (r.toInt = 0 ∧ ¬ 0 < hz_rs sv.toInt (hz_bl od.toInt sei.toInt gd.toInt ow.toInt (R 12) i1.toInt (hx_ps pof pdf psm pkf pst i1.toInt i1.toInt nm.toInt n0.toInt.toNat)) i1.toInt)) ∧ hx_T T_tb u.1 u.2 ∧ hx_S T_tb [] L h u.1 u.2) (hx_E T_tb (P_ty dA) (dC, dI) vwCl (hx_A L sz)) (hx_A L sz)) 0 0 (hx_A L sz) := by
  refine hx_met (lv := [(0, .ref x), (1, .ref v1), (2, .int i1)]) (by decide +kernel) rfl (Nat.le_of_ble_eq_true rfl) rfl ?_
  intro p e s m below meth c hx hb hml hr hlk hts0 hown hin hsz hW ls hl
  have hts : ∀ w ∈ hx_all, w.before _ s = true := fun w hw => hts0 w (List.mem_cons_of_mem _ hw)
  have hown : s.vm.findClass "SmallCourt$Claim" = some m.cls := hown
  have hM : hx_S T_tb [] L h L h := hx_S.rf
  have b_od := hT.gi gx tt_2 (k := 13) rfl
  rw [f_x_13] at b_od
  have b_od : -2147483648 ≤ od.toInt ∧ od.toInt ≤ 2147483647 := b_od
  have b_sei := hT.gi gx tt_2 (k := 16) rfl
  rw [f_x_16] at b_sei
  have b_sei : -2147483648 ≤ sei.toInt ∧ sei.toInt ≤ 2147483647 := b_sei
  have b_gd := hT.gi gx tt_2 (k := 17) rfl
  rw [f_x_17] at b_gd
  have b_gd : -2147483648 ≤ gd.toInt ∧ gd.toInt ≤ 2147483647 := b_gd
  have b_ow := hT.gi gx tt_2 (k := 15) rfl
  rw [f_x_15] at b_ow
  have b_ow : -2147483648 ≤ ow.toInt ∧ ow.toInt ≤ 2147483647 := b_ow
  have b_sv := hT.gi gx tt_2 (k := 18) rfl
  rw [f_x_18] at b_sv
  have b_sv : -2147483648 ≤ sv.toInt ∧ sv.toInt ≤ 2147483647 := b_sv
  have b_nm := hT.gi gx tt_2 (k := 0) rfl
  rw [f_x_0] at b_nm
  have b_nm : 0 ≤ nm.toInt ∧ nm.toInt ≤ 99 := b_nm
  have b_n0 := hT.gi gv1 tt_3 (k := 0) rfl
  rw [f_v1_0] at b_n0
  have b_n0 : 0 ≤ n0.toInt ∧ n0.toInt ≤ 600 := b_n0
  refine lv_aload_n hx hb dX2_isOpen_0 rfl (lv_at hl 0 rfl) ?_
  refine lv_aload_n hx hb dX2_isOpen_1 rfl (lv_at hl 1 rfl) ?_
  refine lv_iload_n hx hb dX2_isOpen_2 rfl (lv_at hl 2 rfl) ?_
  refine lv_iload_n hx hb dX2_isOpen_3 rfl (lv_at hl 2 rfl) ?_
  refine hx_goi (hx_runV (As := [.ref v1, .int i1, .int i1]) (rest := []) ⟨hx, hb, hml, hown, hts⟩ hW (gx.S hM) tt_2 (T := TX2) (N := 19) rfl (t_X2_restOn_v l dC dI dA L h s.heap.size x v1 i1 i1 hT (gx.S hM) (gv1.S hM) pqo (gpqo.S hM) ((hM.o gv1 trivial rfl).2.trans f_v1_2) pqd (gpqd.S hM) ((hM.o gv1 trivial rfl).2.trans f_v1_3) pqs (gpqs.S hM) ((hM.o gv1 trivial rfl).2.trans f_v1_5) pqk (gpqk.S hM) ((hM.o gv1 trivial rfl).2.trans f_v1_4) pqt (gpqt.S hM) ((hM.o gv1 trivial rfl).2.trans f_v1_1) qac (gqac.S hM) ((hM.o gx trivial rfl).2.trans f_x_3) qt (gqt.S hM) ((hM.o gqac trivial rfl).2.trans f_qac_2) pof (hx_afS hM gpqo rfl af_pqo) pdf (hx_afS hM gpqd rfl af_pqd) psm (hx_afS hM gpqs rfl af_pqs) pkf (hx_afS hM gpqk rfl af_pqk) pst (hx_afS hM gpqt rfl af_pqt) tf (hx_afS hM gqt rfl af_qt) od ((hM.o gx trivial rfl).1.trans f_x_13) sei ((hM.o gx trivial rfl).1.trans f_x_16) gd ((hM.o gx trivial rfl).1.trans f_x_17) ow ((hM.o gx trivial rfl).1.trans f_x_15) sv ((hM.o gx trivial rfl).1.trans f_x_18) nm ((hM.o gx trivial rfl).1.trans f_x_0) n0 ((hM.o gv1 trivial rfl).1.trans f_v1_0) R hR hRb ⟨by omega, by omega⟩ ⟨by omega, by omega⟩ hps) (cwV 3 hts (hx_gV kw_861 kw_858 kw_859 kw_860 kw_110) rfl rfl rfl (by decide +kernel) ⟨Nat.le_of_ble_eq_true rfl, Nat.le_of_ble_eq_true rfl⟩) rfl hl.1 rfl (Nat.le_of_ble_eq_true rfl) dX2_isOpen_4 ⟨Nat.le_of_ble_eq_true rfl, Nat.le_of_ble_eq_true rfl⟩) hW (fun r_3 L_1 h_2 H locs p_4 hW => ?_)
  obtain ⟨hr_5, hT, hs⟩ := p_4
  replace hT : hx_T T_tb L_1 h_2 := hT
  replace hs : hx_S T_tb [] L h L_1 h_2 := hs
  replace hM := hM.tr (hs.mono (by decide))
  refine hb_if_le (zx := r_3.toInt) (tgt := 14) hx hb rfl dX2_isOpen_7 (by decide) (fun c_6 => ?_) (fun c_6 => ?_)
  · skip
    refine lv_iconst (v := 0) hx hb dX2_isOpen_14 (by decide) ?_
    exact hx_retz hx hb hr rfl hlk hW ⟨(Or.inr ⟨by decide, by omega⟩), hT, hM⟩ dX2_isOpen_15
  · skip
    refine lv_iconst (v := 1) hx hb dX2_isOpen_10 (by decide) ?_
    refine lv_goto (tgt := 15) hx hb dX2_isOpen_11 (by decide) ?_
    exact hx_retz hx hb hr rfl hlk hW ⟨(Or.inl ⟨by decide, by omega⟩), hT, hM⟩ dX2_isOpen_15
