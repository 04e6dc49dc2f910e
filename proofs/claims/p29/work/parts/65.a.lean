/-- a fact that omega is not to see -/
def hq_P (p : Prop) : Prop := p
theorem hq_i {p : Prop} (h : p) : hq_P p := h
theorem hq_o {p : Prop} (h : hq_P p) : p := h


set_option maxHeartbeats 4000000 in
set_option maxRecDepth 100000 in
theorem t_X10_offers_2 (l : Launch) (dC : Nat → ClassId) (dI : Nat → Nat → Nat) (dA : Nat → ClassId) (L : List Nat) (h : hx_h) (sz : Nat) (x : Nat) (i1 : Int32) (i2 : Int32) (hT : hx_T T_tb L h) (gx : hx_g L h x 10) (qdb : Nat) (gqdb : hx_g L h qdb 108) (f_x_82 : h.2.2 x 82 = some qdb) (qrg : Nat) (gqrg : hx_g L h qrg 111) (f_x_89 : h.2.2 x 89 = some qrg) (qbr : Nat) (gqbr : hx_g L h qbr 110) (f_x_88 : h.2.2 x 88 = some qbr) (dbf : Nat → Int32) (af_qdb : h.2.1 qdb = dbf) (rgf : Nat → Int32) (af_qrg : h.2.1 qrg = rgf) (brf : Nat → Int32) (af_qbr : h.2.1 qbr = brf) (bl0 : Int32) (f_x_86 : h.2.1 x 86 = bl0) (bs0 : Int32) (f_x_87 : h.2.1 x 87 = bs0) (hi1 : 2 ≤ i1.toInt ∧ i1.toInt ≤ 4) (hPR : hx_PR rgf dbf i1.toInt i2.toInt) (hBR : hx_BR brf dbf bs0.toInt bl0.toInt) : Met l yX10_offers (Cond.code yX10_offers cX10_offers 6 none :: hx_all) ({ frames := 0, cells := 0, slots := 0, locals := 0 }) (va_Pc [.ref x, .int i1, .int i2] (hx_B T_tb (P_ty dA) (dC, dI) vwCl L h sz)) (va_Qv (fun (u : List Nat × hx_h) => (∃ (bl1 : Int32) (bs1 : Int32) (brf1 : Nat → Int32), u.2.2.1 x 86 = bl1 ∧ u.2.2.1 x 87 = bs1 ∧ u.2.2.1 qbr = brf1 ∧ (hx_BR brf1 dbf bs1.toInt bl1.toInt)) ∧ hx_T T_tb u.1 u.2 ∧ hx_S T_tb [(10, 86), (10, 87), (110, 0)] L h u.1 u.2) (hx_E T_tb (P_ty dA) (dC, dI) vwCl (hx_A L sz)) (hx_A L sz)) 0 0 (hx_A L sz) := by
  refine hx_met (lv := [(0, .ref x), (1, .int i1), (2, .int i2)]) (by decide +kernel) rfl (Nat.le_of_ble_eq_true rfl) rfl ?_
  intro p e s m below meth c hx hb hml hr hlk hts0 hown hin hsz hW ls hl
  have hts : ∀ w ∈ hx_all, w.before _ s = true := fun w hw => hts0 w (List.mem_cons_of_mem _ hw)
  have hown : s.vm.findClass "SmallCourtModel" = some m.cls := hown
  have hM : hx_S T_tb [(10, 86), (10, 87), (110, 0)] L h L h := hx_S.rf
  have b_bl0 := hT.gi gx tt_10 (k := 86) rfl
  rw [f_x_86] at b_bl0
  have b_bl0 : -2147483648 ≤ bl0.toInt ∧ bl0.toInt ≤ 2147483647 := b_bl0
  have b_bs0 := hT.gi gx tt_10 (k := 87) rfl
  rw [f_x_87] at b_bs0
  have b_bs0 : 0 ≤ bs0.toInt ∧ bs0.toInt ≤ 4 := b_bs0
  refine lv_aload_n hx hb dX10_offers_0 rfl (lv_at hl 0 rfl) ?_
  refine hk_getr hx hb hts hC_10 hown hW (gx.S hM) tt_10 82 (by decide) rfl kw_1225 ⟨rfl, rfl, rfl⟩ ((hM.o gx trivial rfl).2.trans f_x_82) dX10_offers_1 ?_
  refine lv_bipush (v := 40) hx hb dX10_offers_4 (by decide) ?_
  refine lv_aload_n hx hb dX10_offers_6 rfl (lv_at hl 0 rfl) ?_
  refine hk_getr hx hb hts hC_10 hown hW (gx.S hM) tt_10 89 (by decide) rfl kw_1232 ⟨rfl, rfl, rfl⟩ ((hM.o gx trivial rfl).2.trans f_x_89) dX10_offers_7 ?_
  refine lv_iload_n hx hb dX10_offers_10 rfl (lv_at hl 1 rfl) ?_
  refine lv_iconst (v := 1) hx hb dX10_offers_11 (by decide) ?_
  refine lv_isub hx hb dX10_offers_12 ?_
  have rg_1 := i32_r i1
  refine lv_topi (fun x_2 ex_2 => ?_)
  have zx_2 : x_2.toInt = i1.toInt - 1 := by rw [ex_2]; exact i32_sub rfl (by decide) (by omega) (by omega)
  refine hx_iald hx hb hW hT (gqrg.S hM) tt_111 rfl ⟨by omega, by omega⟩ dX10_offers_13 (fun x_3 ex_3 lx_3 ux_3 => ?_)
  have ax_3 : x_3 = rgf x_2.toNatClampNeg := ex_3.trans (congrFun (hx_afS hM gqrg rfl af_qrg) _)
  refine lv_imul hx hb dX10_offers_14 ?_
  refine lv_topi (fun x_4 ex_4 => ?_)
  have zx_4 : x_4.toInt = 40 * x_3.toInt := by rw [ex_4]; exact i32_mul (by decide) rfl rfl (by omega) (by omega)
  refine lv_aload_n hx hb dX10_offers_15 rfl (lv_at hl 0 rfl) ?_
  refine hk_getr hx hb hts hC_10 hown hW (gx.S hM) tt_10 89 (by decide) rfl kw_1232 ⟨rfl, rfl, rfl⟩ ((hM.o gx trivial rfl).2.trans f_x_89) dX10_offers_16 ?_
  refine lv_iconst (v := 0) hx hb dX10_offers_19 (by decide) ?_
  refine hx_iald hx hb hW hT (gqrg.S hM) tt_111 rfl (by decide) dX10_offers_20 (fun x_5 ex_5 lx_5 ux_5 => ?_)
  have ax_5 : x_5 = rgf (0 : Int32).toNatClampNeg := ex_5.trans (congrFun (hx_afS hM gqrg rfl af_qrg) _)
  refine lv_iadd hx hb dX10_offers_21 ?_
  have rg_6 := i32_r x_4
  have rg_7 := i32_r x_5
  refine lv_topi (fun x_8 ex_8 => ?_)
  have zx_8 : x_8.toInt = x_4.toInt + x_5.toInt := by rw [ex_8]; exact i32_add rfl rfl (by omega) (by omega)
  refine hx_iald hx hb hW hT (gqdb.S hM) tt_108 rfl ⟨by omega, by omega⟩ dX10_offers_22 (fun x_9 ex_9 lx_9 ux_9 => ?_)
  have ax_9 : x_9 = dbf x_8.toNatClampNeg := ex_9.trans (congrFun (hx_afS hM gqdb rfl af_qdb) _)
  refine lv_istore_n (lv' := [(3, .int x_9), (0, .ref x), (1, .int i1), (2, .int i2)]) hx hb dX10_offers_23 rfl hl (by decide) rfl (fun ls hl => ?_)
  refine lv_iload_n hx hb dX10_offers_24 rfl (lv_at hl 0 rfl) ?_
  refine lv_iload_n hx hb dX10_offers_25 rfl (lv_at hl 3 rfl) ?_
  refine hb_icmp_ge (zx := x_9.toInt) (zy := i2.toInt) (tgt := 33) hx hb rfl rfl dX10_offers_26 (by decide) (fun c_10 => ?_) (fun c_10 => ?_)
  · skip
    refine lv_iload_n hx hb dX10_offers_33 rfl (lv_at hl 3 rfl) ?_
    refine lv_istore (lv' := [(4, .int i2), (3, .int x_9), (0, .ref x), (1, .int i1), (2, .int i2)]) hx hb dX10_offers_34 hl (by decide) rfl (fun ls hl => ?_)
    have hbl0 := hBR.1
    refine lv_iload hx hb dX10_offers_36 (lv_at hl 0 rfl) ?_
    refine hb_if_eq (zx := i2.toInt) (tgt := 67) hx hb rfl dX10_offers_38 (by decide) (fun c_11 => ?_) (fun c_11 => ?_)
    · skip
      exact hx_retv hx hb hr hlk hW ⟨⟨bl0, bs0, brf, f_x_86, f_x_87, af_qbr, hBR⟩, hT, hM⟩ dX10_offers_67
    · skip
      refine lv_iload hx hb dX10_offers_41 (lv_at hl 0 rfl) ?_
      refine lv_aload_n hx hb dX10_offers_43 rfl (lv_at hl 2 rfl) ?_
      refine hk_geti hx hb hts hC_10 hown hW (gx.S hM) tt_10 86 (by decide) rfl kw_1229 ⟨rfl, rfl, rfl⟩ f_x_86 dX10_offers_44 ?_
      refine hb_icmp_lt (zx := i2.toInt) (zy := bl0.toInt) (tgt := 67) hx hb rfl rfl dX10_offers_47 (by decide) (fun c_12 => ?_) (fun c_12 => ?_)
      · skip
        exact hx_retv hx hb hr hlk hW ⟨⟨bl0, bs0, brf, f_x_86, f_x_87, af_qbr, hBR⟩, hT, hM⟩ dX10_offers_67
      · skip
        refine lv_iload hx hb dX10_offers_50 (lv_at hl 0 rfl) ?_
        refine lv_aload_n hx hb dX10_offers_52 rfl (lv_at hl 2 rfl) ?_
        refine hk_geti hx hb hts hC_10 hown hW (gx.S hM) tt_10 86 (by decide) rfl kw_1229 ⟨rfl, rfl, rfl⟩ f_x_86 dX10_offers_53 ?_
        refine hb_icmp_ne (zx := i2.toInt) (zy := bl0.toInt) (tgt := 68) hx hb rfl rfl dX10_offers_56 (by decide) (fun c_13 => ?_) (fun c_13 => ?_)
        · skip
          refine lv_aload_n hx hb dX10_offers_68 rfl (lv_at hl 2 rfl) ?_
          refine lv_iload hx hb dX10_offers_69 (lv_at hl 0 rfl) ?_
          refine hx_puti hx hb hts hC_10 hown hW hT (hx_S.rf (M := [(10, 86)])) (gx.S hM) tt_10 86 (by decide) rfl kw_1229 ⟨rfl, rfl, rfl⟩ rfl (x := i2) (i32_r _) rfl rfl rfl (List.mem_singleton.mpr rfl) dX10_offers_71 (fun H locs h_14 eh_14 hW hT hs => ?_)
          replace f_x_87 := (hs.o (gx.S hM) trivial rfl).1.trans f_x_87
          replace af_qbr : h_14.2.1 qbr = brf := (funext fun j => (hs.a (gqbr.S hM) rfl j).1).trans af_qbr
          replace ex_3 := ex_3.trans (hs.a (gqrg.S hM) rfl _).1.symm
          replace ex_5 := ex_5.trans (hs.a (gqrg.S hM) rfl _).1.symm
          replace ex_9 := ex_9.trans (hs.a (gqdb.S hM) rfl _).1.symm
          replace hM := hM.tr (hs.mono (by decide))
          have f_15 : h_14.2.1 x 86 = i2 := by rw [eh_14]; exact hx_pi_at _ _ _ _
          refine lv_aload_n hx hb dX10_offers_74 rfl (lv_at hl 2 rfl) ?_
          refine lv_iload_n hx hb dX10_offers_75 rfl (lv_at hl 3 rfl) ?_
          refine hx_puti hx hb hts hC_10 hown hW hT (hx_S.rf (M := [(10, 87)])) (gx.S hM) tt_10 87 (by decide) rfl kw_1230 ⟨rfl, rfl, rfl⟩ rfl (x := i1) ⟨by omega, by omega⟩ rfl rfl rfl (List.mem_singleton.mpr rfl) dX10_offers_76 (fun H locs h_16 eh_16 hW hT hs => ?_)
          replace f_15 := (hs.o (gx.S hM) trivial rfl).1.trans f_15
          replace af_qbr : h_16.2.1 qbr = brf := (funext fun j => (hs.a (gqbr.S hM) rfl j).1).trans af_qbr
          replace ex_3 := ex_3.trans (hs.a (gqrg.S hM) rfl _).1.symm
          replace ex_5 := ex_5.trans (hs.a (gqrg.S hM) rfl _).1.symm
          replace ex_9 := ex_9.trans (hs.a (gqdb.S hM) rfl _).1.symm
          replace hM := hM.tr (hs.mono (by decide))
          have f_17 : h_16.2.1 x 87 = i1 := by rw [eh_16]; exact hx_pi_at _ _ _ _
          refine lv_iconst (v := 0) hx hb dX10_offers_79 (by decide) ?_
          refine lv_istore (lv' := [(5, .int (0 : Int32)), (4, .int i2), (3, .int x_9), (0, .ref x), (1, .int i1), (2, .int i2)]) hx hb dX10_offers_80 hl (by decide) rfl (fun ls hl => ?_)
          have loop82 : ∀ (n82 : Nat) (iv82_5 : Int32) (ia82_qbr : Nat → Int32) (H : Heap) (locs : List Loc) (hL1 : List Nat) (hl1 : hx_h), 0 ≤ iv82_5.toInt → iv82_5.toInt ≤ 4 → (∀ k : Nat, (k : Int) < iv82_5.toInt → ia82_qbr k = rgf k) → ∀ (ls : Array Slot), 4 - iv82_5.toInt < (n82 : Int) → hx_W T_tb (P_ty dA) (dC, dI) vwCl (hx_A L sz) s.heap hL1 hl1 s H locs → hx_T T_tb hL1 hl1 → hx_S T_tb [(10, 86), (10, 87), (110, 0)] L h hL1 hl1 → hl1.2.1 x 86 = i2 → hl1.2.1 x 87 = i1 → hl1.2.1 qbr = ia82_qbr → lv_has ls 6 [(5, .int iv82_5), (4, .int i2), (3, .int x_9), (0, .ref x), (1, .int i1), (2, .int i2)] → W p l e ({ frames := 0, cells := 0, slots := 0, locals := 0 }) s m ([.ref x, .int i1, .int i2] : List Value).toArray below meth c H locs 0 0 (MQ below (va_Qv (fun (u : List Nat × hx_h) => (∃ (bl1 : Int32) (bs1 : Int32) (brf1 : Nat → Int32), u.2.2.1 x 86 = bl1 ∧ u.2.2.1 x 87 = bs1 ∧ u.2.2.1 qbr = brf1 ∧ (hx_BR brf1 dbf bs1.toInt bl1.toInt)) ∧ hx_T T_tb u.1 u.2 ∧ hx_S T_tb [(10, 86), (10, 87), (110, 0)] L h u.1 u.2) (hx_E T_tb (P_ty dA) (dC, dI) vwCl (hx_A L sz)) (hx_A L sz)) ([.ref x, .int i1, .int i2] : List Value).toArray s 0 0 (hx_A L sz)) (F0 m 82 ls []) := by
            intro n82
            induction n82 with
            | zero => intro iv82_5 ia82_qbr H locs hL1 hl1 bliv82_5 buiv82_5 vi82_0 ls hn82; exfalso; omega
            | succ n82 ih82 =>
              intro iv82_5 ia82_qbr H locs hL1 hl1 bliv82_5 buiv82_5 vi82_0 ls hn82 hW hT hM f_15 f_17 nia82_qbr hl
              refine lv_iload hx hb dX10_offers_82 (lv_at hl 0 rfl) ?_
              refine lv_iload_n hx hb dX10_offers_84 rfl (lv_at hl 4 rfl) ?_
              refine hb_icmp_ge (zx := iv82_5.toInt) (zy := i1.toInt) (tgt := 108) hx hb rfl rfl dX10_offers_85 (by decide) (fun c_18 => ?_) (fun c_18 => ?_)
              · skip
                exact hx_retv hx hb hr hlk hW ⟨⟨i2, i1, ia82_qbr, f_15, f_17, nia82_qbr, (hx_BR_new hPR (by omega) (by omega) ax_9 (by omega) (k := x_2) (by omega) ax_3 ax_5 ⟨by omega, by omega⟩ (by omega) (fun k hk => vi82_0 k (by omega)))⟩, hT, hM⟩ dX10_offers_108
              · skip
                refine lv_aload_n hx hb dX10_offers_88 rfl (lv_at hl 3 rfl) ?_
                refine hk_getr hx hb hts hC_10 hown hW (gx.S hM) tt_10 88 (by decide) rfl kw_1231 ⟨rfl, rfl, rfl⟩ ((hM.o gx trivial rfl).2.trans f_x_88) dX10_offers_89 ?_
                refine lv_iload hx hb dX10_offers_92 (lv_at hl 0 rfl) ?_
                refine lv_aload_n hx hb dX10_offers_94 rfl (lv_at hl 3 rfl) ?_
                refine hk_getr hx hb hts hC_10 hown hW (gx.S hM) tt_10 89 (by decide) rfl kw_1232 ⟨rfl, rfl, rfl⟩ ((hM.o gx trivial rfl).2.trans f_x_89) dX10_offers_95 ?_
                refine lv_iload hx hb dX10_offers_98 (lv_at hl 0 rfl) ?_
                refine hx_iald hx hb hW hT (gqrg.S hM) tt_111 rfl ⟨by omega, by omega⟩ dX10_offers_100 (fun x_19 ex_19 lx_19 ux_19 => ?_)
                have ax_19 : x_19 = rgf iv82_5.toNatClampNeg := ex_19.trans (congrFun (hx_afS hM gqrg rfl af_qrg) _)
                have nia82_qbrO := nia82_qbr
                refine hx_iast hx hb hW hT (hx_S.rf (M := [(110, 0)])) (gqbr.S hM) tt_110 rfl ⟨by omega, by omega⟩ rfl ⟨by omega, by omega⟩ (List.mem_singleton.mpr rfl) dX10_offers_101 (fun H locs h_20 eh_20 hW hT hs => ?_)
                replace f_15 := (hs.o (gx.S hM) trivial rfl).1.trans f_15
                replace f_17 := (hs.o (gx.S hM) trivial rfl).1.trans f_17
                replace ex_19 := ex_19.trans (hs.a (gqrg.S hM) rfl _).1.symm
                replace hM := hM.tr (hs.mono (by decide))
                obtain ⟨fa_21, dfa_21⟩ : ∃ g : Nat → Int32, g = hx_up ia82_qbr iv82_5.toNatClampNeg x_19 := ⟨_, rfl⟩
                have nfa_21 : h_20.2.1 qbr = fa_21 := by rw [eh_20, dfa_21, ← nia82_qbrO]; exact hx_pi_fun _ _ _ _
                obtain ⟨x_22, ex_22⟩ : ∃ y : Int32, y = iv82_5 + Int32.ofInt 1 := ⟨_, rfl⟩
                have rg_23 := i32_r iv82_5
                have zx_22 : x_22.toInt = iv82_5.toInt + (1) := by rw [ex_22]; exact i32_add rfl (by decide) (by omega) (by omega)
                refine lv_iinc (v := x_22) (lv' := [(5, .int x_22), (4, .int i2), (3, .int x_9), (0, .ref x), (1, .int i1), (2, .int i2)]) hx hb dX10_offers_102 hl (k := 0) rfl ex_22.symm (by decide) rfl (fun ls hl => ?_)
                refine lv_goto (tgt := 82) hx hb dX10_offers_105 (by decide) ?_
                exact ih82 x_22 fa_21 _ _ hL1 h_20 (by omega) (by omega) (hx_cp_s vi82_0 dfa_21 ax_19 rfl (by omega) zx_22) ls (by omega) hW hT hM f_15 f_17 nfa_21 (lv_sub hl [0, 1, 2, 3, 4, 5] rfl)
          have zk_0 : (0 : Int32).toInt = 0 := by decide
          exact loop82 5 (0 : Int32) brf _ _ L h_16 (by decide) (by decide) (fun k hk => by omega) ls (by omega) hW hT hM f_15 f_17 af_qbr hl
        · skip
          refine lv_iload_n hx hb dX10_offers_59 rfl (lv_at hl 3 rfl) ?_
          refine lv_aload_n hx hb dX10_offers_60 rfl (lv_at hl 2 rfl) ?_
          refine hk_geti hx hb hts hC_10 hown hW (gx.S hM) tt_10 87 (by decide) rfl kw_1230 ⟨rfl, rfl, rfl⟩ f_x_87 dX10_offers_61 ?_
          refine hb_icmp_lt (zx := i1.toInt) (zy := bs0.toInt) (tgt := 68) hx hb rfl rfl dX10_offers_64 (by decide) (fun c_24 => ?_) (fun c_24 => ?_)
          · skip
            refine lv_aload_n hx hb dX10_offers_68 rfl (lv_at hl 2 rfl) ?_
            refine lv_iload hx hb dX10_offers_69 (lv_at hl 0 rfl) ?_
            refine hx_puti hx hb hts hC_10 hown hW hT (hx_S.rf (M := [(10, 86)])) (gx.S hM) tt_10 86 (by decide) rfl kw_1229 ⟨rfl, rfl, rfl⟩ rfl (x := i2) (i32_r _) rfl rfl rfl (List.mem_singleton.mpr rfl) dX10_offers_71 (fun H locs h_25 eh_25 hW hT hs => ?_)
            replace f_x_87 := (hs.o (gx.S hM) trivial rfl).1.trans f_x_87
            replace af_qbr : h_25.2.1 qbr = brf := (funext fun j => (hs.a (gqbr.S hM) rfl j).1).trans af_qbr
            replace ex_3 := ex_3.trans (hs.a (gqrg.S hM) rfl _).1.symm
            replace ex_5 := ex_5.trans (hs.a (gqrg.S hM) rfl _).1.symm
            replace ex_9 := ex_9.trans (hs.a (gqdb.S hM) rfl _).1.symm
            replace hM := hM.tr (hs.mono (by decide))
            have f_26 : h_25.2.1 x 86 = i2 := by rw [eh_25]; exact hx_pi_at _ _ _ _
            refine lv_aload_n hx hb dX10_offers_74 rfl (lv_at hl 2 rfl) ?_
            refine lv_iload_n hx hb dX10_offers_75 rfl (lv_at hl 3 rfl) ?_
            refine hx_puti hx hb hts hC_10 hown hW hT (hx_S.rf (M := [(10, 87)])) (gx.S hM) tt_10 87 (by decide) rfl kw_1230 ⟨rfl, rfl, rfl⟩ rfl (x := i1) ⟨by omega, by omega⟩ rfl rfl rfl (List.mem_singleton.mpr rfl) dX10_offers_76 (fun H locs h_27 eh_27 hW hT hs => ?_)
            replace f_26 := (hs.o (gx.S hM) trivial rfl).1.trans f_26
            replace af_qbr : h_27.2.1 qbr = brf := (funext fun j => (hs.a (gqbr.S hM) rfl j).1).trans af_qbr
            replace ex_3 := ex_3.trans (hs.a (gqrg.S hM) rfl _).1.symm
            replace ex_5 := ex_5.trans (hs.a (gqrg.S hM) rfl _).1.symm
            replace ex_9 := ex_9.trans (hs.a (gqdb.S hM) rfl _).1.symm
            replace hM := hM.tr (hs.mono (by decide))
            have f_28 : h_27.2.1 x 87 = i1 := by rw [eh_27]; exact hx_pi_at _ _ _ _
            refine lv_iconst (v := 0) hx hb dX10_offers_79 (by decide) ?_
            refine lv_istore (lv' := [(5, .int (0 : Int32)), (4, .int i2), (3, .int x_9), (0, .ref x), (1, .int i1), (2, .int i2)]) hx hb dX10_offers_80 hl (by decide) rfl (fun ls hl => ?_)
            have loop82 : ∀ (n82 : Nat) (iv82_5 : Int32) (ia82_qbr : Nat → Int32) (H : Heap) (locs : List Loc) (hL1 : List Nat) (hl1 : hx_h), 0 ≤ iv82_5.toInt → iv82_5.toInt ≤ 4 → (∀ k : Nat, (k : Int) < iv82_5.toInt → ia82_qbr k = rgf k) → ∀ (ls : Array Slot), 4 - iv82_5.toInt < (n82 : Int) → hx_W T_tb (P_ty dA) (dC, dI) vwCl (hx_A L sz) s.heap hL1 hl1 s H locs → hx_T T_tb hL1 hl1 → hx_S T_tb [(10, 86), (10, 87), (110, 0)] L h hL1 hl1 → hl1.2.1 x 86 = i2 → hl1.2.1 x 87 = i1 → hl1.2.1 qbr = ia82_qbr → lv_has ls 6 [(5, .int iv82_5), (4, .int i2), (3, .int x_9), (0, .ref x), (1, .int i1), (2, .int i2)] → W p l e ({ frames := 0, cells := 0, slots := 0, locals := 0 }) s m ([.ref x, .int i1, .int i2] : List Value).toArray below meth c H locs 0 0 (MQ below (va_Qv (fun (u : List Nat × hx_h) => (∃ (bl1 : Int32) (bs1 : Int32) (brf1 : Nat → Int32), u.2.2.1 x 86 = bl1 ∧ u.2.2.1 x 87 = bs1 ∧ u.2.2.1 qbr = brf1 ∧ (hx_BR brf1 dbf bs1.toInt bl1.toInt)) ∧ hx_T T_tb u.1 u.2 ∧ hx_S T_tb [(10, 86), (10, 87), (110, 0)] L h u.1 u.2) (hx_E T_tb (P_ty dA) (dC, dI) vwCl (hx_A L sz)) (hx_A L sz)) ([.ref x, .int i1, .int i2] : List Value).toArray s 0 0 (hx_A L sz)) (F0 m 82 ls []) := by
              intro n82
              induction n82 with
              | zero => intro iv82_5 ia82_qbr H locs hL1 hl1 bliv82_5 buiv82_5 vi82_0 ls hn82; exfalso; omega
              | succ n82 ih82 =>
                intro iv82_5 ia82_qbr H locs hL1 hl1 bliv82_5 buiv82_5 vi82_0 ls hn82 hW hT hM f_26 f_28 nia82_qbr hl
                refine lv_iload hx hb dX10_offers_82 (lv_at hl 0 rfl) ?_
                refine lv_iload_n hx hb dX10_offers_84 rfl (lv_at hl 4 rfl) ?_
                refine hb_icmp_ge (zx := iv82_5.toInt) (zy := i1.toInt) (tgt := 108) hx hb rfl rfl dX10_offers_85 (by decide) (fun c_29 => ?_) (fun c_29 => ?_)
                · skip
                  exact hx_retv hx hb hr hlk hW ⟨⟨i2, i1, ia82_qbr, f_26, f_28, nia82_qbr, (hx_BR_new hPR (by omega) (by omega) ax_9 (by omega) (k := x_2) (by omega) ax_3 ax_5 ⟨by omega, by omega⟩ (by omega) (fun k hk => vi82_0 k (by omega)))⟩, hT, hM⟩ dX10_offers_108
                · skip
                  refine lv_aload_n hx hb dX10_offers_88 rfl (lv_at hl 3 rfl) ?_
                  refine hk_getr hx hb hts hC_10 hown hW (gx.S hM) tt_10 88 (by decide) rfl kw_1231 ⟨rfl, rfl, rfl⟩ ((hM.o gx trivial rfl).2.trans f_x_88) dX10_offers_89 ?_
                  refine lv_iload hx hb dX10_offers_92 (lv_at hl 0 rfl) ?_
                  refine lv_aload_n hx hb dX10_offers_94 rfl (lv_at hl 3 rfl) ?_
                  refine hk_getr hx hb hts hC_10 hown hW (gx.S hM) tt_10 89 (by decide) rfl kw_1232 ⟨rfl, rfl, rfl⟩ ((hM.o gx trivial rfl).2.trans f_x_89) dX10_offers_95 ?_
                  refine lv_iload hx hb dX10_offers_98 (lv_at hl 0 rfl) ?_
                  refine hx_iald hx hb hW hT (gqrg.S hM) tt_111 rfl ⟨by omega, by omega⟩ dX10_offers_100 (fun x_30 ex_30 lx_30 ux_30 => ?_)
                  have ax_30 : x_30 = rgf iv82_5.toNatClampNeg := ex_30.trans (congrFun (hx_afS hM gqrg rfl af_qrg) _)
                  have nia82_qbrO := nia82_qbr
                  refine hx_iast hx hb hW hT (hx_S.rf (M := [(110, 0)])) (gqbr.S hM) tt_110 rfl ⟨by omega, by omega⟩ rfl ⟨by omega, by omega⟩ (List.mem_singleton.mpr rfl) dX10_offers_101 (fun H locs h_31 eh_31 hW hT hs => ?_)
                  replace f_26 := (hs.o (gx.S hM) trivial rfl).1.trans f_26
                  replace f_28 := (hs.o (gx.S hM) trivial rfl).1.trans f_28
                  replace ex_30 := ex_30.trans (hs.a (gqrg.S hM) rfl _).1.symm
                  replace hM := hM.tr (hs.mono (by decide))
                  obtain ⟨fa_32, dfa_32⟩ : ∃ g : Nat → Int32, g = hx_up ia82_qbr iv82_5.toNatClampNeg x_30 := ⟨_, rfl⟩
                  have nfa_32 : h_31.2.1 qbr = fa_32 := by rw [eh_31, dfa_32, ← nia82_qbrO]; exact hx_pi_fun _ _ _ _
                  obtain ⟨x_33, ex_33⟩ : ∃ y : Int32, y = iv82_5 + Int32.ofInt 1 := ⟨_, rfl⟩
                  have rg_34 := i32_r iv82_5
                  have zx_33 : x_33.toInt = iv82_5.toInt + (1) := by rw [ex_33]; exact i32_add rfl (by decide) (by omega) (by omega)
                  refine lv_iinc (v := x_33) (lv' := [(5, .int x_33), (4, .int i2), (3, .int x_9), (0, .ref x), (1, .int i1), (2, .int i2)]) hx hb dX10_offers_102 hl (k := 0) rfl ex_33.symm (by decide) rfl (fun ls hl => ?_)
                  refine lv_goto (tgt := 82) hx hb dX10_offers_105 (by decide) ?_
                  exact ih82 x_33 fa_32 _ _ hL1 h_31 (by omega) (by omega) (hx_cp_s vi82_0 dfa_32 ax_30 rfl (by omega) zx_33) ls (by omega) hW hT hM f_26 f_28 nfa_32 (lv_sub hl [0, 1, 2, 3, 4, 5] rfl)
            have zk_0 : (0 : Int32).toInt = 0 := by decide
            exact loop82 5 (0 : Int32) brf _ _ L h_27 (by decide) (by decide) (fun k hk => by omega) ls (by omega) hW hT hM f_26 f_28 af_qbr hl
          · skip
            exact hx_retv hx hb hr hlk hW ⟨⟨bl0, bs0, brf, f_x_86, f_x_87, af_qbr, hBR⟩, hT, hM⟩ dX10_offers_67
  · skip
    refine lv_iload_n hx hb dX10_offers_29 rfl (lv_at hl 0 rfl) ?_
    refine lv_goto (tgt := 34) hx hb dX10_offers_30 (by decide) ?_
    refine lv_istore (lv' := [(4, .int x_9), (3, .int x_9), (0, .ref x), (1, .int i1), (2, .int i2)]) hx hb dX10_offers_34 hl (by decide) rfl (fun ls hl => ?_)
    have hbl0 := hBR.1
    refine lv_iload hx hb dX10_offers_36 (lv_at hl 0 rfl) ?_
    refine hb_if_eq (zx := x_9.toInt) (tgt := 67) hx hb rfl dX10_offers_38 (by decide) (fun c_35 => ?_) (fun c_35 => ?_)
    · skip
      exact hx_retv hx hb hr hlk hW ⟨⟨bl0, bs0, brf, f_x_86, f_x_87, af_qbr, hBR⟩, hT, hM⟩ dX10_offers_67
    · skip
      refine lv_iload hx hb dX10_offers_41 (lv_at hl 0 rfl) ?_
      refine lv_aload_n hx hb dX10_offers_43 rfl (lv_at hl 2 rfl) ?_
      refine hk_geti hx hb hts hC_10 hown hW (gx.S hM) tt_10 86 (by decide) rfl kw_1229 ⟨rfl, rfl, rfl⟩ f_x_86 dX10_offers_44 ?_
      refine hb_icmp_lt (zx := x_9.toInt) (zy := bl0.toInt) (tgt := 67) hx hb rfl rfl dX10_offers_47 (by decide) (fun c_36 => ?_) (fun c_36 => ?_)
      · skip
        exact hx_retv hx hb hr hlk hW ⟨⟨bl0, bs0, brf, f_x_86, f_x_87, af_qbr, hBR⟩, hT, hM⟩ dX10_offers_67
      · skip
        refine lv_iload hx hb dX10_offers_50 (lv_at hl 0 rfl) ?_
        refine lv_aload_n hx hb dX10_offers_52 rfl (lv_at hl 2 rfl) ?_
        refine hk_geti hx hb hts hC_10 hown hW (gx.S hM) tt_10 86 (by decide) rfl kw_1229 ⟨rfl, rfl, rfl⟩ f_x_86 dX10_offers_53 ?_
        refine hb_icmp_ne (zx := x_9.toInt) (zy := bl0.toInt) (tgt := 68) hx hb rfl rfl dX10_offers_56 (by decide) (fun c_37 => ?_) (fun c_37 => ?_)
        · skip
          refine lv_aload_n hx hb dX10_offers_68 rfl (lv_at hl 2 rfl) ?_
          refine lv_iload hx hb dX10_offers_69 (lv_at hl 0 rfl) ?_
          refine hx_puti hx hb hts hC_10 hown hW hT (hx_S.rf (M := [(10, 86)])) (gx.S hM) tt_10 86 (by decide) rfl kw_1229 ⟨rfl, rfl, rfl⟩ rfl (x := x_9) (i32_r _) rfl rfl rfl (List.mem_singleton.mpr rfl) dX10_offers_71 (fun H locs h_38 eh_38 hW hT hs => ?_)
          replace f_x_87 := (hs.o (gx.S hM) trivial rfl).1.trans f_x_87
          replace af_qbr : h_38.2.1 qbr = brf := (funext fun j => (hs.a (gqbr.S hM) rfl j).1).trans af_qbr
          replace ex_3 := ex_3.trans (hs.a (gqrg.S hM) rfl _).1.symm
          replace ex_5 := ex_5.trans (hs.a (gqrg.S hM) rfl _).1.symm
          replace ex_9 := ex_9.trans (hs.a (gqdb.S hM) rfl _).1.symm
          replace hM := hM.tr (hs.mono (by decide))
          have f_39 : h_38.2.1 x 86 = x_9 := by rw [eh_38]; exact hx_pi_at _ _ _ _
          refine lv_aload_n hx hb dX10_offers_74 rfl (lv_at hl 2 rfl) ?_
          refine lv_iload_n hx hb dX10_offers_75 rfl (lv_at hl 3 rfl) ?_
          refine hx_puti hx hb hts hC_10 hown hW hT (hx_S.rf (M := [(10, 87)])) (gx.S hM) tt_10 87 (by decide) rfl kw_1230 ⟨rfl, rfl, rfl⟩ rfl (x := i1) ⟨by omega, by omega⟩ rfl rfl rfl (List.mem_singleton.mpr rfl) dX10_offers_76 (fun H locs h_40 eh_40 hW hT hs => ?_)
          replace f_39 := (hs.o (gx.S hM) trivial rfl).1.trans f_39
          replace af_qbr : h_40.2.1 qbr = brf := (funext fun j => (hs.a (gqbr.S hM) rfl j).1).trans af_qbr
          replace ex_3 := ex_3.trans (hs.a (gqrg.S hM) rfl _).1.symm
          replace ex_5 := ex_5.trans (hs.a (gqrg.S hM) rfl _).1.symm
          replace ex_9 := ex_9.trans (hs.a (gqdb.S hM) rfl _).1.symm
          replace hM := hM.tr (hs.mono (by decide))
          have f_41 : h_40.2.1 x 87 = i1 := by rw [eh_40]; exact hx_pi_at _ _ _ _
          refine lv_iconst (v := 0) hx hb dX10_offers_79 (by decide) ?_
          refine lv_istore (lv' := [(5, .int (0 : Int32)), (4, .int x_9), (3, .int x_9), (0, .ref x), (1, .int i1), (2, .int i2)]) hx hb dX10_offers_80 hl (by decide) rfl (fun ls hl => ?_)
          have loop82 : ∀ (n82 : Nat) (iv82_5 : Int32) (ia82_qbr : Nat → Int32) (H : Heap) (locs : List Loc) (hL1 : List Nat) (hl1 : hx_h), 0 ≤ iv82_5.toInt → iv82_5.toInt ≤ 4 → (∀ k : Nat, (k : Int) < iv82_5.toInt → ia82_qbr k = rgf k) → ∀ (ls : Array Slot), 4 - iv82_5.toInt < (n82 : Int) → hx_W T_tb (P_ty dA) (dC, dI) vwCl (hx_A L sz) s.heap hL1 hl1 s H locs → hx_T T_tb hL1 hl1 → hx_S T_tb [(10, 86), (10, 87), (110, 0)] L h hL1 hl1 → hl1.2.1 x 86 = x_9 → hl1.2.1 x 87 = i1 → hl1.2.1 qbr = ia82_qbr → lv_has ls 6 [(5, .int iv82_5), (4, .int x_9), (3, .int x_9), (0, .ref x), (1, .int i1), (2, .int i2)] → W p l e ({ frames := 0, cells := 0, slots := 0, locals := 0 }) s m ([.ref x, .int i1, .int i2] : List Value).toArray below meth c H locs 0 0 (MQ below (va_Qv (fun (u : List Nat × hx_h) => (∃ (bl1 : Int32) (bs1 : Int32) (brf1 : Nat → Int32), u.2.2.1 x 86 = bl1 ∧ u.2.2.1 x 87 = bs1 ∧ u.2.2.1 qbr = brf1 ∧ (hx_BR brf1 dbf bs1.toInt bl1.toInt)) ∧ hx_T T_tb u.1 u.2 ∧ hx_S T_tb [(10, 86), (10, 87), (110, 0)] L h u.1 u.2) (hx_E T_tb (P_ty dA) (dC, dI) vwCl (hx_A L sz)) (hx_A L sz)) ([.ref x, .int i1, .int i2] : List Value).toArray s 0 0 (hx_A L sz)) (F0 m 82 ls []) := by
            intro n82
            induction n82 with
            | zero => intro iv82_5 ia82_qbr H locs hL1 hl1 bliv82_5 buiv82_5 vi82_0 ls hn82; exfalso; omega
            | succ n82 ih82 =>
              intro iv82_5 ia82_qbr H locs hL1 hl1 bliv82_5 buiv82_5 vi82_0 ls hn82 hW hT hM f_39 f_41 nia82_qbr hl
              refine lv_iload hx hb dX10_offers_82 (lv_at hl 0 rfl) ?_
              refine lv_iload_n hx hb dX10_offers_84 rfl (lv_at hl 4 rfl) ?_
              refine hb_icmp_ge (zx := iv82_5.toInt) (zy := i1.toInt) (tgt := 108) hx hb rfl rfl dX10_offers_85 (by decide) (fun c_42 => ?_) (fun c_42 => ?_)
              · skip
                exact hx_retv hx hb hr hlk hW ⟨⟨x_9, i1, ia82_qbr, f_39, f_41, nia82_qbr, (hx_BR_new hPR (by omega) (by omega) ax_9 (by omega) (k := x_2) (by omega) ax_3 ax_5 ⟨by omega, by omega⟩ (by omega) (fun k hk => vi82_0 k (by omega)))⟩, hT, hM⟩ dX10_offers_108
              · skip
                refine lv_aload_n hx hb dX10_offers_88 rfl (lv_at hl 3 rfl) ?_
                refine hk_getr hx hb hts hC_10 hown hW (gx.S hM) tt_10 88 (by decide) rfl kw_1231 ⟨rfl, rfl, rfl⟩ ((hM.o gx trivial rfl).2.trans f_x_88) dX10_offers_89 ?_
                refine lv_iload hx hb dX10_offers_92 (lv_at hl 0 rfl) ?_
                refine lv_aload_n hx hb dX10_offers_94 rfl (lv_at hl 3 rfl) ?_
                refine hk_getr hx hb hts hC_10 hown hW (gx.S hM) tt_10 89 (by decide) rfl kw_1232 ⟨rfl, rfl, rfl⟩ ((hM.o gx trivial rfl).2.trans f_x_89) dX10_offers_95 ?_
                refine lv_iload hx hb dX10_offers_98 (lv_at hl 0 rfl) ?_
                refine hx_iald hx hb hW hT (gqrg.S hM) tt_111 rfl ⟨by omega, by omega⟩ dX10_offers_100 (fun x_43 ex_43 lx_43 ux_43 => ?_)
                have ax_43 : x_43 = rgf iv82_5.toNatClampNeg := ex_43.trans (congrFun (hx_afS hM gqrg rfl af_qrg) _)
                have nia82_qbrO := nia82_qbr
                refine hx_iast hx hb hW hT (hx_S.rf (M := [(110, 0)])) (gqbr.S hM) tt_110 rfl ⟨by omega, by omega⟩ rfl ⟨by omega, by omega⟩ (List.mem_singleton.mpr rfl) dX10_offers_101 (fun H locs h_44 eh_44 hW hT hs => ?_)
                replace f_39 := (hs.o (gx.S hM) trivial rfl).1.trans f_39
                replace f_41 := (hs.o (gx.S hM) trivial rfl).1.trans f_41
                replace ex_43 := ex_43.trans (hs.a (gqrg.S hM) rfl _).1.symm
                replace hM := hM.tr (hs.mono (by decide))
                obtain ⟨fa_45, dfa_45⟩ : ∃ g : Nat → Int32, g = hx_up ia82_qbr iv82_5.toNatClampNeg x_43 := ⟨_, rfl⟩
                have nfa_45 : h_44.2.1 qbr = fa_45 := by rw [eh_44, dfa_45, ← nia82_qbrO]; exact hx_pi_fun _ _ _ _
                obtain ⟨x_46, ex_46⟩ : ∃ y : Int32, y = iv82_5 + Int32.ofInt 1 := ⟨_, rfl⟩
                have rg_47 := i32_r iv82_5
                have zx_46 : x_46.toInt = iv82_5.toInt + (1) := by rw [ex_46]; exact i32_add rfl (by decide) (by omega) (by omega)
                refine lv_iinc (v := x_46) (lv' := [(5, .int x_46), (4, .int x_9), (3, .int x_9), (0, .ref x), (1, .int i1), (2, .int i2)]) hx hb dX10_offers_102 hl (k := 0) rfl ex_46.symm (by decide) rfl (fun ls hl => ?_)
                refine lv_goto (tgt := 82) hx hb dX10_offers_105 (by decide) ?_
                exact ih82 x_46 fa_45 _ _ hL1 h_44 (by omega) (by omega) (hx_cp_s vi82_0 dfa_45 ax_43 rfl (by omega) zx_46) ls (by omega) hW hT hM f_39 f_41 nfa_45 (lv_sub hl [0, 1, 2, 3, 4, 5] rfl)
          have zk_0 : (0 : Int32).toInt = 0 := by decide
          exact loop82 5 (0 : Int32) brf _ _ L h_40 (by decide) (by decide) (fun k hk => by omega) ls (by omega) hW hT hM f_39 f_41 af_qbr hl
        · skip
          refine lv_iload_n hx hb dX10_offers_59 rfl (lv_at hl 3 rfl) ?_
          refine lv_aload_n hx hb dX10_offers_60 rfl (lv_at hl 2 rfl) ?_
          refine hk_geti hx hb hts hC_10 hown hW (gx.S hM) tt_10 87 (by decide) rfl kw_1230 ⟨rfl, rfl, rfl⟩ f_x_87 dX10_offers_61 ?_
          refine hb_icmp_lt (zx := i1.toInt) (zy := bs0.toInt) (tgt := 68) hx hb rfl rfl dX10_offers_64 (by decide) (fun c_48 => ?_) (fun c_48 => ?_)
          · skip
            refine lv_aload_n hx hb dX10_offers_68 rfl (lv_at hl 2 rfl) ?_
            refine lv_iload hx hb dX10_offers_69 (lv_at hl 0 rfl) ?_
            refine hx_puti hx hb hts hC_10 hown hW hT (hx_S.rf (M := [(10, 86)])) (gx.S hM) tt_10 86 (by decide) rfl kw_1229 ⟨rfl, rfl, rfl⟩ rfl (x := x_9) (i32_r _) rfl rfl rfl (List.mem_singleton.mpr rfl) dX10_offers_71 (fun H locs h_49 eh_49 hW hT hs => ?_)
            replace f_x_87 := (hs.o (gx.S hM) trivial rfl).1.trans f_x_87
            replace af_qbr : h_49.2.1 qbr = brf := (funext fun j => (hs.a (gqbr.S hM) rfl j).1).trans af_qbr
            replace ex_3 := ex_3.trans (hs.a (gqrg.S hM) rfl _).1.symm
            replace ex_5 := ex_5.trans (hs.a (gqrg.S hM) rfl _).1.symm
            replace ex_9 := ex_9.trans (hs.a (gqdb.S hM) rfl _).1.symm
            replace hM := hM.tr (hs.mono (by decide))
            have f_50 : h_49.2.1 x 86 = x_9 := by rw [eh_49]; exact hx_pi_at _ _ _ _
            refine lv_aload_n hx hb dX10_offers_74 rfl (lv_at hl 2 rfl) ?_
            refine lv_iload_n hx hb dX10_offers_75 rfl (lv_at hl 3 rfl) ?_
            refine hx_puti hx hb hts hC_10 hown hW hT (hx_S.rf (M := [(10, 87)])) (gx.S hM) tt_10 87 (by decide) rfl kw_1230 ⟨rfl, rfl, rfl⟩ rfl (x := i1) ⟨by omega, by omega⟩ rfl rfl rfl (List.mem_singleton.mpr rfl) dX10_offers_76 (fun H locs h_51 eh_51 hW hT hs => ?_)
            replace f_50 := (hs.o (gx.S hM) trivial rfl).1.trans f_50
            replace af_qbr : h_51.2.1 qbr = brf := (funext fun j => (hs.a (gqbr.S hM) rfl j).1).trans af_qbr
            replace ex_3 := ex_3.trans (hs.a (gqrg.S hM) rfl _).1.symm
            replace ex_5 := ex_5.trans (hs.a (gqrg.S hM) rfl _).1.symm
            replace ex_9 := ex_9.trans (hs.a (gqdb.S hM) rfl _).1.symm
            replace hM := hM.tr (hs.mono (by decide))
            have f_52 : h_51.2.1 x 87 = i1 := by rw [eh_51]; exact hx_pi_at _ _ _ _
            refine lv_iconst (v := 0) hx hb dX10_offers_79 (by decide) ?_
            refine lv_istore (lv' := [(5, .int (0 : Int32)), (4, .int x_9), (3, .int x_9), (0, .ref x), (1, .int i1), (2, .int i2)]) hx hb dX10_offers_80 hl (by decide) rfl (fun ls hl => ?_)
            have loop82 : ∀ (n82 : Nat) (iv82_5 : Int32) (ia82_qbr : Nat → Int32) (H : Heap) (locs : List Loc) (hL1 : List Nat) (hl1 : hx_h), 0 ≤ iv82_5.toInt → iv82_5.toInt ≤ 4 → (∀ k : Nat, (k : Int) < iv82_5.toInt → ia82_qbr k = rgf k) → ∀ (ls : Array Slot), 4 - iv82_5.toInt < (n82 : Int) → hx_W T_tb (P_ty dA) (dC, dI) vwCl (hx_A L sz) s.heap hL1 hl1 s H locs → hx_T T_tb hL1 hl1 → hx_S T_tb [(10, 86), (10, 87), (110, 0)] L h hL1 hl1 → hl1.2.1 x 86 = x_9 → hl1.2.1 x 87 = i1 → hl1.2.1 qbr = ia82_qbr → lv_has ls 6 [(5, .int iv82_5), (4, .int x_9), (3, .int x_9), (0, .ref x), (1, .int i1), (2, .int i2)] → W p l e ({ frames := 0, cells := 0, slots := 0, locals := 0 }) s m ([.ref x, .int i1, .int i2] : List Value).toArray below meth c H locs 0 0 (MQ below (va_Qv (fun (u : List Nat × hx_h) => (∃ (bl1 : Int32) (bs1 : Int32) (brf1 : Nat → Int32), u.2.2.1 x 86 = bl1 ∧ u.2.2.1 x 87 = bs1 ∧ u.2.2.1 qbr = brf1 ∧ (hx_BR brf1 dbf bs1.toInt bl1.toInt)) ∧ hx_T T_tb u.1 u.2 ∧ hx_S T_tb [(10, 86), (10, 87), (110, 0)] L h u.1 u.2) (hx_E T_tb (P_ty dA) (dC, dI) vwCl (hx_A L sz)) (hx_A L sz)) ([.ref x, .int i1, .int i2] : List Value).toArray s 0 0 (hx_A L sz)) (F0 m 82 ls []) := by
              intro n82
              induction n82 with
              | zero => intro iv82_5 ia82_qbr H locs hL1 hl1 bliv82_5 buiv82_5 vi82_0 ls hn82; exfalso; omega
              | succ n82 ih82 =>
                intro iv82_5 ia82_qbr H locs hL1 hl1 bliv82_5 buiv82_5 vi82_0 ls hn82 hW hT hM f_50 f_52 nia82_qbr hl
                refine lv_iload hx hb dX10_offers_82 (lv_at hl 0 rfl) ?_
                refine lv_iload_n hx hb dX10_offers_84 rfl (lv_at hl 4 rfl) ?_
                refine hb_icmp_ge (zx := iv82_5.toInt) (zy := i1.toInt) (tgt := 108) hx hb rfl rfl dX10_offers_85 (by decide) (fun c_53 => ?_) (fun c_53 => ?_)
                · skip
                  exact hx_retv hx hb hr hlk hW ⟨⟨x_9, i1, ia82_qbr, f_50, f_52, nia82_qbr, (hx_BR_new hPR (by omega) (by omega) ax_9 (by omega) (k := x_2) (by omega) ax_3 ax_5 ⟨by omega, by omega⟩ (by omega) (fun k hk => vi82_0 k (by omega)))⟩, hT, hM⟩ dX10_offers_108
                · skip
                  refine lv_aload_n hx hb dX10_offers_88 rfl (lv_at hl 3 rfl) ?_
                  refine hk_getr hx hb hts hC_10 hown hW (gx.S hM) tt_10 88 (by decide) rfl kw_1231 ⟨rfl, rfl, rfl⟩ ((hM.o gx trivial rfl).2.trans f_x_88) dX10_offers_89 ?_
                  refine lv_iload hx hb dX10_offers_92 (lv_at hl 0 rfl) ?_
                  refine lv_aload_n hx hb dX10_offers_94 rfl (lv_at hl 3 rfl) ?_
                  refine hk_getr hx hb hts hC_10 hown hW (gx.S hM) tt_10 89 (by decide) rfl kw_1232 ⟨rfl, rfl, rfl⟩ ((hM.o gx trivial rfl).2.trans f_x_89) dX10_offers_95 ?_
                  refine lv_iload hx hb dX10_offers_98 (lv_at hl 0 rfl) ?_
                  refine hx_iald hx hb hW hT (gqrg.S hM) tt_111 rfl ⟨by omega, by omega⟩ dX10_offers_100 (fun x_54 ex_54 lx_54 ux_54 => ?_)
                  have ax_54 : x_54 = rgf iv82_5.toNatClampNeg := ex_54.trans (congrFun (hx_afS hM gqrg rfl af_qrg) _)
                  have nia82_qbrO := nia82_qbr
                  refine hx_iast hx hb hW hT (hx_S.rf (M := [(110, 0)])) (gqbr.S hM) tt_110 rfl ⟨by omega, by omega⟩ rfl ⟨by omega, by omega⟩ (List.mem_singleton.mpr rfl) dX10_offers_101 (fun H locs h_55 eh_55 hW hT hs => ?_)
                  replace f_50 := (hs.o (gx.S hM) trivial rfl).1.trans f_50
                  replace f_52 := (hs.o (gx.S hM) trivial rfl).1.trans f_52
                  replace ex_54 := ex_54.trans (hs.a (gqrg.S hM) rfl _).1.symm
                  replace hM := hM.tr (hs.mono (by decide))
                  obtain ⟨fa_56, dfa_56⟩ : ∃ g : Nat → Int32, g = hx_up ia82_qbr iv82_5.toNatClampNeg x_54 := ⟨_, rfl⟩
                  have nfa_56 : h_55.2.1 qbr = fa_56 := by rw [eh_55, dfa_56, ← nia82_qbrO]; exact hx_pi_fun _ _ _ _
                  obtain ⟨x_57, ex_57⟩ : ∃ y : Int32, y = iv82_5 + Int32.ofInt 1 := ⟨_, rfl⟩
                  have rg_58 := i32_r iv82_5
                  have zx_57 : x_57.toInt = iv82_5.toInt + (1) := by rw [ex_57]; exact i32_add rfl (by decide) (by omega) (by omega)
                  refine lv_iinc (v := x_57) (lv' := [(5, .int x_57), (4, .int x_9), (3, .int x_9), (0, .ref x), (1, .int i1), (2, .int i2)]) hx hb dX10_offers_102 hl (k := 0) rfl ex_57.symm (by decide) rfl (fun ls hl => ?_)
                  refine lv_goto (tgt := 82) hx hb dX10_offers_105 (by decide) ?_
                  exact ih82 x_57 fa_56 _ _ hL1 h_55 (by omega) (by omega) (hx_cp_s vi82_0 dfa_56 ax_54 rfl (by omega) zx_57) ls (by omega) hW hT hM f_50 f_52 nfa_56 (lv_sub hl [0, 1, 2, 3, 4, 5] rfl)
            have zk_0 : (0 : Int32).toInt = 0 := by decide
            exact loop82 5 (0 : Int32) brf _ _ L h_51 (by decide) (by decide) (fun k hk => by omega) ls (by omega) hW hT hM f_50 f_52 af_qbr hl
          · skip
            exact hx_retv hx hb hr hlk hW ⟨⟨bl0, bs0, brf, f_x_86, f_x_87, af_qbr, hBR⟩, hT, hM⟩ dX10_offers_67
