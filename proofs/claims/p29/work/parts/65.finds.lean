
set_option maxHeartbeats 4000000 in
set_option maxRecDepth 100000 in
theorem t_X10_finds_2 (l : Launch) (dC : Nat → ClassId) (dI : Nat → Nat → Nat) (dA : Nat → ClassId) (L : List Nat) (h : hx_h) (sz : Nat) (x : Nat) (hT : hx_T T_tb L h) (gx : hx_g L h x 10) (qdb : Nat) (gqdb : hx_g L h qdb 108) (f_x_82 : h.2.2 x 82 = some qdb) (qrg : Nat) (gqrg : hx_g L h qrg 111) (f_x_89 : h.2.2 x 89 = some qrg) (qbr : Nat) (gqbr : hx_g L h qbr 110) (f_x_88 : h.2.2 x 88 = some qbr) (dbf : Nat → Int32) (af_qdb : h.2.1 qdb = dbf) : Met l yX10_finds (Cond.code yX10_finds cX10_finds 8 none :: hx_all) ({ frames := 1, cells := 0, slots := 0, locals := 25 }) (va_Pc [.ref x] (hx_B T_tb (P_ty dA) (dC, dI) vwCl L h sz)) (va_Qv (fun (u : List Nat × hx_h) => (∃ (bl1 : Int32) (bs1 : Int32) (brf1 : Nat → Int32), u.2.2.1 x 86 = bl1 ∧ u.2.2.1 x 87 = bs1 ∧ u.2.2.1 qbr = brf1 ∧ (hx_BR brf1 dbf bs1.toInt bl1.toInt)) ∧ hx_T T_tb u.1 u.2 ∧ hx_S T_tb [(10, 86), (10, 87), (110, 0), (111, 0)] L h u.1 u.2) (hx_E T_tb (P_ty dA) (dC, dI) vwCl (hx_A L sz)) (hx_A L sz)) 0 0 (hx_A L sz) := by
  refine hx_met (lv := [(0, .ref x)]) (by decide +kernel) rfl (Nat.le_of_ble_eq_true rfl) rfl ?_
  intro p e s m below meth c hx hb hml hr hlk hts0 hown hin hsz hW ls hl
  have hts : ∀ w ∈ hx_all, w.before _ s = true := fun w hw => hts0 w (List.mem_cons_of_mem _ hw)
  have hown : s.vm.findClass "SmallCourtModel" = some m.cls := hown
  have hM : hx_S T_tb [(10, 86), (10, 87), (110, 0), (111, 0)] L h L h := hx_S.rf
  refine lv_aload_n hx hb dX10_finds_0 rfl (lv_at hl 0 rfl) ?_
  refine lv_iconst (v := 0) hx hb dX10_finds_1 (by decide) ?_
  refine hx_puti hx hb hts hC_10 hown hW hT (hx_S.rf (M := [(10, 86)])) (gx.S hM) tt_10 86 (by decide) rfl kw_1229 ⟨rfl, rfl, rfl⟩ rfl (x := (0 : Int32)) (by decide) rfl rfl rfl (List.mem_singleton.mpr rfl) dX10_finds_2 (fun H locs h_1 eh_1 hW hT hs => ?_)
  replace hM := hM.tr (hs.mono (by decide))
  have f_2 : h_1.2.1 x 86 = (0 : Int32) := by rw [eh_1]; exact hx_pi_at _ _ _ _
  refine lv_aload_n hx hb dX10_finds_5 rfl (lv_at hl 0 rfl) ?_
  refine lv_iconst (v := 0) hx hb dX10_finds_6 (by decide) ?_
  refine hx_puti hx hb hts hC_10 hown hW hT (hx_S.rf (M := [(10, 87)])) (gx.S hM) tt_10 87 (by decide) rfl kw_1230 ⟨rfl, rfl, rfl⟩ rfl (x := (0 : Int32)) (by decide) rfl rfl rfl (List.mem_singleton.mpr rfl) dX10_finds_7 (fun H locs h_3 eh_3 hW hT hs => ?_)
  replace f_2 := (hs.o (gx.S hM) trivial rfl).1.trans f_2
  replace hM := hM.tr (hs.mono (by decide))
  have f_4 : h_3.2.1 x 87 = (0 : Int32) := by rw [eh_3]; exact hx_pi_at _ _ _ _
  refine lv_iconst (v := 0) hx hb dX10_finds_10 (by decide) ?_
  refine lv_istore_n (lv' := [(1, .int (0 : Int32)), (0, .ref x)]) hx hb dX10_finds_11 rfl hl (by decide) rfl (fun ls hl => ?_)
  obtain ⟨fa_5, nfa_5⟩ : ∃ g : Nat → Int32, h_3.2.1 qrg = g := ⟨_, rfl⟩
  obtain ⟨fa_6, nfa_6⟩ : ∃ g : Nat → Int32, h_3.2.1 qbr = g := ⟨_, rfl⟩
  have loop12 : ∀ (n12 : Nat) (iv12_1 fw12_x_86 fw12_x_87 : Int32) (ia12_qrg ia12_qbr : Nat → Int32) (H : Heap) (locs : List Loc) (hL1 : List Nat) (hl1 : hx_h), 0 ≤ iv12_1.toInt → iv12_1.toInt ≤ 40 → -2147483648 ≤ fw12_x_86.toInt → fw12_x_86.toInt ≤ 2147483647 → 0 ≤ fw12_x_87.toInt → fw12_x_87.toInt ≤ 4 → (hx_BR ia12_qbr dbf fw12_x_87.toInt fw12_x_86.toInt) → ∀ (ls : Array Slot), 40 - iv12_1.toInt < (n12 : Int) → hx_W T_tb (P_ty dA) (dC, dI) vwCl (hx_A L sz) s.heap hL1 hl1 s H locs → hx_T T_tb hL1 hl1 → hx_S T_tb [(10, 86), (10, 87), (110, 0), (111, 0)] L h hL1 hl1 → hl1.2.1 x 86 = fw12_x_86 → hl1.2.1 x 87 = fw12_x_87 → hl1.2.1 qrg = ia12_qrg → hl1.2.1 qbr = ia12_qbr → lv_has ls 8 [(1, .int iv12_1), (0, .ref x)] → W p l e ({ frames := 1, cells := 0, slots := 0, locals := 25 }) s m ([.ref x] : List Value).toArray below meth c H locs 0 0 (MQ below (va_Qv (fun (u : List Nat × hx_h) => (∃ (bl1 : Int32) (bs1 : Int32) (brf1 : Nat → Int32), u.2.2.1 x 86 = bl1 ∧ u.2.2.1 x 87 = bs1 ∧ u.2.2.1 qbr = brf1 ∧ (hx_BR brf1 dbf bs1.toInt bl1.toInt)) ∧ hx_T T_tb u.1 u.2 ∧ hx_S T_tb [(10, 86), (10, 87), (110, 0), (111, 0)] L h u.1 u.2) (hx_E T_tb (P_ty dA) (dC, dI) vwCl (hx_A L sz)) (hx_A L sz)) ([.ref x] : List Value).toArray s 0 0 (hx_A L sz)) (F0 m 12 ls []) := by
    intro n12
    induction n12 with
    | zero => intro iv12_1 fw12_x_86 fw12_x_87 ia12_qrg ia12_qbr H locs hL1 hl1 bliv12_1 buiv12_1 blfw12_x_86 bufw12_x_86 blfw12_x_87 bufw12_x_87 vi12_0 ls hn12; exfalso; omega
    | succ n12 ih12 =>
      intro iv12_1 fw12_x_86 fw12_x_87 ia12_qrg ia12_qbr H locs hL1 hl1 bliv12_1 buiv12_1 blfw12_x_86 bufw12_x_86 blfw12_x_87 bufw12_x_87 vi12_0 ls hn12 hW hT hM ffw12_x_86 ffw12_x_87 nia12_qrg nia12_qbr hl
      refine lv_iload_n hx hb dX10_finds_12 rfl (lv_at hl 0 rfl) ?_
      refine lv_aload_n hx hb dX10_finds_13 rfl (lv_at hl 1 rfl) ?_
      refine hx_geti hx hb hts hC_10 hown hW hT (gx.S hM) tt_10 20 (by decide) rfl kw_1163 ⟨rfl, rfl, rfl⟩ dX10_finds_14 (fun x_7 ex_7 lx_7 ux_7 => ?_)
      have fx_7 := ex_7.symm
      refine hb_icmp_ge (zx := iv12_1.toInt) (zy := x_7.toInt) (tgt := 226) hx hb rfl rfl dX10_finds_17 (by decide) (fun c_8 => ?_) (fun c_8 => ?_)
      · skip
        exact hx_retv hx hb hr hlk hW ⟨⟨fw12_x_86, fw12_x_87, ia12_qbr, ffw12_x_86, ffw12_x_87, nia12_qbr, vi12_0⟩, hT, hM⟩ dX10_finds_226
      · skip
        have hb20 : 0 ≤ iv12_1.toInt ∧ iv12_1.toInt ≤ 39 := ⟨by omega, by omega⟩
        refine lv_aload_n hx hb dX10_finds_20 rfl (lv_at hl 1 rfl) ?_
        refine hk_getr hx hb hts hC_10 hown hW (gx.S hM) tt_10 89 (by decide) rfl kw_1232 ⟨rfl, rfl, rfl⟩ ((hM.o gx trivial rfl).2.trans f_x_89) dX10_finds_21 ?_
        refine lv_iconst (v := 0) hx hb dX10_finds_24 (by decide) ?_
        refine lv_iload_n hx hb dX10_finds_25 rfl (lv_at hl 0 rfl) ?_
        have nia12_qrgO := nia12_qrg
        refine hx_iast hx hb hW hT (hx_S.rf (M := [(111, 0)])) (gqrg.S hM) tt_111 rfl (by decide) rfl ⟨by omega, by omega⟩ (List.mem_singleton.mpr rfl) dX10_finds_26 (fun H locs h_9 eh_9 hW hT hs => ?_)
        replace ffw12_x_86 := (hs.o (gx.S hM) trivial rfl).1.trans ffw12_x_86
        replace ffw12_x_87 := (hs.o (gx.S hM) trivial rfl).1.trans ffw12_x_87
        replace fx_7 := (hs.o (gx.S hM) trivial rfl).1.trans fx_7
        replace nia12_qbr : h_9.2.1 qbr = ia12_qbr := (funext fun j => (hs.a (gqbr.S hM) rfl j).1).trans nia12_qbr
        replace hM := hM.tr (hs.mono (by decide))
        obtain ⟨fa_10, dfa_10⟩ : ∃ g : Nat → Int32, g = hx_up ia12_qrg (0 : Int32).toNatClampNeg iv12_1 := ⟨_, rfl⟩
        have nfa_10 : h_9.2.1 qrg = fa_10 := by rw [eh_9, dfa_10, ← nia12_qrgO]; exact hx_pi_fun _ _ _ _
        have rg27_0 := hx_up_c (k := 0) dfa_10 (by decide)
        refine lv_iload_n hx hb dX10_finds_27 rfl (lv_at hl 0 rfl) ?_
        refine lv_iconst (v := 1) hx hb dX10_finds_28 (by decide) ?_
        refine lv_iadd hx hb dX10_finds_29 ?_
        have rg_11 := i32_r iv12_1
        refine lv_topi (fun x_12 ex_12 => ?_)
        have zx_12 : x_12.toInt = iv12_1.toInt + 1 := by rw [ex_12]; exact i32_add rfl (by decide) (by omega) (by omega)
        refine lv_istore_n (lv' := [(2, .int x_12), (1, .int iv12_1), (0, .ref x)]) hx hb dX10_finds_30 rfl hl (by decide) rfl (fun ls hl => ?_)
        have loop31 : ∀ (n31 : Nat) (iv31_2 fw31_x_86 fw31_x_87 : Int32) (ia31_qrg ia31_qbr : Nat → Int32) (H : Heap) (locs : List Loc) (hL1 : List Nat) (hl1 : hx_h), 0 ≤ iv31_2.toInt → iv31_2.toInt ≤ 40 → -2147483648 ≤ fw31_x_86.toInt → fw31_x_86.toInt ≤ 2147483647 → 0 ≤ fw31_x_87.toInt → fw31_x_87.toInt ≤ 4 → (hx_BR ia31_qbr dbf fw31_x_87.toInt fw31_x_86.toInt) → ((ia31_qrg 0).toInt = iv12_1.toInt) → (iv12_1.toInt < iv31_2.toInt) → ∀ (ls : Array Slot), 40 - iv31_2.toInt < (n31 : Int) → hx_W T_tb (P_ty dA) (dC, dI) vwCl (hx_A L sz) s.heap hL1 hl1 s H locs → hx_T T_tb hL1 hl1 → hx_S T_tb [(10, 86), (10, 87), (110, 0), (111, 0)] L h hL1 hl1 → hl1.2.1 x 86 = fw31_x_86 → hl1.2.1 x 87 = fw31_x_87 → hl1.2.1 x 20 = x_7 → hl1.2.1 qrg = ia31_qrg → hl1.2.1 qbr = ia31_qbr → lv_has ls 8 [(2, .int iv31_2), (1, .int iv12_1), (0, .ref x)] → W p l e ({ frames := 1, cells := 0, slots := 0, locals := 25 }) s m ([.ref x] : List Value).toArray below meth c H locs 0 0 (MQ below (va_Qv (fun (u : List Nat × hx_h) => (∃ (bl1 : Int32) (bs1 : Int32) (brf1 : Nat → Int32), u.2.2.1 x 86 = bl1 ∧ u.2.2.1 x 87 = bs1 ∧ u.2.2.1 qbr = brf1 ∧ (hx_BR brf1 dbf bs1.toInt bl1.toInt)) ∧ hx_T T_tb u.1 u.2 ∧ hx_S T_tb [(10, 86), (10, 87), (110, 0), (111, 0)] L h u.1 u.2) (hx_E T_tb (P_ty dA) (dC, dI) vwCl (hx_A L sz)) (hx_A L sz)) ([.ref x] : List Value).toArray s 0 0 (hx_A L sz)) (F0 m 31 ls []) := by
          intro n31
          induction n31 with
          | zero => intro iv31_2 fw31_x_86 fw31_x_87 ia31_qrg ia31_qbr H locs hL1 hl1 bliv31_2 buiv31_2 blfw31_x_86 bufw31_x_86 blfw31_x_87 bufw31_x_87 vi31_0 vi31_1 vi31_2 ls hn31; exfalso; omega
          | succ n31 ih31 =>
            intro iv31_2 fw31_x_86 fw31_x_87 ia31_qrg ia31_qbr H locs hL1 hl1 bliv31_2 buiv31_2 blfw31_x_86 bufw31_x_86 blfw31_x_87 bufw31_x_87 vi31_0 vi31_1 vi31_2 ls hn31 hW hT hM ffw31_x_86 ffw31_x_87 fx_7 nia31_qrg nia31_qbr hl
            refine lv_iload_n hx hb dX10_finds_31 rfl (lv_at hl 0 rfl) ?_
            refine lv_aload_n hx hb dX10_finds_32 rfl (lv_at hl 2 rfl) ?_
            refine hk_geti hx hb hts hC_10 hown hW (gx.S hM) tt_10 20 (by decide) rfl kw_1163 ⟨rfl, rfl, rfl⟩ fx_7 dX10_finds_33 ?_
            refine hb_icmp_ge (zx := iv31_2.toInt) (zy := x_7.toInt) (tgt := 220) hx hb rfl rfl dX10_finds_36 (by decide) (fun c_13 => ?_) (fun c_13 => ?_)
            · skip
              obtain ⟨x_14, ex_14⟩ : ∃ y : Int32, y = iv12_1 + Int32.ofInt 1 := ⟨_, rfl⟩
              have zx_14 : x_14.toInt = iv12_1.toInt + (1) := by rw [ex_14]; exact i32_add rfl (by decide) (by omega) (by omega)
              refine lv_iinc (v := x_14) (lv' := [(1, .int x_14), (2, .int iv31_2), (0, .ref x)]) hx hb dX10_finds_220 hl (k := 1) rfl ex_14.symm (by decide) rfl (fun ls hl => ?_)
              refine lv_goto (tgt := 12) hx hb dX10_finds_223 (by decide) ?_
              exact ih12 x_14 fw31_x_86 fw31_x_87 ia31_qrg ia31_qbr _ _ hL1 hl1 (by omega) (by omega) (i32_r _).1 (i32_r _).2 (by omega) (by omega) vi31_0 ls (by omega) hW hT hM ffw31_x_86 ffw31_x_87 nia31_qrg nia31_qbr (lv_sub hl [0, 2] rfl)
            · skip
              have hb39 : 0 ≤ iv31_2.toInt ∧ iv31_2.toInt ≤ 39 := ⟨by omega, by omega⟩
              have hn39 : hq_P (iv12_1.toInt ≠ iv31_2.toInt) := hq_i (by omega)
              refine lv_aload_n hx hb dX10_finds_39 rfl (lv_at hl 2 rfl) ?_
              refine hk_getr hx hb hts hC_10 hown hW (gx.S hM) tt_10 82 (by decide) rfl kw_1225 ⟨rfl, rfl, rfl⟩ ((hM.o gx trivial rfl).2.trans f_x_82) dX10_finds_40 ?_
              refine lv_bipush (v := 40) hx hb dX10_finds_43 (by decide) ?_
              refine lv_iload_n hx hb dX10_finds_45 rfl (lv_at hl 1 rfl) ?_
              refine lv_imul hx hb dX10_finds_46 ?_
              refine lv_topi (fun x_15 ex_15 => ?_)
              have zx_15 : x_15.toInt = 40 * iv12_1.toInt := by rw [ex_15]; exact i32_mul (by decide) rfl rfl (by omega) (by omega)
              refine lv_iload_n hx hb dX10_finds_47 rfl (lv_at hl 0 rfl) ?_
              refine lv_iadd hx hb dX10_finds_48 ?_
              have rg_16 := i32_r x_15
              have rg_17 := i32_r iv31_2
              refine lv_topi (fun x_18 ex_18 => ?_)
              have zx_18 : x_18.toInt = x_15.toInt + iv31_2.toInt := by rw [ex_18]; exact i32_add rfl rfl (by omega) (by omega)
              refine hx_iald hx hb hW hT (gqdb.S hM) tt_108 rfl ⟨by omega, by omega⟩ dX10_finds_49 (fun x_19 ex_19 lx_19 ux_19 => ?_)
              have ax_19 : x_19 = dbf x_18.toNatClampNeg := ex_19.trans (congrFun (hx_afS hM gqdb rfl af_qdb) _)
              have hi50 : x_18.toInt = 40 * iv12_1.toInt + iv31_2.toInt := by omega
              refine lv_istore_n (lv' := [(3, .int x_19), (2, .int iv31_2), (1, .int iv12_1), (0, .ref x)]) hx hb dX10_finds_50 rfl hl (by decide) rfl (fun ls hl => ?_)
              refine lv_iload_n hx hb dX10_finds_51 rfl (lv_at hl 0 rfl) ?_
              refine hb_if_ne (zx := x_19.toInt) (tgt := 58) hx hb rfl dX10_finds_52 (by decide) (fun c_20 => ?_) (fun c_20 => ?_)
              · skip
                refine lv_aload_n hx hb dX10_finds_58 rfl (lv_at hl 3 rfl) ?_
                refine hk_getr hx hb hts hC_10 hown hW (gx.S hM) tt_10 89 (by decide) rfl kw_1232 ⟨rfl, rfl, rfl⟩ ((hM.o gx trivial rfl).2.trans f_x_89) dX10_finds_59 ?_
                refine lv_iconst (v := 1) hx hb dX10_finds_62 (by decide) ?_
                refine lv_iload_n hx hb dX10_finds_63 rfl (lv_at hl 1 rfl) ?_
                have nia31_qrgO := nia31_qrg
                refine hx_iast hx hb hW hT (hx_S.rf (M := [(111, 0)])) (gqrg.S hM) tt_111 rfl (by decide) rfl ⟨by omega, by omega⟩ (List.mem_singleton.mpr rfl) dX10_finds_64 (fun H locs h_21 eh_21 hW hT hs => ?_)
                replace fx_7 := (hs.o (gx.S hM) trivial rfl).1.trans fx_7
                replace ffw31_x_86 := (hs.o (gx.S hM) trivial rfl).1.trans ffw31_x_86
                replace ffw31_x_87 := (hs.o (gx.S hM) trivial rfl).1.trans ffw31_x_87
                replace nia31_qbr : h_21.2.1 qbr = ia31_qbr := (funext fun j => (hs.a (gqbr.S hM) rfl j).1).trans nia31_qbr
                replace ex_19 := ex_19.trans (hs.a (gqdb.S hM) rfl _).1.symm
                replace hM := hM.tr (hs.mono (by decide))
                obtain ⟨fa_22, dfa_22⟩ : ∃ g : Nat → Int32, g = hx_up ia31_qrg (1 : Int32).toNatClampNeg iv31_2 := ⟨_, rfl⟩
                have nfa_22 : h_21.2.1 qrg = fa_22 := by rw [eh_21, dfa_22, ← nia31_qrgO]; exact hx_pi_fun _ _ _ _
                have rg65_0 := hx_up_o (k := 0) dfa_22 (by decide) vi31_1
                have rg65_1 := hx_up_c (k := 1) dfa_22 (by decide)
                refine lv_aload_n hx hb dX10_finds_65 rfl (lv_at hl 3 rfl) ?_
                refine lv_iconst (v := 2) hx hb dX10_finds_66 (by decide) ?_
                refine lv_iload_n hx hb dX10_finds_67 rfl (lv_at hl 0 rfl) ?_
                have zc_2 : (2 : Int32).toInt = 2 := by decide
                refine hx_gov (hx_runV (As := [.int (2 : Int32), .int x_19]) (rest := []) ⟨hx, hb, hml, hown, hts⟩ hW (gx.S hM) tt_10 (T := TX10) (N := 98) rfl (t_X10_offers_2 l dC dI dA hL1 h_21 H.size x (2 : Int32) x_19 hT (gx.S hM) qdb (gqdb.S hM) ((hM.o gx trivial rfl).2.trans f_x_82) qrg (gqrg.S hM) ((hM.o gx trivial rfl).2.trans f_x_89) qbr (gqbr.S hM) ((hM.o gx trivial rfl).2.trans f_x_88) dbf (hx_afS hM gqdb rfl af_qdb) fa_22 nfa_22 ia31_qbr nia31_qbr fw31_x_86 ffw31_x_86 fw31_x_87 ffw31_x_87 (by decide) (hx_PR2 rg65_0 rg65_1 hb20 hb39 (hq_o hn39) ax_19 hi50 (Int.le_refl _)) vi31_0) (cwV 2 hts (hx_gV kw_1702 kw_1699 kw_1701 kw_88 kw_103) rfl rfl rfl (by decide +kernel) ⟨Nat.le_of_ble_eq_true rfl, Nat.le_of_ble_eq_true rfl⟩) rfl hl.1 rfl (Nat.le_of_ble_eq_true rfl) dX10_finds_68 ⟨Nat.le_of_ble_eq_true rfl, Nat.le_of_ble_eq_true rfl⟩) hW (fun L_23 h_24 H locs p_26 hW => ?_)
                obtain ⟨⟨w_28, w_29, w_30, fw_28, fw_29, fw_30, hr_27⟩, hT, hs⟩ := p_26
                replace hT : hx_T T_tb L_23 h_24 := hT
                replace hs : hx_S T_tb [(10, 86), (10, 87), (110, 0)] hL1 h_21 L_23 h_24 := hs
                replace fx_7 := (hs.o (gx.S hM) trivial rfl).1.trans fx_7
                replace nfa_22 : h_24.2.1 qrg = fa_22 := (funext fun j => (hs.a (gqrg.S hM) rfl j).1).trans nfa_22
                replace ex_19 := ex_19.trans (hs.a (gqdb.S hM) rfl _).1.symm
                replace hM := hM.tr (hs.mono (by decide))
                have fw_28 : h_24.2.1 x 86 = w_28 := fw_28
                have bw_28 := hT.gi (gx.S hM) tt_10 (k := 86) rfl
                rw [fw_28] at bw_28
                have bw_28 : -2147483648 ≤ w_28.toInt ∧ w_28.toInt ≤ 2147483647 := bw_28
                have fw_29 : h_24.2.1 x 87 = w_29 := fw_29
                have bw_29 := hT.gi (gx.S hM) tt_10 (k := 87) rfl
                rw [fw_29] at bw_29
                have bw_29 : 0 ≤ w_29.toInt ∧ w_29.toInt ≤ 4 := bw_29
                have fw_30 : h_24.2.1 qbr = w_30 := fw_30
                refine lv_iload_n hx hb dX10_finds_71 rfl (lv_at hl 2 rfl) ?_
                refine lv_iconst (v := 1) hx hb dX10_finds_72 (by decide) ?_
                refine lv_iadd hx hb dX10_finds_73 ?_
                refine lv_topi (fun x_31 ex_31 => ?_)
                have zx_31 : x_31.toInt = iv12_1.toInt + 1 := by rw [ex_31]; exact i32_add rfl (by decide) (by omega) (by omega)
                refine lv_istore (lv' := [(4, .int x_31), (3, .int x_19), (2, .int iv31_2), (1, .int iv12_1), (0, .ref x)]) hx hb dX10_finds_74 hl (by decide) rfl (fun ls hl => ?_)
                have loop76 : ∀ (n76 : Nat) (iv76_4 fw76_x_86 fw76_x_87 : Int32) (ia76_qrg ia76_qbr : Nat → Int32) (H : Heap) (locs : List Loc) (hL1 : List Nat) (hl1 : hx_h), 0 ≤ iv76_4.toInt → iv76_4.toInt ≤ 40 → -2147483648 ≤ fw76_x_86.toInt → fw76_x_86.toInt ≤ 2147483647 → 0 ≤ fw76_x_87.toInt → fw76_x_87.toInt ≤ 4 → (hx_BR ia76_qbr dbf fw76_x_87.toInt fw76_x_86.toInt) → ((ia76_qrg 0).toInt = iv12_1.toInt) → ((ia76_qrg 1).toInt = iv31_2.toInt) → (iv12_1.toInt < iv76_4.toInt) → ∀ (ls : Array Slot), 40 - iv76_4.toInt < (n76 : Int) → hx_W T_tb (P_ty dA) (dC, dI) vwCl (hx_A L sz) s.heap hL1 hl1 s H locs → hx_T T_tb hL1 hl1 → hx_S T_tb [(10, 86), (10, 87), (110, 0), (111, 0)] L h hL1 hl1 → hl1.2.1 x 86 = fw76_x_86 → hl1.2.1 x 87 = fw76_x_87 → hl1.2.1 x 20 = x_7 → hl1.2.1 qrg = ia76_qrg → hl1.2.1 qbr = ia76_qbr → lv_has ls 8 [(4, .int iv76_4), (3, .int x_19), (2, .int iv31_2), (1, .int iv12_1), (0, .ref x)] → W p l e ({ frames := 1, cells := 0, slots := 0, locals := 25 }) s m ([.ref x] : List Value).toArray below meth c H locs 0 0 (MQ below (va_Qv (fun (u : List Nat × hx_h) => (∃ (bl1 : Int32) (bs1 : Int32) (brf1 : Nat → Int32), u.2.2.1 x 86 = bl1 ∧ u.2.2.1 x 87 = bs1 ∧ u.2.2.1 qbr = brf1 ∧ (hx_BR brf1 dbf bs1.toInt bl1.toInt)) ∧ hx_T T_tb u.1 u.2 ∧ hx_S T_tb [(10, 86), (10, 87), (110, 0), (111, 0)] L h u.1 u.2) (hx_E T_tb (P_ty dA) (dC, dI) vwCl (hx_A L sz)) (hx_A L sz)) ([.ref x] : List Value).toArray s 0 0 (hx_A L sz)) (F0 m 76 ls []) := by
                  intro n76
                  induction n76 with
                  | zero => intro iv76_4 fw76_x_86 fw76_x_87 ia76_qrg ia76_qbr H locs hL1 hl1 bliv76_4 buiv76_4 blfw76_x_86 bufw76_x_86 blfw76_x_87 bufw76_x_87 vi76_0 vi76_1 vi76_2 vi76_3 ls hn76; exfalso; omega
                  | succ n76 ih76 =>
                    intro iv76_4 fw76_x_86 fw76_x_87 ia76_qrg ia76_qbr H locs hL1 hl1 bliv76_4 buiv76_4 blfw76_x_86 bufw76_x_86 blfw76_x_87 bufw76_x_87 vi76_0 vi76_1 vi76_2 vi76_3 ls hn76 hW hT hM ffw76_x_86 ffw76_x_87 fx_7 nia76_qrg nia76_qbr hl
                    refine lv_iload hx hb dX10_finds_76 (lv_at hl 0 rfl) ?_
                    refine lv_aload_n hx hb dX10_finds_78 rfl (lv_at hl 4 rfl) ?_
                    refine hk_geti hx hb hts hC_10 hown hW (gx.S hM) tt_10 20 (by decide) rfl kw_1163 ⟨rfl, rfl, rfl⟩ fx_7 dX10_finds_79 ?_
                    refine hb_icmp_ge (zx := iv76_4.toInt) (zy := x_7.toInt) (tgt := 214) hx hb rfl rfl dX10_finds_82 (by decide) (fun c_32 => ?_) (fun c_32 => ?_)
                    · skip
                      obtain ⟨x_33, ex_33⟩ : ∃ y : Int32, y = iv31_2 + Int32.ofInt 1 := ⟨_, rfl⟩
                      have zx_33 : x_33.toInt = iv31_2.toInt + (1) := by rw [ex_33]; exact i32_add rfl (by decide) (by omega) (by omega)
                      refine lv_iinc (v := x_33) (lv' := [(2, .int x_33), (4, .int iv76_4), (3, .int x_19), (1, .int iv12_1), (0, .ref x)]) hx hb dX10_finds_214 hl (k := 2) rfl ex_33.symm (by decide) rfl (fun ls hl => ?_)
                      refine lv_goto (tgt := 31) hx hb dX10_finds_217 (by decide) ?_
                      exact ih31 x_33 fw76_x_86 fw76_x_87 ia76_qrg ia76_qbr _ _ hL1 hl1 (by omega) (by omega) (i32_r _).1 (i32_r _).2 (by omega) (by omega) vi76_0 vi76_1 (by omega) ls (by omega) hW hT hM ffw76_x_86 ffw76_x_87 fx_7 nia76_qrg nia76_qbr (lv_sub hl [0, 3, 4] rfl)
                    · skip
                      have hb85 : 0 ≤ iv76_4.toInt ∧ iv76_4.toInt ≤ 39 := ⟨by omega, by omega⟩
                      have hn85 : hq_P (iv12_1.toInt ≠ iv76_4.toInt) := hq_i (by omega)
                      refine lv_iload_n hx hb dX10_finds_85 rfl (lv_at hl 1 rfl) ?_
                      refine lv_aload_n hx hb dX10_finds_86 rfl (lv_at hl 4 rfl) ?_
                      refine hk_getr hx hb hts hC_10 hown hW (gx.S hM) tt_10 82 (by decide) rfl kw_1225 ⟨rfl, rfl, rfl⟩ ((hM.o gx trivial rfl).2.trans f_x_82) dX10_finds_87 ?_
                      refine lv_bipush (v := 40) hx hb dX10_finds_90 (by decide) ?_
                      refine lv_iload_n hx hb dX10_finds_92 rfl (lv_at hl 2 rfl) ?_
                      refine lv_imul hx hb dX10_finds_93 ?_
                      refine lv_topi (fun x_34 ex_34 => ?_)
                      have zx_34 : x_34.toInt = 40 * iv31_2.toInt := by rw [ex_34]; exact i32_mul (by decide) rfl rfl (by omega) (by omega)
                      refine lv_iload hx hb dX10_finds_94 (lv_at hl 0 rfl) ?_
                      refine lv_iadd hx hb dX10_finds_96 ?_
                      have rg_35 := i32_r x_34
                      have rg_36 := i32_r iv76_4
                      refine lv_topi (fun x_37 ex_37 => ?_)
                      have zx_37 : x_37.toInt = x_34.toInt + iv76_4.toInt := by rw [ex_37]; exact i32_add rfl rfl (by omega) (by omega)
                      refine hx_iald hx hb hW hT (gqdb.S hM) tt_108 rfl ⟨by omega, by omega⟩ dX10_finds_97 (fun x_38 ex_38 lx_38 ux_38 => ?_)
                      have ax_38 : x_38 = dbf x_37.toNatClampNeg := ex_38.trans (congrFun (hx_afS hM gqdb rfl af_qdb) _)
                      have hi98 : x_37.toInt = 40 * iv31_2.toInt + iv76_4.toInt := by omega
                      refine hx_goi (hx_runS (As := [.int x_19, .int x_38]) (rest := []) ⟨hx, hb, hml, hown, hts⟩ hW (t_X10_lesser_3 l dC dI dA hL1 hl1 H.size x_19 x_38 hT) (va_cwS 2 hts (hx_gS kw_1705 kw_1703 kw_1704 kw_103) rfl rfl rfl (by decide +kernel) ⟨Nat.le_of_ble_eq_true rfl, Nat.le_of_ble_eq_true rfl⟩) rfl hl.1 rfl (Nat.le_of_ble_eq_true rfl) dX10_finds_98 ⟨Nat.le_of_ble_eq_true rfl, Nat.le_of_ble_eq_true rfl⟩) hW (fun r_41 L_39 h_40 H locs p_42 hW => ?_)
                      obtain ⟨hr_43, hT, hs⟩ := p_42
                      replace hT : hx_T T_tb L_39 h_40 := hT
                      replace hs : hx_S T_tb [] hL1 hl1 L_39 h_40 := hs
                      replace fx_7 := (hs.o (gx.S hM) trivial rfl).1.trans fx_7
                      replace ffw76_x_86 := (hs.o (gx.S hM) trivial rfl).1.trans ffw76_x_86
                      replace ffw76_x_87 := (hs.o (gx.S hM) trivial rfl).1.trans ffw76_x_87
                      replace nia76_qrg : h_40.2.1 qrg = ia76_qrg := (funext fun j => (hs.a (gqrg.S hM) rfl j).1).trans nia76_qrg
                      replace nia76_qbr : h_40.2.1 qbr = ia76_qbr := (funext fun j => (hs.a (gqbr.S hM) rfl j).1).trans nia76_qbr
                      replace ex_38 := ex_38.trans (hs.a (gqdb.S hM) rfl _).1.symm
                      replace hM := hM.tr (hs.mono (by decide))
                      have hm101 : r_41.toInt ≤ x_19.toInt ∧ r_41.toInt ≤ x_38.toInt := by rcases hr_43 with ⟨w1, w2⟩ | ⟨w1, w2⟩ <;> rw [w1] <;> constructor <;> omega
                      clear hr_43
                      refine lv_istore (lv' := [(5, .int r_41), (4, .int iv76_4), (3, .int x_19), (2, .int iv31_2), (1, .int iv12_1), (0, .ref x)]) hx hb dX10_finds_101 hl (by decide) rfl (fun ls hl => ?_)
                      refine lv_iload hx hb dX10_finds_103 (lv_at hl 1 rfl) ?_
                      refine lv_iload_n hx hb dX10_finds_105 rfl (lv_at hl 3 rfl) ?_
                      refine hb_icmp_eq (zx := iv76_4.toInt) (zy := iv31_2.toInt) (tgt := 208) hx hb rfl rfl dX10_finds_106 (by decide) (fun c_44 => ?_) (fun c_44 => ?_)
                      · skip
                        obtain ⟨x_45, ex_45⟩ : ∃ y : Int32, y = iv76_4 + Int32.ofInt 1 := ⟨_, rfl⟩
                        have zx_45 : x_45.toInt = iv76_4.toInt + (1) := by rw [ex_45]; exact i32_add rfl (by decide) (by omega) (by omega)
                        refine lv_iinc (v := x_45) (lv' := [(4, .int x_45), (5, .int r_41), (3, .int x_19), (2, .int iv31_2), (1, .int iv12_1), (0, .ref x)]) hx hb dX10_finds_208 hl (k := 1) rfl ex_45.symm (by decide) rfl (fun ls hl => ?_)
                        refine lv_goto (tgt := 76) hx hb dX10_finds_211 (by decide) ?_
                        exact ih76 x_45 fw76_x_86 fw76_x_87 ia76_qrg ia76_qbr _ _ L_39 h_40 (by omega) (by omega) (i32_r _).1 (i32_r _).2 (by omega) (by omega) vi76_0 vi76_1 vi76_2 (by omega) ls (by omega) hW hT hM ffw76_x_86 ffw76_x_87 fx_7 nia76_qrg nia76_qbr (lv_sub hl [0, 2, 3, 4, 5] rfl)
                      · skip
                        have hnb109 : hq_P (¬ (iv76_4.toInt = iv31_2.toInt)) := hq_i c_44; clear c_44
                        refine lv_iload hx hb dX10_finds_109 (lv_at hl 0 rfl) ?_
                        refine hb_if_ne (zx := r_41.toInt) (tgt := 117) hx hb rfl dX10_finds_111 (by decide) (fun c_46 => ?_) (fun c_46 => ?_)
                        · skip
                          refine lv_aload_n hx hb dX10_finds_117 rfl (lv_at hl 5 rfl) ?_
                          refine hk_getr hx hb hts hC_10 hown hW (gx.S hM) tt_10 89 (by decide) rfl kw_1232 ⟨rfl, rfl, rfl⟩ ((hM.o gx trivial rfl).2.trans f_x_89) dX10_finds_118 ?_
                          refine lv_iconst (v := 2) hx hb dX10_finds_121 (by decide) ?_
                          refine lv_iload hx hb dX10_finds_122 (lv_at hl 1 rfl) ?_
                          have nia76_qrgO := nia76_qrg
                          refine hx_iast hx hb hW hT (hx_S.rf (M := [(111, 0)])) (gqrg.S hM) tt_111 rfl (by decide) rfl ⟨by omega, by omega⟩ (List.mem_singleton.mpr rfl) dX10_finds_124 (fun H locs h_47 eh_47 hW hT hs => ?_)
                          replace fx_7 := (hs.o (gx.S hM) trivial rfl).1.trans fx_7
                          replace ffw76_x_86 := (hs.o (gx.S hM) trivial rfl).1.trans ffw76_x_86
                          replace ffw76_x_87 := (hs.o (gx.S hM) trivial rfl).1.trans ffw76_x_87
                          replace nia76_qbr : h_47.2.1 qbr = ia76_qbr := (funext fun j => (hs.a (gqbr.S hM) rfl j).1).trans nia76_qbr
                          replace ex_38 := ex_38.trans (hs.a (gqdb.S hM) rfl _).1.symm
                          replace hM := hM.tr (hs.mono (by decide))
                          obtain ⟨fa_48, dfa_48⟩ : ∃ g : Nat → Int32, g = hx_up ia76_qrg (2 : Int32).toNatClampNeg iv76_4 := ⟨_, rfl⟩
                          have nfa_48 : h_47.2.1 qrg = fa_48 := by rw [eh_47, dfa_48, ← nia76_qrgO]; exact hx_pi_fun _ _ _ _
                          have rg125_0 := hx_up_o (k := 0) dfa_48 (by decide) vi76_1
                          have rg125_1 := hx_up_o (k := 1) dfa_48 (by decide) vi76_2
                          have rg125_2 := hx_up_c (k := 2) dfa_48 (by decide)
                          refine lv_aload_n hx hb dX10_finds_125 rfl (lv_at hl 5 rfl) ?_
                          refine lv_iconst (v := 3) hx hb dX10_finds_126 (by decide) ?_
                          refine lv_iload hx hb dX10_finds_127 (lv_at hl 0 rfl) ?_
                          have zc_3 : (3 : Int32).toInt = 3 := by decide
                          refine hx_gov (hx_runV (As := [.int (3 : Int32), .int r_41]) (rest := []) ⟨hx, hb, hml, hown, hts⟩ hW (gx.S hM) tt_10 (T := TX10) (N := 98) rfl (t_X10_offers_2 l dC dI dA L_39 h_47 H.size x (3 : Int32) r_41 hT (gx.S hM) qdb (gqdb.S hM) ((hM.o gx trivial rfl).2.trans f_x_82) qrg (gqrg.S hM) ((hM.o gx trivial rfl).2.trans f_x_89) qbr (gqbr.S hM) ((hM.o gx trivial rfl).2.trans f_x_88) dbf (hx_afS hM gqdb rfl af_qdb) fa_48 nfa_48 ia76_qbr nia76_qbr fw76_x_86 ffw76_x_86 fw76_x_87 ffw76_x_87 (by decide) (hx_PR3 rg125_0 rg125_1 rg125_2 hb20 hb39 hb85 (hq_o hn39) (hq_o hn85) (fun z => hq_o hnb109 z.symm) ax_19 hi50 hm101.1 ax_38 hi98 hm101.2) vi76_0) (cwV 2 hts (hx_gV kw_1702 kw_1699 kw_1701 kw_88 kw_103) rfl rfl rfl (by decide +kernel) ⟨Nat.le_of_ble_eq_true rfl, Nat.le_of_ble_eq_true rfl⟩) rfl hl.1 rfl (Nat.le_of_ble_eq_true rfl) dX10_finds_129 ⟨Nat.le_of_ble_eq_true rfl, Nat.le_of_ble_eq_true rfl⟩) hW (fun L_49 h_50 H locs p_52 hW => ?_)
                          obtain ⟨⟨w_54, w_55, w_56, fw_54, fw_55, fw_56, hr_53⟩, hT, hs⟩ := p_52
                          replace hT : hx_T T_tb L_49 h_50 := hT
                          replace hs : hx_S T_tb [(10, 86), (10, 87), (110, 0)] L_39 h_47 L_49 h_50 := hs
                          replace fx_7 := (hs.o (gx.S hM) trivial rfl).1.trans fx_7
                          replace nfa_48 : h_50.2.1 qrg = fa_48 := (funext fun j => (hs.a (gqrg.S hM) rfl j).1).trans nfa_48
                          replace ex_38 := ex_38.trans (hs.a (gqdb.S hM) rfl _).1.symm
                          replace hM := hM.tr (hs.mono (by decide))
                          have fw_54 : h_50.2.1 x 86 = w_54 := fw_54
                          have bw_54 := hT.gi (gx.S hM) tt_10 (k := 86) rfl
                          rw [fw_54] at bw_54
                          have bw_54 : -2147483648 ≤ w_54.toInt ∧ w_54.toInt ≤ 2147483647 := bw_54
                          have fw_55 : h_50.2.1 x 87 = w_55 := fw_55
                          have bw_55 := hT.gi (gx.S hM) tt_10 (k := 87) rfl
                          rw [fw_55] at bw_55
                          have bw_55 : 0 ≤ w_55.toInt ∧ w_55.toInt ≤ 4 := bw_55
                          have fw_56 : h_50.2.1 qbr = w_56 := fw_56
                          refine lv_iload_n hx hb dX10_finds_132 rfl (lv_at hl 4 rfl) ?_
                          refine lv_iconst (v := 1) hx hb dX10_finds_133 (by decide) ?_
                          refine lv_iadd hx hb dX10_finds_134 ?_
                          refine lv_topi (fun x_57 ex_57 => ?_)
                          have zx_57 : x_57.toInt = iv12_1.toInt + 1 := by rw [ex_57]; exact i32_add rfl (by decide) (by omega) (by omega)
                          refine lv_istore (lv' := [(6, .int x_57), (5, .int r_41), (4, .int iv76_4), (3, .int x_19), (2, .int iv31_2), (1, .int iv12_1), (0, .ref x)]) hx hb dX10_finds_135 hl (by decide) rfl (fun ls hl => ?_)
                          have loop137 : ∀ (n137 : Nat) (iv137_6 fw137_x_86 fw137_x_87 : Int32) (ia137_qrg ia137_qbr : Nat → Int32) (H : Heap) (locs : List Loc) (hL1 : List Nat) (hl1 : hx_h), 0 ≤ iv137_6.toInt → iv137_6.toInt ≤ 40 → -2147483648 ≤ fw137_x_86.toInt → fw137_x_86.toInt ≤ 2147483647 → 0 ≤ fw137_x_87.toInt → fw137_x_87.toInt ≤ 4 → (hx_BR ia137_qbr dbf fw137_x_87.toInt fw137_x_86.toInt) → ((ia137_qrg 0).toInt = iv12_1.toInt) → ((ia137_qrg 1).toInt = iv31_2.toInt) → ((ia137_qrg 2).toInt = iv76_4.toInt) → (iv12_1.toInt < iv137_6.toInt) → ∀ (ls : Array Slot), 40 - iv137_6.toInt < (n137 : Int) → hx_W T_tb (P_ty dA) (dC, dI) vwCl (hx_A L sz) s.heap hL1 hl1 s H locs → hx_T T_tb hL1 hl1 → hx_S T_tb [(10, 86), (10, 87), (110, 0), (111, 0)] L h hL1 hl1 → hl1.2.1 x 86 = fw137_x_86 → hl1.2.1 x 87 = fw137_x_87 → hl1.2.1 x 20 = x_7 → hl1.2.1 qrg = ia137_qrg → hl1.2.1 qbr = ia137_qbr → lv_has ls 8 [(6, .int iv137_6), (5, .int r_41), (4, .int iv76_4), (3, .int x_19), (2, .int iv31_2), (1, .int iv12_1), (0, .ref x)] → W p l e ({ frames := 1, cells := 0, slots := 0, locals := 25 }) s m ([.ref x] : List Value).toArray below meth c H locs 0 0 (MQ below (va_Qv (fun (u : List Nat × hx_h) => (∃ (bl1 : Int32) (bs1 : Int32) (brf1 : Nat → Int32), u.2.2.1 x 86 = bl1 ∧ u.2.2.1 x 87 = bs1 ∧ u.2.2.1 qbr = brf1 ∧ (hx_BR brf1 dbf bs1.toInt bl1.toInt)) ∧ hx_T T_tb u.1 u.2 ∧ hx_S T_tb [(10, 86), (10, 87), (110, 0), (111, 0)] L h u.1 u.2) (hx_E T_tb (P_ty dA) (dC, dI) vwCl (hx_A L sz)) (hx_A L sz)) ([.ref x] : List Value).toArray s 0 0 (hx_A L sz)) (F0 m 137 ls []) := by
                            intro n137
                            induction n137 with
                            | zero => intro iv137_6 fw137_x_86 fw137_x_87 ia137_qrg ia137_qbr H locs hL1 hl1 bliv137_6 buiv137_6 blfw137_x_86 bufw137_x_86 blfw137_x_87 bufw137_x_87 vi137_0 vi137_1 vi137_2 vi137_3 vi137_4 ls hn137; exfalso; omega
                            | succ n137 ih137 =>
                              intro iv137_6 fw137_x_86 fw137_x_87 ia137_qrg ia137_qbr H locs hL1 hl1 bliv137_6 buiv137_6 blfw137_x_86 bufw137_x_86 blfw137_x_87 bufw137_x_87 vi137_0 vi137_1 vi137_2 vi137_3 vi137_4 ls hn137 hW hT hM ffw137_x_86 ffw137_x_87 fx_7 nia137_qrg nia137_qbr hl
                              refine lv_iload hx hb dX10_finds_137 (lv_at hl 0 rfl) ?_
                              refine lv_aload_n hx hb dX10_finds_139 rfl (lv_at hl 6 rfl) ?_
                              refine hk_geti hx hb hts hC_10 hown hW (gx.S hM) tt_10 20 (by decide) rfl kw_1163 ⟨rfl, rfl, rfl⟩ fx_7 dX10_finds_140 ?_
                              refine hb_icmp_ge (zx := iv137_6.toInt) (zy := x_7.toInt) (tgt := 208) hx hb rfl rfl dX10_finds_143 (by decide) (fun c_58 => ?_) (fun c_58 => ?_)
                              · skip
                                obtain ⟨x_59, ex_59⟩ : ∃ y : Int32, y = iv76_4 + Int32.ofInt 1 := ⟨_, rfl⟩
                                have zx_59 : x_59.toInt = iv76_4.toInt + (1) := by rw [ex_59]; exact i32_add rfl (by decide) (by omega) (by omega)
                                refine lv_iinc (v := x_59) (lv' := [(4, .int x_59), (6, .int iv137_6), (5, .int r_41), (3, .int x_19), (2, .int iv31_2), (1, .int iv12_1), (0, .ref x)]) hx hb dX10_finds_208 hl (k := 2) rfl ex_59.symm (by decide) rfl (fun ls hl => ?_)
                                refine lv_goto (tgt := 76) hx hb dX10_finds_211 (by decide) ?_
                                exact ih76 x_59 fw137_x_86 fw137_x_87 ia137_qrg ia137_qbr _ _ hL1 hl1 (by omega) (by omega) (i32_r _).1 (i32_r _).2 (by omega) (by omega) vi137_0 vi137_1 vi137_2 (by omega) ls (by omega) hW hT hM ffw137_x_86 ffw137_x_87 fx_7 nia137_qrg nia137_qbr (lv_sub hl [0, 3, 4, 5, 6] rfl)
                              · skip
                                have hb146 : 0 ≤ iv137_6.toInt ∧ iv137_6.toInt ≤ 39 := ⟨by omega, by omega⟩
                                have hn146 : hq_P (iv12_1.toInt ≠ iv137_6.toInt) := hq_i (by omega)
                                refine lv_iload hx hb dX10_finds_146 (lv_at hl 1 rfl) ?_
                                refine lv_aload_n hx hb dX10_finds_148 rfl (lv_at hl 6 rfl) ?_
                                refine hk_getr hx hb hts hC_10 hown hW (gx.S hM) tt_10 82 (by decide) rfl kw_1225 ⟨rfl, rfl, rfl⟩ ((hM.o gx trivial rfl).2.trans f_x_82) dX10_finds_149 ?_
                                refine lv_bipush (v := 40) hx hb dX10_finds_152 (by decide) ?_
                                refine lv_iload hx hb dX10_finds_154 (lv_at hl 2 rfl) ?_
                                refine lv_imul hx hb dX10_finds_156 ?_
                                refine lv_topi (fun x_60 ex_60 => ?_)
                                have zx_60 : x_60.toInt = 40 * iv76_4.toInt := by rw [ex_60]; exact i32_mul (by decide) rfl rfl (by omega) (by omega)
                                refine lv_iload hx hb dX10_finds_157 (lv_at hl 0 rfl) ?_
                                refine lv_iadd hx hb dX10_finds_159 ?_
                                have rg_61 := i32_r x_60
                                have rg_62 := i32_r iv137_6
                                refine lv_topi (fun x_63 ex_63 => ?_)
                                have zx_63 : x_63.toInt = x_60.toInt + iv137_6.toInt := by rw [ex_63]; exact i32_add rfl rfl (by omega) (by omega)
                                refine hx_iald hx hb hW hT (gqdb.S hM) tt_108 rfl ⟨by omega, by omega⟩ dX10_finds_160 (fun x_64 ex_64 lx_64 ux_64 => ?_)
                                have ax_64 : x_64 = dbf x_63.toNatClampNeg := ex_64.trans (congrFun (hx_afS hM gqdb rfl af_qdb) _)
                                have hi161 : x_63.toInt = 40 * iv76_4.toInt + iv137_6.toInt := by omega
                                refine hx_goi (hx_runS (As := [.int r_41, .int x_64]) (rest := []) ⟨hx, hb, hml, hown, hts⟩ hW (t_X10_lesser_3 l dC dI dA hL1 hl1 H.size r_41 x_64 hT) (va_cwS 2 hts (hx_gS kw_1705 kw_1703 kw_1704 kw_103) rfl rfl rfl (by decide +kernel) ⟨Nat.le_of_ble_eq_true rfl, Nat.le_of_ble_eq_true rfl⟩) rfl hl.1 rfl (Nat.le_of_ble_eq_true rfl) dX10_finds_161 ⟨Nat.le_of_ble_eq_true rfl, Nat.le_of_ble_eq_true rfl⟩) hW (fun r_67 L_65 h_66 H locs p_68 hW => ?_)
                                obtain ⟨hr_69, hT, hs⟩ := p_68
                                replace hT : hx_T T_tb L_65 h_66 := hT
                                replace hs : hx_S T_tb [] hL1 hl1 L_65 h_66 := hs
                                replace fx_7 := (hs.o (gx.S hM) trivial rfl).1.trans fx_7
                                replace ffw137_x_86 := (hs.o (gx.S hM) trivial rfl).1.trans ffw137_x_86
                                replace ffw137_x_87 := (hs.o (gx.S hM) trivial rfl).1.trans ffw137_x_87
                                replace nia137_qrg : h_66.2.1 qrg = ia137_qrg := (funext fun j => (hs.a (gqrg.S hM) rfl j).1).trans nia137_qrg
                                replace nia137_qbr : h_66.2.1 qbr = ia137_qbr := (funext fun j => (hs.a (gqbr.S hM) rfl j).1).trans nia137_qbr
                                replace ex_64 := ex_64.trans (hs.a (gqdb.S hM) rfl _).1.symm
                                replace hM := hM.tr (hs.mono (by decide))
                                have hm164 : r_67.toInt ≤ r_41.toInt ∧ r_67.toInt ≤ x_64.toInt := by rcases hr_69 with ⟨w1, w2⟩ | ⟨w1, w2⟩ <;> rw [w1] <;> constructor <;> omega
                                clear hr_69
                                have hl0 := Int.le_trans hm164.1 hm101.1
                                have hl1 := Int.le_trans hm164.1 hm101.2
                                refine lv_istore (lv' := [(7, .int r_67), (6, .int iv137_6), (5, .int r_41), (4, .int iv76_4), (3, .int x_19), (2, .int iv31_2), (1, .int iv12_1), (0, .ref x)]) hx hb dX10_finds_164 hl (by decide) rfl (fun ls hl => ?_)
                                refine lv_iload hx hb dX10_finds_166 (lv_at hl 1 rfl) ?_
                                refine lv_iload_n hx hb dX10_finds_168 rfl (lv_at hl 5 rfl) ?_
                                refine hb_icmp_eq (zx := iv137_6.toInt) (zy := iv31_2.toInt) (tgt := 202) hx hb rfl rfl dX10_finds_169 (by decide) (fun c_70 => ?_) (fun c_70 => ?_)
                                · skip
                                  obtain ⟨x_71, ex_71⟩ : ∃ y : Int32, y = iv137_6 + Int32.ofInt 1 := ⟨_, rfl⟩
                                  have zx_71 : x_71.toInt = iv137_6.toInt + (1) := by rw [ex_71]; exact i32_add rfl (by decide) (by omega) (by omega)
                                  refine lv_iinc (v := x_71) (lv' := [(6, .int x_71), (7, .int r_67), (5, .int r_41), (4, .int iv76_4), (3, .int x_19), (2, .int iv31_2), (1, .int iv12_1), (0, .ref x)]) hx hb dX10_finds_202 hl (k := 1) rfl ex_71.symm (by decide) rfl (fun ls hl => ?_)
                                  refine lv_goto (tgt := 137) hx hb dX10_finds_205 (by decide) ?_
                                  exact ih137 x_71 fw137_x_86 fw137_x_87 ia137_qrg ia137_qbr _ _ L_65 h_66 (by omega) (by omega) (i32_r _).1 (i32_r _).2 (by omega) (by omega) vi137_0 vi137_1 vi137_2 vi137_3 (by omega) ls (by omega) hW hT hM ffw137_x_86 ffw137_x_87 fx_7 nia137_qrg nia137_qbr (lv_sub hl [0, 2, 3, 4, 5, 6, 7] rfl)
                                · skip
                                  have hnb172 : hq_P (¬ (iv137_6.toInt = iv31_2.toInt)) := hq_i c_70; clear c_70
                                  refine lv_iload hx hb dX10_finds_172 (lv_at hl 1 rfl) ?_
                                  refine lv_iload hx hb dX10_finds_174 (lv_at hl 3 rfl) ?_
                                  refine hb_icmp_eq (zx := iv137_6.toInt) (zy := iv76_4.toInt) (tgt := 202) hx hb rfl rfl dX10_finds_176 (by decide) (fun c_72 => ?_) (fun c_72 => ?_)
                                  · skip
                                    obtain ⟨x_73, ex_73⟩ : ∃ y : Int32, y = iv137_6 + Int32.ofInt 1 := ⟨_, rfl⟩
                                    have zx_73 : x_73.toInt = iv137_6.toInt + (1) := by rw [ex_73]; exact i32_add rfl (by decide) (by omega) (by omega)
                                    refine lv_iinc (v := x_73) (lv' := [(6, .int x_73), (7, .int r_67), (5, .int r_41), (4, .int iv76_4), (3, .int x_19), (2, .int iv31_2), (1, .int iv12_1), (0, .ref x)]) hx hb dX10_finds_202 hl (k := 1) rfl ex_73.symm (by decide) rfl (fun ls hl => ?_)
                                    refine lv_goto (tgt := 137) hx hb dX10_finds_205 (by decide) ?_
                                    exact ih137 x_73 fw137_x_86 fw137_x_87 ia137_qrg ia137_qbr _ _ L_65 h_66 (by omega) (by omega) (i32_r _).1 (i32_r _).2 (by omega) (by omega) vi137_0 vi137_1 vi137_2 vi137_3 (by omega) ls (by omega) hW hT hM ffw137_x_86 ffw137_x_87 fx_7 nia137_qrg nia137_qbr (lv_sub hl [0, 2, 3, 4, 5, 6, 7] rfl)
                                  · skip
                                    have hnb179 : hq_P (¬ (iv137_6.toInt = iv76_4.toInt)) := hq_i c_72; clear c_72
                                    refine lv_iload hx hb dX10_finds_179 (lv_at hl 0 rfl) ?_
                                    refine hb_if_ne (zx := r_67.toInt) (tgt := 187) hx hb rfl dX10_finds_181 (by decide) (fun c_74 => ?_) (fun c_74 => ?_)
                                    · skip
                                      refine lv_aload_n hx hb dX10_finds_187 rfl (lv_at hl 7 rfl) ?_
                                      refine hk_getr hx hb hts hC_10 hown hW (gx.S hM) tt_10 89 (by decide) rfl kw_1232 ⟨rfl, rfl, rfl⟩ ((hM.o gx trivial rfl).2.trans f_x_89) dX10_finds_188 ?_
                                      refine lv_iconst (v := 3) hx hb dX10_finds_191 (by decide) ?_
                                      refine lv_iload hx hb dX10_finds_192 (lv_at hl 1 rfl) ?_
                                      have nia137_qrgO := nia137_qrg
                                      refine hx_iast hx hb hW hT (hx_S.rf (M := [(111, 0)])) (gqrg.S hM) tt_111 rfl (by decide) rfl ⟨by omega, by omega⟩ (List.mem_singleton.mpr rfl) dX10_finds_194 (fun H locs h_75 eh_75 hW hT hs => ?_)
                                      replace fx_7 := (hs.o (gx.S hM) trivial rfl).1.trans fx_7
                                      replace ffw137_x_86 := (hs.o (gx.S hM) trivial rfl).1.trans ffw137_x_86
                                      replace ffw137_x_87 := (hs.o (gx.S hM) trivial rfl).1.trans ffw137_x_87
                                      replace nia137_qbr : h_75.2.1 qbr = ia137_qbr := (funext fun j => (hs.a (gqbr.S hM) rfl j).1).trans nia137_qbr
                                      replace ex_64 := ex_64.trans (hs.a (gqdb.S hM) rfl _).1.symm
                                      replace hM := hM.tr (hs.mono (by decide))
                                      obtain ⟨fa_76, dfa_76⟩ : ∃ g : Nat → Int32, g = hx_up ia137_qrg (3 : Int32).toNatClampNeg iv137_6 := ⟨_, rfl⟩
                                      have nfa_76 : h_75.2.1 qrg = fa_76 := by rw [eh_75, dfa_76, ← nia137_qrgO]; exact hx_pi_fun _ _ _ _
                                      have rg195_0 := hx_up_o (k := 0) dfa_76 (by decide) vi137_1
                                      have rg195_1 := hx_up_o (k := 1) dfa_76 (by decide) vi137_2
                                      have rg195_2 := hx_up_o (k := 2) dfa_76 (by decide) vi137_3
                                      have rg195_3 := hx_up_c (k := 3) dfa_76 (by decide)
                                      refine lv_aload_n hx hb dX10_finds_195 rfl (lv_at hl 7 rfl) ?_
                                      refine lv_iconst (v := 4) hx hb dX10_finds_196 (by decide) ?_
                                      refine lv_iload hx hb dX10_finds_197 (lv_at hl 0 rfl) ?_
                                      have zc_4 : (4 : Int32).toInt = 4 := by decide
                                      refine hx_gov (hx_runV (As := [.int (4 : Int32), .int r_67]) (rest := []) ⟨hx, hb, hml, hown, hts⟩ hW (gx.S hM) tt_10 (T := TX10) (N := 98) rfl (t_X10_offers_2 l dC dI dA L_65 h_75 H.size x (4 : Int32) r_67 hT (gx.S hM) qdb (gqdb.S hM) ((hM.o gx trivial rfl).2.trans f_x_82) qrg (gqrg.S hM) ((hM.o gx trivial rfl).2.trans f_x_89) qbr (gqbr.S hM) ((hM.o gx trivial rfl).2.trans f_x_88) dbf (hx_afS hM gqdb rfl af_qdb) fa_76 nfa_76 ia137_qbr nia137_qbr fw137_x_86 ffw137_x_86 fw137_x_87 ffw137_x_87 (by decide) (hx_PR4 rg195_0 rg195_1 rg195_2 rg195_3 hb20 hb39 hb85 hb146 (hq_o hn39) (hq_o hn85) (fun z => hq_o hnb109 z.symm) (hq_o hn146) (fun z => hq_o hnb172 z.symm) (fun z => hq_o hnb179 z.symm) ax_19 hi50 hl0 ax_38 hi98 hl1 ax_64 hi161 hm164.2) vi137_0) (cwV 2 hts (hx_gV kw_1702 kw_1699 kw_1701 kw_88 kw_103) rfl rfl rfl (by decide +kernel) ⟨Nat.le_of_ble_eq_true rfl, Nat.le_of_ble_eq_true rfl⟩) rfl hl.1 rfl (Nat.le_of_ble_eq_true rfl) dX10_finds_199 ⟨Nat.le_of_ble_eq_true rfl, Nat.le_of_ble_eq_true rfl⟩) hW (fun L_77 h_78 H locs p_80 hW => ?_)
                                      obtain ⟨⟨w_82, w_83, w_84, fw_82, fw_83, fw_84, hr_81⟩, hT, hs⟩ := p_80
                                      replace hT : hx_T T_tb L_77 h_78 := hT
                                      replace hs : hx_S T_tb [(10, 86), (10, 87), (110, 0)] L_65 h_75 L_77 h_78 := hs
                                      replace fx_7 := (hs.o (gx.S hM) trivial rfl).1.trans fx_7
                                      replace nfa_76 : h_78.2.1 qrg = fa_76 := (funext fun j => (hs.a (gqrg.S hM) rfl j).1).trans nfa_76
                                      replace ex_64 := ex_64.trans (hs.a (gqdb.S hM) rfl _).1.symm
                                      replace hM := hM.tr (hs.mono (by decide))
                                      have fw_82 : h_78.2.1 x 86 = w_82 := fw_82
                                      have bw_82 := hT.gi (gx.S hM) tt_10 (k := 86) rfl
                                      rw [fw_82] at bw_82
                                      have bw_82 : -2147483648 ≤ w_82.toInt ∧ w_82.toInt ≤ 2147483647 := bw_82
                                      have fw_83 : h_78.2.1 x 87 = w_83 := fw_83
                                      have bw_83 := hT.gi (gx.S hM) tt_10 (k := 87) rfl
                                      rw [fw_83] at bw_83
                                      have bw_83 : 0 ≤ w_83.toInt ∧ w_83.toInt ≤ 4 := bw_83
                                      have fw_84 : h_78.2.1 qbr = w_84 := fw_84
                                      obtain ⟨x_85, ex_85⟩ : ∃ y : Int32, y = iv137_6 + Int32.ofInt 1 := ⟨_, rfl⟩
                                      have zx_85 : x_85.toInt = iv137_6.toInt + (1) := by rw [ex_85]; exact i32_add rfl (by decide) (by omega) (by omega)
                                      refine lv_iinc (v := x_85) (lv' := [(6, .int x_85), (7, .int r_67), (5, .int r_41), (4, .int iv76_4), (3, .int x_19), (2, .int iv31_2), (1, .int iv12_1), (0, .ref x)]) hx hb dX10_finds_202 hl (k := 1) rfl ex_85.symm (by decide) rfl (fun ls hl => ?_)
                                      refine lv_goto (tgt := 137) hx hb dX10_finds_205 (by decide) ?_
                                      exact ih137 x_85 w_82 w_83 fa_76 w_84 _ _ L_77 h_78 (by omega) (by omega) (i32_r _).1 (i32_r _).2 (by omega) (by omega) hr_81 rg195_0 rg195_1 rg195_2 (by omega) ls (by omega) hW hT hM fw_82 fw_83 fx_7 nfa_76 fw_84 (lv_sub hl [0, 2, 3, 4, 5, 6, 7] rfl)
                                    · skip
                                      refine lv_goto (tgt := 202) hx hb dX10_finds_184 (by decide) ?_
                                      obtain ⟨x_86, ex_86⟩ : ∃ y : Int32, y = iv137_6 + Int32.ofInt 1 := ⟨_, rfl⟩
                                      have zx_86 : x_86.toInt = iv137_6.toInt + (1) := by rw [ex_86]; exact i32_add rfl (by decide) (by omega) (by omega)
                                      refine lv_iinc (v := x_86) (lv' := [(6, .int x_86), (7, .int r_67), (5, .int r_41), (4, .int iv76_4), (3, .int x_19), (2, .int iv31_2), (1, .int iv12_1), (0, .ref x)]) hx hb dX10_finds_202 hl (k := 1) rfl ex_86.symm (by decide) rfl (fun ls hl => ?_)
                                      refine lv_goto (tgt := 137) hx hb dX10_finds_205 (by decide) ?_
                                      exact ih137 x_86 fw137_x_86 fw137_x_87 ia137_qrg ia137_qbr _ _ L_65 h_66 (by omega) (by omega) (i32_r _).1 (i32_r _).2 (by omega) (by omega) vi137_0 vi137_1 vi137_2 vi137_3 (by omega) ls (by omega) hW hT hM ffw137_x_86 ffw137_x_87 fx_7 nia137_qrg nia137_qbr (lv_sub hl [0, 2, 3, 4, 5, 6, 7] rfl)
                          exact loop137 41 x_57 w_54 w_55 fa_48 w_56 _ _ L_49 h_50 (by omega) (by omega) (i32_r _).1 (i32_r _).2 (by omega) (by omega) hr_53 rg125_0 rg125_1 rg125_2 (by omega) ls (by omega) hW hT hM fw_54 fw_55 fx_7 nfa_48 fw_56 hl
                        · skip
                          refine lv_goto (tgt := 208) hx hb dX10_finds_114 (by decide) ?_
                          obtain ⟨x_87, ex_87⟩ : ∃ y : Int32, y = iv76_4 + Int32.ofInt 1 := ⟨_, rfl⟩
                          have zx_87 : x_87.toInt = iv76_4.toInt + (1) := by rw [ex_87]; exact i32_add rfl (by decide) (by omega) (by omega)
                          refine lv_iinc (v := x_87) (lv' := [(4, .int x_87), (5, .int r_41), (3, .int x_19), (2, .int iv31_2), (1, .int iv12_1), (0, .ref x)]) hx hb dX10_finds_208 hl (k := 1) rfl ex_87.symm (by decide) rfl (fun ls hl => ?_)
                          refine lv_goto (tgt := 76) hx hb dX10_finds_211 (by decide) ?_
                          exact ih76 x_87 fw76_x_86 fw76_x_87 ia76_qrg ia76_qbr _ _ L_39 h_40 (by omega) (by omega) (i32_r _).1 (i32_r _).2 (by omega) (by omega) vi76_0 vi76_1 vi76_2 (by omega) ls (by omega) hW hT hM ffw76_x_86 ffw76_x_87 fx_7 nia76_qrg nia76_qbr (lv_sub hl [0, 2, 3, 4, 5] rfl)
                exact loop76 41 x_31 w_28 w_29 fa_22 w_30 _ _ L_23 h_24 (by omega) (by omega) (i32_r _).1 (i32_r _).2 (by omega) (by omega) hr_27 rg65_0 rg65_1 (by omega) ls (by omega) hW hT hM fw_28 fw_29 fx_7 nfa_22 fw_30 hl
              · skip
                refine lv_goto (tgt := 214) hx hb dX10_finds_55 (by decide) ?_
                obtain ⟨x_88, ex_88⟩ : ∃ y : Int32, y = iv31_2 + Int32.ofInt 1 := ⟨_, rfl⟩
                have zx_88 : x_88.toInt = iv31_2.toInt + (1) := by rw [ex_88]; exact i32_add rfl (by decide) (by omega) (by omega)
                refine lv_iinc (v := x_88) (lv' := [(2, .int x_88), (3, .int x_19), (1, .int iv12_1), (0, .ref x)]) hx hb dX10_finds_214 hl (k := 1) rfl ex_88.symm (by decide) rfl (fun ls hl => ?_)
                refine lv_goto (tgt := 31) hx hb dX10_finds_217 (by decide) ?_
                exact ih31 x_88 fw31_x_86 fw31_x_87 ia31_qrg ia31_qbr _ _ hL1 hl1 (by omega) (by omega) (i32_r _).1 (i32_r _).2 (by omega) (by omega) vi31_0 vi31_1 (by omega) ls (by omega) hW hT hM ffw31_x_86 ffw31_x_87 fx_7 nia31_qrg nia31_qbr (lv_sub hl [0, 2, 3] rfl)
        exact loop31 41 x_12 fw12_x_86 fw12_x_87 fa_10 ia12_qbr _ _ hL1 h_9 (by omega) (by omega) (i32_r _).1 (i32_r _).2 (by omega) (by omega) vi12_0 rg27_0 (by omega) ls (by omega) hW hT hM ffw12_x_86 ffw12_x_87 fx_7 nfa_10 nia12_qbr hl
  have zk_0 : (0 : Int32).toInt = 0 := by decide
  have zk_0 : (0 : Int32).toInt = 0 := by decide
  have zk_0 : (0 : Int32).toInt = 0 := by decide
  exact loop12 41 (0 : Int32) (0 : Int32) (0 : Int32) fa_5 fa_6 _ _ L h_3 (by decide) (by decide) (by decide) (by decide) (by decide) (by decide) hx_BR_0 ls (by omega) hW hT hM f_2 f_4 nfa_5 nfa_6 hl
