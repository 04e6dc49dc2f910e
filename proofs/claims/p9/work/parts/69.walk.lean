
set_option maxHeartbeats 4000000 in
set_option maxRecDepth 100000 in
theorem t_X8_walkList_2 (l : Launch) (dC : Nat → ClassId) (dI : Nat → Nat → Nat) (dA : Nat → ClassId) (L : List Nat) (h : hx_h) (sz : Nat) (x : Nat) (hT : hx_T T_tb L h) (gx : hx_g L h x 8) (cn : Int32) (f_x_0 : h.2.1 x 0 = cn) (ql : Nat) (gql : hx_g L h ql 40) (f_x_3 : h.2.2 x 3 = some ql) (pf_x_0 : ∀ j : Nat, (j : Int) < (h.2.1 x 0).toInt → h.2.2 ql j ≠ none) : Met l yX8_walkList (Cond.code yX8_walkList cX8_walkList 4 (some .int) :: hx_all) ({ frames := 5, cells := 0, slots := 0, locals := 117 }) (va_Pc [.ref x] (hx_B T_tb (P_ty dA) (dC, dI) vwCl L h sz)) (va_Qi (fun (r : Int32) (u : List Nat × hx_h) => (∃ (n1 : Int32), u.2.2.1 x 0 = n1 ∧ (n1.toInt = 0)) ∧ hx_T T_tb u.1 u.2 ∧ hx_S T_tb [(8, 0), (8, 1), (39, 0), (41, 0)] L h u.1 u.2) (hx_E T_tb (P_ty dA) (dC, dI) vwCl (hx_A L sz)) (hx_A L sz)) 0 0 (hx_A L sz) := by
  refine hx_met (lv := [(0, .ref x)]) (by decide +kernel) rfl (Nat.le_of_ble_eq_true rfl) rfl ?_
  intro p e s m below meth c hx hb hml hr hlk hts0 hown hin hsz hW ls hl
  have hts : ∀ w ∈ hx_all, w.before _ s = true := fun w hw => hts0 w (List.mem_cons_of_mem _ hw)
  have hown : s.vm.findClass "SmallCourt$Walk" = some m.cls := hown
  have hM : hx_S T_tb [(8, 0), (8, 1), (39, 0), (41, 0)] L h L h := hx_S.rf
  have b_cn := hT.gi gx tt_8 (k := 0) rfl
  rw [f_x_0] at b_cn
  have b_cn : 0 ≤ cn.toInt ∧ cn.toInt ≤ 8 := b_cn
  refine lv_iconst (v := 1) hx hb dX8_walkList_0 (by decide) ?_
  refine lv_aload_n hx hb dX8_walkList_1 rfl (lv_at hl 0 rfl) ?_
  refine hk_geti hx hb hts hC_8 hown hW gx tt_8 0 (by decide) rfl kw_345 ⟨rfl, rfl, rfl⟩ f_x_0 dX8_walkList_2 ?_
  refine lv_ishl hx hb dX8_walkList_5 ?_
  refine lv_topi (fun x_1 ex_1 => ?_)
  have zx_1 : 1 ≤ x_1.toInt ∧ x_1.toInt ≤ 256 := by rw [ex_1]; exact hx_shl8 (by omega) (by omega)
  refine lv_iconst (v := 1) hx hb dX8_walkList_6 (by decide) ?_
  refine lv_isub hx hb dX8_walkList_7 ?_
  have rg_2 := i32_r x_1
  refine lv_topi (fun x_3 ex_3 => ?_)
  have zx_3 : x_3.toInt = x_1.toInt - 1 := by rw [ex_3]; exact i32_sub rfl (by decide) (by omega) (by omega)
  refine lv_istore_n (lv' := [(1, .int x_3), (0, .ref x)]) hx hb dX8_walkList_8 rfl hl (by decide) rfl (fun ls hl => ?_)
  refine lv_iload_n hx hb dX8_walkList_9 rfl (lv_at hl 0 rfl) ?_
  refine lv_istore_n (lv' := [(2, .int x_3), (1, .int x_3), (0, .ref x)]) hx hb dX8_walkList_10 rfl hl (by decide) rfl (fun ls hl => ?_)
  have loop11 : ∀ (n11 : Nat) (iv11_2 : Int32) (H : Heap) (locs : List Loc) (hL1 : List Nat) (hl1 : hx_h), 0 ≤ iv11_2.toInt → iv11_2.toInt ≤ 255 → ∀ (ls : Array Slot), iv11_2.toInt < (n11 : Int) → hx_W T_tb (P_ty dA) (dC, dI) vwCl (hx_A L sz) s.heap hL1 hl1 s H locs → hx_T T_tb hL1 hl1 → hx_S T_tb [(8, 0), (8, 1), (39, 0), (41, 0)] L h hL1 hl1 → hl1.2.2 x 3 = some ql → hl1.2.1 x 0 = cn → hx_g hL1 hl1 x 8 → hx_g hL1 hl1 ql 40 → (∀ j : Nat, (j : Int) < (hl1.2.1 x 0).toInt → hl1.2.2 ql j ≠ none) → lv_has ls 4 [(2, .int iv11_2), (1, .int x_3), (0, .ref x)] → W p l e ({ frames := 5, cells := 0, slots := 0, locals := 117 }) s m ([.ref x] : List Value).toArray below meth c H locs 0 0 (MQ below (va_Qi (fun (r : Int32) (u : List Nat × hx_h) => (∃ (n1 : Int32), u.2.2.1 x 0 = n1 ∧ (n1.toInt = 0)) ∧ hx_T T_tb u.1 u.2 ∧ hx_S T_tb [(8, 0), (8, 1), (39, 0), (41, 0)] L h u.1 u.2) (hx_E T_tb (P_ty dA) (dC, dI) vwCl (hx_A L sz)) (hx_A L sz)) ([.ref x] : List Value).toArray s 0 0 (hx_A L sz)) (F0 m 11 ls []) := by
    intro n11
    induction n11 with
    | zero => intro iv11_2 H locs hL1 hl1 bliv11_2 buiv11_2  ls hn11; exfalso; omega
    | succ n11 ih11 =>
      intro iv11_2 H locs hL1 hl1 bliv11_2 buiv11_2  ls hn11 hW hT hM f_x_3 f_x_0 gx gql pf_x_0 hl
      refine lv_iload_n hx hb dX8_walkList_11 rfl (lv_at hl 0 rfl) ?_
      refine hb_if_le (zx := iv11_2.toInt) (tgt := 75) hx hb rfl dX8_walkList_12 (by decide) (fun c_4 => ?_) (fun c_4 => ?_)
      · skip
        refine lv_aload_n hx hb dX8_walkList_75 rfl (lv_at hl 2 rfl) ?_
        refine hk_geti hx hb hts hC_8 hown hW gx tt_8 0 (by decide) rfl kw_345 ⟨rfl, rfl, rfl⟩ f_x_0 dX8_walkList_76 ?_
        refine hb_if_ne (zx := cn.toInt) (tgt := 86) hx hb rfl dX8_walkList_79 (by decide) (fun c_5 => ?_) (fun c_5 => ?_)
        · skip
          refine lv_aload_n hx hb dX8_walkList_86 rfl (lv_at hl 2 rfl) ?_
          refine lv_iconst (v := 0) hx hb dX8_walkList_87 (by decide) ?_
          refine lv_iconst (v := -1) hx hb dX8_walkList_88 (by decide) ?_
          have zc_m1 : (-1 : Int32).toInt = -1 := by decide
          have zc_0 : (0 : Int32).toInt = 0 := by decide
          refine hx_goi (hx_runV (As := [.int (0 : Int32), .int (-1 : Int32)]) (rest := []) ⟨hx, hb, hml, hown, hts⟩ hW gx tt_8 (T := TX8) (N := 5) rfl (t_X8_leastOn l dC dI dA hL1 hl1 H.size x (0 : Int32) (-1 : Int32) hT gx cn f_x_0 ⟨by omega, by omega⟩ ⟨by omega, by omega⟩ ql gql f_x_3 pf_x_0) (cwV 2 hts (hx_gV kw_1067 kw_1064 kw_1066 kw_43 kw_102) rfl rfl rfl (by decide +kernel) ⟨Nat.le_of_ble_eq_true rfl, Nat.le_of_ble_eq_true rfl⟩) rfl hl.1 rfl (Nat.le_of_ble_eq_true rfl) dX8_walkList_89 ⟨Nat.le_of_ble_eq_true rfl, Nat.le_of_ble_eq_true rfl⟩) hW (fun r_8 L_6 h_7 H locs p_9 hW => ?_)
          obtain ⟨hr_10, hT, hs⟩ := p_9
          have hT : hx_T T_tb L_6 h_7 := hT
          have hs : hx_S T_tb [] hL1 hl1 L_6 h_7 := hs
          have f_x_3 := (hs.o gx trivial rfl).2.trans f_x_3
          have f_x_0 := (hs.o gx trivial rfl).1.trans f_x_0
          have pf_x_0 : ∀ j : Nat, (j : Int) < (h_7.2.1 x 0).toInt → h_7.2.2 ql j ≠ none := by
            intro j hj; rw [(hs.o gx trivial rfl).1] at hj; rw [(hs.a gql rfl j).2]; exact pf_x_0 j hj
          have hM := hM.tr (hs.mono (by decide))
          have gx := gx.S hs
          have gql := gql.S hs
          refine lv_istore_n (lv' := [(2, .int r_8), (1, .int x_3), (0, .ref x)]) hx hb dX8_walkList_92 rfl hl (by decide) rfl (fun ls hl => ?_)
          refine lv_aload_n hx hb dX8_walkList_93 rfl (lv_at hl 2 rfl) ?_
          refine lv_iload_n hx hb dX8_walkList_94 rfl (lv_at hl 0 rfl) ?_
          refine hx_gov (hx_runV (As := [.int r_8]) (rest := []) ⟨hx, hb, hml, hown, hts⟩ hW gx tt_8 (T := TX8) (N := 5) rfl (t_X8_retrace l dC dI dA L_6 h_7 H.size x r_8 hT gx cn f_x_0 ql gql f_x_3 pf_x_0) (cwV 1 hts (hx_gV kw_1080 kw_1077 kw_1079 kw_45 kw_102) rfl rfl rfl (by decide +kernel) ⟨Nat.le_of_ble_eq_true rfl, Nat.le_of_ble_eq_true rfl⟩) rfl hl.1 rfl (Nat.le_of_ble_eq_true rfl) dX8_walkList_95 ⟨Nat.le_of_ble_eq_true rfl, Nat.le_of_ble_eq_true rfl⟩) hW (fun L_11 h_12 H locs p_14 hW => ?_)
          obtain ⟨hT, hs⟩ := p_14
          have hT : hx_T T_tb L_11 h_12 := hT
          have hs : hx_S T_tb [(39, 0)] L_6 h_7 L_11 h_12 := hs
          have f_x_3 := (hs.o gx trivial rfl).2.trans f_x_3
          have f_x_0 := (hs.o gx trivial rfl).1.trans f_x_0
          have pf_x_0 : ∀ j : Nat, (j : Int) < (h_12.2.1 x 0).toInt → h_12.2.2 ql j ≠ none := by
            intro j hj; rw [(hs.o gx trivial rfl).1] at hj; rw [(hs.a gql rfl j).2]; exact pf_x_0 j hj
          have hM := hM.tr (hs.mono (by decide))
          have gx := gx.S hs
          have gql := gql.S hs
          refine lv_aload_n hx hb dX8_walkList_98 rfl (lv_at hl 2 rfl) ?_
          refine lv_aload_n hx hb dX8_walkList_99 rfl (lv_at hl 2 rfl) ?_
          refine hk_geti hx hb hts hC_8 hown hW gx tt_8 0 (by decide) rfl kw_345 ⟨rfl, rfl, rfl⟩ f_x_0 dX8_walkList_100 ?_
          refine hx_puti hx hb hts hC_8 hown hW hT (hx_S.rf (M := [(8, 1)])) gx tt_8 1 (by decide) rfl kw_347 ⟨rfl, rfl, rfl⟩ rfl (x := cn) ⟨by omega, by omega⟩ rfl rfl rfl (List.mem_singleton.mpr rfl) dX8_walkList_103 (fun H locs h_16 eh_16 hW hT hs => ?_)
          have f_x_3 := (hs.o gx trivial rfl).2.trans f_x_3
          have f_x_0 := (hs.o gx trivial rfl).1.trans f_x_0
          have pf_x_0 : ∀ j : Nat, (j : Int) < (h_16.2.1 x 0).toInt → h_16.2.2 ql j ≠ none := by
            intro j hj; rw [(hs.o gx trivial rfl).1] at hj; rw [(hs.a gql rfl j).2]; exact pf_x_0 j hj
          have hM := hM.tr (hs.mono (by decide))
          have gx := gx.S hs
          have gql := gql.S hs
          have f_17 : h_16.2.1 x 1 = cn := by rw [eh_16]; exact hx_pi_at _ _ _ _
          refine lv_aload_n hx hb dX8_walkList_106 rfl (lv_at hl 2 rfl) ?_
          refine lv_iconst (v := 0) hx hb dX8_walkList_107 (by decide) ?_
          refine hx_puti hx hb hts hC_8 hown hW hT (hx_S.rf (M := [(8, 0)])) gx tt_8 0 (by decide) rfl kw_345 ⟨rfl, rfl, rfl⟩ rfl (x := (0 : Int32)) (by decide) rfl rfl rfl (List.mem_singleton.mpr rfl) dX8_walkList_108 (fun H locs h_18 eh_18 hW hT hs => ?_)
          have f_x_3 := (hs.o gx trivial rfl).2.trans f_x_3
          have f_17 := (hs.o gx trivial rfl).1.trans f_17
          have hM := hM.tr (hs.mono (by decide))
          have gx := gx.S hs
          have gql := gql.S hs
          have f_19 : h_18.2.1 x 0 = (0 : Int32) := by rw [eh_18]; exact hx_pi_at _ _ _ _
          refine lv_iload_n hx hb dX8_walkList_111 rfl (lv_at hl 0 rfl) ?_
          have zo_0 : (0 : Int32).toInt = 0 := by decide
          exact hx_reti hx hb hr hlk hW ⟨⟨(0 : Int32), f_19, (by decide)⟩, hT, hM⟩ dX8_walkList_112
        · skip
          refine lv_iconst (v := 0) hx hb dX8_walkList_82 (by decide) ?_
          refine lv_goto (tgt := 92) hx hb dX8_walkList_83 (by decide) ?_
          refine lv_istore_n (lv' := [(2, .int (0 : Int32)), (1, .int x_3), (0, .ref x)]) hx hb dX8_walkList_92 rfl hl (by decide) rfl (fun ls hl => ?_)
          refine lv_aload_n hx hb dX8_walkList_93 rfl (lv_at hl 2 rfl) ?_
          refine lv_iload_n hx hb dX8_walkList_94 rfl (lv_at hl 0 rfl) ?_
          have zc_0 : (0 : Int32).toInt = 0 := by decide
          refine hx_gov (hx_runV (As := [.int (0 : Int32)]) (rest := []) ⟨hx, hb, hml, hown, hts⟩ hW gx tt_8 (T := TX8) (N := 5) rfl (t_X8_retrace l dC dI dA hL1 hl1 H.size x (0 : Int32) hT gx cn f_x_0 ql gql f_x_3 pf_x_0) (cwV 1 hts (hx_gV kw_1080 kw_1077 kw_1079 kw_45 kw_102) rfl rfl rfl (by decide +kernel) ⟨Nat.le_of_ble_eq_true rfl, Nat.le_of_ble_eq_true rfl⟩) rfl hl.1 rfl (Nat.le_of_ble_eq_true rfl) dX8_walkList_95 ⟨Nat.le_of_ble_eq_true rfl, Nat.le_of_ble_eq_true rfl⟩) hW (fun L_20 h_21 H locs p_23 hW => ?_)
          obtain ⟨hT, hs⟩ := p_23
          have hT : hx_T T_tb L_20 h_21 := hT
          have hs : hx_S T_tb [(39, 0)] hL1 hl1 L_20 h_21 := hs
          have f_x_3 := (hs.o gx trivial rfl).2.trans f_x_3
          have f_x_0 := (hs.o gx trivial rfl).1.trans f_x_0
          have pf_x_0 : ∀ j : Nat, (j : Int) < (h_21.2.1 x 0).toInt → h_21.2.2 ql j ≠ none := by
            intro j hj; rw [(hs.o gx trivial rfl).1] at hj; rw [(hs.a gql rfl j).2]; exact pf_x_0 j hj
          have hM := hM.tr (hs.mono (by decide))
          have gx := gx.S hs
          have gql := gql.S hs
          refine lv_aload_n hx hb dX8_walkList_98 rfl (lv_at hl 2 rfl) ?_
          refine lv_aload_n hx hb dX8_walkList_99 rfl (lv_at hl 2 rfl) ?_
          refine hk_geti hx hb hts hC_8 hown hW gx tt_8 0 (by decide) rfl kw_345 ⟨rfl, rfl, rfl⟩ f_x_0 dX8_walkList_100 ?_
          refine hx_puti hx hb hts hC_8 hown hW hT (hx_S.rf (M := [(8, 1)])) gx tt_8 1 (by decide) rfl kw_347 ⟨rfl, rfl, rfl⟩ rfl (x := cn) ⟨by omega, by omega⟩ rfl rfl rfl (List.mem_singleton.mpr rfl) dX8_walkList_103 (fun H locs h_25 eh_25 hW hT hs => ?_)
          have f_x_3 := (hs.o gx trivial rfl).2.trans f_x_3
          have f_x_0 := (hs.o gx trivial rfl).1.trans f_x_0
          have pf_x_0 : ∀ j : Nat, (j : Int) < (h_25.2.1 x 0).toInt → h_25.2.2 ql j ≠ none := by
            intro j hj; rw [(hs.o gx trivial rfl).1] at hj; rw [(hs.a gql rfl j).2]; exact pf_x_0 j hj
          have hM := hM.tr (hs.mono (by decide))
          have gx := gx.S hs
          have gql := gql.S hs
          have f_26 : h_25.2.1 x 1 = cn := by rw [eh_25]; exact hx_pi_at _ _ _ _
          refine lv_aload_n hx hb dX8_walkList_106 rfl (lv_at hl 2 rfl) ?_
          refine lv_iconst (v := 0) hx hb dX8_walkList_107 (by decide) ?_
          refine hx_puti hx hb hts hC_8 hown hW hT (hx_S.rf (M := [(8, 0)])) gx tt_8 0 (by decide) rfl kw_345 ⟨rfl, rfl, rfl⟩ rfl (x := (0 : Int32)) (by decide) rfl rfl rfl (List.mem_singleton.mpr rfl) dX8_walkList_108 (fun H locs h_27 eh_27 hW hT hs => ?_)
          have f_x_3 := (hs.o gx trivial rfl).2.trans f_x_3
          have f_26 := (hs.o gx trivial rfl).1.trans f_26
          have hM := hM.tr (hs.mono (by decide))
          have gx := gx.S hs
          have gql := gql.S hs
          have f_28 : h_27.2.1 x 0 = (0 : Int32) := by rw [eh_27]; exact hx_pi_at _ _ _ _
          refine lv_iload_n hx hb dX8_walkList_111 rfl (lv_at hl 0 rfl) ?_
          have zo_0 : (0 : Int32).toInt = 0 := by decide
          exact hx_reti hx hb hr hlk hW ⟨⟨(0 : Int32), f_28, (by decide)⟩, hT, hM⟩ dX8_walkList_112
      · skip
        refine lv_iconst (v := 0) hx hb dX8_walkList_15 (by decide) ?_
        refine lv_istore_n (lv' := [(3, .int (0 : Int32)), (2, .int iv11_2), (1, .int x_3), (0, .ref x)]) hx hb dX8_walkList_16 rfl hl (by decide) rfl (fun ls hl => ?_)
        have loop17 : ∀ (n17 : Nat) (iv17_3 : Int32) (H : Heap) (locs : List Loc) (hL1 : List Nat) (hl1 : hx_h), 0 ≤ iv17_3.toInt → iv17_3.toInt ≤ 8 → ∀ (ls : Array Slot), 8 - iv17_3.toInt < (n17 : Int) → hx_W T_tb (P_ty dA) (dC, dI) vwCl (hx_A L sz) s.heap hL1 hl1 s H locs → hx_T T_tb hL1 hl1 → hx_S T_tb [(8, 0), (8, 1), (39, 0), (41, 0)] L h hL1 hl1 → hl1.2.2 x 3 = some ql → hl1.2.1 x 0 = cn → hx_g hL1 hl1 x 8 → hx_g hL1 hl1 ql 40 → (∀ j : Nat, (j : Int) < (hl1.2.1 x 0).toInt → hl1.2.2 ql j ≠ none) → lv_has ls 4 [(3, .int iv17_3), (2, .int iv11_2), (1, .int x_3), (0, .ref x)] → W p l e ({ frames := 5, cells := 0, slots := 0, locals := 117 }) s m ([.ref x] : List Value).toArray below meth c H locs 0 0 (MQ below (va_Qi (fun (r : Int32) (u : List Nat × hx_h) => (∃ (n1 : Int32), u.2.2.1 x 0 = n1 ∧ (n1.toInt = 0)) ∧ hx_T T_tb u.1 u.2 ∧ hx_S T_tb [(8, 0), (8, 1), (39, 0), (41, 0)] L h u.1 u.2) (hx_E T_tb (P_ty dA) (dC, dI) vwCl (hx_A L sz)) (hx_A L sz)) ([.ref x] : List Value).toArray s 0 0 (hx_A L sz)) (F0 m 17 ls []) := by
          intro n17
          induction n17 with
          | zero => intro iv17_3 H locs hL1 hl1 bliv17_3 buiv17_3  ls hn17; exfalso; omega
          | succ n17 ih17 =>
            intro iv17_3 H locs hL1 hl1 bliv17_3 buiv17_3  ls hn17 hW hT hM f_x_3 f_x_0 gx gql pf_x_0 hl
            refine lv_iload_n hx hb dX8_walkList_17 rfl (lv_at hl 0 rfl) ?_
            refine lv_aload_n hx hb dX8_walkList_18 rfl (lv_at hl 3 rfl) ?_
            refine hk_geti hx hb hts hC_8 hown hW gx tt_8 0 (by decide) rfl kw_345 ⟨rfl, rfl, rfl⟩ f_x_0 dX8_walkList_19 ?_
            refine hb_icmp_ge (zx := iv17_3.toInt) (zy := cn.toInt) (tgt := 69) hx hb rfl rfl dX8_walkList_22 (by decide) (fun c_29 => ?_) (fun c_29 => ?_)
            · skip
              obtain ⟨x_30, ex_30⟩ : ∃ y : Int32, y = iv11_2 + Int32.ofInt (-1) := ⟨_, rfl⟩
              have rg_31 := i32_r iv11_2
              have zx_30 : x_30.toInt = iv11_2.toInt + (-1) := by rw [ex_30]; exact i32_add rfl (by decide) (by omega) (by omega)
              refine lv_iinc (v := x_30) (lv' := [(2, .int x_30), (3, .int iv17_3), (1, .int x_3), (0, .ref x)]) hx hb dX8_walkList_69 hl (k := 1) rfl ex_30.symm (by decide) rfl (fun ls hl => ?_)
              refine lv_goto (tgt := 11) hx hb dX8_walkList_72 (by decide) ?_
              exact ih11 x_30 _ _ hL1 hl1 (by omega) (by omega)  ls (by omega) hW hT hM f_x_3 f_x_0 gx gql pf_x_0 (lv_sub hl [0, 2, 3] rfl)
            · skip
              refine lv_iload_n hx hb dX8_walkList_25 rfl (lv_at hl 0 rfl) ?_
              refine lv_iload_n hx hb dX8_walkList_26 rfl (lv_at hl 1 rfl) ?_
              refine hx_goi (hx_runS (As := [.int iv17_3, .int iv11_2]) (rest := []) ⟨hx, hb, hml, hown, hts⟩ hW (t_X8_isIn l dC dI dA hL1 hl1 H.size iv17_3 iv11_2 hT) (va_cwS 2 hts (hx_gS kw_1058 kw_1056 kw_1057 kw_102) rfl rfl rfl (by decide +kernel) ⟨Nat.le_of_ble_eq_true rfl, Nat.le_of_ble_eq_true rfl⟩) rfl hl.1 rfl (Nat.le_of_ble_eq_true rfl) dX8_walkList_27 ⟨Nat.le_of_ble_eq_true rfl, Nat.le_of_ble_eq_true rfl⟩) hW (fun r_34 L_32 h_33 H locs p_35 hW => ?_)
              obtain ⟨hr_36, hT, hs⟩ := p_35
              have hT : hx_T T_tb L_32 h_33 := hT
              have hs : hx_S T_tb [] hL1 hl1 L_32 h_33 := hs
              have f_x_3 := (hs.o gx trivial rfl).2.trans f_x_3
              have f_x_0 := (hs.o gx trivial rfl).1.trans f_x_0
              have pf_x_0 : ∀ j : Nat, (j : Int) < (h_33.2.1 x 0).toInt → h_33.2.2 ql j ≠ none := by
                intro j hj; rw [(hs.o gx trivial rfl).1] at hj; rw [(hs.a gql rfl j).2]; exact pf_x_0 j hj
              have hM := hM.tr (hs.mono (by decide))
              have gx := gx.S hs
              have gql := gql.S hs
              refine hb_if_eq (zx := r_34.toInt) (tgt := 63) hx hb rfl dX8_walkList_30 (by decide) (fun c_37 => ?_) (fun c_37 => ?_)
              · skip
                obtain ⟨x_38, ex_38⟩ : ∃ y : Int32, y = iv17_3 + Int32.ofInt 1 := ⟨_, rfl⟩
                have rg_39 := i32_r iv17_3
                have zx_38 : x_38.toInt = iv17_3.toInt + (1) := by rw [ex_38]; exact i32_add rfl (by decide) (by omega) (by omega)
                refine lv_iinc (v := x_38) (lv' := [(3, .int x_38), (2, .int iv11_2), (1, .int x_3), (0, .ref x)]) hx hb dX8_walkList_63 hl (k := 0) rfl ex_38.symm (by decide) rfl (fun ls hl => ?_)
                refine lv_goto (tgt := 17) hx hb dX8_walkList_66 (by decide) ?_
                exact ih17 x_38 _ _ L_32 h_33 (by omega) (by omega)  ls (by omega) hW hT hM f_x_3 f_x_0 gx gql pf_x_0 (lv_sub hl [0, 1, 2, 3] rfl)
              · skip
                refine lv_aload_n hx hb dX8_walkList_33 rfl (lv_at hl 3 rfl) ?_
                refine hx_getn hx hb hts hC_8 hown hW hT gx tt_8 4 (by decide) rfl kw_352 ⟨rfl, rfl, rfl⟩ dX8_walkList_34 (fun q_40 fq_40 gq_40 => ?_)
                refine lv_iload_n hx hb dX8_walkList_37 rfl (lv_at hl 1 rfl) ?_
                refine lv_bipush (v := 8) hx hb dX8_walkList_38 (by decide) ?_
                refine lv_imul hx hb dX8_walkList_40 ?_
                refine lv_topi (fun x_41 ex_41 => ?_)
                have zx_41 : x_41.toInt = iv11_2.toInt * 8 := by rw [ex_41]; exact i32_mul rfl (by decide) rfl (by omega) (by omega)
                refine lv_iload_n hx hb dX8_walkList_41 rfl (lv_at hl 0 rfl) ?_
                refine lv_iadd hx hb dX8_walkList_42 ?_
                have rg_42 := i32_r x_41
                have rg_43 := i32_r iv17_3
                refine lv_topi (fun x_44 ex_44 => ?_)
                have zx_44 : x_44.toInt = x_41.toInt + iv17_3.toInt := by rw [ex_44]; exact i32_add rfl rfl (by omega) (by omega)
                refine lv_iload_n hx hb dX8_walkList_43 rfl (lv_at hl 1 rfl) ?_
                refine lv_iload_n hx hb dX8_walkList_44 rfl (lv_at hl 2 rfl) ?_
                refine hb_icmp_ne (zx := iv11_2.toInt) (zy := x_3.toInt) (tgt := 56) hx hb rfl rfl dX8_walkList_45 (by decide) (fun c_45 => ?_) (fun c_45 => ?_)
                · skip
                  refine lv_aload_n hx hb dX8_walkList_56 rfl (lv_at hl 3 rfl) ?_
                  refine lv_iload_n hx hb dX8_walkList_57 rfl (lv_at hl 1 rfl) ?_
                  refine lv_iload_n hx hb dX8_walkList_58 rfl (lv_at hl 0 rfl) ?_
                  refine hx_goi (hx_runV (As := [.int iv11_2, .int iv17_3]) (rest := [.int x_44, .ref q_40]) ⟨hx, hb, hml, hown, hts⟩ hW gx tt_8 (T := TX8) (N := 5) rfl (t_X8_leastOn l dC dI dA L_32 h_33 H.size x iv11_2 iv17_3 hT gx cn f_x_0 ⟨by omega, by omega⟩ ⟨by omega, by omega⟩ ql gql f_x_3 pf_x_0) (cwV 2 hts (hx_gV kw_1067 kw_1064 kw_1066 kw_43 kw_102) rfl rfl rfl (by decide +kernel) ⟨Nat.le_of_ble_eq_true rfl, Nat.le_of_ble_eq_true rfl⟩) rfl hl.1 rfl (Nat.le_of_ble_eq_true rfl) dX8_walkList_59 ⟨Nat.le_of_ble_eq_true rfl, Nat.le_of_ble_eq_true rfl⟩) hW (fun r_48 L_46 h_47 H locs p_49 hW => ?_)
                  obtain ⟨hr_50, hT, hs⟩ := p_49
                  have hT : hx_T T_tb L_46 h_47 := hT
                  have hs : hx_S T_tb [] L_32 h_33 L_46 h_47 := hs
                  have f_x_3 := (hs.o gx trivial rfl).2.trans f_x_3
                  have f_x_0 := (hs.o gx trivial rfl).1.trans f_x_0
                  have fq_40 := (hs.o gx trivial rfl).2.trans fq_40
                  have pf_x_0 : ∀ j : Nat, (j : Int) < (h_47.2.1 x 0).toInt → h_47.2.2 ql j ≠ none := by
                    intro j hj; rw [(hs.o gx trivial rfl).1] at hj; rw [(hs.a gql rfl j).2]; exact pf_x_0 j hj
                  have hM := hM.tr (hs.mono (by decide))
                  have gx := gx.S hs
                  have gql := gql.S hs
                  have gq_40 := gq_40.S hs
                  refine hx_iast hx hb hW hT (hx_S.rf (M := [(41, 0)])) gq_40 tt_41 rfl ⟨by omega, by omega⟩ rfl (i32_r _) (List.mem_singleton.mpr rfl) dX8_walkList_62 (fun H locs h_51 eh_51 hW hT hs => ?_)
                  have f_x_3 := (hs.o gx trivial rfl).2.trans f_x_3
                  have f_x_0 := (hs.o gx trivial rfl).1.trans f_x_0
                  have fq_40 := (hs.o gx trivial rfl).2.trans fq_40
                  have pf_x_0 : ∀ j : Nat, (j : Int) < (h_51.2.1 x 0).toInt → h_51.2.2 ql j ≠ none := by
                    intro j hj; rw [(hs.o gx trivial rfl).1] at hj; rw [(hs.a gql rfl j).2]; exact pf_x_0 j hj
                  have hM := hM.tr (hs.mono (by decide))
                  have gx := gx.S hs
                  have gql := gql.S hs
                  have gq_40 := gq_40.S hs
                  obtain ⟨x_52, ex_52⟩ : ∃ y : Int32, y = iv17_3 + Int32.ofInt 1 := ⟨_, rfl⟩
                  have zx_52 : x_52.toInt = iv17_3.toInt + (1) := by rw [ex_52]; exact i32_add rfl (by decide) (by omega) (by omega)
                  refine lv_iinc (v := x_52) (lv' := [(3, .int x_52), (2, .int iv11_2), (1, .int x_3), (0, .ref x)]) hx hb dX8_walkList_63 hl (k := 0) rfl ex_52.symm (by decide) rfl (fun ls hl => ?_)
                  refine lv_goto (tgt := 17) hx hb dX8_walkList_66 (by decide) ?_
                  exact ih17 x_52 _ _ L_46 h_51 (by omega) (by omega)  ls (by omega) hW hT hM f_x_3 f_x_0 gx gql pf_x_0 (lv_sub hl [0, 1, 2, 3] rfl)
                · skip
                  refine lv_aload_n hx hb dX8_walkList_48 rfl (lv_at hl 3 rfl) ?_
                  refine lv_iload_n hx hb dX8_walkList_49 rfl (lv_at hl 0 rfl) ?_
                  refine hx_goi (hx_runV (As := [.int iv17_3]) (rest := [.int x_44, .ref q_40]) ⟨hx, hb, hml, hown, hts⟩ hW gx tt_8 (T := TX8) (N := 5) rfl (t_X8_fromCourt l dC dI dA L_32 h_33 H.size x iv17_3 hT gx cn f_x_0 ⟨by omega, by omega⟩ ql gql f_x_3 pf_x_0) (cwV 1 hts (hx_gV kw_1062 kw_1059 kw_1061 kw_42 kw_102) rfl rfl rfl (by decide +kernel) ⟨Nat.le_of_ble_eq_true rfl, Nat.le_of_ble_eq_true rfl⟩) rfl hl.1 rfl (Nat.le_of_ble_eq_true rfl) dX8_walkList_50 ⟨Nat.le_of_ble_eq_true rfl, Nat.le_of_ble_eq_true rfl⟩) hW (fun r_55 L_53 h_54 H locs p_56 hW => ?_)
                  obtain ⟨hr_57, hT, hs⟩ := p_56
                  have hT : hx_T T_tb L_53 h_54 := hT
                  have hs : hx_S T_tb [] L_32 h_33 L_53 h_54 := hs
                  have f_x_3 := (hs.o gx trivial rfl).2.trans f_x_3
                  have f_x_0 := (hs.o gx trivial rfl).1.trans f_x_0
                  have fq_40 := (hs.o gx trivial rfl).2.trans fq_40
                  have pf_x_0 : ∀ j : Nat, (j : Int) < (h_54.2.1 x 0).toInt → h_54.2.2 ql j ≠ none := by
                    intro j hj; rw [(hs.o gx trivial rfl).1] at hj; rw [(hs.a gql rfl j).2]; exact pf_x_0 j hj
                  have hM := hM.tr (hs.mono (by decide))
                  have gx := gx.S hs
                  have gql := gql.S hs
                  have gq_40 := gq_40.S hs
                  refine lv_goto (tgt := 62) hx hb dX8_walkList_53 (by decide) ?_
                  refine hx_iast hx hb hW hT (hx_S.rf (M := [(41, 0)])) gq_40 tt_41 rfl ⟨by omega, by omega⟩ rfl (i32_r _) (List.mem_singleton.mpr rfl) dX8_walkList_62 (fun H locs h_58 eh_58 hW hT hs => ?_)
                  have f_x_3 := (hs.o gx trivial rfl).2.trans f_x_3
                  have f_x_0 := (hs.o gx trivial rfl).1.trans f_x_0
                  have fq_40 := (hs.o gx trivial rfl).2.trans fq_40
                  have pf_x_0 : ∀ j : Nat, (j : Int) < (h_58.2.1 x 0).toInt → h_58.2.2 ql j ≠ none := by
                    intro j hj; rw [(hs.o gx trivial rfl).1] at hj; rw [(hs.a gql rfl j).2]; exact pf_x_0 j hj
                  have hM := hM.tr (hs.mono (by decide))
                  have gx := gx.S hs
                  have gql := gql.S hs
                  have gq_40 := gq_40.S hs
                  obtain ⟨x_59, ex_59⟩ : ∃ y : Int32, y = iv17_3 + Int32.ofInt 1 := ⟨_, rfl⟩
                  have zx_59 : x_59.toInt = iv17_3.toInt + (1) := by rw [ex_59]; exact i32_add rfl (by decide) (by omega) (by omega)
                  refine lv_iinc (v := x_59) (lv' := [(3, .int x_59), (2, .int iv11_2), (1, .int x_3), (0, .ref x)]) hx hb dX8_walkList_63 hl (k := 0) rfl ex_59.symm (by decide) rfl (fun ls hl => ?_)
                  refine lv_goto (tgt := 17) hx hb dX8_walkList_66 (by decide) ?_
                  exact ih17 x_59 _ _ L_53 h_58 (by omega) (by omega)  ls (by omega) hW hT hM f_x_3 f_x_0 gx gql pf_x_0 (lv_sub hl [0, 1, 2, 3] rfl)
        have zk_0 : (0 : Int32).toInt = 0 := by decide
        exact loop17 9 (0 : Int32) _ _ hL1 hl1 (by decide) (by decide)  ls (by omega) hW hT hM f_x_3 f_x_0 gx gql pf_x_0 hl
  exact loop11 256 x_3 _ _ L h (by omega) (by omega)  ls (by omega) hW hT hM f_x_3 f_x_0 gx gql pf_x_0 hl


set_option maxHeartbeats 4000000 in
set_option maxRecDepth 100000 in
theorem t_X9_walk_2 (l : Launch) (dC : Nat → ClassId) (dI : Nat → Nat → Nat) (dA : Nat → ClassId) (L : List Nat) (h : hx_h) (sz : Nat) (x : Nat) (hT : hx_T T_tb L h) (gx : hx_g L h x 9) (qw : Nat) (gqw : hx_g L h qw 8) (f_x_19 : h.2.2 x 19 = some qw) (ql : Nat) (gql : hx_g L h ql 40) (f_qw_3 : h.2.2 qw 3 = some ql) (pf_qw_0 : ∀ j : Nat, (j : Int) < (h.2.1 qw 0).toInt → h.2.2 ql j ≠ none) : Met l yX9_walk (Cond.code yX9_walk cX9_walk 1 (some .int) :: hx_all) ({ frames := 6, cells := 0, slots := 0, locals := 140 }) (va_Pc [.ref x] (hx_B T_tb (P_ty dA) (dC, dI) vwCl L h sz)) (va_Qi (fun (r : Int32) (u : List Nat × hx_h) => (∃ (n1 : Int32), u.2.2.1 qw 0 = n1 ∧ (n1.toInt = 0)) ∧ hx_T T_tb u.1 u.2 ∧ hx_S T_tb [(8, 0), (8, 1), (39, 0), (41, 0)] L h u.1 u.2) (hx_E T_tb (P_ty dA) (dC, dI) vwCl (hx_A L sz)) (hx_A L sz)) 0 0 (hx_A L sz) := by
  refine hx_met (lv := [(0, .ref x)]) (by decide +kernel) rfl (Nat.le_of_ble_eq_true rfl) rfl ?_
  intro p e s m below meth c hx hb hml hr hlk hts0 hown hin hsz hW ls hl
  have hts : ∀ w ∈ hx_all, w.before _ s = true := fun w hw => hts0 w (List.mem_cons_of_mem _ hw)
  have hown : s.vm.findClass "SmallCourt" = some m.cls := hown
  have hM : hx_S T_tb [(8, 0), (8, 1), (39, 0), (41, 0)] L h L h := hx_S.rf
  refine lv_aload_n hx hb dX9_walk_0 rfl (lv_at hl 0 rfl) ?_
  refine hk_getr hx hb hts hC_9 hown hW gx tt_9 19 (by decide) rfl kw_383 ⟨rfl, rfl, rfl⟩ f_x_19 dX9_walk_1 ?_
  obtain ⟨fv_1, efv_1⟩ : ∃ y : Int32, y = h.2.1 qw 0 := ⟨_, rfl⟩
  have bfv_1 := hT.gi gqw tt_8 (k := 0) rfl
  rw [← efv_1] at bfv_1
  have bfv_1 : 0 ≤ fv_1.toInt ∧ fv_1.toInt ≤ 8 := bfv_1
  have ffv_1 := efv_1.symm
  refine hx_goi (hx_runV (As := []) (rest := []) ⟨hx, hb, hml, hown, hts⟩ hW gqw tt_8 (T := TX8) (N := 5) rfl (t_X8_walkList_2 l dC dI dA L h s.heap.size qw hT gqw fv_1 ffv_1 ql gql f_qw_3 pf_qw_0) (cwV 0 hts (hx_gV kw_1055 kw_1052 kw_1053 kw_1054 kw_102) rfl rfl rfl (by decide +kernel) ⟨Nat.le_of_ble_eq_true rfl, Nat.le_of_ble_eq_true rfl⟩) rfl hl.1 rfl (Nat.le_of_ble_eq_true rfl) dX9_walk_4 ⟨Nat.le_of_ble_eq_true rfl, Nat.le_of_ble_eq_true rfl⟩) hW (fun r_4 L_2 h_3 H locs p_5 hW => ?_)
  obtain ⟨⟨w_7, fw_7, hr_6⟩, hT, hs⟩ := p_5
  have hT : hx_T T_tb L_2 h_3 := hT
  have hs : hx_S T_tb [(8, 0), (8, 1), (39, 0), (41, 0)] L h L_2 h_3 := hs
  have f_x_19 := (hs.o gx trivial rfl).2.trans f_x_19
  have f_qw_3 := (hs.o gqw trivial rfl).2.trans f_qw_3
  have hM := hM.tr (hs.mono (by decide))
  have gx := gx.S hs
  have gqw := gqw.S hs
  have gql := gql.S hs
  have fw_7 : h_3.2.1 qw 0 = w_7 := fw_7
  have bw_7 := hT.gi gqw tt_8 (k := 0) rfl
  rw [fw_7] at bw_7
  have bw_7 : 0 ≤ w_7.toInt ∧ w_7.toInt ≤ 8 := bw_7
  exact hx_reti hx hb hr hlk hW ⟨⟨w_7, fw_7, hr_6⟩, hT, hM⟩ dX9_walk_7
