theorem dX10_list_0 : decode cX10_list 0 = .ok (.aload_n 0, 1) := by decide +kernel
theorem dX10_list_1 : decode cX10_list 1 = .ok (.iload_n 1, 1) := by decide +kernel
theorem dX10_list_2 : decode cX10_list 2 = .ok (.invokevirtual 370, 3) := by decide +kernel
theorem dX10_list_5 : decode cX10_list 5 = .ok (.ifCond .eq 32, 3) := by decide +kernel
theorem dX10_list_8 : decode cX10_list 8 = .ok (.aload_n 0, 1) := by decide +kernel
theorem dX10_list_9 : decode cX10_list 9 = .ok (.getfield 108, 3) := by decide +kernel
theorem dX10_list_12 : decode cX10_list 12 = .ok (.iload_n 1, 1) := by decide +kernel
theorem dX10_list_13 : decode cX10_list 13 = .ok (.iaload, 1) := by decide +kernel
theorem dX10_list_14 : decode cX10_list 14 = .ok (.iconst (-1), 1) := by decide +kernel
theorem dX10_list_15 : decode cX10_list 15 = .ok (.if_icmp .ne 22, 3) := by decide +kernel
theorem dX10_list_18 : decode cX10_list 18 = .ok (.aload_n 0, 1) := by decide +kernel
theorem dX10_list_19 : decode cX10_list 19 = .ok (.getfield 111, 3) := by decide +kernel
theorem dX10_list_22 : decode cX10_list 22 = .ok (.iload_n 1, 1) := by decide +kernel
theorem dX10_list_23 : decode cX10_list 23 = .ok (.iaload, 1) := by decide +kernel
theorem dX10_list_24 : decode cX10_list 24 = .ok (.iconst (-1), 1) := by decide +kernel
theorem dX10_list_25 : decode cX10_list 25 = .ok (.if_icmp .ne 12, 3) := by decide +kernel
theorem dX10_list_28 : decode cX10_list 28 = .ok (.aload_n 0, 1) := by decide +kernel
theorem dX10_list_29 : decode cX10_list 29 = .ok (.getfield 468, 3) := by decide +kernel
theorem dX10_list_32 : decode cX10_list 32 = .ok (.bipush 8, 2) := by decide +kernel
theorem dX10_list_34 : decode cX10_list 34 = .ok (.if_icmp .ne 5, 3) := by decide +kernel
theorem dX10_list_37 : decode cX10_list 37 = .ok (.iconst (-1), 1) := by decide +kernel
theorem dX10_list_38 : decode cX10_list 38 = .ok (.ireturn, 1) := by decide +kernel
theorem dX10_list_39 : decode cX10_list 39 = .ok (.iconst 0, 1) := by decide +kernel
theorem dX10_list_40 : decode cX10_list 40 = .ok (.istore_n 2, 1) := by decide +kernel
theorem dX10_list_41 : decode cX10_list 41 = .ok (.iload_n 2, 1) := by decide +kernel
theorem dX10_list_42 : decode cX10_list 42 = .ok (.aload_n 0, 1) := by decide +kernel
theorem dX10_list_43 : decode cX10_list 43 = .ok (.getfield 468, 3) := by decide +kernel
theorem dX10_list_46 : decode cX10_list 46 = .ok (.if_icmp .ge 21, 3) := by decide +kernel
theorem dX10_list_49 : decode cX10_list 49 = .ok (.aload_n 0, 1) := by decide +kernel
theorem dX10_list_50 : decode cX10_list 50 = .ok (.getfield 201, 3) := by decide +kernel
theorem dX10_list_53 : decode cX10_list 53 = .ok (.iload_n 2, 1) := by decide +kernel
theorem dX10_list_54 : decode cX10_list 54 = .ok (.iaload, 1) := by decide +kernel
theorem dX10_list_55 : decode cX10_list 55 = .ok (.iload_n 1, 1) := by decide +kernel
theorem dX10_list_56 : decode cX10_list 56 = .ok (.if_icmp .ne 5, 3) := by decide +kernel
theorem dX10_list_59 : decode cX10_list 59 = .ok (.iconst (-1), 1) := by decide +kernel
theorem dX10_list_60 : decode cX10_list 60 = .ok (.ireturn, 1) := by decide +kernel
theorem dX10_list_61 : decode cX10_list 61 = .ok (.iinc 2 1, 3) := by decide +kernel
theorem dX10_list_64 : decode cX10_list 64 = .ok (.goto (-23), 3) := by decide +kernel
theorem dX10_list_67 : decode cX10_list 67 = .ok (.aload_n 0, 1) := by decide +kernel
theorem dX10_list_68 : decode cX10_list 68 = .ok (.getfield 468, 3) := by decide +kernel
theorem dX10_list_71 : decode cX10_list 71 = .ok (.istore_n 2, 1) := by decide +kernel
theorem dX10_list_72 : decode cX10_list 72 = .ok (.iload_n 2, 1) := by decide +kernel
theorem dX10_list_73 : decode cX10_list 73 = .ok (.ifCond .le 35, 3) := by decide +kernel
theorem dX10_list_76 : decode cX10_list 76 = .ok (.aload_n 0, 1) := by decide +kernel
theorem dX10_list_77 : decode cX10_list 77 = .ok (.getfield 201, 3) := by decide +kernel
theorem dX10_list_80 : decode cX10_list 80 = .ok (.iload_n 2, 1) := by decide +kernel
theorem dX10_list_81 : decode cX10_list 81 = .ok (.iconst 1, 1) := by decide +kernel
theorem dX10_list_82 : decode cX10_list 82 = .ok (.isub, 1) := by decide +kernel
theorem dX10_list_83 : decode cX10_list 83 = .ok (.iaload, 1) := by decide +kernel
theorem dX10_list_84 : decode cX10_list 84 = .ok (.iload_n 1, 1) := by decide +kernel
theorem dX10_list_85 : decode cX10_list 85 = .ok (.if_icmp .le 23, 3) := by decide +kernel
theorem dX10_list_88 : decode cX10_list 88 = .ok (.aload_n 0, 1) := by decide +kernel
theorem dX10_list_89 : decode cX10_list 89 = .ok (.getfield 201, 3) := by decide +kernel
theorem dX10_list_92 : decode cX10_list 92 = .ok (.iload_n 2, 1) := by decide +kernel
theorem dX10_list_93 : decode cX10_list 93 = .ok (.aload_n 0, 1) := by decide +kernel
theorem dX10_list_94 : decode cX10_list 94 = .ok (.getfield 201, 3) := by decide +kernel
theorem dX10_list_97 : decode cX10_list 97 = .ok (.iload_n 2, 1) := by decide +kernel
theorem dX10_list_98 : decode cX10_list 98 = .ok (.iconst 1, 1) := by decide +kernel
theorem dX10_list_99 : decode cX10_list 99 = .ok (.isub, 1) := by decide +kernel
theorem dX10_list_100 : decode cX10_list 100 = .ok (.iaload, 1) := by decide +kernel
theorem dX10_list_101 : decode cX10_list 101 = .ok (.iastore, 1) := by decide +kernel
theorem dX10_list_102 : decode cX10_list 102 = .ok (.iinc 2 (-1), 3) := by decide +kernel
theorem dX10_list_105 : decode cX10_list 105 = .ok (.goto (-33), 3) := by decide +kernel
theorem dX10_list_108 : decode cX10_list 108 = .ok (.aload_n 0, 1) := by decide +kernel
theorem dX10_list_109 : decode cX10_list 109 = .ok (.getfield 201, 3) := by decide +kernel
theorem dX10_list_112 : decode cX10_list 112 = .ok (.iload_n 2, 1) := by decide +kernel
theorem dX10_list_113 : decode cX10_list 113 = .ok (.iload_n 1, 1) := by decide +kernel
theorem dX10_list_114 : decode cX10_list 114 = .ok (.iastore, 1) := by decide +kernel
theorem dX10_list_115 : decode cX10_list 115 = .ok (.aload_n 0, 1) := by decide +kernel
theorem dX10_list_116 : decode cX10_list 116 = .ok (.dup, 1) := by decide +kernel
theorem dX10_list_117 : decode cX10_list 117 = .ok (.getfield 468, 3) := by decide +kernel
theorem dX10_list_120 : decode cX10_list 120 = .ok (.iconst 1, 1) := by decide +kernel
theorem dX10_list_121 : decode cX10_list 121 = .ok (.iadd, 1) := by decide +kernel
theorem dX10_list_122 : decode cX10_list 122 = .ok (.putfield 468, 3) := by decide +kernel
theorem dX10_list_125 : decode cX10_list 125 = .ok (.aload_n 0, 1) := by decide +kernel
theorem dX10_list_126 : decode cX10_list 126 = .ok (.getfield 468, 3) := by decide +kernel
theorem dX10_list_129 : decode cX10_list 129 = .ok (.ireturn, 1) := by decide +kernel
set_option maxHeartbeats 4000000 in
set_option maxRecDepth 100000 in
theorem t_X10_list (l : Launch) (dC : Nat → ClassId) (dI : Nat → Nat → Nat) (dA : Nat → ClassId) (L : List Nat) (h : hx_h) (sz : Nat) (x : Nat) (i1 : Int32) (hT : hx_T T_tb L h) (gx : hx_g L h x 10)  : Met l yX10_list (Cond.code yX10_list cX10_list 3 (some .int) :: hx_all) ({ frames := 2, cells := 0, slots := 0, locals := 43 }) (va_Pc [.ref x, .int i1] (hx_B T_tb (P_ty dA) (dC, dI) vwCl L h sz)) (va_Qi (fun (r : Int32) (u : List Nat × hx_h) => (True) ∧ hx_T T_tb u.1 u.2 ∧ hx_S T_tb [(10, 90), (112, 0)] L h u.1 u.2) (hx_E T_tb (P_ty dA) (dC, dI) vwCl (hx_A L sz)) (hx_A L sz)) 0 0 (hx_A L sz) := by
  refine hx_met (lv := [(0, .ref x), (1, .int i1)]) (by decide +kernel) rfl (Nat.le_of_ble_eq_true rfl) rfl ?_
  intro p e s m below meth c hx hb hml hr hlk hts0 hown hin hsz hW ls hl
  have hts : ∀ w ∈ hx_all, w.before _ s = true := fun w hw => hts0 w (List.mem_cons_of_mem _ hw)
  have hown : s.vm.findClass "SmallCourtModel" = some m.cls := hown
  have hM : hx_S T_tb [(10, 90), (112, 0)] L h L h := hx_S.rf
  refine lv_aload_n hx hb dX10_list_0 rfl (lv_at hl 0 rfl) ?_
  refine lv_iload_n hx hb dX10_list_1 rfl (lv_at hl 1 rfl) ?_
  obtain ⟨fv_1, efv_1⟩ : ∃ y : Int32, y = h.2.1 x 36 := ⟨_, rfl⟩
  have bfv_1 := hT.gi gx tt_10 (k := 36) rfl
  rw [← efv_1] at bfv_1
  have bfv_1 : 0 ≤ fv_1.toInt ∧ fv_1.toInt ≤ 100 := bfv_1
  have ffv_1 := efv_1.symm
  refine hx_goi (hx_runV (As := [.int i1]) (rest := []) ⟨hx, hb, hml, hown, hts⟩ hW gx tt_10 (T := TX10) (N := 98) rfl (t_X10_isClaim l dC dI dA L h s.heap.size x i1 hT gx fv_1 ffv_1) (cwV 1 hts (hx_gV kw_1597 kw_1594 kw_1596 kw_73 kw_103) rfl rfl rfl (by decide +kernel) ⟨Nat.le_of_ble_eq_true rfl, Nat.le_of_ble_eq_true rfl⟩) rfl hl.1 rfl (Nat.le_of_ble_eq_true rfl) dX10_list_2 ⟨Nat.le_of_ble_eq_true rfl, Nat.le_of_ble_eq_true rfl⟩) hW (fun r_4 L_2 h_3 H locs p_5 hW => ?_)
  obtain ⟨hr_6, hT, hs⟩ := p_5
  have hT : hx_T T_tb L_2 h_3 := hT
  have hs : hx_S T_tb [] L h L_2 h_3 := hs
  have ffv_1 := (hs.o gx trivial rfl).1.trans ffv_1
  have hM := hM.tr (hs.mono (by decide))
  have gx := gx.S hs
  refine hb_if_eq (zx := r_4.toInt) (tgt := 37) hx hb rfl dX10_list_5 (by decide) (fun c_7 => ?_) (fun c_7 => ?_)
  · skip
    refine lv_iconst (v := -1) hx hb dX10_list_37 (by decide) ?_
    exact hx_reti hx hb hr hlk hW ⟨trivial, hT, hM⟩ dX10_list_38
  · skip
    refine lv_aload_n hx hb dX10_list_8 rfl (lv_at hl 0 rfl) ?_
    refine hx_getn hx hb hts hC_10 hown hW hT gx tt_10 46 (by decide) rfl kw_1189 ⟨rfl, rfl, rfl⟩ dX10_list_9 (fun q_8 fq_8 gq_8 => ?_)
    refine lv_iload_n hx hb dX10_list_12 rfl (lv_at hl 1 rfl) ?_
    refine hx_iald hx hb hW hT gq_8 tt_81 rfl ⟨by omega, by omega⟩ dX10_list_13 (fun x_9 ex_9 lx_9 ux_9 => ?_)
    refine lv_iconst (v := -1) hx hb dX10_list_14 (by decide) ?_
    refine hb_icmp_ne (zx := x_9.toInt) (zy := (-1)) (tgt := 37) hx hb rfl (by decide) dX10_list_15 (by decide) (fun c_10 => ?_) (fun c_10 => ?_)
    · skip
      refine lv_iconst (v := -1) hx hb dX10_list_37 (by decide) ?_
      exact hx_reti hx hb hr hlk hW ⟨trivial, hT, hM⟩ dX10_list_38
    · skip
      refine lv_aload_n hx hb dX10_list_18 rfl (lv_at hl 0 rfl) ?_
      refine hx_getn hx hb hts hC_10 hown hW hT gx tt_10 47 (by decide) rfl kw_1190 ⟨rfl, rfl, rfl⟩ dX10_list_19 (fun q_11 fq_11 gq_11 => ?_)
      refine lv_iload_n hx hb dX10_list_22 rfl (lv_at hl 1 rfl) ?_
      refine hx_iald hx hb hW hT gq_11 tt_82 rfl ⟨by omega, by omega⟩ dX10_list_23 (fun x_12 ex_12 lx_12 ux_12 => ?_)
      refine lv_iconst (v := -1) hx hb dX10_list_24 (by decide) ?_
      refine hb_icmp_ne (zx := x_12.toInt) (zy := (-1)) (tgt := 37) hx hb rfl (by decide) dX10_list_25 (by decide) (fun c_13 => ?_) (fun c_13 => ?_)
      · skip
        refine lv_iconst (v := -1) hx hb dX10_list_37 (by decide) ?_
        exact hx_reti hx hb hr hlk hW ⟨trivial, hT, hM⟩ dX10_list_38
      · skip
        refine lv_aload_n hx hb dX10_list_28 rfl (lv_at hl 0 rfl) ?_
        refine hx_geti hx hb hts hC_10 hown hW hT gx tt_10 90 (by decide) rfl kw_1233 ⟨rfl, rfl, rfl⟩ dX10_list_29 (fun x_14 ex_14 lx_14 ux_14 => ?_)
        have fx_14 := ex_14.symm
        refine lv_bipush (v := 8) hx hb dX10_list_32 (by decide) ?_
        refine hb_icmp_ne (zx := x_14.toInt) (zy := 8) (tgt := 39) hx hb rfl (by decide) dX10_list_34 (by decide) (fun c_15 => ?_) (fun c_15 => ?_)
        · skip
          refine lv_iconst (v := 0) hx hb dX10_list_39 (by decide) ?_
          refine lv_istore_n (lv' := [(2, .int (0 : Int32)), (0, .ref x), (1, .int i1)]) hx hb dX10_list_40 rfl hl (by decide) rfl (fun ls hl => ?_)
          have loop41 : ∀ (n41 : Nat) (iv41_2 : Int32) (H : Heap) (locs : List Loc) (hL1 : List Nat) (hl1 : hx_h), 0 ≤ iv41_2.toInt → iv41_2.toInt ≤ 8 → ∀ (ls : Array Slot), 8 - iv41_2.toInt < (n41 : Int) → hx_W T_tb (P_ty dA) (dC, dI) vwCl (hx_A L sz) s.heap hL1 hl1 s H locs → hx_T T_tb hL1 hl1 → hx_S T_tb [(10, 90), (112, 0)] L h hL1 hl1 → hl1.2.1 x 36 = fv_1 → hl1.2.2 x 46 = some q_8 → hl1.2.2 x 47 = some q_11 → hl1.2.1 x 90 = x_14 → hx_g hL1 hl1 x 10 → hx_g hL1 hl1 q_8 81 → hx_g hL1 hl1 q_11 82 → lv_has ls 3 [(2, .int iv41_2), (0, .ref x), (1, .int i1)] → W p l e ({ frames := 2, cells := 0, slots := 0, locals := 43 }) s m ([.ref x, .int i1] : List Value).toArray below meth c H locs 0 0 (MQ below (va_Qi (fun (r : Int32) (u : List Nat × hx_h) => (True) ∧ hx_T T_tb u.1 u.2 ∧ hx_S T_tb [(10, 90), (112, 0)] L h u.1 u.2) (hx_E T_tb (P_ty dA) (dC, dI) vwCl (hx_A L sz)) (hx_A L sz)) ([.ref x, .int i1] : List Value).toArray s 0 0 (hx_A L sz)) (F0 m 41 ls []) := by
            intro n41
            induction n41 with
            | zero => intro iv41_2 H locs hL1 hl1 bliv41_2 buiv41_2  ls hn41; exfalso; omega
            | succ n41 ih41 =>
              intro iv41_2 H locs hL1 hl1 bliv41_2 buiv41_2  ls hn41 hW hT hM ffv_1 fq_8 fq_11 fx_14 gx gq_8 gq_11 hl
              refine lv_iload_n hx hb dX10_list_41 rfl (lv_at hl 0 rfl) ?_
              refine lv_aload_n hx hb dX10_list_42 rfl (lv_at hl 1 rfl) ?_
              refine hk_geti hx hb hts hC_10 hown hW gx tt_10 90 (by decide) rfl kw_1233 ⟨rfl, rfl, rfl⟩ fx_14 dX10_list_43 ?_
              refine hb_icmp_ge (zx := iv41_2.toInt) (zy := x_14.toInt) (tgt := 67) hx hb rfl rfl dX10_list_46 (by decide) (fun c_16 => ?_) (fun c_16 => ?_)
              · skip
                refine lv_aload_n hx hb dX10_list_67 rfl (lv_at hl 1 rfl) ?_
                refine hk_geti hx hb hts hC_10 hown hW gx tt_10 90 (by decide) rfl kw_1233 ⟨rfl, rfl, rfl⟩ fx_14 dX10_list_68 ?_
                refine lv_istore_n (lv' := [(2, .int x_14), (0, .ref x), (1, .int i1)]) hx hb dX10_list_71 rfl hl (by decide) rfl (fun ls hl => ?_)
                have loop72 : ∀ (n72 : Nat) (iv72_2 : Int32) (H : Heap) (locs : List Loc) (hL1 : List Nat) (hl1 : hx_h), 0 ≤ iv72_2.toInt → iv72_2.toInt ≤ 8 → (iv72_2.toInt ≤ x_14.toInt) → ∀ (ls : Array Slot), iv72_2.toInt < (n72 : Int) → hx_W T_tb (P_ty dA) (dC, dI) vwCl (hx_A L sz) s.heap hL1 hl1 s H locs → hx_T T_tb hL1 hl1 → hx_S T_tb [(10, 90), (112, 0)] L h hL1 hl1 → hl1.2.1 x 36 = fv_1 → hl1.2.2 x 46 = some q_8 → hl1.2.2 x 47 = some q_11 → hl1.2.1 x 90 = x_14 → hx_g hL1 hl1 x 10 → hx_g hL1 hl1 q_8 81 → hx_g hL1 hl1 q_11 82 → lv_has ls 3 [(2, .int iv72_2), (0, .ref x), (1, .int i1)] → W p l e ({ frames := 2, cells := 0, slots := 0, locals := 43 }) s m ([.ref x, .int i1] : List Value).toArray below meth c H locs 0 0 (MQ below (va_Qi (fun (r : Int32) (u : List Nat × hx_h) => (True) ∧ hx_T T_tb u.1 u.2 ∧ hx_S T_tb [(10, 90), (112, 0)] L h u.1 u.2) (hx_E T_tb (P_ty dA) (dC, dI) vwCl (hx_A L sz)) (hx_A L sz)) ([.ref x, .int i1] : List Value).toArray s 0 0 (hx_A L sz)) (F0 m 72 ls []) := by
                  intro n72
                  induction n72 with
                  | zero => intro iv72_2 H locs hL1 hl1 bliv72_2 buiv72_2 vi72_0 ls hn72; exfalso; omega
                  | succ n72 ih72 =>
                    intro iv72_2 H locs hL1 hl1 bliv72_2 buiv72_2 vi72_0 ls hn72 hW hT hM ffv_1 fq_8 fq_11 fx_14 gx gq_8 gq_11 hl
                    refine lv_iload_n hx hb dX10_list_72 rfl (lv_at hl 0 rfl) ?_
                    refine hb_if_le (zx := iv72_2.toInt) (tgt := 108) hx hb rfl dX10_list_73 (by decide) (fun c_17 => ?_) (fun c_17 => ?_)
                    · skip
                      refine lv_aload_n hx hb dX10_list_108 rfl (lv_at hl 1 rfl) ?_
                      refine hx_getn hx hb hts hC_10 hown hW hT gx tt_10 91 (by decide) rfl kw_1234 ⟨rfl, rfl, rfl⟩ dX10_list_109 (fun q_18 fq_18 gq_18 => ?_)
                      refine lv_iload_n hx hb dX10_list_112 rfl (lv_at hl 0 rfl) ?_
                      refine lv_iload_n hx hb dX10_list_113 rfl (lv_at hl 2 rfl) ?_
                      refine hx_iast hx hb hW hT (hx_S.rf (M := [(112, 0)])) gq_18 tt_112 rfl ⟨by omega, by omega⟩ rfl ⟨by omega, by omega⟩ (List.mem_singleton.mpr rfl) dX10_list_114 (fun H locs h_19 eh_19 hW hT hs => ?_)
                      have ffv_1 := (hs.o gx trivial rfl).1.trans ffv_1
                      have fq_8 := (hs.o gx trivial rfl).2.trans fq_8
                      have fq_11 := (hs.o gx trivial rfl).2.trans fq_11
                      have fx_14 := (hs.o gx trivial rfl).1.trans fx_14
                      have fq_18 := (hs.o gx trivial rfl).2.trans fq_18
                      have hM := hM.tr (hs.mono (by decide))
                      have gx := gx.S hs
                      have gq_8 := gq_8.S hs
                      have gq_11 := gq_11.S hs
                      have gq_18 := gq_18.S hs
                      refine lv_aload_n hx hb dX10_list_115 rfl (lv_at hl 1 rfl) ?_
                      refine lv_dup hx hb dX10_list_116 rfl ?_
                      refine hk_geti hx hb hts hC_10 hown hW gx tt_10 90 (by decide) rfl kw_1233 ⟨rfl, rfl, rfl⟩ fx_14 dX10_list_117 ?_
                      refine lv_iconst (v := 1) hx hb dX10_list_120 (by decide) ?_
                      refine lv_iadd hx hb dX10_list_121 ?_
                      have rg_20 := i32_r x_14
                      refine lv_topi (fun x_21 ex_21 => ?_)
                      have zx_21 : x_21.toInt = x_14.toInt + 1 := by rw [ex_21]; exact i32_add rfl (by decide) (by omega) (by omega)
                      refine hx_puti hx hb hts hC_10 hown hW hT (hx_S.rf (M := [(10, 90)])) gx tt_10 90 (by decide) rfl kw_1233 ⟨rfl, rfl, rfl⟩ rfl (x := x_21) ⟨by omega, by omega⟩ rfl rfl rfl (List.mem_singleton.mpr rfl) dX10_list_122 (fun H locs h_22 eh_22 hW hT hs => ?_)
                      have ffv_1 := (hs.o gx trivial rfl).1.trans ffv_1
                      have fq_8 := (hs.o gx trivial rfl).2.trans fq_8
                      have fq_11 := (hs.o gx trivial rfl).2.trans fq_11
                      have fq_18 := (hs.o gx trivial rfl).2.trans fq_18
                      have hM := hM.tr (hs.mono (by decide))
                      have gx := gx.S hs
                      have gq_8 := gq_8.S hs
                      have gq_11 := gq_11.S hs
                      have gq_18 := gq_18.S hs
                      have f_23 : h_22.2.1 x 90 = x_21 := by rw [eh_22]; exact hx_pi_at _ _ _ _
                      refine lv_aload_n hx hb dX10_list_125 rfl (lv_at hl 1 rfl) ?_
                      refine hk_geti hx hb hts hC_10 hown hW gx tt_10 90 (by decide) rfl kw_1233 ⟨rfl, rfl, rfl⟩ f_23 dX10_list_126 ?_
                      exact hx_reti hx hb hr hlk hW ⟨trivial, hT, hM⟩ dX10_list_129
                    · skip
                      refine lv_aload_n hx hb dX10_list_76 rfl (lv_at hl 1 rfl) ?_
                      refine hx_getn hx hb hts hC_10 hown hW hT gx tt_10 91 (by decide) rfl kw_1234 ⟨rfl, rfl, rfl⟩ dX10_list_77 (fun q_24 fq_24 gq_24 => ?_)
                      refine lv_iload_n hx hb dX10_list_80 rfl (lv_at hl 0 rfl) ?_
                      refine lv_iconst (v := 1) hx hb dX10_list_81 (by decide) ?_
                      refine lv_isub hx hb dX10_list_82 ?_
                      have rg_25 := i32_r iv72_2
                      refine lv_topi (fun x_26 ex_26 => ?_)
                      have zx_26 : x_26.toInt = iv72_2.toInt - 1 := by rw [ex_26]; exact i32_sub rfl (by decide) (by omega) (by omega)
                      refine hx_iald hx hb hW hT gq_24 tt_112 rfl ⟨by omega, by omega⟩ dX10_list_83 (fun x_27 ex_27 lx_27 ux_27 => ?_)
                      refine lv_iload_n hx hb dX10_list_84 rfl (lv_at hl 2 rfl) ?_
                      refine hb_icmp_le (zx := x_27.toInt) (zy := i1.toInt) (tgt := 108) hx hb rfl rfl dX10_list_85 (by decide) (fun c_28 => ?_) (fun c_28 => ?_)
                      · skip
                        refine lv_aload_n hx hb dX10_list_108 rfl (lv_at hl 1 rfl) ?_
                        refine hk_getr hx hb hts hC_10 hown hW gx tt_10 91 (by decide) rfl kw_1234 ⟨rfl, rfl, rfl⟩ fq_24 dX10_list_109 ?_
                        refine lv_iload_n hx hb dX10_list_112 rfl (lv_at hl 0 rfl) ?_
                        refine lv_iload_n hx hb dX10_list_113 rfl (lv_at hl 2 rfl) ?_
                        refine hx_iast hx hb hW hT (hx_S.rf (M := [(112, 0)])) gq_24 tt_112 rfl ⟨by omega, by omega⟩ rfl ⟨by omega, by omega⟩ (List.mem_singleton.mpr rfl) dX10_list_114 (fun H locs h_29 eh_29 hW hT hs => ?_)
                        have ffv_1 := (hs.o gx trivial rfl).1.trans ffv_1
                        have fq_8 := (hs.o gx trivial rfl).2.trans fq_8
                        have fq_11 := (hs.o gx trivial rfl).2.trans fq_11
                        have fx_14 := (hs.o gx trivial rfl).1.trans fx_14
                        have fq_24 := (hs.o gx trivial rfl).2.trans fq_24
                        have hM := hM.tr (hs.mono (by decide))
                        have gx := gx.S hs
                        have gq_8 := gq_8.S hs
                        have gq_11 := gq_11.S hs
                        have gq_24 := gq_24.S hs
                        refine lv_aload_n hx hb dX10_list_115 rfl (lv_at hl 1 rfl) ?_
                        refine lv_dup hx hb dX10_list_116 rfl ?_
                        refine hk_geti hx hb hts hC_10 hown hW gx tt_10 90 (by decide) rfl kw_1233 ⟨rfl, rfl, rfl⟩ fx_14 dX10_list_117 ?_
                        refine lv_iconst (v := 1) hx hb dX10_list_120 (by decide) ?_
                        refine lv_iadd hx hb dX10_list_121 ?_
                        have rg_30 := i32_r x_14
                        refine lv_topi (fun x_31 ex_31 => ?_)
                        have zx_31 : x_31.toInt = x_14.toInt + 1 := by rw [ex_31]; exact i32_add rfl (by decide) (by omega) (by omega)
                        refine hx_puti hx hb hts hC_10 hown hW hT (hx_S.rf (M := [(10, 90)])) gx tt_10 90 (by decide) rfl kw_1233 ⟨rfl, rfl, rfl⟩ rfl (x := x_31) ⟨by omega, by omega⟩ rfl rfl rfl (List.mem_singleton.mpr rfl) dX10_list_122 (fun H locs h_32 eh_32 hW hT hs => ?_)
                        have ffv_1 := (hs.o gx trivial rfl).1.trans ffv_1
                        have fq_8 := (hs.o gx trivial rfl).2.trans fq_8
                        have fq_11 := (hs.o gx trivial rfl).2.trans fq_11
                        have fq_24 := (hs.o gx trivial rfl).2.trans fq_24
                        have hM := hM.tr (hs.mono (by decide))
                        have gx := gx.S hs
                        have gq_8 := gq_8.S hs
                        have gq_11 := gq_11.S hs
                        have gq_24 := gq_24.S hs
                        have f_33 : h_32.2.1 x 90 = x_31 := by rw [eh_32]; exact hx_pi_at _ _ _ _
                        refine lv_aload_n hx hb dX10_list_125 rfl (lv_at hl 1 rfl) ?_
                        refine hk_geti hx hb hts hC_10 hown hW gx tt_10 90 (by decide) rfl kw_1233 ⟨rfl, rfl, rfl⟩ f_33 dX10_list_126 ?_
                        exact hx_reti hx hb hr hlk hW ⟨trivial, hT, hM⟩ dX10_list_129
                      · skip
                        refine lv_aload_n hx hb dX10_list_88 rfl (lv_at hl 1 rfl) ?_
                        refine hk_getr hx hb hts hC_10 hown hW gx tt_10 91 (by decide) rfl kw_1234 ⟨rfl, rfl, rfl⟩ fq_24 dX10_list_89 ?_
                        refine lv_iload_n hx hb dX10_list_92 rfl (lv_at hl 0 rfl) ?_
                        refine lv_aload_n hx hb dX10_list_93 rfl (lv_at hl 1 rfl) ?_
                        refine hk_getr hx hb hts hC_10 hown hW gx tt_10 91 (by decide) rfl kw_1234 ⟨rfl, rfl, rfl⟩ fq_24 dX10_list_94 ?_
                        refine lv_iload_n hx hb dX10_list_97 rfl (lv_at hl 0 rfl) ?_
                        refine lv_iconst (v := 1) hx hb dX10_list_98 (by decide) ?_
                        refine lv_isub hx hb dX10_list_99 ?_
                        refine lv_topi (fun x_34 ex_34 => ?_)
                        have zx_34 : x_34.toInt = iv72_2.toInt - 1 := by rw [ex_34]; exact i32_sub rfl (by decide) (by omega) (by omega)
                        refine hx_iald hx hb hW hT gq_24 tt_112 rfl ⟨by omega, by omega⟩ dX10_list_100 (fun x_35 ex_35 lx_35 ux_35 => ?_)
                        refine hx_iast hx hb hW hT (hx_S.rf (M := [(112, 0)])) gq_24 tt_112 rfl ⟨by omega, by omega⟩ rfl ⟨by omega, by omega⟩ (List.mem_singleton.mpr rfl) dX10_list_101 (fun H locs h_36 eh_36 hW hT hs => ?_)
                        have ffv_1 := (hs.o gx trivial rfl).1.trans ffv_1
                        have fq_8 := (hs.o gx trivial rfl).2.trans fq_8
                        have fq_11 := (hs.o gx trivial rfl).2.trans fq_11
                        have fx_14 := (hs.o gx trivial rfl).1.trans fx_14
                        have fq_24 := (hs.o gx trivial rfl).2.trans fq_24
                        have hM := hM.tr (hs.mono (by decide))
                        have gx := gx.S hs
                        have gq_8 := gq_8.S hs
                        have gq_11 := gq_11.S hs
                        have gq_24 := gq_24.S hs
                        obtain ⟨x_37, ex_37⟩ : ∃ y : Int32, y = iv72_2 + Int32.ofInt (-1) := ⟨_, rfl⟩
                        have zx_37 : x_37.toInt = iv72_2.toInt + (-1) := by rw [ex_37]; exact i32_add rfl (by decide) (by omega) (by omega)
                        refine lv_iinc (v := x_37) (lv' := [(2, .int x_37), (0, .ref x), (1, .int i1)]) hx hb dX10_list_102 hl (k := 0) rfl ex_37.symm (by decide) rfl (fun ls hl => ?_)
                        refine lv_goto (tgt := 72) hx hb dX10_list_105 (by decide) ?_
                        exact ih72 x_37 _ _ hL1 h_36 (by omega) (by omega) (by omega) ls (by omega) hW hT hM ffv_1 fq_8 fq_11 fx_14 gx gq_8 gq_11 (lv_sub hl [0, 1, 2] rfl)
                exact loop72 9 x_14 _ _ hL1 hl1 (by omega) (by omega) (by omega) ls (by omega) hW hT hM ffv_1 fq_8 fq_11 fx_14 gx gq_8 gq_11 hl
              · skip
                refine lv_aload_n hx hb dX10_list_49 rfl (lv_at hl 1 rfl) ?_
                refine hx_getn hx hb hts hC_10 hown hW hT gx tt_10 91 (by decide) rfl kw_1234 ⟨rfl, rfl, rfl⟩ dX10_list_50 (fun q_38 fq_38 gq_38 => ?_)
                refine lv_iload_n hx hb dX10_list_53 rfl (lv_at hl 0 rfl) ?_
                refine hx_iald hx hb hW hT gq_38 tt_112 rfl ⟨by omega, by omega⟩ dX10_list_54 (fun x_39 ex_39 lx_39 ux_39 => ?_)
                refine lv_iload_n hx hb dX10_list_55 rfl (lv_at hl 2 rfl) ?_
                refine hb_icmp_ne (zx := x_39.toInt) (zy := i1.toInt) (tgt := 61) hx hb rfl rfl dX10_list_56 (by decide) (fun c_40 => ?_) (fun c_40 => ?_)
                · skip
                  obtain ⟨x_41, ex_41⟩ : ∃ y : Int32, y = iv41_2 + Int32.ofInt 1 := ⟨_, rfl⟩
                  have rg_42 := i32_r iv41_2
                  have zx_41 : x_41.toInt = iv41_2.toInt + (1) := by rw [ex_41]; exact i32_add rfl (by decide) (by omega) (by omega)
                  refine lv_iinc (v := x_41) (lv' := [(2, .int x_41), (0, .ref x), (1, .int i1)]) hx hb dX10_list_61 hl (k := 0) rfl ex_41.symm (by decide) rfl (fun ls hl => ?_)
                  refine lv_goto (tgt := 41) hx hb dX10_list_64 (by decide) ?_
                  exact ih41 x_41 _ _ hL1 hl1 (by omega) (by omega)  ls (by omega) hW hT hM ffv_1 fq_8 fq_11 fx_14 gx gq_8 gq_11 (lv_sub hl [0, 1, 2] rfl)
                · skip
                  refine lv_iconst (v := -1) hx hb dX10_list_59 (by decide) ?_
                  exact hx_reti hx hb hr hlk hW ⟨trivial, hT, hM⟩ dX10_list_60
          have zk_0 : (0 : Int32).toInt = 0 := by decide
          exact loop41 9 (0 : Int32) _ _ L_2 h_3 (by decide) (by decide)  ls (by omega) hW hT hM ffv_1 fq_8 fq_11 fx_14 gx gq_8 gq_11 hl
        · skip
          refine lv_iconst (v := -1) hx hb dX10_list_37 (by decide) ?_
          exact hx_reti hx hb hr hlk hW ⟨trivial, hT, hM⟩ dX10_list_38

theorem dX10_stepsBetween_0 : decode cX10_stepsBetween 0 = .ok (.iload_n 0, 1) := by decide +kernel
theorem dX10_stepsBetween_1 : decode cX10_stepsBetween 1 = .ok (.iload_n 2, 1) := by decide +kernel
theorem dX10_stepsBetween_2 : decode cX10_stepsBetween 2 = .ok (.if_icmp .ge 9, 3) := by decide +kernel
theorem dX10_stepsBetween_5 : decode cX10_stepsBetween 5 = .ok (.iload_n 2, 1) := by decide +kernel
theorem dX10_stepsBetween_6 : decode cX10_stepsBetween 6 = .ok (.iload_n 0, 1) := by decide +kernel
theorem dX10_stepsBetween_7 : decode cX10_stepsBetween 7 = .ok (.isub, 1) := by decide +kernel
theorem dX10_stepsBetween_8 : decode cX10_stepsBetween 8 = .ok (.goto 6, 3) := by decide +kernel
theorem dX10_stepsBetween_11 : decode cX10_stepsBetween 11 = .ok (.iload_n 0, 1) := by decide +kernel
theorem dX10_stepsBetween_12 : decode cX10_stepsBetween 12 = .ok (.iload_n 2, 1) := by decide +kernel
theorem dX10_stepsBetween_13 : decode cX10_stepsBetween 13 = .ok (.isub, 1) := by decide +kernel
theorem dX10_stepsBetween_14 : decode cX10_stepsBetween 14 = .ok (.iload_n 1, 1) := by decide +kernel
theorem dX10_stepsBetween_15 : decode cX10_stepsBetween 15 = .ok (.iload_n 3, 1) := by decide +kernel
theorem dX10_stepsBetween_16 : decode cX10_stepsBetween 16 = .ok (.if_icmp .ge 9, 3) := by decide +kernel
theorem dX10_stepsBetween_19 : decode cX10_stepsBetween 19 = .ok (.iload_n 3, 1) := by decide +kernel
theorem dX10_stepsBetween_20 : decode cX10_stepsBetween 20 = .ok (.iload_n 1, 1) := by decide +kernel
theorem dX10_stepsBetween_21 : decode cX10_stepsBetween 21 = .ok (.isub, 1) := by decide +kernel
theorem dX10_stepsBetween_22 : decode cX10_stepsBetween 22 = .ok (.goto 6, 3) := by decide +kernel
theorem dX10_stepsBetween_25 : decode cX10_stepsBetween 25 = .ok (.iload_n 1, 1) := by decide +kernel
theorem dX10_stepsBetween_26 : decode cX10_stepsBetween 26 = .ok (.iload_n 3, 1) := by decide +kernel
theorem dX10_stepsBetween_27 : decode cX10_stepsBetween 27 = .ok (.isub, 1) := by decide +kernel
theorem dX10_stepsBetween_28 : decode cX10_stepsBetween 28 = .ok (.iadd, 1) := by decide +kernel
theorem dX10_stepsBetween_29 : decode cX10_stepsBetween 29 = .ok (.ireturn, 1) := by decide +kernel
set_option maxHeartbeats 4000000 in
set_option maxRecDepth 100000 in
theorem t_X10_stepsBetween (l : Launch) (dC : Nat → ClassId) (dI : Nat → Nat → Nat) (dA : Nat → ClassId) (L : List Nat) (h : hx_h) (sz : Nat) (i1 : Int32) (i2 : Int32) (i3 : Int32) (i4 : Int32) (hT : hx_T T_tb L h)  (hi1 : 0 ≤ i1.toInt ∧ i1.toInt ≤ 99) (hi2 : 0 ≤ i2.toInt ∧ i2.toInt ≤ 99) (hi3 : 0 ≤ i3.toInt ∧ i3.toInt ≤ 99) (hi4 : 0 ≤ i4.toInt ∧ i4.toInt ≤ 99) : Met l yX10_stepsBetween (Cond.code yX10_stepsBetween cX10_stepsBetween 4 (some .int) :: hx_all) ({ frames := 0, cells := 0, slots := 0, locals := 0 }) (va_Pc [.int i1, .int i2, .int i3, .int i4] (hx_B T_tb (P_ty dA) (dC, dI) vwCl L h sz)) (va_Qi (fun (r : Int32) (u : List Nat × hx_h) => (0 ≤ r.toInt ∧ r.toInt ≤ 198) ∧ hx_T T_tb u.1 u.2 ∧ hx_S T_tb [] L h u.1 u.2) (hx_E T_tb (P_ty dA) (dC, dI) vwCl (hx_A L sz)) (hx_A L sz)) 0 0 (hx_A L sz) := by
  refine hx_met (lv := [(0, .int i1), (1, .int i2), (2, .int i3), (3, .int i4)]) (by decide +kernel) rfl (Nat.le_of_ble_eq_true rfl) rfl ?_
  intro p e s m below meth c hx hb hml hr hlk hts0 hown hin hsz hW ls hl
  have hts : ∀ w ∈ hx_all, w.before _ s = true := fun w hw => hts0 w (List.mem_cons_of_mem _ hw)
  have hown : s.vm.findClass "SmallCourtModel" = some m.cls := hown
  have hM : hx_S T_tb [] L h L h := hx_S.rf
  refine lv_iload_n hx hb dX10_stepsBetween_0 rfl (lv_at hl 0 rfl) ?_
  refine lv_iload_n hx hb dX10_stepsBetween_1 rfl (lv_at hl 2 rfl) ?_
  refine hb_icmp_ge (zx := i1.toInt) (zy := i3.toInt) (tgt := 11) hx hb rfl rfl dX10_stepsBetween_2 (by decide) (fun c_1 => ?_) (fun c_1 => ?_)
  · skip
    refine lv_iload_n hx hb dX10_stepsBetween_11 rfl (lv_at hl 0 rfl) ?_
    refine lv_iload_n hx hb dX10_stepsBetween_12 rfl (lv_at hl 2 rfl) ?_
    refine lv_isub hx hb dX10_stepsBetween_13 ?_
    have rg_2 := i32_r i1
    have rg_3 := i32_r i3
    refine lv_topi (fun x_4 ex_4 => ?_)
    have zx_4 : x_4.toInt = i1.toInt - i3.toInt := by rw [ex_4]; exact i32_sub rfl rfl (by omega) (by omega)
    refine lv_iload_n hx hb dX10_stepsBetween_14 rfl (lv_at hl 1 rfl) ?_
    refine lv_iload_n hx hb dX10_stepsBetween_15 rfl (lv_at hl 3 rfl) ?_
    refine hb_icmp_ge (zx := i2.toInt) (zy := i4.toInt) (tgt := 25) hx hb rfl rfl dX10_stepsBetween_16 (by decide) (fun c_5 => ?_) (fun c_5 => ?_)
    · skip
      refine lv_iload_n hx hb dX10_stepsBetween_25 rfl (lv_at hl 1 rfl) ?_
      refine lv_iload_n hx hb dX10_stepsBetween_26 rfl (lv_at hl 3 rfl) ?_
      refine lv_isub hx hb dX10_stepsBetween_27 ?_
      have rg_6 := i32_r i2
      have rg_7 := i32_r i4
      refine lv_topi (fun x_8 ex_8 => ?_)
      have zx_8 : x_8.toInt = i2.toInt - i4.toInt := by rw [ex_8]; exact i32_sub rfl rfl (by omega) (by omega)
      refine lv_iadd hx hb dX10_stepsBetween_28 ?_
      have rg_9 := i32_r x_4
      have rg_10 := i32_r x_8
      refine lv_topi (fun x_11 ex_11 => ?_)
      have zx_11 : x_11.toInt = x_4.toInt + x_8.toInt := by rw [ex_11]; exact i32_add rfl rfl (by omega) (by omega)
      exact hx_reti hx hb hr hlk hW ⟨(by first | omega | (refine ⟨?_, ?_⟩ <;> omega)), hT, hM⟩ dX10_stepsBetween_29
    · skip
      refine lv_iload_n hx hb dX10_stepsBetween_19 rfl (lv_at hl 3 rfl) ?_
      refine lv_iload_n hx hb dX10_stepsBetween_20 rfl (lv_at hl 1 rfl) ?_
      refine lv_isub hx hb dX10_stepsBetween_21 ?_
      have rg_12 := i32_r i4
      have rg_13 := i32_r i2
      refine lv_topi (fun x_14 ex_14 => ?_)
      have zx_14 : x_14.toInt = i4.toInt - i2.toInt := by rw [ex_14]; exact i32_sub rfl rfl (by omega) (by omega)
      refine lv_goto (tgt := 28) hx hb dX10_stepsBetween_22 (by decide) ?_
      refine lv_iadd hx hb dX10_stepsBetween_28 ?_
      have rg_15 := i32_r x_4
      have rg_16 := i32_r x_14
      refine lv_topi (fun x_17 ex_17 => ?_)
      have zx_17 : x_17.toInt = x_4.toInt + x_14.toInt := by rw [ex_17]; exact i32_add rfl rfl (by omega) (by omega)
      exact hx_reti hx hb hr hlk hW ⟨(by first | omega | (refine ⟨?_, ?_⟩ <;> omega)), hT, hM⟩ dX10_stepsBetween_29
  · skip
    refine lv_iload_n hx hb dX10_stepsBetween_5 rfl (lv_at hl 2 rfl) ?_
    refine lv_iload_n hx hb dX10_stepsBetween_6 rfl (lv_at hl 0 rfl) ?_
    refine lv_isub hx hb dX10_stepsBetween_7 ?_
    have rg_18 := i32_r i3
    have rg_19 := i32_r i1
    refine lv_topi (fun x_20 ex_20 => ?_)
    have zx_20 : x_20.toInt = i3.toInt - i1.toInt := by rw [ex_20]; exact i32_sub rfl rfl (by omega) (by omega)
    refine lv_goto (tgt := 14) hx hb dX10_stepsBetween_8 (by decide) ?_
    refine lv_iload_n hx hb dX10_stepsBetween_14 rfl (lv_at hl 1 rfl) ?_
    refine lv_iload_n hx hb dX10_stepsBetween_15 rfl (lv_at hl 3 rfl) ?_
    refine hb_icmp_ge (zx := i2.toInt) (zy := i4.toInt) (tgt := 25) hx hb rfl rfl dX10_stepsBetween_16 (by decide) (fun c_21 => ?_) (fun c_21 => ?_)
    · skip
      refine lv_iload_n hx hb dX10_stepsBetween_25 rfl (lv_at hl 1 rfl) ?_
      refine lv_iload_n hx hb dX10_stepsBetween_26 rfl (lv_at hl 3 rfl) ?_
      refine lv_isub hx hb dX10_stepsBetween_27 ?_
      have rg_22 := i32_r i2
      have rg_23 := i32_r i4
      refine lv_topi (fun x_24 ex_24 => ?_)
      have zx_24 : x_24.toInt = i2.toInt - i4.toInt := by rw [ex_24]; exact i32_sub rfl rfl (by omega) (by omega)
      refine lv_iadd hx hb dX10_stepsBetween_28 ?_
      have rg_25 := i32_r x_20
      have rg_26 := i32_r x_24
      refine lv_topi (fun x_27 ex_27 => ?_)
      have zx_27 : x_27.toInt = x_20.toInt + x_24.toInt := by rw [ex_27]; exact i32_add rfl rfl (by omega) (by omega)
      exact hx_reti hx hb hr hlk hW ⟨(by first | omega | (refine ⟨?_, ?_⟩ <;> omega)), hT, hM⟩ dX10_stepsBetween_29
    · skip
      refine lv_iload_n hx hb dX10_stepsBetween_19 rfl (lv_at hl 3 rfl) ?_
      refine lv_iload_n hx hb dX10_stepsBetween_20 rfl (lv_at hl 1 rfl) ?_
      refine lv_isub hx hb dX10_stepsBetween_21 ?_
      have rg_28 := i32_r i4
      have rg_29 := i32_r i2
      refine lv_topi (fun x_30 ex_30 => ?_)
      have zx_30 : x_30.toInt = i4.toInt - i2.toInt := by rw [ex_30]; exact i32_sub rfl rfl (by omega) (by omega)
      refine lv_goto (tgt := 28) hx hb dX10_stepsBetween_22 (by decide) ?_
      refine lv_iadd hx hb dX10_stepsBetween_28 ?_
      have rg_31 := i32_r x_20
      have rg_32 := i32_r x_30
      refine lv_topi (fun x_33 ex_33 => ?_)
      have zx_33 : x_33.toInt = x_20.toInt + x_30.toInt := by rw [ex_33]; exact i32_add rfl rfl (by omega) (by omega)
      exact hx_reti hx hb hr hlk hW ⟨(by first | omega | (refine ⟨?_, ?_⟩ <;> omega)), hT, hM⟩ dX10_stepsBetween_29

theorem dX10_far_0 : decode cX10_far 0 = .ok (.iload_n 1, 1) := by decide +kernel
theorem dX10_far_1 : decode cX10_far 1 = .ok (.aload_n 0, 1) := by decide +kernel
theorem dX10_far_2 : decode cX10_far 2 = .ok (.getfield 468, 3) := by decide +kernel
theorem dX10_far_5 : decode cX10_far 5 = .ok (.if_icmp .ne 8, 3) := by decide +kernel
theorem dX10_far_8 : decode cX10_far 8 = .ok (.bipush 50, 2) := by decide +kernel
theorem dX10_far_10 : decode cX10_far 10 = .ok (.goto 19, 3) := by decide +kernel
theorem dX10_far_13 : decode cX10_far 13 = .ok (.aload_n 0, 1) := by decide +kernel
theorem dX10_far_14 : decode cX10_far 14 = .ok (.getfield 47, 3) := by decide +kernel
theorem dX10_far_17 : decode cX10_far 17 = .ok (.aload_n 0, 1) := by decide +kernel
theorem dX10_far_18 : decode cX10_far 18 = .ok (.getfield 84, 3) := by decide +kernel
theorem dX10_far_21 : decode cX10_far 21 = .ok (.aload_n 0, 1) := by decide +kernel
theorem dX10_far_22 : decode cX10_far 22 = .ok (.getfield 201, 3) := by decide +kernel
theorem dX10_far_25 : decode cX10_far 25 = .ok (.iload_n 1, 1) := by decide +kernel
theorem dX10_far_26 : decode cX10_far 26 = .ok (.iaload, 1) := by decide +kernel
theorem dX10_far_27 : decode cX10_far 27 = .ok (.iaload, 1) := by decide +kernel
theorem dX10_far_28 : decode cX10_far 28 = .ok (.iaload, 1) := by decide +kernel
theorem dX10_far_29 : decode cX10_far 29 = .ok (.istore_n 3, 1) := by decide +kernel
theorem dX10_far_30 : decode cX10_far 30 = .ok (.iload_n 1, 1) := by decide +kernel
theorem dX10_far_31 : decode cX10_far 31 = .ok (.aload_n 0, 1) := by decide +kernel
theorem dX10_far_32 : decode cX10_far 32 = .ok (.getfield 468, 3) := by decide +kernel
theorem dX10_far_35 : decode cX10_far 35 = .ok (.if_icmp .ne 8, 3) := by decide +kernel
theorem dX10_far_38 : decode cX10_far 38 = .ok (.bipush 50, 2) := by decide +kernel
theorem dX10_far_40 : decode cX10_far 40 = .ok (.goto 19, 3) := by decide +kernel
theorem dX10_far_43 : decode cX10_far 43 = .ok (.aload_n 0, 1) := by decide +kernel
theorem dX10_far_44 : decode cX10_far 44 = .ok (.getfield 50, 3) := by decide +kernel
theorem dX10_far_47 : decode cX10_far 47 = .ok (.aload_n 0, 1) := by decide +kernel
theorem dX10_far_48 : decode cX10_far 48 = .ok (.getfield 84, 3) := by decide +kernel
theorem dX10_far_51 : decode cX10_far 51 = .ok (.aload_n 0, 1) := by decide +kernel
theorem dX10_far_52 : decode cX10_far 52 = .ok (.getfield 201, 3) := by decide +kernel
theorem dX10_far_55 : decode cX10_far 55 = .ok (.iload_n 1, 1) := by decide +kernel
theorem dX10_far_56 : decode cX10_far 56 = .ok (.iaload, 1) := by decide +kernel
theorem dX10_far_57 : decode cX10_far 57 = .ok (.iaload, 1) := by decide +kernel
theorem dX10_far_58 : decode cX10_far 58 = .ok (.iaload, 1) := by decide +kernel
theorem dX10_far_59 : decode cX10_far 59 = .ok (.istore 4, 2) := by decide +kernel
theorem dX10_far_61 : decode cX10_far 61 = .ok (.iload_n 2, 1) := by decide +kernel
theorem dX10_far_62 : decode cX10_far 62 = .ok (.aload_n 0, 1) := by decide +kernel
theorem dX10_far_63 : decode cX10_far 63 = .ok (.getfield 468, 3) := by decide +kernel
theorem dX10_far_66 : decode cX10_far 66 = .ok (.if_icmp .ne 8, 3) := by decide +kernel
theorem dX10_far_69 : decode cX10_far 69 = .ok (.bipush 50, 2) := by decide +kernel
theorem dX10_far_71 : decode cX10_far 71 = .ok (.goto 19, 3) := by decide +kernel
theorem dX10_far_74 : decode cX10_far 74 = .ok (.aload_n 0, 1) := by decide +kernel
theorem dX10_far_75 : decode cX10_far 75 = .ok (.getfield 47, 3) := by decide +kernel
theorem dX10_far_78 : decode cX10_far 78 = .ok (.aload_n 0, 1) := by decide +kernel
theorem dX10_far_79 : decode cX10_far 79 = .ok (.getfield 84, 3) := by decide +kernel
theorem dX10_far_82 : decode cX10_far 82 = .ok (.aload_n 0, 1) := by decide +kernel
theorem dX10_far_83 : decode cX10_far 83 = .ok (.getfield 201, 3) := by decide +kernel
theorem dX10_far_86 : decode cX10_far 86 = .ok (.iload_n 2, 1) := by decide +kernel
theorem dX10_far_87 : decode cX10_far 87 = .ok (.iaload, 1) := by decide +kernel
theorem dX10_far_88 : decode cX10_far 88 = .ok (.iaload, 1) := by decide +kernel
theorem dX10_far_89 : decode cX10_far 89 = .ok (.iaload, 1) := by decide +kernel
theorem dX10_far_90 : decode cX10_far 90 = .ok (.istore 5, 2) := by decide +kernel
theorem dX10_far_92 : decode cX10_far 92 = .ok (.iload_n 2, 1) := by decide +kernel
theorem dX10_far_93 : decode cX10_far 93 = .ok (.aload_n 0, 1) := by decide +kernel
theorem dX10_far_94 : decode cX10_far 94 = .ok (.getfield 468, 3) := by decide +kernel
theorem dX10_far_97 : decode cX10_far 97 = .ok (.if_icmp .ne 8, 3) := by decide +kernel
theorem dX10_far_100 : decode cX10_far 100 = .ok (.bipush 50, 2) := by decide +kernel
theorem dX10_far_102 : decode cX10_far 102 = .ok (.goto 19, 3) := by decide +kernel
theorem dX10_far_105 : decode cX10_far 105 = .ok (.aload_n 0, 1) := by decide +kernel
theorem dX10_far_106 : decode cX10_far 106 = .ok (.getfield 50, 3) := by decide +kernel
theorem dX10_far_109 : decode cX10_far 109 = .ok (.aload_n 0, 1) := by decide +kernel
theorem dX10_far_110 : decode cX10_far 110 = .ok (.getfield 84, 3) := by decide +kernel
theorem dX10_far_113 : decode cX10_far 113 = .ok (.aload_n 0, 1) := by decide +kernel
theorem dX10_far_114 : decode cX10_far 114 = .ok (.getfield 201, 3) := by decide +kernel
theorem dX10_far_117 : decode cX10_far 117 = .ok (.iload_n 2, 1) := by decide +kernel
theorem dX10_far_118 : decode cX10_far 118 = .ok (.iaload, 1) := by decide +kernel
theorem dX10_far_119 : decode cX10_far 119 = .ok (.iaload, 1) := by decide +kernel
theorem dX10_far_120 : decode cX10_far 120 = .ok (.iaload, 1) := by decide +kernel
theorem dX10_far_121 : decode cX10_far 121 = .ok (.istore 6, 2) := by decide +kernel
theorem dX10_far_123 : decode cX10_far 123 = .ok (.iload_n 3, 1) := by decide +kernel
theorem dX10_far_124 : decode cX10_far 124 = .ok (.iload 4, 2) := by decide +kernel
theorem dX10_far_126 : decode cX10_far 126 = .ok (.iload 5, 2) := by decide +kernel
theorem dX10_far_128 : decode cX10_far 128 = .ok (.iload 6, 2) := by decide +kernel
theorem dX10_far_130 : decode cX10_far 130 = .ok (.invokestatic 471, 3) := by decide +kernel
theorem dX10_far_133 : decode cX10_far 133 = .ok (.ireturn, 1) := by decide +kernel
set_option maxHeartbeats 4000000 in
set_option maxRecDepth 100000 in
theorem t_X10_far (l : Launch) (dC : Nat → ClassId) (dI : Nat → Nat → Nat) (dA : Nat → ClassId) (L : List Nat) (h : hx_h) (sz : Nat) (x : Nat) (i1 : Int32) (i2 : Int32) (hT : hx_T T_tb L h) (gx : hx_g L h x 10) (n0 : Int32) (f_x_90 : h.2.1 x 90 = n0) (hi1 : 0 ≤ i1.toInt ∧ i1.toInt ≤ n0.toInt) (hi2 : 0 ≤ i2.toInt ∧ i2.toInt ≤ n0.toInt) : Met l yX10_far (Cond.code yX10_far cX10_far 7 (some .int) :: hx_all) ({ frames := 1, cells := 0, slots := 0, locals := 23 }) (va_Pc [.ref x, .int i1, .int i2] (hx_B T_tb (P_ty dA) (dC, dI) vwCl L h sz)) (va_Qi (fun (r : Int32) (u : List Nat × hx_h) => (0 ≤ r.toInt ∧ r.toInt ≤ 198) ∧ hx_T T_tb u.1 u.2 ∧ hx_S T_tb [] L h u.1 u.2) (hx_E T_tb (P_ty dA) (dC, dI) vwCl (hx_A L sz)) (hx_A L sz)) 0 0 (hx_A L sz) := by
  refine hx_met (lv := [(0, .ref x), (1, .int i1), (2, .int i2)]) (by decide +kernel) rfl (Nat.le_of_ble_eq_true rfl) rfl ?_
  intro p e s m below meth c hx hb hml hr hlk hts0 hown hin hsz hW ls hl
  have hts : ∀ w ∈ hx_all, w.before _ s = true := fun w hw => hts0 w (List.mem_cons_of_mem _ hw)
  have hown : s.vm.findClass "SmallCourtModel" = some m.cls := hown
  have hM : hx_S T_tb [] L h L h := hx_S.rf
  have b_n0 := hT.gi gx tt_10 (k := 90) rfl
  rw [f_x_90] at b_n0
  have b_n0 : 0 ≤ n0.toInt ∧ n0.toInt ≤ 8 := b_n0
  refine lv_iload_n hx hb dX10_far_0 rfl (lv_at hl 1 rfl) ?_
  refine lv_aload_n hx hb dX10_far_1 rfl (lv_at hl 0 rfl) ?_
  refine hk_geti hx hb hts hC_10 hown hW gx tt_10 90 (by decide) rfl kw_1233 ⟨rfl, rfl, rfl⟩ f_x_90 dX10_far_2 ?_
  refine hb_icmp_ne (zx := i1.toInt) (zy := n0.toInt) (tgt := 13) hx hb rfl rfl dX10_far_5 (by decide) (fun c_1 => ?_) (fun c_1 => ?_)
  · skip
    refine lv_aload_n hx hb dX10_far_13 rfl (lv_at hl 0 rfl) ?_
    refine hx_getn hx hb hts hC_10 hown hW hT gx tt_10 24 (by decide) rfl kw_1167 ⟨rfl, rfl, rfl⟩ dX10_far_14 (fun q_2 fq_2 gq_2 => ?_)
    refine lv_aload_n hx hb dX10_far_17 rfl (lv_at hl 0 rfl) ?_
    refine hx_getn hx hb hts hC_10 hown hW hT gx tt_10 38 (by decide) rfl kw_1181 ⟨rfl, rfl, rfl⟩ dX10_far_18 (fun q_3 fq_3 gq_3 => ?_)
    refine lv_aload_n hx hb dX10_far_21 rfl (lv_at hl 0 rfl) ?_
    refine hx_getn hx hb hts hC_10 hown hW hT gx tt_10 91 (by decide) rfl kw_1234 ⟨rfl, rfl, rfl⟩ dX10_far_22 (fun q_4 fq_4 gq_4 => ?_)
    refine lv_iload_n hx hb dX10_far_25 rfl (lv_at hl 1 rfl) ?_
    refine hx_iald hx hb hW hT gq_4 tt_112 rfl ⟨by omega, by omega⟩ dX10_far_26 (fun x_5 ex_5 lx_5 ux_5 => ?_)
    refine hx_iald hx hb hW hT gq_3 tt_73 rfl ⟨by omega, by omega⟩ dX10_far_27 (fun x_6 ex_6 lx_6 ux_6 => ?_)
    refine hx_iald hx hb hW hT gq_2 tt_61 rfl ⟨by omega, by omega⟩ dX10_far_28 (fun x_7 ex_7 lx_7 ux_7 => ?_)
    refine lv_istore_n (lv' := [(3, .int x_7), (0, .ref x), (1, .int i1), (2, .int i2)]) hx hb dX10_far_29 rfl hl (by decide) rfl (fun ls hl => ?_)
    refine lv_iload_n hx hb dX10_far_30 rfl (lv_at hl 2 rfl) ?_
    refine lv_aload_n hx hb dX10_far_31 rfl (lv_at hl 1 rfl) ?_
    refine hk_geti hx hb hts hC_10 hown hW gx tt_10 90 (by decide) rfl kw_1233 ⟨rfl, rfl, rfl⟩ f_x_90 dX10_far_32 ?_
    refine hb_icmp_ne (zx := i1.toInt) (zy := n0.toInt) (tgt := 43) hx hb rfl rfl dX10_far_35 (by decide) (fun c_8 => ?_) (fun c_8 => ?_)
    · skip
      refine lv_aload_n hx hb dX10_far_43 rfl (lv_at hl 1 rfl) ?_
      refine hx_getn hx hb hts hC_10 hown hW hT gx tt_10 25 (by decide) rfl kw_1168 ⟨rfl, rfl, rfl⟩ dX10_far_44 (fun q_9 fq_9 gq_9 => ?_)
      refine lv_aload_n hx hb dX10_far_47 rfl (lv_at hl 1 rfl) ?_
      refine hk_getr hx hb hts hC_10 hown hW gx tt_10 38 (by decide) rfl kw_1181 ⟨rfl, rfl, rfl⟩ fq_3 dX10_far_48 ?_
      refine lv_aload_n hx hb dX10_far_51 rfl (lv_at hl 1 rfl) ?_
      refine hk_getr hx hb hts hC_10 hown hW gx tt_10 91 (by decide) rfl kw_1234 ⟨rfl, rfl, rfl⟩ fq_4 dX10_far_52 ?_
      refine lv_iload_n hx hb dX10_far_55 rfl (lv_at hl 2 rfl) ?_
      refine hx_iald hx hb hW hT gq_4 tt_112 rfl ⟨by omega, by omega⟩ dX10_far_56 (fun x_10 ex_10 lx_10 ux_10 => ?_)
      obtain rfl : x_5 = x_10 := ex_5.trans ex_10.symm
      refine hx_iald hx hb hW hT gq_3 tt_73 rfl ⟨by omega, by omega⟩ dX10_far_57 (fun x_11 ex_11 lx_11 ux_11 => ?_)
      obtain rfl : x_6 = x_11 := ex_6.trans ex_11.symm
      refine hx_iald hx hb hW hT gq_9 tt_62 rfl ⟨by omega, by omega⟩ dX10_far_58 (fun x_12 ex_12 lx_12 ux_12 => ?_)
      refine lv_istore (lv' := [(4, .int x_12), (3, .int x_7), (0, .ref x), (1, .int i1), (2, .int i2)]) hx hb dX10_far_59 hl (by decide) rfl (fun ls hl => ?_)
      refine lv_iload_n hx hb dX10_far_61 rfl (lv_at hl 4 rfl) ?_
      refine lv_aload_n hx hb dX10_far_62 rfl (lv_at hl 2 rfl) ?_
      refine hk_geti hx hb hts hC_10 hown hW gx tt_10 90 (by decide) rfl kw_1233 ⟨rfl, rfl, rfl⟩ f_x_90 dX10_far_63 ?_
      refine hb_icmp_ne (zx := i2.toInt) (zy := n0.toInt) (tgt := 74) hx hb rfl rfl dX10_far_66 (by decide) (fun c_13 => ?_) (fun c_13 => ?_)
      · skip
        refine lv_aload_n hx hb dX10_far_74 rfl (lv_at hl 2 rfl) ?_
        refine hk_getr hx hb hts hC_10 hown hW gx tt_10 24 (by decide) rfl kw_1167 ⟨rfl, rfl, rfl⟩ fq_2 dX10_far_75 ?_
        refine lv_aload_n hx hb dX10_far_78 rfl (lv_at hl 2 rfl) ?_
        refine hk_getr hx hb hts hC_10 hown hW gx tt_10 38 (by decide) rfl kw_1181 ⟨rfl, rfl, rfl⟩ fq_3 dX10_far_79 ?_
        refine lv_aload_n hx hb dX10_far_82 rfl (lv_at hl 2 rfl) ?_
        refine hk_getr hx hb hts hC_10 hown hW gx tt_10 91 (by decide) rfl kw_1234 ⟨rfl, rfl, rfl⟩ fq_4 dX10_far_83 ?_
        refine lv_iload_n hx hb dX10_far_86 rfl (lv_at hl 4 rfl) ?_
        refine hx_iald hx hb hW hT gq_4 tt_112 rfl ⟨by omega, by omega⟩ dX10_far_87 (fun x_14 ex_14 lx_14 ux_14 => ?_)
        refine hx_iald hx hb hW hT gq_3 tt_73 rfl ⟨by omega, by omega⟩ dX10_far_88 (fun x_15 ex_15 lx_15 ux_15 => ?_)
        refine hx_iald hx hb hW hT gq_2 tt_61 rfl ⟨by omega, by omega⟩ dX10_far_89 (fun x_16 ex_16 lx_16 ux_16 => ?_)
        refine lv_istore (lv' := [(5, .int x_16), (4, .int x_12), (3, .int x_7), (0, .ref x), (1, .int i1), (2, .int i2)]) hx hb dX10_far_90 hl (by decide) rfl (fun ls hl => ?_)
        refine lv_iload_n hx hb dX10_far_92 rfl (lv_at hl 5 rfl) ?_
        refine lv_aload_n hx hb dX10_far_93 rfl (lv_at hl 3 rfl) ?_
        refine hk_geti hx hb hts hC_10 hown hW gx tt_10 90 (by decide) rfl kw_1233 ⟨rfl, rfl, rfl⟩ f_x_90 dX10_far_94 ?_
        refine hb_icmp_ne (zx := i2.toInt) (zy := n0.toInt) (tgt := 105) hx hb rfl rfl dX10_far_97 (by decide) (fun c_17 => ?_) (fun c_17 => ?_)
        · skip
          refine lv_aload_n hx hb dX10_far_105 rfl (lv_at hl 3 rfl) ?_
          refine hk_getr hx hb hts hC_10 hown hW gx tt_10 25 (by decide) rfl kw_1168 ⟨rfl, rfl, rfl⟩ fq_9 dX10_far_106 ?_
          refine lv_aload_n hx hb dX10_far_109 rfl (lv_at hl 3 rfl) ?_
          refine hk_getr hx hb hts hC_10 hown hW gx tt_10 38 (by decide) rfl kw_1181 ⟨rfl, rfl, rfl⟩ fq_3 dX10_far_110 ?_
          refine lv_aload_n hx hb dX10_far_113 rfl (lv_at hl 3 rfl) ?_
          refine hk_getr hx hb hts hC_10 hown hW gx tt_10 91 (by decide) rfl kw_1234 ⟨rfl, rfl, rfl⟩ fq_4 dX10_far_114 ?_
          refine lv_iload_n hx hb dX10_far_117 rfl (lv_at hl 5 rfl) ?_
          refine hx_iald hx hb hW hT gq_4 tt_112 rfl ⟨by omega, by omega⟩ dX10_far_118 (fun x_18 ex_18 lx_18 ux_18 => ?_)
          obtain rfl : x_14 = x_18 := ex_14.trans ex_18.symm
          refine hx_iald hx hb hW hT gq_3 tt_73 rfl ⟨by omega, by omega⟩ dX10_far_119 (fun x_19 ex_19 lx_19 ux_19 => ?_)
          obtain rfl : x_15 = x_19 := ex_15.trans ex_19.symm
          refine hx_iald hx hb hW hT gq_9 tt_62 rfl ⟨by omega, by omega⟩ dX10_far_120 (fun x_20 ex_20 lx_20 ux_20 => ?_)
          refine lv_istore (lv' := [(6, .int x_20), (5, .int x_16), (4, .int x_12), (3, .int x_7), (0, .ref x), (1, .int i1), (2, .int i2)]) hx hb dX10_far_121 hl (by decide) rfl (fun ls hl => ?_)
          refine lv_iload_n hx hb dX10_far_123 rfl (lv_at hl 3 rfl) ?_
          refine lv_iload hx hb dX10_far_124 (lv_at hl 2 rfl) ?_
          refine lv_iload hx hb dX10_far_126 (lv_at hl 1 rfl) ?_
          refine lv_iload hx hb dX10_far_128 (lv_at hl 0 rfl) ?_
          refine hx_goi (hx_runS (As := [.int x_7, .int x_12, .int x_16, .int x_20]) (rest := []) ⟨hx, hb, hml, hown, hts⟩ hW (t_X10_stepsBetween l dC dI dA L h s.heap.size x_7 x_12 x_16 x_20 hT ⟨by omega, by omega⟩ ⟨by omega, by omega⟩ ⟨by omega, by omega⟩ ⟨by omega, by omega⟩) (va_cwS 4 hts (hx_gS kw_1728 kw_1726 kw_1727 kw_103) rfl rfl rfl (by decide +kernel) ⟨Nat.le_of_ble_eq_true rfl, Nat.le_of_ble_eq_true rfl⟩) rfl hl.1 rfl (Nat.le_of_ble_eq_true rfl) dX10_far_130 ⟨Nat.le_of_ble_eq_true rfl, Nat.le_of_ble_eq_true rfl⟩) hW (fun r_23 L_21 h_22 H locs p_24 hW => ?_)
          obtain ⟨hr_25, hT, hs⟩ := p_24
          have hT : hx_T T_tb L_21 h_22 := hT
          have hs : hx_S T_tb [] L h L_21 h_22 := hs
          have f_x_90 := (hs.o gx trivial rfl).1.trans f_x_90
          have fq_2 := (hs.o gx trivial rfl).2.trans fq_2
          have fq_3 := (hs.o gx trivial rfl).2.trans fq_3
          have fq_4 := (hs.o gx trivial rfl).2.trans fq_4
          have fq_9 := (hs.o gx trivial rfl).2.trans fq_9
          have ex_5 := ex_5.trans (hs.a gq_4 rfl _).1.symm
          have ex_6 := ex_6.trans (hs.a gq_3 rfl _).1.symm
          have ex_7 := ex_7.trans (hs.a gq_2 rfl _).1.symm
          have ex_12 := ex_12.trans (hs.a gq_9 rfl _).1.symm
          have ex_14 := ex_14.trans (hs.a gq_4 rfl _).1.symm
          have ex_15 := ex_15.trans (hs.a gq_3 rfl _).1.symm
          have ex_16 := ex_16.trans (hs.a gq_2 rfl _).1.symm
          have ex_20 := ex_20.trans (hs.a gq_9 rfl _).1.symm
          have hM := hM.tr (hs.mono (by decide))
          have gx := gx.S hs
          have gq_2 := gq_2.S hs
          have gq_3 := gq_3.S hs
          have gq_4 := gq_4.S hs
          have gq_9 := gq_9.S hs
          exact hx_reti hx hb hr hlk hW ⟨(by first | omega | (refine ⟨?_, ?_⟩ <;> omega)), hT, hM⟩ dX10_far_133
        · skip
          refine lv_bipush (v := 50) hx hb dX10_far_100 (by decide) ?_
          refine lv_goto (tgt := 121) hx hb dX10_far_102 (by decide) ?_
          refine lv_istore (lv' := [(6, .int (50 : Int32)), (5, .int x_16), (4, .int x_12), (3, .int x_7), (0, .ref x), (1, .int i1), (2, .int i2)]) hx hb dX10_far_121 hl (by decide) rfl (fun ls hl => ?_)
          refine lv_iload_n hx hb dX10_far_123 rfl (lv_at hl 3 rfl) ?_
          refine lv_iload hx hb dX10_far_124 (lv_at hl 2 rfl) ?_
          refine lv_iload hx hb dX10_far_126 (lv_at hl 1 rfl) ?_
          refine lv_iload hx hb dX10_far_128 (lv_at hl 0 rfl) ?_
          have zc_50 : (50 : Int32).toInt = 50 := by decide
          refine hx_goi (hx_runS (As := [.int x_7, .int x_12, .int x_16, .int (50 : Int32)]) (rest := []) ⟨hx, hb, hml, hown, hts⟩ hW (t_X10_stepsBetween l dC dI dA L h s.heap.size x_7 x_12 x_16 (50 : Int32) hT ⟨by omega, by omega⟩ ⟨by omega, by omega⟩ ⟨by omega, by omega⟩ ⟨by omega, by omega⟩) (va_cwS 4 hts (hx_gS kw_1728 kw_1726 kw_1727 kw_103) rfl rfl rfl (by decide +kernel) ⟨Nat.le_of_ble_eq_true rfl, Nat.le_of_ble_eq_true rfl⟩) rfl hl.1 rfl (Nat.le_of_ble_eq_true rfl) dX10_far_130 ⟨Nat.le_of_ble_eq_true rfl, Nat.le_of_ble_eq_true rfl⟩) hW (fun r_28 L_26 h_27 H locs p_29 hW => ?_)
          obtain ⟨hr_30, hT, hs⟩ := p_29
          have hT : hx_T T_tb L_26 h_27 := hT
          have hs : hx_S T_tb [] L h L_26 h_27 := hs
          have f_x_90 := (hs.o gx trivial rfl).1.trans f_x_90
          have fq_2 := (hs.o gx trivial rfl).2.trans fq_2
          have fq_3 := (hs.o gx trivial rfl).2.trans fq_3
          have fq_4 := (hs.o gx trivial rfl).2.trans fq_4
          have fq_9 := (hs.o gx trivial rfl).2.trans fq_9
          have ex_5 := ex_5.trans (hs.a gq_4 rfl _).1.symm
          have ex_6 := ex_6.trans (hs.a gq_3 rfl _).1.symm
          have ex_7 := ex_7.trans (hs.a gq_2 rfl _).1.symm
          have ex_12 := ex_12.trans (hs.a gq_9 rfl _).1.symm
          have ex_14 := ex_14.trans (hs.a gq_4 rfl _).1.symm
          have ex_15 := ex_15.trans (hs.a gq_3 rfl _).1.symm
          have ex_16 := ex_16.trans (hs.a gq_2 rfl _).1.symm
          have hM := hM.tr (hs.mono (by decide))
          have gx := gx.S hs
          have gq_2 := gq_2.S hs
          have gq_3 := gq_3.S hs
          have gq_4 := gq_4.S hs
          have gq_9 := gq_9.S hs
          exact hx_reti hx hb hr hlk hW ⟨(by first | omega | (refine ⟨?_, ?_⟩ <;> omega)), hT, hM⟩ dX10_far_133
      · skip
        refine lv_bipush (v := 50) hx hb dX10_far_69 (by decide) ?_
        refine lv_goto (tgt := 90) hx hb dX10_far_71 (by decide) ?_
        refine lv_istore (lv' := [(5, .int (50 : Int32)), (4, .int x_12), (3, .int x_7), (0, .ref x), (1, .int i1), (2, .int i2)]) hx hb dX10_far_90 hl (by decide) rfl (fun ls hl => ?_)
        refine lv_iload_n hx hb dX10_far_92 rfl (lv_at hl 5 rfl) ?_
        refine lv_aload_n hx hb dX10_far_93 rfl (lv_at hl 3 rfl) ?_
        refine hk_geti hx hb hts hC_10 hown hW gx tt_10 90 (by decide) rfl kw_1233 ⟨rfl, rfl, rfl⟩ f_x_90 dX10_far_94 ?_
        refine hb_icmp_ne (zx := i2.toInt) (zy := n0.toInt) (tgt := 105) hx hb rfl rfl dX10_far_97 (by decide) (fun c_31 => ?_) (fun c_31 => ?_)
        · skip
          refine lv_aload_n hx hb dX10_far_105 rfl (lv_at hl 3 rfl) ?_
          refine hk_getr hx hb hts hC_10 hown hW gx tt_10 25 (by decide) rfl kw_1168 ⟨rfl, rfl, rfl⟩ fq_9 dX10_far_106 ?_
          refine lv_aload_n hx hb dX10_far_109 rfl (lv_at hl 3 rfl) ?_
          refine hk_getr hx hb hts hC_10 hown hW gx tt_10 38 (by decide) rfl kw_1181 ⟨rfl, rfl, rfl⟩ fq_3 dX10_far_110 ?_
          refine lv_aload_n hx hb dX10_far_113 rfl (lv_at hl 3 rfl) ?_
          refine hk_getr hx hb hts hC_10 hown hW gx tt_10 91 (by decide) rfl kw_1234 ⟨rfl, rfl, rfl⟩ fq_4 dX10_far_114 ?_
          refine lv_iload_n hx hb dX10_far_117 rfl (lv_at hl 5 rfl) ?_
          refine hx_iald hx hb hW hT gq_4 tt_112 rfl ⟨by omega, by omega⟩ dX10_far_118 (fun x_32 ex_32 lx_32 ux_32 => ?_)
          refine hx_iald hx hb hW hT gq_3 tt_73 rfl ⟨by omega, by omega⟩ dX10_far_119 (fun x_33 ex_33 lx_33 ux_33 => ?_)
          refine hx_iald hx hb hW hT gq_9 tt_62 rfl ⟨by omega, by omega⟩ dX10_far_120 (fun x_34 ex_34 lx_34 ux_34 => ?_)
          refine lv_istore (lv' := [(6, .int x_34), (5, .int (50 : Int32)), (4, .int x_12), (3, .int x_7), (0, .ref x), (1, .int i1), (2, .int i2)]) hx hb dX10_far_121 hl (by decide) rfl (fun ls hl => ?_)
          refine lv_iload_n hx hb dX10_far_123 rfl (lv_at hl 3 rfl) ?_
          refine lv_iload hx hb dX10_far_124 (lv_at hl 2 rfl) ?_
          refine lv_iload hx hb dX10_far_126 (lv_at hl 1 rfl) ?_
          refine lv_iload hx hb dX10_far_128 (lv_at hl 0 rfl) ?_
          have zc_50 : (50 : Int32).toInt = 50 := by decide
          refine hx_goi (hx_runS (As := [.int x_7, .int x_12, .int (50 : Int32), .int x_34]) (rest := []) ⟨hx, hb, hml, hown, hts⟩ hW (t_X10_stepsBetween l dC dI dA L h s.heap.size x_7 x_12 (50 : Int32) x_34 hT ⟨by omega, by omega⟩ ⟨by omega, by omega⟩ ⟨by omega, by omega⟩ ⟨by omega, by omega⟩) (va_cwS 4 hts (hx_gS kw_1728 kw_1726 kw_1727 kw_103) rfl rfl rfl (by decide +kernel) ⟨Nat.le_of_ble_eq_true rfl, Nat.le_of_ble_eq_true rfl⟩) rfl hl.1 rfl (Nat.le_of_ble_eq_true rfl) dX10_far_130 ⟨Nat.le_of_ble_eq_true rfl, Nat.le_of_ble_eq_true rfl⟩) hW (fun r_37 L_35 h_36 H locs p_38 hW => ?_)
          obtain ⟨hr_39, hT, hs⟩ := p_38
          have hT : hx_T T_tb L_35 h_36 := hT
          have hs : hx_S T_tb [] L h L_35 h_36 := hs
          have f_x_90 := (hs.o gx trivial rfl).1.trans f_x_90
          have fq_2 := (hs.o gx trivial rfl).2.trans fq_2
          have fq_3 := (hs.o gx trivial rfl).2.trans fq_3
          have fq_4 := (hs.o gx trivial rfl).2.trans fq_4
          have fq_9 := (hs.o gx trivial rfl).2.trans fq_9
          have ex_5 := ex_5.trans (hs.a gq_4 rfl _).1.symm
          have ex_6 := ex_6.trans (hs.a gq_3 rfl _).1.symm
          have ex_7 := ex_7.trans (hs.a gq_2 rfl _).1.symm
          have ex_12 := ex_12.trans (hs.a gq_9 rfl _).1.symm
          have ex_32 := ex_32.trans (hs.a gq_4 rfl _).1.symm
          have ex_33 := ex_33.trans (hs.a gq_3 rfl _).1.symm
          have ex_34 := ex_34.trans (hs.a gq_9 rfl _).1.symm
          have hM := hM.tr (hs.mono (by decide))
          have gx := gx.S hs
          have gq_2 := gq_2.S hs
          have gq_3 := gq_3.S hs
          have gq_4 := gq_4.S hs
          have gq_9 := gq_9.S hs
          exact hx_reti hx hb hr hlk hW ⟨(by first | omega | (refine ⟨?_, ?_⟩ <;> omega)), hT, hM⟩ dX10_far_133
        · skip
          refine lv_bipush (v := 50) hx hb dX10_far_100 (by decide) ?_
          refine lv_goto (tgt := 121) hx hb dX10_far_102 (by decide) ?_
          refine lv_istore (lv' := [(6, .int (50 : Int32)), (5, .int (50 : Int32)), (4, .int x_12), (3, .int x_7), (0, .ref x), (1, .int i1), (2, .int i2)]) hx hb dX10_far_121 hl (by decide) rfl (fun ls hl => ?_)
          refine lv_iload_n hx hb dX10_far_123 rfl (lv_at hl 3 rfl) ?_
          refine lv_iload hx hb dX10_far_124 (lv_at hl 2 rfl) ?_
          refine lv_iload hx hb dX10_far_126 (lv_at hl 1 rfl) ?_
          refine lv_iload hx hb dX10_far_128 (lv_at hl 0 rfl) ?_
          have zc_50 : (50 : Int32).toInt = 50 := by decide
          refine hx_goi (hx_runS (As := [.int x_7, .int x_12, .int (50 : Int32), .int (50 : Int32)]) (rest := []) ⟨hx, hb, hml, hown, hts⟩ hW (t_X10_stepsBetween l dC dI dA L h s.heap.size x_7 x_12 (50 : Int32) (50 : Int32) hT ⟨by omega, by omega⟩ ⟨by omega, by omega⟩ ⟨by omega, by omega⟩ ⟨by omega, by omega⟩) (va_cwS 4 hts (hx_gS kw_1728 kw_1726 kw_1727 kw_103) rfl rfl rfl (by decide +kernel) ⟨Nat.le_of_ble_eq_true rfl, Nat.le_of_ble_eq_true rfl⟩) rfl hl.1 rfl (Nat.le_of_ble_eq_true rfl) dX10_far_130 ⟨Nat.le_of_ble_eq_true rfl, Nat.le_of_ble_eq_true rfl⟩) hW (fun r_42 L_40 h_41 H locs p_43 hW => ?_)
          obtain ⟨hr_44, hT, hs⟩ := p_43
          have hT : hx_T T_tb L_40 h_41 := hT
          have hs : hx_S T_tb [] L h L_40 h_41 := hs
          have f_x_90 := (hs.o gx trivial rfl).1.trans f_x_90
          have fq_2 := (hs.o gx trivial rfl).2.trans fq_2
          have fq_3 := (hs.o gx trivial rfl).2.trans fq_3
          have fq_4 := (hs.o gx trivial rfl).2.trans fq_4
          have fq_9 := (hs.o gx trivial rfl).2.trans fq_9
          have ex_5 := ex_5.trans (hs.a gq_4 rfl _).1.symm
          have ex_6 := ex_6.trans (hs.a gq_3 rfl _).1.symm
          have ex_7 := ex_7.trans (hs.a gq_2 rfl _).1.symm
          have ex_12 := ex_12.trans (hs.a gq_9 rfl _).1.symm
          have hM := hM.tr (hs.mono (by decide))
          have gx := gx.S hs
          have gq_2 := gq_2.S hs
          have gq_3 := gq_3.S hs
          have gq_4 := gq_4.S hs
          have gq_9 := gq_9.S hs
          exact hx_reti hx hb hr hlk hW ⟨(by first | omega | (refine ⟨?_, ?_⟩ <;> omega)), hT, hM⟩ dX10_far_133
    · skip
      refine lv_bipush (v := 50) hx hb dX10_far_38 (by decide) ?_
      refine lv_goto (tgt := 59) hx hb dX10_far_40 (by decide) ?_
      refine lv_istore (lv' := [(4, .int (50 : Int32)), (3, .int x_7), (0, .ref x), (1, .int i1), (2, .int i2)]) hx hb dX10_far_59 hl (by decide) rfl (fun ls hl => ?_)
      refine lv_iload_n hx hb dX10_far_61 rfl (lv_at hl 4 rfl) ?_
      refine lv_aload_n hx hb dX10_far_62 rfl (lv_at hl 2 rfl) ?_
      refine hk_geti hx hb hts hC_10 hown hW gx tt_10 90 (by decide) rfl kw_1233 ⟨rfl, rfl, rfl⟩ f_x_90 dX10_far_63 ?_
      refine hb_icmp_ne (zx := i2.toInt) (zy := n0.toInt) (tgt := 74) hx hb rfl rfl dX10_far_66 (by decide) (fun c_45 => ?_) (fun c_45 => ?_)
      · skip
        refine lv_aload_n hx hb dX10_far_74 rfl (lv_at hl 2 rfl) ?_
        refine hk_getr hx hb hts hC_10 hown hW gx tt_10 24 (by decide) rfl kw_1167 ⟨rfl, rfl, rfl⟩ fq_2 dX10_far_75 ?_
        refine lv_aload_n hx hb dX10_far_78 rfl (lv_at hl 2 rfl) ?_
        refine hk_getr hx hb hts hC_10 hown hW gx tt_10 38 (by decide) rfl kw_1181 ⟨rfl, rfl, rfl⟩ fq_3 dX10_far_79 ?_
        refine lv_aload_n hx hb dX10_far_82 rfl (lv_at hl 2 rfl) ?_
        refine hk_getr hx hb hts hC_10 hown hW gx tt_10 91 (by decide) rfl kw_1234 ⟨rfl, rfl, rfl⟩ fq_4 dX10_far_83 ?_
        refine lv_iload_n hx hb dX10_far_86 rfl (lv_at hl 4 rfl) ?_
        refine hx_iald hx hb hW hT gq_4 tt_112 rfl ⟨by omega, by omega⟩ dX10_far_87 (fun x_46 ex_46 lx_46 ux_46 => ?_)
        refine hx_iald hx hb hW hT gq_3 tt_73 rfl ⟨by omega, by omega⟩ dX10_far_88 (fun x_47 ex_47 lx_47 ux_47 => ?_)
        refine hx_iald hx hb hW hT gq_2 tt_61 rfl ⟨by omega, by omega⟩ dX10_far_89 (fun x_48 ex_48 lx_48 ux_48 => ?_)
        refine lv_istore (lv' := [(5, .int x_48), (4, .int (50 : Int32)), (3, .int x_7), (0, .ref x), (1, .int i1), (2, .int i2)]) hx hb dX10_far_90 hl (by decide) rfl (fun ls hl => ?_)
        refine lv_iload_n hx hb dX10_far_92 rfl (lv_at hl 5 rfl) ?_
        refine lv_aload_n hx hb dX10_far_93 rfl (lv_at hl 3 rfl) ?_
        refine hk_geti hx hb hts hC_10 hown hW gx tt_10 90 (by decide) rfl kw_1233 ⟨rfl, rfl, rfl⟩ f_x_90 dX10_far_94 ?_
        refine hb_icmp_ne (zx := i2.toInt) (zy := n0.toInt) (tgt := 105) hx hb rfl rfl dX10_far_97 (by decide) (fun c_49 => ?_) (fun c_49 => ?_)
        · skip
          refine lv_aload_n hx hb dX10_far_105 rfl (lv_at hl 3 rfl) ?_
          refine hx_getn hx hb hts hC_10 hown hW hT gx tt_10 25 (by decide) rfl kw_1168 ⟨rfl, rfl, rfl⟩ dX10_far_106 (fun q_50 fq_50 gq_50 => ?_)
          refine lv_aload_n hx hb dX10_far_109 rfl (lv_at hl 3 rfl) ?_
          refine hk_getr hx hb hts hC_10 hown hW gx tt_10 38 (by decide) rfl kw_1181 ⟨rfl, rfl, rfl⟩ fq_3 dX10_far_110 ?_
          refine lv_aload_n hx hb dX10_far_113 rfl (lv_at hl 3 rfl) ?_
          refine hk_getr hx hb hts hC_10 hown hW gx tt_10 91 (by decide) rfl kw_1234 ⟨rfl, rfl, rfl⟩ fq_4 dX10_far_114 ?_
          refine lv_iload_n hx hb dX10_far_117 rfl (lv_at hl 5 rfl) ?_
          refine hx_iald hx hb hW hT gq_4 tt_112 rfl ⟨by omega, by omega⟩ dX10_far_118 (fun x_51 ex_51 lx_51 ux_51 => ?_)
          obtain rfl : x_46 = x_51 := ex_46.trans ex_51.symm
          refine hx_iald hx hb hW hT gq_3 tt_73 rfl ⟨by omega, by omega⟩ dX10_far_119 (fun x_52 ex_52 lx_52 ux_52 => ?_)
          obtain rfl : x_47 = x_52 := ex_47.trans ex_52.symm
          refine hx_iald hx hb hW hT gq_50 tt_62 rfl ⟨by omega, by omega⟩ dX10_far_120 (fun x_53 ex_53 lx_53 ux_53 => ?_)
          refine lv_istore (lv' := [(6, .int x_53), (5, .int x_48), (4, .int (50 : Int32)), (3, .int x_7), (0, .ref x), (1, .int i1), (2, .int i2)]) hx hb dX10_far_121 hl (by decide) rfl (fun ls hl => ?_)
          refine lv_iload_n hx hb dX10_far_123 rfl (lv_at hl 3 rfl) ?_
          refine lv_iload hx hb dX10_far_124 (lv_at hl 2 rfl) ?_
          refine lv_iload hx hb dX10_far_126 (lv_at hl 1 rfl) ?_
          refine lv_iload hx hb dX10_far_128 (lv_at hl 0 rfl) ?_
          have zc_50 : (50 : Int32).toInt = 50 := by decide
          refine hx_goi (hx_runS (As := [.int x_7, .int (50 : Int32), .int x_48, .int x_53]) (rest := []) ⟨hx, hb, hml, hown, hts⟩ hW (t_X10_stepsBetween l dC dI dA L h s.heap.size x_7 (50 : Int32) x_48 x_53 hT ⟨by omega, by omega⟩ ⟨by omega, by omega⟩ ⟨by omega, by omega⟩ ⟨by omega, by omega⟩) (va_cwS 4 hts (hx_gS kw_1728 kw_1726 kw_1727 kw_103) rfl rfl rfl (by decide +kernel) ⟨Nat.le_of_ble_eq_true rfl, Nat.le_of_ble_eq_true rfl⟩) rfl hl.1 rfl (Nat.le_of_ble_eq_true rfl) dX10_far_130 ⟨Nat.le_of_ble_eq_true rfl, Nat.le_of_ble_eq_true rfl⟩) hW (fun r_56 L_54 h_55 H locs p_57 hW => ?_)
          obtain ⟨hr_58, hT, hs⟩ := p_57
          have hT : hx_T T_tb L_54 h_55 := hT
          have hs : hx_S T_tb [] L h L_54 h_55 := hs
          have f_x_90 := (hs.o gx trivial rfl).1.trans f_x_90
          have fq_2 := (hs.o gx trivial rfl).2.trans fq_2
          have fq_3 := (hs.o gx trivial rfl).2.trans fq_3
          have fq_4 := (hs.o gx trivial rfl).2.trans fq_4
          have fq_50 := (hs.o gx trivial rfl).2.trans fq_50
          have ex_5 := ex_5.trans (hs.a gq_4 rfl _).1.symm
          have ex_6 := ex_6.trans (hs.a gq_3 rfl _).1.symm
          have ex_7 := ex_7.trans (hs.a gq_2 rfl _).1.symm
          have ex_46 := ex_46.trans (hs.a gq_4 rfl _).1.symm
          have ex_47 := ex_47.trans (hs.a gq_3 rfl _).1.symm
          have ex_48 := ex_48.trans (hs.a gq_2 rfl _).1.symm
          have ex_53 := ex_53.trans (hs.a gq_50 rfl _).1.symm
          have hM := hM.tr (hs.mono (by decide))
          have gx := gx.S hs
          have gq_2 := gq_2.S hs
          have gq_3 := gq_3.S hs
          have gq_4 := gq_4.S hs
          have gq_50 := gq_50.S hs
          exact hx_reti hx hb hr hlk hW ⟨(by first | omega | (refine ⟨?_, ?_⟩ <;> omega)), hT, hM⟩ dX10_far_133
        · skip
          refine lv_bipush (v := 50) hx hb dX10_far_100 (by decide) ?_
          refine lv_goto (tgt := 121) hx hb dX10_far_102 (by decide) ?_
          refine lv_istore (lv' := [(6, .int (50 : Int32)), (5, .int x_48), (4, .int (50 : Int32)), (3, .int x_7), (0, .ref x), (1, .int i1), (2, .int i2)]) hx hb dX10_far_121 hl (by decide) rfl (fun ls hl => ?_)
          refine lv_iload_n hx hb dX10_far_123 rfl (lv_at hl 3 rfl) ?_
          refine lv_iload hx hb dX10_far_124 (lv_at hl 2 rfl) ?_
          refine lv_iload hx hb dX10_far_126 (lv_at hl 1 rfl) ?_
          refine lv_iload hx hb dX10_far_128 (lv_at hl 0 rfl) ?_
          have zc_50 : (50 : Int32).toInt = 50 := by decide
          refine hx_goi (hx_runS (As := [.int x_7, .int (50 : Int32), .int x_48, .int (50 : Int32)]) (rest := []) ⟨hx, hb, hml, hown, hts⟩ hW (t_X10_stepsBetween l dC dI dA L h s.heap.size x_7 (50 : Int32) x_48 (50 : Int32) hT ⟨by omega, by omega⟩ ⟨by omega, by omega⟩ ⟨by omega, by omega⟩ ⟨by omega, by omega⟩) (va_cwS 4 hts (hx_gS kw_1728 kw_1726 kw_1727 kw_103) rfl rfl rfl (by decide +kernel) ⟨Nat.le_of_ble_eq_true rfl, Nat.le_of_ble_eq_true rfl⟩) rfl hl.1 rfl (Nat.le_of_ble_eq_true rfl) dX10_far_130 ⟨Nat.le_of_ble_eq_true rfl, Nat.le_of_ble_eq_true rfl⟩) hW (fun r_61 L_59 h_60 H locs p_62 hW => ?_)
          obtain ⟨hr_63, hT, hs⟩ := p_62
          have hT : hx_T T_tb L_59 h_60 := hT
          have hs : hx_S T_tb [] L h L_59 h_60 := hs
          have f_x_90 := (hs.o gx trivial rfl).1.trans f_x_90
          have fq_2 := (hs.o gx trivial rfl).2.trans fq_2
          have fq_3 := (hs.o gx trivial rfl).2.trans fq_3
          have fq_4 := (hs.o gx trivial rfl).2.trans fq_4
          have ex_5 := ex_5.trans (hs.a gq_4 rfl _).1.symm
          have ex_6 := ex_6.trans (hs.a gq_3 rfl _).1.symm
          have ex_7 := ex_7.trans (hs.a gq_2 rfl _).1.symm
          have ex_46 := ex_46.trans (hs.a gq_4 rfl _).1.symm
          have ex_47 := ex_47.trans (hs.a gq_3 rfl _).1.symm
          have ex_48 := ex_48.trans (hs.a gq_2 rfl _).1.symm
          have hM := hM.tr (hs.mono (by decide))
          have gx := gx.S hs
          have gq_2 := gq_2.S hs
          have gq_3 := gq_3.S hs
          have gq_4 := gq_4.S hs
          exact hx_reti hx hb hr hlk hW ⟨(by first | omega | (refine ⟨?_, ?_⟩ <;> omega)), hT, hM⟩ dX10_far_133
      · skip
        refine lv_bipush (v := 50) hx hb dX10_far_69 (by decide) ?_
        refine lv_goto (tgt := 90) hx hb dX10_far_71 (by decide) ?_
        refine lv_istore (lv' := [(5, .int (50 : Int32)), (4, .int (50 : Int32)), (3, .int x_7), (0, .ref x), (1, .int i1), (2, .int i2)]) hx hb dX10_far_90 hl (by decide) rfl (fun ls hl => ?_)
        refine lv_iload_n hx hb dX10_far_92 rfl (lv_at hl 5 rfl) ?_
        refine lv_aload_n hx hb dX10_far_93 rfl (lv_at hl 3 rfl) ?_
        refine hk_geti hx hb hts hC_10 hown hW gx tt_10 90 (by decide) rfl kw_1233 ⟨rfl, rfl, rfl⟩ f_x_90 dX10_far_94 ?_
        refine hb_icmp_ne (zx := i2.toInt) (zy := n0.toInt) (tgt := 105) hx hb rfl rfl dX10_far_97 (by decide) (fun c_64 => ?_) (fun c_64 => ?_)
        · skip
          refine lv_aload_n hx hb dX10_far_105 rfl (lv_at hl 3 rfl) ?_
          refine hx_getn hx hb hts hC_10 hown hW hT gx tt_10 25 (by decide) rfl kw_1168 ⟨rfl, rfl, rfl⟩ dX10_far_106 (fun q_65 fq_65 gq_65 => ?_)
          refine lv_aload_n hx hb dX10_far_109 rfl (lv_at hl 3 rfl) ?_
          refine hk_getr hx hb hts hC_10 hown hW gx tt_10 38 (by decide) rfl kw_1181 ⟨rfl, rfl, rfl⟩ fq_3 dX10_far_110 ?_
          refine lv_aload_n hx hb dX10_far_113 rfl (lv_at hl 3 rfl) ?_
          refine hk_getr hx hb hts hC_10 hown hW gx tt_10 91 (by decide) rfl kw_1234 ⟨rfl, rfl, rfl⟩ fq_4 dX10_far_114 ?_
          refine lv_iload_n hx hb dX10_far_117 rfl (lv_at hl 5 rfl) ?_
          refine hx_iald hx hb hW hT gq_4 tt_112 rfl ⟨by omega, by omega⟩ dX10_far_118 (fun x_66 ex_66 lx_66 ux_66 => ?_)
          refine hx_iald hx hb hW hT gq_3 tt_73 rfl ⟨by omega, by omega⟩ dX10_far_119 (fun x_67 ex_67 lx_67 ux_67 => ?_)
          refine hx_iald hx hb hW hT gq_65 tt_62 rfl ⟨by omega, by omega⟩ dX10_far_120 (fun x_68 ex_68 lx_68 ux_68 => ?_)
          refine lv_istore (lv' := [(6, .int x_68), (5, .int (50 : Int32)), (4, .int (50 : Int32)), (3, .int x_7), (0, .ref x), (1, .int i1), (2, .int i2)]) hx hb dX10_far_121 hl (by decide) rfl (fun ls hl => ?_)
          refine lv_iload_n hx hb dX10_far_123 rfl (lv_at hl 3 rfl) ?_
          refine lv_iload hx hb dX10_far_124 (lv_at hl 2 rfl) ?_
          refine lv_iload hx hb dX10_far_126 (lv_at hl 1 rfl) ?_
          refine lv_iload hx hb dX10_far_128 (lv_at hl 0 rfl) ?_
          have zc_50 : (50 : Int32).toInt = 50 := by decide
          refine hx_goi (hx_runS (As := [.int x_7, .int (50 : Int32), .int (50 : Int32), .int x_68]) (rest := []) ⟨hx, hb, hml, hown, hts⟩ hW (t_X10_stepsBetween l dC dI dA L h s.heap.size x_7 (50 : Int32) (50 : Int32) x_68 hT ⟨by omega, by omega⟩ ⟨by omega, by omega⟩ ⟨by omega, by omega⟩ ⟨by omega, by omega⟩) (va_cwS 4 hts (hx_gS kw_1728 kw_1726 kw_1727 kw_103) rfl rfl rfl (by decide +kernel) ⟨Nat.le_of_ble_eq_true rfl, Nat.le_of_ble_eq_true rfl⟩) rfl hl.1 rfl (Nat.le_of_ble_eq_true rfl) dX10_far_130 ⟨Nat.le_of_ble_eq_true rfl, Nat.le_of_ble_eq_true rfl⟩) hW (fun r_71 L_69 h_70 H locs p_72 hW => ?_)
          obtain ⟨hr_73, hT, hs⟩ := p_72
          have hT : hx_T T_tb L_69 h_70 := hT
          have hs : hx_S T_tb [] L h L_69 h_70 := hs
          have f_x_90 := (hs.o gx trivial rfl).1.trans f_x_90
          have fq_2 := (hs.o gx trivial rfl).2.trans fq_2
          have fq_3 := (hs.o gx trivial rfl).2.trans fq_3
          have fq_4 := (hs.o gx trivial rfl).2.trans fq_4
          have fq_65 := (hs.o gx trivial rfl).2.trans fq_65
          have ex_5 := ex_5.trans (hs.a gq_4 rfl _).1.symm
          have ex_6 := ex_6.trans (hs.a gq_3 rfl _).1.symm
          have ex_7 := ex_7.trans (hs.a gq_2 rfl _).1.symm
          have ex_66 := ex_66.trans (hs.a gq_4 rfl _).1.symm
          have ex_67 := ex_67.trans (hs.a gq_3 rfl _).1.symm
          have ex_68 := ex_68.trans (hs.a gq_65 rfl _).1.symm
          have hM := hM.tr (hs.mono (by decide))
          have gx := gx.S hs
          have gq_2 := gq_2.S hs
          have gq_3 := gq_3.S hs
          have gq_4 := gq_4.S hs
          have gq_65 := gq_65.S hs
          exact hx_reti hx hb hr hlk hW ⟨(by first | omega | (refine ⟨?_, ?_⟩ <;> omega)), hT, hM⟩ dX10_far_133
        · skip
          refine lv_bipush (v := 50) hx hb dX10_far_100 (by decide) ?_
          refine lv_goto (tgt := 121) hx hb dX10_far_102 (by decide) ?_
          refine lv_istore (lv' := [(6, .int (50 : Int32)), (5, .int (50 : Int32)), (4, .int (50 : Int32)), (3, .int x_7), (0, .ref x), (1, .int i1), (2, .int i2)]) hx hb dX10_far_121 hl (by decide) rfl (fun ls hl => ?_)
          refine lv_iload_n hx hb dX10_far_123 rfl (lv_at hl 3 rfl) ?_
          refine lv_iload hx hb dX10_far_124 (lv_at hl 2 rfl) ?_
          refine lv_iload hx hb dX10_far_126 (lv_at hl 1 rfl) ?_
          refine lv_iload hx hb dX10_far_128 (lv_at hl 0 rfl) ?_
          have zc_50 : (50 : Int32).toInt = 50 := by decide
          refine hx_goi (hx_runS (As := [.int x_7, .int (50 : Int32), .int (50 : Int32), .int (50 : Int32)]) (rest := []) ⟨hx, hb, hml, hown, hts⟩ hW (t_X10_stepsBetween l dC dI dA L h s.heap.size x_7 (50 : Int32) (50 : Int32) (50 : Int32) hT ⟨by omega, by omega⟩ ⟨by omega, by omega⟩ ⟨by omega, by omega⟩ ⟨by omega, by omega⟩) (va_cwS 4 hts (hx_gS kw_1728 kw_1726 kw_1727 kw_103) rfl rfl rfl (by decide +kernel) ⟨Nat.le_of_ble_eq_true rfl, Nat.le_of_ble_eq_true rfl⟩) rfl hl.1 rfl (Nat.le_of_ble_eq_true rfl) dX10_far_130 ⟨Nat.le_of_ble_eq_true rfl, Nat.le_of_ble_eq_true rfl⟩) hW (fun r_76 L_74 h_75 H locs p_77 hW => ?_)
          obtain ⟨hr_78, hT, hs⟩ := p_77
          have hT : hx_T T_tb L_74 h_75 := hT
          have hs : hx_S T_tb [] L h L_74 h_75 := hs
          have f_x_90 := (hs.o gx trivial rfl).1.trans f_x_90
          have fq_2 := (hs.o gx trivial rfl).2.trans fq_2
          have fq_3 := (hs.o gx trivial rfl).2.trans fq_3
          have fq_4 := (hs.o gx trivial rfl).2.trans fq_4
          have ex_5 := ex_5.trans (hs.a gq_4 rfl _).1.symm
          have ex_6 := ex_6.trans (hs.a gq_3 rfl _).1.symm
          have ex_7 := ex_7.trans (hs.a gq_2 rfl _).1.symm
          have hM := hM.tr (hs.mono (by decide))
          have gx := gx.S hs
          have gq_2 := gq_2.S hs
          have gq_3 := gq_3.S hs
          have gq_4 := gq_4.S hs
          exact hx_reti hx hb hr hlk hW ⟨(by first | omega | (refine ⟨?_, ?_⟩ <;> omega)), hT, hM⟩ dX10_far_133
  · skip
    refine lv_bipush (v := 50) hx hb dX10_far_8 (by decide) ?_
    refine lv_goto (tgt := 29) hx hb dX10_far_10 (by decide) ?_
    refine lv_istore_n (lv' := [(3, .int (50 : Int32)), (0, .ref x), (1, .int i1), (2, .int i2)]) hx hb dX10_far_29 rfl hl (by decide) rfl (fun ls hl => ?_)
    refine lv_iload_n hx hb dX10_far_30 rfl (lv_at hl 2 rfl) ?_
    refine lv_aload_n hx hb dX10_far_31 rfl (lv_at hl 1 rfl) ?_
    refine hk_geti hx hb hts hC_10 hown hW gx tt_10 90 (by decide) rfl kw_1233 ⟨rfl, rfl, rfl⟩ f_x_90 dX10_far_32 ?_
    refine hb_icmp_ne (zx := i1.toInt) (zy := n0.toInt) (tgt := 43) hx hb rfl rfl dX10_far_35 (by decide) (fun c_79 => ?_) (fun c_79 => ?_)
    · skip
      refine lv_aload_n hx hb dX10_far_43 rfl (lv_at hl 1 rfl) ?_
      refine hx_getn hx hb hts hC_10 hown hW hT gx tt_10 25 (by decide) rfl kw_1168 ⟨rfl, rfl, rfl⟩ dX10_far_44 (fun q_80 fq_80 gq_80 => ?_)
      refine lv_aload_n hx hb dX10_far_47 rfl (lv_at hl 1 rfl) ?_
      refine hx_getn hx hb hts hC_10 hown hW hT gx tt_10 38 (by decide) rfl kw_1181 ⟨rfl, rfl, rfl⟩ dX10_far_48 (fun q_81 fq_81 gq_81 => ?_)
      refine lv_aload_n hx hb dX10_far_51 rfl (lv_at hl 1 rfl) ?_
      refine hx_getn hx hb hts hC_10 hown hW hT gx tt_10 91 (by decide) rfl kw_1234 ⟨rfl, rfl, rfl⟩ dX10_far_52 (fun q_82 fq_82 gq_82 => ?_)
      refine lv_iload_n hx hb dX10_far_55 rfl (lv_at hl 2 rfl) ?_
      refine hx_iald hx hb hW hT gq_82 tt_112 rfl ⟨by omega, by omega⟩ dX10_far_56 (fun x_83 ex_83 lx_83 ux_83 => ?_)
      refine hx_iald hx hb hW hT gq_81 tt_73 rfl ⟨by omega, by omega⟩ dX10_far_57 (fun x_84 ex_84 lx_84 ux_84 => ?_)
      refine hx_iald hx hb hW hT gq_80 tt_62 rfl ⟨by omega, by omega⟩ dX10_far_58 (fun x_85 ex_85 lx_85 ux_85 => ?_)
      refine lv_istore (lv' := [(4, .int x_85), (3, .int (50 : Int32)), (0, .ref x), (1, .int i1), (2, .int i2)]) hx hb dX10_far_59 hl (by decide) rfl (fun ls hl => ?_)
      refine lv_iload_n hx hb dX10_far_61 rfl (lv_at hl 4 rfl) ?_
      refine lv_aload_n hx hb dX10_far_62 rfl (lv_at hl 2 rfl) ?_
      refine hk_geti hx hb hts hC_10 hown hW gx tt_10 90 (by decide) rfl kw_1233 ⟨rfl, rfl, rfl⟩ f_x_90 dX10_far_63 ?_
      refine hb_icmp_ne (zx := i2.toInt) (zy := n0.toInt) (tgt := 74) hx hb rfl rfl dX10_far_66 (by decide) (fun c_86 => ?_) (fun c_86 => ?_)
      · skip
        refine lv_aload_n hx hb dX10_far_74 rfl (lv_at hl 2 rfl) ?_
        refine hx_getn hx hb hts hC_10 hown hW hT gx tt_10 24 (by decide) rfl kw_1167 ⟨rfl, rfl, rfl⟩ dX10_far_75 (fun q_87 fq_87 gq_87 => ?_)
        refine lv_aload_n hx hb dX10_far_78 rfl (lv_at hl 2 rfl) ?_
        refine hk_getr hx hb hts hC_10 hown hW gx tt_10 38 (by decide) rfl kw_1181 ⟨rfl, rfl, rfl⟩ fq_81 dX10_far_79 ?_
        refine lv_aload_n hx hb dX10_far_82 rfl (lv_at hl 2 rfl) ?_
        refine hk_getr hx hb hts hC_10 hown hW gx tt_10 91 (by decide) rfl kw_1234 ⟨rfl, rfl, rfl⟩ fq_82 dX10_far_83 ?_
        refine lv_iload_n hx hb dX10_far_86 rfl (lv_at hl 4 rfl) ?_
        refine hx_iald hx hb hW hT gq_82 tt_112 rfl ⟨by omega, by omega⟩ dX10_far_87 (fun x_88 ex_88 lx_88 ux_88 => ?_)
        refine hx_iald hx hb hW hT gq_81 tt_73 rfl ⟨by omega, by omega⟩ dX10_far_88 (fun x_89 ex_89 lx_89 ux_89 => ?_)
        refine hx_iald hx hb hW hT gq_87 tt_61 rfl ⟨by omega, by omega⟩ dX10_far_89 (fun x_90 ex_90 lx_90 ux_90 => ?_)
        refine lv_istore (lv' := [(5, .int x_90), (4, .int x_85), (3, .int (50 : Int32)), (0, .ref x), (1, .int i1), (2, .int i2)]) hx hb dX10_far_90 hl (by decide) rfl (fun ls hl => ?_)
        refine lv_iload_n hx hb dX10_far_92 rfl (lv_at hl 5 rfl) ?_
        refine lv_aload_n hx hb dX10_far_93 rfl (lv_at hl 3 rfl) ?_
        refine hk_geti hx hb hts hC_10 hown hW gx tt_10 90 (by decide) rfl kw_1233 ⟨rfl, rfl, rfl⟩ f_x_90 dX10_far_94 ?_
        refine hb_icmp_ne (zx := i2.toInt) (zy := n0.toInt) (tgt := 105) hx hb rfl rfl dX10_far_97 (by decide) (fun c_91 => ?_) (fun c_91 => ?_)
        · skip
          refine lv_aload_n hx hb dX10_far_105 rfl (lv_at hl 3 rfl) ?_
          refine hk_getr hx hb hts hC_10 hown hW gx tt_10 25 (by decide) rfl kw_1168 ⟨rfl, rfl, rfl⟩ fq_80 dX10_far_106 ?_
          refine lv_aload_n hx hb dX10_far_109 rfl (lv_at hl 3 rfl) ?_
          refine hk_getr hx hb hts hC_10 hown hW gx tt_10 38 (by decide) rfl kw_1181 ⟨rfl, rfl, rfl⟩ fq_81 dX10_far_110 ?_
          refine lv_aload_n hx hb dX10_far_113 rfl (lv_at hl 3 rfl) ?_
          refine hk_getr hx hb hts hC_10 hown hW gx tt_10 91 (by decide) rfl kw_1234 ⟨rfl, rfl, rfl⟩ fq_82 dX10_far_114 ?_
          refine lv_iload_n hx hb dX10_far_117 rfl (lv_at hl 5 rfl) ?_
          refine hx_iald hx hb hW hT gq_82 tt_112 rfl ⟨by omega, by omega⟩ dX10_far_118 (fun x_92 ex_92 lx_92 ux_92 => ?_)
          obtain rfl : x_88 = x_92 := ex_88.trans ex_92.symm
          refine hx_iald hx hb hW hT gq_81 tt_73 rfl ⟨by omega, by omega⟩ dX10_far_119 (fun x_93 ex_93 lx_93 ux_93 => ?_)
          obtain rfl : x_89 = x_93 := ex_89.trans ex_93.symm
          refine hx_iald hx hb hW hT gq_80 tt_62 rfl ⟨by omega, by omega⟩ dX10_far_120 (fun x_94 ex_94 lx_94 ux_94 => ?_)
          refine lv_istore (lv' := [(6, .int x_94), (5, .int x_90), (4, .int x_85), (3, .int (50 : Int32)), (0, .ref x), (1, .int i1), (2, .int i2)]) hx hb dX10_far_121 hl (by decide) rfl (fun ls hl => ?_)
          refine lv_iload_n hx hb dX10_far_123 rfl (lv_at hl 3 rfl) ?_
          refine lv_iload hx hb dX10_far_124 (lv_at hl 2 rfl) ?_
          refine lv_iload hx hb dX10_far_126 (lv_at hl 1 rfl) ?_
          refine lv_iload hx hb dX10_far_128 (lv_at hl 0 rfl) ?_
          have zc_50 : (50 : Int32).toInt = 50 := by decide
          refine hx_goi (hx_runS (As := [.int (50 : Int32), .int x_85, .int x_90, .int x_94]) (rest := []) ⟨hx, hb, hml, hown, hts⟩ hW (t_X10_stepsBetween l dC dI dA L h s.heap.size (50 : Int32) x_85 x_90 x_94 hT ⟨by omega, by omega⟩ ⟨by omega, by omega⟩ ⟨by omega, by omega⟩ ⟨by omega, by omega⟩) (va_cwS 4 hts (hx_gS kw_1728 kw_1726 kw_1727 kw_103) rfl rfl rfl (by decide +kernel) ⟨Nat.le_of_ble_eq_true rfl, Nat.le_of_ble_eq_true rfl⟩) rfl hl.1 rfl (Nat.le_of_ble_eq_true rfl) dX10_far_130 ⟨Nat.le_of_ble_eq_true rfl, Nat.le_of_ble_eq_true rfl⟩) hW (fun r_97 L_95 h_96 H locs p_98 hW => ?_)
          obtain ⟨hr_99, hT, hs⟩ := p_98
          have hT : hx_T T_tb L_95 h_96 := hT
          have hs : hx_S T_tb [] L h L_95 h_96 := hs
          have f_x_90 := (hs.o gx trivial rfl).1.trans f_x_90
          have fq_80 := (hs.o gx trivial rfl).2.trans fq_80
          have fq_81 := (hs.o gx trivial rfl).2.trans fq_81
          have fq_82 := (hs.o gx trivial rfl).2.trans fq_82
          have fq_87 := (hs.o gx trivial rfl).2.trans fq_87
          have ex_83 := ex_83.trans (hs.a gq_82 rfl _).1.symm
          have ex_84 := ex_84.trans (hs.a gq_81 rfl _).1.symm
          have ex_85 := ex_85.trans (hs.a gq_80 rfl _).1.symm
          have ex_88 := ex_88.trans (hs.a gq_82 rfl _).1.symm
          have ex_89 := ex_89.trans (hs.a gq_81 rfl _).1.symm
          have ex_90 := ex_90.trans (hs.a gq_87 rfl _).1.symm
          have ex_94 := ex_94.trans (hs.a gq_80 rfl _).1.symm
          have hM := hM.tr (hs.mono (by decide))
          have gx := gx.S hs
          have gq_80 := gq_80.S hs
          have gq_81 := gq_81.S hs
          have gq_82 := gq_82.S hs
          have gq_87 := gq_87.S hs
          exact hx_reti hx hb hr hlk hW ⟨(by first | omega | (refine ⟨?_, ?_⟩ <;> omega)), hT, hM⟩ dX10_far_133
        · skip
          refine lv_bipush (v := 50) hx hb dX10_far_100 (by decide) ?_
          refine lv_goto (tgt := 121) hx hb dX10_far_102 (by decide) ?_
          refine lv_istore (lv' := [(6, .int (50 : Int32)), (5, .int x_90), (4, .int x_85), (3, .int (50 : Int32)), (0, .ref x), (1, .int i1), (2, .int i2)]) hx hb dX10_far_121 hl (by decide) rfl (fun ls hl => ?_)
          refine lv_iload_n hx hb dX10_far_123 rfl (lv_at hl 3 rfl) ?_
          refine lv_iload hx hb dX10_far_124 (lv_at hl 2 rfl) ?_
          refine lv_iload hx hb dX10_far_126 (lv_at hl 1 rfl) ?_
          refine lv_iload hx hb dX10_far_128 (lv_at hl 0 rfl) ?_
          have zc_50 : (50 : Int32).toInt = 50 := by decide
          refine hx_goi (hx_runS (As := [.int (50 : Int32), .int x_85, .int x_90, .int (50 : Int32)]) (rest := []) ⟨hx, hb, hml, hown, hts⟩ hW (t_X10_stepsBetween l dC dI dA L h s.heap.size (50 : Int32) x_85 x_90 (50 : Int32) hT ⟨by omega, by omega⟩ ⟨by omega, by omega⟩ ⟨by omega, by omega⟩ ⟨by omega, by omega⟩) (va_cwS 4 hts (hx_gS kw_1728 kw_1726 kw_1727 kw_103) rfl rfl rfl (by decide +kernel) ⟨Nat.le_of_ble_eq_true rfl, Nat.le_of_ble_eq_true rfl⟩) rfl hl.1 rfl (Nat.le_of_ble_eq_true rfl) dX10_far_130 ⟨Nat.le_of_ble_eq_true rfl, Nat.le_of_ble_eq_true rfl⟩) hW (fun r_102 L_100 h_101 H locs p_103 hW => ?_)
          obtain ⟨hr_104, hT, hs⟩ := p_103
          have hT : hx_T T_tb L_100 h_101 := hT
          have hs : hx_S T_tb [] L h L_100 h_101 := hs
          have f_x_90 := (hs.o gx trivial rfl).1.trans f_x_90
          have fq_80 := (hs.o gx trivial rfl).2.trans fq_80
          have fq_81 := (hs.o gx trivial rfl).2.trans fq_81
          have fq_82 := (hs.o gx trivial rfl).2.trans fq_82
          have fq_87 := (hs.o gx trivial rfl).2.trans fq_87
          have ex_83 := ex_83.trans (hs.a gq_82 rfl _).1.symm
          have ex_84 := ex_84.trans (hs.a gq_81 rfl _).1.symm
          have ex_85 := ex_85.trans (hs.a gq_80 rfl _).1.symm
          have ex_88 := ex_88.trans (hs.a gq_82 rfl _).1.symm
          have ex_89 := ex_89.trans (hs.a gq_81 rfl _).1.symm
          have ex_90 := ex_90.trans (hs.a gq_87 rfl _).1.symm
          have hM := hM.tr (hs.mono (by decide))
          have gx := gx.S hs
          have gq_80 := gq_80.S hs
          have gq_81 := gq_81.S hs
          have gq_82 := gq_82.S hs
          have gq_87 := gq_87.S hs
          exact hx_reti hx hb hr hlk hW ⟨(by first | omega | (refine ⟨?_, ?_⟩ <;> omega)), hT, hM⟩ dX10_far_133
      · skip
        refine lv_bipush (v := 50) hx hb dX10_far_69 (by decide) ?_
        refine lv_goto (tgt := 90) hx hb dX10_far_71 (by decide) ?_
        refine lv_istore (lv' := [(5, .int (50 : Int32)), (4, .int x_85), (3, .int (50 : Int32)), (0, .ref x), (1, .int i1), (2, .int i2)]) hx hb dX10_far_90 hl (by decide) rfl (fun ls hl => ?_)
        refine lv_iload_n hx hb dX10_far_92 rfl (lv_at hl 5 rfl) ?_
        refine lv_aload_n hx hb dX10_far_93 rfl (lv_at hl 3 rfl) ?_
        refine hk_geti hx hb hts hC_10 hown hW gx tt_10 90 (by decide) rfl kw_1233 ⟨rfl, rfl, rfl⟩ f_x_90 dX10_far_94 ?_
        refine hb_icmp_ne (zx := i2.toInt) (zy := n0.toInt) (tgt := 105) hx hb rfl rfl dX10_far_97 (by decide) (fun c_105 => ?_) (fun c_105 => ?_)
        · skip
          refine lv_aload_n hx hb dX10_far_105 rfl (lv_at hl 3 rfl) ?_
          refine hk_getr hx hb hts hC_10 hown hW gx tt_10 25 (by decide) rfl kw_1168 ⟨rfl, rfl, rfl⟩ fq_80 dX10_far_106 ?_
          refine lv_aload_n hx hb dX10_far_109 rfl (lv_at hl 3 rfl) ?_
          refine hk_getr hx hb hts hC_10 hown hW gx tt_10 38 (by decide) rfl kw_1181 ⟨rfl, rfl, rfl⟩ fq_81 dX10_far_110 ?_
          refine lv_aload_n hx hb dX10_far_113 rfl (lv_at hl 3 rfl) ?_
          refine hk_getr hx hb hts hC_10 hown hW gx tt_10 91 (by decide) rfl kw_1234 ⟨rfl, rfl, rfl⟩ fq_82 dX10_far_114 ?_
          refine lv_iload_n hx hb dX10_far_117 rfl (lv_at hl 5 rfl) ?_
          refine hx_iald hx hb hW hT gq_82 tt_112 rfl ⟨by omega, by omega⟩ dX10_far_118 (fun x_106 ex_106 lx_106 ux_106 => ?_)
          refine hx_iald hx hb hW hT gq_81 tt_73 rfl ⟨by omega, by omega⟩ dX10_far_119 (fun x_107 ex_107 lx_107 ux_107 => ?_)
          refine hx_iald hx hb hW hT gq_80 tt_62 rfl ⟨by omega, by omega⟩ dX10_far_120 (fun x_108 ex_108 lx_108 ux_108 => ?_)
          refine lv_istore (lv' := [(6, .int x_108), (5, .int (50 : Int32)), (4, .int x_85), (3, .int (50 : Int32)), (0, .ref x), (1, .int i1), (2, .int i2)]) hx hb dX10_far_121 hl (by decide) rfl (fun ls hl => ?_)
          refine lv_iload_n hx hb dX10_far_123 rfl (lv_at hl 3 rfl) ?_
          refine lv_iload hx hb dX10_far_124 (lv_at hl 2 rfl) ?_
          refine lv_iload hx hb dX10_far_126 (lv_at hl 1 rfl) ?_
          refine lv_iload hx hb dX10_far_128 (lv_at hl 0 rfl) ?_
          have zc_50 : (50 : Int32).toInt = 50 := by decide
          refine hx_goi (hx_runS (As := [.int (50 : Int32), .int x_85, .int (50 : Int32), .int x_108]) (rest := []) ⟨hx, hb, hml, hown, hts⟩ hW (t_X10_stepsBetween l dC dI dA L h s.heap.size (50 : Int32) x_85 (50 : Int32) x_108 hT ⟨by omega, by omega⟩ ⟨by omega, by omega⟩ ⟨by omega, by omega⟩ ⟨by omega, by omega⟩) (va_cwS 4 hts (hx_gS kw_1728 kw_1726 kw_1727 kw_103) rfl rfl rfl (by decide +kernel) ⟨Nat.le_of_ble_eq_true rfl, Nat.le_of_ble_eq_true rfl⟩) rfl hl.1 rfl (Nat.le_of_ble_eq_true rfl) dX10_far_130 ⟨Nat.le_of_ble_eq_true rfl, Nat.le_of_ble_eq_true rfl⟩) hW (fun r_111 L_109 h_110 H locs p_112 hW => ?_)
          obtain ⟨hr_113, hT, hs⟩ := p_112
          have hT : hx_T T_tb L_109 h_110 := hT
          have hs : hx_S T_tb [] L h L_109 h_110 := hs
          have f_x_90 := (hs.o gx trivial rfl).1.trans f_x_90
          have fq_80 := (hs.o gx trivial rfl).2.trans fq_80
          have fq_81 := (hs.o gx trivial rfl).2.trans fq_81
          have fq_82 := (hs.o gx trivial rfl).2.trans fq_82
          have ex_83 := ex_83.trans (hs.a gq_82 rfl _).1.symm
          have ex_84 := ex_84.trans (hs.a gq_81 rfl _).1.symm
          have ex_85 := ex_85.trans (hs.a gq_80 rfl _).1.symm
          have ex_106 := ex_106.trans (hs.a gq_82 rfl _).1.symm
          have ex_107 := ex_107.trans (hs.a gq_81 rfl _).1.symm
          have ex_108 := ex_108.trans (hs.a gq_80 rfl _).1.symm
          have hM := hM.tr (hs.mono (by decide))
          have gx := gx.S hs
          have gq_80 := gq_80.S hs
          have gq_81 := gq_81.S hs
          have gq_82 := gq_82.S hs
          exact hx_reti hx hb hr hlk hW ⟨(by first | omega | (refine ⟨?_, ?_⟩ <;> omega)), hT, hM⟩ dX10_far_133
        · skip
          refine lv_bipush (v := 50) hx hb dX10_far_100 (by decide) ?_
          refine lv_goto (tgt := 121) hx hb dX10_far_102 (by decide) ?_
          refine lv_istore (lv' := [(6, .int (50 : Int32)), (5, .int (50 : Int32)), (4, .int x_85), (3, .int (50 : Int32)), (0, .ref x), (1, .int i1), (2, .int i2)]) hx hb dX10_far_121 hl (by decide) rfl (fun ls hl => ?_)
          refine lv_iload_n hx hb dX10_far_123 rfl (lv_at hl 3 rfl) ?_
          refine lv_iload hx hb dX10_far_124 (lv_at hl 2 rfl) ?_
          refine lv_iload hx hb dX10_far_126 (lv_at hl 1 rfl) ?_
          refine lv_iload hx hb dX10_far_128 (lv_at hl 0 rfl) ?_
          have zc_50 : (50 : Int32).toInt = 50 := by decide
          refine hx_goi (hx_runS (As := [.int (50 : Int32), .int x_85, .int (50 : Int32), .int (50 : Int32)]) (rest := []) ⟨hx, hb, hml, hown, hts⟩ hW (t_X10_stepsBetween l dC dI dA L h s.heap.size (50 : Int32) x_85 (50 : Int32) (50 : Int32) hT ⟨by omega, by omega⟩ ⟨by omega, by omega⟩ ⟨by omega, by omega⟩ ⟨by omega, by omega⟩) (va_cwS 4 hts (hx_gS kw_1728 kw_1726 kw_1727 kw_103) rfl rfl rfl (by decide +kernel) ⟨Nat.le_of_ble_eq_true rfl, Nat.le_of_ble_eq_true rfl⟩) rfl hl.1 rfl (Nat.le_of_ble_eq_true rfl) dX10_far_130 ⟨Nat.le_of_ble_eq_true rfl, Nat.le_of_ble_eq_true rfl⟩) hW (fun r_116 L_114 h_115 H locs p_117 hW => ?_)
          obtain ⟨hr_118, hT, hs⟩ := p_117
          have hT : hx_T T_tb L_114 h_115 := hT
          have hs : hx_S T_tb [] L h L_114 h_115 := hs
          have f_x_90 := (hs.o gx trivial rfl).1.trans f_x_90
          have fq_80 := (hs.o gx trivial rfl).2.trans fq_80
          have fq_81 := (hs.o gx trivial rfl).2.trans fq_81
          have fq_82 := (hs.o gx trivial rfl).2.trans fq_82
          have ex_83 := ex_83.trans (hs.a gq_82 rfl _).1.symm
          have ex_84 := ex_84.trans (hs.a gq_81 rfl _).1.symm
          have ex_85 := ex_85.trans (hs.a gq_80 rfl _).1.symm
          have hM := hM.tr (hs.mono (by decide))
          have gx := gx.S hs
          have gq_80 := gq_80.S hs
          have gq_81 := gq_81.S hs
          have gq_82 := gq_82.S hs
          exact hx_reti hx hb hr hlk hW ⟨(by first | omega | (refine ⟨?_, ?_⟩ <;> omega)), hT, hM⟩ dX10_far_133
    · skip
      refine lv_bipush (v := 50) hx hb dX10_far_38 (by decide) ?_
      refine lv_goto (tgt := 59) hx hb dX10_far_40 (by decide) ?_
      refine lv_istore (lv' := [(4, .int (50 : Int32)), (3, .int (50 : Int32)), (0, .ref x), (1, .int i1), (2, .int i2)]) hx hb dX10_far_59 hl (by decide) rfl (fun ls hl => ?_)
      refine lv_iload_n hx hb dX10_far_61 rfl (lv_at hl 4 rfl) ?_
      refine lv_aload_n hx hb dX10_far_62 rfl (lv_at hl 2 rfl) ?_
      refine hk_geti hx hb hts hC_10 hown hW gx tt_10 90 (by decide) rfl kw_1233 ⟨rfl, rfl, rfl⟩ f_x_90 dX10_far_63 ?_
      refine hb_icmp_ne (zx := i2.toInt) (zy := n0.toInt) (tgt := 74) hx hb rfl rfl dX10_far_66 (by decide) (fun c_119 => ?_) (fun c_119 => ?_)
      · skip
        refine lv_aload_n hx hb dX10_far_74 rfl (lv_at hl 2 rfl) ?_
        refine hx_getn hx hb hts hC_10 hown hW hT gx tt_10 24 (by decide) rfl kw_1167 ⟨rfl, rfl, rfl⟩ dX10_far_75 (fun q_120 fq_120 gq_120 => ?_)
        refine lv_aload_n hx hb dX10_far_78 rfl (lv_at hl 2 rfl) ?_
        refine hx_getn hx hb hts hC_10 hown hW hT gx tt_10 38 (by decide) rfl kw_1181 ⟨rfl, rfl, rfl⟩ dX10_far_79 (fun q_121 fq_121 gq_121 => ?_)
        refine lv_aload_n hx hb dX10_far_82 rfl (lv_at hl 2 rfl) ?_
        refine hx_getn hx hb hts hC_10 hown hW hT gx tt_10 91 (by decide) rfl kw_1234 ⟨rfl, rfl, rfl⟩ dX10_far_83 (fun q_122 fq_122 gq_122 => ?_)
        refine lv_iload_n hx hb dX10_far_86 rfl (lv_at hl 4 rfl) ?_
        refine hx_iald hx hb hW hT gq_122 tt_112 rfl ⟨by omega, by omega⟩ dX10_far_87 (fun x_123 ex_123 lx_123 ux_123 => ?_)
        refine hx_iald hx hb hW hT gq_121 tt_73 rfl ⟨by omega, by omega⟩ dX10_far_88 (fun x_124 ex_124 lx_124 ux_124 => ?_)
        refine hx_iald hx hb hW hT gq_120 tt_61 rfl ⟨by omega, by omega⟩ dX10_far_89 (fun x_125 ex_125 lx_125 ux_125 => ?_)
        refine lv_istore (lv' := [(5, .int x_125), (4, .int (50 : Int32)), (3, .int (50 : Int32)), (0, .ref x), (1, .int i1), (2, .int i2)]) hx hb dX10_far_90 hl (by decide) rfl (fun ls hl => ?_)
        refine lv_iload_n hx hb dX10_far_92 rfl (lv_at hl 5 rfl) ?_
        refine lv_aload_n hx hb dX10_far_93 rfl (lv_at hl 3 rfl) ?_
        refine hk_geti hx hb hts hC_10 hown hW gx tt_10 90 (by decide) rfl kw_1233 ⟨rfl, rfl, rfl⟩ f_x_90 dX10_far_94 ?_
        refine hb_icmp_ne (zx := i2.toInt) (zy := n0.toInt) (tgt := 105) hx hb rfl rfl dX10_far_97 (by decide) (fun c_126 => ?_) (fun c_126 => ?_)
        · skip
          refine lv_aload_n hx hb dX10_far_105 rfl (lv_at hl 3 rfl) ?_
          refine hx_getn hx hb hts hC_10 hown hW hT gx tt_10 25 (by decide) rfl kw_1168 ⟨rfl, rfl, rfl⟩ dX10_far_106 (fun q_127 fq_127 gq_127 => ?_)
          refine lv_aload_n hx hb dX10_far_109 rfl (lv_at hl 3 rfl) ?_
          refine hk_getr hx hb hts hC_10 hown hW gx tt_10 38 (by decide) rfl kw_1181 ⟨rfl, rfl, rfl⟩ fq_121 dX10_far_110 ?_
          refine lv_aload_n hx hb dX10_far_113 rfl (lv_at hl 3 rfl) ?_
          refine hk_getr hx hb hts hC_10 hown hW gx tt_10 91 (by decide) rfl kw_1234 ⟨rfl, rfl, rfl⟩ fq_122 dX10_far_114 ?_
          refine lv_iload_n hx hb dX10_far_117 rfl (lv_at hl 5 rfl) ?_
          refine hx_iald hx hb hW hT gq_122 tt_112 rfl ⟨by omega, by omega⟩ dX10_far_118 (fun x_128 ex_128 lx_128 ux_128 => ?_)
          obtain rfl : x_123 = x_128 := ex_123.trans ex_128.symm
          refine hx_iald hx hb hW hT gq_121 tt_73 rfl ⟨by omega, by omega⟩ dX10_far_119 (fun x_129 ex_129 lx_129 ux_129 => ?_)
          obtain rfl : x_124 = x_129 := ex_124.trans ex_129.symm
          refine hx_iald hx hb hW hT gq_127 tt_62 rfl ⟨by omega, by omega⟩ dX10_far_120 (fun x_130 ex_130 lx_130 ux_130 => ?_)
          refine lv_istore (lv' := [(6, .int x_130), (5, .int x_125), (4, .int (50 : Int32)), (3, .int (50 : Int32)), (0, .ref x), (1, .int i1), (2, .int i2)]) hx hb dX10_far_121 hl (by decide) rfl (fun ls hl => ?_)
          refine lv_iload_n hx hb dX10_far_123 rfl (lv_at hl 3 rfl) ?_
          refine lv_iload hx hb dX10_far_124 (lv_at hl 2 rfl) ?_
          refine lv_iload hx hb dX10_far_126 (lv_at hl 1 rfl) ?_
          refine lv_iload hx hb dX10_far_128 (lv_at hl 0 rfl) ?_
          have zc_50 : (50 : Int32).toInt = 50 := by decide
          refine hx_goi (hx_runS (As := [.int (50 : Int32), .int (50 : Int32), .int x_125, .int x_130]) (rest := []) ⟨hx, hb, hml, hown, hts⟩ hW (t_X10_stepsBetween l dC dI dA L h s.heap.size (50 : Int32) (50 : Int32) x_125 x_130 hT ⟨by omega, by omega⟩ ⟨by omega, by omega⟩ ⟨by omega, by omega⟩ ⟨by omega, by omega⟩) (va_cwS 4 hts (hx_gS kw_1728 kw_1726 kw_1727 kw_103) rfl rfl rfl (by decide +kernel) ⟨Nat.le_of_ble_eq_true rfl, Nat.le_of_ble_eq_true rfl⟩) rfl hl.1 rfl (Nat.le_of_ble_eq_true rfl) dX10_far_130 ⟨Nat.le_of_ble_eq_true rfl, Nat.le_of_ble_eq_true rfl⟩) hW (fun r_133 L_131 h_132 H locs p_134 hW => ?_)
          obtain ⟨hr_135, hT, hs⟩ := p_134
          have hT : hx_T T_tb L_131 h_132 := hT
          have hs : hx_S T_tb [] L h L_131 h_132 := hs
          have f_x_90 := (hs.o gx trivial rfl).1.trans f_x_90
          have fq_120 := (hs.o gx trivial rfl).2.trans fq_120
          have fq_121 := (hs.o gx trivial rfl).2.trans fq_121
          have fq_122 := (hs.o gx trivial rfl).2.trans fq_122
          have fq_127 := (hs.o gx trivial rfl).2.trans fq_127
          have ex_123 := ex_123.trans (hs.a gq_122 rfl _).1.symm
          have ex_124 := ex_124.trans (hs.a gq_121 rfl _).1.symm
          have ex_125 := ex_125.trans (hs.a gq_120 rfl _).1.symm
          have ex_130 := ex_130.trans (hs.a gq_127 rfl _).1.symm
          have hM := hM.tr (hs.mono (by decide))
          have gx := gx.S hs
          have gq_120 := gq_120.S hs
          have gq_121 := gq_121.S hs
          have gq_122 := gq_122.S hs
          have gq_127 := gq_127.S hs
          exact hx_reti hx hb hr hlk hW ⟨(by first | omega | (refine ⟨?_, ?_⟩ <;> omega)), hT, hM⟩ dX10_far_133
        · skip
          refine lv_bipush (v := 50) hx hb dX10_far_100 (by decide) ?_
          refine lv_goto (tgt := 121) hx hb dX10_far_102 (by decide) ?_
          refine lv_istore (lv' := [(6, .int (50 : Int32)), (5, .int x_125), (4, .int (50 : Int32)), (3, .int (50 : Int32)), (0, .ref x), (1, .int i1), (2, .int i2)]) hx hb dX10_far_121 hl (by decide) rfl (fun ls hl => ?_)
          refine lv_iload_n hx hb dX10_far_123 rfl (lv_at hl 3 rfl) ?_
          refine lv_iload hx hb dX10_far_124 (lv_at hl 2 rfl) ?_
          refine lv_iload hx hb dX10_far_126 (lv_at hl 1 rfl) ?_
          refine lv_iload hx hb dX10_far_128 (lv_at hl 0 rfl) ?_
          have zc_50 : (50 : Int32).toInt = 50 := by decide
          refine hx_goi (hx_runS (As := [.int (50 : Int32), .int (50 : Int32), .int x_125, .int (50 : Int32)]) (rest := []) ⟨hx, hb, hml, hown, hts⟩ hW (t_X10_stepsBetween l dC dI dA L h s.heap.size (50 : Int32) (50 : Int32) x_125 (50 : Int32) hT ⟨by omega, by omega⟩ ⟨by omega, by omega⟩ ⟨by omega, by omega⟩ ⟨by omega, by omega⟩) (va_cwS 4 hts (hx_gS kw_1728 kw_1726 kw_1727 kw_103) rfl rfl rfl (by decide +kernel) ⟨Nat.le_of_ble_eq_true rfl, Nat.le_of_ble_eq_true rfl⟩) rfl hl.1 rfl (Nat.le_of_ble_eq_true rfl) dX10_far_130 ⟨Nat.le_of_ble_eq_true rfl, Nat.le_of_ble_eq_true rfl⟩) hW (fun r_138 L_136 h_137 H locs p_139 hW => ?_)
          obtain ⟨hr_140, hT, hs⟩ := p_139
          have hT : hx_T T_tb L_136 h_137 := hT
          have hs : hx_S T_tb [] L h L_136 h_137 := hs
          have f_x_90 := (hs.o gx trivial rfl).1.trans f_x_90
          have fq_120 := (hs.o gx trivial rfl).2.trans fq_120
          have fq_121 := (hs.o gx trivial rfl).2.trans fq_121
          have fq_122 := (hs.o gx trivial rfl).2.trans fq_122
          have ex_123 := ex_123.trans (hs.a gq_122 rfl _).1.symm
          have ex_124 := ex_124.trans (hs.a gq_121 rfl _).1.symm
          have ex_125 := ex_125.trans (hs.a gq_120 rfl _).1.symm
          have hM := hM.tr (hs.mono (by decide))
          have gx := gx.S hs
          have gq_120 := gq_120.S hs
          have gq_121 := gq_121.S hs
          have gq_122 := gq_122.S hs
          exact hx_reti hx hb hr hlk hW ⟨(by first | omega | (refine ⟨?_, ?_⟩ <;> omega)), hT, hM⟩ dX10_far_133
      · skip
        refine lv_bipush (v := 50) hx hb dX10_far_69 (by decide) ?_
        refine lv_goto (tgt := 90) hx hb dX10_far_71 (by decide) ?_
        refine lv_istore (lv' := [(5, .int (50 : Int32)), (4, .int (50 : Int32)), (3, .int (50 : Int32)), (0, .ref x), (1, .int i1), (2, .int i2)]) hx hb dX10_far_90 hl (by decide) rfl (fun ls hl => ?_)
        refine lv_iload_n hx hb dX10_far_92 rfl (lv_at hl 5 rfl) ?_
        refine lv_aload_n hx hb dX10_far_93 rfl (lv_at hl 3 rfl) ?_
        refine hk_geti hx hb hts hC_10 hown hW gx tt_10 90 (by decide) rfl kw_1233 ⟨rfl, rfl, rfl⟩ f_x_90 dX10_far_94 ?_
        refine hb_icmp_ne (zx := i2.toInt) (zy := n0.toInt) (tgt := 105) hx hb rfl rfl dX10_far_97 (by decide) (fun c_141 => ?_) (fun c_141 => ?_)
        · skip
          refine lv_aload_n hx hb dX10_far_105 rfl (lv_at hl 3 rfl) ?_
          refine hx_getn hx hb hts hC_10 hown hW hT gx tt_10 25 (by decide) rfl kw_1168 ⟨rfl, rfl, rfl⟩ dX10_far_106 (fun q_142 fq_142 gq_142 => ?_)
          refine lv_aload_n hx hb dX10_far_109 rfl (lv_at hl 3 rfl) ?_
          refine hx_getn hx hb hts hC_10 hown hW hT gx tt_10 38 (by decide) rfl kw_1181 ⟨rfl, rfl, rfl⟩ dX10_far_110 (fun q_143 fq_143 gq_143 => ?_)
          refine lv_aload_n hx hb dX10_far_113 rfl (lv_at hl 3 rfl) ?_
          refine hx_getn hx hb hts hC_10 hown hW hT gx tt_10 91 (by decide) rfl kw_1234 ⟨rfl, rfl, rfl⟩ dX10_far_114 (fun q_144 fq_144 gq_144 => ?_)
          refine lv_iload_n hx hb dX10_far_117 rfl (lv_at hl 5 rfl) ?_
          refine hx_iald hx hb hW hT gq_144 tt_112 rfl ⟨by omega, by omega⟩ dX10_far_118 (fun x_145 ex_145 lx_145 ux_145 => ?_)
          refine hx_iald hx hb hW hT gq_143 tt_73 rfl ⟨by omega, by omega⟩ dX10_far_119 (fun x_146 ex_146 lx_146 ux_146 => ?_)
          refine hx_iald hx hb hW hT gq_142 tt_62 rfl ⟨by omega, by omega⟩ dX10_far_120 (fun x_147 ex_147 lx_147 ux_147 => ?_)
          refine lv_istore (lv' := [(6, .int x_147), (5, .int (50 : Int32)), (4, .int (50 : Int32)), (3, .int (50 : Int32)), (0, .ref x), (1, .int i1), (2, .int i2)]) hx hb dX10_far_121 hl (by decide) rfl (fun ls hl => ?_)
          refine lv_iload_n hx hb dX10_far_123 rfl (lv_at hl 3 rfl) ?_
          refine lv_iload hx hb dX10_far_124 (lv_at hl 2 rfl) ?_
          refine lv_iload hx hb dX10_far_126 (lv_at hl 1 rfl) ?_
          refine lv_iload hx hb dX10_far_128 (lv_at hl 0 rfl) ?_
          have zc_50 : (50 : Int32).toInt = 50 := by decide
          refine hx_goi (hx_runS (As := [.int (50 : Int32), .int (50 : Int32), .int (50 : Int32), .int x_147]) (rest := []) ⟨hx, hb, hml, hown, hts⟩ hW (t_X10_stepsBetween l dC dI dA L h s.heap.size (50 : Int32) (50 : Int32) (50 : Int32) x_147 hT ⟨by omega, by omega⟩ ⟨by omega, by omega⟩ ⟨by omega, by omega⟩ ⟨by omega, by omega⟩) (va_cwS 4 hts (hx_gS kw_1728 kw_1726 kw_1727 kw_103) rfl rfl rfl (by decide +kernel) ⟨Nat.le_of_ble_eq_true rfl, Nat.le_of_ble_eq_true rfl⟩) rfl hl.1 rfl (Nat.le_of_ble_eq_true rfl) dX10_far_130 ⟨Nat.le_of_ble_eq_true rfl, Nat.le_of_ble_eq_true rfl⟩) hW (fun r_150 L_148 h_149 H locs p_151 hW => ?_)
          obtain ⟨hr_152, hT, hs⟩ := p_151
          have hT : hx_T T_tb L_148 h_149 := hT
          have hs : hx_S T_tb [] L h L_148 h_149 := hs
          have f_x_90 := (hs.o gx trivial rfl).1.trans f_x_90
          have fq_142 := (hs.o gx trivial rfl).2.trans fq_142
          have fq_143 := (hs.o gx trivial rfl).2.trans fq_143
          have fq_144 := (hs.o gx trivial rfl).2.trans fq_144
          have ex_145 := ex_145.trans (hs.a gq_144 rfl _).1.symm
          have ex_146 := ex_146.trans (hs.a gq_143 rfl _).1.symm
          have ex_147 := ex_147.trans (hs.a gq_142 rfl _).1.symm
          have hM := hM.tr (hs.mono (by decide))
          have gx := gx.S hs
          have gq_142 := gq_142.S hs
          have gq_143 := gq_143.S hs
          have gq_144 := gq_144.S hs
          exact hx_reti hx hb hr hlk hW ⟨(by first | omega | (refine ⟨?_, ?_⟩ <;> omega)), hT, hM⟩ dX10_far_133
        · skip
          refine lv_bipush (v := 50) hx hb dX10_far_100 (by decide) ?_
          refine lv_goto (tgt := 121) hx hb dX10_far_102 (by decide) ?_
          refine lv_istore (lv' := [(6, .int (50 : Int32)), (5, .int (50 : Int32)), (4, .int (50 : Int32)), (3, .int (50 : Int32)), (0, .ref x), (1, .int i1), (2, .int i2)]) hx hb dX10_far_121 hl (by decide) rfl (fun ls hl => ?_)
          refine lv_iload_n hx hb dX10_far_123 rfl (lv_at hl 3 rfl) ?_
          refine lv_iload hx hb dX10_far_124 (lv_at hl 2 rfl) ?_
          refine lv_iload hx hb dX10_far_126 (lv_at hl 1 rfl) ?_
          refine lv_iload hx hb dX10_far_128 (lv_at hl 0 rfl) ?_
          have zc_50 : (50 : Int32).toInt = 50 := by decide
          refine hx_goi (hx_runS (As := [.int (50 : Int32), .int (50 : Int32), .int (50 : Int32), .int (50 : Int32)]) (rest := []) ⟨hx, hb, hml, hown, hts⟩ hW (t_X10_stepsBetween l dC dI dA L h s.heap.size (50 : Int32) (50 : Int32) (50 : Int32) (50 : Int32) hT ⟨by omega, by omega⟩ ⟨by omega, by omega⟩ ⟨by omega, by omega⟩ ⟨by omega, by omega⟩) (va_cwS 4 hts (hx_gS kw_1728 kw_1726 kw_1727 kw_103) rfl rfl rfl (by decide +kernel) ⟨Nat.le_of_ble_eq_true rfl, Nat.le_of_ble_eq_true rfl⟩) rfl hl.1 rfl (Nat.le_of_ble_eq_true rfl) dX10_far_130 ⟨Nat.le_of_ble_eq_true rfl, Nat.le_of_ble_eq_true rfl⟩) hW (fun r_155 L_153 h_154 H locs p_156 hW => ?_)
          obtain ⟨hr_157, hT, hs⟩ := p_156
          have hT : hx_T T_tb L_153 h_154 := hT
          have hs : hx_S T_tb [] L h L_153 h_154 := hs
          have f_x_90 := (hs.o gx trivial rfl).1.trans f_x_90
          have hM := hM.tr (hs.mono (by decide))
          have gx := gx.S hs
          exact hx_reti hx hb hr hlk hW ⟨(by first | omega | (refine ⟨?_, ?_⟩ <;> omega)), hT, hM⟩ dX10_far_133

theorem dX10_walked_0 : decode cX10_walked 0 = .ok (.iload_n 1, 1) := by decide +kernel
theorem dX10_walked_1 : decode cX10_walked 1 = .ok (.iconst 0, 1) := by decide +kernel
theorem dX10_walked_2 : decode cX10_walked 2 = .ok (.aload_n 0, 1) := by decide +kernel
theorem dX10_walked_3 : decode cX10_walked 3 = .ok (.getfield 478, 3) := by decide +kernel
theorem dX10_walked_6 : decode cX10_walked 6 = .ok (.iconst 1, 1) := by decide +kernel
theorem dX10_walked_7 : decode cX10_walked 7 = .ok (.isub, 1) := by decide +kernel
theorem dX10_walked_8 : decode cX10_walked 8 = .ok (.invokestatic 228, 3) := by decide +kernel
theorem dX10_walked_11 : decode cX10_walked 11 = .ok (.ifCond .eq 12, 3) := by decide +kernel
theorem dX10_walked_14 : decode cX10_walked 14 = .ok (.aload_n 0, 1) := by decide +kernel
theorem dX10_walked_15 : decode cX10_walked 15 = .ok (.getfield 204, 3) := by decide +kernel
theorem dX10_walked_18 : decode cX10_walked 18 = .ok (.iload_n 1, 1) := by decide +kernel
theorem dX10_walked_19 : decode cX10_walked 19 = .ok (.iaload, 1) := by decide +kernel
theorem dX10_walked_20 : decode cX10_walked 20 = .ok (.goto 4, 3) := by decide +kernel
theorem dX10_walked_23 : decode cX10_walked 23 = .ok (.iconst (-1), 1) := by decide +kernel
theorem dX10_walked_24 : decode cX10_walked 24 = .ok (.ireturn, 1) := by decide +kernel
set_option maxHeartbeats 4000000 in
set_option maxRecDepth 100000 in
theorem t_X10_walked (l : Launch) (dC : Nat → ClassId) (dI : Nat → Nat → Nat) (dA : Nat → ClassId) (L : List Nat) (h : hx_h) (sz : Nat) (x : Nat) (i1 : Int32) (hT : hx_T T_tb L h) (gx : hx_g L h x 10)  : Met l yX10_walked (Cond.code yX10_walked cX10_walked 2 (some .int) :: hx_all) ({ frames := 1, cells := 0, slots := 0, locals := 22 }) (va_Pc [.ref x, .int i1] (hx_B T_tb (P_ty dA) (dC, dI) vwCl L h sz)) (va_Qi (fun (r : Int32) (u : List Nat × hx_h) => (True) ∧ hx_T T_tb u.1 u.2 ∧ hx_S T_tb [] L h u.1 u.2) (hx_E T_tb (P_ty dA) (dC, dI) vwCl (hx_A L sz)) (hx_A L sz)) 0 0 (hx_A L sz) := by
  refine hx_met (lv := [(0, .ref x), (1, .int i1)]) (by decide +kernel) rfl (Nat.le_of_ble_eq_true rfl) rfl ?_
  intro p e s m below meth c hx hb hml hr hlk hts0 hown hin hsz hW ls hl
  have hts : ∀ w ∈ hx_all, w.before _ s = true := fun w hw => hts0 w (List.mem_cons_of_mem _ hw)
  have hown : s.vm.findClass "SmallCourtModel" = some m.cls := hown
  have hM : hx_S T_tb [] L h L h := hx_S.rf
  refine lv_iload_n hx hb dX10_walked_0 rfl (lv_at hl 1 rfl) ?_
  refine lv_iconst (v := 0) hx hb dX10_walked_1 (by decide) ?_
  refine lv_aload_n hx hb dX10_walked_2 rfl (lv_at hl 0 rfl) ?_
  refine hx_geti hx hb hts hC_10 hown hW hT gx tt_10 92 (by decide) rfl kw_1235 ⟨rfl, rfl, rfl⟩ dX10_walked_3 (fun x_1 ex_1 lx_1 ux_1 => ?_)
  have fx_1 := ex_1.symm
  refine lv_iconst (v := 1) hx hb dX10_walked_6 (by decide) ?_
  refine lv_isub hx hb dX10_walked_7 ?_
  have rg_2 := i32_r x_1
  refine lv_topi (fun x_3 ex_3 => ?_)
  have zx_3 : x_3.toInt = x_1.toInt - 1 := by rw [ex_3]; exact i32_sub rfl (by decide) (by omega) (by omega)
  have zc_0 : (0 : Int32).toInt = 0 := by decide
  refine hx_goi (hx_runS (As := [.int i1, .int (0 : Int32), .int x_3]) (rest := []) ⟨hx, hb, hml, hown, hts⟩ hW (t_X10_in l dC dI dA L h s.heap.size i1 (0 : Int32) x_3 hT) (va_cwS 3 hts (hx_gS kw_1445 kw_1443 kw_1444 kw_103) rfl rfl rfl (by decide +kernel) ⟨Nat.le_of_ble_eq_true rfl, Nat.le_of_ble_eq_true rfl⟩) rfl hl.1 rfl (Nat.le_of_ble_eq_true rfl) dX10_walked_8 ⟨Nat.le_of_ble_eq_true rfl, Nat.le_of_ble_eq_true rfl⟩) hW (fun r_6 L_4 h_5 H locs p_7 hW => ?_)
  obtain ⟨hr_8, hT, hs⟩ := p_7
  have hT : hx_T T_tb L_4 h_5 := hT
  have hs : hx_S T_tb [] L h L_4 h_5 := hs
  have fx_1 := (hs.o gx trivial rfl).1.trans fx_1
  have hM := hM.tr (hs.mono (by decide))
  have gx := gx.S hs
  refine hb_if_eq (zx := r_6.toInt) (tgt := 23) hx hb rfl dX10_walked_11 (by decide) (fun c_9 => ?_) (fun c_9 => ?_)
  · skip
    refine lv_iconst (v := -1) hx hb dX10_walked_23 (by decide) ?_
    exact hx_reti hx hb hr hlk hW ⟨trivial, hT, hM⟩ dX10_walked_24
  · skip
    refine lv_aload_n hx hb dX10_walked_14 rfl (lv_at hl 0 rfl) ?_
    refine hx_getn hx hb hts hC_10 hown hW hT gx tt_10 93 (by decide) rfl kw_1236 ⟨rfl, rfl, rfl⟩ dX10_walked_15 (fun q_10 fq_10 gq_10 => ?_)
    refine lv_iload_n hx hb dX10_walked_18 rfl (lv_at hl 1 rfl) ?_
    refine hx_iald hx hb hW hT gq_10 tt_113 rfl ⟨by omega, by omega⟩ dX10_walked_19 (fun x_11 ex_11 lx_11 ux_11 => ?_)
    refine lv_goto (tgt := 24) hx hb dX10_walked_20 (by decide) ?_
    exact hx_reti hx hb hr hlk hW ⟨trivial, hT, hM⟩ dX10_walked_24
