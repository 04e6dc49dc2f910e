section
def wNX3_sumFor : Nat := 75170111345030427591448773836825683571534955356965769849839214188331280482774764507574734403563481823989301100652535006247062111868901769968380537343283410608226954624038520974702695703058391555415249615761667794318672282118662177902448623220962819
theorem wX3_sumFor_c : hz_cd cX3_sumFor wNX3_sumFor 103 := ⟨by decide +kernel, by decide +kernel⟩
theorem dX3_sumFor_0 : decode cX3_sumFor 0 = .ok (.iconst 0, 1) := dw_3 wX3_sumFor_c rfl
theorem dX3_sumFor_1 : decode cX3_sumFor 1 = .ok (.istore 4, 2) := dw_54 wX3_sumFor_c 4 rfl
theorem dX3_sumFor_3 : decode cX3_sumFor 3 = .ok (.iconst 0, 1) := dw_3 wX3_sumFor_c rfl
theorem dX3_sumFor_4 : decode cX3_sumFor 4 = .ok (.istore 5, 2) := dw_54 wX3_sumFor_c 5 rfl
theorem dX3_sumFor_6 : decode cX3_sumFor 6 = .ok (.iload 5, 2) := dw_21 wX3_sumFor_c 5 rfl
theorem dX3_sumFor_8 : decode cX3_sumFor 8 = .ok (.aload_n 0, 1) := dw_42 wX3_sumFor_c rfl
theorem dX3_sumFor_9 : decode cX3_sumFor 9 = .ok (.getfield 27, 3) := dw_180 wX3_sumFor_c 0 27 rfl rfl
theorem dX3_sumFor_12 : decode cX3_sumFor 12 = .ok (.if_icmp .ge 88, 3) := dw_162 wX3_sumFor_c 0 88 rfl rfl rfl
theorem dX3_sumFor_15 : decode cX3_sumFor 15 = .ok (.aload_n 0, 1) := dw_42 wX3_sumFor_c rfl
theorem dX3_sumFor_16 : decode cX3_sumFor 16 = .ok (.getfield 9, 3) := dw_180 wX3_sumFor_c 0 9 rfl rfl
theorem dX3_sumFor_19 : decode cX3_sumFor 19 = .ok (.iload 5, 2) := dw_21 wX3_sumFor_c 5 rfl
theorem dX3_sumFor_21 : decode cX3_sumFor 21 = .ok (.iaload, 1) := dw_46 wX3_sumFor_c rfl
theorem dX3_sumFor_22 : decode cX3_sumFor 22 = .ok (.iconst (-1), 1) := dw_2 wX3_sumFor_c rfl
theorem dX3_sumFor_23 : decode cX3_sumFor 23 = .ok (.if_icmp .eq 18, 3) := dw_159 wX3_sumFor_c 0 18 rfl rfl rfl
theorem dX3_sumFor_26 : decode cX3_sumFor 26 = .ok (.aload_n 0, 1) := dw_42 wX3_sumFor_c rfl
theorem dX3_sumFor_27 : decode cX3_sumFor 27 = .ok (.getfield 9, 3) := dw_180 wX3_sumFor_c 0 9 rfl rfl
theorem dX3_sumFor_30 : decode cX3_sumFor 30 = .ok (.iload 5, 2) := dw_21 wX3_sumFor_c 5 rfl
theorem dX3_sumFor_32 : decode cX3_sumFor 32 = .ok (.iaload, 1) := dw_46 wX3_sumFor_c rfl
theorem dX3_sumFor_33 : decode cX3_sumFor 33 = .ok (.iload_n 3, 1) := dw_29 wX3_sumFor_c rfl
theorem dX3_sumFor_34 : decode cX3_sumFor 34 = .ok (.if_icmp .gt 7, 3) := dw_163 wX3_sumFor_c 0 7 rfl rfl rfl
theorem dX3_sumFor_37 : decode cX3_sumFor 37 = .ok (.iconst 1, 1) := dw_4 wX3_sumFor_c rfl
theorem dX3_sumFor_38 : decode cX3_sumFor 38 = .ok (.goto 4, 3) := dw_167 wX3_sumFor_c 0 4 rfl rfl rfl
theorem dX3_sumFor_41 : decode cX3_sumFor 41 = .ok (.iconst 0, 1) := dw_3 wX3_sumFor_c rfl
theorem dX3_sumFor_42 : decode cX3_sumFor 42 = .ok (.istore 6, 2) := dw_54 wX3_sumFor_c 6 rfl
theorem dX3_sumFor_44 : decode cX3_sumFor 44 = .ok (.aload_n 0, 1) := dw_42 wX3_sumFor_c rfl
theorem dX3_sumFor_45 : decode cX3_sumFor 45 = .ok (.getfield 15, 3) := dw_180 wX3_sumFor_c 0 15 rfl rfl
theorem dX3_sumFor_48 : decode cX3_sumFor 48 = .ok (.iload 5, 2) := dw_21 wX3_sumFor_c 5 rfl
theorem dX3_sumFor_50 : decode cX3_sumFor 50 = .ok (.iaload, 1) := dw_46 wX3_sumFor_c rfl
theorem dX3_sumFor_51 : decode cX3_sumFor 51 = .ok (.iload_n 1, 1) := dw_27 wX3_sumFor_c rfl
theorem dX3_sumFor_52 : decode cX3_sumFor 52 = .ok (.if_icmp .ne 42, 3) := dw_160 wX3_sumFor_c 0 42 rfl rfl rfl
theorem dX3_sumFor_55 : decode cX3_sumFor 55 = .ok (.aload_n 0, 1) := dw_42 wX3_sumFor_c rfl
theorem dX3_sumFor_56 : decode cX3_sumFor 56 = .ok (.getfield 18, 3) := dw_180 wX3_sumFor_c 0 18 rfl rfl
theorem dX3_sumFor_59 : decode cX3_sumFor 59 = .ok (.iload 5, 2) := dw_21 wX3_sumFor_c 5 rfl
theorem dX3_sumFor_61 : decode cX3_sumFor 61 = .ok (.iaload, 1) := dw_46 wX3_sumFor_c rfl
theorem dX3_sumFor_62 : decode cX3_sumFor 62 = .ok (.iload_n 2, 1) := dw_28 wX3_sumFor_c rfl
theorem dX3_sumFor_63 : decode cX3_sumFor 63 = .ok (.if_icmp .gt 31, 3) := dw_163 wX3_sumFor_c 0 31 rfl rfl rfl
theorem dX3_sumFor_66 : decode cX3_sumFor 66 = .ok (.aload_n 0, 1) := dw_42 wX3_sumFor_c rfl
theorem dX3_sumFor_67 : decode cX3_sumFor 67 = .ok (.getfield 21, 3) := dw_180 wX3_sumFor_c 0 21 rfl rfl
theorem dX3_sumFor_70 : decode cX3_sumFor 70 = .ok (.iload 5, 2) := dw_21 wX3_sumFor_c 5 rfl
theorem dX3_sumFor_72 : decode cX3_sumFor 72 = .ok (.iaload, 1) := dw_46 wX3_sumFor_c rfl
theorem dX3_sumFor_73 : decode cX3_sumFor 73 = .ok (.iload_n 3, 1) := dw_29 wX3_sumFor_c rfl
theorem dX3_sumFor_74 : decode cX3_sumFor 74 = .ok (.if_icmp .gt 20, 3) := dw_163 wX3_sumFor_c 0 20 rfl rfl rfl
theorem dX3_sumFor_77 : decode cX3_sumFor 77 = .ok (.iload 6, 2) := dw_21 wX3_sumFor_c 6 rfl
theorem dX3_sumFor_79 : decode cX3_sumFor 79 = .ok (.ifCond .ne 15, 3) := dw_154 wX3_sumFor_c 0 15 rfl rfl rfl
theorem dX3_sumFor_82 : decode cX3_sumFor 82 = .ok (.iload 4, 2) := dw_21 wX3_sumFor_c 4 rfl
theorem dX3_sumFor_84 : decode cX3_sumFor 84 = .ok (.aload_n 0, 1) := dw_42 wX3_sumFor_c rfl
theorem dX3_sumFor_85 : decode cX3_sumFor 85 = .ok (.getfield 24, 3) := dw_180 wX3_sumFor_c 0 24 rfl rfl
theorem dX3_sumFor_88 : decode cX3_sumFor 88 = .ok (.iload 5, 2) := dw_21 wX3_sumFor_c 5 rfl
theorem dX3_sumFor_90 : decode cX3_sumFor 90 = .ok (.iaload, 1) := dw_46 wX3_sumFor_c rfl
theorem dX3_sumFor_91 : decode cX3_sumFor 91 = .ok (.iadd, 1) := dw_96 wX3_sumFor_c rfl
theorem dX3_sumFor_92 : decode cX3_sumFor 92 = .ok (.istore 4, 2) := dw_54 wX3_sumFor_c 4 rfl
theorem dX3_sumFor_94 : decode cX3_sumFor 94 = .ok (.iinc 5 1, 3) := dw_132 wX3_sumFor_c 5 1 rfl rfl rfl
theorem dX3_sumFor_97 : decode cX3_sumFor 97 = .ok (.goto (-91), 3) := dn_167 wX3_sumFor_c 255 165 rfl (by decide)
theorem dX3_sumFor_100 : decode cX3_sumFor 100 = .ok (.iload 4, 2) := dw_21 wX3_sumFor_c 4 rfl
theorem dX3_sumFor_102 : decode cX3_sumFor 102 = .ok (.ireturn, 1) := dw_172 wX3_sumFor_c rfl
set_option maxHeartbeats 4000000 in
set_option maxRecDepth 100000 in
theorem t_X3_sumFor (l : Launch) (dC : Nat → ClassId) (dI : Nat → Nat → Nat) (dA : Nat → ClassId) (L : List Nat) (h : hx_h) (sz : Nat) (x : Nat) (i1 : Int32) (i2 : Int32) (i3 : Int32) (hT : hx_T T_tb L h) (gx : hx_g L h x 3)  : Met l yX3_sumFor (Cond.code yX3_sumFor cX3_sumFor 7 (some .int) :: hx_all) ({ frames := 0, cells := 0, slots := 0, locals := 0 }) (va_Pc [.ref x, .int i1, .int i2, .int i3] (hx_B T_tb (P_ty dA) (dC, dI) vwCl L h sz)) (va_Qi (fun (r : Int32) (u : List Nat × hx_h) => (True) ∧ hx_T T_tb u.1 u.2 ∧ hx_S T_tb [] L h u.1 u.2) (hx_E T_tb (P_ty dA) (dC, dI) vwCl (hx_A L sz)) (hx_A L sz)) 0 0 (hx_A L sz) := by
  refine hx_met (lv := [(0, .ref x), (1, .int i1), (2, .int i2), (3, .int i3)]) (by decide +kernel) rfl (Nat.le_of_ble_eq_true rfl) rfl ?_
  intro p e s m below meth c hx hb hml hr hlk hts0 hown hin hsz hW ls hl
  have hts : ∀ w ∈ hx_all, w.before _ s = true := fun w hw => hts0 w (List.mem_cons_of_mem _ hw)
  have hown : s.vm.findClass "SmallCourt$Payments" = some m.cls := hown
  have hM : hx_S T_tb [] L h L h := hx_S.rf
  refine lv_iconst (v := 0) hx hb dX3_sumFor_0 ?o0 ?_
  case o0 => decide
  refine lv_istore (lv' := [(4, .int (0 : Int32)), (0, .ref x), (1, .int i1), (2, .int i2), (3, .int i3)]) hx hb dX3_sumFor_1 hl ?o1 rfl (fun ls hl => ?_)
  case o1 => decide
  refine lv_iconst (v := 0) hx hb dX3_sumFor_3 ?o2 ?_
  case o2 => decide
  refine lv_istore (lv' := [(5, .int (0 : Int32)), (4, .int (0 : Int32)), (0, .ref x), (1, .int i1), (2, .int i2), (3, .int i3)]) hx hb dX3_sumFor_4 hl ?o3 rfl (fun ls hl => ?_)
  case o3 => decide
  have loop6 : ∀ (n6 : Nat) (iv6_5 iv6_4 : Int32) (H : Heap) (locs : List Loc) (hL1 : List Nat) (hl1 : hx_h) (ls : Array Slot), 0 ≤ iv6_5.toInt → iv6_5.toInt ≤ 600 → 600 < iv6_5.toInt + n6 → hx_W T_tb (P_ty dA) (dC, dI) vwCl (hx_A L sz) s.heap hL1 hl1 s H locs → hx_T T_tb hL1 hl1 → hx_S T_tb [] L h hL1 hl1 → hx_g hL1 hl1 x 3 → lv_has ls 7 [(5, .int iv6_5), (4, .int iv6_4), (0, .ref x), (1, .int i1), (2, .int i2), (3, .int i3)] → W p l e ({ frames := 0, cells := 0, slots := 0, locals := 0 }) s m ([.ref x, .int i1, .int i2, .int i3] : List Value).toArray below meth c H locs 0 0 (MQ below (va_Qi (fun (r : Int32) (u : List Nat × hx_h) => (True) ∧ hx_T T_tb u.1 u.2 ∧ hx_S T_tb [] L h u.1 u.2) (hx_E T_tb (P_ty dA) (dC, dI) vwCl (hx_A L sz)) (hx_A L sz)) ([.ref x, .int i1, .int i2, .int i3] : List Value).toArray s 0 0 (hx_A L sz)) (F0 m 6 ls []) := by
    intro n6
    induction n6 with
    | zero => intro iv6_5 iv6_4 H locs hL1 hl1 ls bl6_5 bu6_5 hn6; exfalso; omega
    | succ n6 ih6 =>
      intro iv6_5 iv6_4 H locs hL1 hl1 ls bl6_5 bu6_5 hn6 hW hT hM  gx  hl
      refine lv_iload hx hb dX3_sumFor_6 (lv_at hl 0 rfl) ?_
      refine lv_aload_n hx hb dX3_sumFor_8 rfl (lv_at hl 2 rfl) ?_
      refine hx_geti hx hb hts hC_3 hown hW hT gx tt_3 0 ?o4 rfl kw_231 ⟨rfl, rfl, rfl⟩ dX3_sumFor_9 (fun x_1 ex_1 lx_1 ux_1 => ?_)
      case o4 => decide
      have fx_1 := ex_1.symm
      refine hb_icmp_ge (zx := iv6_5.toInt) (zy := x_1.toInt) (tgt := 100) hx hb rfl rfl dX3_sumFor_12 ?o5 (fun c_2 => ?_) (fun c_2 => ?_)
      case o5 => decide
      · skip
        refine lv_iload hx hb dX3_sumFor_100 (lv_at hl 1 rfl) ?_
        exact hx_reti hx hb hr hlk hW ⟨trivial, hT, hM⟩ dX3_sumFor_102
      · skip
        refine lv_aload_n hx hb dX3_sumFor_15 rfl (lv_at hl 2 rfl) ?_
        refine hx_getn hx hb hts hC_3 hown hW hT gx tt_3 1 ?o6 rfl kw_233 ⟨rfl, rfl, rfl⟩ dX3_sumFor_16 (fun q_3 fq_3 gq_3 => ?_)
        case o6 => decide
        refine lv_iload hx hb dX3_sumFor_19 (lv_at hl 0 rfl) ?_
        refine hx_iald hx hb hW hT gq_3 tt_22 rfl ⟨?o7, ?o8⟩ dX3_sumFor_21 (fun x_4 ex_4 lx_4 ux_4 => ?_)
        case o7 => omega
        case o8 => omega
        refine lv_iconst (v := -1) hx hb dX3_sumFor_22 ?o9 ?_
        case o9 => decide
        refine hb_icmp_eq (zx := x_4.toInt) (zy := (-1)) (tgt := 41) hx hb rfl ?o10 dX3_sumFor_23 ?o11 (fun c_5 => ?_) (fun c_5 => ?_)
        case o10 => decide
        case o11 => decide
        · skip
          refine lv_iconst (v := 0) hx hb dX3_sumFor_41 ?o12 ?_
          case o12 => decide
          refine lv_istore (lv' := [(6, .int (0 : Int32)), (5, .int iv6_5), (4, .int iv6_4), (0, .ref x), (1, .int i1), (2, .int i2), (3, .int i3)]) hx hb dX3_sumFor_42 hl ?o13 rfl (fun ls hl => ?_)
          case o13 => decide
          refine lv_aload_n hx hb dX3_sumFor_44 rfl (lv_at hl 3 rfl) ?_
          refine hx_getn hx hb hts hC_3 hown hW hT gx tt_3 2 ?o14 rfl kw_235 ⟨rfl, rfl, rfl⟩ dX3_sumFor_45 (fun q_6 fq_6 gq_6 => ?_)
          case o14 => decide
          refine lv_iload hx hb dX3_sumFor_48 (lv_at hl 1 rfl) ?_
          refine hx_iald hx hb hW hT gq_6 tt_23 rfl ⟨?o15, ?o16⟩ dX3_sumFor_50 (fun x_7 ex_7 lx_7 ux_7 => ?_)
          case o15 => omega
          case o16 => omega
          refine lv_iload_n hx hb dX3_sumFor_51 rfl (lv_at hl 4 rfl) ?_
          refine hb_icmp_ne (zx := x_7.toInt) (zy := i1.toInt) (tgt := 94) hx hb rfl rfl dX3_sumFor_52 ?o17 (fun c_8 => ?_) (fun c_8 => ?_)
          case o17 => decide
          · skip
            obtain ⟨x_9, ex_9⟩ : ∃ y : Int32, y = iv6_5 + Int32.ofInt 1 := ⟨_, rfl⟩
            have rg_10 := i32_r iv6_5
            have zx_9 : x_9.toInt = iv6_5.toInt + (1) := ?o18
            case o18 =>
              rw [ex_9]
              refine i32_add rfl ?o19 ?o20 ?o21
              case o19 => decide
              case o20 => omega
              case o21 => omega
            refine lv_iinc (v := x_9) (lv' := [(5, .int x_9), (6, .int (0 : Int32)), (4, .int iv6_4), (0, .ref x), (1, .int i1), (2, .int i2), (3, .int i3)]) hx hb dX3_sumFor_94 hl (k := 1) rfl ex_9.symm ?o22 rfl (fun ls hl => ?_)
            case o22 => decide
            refine lv_goto (tgt := 6) hx hb dX3_sumFor_97 ?o23 ?_
            case o23 => decide
            refine ih6 x_9 iv6_4 _ _ hL1 hl1 ls ?o24 ?o25 ?o26 hW hT hM  gx  (lv_sub hl [0, 2, 3, 4, 5, 6] rfl)
            case o24 => omega
            case o25 => omega
            case o26 => omega
          · skip
            refine lv_aload_n hx hb dX3_sumFor_55 rfl (lv_at hl 3 rfl) ?_
            refine hx_getn hx hb hts hC_3 hown hW hT gx tt_3 3 ?o27 rfl kw_236 ⟨rfl, rfl, rfl⟩ dX3_sumFor_56 (fun q_11 fq_11 gq_11 => ?_)
            case o27 => decide
            refine lv_iload hx hb dX3_sumFor_59 (lv_at hl 1 rfl) ?_
            refine hx_iald hx hb hW hT gq_11 tt_24 rfl ⟨?o28, ?o29⟩ dX3_sumFor_61 (fun x_12 ex_12 lx_12 ux_12 => ?_)
            case o28 => omega
            case o29 => omega
            refine lv_iload_n hx hb dX3_sumFor_62 rfl (lv_at hl 5 rfl) ?_
            refine hb_icmp_gt (zx := x_12.toInt) (zy := i2.toInt) (tgt := 94) hx hb rfl rfl dX3_sumFor_63 ?o30 (fun c_13 => ?_) (fun c_13 => ?_)
            case o30 => decide
            · skip
              obtain ⟨x_14, ex_14⟩ : ∃ y : Int32, y = iv6_5 + Int32.ofInt 1 := ⟨_, rfl⟩
              have rg_15 := i32_r iv6_5
              have zx_14 : x_14.toInt = iv6_5.toInt + (1) := ?o31
              case o31 =>
                rw [ex_14]
                refine i32_add rfl ?o32 ?o33 ?o34
                case o32 => decide
                case o33 => omega
                case o34 => omega
              refine lv_iinc (v := x_14) (lv' := [(5, .int x_14), (6, .int (0 : Int32)), (4, .int iv6_4), (0, .ref x), (1, .int i1), (2, .int i2), (3, .int i3)]) hx hb dX3_sumFor_94 hl (k := 1) rfl ex_14.symm ?o35 rfl (fun ls hl => ?_)
              case o35 => decide
              refine lv_goto (tgt := 6) hx hb dX3_sumFor_97 ?o36 ?_
              case o36 => decide
              refine ih6 x_14 iv6_4 _ _ hL1 hl1 ls ?o37 ?o38 ?o39 hW hT hM  gx  (lv_sub hl [0, 2, 3, 4, 5, 6] rfl)
              case o37 => omega
              case o38 => omega
              case o39 => omega
            · skip
              refine lv_aload_n hx hb dX3_sumFor_66 rfl (lv_at hl 3 rfl) ?_
              refine hx_getn hx hb hts hC_3 hown hW hT gx tt_3 4 ?o40 rfl kw_237 ⟨rfl, rfl, rfl⟩ dX3_sumFor_67 (fun q_16 fq_16 gq_16 => ?_)
              case o40 => decide
              refine lv_iload hx hb dX3_sumFor_70 (lv_at hl 1 rfl) ?_
              refine hx_iald hx hb hW hT gq_16 tt_25 rfl ⟨?o41, ?o42⟩ dX3_sumFor_72 (fun x_17 ex_17 lx_17 ux_17 => ?_)
              case o41 => omega
              case o42 => omega
              refine lv_iload_n hx hb dX3_sumFor_73 rfl (lv_at hl 6 rfl) ?_
              refine hb_icmp_gt (zx := x_17.toInt) (zy := i3.toInt) (tgt := 94) hx hb rfl rfl dX3_sumFor_74 ?o43 (fun c_18 => ?_) (fun c_18 => ?_)
              case o43 => decide
              · skip
                obtain ⟨x_19, ex_19⟩ : ∃ y : Int32, y = iv6_5 + Int32.ofInt 1 := ⟨_, rfl⟩
                have rg_20 := i32_r iv6_5
                have zx_19 : x_19.toInt = iv6_5.toInt + (1) := ?o44
                case o44 =>
                  rw [ex_19]
                  refine i32_add rfl ?o45 ?o46 ?o47
                  case o45 => decide
                  case o46 => omega
                  case o47 => omega
                refine lv_iinc (v := x_19) (lv' := [(5, .int x_19), (6, .int (0 : Int32)), (4, .int iv6_4), (0, .ref x), (1, .int i1), (2, .int i2), (3, .int i3)]) hx hb dX3_sumFor_94 hl (k := 1) rfl ex_19.symm ?o48 rfl (fun ls hl => ?_)
                case o48 => decide
                refine lv_goto (tgt := 6) hx hb dX3_sumFor_97 ?o49 ?_
                case o49 => decide
                refine ih6 x_19 iv6_4 _ _ hL1 hl1 ls ?o50 ?o51 ?o52 hW hT hM  gx  (lv_sub hl [0, 2, 3, 4, 5, 6] rfl)
                case o50 => omega
                case o51 => omega
                case o52 => omega
              · skip
                refine lv_iload hx hb dX3_sumFor_77 (lv_at hl 0 rfl) ?_
                refine hb_if_ne (zx := 0) (tgt := 94) hx hb ?o53 dX3_sumFor_79 ?o54 (fun c_21 => absurd c_21 ?o55) (fun c_21 => ?_)
                case o53 => decide
                case o54 => decide
                case o55 => decide
                refine lv_iload hx hb dX3_sumFor_82 (lv_at hl 2 rfl) ?_
                refine lv_aload_n hx hb dX3_sumFor_84 rfl (lv_at hl 3 rfl) ?_
                refine hx_getn hx hb hts hC_3 hown hW hT gx tt_3 5 ?o56 rfl kw_238 ⟨rfl, rfl, rfl⟩ dX3_sumFor_85 (fun q_22 fq_22 gq_22 => ?_)
                case o56 => decide
                refine lv_iload hx hb dX3_sumFor_88 (lv_at hl 1 rfl) ?_
                refine hx_iald hx hb hW hT gq_22 tt_26 rfl ⟨?o57, ?o58⟩ dX3_sumFor_90 (fun x_23 ex_23 lx_23 ux_23 => ?_)
                case o57 => omega
                case o58 => omega
                refine lv_iadd hx hb dX3_sumFor_91 ?_
                have rg_24 := i32_r iv6_4
                have rg_25 := i32_r x_23
                refine lv_topi (fun x_26 ex_26 => ?_)
                refine lv_istore (lv' := [(4, .int x_26), (6, .int (0 : Int32)), (5, .int iv6_5), (0, .ref x), (1, .int i1), (2, .int i2), (3, .int i3)]) hx hb dX3_sumFor_92 hl ?o59 rfl (fun ls hl => ?_)
                case o59 => decide
                obtain ⟨x_27, ex_27⟩ : ∃ y : Int32, y = iv6_5 + Int32.ofInt 1 := ⟨_, rfl⟩
                have rg_28 := i32_r iv6_5
                have zx_27 : x_27.toInt = iv6_5.toInt + (1) := ?o60
                case o60 =>
                  rw [ex_27]
                  refine i32_add rfl ?o61 ?o62 ?o63
                  case o61 => decide
                  case o62 => omega
                  case o63 => omega
                refine lv_iinc (v := x_27) (lv' := [(5, .int x_27), (4, .int x_26), (6, .int (0 : Int32)), (0, .ref x), (1, .int i1), (2, .int i2), (3, .int i3)]) hx hb dX3_sumFor_94 hl (k := 2) rfl ex_27.symm ?o64 rfl (fun ls hl => ?_)
                case o64 => decide
                refine lv_goto (tgt := 6) hx hb dX3_sumFor_97 ?o65 ?_
                case o65 => decide
                refine ih6 x_27 x_26 _ _ hL1 hl1 ls ?o66 ?o67 ?o68 hW hT hM  gx  (lv_sub hl [0, 1, 3, 4, 5, 6] rfl)
                case o66 => omega
                case o67 => omega
                case o68 => omega
        · skip
          refine lv_aload_n hx hb dX3_sumFor_26 rfl (lv_at hl 2 rfl) ?_
          refine hk_getr hx hb hts hC_3 hown hW gx tt_3 1 ?o69 rfl kw_233 ⟨rfl, rfl, rfl⟩ fq_3 dX3_sumFor_27 ?_
          case o69 => decide
          refine lv_iload hx hb dX3_sumFor_30 (lv_at hl 0 rfl) ?_
          refine hx_iald hx hb hW hT gq_3 tt_22 rfl ⟨?o70, ?o71⟩ dX3_sumFor_32 (fun x_29 ex_29 lx_29 ux_29 => ?_)
          case o70 => omega
          case o71 => omega
          refine lv_iload_n hx hb dX3_sumFor_33 rfl (lv_at hl 5 rfl) ?_
          refine hb_icmp_gt (zx := x_29.toInt) (zy := i3.toInt) (tgt := 41) hx hb rfl rfl dX3_sumFor_34 ?o72 (fun c_30 => ?_) (fun c_30 => ?_)
          case o72 => decide
          · skip
            refine lv_iconst (v := 0) hx hb dX3_sumFor_41 ?o73 ?_
            case o73 => decide
            refine lv_istore (lv' := [(6, .int (0 : Int32)), (5, .int iv6_5), (4, .int iv6_4), (0, .ref x), (1, .int i1), (2, .int i2), (3, .int i3)]) hx hb dX3_sumFor_42 hl ?o74 rfl (fun ls hl => ?_)
            case o74 => decide
            refine lv_aload_n hx hb dX3_sumFor_44 rfl (lv_at hl 3 rfl) ?_
            refine hx_getn hx hb hts hC_3 hown hW hT gx tt_3 2 ?o75 rfl kw_235 ⟨rfl, rfl, rfl⟩ dX3_sumFor_45 (fun q_31 fq_31 gq_31 => ?_)
            case o75 => decide
            refine lv_iload hx hb dX3_sumFor_48 (lv_at hl 1 rfl) ?_
            refine hx_iald hx hb hW hT gq_31 tt_23 rfl ⟨?o76, ?o77⟩ dX3_sumFor_50 (fun x_32 ex_32 lx_32 ux_32 => ?_)
            case o76 => omega
            case o77 => omega
            refine lv_iload_n hx hb dX3_sumFor_51 rfl (lv_at hl 4 rfl) ?_
            refine hb_icmp_ne (zx := x_32.toInt) (zy := i1.toInt) (tgt := 94) hx hb rfl rfl dX3_sumFor_52 ?o78 (fun c_33 => ?_) (fun c_33 => ?_)
            case o78 => decide
            · skip
              obtain ⟨x_34, ex_34⟩ : ∃ y : Int32, y = iv6_5 + Int32.ofInt 1 := ⟨_, rfl⟩
              have rg_35 := i32_r iv6_5
              have zx_34 : x_34.toInt = iv6_5.toInt + (1) := ?o79
              case o79 =>
                rw [ex_34]
                refine i32_add rfl ?o80 ?o81 ?o82
                case o80 => decide
                case o81 => omega
                case o82 => omega
              refine lv_iinc (v := x_34) (lv' := [(5, .int x_34), (6, .int (0 : Int32)), (4, .int iv6_4), (0, .ref x), (1, .int i1), (2, .int i2), (3, .int i3)]) hx hb dX3_sumFor_94 hl (k := 1) rfl ex_34.symm ?o83 rfl (fun ls hl => ?_)
              case o83 => decide
              refine lv_goto (tgt := 6) hx hb dX3_sumFor_97 ?o84 ?_
              case o84 => decide
              refine ih6 x_34 iv6_4 _ _ hL1 hl1 ls ?o85 ?o86 ?o87 hW hT hM  gx  (lv_sub hl [0, 2, 3, 4, 5, 6] rfl)
              case o85 => omega
              case o86 => omega
              case o87 => omega
            · skip
              refine lv_aload_n hx hb dX3_sumFor_55 rfl (lv_at hl 3 rfl) ?_
              refine hx_getn hx hb hts hC_3 hown hW hT gx tt_3 3 ?o88 rfl kw_236 ⟨rfl, rfl, rfl⟩ dX3_sumFor_56 (fun q_36 fq_36 gq_36 => ?_)
              case o88 => decide
              refine lv_iload hx hb dX3_sumFor_59 (lv_at hl 1 rfl) ?_
              refine hx_iald hx hb hW hT gq_36 tt_24 rfl ⟨?o89, ?o90⟩ dX3_sumFor_61 (fun x_37 ex_37 lx_37 ux_37 => ?_)
              case o89 => omega
              case o90 => omega
              refine lv_iload_n hx hb dX3_sumFor_62 rfl (lv_at hl 5 rfl) ?_
              refine hb_icmp_gt (zx := x_37.toInt) (zy := i2.toInt) (tgt := 94) hx hb rfl rfl dX3_sumFor_63 ?o91 (fun c_38 => ?_) (fun c_38 => ?_)
              case o91 => decide
              · skip
                obtain ⟨x_39, ex_39⟩ : ∃ y : Int32, y = iv6_5 + Int32.ofInt 1 := ⟨_, rfl⟩
                have rg_40 := i32_r iv6_5
                have zx_39 : x_39.toInt = iv6_5.toInt + (1) := ?o92
                case o92 =>
                  rw [ex_39]
                  refine i32_add rfl ?o93 ?o94 ?o95
                  case o93 => decide
                  case o94 => omega
                  case o95 => omega
                refine lv_iinc (v := x_39) (lv' := [(5, .int x_39), (6, .int (0 : Int32)), (4, .int iv6_4), (0, .ref x), (1, .int i1), (2, .int i2), (3, .int i3)]) hx hb dX3_sumFor_94 hl (k := 1) rfl ex_39.symm ?o96 rfl (fun ls hl => ?_)
                case o96 => decide
                refine lv_goto (tgt := 6) hx hb dX3_sumFor_97 ?o97 ?_
                case o97 => decide
                refine ih6 x_39 iv6_4 _ _ hL1 hl1 ls ?o98 ?o99 ?o100 hW hT hM  gx  (lv_sub hl [0, 2, 3, 4, 5, 6] rfl)
                case o98 => omega
                case o99 => omega
                case o100 => omega
              · skip
                refine lv_aload_n hx hb dX3_sumFor_66 rfl (lv_at hl 3 rfl) ?_
                refine hx_getn hx hb hts hC_3 hown hW hT gx tt_3 4 ?o101 rfl kw_237 ⟨rfl, rfl, rfl⟩ dX3_sumFor_67 (fun q_41 fq_41 gq_41 => ?_)
                case o101 => decide
                refine lv_iload hx hb dX3_sumFor_70 (lv_at hl 1 rfl) ?_
                refine hx_iald hx hb hW hT gq_41 tt_25 rfl ⟨?o102, ?o103⟩ dX3_sumFor_72 (fun x_42 ex_42 lx_42 ux_42 => ?_)
                case o102 => omega
                case o103 => omega
                refine lv_iload_n hx hb dX3_sumFor_73 rfl (lv_at hl 6 rfl) ?_
                refine hb_icmp_gt (zx := x_42.toInt) (zy := i3.toInt) (tgt := 94) hx hb rfl rfl dX3_sumFor_74 ?o104 (fun c_43 => ?_) (fun c_43 => ?_)
                case o104 => decide
                · skip
                  obtain ⟨x_44, ex_44⟩ : ∃ y : Int32, y = iv6_5 + Int32.ofInt 1 := ⟨_, rfl⟩
                  have rg_45 := i32_r iv6_5
                  have zx_44 : x_44.toInt = iv6_5.toInt + (1) := ?o105
                  case o105 =>
                    rw [ex_44]
                    refine i32_add rfl ?o106 ?o107 ?o108
                    case o106 => decide
                    case o107 => omega
                    case o108 => omega
                  refine lv_iinc (v := x_44) (lv' := [(5, .int x_44), (6, .int (0 : Int32)), (4, .int iv6_4), (0, .ref x), (1, .int i1), (2, .int i2), (3, .int i3)]) hx hb dX3_sumFor_94 hl (k := 1) rfl ex_44.symm ?o109 rfl (fun ls hl => ?_)
                  case o109 => decide
                  refine lv_goto (tgt := 6) hx hb dX3_sumFor_97 ?o110 ?_
                  case o110 => decide
                  refine ih6 x_44 iv6_4 _ _ hL1 hl1 ls ?o111 ?o112 ?o113 hW hT hM  gx  (lv_sub hl [0, 2, 3, 4, 5, 6] rfl)
                  case o111 => omega
                  case o112 => omega
                  case o113 => omega
                · skip
                  refine lv_iload hx hb dX3_sumFor_77 (lv_at hl 0 rfl) ?_
                  refine hb_if_ne (zx := 0) (tgt := 94) hx hb ?o114 dX3_sumFor_79 ?o115 (fun c_46 => absurd c_46 ?o116) (fun c_46 => ?_)
                  case o114 => decide
                  case o115 => decide
                  case o116 => decide
                  refine lv_iload hx hb dX3_sumFor_82 (lv_at hl 2 rfl) ?_
                  refine lv_aload_n hx hb dX3_sumFor_84 rfl (lv_at hl 3 rfl) ?_
                  refine hx_getn hx hb hts hC_3 hown hW hT gx tt_3 5 ?o117 rfl kw_238 ⟨rfl, rfl, rfl⟩ dX3_sumFor_85 (fun q_47 fq_47 gq_47 => ?_)
                  case o117 => decide
                  refine lv_iload hx hb dX3_sumFor_88 (lv_at hl 1 rfl) ?_
                  refine hx_iald hx hb hW hT gq_47 tt_26 rfl ⟨?o118, ?o119⟩ dX3_sumFor_90 (fun x_48 ex_48 lx_48 ux_48 => ?_)
                  case o118 => omega
                  case o119 => omega
                  refine lv_iadd hx hb dX3_sumFor_91 ?_
                  have rg_49 := i32_r iv6_4
                  have rg_50 := i32_r x_48
                  refine lv_topi (fun x_51 ex_51 => ?_)
                  refine lv_istore (lv' := [(4, .int x_51), (6, .int (0 : Int32)), (5, .int iv6_5), (0, .ref x), (1, .int i1), (2, .int i2), (3, .int i3)]) hx hb dX3_sumFor_92 hl ?o120 rfl (fun ls hl => ?_)
                  case o120 => decide
                  obtain ⟨x_52, ex_52⟩ : ∃ y : Int32, y = iv6_5 + Int32.ofInt 1 := ⟨_, rfl⟩
                  have rg_53 := i32_r iv6_5
                  have zx_52 : x_52.toInt = iv6_5.toInt + (1) := ?o121
                  case o121 =>
                    rw [ex_52]
                    refine i32_add rfl ?o122 ?o123 ?o124
                    case o122 => decide
                    case o123 => omega
                    case o124 => omega
                  refine lv_iinc (v := x_52) (lv' := [(5, .int x_52), (4, .int x_51), (6, .int (0 : Int32)), (0, .ref x), (1, .int i1), (2, .int i2), (3, .int i3)]) hx hb dX3_sumFor_94 hl (k := 2) rfl ex_52.symm ?o125 rfl (fun ls hl => ?_)
                  case o125 => decide
                  refine lv_goto (tgt := 6) hx hb dX3_sumFor_97 ?o126 ?_
                  case o126 => decide
                  refine ih6 x_52 x_51 _ _ hL1 hl1 ls ?o127 ?o128 ?o129 hW hT hM  gx  (lv_sub hl [0, 1, 3, 4, 5, 6] rfl)
                  case o127 => omega
                  case o128 => omega
                  case o129 => omega
          · skip
            refine lv_iconst (v := 1) hx hb dX3_sumFor_37 ?o130 ?_
            case o130 => decide
            refine lv_goto (tgt := 42) hx hb dX3_sumFor_38 ?o131 ?_
            case o131 => decide
            refine lv_istore (lv' := [(6, .int (1 : Int32)), (5, .int iv6_5), (4, .int iv6_4), (0, .ref x), (1, .int i1), (2, .int i2), (3, .int i3)]) hx hb dX3_sumFor_42 hl ?o132 rfl (fun ls hl => ?_)
            case o132 => decide
            refine lv_aload_n hx hb dX3_sumFor_44 rfl (lv_at hl 3 rfl) ?_
            refine hx_getn hx hb hts hC_3 hown hW hT gx tt_3 2 ?o133 rfl kw_235 ⟨rfl, rfl, rfl⟩ dX3_sumFor_45 (fun q_54 fq_54 gq_54 => ?_)
            case o133 => decide
            refine lv_iload hx hb dX3_sumFor_48 (lv_at hl 1 rfl) ?_
            refine hx_iald hx hb hW hT gq_54 tt_23 rfl ⟨?o134, ?o135⟩ dX3_sumFor_50 (fun x_55 ex_55 lx_55 ux_55 => ?_)
            case o134 => omega
            case o135 => omega
            refine lv_iload_n hx hb dX3_sumFor_51 rfl (lv_at hl 4 rfl) ?_
            refine hb_icmp_ne (zx := x_55.toInt) (zy := i1.toInt) (tgt := 94) hx hb rfl rfl dX3_sumFor_52 ?o136 (fun c_56 => ?_) (fun c_56 => ?_)
            case o136 => decide
            · skip
              obtain ⟨x_57, ex_57⟩ : ∃ y : Int32, y = iv6_5 + Int32.ofInt 1 := ⟨_, rfl⟩
              have rg_58 := i32_r iv6_5
              have zx_57 : x_57.toInt = iv6_5.toInt + (1) := ?o137
              case o137 =>
                rw [ex_57]
                refine i32_add rfl ?o138 ?o139 ?o140
                case o138 => decide
                case o139 => omega
                case o140 => omega
              refine lv_iinc (v := x_57) (lv' := [(5, .int x_57), (6, .int (1 : Int32)), (4, .int iv6_4), (0, .ref x), (1, .int i1), (2, .int i2), (3, .int i3)]) hx hb dX3_sumFor_94 hl (k := 1) rfl ex_57.symm ?o141 rfl (fun ls hl => ?_)
              case o141 => decide
              refine lv_goto (tgt := 6) hx hb dX3_sumFor_97 ?o142 ?_
              case o142 => decide
              refine ih6 x_57 iv6_4 _ _ hL1 hl1 ls ?o143 ?o144 ?o145 hW hT hM  gx  (lv_sub hl [0, 2, 3, 4, 5, 6] rfl)
              case o143 => omega
              case o144 => omega
              case o145 => omega
            · skip
              refine lv_aload_n hx hb dX3_sumFor_55 rfl (lv_at hl 3 rfl) ?_
              refine hx_getn hx hb hts hC_3 hown hW hT gx tt_3 3 ?o146 rfl kw_236 ⟨rfl, rfl, rfl⟩ dX3_sumFor_56 (fun q_59 fq_59 gq_59 => ?_)
              case o146 => decide
              refine lv_iload hx hb dX3_sumFor_59 (lv_at hl 1 rfl) ?_
              refine hx_iald hx hb hW hT gq_59 tt_24 rfl ⟨?o147, ?o148⟩ dX3_sumFor_61 (fun x_60 ex_60 lx_60 ux_60 => ?_)
              case o147 => omega
              case o148 => omega
              refine lv_iload_n hx hb dX3_sumFor_62 rfl (lv_at hl 5 rfl) ?_
              refine hb_icmp_gt (zx := x_60.toInt) (zy := i2.toInt) (tgt := 94) hx hb rfl rfl dX3_sumFor_63 ?o149 (fun c_61 => ?_) (fun c_61 => ?_)
              case o149 => decide
              · skip
                obtain ⟨x_62, ex_62⟩ : ∃ y : Int32, y = iv6_5 + Int32.ofInt 1 := ⟨_, rfl⟩
                have rg_63 := i32_r iv6_5
                have zx_62 : x_62.toInt = iv6_5.toInt + (1) := ?o150
                case o150 =>
                  rw [ex_62]
                  refine i32_add rfl ?o151 ?o152 ?o153
                  case o151 => decide
                  case o152 => omega
                  case o153 => omega
                refine lv_iinc (v := x_62) (lv' := [(5, .int x_62), (6, .int (1 : Int32)), (4, .int iv6_4), (0, .ref x), (1, .int i1), (2, .int i2), (3, .int i3)]) hx hb dX3_sumFor_94 hl (k := 1) rfl ex_62.symm ?o154 rfl (fun ls hl => ?_)
                case o154 => decide
                refine lv_goto (tgt := 6) hx hb dX3_sumFor_97 ?o155 ?_
                case o155 => decide
                refine ih6 x_62 iv6_4 _ _ hL1 hl1 ls ?o156 ?o157 ?o158 hW hT hM  gx  (lv_sub hl [0, 2, 3, 4, 5, 6] rfl)
                case o156 => omega
                case o157 => omega
                case o158 => omega
              · skip
                refine lv_aload_n hx hb dX3_sumFor_66 rfl (lv_at hl 3 rfl) ?_
                refine hx_getn hx hb hts hC_3 hown hW hT gx tt_3 4 ?o159 rfl kw_237 ⟨rfl, rfl, rfl⟩ dX3_sumFor_67 (fun q_64 fq_64 gq_64 => ?_)
                case o159 => decide
                refine lv_iload hx hb dX3_sumFor_70 (lv_at hl 1 rfl) ?_
                refine hx_iald hx hb hW hT gq_64 tt_25 rfl ⟨?o160, ?o161⟩ dX3_sumFor_72 (fun x_65 ex_65 lx_65 ux_65 => ?_)
                case o160 => omega
                case o161 => omega
                refine lv_iload_n hx hb dX3_sumFor_73 rfl (lv_at hl 6 rfl) ?_
                refine hb_icmp_gt (zx := x_65.toInt) (zy := i3.toInt) (tgt := 94) hx hb rfl rfl dX3_sumFor_74 ?o162 (fun c_66 => ?_) (fun c_66 => ?_)
                case o162 => decide
                · skip
                  obtain ⟨x_67, ex_67⟩ : ∃ y : Int32, y = iv6_5 + Int32.ofInt 1 := ⟨_, rfl⟩
                  have rg_68 := i32_r iv6_5
                  have zx_67 : x_67.toInt = iv6_5.toInt + (1) := ?o163
                  case o163 =>
                    rw [ex_67]
                    refine i32_add rfl ?o164 ?o165 ?o166
                    case o164 => decide
                    case o165 => omega
                    case o166 => omega
                  refine lv_iinc (v := x_67) (lv' := [(5, .int x_67), (6, .int (1 : Int32)), (4, .int iv6_4), (0, .ref x), (1, .int i1), (2, .int i2), (3, .int i3)]) hx hb dX3_sumFor_94 hl (k := 1) rfl ex_67.symm ?o167 rfl (fun ls hl => ?_)
                  case o167 => decide
                  refine lv_goto (tgt := 6) hx hb dX3_sumFor_97 ?o168 ?_
                  case o168 => decide
                  refine ih6 x_67 iv6_4 _ _ hL1 hl1 ls ?o169 ?o170 ?o171 hW hT hM  gx  (lv_sub hl [0, 2, 3, 4, 5, 6] rfl)
                  case o169 => omega
                  case o170 => omega
                  case o171 => omega
                · skip
                  refine lv_iload hx hb dX3_sumFor_77 (lv_at hl 0 rfl) ?_
                  refine hb_if_ne (zx := 1) (tgt := 94) hx hb ?o172 dX3_sumFor_79 ?o173 (fun c_69 => ?_) (fun c_69 => absurd c_69 ?o174)
                  case o172 => decide
                  case o173 => decide
                  case o174 => decide
                  obtain ⟨x_70, ex_70⟩ : ∃ y : Int32, y = iv6_5 + Int32.ofInt 1 := ⟨_, rfl⟩
                  have rg_71 := i32_r iv6_5
                  have zx_70 : x_70.toInt = iv6_5.toInt + (1) := ?o175
                  case o175 =>
                    rw [ex_70]
                    refine i32_add rfl ?o176 ?o177 ?o178
                    case o176 => decide
                    case o177 => omega
                    case o178 => omega
                  refine lv_iinc (v := x_70) (lv' := [(5, .int x_70), (6, .int (1 : Int32)), (4, .int iv6_4), (0, .ref x), (1, .int i1), (2, .int i2), (3, .int i3)]) hx hb dX3_sumFor_94 hl (k := 1) rfl ex_70.symm ?o179 rfl (fun ls hl => ?_)
                  case o179 => decide
                  refine lv_goto (tgt := 6) hx hb dX3_sumFor_97 ?o180 ?_
                  case o180 => decide
                  refine ih6 x_70 iv6_4 _ _ hL1 hl1 ls ?o181 ?o182 ?o183 hW hT hM  gx  (lv_sub hl [0, 2, 3, 4, 5, 6] rfl)
                  case o181 => omega
                  case o182 => omega
                  case o183 => omega
  refine loop6 601 (0 : Int32) (0 : Int32) _ _ L h ls ?o184 ?o185 ?o186 hW hT hM  gx  hl
  case o184 => decide
  case o185 => decide
  case o186 => decide

def wNX3_addPayment : Nat := 3072352638319341537194374218074165144922966893422248214540203018502762949684346195608978202284098914811895245837412970194320040875901803106166001303038230037193893897196584863121591385423131690
theorem wX3_addPayment_c : hz_cd cX3_addPayment wNX3_addPayment 80 := ⟨by decide +kernel, by decide +kernel⟩
theorem dX3_addPayment_0 : decode cX3_addPayment 0 = .ok (.aload_n 0, 1) := dw_42 wX3_addPayment_c rfl
theorem dX3_addPayment_1 : decode cX3_addPayment 1 = .ok (.getfield 27, 3) := dw_180 wX3_addPayment_c 0 27 rfl rfl
theorem dX3_addPayment_4 : decode cX3_addPayment 4 = .ok (.sipush 600, 3) := dw_17 wX3_addPayment_c 2 88 rfl rfl rfl
theorem dX3_addPayment_7 : decode cX3_addPayment 7 = .ok (.if_icmp .lt 5, 3) := dw_161 wX3_addPayment_c 0 5 rfl rfl rfl
theorem dX3_addPayment_12 : decode cX3_addPayment 12 = .ok (.aload_n 0, 1) := dw_42 wX3_addPayment_c rfl
theorem dX3_addPayment_13 : decode cX3_addPayment 13 = .ok (.getfield 15, 3) := dw_180 wX3_addPayment_c 0 15 rfl rfl
theorem dX3_addPayment_16 : decode cX3_addPayment 16 = .ok (.aload_n 0, 1) := dw_42 wX3_addPayment_c rfl
theorem dX3_addPayment_17 : decode cX3_addPayment 17 = .ok (.getfield 27, 3) := dw_180 wX3_addPayment_c 0 27 rfl rfl
theorem dX3_addPayment_20 : decode cX3_addPayment 20 = .ok (.iload_n 1, 1) := dw_27 wX3_addPayment_c rfl
theorem dX3_addPayment_21 : decode cX3_addPayment 21 = .ok (.iastore, 1) := dw_79 wX3_addPayment_c rfl
theorem dX3_addPayment_22 : decode cX3_addPayment 22 = .ok (.aload_n 0, 1) := dw_42 wX3_addPayment_c rfl
theorem dX3_addPayment_23 : decode cX3_addPayment 23 = .ok (.getfield 18, 3) := dw_180 wX3_addPayment_c 0 18 rfl rfl
theorem dX3_addPayment_26 : decode cX3_addPayment 26 = .ok (.aload_n 0, 1) := dw_42 wX3_addPayment_c rfl
theorem dX3_addPayment_27 : decode cX3_addPayment 27 = .ok (.getfield 27, 3) := dw_180 wX3_addPayment_c 0 27 rfl rfl
theorem dX3_addPayment_30 : decode cX3_addPayment 30 = .ok (.iload_n 2, 1) := dw_28 wX3_addPayment_c rfl
theorem dX3_addPayment_31 : decode cX3_addPayment 31 = .ok (.iastore, 1) := dw_79 wX3_addPayment_c rfl
theorem dX3_addPayment_32 : decode cX3_addPayment 32 = .ok (.aload_n 0, 1) := dw_42 wX3_addPayment_c rfl
theorem dX3_addPayment_33 : decode cX3_addPayment 33 = .ok (.getfield 21, 3) := dw_180 wX3_addPayment_c 0 21 rfl rfl
theorem dX3_addPayment_36 : decode cX3_addPayment 36 = .ok (.aload_n 0, 1) := dw_42 wX3_addPayment_c rfl
theorem dX3_addPayment_37 : decode cX3_addPayment 37 = .ok (.getfield 27, 3) := dw_180 wX3_addPayment_c 0 27 rfl rfl
theorem dX3_addPayment_40 : decode cX3_addPayment 40 = .ok (.iload_n 3, 1) := dw_29 wX3_addPayment_c rfl
theorem dX3_addPayment_41 : decode cX3_addPayment 41 = .ok (.iastore, 1) := dw_79 wX3_addPayment_c rfl
theorem dX3_addPayment_42 : decode cX3_addPayment 42 = .ok (.aload_n 0, 1) := dw_42 wX3_addPayment_c rfl
theorem dX3_addPayment_43 : decode cX3_addPayment 43 = .ok (.getfield 24, 3) := dw_180 wX3_addPayment_c 0 24 rfl rfl
theorem dX3_addPayment_46 : decode cX3_addPayment 46 = .ok (.aload_n 0, 1) := dw_42 wX3_addPayment_c rfl
theorem dX3_addPayment_47 : decode cX3_addPayment 47 = .ok (.getfield 27, 3) := dw_180 wX3_addPayment_c 0 27 rfl rfl
theorem dX3_addPayment_50 : decode cX3_addPayment 50 = .ok (.iload 4, 2) := dw_21 wX3_addPayment_c 4 rfl
theorem dX3_addPayment_52 : decode cX3_addPayment 52 = .ok (.iastore, 1) := dw_79 wX3_addPayment_c rfl
theorem dX3_addPayment_53 : decode cX3_addPayment 53 = .ok (.aload_n 0, 1) := dw_42 wX3_addPayment_c rfl
theorem dX3_addPayment_54 : decode cX3_addPayment 54 = .ok (.getfield 9, 3) := dw_180 wX3_addPayment_c 0 9 rfl rfl
theorem dX3_addPayment_57 : decode cX3_addPayment 57 = .ok (.aload_n 0, 1) := dw_42 wX3_addPayment_c rfl
theorem dX3_addPayment_58 : decode cX3_addPayment 58 = .ok (.getfield 27, 3) := dw_180 wX3_addPayment_c 0 27 rfl rfl
theorem dX3_addPayment_61 : decode cX3_addPayment 61 = .ok (.iconst (-1), 1) := dw_2 wX3_addPayment_c rfl
theorem dX3_addPayment_62 : decode cX3_addPayment 62 = .ok (.iastore, 1) := dw_79 wX3_addPayment_c rfl
theorem dX3_addPayment_63 : decode cX3_addPayment 63 = .ok (.aload_n 0, 1) := dw_42 wX3_addPayment_c rfl
theorem dX3_addPayment_64 : decode cX3_addPayment 64 = .ok (.dup, 1) := dw_89 wX3_addPayment_c rfl
theorem dX3_addPayment_65 : decode cX3_addPayment 65 = .ok (.getfield 27, 3) := dw_180 wX3_addPayment_c 0 27 rfl rfl
theorem dX3_addPayment_68 : decode cX3_addPayment 68 = .ok (.iconst 1, 1) := dw_4 wX3_addPayment_c rfl
theorem dX3_addPayment_69 : decode cX3_addPayment 69 = .ok (.iadd, 1) := dw_96 wX3_addPayment_c rfl
theorem dX3_addPayment_70 : decode cX3_addPayment 70 = .ok (.putfield 27, 3) := dw_181 wX3_addPayment_c 0 27 rfl rfl
theorem dX3_addPayment_73 : decode cX3_addPayment 73 = .ok (.aload_n 0, 1) := dw_42 wX3_addPayment_c rfl
theorem dX3_addPayment_74 : decode cX3_addPayment 74 = .ok (.getfield 27, 3) := dw_180 wX3_addPayment_c 0 27 rfl rfl
theorem dX3_addPayment_77 : decode cX3_addPayment 77 = .ok (.iconst 1, 1) := dw_4 wX3_addPayment_c rfl
theorem dX3_addPayment_78 : decode cX3_addPayment 78 = .ok (.isub, 1) := dw_100 wX3_addPayment_c rfl
theorem dX3_addPayment_79 : decode cX3_addPayment 79 = .ok (.ireturn, 1) := dw_172 wX3_addPayment_c rfl
end
section
theorem dX7_isInRing_0 : decode cX7_isInRing 0 = .ok (.iconst 0, 1) := by decide +kernel
theorem dX7_isInRing_1 : decode cX7_isInRing 1 = .ok (.istore_n 3, 1) := by decide +kernel
theorem dX7_isInRing_2 : decode cX7_isInRing 2 = .ok (.iload_n 3, 1) := by decide +kernel
theorem dX7_isInRing_3 : decode cX7_isInRing 3 = .ok (.iload_n 2, 1) := by decide +kernel
theorem dX7_isInRing_4 : decode cX7_isInRing 4 = .ok (.if_icmp .ge 21, 3) := by decide +kernel
theorem dX7_isInRing_7 : decode cX7_isInRing 7 = .ok (.aload_n 0, 1) := by decide +kernel
theorem dX7_isInRing_8 : decode cX7_isInRing 8 = .ok (.getfield 22, 3) := by decide +kernel
theorem dX7_isInRing_11 : decode cX7_isInRing 11 = .ok (.iload_n 3, 1) := by decide +kernel
theorem dX7_isInRing_12 : decode cX7_isInRing 12 = .ok (.iaload, 1) := by decide +kernel
theorem dX7_isInRing_13 : decode cX7_isInRing 13 = .ok (.iload_n 1, 1) := by decide +kernel
theorem dX7_isInRing_14 : decode cX7_isInRing 14 = .ok (.if_icmp .ne 5, 3) := by decide +kernel
theorem dX7_isInRing_17 : decode cX7_isInRing 17 = .ok (.iconst 1, 1) := by decide +kernel
theorem dX7_isInRing_18 : decode cX7_isInRing 18 = .ok (.ireturn, 1) := by decide +kernel
theorem dX7_isInRing_19 : decode cX7_isInRing 19 = .ok (.iinc 3 1, 3) := by decide +kernel
theorem dX7_isInRing_22 : decode cX7_isInRing 22 = .ok (.goto (-20), 3) := by decide +kernel
theorem dX7_isInRing_25 : decode cX7_isInRing 25 = .ok (.iconst 0, 1) := by decide +kernel
theorem dX7_isInRing_26 : decode cX7_isInRing 26 = .ok (.ireturn, 1) := by decide +kernel
def wNX7_clear : Nat := 1350228353924437385275850289886505952057005540791100504285423050604837334859432401706
theorem wX7_clear_c : hz_cd cX7_clear wNX7_clear 35 := ⟨by decide +kernel, by decide +kernel⟩
theorem dX7_clear_0 : decode cX7_clear 0 = .ok (.aload_n 0, 1) := dw_42 wX7_clear_c rfl
theorem dX7_clear_1 : decode cX7_clear 1 = .ok (.iload_n 1, 1) := dw_27 wX7_clear_c rfl
theorem dX7_clear_2 : decode cX7_clear 2 = .ok (.putfield 28, 3) := dw_181 wX7_clear_c 0 28 rfl rfl
theorem dX7_clear_5 : decode cX7_clear 5 = .ok (.aload_n 0, 1) := dw_42 wX7_clear_c rfl
theorem dX7_clear_6 : decode cX7_clear 6 = .ok (.iconst 0, 1) := dw_3 wX7_clear_c rfl
theorem dX7_clear_7 : decode cX7_clear 7 = .ok (.putfield 9, 3) := dw_181 wX7_clear_c 0 9 rfl rfl
theorem dX7_clear_10 : decode cX7_clear 10 = .ok (.iconst 0, 1) := dw_3 wX7_clear_c rfl
theorem dX7_clear_11 : decode cX7_clear 11 = .ok (.istore_n 2, 1) := dw_61 wX7_clear_c rfl
theorem dX7_clear_12 : decode cX7_clear 12 = .ok (.iload_n 2, 1) := dw_28 wX7_clear_c rfl
theorem dX7_clear_13 : decode cX7_clear 13 = .ok (.aload_n 0, 1) := dw_42 wX7_clear_c rfl
theorem dX7_clear_14 : decode cX7_clear 14 = .ok (.getfield 19, 3) := dw_180 wX7_clear_c 0 19 rfl rfl
theorem dX7_clear_17 : decode cX7_clear 17 = .ok (.arraylength, 1) := dw_190 wX7_clear_c rfl
theorem dX7_clear_18 : decode cX7_clear 18 = .ok (.if_icmp .ge 16, 3) := dw_162 wX7_clear_c 0 16 rfl rfl rfl
theorem dX7_clear_21 : decode cX7_clear 21 = .ok (.aload_n 0, 1) := dw_42 wX7_clear_c rfl
theorem dX7_clear_22 : decode cX7_clear 22 = .ok (.getfield 19, 3) := dw_180 wX7_clear_c 0 19 rfl rfl
theorem dX7_clear_25 : decode cX7_clear 25 = .ok (.iload_n 2, 1) := dw_28 wX7_clear_c rfl
theorem dX7_clear_26 : decode cX7_clear 26 = .ok (.iconst 0, 1) := dw_3 wX7_clear_c rfl
theorem dX7_clear_27 : decode cX7_clear 27 = .ok (.iastore, 1) := dw_79 wX7_clear_c rfl
theorem dX7_clear_28 : decode cX7_clear 28 = .ok (.iinc 2 1, 3) := dw_132 wX7_clear_c 2 1 rfl rfl rfl
theorem dX7_clear_31 : decode cX7_clear 31 = .ok (.goto (-19), 3) := dn_167 wX7_clear_c 255 237 rfl (by decide)
theorem dX7_clear_34 : decode cX7_clear 34 = .ok (.return_, 1) := dw_177 wX7_clear_c rfl
theorem dX7_owe_0 : decode cX7_owe 0 = .ok (.aload_n 0, 1) := by decide +kernel
theorem dX7_owe_1 : decode cX7_owe 1 = .ok (.getfield 19, 3) := by decide +kernel
theorem dX7_owe_4 : decode cX7_owe 4 = .ok (.iload_n 1, 1) := by decide +kernel
theorem dX7_owe_5 : decode cX7_owe 5 = .ok (.bipush 40, 2) := by decide +kernel
theorem dX7_owe_7 : decode cX7_owe 7 = .ok (.imul, 1) := by decide +kernel
theorem dX7_owe_8 : decode cX7_owe 8 = .ok (.iload_n 2, 1) := by decide +kernel
theorem dX7_owe_9 : decode cX7_owe 9 = .ok (.iadd, 1) := by decide +kernel
theorem dX7_owe_10 : decode cX7_owe 10 = .ok (.dup2, 1) := by decide +kernel
theorem dX7_owe_11 : decode cX7_owe 11 = .ok (.iaload, 1) := by decide +kernel
theorem dX7_owe_12 : decode cX7_owe 12 = .ok (.iload_n 3, 1) := by decide +kernel
theorem dX7_owe_13 : decode cX7_owe 13 = .ok (.iadd, 1) := by decide +kernel
theorem dX7_owe_14 : decode cX7_owe 14 = .ok (.iastore, 1) := by decide +kernel
theorem dX7_owe_15 : decode cX7_owe 15 = .ok (.return_, 1) := by decide +kernel
theorem dX7_placeAfter_0 : decode cX7_placeAfter 0 = .ok (.iload_n 1, 1) := by decide +kernel
theorem dX7_placeAfter_1 : decode cX7_placeAfter 1 = .ok (.iconst 1, 1) := by decide +kernel
theorem dX7_placeAfter_2 : decode cX7_placeAfter 2 = .ok (.iadd, 1) := by decide +kernel
theorem dX7_placeAfter_3 : decode cX7_placeAfter 3 = .ok (.aload_n 0, 1) := by decide +kernel
theorem dX7_placeAfter_4 : decode cX7_placeAfter 4 = .ok (.getfield 31, 3) := by decide +kernel
theorem dX7_placeAfter_7 : decode cX7_placeAfter 7 = .ok (.if_icmp .ge 9, 3) := by decide +kernel
theorem dX7_placeAfter_10 : decode cX7_placeAfter 10 = .ok (.iload_n 1, 1) := by decide +kernel
theorem dX7_placeAfter_11 : decode cX7_placeAfter 11 = .ok (.iconst 1, 1) := by decide +kernel
theorem dX7_placeAfter_12 : decode cX7_placeAfter 12 = .ok (.iadd, 1) := by decide +kernel
theorem dX7_placeAfter_13 : decode cX7_placeAfter 13 = .ok (.goto 4, 3) := by decide +kernel
theorem dX7_placeAfter_16 : decode cX7_placeAfter 16 = .ok (.iconst 0, 1) := by decide +kernel
theorem dX7_placeAfter_17 : decode cX7_placeAfter 17 = .ok (.ireturn, 1) := by decide +kernel
end
section
theorem dX5_leastFrom_0 : decode cX5_leastFrom 0 = .ok (.iconst 0, 1) := by decide +kernel
theorem dX5_leastFrom_1 : decode cX5_leastFrom 1 = .ok (.istore_n 2, 1) := by decide +kernel
theorem dX5_leastFrom_2 : decode cX5_leastFrom 2 = .ok (.iload_n 1, 1) := by decide +kernel
theorem dX5_leastFrom_3 : decode cX5_leastFrom 3 = .ok (.istore_n 3, 1) := by decide +kernel
theorem dX5_leastFrom_4 : decode cX5_leastFrom 4 = .ok (.iload_n 3, 1) := by decide +kernel
theorem dX5_leastFrom_5 : decode cX5_leastFrom 5 = .ok (.aload_n 0, 1) := by decide +kernel
theorem dX5_leastFrom_6 : decode cX5_leastFrom 6 = .ok (.getfield 33, 3) := by decide +kernel
theorem dX5_leastFrom_9 : decode cX5_leastFrom 9 = .ok (.if_icmp .ge 18, 3) := by decide +kernel
theorem dX5_leastFrom_12 : decode cX5_leastFrom 12 = .ok (.iload_n 2, 1) := by decide +kernel
theorem dX5_leastFrom_13 : decode cX5_leastFrom 13 = .ok (.aload_n 0, 1) := by decide +kernel
theorem dX5_leastFrom_14 : decode cX5_leastFrom 14 = .ok (.getfield 27, 3) := by decide +kernel
theorem dX5_leastFrom_17 : decode cX5_leastFrom 17 = .ok (.iload_n 3, 1) := by decide +kernel
theorem dX5_leastFrom_18 : decode cX5_leastFrom 18 = .ok (.iaload, 1) := by decide +kernel
theorem dX5_leastFrom_19 : decode cX5_leastFrom 19 = .ok (.iadd, 1) := by decide +kernel
theorem dX5_leastFrom_20 : decode cX5_leastFrom 20 = .ok (.istore_n 2, 1) := by decide +kernel
theorem dX5_leastFrom_21 : decode cX5_leastFrom 21 = .ok (.iinc 3 1, 3) := by decide +kernel
theorem dX5_leastFrom_24 : decode cX5_leastFrom 24 = .ok (.goto (-20), 3) := by decide +kernel
theorem dX5_leastFrom_27 : decode cX5_leastFrom 27 = .ok (.iload_n 2, 1) := by decide +kernel
theorem dX5_leastFrom_28 : decode cX5_leastFrom 28 = .ok (.ireturn, 1) := by decide +kernel
set_option maxHeartbeats 4000000 in
set_option maxRecDepth 100000 in
theorem t_X5_leastFrom (l : Launch) (dC : Nat → ClassId) (dI : Nat → Nat → Nat) (dA : Nat → ClassId) (L : List Nat) (h : hx_h) (sz : Nat) (x : Nat) (i1 : Int32) (hT : hx_T T_tb L h) (gx : hx_g L h x 5) (hi1 : 0 ≤ i1.toInt ∧ i1.toInt ≤ 5) : Met l yX5_leastFrom (Cond.code yX5_leastFrom cX5_leastFrom 4 (some .int) :: hx_all) ({ frames := 0, cells := 0, slots := 0, locals := 0 }) (va_Pc [.ref x, .int i1] (hx_B T_tb (P_ty dA) (dC, dI) vwCl L h sz)) (va_Qi (fun (r : Int32) (u : List Nat × hx_h) => (True) ∧ hx_T T_tb u.1 u.2 ∧ hx_S T_tb [] L h u.1 u.2) (hx_E T_tb (P_ty dA) (dC, dI) vwCl (hx_A L sz)) (hx_A L sz)) 0 0 (hx_A L sz) := by
  refine hx_met (lv := [(0, .ref x), (1, .int i1)]) (by decide +kernel) rfl (Nat.le_of_ble_eq_true rfl) rfl ?_
  intro p e s m below meth c hx hb hml hr hlk hts0 hown hin hsz hW ls hl
  have hts : ∀ w ∈ hx_all, w.before _ s = true := fun w hw => hts0 w (List.mem_cons_of_mem _ hw)
  have hown : s.vm.findClass "SmallCourt$Plan" = some m.cls := hown
  have hM : hx_S T_tb [] L h L h := hx_S.rf
  refine lv_iconst (v := 0) hx hb dX5_leastFrom_0 ?o0 ?_
  case o0 => decide
  refine lv_istore_n (lv' := [(2, .int (0 : Int32)), (0, .ref x), (1, .int i1)]) hx hb dX5_leastFrom_1 rfl hl ?o1 rfl (fun ls hl => ?_)
  case o1 => decide
  refine lv_iload_n hx hb dX5_leastFrom_2 rfl (lv_at hl 2 rfl) ?_
  refine lv_istore_n (lv' := [(3, .int i1), (2, .int (0 : Int32)), (0, .ref x), (1, .int i1)]) hx hb dX5_leastFrom_3 rfl hl ?o2 rfl (fun ls hl => ?_)
  case o2 => decide
  have loop4 : ∀ (n4 : Nat) (iv4_3 iv4_2 : Int32) (H : Heap) (locs : List Loc) (hL1 : List Nat) (hl1 : hx_h) (ls : Array Slot), 0 ≤ iv4_3.toInt → iv4_3.toInt ≤ 5 → 5 < iv4_3.toInt + n4 → hx_W T_tb (P_ty dA) (dC, dI) vwCl (hx_A L sz) s.heap hL1 hl1 s H locs → hx_T T_tb hL1 hl1 → hx_S T_tb [] L h hL1 hl1 → hx_g hL1 hl1 x 5 → lv_has ls 4 [(3, .int iv4_3), (2, .int iv4_2), (0, .ref x), (1, .int i1)] → W p l e ({ frames := 0, cells := 0, slots := 0, locals := 0 }) s m ([.ref x, .int i1] : List Value).toArray below meth c H locs 0 0 (MQ below (va_Qi (fun (r : Int32) (u : List Nat × hx_h) => (True) ∧ hx_T T_tb u.1 u.2 ∧ hx_S T_tb [] L h u.1 u.2) (hx_E T_tb (P_ty dA) (dC, dI) vwCl (hx_A L sz)) (hx_A L sz)) ([.ref x, .int i1] : List Value).toArray s 0 0 (hx_A L sz)) (F0 m 4 ls []) := by
    intro n4
    induction n4 with
    | zero => intro iv4_3 iv4_2 H locs hL1 hl1 ls bl4_3 bu4_3 hn4; exfalso; omega
    | succ n4 ih4 =>
      intro iv4_3 iv4_2 H locs hL1 hl1 ls bl4_3 bu4_3 hn4 hW hT hM  gx  hl
      refine lv_iload_n hx hb dX5_leastFrom_4 rfl (lv_at hl 0 rfl) ?_
      refine lv_aload_n hx hb dX5_leastFrom_5 rfl (lv_at hl 2 rfl) ?_
      refine hx_geti hx hb hts hC_5 hown hW hT gx tt_5 0 ?o3 rfl kw_258 ⟨rfl, rfl, rfl⟩ dX5_leastFrom_6 (fun x_1 ex_1 lx_1 ux_1 => ?_)
      case o3 => decide
      have fx_1 := ex_1.symm
      refine hb_icmp_ge (zx := iv4_3.toInt) (zy := x_1.toInt) (tgt := 27) hx hb rfl rfl dX5_leastFrom_9 ?o4 (fun c_2 => ?_) (fun c_2 => ?_)
      case o4 => decide
      · skip
        refine lv_iload_n hx hb dX5_leastFrom_27 rfl (lv_at hl 1 rfl) ?_
        exact hx_reti hx hb hr hlk hW ⟨trivial, hT, hM⟩ dX5_leastFrom_28
      · skip
        refine lv_iload_n hx hb dX5_leastFrom_12 rfl (lv_at hl 1 rfl) ?_
        refine lv_aload_n hx hb dX5_leastFrom_13 rfl (lv_at hl 2 rfl) ?_
        refine hx_getn hx hb hts hC_5 hown hW hT gx tt_5 7 ?o5 rfl kw_270 ⟨rfl, rfl, rfl⟩ dX5_leastFrom_14 (fun q_3 fq_3 gq_3 => ?_)
        case o5 => decide
        refine lv_iload_n hx hb dX5_leastFrom_17 rfl (lv_at hl 0 rfl) ?_
        refine hx_iald hx hb hW hT gq_3 tt_32 rfl ⟨?o6, ?o7⟩ dX5_leastFrom_18 (fun x_4 ex_4 lx_4 ux_4 => ?_)
        case o6 => omega
        case o7 => omega
        refine lv_iadd hx hb dX5_leastFrom_19 ?_
        have rg_5 := i32_r iv4_2
        have rg_6 := i32_r x_4
        refine lv_topi (fun x_7 ex_7 => ?_)
        refine lv_istore_n (lv' := [(2, .int x_7), (3, .int iv4_3), (0, .ref x), (1, .int i1)]) hx hb dX5_leastFrom_20 rfl hl ?o8 rfl (fun ls hl => ?_)
        case o8 => decide
        obtain ⟨x_8, ex_8⟩ : ∃ y : Int32, y = iv4_3 + Int32.ofInt 1 := ⟨_, rfl⟩
        have rg_9 := i32_r iv4_3
        have zx_8 : x_8.toInt = iv4_3.toInt + (1) := ?o9
        case o9 =>
          rw [ex_8]
          refine i32_add rfl ?o10 ?o11 ?o12
          case o10 => decide
          case o11 => omega
          case o12 => omega
        refine lv_iinc (v := x_8) (lv' := [(3, .int x_8), (2, .int x_7), (0, .ref x), (1, .int i1)]) hx hb dX5_leastFrom_21 hl (k := 1) rfl ex_8.symm ?o13 rfl (fun ls hl => ?_)
        case o13 => decide
        refine lv_goto (tgt := 4) hx hb dX5_leastFrom_24 ?o14 ?_
        case o14 => decide
        refine ih4 x_8 x_7 _ _ hL1 hl1 ls ?o15 ?o16 ?o17 hW hT hM  gx  (lv_sub hl [0, 1, 2, 3] rfl)
        case o15 => omega
        case o16 => omega
        case o17 => omega
  refine loop4 6 i1 (0 : Int32) _ _ L h ls ?o18 ?o19 ?o20 hW hT hM  gx  hl
  case o18 => omega
  case o19 => omega
  case o20 => omega

theorem dX5_clear_0 : decode cX5_clear 0 = .ok (.aload_n 0, 1) := by decide +kernel
theorem dX5_clear_1 : decode cX5_clear 1 = .ok (.iconst 0, 1) := by decide +kernel
theorem dX5_clear_2 : decode cX5_clear 2 = .ok (.putfield 33, 3) := by decide +kernel
theorem dX5_clear_5 : decode cX5_clear 5 = .ok (.aload_n 0, 1) := by decide +kernel
theorem dX5_clear_6 : decode cX5_clear 6 = .ok (.iload_n 1, 1) := by decide +kernel
theorem dX5_clear_7 : decode cX5_clear 7 = .ok (.putfield 37, 3) := by decide +kernel
theorem dX5_clear_10 : decode cX5_clear 10 = .ok (.aload_n 0, 1) := by decide +kernel
theorem dX5_clear_11 : decode cX5_clear 11 = .ok (.iload_n 2, 1) := by decide +kernel
theorem dX5_clear_12 : decode cX5_clear 12 = .ok (.putfield 40, 3) := by decide +kernel
theorem dX5_clear_15 : decode cX5_clear 15 = .ok (.return_, 1) := by decide +kernel
set_option maxHeartbeats 4000000 in
set_option maxRecDepth 100000 in
theorem t_X5_clear (l : Launch) (dC : Nat → ClassId) (dI : Nat → Nat → Nat) (dA : Nat → ClassId) (L : List Nat) (h : hx_h) (sz : Nat) (x : Nat) (i1 : Int32) (i2 : Int32) (hT : hx_T T_tb L h) (gx : hx_g L h x 5)  : Met l yX5_clear (Cond.code yX5_clear cX5_clear 3 none :: hx_all) ({ frames := 0, cells := 0, slots := 0, locals := 0 }) (va_Pc [.ref x, .int i1, .int i2] (hx_B T_tb (P_ty dA) (dC, dI) vwCl L h sz)) (va_Qv (fun (u : List Nat × hx_h) => hx_T T_tb u.1 u.2 ∧ hx_S T_tb [(5, 0), (5, 9), (5, 10)] L h u.1 u.2) (hx_E T_tb (P_ty dA) (dC, dI) vwCl (hx_A L sz)) (hx_A L sz)) 0 0 (hx_A L sz) := by
  refine hx_met (lv := [(0, .ref x), (1, .int i1), (2, .int i2)]) (by decide +kernel) rfl (Nat.le_of_ble_eq_true rfl) rfl ?_
  intro p e s m below meth c hx hb hml hr hlk hts0 hown hin hsz hW ls hl
  have hts : ∀ w ∈ hx_all, w.before _ s = true := fun w hw => hts0 w (List.mem_cons_of_mem _ hw)
  have hown : s.vm.findClass "SmallCourt$Plan" = some m.cls := hown
  have hM : hx_S T_tb [(5, 0), (5, 9), (5, 10)] L h L h := hx_S.rf
  refine lv_aload_n hx hb dX5_clear_0 rfl (lv_at hl 0 rfl) ?_
  refine lv_iconst (v := 0) hx hb dX5_clear_1 ?o0 ?_
  case o0 => decide
  refine hx_puti hx hb hts hC_5 hown hW hT (hx_S.rf (M := [(5, 0)])) gx tt_5 0 ?o1 rfl kw_258 ⟨rfl, rfl, rfl⟩ rfl (x := (0 : Int32)) ?o2 rfl rfl rfl (List.mem_singleton.mpr rfl) dX5_clear_2 (fun H locs h_1 eh_1 hW hT hs => ?_)
  case o1 => decide
  case o2 => decide
  replace hM := hM.tr (hs.mono ?o3)
  case o3 => decide
  replace gx := gx.S hs
  have f_2 : h_1.2.1 x 0 = (0 : Int32) := ?o4
  case o4 =>
    rw [eh_1]
    exact hx_pi_at _ _ _ _
  refine lv_aload_n hx hb dX5_clear_5 rfl (lv_at hl 0 rfl) ?_
  refine lv_iload_n hx hb dX5_clear_6 rfl (lv_at hl 1 rfl) ?_
  refine hx_puti hx hb hts hC_5 hown hW hT (hx_S.rf (M := [(5, 9)])) gx tt_5 9 ?o5 rfl kw_272 ⟨rfl, rfl, rfl⟩ rfl (x := i1) (i32_r _) rfl rfl rfl (List.mem_singleton.mpr rfl) dX5_clear_7 (fun H locs h_3 eh_3 hW hT hs => ?_)
  case o5 => decide
  replace f_2 := (hs.o gx trivial rfl).1.trans f_2
  replace hM := hM.tr (hs.mono ?o6)
  case o6 => decide
  replace gx := gx.S hs
  have f_4 : h_3.2.1 x 9 = i1 := ?o7
  case o7 =>
    rw [eh_3]
    exact hx_pi_at _ _ _ _
  refine lv_aload_n hx hb dX5_clear_10 rfl (lv_at hl 0 rfl) ?_
  refine lv_iload_n hx hb dX5_clear_11 rfl (lv_at hl 2 rfl) ?_
  refine hx_puti hx hb hts hC_5 hown hW hT (hx_S.rf (M := [(5, 10)])) gx tt_5 10 ?o8 rfl kw_273 ⟨rfl, rfl, rfl⟩ rfl (x := i2) (i32_r _) rfl rfl rfl (List.mem_singleton.mpr rfl) dX5_clear_12 (fun H locs h_5 eh_5 hW hT hs => ?_)
  case o8 => decide
  replace f_2 := (hs.o gx trivial rfl).1.trans f_2
  replace f_4 := (hs.o gx trivial rfl).1.trans f_4
  replace hM := hM.tr (hs.mono ?o9)
  case o9 => decide
  replace gx := gx.S hs
  have f_6 : h_5.2.1 x 10 = i2 := ?o10
  case o10 =>
    rw [eh_5]
    exact hx_pi_at _ _ _ _
  exact hx_retv hx hb hr hlk hW ⟨hT, hM⟩ dX5_clear_15
end
section
theorem dX9_roundUp_0 : decode cX9_roundUp 0 = .ok (.iload_n 0, 1) := by decide +kernel
theorem dX9_roundUp_1 : decode cX9_roundUp 1 = .ok (.ifCond .le 8, 3) := by decide +kernel
theorem dX9_roundUp_4 : decode cX9_roundUp 4 = .ok (.iload_n 1, 1) := by decide +kernel
theorem dX9_roundUp_5 : decode cX9_roundUp 5 = .ok (.iconst 1, 1) := by decide +kernel
theorem dX9_roundUp_6 : decode cX9_roundUp 6 = .ok (.if_icmp .ge 7, 3) := by decide +kernel
theorem dX9_roundUp_9 : decode cX9_roundUp 9 = .ok (.iconst 0, 1) := by decide +kernel
theorem dX9_roundUp_10 : decode cX9_roundUp 10 = .ok (.goto 10, 3) := by decide +kernel
theorem dX9_roundUp_13 : decode cX9_roundUp 13 = .ok (.iload_n 0, 1) := by decide +kernel
theorem dX9_roundUp_14 : decode cX9_roundUp 14 = .ok (.iconst 1, 1) := by decide +kernel
theorem dX9_roundUp_15 : decode cX9_roundUp 15 = .ok (.isub, 1) := by decide +kernel
theorem dX9_roundUp_16 : decode cX9_roundUp 16 = .ok (.iload_n 1, 1) := by decide +kernel
theorem dX9_roundUp_17 : decode cX9_roundUp 17 = .ok (.idiv, 1) := by decide +kernel
theorem dX9_roundUp_18 : decode cX9_roundUp 18 = .ok (.iconst 1, 1) := by decide +kernel
theorem dX9_roundUp_19 : decode cX9_roundUp 19 = .ok (.iadd, 1) := by decide +kernel
theorem dX9_roundUp_20 : decode cX9_roundUp 20 = .ok (.ireturn, 1) := by decide +kernel
set_option maxHeartbeats 4000000 in
set_option maxRecDepth 100000 in
theorem t_X9_roundUp (l : Launch) (dC : Nat → ClassId) (dI : Nat → Nat → Nat) (dA : Nat → ClassId) (L : List Nat) (h : hx_h) (sz : Nat) (i1 : Int32) (i2 : Int32) (hT : hx_T T_tb L h)   : Met l yX9_roundUp (Cond.code yX9_roundUp cX9_roundUp 2 (some .int) :: hx_all) ({ frames := 0, cells := 0, slots := 0, locals := 0 }) (va_Pc [.int i1, .int i2] (hx_B T_tb (P_ty dA) (dC, dI) vwCl L h sz)) (va_Qi (fun (r : Int32) (u : List Nat × hx_h) => (True) ∧ hx_T T_tb u.1 u.2 ∧ hx_S T_tb [] L h u.1 u.2) (hx_E T_tb (P_ty dA) (dC, dI) vwCl (hx_A L sz)) (hx_A L sz)) 0 0 (hx_A L sz) := by
  refine hx_met (lv := [(0, .int i1), (1, .int i2)]) (by decide +kernel) rfl (Nat.le_of_ble_eq_true rfl) rfl ?_
  intro p e s m below meth c hx hb hml hr hlk hts0 hown hin hsz hW ls hl
  have hts : ∀ w ∈ hx_all, w.before _ s = true := fun w hw => hts0 w (List.mem_cons_of_mem _ hw)
  have hown : s.vm.findClass "SmallCourt" = some m.cls := hown
  have hM : hx_S T_tb [] L h L h := hx_S.rf
  refine lv_iload_n hx hb dX9_roundUp_0 rfl (lv_at hl 0 rfl) ?_
  refine hb_if_le (zx := i1.toInt) (tgt := 9) hx hb rfl dX9_roundUp_1 ?o0 (fun c_1 => ?_) (fun c_1 => ?_)
  case o0 => decide
  · skip
    refine lv_iconst (v := 0) hx hb dX9_roundUp_9 ?o1 ?_
    case o1 => decide
    refine lv_goto (tgt := 20) hx hb dX9_roundUp_10 ?o2 ?_
    case o2 => decide
    exact hx_reti hx hb hr hlk hW ⟨trivial, hT, hM⟩ dX9_roundUp_20
  · skip
    refine lv_iload_n hx hb dX9_roundUp_4 rfl (lv_at hl 1 rfl) ?_
    refine lv_iconst (v := 1) hx hb dX9_roundUp_5 ?o3 ?_
    case o3 => decide
    refine hb_icmp_ge (zx := i2.toInt) (zy := 1) (tgt := 13) hx hb rfl ?o4 dX9_roundUp_6 ?o5 (fun c_2 => ?_) (fun c_2 => ?_)
    case o4 => decide
    case o5 => decide
    · skip
      refine lv_iload_n hx hb dX9_roundUp_13 rfl (lv_at hl 0 rfl) ?_
      refine lv_iconst (v := 1) hx hb dX9_roundUp_14 ?o6 ?_
      case o6 => decide
      refine lv_isub hx hb dX9_roundUp_15 ?_
      have rg_3 := i32_r i1
      refine lv_topi (fun x_4 ex_4 => ?_)
      have zx_4 : x_4.toInt = i1.toInt - 1 := ?o7
      case o7 =>
        rw [ex_4]
        refine i32_sub rfl ?o8 ?o9 ?o10
        case o8 => decide
        case o9 => omega
        case o10 => omega
      refine lv_iload_n hx hb dX9_roundUp_16 rfl (lv_at hl 1 rfl) ?_
      refine lv_idiv hx hb dX9_roundUp_17 (hx_ne0 ?o11) ?_
      case o11 => omega
      refine lv_topi (fun x_5 ex_5 => ?_)
      refine lv_iconst (v := 1) hx hb dX9_roundUp_18 ?o12 ?_
      case o12 => decide
      refine lv_iadd hx hb dX9_roundUp_19 ?_
      have rg_6 := i32_r x_5
      refine lv_topi (fun x_7 ex_7 => ?_)
      exact hx_reti hx hb hr hlk hW ⟨trivial, hT, hM⟩ dX9_roundUp_20
    · skip
      refine lv_iconst (v := 0) hx hb dX9_roundUp_9 ?o13 ?_
      case o13 => decide
      refine lv_goto (tgt := 20) hx hb dX9_roundUp_10 ?o14 ?_
      case o14 => decide
      exact hx_reti hx hb hr hlk hW ⟨trivial, hT, hM⟩ dX9_roundUp_20

theorem dX9_isWithin_0 : decode cX9_isWithin 0 = .ok (.iload_n 0, 1) := by decide +kernel
theorem dX9_isWithin_1 : decode cX9_isWithin 1 = .ok (.iload_n 1, 1) := by decide +kernel
theorem dX9_isWithin_2 : decode cX9_isWithin 2 = .ok (.if_icmp .lt 12, 3) := by decide +kernel
theorem dX9_isWithin_5 : decode cX9_isWithin 5 = .ok (.iload_n 0, 1) := by decide +kernel
theorem dX9_isWithin_6 : decode cX9_isWithin 6 = .ok (.iload_n 2, 1) := by decide +kernel
theorem dX9_isWithin_7 : decode cX9_isWithin 7 = .ok (.if_icmp .gt 7, 3) := by decide +kernel
theorem dX9_isWithin_10 : decode cX9_isWithin 10 = .ok (.iconst 1, 1) := by decide +kernel
theorem dX9_isWithin_11 : decode cX9_isWithin 11 = .ok (.goto 4, 3) := by decide +kernel
theorem dX9_isWithin_14 : decode cX9_isWithin 14 = .ok (.iconst 0, 1) := by decide +kernel
theorem dX9_isWithin_15 : decode cX9_isWithin 15 = .ok (.ireturn, 1) := by decide +kernel
theorem dX9_isDay_0 : decode cX9_isDay 0 = .ok (.iload_n 0, 1) := by decide +kernel
theorem dX9_isDay_1 : decode cX9_isDay 1 = .ok (.iconst 0, 1) := by decide +kernel
theorem dX9_isDay_2 : decode cX9_isDay 2 = .ok (.sipush 7999, 3) := by decide +kernel
theorem dX9_isDay_5 : decode cX9_isDay 5 = .ok (.invokestatic 128, 3) := by decide +kernel
theorem dX9_isDay_8 : decode cX9_isDay 8 = .ok (.ireturn, 1) := by decide +kernel
def wNX9_isHousehold : Nat := 103418109351803139985375290474821349032687198977854690463137942832115764430441506311384183274369859889770584408858
theorem wX9_isHousehold_c : hz_cd cX9_isHousehold wNX9_isHousehold 47 := ⟨by decide +kernel, by decide +kernel⟩
theorem dX9_isHousehold_0 : decode cX9_isHousehold 0 = .ok (.iload_n 0, 1) := dw_26 wX9_isHousehold_c rfl
theorem dX9_isHousehold_1 : decode cX9_isHousehold 1 = .ok (.iconst 0, 1) := dw_3 wX9_isHousehold_c rfl
theorem dX9_isHousehold_2 : decode cX9_isHousehold 2 = .ok (.sipush 9999, 3) := dw_17 wX9_isHousehold_c 39 15 rfl rfl rfl
theorem dX9_isHousehold_5 : decode cX9_isHousehold 5 = .ok (.invokestatic 128, 3) := dw_184 wX9_isHousehold_c 0 128 rfl rfl
theorem dX9_isHousehold_8 : decode cX9_isHousehold 8 = .ok (.ifCond .eq 37, 3) := dw_153 wX9_isHousehold_c 0 37 rfl rfl rfl
theorem dX9_isHousehold_11 : decode cX9_isHousehold 11 = .ok (.iload_n 1, 1) := dw_27 wX9_isHousehold_c rfl
theorem dX9_isHousehold_12 : decode cX9_isHousehold 12 = .ok (.iconst 1, 1) := dw_4 wX9_isHousehold_c rfl
theorem dX9_isHousehold_13 : decode cX9_isHousehold 13 = .ok (.bipush 20, 2) := dw_16 wX9_isHousehold_c 20 rfl rfl rfl
theorem dX9_isHousehold_15 : decode cX9_isHousehold 15 = .ok (.invokestatic 128, 3) := dw_184 wX9_isHousehold_c 0 128 rfl rfl
theorem dX9_isHousehold_18 : decode cX9_isHousehold 18 = .ok (.ifCond .eq 27, 3) := dw_153 wX9_isHousehold_c 0 27 rfl rfl rfl
theorem dX9_isHousehold_21 : decode cX9_isHousehold 21 = .ok (.iload_n 2, 1) := dw_28 wX9_isHousehold_c rfl
theorem dX9_isHousehold_22 : decode cX9_isHousehold 22 = .ok (.iconst 0, 1) := dw_3 wX9_isHousehold_c rfl
theorem dX9_isHousehold_23 : decode cX9_isHousehold 23 = .ok (.bipush 99, 2) := dw_16 wX9_isHousehold_c 99 rfl rfl rfl
theorem dX9_isHousehold_25 : decode cX9_isHousehold 25 = .ok (.invokestatic 128, 3) := dw_184 wX9_isHousehold_c 0 128 rfl rfl
theorem dX9_isHousehold_28 : decode cX9_isHousehold 28 = .ok (.ifCond .eq 17, 3) := dw_153 wX9_isHousehold_c 0 17 rfl rfl rfl
theorem dX9_isHousehold_31 : decode cX9_isHousehold 31 = .ok (.iload_n 3, 1) := dw_29 wX9_isHousehold_c rfl
theorem dX9_isHousehold_32 : decode cX9_isHousehold 32 = .ok (.iconst 0, 1) := dw_3 wX9_isHousehold_c rfl
theorem dX9_isHousehold_33 : decode cX9_isHousehold 33 = .ok (.bipush 99, 2) := dw_16 wX9_isHousehold_c 99 rfl rfl rfl
theorem dX9_isHousehold_35 : decode cX9_isHousehold 35 = .ok (.invokestatic 128, 3) := dw_184 wX9_isHousehold_c 0 128 rfl rfl
theorem dX9_isHousehold_38 : decode cX9_isHousehold 38 = .ok (.ifCond .eq 7, 3) := dw_153 wX9_isHousehold_c 0 7 rfl rfl rfl
theorem dX9_isHousehold_41 : decode cX9_isHousehold 41 = .ok (.iconst 1, 1) := dw_4 wX9_isHousehold_c rfl
theorem dX9_isHousehold_42 : decode cX9_isHousehold 42 = .ok (.goto 4, 3) := dw_167 wX9_isHousehold_c 0 4 rfl rfl rfl
theorem dX9_isHousehold_45 : decode cX9_isHousehold 45 = .ok (.iconst 0, 1) := dw_3 wX9_isHousehold_c rfl
theorem dX9_isHousehold_46 : decode cX9_isHousehold 46 = .ok (.ireturn, 1) := dw_172 wX9_isHousehold_c rfl
theorem dX2_isDone_0 : decode cX2_isDone 0 = .ok (.iload_n 0, 1) := by decide +kernel
theorem dX2_isDone_1 : decode cX2_isDone 1 = .ok (.iconst (-1), 1) := by decide +kernel
theorem dX2_isDone_2 : decode cX2_isDone 2 = .ok (.if_icmp .eq 12, 3) := by decide +kernel
theorem dX2_isDone_5 : decode cX2_isDone 5 = .ok (.iload_n 0, 1) := by decide +kernel
theorem dX2_isDone_6 : decode cX2_isDone 6 = .ok (.iload_n 1, 1) := by decide +kernel
theorem dX2_isDone_7 : decode cX2_isDone 7 = .ok (.if_icmp .gt 7, 3) := by decide +kernel
theorem dX2_isDone_10 : decode cX2_isDone 10 = .ok (.iconst 1, 1) := by decide +kernel
theorem dX2_isDone_11 : decode cX2_isDone 11 = .ok (.goto 4, 3) := by decide +kernel
theorem dX2_isDone_14 : decode cX2_isDone 14 = .ok (.iconst 0, 1) := by decide +kernel
theorem dX2_isDone_15 : decode cX2_isDone 15 = .ok (.ireturn, 1) := by decide +kernel
set_option maxHeartbeats 4000000 in
set_option maxRecDepth 100000 in
theorem t_X2_isDone (l : Launch) (dC : Nat → ClassId) (dI : Nat → Nat → Nat) (dA : Nat → ClassId) (L : List Nat) (h : hx_h) (sz : Nat) (i1 : Int32) (i2 : Int32) (hT : hx_T T_tb L h)   : Met l yX2_isDone (Cond.code yX2_isDone cX2_isDone 2 (some .boolean) :: hx_all) ({ frames := 0, cells := 0, slots := 0, locals := 0 }) (va_Pc [.int i1, .int i2] (hx_B T_tb (P_ty dA) (dC, dI) vwCl L h sz)) (va_Qi (fun (r : Int32) (u : List Nat × hx_h) => (r.toInt = 0 ∨ r.toInt = 1) ∧ hx_T T_tb u.1 u.2 ∧ hx_S T_tb [] L h u.1 u.2) (hx_E T_tb (P_ty dA) (dC, dI) vwCl (hx_A L sz)) (hx_A L sz)) 0 0 (hx_A L sz) := by
  refine hx_met (lv := [(0, .int i1), (1, .int i2)]) (by decide +kernel) rfl (Nat.le_of_ble_eq_true rfl) rfl ?_
  intro p e s m below meth c hx hb hml hr hlk hts0 hown hin hsz hW ls hl
  have hts : ∀ w ∈ hx_all, w.before _ s = true := fun w hw => hts0 w (List.mem_cons_of_mem _ hw)
  have hown : s.vm.findClass "SmallCourt$Claim" = some m.cls := hown
  have hM : hx_S T_tb [] L h L h := hx_S.rf
  refine lv_iload_n hx hb dX2_isDone_0 rfl (lv_at hl 0 rfl) ?_
  refine lv_iconst (v := -1) hx hb dX2_isDone_1 ?o0 ?_
  case o0 => decide
  refine hb_icmp_eq (zx := i1.toInt) (zy := (-1)) (tgt := 14) hx hb rfl ?o1 dX2_isDone_2 ?o2 (fun c_1 => ?_) (fun c_1 => ?_)
  case o1 => decide
  case o2 => decide
  · skip
    refine lv_iconst (v := 0) hx hb dX2_isDone_14 ?o3 ?_
    case o3 => decide
    refine hx_retz hx hb hr rfl hlk hW ⟨?o4, hT, hM⟩ dX2_isDone_15
    case o4 => decide
  · skip
    refine lv_iload_n hx hb dX2_isDone_5 rfl (lv_at hl 0 rfl) ?_
    refine lv_iload_n hx hb dX2_isDone_6 rfl (lv_at hl 1 rfl) ?_
    refine hb_icmp_gt (zx := i1.toInt) (zy := i2.toInt) (tgt := 14) hx hb rfl rfl dX2_isDone_7 ?o5 (fun c_2 => ?_) (fun c_2 => ?_)
    case o5 => decide
    · skip
      refine lv_iconst (v := 0) hx hb dX2_isDone_14 ?o6 ?_
      case o6 => decide
      refine hx_retz hx hb hr rfl hlk hW ⟨?o7, hT, hM⟩ dX2_isDone_15
      case o7 => decide
    · skip
      refine lv_iconst (v := 1) hx hb dX2_isDone_10 ?o8 ?_
      case o8 => decide
      refine lv_goto (tgt := 15) hx hb dX2_isDone_11 ?o9 ?_
      case o9 => decide
      refine hx_retz hx hb hr rfl hlk hW ⟨?o10, hT, hM⟩ dX2_isDone_15
      case o10 => decide

theorem dX0_addProof_0 : decode cX0_addProof 0 = .ok (.aload_n 0, 1) := by decide +kernel
theorem dX0_addProof_1 : decode cX0_addProof 1 = .ok (.getfield 38, 3) := by decide +kernel
theorem dX0_addProof_4 : decode cX0_addProof 4 = .ok (.sipush 160, 3) := by decide +kernel
theorem dX0_addProof_7 : decode cX0_addProof 7 = .ok (.if_icmp .ge 23, 3) := by decide +kernel
theorem dX0_addProof_10 : decode cX0_addProof 10 = .ok (.aload_n 0, 1) := by decide +kernel
theorem dX0_addProof_11 : decode cX0_addProof 11 = .ok (.getfield 15, 3) := by decide +kernel
theorem dX0_addProof_14 : decode cX0_addProof 14 = .ok (.aload_n 0, 1) := by decide +kernel
theorem dX0_addProof_15 : decode cX0_addProof 15 = .ok (.getfield 38, 3) := by decide +kernel
theorem dX0_addProof_18 : decode cX0_addProof 18 = .ok (.iload_n 1, 1) := by decide +kernel
theorem dX0_addProof_19 : decode cX0_addProof 19 = .ok (.iastore, 1) := by decide +kernel
theorem dX0_addProof_20 : decode cX0_addProof 20 = .ok (.aload_n 0, 1) := by decide +kernel
theorem dX0_addProof_21 : decode cX0_addProof 21 = .ok (.dup, 1) := by decide +kernel
theorem dX0_addProof_22 : decode cX0_addProof 22 = .ok (.getfield 38, 3) := by decide +kernel
theorem dX0_addProof_25 : decode cX0_addProof 25 = .ok (.iconst 1, 1) := by decide +kernel
theorem dX0_addProof_26 : decode cX0_addProof 26 = .ok (.iadd, 1) := by decide +kernel
theorem dX0_addProof_27 : decode cX0_addProof 27 = .ok (.putfield 38, 3) := by decide +kernel
theorem dX0_addProof_30 : decode cX0_addProof 30 = .ok (.return_, 1) := by decide +kernel
theorem dX4_tell_0 : decode cX4_tell 0 = .ok (.aload_n 0, 1) := by decide +kernel
theorem dX4_tell_1 : decode cX4_tell 1 = .ok (.iload_n 1, 1) := by decide +kernel
theorem dX4_tell_2 : decode cX4_tell 2 = .ok (.putfield 21, 3) := by decide +kernel
theorem dX4_tell_5 : decode cX4_tell 5 = .ok (.aload_n 0, 1) := by decide +kernel
theorem dX4_tell_6 : decode cX4_tell 6 = .ok (.iload_n 2, 1) := by decide +kernel
theorem dX4_tell_7 : decode cX4_tell 7 = .ok (.putfield 24, 3) := by decide +kernel
theorem dX4_tell_10 : decode cX4_tell 10 = .ok (.aload_n 0, 1) := by decide +kernel
theorem dX4_tell_11 : decode cX4_tell 11 = .ok (.iload_n 3, 1) := by decide +kernel
theorem dX4_tell_12 : decode cX4_tell 12 = .ok (.putfield 27, 3) := by decide +kernel
theorem dX4_tell_15 : decode cX4_tell 15 = .ok (.aload_n 0, 1) := by decide +kernel
theorem dX4_tell_16 : decode cX4_tell 16 = .ok (.iload 4, 2) := by decide +kernel
theorem dX4_tell_18 : decode cX4_tell 18 = .ok (.putfield 30, 3) := by decide +kernel
theorem dX4_tell_21 : decode cX4_tell 21 = .ok (.return_, 1) := by decide +kernel
def wNX2_isOnBench : Nat := 334161933760548910903231574857798947876352164035313591489003604206631589975947063899178
theorem wX2_isOnBench_c : hz_cd cX2_isOnBench wNX2_isOnBench 36 := ⟨by decide +kernel, by decide +kernel⟩
theorem dX2_isOnBench_0 : decode cX2_isOnBench 0 = .ok (.aload_n 0, 1) := dw_42 wX2_isOnBench_c rfl
theorem dX2_isOnBench_1 : decode cX2_isOnBench 1 = .ok (.getfield 15, 3) := dw_180 wX2_isOnBench_c 0 15 rfl rfl
theorem dX2_isOnBench_4 : decode cX2_isOnBench 4 = .ok (.iconst 0, 1) := dw_3 wX2_isOnBench_c rfl
theorem dX2_isOnBench_5 : decode cX2_isOnBench 5 = .ok (.iaload, 1) := dw_46 wX2_isOnBench_c rfl
theorem dX2_isOnBench_6 : decode cX2_isOnBench 6 = .ok (.iload_n 1, 1) := dw_27 wX2_isOnBench_c rfl
theorem dX2_isOnBench_7 : decode cX2_isOnBench 7 = .ok (.if_icmp .eq 23, 3) := dw_159 wX2_isOnBench_c 0 23 rfl rfl rfl
theorem dX2_isOnBench_10 : decode cX2_isOnBench 10 = .ok (.aload_n 0, 1) := dw_42 wX2_isOnBench_c rfl
theorem dX2_isOnBench_11 : decode cX2_isOnBench 11 = .ok (.getfield 15, 3) := dw_180 wX2_isOnBench_c 0 15 rfl rfl
theorem dX2_isOnBench_14 : decode cX2_isOnBench 14 = .ok (.iconst 1, 1) := dw_4 wX2_isOnBench_c rfl
theorem dX2_isOnBench_15 : decode cX2_isOnBench 15 = .ok (.iaload, 1) := dw_46 wX2_isOnBench_c rfl
theorem dX2_isOnBench_16 : decode cX2_isOnBench 16 = .ok (.iload_n 1, 1) := dw_27 wX2_isOnBench_c rfl
theorem dX2_isOnBench_17 : decode cX2_isOnBench 17 = .ok (.if_icmp .eq 13, 3) := dw_159 wX2_isOnBench_c 0 13 rfl rfl rfl
theorem dX2_isOnBench_20 : decode cX2_isOnBench 20 = .ok (.aload_n 0, 1) := dw_42 wX2_isOnBench_c rfl
theorem dX2_isOnBench_21 : decode cX2_isOnBench 21 = .ok (.getfield 15, 3) := dw_180 wX2_isOnBench_c 0 15 rfl rfl
theorem dX2_isOnBench_24 : decode cX2_isOnBench 24 = .ok (.iconst 2, 1) := dw_5 wX2_isOnBench_c rfl
theorem dX2_isOnBench_25 : decode cX2_isOnBench 25 = .ok (.iaload, 1) := dw_46 wX2_isOnBench_c rfl
theorem dX2_isOnBench_26 : decode cX2_isOnBench 26 = .ok (.iload_n 1, 1) := dw_27 wX2_isOnBench_c rfl
theorem dX2_isOnBench_27 : decode cX2_isOnBench 27 = .ok (.if_icmp .ne 7, 3) := dw_160 wX2_isOnBench_c 0 7 rfl rfl rfl
theorem dX2_isOnBench_30 : decode cX2_isOnBench 30 = .ok (.iconst 1, 1) := dw_4 wX2_isOnBench_c rfl
theorem dX2_isOnBench_31 : decode cX2_isOnBench 31 = .ok (.goto 4, 3) := dw_167 wX2_isOnBench_c 0 4 rfl rfl rfl
theorem dX2_isOnBench_34 : decode cX2_isOnBench 34 = .ok (.iconst 0, 1) := dw_3 wX2_isOnBench_c rfl
theorem dX2_isOnBench_35 : decode cX2_isOnBench 35 = .ok (.ireturn, 1) := dw_172 wX2_isOnBench_c rfl
set_option maxHeartbeats 4000000 in
set_option maxRecDepth 100000 in
theorem t_X2_isOnBench (l : Launch) (dC : Nat → ClassId) (dI : Nat → Nat → Nat) (dA : Nat → ClassId) (L : List Nat) (h : hx_h) (sz : Nat) (x : Nat) (i1 : Int32) (hT : hx_T T_tb L h) (gx : hx_g L h x 2)  : Met l yX2_isOnBench (Cond.code yX2_isOnBench cX2_isOnBench 2 (some .boolean) :: hx_all) ({ frames := 0, cells := 0, slots := 0, locals := 0 }) (va_Pc [.ref x, .int i1] (hx_B T_tb (P_ty dA) (dC, dI) vwCl L h sz)) (va_Qi (fun (r : Int32) (u : List Nat × hx_h) => (r.toInt = 0 ∨ r.toInt = 1) ∧ hx_T T_tb u.1 u.2 ∧ hx_S T_tb [] L h u.1 u.2) (hx_E T_tb (P_ty dA) (dC, dI) vwCl (hx_A L sz)) (hx_A L sz)) 0 0 (hx_A L sz) := by
  refine hx_met (lv := [(0, .ref x), (1, .int i1)]) (by decide +kernel) rfl (Nat.le_of_ble_eq_true rfl) rfl ?_
  intro p e s m below meth c hx hb hml hr hlk hts0 hown hin hsz hW ls hl
  have hts : ∀ w ∈ hx_all, w.before _ s = true := fun w hw => hts0 w (List.mem_cons_of_mem _ hw)
  have hown : s.vm.findClass "SmallCourt$Claim" = some m.cls := hown
  have hM : hx_S T_tb [] L h L h := hx_S.rf
  refine lv_aload_n hx hb dX2_isOnBench_0 rfl (lv_at hl 0 rfl) ?_
  refine hx_getn hx hb hts hC_2 hown hW hT gx tt_2 5 ?o0 rfl kw_739 ⟨rfl, rfl, rfl⟩ dX2_isOnBench_1 (fun q_1 fq_1 gq_1 => ?_)
  case o0 => decide
  refine lv_iconst (v := 0) hx hb dX2_isOnBench_4 ?o1 ?_
  case o1 => decide
  refine hx_iald hx hb hW hT gq_1 tt_21 rfl ?o2 dX2_isOnBench_5 (fun x_2 ex_2 lx_2 ux_2 => ?_)
  case o2 => decide
  refine lv_iload_n hx hb dX2_isOnBench_6 rfl (lv_at hl 1 rfl) ?_
  refine hb_icmp_eq (zx := x_2.toInt) (zy := i1.toInt) (tgt := 30) hx hb rfl rfl dX2_isOnBench_7 ?o3 (fun c_3 => ?_) (fun c_3 => ?_)
  case o3 => decide
  · skip
    refine lv_iconst (v := 1) hx hb dX2_isOnBench_30 ?o4 ?_
    case o4 => decide
    refine lv_goto (tgt := 35) hx hb dX2_isOnBench_31 ?o5 ?_
    case o5 => decide
    refine hx_retz hx hb hr rfl hlk hW ⟨?o6, hT, hM⟩ dX2_isOnBench_35
    case o6 => decide
  · skip
    refine lv_aload_n hx hb dX2_isOnBench_10 rfl (lv_at hl 0 rfl) ?_
    refine hk_getr hx hb hts hC_2 hown hW gx tt_2 5 ?o7 rfl kw_739 ⟨rfl, rfl, rfl⟩ fq_1 dX2_isOnBench_11 ?_
    case o7 => decide
    refine lv_iconst (v := 1) hx hb dX2_isOnBench_14 ?o8 ?_
    case o8 => decide
    refine hx_iald hx hb hW hT gq_1 tt_21 rfl ?o9 dX2_isOnBench_15 (fun x_4 ex_4 lx_4 ux_4 => ?_)
    case o9 => decide
    refine lv_iload_n hx hb dX2_isOnBench_16 rfl (lv_at hl 1 rfl) ?_
    refine hb_icmp_eq (zx := x_4.toInt) (zy := i1.toInt) (tgt := 30) hx hb rfl rfl dX2_isOnBench_17 ?o10 (fun c_5 => ?_) (fun c_5 => ?_)
    case o10 => decide
    · skip
      refine lv_iconst (v := 1) hx hb dX2_isOnBench_30 ?o11 ?_
      case o11 => decide
      refine lv_goto (tgt := 35) hx hb dX2_isOnBench_31 ?o12 ?_
      case o12 => decide
      refine hx_retz hx hb hr rfl hlk hW ⟨?o13, hT, hM⟩ dX2_isOnBench_35
      case o13 => decide
    · skip
      refine lv_aload_n hx hb dX2_isOnBench_20 rfl (lv_at hl 0 rfl) ?_
      refine hk_getr hx hb hts hC_2 hown hW gx tt_2 5 ?o14 rfl kw_739 ⟨rfl, rfl, rfl⟩ fq_1 dX2_isOnBench_21 ?_
      case o14 => decide
      refine lv_iconst (v := 2) hx hb dX2_isOnBench_24 ?o15 ?_
      case o15 => decide
      refine hx_iald hx hb hW hT gq_1 tt_21 rfl ?o16 dX2_isOnBench_25 (fun x_6 ex_6 lx_6 ux_6 => ?_)
      case o16 => decide
      refine lv_iload_n hx hb dX2_isOnBench_26 rfl (lv_at hl 1 rfl) ?_
      refine hb_icmp_ne (zx := x_6.toInt) (zy := i1.toInt) (tgt := 34) hx hb rfl rfl dX2_isOnBench_27 ?o17 (fun c_7 => ?_) (fun c_7 => ?_)
      case o17 => decide
      · skip
        refine lv_iconst (v := 0) hx hb dX2_isOnBench_34 ?o18 ?_
        case o18 => decide
        refine hx_retz hx hb hr rfl hlk hW ⟨?o19, hT, hM⟩ dX2_isOnBench_35
        case o19 => decide
      · skip
        refine lv_iconst (v := 1) hx hb dX2_isOnBench_30 ?o20 ?_
        case o20 => decide
        refine lv_goto (tgt := 35) hx hb dX2_isOnBench_31 ?o21 ?_
        case o21 => decide
        refine hx_retz hx hb hr rfl hlk hW ⟨?o22, hT, hM⟩ dX2_isOnBench_35
        case o22 => decide

def wNX5_addOpen : Nat := 9276994135897999559303478370265213130622066312182869578897217734200745184385363268084961038199966799637989678573233682167865459246256721462071381352035370
theorem wX5_addOpen_c : hz_cd cX5_addOpen wNX5_addOpen 64 := ⟨by decide +kernel, by decide +kernel⟩
theorem dX5_addOpen_0 : decode cX5_addOpen 0 = .ok (.aload_n 0, 1) := dw_42 wX5_addOpen_c rfl
theorem dX5_addOpen_1 : decode cX5_addOpen 1 = .ok (.getfield 33, 3) := dw_180 wX5_addOpen_c 0 33 rfl rfl
theorem dX5_addOpen_4 : decode cX5_addOpen 4 = .ok (.iconst 4, 1) := dw_7 wX5_addOpen_c rfl
theorem dX5_addOpen_5 : decode cX5_addOpen 5 = .ok (.if_icmp .ge 58, 3) := dw_162 wX5_addOpen_c 0 58 rfl rfl rfl
theorem dX5_addOpen_8 : decode cX5_addOpen 8 = .ok (.aload_n 0, 1) := dw_42 wX5_addOpen_c rfl
theorem dX5_addOpen_9 : decode cX5_addOpen 9 = .ok (.getfield 21, 3) := dw_180 wX5_addOpen_c 0 21 rfl rfl
theorem dX5_addOpen_12 : decode cX5_addOpen 12 = .ok (.aload_n 0, 1) := dw_42 wX5_addOpen_c rfl
theorem dX5_addOpen_13 : decode cX5_addOpen 13 = .ok (.getfield 33, 3) := dw_180 wX5_addOpen_c 0 33 rfl rfl
theorem dX5_addOpen_16 : decode cX5_addOpen 16 = .ok (.aload_n 1, 1) := dw_43 wX5_addOpen_c rfl
theorem dX5_addOpen_17 : decode cX5_addOpen 17 = .ok (.getfield 43, 3) := dw_180 wX5_addOpen_c 0 43 rfl rfl
theorem dX5_addOpen_20 : decode cX5_addOpen 20 = .ok (.iastore, 1) := dw_79 wX5_addOpen_c rfl
theorem dX5_addOpen_21 : decode cX5_addOpen 21 = .ok (.aload_n 0, 1) := dw_42 wX5_addOpen_c rfl
theorem dX5_addOpen_22 : decode cX5_addOpen 22 = .ok (.getfield 24, 3) := dw_180 wX5_addOpen_c 0 24 rfl rfl
theorem dX5_addOpen_25 : decode cX5_addOpen 25 = .ok (.aload_n 0, 1) := dw_42 wX5_addOpen_c rfl
theorem dX5_addOpen_26 : decode cX5_addOpen 26 = .ok (.getfield 33, 3) := dw_180 wX5_addOpen_c 0 33 rfl rfl
theorem dX5_addOpen_29 : decode cX5_addOpen 29 = .ok (.iload_n 2, 1) := dw_28 wX5_addOpen_c rfl
theorem dX5_addOpen_30 : decode cX5_addOpen 30 = .ok (.iastore, 1) := dw_79 wX5_addOpen_c rfl
theorem dX5_addOpen_31 : decode cX5_addOpen 31 = .ok (.aload_n 0, 1) := dw_42 wX5_addOpen_c rfl
theorem dX5_addOpen_32 : decode cX5_addOpen 32 = .ok (.getfield 27, 3) := dw_180 wX5_addOpen_c 0 27 rfl rfl
theorem dX5_addOpen_35 : decode cX5_addOpen 35 = .ok (.aload_n 0, 1) := dw_42 wX5_addOpen_c rfl
theorem dX5_addOpen_36 : decode cX5_addOpen 36 = .ok (.getfield 33, 3) := dw_180 wX5_addOpen_c 0 33 rfl rfl
theorem dX5_addOpen_39 : decode cX5_addOpen 39 = .ok (.aload_n 1, 1) := dw_43 wX5_addOpen_c rfl
theorem dX5_addOpen_40 : decode cX5_addOpen 40 = .ok (.getfield 48, 3) := dw_180 wX5_addOpen_c 0 48 rfl rfl
theorem dX5_addOpen_43 : decode cX5_addOpen 43 = .ok (.getfield 52, 3) := dw_180 wX5_addOpen_c 0 52 rfl rfl
theorem dX5_addOpen_46 : decode cX5_addOpen 46 = .ok (.iconst 3, 1) := dw_6 wX5_addOpen_c rfl
theorem dX5_addOpen_47 : decode cX5_addOpen 47 = .ok (.iaload, 1) := dw_46 wX5_addOpen_c rfl
theorem dX5_addOpen_48 : decode cX5_addOpen 48 = .ok (.iload_n 2, 1) := dw_28 wX5_addOpen_c rfl
theorem dX5_addOpen_49 : decode cX5_addOpen 49 = .ok (.invokestatic 57, 3) := dw_184 wX5_addOpen_c 0 57 rfl rfl
theorem dX5_addOpen_52 : decode cX5_addOpen 52 = .ok (.iastore, 1) := dw_79 wX5_addOpen_c rfl
theorem dX5_addOpen_53 : decode cX5_addOpen 53 = .ok (.aload_n 0, 1) := dw_42 wX5_addOpen_c rfl
theorem dX5_addOpen_54 : decode cX5_addOpen 54 = .ok (.dup, 1) := dw_89 wX5_addOpen_c rfl
theorem dX5_addOpen_55 : decode cX5_addOpen 55 = .ok (.getfield 33, 3) := dw_180 wX5_addOpen_c 0 33 rfl rfl
theorem dX5_addOpen_58 : decode cX5_addOpen 58 = .ok (.iconst 1, 1) := dw_4 wX5_addOpen_c rfl
theorem dX5_addOpen_59 : decode cX5_addOpen 59 = .ok (.iadd, 1) := dw_96 wX5_addOpen_c rfl
theorem dX5_addOpen_60 : decode cX5_addOpen 60 = .ok (.putfield 33, 3) := dw_181 wX5_addOpen_c 0 33 rfl rfl
theorem dX5_addOpen_63 : decode cX5_addOpen 63 = .ok (.return_, 1) := dw_177 wX5_addOpen_c rfl
set_option maxHeartbeats 4000000 in
set_option maxRecDepth 100000 in
theorem t_X5_addOpen (l : Launch) (dC : Nat → ClassId) (dI : Nat → Nat → Nat) (dA : Nat → ClassId) (L : List Nat) (h : hx_h) (sz : Nat) (x : Nat) (v1 : Nat) (i1 : Int32) (hT : hx_T T_tb L h) (gx : hx_g L h x 5) (gv1 : hx_g L h v1 2)  : Met l yX5_addOpen (Cond.code yX5_addOpen cX5_addOpen 3 none :: hx_all) ({ frames := 1, cells := 0, slots := 0, locals := 21 }) (va_Pc [.ref x, .ref v1, .int i1] (hx_B T_tb (P_ty dA) (dC, dI) vwCl L h sz)) (va_Qv (fun (u : List Nat × hx_h) => hx_T T_tb u.1 u.2 ∧ hx_S T_tb [(5, 0), (30, 0), (31, 0), (32, 0)] L h u.1 u.2) (hx_E T_tb (P_ty dA) (dC, dI) vwCl (hx_A L sz)) (hx_A L sz)) 0 0 (hx_A L sz) := by
  refine hx_met (lv := [(0, .ref x), (1, .ref v1), (2, .int i1)]) (by decide +kernel) rfl (Nat.le_of_ble_eq_true rfl) rfl ?_
  intro p e s m below meth c hx hb hml hr hlk hts0 hown hin hsz hW ls hl
  have hts : ∀ w ∈ hx_all, w.before _ s = true := fun w hw => hts0 w (List.mem_cons_of_mem _ hw)
  have hown : s.vm.findClass "SmallCourt$Plan" = some m.cls := hown
  have hM : hx_S T_tb [(5, 0), (30, 0), (31, 0), (32, 0)] L h L h := hx_S.rf
  refine lv_aload_n hx hb dX5_addOpen_0 rfl (lv_at hl 0 rfl) ?_
  refine hx_geti hx hb hts hC_5 hown hW hT gx tt_5 0 ?o0 rfl kw_258 ⟨rfl, rfl, rfl⟩ dX5_addOpen_1 (fun x_1 ex_1 lx_1 ux_1 => ?_)
  case o0 => decide
  have fx_1 := ex_1.symm
  refine lv_iconst (v := 4) hx hb dX5_addOpen_4 ?o1 ?_
  case o1 => decide
  refine hb_icmp_ge (zx := x_1.toInt) (zy := 4) (tgt := 63) hx hb rfl ?o2 dX5_addOpen_5 ?o3 (fun c_2 => ?_) (fun c_2 => ?_)
  case o2 => decide
  case o3 => decide
  · skip
    exact hx_retv hx hb hr hlk hW ⟨hT, hM⟩ dX5_addOpen_63
  · skip
    refine lv_aload_n hx hb dX5_addOpen_8 rfl (lv_at hl 0 rfl) ?_
    refine hx_getn hx hb hts hC_5 hown hW hT gx tt_5 5 ?o4 rfl kw_268 ⟨rfl, rfl, rfl⟩ dX5_addOpen_9 (fun q_3 fq_3 gq_3 => ?_)
    case o4 => decide
    refine lv_aload_n hx hb dX5_addOpen_12 rfl (lv_at hl 0 rfl) ?_
    refine hk_geti hx hb hts hC_5 hown hW gx tt_5 0 ?o5 rfl kw_258 ⟨rfl, rfl, rfl⟩ fx_1 dX5_addOpen_13 ?_
    case o5 => decide
    refine lv_aload_n hx hb dX5_addOpen_16 rfl (lv_at hl 1 rfl) ?_
    refine hx_geti hx hb hts hC_2 hown hW hT gv1 tt_2 0 ?o6 rfl kw_722 ⟨rfl, rfl, rfl⟩ dX5_addOpen_17 (fun x_4 ex_4 lx_4 ux_4 => ?_)
    case o6 => decide
    have fx_4 := ex_4.symm
    refine hx_iast hx hb hW hT (hx_S.rf (M := [(30, 0)])) gq_3 tt_30 rfl ⟨?o7, ?o8⟩ rfl (i32_r _) (List.mem_singleton.mpr rfl) dX5_addOpen_20 (fun H locs h_5 eh_5 hW hT hs => ?_)
    case o7 => omega
    case o8 => omega
    replace fx_1 := (hs.o gx trivial rfl).1.trans fx_1
    replace fq_3 := (hs.o gx trivial rfl).2.trans fq_3
    replace fx_4 := (hs.o gv1 trivial rfl).1.trans fx_4
    replace hM := hM.tr (hs.mono ?o9)
    case o9 => decide
    replace gx := gx.S hs
    replace gv1 := gv1.S hs
    replace gq_3 := gq_3.S hs
    refine lv_aload_n hx hb dX5_addOpen_21 rfl (lv_at hl 0 rfl) ?_
    refine hx_getn hx hb hts hC_5 hown hW hT gx tt_5 6 ?o10 rfl kw_269 ⟨rfl, rfl, rfl⟩ dX5_addOpen_22 (fun q_6 fq_6 gq_6 => ?_)
    case o10 => decide
    refine lv_aload_n hx hb dX5_addOpen_25 rfl (lv_at hl 0 rfl) ?_
    refine hk_geti hx hb hts hC_5 hown hW gx tt_5 0 ?o11 rfl kw_258 ⟨rfl, rfl, rfl⟩ fx_1 dX5_addOpen_26 ?_
    case o11 => decide
    refine lv_iload_n hx hb dX5_addOpen_29 rfl (lv_at hl 2 rfl) ?_
    refine hx_iast hx hb hW hT (hx_S.rf (M := [(31, 0)])) gq_6 tt_31 rfl ⟨?o12, ?o13⟩ rfl (i32_r _) (List.mem_singleton.mpr rfl) dX5_addOpen_30 (fun H locs h_7 eh_7 hW hT hs => ?_)
    case o12 => omega
    case o13 => omega
    replace fx_1 := (hs.o gx trivial rfl).1.trans fx_1
    replace fq_3 := (hs.o gx trivial rfl).2.trans fq_3
    replace fx_4 := (hs.o gv1 trivial rfl).1.trans fx_4
    replace fq_6 := (hs.o gx trivial rfl).2.trans fq_6
    replace hM := hM.tr (hs.mono ?o14)
    case o14 => decide
    replace gx := gx.S hs
    replace gv1 := gv1.S hs
    replace gq_3 := gq_3.S hs
    replace gq_6 := gq_6.S hs
    refine lv_aload_n hx hb dX5_addOpen_31 rfl (lv_at hl 0 rfl) ?_
    refine hx_getn hx hb hts hC_5 hown hW hT gx tt_5 7 ?o15 rfl kw_270 ⟨rfl, rfl, rfl⟩ dX5_addOpen_32 (fun q_8 fq_8 gq_8 => ?_)
    case o15 => decide
    refine lv_aload_n hx hb dX5_addOpen_35 rfl (lv_at hl 0 rfl) ?_
    refine hk_geti hx hb hts hC_5 hown hW gx tt_5 0 ?o16 rfl kw_258 ⟨rfl, rfl, rfl⟩ fx_1 dX5_addOpen_36 ?_
    case o16 => decide
    refine lv_aload_n hx hb dX5_addOpen_39 rfl (lv_at hl 1 rfl) ?_
    refine hx_getn hx hb hts hC_2 hown hW hT gv1 tt_2 3 ?o17 rfl kw_735 ⟨rfl, rfl, rfl⟩ dX5_addOpen_40 (fun q_9 fq_9 gq_9 => ?_)
    case o17 => decide
    refine hx_getn hx hb hts hC_0 hown hW hT gq_9 tt_0 2 ?o18 rfl kw_169 ⟨rfl, rfl, rfl⟩ dX5_addOpen_43 (fun q_10 fq_10 gq_10 => ?_)
    case o18 => decide
    refine lv_iconst (v := 3) hx hb dX5_addOpen_46 ?o19 ?_
    case o19 => decide
    refine hx_iald hx hb hW hT gq_10 tt_11 rfl ?o20 dX5_addOpen_47 (fun x_11 ex_11 lx_11 ux_11 => ?_)
    case o20 => decide
    refine lv_iload_n hx hb dX5_addOpen_48 rfl (lv_at hl 2 rfl) ?_
    refine va_mmin hx hb (hml.trans hl.1.symm) hown (hts _ kw_956) (hts _ kw_917) (hts _ kw_109) (hts _ kw_918) (Nat.le_of_ble_eq_true rfl) (Nat.le_of_ble_eq_true rfl) (Nat.le_of_ble_eq_true rfl) (Nat.le_of_ble_eq_true rfl) dX5_addOpen_49 ?_
    refine lv_topi (fun x_12 ex_12 => ?_)
    refine hx_iast hx hb hW hT (hx_S.rf (M := [(32, 0)])) gq_8 tt_32 rfl ⟨?o21, ?o22⟩ rfl (i32_r _) (List.mem_singleton.mpr rfl) dX5_addOpen_52 (fun H locs h_13 eh_13 hW hT hs => ?_)
    case o21 => omega
    case o22 => omega
    replace fx_1 := (hs.o gx trivial rfl).1.trans fx_1
    replace fq_3 := (hs.o gx trivial rfl).2.trans fq_3
    replace fx_4 := (hs.o gv1 trivial rfl).1.trans fx_4
    replace fq_6 := (hs.o gx trivial rfl).2.trans fq_6
    replace fq_8 := (hs.o gx trivial rfl).2.trans fq_8
    replace fq_9 := (hs.o gv1 trivial rfl).2.trans fq_9
    replace fq_10 := (hs.o gq_9 trivial rfl).2.trans fq_10
    replace hM := hM.tr (hs.mono ?o23)
    case o23 => decide
    replace gx := gx.S hs
    replace gv1 := gv1.S hs
    replace gq_3 := gq_3.S hs
    replace gq_6 := gq_6.S hs
    replace gq_8 := gq_8.S hs
    replace gq_9 := gq_9.S hs
    replace gq_10 := gq_10.S hs
    refine lv_aload_n hx hb dX5_addOpen_53 rfl (lv_at hl 0 rfl) ?_
    refine lv_dup hx hb dX5_addOpen_54 rfl ?_
    refine hk_geti hx hb hts hC_5 hown hW gx tt_5 0 ?o24 rfl kw_258 ⟨rfl, rfl, rfl⟩ fx_1 dX5_addOpen_55 ?_
    case o24 => decide
    refine lv_iconst (v := 1) hx hb dX5_addOpen_58 ?o25 ?_
    case o25 => decide
    refine lv_iadd hx hb dX5_addOpen_59 ?_
    have rg_14 := i32_r x_1
    refine lv_topi (fun x_15 ex_15 => ?_)
    have zx_15 : x_15.toInt = x_1.toInt + 1 := ?o26
    case o26 =>
      rw [ex_15]
      refine i32_add rfl ?o27 ?o28 ?o29
      case o27 => decide
      case o28 => omega
      case o29 => omega
    refine hx_puti hx hb hts hC_5 hown hW hT (hx_S.rf (M := [(5, 0)])) gx tt_5 0 ?o30 rfl kw_258 ⟨rfl, rfl, rfl⟩ rfl (x := x_15) ⟨?o31, ?o32⟩ rfl rfl rfl (List.mem_singleton.mpr rfl) dX5_addOpen_60 (fun H locs h_16 eh_16 hW hT hs => ?_)
    case o30 => decide
    case o31 => omega
    case o32 => omega
    replace fq_3 := (hs.o gx trivial rfl).2.trans fq_3
    replace fx_4 := (hs.o gv1 trivial rfl).1.trans fx_4
    replace fq_6 := (hs.o gx trivial rfl).2.trans fq_6
    replace fq_8 := (hs.o gx trivial rfl).2.trans fq_8
    replace fq_9 := (hs.o gv1 trivial rfl).2.trans fq_9
    replace fq_10 := (hs.o gq_9 trivial rfl).2.trans fq_10
    replace hM := hM.tr (hs.mono ?o33)
    case o33 => decide
    replace gx := gx.S hs
    replace gv1 := gv1.S hs
    replace gq_3 := gq_3.S hs
    replace gq_6 := gq_6.S hs
    replace gq_8 := gq_8.S hs
    replace gq_9 := gq_9.S hs
    replace gq_10 := gq_10.S hs
    have f_17 : h_16.2.1 x 0 = x_15 := ?o34
    case o34 =>
      rw [eh_16]
      exact hx_pi_at _ _ _ _
    exact hx_retv hx hb hr hlk hW ⟨hT, hM⟩ dX5_addOpen_63

theorem dX4_meansBy_0 : decode cX4_meansBy 0 = .ok (.aload_n 0, 1) := by decide +kernel
theorem dX4_meansBy_1 : decode cX4_meansBy 1 = .ok (.getfield 21, 3) := by decide +kernel
theorem dX4_meansBy_4 : decode cX4_meansBy 4 = .ok (.aload_n 1, 1) := by decide +kernel
theorem dX4_meansBy_5 : decode cX4_meansBy 5 = .ok (.getfield 33, 3) := by decide +kernel
theorem dX4_meansBy_8 : decode cX4_meansBy 8 = .ok (.iconst 4, 1) := by decide +kernel
theorem dX4_meansBy_9 : decode cX4_meansBy 9 = .ok (.iaload, 1) := by decide +kernel
theorem dX4_meansBy_10 : decode cX4_meansBy 10 = .ok (.aload_n 0, 1) := by decide +kernel
theorem dX4_meansBy_11 : decode cX4_meansBy 11 = .ok (.getfield 24, 3) := by decide +kernel
theorem dX4_meansBy_14 : decode cX4_meansBy 14 = .ok (.imul, 1) := by decide +kernel
theorem dX4_meansBy_15 : decode cX4_meansBy 15 = .ok (.isub, 1) := by decide +kernel
theorem dX4_meansBy_16 : decode cX4_meansBy 16 = .ok (.ireturn, 1) := by decide +kernel
set_option maxHeartbeats 4000000 in
set_option maxRecDepth 100000 in
theorem t_X4_meansBy (l : Launch) (dC : Nat → ClassId) (dI : Nat → Nat → Nat) (dA : Nat → ClassId) (L : List Nat) (h : hx_h) (sz : Nat) (x : Nat) (v1 : Nat) (hT : hx_T T_tb L h) (gx : hx_g L h x 4) (gv1 : hx_g L h v1 0)  : Met l yX4_meansBy (Cond.code yX4_meansBy cX4_meansBy 2 (some .int) :: hx_all) ({ frames := 0, cells := 0, slots := 0, locals := 0 }) (va_Pc [.ref x, .ref v1] (hx_B T_tb (P_ty dA) (dC, dI) vwCl L h sz)) (va_Qi (fun (r : Int32) (u : List Nat × hx_h) => (True) ∧ hx_T T_tb u.1 u.2 ∧ hx_S T_tb [] L h u.1 u.2) (hx_E T_tb (P_ty dA) (dC, dI) vwCl (hx_A L sz)) (hx_A L sz)) 0 0 (hx_A L sz) := by
  refine hx_met (lv := [(0, .ref x), (1, .ref v1)]) (by decide +kernel) rfl (Nat.le_of_ble_eq_true rfl) rfl ?_
  intro p e s m below meth c hx hb hml hr hlk hts0 hown hin hsz hW ls hl
  have hts : ∀ w ∈ hx_all, w.before _ s = true := fun w hw => hts0 w (List.mem_cons_of_mem _ hw)
  have hown : s.vm.findClass "SmallCourt$Person" = some m.cls := hown
  have hM : hx_S T_tb [] L h L h := hx_S.rf
  refine lv_aload_n hx hb dX4_meansBy_0 rfl (lv_at hl 0 rfl) ?_
  refine hx_geti hx hb hts hC_4 hown hW hT gx tt_4 3 ?o0 rfl kw_616 ⟨rfl, rfl, rfl⟩ dX4_meansBy_1 (fun x_1 ex_1 lx_1 ux_1 => ?_)
  case o0 => decide
  have fx_1 := ex_1.symm
  refine lv_aload_n hx hb dX4_meansBy_4 rfl (lv_at hl 1 rfl) ?_
  refine hx_getn hx hb hts hC_0 hown hW hT gv1 tt_0 2 ?o1 rfl kw_168 ⟨rfl, rfl, rfl⟩ dX4_meansBy_5 (fun q_2 fq_2 gq_2 => ?_)
  case o1 => decide
  refine lv_iconst (v := 4) hx hb dX4_meansBy_8 ?o2 ?_
  case o2 => decide
  refine hx_iald hx hb hW hT gq_2 tt_11 rfl ?o3 dX4_meansBy_9 (fun x_3 ex_3 lx_3 ux_3 => ?_)
  case o3 => decide
  refine lv_aload_n hx hb dX4_meansBy_10 rfl (lv_at hl 0 rfl) ?_
  refine hx_geti hx hb hts hC_4 hown hW hT gx tt_4 4 ?o4 rfl kw_617 ⟨rfl, rfl, rfl⟩ dX4_meansBy_11 (fun x_4 ex_4 lx_4 ux_4 => ?_)
  case o4 => decide
  have fx_4 := ex_4.symm
  refine lv_imul hx hb dX4_meansBy_14 ?_
  refine lv_topi (fun x_5 ex_5 => ?_)
  refine lv_isub hx hb dX4_meansBy_15 ?_
  have rg_6 := i32_r x_1
  have rg_7 := i32_r x_5
  refine lv_topi (fun x_8 ex_8 => ?_)
  exact hx_reti hx hb hr hlk hW ⟨trivial, hT, hM⟩ dX4_meansBy_16

def wNX2_costsBy : Nat := 5609617125142696553029147605886465675698549055834129518617025394332553060406323033773382349866
theorem wX2_costsBy_c : hz_cd cX2_costsBy wNX2_costsBy 39 := ⟨by decide +kernel, by decide +kernel⟩
theorem dX2_costsBy_0 : decode cX2_costsBy 0 = .ok (.aload_n 0, 1) := dw_42 wX2_costsBy_c rfl
theorem dX2_costsBy_1 : decode cX2_costsBy 1 = .ok (.getfield 48, 3) := dw_180 wX2_costsBy_c 0 48 rfl rfl
theorem dX2_costsBy_4 : decode cX2_costsBy 4 = .ok (.aload_n 1, 1) := dw_43 wX2_costsBy_c rfl
theorem dX2_costsBy_5 : decode cX2_costsBy 5 = .ok (.getfield 51, 3) := dw_180 wX2_costsBy_c 0 51 rfl rfl
theorem dX2_costsBy_8 : decode cX2_costsBy 8 = .ok (.bipush 10, 2) := dw_16 wX2_costsBy_c 10 rfl rfl rfl
theorem dX2_costsBy_10 : decode cX2_costsBy 10 = .ok (.iaload, 1) := dw_46 wX2_costsBy_c rfl
theorem dX2_costsBy_11 : decode cX2_costsBy 11 = .ok (.imul, 1) := dw_104 wX2_costsBy_c rfl
theorem dX2_costsBy_12 : decode cX2_costsBy 12 = .ok (.aload_n 1, 1) := dw_43 wX2_costsBy_c rfl
theorem dX2_costsBy_13 : decode cX2_costsBy 13 = .ok (.getfield 51, 3) := dw_180 wX2_costsBy_c 0 51 rfl rfl
theorem dX2_costsBy_16 : decode cX2_costsBy 16 = .ok (.bipush 11, 2) := dw_16 wX2_costsBy_c 11 rfl rfl rfl
theorem dX2_costsBy_18 : decode cX2_costsBy 18 = .ok (.iaload, 1) := dw_46 wX2_costsBy_c rfl
theorem dX2_costsBy_19 : decode cX2_costsBy 19 = .ok (.iadd, 1) := dw_96 wX2_costsBy_c rfl
theorem dX2_costsBy_20 : decode cX2_costsBy 20 = .ok (.istore_n 3, 1) := dw_62 wX2_costsBy_c rfl
theorem dX2_costsBy_21 : decode cX2_costsBy 21 = .ok (.iload_n 2, 1) := dw_28 wX2_costsBy_c rfl
theorem dX2_costsBy_22 : decode cX2_costsBy 22 = .ok (.ifCond .eq 15, 3) := dw_153 wX2_costsBy_c 0 15 rfl rfl rfl
theorem dX2_costsBy_25 : decode cX2_costsBy 25 = .ok (.iload_n 3, 1) := dw_29 wX2_costsBy_c rfl
theorem dX2_costsBy_26 : decode cX2_costsBy 26 = .ok (.aload_n 1, 1) := dw_43 wX2_costsBy_c rfl
theorem dX2_costsBy_27 : decode cX2_costsBy 27 = .ok (.getfield 51, 3) := dw_180 wX2_costsBy_c 0 51 rfl rfl
theorem dX2_costsBy_30 : decode cX2_costsBy 30 = .ok (.bipush 12, 2) := dw_16 wX2_costsBy_c 12 rfl rfl rfl
theorem dX2_costsBy_32 : decode cX2_costsBy 32 = .ok (.iaload, 1) := dw_46 wX2_costsBy_c rfl
theorem dX2_costsBy_33 : decode cX2_costsBy 33 = .ok (.iadd, 1) := dw_96 wX2_costsBy_c rfl
theorem dX2_costsBy_34 : decode cX2_costsBy 34 = .ok (.goto 4, 3) := dw_167 wX2_costsBy_c 0 4 rfl rfl rfl
theorem dX2_costsBy_37 : decode cX2_costsBy 37 = .ok (.iload_n 3, 1) := dw_29 wX2_costsBy_c rfl
theorem dX2_costsBy_38 : decode cX2_costsBy 38 = .ok (.ireturn, 1) := dw_172 wX2_costsBy_c rfl
end
section
theorem dX8_isIn_0 : decode cX8_isIn 0 = .ok (.iload_n 1, 1) := by decide +kernel
theorem dX8_isIn_1 : decode cX8_isIn 1 = .ok (.iload_n 0, 1) := by decide +kernel
theorem dX8_isIn_2 : decode cX8_isIn 2 = .ok (.ishr, 1) := by decide +kernel
theorem dX8_isIn_3 : decode cX8_isIn 3 = .ok (.iconst 1, 1) := by decide +kernel
theorem dX8_isIn_4 : decode cX8_isIn 4 = .ok (.iand, 1) := by decide +kernel
theorem dX8_isIn_5 : decode cX8_isIn 5 = .ok (.iconst 1, 1) := by decide +kernel
theorem dX8_isIn_6 : decode cX8_isIn 6 = .ok (.if_icmp .ne 7, 3) := by decide +kernel
theorem dX8_isIn_9 : decode cX8_isIn 9 = .ok (.iconst 1, 1) := by decide +kernel
theorem dX8_isIn_10 : decode cX8_isIn 10 = .ok (.goto 4, 3) := by decide +kernel
theorem dX8_isIn_13 : decode cX8_isIn 13 = .ok (.iconst 0, 1) := by decide +kernel
theorem dX8_isIn_14 : decode cX8_isIn 14 = .ok (.ireturn, 1) := by decide +kernel
theorem dX8_between_0 : decode cX8_between 0 = .ok (.aload_n 0, 1) := by decide +kernel
theorem dX8_between_1 : decode cX8_between 1 = .ok (.getfield 71, 3) := by decide +kernel
theorem dX8_between_4 : decode cX8_between 4 = .ok (.aload_n 1, 1) := by decide +kernel
theorem dX8_between_5 : decode cX8_between 5 = .ok (.getfield 71, 3) := by decide +kernel
theorem dX8_between_8 : decode cX8_between 8 = .ok (.isub, 1) := by decide +kernel
theorem dX8_between_9 : decode cX8_between 9 = .ok (.invokestatic 76, 3) := by decide +kernel
theorem dX8_between_12 : decode cX8_between 12 = .ok (.aload_n 0, 1) := by decide +kernel
theorem dX8_between_13 : decode cX8_between 13 = .ok (.getfield 79, 3) := by decide +kernel
theorem dX8_between_16 : decode cX8_between 16 = .ok (.aload_n 1, 1) := by decide +kernel
theorem dX8_between_17 : decode cX8_between 17 = .ok (.getfield 79, 3) := by decide +kernel
theorem dX8_between_20 : decode cX8_between 20 = .ok (.isub, 1) := by decide +kernel
theorem dX8_between_21 : decode cX8_between 21 = .ok (.invokestatic 76, 3) := by decide +kernel
theorem dX8_between_24 : decode cX8_between 24 = .ok (.iadd, 1) := by decide +kernel
theorem dX8_between_25 : decode cX8_between 25 = .ok (.ireturn, 1) := by decide +kernel
end
section
theorem dX6_refuse_0 : decode cX6_refuse 0 = .ok (.aload_n 0, 1) := by decide +kernel
theorem dX6_refuse_1 : decode cX6_refuse 1 = .ok (.iconst 1, 1) := by decide +kernel
theorem dX6_refuse_2 : decode cX6_refuse 2 = .ok (.bipush 8, 2) := by decide +kernel
theorem dX6_refuse_4 : decode cX6_refuse 4 = .ok (.iload_n 1, 1) := by decide +kernel
theorem dX6_refuse_5 : decode cX6_refuse 5 = .ok (.imul, 1) := by decide +kernel
theorem dX6_refuse_6 : decode cX6_refuse 6 = .ok (.iadd, 1) := by decide +kernel
theorem dX6_refuse_7 : decode cX6_refuse 7 = .ok (.iload_n 2, 1) := by decide +kernel
theorem dX6_refuse_8 : decode cX6_refuse 8 = .ok (.iadd, 1) := by decide +kernel
theorem dX6_refuse_9 : decode cX6_refuse 9 = .ok (.putfield 22, 3) := by decide +kernel
theorem dX6_refuse_12 : decode cX6_refuse 12 = .ok (.iconst 0, 1) := by decide +kernel
theorem dX6_refuse_13 : decode cX6_refuse 13 = .ok (.ireturn, 1) := by decide +kernel
theorem dX6_tellOnce_0 : decode cX6_tellOnce 0 = .ok (.iconst 1, 1) := by decide +kernel
theorem dX6_tellOnce_1 : decode cX6_tellOnce 1 = .ok (.iload_n 1, 1) := by decide +kernel
theorem dX6_tellOnce_2 : decode cX6_tellOnce 2 = .ok (.ishl, 1) := by decide +kernel
theorem dX6_tellOnce_3 : decode cX6_tellOnce 3 = .ok (.istore_n 3, 1) := by decide +kernel
theorem dX6_tellOnce_4 : decode cX6_tellOnce 4 = .ok (.aload_n 0, 1) := by decide +kernel
theorem dX6_tellOnce_5 : decode cX6_tellOnce 5 = .ok (.getfield 25, 3) := by decide +kernel
theorem dX6_tellOnce_8 : decode cX6_tellOnce 8 = .ok (.iload_n 3, 1) := by decide +kernel
theorem dX6_tellOnce_9 : decode cX6_tellOnce 9 = .ok (.iand, 1) := by decide +kernel
theorem dX6_tellOnce_10 : decode cX6_tellOnce 10 = .ok (.ifCond .eq 10, 3) := by decide +kernel
theorem dX6_tellOnce_13 : decode cX6_tellOnce 13 = .ok (.aload_n 0, 1) := by decide +kernel
theorem dX6_tellOnce_14 : decode cX6_tellOnce 14 = .ok (.iload_n 2, 1) := by decide +kernel
theorem dX6_tellOnce_15 : decode cX6_tellOnce 15 = .ok (.iconst 2, 1) := by decide +kernel
theorem dX6_tellOnce_16 : decode cX6_tellOnce 16 = .ok (.invokevirtual 45, 3) := by decide +kernel
theorem dX6_tellOnce_19 : decode cX6_tellOnce 19 = .ok (.ireturn, 1) := by decide +kernel
theorem dX6_tellOnce_20 : decode cX6_tellOnce 20 = .ok (.aload_n 0, 1) := by decide +kernel
theorem dX6_tellOnce_21 : decode cX6_tellOnce 21 = .ok (.dup, 1) := by decide +kernel
theorem dX6_tellOnce_22 : decode cX6_tellOnce 22 = .ok (.getfield 25, 3) := by decide +kernel
theorem dX6_tellOnce_25 : decode cX6_tellOnce 25 = .ok (.iload_n 3, 1) := by decide +kernel
theorem dX6_tellOnce_26 : decode cX6_tellOnce 26 = .ok (.ior, 1) := by decide +kernel
theorem dX6_tellOnce_27 : decode cX6_tellOnce 27 = .ok (.putfield 25, 3) := by decide +kernel
theorem dX6_tellOnce_30 : decode cX6_tellOnce 30 = .ok (.iconst 1, 1) := by decide +kernel
theorem dX6_tellOnce_31 : decode cX6_tellOnce 31 = .ok (.ireturn, 1) := by decide +kernel
def wNX6_isDigit : Nat := 334161933760548910903559805097884914568286843072277647643901938753053020777300813425179
theorem wX6_isDigit_c : hz_cd cX6_isDigit wNX6_isDigit 36 := ⟨by decide +kernel, by decide +kernel⟩
theorem dX6_isDigit_0 : decode cX6_isDigit 0 = .ok (.iload_n 1, 1) := dw_27 wX6_isDigit_c rfl
theorem dX6_isDigit_1 : decode cX6_isDigit 1 = .ok (.aload_n 0, 1) := dw_42 wX6_isDigit_c rfl
theorem dX6_isDigit_2 : decode cX6_isDigit 2 = .ok (.getfield 15, 3) := dw_180 wX6_isDigit_c 0 15 rfl rfl
theorem dX6_isDigit_5 : decode cX6_isDigit 5 = .ok (.if_icmp .ge 29, 3) := dw_162 wX6_isDigit_c 0 29 rfl rfl rfl
theorem dX6_isDigit_8 : decode cX6_isDigit 8 = .ok (.aload_n 0, 1) := dw_42 wX6_isDigit_c rfl
theorem dX6_isDigit_9 : decode cX6_isDigit 9 = .ok (.getfield 9, 3) := dw_180 wX6_isDigit_c 0 9 rfl rfl
theorem dX6_isDigit_12 : decode cX6_isDigit 12 = .ok (.iload_n 1, 1) := dw_27 wX6_isDigit_c rfl
theorem dX6_isDigit_13 : decode cX6_isDigit 13 = .ok (.baload, 1) := dw_51 wX6_isDigit_c rfl
theorem dX6_isDigit_14 : decode cX6_isDigit 14 = .ok (.bipush 48, 2) := dw_16 wX6_isDigit_c 48 rfl rfl rfl
theorem dX6_isDigit_16 : decode cX6_isDigit 16 = .ok (.if_icmp .lt 18, 3) := dw_161 wX6_isDigit_c 0 18 rfl rfl rfl
theorem dX6_isDigit_19 : decode cX6_isDigit 19 = .ok (.aload_n 0, 1) := dw_42 wX6_isDigit_c rfl
theorem dX6_isDigit_20 : decode cX6_isDigit 20 = .ok (.getfield 9, 3) := dw_180 wX6_isDigit_c 0 9 rfl rfl
theorem dX6_isDigit_23 : decode cX6_isDigit 23 = .ok (.iload_n 1, 1) := dw_27 wX6_isDigit_c rfl
theorem dX6_isDigit_24 : decode cX6_isDigit 24 = .ok (.baload, 1) := dw_51 wX6_isDigit_c rfl
theorem dX6_isDigit_25 : decode cX6_isDigit 25 = .ok (.bipush 57, 2) := dw_16 wX6_isDigit_c 57 rfl rfl rfl
theorem dX6_isDigit_27 : decode cX6_isDigit 27 = .ok (.if_icmp .gt 7, 3) := dw_163 wX6_isDigit_c 0 7 rfl rfl rfl
theorem dX6_isDigit_30 : decode cX6_isDigit 30 = .ok (.iconst 1, 1) := dw_4 wX6_isDigit_c rfl
theorem dX6_isDigit_31 : decode cX6_isDigit 31 = .ok (.goto 4, 3) := dw_167 wX6_isDigit_c 0 4 rfl rfl rfl
theorem dX6_isDigit_34 : decode cX6_isDigit 34 = .ok (.iconst 0, 1) := dw_3 wX6_isDigit_c rfl
theorem dX6_isDigit_35 : decode cX6_isDigit 35 = .ok (.ireturn, 1) := dw_172 wX6_isDigit_c rfl
def wNX6_wordEnd : Nat := 24092498378999115716112534175686652816323951302432477897211280750595609557651485342592515527700513862698
theorem wX6_wordEnd_c : hz_cd cX6_wordEnd wNX6_wordEnd 43 := ⟨by decide +kernel, by decide +kernel⟩
theorem dX6_wordEnd_0 : decode cX6_wordEnd 0 = .ok (.aload_n 0, 1) := dw_42 wX6_wordEnd_c rfl
theorem dX6_wordEnd_1 : decode cX6_wordEnd 1 = .ok (.getfield 19, 3) := dw_180 wX6_wordEnd_c 0 19 rfl rfl
theorem dX6_wordEnd_4 : decode cX6_wordEnd 4 = .ok (.istore_n 1, 1) := dw_60 wX6_wordEnd_c rfl
theorem dX6_wordEnd_5 : decode cX6_wordEnd 5 = .ok (.iload_n 1, 1) := dw_27 wX6_wordEnd_c rfl
theorem dX6_wordEnd_6 : decode cX6_wordEnd 6 = .ok (.aload_n 0, 1) := dw_42 wX6_wordEnd_c rfl
theorem dX6_wordEnd_7 : decode cX6_wordEnd 7 = .ok (.getfield 15, 3) := dw_180 wX6_wordEnd_c 0 15 rfl rfl
theorem dX6_wordEnd_10 : decode cX6_wordEnd 10 = .ok (.if_icmp .ge 31, 3) := dw_162 wX6_wordEnd_c 0 31 rfl rfl rfl
theorem dX6_wordEnd_13 : decode cX6_wordEnd 13 = .ok (.aload_n 0, 1) := dw_42 wX6_wordEnd_c rfl
theorem dX6_wordEnd_14 : decode cX6_wordEnd 14 = .ok (.getfield 9, 3) := dw_180 wX6_wordEnd_c 0 9 rfl rfl
theorem dX6_wordEnd_17 : decode cX6_wordEnd 17 = .ok (.iload_n 1, 1) := dw_27 wX6_wordEnd_c rfl
theorem dX6_wordEnd_18 : decode cX6_wordEnd 18 = .ok (.baload, 1) := dw_51 wX6_wordEnd_c rfl
theorem dX6_wordEnd_19 : decode cX6_wordEnd 19 = .ok (.bipush 97, 2) := dw_16 wX6_wordEnd_c 97 rfl rfl rfl
theorem dX6_wordEnd_21 : decode cX6_wordEnd 21 = .ok (.if_icmp .lt 20, 3) := dw_161 wX6_wordEnd_c 0 20 rfl rfl rfl
theorem dX6_wordEnd_24 : decode cX6_wordEnd 24 = .ok (.aload_n 0, 1) := dw_42 wX6_wordEnd_c rfl
theorem dX6_wordEnd_25 : decode cX6_wordEnd 25 = .ok (.getfield 9, 3) := dw_180 wX6_wordEnd_c 0 9 rfl rfl
theorem dX6_wordEnd_28 : decode cX6_wordEnd 28 = .ok (.iload_n 1, 1) := dw_27 wX6_wordEnd_c rfl
theorem dX6_wordEnd_29 : decode cX6_wordEnd 29 = .ok (.baload, 1) := dw_51 wX6_wordEnd_c rfl
theorem dX6_wordEnd_30 : decode cX6_wordEnd 30 = .ok (.bipush 122, 2) := dw_16 wX6_wordEnd_c 122 rfl rfl rfl
theorem dX6_wordEnd_32 : decode cX6_wordEnd 32 = .ok (.if_icmp .gt 9, 3) := dw_163 wX6_wordEnd_c 0 9 rfl rfl rfl
theorem dX6_wordEnd_35 : decode cX6_wordEnd 35 = .ok (.iinc 1 1, 3) := dw_132 wX6_wordEnd_c 1 1 rfl rfl rfl
theorem dX6_wordEnd_38 : decode cX6_wordEnd 38 = .ok (.goto (-33), 3) := dn_167 wX6_wordEnd_c 255 223 rfl (by decide)
theorem dX6_wordEnd_41 : decode cX6_wordEnd 41 = .ok (.iload_n 1, 1) := dw_27 wX6_wordEnd_c rfl
theorem dX6_wordEnd_42 : decode cX6_wordEnd 42 = .ok (.ireturn, 1) := dw_172 wX6_wordEnd_c rfl
end
section
def wNX2_paidOn : Nat := 1735067958907665171906773632978485733018647518144754147518940564410604338742815863647620706779845024700674239714203579434
theorem wX2_paidOn_c : hz_cd cX2_paidOn wNX2_paidOn 50 := ⟨by decide +kernel, by decide +kernel⟩
theorem dX2_paidOn_0 : decode cX2_paidOn 0 = .ok (.aload_n 0, 1) := dw_42 wX2_paidOn_c rfl
theorem dX2_paidOn_1 : decode cX2_paidOn 1 = .ok (.getfield 28, 3) := dw_180 wX2_paidOn_c 0 28 rfl rfl
theorem dX2_paidOn_4 : decode cX2_paidOn 4 = .ok (.iload_n 2, 1) := dw_28 wX2_paidOn_c rfl
theorem dX2_paidOn_5 : decode cX2_paidOn 5 = .ok (.invokestatic 60, 3) := dw_184 wX2_paidOn_c 0 60 rfl rfl
theorem dX2_paidOn_8 : decode cX2_paidOn 8 = .ok (.ifCond .eq 10, 3) := dw_153 wX2_paidOn_c 0 10 rfl rfl rfl
theorem dX2_paidOn_11 : decode cX2_paidOn 11 = .ok (.aload_n 0, 1) := dw_42 wX2_paidOn_c rfl
theorem dX2_paidOn_12 : decode cX2_paidOn 12 = .ok (.getfield 98, 3) := dw_180 wX2_paidOn_c 0 98 rfl rfl
theorem dX2_paidOn_15 : decode cX2_paidOn 15 = .ok (.goto 4, 3) := dw_167 wX2_paidOn_c 0 4 rfl rfl rfl
theorem dX2_paidOn_18 : decode cX2_paidOn 18 = .ok (.iconst 0, 1) := dw_3 wX2_paidOn_c rfl
theorem dX2_paidOn_19 : decode cX2_paidOn 19 = .ok (.istore 4, 2) := dw_54 wX2_paidOn_c 4 rfl
theorem dX2_paidOn_21 : decode cX2_paidOn 21 = .ok (.aload_n 0, 1) := dw_42 wX2_paidOn_c rfl
theorem dX2_paidOn_22 : decode cX2_paidOn 22 = .ok (.getfield 25, 3) := dw_180 wX2_paidOn_c 0 25 rfl rfl
theorem dX2_paidOn_25 : decode cX2_paidOn 25 = .ok (.iload_n 2, 1) := dw_28 wX2_paidOn_c rfl
theorem dX2_paidOn_26 : decode cX2_paidOn 26 = .ok (.invokestatic 60, 3) := dw_184 wX2_paidOn_c 0 60 rfl rfl
theorem dX2_paidOn_29 : decode cX2_paidOn 29 = .ok (.ifCond .eq 19, 3) := dw_153 wX2_paidOn_c 0 19 rfl rfl rfl
theorem dX2_paidOn_32 : decode cX2_paidOn 32 = .ok (.aload_n 1, 1) := dw_43 wX2_paidOn_c rfl
theorem dX2_paidOn_33 : decode cX2_paidOn 33 = .ok (.aload_n 0, 1) := dw_42 wX2_paidOn_c rfl
theorem dX2_paidOn_34 : decode cX2_paidOn 34 = .ok (.getfield 34, 3) := dw_180 wX2_paidOn_c 0 34 rfl rfl
theorem dX2_paidOn_37 : decode cX2_paidOn 37 = .ok (.iload_n 2, 1) := dw_28 wX2_paidOn_c rfl
theorem dX2_paidOn_38 : decode cX2_paidOn 38 = .ok (.iload_n 3, 1) := dw_29 wX2_paidOn_c rfl
theorem dX2_paidOn_39 : decode cX2_paidOn 39 = .ok (.invokevirtual 101, 3) := dw_182 wX2_paidOn_c 0 101 rfl rfl
theorem dX2_paidOn_42 : decode cX2_paidOn 42 = .ok (.iload 4, 2) := dw_21 wX2_paidOn_c 4 rfl
theorem dX2_paidOn_44 : decode cX2_paidOn 44 = .ok (.iadd, 1) := dw_96 wX2_paidOn_c rfl
theorem dX2_paidOn_45 : decode cX2_paidOn 45 = .ok (.goto 4, 3) := dw_167 wX2_paidOn_c 0 4 rfl rfl rfl
theorem dX2_paidOn_48 : decode cX2_paidOn 48 = .ok (.iconst 0, 1) := dw_3 wX2_paidOn_c rfl
theorem dX2_paidOn_49 : decode cX2_paidOn 49 = .ok (.ireturn, 1) := dw_172 wX2_paidOn_c rfl
set_option maxHeartbeats 4000000 in
set_option maxRecDepth 100000 in
theorem t_X2_paidOn (l : Launch) (dC : Nat → ClassId) (dI : Nat → Nat → Nat) (dA : Nat → ClassId) (L : List Nat) (h : hx_h) (sz : Nat) (x : Nat) (v1 : Nat) (i1 : Int32) (i2 : Int32) (hT : hx_T T_tb L h) (gx : hx_g L h x 2) (gv1 : hx_g L h v1 3)  : Met l yX2_paidOn (Cond.code yX2_paidOn cX2_paidOn 5 (some .int) :: hx_all) ({ frames := 1, cells := 0, slots := 0, locals := 26 }) (va_Pc [.ref x, .ref v1, .int i1, .int i2] (hx_B T_tb (P_ty dA) (dC, dI) vwCl L h sz)) (va_Qi (fun (r : Int32) (u : List Nat × hx_h) => (True) ∧ hx_T T_tb u.1 u.2 ∧ hx_S T_tb [] L h u.1 u.2) (hx_E T_tb (P_ty dA) (dC, dI) vwCl (hx_A L sz)) (hx_A L sz)) 0 0 (hx_A L sz) := by
  refine hx_met (lv := [(0, .ref x), (1, .ref v1), (2, .int i1), (3, .int i2)]) (by decide +kernel) rfl (Nat.le_of_ble_eq_true rfl) rfl ?_
  intro p e s m below meth c hx hb hml hr hlk hts0 hown hin hsz hW ls hl
  have hts : ∀ w ∈ hx_all, w.before _ s = true := fun w hw => hts0 w (List.mem_cons_of_mem _ hw)
  have hown : s.vm.findClass "SmallCourt$Claim" = some m.cls := hown
  have hM : hx_S T_tb [] L h L h := hx_S.rf
  refine lv_aload_n hx hb dX2_paidOn_0 rfl (lv_at hl 0 rfl) ?_
  refine hx_geti hx hb hts hC_2 hown hW hT gx tt_2 16 ?o0 rfl kw_758 ⟨rfl, rfl, rfl⟩ dX2_paidOn_1 (fun x_1 ex_1 lx_1 ux_1 => ?_)
  case o0 => decide
  have fx_1 := ex_1.symm
  refine lv_iload_n hx hb dX2_paidOn_4 rfl (lv_at hl 2 rfl) ?_
  refine hx_goi (hx_runS (As := [.int x_1, .int i1]) (rest := []) ⟨hx, hb, hml, hown, hts⟩ hW (t_X2_isDone l dC dI dA L h s.heap.size x_1 i1 hT) (va_cwS 2 hts (hx_gS kw_864 kw_862 kw_863 kw_110) rfl rfl rfl (by decide +kernel) ⟨Nat.le_of_ble_eq_true rfl, Nat.le_of_ble_eq_true rfl⟩) rfl hl.1 rfl (Nat.le_of_ble_eq_true rfl) dX2_paidOn_5 ⟨Nat.le_of_ble_eq_true rfl, Nat.le_of_ble_eq_true rfl⟩) hW (fun r_4 L_2 h_3 H locs p_5 hW => ?_)
  obtain ⟨hr_6, hT, hs⟩ := p_5
  replace hT : hx_T T_tb L_2 h_3 := hT
  replace hs : hx_S T_tb [] L h L_2 h_3 := hs
  replace fx_1 := (hs.o gx trivial rfl).1.trans fx_1
  replace hM := hM.tr (hs.mono ?o1)
  case o1 => decide
  replace gx := gx.S hs
  replace gv1 := gv1.S hs
  refine hb_if_eq (zx := r_4.toInt) (tgt := 18) hx hb rfl dX2_paidOn_8 ?o2 (fun c_7 => ?_) (fun c_7 => ?_)
  case o2 => decide
  · skip
    refine lv_iconst (v := 0) hx hb dX2_paidOn_18 ?o3 ?_
    case o3 => decide
    refine lv_istore (lv' := [(4, .int (0 : Int32)), (0, .ref x), (1, .ref v1), (2, .int i1), (3, .int i2)]) hx hb dX2_paidOn_19 hl ?o4 rfl (fun ls hl => ?_)
    case o4 => decide
    refine lv_aload_n hx hb dX2_paidOn_21 rfl (lv_at hl 1 rfl) ?_
    refine hx_geti hx hb hts hC_2 hown hW hT gx tt_2 13 ?o5 rfl kw_752 ⟨rfl, rfl, rfl⟩ dX2_paidOn_22 (fun x_8 ex_8 lx_8 ux_8 => ?_)
    case o5 => decide
    have fx_8 := ex_8.symm
    refine lv_iload_n hx hb dX2_paidOn_25 rfl (lv_at hl 3 rfl) ?_
    refine hx_goi (hx_runS (As := [.int x_8, .int i1]) (rest := []) ⟨hx, hb, hml, hown, hts⟩ hW (t_X2_isDone l dC dI dA L_2 h_3 H.size x_8 i1 hT) (va_cwS 2 hts (hx_gS kw_864 kw_862 kw_863 kw_110) rfl rfl rfl (by decide +kernel) ⟨Nat.le_of_ble_eq_true rfl, Nat.le_of_ble_eq_true rfl⟩) rfl hl.1 rfl (Nat.le_of_ble_eq_true rfl) dX2_paidOn_26 ⟨Nat.le_of_ble_eq_true rfl, Nat.le_of_ble_eq_true rfl⟩) hW (fun r_11 L_9 h_10 H locs p_12 hW => ?_)
    obtain ⟨hr_13, hT, hs⟩ := p_12
    replace hT : hx_T T_tb L_9 h_10 := hT
    replace hs : hx_S T_tb [] L_2 h_3 L_9 h_10 := hs
    replace fx_1 := (hs.o gx trivial rfl).1.trans fx_1
    replace fx_8 := (hs.o gx trivial rfl).1.trans fx_8
    replace hM := hM.tr (hs.mono ?o6)
    case o6 => decide
    replace gx := gx.S hs
    replace gv1 := gv1.S hs
    refine hb_if_eq (zx := r_11.toInt) (tgt := 48) hx hb rfl dX2_paidOn_29 ?o7 (fun c_14 => ?_) (fun c_14 => ?_)
    case o7 => decide
    · skip
      refine lv_iconst (v := 0) hx hb dX2_paidOn_48 ?o8 ?_
      case o8 => decide
      exact hx_reti hx hb hr hlk hW ⟨trivial, hT, hM⟩ dX2_paidOn_49
    · skip
      refine lv_aload_n hx hb dX2_paidOn_32 rfl (lv_at hl 2 rfl) ?_
      refine lv_aload_n hx hb dX2_paidOn_33 rfl (lv_at hl 1 rfl) ?_
      refine hx_geti hx hb hts hC_2 hown hW hT gx tt_2 0 ?o9 rfl kw_721 ⟨rfl, rfl, rfl⟩ dX2_paidOn_34 (fun x_15 ex_15 lx_15 ux_15 => ?_)
      case o9 => decide
      have fx_15 := ex_15.symm
      refine lv_iload_n hx hb dX2_paidOn_37 rfl (lv_at hl 3 rfl) ?_
      refine lv_iload_n hx hb dX2_paidOn_38 rfl (lv_at hl 4 rfl) ?_
      refine hx_goi (hx_runV (As := [.int x_15, .int i1, .int i2]) (rest := []) ⟨hx, hb, hml, hown, hts⟩ hW gv1 tt_3 (T := TX3) (N := 6) rfl (t_X3_sumFor l dC dI dA L_9 h_10 H.size v1 x_15 i1 i2 hT gv1) (cwV 3 hts (hx_gV kw_880 kw_877 kw_878 kw_879 kw_99) rfl rfl rfl (by decide +kernel) ⟨Nat.le_of_ble_eq_true rfl, Nat.le_of_ble_eq_true rfl⟩) rfl hl.1 rfl (Nat.le_of_ble_eq_true rfl) dX2_paidOn_39 ⟨Nat.le_of_ble_eq_true rfl, Nat.le_of_ble_eq_true rfl⟩) hW (fun r_18 L_16 h_17 H locs p_19 hW => ?_)
      obtain ⟨hr_20, hT, hs⟩ := p_19
      replace hT : hx_T T_tb L_16 h_17 := hT
      replace hs : hx_S T_tb [] L_9 h_10 L_16 h_17 := hs
      replace fx_1 := (hs.o gx trivial rfl).1.trans fx_1
      replace fx_8 := (hs.o gx trivial rfl).1.trans fx_8
      replace fx_15 := (hs.o gx trivial rfl).1.trans fx_15
      replace hM := hM.tr (hs.mono ?o10)
      case o10 => decide
      replace gx := gx.S hs
      replace gv1 := gv1.S hs
      refine lv_iload hx hb dX2_paidOn_42 (lv_at hl 0 rfl) ?_
      refine lv_iadd hx hb dX2_paidOn_44 ?_
      have rg_21 := i32_r r_18
      refine lv_topi (fun x_22 ex_22 => ?_)
      refine lv_goto (tgt := 49) hx hb dX2_paidOn_45 ?o11 ?_
      case o11 => decide
      exact hx_reti hx hb hr hlk hW ⟨trivial, hT, hM⟩ dX2_paidOn_49
  · skip
    refine lv_aload_n hx hb dX2_paidOn_11 rfl (lv_at hl 0 rfl) ?_
    refine hx_geti hx hb hts hC_2 hown hW hT gx tt_2 17 ?o12 rfl kw_760 ⟨rfl, rfl, rfl⟩ dX2_paidOn_12 (fun x_23 ex_23 lx_23 ux_23 => ?_)
    case o12 => decide
    have fx_23 := ex_23.symm
    refine lv_goto (tgt := 19) hx hb dX2_paidOn_15 ?o13 ?_
    case o13 => decide
    refine lv_istore (lv' := [(4, .int x_23), (0, .ref x), (1, .ref v1), (2, .int i1), (3, .int i2)]) hx hb dX2_paidOn_19 hl ?o14 rfl (fun ls hl => ?_)
    case o14 => decide
    refine lv_aload_n hx hb dX2_paidOn_21 rfl (lv_at hl 1 rfl) ?_
    refine hx_geti hx hb hts hC_2 hown hW hT gx tt_2 13 ?o15 rfl kw_752 ⟨rfl, rfl, rfl⟩ dX2_paidOn_22 (fun x_24 ex_24 lx_24 ux_24 => ?_)
    case o15 => decide
    have fx_24 := ex_24.symm
    refine lv_iload_n hx hb dX2_paidOn_25 rfl (lv_at hl 3 rfl) ?_
    refine hx_goi (hx_runS (As := [.int x_24, .int i1]) (rest := []) ⟨hx, hb, hml, hown, hts⟩ hW (t_X2_isDone l dC dI dA L_2 h_3 H.size x_24 i1 hT) (va_cwS 2 hts (hx_gS kw_864 kw_862 kw_863 kw_110) rfl rfl rfl (by decide +kernel) ⟨Nat.le_of_ble_eq_true rfl, Nat.le_of_ble_eq_true rfl⟩) rfl hl.1 rfl (Nat.le_of_ble_eq_true rfl) dX2_paidOn_26 ⟨Nat.le_of_ble_eq_true rfl, Nat.le_of_ble_eq_true rfl⟩) hW (fun r_27 L_25 h_26 H locs p_28 hW => ?_)
    obtain ⟨hr_29, hT, hs⟩ := p_28
    replace hT : hx_T T_tb L_25 h_26 := hT
    replace hs : hx_S T_tb [] L_2 h_3 L_25 h_26 := hs
    replace fx_1 := (hs.o gx trivial rfl).1.trans fx_1
    replace fx_23 := (hs.o gx trivial rfl).1.trans fx_23
    replace fx_24 := (hs.o gx trivial rfl).1.trans fx_24
    replace hM := hM.tr (hs.mono ?o16)
    case o16 => decide
    replace gx := gx.S hs
    replace gv1 := gv1.S hs
    refine hb_if_eq (zx := r_27.toInt) (tgt := 48) hx hb rfl dX2_paidOn_29 ?o17 (fun c_30 => ?_) (fun c_30 => ?_)
    case o17 => decide
    · skip
      refine lv_iconst (v := 0) hx hb dX2_paidOn_48 ?o18 ?_
      case o18 => decide
      exact hx_reti hx hb hr hlk hW ⟨trivial, hT, hM⟩ dX2_paidOn_49
    · skip
      refine lv_aload_n hx hb dX2_paidOn_32 rfl (lv_at hl 2 rfl) ?_
      refine lv_aload_n hx hb dX2_paidOn_33 rfl (lv_at hl 1 rfl) ?_
      refine hx_geti hx hb hts hC_2 hown hW hT gx tt_2 0 ?o19 rfl kw_721 ⟨rfl, rfl, rfl⟩ dX2_paidOn_34 (fun x_31 ex_31 lx_31 ux_31 => ?_)
      case o19 => decide
      have fx_31 := ex_31.symm
      refine lv_iload_n hx hb dX2_paidOn_37 rfl (lv_at hl 3 rfl) ?_
      refine lv_iload_n hx hb dX2_paidOn_38 rfl (lv_at hl 4 rfl) ?_
      refine hx_goi (hx_runV (As := [.int x_31, .int i1, .int i2]) (rest := []) ⟨hx, hb, hml, hown, hts⟩ hW gv1 tt_3 (T := TX3) (N := 6) rfl (t_X3_sumFor l dC dI dA L_25 h_26 H.size v1 x_31 i1 i2 hT gv1) (cwV 3 hts (hx_gV kw_880 kw_877 kw_878 kw_879 kw_99) rfl rfl rfl (by decide +kernel) ⟨Nat.le_of_ble_eq_true rfl, Nat.le_of_ble_eq_true rfl⟩) rfl hl.1 rfl (Nat.le_of_ble_eq_true rfl) dX2_paidOn_39 ⟨Nat.le_of_ble_eq_true rfl, Nat.le_of_ble_eq_true rfl⟩) hW (fun r_34 L_32 h_33 H locs p_35 hW => ?_)
      obtain ⟨hr_36, hT, hs⟩ := p_35
      replace hT : hx_T T_tb L_32 h_33 := hT
      replace hs : hx_S T_tb [] L_25 h_26 L_32 h_33 := hs
      replace fx_1 := (hs.o gx trivial rfl).1.trans fx_1
      replace fx_23 := (hs.o gx trivial rfl).1.trans fx_23
      replace fx_24 := (hs.o gx trivial rfl).1.trans fx_24
      replace fx_31 := (hs.o gx trivial rfl).1.trans fx_31
      replace hM := hM.tr (hs.mono ?o20)
      case o20 => decide
      replace gx := gx.S hs
      replace gv1 := gv1.S hs
      refine lv_iload hx hb dX2_paidOn_42 (lv_at hl 0 rfl) ?_
      refine lv_iadd hx hb dX2_paidOn_44 ?_
      have rg_37 := i32_r r_34
      have rg_38 := i32_r x_23
      refine lv_topi (fun x_39 ex_39 => ?_)
      refine lv_goto (tgt := 49) hx hb dX2_paidOn_45 ?o21 ?_
      case o21 => decide
      exact hx_reti hx hb hr hlk hW ⟨trivial, hT, hM⟩ dX2_paidOn_49

def wNX2_owedOn : Nat := 5110947345168433344956423153242541662466585597099344469747802017354936491305907242
theorem wX2_owedOn_c : hz_cd cX2_owedOn wNX2_owedOn 34 := ⟨by decide +kernel, by decide +kernel⟩
theorem dX2_owedOn_0 : decode cX2_owedOn 0 = .ok (.aload_n 0, 1) := dw_42 wX2_owedOn_c rfl
theorem dX2_owedOn_1 : decode cX2_owedOn 1 = .ok (.getfield 28, 3) := dw_180 wX2_owedOn_c 0 28 rfl rfl
theorem dX2_owedOn_4 : decode cX2_owedOn 4 = .ok (.iload_n 1, 1) := dw_27 wX2_owedOn_c rfl
theorem dX2_owedOn_5 : decode cX2_owedOn 5 = .ok (.invokestatic 60, 3) := dw_184 wX2_owedOn_c 0 60 rfl rfl
theorem dX2_owedOn_8 : decode cX2_owedOn 8 = .ok (.ifCond .eq 21, 3) := dw_153 wX2_owedOn_c 0 21 rfl rfl rfl
theorem dX2_owedOn_11 : decode cX2_owedOn 11 = .ok (.aload_n 0, 1) := dw_42 wX2_owedOn_c rfl
theorem dX2_owedOn_12 : decode cX2_owedOn 12 = .ok (.getfield 107, 3) := dw_180 wX2_owedOn_c 0 107 rfl rfl
theorem dX2_owedOn_15 : decode cX2_owedOn 15 = .ok (.aload_n 0, 1) := dw_42 wX2_owedOn_c rfl
theorem dX2_owedOn_16 : decode cX2_owedOn 16 = .ok (.getfield 44, 3) := dw_180 wX2_owedOn_c 0 44 rfl rfl
theorem dX2_owedOn_19 : decode cX2_owedOn 19 = .ok (.getfield 51, 3) := dw_180 wX2_owedOn_c 0 51 rfl rfl
theorem dX2_owedOn_22 : decode cX2_owedOn 22 = .ok (.bipush 13, 2) := dw_16 wX2_owedOn_c 13 rfl rfl rfl
theorem dX2_owedOn_24 : decode cX2_owedOn 24 = .ok (.iaload, 1) := dw_46 wX2_owedOn_c rfl
theorem dX2_owedOn_25 : decode cX2_owedOn 25 = .ok (.iadd, 1) := dw_96 wX2_owedOn_c rfl
theorem dX2_owedOn_26 : decode cX2_owedOn 26 = .ok (.goto 7, 3) := dw_167 wX2_owedOn_c 0 7 rfl rfl rfl
theorem dX2_owedOn_29 : decode cX2_owedOn 29 = .ok (.aload_n 0, 1) := dw_42 wX2_owedOn_c rfl
theorem dX2_owedOn_30 : decode cX2_owedOn 30 = .ok (.getfield 107, 3) := dw_180 wX2_owedOn_c 0 107 rfl rfl
theorem dX2_owedOn_33 : decode cX2_owedOn 33 = .ok (.ireturn, 1) := dw_172 wX2_owedOn_c rfl
set_option maxHeartbeats 4000000 in
set_option maxRecDepth 100000 in
theorem t_X2_owedOn (l : Launch) (dC : Nat → ClassId) (dI : Nat → Nat → Nat) (dA : Nat → ClassId) (L : List Nat) (h : hx_h) (sz : Nat) (x : Nat) (i1 : Int32) (hT : hx_T T_tb L h) (gx : hx_g L h x 2)  : Met l yX2_owedOn (Cond.code yX2_owedOn cX2_owedOn 2 (some .int) :: hx_all) ({ frames := 1, cells := 0, slots := 0, locals := 21 }) (va_Pc [.ref x, .int i1] (hx_B T_tb (P_ty dA) (dC, dI) vwCl L h sz)) (va_Qi (fun (r : Int32) (u : List Nat × hx_h) => (True) ∧ hx_T T_tb u.1 u.2 ∧ hx_S T_tb [] L h u.1 u.2) (hx_E T_tb (P_ty dA) (dC, dI) vwCl (hx_A L sz)) (hx_A L sz)) 0 0 (hx_A L sz) := by
  refine hx_met (lv := [(0, .ref x), (1, .int i1)]) (by decide +kernel) rfl (Nat.le_of_ble_eq_true rfl) rfl ?_
  intro p e s m below meth c hx hb hml hr hlk hts0 hown hin hsz hW ls hl
  have hts : ∀ w ∈ hx_all, w.before _ s = true := fun w hw => hts0 w (List.mem_cons_of_mem _ hw)
  have hown : s.vm.findClass "SmallCourt$Claim" = some m.cls := hown
  have hM : hx_S T_tb [] L h L h := hx_S.rf
  refine lv_aload_n hx hb dX2_owedOn_0 rfl (lv_at hl 0 rfl) ?_
  refine hx_geti hx hb hts hC_2 hown hW hT gx tt_2 16 ?o0 rfl kw_758 ⟨rfl, rfl, rfl⟩ dX2_owedOn_1 (fun x_1 ex_1 lx_1 ux_1 => ?_)
  case o0 => decide
  have fx_1 := ex_1.symm
  refine lv_iload_n hx hb dX2_owedOn_4 rfl (lv_at hl 1 rfl) ?_
  refine hx_goi (hx_runS (As := [.int x_1, .int i1]) (rest := []) ⟨hx, hb, hml, hown, hts⟩ hW (t_X2_isDone l dC dI dA L h s.heap.size x_1 i1 hT) (va_cwS 2 hts (hx_gS kw_864 kw_862 kw_863 kw_110) rfl rfl rfl (by decide +kernel) ⟨Nat.le_of_ble_eq_true rfl, Nat.le_of_ble_eq_true rfl⟩) rfl hl.1 rfl (Nat.le_of_ble_eq_true rfl) dX2_owedOn_5 ⟨Nat.le_of_ble_eq_true rfl, Nat.le_of_ble_eq_true rfl⟩) hW (fun r_4 L_2 h_3 H locs p_5 hW => ?_)
  obtain ⟨hr_6, hT, hs⟩ := p_5
  replace hT : hx_T T_tb L_2 h_3 := hT
  replace hs : hx_S T_tb [] L h L_2 h_3 := hs
  replace fx_1 := (hs.o gx trivial rfl).1.trans fx_1
  replace hM := hM.tr (hs.mono ?o1)
  case o1 => decide
  replace gx := gx.S hs
  refine hb_if_eq (zx := r_4.toInt) (tgt := 29) hx hb rfl dX2_owedOn_8 ?o2 (fun c_7 => ?_) (fun c_7 => ?_)
  case o2 => decide
  · skip
    refine lv_aload_n hx hb dX2_owedOn_29 rfl (lv_at hl 0 rfl) ?_
    refine hx_geti hx hb hts hC_2 hown hW hT gx tt_2 15 ?o3 rfl kw_756 ⟨rfl, rfl, rfl⟩ dX2_owedOn_30 (fun x_8 ex_8 lx_8 ux_8 => ?_)
    case o3 => decide
    have fx_8 := ex_8.symm
    exact hx_reti hx hb hr hlk hW ⟨trivial, hT, hM⟩ dX2_owedOn_33
  · skip
    refine lv_aload_n hx hb dX2_owedOn_11 rfl (lv_at hl 0 rfl) ?_
    refine hx_geti hx hb hts hC_2 hown hW hT gx tt_2 15 ?o4 rfl kw_756 ⟨rfl, rfl, rfl⟩ dX2_owedOn_12 (fun x_9 ex_9 lx_9 ux_9 => ?_)
    case o4 => decide
    have fx_9 := ex_9.symm
    refine lv_aload_n hx hb dX2_owedOn_15 rfl (lv_at hl 0 rfl) ?_
    refine hx_getn hx hb hts hC_2 hown hW hT gx tt_2 3 ?o5 rfl kw_734 ⟨rfl, rfl, rfl⟩ dX2_owedOn_16 (fun q_10 fq_10 gq_10 => ?_)
    case o5 => decide
    refine hx_getn hx hb hts hC_0 hown hW hT gq_10 tt_0 2 ?o6 rfl kw_167 ⟨rfl, rfl, rfl⟩ dX2_owedOn_19 (fun q_11 fq_11 gq_11 => ?_)
    case o6 => decide
    refine lv_bipush (v := 13) hx hb dX2_owedOn_22 ?o7 ?_
    case o7 => decide
    refine hx_iald hx hb hW hT gq_11 tt_11 rfl ?o8 dX2_owedOn_24 (fun x_12 ex_12 lx_12 ux_12 => ?_)
    case o8 => decide
    refine lv_iadd hx hb dX2_owedOn_25 ?_
    have rg_13 := i32_r x_9
    have rg_14 := i32_r x_12
    refine lv_topi (fun x_15 ex_15 => ?_)
    refine lv_goto (tgt := 33) hx hb dX2_owedOn_26 ?o9 ?_
    case o9 => decide
    exact hx_reti hx hb hr hlk hW ⟨trivial, hT, hM⟩ dX2_owedOn_33

theorem dX2_balanceOn_0 : decode cX2_balanceOn 0 = .ok (.aload_n 0, 1) := by decide +kernel
theorem dX2_balanceOn_1 : decode cX2_balanceOn 1 = .ok (.getfield 25, 3) := by decide +kernel
theorem dX2_balanceOn_4 : decode cX2_balanceOn 4 = .ok (.iload_n 2, 1) := by decide +kernel
theorem dX2_balanceOn_5 : decode cX2_balanceOn 5 = .ok (.invokestatic 60, 3) := by decide +kernel
theorem dX2_balanceOn_8 : decode cX2_balanceOn 8 = .ok (.ifCond .eq 19, 3) := by decide +kernel
theorem dX2_balanceOn_11 : decode cX2_balanceOn 11 = .ok (.aload_n 0, 1) := by decide +kernel
theorem dX2_balanceOn_12 : decode cX2_balanceOn 12 = .ok (.iload_n 2, 1) := by decide +kernel
theorem dX2_balanceOn_13 : decode cX2_balanceOn 13 = .ok (.invokevirtual 83, 3) := by decide +kernel
theorem dX2_balanceOn_16 : decode cX2_balanceOn 16 = .ok (.aload_n 0, 1) := by decide +kernel
theorem dX2_balanceOn_17 : decode cX2_balanceOn 17 = .ok (.aload_n 1, 1) := by decide +kernel
theorem dX2_balanceOn_18 : decode cX2_balanceOn 18 = .ok (.iload_n 2, 1) := by decide +kernel
theorem dX2_balanceOn_19 : decode cX2_balanceOn 19 = .ok (.iload_n 3, 1) := by decide +kernel
theorem dX2_balanceOn_20 : decode cX2_balanceOn 20 = .ok (.invokevirtual 92, 3) := by decide +kernel
theorem dX2_balanceOn_23 : decode cX2_balanceOn 23 = .ok (.isub, 1) := by decide +kernel
theorem dX2_balanceOn_24 : decode cX2_balanceOn 24 = .ok (.goto 4, 3) := by decide +kernel
theorem dX2_balanceOn_27 : decode cX2_balanceOn 27 = .ok (.iconst 0, 1) := by decide +kernel
theorem dX2_balanceOn_28 : decode cX2_balanceOn 28 = .ok (.ireturn, 1) := by decide +kernel
set_option maxHeartbeats 4000000 in
set_option maxRecDepth 100000 in
theorem t_X2_balanceOn (l : Launch) (dC : Nat → ClassId) (dI : Nat → Nat → Nat) (dA : Nat → ClassId) (L : List Nat) (h : hx_h) (sz : Nat) (x : Nat) (v1 : Nat) (i1 : Int32) (i2 : Int32) (hT : hx_T T_tb L h) (gx : hx_g L h x 2) (gv1 : hx_g L h v1 3)  : Met l yX2_balanceOn (Cond.code yX2_balanceOn cX2_balanceOn 4 (some .int) :: hx_all) ({ frames := 2, cells := 0, slots := 0, locals := 50 }) (va_Pc [.ref x, .ref v1, .int i1, .int i2] (hx_B T_tb (P_ty dA) (dC, dI) vwCl L h sz)) (va_Qi (fun (r : Int32) (u : List Nat × hx_h) => (True) ∧ hx_T T_tb u.1 u.2 ∧ hx_S T_tb [] L h u.1 u.2) (hx_E T_tb (P_ty dA) (dC, dI) vwCl (hx_A L sz)) (hx_A L sz)) 0 0 (hx_A L sz) := by
  refine hx_met (lv := [(0, .ref x), (1, .ref v1), (2, .int i1), (3, .int i2)]) (by decide +kernel) rfl (Nat.le_of_ble_eq_true rfl) rfl ?_
  intro p e s m below meth c hx hb hml hr hlk hts0 hown hin hsz hW ls hl
  have hts : ∀ w ∈ hx_all, w.before _ s = true := fun w hw => hts0 w (List.mem_cons_of_mem _ hw)
  have hown : s.vm.findClass "SmallCourt$Claim" = some m.cls := hown
  have hM : hx_S T_tb [] L h L h := hx_S.rf
  refine lv_aload_n hx hb dX2_balanceOn_0 rfl (lv_at hl 0 rfl) ?_
  refine hx_geti hx hb hts hC_2 hown hW hT gx tt_2 13 ?o0 rfl kw_752 ⟨rfl, rfl, rfl⟩ dX2_balanceOn_1 (fun x_1 ex_1 lx_1 ux_1 => ?_)
  case o0 => decide
  have fx_1 := ex_1.symm
  refine lv_iload_n hx hb dX2_balanceOn_4 rfl (lv_at hl 2 rfl) ?_
  refine hx_goi (hx_runS (As := [.int x_1, .int i1]) (rest := []) ⟨hx, hb, hml, hown, hts⟩ hW (t_X2_isDone l dC dI dA L h s.heap.size x_1 i1 hT) (va_cwS 2 hts (hx_gS kw_864 kw_862 kw_863 kw_110) rfl rfl rfl (by decide +kernel) ⟨Nat.le_of_ble_eq_true rfl, Nat.le_of_ble_eq_true rfl⟩) rfl hl.1 rfl (Nat.le_of_ble_eq_true rfl) dX2_balanceOn_5 ⟨Nat.le_of_ble_eq_true rfl, Nat.le_of_ble_eq_true rfl⟩) hW (fun r_4 L_2 h_3 H locs p_5 hW => ?_)
  obtain ⟨hr_6, hT, hs⟩ := p_5
  replace hT : hx_T T_tb L_2 h_3 := hT
  replace hs : hx_S T_tb [] L h L_2 h_3 := hs
  replace fx_1 := (hs.o gx trivial rfl).1.trans fx_1
  replace hM := hM.tr (hs.mono ?o1)
  case o1 => decide
  replace gx := gx.S hs
  replace gv1 := gv1.S hs
  refine hb_if_eq (zx := r_4.toInt) (tgt := 27) hx hb rfl dX2_balanceOn_8 ?o2 (fun c_7 => ?_) (fun c_7 => ?_)
  case o2 => decide
  · skip
    refine lv_iconst (v := 0) hx hb dX2_balanceOn_27 ?o3 ?_
    case o3 => decide
    exact hx_reti hx hb hr hlk hW ⟨trivial, hT, hM⟩ dX2_balanceOn_28
  · skip
    refine lv_aload_n hx hb dX2_balanceOn_11 rfl (lv_at hl 0 rfl) ?_
    refine lv_iload_n hx hb dX2_balanceOn_12 rfl (lv_at hl 2 rfl) ?_
    refine hx_goi (hx_runV (As := [.int i1]) (rest := []) ⟨hx, hb, hml, hown, hts⟩ hW gx tt_2 (T := TX2) (N := 19) rfl (t_X2_owedOn l dC dI dA L_2 h_3 H.size x i1 hT gx) (cwV 1 hts (hx_gV kw_872 kw_869 kw_871 kw_31 kw_110) rfl rfl rfl (by decide +kernel) ⟨Nat.le_of_ble_eq_true rfl, Nat.le_of_ble_eq_true rfl⟩) rfl hl.1 rfl (Nat.le_of_ble_eq_true rfl) dX2_balanceOn_13 ⟨Nat.le_of_ble_eq_true rfl, Nat.le_of_ble_eq_true rfl⟩) hW (fun r_10 L_8 h_9 H locs p_11 hW => ?_)
    obtain ⟨hr_12, hT, hs⟩ := p_11
    replace hT : hx_T T_tb L_8 h_9 := hT
    replace hs : hx_S T_tb [] L_2 h_3 L_8 h_9 := hs
    replace fx_1 := (hs.o gx trivial rfl).1.trans fx_1
    replace hM := hM.tr (hs.mono ?o4)
    case o4 => decide
    replace gx := gx.S hs
    replace gv1 := gv1.S hs
    refine lv_aload_n hx hb dX2_balanceOn_16 rfl (lv_at hl 0 rfl) ?_
    refine lv_aload_n hx hb dX2_balanceOn_17 rfl (lv_at hl 1 rfl) ?_
    refine lv_iload_n hx hb dX2_balanceOn_18 rfl (lv_at hl 2 rfl) ?_
    refine lv_iload_n hx hb dX2_balanceOn_19 rfl (lv_at hl 3 rfl) ?_
    refine hx_goi (hx_runV (As := [.ref v1, .int i1, .int i2]) (rest := [.int r_10]) ⟨hx, hb, hml, hown, hts⟩ hW gx tt_2 (T := TX2) (N := 19) rfl (t_X2_paidOn l dC dI dA L_8 h_9 H.size x v1 i1 i2 hT gx gv1) (cwV 3 hts (hx_gV kw_876 kw_873 kw_874 kw_875 kw_110) rfl rfl rfl (by decide +kernel) ⟨Nat.le_of_ble_eq_true rfl, Nat.le_of_ble_eq_true rfl⟩) rfl hl.1 rfl (Nat.le_of_ble_eq_true rfl) dX2_balanceOn_20 ⟨Nat.le_of_ble_eq_true rfl, Nat.le_of_ble_eq_true rfl⟩) hW (fun r_15 L_13 h_14 H locs p_16 hW => ?_)
    obtain ⟨hr_17, hT, hs⟩ := p_16
    replace hT : hx_T T_tb L_13 h_14 := hT
    replace hs : hx_S T_tb [] L_8 h_9 L_13 h_14 := hs
    replace fx_1 := (hs.o gx trivial rfl).1.trans fx_1
    replace hM := hM.tr (hs.mono ?o5)
    case o5 => decide
    replace gx := gx.S hs
    replace gv1 := gv1.S hs
    refine lv_isub hx hb dX2_balanceOn_23 ?_
    have rg_18 := i32_r r_10
    have rg_19 := i32_r r_15
    refine lv_topi (fun x_20 ex_20 => ?_)
    refine lv_goto (tgt := 28) hx hb dX2_balanceOn_24 ?o6 ?_
    case o6 => decide
    exact hx_reti hx hb hr hlk hW ⟨trivial, hT, hM⟩ dX2_balanceOn_28

theorem dX2_restOn_0 : decode cX2_restOn 0 = .ok (.aload_n 0, 1) := by decide +kernel
theorem dX2_restOn_1 : decode cX2_restOn 1 = .ok (.getfield 31, 3) := by decide +kernel
theorem dX2_restOn_4 : decode cX2_restOn 4 = .ok (.iload_n 2, 1) := by decide +kernel
theorem dX2_restOn_5 : decode cX2_restOn 5 = .ok (.invokestatic 60, 3) := by decide +kernel
theorem dX2_restOn_8 : decode cX2_restOn 8 = .ok (.ifCond .eq 7, 3) := by decide +kernel
theorem dX2_restOn_11 : decode cX2_restOn 11 = .ok (.iconst 0, 1) := by decide +kernel
theorem dX2_restOn_12 : decode cX2_restOn 12 = .ok (.goto 14, 3) := by decide +kernel
theorem dX2_restOn_15 : decode cX2_restOn 15 = .ok (.iconst 0, 1) := by decide +kernel
theorem dX2_restOn_16 : decode cX2_restOn 16 = .ok (.aload_n 0, 1) := by decide +kernel
theorem dX2_restOn_17 : decode cX2_restOn 17 = .ok (.aload_n 1, 1) := by decide +kernel
theorem dX2_restOn_18 : decode cX2_restOn 18 = .ok (.iload_n 2, 1) := by decide +kernel
theorem dX2_restOn_19 : decode cX2_restOn 19 = .ok (.iload_n 3, 1) := by decide +kernel
theorem dX2_restOn_20 : decode cX2_restOn 20 = .ok (.invokevirtual 74, 3) := by decide +kernel
theorem dX2_restOn_23 : decode cX2_restOn 23 = .ok (.invokestatic 77, 3) := by decide +kernel
theorem dX2_restOn_26 : decode cX2_restOn 26 = .ok (.ireturn, 1) := by decide +kernel
set_option maxHeartbeats 4000000 in
set_option maxRecDepth 100000 in
theorem t_X2_restOn (l : Launch) (dC : Nat → ClassId) (dI : Nat → Nat → Nat) (dA : Nat → ClassId) (L : List Nat) (h : hx_h) (sz : Nat) (x : Nat) (v1 : Nat) (i1 : Int32) (i2 : Int32) (hT : hx_T T_tb L h) (gx : hx_g L h x 2) (gv1 : hx_g L h v1 3)  : Met l yX2_restOn (Cond.code yX2_restOn cX2_restOn 4 (some .int) :: hx_all) ({ frames := 3, cells := 0, slots := 0, locals := 73 }) (va_Pc [.ref x, .ref v1, .int i1, .int i2] (hx_B T_tb (P_ty dA) (dC, dI) vwCl L h sz)) (va_Qi (fun (r : Int32) (u : List Nat × hx_h) => (True) ∧ hx_T T_tb u.1 u.2 ∧ hx_S T_tb [] L h u.1 u.2) (hx_E T_tb (P_ty dA) (dC, dI) vwCl (hx_A L sz)) (hx_A L sz)) 0 0 (hx_A L sz) := by
  refine hx_met (lv := [(0, .ref x), (1, .ref v1), (2, .int i1), (3, .int i2)]) (by decide +kernel) rfl (Nat.le_of_ble_eq_true rfl) rfl ?_
  intro p e s m below meth c hx hb hml hr hlk hts0 hown hin hsz hW ls hl
  have hts : ∀ w ∈ hx_all, w.before _ s = true := fun w hw => hts0 w (List.mem_cons_of_mem _ hw)
  have hown : s.vm.findClass "SmallCourt$Claim" = some m.cls := hown
  have hM : hx_S T_tb [] L h L h := hx_S.rf
  refine lv_aload_n hx hb dX2_restOn_0 rfl (lv_at hl 0 rfl) ?_
  refine hx_geti hx hb hts hC_2 hown hW hT gx tt_2 18 ?o0 rfl kw_762 ⟨rfl, rfl, rfl⟩ dX2_restOn_1 (fun x_1 ex_1 lx_1 ux_1 => ?_)
  case o0 => decide
  have fx_1 := ex_1.symm
  refine lv_iload_n hx hb dX2_restOn_4 rfl (lv_at hl 2 rfl) ?_
  refine hx_goi (hx_runS (As := [.int x_1, .int i1]) (rest := []) ⟨hx, hb, hml, hown, hts⟩ hW (t_X2_isDone l dC dI dA L h s.heap.size x_1 i1 hT) (va_cwS 2 hts (hx_gS kw_864 kw_862 kw_863 kw_110) rfl rfl rfl (by decide +kernel) ⟨Nat.le_of_ble_eq_true rfl, Nat.le_of_ble_eq_true rfl⟩) rfl hl.1 rfl (Nat.le_of_ble_eq_true rfl) dX2_restOn_5 ⟨Nat.le_of_ble_eq_true rfl, Nat.le_of_ble_eq_true rfl⟩) hW (fun r_4 L_2 h_3 H locs p_5 hW => ?_)
  obtain ⟨hr_6, hT, hs⟩ := p_5
  replace hT : hx_T T_tb L_2 h_3 := hT
  replace hs : hx_S T_tb [] L h L_2 h_3 := hs
  replace fx_1 := (hs.o gx trivial rfl).1.trans fx_1
  replace hM := hM.tr (hs.mono ?o1)
  case o1 => decide
  replace gx := gx.S hs
  replace gv1 := gv1.S hs
  refine hb_if_eq (zx := r_4.toInt) (tgt := 15) hx hb rfl dX2_restOn_8 ?o2 (fun c_7 => ?_) (fun c_7 => ?_)
  case o2 => decide
  · skip
    refine lv_iconst (v := 0) hx hb dX2_restOn_15 ?o3 ?_
    case o3 => decide
    refine lv_aload_n hx hb dX2_restOn_16 rfl (lv_at hl 0 rfl) ?_
    refine lv_aload_n hx hb dX2_restOn_17 rfl (lv_at hl 1 rfl) ?_
    refine lv_iload_n hx hb dX2_restOn_18 rfl (lv_at hl 2 rfl) ?_
    refine lv_iload_n hx hb dX2_restOn_19 rfl (lv_at hl 3 rfl) ?_
    refine hx_goi (hx_runV (As := [.ref v1, .int i1, .int i2]) (rest := [.int (0 : Int32)]) ⟨hx, hb, hml, hown, hts⟩ hW gx tt_2 (T := TX2) (N := 19) rfl (t_X2_balanceOn l dC dI dA L_2 h_3 H.size x v1 i1 i2 hT gx gv1) (cwV 3 hts (hx_gV kw_868 kw_865 kw_866 kw_867 kw_110) rfl rfl rfl (by decide +kernel) ⟨Nat.le_of_ble_eq_true rfl, Nat.le_of_ble_eq_true rfl⟩) rfl hl.1 rfl (Nat.le_of_ble_eq_true rfl) dX2_restOn_20 ⟨Nat.le_of_ble_eq_true rfl, Nat.le_of_ble_eq_true rfl⟩) hW (fun r_10 L_8 h_9 H locs p_11 hW => ?_)
    obtain ⟨hr_12, hT, hs⟩ := p_11
    replace hT : hx_T T_tb L_8 h_9 := hT
    replace hs : hx_S T_tb [] L_2 h_3 L_8 h_9 := hs
    replace fx_1 := (hs.o gx trivial rfl).1.trans fx_1
    replace hM := hM.tr (hs.mono ?o4)
    case o4 => decide
    replace gx := gx.S hs
    replace gv1 := gv1.S hs
    refine va_mmax hx hb (hml.trans hl.1.symm) hown (hts _ kw_881) (hts _ kw_882) (hts _ kw_109) (hts _ kw_883) (Nat.le_of_ble_eq_true rfl) (Nat.le_of_ble_eq_true rfl) (Nat.le_of_ble_eq_true rfl) (Nat.le_of_ble_eq_true rfl) dX2_restOn_23 ?_
    refine lv_topi (fun x_13 ex_13 => ?_)
    exact hx_reti hx hb hr hlk hW ⟨trivial, hT, hM⟩ dX2_restOn_26
  · skip
    refine lv_iconst (v := 0) hx hb dX2_restOn_11 ?o5 ?_
    case o5 => decide
    refine lv_goto (tgt := 26) hx hb dX2_restOn_12 ?o6 ?_
    case o6 => decide
    exact hx_reti hx hb hr hlk hW ⟨trivial, hT, hM⟩ dX2_restOn_26

theorem dX2_overOn_0 : decode cX2_overOn 0 = .ok (.aload_n 0, 1) := by decide +kernel
theorem dX2_overOn_1 : decode cX2_overOn 1 = .ok (.getfield 31, 3) := by decide +kernel
theorem dX2_overOn_4 : decode cX2_overOn 4 = .ok (.iload_n 2, 1) := by decide +kernel
theorem dX2_overOn_5 : decode cX2_overOn 5 = .ok (.invokestatic 60, 3) := by decide +kernel
theorem dX2_overOn_8 : decode cX2_overOn 8 = .ok (.ifCond .eq 7, 3) := by decide +kernel
theorem dX2_overOn_11 : decode cX2_overOn 11 = .ok (.iconst 0, 1) := by decide +kernel
theorem dX2_overOn_12 : decode cX2_overOn 12 = .ok (.goto 15, 3) := by decide +kernel
theorem dX2_overOn_15 : decode cX2_overOn 15 = .ok (.iconst 0, 1) := by decide +kernel
theorem dX2_overOn_16 : decode cX2_overOn 16 = .ok (.aload_n 0, 1) := by decide +kernel
theorem dX2_overOn_17 : decode cX2_overOn 17 = .ok (.aload_n 1, 1) := by decide +kernel
theorem dX2_overOn_18 : decode cX2_overOn 18 = .ok (.iload_n 2, 1) := by decide +kernel
theorem dX2_overOn_19 : decode cX2_overOn 19 = .ok (.iload_n 3, 1) := by decide +kernel
theorem dX2_overOn_20 : decode cX2_overOn 20 = .ok (.invokevirtual 74, 3) := by decide +kernel
theorem dX2_overOn_23 : decode cX2_overOn 23 = .ok (.ineg, 1) := by decide +kernel
theorem dX2_overOn_24 : decode cX2_overOn 24 = .ok (.invokestatic 77, 3) := by decide +kernel
theorem dX2_overOn_27 : decode cX2_overOn 27 = .ok (.ireturn, 1) := by decide +kernel
theorem dX2_isOpen_0 : decode cX2_isOpen 0 = .ok (.aload_n 0, 1) := by decide +kernel
theorem dX2_isOpen_1 : decode cX2_isOpen 1 = .ok (.aload_n 1, 1) := by decide +kernel
theorem dX2_isOpen_2 : decode cX2_isOpen 2 = .ok (.iload_n 2, 1) := by decide +kernel
theorem dX2_isOpen_3 : decode cX2_isOpen 3 = .ok (.iload_n 2, 1) := by decide +kernel
theorem dX2_isOpen_4 : decode cX2_isOpen 4 = .ok (.invokevirtual 56, 3) := by decide +kernel
theorem dX2_isOpen_7 : decode cX2_isOpen 7 = .ok (.ifCond .le 7, 3) := by decide +kernel
theorem dX2_isOpen_10 : decode cX2_isOpen 10 = .ok (.iconst 1, 1) := by decide +kernel
theorem dX2_isOpen_11 : decode cX2_isOpen 11 = .ok (.goto 4, 3) := by decide +kernel
theorem dX2_isOpen_14 : decode cX2_isOpen 14 = .ok (.iconst 0, 1) := by decide +kernel
theorem dX2_isOpen_15 : decode cX2_isOpen 15 = .ok (.ireturn, 1) := by decide +kernel
set_option maxHeartbeats 4000000 in
set_option maxRecDepth 100000 in
theorem t_X2_isOpen (l : Launch) (dC : Nat → ClassId) (dI : Nat → Nat → Nat) (dA : Nat → ClassId) (L : List Nat) (h : hx_h) (sz : Nat) (x : Nat) (v1 : Nat) (i1 : Int32) (hT : hx_T T_tb L h) (gx : hx_g L h x 2) (gv1 : hx_g L h v1 3)  : Met l yX2_isOpen (Cond.code yX2_isOpen cX2_isOpen 3 (some .boolean) :: hx_all) ({ frames := 4, cells := 0, slots := 0, locals := 96 }) (va_Pc [.ref x, .ref v1, .int i1] (hx_B T_tb (P_ty dA) (dC, dI) vwCl L h sz)) (va_Qi (fun (r : Int32) (u : List Nat × hx_h) => (r.toInt = 0 ∨ r.toInt = 1) ∧ hx_T T_tb u.1 u.2 ∧ hx_S T_tb [] L h u.1 u.2) (hx_E T_tb (P_ty dA) (dC, dI) vwCl (hx_A L sz)) (hx_A L sz)) 0 0 (hx_A L sz) := by
  refine hx_met (lv := [(0, .ref x), (1, .ref v1), (2, .int i1)]) (by decide +kernel) rfl (Nat.le_of_ble_eq_true rfl) rfl ?_
  intro p e s m below meth c hx hb hml hr hlk hts0 hown hin hsz hW ls hl
  have hts : ∀ w ∈ hx_all, w.before _ s = true := fun w hw => hts0 w (List.mem_cons_of_mem _ hw)
  have hown : s.vm.findClass "SmallCourt$Claim" = some m.cls := hown
  have hM : hx_S T_tb [] L h L h := hx_S.rf
  refine lv_aload_n hx hb dX2_isOpen_0 rfl (lv_at hl 0 rfl) ?_
  refine lv_aload_n hx hb dX2_isOpen_1 rfl (lv_at hl 1 rfl) ?_
  refine lv_iload_n hx hb dX2_isOpen_2 rfl (lv_at hl 2 rfl) ?_
  refine lv_iload_n hx hb dX2_isOpen_3 rfl (lv_at hl 2 rfl) ?_
  refine hx_goi (hx_runV (As := [.ref v1, .int i1, .int i1]) (rest := []) ⟨hx, hb, hml, hown, hts⟩ hW gx tt_2 (T := TX2) (N := 19) rfl (t_X2_restOn l dC dI dA L h s.heap.size x v1 i1 i1 hT gx gv1) (cwV 3 hts (hx_gV kw_861 kw_858 kw_859 kw_860 kw_110) rfl rfl rfl (by decide +kernel) ⟨Nat.le_of_ble_eq_true rfl, Nat.le_of_ble_eq_true rfl⟩) rfl hl.1 rfl (Nat.le_of_ble_eq_true rfl) dX2_isOpen_4 ⟨Nat.le_of_ble_eq_true rfl, Nat.le_of_ble_eq_true rfl⟩) hW (fun r_3 L_1 h_2 H locs p_4 hW => ?_)
  obtain ⟨hr_5, hT, hs⟩ := p_4
  replace hT : hx_T T_tb L_1 h_2 := hT
  replace hs : hx_S T_tb [] L h L_1 h_2 := hs
  replace hM := hM.tr (hs.mono ?o0)
  case o0 => decide
  replace gx := gx.S hs
  replace gv1 := gv1.S hs
  refine hb_if_le (zx := r_3.toInt) (tgt := 14) hx hb rfl dX2_isOpen_7 ?o1 (fun c_6 => ?_) (fun c_6 => ?_)
  case o1 => decide
  · skip
    refine lv_iconst (v := 0) hx hb dX2_isOpen_14 ?o2 ?_
    case o2 => decide
    refine hx_retz hx hb hr rfl hlk hW ⟨?o3, hT, hM⟩ dX2_isOpen_15
    case o3 => decide
  · skip
    refine lv_iconst (v := 1) hx hb dX2_isOpen_10 ?o4 ?_
    case o4 => decide
    refine lv_goto (tgt := 15) hx hb dX2_isOpen_11 ?o5 ?_
    case o5 => decide
    refine hx_retz hx hb hr rfl hlk hW ⟨?o6, hT, hM⟩ dX2_isOpen_15
    case o6 => decide

def wNX2_stateAheadOfOrder : Nat := 94058222522838277641646193907377538241598893352020055285483782726425317278965690550730066788735824938
theorem wX2_stateAheadOfOrder_c : hz_cd cX2_stateAheadOfOrder wNX2_stateAheadOfOrder 42 := ⟨by decide +kernel, by decide +kernel⟩
theorem dX2_stateAheadOfOrder_0 : decode cX2_stateAheadOfOrder 0 = .ok (.aload_n 0, 1) := dw_42 wX2_stateAheadOfOrder_c rfl
theorem dX2_stateAheadOfOrder_1 : decode cX2_stateAheadOfOrder 1 = .ok (.getfield 22, 3) := dw_180 wX2_stateAheadOfOrder_c 0 22 rfl rfl
theorem dX2_stateAheadOfOrder_4 : decode cX2_stateAheadOfOrder 4 = .ok (.iload_n 1, 1) := dw_27 wX2_stateAheadOfOrder_c rfl
theorem dX2_stateAheadOfOrder_5 : decode cX2_stateAheadOfOrder 5 = .ok (.invokestatic 60, 3) := dw_184 wX2_stateAheadOfOrder_c 0 60 rfl rfl
theorem dX2_stateAheadOfOrder_8 : decode cX2_stateAheadOfOrder 8 = .ok (.ifCond .eq 17, 3) := dw_153 wX2_stateAheadOfOrder_c 0 17 rfl rfl rfl
theorem dX2_stateAheadOfOrder_11 : decode cX2_stateAheadOfOrder 11 = .ok (.aload_n 0, 1) := dw_42 wX2_stateAheadOfOrder_c rfl
theorem dX2_stateAheadOfOrder_12 : decode cX2_stateAheadOfOrder 12 = .ok (.getfield 71, 3) := dw_180 wX2_stateAheadOfOrder_c 0 71 rfl rfl
theorem dX2_stateAheadOfOrder_15 : decode cX2_stateAheadOfOrder 15 = .ok (.iconst 5, 1) := dw_8 wX2_stateAheadOfOrder_c rfl
theorem dX2_stateAheadOfOrder_16 : decode cX2_stateAheadOfOrder 16 = .ok (.if_icmp .ne 7, 3) := dw_160 wX2_stateAheadOfOrder_c 0 7 rfl rfl rfl
theorem dX2_stateAheadOfOrder_19 : decode cX2_stateAheadOfOrder 19 = .ok (.iconst 3, 1) := dw_6 wX2_stateAheadOfOrder_c rfl
theorem dX2_stateAheadOfOrder_20 : decode cX2_stateAheadOfOrder 20 = .ok (.goto 4, 3) := dw_167 wX2_stateAheadOfOrder_c 0 4 rfl rfl rfl
theorem dX2_stateAheadOfOrder_23 : decode cX2_stateAheadOfOrder 23 = .ok (.iconst 2, 1) := dw_5 wX2_stateAheadOfOrder_c rfl
theorem dX2_stateAheadOfOrder_24 : decode cX2_stateAheadOfOrder 24 = .ok (.ireturn, 1) := dw_172 wX2_stateAheadOfOrder_c rfl
theorem dX2_stateAheadOfOrder_25 : decode cX2_stateAheadOfOrder 25 = .ok (.aload_n 0, 1) := dw_42 wX2_stateAheadOfOrder_c rfl
theorem dX2_stateAheadOfOrder_26 : decode cX2_stateAheadOfOrder 26 = .ok (.getfield 18, 3) := dw_180 wX2_stateAheadOfOrder_c 0 18 rfl rfl
theorem dX2_stateAheadOfOrder_29 : decode cX2_stateAheadOfOrder 29 = .ok (.iload_n 1, 1) := dw_27 wX2_stateAheadOfOrder_c rfl
theorem dX2_stateAheadOfOrder_30 : decode cX2_stateAheadOfOrder 30 = .ok (.invokestatic 60, 3) := dw_184 wX2_stateAheadOfOrder_c 0 60 rfl rfl
theorem dX2_stateAheadOfOrder_33 : decode cX2_stateAheadOfOrder 33 = .ok (.ifCond .eq 7, 3) := dw_153 wX2_stateAheadOfOrder_c 0 7 rfl rfl rfl
theorem dX2_stateAheadOfOrder_36 : decode cX2_stateAheadOfOrder 36 = .ok (.iconst 1, 1) := dw_4 wX2_stateAheadOfOrder_c rfl
theorem dX2_stateAheadOfOrder_37 : decode cX2_stateAheadOfOrder 37 = .ok (.goto 4, 3) := dw_167 wX2_stateAheadOfOrder_c 0 4 rfl rfl rfl
theorem dX2_stateAheadOfOrder_40 : decode cX2_stateAheadOfOrder 40 = .ok (.iconst 0, 1) := dw_3 wX2_stateAheadOfOrder_c rfl
theorem dX2_stateAheadOfOrder_41 : decode cX2_stateAheadOfOrder 41 = .ok (.ireturn, 1) := dw_172 wX2_stateAheadOfOrder_c rfl
end
section
def wNX2_missedOn : Nat := 591646378237299586101047085358362736391232703247205744247646027960249315774378759985724434092118836090641077473033619903519648434690651605899541384982383604778
theorem wX2_missedOn_c : hz_cd cX2_missedOn wNX2_missedOn 66 := ⟨by decide +kernel, by decide +kernel⟩
theorem dX2_missedOn_0 : decode cX2_missedOn 0 = .ok (.aload_n 0, 1) := dw_42 wX2_missedOn_c rfl
theorem dX2_missedOn_1 : decode cX2_missedOn 1 = .ok (.getfield 25, 3) := dw_180 wX2_missedOn_c 0 25 rfl rfl
theorem dX2_missedOn_4 : decode cX2_missedOn 4 = .ok (.iload_n 2, 1) := dw_28 wX2_missedOn_c rfl
theorem dX2_missedOn_5 : decode cX2_missedOn 5 = .ok (.invokestatic 60, 3) := dw_184 wX2_missedOn_c 0 60 rfl rfl
theorem dX2_missedOn_8 : decode cX2_missedOn 8 = .ok (.ifCond .eq 14, 3) := dw_153 wX2_missedOn_c 0 14 rfl rfl rfl
theorem dX2_missedOn_11 : decode cX2_missedOn 11 = .ok (.aload_n 0, 1) := dw_42 wX2_missedOn_c rfl
theorem dX2_missedOn_12 : decode cX2_missedOn 12 = .ok (.getfield 31, 3) := dw_180 wX2_missedOn_c 0 31 rfl rfl
theorem dX2_missedOn_15 : decode cX2_missedOn 15 = .ok (.iload_n 2, 1) := dw_28 wX2_missedOn_c rfl
theorem dX2_missedOn_16 : decode cX2_missedOn 16 = .ok (.invokestatic 60, 3) := dw_184 wX2_missedOn_c 0 60 rfl rfl
theorem dX2_missedOn_19 : decode cX2_missedOn 19 = .ok (.ifCond .eq 5, 3) := dw_153 wX2_missedOn_c 0 5 rfl rfl rfl
theorem dX2_missedOn_22 : decode cX2_missedOn 22 = .ok (.iconst 0, 1) := dw_3 wX2_missedOn_c rfl
theorem dX2_missedOn_23 : decode cX2_missedOn 23 = .ok (.ireturn, 1) := dw_172 wX2_missedOn_c rfl
theorem dX2_missedOn_24 : decode cX2_missedOn 24 = .ok (.aload_n 0, 1) := dw_42 wX2_missedOn_c rfl
theorem dX2_missedOn_25 : decode cX2_missedOn 25 = .ok (.iload_n 2, 1) := dw_28 wX2_missedOn_c rfl
theorem dX2_missedOn_26 : decode cX2_missedOn 26 = .ok (.invokevirtual 83, 3) := dw_182 wX2_missedOn_c 0 83 rfl rfl
theorem dX2_missedOn_29 : decode cX2_missedOn 29 = .ok (.aload_n 0, 1) := dw_42 wX2_missedOn_c rfl
theorem dX2_missedOn_30 : decode cX2_missedOn 30 = .ok (.getfield 86, 3) := dw_180 wX2_missedOn_c 0 86 rfl rfl
theorem dX2_missedOn_33 : decode cX2_missedOn 33 = .ok (.iload_n 2, 1) := dw_28 wX2_missedOn_c rfl
theorem dX2_missedOn_34 : decode cX2_missedOn 34 = .ok (.aload_n 0, 1) := dw_42 wX2_missedOn_c rfl
theorem dX2_missedOn_35 : decode cX2_missedOn 35 = .ok (.getfield 25, 3) := dw_180 wX2_missedOn_c 0 25 rfl rfl
theorem dX2_missedOn_38 : decode cX2_missedOn 38 = .ok (.isub, 1) := dw_100 wX2_missedOn_c rfl
theorem dX2_missedOn_39 : decode cX2_missedOn 39 = .ok (.bipush 7, 2) := dw_16 wX2_missedOn_c 7 rfl rfl rfl
theorem dX2_missedOn_41 : decode cX2_missedOn 41 = .ok (.idiv, 1) := dw_108 wX2_missedOn_c rfl
theorem dX2_missedOn_42 : decode cX2_missedOn 42 = .ok (.imul, 1) := dw_104 wX2_missedOn_c rfl
theorem dX2_missedOn_43 : decode cX2_missedOn 43 = .ok (.invokestatic 89, 3) := dw_184 wX2_missedOn_c 0 89 rfl rfl
theorem dX2_missedOn_46 : decode cX2_missedOn 46 = .ok (.istore 4, 2) := dw_54 wX2_missedOn_c 4 rfl
theorem dX2_missedOn_48 : decode cX2_missedOn 48 = .ok (.iload 4, 2) := dw_21 wX2_missedOn_c 4 rfl
theorem dX2_missedOn_50 : decode cX2_missedOn 50 = .ok (.aload_n 0, 1) := dw_42 wX2_missedOn_c rfl
theorem dX2_missedOn_51 : decode cX2_missedOn 51 = .ok (.aload_n 1, 1) := dw_43 wX2_missedOn_c rfl
theorem dX2_missedOn_52 : decode cX2_missedOn 52 = .ok (.iload_n 2, 1) := dw_28 wX2_missedOn_c rfl
theorem dX2_missedOn_53 : decode cX2_missedOn 53 = .ok (.iload_n 3, 1) := dw_29 wX2_missedOn_c rfl
theorem dX2_missedOn_54 : decode cX2_missedOn 54 = .ok (.invokevirtual 92, 3) := dw_182 wX2_missedOn_c 0 92 rfl rfl
theorem dX2_missedOn_57 : decode cX2_missedOn 57 = .ok (.isub, 1) := dw_100 wX2_missedOn_c rfl
theorem dX2_missedOn_58 : decode cX2_missedOn 58 = .ok (.aload_n 0, 1) := dw_42 wX2_missedOn_c rfl
theorem dX2_missedOn_59 : decode cX2_missedOn 59 = .ok (.getfield 86, 3) := dw_180 wX2_missedOn_c 0 86 rfl rfl
theorem dX2_missedOn_62 : decode cX2_missedOn 62 = .ok (.invokestatic 95, 3) := dw_184 wX2_missedOn_c 0 95 rfl rfl
theorem dX2_missedOn_65 : decode cX2_missedOn 65 = .ok (.ireturn, 1) := dw_172 wX2_missedOn_c rfl
def wNX2_stateOn : Nat := 1147056393965052832817996355360741271839146227591386350428720731871842586529589609824987547151452018839216472571070101027568547183149771983344033850951443510341920528051382902659569501784222220685427417876353828103110836190261745454873470612522
theorem wX2_stateOn_c : hz_cd cX2_stateOn wNX2_stateOn 101 := ⟨by decide +kernel, by decide +kernel⟩
theorem dX2_stateOn_0 : decode cX2_stateOn 0 = .ok (.aload_n 0, 1) := dw_42 wX2_stateOn_c rfl
theorem dX2_stateOn_1 : decode cX2_stateOn 1 = .ok (.getfield 25, 3) := dw_180 wX2_stateOn_c 0 25 rfl rfl
theorem dX2_stateOn_4 : decode cX2_stateOn 4 = .ok (.iload_n 2, 1) := dw_28 wX2_stateOn_c rfl
theorem dX2_stateOn_5 : decode cX2_stateOn 5 = .ok (.invokestatic 60, 3) := dw_184 wX2_stateOn_c 0 60 rfl rfl
theorem dX2_stateOn_8 : decode cX2_stateOn 8 = .ok (.ifCond .ne 9, 3) := dw_154 wX2_stateOn_c 0 9 rfl rfl rfl
theorem dX2_stateOn_11 : decode cX2_stateOn 11 = .ok (.aload_n 0, 1) := dw_42 wX2_stateOn_c rfl
theorem dX2_stateOn_12 : decode cX2_stateOn 12 = .ok (.iload_n 2, 1) := dw_28 wX2_stateOn_c rfl
theorem dX2_stateOn_13 : decode cX2_stateOn 13 = .ok (.invokevirtual 64, 3) := dw_182 wX2_stateOn_c 0 64 rfl rfl
theorem dX2_stateOn_16 : decode cX2_stateOn 16 = .ok (.ireturn, 1) := dw_172 wX2_stateOn_c rfl
theorem dX2_stateOn_17 : decode cX2_stateOn 17 = .ok (.aload_n 0, 1) := dw_42 wX2_stateOn_c rfl
theorem dX2_stateOn_18 : decode cX2_stateOn 18 = .ok (.getfield 31, 3) := dw_180 wX2_stateOn_c 0 31 rfl rfl
theorem dX2_stateOn_21 : decode cX2_stateOn 21 = .ok (.iload_n 2, 1) := dw_28 wX2_stateOn_c rfl
theorem dX2_stateOn_22 : decode cX2_stateOn 22 = .ok (.invokestatic 60, 3) := dw_184 wX2_stateOn_c 0 60 rfl rfl
theorem dX2_stateOn_25 : decode cX2_stateOn 25 = .ok (.ifCond .eq 6, 3) := dw_153 wX2_stateOn_c 0 6 rfl rfl rfl
theorem dX2_stateOn_28 : decode cX2_stateOn 28 = .ok (.bipush 8, 2) := dw_16 wX2_stateOn_c 8 rfl rfl rfl
theorem dX2_stateOn_30 : decode cX2_stateOn 30 = .ok (.ireturn, 1) := dw_172 wX2_stateOn_c rfl
theorem dX2_stateOn_31 : decode cX2_stateOn 31 = .ok (.aload_n 0, 1) := dw_42 wX2_stateOn_c rfl
theorem dX2_stateOn_32 : decode cX2_stateOn 32 = .ok (.aload_n 1, 1) := dw_43 wX2_stateOn_c rfl
theorem dX2_stateOn_33 : decode cX2_stateOn 33 = .ok (.iload_n 2, 1) := dw_28 wX2_stateOn_c rfl
theorem dX2_stateOn_34 : decode cX2_stateOn 34 = .ok (.iload_n 3, 1) := dw_29 wX2_stateOn_c rfl
theorem dX2_stateOn_35 : decode cX2_stateOn 35 = .ok (.invokevirtual 56, 3) := dw_182 wX2_stateOn_c 0 56 rfl rfl
theorem dX2_stateOn_38 : decode cX2_stateOn 38 = .ok (.ifCond .ne 6, 3) := dw_154 wX2_stateOn_c 0 6 rfl rfl rfl
theorem dX2_stateOn_41 : decode cX2_stateOn 41 = .ok (.bipush 7, 2) := dw_16 wX2_stateOn_c 7 rfl rfl rfl
theorem dX2_stateOn_43 : decode cX2_stateOn 43 = .ok (.ireturn, 1) := dw_172 wX2_stateOn_c rfl
theorem dX2_stateOn_44 : decode cX2_stateOn 44 = .ok (.aload_n 0, 1) := dw_42 wX2_stateOn_c rfl
theorem dX2_stateOn_45 : decode cX2_stateOn 45 = .ok (.aload_n 1, 1) := dw_43 wX2_stateOn_c rfl
theorem dX2_stateOn_46 : decode cX2_stateOn 46 = .ok (.iload_n 2, 1) := dw_28 wX2_stateOn_c rfl
theorem dX2_stateOn_47 : decode cX2_stateOn 47 = .ok (.iload_n 3, 1) := dw_29 wX2_stateOn_c rfl
theorem dX2_stateOn_48 : decode cX2_stateOn 48 = .ok (.invokevirtual 68, 3) := dw_182 wX2_stateOn_c 0 68 rfl rfl
theorem dX2_stateOn_51 : decode cX2_stateOn 51 = .ok (.istore 4, 2) := dw_54 wX2_stateOn_c 4 rfl
theorem dX2_stateOn_53 : decode cX2_stateOn 53 = .ok (.iload 4, 2) := dw_21 wX2_stateOn_c 4 rfl
theorem dX2_stateOn_55 : decode cX2_stateOn 55 = .ok (.aload_n 0, 1) := dw_42 wX2_stateOn_c rfl
theorem dX2_stateOn_56 : decode cX2_stateOn 56 = .ok (.getfield 44, 3) := dw_180 wX2_stateOn_c 0 44 rfl rfl
theorem dX2_stateOn_59 : decode cX2_stateOn 59 = .ok (.getfield 51, 3) := dw_180 wX2_stateOn_c 0 51 rfl rfl
theorem dX2_stateOn_62 : decode cX2_stateOn 62 = .ok (.iconst 5, 1) := dw_8 wX2_stateOn_c rfl
theorem dX2_stateOn_63 : decode cX2_stateOn 63 = .ok (.iaload, 1) := dw_46 wX2_stateOn_c rfl
theorem dX2_stateOn_64 : decode cX2_stateOn 64 = .ok (.if_icmp .ge 5, 3) := dw_162 wX2_stateOn_c 0 5 rfl rfl rfl
theorem dX2_stateOn_67 : decode cX2_stateOn 67 = .ok (.iconst 4, 1) := dw_7 wX2_stateOn_c rfl
theorem dX2_stateOn_68 : decode cX2_stateOn 68 = .ok (.ireturn, 1) := dw_172 wX2_stateOn_c rfl
theorem dX2_stateOn_69 : decode cX2_stateOn 69 = .ok (.iload 4, 2) := dw_21 wX2_stateOn_c 4 rfl
theorem dX2_stateOn_71 : decode cX2_stateOn 71 = .ok (.aload_n 0, 1) := dw_42 wX2_stateOn_c rfl
theorem dX2_stateOn_72 : decode cX2_stateOn 72 = .ok (.getfield 44, 3) := dw_180 wX2_stateOn_c 0 44 rfl rfl
theorem dX2_stateOn_75 : decode cX2_stateOn 75 = .ok (.getfield 51, 3) := dw_180 wX2_stateOn_c 0 51 rfl rfl
theorem dX2_stateOn_78 : decode cX2_stateOn 78 = .ok (.iconst 5, 1) := dw_8 wX2_stateOn_c rfl
theorem dX2_stateOn_79 : decode cX2_stateOn 79 = .ok (.iaload, 1) := dw_46 wX2_stateOn_c rfl
theorem dX2_stateOn_80 : decode cX2_stateOn 80 = .ok (.aload_n 0, 1) := dw_42 wX2_stateOn_c rfl
theorem dX2_stateOn_81 : decode cX2_stateOn 81 = .ok (.getfield 44, 3) := dw_180 wX2_stateOn_c 0 44 rfl rfl
theorem dX2_stateOn_84 : decode cX2_stateOn 84 = .ok (.getfield 51, 3) := dw_180 wX2_stateOn_c 0 51 rfl rfl
theorem dX2_stateOn_87 : decode cX2_stateOn 87 = .ok (.bipush 6, 2) := dw_16 wX2_stateOn_c 6 rfl rfl rfl
theorem dX2_stateOn_89 : decode cX2_stateOn 89 = .ok (.iaload, 1) := dw_46 wX2_stateOn_c rfl
theorem dX2_stateOn_90 : decode cX2_stateOn 90 = .ok (.iadd, 1) := dw_96 wX2_stateOn_c rfl
theorem dX2_stateOn_91 : decode cX2_stateOn 91 = .ok (.if_icmp .ge 7, 3) := dw_162 wX2_stateOn_c 0 7 rfl rfl rfl
theorem dX2_stateOn_94 : decode cX2_stateOn 94 = .ok (.iconst 5, 1) := dw_8 wX2_stateOn_c rfl
theorem dX2_stateOn_95 : decode cX2_stateOn 95 = .ok (.goto 5, 3) := dw_167 wX2_stateOn_c 0 5 rfl rfl rfl
theorem dX2_stateOn_98 : decode cX2_stateOn 98 = .ok (.bipush 6, 2) := dw_16 wX2_stateOn_c 6 rfl rfl rfl
theorem dX2_stateOn_100 : decode cX2_stateOn 100 = .ok (.ireturn, 1) := dw_172 wX2_stateOn_c rfl
end
section
def wNX5_keepIfBetter : Nat := 117239316219950551908478467812043532344694777629211431134890502725711346500775603017250999123332910971780636623929085089032731
theorem wX5_keepIfBetter_c : hz_cd cX5_keepIfBetter wNX5_keepIfBetter 52 := ⟨by decide +kernel, by decide +kernel⟩
theorem dX5_keepIfBetter_0 : decode cX5_keepIfBetter 0 = .ok (.iload_n 1, 1) := dw_27 wX5_keepIfBetter_c rfl
theorem dX5_keepIfBetter_1 : decode cX5_keepIfBetter 1 = .ok (.aload_n 0, 1) := dw_42 wX5_keepIfBetter_c rfl
theorem dX5_keepIfBetter_2 : decode cX5_keepIfBetter 2 = .ok (.getfield 68, 3) := dw_180 wX5_keepIfBetter_c 0 68 rfl rfl
theorem dX5_keepIfBetter_5 : decode cX5_keepIfBetter 5 = .ok (.if_icmp .lt 19, 3) := dw_161 wX5_keepIfBetter_c 0 19 rfl rfl rfl
theorem dX5_keepIfBetter_8 : decode cX5_keepIfBetter 8 = .ok (.iload_n 1, 1) := dw_27 wX5_keepIfBetter_c rfl
theorem dX5_keepIfBetter_9 : decode cX5_keepIfBetter 9 = .ok (.aload_n 0, 1) := dw_42 wX5_keepIfBetter_c rfl
theorem dX5_keepIfBetter_10 : decode cX5_keepIfBetter 10 = .ok (.getfield 68, 3) := dw_180 wX5_keepIfBetter_c 0 68 rfl rfl
theorem dX5_keepIfBetter_13 : decode cX5_keepIfBetter 13 = .ok (.if_icmp .ne 38, 3) := dw_160 wX5_keepIfBetter_c 0 38 rfl rfl rfl
theorem dX5_keepIfBetter_16 : decode cX5_keepIfBetter 16 = .ok (.iload_n 2, 1) := dw_28 wX5_keepIfBetter_c rfl
theorem dX5_keepIfBetter_17 : decode cX5_keepIfBetter 17 = .ok (.aload_n 0, 1) := dw_42 wX5_keepIfBetter_c rfl
theorem dX5_keepIfBetter_18 : decode cX5_keepIfBetter 18 = .ok (.getfield 71, 3) := dw_180 wX5_keepIfBetter_c 0 71 rfl rfl
theorem dX5_keepIfBetter_21 : decode cX5_keepIfBetter 21 = .ok (.if_icmp .ge 30, 3) := dw_162 wX5_keepIfBetter_c 0 30 rfl rfl rfl
theorem dX5_keepIfBetter_24 : decode cX5_keepIfBetter 24 = .ok (.aload_n 0, 1) := dw_42 wX5_keepIfBetter_c rfl
theorem dX5_keepIfBetter_25 : decode cX5_keepIfBetter 25 = .ok (.iload_n 1, 1) := dw_27 wX5_keepIfBetter_c rfl
theorem dX5_keepIfBetter_26 : decode cX5_keepIfBetter 26 = .ok (.putfield 68, 3) := dw_181 wX5_keepIfBetter_c 0 68 rfl rfl
theorem dX5_keepIfBetter_29 : decode cX5_keepIfBetter 29 = .ok (.aload_n 0, 1) := dw_42 wX5_keepIfBetter_c rfl
theorem dX5_keepIfBetter_30 : decode cX5_keepIfBetter 30 = .ok (.iload_n 2, 1) := dw_28 wX5_keepIfBetter_c rfl
theorem dX5_keepIfBetter_31 : decode cX5_keepIfBetter 31 = .ok (.putfield 71, 3) := dw_181 wX5_keepIfBetter_c 0 71 rfl rfl
theorem dX5_keepIfBetter_34 : decode cX5_keepIfBetter 34 = .ok (.aload_n 0, 1) := dw_42 wX5_keepIfBetter_c rfl
theorem dX5_keepIfBetter_35 : decode cX5_keepIfBetter 35 = .ok (.getfield 30, 3) := dw_180 wX5_keepIfBetter_c 0 30 rfl rfl
theorem dX5_keepIfBetter_38 : decode cX5_keepIfBetter 38 = .ok (.iconst 0, 1) := dw_3 wX5_keepIfBetter_c rfl
theorem dX5_keepIfBetter_39 : decode cX5_keepIfBetter 39 = .ok (.aload_n 0, 1) := dw_42 wX5_keepIfBetter_c rfl
theorem dX5_keepIfBetter_40 : decode cX5_keepIfBetter 40 = .ok (.getfield 15, 3) := dw_180 wX5_keepIfBetter_c 0 15 rfl rfl
theorem dX5_keepIfBetter_43 : decode cX5_keepIfBetter 43 = .ok (.iconst 0, 1) := dw_3 wX5_keepIfBetter_c rfl
theorem dX5_keepIfBetter_44 : decode cX5_keepIfBetter 44 = .ok (.aload_n 0, 1) := dw_42 wX5_keepIfBetter_c rfl
theorem dX5_keepIfBetter_45 : decode cX5_keepIfBetter 45 = .ok (.getfield 33, 3) := dw_180 wX5_keepIfBetter_c 0 33 rfl rfl
theorem dX5_keepIfBetter_48 : decode cX5_keepIfBetter 48 = .ok (.invokestatic 90, 3) := dw_184 wX5_keepIfBetter_c 0 90 rfl rfl
theorem dX5_keepIfBetter_51 : decode cX5_keepIfBetter 51 = .ok (.return_, 1) := dw_177 wX5_keepIfBetter_c rfl
set_option maxHeartbeats 4000000 in
set_option maxRecDepth 100000 in
theorem t_X5_keepIfBetter (l : Launch) (dC : Nat → ClassId) (dI : Nat → Nat → Nat) (dA : Nat → ClassId) (L : List Nat) (h : hx_h) (sz : Nat) (x : Nat) (i1 : Int32) (i2 : Int32) (hT : hx_T T_tb L h) (gx : hx_g L h x 5)  : Met l yX5_keepIfBetter (Cond.code yX5_keepIfBetter cX5_keepIfBetter 3 none :: hx_all) ({ frames := 1, cells := 0, slots := 0, locals := 40 }) (va_Pc [.ref x, .int i1, .int i2] (hx_B T_tb (P_ty dA) (dC, dI) vwCl L h sz)) (va_Qv (fun (u : List Nat × hx_h) => hx_T T_tb u.1 u.2 ∧ hx_S T_tb [(5, 11), (5, 12), (28, 0)] L h u.1 u.2) (hx_E T_tb (P_ty dA) (dC, dI) vwCl (hx_A L sz)) (hx_A L sz)) 0 0 (hx_A L sz) := by
  refine hx_met (lv := [(0, .ref x), (1, .int i1), (2, .int i2)]) (by decide +kernel) rfl (Nat.le_of_ble_eq_true rfl) rfl ?_
  intro p e s m below meth c hx hb hml hr hlk hts0 hown hin hsz hW ls hl
  have hts : ∀ w ∈ hx_all, w.before _ s = true := fun w hw => hts0 w (List.mem_cons_of_mem _ hw)
  have hown : s.vm.findClass "SmallCourt$Plan" = some m.cls := hown
  have hM : hx_S T_tb [(5, 11), (5, 12), (28, 0)] L h L h := hx_S.rf
  refine lv_iload_n hx hb dX5_keepIfBetter_0 rfl (lv_at hl 1 rfl) ?_
  refine lv_aload_n hx hb dX5_keepIfBetter_1 rfl (lv_at hl 0 rfl) ?_
  refine hx_geti hx hb hts hC_5 hown hW hT gx tt_5 11 ?o0 rfl kw_274 ⟨rfl, rfl, rfl⟩ dX5_keepIfBetter_2 (fun x_1 ex_1 lx_1 ux_1 => ?_)
  case o0 => decide
  have fx_1 := ex_1.symm
  refine hb_icmp_lt (zx := i1.toInt) (zy := x_1.toInt) (tgt := 24) hx hb rfl rfl dX5_keepIfBetter_5 ?o1 (fun c_2 => ?_) (fun c_2 => ?_)
  case o1 => decide
  · skip
    refine lv_aload_n hx hb dX5_keepIfBetter_24 rfl (lv_at hl 0 rfl) ?_
    refine lv_iload_n hx hb dX5_keepIfBetter_25 rfl (lv_at hl 1 rfl) ?_
    refine hx_puti hx hb hts hC_5 hown hW hT (hx_S.rf (M := [(5, 11)])) gx tt_5 11 ?o2 rfl kw_274 ⟨rfl, rfl, rfl⟩ rfl (x := i1) (i32_r _) rfl rfl rfl (List.mem_singleton.mpr rfl) dX5_keepIfBetter_26 (fun H locs h_3 eh_3 hW hT hs => ?_)
    case o2 => decide
    replace hM := hM.tr (hs.mono ?o3)
    case o3 => decide
    replace gx := gx.S hs
    have f_4 : h_3.2.1 x 11 = i1 := ?o4
    case o4 =>
      rw [eh_3]
      exact hx_pi_at _ _ _ _
    refine lv_aload_n hx hb dX5_keepIfBetter_29 rfl (lv_at hl 0 rfl) ?_
    refine lv_iload_n hx hb dX5_keepIfBetter_30 rfl (lv_at hl 2 rfl) ?_
    refine hx_puti hx hb hts hC_5 hown hW hT (hx_S.rf (M := [(5, 12)])) gx tt_5 12 ?o5 rfl kw_275 ⟨rfl, rfl, rfl⟩ rfl (x := i2) (i32_r _) rfl rfl rfl (List.mem_singleton.mpr rfl) dX5_keepIfBetter_31 (fun H locs h_5 eh_5 hW hT hs => ?_)
    case o5 => decide
    replace f_4 := (hs.o gx trivial rfl).1.trans f_4
    replace hM := hM.tr (hs.mono ?o6)
    case o6 => decide
    replace gx := gx.S hs
    have f_6 : h_5.2.1 x 12 = i2 := ?o7
    case o7 =>
      rw [eh_5]
      exact hx_pi_at _ _ _ _
    refine lv_aload_n hx hb dX5_keepIfBetter_34 rfl (lv_at hl 0 rfl) ?_
    refine hx_getn hx hb hts hC_5 hown hW hT gx tt_5 8 ?o8 rfl kw_271 ⟨rfl, rfl, rfl⟩ dX5_keepIfBetter_35 (fun q_7 fq_7 gq_7 => ?_)
    case o8 => decide
    refine lv_iconst (v := 0) hx hb dX5_keepIfBetter_38 ?o9 ?_
    case o9 => decide
    refine lv_aload_n hx hb dX5_keepIfBetter_39 rfl (lv_at hl 0 rfl) ?_
    refine hx_getn hx hb hts hC_5 hown hW hT gx tt_5 3 ?o10 rfl kw_264 ⟨rfl, rfl, rfl⟩ dX5_keepIfBetter_40 (fun q_8 fq_8 gq_8 => ?_)
    case o10 => decide
    refine lv_iconst (v := 0) hx hb dX5_keepIfBetter_43 ?o11 ?_
    case o11 => decide
    refine lv_aload_n hx hb dX5_keepIfBetter_44 rfl (lv_at hl 0 rfl) ?_
    refine hx_geti hx hb hts hC_5 hown hW hT gx tt_5 0 ?o12 rfl kw_258 ⟨rfl, rfl, rfl⟩ dX5_keepIfBetter_45 (fun x_9 ex_9 lx_9 ux_9 => ?_)
    case o12 => decide
    have fx_9 := ex_9.symm
    refine hx_copyi hx hb (hml.trans hl.1.symm) hown (hts _ kw_974) (hts _ kw_158) (hts _ kw_157) (hts _ kw_97) hW hT gq_7 gq_8 tt_33 tt_28 rfl ?o13 rfl rfl ?o14 ?o15 ?o16 (Nat.le_of_ble_eq_true rfl) (Nat.le_of_ble_eq_true rfl) dX5_keepIfBetter_48 (fun H locs h_10 hW hT hs => ?_)
    case o13 => decide
    case o14 => omega
    case o15 => omega
    case o16 => omega
    replace f_4 := (hs.o gx trivial rfl).1.trans f_4
    replace f_6 := (hs.o gx trivial rfl).1.trans f_6
    replace fq_7 := (hs.o gx trivial rfl).2.trans fq_7
    replace fq_8 := (hs.o gx trivial rfl).2.trans fq_8
    replace fx_9 := (hs.o gx trivial rfl).1.trans fx_9
    replace hM := hM.tr (hs.mono ?o17)
    case o17 => decide
    replace gx := gx.S hs
    replace gq_7 := gq_7.S hs
    replace gq_8 := gq_8.S hs
    exact hx_retv hx hb hr hlk hW ⟨hT, hM⟩ dX5_keepIfBetter_51
  · skip
    refine lv_iload_n hx hb dX5_keepIfBetter_8 rfl (lv_at hl 1 rfl) ?_
    refine lv_aload_n hx hb dX5_keepIfBetter_9 rfl (lv_at hl 0 rfl) ?_
    refine hk_geti hx hb hts hC_5 hown hW gx tt_5 11 ?o18 rfl kw_274 ⟨rfl, rfl, rfl⟩ fx_1 dX5_keepIfBetter_10 ?_
    case o18 => decide
    refine hb_icmp_ne (zx := i1.toInt) (zy := x_1.toInt) (tgt := 51) hx hb rfl rfl dX5_keepIfBetter_13 ?o19 (fun c_11 => ?_) (fun c_11 => ?_)
    case o19 => decide
    · skip
      exact hx_retv hx hb hr hlk hW ⟨hT, hM⟩ dX5_keepIfBetter_51
    · skip
      refine lv_iload_n hx hb dX5_keepIfBetter_16 rfl (lv_at hl 2 rfl) ?_
      refine lv_aload_n hx hb dX5_keepIfBetter_17 rfl (lv_at hl 0 rfl) ?_
      refine hx_geti hx hb hts hC_5 hown hW hT gx tt_5 12 ?o20 rfl kw_275 ⟨rfl, rfl, rfl⟩ dX5_keepIfBetter_18 (fun x_12 ex_12 lx_12 ux_12 => ?_)
      case o20 => decide
      have fx_12 := ex_12.symm
      refine hb_icmp_ge (zx := i2.toInt) (zy := x_12.toInt) (tgt := 51) hx hb rfl rfl dX5_keepIfBetter_21 ?o21 (fun c_13 => ?_) (fun c_13 => ?_)
      case o21 => decide
      · skip
        exact hx_retv hx hb hr hlk hW ⟨hT, hM⟩ dX5_keepIfBetter_51
      · skip
        refine lv_aload_n hx hb dX5_keepIfBetter_24 rfl (lv_at hl 0 rfl) ?_
        refine lv_iload_n hx hb dX5_keepIfBetter_25 rfl (lv_at hl 1 rfl) ?_
        refine hx_puti hx hb hts hC_5 hown hW hT (hx_S.rf (M := [(5, 11)])) gx tt_5 11 ?o22 rfl kw_274 ⟨rfl, rfl, rfl⟩ rfl (x := i1) (i32_r _) rfl rfl rfl (List.mem_singleton.mpr rfl) dX5_keepIfBetter_26 (fun H locs h_14 eh_14 hW hT hs => ?_)
        case o22 => decide
        replace fx_12 := (hs.o gx trivial rfl).1.trans fx_12
        replace hM := hM.tr (hs.mono ?o23)
        case o23 => decide
        replace gx := gx.S hs
        have f_15 : h_14.2.1 x 11 = i1 := ?o24
        case o24 =>
          rw [eh_14]
          exact hx_pi_at _ _ _ _
        refine lv_aload_n hx hb dX5_keepIfBetter_29 rfl (lv_at hl 0 rfl) ?_
        refine lv_iload_n hx hb dX5_keepIfBetter_30 rfl (lv_at hl 2 rfl) ?_
        refine hx_puti hx hb hts hC_5 hown hW hT (hx_S.rf (M := [(5, 12)])) gx tt_5 12 ?o25 rfl kw_275 ⟨rfl, rfl, rfl⟩ rfl (x := i2) (i32_r _) rfl rfl rfl (List.mem_singleton.mpr rfl) dX5_keepIfBetter_31 (fun H locs h_16 eh_16 hW hT hs => ?_)
        case o25 => decide
        replace f_15 := (hs.o gx trivial rfl).1.trans f_15
        replace hM := hM.tr (hs.mono ?o26)
        case o26 => decide
        replace gx := gx.S hs
        have f_17 : h_16.2.1 x 12 = i2 := ?o27
        case o27 =>
          rw [eh_16]
          exact hx_pi_at _ _ _ _
        refine lv_aload_n hx hb dX5_keepIfBetter_34 rfl (lv_at hl 0 rfl) ?_
        refine hx_getn hx hb hts hC_5 hown hW hT gx tt_5 8 ?o28 rfl kw_271 ⟨rfl, rfl, rfl⟩ dX5_keepIfBetter_35 (fun q_18 fq_18 gq_18 => ?_)
        case o28 => decide
        refine lv_iconst (v := 0) hx hb dX5_keepIfBetter_38 ?o29 ?_
        case o29 => decide
        refine lv_aload_n hx hb dX5_keepIfBetter_39 rfl (lv_at hl 0 rfl) ?_
        refine hx_getn hx hb hts hC_5 hown hW hT gx tt_5 3 ?o30 rfl kw_264 ⟨rfl, rfl, rfl⟩ dX5_keepIfBetter_40 (fun q_19 fq_19 gq_19 => ?_)
        case o30 => decide
        refine lv_iconst (v := 0) hx hb dX5_keepIfBetter_43 ?o31 ?_
        case o31 => decide
        refine lv_aload_n hx hb dX5_keepIfBetter_44 rfl (lv_at hl 0 rfl) ?_
        refine hx_geti hx hb hts hC_5 hown hW hT gx tt_5 0 ?o32 rfl kw_258 ⟨rfl, rfl, rfl⟩ dX5_keepIfBetter_45 (fun x_20 ex_20 lx_20 ux_20 => ?_)
        case o32 => decide
        have fx_20 := ex_20.symm
        refine hx_copyi hx hb (hml.trans hl.1.symm) hown (hts _ kw_974) (hts _ kw_158) (hts _ kw_157) (hts _ kw_97) hW hT gq_18 gq_19 tt_33 tt_28 rfl ?o33 rfl rfl ?o34 ?o35 ?o36 (Nat.le_of_ble_eq_true rfl) (Nat.le_of_ble_eq_true rfl) dX5_keepIfBetter_48 (fun H locs h_21 hW hT hs => ?_)
        case o33 => decide
        case o34 => omega
        case o35 => omega
        case o36 => omega
        replace f_15 := (hs.o gx trivial rfl).1.trans f_15
        replace f_17 := (hs.o gx trivial rfl).1.trans f_17
        replace fq_18 := (hs.o gx trivial rfl).2.trans fq_18
        replace fq_19 := (hs.o gx trivial rfl).2.trans fq_19
        replace fx_20 := (hs.o gx trivial rfl).1.trans fx_20
        replace hM := hM.tr (hs.mono ?o37)
        case o37 => decide
        replace gx := gx.S hs
        replace gq_18 := gq_18.S hs
        replace gq_19 := gq_19.S hs
        exact hx_retv hx hb hr hlk hW ⟨hT, hM⟩ dX5_keepIfBetter_51

def wNX7_keepIfBetter : Nat := 6982620803910223535612507217504365012886689100046156138273543448994942177812795467254055765558612808801253892419758620
theorem wX7_keepIfBetter_c : hz_cd cX7_keepIfBetter wNX7_keepIfBetter 49 := ⟨by decide +kernel, by decide +kernel⟩
theorem dX7_keepIfBetter_0 : decode cX7_keepIfBetter 0 = .ok (.iload_n 2, 1) := dw_28 wX7_keepIfBetter_c rfl
theorem dX7_keepIfBetter_1 : decode cX7_keepIfBetter 1 = .ok (.aload_n 0, 1) := dw_42 wX7_keepIfBetter_c rfl
theorem dX7_keepIfBetter_2 : decode cX7_keepIfBetter 2 = .ok (.getfield 34, 3) := dw_180 wX7_keepIfBetter_c 0 34 rfl rfl
theorem dX7_keepIfBetter_5 : decode cX7_keepIfBetter 5 = .ok (.if_icmp .gt 19, 3) := dw_163 wX7_keepIfBetter_c 0 19 rfl rfl rfl
theorem dX7_keepIfBetter_8 : decode cX7_keepIfBetter 8 = .ok (.iload_n 2, 1) := dw_28 wX7_keepIfBetter_c rfl
theorem dX7_keepIfBetter_9 : decode cX7_keepIfBetter 9 = .ok (.aload_n 0, 1) := dw_42 wX7_keepIfBetter_c rfl
theorem dX7_keepIfBetter_10 : decode cX7_keepIfBetter 10 = .ok (.getfield 34, 3) := dw_180 wX7_keepIfBetter_c 0 34 rfl rfl
theorem dX7_keepIfBetter_13 : decode cX7_keepIfBetter 13 = .ok (.if_icmp .ne 35, 3) := dw_160 wX7_keepIfBetter_c 0 35 rfl rfl rfl
theorem dX7_keepIfBetter_16 : decode cX7_keepIfBetter 16 = .ok (.iload_n 1, 1) := dw_27 wX7_keepIfBetter_c rfl
theorem dX7_keepIfBetter_17 : decode cX7_keepIfBetter 17 = .ok (.aload_n 0, 1) := dw_42 wX7_keepIfBetter_c rfl
theorem dX7_keepIfBetter_18 : decode cX7_keepIfBetter 18 = .ok (.getfield 31, 3) := dw_180 wX7_keepIfBetter_c 0 31 rfl rfl
theorem dX7_keepIfBetter_21 : decode cX7_keepIfBetter 21 = .ok (.if_icmp .ge 27, 3) := dw_162 wX7_keepIfBetter_c 0 27 rfl rfl rfl
theorem dX7_keepIfBetter_24 : decode cX7_keepIfBetter 24 = .ok (.aload_n 0, 1) := dw_42 wX7_keepIfBetter_c rfl
theorem dX7_keepIfBetter_25 : decode cX7_keepIfBetter 25 = .ok (.iload_n 2, 1) := dw_28 wX7_keepIfBetter_c rfl
theorem dX7_keepIfBetter_26 : decode cX7_keepIfBetter 26 = .ok (.putfield 34, 3) := dw_181 wX7_keepIfBetter_c 0 34 rfl rfl
theorem dX7_keepIfBetter_29 : decode cX7_keepIfBetter 29 = .ok (.aload_n 0, 1) := dw_42 wX7_keepIfBetter_c rfl
theorem dX7_keepIfBetter_30 : decode cX7_keepIfBetter 30 = .ok (.iload_n 1, 1) := dw_27 wX7_keepIfBetter_c rfl
theorem dX7_keepIfBetter_31 : decode cX7_keepIfBetter 31 = .ok (.putfield 31, 3) := dw_181 wX7_keepIfBetter_c 0 31 rfl rfl
theorem dX7_keepIfBetter_34 : decode cX7_keepIfBetter 34 = .ok (.aload_n 0, 1) := dw_42 wX7_keepIfBetter_c rfl
theorem dX7_keepIfBetter_35 : decode cX7_keepIfBetter 35 = .ok (.getfield 22, 3) := dw_180 wX7_keepIfBetter_c 0 22 rfl rfl
theorem dX7_keepIfBetter_38 : decode cX7_keepIfBetter 38 = .ok (.iconst 0, 1) := dw_3 wX7_keepIfBetter_c rfl
theorem dX7_keepIfBetter_39 : decode cX7_keepIfBetter 39 = .ok (.aload_n 0, 1) := dw_42 wX7_keepIfBetter_c rfl
theorem dX7_keepIfBetter_40 : decode cX7_keepIfBetter 40 = .ok (.getfield 25, 3) := dw_180 wX7_keepIfBetter_c 0 25 rfl rfl
theorem dX7_keepIfBetter_43 : decode cX7_keepIfBetter 43 = .ok (.iconst 0, 1) := dw_3 wX7_keepIfBetter_c rfl
theorem dX7_keepIfBetter_44 : decode cX7_keepIfBetter 44 = .ok (.iload_n 1, 1) := dw_27 wX7_keepIfBetter_c rfl
theorem dX7_keepIfBetter_45 : decode cX7_keepIfBetter 45 = .ok (.invokestatic 55, 3) := dw_184 wX7_keepIfBetter_c 0 55 rfl rfl
theorem dX7_keepIfBetter_48 : decode cX7_keepIfBetter 48 = .ok (.return_, 1) := dw_177 wX7_keepIfBetter_c rfl
def wNX5_tryFrom : Nat := 7435291132404322170928050039131678739300883622456677544842742920598257197282072773534659273831614114114040022316081806361724350769296876554656902493589794078469905921553337178882983909258694963472406872477948666330569207139242955924752436794840623385888103535469916278462830706485269276072327240755739
theorem wX5_tryFrom_c : hz_cd cX5_tryFrom wNX5_tryFrom 125 := ⟨by decide +kernel, by decide +kernel⟩
theorem dX5_tryFrom_0 : decode cX5_tryFrom 0 = .ok (.iload_n 1, 1) := dw_27 wX5_tryFrom_c rfl
theorem dX5_tryFrom_1 : decode cX5_tryFrom 1 = .ok (.aload_n 0, 1) := dw_42 wX5_tryFrom_c rfl
theorem dX5_tryFrom_2 : decode cX5_tryFrom 2 = .ok (.getfield 33, 3) := dw_180 wX5_tryFrom_c 0 33 rfl rfl
theorem dX5_tryFrom_5 : decode cX5_tryFrom 5 = .ok (.if_icmp .lt 11, 3) := dw_161 wX5_tryFrom_c 0 11 rfl rfl rfl
theorem dX5_tryFrom_8 : decode cX5_tryFrom 8 = .ok (.aload_n 0, 1) := dw_42 wX5_tryFrom_c rfl
theorem dX5_tryFrom_9 : decode cX5_tryFrom 9 = .ok (.iload_n 3, 1) := dw_29 wX5_tryFrom_c rfl
theorem dX5_tryFrom_10 : decode cX5_tryFrom 10 = .ok (.iload 4, 2) := dw_21 wX5_tryFrom_c 4 rfl
theorem dX5_tryFrom_12 : decode cX5_tryFrom 12 = .ok (.invokevirtual 83, 3) := dw_182 wX5_tryFrom_c 0 83 rfl rfl
theorem dX5_tryFrom_15 : decode cX5_tryFrom 15 = .ok (.return_, 1) := dw_177 wX5_tryFrom_c rfl
set_option maxHeartbeats 4000000 in
set_option maxRecDepth 100000 in
theorem t_X5_tryFrom_4 (l : Launch) (dC : Nat → ClassId) (dI : Nat → Nat → Nat) (dA : Nat → ClassId) (L : List Nat) (h : hx_h) (sz : Nat) (b0 : hx_z) (x : Nat) (i2 : Int32) (i3 : Int32) (i4 : Int32) (hT : hx_T T_tb L h) (gx : hx_g L h x 5)  : Met l yX5_tryFrom (Cond.code yX5_tryFrom cX5_tryFrom 9 none :: hx_all) ({ frames := 2, cells := 0, slots := 0, locals := 62 }) (va_Pc [.ref x, .int (4 : Int32), .int i2, .int i3, .int i4] (hx_BX T_tb (P_ty dA) (dC, dI) vwCl L h sz b0)) (va_Qv (fun (u : List Nat × hx_h) => hx_T T_tb u.1 u.2 ∧ hx_S T_tb [(5, 11), (5, 12), (28, 0)] L h u.1 u.2) (hx_E T_tb (P_ty dA) (dC, dI) vwCl (hx_A L sz)) (hx_A L sz)) 0 0 (hx_A L sz) := by
  refine hx_metX (lv := [(0, .ref x), (1, .int (4 : Int32)), (2, .int i2), (3, .int i3), (4, .int i4)]) (by decide +kernel) rfl (Nat.le_of_ble_eq_true rfl) rfl ?_
  intro p e s m below meth c hx hb hml hr hlk hts0 hown hin hsz hW hZ ls hl
  have hts : ∀ w ∈ hx_all, w.before _ s = true := fun w hw => hts0 w (List.mem_cons_of_mem _ hw)
  have hown : s.vm.findClass "SmallCourt$Plan" = some m.cls := hown
  have hM : hx_S T_tb [(5, 11), (5, 12), (28, 0)] L h L h := hx_S.rf
  refine lv_iload_n hx hb dX5_tryFrom_0 rfl (lv_at hl 1 rfl) ?_
  refine lv_aload_n hx hb dX5_tryFrom_1 rfl (lv_at hl 0 rfl) ?_
  refine hx_geti hx hb hts hC_5 hown hW hT gx tt_5 0 ?o0 rfl kw_258 ⟨rfl, rfl, rfl⟩ dX5_tryFrom_2 (fun x_1 ex_1 lx_1 ux_1 => ?_)
  case o0 => decide
  have fx_1 := ex_1.symm
  refine hb_icmp_lt (zx := 4) (zy := x_1.toInt) (tgt := 16) hx hb ?o1 rfl dX5_tryFrom_5 ?o2 (fun c_2 => ?o3) (fun c_2 => ?_)
  case o1 => decide
  case o2 => decide
  case o3 =>
    exfalso
    omega
  refine lv_aload_n hx hb dX5_tryFrom_8 rfl (lv_at hl 0 rfl) ?_
  refine lv_iload_n hx hb dX5_tryFrom_9 rfl (lv_at hl 3 rfl) ?_
  refine lv_iload hx hb dX5_tryFrom_10 (lv_at hl 4 rfl) ?_
  refine hx_gov (hx_runV (As := [.int i3, .int i4]) (rest := []) ⟨hx, hb, hml, hown, hts⟩ hW gx tt_5 (T := TX5) (N := 13) rfl (t_X5_keepIfBetter l dC dI dA L h s.heap.size x i3 i4 hT gx) (cwV 2 hts (hx_gV kw_973 kw_970 kw_972 kw_35 kw_100) rfl rfl rfl (by decide +kernel) ⟨Nat.le_of_ble_eq_true rfl, Nat.le_of_ble_eq_true rfl⟩) rfl hl.1 rfl (Nat.le_of_ble_eq_true rfl) dX5_tryFrom_12 ⟨Nat.le_of_ble_eq_true rfl, Nat.le_of_ble_eq_true rfl⟩) hW (fun L_3 h_4 H locs p_6 hW => ?_)
  obtain ⟨hT, hs⟩ := p_6
  replace hT : hx_T T_tb L_3 h_4 := hT
  replace hs : hx_S T_tb [(5, 11), (5, 12), (28, 0)] L h L_3 h_4 := hs
  replace fx_1 := (hs.o gx trivial rfl).1.trans fx_1
  replace hM := hM.tr (hs.mono ?o4)
  case o4 => decide
  replace gx := gx.S hs
  exact hx_retv hx hb hr hlk hW ⟨hT, hM⟩ dX5_tryFrom_15

theorem dX5_tryFrom_16 : decode cX5_tryFrom 16 = .ok (.aload_n 0, 1) := dw_42 wX5_tryFrom_c rfl
theorem dX5_tryFrom_17 : decode cX5_tryFrom 17 = .ok (.iload_n 1, 1) := dw_27 wX5_tryFrom_c rfl
theorem dX5_tryFrom_18 : decode cX5_tryFrom 18 = .ok (.iconst 1, 1) := dw_4 wX5_tryFrom_c rfl
theorem dX5_tryFrom_19 : decode cX5_tryFrom 19 = .ok (.iadd, 1) := dw_96 wX5_tryFrom_c rfl
theorem dX5_tryFrom_20 : decode cX5_tryFrom 20 = .ok (.invokevirtual 63, 3) := dw_182 wX5_tryFrom_c 0 63 rfl rfl
theorem dX5_tryFrom_23 : decode cX5_tryFrom 23 = .ok (.istore 5, 2) := dw_54 wX5_tryFrom_c 5 rfl
theorem dX5_tryFrom_25 : decode cX5_tryFrom 25 = .ok (.iconst 0, 1) := dw_3 wX5_tryFrom_c rfl
theorem dX5_tryFrom_26 : decode cX5_tryFrom 26 = .ok (.istore 6, 2) := dw_54 wX5_tryFrom_c 6 rfl
theorem dX5_tryFrom_28 : decode cX5_tryFrom 28 = .ok (.iload 6, 2) := dw_21 wX5_tryFrom_c 6 rfl
theorem dX5_tryFrom_30 : decode cX5_tryFrom 30 = .ok (.bipush 12, 2) := dw_16 wX5_tryFrom_c 12 rfl rfl rfl
theorem dX5_tryFrom_32 : decode cX5_tryFrom 32 = .ok (.if_icmp .gt 92, 3) := dw_163 wX5_tryFrom_c 0 92 rfl rfl rfl
theorem dX5_tryFrom_35 : decode cX5_tryFrom 35 = .ok (.aload_n 0, 1) := dw_42 wX5_tryFrom_c rfl
theorem dX5_tryFrom_36 : decode cX5_tryFrom 36 = .ok (.getfield 27, 3) := dw_180 wX5_tryFrom_c 0 27 rfl rfl
theorem dX5_tryFrom_39 : decode cX5_tryFrom 39 = .ok (.iload_n 1, 1) := dw_27 wX5_tryFrom_c rfl
theorem dX5_tryFrom_40 : decode cX5_tryFrom 40 = .ok (.iaload, 1) := dw_46 wX5_tryFrom_c rfl
theorem dX5_tryFrom_41 : decode cX5_tryFrom 41 = .ok (.iload 6, 2) := dw_21 wX5_tryFrom_c 6 rfl
theorem dX5_tryFrom_43 : decode cX5_tryFrom 43 = .ok (.aload_n 0, 1) := dw_42 wX5_tryFrom_c rfl
theorem dX5_tryFrom_44 : decode cX5_tryFrom 44 = .ok (.getfield 37, 3) := dw_180 wX5_tryFrom_c 0 37 rfl rfl
theorem dX5_tryFrom_47 : decode cX5_tryFrom 47 = .ok (.imul, 1) := dw_104 wX5_tryFrom_c rfl
theorem dX5_tryFrom_48 : decode cX5_tryFrom 48 = .ok (.iadd, 1) := dw_96 wX5_tryFrom_c rfl
theorem dX5_tryFrom_49 : decode cX5_tryFrom 49 = .ok (.istore 7, 2) := dw_54 wX5_tryFrom_c 7 rfl
theorem dX5_tryFrom_51 : decode cX5_tryFrom 51 = .ok (.iload_n 2, 1) := dw_28 wX5_tryFrom_c rfl
theorem dX5_tryFrom_52 : decode cX5_tryFrom 52 = .ok (.iload 7, 2) := dw_21 wX5_tryFrom_c 7 rfl
theorem dX5_tryFrom_54 : decode cX5_tryFrom 54 = .ok (.iadd, 1) := dw_96 wX5_tryFrom_c rfl
theorem dX5_tryFrom_55 : decode cX5_tryFrom 55 = .ok (.iload 5, 2) := dw_21 wX5_tryFrom_c 5 rfl
theorem dX5_tryFrom_57 : decode cX5_tryFrom 57 = .ok (.iadd, 1) := dw_96 wX5_tryFrom_c rfl
theorem dX5_tryFrom_58 : decode cX5_tryFrom 58 = .ok (.aload_n 0, 1) := dw_42 wX5_tryFrom_c rfl
theorem dX5_tryFrom_59 : decode cX5_tryFrom 59 = .ok (.getfield 40, 3) := dw_180 wX5_tryFrom_c 0 40 rfl rfl
theorem dX5_tryFrom_62 : decode cX5_tryFrom 62 = .ok (.if_icmp .le 4, 3) := dw_164 wX5_tryFrom_c 0 4 rfl rfl rfl
theorem dX5_tryFrom_65 : decode cX5_tryFrom 65 = .ok (.return_, 1) := dw_177 wX5_tryFrom_c rfl
theorem dX5_tryFrom_66 : decode cX5_tryFrom 66 = .ok (.aload_n 0, 1) := dw_42 wX5_tryFrom_c rfl
theorem dX5_tryFrom_67 : decode cX5_tryFrom 67 = .ok (.getfield 24, 3) := dw_180 wX5_tryFrom_c 0 24 rfl rfl
theorem dX5_tryFrom_70 : decode cX5_tryFrom 70 = .ok (.iload_n 1, 1) := dw_27 wX5_tryFrom_c rfl
theorem dX5_tryFrom_71 : decode cX5_tryFrom 71 = .ok (.iaload, 1) := dw_46 wX5_tryFrom_c rfl
theorem dX5_tryFrom_72 : decode cX5_tryFrom 72 = .ok (.iload 7, 2) := dw_21 wX5_tryFrom_c 7 rfl
theorem dX5_tryFrom_74 : decode cX5_tryFrom 74 = .ok (.invokestatic 78, 3) := dw_184 wX5_tryFrom_c 0 78 rfl rfl
theorem dX5_tryFrom_77 : decode cX5_tryFrom 77 = .ok (.istore 8, 2) := dw_54 wX5_tryFrom_c 8 rfl
theorem dX5_tryFrom_79 : decode cX5_tryFrom 79 = .ok (.aload_n 0, 1) := dw_42 wX5_tryFrom_c rfl
theorem dX5_tryFrom_80 : decode cX5_tryFrom 80 = .ok (.getfield 30, 3) := dw_180 wX5_tryFrom_c 0 30 rfl rfl
theorem dX5_tryFrom_83 : decode cX5_tryFrom 83 = .ok (.iload_n 1, 1) := dw_27 wX5_tryFrom_c rfl
theorem dX5_tryFrom_84 : decode cX5_tryFrom 84 = .ok (.iload 7, 2) := dw_21 wX5_tryFrom_c 7 rfl
theorem dX5_tryFrom_86 : decode cX5_tryFrom 86 = .ok (.iastore, 1) := dw_79 wX5_tryFrom_c rfl
theorem dX5_tryFrom_87 : decode cX5_tryFrom 87 = .ok (.iload 8, 2) := dw_21 wX5_tryFrom_c 8 rfl
theorem dX5_tryFrom_89 : decode cX5_tryFrom 89 = .ok (.aload_n 0, 1) := dw_42 wX5_tryFrom_c rfl
theorem dX5_tryFrom_90 : decode cX5_tryFrom 90 = .ok (.getfield 68, 3) := dw_180 wX5_tryFrom_c 0 68 rfl rfl
theorem dX5_tryFrom_93 : decode cX5_tryFrom 93 = .ok (.if_icmp .gt 25, 3) := dw_163 wX5_tryFrom_c 0 25 rfl rfl rfl
theorem dX5_tryFrom_96 : decode cX5_tryFrom 96 = .ok (.aload_n 0, 1) := dw_42 wX5_tryFrom_c rfl
theorem dX5_tryFrom_97 : decode cX5_tryFrom 97 = .ok (.iload_n 1, 1) := dw_27 wX5_tryFrom_c rfl
theorem dX5_tryFrom_98 : decode cX5_tryFrom 98 = .ok (.iconst 1, 1) := dw_4 wX5_tryFrom_c rfl
theorem dX5_tryFrom_99 : decode cX5_tryFrom 99 = .ok (.iadd, 1) := dw_96 wX5_tryFrom_c rfl
theorem dX5_tryFrom_100 : decode cX5_tryFrom 100 = .ok (.iload_n 2, 1) := dw_28 wX5_tryFrom_c rfl
theorem dX5_tryFrom_101 : decode cX5_tryFrom 101 = .ok (.iload 7, 2) := dw_21 wX5_tryFrom_c 7 rfl
theorem dX5_tryFrom_103 : decode cX5_tryFrom 103 = .ok (.iadd, 1) := dw_96 wX5_tryFrom_c rfl
theorem dX5_tryFrom_104 : decode cX5_tryFrom 104 = .ok (.iload_n 3, 1) := dw_29 wX5_tryFrom_c rfl
theorem dX5_tryFrom_105 : decode cX5_tryFrom 105 = .ok (.iload 8, 2) := dw_21 wX5_tryFrom_c 8 rfl
theorem dX5_tryFrom_107 : decode cX5_tryFrom 107 = .ok (.invokestatic 87, 3) := dw_184 wX5_tryFrom_c 0 87 rfl rfl
theorem dX5_tryFrom_110 : decode cX5_tryFrom 110 = .ok (.iload 4, 2) := dw_21 wX5_tryFrom_c 4 rfl
theorem dX5_tryFrom_112 : decode cX5_tryFrom 112 = .ok (.iload 8, 2) := dw_21 wX5_tryFrom_c 8 rfl
theorem dX5_tryFrom_114 : decode cX5_tryFrom 114 = .ok (.iadd, 1) := dw_96 wX5_tryFrom_c rfl
theorem dX5_tryFrom_115 : decode cX5_tryFrom 115 = .ok (.invokevirtual 74, 3) := dw_182 wX5_tryFrom_c 0 74 rfl rfl
theorem dX5_tryFrom_118 : decode cX5_tryFrom 118 = .ok (.iinc 6 1, 3) := dw_132 wX5_tryFrom_c 6 1 rfl rfl rfl
theorem dX5_tryFrom_121 : decode cX5_tryFrom 121 = .ok (.goto (-93), 3) := dn_167 wX5_tryFrom_c 255 163 rfl (by decide)
theorem dX5_tryFrom_124 : decode cX5_tryFrom 124 = .ok (.return_, 1) := dw_177 wX5_tryFrom_c rfl
set_option maxHeartbeats 4000000 in
set_option maxRecDepth 100000 in
theorem t_X5_tryFrom_3 (l : Launch) (dC : Nat → ClassId) (dI : Nat → Nat → Nat) (dA : Nat → ClassId) (L : List Nat) (h : hx_h) (sz : Nat) (b0 : hx_z) (x : Nat) (i2 : Int32) (i3 : Int32) (i4 : Int32) (hT : hx_T T_tb L h) (gx : hx_g L h x 5)  : Met l yX5_tryFrom (Cond.code yX5_tryFrom cX5_tryFrom 9 none :: hx_all) ({ frames := 3, cells := 0, slots := 0, locals := 90 }) (va_Pc [.ref x, .int (3 : Int32), .int i2, .int i3, .int i4] (hx_BX T_tb (P_ty dA) (dC, dI) vwCl L h sz b0)) (va_Qv (fun (u : List Nat × hx_h) => hx_T T_tb u.1 u.2 ∧ hx_S T_tb [(5, 11), (5, 12), (28, 0), (33, 0)] L h u.1 u.2) (hx_E T_tb (P_ty dA) (dC, dI) vwCl (hx_A L sz)) (hx_A L sz)) 0 0 (hx_A L sz) := by
  refine hx_metX (lv := [(0, .ref x), (1, .int (3 : Int32)), (2, .int i2), (3, .int i3), (4, .int i4)]) (by decide +kernel) rfl (Nat.le_of_ble_eq_true rfl) rfl ?_
  intro p e s m below meth c hx hb hml hr hlk hts0 hown hin hsz hW hZ ls hl
  have hts : ∀ w ∈ hx_all, w.before _ s = true := fun w hw => hts0 w (List.mem_cons_of_mem _ hw)
  have hown : s.vm.findClass "SmallCourt$Plan" = some m.cls := hown
  have hM : hx_S T_tb [(5, 11), (5, 12), (28, 0), (33, 0)] L h L h := hx_S.rf
  refine lv_iload_n hx hb dX5_tryFrom_0 rfl (lv_at hl 1 rfl) ?_
  refine lv_aload_n hx hb dX5_tryFrom_1 rfl (lv_at hl 0 rfl) ?_
  refine hx_geti hx hb hts hC_5 hown hW hT gx tt_5 0 ?o0 rfl kw_258 ⟨rfl, rfl, rfl⟩ dX5_tryFrom_2 (fun x_1 ex_1 lx_1 ux_1 => ?_)
  case o0 => decide
  have fx_1 := ex_1.symm
  refine hb_icmp_lt (zx := 3) (zy := x_1.toInt) (tgt := 16) hx hb ?o1 rfl dX5_tryFrom_5 ?o2 (fun c_2 => ?_) (fun c_2 => ?_)
  case o1 => decide
  case o2 => decide
  · skip
    refine lv_aload_n hx hb dX5_tryFrom_16 rfl (lv_at hl 0 rfl) ?_
    refine lv_iload_n hx hb dX5_tryFrom_17 rfl (lv_at hl 1 rfl) ?_
    refine lv_iconst (v := 1) hx hb dX5_tryFrom_18 ?o3 ?_
    case o3 => decide
    refine lv_iadd hx hb dX5_tryFrom_19 ?_
    refine lv_topi (fun x_3 ex_3 => ?_)
    obtain rfl : x_3 = (4 : Int32) := ex_3.trans (by decide)
    refine hx_goi (hx_runV (As := [.int (4 : Int32)]) (rest := []) ⟨hx, hb, hml, hown, hts⟩ hW gx tt_5 (T := TX5) (N := 13) rfl (t_X5_leastFrom l dC dI dA L h s.heap.size x (4 : Int32) hT gx ?o4) (cwV 1 hts (hx_gV kw_964 kw_961 kw_963 kw_33 kw_100) rfl rfl rfl (by decide +kernel) ⟨Nat.le_of_ble_eq_true rfl, Nat.le_of_ble_eq_true rfl⟩) rfl hl.1 rfl (Nat.le_of_ble_eq_true rfl) dX5_tryFrom_20 ⟨Nat.le_of_ble_eq_true rfl, Nat.le_of_ble_eq_true rfl⟩) hW (fun r_6 L_4 h_5 H locs p_7 hW => ?_)
    case o4 => decide
    obtain ⟨hr_8, hT, hs⟩ := p_7
    replace hT : hx_T T_tb L_4 h_5 := hT
    replace hs : hx_S T_tb [] L h L_4 h_5 := hs
    replace fx_1 := (hs.o gx trivial rfl).1.trans fx_1
    replace hM := hM.tr (hs.mono ?o5)
    case o5 => decide
    replace gx := gx.S hs
    refine lv_istore (lv' := [(5, .int r_6), (0, .ref x), (1, .int (3 : Int32)), (2, .int i2), (3, .int i3), (4, .int i4)]) hx hb dX5_tryFrom_23 hl ?o6 rfl (fun ls hl => ?_)
    case o6 => decide
    refine lv_iconst (v := 0) hx hb dX5_tryFrom_25 ?o7 ?_
    case o7 => decide
    refine lv_istore (lv' := [(6, .int (0 : Int32)), (5, .int r_6), (0, .ref x), (1, .int (3 : Int32)), (2, .int i2), (3, .int i3), (4, .int i4)]) hx hb dX5_tryFrom_26 hl ?o8 rfl (fun ls hl => ?_)
    case o8 => decide
    have loop28 : ∀ (n28 : Nat) (iv28_6 : Int32) (H : Heap) (locs : List Loc) (hL1 : List Nat) (hl1 : hx_h) (ls : Array Slot), 0 ≤ iv28_6.toInt → iv28_6.toInt ≤ 13 → 13 < iv28_6.toInt + n28 → hx_W T_tb (P_ty dA) (dC, dI) vwCl (hx_A L sz) s.heap hL1 hl1 s H locs → hx_T T_tb hL1 hl1 → hx_S T_tb [(5, 11), (5, 12), (28, 0), (33, 0)] L h hL1 hl1 → hl1.2.1 x 0 = x_1 → hx_g hL1 hl1 x 5 → lv_has ls 9 [(6, .int iv28_6), (5, .int r_6), (0, .ref x), (1, .int (3 : Int32)), (2, .int i2), (3, .int i3), (4, .int i4)] → W p l e ({ frames := 3, cells := 0, slots := 0, locals := 90 }) s m ([.ref x, .int (3 : Int32), .int i2, .int i3, .int i4] : List Value).toArray below meth c H locs 0 0 (MQ below (va_Qv (fun (u : List Nat × hx_h) => hx_T T_tb u.1 u.2 ∧ hx_S T_tb [(5, 11), (5, 12), (28, 0), (33, 0)] L h u.1 u.2) (hx_E T_tb (P_ty dA) (dC, dI) vwCl (hx_A L sz)) (hx_A L sz)) ([.ref x, .int (3 : Int32), .int i2, .int i3, .int i4] : List Value).toArray s 0 0 (hx_A L sz)) (F0 m 28 ls []) := by
      intro n28
      induction n28 with
      | zero => intro iv28_6 H locs hL1 hl1 ls bl28_6 bu28_6 hn28; exfalso; omega
      | succ n28 ih28 =>
        intro iv28_6 H locs hL1 hl1 ls bl28_6 bu28_6 hn28 hW hT hM fx_1 gx  hl
        refine lv_iload hx hb dX5_tryFrom_28 (lv_at hl 0 rfl) ?_
        refine lv_bipush (v := 12) hx hb dX5_tryFrom_30 ?o9 ?_
        case o9 => decide
        refine hb_icmp_gt (zx := iv28_6.toInt) (zy := 12) (tgt := 124) hx hb rfl ?o10 dX5_tryFrom_32 ?o11 (fun c_9 => ?_) (fun c_9 => ?_)
        case o10 => decide
        case o11 => decide
        · skip
          exact hx_retv hx hb hr hlk hW ⟨hT, hM⟩ dX5_tryFrom_124
        · skip
          refine lv_aload_n hx hb dX5_tryFrom_35 rfl (lv_at hl 2 rfl) ?_
          refine hx_getn hx hb hts hC_5 hown hW hT gx tt_5 7 ?o12 rfl kw_270 ⟨rfl, rfl, rfl⟩ dX5_tryFrom_36 (fun q_10 fq_10 gq_10 => ?_)
          case o12 => decide
          refine lv_iload_n hx hb dX5_tryFrom_39 rfl (lv_at hl 3 rfl) ?_
          refine hx_iald hx hb hW hT gq_10 tt_32 rfl ?o13 dX5_tryFrom_40 (fun x_11 ex_11 lx_11 ux_11 => ?_)
          case o13 => decide
          refine lv_iload hx hb dX5_tryFrom_41 (lv_at hl 0 rfl) ?_
          refine lv_aload_n hx hb dX5_tryFrom_43 rfl (lv_at hl 2 rfl) ?_
          refine hx_geti hx hb hts hC_5 hown hW hT gx tt_5 9 ?o14 rfl kw_272 ⟨rfl, rfl, rfl⟩ dX5_tryFrom_44 (fun x_12 ex_12 lx_12 ux_12 => ?_)
          case o14 => decide
          have fx_12 := ex_12.symm
          refine lv_imul hx hb dX5_tryFrom_47 ?_
          refine lv_topi (fun x_13 ex_13 => ?_)
          refine lv_iadd hx hb dX5_tryFrom_48 ?_
          have rg_14 := i32_r x_11
          have rg_15 := i32_r x_13
          refine lv_topi (fun x_16 ex_16 => ?_)
          refine lv_istore (lv' := [(7, .int x_16), (6, .int iv28_6), (5, .int r_6), (0, .ref x), (1, .int (3 : Int32)), (2, .int i2), (3, .int i3), (4, .int i4)]) hx hb dX5_tryFrom_49 hl ?o15 rfl (fun ls hl => ?_)
          case o15 => decide
          refine lv_iload_n hx hb dX5_tryFrom_51 rfl (lv_at hl 5 rfl) ?_
          refine lv_iload hx hb dX5_tryFrom_52 (lv_at hl 0 rfl) ?_
          refine lv_iadd hx hb dX5_tryFrom_54 ?_
          have rg_17 := i32_r i2
          have rg_18 := i32_r x_16
          refine lv_topi (fun x_19 ex_19 => ?_)
          refine lv_iload hx hb dX5_tryFrom_55 (lv_at hl 2 rfl) ?_
          refine lv_iadd hx hb dX5_tryFrom_57 ?_
          have rg_20 := i32_r x_19
          have rg_21 := i32_r r_6
          refine lv_topi (fun x_22 ex_22 => ?_)
          refine lv_aload_n hx hb dX5_tryFrom_58 rfl (lv_at hl 3 rfl) ?_
          refine hx_geti hx hb hts hC_5 hown hW hT gx tt_5 10 ?o16 rfl kw_273 ⟨rfl, rfl, rfl⟩ dX5_tryFrom_59 (fun x_23 ex_23 lx_23 ux_23 => ?_)
          case o16 => decide
          have fx_23 := ex_23.symm
          refine hb_icmp_le (zx := x_22.toInt) (zy := x_23.toInt) (tgt := 66) hx hb rfl rfl dX5_tryFrom_62 ?o17 (fun c_24 => ?_) (fun c_24 => ?_)
          case o17 => decide
          · skip
            refine lv_aload_n hx hb dX5_tryFrom_66 rfl (lv_at hl 3 rfl) ?_
            refine hx_getn hx hb hts hC_5 hown hW hT gx tt_5 6 ?o18 rfl kw_269 ⟨rfl, rfl, rfl⟩ dX5_tryFrom_67 (fun q_25 fq_25 gq_25 => ?_)
            case o18 => decide
            refine lv_iload_n hx hb dX5_tryFrom_70 rfl (lv_at hl 4 rfl) ?_
            refine hx_iald hx hb hW hT gq_25 tt_31 rfl ?o19 dX5_tryFrom_71 (fun x_26 ex_26 lx_26 ux_26 => ?_)
            case o19 => decide
            refine lv_iload hx hb dX5_tryFrom_72 (lv_at hl 0 rfl) ?_
            refine hx_goi (hx_runSN (As := [.int x_26, .int x_16]) (rest := []) ⟨hx, hb, hml, hown, hts⟩ hW (t_X9_roundUp l dC dI dA hL1 hl1 H.size x_26 x_16 hT) ⟨va_cnB 2 hts (hx_gC kw_921) rfl rfl rfl (hZ.1 _ (List.mem_of_getElem? (i := 10) rfl)) (hts _ kw_94) (by decide +kernel) ⟨Nat.le_of_ble_eq_true rfl, Nat.le_of_ble_eq_true rfl⟩, hts _ kw_920, trivial⟩ rfl hl.1 rfl (Nat.le_of_ble_eq_true rfl) dX5_tryFrom_74 ⟨Nat.le_of_ble_eq_true rfl, Nat.le_of_ble_eq_true rfl⟩) hW (fun r_29 L_27 h_28 H locs p_30 hW => ?_)
            obtain ⟨hr_31, hT, hs⟩ := p_30
            replace hT : hx_T T_tb L_27 h_28 := hT
            replace hs : hx_S T_tb [] hL1 hl1 L_27 h_28 := hs
            replace fx_1 := (hs.o gx trivial rfl).1.trans fx_1
            replace fq_10 := (hs.o gx trivial rfl).2.trans fq_10
            replace fx_12 := (hs.o gx trivial rfl).1.trans fx_12
            replace fx_23 := (hs.o gx trivial rfl).1.trans fx_23
            replace fq_25 := (hs.o gx trivial rfl).2.trans fq_25
            replace hM := hM.tr (hs.mono ?o20)
            case o20 => decide
            replace gx := gx.S hs
            replace gq_10 := gq_10.S hs
            replace gq_25 := gq_25.S hs
            refine lv_istore (lv' := [(8, .int r_29), (7, .int x_16), (6, .int iv28_6), (5, .int r_6), (0, .ref x), (1, .int (3 : Int32)), (2, .int i2), (3, .int i3), (4, .int i4)]) hx hb dX5_tryFrom_77 hl ?o21 rfl (fun ls hl => ?_)
            case o21 => decide
            refine lv_aload_n hx hb dX5_tryFrom_79 rfl (lv_at hl 4 rfl) ?_
            refine hx_getn hx hb hts hC_5 hown hW hT gx tt_5 8 ?o22 rfl kw_271 ⟨rfl, rfl, rfl⟩ dX5_tryFrom_80 (fun q_32 fq_32 gq_32 => ?_)
            case o22 => decide
            refine lv_iload_n hx hb dX5_tryFrom_83 rfl (lv_at hl 5 rfl) ?_
            refine lv_iload hx hb dX5_tryFrom_84 (lv_at hl 1 rfl) ?_
            refine hx_iast hx hb hW hT (hx_S.rf (M := [(33, 0)])) gq_32 tt_33 rfl ?o23 rfl (i32_r _) (List.mem_singleton.mpr rfl) dX5_tryFrom_86 (fun H locs h_33 eh_33 hW hT hs => ?_)
            case o23 => decide
            replace fx_1 := (hs.o gx trivial rfl).1.trans fx_1
            replace fq_10 := (hs.o gx trivial rfl).2.trans fq_10
            replace fx_12 := (hs.o gx trivial rfl).1.trans fx_12
            replace fx_23 := (hs.o gx trivial rfl).1.trans fx_23
            replace fq_25 := (hs.o gx trivial rfl).2.trans fq_25
            replace fq_32 := (hs.o gx trivial rfl).2.trans fq_32
            replace hM := hM.tr (hs.mono ?o24)
            case o24 => decide
            replace gx := gx.S hs
            replace gq_10 := gq_10.S hs
            replace gq_25 := gq_25.S hs
            replace gq_32 := gq_32.S hs
            refine lv_iload hx hb dX5_tryFrom_87 (lv_at hl 0 rfl) ?_
            refine lv_aload_n hx hb dX5_tryFrom_89 rfl (lv_at hl 4 rfl) ?_
            refine hx_geti hx hb hts hC_5 hown hW hT gx tt_5 11 ?o25 rfl kw_274 ⟨rfl, rfl, rfl⟩ dX5_tryFrom_90 (fun x_34 ex_34 lx_34 ux_34 => ?_)
            case o25 => decide
            have fx_34 := ex_34.symm
            refine hb_icmp_gt (zx := r_29.toInt) (zy := x_34.toInt) (tgt := 118) hx hb rfl rfl dX5_tryFrom_93 ?o26 (fun c_35 => ?_) (fun c_35 => ?_)
            case o26 => decide
            · skip
              obtain ⟨x_36, ex_36⟩ : ∃ y : Int32, y = iv28_6 + Int32.ofInt 1 := ⟨_, rfl⟩
              have rg_37 := i32_r iv28_6
              have zx_36 : x_36.toInt = iv28_6.toInt + (1) := ?o27
              case o27 =>
                rw [ex_36]
                refine i32_add rfl ?o28 ?o29 ?o30
                case o28 => decide
                case o29 => omega
                case o30 => omega
              refine lv_iinc (v := x_36) (lv' := [(6, .int x_36), (8, .int r_29), (7, .int x_16), (5, .int r_6), (0, .ref x), (1, .int (3 : Int32)), (2, .int i2), (3, .int i3), (4, .int i4)]) hx hb dX5_tryFrom_118 hl (k := 2) rfl ex_36.symm ?o31 rfl (fun ls hl => ?_)
              case o31 => decide
              refine lv_goto (tgt := 28) hx hb dX5_tryFrom_121 ?o32 ?_
              case o32 => decide
              refine ih28 x_36 _ _ L_27 h_33 ls ?o33 ?o34 ?o35 hW hT hM fx_1 gx  (lv_sub hl [0, 3, 4, 5, 6, 7, 8] rfl)
              case o33 => omega
              case o34 => omega
              case o35 => omega
            · skip
              refine lv_aload_n hx hb dX5_tryFrom_96 rfl (lv_at hl 4 rfl) ?_
              refine lv_iload_n hx hb dX5_tryFrom_97 rfl (lv_at hl 5 rfl) ?_
              refine lv_iconst (v := 1) hx hb dX5_tryFrom_98 ?o36 ?_
              case o36 => decide
              refine lv_iadd hx hb dX5_tryFrom_99 ?_
              refine lv_topi (fun x_38 ex_38 => ?_)
              obtain rfl : x_38 = (4 : Int32) := ex_38.trans (by decide)
              refine lv_iload_n hx hb dX5_tryFrom_100 rfl (lv_at hl 6 rfl) ?_
              refine lv_iload hx hb dX5_tryFrom_101 (lv_at hl 1 rfl) ?_
              refine lv_iadd hx hb dX5_tryFrom_103 ?_
              refine lv_topi (fun x_39 ex_39 => ?_)
              refine lv_iload_n hx hb dX5_tryFrom_104 rfl (lv_at hl 7 rfl) ?_
              refine lv_iload hx hb dX5_tryFrom_105 (lv_at hl 0 rfl) ?_
              refine va_mmax hx hb (hml.trans hl.1.symm) hown (hts _ kw_976) (hts _ kw_882) (hts _ kw_109) (hts _ kw_883) (Nat.le_of_ble_eq_true rfl) (Nat.le_of_ble_eq_true rfl) (Nat.le_of_ble_eq_true rfl) (Nat.le_of_ble_eq_true rfl) dX5_tryFrom_107 ?_
              refine lv_topi (fun x_40 ex_40 => ?_)
              refine lv_iload hx hb dX5_tryFrom_110 (lv_at hl 8 rfl) ?_
              refine lv_iload hx hb dX5_tryFrom_112 (lv_at hl 0 rfl) ?_
              refine lv_iadd hx hb dX5_tryFrom_114 ?_
              have rg_41 := i32_r i4
              have rg_42 := i32_r r_29
              refine lv_topi (fun x_43 ex_43 => ?_)
              refine hx_gov (hx_runVX (As := [.int (4 : Int32), .int x_39, .int x_40, .int x_43]) (rest := []) ⟨hx, hb, hml, hown, hts⟩ hW gx tt_5 (T := TX5) (N := 13) rfl (t_X5_tryFrom_4 l dC dI dA L_27 h_33 H.size b0 x x_39 x_40 x_43 hT gx) hZ (cwV 4 hts (hx_gV kw_969 kw_966 kw_968 kw_34 kw_100) rfl rfl rfl (by decide +kernel) ⟨Nat.le_of_ble_eq_true rfl, Nat.le_of_ble_eq_true rfl⟩) rfl hl.1 rfl (Nat.le_of_ble_eq_true rfl) dX5_tryFrom_115 ⟨Nat.le_of_ble_eq_true rfl, Nat.le_of_ble_eq_true rfl⟩) hW (fun L_44 h_45 H locs p_47 hW => ?_)
              obtain ⟨hT, hs⟩ := p_47
              replace hT : hx_T T_tb L_44 h_45 := hT
              replace hs : hx_S T_tb [(5, 11), (5, 12), (28, 0)] L_27 h_33 L_44 h_45 := hs
              replace fx_1 := (hs.o gx trivial rfl).1.trans fx_1
              replace fq_10 := (hs.o gx trivial rfl).2.trans fq_10
              replace fx_12 := (hs.o gx trivial rfl).1.trans fx_12
              replace fx_23 := (hs.o gx trivial rfl).1.trans fx_23
              replace fq_25 := (hs.o gx trivial rfl).2.trans fq_25
              replace fq_32 := (hs.o gx trivial rfl).2.trans fq_32
              replace hM := hM.tr (hs.mono ?o37)
              case o37 => decide
              replace gx := gx.S hs
              replace gq_10 := gq_10.S hs
              replace gq_25 := gq_25.S hs
              replace gq_32 := gq_32.S hs
              obtain ⟨x_49, ex_49⟩ : ∃ y : Int32, y = iv28_6 + Int32.ofInt 1 := ⟨_, rfl⟩
              have rg_50 := i32_r iv28_6
              have zx_49 : x_49.toInt = iv28_6.toInt + (1) := ?o38
              case o38 =>
                rw [ex_49]
                refine i32_add rfl ?o39 ?o40 ?o41
                case o39 => decide
                case o40 => omega
                case o41 => omega
              refine lv_iinc (v := x_49) (lv' := [(6, .int x_49), (8, .int r_29), (7, .int x_16), (5, .int r_6), (0, .ref x), (1, .int (3 : Int32)), (2, .int i2), (3, .int i3), (4, .int i4)]) hx hb dX5_tryFrom_118 hl (k := 2) rfl ex_49.symm ?o42 rfl (fun ls hl => ?_)
              case o42 => decide
              refine lv_goto (tgt := 28) hx hb dX5_tryFrom_121 ?o43 ?_
              case o43 => decide
              refine ih28 x_49 _ _ L_44 h_45 ls ?o44 ?o45 ?o46 hW hT hM fx_1 gx  (lv_sub hl [0, 3, 4, 5, 6, 7, 8] rfl)
              case o44 => omega
              case o45 => omega
              case o46 => omega
          · skip
            exact hx_retv hx hb hr hlk hW ⟨hT, hM⟩ dX5_tryFrom_65
    refine loop28 14 (0 : Int32) _ _ L_4 h_5 ls ?o47 ?o48 ?o49 hW hT hM fx_1 gx  hl
    case o47 => decide
    case o48 => decide
    case o49 => decide
  · skip
    refine lv_aload_n hx hb dX5_tryFrom_8 rfl (lv_at hl 0 rfl) ?_
    refine lv_iload_n hx hb dX5_tryFrom_9 rfl (lv_at hl 3 rfl) ?_
    refine lv_iload hx hb dX5_tryFrom_10 (lv_at hl 4 rfl) ?_
    refine hx_gov (hx_runV (As := [.int i3, .int i4]) (rest := []) ⟨hx, hb, hml, hown, hts⟩ hW gx tt_5 (T := TX5) (N := 13) rfl (t_X5_keepIfBetter l dC dI dA L h s.heap.size x i3 i4 hT gx) (cwV 2 hts (hx_gV kw_973 kw_970 kw_972 kw_35 kw_100) rfl rfl rfl (by decide +kernel) ⟨Nat.le_of_ble_eq_true rfl, Nat.le_of_ble_eq_true rfl⟩) rfl hl.1 rfl (Nat.le_of_ble_eq_true rfl) dX5_tryFrom_12 ⟨Nat.le_of_ble_eq_true rfl, Nat.le_of_ble_eq_true rfl⟩) hW (fun L_51 h_52 H locs p_54 hW => ?_)
    obtain ⟨hT, hs⟩ := p_54
    replace hT : hx_T T_tb L_51 h_52 := hT
    replace hs : hx_S T_tb [(5, 11), (5, 12), (28, 0)] L h L_51 h_52 := hs
    replace fx_1 := (hs.o gx trivial rfl).1.trans fx_1
    replace hM := hM.tr (hs.mono ?o50)
    case o50 => decide
    replace gx := gx.S hs
    exact hx_retv hx hb hr hlk hW ⟨hT, hM⟩ dX5_tryFrom_15


set_option maxHeartbeats 4000000 in
set_option maxRecDepth 100000 in
theorem t_X5_tryFrom_2 (l : Launch) (dC : Nat → ClassId) (dI : Nat → Nat → Nat) (dA : Nat → ClassId) (L : List Nat) (h : hx_h) (sz : Nat) (b0 : hx_z) (x : Nat) (i2 : Int32) (i3 : Int32) (i4 : Int32) (hT : hx_T T_tb L h) (gx : hx_g L h x 5)  : Met l yX5_tryFrom (Cond.code yX5_tryFrom cX5_tryFrom 9 none :: hx_all) ({ frames := 4, cells := 0, slots := 0, locals := 118 }) (va_Pc [.ref x, .int (2 : Int32), .int i2, .int i3, .int i4] (hx_BX T_tb (P_ty dA) (dC, dI) vwCl L h sz b0)) (va_Qv (fun (u : List Nat × hx_h) => hx_T T_tb u.1 u.2 ∧ hx_S T_tb [(5, 11), (5, 12), (28, 0), (33, 0)] L h u.1 u.2) (hx_E T_tb (P_ty dA) (dC, dI) vwCl (hx_A L sz)) (hx_A L sz)) 0 0 (hx_A L sz) := by
  refine hx_metX (lv := [(0, .ref x), (1, .int (2 : Int32)), (2, .int i2), (3, .int i3), (4, .int i4)]) (by decide +kernel) rfl (Nat.le_of_ble_eq_true rfl) rfl ?_
  intro p e s m below meth c hx hb hml hr hlk hts0 hown hin hsz hW hZ ls hl
  have hts : ∀ w ∈ hx_all, w.before _ s = true := fun w hw => hts0 w (List.mem_cons_of_mem _ hw)
  have hown : s.vm.findClass "SmallCourt$Plan" = some m.cls := hown
  have hM : hx_S T_tb [(5, 11), (5, 12), (28, 0), (33, 0)] L h L h := hx_S.rf
  refine lv_iload_n hx hb dX5_tryFrom_0 rfl (lv_at hl 1 rfl) ?_
  refine lv_aload_n hx hb dX5_tryFrom_1 rfl (lv_at hl 0 rfl) ?_
  refine hx_geti hx hb hts hC_5 hown hW hT gx tt_5 0 ?o0 rfl kw_258 ⟨rfl, rfl, rfl⟩ dX5_tryFrom_2 (fun x_1 ex_1 lx_1 ux_1 => ?_)
  case o0 => decide
  have fx_1 := ex_1.symm
  refine hb_icmp_lt (zx := 2) (zy := x_1.toInt) (tgt := 16) hx hb ?o1 rfl dX5_tryFrom_5 ?o2 (fun c_2 => ?_) (fun c_2 => ?_)
  case o1 => decide
  case o2 => decide
  · skip
    refine lv_aload_n hx hb dX5_tryFrom_16 rfl (lv_at hl 0 rfl) ?_
    refine lv_iload_n hx hb dX5_tryFrom_17 rfl (lv_at hl 1 rfl) ?_
    refine lv_iconst (v := 1) hx hb dX5_tryFrom_18 ?o3 ?_
    case o3 => decide
    refine lv_iadd hx hb dX5_tryFrom_19 ?_
    refine lv_topi (fun x_3 ex_3 => ?_)
    obtain rfl : x_3 = (3 : Int32) := ex_3.trans (by decide)
    refine hx_goi (hx_runV (As := [.int (3 : Int32)]) (rest := []) ⟨hx, hb, hml, hown, hts⟩ hW gx tt_5 (T := TX5) (N := 13) rfl (t_X5_leastFrom l dC dI dA L h s.heap.size x (3 : Int32) hT gx ?o4) (cwV 1 hts (hx_gV kw_964 kw_961 kw_963 kw_33 kw_100) rfl rfl rfl (by decide +kernel) ⟨Nat.le_of_ble_eq_true rfl, Nat.le_of_ble_eq_true rfl⟩) rfl hl.1 rfl (Nat.le_of_ble_eq_true rfl) dX5_tryFrom_20 ⟨Nat.le_of_ble_eq_true rfl, Nat.le_of_ble_eq_true rfl⟩) hW (fun r_6 L_4 h_5 H locs p_7 hW => ?_)
    case o4 => decide
    obtain ⟨hr_8, hT, hs⟩ := p_7
    replace hT : hx_T T_tb L_4 h_5 := hT
    replace hs : hx_S T_tb [] L h L_4 h_5 := hs
    replace fx_1 := (hs.o gx trivial rfl).1.trans fx_1
    replace hM := hM.tr (hs.mono ?o5)
    case o5 => decide
    replace gx := gx.S hs
    refine lv_istore (lv' := [(5, .int r_6), (0, .ref x), (1, .int (2 : Int32)), (2, .int i2), (3, .int i3), (4, .int i4)]) hx hb dX5_tryFrom_23 hl ?o6 rfl (fun ls hl => ?_)
    case o6 => decide
    refine lv_iconst (v := 0) hx hb dX5_tryFrom_25 ?o7 ?_
    case o7 => decide
    refine lv_istore (lv' := [(6, .int (0 : Int32)), (5, .int r_6), (0, .ref x), (1, .int (2 : Int32)), (2, .int i2), (3, .int i3), (4, .int i4)]) hx hb dX5_tryFrom_26 hl ?o8 rfl (fun ls hl => ?_)
    case o8 => decide
    have loop28 : ∀ (n28 : Nat) (iv28_6 : Int32) (H : Heap) (locs : List Loc) (hL1 : List Nat) (hl1 : hx_h) (ls : Array Slot), 0 ≤ iv28_6.toInt → iv28_6.toInt ≤ 13 → 13 < iv28_6.toInt + n28 → hx_W T_tb (P_ty dA) (dC, dI) vwCl (hx_A L sz) s.heap hL1 hl1 s H locs → hx_T T_tb hL1 hl1 → hx_S T_tb [(5, 11), (5, 12), (28, 0), (33, 0)] L h hL1 hl1 → hl1.2.1 x 0 = x_1 → hx_g hL1 hl1 x 5 → lv_has ls 9 [(6, .int iv28_6), (5, .int r_6), (0, .ref x), (1, .int (2 : Int32)), (2, .int i2), (3, .int i3), (4, .int i4)] → W p l e ({ frames := 4, cells := 0, slots := 0, locals := 118 }) s m ([.ref x, .int (2 : Int32), .int i2, .int i3, .int i4] : List Value).toArray below meth c H locs 0 0 (MQ below (va_Qv (fun (u : List Nat × hx_h) => hx_T T_tb u.1 u.2 ∧ hx_S T_tb [(5, 11), (5, 12), (28, 0), (33, 0)] L h u.1 u.2) (hx_E T_tb (P_ty dA) (dC, dI) vwCl (hx_A L sz)) (hx_A L sz)) ([.ref x, .int (2 : Int32), .int i2, .int i3, .int i4] : List Value).toArray s 0 0 (hx_A L sz)) (F0 m 28 ls []) := by
      intro n28
      induction n28 with
      | zero => intro iv28_6 H locs hL1 hl1 ls bl28_6 bu28_6 hn28; exfalso; omega
      | succ n28 ih28 =>
        intro iv28_6 H locs hL1 hl1 ls bl28_6 bu28_6 hn28 hW hT hM fx_1 gx  hl
        refine lv_iload hx hb dX5_tryFrom_28 (lv_at hl 0 rfl) ?_
        refine lv_bipush (v := 12) hx hb dX5_tryFrom_30 ?o9 ?_
        case o9 => decide
        refine hb_icmp_gt (zx := iv28_6.toInt) (zy := 12) (tgt := 124) hx hb rfl ?o10 dX5_tryFrom_32 ?o11 (fun c_9 => ?_) (fun c_9 => ?_)
        case o10 => decide
        case o11 => decide
        · skip
          exact hx_retv hx hb hr hlk hW ⟨hT, hM⟩ dX5_tryFrom_124
        · skip
          refine lv_aload_n hx hb dX5_tryFrom_35 rfl (lv_at hl 2 rfl) ?_
          refine hx_getn hx hb hts hC_5 hown hW hT gx tt_5 7 ?o12 rfl kw_270 ⟨rfl, rfl, rfl⟩ dX5_tryFrom_36 (fun q_10 fq_10 gq_10 => ?_)
          case o12 => decide
          refine lv_iload_n hx hb dX5_tryFrom_39 rfl (lv_at hl 3 rfl) ?_
          refine hx_iald hx hb hW hT gq_10 tt_32 rfl ?o13 dX5_tryFrom_40 (fun x_11 ex_11 lx_11 ux_11 => ?_)
          case o13 => decide
          refine lv_iload hx hb dX5_tryFrom_41 (lv_at hl 0 rfl) ?_
          refine lv_aload_n hx hb dX5_tryFrom_43 rfl (lv_at hl 2 rfl) ?_
          refine hx_geti hx hb hts hC_5 hown hW hT gx tt_5 9 ?o14 rfl kw_272 ⟨rfl, rfl, rfl⟩ dX5_tryFrom_44 (fun x_12 ex_12 lx_12 ux_12 => ?_)
          case o14 => decide
          have fx_12 := ex_12.symm
          refine lv_imul hx hb dX5_tryFrom_47 ?_
          refine lv_topi (fun x_13 ex_13 => ?_)
          refine lv_iadd hx hb dX5_tryFrom_48 ?_
          have rg_14 := i32_r x_11
          have rg_15 := i32_r x_13
          refine lv_topi (fun x_16 ex_16 => ?_)
          refine lv_istore (lv' := [(7, .int x_16), (6, .int iv28_6), (5, .int r_6), (0, .ref x), (1, .int (2 : Int32)), (2, .int i2), (3, .int i3), (4, .int i4)]) hx hb dX5_tryFrom_49 hl ?o15 rfl (fun ls hl => ?_)
          case o15 => decide
          refine lv_iload_n hx hb dX5_tryFrom_51 rfl (lv_at hl 5 rfl) ?_
          refine lv_iload hx hb dX5_tryFrom_52 (lv_at hl 0 rfl) ?_
          refine lv_iadd hx hb dX5_tryFrom_54 ?_
          have rg_17 := i32_r i2
          have rg_18 := i32_r x_16
          refine lv_topi (fun x_19 ex_19 => ?_)
          refine lv_iload hx hb dX5_tryFrom_55 (lv_at hl 2 rfl) ?_
          refine lv_iadd hx hb dX5_tryFrom_57 ?_
          have rg_20 := i32_r x_19
          have rg_21 := i32_r r_6
          refine lv_topi (fun x_22 ex_22 => ?_)
          refine lv_aload_n hx hb dX5_tryFrom_58 rfl (lv_at hl 3 rfl) ?_
          refine hx_geti hx hb hts hC_5 hown hW hT gx tt_5 10 ?o16 rfl kw_273 ⟨rfl, rfl, rfl⟩ dX5_tryFrom_59 (fun x_23 ex_23 lx_23 ux_23 => ?_)
          case o16 => decide
          have fx_23 := ex_23.symm
          refine hb_icmp_le (zx := x_22.toInt) (zy := x_23.toInt) (tgt := 66) hx hb rfl rfl dX5_tryFrom_62 ?o17 (fun c_24 => ?_) (fun c_24 => ?_)
          case o17 => decide
          · skip
            refine lv_aload_n hx hb dX5_tryFrom_66 rfl (lv_at hl 3 rfl) ?_
            refine hx_getn hx hb hts hC_5 hown hW hT gx tt_5 6 ?o18 rfl kw_269 ⟨rfl, rfl, rfl⟩ dX5_tryFrom_67 (fun q_25 fq_25 gq_25 => ?_)
            case o18 => decide
            refine lv_iload_n hx hb dX5_tryFrom_70 rfl (lv_at hl 4 rfl) ?_
            refine hx_iald hx hb hW hT gq_25 tt_31 rfl ?o19 dX5_tryFrom_71 (fun x_26 ex_26 lx_26 ux_26 => ?_)
            case o19 => decide
            refine lv_iload hx hb dX5_tryFrom_72 (lv_at hl 0 rfl) ?_
            refine hx_goi (hx_runSN (As := [.int x_26, .int x_16]) (rest := []) ⟨hx, hb, hml, hown, hts⟩ hW (t_X9_roundUp l dC dI dA hL1 hl1 H.size x_26 x_16 hT) ⟨va_cnB 2 hts (hx_gC kw_921) rfl rfl rfl (hZ.1 _ (List.mem_of_getElem? (i := 10) rfl)) (hts _ kw_94) (by decide +kernel) ⟨Nat.le_of_ble_eq_true rfl, Nat.le_of_ble_eq_true rfl⟩, hts _ kw_920, trivial⟩ rfl hl.1 rfl (Nat.le_of_ble_eq_true rfl) dX5_tryFrom_74 ⟨Nat.le_of_ble_eq_true rfl, Nat.le_of_ble_eq_true rfl⟩) hW (fun r_29 L_27 h_28 H locs p_30 hW => ?_)
            obtain ⟨hr_31, hT, hs⟩ := p_30
            replace hT : hx_T T_tb L_27 h_28 := hT
            replace hs : hx_S T_tb [] hL1 hl1 L_27 h_28 := hs
            replace fx_1 := (hs.o gx trivial rfl).1.trans fx_1
            replace fq_10 := (hs.o gx trivial rfl).2.trans fq_10
            replace fx_12 := (hs.o gx trivial rfl).1.trans fx_12
            replace fx_23 := (hs.o gx trivial rfl).1.trans fx_23
            replace fq_25 := (hs.o gx trivial rfl).2.trans fq_25
            replace hM := hM.tr (hs.mono ?o20)
            case o20 => decide
            replace gx := gx.S hs
            replace gq_10 := gq_10.S hs
            replace gq_25 := gq_25.S hs
            refine lv_istore (lv' := [(8, .int r_29), (7, .int x_16), (6, .int iv28_6), (5, .int r_6), (0, .ref x), (1, .int (2 : Int32)), (2, .int i2), (3, .int i3), (4, .int i4)]) hx hb dX5_tryFrom_77 hl ?o21 rfl (fun ls hl => ?_)
            case o21 => decide
            refine lv_aload_n hx hb dX5_tryFrom_79 rfl (lv_at hl 4 rfl) ?_
            refine hx_getn hx hb hts hC_5 hown hW hT gx tt_5 8 ?o22 rfl kw_271 ⟨rfl, rfl, rfl⟩ dX5_tryFrom_80 (fun q_32 fq_32 gq_32 => ?_)
            case o22 => decide
            refine lv_iload_n hx hb dX5_tryFrom_83 rfl (lv_at hl 5 rfl) ?_
            refine lv_iload hx hb dX5_tryFrom_84 (lv_at hl 1 rfl) ?_
            refine hx_iast hx hb hW hT (hx_S.rf (M := [(33, 0)])) gq_32 tt_33 rfl ?o23 rfl (i32_r _) (List.mem_singleton.mpr rfl) dX5_tryFrom_86 (fun H locs h_33 eh_33 hW hT hs => ?_)
            case o23 => decide
            replace fx_1 := (hs.o gx trivial rfl).1.trans fx_1
            replace fq_10 := (hs.o gx trivial rfl).2.trans fq_10
            replace fx_12 := (hs.o gx trivial rfl).1.trans fx_12
            replace fx_23 := (hs.o gx trivial rfl).1.trans fx_23
            replace fq_25 := (hs.o gx trivial rfl).2.trans fq_25
            replace fq_32 := (hs.o gx trivial rfl).2.trans fq_32
            replace hM := hM.tr (hs.mono ?o24)
            case o24 => decide
            replace gx := gx.S hs
            replace gq_10 := gq_10.S hs
            replace gq_25 := gq_25.S hs
            replace gq_32 := gq_32.S hs
            refine lv_iload hx hb dX5_tryFrom_87 (lv_at hl 0 rfl) ?_
            refine lv_aload_n hx hb dX5_tryFrom_89 rfl (lv_at hl 4 rfl) ?_
            refine hx_geti hx hb hts hC_5 hown hW hT gx tt_5 11 ?o25 rfl kw_274 ⟨rfl, rfl, rfl⟩ dX5_tryFrom_90 (fun x_34 ex_34 lx_34 ux_34 => ?_)
            case o25 => decide
            have fx_34 := ex_34.symm
            refine hb_icmp_gt (zx := r_29.toInt) (zy := x_34.toInt) (tgt := 118) hx hb rfl rfl dX5_tryFrom_93 ?o26 (fun c_35 => ?_) (fun c_35 => ?_)
            case o26 => decide
            · skip
              obtain ⟨x_36, ex_36⟩ : ∃ y : Int32, y = iv28_6 + Int32.ofInt 1 := ⟨_, rfl⟩
              have rg_37 := i32_r iv28_6
              have zx_36 : x_36.toInt = iv28_6.toInt + (1) := ?o27
              case o27 =>
                rw [ex_36]
                refine i32_add rfl ?o28 ?o29 ?o30
                case o28 => decide
                case o29 => omega
                case o30 => omega
              refine lv_iinc (v := x_36) (lv' := [(6, .int x_36), (8, .int r_29), (7, .int x_16), (5, .int r_6), (0, .ref x), (1, .int (2 : Int32)), (2, .int i2), (3, .int i3), (4, .int i4)]) hx hb dX5_tryFrom_118 hl (k := 2) rfl ex_36.symm ?o31 rfl (fun ls hl => ?_)
              case o31 => decide
              refine lv_goto (tgt := 28) hx hb dX5_tryFrom_121 ?o32 ?_
              case o32 => decide
              refine ih28 x_36 _ _ L_27 h_33 ls ?o33 ?o34 ?o35 hW hT hM fx_1 gx  (lv_sub hl [0, 3, 4, 5, 6, 7, 8] rfl)
              case o33 => omega
              case o34 => omega
              case o35 => omega
            · skip
              refine lv_aload_n hx hb dX5_tryFrom_96 rfl (lv_at hl 4 rfl) ?_
              refine lv_iload_n hx hb dX5_tryFrom_97 rfl (lv_at hl 5 rfl) ?_
              refine lv_iconst (v := 1) hx hb dX5_tryFrom_98 ?o36 ?_
              case o36 => decide
              refine lv_iadd hx hb dX5_tryFrom_99 ?_
              refine lv_topi (fun x_38 ex_38 => ?_)
              obtain rfl : x_38 = (3 : Int32) := ex_38.trans (by decide)
              refine lv_iload_n hx hb dX5_tryFrom_100 rfl (lv_at hl 6 rfl) ?_
              refine lv_iload hx hb dX5_tryFrom_101 (lv_at hl 1 rfl) ?_
              refine lv_iadd hx hb dX5_tryFrom_103 ?_
              refine lv_topi (fun x_39 ex_39 => ?_)
              refine lv_iload_n hx hb dX5_tryFrom_104 rfl (lv_at hl 7 rfl) ?_
              refine lv_iload hx hb dX5_tryFrom_105 (lv_at hl 0 rfl) ?_
              refine va_mmax hx hb (hml.trans hl.1.symm) hown (hts _ kw_976) (hts _ kw_882) (hts _ kw_109) (hts _ kw_883) (Nat.le_of_ble_eq_true rfl) (Nat.le_of_ble_eq_true rfl) (Nat.le_of_ble_eq_true rfl) (Nat.le_of_ble_eq_true rfl) dX5_tryFrom_107 ?_
              refine lv_topi (fun x_40 ex_40 => ?_)
              refine lv_iload hx hb dX5_tryFrom_110 (lv_at hl 8 rfl) ?_
              refine lv_iload hx hb dX5_tryFrom_112 (lv_at hl 0 rfl) ?_
              refine lv_iadd hx hb dX5_tryFrom_114 ?_
              have rg_41 := i32_r i4
              have rg_42 := i32_r r_29
              refine lv_topi (fun x_43 ex_43 => ?_)
              refine hx_gov (hx_runVX (As := [.int (3 : Int32), .int x_39, .int x_40, .int x_43]) (rest := []) ⟨hx, hb, hml, hown, hts⟩ hW gx tt_5 (T := TX5) (N := 13) rfl (t_X5_tryFrom_3 l dC dI dA L_27 h_33 H.size b0 x x_39 x_40 x_43 hT gx) hZ (cwV 4 hts (hx_gV kw_969 kw_966 kw_968 kw_34 kw_100) rfl rfl rfl (by decide +kernel) ⟨Nat.le_of_ble_eq_true rfl, Nat.le_of_ble_eq_true rfl⟩) rfl hl.1 rfl (Nat.le_of_ble_eq_true rfl) dX5_tryFrom_115 ⟨Nat.le_of_ble_eq_true rfl, Nat.le_of_ble_eq_true rfl⟩) hW (fun L_44 h_45 H locs p_47 hW => ?_)
              obtain ⟨hT, hs⟩ := p_47
              replace hT : hx_T T_tb L_44 h_45 := hT
              replace hs : hx_S T_tb [(5, 11), (5, 12), (28, 0), (33, 0)] L_27 h_33 L_44 h_45 := hs
              replace fx_1 := (hs.o gx trivial rfl).1.trans fx_1
              replace fq_10 := (hs.o gx trivial rfl).2.trans fq_10
              replace fx_12 := (hs.o gx trivial rfl).1.trans fx_12
              replace fx_23 := (hs.o gx trivial rfl).1.trans fx_23
              replace fq_25 := (hs.o gx trivial rfl).2.trans fq_25
              replace fq_32 := (hs.o gx trivial rfl).2.trans fq_32
              replace hM := hM.tr (hs.mono ?o37)
              case o37 => decide
              replace gx := gx.S hs
              replace gq_10 := gq_10.S hs
              replace gq_25 := gq_25.S hs
              replace gq_32 := gq_32.S hs
              obtain ⟨x_49, ex_49⟩ : ∃ y : Int32, y = iv28_6 + Int32.ofInt 1 := ⟨_, rfl⟩
              have rg_50 := i32_r iv28_6
              have zx_49 : x_49.toInt = iv28_6.toInt + (1) := ?o38
              case o38 =>
                rw [ex_49]
                refine i32_add rfl ?o39 ?o40 ?o41
                case o39 => decide
                case o40 => omega
                case o41 => omega
              refine lv_iinc (v := x_49) (lv' := [(6, .int x_49), (8, .int r_29), (7, .int x_16), (5, .int r_6), (0, .ref x), (1, .int (2 : Int32)), (2, .int i2), (3, .int i3), (4, .int i4)]) hx hb dX5_tryFrom_118 hl (k := 2) rfl ex_49.symm ?o42 rfl (fun ls hl => ?_)
              case o42 => decide
              refine lv_goto (tgt := 28) hx hb dX5_tryFrom_121 ?o43 ?_
              case o43 => decide
              refine ih28 x_49 _ _ L_44 h_45 ls ?o44 ?o45 ?o46 hW hT hM fx_1 gx  (lv_sub hl [0, 3, 4, 5, 6, 7, 8] rfl)
              case o44 => omega
              case o45 => omega
              case o46 => omega
          · skip
            exact hx_retv hx hb hr hlk hW ⟨hT, hM⟩ dX5_tryFrom_65
    refine loop28 14 (0 : Int32) _ _ L_4 h_5 ls ?o47 ?o48 ?o49 hW hT hM fx_1 gx  hl
    case o47 => decide
    case o48 => decide
    case o49 => decide
  · skip
    refine lv_aload_n hx hb dX5_tryFrom_8 rfl (lv_at hl 0 rfl) ?_
    refine lv_iload_n hx hb dX5_tryFrom_9 rfl (lv_at hl 3 rfl) ?_
    refine lv_iload hx hb dX5_tryFrom_10 (lv_at hl 4 rfl) ?_
    refine hx_gov (hx_runV (As := [.int i3, .int i4]) (rest := []) ⟨hx, hb, hml, hown, hts⟩ hW gx tt_5 (T := TX5) (N := 13) rfl (t_X5_keepIfBetter l dC dI dA L h s.heap.size x i3 i4 hT gx) (cwV 2 hts (hx_gV kw_973 kw_970 kw_972 kw_35 kw_100) rfl rfl rfl (by decide +kernel) ⟨Nat.le_of_ble_eq_true rfl, Nat.le_of_ble_eq_true rfl⟩) rfl hl.1 rfl (Nat.le_of_ble_eq_true rfl) dX5_tryFrom_12 ⟨Nat.le_of_ble_eq_true rfl, Nat.le_of_ble_eq_true rfl⟩) hW (fun L_51 h_52 H locs p_54 hW => ?_)
    obtain ⟨hT, hs⟩ := p_54
    replace hT : hx_T T_tb L_51 h_52 := hT
    replace hs : hx_S T_tb [(5, 11), (5, 12), (28, 0)] L h L_51 h_52 := hs
    replace fx_1 := (hs.o gx trivial rfl).1.trans fx_1
    replace hM := hM.tr (hs.mono ?o50)
    case o50 => decide
    replace gx := gx.S hs
    exact hx_retv hx hb hr hlk hW ⟨hT, hM⟩ dX5_tryFrom_15


set_option maxHeartbeats 4000000 in
set_option maxRecDepth 100000 in
theorem t_X5_tryFrom_1 (l : Launch) (dC : Nat → ClassId) (dI : Nat → Nat → Nat) (dA : Nat → ClassId) (L : List Nat) (h : hx_h) (sz : Nat) (b0 : hx_z) (x : Nat) (i2 : Int32) (i3 : Int32) (i4 : Int32) (hT : hx_T T_tb L h) (gx : hx_g L h x 5)  : Met l yX5_tryFrom (Cond.code yX5_tryFrom cX5_tryFrom 9 none :: hx_all) ({ frames := 5, cells := 0, slots := 0, locals := 146 }) (va_Pc [.ref x, .int (1 : Int32), .int i2, .int i3, .int i4] (hx_BX T_tb (P_ty dA) (dC, dI) vwCl L h sz b0)) (va_Qv (fun (u : List Nat × hx_h) => hx_T T_tb u.1 u.2 ∧ hx_S T_tb [(5, 11), (5, 12), (28, 0), (33, 0)] L h u.1 u.2) (hx_E T_tb (P_ty dA) (dC, dI) vwCl (hx_A L sz)) (hx_A L sz)) 0 0 (hx_A L sz) := by
  refine hx_metX (lv := [(0, .ref x), (1, .int (1 : Int32)), (2, .int i2), (3, .int i3), (4, .int i4)]) (by decide +kernel) rfl (Nat.le_of_ble_eq_true rfl) rfl ?_
  intro p e s m below meth c hx hb hml hr hlk hts0 hown hin hsz hW hZ ls hl
  have hts : ∀ w ∈ hx_all, w.before _ s = true := fun w hw => hts0 w (List.mem_cons_of_mem _ hw)
  have hown : s.vm.findClass "SmallCourt$Plan" = some m.cls := hown
  have hM : hx_S T_tb [(5, 11), (5, 12), (28, 0), (33, 0)] L h L h := hx_S.rf
  refine lv_iload_n hx hb dX5_tryFrom_0 rfl (lv_at hl 1 rfl) ?_
  refine lv_aload_n hx hb dX5_tryFrom_1 rfl (lv_at hl 0 rfl) ?_
  refine hx_geti hx hb hts hC_5 hown hW hT gx tt_5 0 ?o0 rfl kw_258 ⟨rfl, rfl, rfl⟩ dX5_tryFrom_2 (fun x_1 ex_1 lx_1 ux_1 => ?_)
  case o0 => decide
  have fx_1 := ex_1.symm
  refine hb_icmp_lt (zx := 1) (zy := x_1.toInt) (tgt := 16) hx hb ?o1 rfl dX5_tryFrom_5 ?o2 (fun c_2 => ?_) (fun c_2 => ?_)
  case o1 => decide
  case o2 => decide
  · skip
    refine lv_aload_n hx hb dX5_tryFrom_16 rfl (lv_at hl 0 rfl) ?_
    refine lv_iload_n hx hb dX5_tryFrom_17 rfl (lv_at hl 1 rfl) ?_
    refine lv_iconst (v := 1) hx hb dX5_tryFrom_18 ?o3 ?_
    case o3 => decide
    refine lv_iadd hx hb dX5_tryFrom_19 ?_
    refine lv_topi (fun x_3 ex_3 => ?_)
    obtain rfl : x_3 = (2 : Int32) := ex_3.trans (by decide)
    refine hx_goi (hx_runV (As := [.int (2 : Int32)]) (rest := []) ⟨hx, hb, hml, hown, hts⟩ hW gx tt_5 (T := TX5) (N := 13) rfl (t_X5_leastFrom l dC dI dA L h s.heap.size x (2 : Int32) hT gx ?o4) (cwV 1 hts (hx_gV kw_964 kw_961 kw_963 kw_33 kw_100) rfl rfl rfl (by decide +kernel) ⟨Nat.le_of_ble_eq_true rfl, Nat.le_of_ble_eq_true rfl⟩) rfl hl.1 rfl (Nat.le_of_ble_eq_true rfl) dX5_tryFrom_20 ⟨Nat.le_of_ble_eq_true rfl, Nat.le_of_ble_eq_true rfl⟩) hW (fun r_6 L_4 h_5 H locs p_7 hW => ?_)
    case o4 => decide
    obtain ⟨hr_8, hT, hs⟩ := p_7
    replace hT : hx_T T_tb L_4 h_5 := hT
    replace hs : hx_S T_tb [] L h L_4 h_5 := hs
    replace fx_1 := (hs.o gx trivial rfl).1.trans fx_1
    replace hM := hM.tr (hs.mono ?o5)
    case o5 => decide
    replace gx := gx.S hs
    refine lv_istore (lv' := [(5, .int r_6), (0, .ref x), (1, .int (1 : Int32)), (2, .int i2), (3, .int i3), (4, .int i4)]) hx hb dX5_tryFrom_23 hl ?o6 rfl (fun ls hl => ?_)
    case o6 => decide
    refine lv_iconst (v := 0) hx hb dX5_tryFrom_25 ?o7 ?_
    case o7 => decide
    refine lv_istore (lv' := [(6, .int (0 : Int32)), (5, .int r_6), (0, .ref x), (1, .int (1 : Int32)), (2, .int i2), (3, .int i3), (4, .int i4)]) hx hb dX5_tryFrom_26 hl ?o8 rfl (fun ls hl => ?_)
    case o8 => decide
    have loop28 : ∀ (n28 : Nat) (iv28_6 : Int32) (H : Heap) (locs : List Loc) (hL1 : List Nat) (hl1 : hx_h) (ls : Array Slot), 0 ≤ iv28_6.toInt → iv28_6.toInt ≤ 13 → 13 < iv28_6.toInt + n28 → hx_W T_tb (P_ty dA) (dC, dI) vwCl (hx_A L sz) s.heap hL1 hl1 s H locs → hx_T T_tb hL1 hl1 → hx_S T_tb [(5, 11), (5, 12), (28, 0), (33, 0)] L h hL1 hl1 → hl1.2.1 x 0 = x_1 → hx_g hL1 hl1 x 5 → lv_has ls 9 [(6, .int iv28_6), (5, .int r_6), (0, .ref x), (1, .int (1 : Int32)), (2, .int i2), (3, .int i3), (4, .int i4)] → W p l e ({ frames := 5, cells := 0, slots := 0, locals := 146 }) s m ([.ref x, .int (1 : Int32), .int i2, .int i3, .int i4] : List Value).toArray below meth c H locs 0 0 (MQ below (va_Qv (fun (u : List Nat × hx_h) => hx_T T_tb u.1 u.2 ∧ hx_S T_tb [(5, 11), (5, 12), (28, 0), (33, 0)] L h u.1 u.2) (hx_E T_tb (P_ty dA) (dC, dI) vwCl (hx_A L sz)) (hx_A L sz)) ([.ref x, .int (1 : Int32), .int i2, .int i3, .int i4] : List Value).toArray s 0 0 (hx_A L sz)) (F0 m 28 ls []) := by
      intro n28
      induction n28 with
      | zero => intro iv28_6 H locs hL1 hl1 ls bl28_6 bu28_6 hn28; exfalso; omega
      | succ n28 ih28 =>
        intro iv28_6 H locs hL1 hl1 ls bl28_6 bu28_6 hn28 hW hT hM fx_1 gx  hl
        refine lv_iload hx hb dX5_tryFrom_28 (lv_at hl 0 rfl) ?_
        refine lv_bipush (v := 12) hx hb dX5_tryFrom_30 ?o9 ?_
        case o9 => decide
        refine hb_icmp_gt (zx := iv28_6.toInt) (zy := 12) (tgt := 124) hx hb rfl ?o10 dX5_tryFrom_32 ?o11 (fun c_9 => ?_) (fun c_9 => ?_)
        case o10 => decide
        case o11 => decide
        · skip
          exact hx_retv hx hb hr hlk hW ⟨hT, hM⟩ dX5_tryFrom_124
        · skip
          refine lv_aload_n hx hb dX5_tryFrom_35 rfl (lv_at hl 2 rfl) ?_
          refine hx_getn hx hb hts hC_5 hown hW hT gx tt_5 7 ?o12 rfl kw_270 ⟨rfl, rfl, rfl⟩ dX5_tryFrom_36 (fun q_10 fq_10 gq_10 => ?_)
          case o12 => decide
          refine lv_iload_n hx hb dX5_tryFrom_39 rfl (lv_at hl 3 rfl) ?_
          refine hx_iald hx hb hW hT gq_10 tt_32 rfl ?o13 dX5_tryFrom_40 (fun x_11 ex_11 lx_11 ux_11 => ?_)
          case o13 => decide
          refine lv_iload hx hb dX5_tryFrom_41 (lv_at hl 0 rfl) ?_
          refine lv_aload_n hx hb dX5_tryFrom_43 rfl (lv_at hl 2 rfl) ?_
          refine hx_geti hx hb hts hC_5 hown hW hT gx tt_5 9 ?o14 rfl kw_272 ⟨rfl, rfl, rfl⟩ dX5_tryFrom_44 (fun x_12 ex_12 lx_12 ux_12 => ?_)
          case o14 => decide
          have fx_12 := ex_12.symm
          refine lv_imul hx hb dX5_tryFrom_47 ?_
          refine lv_topi (fun x_13 ex_13 => ?_)
          refine lv_iadd hx hb dX5_tryFrom_48 ?_
          have rg_14 := i32_r x_11
          have rg_15 := i32_r x_13
          refine lv_topi (fun x_16 ex_16 => ?_)
          refine lv_istore (lv' := [(7, .int x_16), (6, .int iv28_6), (5, .int r_6), (0, .ref x), (1, .int (1 : Int32)), (2, .int i2), (3, .int i3), (4, .int i4)]) hx hb dX5_tryFrom_49 hl ?o15 rfl (fun ls hl => ?_)
          case o15 => decide
          refine lv_iload_n hx hb dX5_tryFrom_51 rfl (lv_at hl 5 rfl) ?_
          refine lv_iload hx hb dX5_tryFrom_52 (lv_at hl 0 rfl) ?_
          refine lv_iadd hx hb dX5_tryFrom_54 ?_
          have rg_17 := i32_r i2
          have rg_18 := i32_r x_16
          refine lv_topi (fun x_19 ex_19 => ?_)
          refine lv_iload hx hb dX5_tryFrom_55 (lv_at hl 2 rfl) ?_
          refine lv_iadd hx hb dX5_tryFrom_57 ?_
          have rg_20 := i32_r x_19
          have rg_21 := i32_r r_6
          refine lv_topi (fun x_22 ex_22 => ?_)
          refine lv_aload_n hx hb dX5_tryFrom_58 rfl (lv_at hl 3 rfl) ?_
          refine hx_geti hx hb hts hC_5 hown hW hT gx tt_5 10 ?o16 rfl kw_273 ⟨rfl, rfl, rfl⟩ dX5_tryFrom_59 (fun x_23 ex_23 lx_23 ux_23 => ?_)
          case o16 => decide
          have fx_23 := ex_23.symm
          refine hb_icmp_le (zx := x_22.toInt) (zy := x_23.toInt) (tgt := 66) hx hb rfl rfl dX5_tryFrom_62 ?o17 (fun c_24 => ?_) (fun c_24 => ?_)
          case o17 => decide
          · skip
            refine lv_aload_n hx hb dX5_tryFrom_66 rfl (lv_at hl 3 rfl) ?_
            refine hx_getn hx hb hts hC_5 hown hW hT gx tt_5 6 ?o18 rfl kw_269 ⟨rfl, rfl, rfl⟩ dX5_tryFrom_67 (fun q_25 fq_25 gq_25 => ?_)
            case o18 => decide
            refine lv_iload_n hx hb dX5_tryFrom_70 rfl (lv_at hl 4 rfl) ?_
            refine hx_iald hx hb hW hT gq_25 tt_31 rfl ?o19 dX5_tryFrom_71 (fun x_26 ex_26 lx_26 ux_26 => ?_)
            case o19 => decide
            refine lv_iload hx hb dX5_tryFrom_72 (lv_at hl 0 rfl) ?_
            refine hx_goi (hx_runSN (As := [.int x_26, .int x_16]) (rest := []) ⟨hx, hb, hml, hown, hts⟩ hW (t_X9_roundUp l dC dI dA hL1 hl1 H.size x_26 x_16 hT) ⟨va_cnB 2 hts (hx_gC kw_921) rfl rfl rfl (hZ.1 _ (List.mem_of_getElem? (i := 10) rfl)) (hts _ kw_94) (by decide +kernel) ⟨Nat.le_of_ble_eq_true rfl, Nat.le_of_ble_eq_true rfl⟩, hts _ kw_920, trivial⟩ rfl hl.1 rfl (Nat.le_of_ble_eq_true rfl) dX5_tryFrom_74 ⟨Nat.le_of_ble_eq_true rfl, Nat.le_of_ble_eq_true rfl⟩) hW (fun r_29 L_27 h_28 H locs p_30 hW => ?_)
            obtain ⟨hr_31, hT, hs⟩ := p_30
            replace hT : hx_T T_tb L_27 h_28 := hT
            replace hs : hx_S T_tb [] hL1 hl1 L_27 h_28 := hs
            replace fx_1 := (hs.o gx trivial rfl).1.trans fx_1
            replace fq_10 := (hs.o gx trivial rfl).2.trans fq_10
            replace fx_12 := (hs.o gx trivial rfl).1.trans fx_12
            replace fx_23 := (hs.o gx trivial rfl).1.trans fx_23
            replace fq_25 := (hs.o gx trivial rfl).2.trans fq_25
            replace hM := hM.tr (hs.mono ?o20)
            case o20 => decide
            replace gx := gx.S hs
            replace gq_10 := gq_10.S hs
            replace gq_25 := gq_25.S hs
            refine lv_istore (lv' := [(8, .int r_29), (7, .int x_16), (6, .int iv28_6), (5, .int r_6), (0, .ref x), (1, .int (1 : Int32)), (2, .int i2), (3, .int i3), (4, .int i4)]) hx hb dX5_tryFrom_77 hl ?o21 rfl (fun ls hl => ?_)
            case o21 => decide
            refine lv_aload_n hx hb dX5_tryFrom_79 rfl (lv_at hl 4 rfl) ?_
            refine hx_getn hx hb hts hC_5 hown hW hT gx tt_5 8 ?o22 rfl kw_271 ⟨rfl, rfl, rfl⟩ dX5_tryFrom_80 (fun q_32 fq_32 gq_32 => ?_)
            case o22 => decide
            refine lv_iload_n hx hb dX5_tryFrom_83 rfl (lv_at hl 5 rfl) ?_
            refine lv_iload hx hb dX5_tryFrom_84 (lv_at hl 1 rfl) ?_
            refine hx_iast hx hb hW hT (hx_S.rf (M := [(33, 0)])) gq_32 tt_33 rfl ?o23 rfl (i32_r _) (List.mem_singleton.mpr rfl) dX5_tryFrom_86 (fun H locs h_33 eh_33 hW hT hs => ?_)
            case o23 => decide
            replace fx_1 := (hs.o gx trivial rfl).1.trans fx_1
            replace fq_10 := (hs.o gx trivial rfl).2.trans fq_10
            replace fx_12 := (hs.o gx trivial rfl).1.trans fx_12
            replace fx_23 := (hs.o gx trivial rfl).1.trans fx_23
            replace fq_25 := (hs.o gx trivial rfl).2.trans fq_25
            replace fq_32 := (hs.o gx trivial rfl).2.trans fq_32
            replace hM := hM.tr (hs.mono ?o24)
            case o24 => decide
            replace gx := gx.S hs
            replace gq_10 := gq_10.S hs
            replace gq_25 := gq_25.S hs
            replace gq_32 := gq_32.S hs
            refine lv_iload hx hb dX5_tryFrom_87 (lv_at hl 0 rfl) ?_
            refine lv_aload_n hx hb dX5_tryFrom_89 rfl (lv_at hl 4 rfl) ?_
            refine hx_geti hx hb hts hC_5 hown hW hT gx tt_5 11 ?o25 rfl kw_274 ⟨rfl, rfl, rfl⟩ dX5_tryFrom_90 (fun x_34 ex_34 lx_34 ux_34 => ?_)
            case o25 => decide
            have fx_34 := ex_34.symm
            refine hb_icmp_gt (zx := r_29.toInt) (zy := x_34.toInt) (tgt := 118) hx hb rfl rfl dX5_tryFrom_93 ?o26 (fun c_35 => ?_) (fun c_35 => ?_)
            case o26 => decide
            · skip
              obtain ⟨x_36, ex_36⟩ : ∃ y : Int32, y = iv28_6 + Int32.ofInt 1 := ⟨_, rfl⟩
              have rg_37 := i32_r iv28_6
              have zx_36 : x_36.toInt = iv28_6.toInt + (1) := ?o27
              case o27 =>
                rw [ex_36]
                refine i32_add rfl ?o28 ?o29 ?o30
                case o28 => decide
                case o29 => omega
                case o30 => omega
              refine lv_iinc (v := x_36) (lv' := [(6, .int x_36), (8, .int r_29), (7, .int x_16), (5, .int r_6), (0, .ref x), (1, .int (1 : Int32)), (2, .int i2), (3, .int i3), (4, .int i4)]) hx hb dX5_tryFrom_118 hl (k := 2) rfl ex_36.symm ?o31 rfl (fun ls hl => ?_)
              case o31 => decide
              refine lv_goto (tgt := 28) hx hb dX5_tryFrom_121 ?o32 ?_
              case o32 => decide
              refine ih28 x_36 _ _ L_27 h_33 ls ?o33 ?o34 ?o35 hW hT hM fx_1 gx  (lv_sub hl [0, 3, 4, 5, 6, 7, 8] rfl)
              case o33 => omega
              case o34 => omega
              case o35 => omega
            · skip
              refine lv_aload_n hx hb dX5_tryFrom_96 rfl (lv_at hl 4 rfl) ?_
              refine lv_iload_n hx hb dX5_tryFrom_97 rfl (lv_at hl 5 rfl) ?_
              refine lv_iconst (v := 1) hx hb dX5_tryFrom_98 ?o36 ?_
              case o36 => decide
              refine lv_iadd hx hb dX5_tryFrom_99 ?_
              refine lv_topi (fun x_38 ex_38 => ?_)
              obtain rfl : x_38 = (2 : Int32) := ex_38.trans (by decide)
              refine lv_iload_n hx hb dX5_tryFrom_100 rfl (lv_at hl 6 rfl) ?_
              refine lv_iload hx hb dX5_tryFrom_101 (lv_at hl 1 rfl) ?_
              refine lv_iadd hx hb dX5_tryFrom_103 ?_
              refine lv_topi (fun x_39 ex_39 => ?_)
              refine lv_iload_n hx hb dX5_tryFrom_104 rfl (lv_at hl 7 rfl) ?_
              refine lv_iload hx hb dX5_tryFrom_105 (lv_at hl 0 rfl) ?_
              refine va_mmax hx hb (hml.trans hl.1.symm) hown (hts _ kw_976) (hts _ kw_882) (hts _ kw_109) (hts _ kw_883) (Nat.le_of_ble_eq_true rfl) (Nat.le_of_ble_eq_true rfl) (Nat.le_of_ble_eq_true rfl) (Nat.le_of_ble_eq_true rfl) dX5_tryFrom_107 ?_
              refine lv_topi (fun x_40 ex_40 => ?_)
              refine lv_iload hx hb dX5_tryFrom_110 (lv_at hl 8 rfl) ?_
              refine lv_iload hx hb dX5_tryFrom_112 (lv_at hl 0 rfl) ?_
              refine lv_iadd hx hb dX5_tryFrom_114 ?_
              have rg_41 := i32_r i4
              have rg_42 := i32_r r_29
              refine lv_topi (fun x_43 ex_43 => ?_)
              refine hx_gov (hx_runVX (As := [.int (2 : Int32), .int x_39, .int x_40, .int x_43]) (rest := []) ⟨hx, hb, hml, hown, hts⟩ hW gx tt_5 (T := TX5) (N := 13) rfl (t_X5_tryFrom_2 l dC dI dA L_27 h_33 H.size b0 x x_39 x_40 x_43 hT gx) hZ (cwV 4 hts (hx_gV kw_969 kw_966 kw_968 kw_34 kw_100) rfl rfl rfl (by decide +kernel) ⟨Nat.le_of_ble_eq_true rfl, Nat.le_of_ble_eq_true rfl⟩) rfl hl.1 rfl (Nat.le_of_ble_eq_true rfl) dX5_tryFrom_115 ⟨Nat.le_of_ble_eq_true rfl, Nat.le_of_ble_eq_true rfl⟩) hW (fun L_44 h_45 H locs p_47 hW => ?_)
              obtain ⟨hT, hs⟩ := p_47
              replace hT : hx_T T_tb L_44 h_45 := hT
              replace hs : hx_S T_tb [(5, 11), (5, 12), (28, 0), (33, 0)] L_27 h_33 L_44 h_45 := hs
              replace fx_1 := (hs.o gx trivial rfl).1.trans fx_1
              replace fq_10 := (hs.o gx trivial rfl).2.trans fq_10
              replace fx_12 := (hs.o gx trivial rfl).1.trans fx_12
              replace fx_23 := (hs.o gx trivial rfl).1.trans fx_23
              replace fq_25 := (hs.o gx trivial rfl).2.trans fq_25
              replace fq_32 := (hs.o gx trivial rfl).2.trans fq_32
              replace hM := hM.tr (hs.mono ?o37)
              case o37 => decide
              replace gx := gx.S hs
              replace gq_10 := gq_10.S hs
              replace gq_25 := gq_25.S hs
              replace gq_32 := gq_32.S hs
              obtain ⟨x_49, ex_49⟩ : ∃ y : Int32, y = iv28_6 + Int32.ofInt 1 := ⟨_, rfl⟩
              have rg_50 := i32_r iv28_6
              have zx_49 : x_49.toInt = iv28_6.toInt + (1) := ?o38
              case o38 =>
                rw [ex_49]
                refine i32_add rfl ?o39 ?o40 ?o41
                case o39 => decide
                case o40 => omega
                case o41 => omega
              refine lv_iinc (v := x_49) (lv' := [(6, .int x_49), (8, .int r_29), (7, .int x_16), (5, .int r_6), (0, .ref x), (1, .int (1 : Int32)), (2, .int i2), (3, .int i3), (4, .int i4)]) hx hb dX5_tryFrom_118 hl (k := 2) rfl ex_49.symm ?o42 rfl (fun ls hl => ?_)
              case o42 => decide
              refine lv_goto (tgt := 28) hx hb dX5_tryFrom_121 ?o43 ?_
              case o43 => decide
              refine ih28 x_49 _ _ L_44 h_45 ls ?o44 ?o45 ?o46 hW hT hM fx_1 gx  (lv_sub hl [0, 3, 4, 5, 6, 7, 8] rfl)
              case o44 => omega
              case o45 => omega
              case o46 => omega
          · skip
            exact hx_retv hx hb hr hlk hW ⟨hT, hM⟩ dX5_tryFrom_65
    refine loop28 14 (0 : Int32) _ _ L_4 h_5 ls ?o47 ?o48 ?o49 hW hT hM fx_1 gx  hl
    case o47 => decide
    case o48 => decide
    case o49 => decide
  · skip
    refine lv_aload_n hx hb dX5_tryFrom_8 rfl (lv_at hl 0 rfl) ?_
    refine lv_iload_n hx hb dX5_tryFrom_9 rfl (lv_at hl 3 rfl) ?_
    refine lv_iload hx hb dX5_tryFrom_10 (lv_at hl 4 rfl) ?_
    refine hx_gov (hx_runV (As := [.int i3, .int i4]) (rest := []) ⟨hx, hb, hml, hown, hts⟩ hW gx tt_5 (T := TX5) (N := 13) rfl (t_X5_keepIfBetter l dC dI dA L h s.heap.size x i3 i4 hT gx) (cwV 2 hts (hx_gV kw_973 kw_970 kw_972 kw_35 kw_100) rfl rfl rfl (by decide +kernel) ⟨Nat.le_of_ble_eq_true rfl, Nat.le_of_ble_eq_true rfl⟩) rfl hl.1 rfl (Nat.le_of_ble_eq_true rfl) dX5_tryFrom_12 ⟨Nat.le_of_ble_eq_true rfl, Nat.le_of_ble_eq_true rfl⟩) hW (fun L_51 h_52 H locs p_54 hW => ?_)
    obtain ⟨hT, hs⟩ := p_54
    replace hT : hx_T T_tb L_51 h_52 := hT
    replace hs : hx_S T_tb [(5, 11), (5, 12), (28, 0)] L h L_51 h_52 := hs
    replace fx_1 := (hs.o gx trivial rfl).1.trans fx_1
    replace hM := hM.tr (hs.mono ?o50)
    case o50 => decide
    replace gx := gx.S hs
    exact hx_retv hx hb hr hlk hW ⟨hT, hM⟩ dX5_tryFrom_15


set_option maxHeartbeats 4000000 in
set_option maxRecDepth 100000 in
theorem t_X5_tryFrom_0 (l : Launch) (dC : Nat → ClassId) (dI : Nat → Nat → Nat) (dA : Nat → ClassId) (L : List Nat) (h : hx_h) (sz : Nat) (b0 : hx_z) (x : Nat) (i2 : Int32) (i3 : Int32) (i4 : Int32) (hT : hx_T T_tb L h) (gx : hx_g L h x 5)  : Met l yX5_tryFrom (Cond.code yX5_tryFrom cX5_tryFrom 9 none :: hx_all) ({ frames := 6, cells := 0, slots := 0, locals := 174 }) (va_Pc [.ref x, .int (0 : Int32), .int i2, .int i3, .int i4] (hx_BX T_tb (P_ty dA) (dC, dI) vwCl L h sz b0)) (va_Qv (fun (u : List Nat × hx_h) => hx_T T_tb u.1 u.2 ∧ hx_S T_tb [(5, 11), (5, 12), (28, 0), (33, 0)] L h u.1 u.2) (hx_E T_tb (P_ty dA) (dC, dI) vwCl (hx_A L sz)) (hx_A L sz)) 0 0 (hx_A L sz) := by
  refine hx_metX (lv := [(0, .ref x), (1, .int (0 : Int32)), (2, .int i2), (3, .int i3), (4, .int i4)]) (by decide +kernel) rfl (Nat.le_of_ble_eq_true rfl) rfl ?_
  intro p e s m below meth c hx hb hml hr hlk hts0 hown hin hsz hW hZ ls hl
  have hts : ∀ w ∈ hx_all, w.before _ s = true := fun w hw => hts0 w (List.mem_cons_of_mem _ hw)
  have hown : s.vm.findClass "SmallCourt$Plan" = some m.cls := hown
  have hM : hx_S T_tb [(5, 11), (5, 12), (28, 0), (33, 0)] L h L h := hx_S.rf
  refine lv_iload_n hx hb dX5_tryFrom_0 rfl (lv_at hl 1 rfl) ?_
  refine lv_aload_n hx hb dX5_tryFrom_1 rfl (lv_at hl 0 rfl) ?_
  refine hx_geti hx hb hts hC_5 hown hW hT gx tt_5 0 ?o0 rfl kw_258 ⟨rfl, rfl, rfl⟩ dX5_tryFrom_2 (fun x_1 ex_1 lx_1 ux_1 => ?_)
  case o0 => decide
  have fx_1 := ex_1.symm
  refine hb_icmp_lt (zx := 0) (zy := x_1.toInt) (tgt := 16) hx hb ?o1 rfl dX5_tryFrom_5 ?o2 (fun c_2 => ?_) (fun c_2 => ?_)
  case o1 => decide
  case o2 => decide
  · skip
    refine lv_aload_n hx hb dX5_tryFrom_16 rfl (lv_at hl 0 rfl) ?_
    refine lv_iload_n hx hb dX5_tryFrom_17 rfl (lv_at hl 1 rfl) ?_
    refine lv_iconst (v := 1) hx hb dX5_tryFrom_18 ?o3 ?_
    case o3 => decide
    refine lv_iadd hx hb dX5_tryFrom_19 ?_
    refine lv_topi (fun x_3 ex_3 => ?_)
    obtain rfl : x_3 = (1 : Int32) := ex_3.trans (by decide)
    refine hx_goi (hx_runV (As := [.int (1 : Int32)]) (rest := []) ⟨hx, hb, hml, hown, hts⟩ hW gx tt_5 (T := TX5) (N := 13) rfl (t_X5_leastFrom l dC dI dA L h s.heap.size x (1 : Int32) hT gx ?o4) (cwV 1 hts (hx_gV kw_964 kw_961 kw_963 kw_33 kw_100) rfl rfl rfl (by decide +kernel) ⟨Nat.le_of_ble_eq_true rfl, Nat.le_of_ble_eq_true rfl⟩) rfl hl.1 rfl (Nat.le_of_ble_eq_true rfl) dX5_tryFrom_20 ⟨Nat.le_of_ble_eq_true rfl, Nat.le_of_ble_eq_true rfl⟩) hW (fun r_6 L_4 h_5 H locs p_7 hW => ?_)
    case o4 => decide
    obtain ⟨hr_8, hT, hs⟩ := p_7
    replace hT : hx_T T_tb L_4 h_5 := hT
    replace hs : hx_S T_tb [] L h L_4 h_5 := hs
    replace fx_1 := (hs.o gx trivial rfl).1.trans fx_1
    replace hM := hM.tr (hs.mono ?o5)
    case o5 => decide
    replace gx := gx.S hs
    refine lv_istore (lv' := [(5, .int r_6), (0, .ref x), (1, .int (0 : Int32)), (2, .int i2), (3, .int i3), (4, .int i4)]) hx hb dX5_tryFrom_23 hl ?o6 rfl (fun ls hl => ?_)
    case o6 => decide
    refine lv_iconst (v := 0) hx hb dX5_tryFrom_25 ?o7 ?_
    case o7 => decide
    refine lv_istore (lv' := [(6, .int (0 : Int32)), (5, .int r_6), (0, .ref x), (1, .int (0 : Int32)), (2, .int i2), (3, .int i3), (4, .int i4)]) hx hb dX5_tryFrom_26 hl ?o8 rfl (fun ls hl => ?_)
    case o8 => decide
    have loop28 : ∀ (n28 : Nat) (iv28_6 : Int32) (H : Heap) (locs : List Loc) (hL1 : List Nat) (hl1 : hx_h) (ls : Array Slot), 0 ≤ iv28_6.toInt → iv28_6.toInt ≤ 13 → 13 < iv28_6.toInt + n28 → hx_W T_tb (P_ty dA) (dC, dI) vwCl (hx_A L sz) s.heap hL1 hl1 s H locs → hx_T T_tb hL1 hl1 → hx_S T_tb [(5, 11), (5, 12), (28, 0), (33, 0)] L h hL1 hl1 → hl1.2.1 x 0 = x_1 → hx_g hL1 hl1 x 5 → lv_has ls 9 [(6, .int iv28_6), (5, .int r_6), (0, .ref x), (1, .int (0 : Int32)), (2, .int i2), (3, .int i3), (4, .int i4)] → W p l e ({ frames := 6, cells := 0, slots := 0, locals := 174 }) s m ([.ref x, .int (0 : Int32), .int i2, .int i3, .int i4] : List Value).toArray below meth c H locs 0 0 (MQ below (va_Qv (fun (u : List Nat × hx_h) => hx_T T_tb u.1 u.2 ∧ hx_S T_tb [(5, 11), (5, 12), (28, 0), (33, 0)] L h u.1 u.2) (hx_E T_tb (P_ty dA) (dC, dI) vwCl (hx_A L sz)) (hx_A L sz)) ([.ref x, .int (0 : Int32), .int i2, .int i3, .int i4] : List Value).toArray s 0 0 (hx_A L sz)) (F0 m 28 ls []) := by
      intro n28
      induction n28 with
      | zero => intro iv28_6 H locs hL1 hl1 ls bl28_6 bu28_6 hn28; exfalso; omega
      | succ n28 ih28 =>
        intro iv28_6 H locs hL1 hl1 ls bl28_6 bu28_6 hn28 hW hT hM fx_1 gx  hl
        refine lv_iload hx hb dX5_tryFrom_28 (lv_at hl 0 rfl) ?_
        refine lv_bipush (v := 12) hx hb dX5_tryFrom_30 ?o9 ?_
        case o9 => decide
        refine hb_icmp_gt (zx := iv28_6.toInt) (zy := 12) (tgt := 124) hx hb rfl ?o10 dX5_tryFrom_32 ?o11 (fun c_9 => ?_) (fun c_9 => ?_)
        case o10 => decide
        case o11 => decide
        · skip
          exact hx_retv hx hb hr hlk hW ⟨hT, hM⟩ dX5_tryFrom_124
        · skip
          refine lv_aload_n hx hb dX5_tryFrom_35 rfl (lv_at hl 2 rfl) ?_
          refine hx_getn hx hb hts hC_5 hown hW hT gx tt_5 7 ?o12 rfl kw_270 ⟨rfl, rfl, rfl⟩ dX5_tryFrom_36 (fun q_10 fq_10 gq_10 => ?_)
          case o12 => decide
          refine lv_iload_n hx hb dX5_tryFrom_39 rfl (lv_at hl 3 rfl) ?_
          refine hx_iald hx hb hW hT gq_10 tt_32 rfl ?o13 dX5_tryFrom_40 (fun x_11 ex_11 lx_11 ux_11 => ?_)
          case o13 => decide
          refine lv_iload hx hb dX5_tryFrom_41 (lv_at hl 0 rfl) ?_
          refine lv_aload_n hx hb dX5_tryFrom_43 rfl (lv_at hl 2 rfl) ?_
          refine hx_geti hx hb hts hC_5 hown hW hT gx tt_5 9 ?o14 rfl kw_272 ⟨rfl, rfl, rfl⟩ dX5_tryFrom_44 (fun x_12 ex_12 lx_12 ux_12 => ?_)
          case o14 => decide
          have fx_12 := ex_12.symm
          refine lv_imul hx hb dX5_tryFrom_47 ?_
          refine lv_topi (fun x_13 ex_13 => ?_)
          refine lv_iadd hx hb dX5_tryFrom_48 ?_
          have rg_14 := i32_r x_11
          have rg_15 := i32_r x_13
          refine lv_topi (fun x_16 ex_16 => ?_)
          refine lv_istore (lv' := [(7, .int x_16), (6, .int iv28_6), (5, .int r_6), (0, .ref x), (1, .int (0 : Int32)), (2, .int i2), (3, .int i3), (4, .int i4)]) hx hb dX5_tryFrom_49 hl ?o15 rfl (fun ls hl => ?_)
          case o15 => decide
          refine lv_iload_n hx hb dX5_tryFrom_51 rfl (lv_at hl 5 rfl) ?_
          refine lv_iload hx hb dX5_tryFrom_52 (lv_at hl 0 rfl) ?_
          refine lv_iadd hx hb dX5_tryFrom_54 ?_
          have rg_17 := i32_r i2
          have rg_18 := i32_r x_16
          refine lv_topi (fun x_19 ex_19 => ?_)
          refine lv_iload hx hb dX5_tryFrom_55 (lv_at hl 2 rfl) ?_
          refine lv_iadd hx hb dX5_tryFrom_57 ?_
          have rg_20 := i32_r x_19
          have rg_21 := i32_r r_6
          refine lv_topi (fun x_22 ex_22 => ?_)
          refine lv_aload_n hx hb dX5_tryFrom_58 rfl (lv_at hl 3 rfl) ?_
          refine hx_geti hx hb hts hC_5 hown hW hT gx tt_5 10 ?o16 rfl kw_273 ⟨rfl, rfl, rfl⟩ dX5_tryFrom_59 (fun x_23 ex_23 lx_23 ux_23 => ?_)
          case o16 => decide
          have fx_23 := ex_23.symm
          refine hb_icmp_le (zx := x_22.toInt) (zy := x_23.toInt) (tgt := 66) hx hb rfl rfl dX5_tryFrom_62 ?o17 (fun c_24 => ?_) (fun c_24 => ?_)
          case o17 => decide
          · skip
            refine lv_aload_n hx hb dX5_tryFrom_66 rfl (lv_at hl 3 rfl) ?_
            refine hx_getn hx hb hts hC_5 hown hW hT gx tt_5 6 ?o18 rfl kw_269 ⟨rfl, rfl, rfl⟩ dX5_tryFrom_67 (fun q_25 fq_25 gq_25 => ?_)
            case o18 => decide
            refine lv_iload_n hx hb dX5_tryFrom_70 rfl (lv_at hl 4 rfl) ?_
            refine hx_iald hx hb hW hT gq_25 tt_31 rfl ?o19 dX5_tryFrom_71 (fun x_26 ex_26 lx_26 ux_26 => ?_)
            case o19 => decide
            refine lv_iload hx hb dX5_tryFrom_72 (lv_at hl 0 rfl) ?_
            refine hx_goi (hx_runSN (As := [.int x_26, .int x_16]) (rest := []) ⟨hx, hb, hml, hown, hts⟩ hW (t_X9_roundUp l dC dI dA hL1 hl1 H.size x_26 x_16 hT) ⟨va_cnB 2 hts (hx_gC kw_921) rfl rfl rfl (hZ.1 _ (List.mem_of_getElem? (i := 10) rfl)) (hts _ kw_94) (by decide +kernel) ⟨Nat.le_of_ble_eq_true rfl, Nat.le_of_ble_eq_true rfl⟩, hts _ kw_920, trivial⟩ rfl hl.1 rfl (Nat.le_of_ble_eq_true rfl) dX5_tryFrom_74 ⟨Nat.le_of_ble_eq_true rfl, Nat.le_of_ble_eq_true rfl⟩) hW (fun r_29 L_27 h_28 H locs p_30 hW => ?_)
            obtain ⟨hr_31, hT, hs⟩ := p_30
            replace hT : hx_T T_tb L_27 h_28 := hT
            replace hs : hx_S T_tb [] hL1 hl1 L_27 h_28 := hs
            replace fx_1 := (hs.o gx trivial rfl).1.trans fx_1
            replace fq_10 := (hs.o gx trivial rfl).2.trans fq_10
            replace fx_12 := (hs.o gx trivial rfl).1.trans fx_12
            replace fx_23 := (hs.o gx trivial rfl).1.trans fx_23
            replace fq_25 := (hs.o gx trivial rfl).2.trans fq_25
            replace hM := hM.tr (hs.mono ?o20)
            case o20 => decide
            replace gx := gx.S hs
            replace gq_10 := gq_10.S hs
            replace gq_25 := gq_25.S hs
            refine lv_istore (lv' := [(8, .int r_29), (7, .int x_16), (6, .int iv28_6), (5, .int r_6), (0, .ref x), (1, .int (0 : Int32)), (2, .int i2), (3, .int i3), (4, .int i4)]) hx hb dX5_tryFrom_77 hl ?o21 rfl (fun ls hl => ?_)
            case o21 => decide
            refine lv_aload_n hx hb dX5_tryFrom_79 rfl (lv_at hl 4 rfl) ?_
            refine hx_getn hx hb hts hC_5 hown hW hT gx tt_5 8 ?o22 rfl kw_271 ⟨rfl, rfl, rfl⟩ dX5_tryFrom_80 (fun q_32 fq_32 gq_32 => ?_)
            case o22 => decide
            refine lv_iload_n hx hb dX5_tryFrom_83 rfl (lv_at hl 5 rfl) ?_
            refine lv_iload hx hb dX5_tryFrom_84 (lv_at hl 1 rfl) ?_
            refine hx_iast hx hb hW hT (hx_S.rf (M := [(33, 0)])) gq_32 tt_33 rfl ?o23 rfl (i32_r _) (List.mem_singleton.mpr rfl) dX5_tryFrom_86 (fun H locs h_33 eh_33 hW hT hs => ?_)
            case o23 => decide
            replace fx_1 := (hs.o gx trivial rfl).1.trans fx_1
            replace fq_10 := (hs.o gx trivial rfl).2.trans fq_10
            replace fx_12 := (hs.o gx trivial rfl).1.trans fx_12
            replace fx_23 := (hs.o gx trivial rfl).1.trans fx_23
            replace fq_25 := (hs.o gx trivial rfl).2.trans fq_25
            replace fq_32 := (hs.o gx trivial rfl).2.trans fq_32
            replace hM := hM.tr (hs.mono ?o24)
            case o24 => decide
            replace gx := gx.S hs
            replace gq_10 := gq_10.S hs
            replace gq_25 := gq_25.S hs
            replace gq_32 := gq_32.S hs
            refine lv_iload hx hb dX5_tryFrom_87 (lv_at hl 0 rfl) ?_
            refine lv_aload_n hx hb dX5_tryFrom_89 rfl (lv_at hl 4 rfl) ?_
            refine hx_geti hx hb hts hC_5 hown hW hT gx tt_5 11 ?o25 rfl kw_274 ⟨rfl, rfl, rfl⟩ dX5_tryFrom_90 (fun x_34 ex_34 lx_34 ux_34 => ?_)
            case o25 => decide
            have fx_34 := ex_34.symm
            refine hb_icmp_gt (zx := r_29.toInt) (zy := x_34.toInt) (tgt := 118) hx hb rfl rfl dX5_tryFrom_93 ?o26 (fun c_35 => ?_) (fun c_35 => ?_)
            case o26 => decide
            · skip
              obtain ⟨x_36, ex_36⟩ : ∃ y : Int32, y = iv28_6 + Int32.ofInt 1 := ⟨_, rfl⟩
              have rg_37 := i32_r iv28_6
              have zx_36 : x_36.toInt = iv28_6.toInt + (1) := ?o27
              case o27 =>
                rw [ex_36]
                refine i32_add rfl ?o28 ?o29 ?o30
                case o28 => decide
                case o29 => omega
                case o30 => omega
              refine lv_iinc (v := x_36) (lv' := [(6, .int x_36), (8, .int r_29), (7, .int x_16), (5, .int r_6), (0, .ref x), (1, .int (0 : Int32)), (2, .int i2), (3, .int i3), (4, .int i4)]) hx hb dX5_tryFrom_118 hl (k := 2) rfl ex_36.symm ?o31 rfl (fun ls hl => ?_)
              case o31 => decide
              refine lv_goto (tgt := 28) hx hb dX5_tryFrom_121 ?o32 ?_
              case o32 => decide
              refine ih28 x_36 _ _ L_27 h_33 ls ?o33 ?o34 ?o35 hW hT hM fx_1 gx  (lv_sub hl [0, 3, 4, 5, 6, 7, 8] rfl)
              case o33 => omega
              case o34 => omega
              case o35 => omega
            · skip
              refine lv_aload_n hx hb dX5_tryFrom_96 rfl (lv_at hl 4 rfl) ?_
              refine lv_iload_n hx hb dX5_tryFrom_97 rfl (lv_at hl 5 rfl) ?_
              refine lv_iconst (v := 1) hx hb dX5_tryFrom_98 ?o36 ?_
              case o36 => decide
              refine lv_iadd hx hb dX5_tryFrom_99 ?_
              refine lv_topi (fun x_38 ex_38 => ?_)
              obtain rfl : x_38 = (1 : Int32) := ex_38.trans (by decide)
              refine lv_iload_n hx hb dX5_tryFrom_100 rfl (lv_at hl 6 rfl) ?_
              refine lv_iload hx hb dX5_tryFrom_101 (lv_at hl 1 rfl) ?_
              refine lv_iadd hx hb dX5_tryFrom_103 ?_
              refine lv_topi (fun x_39 ex_39 => ?_)
              refine lv_iload_n hx hb dX5_tryFrom_104 rfl (lv_at hl 7 rfl) ?_
              refine lv_iload hx hb dX5_tryFrom_105 (lv_at hl 0 rfl) ?_
              refine va_mmax hx hb (hml.trans hl.1.symm) hown (hts _ kw_976) (hts _ kw_882) (hts _ kw_109) (hts _ kw_883) (Nat.le_of_ble_eq_true rfl) (Nat.le_of_ble_eq_true rfl) (Nat.le_of_ble_eq_true rfl) (Nat.le_of_ble_eq_true rfl) dX5_tryFrom_107 ?_
              refine lv_topi (fun x_40 ex_40 => ?_)
              refine lv_iload hx hb dX5_tryFrom_110 (lv_at hl 8 rfl) ?_
              refine lv_iload hx hb dX5_tryFrom_112 (lv_at hl 0 rfl) ?_
              refine lv_iadd hx hb dX5_tryFrom_114 ?_
              have rg_41 := i32_r i4
              have rg_42 := i32_r r_29
              refine lv_topi (fun x_43 ex_43 => ?_)
              refine hx_gov (hx_runVX (As := [.int (1 : Int32), .int x_39, .int x_40, .int x_43]) (rest := []) ⟨hx, hb, hml, hown, hts⟩ hW gx tt_5 (T := TX5) (N := 13) rfl (t_X5_tryFrom_1 l dC dI dA L_27 h_33 H.size b0 x x_39 x_40 x_43 hT gx) hZ (cwV 4 hts (hx_gV kw_969 kw_966 kw_968 kw_34 kw_100) rfl rfl rfl (by decide +kernel) ⟨Nat.le_of_ble_eq_true rfl, Nat.le_of_ble_eq_true rfl⟩) rfl hl.1 rfl (Nat.le_of_ble_eq_true rfl) dX5_tryFrom_115 ⟨Nat.le_of_ble_eq_true rfl, Nat.le_of_ble_eq_true rfl⟩) hW (fun L_44 h_45 H locs p_47 hW => ?_)
              obtain ⟨hT, hs⟩ := p_47
              replace hT : hx_T T_tb L_44 h_45 := hT
              replace hs : hx_S T_tb [(5, 11), (5, 12), (28, 0), (33, 0)] L_27 h_33 L_44 h_45 := hs
              replace fx_1 := (hs.o gx trivial rfl).1.trans fx_1
              replace fq_10 := (hs.o gx trivial rfl).2.trans fq_10
              replace fx_12 := (hs.o gx trivial rfl).1.trans fx_12
              replace fx_23 := (hs.o gx trivial rfl).1.trans fx_23
              replace fq_25 := (hs.o gx trivial rfl).2.trans fq_25
              replace fq_32 := (hs.o gx trivial rfl).2.trans fq_32
              replace hM := hM.tr (hs.mono ?o37)
              case o37 => decide
              replace gx := gx.S hs
              replace gq_10 := gq_10.S hs
              replace gq_25 := gq_25.S hs
              replace gq_32 := gq_32.S hs
              obtain ⟨x_49, ex_49⟩ : ∃ y : Int32, y = iv28_6 + Int32.ofInt 1 := ⟨_, rfl⟩
              have rg_50 := i32_r iv28_6
              have zx_49 : x_49.toInt = iv28_6.toInt + (1) := ?o38
              case o38 =>
                rw [ex_49]
                refine i32_add rfl ?o39 ?o40 ?o41
                case o39 => decide
                case o40 => omega
                case o41 => omega
              refine lv_iinc (v := x_49) (lv' := [(6, .int x_49), (8, .int r_29), (7, .int x_16), (5, .int r_6), (0, .ref x), (1, .int (0 : Int32)), (2, .int i2), (3, .int i3), (4, .int i4)]) hx hb dX5_tryFrom_118 hl (k := 2) rfl ex_49.symm ?o42 rfl (fun ls hl => ?_)
              case o42 => decide
              refine lv_goto (tgt := 28) hx hb dX5_tryFrom_121 ?o43 ?_
              case o43 => decide
              refine ih28 x_49 _ _ L_44 h_45 ls ?o44 ?o45 ?o46 hW hT hM fx_1 gx  (lv_sub hl [0, 3, 4, 5, 6, 7, 8] rfl)
              case o44 => omega
              case o45 => omega
              case o46 => omega
          · skip
            exact hx_retv hx hb hr hlk hW ⟨hT, hM⟩ dX5_tryFrom_65
    refine loop28 14 (0 : Int32) _ _ L_4 h_5 ls ?o47 ?o48 ?o49 hW hT hM fx_1 gx  hl
    case o47 => decide
    case o48 => decide
    case o49 => decide
  · skip
    refine lv_aload_n hx hb dX5_tryFrom_8 rfl (lv_at hl 0 rfl) ?_
    refine lv_iload_n hx hb dX5_tryFrom_9 rfl (lv_at hl 3 rfl) ?_
    refine lv_iload hx hb dX5_tryFrom_10 (lv_at hl 4 rfl) ?_
    refine hx_gov (hx_runV (As := [.int i3, .int i4]) (rest := []) ⟨hx, hb, hml, hown, hts⟩ hW gx tt_5 (T := TX5) (N := 13) rfl (t_X5_keepIfBetter l dC dI dA L h s.heap.size x i3 i4 hT gx) (cwV 2 hts (hx_gV kw_973 kw_970 kw_972 kw_35 kw_100) rfl rfl rfl (by decide +kernel) ⟨Nat.le_of_ble_eq_true rfl, Nat.le_of_ble_eq_true rfl⟩) rfl hl.1 rfl (Nat.le_of_ble_eq_true rfl) dX5_tryFrom_12 ⟨Nat.le_of_ble_eq_true rfl, Nat.le_of_ble_eq_true rfl⟩) hW (fun L_51 h_52 H locs p_54 hW => ?_)
    obtain ⟨hT, hs⟩ := p_54
    replace hT : hx_T T_tb L_51 h_52 := hT
    replace hs : hx_S T_tb [(5, 11), (5, 12), (28, 0)] L h L_51 h_52 := hs
    replace fx_1 := (hs.o gx trivial rfl).1.trans fx_1
    replace hM := hM.tr (hs.mono ?o50)
    case o50 => decide
    replace gx := gx.S hs
    exact hx_retv hx hb hr hlk hW ⟨hT, hM⟩ dX5_tryFrom_15

def wNX5_settle : Nat := 19271480431153553849394384712846499594046867168569447454735889342711384665079422063236293270569401088096756627851143434610457614945513012482161760464414270121983381329445429679647906365318550672411040172149866679252819266602565576526694934182002471978
theorem wX5_settle_c : hz_cd cX5_settle wNX5_settle 104 := ⟨by decide +kernel, by decide +kernel⟩
theorem dX5_settle_0 : decode cX5_settle 0 = .ok (.aload_n 0, 1) := dw_42 wX5_settle_c rfl
theorem dX5_settle_1 : decode cX5_settle 1 = .ok (.getfield 33, 3) := dw_180 wX5_settle_c 0 33 rfl rfl
theorem dX5_settle_4 : decode cX5_settle 4 = .ok (.ifCond .le 18, 3) := dw_158 wX5_settle_c 0 18 rfl rfl rfl
theorem dX5_settle_7 : decode cX5_settle 7 = .ok (.aload_n 0, 1) := dw_42 wX5_settle_c rfl
theorem dX5_settle_8 : decode cX5_settle 8 = .ok (.iconst 0, 1) := dw_3 wX5_settle_c rfl
theorem dX5_settle_9 : decode cX5_settle 9 = .ok (.invokevirtual 63, 3) := dw_182 wX5_settle_c 0 63 rfl rfl
theorem dX5_settle_12 : decode cX5_settle 12 = .ok (.aload_n 0, 1) := dw_42 wX5_settle_c rfl
theorem dX5_settle_13 : decode cX5_settle 13 = .ok (.getfield 40, 3) := dw_180 wX5_settle_c 0 40 rfl rfl
theorem dX5_settle_16 : decode cX5_settle 16 = .ok (.if_icmp .le 6, 3) := dw_164 wX5_settle_c 0 6 rfl rfl rfl
theorem dX5_settle_19 : decode cX5_settle 19 = .ok (.bipush (-2), 2) := dn_16 wX5_settle_c 254 rfl (by decide)
theorem dX5_settle_21 : decode cX5_settle 21 = .ok (.ireturn, 1) := dw_172 wX5_settle_c rfl
theorem dX5_settle_22 : decode cX5_settle 22 = .ok (.aload_n 0, 1) := dw_42 wX5_settle_c rfl
theorem dX5_settle_23 : decode cX5_settle 23 = .ok (.ldc 67, 2) := dw_18 wX5_settle_c 67 rfl
theorem dX5_settle_25 : decode cX5_settle 25 = .ok (.putfield 68, 3) := dw_181 wX5_settle_c 0 68 rfl rfl
theorem dX5_settle_28 : decode cX5_settle 28 = .ok (.aload_n 0, 1) := dw_42 wX5_settle_c rfl
theorem dX5_settle_29 : decode cX5_settle 29 = .ok (.ldc 67, 2) := dw_18 wX5_settle_c 67 rfl
theorem dX5_settle_31 : decode cX5_settle 31 = .ok (.putfield 71, 3) := dw_181 wX5_settle_c 0 71 rfl rfl
theorem dX5_settle_34 : decode cX5_settle 34 = .ok (.aload_n 0, 1) := dw_42 wX5_settle_c rfl
theorem dX5_settle_35 : decode cX5_settle 35 = .ok (.iconst 0, 1) := dw_3 wX5_settle_c rfl
theorem dX5_settle_36 : decode cX5_settle 36 = .ok (.iconst 0, 1) := dw_3 wX5_settle_c rfl
theorem dX5_settle_37 : decode cX5_settle 37 = .ok (.iconst 0, 1) := dw_3 wX5_settle_c rfl
theorem dX5_settle_38 : decode cX5_settle 38 = .ok (.iconst 0, 1) := dw_3 wX5_settle_c rfl
theorem dX5_settle_39 : decode cX5_settle 39 = .ok (.invokevirtual 74, 3) := dw_182 wX5_settle_c 0 74 rfl rfl
theorem dX5_settle_42 : decode cX5_settle 42 = .ok (.iconst 0, 1) := dw_3 wX5_settle_c rfl
theorem dX5_settle_43 : decode cX5_settle 43 = .ok (.istore_n 1, 1) := dw_60 wX5_settle_c rfl
theorem dX5_settle_44 : decode cX5_settle 44 = .ok (.iload_n 1, 1) := dw_27 wX5_settle_c rfl
theorem dX5_settle_45 : decode cX5_settle 45 = .ok (.aload_n 0, 1) := dw_42 wX5_settle_c rfl
theorem dX5_settle_46 : decode cX5_settle 46 = .ok (.getfield 33, 3) := dw_180 wX5_settle_c 0 33 rfl rfl
theorem dX5_settle_49 : decode cX5_settle 49 = .ok (.if_icmp .ge 42, 3) := dw_162 wX5_settle_c 0 42 rfl rfl rfl
theorem dX5_settle_52 : decode cX5_settle 52 = .ok (.aload_n 0, 1) := dw_42 wX5_settle_c rfl
theorem dX5_settle_53 : decode cX5_settle 53 = .ok (.getfield 9, 3) := dw_180 wX5_settle_c 0 9 rfl rfl
theorem dX5_settle_56 : decode cX5_settle 56 = .ok (.iload_n 1, 1) := dw_27 wX5_settle_c rfl
theorem dX5_settle_57 : decode cX5_settle 57 = .ok (.aload_n 0, 1) := dw_42 wX5_settle_c rfl
theorem dX5_settle_58 : decode cX5_settle 58 = .ok (.getfield 21, 3) := dw_180 wX5_settle_c 0 21 rfl rfl
theorem dX5_settle_61 : decode cX5_settle 61 = .ok (.iload_n 1, 1) := dw_27 wX5_settle_c rfl
theorem dX5_settle_62 : decode cX5_settle 62 = .ok (.iaload, 1) := dw_46 wX5_settle_c rfl
theorem dX5_settle_63 : decode cX5_settle 63 = .ok (.iastore, 1) := dw_79 wX5_settle_c rfl
theorem dX5_settle_64 : decode cX5_settle 64 = .ok (.aload_n 0, 1) := dw_42 wX5_settle_c rfl
theorem dX5_settle_65 : decode cX5_settle 65 = .ok (.getfield 18, 3) := dw_180 wX5_settle_c 0 18 rfl rfl
theorem dX5_settle_68 : decode cX5_settle 68 = .ok (.iload_n 1, 1) := dw_27 wX5_settle_c rfl
theorem dX5_settle_69 : decode cX5_settle 69 = .ok (.aload_n 0, 1) := dw_42 wX5_settle_c rfl
theorem dX5_settle_70 : decode cX5_settle 70 = .ok (.getfield 24, 3) := dw_180 wX5_settle_c 0 24 rfl rfl
theorem dX5_settle_73 : decode cX5_settle 73 = .ok (.iload_n 1, 1) := dw_27 wX5_settle_c rfl
theorem dX5_settle_74 : decode cX5_settle 74 = .ok (.iaload, 1) := dw_46 wX5_settle_c rfl
theorem dX5_settle_75 : decode cX5_settle 75 = .ok (.aload_n 0, 1) := dw_42 wX5_settle_c rfl
theorem dX5_settle_76 : decode cX5_settle 76 = .ok (.getfield 15, 3) := dw_180 wX5_settle_c 0 15 rfl rfl
theorem dX5_settle_79 : decode cX5_settle 79 = .ok (.iload_n 1, 1) := dw_27 wX5_settle_c rfl
theorem dX5_settle_80 : decode cX5_settle 80 = .ok (.iaload, 1) := dw_46 wX5_settle_c rfl
theorem dX5_settle_81 : decode cX5_settle 81 = .ok (.invokestatic 78, 3) := dw_184 wX5_settle_c 0 78 rfl rfl
theorem dX5_settle_84 : decode cX5_settle 84 = .ok (.iastore, 1) := dw_79 wX5_settle_c rfl
theorem dX5_settle_85 : decode cX5_settle 85 = .ok (.iinc 1 1, 3) := dw_132 wX5_settle_c 1 1 rfl rfl rfl
theorem dX5_settle_88 : decode cX5_settle 88 = .ok (.goto (-44), 3) := dn_167 wX5_settle_c 255 212 rfl (by decide)
theorem dX5_settle_91 : decode cX5_settle 91 = .ok (.aload_n 0, 1) := dw_42 wX5_settle_c rfl
theorem dX5_settle_92 : decode cX5_settle 92 = .ok (.aload_n 0, 1) := dw_42 wX5_settle_c rfl
theorem dX5_settle_93 : decode cX5_settle 93 = .ok (.getfield 33, 3) := dw_180 wX5_settle_c 0 33 rfl rfl
theorem dX5_settle_96 : decode cX5_settle 96 = .ok (.putfield 81, 3) := dw_181 wX5_settle_c 0 81 rfl rfl
theorem dX5_settle_99 : decode cX5_settle 99 = .ok (.aload_n 0, 1) := dw_42 wX5_settle_c rfl
theorem dX5_settle_100 : decode cX5_settle 100 = .ok (.getfield 68, 3) := dw_180 wX5_settle_c 0 68 rfl rfl
theorem dX5_settle_103 : decode cX5_settle 103 = .ok (.ireturn, 1) := dw_172 wX5_settle_c rfl
set_option maxHeartbeats 4000000 in
set_option maxRecDepth 100000 in
theorem t_X5_settle (l : Launch) (dC : Nat → ClassId) (dI : Nat → Nat → Nat) (dA : Nat → ClassId) (L : List Nat) (h : hx_h) (sz : Nat) (b0 : hx_z) (x : Nat) (hT : hx_T T_tb L h) (gx : hx_g L h x 5)  : Met l yX5_settle (Cond.code yX5_settle cX5_settle 2 (some .int) :: hx_all) ({ frames := 7, cells := 0, slots := 0, locals := 202 }) (va_Pc [.ref x] (hx_BX T_tb (P_ty dA) (dC, dI) vwCl L h sz b0)) (va_Qi (fun (r : Int32) (u : List Nat × hx_h) => (True) ∧ hx_T T_tb u.1 u.2 ∧ hx_S T_tb [(5, 1), (5, 11), (5, 12), (27, 0), (28, 0), (29, 0), (33, 0)] L h u.1 u.2) (hx_E T_tb (P_ty dA) (dC, dI) vwCl (hx_A L sz)) (hx_A L sz)) 0 0 (hx_A L sz) := by
  refine hx_metX (lv := [(0, .ref x)]) (by decide +kernel) rfl (Nat.le_of_ble_eq_true rfl) rfl ?_
  intro p e s m below meth c hx hb hml hr hlk hts0 hown hin hsz hW hZ ls hl
  have hts : ∀ w ∈ hx_all, w.before _ s = true := fun w hw => hts0 w (List.mem_cons_of_mem _ hw)
  have hown : s.vm.findClass "SmallCourt$Plan" = some m.cls := hown
  have hM : hx_S T_tb [(5, 1), (5, 11), (5, 12), (27, 0), (28, 0), (29, 0), (33, 0)] L h L h := hx_S.rf
  refine lv_aload_n hx hb dX5_settle_0 rfl (lv_at hl 0 rfl) ?_
  refine hx_geti hx hb hts hC_5 hown hW hT gx tt_5 0 ?o0 rfl kw_258 ⟨rfl, rfl, rfl⟩ dX5_settle_1 (fun x_1 ex_1 lx_1 ux_1 => ?_)
  case o0 => decide
  have fx_1 := ex_1.symm
  refine hb_if_le (zx := x_1.toInt) (tgt := 22) hx hb rfl dX5_settle_4 ?o1 (fun c_2 => ?_) (fun c_2 => ?_)
  case o1 => decide
  · skip
    refine lv_aload_n hx hb dX5_settle_22 rfl (lv_at hl 0 rfl) ?_
    refine lv_ldc (v := 1000000000) hx hb hown (hts _ kw_965) dX5_settle_23 ?_
    refine hx_puti hx hb hts hC_5 hown hW hT (hx_S.rf (M := [(5, 11)])) gx tt_5 11 ?o2 rfl kw_274 ⟨rfl, rfl, rfl⟩ rfl (x := (1000000000 : Int32)) ?o3 rfl rfl rfl (List.mem_singleton.mpr rfl) dX5_settle_25 (fun H locs h_3 eh_3 hW hT hs => ?_)
    case o2 => decide
    case o3 => decide
    replace fx_1 := (hs.o gx trivial rfl).1.trans fx_1
    replace hM := hM.tr (hs.mono ?o4)
    case o4 => decide
    replace gx := gx.S hs
    have f_4 : h_3.2.1 x 11 = (1000000000 : Int32) := ?o5
    case o5 =>
      rw [eh_3]
      exact hx_pi_at _ _ _ _
    refine lv_aload_n hx hb dX5_settle_28 rfl (lv_at hl 0 rfl) ?_
    refine lv_ldc (v := 1000000000) hx hb hown (hts _ kw_965) dX5_settle_29 ?_
    refine hx_puti hx hb hts hC_5 hown hW hT (hx_S.rf (M := [(5, 12)])) gx tt_5 12 ?o6 rfl kw_275 ⟨rfl, rfl, rfl⟩ rfl (x := (1000000000 : Int32)) ?o7 rfl rfl rfl (List.mem_singleton.mpr rfl) dX5_settle_31 (fun H locs h_5 eh_5 hW hT hs => ?_)
    case o6 => decide
    case o7 => decide
    replace fx_1 := (hs.o gx trivial rfl).1.trans fx_1
    replace f_4 := (hs.o gx trivial rfl).1.trans f_4
    replace hM := hM.tr (hs.mono ?o8)
    case o8 => decide
    replace gx := gx.S hs
    have f_6 : h_5.2.1 x 12 = (1000000000 : Int32) := ?o9
    case o9 =>
      rw [eh_5]
      exact hx_pi_at _ _ _ _
    refine lv_aload_n hx hb dX5_settle_34 rfl (lv_at hl 0 rfl) ?_
    refine lv_iconst (v := 0) hx hb dX5_settle_35 ?o10 ?_
    case o10 => decide
    refine lv_iconst (v := 0) hx hb dX5_settle_36 ?o11 ?_
    case o11 => decide
    refine lv_iconst (v := 0) hx hb dX5_settle_37 ?o12 ?_
    case o12 => decide
    refine lv_iconst (v := 0) hx hb dX5_settle_38 ?o13 ?_
    case o13 => decide
    refine hx_gov (hx_runVX (As := [.int (0 : Int32), .int (0 : Int32), .int (0 : Int32), .int (0 : Int32)]) (rest := []) ⟨hx, hb, hml, hown, hts⟩ hW gx tt_5 (T := TX5) (N := 13) rfl (t_X5_tryFrom_0 l dC dI dA L h_5 H.size b0 x (0 : Int32) (0 : Int32) (0 : Int32) hT gx) hZ (cwV 4 hts (hx_gV kw_969 kw_966 kw_968 kw_34 kw_100) rfl rfl rfl (by decide +kernel) ⟨Nat.le_of_ble_eq_true rfl, Nat.le_of_ble_eq_true rfl⟩) rfl hl.1 rfl (Nat.le_of_ble_eq_true rfl) dX5_settle_39 ⟨Nat.le_of_ble_eq_true rfl, Nat.le_of_ble_eq_true rfl⟩) hW (fun L_7 h_8 H locs p_10 hW => ?_)
    obtain ⟨hT, hs⟩ := p_10
    replace hT : hx_T T_tb L_7 h_8 := hT
    replace hs : hx_S T_tb [(5, 11), (5, 12), (28, 0), (33, 0)] L h_5 L_7 h_8 := hs
    replace fx_1 := (hs.o gx trivial rfl).1.trans fx_1
    replace hM := hM.tr (hs.mono ?o14)
    case o14 => decide
    replace gx := gx.S hs
    refine lv_iconst (v := 0) hx hb dX5_settle_42 ?o15 ?_
    case o15 => decide
    refine lv_istore_n (lv' := [(1, .int (0 : Int32)), (0, .ref x)]) hx hb dX5_settle_43 rfl hl ?o16 rfl (fun ls hl => ?_)
    case o16 => decide
    have loop44 : ∀ (n44 : Nat) (iv44_1 : Int32) (H : Heap) (locs : List Loc) (hL1 : List Nat) (hl1 : hx_h) (ls : Array Slot), 0 ≤ iv44_1.toInt → iv44_1.toInt ≤ 4 → 4 < iv44_1.toInt + n44 → hx_W T_tb (P_ty dA) (dC, dI) vwCl (hx_A L sz) s.heap hL1 hl1 s H locs → hx_T T_tb hL1 hl1 → hx_S T_tb [(5, 1), (5, 11), (5, 12), (27, 0), (28, 0), (29, 0), (33, 0)] L h hL1 hl1 → hl1.2.1 x 0 = x_1 → hx_g hL1 hl1 x 5 → lv_has ls 2 [(1, .int iv44_1), (0, .ref x)] → W p l e ({ frames := 7, cells := 0, slots := 0, locals := 202 }) s m ([.ref x] : List Value).toArray below meth c H locs 0 0 (MQ below (va_Qi (fun (r : Int32) (u : List Nat × hx_h) => (True) ∧ hx_T T_tb u.1 u.2 ∧ hx_S T_tb [(5, 1), (5, 11), (5, 12), (27, 0), (28, 0), (29, 0), (33, 0)] L h u.1 u.2) (hx_E T_tb (P_ty dA) (dC, dI) vwCl (hx_A L sz)) (hx_A L sz)) ([.ref x] : List Value).toArray s 0 0 (hx_A L sz)) (F0 m 44 ls []) := by
      intro n44
      induction n44 with
      | zero => intro iv44_1 H locs hL1 hl1 ls bl44_1 bu44_1 hn44; exfalso; omega
      | succ n44 ih44 =>
        intro iv44_1 H locs hL1 hl1 ls bl44_1 bu44_1 hn44 hW hT hM fx_1 gx  hl
        refine lv_iload_n hx hb dX5_settle_44 rfl (lv_at hl 0 rfl) ?_
        refine lv_aload_n hx hb dX5_settle_45 rfl (lv_at hl 1 rfl) ?_
        refine hk_geti hx hb hts hC_5 hown hW gx tt_5 0 ?o17 rfl kw_258 ⟨rfl, rfl, rfl⟩ fx_1 dX5_settle_46 ?_
        case o17 => decide
        refine hb_icmp_ge (zx := iv44_1.toInt) (zy := x_1.toInt) (tgt := 91) hx hb rfl rfl dX5_settle_49 ?o18 (fun c_12 => ?_) (fun c_12 => ?o19)
        case o18 => decide
        case o19 =>
          exfalso
          omega
        refine lv_aload_n hx hb dX5_settle_91 rfl (lv_at hl 1 rfl) ?_
        refine lv_aload_n hx hb dX5_settle_92 rfl (lv_at hl 1 rfl) ?_
        refine hk_geti hx hb hts hC_5 hown hW gx tt_5 0 ?o20 rfl kw_258 ⟨rfl, rfl, rfl⟩ fx_1 dX5_settle_93 ?_
        case o20 => decide
        refine hx_puti hx hb hts hC_5 hown hW hT (hx_S.rf (M := [(5, 1)])) gx tt_5 1 ?o21 rfl kw_260 ⟨rfl, rfl, rfl⟩ rfl (x := x_1) ⟨?o22, ?o23⟩ rfl rfl rfl (List.mem_singleton.mpr rfl) dX5_settle_96 (fun H locs h_13 eh_13 hW hT hs => ?_)
        case o21 => decide
        case o22 => omega
        case o23 => omega
        replace fx_1 := (hs.o gx trivial rfl).1.trans fx_1
        replace hM := hM.tr (hs.mono ?o24)
        case o24 => decide
        replace gx := gx.S hs
        have f_14 : h_13.2.1 x 1 = x_1 := ?o25
        case o25 =>
          rw [eh_13]
          exact hx_pi_at _ _ _ _
        refine lv_aload_n hx hb dX5_settle_99 rfl (lv_at hl 1 rfl) ?_
        refine hx_geti hx hb hts hC_5 hown hW hT gx tt_5 11 ?o26 rfl kw_274 ⟨rfl, rfl, rfl⟩ dX5_settle_100 (fun x_15 ex_15 lx_15 ux_15 => ?_)
        case o26 => decide
        have fx_15 := ex_15.symm
        exact hx_reti hx hb hr hlk hW ⟨trivial, hT, hM⟩ dX5_settle_103
    refine loop44 5 (0 : Int32) _ _ L_7 h_8 ls ?o27 ?o28 ?o29 hW hT hM fx_1 gx  hl
    case o27 => decide
    case o28 => decide
    case o29 => decide
  · skip
    refine lv_aload_n hx hb dX5_settle_7 rfl (lv_at hl 0 rfl) ?_
    refine lv_iconst (v := 0) hx hb dX5_settle_8 ?o30 ?_
    case o30 => decide
    refine hx_goi (hx_runV (As := [.int (0 : Int32)]) (rest := []) ⟨hx, hb, hml, hown, hts⟩ hW gx tt_5 (T := TX5) (N := 13) rfl (t_X5_leastFrom l dC dI dA L h s.heap.size x (0 : Int32) hT gx ?o31) (cwV 1 hts (hx_gV kw_964 kw_961 kw_963 kw_33 kw_100) rfl rfl rfl (by decide +kernel) ⟨Nat.le_of_ble_eq_true rfl, Nat.le_of_ble_eq_true rfl⟩) rfl hl.1 rfl (Nat.le_of_ble_eq_true rfl) dX5_settle_9 ⟨Nat.le_of_ble_eq_true rfl, Nat.le_of_ble_eq_true rfl⟩) hW (fun r_18 L_16 h_17 H locs p_19 hW => ?_)
    case o31 => decide
    obtain ⟨hr_20, hT, hs⟩ := p_19
    replace hT : hx_T T_tb L_16 h_17 := hT
    replace hs : hx_S T_tb [] L h L_16 h_17 := hs
    replace fx_1 := (hs.o gx trivial rfl).1.trans fx_1
    replace hM := hM.tr (hs.mono ?o32)
    case o32 => decide
    replace gx := gx.S hs
    refine lv_aload_n hx hb dX5_settle_12 rfl (lv_at hl 0 rfl) ?_
    refine hx_geti hx hb hts hC_5 hown hW hT gx tt_5 10 ?o33 rfl kw_273 ⟨rfl, rfl, rfl⟩ dX5_settle_13 (fun x_21 ex_21 lx_21 ux_21 => ?_)
    case o33 => decide
    have fx_21 := ex_21.symm
    refine hb_icmp_le (zx := r_18.toInt) (zy := x_21.toInt) (tgt := 22) hx hb rfl rfl dX5_settle_16 ?o34 (fun c_22 => ?_) (fun c_22 => ?_)
    case o34 => decide
    · skip
      refine lv_aload_n hx hb dX5_settle_22 rfl (lv_at hl 0 rfl) ?_
      refine lv_ldc (v := 1000000000) hx hb hown (hts _ kw_965) dX5_settle_23 ?_
      refine hx_puti hx hb hts hC_5 hown hW hT (hx_S.rf (M := [(5, 11)])) gx tt_5 11 ?o35 rfl kw_274 ⟨rfl, rfl, rfl⟩ rfl (x := (1000000000 : Int32)) ?o36 rfl rfl rfl (List.mem_singleton.mpr rfl) dX5_settle_25 (fun H locs h_23 eh_23 hW hT hs => ?_)
      case o35 => decide
      case o36 => decide
      replace fx_1 := (hs.o gx trivial rfl).1.trans fx_1
      replace fx_21 := (hs.o gx trivial rfl).1.trans fx_21
      replace hM := hM.tr (hs.mono ?o37)
      case o37 => decide
      replace gx := gx.S hs
      have f_24 : h_23.2.1 x 11 = (1000000000 : Int32) := ?o38
      case o38 =>
        rw [eh_23]
        exact hx_pi_at _ _ _ _
      refine lv_aload_n hx hb dX5_settle_28 rfl (lv_at hl 0 rfl) ?_
      refine lv_ldc (v := 1000000000) hx hb hown (hts _ kw_965) dX5_settle_29 ?_
      refine hx_puti hx hb hts hC_5 hown hW hT (hx_S.rf (M := [(5, 12)])) gx tt_5 12 ?o39 rfl kw_275 ⟨rfl, rfl, rfl⟩ rfl (x := (1000000000 : Int32)) ?o40 rfl rfl rfl (List.mem_singleton.mpr rfl) dX5_settle_31 (fun H locs h_25 eh_25 hW hT hs => ?_)
      case o39 => decide
      case o40 => decide
      replace fx_1 := (hs.o gx trivial rfl).1.trans fx_1
      replace fx_21 := (hs.o gx trivial rfl).1.trans fx_21
      replace f_24 := (hs.o gx trivial rfl).1.trans f_24
      replace hM := hM.tr (hs.mono ?o41)
      case o41 => decide
      replace gx := gx.S hs
      have f_26 : h_25.2.1 x 12 = (1000000000 : Int32) := ?o42
      case o42 =>
        rw [eh_25]
        exact hx_pi_at _ _ _ _
      refine lv_aload_n hx hb dX5_settle_34 rfl (lv_at hl 0 rfl) ?_
      refine lv_iconst (v := 0) hx hb dX5_settle_35 ?o43 ?_
      case o43 => decide
      refine lv_iconst (v := 0) hx hb dX5_settle_36 ?o44 ?_
      case o44 => decide
      refine lv_iconst (v := 0) hx hb dX5_settle_37 ?o45 ?_
      case o45 => decide
      refine lv_iconst (v := 0) hx hb dX5_settle_38 ?o46 ?_
      case o46 => decide
      refine hx_gov (hx_runVX (As := [.int (0 : Int32), .int (0 : Int32), .int (0 : Int32), .int (0 : Int32)]) (rest := []) ⟨hx, hb, hml, hown, hts⟩ hW gx tt_5 (T := TX5) (N := 13) rfl (t_X5_tryFrom_0 l dC dI dA L_16 h_25 H.size b0 x (0 : Int32) (0 : Int32) (0 : Int32) hT gx) hZ (cwV 4 hts (hx_gV kw_969 kw_966 kw_968 kw_34 kw_100) rfl rfl rfl (by decide +kernel) ⟨Nat.le_of_ble_eq_true rfl, Nat.le_of_ble_eq_true rfl⟩) rfl hl.1 rfl (Nat.le_of_ble_eq_true rfl) dX5_settle_39 ⟨Nat.le_of_ble_eq_true rfl, Nat.le_of_ble_eq_true rfl⟩) hW (fun L_27 h_28 H locs p_30 hW => ?_)
      obtain ⟨hT, hs⟩ := p_30
      replace hT : hx_T T_tb L_27 h_28 := hT
      replace hs : hx_S T_tb [(5, 11), (5, 12), (28, 0), (33, 0)] L_16 h_25 L_27 h_28 := hs
      replace fx_1 := (hs.o gx trivial rfl).1.trans fx_1
      replace fx_21 := (hs.o gx trivial rfl).1.trans fx_21
      replace hM := hM.tr (hs.mono ?o47)
      case o47 => decide
      replace gx := gx.S hs
      refine lv_iconst (v := 0) hx hb dX5_settle_42 ?o48 ?_
      case o48 => decide
      refine lv_istore_n (lv' := [(1, .int (0 : Int32)), (0, .ref x)]) hx hb dX5_settle_43 rfl hl ?o49 rfl (fun ls hl => ?_)
      case o49 => decide
      have loop44 : ∀ (n44 : Nat) (iv44_1 : Int32) (H : Heap) (locs : List Loc) (hL1 : List Nat) (hl1 : hx_h) (ls : Array Slot), 0 ≤ iv44_1.toInt → iv44_1.toInt ≤ 4 → 4 < iv44_1.toInt + n44 → hx_W T_tb (P_ty dA) (dC, dI) vwCl (hx_A L sz) s.heap hL1 hl1 s H locs → hx_T T_tb hL1 hl1 → hx_S T_tb [(5, 1), (5, 11), (5, 12), (27, 0), (28, 0), (29, 0), (33, 0)] L h hL1 hl1 → hl1.2.1 x 0 = x_1 → hl1.2.1 x 10 = x_21 → hx_g hL1 hl1 x 5 → lv_has ls 2 [(1, .int iv44_1), (0, .ref x)] → W p l e ({ frames := 7, cells := 0, slots := 0, locals := 202 }) s m ([.ref x] : List Value).toArray below meth c H locs 0 0 (MQ below (va_Qi (fun (r : Int32) (u : List Nat × hx_h) => (True) ∧ hx_T T_tb u.1 u.2 ∧ hx_S T_tb [(5, 1), (5, 11), (5, 12), (27, 0), (28, 0), (29, 0), (33, 0)] L h u.1 u.2) (hx_E T_tb (P_ty dA) (dC, dI) vwCl (hx_A L sz)) (hx_A L sz)) ([.ref x] : List Value).toArray s 0 0 (hx_A L sz)) (F0 m 44 ls []) := by
        intro n44
        induction n44 with
        | zero => intro iv44_1 H locs hL1 hl1 ls bl44_1 bu44_1 hn44; exfalso; omega
        | succ n44 ih44 =>
          intro iv44_1 H locs hL1 hl1 ls bl44_1 bu44_1 hn44 hW hT hM fx_1 fx_21 gx  hl
          refine lv_iload_n hx hb dX5_settle_44 rfl (lv_at hl 0 rfl) ?_
          refine lv_aload_n hx hb dX5_settle_45 rfl (lv_at hl 1 rfl) ?_
          refine hk_geti hx hb hts hC_5 hown hW gx tt_5 0 ?o50 rfl kw_258 ⟨rfl, rfl, rfl⟩ fx_1 dX5_settle_46 ?_
          case o50 => decide
          refine hb_icmp_ge (zx := iv44_1.toInt) (zy := x_1.toInt) (tgt := 91) hx hb rfl rfl dX5_settle_49 ?o51 (fun c_32 => ?_) (fun c_32 => ?_)
          case o51 => decide
          · skip
            refine lv_aload_n hx hb dX5_settle_91 rfl (lv_at hl 1 rfl) ?_
            refine lv_aload_n hx hb dX5_settle_92 rfl (lv_at hl 1 rfl) ?_
            refine hk_geti hx hb hts hC_5 hown hW gx tt_5 0 ?o52 rfl kw_258 ⟨rfl, rfl, rfl⟩ fx_1 dX5_settle_93 ?_
            case o52 => decide
            refine hx_puti hx hb hts hC_5 hown hW hT (hx_S.rf (M := [(5, 1)])) gx tt_5 1 ?o53 rfl kw_260 ⟨rfl, rfl, rfl⟩ rfl (x := x_1) ⟨?o54, ?o55⟩ rfl rfl rfl (List.mem_singleton.mpr rfl) dX5_settle_96 (fun H locs h_33 eh_33 hW hT hs => ?_)
            case o53 => decide
            case o54 => omega
            case o55 => omega
            replace fx_1 := (hs.o gx trivial rfl).1.trans fx_1
            replace fx_21 := (hs.o gx trivial rfl).1.trans fx_21
            replace hM := hM.tr (hs.mono ?o56)
            case o56 => decide
            replace gx := gx.S hs
            have f_34 : h_33.2.1 x 1 = x_1 := ?o57
            case o57 =>
              rw [eh_33]
              exact hx_pi_at _ _ _ _
            refine lv_aload_n hx hb dX5_settle_99 rfl (lv_at hl 1 rfl) ?_
            refine hx_geti hx hb hts hC_5 hown hW hT gx tt_5 11 ?o58 rfl kw_274 ⟨rfl, rfl, rfl⟩ dX5_settle_100 (fun x_35 ex_35 lx_35 ux_35 => ?_)
            case o58 => decide
            have fx_35 := ex_35.symm
            exact hx_reti hx hb hr hlk hW ⟨trivial, hT, hM⟩ dX5_settle_103
          · skip
            refine lv_aload_n hx hb dX5_settle_52 rfl (lv_at hl 1 rfl) ?_
            refine hx_getn hx hb hts hC_5 hown hW hT gx tt_5 2 ?o59 rfl kw_262 ⟨rfl, rfl, rfl⟩ dX5_settle_53 (fun q_36 fq_36 gq_36 => ?_)
            case o59 => decide
            refine lv_iload_n hx hb dX5_settle_56 rfl (lv_at hl 0 rfl) ?_
            refine lv_aload_n hx hb dX5_settle_57 rfl (lv_at hl 1 rfl) ?_
            refine hx_getn hx hb hts hC_5 hown hW hT gx tt_5 5 ?o60 rfl kw_268 ⟨rfl, rfl, rfl⟩ dX5_settle_58 (fun q_37 fq_37 gq_37 => ?_)
            case o60 => decide
            refine lv_iload_n hx hb dX5_settle_61 rfl (lv_at hl 0 rfl) ?_
            refine hx_iald hx hb hW hT gq_37 tt_30 rfl ⟨?o61, ?o62⟩ dX5_settle_62 (fun x_38 ex_38 lx_38 ux_38 => ?_)
            case o61 => omega
            case o62 => omega
            refine hx_iast hx hb hW hT (hx_S.rf (M := [(27, 0)])) gq_36 tt_27 rfl ⟨?o63, ?o64⟩ rfl (i32_r _) (List.mem_singleton.mpr rfl) dX5_settle_63 (fun H locs h_39 eh_39 hW hT hs => ?_)
            case o63 => omega
            case o64 => omega
            replace fx_1 := (hs.o gx trivial rfl).1.trans fx_1
            replace fx_21 := (hs.o gx trivial rfl).1.trans fx_21
            replace fq_36 := (hs.o gx trivial rfl).2.trans fq_36
            replace fq_37 := (hs.o gx trivial rfl).2.trans fq_37
            replace hM := hM.tr (hs.mono ?o65)
            case o65 => decide
            replace gx := gx.S hs
            replace gq_36 := gq_36.S hs
            replace gq_37 := gq_37.S hs
            refine lv_aload_n hx hb dX5_settle_64 rfl (lv_at hl 1 rfl) ?_
            refine hx_getn hx hb hts hC_5 hown hW hT gx tt_5 4 ?o66 rfl kw_266 ⟨rfl, rfl, rfl⟩ dX5_settle_65 (fun q_40 fq_40 gq_40 => ?_)
            case o66 => decide
            refine lv_iload_n hx hb dX5_settle_68 rfl (lv_at hl 0 rfl) ?_
            refine lv_aload_n hx hb dX5_settle_69 rfl (lv_at hl 1 rfl) ?_
            refine hx_getn hx hb hts hC_5 hown hW hT gx tt_5 6 ?o67 rfl kw_269 ⟨rfl, rfl, rfl⟩ dX5_settle_70 (fun q_41 fq_41 gq_41 => ?_)
            case o67 => decide
            refine lv_iload_n hx hb dX5_settle_73 rfl (lv_at hl 0 rfl) ?_
            refine hx_iald hx hb hW hT gq_41 tt_31 rfl ⟨?o68, ?o69⟩ dX5_settle_74 (fun x_42 ex_42 lx_42 ux_42 => ?_)
            case o68 => omega
            case o69 => omega
            refine lv_aload_n hx hb dX5_settle_75 rfl (lv_at hl 1 rfl) ?_
            refine hx_getn hx hb hts hC_5 hown hW hT gx tt_5 3 ?o70 rfl kw_264 ⟨rfl, rfl, rfl⟩ dX5_settle_76 (fun q_43 fq_43 gq_43 => ?_)
            case o70 => decide
            refine lv_iload_n hx hb dX5_settle_79 rfl (lv_at hl 0 rfl) ?_
            refine hx_iald hx hb hW hT gq_43 tt_28 rfl ⟨?o71, ?o72⟩ dX5_settle_80 (fun x_44 ex_44 lx_44 ux_44 => ?_)
            case o71 => omega
            case o72 => omega
            refine hx_goi (hx_runSN (As := [.int x_42, .int x_44]) (rest := [.int iv44_1, .ref q_40]) ⟨hx, hb, hml, hown, hts⟩ hW (t_X9_roundUp l dC dI dA hL1 h_39 H.size x_42 x_44 hT) ⟨va_cnB 2 hts (hx_gC kw_921) rfl rfl rfl (hZ.1 _ (List.mem_of_getElem? (i := 10) rfl)) (hts _ kw_94) (by decide +kernel) ⟨Nat.le_of_ble_eq_true rfl, Nat.le_of_ble_eq_true rfl⟩, hts _ kw_920, trivial⟩ rfl hl.1 rfl (Nat.le_of_ble_eq_true rfl) dX5_settle_81 ⟨Nat.le_of_ble_eq_true rfl, Nat.le_of_ble_eq_true rfl⟩) hW (fun r_47 L_45 h_46 H locs p_48 hW => ?_)
            obtain ⟨hr_49, hT, hs⟩ := p_48
            replace hT : hx_T T_tb L_45 h_46 := hT
            replace hs : hx_S T_tb [] hL1 h_39 L_45 h_46 := hs
            replace fx_1 := (hs.o gx trivial rfl).1.trans fx_1
            replace fx_21 := (hs.o gx trivial rfl).1.trans fx_21
            replace fq_36 := (hs.o gx trivial rfl).2.trans fq_36
            replace fq_37 := (hs.o gx trivial rfl).2.trans fq_37
            replace fq_40 := (hs.o gx trivial rfl).2.trans fq_40
            replace fq_41 := (hs.o gx trivial rfl).2.trans fq_41
            replace fq_43 := (hs.o gx trivial rfl).2.trans fq_43
            replace hM := hM.tr (hs.mono ?o73)
            case o73 => decide
            replace gx := gx.S hs
            replace gq_36 := gq_36.S hs
            replace gq_37 := gq_37.S hs
            replace gq_40 := gq_40.S hs
            replace gq_41 := gq_41.S hs
            replace gq_43 := gq_43.S hs
            refine hx_iast hx hb hW hT (hx_S.rf (M := [(29, 0)])) gq_40 tt_29 rfl ⟨?o74, ?o75⟩ rfl (i32_r _) (List.mem_singleton.mpr rfl) dX5_settle_84 (fun H locs h_50 eh_50 hW hT hs => ?_)
            case o74 => omega
            case o75 => omega
            replace fx_1 := (hs.o gx trivial rfl).1.trans fx_1
            replace fx_21 := (hs.o gx trivial rfl).1.trans fx_21
            replace fq_36 := (hs.o gx trivial rfl).2.trans fq_36
            replace fq_37 := (hs.o gx trivial rfl).2.trans fq_37
            replace fq_40 := (hs.o gx trivial rfl).2.trans fq_40
            replace fq_41 := (hs.o gx trivial rfl).2.trans fq_41
            replace fq_43 := (hs.o gx trivial rfl).2.trans fq_43
            replace hM := hM.tr (hs.mono ?o76)
            case o76 => decide
            replace gx := gx.S hs
            replace gq_36 := gq_36.S hs
            replace gq_37 := gq_37.S hs
            replace gq_40 := gq_40.S hs
            replace gq_41 := gq_41.S hs
            replace gq_43 := gq_43.S hs
            obtain ⟨x_51, ex_51⟩ : ∃ y : Int32, y = iv44_1 + Int32.ofInt 1 := ⟨_, rfl⟩
            have rg_52 := i32_r iv44_1
            have zx_51 : x_51.toInt = iv44_1.toInt + (1) := ?o77
            case o77 =>
              rw [ex_51]
              refine i32_add rfl ?o78 ?o79 ?o80
              case o78 => decide
              case o79 => omega
              case o80 => omega
            refine lv_iinc (v := x_51) (lv' := [(1, .int x_51), (0, .ref x)]) hx hb dX5_settle_85 hl (k := 0) rfl ex_51.symm ?o81 rfl (fun ls hl => ?_)
            case o81 => decide
            refine lv_goto (tgt := 44) hx hb dX5_settle_88 ?o82 ?_
            case o82 => decide
            refine ih44 x_51 _ _ L_45 h_50 ls ?o83 ?o84 ?o85 hW hT hM fx_1 fx_21 gx  (lv_sub hl [0, 1] rfl)
            case o83 => omega
            case o84 => omega
            case o85 => omega
      refine loop44 5 (0 : Int32) _ _ L_27 h_28 ls ?o86 ?o87 ?o88 hW hT hM fx_1 fx_21 gx  hl
      case o86 => decide
      case o87 => decide
      case o88 => decide
    · skip
      refine lv_bipush (v := -2) hx hb dX5_settle_19 ?o89 ?_
      case o89 => decide
      exact hx_reti hx hb hr hlk hW ⟨trivial, hT, hM⟩ dX5_settle_21

def wNX7_goOn : Nat := 1904271645994851251120787617695356003698643261381876025330272229083052487495281502355946650631563655135364504283006745051257480042428740451751073103110958961388401144617120541251190408823797760200483344471684628936443691778921768528117858887026315647429338522291947608281972563414815820667012774358987818
theorem wX7_goOn_c : hz_cd cX7_goOn wNX7_goOn 126 := ⟨by decide +kernel, by decide +kernel⟩
theorem dX7_goOn_0 : decode cX7_goOn 0 = .ok (.aload_n 0, 1) := dw_42 wX7_goOn_c rfl
theorem dX7_goOn_1 : decode cX7_goOn 1 = .ok (.getfield 22, 3) := dw_180 wX7_goOn_c 0 22 rfl rfl
theorem dX7_goOn_4 : decode cX7_goOn 4 = .ok (.iload_n 1, 1) := dw_27 wX7_goOn_c rfl
theorem dX7_goOn_5 : decode cX7_goOn 5 = .ok (.iconst 1, 1) := dw_4 wX7_goOn_c rfl
theorem dX7_goOn_6 : decode cX7_goOn 6 = .ok (.isub, 1) := dw_100 wX7_goOn_c rfl
theorem dX7_goOn_7 : decode cX7_goOn 7 = .ok (.iaload, 1) := dw_46 wX7_goOn_c rfl
theorem dX7_goOn_8 : decode cX7_goOn 8 = .ok (.bipush 40, 2) := dw_16 wX7_goOn_c 40 rfl rfl rfl
theorem dX7_goOn_10 : decode cX7_goOn 10 = .ok (.imul, 1) := dw_104 wX7_goOn_c rfl
theorem dX7_goOn_11 : decode cX7_goOn 11 = .ok (.istore_n 3, 1) := dw_62 wX7_goOn_c rfl
theorem dX7_goOn_12 : decode cX7_goOn 12 = .ok (.iload_n 1, 1) := dw_27 wX7_goOn_c rfl
theorem dX7_goOn_13 : decode cX7_goOn 13 = .ok (.iconst 1, 1) := dw_4 wX7_goOn_c rfl
theorem dX7_goOn_14 : decode cX7_goOn 14 = .ok (.if_icmp .le 25, 3) := dw_164 wX7_goOn_c 0 25 rfl rfl rfl
theorem dX7_goOn_17 : decode cX7_goOn 17 = .ok (.aload_n 0, 1) := dw_42 wX7_goOn_c rfl
theorem dX7_goOn_18 : decode cX7_goOn 18 = .ok (.iload_n 1, 1) := dw_27 wX7_goOn_c rfl
theorem dX7_goOn_19 : decode cX7_goOn 19 = .ok (.iload_n 2, 1) := dw_28 wX7_goOn_c rfl
theorem dX7_goOn_20 : decode cX7_goOn 20 = .ok (.aload_n 0, 1) := dw_42 wX7_goOn_c rfl
theorem dX7_goOn_21 : decode cX7_goOn 21 = .ok (.getfield 19, 3) := dw_180 wX7_goOn_c 0 19 rfl rfl
theorem dX7_goOn_24 : decode cX7_goOn 24 = .ok (.iload_n 3, 1) := dw_29 wX7_goOn_c rfl
theorem dX7_goOn_25 : decode cX7_goOn 25 = .ok (.aload_n 0, 1) := dw_42 wX7_goOn_c rfl
theorem dX7_goOn_26 : decode cX7_goOn 26 = .ok (.getfield 22, 3) := dw_180 wX7_goOn_c 0 22 rfl rfl
theorem dX7_goOn_29 : decode cX7_goOn 29 = .ok (.iconst 0, 1) := dw_3 wX7_goOn_c rfl
theorem dX7_goOn_30 : decode cX7_goOn 30 = .ok (.iaload, 1) := dw_46 wX7_goOn_c rfl
theorem dX7_goOn_31 : decode cX7_goOn 31 = .ok (.iadd, 1) := dw_96 wX7_goOn_c rfl
theorem dX7_goOn_32 : decode cX7_goOn 32 = .ok (.iaload, 1) := dw_46 wX7_goOn_c rfl
theorem dX7_goOn_33 : decode cX7_goOn 33 = .ok (.invokestatic 42, 3) := dw_184 wX7_goOn_c 0 42 rfl rfl
theorem dX7_goOn_36 : decode cX7_goOn 36 = .ok (.invokevirtual 48, 3) := dw_182 wX7_goOn_c 0 48 rfl rfl
theorem dX7_goOn_39 : decode cX7_goOn 39 = .ok (.aload_n 0, 1) := dw_42 wX7_goOn_c rfl
theorem dX7_goOn_40 : decode cX7_goOn 40 = .ok (.getfield 22, 3) := dw_180 wX7_goOn_c 0 22 rfl rfl
theorem dX7_goOn_43 : decode cX7_goOn 43 = .ok (.iconst 0, 1) := dw_3 wX7_goOn_c rfl
theorem dX7_goOn_44 : decode cX7_goOn 44 = .ok (.iaload, 1) := dw_46 wX7_goOn_c rfl
theorem dX7_goOn_45 : decode cX7_goOn 45 = .ok (.iconst 1, 1) := dw_4 wX7_goOn_c rfl
theorem dX7_goOn_46 : decode cX7_goOn 46 = .ok (.iadd, 1) := dw_96 wX7_goOn_c rfl
theorem dX7_goOn_47 : decode cX7_goOn 47 = .ok (.istore 4, 2) := dw_54 wX7_goOn_c 4 rfl
theorem dX7_goOn_49 : decode cX7_goOn 49 = .ok (.iload 4, 2) := dw_21 wX7_goOn_c 4 rfl
theorem dX7_goOn_51 : decode cX7_goOn 51 = .ok (.aload_n 0, 1) := dw_42 wX7_goOn_c rfl
theorem dX7_goOn_52 : decode cX7_goOn 52 = .ok (.getfield 28, 3) := dw_180 wX7_goOn_c 0 28 rfl rfl
theorem dX7_goOn_55 : decode cX7_goOn 55 = .ok (.if_icmp .ge 70, 3) := dw_162 wX7_goOn_c 0 70 rfl rfl rfl
theorem dX7_goOn_58 : decode cX7_goOn 58 = .ok (.iload_n 1, 1) := dw_27 wX7_goOn_c rfl
theorem dX7_goOn_59 : decode cX7_goOn 59 = .ok (.iconst 4, 1) := dw_7 wX7_goOn_c rfl
theorem dX7_goOn_60 : decode cX7_goOn 60 = .ok (.if_icmp .ge 65, 3) := dw_162 wX7_goOn_c 0 65 rfl rfl rfl
theorem dX7_goOn_125 : decode cX7_goOn 125 = .ok (.return_, 1) := dw_177 wX7_goOn_c rfl
theorem dX7_goOn_63 : decode cX7_goOn 63 = .ok (.aload_n 0, 1) := dw_42 wX7_goOn_c rfl
theorem dX7_goOn_64 : decode cX7_goOn 64 = .ok (.getfield 19, 3) := dw_180 wX7_goOn_c 0 19 rfl rfl
theorem dX7_goOn_67 : decode cX7_goOn 67 = .ok (.iload_n 3, 1) := dw_29 wX7_goOn_c rfl
theorem dX7_goOn_68 : decode cX7_goOn 68 = .ok (.iload 4, 2) := dw_21 wX7_goOn_c 4 rfl
theorem dX7_goOn_70 : decode cX7_goOn 70 = .ok (.iadd, 1) := dw_96 wX7_goOn_c rfl
theorem dX7_goOn_71 : decode cX7_goOn 71 = .ok (.iaload, 1) := dw_46 wX7_goOn_c rfl
theorem dX7_goOn_72 : decode cX7_goOn 72 = .ok (.istore 5, 2) := dw_54 wX7_goOn_c 5 rfl
theorem dX7_goOn_74 : decode cX7_goOn 74 = .ok (.iload 5, 2) := dw_21 wX7_goOn_c 5 rfl
theorem dX7_goOn_76 : decode cX7_goOn 76 = .ok (.ifCond .le 43, 3) := dw_158 wX7_goOn_c 0 43 rfl rfl rfl
theorem dX7_goOn_79 : decode cX7_goOn 79 = .ok (.iload 5, 2) := dw_21 wX7_goOn_c 5 rfl
theorem dX7_goOn_81 : decode cX7_goOn 81 = .ok (.aload_n 0, 1) := dw_42 wX7_goOn_c rfl
theorem dX7_goOn_82 : decode cX7_goOn 82 = .ok (.getfield 34, 3) := dw_180 wX7_goOn_c 0 34 rfl rfl
theorem dX7_goOn_85 : decode cX7_goOn 85 = .ok (.if_icmp .lt 34, 3) := dw_161 wX7_goOn_c 0 34 rfl rfl rfl
theorem dX7_goOn_88 : decode cX7_goOn 88 = .ok (.aload_n 0, 1) := dw_42 wX7_goOn_c rfl
theorem dX7_goOn_89 : decode cX7_goOn 89 = .ok (.iload 4, 2) := dw_21 wX7_goOn_c 4 rfl
theorem dX7_goOn_91 : decode cX7_goOn 91 = .ok (.iload_n 1, 1) := dw_27 wX7_goOn_c rfl
theorem dX7_goOn_92 : decode cX7_goOn 92 = .ok (.invokevirtual 51, 3) := dw_182 wX7_goOn_c 0 51 rfl rfl
theorem dX7_goOn_95 : decode cX7_goOn 95 = .ok (.ifCond .ne 24, 3) := dw_154 wX7_goOn_c 0 24 rfl rfl rfl
theorem dX7_goOn_98 : decode cX7_goOn 98 = .ok (.aload_n 0, 1) := dw_42 wX7_goOn_c rfl
theorem dX7_goOn_99 : decode cX7_goOn 99 = .ok (.getfield 22, 3) := dw_180 wX7_goOn_c 0 22 rfl rfl
theorem dX7_goOn_102 : decode cX7_goOn 102 = .ok (.iload_n 1, 1) := dw_27 wX7_goOn_c rfl
theorem dX7_goOn_103 : decode cX7_goOn 103 = .ok (.iload 4, 2) := dw_21 wX7_goOn_c 4 rfl
theorem dX7_goOn_105 : decode cX7_goOn 105 = .ok (.iastore, 1) := dw_79 wX7_goOn_c rfl
theorem dX7_goOn_106 : decode cX7_goOn 106 = .ok (.aload_n 0, 1) := dw_42 wX7_goOn_c rfl
theorem dX7_goOn_107 : decode cX7_goOn 107 = .ok (.iload_n 1, 1) := dw_27 wX7_goOn_c rfl
theorem dX7_goOn_108 : decode cX7_goOn 108 = .ok (.iconst 1, 1) := dw_4 wX7_goOn_c rfl
theorem dX7_goOn_109 : decode cX7_goOn 109 = .ok (.iadd, 1) := dw_96 wX7_goOn_c rfl
theorem dX7_goOn_110 : decode cX7_goOn 110 = .ok (.iload_n 2, 1) := dw_28 wX7_goOn_c rfl
theorem dX7_goOn_111 : decode cX7_goOn 111 = .ok (.iload 5, 2) := dw_21 wX7_goOn_c 5 rfl
theorem dX7_goOn_113 : decode cX7_goOn 113 = .ok (.invokestatic 42, 3) := dw_184 wX7_goOn_c 0 42 rfl rfl
theorem dX7_goOn_116 : decode cX7_goOn 116 = .ok (.invokevirtual 38, 3) := dw_182 wX7_goOn_c 0 38 rfl rfl
theorem dX7_goOn_119 : decode cX7_goOn 119 = .ok (.iinc 4 1, 3) := dw_132 wX7_goOn_c 4 1 rfl rfl rfl
theorem dX7_goOn_122 : decode cX7_goOn 122 = .ok (.goto (-73), 3) := dn_167 wX7_goOn_c 255 183 rfl (by decide)
def wNX7_findBest : Nat := 29109609921258864303665556373012971869457556321608589751660484060868530461584277571132906969947641713963003994587875462853493546
theorem wX7_findBest_c : hz_cd cX7_findBest wNX7_findBest 53 := ⟨by decide +kernel, by decide +kernel⟩
theorem dX7_findBest_0 : decode cX7_findBest 0 = .ok (.aload_n 0, 1) := dw_42 wX7_findBest_c rfl
theorem dX7_findBest_1 : decode cX7_findBest 1 = .ok (.iconst 0, 1) := dw_3 wX7_findBest_c rfl
theorem dX7_findBest_2 : decode cX7_findBest 2 = .ok (.putfield 31, 3) := dw_181 wX7_findBest_c 0 31 rfl rfl
theorem dX7_findBest_5 : decode cX7_findBest 5 = .ok (.aload_n 0, 1) := dw_42 wX7_findBest_c rfl
theorem dX7_findBest_6 : decode cX7_findBest 6 = .ok (.iconst 0, 1) := dw_3 wX7_findBest_c rfl
theorem dX7_findBest_7 : decode cX7_findBest 7 = .ok (.putfield 34, 3) := dw_181 wX7_findBest_c 0 34 rfl rfl
theorem dX7_findBest_10 : decode cX7_findBest 10 = .ok (.iconst 0, 1) := dw_3 wX7_findBest_c rfl
theorem dX7_findBest_11 : decode cX7_findBest 11 = .ok (.istore_n 1, 1) := dw_60 wX7_findBest_c rfl
theorem dX7_findBest_12 : decode cX7_findBest 12 = .ok (.iload_n 1, 1) := dw_27 wX7_findBest_c rfl
theorem dX7_findBest_13 : decode cX7_findBest 13 = .ok (.aload_n 0, 1) := dw_42 wX7_findBest_c rfl
theorem dX7_findBest_14 : decode cX7_findBest 14 = .ok (.getfield 28, 3) := dw_180 wX7_findBest_c 0 28 rfl rfl
theorem dX7_findBest_17 : decode cX7_findBest 17 = .ok (.if_icmp .ge 23, 3) := dw_162 wX7_findBest_c 0 23 rfl rfl rfl
theorem dX7_findBest_20 : decode cX7_findBest 20 = .ok (.aload_n 0, 1) := dw_42 wX7_findBest_c rfl
theorem dX7_findBest_21 : decode cX7_findBest 21 = .ok (.getfield 22, 3) := dw_180 wX7_findBest_c 0 22 rfl rfl
theorem dX7_findBest_24 : decode cX7_findBest 24 = .ok (.iconst 0, 1) := dw_3 wX7_findBest_c rfl
theorem dX7_findBest_25 : decode cX7_findBest 25 = .ok (.iload_n 1, 1) := dw_27 wX7_findBest_c rfl
theorem dX7_findBest_26 : decode cX7_findBest 26 = .ok (.iastore, 1) := dw_79 wX7_findBest_c rfl
theorem dX7_findBest_27 : decode cX7_findBest 27 = .ok (.aload_n 0, 1) := dw_42 wX7_findBest_c rfl
theorem dX7_findBest_28 : decode cX7_findBest 28 = .ok (.iconst 1, 1) := dw_4 wX7_findBest_c rfl
theorem dX7_findBest_29 : decode cX7_findBest 29 = .ok (.ldc 37, 2) := dw_18 wX7_findBest_c 37 rfl
theorem dX7_findBest_31 : decode cX7_findBest 31 = .ok (.invokevirtual 38, 3) := dw_182 wX7_findBest_c 0 38 rfl rfl
theorem dX7_findBest_34 : decode cX7_findBest 34 = .ok (.iinc 1 1, 3) := dw_132 wX7_findBest_c 1 1 rfl rfl rfl
theorem dX7_findBest_37 : decode cX7_findBest 37 = .ok (.goto (-25), 3) := dn_167 wX7_findBest_c 255 231 rfl (by decide)
theorem dX7_findBest_40 : decode cX7_findBest 40 = .ok (.aload_n 0, 1) := dw_42 wX7_findBest_c rfl
theorem dX7_findBest_41 : decode cX7_findBest 41 = .ok (.getfield 31, 3) := dw_180 wX7_findBest_c 0 31 rfl rfl
theorem dX7_findBest_44 : decode cX7_findBest 44 = .ok (.ifCond .le 7, 3) := dw_158 wX7_findBest_c 0 7 rfl rfl rfl
theorem dX7_findBest_47 : decode cX7_findBest 47 = .ok (.iconst 1, 1) := dw_4 wX7_findBest_c rfl
theorem dX7_findBest_48 : decode cX7_findBest 48 = .ok (.goto 4, 3) := dw_167 wX7_findBest_c 0 4 rfl rfl rfl
theorem dX7_findBest_51 : decode cX7_findBest 51 = .ok (.iconst 0, 1) := dw_3 wX7_findBest_c rfl
theorem dX7_findBest_52 : decode cX7_findBest 52 = .ok (.ireturn, 1) := dw_172 wX7_findBest_c rfl
def wNX7_takeOff : Nat := 58201814880819230962648132361277104086887926543038639062039813308258509481865101741313990074547620897839684547125403333535981749515916409937413560159521323643427039964748043456296153643951694601437867563340741635
theorem wX7_takeOff_c : hz_cd cX7_takeOff wNX7_takeOff 88 := ⟨by decide +kernel, by decide +kernel⟩
theorem dX7_takeOff_0 : decode cX7_takeOff 0 = .ok (.iconst 0, 1) := dw_3 wX7_takeOff_c rfl
theorem dX7_takeOff_1 : decode cX7_takeOff 1 = .ok (.istore_n 1, 1) := dw_60 wX7_takeOff_c rfl
theorem dX7_takeOff_2 : decode cX7_takeOff 2 = .ok (.iload_n 1, 1) := dw_27 wX7_takeOff_c rfl
theorem dX7_takeOff_3 : decode cX7_takeOff 3 = .ok (.aload_n 0, 1) := dw_42 wX7_takeOff_c rfl
theorem dX7_takeOff_4 : decode cX7_takeOff 4 = .ok (.getfield 31, 3) := dw_180 wX7_takeOff_c 0 31 rfl rfl
theorem dX7_takeOff_7 : decode cX7_takeOff 7 = .ok (.if_icmp .ge 41, 3) := dw_162 wX7_takeOff_c 0 41 rfl rfl rfl
theorem dX7_takeOff_10 : decode cX7_takeOff 10 = .ok (.aload_n 0, 1) := dw_42 wX7_takeOff_c rfl
theorem dX7_takeOff_11 : decode cX7_takeOff 11 = .ok (.getfield 19, 3) := dw_180 wX7_takeOff_c 0 19 rfl rfl
theorem dX7_takeOff_14 : decode cX7_takeOff 14 = .ok (.aload_n 0, 1) := dw_42 wX7_takeOff_c rfl
theorem dX7_takeOff_15 : decode cX7_takeOff 15 = .ok (.getfield 25, 3) := dw_180 wX7_takeOff_c 0 25 rfl rfl
theorem dX7_takeOff_18 : decode cX7_takeOff 18 = .ok (.iload_n 1, 1) := dw_27 wX7_takeOff_c rfl
theorem dX7_takeOff_19 : decode cX7_takeOff 19 = .ok (.iaload, 1) := dw_46 wX7_takeOff_c rfl
theorem dX7_takeOff_20 : decode cX7_takeOff 20 = .ok (.bipush 40, 2) := dw_16 wX7_takeOff_c 40 rfl rfl rfl
theorem dX7_takeOff_22 : decode cX7_takeOff 22 = .ok (.imul, 1) := dw_104 wX7_takeOff_c rfl
theorem dX7_takeOff_23 : decode cX7_takeOff 23 = .ok (.aload_n 0, 1) := dw_42 wX7_takeOff_c rfl
theorem dX7_takeOff_24 : decode cX7_takeOff 24 = .ok (.getfield 25, 3) := dw_180 wX7_takeOff_c 0 25 rfl rfl
theorem dX7_takeOff_27 : decode cX7_takeOff 27 = .ok (.aload_n 0, 1) := dw_42 wX7_takeOff_c rfl
theorem dX7_takeOff_28 : decode cX7_takeOff 28 = .ok (.iload_n 1, 1) := dw_27 wX7_takeOff_c rfl
theorem dX7_takeOff_29 : decode cX7_takeOff 29 = .ok (.invokevirtual 75, 3) := dw_182 wX7_takeOff_c 0 75 rfl rfl
theorem dX7_takeOff_32 : decode cX7_takeOff 32 = .ok (.iaload, 1) := dw_46 wX7_takeOff_c rfl
theorem dX7_takeOff_33 : decode cX7_takeOff 33 = .ok (.iadd, 1) := dw_96 wX7_takeOff_c rfl
theorem dX7_takeOff_34 : decode cX7_takeOff 34 = .ok (.dup2, 1) := dw_92 wX7_takeOff_c rfl
theorem dX7_takeOff_35 : decode cX7_takeOff 35 = .ok (.iaload, 1) := dw_46 wX7_takeOff_c rfl
theorem dX7_takeOff_36 : decode cX7_takeOff 36 = .ok (.aload_n 0, 1) := dw_42 wX7_takeOff_c rfl
theorem dX7_takeOff_37 : decode cX7_takeOff 37 = .ok (.getfield 34, 3) := dw_180 wX7_takeOff_c 0 34 rfl rfl
theorem dX7_takeOff_40 : decode cX7_takeOff 40 = .ok (.isub, 1) := dw_100 wX7_takeOff_c rfl
theorem dX7_takeOff_41 : decode cX7_takeOff 41 = .ok (.iastore, 1) := dw_79 wX7_takeOff_c rfl
theorem dX7_takeOff_42 : decode cX7_takeOff 42 = .ok (.iinc 1 1, 3) := dw_132 wX7_takeOff_c 1 1 rfl rfl rfl
theorem dX7_takeOff_45 : decode cX7_takeOff 45 = .ok (.goto (-43), 3) := dn_167 wX7_takeOff_c 255 213 rfl (by decide)
theorem dX7_takeOff_48 : decode cX7_takeOff 48 = .ok (.aload_n 0, 1) := dw_42 wX7_takeOff_c rfl
theorem dX7_takeOff_49 : decode cX7_takeOff 49 = .ok (.getfield 9, 3) := dw_180 wX7_takeOff_c 0 9 rfl rfl
theorem dX7_takeOff_52 : decode cX7_takeOff 52 = .ok (.ifCond .lt 35, 3) := dw_155 wX7_takeOff_c 0 35 rfl rfl rfl
theorem dX7_takeOff_55 : decode cX7_takeOff 55 = .ok (.aload_n 0, 1) := dw_42 wX7_takeOff_c rfl
theorem dX7_takeOff_56 : decode cX7_takeOff 56 = .ok (.getfield 9, 3) := dw_180 wX7_takeOff_c 0 9 rfl rfl
theorem dX7_takeOff_59 : decode cX7_takeOff 59 = .ok (.bipush 100, 2) := dw_16 wX7_takeOff_c 100 rfl rfl rfl
theorem dX7_takeOff_61 : decode cX7_takeOff 61 = .ok (.if_icmp .ge 26, 3) := dw_162 wX7_takeOff_c 0 26 rfl rfl rfl
theorem dX7_takeOff_64 : decode cX7_takeOff 64 = .ok (.aload_n 0, 1) := dw_42 wX7_takeOff_c rfl
theorem dX7_takeOff_65 : decode cX7_takeOff 65 = .ok (.getfield 15, 3) := dw_180 wX7_takeOff_c 0 15 rfl rfl
theorem dX7_takeOff_68 : decode cX7_takeOff 68 = .ok (.aload_n 0, 1) := dw_42 wX7_takeOff_c rfl
theorem dX7_takeOff_69 : decode cX7_takeOff 69 = .ok (.getfield 9, 3) := dw_180 wX7_takeOff_c 0 9 rfl rfl
theorem dX7_takeOff_72 : decode cX7_takeOff 72 = .ok (.aload_n 0, 1) := dw_42 wX7_takeOff_c rfl
theorem dX7_takeOff_73 : decode cX7_takeOff 73 = .ok (.getfield 34, 3) := dw_180 wX7_takeOff_c 0 34 rfl rfl
theorem dX7_takeOff_76 : decode cX7_takeOff 76 = .ok (.iastore, 1) := dw_79 wX7_takeOff_c rfl
theorem dX7_takeOff_77 : decode cX7_takeOff 77 = .ok (.aload_n 0, 1) := dw_42 wX7_takeOff_c rfl
theorem dX7_takeOff_78 : decode cX7_takeOff 78 = .ok (.dup, 1) := dw_89 wX7_takeOff_c rfl
theorem dX7_takeOff_79 : decode cX7_takeOff 79 = .ok (.getfield 9, 3) := dw_180 wX7_takeOff_c 0 9 rfl rfl
theorem dX7_takeOff_82 : decode cX7_takeOff 82 = .ok (.iconst 1, 1) := dw_4 wX7_takeOff_c rfl
theorem dX7_takeOff_83 : decode cX7_takeOff 83 = .ok (.iadd, 1) := dw_96 wX7_takeOff_c rfl
theorem dX7_takeOff_84 : decode cX7_takeOff 84 = .ok (.putfield 9, 3) := dw_181 wX7_takeOff_c 0 9 rfl rfl
theorem dX7_takeOff_87 : decode cX7_takeOff 87 = .ok (.return_, 1) := dw_177 wX7_takeOff_c rfl
def wNX7_isDebt : Nat := 94058222522838277641852105841475287945376463877593009116639424276150605771631768696727799514712290348
theorem wX7_isDebt_c : hz_cd cX7_isDebt wNX7_isDebt 42 := ⟨by decide +kernel, by decide +kernel⟩
theorem dX7_isDebt_0 : decode cX7_isDebt 0 = .ok (.aload_n 2, 1) := dw_44 wX7_isDebt_c rfl
theorem dX7_isDebt_1 : decode cX7_isDebt 1 = .ok (.getfield 61, 3) := dw_180 wX7_isDebt_c 0 61 rfl rfl
theorem dX7_isDebt_4 : decode cX7_isDebt 4 = .ok (.getfield 67, 3) := dw_180 wX7_isDebt_c 0 67 rfl rfl
theorem dX7_isDebt_7 : decode cX7_isDebt 7 = .ok (.aload_n 0, 1) := dw_42 wX7_isDebt_c rfl
theorem dX7_isDebt_8 : decode cX7_isDebt 8 = .ok (.getfield 25, 3) := dw_180 wX7_isDebt_c 0 25 rfl rfl
theorem dX7_isDebt_11 : decode cX7_isDebt 11 = .ok (.iload_n 1, 1) := dw_27 wX7_isDebt_c rfl
theorem dX7_isDebt_12 : decode cX7_isDebt 12 = .ok (.iaload, 1) := dw_46 wX7_isDebt_c rfl
theorem dX7_isDebt_13 : decode cX7_isDebt 13 = .ok (.if_icmp .ne 27, 3) := dw_160 wX7_isDebt_c 0 27 rfl rfl rfl
theorem dX7_isDebt_16 : decode cX7_isDebt 16 = .ok (.aload_n 2, 1) := dw_44 wX7_isDebt_c rfl
theorem dX7_isDebt_17 : decode cX7_isDebt 17 = .ok (.getfield 72, 3) := dw_180 wX7_isDebt_c 0 72 rfl rfl
theorem dX7_isDebt_20 : decode cX7_isDebt 20 = .ok (.getfield 67, 3) := dw_180 wX7_isDebt_c 0 67 rfl rfl
theorem dX7_isDebt_23 : decode cX7_isDebt 23 = .ok (.aload_n 0, 1) := dw_42 wX7_isDebt_c rfl
theorem dX7_isDebt_24 : decode cX7_isDebt 24 = .ok (.getfield 25, 3) := dw_180 wX7_isDebt_c 0 25 rfl rfl
theorem dX7_isDebt_27 : decode cX7_isDebt 27 = .ok (.aload_n 0, 1) := dw_42 wX7_isDebt_c rfl
theorem dX7_isDebt_28 : decode cX7_isDebt 28 = .ok (.iload_n 1, 1) := dw_27 wX7_isDebt_c rfl
theorem dX7_isDebt_29 : decode cX7_isDebt 29 = .ok (.invokevirtual 75, 3) := dw_182 wX7_isDebt_c 0 75 rfl rfl
theorem dX7_isDebt_32 : decode cX7_isDebt 32 = .ok (.iaload, 1) := dw_46 wX7_isDebt_c rfl
theorem dX7_isDebt_33 : decode cX7_isDebt 33 = .ok (.if_icmp .ne 7, 3) := dw_160 wX7_isDebt_c 0 7 rfl rfl rfl
theorem dX7_isDebt_36 : decode cX7_isDebt 36 = .ok (.iconst 1, 1) := dw_4 wX7_isDebt_c rfl
theorem dX7_isDebt_37 : decode cX7_isDebt 37 = .ok (.goto 4, 3) := dw_167 wX7_isDebt_c 0 4 rfl rfl rfl
theorem dX7_isDebt_40 : decode cX7_isDebt 40 = .ok (.iconst 0, 1) := dw_3 wX7_isDebt_c rfl
theorem dX7_isDebt_41 : decode cX7_isDebt 41 = .ok (.ireturn, 1) := dw_172 wX7_isDebt_c rfl
end
section
theorem dX8_isListed_0 : decode cX8_isListed 0 = .ok (.iconst 0, 1) := by decide +kernel
theorem dX8_isListed_1 : decode cX8_isListed 1 = .ok (.istore_n 2, 1) := by decide +kernel
theorem dX8_isListed_2 : decode cX8_isListed 2 = .ok (.iload_n 2, 1) := by decide +kernel
theorem dX8_isListed_3 : decode cX8_isListed 3 = .ok (.aload_n 0, 1) := by decide +kernel
theorem dX8_isListed_4 : decode cX8_isListed 4 = .ok (.getfield 24, 3) := by decide +kernel
theorem dX8_isListed_7 : decode cX8_isListed 7 = .ok (.if_icmp .ge 21, 3) := by decide +kernel
theorem dX8_isListed_10 : decode cX8_isListed 10 = .ok (.aload_n 0, 1) := by decide +kernel
theorem dX8_isListed_11 : decode cX8_isListed 11 = .ok (.getfield 17, 3) := by decide +kernel
theorem dX8_isListed_14 : decode cX8_isListed 14 = .ok (.iload_n 2, 1) := by decide +kernel
theorem dX8_isListed_15 : decode cX8_isListed 15 = .ok (.aaload, 1) := by decide +kernel
theorem dX8_isListed_16 : decode cX8_isListed 16 = .ok (.aload_n 1, 1) := by decide +kernel
theorem dX8_isListed_17 : decode cX8_isListed 17 = .ok (.if_acmp .ne 5, 3) := by decide +kernel
theorem dX8_isListed_20 : decode cX8_isListed 20 = .ok (.iconst 1, 1) := by decide +kernel
theorem dX8_isListed_21 : decode cX8_isListed 21 = .ok (.ireturn, 1) := by decide +kernel
theorem dX8_isListed_22 : decode cX8_isListed 22 = .ok (.iinc 2 1, 3) := by decide +kernel
theorem dX8_isListed_25 : decode cX8_isListed 25 = .ok (.goto (-23), 3) := by decide +kernel
theorem dX8_isListed_28 : decode cX8_isListed 28 = .ok (.iconst 0, 1) := by decide +kernel
theorem dX8_isListed_29 : decode cX8_isListed 29 = .ok (.ireturn, 1) := by decide +kernel
end
