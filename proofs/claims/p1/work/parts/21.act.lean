theorem dX0_term_0 : decode cX0_term 0 = .ok (.iload_n 0, 1) := by decide +kernel
theorem dX0_term_1 : decode cX0_term 1 = .ok (.iload_n 1, 1) := by decide +kernel
theorem dX0_term_2 : decode cX0_term 2 = .ok (.iconst 3, 1) := by decide +kernel
theorem dX0_term_3 : decode cX0_term 3 = .ok (.ishl, 1) := by decide +kernel
theorem dX0_term_4 : decode cX0_term 4 = .ok (.ior, 1) := by decide +kernel
theorem dX0_term_5 : decode cX0_term 5 = .ok (.iload_n 2, 1) := by decide +kernel
theorem dX0_term_6 : decode cX0_term 6 = .ok (.ifCond .eq 7, 3) := by decide +kernel
theorem dX0_term_13 : decode cX0_term 13 = .ok (.iconst 0, 1) := by decide +kernel
theorem dX0_term_14 : decode cX0_term 14 = .ok (.bipush 6, 2) := by decide +kernel
theorem dX0_term_16 : decode cX0_term 16 = .ok (.ishl, 1) := by decide +kernel
theorem dX0_term_17 : decode cX0_term 17 = .ok (.ior, 1) := by decide +kernel
theorem dX0_term_18 : decode cX0_term 18 = .ok (.iload_n 3, 1) := by decide +kernel
theorem dX0_term_19 : decode cX0_term 19 = .ok (.bipush 7, 2) := by decide +kernel
theorem dX0_term_21 : decode cX0_term 21 = .ok (.ishl, 1) := by decide +kernel
theorem dX0_term_22 : decode cX0_term 22 = .ok (.ior, 1) := by decide +kernel
theorem dX0_term_23 : decode cX0_term 23 = .ok (.ireturn, 1) := by decide +kernel
set_option maxHeartbeats 4000000 in
set_option maxRecDepth 100000 in
theorem c_X0_term_144 (l : Launch) (dC : Nat → ClassId) (dI : Nat → Nat → Nat) (dA : Nat → ClassId) (L : List Nat) (h : hx_h) (sz : Nat)    : Met l yX0_term (Cond.code yX0_term cX0_term 4 (some .int) :: hx_all) ({ frames := 0, cells := 0, slots := 0, locals := 0 }) (va_Pc [.int (0 : Int32), .int (2 : Int32), .int (0 : Int32), .int (1 : Int32)] (hx_B P_tb (P_ty dA) (dC, dI) vwCl L h sz)) (va_Qi (fun (r : Int32) (u : List Nat × hx_h) => r = 144 ∧ u = (L, h)) (hx_E P_tb (P_ty dA) (dC, dI) vwCl (hx_A L sz)) (hx_A L sz)) 0 0 (hx_A L sz) := by
  refine hx_met (lv := [(0, .int (0 : Int32)), (1, .int (2 : Int32)), (2, .int (0 : Int32)), (3, .int (1 : Int32))]) (by decide +kernel) rfl (Nat.le_of_ble_eq_true rfl) rfl ?_
  intro p e s m below meth c hx hb hml hr hlk hts0 hown hin hsz hW ls hl
  have hts : ∀ w ∈ hx_all, w.before _ s = true := fun w hw => hts0 w (List.mem_cons_of_mem _ hw)
  have hown : s.vm.findClass "SmallCourt$Act" = some m.cls := hown
  refine lv_iload_n hx hb dX0_term_0 rfl (lv_at hl 0 rfl) ?_
  refine lv_iload_n hx hb dX0_term_1 rfl (lv_at hl 1 rfl) ?_
  refine lv_iconst (v := 3) hx hb dX0_term_2 (by decide) ?_
  refine lv_ishl hx hb dX0_term_3 ?_
  refine lv_topi (fun x_1 ex_1 => ?_)
  obtain rfl : x_1 = (16 : Int32) := ex_1.trans (by decide)
  refine lv_ior hx hb dX0_term_4 ?_
  refine lv_topi (fun x_2 ex_2 => ?_)
  obtain rfl : x_2 = (16 : Int32) := ex_2.trans (by decide)
  refine lv_iload_n hx hb dX0_term_5 rfl (lv_at hl 2 rfl) ?_
  refine hb_if_eq (zx := 0) (tgt := 13) hx hb (by decide) dX0_term_6 (by decide) (fun c_3 => ?_) (fun c_3 => absurd c_3 (by decide))
  refine lv_iconst (v := 0) hx hb dX0_term_13 (by decide) ?_
  refine lv_bipush (v := 6) hx hb dX0_term_14 (by decide) ?_
  refine lv_ishl hx hb dX0_term_16 ?_
  refine lv_topi (fun x_4 ex_4 => ?_)
  obtain rfl : x_4 = (0 : Int32) := ex_4.trans (by decide)
  refine lv_ior hx hb dX0_term_17 ?_
  refine lv_topi (fun x_5 ex_5 => ?_)
  obtain rfl : x_5 = (16 : Int32) := ex_5.trans (by decide)
  refine lv_iload_n hx hb dX0_term_18 rfl (lv_at hl 3 rfl) ?_
  refine lv_bipush (v := 7) hx hb dX0_term_19 (by decide) ?_
  refine lv_ishl hx hb dX0_term_21 ?_
  refine lv_topi (fun x_6 ex_6 => ?_)
  obtain rfl : x_6 = (128 : Int32) := ex_6.trans (by decide)
  refine lv_ior hx hb dX0_term_22 ?_
  refine lv_topi (fun x_7 ex_7 => ?_)
  obtain rfl : x_7 = (144 : Int32) := ex_7.trans (by decide)
  exact hx_reti hx hb hr hlk hW ⟨rfl, rfl⟩ dX0_term_23



set_option maxHeartbeats 4000000 in
set_option maxRecDepth 100000 in
theorem c_X0_term_17 (l : Launch) (dC : Nat → ClassId) (dI : Nat → Nat → Nat) (dA : Nat → ClassId) (L : List Nat) (h : hx_h) (sz : Nat)    : Met l yX0_term (Cond.code yX0_term cX0_term 4 (some .int) :: hx_all) ({ frames := 0, cells := 0, slots := 0, locals := 0 }) (va_Pc [.int (1 : Int32), .int (2 : Int32), .int (0 : Int32), .int (0 : Int32)] (hx_B P_tb (P_ty dA) (dC, dI) vwCl L h sz)) (va_Qi (fun (r : Int32) (u : List Nat × hx_h) => r = 17 ∧ u = (L, h)) (hx_E P_tb (P_ty dA) (dC, dI) vwCl (hx_A L sz)) (hx_A L sz)) 0 0 (hx_A L sz) := by
  refine hx_met (lv := [(0, .int (1 : Int32)), (1, .int (2 : Int32)), (2, .int (0 : Int32)), (3, .int (0 : Int32))]) (by decide +kernel) rfl (Nat.le_of_ble_eq_true rfl) rfl ?_
  intro p e s m below meth c hx hb hml hr hlk hts0 hown hin hsz hW ls hl
  have hts : ∀ w ∈ hx_all, w.before _ s = true := fun w hw => hts0 w (List.mem_cons_of_mem _ hw)
  have hown : s.vm.findClass "SmallCourt$Act" = some m.cls := hown
  refine lv_iload_n hx hb dX0_term_0 rfl (lv_at hl 0 rfl) ?_
  refine lv_iload_n hx hb dX0_term_1 rfl (lv_at hl 1 rfl) ?_
  refine lv_iconst (v := 3) hx hb dX0_term_2 (by decide) ?_
  refine lv_ishl hx hb dX0_term_3 ?_
  refine lv_topi (fun x_1 ex_1 => ?_)
  obtain rfl : x_1 = (16 : Int32) := ex_1.trans (by decide)
  refine lv_ior hx hb dX0_term_4 ?_
  refine lv_topi (fun x_2 ex_2 => ?_)
  obtain rfl : x_2 = (17 : Int32) := ex_2.trans (by decide)
  refine lv_iload_n hx hb dX0_term_5 rfl (lv_at hl 2 rfl) ?_
  refine hb_if_eq (zx := 0) (tgt := 13) hx hb (by decide) dX0_term_6 (by decide) (fun c_3 => ?_) (fun c_3 => absurd c_3 (by decide))
  refine lv_iconst (v := 0) hx hb dX0_term_13 (by decide) ?_
  refine lv_bipush (v := 6) hx hb dX0_term_14 (by decide) ?_
  refine lv_ishl hx hb dX0_term_16 ?_
  refine lv_topi (fun x_4 ex_4 => ?_)
  obtain rfl : x_4 = (0 : Int32) := ex_4.trans (by decide)
  refine lv_ior hx hb dX0_term_17 ?_
  refine lv_topi (fun x_5 ex_5 => ?_)
  obtain rfl : x_5 = (17 : Int32) := ex_5.trans (by decide)
  refine lv_iload_n hx hb dX0_term_18 rfl (lv_at hl 3 rfl) ?_
  refine lv_bipush (v := 7) hx hb dX0_term_19 (by decide) ?_
  refine lv_ishl hx hb dX0_term_21 ?_
  refine lv_topi (fun x_6 ex_6 => ?_)
  obtain rfl : x_6 = (0 : Int32) := ex_6.trans (by decide)
  refine lv_ior hx hb dX0_term_22 ?_
  refine lv_topi (fun x_7 ex_7 => ?_)
  obtain rfl : x_7 = (17 : Int32) := ex_7.trans (by decide)
  exact hx_reti hx hb hr hlk hW ⟨rfl, rfl⟩ dX0_term_23


theorem dX0_init_0 : decode cX0_init 0 = .ok (.aload_n 0, 1) := by decide +kernel
theorem dX0_init_1 : decode cX0_init 1 = .ok (.invokespecial 3, 3) := by decide +kernel
theorem dX0_init_4 : decode cX0_init 4 = .ok (.aload_n 0, 1) := by decide +kernel
theorem dX0_init_5 : decode cX0_init 5 = .ok (.bipush 14, 2) := by decide +kernel
theorem dX0_init_7 : decode cX0_init 7 = .ok (.newarray .int, 2) := by decide +kernel
theorem dX0_init_9 : decode cX0_init 9 = .ok (.putfield 9, 3) := by decide +kernel
theorem dX0_init_12 : decode cX0_init 12 = .ok (.aload_n 0, 1) := by decide +kernel
theorem dX0_init_13 : decode cX0_init 13 = .ok (.sipush 160, 3) := by decide +kernel
theorem dX0_init_16 : decode cX0_init 16 = .ok (.newarray .int, 2) := by decide +kernel
theorem dX0_init_18 : decode cX0_init 18 = .ok (.putfield 15, 3) := by decide +kernel
theorem dX0_init_21 : decode cX0_init 21 = .ok (.aload_n 0, 1) := by decide +kernel
theorem dX0_init_22 : decode cX0_init 22 = .ok (.iload_n 1, 1) := by decide +kernel
theorem dX0_init_23 : decode cX0_init 23 = .ok (.putfield 18, 3) := by decide +kernel
theorem dX0_init_26 : decode cX0_init 26 = .ok (.aload_n 0, 1) := by decide +kernel
theorem dX0_init_27 : decode cX0_init 27 = .ok (.iload_n 2, 1) := by decide +kernel
theorem dX0_init_28 : decode cX0_init 28 = .ok (.putfield 22, 3) := by decide +kernel
theorem dX0_init_31 : decode cX0_init 31 = .ok (.getstatic 25, 3) := by decide +kernel
theorem dX0_init_34 : decode cX0_init 34 = .ok (.iconst 0, 1) := by decide +kernel
theorem dX0_init_35 : decode cX0_init 35 = .ok (.aload_n 0, 1) := by decide +kernel
theorem dX0_init_36 : decode cX0_init 36 = .ok (.getfield 9, 3) := by decide +kernel
theorem dX0_init_39 : decode cX0_init 39 = .ok (.iconst 0, 1) := by decide +kernel
theorem dX0_init_40 : decode cX0_init 40 = .ok (.bipush 14, 2) := by decide +kernel
theorem dX0_init_42 : decode cX0_init 42 = .ok (.invokestatic 28, 3) := by decide +kernel
theorem dX0_init_45 : decode cX0_init 45 = .ok (.aload_n 0, 1) := by decide +kernel
theorem dX0_init_46 : decode cX0_init 46 = .ok (.getfield 15, 3) := by decide +kernel
theorem dX0_init_49 : decode cX0_init 49 = .ok (.iconst 0, 1) := by decide +kernel
theorem dX0_init_50 : decode cX0_init 50 = .ok (.iconst 0, 1) := by decide +kernel
theorem dX0_init_51 : decode cX0_init 51 = .ok (.iconst 2, 1) := by decide +kernel
theorem dX0_init_52 : decode cX0_init 52 = .ok (.iconst 0, 1) := by decide +kernel
theorem dX0_init_53 : decode cX0_init 53 = .ok (.iconst 1, 1) := by decide +kernel
theorem dX0_init_54 : decode cX0_init 54 = .ok (.invokestatic 34, 3) := by decide +kernel
theorem dX0_init_57 : decode cX0_init 57 = .ok (.iastore, 1) := by decide +kernel
theorem dX0_init_58 : decode cX0_init 58 = .ok (.aload_n 0, 1) := by decide +kernel
theorem dX0_init_59 : decode cX0_init 59 = .ok (.getfield 15, 3) := by decide +kernel
theorem dX0_init_62 : decode cX0_init 62 = .ok (.iconst 1, 1) := by decide +kernel
theorem dX0_init_63 : decode cX0_init 63 = .ok (.iconst 1, 1) := by decide +kernel
theorem dX0_init_64 : decode cX0_init 64 = .ok (.iconst 2, 1) := by decide +kernel
theorem dX0_init_65 : decode cX0_init 65 = .ok (.iconst 0, 1) := by decide +kernel
theorem dX0_init_66 : decode cX0_init 66 = .ok (.iconst 0, 1) := by decide +kernel
theorem dX0_init_67 : decode cX0_init 67 = .ok (.invokestatic 34, 3) := by decide +kernel
theorem dX0_init_70 : decode cX0_init 70 = .ok (.iastore, 1) := by decide +kernel
theorem dX0_init_71 : decode cX0_init 71 = .ok (.aload_n 0, 1) := by decide +kernel
theorem dX0_init_72 : decode cX0_init 72 = .ok (.getfield 15, 3) := by decide +kernel
theorem dX0_init_75 : decode cX0_init 75 = .ok (.iconst 2, 1) := by decide +kernel
theorem dX0_init_76 : decode cX0_init 76 = .ok (.iconst (-1), 1) := by decide +kernel
theorem dX0_init_77 : decode cX0_init 77 = .ok (.iastore, 1) := by decide +kernel
theorem dX0_init_78 : decode cX0_init 78 = .ok (.aload_n 0, 1) := by decide +kernel
theorem dX0_init_79 : decode cX0_init 79 = .ok (.iconst 3, 1) := by decide +kernel
theorem dX0_init_80 : decode cX0_init 80 = .ok (.putfield 38, 3) := by decide +kernel
theorem dX0_init_83 : decode cX0_init 83 = .ok (.return_, 1) := by decide +kernel
set_option maxHeartbeats 4000000 in
set_option maxRecDepth 100000 in
theorem c_X0_init (l : Launch) (dC : Nat → ClassId) (dI : Nat → Nat → Nat) (dA : Nat → ClassId) (L : List Nat) (h : hx_h) (sz : Nat) (b0 : Nat) (x : Nat) (i1 : Int32) (i2 : Int32) (gx : hx_g L h x 0)  : Met l yX0_init (Cond.code yX0_init cX0_init 3 none :: hx_all) ({ frames := 1, cells := 2, slots := 174, locals := 40 }) (va_Pc [.ref x, .int i1, .int i2] (hx_BX P_tb (P_ty dA) (dC, dI) vwCl L h sz b0)) (va_Qv (fun (u : List Nat × hx_h) => hx_S P_tb [(0, 0), (0, 1), (0, 2), (0, 3), (0, 4), (11, 0), (12, 0)] L h u.1 u.2 ∧ u.2.2.1 x 0 = i1 ∧ u.2.2.1 x 1 = i2 ∧ ∃ qt, u.2.2.2 x 2 = some qt ∧ hx_g u.1 u.2 qt 11 ∧ ∀ j, j < 14 → u.2.2.1 qt j = P_wo j) (hx_E P_tb (P_ty dA) (dC, dI) vwCl (hx_A L sz)) (hx_A L sz)) 2 174 (hx_A L sz) := by
  refine hx_metX (lv := [(0, .ref x), (1, .int i1), (2, .int i2)]) (by decide +kernel) rfl (Nat.le_of_ble_eq_true rfl) rfl ?_
  intro p e s m below meth c hx hb hml hr hlk hts0 hown hin hsz hW hZ ls hl
  have hts : ∀ w ∈ hx_all, w.before _ s = true := fun w hw => hts0 w (List.mem_cons_of_mem _ hw)
  have hown : s.vm.findClass "SmallCourt$Act" = some m.cls := hown
  have hin : meth.name = "<init>" := hin
  have hM : hx_S P_tb [(0, 0), (0, 1), (0, 2), (0, 3), (0, 4), (11, 0), (12, 0)] L h L h := hx_S.rf
  refine lv_aload_n hx hb dX0_init_0 rfl (lv_at hl 0 rfl) ?_
  refine W.objInit hx hb hown (hts _ kw_153) (hts _ kw_117) (hts _ kw_118) rfl (by rw [hml]; exact hl.1) rfl dX0_init_1 (Nat.le_of_ble_eq_true rfl) (Nat.le_of_ble_eq_true rfl) ?_
  refine W.eq (g2 := F0 m 4 ls []) rfl ?_
  refine lv_aload_n hx hb dX0_init_4 rfl (lv_at hl 0 rfl) ?_
  refine lv_bipush (v := 14) hx hb dX0_init_5 (by decide) ?_
  refine hk_newa hx hb hts hW 11 td_11 (atype := .int) rfl kw_186 (tys := P_ty dA) (t0 := 0) rfl (fun _ => Iff.rfl) rfl (i := (14 : Int32)) (by decide) (Nat.le_of_ble_eq_true rfl) (Nat.le_of_ble_eq_true rfl) (Nat.le_of_ble_eq_true rfl) dX0_init_7 (fun q_2 H h_1 eh_1 hqq_2 hW hs gq_2 => ?_)
  have hM := hM.tr (hs.mono (by decide))
  have gx := gx.S hs
  have f_3 : (∀ j, h_1.2.1 q_2 j = 0) ∧ ∀ j, h_1.2.2 q_2 j = none := by rw [eh_1]; exact ⟨fun _ => hx_nw_i, fun _ => hx_nw_r⟩
  refine hk_putrF hx hb hts hC_0 hown hW gx td_0 2 (by decide) rfl kw_166 ⟨rfl, rfl, rfl⟩ rfl hin rfl (x := (some q_2)) rfl rfl rfl dX0_init_9 (fun H locs h_4 eh_4 hW hs => ?_)
  have f_3 : _ ∧ _ := ⟨fun j => (hs.a gq_2 rfl j).1.trans (f_3.1 j), fun j => (hs.a gq_2 rfl j).2.trans (f_3.2 j)⟩
  have hM := hM.tr (hs.mono (by decide))
  have gx := gx.S hs
  have gq_2 := gq_2.S hs
  have f_5 : h_4.2.2 x 2 = (some q_2) := by rw [eh_4]; exact hx_pr_at _ _ _ _
  refine lv_aload_n hx hb dX0_init_12 rfl (lv_at hl 0 rfl) ?_
  refine lv_sipush (v := 160) hx hb dX0_init_13 (by decide) ?_
  refine hk_newa hx hb hts hW 12 td_12 (atype := .int) rfl kw_186 (tys := P_ty dA) (t0 := 0) rfl (fun _ => Iff.rfl) rfl (i := (160 : Int32)) (by decide) (Nat.le_of_ble_eq_true rfl) (Nat.le_of_ble_eq_true rfl) (Nat.le_of_ble_eq_true rfl) dX0_init_16 (fun q_7 H h_6 eh_6 hqq_7 hW hs gq_7 => ?_)
  have f_5 := (hs.o gx trivial rfl).2.trans f_5
  have f_3 : _ ∧ _ := ⟨fun j => (hs.a gq_2 rfl j).1.trans (f_3.1 j), fun j => (hs.a gq_2 rfl j).2.trans (f_3.2 j)⟩
  have hM := hM.tr (hs.mono (by decide))
  have gx := gx.S hs
  have gq_2 := gq_2.S hs
  have f_8 : (∀ j, h_6.2.1 q_7 j = 0) ∧ ∀ j, h_6.2.2 q_7 j = none := by rw [eh_6]; exact ⟨fun _ => hx_nw_i, fun _ => hx_nw_r⟩
  refine hk_putrF hx hb hts hC_0 hown hW gx td_0 3 (by decide) rfl kw_172 ⟨rfl, rfl, rfl⟩ rfl hin rfl (x := (some q_7)) rfl rfl rfl dX0_init_18 (fun H locs h_9 eh_9 hW hs => ?_)
  have f_5 := (hs.o gx trivial rfl).2.trans f_5
  have f_3 : _ ∧ _ := ⟨fun j => (hs.a gq_2 rfl j).1.trans (f_3.1 j), fun j => (hs.a gq_2 rfl j).2.trans (f_3.2 j)⟩
  have f_8 : _ ∧ _ := ⟨fun j => (hs.a gq_7 rfl j).1.trans (f_8.1 j), fun j => (hs.a gq_7 rfl j).2.trans (f_8.2 j)⟩
  have hM := hM.tr (hs.mono (by decide))
  have gx := gx.S hs
  have gq_2 := gq_2.S hs
  have gq_7 := gq_7.S hs
  have f_10 : h_9.2.2 x 3 = (some q_7) := by rw [eh_9]; exact hx_pr_at _ _ _ _
  refine lv_aload_n hx hb dX0_init_21 rfl (lv_at hl 0 rfl) ?_
  refine lv_iload_n hx hb dX0_init_22 rfl (lv_at hl 1 rfl) ?_
  refine hk_putiF hx hb hts hC_0 hown hW gx td_0 0 (by decide) rfl kw_162 ⟨rfl, rfl, rfl⟩ rfl hin rfl (x := i1) rfl rfl rfl dX0_init_23 (fun H locs h_11 eh_11 hW hs => ?_)
  have f_5 := (hs.o gx trivial rfl).2.trans f_5
  have f_10 := (hs.o gx trivial rfl).2.trans f_10
  have f_3 : _ ∧ _ := ⟨fun j => (hs.a gq_2 rfl j).1.trans (f_3.1 j), fun j => (hs.a gq_2 rfl j).2.trans (f_3.2 j)⟩
  have f_8 : _ ∧ _ := ⟨fun j => (hs.a gq_7 rfl j).1.trans (f_8.1 j), fun j => (hs.a gq_7 rfl j).2.trans (f_8.2 j)⟩
  have hM := hM.tr (hs.mono (by decide))
  have gx := gx.S hs
  have gq_2 := gq_2.S hs
  have gq_7 := gq_7.S hs
  have f_12 : h_11.2.1 x 0 = i1 := by rw [eh_11]; exact hx_pi_at _ _ _ _
  refine lv_aload_n hx hb dX0_init_26 rfl (lv_at hl 0 rfl) ?_
  refine lv_iload_n hx hb dX0_init_27 rfl (lv_at hl 2 rfl) ?_
  refine hk_putiF hx hb hts hC_0 hown hW gx td_0 1 (by decide) rfl kw_164 ⟨rfl, rfl, rfl⟩ rfl hin rfl (x := i2) rfl rfl rfl dX0_init_28 (fun H locs h_13 eh_13 hW hs => ?_)
  have f_5 := (hs.o gx trivial rfl).2.trans f_5
  have f_10 := (hs.o gx trivial rfl).2.trans f_10
  have f_12 := (hs.o gx trivial rfl).1.trans f_12
  have f_3 : _ ∧ _ := ⟨fun j => (hs.a gq_2 rfl j).1.trans (f_3.1 j), fun j => (hs.a gq_2 rfl j).2.trans (f_3.2 j)⟩
  have f_8 : _ ∧ _ := ⟨fun j => (hs.a gq_7 rfl j).1.trans (f_8.1 j), fun j => (hs.a gq_7 rfl j).2.trans (f_8.2 j)⟩
  have hM := hM.tr (hs.mono (by decide))
  have gx := gx.S hs
  have gq_2 := gq_2.S hs
  have gq_7 := gq_7.S hs
  have f_14 : h_13.2.1 x 1 = i2 := by rw [eh_13]; exact hx_pi_at _ _ _ _
  refine va_getsN hx hb hZ.2.2.1 hW.2.2.2.1 hown (va_Nw.use rfl (hZ.1 _ (List.mem_of_getElem? (i := 1) rfl))) (fun _ h9 => h9) dX0_init_31 ?_
  refine lv_iconst (v := 0) hx hb dX0_init_34 (by decide) ?_
  refine lv_aload_n hx hb dX0_init_35 rfl (lv_at hl 0 rfl) ?_
  refine hk_getr hx hb hts hC_0 hown hW gx td_0 2 (by decide) rfl kw_166 ⟨rfl, rfl, rfl⟩ f_5 dX0_init_36 ?_
  refine lv_iconst (v := 0) hx hb dX0_init_39 (by decide) ?_
  refine lv_bipush (v := 14) hx hb dX0_init_40 (by decide) ?_
  refine hk_copyx hx hb (hml.trans hl.1.symm) hown (hts _ kw_156) (hts _ kw_158) (hts _ kw_157) (hts _ kw_97) hW hZ.2.2.2.1 hZ.2.2.2.2.1 hZ.2.2.2.2.2 gq_2 td_11 rfl (by decide) rfl rfl (by decide) (Nat.le_of_ble_eq_true rfl) (Nat.le_of_ble_eq_true rfl) dX0_init_42 (fun H locs h_15 fa_16 hW hs => ?_)
  have f_5 := (hs.o gx trivial rfl).2.trans f_5
  have f_10 := (hs.o gx trivial rfl).2.trans f_10
  have f_12 := (hs.o gx trivial rfl).1.trans f_12
  have f_14 := (hs.o gx trivial rfl).1.trans f_14
  have f_8 : _ ∧ _ := ⟨fun j => (hs.a gq_7 rfl j).1.trans (f_8.1 j), fun j => (hs.a gq_7 rfl j).2.trans (f_8.2 j)⟩
  have hM := hM.tr (hs.mono (by decide))
  have gx := gx.S hs
  have gq_2 := gq_2.S hs
  have gq_7 := gq_7.S hs
  refine lv_aload_n hx hb dX0_init_45 rfl (lv_at hl 0 rfl) ?_
  refine hk_getr hx hb hts hC_0 hown hW gx td_0 3 (by decide) rfl kw_172 ⟨rfl, rfl, rfl⟩ f_10 dX0_init_46 ?_
  refine lv_iconst (v := 0) hx hb dX0_init_49 (by decide) ?_
  refine lv_iconst (v := 0) hx hb dX0_init_50 (by decide) ?_
  refine lv_iconst (v := 2) hx hb dX0_init_51 (by decide) ?_
  refine lv_iconst (v := 0) hx hb dX0_init_52 (by decide) ?_
  refine lv_iconst (v := 1) hx hb dX0_init_53 (by decide) ?_
  refine hx_goi (hx_runS (As := [.int (0 : Int32), .int (2 : Int32), .int (0 : Int32), .int (1 : Int32)]) (rest := [.int (0 : Int32), .ref q_7]) ⟨hx, hb, hml, hown, hts⟩ hW (c_X0_term_144 l dC dI dA ((L ++ [q_2]) ++ [q_7]) h_15 H.size ) (va_cwS 4 hts (hx_gS kw_161 kw_159 kw_160 kw_96) rfl rfl rfl (by decide +kernel) ⟨Nat.le_of_ble_eq_true rfl, Nat.le_of_ble_eq_true rfl⟩) rfl hl.1 rfl (Nat.le_of_ble_eq_true rfl) dX0_init_54 ⟨Nat.le_of_ble_eq_true rfl, Nat.le_of_ble_eq_true rfl⟩) hW (fun r_19 L_17 h_18 H locs p_20 hW => ?_)
  obtain ⟨rfl, eu⟩ := p_20
  cases eu
  refine hk_iast hx hb hW gq_7 td_12 rfl (by decide) rfl dX0_init_57 (fun H locs h_21 eh_21 hW hs => ?_)
  have f_5 := (hs.o gx trivial rfl).2.trans f_5
  have f_10 := (hs.o gx trivial rfl).2.trans f_10
  have f_12 := (hs.o gx trivial rfl).1.trans f_12
  have f_14 := (hs.o gx trivial rfl).1.trans f_14
  have fa_16 : ∀ j, j < 14 → _ = P_wo j := fun j hj => (hs.a gq_2 rfl j).1.trans (fa_16 j hj)
  have hM := hM.tr (hs.mono (by decide))
  have gx := gx.S hs
  have gq_2 := gq_2.S hs
  have gq_7 := gq_7.S hs
  refine lv_aload_n hx hb dX0_init_58 rfl (lv_at hl 0 rfl) ?_
  refine hk_getr hx hb hts hC_0 hown hW gx td_0 3 (by decide) rfl kw_172 ⟨rfl, rfl, rfl⟩ f_10 dX0_init_59 ?_
  refine lv_iconst (v := 1) hx hb dX0_init_62 (by decide) ?_
  refine lv_iconst (v := 1) hx hb dX0_init_63 (by decide) ?_
  refine lv_iconst (v := 2) hx hb dX0_init_64 (by decide) ?_
  refine lv_iconst (v := 0) hx hb dX0_init_65 (by decide) ?_
  refine lv_iconst (v := 0) hx hb dX0_init_66 (by decide) ?_
  refine hx_goi (hx_runS (As := [.int (1 : Int32), .int (2 : Int32), .int (0 : Int32), .int (0 : Int32)]) (rest := [.int (1 : Int32), .ref q_7]) ⟨hx, hb, hml, hown, hts⟩ hW (c_X0_term_17 l dC dI dA ((L ++ [q_2]) ++ [q_7]) h_21 H.size ) (va_cwS 4 hts (hx_gS kw_161 kw_159 kw_160 kw_96) rfl rfl rfl (by decide +kernel) ⟨Nat.le_of_ble_eq_true rfl, Nat.le_of_ble_eq_true rfl⟩) rfl hl.1 rfl (Nat.le_of_ble_eq_true rfl) dX0_init_67 ⟨Nat.le_of_ble_eq_true rfl, Nat.le_of_ble_eq_true rfl⟩) hW (fun r_24 L_22 h_23 H locs p_25 hW => ?_)
  obtain ⟨rfl, eu⟩ := p_25
  cases eu
  refine hk_iast hx hb hW gq_7 td_12 rfl (by decide) rfl dX0_init_70 (fun H locs h_26 eh_26 hW hs => ?_)
  have f_5 := (hs.o gx trivial rfl).2.trans f_5
  have f_10 := (hs.o gx trivial rfl).2.trans f_10
  have f_12 := (hs.o gx trivial rfl).1.trans f_12
  have f_14 := (hs.o gx trivial rfl).1.trans f_14
  have fa_16 : ∀ j, j < 14 → _ = P_wo j := fun j hj => (hs.a gq_2 rfl j).1.trans (fa_16 j hj)
  have hM := hM.tr (hs.mono (by decide))
  have gx := gx.S hs
  have gq_2 := gq_2.S hs
  have gq_7 := gq_7.S hs
  refine lv_aload_n hx hb dX0_init_71 rfl (lv_at hl 0 rfl) ?_
  refine hk_getr hx hb hts hC_0 hown hW gx td_0 3 (by decide) rfl kw_172 ⟨rfl, rfl, rfl⟩ f_10 dX0_init_72 ?_
  refine lv_iconst (v := 2) hx hb dX0_init_75 (by decide) ?_
  refine lv_iconst (v := -1) hx hb dX0_init_76 (by decide) ?_
  refine hk_iast hx hb hW gq_7 td_12 rfl (by decide) rfl dX0_init_77 (fun H locs h_27 eh_27 hW hs => ?_)
  have f_5 := (hs.o gx trivial rfl).2.trans f_5
  have f_10 := (hs.o gx trivial rfl).2.trans f_10
  have f_12 := (hs.o gx trivial rfl).1.trans f_12
  have f_14 := (hs.o gx trivial rfl).1.trans f_14
  have fa_16 : ∀ j, j < 14 → _ = P_wo j := fun j hj => (hs.a gq_2 rfl j).1.trans (fa_16 j hj)
  have hM := hM.tr (hs.mono (by decide))
  have gx := gx.S hs
  have gq_2 := gq_2.S hs
  have gq_7 := gq_7.S hs
  refine lv_aload_n hx hb dX0_init_78 rfl (lv_at hl 0 rfl) ?_
  refine lv_iconst (v := 3) hx hb dX0_init_79 (by decide) ?_
  refine hk_puti hx hb hts hC_0 hown hW gx td_0 4 (by decide) rfl kw_173 ⟨rfl, rfl, rfl⟩ rfl (x := (3 : Int32)) rfl rfl rfl dX0_init_80 (fun H locs h_28 eh_28 hW hs => ?_)
  have f_5 := (hs.o gx trivial rfl).2.trans f_5
  have f_10 := (hs.o gx trivial rfl).2.trans f_10
  have f_12 := (hs.o gx trivial rfl).1.trans f_12
  have f_14 := (hs.o gx trivial rfl).1.trans f_14
  have fa_16 : ∀ j, j < 14 → _ = P_wo j := fun j hj => (hs.a gq_2 rfl j).1.trans (fa_16 j hj)
  have hM := hM.tr (hs.mono (by decide))
  have gx := gx.S hs
  have gq_2 := gq_2.S hs
  have gq_7 := gq_7.S hs
  have f_29 : h_28.2.1 x 4 = (3 : Int32) := by rw [eh_28]; exact hx_pi_at _ _ _ _
  refine W.widen (k := 2) (n := 174) (Nat.le_of_ble_eq_true rfl) (Nat.le_of_ble_eq_true rfl) ?_
  exact hx_retv hx hb hr hlk hW ⟨hM, f_12, f_14, q_2, f_5, gq_2, fa_16⟩ dX0_init_83


theorem dX6_skipBlanks_0 : decode cX6_skipBlanks 0 = .ok (.aload_n 0, 1) := by decide +kernel
theorem dX6_skipBlanks_1 : decode cX6_skipBlanks 1 = .ok (.getfield 19, 3) := by decide +kernel
theorem dX6_skipBlanks_4 : decode cX6_skipBlanks 4 = .ok (.aload_n 0, 1) := by decide +kernel
theorem dX6_skipBlanks_5 : decode cX6_skipBlanks 5 = .ok (.getfield 15, 3) := by decide +kernel
theorem dX6_skipBlanks_8 : decode cX6_skipBlanks 8 = .ok (.if_icmp .ge 30, 3) := by decide +kernel
theorem dX6_skipBlanks_38 : decode cX6_skipBlanks 38 = .ok (.return_, 1) := by decide +kernel
set_option maxHeartbeats 4000000 in
set_option maxRecDepth 100000 in
theorem c_X6_skipBlanks (l : Launch) (dC : Nat → ClassId) (dI : Nat → Nat → Nat) (dA : Nat → ClassId) (L : List Nat) (h : hx_h) (sz : Nat) (x : Nat) (gx : hx_g L h x 6) (f_x_2 : h.2.1 x 2 = 0) (f_x_1 : h.2.1 x 1 = 0) : Met l yX6_skipBlanks (Cond.code yX6_skipBlanks cX6_skipBlanks 1 none :: hx_all) ({ frames := 0, cells := 0, slots := 0, locals := 0 }) (va_Pc [.ref x] (hx_B P_tb (P_ty dA) (dC, dI) vwCl L h sz)) (va_Qv (fun (u : List Nat × hx_h) => hx_S P_tb [] L h u.1 u.2) (hx_E P_tb (P_ty dA) (dC, dI) vwCl (hx_A L sz)) (hx_A L sz)) 0 0 (hx_A L sz) := by
  refine hx_met (lv := [(0, .ref x)]) (by decide +kernel) rfl (Nat.le_of_ble_eq_true rfl) rfl ?_
  intro p e s m below meth c hx hb hml hr hlk hts0 hown hin hsz hW ls hl
  have hts : ∀ w ∈ hx_all, w.before _ s = true := fun w hw => hts0 w (List.mem_cons_of_mem _ hw)
  have hown : s.vm.findClass "SmallCourt$Reader" = some m.cls := hown
  have hM : hx_S P_tb [] L h L h := hx_S.rf
  refine lv_aload_n hx hb dX6_skipBlanks_0 rfl (lv_at hl 0 rfl) ?_
  refine hk_geti hx hb hts hC_6 hown hW gx td_6 2 (by decide) rfl kw_127 ⟨rfl, rfl, rfl⟩ f_x_2 dX6_skipBlanks_1 ?_
  refine lv_aload_n hx hb dX6_skipBlanks_4 rfl (lv_at hl 0 rfl) ?_
  refine hk_geti hx hb hts hC_6 hown hW gx td_6 1 (by decide) rfl kw_126 ⟨rfl, rfl, rfl⟩ f_x_1 dX6_skipBlanks_5 ?_
  refine hb_icmp_ge (zx := 0) (zy := 0) (tgt := 38) hx hb (by decide) (by decide) dX6_skipBlanks_8 (by decide) (fun c_1 => ?_) (fun c_1 => absurd c_1 (by decide))
  exact hx_retv hx hb hr hlk hW hM dX6_skipBlanks_38


theorem dX6_readAct_0 : decode cX6_readAct 0 = .ok (.aload_n 0, 1) := by decide +kernel
theorem dX6_readAct_1 : decode cX6_readAct 1 = .ok (.aload_n 1, 1) := by decide +kernel
theorem dX6_readAct_2 : decode cX6_readAct 2 = .ok (.putfield 9, 3) := by decide +kernel
theorem dX6_readAct_5 : decode cX6_readAct 5 = .ok (.aload_n 0, 1) := by decide +kernel
theorem dX6_readAct_6 : decode cX6_readAct 6 = .ok (.iload_n 2, 1) := by decide +kernel
theorem dX6_readAct_7 : decode cX6_readAct 7 = .ok (.ifCond .lt 9, 3) := by decide +kernel
theorem dX6_readAct_10 : decode cX6_readAct 10 = .ok (.iload_n 2, 1) := by decide +kernel
theorem dX6_readAct_11 : decode cX6_readAct 11 = .ok (.aload_n 1, 1) := by decide +kernel
theorem dX6_readAct_12 : decode cX6_readAct 12 = .ok (.arraylength, 1) := by decide +kernel
theorem dX6_readAct_13 : decode cX6_readAct 13 = .ok (.if_icmp .le 7, 3) := by decide +kernel
theorem dX6_readAct_20 : decode cX6_readAct 20 = .ok (.iload_n 2, 1) := by decide +kernel
theorem dX6_readAct_21 : decode cX6_readAct 21 = .ok (.putfield 15, 3) := by decide +kernel
theorem dX6_readAct_24 : decode cX6_readAct 24 = .ok (.aload_n 0, 1) := by decide +kernel
theorem dX6_readAct_25 : decode cX6_readAct 25 = .ok (.iconst 0, 1) := by decide +kernel
theorem dX6_readAct_26 : decode cX6_readAct 26 = .ok (.putfield 19, 3) := by decide +kernel
theorem dX6_readAct_29 : decode cX6_readAct 29 = .ok (.aload_n 0, 1) := by decide +kernel
theorem dX6_readAct_30 : decode cX6_readAct 30 = .ok (.iconst 0, 1) := by decide +kernel
theorem dX6_readAct_31 : decode cX6_readAct 31 = .ok (.putfield 22, 3) := by decide +kernel
theorem dX6_readAct_34 : decode cX6_readAct 34 = .ok (.aload_n 0, 1) := by decide +kernel
theorem dX6_readAct_35 : decode cX6_readAct 35 = .ok (.iconst 0, 1) := by decide +kernel
theorem dX6_readAct_36 : decode cX6_readAct 36 = .ok (.putfield 25, 3) := by decide +kernel
theorem dX6_readAct_39 : decode cX6_readAct 39 = .ok (.aload_n 0, 1) := by decide +kernel
theorem dX6_readAct_40 : decode cX6_readAct 40 = .ok (.iconst 0, 1) := by decide +kernel
theorem dX6_readAct_41 : decode cX6_readAct 41 = .ok (.putfield 28, 3) := by decide +kernel
theorem dX6_readAct_44 : decode cX6_readAct 44 = .ok (.aload_n 0, 1) := by decide +kernel
theorem dX6_readAct_45 : decode cX6_readAct 45 = .ok (.aload_n 3, 1) := by decide +kernel
theorem dX6_readAct_46 : decode cX6_readAct 46 = .ok (.putfield 31, 3) := by decide +kernel
theorem dX6_readAct_49 : decode cX6_readAct 49 = .ok (.aload_n 0, 1) := by decide +kernel
theorem dX6_readAct_50 : decode cX6_readAct 50 = .ok (.invokevirtual 35, 3) := by decide +kernel
theorem dX6_readAct_53 : decode cX6_readAct 53 = .ok (.aload_n 0, 1) := by decide +kernel
theorem dX6_readAct_54 : decode cX6_readAct 54 = .ok (.getfield 19, 3) := by decide +kernel
theorem dX6_readAct_57 : decode cX6_readAct 57 = .ok (.aload_n 0, 1) := by decide +kernel
theorem dX6_readAct_58 : decode cX6_readAct 58 = .ok (.getfield 15, 3) := by decide +kernel
theorem dX6_readAct_61 : decode cX6_readAct 61 = .ok (.if_icmp .ge 7, 3) := by decide +kernel
theorem dX6_readAct_68 : decode cX6_readAct 68 = .ok (.iconst 0, 1) := by decide +kernel
theorem dX6_readAct_69 : decode cX6_readAct 69 = .ok (.istore 4, 2) := by decide +kernel
theorem dX6_readAct_71 : decode cX6_readAct 71 = .ok (.iconst 0, 1) := by decide +kernel
theorem dX6_readAct_72 : decode cX6_readAct 72 = .ok (.istore 5, 2) := by decide +kernel
theorem dX6_readAct_74 : decode cX6_readAct 74 = .ok (.iload 5, 2) := by decide +kernel
theorem dX6_readAct_76 : decode cX6_readAct 76 = .ok (.aload_n 0, 1) := by decide +kernel
theorem dX6_readAct_77 : decode cX6_readAct 77 = .ok (.getfield 15, 3) := by decide +kernel
theorem dX6_readAct_80 : decode cX6_readAct 80 = .ok (.if_icmp .gt 35, 3) := by decide +kernel
theorem dX6_readAct_83 : decode cX6_readAct 83 = .ok (.iload 4, 2) := by decide +kernel
theorem dX6_readAct_85 : decode cX6_readAct 85 = .ok (.ifCond .eq 30, 3) := by decide +kernel
theorem dX6_readAct_115 : decode cX6_readAct 115 = .ok (.aload_n 0, 1) := by decide +kernel
theorem dX6_readAct_116 : decode cX6_readAct 116 = .ok (.getfield 22, 3) := by decide +kernel
theorem dX6_readAct_119 : decode cX6_readAct 119 = .ok (.ireturn, 1) := by decide +kernel
set_option maxHeartbeats 4000000 in
set_option maxRecDepth 100000 in
theorem c_X6_readAct (l : Launch) (dC : Nat → ClassId) (dI : Nat → Nat → Nat) (dA : Nat → ClassId) (L : List Nat) (h : hx_h) (sz : Nat) (x : Nat) (v1 : Nat) (v2 : Nat) (gx : hx_g L h x 6) (gv1 : hx_g L h v1 42) (gv2 : hx_g L h v2 0)  : Met l yX6_readAct (Cond.code yX6_readAct cX6_readAct 6 (some .int) :: hx_all) ({ frames := 1, cells := 0, slots := 0, locals := 20 }) (va_Pc [.ref x, .ref v1, .int (0 : Int32), .ref v2] (hx_B P_tb (P_ty dA) (dC, dI) vwCl L h sz)) (va_Qi (fun (r : Int32) (u : List Nat × hx_h) => (r = 0) ∧ hx_S P_tb [(6, 0), (6, 1), (6, 2), (6, 3), (6, 4), (6, 5), (6, 6)] L h u.1 u.2) (hx_E P_tb (P_ty dA) (dC, dI) vwCl (hx_A L sz)) (hx_A L sz)) 0 0 (hx_A L sz) := by
  refine hx_met (lv := [(0, .ref x), (1, .ref v1), (2, .int (0 : Int32)), (3, .ref v2)]) (by decide +kernel) rfl (Nat.le_of_ble_eq_true rfl) rfl ?_
  intro p e s m below meth c hx hb hml hr hlk hts0 hown hin hsz hW ls hl
  have hts : ∀ w ∈ hx_all, w.before _ s = true := fun w hw => hts0 w (List.mem_cons_of_mem _ hw)
  have hown : s.vm.findClass "SmallCourt$Reader" = some m.cls := hown
  have hM : hx_S P_tb [(6, 0), (6, 1), (6, 2), (6, 3), (6, 4), (6, 5), (6, 6)] L h L h := hx_S.rf
  refine lv_aload_n hx hb dX6_readAct_0 rfl (lv_at hl 0 rfl) ?_
  refine lv_aload_n hx hb dX6_readAct_1 rfl (lv_at hl 1 rfl) ?_
  refine hk_putr hx hb hts hC_6 hown hW gx td_6 0 (by decide) rfl kw_125 ⟨rfl, rfl, rfl⟩ rfl (x := (some v1)) rfl rfl rfl dX6_readAct_2 (fun H locs h_1 eh_1 hW hs => ?_)
  have hM := hM.tr (hs.mono (by decide))
  have gx := gx.S hs
  have gv1 := gv1.S hs
  have gv2 := gv2.S hs
  have f_2 : h_1.2.2 x 0 = (some v1) := by rw [eh_1]; exact hx_pr_at _ _ _ _
  refine lv_aload_n hx hb dX6_readAct_5 rfl (lv_at hl 0 rfl) ?_
  refine lv_iload_n hx hb dX6_readAct_6 rfl (lv_at hl 2 rfl) ?_
  refine hb_if_lt (zx := 0) (tgt := 16) hx hb (by decide) dX6_readAct_7 (by decide) (fun c_3 => absurd c_3 (by decide)) (fun c_3 => ?_)
  refine lv_iload_n hx hb dX6_readAct_10 rfl (lv_at hl 2 rfl) ?_
  refine lv_aload_n hx hb dX6_readAct_11 rfl (lv_at hl 1 rfl) ?_
  refine hx_alen hx hb hW gv1 td_42 rfl dX6_readAct_12 ?_
  refine lv_topi (fun x_4 ex_4 => ?_)
  obtain rfl : x_4 = (400 : Int32) := ex_4.trans (by decide)
  refine hb_icmp_le (zx := 0) (zy := 400) (tgt := 20) hx hb (by decide) (by decide) dX6_readAct_13 (by decide) (fun c_5 => ?_) (fun c_5 => absurd c_5 (by decide))
  refine lv_iload_n hx hb dX6_readAct_20 rfl (lv_at hl 2 rfl) ?_
  refine hk_puti hx hb hts hC_6 hown hW gx td_6 1 (by decide) rfl kw_126 ⟨rfl, rfl, rfl⟩ rfl (x := (0 : Int32)) rfl rfl rfl dX6_readAct_21 (fun H locs h_6 eh_6 hW hs => ?_)
  have f_2 := (hs.o gx trivial rfl).2.trans f_2
  have hM := hM.tr (hs.mono (by decide))
  have gx := gx.S hs
  have gv1 := gv1.S hs
  have gv2 := gv2.S hs
  have f_7 : h_6.2.1 x 1 = (0 : Int32) := by rw [eh_6]; exact hx_pi_at _ _ _ _
  refine lv_aload_n hx hb dX6_readAct_24 rfl (lv_at hl 0 rfl) ?_
  refine lv_iconst (v := 0) hx hb dX6_readAct_25 (by decide) ?_
  refine hk_puti hx hb hts hC_6 hown hW gx td_6 2 (by decide) rfl kw_127 ⟨rfl, rfl, rfl⟩ rfl (x := (0 : Int32)) rfl rfl rfl dX6_readAct_26 (fun H locs h_8 eh_8 hW hs => ?_)
  have f_2 := (hs.o gx trivial rfl).2.trans f_2
  have f_7 := (hs.o gx trivial rfl).1.trans f_7
  have hM := hM.tr (hs.mono (by decide))
  have gx := gx.S hs
  have gv1 := gv1.S hs
  have gv2 := gv2.S hs
  have f_9 : h_8.2.1 x 2 = (0 : Int32) := by rw [eh_8]; exact hx_pi_at _ _ _ _
  refine lv_aload_n hx hb dX6_readAct_29 rfl (lv_at hl 0 rfl) ?_
  refine lv_iconst (v := 0) hx hb dX6_readAct_30 (by decide) ?_
  refine hk_puti hx hb hts hC_6 hown hW gx td_6 3 (by decide) rfl kw_128 ⟨rfl, rfl, rfl⟩ rfl (x := (0 : Int32)) rfl rfl rfl dX6_readAct_31 (fun H locs h_10 eh_10 hW hs => ?_)
  have f_2 := (hs.o gx trivial rfl).2.trans f_2
  have f_7 := (hs.o gx trivial rfl).1.trans f_7
  have f_9 := (hs.o gx trivial rfl).1.trans f_9
  have hM := hM.tr (hs.mono (by decide))
  have gx := gx.S hs
  have gv1 := gv1.S hs
  have gv2 := gv2.S hs
  have f_11 : h_10.2.1 x 3 = (0 : Int32) := by rw [eh_10]; exact hx_pi_at _ _ _ _
  refine lv_aload_n hx hb dX6_readAct_34 rfl (lv_at hl 0 rfl) ?_
  refine lv_iconst (v := 0) hx hb dX6_readAct_35 (by decide) ?_
  refine hk_puti hx hb hts hC_6 hown hW gx td_6 4 (by decide) rfl kw_129 ⟨rfl, rfl, rfl⟩ rfl (x := (0 : Int32)) rfl rfl rfl dX6_readAct_36 (fun H locs h_12 eh_12 hW hs => ?_)
  have f_2 := (hs.o gx trivial rfl).2.trans f_2
  have f_7 := (hs.o gx trivial rfl).1.trans f_7
  have f_9 := (hs.o gx trivial rfl).1.trans f_9
  have f_11 := (hs.o gx trivial rfl).1.trans f_11
  have hM := hM.tr (hs.mono (by decide))
  have gx := gx.S hs
  have gv1 := gv1.S hs
  have gv2 := gv2.S hs
  have f_13 : h_12.2.1 x 4 = (0 : Int32) := by rw [eh_12]; exact hx_pi_at _ _ _ _
  refine lv_aload_n hx hb dX6_readAct_39 rfl (lv_at hl 0 rfl) ?_
  refine lv_iconst (v := 0) hx hb dX6_readAct_40 (by decide) ?_
  refine hk_puti hx hb hts hC_6 hown hW gx td_6 5 (by decide) rfl kw_130 ⟨rfl, rfl, rfl⟩ rfl (x := (0 : Int32)) rfl rfl rfl dX6_readAct_41 (fun H locs h_14 eh_14 hW hs => ?_)
  have f_2 := (hs.o gx trivial rfl).2.trans f_2
  have f_7 := (hs.o gx trivial rfl).1.trans f_7
  have f_9 := (hs.o gx trivial rfl).1.trans f_9
  have f_11 := (hs.o gx trivial rfl).1.trans f_11
  have f_13 := (hs.o gx trivial rfl).1.trans f_13
  have hM := hM.tr (hs.mono (by decide))
  have gx := gx.S hs
  have gv1 := gv1.S hs
  have gv2 := gv2.S hs
  have f_15 : h_14.2.1 x 5 = (0 : Int32) := by rw [eh_14]; exact hx_pi_at _ _ _ _
  refine lv_aload_n hx hb dX6_readAct_44 rfl (lv_at hl 0 rfl) ?_
  refine lv_aload_n hx hb dX6_readAct_45 rfl (lv_at hl 3 rfl) ?_
  refine hk_putr hx hb hts hC_6 hown hW gx td_6 6 (by decide) rfl kw_131 ⟨rfl, rfl, rfl⟩ rfl (x := (some v2)) rfl rfl rfl dX6_readAct_46 (fun H locs h_16 eh_16 hW hs => ?_)
  have f_2 := (hs.o gx trivial rfl).2.trans f_2
  have f_7 := (hs.o gx trivial rfl).1.trans f_7
  have f_9 := (hs.o gx trivial rfl).1.trans f_9
  have f_11 := (hs.o gx trivial rfl).1.trans f_11
  have f_13 := (hs.o gx trivial rfl).1.trans f_13
  have f_15 := (hs.o gx trivial rfl).1.trans f_15
  have hM := hM.tr (hs.mono (by decide))
  have gx := gx.S hs
  have gv1 := gv1.S hs
  have gv2 := gv2.S hs
  have f_17 : h_16.2.2 x 6 = (some v2) := by rw [eh_16]; exact hx_pr_at _ _ _ _
  refine lv_aload_n hx hb dX6_readAct_49 rfl (lv_at hl 0 rfl) ?_
  refine hx_gov (hx_runV (As := []) (rest := []) ⟨hx, hb, hml, hown, hts⟩ hW gx td_6 (T := TX6) (N := 7) rfl (c_X6_skipBlanks l dC dI dA L h_16 H.size x gx f_9 f_7) (cwV 0 hts (hx_gV kw_458 kw_455 kw_457 kw_1 kw_95) rfl rfl rfl (by decide +kernel) ⟨Nat.le_of_ble_eq_true rfl, Nat.le_of_ble_eq_true rfl⟩) rfl hl.1 rfl (Nat.le_of_ble_eq_true rfl) dX6_readAct_50 ⟨Nat.le_of_ble_eq_true rfl, Nat.le_of_ble_eq_true rfl⟩) hW (fun L_18 h_19 H locs p_21 hW => ?_)
  have hs : hx_S P_tb [] L h_16 L_18 h_19 := p_21
  have f_2 := (hs.o gx trivial rfl).2.trans f_2
  have f_7 := (hs.o gx trivial rfl).1.trans f_7
  have f_9 := (hs.o gx trivial rfl).1.trans f_9
  have f_11 := (hs.o gx trivial rfl).1.trans f_11
  have f_13 := (hs.o gx trivial rfl).1.trans f_13
  have f_15 := (hs.o gx trivial rfl).1.trans f_15
  have f_17 := (hs.o gx trivial rfl).2.trans f_17
  have hM := hM.tr (hs.mono (by decide))
  have gx := gx.S hs
  have gv1 := gv1.S hs
  have gv2 := gv2.S hs
  refine lv_aload_n hx hb dX6_readAct_53 rfl (lv_at hl 0 rfl) ?_
  refine hk_geti hx hb hts hC_6 hown hW gx td_6 2 (by decide) rfl kw_127 ⟨rfl, rfl, rfl⟩ f_9 dX6_readAct_54 ?_
  refine lv_aload_n hx hb dX6_readAct_57 rfl (lv_at hl 0 rfl) ?_
  refine hk_geti hx hb hts hC_6 hown hW gx td_6 1 (by decide) rfl kw_126 ⟨rfl, rfl, rfl⟩ f_7 dX6_readAct_58 ?_
  refine hb_icmp_ge (zx := 0) (zy := 0) (tgt := 68) hx hb (by decide) (by decide) dX6_readAct_61 (by decide) (fun c_22 => ?_) (fun c_22 => absurd c_22 (by decide))
  refine lv_iconst (v := 0) hx hb dX6_readAct_68 (by decide) ?_
  refine lv_istore (lv' := [(4, .int (0 : Int32)), (0, .ref x), (1, .ref v1), (2, .int (0 : Int32)), (3, .ref v2)]) hx hb dX6_readAct_69 hl (by decide) rfl (fun ls hl => ?_)
  refine lv_iconst (v := 0) hx hb dX6_readAct_71 (by decide) ?_
  refine lv_istore (lv' := [(5, .int (0 : Int32)), (4, .int (0 : Int32)), (0, .ref x), (1, .ref v1), (2, .int (0 : Int32)), (3, .ref v2)]) hx hb dX6_readAct_72 hl (by decide) rfl (fun ls hl => ?_)
  refine lv_iload hx hb dX6_readAct_74 (lv_at hl 0 rfl) ?_
  refine lv_aload_n hx hb dX6_readAct_76 rfl (lv_at hl 2 rfl) ?_
  refine hk_geti hx hb hts hC_6 hown hW gx td_6 1 (by decide) rfl kw_126 ⟨rfl, rfl, rfl⟩ f_7 dX6_readAct_77 ?_
  refine hb_icmp_gt (zx := 0) (zy := 0) (tgt := 115) hx hb (by decide) (by decide) dX6_readAct_80 (by decide) (fun c_23 => absurd c_23 (by decide)) (fun c_23 => ?_)
  refine lv_iload hx hb dX6_readAct_83 (lv_at hl 1 rfl) ?_
  refine hb_if_eq (zx := 0) (tgt := 115) hx hb (by decide) dX6_readAct_85 (by decide) (fun c_24 => ?_) (fun c_24 => absurd c_24 (by decide))
  refine lv_aload_n hx hb dX6_readAct_115 rfl (lv_at hl 2 rfl) ?_
  refine hk_geti hx hb hts hC_6 hown hW gx td_6 3 (by decide) rfl kw_128 ⟨rfl, rfl, rfl⟩ f_11 dX6_readAct_116 ?_
  exact hx_reti hx hb hr hlk hW ⟨rfl, hM⟩ dX6_readAct_119


theorem dX9_act_0 : decode cX9_act 0 = .ok (.aload_n 0, 1) := by decide +kernel
theorem dX9_act_1 : decode cX9_act 1 = .ok (.getfield 105, 3) := by decide +kernel
theorem dX9_act_4 : decode cX9_act 4 = .ok (.bipush 8, 2) := by decide +kernel
theorem dX9_act_6 : decode cX9_act 6 = .ok (.if_icmp .ge 10, 3) := by decide +kernel
theorem dX9_act_9 : decode cX9_act 9 = .ok (.iload_n 1, 1) := by decide +kernel
theorem dX9_act_10 : decode cX9_act 10 = .ok (.invokestatic 90, 3) := by decide +kernel
theorem dX9_act_13 : decode cX9_act 13 = .ok (.ifCond .ne 5, 3) := by decide +kernel
theorem dX9_act_16 : decode cX9_act 16 = .ok (.iconst (-1), 1) := by decide +kernel
theorem dX9_act_17 : decode cX9_act 17 = .ok (.ireturn, 1) := by decide +kernel
theorem dX9_act_18 : decode cX9_act 18 = .ok (.new 20, 3) := by decide +kernel
theorem dX9_act_21 : decode cX9_act 21 = .ok (.dup, 1) := by decide +kernel
theorem dX9_act_22 : decode cX9_act 22 = .ok (.aload_n 0, 1) := by decide +kernel
theorem dX9_act_23 : decode cX9_act 23 = .ok (.getfield 105, 3) := by decide +kernel
theorem dX9_act_26 : decode cX9_act 26 = .ok (.iload_n 1, 1) := by decide +kernel
theorem dX9_act_27 : decode cX9_act 27 = .ok (.invokespecial 22, 3) := by decide +kernel
theorem dX9_act_30 : decode cX9_act 30 = .ok (.astore_n 2, 1) := by decide +kernel
theorem dX9_act_31 : decode cX9_act 31 = .ok (.aload_n 0, 1) := by decide +kernel
theorem dX9_act_32 : decode cX9_act 32 = .ok (.getfield 16, 3) := by decide +kernel
theorem dX9_act_35 : decode cX9_act 35 = .ok (.aload_n 0, 1) := by decide +kernel
theorem dX9_act_36 : decode cX9_act 36 = .ok (.getfield 9, 3) := by decide +kernel
theorem dX9_act_39 : decode cX9_act 39 = .ok (.aload_n 0, 1) := by decide +kernel
theorem dX9_act_40 : decode cX9_act 40 = .ok (.getfield 98, 3) := by decide +kernel
theorem dX9_act_43 : decode cX9_act 43 = .ok (.aload_n 2, 1) := by decide +kernel
theorem dX9_act_44 : decode cX9_act 44 = .ok (.invokevirtual 108, 3) := by decide +kernel
theorem dX9_act_47 : decode cX9_act 47 = .ok (.istore_n 3, 1) := by decide +kernel
theorem dX9_act_48 : decode cX9_act 48 = .ok (.aload_n 0, 1) := by decide +kernel
theorem dX9_act_49 : decode cX9_act 49 = .ok (.iconst 0, 1) := by decide +kernel
theorem dX9_act_50 : decode cX9_act 50 = .ok (.putfield 98, 3) := by decide +kernel
theorem dX9_act_53 : decode cX9_act 53 = .ok (.iload_n 3, 1) := by decide +kernel
theorem dX9_act_54 : decode cX9_act 54 = .ok (.ifCond .eq 8, 3) := by decide +kernel
theorem dX9_act_62 : decode cX9_act 62 = .ok (.aload_n 0, 1) := by decide +kernel
theorem dX9_act_63 : decode cX9_act 63 = .ok (.getfield 29, 3) := by decide +kernel
theorem dX9_act_66 : decode cX9_act 66 = .ok (.aload_n 0, 1) := by decide +kernel
theorem dX9_act_67 : decode cX9_act 67 = .ok (.getfield 105, 3) := by decide +kernel
theorem dX9_act_70 : decode cX9_act 70 = .ok (.aload_n 2, 1) := by decide +kernel
theorem dX9_act_71 : decode cX9_act 71 = .ok (.aastore, 1) := by decide +kernel
theorem dX9_act_72 : decode cX9_act 72 = .ok (.aload_n 0, 1) := by decide +kernel
theorem dX9_act_73 : decode cX9_act 73 = .ok (.dup, 1) := by decide +kernel
theorem dX9_act_74 : decode cX9_act 74 = .ok (.getfield 105, 3) := by decide +kernel
theorem dX9_act_77 : decode cX9_act 77 = .ok (.iconst 1, 1) := by decide +kernel
theorem dX9_act_78 : decode cX9_act 78 = .ok (.iadd, 1) := by decide +kernel
theorem dX9_act_79 : decode cX9_act 79 = .ok (.putfield 105, 3) := by decide +kernel
theorem dX9_act_82 : decode cX9_act 82 = .ok (.aload_n 2, 1) := by decide +kernel
theorem dX9_act_83 : decode cX9_act 83 = .ok (.getfield 112, 3) := by decide +kernel
theorem dX9_act_86 : decode cX9_act 86 = .ok (.ireturn, 1) := by decide +kernel
set_option maxHeartbeats 4000000 in
set_option maxRecDepth 100000 in
theorem c_X9_act (l : Launch) (dC : Nat → ClassId) (dI : Nat → Nat → Nat) (dA : Nat → ClassId) (L : List Nat) (h : hx_h) (sz : Nat) (b0 : Nat) (x : Nat) (d : Int32) (gx : hx_g L h x 9) (f_x_6 : h.2.1 x 6 = 0) (f_x_1 : h.2.1 x 1 = 0) (qr : Nat) (gqr : hx_g L h qr 6) (f_x_3 : h.2.2 x 3 = some qr) (qt : Nat) (gqt : hx_g L h qt 42) (f_x_0 : h.2.2 x 0 = some qt) (qc : Nat) (gqc : hx_g L h qc 43) (f_x_5 : h.2.2 x 5 = some qc) : Met l yX9_act (Cond.code yX9_act cX9_act 4 (some .int) :: hx_all) ({ frames := 2, cells := 3, slots := 179, locals := 62 }) (va_Pc [.ref x, .int d] (hx_BX P_tb (P_ty dA) (dC, dI) vwCl L h sz b0)) (va_Qi (fun (r : Int32) (u : List Nat × hx_h) => ((0 ≤ d.toInt ∧ d.toInt ≤ 7999) ∧ r = 0 ∨ ¬ (0 ≤ d.toInt ∧ d.toInt ≤ 7999) ∧ r = -1) ∧ hx_S P_tb [(0, 0), (0, 1), (0, 2), (0, 3), (0, 4), (6, 0), (6, 1), (6, 2), (6, 3), (6, 4), (6, 5), (6, 6), (9, 1), (9, 6), (11, 0), (12, 0), (43, 0)] L h u.1 u.2) (hx_E P_tb (P_ty dA) (dC, dI) vwCl (hx_A L sz)) (hx_A L sz)) 3 179 (hx_A L sz) := by
  refine hx_metX (lv := [(0, .ref x), (1, .int d)]) (by decide +kernel) rfl (Nat.le_of_ble_eq_true rfl) rfl ?_
  intro p e s m below meth c hx hb hml hr hlk hts0 hown hin hsz hW hZ ls hl
  have hts : ∀ w ∈ hx_all, w.before _ s = true := fun w hw => hts0 w (List.mem_cons_of_mem _ hw)
  have hown : s.vm.findClass "SmallCourt" = some m.cls := hown
  have hM : hx_S P_tb [(0, 0), (0, 1), (0, 2), (0, 3), (0, 4), (6, 0), (6, 1), (6, 2), (6, 3), (6, 4), (6, 5), (6, 6), (9, 1), (9, 6), (11, 0), (12, 0), (43, 0)] L h L h := hx_S.rf
  refine lv_aload_n hx hb dX9_act_0 rfl (lv_at hl 0 rfl) ?_
  refine hk_geti hx hb hts hC_9 hown hW gx td_9 6 (by decide) rfl kw_370 ⟨rfl, rfl, rfl⟩ f_x_6 dX9_act_1 ?_
  refine lv_bipush (v := 8) hx hb dX9_act_4 (by decide) ?_
  refine hb_icmp_ge (zx := 0) (zy := 8) (tgt := 16) hx hb (by decide) (by decide) dX9_act_6 (by decide) (fun c_1 => absurd c_1 (by decide)) (fun c_1 => ?_)
  refine lv_iload_n hx hb dX9_act_9 rfl (lv_at hl 1 rfl) ?_
  refine hx_goi (hx_runS (As := [.int d]) (rest := []) ⟨hx, hb, hml, hown, hts⟩ hW (c_X9_isDay l dC dI dA L h s.heap.size d) (va_cwS 1 hts (hx_gS kw_431 kw_429 kw_430 kw_94) rfl rfl rfl (by decide +kernel) ⟨Nat.le_of_ble_eq_true rfl, Nat.le_of_ble_eq_true rfl⟩) rfl hl.1 rfl (Nat.le_of_ble_eq_true rfl) dX9_act_10 ⟨Nat.le_of_ble_eq_true rfl, Nat.le_of_ble_eq_true rfl⟩) hW (fun r_4 L_2 h_3 H locs p_5 hW => ?_)
  obtain ⟨p_5, eu⟩ := p_5
  cases eu
  rcases p_5 with ⟨kp_5, rfl⟩ | ⟨kp_5, rfl⟩
  · skip
    refine hb_if_ne (zx := 1) (tgt := 18) hx hb (by decide) dX9_act_13 (by decide) (fun c_6 => ?_) (fun c_6 => absurd c_6 (by decide))
    refine hk_new hx hb hts hC_0 hown hW 0 td_0 rfl (by decide) kw_148 kw_149 kw_96 (Nat.le_of_ble_eq_true rfl) (Nat.le_of_ble_eq_true rfl) dX9_act_18 (fun q_8 H h_7 eh_7 hqq_8 hW hs gq_8 => ?_)
    have f_x_6 := (hs.o gx trivial rfl).1.trans f_x_6
    have f_x_1 := (hs.o gx trivial rfl).1.trans f_x_1
    have f_x_3 := (hs.o gx trivial rfl).2.trans f_x_3
    have f_x_0 := (hs.o gx trivial rfl).2.trans f_x_0
    have f_x_5 := (hs.o gx trivial rfl).2.trans f_x_5
    have hM := hM.tr (hs.mono (by decide))
    have gx := gx.S hs
    have gqr := gqr.S hs
    have gqt := gqt.S hs
    have gqc := gqc.S hs
    have f_9 : h_7.2.1 q_8 0 = 0 := by rw [eh_7]; exact hx_nw_i
    have f_10 : h_7.2.1 q_8 1 = 0 := by rw [eh_7]; exact hx_nw_i
    have f_13 : h_7.2.1 q_8 4 = 0 := by rw [eh_7]; exact hx_nw_i
    refine lv_dup hx hb dX9_act_21 rfl ?_
    refine lv_aload_n hx hb dX9_act_22 rfl (lv_at hl 0 rfl) ?_
    refine hk_geti hx hb hts hC_9 hown hW gx td_9 6 (by decide) rfl kw_370 ⟨rfl, rfl, rfl⟩ f_x_6 dX9_act_23 ?_
    refine lv_iload_n hx hb dX9_act_26 rfl (lv_at hl 1 rfl) ?_
    refine hx_gov (hx_runIX (As := [.int (0 : Int32), .int d]) (rest := [.ref q_8]) ⟨hx, hb, hml, hown, hts⟩ hW (c_X0_init l dC dI dA (L ++ [q_8]) h_7 H.size b0 q_8 (0 : Int32) d gq_8) hZ (cwI 2 hts (hx_gC kw_152) rfl rfl rfl (hts _ kw_96) (hts _ kw_150) (hts _ kw_151) rfl (by decide +kernel) ⟨Nat.le_of_ble_eq_true rfl, Nat.le_of_ble_eq_true rfl⟩) rfl hl.1 rfl (Nat.le_of_ble_eq_true rfl) dX9_act_27 ⟨Nat.le_of_ble_eq_true rfl, Nat.le_of_ble_eq_true rfl⟩) hW (fun L_14 h_15 H locs p_17 hW => ?_)
    obtain ⟨hs, f_19, f_20, q_18, f_21, gq_18, f_22⟩ := p_17
    have hs : hx_S P_tb [(0, 0), (0, 1), (0, 2), (0, 3), (0, 4), (11, 0), (12, 0)] (L ++ [q_8]) h_7 L_14 h_15 := hs
    have f_x_6 := (hs.o gx trivial rfl).1.trans f_x_6
    have f_x_1 := (hs.o gx trivial rfl).1.trans f_x_1
    have f_x_3 := (hs.o gx trivial rfl).2.trans f_x_3
    have f_x_0 := (hs.o gx trivial rfl).2.trans f_x_0
    have f_x_5 := (hs.o gx trivial rfl).2.trans f_x_5
    have hM := hM.tr (hs.mono (by decide))
    have gx := gx.S hs
    have gqr := gqr.S hs
    have gqt := gqt.S hs
    have gqc := gqc.S hs
    have gq_8 := gq_8.S hs
    have f_19 : h_15.2.1 q_8 0 = _ := f_19
    have f_20 : h_15.2.1 q_8 1 = _ := f_20
    have f_21 : h_15.2.2 q_8 2 = _ := f_21
    have gq_18 : hx_g L_14 h_15 q_18 11 := gq_18
    have f_22 : ∀ j, j < 14 → h_15.2.1 q_18 j = P_wo j := f_22
    refine lv_astore_n (lv' := [(2, .ref q_8), (0, .ref x), (1, .int d)]) hx hb dX9_act_30 rfl hl (by decide) rfl (fun ls hl => ?_)
    refine lv_aload_n hx hb dX9_act_31 rfl (lv_at hl 1 rfl) ?_
    refine hk_getr hx hb hts hC_9 hown hW gx td_9 3 (by decide) rfl kw_367 ⟨rfl, rfl, rfl⟩ f_x_3 dX9_act_32 ?_
    refine lv_aload_n hx hb dX9_act_35 rfl (lv_at hl 1 rfl) ?_
    refine hk_getr hx hb hts hC_9 hown hW gx td_9 0 (by decide) rfl kw_364 ⟨rfl, rfl, rfl⟩ f_x_0 dX9_act_36 ?_
    refine lv_aload_n hx hb dX9_act_39 rfl (lv_at hl 1 rfl) ?_
    refine hk_geti hx hb hts hC_9 hown hW gx td_9 1 (by decide) rfl kw_365 ⟨rfl, rfl, rfl⟩ f_x_1 dX9_act_40 ?_
    refine lv_aload_n hx hb dX9_act_43 rfl (lv_at hl 0 rfl) ?_
    refine hx_goi (hx_runV (As := [.ref qt, .int (0 : Int32), .ref q_8]) (rest := []) ⟨hx, hb, hml, hown, hts⟩ hW gqr td_6 (T := TX6) (N := 7) rfl (c_X6_readAct l dC dI dA L_14 h_15 H.size qr qt q_8 gqr gqt gq_8) (cwV 3 hts (hx_gV kw_454 kw_451 kw_452 kw_453 kw_95) rfl rfl rfl (by decide +kernel) ⟨Nat.le_of_ble_eq_true rfl, Nat.le_of_ble_eq_true rfl⟩) rfl hl.1 rfl (Nat.le_of_ble_eq_true rfl) dX9_act_44 ⟨Nat.le_of_ble_eq_true rfl, Nat.le_of_ble_eq_true rfl⟩) hW (fun r_25 L_23 h_24 H locs p_26 hW => ?_)
    obtain ⟨er, hs⟩ := p_26
    have hs : hx_S P_tb [(6, 0), (6, 1), (6, 2), (6, 3), (6, 4), (6, 5), (6, 6)] L_14 h_15 L_23 h_24 := hs
    have f_x_6 := (hs.o gx trivial rfl).1.trans f_x_6
    have f_x_1 := (hs.o gx trivial rfl).1.trans f_x_1
    have f_x_3 := (hs.o gx trivial rfl).2.trans f_x_3
    have f_x_0 := (hs.o gx trivial rfl).2.trans f_x_0
    have f_x_5 := (hs.o gx trivial rfl).2.trans f_x_5
    have f_19 := (hs.o gq_8 trivial rfl).1.trans f_19
    have f_20 := (hs.o gq_8 trivial rfl).1.trans f_20
    have f_21 := (hs.o gq_8 trivial rfl).2.trans f_21
    have f_22 : ∀ j, j < 14 → _ = P_wo j := fun j hj => (hs.a gq_18 rfl j).1.trans (f_22 j hj)
    have hM := hM.tr (hs.mono (by decide))
    have gx := gx.S hs
    have gqr := gqr.S hs
    have gqt := gqt.S hs
    have gqc := gqc.S hs
    have gq_8 := gq_8.S hs
    have gq_18 := gq_18.S hs
    subst er
    refine lv_istore_n (lv' := [(3, .int (0 : Int32)), (2, .ref q_8), (0, .ref x), (1, .int d)]) hx hb dX9_act_47 rfl hl (by decide) rfl (fun ls hl => ?_)
    refine lv_aload_n hx hb dX9_act_48 rfl (lv_at hl 2 rfl) ?_
    refine lv_iconst (v := 0) hx hb dX9_act_49 (by decide) ?_
    refine hk_puti hx hb hts hC_9 hown hW gx td_9 1 (by decide) rfl kw_365 ⟨rfl, rfl, rfl⟩ rfl (x := (0 : Int32)) rfl rfl rfl dX9_act_50 (fun H locs h_27 eh_27 hW hs => ?_)
    have f_x_6 := (hs.o gx trivial rfl).1.trans f_x_6
    have f_x_3 := (hs.o gx trivial rfl).2.trans f_x_3
    have f_x_0 := (hs.o gx trivial rfl).2.trans f_x_0
    have f_x_5 := (hs.o gx trivial rfl).2.trans f_x_5
    have f_19 := (hs.o gq_8 trivial rfl).1.trans f_19
    have f_20 := (hs.o gq_8 trivial rfl).1.trans f_20
    have f_21 := (hs.o gq_8 trivial rfl).2.trans f_21
    have f_22 : ∀ j, j < 14 → _ = P_wo j := fun j hj => (hs.a gq_18 rfl j).1.trans (f_22 j hj)
    have hM := hM.tr (hs.mono (by decide))
    have gx := gx.S hs
    have gqr := gqr.S hs
    have gqt := gqt.S hs
    have gqc := gqc.S hs
    have gq_8 := gq_8.S hs
    have gq_18 := gq_18.S hs
    have f_28 : h_27.2.1 x 1 = (0 : Int32) := by rw [eh_27]; exact hx_pi_at _ _ _ _
    refine lv_iload_n hx hb dX9_act_53 rfl (lv_at hl 0 rfl) ?_
    refine hb_if_eq (zx := 0) (tgt := 62) hx hb (by decide) dX9_act_54 (by decide) (fun c_29 => ?_) (fun c_29 => absurd c_29 (by decide))
    refine lv_aload_n hx hb dX9_act_62 rfl (lv_at hl 2 rfl) ?_
    refine hk_getr hx hb hts hC_9 hown hW gx td_9 5 (by decide) rfl kw_369 ⟨rfl, rfl, rfl⟩ f_x_5 dX9_act_63 ?_
    refine lv_aload_n hx hb dX9_act_66 rfl (lv_at hl 2 rfl) ?_
    refine hk_geti hx hb hts hC_9 hown hW gx td_9 6 (by decide) rfl kw_370 ⟨rfl, rfl, rfl⟩ f_x_6 dX9_act_67 ?_
    refine lv_aload_n hx hb dX9_act_70 rfl (lv_at hl 1 rfl) ?_
    refine hk_aast hx hb hW gqc td_43 rfl gq_8 td_0 rfl (by decide) dX9_act_71 (fun H locs h_30 eh_30 hW hs => ?_)
    have f_x_6 := (hs.o gx trivial rfl).1.trans f_x_6
    have f_x_3 := (hs.o gx trivial rfl).2.trans f_x_3
    have f_x_0 := (hs.o gx trivial rfl).2.trans f_x_0
    have f_x_5 := (hs.o gx trivial rfl).2.trans f_x_5
    have f_19 := (hs.o gq_8 trivial rfl).1.trans f_19
    have f_20 := (hs.o gq_8 trivial rfl).1.trans f_20
    have f_21 := (hs.o gq_8 trivial rfl).2.trans f_21
    have f_28 := (hs.o gx trivial rfl).1.trans f_28
    have f_22 : ∀ j, j < 14 → _ = P_wo j := fun j hj => (hs.a gq_18 rfl j).1.trans (f_22 j hj)
    have hM := hM.tr (hs.mono (by decide))
    have gx := gx.S hs
    have gqr := gqr.S hs
    have gqt := gqt.S hs
    have gqc := gqc.S hs
    have gq_8 := gq_8.S hs
    have gq_18 := gq_18.S hs
    refine lv_aload_n hx hb dX9_act_72 rfl (lv_at hl 2 rfl) ?_
    refine lv_dup hx hb dX9_act_73 rfl ?_
    refine hk_geti hx hb hts hC_9 hown hW gx td_9 6 (by decide) rfl kw_370 ⟨rfl, rfl, rfl⟩ f_x_6 dX9_act_74 ?_
    refine lv_iconst (v := 1) hx hb dX9_act_77 (by decide) ?_
    refine lv_iadd hx hb dX9_act_78 ?_
    refine lv_topi (fun x_31 ex_31 => ?_)
    obtain rfl : x_31 = (1 : Int32) := ex_31.trans (by decide)
    refine hk_puti hx hb hts hC_9 hown hW gx td_9 6 (by decide) rfl kw_370 ⟨rfl, rfl, rfl⟩ rfl (x := (1 : Int32)) rfl rfl rfl dX9_act_79 (fun H locs h_32 eh_32 hW hs => ?_)
    have f_x_3 := (hs.o gx trivial rfl).2.trans f_x_3
    have f_x_0 := (hs.o gx trivial rfl).2.trans f_x_0
    have f_x_5 := (hs.o gx trivial rfl).2.trans f_x_5
    have f_19 := (hs.o gq_8 trivial rfl).1.trans f_19
    have f_20 := (hs.o gq_8 trivial rfl).1.trans f_20
    have f_21 := (hs.o gq_8 trivial rfl).2.trans f_21
    have f_28 := (hs.o gx trivial rfl).1.trans f_28
    have f_22 : ∀ j, j < 14 → _ = P_wo j := fun j hj => (hs.a gq_18 rfl j).1.trans (f_22 j hj)
    have hM := hM.tr (hs.mono (by decide))
    have gx := gx.S hs
    have gqr := gqr.S hs
    have gqt := gqt.S hs
    have gqc := gqc.S hs
    have gq_8 := gq_8.S hs
    have gq_18 := gq_18.S hs
    have f_33 : h_32.2.1 x 6 = (1 : Int32) := by rw [eh_32]; exact hx_pi_at _ _ _ _
    refine lv_aload_n hx hb dX9_act_82 rfl (lv_at hl 1 rfl) ?_
    refine hk_geti hx hb hts hC_0 hown hW gq_8 td_0 0 (by decide) rfl kw_163 ⟨rfl, rfl, rfl⟩ f_19 dX9_act_83 ?_
    refine W.widen (k := 3) (n := 179) (Nat.le_of_ble_eq_true rfl) (Nat.le_of_ble_eq_true rfl) ?_
    exact hx_reti hx hb hr hlk hW ⟨Or.inl ⟨by first | omega | decide, rfl⟩, hM⟩ dX9_act_86
  · skip
    refine hb_if_ne (zx := 0) (tgt := 18) hx hb (by decide) dX9_act_13 (by decide) (fun c_34 => absurd c_34 (by decide)) (fun c_34 => ?_)
    refine lv_iconst (v := -1) hx hb dX9_act_16 (by decide) ?_
    refine W.widen (k := 3) (n := 179) (Nat.le_of_ble_eq_true rfl) (Nat.le_of_ble_eq_true rfl) ?_
    exact hx_reti hx hb hr hlk hW ⟨Or.inr ⟨by first | omega | decide, rfl⟩, hM⟩ dX9_act_17

