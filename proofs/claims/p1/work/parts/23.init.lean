theorem dX6_init_0 : decode cX6_init 0 = .ok (.aload_n 0, 1) := by decide +kernel
theorem dX6_init_1 : decode cX6_init 1 = .ok (.invokespecial 3, 3) := by decide +kernel
theorem dX6_init_4 : decode cX6_init 4 = .ok (.aload_n 0, 1) := by decide +kernel
theorem dX6_init_5 : decode cX6_init 5 = .ok (.iconst 0, 1) := by decide +kernel
theorem dX6_init_6 : decode cX6_init 6 = .ok (.newarray .byte, 2) := by decide +kernel
theorem dX6_init_8 : decode cX6_init 8 = .ok (.putfield 9, 3) := by decide +kernel
theorem dX6_init_11 : decode cX6_init 11 = .ok (.return_, 1) := by decide +kernel
set_option maxHeartbeats 4000000 in
set_option maxRecDepth 100000 in
theorem c_X6_init (l : Launch) (dC : Nat → ClassId) (dI : Nat → Nat → Nat) (dA : Nat → ClassId) (L : List Nat) (h : hx_h) (sz : Nat) (x : Nat) (gx : hx_g L h x 6)  : Met l yX6_init (Cond.code yX6_init cX6_init 1 none :: hx_all) ({ frames := 1, cells := 1, slots := 0, locals := 12 }) (va_Pc [.ref x] (hx_B P_tb (P_ty dA) (dC, dI) vwCl L h sz)) (va_Qv (fun (u : List Nat × hx_h) => hx_S P_tb [(6, 0)] L h u.1 u.2) (hx_E P_tb (P_ty dA) (dC, dI) vwCl (hx_A L sz)) (hx_A L sz)) 1 0 (hx_A L sz) := by
  refine hx_met (lv := [(0, .ref x)]) (by decide +kernel) rfl (Nat.le_of_ble_eq_true rfl) rfl ?_
  intro p e s m below meth c hx hb hml hr hlk hts0 hown hin hsz hW ls hl
  have hts : ∀ w ∈ hx_all, w.before _ s = true := fun w hw => hts0 w (List.mem_cons_of_mem _ hw)
  have hown : s.vm.findClass "SmallCourt$Reader" = some m.cls := hown
  have hin : meth.name = "<init>" := hin
  have hM : hx_S P_tb [(6, 0)] L h L h := hx_S.rf
  refine lv_aload_n hx hb dX6_init_0 rfl (lv_at hl 0 rfl) ?_
  refine W.objInit hx hb hown (hts _ kw_124) (hts _ kw_117) (hts _ kw_118) rfl (by rw [hml]; exact hl.1) rfl dX6_init_1 (Nat.le_of_ble_eq_true rfl) (Nat.le_of_ble_eq_true rfl) ?_
  refine W.eq (g2 := F0 m 4 ls []) rfl ?_
  refine lv_aload_n hx hb dX6_init_4 rfl (lv_at hl 0 rfl) ?_
  refine lv_iconst (v := 0) hx hb dX6_init_5 (by decide) ?_
  refine hk_newa hx hb hts hW 34 td_34 (atype := .byte) rfl kw_147 (tys := P_ty dA) (t0 := 1) rfl (fun _ => Iff.rfl) rfl (i := (0 : Int32)) (by decide) (Nat.le_of_ble_eq_true rfl) (Nat.le_of_ble_eq_true rfl) (Nat.le_of_ble_eq_true rfl) dX6_init_6 (fun q_2 H h_1 eh_1 hqq_2 hW hs gq_2 => ?_)
  have hM := hM.tr (hs.mono (by decide))
  have gx := gx.S hs
  have f_3 : (∀ j, h_1.2.1 q_2 j = 0) ∧ ∀ j, h_1.2.2 q_2 j = none := by rw [eh_1]; exact ⟨fun _ => hx_nw_i, fun _ => hx_nw_r⟩
  refine hk_putr hx hb hts hC_6 hown hW gx td_6 0 (by decide) rfl kw_125 ⟨rfl, rfl, rfl⟩ rfl (x := (some q_2)) rfl rfl rfl dX6_init_8 (fun H locs h_4 eh_4 hW hs => ?_)
  have f_3 : _ ∧ _ := ⟨fun j => (hs.a gq_2 rfl j).1.trans (f_3.1 j), fun j => (hs.a gq_2 rfl j).2.trans (f_3.2 j)⟩
  have hM := hM.tr (hs.mono (by decide))
  have gx := gx.S hs
  have gq_2 := gq_2.S hs
  have f_5 : h_4.2.2 x 0 = (some q_2) := by rw [eh_4]; exact hx_pr_at _ _ _ _
  refine W.widen (k := 1) (n := 0) (Nat.le_of_ble_eq_true rfl) (Nat.le_of_ble_eq_true rfl) ?_
  exact hx_retv hx hb hr hlk hW hM dX6_init_11


theorem dX1_init_0 : decode cX1_init 0 = .ok (.aload_n 0, 1) := by decide +kernel
theorem dX1_init_1 : decode cX1_init 1 = .ok (.invokespecial 3, 3) := by decide +kernel
theorem dX1_init_4 : decode cX1_init 4 = .ok (.aload_n 0, 1) := by decide +kernel
theorem dX1_init_5 : decode cX1_init 5 = .ok (.sipush 400, 3) := by decide +kernel
theorem dX1_init_8 : decode cX1_init 8 = .ok (.newarray .int, 2) := by decide +kernel
theorem dX1_init_10 : decode cX1_init 10 = .ok (.putfield 9, 3) := by decide +kernel
theorem dX1_init_13 : decode cX1_init 13 = .ok (.aload_n 0, 1) := by decide +kernel
theorem dX1_init_14 : decode cX1_init 14 = .ok (.sipush 400, 3) := by decide +kernel
theorem dX1_init_17 : decode cX1_init 17 = .ok (.newarray .int, 2) := by decide +kernel
theorem dX1_init_19 : decode cX1_init 19 = .ok (.putfield 15, 3) := by decide +kernel
theorem dX1_init_22 : decode cX1_init 22 = .ok (.aload_n 0, 1) := by decide +kernel
theorem dX1_init_23 : decode cX1_init 23 = .ok (.sipush 400, 3) := by decide +kernel
theorem dX1_init_26 : decode cX1_init 26 = .ok (.newarray .int, 2) := by decide +kernel
theorem dX1_init_28 : decode cX1_init 28 = .ok (.putfield 18, 3) := by decide +kernel
theorem dX1_init_31 : decode cX1_init 31 = .ok (.aload_n 0, 1) := by decide +kernel
theorem dX1_init_32 : decode cX1_init 32 = .ok (.sipush 400, 3) := by decide +kernel
theorem dX1_init_35 : decode cX1_init 35 = .ok (.newarray .int, 2) := by decide +kernel
theorem dX1_init_37 : decode cX1_init 37 = .ok (.putfield 21, 3) := by decide +kernel
theorem dX1_init_40 : decode cX1_init 40 = .ok (.aload_n 0, 1) := by decide +kernel
theorem dX1_init_41 : decode cX1_init 41 = .ok (.sipush 400, 3) := by decide +kernel
theorem dX1_init_44 : decode cX1_init 44 = .ok (.newarray .int, 2) := by decide +kernel
theorem dX1_init_46 : decode cX1_init 46 = .ok (.putfield 24, 3) := by decide +kernel
theorem dX1_init_49 : decode cX1_init 49 = .ok (.aload_n 0, 1) := by decide +kernel
theorem dX1_init_50 : decode cX1_init 50 = .ok (.sipush 400, 3) := by decide +kernel
theorem dX1_init_53 : decode cX1_init 53 = .ok (.newarray .int, 2) := by decide +kernel
theorem dX1_init_55 : decode cX1_init 55 = .ok (.putfield 27, 3) := by decide +kernel
theorem dX1_init_58 : decode cX1_init 58 = .ok (.aload_n 0, 1) := by decide +kernel
theorem dX1_init_59 : decode cX1_init 59 = .ok (.sipush 400, 3) := by decide +kernel
theorem dX1_init_62 : decode cX1_init 62 = .ok (.newarray .boolean, 2) := by decide +kernel
theorem dX1_init_64 : decode cX1_init 64 = .ok (.putfield 30, 3) := by decide +kernel
theorem dX1_init_67 : decode cX1_init 67 = .ok (.return_, 1) := by decide +kernel
set_option maxHeartbeats 4000000 in
set_option maxRecDepth 100000 in
theorem c_X1_init (l : Launch) (dC : Nat → ClassId) (dI : Nat → Nat → Nat) (dA : Nat → ClassId) (L : List Nat) (h : hx_h) (sz : Nat) (x : Nat) (gx : hx_g L h x 1)  : Met l yX1_init (Cond.code yX1_init cX1_init 1 none :: hx_all) ({ frames := 1, cells := 7, slots := 2800, locals := 12 }) (va_Pc [.ref x] (hx_B P_tb (P_ty dA) (dC, dI) vwCl L h sz)) (va_Qv (fun (u : List Nat × hx_h) => hx_S P_tb [(1, 1), (1, 2), (1, 3), (1, 4), (1, 5), (1, 6), (1, 7)] L h u.1 u.2) (hx_E P_tb (P_ty dA) (dC, dI) vwCl (hx_A L sz)) (hx_A L sz)) 7 2800 (hx_A L sz) := by
  refine hx_met (lv := [(0, .ref x)]) (by decide +kernel) rfl (Nat.le_of_ble_eq_true rfl) rfl ?_
  intro p e s m below meth c hx hb hml hr hlk hts0 hown hin hsz hW ls hl
  have hts : ∀ w ∈ hx_all, w.before _ s = true := fun w hw => hts0 w (List.mem_cons_of_mem _ hw)
  have hown : s.vm.findClass "SmallCourt$Books" = some m.cls := hown
  have hin : meth.name = "<init>" := hin
  have hM : hx_S P_tb [(1, 1), (1, 2), (1, 3), (1, 4), (1, 5), (1, 6), (1, 7)] L h L h := hx_S.rf
  refine lv_aload_n hx hb dX1_init_0 rfl (lv_at hl 0 rfl) ?_
  refine W.objInit hx hb hown (hts _ kw_195) (hts _ kw_117) (hts _ kw_118) rfl (by rw [hml]; exact hl.1) rfl dX1_init_1 (Nat.le_of_ble_eq_true rfl) (Nat.le_of_ble_eq_true rfl) ?_
  refine W.eq (g2 := F0 m 4 ls []) rfl ?_
  refine lv_aload_n hx hb dX1_init_4 rfl (lv_at hl 0 rfl) ?_
  refine lv_sipush (v := 400) hx hb dX1_init_5 (by decide) ?_
  refine hk_newa hx hb hts hW 13 td_13 (atype := .int) rfl kw_186 (tys := P_ty dA) (t0 := 0) rfl (fun _ => Iff.rfl) rfl (i := (400 : Int32)) (by decide) (Nat.le_of_ble_eq_true rfl) (Nat.le_of_ble_eq_true rfl) (Nat.le_of_ble_eq_true rfl) dX1_init_8 (fun q_2 H h_1 eh_1 hqq_2 hW hs gq_2 => ?_)
  have hM := hM.tr (hs.mono (by decide))
  have gx := gx.S hs
  have f_3 : (∀ j, h_1.2.1 q_2 j = 0) ∧ ∀ j, h_1.2.2 q_2 j = none := by rw [eh_1]; exact ⟨fun _ => hx_nw_i, fun _ => hx_nw_r⟩
  refine hk_putrF hx hb hts hC_1 hown hW gx td_1 1 (by decide) rfl kw_198 ⟨rfl, rfl, rfl⟩ rfl hin rfl (x := (some q_2)) rfl rfl rfl dX1_init_10 (fun H locs h_4 eh_4 hW hs => ?_)
  have f_3 : _ ∧ _ := ⟨fun j => (hs.a gq_2 rfl j).1.trans (f_3.1 j), fun j => (hs.a gq_2 rfl j).2.trans (f_3.2 j)⟩
  have hM := hM.tr (hs.mono (by decide))
  have gx := gx.S hs
  have gq_2 := gq_2.S hs
  have f_5 : h_4.2.2 x 1 = (some q_2) := by rw [eh_4]; exact hx_pr_at _ _ _ _
  refine lv_aload_n hx hb dX1_init_13 rfl (lv_at hl 0 rfl) ?_
  refine lv_sipush (v := 400) hx hb dX1_init_14 (by decide) ?_
  refine hk_newa hx hb hts hW 14 td_14 (atype := .int) rfl kw_186 (tys := P_ty dA) (t0 := 0) rfl (fun _ => Iff.rfl) rfl (i := (400 : Int32)) (by decide) (Nat.le_of_ble_eq_true rfl) (Nat.le_of_ble_eq_true rfl) (Nat.le_of_ble_eq_true rfl) dX1_init_17 (fun q_7 H h_6 eh_6 hqq_7 hW hs gq_7 => ?_)
  have hM := hM.tr (hs.mono (by decide))
  have gx := gx.S hs
  have f_8 : (∀ j, h_6.2.1 q_7 j = 0) ∧ ∀ j, h_6.2.2 q_7 j = none := by rw [eh_6]; exact ⟨fun _ => hx_nw_i, fun _ => hx_nw_r⟩
  refine hk_putrF hx hb hts hC_1 hown hW gx td_1 2 (by decide) rfl kw_199 ⟨rfl, rfl, rfl⟩ rfl hin rfl (x := (some q_7)) rfl rfl rfl dX1_init_19 (fun H locs h_9 eh_9 hW hs => ?_)
  have f_8 : _ ∧ _ := ⟨fun j => (hs.a gq_7 rfl j).1.trans (f_8.1 j), fun j => (hs.a gq_7 rfl j).2.trans (f_8.2 j)⟩
  have hM := hM.tr (hs.mono (by decide))
  have gx := gx.S hs
  have gq_7 := gq_7.S hs
  have f_10 : h_9.2.2 x 2 = (some q_7) := by rw [eh_9]; exact hx_pr_at _ _ _ _
  refine lv_aload_n hx hb dX1_init_22 rfl (lv_at hl 0 rfl) ?_
  refine lv_sipush (v := 400) hx hb dX1_init_23 (by decide) ?_
  refine hk_newa hx hb hts hW 15 td_15 (atype := .int) rfl kw_186 (tys := P_ty dA) (t0 := 0) rfl (fun _ => Iff.rfl) rfl (i := (400 : Int32)) (by decide) (Nat.le_of_ble_eq_true rfl) (Nat.le_of_ble_eq_true rfl) (Nat.le_of_ble_eq_true rfl) dX1_init_26 (fun q_12 H h_11 eh_11 hqq_12 hW hs gq_12 => ?_)
  have hM := hM.tr (hs.mono (by decide))
  have gx := gx.S hs
  have f_13 : (∀ j, h_11.2.1 q_12 j = 0) ∧ ∀ j, h_11.2.2 q_12 j = none := by rw [eh_11]; exact ⟨fun _ => hx_nw_i, fun _ => hx_nw_r⟩
  refine hk_putrF hx hb hts hC_1 hown hW gx td_1 3 (by decide) rfl kw_200 ⟨rfl, rfl, rfl⟩ rfl hin rfl (x := (some q_12)) rfl rfl rfl dX1_init_28 (fun H locs h_14 eh_14 hW hs => ?_)
  have f_13 : _ ∧ _ := ⟨fun j => (hs.a gq_12 rfl j).1.trans (f_13.1 j), fun j => (hs.a gq_12 rfl j).2.trans (f_13.2 j)⟩
  have hM := hM.tr (hs.mono (by decide))
  have gx := gx.S hs
  have gq_12 := gq_12.S hs
  have f_15 : h_14.2.2 x 3 = (some q_12) := by rw [eh_14]; exact hx_pr_at _ _ _ _
  refine lv_aload_n hx hb dX1_init_31 rfl (lv_at hl 0 rfl) ?_
  refine lv_sipush (v := 400) hx hb dX1_init_32 (by decide) ?_
  refine hk_newa hx hb hts hW 16 td_16 (atype := .int) rfl kw_186 (tys := P_ty dA) (t0 := 0) rfl (fun _ => Iff.rfl) rfl (i := (400 : Int32)) (by decide) (Nat.le_of_ble_eq_true rfl) (Nat.le_of_ble_eq_true rfl) (Nat.le_of_ble_eq_true rfl) dX1_init_35 (fun q_17 H h_16 eh_16 hqq_17 hW hs gq_17 => ?_)
  have hM := hM.tr (hs.mono (by decide))
  have gx := gx.S hs
  have f_18 : (∀ j, h_16.2.1 q_17 j = 0) ∧ ∀ j, h_16.2.2 q_17 j = none := by rw [eh_16]; exact ⟨fun _ => hx_nw_i, fun _ => hx_nw_r⟩
  refine hk_putrF hx hb hts hC_1 hown hW gx td_1 4 (by decide) rfl kw_201 ⟨rfl, rfl, rfl⟩ rfl hin rfl (x := (some q_17)) rfl rfl rfl dX1_init_37 (fun H locs h_19 eh_19 hW hs => ?_)
  have f_18 : _ ∧ _ := ⟨fun j => (hs.a gq_17 rfl j).1.trans (f_18.1 j), fun j => (hs.a gq_17 rfl j).2.trans (f_18.2 j)⟩
  have hM := hM.tr (hs.mono (by decide))
  have gx := gx.S hs
  have gq_17 := gq_17.S hs
  have f_20 : h_19.2.2 x 4 = (some q_17) := by rw [eh_19]; exact hx_pr_at _ _ _ _
  refine lv_aload_n hx hb dX1_init_40 rfl (lv_at hl 0 rfl) ?_
  refine lv_sipush (v := 400) hx hb dX1_init_41 (by decide) ?_
  refine hk_newa hx hb hts hW 17 td_17 (atype := .int) rfl kw_186 (tys := P_ty dA) (t0 := 0) rfl (fun _ => Iff.rfl) rfl (i := (400 : Int32)) (by decide) (Nat.le_of_ble_eq_true rfl) (Nat.le_of_ble_eq_true rfl) (Nat.le_of_ble_eq_true rfl) dX1_init_44 (fun q_22 H h_21 eh_21 hqq_22 hW hs gq_22 => ?_)
  have hM := hM.tr (hs.mono (by decide))
  have gx := gx.S hs
  have f_23 : (∀ j, h_21.2.1 q_22 j = 0) ∧ ∀ j, h_21.2.2 q_22 j = none := by rw [eh_21]; exact ⟨fun _ => hx_nw_i, fun _ => hx_nw_r⟩
  refine hk_putrF hx hb hts hC_1 hown hW gx td_1 5 (by decide) rfl kw_202 ⟨rfl, rfl, rfl⟩ rfl hin rfl (x := (some q_22)) rfl rfl rfl dX1_init_46 (fun H locs h_24 eh_24 hW hs => ?_)
  have f_23 : _ ∧ _ := ⟨fun j => (hs.a gq_22 rfl j).1.trans (f_23.1 j), fun j => (hs.a gq_22 rfl j).2.trans (f_23.2 j)⟩
  have hM := hM.tr (hs.mono (by decide))
  have gx := gx.S hs
  have gq_22 := gq_22.S hs
  have f_25 : h_24.2.2 x 5 = (some q_22) := by rw [eh_24]; exact hx_pr_at _ _ _ _
  refine lv_aload_n hx hb dX1_init_49 rfl (lv_at hl 0 rfl) ?_
  refine lv_sipush (v := 400) hx hb dX1_init_50 (by decide) ?_
  refine hk_newa hx hb hts hW 18 td_18 (atype := .int) rfl kw_186 (tys := P_ty dA) (t0 := 0) rfl (fun _ => Iff.rfl) rfl (i := (400 : Int32)) (by decide) (Nat.le_of_ble_eq_true rfl) (Nat.le_of_ble_eq_true rfl) (Nat.le_of_ble_eq_true rfl) dX1_init_53 (fun q_27 H h_26 eh_26 hqq_27 hW hs gq_27 => ?_)
  have hM := hM.tr (hs.mono (by decide))
  have gx := gx.S hs
  have f_28 : (∀ j, h_26.2.1 q_27 j = 0) ∧ ∀ j, h_26.2.2 q_27 j = none := by rw [eh_26]; exact ⟨fun _ => hx_nw_i, fun _ => hx_nw_r⟩
  refine hk_putrF hx hb hts hC_1 hown hW gx td_1 6 (by decide) rfl kw_203 ⟨rfl, rfl, rfl⟩ rfl hin rfl (x := (some q_27)) rfl rfl rfl dX1_init_55 (fun H locs h_29 eh_29 hW hs => ?_)
  have f_28 : _ ∧ _ := ⟨fun j => (hs.a gq_27 rfl j).1.trans (f_28.1 j), fun j => (hs.a gq_27 rfl j).2.trans (f_28.2 j)⟩
  have hM := hM.tr (hs.mono (by decide))
  have gx := gx.S hs
  have gq_27 := gq_27.S hs
  have f_30 : h_29.2.2 x 6 = (some q_27) := by rw [eh_29]; exact hx_pr_at _ _ _ _
  refine lv_aload_n hx hb dX1_init_58 rfl (lv_at hl 0 rfl) ?_
  refine lv_sipush (v := 400) hx hb dX1_init_59 (by decide) ?_
  refine hk_newa hx hb hts hW 19 td_19 (atype := .boolean) rfl kw_222 (tys := P_ty dA) (t0 := 2) rfl (fun _ => Iff.rfl) rfl (i := (400 : Int32)) (by decide) (Nat.le_of_ble_eq_true rfl) (Nat.le_of_ble_eq_true rfl) (Nat.le_of_ble_eq_true rfl) dX1_init_62 (fun q_32 H h_31 eh_31 hqq_32 hW hs gq_32 => ?_)
  have hM := hM.tr (hs.mono (by decide))
  have gx := gx.S hs
  have f_33 : (∀ j, h_31.2.1 q_32 j = 0) ∧ ∀ j, h_31.2.2 q_32 j = none := by rw [eh_31]; exact ⟨fun _ => hx_nw_i, fun _ => hx_nw_r⟩
  refine hk_putrF hx hb hts hC_1 hown hW gx td_1 7 (by decide) rfl kw_204 ⟨rfl, rfl, rfl⟩ rfl hin rfl (x := (some q_32)) rfl rfl rfl dX1_init_64 (fun H locs h_34 eh_34 hW hs => ?_)
  have f_33 : _ ∧ _ := ⟨fun j => (hs.a gq_32 rfl j).1.trans (f_33.1 j), fun j => (hs.a gq_32 rfl j).2.trans (f_33.2 j)⟩
  have hM := hM.tr (hs.mono (by decide))
  have gx := gx.S hs
  have gq_32 := gq_32.S hs
  have f_35 : h_34.2.2 x 7 = (some q_32) := by rw [eh_34]; exact hx_pr_at _ _ _ _
  refine W.widen (k := 7) (n := 2800) (Nat.le_of_ble_eq_true rfl) (Nat.le_of_ble_eq_true rfl) ?_
  exact hx_retv hx hb hr hlk hW hM dX1_init_67


theorem dX3_init_0 : decode cX3_init 0 = .ok (.aload_n 0, 1) := by decide +kernel
theorem dX3_init_1 : decode cX3_init 1 = .ok (.invokespecial 3, 3) := by decide +kernel
theorem dX3_init_4 : decode cX3_init 4 = .ok (.aload_n 0, 1) := by decide +kernel
theorem dX3_init_5 : decode cX3_init 5 = .ok (.sipush 600, 3) := by decide +kernel
theorem dX3_init_8 : decode cX3_init 8 = .ok (.newarray .int, 2) := by decide +kernel
theorem dX3_init_10 : decode cX3_init 10 = .ok (.putfield 9, 3) := by decide +kernel
theorem dX3_init_13 : decode cX3_init 13 = .ok (.aload_n 0, 1) := by decide +kernel
theorem dX3_init_14 : decode cX3_init 14 = .ok (.sipush 600, 3) := by decide +kernel
theorem dX3_init_17 : decode cX3_init 17 = .ok (.newarray .int, 2) := by decide +kernel
theorem dX3_init_19 : decode cX3_init 19 = .ok (.putfield 15, 3) := by decide +kernel
theorem dX3_init_22 : decode cX3_init 22 = .ok (.aload_n 0, 1) := by decide +kernel
theorem dX3_init_23 : decode cX3_init 23 = .ok (.sipush 600, 3) := by decide +kernel
theorem dX3_init_26 : decode cX3_init 26 = .ok (.newarray .int, 2) := by decide +kernel
theorem dX3_init_28 : decode cX3_init 28 = .ok (.putfield 18, 3) := by decide +kernel
theorem dX3_init_31 : decode cX3_init 31 = .ok (.aload_n 0, 1) := by decide +kernel
theorem dX3_init_32 : decode cX3_init 32 = .ok (.sipush 600, 3) := by decide +kernel
theorem dX3_init_35 : decode cX3_init 35 = .ok (.newarray .int, 2) := by decide +kernel
theorem dX3_init_37 : decode cX3_init 37 = .ok (.putfield 21, 3) := by decide +kernel
theorem dX3_init_40 : decode cX3_init 40 = .ok (.aload_n 0, 1) := by decide +kernel
theorem dX3_init_41 : decode cX3_init 41 = .ok (.sipush 600, 3) := by decide +kernel
theorem dX3_init_44 : decode cX3_init 44 = .ok (.newarray .int, 2) := by decide +kernel
theorem dX3_init_46 : decode cX3_init 46 = .ok (.putfield 24, 3) := by decide +kernel
theorem dX3_init_49 : decode cX3_init 49 = .ok (.return_, 1) := by decide +kernel
set_option maxHeartbeats 4000000 in
set_option maxRecDepth 100000 in
theorem c_X3_init (l : Launch) (dC : Nat → ClassId) (dI : Nat → Nat → Nat) (dA : Nat → ClassId) (L : List Nat) (h : hx_h) (sz : Nat) (x : Nat) (gx : hx_g L h x 3)  : Met l yX3_init (Cond.code yX3_init cX3_init 1 none :: hx_all) ({ frames := 1, cells := 5, slots := 3000, locals := 12 }) (va_Pc [.ref x] (hx_B P_tb (P_ty dA) (dC, dI) vwCl L h sz)) (va_Qv (fun (u : List Nat × hx_h) => hx_S P_tb [(3, 1), (3, 2), (3, 3), (3, 4), (3, 5)] L h u.1 u.2) (hx_E P_tb (P_ty dA) (dC, dI) vwCl (hx_A L sz)) (hx_A L sz)) 5 3000 (hx_A L sz) := by
  refine hx_met (lv := [(0, .ref x)]) (by decide +kernel) rfl (Nat.le_of_ble_eq_true rfl) rfl ?_
  intro p e s m below meth c hx hb hml hr hlk hts0 hown hin hsz hW ls hl
  have hts : ∀ w ∈ hx_all, w.before _ s = true := fun w hw => hts0 w (List.mem_cons_of_mem _ hw)
  have hown : s.vm.findClass "SmallCourt$Payments" = some m.cls := hown
  have hin : meth.name = "<init>" := hin
  have hM : hx_S P_tb [(3, 1), (3, 2), (3, 3), (3, 4), (3, 5)] L h L h := hx_S.rf
  refine lv_aload_n hx hb dX3_init_0 rfl (lv_at hl 0 rfl) ?_
  refine W.objInit hx hb hown (hts _ kw_230) (hts _ kw_117) (hts _ kw_118) rfl (by rw [hml]; exact hl.1) rfl dX3_init_1 (Nat.le_of_ble_eq_true rfl) (Nat.le_of_ble_eq_true rfl) ?_
  refine W.eq (g2 := F0 m 4 ls []) rfl ?_
  refine lv_aload_n hx hb dX3_init_4 rfl (lv_at hl 0 rfl) ?_
  refine lv_sipush (v := 600) hx hb dX3_init_5 (by decide) ?_
  refine hk_newa hx hb hts hW 22 td_22 (atype := .int) rfl kw_186 (tys := P_ty dA) (t0 := 0) rfl (fun _ => Iff.rfl) rfl (i := (600 : Int32)) (by decide) (Nat.le_of_ble_eq_true rfl) (Nat.le_of_ble_eq_true rfl) (Nat.le_of_ble_eq_true rfl) dX3_init_8 (fun q_2 H h_1 eh_1 hqq_2 hW hs gq_2 => ?_)
  have hM := hM.tr (hs.mono (by decide))
  have gx := gx.S hs
  have f_3 : (∀ j, h_1.2.1 q_2 j = 0) ∧ ∀ j, h_1.2.2 q_2 j = none := by rw [eh_1]; exact ⟨fun _ => hx_nw_i, fun _ => hx_nw_r⟩
  refine hk_putrF hx hb hts hC_3 hown hW gx td_3 1 (by decide) rfl kw_233 ⟨rfl, rfl, rfl⟩ rfl hin rfl (x := (some q_2)) rfl rfl rfl dX3_init_10 (fun H locs h_4 eh_4 hW hs => ?_)
  have f_3 : _ ∧ _ := ⟨fun j => (hs.a gq_2 rfl j).1.trans (f_3.1 j), fun j => (hs.a gq_2 rfl j).2.trans (f_3.2 j)⟩
  have hM := hM.tr (hs.mono (by decide))
  have gx := gx.S hs
  have gq_2 := gq_2.S hs
  have f_5 : h_4.2.2 x 1 = (some q_2) := by rw [eh_4]; exact hx_pr_at _ _ _ _
  refine lv_aload_n hx hb dX3_init_13 rfl (lv_at hl 0 rfl) ?_
  refine lv_sipush (v := 600) hx hb dX3_init_14 (by decide) ?_
  refine hk_newa hx hb hts hW 23 td_23 (atype := .int) rfl kw_186 (tys := P_ty dA) (t0 := 0) rfl (fun _ => Iff.rfl) rfl (i := (600 : Int32)) (by decide) (Nat.le_of_ble_eq_true rfl) (Nat.le_of_ble_eq_true rfl) (Nat.le_of_ble_eq_true rfl) dX3_init_17 (fun q_7 H h_6 eh_6 hqq_7 hW hs gq_7 => ?_)
  have hM := hM.tr (hs.mono (by decide))
  have gx := gx.S hs
  have f_8 : (∀ j, h_6.2.1 q_7 j = 0) ∧ ∀ j, h_6.2.2 q_7 j = none := by rw [eh_6]; exact ⟨fun _ => hx_nw_i, fun _ => hx_nw_r⟩
  refine hk_putrF hx hb hts hC_3 hown hW gx td_3 2 (by decide) rfl kw_235 ⟨rfl, rfl, rfl⟩ rfl hin rfl (x := (some q_7)) rfl rfl rfl dX3_init_19 (fun H locs h_9 eh_9 hW hs => ?_)
  have f_8 : _ ∧ _ := ⟨fun j => (hs.a gq_7 rfl j).1.trans (f_8.1 j), fun j => (hs.a gq_7 rfl j).2.trans (f_8.2 j)⟩
  have hM := hM.tr (hs.mono (by decide))
  have gx := gx.S hs
  have gq_7 := gq_7.S hs
  have f_10 : h_9.2.2 x 2 = (some q_7) := by rw [eh_9]; exact hx_pr_at _ _ _ _
  refine lv_aload_n hx hb dX3_init_22 rfl (lv_at hl 0 rfl) ?_
  refine lv_sipush (v := 600) hx hb dX3_init_23 (by decide) ?_
  refine hk_newa hx hb hts hW 24 td_24 (atype := .int) rfl kw_186 (tys := P_ty dA) (t0 := 0) rfl (fun _ => Iff.rfl) rfl (i := (600 : Int32)) (by decide) (Nat.le_of_ble_eq_true rfl) (Nat.le_of_ble_eq_true rfl) (Nat.le_of_ble_eq_true rfl) dX3_init_26 (fun q_12 H h_11 eh_11 hqq_12 hW hs gq_12 => ?_)
  have hM := hM.tr (hs.mono (by decide))
  have gx := gx.S hs
  have f_13 : (∀ j, h_11.2.1 q_12 j = 0) ∧ ∀ j, h_11.2.2 q_12 j = none := by rw [eh_11]; exact ⟨fun _ => hx_nw_i, fun _ => hx_nw_r⟩
  refine hk_putrF hx hb hts hC_3 hown hW gx td_3 3 (by decide) rfl kw_236 ⟨rfl, rfl, rfl⟩ rfl hin rfl (x := (some q_12)) rfl rfl rfl dX3_init_28 (fun H locs h_14 eh_14 hW hs => ?_)
  have f_13 : _ ∧ _ := ⟨fun j => (hs.a gq_12 rfl j).1.trans (f_13.1 j), fun j => (hs.a gq_12 rfl j).2.trans (f_13.2 j)⟩
  have hM := hM.tr (hs.mono (by decide))
  have gx := gx.S hs
  have gq_12 := gq_12.S hs
  have f_15 : h_14.2.2 x 3 = (some q_12) := by rw [eh_14]; exact hx_pr_at _ _ _ _
  refine lv_aload_n hx hb dX3_init_31 rfl (lv_at hl 0 rfl) ?_
  refine lv_sipush (v := 600) hx hb dX3_init_32 (by decide) ?_
  refine hk_newa hx hb hts hW 25 td_25 (atype := .int) rfl kw_186 (tys := P_ty dA) (t0 := 0) rfl (fun _ => Iff.rfl) rfl (i := (600 : Int32)) (by decide) (Nat.le_of_ble_eq_true rfl) (Nat.le_of_ble_eq_true rfl) (Nat.le_of_ble_eq_true rfl) dX3_init_35 (fun q_17 H h_16 eh_16 hqq_17 hW hs gq_17 => ?_)
  have hM := hM.tr (hs.mono (by decide))
  have gx := gx.S hs
  have f_18 : (∀ j, h_16.2.1 q_17 j = 0) ∧ ∀ j, h_16.2.2 q_17 j = none := by rw [eh_16]; exact ⟨fun _ => hx_nw_i, fun _ => hx_nw_r⟩
  refine hk_putrF hx hb hts hC_3 hown hW gx td_3 4 (by decide) rfl kw_237 ⟨rfl, rfl, rfl⟩ rfl hin rfl (x := (some q_17)) rfl rfl rfl dX3_init_37 (fun H locs h_19 eh_19 hW hs => ?_)
  have f_18 : _ ∧ _ := ⟨fun j => (hs.a gq_17 rfl j).1.trans (f_18.1 j), fun j => (hs.a gq_17 rfl j).2.trans (f_18.2 j)⟩
  have hM := hM.tr (hs.mono (by decide))
  have gx := gx.S hs
  have gq_17 := gq_17.S hs
  have f_20 : h_19.2.2 x 4 = (some q_17) := by rw [eh_19]; exact hx_pr_at _ _ _ _
  refine lv_aload_n hx hb dX3_init_40 rfl (lv_at hl 0 rfl) ?_
  refine lv_sipush (v := 600) hx hb dX3_init_41 (by decide) ?_
  refine hk_newa hx hb hts hW 26 td_26 (atype := .int) rfl kw_186 (tys := P_ty dA) (t0 := 0) rfl (fun _ => Iff.rfl) rfl (i := (600 : Int32)) (by decide) (Nat.le_of_ble_eq_true rfl) (Nat.le_of_ble_eq_true rfl) (Nat.le_of_ble_eq_true rfl) dX3_init_44 (fun q_22 H h_21 eh_21 hqq_22 hW hs gq_22 => ?_)
  have hM := hM.tr (hs.mono (by decide))
  have gx := gx.S hs
  have f_23 : (∀ j, h_21.2.1 q_22 j = 0) ∧ ∀ j, h_21.2.2 q_22 j = none := by rw [eh_21]; exact ⟨fun _ => hx_nw_i, fun _ => hx_nw_r⟩
  refine hk_putrF hx hb hts hC_3 hown hW gx td_3 5 (by decide) rfl kw_238 ⟨rfl, rfl, rfl⟩ rfl hin rfl (x := (some q_22)) rfl rfl rfl dX3_init_46 (fun H locs h_24 eh_24 hW hs => ?_)
  have f_23 : _ ∧ _ := ⟨fun j => (hs.a gq_22 rfl j).1.trans (f_23.1 j), fun j => (hs.a gq_22 rfl j).2.trans (f_23.2 j)⟩
  have hM := hM.tr (hs.mono (by decide))
  have gx := gx.S hs
  have gq_22 := gq_22.S hs
  have f_25 : h_24.2.2 x 5 = (some q_22) := by rw [eh_24]; exact hx_pr_at _ _ _ _
  refine W.widen (k := 5) (n := 3000) (Nat.le_of_ble_eq_true rfl) (Nat.le_of_ble_eq_true rfl) ?_
  exact hx_retv hx hb hr hlk hW hM dX3_init_49


theorem dX5_init_0 : decode cX5_init 0 = .ok (.aload_n 0, 1) := by decide +kernel
theorem dX5_init_1 : decode cX5_init 1 = .ok (.invokespecial 3, 3) := by decide +kernel
theorem dX5_init_4 : decode cX5_init 4 = .ok (.aload_n 0, 1) := by decide +kernel
theorem dX5_init_5 : decode cX5_init 5 = .ok (.iconst 4, 1) := by decide +kernel
theorem dX5_init_6 : decode cX5_init 6 = .ok (.newarray .int, 2) := by decide +kernel
theorem dX5_init_8 : decode cX5_init 8 = .ok (.putfield 9, 3) := by decide +kernel
theorem dX5_init_11 : decode cX5_init 11 = .ok (.aload_n 0, 1) := by decide +kernel
theorem dX5_init_12 : decode cX5_init 12 = .ok (.iconst 4, 1) := by decide +kernel
theorem dX5_init_13 : decode cX5_init 13 = .ok (.newarray .int, 2) := by decide +kernel
theorem dX5_init_15 : decode cX5_init 15 = .ok (.putfield 15, 3) := by decide +kernel
theorem dX5_init_18 : decode cX5_init 18 = .ok (.aload_n 0, 1) := by decide +kernel
theorem dX5_init_19 : decode cX5_init 19 = .ok (.iconst 4, 1) := by decide +kernel
theorem dX5_init_20 : decode cX5_init 20 = .ok (.newarray .int, 2) := by decide +kernel
theorem dX5_init_22 : decode cX5_init 22 = .ok (.putfield 18, 3) := by decide +kernel
theorem dX5_init_25 : decode cX5_init 25 = .ok (.aload_n 0, 1) := by decide +kernel
theorem dX5_init_26 : decode cX5_init 26 = .ok (.iconst 4, 1) := by decide +kernel
theorem dX5_init_27 : decode cX5_init 27 = .ok (.newarray .int, 2) := by decide +kernel
theorem dX5_init_29 : decode cX5_init 29 = .ok (.putfield 21, 3) := by decide +kernel
theorem dX5_init_32 : decode cX5_init 32 = .ok (.aload_n 0, 1) := by decide +kernel
theorem dX5_init_33 : decode cX5_init 33 = .ok (.iconst 4, 1) := by decide +kernel
theorem dX5_init_34 : decode cX5_init 34 = .ok (.newarray .int, 2) := by decide +kernel
theorem dX5_init_36 : decode cX5_init 36 = .ok (.putfield 24, 3) := by decide +kernel
theorem dX5_init_39 : decode cX5_init 39 = .ok (.aload_n 0, 1) := by decide +kernel
theorem dX5_init_40 : decode cX5_init 40 = .ok (.iconst 4, 1) := by decide +kernel
theorem dX5_init_41 : decode cX5_init 41 = .ok (.newarray .int, 2) := by decide +kernel
theorem dX5_init_43 : decode cX5_init 43 = .ok (.putfield 27, 3) := by decide +kernel
theorem dX5_init_46 : decode cX5_init 46 = .ok (.aload_n 0, 1) := by decide +kernel
theorem dX5_init_47 : decode cX5_init 47 = .ok (.iconst 4, 1) := by decide +kernel
theorem dX5_init_48 : decode cX5_init 48 = .ok (.newarray .int, 2) := by decide +kernel
theorem dX5_init_50 : decode cX5_init 50 = .ok (.putfield 30, 3) := by decide +kernel
theorem dX5_init_53 : decode cX5_init 53 = .ok (.return_, 1) := by decide +kernel
set_option maxHeartbeats 4000000 in
set_option maxRecDepth 100000 in
theorem c_X5_init (l : Launch) (dC : Nat → ClassId) (dI : Nat → Nat → Nat) (dA : Nat → ClassId) (L : List Nat) (h : hx_h) (sz : Nat) (x : Nat) (gx : hx_g L h x 5)  : Met l yX5_init (Cond.code yX5_init cX5_init 1 none :: hx_all) ({ frames := 1, cells := 7, slots := 28, locals := 12 }) (va_Pc [.ref x] (hx_B P_tb (P_ty dA) (dC, dI) vwCl L h sz)) (va_Qv (fun (u : List Nat × hx_h) => hx_S P_tb [(5, 2), (5, 3), (5, 4), (5, 5), (5, 6), (5, 7), (5, 8)] L h u.1 u.2) (hx_E P_tb (P_ty dA) (dC, dI) vwCl (hx_A L sz)) (hx_A L sz)) 7 28 (hx_A L sz) := by
  refine hx_met (lv := [(0, .ref x)]) (by decide +kernel) rfl (Nat.le_of_ble_eq_true rfl) rfl ?_
  intro p e s m below meth c hx hb hml hr hlk hts0 hown hin hsz hW ls hl
  have hts : ∀ w ∈ hx_all, w.before _ s = true := fun w hw => hts0 w (List.mem_cons_of_mem _ hw)
  have hown : s.vm.findClass "SmallCourt$Plan" = some m.cls := hown
  have hin : meth.name = "<init>" := hin
  have hM : hx_S P_tb [(5, 2), (5, 3), (5, 4), (5, 5), (5, 6), (5, 7), (5, 8)] L h L h := hx_S.rf
  refine lv_aload_n hx hb dX5_init_0 rfl (lv_at hl 0 rfl) ?_
  refine W.objInit hx hb hown (hts _ kw_257) (hts _ kw_117) (hts _ kw_118) rfl (by rw [hml]; exact hl.1) rfl dX5_init_1 (Nat.le_of_ble_eq_true rfl) (Nat.le_of_ble_eq_true rfl) ?_
  refine W.eq (g2 := F0 m 4 ls []) rfl ?_
  refine lv_aload_n hx hb dX5_init_4 rfl (lv_at hl 0 rfl) ?_
  refine lv_iconst (v := 4) hx hb dX5_init_5 (by decide) ?_
  refine hk_newa hx hb hts hW 27 td_27 (atype := .int) rfl kw_186 (tys := P_ty dA) (t0 := 0) rfl (fun _ => Iff.rfl) rfl (i := (4 : Int32)) (by decide) (Nat.le_of_ble_eq_true rfl) (Nat.le_of_ble_eq_true rfl) (Nat.le_of_ble_eq_true rfl) dX5_init_6 (fun q_2 H h_1 eh_1 hqq_2 hW hs gq_2 => ?_)
  have hM := hM.tr (hs.mono (by decide))
  have gx := gx.S hs
  have f_3 : (∀ j, h_1.2.1 q_2 j = 0) ∧ ∀ j, h_1.2.2 q_2 j = none := by rw [eh_1]; exact ⟨fun _ => hx_nw_i, fun _ => hx_nw_r⟩
  refine hk_putrF hx hb hts hC_5 hown hW gx td_5 2 (by decide) rfl kw_262 ⟨rfl, rfl, rfl⟩ rfl hin rfl (x := (some q_2)) rfl rfl rfl dX5_init_8 (fun H locs h_4 eh_4 hW hs => ?_)
  have f_3 : _ ∧ _ := ⟨fun j => (hs.a gq_2 rfl j).1.trans (f_3.1 j), fun j => (hs.a gq_2 rfl j).2.trans (f_3.2 j)⟩
  have hM := hM.tr (hs.mono (by decide))
  have gx := gx.S hs
  have gq_2 := gq_2.S hs
  have f_5 : h_4.2.2 x 2 = (some q_2) := by rw [eh_4]; exact hx_pr_at _ _ _ _
  refine lv_aload_n hx hb dX5_init_11 rfl (lv_at hl 0 rfl) ?_
  refine lv_iconst (v := 4) hx hb dX5_init_12 (by decide) ?_
  refine hk_newa hx hb hts hW 28 td_28 (atype := .int) rfl kw_186 (tys := P_ty dA) (t0 := 0) rfl (fun _ => Iff.rfl) rfl (i := (4 : Int32)) (by decide) (Nat.le_of_ble_eq_true rfl) (Nat.le_of_ble_eq_true rfl) (Nat.le_of_ble_eq_true rfl) dX5_init_13 (fun q_7 H h_6 eh_6 hqq_7 hW hs gq_7 => ?_)
  have hM := hM.tr (hs.mono (by decide))
  have gx := gx.S hs
  have f_8 : (∀ j, h_6.2.1 q_7 j = 0) ∧ ∀ j, h_6.2.2 q_7 j = none := by rw [eh_6]; exact ⟨fun _ => hx_nw_i, fun _ => hx_nw_r⟩
  refine hk_putrF hx hb hts hC_5 hown hW gx td_5 3 (by decide) rfl kw_264 ⟨rfl, rfl, rfl⟩ rfl hin rfl (x := (some q_7)) rfl rfl rfl dX5_init_15 (fun H locs h_9 eh_9 hW hs => ?_)
  have f_8 : _ ∧ _ := ⟨fun j => (hs.a gq_7 rfl j).1.trans (f_8.1 j), fun j => (hs.a gq_7 rfl j).2.trans (f_8.2 j)⟩
  have hM := hM.tr (hs.mono (by decide))
  have gx := gx.S hs
  have gq_7 := gq_7.S hs
  have f_10 : h_9.2.2 x 3 = (some q_7) := by rw [eh_9]; exact hx_pr_at _ _ _ _
  refine lv_aload_n hx hb dX5_init_18 rfl (lv_at hl 0 rfl) ?_
  refine lv_iconst (v := 4) hx hb dX5_init_19 (by decide) ?_
  refine hk_newa hx hb hts hW 29 td_29 (atype := .int) rfl kw_186 (tys := P_ty dA) (t0 := 0) rfl (fun _ => Iff.rfl) rfl (i := (4 : Int32)) (by decide) (Nat.le_of_ble_eq_true rfl) (Nat.le_of_ble_eq_true rfl) (Nat.le_of_ble_eq_true rfl) dX5_init_20 (fun q_12 H h_11 eh_11 hqq_12 hW hs gq_12 => ?_)
  have hM := hM.tr (hs.mono (by decide))
  have gx := gx.S hs
  have f_13 : (∀ j, h_11.2.1 q_12 j = 0) ∧ ∀ j, h_11.2.2 q_12 j = none := by rw [eh_11]; exact ⟨fun _ => hx_nw_i, fun _ => hx_nw_r⟩
  refine hk_putrF hx hb hts hC_5 hown hW gx td_5 4 (by decide) rfl kw_266 ⟨rfl, rfl, rfl⟩ rfl hin rfl (x := (some q_12)) rfl rfl rfl dX5_init_22 (fun H locs h_14 eh_14 hW hs => ?_)
  have f_13 : _ ∧ _ := ⟨fun j => (hs.a gq_12 rfl j).1.trans (f_13.1 j), fun j => (hs.a gq_12 rfl j).2.trans (f_13.2 j)⟩
  have hM := hM.tr (hs.mono (by decide))
  have gx := gx.S hs
  have gq_12 := gq_12.S hs
  have f_15 : h_14.2.2 x 4 = (some q_12) := by rw [eh_14]; exact hx_pr_at _ _ _ _
  refine lv_aload_n hx hb dX5_init_25 rfl (lv_at hl 0 rfl) ?_
  refine lv_iconst (v := 4) hx hb dX5_init_26 (by decide) ?_
  refine hk_newa hx hb hts hW 30 td_30 (atype := .int) rfl kw_186 (tys := P_ty dA) (t0 := 0) rfl (fun _ => Iff.rfl) rfl (i := (4 : Int32)) (by decide) (Nat.le_of_ble_eq_true rfl) (Nat.le_of_ble_eq_true rfl) (Nat.le_of_ble_eq_true rfl) dX5_init_27 (fun q_17 H h_16 eh_16 hqq_17 hW hs gq_17 => ?_)
  have hM := hM.tr (hs.mono (by decide))
  have gx := gx.S hs
  have f_18 : (∀ j, h_16.2.1 q_17 j = 0) ∧ ∀ j, h_16.2.2 q_17 j = none := by rw [eh_16]; exact ⟨fun _ => hx_nw_i, fun _ => hx_nw_r⟩
  refine hk_putrF hx hb hts hC_5 hown hW gx td_5 5 (by decide) rfl kw_268 ⟨rfl, rfl, rfl⟩ rfl hin rfl (x := (some q_17)) rfl rfl rfl dX5_init_29 (fun H locs h_19 eh_19 hW hs => ?_)
  have f_18 : _ ∧ _ := ⟨fun j => (hs.a gq_17 rfl j).1.trans (f_18.1 j), fun j => (hs.a gq_17 rfl j).2.trans (f_18.2 j)⟩
  have hM := hM.tr (hs.mono (by decide))
  have gx := gx.S hs
  have gq_17 := gq_17.S hs
  have f_20 : h_19.2.2 x 5 = (some q_17) := by rw [eh_19]; exact hx_pr_at _ _ _ _
  refine lv_aload_n hx hb dX5_init_32 rfl (lv_at hl 0 rfl) ?_
  refine lv_iconst (v := 4) hx hb dX5_init_33 (by decide) ?_
  refine hk_newa hx hb hts hW 31 td_31 (atype := .int) rfl kw_186 (tys := P_ty dA) (t0 := 0) rfl (fun _ => Iff.rfl) rfl (i := (4 : Int32)) (by decide) (Nat.le_of_ble_eq_true rfl) (Nat.le_of_ble_eq_true rfl) (Nat.le_of_ble_eq_true rfl) dX5_init_34 (fun q_22 H h_21 eh_21 hqq_22 hW hs gq_22 => ?_)
  have hM := hM.tr (hs.mono (by decide))
  have gx := gx.S hs
  have f_23 : (∀ j, h_21.2.1 q_22 j = 0) ∧ ∀ j, h_21.2.2 q_22 j = none := by rw [eh_21]; exact ⟨fun _ => hx_nw_i, fun _ => hx_nw_r⟩
  refine hk_putrF hx hb hts hC_5 hown hW gx td_5 6 (by decide) rfl kw_269 ⟨rfl, rfl, rfl⟩ rfl hin rfl (x := (some q_22)) rfl rfl rfl dX5_init_36 (fun H locs h_24 eh_24 hW hs => ?_)
  have f_23 : _ ∧ _ := ⟨fun j => (hs.a gq_22 rfl j).1.trans (f_23.1 j), fun j => (hs.a gq_22 rfl j).2.trans (f_23.2 j)⟩
  have hM := hM.tr (hs.mono (by decide))
  have gx := gx.S hs
  have gq_22 := gq_22.S hs
  have f_25 : h_24.2.2 x 6 = (some q_22) := by rw [eh_24]; exact hx_pr_at _ _ _ _
  refine lv_aload_n hx hb dX5_init_39 rfl (lv_at hl 0 rfl) ?_
  refine lv_iconst (v := 4) hx hb dX5_init_40 (by decide) ?_
  refine hk_newa hx hb hts hW 32 td_32 (atype := .int) rfl kw_186 (tys := P_ty dA) (t0 := 0) rfl (fun _ => Iff.rfl) rfl (i := (4 : Int32)) (by decide) (Nat.le_of_ble_eq_true rfl) (Nat.le_of_ble_eq_true rfl) (Nat.le_of_ble_eq_true rfl) dX5_init_41 (fun q_27 H h_26 eh_26 hqq_27 hW hs gq_27 => ?_)
  have hM := hM.tr (hs.mono (by decide))
  have gx := gx.S hs
  have f_28 : (∀ j, h_26.2.1 q_27 j = 0) ∧ ∀ j, h_26.2.2 q_27 j = none := by rw [eh_26]; exact ⟨fun _ => hx_nw_i, fun _ => hx_nw_r⟩
  refine hk_putrF hx hb hts hC_5 hown hW gx td_5 7 (by decide) rfl kw_270 ⟨rfl, rfl, rfl⟩ rfl hin rfl (x := (some q_27)) rfl rfl rfl dX5_init_43 (fun H locs h_29 eh_29 hW hs => ?_)
  have f_28 : _ ∧ _ := ⟨fun j => (hs.a gq_27 rfl j).1.trans (f_28.1 j), fun j => (hs.a gq_27 rfl j).2.trans (f_28.2 j)⟩
  have hM := hM.tr (hs.mono (by decide))
  have gx := gx.S hs
  have gq_27 := gq_27.S hs
  have f_30 : h_29.2.2 x 7 = (some q_27) := by rw [eh_29]; exact hx_pr_at _ _ _ _
  refine lv_aload_n hx hb dX5_init_46 rfl (lv_at hl 0 rfl) ?_
  refine lv_iconst (v := 4) hx hb dX5_init_47 (by decide) ?_
  refine hk_newa hx hb hts hW 33 td_33 (atype := .int) rfl kw_186 (tys := P_ty dA) (t0 := 0) rfl (fun _ => Iff.rfl) rfl (i := (4 : Int32)) (by decide) (Nat.le_of_ble_eq_true rfl) (Nat.le_of_ble_eq_true rfl) (Nat.le_of_ble_eq_true rfl) dX5_init_48 (fun q_32 H h_31 eh_31 hqq_32 hW hs gq_32 => ?_)
  have hM := hM.tr (hs.mono (by decide))
  have gx := gx.S hs
  have f_33 : (∀ j, h_31.2.1 q_32 j = 0) ∧ ∀ j, h_31.2.2 q_32 j = none := by rw [eh_31]; exact ⟨fun _ => hx_nw_i, fun _ => hx_nw_r⟩
  refine hk_putrF hx hb hts hC_5 hown hW gx td_5 8 (by decide) rfl kw_271 ⟨rfl, rfl, rfl⟩ rfl hin rfl (x := (some q_32)) rfl rfl rfl dX5_init_50 (fun H locs h_34 eh_34 hW hs => ?_)
  have f_33 : _ ∧ _ := ⟨fun j => (hs.a gq_32 rfl j).1.trans (f_33.1 j), fun j => (hs.a gq_32 rfl j).2.trans (f_33.2 j)⟩
  have hM := hM.tr (hs.mono (by decide))
  have gx := gx.S hs
  have gq_32 := gq_32.S hs
  have f_35 : h_34.2.2 x 8 = (some q_32) := by rw [eh_34]; exact hx_pr_at _ _ _ _
  refine W.widen (k := 7) (n := 28) (Nat.le_of_ble_eq_true rfl) (Nat.le_of_ble_eq_true rfl) ?_
  exact hx_retv hx hb hr hlk hW hM dX5_init_53


theorem dX7_init_0 : decode cX7_init 0 = .ok (.aload_n 0, 1) := by decide +kernel
theorem dX7_init_1 : decode cX7_init 1 = .ok (.invokespecial 3, 3) := by decide +kernel
theorem dX7_init_4 : decode cX7_init 4 = .ok (.aload_n 0, 1) := by decide +kernel
theorem dX7_init_5 : decode cX7_init 5 = .ok (.iconst (-1), 1) := by decide +kernel
theorem dX7_init_6 : decode cX7_init 6 = .ok (.putfield 9, 3) := by decide +kernel
theorem dX7_init_9 : decode cX7_init 9 = .ok (.aload_n 0, 1) := by decide +kernel
theorem dX7_init_10 : decode cX7_init 10 = .ok (.bipush 100, 2) := by decide +kernel
theorem dX7_init_12 : decode cX7_init 12 = .ok (.newarray .int, 2) := by decide +kernel
theorem dX7_init_14 : decode cX7_init 14 = .ok (.putfield 15, 3) := by decide +kernel
theorem dX7_init_17 : decode cX7_init 17 = .ok (.aload_n 0, 1) := by decide +kernel
theorem dX7_init_18 : decode cX7_init 18 = .ok (.sipush 1600, 3) := by decide +kernel
theorem dX7_init_21 : decode cX7_init 21 = .ok (.newarray .int, 2) := by decide +kernel
theorem dX7_init_23 : decode cX7_init 23 = .ok (.putfield 19, 3) := by decide +kernel
theorem dX7_init_26 : decode cX7_init 26 = .ok (.aload_n 0, 1) := by decide +kernel
theorem dX7_init_27 : decode cX7_init 27 = .ok (.iconst 4, 1) := by decide +kernel
theorem dX7_init_28 : decode cX7_init 28 = .ok (.newarray .int, 2) := by decide +kernel
theorem dX7_init_30 : decode cX7_init 30 = .ok (.putfield 22, 3) := by decide +kernel
theorem dX7_init_33 : decode cX7_init 33 = .ok (.aload_n 0, 1) := by decide +kernel
theorem dX7_init_34 : decode cX7_init 34 = .ok (.iconst 4, 1) := by decide +kernel
theorem dX7_init_35 : decode cX7_init 35 = .ok (.newarray .int, 2) := by decide +kernel
theorem dX7_init_37 : decode cX7_init 37 = .ok (.putfield 25, 3) := by decide +kernel
theorem dX7_init_40 : decode cX7_init 40 = .ok (.return_, 1) := by decide +kernel
set_option maxHeartbeats 4000000 in
set_option maxRecDepth 100000 in
theorem c_X7_init (l : Launch) (dC : Nat → ClassId) (dI : Nat → Nat → Nat) (dA : Nat → ClassId) (L : List Nat) (h : hx_h) (sz : Nat) (x : Nat) (gx : hx_g L h x 7)  : Met l yX7_init (Cond.code yX7_init cX7_init 1 none :: hx_all) ({ frames := 1, cells := 4, slots := 1708, locals := 12 }) (va_Pc [.ref x] (hx_B P_tb (P_ty dA) (dC, dI) vwCl L h sz)) (va_Qv (fun (u : List Nat × hx_h) => hx_S P_tb [(7, 0), (7, 3), (7, 5), (7, 6), (7, 7)] L h u.1 u.2 ∧ u.2.2.1 x 0 = (-1 : Int32) ∧ (∃ q, u.2.2.2 x 5 = some q ∧ hx_g u.1 u.2 q 36)) (hx_E P_tb (P_ty dA) (dC, dI) vwCl (hx_A L sz)) (hx_A L sz)) 4 1708 (hx_A L sz) := by
  refine hx_met (lv := [(0, .ref x)]) (by decide +kernel) rfl (Nat.le_of_ble_eq_true rfl) rfl ?_
  intro p e s m below meth c hx hb hml hr hlk hts0 hown hin hsz hW ls hl
  have hts : ∀ w ∈ hx_all, w.before _ s = true := fun w hw => hts0 w (List.mem_cons_of_mem _ hw)
  have hown : s.vm.findClass "SmallCourt$Rings" = some m.cls := hown
  have hin : meth.name = "<init>" := hin
  have hM : hx_S P_tb [(7, 0), (7, 3), (7, 5), (7, 6), (7, 7)] L h L h := hx_S.rf
  refine lv_aload_n hx hb dX7_init_0 rfl (lv_at hl 0 rfl) ?_
  refine W.objInit hx hb hown (hts _ kw_308) (hts _ kw_117) (hts _ kw_118) rfl (by rw [hml]; exact hl.1) rfl dX7_init_1 (Nat.le_of_ble_eq_true rfl) (Nat.le_of_ble_eq_true rfl) ?_
  refine W.eq (g2 := F0 m 4 ls []) rfl ?_
  refine lv_aload_n hx hb dX7_init_4 rfl (lv_at hl 0 rfl) ?_
  refine lv_iconst (v := -1) hx hb dX7_init_5 (by decide) ?_
  refine hk_puti hx hb hts hC_7 hown hW gx td_7 0 (by decide) rfl kw_309 ⟨rfl, rfl, rfl⟩ rfl (x := (-1 : Int32)) rfl rfl rfl dX7_init_6 (fun H locs h_1 eh_1 hW hs => ?_)
  have hM := hM.tr (hs.mono (by decide))
  have gx := gx.S hs
  have f_2 : h_1.2.1 x 0 = (-1 : Int32) := by rw [eh_1]; exact hx_pi_at _ _ _ _
  refine lv_aload_n hx hb dX7_init_9 rfl (lv_at hl 0 rfl) ?_
  refine lv_bipush (v := 100) hx hb dX7_init_10 (by decide) ?_
  refine hk_newa hx hb hts hW 35 td_35 (atype := .int) rfl kw_186 (tys := P_ty dA) (t0 := 0) rfl (fun _ => Iff.rfl) rfl (i := (100 : Int32)) (by decide) (Nat.le_of_ble_eq_true rfl) (Nat.le_of_ble_eq_true rfl) (Nat.le_of_ble_eq_true rfl) dX7_init_12 (fun q_4 H h_3 eh_3 hqq_4 hW hs gq_4 => ?_)
  have f_2 := (hs.o gx trivial rfl).1.trans f_2
  have hM := hM.tr (hs.mono (by decide))
  have gx := gx.S hs
  have f_5 : (∀ j, h_3.2.1 q_4 j = 0) ∧ ∀ j, h_3.2.2 q_4 j = none := by rw [eh_3]; exact ⟨fun _ => hx_nw_i, fun _ => hx_nw_r⟩
  refine hk_putrF hx hb hts hC_7 hown hW gx td_7 3 (by decide) rfl kw_315 ⟨rfl, rfl, rfl⟩ rfl hin rfl (x := (some q_4)) rfl rfl rfl dX7_init_14 (fun H locs h_6 eh_6 hW hs => ?_)
  have f_2 := (hs.o gx trivial rfl).1.trans f_2
  have f_5 : _ ∧ _ := ⟨fun j => (hs.a gq_4 rfl j).1.trans (f_5.1 j), fun j => (hs.a gq_4 rfl j).2.trans (f_5.2 j)⟩
  have hM := hM.tr (hs.mono (by decide))
  have gx := gx.S hs
  have gq_4 := gq_4.S hs
  have f_7 : h_6.2.2 x 3 = (some q_4) := by rw [eh_6]; exact hx_pr_at _ _ _ _
  refine lv_aload_n hx hb dX7_init_17 rfl (lv_at hl 0 rfl) ?_
  refine lv_sipush (v := 1600) hx hb dX7_init_18 (by decide) ?_
  refine hk_newa hx hb hts hW 36 td_36 (atype := .int) rfl kw_186 (tys := P_ty dA) (t0 := 0) rfl (fun _ => Iff.rfl) rfl (i := (1600 : Int32)) (by decide) (Nat.le_of_ble_eq_true rfl) (Nat.le_of_ble_eq_true rfl) (Nat.le_of_ble_eq_true rfl) dX7_init_21 (fun q_9 H h_8 eh_8 hqq_9 hW hs gq_9 => ?_)
  have f_2 := (hs.o gx trivial rfl).1.trans f_2
  have hM := hM.tr (hs.mono (by decide))
  have gx := gx.S hs
  have f_10 : (∀ j, h_8.2.1 q_9 j = 0) ∧ ∀ j, h_8.2.2 q_9 j = none := by rw [eh_8]; exact ⟨fun _ => hx_nw_i, fun _ => hx_nw_r⟩
  refine hk_putrF hx hb hts hC_7 hown hW gx td_7 5 (by decide) rfl kw_318 ⟨rfl, rfl, rfl⟩ rfl hin rfl (x := (some q_9)) rfl rfl rfl dX7_init_23 (fun H locs h_11 eh_11 hW hs => ?_)
  have f_2 := (hs.o gx trivial rfl).1.trans f_2
  have f_10 : _ ∧ _ := ⟨fun j => (hs.a gq_9 rfl j).1.trans (f_10.1 j), fun j => (hs.a gq_9 rfl j).2.trans (f_10.2 j)⟩
  have hM := hM.tr (hs.mono (by decide))
  have gx := gx.S hs
  have gq_9 := gq_9.S hs
  have f_12 : h_11.2.2 x 5 = (some q_9) := by rw [eh_11]; exact hx_pr_at _ _ _ _
  refine lv_aload_n hx hb dX7_init_26 rfl (lv_at hl 0 rfl) ?_
  refine lv_iconst (v := 4) hx hb dX7_init_27 (by decide) ?_
  refine hk_newa hx hb hts hW 37 td_37 (atype := .int) rfl kw_186 (tys := P_ty dA) (t0 := 0) rfl (fun _ => Iff.rfl) rfl (i := (4 : Int32)) (by decide) (Nat.le_of_ble_eq_true rfl) (Nat.le_of_ble_eq_true rfl) (Nat.le_of_ble_eq_true rfl) dX7_init_28 (fun q_14 H h_13 eh_13 hqq_14 hW hs gq_14 => ?_)
  have f_2 := (hs.o gx trivial rfl).1.trans f_2
  have f_12 := (hs.o gx trivial rfl).2.trans f_12
  have hM := hM.tr (hs.mono (by decide))
  have gx := gx.S hs
  have gq_9 := gq_9.S hs
  have f_15 : (∀ j, h_13.2.1 q_14 j = 0) ∧ ∀ j, h_13.2.2 q_14 j = none := by rw [eh_13]; exact ⟨fun _ => hx_nw_i, fun _ => hx_nw_r⟩
  refine hk_putrF hx hb hts hC_7 hown hW gx td_7 6 (by decide) rfl kw_319 ⟨rfl, rfl, rfl⟩ rfl hin rfl (x := (some q_14)) rfl rfl rfl dX7_init_30 (fun H locs h_16 eh_16 hW hs => ?_)
  have f_2 := (hs.o gx trivial rfl).1.trans f_2
  have f_12 := (hs.o gx trivial rfl).2.trans f_12
  have f_15 : _ ∧ _ := ⟨fun j => (hs.a gq_14 rfl j).1.trans (f_15.1 j), fun j => (hs.a gq_14 rfl j).2.trans (f_15.2 j)⟩
  have hM := hM.tr (hs.mono (by decide))
  have gx := gx.S hs
  have gq_9 := gq_9.S hs
  have gq_14 := gq_14.S hs
  have f_17 : h_16.2.2 x 6 = (some q_14) := by rw [eh_16]; exact hx_pr_at _ _ _ _
  refine lv_aload_n hx hb dX7_init_33 rfl (lv_at hl 0 rfl) ?_
  refine lv_iconst (v := 4) hx hb dX7_init_34 (by decide) ?_
  refine hk_newa hx hb hts hW 38 td_38 (atype := .int) rfl kw_186 (tys := P_ty dA) (t0 := 0) rfl (fun _ => Iff.rfl) rfl (i := (4 : Int32)) (by decide) (Nat.le_of_ble_eq_true rfl) (Nat.le_of_ble_eq_true rfl) (Nat.le_of_ble_eq_true rfl) dX7_init_35 (fun q_19 H h_18 eh_18 hqq_19 hW hs gq_19 => ?_)
  have f_2 := (hs.o gx trivial rfl).1.trans f_2
  have f_12 := (hs.o gx trivial rfl).2.trans f_12
  have hM := hM.tr (hs.mono (by decide))
  have gx := gx.S hs
  have gq_9 := gq_9.S hs
  have f_20 : (∀ j, h_18.2.1 q_19 j = 0) ∧ ∀ j, h_18.2.2 q_19 j = none := by rw [eh_18]; exact ⟨fun _ => hx_nw_i, fun _ => hx_nw_r⟩
  refine hk_putrF hx hb hts hC_7 hown hW gx td_7 7 (by decide) rfl kw_320 ⟨rfl, rfl, rfl⟩ rfl hin rfl (x := (some q_19)) rfl rfl rfl dX7_init_37 (fun H locs h_21 eh_21 hW hs => ?_)
  have f_2 := (hs.o gx trivial rfl).1.trans f_2
  have f_12 := (hs.o gx trivial rfl).2.trans f_12
  have f_20 : _ ∧ _ := ⟨fun j => (hs.a gq_19 rfl j).1.trans (f_20.1 j), fun j => (hs.a gq_19 rfl j).2.trans (f_20.2 j)⟩
  have hM := hM.tr (hs.mono (by decide))
  have gx := gx.S hs
  have gq_9 := gq_9.S hs
  have gq_19 := gq_19.S hs
  have f_22 : h_21.2.2 x 7 = (some q_19) := by rw [eh_21]; exact hx_pr_at _ _ _ _
  refine W.widen (k := 4) (n := 1708) (Nat.le_of_ble_eq_true rfl) (Nat.le_of_ble_eq_true rfl) ?_
  exact hx_retv hx hb hr hlk hW ⟨hM, f_2, ⟨q_9, f_12, gq_9⟩⟩ dX7_init_40


theorem dX8_init_0 : decode cX8_init 0 = .ok (.aload_n 0, 1) := by decide +kernel
theorem dX8_init_1 : decode cX8_init 1 = .ok (.invokespecial 3, 3) := by decide +kernel
theorem dX8_init_4 : decode cX8_init 4 = .ok (.aload_n 0, 1) := by decide +kernel
theorem dX8_init_5 : decode cX8_init 5 = .ok (.bipush 8, 2) := by decide +kernel
theorem dX8_init_7 : decode cX8_init 7 = .ok (.newarray .int, 2) := by decide +kernel
theorem dX8_init_9 : decode cX8_init 9 = .ok (.putfield 9, 3) := by decide +kernel
theorem dX8_init_12 : decode cX8_init 12 = .ok (.aload_n 0, 1) := by decide +kernel
theorem dX8_init_13 : decode cX8_init 13 = .ok (.bipush 8, 2) := by decide +kernel
theorem dX8_init_15 : decode cX8_init 15 = .ok (.anewarray 15, 3) := by decide +kernel
theorem dX8_init_18 : decode cX8_init 18 = .ok (.putfield 17, 3) := by decide +kernel
theorem dX8_init_21 : decode cX8_init 21 = .ok (.aload_n 0, 1) := by decide +kernel
theorem dX8_init_22 : decode cX8_init 22 = .ok (.sipush 2048, 3) := by decide +kernel
theorem dX8_init_25 : decode cX8_init 25 = .ok (.newarray .int, 2) := by decide +kernel
theorem dX8_init_27 : decode cX8_init 27 = .ok (.putfield 21, 3) := by decide +kernel
theorem dX8_init_30 : decode cX8_init 30 = .ok (.return_, 1) := by decide +kernel
set_option maxHeartbeats 4000000 in
set_option maxRecDepth 100000 in
theorem c_X8_init (l : Launch) (dC : Nat → ClassId) (dI : Nat → Nat → Nat) (dA : Nat → ClassId) (L : List Nat) (h : hx_h) (sz : Nat) (b0 : Nat) (x : Nat) (gx : hx_g L h x 8)  : Met l yX8_init (Cond.code yX8_init cX8_init 1 none :: hx_all) ({ frames := 1, cells := 3, slots := 2064, locals := 12 }) (va_Pc [.ref x] (hx_BX P_tb (P_ty dA) (dC, dI) vwCl L h sz b0)) (va_Qv (fun (u : List Nat × hx_h) => hx_S P_tb [(8, 2), (8, 3), (8, 4)] L h u.1 u.2) (hx_E P_tb (P_ty dA) (dC, dI) vwCl (hx_A L sz)) (hx_A L sz)) 3 2064 (hx_A L sz) := by
  refine hx_metX (lv := [(0, .ref x)]) (by decide +kernel) rfl (Nat.le_of_ble_eq_true rfl) rfl ?_
  intro p e s m below meth c hx hb hml hr hlk hts0 hown hin hsz hW hZ ls hl
  have hts : ∀ w ∈ hx_all, w.before _ s = true := fun w hw => hts0 w (List.mem_cons_of_mem _ hw)
  have hown : s.vm.findClass "SmallCourt$Walk" = some m.cls := hown
  have hin : meth.name = "<init>" := hin
  have hM : hx_S P_tb [(8, 2), (8, 3), (8, 4)] L h L h := hx_S.rf
  refine lv_aload_n hx hb dX8_init_0 rfl (lv_at hl 0 rfl) ?_
  refine W.objInit hx hb hown (hts _ kw_343) (hts _ kw_117) (hts _ kw_118) rfl (by rw [hml]; exact hl.1) rfl dX8_init_1 (Nat.le_of_ble_eq_true rfl) (Nat.le_of_ble_eq_true rfl) ?_
  refine W.eq (g2 := F0 m 4 ls []) rfl ?_
  refine lv_aload_n hx hb dX8_init_4 rfl (lv_at hl 0 rfl) ?_
  refine lv_bipush (v := 8) hx hb dX8_init_5 (by decide) ?_
  refine hk_newa hx hb hts hW 39 td_39 (atype := .int) rfl kw_186 (tys := P_ty dA) (t0 := 0) rfl (fun _ => Iff.rfl) rfl (i := (8 : Int32)) (by decide) (Nat.le_of_ble_eq_true rfl) (Nat.le_of_ble_eq_true rfl) (Nat.le_of_ble_eq_true rfl) dX8_init_7 (fun q_2 H h_1 eh_1 hqq_2 hW hs gq_2 => ?_)
  have hM := hM.tr (hs.mono (by decide))
  have gx := gx.S hs
  have f_3 : (∀ j, h_1.2.1 q_2 j = 0) ∧ ∀ j, h_1.2.2 q_2 j = none := by rw [eh_1]; exact ⟨fun _ => hx_nw_i, fun _ => hx_nw_r⟩
  refine hk_putrF hx hb hts hC_8 hown hW gx td_8 2 (by decide) rfl kw_349 ⟨rfl, rfl, rfl⟩ rfl hin rfl (x := (some q_2)) rfl rfl rfl dX8_init_9 (fun H locs h_4 eh_4 hW hs => ?_)
  have f_3 : _ ∧ _ := ⟨fun j => (hs.a gq_2 rfl j).1.trans (f_3.1 j), fun j => (hs.a gq_2 rfl j).2.trans (f_3.2 j)⟩
  have hM := hM.tr (hs.mono (by decide))
  have gx := gx.S hs
  have gq_2 := gq_2.S hs
  have f_5 : h_4.2.2 x 2 = (some q_2) := by rw [eh_4]; exact hx_pr_at _ _ _ _
  refine lv_aload_n hx hb dX8_init_12 rfl (lv_at hl 0 rfl) ?_
  refine lv_bipush (v := 8) hx hb dX8_init_13 (by decide) ?_
  refine hk_newqX hx hb hts hown hW 40 td_40 kw_344 hZ.2.1.2.2 (tys := P_ty dA) (t0 := 6) rfl (i := (8 : Int32)) (by decide) (Nat.le_of_ble_eq_true rfl) (Nat.le_of_ble_eq_true rfl) (Nat.le_of_ble_eq_true rfl) dX8_init_15 (fun q_7 H h_6 eh_6 hqq_7 hW hs gq_7 => ?_)
  have hM := hM.tr (hs.mono (by decide))
  have gx := gx.S hs
  have f_8 : (∀ j, h_6.2.1 q_7 j = 0) ∧ ∀ j, h_6.2.2 q_7 j = none := by rw [eh_6]; exact ⟨fun _ => hx_nw_i, fun _ => hx_nw_r⟩
  refine hk_putrF hx hb hts hC_8 hown hW gx td_8 3 (by decide) rfl kw_351 ⟨rfl, rfl, rfl⟩ rfl hin rfl (x := (some q_7)) rfl rfl rfl dX8_init_18 (fun H locs h_9 eh_9 hW hs => ?_)
  have f_8 : _ ∧ _ := ⟨fun j => (hs.a gq_7 rfl j).1.trans (f_8.1 j), fun j => (hs.a gq_7 rfl j).2.trans (f_8.2 j)⟩
  have hM := hM.tr (hs.mono (by decide))
  have gx := gx.S hs
  have gq_7 := gq_7.S hs
  have f_10 : h_9.2.2 x 3 = (some q_7) := by rw [eh_9]; exact hx_pr_at _ _ _ _
  refine lv_aload_n hx hb dX8_init_21 rfl (lv_at hl 0 rfl) ?_
  refine lv_sipush (v := 2048) hx hb dX8_init_22 (by decide) ?_
  refine hk_newa hx hb hts hW 41 td_41 (atype := .int) rfl kw_186 (tys := P_ty dA) (t0 := 0) rfl (fun _ => Iff.rfl) rfl (i := (2048 : Int32)) (by decide) (Nat.le_of_ble_eq_true rfl) (Nat.le_of_ble_eq_true rfl) (Nat.le_of_ble_eq_true rfl) dX8_init_25 (fun q_12 H h_11 eh_11 hqq_12 hW hs gq_12 => ?_)
  have hM := hM.tr (hs.mono (by decide))
  have gx := gx.S hs
  have f_13 : (∀ j, h_11.2.1 q_12 j = 0) ∧ ∀ j, h_11.2.2 q_12 j = none := by rw [eh_11]; exact ⟨fun _ => hx_nw_i, fun _ => hx_nw_r⟩
  refine hk_putrF hx hb hts hC_8 hown hW gx td_8 4 (by decide) rfl kw_352 ⟨rfl, rfl, rfl⟩ rfl hin rfl (x := (some q_12)) rfl rfl rfl dX8_init_27 (fun H locs h_14 eh_14 hW hs => ?_)
  have f_13 : _ ∧ _ := ⟨fun j => (hs.a gq_12 rfl j).1.trans (f_13.1 j), fun j => (hs.a gq_12 rfl j).2.trans (f_13.2 j)⟩
  have hM := hM.tr (hs.mono (by decide))
  have gx := gx.S hs
  have gq_12 := gq_12.S hs
  have f_15 : h_14.2.2 x 4 = (some q_12) := by rw [eh_14]; exact hx_pr_at _ _ _ _
  refine W.widen (k := 3) (n := 2064) (Nat.le_of_ble_eq_true rfl) (Nat.le_of_ble_eq_true rfl) ?_
  exact hx_retv hx hb hr hlk hW hM dX8_init_30


theorem dX9_init_0 : decode cX9_init 0 = .ok (.aload_n 0, 1) := by decide +kernel
theorem dX9_init_1 : decode cX9_init 1 = .ok (.invokespecial 3, 3) := by decide +kernel
theorem dX9_init_4 : decode cX9_init 4 = .ok (.aload_n 0, 1) := by decide +kernel
theorem dX9_init_5 : decode cX9_init 5 = .ok (.sipush 400, 3) := by decide +kernel
theorem dX9_init_8 : decode cX9_init 8 = .ok (.newarray .byte, 2) := by decide +kernel
theorem dX9_init_10 : decode cX9_init 10 = .ok (.putfield 9, 3) := by decide +kernel
theorem dX9_init_13 : decode cX9_init 13 = .ok (.aload_n 0, 1) := by decide +kernel
theorem dX9_init_14 : decode cX9_init 14 = .ok (.new 13, 3) := by decide +kernel
theorem dX9_init_17 : decode cX9_init 17 = .ok (.dup, 1) := by decide +kernel
theorem dX9_init_18 : decode cX9_init 18 = .ok (.invokespecial 15, 3) := by decide +kernel
theorem dX9_init_21 : decode cX9_init 21 = .ok (.putfield 16, 3) := by decide +kernel
theorem dX9_init_24 : decode cX9_init 24 = .ok (.aload_n 0, 1) := by decide +kernel
theorem dX9_init_25 : decode cX9_init 25 = .ok (.new 20, 3) := by decide +kernel
theorem dX9_init_28 : decode cX9_init 28 = .ok (.dup, 1) := by decide +kernel
theorem dX9_init_29 : decode cX9_init 29 = .ok (.iconst (-1), 1) := by decide +kernel
theorem dX9_init_30 : decode cX9_init 30 = .ok (.iconst (-1), 1) := by decide +kernel
theorem dX9_init_31 : decode cX9_init 31 = .ok (.invokespecial 22, 3) := by decide +kernel
theorem dX9_init_34 : decode cX9_init 34 = .ok (.putfield 25, 3) := by decide +kernel
theorem dX9_init_37 : decode cX9_init 37 = .ok (.aload_n 0, 1) := by decide +kernel
theorem dX9_init_38 : decode cX9_init 38 = .ok (.bipush 8, 2) := by decide +kernel
theorem dX9_init_40 : decode cX9_init 40 = .ok (.anewarray 20, 3) := by decide +kernel
theorem dX9_init_43 : decode cX9_init 43 = .ok (.putfield 29, 3) := by decide +kernel
theorem dX9_init_46 : decode cX9_init 46 = .ok (.aload_n 0, 1) := by decide +kernel
theorem dX9_init_47 : decode cX9_init 47 = .ok (.bipush 40, 2) := by decide +kernel
theorem dX9_init_49 : decode cX9_init 49 = .ok (.anewarray 33, 3) := by decide +kernel
theorem dX9_init_52 : decode cX9_init 52 = .ok (.putfield 35, 3) := by decide +kernel
theorem dX9_init_55 : decode cX9_init 55 = .ok (.aload_n 0, 1) := by decide +kernel
theorem dX9_init_56 : decode cX9_init 56 = .ok (.new 39, 3) := by decide +kernel
theorem dX9_init_59 : decode cX9_init 59 = .ok (.dup, 1) := by decide +kernel
theorem dX9_init_60 : decode cX9_init 60 = .ok (.invokespecial 41, 3) := by decide +kernel
theorem dX9_init_63 : decode cX9_init 63 = .ok (.putfield 42, 3) := by decide +kernel
theorem dX9_init_66 : decode cX9_init 66 = .ok (.aload_n 0, 1) := by decide +kernel
theorem dX9_init_67 : decode cX9_init 67 = .ok (.bipush 100, 2) := by decide +kernel
theorem dX9_init_69 : decode cX9_init 69 = .ok (.anewarray 46, 3) := by decide +kernel
theorem dX9_init_72 : decode cX9_init 72 = .ok (.putfield 48, 3) := by decide +kernel
theorem dX9_init_75 : decode cX9_init 75 = .ok (.aload_n 0, 1) := by decide +kernel
theorem dX9_init_76 : decode cX9_init 76 = .ok (.bipush 100, 2) := by decide +kernel
theorem dX9_init_78 : decode cX9_init 78 = .ok (.anewarray 46, 3) := by decide +kernel
theorem dX9_init_81 : decode cX9_init 81 = .ok (.putfield 52, 3) := by decide +kernel
theorem dX9_init_84 : decode cX9_init 84 = .ok (.aload_n 0, 1) := by decide +kernel
theorem dX9_init_85 : decode cX9_init 85 = .ok (.new 55, 3) := by decide +kernel
theorem dX9_init_88 : decode cX9_init 88 = .ok (.dup, 1) := by decide +kernel
theorem dX9_init_89 : decode cX9_init 89 = .ok (.invokespecial 57, 3) := by decide +kernel
theorem dX9_init_92 : decode cX9_init 92 = .ok (.putfield 58, 3) := by decide +kernel
theorem dX9_init_95 : decode cX9_init 95 = .ok (.aload_n 0, 1) := by decide +kernel
theorem dX9_init_96 : decode cX9_init 96 = .ok (.bipush 40, 2) := by decide +kernel
theorem dX9_init_98 : decode cX9_init 98 = .ok (.newarray .int, 2) := by decide +kernel
theorem dX9_init_100 : decode cX9_init 100 = .ok (.putfield 62, 3) := by decide +kernel
theorem dX9_init_103 : decode cX9_init 103 = .ok (.aload_n 0, 1) := by decide +kernel
theorem dX9_init_104 : decode cX9_init 104 = .ok (.bipush 100, 2) := by decide +kernel
theorem dX9_init_106 : decode cX9_init 106 = .ok (.newarray .int, 2) := by decide +kernel
theorem dX9_init_108 : decode cX9_init 108 = .ok (.putfield 66, 3) := by decide +kernel
theorem dX9_init_111 : decode cX9_init 111 = .ok (.aload_n 0, 1) := by decide +kernel
theorem dX9_init_112 : decode cX9_init 112 = .ok (.new 69, 3) := by decide +kernel
theorem dX9_init_115 : decode cX9_init 115 = .ok (.dup, 1) := by decide +kernel
theorem dX9_init_116 : decode cX9_init 116 = .ok (.invokespecial 71, 3) := by decide +kernel
theorem dX9_init_119 : decode cX9_init 119 = .ok (.putfield 72, 3) := by decide +kernel
theorem dX9_init_122 : decode cX9_init 122 = .ok (.aload_n 0, 1) := by decide +kernel
theorem dX9_init_123 : decode cX9_init 123 = .ok (.new 76, 3) := by decide +kernel
theorem dX9_init_126 : decode cX9_init 126 = .ok (.dup, 1) := by decide +kernel
theorem dX9_init_127 : decode cX9_init 127 = .ok (.invokespecial 78, 3) := by decide +kernel
theorem dX9_init_130 : decode cX9_init 130 = .ok (.putfield 79, 3) := by decide +kernel
theorem dX9_init_133 : decode cX9_init 133 = .ok (.aload_n 0, 1) := by decide +kernel
theorem dX9_init_134 : decode cX9_init 134 = .ok (.new 83, 3) := by decide +kernel
theorem dX9_init_137 : decode cX9_init 137 = .ok (.dup, 1) := by decide +kernel
theorem dX9_init_138 : decode cX9_init 138 = .ok (.invokespecial 85, 3) := by decide +kernel
theorem dX9_init_141 : decode cX9_init 141 = .ok (.putfield 86, 3) := by decide +kernel
theorem dX9_init_144 : decode cX9_init 144 = .ok (.return_, 1) := by decide +kernel
set_option maxHeartbeats 4000000 in
set_option maxRecDepth 100000 in
theorem c_X9_init (l : Launch) (dC : Nat → ClassId) (dI : Nat → Nat → Nat) (dA : Nat → ClassId) (L : List Nat) (h : hx_h) (sz : Nat) (b0 : Nat) (x : Nat) (gx : hx_g L h x 9)  : Met l yX9_init (Cond.code yX9_init cX9_init 1 none :: hx_all) ({ frames := 2, cells := 43, slots := 10614, locals := 62 }) (va_Pc [.ref x] (hx_BX P_tb (P_ty dA) (dC, dI) vwCl L h sz b0)) (va_Qv (fun (u : List Nat × hx_h) => hx_S P_tb [(0, 0), (0, 1), (0, 2), (0, 3), (0, 4), (1, 1), (1, 2), (1, 3), (1, 4), (1, 5), (1, 6), (1, 7), (3, 1), (3, 2), (3, 3), (3, 4), (3, 5), (5, 2), (5, 3), (5, 4), (5, 5), (5, 6), (5, 7), (5, 8), (6, 0), (7, 0), (7, 3), (7, 5), (7, 6), (7, 7), (8, 2), (8, 3), (8, 4), (9, 0), (9, 3), (9, 4), (9, 5), (9, 7), (9, 9), (9, 10), (9, 12), (9, 14), (9, 15), (9, 16), (9, 17), (9, 18), (9, 19), (11, 0), (12, 0)] L h u.1 u.2 ∧ (∃ q, u.2.2.2 x 0 = some q ∧ hx_g u.1 u.2 q 42) ∧ (∃ q, u.2.2.2 x 3 = some q ∧ hx_g u.1 u.2 q 6) ∧ (∃ q, u.2.2.2 x 4 = some q ∧ hx_g u.1 u.2 q 0 ∧ u.2.2.1 q 0 = -1 ∧ (∃ q0, u.2.2.2 q 2 = some q0 ∧ hx_g u.1 u.2 q0 11 ∧ (∀ j, j < 14 → u.2.2.1 q0 j = P_wo j))) ∧ (∃ q, u.2.2.2 x 5 = some q ∧ hx_g u.1 u.2 q 43) ∧ (∃ q, u.2.2.2 x 7 = some q ∧ hx_g u.1 u.2 q 44) ∧ (∃ q, u.2.2.2 x 9 = some q ∧ hx_g u.1 u.2 q 1 ∧ u.2.2.1 q 0 = 0) ∧ (∃ q, u.2.2.2 x 14 = some q ∧ hx_g u.1 u.2 q 3 ∧ u.2.2.1 q 0 = 0) ∧ (∃ q, u.2.2.2 x 17 = some q ∧ hx_g u.1 u.2 q 5 ∧ u.2.2.1 q 1 = 0) ∧ (∃ q, u.2.2.2 x 18 = some q ∧ hx_g u.1 u.2 q 7 ∧ u.2.2.1 q 0 = -1 ∧ (∃ q0, u.2.2.2 q 5 = some q0 ∧ hx_g u.1 u.2 q0 36)) ∧ (∃ q, u.2.2.2 x 19 = some q ∧ hx_g u.1 u.2 q 8 ∧ u.2.2.1 q 0 = 0 ∧ u.2.2.1 q 1 = 0)) (hx_E P_tb (P_ty dA) (dC, dI) vwCl (hx_A L sz)) (hx_A L sz)) 43 10614 (hx_A L sz) := by
  refine hx_metX (lv := [(0, .ref x)]) (by decide +kernel) rfl (Nat.le_of_ble_eq_true rfl) rfl ?_
  intro p e s m below meth c hx hb hml hr hlk hts0 hown hin hsz hW hZ ls hl
  have hts : ∀ w ∈ hx_all, w.before _ s = true := fun w hw => hts0 w (List.mem_cons_of_mem _ hw)
  have hown : s.vm.findClass "SmallCourt" = some m.cls := hown
  have hin : meth.name = "<init>" := hin
  have hM : hx_S P_tb [(0, 0), (0, 1), (0, 2), (0, 3), (0, 4), (1, 1), (1, 2), (1, 3), (1, 4), (1, 5), (1, 6), (1, 7), (3, 1), (3, 2), (3, 3), (3, 4), (3, 5), (5, 2), (5, 3), (5, 4), (5, 5), (5, 6), (5, 7), (5, 8), (6, 0), (7, 0), (7, 3), (7, 5), (7, 6), (7, 7), (8, 2), (8, 3), (8, 4), (9, 0), (9, 3), (9, 4), (9, 5), (9, 7), (9, 9), (9, 10), (9, 12), (9, 14), (9, 15), (9, 16), (9, 17), (9, 18), (9, 19), (11, 0), (12, 0)] L h L h := hx_S.rf
  refine lv_aload_n hx hb dX9_init_0 rfl (lv_at hl 0 rfl) ?_
  refine W.objInit hx hb hown (hts _ kw_116) (hts _ kw_117) (hts _ kw_118) rfl (by rw [hml]; exact hl.1) rfl dX9_init_1 (Nat.le_of_ble_eq_true rfl) (Nat.le_of_ble_eq_true rfl) ?_
  refine W.eq (g2 := F0 m 4 ls []) rfl ?_
  refine lv_aload_n hx hb dX9_init_4 rfl (lv_at hl 0 rfl) ?_
  refine lv_sipush (v := 400) hx hb dX9_init_5 (by decide) ?_
  refine hk_newa hx hb hts hW 42 td_42 (atype := .byte) rfl kw_147 (tys := P_ty dA) (t0 := 1) rfl (fun _ => Iff.rfl) rfl (i := (400 : Int32)) (by decide) (Nat.le_of_ble_eq_true rfl) (Nat.le_of_ble_eq_true rfl) (Nat.le_of_ble_eq_true rfl) dX9_init_8 (fun q_2 H h_1 eh_1 hqq_2 hW hs gq_2 => ?_)
  have hM := hM.tr (hs.mono (by decide))
  have gx := gx.S hs
  have f_3 : (∀ j, h_1.2.1 q_2 j = 0) ∧ ∀ j, h_1.2.2 q_2 j = none := by rw [eh_1]; exact ⟨fun _ => hx_nw_i, fun _ => hx_nw_r⟩
  refine hk_putrF hx hb hts hC_9 hown hW gx td_9 0 (by decide) rfl kw_364 ⟨rfl, rfl, rfl⟩ rfl hin rfl (x := (some q_2)) rfl rfl rfl dX9_init_10 (fun H locs h_4 eh_4 hW hs => ?_)
  have f_3 : _ ∧ _ := ⟨fun j => (hs.a gq_2 rfl j).1.trans (f_3.1 j), fun j => (hs.a gq_2 rfl j).2.trans (f_3.2 j)⟩
  have hM := hM.tr (hs.mono (by decide))
  have gx := gx.S hs
  have gq_2 := gq_2.S hs
  have f_5 : h_4.2.2 x 0 = (some q_2) := by rw [eh_4]; exact hx_pr_at _ _ _ _
  refine lv_aload_n hx hb dX9_init_13 rfl (lv_at hl 0 rfl) ?_
  refine hk_new hx hb hts hC_6 hown hW 6 td_6 rfl (by decide) kw_119 kw_120 kw_95 (Nat.le_of_ble_eq_true rfl) (Nat.le_of_ble_eq_true rfl) dX9_init_14 (fun q_7 H h_6 eh_6 hqq_7 hW hs gq_7 => ?_)
  have f_5 := (hs.o gx trivial rfl).2.trans f_5
  have hM := hM.tr (hs.mono (by decide))
  have gx := gx.S hs
  have gq_2 := gq_2.S hs
  have f_9 : h_6.2.1 q_7 1 = 0 := by rw [eh_6]; exact hx_nw_i
  have f_10 : h_6.2.1 q_7 2 = 0 := by rw [eh_6]; exact hx_nw_i
  have f_11 : h_6.2.1 q_7 3 = 0 := by rw [eh_6]; exact hx_nw_i
  have f_12 : h_6.2.1 q_7 4 = 0 := by rw [eh_6]; exact hx_nw_i
  have f_13 : h_6.2.1 q_7 5 = 0 := by rw [eh_6]; exact hx_nw_i
  refine lv_dup hx hb dX9_init_17 rfl ?_
  refine hx_gov (hx_runIN (As := []) (rest := [.ref q_7, .ref x]) ⟨hx, hb, hml, hown, hts⟩ hW (c_X6_init l dC dI dA ((L ++ [q_2]) ++ [q_7]) h_6 H.size q_7 gq_7) ⟨va_cnB 0 hts (hx_gC kw_123) rfl rfl rfl (hZ.1 _ (List.mem_of_getElem? (i := 0) rfl)) (hts _ kw_95) (by decide +kernel) ⟨Nat.le_of_ble_eq_true rfl, Nat.le_of_ble_eq_true rfl⟩, rfl, hts _ kw_122⟩ rfl hl.1 rfl (Nat.le_of_ble_eq_true rfl) dX9_init_18 ⟨Nat.le_of_ble_eq_true rfl, Nat.le_of_ble_eq_true rfl⟩) hW (fun L_15 h_16 H locs p_18 hW => ?_)
  have hs : hx_S P_tb [(6, 0)] ((L ++ [q_2]) ++ [q_7]) h_6 L_15 h_16 := p_18
  have f_5 := (hs.o gx trivial rfl).2.trans f_5
  have f_9 := (hs.o gq_7 trivial rfl).1.trans f_9
  have f_10 := (hs.o gq_7 trivial rfl).1.trans f_10
  have f_11 := (hs.o gq_7 trivial rfl).1.trans f_11
  have f_12 := (hs.o gq_7 trivial rfl).1.trans f_12
  have f_13 := (hs.o gq_7 trivial rfl).1.trans f_13
  have hM := hM.tr (hs.mono (by decide))
  have gx := gx.S hs
  have gq_2 := gq_2.S hs
  have gq_7 := gq_7.S hs
  refine hk_putrF hx hb hts hC_9 hown hW gx td_9 3 (by decide) rfl kw_367 ⟨rfl, rfl, rfl⟩ rfl hin rfl (x := (some q_7)) rfl rfl rfl dX9_init_21 (fun H locs h_19 eh_19 hW hs => ?_)
  have f_5 := (hs.o gx trivial rfl).2.trans f_5
  have f_9 := (hs.o gq_7 trivial rfl).1.trans f_9
  have f_10 := (hs.o gq_7 trivial rfl).1.trans f_10
  have f_11 := (hs.o gq_7 trivial rfl).1.trans f_11
  have f_12 := (hs.o gq_7 trivial rfl).1.trans f_12
  have f_13 := (hs.o gq_7 trivial rfl).1.trans f_13
  have hM := hM.tr (hs.mono (by decide))
  have gx := gx.S hs
  have gq_2 := gq_2.S hs
  have gq_7 := gq_7.S hs
  have f_20 : h_19.2.2 x 3 = (some q_7) := by rw [eh_19]; exact hx_pr_at _ _ _ _
  refine lv_aload_n hx hb dX9_init_24 rfl (lv_at hl 0 rfl) ?_
  refine hk_new hx hb hts hC_0 hown hW 0 td_0 rfl (by decide) kw_148 kw_149 kw_96 (Nat.le_of_ble_eq_true rfl) (Nat.le_of_ble_eq_true rfl) dX9_init_25 (fun q_22 H h_21 eh_21 hqq_22 hW hs gq_22 => ?_)
  have f_5 := (hs.o gx trivial rfl).2.trans f_5
  have f_9 := (hs.o gq_7 trivial rfl).1.trans f_9
  have f_10 := (hs.o gq_7 trivial rfl).1.trans f_10
  have f_11 := (hs.o gq_7 trivial rfl).1.trans f_11
  have f_12 := (hs.o gq_7 trivial rfl).1.trans f_12
  have f_13 := (hs.o gq_7 trivial rfl).1.trans f_13
  have f_20 := (hs.o gx trivial rfl).2.trans f_20
  have hM := hM.tr (hs.mono (by decide))
  have gx := gx.S hs
  have gq_2 := gq_2.S hs
  have gq_7 := gq_7.S hs
  have f_23 : h_21.2.1 q_22 0 = 0 := by rw [eh_21]; exact hx_nw_i
  have f_24 : h_21.2.1 q_22 1 = 0 := by rw [eh_21]; exact hx_nw_i
  have f_27 : h_21.2.1 q_22 4 = 0 := by rw [eh_21]; exact hx_nw_i
  refine lv_dup hx hb dX9_init_28 rfl ?_
  refine lv_iconst (v := -1) hx hb dX9_init_29 (by decide) ?_
  refine lv_iconst (v := -1) hx hb dX9_init_30 (by decide) ?_
  refine hx_gov (hx_runIX (As := [.int (-1 : Int32), .int (-1 : Int32)]) (rest := [.ref q_22, .ref x]) ⟨hx, hb, hml, hown, hts⟩ hW (c_X0_init l dC dI dA (L_15 ++ [q_22]) h_21 H.size b0 q_22 (-1 : Int32) (-1 : Int32) gq_22) hZ (cwI 2 hts (hx_gC kw_152) rfl rfl rfl (hts _ kw_96) (hts _ kw_150) (hts _ kw_151) rfl (by decide +kernel) ⟨Nat.le_of_ble_eq_true rfl, Nat.le_of_ble_eq_true rfl⟩) rfl hl.1 rfl (Nat.le_of_ble_eq_true rfl) dX9_init_31 ⟨Nat.le_of_ble_eq_true rfl, Nat.le_of_ble_eq_true rfl⟩) hW (fun L_28 h_29 H locs p_31 hW => ?_)
  obtain ⟨hs, f_33, f_34, q_32, f_35, gq_32, f_36⟩ := p_31
  have hs : hx_S P_tb [(0, 0), (0, 1), (0, 2), (0, 3), (0, 4), (11, 0), (12, 0)] (L_15 ++ [q_22]) h_21 L_28 h_29 := hs
  have f_5 := (hs.o gx trivial rfl).2.trans f_5
  have f_9 := (hs.o gq_7 trivial rfl).1.trans f_9
  have f_10 := (hs.o gq_7 trivial rfl).1.trans f_10
  have f_11 := (hs.o gq_7 trivial rfl).1.trans f_11
  have f_12 := (hs.o gq_7 trivial rfl).1.trans f_12
  have f_13 := (hs.o gq_7 trivial rfl).1.trans f_13
  have f_20 := (hs.o gx trivial rfl).2.trans f_20
  have hM := hM.tr (hs.mono (by decide))
  have gx := gx.S hs
  have gq_2 := gq_2.S hs
  have gq_7 := gq_7.S hs
  have gq_22 := gq_22.S hs
  have f_33 : h_29.2.1 q_22 0 = _ := f_33
  have f_34 : h_29.2.1 q_22 1 = _ := f_34
  have f_35 : h_29.2.2 q_22 2 = _ := f_35
  have gq_32 : hx_g L_28 h_29 q_32 11 := gq_32
  have f_36 : ∀ j, j < 14 → h_29.2.1 q_32 j = P_wo j := f_36
  refine hk_putrF hx hb hts hC_9 hown hW gx td_9 4 (by decide) rfl kw_368 ⟨rfl, rfl, rfl⟩ rfl hin rfl (x := (some q_22)) rfl rfl rfl dX9_init_34 (fun H locs h_37 eh_37 hW hs => ?_)
  have f_5 := (hs.o gx trivial rfl).2.trans f_5
  have f_9 := (hs.o gq_7 trivial rfl).1.trans f_9
  have f_10 := (hs.o gq_7 trivial rfl).1.trans f_10
  have f_11 := (hs.o gq_7 trivial rfl).1.trans f_11
  have f_12 := (hs.o gq_7 trivial rfl).1.trans f_12
  have f_13 := (hs.o gq_7 trivial rfl).1.trans f_13
  have f_20 := (hs.o gx trivial rfl).2.trans f_20
  have f_33 := (hs.o gq_22 trivial rfl).1.trans f_33
  have f_34 := (hs.o gq_22 trivial rfl).1.trans f_34
  have f_35 := (hs.o gq_22 trivial rfl).2.trans f_35
  have f_36 : ∀ j, j < 14 → _ = P_wo j := fun j hj => (hs.a gq_32 rfl j).1.trans (f_36 j hj)
  have hM := hM.tr (hs.mono (by decide))
  have gx := gx.S hs
  have gq_2 := gq_2.S hs
  have gq_7 := gq_7.S hs
  have gq_22 := gq_22.S hs
  have gq_32 := gq_32.S hs
  have f_38 : h_37.2.2 x 4 = (some q_22) := by rw [eh_37]; exact hx_pr_at _ _ _ _
  refine lv_aload_n hx hb dX9_init_37 rfl (lv_at hl 0 rfl) ?_
  refine lv_bipush (v := 8) hx hb dX9_init_38 (by decide) ?_
  refine hk_newqX hx hb hts hown hW 43 td_43 kw_148 hZ.2.1.1 (tys := P_ty dA) (t0 := 4) rfl (i := (8 : Int32)) (by decide) (Nat.le_of_ble_eq_true rfl) (Nat.le_of_ble_eq_true rfl) (Nat.le_of_ble_eq_true rfl) dX9_init_40 (fun q_40 H h_39 eh_39 hqq_40 hW hs gq_40 => ?_)
  have f_5 := (hs.o gx trivial rfl).2.trans f_5
  have f_9 := (hs.o gq_7 trivial rfl).1.trans f_9
  have f_10 := (hs.o gq_7 trivial rfl).1.trans f_10
  have f_11 := (hs.o gq_7 trivial rfl).1.trans f_11
  have f_12 := (hs.o gq_7 trivial rfl).1.trans f_12
  have f_13 := (hs.o gq_7 trivial rfl).1.trans f_13
  have f_20 := (hs.o gx trivial rfl).2.trans f_20
  have f_33 := (hs.o gq_22 trivial rfl).1.trans f_33
  have f_34 := (hs.o gq_22 trivial rfl).1.trans f_34
  have f_35 := (hs.o gq_22 trivial rfl).2.trans f_35
  have f_38 := (hs.o gx trivial rfl).2.trans f_38
  have f_36 : ∀ j, j < 14 → _ = P_wo j := fun j hj => (hs.a gq_32 rfl j).1.trans (f_36 j hj)
  have hM := hM.tr (hs.mono (by decide))
  have gx := gx.S hs
  have gq_2 := gq_2.S hs
  have gq_7 := gq_7.S hs
  have gq_22 := gq_22.S hs
  have gq_32 := gq_32.S hs
  have f_41 : (∀ j, h_39.2.1 q_40 j = 0) ∧ ∀ j, h_39.2.2 q_40 j = none := by rw [eh_39]; exact ⟨fun _ => hx_nw_i, fun _ => hx_nw_r⟩
  refine hk_putrF hx hb hts hC_9 hown hW gx td_9 5 (by decide) rfl kw_369 ⟨rfl, rfl, rfl⟩ rfl hin rfl (x := (some q_40)) rfl rfl rfl dX9_init_43 (fun H locs h_42 eh_42 hW hs => ?_)
  have f_5 := (hs.o gx trivial rfl).2.trans f_5
  have f_9 := (hs.o gq_7 trivial rfl).1.trans f_9
  have f_10 := (hs.o gq_7 trivial rfl).1.trans f_10
  have f_11 := (hs.o gq_7 trivial rfl).1.trans f_11
  have f_12 := (hs.o gq_7 trivial rfl).1.trans f_12
  have f_13 := (hs.o gq_7 trivial rfl).1.trans f_13
  have f_20 := (hs.o gx trivial rfl).2.trans f_20
  have f_33 := (hs.o gq_22 trivial rfl).1.trans f_33
  have f_34 := (hs.o gq_22 trivial rfl).1.trans f_34
  have f_35 := (hs.o gq_22 trivial rfl).2.trans f_35
  have f_38 := (hs.o gx trivial rfl).2.trans f_38
  have f_36 : ∀ j, j < 14 → _ = P_wo j := fun j hj => (hs.a gq_32 rfl j).1.trans (f_36 j hj)
  have f_41 : _ ∧ _ := ⟨fun j => (hs.a gq_40 rfl j).1.trans (f_41.1 j), fun j => (hs.a gq_40 rfl j).2.trans (f_41.2 j)⟩
  have hM := hM.tr (hs.mono (by decide))
  have gx := gx.S hs
  have gq_2 := gq_2.S hs
  have gq_7 := gq_7.S hs
  have gq_22 := gq_22.S hs
  have gq_32 := gq_32.S hs
  have gq_40 := gq_40.S hs
  have f_43 : h_42.2.2 x 5 = (some q_40) := by rw [eh_42]; exact hx_pr_at _ _ _ _
  refine lv_aload_n hx hb dX9_init_46 rfl (lv_at hl 0 rfl) ?_
  refine lv_bipush (v := 40) hx hb dX9_init_47 (by decide) ?_
  refine hk_newqX hx hb hts hown hW 44 td_44 kw_188 hZ.2.1.2.1 (tys := P_ty dA) (t0 := 5) rfl (i := (40 : Int32)) (by decide) (Nat.le_of_ble_eq_true rfl) (Nat.le_of_ble_eq_true rfl) (Nat.le_of_ble_eq_true rfl) dX9_init_49 (fun q_45 H h_44 eh_44 hqq_45 hW hs gq_45 => ?_)
  have f_5 := (hs.o gx trivial rfl).2.trans f_5
  have f_9 := (hs.o gq_7 trivial rfl).1.trans f_9
  have f_10 := (hs.o gq_7 trivial rfl).1.trans f_10
  have f_11 := (hs.o gq_7 trivial rfl).1.trans f_11
  have f_12 := (hs.o gq_7 trivial rfl).1.trans f_12
  have f_13 := (hs.o gq_7 trivial rfl).1.trans f_13
  have f_20 := (hs.o gx trivial rfl).2.trans f_20
  have f_33 := (hs.o gq_22 trivial rfl).1.trans f_33
  have f_34 := (hs.o gq_22 trivial rfl).1.trans f_34
  have f_35 := (hs.o gq_22 trivial rfl).2.trans f_35
  have f_38 := (hs.o gx trivial rfl).2.trans f_38
  have f_43 := (hs.o gx trivial rfl).2.trans f_43
  have f_36 : ∀ j, j < 14 → _ = P_wo j := fun j hj => (hs.a gq_32 rfl j).1.trans (f_36 j hj)
  have hM := hM.tr (hs.mono (by decide))
  have gx := gx.S hs
  have gq_2 := gq_2.S hs
  have gq_7 := gq_7.S hs
  have gq_22 := gq_22.S hs
  have gq_32 := gq_32.S hs
  have gq_40 := gq_40.S hs
  have f_46 : (∀ j, h_44.2.1 q_45 j = 0) ∧ ∀ j, h_44.2.2 q_45 j = none := by rw [eh_44]; exact ⟨fun _ => hx_nw_i, fun _ => hx_nw_r⟩
  refine hk_putrF hx hb hts hC_9 hown hW gx td_9 7 (by decide) rfl kw_371 ⟨rfl, rfl, rfl⟩ rfl hin rfl (x := (some q_45)) rfl rfl rfl dX9_init_52 (fun H locs h_47 eh_47 hW hs => ?_)
  have f_5 := (hs.o gx trivial rfl).2.trans f_5
  have f_9 := (hs.o gq_7 trivial rfl).1.trans f_9
  have f_10 := (hs.o gq_7 trivial rfl).1.trans f_10
  have f_11 := (hs.o gq_7 trivial rfl).1.trans f_11
  have f_12 := (hs.o gq_7 trivial rfl).1.trans f_12
  have f_13 := (hs.o gq_7 trivial rfl).1.trans f_13
  have f_20 := (hs.o gx trivial rfl).2.trans f_20
  have f_33 := (hs.o gq_22 trivial rfl).1.trans f_33
  have f_34 := (hs.o gq_22 trivial rfl).1.trans f_34
  have f_35 := (hs.o gq_22 trivial rfl).2.trans f_35
  have f_38 := (hs.o gx trivial rfl).2.trans f_38
  have f_43 := (hs.o gx trivial rfl).2.trans f_43
  have f_36 : ∀ j, j < 14 → _ = P_wo j := fun j hj => (hs.a gq_32 rfl j).1.trans (f_36 j hj)
  have f_46 : _ ∧ _ := ⟨fun j => (hs.a gq_45 rfl j).1.trans (f_46.1 j), fun j => (hs.a gq_45 rfl j).2.trans (f_46.2 j)⟩
  have hM := hM.tr (hs.mono (by decide))
  have gx := gx.S hs
  have gq_2 := gq_2.S hs
  have gq_7 := gq_7.S hs
  have gq_22 := gq_22.S hs
  have gq_32 := gq_32.S hs
  have gq_40 := gq_40.S hs
  have gq_45 := gq_45.S hs
  have f_48 : h_47.2.2 x 7 = (some q_45) := by rw [eh_47]; exact hx_pr_at _ _ _ _
  refine lv_aload_n hx hb dX9_init_55 rfl (lv_at hl 0 rfl) ?_
  refine hk_new hx hb hts hC_1 hown hW 1 td_1 rfl (by decide) kw_190 kw_191 kw_98 (Nat.le_of_ble_eq_true rfl) (Nat.le_of_ble_eq_true rfl) dX9_init_56 (fun q_50 H h_49 eh_49 hqq_50 hW hs gq_50 => ?_)
  have f_5 := (hs.o gx trivial rfl).2.trans f_5
  have f_9 := (hs.o gq_7 trivial rfl).1.trans f_9
  have f_10 := (hs.o gq_7 trivial rfl).1.trans f_10
  have f_11 := (hs.o gq_7 trivial rfl).1.trans f_11
  have f_12 := (hs.o gq_7 trivial rfl).1.trans f_12
  have f_13 := (hs.o gq_7 trivial rfl).1.trans f_13
  have f_20 := (hs.o gx trivial rfl).2.trans f_20
  have f_33 := (hs.o gq_22 trivial rfl).1.trans f_33
  have f_34 := (hs.o gq_22 trivial rfl).1.trans f_34
  have f_35 := (hs.o gq_22 trivial rfl).2.trans f_35
  have f_38 := (hs.o gx trivial rfl).2.trans f_38
  have f_43 := (hs.o gx trivial rfl).2.trans f_43
  have f_48 := (hs.o gx trivial rfl).2.trans f_48
  have f_36 : ∀ j, j < 14 → _ = P_wo j := fun j hj => (hs.a gq_32 rfl j).1.trans (f_36 j hj)
  have hM := hM.tr (hs.mono (by decide))
  have gx := gx.S hs
  have gq_2 := gq_2.S hs
  have gq_7 := gq_7.S hs
  have gq_22 := gq_22.S hs
  have gq_32 := gq_32.S hs
  have gq_40 := gq_40.S hs
  have gq_45 := gq_45.S hs
  have f_51 : h_49.2.1 q_50 0 = 0 := by rw [eh_49]; exact hx_nw_i
  refine lv_dup hx hb dX9_init_59 rfl ?_
  refine hx_gov (hx_runIN (As := []) (rest := [.ref q_50, .ref x]) ⟨hx, hb, hml, hown, hts⟩ hW (c_X1_init l dC dI dA (((L_28 ++ [q_40]) ++ [q_45]) ++ [q_50]) h_49 H.size q_50 gq_50) ⟨va_cnB 0 hts (hx_gC kw_194) rfl rfl rfl (hZ.1 _ (List.mem_of_getElem? (i := 2) rfl)) (hts _ kw_98) (by decide +kernel) ⟨Nat.le_of_ble_eq_true rfl, Nat.le_of_ble_eq_true rfl⟩, rfl, hts _ kw_193⟩ rfl hl.1 rfl (Nat.le_of_ble_eq_true rfl) dX9_init_60 ⟨Nat.le_of_ble_eq_true rfl, Nat.le_of_ble_eq_true rfl⟩) hW (fun L_59 h_60 H locs p_62 hW => ?_)
  have hs : hx_S P_tb [(1, 1), (1, 2), (1, 3), (1, 4), (1, 5), (1, 6), (1, 7)] (((L_28 ++ [q_40]) ++ [q_45]) ++ [q_50]) h_49 L_59 h_60 := p_62
  have f_5 := (hs.o gx trivial rfl).2.trans f_5
  have f_9 := (hs.o gq_7 trivial rfl).1.trans f_9
  have f_10 := (hs.o gq_7 trivial rfl).1.trans f_10
  have f_11 := (hs.o gq_7 trivial rfl).1.trans f_11
  have f_12 := (hs.o gq_7 trivial rfl).1.trans f_12
  have f_13 := (hs.o gq_7 trivial rfl).1.trans f_13
  have f_20 := (hs.o gx trivial rfl).2.trans f_20
  have f_33 := (hs.o gq_22 trivial rfl).1.trans f_33
  have f_34 := (hs.o gq_22 trivial rfl).1.trans f_34
  have f_35 := (hs.o gq_22 trivial rfl).2.trans f_35
  have f_38 := (hs.o gx trivial rfl).2.trans f_38
  have f_43 := (hs.o gx trivial rfl).2.trans f_43
  have f_48 := (hs.o gx trivial rfl).2.trans f_48
  have f_51 := (hs.o gq_50 trivial rfl).1.trans f_51
  have f_36 : ∀ j, j < 14 → _ = P_wo j := fun j hj => (hs.a gq_32 rfl j).1.trans (f_36 j hj)
  have hM := hM.tr (hs.mono (by decide))
  have gx := gx.S hs
  have gq_2 := gq_2.S hs
  have gq_7 := gq_7.S hs
  have gq_22 := gq_22.S hs
  have gq_32 := gq_32.S hs
  have gq_40 := gq_40.S hs
  have gq_45 := gq_45.S hs
  have gq_50 := gq_50.S hs
  refine hk_putrF hx hb hts hC_9 hown hW gx td_9 9 (by decide) rfl kw_373 ⟨rfl, rfl, rfl⟩ rfl hin rfl (x := (some q_50)) rfl rfl rfl dX9_init_63 (fun H locs h_63 eh_63 hW hs => ?_)
  have f_5 := (hs.o gx trivial rfl).2.trans f_5
  have f_9 := (hs.o gq_7 trivial rfl).1.trans f_9
  have f_10 := (hs.o gq_7 trivial rfl).1.trans f_10
  have f_11 := (hs.o gq_7 trivial rfl).1.trans f_11
  have f_12 := (hs.o gq_7 trivial rfl).1.trans f_12
  have f_13 := (hs.o gq_7 trivial rfl).1.trans f_13
  have f_20 := (hs.o gx trivial rfl).2.trans f_20
  have f_33 := (hs.o gq_22 trivial rfl).1.trans f_33
  have f_34 := (hs.o gq_22 trivial rfl).1.trans f_34
  have f_35 := (hs.o gq_22 trivial rfl).2.trans f_35
  have f_38 := (hs.o gx trivial rfl).2.trans f_38
  have f_43 := (hs.o gx trivial rfl).2.trans f_43
  have f_48 := (hs.o gx trivial rfl).2.trans f_48
  have f_51 := (hs.o gq_50 trivial rfl).1.trans f_51
  have f_36 : ∀ j, j < 14 → _ = P_wo j := fun j hj => (hs.a gq_32 rfl j).1.trans (f_36 j hj)
  have hM := hM.tr (hs.mono (by decide))
  have gx := gx.S hs
  have gq_2 := gq_2.S hs
  have gq_7 := gq_7.S hs
  have gq_22 := gq_22.S hs
  have gq_32 := gq_32.S hs
  have gq_40 := gq_40.S hs
  have gq_45 := gq_45.S hs
  have gq_50 := gq_50.S hs
  have f_64 : h_63.2.2 x 9 = (some q_50) := by rw [eh_63]; exact hx_pr_at _ _ _ _
  refine lv_aload_n hx hb dX9_init_66 rfl (lv_at hl 0 rfl) ?_
  refine lv_bipush (v := 100) hx hb dX9_init_67 (by decide) ?_
  refine hk_newqX hx hb hts hown hW 45 td_45 kw_223 hZ.2.1.2.2 (tys := P_ty dA) (t0 := 6) rfl (i := (100 : Int32)) (by decide) (Nat.le_of_ble_eq_true rfl) (Nat.le_of_ble_eq_true rfl) (Nat.le_of_ble_eq_true rfl) dX9_init_69 (fun q_66 H h_65 eh_65 hqq_66 hW hs gq_66 => ?_)
  have f_5 := (hs.o gx trivial rfl).2.trans f_5
  have f_9 := (hs.o gq_7 trivial rfl).1.trans f_9
  have f_10 := (hs.o gq_7 trivial rfl).1.trans f_10
  have f_11 := (hs.o gq_7 trivial rfl).1.trans f_11
  have f_12 := (hs.o gq_7 trivial rfl).1.trans f_12
  have f_13 := (hs.o gq_7 trivial rfl).1.trans f_13
  have f_20 := (hs.o gx trivial rfl).2.trans f_20
  have f_33 := (hs.o gq_22 trivial rfl).1.trans f_33
  have f_34 := (hs.o gq_22 trivial rfl).1.trans f_34
  have f_35 := (hs.o gq_22 trivial rfl).2.trans f_35
  have f_38 := (hs.o gx trivial rfl).2.trans f_38
  have f_43 := (hs.o gx trivial rfl).2.trans f_43
  have f_48 := (hs.o gx trivial rfl).2.trans f_48
  have f_51 := (hs.o gq_50 trivial rfl).1.trans f_51
  have f_64 := (hs.o gx trivial rfl).2.trans f_64
  have f_36 : ∀ j, j < 14 → _ = P_wo j := fun j hj => (hs.a gq_32 rfl j).1.trans (f_36 j hj)
  have hM := hM.tr (hs.mono (by decide))
  have gx := gx.S hs
  have gq_2 := gq_2.S hs
  have gq_7 := gq_7.S hs
  have gq_22 := gq_22.S hs
  have gq_32 := gq_32.S hs
  have gq_40 := gq_40.S hs
  have gq_45 := gq_45.S hs
  have gq_50 := gq_50.S hs
  have f_67 : (∀ j, h_65.2.1 q_66 j = 0) ∧ ∀ j, h_65.2.2 q_66 j = none := by rw [eh_65]; exact ⟨fun _ => hx_nw_i, fun _ => hx_nw_r⟩
  refine hk_putrF hx hb hts hC_9 hown hW gx td_9 10 (by decide) rfl kw_374 ⟨rfl, rfl, rfl⟩ rfl hin rfl (x := (some q_66)) rfl rfl rfl dX9_init_72 (fun H locs h_68 eh_68 hW hs => ?_)
  have f_5 := (hs.o gx trivial rfl).2.trans f_5
  have f_9 := (hs.o gq_7 trivial rfl).1.trans f_9
  have f_10 := (hs.o gq_7 trivial rfl).1.trans f_10
  have f_11 := (hs.o gq_7 trivial rfl).1.trans f_11
  have f_12 := (hs.o gq_7 trivial rfl).1.trans f_12
  have f_13 := (hs.o gq_7 trivial rfl).1.trans f_13
  have f_20 := (hs.o gx trivial rfl).2.trans f_20
  have f_33 := (hs.o gq_22 trivial rfl).1.trans f_33
  have f_34 := (hs.o gq_22 trivial rfl).1.trans f_34
  have f_35 := (hs.o gq_22 trivial rfl).2.trans f_35
  have f_38 := (hs.o gx trivial rfl).2.trans f_38
  have f_43 := (hs.o gx trivial rfl).2.trans f_43
  have f_48 := (hs.o gx trivial rfl).2.trans f_48
  have f_51 := (hs.o gq_50 trivial rfl).1.trans f_51
  have f_64 := (hs.o gx trivial rfl).2.trans f_64
  have f_36 : ∀ j, j < 14 → _ = P_wo j := fun j hj => (hs.a gq_32 rfl j).1.trans (f_36 j hj)
  have f_67 : _ ∧ _ := ⟨fun j => (hs.a gq_66 rfl j).1.trans (f_67.1 j), fun j => (hs.a gq_66 rfl j).2.trans (f_67.2 j)⟩
  have hM := hM.tr (hs.mono (by decide))
  have gx := gx.S hs
  have gq_2 := gq_2.S hs
  have gq_7 := gq_7.S hs
  have gq_22 := gq_22.S hs
  have gq_32 := gq_32.S hs
  have gq_40 := gq_40.S hs
  have gq_45 := gq_45.S hs
  have gq_50 := gq_50.S hs
  have gq_66 := gq_66.S hs
  have f_69 : h_68.2.2 x 10 = (some q_66) := by rw [eh_68]; exact hx_pr_at _ _ _ _
  refine lv_aload_n hx hb dX9_init_75 rfl (lv_at hl 0 rfl) ?_
  refine lv_bipush (v := 100) hx hb dX9_init_76 (by decide) ?_
  refine hk_newqX hx hb hts hown hW 46 td_46 kw_223 hZ.2.1.2.2 (tys := P_ty dA) (t0 := 6) rfl (i := (100 : Int32)) (by decide) (Nat.le_of_ble_eq_true rfl) (Nat.le_of_ble_eq_true rfl) (Nat.le_of_ble_eq_true rfl) dX9_init_78 (fun q_71 H h_70 eh_70 hqq_71 hW hs gq_71 => ?_)
  have f_5 := (hs.o gx trivial rfl).2.trans f_5
  have f_9 := (hs.o gq_7 trivial rfl).1.trans f_9
  have f_10 := (hs.o gq_7 trivial rfl).1.trans f_10
  have f_11 := (hs.o gq_7 trivial rfl).1.trans f_11
  have f_12 := (hs.o gq_7 trivial rfl).1.trans f_12
  have f_13 := (hs.o gq_7 trivial rfl).1.trans f_13
  have f_20 := (hs.o gx trivial rfl).2.trans f_20
  have f_33 := (hs.o gq_22 trivial rfl).1.trans f_33
  have f_34 := (hs.o gq_22 trivial rfl).1.trans f_34
  have f_35 := (hs.o gq_22 trivial rfl).2.trans f_35
  have f_38 := (hs.o gx trivial rfl).2.trans f_38
  have f_43 := (hs.o gx trivial rfl).2.trans f_43
  have f_48 := (hs.o gx trivial rfl).2.trans f_48
  have f_51 := (hs.o gq_50 trivial rfl).1.trans f_51
  have f_64 := (hs.o gx trivial rfl).2.trans f_64
  have f_36 : ∀ j, j < 14 → _ = P_wo j := fun j hj => (hs.a gq_32 rfl j).1.trans (f_36 j hj)
  have hM := hM.tr (hs.mono (by decide))
  have gx := gx.S hs
  have gq_2 := gq_2.S hs
  have gq_7 := gq_7.S hs
  have gq_22 := gq_22.S hs
  have gq_32 := gq_32.S hs
  have gq_40 := gq_40.S hs
  have gq_45 := gq_45.S hs
  have gq_50 := gq_50.S hs
  have f_72 : (∀ j, h_70.2.1 q_71 j = 0) ∧ ∀ j, h_70.2.2 q_71 j = none := by rw [eh_70]; exact ⟨fun _ => hx_nw_i, fun _ => hx_nw_r⟩
  refine hk_putrF hx hb hts hC_9 hown hW gx td_9 12 (by decide) rfl kw_376 ⟨rfl, rfl, rfl⟩ rfl hin rfl (x := (some q_71)) rfl rfl rfl dX9_init_81 (fun H locs h_73 eh_73 hW hs => ?_)
  have f_5 := (hs.o gx trivial rfl).2.trans f_5
  have f_9 := (hs.o gq_7 trivial rfl).1.trans f_9
  have f_10 := (hs.o gq_7 trivial rfl).1.trans f_10
  have f_11 := (hs.o gq_7 trivial rfl).1.trans f_11
  have f_12 := (hs.o gq_7 trivial rfl).1.trans f_12
  have f_13 := (hs.o gq_7 trivial rfl).1.trans f_13
  have f_20 := (hs.o gx trivial rfl).2.trans f_20
  have f_33 := (hs.o gq_22 trivial rfl).1.trans f_33
  have f_34 := (hs.o gq_22 trivial rfl).1.trans f_34
  have f_35 := (hs.o gq_22 trivial rfl).2.trans f_35
  have f_38 := (hs.o gx trivial rfl).2.trans f_38
  have f_43 := (hs.o gx trivial rfl).2.trans f_43
  have f_48 := (hs.o gx trivial rfl).2.trans f_48
  have f_51 := (hs.o gq_50 trivial rfl).1.trans f_51
  have f_64 := (hs.o gx trivial rfl).2.trans f_64
  have f_36 : ∀ j, j < 14 → _ = P_wo j := fun j hj => (hs.a gq_32 rfl j).1.trans (f_36 j hj)
  have f_72 : _ ∧ _ := ⟨fun j => (hs.a gq_71 rfl j).1.trans (f_72.1 j), fun j => (hs.a gq_71 rfl j).2.trans (f_72.2 j)⟩
  have hM := hM.tr (hs.mono (by decide))
  have gx := gx.S hs
  have gq_2 := gq_2.S hs
  have gq_7 := gq_7.S hs
  have gq_22 := gq_22.S hs
  have gq_32 := gq_32.S hs
  have gq_40 := gq_40.S hs
  have gq_45 := gq_45.S hs
  have gq_50 := gq_50.S hs
  have gq_71 := gq_71.S hs
  have f_74 : h_73.2.2 x 12 = (some q_71) := by rw [eh_73]; exact hx_pr_at _ _ _ _
  refine lv_aload_n hx hb dX9_init_84 rfl (lv_at hl 0 rfl) ?_
  refine hk_new hx hb hts hC_3 hown hW 3 td_3 rfl (by decide) kw_225 kw_226 kw_99 (Nat.le_of_ble_eq_true rfl) (Nat.le_of_ble_eq_true rfl) dX9_init_85 (fun q_76 H h_75 eh_75 hqq_76 hW hs gq_76 => ?_)
  have f_5 := (hs.o gx trivial rfl).2.trans f_5
  have f_9 := (hs.o gq_7 trivial rfl).1.trans f_9
  have f_10 := (hs.o gq_7 trivial rfl).1.trans f_10
  have f_11 := (hs.o gq_7 trivial rfl).1.trans f_11
  have f_12 := (hs.o gq_7 trivial rfl).1.trans f_12
  have f_13 := (hs.o gq_7 trivial rfl).1.trans f_13
  have f_20 := (hs.o gx trivial rfl).2.trans f_20
  have f_33 := (hs.o gq_22 trivial rfl).1.trans f_33
  have f_34 := (hs.o gq_22 trivial rfl).1.trans f_34
  have f_35 := (hs.o gq_22 trivial rfl).2.trans f_35
  have f_38 := (hs.o gx trivial rfl).2.trans f_38
  have f_43 := (hs.o gx trivial rfl).2.trans f_43
  have f_48 := (hs.o gx trivial rfl).2.trans f_48
  have f_51 := (hs.o gq_50 trivial rfl).1.trans f_51
  have f_64 := (hs.o gx trivial rfl).2.trans f_64
  have f_36 : ∀ j, j < 14 → _ = P_wo j := fun j hj => (hs.a gq_32 rfl j).1.trans (f_36 j hj)
  have hM := hM.tr (hs.mono (by decide))
  have gx := gx.S hs
  have gq_2 := gq_2.S hs
  have gq_7 := gq_7.S hs
  have gq_22 := gq_22.S hs
  have gq_32 := gq_32.S hs
  have gq_40 := gq_40.S hs
  have gq_45 := gq_45.S hs
  have gq_50 := gq_50.S hs
  have f_77 : h_75.2.1 q_76 0 = 0 := by rw [eh_75]; exact hx_nw_i
  refine lv_dup hx hb dX9_init_88 rfl ?_
  refine hx_gov (hx_runIN (As := []) (rest := [.ref q_76, .ref x]) ⟨hx, hb, hml, hown, hts⟩ hW (c_X3_init l dC dI dA (((L_59 ++ [q_66]) ++ [q_71]) ++ [q_76]) h_75 H.size q_76 gq_76) ⟨va_cnB 0 hts (hx_gC kw_229) rfl rfl rfl (hZ.1 _ (List.mem_of_getElem? (i := 3) rfl)) (hts _ kw_99) (by decide +kernel) ⟨Nat.le_of_ble_eq_true rfl, Nat.le_of_ble_eq_true rfl⟩, rfl, hts _ kw_228⟩ rfl hl.1 rfl (Nat.le_of_ble_eq_true rfl) dX9_init_89 ⟨Nat.le_of_ble_eq_true rfl, Nat.le_of_ble_eq_true rfl⟩) hW (fun L_83 h_84 H locs p_86 hW => ?_)
  have hs : hx_S P_tb [(3, 1), (3, 2), (3, 3), (3, 4), (3, 5)] (((L_59 ++ [q_66]) ++ [q_71]) ++ [q_76]) h_75 L_83 h_84 := p_86
  have f_5 := (hs.o gx trivial rfl).2.trans f_5
  have f_9 := (hs.o gq_7 trivial rfl).1.trans f_9
  have f_10 := (hs.o gq_7 trivial rfl).1.trans f_10
  have f_11 := (hs.o gq_7 trivial rfl).1.trans f_11
  have f_12 := (hs.o gq_7 trivial rfl).1.trans f_12
  have f_13 := (hs.o gq_7 trivial rfl).1.trans f_13
  have f_20 := (hs.o gx trivial rfl).2.trans f_20
  have f_33 := (hs.o gq_22 trivial rfl).1.trans f_33
  have f_34 := (hs.o gq_22 trivial rfl).1.trans f_34
  have f_35 := (hs.o gq_22 trivial rfl).2.trans f_35
  have f_38 := (hs.o gx trivial rfl).2.trans f_38
  have f_43 := (hs.o gx trivial rfl).2.trans f_43
  have f_48 := (hs.o gx trivial rfl).2.trans f_48
  have f_51 := (hs.o gq_50 trivial rfl).1.trans f_51
  have f_64 := (hs.o gx trivial rfl).2.trans f_64
  have f_77 := (hs.o gq_76 trivial rfl).1.trans f_77
  have f_36 : ∀ j, j < 14 → _ = P_wo j := fun j hj => (hs.a gq_32 rfl j).1.trans (f_36 j hj)
  have hM := hM.tr (hs.mono (by decide))
  have gx := gx.S hs
  have gq_2 := gq_2.S hs
  have gq_7 := gq_7.S hs
  have gq_22 := gq_22.S hs
  have gq_32 := gq_32.S hs
  have gq_40 := gq_40.S hs
  have gq_45 := gq_45.S hs
  have gq_50 := gq_50.S hs
  have gq_76 := gq_76.S hs
  refine hk_putrF hx hb hts hC_9 hown hW gx td_9 14 (by decide) rfl kw_378 ⟨rfl, rfl, rfl⟩ rfl hin rfl (x := (some q_76)) rfl rfl rfl dX9_init_92 (fun H locs h_87 eh_87 hW hs => ?_)
  have f_5 := (hs.o gx trivial rfl).2.trans f_5
  have f_9 := (hs.o gq_7 trivial rfl).1.trans f_9
  have f_10 := (hs.o gq_7 trivial rfl).1.trans f_10
  have f_11 := (hs.o gq_7 trivial rfl).1.trans f_11
  have f_12 := (hs.o gq_7 trivial rfl).1.trans f_12
  have f_13 := (hs.o gq_7 trivial rfl).1.trans f_13
  have f_20 := (hs.o gx trivial rfl).2.trans f_20
  have f_33 := (hs.o gq_22 trivial rfl).1.trans f_33
  have f_34 := (hs.o gq_22 trivial rfl).1.trans f_34
  have f_35 := (hs.o gq_22 trivial rfl).2.trans f_35
  have f_38 := (hs.o gx trivial rfl).2.trans f_38
  have f_43 := (hs.o gx trivial rfl).2.trans f_43
  have f_48 := (hs.o gx trivial rfl).2.trans f_48
  have f_51 := (hs.o gq_50 trivial rfl).1.trans f_51
  have f_64 := (hs.o gx trivial rfl).2.trans f_64
  have f_77 := (hs.o gq_76 trivial rfl).1.trans f_77
  have f_36 : ∀ j, j < 14 → _ = P_wo j := fun j hj => (hs.a gq_32 rfl j).1.trans (f_36 j hj)
  have hM := hM.tr (hs.mono (by decide))
  have gx := gx.S hs
  have gq_2 := gq_2.S hs
  have gq_7 := gq_7.S hs
  have gq_22 := gq_22.S hs
  have gq_32 := gq_32.S hs
  have gq_40 := gq_40.S hs
  have gq_45 := gq_45.S hs
  have gq_50 := gq_50.S hs
  have gq_76 := gq_76.S hs
  have f_88 : h_87.2.2 x 14 = (some q_76) := by rw [eh_87]; exact hx_pr_at _ _ _ _
  refine lv_aload_n hx hb dX9_init_95 rfl (lv_at hl 0 rfl) ?_
  refine lv_bipush (v := 40) hx hb dX9_init_96 (by decide) ?_
  refine hk_newa hx hb hts hW 47 td_47 (atype := .int) rfl kw_186 (tys := P_ty dA) (t0 := 0) rfl (fun _ => Iff.rfl) rfl (i := (40 : Int32)) (by decide) (Nat.le_of_ble_eq_true rfl) (Nat.le_of_ble_eq_true rfl) (Nat.le_of_ble_eq_true rfl) dX9_init_98 (fun q_90 H h_89 eh_89 hqq_90 hW hs gq_90 => ?_)
  have f_5 := (hs.o gx trivial rfl).2.trans f_5
  have f_9 := (hs.o gq_7 trivial rfl).1.trans f_9
  have f_10 := (hs.o gq_7 trivial rfl).1.trans f_10
  have f_11 := (hs.o gq_7 trivial rfl).1.trans f_11
  have f_12 := (hs.o gq_7 trivial rfl).1.trans f_12
  have f_13 := (hs.o gq_7 trivial rfl).1.trans f_13
  have f_20 := (hs.o gx trivial rfl).2.trans f_20
  have f_33 := (hs.o gq_22 trivial rfl).1.trans f_33
  have f_34 := (hs.o gq_22 trivial rfl).1.trans f_34
  have f_35 := (hs.o gq_22 trivial rfl).2.trans f_35
  have f_38 := (hs.o gx trivial rfl).2.trans f_38
  have f_43 := (hs.o gx trivial rfl).2.trans f_43
  have f_48 := (hs.o gx trivial rfl).2.trans f_48
  have f_51 := (hs.o gq_50 trivial rfl).1.trans f_51
  have f_64 := (hs.o gx trivial rfl).2.trans f_64
  have f_77 := (hs.o gq_76 trivial rfl).1.trans f_77
  have f_88 := (hs.o gx trivial rfl).2.trans f_88
  have f_36 : ∀ j, j < 14 → _ = P_wo j := fun j hj => (hs.a gq_32 rfl j).1.trans (f_36 j hj)
  have hM := hM.tr (hs.mono (by decide))
  have gx := gx.S hs
  have gq_2 := gq_2.S hs
  have gq_7 := gq_7.S hs
  have gq_22 := gq_22.S hs
  have gq_32 := gq_32.S hs
  have gq_40 := gq_40.S hs
  have gq_45 := gq_45.S hs
  have gq_50 := gq_50.S hs
  have gq_76 := gq_76.S hs
  have f_91 : (∀ j, h_89.2.1 q_90 j = 0) ∧ ∀ j, h_89.2.2 q_90 j = none := by rw [eh_89]; exact ⟨fun _ => hx_nw_i, fun _ => hx_nw_r⟩
  refine hk_putrF hx hb hts hC_9 hown hW gx td_9 15 (by decide) rfl kw_379 ⟨rfl, rfl, rfl⟩ rfl hin rfl (x := (some q_90)) rfl rfl rfl dX9_init_100 (fun H locs h_92 eh_92 hW hs => ?_)
  have f_5 := (hs.o gx trivial rfl).2.trans f_5
  have f_9 := (hs.o gq_7 trivial rfl).1.trans f_9
  have f_10 := (hs.o gq_7 trivial rfl).1.trans f_10
  have f_11 := (hs.o gq_7 trivial rfl).1.trans f_11
  have f_12 := (hs.o gq_7 trivial rfl).1.trans f_12
  have f_13 := (hs.o gq_7 trivial rfl).1.trans f_13
  have f_20 := (hs.o gx trivial rfl).2.trans f_20
  have f_33 := (hs.o gq_22 trivial rfl).1.trans f_33
  have f_34 := (hs.o gq_22 trivial rfl).1.trans f_34
  have f_35 := (hs.o gq_22 trivial rfl).2.trans f_35
  have f_38 := (hs.o gx trivial rfl).2.trans f_38
  have f_43 := (hs.o gx trivial rfl).2.trans f_43
  have f_48 := (hs.o gx trivial rfl).2.trans f_48
  have f_51 := (hs.o gq_50 trivial rfl).1.trans f_51
  have f_64 := (hs.o gx trivial rfl).2.trans f_64
  have f_77 := (hs.o gq_76 trivial rfl).1.trans f_77
  have f_88 := (hs.o gx trivial rfl).2.trans f_88
  have f_36 : ∀ j, j < 14 → _ = P_wo j := fun j hj => (hs.a gq_32 rfl j).1.trans (f_36 j hj)
  have f_91 : _ ∧ _ := ⟨fun j => (hs.a gq_90 rfl j).1.trans (f_91.1 j), fun j => (hs.a gq_90 rfl j).2.trans (f_91.2 j)⟩
  have hM := hM.tr (hs.mono (by decide))
  have gx := gx.S hs
  have gq_2 := gq_2.S hs
  have gq_7 := gq_7.S hs
  have gq_22 := gq_22.S hs
  have gq_32 := gq_32.S hs
  have gq_40 := gq_40.S hs
  have gq_45 := gq_45.S hs
  have gq_50 := gq_50.S hs
  have gq_76 := gq_76.S hs
  have gq_90 := gq_90.S hs
  have f_93 : h_92.2.2 x 15 = (some q_90) := by rw [eh_92]; exact hx_pr_at _ _ _ _
  refine lv_aload_n hx hb dX9_init_103 rfl (lv_at hl 0 rfl) ?_
  refine lv_bipush (v := 100) hx hb dX9_init_104 (by decide) ?_
  refine hk_newa hx hb hts hW 48 td_48 (atype := .int) rfl kw_186 (tys := P_ty dA) (t0 := 0) rfl (fun _ => Iff.rfl) rfl (i := (100 : Int32)) (by decide) (Nat.le_of_ble_eq_true rfl) (Nat.le_of_ble_eq_true rfl) (Nat.le_of_ble_eq_true rfl) dX9_init_106 (fun q_95 H h_94 eh_94 hqq_95 hW hs gq_95 => ?_)
  have f_5 := (hs.o gx trivial rfl).2.trans f_5
  have f_9 := (hs.o gq_7 trivial rfl).1.trans f_9
  have f_10 := (hs.o gq_7 trivial rfl).1.trans f_10
  have f_11 := (hs.o gq_7 trivial rfl).1.trans f_11
  have f_12 := (hs.o gq_7 trivial rfl).1.trans f_12
  have f_13 := (hs.o gq_7 trivial rfl).1.trans f_13
  have f_20 := (hs.o gx trivial rfl).2.trans f_20
  have f_33 := (hs.o gq_22 trivial rfl).1.trans f_33
  have f_34 := (hs.o gq_22 trivial rfl).1.trans f_34
  have f_35 := (hs.o gq_22 trivial rfl).2.trans f_35
  have f_38 := (hs.o gx trivial rfl).2.trans f_38
  have f_43 := (hs.o gx trivial rfl).2.trans f_43
  have f_48 := (hs.o gx trivial rfl).2.trans f_48
  have f_51 := (hs.o gq_50 trivial rfl).1.trans f_51
  have f_64 := (hs.o gx trivial rfl).2.trans f_64
  have f_77 := (hs.o gq_76 trivial rfl).1.trans f_77
  have f_88 := (hs.o gx trivial rfl).2.trans f_88
  have f_36 : ∀ j, j < 14 → _ = P_wo j := fun j hj => (hs.a gq_32 rfl j).1.trans (f_36 j hj)
  have hM := hM.tr (hs.mono (by decide))
  have gx := gx.S hs
  have gq_2 := gq_2.S hs
  have gq_7 := gq_7.S hs
  have gq_22 := gq_22.S hs
  have gq_32 := gq_32.S hs
  have gq_40 := gq_40.S hs
  have gq_45 := gq_45.S hs
  have gq_50 := gq_50.S hs
  have gq_76 := gq_76.S hs
  have f_96 : (∀ j, h_94.2.1 q_95 j = 0) ∧ ∀ j, h_94.2.2 q_95 j = none := by rw [eh_94]; exact ⟨fun _ => hx_nw_i, fun _ => hx_nw_r⟩
  refine hk_putrF hx hb hts hC_9 hown hW gx td_9 16 (by decide) rfl kw_380 ⟨rfl, rfl, rfl⟩ rfl hin rfl (x := (some q_95)) rfl rfl rfl dX9_init_108 (fun H locs h_97 eh_97 hW hs => ?_)
  have f_5 := (hs.o gx trivial rfl).2.trans f_5
  have f_9 := (hs.o gq_7 trivial rfl).1.trans f_9
  have f_10 := (hs.o gq_7 trivial rfl).1.trans f_10
  have f_11 := (hs.o gq_7 trivial rfl).1.trans f_11
  have f_12 := (hs.o gq_7 trivial rfl).1.trans f_12
  have f_13 := (hs.o gq_7 trivial rfl).1.trans f_13
  have f_20 := (hs.o gx trivial rfl).2.trans f_20
  have f_33 := (hs.o gq_22 trivial rfl).1.trans f_33
  have f_34 := (hs.o gq_22 trivial rfl).1.trans f_34
  have f_35 := (hs.o gq_22 trivial rfl).2.trans f_35
  have f_38 := (hs.o gx trivial rfl).2.trans f_38
  have f_43 := (hs.o gx trivial rfl).2.trans f_43
  have f_48 := (hs.o gx trivial rfl).2.trans f_48
  have f_51 := (hs.o gq_50 trivial rfl).1.trans f_51
  have f_64 := (hs.o gx trivial rfl).2.trans f_64
  have f_77 := (hs.o gq_76 trivial rfl).1.trans f_77
  have f_88 := (hs.o gx trivial rfl).2.trans f_88
  have f_36 : ∀ j, j < 14 → _ = P_wo j := fun j hj => (hs.a gq_32 rfl j).1.trans (f_36 j hj)
  have f_96 : _ ∧ _ := ⟨fun j => (hs.a gq_95 rfl j).1.trans (f_96.1 j), fun j => (hs.a gq_95 rfl j).2.trans (f_96.2 j)⟩
  have hM := hM.tr (hs.mono (by decide))
  have gx := gx.S hs
  have gq_2 := gq_2.S hs
  have gq_7 := gq_7.S hs
  have gq_22 := gq_22.S hs
  have gq_32 := gq_32.S hs
  have gq_40 := gq_40.S hs
  have gq_45 := gq_45.S hs
  have gq_50 := gq_50.S hs
  have gq_76 := gq_76.S hs
  have gq_95 := gq_95.S hs
  have f_98 : h_97.2.2 x 16 = (some q_95) := by rw [eh_97]; exact hx_pr_at _ _ _ _
  refine lv_aload_n hx hb dX9_init_111 rfl (lv_at hl 0 rfl) ?_
  refine hk_new hx hb hts hC_5 hown hW 5 td_5 rfl (by decide) kw_252 kw_253 kw_100 (Nat.le_of_ble_eq_true rfl) (Nat.le_of_ble_eq_true rfl) dX9_init_112 (fun q_100 H h_99 eh_99 hqq_100 hW hs gq_100 => ?_)
  have f_5 := (hs.o gx trivial rfl).2.trans f_5
  have f_9 := (hs.o gq_7 trivial rfl).1.trans f_9
  have f_10 := (hs.o gq_7 trivial rfl).1.trans f_10
  have f_11 := (hs.o gq_7 trivial rfl).1.trans f_11
  have f_12 := (hs.o gq_7 trivial rfl).1.trans f_12
  have f_13 := (hs.o gq_7 trivial rfl).1.trans f_13
  have f_20 := (hs.o gx trivial rfl).2.trans f_20
  have f_33 := (hs.o gq_22 trivial rfl).1.trans f_33
  have f_34 := (hs.o gq_22 trivial rfl).1.trans f_34
  have f_35 := (hs.o gq_22 trivial rfl).2.trans f_35
  have f_38 := (hs.o gx trivial rfl).2.trans f_38
  have f_43 := (hs.o gx trivial rfl).2.trans f_43
  have f_48 := (hs.o gx trivial rfl).2.trans f_48
  have f_51 := (hs.o gq_50 trivial rfl).1.trans f_51
  have f_64 := (hs.o gx trivial rfl).2.trans f_64
  have f_77 := (hs.o gq_76 trivial rfl).1.trans f_77
  have f_88 := (hs.o gx trivial rfl).2.trans f_88
  have f_36 : ∀ j, j < 14 → _ = P_wo j := fun j hj => (hs.a gq_32 rfl j).1.trans (f_36 j hj)
  have hM := hM.tr (hs.mono (by decide))
  have gx := gx.S hs
  have gq_2 := gq_2.S hs
  have gq_7 := gq_7.S hs
  have gq_22 := gq_22.S hs
  have gq_32 := gq_32.S hs
  have gq_40 := gq_40.S hs
  have gq_45 := gq_45.S hs
  have gq_50 := gq_50.S hs
  have gq_76 := gq_76.S hs
  have f_101 : h_99.2.1 q_100 0 = 0 := by rw [eh_99]; exact hx_nw_i
  have f_102 : h_99.2.1 q_100 1 = 0 := by rw [eh_99]; exact hx_nw_i
  have f_110 : h_99.2.1 q_100 9 = 0 := by rw [eh_99]; exact hx_nw_i
  have f_111 : h_99.2.1 q_100 10 = 0 := by rw [eh_99]; exact hx_nw_i
  have f_112 : h_99.2.1 q_100 11 = 0 := by rw [eh_99]; exact hx_nw_i
  have f_113 : h_99.2.1 q_100 12 = 0 := by rw [eh_99]; exact hx_nw_i
  refine lv_dup hx hb dX9_init_115 rfl ?_
  refine hx_gov (hx_runIN (As := []) (rest := [.ref q_100, .ref x]) ⟨hx, hb, hml, hown, hts⟩ hW (c_X5_init l dC dI dA (((L_83 ++ [q_90]) ++ [q_95]) ++ [q_100]) h_99 H.size q_100 gq_100) ⟨va_cnB 0 hts (hx_gC kw_256) rfl rfl rfl (hZ.1 _ (List.mem_of_getElem? (i := 4) rfl)) (hts _ kw_100) (by decide +kernel) ⟨Nat.le_of_ble_eq_true rfl, Nat.le_of_ble_eq_true rfl⟩, rfl, hts _ kw_255⟩ rfl hl.1 rfl (Nat.le_of_ble_eq_true rfl) dX9_init_116 ⟨Nat.le_of_ble_eq_true rfl, Nat.le_of_ble_eq_true rfl⟩) hW (fun L_114 h_115 H locs p_117 hW => ?_)
  have hs : hx_S P_tb [(5, 2), (5, 3), (5, 4), (5, 5), (5, 6), (5, 7), (5, 8)] (((L_83 ++ [q_90]) ++ [q_95]) ++ [q_100]) h_99 L_114 h_115 := p_117
  have f_5 := (hs.o gx trivial rfl).2.trans f_5
  have f_9 := (hs.o gq_7 trivial rfl).1.trans f_9
  have f_10 := (hs.o gq_7 trivial rfl).1.trans f_10
  have f_11 := (hs.o gq_7 trivial rfl).1.trans f_11
  have f_12 := (hs.o gq_7 trivial rfl).1.trans f_12
  have f_13 := (hs.o gq_7 trivial rfl).1.trans f_13
  have f_20 := (hs.o gx trivial rfl).2.trans f_20
  have f_33 := (hs.o gq_22 trivial rfl).1.trans f_33
  have f_34 := (hs.o gq_22 trivial rfl).1.trans f_34
  have f_35 := (hs.o gq_22 trivial rfl).2.trans f_35
  have f_38 := (hs.o gx trivial rfl).2.trans f_38
  have f_43 := (hs.o gx trivial rfl).2.trans f_43
  have f_48 := (hs.o gx trivial rfl).2.trans f_48
  have f_51 := (hs.o gq_50 trivial rfl).1.trans f_51
  have f_64 := (hs.o gx trivial rfl).2.trans f_64
  have f_77 := (hs.o gq_76 trivial rfl).1.trans f_77
  have f_88 := (hs.o gx trivial rfl).2.trans f_88
  have f_101 := (hs.o gq_100 trivial rfl).1.trans f_101
  have f_102 := (hs.o gq_100 trivial rfl).1.trans f_102
  have f_110 := (hs.o gq_100 trivial rfl).1.trans f_110
  have f_111 := (hs.o gq_100 trivial rfl).1.trans f_111
  have f_112 := (hs.o gq_100 trivial rfl).1.trans f_112
  have f_113 := (hs.o gq_100 trivial rfl).1.trans f_113
  have f_36 : ∀ j, j < 14 → _ = P_wo j := fun j hj => (hs.a gq_32 rfl j).1.trans (f_36 j hj)
  have hM := hM.tr (hs.mono (by decide))
  have gx := gx.S hs
  have gq_2 := gq_2.S hs
  have gq_7 := gq_7.S hs
  have gq_22 := gq_22.S hs
  have gq_32 := gq_32.S hs
  have gq_40 := gq_40.S hs
  have gq_45 := gq_45.S hs
  have gq_50 := gq_50.S hs
  have gq_76 := gq_76.S hs
  have gq_100 := gq_100.S hs
  refine hk_putrF hx hb hts hC_9 hown hW gx td_9 17 (by decide) rfl kw_381 ⟨rfl, rfl, rfl⟩ rfl hin rfl (x := (some q_100)) rfl rfl rfl dX9_init_119 (fun H locs h_118 eh_118 hW hs => ?_)
  have f_5 := (hs.o gx trivial rfl).2.trans f_5
  have f_9 := (hs.o gq_7 trivial rfl).1.trans f_9
  have f_10 := (hs.o gq_7 trivial rfl).1.trans f_10
  have f_11 := (hs.o gq_7 trivial rfl).1.trans f_11
  have f_12 := (hs.o gq_7 trivial rfl).1.trans f_12
  have f_13 := (hs.o gq_7 trivial rfl).1.trans f_13
  have f_20 := (hs.o gx trivial rfl).2.trans f_20
  have f_33 := (hs.o gq_22 trivial rfl).1.trans f_33
  have f_34 := (hs.o gq_22 trivial rfl).1.trans f_34
  have f_35 := (hs.o gq_22 trivial rfl).2.trans f_35
  have f_38 := (hs.o gx trivial rfl).2.trans f_38
  have f_43 := (hs.o gx trivial rfl).2.trans f_43
  have f_48 := (hs.o gx trivial rfl).2.trans f_48
  have f_51 := (hs.o gq_50 trivial rfl).1.trans f_51
  have f_64 := (hs.o gx trivial rfl).2.trans f_64
  have f_77 := (hs.o gq_76 trivial rfl).1.trans f_77
  have f_88 := (hs.o gx trivial rfl).2.trans f_88
  have f_101 := (hs.o gq_100 trivial rfl).1.trans f_101
  have f_102 := (hs.o gq_100 trivial rfl).1.trans f_102
  have f_110 := (hs.o gq_100 trivial rfl).1.trans f_110
  have f_111 := (hs.o gq_100 trivial rfl).1.trans f_111
  have f_112 := (hs.o gq_100 trivial rfl).1.trans f_112
  have f_113 := (hs.o gq_100 trivial rfl).1.trans f_113
  have f_36 : ∀ j, j < 14 → _ = P_wo j := fun j hj => (hs.a gq_32 rfl j).1.trans (f_36 j hj)
  have hM := hM.tr (hs.mono (by decide))
  have gx := gx.S hs
  have gq_2 := gq_2.S hs
  have gq_7 := gq_7.S hs
  have gq_22 := gq_22.S hs
  have gq_32 := gq_32.S hs
  have gq_40 := gq_40.S hs
  have gq_45 := gq_45.S hs
  have gq_50 := gq_50.S hs
  have gq_76 := gq_76.S hs
  have gq_100 := gq_100.S hs
  have f_119 : h_118.2.2 x 17 = (some q_100) := by rw [eh_118]; exact hx_pr_at _ _ _ _
  refine lv_aload_n hx hb dX9_init_122 rfl (lv_at hl 0 rfl) ?_
  refine hk_new hx hb hts hC_7 hown hW 7 td_7 rfl (by decide) kw_303 kw_304 kw_101 (Nat.le_of_ble_eq_true rfl) (Nat.le_of_ble_eq_true rfl) dX9_init_123 (fun q_121 H h_120 eh_120 hqq_121 hW hs gq_121 => ?_)
  have f_5 := (hs.o gx trivial rfl).2.trans f_5
  have f_9 := (hs.o gq_7 trivial rfl).1.trans f_9
  have f_10 := (hs.o gq_7 trivial rfl).1.trans f_10
  have f_11 := (hs.o gq_7 trivial rfl).1.trans f_11
  have f_12 := (hs.o gq_7 trivial rfl).1.trans f_12
  have f_13 := (hs.o gq_7 trivial rfl).1.trans f_13
  have f_20 := (hs.o gx trivial rfl).2.trans f_20
  have f_33 := (hs.o gq_22 trivial rfl).1.trans f_33
  have f_34 := (hs.o gq_22 trivial rfl).1.trans f_34
  have f_35 := (hs.o gq_22 trivial rfl).2.trans f_35
  have f_38 := (hs.o gx trivial rfl).2.trans f_38
  have f_43 := (hs.o gx trivial rfl).2.trans f_43
  have f_48 := (hs.o gx trivial rfl).2.trans f_48
  have f_51 := (hs.o gq_50 trivial rfl).1.trans f_51
  have f_64 := (hs.o gx trivial rfl).2.trans f_64
  have f_77 := (hs.o gq_76 trivial rfl).1.trans f_77
  have f_88 := (hs.o gx trivial rfl).2.trans f_88
  have f_101 := (hs.o gq_100 trivial rfl).1.trans f_101
  have f_102 := (hs.o gq_100 trivial rfl).1.trans f_102
  have f_110 := (hs.o gq_100 trivial rfl).1.trans f_110
  have f_111 := (hs.o gq_100 trivial rfl).1.trans f_111
  have f_112 := (hs.o gq_100 trivial rfl).1.trans f_112
  have f_113 := (hs.o gq_100 trivial rfl).1.trans f_113
  have f_119 := (hs.o gx trivial rfl).2.trans f_119
  have f_36 : ∀ j, j < 14 → _ = P_wo j := fun j hj => (hs.a gq_32 rfl j).1.trans (f_36 j hj)
  have hM := hM.tr (hs.mono (by decide))
  have gx := gx.S hs
  have gq_2 := gq_2.S hs
  have gq_7 := gq_7.S hs
  have gq_22 := gq_22.S hs
  have gq_32 := gq_32.S hs
  have gq_40 := gq_40.S hs
  have gq_45 := gq_45.S hs
  have gq_50 := gq_50.S hs
  have gq_76 := gq_76.S hs
  have gq_100 := gq_100.S hs
  have f_122 : h_120.2.1 q_121 0 = 0 := by rw [eh_120]; exact hx_nw_i
  have f_123 : h_120.2.1 q_121 1 = 0 := by rw [eh_120]; exact hx_nw_i
  have f_124 : h_120.2.1 q_121 2 = 0 := by rw [eh_120]; exact hx_nw_i
  have f_126 : h_120.2.1 q_121 4 = 0 := by rw [eh_120]; exact hx_nw_i
  refine lv_dup hx hb dX9_init_126 rfl ?_
  refine hx_gov (hx_runIN (As := []) (rest := [.ref q_121, .ref x]) ⟨hx, hb, hml, hown, hts⟩ hW (c_X7_init l dC dI dA (L_114 ++ [q_121]) h_120 H.size q_121 gq_121) ⟨va_cnB 0 hts (hx_gC kw_307) rfl rfl rfl (hZ.1 _ (List.mem_of_getElem? (i := 5) rfl)) (hts _ kw_101) (by decide +kernel) ⟨Nat.le_of_ble_eq_true rfl, Nat.le_of_ble_eq_true rfl⟩, rfl, hts _ kw_306⟩ rfl hl.1 rfl (Nat.le_of_ble_eq_true rfl) dX9_init_127 ⟨Nat.le_of_ble_eq_true rfl, Nat.le_of_ble_eq_true rfl⟩) hW (fun L_130 h_131 H locs p_133 hW => ?_)
  obtain ⟨hs, f_134, ⟨q_135, f_136, gq_135⟩⟩ := p_133
  have hs : hx_S P_tb [(7, 0), (7, 3), (7, 5), (7, 6), (7, 7)] (L_114 ++ [q_121]) h_120 L_130 h_131 := hs
  have f_5 := (hs.o gx trivial rfl).2.trans f_5
  have f_9 := (hs.o gq_7 trivial rfl).1.trans f_9
  have f_10 := (hs.o gq_7 trivial rfl).1.trans f_10
  have f_11 := (hs.o gq_7 trivial rfl).1.trans f_11
  have f_12 := (hs.o gq_7 trivial rfl).1.trans f_12
  have f_13 := (hs.o gq_7 trivial rfl).1.trans f_13
  have f_20 := (hs.o gx trivial rfl).2.trans f_20
  have f_33 := (hs.o gq_22 trivial rfl).1.trans f_33
  have f_34 := (hs.o gq_22 trivial rfl).1.trans f_34
  have f_35 := (hs.o gq_22 trivial rfl).2.trans f_35
  have f_38 := (hs.o gx trivial rfl).2.trans f_38
  have f_43 := (hs.o gx trivial rfl).2.trans f_43
  have f_48 := (hs.o gx trivial rfl).2.trans f_48
  have f_51 := (hs.o gq_50 trivial rfl).1.trans f_51
  have f_64 := (hs.o gx trivial rfl).2.trans f_64
  have f_77 := (hs.o gq_76 trivial rfl).1.trans f_77
  have f_88 := (hs.o gx trivial rfl).2.trans f_88
  have f_101 := (hs.o gq_100 trivial rfl).1.trans f_101
  have f_102 := (hs.o gq_100 trivial rfl).1.trans f_102
  have f_110 := (hs.o gq_100 trivial rfl).1.trans f_110
  have f_111 := (hs.o gq_100 trivial rfl).1.trans f_111
  have f_112 := (hs.o gq_100 trivial rfl).1.trans f_112
  have f_113 := (hs.o gq_100 trivial rfl).1.trans f_113
  have f_119 := (hs.o gx trivial rfl).2.trans f_119
  have f_123 := (hs.o gq_121 trivial rfl).1.trans f_123
  have f_124 := (hs.o gq_121 trivial rfl).1.trans f_124
  have f_126 := (hs.o gq_121 trivial rfl).1.trans f_126
  have f_36 : ∀ j, j < 14 → _ = P_wo j := fun j hj => (hs.a gq_32 rfl j).1.trans (f_36 j hj)
  have hM := hM.tr (hs.mono (by decide))
  have gx := gx.S hs
  have gq_2 := gq_2.S hs
  have gq_7 := gq_7.S hs
  have gq_22 := gq_22.S hs
  have gq_32 := gq_32.S hs
  have gq_40 := gq_40.S hs
  have gq_45 := gq_45.S hs
  have gq_50 := gq_50.S hs
  have gq_76 := gq_76.S hs
  have gq_100 := gq_100.S hs
  have gq_121 := gq_121.S hs
  have f_134 : h_131.2.1 q_121 0 = (-1 : Int32) := f_134
  have f_136 : h_131.2.2 q_121 5 = some q_135 := f_136
  have gq_135 : hx_g L_130 h_131 q_135 36 := gq_135
  refine hk_putrF hx hb hts hC_9 hown hW gx td_9 18 (by decide) rfl kw_382 ⟨rfl, rfl, rfl⟩ rfl hin rfl (x := (some q_121)) rfl rfl rfl dX9_init_130 (fun H locs h_137 eh_137 hW hs => ?_)
  have f_5 := (hs.o gx trivial rfl).2.trans f_5
  have f_9 := (hs.o gq_7 trivial rfl).1.trans f_9
  have f_10 := (hs.o gq_7 trivial rfl).1.trans f_10
  have f_11 := (hs.o gq_7 trivial rfl).1.trans f_11
  have f_12 := (hs.o gq_7 trivial rfl).1.trans f_12
  have f_13 := (hs.o gq_7 trivial rfl).1.trans f_13
  have f_20 := (hs.o gx trivial rfl).2.trans f_20
  have f_33 := (hs.o gq_22 trivial rfl).1.trans f_33
  have f_34 := (hs.o gq_22 trivial rfl).1.trans f_34
  have f_35 := (hs.o gq_22 trivial rfl).2.trans f_35
  have f_38 := (hs.o gx trivial rfl).2.trans f_38
  have f_43 := (hs.o gx trivial rfl).2.trans f_43
  have f_48 := (hs.o gx trivial rfl).2.trans f_48
  have f_51 := (hs.o gq_50 trivial rfl).1.trans f_51
  have f_64 := (hs.o gx trivial rfl).2.trans f_64
  have f_77 := (hs.o gq_76 trivial rfl).1.trans f_77
  have f_88 := (hs.o gx trivial rfl).2.trans f_88
  have f_101 := (hs.o gq_100 trivial rfl).1.trans f_101
  have f_102 := (hs.o gq_100 trivial rfl).1.trans f_102
  have f_110 := (hs.o gq_100 trivial rfl).1.trans f_110
  have f_111 := (hs.o gq_100 trivial rfl).1.trans f_111
  have f_112 := (hs.o gq_100 trivial rfl).1.trans f_112
  have f_113 := (hs.o gq_100 trivial rfl).1.trans f_113
  have f_119 := (hs.o gx trivial rfl).2.trans f_119
  have f_123 := (hs.o gq_121 trivial rfl).1.trans f_123
  have f_124 := (hs.o gq_121 trivial rfl).1.trans f_124
  have f_126 := (hs.o gq_121 trivial rfl).1.trans f_126
  have f_134 := (hs.o gq_121 trivial rfl).1.trans f_134
  have f_136 := (hs.o gq_121 trivial rfl).2.trans f_136
  have f_36 : ∀ j, j < 14 → _ = P_wo j := fun j hj => (hs.a gq_32 rfl j).1.trans (f_36 j hj)
  have hM := hM.tr (hs.mono (by decide))
  have gx := gx.S hs
  have gq_2 := gq_2.S hs
  have gq_7 := gq_7.S hs
  have gq_22 := gq_22.S hs
  have gq_32 := gq_32.S hs
  have gq_40 := gq_40.S hs
  have gq_45 := gq_45.S hs
  have gq_50 := gq_50.S hs
  have gq_76 := gq_76.S hs
  have gq_100 := gq_100.S hs
  have gq_121 := gq_121.S hs
  have gq_135 := gq_135.S hs
  have f_138 : h_137.2.2 x 18 = (some q_121) := by rw [eh_137]; exact hx_pr_at _ _ _ _
  refine lv_aload_n hx hb dX9_init_133 rfl (lv_at hl 0 rfl) ?_
  refine hk_new hx hb hts hC_8 hown hW 8 td_8 rfl (by decide) kw_338 kw_339 kw_102 (Nat.le_of_ble_eq_true rfl) (Nat.le_of_ble_eq_true rfl) dX9_init_134 (fun q_140 H h_139 eh_139 hqq_140 hW hs gq_140 => ?_)
  have f_5 := (hs.o gx trivial rfl).2.trans f_5
  have f_9 := (hs.o gq_7 trivial rfl).1.trans f_9
  have f_10 := (hs.o gq_7 trivial rfl).1.trans f_10
  have f_11 := (hs.o gq_7 trivial rfl).1.trans f_11
  have f_12 := (hs.o gq_7 trivial rfl).1.trans f_12
  have f_13 := (hs.o gq_7 trivial rfl).1.trans f_13
  have f_20 := (hs.o gx trivial rfl).2.trans f_20
  have f_33 := (hs.o gq_22 trivial rfl).1.trans f_33
  have f_34 := (hs.o gq_22 trivial rfl).1.trans f_34
  have f_35 := (hs.o gq_22 trivial rfl).2.trans f_35
  have f_38 := (hs.o gx trivial rfl).2.trans f_38
  have f_43 := (hs.o gx trivial rfl).2.trans f_43
  have f_48 := (hs.o gx trivial rfl).2.trans f_48
  have f_51 := (hs.o gq_50 trivial rfl).1.trans f_51
  have f_64 := (hs.o gx trivial rfl).2.trans f_64
  have f_77 := (hs.o gq_76 trivial rfl).1.trans f_77
  have f_88 := (hs.o gx trivial rfl).2.trans f_88
  have f_101 := (hs.o gq_100 trivial rfl).1.trans f_101
  have f_102 := (hs.o gq_100 trivial rfl).1.trans f_102
  have f_110 := (hs.o gq_100 trivial rfl).1.trans f_110
  have f_111 := (hs.o gq_100 trivial rfl).1.trans f_111
  have f_112 := (hs.o gq_100 trivial rfl).1.trans f_112
  have f_113 := (hs.o gq_100 trivial rfl).1.trans f_113
  have f_119 := (hs.o gx trivial rfl).2.trans f_119
  have f_123 := (hs.o gq_121 trivial rfl).1.trans f_123
  have f_124 := (hs.o gq_121 trivial rfl).1.trans f_124
  have f_126 := (hs.o gq_121 trivial rfl).1.trans f_126
  have f_134 := (hs.o gq_121 trivial rfl).1.trans f_134
  have f_136 := (hs.o gq_121 trivial rfl).2.trans f_136
  have f_138 := (hs.o gx trivial rfl).2.trans f_138
  have f_36 : ∀ j, j < 14 → _ = P_wo j := fun j hj => (hs.a gq_32 rfl j).1.trans (f_36 j hj)
  have hM := hM.tr (hs.mono (by decide))
  have gx := gx.S hs
  have gq_2 := gq_2.S hs
  have gq_7 := gq_7.S hs
  have gq_22 := gq_22.S hs
  have gq_32 := gq_32.S hs
  have gq_40 := gq_40.S hs
  have gq_45 := gq_45.S hs
  have gq_50 := gq_50.S hs
  have gq_76 := gq_76.S hs
  have gq_100 := gq_100.S hs
  have gq_121 := gq_121.S hs
  have gq_135 := gq_135.S hs
  have f_141 : h_139.2.1 q_140 0 = 0 := by rw [eh_139]; exact hx_nw_i
  have f_142 : h_139.2.1 q_140 1 = 0 := by rw [eh_139]; exact hx_nw_i
  refine lv_dup hx hb dX9_init_137 rfl ?_
  refine hx_gov (hx_runINX (As := []) (rest := [.ref q_140, .ref x]) ⟨hx, hb, hml, hown, hts⟩ hW (c_X8_init l dC dI dA (L_130 ++ [q_140]) h_139 H.size b0 q_140 gq_140) hZ ⟨va_cnB 0 hts (hx_gC kw_342) rfl rfl rfl (hZ.1 _ (List.mem_of_getElem? (i := 6) rfl)) (hts _ kw_102) (by decide +kernel) ⟨Nat.le_of_ble_eq_true rfl, Nat.le_of_ble_eq_true rfl⟩, rfl, hts _ kw_341⟩ rfl hl.1 rfl (Nat.le_of_ble_eq_true rfl) dX9_init_138 ⟨Nat.le_of_ble_eq_true rfl, Nat.le_of_ble_eq_true rfl⟩) hW (fun L_146 h_147 H locs p_149 hW => ?_)
  have hs : hx_S P_tb [(8, 2), (8, 3), (8, 4)] (L_130 ++ [q_140]) h_139 L_146 h_147 := p_149
  have f_5 := (hs.o gx trivial rfl).2.trans f_5
  have f_9 := (hs.o gq_7 trivial rfl).1.trans f_9
  have f_10 := (hs.o gq_7 trivial rfl).1.trans f_10
  have f_11 := (hs.o gq_7 trivial rfl).1.trans f_11
  have f_12 := (hs.o gq_7 trivial rfl).1.trans f_12
  have f_13 := (hs.o gq_7 trivial rfl).1.trans f_13
  have f_20 := (hs.o gx trivial rfl).2.trans f_20
  have f_33 := (hs.o gq_22 trivial rfl).1.trans f_33
  have f_34 := (hs.o gq_22 trivial rfl).1.trans f_34
  have f_35 := (hs.o gq_22 trivial rfl).2.trans f_35
  have f_38 := (hs.o gx trivial rfl).2.trans f_38
  have f_43 := (hs.o gx trivial rfl).2.trans f_43
  have f_48 := (hs.o gx trivial rfl).2.trans f_48
  have f_51 := (hs.o gq_50 trivial rfl).1.trans f_51
  have f_64 := (hs.o gx trivial rfl).2.trans f_64
  have f_77 := (hs.o gq_76 trivial rfl).1.trans f_77
  have f_88 := (hs.o gx trivial rfl).2.trans f_88
  have f_101 := (hs.o gq_100 trivial rfl).1.trans f_101
  have f_102 := (hs.o gq_100 trivial rfl).1.trans f_102
  have f_110 := (hs.o gq_100 trivial rfl).1.trans f_110
  have f_111 := (hs.o gq_100 trivial rfl).1.trans f_111
  have f_112 := (hs.o gq_100 trivial rfl).1.trans f_112
  have f_113 := (hs.o gq_100 trivial rfl).1.trans f_113
  have f_119 := (hs.o gx trivial rfl).2.trans f_119
  have f_123 := (hs.o gq_121 trivial rfl).1.trans f_123
  have f_124 := (hs.o gq_121 trivial rfl).1.trans f_124
  have f_126 := (hs.o gq_121 trivial rfl).1.trans f_126
  have f_134 := (hs.o gq_121 trivial rfl).1.trans f_134
  have f_136 := (hs.o gq_121 trivial rfl).2.trans f_136
  have f_138 := (hs.o gx trivial rfl).2.trans f_138
  have f_141 := (hs.o gq_140 trivial rfl).1.trans f_141
  have f_142 := (hs.o gq_140 trivial rfl).1.trans f_142
  have f_36 : ∀ j, j < 14 → _ = P_wo j := fun j hj => (hs.a gq_32 rfl j).1.trans (f_36 j hj)
  have hM := hM.tr (hs.mono (by decide))
  have gx := gx.S hs
  have gq_2 := gq_2.S hs
  have gq_7 := gq_7.S hs
  have gq_22 := gq_22.S hs
  have gq_32 := gq_32.S hs
  have gq_40 := gq_40.S hs
  have gq_45 := gq_45.S hs
  have gq_50 := gq_50.S hs
  have gq_76 := gq_76.S hs
  have gq_100 := gq_100.S hs
  have gq_121 := gq_121.S hs
  have gq_135 := gq_135.S hs
  have gq_140 := gq_140.S hs
  refine hk_putrF hx hb hts hC_9 hown hW gx td_9 19 (by decide) rfl kw_383 ⟨rfl, rfl, rfl⟩ rfl hin rfl (x := (some q_140)) rfl rfl rfl dX9_init_141 (fun H locs h_150 eh_150 hW hs => ?_)
  have f_5 := (hs.o gx trivial rfl).2.trans f_5
  have f_9 := (hs.o gq_7 trivial rfl).1.trans f_9
  have f_10 := (hs.o gq_7 trivial rfl).1.trans f_10
  have f_11 := (hs.o gq_7 trivial rfl).1.trans f_11
  have f_12 := (hs.o gq_7 trivial rfl).1.trans f_12
  have f_13 := (hs.o gq_7 trivial rfl).1.trans f_13
  have f_20 := (hs.o gx trivial rfl).2.trans f_20
  have f_33 := (hs.o gq_22 trivial rfl).1.trans f_33
  have f_34 := (hs.o gq_22 trivial rfl).1.trans f_34
  have f_35 := (hs.o gq_22 trivial rfl).2.trans f_35
  have f_38 := (hs.o gx trivial rfl).2.trans f_38
  have f_43 := (hs.o gx trivial rfl).2.trans f_43
  have f_48 := (hs.o gx trivial rfl).2.trans f_48
  have f_51 := (hs.o gq_50 trivial rfl).1.trans f_51
  have f_64 := (hs.o gx trivial rfl).2.trans f_64
  have f_77 := (hs.o gq_76 trivial rfl).1.trans f_77
  have f_88 := (hs.o gx trivial rfl).2.trans f_88
  have f_101 := (hs.o gq_100 trivial rfl).1.trans f_101
  have f_102 := (hs.o gq_100 trivial rfl).1.trans f_102
  have f_110 := (hs.o gq_100 trivial rfl).1.trans f_110
  have f_111 := (hs.o gq_100 trivial rfl).1.trans f_111
  have f_112 := (hs.o gq_100 trivial rfl).1.trans f_112
  have f_113 := (hs.o gq_100 trivial rfl).1.trans f_113
  have f_119 := (hs.o gx trivial rfl).2.trans f_119
  have f_123 := (hs.o gq_121 trivial rfl).1.trans f_123
  have f_124 := (hs.o gq_121 trivial rfl).1.trans f_124
  have f_126 := (hs.o gq_121 trivial rfl).1.trans f_126
  have f_134 := (hs.o gq_121 trivial rfl).1.trans f_134
  have f_136 := (hs.o gq_121 trivial rfl).2.trans f_136
  have f_138 := (hs.o gx trivial rfl).2.trans f_138
  have f_141 := (hs.o gq_140 trivial rfl).1.trans f_141
  have f_142 := (hs.o gq_140 trivial rfl).1.trans f_142
  have f_36 : ∀ j, j < 14 → _ = P_wo j := fun j hj => (hs.a gq_32 rfl j).1.trans (f_36 j hj)
  have hM := hM.tr (hs.mono (by decide))
  have gx := gx.S hs
  have gq_2 := gq_2.S hs
  have gq_7 := gq_7.S hs
  have gq_22 := gq_22.S hs
  have gq_32 := gq_32.S hs
  have gq_40 := gq_40.S hs
  have gq_45 := gq_45.S hs
  have gq_50 := gq_50.S hs
  have gq_76 := gq_76.S hs
  have gq_100 := gq_100.S hs
  have gq_121 := gq_121.S hs
  have gq_135 := gq_135.S hs
  have gq_140 := gq_140.S hs
  have f_151 : h_150.2.2 x 19 = (some q_140) := by rw [eh_150]; exact hx_pr_at _ _ _ _
  refine W.widen (k := 43) (n := 10614) (Nat.le_of_ble_eq_true rfl) (Nat.le_of_ble_eq_true rfl) ?_
  exact hx_retv hx hb hr hlk hW ⟨hM, ⟨q_2, f_5, gq_2⟩, ⟨q_7, f_20, gq_7⟩, ⟨q_22, f_38, gq_22, f_33, ⟨q_32, f_35, gq_32, f_36⟩⟩, ⟨q_40, f_43, gq_40⟩, ⟨q_45, f_48, gq_45⟩, ⟨q_50, f_64, gq_50, f_51⟩, ⟨q_76, f_88, gq_76, f_77⟩, ⟨q_100, f_119, gq_100, f_102⟩, ⟨q_121, f_138, gq_121, f_134, ⟨q_135, f_136, gq_135⟩⟩, ⟨q_140, f_151, gq_140, f_141, f_142⟩⟩ dX9_init_144

