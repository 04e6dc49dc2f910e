theorem dX7_clear_0 : decode cX7_clear 0 = .ok (.aload_n 0, 1) := by decide +kernel
theorem dX7_clear_1 : decode cX7_clear 1 = .ok (.iload_n 1, 1) := by decide +kernel
theorem dX7_clear_2 : decode cX7_clear 2 = .ok (.putfield 28, 3) := by decide +kernel
theorem dX7_clear_5 : decode cX7_clear 5 = .ok (.aload_n 0, 1) := by decide +kernel
theorem dX7_clear_6 : decode cX7_clear 6 = .ok (.iconst 0, 1) := by decide +kernel
theorem dX7_clear_7 : decode cX7_clear 7 = .ok (.putfield 9, 3) := by decide +kernel
theorem dX7_clear_10 : decode cX7_clear 10 = .ok (.iconst 0, 1) := by decide +kernel
theorem dX7_clear_11 : decode cX7_clear 11 = .ok (.istore_n 2, 1) := by decide +kernel
theorem dX7_clear_12 : decode cX7_clear 12 = .ok (.iload_n 2, 1) := by decide +kernel
theorem dX7_clear_13 : decode cX7_clear 13 = .ok (.aload_n 0, 1) := by decide +kernel
theorem dX7_clear_14 : decode cX7_clear 14 = .ok (.getfield 19, 3) := by decide +kernel
theorem dX7_clear_17 : decode cX7_clear 17 = .ok (.arraylength, 1) := by decide +kernel
theorem dX7_clear_18 : decode cX7_clear 18 = .ok (.if_icmp .ge 16, 3) := by decide +kernel
theorem dX7_clear_21 : decode cX7_clear 21 = .ok (.aload_n 0, 1) := by decide +kernel
theorem dX7_clear_22 : decode cX7_clear 22 = .ok (.getfield 19, 3) := by decide +kernel
theorem dX7_clear_25 : decode cX7_clear 25 = .ok (.iload_n 2, 1) := by decide +kernel
theorem dX7_clear_26 : decode cX7_clear 26 = .ok (.iconst 0, 1) := by decide +kernel
theorem dX7_clear_27 : decode cX7_clear 27 = .ok (.iastore, 1) := by decide +kernel
theorem dX7_clear_28 : decode cX7_clear 28 = .ok (.iinc 2 1, 3) := by decide +kernel
theorem dX7_clear_31 : decode cX7_clear 31 = .ok (.goto (-19), 3) := by decide +kernel
theorem dX7_clear_34 : decode cX7_clear 34 = .ok (.return_, 1) := by decide +kernel
set_option maxHeartbeats 4000000 in
set_option maxRecDepth 100000 in
theorem c_X7_clear (l : Launch) (dC : Nat → ClassId) (dI : Nat → Nat → Nat) (dA : Nat → ClassId) (L : List Nat) (h : hx_h) (sz : Nat) (x : Nat) (gx : hx_g L h x 7) (qo : Nat) (gqo : hx_g L h qo 36) (f_x_5 : h.2.2 x 5 = some qo) : Met l yX7_clear (Cond.code yX7_clear cX7_clear 3 none :: hx_all) ({ frames := 0, cells := 0, slots := 0, locals := 0 }) (va_Pc [.ref x, .int (0 : Int32)] (hx_B P_tb (P_ty dA) (dC, dI) vwCl L h sz)) (va_Qv (fun (u : List Nat × hx_h) => hx_S P_tb [(7, 0), (7, 4), (36, 0)] L h u.1 u.2 ∧ u.2.2.1 x 4 = (0 : Int32)) (hx_E P_tb (P_ty dA) (dC, dI) vwCl (hx_A L sz)) (hx_A L sz)) 0 0 (hx_A L sz) := by
  refine hx_met (lv := [(0, .ref x), (1, .int (0 : Int32))]) (by decide +kernel) rfl (Nat.le_of_ble_eq_true rfl) rfl ?_
  intro p e s m below meth c hx hb hml hr hlk hts0 hown hin hsz hW ls hl
  have hts : ∀ w ∈ hx_all, w.before _ s = true := fun w hw => hts0 w (List.mem_cons_of_mem _ hw)
  have hown : s.vm.findClass "SmallCourt$Rings" = some m.cls := hown
  have hM : hx_S P_tb [(7, 0), (7, 4), (36, 0)] L h L h := hx_S.rf
  refine lv_aload_n hx hb dX7_clear_0 rfl (lv_at hl 0 rfl) ?_
  refine lv_iload_n hx hb dX7_clear_1 rfl (lv_at hl 1 rfl) ?_
  refine hk_puti hx hb hts hC_7 hown hW gx td_7 4 (by decide) rfl kw_317 ⟨rfl, rfl, rfl⟩ rfl (x := (0 : Int32)) rfl rfl rfl dX7_clear_2 (fun H locs h_1 eh_1 hW hs => ?_)
  have f_x_5 := (hs.o gx trivial rfl).2.trans f_x_5
  have hM := hM.tr (hs.mono (by decide))
  have gx := gx.S hs
  have gqo := gqo.S hs
  have f_2 : h_1.2.1 x 4 = (0 : Int32) := by rw [eh_1]; exact hx_pi_at _ _ _ _
  refine lv_aload_n hx hb dX7_clear_5 rfl (lv_at hl 0 rfl) ?_
  refine lv_iconst (v := 0) hx hb dX7_clear_6 (by decide) ?_
  refine hk_puti hx hb hts hC_7 hown hW gx td_7 0 (by decide) rfl kw_309 ⟨rfl, rfl, rfl⟩ rfl (x := (0 : Int32)) rfl rfl rfl dX7_clear_7 (fun H locs h_3 eh_3 hW hs => ?_)
  have f_x_5 := (hs.o gx trivial rfl).2.trans f_x_5
  have f_2 := (hs.o gx trivial rfl).1.trans f_2
  have hM := hM.tr (hs.mono (by decide))
  have gx := gx.S hs
  have gqo := gqo.S hs
  have f_4 : h_3.2.1 x 0 = (0 : Int32) := by rw [eh_3]; exact hx_pi_at _ _ _ _
  refine lv_iconst (v := 0) hx hb dX7_clear_10 (by decide) ?_
  refine lv_istore_n (lv' := [(2, .int (0 : Int32)), (0, .ref x), (1, .int (0 : Int32))]) hx hb dX7_clear_11 rfl hl (by decide) rfl (fun ls hl => ?_)
  have loop : ∀ (n : Nat) (il : Int32) (H : Heap) (locs : List Loc) (hl1 : hx_h) (ls : Array Slot), 0 ≤ il.toInt → il.toInt ≤ 1600 → 1600 < il.toInt + n → hx_W P_tb (P_ty dA) (dC, dI) vwCl (hx_A L sz) s.heap L hl1 s H locs → hx_S P_tb [(7, 0), (7, 4), (36, 0)] L h L hl1 → hl1.2.2 x 5 = some qo → hl1.2.1 x 4 = (0 : Int32) → hl1.2.1 x 0 = (0 : Int32) → hx_g L hl1 x 7 → hx_g L hl1 qo 36 → lv_has ls 3 [(2, .int il), (0, .ref x), (1, .int (0 : Int32))] → W p l e ({ frames := 0, cells := 0, slots := 0, locals := 0 }) s m ([.ref x, .int (0 : Int32)] : List Value).toArray below meth c H locs 0 0 (MQ below (va_Qv (fun (u : List Nat × hx_h) => hx_S P_tb [(7, 0), (7, 4), (36, 0)] L h u.1 u.2 ∧ u.2.2.1 x 4 = (0 : Int32)) (hx_E P_tb (P_ty dA) (dC, dI) vwCl (hx_A L sz)) (hx_A L sz)) ([.ref x, .int (0 : Int32)] : List Value).toArray s 0 0 (hx_A L sz)) (F0 m 12 ls []) := by
    intro n
    induction n with
    | zero => intro il H locs hl1 ls hi1 hi2 hi3; exfalso; omega
    | succ n ih =>
      intro il H locs hl1 ls hi1 hi2 hi3 hW hM f_x_5 f_2 f_4 gx gqo hl
      refine lv_iload_n hx hb dX7_clear_12 rfl (lv_at hl 0 rfl) ?_
      refine lv_aload_n hx hb dX7_clear_13 rfl (lv_at hl 1 rfl) ?_
      refine hk_getr hx hb hts hC_7 hown hW gx td_7 5 (by decide) rfl kw_318 ⟨rfl, rfl, rfl⟩ f_x_5 dX7_clear_14 ?_
      refine hx_alen hx hb hW gqo td_36 rfl dX7_clear_17 ?_
      refine lv_topi (fun x_5 ex_5 => ?_)
      obtain rfl : x_5 = (1600 : Int32) := ex_5.trans (by decide)
      refine hb_icmp_ge (zx := il.toInt) (zy := 1600) (tgt := 34) hx hb rfl (by decide) dX7_clear_18 (by decide) (fun c_6 => ?_) (fun c_6 => ?_)
      · skip
        exact hx_retv hx hb hr hlk hW ⟨hM, f_2⟩ dX7_clear_34
      · skip
        refine lv_aload_n hx hb dX7_clear_21 rfl (lv_at hl 1 rfl) ?_
        refine hk_getr hx hb hts hC_7 hown hW gx td_7 5 (by decide) rfl kw_318 ⟨rfl, rfl, rfl⟩ f_x_5 dX7_clear_22 ?_
        refine lv_iload_n hx hb dX7_clear_25 rfl (lv_at hl 0 rfl) ?_
        refine lv_iconst (v := 0) hx hb dX7_clear_26 (by decide) ?_
        refine hk_iast hx hb hW gqo td_36 rfl ⟨by omega, by omega⟩ rfl dX7_clear_27 (fun H locs h_7 eh_7 hW hs => ?_)
        have f_x_5 := (hs.o gx trivial rfl).2.trans f_x_5
        have f_2 := (hs.o gx trivial rfl).1.trans f_2
        have f_4 := (hs.o gx trivial rfl).1.trans f_4
        have hM := hM.tr (hs.mono (by decide))
        have gx := gx.S hs
        have gqo := gqo.S hs
        obtain ⟨x_8, ex_8⟩ : ∃ y : Int32, y = il + Int32.ofInt 1 := ⟨_, rfl⟩
        have zx_8 : x_8.toInt = il.toInt + (1) := by rw [ex_8]; exact i32_add rfl (by decide) (by omega) (by omega)
        refine lv_iinc (v := x_8) (lv' := [(2, .int x_8), (0, .ref x), (1, .int (0 : Int32))]) hx hb dX7_clear_28 hl (k := 0) rfl ex_8.symm (by decide) rfl (fun ls hl => ?_)
        refine lv_goto (tgt := 12) hx hb dX7_clear_31 (by decide) ?_
        exact ih x_8 _ _ h_7 ls (by omega) (by omega) (by omega) hW hM f_x_5 f_2 f_4 gx gqo (lv_sub hl [0, 1, 2] rfl)
  exact loop 1601 (0 : Int32) _ _ h_3 ls (by decide) (by decide) (by decide) hW hM f_x_5 f_2 f_4 gx gqo hl


theorem dX7_findBest_0 : decode cX7_findBest 0 = .ok (.aload_n 0, 1) := by decide +kernel
theorem dX7_findBest_1 : decode cX7_findBest 1 = .ok (.iconst 0, 1) := by decide +kernel
theorem dX7_findBest_2 : decode cX7_findBest 2 = .ok (.putfield 31, 3) := by decide +kernel
theorem dX7_findBest_5 : decode cX7_findBest 5 = .ok (.aload_n 0, 1) := by decide +kernel
theorem dX7_findBest_6 : decode cX7_findBest 6 = .ok (.iconst 0, 1) := by decide +kernel
theorem dX7_findBest_7 : decode cX7_findBest 7 = .ok (.putfield 34, 3) := by decide +kernel
theorem dX7_findBest_10 : decode cX7_findBest 10 = .ok (.iconst 0, 1) := by decide +kernel
theorem dX7_findBest_11 : decode cX7_findBest 11 = .ok (.istore_n 1, 1) := by decide +kernel
theorem dX7_findBest_12 : decode cX7_findBest 12 = .ok (.iload_n 1, 1) := by decide +kernel
theorem dX7_findBest_13 : decode cX7_findBest 13 = .ok (.aload_n 0, 1) := by decide +kernel
theorem dX7_findBest_14 : decode cX7_findBest 14 = .ok (.getfield 28, 3) := by decide +kernel
theorem dX7_findBest_17 : decode cX7_findBest 17 = .ok (.if_icmp .ge 23, 3) := by decide +kernel
theorem dX7_findBest_40 : decode cX7_findBest 40 = .ok (.aload_n 0, 1) := by decide +kernel
theorem dX7_findBest_41 : decode cX7_findBest 41 = .ok (.getfield 31, 3) := by decide +kernel
theorem dX7_findBest_44 : decode cX7_findBest 44 = .ok (.ifCond .le 7, 3) := by decide +kernel
theorem dX7_findBest_51 : decode cX7_findBest 51 = .ok (.iconst 0, 1) := by decide +kernel
theorem dX7_findBest_52 : decode cX7_findBest 52 = .ok (.ireturn, 1) := by decide +kernel
set_option maxHeartbeats 4000000 in
set_option maxRecDepth 100000 in
theorem c_X7_findBest (l : Launch) (dC : Nat → ClassId) (dI : Nat → Nat → Nat) (dA : Nat → ClassId) (L : List Nat) (h : hx_h) (sz : Nat) (x : Nat) (gx : hx_g L h x 7) (f_x_4 : h.2.1 x 4 = 0) : Met l yX7_findBest (Cond.code yX7_findBest cX7_findBest 2 (some .boolean) :: hx_all) ({ frames := 0, cells := 0, slots := 0, locals := 0 }) (va_Pc [.ref x] (hx_B P_tb (P_ty dA) (dC, dI) vwCl L h sz)) (va_Qi (fun (r : Int32) (u : List Nat × hx_h) => (r = 0) ∧ hx_S P_tb [(7, 1), (7, 2)] L h u.1 u.2) (hx_E P_tb (P_ty dA) (dC, dI) vwCl (hx_A L sz)) (hx_A L sz)) 0 0 (hx_A L sz) := by
  refine hx_met (lv := [(0, .ref x)]) (by decide +kernel) rfl (Nat.le_of_ble_eq_true rfl) rfl ?_
  intro p e s m below meth c hx hb hml hr hlk hts0 hown hin hsz hW ls hl
  have hts : ∀ w ∈ hx_all, w.before _ s = true := fun w hw => hts0 w (List.mem_cons_of_mem _ hw)
  have hown : s.vm.findClass "SmallCourt$Rings" = some m.cls := hown
  have hM : hx_S P_tb [(7, 1), (7, 2)] L h L h := hx_S.rf
  refine lv_aload_n hx hb dX7_findBest_0 rfl (lv_at hl 0 rfl) ?_
  refine lv_iconst (v := 0) hx hb dX7_findBest_1 (by decide) ?_
  refine hk_puti hx hb hts hC_7 hown hW gx td_7 1 (by decide) rfl kw_311 ⟨rfl, rfl, rfl⟩ rfl (x := (0 : Int32)) rfl rfl rfl dX7_findBest_2 (fun H locs h_1 eh_1 hW hs => ?_)
  have f_x_4 := (hs.o gx trivial rfl).1.trans f_x_4
  have hM := hM.tr (hs.mono (by decide))
  have gx := gx.S hs
  have f_2 : h_1.2.1 x 1 = (0 : Int32) := by rw [eh_1]; exact hx_pi_at _ _ _ _
  refine lv_aload_n hx hb dX7_findBest_5 rfl (lv_at hl 0 rfl) ?_
  refine lv_iconst (v := 0) hx hb dX7_findBest_6 (by decide) ?_
  refine hk_puti hx hb hts hC_7 hown hW gx td_7 2 (by decide) rfl kw_313 ⟨rfl, rfl, rfl⟩ rfl (x := (0 : Int32)) rfl rfl rfl dX7_findBest_7 (fun H locs h_3 eh_3 hW hs => ?_)
  have f_x_4 := (hs.o gx trivial rfl).1.trans f_x_4
  have f_2 := (hs.o gx trivial rfl).1.trans f_2
  have hM := hM.tr (hs.mono (by decide))
  have gx := gx.S hs
  have f_4 : h_3.2.1 x 2 = (0 : Int32) := by rw [eh_3]; exact hx_pi_at _ _ _ _
  refine lv_iconst (v := 0) hx hb dX7_findBest_10 (by decide) ?_
  refine lv_istore_n (lv' := [(1, .int (0 : Int32)), (0, .ref x)]) hx hb dX7_findBest_11 rfl hl (by decide) rfl (fun ls hl => ?_)
  refine lv_iload_n hx hb dX7_findBest_12 rfl (lv_at hl 0 rfl) ?_
  refine lv_aload_n hx hb dX7_findBest_13 rfl (lv_at hl 1 rfl) ?_
  refine hk_geti hx hb hts hC_7 hown hW gx td_7 4 (by decide) rfl kw_317 ⟨rfl, rfl, rfl⟩ f_x_4 dX7_findBest_14 ?_
  refine hb_icmp_ge (zx := 0) (zy := 0) (tgt := 40) hx hb (by decide) (by decide) dX7_findBest_17 (by decide) (fun c_5 => ?_) (fun c_5 => absurd c_5 (by decide))
  refine lv_aload_n hx hb dX7_findBest_40 rfl (lv_at hl 1 rfl) ?_
  refine hk_geti hx hb hts hC_7 hown hW gx td_7 1 (by decide) rfl kw_311 ⟨rfl, rfl, rfl⟩ f_2 dX7_findBest_41 ?_
  refine hb_if_le (zx := 0) (tgt := 51) hx hb (by decide) dX7_findBest_44 (by decide) (fun c_6 => ?_) (fun c_6 => absurd c_6 (by decide))
  refine lv_iconst (v := 0) hx hb dX7_findBest_51 (by decide) ?_
  exact hx_retz hx hb hr rfl hlk hW ⟨rfl, hM⟩ dX7_findBest_52


theorem dX9_net_0 : decode cX9_net 0 = .ok (.aload_n 0, 1) := by decide +kernel
theorem dX9_net_1 : decode cX9_net 1 = .ok (.getfield 79, 3) := by decide +kernel
theorem dX9_net_4 : decode cX9_net 4 = .ok (.aload_n 0, 1) := by decide +kernel
theorem dX9_net_5 : decode cX9_net 5 = .ok (.getfield 125, 3) := by decide +kernel
theorem dX9_net_8 : decode cX9_net 8 = .ok (.invokevirtual 346, 3) := by decide +kernel
theorem dX9_net_11 : decode cX9_net 11 = .ok (.iconst 0, 1) := by decide +kernel
theorem dX9_net_12 : decode cX9_net 12 = .ok (.istore_n 1, 1) := by decide +kernel
theorem dX9_net_13 : decode cX9_net 13 = .ok (.iload_n 1, 1) := by decide +kernel
theorem dX9_net_14 : decode cX9_net 14 = .ok (.aload_n 0, 1) := by decide +kernel
theorem dX9_net_15 : decode cX9_net 15 = .ok (.getfield 181, 3) := by decide +kernel
theorem dX9_net_18 : decode cX9_net 18 = .ok (.if_icmp .ge 65, 3) := by decide +kernel
theorem dX9_net_83 : decode cX9_net 83 = .ok (.iconst 0, 1) := by decide +kernel
theorem dX9_net_84 : decode cX9_net 84 = .ok (.istore_n 1, 1) := by decide +kernel
theorem dX9_net_85 : decode cX9_net 85 = .ok (.iconst 0, 1) := by decide +kernel
theorem dX9_net_86 : decode cX9_net 86 = .ok (.istore_n 2, 1) := by decide +kernel
theorem dX9_net_87 : decode cX9_net 87 = .ok (.iload_n 2, 1) := by decide +kernel
theorem dX9_net_88 : decode cX9_net 88 = .ok (.bipush 100, 2) := by decide +kernel
theorem dX9_net_90 : decode cX9_net 90 = .ok (.if_icmp .ge 44, 3) := by decide +kernel
theorem dX9_net_93 : decode cX9_net 93 = .ok (.aload_n 0, 1) := by decide +kernel
theorem dX9_net_94 : decode cX9_net 94 = .ok (.getfield 79, 3) := by decide +kernel
theorem dX9_net_97 : decode cX9_net 97 = .ok (.invokevirtual 351, 3) := by decide +kernel
theorem dX9_net_100 : decode cX9_net 100 = .ok (.ifCond .eq 34, 3) := by decide +kernel
theorem dX9_net_134 : decode cX9_net 134 = .ok (.iload_n 1, 1) := by decide +kernel
theorem dX9_net_135 : decode cX9_net 135 = .ok (.ireturn, 1) := by decide +kernel
set_option maxHeartbeats 4000000 in
set_option maxRecDepth 100000 in
theorem c_X9_net (l : Launch) (dC : Nat → ClassId) (dI : Nat → Nat → Nat) (dA : Nat → ClassId) (L : List Nat) (h : hx_h) (sz : Nat) (x : Nat) (gx : hx_g L h x 9) (f_x_8 : h.2.1 x 8 = 0) (f_x_11 : h.2.1 x 11 = 0) (qr : Nat) (gqr : hx_g L h qr 7) (f_x_18 : h.2.2 x 18 = some qr) (qo : Nat) (gqo : hx_g L h qo 36) (f_qr_5 : h.2.2 qr 5 = some qo) : Met l yX9_net (Cond.code yX9_net cX9_net 3 (some .int) :: hx_all) ({ frames := 1, cells := 0, slots := 0, locals := 22 }) (va_Pc [.ref x] (hx_B P_tb (P_ty dA) (dC, dI) vwCl L h sz)) (va_Qi (fun (r : Int32) (u : List Nat × hx_h) => (r = 0) ∧ hx_S P_tb [(7, 0), (7, 1), (7, 2), (7, 4), (36, 0)] L h u.1 u.2) (hx_E P_tb (P_ty dA) (dC, dI) vwCl (hx_A L sz)) (hx_A L sz)) 0 0 (hx_A L sz) := by
  refine hx_met (lv := [(0, .ref x)]) (by decide +kernel) rfl (Nat.le_of_ble_eq_true rfl) rfl ?_
  intro p e s m below meth c hx hb hml hr hlk hts0 hown hin hsz hW ls hl
  have hts : ∀ w ∈ hx_all, w.before _ s = true := fun w hw => hts0 w (List.mem_cons_of_mem _ hw)
  have hown : s.vm.findClass "SmallCourt" = some m.cls := hown
  have hM : hx_S P_tb [(7, 0), (7, 1), (7, 2), (7, 4), (36, 0)] L h L h := hx_S.rf
  refine lv_aload_n hx hb dX9_net_0 rfl (lv_at hl 0 rfl) ?_
  refine hk_getr hx hb hts hC_9 hown hW gx td_9 18 (by decide) rfl kw_382 ⟨rfl, rfl, rfl⟩ f_x_18 dX9_net_1 ?_
  refine lv_aload_n hx hb dX9_net_4 rfl (lv_at hl 0 rfl) ?_
  refine hk_geti hx hb hts hC_9 hown hW gx td_9 8 (by decide) rfl kw_372 ⟨rfl, rfl, rfl⟩ f_x_8 dX9_net_5 ?_
  refine hx_gov (hx_runV (As := [.int (0 : Int32)]) (rest := []) ⟨hx, hb, hml, hown, hts⟩ hW gqr td_7 (T := TX7) (N := 8) rfl (c_X7_clear l dC dI dA L h s.heap.size qr gqr qo gqo f_qr_5) (cwV 1 hts (hx_gV kw_988 kw_985 kw_986 kw_987 kw_101) rfl rfl rfl (by decide +kernel) ⟨Nat.le_of_ble_eq_true rfl, Nat.le_of_ble_eq_true rfl⟩) rfl hl.1 rfl (Nat.le_of_ble_eq_true rfl) dX9_net_8 ⟨Nat.le_of_ble_eq_true rfl, Nat.le_of_ble_eq_true rfl⟩) hW (fun L_1 h_2 H locs p_4 hW => ?_)
  obtain ⟨hs, f_5⟩ := p_4
  have hs : hx_S P_tb [(7, 0), (7, 4), (36, 0)] L h L_1 h_2 := hs
  have f_5 : h_2.2.1 qr 4 = _ := f_5
  have f_x_8 := (hs.o gx trivial rfl).1.trans f_x_8
  have f_x_11 := (hs.o gx trivial rfl).1.trans f_x_11
  have f_x_18 := (hs.o gx trivial rfl).2.trans f_x_18
  have f_qr_5 := (hs.o gqr trivial rfl).2.trans f_qr_5
  have hM := hM.tr (hs.mono (by decide))
  have gx := gx.S hs
  have gqr := gqr.S hs
  have gqo := gqo.S hs
  refine lv_iconst (v := 0) hx hb dX9_net_11 (by decide) ?_
  refine lv_istore_n (lv' := [(1, .int (0 : Int32)), (0, .ref x)]) hx hb dX9_net_12 rfl hl (by decide) rfl (fun ls hl => ?_)
  refine lv_iload_n hx hb dX9_net_13 rfl (lv_at hl 0 rfl) ?_
  refine lv_aload_n hx hb dX9_net_14 rfl (lv_at hl 1 rfl) ?_
  refine hk_geti hx hb hts hC_9 hown hW gx td_9 11 (by decide) rfl kw_375 ⟨rfl, rfl, rfl⟩ f_x_11 dX9_net_15 ?_
  refine hb_icmp_ge (zx := 0) (zy := 0) (tgt := 83) hx hb (by decide) (by decide) dX9_net_18 (by decide) (fun c_6 => ?_) (fun c_6 => absurd c_6 (by decide))
  refine lv_iconst (v := 0) hx hb dX9_net_83 (by decide) ?_
  refine lv_istore_n (lv' := [(1, .int (0 : Int32)), (0, .ref x)]) hx hb dX9_net_84 rfl hl (by decide) rfl (fun ls hl => ?_)
  refine lv_iconst (v := 0) hx hb dX9_net_85 (by decide) ?_
  refine lv_istore_n (lv' := [(2, .int (0 : Int32)), (1, .int (0 : Int32)), (0, .ref x)]) hx hb dX9_net_86 rfl hl (by decide) rfl (fun ls hl => ?_)
  refine lv_iload_n hx hb dX9_net_87 rfl (lv_at hl 0 rfl) ?_
  refine lv_bipush (v := 100) hx hb dX9_net_88 (by decide) ?_
  refine hb_icmp_ge (zx := 0) (zy := 100) (tgt := 134) hx hb (by decide) (by decide) dX9_net_90 (by decide) (fun c_7 => absurd c_7 (by decide)) (fun c_7 => ?_)
  refine lv_aload_n hx hb dX9_net_93 rfl (lv_at hl 2 rfl) ?_
  refine hk_getr hx hb hts hC_9 hown hW gx td_9 18 (by decide) rfl kw_382 ⟨rfl, rfl, rfl⟩ f_x_18 dX9_net_94 ?_
  refine hx_goi (hx_runV (As := []) (rest := []) ⟨hx, hb, hml, hown, hts⟩ hW gqr td_7 (T := TX7) (N := 8) rfl (c_X7_findBest l dC dI dA L_1 h_2 H.size qr gqr f_5) (cwV 0 hts (hx_gV kw_996 kw_993 kw_994 kw_995 kw_101) rfl rfl rfl (by decide +kernel) ⟨Nat.le_of_ble_eq_true rfl, Nat.le_of_ble_eq_true rfl⟩) rfl hl.1 rfl (Nat.le_of_ble_eq_true rfl) dX9_net_97 ⟨Nat.le_of_ble_eq_true rfl, Nat.le_of_ble_eq_true rfl⟩) hW (fun r_10 L_8 h_9 H locs p_11 hW => ?_)
  obtain ⟨er, hs⟩ := p_11
  have hs : hx_S P_tb [(7, 1), (7, 2)] L_1 h_2 L_8 h_9 := hs
  have f_x_8 := (hs.o gx trivial rfl).1.trans f_x_8
  have f_x_11 := (hs.o gx trivial rfl).1.trans f_x_11
  have f_x_18 := (hs.o gx trivial rfl).2.trans f_x_18
  have f_qr_5 := (hs.o gqr trivial rfl).2.trans f_qr_5
  have f_5 := (hs.o gqr trivial rfl).1.trans f_5
  have hM := hM.tr (hs.mono (by decide))
  have gx := gx.S hs
  have gqr := gqr.S hs
  have gqo := gqo.S hs
  subst er
  refine hb_if_eq (zx := 0) (tgt := 134) hx hb (by decide) dX9_net_100 (by decide) (fun c_12 => ?_) (fun c_12 => absurd c_12 (by decide))
  refine lv_iload_n hx hb dX9_net_134 rfl (lv_at hl 1 rfl) ?_
  exact hx_reti hx hb hr hlk hW ⟨rfl, hM⟩ dX9_net_135


theorem dX10_debts_0 : decode cX10_debts 0 = .ok (.iconst 0, 1) := by decide +kernel
theorem dX10_debts_1 : decode cX10_debts 1 = .ok (.istore_n 1, 1) := by decide +kernel
theorem dX10_debts_2 : decode cX10_debts 2 = .ok (.iload_n 1, 1) := by decide +kernel
theorem dX10_debts_3 : decode cX10_debts 3 = .ok (.sipush 1600, 3) := by decide +kernel
theorem dX10_debts_6 : decode cX10_debts 6 = .ok (.if_icmp .ge 16, 3) := by decide +kernel
theorem dX10_debts_9 : decode cX10_debts 9 = .ok (.aload_n 0, 1) := by decide +kernel
theorem dX10_debts_10 : decode cX10_debts 10 = .ok (.getfield 189, 3) := by decide +kernel
theorem dX10_debts_13 : decode cX10_debts 13 = .ok (.iload_n 1, 1) := by decide +kernel
theorem dX10_debts_14 : decode cX10_debts 14 = .ok (.iconst 0, 1) := by decide +kernel
theorem dX10_debts_15 : decode cX10_debts 15 = .ok (.iastore, 1) := by decide +kernel
theorem dX10_debts_16 : decode cX10_debts 16 = .ok (.iinc 1 1, 3) := by decide +kernel
theorem dX10_debts_19 : decode cX10_debts 19 = .ok (.goto (-17), 3) := by decide +kernel
theorem dX10_debts_22 : decode cX10_debts 22 = .ok (.iconst 0, 1) := by decide +kernel
theorem dX10_debts_23 : decode cX10_debts 23 = .ok (.istore_n 1, 1) := by decide +kernel
theorem dX10_debts_24 : decode cX10_debts 24 = .ok (.iload_n 1, 1) := by decide +kernel
theorem dX10_debts_25 : decode cX10_debts 25 = .ok (.aload_n 0, 1) := by decide +kernel
theorem dX10_debts_26 : decode cX10_debts 26 = .ok (.getfield 367, 3) := by decide +kernel
theorem dX10_debts_29 : decode cX10_debts 29 = .ok (.if_icmp .ge 45, 3) := by decide +kernel
theorem dX10_debts_74 : decode cX10_debts 74 = .ok (.return_, 1) := by decide +kernel
set_option maxHeartbeats 4000000 in
set_option maxRecDepth 100000 in
theorem c_X10_debts (l : Launch) (dC : Nat → ClassId) (dI : Nat → Nat → Nat) (dA : Nat → ClassId) (L : List Nat) (h : hx_h) (sz : Nat) (y : Nat) (gy : hx_g L h y 10) (qd : Nat) (gqd : hx_g L h qd 108) (f_y_82 : h.2.2 y 82 = some qd) (f_y_36 : h.2.1 y 36 = 0) : Met l yX10_debts (Cond.code yX10_debts cX10_debts 2 none :: hx_all) ({ frames := 0, cells := 0, slots := 0, locals := 0 }) (va_Pc [.ref y] (hx_B P_tb (P_ty dA) (dC, dI) vwCl L h sz)) (va_Qv (fun (u : List Nat × hx_h) => hx_S P_tb [(108, 0)] L h u.1 u.2) (hx_E P_tb (P_ty dA) (dC, dI) vwCl (hx_A L sz)) (hx_A L sz)) 0 0 (hx_A L sz) := by
  refine hx_met (lv := [(0, .ref y)]) (by decide +kernel) rfl (Nat.le_of_ble_eq_true rfl) rfl ?_
  intro p e s m below meth c hx hb hml hr hlk hts0 hown hin hsz hW ls hl
  have hts : ∀ w ∈ hx_all, w.before _ s = true := fun w hw => hts0 w (List.mem_cons_of_mem _ hw)
  have hown : s.vm.findClass "SmallCourtModel" = some m.cls := hown
  have hM : hx_S P_tb [(108, 0)] L h L h := hx_S.rf
  refine lv_iconst (v := 0) hx hb dX10_debts_0 (by decide) ?_
  refine lv_istore_n (lv' := [(1, .int (0 : Int32)), (0, .ref y)]) hx hb dX10_debts_1 rfl hl (by decide) rfl (fun ls hl => ?_)
  have loop : ∀ (n : Nat) (il : Int32) (H : Heap) (locs : List Loc) (hl1 : hx_h) (ls : Array Slot), 0 ≤ il.toInt → il.toInt ≤ 1600 → 1600 < il.toInt + n → hx_W P_tb (P_ty dA) (dC, dI) vwCl (hx_A L sz) s.heap L hl1 s H locs → hx_S P_tb [(108, 0)] L h L hl1 → hl1.2.2 y 82 = some qd → hl1.2.1 y 36 = (0 : Int32) → hx_g L hl1 y 10 → hx_g L hl1 qd 108 → lv_has ls 2 [(1, .int il), (0, .ref y)] → W p l e ({ frames := 0, cells := 0, slots := 0, locals := 0 }) s m ([.ref y] : List Value).toArray below meth c H locs 0 0 (MQ below (va_Qv (fun (u : List Nat × hx_h) => hx_S P_tb [(108, 0)] L h u.1 u.2) (hx_E P_tb (P_ty dA) (dC, dI) vwCl (hx_A L sz)) (hx_A L sz)) ([.ref y] : List Value).toArray s 0 0 (hx_A L sz)) (F0 m 2 ls []) := by
    intro n
    induction n with
    | zero => intro il H locs hl1 ls hi1 hi2 hi3; exfalso; omega
    | succ n ih =>
      intro il H locs hl1 ls hi1 hi2 hi3 hW hM f_y_82 f_y_36 gy gqd hl
      refine lv_iload_n hx hb dX10_debts_2 rfl (lv_at hl 0 rfl) ?_
      refine lv_sipush (v := 1600) hx hb dX10_debts_3 (by decide) ?_
      refine hb_icmp_ge (zx := il.toInt) (zy := 1600) (tgt := 22) hx hb rfl (by decide) dX10_debts_6 (by decide) (fun c_1 => ?_) (fun c_1 => ?_)
      · skip
        refine lv_iconst (v := 0) hx hb dX10_debts_22 (by decide) ?_
        refine lv_istore_n (lv' := [(1, .int (0 : Int32)), (0, .ref y)]) hx hb dX10_debts_23 rfl hl (by decide) rfl (fun ls hl => ?_)
        refine lv_iload_n hx hb dX10_debts_24 rfl (lv_at hl 0 rfl) ?_
        refine lv_aload_n hx hb dX10_debts_25 rfl (lv_at hl 1 rfl) ?_
        refine hk_geti hx hb hts hC_10 hown hW gy td_10 36 (by decide) rfl kw_1179 ⟨rfl, rfl, rfl⟩ f_y_36 dX10_debts_26 ?_
        refine hb_icmp_ge (zx := 0) (zy := 0) (tgt := 74) hx hb (by decide) (by decide) dX10_debts_29 (by decide) (fun c_2 => ?_) (fun c_2 => absurd c_2 (by decide))
        exact hx_retv hx hb hr hlk hW hM dX10_debts_74
      · skip
        refine lv_aload_n hx hb dX10_debts_9 rfl (lv_at hl 1 rfl) ?_
        refine hk_getr hx hb hts hC_10 hown hW gy td_10 82 (by decide) rfl kw_1225 ⟨rfl, rfl, rfl⟩ f_y_82 dX10_debts_10 ?_
        refine lv_iload_n hx hb dX10_debts_13 rfl (lv_at hl 0 rfl) ?_
        refine lv_iconst (v := 0) hx hb dX10_debts_14 (by decide) ?_
        refine hk_iast hx hb hW gqd td_108 rfl ⟨by omega, by omega⟩ rfl dX10_debts_15 (fun H locs h_3 eh_3 hW hs => ?_)
        have f_y_82 := (hs.o gy trivial rfl).2.trans f_y_82
        have f_y_36 := (hs.o gy trivial rfl).1.trans f_y_36
        have hM := hM.tr (hs.mono (by decide))
        have gy := gy.S hs
        have gqd := gqd.S hs
        obtain ⟨x_4, ex_4⟩ : ∃ y : Int32, y = il + Int32.ofInt 1 := ⟨_, rfl⟩
        have zx_4 : x_4.toInt = il.toInt + (1) := by rw [ex_4]; exact i32_add rfl (by decide) (by omega) (by omega)
        refine lv_iinc (v := x_4) (lv' := [(1, .int x_4), (0, .ref y)]) hx hb dX10_debts_16 hl (k := 0) rfl ex_4.symm (by decide) rfl (fun ls hl => ?_)
        refine lv_goto (tgt := 2) hx hb dX10_debts_19 (by decide) ?_
        exact ih x_4 _ _ h_3 ls (by omega) (by omega) (by omega) hW hM f_y_82 f_y_36 gy gqd (lv_sub hl [0, 1] rfl)
  exact loop 1601 (0 : Int32) _ _ h ls (by decide) (by decide) (by decide) hW hM f_y_82 f_y_36 gy gqd hl


theorem dX10_finds_0 : decode cX10_finds 0 = .ok (.aload_n 0, 1) := by decide +kernel
theorem dX10_finds_1 : decode cX10_finds 1 = .ok (.iconst 0, 1) := by decide +kernel
theorem dX10_finds_2 : decode cX10_finds 2 = .ok (.putfield 438, 3) := by decide +kernel
theorem dX10_finds_5 : decode cX10_finds 5 = .ok (.aload_n 0, 1) := by decide +kernel
theorem dX10_finds_6 : decode cX10_finds 6 = .ok (.iconst 0, 1) := by decide +kernel
theorem dX10_finds_7 : decode cX10_finds 7 = .ok (.putfield 441, 3) := by decide +kernel
theorem dX10_finds_10 : decode cX10_finds 10 = .ok (.iconst 0, 1) := by decide +kernel
theorem dX10_finds_11 : decode cX10_finds 11 = .ok (.istore_n 1, 1) := by decide +kernel
theorem dX10_finds_12 : decode cX10_finds 12 = .ok (.iload_n 1, 1) := by decide +kernel
theorem dX10_finds_13 : decode cX10_finds 13 = .ok (.aload_n 0, 1) := by decide +kernel
theorem dX10_finds_14 : decode cX10_finds 14 = .ok (.getfield 337, 3) := by decide +kernel
theorem dX10_finds_17 : decode cX10_finds 17 = .ok (.if_icmp .ge 209, 3) := by decide +kernel
theorem dX10_finds_226 : decode cX10_finds 226 = .ok (.return_, 1) := by decide +kernel
set_option maxHeartbeats 4000000 in
set_option maxRecDepth 100000 in
theorem c_X10_finds (l : Launch) (dC : Nat → ClassId) (dI : Nat → Nat → Nat) (dA : Nat → ClassId) (L : List Nat) (h : hx_h) (sz : Nat) (y : Nat) (gy : hx_g L h y 10) (f_y_20 : h.2.1 y 20 = 0) : Met l yX10_finds (Cond.code yX10_finds cX10_finds 8 none :: hx_all) ({ frames := 0, cells := 0, slots := 0, locals := 0 }) (va_Pc [.ref y] (hx_B P_tb (P_ty dA) (dC, dI) vwCl L h sz)) (va_Qv (fun (u : List Nat × hx_h) => hx_S P_tb [(10, 86), (10, 87)] L h u.1 u.2 ∧ u.2.2.1 y 87 = (0 : Int32)) (hx_E P_tb (P_ty dA) (dC, dI) vwCl (hx_A L sz)) (hx_A L sz)) 0 0 (hx_A L sz) := by
  refine hx_met (lv := [(0, .ref y)]) (by decide +kernel) rfl (Nat.le_of_ble_eq_true rfl) rfl ?_
  intro p e s m below meth c hx hb hml hr hlk hts0 hown hin hsz hW ls hl
  have hts : ∀ w ∈ hx_all, w.before _ s = true := fun w hw => hts0 w (List.mem_cons_of_mem _ hw)
  have hown : s.vm.findClass "SmallCourtModel" = some m.cls := hown
  have hM : hx_S P_tb [(10, 86), (10, 87)] L h L h := hx_S.rf
  refine lv_aload_n hx hb dX10_finds_0 rfl (lv_at hl 0 rfl) ?_
  refine lv_iconst (v := 0) hx hb dX10_finds_1 (by decide) ?_
  refine hk_puti hx hb hts hC_10 hown hW gy td_10 86 (by decide) rfl kw_1229 ⟨rfl, rfl, rfl⟩ rfl (x := (0 : Int32)) rfl rfl rfl dX10_finds_2 (fun H locs h_1 eh_1 hW hs => ?_)
  have f_y_20 := (hs.o gy trivial rfl).1.trans f_y_20
  have hM := hM.tr (hs.mono (by decide))
  have gy := gy.S hs
  have f_2 : h_1.2.1 y 86 = (0 : Int32) := by rw [eh_1]; exact hx_pi_at _ _ _ _
  refine lv_aload_n hx hb dX10_finds_5 rfl (lv_at hl 0 rfl) ?_
  refine lv_iconst (v := 0) hx hb dX10_finds_6 (by decide) ?_
  refine hk_puti hx hb hts hC_10 hown hW gy td_10 87 (by decide) rfl kw_1230 ⟨rfl, rfl, rfl⟩ rfl (x := (0 : Int32)) rfl rfl rfl dX10_finds_7 (fun H locs h_3 eh_3 hW hs => ?_)
  have f_y_20 := (hs.o gy trivial rfl).1.trans f_y_20
  have f_2 := (hs.o gy trivial rfl).1.trans f_2
  have hM := hM.tr (hs.mono (by decide))
  have gy := gy.S hs
  have f_4 : h_3.2.1 y 87 = (0 : Int32) := by rw [eh_3]; exact hx_pi_at _ _ _ _
  refine lv_iconst (v := 0) hx hb dX10_finds_10 (by decide) ?_
  refine lv_istore_n (lv' := [(1, .int (0 : Int32)), (0, .ref y)]) hx hb dX10_finds_11 rfl hl (by decide) rfl (fun ls hl => ?_)
  refine lv_iload_n hx hb dX10_finds_12 rfl (lv_at hl 0 rfl) ?_
  refine lv_aload_n hx hb dX10_finds_13 rfl (lv_at hl 1 rfl) ?_
  refine hk_geti hx hb hts hC_10 hown hW gy td_10 20 (by decide) rfl kw_1163 ⟨rfl, rfl, rfl⟩ f_y_20 dX10_finds_14 ?_
  refine hb_icmp_ge (zx := 0) (zy := 0) (tgt := 226) hx hb (by decide) (by decide) dX10_finds_17 (by decide) (fun c_5 => ?_) (fun c_5 => absurd c_5 (by decide))
  exact hx_retv hx hb hr hlk hW ⟨hM, f_4⟩ dX10_finds_226


theorem dX10_net_0 : decode cX10_net 0 = .ok (.aload_n 0, 1) := by decide +kernel
theorem dX10_net_1 : decode cX10_net 1 = .ok (.iconst 1, 1) := by decide +kernel
theorem dX10_net_2 : decode cX10_net 2 = .ok (.putfield 451, 3) := by decide +kernel
theorem dX10_net_5 : decode cX10_net 5 = .ok (.aload_n 0, 1) := by decide +kernel
theorem dX10_net_6 : decode cX10_net 6 = .ok (.iconst 0, 1) := by decide +kernel
theorem dX10_net_7 : decode cX10_net 7 = .ok (.putfield 455, 3) := by decide +kernel
theorem dX10_net_10 : decode cX10_net 10 = .ok (.iconst 0, 1) := by decide +kernel
theorem dX10_net_11 : decode cX10_net 11 = .ok (.istore_n 1, 1) := by decide +kernel
theorem dX10_net_12 : decode cX10_net 12 = .ok (.iconst 1, 1) := by decide +kernel
theorem dX10_net_13 : decode cX10_net 13 = .ok (.istore_n 2, 1) := by decide +kernel
theorem dX10_net_14 : decode cX10_net 14 = .ok (.iload_n 2, 1) := by decide +kernel
theorem dX10_net_15 : decode cX10_net 15 = .ok (.ifCond .eq 183, 3) := by decide +kernel
theorem dX10_net_18 : decode cX10_net 18 = .ok (.aload_n 0, 1) := by decide +kernel
theorem dX10_net_19 : decode cX10_net 19 = .ok (.invokevirtual 458, 3) := by decide +kernel
theorem dX10_net_22 : decode cX10_net 22 = .ok (.aload_n 0, 1) := by decide +kernel
theorem dX10_net_23 : decode cX10_net 23 = .ok (.invokevirtual 461, 3) := by decide +kernel
theorem dX10_net_26 : decode cX10_net 26 = .ok (.iconst 0, 1) := by decide +kernel
theorem dX10_net_27 : decode cX10_net 27 = .ok (.istore_n 3, 1) := by decide +kernel
theorem dX10_net_28 : decode cX10_net 28 = .ok (.iconst 0, 1) := by decide +kernel
theorem dX10_net_29 : decode cX10_net 29 = .ok (.istore 4, 2) := by decide +kernel
theorem dX10_net_31 : decode cX10_net 31 = .ok (.iload 4, 2) := by decide +kernel
theorem dX10_net_33 : decode cX10_net 33 = .ok (.aload_n 0, 1) := by decide +kernel
theorem dX10_net_34 : decode cX10_net 34 = .ok (.getfield 441, 3) := by decide +kernel
theorem dX10_net_37 : decode cX10_net 37 = .ok (.if_icmp .ge 42, 3) := by decide +kernel
theorem dX10_net_79 : decode cX10_net 79 = .ok (.aload_n 0, 1) := by decide +kernel
theorem dX10_net_80 : decode cX10_net 80 = .ok (.getfield 441, 3) := by decide +kernel
theorem dX10_net_83 : decode cX10_net 83 = .ok (.ifCond .le 19, 3) := by decide +kernel
theorem dX10_net_102 : decode cX10_net 102 = .ok (.iconst 0, 1) := by decide +kernel
theorem dX10_net_103 : decode cX10_net 103 = .ok (.istore_n 2, 1) := by decide +kernel
theorem dX10_net_104 : decode cX10_net 104 = .ok (.iload_n 2, 1) := by decide +kernel
theorem dX10_net_105 : decode cX10_net 105 = .ok (.ifCond .ne 6, 3) := by decide +kernel
theorem dX10_net_108 : decode cX10_net 108 = .ok (.goto 90, 3) := by decide +kernel
theorem dX10_net_198 : decode cX10_net 198 = .ok (.iload_n 1, 1) := by decide +kernel
theorem dX10_net_199 : decode cX10_net 199 = .ok (.ireturn, 1) := by decide +kernel
set_option maxHeartbeats 4000000 in
set_option maxRecDepth 100000 in
theorem c_X10_net (l : Launch) (dC : Nat → ClassId) (dI : Nat → Nat → Nat) (dA : Nat → ClassId) (L : List Nat) (h : hx_h) (sz : Nat) (y : Nat) (gy : hx_g L h y 10) (qd : Nat) (gqd : hx_g L h qd 108) (f_y_82 : h.2.2 y 82 = some qd) (f_y_36 : h.2.1 y 36 = 0) (f_y_20 : h.2.1 y 20 = 0) : Met l yX10_net (Cond.code yX10_net cX10_net 5 (some .int) :: hx_all) ({ frames := 1, cells := 0, slots := 0, locals := 27 }) (va_Pc [.ref y] (hx_B P_tb (P_ty dA) (dC, dI) vwCl L h sz)) (va_Qi (fun (r : Int32) (u : List Nat × hx_h) => (r = 0) ∧ hx_S P_tb [(10, 83), (10, 84), (10, 86), (10, 87), (108, 0)] L h u.1 u.2) (hx_E P_tb (P_ty dA) (dC, dI) vwCl (hx_A L sz)) (hx_A L sz)) 0 0 (hx_A L sz) := by
  refine hx_met (lv := [(0, .ref y)]) (by decide +kernel) rfl (Nat.le_of_ble_eq_true rfl) rfl ?_
  intro p e s m below meth c hx hb hml hr hlk hts0 hown hin hsz hW ls hl
  have hts : ∀ w ∈ hx_all, w.before _ s = true := fun w hw => hts0 w (List.mem_cons_of_mem _ hw)
  have hown : s.vm.findClass "SmallCourtModel" = some m.cls := hown
  have hM : hx_S P_tb [(10, 83), (10, 84), (10, 86), (10, 87), (108, 0)] L h L h := hx_S.rf
  refine lv_aload_n hx hb dX10_net_0 rfl (lv_at hl 0 rfl) ?_
  refine lv_iconst (v := 1) hx hb dX10_net_1 (by decide) ?_
  refine hk_puti hx hb hts hC_10 hown hW gy td_10 83 (by decide) rfl kw_1226 ⟨rfl, rfl, rfl⟩ rfl (x := (1 : Int32)) rfl (by decide) (by decide) dX10_net_2 (fun H locs h_1 eh_1 hW hs => ?_)
  have f_y_82 := (hs.o gy trivial rfl).2.trans f_y_82
  have f_y_36 := (hs.o gy trivial rfl).1.trans f_y_36
  have f_y_20 := (hs.o gy trivial rfl).1.trans f_y_20
  have hM := hM.tr (hs.mono (by decide))
  have gy := gy.S hs
  have gqd := gqd.S hs
  have f_2 : h_1.2.1 y 83 = (1 : Int32) := by rw [eh_1]; exact hx_pi_at _ _ _ _
  refine lv_aload_n hx hb dX10_net_5 rfl (lv_at hl 0 rfl) ?_
  refine lv_iconst (v := 0) hx hb dX10_net_6 (by decide) ?_
  refine hk_puti hx hb hts hC_10 hown hW gy td_10 84 (by decide) rfl kw_1227 ⟨rfl, rfl, rfl⟩ rfl (x := (0 : Int32)) rfl rfl rfl dX10_net_7 (fun H locs h_3 eh_3 hW hs => ?_)
  have f_y_82 := (hs.o gy trivial rfl).2.trans f_y_82
  have f_y_36 := (hs.o gy trivial rfl).1.trans f_y_36
  have f_y_20 := (hs.o gy trivial rfl).1.trans f_y_20
  have f_2 := (hs.o gy trivial rfl).1.trans f_2
  have hM := hM.tr (hs.mono (by decide))
  have gy := gy.S hs
  have gqd := gqd.S hs
  have f_4 : h_3.2.1 y 84 = (0 : Int32) := by rw [eh_3]; exact hx_pi_at _ _ _ _
  refine lv_iconst (v := 0) hx hb dX10_net_10 (by decide) ?_
  refine lv_istore_n (lv' := [(1, .int (0 : Int32)), (0, .ref y)]) hx hb dX10_net_11 rfl hl (by decide) rfl (fun ls hl => ?_)
  refine lv_iconst (v := 1) hx hb dX10_net_12 (by decide) ?_
  refine lv_istore_n (lv' := [(2, .int (1 : Int32)), (1, .int (0 : Int32)), (0, .ref y)]) hx hb dX10_net_13 rfl hl (by decide) rfl (fun ls hl => ?_)
  refine lv_iload_n hx hb dX10_net_14 rfl (lv_at hl 0 rfl) ?_
  refine hb_if_eq (zx := 1) (tgt := 198) hx hb (by decide) dX10_net_15 (by decide) (fun c_5 => absurd c_5 (by decide)) (fun c_5 => ?_)
  refine lv_aload_n hx hb dX10_net_18 rfl (lv_at hl 2 rfl) ?_
  refine hx_gov (hx_runV (As := []) (rest := []) ⟨hx, hb, hml, hown, hts⟩ hW gy td_10 (T := TX10) (N := 98) rfl (c_X10_debts l dC dI dA L h_3 H.size y gy qd gqd f_y_82 f_y_36) (cwV 0 hts (hx_gV kw_1694 kw_1691 kw_1693 kw_86 kw_103) rfl rfl rfl (by decide +kernel) ⟨Nat.le_of_ble_eq_true rfl, Nat.le_of_ble_eq_true rfl⟩) rfl hl.1 rfl (Nat.le_of_ble_eq_true rfl) dX10_net_19 ⟨Nat.le_of_ble_eq_true rfl, Nat.le_of_ble_eq_true rfl⟩) hW (fun L_6 h_7 H locs p_9 hW => ?_)
  have hs : hx_S P_tb [(108, 0)] L h_3 L_6 h_7 := p_9
  have f_y_82 := (hs.o gy trivial rfl).2.trans f_y_82
  have f_y_36 := (hs.o gy trivial rfl).1.trans f_y_36
  have f_y_20 := (hs.o gy trivial rfl).1.trans f_y_20
  have f_2 := (hs.o gy trivial rfl).1.trans f_2
  have f_4 := (hs.o gy trivial rfl).1.trans f_4
  have hM := hM.tr (hs.mono (by decide))
  have gy := gy.S hs
  have gqd := gqd.S hs
  refine lv_aload_n hx hb dX10_net_22 rfl (lv_at hl 2 rfl) ?_
  refine hx_gov (hx_runV (As := []) (rest := []) ⟨hx, hb, hml, hown, hts⟩ hW gy td_10 (T := TX10) (N := 98) rfl (c_X10_finds l dC dI dA L_6 h_7 H.size y gy f_y_20) (cwV 0 hts (hx_gV kw_1698 kw_1695 kw_1697 kw_87 kw_103) rfl rfl rfl (by decide +kernel) ⟨Nat.le_of_ble_eq_true rfl, Nat.le_of_ble_eq_true rfl⟩) rfl hl.1 rfl (Nat.le_of_ble_eq_true rfl) dX10_net_23 ⟨Nat.le_of_ble_eq_true rfl, Nat.le_of_ble_eq_true rfl⟩) hW (fun L_10 h_11 H locs p_13 hW => ?_)
  obtain ⟨hs, f_14⟩ := p_13
  have hs : hx_S P_tb [(10, 86), (10, 87)] L_6 h_7 L_10 h_11 := hs
  have f_14 : h_11.2.1 y 87 = _ := f_14
  have f_y_82 := (hs.o gy trivial rfl).2.trans f_y_82
  have f_y_36 := (hs.o gy trivial rfl).1.trans f_y_36
  have f_y_20 := (hs.o gy trivial rfl).1.trans f_y_20
  have f_2 := (hs.o gy trivial rfl).1.trans f_2
  have f_4 := (hs.o gy trivial rfl).1.trans f_4
  have hM := hM.tr (hs.mono (by decide))
  have gy := gy.S hs
  have gqd := gqd.S hs
  refine lv_iconst (v := 0) hx hb dX10_net_26 (by decide) ?_
  refine lv_istore_n (lv' := [(3, .int (0 : Int32)), (2, .int (1 : Int32)), (1, .int (0 : Int32)), (0, .ref y)]) hx hb dX10_net_27 rfl hl (by decide) rfl (fun ls hl => ?_)
  refine lv_iconst (v := 0) hx hb dX10_net_28 (by decide) ?_
  refine lv_istore (lv' := [(4, .int (0 : Int32)), (3, .int (0 : Int32)), (2, .int (1 : Int32)), (1, .int (0 : Int32)), (0, .ref y)]) hx hb dX10_net_29 hl (by decide) rfl (fun ls hl => ?_)
  refine lv_iload hx hb dX10_net_31 (lv_at hl 0 rfl) ?_
  refine lv_aload_n hx hb dX10_net_33 rfl (lv_at hl 4 rfl) ?_
  refine hk_geti hx hb hts hC_10 hown hW gy td_10 87 (by decide) rfl kw_1230 ⟨rfl, rfl, rfl⟩ f_14 dX10_net_34 ?_
  refine hb_icmp_ge (zx := 0) (zy := 0) (tgt := 79) hx hb (by decide) (by decide) dX10_net_37 (by decide) (fun c_15 => ?_) (fun c_15 => absurd c_15 (by decide))
  refine lv_aload_n hx hb dX10_net_79 rfl (lv_at hl 4 rfl) ?_
  refine hk_geti hx hb hts hC_10 hown hW gy td_10 87 (by decide) rfl kw_1230 ⟨rfl, rfl, rfl⟩ f_14 dX10_net_80 ?_
  refine hb_if_le (zx := 0) (tgt := 102) hx hb (by decide) dX10_net_83 (by decide) (fun c_16 => ?_) (fun c_16 => absurd c_16 (by decide))
  refine lv_iconst (v := 0) hx hb dX10_net_102 (by decide) ?_
  refine lv_istore_n (lv' := [(2, .int (0 : Int32)), (4, .int (0 : Int32)), (3, .int (0 : Int32)), (1, .int (0 : Int32)), (0, .ref y)]) hx hb dX10_net_103 rfl hl (by decide) rfl (fun ls hl => ?_)
  refine lv_iload_n hx hb dX10_net_104 rfl (lv_at hl 0 rfl) ?_
  refine hb_if_ne (zx := 0) (tgt := 111) hx hb (by decide) dX10_net_105 (by decide) (fun c_17 => absurd c_17 (by decide)) (fun c_17 => ?_)
  refine lv_goto (tgt := 198) hx hb dX10_net_108 (by decide) ?_
  refine lv_iload_n hx hb dX10_net_198 rfl (lv_at hl 3 rfl) ?_
  exact hx_reti hx hb hr hlk hW ⟨rfl, hM⟩ dX10_net_199

