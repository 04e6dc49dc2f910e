theorem dX4_init_0 : decode cX4_init 0 = .ok (.aload_n 0, 1) := by decide +kernel
theorem dX4_init_1 : decode cX4_init 1 = .ok (.invokespecial 3, 3) := by decide +kernel
theorem dX4_init_4 : decode cX4_init 4 = .ok (.aload_n 0, 1) := by decide +kernel
theorem dX4_init_5 : decode cX4_init 5 = .ok (.iload_n 1, 1) := by decide +kernel
theorem dX4_init_6 : decode cX4_init 6 = .ok (.putfield 9, 3) := by decide +kernel
theorem dX4_init_9 : decode cX4_init 9 = .ok (.aload_n 0, 1) := by decide +kernel
theorem dX4_init_10 : decode cX4_init 10 = .ok (.iload_n 2, 1) := by decide +kernel
theorem dX4_init_11 : decode cX4_init 11 = .ok (.putfield 15, 3) := by decide +kernel
theorem dX4_init_14 : decode cX4_init 14 = .ok (.aload_n 0, 1) := by decide +kernel
theorem dX4_init_15 : decode cX4_init 15 = .ok (.iload_n 3, 1) := by decide +kernel
theorem dX4_init_16 : decode cX4_init 16 = .ok (.putfield 18, 3) := by decide +kernel
theorem dX4_init_19 : decode cX4_init 19 = .ok (.return_, 1) := by decide +kernel
set_option maxHeartbeats 4000000 in
set_option maxRecDepth 100000 in
theorem t_X4_init (l : Launch) (dC : Nat → ClassId) (dI : Nat → Nat → Nat) (dA : Nat → ClassId) (L : List Nat) (h : hx_h) (sz : Nat) (x : Nat) (i1 : Int32) (i2 : Int32) (i3 : Int32) (hT : hx_T T_tb L h) (gx : hx_g L h x 120) (hz : ∀ j, h.2.1 x j = 0 ∧ h.2.2 x j = none) (hi1 : 0 ≤ i1.toInt ∧ i1.toInt ≤ 39) (hi2 : -30000 ≤ i2.toInt ∧ i2.toInt ≤ 7999) (hi3 : -1 ≤ i3.toInt ∧ i3.toInt ≤ 19) : Met l yX4_init (Cond.code yX4_init cX4_init 4 none :: hx_all) ({ frames := 1, cells := 0, slots := 0, locals := 12 }) (va_Pc [.ref x, .int i1, .int i2, .int i3] (hx_B T_tb (P_ty dA) (dC, dI) vwCl L h sz)) (va_Qv (fun (u : List Nat × hx_h) => hx_T T_tb u.1 u.2 ∧ hx_S T_tb [(120, 0), (120, 1), (120, 2)] (hx_X L x) h u.1 u.2 ∧ hx_g u.1 u.2 x 4 ∧ u.2.2.1 x 0 = i1 ∧ u.2.2.1 x 7 = 0 ∧ u.2.2.1 x 8 = 0 ∧ u.2.2.1 x 1 = i2 ∧ u.2.2.1 x 2 = i3) (hx_E T_tb (P_ty dA) (dC, dI) vwCl (hx_A L sz)) (hx_A L sz)) 0 0 (hx_A L sz) := by
  refine hx_met (lv := [(0, .ref x), (1, .int i1), (2, .int i2), (3, .int i3)]) (by decide +kernel) rfl (Nat.le_of_ble_eq_true rfl) rfl ?_
  intro p e s m below meth c hx hb hml hr hlk hts0 hown hin hsz hW ls hl
  have hts : ∀ w ∈ hx_all, w.before _ s = true := fun w hw => hts0 w (List.mem_cons_of_mem _ hw)
  have hown : s.vm.findClass "SmallCourt$Person" = some m.cls := hown
  have hin : meth.name = "<init>" := hin
  have hM : hx_S T_tb [(120, 0), (120, 1), (120, 2)] (hx_X L x) h L h := hx_SX_rf
  have hz : ∀ j, ([] : List Nat).contains j = false → h.2.1 x j = 0 ∧ h.2.2 x j = none := fun j _ => hz j
  refine lv_aload_n hx hb dX4_init_0 rfl (lv_at hl 0 rfl) ?_
  refine W.objInit hx hb hown (hts _ kw_609) (hts _ kw_117) (hts _ kw_118) rfl (by rw [hml]; exact hl.1) rfl dX4_init_1 (Nat.le_of_ble_eq_true rfl) (Nat.le_of_ble_eq_true rfl) ?_
  refine W.eq (g2 := F0 m 4 ls []) rfl ?_
  refine lv_aload_n hx hb dX4_init_4 rfl (lv_at hl 0 rfl) ?_
  refine lv_iload_n hx hb dX4_init_5 rfl (lv_at hl 1 rfl) ?_
  refine hx_putiF hx hb hts hC_4 hown hW hT (hx_S.rf (M := [(120, 0)])) gx tt_120 0 (by decide) rfl kw_610 ⟨rfl, rfl, rfl⟩ rfl hin rfl (x := i1) ⟨by omega, by omega⟩ rfl rfl rfl (List.mem_singleton.mpr rfl) dX4_init_6 (fun H locs h_1 eh_1 hW hT hs => ?_)
  replace hz := hx_zr [0] hz hs gx trivial rfl
  replace hM := hM.tr (hs.mono (by decide))
  replace gx := gx.S hs
  have f_2 : h_1.2.1 x 0 = i1 := by rw [eh_1]; exact hx_pi_at _ _ _ _
  refine lv_aload_n hx hb dX4_init_9 rfl (lv_at hl 0 rfl) ?_
  refine lv_iload_n hx hb dX4_init_10 rfl (lv_at hl 2 rfl) ?_
  refine hx_putiF hx hb hts hC_4 hown hW hT (hx_S.rf (M := [(120, 1)])) gx tt_120 1 (by decide) rfl kw_613 ⟨rfl, rfl, rfl⟩ rfl hin rfl (x := i2) ⟨by omega, by omega⟩ rfl rfl rfl (List.mem_singleton.mpr rfl) dX4_init_11 (fun H locs h_3 eh_3 hW hT hs => ?_)
  replace f_2 := (hs.o gx trivial rfl).1.trans f_2
  replace hz := hx_zr [0, 1] hz hs gx trivial rfl
  replace hM := hM.tr (hs.mono (by decide))
  replace gx := gx.S hs
  have f_4 : h_3.2.1 x 1 = i2 := by rw [eh_3]; exact hx_pi_at _ _ _ _
  refine lv_aload_n hx hb dX4_init_14 rfl (lv_at hl 0 rfl) ?_
  refine lv_iload_n hx hb dX4_init_15 rfl (lv_at hl 3 rfl) ?_
  refine hx_putiF hx hb hts hC_4 hown hW hT (hx_S.rf (M := [(120, 2)])) gx tt_120 2 (by decide) rfl kw_615 ⟨rfl, rfl, rfl⟩ rfl hin rfl (x := i3) ⟨by omega, by omega⟩ rfl rfl rfl (List.mem_singleton.mpr rfl) dX4_init_16 (fun H locs h_5 eh_5 hW hT hs => ?_)
  replace f_2 := (hs.o gx trivial rfl).1.trans f_2
  replace f_4 := (hs.o gx trivial rfl).1.trans f_4
  replace hz := hx_zr [0, 1, 2] hz hs gx trivial rfl
  replace hM := hM.tr (hs.mono (by decide))
  replace gx := gx.S hs
  have f_6 : h_5.2.1 x 2 = i3 := by rw [eh_5]; exact hx_pi_at _ _ _ _
  have f_7 : h_5.2.1 x 7 = 0 := (hz 7 rfl).1
  have f_8 : h_5.2.1 x 8 = 0 := (hz 8 rfl).1
  have hF : hx_F (fun k f => hx_o L h_5 f (h_5.2.1 x k) (h_5.2.2 x k)) T_f4 0 := ⟨hx_oi f_2 ⟨by omega, by omega⟩, hx_oi f_4 ⟨by omega, by omega⟩, hx_oi f_6 ⟨by omega, by omega⟩, hx_oi (hz 3 rfl).1 (by decide), hx_oi (hz 4 rfl).1 (by decide), hx_oi (hz 5 rfl).1 (by decide), hx_oi (hz 6 rfl).1 (by decide), hx_oi f_7 (by decide), hx_oi f_8 (by decide), hx_oi (hz 9 rfl).1 (by decide), trivial⟩
  have hT := hx_T_rt hT gx tt_4 rfl (hx_F_all hF)
  have hW := hx_W_rt hW gx tt_120 tt_4 (fun _ _ => rfl)
  have hM := hx_SX_rt (x := x) (t := 4) hM
  have gx := hx_rt_g (t := 4) gx
  have f_2 : (hx_rt h_5 x 4).2.1 x 0 = i1 := f_2
  have f_4 : (hx_rt h_5 x 4).2.1 x 1 = i2 := f_4
  have f_6 : (hx_rt h_5 x 4).2.1 x 2 = i3 := f_6
  have f_7 : (hx_rt h_5 x 4).2.1 x 7 = (0 : Int32) := f_7
  have f_8 : (hx_rt h_5 x 4).2.1 x 8 = (0 : Int32) := f_8
  generalize eh : hx_rt h_5 x 4 = h_9 at hT hW hM gx f_2 f_4 f_6 f_7 f_8
  exact hx_retv hx hb hr hlk hW ⟨hT, hM, gx, f_2, f_7, f_8, f_4, f_6⟩ dX4_init_19

def wNX1_init : Nat := 39841750331783499270806620732098434485851373765604512523155126574011154829922973741509671251130328067055022248666517854388823777687793486566497689622334536243263274
theorem wX1_init_c : hz_cd cX1_init wNX1_init 68 := ⟨by decide +kernel, by decide +kernel⟩
theorem dX1_init_0 : decode cX1_init 0 = .ok (.aload_n 0, 1) := dw_42 wX1_init_c rfl
theorem dX1_init_1 : decode cX1_init 1 = .ok (.invokespecial 3, 3) := dw_183 wX1_init_c 0 3 rfl rfl
theorem dX1_init_4 : decode cX1_init 4 = .ok (.aload_n 0, 1) := dw_42 wX1_init_c rfl
theorem dX1_init_5 : decode cX1_init 5 = .ok (.sipush 400, 3) := dw_17 wX1_init_c 1 144 rfl rfl rfl
theorem dX1_init_8 : decode cX1_init 8 = .ok (.newarray .int, 2) := by decide +kernel
theorem dX1_init_10 : decode cX1_init 10 = .ok (.putfield 9, 3) := dw_181 wX1_init_c 0 9 rfl rfl
theorem dX1_init_13 : decode cX1_init 13 = .ok (.aload_n 0, 1) := dw_42 wX1_init_c rfl
theorem dX1_init_14 : decode cX1_init 14 = .ok (.sipush 400, 3) := dw_17 wX1_init_c 1 144 rfl rfl rfl
theorem dX1_init_17 : decode cX1_init 17 = .ok (.newarray .int, 2) := by decide +kernel
theorem dX1_init_19 : decode cX1_init 19 = .ok (.putfield 15, 3) := dw_181 wX1_init_c 0 15 rfl rfl
theorem dX1_init_22 : decode cX1_init 22 = .ok (.aload_n 0, 1) := dw_42 wX1_init_c rfl
theorem dX1_init_23 : decode cX1_init 23 = .ok (.sipush 400, 3) := dw_17 wX1_init_c 1 144 rfl rfl rfl
theorem dX1_init_26 : decode cX1_init 26 = .ok (.newarray .int, 2) := by decide +kernel
theorem dX1_init_28 : decode cX1_init 28 = .ok (.putfield 18, 3) := dw_181 wX1_init_c 0 18 rfl rfl
theorem dX1_init_31 : decode cX1_init 31 = .ok (.aload_n 0, 1) := dw_42 wX1_init_c rfl
theorem dX1_init_32 : decode cX1_init 32 = .ok (.sipush 400, 3) := dw_17 wX1_init_c 1 144 rfl rfl rfl
theorem dX1_init_35 : decode cX1_init 35 = .ok (.newarray .int, 2) := by decide +kernel
theorem dX1_init_37 : decode cX1_init 37 = .ok (.putfield 21, 3) := dw_181 wX1_init_c 0 21 rfl rfl
theorem dX1_init_40 : decode cX1_init 40 = .ok (.aload_n 0, 1) := dw_42 wX1_init_c rfl
theorem dX1_init_41 : decode cX1_init 41 = .ok (.sipush 400, 3) := dw_17 wX1_init_c 1 144 rfl rfl rfl
theorem dX1_init_44 : decode cX1_init 44 = .ok (.newarray .int, 2) := by decide +kernel
theorem dX1_init_46 : decode cX1_init 46 = .ok (.putfield 24, 3) := dw_181 wX1_init_c 0 24 rfl rfl
theorem dX1_init_49 : decode cX1_init 49 = .ok (.aload_n 0, 1) := dw_42 wX1_init_c rfl
theorem dX1_init_50 : decode cX1_init 50 = .ok (.sipush 400, 3) := dw_17 wX1_init_c 1 144 rfl rfl rfl
theorem dX1_init_53 : decode cX1_init 53 = .ok (.newarray .int, 2) := by decide +kernel
theorem dX1_init_55 : decode cX1_init 55 = .ok (.putfield 27, 3) := dw_181 wX1_init_c 0 27 rfl rfl
theorem dX1_init_58 : decode cX1_init 58 = .ok (.aload_n 0, 1) := dw_42 wX1_init_c rfl
theorem dX1_init_59 : decode cX1_init 59 = .ok (.sipush 400, 3) := dw_17 wX1_init_c 1 144 rfl rfl rfl
theorem dX1_init_62 : decode cX1_init 62 = .ok (.newarray .boolean, 2) := by decide +kernel
theorem dX1_init_64 : decode cX1_init 64 = .ok (.putfield 30, 3) := dw_181 wX1_init_c 0 30 rfl rfl
theorem dX1_init_67 : decode cX1_init 67 = .ok (.return_, 1) := dw_177 wX1_init_c rfl
set_option maxHeartbeats 4000000 in
set_option maxRecDepth 100000 in
theorem t_X1_init (l : Launch) (dC : Nat → ClassId) (dI : Nat → Nat → Nat) (dA : Nat → ClassId) (L : List Nat) (h : hx_h) (sz : Nat) (x : Nat) (hT : hx_T T_tb L h) (gx : hx_g L h x 117) (hz : ∀ j, h.2.1 x j = 0 ∧ h.2.2 x j = none) : Met l yX1_init (Cond.code yX1_init cX1_init 1 none :: hx_all) ({ frames := 1, cells := 7, slots := 2800, locals := 12 }) (va_Pc [.ref x] (hx_B T_tb (P_ty dA) (dC, dI) vwCl L h sz)) (va_Qv (fun (u : List Nat × hx_h) => hx_T T_tb u.1 u.2 ∧ hx_S T_tb [(117, 1), (117, 2), (117, 3), (117, 4), (117, 5), (117, 6), (117, 7)] (hx_X L x) h u.1 u.2 ∧ hx_g u.1 u.2 x 1 ∧ u.2.2.1 x 0 = 0) (hx_E T_tb (P_ty dA) (dC, dI) vwCl (hx_A L sz)) (hx_A L sz)) 7 2800 (hx_A L sz) := by
  refine hx_met (lv := [(0, .ref x)]) (by decide +kernel) rfl (Nat.le_of_ble_eq_true rfl) rfl ?_
  intro p e s m below meth c hx hb hml hr hlk hts0 hown hin hsz hW ls hl
  have hts : ∀ w ∈ hx_all, w.before _ s = true := fun w hw => hts0 w (List.mem_cons_of_mem _ hw)
  have hown : s.vm.findClass "SmallCourt$Books" = some m.cls := hown
  have hin : meth.name = "<init>" := hin
  have hM : hx_S T_tb [(117, 1), (117, 2), (117, 3), (117, 4), (117, 5), (117, 6), (117, 7)] (hx_X L x) h L h := hx_SX_rf
  have hz : ∀ j, ([] : List Nat).contains j = false → h.2.1 x j = 0 ∧ h.2.2 x j = none := fun j _ => hz j
  refine lv_aload_n hx hb dX1_init_0 rfl (lv_at hl 0 rfl) ?_
  refine W.objInit hx hb hown (hts _ kw_195) (hts _ kw_117) (hts _ kw_118) rfl (by rw [hml]; exact hl.1) rfl dX1_init_1 (Nat.le_of_ble_eq_true rfl) (Nat.le_of_ble_eq_true rfl) ?_
  refine W.eq (g2 := F0 m 4 ls []) rfl ?_
  refine lv_aload_n hx hb dX1_init_4 rfl (lv_at hl 0 rfl) ?_
  refine lv_sipush (v := 400) hx hb dX1_init_5 (by decide) ?_
  refine hk_newa hx hb hts hW 13 tt_13 (atype := .int) rfl kw_186 (tys := P_ty dA) (t0 := 0) rfl (fun _ => Iff.rfl) rfl (i := (400 : Int32)) (by decide) (Nat.le_of_ble_eq_true rfl) (Nat.le_of_ble_eq_true rfl) (Nat.le_of_ble_eq_true rfl) dX1_init_8 (fun q_2 H h_1 eh_1 hqq_2 hW hs gq_2 => ?_)
  have nq_q_2 : ∀ a ∈ (hx_X L x), a ≠ q_2 := fun a ha z => hqq_2 (z ▸ (hM.1 a ha).1)
  have hT : hx_T T_tb (L ++ [q_2]) h_1 := by rw [eh_1]; exact hx_T_nw hT hqq_2 tt_13 rfl
  replace hz := hx_zr [] hz hs gx trivial rfl
  replace hM := hM.tr (hs.mono (by decide))
  replace gx := gx.S hs
  refine hx_putrF hx hb hts hC_1 hown hW hT (hx_S.rf (M := [(117, 1)])) gx tt_117 1 (by decide) rfl kw_198 ⟨rfl, rfl, rfl⟩ rfl hin rfl (x := (some q_2)) ⟨fun _ z => (by cases z), fun q hq => (by cases hq; exact ⟨gq_2.1, by rw [gq_2.2]; decide⟩)⟩ rfl rfl rfl (List.mem_singleton.mpr rfl) dX1_init_10 (fun H locs h_3 eh_3 hW hT hs => ?_)
  replace hz := hx_zr [1] hz hs gx trivial rfl
  replace hM := hM.tr (hs.mono (by decide))
  replace gx := gx.S hs
  replace gq_2 := gq_2.S hs
  have f_4 : h_3.2.2 x 1 = (some q_2) := by rw [eh_3]; exact hx_pr_at _ _ _ _
  refine lv_aload_n hx hb dX1_init_13 rfl (lv_at hl 0 rfl) ?_
  refine lv_sipush (v := 400) hx hb dX1_init_14 (by decide) ?_
  refine hk_newa hx hb hts hW 14 tt_14 (atype := .int) rfl kw_186 (tys := P_ty dA) (t0 := 0) rfl (fun _ => Iff.rfl) rfl (i := (400 : Int32)) (by decide) (Nat.le_of_ble_eq_true rfl) (Nat.le_of_ble_eq_true rfl) (Nat.le_of_ble_eq_true rfl) dX1_init_17 (fun q_6 H h_5 eh_5 hqq_6 hW hs gq_6 => ?_)
  have nq_q_6 : ∀ a ∈ (hx_X L x), a ≠ q_6 := fun a ha z => hqq_6 (z ▸ (hM.1 a ha).1)
  have hT : hx_T T_tb ((L ++ [q_2]) ++ [q_6]) h_5 := by rw [eh_5]; exact hx_T_nw hT hqq_6 tt_14 rfl
  replace f_4 := (hs.o gx trivial rfl).2.trans f_4
  replace hz := hx_zr [1] hz hs gx trivial rfl
  replace hM := hM.tr (hs.mono (by decide))
  replace gx := gx.S hs
  replace gq_2 := gq_2.S hs
  refine hx_putrF hx hb hts hC_1 hown hW hT (hx_S.rf (M := [(117, 2)])) gx tt_117 2 (by decide) rfl kw_199 ⟨rfl, rfl, rfl⟩ rfl hin rfl (x := (some q_6)) ⟨fun _ z => (by cases z), fun q hq => (by cases hq; exact ⟨gq_6.1, by rw [gq_6.2]; decide⟩)⟩ rfl rfl rfl (List.mem_singleton.mpr rfl) dX1_init_19 (fun H locs h_7 eh_7 hW hT hs => ?_)
  replace f_4 := (hs.o gx trivial rfl).2.trans f_4
  replace hz := hx_zr [1, 2] hz hs gx trivial rfl
  replace hM := hM.tr (hs.mono (by decide))
  replace gx := gx.S hs
  replace gq_2 := gq_2.S hs
  replace gq_6 := gq_6.S hs
  have f_8 : h_7.2.2 x 2 = (some q_6) := by rw [eh_7]; exact hx_pr_at _ _ _ _
  refine lv_aload_n hx hb dX1_init_22 rfl (lv_at hl 0 rfl) ?_
  refine lv_sipush (v := 400) hx hb dX1_init_23 (by decide) ?_
  refine hk_newa hx hb hts hW 15 tt_15 (atype := .int) rfl kw_186 (tys := P_ty dA) (t0 := 0) rfl (fun _ => Iff.rfl) rfl (i := (400 : Int32)) (by decide) (Nat.le_of_ble_eq_true rfl) (Nat.le_of_ble_eq_true rfl) (Nat.le_of_ble_eq_true rfl) dX1_init_26 (fun q_10 H h_9 eh_9 hqq_10 hW hs gq_10 => ?_)
  have nq_q_10 : ∀ a ∈ (hx_X L x), a ≠ q_10 := fun a ha z => hqq_10 (z ▸ (hM.1 a ha).1)
  have hT : hx_T T_tb (((L ++ [q_2]) ++ [q_6]) ++ [q_10]) h_9 := by rw [eh_9]; exact hx_T_nw hT hqq_10 tt_15 rfl
  replace f_4 := (hs.o gx trivial rfl).2.trans f_4
  replace f_8 := (hs.o gx trivial rfl).2.trans f_8
  replace hz := hx_zr [1, 2] hz hs gx trivial rfl
  replace hM := hM.tr (hs.mono (by decide))
  replace gx := gx.S hs
  replace gq_2 := gq_2.S hs
  replace gq_6 := gq_6.S hs
  refine hx_putrF hx hb hts hC_1 hown hW hT (hx_S.rf (M := [(117, 3)])) gx tt_117 3 (by decide) rfl kw_200 ⟨rfl, rfl, rfl⟩ rfl hin rfl (x := (some q_10)) ⟨fun _ z => (by cases z), fun q hq => (by cases hq; exact ⟨gq_10.1, by rw [gq_10.2]; decide⟩)⟩ rfl rfl rfl (List.mem_singleton.mpr rfl) dX1_init_28 (fun H locs h_11 eh_11 hW hT hs => ?_)
  replace f_4 := (hs.o gx trivial rfl).2.trans f_4
  replace f_8 := (hs.o gx trivial rfl).2.trans f_8
  replace hz := hx_zr [1, 2, 3] hz hs gx trivial rfl
  replace hM := hM.tr (hs.mono (by decide))
  replace gx := gx.S hs
  replace gq_2 := gq_2.S hs
  replace gq_6 := gq_6.S hs
  replace gq_10 := gq_10.S hs
  have f_12 : h_11.2.2 x 3 = (some q_10) := by rw [eh_11]; exact hx_pr_at _ _ _ _
  refine lv_aload_n hx hb dX1_init_31 rfl (lv_at hl 0 rfl) ?_
  refine lv_sipush (v := 400) hx hb dX1_init_32 (by decide) ?_
  refine hk_newa hx hb hts hW 16 tt_16 (atype := .int) rfl kw_186 (tys := P_ty dA) (t0 := 0) rfl (fun _ => Iff.rfl) rfl (i := (400 : Int32)) (by decide) (Nat.le_of_ble_eq_true rfl) (Nat.le_of_ble_eq_true rfl) (Nat.le_of_ble_eq_true rfl) dX1_init_35 (fun q_14 H h_13 eh_13 hqq_14 hW hs gq_14 => ?_)
  have nq_q_14 : ∀ a ∈ (hx_X L x), a ≠ q_14 := fun a ha z => hqq_14 (z ▸ (hM.1 a ha).1)
  have hT : hx_T T_tb ((((L ++ [q_2]) ++ [q_6]) ++ [q_10]) ++ [q_14]) h_13 := by rw [eh_13]; exact hx_T_nw hT hqq_14 tt_16 rfl
  replace f_4 := (hs.o gx trivial rfl).2.trans f_4
  replace f_8 := (hs.o gx trivial rfl).2.trans f_8
  replace f_12 := (hs.o gx trivial rfl).2.trans f_12
  replace hz := hx_zr [1, 2, 3] hz hs gx trivial rfl
  replace hM := hM.tr (hs.mono (by decide))
  replace gx := gx.S hs
  replace gq_2 := gq_2.S hs
  replace gq_6 := gq_6.S hs
  replace gq_10 := gq_10.S hs
  refine hx_putrF hx hb hts hC_1 hown hW hT (hx_S.rf (M := [(117, 4)])) gx tt_117 4 (by decide) rfl kw_201 ⟨rfl, rfl, rfl⟩ rfl hin rfl (x := (some q_14)) ⟨fun _ z => (by cases z), fun q hq => (by cases hq; exact ⟨gq_14.1, by rw [gq_14.2]; decide⟩)⟩ rfl rfl rfl (List.mem_singleton.mpr rfl) dX1_init_37 (fun H locs h_15 eh_15 hW hT hs => ?_)
  replace f_4 := (hs.o gx trivial rfl).2.trans f_4
  replace f_8 := (hs.o gx trivial rfl).2.trans f_8
  replace f_12 := (hs.o gx trivial rfl).2.trans f_12
  replace hz := hx_zr [1, 2, 3, 4] hz hs gx trivial rfl
  replace hM := hM.tr (hs.mono (by decide))
  replace gx := gx.S hs
  replace gq_2 := gq_2.S hs
  replace gq_6 := gq_6.S hs
  replace gq_10 := gq_10.S hs
  replace gq_14 := gq_14.S hs
  have f_16 : h_15.2.2 x 4 = (some q_14) := by rw [eh_15]; exact hx_pr_at _ _ _ _
  refine lv_aload_n hx hb dX1_init_40 rfl (lv_at hl 0 rfl) ?_
  refine lv_sipush (v := 400) hx hb dX1_init_41 (by decide) ?_
  refine hk_newa hx hb hts hW 17 tt_17 (atype := .int) rfl kw_186 (tys := P_ty dA) (t0 := 0) rfl (fun _ => Iff.rfl) rfl (i := (400 : Int32)) (by decide) (Nat.le_of_ble_eq_true rfl) (Nat.le_of_ble_eq_true rfl) (Nat.le_of_ble_eq_true rfl) dX1_init_44 (fun q_18 H h_17 eh_17 hqq_18 hW hs gq_18 => ?_)
  have nq_q_18 : ∀ a ∈ (hx_X L x), a ≠ q_18 := fun a ha z => hqq_18 (z ▸ (hM.1 a ha).1)
  have hT : hx_T T_tb (((((L ++ [q_2]) ++ [q_6]) ++ [q_10]) ++ [q_14]) ++ [q_18]) h_17 := by rw [eh_17]; exact hx_T_nw hT hqq_18 tt_17 rfl
  replace f_4 := (hs.o gx trivial rfl).2.trans f_4
  replace f_8 := (hs.o gx trivial rfl).2.trans f_8
  replace f_12 := (hs.o gx trivial rfl).2.trans f_12
  replace f_16 := (hs.o gx trivial rfl).2.trans f_16
  replace hz := hx_zr [1, 2, 3, 4] hz hs gx trivial rfl
  replace hM := hM.tr (hs.mono (by decide))
  replace gx := gx.S hs
  replace gq_2 := gq_2.S hs
  replace gq_6 := gq_6.S hs
  replace gq_10 := gq_10.S hs
  replace gq_14 := gq_14.S hs
  refine hx_putrF hx hb hts hC_1 hown hW hT (hx_S.rf (M := [(117, 5)])) gx tt_117 5 (by decide) rfl kw_202 ⟨rfl, rfl, rfl⟩ rfl hin rfl (x := (some q_18)) ⟨fun _ z => (by cases z), fun q hq => (by cases hq; exact ⟨gq_18.1, by rw [gq_18.2]; decide⟩)⟩ rfl rfl rfl (List.mem_singleton.mpr rfl) dX1_init_46 (fun H locs h_19 eh_19 hW hT hs => ?_)
  replace f_4 := (hs.o gx trivial rfl).2.trans f_4
  replace f_8 := (hs.o gx trivial rfl).2.trans f_8
  replace f_12 := (hs.o gx trivial rfl).2.trans f_12
  replace f_16 := (hs.o gx trivial rfl).2.trans f_16
  replace hz := hx_zr [1, 2, 3, 4, 5] hz hs gx trivial rfl
  replace hM := hM.tr (hs.mono (by decide))
  replace gx := gx.S hs
  replace gq_2 := gq_2.S hs
  replace gq_6 := gq_6.S hs
  replace gq_10 := gq_10.S hs
  replace gq_14 := gq_14.S hs
  replace gq_18 := gq_18.S hs
  have f_20 : h_19.2.2 x 5 = (some q_18) := by rw [eh_19]; exact hx_pr_at _ _ _ _
  refine lv_aload_n hx hb dX1_init_49 rfl (lv_at hl 0 rfl) ?_
  refine lv_sipush (v := 400) hx hb dX1_init_50 (by decide) ?_
  refine hk_newa hx hb hts hW 18 tt_18 (atype := .int) rfl kw_186 (tys := P_ty dA) (t0 := 0) rfl (fun _ => Iff.rfl) rfl (i := (400 : Int32)) (by decide) (Nat.le_of_ble_eq_true rfl) (Nat.le_of_ble_eq_true rfl) (Nat.le_of_ble_eq_true rfl) dX1_init_53 (fun q_22 H h_21 eh_21 hqq_22 hW hs gq_22 => ?_)
  have nq_q_22 : ∀ a ∈ (hx_X L x), a ≠ q_22 := fun a ha z => hqq_22 (z ▸ (hM.1 a ha).1)
  have hT : hx_T T_tb ((((((L ++ [q_2]) ++ [q_6]) ++ [q_10]) ++ [q_14]) ++ [q_18]) ++ [q_22]) h_21 := by rw [eh_21]; exact hx_T_nw hT hqq_22 tt_18 rfl
  replace f_4 := (hs.o gx trivial rfl).2.trans f_4
  replace f_8 := (hs.o gx trivial rfl).2.trans f_8
  replace f_12 := (hs.o gx trivial rfl).2.trans f_12
  replace f_16 := (hs.o gx trivial rfl).2.trans f_16
  replace f_20 := (hs.o gx trivial rfl).2.trans f_20
  replace hz := hx_zr [1, 2, 3, 4, 5] hz hs gx trivial rfl
  replace hM := hM.tr (hs.mono (by decide))
  replace gx := gx.S hs
  replace gq_2 := gq_2.S hs
  replace gq_6 := gq_6.S hs
  replace gq_10 := gq_10.S hs
  replace gq_14 := gq_14.S hs
  replace gq_18 := gq_18.S hs
  refine hx_putrF hx hb hts hC_1 hown hW hT (hx_S.rf (M := [(117, 6)])) gx tt_117 6 (by decide) rfl kw_203 ⟨rfl, rfl, rfl⟩ rfl hin rfl (x := (some q_22)) ⟨fun _ z => (by cases z), fun q hq => (by cases hq; exact ⟨gq_22.1, by rw [gq_22.2]; decide⟩)⟩ rfl rfl rfl (List.mem_singleton.mpr rfl) dX1_init_55 (fun H locs h_23 eh_23 hW hT hs => ?_)
  replace f_4 := (hs.o gx trivial rfl).2.trans f_4
  replace f_8 := (hs.o gx trivial rfl).2.trans f_8
  replace f_12 := (hs.o gx trivial rfl).2.trans f_12
  replace f_16 := (hs.o gx trivial rfl).2.trans f_16
  replace f_20 := (hs.o gx trivial rfl).2.trans f_20
  replace hz := hx_zr [1, 2, 3, 4, 5, 6] hz hs gx trivial rfl
  replace hM := hM.tr (hs.mono (by decide))
  replace gx := gx.S hs
  replace gq_2 := gq_2.S hs
  replace gq_6 := gq_6.S hs
  replace gq_10 := gq_10.S hs
  replace gq_14 := gq_14.S hs
  replace gq_18 := gq_18.S hs
  replace gq_22 := gq_22.S hs
  have f_24 : h_23.2.2 x 6 = (some q_22) := by rw [eh_23]; exact hx_pr_at _ _ _ _
  refine lv_aload_n hx hb dX1_init_58 rfl (lv_at hl 0 rfl) ?_
  refine lv_sipush (v := 400) hx hb dX1_init_59 (by decide) ?_
  refine hk_newa hx hb hts hW 19 tt_19 (atype := .boolean) rfl kw_222 (tys := P_ty dA) (t0 := 2) rfl (fun _ => Iff.rfl) rfl (i := (400 : Int32)) (by decide) (Nat.le_of_ble_eq_true rfl) (Nat.le_of_ble_eq_true rfl) (Nat.le_of_ble_eq_true rfl) dX1_init_62 (fun q_26 H h_25 eh_25 hqq_26 hW hs gq_26 => ?_)
  have nq_q_26 : ∀ a ∈ (hx_X L x), a ≠ q_26 := fun a ha z => hqq_26 (z ▸ (hM.1 a ha).1)
  have hT : hx_T T_tb (((((((L ++ [q_2]) ++ [q_6]) ++ [q_10]) ++ [q_14]) ++ [q_18]) ++ [q_22]) ++ [q_26]) h_25 := by rw [eh_25]; exact hx_T_nw hT hqq_26 tt_19 rfl
  replace f_4 := (hs.o gx trivial rfl).2.trans f_4
  replace f_8 := (hs.o gx trivial rfl).2.trans f_8
  replace f_12 := (hs.o gx trivial rfl).2.trans f_12
  replace f_16 := (hs.o gx trivial rfl).2.trans f_16
  replace f_20 := (hs.o gx trivial rfl).2.trans f_20
  replace f_24 := (hs.o gx trivial rfl).2.trans f_24
  replace hz := hx_zr [1, 2, 3, 4, 5, 6] hz hs gx trivial rfl
  replace hM := hM.tr (hs.mono (by decide))
  replace gx := gx.S hs
  replace gq_2 := gq_2.S hs
  replace gq_6 := gq_6.S hs
  replace gq_10 := gq_10.S hs
  replace gq_14 := gq_14.S hs
  replace gq_18 := gq_18.S hs
  replace gq_22 := gq_22.S hs
  refine hx_putrF hx hb hts hC_1 hown hW hT (hx_S.rf (M := [(117, 7)])) gx tt_117 7 (by decide) rfl kw_204 ⟨rfl, rfl, rfl⟩ rfl hin rfl (x := (some q_26)) ⟨fun _ z => (by cases z), fun q hq => (by cases hq; exact ⟨gq_26.1, by rw [gq_26.2]; decide⟩)⟩ rfl rfl rfl (List.mem_singleton.mpr rfl) dX1_init_64 (fun H locs h_27 eh_27 hW hT hs => ?_)
  replace f_4 := (hs.o gx trivial rfl).2.trans f_4
  replace f_8 := (hs.o gx trivial rfl).2.trans f_8
  replace f_12 := (hs.o gx trivial rfl).2.trans f_12
  replace f_16 := (hs.o gx trivial rfl).2.trans f_16
  replace f_20 := (hs.o gx trivial rfl).2.trans f_20
  replace f_24 := (hs.o gx trivial rfl).2.trans f_24
  replace hz := hx_zr [1, 2, 3, 4, 5, 6, 7] hz hs gx trivial rfl
  replace hM := hM.tr (hs.mono (by decide))
  replace gx := gx.S hs
  replace gq_2 := gq_2.S hs
  replace gq_6 := gq_6.S hs
  replace gq_10 := gq_10.S hs
  replace gq_14 := gq_14.S hs
  replace gq_18 := gq_18.S hs
  replace gq_22 := gq_22.S hs
  replace gq_26 := gq_26.S hs
  have f_28 : h_27.2.2 x 7 = (some q_26) := by rw [eh_27]; exact hx_pr_at _ _ _ _
  have f_29 : h_27.2.1 x 0 = 0 := (hz 0 rfl).1
  have hF : hx_F (fun k f => hx_o (((((((L ++ [q_2]) ++ [q_6]) ++ [q_10]) ++ [q_14]) ++ [q_18]) ++ [q_22]) ++ [q_26]) h_27 f (h_27.2.1 x k) (h_27.2.2 x k)) T_f1 0 := ⟨hx_oi f_29 (by decide), hx_or f_4 gq_2 (by decide), hx_or f_8 gq_6 (by decide), hx_or f_12 gq_10 (by decide), hx_or f_16 gq_14 (by decide), hx_or f_20 gq_18 (by decide), hx_or f_24 gq_22 (by decide), hx_or f_28 gq_26 (by decide), trivial⟩
  have hT := hx_T_rt hT gx tt_1 rfl (hx_F_all hF)
  have hW := hx_W_rt hW gx tt_117 tt_1 (fun _ _ => rfl)
  have hM := hx_SX_rt (x := x) (t := 1) hM
  have gq_2 := hx_rt_o (t := 1) gq_2 (gq_2.ne gx (by decide))
  have gq_6 := hx_rt_o (t := 1) gq_6 (gq_6.ne gx (by decide))
  have gq_10 := hx_rt_o (t := 1) gq_10 (gq_10.ne gx (by decide))
  have gq_14 := hx_rt_o (t := 1) gq_14 (gq_14.ne gx (by decide))
  have gq_18 := hx_rt_o (t := 1) gq_18 (gq_18.ne gx (by decide))
  have gq_22 := hx_rt_o (t := 1) gq_22 (gq_22.ne gx (by decide))
  have gq_26 := hx_rt_o (t := 1) gq_26 (gq_26.ne gx (by decide))
  have gx := hx_rt_g (t := 1) gx
  have f_4 : (hx_rt h_27 x 1).2.2 x 1 = some q_2 := f_4
  have f_8 : (hx_rt h_27 x 1).2.2 x 2 = some q_6 := f_8
  have f_12 : (hx_rt h_27 x 1).2.2 x 3 = some q_10 := f_12
  have f_16 : (hx_rt h_27 x 1).2.2 x 4 = some q_14 := f_16
  have f_20 : (hx_rt h_27 x 1).2.2 x 5 = some q_18 := f_20
  have f_24 : (hx_rt h_27 x 1).2.2 x 6 = some q_22 := f_24
  have f_28 : (hx_rt h_27 x 1).2.2 x 7 = some q_26 := f_28
  have f_29 : (hx_rt h_27 x 1).2.1 x 0 = (0 : Int32) := f_29
  generalize eh : hx_rt h_27 x 1 = h_30 at hT hW hM gx gq_2 gq_6 gq_10 gq_14 gq_18 gq_22 gq_26 f_4 f_8 f_12 f_16 f_20 f_24 f_28 f_29
  refine W.widen (k := 7) (n := 2800) (Nat.le_of_ble_eq_true rfl) (Nat.le_of_ble_eq_true rfl) ?_
  exact hx_retv hx hb hr hlk hW ⟨hT, hM, gx, f_29⟩ dX1_init_67

def wNX3_init : Nat := 1786329461767022515613132656919836270670839761883963750441197262474314229877155001476858205585080617793816364264730965802
theorem wX3_init_c : hz_cd cX3_init wNX3_init 50 := ⟨by decide +kernel, by decide +kernel⟩
theorem dX3_init_0 : decode cX3_init 0 = .ok (.aload_n 0, 1) := dw_42 wX3_init_c rfl
theorem dX3_init_1 : decode cX3_init 1 = .ok (.invokespecial 3, 3) := dw_183 wX3_init_c 0 3 rfl rfl
theorem dX3_init_4 : decode cX3_init 4 = .ok (.aload_n 0, 1) := dw_42 wX3_init_c rfl
theorem dX3_init_5 : decode cX3_init 5 = .ok (.sipush 600, 3) := dw_17 wX3_init_c 2 88 rfl rfl rfl
theorem dX3_init_8 : decode cX3_init 8 = .ok (.newarray .int, 2) := by decide +kernel
theorem dX3_init_10 : decode cX3_init 10 = .ok (.putfield 9, 3) := dw_181 wX3_init_c 0 9 rfl rfl
theorem dX3_init_13 : decode cX3_init 13 = .ok (.aload_n 0, 1) := dw_42 wX3_init_c rfl
theorem dX3_init_14 : decode cX3_init 14 = .ok (.sipush 600, 3) := dw_17 wX3_init_c 2 88 rfl rfl rfl
theorem dX3_init_17 : decode cX3_init 17 = .ok (.newarray .int, 2) := by decide +kernel
theorem dX3_init_19 : decode cX3_init 19 = .ok (.putfield 15, 3) := dw_181 wX3_init_c 0 15 rfl rfl
theorem dX3_init_22 : decode cX3_init 22 = .ok (.aload_n 0, 1) := dw_42 wX3_init_c rfl
theorem dX3_init_23 : decode cX3_init 23 = .ok (.sipush 600, 3) := dw_17 wX3_init_c 2 88 rfl rfl rfl
theorem dX3_init_26 : decode cX3_init 26 = .ok (.newarray .int, 2) := by decide +kernel
theorem dX3_init_28 : decode cX3_init 28 = .ok (.putfield 18, 3) := dw_181 wX3_init_c 0 18 rfl rfl
theorem dX3_init_31 : decode cX3_init 31 = .ok (.aload_n 0, 1) := dw_42 wX3_init_c rfl
theorem dX3_init_32 : decode cX3_init 32 = .ok (.sipush 600, 3) := dw_17 wX3_init_c 2 88 rfl rfl rfl
theorem dX3_init_35 : decode cX3_init 35 = .ok (.newarray .int, 2) := by decide +kernel
theorem dX3_init_37 : decode cX3_init 37 = .ok (.putfield 21, 3) := dw_181 wX3_init_c 0 21 rfl rfl
theorem dX3_init_40 : decode cX3_init 40 = .ok (.aload_n 0, 1) := dw_42 wX3_init_c rfl
theorem dX3_init_41 : decode cX3_init 41 = .ok (.sipush 600, 3) := dw_17 wX3_init_c 2 88 rfl rfl rfl
theorem dX3_init_44 : decode cX3_init 44 = .ok (.newarray .int, 2) := by decide +kernel
theorem dX3_init_46 : decode cX3_init 46 = .ok (.putfield 24, 3) := dw_181 wX3_init_c 0 24 rfl rfl
theorem dX3_init_49 : decode cX3_init 49 = .ok (.return_, 1) := dw_177 wX3_init_c rfl
def wNX5_init : Nat := 7673242000138693454733203114367239705792195774872142126822242935568265073700172868428896642180913821405633419422313814986630149930
theorem wX5_init_c : hz_cd cX5_init wNX5_init 54 := ⟨by decide +kernel, by decide +kernel⟩
theorem dX5_init_0 : decode cX5_init 0 = .ok (.aload_n 0, 1) := dw_42 wX5_init_c rfl
theorem dX5_init_1 : decode cX5_init 1 = .ok (.invokespecial 3, 3) := dw_183 wX5_init_c 0 3 rfl rfl
theorem dX5_init_4 : decode cX5_init 4 = .ok (.aload_n 0, 1) := dw_42 wX5_init_c rfl
theorem dX5_init_5 : decode cX5_init 5 = .ok (.iconst 4, 1) := dw_7 wX5_init_c rfl
theorem dX5_init_6 : decode cX5_init 6 = .ok (.newarray .int, 2) := by decide +kernel
theorem dX5_init_8 : decode cX5_init 8 = .ok (.putfield 9, 3) := dw_181 wX5_init_c 0 9 rfl rfl
theorem dX5_init_11 : decode cX5_init 11 = .ok (.aload_n 0, 1) := dw_42 wX5_init_c rfl
theorem dX5_init_12 : decode cX5_init 12 = .ok (.iconst 4, 1) := dw_7 wX5_init_c rfl
theorem dX5_init_13 : decode cX5_init 13 = .ok (.newarray .int, 2) := by decide +kernel
theorem dX5_init_15 : decode cX5_init 15 = .ok (.putfield 15, 3) := dw_181 wX5_init_c 0 15 rfl rfl
theorem dX5_init_18 : decode cX5_init 18 = .ok (.aload_n 0, 1) := dw_42 wX5_init_c rfl
theorem dX5_init_19 : decode cX5_init 19 = .ok (.iconst 4, 1) := dw_7 wX5_init_c rfl
theorem dX5_init_20 : decode cX5_init 20 = .ok (.newarray .int, 2) := by decide +kernel
theorem dX5_init_22 : decode cX5_init 22 = .ok (.putfield 18, 3) := dw_181 wX5_init_c 0 18 rfl rfl
theorem dX5_init_25 : decode cX5_init 25 = .ok (.aload_n 0, 1) := dw_42 wX5_init_c rfl
theorem dX5_init_26 : decode cX5_init 26 = .ok (.iconst 4, 1) := dw_7 wX5_init_c rfl
theorem dX5_init_27 : decode cX5_init 27 = .ok (.newarray .int, 2) := by decide +kernel
theorem dX5_init_29 : decode cX5_init 29 = .ok (.putfield 21, 3) := dw_181 wX5_init_c 0 21 rfl rfl
theorem dX5_init_32 : decode cX5_init 32 = .ok (.aload_n 0, 1) := dw_42 wX5_init_c rfl
theorem dX5_init_33 : decode cX5_init 33 = .ok (.iconst 4, 1) := dw_7 wX5_init_c rfl
theorem dX5_init_34 : decode cX5_init 34 = .ok (.newarray .int, 2) := by decide +kernel
theorem dX5_init_36 : decode cX5_init 36 = .ok (.putfield 24, 3) := dw_181 wX5_init_c 0 24 rfl rfl
theorem dX5_init_39 : decode cX5_init 39 = .ok (.aload_n 0, 1) := dw_42 wX5_init_c rfl
theorem dX5_init_40 : decode cX5_init 40 = .ok (.iconst 4, 1) := dw_7 wX5_init_c rfl
theorem dX5_init_41 : decode cX5_init 41 = .ok (.newarray .int, 2) := by decide +kernel
theorem dX5_init_43 : decode cX5_init 43 = .ok (.putfield 27, 3) := dw_181 wX5_init_c 0 27 rfl rfl
theorem dX5_init_46 : decode cX5_init 46 = .ok (.aload_n 0, 1) := dw_42 wX5_init_c rfl
theorem dX5_init_47 : decode cX5_init 47 = .ok (.iconst 4, 1) := dw_7 wX5_init_c rfl
theorem dX5_init_48 : decode cX5_init 48 = .ok (.newarray .int, 2) := by decide +kernel
theorem dX5_init_50 : decode cX5_init 50 = .ok (.putfield 30, 3) := dw_181 wX5_init_c 0 30 rfl rfl
theorem dX5_init_53 : decode cX5_init 53 = .ok (.return_, 1) := dw_177 wX5_init_c rfl
theorem dX6_init_0 : decode cX6_init 0 = .ok (.aload_n 0, 1) := by decide +kernel
theorem dX6_init_1 : decode cX6_init 1 = .ok (.invokespecial 3, 3) := by decide +kernel
theorem dX6_init_4 : decode cX6_init 4 = .ok (.aload_n 0, 1) := by decide +kernel
theorem dX6_init_5 : decode cX6_init 5 = .ok (.iconst 0, 1) := by decide +kernel
theorem dX6_init_6 : decode cX6_init 6 = .ok (.newarray .byte, 2) := by decide +kernel
theorem dX6_init_8 : decode cX6_init 8 = .ok (.putfield 9, 3) := by decide +kernel
theorem dX6_init_11 : decode cX6_init 11 = .ok (.return_, 1) := by decide +kernel
set_option maxHeartbeats 4000000 in
set_option maxRecDepth 100000 in
theorem t_X6_init (l : Launch) (dC : Nat → ClassId) (dI : Nat → Nat → Nat) (dA : Nat → ClassId) (L : List Nat) (h : hx_h) (sz : Nat) (x : Nat) (hT : hx_T T_tb L h) (gx : hx_g L h x 122) (hz : ∀ j, h.2.1 x j = 0 ∧ h.2.2 x j = none) : Met l yX6_init (Cond.code yX6_init cX6_init 1 none :: hx_all) ({ frames := 1, cells := 1, slots := 0, locals := 12 }) (va_Pc [.ref x] (hx_B T_tb (P_ty dA) (dC, dI) vwCl L h sz)) (va_Qv (fun (u : List Nat × hx_h) => hx_T T_tb u.1 u.2 ∧ hx_S T_tb [(122, 0)] (hx_X L x) h u.1 u.2 ∧ hx_g u.1 u.2 x 6) (hx_E T_tb (P_ty dA) (dC, dI) vwCl (hx_A L sz)) (hx_A L sz)) 1 0 (hx_A L sz) := by
  refine hx_met (lv := [(0, .ref x)]) (by decide +kernel) rfl (Nat.le_of_ble_eq_true rfl) rfl ?_
  intro p e s m below meth c hx hb hml hr hlk hts0 hown hin hsz hW ls hl
  have hts : ∀ w ∈ hx_all, w.before _ s = true := fun w hw => hts0 w (List.mem_cons_of_mem _ hw)
  have hown : s.vm.findClass "SmallCourt$Reader" = some m.cls := hown
  have hin : meth.name = "<init>" := hin
  have hM : hx_S T_tb [(122, 0)] (hx_X L x) h L h := hx_SX_rf
  have hz : ∀ j, ([] : List Nat).contains j = false → h.2.1 x j = 0 ∧ h.2.2 x j = none := fun j _ => hz j
  refine lv_aload_n hx hb dX6_init_0 rfl (lv_at hl 0 rfl) ?_
  refine W.objInit hx hb hown (hts _ kw_124) (hts _ kw_117) (hts _ kw_118) rfl (by rw [hml]; exact hl.1) rfl dX6_init_1 (Nat.le_of_ble_eq_true rfl) (Nat.le_of_ble_eq_true rfl) ?_
  refine W.eq (g2 := F0 m 4 ls []) rfl ?_
  refine lv_aload_n hx hb dX6_init_4 rfl (lv_at hl 0 rfl) ?_
  refine lv_iconst (v := 0) hx hb dX6_init_5 (by decide) ?_
  refine hk_newa hx hb hts hW 34 tt_34 (atype := .byte) rfl kw_147 (tys := P_ty dA) (t0 := 1) rfl (fun _ => Iff.rfl) rfl (i := (0 : Int32)) (by decide) (Nat.le_of_ble_eq_true rfl) (Nat.le_of_ble_eq_true rfl) (Nat.le_of_ble_eq_true rfl) dX6_init_6 (fun q_2 H h_1 eh_1 hqq_2 hW hs gq_2 => ?_)
  have nq_q_2 : ∀ a ∈ (hx_X L x), a ≠ q_2 := fun a ha z => hqq_2 (z ▸ (hM.1 a ha).1)
  have hT : hx_T T_tb (L ++ [q_2]) h_1 := by rw [eh_1]; exact hx_T_nw hT hqq_2 tt_34 rfl
  replace hz := hx_zr [] hz hs gx trivial rfl
  replace hM := hM.tr (hs.mono (by decide))
  replace gx := gx.S hs
  refine hx_putr hx hb hts hC_6 hown hW hT (hx_S.rf (M := [(122, 0)])) gx tt_122 0 (by decide) rfl kw_125 ⟨rfl, rfl, rfl⟩ rfl (x := (some q_2)) ⟨fun _ z => (by cases z), fun q hq => (by cases hq; exact ⟨gq_2.1, by rw [gq_2.2]; decide⟩)⟩ rfl rfl rfl (List.mem_singleton.mpr rfl) dX6_init_8 (fun H locs h_3 eh_3 hW hT hs => ?_)
  replace hz := hx_zr [0] hz hs gx trivial rfl
  replace hM := hM.tr (hs.mono (by decide))
  replace gx := gx.S hs
  replace gq_2 := gq_2.S hs
  have f_4 : h_3.2.2 x 0 = (some q_2) := by rw [eh_3]; exact hx_pr_at _ _ _ _
  have hF : hx_F (fun k f => hx_o (L ++ [q_2]) h_3 f (h_3.2.1 x k) (h_3.2.2 x k)) T_f6 0 := ⟨hx_or f_4 gq_2 (by decide), hx_oi (hz 1 rfl).1 (by decide), hx_oi (hz 2 rfl).1 (by decide), hx_oi (hz 3 rfl).1 (by decide), hx_oi (hz 4 rfl).1 (by decide), hx_oi (hz 5 rfl).1 (by decide), hx_on (hz 6 rfl).2, trivial⟩
  have hT := hx_T_rt hT gx tt_6 rfl (hx_F_all hF)
  have hW := hx_W_rt hW gx tt_122 tt_6 (fun _ _ => rfl)
  have hM := hx_SX_rt (x := x) (t := 6) hM
  have gq_2 := hx_rt_o (t := 6) gq_2 (gq_2.ne gx (by decide))
  have gx := hx_rt_g (t := 6) gx
  have f_4 : (hx_rt h_3 x 6).2.2 x 0 = some q_2 := f_4
  generalize eh : hx_rt h_3 x 6 = h_5 at hT hW hM gx gq_2 f_4
  refine W.widen (k := 1) (n := 0) (Nat.le_of_ble_eq_true rfl) (Nat.le_of_ble_eq_true rfl) ?_
  exact hx_retv hx hb hr hlk hW ⟨hT, hM, gx⟩ dX6_init_11

def wNX7_init : Nat := 378278320891285726726259696342711761330271561341839609621088562561014359831638900158309678067005226
theorem wX7_init_c : hz_cd cX7_init wNX7_init 41 := ⟨by decide +kernel, by decide +kernel⟩
theorem dX7_init_0 : decode cX7_init 0 = .ok (.aload_n 0, 1) := dw_42 wX7_init_c rfl
theorem dX7_init_1 : decode cX7_init 1 = .ok (.invokespecial 3, 3) := dw_183 wX7_init_c 0 3 rfl rfl
theorem dX7_init_4 : decode cX7_init 4 = .ok (.aload_n 0, 1) := dw_42 wX7_init_c rfl
theorem dX7_init_5 : decode cX7_init 5 = .ok (.iconst (-1), 1) := dw_2 wX7_init_c rfl
theorem dX7_init_6 : decode cX7_init 6 = .ok (.putfield 9, 3) := dw_181 wX7_init_c 0 9 rfl rfl
theorem dX7_init_9 : decode cX7_init 9 = .ok (.aload_n 0, 1) := dw_42 wX7_init_c rfl
theorem dX7_init_10 : decode cX7_init 10 = .ok (.bipush 100, 2) := dw_16 wX7_init_c 100 rfl rfl rfl
theorem dX7_init_12 : decode cX7_init 12 = .ok (.newarray .int, 2) := by decide +kernel
theorem dX7_init_14 : decode cX7_init 14 = .ok (.putfield 15, 3) := dw_181 wX7_init_c 0 15 rfl rfl
theorem dX7_init_17 : decode cX7_init 17 = .ok (.aload_n 0, 1) := dw_42 wX7_init_c rfl
theorem dX7_init_18 : decode cX7_init 18 = .ok (.sipush 1600, 3) := dw_17 wX7_init_c 6 64 rfl rfl rfl
theorem dX7_init_21 : decode cX7_init 21 = .ok (.newarray .int, 2) := by decide +kernel
theorem dX7_init_23 : decode cX7_init 23 = .ok (.putfield 19, 3) := dw_181 wX7_init_c 0 19 rfl rfl
theorem dX7_init_26 : decode cX7_init 26 = .ok (.aload_n 0, 1) := dw_42 wX7_init_c rfl
theorem dX7_init_27 : decode cX7_init 27 = .ok (.iconst 4, 1) := dw_7 wX7_init_c rfl
theorem dX7_init_28 : decode cX7_init 28 = .ok (.newarray .int, 2) := by decide +kernel
theorem dX7_init_30 : decode cX7_init 30 = .ok (.putfield 22, 3) := dw_181 wX7_init_c 0 22 rfl rfl
theorem dX7_init_33 : decode cX7_init 33 = .ok (.aload_n 0, 1) := dw_42 wX7_init_c rfl
theorem dX7_init_34 : decode cX7_init 34 = .ok (.iconst 4, 1) := dw_7 wX7_init_c rfl
theorem dX7_init_35 : decode cX7_init 35 = .ok (.newarray .int, 2) := by decide +kernel
theorem dX7_init_37 : decode cX7_init 37 = .ok (.putfield 25, 3) := dw_181 wX7_init_c 0 25 rfl rfl
theorem dX7_init_40 : decode cX7_init 40 = .ok (.return_, 1) := dw_177 wX7_init_c rfl
theorem dX8_init_0 : decode cX8_init 0 = .ok (.aload_n 0, 1) := by decide +kernel
theorem dX8_init_1 : decode cX8_init 1 = .ok (.invokespecial 3, 3) := by decide +kernel
theorem dX8_init_4 : decode cX8_init 4 = .ok (.aload_n 0, 1) := by decide +kernel
theorem dX8_init_5 : decode cX8_init 5 = .ok (.bipush 8, 2) := by decide +kernel
theorem dX8_init_7 : decode cX8_init 7 = .ok (.newarray .int, 2) := by decide +kernel
theorem dX8_init_9 : decode cX8_init 9 = .ok (.putfield 9, 3) := by decide +kernel
theorem dX8_init_12 : decode cX8_init 12 = .ok (.aload_n 0, 1) := by decide +kernel
theorem dX8_init_13 : decode cX8_init 13 = .ok (.bipush 8, 2) := by decide +kernel
theorem dX8_init_15 : decode cX8_init 15 = .ok (.anewarray 15, 3) := by decide +kernel
theorem dX8_init_18 : decode cX8_init 18 = .ok (.putfield 17, 3) := by decide +kernel
theorem dX8_init_21 : decode cX8_init 21 = .ok (.aload_n 0, 1) := by decide +kernel
theorem dX8_init_22 : decode cX8_init 22 = .ok (.sipush 2048, 3) := by decide +kernel
theorem dX8_init_25 : decode cX8_init 25 = .ok (.newarray .int, 2) := by decide +kernel
theorem dX8_init_27 : decode cX8_init 27 = .ok (.putfield 21, 3) := by decide +kernel
theorem dX8_init_30 : decode cX8_init 30 = .ok (.return_, 1) := by decide +kernel
set_option maxHeartbeats 4000000 in
set_option maxRecDepth 100000 in
theorem t_X8_init (l : Launch) (dC : Nat → ClassId) (dI : Nat → Nat → Nat) (dA : Nat → ClassId) (L : List Nat) (h : hx_h) (sz : Nat) (b0 : hx_z) (x : Nat) (hT : hx_T T_tb L h) (gx : hx_g L h x 124) (hz : ∀ j, h.2.1 x j = 0 ∧ h.2.2 x j = none) : Met l yX8_init (Cond.code yX8_init cX8_init 1 none :: hx_all) ({ frames := 1, cells := 3, slots := 2064, locals := 12 }) (va_Pc [.ref x] (hx_BX T_tb (P_ty dA) (dC, dI) vwCl L h sz b0)) (va_Qv (fun (u : List Nat × hx_h) => hx_T T_tb u.1 u.2 ∧ hx_S T_tb [(124, 2), (124, 3), (124, 4)] (hx_X L x) h u.1 u.2 ∧ hx_g u.1 u.2 x 8 ∧ u.2.2.1 x 0 = 0 ∧ u.2.2.1 x 1 = 0 ∧ (∃ q, u.2.2.2 x 3 = some q ∧ hx_g u.1 u.2 q 40 ∧ ∀ j, u.2.2.1 q j = 0 ∧ u.2.2.2 q j = none)) (hx_E T_tb (P_ty dA) (dC, dI) vwCl (hx_A L sz)) (hx_A L sz)) 3 2064 (hx_A L sz) := by
  refine hx_metX (lv := [(0, .ref x)]) (by decide +kernel) rfl (Nat.le_of_ble_eq_true rfl) rfl ?_
  intro p e s m below meth c hx hb hml hr hlk hts0 hown hin hsz hW hZ ls hl
  have hts : ∀ w ∈ hx_all, w.before _ s = true := fun w hw => hts0 w (List.mem_cons_of_mem _ hw)
  have hown : s.vm.findClass "SmallCourt$Walk" = some m.cls := hown
  have hin : meth.name = "<init>" := hin
  have hM : hx_S T_tb [(124, 2), (124, 3), (124, 4)] (hx_X L x) h L h := hx_SX_rf
  have hz : ∀ j, ([] : List Nat).contains j = false → h.2.1 x j = 0 ∧ h.2.2 x j = none := fun j _ => hz j
  refine lv_aload_n hx hb dX8_init_0 rfl (lv_at hl 0 rfl) ?_
  refine W.objInit hx hb hown (hts _ kw_343) (hts _ kw_117) (hts _ kw_118) rfl (by rw [hml]; exact hl.1) rfl dX8_init_1 (Nat.le_of_ble_eq_true rfl) (Nat.le_of_ble_eq_true rfl) ?_
  refine W.eq (g2 := F0 m 4 ls []) rfl ?_
  refine lv_aload_n hx hb dX8_init_4 rfl (lv_at hl 0 rfl) ?_
  refine lv_bipush (v := 8) hx hb dX8_init_5 (by decide) ?_
  refine hk_newa hx hb hts hW 39 tt_39 (atype := .int) rfl kw_186 (tys := P_ty dA) (t0 := 0) rfl (fun _ => Iff.rfl) rfl (i := (8 : Int32)) (by decide) (Nat.le_of_ble_eq_true rfl) (Nat.le_of_ble_eq_true rfl) (Nat.le_of_ble_eq_true rfl) dX8_init_7 (fun q_2 H h_1 eh_1 hqq_2 hW hs gq_2 => ?_)
  have nq_q_2 : ∀ a ∈ (hx_X L x), a ≠ q_2 := fun a ha z => hqq_2 (z ▸ (hM.1 a ha).1)
  have hT : hx_T T_tb (L ++ [q_2]) h_1 := by rw [eh_1]; exact hx_T_nw hT hqq_2 tt_39 rfl
  replace hz := hx_zr [] hz hs gx trivial rfl
  replace hM := hM.tr (hs.mono (by decide))
  replace gx := gx.S hs
  refine hx_putrF hx hb hts hC_8 hown hW hT (hx_S.rf (M := [(124, 2)])) gx tt_124 2 (by decide) rfl kw_349 ⟨rfl, rfl, rfl⟩ rfl hin rfl (x := (some q_2)) ⟨fun _ z => (by cases z), fun q hq => (by cases hq; exact ⟨gq_2.1, by rw [gq_2.2]; decide⟩)⟩ rfl rfl rfl (List.mem_singleton.mpr rfl) dX8_init_9 (fun H locs h_3 eh_3 hW hT hs => ?_)
  replace hz := hx_zr [2] hz hs gx trivial rfl
  replace hM := hM.tr (hs.mono (by decide))
  replace gx := gx.S hs
  replace gq_2 := gq_2.S hs
  have f_4 : h_3.2.2 x 2 = (some q_2) := by rw [eh_3]; exact hx_pr_at _ _ _ _
  refine lv_aload_n hx hb dX8_init_12 rfl (lv_at hl 0 rfl) ?_
  refine lv_bipush (v := 8) hx hb dX8_init_13 (by decide) ?_
  refine hk_newqX hx hb hts hown hW 40 tt_40 kw_344 hZ.2.1.2.2 (tys := P_ty dA) (t0 := 6) rfl (i := (8 : Int32)) (by decide) (Nat.le_of_ble_eq_true rfl) (Nat.le_of_ble_eq_true rfl) (Nat.le_of_ble_eq_true rfl) dX8_init_15 (fun q_6 H h_5 eh_5 hqq_6 hW hs gq_6 => ?_)
  have nq_q_6 : ∀ a ∈ (hx_X L x), a ≠ q_6 := fun a ha z => hqq_6 (z ▸ (hM.1 a ha).1)
  have hT : hx_T T_tb ((L ++ [q_2]) ++ [q_6]) h_5 := by rw [eh_5]; exact hx_T_nw hT hqq_6 tt_40 rfl
  replace f_4 := (hs.o gx trivial rfl).2.trans f_4
  replace hz := hx_zr [2] hz hs gx trivial rfl
  replace hM := hM.tr (hs.mono (by decide))
  replace gx := gx.S hs
  replace gq_2 := gq_2.S hs
  have za_7 : ∀ j, h_5.2.1 q_6 j = 0 ∧ h_5.2.2 q_6 j = none := by rw [eh_5]; exact fun _ => ⟨hx_nw_i, hx_nw_r⟩
  refine hx_putrF hx hb hts hC_8 hown hW hT (hx_S.rf (M := [(124, 3)])) gx tt_124 3 (by decide) rfl kw_351 ⟨rfl, rfl, rfl⟩ rfl hin rfl (x := (some q_6)) ⟨fun _ z => (by cases z), fun q hq => (by cases hq; exact ⟨gq_6.1, by rw [gq_6.2]; decide⟩)⟩ rfl rfl rfl (List.mem_singleton.mpr rfl) dX8_init_18 (fun H locs h_8 eh_8 hW hT hs => ?_)
  replace f_4 := (hs.o gx trivial rfl).2.trans f_4
  replace hz := hx_zr [2, 3] hz hs gx trivial rfl
  replace za_7 : ∀ j, h_8.2.1 q_6 j = 0 ∧ h_8.2.2 q_6 j = none := fun j => ⟨(hs.a gq_6 rfl j).1.trans (za_7 j).1, (hs.a gq_6 rfl j).2.trans (za_7 j).2⟩
  replace hM := hM.tr (hs.mono (by decide))
  replace gx := gx.S hs
  replace gq_2 := gq_2.S hs
  replace gq_6 := gq_6.S hs
  have f_9 : h_8.2.2 x 3 = (some q_6) := by rw [eh_8]; exact hx_pr_at _ _ _ _
  refine lv_aload_n hx hb dX8_init_21 rfl (lv_at hl 0 rfl) ?_
  refine lv_sipush (v := 2048) hx hb dX8_init_22 (by decide) ?_
  refine hk_newa hx hb hts hW 41 tt_41 (atype := .int) rfl kw_186 (tys := P_ty dA) (t0 := 0) rfl (fun _ => Iff.rfl) rfl (i := (2048 : Int32)) (by decide) (Nat.le_of_ble_eq_true rfl) (Nat.le_of_ble_eq_true rfl) (Nat.le_of_ble_eq_true rfl) dX8_init_25 (fun q_11 H h_10 eh_10 hqq_11 hW hs gq_11 => ?_)
  have nq_q_11 : ∀ a ∈ (hx_X L x), a ≠ q_11 := fun a ha z => hqq_11 (z ▸ (hM.1 a ha).1)
  have hT : hx_T T_tb (((L ++ [q_2]) ++ [q_6]) ++ [q_11]) h_10 := by rw [eh_10]; exact hx_T_nw hT hqq_11 tt_41 rfl
  replace f_4 := (hs.o gx trivial rfl).2.trans f_4
  replace f_9 := (hs.o gx trivial rfl).2.trans f_9
  replace hz := hx_zr [2, 3] hz hs gx trivial rfl
  replace za_7 : ∀ j, h_10.2.1 q_6 j = 0 ∧ h_10.2.2 q_6 j = none := fun j => ⟨(hs.a gq_6 rfl j).1.trans (za_7 j).1, (hs.a gq_6 rfl j).2.trans (za_7 j).2⟩
  replace hM := hM.tr (hs.mono (by decide))
  replace gx := gx.S hs
  replace gq_2 := gq_2.S hs
  replace gq_6 := gq_6.S hs
  refine hx_putrF hx hb hts hC_8 hown hW hT (hx_S.rf (M := [(124, 4)])) gx tt_124 4 (by decide) rfl kw_352 ⟨rfl, rfl, rfl⟩ rfl hin rfl (x := (some q_11)) ⟨fun _ z => (by cases z), fun q hq => (by cases hq; exact ⟨gq_11.1, by rw [gq_11.2]; decide⟩)⟩ rfl rfl rfl (List.mem_singleton.mpr rfl) dX8_init_27 (fun H locs h_12 eh_12 hW hT hs => ?_)
  replace f_4 := (hs.o gx trivial rfl).2.trans f_4
  replace f_9 := (hs.o gx trivial rfl).2.trans f_9
  replace hz := hx_zr [2, 3, 4] hz hs gx trivial rfl
  replace za_7 : ∀ j, h_12.2.1 q_6 j = 0 ∧ h_12.2.2 q_6 j = none := fun j => ⟨(hs.a gq_6 rfl j).1.trans (za_7 j).1, (hs.a gq_6 rfl j).2.trans (za_7 j).2⟩
  replace hM := hM.tr (hs.mono (by decide))
  replace gx := gx.S hs
  replace gq_2 := gq_2.S hs
  replace gq_6 := gq_6.S hs
  replace gq_11 := gq_11.S hs
  have f_13 : h_12.2.2 x 4 = (some q_11) := by rw [eh_12]; exact hx_pr_at _ _ _ _
  have f_14 : h_12.2.1 x 0 = 0 := (hz 0 rfl).1
  have f_15 : h_12.2.1 x 1 = 0 := (hz 1 rfl).1
  have hF : hx_F (fun k f => hx_o (((L ++ [q_2]) ++ [q_6]) ++ [q_11]) h_12 f (h_12.2.1 x k) (h_12.2.2 x k)) T_f8 0 := ⟨hx_oi f_14 (by decide), hx_oi f_15 (by decide), hx_or f_4 gq_2 (by decide), hx_or f_9 gq_6 (by decide), hx_or f_13 gq_11 (by decide), trivial⟩
  have hT := hx_T_rt hT gx tt_8 rfl (hx_F_all hF)
  have hW := hx_W_rt hW gx tt_124 tt_8 (fun _ _ => rfl)
  have hM := hx_SX_rt (x := x) (t := 8) hM
  have gq_2 := hx_rt_o (t := 8) gq_2 (gq_2.ne gx (by decide))
  have gq_6 := hx_rt_o (t := 8) gq_6 (gq_6.ne gx (by decide))
  have gq_11 := hx_rt_o (t := 8) gq_11 (gq_11.ne gx (by decide))
  have gx := hx_rt_g (t := 8) gx
  have f_4 : (hx_rt h_12 x 8).2.2 x 2 = some q_2 := f_4
  have f_9 : (hx_rt h_12 x 8).2.2 x 3 = some q_6 := f_9
  have f_13 : (hx_rt h_12 x 8).2.2 x 4 = some q_11 := f_13
  have f_14 : (hx_rt h_12 x 8).2.1 x 0 = (0 : Int32) := f_14
  have f_15 : (hx_rt h_12 x 8).2.1 x 1 = (0 : Int32) := f_15
  have za_7 : ∀ j, (hx_rt h_12 x 8).2.1 q_6 j = 0 ∧ (hx_rt h_12 x 8).2.2 q_6 j = none := za_7
  generalize eh : hx_rt h_12 x 8 = h_16 at hT hW hM gx gq_2 gq_6 gq_11 f_4 f_9 f_13 f_14 f_15 za_7
  refine W.widen (k := 3) (n := 2064) (Nat.le_of_ble_eq_true rfl) (Nat.le_of_ble_eq_true rfl) ?_
  exact hx_retv hx hb hr hlk hW ⟨hT, hM, gx, f_14, f_15, ⟨q_6, f_9, gq_6, za_7⟩⟩ dX8_init_30

def wNX2_init : Nat := 227702017028822196410760473109796739036460845452966047665152931502309117636474958477593658653023216203758451826640308299252180433765178834227027675534626851148806524237244641577260517218352409714556332559873834
theorem wX2_init_c : hz_cd cX2_init wNX2_init 87 := ⟨by decide +kernel, by decide +kernel⟩
theorem dX2_init_0 : decode cX2_init 0 = .ok (.aload_n 0, 1) := dw_42 wX2_init_c rfl
theorem dX2_init_1 : decode cX2_init 1 = .ok (.invokespecial 3, 3) := dw_183 wX2_init_c 0 3 rfl rfl
theorem dX2_init_4 : decode cX2_init 4 = .ok (.aload_n 0, 1) := dw_42 wX2_init_c rfl
theorem dX2_init_5 : decode cX2_init 5 = .ok (.bipush 8, 2) := dw_16 wX2_init_c 8 rfl rfl rfl
theorem dX2_init_7 : decode cX2_init 7 = .ok (.newarray .int, 2) := by decide +kernel
theorem dX2_init_9 : decode cX2_init 9 = .ok (.putfield 9, 3) := dw_181 wX2_init_c 0 9 rfl rfl
theorem dX2_init_12 : decode cX2_init 12 = .ok (.aload_n 0, 1) := dw_42 wX2_init_c rfl
theorem dX2_init_13 : decode cX2_init 13 = .ok (.iconst 3, 1) := dw_6 wX2_init_c rfl
theorem dX2_init_14 : decode cX2_init 14 = .ok (.newarray .int, 2) := by decide +kernel
theorem dX2_init_16 : decode cX2_init 16 = .ok (.putfield 15, 3) := dw_181 wX2_init_c 0 15 rfl rfl
theorem dX2_init_19 : decode cX2_init 19 = .ok (.aload_n 0, 1) := dw_42 wX2_init_c rfl
theorem dX2_init_20 : decode cX2_init 20 = .ok (.iconst (-1), 1) := dw_2 wX2_init_c rfl
theorem dX2_init_21 : decode cX2_init 21 = .ok (.putfield 18, 3) := dw_181 wX2_init_c 0 18 rfl rfl
theorem dX2_init_24 : decode cX2_init 24 = .ok (.aload_n 0, 1) := dw_42 wX2_init_c rfl
theorem dX2_init_25 : decode cX2_init 25 = .ok (.iconst (-1), 1) := dw_2 wX2_init_c rfl
theorem dX2_init_26 : decode cX2_init 26 = .ok (.putfield 22, 3) := dw_181 wX2_init_c 0 22 rfl rfl
theorem dX2_init_29 : decode cX2_init 29 = .ok (.aload_n 0, 1) := dw_42 wX2_init_c rfl
theorem dX2_init_30 : decode cX2_init 30 = .ok (.iconst (-1), 1) := dw_2 wX2_init_c rfl
theorem dX2_init_31 : decode cX2_init 31 = .ok (.putfield 25, 3) := dw_181 wX2_init_c 0 25 rfl rfl
theorem dX2_init_34 : decode cX2_init 34 = .ok (.aload_n 0, 1) := dw_42 wX2_init_c rfl
theorem dX2_init_35 : decode cX2_init 35 = .ok (.iconst (-1), 1) := dw_2 wX2_init_c rfl
theorem dX2_init_36 : decode cX2_init 36 = .ok (.putfield 28, 3) := dw_181 wX2_init_c 0 28 rfl rfl
theorem dX2_init_39 : decode cX2_init 39 = .ok (.aload_n 0, 1) := dw_42 wX2_init_c rfl
theorem dX2_init_40 : decode cX2_init 40 = .ok (.iconst (-1), 1) := dw_2 wX2_init_c rfl
theorem dX2_init_41 : decode cX2_init 41 = .ok (.putfield 31, 3) := dw_181 wX2_init_c 0 31 rfl rfl
theorem dX2_init_44 : decode cX2_init 44 = .ok (.aload_n 0, 1) := dw_42 wX2_init_c rfl
theorem dX2_init_45 : decode cX2_init 45 = .ok (.iload_n 1, 1) := dw_27 wX2_init_c rfl
theorem dX2_init_46 : decode cX2_init 46 = .ok (.putfield 34, 3) := dw_181 wX2_init_c 0 34 rfl rfl
theorem dX2_init_49 : decode cX2_init 49 = .ok (.aload_n 0, 1) := dw_42 wX2_init_c rfl
theorem dX2_init_50 : decode cX2_init 50 = .ok (.aload_n 2, 1) := dw_44 wX2_init_c rfl
theorem dX2_init_51 : decode cX2_init 51 = .ok (.putfield 37, 3) := dw_181 wX2_init_c 0 37 rfl rfl
theorem dX2_init_54 : decode cX2_init 54 = .ok (.aload_n 0, 1) := dw_42 wX2_init_c rfl
theorem dX2_init_55 : decode cX2_init 55 = .ok (.aload_n 3, 1) := dw_45 wX2_init_c rfl
theorem dX2_init_56 : decode cX2_init 56 = .ok (.putfield 41, 3) := dw_181 wX2_init_c 0 41 rfl rfl
theorem dX2_init_59 : decode cX2_init 59 = .ok (.aload_n 0, 1) := dw_42 wX2_init_c rfl
theorem dX2_init_60 : decode cX2_init 60 = .ok (.aload 4, 2) := dw_25 wX2_init_c 4 rfl
theorem dX2_init_62 : decode cX2_init 62 = .ok (.putfield 44, 3) := dw_181 wX2_init_c 0 44 rfl rfl
theorem dX2_init_65 : decode cX2_init 65 = .ok (.aload_n 0, 1) := dw_42 wX2_init_c rfl
theorem dX2_init_66 : decode cX2_init 66 = .ok (.getfield 15, 3) := dw_180 wX2_init_c 0 15 rfl rfl
theorem dX2_init_69 : decode cX2_init 69 = .ok (.iconst 0, 1) := dw_3 wX2_init_c rfl
theorem dX2_init_70 : decode cX2_init 70 = .ok (.iconst (-1), 1) := dw_2 wX2_init_c rfl
theorem dX2_init_71 : decode cX2_init 71 = .ok (.iastore, 1) := dw_79 wX2_init_c rfl
theorem dX2_init_72 : decode cX2_init 72 = .ok (.aload_n 0, 1) := dw_42 wX2_init_c rfl
theorem dX2_init_73 : decode cX2_init 73 = .ok (.getfield 15, 3) := dw_180 wX2_init_c 0 15 rfl rfl
theorem dX2_init_76 : decode cX2_init 76 = .ok (.iconst 1, 1) := dw_4 wX2_init_c rfl
theorem dX2_init_77 : decode cX2_init 77 = .ok (.iconst (-1), 1) := dw_2 wX2_init_c rfl
theorem dX2_init_78 : decode cX2_init 78 = .ok (.iastore, 1) := dw_79 wX2_init_c rfl
theorem dX2_init_79 : decode cX2_init 79 = .ok (.aload_n 0, 1) := dw_42 wX2_init_c rfl
theorem dX2_init_80 : decode cX2_init 80 = .ok (.getfield 15, 3) := dw_180 wX2_init_c 0 15 rfl rfl
theorem dX2_init_83 : decode cX2_init 83 = .ok (.iconst 2, 1) := dw_5 wX2_init_c rfl
theorem dX2_init_84 : decode cX2_init 84 = .ok (.iconst (-1), 1) := dw_2 wX2_init_c rfl
theorem dX2_init_85 : decode cX2_init 85 = .ok (.iastore, 1) := dw_79 wX2_init_c rfl
theorem dX2_init_86 : decode cX2_init 86 = .ok (.return_, 1) := dw_177 wX2_init_c rfl
theorem dX0_term_0 : decode cX0_term 0 = .ok (.iload_n 0, 1) := by decide +kernel
theorem dX0_term_1 : decode cX0_term 1 = .ok (.iload_n 1, 1) := by decide +kernel
theorem dX0_term_2 : decode cX0_term 2 = .ok (.iconst 3, 1) := by decide +kernel
theorem dX0_term_3 : decode cX0_term 3 = .ok (.ishl, 1) := by decide +kernel
theorem dX0_term_4 : decode cX0_term 4 = .ok (.ior, 1) := by decide +kernel
theorem dX0_term_5 : decode cX0_term 5 = .ok (.iload_n 2, 1) := by decide +kernel
theorem dX0_term_6 : decode cX0_term 6 = .ok (.ifCond .eq 7, 3) := by decide +kernel
theorem dX0_term_9 : decode cX0_term 9 = .ok (.iconst 1, 1) := by decide +kernel
theorem dX0_term_10 : decode cX0_term 10 = .ok (.goto 4, 3) := by decide +kernel
theorem dX0_term_13 : decode cX0_term 13 = .ok (.iconst 0, 1) := by decide +kernel
theorem dX0_term_14 : decode cX0_term 14 = .ok (.bipush 6, 2) := by decide +kernel
theorem dX0_term_16 : decode cX0_term 16 = .ok (.ishl, 1) := by decide +kernel
theorem dX0_term_17 : decode cX0_term 17 = .ok (.ior, 1) := by decide +kernel
theorem dX0_term_18 : decode cX0_term 18 = .ok (.iload_n 3, 1) := by decide +kernel
theorem dX0_term_19 : decode cX0_term 19 = .ok (.bipush 7, 2) := by decide +kernel
theorem dX0_term_21 : decode cX0_term 21 = .ok (.ishl, 1) := by decide +kernel
theorem dX0_term_22 : decode cX0_term 22 = .ok (.ior, 1) := by decide +kernel
theorem dX0_term_23 : decode cX0_term 23 = .ok (.ireturn, 1) := by decide +kernel
def wNX0_init : Nat := 13559837138064368632851854830540707627400199435580698308156751634268017704869145668700229148115442822410756052368100896787566704185376320187892506194696716830186406581902039858558340076999785607034091306
theorem wX0_init_c : hz_cd cX0_init wNX0_init 84 := ⟨by decide +kernel, by decide +kernel⟩
theorem dX0_init_0 : decode cX0_init 0 = .ok (.aload_n 0, 1) := dw_42 wX0_init_c rfl
theorem dX0_init_1 : decode cX0_init 1 = .ok (.invokespecial 3, 3) := dw_183 wX0_init_c 0 3 rfl rfl
theorem dX0_init_4 : decode cX0_init 4 = .ok (.aload_n 0, 1) := dw_42 wX0_init_c rfl
theorem dX0_init_5 : decode cX0_init 5 = .ok (.bipush 14, 2) := dw_16 wX0_init_c 14 rfl rfl rfl
theorem dX0_init_7 : decode cX0_init 7 = .ok (.newarray .int, 2) := by decide +kernel
theorem dX0_init_9 : decode cX0_init 9 = .ok (.putfield 9, 3) := dw_181 wX0_init_c 0 9 rfl rfl
theorem dX0_init_12 : decode cX0_init 12 = .ok (.aload_n 0, 1) := dw_42 wX0_init_c rfl
theorem dX0_init_13 : decode cX0_init 13 = .ok (.sipush 160, 3) := dw_17 wX0_init_c 0 160 rfl rfl rfl
theorem dX0_init_16 : decode cX0_init 16 = .ok (.newarray .int, 2) := by decide +kernel
theorem dX0_init_18 : decode cX0_init 18 = .ok (.putfield 15, 3) := dw_181 wX0_init_c 0 15 rfl rfl
theorem dX0_init_21 : decode cX0_init 21 = .ok (.aload_n 0, 1) := dw_42 wX0_init_c rfl
theorem dX0_init_22 : decode cX0_init 22 = .ok (.iload_n 1, 1) := dw_27 wX0_init_c rfl
theorem dX0_init_23 : decode cX0_init 23 = .ok (.putfield 18, 3) := dw_181 wX0_init_c 0 18 rfl rfl
theorem dX0_init_26 : decode cX0_init 26 = .ok (.aload_n 0, 1) := dw_42 wX0_init_c rfl
theorem dX0_init_27 : decode cX0_init 27 = .ok (.iload_n 2, 1) := dw_28 wX0_init_c rfl
theorem dX0_init_28 : decode cX0_init 28 = .ok (.putfield 22, 3) := dw_181 wX0_init_c 0 22 rfl rfl
theorem dX0_init_31 : decode cX0_init 31 = .ok (.getstatic 25, 3) := dw_178 wX0_init_c 0 25 rfl rfl
theorem dX0_init_34 : decode cX0_init 34 = .ok (.iconst 0, 1) := dw_3 wX0_init_c rfl
theorem dX0_init_35 : decode cX0_init 35 = .ok (.aload_n 0, 1) := dw_42 wX0_init_c rfl
theorem dX0_init_36 : decode cX0_init 36 = .ok (.getfield 9, 3) := dw_180 wX0_init_c 0 9 rfl rfl
theorem dX0_init_39 : decode cX0_init 39 = .ok (.iconst 0, 1) := dw_3 wX0_init_c rfl
theorem dX0_init_40 : decode cX0_init 40 = .ok (.bipush 14, 2) := dw_16 wX0_init_c 14 rfl rfl rfl
theorem dX0_init_42 : decode cX0_init 42 = .ok (.invokestatic 28, 3) := dw_184 wX0_init_c 0 28 rfl rfl
theorem dX0_init_45 : decode cX0_init 45 = .ok (.aload_n 0, 1) := dw_42 wX0_init_c rfl
theorem dX0_init_46 : decode cX0_init 46 = .ok (.getfield 15, 3) := dw_180 wX0_init_c 0 15 rfl rfl
theorem dX0_init_49 : decode cX0_init 49 = .ok (.iconst 0, 1) := dw_3 wX0_init_c rfl
theorem dX0_init_50 : decode cX0_init 50 = .ok (.iconst 0, 1) := dw_3 wX0_init_c rfl
theorem dX0_init_51 : decode cX0_init 51 = .ok (.iconst 2, 1) := dw_5 wX0_init_c rfl
theorem dX0_init_52 : decode cX0_init 52 = .ok (.iconst 0, 1) := dw_3 wX0_init_c rfl
theorem dX0_init_53 : decode cX0_init 53 = .ok (.iconst 1, 1) := dw_4 wX0_init_c rfl
theorem dX0_init_54 : decode cX0_init 54 = .ok (.invokestatic 34, 3) := dw_184 wX0_init_c 0 34 rfl rfl
theorem dX0_init_57 : decode cX0_init 57 = .ok (.iastore, 1) := dw_79 wX0_init_c rfl
theorem dX0_init_58 : decode cX0_init 58 = .ok (.aload_n 0, 1) := dw_42 wX0_init_c rfl
theorem dX0_init_59 : decode cX0_init 59 = .ok (.getfield 15, 3) := dw_180 wX0_init_c 0 15 rfl rfl
theorem dX0_init_62 : decode cX0_init 62 = .ok (.iconst 1, 1) := dw_4 wX0_init_c rfl
theorem dX0_init_63 : decode cX0_init 63 = .ok (.iconst 1, 1) := dw_4 wX0_init_c rfl
theorem dX0_init_64 : decode cX0_init 64 = .ok (.iconst 2, 1) := dw_5 wX0_init_c rfl
theorem dX0_init_65 : decode cX0_init 65 = .ok (.iconst 0, 1) := dw_3 wX0_init_c rfl
theorem dX0_init_66 : decode cX0_init 66 = .ok (.iconst 0, 1) := dw_3 wX0_init_c rfl
theorem dX0_init_67 : decode cX0_init 67 = .ok (.invokestatic 34, 3) := dw_184 wX0_init_c 0 34 rfl rfl
theorem dX0_init_70 : decode cX0_init 70 = .ok (.iastore, 1) := dw_79 wX0_init_c rfl
theorem dX0_init_71 : decode cX0_init 71 = .ok (.aload_n 0, 1) := dw_42 wX0_init_c rfl
theorem dX0_init_72 : decode cX0_init 72 = .ok (.getfield 15, 3) := dw_180 wX0_init_c 0 15 rfl rfl
theorem dX0_init_75 : decode cX0_init 75 = .ok (.iconst 2, 1) := dw_5 wX0_init_c rfl
theorem dX0_init_76 : decode cX0_init 76 = .ok (.iconst (-1), 1) := dw_2 wX0_init_c rfl
theorem dX0_init_77 : decode cX0_init 77 = .ok (.iastore, 1) := dw_79 wX0_init_c rfl
theorem dX0_init_78 : decode cX0_init 78 = .ok (.aload_n 0, 1) := dw_42 wX0_init_c rfl
theorem dX0_init_79 : decode cX0_init 79 = .ok (.iconst 3, 1) := dw_6 wX0_init_c rfl
theorem dX0_init_80 : decode cX0_init 80 = .ok (.putfield 38, 3) := dw_181 wX0_init_c 0 38 rfl rfl
theorem dX0_init_83 : decode cX0_init 83 = .ok (.return_, 1) := dw_177 wX0_init_c rfl