theorem dX4_init_0 : decode cX4_init 0 = .ok (.aload_n 0, 1) := by decide +kernel
theorem dX4_init_1 : decode cX4_init 1 = .ok (.invokespecial 3, 3) := by decide +kernel
theorem dX4_init_4 : decode cX4_init 4 = .ok (.aload_n 0, 1) := by decide +kernel
theorem dX4_init_5 : decode cX4_init 5 = .ok (.iload_n 1, 1) := by decide +kernel
theorem dX4_init_6 : decode cX4_init 6 = .ok (.putfield 9, 3) := by decide +kernel
theorem dX4_init_9 : decode cX4_init 9 = .ok (.aload_n 0, 1) := by decide +kernel
theorem dX4_init_10 : decode cX4_init 10 = .ok (.iload_n 2, 1) := by decide +kernel
theorem dX4_init_11 : decode cX4_init 11 = .ok (.putfield 15, 3) := by decide +kernel
theorem dX4_init_14 : decode cX4_init 14 = .ok (.aload_n 0, 1) := by decide +kernel
theorem dX4_init_15 : decode cX4_init 15 = .ok (.iload_n 3, 1) := by decide +kernel
theorem dX4_init_16 : decode cX4_init 16 = .ok (.putfield 18, 3) := by decide +kernel
theorem dX4_init_19 : decode cX4_init 19 = .ok (.return_, 1) := by decide +kernel
set_option maxHeartbeats 4000000 in
set_option maxRecDepth 100000 in
theorem t_X4_init (l : Launch) (dC : Nat → ClassId) (dI : Nat → Nat → Nat) (dA : Nat → ClassId) (L : List Nat) (h : hx_h) (sz : Nat) (x : Nat) (i1 : Int32) (i2 : Int32) (i3 : Int32) (hT : hx_T T_tb L h) (gx : hx_g L h x 120) (hz : ∀ j, h.2.1 x j = 0 ∧ h.2.2 x j = none) (hi1 : 0 ≤ i1.toInt ∧ i1.toInt ≤ 39) : Met l yX4_init (Cond.code yX4_init cX4_init 4 none :: hx_all) ({ frames := 1, cells := 0, slots := 0, locals := 12 }) (va_Pc [.ref x, .int i1, .int i2, .int i3] (hx_B T_tb (P_ty dA) (dC, dI) vwCl L h sz)) (va_Qv (fun (u : List Nat × hx_h) => hx_T T_tb u.1 u.2 ∧ hx_S T_tb [(120, 0), (120, 1), (120, 2)] (hx_X L x) h u.1 u.2 ∧ hx_g u.1 u.2 x 4 ∧ u.2.2.1 x 0 = i1 ∧ u.2.2.1 x 7 = 0 ∧ u.2.2.1 x 8 = 0) (hx_E T_tb (P_ty dA) (dC, dI) vwCl (hx_A L sz)) (hx_A L sz)) 0 0 (hx_A L sz) := by
  refine hx_met (lv := [(0, .ref x), (1, .int i1), (2, .int i2), (3, .int i3)]) (by decide +kernel) rfl (Nat.le_of_ble_eq_true rfl) rfl ?_
  intro p e s m below meth c hx hb hml hr hlk hts0 hown hin hsz hW ls hl
  have hts : ∀ w ∈ hx_all, w.before _ s = true := fun w hw => hts0 w (List.mem_cons_of_mem _ hw)
  have hown : s.vm.findClass "SmallCourt$Person" = some m.cls := hown
  have hin : meth.name = "<init>" := hin
  have hM : hx_S T_tb [(120, 0), (120, 1), (120, 2)] (hx_X L x) h L h := hx_SX_rf
  have hz : ∀ j, ([] : List Nat).contains j = false → h.2.1 x j = 0 ∧ h.2.2 x j = none := fun j _ => hz j
  refine lv_aload_n hx hb dX4_init_0 rfl (lv_at hl 0 rfl) ?_
  refine W.objInit hx hb hown (hts _ kw_609) (hts _ kw_117) (hts _ kw_118) rfl (by rw [hml]; exact hl.1) rfl dX4_init_1 (Nat.le_of_ble_eq_true rfl) (Nat.le_of_ble_eq_true rfl) ?_
  refine W.eq (g2 := F0 m 4 ls []) rfl ?_
  refine lv_aload_n hx hb dX4_init_4 rfl (lv_at hl 0 rfl) ?_
  refine lv_iload_n hx hb dX4_init_5 rfl (lv_at hl 1 rfl) ?_
  refine hx_putiF hx hb hts hC_4 hown hW hT (hx_S.rf (M := [(120, 0)])) gx tt_120 0 (by decide) rfl kw_610 ⟨rfl, rfl, rfl⟩ rfl hin rfl (x := i1) ⟨by omega, by omega⟩ rfl rfl rfl (List.mem_singleton.mpr rfl) dX4_init_6 (fun H locs h_1 eh_1 hW hT hs => ?_)
  replace hz := hx_zr [0] hz hs gx trivial rfl
  replace hM := hM.tr (hs.mono (by decide))
  replace gx := gx.S hs
  have f_2 : h_1.2.1 x 0 = i1 := by rw [eh_1]; exact hx_pi_at _ _ _ _
  refine lv_aload_n hx hb dX4_init_9 rfl (lv_at hl 0 rfl) ?_
  refine lv_iload_n hx hb dX4_init_10 rfl (lv_at hl 2 rfl) ?_
  refine hx_putiF hx hb hts hC_4 hown hW hT (hx_S.rf (M := [(120, 1)])) gx tt_120 1 (by decide) rfl kw_613 ⟨rfl, rfl, rfl⟩ rfl hin rfl (x := i2) (i32_r _) rfl rfl rfl (List.mem_singleton.mpr rfl) dX4_init_11 (fun H locs h_3 eh_3 hW hT hs => ?_)
  replace f_2 := (hs.o gx trivial rfl).1.trans f_2
  replace hz := hx_zr [0, 1] hz hs gx trivial rfl
  replace hM := hM.tr (hs.mono (by decide))
  replace gx := gx.S hs
  have f_4 : h_3.2.1 x 1 = i2 := by rw [eh_3]; exact hx_pi_at _ _ _ _
  refine lv_aload_n hx hb dX4_init_14 rfl (lv_at hl 0 rfl) ?_
  refine lv_iload_n hx hb dX4_init_15 rfl (lv_at hl 3 rfl) ?_
  refine hx_putiF hx hb hts hC_4 hown hW hT (hx_S.rf (M := [(120, 2)])) gx tt_120 2 (by decide) rfl kw_615 ⟨rfl, rfl, rfl⟩ rfl hin rfl (x := i3) (i32_r _) rfl rfl rfl (List.mem_singleton.mpr rfl) dX4_init_16 (fun H locs h_5 eh_5 hW hT hs => ?_)
  replace f_2 := (hs.o gx trivial rfl).1.trans f_2
  replace f_4 := (hs.o gx trivial rfl).1.trans f_4
  replace hz := hx_zr [0, 1, 2] hz hs gx trivial rfl
  replace hM := hM.tr (hs.mono (by decide))
  replace gx := gx.S hs
  have f_6 : h_5.2.1 x 2 = i3 := by rw [eh_5]; exact hx_pi_at _ _ _ _
  have f_7 : h_5.2.1 x 7 = 0 := (hz 7 rfl).1
  have f_8 : h_5.2.1 x 8 = 0 := (hz 8 rfl).1
  have hF : hx_F (fun k f => hx_o L h_5 f (h_5.2.1 x k) (h_5.2.2 x k)) T_f4 0 := ⟨hx_oi f_2 ⟨by omega, by omega⟩, hx_oi f_4 (i32_r _), hx_oi f_6 (i32_r _), hx_oi (hz 3 rfl).1 (by decide), hx_oi (hz 4 rfl).1 (by decide), hx_oi (hz 5 rfl).1 (by decide), hx_oi (hz 6 rfl).1 (by decide), hx_oi f_7 (by decide), hx_oi f_8 (by decide), hx_oi (hz 9 rfl).1 (by decide), trivial⟩
  have hT := hx_T_rt hT gx tt_4 rfl (hx_F_all hF)
  have hW := hx_W_rt hW gx tt_120 tt_4 (fun _ _ => rfl)
  have hM := hx_SX_rt (x := x) (t := 4) hM
  have gx := hx_rt_g (t := 4) gx
  have f_2 : (hx_rt h_5 x 4).2.1 x 0 = i1 := f_2
  have f_4 : (hx_rt h_5 x 4).2.1 x 1 = i2 := f_4
  have f_6 : (hx_rt h_5 x 4).2.1 x 2 = i3 := f_6
  have f_7 : (hx_rt h_5 x 4).2.1 x 7 = (0 : Int32) := f_7
  have f_8 : (hx_rt h_5 x 4).2.1 x 8 = (0 : Int32) := f_8
  generalize eh : hx_rt h_5 x 4 = h_9 at hT hW hM gx f_2 f_4 f_6 f_7 f_8
  exact hx_retv hx hb hr hlk hW ⟨hT, hM, gx, f_2, f_7, f_8⟩ dX4_init_19

def wLX1_init_0 : List Nat := [42, 183, 0, 3, 42, 17, 1, 144, 188, 10, 181, 0, 9, 42, 17, 1, 144, 188, 10, 181, 0, 15, 42, 17, 1, 144, 188, 10, 181, 0, 18, 42, 17, 1, 144, 188, 10, 181, 0, 21, 42, 17, 1, 144, 188, 10, 181, 0, 24, 42, 17, 1, 144, 188, 10, 181, 0, 27, 42, 17, 1, 144, 188, 4]
def wLX1_init_1 : List Nat := [181, 0, 30, 177]
theorem wX1_init_0 : (cX1_init.data.toList.map UInt8.toNat).drop 0 = wLX1_init_0 ++ (wLX1_init_1 ++ ([])) := by decide +kernel
theorem wX1_init_1 : (cX1_init.data.toList.map UInt8.toNat).drop 64 = wLX1_init_1 ++ ([]) := hz_wn wX1_init_0 rfl
theorem dX1_init_0 : decode cX1_init 0 = .ok (.aload_n 0, 1) := dq_42 (hz_wg wX1_init_0 (j := 0) (n := 42) rfl)
theorem dX1_init_1 : decode cX1_init 1 = .ok (.invokespecial 3, 3) := dq_183 (hz_wg wX1_init_0 (j := 1) (n := 183) rfl) (hz_wg wX1_init_0 (j := 2) (n := 0) rfl) (hz_wg wX1_init_0 (j := 3) (n := 3) rfl) rfl
theorem dX1_init_4 : decode cX1_init 4 = .ok (.aload_n 0, 1) := dq_42 (hz_wg wX1_init_0 (j := 4) (n := 42) rfl)
theorem dX1_init_5 : decode cX1_init 5 = .ok (.sipush 400, 3) := dq_17 (hz_wg wX1_init_0 (j := 5) (n := 17) rfl) (hz_wg wX1_init_0 (j := 6) (n := 1) rfl) (hz_wg wX1_init_0 (j := 7) (n := 144) rfl) (by decide)
theorem dX1_init_8 : decode cX1_init 8 = .ok (.newarray .int, 2) := dk_b rfl (hz_wg wX1_init_0 (j := 8) (n := 188) rfl) (hz_wg wX1_init_0 (j := 9) (n := 10) rfl) rfl rfl
theorem dX1_init_10 : decode cX1_init 10 = .ok (.putfield 9, 3) := dq_181 (hz_wg wX1_init_0 (j := 10) (n := 181) rfl) (hz_wg wX1_init_0 (j := 11) (n := 0) rfl) (hz_wg wX1_init_0 (j := 12) (n := 9) rfl) rfl
theorem dX1_init_13 : decode cX1_init 13 = .ok (.aload_n 0, 1) := dq_42 (hz_wg wX1_init_0 (j := 13) (n := 42) rfl)
theorem dX1_init_14 : decode cX1_init 14 = .ok (.sipush 400, 3) := dq_17 (hz_wg wX1_init_0 (j := 14) (n := 17) rfl) (hz_wg wX1_init_0 (j := 15) (n := 1) rfl) (hz_wg wX1_init_0 (j := 16) (n := 144) rfl) (by decide)
theorem dX1_init_17 : decode cX1_init 17 = .ok (.newarray .int, 2) := dk_b rfl (hz_wg wX1_init_0 (j := 17) (n := 188) rfl) (hz_wg wX1_init_0 (j := 18) (n := 10) rfl) rfl rfl
theorem dX1_init_19 : decode cX1_init 19 = .ok (.putfield 15, 3) := dq_181 (hz_wg wX1_init_0 (j := 19) (n := 181) rfl) (hz_wg wX1_init_0 (j := 20) (n := 0) rfl) (hz_wg wX1_init_0 (j := 21) (n := 15) rfl) rfl
theorem dX1_init_22 : decode cX1_init 22 = .ok (.aload_n 0, 1) := dq_42 (hz_wg wX1_init_0 (j := 22) (n := 42) rfl)
theorem dX1_init_23 : decode cX1_init 23 = .ok (.sipush 400, 3) := dq_17 (hz_wg wX1_init_0 (j := 23) (n := 17) rfl) (hz_wg wX1_init_0 (j := 24) (n := 1) rfl) (hz_wg wX1_init_0 (j := 25) (n := 144) rfl) (by decide)
theorem dX1_init_26 : decode cX1_init 26 = .ok (.newarray .int, 2) := dk_b rfl (hz_wg wX1_init_0 (j := 26) (n := 188) rfl) (hz_wg wX1_init_0 (j := 27) (n := 10) rfl) rfl rfl
theorem dX1_init_28 : decode cX1_init 28 = .ok (.putfield 18, 3) := dq_181 (hz_wg wX1_init_0 (j := 28) (n := 181) rfl) (hz_wg wX1_init_0 (j := 29) (n := 0) rfl) (hz_wg wX1_init_0 (j := 30) (n := 18) rfl) rfl
theorem dX1_init_31 : decode cX1_init 31 = .ok (.aload_n 0, 1) := dq_42 (hz_wg wX1_init_0 (j := 31) (n := 42) rfl)
theorem dX1_init_32 : decode cX1_init 32 = .ok (.sipush 400, 3) := dq_17 (hz_wg wX1_init_0 (j := 32) (n := 17) rfl) (hz_wg wX1_init_0 (j := 33) (n := 1) rfl) (hz_wg wX1_init_0 (j := 34) (n := 144) rfl) (by decide)
theorem dX1_init_35 : decode cX1_init 35 = .ok (.newarray .int, 2) := dk_b rfl (hz_wg wX1_init_0 (j := 35) (n := 188) rfl) (hz_wg wX1_init_0 (j := 36) (n := 10) rfl) rfl rfl
theorem dX1_init_37 : decode cX1_init 37 = .ok (.putfield 21, 3) := dq_181 (hz_wg wX1_init_0 (j := 37) (n := 181) rfl) (hz_wg wX1_init_0 (j := 38) (n := 0) rfl) (hz_wg wX1_init_0 (j := 39) (n := 21) rfl) rfl
theorem dX1_init_40 : decode cX1_init 40 = .ok (.aload_n 0, 1) := dq_42 (hz_wg wX1_init_0 (j := 40) (n := 42) rfl)
theorem dX1_init_41 : decode cX1_init 41 = .ok (.sipush 400, 3) := dq_17 (hz_wg wX1_init_0 (j := 41) (n := 17) rfl) (hz_wg wX1_init_0 (j := 42) (n := 1) rfl) (hz_wg wX1_init_0 (j := 43) (n := 144) rfl) (by decide)
theorem dX1_init_44 : decode cX1_init 44 = .ok (.newarray .int, 2) := dk_b rfl (hz_wg wX1_init_0 (j := 44) (n := 188) rfl) (hz_wg wX1_init_0 (j := 45) (n := 10) rfl) rfl rfl
theorem dX1_init_46 : decode cX1_init 46 = .ok (.putfield 24, 3) := dq_181 (hz_wg wX1_init_0 (j := 46) (n := 181) rfl) (hz_wg wX1_init_0 (j := 47) (n := 0) rfl) (hz_wg wX1_init_0 (j := 48) (n := 24) rfl) rfl
theorem dX1_init_49 : decode cX1_init 49 = .ok (.aload_n 0, 1) := dq_42 (hz_wg wX1_init_0 (j := 49) (n := 42) rfl)
theorem dX1_init_50 : decode cX1_init 50 = .ok (.sipush 400, 3) := dq_17 (hz_wg wX1_init_0 (j := 50) (n := 17) rfl) (hz_wg wX1_init_0 (j := 51) (n := 1) rfl) (hz_wg wX1_init_0 (j := 52) (n := 144) rfl) (by decide)
theorem dX1_init_53 : decode cX1_init 53 = .ok (.newarray .int, 2) := dk_b rfl (hz_wg wX1_init_0 (j := 53) (n := 188) rfl) (hz_wg wX1_init_0 (j := 54) (n := 10) rfl) rfl rfl
theorem dX1_init_55 : decode cX1_init 55 = .ok (.putfield 27, 3) := dq_181 (hz_wg wX1_init_0 (j := 55) (n := 181) rfl) (hz_wg wX1_init_0 (j := 56) (n := 0) rfl) (hz_wg wX1_init_0 (j := 57) (n := 27) rfl) rfl
theorem dX1_init_58 : decode cX1_init 58 = .ok (.aload_n 0, 1) := dq_42 (hz_wg wX1_init_0 (j := 58) (n := 42) rfl)
theorem dX1_init_59 : decode cX1_init 59 = .ok (.sipush 400, 3) := dq_17 (hz_wg wX1_init_0 (j := 59) (n := 17) rfl) (hz_wg wX1_init_0 (j := 60) (n := 1) rfl) (hz_wg wX1_init_0 (j := 61) (n := 144) rfl) (by decide)
theorem dX1_init_62 : decode cX1_init 62 = .ok (.newarray .boolean, 2) := dk_b rfl (hz_wg wX1_init_0 (j := 62) (n := 188) rfl) (hz_wg wX1_init_0 (j := 63) (n := 4) rfl) rfl rfl
theorem dX1_init_64 : decode cX1_init 64 = .ok (.putfield 30, 3) := dq_181 (hz_wg wX1_init_1 (j := 0) (n := 181) rfl) (hz_wg wX1_init_1 (j := 1) (n := 0) rfl) (hz_wg wX1_init_1 (j := 2) (n := 30) rfl) rfl
theorem dX1_init_67 : decode cX1_init 67 = .ok (.return_, 1) := dq_177 (hz_wg wX1_init_1 (j := 3) (n := 177) rfl)
set_option maxHeartbeats 4000000 in
set_option maxRecDepth 100000 in
theorem t_X1_init (l : Launch) (dC : Nat → ClassId) (dI : Nat → Nat → Nat) (dA : Nat → ClassId) (L : List Nat) (h : hx_h) (sz : Nat) (x : Nat) (hT : hx_T T_tb L h) (gx : hx_g L h x 117) (hz : ∀ j, h.2.1 x j = 0 ∧ h.2.2 x j = none) : Met l yX1_init (Cond.code yX1_init cX1_init 1 none :: hx_all) ({ frames := 1, cells := 7, slots := 2800, locals := 12 }) (va_Pc [.ref x] (hx_B T_tb (P_ty dA) (dC, dI) vwCl L h sz)) (va_Qv (fun (u : List Nat × hx_h) => hx_T T_tb u.1 u.2 ∧ hx_S T_tb [(117, 1), (117, 2), (117, 3), (117, 4), (117, 5), (117, 6), (117, 7)] (hx_X L x) h u.1 u.2 ∧ hx_g u.1 u.2 x 1 ∧ u.2.2.1 x 0 = 0) (hx_E T_tb (P_ty dA) (dC, dI) vwCl (hx_A L sz)) (hx_A L sz)) 7 2800 (hx_A L sz) := by
  refine hx_met (lv := [(0, .ref x)]) (by decide +kernel) rfl (Nat.le_of_ble_eq_true rfl) rfl ?_
  intro p e s m below meth c hx hb hml hr hlk hts0 hown hin hsz hW ls hl
  have hts : ∀ w ∈ hx_all, w.before _ s = true := fun w hw => hts0 w (List.mem_cons_of_mem _ hw)
  have hown : s.vm.findClass "SmallCourt$Books" = some m.cls := hown
  have hin : meth.name = "<init>" := hin
  have hM : hx_S T_tb [(117, 1), (117, 2), (117, 3), (117, 4), (117, 5), (117, 6), (117, 7)] (hx_X L x) h L h := hx_SX_rf
  have hz : ∀ j, ([] : List Nat).contains j = false → h.2.1 x j = 0 ∧ h.2.2 x j = none := fun j _ => hz j
  refine lv_aload_n hx hb dX1_init_0 rfl (lv_at hl 0 rfl) ?_
  refine W.objInit hx hb hown (hts _ kw_195) (hts _ kw_117) (hts _ kw_118) rfl (by rw [hml]; exact hl.1) rfl dX1_init_1 (Nat.le_of_ble_eq_true rfl) (Nat.le_of_ble_eq_true rfl) ?_
  refine W.eq (g2 := F0 m 4 ls []) rfl ?_
  refine lv_aload_n hx hb dX1_init_4 rfl (lv_at hl 0 rfl) ?_
  refine lv_sipush (v := 400) hx hb dX1_init_5 (by decide) ?_
  refine hk_newa hx hb hts hW 13 tt_13 (atype := .int) rfl kw_186 (tys := P_ty dA) (t0 := 0) rfl (fun _ => Iff.rfl) rfl (i := (400 : Int32)) (by decide) (Nat.le_of_ble_eq_true rfl) (Nat.le_of_ble_eq_true rfl) (Nat.le_of_ble_eq_true rfl) dX1_init_8 (fun q_2 H h_1 eh_1 hqq_2 hW hs gq_2 => ?_)
  have nq_q_2 : ∀ a ∈ (hx_X L x), a ≠ q_2 := fun a ha z => hqq_2 (z ▸ (hM.1 a ha).1)
  have hT : hx_T T_tb (L ++ [q_2]) h_1 := by rw [eh_1]; exact hx_T_nw hT hqq_2 tt_13 rfl
  replace hz := hx_zr [] hz hs gx trivial rfl
  replace hM := hM.tr (hs.mono (by decide))
  replace gx := gx.S hs
  refine hx_putrF hx hb hts hC_1 hown hW hT (hx_S.rf (M := [(117, 1)])) gx tt_117 1 (by decide) rfl kw_198 ⟨rfl, rfl, rfl⟩ rfl hin rfl (x := (some q_2)) ⟨fun _ z => (by cases z), fun q hq => (by cases hq; exact ⟨gq_2.1, by rw [gq_2.2]; decide⟩)⟩ rfl rfl rfl (List.mem_singleton.mpr rfl) dX1_init_10 (fun H locs h_3 eh_3 hW hT hs => ?_)
  replace hz := hx_zr [1] hz hs gx trivial rfl
  replace hM := hM.tr (hs.mono (by decide))
  replace gx := gx.S hs
  replace gq_2 := gq_2.S hs
  have f_4 : h_3.2.2 x 1 = (some q_2) := by rw [eh_3]; exact hx_pr_at _ _ _ _
  refine lv_aload_n hx hb dX1_init_13 rfl (lv_at hl 0 rfl) ?_
  refine lv_sipush (v := 400) hx hb dX1_init_14 (by decide) ?_
  refine hk_newa hx hb hts hW 14 tt_14 (atype := .int) rfl kw_186 (tys := P_ty dA) (t0 := 0) rfl (fun _ => Iff.rfl) rfl (i := (400 : Int32)) (by decide) (Nat.le_of_ble_eq_true rfl) (Nat.le_of_ble_eq_true rfl) (Nat.le_of_ble_eq_true rfl) dX1_init_17 (fun q_6 H h_5 eh_5 hqq_6 hW hs gq_6 => ?_)
  have nq_q_6 : ∀ a ∈ (hx_X L x), a ≠ q_6 := fun a ha z => hqq_6 (z ▸ (hM.1 a ha).1)
  have hT : hx_T T_tb ((L ++ [q_2]) ++ [q_6]) h_5 := by rw [eh_5]; exact hx_T_nw hT hqq_6 tt_14 rfl
  replace f_4 := (hs.o gx trivial rfl).2.trans f_4
  replace hz := hx_zr [1] hz hs gx trivial rfl
  replace hM := hM.tr (hs.mono (by decide))
  replace gx := gx.S hs
  replace gq_2 := gq_2.S hs
  refine hx_putrF hx hb hts hC_1 hown hW hT (hx_S.rf (M := [(117, 2)])) gx tt_117 2 (by decide) rfl kw_199 ⟨rfl, rfl, rfl⟩ rfl hin rfl (x := (some q_6)) ⟨fun _ z => (by cases z), fun q hq => (by cases hq; exact ⟨gq_6.1, by rw [gq_6.2]; decide⟩)⟩ rfl rfl rfl (List.mem_singleton.mpr rfl) dX1_init_19 (fun H locs h_7 eh_7 hW hT hs => ?_)
  replace f_4 := (hs.o gx trivial rfl).2.trans f_4
  replace hz := hx_zr [1, 2] hz hs gx trivial rfl
  replace hM := hM.tr (hs.mono (by decide))
  replace gx := gx.S hs
  replace gq_2 := gq_2.S hs
  replace gq_6 := gq_6.S hs
  have f_8 : h_7.2.2 x 2 = (some q_6) := by rw [eh_7]; exact hx_pr_at _ _ _ _
  refine lv_aload_n hx hb dX1_init_22 rfl (lv_at hl 0 rfl) ?_
  refine lv_sipush (v := 400) hx hb dX1_init_23 (by decide) ?_
  refine hk_newa hx hb hts hW 15 tt_15 (atype := .int) rfl kw_186 (tys := P_ty dA) (t0 := 0) rfl (fun _ => Iff.rfl) rfl (i := (400 : Int32)) (by decide) (Nat.le_of_ble_eq_true rfl) (Nat.le_of_ble_eq_true rfl) (Nat.le_of_ble_eq_true rfl) dX1_init_26 (fun q_10 H h_9 eh_9 hqq_10 hW hs gq_10 => ?_)
  have nq_q_10 : ∀ a ∈ (hx_X L x), a ≠ q_10 := fun a ha z => hqq_10 (z ▸ (hM.1 a ha).1)
  have hT : hx_T T_tb (((L ++ [q_2]) ++ [q_6]) ++ [q_10]) h_9 := by rw [eh_9]; exact hx_T_nw hT hqq_10 tt_15 rfl
  replace f_4 := (hs.o gx trivial rfl).2.trans f_4
  replace f_8 := (hs.o gx trivial rfl).2.trans f_8
  replace hz := hx_zr [1, 2] hz hs gx trivial rfl
  replace hM := hM.tr (hs.mono (by decide))
  replace gx := gx.S hs
  replace gq_2 := gq_2.S hs
  replace gq_6 := gq_6.S hs
  refine hx_putrF hx hb hts hC_1 hown hW hT (hx_S.rf (M := [(117, 3)])) gx tt_117 3 (by decide) rfl kw_200 ⟨rfl, rfl, rfl⟩ rfl hin rfl (x := (some q_10)) ⟨fun _ z => (by cases z), fun q hq => (by cases hq; exact ⟨gq_10.1, by rw [gq_10.2]; decide⟩)⟩ rfl rfl rfl (List.mem_singleton.mpr rfl) dX1_init_28 (fun H locs h_11 eh_11 hW hT hs => ?_)
  replace f_4 := (hs.o gx trivial rfl).2.trans f_4
  replace f_8 := (hs.o gx trivial rfl).2.trans f_8
  replace hz := hx_zr [1, 2, 3] hz hs gx trivial rfl
  replace hM := hM.tr (hs.mono (by decide))
  replace gx := gx.S hs
  replace gq_2 := gq_2.S hs
  replace gq_6 := gq_6.S hs
  replace gq_10 := gq_10.S hs
  have f_12 : h_11.2.2 x 3 = (some q_10) := by rw [eh_11]; exact hx_pr_at _ _ _ _
  refine lv_aload_n hx hb dX1_init_31 rfl (lv_at hl 0 rfl) ?_
  refine lv_sipush (v := 400) hx hb dX1_init_32 (by decide) ?_
  refine hk_newa hx hb hts hW 16 tt_16 (atype := .int) rfl kw_186 (tys := P_ty dA) (t0 := 0) rfl (fun _ => Iff.rfl) rfl (i := (400 : Int32)) (by decide) (Nat.le_of_ble_eq_true rfl) (Nat.le_of_ble_eq_true rfl) (Nat.le_of_ble_eq_true rfl) dX1_init_35 (fun q_14 H h_13 eh_13 hqq_14 hW hs gq_14 => ?_)
  have nq_q_14 : ∀ a ∈ (hx_X L x), a ≠ q_14 := fun a ha z => hqq_14 (z ▸ (hM.1 a ha).1)
  have hT : hx_T T_tb ((((L ++ [q_2]) ++ [q_6]) ++ [q_10]) ++ [q_14]) h_13 := by rw [eh_13]; exact hx_T_nw hT hqq_14 tt_16 rfl
  replace f_4 := (hs.o gx trivial rfl).2.trans f_4
  replace f_8 := (hs.o gx trivial rfl).2.trans f_8
  replace f_12 := (hs.o gx trivial rfl).2.trans f_12
  replace hz := hx_zr [1, 2, 3] hz hs gx trivial rfl
  replace hM := hM.tr (hs.mono (by decide))
  replace gx := gx.S hs
  replace gq_2 := gq_2.S hs
  replace gq_6 := gq_6.S hs
  replace gq_10 := gq_10.S hs
  refine hx_putrF hx hb hts hC_1 hown hW hT (hx_S.rf (M := [(117, 4)])) gx tt_117 4 (by decide) rfl kw_201 ⟨rfl, rfl, rfl⟩ rfl hin rfl (x := (some q_14)) ⟨fun _ z => (by cases z), fun q hq => (by cases hq; exact ⟨gq_14.1, by rw [gq_14.2]; decide⟩)⟩ rfl rfl rfl (List.mem_singleton.mpr rfl) dX1_init_37 (fun H locs h_15 eh_15 hW hT hs => ?_)
  replace f_4 := (hs.o gx trivial rfl).2.trans f_4
  replace f_8 := (hs.o gx trivial rfl).2.trans f_8
  replace f_12 := (hs.o gx trivial rfl).2.trans f_12
  replace hz := hx_zr [1, 2, 3, 4] hz hs gx trivial rfl
  replace hM := hM.tr (hs.mono (by decide))
  replace gx := gx.S hs
  replace gq_2 := gq_2.S hs
  replace gq_6 := gq_6.S hs
  replace gq_10 := gq_10.S hs
  replace gq_14 := gq_14.S hs
  have f_16 : h_15.2.2 x 4 = (some q_14) := by rw [eh_15]; exact hx_pr_at _ _ _ _
  refine lv_aload_n hx hb dX1_init_40 rfl (lv_at hl 0 rfl) ?_
  refine lv_sipush (v := 400) hx hb dX1_init_41 (by decide) ?_
  refine hk_newa hx hb hts hW 17 tt_17 (atype := .int) rfl kw_186 (tys := P_ty dA) (t0 := 0) rfl (fun _ => Iff.rfl) rfl (i := (400 : Int32)) (by decide) (Nat.le_of_ble_eq_true rfl) (Nat.le_of_ble_eq_true rfl) (Nat.le_of_ble_eq_true rfl) dX1_init_44 (fun q_18 H h_17 eh_17 hqq_18 hW hs gq_18 => ?_)
  have nq_q_18 : ∀ a ∈ (hx_X L x), a ≠ q_18 := fun a ha z => hqq_18 (z ▸ (hM.1 a ha).1)
  have hT : hx_T T_tb (((((L ++ [q_2]) ++ [q_6]) ++ [q_10]) ++ [q_14]) ++ [q_18]) h_17 := by rw [eh_17]; exact hx_T_nw hT hqq_18 tt_17 rfl
  replace f_4 := (hs.o gx trivial rfl).2.trans f_4
  replace f_8 := (hs.o gx trivial rfl).2.trans f_8
  replace f_12 := (hs.o gx trivial rfl).2.trans f_12
  replace f_16 := (hs.o gx trivial rfl).2.trans f_16
  replace hz := hx_zr [1, 2, 3, 4] hz hs gx trivial rfl
  replace hM := hM.tr (hs.mono (by decide))
  replace gx := gx.S hs
  replace gq_2 := gq_2.S hs
  replace gq_6 := gq_6.S hs
  replace gq_10 := gq_10.S hs
  replace gq_14 := gq_14.S hs
  refine hx_putrF hx hb hts hC_1 hown hW hT (hx_S.rf (M := [(117, 5)])) gx tt_117 5 (by decide) rfl kw_202 ⟨rfl, rfl, rfl⟩ rfl hin rfl (x := (some q_18)) ⟨fun _ z => (by cases z), fun q hq => (by cases hq; exact ⟨gq_18.1, by rw [gq_18.2]; decide⟩)⟩ rfl rfl rfl (List.mem_singleton.mpr rfl) dX1_init_46 (fun H locs h_19 eh_19 hW hT hs => ?_)
  replace f_4 := (hs.o gx trivial rfl).2.trans f_4
  replace f_8 := (hs.o gx trivial rfl).2.trans f_8
  replace f_12 := (hs.o gx trivial rfl).2.trans f_12
  replace f_16 := (hs.o gx trivial rfl).2.trans f_16
  replace hz := hx_zr [1, 2, 3, 4, 5] hz hs gx trivial rfl
  replace hM := hM.tr (hs.mono (by decide))
  replace gx := gx.S hs
  replace gq_2 := gq_2.S hs
  replace gq_6 := gq_6.S hs
  replace gq_10 := gq_10.S hs
  replace gq_14 := gq_14.S hs
  replace gq_18 := gq_18.S hs
  have f_20 : h_19.2.2 x 5 = (some q_18) := by rw [eh_19]; exact hx_pr_at _ _ _ _
  refine lv_aload_n hx hb dX1_init_49 rfl (lv_at hl 0 rfl) ?_
  refine lv_sipush (v := 400) hx hb dX1_init_50 (by decide) ?_
  refine hk_newa hx hb hts hW 18 tt_18 (atype := .int) rfl kw_186 (tys := P_ty dA) (t0 := 0) rfl (fun _ => Iff.rfl) rfl (i := (400 : Int32)) (by decide) (Nat.le_of_ble_eq_true rfl) (Nat.le_of_ble_eq_true rfl) (Nat.le_of_ble_eq_true rfl) dX1_init_53 (fun q_22 H h_21 eh_21 hqq_22 hW hs gq_22 => ?_)
  have nq_q_22 : ∀ a ∈ (hx_X L x), a ≠ q_22 := fun a ha z => hqq_22 (z ▸ (hM.1 a ha).1)
  have hT : hx_T T_tb ((((((L ++ [q_2]) ++ [q_6]) ++ [q_10]) ++ [q_14]) ++ [q_18]) ++ [q_22]) h_21 := by rw [eh_21]; exact hx_T_nw hT hqq_22 tt_18 rfl
  replace f_4 := (hs.o gx trivial rfl).2.trans f_4
  replace f_8 := (hs.o gx trivial rfl).2.trans f_8
  replace f_12 := (hs.o gx trivial rfl).2.trans f_12
  replace f_16 := (hs.o gx trivial rfl).2.trans f_16
  replace f_20 := (hs.o gx trivial rfl).2.trans f_20
  replace hz := hx_zr [1, 2, 3, 4, 5] hz hs gx trivial rfl
  replace hM := hM.tr (hs.mono (by decide))
  replace gx := gx.S hs
  replace gq_2 := gq_2.S hs
  replace gq_6 := gq_6.S hs
  replace gq_10 := gq_10.S hs
  replace gq_14 := gq_14.S hs
  replace gq_18 := gq_18.S hs
  refine hx_putrF hx hb hts hC_1 hown hW hT (hx_S.rf (M := [(117, 6)])) gx tt_117 6 (by decide) rfl kw_203 ⟨rfl, rfl, rfl⟩ rfl hin rfl (x := (some q_22)) ⟨fun _ z => (by cases z), fun q hq => (by cases hq; exact ⟨gq_22.1, by rw [gq_22.2]; decide⟩)⟩ rfl rfl rfl (List.mem_singleton.mpr rfl) dX1_init_55 (fun H locs h_23 eh_23 hW hT hs => ?_)
  replace f_4 := (hs.o gx trivial rfl).2.trans f_4
  replace f_8 := (hs.o gx trivial rfl).2.trans f_8
  replace f_12 := (hs.o gx trivial rfl).2.trans f_12
  replace f_16 := (hs.o gx trivial rfl).2.trans f_16
  replace f_20 := (hs.o gx trivial rfl).2.trans f_20
  replace hz := hx_zr [1, 2, 3, 4, 5, 6] hz hs gx trivial rfl
  replace hM := hM.tr (hs.mono (by decide))
  replace gx := gx.S hs
  replace gq_2 := gq_2.S hs
  replace gq_6 := gq_6.S hs
  replace gq_10 := gq_10.S hs
  replace gq_14 := gq_14.S hs
  replace gq_18 := gq_18.S hs
  replace gq_22 := gq_22.S hs
  have f_24 : h_23.2.2 x 6 = (some q_22) := by rw [eh_23]; exact hx_pr_at _ _ _ _
  refine lv_aload_n hx hb dX1_init_58 rfl (lv_at hl 0 rfl) ?_
  refine lv_sipush (v := 400) hx hb dX1_init_59 (by decide) ?_
  refine hk_newa hx hb hts hW 19 tt_19 (atype := .boolean) rfl kw_222 (tys := P_ty dA) (t0 := 2) rfl (fun _ => Iff.rfl) rfl (i := (400 : Int32)) (by decide) (Nat.le_of_ble_eq_true rfl) (Nat.le_of_ble_eq_true rfl) (Nat.le_of_ble_eq_true rfl) dX1_init_62 (fun q_26 H h_25 eh_25 hqq_26 hW hs gq_26 => ?_)
  have nq_q_26 : ∀ a ∈ (hx_X L x), a ≠ q_26 := fun a ha z => hqq_26 (z ▸ (hM.1 a ha).1)
  have hT : hx_T T_tb (((((((L ++ [q_2]) ++ [q_6]) ++ [q_10]) ++ [q_14]) ++ [q_18]) ++ [q_22]) ++ [q_26]) h_25 := by rw [eh_25]; exact hx_T_nw hT hqq_26 tt_19 rfl
  replace f_4 := (hs.o gx trivial rfl).2.trans f_4
  replace f_8 := (hs.o gx trivial rfl).2.trans f_8
  replace f_12 := (hs.o gx trivial rfl).2.trans f_12
  replace f_16 := (hs.o gx trivial rfl).2.trans f_16
  replace f_20 := (hs.o gx trivial rfl).2.trans f_20
  replace f_24 := (hs.o gx trivial rfl).2.trans f_24
  replace hz := hx_zr [1, 2, 3, 4, 5, 6] hz hs gx trivial rfl
  replace hM := hM.tr (hs.mono (by decide))
  replace gx := gx.S hs
  replace gq_2 := gq_2.S hs
  replace gq_6 := gq_6.S hs
  replace gq_10 := gq_10.S hs
  replace gq_14 := gq_14.S hs
  replace gq_18 := gq_18.S hs
  replace gq_22 := gq_22.S hs
  refine hx_putrF hx hb hts hC_1 hown hW hT (hx_S.rf (M := [(117, 7)])) gx tt_117 7 (by decide) rfl kw_204 ⟨rfl, rfl, rfl⟩ rfl hin rfl (x := (some q_26)) ⟨fun _ z => (by cases z), fun q hq => (by cases hq; exact ⟨gq_26.1, by rw [gq_26.2]; decide⟩)⟩ rfl rfl rfl (List.mem_singleton.mpr rfl) dX1_init_64 (fun H locs h_27 eh_27 hW hT hs => ?_)
  replace f_4 := (hs.o gx trivial rfl).2.trans f_4
  replace f_8 := (hs.o gx trivial rfl).2.trans f_8
  replace f_12 := (hs.o gx trivial rfl).2.trans f_12
  replace f_16 := (hs.o gx trivial rfl).2.trans f_16
  replace f_20 := (hs.o gx trivial rfl).2.trans f_20
  replace f_24 := (hs.o gx trivial rfl).2.trans f_24
  replace hz := hx_zr [1, 2, 3, 4, 5, 6, 7] hz hs gx trivial rfl
  replace hM := hM.tr (hs.mono (by decide))
  replace gx := gx.S hs
  replace gq_2 := gq_2.S hs
  replace gq_6 := gq_6.S hs
  replace gq_10 := gq_10.S hs
  replace gq_14 := gq_14.S hs
  replace gq_18 := gq_18.S hs
  replace gq_22 := gq_22.S hs
  replace gq_26 := gq_26.S hs
  have f_28 : h_27.2.2 x 7 = (some q_26) := by rw [eh_27]; exact hx_pr_at _ _ _ _
  have f_29 : h_27.2.1 x 0 = 0 := (hz 0 rfl).1
  have hF : hx_F (fun k f => hx_o (((((((L ++ [q_2]) ++ [q_6]) ++ [q_10]) ++ [q_14]) ++ [q_18]) ++ [q_22]) ++ [q_26]) h_27 f (h_27.2.1 x k) (h_27.2.2 x k)) T_f1 0 := ⟨hx_oi f_29 (by decide), hx_or f_4 gq_2 (by decide), hx_or f_8 gq_6 (by decide), hx_or f_12 gq_10 (by decide), hx_or f_16 gq_14 (by decide), hx_or f_20 gq_18 (by decide), hx_or f_24 gq_22 (by decide), hx_or f_28 gq_26 (by decide), trivial⟩
  have hT := hx_T_rt hT gx tt_1 rfl (hx_F_all hF)
  have hW := hx_W_rt hW gx tt_117 tt_1 (fun _ _ => rfl)
  have hM := hx_SX_rt (x := x) (t := 1) hM
  have gq_2 := hx_rt_o (t := 1) gq_2 (gq_2.ne gx (by decide))
  have gq_6 := hx_rt_o (t := 1) gq_6 (gq_6.ne gx (by decide))
  have gq_10 := hx_rt_o (t := 1) gq_10 (gq_10.ne gx (by decide))
  have gq_14 := hx_rt_o (t := 1) gq_14 (gq_14.ne gx (by decide))
  have gq_18 := hx_rt_o (t := 1) gq_18 (gq_18.ne gx (by decide))
  have gq_22 := hx_rt_o (t := 1) gq_22 (gq_22.ne gx (by decide))
  have gq_26 := hx_rt_o (t := 1) gq_26 (gq_26.ne gx (by decide))
  have gx := hx_rt_g (t := 1) gx
  have f_4 : (hx_rt h_27 x 1).2.2 x 1 = some q_2 := f_4
  have f_8 : (hx_rt h_27 x 1).2.2 x 2 = some q_6 := f_8
  have f_12 : (hx_rt h_27 x 1).2.2 x 3 = some q_10 := f_12
  have f_16 : (hx_rt h_27 x 1).2.2 x 4 = some q_14 := f_16
  have f_20 : (hx_rt h_27 x 1).2.2 x 5 = some q_18 := f_20
  have f_24 : (hx_rt h_27 x 1).2.2 x 6 = some q_22 := f_24
  have f_28 : (hx_rt h_27 x 1).2.2 x 7 = some q_26 := f_28
  have f_29 : (hx_rt h_27 x 1).2.1 x 0 = (0 : Int32) := f_29
  generalize eh : hx_rt h_27 x 1 = h_30 at hT hW hM gx gq_2 gq_6 gq_10 gq_14 gq_18 gq_22 gq_26 f_4 f_8 f_12 f_16 f_20 f_24 f_28 f_29
  refine W.widen (k := 7) (n := 2800) (Nat.le_of_ble_eq_true rfl) (Nat.le_of_ble_eq_true rfl) ?_
  exact hx_retv hx hb hr hlk hW ⟨hT, hM, gx, f_29⟩ dX1_init_67

def wLX3_init_0 : List Nat := [42, 183, 0, 3, 42, 17, 2, 88, 188, 10, 181, 0, 9, 42, 17, 2, 88, 188, 10, 181, 0, 15, 42, 17, 2, 88, 188, 10, 181, 0, 18, 42, 17, 2, 88, 188, 10, 181, 0, 21, 42, 17, 2, 88, 188, 10, 181, 0, 24, 177]
theorem wX3_init_0 : (cX3_init.data.toList.map UInt8.toNat).drop 0 = wLX3_init_0 ++ ([]) := by decide +kernel
theorem dX3_init_0 : decode cX3_init 0 = .ok (.aload_n 0, 1) := dq_42 (hz_wg wX3_init_0 (j := 0) (n := 42) rfl)
theorem dX3_init_1 : decode cX3_init 1 = .ok (.invokespecial 3, 3) := dq_183 (hz_wg wX3_init_0 (j := 1) (n := 183) rfl) (hz_wg wX3_init_0 (j := 2) (n := 0) rfl) (hz_wg wX3_init_0 (j := 3) (n := 3) rfl) rfl
theorem dX3_init_4 : decode cX3_init 4 = .ok (.aload_n 0, 1) := dq_42 (hz_wg wX3_init_0 (j := 4) (n := 42) rfl)
theorem dX3_init_5 : decode cX3_init 5 = .ok (.sipush 600, 3) := dq_17 (hz_wg wX3_init_0 (j := 5) (n := 17) rfl) (hz_wg wX3_init_0 (j := 6) (n := 2) rfl) (hz_wg wX3_init_0 (j := 7) (n := 88) rfl) (by decide)
theorem dX3_init_8 : decode cX3_init 8 = .ok (.newarray .int, 2) := dk_b rfl (hz_wg wX3_init_0 (j := 8) (n := 188) rfl) (hz_wg wX3_init_0 (j := 9) (n := 10) rfl) rfl rfl
theorem dX3_init_10 : decode cX3_init 10 = .ok (.putfield 9, 3) := dq_181 (hz_wg wX3_init_0 (j := 10) (n := 181) rfl) (hz_wg wX3_init_0 (j := 11) (n := 0) rfl) (hz_wg wX3_init_0 (j := 12) (n := 9) rfl) rfl
theorem dX3_init_13 : decode cX3_init 13 = .ok (.aload_n 0, 1) := dq_42 (hz_wg wX3_init_0 (j := 13) (n := 42) rfl)
theorem dX3_init_14 : decode cX3_init 14 = .ok (.sipush 600, 3) := dq_17 (hz_wg wX3_init_0 (j := 14) (n := 17) rfl) (hz_wg wX3_init_0 (j := 15) (n := 2) rfl) (hz_wg wX3_init_0 (j := 16) (n := 88) rfl) (by decide)
theorem dX3_init_17 : decode cX3_init 17 = .ok (.newarray .int, 2) := dk_b rfl (hz_wg wX3_init_0 (j := 17) (n := 188) rfl) (hz_wg wX3_init_0 (j := 18) (n := 10) rfl) rfl rfl
theorem dX3_init_19 : decode cX3_init 19 = .ok (.putfield 15, 3) := dq_181 (hz_wg wX3_init_0 (j := 19) (n := 181) rfl) (hz_wg wX3_init_0 (j := 20) (n := 0) rfl) (hz_wg wX3_init_0 (j := 21) (n := 15) rfl) rfl
theorem dX3_init_22 : decode cX3_init 22 = .ok (.aload_n 0, 1) := dq_42 (hz_wg wX3_init_0 (j := 22) (n := 42) rfl)
theorem dX3_init_23 : decode cX3_init 23 = .ok (.sipush 600, 3) := dq_17 (hz_wg wX3_init_0 (j := 23) (n := 17) rfl) (hz_wg wX3_init_0 (j := 24) (n := 2) rfl) (hz_wg wX3_init_0 (j := 25) (n := 88) rfl) (by decide)
theorem dX3_init_26 : decode cX3_init 26 = .ok (.newarray .int, 2) := dk_b rfl (hz_wg wX3_init_0 (j := 26) (n := 188) rfl) (hz_wg wX3_init_0 (j := 27) (n := 10) rfl) rfl rfl
theorem dX3_init_28 : decode cX3_init 28 = .ok (.putfield 18, 3) := dq_181 (hz_wg wX3_init_0 (j := 28) (n := 181) rfl) (hz_wg wX3_init_0 (j := 29) (n := 0) rfl) (hz_wg wX3_init_0 (j := 30) (n := 18) rfl) rfl
theorem dX3_init_31 : decode cX3_init 31 = .ok (.aload_n 0, 1) := dq_42 (hz_wg wX3_init_0 (j := 31) (n := 42) rfl)
theorem dX3_init_32 : decode cX3_init 32 = .ok (.sipush 600, 3) := dq_17 (hz_wg wX3_init_0 (j := 32) (n := 17) rfl) (hz_wg wX3_init_0 (j := 33) (n := 2) rfl) (hz_wg wX3_init_0 (j := 34) (n := 88) rfl) (by decide)
theorem dX3_init_35 : decode cX3_init 35 = .ok (.newarray .int, 2) := dk_b rfl (hz_wg wX3_init_0 (j := 35) (n := 188) rfl) (hz_wg wX3_init_0 (j := 36) (n := 10) rfl) rfl rfl
theorem dX3_init_37 : decode cX3_init 37 = .ok (.putfield 21, 3) := dq_181 (hz_wg wX3_init_0 (j := 37) (n := 181) rfl) (hz_wg wX3_init_0 (j := 38) (n := 0) rfl) (hz_wg wX3_init_0 (j := 39) (n := 21) rfl) rfl
theorem dX3_init_40 : decode cX3_init 40 = .ok (.aload_n 0, 1) := dq_42 (hz_wg wX3_init_0 (j := 40) (n := 42) rfl)
theorem dX3_init_41 : decode cX3_init 41 = .ok (.sipush 600, 3) := dq_17 (hz_wg wX3_init_0 (j := 41) (n := 17) rfl) (hz_wg wX3_init_0 (j := 42) (n := 2) rfl) (hz_wg wX3_init_0 (j := 43) (n := 88) rfl) (by decide)
theorem dX3_init_44 : decode cX3_init 44 = .ok (.newarray .int, 2) := dk_b rfl (hz_wg wX3_init_0 (j := 44) (n := 188) rfl) (hz_wg wX3_init_0 (j := 45) (n := 10) rfl) rfl rfl
theorem dX3_init_46 : decode cX3_init 46 = .ok (.putfield 24, 3) := dq_181 (hz_wg wX3_init_0 (j := 46) (n := 181) rfl) (hz_wg wX3_init_0 (j := 47) (n := 0) rfl) (hz_wg wX3_init_0 (j := 48) (n := 24) rfl) rfl
theorem dX3_init_49 : decode cX3_init 49 = .ok (.return_, 1) := dq_177 (hz_wg wX3_init_0 (j := 49) (n := 177) rfl)
set_option maxHeartbeats 4000000 in
set_option maxRecDepth 100000 in
theorem t_X3_init (l : Launch) (dC : Nat → ClassId) (dI : Nat → Nat → Nat) (dA : Nat → ClassId) (L : List Nat) (h : hx_h) (sz : Nat) (x : Nat) (hT : hx_T T_tb L h) (gx : hx_g L h x 119) (hz : ∀ j, h.2.1 x j = 0 ∧ h.2.2 x j = none) : Met l yX3_init (Cond.code yX3_init cX3_init 1 none :: hx_all) ({ frames := 1, cells := 5, slots := 3000, locals := 12 }) (va_Pc [.ref x] (hx_B T_tb (P_ty dA) (dC, dI) vwCl L h sz)) (va_Qv (fun (u : List Nat × hx_h) => hx_T T_tb u.1 u.2 ∧ hx_S T_tb [(119, 1), (119, 2), (119, 3), (119, 4), (119, 5)] (hx_X L x) h u.1 u.2 ∧ hx_g u.1 u.2 x 3) (hx_E T_tb (P_ty dA) (dC, dI) vwCl (hx_A L sz)) (hx_A L sz)) 5 3000 (hx_A L sz) := by
  refine hx_met (lv := [(0, .ref x)]) (by decide +kernel) rfl (Nat.le_of_ble_eq_true rfl) rfl ?_
  intro p e s m below meth c hx hb hml hr hlk hts0 hown hin hsz hW ls hl
  have hts : ∀ w ∈ hx_all, w.before _ s = true := fun w hw => hts0 w (List.mem_cons_of_mem _ hw)
  have hown : s.vm.findClass "SmallCourt$Payments" = some m.cls := hown
  have hin : meth.name = "<init>" := hin
  have hM : hx_S T_tb [(119, 1), (119, 2), (119, 3), (119, 4), (119, 5)] (hx_X L x) h L h := hx_SX_rf
  have hz : ∀ j, ([] : List Nat).contains j = false → h.2.1 x j = 0 ∧ h.2.2 x j = none := fun j _ => hz j
  refine lv_aload_n hx hb dX3_init_0 rfl (lv_at hl 0 rfl) ?_
  refine W.objInit hx hb hown (hts _ kw_230) (hts _ kw_117) (hts _ kw_118) rfl (by rw [hml]; exact hl.1) rfl dX3_init_1 (Nat.le_of_ble_eq_true rfl) (Nat.le_of_ble_eq_true rfl) ?_
  refine W.eq (g2 := F0 m 4 ls []) rfl ?_
  refine lv_aload_n hx hb dX3_init_4 rfl (lv_at hl 0 rfl) ?_
  refine lv_sipush (v := 600) hx hb dX3_init_5 (by decide) ?_
  refine hk_newa hx hb hts hW 22 tt_22 (atype := .int) rfl kw_186 (tys := P_ty dA) (t0 := 0) rfl (fun _ => Iff.rfl) rfl (i := (600 : Int32)) (by decide) (Nat.le_of_ble_eq_true rfl) (Nat.le_of_ble_eq_true rfl) (Nat.le_of_ble_eq_true rfl) dX3_init_8 (fun q_2 H h_1 eh_1 hqq_2 hW hs gq_2 => ?_)
  have nq_q_2 : ∀ a ∈ (hx_X L x), a ≠ q_2 := fun a ha z => hqq_2 (z ▸ (hM.1 a ha).1)
  have hT : hx_T T_tb (L ++ [q_2]) h_1 := by rw [eh_1]; exact hx_T_nw hT hqq_2 tt_22 rfl
  replace hz := hx_zr [] hz hs gx trivial rfl
  replace hM := hM.tr (hs.mono (by decide))
  replace gx := gx.S hs
  refine hx_putrF hx hb hts hC_3 hown hW hT (hx_S.rf (M := [(119, 1)])) gx tt_119 1 (by decide) rfl kw_233 ⟨rfl, rfl, rfl⟩ rfl hin rfl (x := (some q_2)) ⟨fun _ z => (by cases z), fun q hq => (by cases hq; exact ⟨gq_2.1, by rw [gq_2.2]; decide⟩)⟩ rfl rfl rfl (List.mem_singleton.mpr rfl) dX3_init_10 (fun H locs h_3 eh_3 hW hT hs => ?_)
  replace hz := hx_zr [1] hz hs gx trivial rfl
  replace hM := hM.tr (hs.mono (by decide))
  replace gx := gx.S hs
  replace gq_2 := gq_2.S hs
  have f_4 : h_3.2.2 x 1 = (some q_2) := by rw [eh_3]; exact hx_pr_at _ _ _ _
  refine lv_aload_n hx hb dX3_init_13 rfl (lv_at hl 0 rfl) ?_
  refine lv_sipush (v := 600) hx hb dX3_init_14 (by decide) ?_
  refine hk_newa hx hb hts hW 23 tt_23 (atype := .int) rfl kw_186 (tys := P_ty dA) (t0 := 0) rfl (fun _ => Iff.rfl) rfl (i := (600 : Int32)) (by decide) (Nat.le_of_ble_eq_true rfl) (Nat.le_of_ble_eq_true rfl) (Nat.le_of_ble_eq_true rfl) dX3_init_17 (fun q_6 H h_5 eh_5 hqq_6 hW hs gq_6 => ?_)
  have nq_q_6 : ∀ a ∈ (hx_X L x), a ≠ q_6 := fun a ha z => hqq_6 (z ▸ (hM.1 a ha).1)
  have hT : hx_T T_tb ((L ++ [q_2]) ++ [q_6]) h_5 := by rw [eh_5]; exact hx_T_nw hT hqq_6 tt_23 rfl
  replace f_4 := (hs.o gx trivial rfl).2.trans f_4
  replace hz := hx_zr [1] hz hs gx trivial rfl
  replace hM := hM.tr (hs.mono (by decide))
  replace gx := gx.S hs
  replace gq_2 := gq_2.S hs
  refine hx_putrF hx hb hts hC_3 hown hW hT (hx_S.rf (M := [(119, 2)])) gx tt_119 2 (by decide) rfl kw_235 ⟨rfl, rfl, rfl⟩ rfl hin rfl (x := (some q_6)) ⟨fun _ z => (by cases z), fun q hq => (by cases hq; exact ⟨gq_6.1, by rw [gq_6.2]; decide⟩)⟩ rfl rfl rfl (List.mem_singleton.mpr rfl) dX3_init_19 (fun H locs h_7 eh_7 hW hT hs => ?_)
  replace f_4 := (hs.o gx trivial rfl).2.trans f_4
  replace hz := hx_zr [1, 2] hz hs gx trivial rfl
  replace hM := hM.tr (hs.mono (by decide))
  replace gx := gx.S hs
  replace gq_2 := gq_2.S hs
  replace gq_6 := gq_6.S hs
  have f_8 : h_7.2.2 x 2 = (some q_6) := by rw [eh_7]; exact hx_pr_at _ _ _ _
  refine lv_aload_n hx hb dX3_init_22 rfl (lv_at hl 0 rfl) ?_
  refine lv_sipush (v := 600) hx hb dX3_init_23 (by decide) ?_
  refine hk_newa hx hb hts hW 24 tt_24 (atype := .int) rfl kw_186 (tys := P_ty dA) (t0 := 0) rfl (fun _ => Iff.rfl) rfl (i := (600 : Int32)) (by decide) (Nat.le_of_ble_eq_true rfl) (Nat.le_of_ble_eq_true rfl) (Nat.le_of_ble_eq_true rfl) dX3_init_26 (fun q_10 H h_9 eh_9 hqq_10 hW hs gq_10 => ?_)
  have nq_q_10 : ∀ a ∈ (hx_X L x), a ≠ q_10 := fun a ha z => hqq_10 (z ▸ (hM.1 a ha).1)
  have hT : hx_T T_tb (((L ++ [q_2]) ++ [q_6]) ++ [q_10]) h_9 := by rw [eh_9]; exact hx_T_nw hT hqq_10 tt_24 rfl
  replace f_4 := (hs.o gx trivial rfl).2.trans f_4
  replace f_8 := (hs.o gx trivial rfl).2.trans f_8
  replace hz := hx_zr [1, 2] hz hs gx trivial rfl
  replace hM := hM.tr (hs.mono (by decide))
  replace gx := gx.S hs
  replace gq_2 := gq_2.S hs
  replace gq_6 := gq_6.S hs
  refine hx_putrF hx hb hts hC_3 hown hW hT (hx_S.rf (M := [(119, 3)])) gx tt_119 3 (by decide) rfl kw_236 ⟨rfl, rfl, rfl⟩ rfl hin rfl (x := (some q_10)) ⟨fun _ z => (by cases z), fun q hq => (by cases hq; exact ⟨gq_10.1, by rw [gq_10.2]; decide⟩)⟩ rfl rfl rfl (List.mem_singleton.mpr rfl) dX3_init_28 (fun H locs h_11 eh_11 hW hT hs => ?_)
  replace f_4 := (hs.o gx trivial rfl).2.trans f_4
  replace f_8 := (hs.o gx trivial rfl).2.trans f_8
  replace hz := hx_zr [1, 2, 3] hz hs gx trivial rfl
  replace hM := hM.tr (hs.mono (by decide))
  replace gx := gx.S hs
  replace gq_2 := gq_2.S hs
  replace gq_6 := gq_6.S hs
  replace gq_10 := gq_10.S hs
  have f_12 : h_11.2.2 x 3 = (some q_10) := by rw [eh_11]; exact hx_pr_at _ _ _ _
  refine lv_aload_n hx hb dX3_init_31 rfl (lv_at hl 0 rfl) ?_
  refine lv_sipush (v := 600) hx hb dX3_init_32 (by decide) ?_
  refine hk_newa hx hb hts hW 25 tt_25 (atype := .int) rfl kw_186 (tys := P_ty dA) (t0 := 0) rfl (fun _ => Iff.rfl) rfl (i := (600 : Int32)) (by decide) (Nat.le_of_ble_eq_true rfl) (Nat.le_of_ble_eq_true rfl) (Nat.le_of_ble_eq_true rfl) dX3_init_35 (fun q_14 H h_13 eh_13 hqq_14 hW hs gq_14 => ?_)
  have nq_q_14 : ∀ a ∈ (hx_X L x), a ≠ q_14 := fun a ha z => hqq_14 (z ▸ (hM.1 a ha).1)
  have hT : hx_T T_tb ((((L ++ [q_2]) ++ [q_6]) ++ [q_10]) ++ [q_14]) h_13 := by rw [eh_13]; exact hx_T_nw hT hqq_14 tt_25 rfl
  replace f_4 := (hs.o gx trivial rfl).2.trans f_4
  replace f_8 := (hs.o gx trivial rfl).2.trans f_8
  replace f_12 := (hs.o gx trivial rfl).2.trans f_12
  replace hz := hx_zr [1, 2, 3] hz hs gx trivial rfl
  replace hM := hM.tr (hs.mono (by decide))
  replace gx := gx.S hs
  replace gq_2 := gq_2.S hs
  replace gq_6 := gq_6.S hs
  replace gq_10 := gq_10.S hs
  refine hx_putrF hx hb hts hC_3 hown hW hT (hx_S.rf (M := [(119, 4)])) gx tt_119 4 (by decide) rfl kw_237 ⟨rfl, rfl, rfl⟩ rfl hin rfl (x := (some q_14)) ⟨fun _ z => (by cases z), fun q hq => (by cases hq; exact ⟨gq_14.1, by rw [gq_14.2]; decide⟩)⟩ rfl rfl rfl (List.mem_singleton.mpr rfl) dX3_init_37 (fun H locs h_15 eh_15 hW hT hs => ?_)
  replace f_4 := (hs.o gx trivial rfl).2.trans f_4
  replace f_8 := (hs.o gx trivial rfl).2.trans f_8
  replace f_12 := (hs.o gx trivial rfl).2.trans f_12
  replace hz := hx_zr [1, 2, 3, 4] hz hs gx trivial rfl
  replace hM := hM.tr (hs.mono (by decide))
  replace gx := gx.S hs
  replace gq_2 := gq_2.S hs
  replace gq_6 := gq_6.S hs
  replace gq_10 := gq_10.S hs
  replace gq_14 := gq_14.S hs
  have f_16 : h_15.2.2 x 4 = (some q_14) := by rw [eh_15]; exact hx_pr_at _ _ _ _
  refine lv_aload_n hx hb dX3_init_40 rfl (lv_at hl 0 rfl) ?_
  refine lv_sipush (v := 600) hx hb dX3_init_41 (by decide) ?_
  refine hk_newa hx hb hts hW 26 tt_26 (atype := .int) rfl kw_186 (tys := P_ty dA) (t0 := 0) rfl (fun _ => Iff.rfl) rfl (i := (600 : Int32)) (by decide) (Nat.le_of_ble_eq_true rfl) (Nat.le_of_ble_eq_true rfl) (Nat.le_of_ble_eq_true rfl) dX3_init_44 (fun q_18 H h_17 eh_17 hqq_18 hW hs gq_18 => ?_)
  have nq_q_18 : ∀ a ∈ (hx_X L x), a ≠ q_18 := fun a ha z => hqq_18 (z ▸ (hM.1 a ha).1)
  have hT : hx_T T_tb (((((L ++ [q_2]) ++ [q_6]) ++ [q_10]) ++ [q_14]) ++ [q_18]) h_17 := by rw [eh_17]; exact hx_T_nw hT hqq_18 tt_26 rfl
  replace f_4 := (hs.o gx trivial rfl).2.trans f_4
  replace f_8 := (hs.o gx trivial rfl).2.trans f_8
  replace f_12 := (hs.o gx trivial rfl).2.trans f_12
  replace f_16 := (hs.o gx trivial rfl).2.trans f_16
  replace hz := hx_zr [1, 2, 3, 4] hz hs gx trivial rfl
  replace hM := hM.tr (hs.mono (by decide))
  replace gx := gx.S hs
  replace gq_2 := gq_2.S hs
  replace gq_6 := gq_6.S hs
  replace gq_10 := gq_10.S hs
  replace gq_14 := gq_14.S hs
  refine hx_putrF hx hb hts hC_3 hown hW hT (hx_S.rf (M := [(119, 5)])) gx tt_119 5 (by decide) rfl kw_238 ⟨rfl, rfl, rfl⟩ rfl hin rfl (x := (some q_18)) ⟨fun _ z => (by cases z), fun q hq => (by cases hq; exact ⟨gq_18.1, by rw [gq_18.2]; decide⟩)⟩ rfl rfl rfl (List.mem_singleton.mpr rfl) dX3_init_46 (fun H locs h_19 eh_19 hW hT hs => ?_)
  replace f_4 := (hs.o gx trivial rfl).2.trans f_4
  replace f_8 := (hs.o gx trivial rfl).2.trans f_8
  replace f_12 := (hs.o gx trivial rfl).2.trans f_12
  replace f_16 := (hs.o gx trivial rfl).2.trans f_16
  replace hz := hx_zr [1, 2, 3, 4, 5] hz hs gx trivial rfl
  replace hM := hM.tr (hs.mono (by decide))
  replace gx := gx.S hs
  replace gq_2 := gq_2.S hs
  replace gq_6 := gq_6.S hs
  replace gq_10 := gq_10.S hs
  replace gq_14 := gq_14.S hs
  replace gq_18 := gq_18.S hs
  have f_20 : h_19.2.2 x 5 = (some q_18) := by rw [eh_19]; exact hx_pr_at _ _ _ _
  have hF : hx_F (fun k f => hx_o (((((L ++ [q_2]) ++ [q_6]) ++ [q_10]) ++ [q_14]) ++ [q_18]) h_19 f (h_19.2.1 x k) (h_19.2.2 x k)) T_f3 0 := ⟨hx_oi (hz 0 rfl).1 (by decide), hx_or f_4 gq_2 (by decide), hx_or f_8 gq_6 (by decide), hx_or f_12 gq_10 (by decide), hx_or f_16 gq_14 (by decide), hx_or f_20 gq_18 (by decide), trivial⟩
  have hT := hx_T_rt hT gx tt_3 rfl (hx_F_all hF)
  have hW := hx_W_rt hW gx tt_119 tt_3 (fun _ _ => rfl)
  have hM := hx_SX_rt (x := x) (t := 3) hM
  have gq_2 := hx_rt_o (t := 3) gq_2 (gq_2.ne gx (by decide))
  have gq_6 := hx_rt_o (t := 3) gq_6 (gq_6.ne gx (by decide))
  have gq_10 := hx_rt_o (t := 3) gq_10 (gq_10.ne gx (by decide))
  have gq_14 := hx_rt_o (t := 3) gq_14 (gq_14.ne gx (by decide))
  have gq_18 := hx_rt_o (t := 3) gq_18 (gq_18.ne gx (by decide))
  have gx := hx_rt_g (t := 3) gx
  have f_4 : (hx_rt h_19 x 3).2.2 x 1 = some q_2 := f_4
  have f_8 : (hx_rt h_19 x 3).2.2 x 2 = some q_6 := f_8
  have f_12 : (hx_rt h_19 x 3).2.2 x 3 = some q_10 := f_12
  have f_16 : (hx_rt h_19 x 3).2.2 x 4 = some q_14 := f_16
  have f_20 : (hx_rt h_19 x 3).2.2 x 5 = some q_18 := f_20
  generalize eh : hx_rt h_19 x 3 = h_21 at hT hW hM gx gq_2 gq_6 gq_10 gq_14 gq_18 f_4 f_8 f_12 f_16 f_20
  refine W.widen (k := 5) (n := 3000) (Nat.le_of_ble_eq_true rfl) (Nat.le_of_ble_eq_true rfl) ?_
  exact hx_retv hx hb hr hlk hW ⟨hT, hM, gx⟩ dX3_init_49

def wLX5_init_0 : List Nat := [42, 183, 0, 3, 42, 7, 188, 10, 181, 0, 9, 42, 7, 188, 10, 181, 0, 15, 42, 7, 188, 10, 181, 0, 18, 42, 7, 188, 10, 181, 0, 21, 42, 7, 188, 10, 181, 0, 24, 42, 7, 188, 10, 181, 0, 27, 42, 7, 188, 10, 181, 0, 30, 177]
theorem wX5_init_0 : (cX5_init.data.toList.map UInt8.toNat).drop 0 = wLX5_init_0 ++ ([]) := by decide +kernel
theorem dX5_init_0 : decode cX5_init 0 = .ok (.aload_n 0, 1) := dq_42 (hz_wg wX5_init_0 (j := 0) (n := 42) rfl)
theorem dX5_init_1 : decode cX5_init 1 = .ok (.invokespecial 3, 3) := dq_183 (hz_wg wX5_init_0 (j := 1) (n := 183) rfl) (hz_wg wX5_init_0 (j := 2) (n := 0) rfl) (hz_wg wX5_init_0 (j := 3) (n := 3) rfl) rfl
theorem dX5_init_4 : decode cX5_init 4 = .ok (.aload_n 0, 1) := dq_42 (hz_wg wX5_init_0 (j := 4) (n := 42) rfl)
theorem dX5_init_5 : decode cX5_init 5 = .ok (.iconst 4, 1) := dq_7 (hz_wg wX5_init_0 (j := 5) (n := 7) rfl)
theorem dX5_init_6 : decode cX5_init 6 = .ok (.newarray .int, 2) := dk_b rfl (hz_wg wX5_init_0 (j := 6) (n := 188) rfl) (hz_wg wX5_init_0 (j := 7) (n := 10) rfl) rfl rfl
theorem dX5_init_8 : decode cX5_init 8 = .ok (.putfield 9, 3) := dq_181 (hz_wg wX5_init_0 (j := 8) (n := 181) rfl) (hz_wg wX5_init_0 (j := 9) (n := 0) rfl) (hz_wg wX5_init_0 (j := 10) (n := 9) rfl) rfl
theorem dX5_init_11 : decode cX5_init 11 = .ok (.aload_n 0, 1) := dq_42 (hz_wg wX5_init_0 (j := 11) (n := 42) rfl)
theorem dX5_init_12 : decode cX5_init 12 = .ok (.iconst 4, 1) := dq_7 (hz_wg wX5_init_0 (j := 12) (n := 7) rfl)
theorem dX5_init_13 : decode cX5_init 13 = .ok (.newarray .int, 2) := dk_b rfl (hz_wg wX5_init_0 (j := 13) (n := 188) rfl) (hz_wg wX5_init_0 (j := 14) (n := 10) rfl) rfl rfl
theorem dX5_init_15 : decode cX5_init 15 = .ok (.putfield 15, 3) := dq_181 (hz_wg wX5_init_0 (j := 15) (n := 181) rfl) (hz_wg wX5_init_0 (j := 16) (n := 0) rfl) (hz_wg wX5_init_0 (j := 17) (n := 15) rfl) rfl
theorem dX5_init_18 : decode cX5_init 18 = .ok (.aload_n 0, 1) := dq_42 (hz_wg wX5_init_0 (j := 18) (n := 42) rfl)
theorem dX5_init_19 : decode cX5_init 19 = .ok (.iconst 4, 1) := dq_7 (hz_wg wX5_init_0 (j := 19) (n := 7) rfl)
theorem dX5_init_20 : decode cX5_init 20 = .ok (.newarray .int, 2) := dk_b rfl (hz_wg wX5_init_0 (j := 20) (n := 188) rfl) (hz_wg wX5_init_0 (j := 21) (n := 10) rfl) rfl rfl
theorem dX5_init_22 : decode cX5_init 22 = .ok (.putfield 18, 3) := dq_181 (hz_wg wX5_init_0 (j := 22) (n := 181) rfl) (hz_wg wX5_init_0 (j := 23) (n := 0) rfl) (hz_wg wX5_init_0 (j := 24) (n := 18) rfl) rfl
theorem dX5_init_25 : decode cX5_init 25 = .ok (.aload_n 0, 1) := dq_42 (hz_wg wX5_init_0 (j := 25) (n := 42) rfl)
theorem dX5_init_26 : decode cX5_init 26 = .ok (.iconst 4, 1) := dq_7 (hz_wg wX5_init_0 (j := 26) (n := 7) rfl)
theorem dX5_init_27 : decode cX5_init 27 = .ok (.newarray .int, 2) := dk_b rfl (hz_wg wX5_init_0 (j := 27) (n := 188) rfl) (hz_wg wX5_init_0 (j := 28) (n := 10) rfl) rfl rfl
theorem dX5_init_29 : decode cX5_init 29 = .ok (.putfield 21, 3) := dq_181 (hz_wg wX5_init_0 (j := 29) (n := 181) rfl) (hz_wg wX5_init_0 (j := 30) (n := 0) rfl) (hz_wg wX5_init_0 (j := 31) (n := 21) rfl) rfl
theorem dX5_init_32 : decode cX5_init 32 = .ok (.aload_n 0, 1) := dq_42 (hz_wg wX5_init_0 (j := 32) (n := 42) rfl)
theorem dX5_init_33 : decode cX5_init 33 = .ok (.iconst 4, 1) := dq_7 (hz_wg wX5_init_0 (j := 33) (n := 7) rfl)
theorem dX5_init_34 : decode cX5_init 34 = .ok (.newarray .int, 2) := dk_b rfl (hz_wg wX5_init_0 (j := 34) (n := 188) rfl) (hz_wg wX5_init_0 (j := 35) (n := 10) rfl) rfl rfl
theorem dX5_init_36 : decode cX5_init 36 = .ok (.putfield 24, 3) := dq_181 (hz_wg wX5_init_0 (j := 36) (n := 181) rfl) (hz_wg wX5_init_0 (j := 37) (n := 0) rfl) (hz_wg wX5_init_0 (j := 38) (n := 24) rfl) rfl
theorem dX5_init_39 : decode cX5_init 39 = .ok (.aload_n 0, 1) := dq_42 (hz_wg wX5_init_0 (j := 39) (n := 42) rfl)
theorem dX5_init_40 : decode cX5_init 40 = .ok (.iconst 4, 1) := dq_7 (hz_wg wX5_init_0 (j := 40) (n := 7) rfl)
theorem dX5_init_41 : decode cX5_init 41 = .ok (.newarray .int, 2) := dk_b rfl (hz_wg wX5_init_0 (j := 41) (n := 188) rfl) (hz_wg wX5_init_0 (j := 42) (n := 10) rfl) rfl rfl
theorem dX5_init_43 : decode cX5_init 43 = .ok (.putfield 27, 3) := dq_181 (hz_wg wX5_init_0 (j := 43) (n := 181) rfl) (hz_wg wX5_init_0 (j := 44) (n := 0) rfl) (hz_wg wX5_init_0 (j := 45) (n := 27) rfl) rfl
theorem dX5_init_46 : decode cX5_init 46 = .ok (.aload_n 0, 1) := dq_42 (hz_wg wX5_init_0 (j := 46) (n := 42) rfl)
theorem dX5_init_47 : decode cX5_init 47 = .ok (.iconst 4, 1) := dq_7 (hz_wg wX5_init_0 (j := 47) (n := 7) rfl)
theorem dX5_init_48 : decode cX5_init 48 = .ok (.newarray .int, 2) := dk_b rfl (hz_wg wX5_init_0 (j := 48) (n := 188) rfl) (hz_wg wX5_init_0 (j := 49) (n := 10) rfl) rfl rfl
theorem dX5_init_50 : decode cX5_init 50 = .ok (.putfield 30, 3) := dq_181 (hz_wg wX5_init_0 (j := 50) (n := 181) rfl) (hz_wg wX5_init_0 (j := 51) (n := 0) rfl) (hz_wg wX5_init_0 (j := 52) (n := 30) rfl) rfl
theorem dX5_init_53 : decode cX5_init 53 = .ok (.return_, 1) := dq_177 (hz_wg wX5_init_0 (j := 53) (n := 177) rfl)
set_option maxHeartbeats 4000000 in
set_option maxRecDepth 100000 in
theorem t_X5_init (l : Launch) (dC : Nat → ClassId) (dI : Nat → Nat → Nat) (dA : Nat → ClassId) (L : List Nat) (h : hx_h) (sz : Nat) (x : Nat) (hT : hx_T T_tb L h) (gx : hx_g L h x 121) (hz : ∀ j, h.2.1 x j = 0 ∧ h.2.2 x j = none) : Met l yX5_init (Cond.code yX5_init cX5_init 1 none :: hx_all) ({ frames := 1, cells := 7, slots := 28, locals := 12 }) (va_Pc [.ref x] (hx_B T_tb (P_ty dA) (dC, dI) vwCl L h sz)) (va_Qv (fun (u : List Nat × hx_h) => hx_T T_tb u.1 u.2 ∧ hx_S T_tb [(121, 2), (121, 3), (121, 4), (121, 5), (121, 6), (121, 7), (121, 8)] (hx_X L x) h u.1 u.2 ∧ hx_g u.1 u.2 x 5) (hx_E T_tb (P_ty dA) (dC, dI) vwCl (hx_A L sz)) (hx_A L sz)) 7 28 (hx_A L sz) := by
  refine hx_met (lv := [(0, .ref x)]) (by decide +kernel) rfl (Nat.le_of_ble_eq_true rfl) rfl ?_
  intro p e s m below meth c hx hb hml hr hlk hts0 hown hin hsz hW ls hl
  have hts : ∀ w ∈ hx_all, w.before _ s = true := fun w hw => hts0 w (List.mem_cons_of_mem _ hw)
  have hown : s.vm.findClass "SmallCourt$Plan" = some m.cls := hown
  have hin : meth.name = "<init>" := hin
  have hM : hx_S T_tb [(121, 2), (121, 3), (121, 4), (121, 5), (121, 6), (121, 7), (121, 8)] (hx_X L x) h L h := hx_SX_rf
  have hz : ∀ j, ([] : List Nat).contains j = false → h.2.1 x j = 0 ∧ h.2.2 x j = none := fun j _ => hz j
  refine lv_aload_n hx hb dX5_init_0 rfl (lv_at hl 0 rfl) ?_
  refine W.objInit hx hb hown (hts _ kw_257) (hts _ kw_117) (hts _ kw_118) rfl (by rw [hml]; exact hl.1) rfl dX5_init_1 (Nat.le_of_ble_eq_true rfl) (Nat.le_of_ble_eq_true rfl) ?_
  refine W.eq (g2 := F0 m 4 ls []) rfl ?_
  refine lv_aload_n hx hb dX5_init_4 rfl (lv_at hl 0 rfl) ?_
  refine lv_iconst (v := 4) hx hb dX5_init_5 (by decide) ?_
  refine hk_newa hx hb hts hW 27 tt_27 (atype := .int) rfl kw_186 (tys := P_ty dA) (t0 := 0) rfl (fun _ => Iff.rfl) rfl (i := (4 : Int32)) (by decide) (Nat.le_of_ble_eq_true rfl) (Nat.le_of_ble_eq_true rfl) (Nat.le_of_ble_eq_true rfl) dX5_init_6 (fun q_2 H h_1 eh_1 hqq_2 hW hs gq_2 => ?_)
  have nq_q_2 : ∀ a ∈ (hx_X L x), a ≠ q_2 := fun a ha z => hqq_2 (z ▸ (hM.1 a ha).1)
  have hT : hx_T T_tb (L ++ [q_2]) h_1 := by rw [eh_1]; exact hx_T_nw hT hqq_2 tt_27 rfl
  replace hz := hx_zr [] hz hs gx trivial rfl
  replace hM := hM.tr (hs.mono (by decide))
  replace gx := gx.S hs
  refine hx_putrF hx hb hts hC_5 hown hW hT (hx_S.rf (M := [(121, 2)])) gx tt_121 2 (by decide) rfl kw_262 ⟨rfl, rfl, rfl⟩ rfl hin rfl (x := (some q_2)) ⟨fun _ z => (by cases z), fun q hq => (by cases hq; exact ⟨gq_2.1, by rw [gq_2.2]; decide⟩)⟩ rfl rfl rfl (List.mem_singleton.mpr rfl) dX5_init_8 (fun H locs h_3 eh_3 hW hT hs => ?_)
  replace hz := hx_zr [2] hz hs gx trivial rfl
  replace hM := hM.tr (hs.mono (by decide))
  replace gx := gx.S hs
  replace gq_2 := gq_2.S hs
  have f_4 : h_3.2.2 x 2 = (some q_2) := by rw [eh_3]; exact hx_pr_at _ _ _ _
  refine lv_aload_n hx hb dX5_init_11 rfl (lv_at hl 0 rfl) ?_
  refine lv_iconst (v := 4) hx hb dX5_init_12 (by decide) ?_
  refine hk_newa hx hb hts hW 28 tt_28 (atype := .int) rfl kw_186 (tys := P_ty dA) (t0 := 0) rfl (fun _ => Iff.rfl) rfl (i := (4 : Int32)) (by decide) (Nat.le_of_ble_eq_true rfl) (Nat.le_of_ble_eq_true rfl) (Nat.le_of_ble_eq_true rfl) dX5_init_13 (fun q_6 H h_5 eh_5 hqq_6 hW hs gq_6 => ?_)
  have nq_q_6 : ∀ a ∈ (hx_X L x), a ≠ q_6 := fun a ha z => hqq_6 (z ▸ (hM.1 a ha).1)
  have hT : hx_T T_tb ((L ++ [q_2]) ++ [q_6]) h_5 := by rw [eh_5]; exact hx_T_nw hT hqq_6 tt_28 rfl
  replace f_4 := (hs.o gx trivial rfl).2.trans f_4
  replace hz := hx_zr [2] hz hs gx trivial rfl
  replace hM := hM.tr (hs.mono (by decide))
  replace gx := gx.S hs
  replace gq_2 := gq_2.S hs
  refine hx_putrF hx hb hts hC_5 hown hW hT (hx_S.rf (M := [(121, 3)])) gx tt_121 3 (by decide) rfl kw_264 ⟨rfl, rfl, rfl⟩ rfl hin rfl (x := (some q_6)) ⟨fun _ z => (by cases z), fun q hq => (by cases hq; exact ⟨gq_6.1, by rw [gq_6.2]; decide⟩)⟩ rfl rfl rfl (List.mem_singleton.mpr rfl) dX5_init_15 (fun H locs h_7 eh_7 hW hT hs => ?_)
  replace f_4 := (hs.o gx trivial rfl).2.trans f_4
  replace hz := hx_zr [2, 3] hz hs gx trivial rfl
  replace hM := hM.tr (hs.mono (by decide))
  replace gx := gx.S hs
  replace gq_2 := gq_2.S hs
  replace gq_6 := gq_6.S hs
  have f_8 : h_7.2.2 x 3 = (some q_6) := by rw [eh_7]; exact hx_pr_at _ _ _ _
  refine lv_aload_n hx hb dX5_init_18 rfl (lv_at hl 0 rfl) ?_
  refine lv_iconst (v := 4) hx hb dX5_init_19 (by decide) ?_
  refine hk_newa hx hb hts hW 29 tt_29 (atype := .int) rfl kw_186 (tys := P_ty dA) (t0 := 0) rfl (fun _ => Iff.rfl) rfl (i := (4 : Int32)) (by decide) (Nat.le_of_ble_eq_true rfl) (Nat.le_of_ble_eq_true rfl) (Nat.le_of_ble_eq_true rfl) dX5_init_20 (fun q_10 H h_9 eh_9 hqq_10 hW hs gq_10 => ?_)
  have nq_q_10 : ∀ a ∈ (hx_X L x), a ≠ q_10 := fun a ha z => hqq_10 (z ▸ (hM.1 a ha).1)
  have hT : hx_T T_tb (((L ++ [q_2]) ++ [q_6]) ++ [q_10]) h_9 := by rw [eh_9]; exact hx_T_nw hT hqq_10 tt_29 rfl
  replace f_4 := (hs.o gx trivial rfl).2.trans f_4
  replace f_8 := (hs.o gx trivial rfl).2.trans f_8
  replace hz := hx_zr [2, 3] hz hs gx trivial rfl
  replace hM := hM.tr (hs.mono (by decide))
  replace gx := gx.S hs
  replace gq_2 := gq_2.S hs
  replace gq_6 := gq_6.S hs
  refine hx_putrF hx hb hts hC_5 hown hW hT (hx_S.rf (M := [(121, 4)])) gx tt_121 4 (by decide) rfl kw_266 ⟨rfl, rfl, rfl⟩ rfl hin rfl (x := (some q_10)) ⟨fun _ z => (by cases z), fun q hq => (by cases hq; exact ⟨gq_10.1, by rw [gq_10.2]; decide⟩)⟩ rfl rfl rfl (List.mem_singleton.mpr rfl) dX5_init_22 (fun H locs h_11 eh_11 hW hT hs => ?_)
  replace f_4 := (hs.o gx trivial rfl).2.trans f_4
  replace f_8 := (hs.o gx trivial rfl).2.trans f_8
  replace hz := hx_zr [2, 3, 4] hz hs gx trivial rfl
  replace hM := hM.tr (hs.mono (by decide))
  replace gx := gx.S hs
  replace gq_2 := gq_2.S hs
  replace gq_6 := gq_6.S hs
  replace gq_10 := gq_10.S hs
  have f_12 : h_11.2.2 x 4 = (some q_10) := by rw [eh_11]; exact hx_pr_at _ _ _ _
  refine lv_aload_n hx hb dX5_init_25 rfl (lv_at hl 0 rfl) ?_
  refine lv_iconst (v := 4) hx hb dX5_init_26 (by decide) ?_
  refine hk_newa hx hb hts hW 30 tt_30 (atype := .int) rfl kw_186 (tys := P_ty dA) (t0 := 0) rfl (fun _ => Iff.rfl) rfl (i := (4 : Int32)) (by decide) (Nat.le_of_ble_eq_true rfl) (Nat.le_of_ble_eq_true rfl) (Nat.le_of_ble_eq_true rfl) dX5_init_27 (fun q_14 H h_13 eh_13 hqq_14 hW hs gq_14 => ?_)
  have nq_q_14 : ∀ a ∈ (hx_X L x), a ≠ q_14 := fun a ha z => hqq_14 (z ▸ (hM.1 a ha).1)
  have hT : hx_T T_tb ((((L ++ [q_2]) ++ [q_6]) ++ [q_10]) ++ [q_14]) h_13 := by rw [eh_13]; exact hx_T_nw hT hqq_14 tt_30 rfl
  replace f_4 := (hs.o gx trivial rfl).2.trans f_4
  replace f_8 := (hs.o gx trivial rfl).2.trans f_8
  replace f_12 := (hs.o gx trivial rfl).2.trans f_12
  replace hz := hx_zr [2, 3, 4] hz hs gx trivial rfl
  replace hM := hM.tr (hs.mono (by decide))
  replace gx := gx.S hs
  replace gq_2 := gq_2.S hs
  replace gq_6 := gq_6.S hs
  replace gq_10 := gq_10.S hs
  refine hx_putrF hx hb hts hC_5 hown hW hT (hx_S.rf (M := [(121, 5)])) gx tt_121 5 (by decide) rfl kw_268 ⟨rfl, rfl, rfl⟩ rfl hin rfl (x := (some q_14)) ⟨fun _ z => (by cases z), fun q hq => (by cases hq; exact ⟨gq_14.1, by rw [gq_14.2]; decide⟩)⟩ rfl rfl rfl (List.mem_singleton.mpr rfl) dX5_init_29 (fun H locs h_15 eh_15 hW hT hs => ?_)
  replace f_4 := (hs.o gx trivial rfl).2.trans f_4
  replace f_8 := (hs.o gx trivial rfl).2.trans f_8
  replace f_12 := (hs.o gx trivial rfl).2.trans f_12
  replace hz := hx_zr [2, 3, 4, 5] hz hs gx trivial rfl
  replace hM := hM.tr (hs.mono (by decide))
  replace gx := gx.S hs
  replace gq_2 := gq_2.S hs
  replace gq_6 := gq_6.S hs
  replace gq_10 := gq_10.S hs
  replace gq_14 := gq_14.S hs
  have f_16 : h_15.2.2 x 5 = (some q_14) := by rw [eh_15]; exact hx_pr_at _ _ _ _
  refine lv_aload_n hx hb dX5_init_32 rfl (lv_at hl 0 rfl) ?_
  refine lv_iconst (v := 4) hx hb dX5_init_33 (by decide) ?_
  refine hk_newa hx hb hts hW 31 tt_31 (atype := .int) rfl kw_186 (tys := P_ty dA) (t0 := 0) rfl (fun _ => Iff.rfl) rfl (i := (4 : Int32)) (by decide) (Nat.le_of_ble_eq_true rfl) (Nat.le_of_ble_eq_true rfl) (Nat.le_of_ble_eq_true rfl) dX5_init_34 (fun q_18 H h_17 eh_17 hqq_18 hW hs gq_18 => ?_)
  have nq_q_18 : ∀ a ∈ (hx_X L x), a ≠ q_18 := fun a ha z => hqq_18 (z ▸ (hM.1 a ha).1)
  have hT : hx_T T_tb (((((L ++ [q_2]) ++ [q_6]) ++ [q_10]) ++ [q_14]) ++ [q_18]) h_17 := by rw [eh_17]; exact hx_T_nw hT hqq_18 tt_31 rfl
  replace f_4 := (hs.o gx trivial rfl).2.trans f_4
  replace f_8 := (hs.o gx trivial rfl).2.trans f_8
  replace f_12 := (hs.o gx trivial rfl).2.trans f_12
  replace f_16 := (hs.o gx trivial rfl).2.trans f_16
  replace hz := hx_zr [2, 3, 4, 5] hz hs gx trivial rfl
  replace hM := hM.tr (hs.mono (by decide))
  replace gx := gx.S hs
  replace gq_2 := gq_2.S hs
  replace gq_6 := gq_6.S hs
  replace gq_10 := gq_10.S hs
  replace gq_14 := gq_14.S hs
  refine hx_putrF hx hb hts hC_5 hown hW hT (hx_S.rf (M := [(121, 6)])) gx tt_121 6 (by decide) rfl kw_269 ⟨rfl, rfl, rfl⟩ rfl hin rfl (x := (some q_18)) ⟨fun _ z => (by cases z), fun q hq => (by cases hq; exact ⟨gq_18.1, by rw [gq_18.2]; decide⟩)⟩ rfl rfl rfl (List.mem_singleton.mpr rfl) dX5_init_36 (fun H locs h_19 eh_19 hW hT hs => ?_)
  replace f_4 := (hs.o gx trivial rfl).2.trans f_4
  replace f_8 := (hs.o gx trivial rfl).2.trans f_8
  replace f_12 := (hs.o gx trivial rfl).2.trans f_12
  replace f_16 := (hs.o gx trivial rfl).2.trans f_16
  replace hz := hx_zr [2, 3, 4, 5, 6] hz hs gx trivial rfl
  replace hM := hM.tr (hs.mono (by decide))
  replace gx := gx.S hs
  replace gq_2 := gq_2.S hs
  replace gq_6 := gq_6.S hs
  replace gq_10 := gq_10.S hs
  replace gq_14 := gq_14.S hs
  replace gq_18 := gq_18.S hs
  have f_20 : h_19.2.2 x 6 = (some q_18) := by rw [eh_19]; exact hx_pr_at _ _ _ _
  refine lv_aload_n hx hb dX5_init_39 rfl (lv_at hl 0 rfl) ?_
  refine lv_iconst (v := 4) hx hb dX5_init_40 (by decide) ?_
  refine hk_newa hx hb hts hW 32 tt_32 (atype := .int) rfl kw_186 (tys := P_ty dA) (t0 := 0) rfl (fun _ => Iff.rfl) rfl (i := (4 : Int32)) (by decide) (Nat.le_of_ble_eq_true rfl) (Nat.le_of_ble_eq_true rfl) (Nat.le_of_ble_eq_true rfl) dX5_init_41 (fun q_22 H h_21 eh_21 hqq_22 hW hs gq_22 => ?_)
  have nq_q_22 : ∀ a ∈ (hx_X L x), a ≠ q_22 := fun a ha z => hqq_22 (z ▸ (hM.1 a ha).1)
  have hT : hx_T T_tb ((((((L ++ [q_2]) ++ [q_6]) ++ [q_10]) ++ [q_14]) ++ [q_18]) ++ [q_22]) h_21 := by rw [eh_21]; exact hx_T_nw hT hqq_22 tt_32 rfl
  replace f_4 := (hs.o gx trivial rfl).2.trans f_4
  replace f_8 := (hs.o gx trivial rfl).2.trans f_8
  replace f_12 := (hs.o gx trivial rfl).2.trans f_12
  replace f_16 := (hs.o gx trivial rfl).2.trans f_16
  replace f_20 := (hs.o gx trivial rfl).2.trans f_20
  replace hz := hx_zr [2, 3, 4, 5, 6] hz hs gx trivial rfl
  replace hM := hM.tr (hs.mono (by decide))
  replace gx := gx.S hs
  replace gq_2 := gq_2.S hs
  replace gq_6 := gq_6.S hs
  replace gq_10 := gq_10.S hs
  replace gq_14 := gq_14.S hs
  replace gq_18 := gq_18.S hs
  refine hx_putrF hx hb hts hC_5 hown hW hT (hx_S.rf (M := [(121, 7)])) gx tt_121 7 (by decide) rfl kw_270 ⟨rfl, rfl, rfl⟩ rfl hin rfl (x := (some q_22)) ⟨fun _ z => (by cases z), fun q hq => (by cases hq; exact ⟨gq_22.1, by rw [gq_22.2]; decide⟩)⟩ rfl rfl rfl (List.mem_singleton.mpr rfl) dX5_init_43 (fun H locs h_23 eh_23 hW hT hs => ?_)
  replace f_4 := (hs.o gx trivial rfl).2.trans f_4
  replace f_8 := (hs.o gx trivial rfl).2.trans f_8
  replace f_12 := (hs.o gx trivial rfl).2.trans f_12
  replace f_16 := (hs.o gx trivial rfl).2.trans f_16
  replace f_20 := (hs.o gx trivial rfl).2.trans f_20
  replace hz := hx_zr [2, 3, 4, 5, 6, 7] hz hs gx trivial rfl
  replace hM := hM.tr (hs.mono (by decide))
  replace gx := gx.S hs
  replace gq_2 := gq_2.S hs
  replace gq_6 := gq_6.S hs
  replace gq_10 := gq_10.S hs
  replace gq_14 := gq_14.S hs
  replace gq_18 := gq_18.S hs
  replace gq_22 := gq_22.S hs
  have f_24 : h_23.2.2 x 7 = (some q_22) := by rw [eh_23]; exact hx_pr_at _ _ _ _
  refine lv_aload_n hx hb dX5_init_46 rfl (lv_at hl 0 rfl) ?_
  refine lv_iconst (v := 4) hx hb dX5_init_47 (by decide) ?_
  refine hk_newa hx hb hts hW 33 tt_33 (atype := .int) rfl kw_186 (tys := P_ty dA) (t0 := 0) rfl (fun _ => Iff.rfl) rfl (i := (4 : Int32)) (by decide) (Nat.le_of_ble_eq_true rfl) (Nat.le_of_ble_eq_true rfl) (Nat.le_of_ble_eq_true rfl) dX5_init_48 (fun q_26 H h_25 eh_25 hqq_26 hW hs gq_26 => ?_)
  have nq_q_26 : ∀ a ∈ (hx_X L x), a ≠ q_26 := fun a ha z => hqq_26 (z ▸ (hM.1 a ha).1)
  have hT : hx_T T_tb (((((((L ++ [q_2]) ++ [q_6]) ++ [q_10]) ++ [q_14]) ++ [q_18]) ++ [q_22]) ++ [q_26]) h_25 := by rw [eh_25]; exact hx_T_nw hT hqq_26 tt_33 rfl
  replace f_4 := (hs.o gx trivial rfl).2.trans f_4
  replace f_8 := (hs.o gx trivial rfl).2.trans f_8
  replace f_12 := (hs.o gx trivial rfl).2.trans f_12
  replace f_16 := (hs.o gx trivial rfl).2.trans f_16
  replace f_20 := (hs.o gx trivial rfl).2.trans f_20
  replace f_24 := (hs.o gx trivial rfl).2.trans f_24
  replace hz := hx_zr [2, 3, 4, 5, 6, 7] hz hs gx trivial rfl
  replace hM := hM.tr (hs.mono (by decide))
  replace gx := gx.S hs
  replace gq_2 := gq_2.S hs
  replace gq_6 := gq_6.S hs
  replace gq_10 := gq_10.S hs
  replace gq_14 := gq_14.S hs
  replace gq_18 := gq_18.S hs
  replace gq_22 := gq_22.S hs
  refine hx_putrF hx hb hts hC_5 hown hW hT (hx_S.rf (M := [(121, 8)])) gx tt_121 8 (by decide) rfl kw_271 ⟨rfl, rfl, rfl⟩ rfl hin rfl (x := (some q_26)) ⟨fun _ z => (by cases z), fun q hq => (by cases hq; exact ⟨gq_26.1, by rw [gq_26.2]; decide⟩)⟩ rfl rfl rfl (List.mem_singleton.mpr rfl) dX5_init_50 (fun H locs h_27 eh_27 hW hT hs => ?_)
  replace f_4 := (hs.o gx trivial rfl).2.trans f_4
  replace f_8 := (hs.o gx trivial rfl).2.trans f_8
  replace f_12 := (hs.o gx trivial rfl).2.trans f_12
  replace f_16 := (hs.o gx trivial rfl).2.trans f_16
  replace f_20 := (hs.o gx trivial rfl).2.trans f_20
  replace f_24 := (hs.o gx trivial rfl).2.trans f_24
  replace hz := hx_zr [2, 3, 4, 5, 6, 7, 8] hz hs gx trivial rfl
  replace hM := hM.tr (hs.mono (by decide))
  replace gx := gx.S hs
  replace gq_2 := gq_2.S hs
  replace gq_6 := gq_6.S hs
  replace gq_10 := gq_10.S hs
  replace gq_14 := gq_14.S hs
  replace gq_18 := gq_18.S hs
  replace gq_22 := gq_22.S hs
  replace gq_26 := gq_26.S hs
  have f_28 : h_27.2.2 x 8 = (some q_26) := by rw [eh_27]; exact hx_pr_at _ _ _ _
  have hF : hx_F (fun k f => hx_o (((((((L ++ [q_2]) ++ [q_6]) ++ [q_10]) ++ [q_14]) ++ [q_18]) ++ [q_22]) ++ [q_26]) h_27 f (h_27.2.1 x k) (h_27.2.2 x k)) T_f5 0 := ⟨hx_oi (hz 0 rfl).1 (by decide), hx_oi (hz 1 rfl).1 (by decide), hx_or f_4 gq_2 (by decide), hx_or f_8 gq_6 (by decide), hx_or f_12 gq_10 (by decide), hx_or f_16 gq_14 (by decide), hx_or f_20 gq_18 (by decide), hx_or f_24 gq_22 (by decide), hx_or f_28 gq_26 (by decide), hx_oi (hz 9 rfl).1 (by decide), hx_oi (hz 10 rfl).1 (by decide), hx_oi (hz 11 rfl).1 (by decide), hx_oi (hz 12 rfl).1 (by decide), trivial⟩
  have hT := hx_T_rt hT gx tt_5 rfl (hx_F_all hF)
  have hW := hx_W_rt hW gx tt_121 tt_5 (fun _ _ => rfl)
  have hM := hx_SX_rt (x := x) (t := 5) hM
  have gq_2 := hx_rt_o (t := 5) gq_2 (gq_2.ne gx (by decide))
  have gq_6 := hx_rt_o (t := 5) gq_6 (gq_6.ne gx (by decide))
  have gq_10 := hx_rt_o (t := 5) gq_10 (gq_10.ne gx (by decide))
  have gq_14 := hx_rt_o (t := 5) gq_14 (gq_14.ne gx (by decide))
  have gq_18 := hx_rt_o (t := 5) gq_18 (gq_18.ne gx (by decide))
  have gq_22 := hx_rt_o (t := 5) gq_22 (gq_22.ne gx (by decide))
  have gq_26 := hx_rt_o (t := 5) gq_26 (gq_26.ne gx (by decide))
  have gx := hx_rt_g (t := 5) gx
  have f_4 : (hx_rt h_27 x 5).2.2 x 2 = some q_2 := f_4
  have f_8 : (hx_rt h_27 x 5).2.2 x 3 = some q_6 := f_8
  have f_12 : (hx_rt h_27 x 5).2.2 x 4 = some q_10 := f_12
  have f_16 : (hx_rt h_27 x 5).2.2 x 5 = some q_14 := f_16
  have f_20 : (hx_rt h_27 x 5).2.2 x 6 = some q_18 := f_20
  have f_24 : (hx_rt h_27 x 5).2.2 x 7 = some q_22 := f_24
  have f_28 : (hx_rt h_27 x 5).2.2 x 8 = some q_26 := f_28
  generalize eh : hx_rt h_27 x 5 = h_29 at hT hW hM gx gq_2 gq_6 gq_10 gq_14 gq_18 gq_22 gq_26 f_4 f_8 f_12 f_16 f_20 f_24 f_28
  refine W.widen (k := 7) (n := 28) (Nat.le_of_ble_eq_true rfl) (Nat.le_of_ble_eq_true rfl) ?_
  exact hx_retv hx hb hr hlk hW ⟨hT, hM, gx⟩ dX5_init_53

theorem dX6_init_0 : decode cX6_init 0 = .ok (.aload_n 0, 1) := by decide +kernel
theorem dX6_init_1 : decode cX6_init 1 = .ok (.invokespecial 3, 3) := by decide +kernel
theorem dX6_init_4 : decode cX6_init 4 = .ok (.aload_n 0, 1) := by decide +kernel
theorem dX6_init_5 : decode cX6_init 5 = .ok (.iconst 0, 1) := by decide +kernel
theorem dX6_init_6 : decode cX6_init 6 = .ok (.newarray .byte, 2) := by decide +kernel
theorem dX6_init_8 : decode cX6_init 8 = .ok (.putfield 9, 3) := by decide +kernel
theorem dX6_init_11 : decode cX6_init 11 = .ok (.return_, 1) := by decide +kernel
set_option maxHeartbeats 4000000 in
set_option maxRecDepth 100000 in
theorem t_X6_init (l : Launch) (dC : Nat → ClassId) (dI : Nat → Nat → Nat) (dA : Nat → ClassId) (L : List Nat) (h : hx_h) (sz : Nat) (x : Nat) (hT : hx_T T_tb L h) (gx : hx_g L h x 122) (hz : ∀ j, h.2.1 x j = 0 ∧ h.2.2 x j = none) : Met l yX6_init (Cond.code yX6_init cX6_init 1 none :: hx_all) ({ frames := 1, cells := 1, slots := 0, locals := 12 }) (va_Pc [.ref x] (hx_B T_tb (P_ty dA) (dC, dI) vwCl L h sz)) (va_Qv (fun (u : List Nat × hx_h) => hx_T T_tb u.1 u.2 ∧ hx_S T_tb [(122, 0)] (hx_X L x) h u.1 u.2 ∧ hx_g u.1 u.2 x 6) (hx_E T_tb (P_ty dA) (dC, dI) vwCl (hx_A L sz)) (hx_A L sz)) 1 0 (hx_A L sz) := by
  refine hx_met (lv := [(0, .ref x)]) (by decide +kernel) rfl (Nat.le_of_ble_eq_true rfl) rfl ?_
  intro p e s m below meth c hx hb hml hr hlk hts0 hown hin hsz hW ls hl
  have hts : ∀ w ∈ hx_all, w.before _ s = true := fun w hw => hts0 w (List.mem_cons_of_mem _ hw)
  have hown : s.vm.findClass "SmallCourt$Reader" = some m.cls := hown
  have hin : meth.name = "<init>" := hin
  have hM : hx_S T_tb [(122, 0)] (hx_X L x) h L h := hx_SX_rf
  have hz : ∀ j, ([] : List Nat).contains j = false → h.2.1 x j = 0 ∧ h.2.2 x j = none := fun j _ => hz j
  refine lv_aload_n hx hb dX6_init_0 rfl (lv_at hl 0 rfl) ?_
  refine W.objInit hx hb hown (hts _ kw_124) (hts _ kw_117) (hts _ kw_118) rfl (by rw [hml]; exact hl.1) rfl dX6_init_1 (Nat.le_of_ble_eq_true rfl) (Nat.le_of_ble_eq_true rfl) ?_
  refine W.eq (g2 := F0 m 4 ls []) rfl ?_
  refine lv_aload_n hx hb dX6_init_4 rfl (lv_at hl 0 rfl) ?_
  refine lv_iconst (v := 0) hx hb dX6_init_5 (by decide) ?_
  refine hk_newa hx hb hts hW 34 tt_34 (atype := .byte) rfl kw_147 (tys := P_ty dA) (t0 := 1) rfl (fun _ => Iff.rfl) rfl (i := (0 : Int32)) (by decide) (Nat.le_of_ble_eq_true rfl) (Nat.le_of_ble_eq_true rfl) (Nat.le_of_ble_eq_true rfl) dX6_init_6 (fun q_2 H h_1 eh_1 hqq_2 hW hs gq_2 => ?_)
  have nq_q_2 : ∀ a ∈ (hx_X L x), a ≠ q_2 := fun a ha z => hqq_2 (z ▸ (hM.1 a ha).1)
  have hT : hx_T T_tb (L ++ [q_2]) h_1 := by rw [eh_1]; exact hx_T_nw hT hqq_2 tt_34 rfl
  replace hz := hx_zr [] hz hs gx trivial rfl
  replace hM := hM.tr (hs.mono (by decide))
  replace gx := gx.S hs
  refine hx_putr hx hb hts hC_6 hown hW hT (hx_S.rf (M := [(122, 0)])) gx tt_122 0 (by decide) rfl kw_125 ⟨rfl, rfl, rfl⟩ rfl (x := (some q_2)) ⟨fun _ z => (by cases z), fun q hq => (by cases hq; exact ⟨gq_2.1, by rw [gq_2.2]; decide⟩)⟩ rfl rfl rfl (List.mem_singleton.mpr rfl) dX6_init_8 (fun H locs h_3 eh_3 hW hT hs => ?_)
  replace hz := hx_zr [0] hz hs gx trivial rfl
  replace hM := hM.tr (hs.mono (by decide))
  replace gx := gx.S hs
  replace gq_2 := gq_2.S hs
  have f_4 : h_3.2.2 x 0 = (some q_2) := by rw [eh_3]; exact hx_pr_at _ _ _ _
  have hF : hx_F (fun k f => hx_o (L ++ [q_2]) h_3 f (h_3.2.1 x k) (h_3.2.2 x k)) T_f6 0 := ⟨hx_or f_4 gq_2 (by decide), hx_oi (hz 1 rfl).1 (by decide), hx_oi (hz 2 rfl).1 (by decide), hx_oi (hz 3 rfl).1 (by decide), hx_oi (hz 4 rfl).1 (by decide), hx_oi (hz 5 rfl).1 (by decide), hx_on (hz 6 rfl).2, trivial⟩
  have hT := hx_T_rt hT gx tt_6 rfl (hx_F_all hF)
  have hW := hx_W_rt hW gx tt_122 tt_6 (fun _ _ => rfl)
  have hM := hx_SX_rt (x := x) (t := 6) hM
  have gq_2 := hx_rt_o (t := 6) gq_2 (gq_2.ne gx (by decide))
  have gx := hx_rt_g (t := 6) gx
  have f_4 : (hx_rt h_3 x 6).2.2 x 0 = some q_2 := f_4
  generalize eh : hx_rt h_3 x 6 = h_5 at hT hW hM gx gq_2 f_4
  refine W.widen (k := 1) (n := 0) (Nat.le_of_ble_eq_true rfl) (Nat.le_of_ble_eq_true rfl) ?_
  exact hx_retv hx hb hr hlk hW ⟨hT, hM, gx⟩ dX6_init_11

def wLX7_init_0 : List Nat := [42, 183, 0, 3, 42, 2, 181, 0, 9, 42, 16, 100, 188, 10, 181, 0, 15, 42, 17, 6, 64, 188, 10, 181, 0, 19, 42, 7, 188, 10, 181, 0, 22, 42, 7, 188, 10, 181, 0, 25, 177]
theorem wX7_init_0 : (cX7_init.data.toList.map UInt8.toNat).drop 0 = wLX7_init_0 ++ ([]) := by decide +kernel
theorem dX7_init_0 : decode cX7_init 0 = .ok (.aload_n 0, 1) := dq_42 (hz_wg wX7_init_0 (j := 0) (n := 42) rfl)
theorem dX7_init_1 : decode cX7_init 1 = .ok (.invokespecial 3, 3) := dq_183 (hz_wg wX7_init_0 (j := 1) (n := 183) rfl) (hz_wg wX7_init_0 (j := 2) (n := 0) rfl) (hz_wg wX7_init_0 (j := 3) (n := 3) rfl) rfl
theorem dX7_init_4 : decode cX7_init 4 = .ok (.aload_n 0, 1) := dq_42 (hz_wg wX7_init_0 (j := 4) (n := 42) rfl)
theorem dX7_init_5 : decode cX7_init 5 = .ok (.iconst (-1), 1) := dq_2 (hz_wg wX7_init_0 (j := 5) (n := 2) rfl)
theorem dX7_init_6 : decode cX7_init 6 = .ok (.putfield 9, 3) := dq_181 (hz_wg wX7_init_0 (j := 6) (n := 181) rfl) (hz_wg wX7_init_0 (j := 7) (n := 0) rfl) (hz_wg wX7_init_0 (j := 8) (n := 9) rfl) rfl
theorem dX7_init_9 : decode cX7_init 9 = .ok (.aload_n 0, 1) := dq_42 (hz_wg wX7_init_0 (j := 9) (n := 42) rfl)
theorem dX7_init_10 : decode cX7_init 10 = .ok (.bipush 100, 2) := dq_16 (hz_wg wX7_init_0 (j := 10) (n := 16) rfl) (hz_wg wX7_init_0 (j := 11) (n := 100) rfl) (by decide)
theorem dX7_init_12 : decode cX7_init 12 = .ok (.newarray .int, 2) := dk_b rfl (hz_wg wX7_init_0 (j := 12) (n := 188) rfl) (hz_wg wX7_init_0 (j := 13) (n := 10) rfl) rfl rfl
theorem dX7_init_14 : decode cX7_init 14 = .ok (.putfield 15, 3) := dq_181 (hz_wg wX7_init_0 (j := 14) (n := 181) rfl) (hz_wg wX7_init_0 (j := 15) (n := 0) rfl) (hz_wg wX7_init_0 (j := 16) (n := 15) rfl) rfl
theorem dX7_init_17 : decode cX7_init 17 = .ok (.aload_n 0, 1) := dq_42 (hz_wg wX7_init_0 (j := 17) (n := 42) rfl)
theorem dX7_init_18 : decode cX7_init 18 = .ok (.sipush 1600, 3) := dq_17 (hz_wg wX7_init_0 (j := 18) (n := 17) rfl) (hz_wg wX7_init_0 (j := 19) (n := 6) rfl) (hz_wg wX7_init_0 (j := 20) (n := 64) rfl) (by decide)
theorem dX7_init_21 : decode cX7_init 21 = .ok (.newarray .int, 2) := dk_b rfl (hz_wg wX7_init_0 (j := 21) (n := 188) rfl) (hz_wg wX7_init_0 (j := 22) (n := 10) rfl) rfl rfl
theorem dX7_init_23 : decode cX7_init 23 = .ok (.putfield 19, 3) := dq_181 (hz_wg wX7_init_0 (j := 23) (n := 181) rfl) (hz_wg wX7_init_0 (j := 24) (n := 0) rfl) (hz_wg wX7_init_0 (j := 25) (n := 19) rfl) rfl
theorem dX7_init_26 : decode cX7_init 26 = .ok (.aload_n 0, 1) := dq_42 (hz_wg wX7_init_0 (j := 26) (n := 42) rfl)
theorem dX7_init_27 : decode cX7_init 27 = .ok (.iconst 4, 1) := dq_7 (hz_wg wX7_init_0 (j := 27) (n := 7) rfl)
theorem dX7_init_28 : decode cX7_init 28 = .ok (.newarray .int, 2) := dk_b rfl (hz_wg wX7_init_0 (j := 28) (n := 188) rfl) (hz_wg wX7_init_0 (j := 29) (n := 10) rfl) rfl rfl
theorem dX7_init_30 : decode cX7_init 30 = .ok (.putfield 22, 3) := dq_181 (hz_wg wX7_init_0 (j := 30) (n := 181) rfl) (hz_wg wX7_init_0 (j := 31) (n := 0) rfl) (hz_wg wX7_init_0 (j := 32) (n := 22) rfl) rfl
theorem dX7_init_33 : decode cX7_init 33 = .ok (.aload_n 0, 1) := dq_42 (hz_wg wX7_init_0 (j := 33) (n := 42) rfl)
theorem dX7_init_34 : decode cX7_init 34 = .ok (.iconst 4, 1) := dq_7 (hz_wg wX7_init_0 (j := 34) (n := 7) rfl)
theorem dX7_init_35 : decode cX7_init 35 = .ok (.newarray .int, 2) := dk_b rfl (hz_wg wX7_init_0 (j := 35) (n := 188) rfl) (hz_wg wX7_init_0 (j := 36) (n := 10) rfl) rfl rfl
theorem dX7_init_37 : decode cX7_init 37 = .ok (.putfield 25, 3) := dq_181 (hz_wg wX7_init_0 (j := 37) (n := 181) rfl) (hz_wg wX7_init_0 (j := 38) (n := 0) rfl) (hz_wg wX7_init_0 (j := 39) (n := 25) rfl) rfl
theorem dX7_init_40 : decode cX7_init 40 = .ok (.return_, 1) := dq_177 (hz_wg wX7_init_0 (j := 40) (n := 177) rfl)
set_option maxHeartbeats 4000000 in
set_option maxRecDepth 100000 in
theorem t_X7_init (l : Launch) (dC : Nat → ClassId) (dI : Nat → Nat → Nat) (dA : Nat → ClassId) (L : List Nat) (h : hx_h) (sz : Nat) (x : Nat) (hT : hx_T T_tb L h) (gx : hx_g L h x 123) (hz : ∀ j, h.2.1 x j = 0 ∧ h.2.2 x j = none) : Met l yX7_init (Cond.code yX7_init cX7_init 1 none :: hx_all) ({ frames := 1, cells := 4, slots := 1708, locals := 12 }) (va_Pc [.ref x] (hx_B T_tb (P_ty dA) (dC, dI) vwCl L h sz)) (va_Qv (fun (u : List Nat × hx_h) => hx_T T_tb u.1 u.2 ∧ hx_S T_tb [(123, 0), (123, 3), (123, 5), (123, 6), (123, 7)] (hx_X L x) h u.1 u.2 ∧ hx_g u.1 u.2 x 7) (hx_E T_tb (P_ty dA) (dC, dI) vwCl (hx_A L sz)) (hx_A L sz)) 4 1708 (hx_A L sz) := by
  refine hx_met (lv := [(0, .ref x)]) (by decide +kernel) rfl (Nat.le_of_ble_eq_true rfl) rfl ?_
  intro p e s m below meth c hx hb hml hr hlk hts0 hown hin hsz hW ls hl
  have hts : ∀ w ∈ hx_all, w.before _ s = true := fun w hw => hts0 w (List.mem_cons_of_mem _ hw)
  have hown : s.vm.findClass "SmallCourt$Rings" = some m.cls := hown
  have hin : meth.name = "<init>" := hin
  have hM : hx_S T_tb [(123, 0), (123, 3), (123, 5), (123, 6), (123, 7)] (hx_X L x) h L h := hx_SX_rf
  have hz : ∀ j, ([] : List Nat).contains j = false → h.2.1 x j = 0 ∧ h.2.2 x j = none := fun j _ => hz j
  refine lv_aload_n hx hb dX7_init_0 rfl (lv_at hl 0 rfl) ?_
  refine W.objInit hx hb hown (hts _ kw_308) (hts _ kw_117) (hts _ kw_118) rfl (by rw [hml]; exact hl.1) rfl dX7_init_1 (Nat.le_of_ble_eq_true rfl) (Nat.le_of_ble_eq_true rfl) ?_
  refine W.eq (g2 := F0 m 4 ls []) rfl ?_
  refine lv_aload_n hx hb dX7_init_4 rfl (lv_at hl 0 rfl) ?_
  refine lv_iconst (v := -1) hx hb dX7_init_5 (by decide) ?_
  refine hx_puti hx hb hts hC_7 hown hW hT (hx_S.rf (M := [(123, 0)])) gx tt_123 0 (by decide) rfl kw_309 ⟨rfl, rfl, rfl⟩ rfl (x := (-1 : Int32)) (by decide) rfl rfl rfl (List.mem_singleton.mpr rfl) dX7_init_6 (fun H locs h_1 eh_1 hW hT hs => ?_)
  replace hz := hx_zr [0] hz hs gx trivial rfl
  replace hM := hM.tr (hs.mono (by decide))
  replace gx := gx.S hs
  have f_2 : h_1.2.1 x 0 = (-1 : Int32) := by rw [eh_1]; exact hx_pi_at _ _ _ _
  refine lv_aload_n hx hb dX7_init_9 rfl (lv_at hl 0 rfl) ?_
  refine lv_bipush (v := 100) hx hb dX7_init_10 (by decide) ?_
  refine hk_newa hx hb hts hW 35 tt_35 (atype := .int) rfl kw_186 (tys := P_ty dA) (t0 := 0) rfl (fun _ => Iff.rfl) rfl (i := (100 : Int32)) (by decide) (Nat.le_of_ble_eq_true rfl) (Nat.le_of_ble_eq_true rfl) (Nat.le_of_ble_eq_true rfl) dX7_init_12 (fun q_4 H h_3 eh_3 hqq_4 hW hs gq_4 => ?_)
  have nq_q_4 : ∀ a ∈ (hx_X L x), a ≠ q_4 := fun a ha z => hqq_4 (z ▸ (hM.1 a ha).1)
  have hT : hx_T T_tb (L ++ [q_4]) h_3 := by rw [eh_3]; exact hx_T_nw hT hqq_4 tt_35 rfl
  replace f_2 := (hs.o gx trivial rfl).1.trans f_2
  replace hz := hx_zr [0] hz hs gx trivial rfl
  replace hM := hM.tr (hs.mono (by decide))
  replace gx := gx.S hs
  refine hx_putrF hx hb hts hC_7 hown hW hT (hx_S.rf (M := [(123, 3)])) gx tt_123 3 (by decide) rfl kw_315 ⟨rfl, rfl, rfl⟩ rfl hin rfl (x := (some q_4)) ⟨fun _ z => (by cases z), fun q hq => (by cases hq; exact ⟨gq_4.1, by rw [gq_4.2]; decide⟩)⟩ rfl rfl rfl (List.mem_singleton.mpr rfl) dX7_init_14 (fun H locs h_5 eh_5 hW hT hs => ?_)
  replace f_2 := (hs.o gx trivial rfl).1.trans f_2
  replace hz := hx_zr [0, 3] hz hs gx trivial rfl
  replace hM := hM.tr (hs.mono (by decide))
  replace gx := gx.S hs
  replace gq_4 := gq_4.S hs
  have f_6 : h_5.2.2 x 3 = (some q_4) := by rw [eh_5]; exact hx_pr_at _ _ _ _
  refine lv_aload_n hx hb dX7_init_17 rfl (lv_at hl 0 rfl) ?_
  refine lv_sipush (v := 1600) hx hb dX7_init_18 (by decide) ?_
  refine hk_newa hx hb hts hW 36 tt_36 (atype := .int) rfl kw_186 (tys := P_ty dA) (t0 := 0) rfl (fun _ => Iff.rfl) rfl (i := (1600 : Int32)) (by decide) (Nat.le_of_ble_eq_true rfl) (Nat.le_of_ble_eq_true rfl) (Nat.le_of_ble_eq_true rfl) dX7_init_21 (fun q_8 H h_7 eh_7 hqq_8 hW hs gq_8 => ?_)
  have nq_q_8 : ∀ a ∈ (hx_X L x), a ≠ q_8 := fun a ha z => hqq_8 (z ▸ (hM.1 a ha).1)
  have hT : hx_T T_tb ((L ++ [q_4]) ++ [q_8]) h_7 := by rw [eh_7]; exact hx_T_nw hT hqq_8 tt_36 rfl
  replace f_2 := (hs.o gx trivial rfl).1.trans f_2
  replace f_6 := (hs.o gx trivial rfl).2.trans f_6
  replace hz := hx_zr [0, 3] hz hs gx trivial rfl
  replace hM := hM.tr (hs.mono (by decide))
  replace gx := gx.S hs
  replace gq_4 := gq_4.S hs
  refine hx_putrF hx hb hts hC_7 hown hW hT (hx_S.rf (M := [(123, 5)])) gx tt_123 5 (by decide) rfl kw_318 ⟨rfl, rfl, rfl⟩ rfl hin rfl (x := (some q_8)) ⟨fun _ z => (by cases z), fun q hq => (by cases hq; exact ⟨gq_8.1, by rw [gq_8.2]; decide⟩)⟩ rfl rfl rfl (List.mem_singleton.mpr rfl) dX7_init_23 (fun H locs h_9 eh_9 hW hT hs => ?_)
  replace f_2 := (hs.o gx trivial rfl).1.trans f_2
  replace f_6 := (hs.o gx trivial rfl).2.trans f_6
  replace hz := hx_zr [0, 3, 5] hz hs gx trivial rfl
  replace hM := hM.tr (hs.mono (by decide))
  replace gx := gx.S hs
  replace gq_4 := gq_4.S hs
  replace gq_8 := gq_8.S hs
  have f_10 : h_9.2.2 x 5 = (some q_8) := by rw [eh_9]; exact hx_pr_at _ _ _ _
  refine lv_aload_n hx hb dX7_init_26 rfl (lv_at hl 0 rfl) ?_
  refine lv_iconst (v := 4) hx hb dX7_init_27 (by decide) ?_
  refine hk_newa hx hb hts hW 37 tt_37 (atype := .int) rfl kw_186 (tys := P_ty dA) (t0 := 0) rfl (fun _ => Iff.rfl) rfl (i := (4 : Int32)) (by decide) (Nat.le_of_ble_eq_true rfl) (Nat.le_of_ble_eq_true rfl) (Nat.le_of_ble_eq_true rfl) dX7_init_28 (fun q_12 H h_11 eh_11 hqq_12 hW hs gq_12 => ?_)
  have nq_q_12 : ∀ a ∈ (hx_X L x), a ≠ q_12 := fun a ha z => hqq_12 (z ▸ (hM.1 a ha).1)
  have hT : hx_T T_tb (((L ++ [q_4]) ++ [q_8]) ++ [q_12]) h_11 := by rw [eh_11]; exact hx_T_nw hT hqq_12 tt_37 rfl
  replace f_2 := (hs.o gx trivial rfl).1.trans f_2
  replace f_6 := (hs.o gx trivial rfl).2.trans f_6
  replace f_10 := (hs.o gx trivial rfl).2.trans f_10
  replace hz := hx_zr [0, 3, 5] hz hs gx trivial rfl
  replace hM := hM.tr (hs.mono (by decide))
  replace gx := gx.S hs
  replace gq_4 := gq_4.S hs
  replace gq_8 := gq_8.S hs
  refine hx_putrF hx hb hts hC_7 hown hW hT (hx_S.rf (M := [(123, 6)])) gx tt_123 6 (by decide) rfl kw_319 ⟨rfl, rfl, rfl⟩ rfl hin rfl (x := (some q_12)) ⟨fun _ z => (by cases z), fun q hq => (by cases hq; exact ⟨gq_12.1, by rw [gq_12.2]; decide⟩)⟩ rfl rfl rfl (List.mem_singleton.mpr rfl) dX7_init_30 (fun H locs h_13 eh_13 hW hT hs => ?_)
  replace f_2 := (hs.o gx trivial rfl).1.trans f_2
  replace f_6 := (hs.o gx trivial rfl).2.trans f_6
  replace f_10 := (hs.o gx trivial rfl).2.trans f_10
  replace hz := hx_zr [0, 3, 5, 6] hz hs gx trivial rfl
  replace hM := hM.tr (hs.mono (by decide))
  replace gx := gx.S hs
  replace gq_4 := gq_4.S hs
  replace gq_8 := gq_8.S hs
  replace gq_12 := gq_12.S hs
  have f_14 : h_13.2.2 x 6 = (some q_12) := by rw [eh_13]; exact hx_pr_at _ _ _ _
  refine lv_aload_n hx hb dX7_init_33 rfl (lv_at hl 0 rfl) ?_
  refine lv_iconst (v := 4) hx hb dX7_init_34 (by decide) ?_
  refine hk_newa hx hb hts hW 38 tt_38 (atype := .int) rfl kw_186 (tys := P_ty dA) (t0 := 0) rfl (fun _ => Iff.rfl) rfl (i := (4 : Int32)) (by decide) (Nat.le_of_ble_eq_true rfl) (Nat.le_of_ble_eq_true rfl) (Nat.le_of_ble_eq_true rfl) dX7_init_35 (fun q_16 H h_15 eh_15 hqq_16 hW hs gq_16 => ?_)
  have nq_q_16 : ∀ a ∈ (hx_X L x), a ≠ q_16 := fun a ha z => hqq_16 (z ▸ (hM.1 a ha).1)
  have hT : hx_T T_tb ((((L ++ [q_4]) ++ [q_8]) ++ [q_12]) ++ [q_16]) h_15 := by rw [eh_15]; exact hx_T_nw hT hqq_16 tt_38 rfl
  replace f_2 := (hs.o gx trivial rfl).1.trans f_2
  replace f_6 := (hs.o gx trivial rfl).2.trans f_6
  replace f_10 := (hs.o gx trivial rfl).2.trans f_10
  replace f_14 := (hs.o gx trivial rfl).2.trans f_14
  replace hz := hx_zr [0, 3, 5, 6] hz hs gx trivial rfl
  replace hM := hM.tr (hs.mono (by decide))
  replace gx := gx.S hs
  replace gq_4 := gq_4.S hs
  replace gq_8 := gq_8.S hs
  replace gq_12 := gq_12.S hs
  refine hx_putrF hx hb hts hC_7 hown hW hT (hx_S.rf (M := [(123, 7)])) gx tt_123 7 (by decide) rfl kw_320 ⟨rfl, rfl, rfl⟩ rfl hin rfl (x := (some q_16)) ⟨fun _ z => (by cases z), fun q hq => (by cases hq; exact ⟨gq_16.1, by rw [gq_16.2]; decide⟩)⟩ rfl rfl rfl (List.mem_singleton.mpr rfl) dX7_init_37 (fun H locs h_17 eh_17 hW hT hs => ?_)
  replace f_2 := (hs.o gx trivial rfl).1.trans f_2
  replace f_6 := (hs.o gx trivial rfl).2.trans f_6
  replace f_10 := (hs.o gx trivial rfl).2.trans f_10
  replace f_14 := (hs.o gx trivial rfl).2.trans f_14
  replace hz := hx_zr [0, 3, 5, 6, 7] hz hs gx trivial rfl
  replace hM := hM.tr (hs.mono (by decide))
  replace gx := gx.S hs
  replace gq_4 := gq_4.S hs
  replace gq_8 := gq_8.S hs
  replace gq_12 := gq_12.S hs
  replace gq_16 := gq_16.S hs
  have f_18 : h_17.2.2 x 7 = (some q_16) := by rw [eh_17]; exact hx_pr_at _ _ _ _
  have hF : hx_F (fun k f => hx_o ((((L ++ [q_4]) ++ [q_8]) ++ [q_12]) ++ [q_16]) h_17 f (h_17.2.1 x k) (h_17.2.2 x k)) T_f7 0 := ⟨hx_oi f_2 (by decide), hx_oi (hz 1 rfl).1 (by decide), hx_oi (hz 2 rfl).1 (by decide), hx_or f_6 gq_4 (by decide), hx_oi (hz 4 rfl).1 (by decide), hx_or f_10 gq_8 (by decide), hx_or f_14 gq_12 (by decide), hx_or f_18 gq_16 (by decide), trivial⟩
  have hT := hx_T_rt hT gx tt_7 rfl (hx_F_all hF)
  have hW := hx_W_rt hW gx tt_123 tt_7 (fun _ _ => rfl)
  have hM := hx_SX_rt (x := x) (t := 7) hM
  have gq_4 := hx_rt_o (t := 7) gq_4 (gq_4.ne gx (by decide))
  have gq_8 := hx_rt_o (t := 7) gq_8 (gq_8.ne gx (by decide))
  have gq_12 := hx_rt_o (t := 7) gq_12 (gq_12.ne gx (by decide))
  have gq_16 := hx_rt_o (t := 7) gq_16 (gq_16.ne gx (by decide))
  have gx := hx_rt_g (t := 7) gx
  have f_2 : (hx_rt h_17 x 7).2.1 x 0 = (-1 : Int32) := f_2
  have f_6 : (hx_rt h_17 x 7).2.2 x 3 = some q_4 := f_6
  have f_10 : (hx_rt h_17 x 7).2.2 x 5 = some q_8 := f_10
  have f_14 : (hx_rt h_17 x 7).2.2 x 6 = some q_12 := f_14
  have f_18 : (hx_rt h_17 x 7).2.2 x 7 = some q_16 := f_18
  generalize eh : hx_rt h_17 x 7 = h_19 at hT hW hM gx gq_4 gq_8 gq_12 gq_16 f_2 f_6 f_10 f_14 f_18
  refine W.widen (k := 4) (n := 1708) (Nat.le_of_ble_eq_true rfl) (Nat.le_of_ble_eq_true rfl) ?_
  exact hx_retv hx hb hr hlk hW ⟨hT, hM, gx⟩ dX7_init_40

theorem dX8_init_0 : decode cX8_init 0 = .ok (.aload_n 0, 1) := by decide +kernel
theorem dX8_init_1 : decode cX8_init 1 = .ok (.invokespecial 3, 3) := by decide +kernel
theorem dX8_init_4 : decode cX8_init 4 = .ok (.aload_n 0, 1) := by decide +kernel
theorem dX8_init_5 : decode cX8_init 5 = .ok (.bipush 8, 2) := by decide +kernel
theorem dX8_init_7 : decode cX8_init 7 = .ok (.newarray .int, 2) := by decide +kernel
theorem dX8_init_9 : decode cX8_init 9 = .ok (.putfield 9, 3) := by decide +kernel
theorem dX8_init_12 : decode cX8_init 12 = .ok (.aload_n 0, 1) := by decide +kernel
theorem dX8_init_13 : decode cX8_init 13 = .ok (.bipush 8, 2) := by decide +kernel
theorem dX8_init_15 : decode cX8_init 15 = .ok (.anewarray 15, 3) := by decide +kernel
theorem dX8_init_18 : decode cX8_init 18 = .ok (.putfield 17, 3) := by decide +kernel
theorem dX8_init_21 : decode cX8_init 21 = .ok (.aload_n 0, 1) := by decide +kernel
theorem dX8_init_22 : decode cX8_init 22 = .ok (.sipush 2048, 3) := by decide +kernel
theorem dX8_init_25 : decode cX8_init 25 = .ok (.newarray .int, 2) := by decide +kernel
theorem dX8_init_27 : decode cX8_init 27 = .ok (.putfield 21, 3) := by decide +kernel
theorem dX8_init_30 : decode cX8_init 30 = .ok (.return_, 1) := by decide +kernel
set_option maxHeartbeats 4000000 in
set_option maxRecDepth 100000 in
theorem t_X8_init (l : Launch) (dC : Nat → ClassId) (dI : Nat → Nat → Nat) (dA : Nat → ClassId) (L : List Nat) (h : hx_h) (sz : Nat) (b0 : hx_z) (x : Nat) (hT : hx_T T_tb L h) (gx : hx_g L h x 124) (hz : ∀ j, h.2.1 x j = 0 ∧ h.2.2 x j = none) : Met l yX8_init (Cond.code yX8_init cX8_init 1 none :: hx_all) ({ frames := 1, cells := 3, slots := 2064, locals := 12 }) (va_Pc [.ref x] (hx_BX T_tb (P_ty dA) (dC, dI) vwCl L h sz b0)) (va_Qv (fun (u : List Nat × hx_h) => hx_T T_tb u.1 u.2 ∧ hx_S T_tb [(124, 2), (124, 3), (124, 4)] (hx_X L x) h u.1 u.2 ∧ hx_g u.1 u.2 x 8 ∧ u.2.2.1 x 0 = 0 ∧ u.2.2.1 x 1 = 0 ∧ (∃ q, u.2.2.2 x 3 = some q ∧ hx_g u.1 u.2 q 40 ∧ ∀ j, u.2.2.1 q j = 0 ∧ u.2.2.2 q j = none)) (hx_E T_tb (P_ty dA) (dC, dI) vwCl (hx_A L sz)) (hx_A L sz)) 3 2064 (hx_A L sz) := by
  refine hx_metX (lv := [(0, .ref x)]) (by decide +kernel) rfl (Nat.le_of_ble_eq_true rfl) rfl ?_
  intro p e s m below meth c hx hb hml hr hlk hts0 hown hin hsz hW hZ ls hl
  have hts : ∀ w ∈ hx_all, w.before _ s = true := fun w hw => hts0 w (List.mem_cons_of_mem _ hw)
  have hown : s.vm.findClass "SmallCourt$Walk" = some m.cls := hown
  have hin : meth.name = "<init>" := hin
  have hM : hx_S T_tb [(124, 2), (124, 3), (124, 4)] (hx_X L x) h L h := hx_SX_rf
  have hz : ∀ j, ([] : List Nat).contains j = false → h.2.1 x j = 0 ∧ h.2.2 x j = none := fun j _ => hz j
  refine lv_aload_n hx hb dX8_init_0 rfl (lv_at hl 0 rfl) ?_
  refine W.objInit hx hb hown (hts _ kw_343) (hts _ kw_117) (hts _ kw_118) rfl (by rw [hml]; exact hl.1) rfl dX8_init_1 (Nat.le_of_ble_eq_true rfl) (Nat.le_of_ble_eq_true rfl) ?_
  refine W.eq (g2 := F0 m 4 ls []) rfl ?_
  refine lv_aload_n hx hb dX8_init_4 rfl (lv_at hl 0 rfl) ?_
  refine lv_bipush (v := 8) hx hb dX8_init_5 (by decide) ?_
  refine hk_newa hx hb hts hW 39 tt_39 (atype := .int) rfl kw_186 (tys := P_ty dA) (t0 := 0) rfl (fun _ => Iff.rfl) rfl (i := (8 : Int32)) (by decide) (Nat.le_of_ble_eq_true rfl) (Nat.le_of_ble_eq_true rfl) (Nat.le_of_ble_eq_true rfl) dX8_init_7 (fun q_2 H h_1 eh_1 hqq_2 hW hs gq_2 => ?_)
  have nq_q_2 : ∀ a ∈ (hx_X L x), a ≠ q_2 := fun a ha z => hqq_2 (z ▸ (hM.1 a ha).1)
  have hT : hx_T T_tb (L ++ [q_2]) h_1 := by rw [eh_1]; exact hx_T_nw hT hqq_2 tt_39 rfl
  replace hz := hx_zr [] hz hs gx trivial rfl
  replace hM := hM.tr (hs.mono (by decide))
  replace gx := gx.S hs
  refine hx_putrF hx hb hts hC_8 hown hW hT (hx_S.rf (M := [(124, 2)])) gx tt_124 2 (by decide) rfl kw_349 ⟨rfl, rfl, rfl⟩ rfl hin rfl (x := (some q_2)) ⟨fun _ z => (by cases z), fun q hq => (by cases hq; exact ⟨gq_2.1, by rw [gq_2.2]; decide⟩)⟩ rfl rfl rfl (List.mem_singleton.mpr rfl) dX8_init_9 (fun H locs h_3 eh_3 hW hT hs => ?_)
  replace hz := hx_zr [2] hz hs gx trivial rfl
  replace hM := hM.tr (hs.mono (by decide))
  replace gx := gx.S hs
  replace gq_2 := gq_2.S hs
  have f_4 : h_3.2.2 x 2 = (some q_2) := by rw [eh_3]; exact hx_pr_at _ _ _ _
  refine lv_aload_n hx hb dX8_init_12 rfl (lv_at hl 0 rfl) ?_
  refine lv_bipush (v := 8) hx hb dX8_init_13 (by decide) ?_
  refine hk_newqX hx hb hts hown hW 40 tt_40 kw_344 hZ.2.1.2.2 (tys := P_ty dA) (t0 := 6) rfl (i := (8 : Int32)) (by decide) (Nat.le_of_ble_eq_true rfl) (Nat.le_of_ble_eq_true rfl) (Nat.le_of_ble_eq_true rfl) dX8_init_15 (fun q_6 H h_5 eh_5 hqq_6 hW hs gq_6 => ?_)
  have nq_q_6 : ∀ a ∈ (hx_X L x), a ≠ q_6 := fun a ha z => hqq_6 (z ▸ (hM.1 a ha).1)
  have hT : hx_T T_tb ((L ++ [q_2]) ++ [q_6]) h_5 := by rw [eh_5]; exact hx_T_nw hT hqq_6 tt_40 rfl
  replace f_4 := (hs.o gx trivial rfl).2.trans f_4
  replace hz := hx_zr [2] hz hs gx trivial rfl
  replace hM := hM.tr (hs.mono (by decide))
  replace gx := gx.S hs
  replace gq_2 := gq_2.S hs
  have za_7 : ∀ j, h_5.2.1 q_6 j = 0 ∧ h_5.2.2 q_6 j = none := by rw [eh_5]; exact fun _ => ⟨hx_nw_i, hx_nw_r⟩
  refine hx_putrF hx hb hts hC_8 hown hW hT (hx_S.rf (M := [(124, 3)])) gx tt_124 3 (by decide) rfl kw_351 ⟨rfl, rfl, rfl⟩ rfl hin rfl (x := (some q_6)) ⟨fun _ z => (by cases z), fun q hq => (by cases hq; exact ⟨gq_6.1, by rw [gq_6.2]; decide⟩)⟩ rfl rfl rfl (List.mem_singleton.mpr rfl) dX8_init_18 (fun H locs h_8 eh_8 hW hT hs => ?_)
  replace f_4 := (hs.o gx trivial rfl).2.trans f_4
  replace hz := hx_zr [2, 3] hz hs gx trivial rfl
  replace za_7 : ∀ j, h_8.2.1 q_6 j = 0 ∧ h_8.2.2 q_6 j = none := fun j => ⟨(hs.a gq_6 rfl j).1.trans (za_7 j).1, (hs.a gq_6 rfl j).2.trans (za_7 j).2⟩
  replace hM := hM.tr (hs.mono (by decide))
  replace gx := gx.S hs
  replace gq_2 := gq_2.S hs
  replace gq_6 := gq_6.S hs
  have f_9 : h_8.2.2 x 3 = (some q_6) := by rw [eh_8]; exact hx_pr_at _ _ _ _
  refine lv_aload_n hx hb dX8_init_21 rfl (lv_at hl 0 rfl) ?_
  refine lv_sipush (v := 2048) hx hb dX8_init_22 (by decide) ?_
  refine hk_newa hx hb hts hW 41 tt_41 (atype := .int) rfl kw_186 (tys := P_ty dA) (t0 := 0) rfl (fun _ => Iff.rfl) rfl (i := (2048 : Int32)) (by decide) (Nat.le_of_ble_eq_true rfl) (Nat.le_of_ble_eq_true rfl) (Nat.le_of_ble_eq_true rfl) dX8_init_25 (fun q_11 H h_10 eh_10 hqq_11 hW hs gq_11 => ?_)
  have nq_q_11 : ∀ a ∈ (hx_X L x), a ≠ q_11 := fun a ha z => hqq_11 (z ▸ (hM.1 a ha).1)
  have hT : hx_T T_tb (((L ++ [q_2]) ++ [q_6]) ++ [q_11]) h_10 := by rw [eh_10]; exact hx_T_nw hT hqq_11 tt_41 rfl
  replace f_4 := (hs.o gx trivial rfl).2.trans f_4
  replace f_9 := (hs.o gx trivial rfl).2.trans f_9
  replace hz := hx_zr [2, 3] hz hs gx trivial rfl
  replace za_7 : ∀ j, h_10.2.1 q_6 j = 0 ∧ h_10.2.2 q_6 j = none := fun j => ⟨(hs.a gq_6 rfl j).1.trans (za_7 j).1, (hs.a gq_6 rfl j).2.trans (za_7 j).2⟩
  replace hM := hM.tr (hs.mono (by decide))
  replace gx := gx.S hs
  replace gq_2 := gq_2.S hs
  replace gq_6 := gq_6.S hs
  refine hx_putrF hx hb hts hC_8 hown hW hT (hx_S.rf (M := [(124, 4)])) gx tt_124 4 (by decide) rfl kw_352 ⟨rfl, rfl, rfl⟩ rfl hin rfl (x := (some q_11)) ⟨fun _ z => (by cases z), fun q hq => (by cases hq; exact ⟨gq_11.1, by rw [gq_11.2]; decide⟩)⟩ rfl rfl rfl (List.mem_singleton.mpr rfl) dX8_init_27 (fun H locs h_12 eh_12 hW hT hs => ?_)
  replace f_4 := (hs.o gx trivial rfl).2.trans f_4
  replace f_9 := (hs.o gx trivial rfl).2.trans f_9
  replace hz := hx_zr [2, 3, 4] hz hs gx trivial rfl
  replace za_7 : ∀ j, h_12.2.1 q_6 j = 0 ∧ h_12.2.2 q_6 j = none := fun j => ⟨(hs.a gq_6 rfl j).1.trans (za_7 j).1, (hs.a gq_6 rfl j).2.trans (za_7 j).2⟩
  replace hM := hM.tr (hs.mono (by decide))
  replace gx := gx.S hs
  replace gq_2 := gq_2.S hs
  replace gq_6 := gq_6.S hs
  replace gq_11 := gq_11.S hs
  have f_13 : h_12.2.2 x 4 = (some q_11) := by rw [eh_12]; exact hx_pr_at _ _ _ _
  have f_14 : h_12.2.1 x 0 = 0 := (hz 0 rfl).1
  have f_15 : h_12.2.1 x 1 = 0 := (hz 1 rfl).1
  have hF : hx_F (fun k f => hx_o (((L ++ [q_2]) ++ [q_6]) ++ [q_11]) h_12 f (h_12.2.1 x k) (h_12.2.2 x k)) T_f8 0 := ⟨hx_oi f_14 (by decide), hx_oi f_15 (by decide), hx_or f_4 gq_2 (by decide), hx_or f_9 gq_6 (by decide), hx_or f_13 gq_11 (by decide), trivial⟩
  have hT := hx_T_rt hT gx tt_8 rfl (hx_F_all hF)
  have hW := hx_W_rt hW gx tt_124 tt_8 (fun _ _ => rfl)
  have hM := hx_SX_rt (x := x) (t := 8) hM
  have gq_2 := hx_rt_o (t := 8) gq_2 (gq_2.ne gx (by decide))
  have gq_6 := hx_rt_o (t := 8) gq_6 (gq_6.ne gx (by decide))
  have gq_11 := hx_rt_o (t := 8) gq_11 (gq_11.ne gx (by decide))
  have gx := hx_rt_g (t := 8) gx
  have f_4 : (hx_rt h_12 x 8).2.2 x 2 = some q_2 := f_4
  have f_9 : (hx_rt h_12 x 8).2.2 x 3 = some q_6 := f_9
  have f_13 : (hx_rt h_12 x 8).2.2 x 4 = some q_11 := f_13
  have f_14 : (hx_rt h_12 x 8).2.1 x 0 = (0 : Int32) := f_14
  have f_15 : (hx_rt h_12 x 8).2.1 x 1 = (0 : Int32) := f_15
  have za_7 : ∀ j, (hx_rt h_12 x 8).2.1 q_6 j = 0 ∧ (hx_rt h_12 x 8).2.2 q_6 j = none := za_7
  generalize eh : hx_rt h_12 x 8 = h_16 at hT hW hM gx gq_2 gq_6 gq_11 f_4 f_9 f_13 f_14 f_15 za_7
  refine W.widen (k := 3) (n := 2064) (Nat.le_of_ble_eq_true rfl) (Nat.le_of_ble_eq_true rfl) ?_
  exact hx_retv hx hb hr hlk hW ⟨hT, hM, gx, f_14, f_15, ⟨q_6, f_9, gq_6, za_7⟩⟩ dX8_init_30

def wLX2_init_0 : List Nat := [42, 183, 0, 3, 42, 16, 8, 188, 10, 181, 0, 9, 42, 6, 188, 10, 181, 0, 15, 42, 2, 181, 0, 18, 42, 2, 181, 0, 22, 42, 2, 181, 0, 25, 42, 2, 181, 0, 28, 42, 2, 181, 0, 31, 42, 27, 181, 0, 34, 42, 44, 181, 0, 37, 42, 45, 181, 0, 41, 42, 25, 4, 181, 0]
def wLX2_init_1 : List Nat := [44, 42, 180, 0, 15, 3, 2, 79, 42, 180, 0, 15, 4, 2, 79, 42, 180, 0, 15, 5, 2, 79, 177]
theorem wX2_init_0 : (cX2_init.data.toList.map UInt8.toNat).drop 0 = wLX2_init_0 ++ (wLX2_init_1 ++ ([])) := by decide +kernel
theorem wX2_init_1 : (cX2_init.data.toList.map UInt8.toNat).drop 64 = wLX2_init_1 ++ ([]) := hz_wn wX2_init_0 rfl
theorem dX2_init_0 : decode cX2_init 0 = .ok (.aload_n 0, 1) := dq_42 (hz_wg wX2_init_0 (j := 0) (n := 42) rfl)
theorem dX2_init_1 : decode cX2_init 1 = .ok (.invokespecial 3, 3) := dq_183 (hz_wg wX2_init_0 (j := 1) (n := 183) rfl) (hz_wg wX2_init_0 (j := 2) (n := 0) rfl) (hz_wg wX2_init_0 (j := 3) (n := 3) rfl) rfl
theorem dX2_init_4 : decode cX2_init 4 = .ok (.aload_n 0, 1) := dq_42 (hz_wg wX2_init_0 (j := 4) (n := 42) rfl)
theorem dX2_init_5 : decode cX2_init 5 = .ok (.bipush 8, 2) := dq_16 (hz_wg wX2_init_0 (j := 5) (n := 16) rfl) (hz_wg wX2_init_0 (j := 6) (n := 8) rfl) (by decide)
theorem dX2_init_7 : decode cX2_init 7 = .ok (.newarray .int, 2) := dk_b rfl (hz_wg wX2_init_0 (j := 7) (n := 188) rfl) (hz_wg wX2_init_0 (j := 8) (n := 10) rfl) rfl rfl
theorem dX2_init_9 : decode cX2_init 9 = .ok (.putfield 9, 3) := dq_181 (hz_wg wX2_init_0 (j := 9) (n := 181) rfl) (hz_wg wX2_init_0 (j := 10) (n := 0) rfl) (hz_wg wX2_init_0 (j := 11) (n := 9) rfl) rfl
theorem dX2_init_12 : decode cX2_init 12 = .ok (.aload_n 0, 1) := dq_42 (hz_wg wX2_init_0 (j := 12) (n := 42) rfl)
theorem dX2_init_13 : decode cX2_init 13 = .ok (.iconst 3, 1) := dq_6 (hz_wg wX2_init_0 (j := 13) (n := 6) rfl)
theorem dX2_init_14 : decode cX2_init 14 = .ok (.newarray .int, 2) := dk_b rfl (hz_wg wX2_init_0 (j := 14) (n := 188) rfl) (hz_wg wX2_init_0 (j := 15) (n := 10) rfl) rfl rfl
theorem dX2_init_16 : decode cX2_init 16 = .ok (.putfield 15, 3) := dq_181 (hz_wg wX2_init_0 (j := 16) (n := 181) rfl) (hz_wg wX2_init_0 (j := 17) (n := 0) rfl) (hz_wg wX2_init_0 (j := 18) (n := 15) rfl) rfl
theorem dX2_init_19 : decode cX2_init 19 = .ok (.aload_n 0, 1) := dq_42 (hz_wg wX2_init_0 (j := 19) (n := 42) rfl)
theorem dX2_init_20 : decode cX2_init 20 = .ok (.iconst (-1), 1) := dq_2 (hz_wg wX2_init_0 (j := 20) (n := 2) rfl)
theorem dX2_init_21 : decode cX2_init 21 = .ok (.putfield 18, 3) := dq_181 (hz_wg wX2_init_0 (j := 21) (n := 181) rfl) (hz_wg wX2_init_0 (j := 22) (n := 0) rfl) (hz_wg wX2_init_0 (j := 23) (n := 18) rfl) rfl
theorem dX2_init_24 : decode cX2_init 24 = .ok (.aload_n 0, 1) := dq_42 (hz_wg wX2_init_0 (j := 24) (n := 42) rfl)
theorem dX2_init_25 : decode cX2_init 25 = .ok (.iconst (-1), 1) := dq_2 (hz_wg wX2_init_0 (j := 25) (n := 2) rfl)
theorem dX2_init_26 : decode cX2_init 26 = .ok (.putfield 22, 3) := dq_181 (hz_wg wX2_init_0 (j := 26) (n := 181) rfl) (hz_wg wX2_init_0 (j := 27) (n := 0) rfl) (hz_wg wX2_init_0 (j := 28) (n := 22) rfl) rfl
theorem dX2_init_29 : decode cX2_init 29 = .ok (.aload_n 0, 1) := dq_42 (hz_wg wX2_init_0 (j := 29) (n := 42) rfl)
theorem dX2_init_30 : decode cX2_init 30 = .ok (.iconst (-1), 1) := dq_2 (hz_wg wX2_init_0 (j := 30) (n := 2) rfl)
theorem dX2_init_31 : decode cX2_init 31 = .ok (.putfield 25, 3) := dq_181 (hz_wg wX2_init_0 (j := 31) (n := 181) rfl) (hz_wg wX2_init_0 (j := 32) (n := 0) rfl) (hz_wg wX2_init_0 (j := 33) (n := 25) rfl) rfl
theorem dX2_init_34 : decode cX2_init 34 = .ok (.aload_n 0, 1) := dq_42 (hz_wg wX2_init_0 (j := 34) (n := 42) rfl)
theorem dX2_init_35 : decode cX2_init 35 = .ok (.iconst (-1), 1) := dq_2 (hz_wg wX2_init_0 (j := 35) (n := 2) rfl)
theorem dX2_init_36 : decode cX2_init 36 = .ok (.putfield 28, 3) := dq_181 (hz_wg wX2_init_0 (j := 36) (n := 181) rfl) (hz_wg wX2_init_0 (j := 37) (n := 0) rfl) (hz_wg wX2_init_0 (j := 38) (n := 28) rfl) rfl
theorem dX2_init_39 : decode cX2_init 39 = .ok (.aload_n 0, 1) := dq_42 (hz_wg wX2_init_0 (j := 39) (n := 42) rfl)
theorem dX2_init_40 : decode cX2_init 40 = .ok (.iconst (-1), 1) := dq_2 (hz_wg wX2_init_0 (j := 40) (n := 2) rfl)
theorem dX2_init_41 : decode cX2_init 41 = .ok (.putfield 31, 3) := dq_181 (hz_wg wX2_init_0 (j := 41) (n := 181) rfl) (hz_wg wX2_init_0 (j := 42) (n := 0) rfl) (hz_wg wX2_init_0 (j := 43) (n := 31) rfl) rfl
theorem dX2_init_44 : decode cX2_init 44 = .ok (.aload_n 0, 1) := dq_42 (hz_wg wX2_init_0 (j := 44) (n := 42) rfl)
theorem dX2_init_45 : decode cX2_init 45 = .ok (.iload_n 1, 1) := dq_27 (hz_wg wX2_init_0 (j := 45) (n := 27) rfl)
theorem dX2_init_46 : decode cX2_init 46 = .ok (.putfield 34, 3) := dq_181 (hz_wg wX2_init_0 (j := 46) (n := 181) rfl) (hz_wg wX2_init_0 (j := 47) (n := 0) rfl) (hz_wg wX2_init_0 (j := 48) (n := 34) rfl) rfl
theorem dX2_init_49 : decode cX2_init 49 = .ok (.aload_n 0, 1) := dq_42 (hz_wg wX2_init_0 (j := 49) (n := 42) rfl)
theorem dX2_init_50 : decode cX2_init 50 = .ok (.aload_n 2, 1) := dq_44 (hz_wg wX2_init_0 (j := 50) (n := 44) rfl)
theorem dX2_init_51 : decode cX2_init 51 = .ok (.putfield 37, 3) := dq_181 (hz_wg wX2_init_0 (j := 51) (n := 181) rfl) (hz_wg wX2_init_0 (j := 52) (n := 0) rfl) (hz_wg wX2_init_0 (j := 53) (n := 37) rfl) rfl
theorem dX2_init_54 : decode cX2_init 54 = .ok (.aload_n 0, 1) := dq_42 (hz_wg wX2_init_0 (j := 54) (n := 42) rfl)
theorem dX2_init_55 : decode cX2_init 55 = .ok (.aload_n 3, 1) := dq_45 (hz_wg wX2_init_0 (j := 55) (n := 45) rfl)
theorem dX2_init_56 : decode cX2_init 56 = .ok (.putfield 41, 3) := dq_181 (hz_wg wX2_init_0 (j := 56) (n := 181) rfl) (hz_wg wX2_init_0 (j := 57) (n := 0) rfl) (hz_wg wX2_init_0 (j := 58) (n := 41) rfl) rfl
theorem dX2_init_59 : decode cX2_init 59 = .ok (.aload_n 0, 1) := dq_42 (hz_wg wX2_init_0 (j := 59) (n := 42) rfl)
theorem dX2_init_60 : decode cX2_init 60 = .ok (.aload 4, 2) := dq_25 (hz_wg wX2_init_0 (j := 60) (n := 25) rfl) (hz_wg wX2_init_0 (j := 61) (n := 4) rfl)
theorem dX2_init_62 : decode cX2_init 62 = .ok (.putfield 44, 3) := dq_181 (hz_wg wX2_init_0 (j := 62) (n := 181) rfl) (hz_wg wX2_init_0 (j := 63) (n := 0) rfl) (hz_wg wX2_init_1 (j := 0) (n := 44) rfl) rfl
theorem dX2_init_65 : decode cX2_init 65 = .ok (.aload_n 0, 1) := dq_42 (hz_wg wX2_init_1 (j := 1) (n := 42) rfl)
theorem dX2_init_66 : decode cX2_init 66 = .ok (.getfield 15, 3) := dq_180 (hz_wg wX2_init_1 (j := 2) (n := 180) rfl) (hz_wg wX2_init_1 (j := 3) (n := 0) rfl) (hz_wg wX2_init_1 (j := 4) (n := 15) rfl) rfl
theorem dX2_init_69 : decode cX2_init 69 = .ok (.iconst 0, 1) := dq_3 (hz_wg wX2_init_1 (j := 5) (n := 3) rfl)
theorem dX2_init_70 : decode cX2_init 70 = .ok (.iconst (-1), 1) := dq_2 (hz_wg wX2_init_1 (j := 6) (n := 2) rfl)
theorem dX2_init_71 : decode cX2_init 71 = .ok (.iastore, 1) := dq_79 (hz_wg wX2_init_1 (j := 7) (n := 79) rfl)
theorem dX2_init_72 : decode cX2_init 72 = .ok (.aload_n 0, 1) := dq_42 (hz_wg wX2_init_1 (j := 8) (n := 42) rfl)
theorem dX2_init_73 : decode cX2_init 73 = .ok (.getfield 15, 3) := dq_180 (hz_wg wX2_init_1 (j := 9) (n := 180) rfl) (hz_wg wX2_init_1 (j := 10) (n := 0) rfl) (hz_wg wX2_init_1 (j := 11) (n := 15) rfl) rfl
theorem dX2_init_76 : decode cX2_init 76 = .ok (.iconst 1, 1) := dq_4 (hz_wg wX2_init_1 (j := 12) (n := 4) rfl)
theorem dX2_init_77 : decode cX2_init 77 = .ok (.iconst (-1), 1) := dq_2 (hz_wg wX2_init_1 (j := 13) (n := 2) rfl)
theorem dX2_init_78 : decode cX2_init 78 = .ok (.iastore, 1) := dq_79 (hz_wg wX2_init_1 (j := 14) (n := 79) rfl)
theorem dX2_init_79 : decode cX2_init 79 = .ok (.aload_n 0, 1) := dq_42 (hz_wg wX2_init_1 (j := 15) (n := 42) rfl)
theorem dX2_init_80 : decode cX2_init 80 = .ok (.getfield 15, 3) := dq_180 (hz_wg wX2_init_1 (j := 16) (n := 180) rfl) (hz_wg wX2_init_1 (j := 17) (n := 0) rfl) (hz_wg wX2_init_1 (j := 18) (n := 15) rfl) rfl
theorem dX2_init_83 : decode cX2_init 83 = .ok (.iconst 2, 1) := dq_5 (hz_wg wX2_init_1 (j := 19) (n := 5) rfl)
theorem dX2_init_84 : decode cX2_init 84 = .ok (.iconst (-1), 1) := dq_2 (hz_wg wX2_init_1 (j := 20) (n := 2) rfl)
theorem dX2_init_85 : decode cX2_init 85 = .ok (.iastore, 1) := dq_79 (hz_wg wX2_init_1 (j := 21) (n := 79) rfl)
theorem dX2_init_86 : decode cX2_init 86 = .ok (.return_, 1) := dq_177 (hz_wg wX2_init_1 (j := 22) (n := 177) rfl)
set_option maxHeartbeats 4000000 in
set_option maxRecDepth 100000 in
theorem t_X2_init (l : Launch) (dC : Nat → ClassId) (dI : Nat → Nat → Nat) (dA : Nat → ClassId) (L : List Nat) (h : hx_h) (sz : Nat) (x : Nat) (i1 : Int32) (v1 : Nat) (v2 : Nat) (v3 : Nat) (hT : hx_T T_tb L h) (gx : hx_g L h x 118) (gv1 : hx_g L h v1 4) (gv2 : hx_g L h v2 4) (gv3 : hx_g L h v3 0) (hz : ∀ j, h.2.1 x j = 0 ∧ h.2.2 x j = none) (hi1 : 0 ≤ i1.toInt ∧ i1.toInt ≤ 99) : Met l yX2_init (Cond.code yX2_init cX2_init 5 none :: hx_all) ({ frames := 1, cells := 2, slots := 11, locals := 12 }) (va_Pc [.ref x, .int i1, .ref v1, .ref v2, .ref v3] (hx_B T_tb (P_ty dA) (dC, dI) vwCl L h sz)) (va_Qv (fun (u : List Nat × hx_h) => hx_T T_tb u.1 u.2 ∧ hx_S T_tb [(21, 0), (118, 0), (118, 1), (118, 2), (118, 3), (118, 4), (118, 5), (118, 10), (118, 11), (118, 13), (118, 16), (118, 18)] (hx_X L x) h u.1 u.2 ∧ hx_g u.1 u.2 x 2 ∧ u.2.2.1 x 0 = i1 ∧ u.2.2.1 x 10 = -1 ∧ u.2.2.1 x 11 = -1 ∧ u.2.2.1 x 9 = 0 ∧ u.2.2.2 x 2 = some v2) (hx_E T_tb (P_ty dA) (dC, dI) vwCl (hx_A L sz)) (hx_A L sz)) 2 11 (hx_A L sz) := by
  refine hx_met (lv := [(0, .ref x), (1, .int i1), (2, .ref v1), (3, .ref v2), (4, .ref v3)]) (by decide +kernel) rfl (Nat.le_of_ble_eq_true rfl) rfl ?_
  intro p e s m below meth c hx hb hml hr hlk hts0 hown hin hsz hW ls hl
  have hts : ∀ w ∈ hx_all, w.before _ s = true := fun w hw => hts0 w (List.mem_cons_of_mem _ hw)
  have hown : s.vm.findClass "SmallCourt$Claim" = some m.cls := hown
  have hin : meth.name = "<init>" := hin
  have hM : hx_S T_tb [(21, 0), (118, 0), (118, 1), (118, 2), (118, 3), (118, 4), (118, 5), (118, 10), (118, 11), (118, 13), (118, 16), (118, 18)] (hx_X L x) h L h := hx_SX_rf
  have hz : ∀ j, ([] : List Nat).contains j = false → h.2.1 x j = 0 ∧ h.2.2 x j = none := fun j _ => hz j
  refine lv_aload_n hx hb dX2_init_0 rfl (lv_at hl 0 rfl) ?_
  refine W.objInit hx hb hown (hts _ kw_720) (hts _ kw_117) (hts _ kw_118) rfl (by rw [hml]; exact hl.1) rfl dX2_init_1 (Nat.le_of_ble_eq_true rfl) (Nat.le_of_ble_eq_true rfl) ?_
  refine W.eq (g2 := F0 m 4 ls []) rfl ?_
  refine lv_aload_n hx hb dX2_init_4 rfl (lv_at hl 0 rfl) ?_
  refine lv_bipush (v := 8) hx hb dX2_init_5 (by decide) ?_
  refine hk_newa hx hb hts hW 20 tt_20 (atype := .int) rfl kw_186 (tys := P_ty dA) (t0 := 0) rfl (fun _ => Iff.rfl) rfl (i := (8 : Int32)) (by decide) (Nat.le_of_ble_eq_true rfl) (Nat.le_of_ble_eq_true rfl) (Nat.le_of_ble_eq_true rfl) dX2_init_7 (fun q_2 H h_1 eh_1 hqq_2 hW hs gq_2 => ?_)
  have nq_q_2 : ∀ a ∈ (hx_X L x), a ≠ q_2 := fun a ha z => hqq_2 (z ▸ (hM.1 a ha).1)
  have hT : hx_T T_tb (L ++ [q_2]) h_1 := by rw [eh_1]; exact hx_T_nw hT hqq_2 tt_20 rfl
  replace hz := hx_zr [] hz hs gx trivial rfl
  replace hM := hM.tr (hs.mono (by decide))
  replace gx := gx.S hs
  replace gv1 := gv1.S hs
  replace gv2 := gv2.S hs
  replace gv3 := gv3.S hs
  refine hx_putrF hx hb hts hC_2 hown hW hT (hx_S.rf (M := [(118, 4)])) gx tt_118 4 (by decide) rfl kw_737 ⟨rfl, rfl, rfl⟩ rfl hin rfl (x := (some q_2)) ⟨fun _ z => (by cases z), fun q hq => (by cases hq; exact ⟨gq_2.1, by rw [gq_2.2]; decide⟩)⟩ rfl rfl rfl (List.mem_singleton.mpr rfl) dX2_init_9 (fun H locs h_3 eh_3 hW hT hs => ?_)
  replace hz := hx_zr [4] hz hs gx trivial rfl
  replace hM := hM.tr (hs.mono (by decide))
  replace gx := gx.S hs
  replace gv1 := gv1.S hs
  replace gv2 := gv2.S hs
  replace gv3 := gv3.S hs
  replace gq_2 := gq_2.S hs
  have f_4 : h_3.2.2 x 4 = (some q_2) := by rw [eh_3]; exact hx_pr_at _ _ _ _
  refine lv_aload_n hx hb dX2_init_12 rfl (lv_at hl 0 rfl) ?_
  refine lv_iconst (v := 3) hx hb dX2_init_13 (by decide) ?_
  refine hk_newa hx hb hts hW 21 tt_21 (atype := .int) rfl kw_186 (tys := P_ty dA) (t0 := 0) rfl (fun _ => Iff.rfl) rfl (i := (3 : Int32)) (by decide) (Nat.le_of_ble_eq_true rfl) (Nat.le_of_ble_eq_true rfl) (Nat.le_of_ble_eq_true rfl) dX2_init_14 (fun q_6 H h_5 eh_5 hqq_6 hW hs gq_6 => ?_)
  have nq_q_6 : ∀ a ∈ (hx_X L x), a ≠ q_6 := fun a ha z => hqq_6 (z ▸ (hM.1 a ha).1)
  have hT : hx_T T_tb ((L ++ [q_2]) ++ [q_6]) h_5 := by rw [eh_5]; exact hx_T_nw hT hqq_6 tt_21 rfl
  replace f_4 := (hs.o gx trivial rfl).2.trans f_4
  replace hz := hx_zr [4] hz hs gx trivial rfl
  replace hM := hM.tr (hs.mono (by decide))
  replace gx := gx.S hs
  replace gv1 := gv1.S hs
  replace gv2 := gv2.S hs
  replace gv3 := gv3.S hs
  replace gq_2 := gq_2.S hs
  refine hx_putrF hx hb hts hC_2 hown hW hT (hx_S.rf (M := [(118, 5)])) gx tt_118 5 (by decide) rfl kw_739 ⟨rfl, rfl, rfl⟩ rfl hin rfl (x := (some q_6)) ⟨fun _ z => (by cases z), fun q hq => (by cases hq; exact ⟨gq_6.1, by rw [gq_6.2]; decide⟩)⟩ rfl rfl rfl (List.mem_singleton.mpr rfl) dX2_init_16 (fun H locs h_7 eh_7 hW hT hs => ?_)
  replace f_4 := (hs.o gx trivial rfl).2.trans f_4
  replace hz := hx_zr [4, 5] hz hs gx trivial rfl
  replace hM := hM.tr (hs.mono (by decide))
  replace gx := gx.S hs
  replace gv1 := gv1.S hs
  replace gv2 := gv2.S hs
  replace gv3 := gv3.S hs
  replace gq_2 := gq_2.S hs
  replace gq_6 := gq_6.S hs
  have f_8 : h_7.2.2 x 5 = (some q_6) := by rw [eh_7]; exact hx_pr_at _ _ _ _
  refine lv_aload_n hx hb dX2_init_19 rfl (lv_at hl 0 rfl) ?_
  refine lv_iconst (v := -1) hx hb dX2_init_20 (by decide) ?_
  refine hx_puti hx hb hts hC_2 hown hW hT (hx_S.rf (M := [(118, 10)])) gx tt_118 10 (by decide) rfl kw_746 ⟨rfl, rfl, rfl⟩ rfl (x := (-1 : Int32)) (by decide) rfl rfl rfl (List.mem_singleton.mpr rfl) dX2_init_21 (fun H locs h_9 eh_9 hW hT hs => ?_)
  replace f_4 := (hs.o gx trivial rfl).2.trans f_4
  replace f_8 := (hs.o gx trivial rfl).2.trans f_8
  replace hz := hx_zr [4, 5, 10] hz hs gx trivial rfl
  replace hM := hM.tr (hs.mono (by decide))
  replace gx := gx.S hs
  replace gv1 := gv1.S hs
  replace gv2 := gv2.S hs
  replace gv3 := gv3.S hs
  replace gq_2 := gq_2.S hs
  replace gq_6 := gq_6.S hs
  have f_10 : h_9.2.1 x 10 = (-1 : Int32) := by rw [eh_9]; exact hx_pi_at _ _ _ _
  refine lv_aload_n hx hb dX2_init_24 rfl (lv_at hl 0 rfl) ?_
  refine lv_iconst (v := -1) hx hb dX2_init_25 (by decide) ?_
  refine hx_puti hx hb hts hC_2 hown hW hT (hx_S.rf (M := [(118, 11)])) gx tt_118 11 (by decide) rfl kw_748 ⟨rfl, rfl, rfl⟩ rfl (x := (-1 : Int32)) (by decide) rfl rfl rfl (List.mem_singleton.mpr rfl) dX2_init_26 (fun H locs h_11 eh_11 hW hT hs => ?_)
  replace f_4 := (hs.o gx trivial rfl).2.trans f_4
  replace f_8 := (hs.o gx trivial rfl).2.trans f_8
  replace f_10 := (hs.o gx trivial rfl).1.trans f_10
  replace hz := hx_zr [4, 5, 10, 11] hz hs gx trivial rfl
  replace hM := hM.tr (hs.mono (by decide))
  replace gx := gx.S hs
  replace gv1 := gv1.S hs
  replace gv2 := gv2.S hs
  replace gv3 := gv3.S hs
  replace gq_2 := gq_2.S hs
  replace gq_6 := gq_6.S hs
  have f_12 : h_11.2.1 x 11 = (-1 : Int32) := by rw [eh_11]; exact hx_pi_at _ _ _ _
  refine lv_aload_n hx hb dX2_init_29 rfl (lv_at hl 0 rfl) ?_
  refine lv_iconst (v := -1) hx hb dX2_init_30 (by decide) ?_
  refine hx_puti hx hb hts hC_2 hown hW hT (hx_S.rf (M := [(118, 13)])) gx tt_118 13 (by decide) rfl kw_752 ⟨rfl, rfl, rfl⟩ rfl (x := (-1 : Int32)) (by decide) rfl rfl rfl (List.mem_singleton.mpr rfl) dX2_init_31 (fun H locs h_13 eh_13 hW hT hs => ?_)
  replace f_4 := (hs.o gx trivial rfl).2.trans f_4
  replace f_8 := (hs.o gx trivial rfl).2.trans f_8
  replace f_10 := (hs.o gx trivial rfl).1.trans f_10
  replace f_12 := (hs.o gx trivial rfl).1.trans f_12
  replace hz := hx_zr [4, 5, 10, 11, 13] hz hs gx trivial rfl
  replace hM := hM.tr (hs.mono (by decide))
  replace gx := gx.S hs
  replace gv1 := gv1.S hs
  replace gv2 := gv2.S hs
  replace gv3 := gv3.S hs
  replace gq_2 := gq_2.S hs
  replace gq_6 := gq_6.S hs
  have f_14 : h_13.2.1 x 13 = (-1 : Int32) := by rw [eh_13]; exact hx_pi_at _ _ _ _
  refine lv_aload_n hx hb dX2_init_34 rfl (lv_at hl 0 rfl) ?_
  refine lv_iconst (v := -1) hx hb dX2_init_35 (by decide) ?_
  refine hx_puti hx hb hts hC_2 hown hW hT (hx_S.rf (M := [(118, 16)])) gx tt_118 16 (by decide) rfl kw_758 ⟨rfl, rfl, rfl⟩ rfl (x := (-1 : Int32)) (by decide) rfl rfl rfl (List.mem_singleton.mpr rfl) dX2_init_36 (fun H locs h_15 eh_15 hW hT hs => ?_)
  replace f_4 := (hs.o gx trivial rfl).2.trans f_4
  replace f_8 := (hs.o gx trivial rfl).2.trans f_8
  replace f_10 := (hs.o gx trivial rfl).1.trans f_10
  replace f_12 := (hs.o gx trivial rfl).1.trans f_12
  replace f_14 := (hs.o gx trivial rfl).1.trans f_14
  replace hz := hx_zr [4, 5, 10, 11, 13, 16] hz hs gx trivial rfl
  replace hM := hM.tr (hs.mono (by decide))
  replace gx := gx.S hs
  replace gv1 := gv1.S hs
  replace gv2 := gv2.S hs
  replace gv3 := gv3.S hs
  replace gq_2 := gq_2.S hs
  replace gq_6 := gq_6.S hs
  have f_16 : h_15.2.1 x 16 = (-1 : Int32) := by rw [eh_15]; exact hx_pi_at _ _ _ _
  refine lv_aload_n hx hb dX2_init_39 rfl (lv_at hl 0 rfl) ?_
  refine lv_iconst (v := -1) hx hb dX2_init_40 (by decide) ?_
  refine hx_puti hx hb hts hC_2 hown hW hT (hx_S.rf (M := [(118, 18)])) gx tt_118 18 (by decide) rfl kw_762 ⟨rfl, rfl, rfl⟩ rfl (x := (-1 : Int32)) (by decide) rfl rfl rfl (List.mem_singleton.mpr rfl) dX2_init_41 (fun H locs h_17 eh_17 hW hT hs => ?_)
  replace f_4 := (hs.o gx trivial rfl).2.trans f_4
  replace f_8 := (hs.o gx trivial rfl).2.trans f_8
  replace f_10 := (hs.o gx trivial rfl).1.trans f_10
  replace f_12 := (hs.o gx trivial rfl).1.trans f_12
  replace f_14 := (hs.o gx trivial rfl).1.trans f_14
  replace f_16 := (hs.o gx trivial rfl).1.trans f_16
  replace hz := hx_zr [4, 5, 10, 11, 13, 16, 18] hz hs gx trivial rfl
  replace hM := hM.tr (hs.mono (by decide))
  replace gx := gx.S hs
  replace gv1 := gv1.S hs
  replace gv2 := gv2.S hs
  replace gv3 := gv3.S hs
  replace gq_2 := gq_2.S hs
  replace gq_6 := gq_6.S hs
  have f_18 : h_17.2.1 x 18 = (-1 : Int32) := by rw [eh_17]; exact hx_pi_at _ _ _ _
  refine lv_aload_n hx hb dX2_init_44 rfl (lv_at hl 0 rfl) ?_
  refine lv_iload_n hx hb dX2_init_45 rfl (lv_at hl 1 rfl) ?_
  refine hx_putiF hx hb hts hC_2 hown hW hT (hx_S.rf (M := [(118, 0)])) gx tt_118 0 (by decide) rfl kw_721 ⟨rfl, rfl, rfl⟩ rfl hin rfl (x := i1) ⟨by omega, by omega⟩ rfl rfl rfl (List.mem_singleton.mpr rfl) dX2_init_46 (fun H locs h_19 eh_19 hW hT hs => ?_)
  replace f_4 := (hs.o gx trivial rfl).2.trans f_4
  replace f_8 := (hs.o gx trivial rfl).2.trans f_8
  replace f_10 := (hs.o gx trivial rfl).1.trans f_10
  replace f_12 := (hs.o gx trivial rfl).1.trans f_12
  replace f_14 := (hs.o gx trivial rfl).1.trans f_14
  replace f_16 := (hs.o gx trivial rfl).1.trans f_16
  replace f_18 := (hs.o gx trivial rfl).1.trans f_18
  replace hz := hx_zr [0, 4, 5, 10, 11, 13, 16, 18] hz hs gx trivial rfl
  replace hM := hM.tr (hs.mono (by decide))
  replace gx := gx.S hs
  replace gv1 := gv1.S hs
  replace gv2 := gv2.S hs
  replace gv3 := gv3.S hs
  replace gq_2 := gq_2.S hs
  replace gq_6 := gq_6.S hs
  have f_20 : h_19.2.1 x 0 = i1 := by rw [eh_19]; exact hx_pi_at _ _ _ _
  refine lv_aload_n hx hb dX2_init_49 rfl (lv_at hl 0 rfl) ?_
  refine lv_aload_n hx hb dX2_init_50 rfl (lv_at hl 2 rfl) ?_
  refine hx_putrF hx hb hts hC_2 hown hW hT (hx_S.rf (M := [(118, 1)])) gx tt_118 1 (by decide) rfl kw_725 ⟨rfl, rfl, rfl⟩ rfl hin rfl (x := (some v1)) ⟨fun _ z => (by cases z), fun q hq => (by cases hq; exact ⟨gv1.1, by rw [gv1.2]; decide⟩)⟩ rfl rfl rfl (List.mem_singleton.mpr rfl) dX2_init_51 (fun H locs h_21 eh_21 hW hT hs => ?_)
  replace f_4 := (hs.o gx trivial rfl).2.trans f_4
  replace f_8 := (hs.o gx trivial rfl).2.trans f_8
  replace f_10 := (hs.o gx trivial rfl).1.trans f_10
  replace f_12 := (hs.o gx trivial rfl).1.trans f_12
  replace f_14 := (hs.o gx trivial rfl).1.trans f_14
  replace f_16 := (hs.o gx trivial rfl).1.trans f_16
  replace f_18 := (hs.o gx trivial rfl).1.trans f_18
  replace f_20 := (hs.o gx trivial rfl).1.trans f_20
  replace hz := hx_zr [0, 1, 4, 5, 10, 11, 13, 16, 18] hz hs gx trivial rfl
  replace hM := hM.tr (hs.mono (by decide))
  replace gx := gx.S hs
  replace gv1 := gv1.S hs
  replace gv2 := gv2.S hs
  replace gv3 := gv3.S hs
  replace gq_2 := gq_2.S hs
  replace gq_6 := gq_6.S hs
  have f_22 : h_21.2.2 x 1 = (some v1) := by rw [eh_21]; exact hx_pr_at _ _ _ _
  refine lv_aload_n hx hb dX2_init_54 rfl (lv_at hl 0 rfl) ?_
  refine lv_aload_n hx hb dX2_init_55 rfl (lv_at hl 3 rfl) ?_
  refine hx_putrF hx hb hts hC_2 hown hW hT (hx_S.rf (M := [(118, 2)])) gx tt_118 2 (by decide) rfl kw_729 ⟨rfl, rfl, rfl⟩ rfl hin rfl (x := (some v2)) ⟨fun _ z => (by cases z), fun q hq => (by cases hq; exact ⟨gv2.1, by rw [gv2.2]; decide⟩)⟩ rfl rfl rfl (List.mem_singleton.mpr rfl) dX2_init_56 (fun H locs h_23 eh_23 hW hT hs => ?_)
  replace f_4 := (hs.o gx trivial rfl).2.trans f_4
  replace f_8 := (hs.o gx trivial rfl).2.trans f_8
  replace f_10 := (hs.o gx trivial rfl).1.trans f_10
  replace f_12 := (hs.o gx trivial rfl).1.trans f_12
  replace f_14 := (hs.o gx trivial rfl).1.trans f_14
  replace f_16 := (hs.o gx trivial rfl).1.trans f_16
  replace f_18 := (hs.o gx trivial rfl).1.trans f_18
  replace f_20 := (hs.o gx trivial rfl).1.trans f_20
  replace f_22 := (hs.o gx trivial rfl).2.trans f_22
  replace hz := hx_zr [0, 1, 2, 4, 5, 10, 11, 13, 16, 18] hz hs gx trivial rfl
  replace hM := hM.tr (hs.mono (by decide))
  replace gx := gx.S hs
  replace gv1 := gv1.S hs
  replace gv2 := gv2.S hs
  replace gv3 := gv3.S hs
  replace gq_2 := gq_2.S hs
  replace gq_6 := gq_6.S hs
  have f_24 : h_23.2.2 x 2 = (some v2) := by rw [eh_23]; exact hx_pr_at _ _ _ _
  refine lv_aload_n hx hb dX2_init_59 rfl (lv_at hl 0 rfl) ?_
  refine lv_aload hx hb dX2_init_60 (lv_at hl 4 rfl) ?_
  refine hx_putrF hx hb hts hC_2 hown hW hT (hx_S.rf (M := [(118, 3)])) gx tt_118 3 (by decide) rfl kw_734 ⟨rfl, rfl, rfl⟩ rfl hin rfl (x := (some v3)) ⟨fun _ z => (by cases z), fun q hq => (by cases hq; exact ⟨gv3.1, by rw [gv3.2]; decide⟩)⟩ rfl rfl rfl (List.mem_singleton.mpr rfl) dX2_init_62 (fun H locs h_25 eh_25 hW hT hs => ?_)
  replace f_4 := (hs.o gx trivial rfl).2.trans f_4
  replace f_8 := (hs.o gx trivial rfl).2.trans f_8
  replace f_10 := (hs.o gx trivial rfl).1.trans f_10
  replace f_12 := (hs.o gx trivial rfl).1.trans f_12
  replace f_14 := (hs.o gx trivial rfl).1.trans f_14
  replace f_16 := (hs.o gx trivial rfl).1.trans f_16
  replace f_18 := (hs.o gx trivial rfl).1.trans f_18
  replace f_20 := (hs.o gx trivial rfl).1.trans f_20
  replace f_22 := (hs.o gx trivial rfl).2.trans f_22
  replace f_24 := (hs.o gx trivial rfl).2.trans f_24
  replace hz := hx_zr [0, 1, 2, 3, 4, 5, 10, 11, 13, 16, 18] hz hs gx trivial rfl
  replace hM := hM.tr (hs.mono (by decide))
  replace gx := gx.S hs
  replace gv1 := gv1.S hs
  replace gv2 := gv2.S hs
  replace gv3 := gv3.S hs
  replace gq_2 := gq_2.S hs
  replace gq_6 := gq_6.S hs
  have f_26 : h_25.2.2 x 3 = (some v3) := by rw [eh_25]; exact hx_pr_at _ _ _ _
  refine lv_aload_n hx hb dX2_init_65 rfl (lv_at hl 0 rfl) ?_
  refine hk_getr hx hb hts hC_2 hown hW gx tt_118 5 (by decide) rfl kw_739 ⟨rfl, rfl, rfl⟩ f_8 dX2_init_66 ?_
  refine lv_iconst (v := 0) hx hb dX2_init_69 (by decide) ?_
  refine lv_iconst (v := -1) hx hb dX2_init_70 (by decide) ?_
  refine hx_iast hx hb hW hT (hx_S.rf (M := [(21, 0)])) gq_6 tt_21 rfl (by decide) rfl (by decide) (List.mem_singleton.mpr rfl) dX2_init_71 (fun H locs h_27 eh_27 hW hT hs => ?_)
  replace f_4 := (hs.o gx trivial rfl).2.trans f_4
  replace f_8 := (hs.o gx trivial rfl).2.trans f_8
  replace f_10 := (hs.o gx trivial rfl).1.trans f_10
  replace f_12 := (hs.o gx trivial rfl).1.trans f_12
  replace f_14 := (hs.o gx trivial rfl).1.trans f_14
  replace f_16 := (hs.o gx trivial rfl).1.trans f_16
  replace f_18 := (hs.o gx trivial rfl).1.trans f_18
  replace f_20 := (hs.o gx trivial rfl).1.trans f_20
  replace f_22 := (hs.o gx trivial rfl).2.trans f_22
  replace f_24 := (hs.o gx trivial rfl).2.trans f_24
  replace f_26 := (hs.o gx trivial rfl).2.trans f_26
  replace hz := hx_zr [0, 1, 2, 3, 4, 5, 10, 11, 13, 16, 18] hz hs gx trivial rfl
  replace hM := hM.tr (hs.mono (by decide))
  replace gx := gx.S hs
  replace gv1 := gv1.S hs
  replace gv2 := gv2.S hs
  replace gv3 := gv3.S hs
  replace gq_2 := gq_2.S hs
  replace gq_6 := gq_6.S hs
  refine lv_aload_n hx hb dX2_init_72 rfl (lv_at hl 0 rfl) ?_
  refine hk_getr hx hb hts hC_2 hown hW gx tt_118 5 (by decide) rfl kw_739 ⟨rfl, rfl, rfl⟩ f_8 dX2_init_73 ?_
  refine lv_iconst (v := 1) hx hb dX2_init_76 (by decide) ?_
  refine lv_iconst (v := -1) hx hb dX2_init_77 (by decide) ?_
  refine hx_iast hx hb hW hT (hx_S.rf (M := [(21, 0)])) gq_6 tt_21 rfl (by decide) rfl (by decide) (List.mem_singleton.mpr rfl) dX2_init_78 (fun H locs h_28 eh_28 hW hT hs => ?_)
  replace f_4 := (hs.o gx trivial rfl).2.trans f_4
  replace f_8 := (hs.o gx trivial rfl).2.trans f_8
  replace f_10 := (hs.o gx trivial rfl).1.trans f_10
  replace f_12 := (hs.o gx trivial rfl).1.trans f_12
  replace f_14 := (hs.o gx trivial rfl).1.trans f_14
  replace f_16 := (hs.o gx trivial rfl).1.trans f_16
  replace f_18 := (hs.o gx trivial rfl).1.trans f_18
  replace f_20 := (hs.o gx trivial rfl).1.trans f_20
  replace f_22 := (hs.o gx trivial rfl).2.trans f_22
  replace f_24 := (hs.o gx trivial rfl).2.trans f_24
  replace f_26 := (hs.o gx trivial rfl).2.trans f_26
  replace hz := hx_zr [0, 1, 2, 3, 4, 5, 10, 11, 13, 16, 18] hz hs gx trivial rfl
  replace hM := hM.tr (hs.mono (by decide))
  replace gx := gx.S hs
  replace gv1 := gv1.S hs
  replace gv2 := gv2.S hs
  replace gv3 := gv3.S hs
  replace gq_2 := gq_2.S hs
  replace gq_6 := gq_6.S hs
  refine lv_aload_n hx hb dX2_init_79 rfl (lv_at hl 0 rfl) ?_
  refine hk_getr hx hb hts hC_2 hown hW gx tt_118 5 (by decide) rfl kw_739 ⟨rfl, rfl, rfl⟩ f_8 dX2_init_80 ?_
  refine lv_iconst (v := 2) hx hb dX2_init_83 (by decide) ?_
  refine lv_iconst (v := -1) hx hb dX2_init_84 (by decide) ?_
  refine hx_iast hx hb hW hT (hx_S.rf (M := [(21, 0)])) gq_6 tt_21 rfl (by decide) rfl (by decide) (List.mem_singleton.mpr rfl) dX2_init_85 (fun H locs h_29 eh_29 hW hT hs => ?_)
  replace f_4 := (hs.o gx trivial rfl).2.trans f_4
  replace f_8 := (hs.o gx trivial rfl).2.trans f_8
  replace f_10 := (hs.o gx trivial rfl).1.trans f_10
  replace f_12 := (hs.o gx trivial rfl).1.trans f_12
  replace f_14 := (hs.o gx trivial rfl).1.trans f_14
  replace f_16 := (hs.o gx trivial rfl).1.trans f_16
  replace f_18 := (hs.o gx trivial rfl).1.trans f_18
  replace f_20 := (hs.o gx trivial rfl).1.trans f_20
  replace f_22 := (hs.o gx trivial rfl).2.trans f_22
  replace f_24 := (hs.o gx trivial rfl).2.trans f_24
  replace f_26 := (hs.o gx trivial rfl).2.trans f_26
  replace hz := hx_zr [0, 1, 2, 3, 4, 5, 10, 11, 13, 16, 18] hz hs gx trivial rfl
  replace hM := hM.tr (hs.mono (by decide))
  replace gx := gx.S hs
  replace gv1 := gv1.S hs
  replace gv2 := gv2.S hs
  replace gv3 := gv3.S hs
  replace gq_2 := gq_2.S hs
  replace gq_6 := gq_6.S hs
  have f_30 : h_29.2.1 x 9 = 0 := (hz 9 rfl).1
  have hF : hx_F (fun k f => hx_o ((L ++ [q_2]) ++ [q_6]) h_29 f (h_29.2.1 x k) (h_29.2.2 x k)) T_f2 0 := ⟨hx_oi f_20 ⟨by omega, by omega⟩, hx_or f_22 gv1 (by decide), hx_or f_24 gv2 (by decide), hx_or f_26 gv3 (by decide), hx_or f_4 gq_2 (by decide), hx_or f_8 gq_6 (by decide), hx_oi (hz 6 rfl).1 (by decide), hx_oi (hz 7 rfl).1 (by decide), hx_oi (hz 8 rfl).1 (by decide), hx_oi f_30 (by decide), hx_oi f_10 (by decide), hx_oi f_12 (by decide), hx_oi (hz 12 rfl).1 (by decide), hx_oi f_14 (by decide), hx_oi (hz 14 rfl).1 (by decide), hx_oi (hz 15 rfl).1 (by decide), hx_oi f_16 (by decide), hx_oi (hz 17 rfl).1 (by decide), hx_oi f_18 (by decide), trivial⟩
  have hT := hx_T_rt hT gx tt_2 rfl (hx_F_all hF)
  have hW := hx_W_rt hW gx tt_118 tt_2 (fun _ _ => rfl)
  have hM := hx_SX_rt (x := x) (t := 2) hM
  have gv1 := hx_rt_o (t := 2) gv1 (gv1.ne gx (by decide))
  have gv2 := hx_rt_o (t := 2) gv2 (gv2.ne gx (by decide))
  have gv3 := hx_rt_o (t := 2) gv3 (gv3.ne gx (by decide))
  have gq_2 := hx_rt_o (t := 2) gq_2 (gq_2.ne gx (by decide))
  have gq_6 := hx_rt_o (t := 2) gq_6 (gq_6.ne gx (by decide))
  have gx := hx_rt_g (t := 2) gx
  have f_4 : (hx_rt h_29 x 2).2.2 x 4 = some q_2 := f_4
  have f_8 : (hx_rt h_29 x 2).2.2 x 5 = some q_6 := f_8
  have f_10 : (hx_rt h_29 x 2).2.1 x 10 = (-1 : Int32) := f_10
  have f_12 : (hx_rt h_29 x 2).2.1 x 11 = (-1 : Int32) := f_12
  have f_14 : (hx_rt h_29 x 2).2.1 x 13 = (-1 : Int32) := f_14
  have f_16 : (hx_rt h_29 x 2).2.1 x 16 = (-1 : Int32) := f_16
  have f_18 : (hx_rt h_29 x 2).2.1 x 18 = (-1 : Int32) := f_18
  have f_20 : (hx_rt h_29 x 2).2.1 x 0 = i1 := f_20
  have f_22 : (hx_rt h_29 x 2).2.2 x 1 = some v1 := f_22
  have f_24 : (hx_rt h_29 x 2).2.2 x 2 = some v2 := f_24
  have f_26 : (hx_rt h_29 x 2).2.2 x 3 = some v3 := f_26
  have f_30 : (hx_rt h_29 x 2).2.1 x 9 = (0 : Int32) := f_30
  generalize eh : hx_rt h_29 x 2 = h_31 at hT hW hM gx gv1 gv2 gv3 gq_2 gq_6 f_4 f_8 f_10 f_12 f_14 f_16 f_18 f_20 f_22 f_24 f_26 f_30
  refine W.widen (k := 2) (n := 11) (Nat.le_of_ble_eq_true rfl) (Nat.le_of_ble_eq_true rfl) ?_
  exact hx_retv hx hb hr hlk hW ⟨hT, hM, gx, f_20, f_10, f_12, f_30, f_24⟩ dX2_init_86

theorem dX0_term_0 : decode cX0_term 0 = .ok (.iload_n 0, 1) := by decide +kernel
theorem dX0_term_1 : decode cX0_term 1 = .ok (.iload_n 1, 1) := by decide +kernel
theorem dX0_term_2 : decode cX0_term 2 = .ok (.iconst 3, 1) := by decide +kernel
theorem dX0_term_3 : decode cX0_term 3 = .ok (.ishl, 1) := by decide +kernel
theorem dX0_term_4 : decode cX0_term 4 = .ok (.ior, 1) := by decide +kernel
theorem dX0_term_5 : decode cX0_term 5 = .ok (.iload_n 2, 1) := by decide +kernel
theorem dX0_term_6 : decode cX0_term 6 = .ok (.ifCond .eq 7, 3) := by decide +kernel
theorem dX0_term_9 : decode cX0_term 9 = .ok (.iconst 1, 1) := by decide +kernel
theorem dX0_term_10 : decode cX0_term 10 = .ok (.goto 4, 3) := by decide +kernel
theorem dX0_term_13 : decode cX0_term 13 = .ok (.iconst 0, 1) := by decide +kernel
theorem dX0_term_14 : decode cX0_term 14 = .ok (.bipush 6, 2) := by decide +kernel
theorem dX0_term_16 : decode cX0_term 16 = .ok (.ishl, 1) := by decide +kernel
theorem dX0_term_17 : decode cX0_term 17 = .ok (.ior, 1) := by decide +kernel
theorem dX0_term_18 : decode cX0_term 18 = .ok (.iload_n 3, 1) := by decide +kernel
theorem dX0_term_19 : decode cX0_term 19 = .ok (.bipush 7, 2) := by decide +kernel
theorem dX0_term_21 : decode cX0_term 21 = .ok (.ishl, 1) := by decide +kernel
theorem dX0_term_22 : decode cX0_term 22 = .ok (.ior, 1) := by decide +kernel
theorem dX0_term_23 : decode cX0_term 23 = .ok (.ireturn, 1) := by decide +kernel
set_option maxHeartbeats 4000000 in
set_option maxRecDepth 100000 in
theorem t_X0_term (l : Launch) (dC : Nat → ClassId) (dI : Nat → Nat → Nat) (dA : Nat → ClassId) (L : List Nat) (h : hx_h) (sz : Nat) (i1 : Int32) (i2 : Int32) (i3 : Int32) (i4 : Int32) (hT : hx_T T_tb L h)   : Met l yX0_term (Cond.code yX0_term cX0_term 4 (some .int) :: hx_all) ({ frames := 0, cells := 0, slots := 0, locals := 0 }) (va_Pc [.int i1, .int i2, .int i3, .int i4] (hx_B T_tb (P_ty dA) (dC, dI) vwCl L h sz)) (va_Qi (fun (r : Int32) (u : List Nat × hx_h) => (True) ∧ hx_T T_tb u.1 u.2 ∧ hx_S T_tb [] L h u.1 u.2) (hx_E T_tb (P_ty dA) (dC, dI) vwCl (hx_A L sz)) (hx_A L sz)) 0 0 (hx_A L sz) := by
  refine hx_met (lv := [(0, .int i1), (1, .int i2), (2, .int i3), (3, .int i4)]) (by decide +kernel) rfl (Nat.le_of_ble_eq_true rfl) rfl ?_
  intro p e s m below meth c hx hb hml hr hlk hts0 hown hin hsz hW ls hl
  have hts : ∀ w ∈ hx_all, w.before _ s = true := fun w hw => hts0 w (List.mem_cons_of_mem _ hw)
  have hown : s.vm.findClass "SmallCourt$Act" = some m.cls := hown
  have hM : hx_S T_tb [] L h L h := hx_S.rf
  refine lv_iload_n hx hb dX0_term_0 rfl (lv_at hl 0 rfl) ?_
  refine lv_iload_n hx hb dX0_term_1 rfl (lv_at hl 1 rfl) ?_
  refine lv_iconst (v := 3) hx hb dX0_term_2 (by decide) ?_
  refine lv_ishl hx hb dX0_term_3 ?_
  refine lv_topi (fun x_1 ex_1 => ?_)
  refine lv_ior hx hb dX0_term_4 ?_
  refine lv_topi (fun x_2 ex_2 => ?_)
  refine lv_iload_n hx hb dX0_term_5 rfl (lv_at hl 2 rfl) ?_
  have jn_14 : ∀ (xj_3 : Int32) (ls : Array Slot), 0 ≤ xj_3.toInt → xj_3.toInt ≤ 1 → lv_has ls 4 [(0, .int i1), (1, .int i2), (2, .int i3), (3, .int i4)] → W p l e ({ frames := 0, cells := 0, slots := 0, locals := 0 }) s m ([.int i1, .int i2, .int i3, .int i4] : List Value).toArray below meth c s.heap [] 0 0 (MQ below (va_Qi (fun (r : Int32) (u : List Nat × hx_h) => (True) ∧ hx_T T_tb u.1 u.2 ∧ hx_S T_tb [] L h u.1 u.2) (hx_E T_tb (P_ty dA) (dC, dI) vwCl (hx_A L sz)) (hx_A L sz)) ([.int i1, .int i2, .int i3, .int i4] : List Value).toArray s 0 0 (hx_A L sz)) (F0 m 14 ls [.int xj_3, .int x_2]) := by
    intro xj_3 ls blxj_3 buxj_3 hl
    refine lv_bipush (v := 6) hx hb dX0_term_14 (by decide) ?_
    refine lv_ishl hx hb dX0_term_16 ?_
    refine lv_topi (fun x_4 ex_4 => ?_)
    refine lv_ior hx hb dX0_term_17 ?_
    refine lv_topi (fun x_5 ex_5 => ?_)
    refine lv_iload_n hx hb dX0_term_18 rfl (lv_at hl 3 rfl) ?_
    refine lv_bipush (v := 7) hx hb dX0_term_19 (by decide) ?_
    refine lv_ishl hx hb dX0_term_21 ?_
    refine lv_topi (fun x_6 ex_6 => ?_)
    refine lv_ior hx hb dX0_term_22 ?_
    refine lv_topi (fun x_7 ex_7 => ?_)
    exact hx_reti hx hb hr hlk hW ⟨trivial, hT, hM⟩ dX0_term_23
  refine hb_if_eq (zx := i3.toInt) (tgt := 13) hx hb rfl dX0_term_6 (by decide) (fun c_8 => ?_) (fun c_8 => ?_)
  · skip
    refine lv_iconst (v := 0) hx hb dX0_term_13 (by decide) ?_
    exact jn_14 (0 : Int32) ls (by decide) (by decide) hl
  · skip
    refine lv_iconst (v := 1) hx hb dX0_term_9 (by decide) ?_
    refine lv_goto (tgt := 14) hx hb dX0_term_10 (by decide) ?_
    exact jn_14 (1 : Int32) ls (by decide) (by decide) hl

def wLX0_init_0 : List Nat := [42, 183, 0, 3, 42, 16, 14, 188, 10, 181, 0, 9, 42, 17, 0, 160, 188, 10, 181, 0, 15, 42, 27, 181, 0, 18, 42, 28, 181, 0, 22, 178, 0, 25, 3, 42, 180, 0, 9, 3, 16, 14, 184, 0, 28, 42, 180, 0, 15, 3, 3, 5, 3, 4, 184, 0, 34, 79, 42, 180, 0, 15, 4, 4]
def wLX0_init_1 : List Nat := [5, 3, 3, 184, 0, 34, 79, 42, 180, 0, 15, 5, 2, 79, 42, 6, 181, 0, 38, 177]
theorem wX0_init_0 : (cX0_init.data.toList.map UInt8.toNat).drop 0 = wLX0_init_0 ++ (wLX0_init_1 ++ ([])) := by decide +kernel
theorem wX0_init_1 : (cX0_init.data.toList.map UInt8.toNat).drop 64 = wLX0_init_1 ++ ([]) := hz_wn wX0_init_0 rfl
theorem dX0_init_0 : decode cX0_init 0 = .ok (.aload_n 0, 1) := dq_42 (hz_wg wX0_init_0 (j := 0) (n := 42) rfl)
theorem dX0_init_1 : decode cX0_init 1 = .ok (.invokespecial 3, 3) := dq_183 (hz_wg wX0_init_0 (j := 1) (n := 183) rfl) (hz_wg wX0_init_0 (j := 2) (n := 0) rfl) (hz_wg wX0_init_0 (j := 3) (n := 3) rfl) rfl
theorem dX0_init_4 : decode cX0_init 4 = .ok (.aload_n 0, 1) := dq_42 (hz_wg wX0_init_0 (j := 4) (n := 42) rfl)
theorem dX0_init_5 : decode cX0_init 5 = .ok (.bipush 14, 2) := dq_16 (hz_wg wX0_init_0 (j := 5) (n := 16) rfl) (hz_wg wX0_init_0 (j := 6) (n := 14) rfl) (by decide)
theorem dX0_init_7 : decode cX0_init 7 = .ok (.newarray .int, 2) := dk_b rfl (hz_wg wX0_init_0 (j := 7) (n := 188) rfl) (hz_wg wX0_init_0 (j := 8) (n := 10) rfl) rfl rfl
theorem dX0_init_9 : decode cX0_init 9 = .ok (.putfield 9, 3) := dq_181 (hz_wg wX0_init_0 (j := 9) (n := 181) rfl) (hz_wg wX0_init_0 (j := 10) (n := 0) rfl) (hz_wg wX0_init_0 (j := 11) (n := 9) rfl) rfl
theorem dX0_init_12 : decode cX0_init 12 = .ok (.aload_n 0, 1) := dq_42 (hz_wg wX0_init_0 (j := 12) (n := 42) rfl)
theorem dX0_init_13 : decode cX0_init 13 = .ok (.sipush 160, 3) := dq_17 (hz_wg wX0_init_0 (j := 13) (n := 17) rfl) (hz_wg wX0_init_0 (j := 14) (n := 0) rfl) (hz_wg wX0_init_0 (j := 15) (n := 160) rfl) (by decide)
theorem dX0_init_16 : decode cX0_init 16 = .ok (.newarray .int, 2) := dk_b rfl (hz_wg wX0_init_0 (j := 16) (n := 188) rfl) (hz_wg wX0_init_0 (j := 17) (n := 10) rfl) rfl rfl
theorem dX0_init_18 : decode cX0_init 18 = .ok (.putfield 15, 3) := dq_181 (hz_wg wX0_init_0 (j := 18) (n := 181) rfl) (hz_wg wX0_init_0 (j := 19) (n := 0) rfl) (hz_wg wX0_init_0 (j := 20) (n := 15) rfl) rfl
theorem dX0_init_21 : decode cX0_init 21 = .ok (.aload_n 0, 1) := dq_42 (hz_wg wX0_init_0 (j := 21) (n := 42) rfl)
theorem dX0_init_22 : decode cX0_init 22 = .ok (.iload_n 1, 1) := dq_27 (hz_wg wX0_init_0 (j := 22) (n := 27) rfl)
theorem dX0_init_23 : decode cX0_init 23 = .ok (.putfield 18, 3) := dq_181 (hz_wg wX0_init_0 (j := 23) (n := 181) rfl) (hz_wg wX0_init_0 (j := 24) (n := 0) rfl) (hz_wg wX0_init_0 (j := 25) (n := 18) rfl) rfl
theorem dX0_init_26 : decode cX0_init 26 = .ok (.aload_n 0, 1) := dq_42 (hz_wg wX0_init_0 (j := 26) (n := 42) rfl)
theorem dX0_init_27 : decode cX0_init 27 = .ok (.iload_n 2, 1) := dq_28 (hz_wg wX0_init_0 (j := 27) (n := 28) rfl)
theorem dX0_init_28 : decode cX0_init 28 = .ok (.putfield 22, 3) := dq_181 (hz_wg wX0_init_0 (j := 28) (n := 181) rfl) (hz_wg wX0_init_0 (j := 29) (n := 0) rfl) (hz_wg wX0_init_0 (j := 30) (n := 22) rfl) rfl
theorem dX0_init_31 : decode cX0_init 31 = .ok (.getstatic 25, 3) := dq_178 (hz_wg wX0_init_0 (j := 31) (n := 178) rfl) (hz_wg wX0_init_0 (j := 32) (n := 0) rfl) (hz_wg wX0_init_0 (j := 33) (n := 25) rfl) rfl
theorem dX0_init_34 : decode cX0_init 34 = .ok (.iconst 0, 1) := dq_3 (hz_wg wX0_init_0 (j := 34) (n := 3) rfl)
theorem dX0_init_35 : decode cX0_init 35 = .ok (.aload_n 0, 1) := dq_42 (hz_wg wX0_init_0 (j := 35) (n := 42) rfl)
theorem dX0_init_36 : decode cX0_init 36 = .ok (.getfield 9, 3) := dq_180 (hz_wg wX0_init_0 (j := 36) (n := 180) rfl) (hz_wg wX0_init_0 (j := 37) (n := 0) rfl) (hz_wg wX0_init_0 (j := 38) (n := 9) rfl) rfl
theorem dX0_init_39 : decode cX0_init 39 = .ok (.iconst 0, 1) := dq_3 (hz_wg wX0_init_0 (j := 39) (n := 3) rfl)
theorem dX0_init_40 : decode cX0_init 40 = .ok (.bipush 14, 2) := dq_16 (hz_wg wX0_init_0 (j := 40) (n := 16) rfl) (hz_wg wX0_init_0 (j := 41) (n := 14) rfl) (by decide)
theorem dX0_init_42 : decode cX0_init 42 = .ok (.invokestatic 28, 3) := dq_184 (hz_wg wX0_init_0 (j := 42) (n := 184) rfl) (hz_wg wX0_init_0 (j := 43) (n := 0) rfl) (hz_wg wX0_init_0 (j := 44) (n := 28) rfl) rfl
theorem dX0_init_45 : decode cX0_init 45 = .ok (.aload_n 0, 1) := dq_42 (hz_wg wX0_init_0 (j := 45) (n := 42) rfl)
theorem dX0_init_46 : decode cX0_init 46 = .ok (.getfield 15, 3) := dq_180 (hz_wg wX0_init_0 (j := 46) (n := 180) rfl) (hz_wg wX0_init_0 (j := 47) (n := 0) rfl) (hz_wg wX0_init_0 (j := 48) (n := 15) rfl) rfl
theorem dX0_init_49 : decode cX0_init 49 = .ok (.iconst 0, 1) := dq_3 (hz_wg wX0_init_0 (j := 49) (n := 3) rfl)
theorem dX0_init_50 : decode cX0_init 50 = .ok (.iconst 0, 1) := dq_3 (hz_wg wX0_init_0 (j := 50) (n := 3) rfl)
theorem dX0_init_51 : decode cX0_init 51 = .ok (.iconst 2, 1) := dq_5 (hz_wg wX0_init_0 (j := 51) (n := 5) rfl)
theorem dX0_init_52 : decode cX0_init 52 = .ok (.iconst 0, 1) := dq_3 (hz_wg wX0_init_0 (j := 52) (n := 3) rfl)
theorem dX0_init_53 : decode cX0_init 53 = .ok (.iconst 1, 1) := dq_4 (hz_wg wX0_init_0 (j := 53) (n := 4) rfl)
theorem dX0_init_54 : decode cX0_init 54 = .ok (.invokestatic 34, 3) := dq_184 (hz_wg wX0_init_0 (j := 54) (n := 184) rfl) (hz_wg wX0_init_0 (j := 55) (n := 0) rfl) (hz_wg wX0_init_0 (j := 56) (n := 34) rfl) rfl
theorem dX0_init_57 : decode cX0_init 57 = .ok (.iastore, 1) := dq_79 (hz_wg wX0_init_0 (j := 57) (n := 79) rfl)
theorem dX0_init_58 : decode cX0_init 58 = .ok (.aload_n 0, 1) := dq_42 (hz_wg wX0_init_0 (j := 58) (n := 42) rfl)
theorem dX0_init_59 : decode cX0_init 59 = .ok (.getfield 15, 3) := dq_180 (hz_wg wX0_init_0 (j := 59) (n := 180) rfl) (hz_wg wX0_init_0 (j := 60) (n := 0) rfl) (hz_wg wX0_init_0 (j := 61) (n := 15) rfl) rfl
theorem dX0_init_62 : decode cX0_init 62 = .ok (.iconst 1, 1) := dq_4 (hz_wg wX0_init_0 (j := 62) (n := 4) rfl)
theorem dX0_init_63 : decode cX0_init 63 = .ok (.iconst 1, 1) := dq_4 (hz_wg wX0_init_0 (j := 63) (n := 4) rfl)
theorem dX0_init_64 : decode cX0_init 64 = .ok (.iconst 2, 1) := dq_5 (hz_wg wX0_init_1 (j := 0) (n := 5) rfl)
theorem dX0_init_65 : decode cX0_init 65 = .ok (.iconst 0, 1) := dq_3 (hz_wg wX0_init_1 (j := 1) (n := 3) rfl)
theorem dX0_init_66 : decode cX0_init 66 = .ok (.iconst 0, 1) := dq_3 (hz_wg wX0_init_1 (j := 2) (n := 3) rfl)
theorem dX0_init_67 : decode cX0_init 67 = .ok (.invokestatic 34, 3) := dq_184 (hz_wg wX0_init_1 (j := 3) (n := 184) rfl) (hz_wg wX0_init_1 (j := 4) (n := 0) rfl) (hz_wg wX0_init_1 (j := 5) (n := 34) rfl) rfl
theorem dX0_init_70 : decode cX0_init 70 = .ok (.iastore, 1) := dq_79 (hz_wg wX0_init_1 (j := 6) (n := 79) rfl)
theorem dX0_init_71 : decode cX0_init 71 = .ok (.aload_n 0, 1) := dq_42 (hz_wg wX0_init_1 (j := 7) (n := 42) rfl)
theorem dX0_init_72 : decode cX0_init 72 = .ok (.getfield 15, 3) := dq_180 (hz_wg wX0_init_1 (j := 8) (n := 180) rfl) (hz_wg wX0_init_1 (j := 9) (n := 0) rfl) (hz_wg wX0_init_1 (j := 10) (n := 15) rfl) rfl
theorem dX0_init_75 : decode cX0_init 75 = .ok (.iconst 2, 1) := dq_5 (hz_wg wX0_init_1 (j := 11) (n := 5) rfl)
theorem dX0_init_76 : decode cX0_init 76 = .ok (.iconst (-1), 1) := dq_2 (hz_wg wX0_init_1 (j := 12) (n := 2) rfl)
theorem dX0_init_77 : decode cX0_init 77 = .ok (.iastore, 1) := dq_79 (hz_wg wX0_init_1 (j := 13) (n := 79) rfl)
theorem dX0_init_78 : decode cX0_init 78 = .ok (.aload_n 0, 1) := dq_42 (hz_wg wX0_init_1 (j := 14) (n := 42) rfl)
theorem dX0_init_79 : decode cX0_init 79 = .ok (.iconst 3, 1) := dq_6 (hz_wg wX0_init_1 (j := 15) (n := 6) rfl)
theorem dX0_init_80 : decode cX0_init 80 = .ok (.putfield 38, 3) := dq_181 (hz_wg wX0_init_1 (j := 16) (n := 181) rfl) (hz_wg wX0_init_1 (j := 17) (n := 0) rfl) (hz_wg wX0_init_1 (j := 18) (n := 38) rfl) rfl
theorem dX0_init_83 : decode cX0_init 83 = .ok (.return_, 1) := dq_177 (hz_wg wX0_init_1 (j := 19) (n := 177) rfl)
set_option maxHeartbeats 4000000 in
set_option maxRecDepth 100000 in
theorem t_X0_init (l : Launch) (dC : Nat → ClassId) (dI : Nat → Nat → Nat) (dA : Nat → ClassId) (L : List Nat) (h : hx_h) (sz : Nat) (b0 : hx_z) (x : Nat) (i1 : Int32) (i2 : Int32) (hT : hx_T T_tb L h) (gx : hx_g L h x 116) (hz : ∀ j, h.2.1 x j = 0 ∧ h.2.2 x j = none) (hi1 : -1 ≤ i1.toInt ∧ i1.toInt ≤ 7) (hi2 : -1 ≤ i2.toInt ∧ i2.toInt ≤ 7999) : Met l yX0_init (Cond.code yX0_init cX0_init 3 none :: hx_all) ({ frames := 1, cells := 2, slots := 174, locals := 40 }) (va_Pc [.ref x, .int i1, .int i2] (hx_BX T_tb (P_ty dA) (dC, dI) vwCl L h sz b0)) (va_Qv (fun (u : List Nat × hx_h) => hx_T T_tb u.1 u.2 ∧ hx_S T_tb [(11, 0), (12, 0), (116, 0), (116, 1), (116, 2), (116, 3), (116, 4)] (hx_X L x) h u.1 u.2 ∧ hx_g u.1 u.2 x 0) (hx_E T_tb (P_ty dA) (dC, dI) vwCl (hx_A L sz)) (hx_A L sz)) 2 174 (hx_A L sz) := by
  refine hx_metX (lv := [(0, .ref x), (1, .int i1), (2, .int i2)]) (by decide +kernel) rfl (Nat.le_of_ble_eq_true rfl) rfl ?_
  intro p e s m below meth c hx hb hml hr hlk hts0 hown hin hsz hW hZ ls hl
  have hts : ∀ w ∈ hx_all, w.before _ s = true := fun w hw => hts0 w (List.mem_cons_of_mem _ hw)
  have hown : s.vm.findClass "SmallCourt$Act" = some m.cls := hown
  have hin : meth.name = "<init>" := hin
  have hM : hx_S T_tb [(11, 0), (12, 0), (116, 0), (116, 1), (116, 2), (116, 3), (116, 4)] (hx_X L x) h L h := hx_SX_rf
  have hz : ∀ j, ([] : List Nat).contains j = false → h.2.1 x j = 0 ∧ h.2.2 x j = none := fun j _ => hz j
  refine lv_aload_n hx hb dX0_init_0 rfl (lv_at hl 0 rfl) ?_
  refine W.objInit hx hb hown (hts _ kw_153) (hts _ kw_117) (hts _ kw_118) rfl (by rw [hml]; exact hl.1) rfl dX0_init_1 (Nat.le_of_ble_eq_true rfl) (Nat.le_of_ble_eq_true rfl) ?_
  refine W.eq (g2 := F0 m 4 ls []) rfl ?_
  refine lv_aload_n hx hb dX0_init_4 rfl (lv_at hl 0 rfl) ?_
  refine lv_bipush (v := 14) hx hb dX0_init_5 (by decide) ?_
  refine hk_newa hx hb hts hW 11 tt_11 (atype := .int) rfl kw_186 (tys := P_ty dA) (t0 := 0) rfl (fun _ => Iff.rfl) rfl (i := (14 : Int32)) (by decide) (Nat.le_of_ble_eq_true rfl) (Nat.le_of_ble_eq_true rfl) (Nat.le_of_ble_eq_true rfl) dX0_init_7 (fun q_2 H h_1 eh_1 hqq_2 hW hs gq_2 => ?_)
  have nq_q_2 : ∀ a ∈ (hx_X L x), a ≠ q_2 := fun a ha z => hqq_2 (z ▸ (hM.1 a ha).1)
  have hT : hx_T T_tb (L ++ [q_2]) h_1 := by rw [eh_1]; exact hx_T_nw hT hqq_2 tt_11 rfl
  replace hz := hx_zr [] hz hs gx trivial rfl
  replace hM := hM.tr (hs.mono (by decide))
  replace gx := gx.S hs
  refine hx_putrF hx hb hts hC_0 hown hW hT (hx_S.rf (M := [(116, 2)])) gx tt_116 2 (by decide) rfl kw_166 ⟨rfl, rfl, rfl⟩ rfl hin rfl (x := (some q_2)) ⟨fun _ z => (by cases z), fun q hq => (by cases hq; exact ⟨gq_2.1, by rw [gq_2.2]; decide⟩)⟩ rfl rfl rfl (List.mem_singleton.mpr rfl) dX0_init_9 (fun H locs h_3 eh_3 hW hT hs => ?_)
  replace hz := hx_zr [2] hz hs gx trivial rfl
  replace hM := hM.tr (hs.mono (by decide))
  replace gx := gx.S hs
  replace gq_2 := gq_2.S hs
  have f_4 : h_3.2.2 x 2 = (some q_2) := by rw [eh_3]; exact hx_pr_at _ _ _ _
  refine lv_aload_n hx hb dX0_init_12 rfl (lv_at hl 0 rfl) ?_
  refine lv_sipush (v := 160) hx hb dX0_init_13 (by decide) ?_
  refine hk_newa hx hb hts hW 12 tt_12 (atype := .int) rfl kw_186 (tys := P_ty dA) (t0 := 0) rfl (fun _ => Iff.rfl) rfl (i := (160 : Int32)) (by decide) (Nat.le_of_ble_eq_true rfl) (Nat.le_of_ble_eq_true rfl) (Nat.le_of_ble_eq_true rfl) dX0_init_16 (fun q_6 H h_5 eh_5 hqq_6 hW hs gq_6 => ?_)
  have nq_q_6 : ∀ a ∈ (hx_X L x), a ≠ q_6 := fun a ha z => hqq_6 (z ▸ (hM.1 a ha).1)
  have hT : hx_T T_tb ((L ++ [q_2]) ++ [q_6]) h_5 := by rw [eh_5]; exact hx_T_nw hT hqq_6 tt_12 rfl
  replace f_4 := (hs.o gx trivial rfl).2.trans f_4
  replace hz := hx_zr [2] hz hs gx trivial rfl
  replace hM := hM.tr (hs.mono (by decide))
  replace gx := gx.S hs
  replace gq_2 := gq_2.S hs
  refine hx_putrF hx hb hts hC_0 hown hW hT (hx_S.rf (M := [(116, 3)])) gx tt_116 3 (by decide) rfl kw_172 ⟨rfl, rfl, rfl⟩ rfl hin rfl (x := (some q_6)) ⟨fun _ z => (by cases z), fun q hq => (by cases hq; exact ⟨gq_6.1, by rw [gq_6.2]; decide⟩)⟩ rfl rfl rfl (List.mem_singleton.mpr rfl) dX0_init_18 (fun H locs h_7 eh_7 hW hT hs => ?_)
  replace f_4 := (hs.o gx trivial rfl).2.trans f_4
  replace hz := hx_zr [2, 3] hz hs gx trivial rfl
  replace hM := hM.tr (hs.mono (by decide))
  replace gx := gx.S hs
  replace gq_2 := gq_2.S hs
  replace gq_6 := gq_6.S hs
  have f_8 : h_7.2.2 x 3 = (some q_6) := by rw [eh_7]; exact hx_pr_at _ _ _ _
  refine lv_aload_n hx hb dX0_init_21 rfl (lv_at hl 0 rfl) ?_
  refine lv_iload_n hx hb dX0_init_22 rfl (lv_at hl 1 rfl) ?_
  refine hx_putiF hx hb hts hC_0 hown hW hT (hx_S.rf (M := [(116, 0)])) gx tt_116 0 (by decide) rfl kw_162 ⟨rfl, rfl, rfl⟩ rfl hin rfl (x := i1) ⟨by omega, by omega⟩ rfl rfl rfl (List.mem_singleton.mpr rfl) dX0_init_23 (fun H locs h_9 eh_9 hW hT hs => ?_)
  replace f_4 := (hs.o gx trivial rfl).2.trans f_4
  replace f_8 := (hs.o gx trivial rfl).2.trans f_8
  replace hz := hx_zr [0, 2, 3] hz hs gx trivial rfl
  replace hM := hM.tr (hs.mono (by decide))
  replace gx := gx.S hs
  replace gq_2 := gq_2.S hs
  replace gq_6 := gq_6.S hs
  have f_10 : h_9.2.1 x 0 = i1 := by rw [eh_9]; exact hx_pi_at _ _ _ _
  refine lv_aload_n hx hb dX0_init_26 rfl (lv_at hl 0 rfl) ?_
  refine lv_iload_n hx hb dX0_init_27 rfl (lv_at hl 2 rfl) ?_
  refine hx_putiF hx hb hts hC_0 hown hW hT (hx_S.rf (M := [(116, 1)])) gx tt_116 1 (by decide) rfl kw_164 ⟨rfl, rfl, rfl⟩ rfl hin rfl (x := i2) ⟨by omega, by omega⟩ rfl rfl rfl (List.mem_singleton.mpr rfl) dX0_init_28 (fun H locs h_11 eh_11 hW hT hs => ?_)
  replace f_4 := (hs.o gx trivial rfl).2.trans f_4
  replace f_8 := (hs.o gx trivial rfl).2.trans f_8
  replace f_10 := (hs.o gx trivial rfl).1.trans f_10
  replace hz := hx_zr [0, 1, 2, 3] hz hs gx trivial rfl
  replace hM := hM.tr (hs.mono (by decide))
  replace gx := gx.S hs
  replace gq_2 := gq_2.S hs
  replace gq_6 := gq_6.S hs
  have f_12 : h_11.2.1 x 1 = i2 := by rw [eh_11]; exact hx_pi_at _ _ _ _
  refine va_getsN hx hb hZ.2.2.1 hW.2.2.2.1 hown (va_Nw.use rfl (hZ.1 _ (List.mem_of_getElem? (i := 1) rfl))) (fun _ h9 => h9) dX0_init_31 ?_
  refine lv_iconst (v := 0) hx hb dX0_init_34 (by decide) ?_
  refine lv_aload_n hx hb dX0_init_35 rfl (lv_at hl 0 rfl) ?_
  refine hk_getr hx hb hts hC_0 hown hW gx tt_116 2 (by decide) rfl kw_166 ⟨rfl, rfl, rfl⟩ f_4 dX0_init_36 ?_
  refine lv_iconst (v := 0) hx hb dX0_init_39 (by decide) ?_
  refine lv_bipush (v := 14) hx hb dX0_init_40 (by decide) ?_
  refine hk_copyx hx hb (hml.trans hl.1.symm) hown (hts _ kw_156) (hts _ kw_158) (hts _ kw_157) (hts _ kw_97) hW hZ.2.2.2.1 hZ.2.2.2.2.1 hZ.2.2.2.2.2.1 gq_2 tt_11 rfl (by decide) rfl rfl (by decide) (Nat.le_of_ble_eq_true rfl) (Nat.le_of_ble_eq_true rfl) dX0_init_42 (fun H locs h_13 fa_14 hW hs => ?_)
  have hT := hx_T_full hT hs tt_11
  replace f_4 := (hs.o gx trivial rfl).2.trans f_4
  replace f_8 := (hs.o gx trivial rfl).2.trans f_8
  replace f_10 := (hs.o gx trivial rfl).1.trans f_10
  replace f_12 := (hs.o gx trivial rfl).1.trans f_12
  replace hz := hx_zr [0, 1, 2, 3] hz hs gx trivial rfl
  replace hM := hM.tr (hs.mono (by decide))
  replace gx := gx.S hs
  replace gq_2 := gq_2.S hs
  replace gq_6 := gq_6.S hs
  refine lv_aload_n hx hb dX0_init_45 rfl (lv_at hl 0 rfl) ?_
  refine hk_getr hx hb hts hC_0 hown hW gx tt_116 3 (by decide) rfl kw_172 ⟨rfl, rfl, rfl⟩ f_8 dX0_init_46 ?_
  refine lv_iconst (v := 0) hx hb dX0_init_49 (by decide) ?_
  refine lv_iconst (v := 0) hx hb dX0_init_50 (by decide) ?_
  refine lv_iconst (v := 2) hx hb dX0_init_51 (by decide) ?_
  refine lv_iconst (v := 0) hx hb dX0_init_52 (by decide) ?_
  refine lv_iconst (v := 1) hx hb dX0_init_53 (by decide) ?_
  have zc_1 : (1 : Int32).toInt = 1 := by decide
  have zc_0 : (0 : Int32).toInt = 0 := by decide
  have zc_2 : (2 : Int32).toInt = 2 := by decide
  refine hx_goi (hx_runS (As := [.int (0 : Int32), .int (2 : Int32), .int (0 : Int32), .int (1 : Int32)]) (rest := [.int (0 : Int32), .ref q_6]) ⟨hx, hb, hml, hown, hts⟩ hW (t_X0_term l dC dI dA ((L ++ [q_2]) ++ [q_6]) h_13 H.size (0 : Int32) (2 : Int32) (0 : Int32) (1 : Int32) hT) (va_cwS 4 hts (hx_gS kw_161 kw_159 kw_160 kw_96) rfl rfl rfl (by decide +kernel) ⟨Nat.le_of_ble_eq_true rfl, Nat.le_of_ble_eq_true rfl⟩) rfl hl.1 rfl (Nat.le_of_ble_eq_true rfl) dX0_init_54 ⟨Nat.le_of_ble_eq_true rfl, Nat.le_of_ble_eq_true rfl⟩) hW (fun r_17 L_15 h_16 H locs p_18 hW => ?_)
  obtain ⟨hr_19, hT, hs⟩ := p_18
  replace hT : hx_T T_tb L_15 h_16 := hT
  replace hs : hx_S T_tb [] ((L ++ [q_2]) ++ [q_6]) h_13 L_15 h_16 := hs
  replace f_4 := (hs.o gx trivial rfl).2.trans f_4
  replace f_8 := (hs.o gx trivial rfl).2.trans f_8
  replace f_10 := (hs.o gx trivial rfl).1.trans f_10
  replace f_12 := (hs.o gx trivial rfl).1.trans f_12
  replace hz := hx_zr [0, 1, 2, 3] hz hs gx trivial rfl
  replace hM := hM.tr (hs.mono (by decide))
  replace gx := gx.S hs
  replace gq_2 := gq_2.S hs
  replace gq_6 := gq_6.S hs
  refine hx_iast hx hb hW hT (hx_S.rf (M := [(12, 0)])) gq_6 tt_12 rfl (by decide) rfl (i32_r _) (List.mem_singleton.mpr rfl) dX0_init_57 (fun H locs h_20 eh_20 hW hT hs => ?_)
  replace f_4 := (hs.o gx trivial rfl).2.trans f_4
  replace f_8 := (hs.o gx trivial rfl).2.trans f_8
  replace f_10 := (hs.o gx trivial rfl).1.trans f_10
  replace f_12 := (hs.o gx trivial rfl).1.trans f_12
  replace hz := hx_zr [0, 1, 2, 3] hz hs gx trivial rfl
  replace hM := hM.tr (hs.mono (by decide))
  replace gx := gx.S hs
  replace gq_2 := gq_2.S hs
  replace gq_6 := gq_6.S hs
  refine lv_aload_n hx hb dX0_init_58 rfl (lv_at hl 0 rfl) ?_
  refine hk_getr hx hb hts hC_0 hown hW gx tt_116 3 (by decide) rfl kw_172 ⟨rfl, rfl, rfl⟩ f_8 dX0_init_59 ?_
  refine lv_iconst (v := 1) hx hb dX0_init_62 (by decide) ?_
  refine lv_iconst (v := 1) hx hb dX0_init_63 (by decide) ?_
  refine lv_iconst (v := 2) hx hb dX0_init_64 (by decide) ?_
  refine lv_iconst (v := 0) hx hb dX0_init_65 (by decide) ?_
  refine lv_iconst (v := 0) hx hb dX0_init_66 (by decide) ?_
  refine hx_goi (hx_runS (As := [.int (1 : Int32), .int (2 : Int32), .int (0 : Int32), .int (0 : Int32)]) (rest := [.int (1 : Int32), .ref q_6]) ⟨hx, hb, hml, hown, hts⟩ hW (t_X0_term l dC dI dA L_15 h_20 H.size (1 : Int32) (2 : Int32) (0 : Int32) (0 : Int32) hT) (va_cwS 4 hts (hx_gS kw_161 kw_159 kw_160 kw_96) rfl rfl rfl (by decide +kernel) ⟨Nat.le_of_ble_eq_true rfl, Nat.le_of_ble_eq_true rfl⟩) rfl hl.1 rfl (Nat.le_of_ble_eq_true rfl) dX0_init_67 ⟨Nat.le_of_ble_eq_true rfl, Nat.le_of_ble_eq_true rfl⟩) hW (fun r_23 L_21 h_22 H locs p_24 hW => ?_)
  obtain ⟨hr_25, hT, hs⟩ := p_24
  replace hT : hx_T T_tb L_21 h_22 := hT
  replace hs : hx_S T_tb [] L_15 h_20 L_21 h_22 := hs
  replace f_4 := (hs.o gx trivial rfl).2.trans f_4
  replace f_8 := (hs.o gx trivial rfl).2.trans f_8
  replace f_10 := (hs.o gx trivial rfl).1.trans f_10
  replace f_12 := (hs.o gx trivial rfl).1.trans f_12
  replace hz := hx_zr [0, 1, 2, 3] hz hs gx trivial rfl
  replace hM := hM.tr (hs.mono (by decide))
  replace gx := gx.S hs
  replace gq_2 := gq_2.S hs
  replace gq_6 := gq_6.S hs
  refine hx_iast hx hb hW hT (hx_S.rf (M := [(12, 0)])) gq_6 tt_12 rfl (by decide) rfl (i32_r _) (List.mem_singleton.mpr rfl) dX0_init_70 (fun H locs h_26 eh_26 hW hT hs => ?_)
  replace f_4 := (hs.o gx trivial rfl).2.trans f_4
  replace f_8 := (hs.o gx trivial rfl).2.trans f_8
  replace f_10 := (hs.o gx trivial rfl).1.trans f_10
  replace f_12 := (hs.o gx trivial rfl).1.trans f_12
  replace hz := hx_zr [0, 1, 2, 3] hz hs gx trivial rfl
  replace hM := hM.tr (hs.mono (by decide))
  replace gx := gx.S hs
  replace gq_2 := gq_2.S hs
  replace gq_6 := gq_6.S hs
  refine lv_aload_n hx hb dX0_init_71 rfl (lv_at hl 0 rfl) ?_
  refine hk_getr hx hb hts hC_0 hown hW gx tt_116 3 (by decide) rfl kw_172 ⟨rfl, rfl, rfl⟩ f_8 dX0_init_72 ?_
  refine lv_iconst (v := 2) hx hb dX0_init_75 (by decide) ?_
  refine lv_iconst (v := -1) hx hb dX0_init_76 (by decide) ?_
  refine hx_iast hx hb hW hT (hx_S.rf (M := [(12, 0)])) gq_6 tt_12 rfl (by decide) rfl (by decide) (List.mem_singleton.mpr rfl) dX0_init_77 (fun H locs h_27 eh_27 hW hT hs => ?_)
  replace f_4 := (hs.o gx trivial rfl).2.trans f_4
  replace f_8 := (hs.o gx trivial rfl).2.trans f_8
  replace f_10 := (hs.o gx trivial rfl).1.trans f_10
  replace f_12 := (hs.o gx trivial rfl).1.trans f_12
  replace hz := hx_zr [0, 1, 2, 3] hz hs gx trivial rfl
  replace hM := hM.tr (hs.mono (by decide))
  replace gx := gx.S hs
  replace gq_2 := gq_2.S hs
  replace gq_6 := gq_6.S hs
  refine lv_aload_n hx hb dX0_init_78 rfl (lv_at hl 0 rfl) ?_
  refine lv_iconst (v := 3) hx hb dX0_init_79 (by decide) ?_
  refine hx_puti hx hb hts hC_0 hown hW hT (hx_S.rf (M := [(116, 4)])) gx tt_116 4 (by decide) rfl kw_173 ⟨rfl, rfl, rfl⟩ rfl (x := (3 : Int32)) (by decide) rfl rfl rfl (List.mem_singleton.mpr rfl) dX0_init_80 (fun H locs h_28 eh_28 hW hT hs => ?_)
  replace f_4 := (hs.o gx trivial rfl).2.trans f_4
  replace f_8 := (hs.o gx trivial rfl).2.trans f_8
  replace f_10 := (hs.o gx trivial rfl).1.trans f_10
  replace f_12 := (hs.o gx trivial rfl).1.trans f_12
  replace hz := hx_zr [0, 1, 2, 3, 4] hz hs gx trivial rfl
  replace hM := hM.tr (hs.mono (by decide))
  replace gx := gx.S hs
  replace gq_2 := gq_2.S hs
  replace gq_6 := gq_6.S hs
  have f_29 : h_28.2.1 x 4 = (3 : Int32) := by rw [eh_28]; exact hx_pi_at _ _ _ _
  have hF : hx_F (fun k f => hx_o L_21 h_28 f (h_28.2.1 x k) (h_28.2.2 x k)) T_f0 0 := ⟨hx_oi f_10 ⟨by omega, by omega⟩, hx_oi f_12 ⟨by omega, by omega⟩, hx_or f_4 gq_2 (by decide), hx_or f_8 gq_6 (by decide), hx_oi f_29 (by decide), trivial⟩
  have hT := hx_T_rt hT gx tt_0 rfl (hx_F_all hF)
  have hW := hx_W_rt hW gx tt_116 tt_0 (fun _ _ => rfl)
  have hM := hx_SX_rt (x := x) (t := 0) hM
  have gq_2 := hx_rt_o (t := 0) gq_2 (gq_2.ne gx (by decide))
  have gq_6 := hx_rt_o (t := 0) gq_6 (gq_6.ne gx (by decide))
  have gx := hx_rt_g (t := 0) gx
  have f_4 : (hx_rt h_28 x 0).2.2 x 2 = some q_2 := f_4
  have f_8 : (hx_rt h_28 x 0).2.2 x 3 = some q_6 := f_8
  have f_10 : (hx_rt h_28 x 0).2.1 x 0 = i1 := f_10
  have f_12 : (hx_rt h_28 x 0).2.1 x 1 = i2 := f_12
  have f_29 : (hx_rt h_28 x 0).2.1 x 4 = (3 : Int32) := f_29
  generalize eh : hx_rt h_28 x 0 = h_30 at hT hW hM gx gq_2 gq_6 f_4 f_8 f_10 f_12 f_29
  refine W.widen (k := 2) (n := 174) (Nat.le_of_ble_eq_true rfl) (Nat.le_of_ble_eq_true rfl) ?_
  exact hx_retv hx hb hr hlk hW ⟨hT, hM, gx⟩ dX0_init_83
