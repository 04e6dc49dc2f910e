def wNX10_habits : Nat := 2092066042974856502037152827752837385431568859046397840040063598662589567915805445260810604744575320945812096855754209869600735037417875587565345901934313789434495281804855562135904097479232999557609602515943831016275088357823533424505266583739094837139874442168513477834613781989900857544040109392186835967170380586
theorem wX10_habits_c : hz_cd cX10_habits wNX10_habits 131 := ⟨by decide +kernel, by decide +kernel⟩
theorem dX10_habits_0 : decode cX10_habits 0 = .ok (.aload_n 0, 1) := dw_42 wX10_habits_c rfl
theorem dX10_habits_1 : decode cX10_habits 1 = .ok (.iconst 0, 1) := dw_3 wX10_habits_c rfl
theorem dX10_habits_2 : decode cX10_habits 2 = .ok (.putfield 481, 3) := dw_181 wX10_habits_c 1 225 rfl rfl
theorem dX10_habits_5 : decode cX10_habits 5 = .ok (.aload_n 0, 1) := dw_42 wX10_habits_c rfl
theorem dX10_habits_6 : decode cX10_habits 6 = .ok (.iconst 0, 1) := dw_3 wX10_habits_c rfl
theorem dX10_habits_7 : decode cX10_habits 7 = .ok (.putfield 484, 3) := dw_181 wX10_habits_c 1 228 rfl rfl
theorem dX10_habits_10 : decode cX10_habits 10 = .ok (.aload_n 0, 1) := dw_42 wX10_habits_c rfl
theorem dX10_habits_11 : decode cX10_habits 11 = .ok (.getfield 392, 3) := dw_180 wX10_habits_c 1 136 rfl rfl
theorem dX10_habits_14 : decode cX10_habits 14 = .ok (.iconst 1, 1) := dw_4 wX10_habits_c rfl
theorem dX10_habits_15 : decode cX10_habits 15 = .ok (.isub, 1) := dw_100 wX10_habits_c rfl
theorem dX10_habits_16 : decode cX10_habits 16 = .ok (.istore_n 2, 1) := dw_61 wX10_habits_c rfl
theorem dX10_habits_17 : decode cX10_habits 17 = .ok (.iload_n 2, 1) := dw_28 wX10_habits_c rfl
theorem dX10_habits_18 : decode cX10_habits 18 = .ok (.ifCond .lt 112, 3) := dw_155 wX10_habits_c 0 112 rfl rfl rfl
theorem dX10_habits_21 : decode cX10_habits 21 = .ok (.aload_n 0, 1) := dw_42 wX10_habits_c rfl
theorem dX10_habits_22 : decode cX10_habits 22 = .ok (.getfield 481, 3) := dw_180 wX10_habits_c 1 225 rfl rfl
theorem dX10_habits_25 : decode cX10_habits 25 = .ok (.bipush 60, 2) := dw_16 wX10_habits_c 60 rfl rfl rfl
theorem dX10_habits_27 : decode cX10_habits 27 = .ok (.if_icmp .ge 103, 3) := dw_162 wX10_habits_c 0 103 rfl rfl rfl
theorem dX10_habits_30 : decode cX10_habits 30 = .ok (.aload_n 0, 1) := dw_42 wX10_habits_c rfl
theorem dX10_habits_31 : decode cX10_habits 31 = .ok (.getfield 141, 3) := dw_180 wX10_habits_c 0 141 rfl rfl
theorem dX10_habits_34 : decode cX10_habits 34 = .ok (.iload_n 2, 1) := dw_28 wX10_habits_c rfl
theorem dX10_habits_35 : decode cX10_habits 35 = .ok (.iaload, 1) := dw_46 wX10_habits_c rfl
theorem dX10_habits_36 : decode cX10_habits 36 = .ok (.istore_n 3, 1) := dw_62 wX10_habits_c rfl
theorem dX10_habits_37 : decode cX10_habits 37 = .ok (.aload_n 0, 1) := dw_42 wX10_habits_c rfl
theorem dX10_habits_38 : decode cX10_habits 38 = .ok (.getfield 123, 3) := dw_180 wX10_habits_c 0 123 rfl rfl
theorem dX10_habits_41 : decode cX10_habits 41 = .ok (.iload_n 3, 1) := dw_29 wX10_habits_c rfl
theorem dX10_habits_42 : decode cX10_habits 42 = .ok (.iaload, 1) := dw_46 wX10_habits_c rfl
theorem dX10_habits_43 : decode cX10_habits 43 = .ok (.iconst 4, 1) := dw_7 wX10_habits_c rfl
theorem dX10_habits_44 : decode cX10_habits 44 = .ok (.if_icmp .lt 80, 3) := dw_161 wX10_habits_c 0 80 rfl rfl rfl
theorem dX10_habits_47 : decode cX10_habits 47 = .ok (.aload_n 0, 1) := dw_42 wX10_habits_c rfl
theorem dX10_habits_48 : decode cX10_habits 48 = .ok (.getfield 126, 3) := dw_180 wX10_habits_c 0 126 rfl rfl
theorem dX10_habits_51 : decode cX10_habits 51 = .ok (.iconst 3, 1) := dw_6 wX10_habits_c rfl
theorem dX10_habits_52 : decode cX10_habits 52 = .ok (.iload_n 3, 1) := dw_29 wX10_habits_c rfl
theorem dX10_habits_53 : decode cX10_habits 53 = .ok (.imul, 1) := dw_104 wX10_habits_c rfl
theorem dX10_habits_54 : decode cX10_habits 54 = .ok (.iaload, 1) := dw_46 wX10_habits_c rfl
theorem dX10_habits_55 : decode cX10_habits 55 = .ok (.iload_n 1, 1) := dw_27 wX10_habits_c rfl
theorem dX10_habits_56 : decode cX10_habits 56 = .ok (.if_icmp .eq 34, 3) := dw_159 wX10_habits_c 0 34 rfl rfl rfl
theorem dX10_habits_59 : decode cX10_habits 59 = .ok (.aload_n 0, 1) := dw_42 wX10_habits_c rfl
theorem dX10_habits_60 : decode cX10_habits 60 = .ok (.getfield 126, 3) := dw_180 wX10_habits_c 0 126 rfl rfl
theorem dX10_habits_63 : decode cX10_habits 63 = .ok (.iconst 3, 1) := dw_6 wX10_habits_c rfl
theorem dX10_habits_64 : decode cX10_habits 64 = .ok (.iload_n 3, 1) := dw_29 wX10_habits_c rfl
theorem dX10_habits_65 : decode cX10_habits 65 = .ok (.imul, 1) := dw_104 wX10_habits_c rfl
theorem dX10_habits_66 : decode cX10_habits 66 = .ok (.iconst 1, 1) := dw_4 wX10_habits_c rfl
theorem dX10_habits_67 : decode cX10_habits 67 = .ok (.iadd, 1) := dw_96 wX10_habits_c rfl
theorem dX10_habits_68 : decode cX10_habits 68 = .ok (.iaload, 1) := dw_46 wX10_habits_c rfl
theorem dX10_habits_69 : decode cX10_habits 69 = .ok (.iload_n 1, 1) := dw_27 wX10_habits_c rfl
theorem dX10_habits_70 : decode cX10_habits 70 = .ok (.if_icmp .eq 20, 3) := dw_159 wX10_habits_c 0 20 rfl rfl rfl
theorem dX10_habits_73 : decode cX10_habits 73 = .ok (.aload_n 0, 1) := dw_42 wX10_habits_c rfl
theorem dX10_habits_74 : decode cX10_habits 74 = .ok (.getfield 126, 3) := dw_180 wX10_habits_c 0 126 rfl rfl
theorem dX10_habits_77 : decode cX10_habits 77 = .ok (.iconst 3, 1) := dw_6 wX10_habits_c rfl
theorem dX10_habits_78 : decode cX10_habits 78 = .ok (.iload_n 3, 1) := dw_29 wX10_habits_c rfl
theorem dX10_habits_79 : decode cX10_habits 79 = .ok (.imul, 1) := dw_104 wX10_habits_c rfl
theorem dX10_habits_80 : decode cX10_habits 80 = .ok (.iconst 2, 1) := dw_5 wX10_habits_c rfl
theorem dX10_habits_81 : decode cX10_habits 81 = .ok (.iadd, 1) := dw_96 wX10_habits_c rfl
theorem dX10_habits_82 : decode cX10_habits 82 = .ok (.iaload, 1) := dw_46 wX10_habits_c rfl
theorem dX10_habits_83 : decode cX10_habits 83 = .ok (.iload_n 1, 1) := dw_27 wX10_habits_c rfl
theorem dX10_habits_84 : decode cX10_habits 84 = .ok (.if_icmp .eq 6, 3) := dw_159 wX10_habits_c 0 6 rfl rfl rfl
theorem dX10_habits_87 : decode cX10_habits 87 = .ok (.goto 37, 3) := dw_167 wX10_habits_c 0 37 rfl rfl rfl
theorem dX10_habits_90 : decode cX10_habits 90 = .ok (.aload_n 0, 1) := dw_42 wX10_habits_c rfl
theorem dX10_habits_91 : decode cX10_habits 91 = .ok (.dup, 1) := dw_89 wX10_habits_c rfl
theorem dX10_habits_92 : decode cX10_habits 92 = .ok (.getfield 481, 3) := dw_180 wX10_habits_c 1 225 rfl rfl
theorem dX10_habits_95 : decode cX10_habits 95 = .ok (.iconst 1, 1) := dw_4 wX10_habits_c rfl
theorem dX10_habits_96 : decode cX10_habits 96 = .ok (.iadd, 1) := dw_96 wX10_habits_c rfl
theorem dX10_habits_97 : decode cX10_habits 97 = .ok (.putfield 481, 3) := dw_181 wX10_habits_c 1 225 rfl rfl
theorem dX10_habits_100 : decode cX10_habits 100 = .ok (.aload_n 0, 1) := dw_42 wX10_habits_c rfl
theorem dX10_habits_101 : decode cX10_habits 101 = .ok (.dup, 1) := dw_89 wX10_habits_c rfl
theorem dX10_habits_102 : decode cX10_habits 102 = .ok (.getfield 484, 3) := dw_180 wX10_habits_c 1 228 rfl rfl
theorem dX10_habits_105 : decode cX10_habits 105 = .ok (.aload_n 0, 1) := dw_42 wX10_habits_c rfl
theorem dX10_habits_106 : decode cX10_habits 106 = .ok (.getfield 123, 3) := dw_180 wX10_habits_c 0 123 rfl rfl
theorem dX10_habits_109 : decode cX10_habits 109 = .ok (.iload_n 3, 1) := dw_29 wX10_habits_c rfl
theorem dX10_habits_110 : decode cX10_habits 110 = .ok (.iaload, 1) := dw_46 wX10_habits_c rfl
theorem dX10_habits_111 : decode cX10_habits 111 = .ok (.iconst 5, 1) := dw_8 wX10_habits_c rfl
theorem dX10_habits_112 : decode cX10_habits 112 = .ok (.if_icmp .ne 7, 3) := dw_160 wX10_habits_c 0 7 rfl rfl rfl
theorem dX10_habits_115 : decode cX10_habits 115 = .ok (.iconst 1, 1) := dw_4 wX10_habits_c rfl
theorem dX10_habits_116 : decode cX10_habits 116 = .ok (.goto 4, 3) := dw_167 wX10_habits_c 0 4 rfl rfl rfl
theorem dX10_habits_119 : decode cX10_habits 119 = .ok (.iconst 0, 1) := dw_3 wX10_habits_c rfl
theorem dX10_habits_120 : decode cX10_habits 120 = .ok (.iadd, 1) := dw_96 wX10_habits_c rfl
theorem dX10_habits_121 : decode cX10_habits 121 = .ok (.putfield 484, 3) := dw_181 wX10_habits_c 1 228 rfl rfl
theorem dX10_habits_124 : decode cX10_habits 124 = .ok (.iinc 2 (-1), 3) := dn_132 wX10_habits_c 2 255 rfl (by decide)
theorem dX10_habits_127 : decode cX10_habits 127 = .ok (.goto (-110), 3) := dn_167 wX10_habits_c 255 146 rfl (by decide)
theorem dX10_habits_130 : decode cX10_habits 130 = .ok (.return_, 1) := dw_177 wX10_habits_c rfl
set_option maxHeartbeats 4000000 in
set_option maxRecDepth 100000 in
theorem t_X10_habits (l : Launch) (dC : Nat → ClassId) (dI : Nat → Nat → Nat) (dA : Nat → ClassId) (L : List Nat) (h : hx_h) (sz : Nat) (x : Nat) (i1 : Int32) (hT : hx_T T_tb L h) (gx : hx_g L h x 10)  : Met l yX10_habits (Cond.code yX10_habits cX10_habits 4 none :: hx_all) ({ frames := 0, cells := 0, slots := 0, locals := 0 }) (va_Pc [.ref x, .int i1] (hx_B T_tb (P_ty dA) (dC, dI) vwCl L h sz)) (va_Qv (fun (u : List Nat × hx_h) => (∃ (hm1 : Int32) (hp1 : Int32), u.2.2.1 x 95 = hm1 ∧ u.2.2.1 x 96 = hp1 ∧ (hp1.toInt ≤ hm1.toInt)) ∧ hx_T T_tb u.1 u.2 ∧ hx_S T_tb [(10, 95), (10, 96)] L h u.1 u.2) (hx_E T_tb (P_ty dA) (dC, dI) vwCl (hx_A L sz)) (hx_A L sz)) 0 0 (hx_A L sz) := by
  refine hx_met (lv := [(0, .ref x), (1, .int i1)]) (by decide +kernel) rfl (Nat.le_of_ble_eq_true rfl) rfl ?_
  intro p e s m below meth c hx hb hml hr hlk hts0 hown hin hsz hW ls hl
  have hts : ∀ w ∈ hx_all, w.before _ s = true := fun w hw => hts0 w (List.mem_cons_of_mem _ hw)
  have hown : s.vm.findClass "SmallCourtModel" = some m.cls := hown
  have hM : hx_S T_tb [(10, 95), (10, 96)] L h L h := hx_S.rf
  refine lv_aload_n hx hb dX10_habits_0 rfl (lv_at hl 0 rfl) ?_
  refine lv_iconst (v := 0) hx hb dX10_habits_1 (by decide) ?_
  refine hx_puti hx hb hts hC_10 hown hW hT (hx_S.rf (M := [(10, 95)])) (gx.S hM) tt_10 95 (by decide) rfl kw_1238 ⟨rfl, rfl, rfl⟩ rfl (x := (0 : Int32)) (by decide) rfl rfl rfl (List.mem_singleton.mpr rfl) dX10_habits_2 (fun H locs h_1 eh_1 hW hT hs => ?_)
  replace hM := hM.tr (hs.mono (by decide))
  have f_2 : h_1.2.1 x 95 = (0 : Int32) := by rw [eh_1]; exact hx_pi_at _ _ _ _
  refine lv_aload_n hx hb dX10_habits_5 rfl (lv_at hl 0 rfl) ?_
  refine lv_iconst (v := 0) hx hb dX10_habits_6 (by decide) ?_
  refine hx_puti hx hb hts hC_10 hown hW hT (hx_S.rf (M := [(10, 96)])) (gx.S hM) tt_10 96 (by decide) rfl kw_1239 ⟨rfl, rfl, rfl⟩ rfl (x := (0 : Int32)) (by decide) rfl rfl rfl (List.mem_singleton.mpr rfl) dX10_habits_7 (fun H locs h_3 eh_3 hW hT hs => ?_)
  replace f_2 := (hs.o (gx.S hM) trivial rfl).1.trans f_2
  replace hM := hM.tr (hs.mono (by decide))
  have f_4 : h_3.2.1 x 96 = (0 : Int32) := by rw [eh_3]; exact hx_pi_at _ _ _ _
  refine lv_aload_n hx hb dX10_habits_10 rfl (lv_at hl 0 rfl) ?_
  refine hx_geti hx hb hts hC_10 hown hW hT (gx.S hM) tt_10 57 (by decide) rfl kw_1200 ⟨rfl, rfl, rfl⟩ dX10_habits_11 (fun x_5 ex_5 lx_5 ux_5 => ?_)
  have fx_5 := ex_5.symm
  refine lv_iconst (v := 1) hx hb dX10_habits_14 (by decide) ?_
  refine lv_isub hx hb dX10_habits_15 ?_
  have rg_6 := i32_r x_5
  refine lv_topi (fun x_7 ex_7 => ?_)
  have zx_7 : x_7.toInt = x_5.toInt - 1 := by rw [ex_7]; exact i32_sub rfl (by decide) (by omega) (by omega)
  refine lv_istore_n (lv' := [(2, .int x_7), (0, .ref x), (1, .int i1)]) hx hb dX10_habits_16 rfl hl (by decide) rfl (fun ls hl => ?_)
  have loop17 : ∀ (n17 : Nat) (iv17_2 fw17_x_95 fw17_x_96 : Int32) (H : Heap) (locs : List Loc) (hL1 : List Nat) (hl1 : hx_h), -1 ≤ iv17_2.toInt → iv17_2.toInt ≤ 99 → 0 ≤ fw17_x_95.toInt → fw17_x_95.toInt ≤ 60 → 0 ≤ fw17_x_96.toInt → fw17_x_96.toInt ≤ 60 → (fw17_x_96.toInt ≤ fw17_x_95.toInt) → ∀ (ls : Array Slot), iv17_2.toInt + 1 < (n17 : Int) → hx_W T_tb (P_ty dA) (dC, dI) vwCl (hx_A L sz) s.heap hL1 hl1 s H locs → hx_T T_tb hL1 hl1 → hx_S T_tb [(10, 95), (10, 96)] L h hL1 hl1 → hl1.2.1 x 95 = fw17_x_95 → hl1.2.1 x 96 = fw17_x_96 → hl1.2.1 x 57 = x_5 → lv_has ls 4 [(2, .int iv17_2), (0, .ref x), (1, .int i1)] → W p l e ({ frames := 0, cells := 0, slots := 0, locals := 0 }) s m ([.ref x, .int i1] : List Value).toArray below meth c H locs 0 0 (MQ below (va_Qv (fun (u : List Nat × hx_h) => (∃ (hm1 : Int32) (hp1 : Int32), u.2.2.1 x 95 = hm1 ∧ u.2.2.1 x 96 = hp1 ∧ (hp1.toInt ≤ hm1.toInt)) ∧ hx_T T_tb u.1 u.2 ∧ hx_S T_tb [(10, 95), (10, 96)] L h u.1 u.2) (hx_E T_tb (P_ty dA) (dC, dI) vwCl (hx_A L sz)) (hx_A L sz)) ([.ref x, .int i1] : List Value).toArray s 0 0 (hx_A L sz)) (F0 m 17 ls []) := by
    intro n17
    induction n17 with
    | zero => intro iv17_2 fw17_x_95 fw17_x_96 H locs hL1 hl1 bliv17_2 buiv17_2 blfw17_x_95 bufw17_x_95 blfw17_x_96 bufw17_x_96 vi17_0 ls hn17; exfalso; omega
    | succ n17 ih17 =>
      intro iv17_2 fw17_x_95 fw17_x_96 H locs hL1 hl1 bliv17_2 buiv17_2 blfw17_x_95 bufw17_x_95 blfw17_x_96 bufw17_x_96 vi17_0 ls hn17 hW hT hM ffw17_x_95 ffw17_x_96 fx_5  hl
      refine lv_iload_n hx hb dX10_habits_17 rfl (lv_at hl 0 rfl) ?_
      refine hb_if_lt (zx := iv17_2.toInt) (tgt := 130) hx hb rfl dX10_habits_18 (by decide) (fun c_8 => ?_) (fun c_8 => ?_)
      · skip
        exact hx_retv hx hb hr hlk hW ⟨⟨fw17_x_95, fw17_x_96, ffw17_x_95, ffw17_x_96, (by first | omega | (refine ⟨?_, ?_⟩ <;> omega))⟩, hT, hM⟩ dX10_habits_130
      · skip
        refine lv_aload_n hx hb dX10_habits_21 rfl (lv_at hl 1 rfl) ?_
        refine hk_geti hx hb hts hC_10 hown hW (gx.S hM) tt_10 95 (by decide) rfl kw_1238 ⟨rfl, rfl, rfl⟩ ffw17_x_95 dX10_habits_22 ?_
        refine lv_bipush (v := 60) hx hb dX10_habits_25 (by decide) ?_
        refine hb_icmp_ge (zx := fw17_x_95.toInt) (zy := 60) (tgt := 130) hx hb rfl (by decide) dX10_habits_27 (by decide) (fun c_9 => ?_) (fun c_9 => ?_)
        · skip
          exact hx_retv hx hb hr hlk hW ⟨⟨fw17_x_95, fw17_x_96, ffw17_x_95, ffw17_x_96, (by first | omega | (refine ⟨?_, ?_⟩ <;> omega))⟩, hT, hM⟩ dX10_habits_130
        · skip
          refine lv_aload_n hx hb dX10_habits_30 rfl (lv_at hl 1 rfl) ?_
          refine hx_getn hx hb hts hC_10 hown hW hT (gx.S hM) tt_10 58 (by decide) rfl kw_1201 ⟨rfl, rfl, rfl⟩ dX10_habits_31 (fun q_10 fq_10 gq_10 => ?_)
          refine lv_iload_n hx hb dX10_habits_34 rfl (lv_at hl 0 rfl) ?_
          refine hx_iald hx hb hW hT gq_10 tt_92 rfl ⟨by omega, by omega⟩ dX10_habits_35 (fun x_11 ex_11 lx_11 ux_11 => ?_)
          refine lv_istore_n (lv' := [(3, .int x_11), (2, .int iv17_2), (0, .ref x), (1, .int i1)]) hx hb dX10_habits_36 rfl hl (by decide) rfl (fun ls hl => ?_)
          refine lv_aload_n hx hb dX10_habits_37 rfl (lv_at hl 2 rfl) ?_
          refine hx_getn hx hb hts hC_10 hown hW hT (gx.S hM) tt_10 51 (by decide) rfl kw_1194 ⟨rfl, rfl, rfl⟩ dX10_habits_38 (fun q_12 fq_12 gq_12 => ?_)
          refine lv_iload_n hx hb dX10_habits_41 rfl (lv_at hl 0 rfl) ?_
          refine hx_iald hx hb hW hT gq_12 tt_86 rfl ⟨by omega, by omega⟩ dX10_habits_42 (fun x_13 ex_13 lx_13 ux_13 => ?_)
          refine lv_iconst (v := 4) hx hb dX10_habits_43 (by decide) ?_
          refine hb_icmp_lt (zx := x_13.toInt) (zy := 4) (tgt := 124) hx hb rfl (by decide) dX10_habits_44 (by decide) (fun c_14 => ?_) (fun c_14 => ?_)
          · skip
            obtain ⟨x_15, ex_15⟩ : ∃ y : Int32, y = iv17_2 + Int32.ofInt (-1) := ⟨_, rfl⟩
            have rg_16 := i32_r iv17_2
            have zx_15 : x_15.toInt = iv17_2.toInt + (-1) := by rw [ex_15]; exact i32_add rfl (by decide) (by omega) (by omega)
            refine lv_iinc (v := x_15) (lv' := [(2, .int x_15), (3, .int x_11), (0, .ref x), (1, .int i1)]) hx hb dX10_habits_124 hl (k := 1) rfl ex_15.symm (by decide) rfl (fun ls hl => ?_)
            refine lv_goto (tgt := 17) hx hb dX10_habits_127 (by decide) ?_
            exact ih17 x_15 fw17_x_95 fw17_x_96 _ _ hL1 hl1 (by omega) (by omega) (by omega) (by omega) (by omega) (by omega) (by omega) ls (by omega) hW hT hM ffw17_x_95 ffw17_x_96 fx_5  (lv_sub hl [0, 2, 3] rfl)
          · skip
            refine lv_aload_n hx hb dX10_habits_47 rfl (lv_at hl 2 rfl) ?_
            refine hx_getn hx hb hts hC_10 hown hW hT (gx.S hM) tt_10 52 (by decide) rfl kw_1195 ⟨rfl, rfl, rfl⟩ dX10_habits_48 (fun q_17 fq_17 gq_17 => ?_)
            refine lv_iconst (v := 3) hx hb dX10_habits_51 (by decide) ?_
            refine lv_iload_n hx hb dX10_habits_52 rfl (lv_at hl 0 rfl) ?_
            refine lv_imul hx hb dX10_habits_53 ?_
            refine lv_topi (fun x_18 ex_18 => ?_)
            have zx_18 : x_18.toInt = 3 * x_11.toInt := by rw [ex_18]; exact i32_mul (by decide) rfl rfl (by omega) (by omega)
            refine hx_iald hx hb hW hT gq_17 tt_87 rfl ⟨by omega, by omega⟩ dX10_habits_54 (fun x_19 ex_19 lx_19 ux_19 => ?_)
            refine lv_iload_n hx hb dX10_habits_55 rfl (lv_at hl 3 rfl) ?_
            refine hb_icmp_eq (zx := x_19.toInt) (zy := i1.toInt) (tgt := 90) hx hb rfl rfl dX10_habits_56 (by decide) (fun c_20 => ?_) (fun c_20 => ?_)
            · skip
              refine lv_aload_n hx hb dX10_habits_90 rfl (lv_at hl 2 rfl) ?_
              refine lv_dup hx hb dX10_habits_91 rfl ?_
              refine hk_geti hx hb hts hC_10 hown hW (gx.S hM) tt_10 95 (by decide) rfl kw_1238 ⟨rfl, rfl, rfl⟩ ffw17_x_95 dX10_habits_92 ?_
              refine lv_iconst (v := 1) hx hb dX10_habits_95 (by decide) ?_
              refine lv_iadd hx hb dX10_habits_96 ?_
              have rg_21 := i32_r fw17_x_95
              refine lv_topi (fun x_22 ex_22 => ?_)
              have zx_22 : x_22.toInt = fw17_x_95.toInt + 1 := by rw [ex_22]; exact i32_add rfl (by decide) (by omega) (by omega)
              refine hx_puti hx hb hts hC_10 hown hW hT (hx_S.rf (M := [(10, 95)])) (gx.S hM) tt_10 95 (by decide) rfl kw_1238 ⟨rfl, rfl, rfl⟩ rfl (x := x_22) ⟨by omega, by omega⟩ rfl rfl rfl (List.mem_singleton.mpr rfl) dX10_habits_97 (fun H locs h_23 eh_23 hW hT hs => ?_)
              replace fx_5 := (hs.o (gx.S hM) trivial rfl).1.trans fx_5
              replace ffw17_x_96 := (hs.o (gx.S hM) trivial rfl).1.trans ffw17_x_96
              replace fq_10 := (hs.o (gx.S hM) trivial rfl).2.trans fq_10
              replace fq_12 := (hs.o (gx.S hM) trivial rfl).2.trans fq_12
              replace fq_17 := (hs.o (gx.S hM) trivial rfl).2.trans fq_17
              replace ex_11 := ex_11.trans (hs.a gq_10 rfl _).1.symm
              replace ex_13 := ex_13.trans (hs.a gq_12 rfl _).1.symm
              replace ex_19 := ex_19.trans (hs.a gq_17 rfl _).1.symm
              replace hM := hM.tr (hs.mono (by decide))
              replace gq_10 := gq_10.S hs
              replace gq_12 := gq_12.S hs
              replace gq_17 := gq_17.S hs
              have f_24 : h_23.2.1 x 95 = x_22 := by rw [eh_23]; exact hx_pi_at _ _ _ _
              refine lv_aload_n hx hb dX10_habits_100 rfl (lv_at hl 2 rfl) ?_
              refine lv_dup hx hb dX10_habits_101 rfl ?_
              refine hk_geti hx hb hts hC_10 hown hW (gx.S hM) tt_10 96 (by decide) rfl kw_1239 ⟨rfl, rfl, rfl⟩ ffw17_x_96 dX10_habits_102 ?_
              refine lv_aload_n hx hb dX10_habits_105 rfl (lv_at hl 2 rfl) ?_
              refine hk_getr hx hb hts hC_10 hown hW (gx.S hM) tt_10 51 (by decide) rfl kw_1194 ⟨rfl, rfl, rfl⟩ fq_12 dX10_habits_106 ?_
              refine lv_iload_n hx hb dX10_habits_109 rfl (lv_at hl 0 rfl) ?_
              refine hx_iald hx hb hW hT gq_12 tt_86 rfl ⟨by omega, by omega⟩ dX10_habits_110 (fun x_25 ex_25 lx_25 ux_25 => ?_)
              obtain rfl : x_13 = x_25 := ex_13.trans ex_25.symm
              refine lv_iconst (v := 5) hx hb dX10_habits_111 (by decide) ?_
              have jn_120 : ∀ (xj_26 : Int32) (ls : Array Slot), 0 ≤ xj_26.toInt → xj_26.toInt ≤ 1 → lv_has ls 4 [(3, .int x_11), (2, .int iv17_2), (0, .ref x), (1, .int i1)] → W p l e ({ frames := 0, cells := 0, slots := 0, locals := 0 }) s m ([.ref x, .int i1] : List Value).toArray below meth c H locs 0 0 (MQ below (va_Qv (fun (u : List Nat × hx_h) => (∃ (hm1 : Int32) (hp1 : Int32), u.2.2.1 x 95 = hm1 ∧ u.2.2.1 x 96 = hp1 ∧ (hp1.toInt ≤ hm1.toInt)) ∧ hx_T T_tb u.1 u.2 ∧ hx_S T_tb [(10, 95), (10, 96)] L h u.1 u.2) (hx_E T_tb (P_ty dA) (dC, dI) vwCl (hx_A L sz)) (hx_A L sz)) ([.ref x, .int i1] : List Value).toArray s 0 0 (hx_A L sz)) (F0 m 120 ls [.int xj_26, .int fw17_x_96, .ref x]) := by
                intro xj_26 ls blxj_26 buxj_26 hl
                refine lv_iadd hx hb dX10_habits_120 ?_
                have rg_27 := i32_r fw17_x_96
                have rg_28 := i32_r xj_26
                refine lv_topi (fun x_29 ex_29 => ?_)
                have zx_29 : x_29.toInt = fw17_x_96.toInt + xj_26.toInt := by rw [ex_29]; exact i32_add rfl rfl (by omega) (by omega)
                refine hx_puti hx hb hts hC_10 hown hW hT (hx_S.rf (M := [(10, 96)])) (gx.S hM) tt_10 96 (by decide) rfl kw_1239 ⟨rfl, rfl, rfl⟩ rfl (x := x_29) ⟨by omega, by omega⟩ rfl rfl rfl (List.mem_singleton.mpr rfl) dX10_habits_121 (fun H locs h_30 eh_30 hW hT hs => ?_)
                replace fx_5 := (hs.o (gx.S hM) trivial rfl).1.trans fx_5
                replace fq_10 := (hs.o (gx.S hM) trivial rfl).2.trans fq_10
                replace fq_12 := (hs.o (gx.S hM) trivial rfl).2.trans fq_12
                replace fq_17 := (hs.o (gx.S hM) trivial rfl).2.trans fq_17
                replace f_24 := (hs.o (gx.S hM) trivial rfl).1.trans f_24
                replace ex_11 := ex_11.trans (hs.a gq_10 rfl _).1.symm
                replace ex_13 := ex_13.trans (hs.a gq_12 rfl _).1.symm
                replace ex_19 := ex_19.trans (hs.a gq_17 rfl _).1.symm
                replace hM := hM.tr (hs.mono (by decide))
                replace gq_10 := gq_10.S hs
                replace gq_12 := gq_12.S hs
                replace gq_17 := gq_17.S hs
                have f_31 : h_30.2.1 x 96 = x_29 := by rw [eh_30]; exact hx_pi_at _ _ _ _
                obtain ⟨x_32, ex_32⟩ : ∃ y : Int32, y = iv17_2 + Int32.ofInt (-1) := ⟨_, rfl⟩
                have rg_33 := i32_r iv17_2
                have zx_32 : x_32.toInt = iv17_2.toInt + (-1) := by rw [ex_32]; exact i32_add rfl (by decide) (by omega) (by omega)
                refine lv_iinc (v := x_32) (lv' := [(2, .int x_32), (3, .int x_11), (0, .ref x), (1, .int i1)]) hx hb dX10_habits_124 hl (k := 1) rfl ex_32.symm (by decide) rfl (fun ls hl => ?_)
                refine lv_goto (tgt := 17) hx hb dX10_habits_127 (by decide) ?_
                exact ih17 x_32 x_22 x_29 _ _ hL1 h_30 (by omega) (by omega) (by omega) (by omega) (by omega) (by omega) (by omega) ls (by omega) hW hT hM f_24 f_31 fx_5  (lv_sub hl [0, 2, 3] rfl)
              refine hb_icmp_ne (zx := x_13.toInt) (zy := 5) (tgt := 119) hx hb rfl (by decide) dX10_habits_112 (by decide) (fun c_34 => ?_) (fun c_34 => ?_)
              · skip
                refine lv_iconst (v := 0) hx hb dX10_habits_119 (by decide) ?_
                exact jn_120 (0 : Int32) ls (by decide) (by decide) hl
              · skip
                refine lv_iconst (v := 1) hx hb dX10_habits_115 (by decide) ?_
                refine lv_goto (tgt := 120) hx hb dX10_habits_116 (by decide) ?_
                exact jn_120 (1 : Int32) ls (by decide) (by decide) hl
            · skip
              refine lv_aload_n hx hb dX10_habits_59 rfl (lv_at hl 2 rfl) ?_
              refine hk_getr hx hb hts hC_10 hown hW (gx.S hM) tt_10 52 (by decide) rfl kw_1195 ⟨rfl, rfl, rfl⟩ fq_17 dX10_habits_60 ?_
              refine lv_iconst (v := 3) hx hb dX10_habits_63 (by decide) ?_
              refine lv_iload_n hx hb dX10_habits_64 rfl (lv_at hl 0 rfl) ?_
              refine lv_imul hx hb dX10_habits_65 ?_
              refine lv_topi (fun x_35 ex_35 => ?_)
              have zx_35 : x_35.toInt = 3 * x_11.toInt := by rw [ex_35]; exact i32_mul (by decide) rfl rfl (by omega) (by omega)
              refine lv_iconst (v := 1) hx hb dX10_habits_66 (by decide) ?_
              refine lv_iadd hx hb dX10_habits_67 ?_
              have rg_36 := i32_r x_35
              refine lv_topi (fun x_37 ex_37 => ?_)
              have zx_37 : x_37.toInt = x_35.toInt + 1 := by rw [ex_37]; exact i32_add rfl (by decide) (by omega) (by omega)
              refine hx_iald hx hb hW hT gq_17 tt_87 rfl ⟨by omega, by omega⟩ dX10_habits_68 (fun x_38 ex_38 lx_38 ux_38 => ?_)
              refine lv_iload_n hx hb dX10_habits_69 rfl (lv_at hl 3 rfl) ?_
              refine hb_icmp_eq (zx := x_38.toInt) (zy := i1.toInt) (tgt := 90) hx hb rfl rfl dX10_habits_70 (by decide) (fun c_39 => ?_) (fun c_39 => ?_)
              · skip
                refine lv_aload_n hx hb dX10_habits_90 rfl (lv_at hl 2 rfl) ?_
                refine lv_dup hx hb dX10_habits_91 rfl ?_
                refine hk_geti hx hb hts hC_10 hown hW (gx.S hM) tt_10 95 (by decide) rfl kw_1238 ⟨rfl, rfl, rfl⟩ ffw17_x_95 dX10_habits_92 ?_
                refine lv_iconst (v := 1) hx hb dX10_habits_95 (by decide) ?_
                refine lv_iadd hx hb dX10_habits_96 ?_
                have rg_40 := i32_r fw17_x_95
                refine lv_topi (fun x_41 ex_41 => ?_)
                have zx_41 : x_41.toInt = fw17_x_95.toInt + 1 := by rw [ex_41]; exact i32_add rfl (by decide) (by omega) (by omega)
                refine hx_puti hx hb hts hC_10 hown hW hT (hx_S.rf (M := [(10, 95)])) (gx.S hM) tt_10 95 (by decide) rfl kw_1238 ⟨rfl, rfl, rfl⟩ rfl (x := x_41) ⟨by omega, by omega⟩ rfl rfl rfl (List.mem_singleton.mpr rfl) dX10_habits_97 (fun H locs h_42 eh_42 hW hT hs => ?_)
                replace fx_5 := (hs.o (gx.S hM) trivial rfl).1.trans fx_5
                replace ffw17_x_96 := (hs.o (gx.S hM) trivial rfl).1.trans ffw17_x_96
                replace fq_10 := (hs.o (gx.S hM) trivial rfl).2.trans fq_10
                replace fq_12 := (hs.o (gx.S hM) trivial rfl).2.trans fq_12
                replace fq_17 := (hs.o (gx.S hM) trivial rfl).2.trans fq_17
                replace ex_11 := ex_11.trans (hs.a gq_10 rfl _).1.symm
                replace ex_13 := ex_13.trans (hs.a gq_12 rfl _).1.symm
                replace ex_19 := ex_19.trans (hs.a gq_17 rfl _).1.symm
                replace ex_38 := ex_38.trans (hs.a gq_17 rfl _).1.symm
                replace hM := hM.tr (hs.mono (by decide))
                replace gq_10 := gq_10.S hs
                replace gq_12 := gq_12.S hs
                replace gq_17 := gq_17.S hs
                have f_43 : h_42.2.1 x 95 = x_41 := by rw [eh_42]; exact hx_pi_at _ _ _ _
                refine lv_aload_n hx hb dX10_habits_100 rfl (lv_at hl 2 rfl) ?_
                refine lv_dup hx hb dX10_habits_101 rfl ?_
                refine hk_geti hx hb hts hC_10 hown hW (gx.S hM) tt_10 96 (by decide) rfl kw_1239 ⟨rfl, rfl, rfl⟩ ffw17_x_96 dX10_habits_102 ?_
                refine lv_aload_n hx hb dX10_habits_105 rfl (lv_at hl 2 rfl) ?_
                refine hk_getr hx hb hts hC_10 hown hW (gx.S hM) tt_10 51 (by decide) rfl kw_1194 ⟨rfl, rfl, rfl⟩ fq_12 dX10_habits_106 ?_
                refine lv_iload_n hx hb dX10_habits_109 rfl (lv_at hl 0 rfl) ?_
                refine hx_iald hx hb hW hT gq_12 tt_86 rfl ⟨by omega, by omega⟩ dX10_habits_110 (fun x_44 ex_44 lx_44 ux_44 => ?_)
                obtain rfl : x_13 = x_44 := ex_13.trans ex_44.symm
                refine lv_iconst (v := 5) hx hb dX10_habits_111 (by decide) ?_
                have jn_120 : ∀ (xj_45 : Int32) (ls : Array Slot), 0 ≤ xj_45.toInt → xj_45.toInt ≤ 1 → lv_has ls 4 [(3, .int x_11), (2, .int iv17_2), (0, .ref x), (1, .int i1)] → W p l e ({ frames := 0, cells := 0, slots := 0, locals := 0 }) s m ([.ref x, .int i1] : List Value).toArray below meth c H locs 0 0 (MQ below (va_Qv (fun (u : List Nat × hx_h) => (∃ (hm1 : Int32) (hp1 : Int32), u.2.2.1 x 95 = hm1 ∧ u.2.2.1 x 96 = hp1 ∧ (hp1.toInt ≤ hm1.toInt)) ∧ hx_T T_tb u.1 u.2 ∧ hx_S T_tb [(10, 95), (10, 96)] L h u.1 u.2) (hx_E T_tb (P_ty dA) (dC, dI) vwCl (hx_A L sz)) (hx_A L sz)) ([.ref x, .int i1] : List Value).toArray s 0 0 (hx_A L sz)) (F0 m 120 ls [.int xj_45, .int fw17_x_96, .ref x]) := by
                  intro xj_45 ls blxj_45 buxj_45 hl
                  refine lv_iadd hx hb dX10_habits_120 ?_
                  have rg_46 := i32_r fw17_x_96
                  have rg_47 := i32_r xj_45
                  refine lv_topi (fun x_48 ex_48 => ?_)
                  have zx_48 : x_48.toInt = fw17_x_96.toInt + xj_45.toInt := by rw [ex_48]; exact i32_add rfl rfl (by omega) (by omega)
                  refine hx_puti hx hb hts hC_10 hown hW hT (hx_S.rf (M := [(10, 96)])) (gx.S hM) tt_10 96 (by decide) rfl kw_1239 ⟨rfl, rfl, rfl⟩ rfl (x := x_48) ⟨by omega, by omega⟩ rfl rfl rfl (List.mem_singleton.mpr rfl) dX10_habits_121 (fun H locs h_49 eh_49 hW hT hs => ?_)
                  replace fx_5 := (hs.o (gx.S hM) trivial rfl).1.trans fx_5
                  replace fq_10 := (hs.o (gx.S hM) trivial rfl).2.trans fq_10
                  replace fq_12 := (hs.o (gx.S hM) trivial rfl).2.trans fq_12
                  replace fq_17 := (hs.o (gx.S hM) trivial rfl).2.trans fq_17
                  replace f_43 := (hs.o (gx.S hM) trivial rfl).1.trans f_43
                  replace ex_11 := ex_11.trans (hs.a gq_10 rfl _).1.symm
                  replace ex_13 := ex_13.trans (hs.a gq_12 rfl _).1.symm
                  replace ex_19 := ex_19.trans (hs.a gq_17 rfl _).1.symm
                  replace ex_38 := ex_38.trans (hs.a gq_17 rfl _).1.symm
                  replace hM := hM.tr (hs.mono (by decide))
                  replace gq_10 := gq_10.S hs
                  replace gq_12 := gq_12.S hs
                  replace gq_17 := gq_17.S hs
                  have f_50 : h_49.2.1 x 96 = x_48 := by rw [eh_49]; exact hx_pi_at _ _ _ _
                  obtain ⟨x_51, ex_51⟩ : ∃ y : Int32, y = iv17_2 + Int32.ofInt (-1) := ⟨_, rfl⟩
                  have rg_52 := i32_r iv17_2
                  have zx_51 : x_51.toInt = iv17_2.toInt + (-1) := by rw [ex_51]; exact i32_add rfl (by decide) (by omega) (by omega)
                  refine lv_iinc (v := x_51) (lv' := [(2, .int x_51), (3, .int x_11), (0, .ref x), (1, .int i1)]) hx hb dX10_habits_124 hl (k := 1) rfl ex_51.symm (by decide) rfl (fun ls hl => ?_)
                  refine lv_goto (tgt := 17) hx hb dX10_habits_127 (by decide) ?_
                  exact ih17 x_51 x_41 x_48 _ _ hL1 h_49 (by omega) (by omega) (by omega) (by omega) (by omega) (by omega) (by omega) ls (by omega) hW hT hM f_43 f_50 fx_5  (lv_sub hl [0, 2, 3] rfl)
                refine hb_icmp_ne (zx := x_13.toInt) (zy := 5) (tgt := 119) hx hb rfl (by decide) dX10_habits_112 (by decide) (fun c_53 => ?_) (fun c_53 => ?_)
                · skip
                  refine lv_iconst (v := 0) hx hb dX10_habits_119 (by decide) ?_
                  exact jn_120 (0 : Int32) ls (by decide) (by decide) hl
                · skip
                  refine lv_iconst (v := 1) hx hb dX10_habits_115 (by decide) ?_
                  refine lv_goto (tgt := 120) hx hb dX10_habits_116 (by decide) ?_
                  exact jn_120 (1 : Int32) ls (by decide) (by decide) hl
              · skip
                refine lv_aload_n hx hb dX10_habits_73 rfl (lv_at hl 2 rfl) ?_
                refine hk_getr hx hb hts hC_10 hown hW (gx.S hM) tt_10 52 (by decide) rfl kw_1195 ⟨rfl, rfl, rfl⟩ fq_17 dX10_habits_74 ?_
                refine lv_iconst (v := 3) hx hb dX10_habits_77 (by decide) ?_
                refine lv_iload_n hx hb dX10_habits_78 rfl (lv_at hl 0 rfl) ?_
                refine lv_imul hx hb dX10_habits_79 ?_
                refine lv_topi (fun x_54 ex_54 => ?_)
                have zx_54 : x_54.toInt = 3 * x_11.toInt := by rw [ex_54]; exact i32_mul (by decide) rfl rfl (by omega) (by omega)
                refine lv_iconst (v := 2) hx hb dX10_habits_80 (by decide) ?_
                refine lv_iadd hx hb dX10_habits_81 ?_
                have rg_55 := i32_r x_54
                refine lv_topi (fun x_56 ex_56 => ?_)
                have zx_56 : x_56.toInt = x_54.toInt + 2 := by rw [ex_56]; exact i32_add rfl (by decide) (by omega) (by omega)
                refine hx_iald hx hb hW hT gq_17 tt_87 rfl ⟨by omega, by omega⟩ dX10_habits_82 (fun x_57 ex_57 lx_57 ux_57 => ?_)
                refine lv_iload_n hx hb dX10_habits_83 rfl (lv_at hl 3 rfl) ?_
                refine hb_icmp_eq (zx := x_57.toInt) (zy := i1.toInt) (tgt := 90) hx hb rfl rfl dX10_habits_84 (by decide) (fun c_58 => ?_) (fun c_58 => ?_)
                · skip
                  refine lv_aload_n hx hb dX10_habits_90 rfl (lv_at hl 2 rfl) ?_
                  refine lv_dup hx hb dX10_habits_91 rfl ?_
                  refine hk_geti hx hb hts hC_10 hown hW (gx.S hM) tt_10 95 (by decide) rfl kw_1238 ⟨rfl, rfl, rfl⟩ ffw17_x_95 dX10_habits_92 ?_
                  refine lv_iconst (v := 1) hx hb dX10_habits_95 (by decide) ?_
                  refine lv_iadd hx hb dX10_habits_96 ?_
                  have rg_59 := i32_r fw17_x_95
                  refine lv_topi (fun x_60 ex_60 => ?_)
                  have zx_60 : x_60.toInt = fw17_x_95.toInt + 1 := by rw [ex_60]; exact i32_add rfl (by decide) (by omega) (by omega)
                  refine hx_puti hx hb hts hC_10 hown hW hT (hx_S.rf (M := [(10, 95)])) (gx.S hM) tt_10 95 (by decide) rfl kw_1238 ⟨rfl, rfl, rfl⟩ rfl (x := x_60) ⟨by omega, by omega⟩ rfl rfl rfl (List.mem_singleton.mpr rfl) dX10_habits_97 (fun H locs h_61 eh_61 hW hT hs => ?_)
                  replace fx_5 := (hs.o (gx.S hM) trivial rfl).1.trans fx_5
                  replace ffw17_x_96 := (hs.o (gx.S hM) trivial rfl).1.trans ffw17_x_96
                  replace fq_10 := (hs.o (gx.S hM) trivial rfl).2.trans fq_10
                  replace fq_12 := (hs.o (gx.S hM) trivial rfl).2.trans fq_12
                  replace fq_17 := (hs.o (gx.S hM) trivial rfl).2.trans fq_17
                  replace ex_11 := ex_11.trans (hs.a gq_10 rfl _).1.symm
                  replace ex_13 := ex_13.trans (hs.a gq_12 rfl _).1.symm
                  replace ex_19 := ex_19.trans (hs.a gq_17 rfl _).1.symm
                  replace ex_38 := ex_38.trans (hs.a gq_17 rfl _).1.symm
                  replace ex_57 := ex_57.trans (hs.a gq_17 rfl _).1.symm
                  replace hM := hM.tr (hs.mono (by decide))
                  replace gq_10 := gq_10.S hs
                  replace gq_12 := gq_12.S hs
                  replace gq_17 := gq_17.S hs
                  have f_62 : h_61.2.1 x 95 = x_60 := by rw [eh_61]; exact hx_pi_at _ _ _ _
                  refine lv_aload_n hx hb dX10_habits_100 rfl (lv_at hl 2 rfl) ?_
                  refine lv_dup hx hb dX10_habits_101 rfl ?_
                  refine hk_geti hx hb hts hC_10 hown hW (gx.S hM) tt_10 96 (by decide) rfl kw_1239 ⟨rfl, rfl, rfl⟩ ffw17_x_96 dX10_habits_102 ?_
                  refine lv_aload_n hx hb dX10_habits_105 rfl (lv_at hl 2 rfl) ?_
                  refine hk_getr hx hb hts hC_10 hown hW (gx.S hM) tt_10 51 (by decide) rfl kw_1194 ⟨rfl, rfl, rfl⟩ fq_12 dX10_habits_106 ?_
                  refine lv_iload_n hx hb dX10_habits_109 rfl (lv_at hl 0 rfl) ?_
                  refine hx_iald hx hb hW hT gq_12 tt_86 rfl ⟨by omega, by omega⟩ dX10_habits_110 (fun x_63 ex_63 lx_63 ux_63 => ?_)
                  obtain rfl : x_13 = x_63 := ex_13.trans ex_63.symm
                  refine lv_iconst (v := 5) hx hb dX10_habits_111 (by decide) ?_
                  have jn_120 : ∀ (xj_64 : Int32) (ls : Array Slot), 0 ≤ xj_64.toInt → xj_64.toInt ≤ 1 → lv_has ls 4 [(3, .int x_11), (2, .int iv17_2), (0, .ref x), (1, .int i1)] → W p l e ({ frames := 0, cells := 0, slots := 0, locals := 0 }) s m ([.ref x, .int i1] : List Value).toArray below meth c H locs 0 0 (MQ below (va_Qv (fun (u : List Nat × hx_h) => (∃ (hm1 : Int32) (hp1 : Int32), u.2.2.1 x 95 = hm1 ∧ u.2.2.1 x 96 = hp1 ∧ (hp1.toInt ≤ hm1.toInt)) ∧ hx_T T_tb u.1 u.2 ∧ hx_S T_tb [(10, 95), (10, 96)] L h u.1 u.2) (hx_E T_tb (P_ty dA) (dC, dI) vwCl (hx_A L sz)) (hx_A L sz)) ([.ref x, .int i1] : List Value).toArray s 0 0 (hx_A L sz)) (F0 m 120 ls [.int xj_64, .int fw17_x_96, .ref x]) := by
                    intro xj_64 ls blxj_64 buxj_64 hl
                    refine lv_iadd hx hb dX10_habits_120 ?_
                    have rg_65 := i32_r fw17_x_96
                    have rg_66 := i32_r xj_64
                    refine lv_topi (fun x_67 ex_67 => ?_)
                    have zx_67 : x_67.toInt = fw17_x_96.toInt + xj_64.toInt := by rw [ex_67]; exact i32_add rfl rfl (by omega) (by omega)
                    refine hx_puti hx hb hts hC_10 hown hW hT (hx_S.rf (M := [(10, 96)])) (gx.S hM) tt_10 96 (by decide) rfl kw_1239 ⟨rfl, rfl, rfl⟩ rfl (x := x_67) ⟨by omega, by omega⟩ rfl rfl rfl (List.mem_singleton.mpr rfl) dX10_habits_121 (fun H locs h_68 eh_68 hW hT hs => ?_)
                    replace fx_5 := (hs.o (gx.S hM) trivial rfl).1.trans fx_5
                    replace fq_10 := (hs.o (gx.S hM) trivial rfl).2.trans fq_10
                    replace fq_12 := (hs.o (gx.S hM) trivial rfl).2.trans fq_12
                    replace fq_17 := (hs.o (gx.S hM) trivial rfl).2.trans fq_17
                    replace f_62 := (hs.o (gx.S hM) trivial rfl).1.trans f_62
                    replace ex_11 := ex_11.trans (hs.a gq_10 rfl _).1.symm
                    replace ex_13 := ex_13.trans (hs.a gq_12 rfl _).1.symm
                    replace ex_19 := ex_19.trans (hs.a gq_17 rfl _).1.symm
                    replace ex_38 := ex_38.trans (hs.a gq_17 rfl _).1.symm
                    replace ex_57 := ex_57.trans (hs.a gq_17 rfl _).1.symm
                    replace hM := hM.tr (hs.mono (by decide))
                    replace gq_10 := gq_10.S hs
                    replace gq_12 := gq_12.S hs
                    replace gq_17 := gq_17.S hs
                    have f_69 : h_68.2.1 x 96 = x_67 := by rw [eh_68]; exact hx_pi_at _ _ _ _
                    obtain ⟨x_70, ex_70⟩ : ∃ y : Int32, y = iv17_2 + Int32.ofInt (-1) := ⟨_, rfl⟩
                    have rg_71 := i32_r iv17_2
                    have zx_70 : x_70.toInt = iv17_2.toInt + (-1) := by rw [ex_70]; exact i32_add rfl (by decide) (by omega) (by omega)
                    refine lv_iinc (v := x_70) (lv' := [(2, .int x_70), (3, .int x_11), (0, .ref x), (1, .int i1)]) hx hb dX10_habits_124 hl (k := 1) rfl ex_70.symm (by decide) rfl (fun ls hl => ?_)
                    refine lv_goto (tgt := 17) hx hb dX10_habits_127 (by decide) ?_
                    exact ih17 x_70 x_60 x_67 _ _ hL1 h_68 (by omega) (by omega) (by omega) (by omega) (by omega) (by omega) (by omega) ls (by omega) hW hT hM f_62 f_69 fx_5  (lv_sub hl [0, 2, 3] rfl)
                  refine hb_icmp_ne (zx := x_13.toInt) (zy := 5) (tgt := 119) hx hb rfl (by decide) dX10_habits_112 (by decide) (fun c_72 => ?_) (fun c_72 => ?_)
                  · skip
                    refine lv_iconst (v := 0) hx hb dX10_habits_119 (by decide) ?_
                    exact jn_120 (0 : Int32) ls (by decide) (by decide) hl
                  · skip
                    refine lv_iconst (v := 1) hx hb dX10_habits_115 (by decide) ?_
                    refine lv_goto (tgt := 120) hx hb dX10_habits_116 (by decide) ?_
                    exact jn_120 (1 : Int32) ls (by decide) (by decide) hl
                · skip
                  refine lv_goto (tgt := 124) hx hb dX10_habits_87 (by decide) ?_
                  obtain ⟨x_73, ex_73⟩ : ∃ y : Int32, y = iv17_2 + Int32.ofInt (-1) := ⟨_, rfl⟩
                  have rg_74 := i32_r iv17_2
                  have zx_73 : x_73.toInt = iv17_2.toInt + (-1) := by rw [ex_73]; exact i32_add rfl (by decide) (by omega) (by omega)
                  refine lv_iinc (v := x_73) (lv' := [(2, .int x_73), (3, .int x_11), (0, .ref x), (1, .int i1)]) hx hb dX10_habits_124 hl (k := 1) rfl ex_73.symm (by decide) rfl (fun ls hl => ?_)
                  refine lv_goto (tgt := 17) hx hb dX10_habits_127 (by decide) ?_
                  exact ih17 x_73 fw17_x_95 fw17_x_96 _ _ hL1 hl1 (by omega) (by omega) (by omega) (by omega) (by omega) (by omega) (by omega) ls (by omega) hW hT hM ffw17_x_95 ffw17_x_96 fx_5  (lv_sub hl [0, 2, 3] rfl)
  have zk_0 : (0 : Int32).toInt = 0 := by decide
  have zk_0 : (0 : Int32).toInt = 0 := by decide
  exact loop17 101 x_7 (0 : Int32) (0 : Int32) _ _ L h_3 (by omega) (by omega) (by decide) (by decide) (by decide) (by decide) (by omega) ls (by omega) hW hT hM f_2 f_4 fx_5  hl

def wNX10_isRare : Nat := 25578442505570897123977815411170300648794224743027033114158072888680714512037079970763970032911444494184356829388680044408410709521747243048269508620331049794249026173258125505240420114048750663168591520572478001664657528119153704365429810389671538431235984225487632238575114978829614595
theorem wX10_isRare_c : hz_cd cX10_isRare wNX10_isRare 119 := ⟨by decide +kernel, by decide +kernel⟩
theorem dX10_isRare_0 : decode cX10_isRare 0 = .ok (.iconst 0, 1) := dw_3 wX10_isRare_c rfl
theorem dX10_isRare_1 : decode cX10_isRare 1 = .ok (.istore_n 3, 1) := dw_62 wX10_isRare_c rfl
theorem dX10_isRare_2 : decode cX10_isRare 2 = .ok (.iload_n 3, 1) := dw_29 wX10_isRare_c rfl
theorem dX10_isRare_3 : decode cX10_isRare 3 = .ok (.iload_n 1, 1) := dw_27 wX10_isRare_c rfl
theorem dX10_isRare_4 : decode cX10_isRare 4 = .ok (.if_icmp .gt 24, 3) := dw_163 wX10_isRare_c 0 24 rfl rfl rfl
theorem dX10_isRare_7 : decode cX10_isRare 7 = .ok (.aload_n 0, 1) := dw_42 wX10_isRare_c rfl
theorem dX10_isRare_8 : decode cX10_isRare 8 = .ok (.getfield 210, 3) := dw_180 wX10_isRare_c 0 210 rfl rfl
theorem dX10_isRare_11 : decode cX10_isRare 11 = .ok (.iload_n 3, 1) := dw_29 wX10_isRare_c rfl
theorem dX10_isRare_12 : decode cX10_isRare 12 = .ok (.iload_n 3, 1) := dw_29 wX10_isRare_c rfl
theorem dX10_isRare_13 : decode cX10_isRare 13 = .ok (.ifCond .ne 7, 3) := dw_154 wX10_isRare_c 0 7 rfl rfl rfl
theorem dX10_isRare_16 : decode cX10_isRare 16 = .ok (.lconst 1, 1) := dw_10 wX10_isRare_c rfl
theorem dX10_isRare_17 : decode cX10_isRare 17 = .ok (.goto 4, 3) := dw_167 wX10_isRare_c 0 4 rfl rfl rfl
theorem dX10_isRare_20 : decode cX10_isRare 20 = .ok (.lconst 0, 1) := dw_9 wX10_isRare_c rfl
theorem dX10_isRare_21 : decode cX10_isRare 21 = .ok (.lastore, 1) := dw_80 wX10_isRare_c rfl
theorem dX10_isRare_22 : decode cX10_isRare 22 = .ok (.iinc 3 1, 3) := dw_132 wX10_isRare_c 3 1 rfl rfl rfl
theorem dX10_isRare_25 : decode cX10_isRare 25 = .ok (.goto (-23), 3) := dn_167 wX10_isRare_c 255 233 rfl (by decide)
theorem dX10_isRare_28 : decode cX10_isRare 28 = .ok (.iconst 1, 1) := dw_4 wX10_isRare_c rfl
theorem dX10_isRare_29 : decode cX10_isRare 29 = .ok (.istore_n 3, 1) := dw_62 wX10_isRare_c rfl
theorem dX10_isRare_30 : decode cX10_isRare 30 = .ok (.iload_n 3, 1) := dw_29 wX10_isRare_c rfl
theorem dX10_isRare_31 : decode cX10_isRare 31 = .ok (.iload_n 1, 1) := dw_27 wX10_isRare_c rfl
theorem dX10_isRare_32 : decode cX10_isRare 32 = .ok (.if_icmp .gt 42, 3) := dw_163 wX10_isRare_c 0 42 rfl rfl rfl
theorem dX10_isRare_35 : decode cX10_isRare 35 = .ok (.iload_n 3, 1) := dw_29 wX10_isRare_c rfl
theorem dX10_isRare_36 : decode cX10_isRare 36 = .ok (.istore 4, 2) := dw_54 wX10_isRare_c 4 rfl
theorem dX10_isRare_38 : decode cX10_isRare 38 = .ok (.iload 4, 2) := dw_21 wX10_isRare_c 4 rfl
theorem dX10_isRare_40 : decode cX10_isRare 40 = .ok (.ifCond .le 28, 3) := dw_158 wX10_isRare_c 0 28 rfl rfl rfl
theorem dX10_isRare_43 : decode cX10_isRare 43 = .ok (.aload_n 0, 1) := dw_42 wX10_isRare_c rfl
theorem dX10_isRare_44 : decode cX10_isRare 44 = .ok (.getfield 210, 3) := dw_180 wX10_isRare_c 0 210 rfl rfl
theorem dX10_isRare_47 : decode cX10_isRare 47 = .ok (.iload 4, 2) := dw_21 wX10_isRare_c 4 rfl
theorem dX10_isRare_49 : decode cX10_isRare 49 = .ok (.dup2, 1) := dw_92 wX10_isRare_c rfl
theorem dX10_isRare_50 : decode cX10_isRare 50 = .ok (.laload, 1) := dw_47 wX10_isRare_c rfl
theorem dX10_isRare_51 : decode cX10_isRare 51 = .ok (.aload_n 0, 1) := dw_42 wX10_isRare_c rfl
theorem dX10_isRare_52 : decode cX10_isRare 52 = .ok (.getfield 210, 3) := dw_180 wX10_isRare_c 0 210 rfl rfl
theorem dX10_isRare_55 : decode cX10_isRare 55 = .ok (.iload 4, 2) := dw_21 wX10_isRare_c 4 rfl
theorem dX10_isRare_57 : decode cX10_isRare 57 = .ok (.iconst 1, 1) := dw_4 wX10_isRare_c rfl
theorem dX10_isRare_58 : decode cX10_isRare 58 = .ok (.isub, 1) := dw_100 wX10_isRare_c rfl
theorem dX10_isRare_59 : decode cX10_isRare 59 = .ok (.laload, 1) := dw_47 wX10_isRare_c rfl
theorem dX10_isRare_60 : decode cX10_isRare 60 = .ok (.ladd, 1) := dw_97 wX10_isRare_c rfl
theorem dX10_isRare_61 : decode cX10_isRare 61 = .ok (.lastore, 1) := dw_80 wX10_isRare_c rfl
theorem dX10_isRare_62 : decode cX10_isRare 62 = .ok (.iinc 4 (-1), 3) := dn_132 wX10_isRare_c 4 255 rfl (by decide)
theorem dX10_isRare_65 : decode cX10_isRare 65 = .ok (.goto (-27), 3) := dn_167 wX10_isRare_c 255 229 rfl (by decide)
theorem dX10_isRare_68 : decode cX10_isRare 68 = .ok (.iinc 3 1, 3) := dw_132 wX10_isRare_c 3 1 rfl rfl rfl
theorem dX10_isRare_71 : decode cX10_isRare 71 = .ok (.goto (-41), 3) := dn_167 wX10_isRare_c 255 215 rfl (by decide)
theorem dX10_isRare_74 : decode cX10_isRare 74 = .ok (.lconst 0, 1) := dw_9 wX10_isRare_c rfl
theorem dX10_isRare_75 : decode cX10_isRare 75 = .ok (.lstore_n 3, 1) := dw_66 wX10_isRare_c rfl
theorem dX10_isRare_76 : decode cX10_isRare 76 = .ok (.iload_n 2, 1) := dw_28 wX10_isRare_c rfl
theorem dX10_isRare_77 : decode cX10_isRare 77 = .ok (.istore 5, 2) := dw_54 wX10_isRare_c 5 rfl
theorem dX10_isRare_79 : decode cX10_isRare 79 = .ok (.iload 5, 2) := dw_21 wX10_isRare_c 5 rfl
theorem dX10_isRare_81 : decode cX10_isRare 81 = .ok (.iload_n 1, 1) := dw_27 wX10_isRare_c rfl
theorem dX10_isRare_82 : decode cX10_isRare 82 = .ok (.if_icmp .gt 19, 3) := dw_163 wX10_isRare_c 0 19 rfl rfl rfl
theorem dX10_isRare_85 : decode cX10_isRare 85 = .ok (.lload_n 3, 1) := dw_33 wX10_isRare_c rfl
theorem dX10_isRare_86 : decode cX10_isRare 86 = .ok (.aload_n 0, 1) := dw_42 wX10_isRare_c rfl
theorem dX10_isRare_87 : decode cX10_isRare 87 = .ok (.getfield 210, 3) := dw_180 wX10_isRare_c 0 210 rfl rfl
theorem dX10_isRare_90 : decode cX10_isRare 90 = .ok (.iload 5, 2) := dw_21 wX10_isRare_c 5 rfl
theorem dX10_isRare_92 : decode cX10_isRare 92 = .ok (.laload, 1) := dw_47 wX10_isRare_c rfl
theorem dX10_isRare_93 : decode cX10_isRare 93 = .ok (.ladd, 1) := dw_97 wX10_isRare_c rfl
theorem dX10_isRare_94 : decode cX10_isRare 94 = .ok (.lstore_n 3, 1) := dw_66 wX10_isRare_c rfl
theorem dX10_isRare_95 : decode cX10_isRare 95 = .ok (.iinc 5 1, 3) := dw_132 wX10_isRare_c 5 1 rfl rfl rfl
theorem dX10_isRare_98 : decode cX10_isRare 98 = .ok (.goto (-19), 3) := dn_167 wX10_isRare_c 255 237 rfl (by decide)
theorem dX10_isRare_101 : decode cX10_isRare 101 = .ok (.lload_n 3, 1) := dw_33 wX10_isRare_c rfl
theorem dX10_isRare_102 : decode cX10_isRare 102 = .ok (.lconst 1, 1) := dw_10 wX10_isRare_c rfl
theorem dX10_isRare_103 : decode cX10_isRare 103 = .ok (.iload_n 1, 1) := dw_27 wX10_isRare_c rfl
theorem dX10_isRare_104 : decode cX10_isRare 104 = .ok (.lshl, 1) := dw_121 wX10_isRare_c rfl
theorem dX10_isRare_105 : decode cX10_isRare 105 = .ok (.ldc2_w 487, 3) := dw_20 wX10_isRare_c 1 231 rfl rfl
theorem dX10_isRare_108 : decode cX10_isRare 108 = .ok (.ldiv, 1) := dw_109 wX10_isRare_c rfl
theorem dX10_isRare_109 : decode cX10_isRare 109 = .ok (.lcmp, 1) := dw_148 wX10_isRare_c rfl
theorem dX10_isRare_110 : decode cX10_isRare 110 = .ok (.ifCond .gt 7, 3) := dw_157 wX10_isRare_c 0 7 rfl rfl rfl
theorem dX10_isRare_113 : decode cX10_isRare 113 = .ok (.iconst 1, 1) := dw_4 wX10_isRare_c rfl
theorem dX10_isRare_114 : decode cX10_isRare 114 = .ok (.goto 4, 3) := dw_167 wX10_isRare_c 0 4 rfl rfl rfl
theorem dX10_isRare_117 : decode cX10_isRare 117 = .ok (.iconst 0, 1) := dw_3 wX10_isRare_c rfl
theorem dX10_isRare_118 : decode cX10_isRare 118 = .ok (.ireturn, 1) := dw_172 wX10_isRare_c rfl
set_option maxHeartbeats 4000000 in
set_option maxRecDepth 100000 in
theorem t_X10_isRare (l : Launch) (dC : Nat → ClassId) (dI : Nat → Nat → Nat) (dA : Nat → ClassId) (L : List Nat) (h : hx_h) (sz : Nat) (x : Nat) (i1 : Int32) (i2 : Int32) (hT : hx_T T_tb L h) (gx : hx_g L h x 10) (hi1 : 0 ≤ i1.toInt ∧ i1.toInt ≤ 60) (hi2 : 0 ≤ i2.toInt ∧ i2.toInt ≤ 60) : Met l yX10_isRare (Cond.code yX10_isRare cX10_isRare 6 (some .boolean) :: hx_all) ({ frames := 0, cells := 0, slots := 0, locals := 0 }) (va_Pc [.ref x, .int i1, .int i2] (hx_B T_tb (P_ty dA) (dC, dI) vwCl L h sz)) (va_Qi (fun (r : Int32) (u : List Nat × hx_h) => (r.toInt = 0 ∨ r.toInt = 1) ∧ hx_T T_tb u.1 u.2 ∧ hx_S T_tb [(115, 0)] L h u.1 u.2) (hx_E T_tb (P_ty dA) (dC, dI) vwCl (hx_A L sz)) (hx_A L sz)) 0 0 (hx_A L sz) := by
  refine hx_met (lv := [(0, .ref x), (1, .int i1), (2, .int i2)]) (by decide +kernel) rfl (Nat.le_of_ble_eq_true rfl) rfl ?_
  intro p e s m below meth c hx hb hml hr hlk hts0 hown hin hsz hW ls hl
  have hts : ∀ w ∈ hx_all, w.before _ s = true := fun w hw => hts0 w (List.mem_cons_of_mem _ hw)
  have hown : s.vm.findClass "SmallCourtModel" = some m.cls := hown
  have hM : hx_S T_tb [(115, 0)] L h L h := hx_S.rf
  refine lv_iconst (v := 0) hx hb dX10_isRare_0 (by decide) ?_
  refine lv_istore_n (lv' := [(3, .int (0 : Int32)), (0, .ref x), (1, .int i1), (2, .int i2)]) hx hb dX10_isRare_1 rfl hl (by decide) rfl (fun ls hl => ?_)
  have loop2 : ∀ (n2 : Nat) (iv2_3 : Int32) (H : Heap) (locs : List Loc) (hL1 : List Nat) (hl1 : hx_h), 0 ≤ iv2_3.toInt → iv2_3.toInt ≤ 61 → ∀ (ls : Array Slot), 61 - iv2_3.toInt < (n2 : Int) → hx_W T_tb (P_ty dA) (dC, dI) vwCl (hx_A L sz) s.heap hL1 hl1 s H locs → hx_T T_tb hL1 hl1 → hx_S T_tb [(115, 0)] L h hL1 hl1 → lv_has ls 6 [(3, .int iv2_3), (0, .ref x), (1, .int i1), (2, .int i2)] → W p l e ({ frames := 0, cells := 0, slots := 0, locals := 0 }) s m ([.ref x, .int i1, .int i2] : List Value).toArray below meth c H locs 0 0 (MQ below (va_Qi (fun (r : Int32) (u : List Nat × hx_h) => (r.toInt = 0 ∨ r.toInt = 1) ∧ hx_T T_tb u.1 u.2 ∧ hx_S T_tb [(115, 0)] L h u.1 u.2) (hx_E T_tb (P_ty dA) (dC, dI) vwCl (hx_A L sz)) (hx_A L sz)) ([.ref x, .int i1, .int i2] : List Value).toArray s 0 0 (hx_A L sz)) (F0 m 2 ls []) := by
    intro n2
    induction n2 with
    | zero => intro iv2_3 H locs hL1 hl1 bliv2_3 buiv2_3  ls hn2; exfalso; omega
    | succ n2 ih2 =>
      intro iv2_3 H locs hL1 hl1 bliv2_3 buiv2_3  ls hn2 hW hT hM   hl
      refine lv_iload_n hx hb dX10_isRare_2 rfl (lv_at hl 0 rfl) ?_
      refine lv_iload_n hx hb dX10_isRare_3 rfl (lv_at hl 2 rfl) ?_
      refine hb_icmp_gt (zx := iv2_3.toInt) (zy := i1.toInt) (tgt := 28) hx hb rfl rfl dX10_isRare_4 (by decide) (fun c_1 => ?_) (fun c_1 => ?_)
      · skip
        refine lv_iconst (v := 1) hx hb dX10_isRare_28 (by decide) ?_
        refine lv_istore_n (lv' := [(3, .int (1 : Int32)), (0, .ref x), (1, .int i1), (2, .int i2)]) hx hb dX10_isRare_29 rfl hl (by decide) rfl (fun ls hl => ?_)
        have loop30 : ∀ (n30 : Nat) (iv30_3 : Int32) (H : Heap) (locs : List Loc) (hL1 : List Nat) (hl1 : hx_h), 1 ≤ iv30_3.toInt → iv30_3.toInt ≤ 61 → ∀ (ls : Array Slot), 61 - iv30_3.toInt < (n30 : Int) → hx_W T_tb (P_ty dA) (dC, dI) vwCl (hx_A L sz) s.heap hL1 hl1 s H locs → hx_T T_tb hL1 hl1 → hx_S T_tb [(115, 0)] L h hL1 hl1 → lv_has ls 6 [(3, .int iv30_3), (0, .ref x), (1, .int i1), (2, .int i2)] → W p l e ({ frames := 0, cells := 0, slots := 0, locals := 0 }) s m ([.ref x, .int i1, .int i2] : List Value).toArray below meth c H locs 0 0 (MQ below (va_Qi (fun (r : Int32) (u : List Nat × hx_h) => (r.toInt = 0 ∨ r.toInt = 1) ∧ hx_T T_tb u.1 u.2 ∧ hx_S T_tb [(115, 0)] L h u.1 u.2) (hx_E T_tb (P_ty dA) (dC, dI) vwCl (hx_A L sz)) (hx_A L sz)) ([.ref x, .int i1, .int i2] : List Value).toArray s 0 0 (hx_A L sz)) (F0 m 30 ls []) := by
          intro n30
          induction n30 with
          | zero => intro iv30_3 H locs hL1 hl1 bliv30_3 buiv30_3  ls hn30; exfalso; omega
          | succ n30 ih30 =>
            intro iv30_3 H locs hL1 hl1 bliv30_3 buiv30_3  ls hn30 hW hT hM   hl
            refine lv_iload_n hx hb dX10_isRare_30 rfl (lv_at hl 0 rfl) ?_
            refine lv_iload_n hx hb dX10_isRare_31 rfl (lv_at hl 2 rfl) ?_
            refine hb_icmp_gt (zx := iv30_3.toInt) (zy := i1.toInt) (tgt := 74) hx hb rfl rfl dX10_isRare_32 (by decide) (fun c_2 => ?_) (fun c_2 => ?_)
            · skip
              refine lv_lconst (v := 0) hx hb dX10_isRare_74 (by decide) ?_
              refine lv_lstore_n (lv' := [(3, .long (0 : Int64)), (0, .ref x), (1, .int i1), (2, .int i2)]) hx hb dX10_isRare_75 rfl hl (by decide) rfl (fun ls hl => ?_)
              refine lv_iload_n hx hb dX10_isRare_76 rfl (lv_at hl 3 rfl) ?_
              refine lv_istore (lv' := [(5, .int i2), (3, .long (0 : Int64)), (0, .ref x), (1, .int i1), (2, .int i2)]) hx hb dX10_isRare_77 hl (by decide) rfl (fun ls hl => ?_)
              have loop79 : ∀ (n79 : Nat) (iv79_5 : Int32) (iv79_3 : Int64) (H : Heap) (locs : List Loc) (hL1 : List Nat) (hl1 : hx_h), 0 ≤ iv79_5.toInt → iv79_5.toInt ≤ 61 → ∀ (ls : Array Slot), 61 - iv79_5.toInt < (n79 : Int) → hx_W T_tb (P_ty dA) (dC, dI) vwCl (hx_A L sz) s.heap hL1 hl1 s H locs → hx_T T_tb hL1 hl1 → hx_S T_tb [(115, 0)] L h hL1 hl1 → lv_has ls 6 [(5, .int iv79_5), (3, .long iv79_3), (0, .ref x), (1, .int i1), (2, .int i2)] → W p l e ({ frames := 0, cells := 0, slots := 0, locals := 0 }) s m ([.ref x, .int i1, .int i2] : List Value).toArray below meth c H locs 0 0 (MQ below (va_Qi (fun (r : Int32) (u : List Nat × hx_h) => (r.toInt = 0 ∨ r.toInt = 1) ∧ hx_T T_tb u.1 u.2 ∧ hx_S T_tb [(115, 0)] L h u.1 u.2) (hx_E T_tb (P_ty dA) (dC, dI) vwCl (hx_A L sz)) (hx_A L sz)) ([.ref x, .int i1, .int i2] : List Value).toArray s 0 0 (hx_A L sz)) (F0 m 79 ls []) := by
                intro n79
                induction n79 with
                | zero => intro iv79_5 iv79_3 H locs hL1 hl1 bliv79_5 buiv79_5  ls hn79; exfalso; omega
                | succ n79 ih79 =>
                  intro iv79_5 iv79_3 H locs hL1 hl1 bliv79_5 buiv79_5  ls hn79 hW hT hM   hl
                  refine lv_iload hx hb dX10_isRare_79 (lv_at hl 0 rfl) ?_
                  refine lv_iload_n hx hb dX10_isRare_81 rfl (lv_at hl 3 rfl) ?_
                  refine hb_icmp_gt (zx := iv79_5.toInt) (zy := i1.toInt) (tgt := 101) hx hb rfl rfl dX10_isRare_82 (by decide) (fun c_3 => ?_) (fun c_3 => ?_)
                  · skip
                    refine lv_lload_n hx hb dX10_isRare_101 rfl (lv_at hl 1 rfl) ?_
                    refine lv_lconst (v := 1) hx hb dX10_isRare_102 (by decide) ?_
                    refine lv_iload_n hx hb dX10_isRare_103 rfl (lv_at hl 3 rfl) ?_
                    refine lv_lshl hx hb dX10_isRare_104 rfl ?_
                    refine lv_topl (fun x_4 ex_4 => ?_)
                    refine lv_ldc2 (v := 20) hx hb hown (hts _ kw_1745) dX10_isRare_105 ?_
                    refine lv_ldiv hx hb dX10_isRare_108 (by decide) ?_
                    refine lv_topl (fun x_5 ex_5 => ?_)
                    refine lv_lcmp hx hb dX10_isRare_109 (fun x_6 => ?_)
                    have jn_118 : ∀ (xj_7 : Int32) (ls : Array Slot), 0 ≤ xj_7.toInt → xj_7.toInt ≤ 1 → lv_has ls 6 [(5, .int iv79_5), (3, .long iv79_3), (0, .ref x), (1, .int i1), (2, .int i2)] → W p l e ({ frames := 0, cells := 0, slots := 0, locals := 0 }) s m ([.ref x, .int i1, .int i2] : List Value).toArray below meth c H locs 0 0 (MQ below (va_Qi (fun (r : Int32) (u : List Nat × hx_h) => (r.toInt = 0 ∨ r.toInt = 1) ∧ hx_T T_tb u.1 u.2 ∧ hx_S T_tb [(115, 0)] L h u.1 u.2) (hx_E T_tb (P_ty dA) (dC, dI) vwCl (hx_A L sz)) (hx_A L sz)) ([.ref x, .int i1, .int i2] : List Value).toArray s 0 0 (hx_A L sz)) (F0 m 118 ls [.int xj_7]) := by
                      intro xj_7 ls blxj_7 buxj_7 hl
                      exact hx_retz hx hb hr (hx_nar01 (by omega)) hlk hW ⟨(by omega), hT, hM⟩ dX10_isRare_118
                    refine hb_if_gt (zx := x_6.toInt) (tgt := 117) hx hb rfl dX10_isRare_110 (by decide) (fun c_8 => ?_) (fun c_8 => ?_)
                    · skip
                      refine lv_iconst (v := 0) hx hb dX10_isRare_117 (by decide) ?_
                      exact jn_118 (0 : Int32) ls (by decide) (by decide) hl
                    · skip
                      refine lv_iconst (v := 1) hx hb dX10_isRare_113 (by decide) ?_
                      refine lv_goto (tgt := 118) hx hb dX10_isRare_114 (by decide) ?_
                      exact jn_118 (1 : Int32) ls (by decide) (by decide) hl
                  · skip
                    refine lv_lload_n hx hb dX10_isRare_85 rfl (lv_at hl 1 rfl) ?_
                    refine lv_aload_n hx hb dX10_isRare_86 rfl (lv_at hl 2 rfl) ?_
                    refine hx_getn hx hb hts hC_10 hown hW hT (gx.S hM) tt_10 97 (by decide) rfl kw_1240 ⟨rfl, rfl, rfl⟩ dX10_isRare_87 (fun q_9 fq_9 gq_9 => ?_)
                    refine lv_iload hx hb dX10_isRare_90 (lv_at hl 0 rfl) ?_
                    refine hx_lald hx hb hW gq_9 tt_115 rfl ⟨by omega, by omega⟩ dX10_isRare_92 (fun x_10 => ?_)
                    refine lv_ladd hx hb dX10_isRare_93 ?_
                    refine lv_topl (fun x_11 ex_11 => ?_)
                    refine lv_lstore_n (lv' := [(3, .long x_11), (5, .int iv79_5), (0, .ref x), (1, .int i1), (2, .int i2)]) hx hb dX10_isRare_94 rfl hl (by decide) rfl (fun ls hl => ?_)
                    obtain ⟨x_12, ex_12⟩ : ∃ y : Int32, y = iv79_5 + Int32.ofInt 1 := ⟨_, rfl⟩
                    have rg_13 := i32_r iv79_5
                    have zx_12 : x_12.toInt = iv79_5.toInt + (1) := by rw [ex_12]; exact i32_add rfl (by decide) (by omega) (by omega)
                    refine lv_iinc (v := x_12) (lv' := [(5, .int x_12), (3, .long x_11), (0, .ref x), (1, .int i1), (2, .int i2)]) hx hb dX10_isRare_95 hl (k := 1) rfl ex_12.symm (by decide) rfl (fun ls hl => ?_)
                    refine lv_goto (tgt := 79) hx hb dX10_isRare_98 (by decide) ?_
                    exact ih79 x_12 x_11 _ _ hL1 hl1 (by omega) (by omega)  ls (by omega) hW hT hM   (lv_sub hl [0, 1, 2, 3, 4] rfl)
              exact loop79 62 i2 (0 : Int64) _ _ hL1 hl1 (by omega) (by omega)  ls (by omega) hW hT hM   hl
            · skip
              refine lv_iload_n hx hb dX10_isRare_35 rfl (lv_at hl 0 rfl) ?_
              refine lv_istore (lv' := [(4, .int iv30_3), (3, .int iv30_3), (0, .ref x), (1, .int i1), (2, .int i2)]) hx hb dX10_isRare_36 hl (by decide) rfl (fun ls hl => ?_)
              have loop38 : ∀ (n38 : Nat) (iv38_4 : Int32) (H : Heap) (locs : List Loc) (hL1 : List Nat) (hl1 : hx_h), 0 ≤ iv38_4.toInt → iv38_4.toInt ≤ 60 → ∀ (ls : Array Slot), iv38_4.toInt < (n38 : Int) → hx_W T_tb (P_ty dA) (dC, dI) vwCl (hx_A L sz) s.heap hL1 hl1 s H locs → hx_T T_tb hL1 hl1 → hx_S T_tb [(115, 0)] L h hL1 hl1 → lv_has ls 6 [(4, .int iv38_4), (3, .int iv30_3), (0, .ref x), (1, .int i1), (2, .int i2)] → W p l e ({ frames := 0, cells := 0, slots := 0, locals := 0 }) s m ([.ref x, .int i1, .int i2] : List Value).toArray below meth c H locs 0 0 (MQ below (va_Qi (fun (r : Int32) (u : List Nat × hx_h) => (r.toInt = 0 ∨ r.toInt = 1) ∧ hx_T T_tb u.1 u.2 ∧ hx_S T_tb [(115, 0)] L h u.1 u.2) (hx_E T_tb (P_ty dA) (dC, dI) vwCl (hx_A L sz)) (hx_A L sz)) ([.ref x, .int i1, .int i2] : List Value).toArray s 0 0 (hx_A L sz)) (F0 m 38 ls []) := by
                intro n38
                induction n38 with
                | zero => intro iv38_4 H locs hL1 hl1 bliv38_4 buiv38_4  ls hn38; exfalso; omega
                | succ n38 ih38 =>
                  intro iv38_4 H locs hL1 hl1 bliv38_4 buiv38_4  ls hn38 hW hT hM   hl
                  refine lv_iload hx hb dX10_isRare_38 (lv_at hl 0 rfl) ?_
                  refine hb_if_le (zx := iv38_4.toInt) (tgt := 68) hx hb rfl dX10_isRare_40 (by decide) (fun c_14 => ?_) (fun c_14 => ?_)
                  · skip
                    obtain ⟨x_15, ex_15⟩ : ∃ y : Int32, y = iv30_3 + Int32.ofInt 1 := ⟨_, rfl⟩
                    have rg_16 := i32_r iv30_3
                    have zx_15 : x_15.toInt = iv30_3.toInt + (1) := by rw [ex_15]; exact i32_add rfl (by decide) (by omega) (by omega)
                    refine lv_iinc (v := x_15) (lv' := [(3, .int x_15), (4, .int iv38_4), (0, .ref x), (1, .int i1), (2, .int i2)]) hx hb dX10_isRare_68 hl (k := 1) rfl ex_15.symm (by decide) rfl (fun ls hl => ?_)
                    refine lv_goto (tgt := 30) hx hb dX10_isRare_71 (by decide) ?_
                    exact ih30 x_15 _ _ hL1 hl1 (by omega) (by omega)  ls (by omega) hW hT hM   (lv_sub hl [0, 2, 3, 4] rfl)
                  · skip
                    refine lv_aload_n hx hb dX10_isRare_43 rfl (lv_at hl 2 rfl) ?_
                    refine hx_getn hx hb hts hC_10 hown hW hT (gx.S hM) tt_10 97 (by decide) rfl kw_1240 ⟨rfl, rfl, rfl⟩ dX10_isRare_44 (fun q_17 fq_17 gq_17 => ?_)
                    refine lv_iload hx hb dX10_isRare_47 (lv_at hl 0 rfl) ?_
                    refine lv_dup2_11 hx hb dX10_isRare_49 rfl rfl ?_
                    refine hx_lald hx hb hW gq_17 tt_115 rfl ⟨by omega, by omega⟩ dX10_isRare_50 (fun x_18 => ?_)
                    refine lv_aload_n hx hb dX10_isRare_51 rfl (lv_at hl 2 rfl) ?_
                    refine hk_getr hx hb hts hC_10 hown hW (gx.S hM) tt_10 97 (by decide) rfl kw_1240 ⟨rfl, rfl, rfl⟩ fq_17 dX10_isRare_52 ?_
                    refine lv_iload hx hb dX10_isRare_55 (lv_at hl 0 rfl) ?_
                    refine lv_iconst (v := 1) hx hb dX10_isRare_57 (by decide) ?_
                    refine lv_isub hx hb dX10_isRare_58 ?_
                    have rg_19 := i32_r iv38_4
                    refine lv_topi (fun x_20 ex_20 => ?_)
                    have zx_20 : x_20.toInt = iv38_4.toInt - 1 := by rw [ex_20]; exact i32_sub rfl (by decide) (by omega) (by omega)
                    refine hx_lald hx hb hW gq_17 tt_115 rfl ⟨by omega, by omega⟩ dX10_isRare_59 (fun x_21 => ?_)
                    refine lv_ladd hx hb dX10_isRare_60 ?_
                    refine lv_topl (fun x_22 ex_22 => ?_)
                    refine hx_last hx hb hW hT gq_17 tt_115 rfl ⟨by omega, by omega⟩ dX10_isRare_61 (fun H locs h_23 hW hT hs => ?_)
                    replace fq_17 := (hs.o (gx.S hM) trivial rfl).2.trans fq_17
                    replace hM := hM.tr (hs.mono (by decide))
                    replace gq_17 := gq_17.S hs
                    obtain ⟨x_24, ex_24⟩ : ∃ y : Int32, y = iv38_4 + Int32.ofInt (-1) := ⟨_, rfl⟩
                    have zx_24 : x_24.toInt = iv38_4.toInt + (-1) := by rw [ex_24]; exact i32_add rfl (by decide) (by omega) (by omega)
                    refine lv_iinc (v := x_24) (lv' := [(4, .int x_24), (3, .int iv30_3), (0, .ref x), (1, .int i1), (2, .int i2)]) hx hb dX10_isRare_62 hl (k := 0) rfl ex_24.symm (by decide) rfl (fun ls hl => ?_)
                    refine lv_goto (tgt := 38) hx hb dX10_isRare_65 (by decide) ?_
                    exact ih38 x_24 _ _ hL1 h_23 (by omega) (by omega)  ls (by omega) hW hT hM   (lv_sub hl [0, 1, 2, 3, 4] rfl)
              exact loop38 61 iv30_3 _ _ hL1 hl1 (by omega) (by omega)  ls (by omega) hW hT hM   hl
        have zk_1 : (1 : Int32).toInt = 1 := by decide
        exact loop30 62 (1 : Int32) _ _ hL1 hl1 (by decide) (by decide)  ls (by omega) hW hT hM   hl
      · skip
        refine lv_aload_n hx hb dX10_isRare_7 rfl (lv_at hl 1 rfl) ?_
        refine hx_getn hx hb hts hC_10 hown hW hT (gx.S hM) tt_10 97 (by decide) rfl kw_1240 ⟨rfl, rfl, rfl⟩ dX10_isRare_8 (fun q_25 fq_25 gq_25 => ?_)
        refine lv_iload_n hx hb dX10_isRare_11 rfl (lv_at hl 0 rfl) ?_
        refine lv_iload_n hx hb dX10_isRare_12 rfl (lv_at hl 0 rfl) ?_
        refine hb_if_ne (zx := iv2_3.toInt) (tgt := 20) hx hb rfl dX10_isRare_13 (by decide) (fun c_26 => ?_) (fun c_26 => ?_)
        · skip
          refine lv_lconst (v := 0) hx hb dX10_isRare_20 (by decide) ?_
          refine hx_last hx hb hW hT gq_25 tt_115 rfl ⟨by omega, by omega⟩ dX10_isRare_21 (fun H locs h_27 hW hT hs => ?_)
          replace fq_25 := (hs.o (gx.S hM) trivial rfl).2.trans fq_25
          replace hM := hM.tr (hs.mono (by decide))
          replace gq_25 := gq_25.S hs
          obtain ⟨x_28, ex_28⟩ : ∃ y : Int32, y = iv2_3 + Int32.ofInt 1 := ⟨_, rfl⟩
          have rg_29 := i32_r iv2_3
          have zx_28 : x_28.toInt = iv2_3.toInt + (1) := by rw [ex_28]; exact i32_add rfl (by decide) (by omega) (by omega)
          refine lv_iinc (v := x_28) (lv' := [(3, .int x_28), (0, .ref x), (1, .int i1), (2, .int i2)]) hx hb dX10_isRare_22 hl (k := 0) rfl ex_28.symm (by decide) rfl (fun ls hl => ?_)
          refine lv_goto (tgt := 2) hx hb dX10_isRare_25 (by decide) ?_
          exact ih2 x_28 _ _ hL1 h_27 (by omega) (by omega)  ls (by omega) hW hT hM   (lv_sub hl [0, 1, 2, 3] rfl)
        · skip
          refine lv_lconst (v := 1) hx hb dX10_isRare_16 (by decide) ?_
          refine lv_goto (tgt := 21) hx hb dX10_isRare_17 (by decide) ?_
          refine hx_last hx hb hW hT gq_25 tt_115 rfl ⟨by omega, by omega⟩ dX10_isRare_21 (fun H locs h_30 hW hT hs => ?_)
          replace fq_25 := (hs.o (gx.S hM) trivial rfl).2.trans fq_25
          replace hM := hM.tr (hs.mono (by decide))
          replace gq_25 := gq_25.S hs
          obtain ⟨x_31, ex_31⟩ : ∃ y : Int32, y = iv2_3 + Int32.ofInt 1 := ⟨_, rfl⟩
          have rg_32 := i32_r iv2_3
          have zx_31 : x_31.toInt = iv2_3.toInt + (1) := by rw [ex_31]; exact i32_add rfl (by decide) (by omega) (by omega)
          refine lv_iinc (v := x_31) (lv' := [(3, .int x_31), (0, .ref x), (1, .int i1), (2, .int i2)]) hx hb dX10_isRare_22 hl (k := 0) rfl ex_31.symm (by decide) rfl (fun ls hl => ?_)
          refine lv_goto (tgt := 2) hx hb dX10_isRare_25 (by decide) ?_
          exact ih2 x_31 _ _ hL1 h_30 (by omega) (by omega)  ls (by omega) hW hT hM   (lv_sub hl [0, 1, 2, 3] rfl)
  have zk_0 : (0 : Int32).toInt = 0 := by decide
  exact loop2 62 (0 : Int32) _ _ L h (by decide) (by decide)  ls (by omega) hW hT hM   hl

def wNX10_habit : Nat := 862889612714467611211662448057729598008664679806327410115954177192829253876197753964845933416581367354304119107169789136599344536708605943016410708680707416721057556836538670472507118585165201768688899201834
theorem wX10_habit_c : hz_cd cX10_habit wNX10_habit 86 := ⟨by decide +kernel, by decide +kernel⟩
theorem dX10_habit_0 : decode cX10_habit 0 = .ok (.aload_n 0, 1) := dw_42 wX10_habit_c rfl
theorem dX10_habit_1 : decode cX10_habit 1 = .ok (.iload_n 1, 1) := dw_27 wX10_habit_c rfl
theorem dX10_habit_2 : decode cX10_habit 2 = .ok (.invokevirtual 348, 3) := dw_182 wX10_habit_c 1 92 rfl rfl
theorem dX10_habit_5 : decode cX10_habit 5 = .ok (.ifCond .ne 5, 3) := dw_154 wX10_habit_c 0 5 rfl rfl rfl
theorem dX10_habit_8 : decode cX10_habit 8 = .ok (.iconst (-1), 1) := dw_2 wX10_habit_c rfl
theorem dX10_habit_9 : decode cX10_habit 9 = .ok (.ireturn, 1) := dw_172 wX10_habit_c rfl
theorem dX10_habit_10 : decode cX10_habit 10 = .ok (.aload_n 0, 1) := dw_42 wX10_habit_c rfl
theorem dX10_habit_11 : decode cX10_habit 11 = .ok (.iload_n 1, 1) := dw_27 wX10_habit_c rfl
theorem dX10_habit_12 : decode cX10_habit 12 = .ok (.invokevirtual 489, 3) := dw_182 wX10_habit_c 1 233 rfl rfl
theorem dX10_habit_15 : decode cX10_habit 15 = .ok (.iload_n 2, 1) := dw_28 wX10_habit_c rfl
theorem dX10_habit_16 : decode cX10_habit 16 = .ok (.ifCond .ne 8, 3) := dw_154 wX10_habit_c 0 8 rfl rfl rfl
theorem dX10_habit_19 : decode cX10_habit 19 = .ok (.aload_n 0, 1) := dw_42 wX10_habit_c rfl
theorem dX10_habit_20 : decode cX10_habit 20 = .ok (.getfield 481, 3) := dw_180 wX10_habit_c 1 225 rfl rfl
theorem dX10_habit_23 : decode cX10_habit 23 = .ok (.ireturn, 1) := dw_172 wX10_habit_c rfl
theorem dX10_habit_24 : decode cX10_habit 24 = .ok (.iload_n 2, 1) := dw_28 wX10_habit_c rfl
theorem dX10_habit_25 : decode cX10_habit 25 = .ok (.iconst 1, 1) := dw_4 wX10_habit_c rfl
theorem dX10_habit_26 : decode cX10_habit 26 = .ok (.if_icmp .ne 8, 3) := dw_160 wX10_habit_c 0 8 rfl rfl rfl
theorem dX10_habit_29 : decode cX10_habit 29 = .ok (.aload_n 0, 1) := dw_42 wX10_habit_c rfl
theorem dX10_habit_30 : decode cX10_habit 30 = .ok (.getfield 484, 3) := dw_180 wX10_habit_c 1 228 rfl rfl
theorem dX10_habit_33 : decode cX10_habit 33 = .ok (.ireturn, 1) := dw_172 wX10_habit_c rfl
theorem dX10_habit_34 : decode cX10_habit 34 = .ok (.iload_n 2, 1) := dw_28 wX10_habit_c rfl
theorem dX10_habit_35 : decode cX10_habit 35 = .ok (.iconst 2, 1) := dw_5 wX10_habit_c rfl
theorem dX10_habit_36 : decode cX10_habit 36 = .ok (.if_icmp .eq 5, 3) := dw_159 wX10_habit_c 0 5 rfl rfl rfl
theorem dX10_habit_39 : decode cX10_habit 39 = .ok (.iconst (-1), 1) := dw_2 wX10_habit_c rfl
theorem dX10_habit_40 : decode cX10_habit 40 = .ok (.ireturn, 1) := dw_172 wX10_habit_c rfl
theorem dX10_habit_41 : decode cX10_habit 41 = .ok (.aload_n 0, 1) := dw_42 wX10_habit_c rfl
theorem dX10_habit_42 : decode cX10_habit 42 = .ok (.aload_n 0, 1) := dw_42 wX10_habit_c rfl
theorem dX10_habit_43 : decode cX10_habit 43 = .ok (.getfield 481, 3) := dw_180 wX10_habit_c 1 225 rfl rfl
theorem dX10_habit_46 : decode cX10_habit 46 = .ok (.aload_n 0, 1) := dw_42 wX10_habit_c rfl
theorem dX10_habit_47 : decode cX10_habit 47 = .ok (.getfield 484, 3) := dw_180 wX10_habit_c 1 228 rfl rfl
theorem dX10_habit_50 : decode cX10_habit 50 = .ok (.invokevirtual 492, 3) := dw_182 wX10_habit_c 1 236 rfl rfl
theorem dX10_habit_53 : decode cX10_habit 53 = .ok (.ifCond .eq 7, 3) := dw_153 wX10_habit_c 0 7 rfl rfl rfl
theorem dX10_habit_56 : decode cX10_habit 56 = .ok (.iconst 1, 1) := dw_4 wX10_habit_c rfl
theorem dX10_habit_57 : decode cX10_habit 57 = .ok (.goto 28, 3) := dw_167 wX10_habit_c 0 28 rfl rfl rfl
theorem dX10_habit_60 : decode cX10_habit 60 = .ok (.aload_n 0, 1) := dw_42 wX10_habit_c rfl
theorem dX10_habit_61 : decode cX10_habit 61 = .ok (.aload_n 0, 1) := dw_42 wX10_habit_c rfl
theorem dX10_habit_62 : decode cX10_habit 62 = .ok (.getfield 481, 3) := dw_180 wX10_habit_c 1 225 rfl rfl
theorem dX10_habit_65 : decode cX10_habit 65 = .ok (.aload_n 0, 1) := dw_42 wX10_habit_c rfl
theorem dX10_habit_66 : decode cX10_habit 66 = .ok (.getfield 481, 3) := dw_180 wX10_habit_c 1 225 rfl rfl
theorem dX10_habit_69 : decode cX10_habit 69 = .ok (.aload_n 0, 1) := dw_42 wX10_habit_c rfl
theorem dX10_habit_70 : decode cX10_habit 70 = .ok (.getfield 484, 3) := dw_180 wX10_habit_c 1 228 rfl rfl
theorem dX10_habit_73 : decode cX10_habit 73 = .ok (.isub, 1) := dw_100 wX10_habit_c rfl
theorem dX10_habit_74 : decode cX10_habit 74 = .ok (.invokevirtual 492, 3) := dw_182 wX10_habit_c 1 236 rfl rfl
theorem dX10_habit_77 : decode cX10_habit 77 = .ok (.ifCond .eq 7, 3) := dw_153 wX10_habit_c 0 7 rfl rfl rfl
theorem dX10_habit_80 : decode cX10_habit 80 = .ok (.iconst 2, 1) := dw_5 wX10_habit_c rfl
theorem dX10_habit_81 : decode cX10_habit 81 = .ok (.goto 4, 3) := dw_167 wX10_habit_c 0 4 rfl rfl rfl
theorem dX10_habit_84 : decode cX10_habit 84 = .ok (.iconst 0, 1) := dw_3 wX10_habit_c rfl
theorem dX10_habit_85 : decode cX10_habit 85 = .ok (.ireturn, 1) := dw_172 wX10_habit_c rfl
set_option maxHeartbeats 4000000 in
set_option maxRecDepth 100000 in
theorem t_X10_habit (l : Launch) (dC : Nat → ClassId) (dI : Nat → Nat → Nat) (dA : Nat → ClassId) (L : List Nat) (h : hx_h) (sz : Nat) (x : Nat) (i1 : Int32) (i2 : Int32) (hT : hx_T T_tb L h) (gx : hx_g L h x 10)  : Met l yX10_habit (Cond.code yX10_habit cX10_habit 3 (some .int) :: hx_all) ({ frames := 2, cells := 0, slots := 0, locals := 43 }) (va_Pc [.ref x, .int i1, .int i2] (hx_B T_tb (P_ty dA) (dC, dI) vwCl L h sz)) (va_Qi (fun (r : Int32) (u : List Nat × hx_h) => (True) ∧ hx_T T_tb u.1 u.2 ∧ hx_S T_tb [(10, 95), (10, 96), (115, 0)] L h u.1 u.2) (hx_E T_tb (P_ty dA) (dC, dI) vwCl (hx_A L sz)) (hx_A L sz)) 0 0 (hx_A L sz) := by
  refine hx_met (lv := [(0, .ref x), (1, .int i1), (2, .int i2)]) (by decide +kernel) rfl (Nat.le_of_ble_eq_true rfl) rfl ?_
  intro p e s m below meth c hx hb hml hr hlk hts0 hown hin hsz hW ls hl
  have hts : ∀ w ∈ hx_all, w.before _ s = true := fun w hw => hts0 w (List.mem_cons_of_mem _ hw)
  have hown : s.vm.findClass "SmallCourtModel" = some m.cls := hown
  have hM : hx_S T_tb [(10, 95), (10, 96), (115, 0)] L h L h := hx_S.rf
  refine lv_aload_n hx hb dX10_habit_0 rfl (lv_at hl 0 rfl) ?_
  refine lv_iload_n hx hb dX10_habit_1 rfl (lv_at hl 1 rfl) ?_
  obtain ⟨fv_1, efv_1⟩ : ∃ y : Int32, y = h.2.1 x 20 := ⟨_, rfl⟩
  have bfv_1 := hT.gi (gx.S hM) tt_10 (k := 20) rfl
  rw [← efv_1] at bfv_1
  have bfv_1 : 0 ≤ fv_1.toInt ∧ fv_1.toInt ≤ 40 := bfv_1
  have ffv_1 := efv_1.symm
  refine hx_goi (hx_runV (As := [.int i1]) (rest := []) ⟨hx, hb, hml, hown, hts⟩ hW (gx.S hM) tt_10 (T := TX10) (N := 98) rfl (t_X10_isPerson l dC dI dA L h s.heap.size x i1 hT (gx.S hM) fv_1 ffv_1) (cwV 1 hts (hx_gV kw_1552 kw_1549 kw_1551 kw_68 kw_103) rfl rfl rfl (by decide +kernel) ⟨Nat.le_of_ble_eq_true rfl, Nat.le_of_ble_eq_true rfl⟩) rfl hl.1 rfl (Nat.le_of_ble_eq_true rfl) dX10_habit_2 ⟨Nat.le_of_ble_eq_true rfl, Nat.le_of_ble_eq_true rfl⟩) hW (fun r_4 L_2 h_3 H locs p_5 hW => ?_)
  obtain ⟨hr_6, hT, hs⟩ := p_5
  replace hT : hx_T T_tb L_2 h_3 := hT
  replace hs : hx_S T_tb [] L h L_2 h_3 := hs
  replace ffv_1 := (hs.o (gx.S hM) trivial rfl).1.trans ffv_1
  replace hM := hM.tr (hs.mono (by decide))
  refine hb_if_ne (zx := r_4.toInt) (tgt := 10) hx hb rfl dX10_habit_5 (by decide) (fun c_7 => ?_) (fun c_7 => ?_)
  · skip
    replace hr_6 := hr_6.resolve_left (fun z9 => c_7 z9.1)
    replace c_7 := hr_6.1
    replace hr_6 := hr_6.2
    refine lv_aload_n hx hb dX10_habit_10 rfl (lv_at hl 0 rfl) ?_
    refine lv_iload_n hx hb dX10_habit_11 rfl (lv_at hl 1 rfl) ?_
    refine hx_gov (hx_runV (As := [.int i1]) (rest := []) ⟨hx, hb, hml, hown, hts⟩ hW (gx.S hM) tt_10 (T := TX10) (N := 98) rfl (t_X10_habits l dC dI dA L_2 h_3 H.size x i1 hT (gx.S hM)) (cwV 1 hts (hx_gV kw_1740 kw_1737 kw_1739 kw_91 kw_103) rfl rfl rfl (by decide +kernel) ⟨Nat.le_of_ble_eq_true rfl, Nat.le_of_ble_eq_true rfl⟩) rfl hl.1 rfl (Nat.le_of_ble_eq_true rfl) dX10_habit_12 ⟨Nat.le_of_ble_eq_true rfl, Nat.le_of_ble_eq_true rfl⟩) hW (fun L_8 h_9 H locs p_11 hW => ?_)
    obtain ⟨⟨w_13, w_14, fw_13, fw_14, hr_12⟩, hT, hs⟩ := p_11
    replace hT : hx_T T_tb L_8 h_9 := hT
    replace hs : hx_S T_tb [(10, 95), (10, 96)] L_2 h_3 L_8 h_9 := hs
    replace ffv_1 := (hs.o (gx.S hM) trivial rfl).1.trans ffv_1
    replace hM := hM.tr (hs.mono (by decide))
    have fw_13 : h_9.2.1 x 95 = w_13 := fw_13
    have bw_13 := hT.gi (gx.S hM) tt_10 (k := 95) rfl
    rw [fw_13] at bw_13
    have bw_13 : 0 ≤ w_13.toInt ∧ w_13.toInt ≤ 60 := bw_13
    have fw_14 : h_9.2.1 x 96 = w_14 := fw_14
    have bw_14 := hT.gi (gx.S hM) tt_10 (k := 96) rfl
    rw [fw_14] at bw_14
    have bw_14 : 0 ≤ w_14.toInt ∧ w_14.toInt ≤ 60 := bw_14
    refine lv_iload_n hx hb dX10_habit_15 rfl (lv_at hl 2 rfl) ?_
    refine hb_if_ne (zx := i2.toInt) (tgt := 24) hx hb rfl dX10_habit_16 (by decide) (fun c_15 => ?_) (fun c_15 => ?_)
    · skip
      refine lv_iload_n hx hb dX10_habit_24 rfl (lv_at hl 2 rfl) ?_
      refine lv_iconst (v := 1) hx hb dX10_habit_25 (by decide) ?_
      refine hb_icmp_ne (zx := i2.toInt) (zy := 1) (tgt := 34) hx hb rfl (by decide) dX10_habit_26 (by decide) (fun c_16 => ?_) (fun c_16 => ?_)
      · skip
        refine lv_iload_n hx hb dX10_habit_34 rfl (lv_at hl 2 rfl) ?_
        refine lv_iconst (v := 2) hx hb dX10_habit_35 (by decide) ?_
        refine hb_icmp_eq (zx := i2.toInt) (zy := 2) (tgt := 41) hx hb rfl (by decide) dX10_habit_36 (by decide) (fun c_17 => ?_) (fun c_17 => ?_)
        · skip
          refine lv_aload_n hx hb dX10_habit_41 rfl (lv_at hl 0 rfl) ?_
          refine lv_aload_n hx hb dX10_habit_42 rfl (lv_at hl 0 rfl) ?_
          refine hk_geti hx hb hts hC_10 hown hW (gx.S hM) tt_10 95 (by decide) rfl kw_1238 ⟨rfl, rfl, rfl⟩ fw_13 dX10_habit_43 ?_
          refine lv_aload_n hx hb dX10_habit_46 rfl (lv_at hl 0 rfl) ?_
          refine hk_geti hx hb hts hC_10 hown hW (gx.S hM) tt_10 96 (by decide) rfl kw_1239 ⟨rfl, rfl, rfl⟩ fw_14 dX10_habit_47 ?_
          refine hx_goi (hx_runV (As := [.int w_13, .int w_14]) (rest := []) ⟨hx, hb, hml, hown, hts⟩ hW (gx.S hM) tt_10 (T := TX10) (N := 98) rfl (t_X10_isRare l dC dI dA L_8 h_9 H.size x w_13 w_14 hT (gx.S hM) ⟨by omega, by omega⟩ ⟨by omega, by omega⟩) (cwV 2 hts (hx_gV kw_1744 kw_1741 kw_1743 kw_92 kw_103) rfl rfl rfl (by decide +kernel) ⟨Nat.le_of_ble_eq_true rfl, Nat.le_of_ble_eq_true rfl⟩) rfl hl.1 rfl (Nat.le_of_ble_eq_true rfl) dX10_habit_50 ⟨Nat.le_of_ble_eq_true rfl, Nat.le_of_ble_eq_true rfl⟩) hW (fun r_20 L_18 h_19 H locs p_21 hW => ?_)
          obtain ⟨hr_22, hT, hs⟩ := p_21
          replace hT : hx_T T_tb L_18 h_19 := hT
          replace hs : hx_S T_tb [(115, 0)] L_8 h_9 L_18 h_19 := hs
          replace ffv_1 := (hs.o (gx.S hM) trivial rfl).1.trans ffv_1
          replace fw_13 := (hs.o (gx.S hM) trivial rfl).1.trans fw_13
          replace fw_14 := (hs.o (gx.S hM) trivial rfl).1.trans fw_14
          replace hM := hM.tr (hs.mono (by decide))
          refine hb_if_eq (zx := r_20.toInt) (tgt := 60) hx hb rfl dX10_habit_53 (by decide) (fun c_23 => ?_) (fun c_23 => ?_)
          · skip
            refine lv_aload_n hx hb dX10_habit_60 rfl (lv_at hl 0 rfl) ?_
            refine lv_aload_n hx hb dX10_habit_61 rfl (lv_at hl 0 rfl) ?_
            refine hk_geti hx hb hts hC_10 hown hW (gx.S hM) tt_10 95 (by decide) rfl kw_1238 ⟨rfl, rfl, rfl⟩ fw_13 dX10_habit_62 ?_
            refine lv_aload_n hx hb dX10_habit_65 rfl (lv_at hl 0 rfl) ?_
            refine hk_geti hx hb hts hC_10 hown hW (gx.S hM) tt_10 95 (by decide) rfl kw_1238 ⟨rfl, rfl, rfl⟩ fw_13 dX10_habit_66 ?_
            refine lv_aload_n hx hb dX10_habit_69 rfl (lv_at hl 0 rfl) ?_
            refine hk_geti hx hb hts hC_10 hown hW (gx.S hM) tt_10 96 (by decide) rfl kw_1239 ⟨rfl, rfl, rfl⟩ fw_14 dX10_habit_70 ?_
            refine lv_isub hx hb dX10_habit_73 ?_
            have rg_24 := i32_r w_13
            have rg_25 := i32_r w_14
            refine lv_topi (fun x_26 ex_26 => ?_)
            have zx_26 : x_26.toInt = w_13.toInt - w_14.toInt := by rw [ex_26]; exact i32_sub rfl rfl (by omega) (by omega)
            refine hx_goi (hx_runV (As := [.int w_13, .int x_26]) (rest := []) ⟨hx, hb, hml, hown, hts⟩ hW (gx.S hM) tt_10 (T := TX10) (N := 98) rfl (t_X10_isRare l dC dI dA L_18 h_19 H.size x w_13 x_26 hT (gx.S hM) ⟨by omega, by omega⟩ ⟨by omega, by omega⟩) (cwV 2 hts (hx_gV kw_1744 kw_1741 kw_1743 kw_92 kw_103) rfl rfl rfl (by decide +kernel) ⟨Nat.le_of_ble_eq_true rfl, Nat.le_of_ble_eq_true rfl⟩) rfl hl.1 rfl (Nat.le_of_ble_eq_true rfl) dX10_habit_74 ⟨Nat.le_of_ble_eq_true rfl, Nat.le_of_ble_eq_true rfl⟩) hW (fun r_29 L_27 h_28 H locs p_30 hW => ?_)
            obtain ⟨hr_31, hT, hs⟩ := p_30
            replace hT : hx_T T_tb L_27 h_28 := hT
            replace hs : hx_S T_tb [(115, 0)] L_18 h_19 L_27 h_28 := hs
            replace ffv_1 := (hs.o (gx.S hM) trivial rfl).1.trans ffv_1
            replace fw_13 := (hs.o (gx.S hM) trivial rfl).1.trans fw_13
            replace fw_14 := (hs.o (gx.S hM) trivial rfl).1.trans fw_14
            replace hM := hM.tr (hs.mono (by decide))
            have jn_85 : ∀ (xj_32 : Int32) (ls : Array Slot), 0 ≤ xj_32.toInt → xj_32.toInt ≤ 2 → lv_has ls 3 [(0, .ref x), (1, .int i1), (2, .int i2)] → W p l e ({ frames := 2, cells := 0, slots := 0, locals := 43 }) s m ([.ref x, .int i1, .int i2] : List Value).toArray below meth c H locs 0 0 (MQ below (va_Qi (fun (r : Int32) (u : List Nat × hx_h) => (True) ∧ hx_T T_tb u.1 u.2 ∧ hx_S T_tb [(10, 95), (10, 96), (115, 0)] L h u.1 u.2) (hx_E T_tb (P_ty dA) (dC, dI) vwCl (hx_A L sz)) (hx_A L sz)) ([.ref x, .int i1, .int i2] : List Value).toArray s 0 0 (hx_A L sz)) (F0 m 85 ls [.int xj_32]) := by
              intro xj_32 ls blxj_32 buxj_32 hl
              exact hx_reti hx hb hr hlk hW ⟨trivial, hT, hM⟩ dX10_habit_85
            refine hb_if_eq (zx := r_29.toInt) (tgt := 84) hx hb rfl dX10_habit_77 (by decide) (fun c_33 => ?_) (fun c_33 => ?_)
            · skip
              refine lv_iconst (v := 0) hx hb dX10_habit_84 (by decide) ?_
              exact jn_85 (0 : Int32) ls (by decide) (by decide) hl
            · skip
              refine lv_iconst (v := 2) hx hb dX10_habit_80 (by decide) ?_
              refine lv_goto (tgt := 85) hx hb dX10_habit_81 (by decide) ?_
              exact jn_85 (2 : Int32) ls (by decide) (by decide) hl
          · skip
            refine lv_iconst (v := 1) hx hb dX10_habit_56 (by decide) ?_
            refine lv_goto (tgt := 85) hx hb dX10_habit_57 (by decide) ?_
            exact hx_reti hx hb hr hlk hW ⟨trivial, hT, hM⟩ dX10_habit_85
        · skip
          refine lv_iconst (v := -1) hx hb dX10_habit_39 (by decide) ?_
          exact hx_reti hx hb hr hlk hW ⟨trivial, hT, hM⟩ dX10_habit_40
      · skip
        refine lv_aload_n hx hb dX10_habit_29 rfl (lv_at hl 0 rfl) ?_
        refine hk_geti hx hb hts hC_10 hown hW (gx.S hM) tt_10 96 (by decide) rfl kw_1239 ⟨rfl, rfl, rfl⟩ fw_14 dX10_habit_30 ?_
        exact hx_reti hx hb hr hlk hW ⟨trivial, hT, hM⟩ dX10_habit_33
    · skip
      refine lv_aload_n hx hb dX10_habit_19 rfl (lv_at hl 0 rfl) ?_
      refine hk_geti hx hb hts hC_10 hown hW (gx.S hM) tt_10 95 (by decide) rfl kw_1238 ⟨rfl, rfl, rfl⟩ fw_13 dX10_habit_20 ?_
      exact hx_reti hx hb hr hlk hW ⟨trivial, hT, hM⟩ dX10_habit_23
  · skip
    replace hr_6 := hr_6.resolve_right (fun z9 => absurd (c_7.symm.trans z9.1) (by decide))
    replace hr_6 := hr_6.2
    refine lv_iconst (v := -1) hx hb dX10_habit_8 (by decide) ?_
    exact hx_reti hx hb hr hlk hW ⟨trivial, hT, hM⟩ dX10_habit_9

def wNX10_count : Nat := 146025962961505950673363656105255261439246016655938568017190169746186071591912930036819372598655944859169878296439644955732875090219433911178268569899280272306281052350027213321527688283291849301836532678758779008386561677550977543904164536343003237880834343513785417030789322171942414257991083139204920617487643381581950390244162819
theorem wX10_count_c : hz_cd cX10_count wNX10_count 138 := ⟨by decide +kernel, by decide +kernel⟩
theorem dX10_count_0 : decode cX10_count 0 = .ok (.iconst 0, 1) := dw_3 wX10_count_c rfl
theorem dX10_count_1 : decode cX10_count 1 = .ok (.istore_n 2, 1) := dw_61 wX10_count_c rfl
theorem dX10_count_2 : decode cX10_count 2 = .ok (.iload_n 1, 1) := dw_27 wX10_count_c rfl
theorem dX10_count_3 : decode cX10_count 3 = .ok (.tableswitch 133 0 8 #[49, 54, 59, 64, 108, 113, 118, 123, 128], 49) := by decide +kernel
theorem dX10_count_52 : decode cX10_count 52 = .ok (.aload_n 0, 1) := dw_42 wX10_count_c rfl
theorem dX10_count_53 : decode cX10_count 53 = .ok (.getfield 232, 3) := dw_180 wX10_count_c 0 232 rfl rfl
theorem dX10_count_56 : decode cX10_count 56 = .ok (.ireturn, 1) := dw_172 wX10_count_c rfl
theorem dX10_count_57 : decode cX10_count 57 = .ok (.aload_n 0, 1) := dw_42 wX10_count_c rfl
theorem dX10_count_58 : decode cX10_count 58 = .ok (.getfield 321, 3) := dw_180 wX10_count_c 1 65 rfl rfl
theorem dX10_count_61 : decode cX10_count 61 = .ok (.ireturn, 1) := dw_172 wX10_count_c rfl
theorem dX10_count_62 : decode cX10_count 62 = .ok (.aload_n 0, 1) := dw_42 wX10_count_c rfl
theorem dX10_count_63 : decode cX10_count 63 = .ok (.getfield 337, 3) := dw_180 wX10_count_c 1 81 rfl rfl
theorem dX10_count_66 : decode cX10_count 66 = .ok (.ireturn, 1) := dw_172 wX10_count_c rfl
theorem dX10_count_67 : decode cX10_count 67 = .ok (.iconst 0, 1) := dw_3 wX10_count_c rfl
theorem dX10_count_68 : decode cX10_count 68 = .ok (.istore_n 3, 1) := dw_62 wX10_count_c rfl
theorem dX10_count_69 : decode cX10_count 69 = .ok (.iload_n 3, 1) := dw_29 wX10_count_c rfl
theorem dX10_count_70 : decode cX10_count 70 = .ok (.aload_n 0, 1) := dw_42 wX10_count_c rfl
theorem dX10_count_71 : decode cX10_count 71 = .ok (.getfield 337, 3) := dw_180 wX10_count_c 1 81 rfl rfl
theorem dX10_count_74 : decode cX10_count 74 = .ok (.if_icmp .ge 35, 3) := dw_162 wX10_count_c 0 35 rfl rfl rfl
theorem dX10_count_77 : decode cX10_count 77 = .ok (.iload_n 2, 1) := dw_28 wX10_count_c rfl
theorem dX10_count_78 : decode cX10_count 78 = .ok (.aload_n 0, 1) := dw_42 wX10_count_c rfl
theorem dX10_count_79 : decode cX10_count 79 = .ok (.getfield 60, 3) := dw_180 wX10_count_c 0 60 rfl rfl
theorem dX10_count_82 : decode cX10_count 82 = .ok (.iload_n 3, 1) := dw_29 wX10_count_c rfl
theorem dX10_count_83 : decode cX10_count 83 = .ok (.baload, 1) := dw_51 wX10_count_c rfl
theorem dX10_count_84 : decode cX10_count 84 = .ok (.ifCond .eq 16, 3) := dw_153 wX10_count_c 0 16 rfl rfl rfl
theorem dX10_count_87 : decode cX10_count 87 = .ok (.aload_n 0, 1) := dw_42 wX10_count_c rfl
theorem dX10_count_88 : decode cX10_count 88 = .ok (.getfield 56, 3) := dw_180 wX10_count_c 0 56 rfl rfl
theorem dX10_count_91 : decode cX10_count 91 = .ok (.iload_n 3, 1) := dw_29 wX10_count_c rfl
theorem dX10_count_92 : decode cX10_count 92 = .ok (.baload, 1) := dw_51 wX10_count_c rfl
theorem dX10_count_93 : decode cX10_count 93 = .ok (.ifCond .ne 7, 3) := dw_154 wX10_count_c 0 7 rfl rfl rfl
theorem dX10_count_96 : decode cX10_count 96 = .ok (.iconst 1, 1) := dw_4 wX10_count_c rfl
theorem dX10_count_97 : decode cX10_count 97 = .ok (.goto 4, 3) := dw_167 wX10_count_c 0 4 rfl rfl rfl
theorem dX10_count_100 : decode cX10_count 100 = .ok (.iconst 0, 1) := dw_3 wX10_count_c rfl
theorem dX10_count_101 : decode cX10_count 101 = .ok (.iadd, 1) := dw_96 wX10_count_c rfl
theorem dX10_count_102 : decode cX10_count 102 = .ok (.istore_n 2, 1) := dw_61 wX10_count_c rfl
theorem dX10_count_103 : decode cX10_count 103 = .ok (.iinc 3 1, 3) := dw_132 wX10_count_c 3 1 rfl rfl rfl
theorem dX10_count_106 : decode cX10_count 106 = .ok (.goto (-37), 3) := dn_167 wX10_count_c 255 219 rfl (by decide)
theorem dX10_count_109 : decode cX10_count 109 = .ok (.iload_n 2, 1) := dw_28 wX10_count_c rfl
theorem dX10_count_110 : decode cX10_count 110 = .ok (.ireturn, 1) := dw_172 wX10_count_c rfl
theorem dX10_count_111 : decode cX10_count 111 = .ok (.aload_n 0, 1) := dw_42 wX10_count_c rfl
theorem dX10_count_112 : decode cX10_count 112 = .ok (.getfield 351, 3) := dw_180 wX10_count_c 1 95 rfl rfl
theorem dX10_count_115 : decode cX10_count 115 = .ok (.ireturn, 1) := dw_172 wX10_count_c rfl
theorem dX10_count_116 : decode cX10_count 116 = .ok (.aload_n 0, 1) := dw_42 wX10_count_c rfl
theorem dX10_count_117 : decode cX10_count 117 = .ok (.getfield 367, 3) := dw_180 wX10_count_c 1 111 rfl rfl
theorem dX10_count_120 : decode cX10_count 120 = .ok (.ireturn, 1) := dw_172 wX10_count_c rfl
theorem dX10_count_121 : decode cX10_count 121 = .ok (.aload_n 0, 1) := dw_42 wX10_count_c rfl
theorem dX10_count_122 : decode cX10_count 122 = .ok (.getfield 413, 3) := dw_180 wX10_count_c 1 157 rfl rfl
theorem dX10_count_125 : decode cX10_count 125 = .ok (.ireturn, 1) := dw_172 wX10_count_c rfl
theorem dX10_count_126 : decode cX10_count 126 = .ok (.aload_n 0, 1) := dw_42 wX10_count_c rfl
theorem dX10_count_127 : decode cX10_count 127 = .ok (.getfield 236, 3) := dw_180 wX10_count_c 0 236 rfl rfl
theorem dX10_count_130 : decode cX10_count 130 = .ok (.ireturn, 1) := dw_172 wX10_count_c rfl
theorem dX10_count_131 : decode cX10_count 131 = .ok (.aload_n 0, 1) := dw_42 wX10_count_c rfl
theorem dX10_count_132 : decode cX10_count 132 = .ok (.getfield 468, 3) := dw_180 wX10_count_c 1 212 rfl rfl
theorem dX10_count_135 : decode cX10_count 135 = .ok (.ireturn, 1) := dw_172 wX10_count_c rfl
theorem dX10_count_136 : decode cX10_count 136 = .ok (.iconst (-1), 1) := dw_2 wX10_count_c rfl
theorem dX10_count_137 : decode cX10_count 137 = .ok (.ireturn, 1) := dw_172 wX10_count_c rfl