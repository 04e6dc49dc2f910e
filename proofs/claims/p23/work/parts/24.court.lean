theorem dX9_personAt_0 : decode cX9_personAt 0 = .ok (.iload_n 1, 1) := by decide +kernel
theorem dX9_personAt_1 : decode cX9_personAt 1 = .ok (.ifCond .lt 11, 3) := by decide +kernel
theorem dX9_personAt_4 : decode cX9_personAt 4 = .ok (.iload_n 1, 1) := by decide +kernel
theorem dX9_personAt_5 : decode cX9_personAt 5 = .ok (.aload_n 0, 1) := by decide +kernel
theorem dX9_personAt_6 : decode cX9_personAt 6 = .ok (.getfield 125, 3) := by decide +kernel
theorem dX9_personAt_9 : decode cX9_personAt 9 = .ok (.if_icmp .lt 7, 3) := by decide +kernel
theorem dX9_personAt_12 : decode cX9_personAt 12 = .ok (.aconst_null, 1) := by decide +kernel
theorem dX9_personAt_13 : decode cX9_personAt 13 = .ok (.goto 9, 3) := by decide +kernel
theorem dX9_personAt_16 : decode cX9_personAt 16 = .ok (.aload_n 0, 1) := by decide +kernel
theorem dX9_personAt_17 : decode cX9_personAt 17 = .ok (.getfield 35, 3) := by decide +kernel
theorem dX9_personAt_20 : decode cX9_personAt 20 = .ok (.iload_n 1, 1) := by decide +kernel
theorem dX9_personAt_21 : decode cX9_personAt 21 = .ok (.aaload, 1) := by decide +kernel
theorem dX9_personAt_22 : decode cX9_personAt 22 = .ok (.areturn, 1) := by decide +kernel
set_option maxHeartbeats 4000000 in
set_option maxRecDepth 100000 in
theorem t_X9_personAt (l : Launch) (dC : Nat → ClassId) (dI : Nat → Nat → Nat) (dA : Nat → ClassId) (L : List Nat) (h : hx_h) (sz : Nat) (x : Nat) (i1 : Int32) (hT : hx_T T_tb L h) (gx : hx_g L h x 9) (qp : Nat) (gqp : hx_g L h qp 44) (f_x_7 : h.2.2 x 7 = some qp) (pf_x_8 : ∀ j : Nat, (j : Int) < (h.2.1 x 8).toInt → h.2.2 qp j ≠ none) : Met l yX9_personAt (Cond.code yX9_personAt cX9_personAt 2 (some (.object "SmallCourt$Person")) :: hx_all) ({ frames := 0, cells := 0, slots := 0, locals := 0 }) (va_Pc [.ref x, .int i1] (hx_B T_tb (P_ty dA) (dC, dI) vwCl L h sz)) (va_Qq (fun (r : Option Nat) (u : List Nat × hx_h) => ((∀ q, r = some q → hx_g u.1 u.2 q 4)) ∧ hx_T T_tb u.1 u.2 ∧ hx_S T_tb [] L h u.1 u.2) (hx_E T_tb (P_ty dA) (dC, dI) vwCl (hx_A L sz)) (hx_A L sz)) 0 0 (hx_A L sz) := by
  refine hx_met (lv := [(0, .ref x), (1, .int i1)]) (by decide +kernel) rfl (Nat.le_of_ble_eq_true rfl) rfl ?_
  intro p e s m below meth c hx hb hml hr hlk hts0 hown hin hsz hW ls hl
  have hts : ∀ w ∈ hx_all, w.before _ s = true := fun w hw => hts0 w (List.mem_cons_of_mem _ hw)
  have hown : s.vm.findClass "SmallCourt" = some m.cls := hown
  have hM : hx_S T_tb [] L h L h := hx_S.rf
  refine lv_iload_n hx hb dX9_personAt_0 rfl (lv_at hl 1 rfl) ?_
  refine hb_if_lt (zx := i1.toInt) (tgt := 12) hx hb rfl dX9_personAt_1 (by decide) (fun c_1 => ?_) (fun c_1 => ?_)
  · skip
    refine lv_null hx hb dX9_personAt_12 ?_
    refine lv_goto (tgt := 22) hx hb dX9_personAt_13 (by decide) ?_
    exact hx_retq (v := none) hx hb hr (Or.inl ⟨_, rfl⟩) hlk hW ⟨(fun q hq => by cases hq), hT, hM⟩ dX9_personAt_22
  · skip
    refine lv_iload_n hx hb dX9_personAt_4 rfl (lv_at hl 1 rfl) ?_
    refine lv_aload_n hx hb dX9_personAt_5 rfl (lv_at hl 0 rfl) ?_
    refine hx_geti hx hb hts hC_9 hown hW hT (gx.S hM) tt_9 8 (by decide) rfl kw_372 ⟨rfl, rfl, rfl⟩ dX9_personAt_6 (fun x_2 ex_2 lx_2 ux_2 => ?_)
    have fx_2 := ex_2.symm
    refine hb_icmp_lt (zx := i1.toInt) (zy := x_2.toInt) (tgt := 16) hx hb rfl rfl dX9_personAt_9 (by decide) (fun c_3 => ?_) (fun c_3 => ?_)
    · skip
      refine lv_aload_n hx hb dX9_personAt_16 rfl (lv_at hl 0 rfl) ?_
      refine hk_getr hx hb hts hC_9 hown hW (gx.S hM) tt_9 7 (by decide) rfl kw_371 ⟨rfl, rfl, rfl⟩ ((hM.o gx trivial rfl).2.trans f_x_7) dX9_personAt_17 ?_
      refine lv_iload_n hx hb dX9_personAt_20 rfl (lv_at hl 1 rfl) ?_
      refine hx_aaldN hx hb hW hT (gqp.S hM) tt_44 (t1 := 4) rfl ⟨by omega, by omega⟩ (pf_x_8 _ (by rw [fx_2]; exact hx_tnI (by omega) (by omega))) dX9_personAt_21 (fun q_4 fq_4 gq_4 => ?_)
      exact hx_retq (v := (some q_4)) hx hb hr (Or.inl ⟨_, rfl⟩) hlk hW ⟨(fun q hq => by cases hq; exact gq_4), hT, hM⟩ dX9_personAt_22
    · skip
      refine lv_null hx hb dX9_personAt_12 ?_
      refine lv_goto (tgt := 22) hx hb dX9_personAt_13 (by decide) ?_
      exact hx_retq (v := none) hx hb hr (Or.inl ⟨_, rfl⟩) hlk hW ⟨(fun q hq => by cases hq), hT, hM⟩ dX9_personAt_22

theorem dX9_claimAt_0 : decode cX9_claimAt 0 = .ok (.iload_n 1, 1) := by decide +kernel
theorem dX9_claimAt_1 : decode cX9_claimAt 1 = .ok (.ifCond .lt 11, 3) := by decide +kernel
theorem dX9_claimAt_4 : decode cX9_claimAt 4 = .ok (.iload_n 1, 1) := by decide +kernel
theorem dX9_claimAt_5 : decode cX9_claimAt 5 = .ok (.aload_n 0, 1) := by decide +kernel
theorem dX9_claimAt_6 : decode cX9_claimAt 6 = .ok (.getfield 181, 3) := by decide +kernel
theorem dX9_claimAt_9 : decode cX9_claimAt 9 = .ok (.if_icmp .lt 7, 3) := by decide +kernel
theorem dX9_claimAt_12 : decode cX9_claimAt 12 = .ok (.aconst_null, 1) := by decide +kernel
theorem dX9_claimAt_13 : decode cX9_claimAt 13 = .ok (.goto 9, 3) := by decide +kernel
theorem dX9_claimAt_16 : decode cX9_claimAt 16 = .ok (.aload_n 0, 1) := by decide +kernel
theorem dX9_claimAt_17 : decode cX9_claimAt 17 = .ok (.getfield 48, 3) := by decide +kernel
theorem dX9_claimAt_20 : decode cX9_claimAt 20 = .ok (.iload_n 1, 1) := by decide +kernel
theorem dX9_claimAt_21 : decode cX9_claimAt 21 = .ok (.aaload, 1) := by decide +kernel
theorem dX9_claimAt_22 : decode cX9_claimAt 22 = .ok (.areturn, 1) := by decide +kernel
theorem dX9_areTwo_0 : decode cX9_areTwo 0 = .ok (.iload_n 1, 1) := by decide +kernel
theorem dX9_areTwo_1 : decode cX9_areTwo 1 = .ok (.iload_n 2, 1) := by decide +kernel
theorem dX9_areTwo_2 : decode cX9_areTwo 2 = .ok (.if_icmp .eq 23, 3) := by decide +kernel
theorem dX9_areTwo_5 : decode cX9_areTwo 5 = .ok (.aload_n 0, 1) := by decide +kernel
theorem dX9_areTwo_6 : decode cX9_areTwo 6 = .ok (.iload_n 1, 1) := by decide +kernel
theorem dX9_areTwo_7 : decode cX9_areTwo 7 = .ok (.invokevirtual 144, 3) := by decide +kernel
theorem dX9_areTwo_10 : decode cX9_areTwo 10 = .ok (.ifnull 15, 3) := by decide +kernel
theorem dX9_areTwo_13 : decode cX9_areTwo 13 = .ok (.aload_n 0, 1) := by decide +kernel
theorem dX9_areTwo_14 : decode cX9_areTwo 14 = .ok (.iload_n 2, 1) := by decide +kernel
theorem dX9_areTwo_15 : decode cX9_areTwo 15 = .ok (.invokevirtual 144, 3) := by decide +kernel
theorem dX9_areTwo_18 : decode cX9_areTwo 18 = .ok (.ifnull 7, 3) := by decide +kernel
theorem dX9_areTwo_21 : decode cX9_areTwo 21 = .ok (.iconst 1, 1) := by decide +kernel
theorem dX9_areTwo_22 : decode cX9_areTwo 22 = .ok (.goto 4, 3) := by decide +kernel
theorem dX9_areTwo_25 : decode cX9_areTwo 25 = .ok (.iconst 0, 1) := by decide +kernel
theorem dX9_areTwo_26 : decode cX9_areTwo 26 = .ok (.ireturn, 1) := by decide +kernel
def wNX9_feedBytes : Nat := 106926792096430760068499693496658080250040039507979479087248313367429784101262711490432646294184071232740646524944
theorem wX9_feedBytes_c : hz_cd cX9_feedBytes wNX9_feedBytes 47 := ⟨by decide +kernel, by decide +kernel⟩
theorem dX9_feedBytes_0 : decode cX9_feedBytes 0 = .ok (.bipush 24, 2) := dw_16 wX9_feedBytes_c 24 rfl rfl rfl
theorem dX9_feedBytes_2 : decode cX9_feedBytes 2 = .ok (.istore_n 2, 1) := dw_61 wX9_feedBytes_c rfl
theorem dX9_feedBytes_3 : decode cX9_feedBytes 3 = .ok (.iload_n 2, 1) := dw_28 wX9_feedBytes_c rfl
theorem dX9_feedBytes_4 : decode cX9_feedBytes 4 = .ok (.ifCond .lt 42, 3) := dw_155 wX9_feedBytes_c 0 42 rfl rfl rfl
theorem dX9_feedBytes_7 : decode cX9_feedBytes 7 = .ok (.aload_n 0, 1) := dw_42 wX9_feedBytes_c rfl
theorem dX9_feedBytes_8 : decode cX9_feedBytes 8 = .ok (.getfield 98, 3) := dw_180 wX9_feedBytes_c 0 98 rfl rfl
theorem dX9_feedBytes_11 : decode cX9_feedBytes 11 = .ok (.sipush 400, 3) := dw_17 wX9_feedBytes_c 1 144 rfl rfl rfl
theorem dX9_feedBytes_14 : decode cX9_feedBytes 14 = .ok (.if_icmp .ge 32, 3) := dw_162 wX9_feedBytes_c 0 32 rfl rfl rfl
theorem dX9_feedBytes_17 : decode cX9_feedBytes 17 = .ok (.aload_n 0, 1) := dw_42 wX9_feedBytes_c rfl
theorem dX9_feedBytes_18 : decode cX9_feedBytes 18 = .ok (.getfield 9, 3) := dw_180 wX9_feedBytes_c 0 9 rfl rfl
theorem dX9_feedBytes_21 : decode cX9_feedBytes 21 = .ok (.aload_n 0, 1) := dw_42 wX9_feedBytes_c rfl
theorem dX9_feedBytes_22 : decode cX9_feedBytes 22 = .ok (.getfield 98, 3) := dw_180 wX9_feedBytes_c 0 98 rfl rfl
theorem dX9_feedBytes_25 : decode cX9_feedBytes 25 = .ok (.iload_n 1, 1) := dw_27 wX9_feedBytes_c rfl
theorem dX9_feedBytes_26 : decode cX9_feedBytes 26 = .ok (.iload_n 2, 1) := dw_28 wX9_feedBytes_c rfl
theorem dX9_feedBytes_27 : decode cX9_feedBytes 27 = .ok (.ishr, 1) := dw_122 wX9_feedBytes_c rfl
theorem dX9_feedBytes_28 : decode cX9_feedBytes 28 = .ok (.i2b, 1) := dw_145 wX9_feedBytes_c rfl
theorem dX9_feedBytes_29 : decode cX9_feedBytes 29 = .ok (.bastore, 1) := dw_84 wX9_feedBytes_c rfl
theorem dX9_feedBytes_30 : decode cX9_feedBytes 30 = .ok (.aload_n 0, 1) := dw_42 wX9_feedBytes_c rfl
theorem dX9_feedBytes_31 : decode cX9_feedBytes 31 = .ok (.dup, 1) := dw_89 wX9_feedBytes_c rfl
theorem dX9_feedBytes_32 : decode cX9_feedBytes 32 = .ok (.getfield 98, 3) := dw_180 wX9_feedBytes_c 0 98 rfl rfl
theorem dX9_feedBytes_35 : decode cX9_feedBytes 35 = .ok (.iconst 1, 1) := dw_4 wX9_feedBytes_c rfl
theorem dX9_feedBytes_36 : decode cX9_feedBytes 36 = .ok (.iadd, 1) := dw_96 wX9_feedBytes_c rfl
theorem dX9_feedBytes_37 : decode cX9_feedBytes 37 = .ok (.putfield 98, 3) := dw_181 wX9_feedBytes_c 0 98 rfl rfl
theorem dX9_feedBytes_40 : decode cX9_feedBytes 40 = .ok (.iinc 2 (-8), 3) := dn_132 wX9_feedBytes_c 2 248 rfl (by decide)
theorem dX9_feedBytes_43 : decode cX9_feedBytes 43 = .ok (.goto (-40), 3) := dn_167 wX9_feedBytes_c 255 216 rfl (by decide)
theorem dX9_feedBytes_46 : decode cX9_feedBytes 46 = .ok (.return_, 1) := dw_177 wX9_feedBytes_c rfl
def wNX9_feed : Nat := 103641190634208677366575353167189495109136908430053597656568722545926797974806146427338782791637635849279978386474
theorem wX9_feed_c : hz_cd cX9_feed wNX9_feed 47 := ⟨by decide +kernel, by decide +kernel⟩
theorem dX9_feed_0 : decode cX9_feed 0 = .ok (.aload_n 0, 1) := dw_42 wX9_feed_c rfl
theorem dX9_feed_1 : decode cX9_feed 1 = .ok (.getfield 98, 3) := dw_180 wX9_feed_c 0 98 rfl rfl
theorem dX9_feed_4 : decode cX9_feed 4 = .ok (.bipush 20, 2) := dw_16 wX9_feed_c 20 rfl rfl rfl
theorem dX9_feed_6 : decode cX9_feed 6 = .ok (.iadd, 1) := dw_96 wX9_feed_c rfl
theorem dX9_feed_7 : decode cX9_feed 7 = .ok (.sipush 400, 3) := dw_17 wX9_feed_c 1 144 rfl rfl rfl
theorem dX9_feed_10 : decode cX9_feed 10 = .ok (.if_icmp .le 5, 3) := dw_164 wX9_feed_c 0 5 rfl rfl rfl
theorem dX9_feed_13 : decode cX9_feed 13 = .ok (.iconst (-1), 1) := dw_2 wX9_feed_c rfl
theorem dX9_feed_14 : decode cX9_feed 14 = .ok (.ireturn, 1) := dw_172 wX9_feed_c rfl
theorem dX9_feed_15 : decode cX9_feed 15 = .ok (.aload_n 0, 1) := dw_42 wX9_feed_c rfl
theorem dX9_feed_16 : decode cX9_feed 16 = .ok (.iload_n 1, 1) := dw_27 wX9_feed_c rfl
theorem dX9_feed_17 : decode cX9_feed 17 = .ok (.invokevirtual 101, 3) := dw_182 wX9_feed_c 0 101 rfl rfl
theorem dX9_feed_20 : decode cX9_feed 20 = .ok (.aload_n 0, 1) := dw_42 wX9_feed_c rfl
theorem dX9_feed_21 : decode cX9_feed 21 = .ok (.iload_n 2, 1) := dw_28 wX9_feed_c rfl
theorem dX9_feed_22 : decode cX9_feed 22 = .ok (.invokevirtual 101, 3) := dw_182 wX9_feed_c 0 101 rfl rfl
theorem dX9_feed_25 : decode cX9_feed 25 = .ok (.aload_n 0, 1) := dw_42 wX9_feed_c rfl
theorem dX9_feed_26 : decode cX9_feed 26 = .ok (.iload_n 3, 1) := dw_29 wX9_feed_c rfl
theorem dX9_feed_27 : decode cX9_feed 27 = .ok (.invokevirtual 101, 3) := dw_182 wX9_feed_c 0 101 rfl rfl
theorem dX9_feed_30 : decode cX9_feed 30 = .ok (.aload_n 0, 1) := dw_42 wX9_feed_c rfl
theorem dX9_feed_31 : decode cX9_feed 31 = .ok (.iload 4, 2) := dw_21 wX9_feed_c 4 rfl
theorem dX9_feed_33 : decode cX9_feed 33 = .ok (.invokevirtual 101, 3) := dw_182 wX9_feed_c 0 101 rfl rfl
theorem dX9_feed_36 : decode cX9_feed 36 = .ok (.aload_n 0, 1) := dw_42 wX9_feed_c rfl
theorem dX9_feed_37 : decode cX9_feed 37 = .ok (.iload 5, 2) := dw_21 wX9_feed_c 5 rfl
theorem dX9_feed_39 : decode cX9_feed 39 = .ok (.invokevirtual 101, 3) := dw_182 wX9_feed_c 0 101 rfl rfl
theorem dX9_feed_42 : decode cX9_feed 42 = .ok (.aload_n 0, 1) := dw_42 wX9_feed_c rfl
theorem dX9_feed_43 : decode cX9_feed 43 = .ok (.getfield 98, 3) := dw_180 wX9_feed_c 0 98 rfl rfl
theorem dX9_feed_46 : decode cX9_feed 46 = .ok (.ireturn, 1) := dw_172 wX9_feed_c rfl
theorem dX9_end_0 : decode cX9_end 0 = .ok (.iload_n 1, 1) := by decide +kernel
theorem dX9_end_1 : decode cX9_end 1 = .ok (.ifCond .lt 11, 3) := by decide +kernel
theorem dX9_end_4 : decode cX9_end 4 = .ok (.iload_n 1, 1) := by decide +kernel
theorem dX9_end_5 : decode cX9_end 5 = .ok (.aload_n 0, 1) := by decide +kernel
theorem dX9_end_6 : decode cX9_end 6 = .ok (.getfield 98, 3) := by decide +kernel
theorem dX9_end_9 : decode cX9_end 9 = .ok (.if_icmp .le 5, 3) := by decide +kernel
theorem dX9_end_12 : decode cX9_end 12 = .ok (.iconst (-1), 1) := by decide +kernel
theorem dX9_end_13 : decode cX9_end 13 = .ok (.ireturn, 1) := by decide +kernel
theorem dX9_end_14 : decode cX9_end 14 = .ok (.aload_n 0, 1) := by decide +kernel
theorem dX9_end_15 : decode cX9_end 15 = .ok (.iload_n 1, 1) := by decide +kernel
theorem dX9_end_16 : decode cX9_end 16 = .ok (.putfield 98, 3) := by decide +kernel
theorem dX9_end_19 : decode cX9_end 19 = .ok (.iload_n 1, 1) := by decide +kernel
theorem dX9_end_20 : decode cX9_end 20 = .ok (.ireturn, 1) := by decide +kernel
def wNX9_anew : Nat := 103421696385738885898570826764662294274299162852920186222004547079581059415148296231806071651142868801524621253418
theorem wX9_anew_c : hz_cd cX9_anew wNX9_anew 47 := ⟨by decide +kernel, by decide +kernel⟩
theorem dX9_anew_0 : decode cX9_anew 0 = .ok (.aload_n 0, 1) := dw_42 wX9_anew_c rfl
theorem dX9_anew_1 : decode cX9_anew 1 = .ok (.iload_n 1, 1) := dw_27 wX9_anew_c rfl
theorem dX9_anew_2 : decode cX9_anew 2 = .ok (.invokevirtual 144, 3) := dw_182 wX9_anew_c 0 144 rfl rfl
theorem dX9_anew_5 : decode cX9_anew 5 = .ok (.astore 6, 2) := dw_58 wX9_anew_c 6 rfl
theorem dX9_anew_7 : decode cX9_anew 7 = .ok (.aload 6, 2) := dw_25 wX9_anew_c 6 rfl
theorem dX9_anew_9 : decode cX9_anew 9 = .ok (.ifnull 23, 3) := dw_198 wX9_anew_c 0 23 rfl rfl rfl
theorem dX9_anew_12 : decode cX9_anew 12 = .ok (.aload 6, 2) := dw_25 wX9_anew_c 6 rfl
theorem dX9_anew_14 : decode cX9_anew 14 = .ok (.getfield 148, 3) := dw_180 wX9_anew_c 0 148 rfl rfl
theorem dX9_anew_17 : decode cX9_anew 17 = .ok (.ifCond .ne 15, 3) := dw_154 wX9_anew_c 0 15 rfl rfl rfl
theorem dX9_anew_20 : decode cX9_anew 20 = .ok (.iload_n 2, 1) := dw_28 wX9_anew_c rfl
theorem dX9_anew_21 : decode cX9_anew 21 = .ok (.iload_n 3, 1) := dw_29 wX9_anew_c rfl
theorem dX9_anew_22 : decode cX9_anew 22 = .ok (.iload 4, 2) := dw_21 wX9_anew_c 4 rfl
theorem dX9_anew_24 : decode cX9_anew 24 = .ok (.iload 5, 2) := dw_21 wX9_anew_c 5 rfl
theorem dX9_anew_26 : decode cX9_anew 26 = .ok (.invokestatic 132, 3) := dw_184 wX9_anew_c 0 132 rfl rfl
theorem dX9_anew_29 : decode cX9_anew 29 = .ok (.ifCond .ne 5, 3) := dw_154 wX9_anew_c 0 5 rfl rfl rfl
theorem dX9_anew_32 : decode cX9_anew 32 = .ok (.iconst 0, 1) := dw_3 wX9_anew_c rfl
theorem dX9_anew_33 : decode cX9_anew 33 = .ok (.ireturn, 1) := dw_172 wX9_anew_c rfl
theorem dX9_anew_34 : decode cX9_anew 34 = .ok (.aload 6, 2) := dw_25 wX9_anew_c 6 rfl
theorem dX9_anew_36 : decode cX9_anew 36 = .ok (.iload_n 2, 1) := dw_28 wX9_anew_c rfl
theorem dX9_anew_37 : decode cX9_anew 37 = .ok (.iload_n 3, 1) := dw_29 wX9_anew_c rfl
theorem dX9_anew_38 : decode cX9_anew 38 = .ok (.iload 4, 2) := dw_21 wX9_anew_c 4 rfl
theorem dX9_anew_40 : decode cX9_anew 40 = .ok (.iload 5, 2) := dw_21 wX9_anew_c 5 rfl
theorem dX9_anew_42 : decode cX9_anew 42 = .ok (.invokevirtual 139, 3) := dw_182 wX9_anew_c 0 139 rfl rfl
theorem dX9_anew_45 : decode cX9_anew 45 = .ok (.iconst 1, 1) := dw_4 wX9_anew_c rfl
theorem dX9_anew_46 : decode cX9_anew 46 = .ok (.ireturn, 1) := dw_172 wX9_anew_c rfl
theorem dX9_dies_0 : decode cX9_dies 0 = .ok (.aload_n 0, 1) := by decide +kernel
theorem dX9_dies_1 : decode cX9_dies 1 = .ok (.iload_n 1, 1) := by decide +kernel
theorem dX9_dies_2 : decode cX9_dies 2 = .ok (.invokevirtual 144, 3) := by decide +kernel
theorem dX9_dies_5 : decode cX9_dies 5 = .ok (.astore_n 2, 1) := by decide +kernel
theorem dX9_dies_6 : decode cX9_dies 6 = .ok (.aload_n 2, 1) := by decide +kernel
theorem dX9_dies_7 : decode cX9_dies 7 = .ok (.ifnull 10, 3) := by decide +kernel
theorem dX9_dies_10 : decode cX9_dies 10 = .ok (.aload_n 2, 1) := by decide +kernel
theorem dX9_dies_11 : decode cX9_dies 11 = .ok (.getfield 148, 3) := by decide +kernel
theorem dX9_dies_14 : decode cX9_dies 14 = .ok (.ifCond .eq 5, 3) := by decide +kernel
theorem dX9_dies_17 : decode cX9_dies 17 = .ok (.iconst 0, 1) := by decide +kernel
theorem dX9_dies_18 : decode cX9_dies 18 = .ok (.ireturn, 1) := by decide +kernel
theorem dX9_dies_19 : decode cX9_dies 19 = .ok (.aload_n 2, 1) := by decide +kernel
theorem dX9_dies_20 : decode cX9_dies 20 = .ok (.iconst 1, 1) := by decide +kernel
theorem dX9_dies_21 : decode cX9_dies 21 = .ok (.putfield 148, 3) := by decide +kernel
theorem dX9_dies_24 : decode cX9_dies 24 = .ok (.iconst 1, 1) := by decide +kernel
theorem dX9_dies_25 : decode cX9_dies 25 = .ok (.ireturn, 1) := by decide +kernel
theorem dX9_judge_0 : decode cX9_judge 0 = .ok (.aload_n 0, 1) := by decide +kernel
theorem dX9_judge_1 : decode cX9_judge 1 = .ok (.iload_n 1, 1) := by decide +kernel
theorem dX9_judge_2 : decode cX9_judge 2 = .ok (.invokevirtual 144, 3) := by decide +kernel
theorem dX9_judge_5 : decode cX9_judge 5 = .ok (.astore_n 3, 1) := by decide +kernel
theorem dX9_judge_6 : decode cX9_judge 6 = .ok (.aload_n 3, 1) := by decide +kernel
theorem dX9_judge_7 : decode cX9_judge 7 = .ok (.ifnull 11, 3) := by decide +kernel
theorem dX9_judge_10 : decode cX9_judge 10 = .ok (.aload_n 3, 1) := by decide +kernel
theorem dX9_judge_11 : decode cX9_judge 11 = .ok (.getfield 152, 3) := by decide +kernel
theorem dX9_judge_14 : decode cX9_judge 14 = .ok (.iload_n 2, 1) := by decide +kernel
theorem dX9_judge_15 : decode cX9_judge 15 = .ok (.if_icmp .ne 5, 3) := by decide +kernel
theorem dX9_judge_18 : decode cX9_judge 18 = .ok (.iconst 0, 1) := by decide +kernel
theorem dX9_judge_19 : decode cX9_judge 19 = .ok (.ireturn, 1) := by decide +kernel
theorem dX9_judge_20 : decode cX9_judge 20 = .ok (.aload_n 3, 1) := by decide +kernel
theorem dX9_judge_21 : decode cX9_judge 21 = .ok (.iload_n 2, 1) := by decide +kernel
theorem dX9_judge_22 : decode cX9_judge 22 = .ok (.putfield 152, 3) := by decide +kernel
theorem dX9_judge_25 : decode cX9_judge 25 = .ok (.aload_n 3, 1) := by decide +kernel
theorem dX9_judge_26 : decode cX9_judge 26 = .ok (.iconst 1, 1) := by decide +kernel
theorem dX9_judge_27 : decode cX9_judge 27 = .ok (.putfield 155, 3) := by decide +kernel
theorem dX9_judge_30 : decode cX9_judge 30 = .ok (.iconst 1, 1) := by decide +kernel
theorem dX9_judge_31 : decode cX9_judge 31 = .ok (.ireturn, 1) := by decide +kernel
def wNX9_line : Nat := 3076389517750008616937077793239670630970568582324508541170828322638136848833716460985172066341143413992015561292087492459249836589838734311668447232264772025610450133549299870116922783661339690
theorem wX9_line_c : hz_cd cX9_line wNX9_line 80 := ⟨by decide +kernel, by decide +kernel⟩
theorem dX9_line_0 : decode cX9_line 0 = .ok (.aload_n 0, 1) := dw_42 wX9_line_c rfl
theorem dX9_line_1 : decode cX9_line 1 = .ok (.getfield 42, 3) := dw_180 wX9_line_c 0 42 rfl rfl
theorem dX9_line_4 : decode cX9_line 4 = .ok (.getfield 158, 3) := dw_180 wX9_line_c 0 158 rfl rfl
theorem dX9_line_7 : decode cX9_line 7 = .ok (.sipush 400, 3) := dw_17 wX9_line_c 1 144 rfl rfl rfl
theorem dX9_line_10 : decode cX9_line 10 = .ok (.if_icmp .ge 46, 3) := dw_162 wX9_line_c 0 46 rfl rfl rfl
theorem dX9_line_13 : decode cX9_line 13 = .ok (.aload_n 0, 1) := dw_42 wX9_line_c rfl
theorem dX9_line_14 : decode cX9_line 14 = .ok (.iload_n 1, 1) := dw_27 wX9_line_c rfl
theorem dX9_line_15 : decode cX9_line 15 = .ok (.iload_n 2, 1) := dw_28 wX9_line_c rfl
theorem dX9_line_16 : decode cX9_line 16 = .ok (.invokevirtual 161, 3) := dw_182 wX9_line_c 0 161 rfl rfl
theorem dX9_line_19 : decode cX9_line 19 = .ok (.ifCond .eq 37, 3) := dw_153 wX9_line_c 0 37 rfl rfl rfl
theorem dX9_line_22 : decode cX9_line 22 = .ok (.iload_n 3, 1) := dw_29 wX9_line_c rfl
theorem dX9_line_23 : decode cX9_line 23 = .ok (.iconst 0, 1) := dw_3 wX9_line_c rfl
theorem dX9_line_24 : decode cX9_line 24 = .ok (.aload_n 0, 1) := dw_42 wX9_line_c rfl
theorem dX9_line_25 : decode cX9_line 25 = .ok (.getfield 94, 3) := dw_180 wX9_line_c 0 94 rfl rfl
theorem dX9_line_28 : decode cX9_line 28 = .ok (.invokestatic 128, 3) := dw_184 wX9_line_c 0 128 rfl rfl
theorem dX9_line_31 : decode cX9_line 31 = .ok (.ifCond .eq 25, 3) := dw_153 wX9_line_c 0 25 rfl rfl rfl
theorem dX9_line_34 : decode cX9_line 34 = .ok (.iload 4, 2) := dw_21 wX9_line_c 4 rfl
theorem dX9_line_36 : decode cX9_line 36 = .ok (.iconst 0, 1) := dw_3 wX9_line_c rfl
theorem dX9_line_37 : decode cX9_line 37 = .ok (.iconst 3, 1) := dw_6 wX9_line_c rfl
theorem dX9_line_38 : decode cX9_line 38 = .ok (.invokestatic 128, 3) := dw_184 wX9_line_c 0 128 rfl rfl
theorem dX9_line_41 : decode cX9_line 41 = .ok (.ifCond .eq 15, 3) := dw_153 wX9_line_c 0 15 rfl rfl rfl
theorem dX9_line_44 : decode cX9_line 44 = .ok (.iload 5, 2) := dw_21 wX9_line_c 5 rfl
theorem dX9_line_46 : decode cX9_line 46 = .ok (.iconst 1, 1) := dw_4 wX9_line_c rfl
theorem dX9_line_47 : decode cX9_line 47 = .ok (.sipush 9999, 3) := dw_17 wX9_line_c 39 15 rfl rfl rfl
theorem dX9_line_50 : decode cX9_line 50 = .ok (.invokestatic 128, 3) := dw_184 wX9_line_c 0 128 rfl rfl
theorem dX9_line_53 : decode cX9_line 53 = .ok (.ifCond .ne 5, 3) := dw_154 wX9_line_c 0 5 rfl rfl rfl
theorem dX9_line_56 : decode cX9_line 56 = .ok (.iconst (-1), 1) := dw_2 wX9_line_c rfl
theorem dX9_line_57 : decode cX9_line 57 = .ok (.ireturn, 1) := dw_172 wX9_line_c rfl
theorem dX9_line_58 : decode cX9_line 58 = .ok (.aload_n 0, 1) := dw_42 wX9_line_c rfl
theorem dX9_line_59 : decode cX9_line 59 = .ok (.getfield 42, 3) := dw_180 wX9_line_c 0 42 rfl rfl
theorem dX9_line_62 : decode cX9_line 62 = .ok (.iload_n 1, 1) := dw_27 wX9_line_c rfl
theorem dX9_line_63 : decode cX9_line 63 = .ok (.iload_n 2, 1) := dw_28 wX9_line_c rfl
theorem dX9_line_64 : decode cX9_line 64 = .ok (.iload_n 3, 1) := dw_29 wX9_line_c rfl
theorem dX9_line_65 : decode cX9_line 65 = .ok (.iload 4, 2) := dw_21 wX9_line_c 4 rfl
theorem dX9_line_67 : decode cX9_line 67 = .ok (.iload 5, 2) := dw_21 wX9_line_c 5 rfl
theorem dX9_line_69 : decode cX9_line 69 = .ok (.invokevirtual 165, 3) := dw_182 wX9_line_c 0 165 rfl rfl
theorem dX9_line_72 : decode cX9_line 72 = .ok (.aload_n 0, 1) := dw_42 wX9_line_c rfl
theorem dX9_line_73 : decode cX9_line 73 = .ok (.getfield 42, 3) := dw_180 wX9_line_c 0 42 rfl rfl
theorem dX9_line_76 : decode cX9_line 76 = .ok (.getfield 158, 3) := dw_180 wX9_line_c 0 158 rfl rfl
theorem dX9_line_79 : decode cX9_line 79 = .ok (.ireturn, 1) := dw_172 wX9_line_c rfl
def wNX9_book : Nat := 201664770558438049583362776864570778739807076415187799402720615914561100772242324588061334129498815638901925622068274566763386684636767472525587443557127023937819954949989083310938087637085677427498
theorem wX9_book_c : hz_cd cX9_book wNX9_book 82 := ⟨by decide +kernel, by decide +kernel⟩
theorem dX9_book_0 : decode cX9_book 0 = .ok (.aload_n 0, 1) := dw_42 wX9_book_c rfl
theorem dX9_book_1 : decode cX9_book 1 = .ok (.iload_n 1, 1) := dw_27 wX9_book_c rfl
theorem dX9_book_2 : decode cX9_book 2 = .ok (.iload_n 2, 1) := dw_28 wX9_book_c rfl
theorem dX9_book_3 : decode cX9_book 3 = .ok (.invokevirtual 161, 3) := dw_182 wX9_book_c 0 161 rfl rfl
theorem dX9_book_6 : decode cX9_book 6 = .ok (.ifCond .eq 10, 3) := dw_153 wX9_book_c 0 10 rfl rfl rfl
theorem dX9_book_9 : decode cX9_book 9 = .ok (.iload_n 3, 1) := dw_29 wX9_book_c rfl
theorem dX9_book_10 : decode cX9_book 10 = .ok (.invokestatic 90, 3) := dw_184 wX9_book_c 0 90 rfl rfl
theorem dX9_book_13 : decode cX9_book 13 = .ok (.ifCond .ne 6, 3) := dw_154 wX9_book_c 0 6 rfl rfl rfl
theorem dX9_book_16 : decode cX9_book 16 = .ok (.ldc 169, 2) := dw_18 wX9_book_c 169 rfl
theorem dX9_book_18 : decode cX9_book 18 = .ok (.ireturn, 1) := dw_172 wX9_book_c rfl
theorem dX9_book_19 : decode cX9_book 19 = .ok (.iload 4, 2) := dw_21 wX9_book_c 4 rfl
theorem dX9_book_21 : decode cX9_book 21 = .ok (.tableswitch 58 0 2 #[27, 38, 49], 27) := by decide +kernel
theorem dX9_book_48 : decode cX9_book 48 = .ok (.aload_n 0, 1) := dw_42 wX9_book_c rfl
theorem dX9_book_49 : decode cX9_book 49 = .ok (.getfield 42, 3) := dw_180 wX9_book_c 0 42 rfl rfl
theorem dX9_book_52 : decode cX9_book 52 = .ok (.iload_n 1, 1) := dw_27 wX9_book_c rfl
theorem dX9_book_53 : decode cX9_book 53 = .ok (.iload_n 2, 1) := dw_28 wX9_book_c rfl
theorem dX9_book_54 : decode cX9_book 54 = .ok (.iload_n 3, 1) := dw_29 wX9_book_c rfl
theorem dX9_book_55 : decode cX9_book 55 = .ok (.invokevirtual 170, 3) := dw_182 wX9_book_c 0 170 rfl rfl
theorem dX9_book_58 : decode cX9_book 58 = .ok (.ireturn, 1) := dw_172 wX9_book_c rfl
theorem dX9_book_59 : decode cX9_book 59 = .ok (.aload_n 0, 1) := dw_42 wX9_book_c rfl
theorem dX9_book_60 : decode cX9_book 60 = .ok (.getfield 42, 3) := dw_180 wX9_book_c 0 42 rfl rfl
theorem dX9_book_63 : decode cX9_book 63 = .ok (.iload_n 1, 1) := dw_27 wX9_book_c rfl
theorem dX9_book_64 : decode cX9_book 64 = .ok (.iload_n 2, 1) := dw_28 wX9_book_c rfl
theorem dX9_book_65 : decode cX9_book 65 = .ok (.iload_n 3, 1) := dw_29 wX9_book_c rfl
theorem dX9_book_66 : decode cX9_book 66 = .ok (.invokevirtual 174, 3) := dw_182 wX9_book_c 0 174 rfl rfl
theorem dX9_book_69 : decode cX9_book 69 = .ok (.ireturn, 1) := dw_172 wX9_book_c rfl
theorem dX9_book_70 : decode cX9_book 70 = .ok (.aload_n 0, 1) := dw_42 wX9_book_c rfl
theorem dX9_book_71 : decode cX9_book 71 = .ok (.getfield 42, 3) := dw_180 wX9_book_c 0 42 rfl rfl
theorem dX9_book_74 : decode cX9_book 74 = .ok (.iload_n 1, 1) := dw_27 wX9_book_c rfl
theorem dX9_book_75 : decode cX9_book 75 = .ok (.invokevirtual 177, 3) := dw_182 wX9_book_c 0 177 rfl rfl
theorem dX9_book_78 : decode cX9_book 78 = .ok (.ireturn, 1) := dw_172 wX9_book_c rfl
theorem dX9_book_79 : decode cX9_book 79 = .ok (.ldc 169, 2) := dw_18 wX9_book_c 169 rfl
theorem dX9_book_81 : decode cX9_book 81 = .ok (.ireturn, 1) := dw_172 wX9_book_c rfl
def wNX9_summons : Nat := 103897181776207299028291242176612534727042843898627486090979967820701081876271653506184495532557447582581746178858
theorem wX9_summons_c : hz_cd cX9_summons wNX9_summons 47 := ⟨by decide +kernel, by decide +kernel⟩
theorem dX9_summons_0 : decode cX9_summons 0 = .ok (.aload_n 0, 1) := dw_42 wX9_summons_c rfl
theorem dX9_summons_1 : decode cX9_summons 1 = .ok (.iload_n 1, 1) := dw_27 wX9_summons_c rfl
theorem dX9_summons_2 : decode cX9_summons 2 = .ok (.invokevirtual 200, 3) := dw_182 wX9_summons_c 0 200 rfl rfl
theorem dX9_summons_5 : decode cX9_summons 5 = .ok (.astore_n 3, 1) := dw_78 wX9_summons_c rfl
theorem dX9_summons_6 : decode cX9_summons 6 = .ok (.aload_n 3, 1) := dw_45 wX9_summons_c rfl
theorem dX9_summons_7 : decode cX9_summons 7 = .ok (.ifnull 11, 3) := dw_198 wX9_summons_c 0 11 rfl rfl rfl
theorem dX9_summons_10 : decode cX9_summons 10 = .ok (.aload_n 3, 1) := dw_45 wX9_summons_c rfl
theorem dX9_summons_11 : decode cX9_summons 11 = .ok (.getfield 204, 3) := dw_180 wX9_summons_c 0 204 rfl rfl
theorem dX9_summons_14 : decode cX9_summons 14 = .ok (.iconst (-1), 1) := dw_2 wX9_summons_c rfl
theorem dX9_summons_15 : decode cX9_summons 15 = .ok (.if_icmp .eq 5, 3) := dw_159 wX9_summons_c 0 5 rfl rfl rfl
theorem dX9_summons_18 : decode cX9_summons 18 = .ok (.iconst (-1), 1) := dw_2 wX9_summons_c rfl
theorem dX9_summons_19 : decode cX9_summons 19 = .ok (.ireturn, 1) := dw_172 wX9_summons_c rfl
theorem dX9_summons_20 : decode cX9_summons 20 = .ok (.aload_n 3, 1) := dw_45 wX9_summons_c rfl
theorem dX9_summons_21 : decode cX9_summons 21 = .ok (.dup, 1) := dw_89 wX9_summons_c rfl
theorem dX9_summons_22 : decode cX9_summons 22 = .ok (.getfield 207, 3) := dw_180 wX9_summons_c 0 207 rfl rfl
theorem dX9_summons_25 : decode cX9_summons 25 = .ok (.iconst 1, 1) := dw_4 wX9_summons_c rfl
theorem dX9_summons_26 : decode cX9_summons 26 = .ok (.iadd, 1) := dw_96 wX9_summons_c rfl
theorem dX9_summons_27 : decode cX9_summons 27 = .ok (.putfield 207, 3) := dw_181 wX9_summons_c 0 207 rfl rfl
theorem dX9_summons_30 : decode cX9_summons 30 = .ok (.iload_n 2, 1) := dw_28 wX9_summons_c rfl
theorem dX9_summons_31 : decode cX9_summons 31 = .ok (.ifCond .eq 11, 3) := dw_153 wX9_summons_c 0 11 rfl rfl rfl
theorem dX9_summons_34 : decode cX9_summons 34 = .ok (.aload_n 3, 1) := dw_45 wX9_summons_c rfl
theorem dX9_summons_35 : decode cX9_summons 35 = .ok (.aload_n 0, 1) := dw_42 wX9_summons_c rfl
theorem dX9_summons_36 : decode cX9_summons 36 = .ok (.getfield 94, 3) := dw_180 wX9_summons_c 0 94 rfl rfl
theorem dX9_summons_39 : decode cX9_summons 39 = .ok (.putfield 204, 3) := dw_181 wX9_summons_c 0 204 rfl rfl
theorem dX9_summons_42 : decode cX9_summons 42 = .ok (.aload_n 3, 1) := dw_45 wX9_summons_c rfl
theorem dX9_summons_43 : decode cX9_summons 43 = .ok (.getfield 207, 3) := dw_180 wX9_summons_c 0 207 rfl rfl
theorem dX9_summons_46 : decode cX9_summons 46 = .ok (.ireturn, 1) := dw_172 wX9_summons_c rfl