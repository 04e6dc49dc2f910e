section
set_option maxHeartbeats 4000000 in
set_option maxRecDepth 100000 in
theorem t_X9_hear_v (l : Launch) (dC : Nat → ClassId) (dI : Nat → Nat → Nat) (dA : Nat → ClassId) (L : List Nat) (h : hx_h) (sz : Nat) (x : Nat) (i1 : Int32) (i2 : Int32) (i3 : Int32) (i4 : Int32) (hT : hx_T T_tb L h) (gx : hx_g L h x 9) (qp : Nat) (gqp : hx_g L h qp 44) (f_x_7 : h.2.2 x 7 = some qp) (qc : Nat) (gqc : hx_g L h qc 45) (f_x_10 : h.2.2 x 10 = some qc) (qh : Nat) (gqh : hx_g L h qh 46) (f_x_12 : h.2.2 x 12 = some qh) (qb : Nat) (gqb : hx_g L h qb 1) (f_x_9 : h.2.2 x 9 = some qb) (qo : Nat) (gqo : hx_g L h qo 13) (f_qb_1 : h.2.2 qb 1 = some qo) (qwi : Nat) (gqwi : hx_g L h qwi 14) (f_qb_2 : h.2.2 qb 2 = some qwi) (qdy : Nat) (gqdy : hx_g L h qdy 15) (f_qb_3 : h.2.2 qb 3 = some qdy) (qkd : Nat) (gqkd : hx_g L h qkd 16) (f_qb_4 : h.2.2 qb 4 = some qkd) (qsm : Nat) (gqsm : hx_g L h qsm 17) (f_qb_5 : h.2.2 qb 5 = some qsm) (qbd : Nat) (gqbd : hx_g L h qbd 18) (f_qb_6 : h.2.2 qb 6 = some qbd) (qtk : Nat) (gqtk : hx_g L h qtk 19) (f_qb_7 : h.2.2 qb 7 = some qtk) (qfi : Nat) (gqfi : hx_g L h qfi 47) (f_x_15 : h.2.2 x 15 = some qfi) (of : Nat → Int32) (af_qo : h.2.1 qo = of) (wf : Nat → Int32) (af_qwi : h.2.1 qwi = wf) (df : Nat → Int32) (af_qdy : h.2.1 qdy = df) (kf : Nat → Int32) (af_qkd : h.2.1 qkd = kf) (sf : Nat → Int32) (af_qsm : h.2.1 qsm = sf) (bf : Nat → Int32) (af_qbd : h.2.1 qbd = bf) (tf : Nat → Int32) (af_qtk : h.2.1 qtk = tf) (fi0 : Nat → Int32) (af_qfi : h.2.1 qfi = fi0) (cn0 : Int32) (f_x_11 : h.2.1 x 11 = cn0) (pn0 : Int32) (f_x_8 : h.2.1 x 8 = pn0) (m0 : Int32) (f_x_13 : h.2.1 x 13 = m0) (nw0 : Int32) (f_x_2 : h.2.1 x 2 = nw0) (ln0 : Int32) (f_qb_0 : h.2.1 qb 0 = ln0) (ddf : Nat → Int32) (cl_qp_7 : hx_col 40 h qp 7 = ddf) (jjf : Nat → Int32) (cl_qp_8 : hx_col 40 h qp 8 = jjf) (kkf : Nat → Int32) (cl_qp_2 : hx_col 40 h qp 2 = kkf) (bnf : Nat → Int32) (cl_qp_1 : hx_col 40 h qp 1 = bnf) (fof : Nat → Int32) (cl_qc_10 : hx_col 100 h qc 10 = fof) (hrf : Nat → Int32) (cl_qc_11 : hx_col 100 h qc 11 = hrf) (udf : Nat → Int32) (cl_qc_12 : hx_col 100 h qc 12 = udf) (smf : Nat → Int32) (cl_qc_6 : hx_col 100 h qc 6 = smf) (frf : Nat → Int32) (cl_qc_7 : hx_col 100 h qc 7 = frf) (flf : Nat → Int32) (cl_qc_8 : hx_col 100 h qc 8 = flf) (nu_qp : hx_num 40 h qp 0 (pn0.toInt)) (nu_qc : hx_num 100 h qc 0 (cn0.toInt)) (hi2 : 0 ≤ i2.toInt ∧ i2.toInt ≤ 1) (hi3 : 0 ≤ i3.toInt ∧ i3.toInt ≤ 1) (agf byf plf hof cF bF : Nat → Int32) (A : Nat → hv_act) (hDF : hw_DF h qc qp 2 agf cn0.toInt) (hDP : hw_DF h qc qp 1 byf cn0.toInt) (hAC : hv_AC h qc plf cn0.toInt A) (hAB : ∀ j : Nat, (∀ k, 0 ≤ (A j).2.1 k ∧ (A j).2.1 k ≤ 9999) ∧ hv_OK (A j).2.2) (hFX : hv_FX 8 4 h qc cF cn0.toInt) (hBX : hv_FX 3 5 h qc bF cn0.toInt) (hHL : hv_HL h qh qc hof m0.toInt cn0.toInt) (hHC : m0.toInt = hx_hc hrf cn0.toInt.toNat) (hBD : hy_BD df bf ln0.toInt.toNat) (hDY : hy_DY df ln0.toInt.toNat) (pf_x_8 : ∀ j : Nat, (j : Int) < (h.2.1 x 8).toInt → h.2.2 qp j ≠ none) (pf_x_11 : ∀ j : Nat, (j : Int) < (h.2.1 x 11).toInt → h.2.2 qc j ≠ none) (pf_x_13 : ∀ j : Nat, (j : Int) < (h.2.1 x 13).toInt → h.2.2 qh j ≠ none) : Met l yX9_hear (Cond.code yX9_hear cX9_hear 8 (some .int) :: hx_all) ({ frames := 4, cells := 0, slots := 0, locals := 92 }) (va_Pc [.ref x, .int i1, .int i2, .int i3, .int i4] (hx_B T_tb (P_ty dA) (dC, dI) vwCl L h sz)) (va_Qi (fun (r : Int32) (u : List Nat × hx_h) => (∃ (m1 : Int32) (hrf1 : Nat → Int32) (udf1 : Nat → Int32), u.2.2.1 x 13 = m1 ∧ hx_col 100 u.2 qc 11 = hrf1 ∧ hx_col 100 u.2 qc 12 = udf1 ∧ (∃ cF1 bF1 hof1 : Nat → Int32, hv_HS (hv_HC fof hrf ddf agf cn0.toInt i1.toInt i4.toInt ((hv_fs jjf ddf kkf (byf i1.toNatClampNeg).toNatClampNeg (agf i1.toNatClampNeg).toNatClampNeg pn0.toInt.toNat).length : Int)) i1 nw0 m0 m1 r (hv_jg (hv_F0 cF1 (8 * i1.toNatClampNeg)) (A (plf i1.toNatClampNeg).toInt.toNat).2.1 (A (plf i1.toNatClampNeg).toInt.toNat).2.2 (frf i1.toNatClampNeg).toInt (bnf (agf i1.toNatClampNeg).toNatClampNeg).toInt (smf i1.toNatClampNeg).toInt (hv_sm byf agf flf smf (byf i1.toNatClampNeg).toInt (agf i1.toNatClampNeg).toInt ((flf i1.toNatClampNeg).toInt - (A (plf i1.toNatClampNeg).toInt.toNat).2.1 1) cn0.toInt.toNat)) hrf hrf1 udf udf1 hof hof1 ∧ hv_FX 8 4 u.2 qc cF1 cn0.toInt ∧ hv_FX 3 5 u.2 qc bF1 cn0.toInt ∧ hv_HL u.2 qh qc hof1 m1.toInt cn0.toInt ∧ ((r.toInt = -1 ∧ cF1 = cF ∧ bF1 = bF) ∨ (r.toInt ≠ -1 ∧ hv_CU cF cF1 i1.toNatClampNeg i2 i3 (hy_bs of wf df kf sf (byf i1.toNatClampNeg) (agf i1.toNatClampNeg) (flf i1.toNatClampNeg) ln0.toInt.toNat) (-(hy_bs of wf df kf sf (agf i1.toNatClampNeg) (byf i1.toNatClampNeg) (flf i1.toNatClampNeg) ln0.toInt.toNat)) (hy_G of wf df kf sf bf (byf i1.toNatClampNeg) (agf i1.toNatClampNeg) (flf i1.toNatClampNeg) ln0.toInt.toNat ln0.toInt.toNat).2 ∧ (∃ b0 b1 b2 : Int32, hv_BN (hv_fs jjf ddf kkf (byf i1.toNatClampNeg).toNatClampNeg (agf i1.toNatClampNeg).toNatClampNeg pn0.toInt.toNat) (i4.toInt % hv_T3 (hv_fs jjf ddf kkf (byf i1.toNatClampNeg).toNatClampNeg (agf i1.toNatClampNeg).toNatClampNeg pn0.toInt.toNat).length) b0 b1 b2 ∧ bF1 = hx_up (hx_up (hx_up bF (0 + 3 * i1.toNatClampNeg) b0) (1 + 3 * i1.toNatClampNeg) b1) (2 + 3 * i1.toNatClampNeg) b2))))) ∧ hx_T T_tb u.1 u.2 ∧ hx_S T_tb [(2, 11), (2, 12), (9, 13), (19, 0), (20, 0), (21, 0), (46, 0), (47, 0)] L h u.1 u.2 ∧ (∀ j : Nat, (j : Int) < (u.2.2.1 x 13).toInt → u.2.2.2 qh j ≠ none)) (hx_E T_tb (P_ty dA) (dC, dI) vwCl (hx_A L sz)) (hx_A L sz)) 0 0 (hx_A L sz) := by
  refine hx_met (lv := [(0, .ref x), (1, .int i1), (2, .int i2), (3, .int i3), (4, .int i4)]) (by decide +kernel) rfl (Nat.le_of_ble_eq_true rfl) rfl ?_
  intro p e s m below meth c hx hb hml hr hlk hts0 hown hin hsz hW ls hl
  have hts : ∀ w ∈ hx_all, w.before _ s = true := fun w hw => hts0 w (List.mem_cons_of_mem _ hw)
  have hown : s.vm.findClass "SmallCourt" = some m.cls := hown
  have hM : hx_S T_tb [(2, 11), (2, 12), (9, 13), (19, 0), (20, 0), (21, 0), (46, 0), (47, 0)] L h L h := hx_S.rf
  have b_cn0 := hT.gi gx tt_9 (k := 11) rfl
  rw [f_x_11] at b_cn0
  have b_cn0 : 0 ≤ cn0.toInt ∧ cn0.toInt ≤ 100 := b_cn0
  have b_pn0 := hT.gi gx tt_9 (k := 8) rfl
  rw [f_x_8] at b_pn0
  have b_pn0 : 0 ≤ pn0.toInt ∧ pn0.toInt ≤ 40 := b_pn0
  have b_m0 := hT.gi gx tt_9 (k := 13) rfl
  rw [f_x_13] at b_m0
  have b_m0 : 0 ≤ m0.toInt ∧ m0.toInt ≤ 100 := b_m0
  have b_nw0 := hT.gi gx tt_9 (k := 2) rfl
  rw [f_x_2] at b_nw0
  have b_nw0 : 0 ≤ nw0.toInt ∧ nw0.toInt ≤ 7999 := b_nw0
  have b_ln0 := hT.gi gqb tt_1 (k := 0) rfl
  rw [f_qb_0] at b_ln0
  have b_ln0 : 0 ≤ ln0.toInt ∧ ln0.toInt ≤ 400 := b_ln0
  refine lv_aload_n hx hb dX9_hear_0 rfl (lv_at hl 0 rfl) ?_
  refine lv_iload_n hx hb dX9_hear_1 rfl (lv_at hl 1 rfl) ?_
  have hTo := hT
  refine hx_goq (hx_runV (As := [.int i1]) (rest := []) ⟨hx, hb, hml, hown, hts⟩ hW gx tt_9 (T := TX9) (N := 20) rfl (t_X9_claimAt_2 l dC dI dA L h s.heap.size x i1 hT gx cn0 f_x_11 qc gqc f_x_10 pf_x_11) (cwV 1 hts (hx_gV kw_810 kw_807 kw_809 kw_25 kw_94) rfl rfl rfl (by decide +kernel) ⟨Nat.le_of_ble_eq_true rfl, Nat.le_of_ble_eq_true rfl⟩) rfl hl.1 rfl (Nat.le_of_ble_eq_true rfl) dX9_hear_2 ⟨Nat.le_of_ble_eq_true rfl, Nat.le_of_ble_eq_true rfl⟩) hW (fun r_3 L_1 h_2 H locs p_4 hW => ?_)
  obtain ⟨hr_5, hT, hs⟩ := p_4
  replace hT : hx_T T_tb L_1 h_2 := hT
  replace hs : hx_S T_tb [] L h L_1 h_2 := hs
  replace f_x_7 := (hs.o gx trivial rfl).2.trans f_x_7
  replace f_x_10 := (hs.o gx trivial rfl).2.trans f_x_10
  replace f_x_12 := (hs.o gx trivial rfl).2.trans f_x_12
  replace f_x_9 := (hs.o gx trivial rfl).2.trans f_x_9
  replace f_x_15 := (hs.o gx trivial rfl).2.trans f_x_15
  replace f_x_11 := (hs.o gx trivial rfl).1.trans f_x_11
  replace f_x_8 := (hs.o gx trivial rfl).1.trans f_x_8
  replace f_x_13 := (hs.o gx trivial rfl).1.trans f_x_13
  replace f_x_2 := (hs.o gx trivial rfl).1.trans f_x_2
  replace pf_x_8 : ∀ j : Nat, (j : Int) < (h_2.2.1 x 8).toInt → h_2.2.2 qp j ≠ none := by
    intro j hj; rw [(hs.o gx trivial rfl).1] at hj; rw [(hs.a gqp rfl j).2]; exact pf_x_8 j hj
  replace pf_x_11 : ∀ j : Nat, (j : Int) < (h_2.2.1 x 11).toInt → h_2.2.2 qc j ≠ none := by
    intro j hj; rw [(hs.o gx trivial rfl).1] at hj; rw [(hs.a gqc rfl j).2]; exact pf_x_11 j hj
  replace pf_x_13 : ∀ j : Nat, (j : Int) < (h_2.2.1 x 13).toInt → h_2.2.2 qh j ≠ none := by
    intro j hj; rw [(hs.o gx trivial rfl).1] at hj; rw [(hs.a gqh rfl j).2]; exact pf_x_13 j hj
  replace cl_qp_7 : hx_col 40 h_2 qp 7 = ddf := (hx_col_S hs hTo gqp tt_44 tt_4 rfl rfl).trans cl_qp_7
  replace cl_qp_8 : hx_col 40 h_2 qp 8 = jjf := (hx_col_S hs hTo gqp tt_44 tt_4 rfl rfl).trans cl_qp_8
  replace cl_qp_2 : hx_col 40 h_2 qp 2 = kkf := (hx_col_S hs hTo gqp tt_44 tt_4 rfl rfl).trans cl_qp_2
  replace cl_qp_1 : hx_col 40 h_2 qp 1 = bnf := (hx_col_S hs hTo gqp tt_44 tt_4 rfl rfl).trans cl_qp_1
  replace cl_qc_10 : hx_col 100 h_2 qc 10 = fof := (hx_col_S hs hTo gqc tt_45 tt_2 rfl rfl).trans cl_qc_10
  replace cl_qc_11 : hx_col 100 h_2 qc 11 = hrf := (hx_col_S hs hTo gqc tt_45 tt_2 rfl rfl).trans cl_qc_11
  replace cl_qc_12 : hx_col 100 h_2 qc 12 = udf := (hx_col_S hs hTo gqc tt_45 tt_2 rfl rfl).trans cl_qc_12
  replace cl_qc_6 : hx_col 100 h_2 qc 6 = smf := (hx_col_S hs hTo gqc tt_45 tt_2 rfl rfl).trans cl_qc_6
  replace cl_qc_7 : hx_col 100 h_2 qc 7 = frf := (hx_col_S hs hTo gqc tt_45 tt_2 rfl rfl).trans cl_qc_7
  replace cl_qc_8 : hx_col 100 h_2 qc 8 = flf := (hx_col_S hs hTo gqc tt_45 tt_2 rfl rfl).trans cl_qc_8
  replace nu_qp : hx_num 40 h_2 qp 0 (pn0.toInt) := hx_num_S hs hTo gqp tt_44 tt_4 rfl rfl nu_qp
  replace nu_qc : hx_num 100 h_2 qc 0 (cn0.toInt) := hx_num_S hs hTo gqc tt_45 tt_2 rfl rfl nu_qc
  replace hDF : hw_DF h_2 qc qp 2 agf cn0.toInt := hw_DF_S hs hTo gqc gqp tt_45 tt_2 rfl rfl rfl hDF
  replace hDP : hw_DF h_2 qc qp 1 byf cn0.toInt := hw_DF_S hs hTo gqc gqp tt_45 tt_2 rfl rfl rfl hDP
  replace hAC : hv_AC h_2 qc plf cn0.toInt A := hv_AC_S hs hTo gqc tt_45 tt_2 rfl tt_0 rfl rfl rfl rfl rfl rfl rfl hAC
  replace hFX : hv_FX 8 4 h_2 qc cF cn0.toInt := hv_FX_S hs hTo gqc tt_45 tt_2 rfl rfl rfl rfl hFX
  replace hBX : hv_FX 3 5 h_2 qc bF cn0.toInt := hv_FX_S hs hTo gqc tt_45 tt_2 rfl rfl rfl rfl hBX
  replace hHL : hv_HL h_2 qh qc hof m0.toInt cn0.toInt := hv_HL_S hs gqh gqc rfl rfl hHL
  replace af_qtk : h_2.2.1 qtk = tf := (funext fun j => (hs.a (gqtk.S hM) rfl j).1).trans af_qtk
  replace af_qfi : h_2.2.1 qfi = fi0 := (funext fun j => (hs.a (gqfi.S hM) rfl j).1).trans af_qfi
  replace hM := hM.tr (hs.mono ?o0)
  case o0 => decide
  replace gx := gx.S hs
  replace gqp := gqp.S hs
  replace gqc := gqc.S hs
  replace gqh := gqh.S hs
  obtain ⟨hr_5, hr_5B⟩ := hr_5
  have hr_5 : ∀ q, r_3 = some q → hx_g L_1 h_2 q 2 := hr_5
  rcases r_3 with _ | q_6
  · skip
    have k_7 : i1.toInt < 0 ∨ cn0.toInt ≤ i1.toInt := by
      rcases hr_5B with ⟨_, z⟩ | ⟨_, _, q, z, _⟩
      · exact z
      · cases z
    refine lv_astoreN (lv' := [(5, .null), (0, .ref x), (1, .int i1), (2, .int i2), (3, .int i3), (4, .int i4)]) hx hb dX9_hear_5 hl ?o1 rfl (fun ls hl => ?_)
    case o1 => decide
    refine lv_aloadN hx hb dX9_hear_7 (lv_at hl 0 rfl) ?_
    refine lv_ifnullN (tgt := 66) hx hb dX9_hear_9 ?o2 ?_
    case o2 => decide
    refine lv_iconst (v := -1) hx hb dX9_hear_66 ?o3 ?_
    case o3 => decide
    refine hx_reti hx hb hr hlk hW ⟨⟨m0, hrf, udf, f_x_13, cl_qc_11, cl_qc_12, ⟨cF, bF, hof, Or.inl ⟨?o4, (fun hc => by have h1 := hc.1; omega), rfl, rfl, rfl, rfl⟩, hFX, hBX, hHL, Or.inl ⟨?o5, rfl, rfl⟩⟩⟩, hT, hM, pf_x_13⟩ dX9_hear_67
    case o4 => decide
    case o5 => decide
  · have gq_6 := hr_5 _ rfl
    have k_8 : 0 ≤ i1.toInt ∧ i1.toInt < cn0.toInt ∧ h_2.2.2 qc i1.toNatClampNeg = some q_6 := by
      rcases hr_5B with ⟨z, _⟩ | ⟨z1, z2, q, z3, z4⟩
      · cases z
      · cases z3; exact ⟨z1, z2, z4⟩
    have fo_9 := k_8.2.2
    have k_8 : 0 ≤ i1.toInt ∧ i1.toInt < cn0.toInt := ⟨k_8.1, k_8.2.1⟩
    refine lv_astore (lv' := [(5, .ref q_6), (0, .ref x), (1, .int i1), (2, .int i2), (3, .int i3), (4, .int i4)]) hx hb dX9_hear_5 hl ?o6 rfl (fun ls hl => ?_)
    case o6 => decide
    refine lv_aload hx hb dX9_hear_7 (lv_at hl 0 rfl) ?_
    refine lv_ifnull hx hb dX9_hear_9 ?_
    refine lv_aload hx hb dX9_hear_12 (lv_at hl 0 rfl) ?_
    refine hx_geti hx hb hts hC_2 hown hW hT gq_6 tt_2 10 ?o7 rfl kw_747 ⟨rfl, rfl, rfl⟩ dX9_hear_14 (fun x_10 ex_10 lx_10 ux_10 => ?_)
    case o7 => decide
    have fx_10 := ex_10.symm
    have cx_10 : x_10 = fof i1.toNatClampNeg := ?o8
    case o8 =>
      rw [ex_10, ← cl_qc_10]
      exact (hx_col_at fo_9 (by unfold Int32.toNatClampNeg; omega)).symm
    refine lv_iconst (v := -1) hx hb dX9_hear_17 ?o9 ?_
    case o9 => decide
    refine hb_icmp_eq (zx := x_10.toInt) (zy := (-1)) (tgt := 66) hx hb rfl ?o10 dX9_hear_18 ?o11 (fun c_11 => ?_) (fun c_11 => ?_)
    case o10 => decide
    case o11 => decide
    · skip
      refine lv_iconst (v := -1) hx hb dX9_hear_66 ?o12 ?_
      case o12 => decide
      refine hx_reti hx hb hr hlk hW ⟨⟨m0, hrf, udf, f_x_13, cl_qc_11, cl_qc_12, ⟨cF, bF, hof, Or.inl ⟨?o13, (fun hc => by have h1 := hc.2.1; rw [show fof i1.toInt.toNat = x_10 from cx_10.symm] at h1; omega), rfl, rfl, rfl, rfl⟩, hFX, hBX, hHL, Or.inl ⟨?o14, rfl, rfl⟩⟩⟩, hT, hM, pf_x_13⟩ dX9_hear_67
      case o13 => decide
      case o14 => decide
    · skip
      refine lv_aload hx hb dX9_hear_21 (lv_at hl 0 rfl) ?_
      refine hx_geti hx hb hts hC_2 hown hW hT gq_6 tt_2 11 ?o15 rfl kw_749 ⟨rfl, rfl, rfl⟩ dX9_hear_23 (fun x_12 ex_12 lx_12 ux_12 => ?_)
      case o15 => decide
      have fx_12 := ex_12.symm
      have cx_12 : x_12 = hrf i1.toNatClampNeg := ?o16
      case o16 =>
        rw [ex_12, ← cl_qc_11]
        exact (hx_col_at fo_9 (by unfold Int32.toNatClampNeg; omega)).symm
      refine lv_iconst (v := -1) hx hb dX9_hear_26 ?o17 ?_
      case o17 => decide
      refine hb_icmp_ne (zx := x_12.toInt) (zy := (-1)) (tgt := 66) hx hb rfl ?o18 dX9_hear_27 ?o19 (fun c_13 => ?_) (fun c_13 => ?_)
      case o18 => decide
      case o19 => decide
      · skip
        refine lv_iconst (v := -1) hx hb dX9_hear_66 ?o20 ?_
        case o20 => decide
        refine hx_reti hx hb hr hlk hW ⟨⟨m0, hrf, udf, f_x_13, cl_qc_11, cl_qc_12, ⟨cF, bF, hof, Or.inl ⟨?o21, (fun hc => by have h1 := hc.2.2.1; rw [show hrf i1.toInt.toNat = x_12 from cx_12.symm] at h1; omega), rfl, rfl, rfl, rfl⟩, hFX, hBX, hHL, Or.inl ⟨?o22, rfl, rfl⟩⟩⟩, hT, hM, pf_x_13⟩ dX9_hear_67
        case o21 => decide
        case o22 => decide
      · skip
        refine lv_aload hx hb dX9_hear_30 (lv_at hl 0 rfl) ?_
        refine hx_getn hx hb hts hC_2 hown hW hT gq_6 tt_2 2 ?o23 rfl kw_733 ⟨rfl, rfl, rfl⟩ dX9_hear_32 (fun q_14 fq_14 gq_14 => ?_)
        case o23 => decide
        obtain ⟨dAq_14, dBq_14, dCq_14⟩ := hDF i1.toNatClampNeg (by unfold Int32.toNatClampNeg; omega) (by unfold Int32.toNatClampNeg; omega) _ _ fo_9 fq_14
        have dAq_14 : 0 ≤ (agf i1.toNatClampNeg).toInt := dAq_14
        have dBq_14 : (agf i1.toNatClampNeg).toInt < 40 := dBq_14
        have dUq_14 : 0 ≤ (agf i1.toInt.toNat).toInt ∧ (agf i1.toInt.toNat).toInt < 40 := ⟨dAq_14, dBq_14⟩
        have eoq_14 : h_2.2.2 qp (agf i1.toNatClampNeg).toNatClampNeg = some q_14 := dCq_14
        refine hx_geti hx hb hts hC_4 hown hW hT gq_14 tt_4 7 ?o24 rfl kw_623 ⟨rfl, rfl, rfl⟩ dX9_hear_35 (fun x_15 ex_15 lx_15 ux_15 => ?_)
        case o24 => decide
        have fx_15 := ex_15.symm
        have cx_15 : x_15 = ddf (agf i1.toNatClampNeg).toNatClampNeg := ?o25
        case o25 =>
          rw [ex_15, ← cl_qp_7]
          exact (hx_col_at eoq_14 (by unfold Int32.toNatClampNeg; omega)).symm
        refine hb_if_ne (zx := x_15.toInt) (tgt := 66) hx hb rfl dX9_hear_38 ?o26 (fun c_16 => ?_) (fun c_16 => ?_)
        case o26 => decide
        · skip
          refine lv_iconst (v := -1) hx hb dX9_hear_66 ?o27 ?_
          case o27 => decide
          refine hx_reti hx hb hr hlk hW ⟨⟨m0, hrf, udf, f_x_13, cl_qc_11, cl_qc_12, ⟨cF, bF, hof, Or.inl ⟨?o28, (fun hc => by have h1 := hc.2.2.2.1; rw [show ddf (agf i1.toInt.toNat).toInt.toNat = x_15 from cx_15.symm] at h1; omega), rfl, rfl, rfl, rfl⟩, hFX, hBX, hHL, Or.inl ⟨?o29, rfl, rfl⟩⟩⟩, hT, hM, pf_x_13⟩ dX9_hear_67
          case o28 => decide
          case o29 => decide
        · skip
          refine lv_iload hx hb dX9_hear_41 (lv_at hl 5 rfl) ?_
          refine hb_if_lt (zx := i4.toInt) (tgt := 66) hx hb rfl dX9_hear_43 ?o30 (fun c_17 => ?_) (fun c_17 => ?_)
          case o30 => decide
          · skip
            refine lv_iconst (v := -1) hx hb dX9_hear_66 ?o31 ?_
            case o31 => decide
            refine hx_reti hx hb hr hlk hW ⟨⟨m0, hrf, udf, f_x_13, cl_qc_11, cl_qc_12, ⟨cF, bF, hof, Or.inl ⟨?o32, (fun hc => by have h1 := hc.2.2.2.2.1; omega), rfl, rfl, rfl, rfl⟩, hFX, hBX, hHL, Or.inl ⟨?o33, rfl, rfl⟩⟩⟩, hT, hM, pf_x_13⟩ dX9_hear_67
            case o32 => decide
            case o33 => decide
          · skip
            have hlt := hx_hear_lt hHC ?o34 ?o35 cx_12 ?o36
            case o34 => omega
            case o35 => omega
            case o36 => omega
            refine lv_aload_n hx hb dX9_hear_46 rfl (lv_at hl 1 rfl) ?_
            refine hk_geti hx hb hts hC_9 hown hW gx tt_9 13 ?o37 rfl kw_377 ⟨rfl, rfl, rfl⟩ f_x_13 dX9_hear_47 ?_
            case o37 => decide
            refine lv_bipush (v := 100) hx hb dX9_hear_50 ?o38 ?_
            case o38 => decide
            refine hb_icmp_ge (zx := m0.toInt) (zy := 100) (tgt := 66) hx hb rfl ?o39 dX9_hear_52 ?o40 (fun c_18 => ?_) (fun c_18 => ?_)
            case o39 => decide
            case o40 => decide
            · skip
              refine lv_iconst (v := -1) hx hb dX9_hear_66 ?o41 ?_
              case o41 => decide
              refine hx_reti hx hb hr hlk hW ⟨⟨m0, hrf, udf, f_x_13, cl_qc_11, cl_qc_12, ⟨cF, bF, hof, Or.inl ⟨?o42, (fun hc => ?o43), rfl, rfl, rfl, rfl⟩, hFX, hBX, hHL, Or.inl ⟨?o44, rfl, rfl⟩⟩⟩, hT, hM, pf_x_13⟩ dX9_hear_67
              case o42 => decide
              case o43 => omega
              case o44 => decide
            · skip
              refine lv_aload_n hx hb dX9_hear_55 rfl (lv_at hl 1 rfl) ?_
              refine lv_aload hx hb dX9_hear_56 (lv_at hl 0 rfl) ?_
              refine lv_iload hx hb dX9_hear_58 (lv_at hl 5 rfl) ?_
              have hTo := hT
              refine hx_goi (hx_runV (As := [.ref q_6, .int i4]) (rest := []) ⟨hx, hb, hml, hown, hts⟩ hW gx tt_9 (T := TX9) (N := 20) rfl (t_X9_drawBench_v l dC dI dA L_1 h_2 H.size x q_6 i4 hT gx gq_6 qp gqp f_x_7 qc gqc f_x_10 qfi (gqfi.S hM) f_x_15 i1 fo_9 ⟨?o45, ?o46⟩ fi0 af_qfi cn0 f_x_11 pn0 f_x_8 ddf cl_qp_7 jjf cl_qp_8 kkf cl_qp_2 nu_qp agf byf hDF hDP ?o47 ?o48 bF hBX pf_x_8) (cwV 2 hts (hx_gV kw_818 kw_815 kw_817 kw_26 kw_94) rfl rfl rfl (by decide +kernel) ⟨Nat.le_of_ble_eq_true rfl, Nat.le_of_ble_eq_true rfl⟩) rfl hl.1 rfl (Nat.le_of_ble_eq_true rfl) dX9_hear_60 ⟨Nat.le_of_ble_eq_true rfl, Nat.le_of_ble_eq_true rfl⟩) hW (fun r_21 L_19 h_20 H locs p_22 hW => ?_)
              case o45 => omega
              case o46 => omega
              case o47 => omega
              case o48 => omega
              obtain ⟨hr_23, hT, hs⟩ := p_22
              replace hT : hx_T T_tb L_19 h_20 := hT
              replace hs : hx_S T_tb [(21, 0), (47, 0)] L_1 h_2 L_19 h_20 := hs
              replace f_x_7 := (hs.o gx trivial rfl).2.trans f_x_7
              replace f_x_10 := (hs.o gx trivial rfl).2.trans f_x_10
              replace f_x_12 := (hs.o gx trivial rfl).2.trans f_x_12
              replace f_x_9 := (hs.o gx trivial rfl).2.trans f_x_9
              replace f_x_15 := (hs.o gx trivial rfl).2.trans f_x_15
              replace f_x_11 := (hs.o gx trivial rfl).1.trans f_x_11
              replace f_x_8 := (hs.o gx trivial rfl).1.trans f_x_8
              replace f_x_13 := (hs.o gx trivial rfl).1.trans f_x_13
              replace f_x_2 := (hs.o gx trivial rfl).1.trans f_x_2
              replace fx_10 := (hs.o gq_6 trivial rfl).1.trans fx_10
              replace fx_12 := (hs.o gq_6 trivial rfl).1.trans fx_12
              replace fq_14 := (hs.o gq_6 trivial rfl).2.trans fq_14
              replace fx_15 := (hs.o gq_14 trivial rfl).1.trans fx_15
              replace pf_x_8 : ∀ j : Nat, (j : Int) < (h_20.2.1 x 8).toInt → h_20.2.2 qp j ≠ none := by
                intro j hj; rw [(hs.o gx trivial rfl).1] at hj; rw [(hs.a gqp rfl j).2]; exact pf_x_8 j hj
              replace pf_x_11 : ∀ j : Nat, (j : Int) < (h_20.2.1 x 11).toInt → h_20.2.2 qc j ≠ none := by
                intro j hj; rw [(hs.o gx trivial rfl).1] at hj; rw [(hs.a gqc rfl j).2]; exact pf_x_11 j hj
              replace pf_x_13 : ∀ j : Nat, (j : Int) < (h_20.2.1 x 13).toInt → h_20.2.2 qh j ≠ none := by
                intro j hj; rw [(hs.o gx trivial rfl).1] at hj; rw [(hs.a gqh rfl j).2]; exact pf_x_13 j hj
              replace cl_qp_7 : hx_col 40 h_20 qp 7 = ddf := (hx_col_S hs hTo gqp tt_44 tt_4 rfl rfl).trans cl_qp_7
              replace cl_qp_8 : hx_col 40 h_20 qp 8 = jjf := (hx_col_S hs hTo gqp tt_44 tt_4 rfl rfl).trans cl_qp_8
              replace cl_qp_2 : hx_col 40 h_20 qp 2 = kkf := (hx_col_S hs hTo gqp tt_44 tt_4 rfl rfl).trans cl_qp_2
              replace cl_qp_1 : hx_col 40 h_20 qp 1 = bnf := (hx_col_S hs hTo gqp tt_44 tt_4 rfl rfl).trans cl_qp_1
              replace cl_qc_10 : hx_col 100 h_20 qc 10 = fof := (hx_col_S hs hTo gqc tt_45 tt_2 rfl rfl).trans cl_qc_10
              replace cl_qc_11 : hx_col 100 h_20 qc 11 = hrf := (hx_col_S hs hTo gqc tt_45 tt_2 rfl rfl).trans cl_qc_11
              replace cl_qc_12 : hx_col 100 h_20 qc 12 = udf := (hx_col_S hs hTo gqc tt_45 tt_2 rfl rfl).trans cl_qc_12
              replace cl_qc_6 : hx_col 100 h_20 qc 6 = smf := (hx_col_S hs hTo gqc tt_45 tt_2 rfl rfl).trans cl_qc_6
              replace cl_qc_7 : hx_col 100 h_20 qc 7 = frf := (hx_col_S hs hTo gqc tt_45 tt_2 rfl rfl).trans cl_qc_7
              replace cl_qc_8 : hx_col 100 h_20 qc 8 = flf := (hx_col_S hs hTo gqc tt_45 tt_2 rfl rfl).trans cl_qc_8
              replace nu_qp : hx_num 40 h_20 qp 0 (pn0.toInt) := hx_num_S hs hTo gqp tt_44 tt_4 rfl rfl nu_qp
              replace nu_qc : hx_num 100 h_20 qc 0 (cn0.toInt) := hx_num_S hs hTo gqc tt_45 tt_2 rfl rfl nu_qc
              replace hDF : hw_DF h_20 qc qp 2 agf cn0.toInt := hw_DF_S hs hTo gqc gqp tt_45 tt_2 rfl rfl rfl hDF
              replace hDP : hw_DF h_20 qc qp 1 byf cn0.toInt := hw_DF_S hs hTo gqc gqp tt_45 tt_2 rfl rfl rfl hDP
              replace hAC : hv_AC h_20 qc plf cn0.toInt A := hv_AC_S hs hTo gqc tt_45 tt_2 rfl tt_0 rfl rfl rfl rfl rfl rfl rfl hAC
              replace hFX : hv_FX 8 4 h_20 qc cF cn0.toInt := hv_FX_S hs hTo gqc tt_45 tt_2 rfl rfl rfl rfl hFX
              replace hHL : hv_HL h_20 qh qc hof m0.toInt cn0.toInt := hv_HL_S hs gqh gqc rfl rfl hHL
              replace fo_9 := (hs.a gqc rfl _).2.trans fo_9
              replace eoq_14 := (hs.a gqp rfl _).2.trans eoq_14
              replace af_qtk : h_20.2.1 qtk = tf := (funext fun j => (hs.a (gqtk.S hM) rfl j).1).trans af_qtk
              replace hM := hM.tr (hs.mono ?o49)
              case o49 => decide
              replace gx := gx.S hs
              replace gqp := gqp.S hs
              replace gqc := gqc.S hs
              replace gqh := gqh.S hs
              replace gq_6 := gq_6.S hs
              replace gq_14 := gq_14.S hs
              refine hb_if_ne (zx := r_21.toInt) (tgt := 68) hx hb rfl dX9_hear_63 ?o50 (fun c_24 => ?_) (fun c_24 => ?_)
              case o50 => decide
              · skip
                obtain ⟨_, hN3, b0_9, b1_9, b2_9, bF9, hBN9, hBe9, hBX9⟩ := hr_23.resolve_right (fun z => by have := z.1; omega)
                have hBX9 : hv_FX 3 5 h_20 qc bF9 cn0.toInt := hBX9
                refine lv_aload hx hb dX9_hear_68 (lv_at hl 0 rfl) ?_
                refine hx_getn hx hb hts hC_2 hown hW hT gq_6 tt_2 1 ?o51 rfl kw_728 ⟨rfl, rfl, rfl⟩ dX9_hear_70 (fun q_25 fq_25 gq_25 => ?_)
                case o51 => decide
                obtain ⟨dAq_25, dBq_25, dCq_25⟩ := hDP i1.toNatClampNeg (by unfold Int32.toNatClampNeg; omega) (by unfold Int32.toNatClampNeg; omega) _ _ fo_9 fq_25
                have dAq_25 : 0 ≤ (byf i1.toNatClampNeg).toInt := dAq_25
                have dBq_25 : (byf i1.toNatClampNeg).toInt < 40 := dBq_25
                have dUq_25 : 0 ≤ (byf i1.toInt.toNat).toInt ∧ (byf i1.toInt.toNat).toInt < 40 := ⟨dAq_25, dBq_25⟩
                have eoq_25 : h_20.2.2 qp (byf i1.toNatClampNeg).toNatClampNeg = some q_25 := dCq_25
                refine hx_geti hx hb hts hC_4 hown hW hT gq_25 tt_4 0 ?o52 rfl kw_612 ⟨rfl, rfl, rfl⟩ dX9_hear_73 (fun x_26 ex_26 lx_26 ux_26 => ?_)
                case o52 => decide
                have fx_26 := ex_26.symm
                have hpn9 : x_26 = byf i1.toNatClampNeg := ex_26.trans (hx_num_at nu_qp eoq_25 ?o53 ?o54)
                case o53 => omega
                case o54 => omega
                refine lv_istore (lv' := [(6, .int x_26), (5, .ref q_6), (0, .ref x), (1, .int i1), (2, .int i2), (3, .int i3), (4, .int i4)]) hx hb dX9_hear_76 hl ?o55 rfl (fun ls hl => ?_)
                case o55 => decide
                refine lv_aload hx hb dX9_hear_78 (lv_at hl 1 rfl) ?_
                refine hk_getr hx hb hts hC_2 hown hW gq_6 tt_2 2 ?o56 rfl kw_733 ⟨rfl, rfl, rfl⟩ fq_14 dX9_hear_80 ?_
                case o56 => decide
                refine hx_geti hx hb hts hC_4 hown hW hT gq_14 tt_4 0 ?o57 rfl kw_612 ⟨rfl, rfl, rfl⟩ dX9_hear_83 (fun x_27 ex_27 lx_27 ux_27 => ?_)
                case o57 => decide
                have fx_27 := ex_27.symm
                have hqn9 : x_27 = agf i1.toNatClampNeg := ex_27.trans (hx_num_at nu_qp eoq_14 ?o58 ?o59)
                case o58 => omega
                case o59 => omega
                refine lv_istore (lv' := [(7, .int x_27), (6, .int x_26), (5, .ref q_6), (0, .ref x), (1, .int i1), (2, .int i2), (3, .int i3), (4, .int i4)]) hx hb dX9_hear_86 hl ?o60 rfl (fun ls hl => ?_)
                case o60 => decide
                refine lv_aload hx hb dX9_hear_88 (lv_at hl 2 rfl) ?_
                refine hx_getn hx hb hts hC_2 hown hW hT gq_6 tt_2 4 ?o61 rfl kw_738 ⟨rfl, rfl, rfl⟩ dX9_hear_90 (fun q_28 fq_28 gq_28 => ?_)
                case o61 => decide
                refine lv_iconst (v := 0) hx hb dX9_hear_93 ?o62 ?_
                case o62 => decide
                refine lv_iload_n hx hb dX9_hear_94 rfl (lv_at hl 5 rfl) ?_
                have jn_103 : ∀ (xj_29 : Int32) (ls : Array Slot), 0 ≤ xj_29.toInt → xj_29.toInt ≤ 1 → xj_29.toInt = i2.toInt → lv_has ls 8 [(7, .int x_27), (6, .int x_26), (5, .ref q_6), (0, .ref x), (1, .int i1), (2, .int i2), (3, .int i3), (4, .int i4)] → W p l e ({ frames := 4, cells := 0, slots := 0, locals := 92 }) s m ([.ref x, .int i1, .int i2, .int i3, .int i4] : List Value).toArray below meth c H locs 0 0 (MQ below (va_Qi (fun (r : Int32) (u : List Nat × hx_h) => (∃ (m1 : Int32) (hrf1 : Nat → Int32) (udf1 : Nat → Int32), u.2.2.1 x 13 = m1 ∧ hx_col 100 u.2 qc 11 = hrf1 ∧ hx_col 100 u.2 qc 12 = udf1 ∧ (∃ cF1 bF1 hof1 : Nat → Int32, hv_HS (hv_HC fof hrf ddf agf cn0.toInt i1.toInt i4.toInt ((hv_fs jjf ddf kkf (byf i1.toNatClampNeg).toNatClampNeg (agf i1.toNatClampNeg).toNatClampNeg pn0.toInt.toNat).length : Int)) i1 nw0 m0 m1 r (hv_jg (hv_F0 cF1 (8 * i1.toNatClampNeg)) (A (plf i1.toNatClampNeg).toInt.toNat).2.1 (A (plf i1.toNatClampNeg).toInt.toNat).2.2 (frf i1.toNatClampNeg).toInt (bnf (agf i1.toNatClampNeg).toNatClampNeg).toInt (smf i1.toNatClampNeg).toInt (hv_sm byf agf flf smf (byf i1.toNatClampNeg).toInt (agf i1.toNatClampNeg).toInt ((flf i1.toNatClampNeg).toInt - (A (plf i1.toNatClampNeg).toInt.toNat).2.1 1) cn0.toInt.toNat)) hrf hrf1 udf udf1 hof hof1 ∧ hv_FX 8 4 u.2 qc cF1 cn0.toInt ∧ hv_FX 3 5 u.2 qc bF1 cn0.toInt ∧ hv_HL u.2 qh qc hof1 m1.toInt cn0.toInt ∧ ((r.toInt = -1 ∧ cF1 = cF ∧ bF1 = bF) ∨ (r.toInt ≠ -1 ∧ hv_CU cF cF1 i1.toNatClampNeg i2 i3 (hy_bs of wf df kf sf (byf i1.toNatClampNeg) (agf i1.toNatClampNeg) (flf i1.toNatClampNeg) ln0.toInt.toNat) (-(hy_bs of wf df kf sf (agf i1.toNatClampNeg) (byf i1.toNatClampNeg) (flf i1.toNatClampNeg) ln0.toInt.toNat)) (hy_G of wf df kf sf bf (byf i1.toNatClampNeg) (agf i1.toNatClampNeg) (flf i1.toNatClampNeg) ln0.toInt.toNat ln0.toInt.toNat).2 ∧ (∃ b0 b1 b2 : Int32, hv_BN (hv_fs jjf ddf kkf (byf i1.toNatClampNeg).toNatClampNeg (agf i1.toNatClampNeg).toNatClampNeg pn0.toInt.toNat) (i4.toInt % hv_T3 (hv_fs jjf ddf kkf (byf i1.toNatClampNeg).toNatClampNeg (agf i1.toNatClampNeg).toNatClampNeg pn0.toInt.toNat).length) b0 b1 b2 ∧ bF1 = hx_up (hx_up (hx_up bF (0 + 3 * i1.toNatClampNeg) b0) (1 + 3 * i1.toNatClampNeg) b1) (2 + 3 * i1.toNatClampNeg) b2))))) ∧ hx_T T_tb u.1 u.2 ∧ hx_S T_tb [(2, 11), (2, 12), (9, 13), (19, 0), (20, 0), (21, 0), (46, 0), (47, 0)] L h u.1 u.2 ∧ (∀ j : Nat, (j : Int) < (u.2.2.1 x 13).toInt → u.2.2.2 qh j ≠ none)) (hx_E T_tb (P_ty dA) (dC, dI) vwCl (hx_A L sz)) (hx_A L sz)) ([.ref x, .int i1, .int i2, .int i3, .int i4] : List Value).toArray s 0 0 (hx_A L sz)) (F0 m 103 ls [.int xj_29, .int (0 : Int32), .ref q_28]) := by
                  intro xj_29 ls blxj_29 buxj_29 jcxj_29 hl
                  obtain rfl : i2 = xj_29 := Int32.toInt_inj.mp (by omega)
                  have hfO9 := hFX
                  have hTO9 := hT
                  have gcO9 := gqc
                  have gtO9 := gq_28
                  have foO9 := fo_9
                  have ftO9 := fq_28
                  have hTo := hT
                  refine hx_iast hx hb hW hT (hx_S.rf (M := [(20, 0)])) gq_28 tt_20 rfl ?o63 rfl (i32_r _) (List.mem_singleton.mpr rfl) dX9_hear_103 (fun H locs h_30 eh_30 hW hT hs => ?_)
                  case o63 => decide
                  replace f_x_7 := (hs.o gx trivial rfl).2.trans f_x_7
                  replace f_x_10 := (hs.o gx trivial rfl).2.trans f_x_10
                  replace f_x_12 := (hs.o gx trivial rfl).2.trans f_x_12
                  replace f_x_9 := (hs.o gx trivial rfl).2.trans f_x_9
                  replace f_x_15 := (hs.o gx trivial rfl).2.trans f_x_15
                  replace f_x_11 := (hs.o gx trivial rfl).1.trans f_x_11
                  replace f_x_8 := (hs.o gx trivial rfl).1.trans f_x_8
                  replace f_x_13 := (hs.o gx trivial rfl).1.trans f_x_13
                  replace f_x_2 := (hs.o gx trivial rfl).1.trans f_x_2
                  replace fx_10 := (hs.o gq_6 trivial rfl).1.trans fx_10
                  replace fx_12 := (hs.o gq_6 trivial rfl).1.trans fx_12
                  replace fq_14 := (hs.o gq_6 trivial rfl).2.trans fq_14
                  replace fx_15 := (hs.o gq_14 trivial rfl).1.trans fx_15
                  replace fq_25 := (hs.o gq_6 trivial rfl).2.trans fq_25
                  replace fx_26 := (hs.o gq_25 trivial rfl).1.trans fx_26
                  replace fx_27 := (hs.o gq_14 trivial rfl).1.trans fx_27
                  replace fq_28 := (hs.o gq_6 trivial rfl).2.trans fq_28
                  replace pf_x_8 : ∀ j : Nat, (j : Int) < (h_30.2.1 x 8).toInt → h_30.2.2 qp j ≠ none := by
                    intro j hj; rw [(hs.o gx trivial rfl).1] at hj; rw [(hs.a gqp rfl j).2]; exact pf_x_8 j hj
                  replace pf_x_11 : ∀ j : Nat, (j : Int) < (h_30.2.1 x 11).toInt → h_30.2.2 qc j ≠ none := by
                    intro j hj; rw [(hs.o gx trivial rfl).1] at hj; rw [(hs.a gqc rfl j).2]; exact pf_x_11 j hj
                  replace pf_x_13 : ∀ j : Nat, (j : Int) < (h_30.2.1 x 13).toInt → h_30.2.2 qh j ≠ none := by
                    intro j hj; rw [(hs.o gx trivial rfl).1] at hj; rw [(hs.a gqh rfl j).2]; exact pf_x_13 j hj
                  replace cl_qp_7 : hx_col 40 h_30 qp 7 = ddf := (hx_col_S hs hTo gqp tt_44 tt_4 rfl rfl).trans cl_qp_7
                  replace cl_qp_8 : hx_col 40 h_30 qp 8 = jjf := (hx_col_S hs hTo gqp tt_44 tt_4 rfl rfl).trans cl_qp_8
                  replace cl_qp_2 : hx_col 40 h_30 qp 2 = kkf := (hx_col_S hs hTo gqp tt_44 tt_4 rfl rfl).trans cl_qp_2
                  replace cl_qp_1 : hx_col 40 h_30 qp 1 = bnf := (hx_col_S hs hTo gqp tt_44 tt_4 rfl rfl).trans cl_qp_1
                  replace cl_qc_10 : hx_col 100 h_30 qc 10 = fof := (hx_col_S hs hTo gqc tt_45 tt_2 rfl rfl).trans cl_qc_10
                  replace cl_qc_11 : hx_col 100 h_30 qc 11 = hrf := (hx_col_S hs hTo gqc tt_45 tt_2 rfl rfl).trans cl_qc_11
                  replace cl_qc_12 : hx_col 100 h_30 qc 12 = udf := (hx_col_S hs hTo gqc tt_45 tt_2 rfl rfl).trans cl_qc_12
                  replace cl_qc_6 : hx_col 100 h_30 qc 6 = smf := (hx_col_S hs hTo gqc tt_45 tt_2 rfl rfl).trans cl_qc_6
                  replace cl_qc_7 : hx_col 100 h_30 qc 7 = frf := (hx_col_S hs hTo gqc tt_45 tt_2 rfl rfl).trans cl_qc_7
                  replace cl_qc_8 : hx_col 100 h_30 qc 8 = flf := (hx_col_S hs hTo gqc tt_45 tt_2 rfl rfl).trans cl_qc_8
                  replace nu_qp : hx_num 40 h_30 qp 0 (pn0.toInt) := hx_num_S hs hTo gqp tt_44 tt_4 rfl rfl nu_qp
                  replace nu_qc : hx_num 100 h_30 qc 0 (cn0.toInt) := hx_num_S hs hTo gqc tt_45 tt_2 rfl rfl nu_qc
                  replace hDF : hw_DF h_30 qc qp 2 agf cn0.toInt := hw_DF_S hs hTo gqc gqp tt_45 tt_2 rfl rfl rfl hDF
                  replace hDP : hw_DF h_30 qc qp 1 byf cn0.toInt := hw_DF_S hs hTo gqc gqp tt_45 tt_2 rfl rfl rfl hDP
                  replace hAC : hv_AC h_30 qc plf cn0.toInt A := hv_AC_S hs hTo gqc tt_45 tt_2 rfl tt_0 rfl rfl rfl rfl rfl rfl rfl hAC
                  replace hHL : hv_HL h_30 qh qc hof m0.toInt cn0.toInt := hv_HL_S hs gqh gqc rfl rfl hHL
                  replace hBX9 : hv_FX 3 5 h_30 qc bF9 cn0.toInt := hv_FX_S hs hTo gqc tt_45 tt_2 rfl rfl rfl rfl hBX9
                  replace fo_9 := (hs.a gqc rfl _).2.trans fo_9
                  replace eoq_14 := (hs.a gqp rfl _).2.trans eoq_14
                  replace eoq_25 := (hs.a gqp rfl _).2.trans eoq_25
                  replace af_qtk : h_30.2.1 qtk = tf := (funext fun j => (hs.a (gqtk.S hM) rfl j).1).trans af_qtk
                  replace hM := hM.tr (hs.mono ?o64)
                  case o64 => decide
                  replace gx := gx.S hs
                  replace gqp := gqp.S hs
                  replace gqc := gqc.S hs
                  replace gqh := gqh.S hs
                  replace gq_6 := gq_6.S hs
                  replace gq_14 := gq_14.S hs
                  replace gq_25 := gq_25.S hs
                  replace gq_28 := gq_28.S hs
                  obtain ⟨xF_31, dxF_31⟩ : ∃ g : Nat → Int32, g = hx_up cF ((0 : Int32).toNatClampNeg + 8 * i1.toNatClampNeg) i2 := ⟨_, rfl⟩
                  have nxF_31 : hv_FX 8 4 h_30 qc xF_31 cn0.toInt := ?o65
                  case o65 =>
                    rw [dxF_31]
                    refine hv_FX_u hfO9 hTO9 gcO9 gtO9 ?o66 tt_45 (by unfold Int32.toNatClampNeg; omega) (by unfold Int32.toNatClampNeg; omega) foO9 ftO9 ?o67 eh_30
                    case o66 => decide
                    case o67 => decide
                  refine lv_aload hx hb dX9_hear_104 (lv_at hl 2 rfl) ?_
                  refine hk_getr hx hb hts hC_2 hown hW gq_6 tt_2 4 ?o68 rfl kw_738 ⟨rfl, rfl, rfl⟩ fq_28 dX9_hear_106 ?_
                  case o68 => decide
                  refine lv_iconst (v := 1) hx hb dX9_hear_109 ?o69 ?_
                  case o69 => decide
                  refine lv_iload_n hx hb dX9_hear_110 rfl (lv_at hl 6 rfl) ?_
                  have jn_119 : ∀ (xj_32 : Int32) (ls : Array Slot), 0 ≤ xj_32.toInt → xj_32.toInt ≤ 1 → xj_32.toInt = i3.toInt → lv_has ls 8 [(7, .int x_27), (6, .int x_26), (5, .ref q_6), (0, .ref x), (1, .int i1), (2, .int i2), (3, .int i3), (4, .int i4)] → W p l e ({ frames := 4, cells := 0, slots := 0, locals := 92 }) s m ([.ref x, .int i1, .int i2, .int i3, .int i4] : List Value).toArray below meth c H locs 0 0 (MQ below (va_Qi (fun (r : Int32) (u : List Nat × hx_h) => (∃ (m1 : Int32) (hrf1 : Nat → Int32) (udf1 : Nat → Int32), u.2.2.1 x 13 = m1 ∧ hx_col 100 u.2 qc 11 = hrf1 ∧ hx_col 100 u.2 qc 12 = udf1 ∧ (∃ cF1 bF1 hof1 : Nat → Int32, hv_HS (hv_HC fof hrf ddf agf cn0.toInt i1.toInt i4.toInt ((hv_fs jjf ddf kkf (byf i1.toNatClampNeg).toNatClampNeg (agf i1.toNatClampNeg).toNatClampNeg pn0.toInt.toNat).length : Int)) i1 nw0 m0 m1 r (hv_jg (hv_F0 cF1 (8 * i1.toNatClampNeg)) (A (plf i1.toNatClampNeg).toInt.toNat).2.1 (A (plf i1.toNatClampNeg).toInt.toNat).2.2 (frf i1.toNatClampNeg).toInt (bnf (agf i1.toNatClampNeg).toNatClampNeg).toInt (smf i1.toNatClampNeg).toInt (hv_sm byf agf flf smf (byf i1.toNatClampNeg).toInt (agf i1.toNatClampNeg).toInt ((flf i1.toNatClampNeg).toInt - (A (plf i1.toNatClampNeg).toInt.toNat).2.1 1) cn0.toInt.toNat)) hrf hrf1 udf udf1 hof hof1 ∧ hv_FX 8 4 u.2 qc cF1 cn0.toInt ∧ hv_FX 3 5 u.2 qc bF1 cn0.toInt ∧ hv_HL u.2 qh qc hof1 m1.toInt cn0.toInt ∧ ((r.toInt = -1 ∧ cF1 = cF ∧ bF1 = bF) ∨ (r.toInt ≠ -1 ∧ hv_CU cF cF1 i1.toNatClampNeg i2 i3 (hy_bs of wf df kf sf (byf i1.toNatClampNeg) (agf i1.toNatClampNeg) (flf i1.toNatClampNeg) ln0.toInt.toNat) (-(hy_bs of wf df kf sf (agf i1.toNatClampNeg) (byf i1.toNatClampNeg) (flf i1.toNatClampNeg) ln0.toInt.toNat)) (hy_G of wf df kf sf bf (byf i1.toNatClampNeg) (agf i1.toNatClampNeg) (flf i1.toNatClampNeg) ln0.toInt.toNat ln0.toInt.toNat).2 ∧ (∃ b0 b1 b2 : Int32, hv_BN (hv_fs jjf ddf kkf (byf i1.toNatClampNeg).toNatClampNeg (agf i1.toNatClampNeg).toNatClampNeg pn0.toInt.toNat) (i4.toInt % hv_T3 (hv_fs jjf ddf kkf (byf i1.toNatClampNeg).toNatClampNeg (agf i1.toNatClampNeg).toNatClampNeg pn0.toInt.toNat).length) b0 b1 b2 ∧ bF1 = hx_up (hx_up (hx_up bF (0 + 3 * i1.toNatClampNeg) b0) (1 + 3 * i1.toNatClampNeg) b1) (2 + 3 * i1.toNatClampNeg) b2))))) ∧ hx_T T_tb u.1 u.2 ∧ hx_S T_tb [(2, 11), (2, 12), (9, 13), (19, 0), (20, 0), (21, 0), (46, 0), (47, 0)] L h u.1 u.2 ∧ (∀ j : Nat, (j : Int) < (u.2.2.1 x 13).toInt → u.2.2.2 qh j ≠ none)) (hx_E T_tb (P_ty dA) (dC, dI) vwCl (hx_A L sz)) (hx_A L sz)) ([.ref x, .int i1, .int i2, .int i3, .int i4] : List Value).toArray s 0 0 (hx_A L sz)) (F0 m 119 ls [.int xj_32, .int (1 : Int32), .ref q_28]) := by
                    intro xj_32 ls blxj_32 buxj_32 jcxj_32 hl
                    obtain rfl : i3 = xj_32 := Int32.toInt_inj.mp (by omega)
                    have hfO9 := nxF_31
                    have hTO9 := hT
                    have gcO9 := gqc
                    have gtO9 := gq_28
                    have foO9 := fo_9
                    have ftO9 := fq_28
                    have hTo := hT
                    refine hx_iast hx hb hW hT (hx_S.rf (M := [(20, 0)])) gq_28 tt_20 rfl ?o70 rfl (i32_r _) (List.mem_singleton.mpr rfl) dX9_hear_119 (fun H locs h_33 eh_33 hW hT hs => ?_)
                    case o70 => decide
                    replace f_x_7 := (hs.o gx trivial rfl).2.trans f_x_7
                    replace f_x_10 := (hs.o gx trivial rfl).2.trans f_x_10
                    replace f_x_12 := (hs.o gx trivial rfl).2.trans f_x_12
                    replace f_x_9 := (hs.o gx trivial rfl).2.trans f_x_9
                    replace f_x_15 := (hs.o gx trivial rfl).2.trans f_x_15
                    replace f_x_11 := (hs.o gx trivial rfl).1.trans f_x_11
                    replace f_x_8 := (hs.o gx trivial rfl).1.trans f_x_8
                    replace f_x_13 := (hs.o gx trivial rfl).1.trans f_x_13
                    replace f_x_2 := (hs.o gx trivial rfl).1.trans f_x_2
                    replace fx_10 := (hs.o gq_6 trivial rfl).1.trans fx_10
                    replace fx_12 := (hs.o gq_6 trivial rfl).1.trans fx_12
                    replace fq_14 := (hs.o gq_6 trivial rfl).2.trans fq_14
                    replace fx_15 := (hs.o gq_14 trivial rfl).1.trans fx_15
                    replace fq_25 := (hs.o gq_6 trivial rfl).2.trans fq_25
                    replace fx_26 := (hs.o gq_25 trivial rfl).1.trans fx_26
                    replace fx_27 := (hs.o gq_14 trivial rfl).1.trans fx_27
                    replace fq_28 := (hs.o gq_6 trivial rfl).2.trans fq_28
                    replace pf_x_8 : ∀ j : Nat, (j : Int) < (h_33.2.1 x 8).toInt → h_33.2.2 qp j ≠ none := by
                      intro j hj; rw [(hs.o gx trivial rfl).1] at hj; rw [(hs.a gqp rfl j).2]; exact pf_x_8 j hj
                    replace pf_x_11 : ∀ j : Nat, (j : Int) < (h_33.2.1 x 11).toInt → h_33.2.2 qc j ≠ none := by
                      intro j hj; rw [(hs.o gx trivial rfl).1] at hj; rw [(hs.a gqc rfl j).2]; exact pf_x_11 j hj
                    replace pf_x_13 : ∀ j : Nat, (j : Int) < (h_33.2.1 x 13).toInt → h_33.2.2 qh j ≠ none := by
                      intro j hj; rw [(hs.o gx trivial rfl).1] at hj; rw [(hs.a gqh rfl j).2]; exact pf_x_13 j hj
                    replace cl_qp_7 : hx_col 40 h_33 qp 7 = ddf := (hx_col_S hs hTo gqp tt_44 tt_4 rfl rfl).trans cl_qp_7
                    replace cl_qp_8 : hx_col 40 h_33 qp 8 = jjf := (hx_col_S hs hTo gqp tt_44 tt_4 rfl rfl).trans cl_qp_8
                    replace cl_qp_2 : hx_col 40 h_33 qp 2 = kkf := (hx_col_S hs hTo gqp tt_44 tt_4 rfl rfl).trans cl_qp_2
                    replace cl_qp_1 : hx_col 40 h_33 qp 1 = bnf := (hx_col_S hs hTo gqp tt_44 tt_4 rfl rfl).trans cl_qp_1
                    replace cl_qc_10 : hx_col 100 h_33 qc 10 = fof := (hx_col_S hs hTo gqc tt_45 tt_2 rfl rfl).trans cl_qc_10
                    replace cl_qc_11 : hx_col 100 h_33 qc 11 = hrf := (hx_col_S hs hTo gqc tt_45 tt_2 rfl rfl).trans cl_qc_11
                    replace cl_qc_12 : hx_col 100 h_33 qc 12 = udf := (hx_col_S hs hTo gqc tt_45 tt_2 rfl rfl).trans cl_qc_12
                    replace cl_qc_6 : hx_col 100 h_33 qc 6 = smf := (hx_col_S hs hTo gqc tt_45 tt_2 rfl rfl).trans cl_qc_6
                    replace cl_qc_7 : hx_col 100 h_33 qc 7 = frf := (hx_col_S hs hTo gqc tt_45 tt_2 rfl rfl).trans cl_qc_7
                    replace cl_qc_8 : hx_col 100 h_33 qc 8 = flf := (hx_col_S hs hTo gqc tt_45 tt_2 rfl rfl).trans cl_qc_8
                    replace nu_qp : hx_num 40 h_33 qp 0 (pn0.toInt) := hx_num_S hs hTo gqp tt_44 tt_4 rfl rfl nu_qp
                    replace nu_qc : hx_num 100 h_33 qc 0 (cn0.toInt) := hx_num_S hs hTo gqc tt_45 tt_2 rfl rfl nu_qc
                    replace hDF : hw_DF h_33 qc qp 2 agf cn0.toInt := hw_DF_S hs hTo gqc gqp tt_45 tt_2 rfl rfl rfl hDF
                    replace hDP : hw_DF h_33 qc qp 1 byf cn0.toInt := hw_DF_S hs hTo gqc gqp tt_45 tt_2 rfl rfl rfl hDP
                    replace hAC : hv_AC h_33 qc plf cn0.toInt A := hv_AC_S hs hTo gqc tt_45 tt_2 rfl tt_0 rfl rfl rfl rfl rfl rfl rfl hAC
                    replace hHL : hv_HL h_33 qh qc hof m0.toInt cn0.toInt := hv_HL_S hs gqh gqc rfl rfl hHL
                    replace hBX9 : hv_FX 3 5 h_33 qc bF9 cn0.toInt := hv_FX_S hs hTo gqc tt_45 tt_2 rfl rfl rfl rfl hBX9
                    replace fo_9 := (hs.a gqc rfl _).2.trans fo_9
                    replace eoq_14 := (hs.a gqp rfl _).2.trans eoq_14
                    replace eoq_25 := (hs.a gqp rfl _).2.trans eoq_25
                    replace af_qtk : h_33.2.1 qtk = tf := (funext fun j => (hs.a (gqtk.S hM) rfl j).1).trans af_qtk
                    replace hM := hM.tr (hs.mono ?o71)
                    case o71 => decide
                    replace gx := gx.S hs
                    replace gqp := gqp.S hs
                    replace gqc := gqc.S hs
                    replace gqh := gqh.S hs
                    replace gq_6 := gq_6.S hs
                    replace gq_14 := gq_14.S hs
                    replace gq_25 := gq_25.S hs
                    replace gq_28 := gq_28.S hs
                    obtain ⟨xF_34, dxF_34⟩ : ∃ g : Nat → Int32, g = hx_up xF_31 ((1 : Int32).toNatClampNeg + 8 * i1.toNatClampNeg) i3 := ⟨_, rfl⟩
                    have nxF_34 : hv_FX 8 4 h_33 qc xF_34 cn0.toInt := ?o72
                    case o72 =>
                      rw [dxF_34]
                      refine hv_FX_u hfO9 hTO9 gcO9 gtO9 ?o73 tt_45 (by unfold Int32.toNatClampNeg; omega) (by unfold Int32.toNatClampNeg; omega) foO9 ftO9 ?o74 eh_33
                      case o73 => decide
                      case o74 => decide
                    refine lv_aload hx hb dX9_hear_120 (lv_at hl 2 rfl) ?_
                    refine hk_getr hx hb hts hC_2 hown hW gq_6 tt_2 4 ?o75 rfl kw_738 ⟨rfl, rfl, rfl⟩ fq_28 dX9_hear_122 ?_
                    case o75 => decide
                    refine lv_iconst (v := 4) hx hb dX9_hear_125 ?o76 ?_
                    case o76 => decide
                    refine lv_aload_n hx hb dX9_hear_126 rfl (lv_at hl 3 rfl) ?_
                    refine hk_getr hx hb hts hC_9 hown hW gx tt_9 9 ?o77 rfl kw_373 ⟨rfl, rfl, rfl⟩ f_x_9 dX9_hear_127 ?_
                    case o77 => decide
                    refine lv_iload hx hb dX9_hear_130 (lv_at hl 1 rfl) ?_
                    refine lv_iload hx hb dX9_hear_132 (lv_at hl 0 rfl) ?_
                    refine lv_aload hx hb dX9_hear_134 (lv_at hl 2 rfl) ?_
                    refine hx_geti hx hb hts hC_2 hown hW hT gq_6 tt_2 8 ?o78 rfl kw_743 ⟨rfl, rfl, rfl⟩ dX9_hear_136 (fun x_35 ex_35 lx_35 ux_35 => ?_)
                    case o78 => decide
                    have fx_35 := ex_35.symm
                    have cx_35 : x_35 = flf i1.toNatClampNeg := ?o79
                    case o79 =>
                      rw [ex_35, ← cl_qc_8]
                      exact (hx_col_at fo_9 (by unfold Int32.toNatClampNeg; omega)).symm
                    have hTo := hT
                    have zc_4 : (4 : Int32).toInt = 4 := ?o80
                    case o80 => decide
                    refine hx_goi (hx_runV (As := [.int x_26, .int x_27, .int x_35]) (rest := [.int (4 : Int32), .ref q_28]) ⟨hx, hb, hml, hown, hts⟩ hW (gqb.S hM) tt_1 (T := TX1) (N := 8) rfl (t_X1_sumWith_2 l dC dI dA L_19 h_33 H.size qb x_26 x_27 x_35 hT (gqb.S hM) qo (gqo.S hM) ((hM.o gqb trivial rfl).2.trans f_qb_1) qwi (gqwi.S hM) ((hM.o gqb trivial rfl).2.trans f_qb_2) qdy (gqdy.S hM) ((hM.o gqb trivial rfl).2.trans f_qb_3) qkd (gqkd.S hM) ((hM.o gqb trivial rfl).2.trans f_qb_4) qsm (gqsm.S hM) ((hM.o gqb trivial rfl).2.trans f_qb_5) of (hx_afS hM gqo rfl af_qo) wf (hx_afS hM gqwi rfl af_qwi) df (hx_afS hM gqdy rfl af_qdy) kf (hx_afS hM gqkd rfl af_qkd) sf (hx_afS hM gqsm rfl af_qsm) ln0 ((hM.o gqb trivial rfl).1.trans f_qb_0)) (cwV 3 hts (hx_gV kw_688 kw_685 kw_686 kw_687 kw_98) rfl rfl rfl (by decide +kernel) ⟨Nat.le_of_ble_eq_true rfl, Nat.le_of_ble_eq_true rfl⟩) rfl hl.1 rfl (Nat.le_of_ble_eq_true rfl) dX9_hear_139 ⟨Nat.le_of_ble_eq_true rfl, Nat.le_of_ble_eq_true rfl⟩) hW (fun r_38 L_36 h_37 H locs p_39 hW => ?_)
                    obtain ⟨hr_40, hT, hs⟩ := p_39
                    replace hT : hx_T T_tb L_36 h_37 := hT
                    replace hs : hx_S T_tb [] L_19 h_33 L_36 h_37 := hs
                    replace f_x_7 := (hs.o gx trivial rfl).2.trans f_x_7
                    replace f_x_10 := (hs.o gx trivial rfl).2.trans f_x_10
                    replace f_x_12 := (hs.o gx trivial rfl).2.trans f_x_12
                    replace f_x_9 := (hs.o gx trivial rfl).2.trans f_x_9
                    replace f_x_15 := (hs.o gx trivial rfl).2.trans f_x_15
                    replace f_x_11 := (hs.o gx trivial rfl).1.trans f_x_11
                    replace f_x_8 := (hs.o gx trivial rfl).1.trans f_x_8
                    replace f_x_13 := (hs.o gx trivial rfl).1.trans f_x_13
                    replace f_x_2 := (hs.o gx trivial rfl).1.trans f_x_2
                    replace fx_10 := (hs.o gq_6 trivial rfl).1.trans fx_10
                    replace fx_12 := (hs.o gq_6 trivial rfl).1.trans fx_12
                    replace fq_14 := (hs.o gq_6 trivial rfl).2.trans fq_14
                    replace fx_15 := (hs.o gq_14 trivial rfl).1.trans fx_15
                    replace fq_25 := (hs.o gq_6 trivial rfl).2.trans fq_25
                    replace fx_26 := (hs.o gq_25 trivial rfl).1.trans fx_26
                    replace fx_27 := (hs.o gq_14 trivial rfl).1.trans fx_27
                    replace fq_28 := (hs.o gq_6 trivial rfl).2.trans fq_28
                    replace fx_35 := (hs.o gq_6 trivial rfl).1.trans fx_35
                    replace pf_x_8 : ∀ j : Nat, (j : Int) < (h_37.2.1 x 8).toInt → h_37.2.2 qp j ≠ none := by
                      intro j hj; rw [(hs.o gx trivial rfl).1] at hj; rw [(hs.a gqp rfl j).2]; exact pf_x_8 j hj
                    replace pf_x_11 : ∀ j : Nat, (j : Int) < (h_37.2.1 x 11).toInt → h_37.2.2 qc j ≠ none := by
                      intro j hj; rw [(hs.o gx trivial rfl).1] at hj; rw [(hs.a gqc rfl j).2]; exact pf_x_11 j hj
                    replace pf_x_13 : ∀ j : Nat, (j : Int) < (h_37.2.1 x 13).toInt → h_37.2.2 qh j ≠ none := by
                      intro j hj; rw [(hs.o gx trivial rfl).1] at hj; rw [(hs.a gqh rfl j).2]; exact pf_x_13 j hj
                    replace cl_qp_7 : hx_col 40 h_37 qp 7 = ddf := (hx_col_S hs hTo gqp tt_44 tt_4 rfl rfl).trans cl_qp_7
                    replace cl_qp_8 : hx_col 40 h_37 qp 8 = jjf := (hx_col_S hs hTo gqp tt_44 tt_4 rfl rfl).trans cl_qp_8
                    replace cl_qp_2 : hx_col 40 h_37 qp 2 = kkf := (hx_col_S hs hTo gqp tt_44 tt_4 rfl rfl).trans cl_qp_2
                    replace cl_qp_1 : hx_col 40 h_37 qp 1 = bnf := (hx_col_S hs hTo gqp tt_44 tt_4 rfl rfl).trans cl_qp_1
                    replace cl_qc_10 : hx_col 100 h_37 qc 10 = fof := (hx_col_S hs hTo gqc tt_45 tt_2 rfl rfl).trans cl_qc_10
                    replace cl_qc_11 : hx_col 100 h_37 qc 11 = hrf := (hx_col_S hs hTo gqc tt_45 tt_2 rfl rfl).trans cl_qc_11
                    replace cl_qc_12 : hx_col 100 h_37 qc 12 = udf := (hx_col_S hs hTo gqc tt_45 tt_2 rfl rfl).trans cl_qc_12
                    replace cl_qc_6 : hx_col 100 h_37 qc 6 = smf := (hx_col_S hs hTo gqc tt_45 tt_2 rfl rfl).trans cl_qc_6
                    replace cl_qc_7 : hx_col 100 h_37 qc 7 = frf := (hx_col_S hs hTo gqc tt_45 tt_2 rfl rfl).trans cl_qc_7
                    replace cl_qc_8 : hx_col 100 h_37 qc 8 = flf := (hx_col_S hs hTo gqc tt_45 tt_2 rfl rfl).trans cl_qc_8
                    replace nu_qp : hx_num 40 h_37 qp 0 (pn0.toInt) := hx_num_S hs hTo gqp tt_44 tt_4 rfl rfl nu_qp
                    replace nu_qc : hx_num 100 h_37 qc 0 (cn0.toInt) := hx_num_S hs hTo gqc tt_45 tt_2 rfl rfl nu_qc
                    replace hDF : hw_DF h_37 qc qp 2 agf cn0.toInt := hw_DF_S hs hTo gqc gqp tt_45 tt_2 rfl rfl rfl hDF
                    replace hDP : hw_DF h_37 qc qp 1 byf cn0.toInt := hw_DF_S hs hTo gqc gqp tt_45 tt_2 rfl rfl rfl hDP
                    replace hAC : hv_AC h_37 qc plf cn0.toInt A := hv_AC_S hs hTo gqc tt_45 tt_2 rfl tt_0 rfl rfl rfl rfl rfl rfl rfl hAC
                    replace hHL : hv_HL h_37 qh qc hof m0.toInt cn0.toInt := hv_HL_S hs gqh gqc rfl rfl hHL
                    replace hBX9 : hv_FX 3 5 h_37 qc bF9 cn0.toInt := hv_FX_S hs hTo gqc tt_45 tt_2 rfl rfl rfl rfl hBX9
                    replace nxF_34 : hv_FX 8 4 h_37 qc xF_34 cn0.toInt := hv_FX_S hs hTo gqc tt_45 tt_2 rfl rfl rfl rfl nxF_34
                    replace fo_9 := (hs.a gqc rfl _).2.trans fo_9
                    replace eoq_14 := (hs.a gqp rfl _).2.trans eoq_14
                    replace eoq_25 := (hs.a gqp rfl _).2.trans eoq_25
                    replace af_qtk : h_37.2.1 qtk = tf := (funext fun j => (hs.a (gqtk.S hM) rfl j).1).trans af_qtk
                    replace hM := hM.tr (hs.mono ?o81)
                    case o81 => decide
                    replace gx := gx.S hs
                    replace gqp := gqp.S hs
                    replace gqc := gqc.S hs
                    replace gqh := gqh.S hs
                    replace gq_6 := gq_6.S hs
                    replace gq_14 := gq_14.S hs
                    replace gq_25 := gq_25.S hs
                    replace gq_28 := gq_28.S hs
                    have nS_41 := hr_40; rw [hpn9, hqn9, cx_35] at nS_41
                    have hfO9 := nxF_34
                    have hTO9 := hT
                    have gcO9 := gqc
                    have gtO9 := gq_28
                    have foO9 := fo_9
                    have ftO9 := fq_28
                    have hTo := hT
                    refine hx_iast hx hb hW hT (hx_S.rf (M := [(20, 0)])) gq_28 tt_20 rfl ?o82 rfl (i32_r _) (List.mem_singleton.mpr rfl) dX9_hear_142 (fun H locs h_42 eh_42 hW hT hs => ?_)
                    case o82 => decide
                    replace f_x_7 := (hs.o gx trivial rfl).2.trans f_x_7
                    replace f_x_10 := (hs.o gx trivial rfl).2.trans f_x_10
                    replace f_x_12 := (hs.o gx trivial rfl).2.trans f_x_12
                    replace f_x_9 := (hs.o gx trivial rfl).2.trans f_x_9
                    replace f_x_15 := (hs.o gx trivial rfl).2.trans f_x_15
                    replace f_x_11 := (hs.o gx trivial rfl).1.trans f_x_11
                    replace f_x_8 := (hs.o gx trivial rfl).1.trans f_x_8
                    replace f_x_13 := (hs.o gx trivial rfl).1.trans f_x_13
                    replace f_x_2 := (hs.o gx trivial rfl).1.trans f_x_2
                    replace fx_10 := (hs.o gq_6 trivial rfl).1.trans fx_10
                    replace fx_12 := (hs.o gq_6 trivial rfl).1.trans fx_12
                    replace fq_14 := (hs.o gq_6 trivial rfl).2.trans fq_14
                    replace fx_15 := (hs.o gq_14 trivial rfl).1.trans fx_15
                    replace fq_25 := (hs.o gq_6 trivial rfl).2.trans fq_25
                    replace fx_26 := (hs.o gq_25 trivial rfl).1.trans fx_26
                    replace fx_27 := (hs.o gq_14 trivial rfl).1.trans fx_27
                    replace fq_28 := (hs.o gq_6 trivial rfl).2.trans fq_28
                    replace fx_35 := (hs.o gq_6 trivial rfl).1.trans fx_35
                    replace pf_x_8 : ∀ j : Nat, (j : Int) < (h_42.2.1 x 8).toInt → h_42.2.2 qp j ≠ none := by
                      intro j hj; rw [(hs.o gx trivial rfl).1] at hj; rw [(hs.a gqp rfl j).2]; exact pf_x_8 j hj
                    replace pf_x_11 : ∀ j : Nat, (j : Int) < (h_42.2.1 x 11).toInt → h_42.2.2 qc j ≠ none := by
                      intro j hj; rw [(hs.o gx trivial rfl).1] at hj; rw [(hs.a gqc rfl j).2]; exact pf_x_11 j hj
                    replace pf_x_13 : ∀ j : Nat, (j : Int) < (h_42.2.1 x 13).toInt → h_42.2.2 qh j ≠ none := by
                      intro j hj; rw [(hs.o gx trivial rfl).1] at hj; rw [(hs.a gqh rfl j).2]; exact pf_x_13 j hj
                    replace cl_qp_7 : hx_col 40 h_42 qp 7 = ddf := (hx_col_S hs hTo gqp tt_44 tt_4 rfl rfl).trans cl_qp_7
                    replace cl_qp_8 : hx_col 40 h_42 qp 8 = jjf := (hx_col_S hs hTo gqp tt_44 tt_4 rfl rfl).trans cl_qp_8
                    replace cl_qp_2 : hx_col 40 h_42 qp 2 = kkf := (hx_col_S hs hTo gqp tt_44 tt_4 rfl rfl).trans cl_qp_2
                    replace cl_qp_1 : hx_col 40 h_42 qp 1 = bnf := (hx_col_S hs hTo gqp tt_44 tt_4 rfl rfl).trans cl_qp_1
                    replace cl_qc_10 : hx_col 100 h_42 qc 10 = fof := (hx_col_S hs hTo gqc tt_45 tt_2 rfl rfl).trans cl_qc_10
                    replace cl_qc_11 : hx_col 100 h_42 qc 11 = hrf := (hx_col_S hs hTo gqc tt_45 tt_2 rfl rfl).trans cl_qc_11
                    replace cl_qc_12 : hx_col 100 h_42 qc 12 = udf := (hx_col_S hs hTo gqc tt_45 tt_2 rfl rfl).trans cl_qc_12
                    replace cl_qc_6 : hx_col 100 h_42 qc 6 = smf := (hx_col_S hs hTo gqc tt_45 tt_2 rfl rfl).trans cl_qc_6
                    replace cl_qc_7 : hx_col 100 h_42 qc 7 = frf := (hx_col_S hs hTo gqc tt_45 tt_2 rfl rfl).trans cl_qc_7
                    replace cl_qc_8 : hx_col 100 h_42 qc 8 = flf := (hx_col_S hs hTo gqc tt_45 tt_2 rfl rfl).trans cl_qc_8
                    replace nu_qp : hx_num 40 h_42 qp 0 (pn0.toInt) := hx_num_S hs hTo gqp tt_44 tt_4 rfl rfl nu_qp
                    replace nu_qc : hx_num 100 h_42 qc 0 (cn0.toInt) := hx_num_S hs hTo gqc tt_45 tt_2 rfl rfl nu_qc
                    replace hDF : hw_DF h_42 qc qp 2 agf cn0.toInt := hw_DF_S hs hTo gqc gqp tt_45 tt_2 rfl rfl rfl hDF
                    replace hDP : hw_DF h_42 qc qp 1 byf cn0.toInt := hw_DF_S hs hTo gqc gqp tt_45 tt_2 rfl rfl rfl hDP
                    replace hAC : hv_AC h_42 qc plf cn0.toInt A := hv_AC_S hs hTo gqc tt_45 tt_2 rfl tt_0 rfl rfl rfl rfl rfl rfl rfl hAC
                    replace hHL : hv_HL h_42 qh qc hof m0.toInt cn0.toInt := hv_HL_S hs gqh gqc rfl rfl hHL
                    replace hBX9 : hv_FX 3 5 h_42 qc bF9 cn0.toInt := hv_FX_S hs hTo gqc tt_45 tt_2 rfl rfl rfl rfl hBX9
                    replace fo_9 := (hs.a gqc rfl _).2.trans fo_9
                    replace eoq_14 := (hs.a gqp rfl _).2.trans eoq_14
                    replace eoq_25 := (hs.a gqp rfl _).2.trans eoq_25
                    replace af_qtk : h_42.2.1 qtk = tf := (funext fun j => (hs.a (gqtk.S hM) rfl j).1).trans af_qtk
                    replace hM := hM.tr (hs.mono ?o83)
                    case o83 => decide
                    replace gx := gx.S hs
                    replace gqp := gqp.S hs
                    replace gqc := gqc.S hs
                    replace gqh := gqh.S hs
                    replace gq_6 := gq_6.S hs
                    replace gq_14 := gq_14.S hs
                    replace gq_25 := gq_25.S hs
                    replace gq_28 := gq_28.S hs
                    obtain ⟨xF_43, dxF_43⟩ : ∃ g : Nat → Int32, g = hx_up xF_34 ((4 : Int32).toNatClampNeg + 8 * i1.toNatClampNeg) r_38 := ⟨_, rfl⟩
                    have nxF_43 : hv_FX 8 4 h_42 qc xF_43 cn0.toInt := ?o84
                    case o84 =>
                      rw [dxF_43]
                      refine hv_FX_u hfO9 hTO9 gcO9 gtO9 ?o85 tt_45 (by unfold Int32.toNatClampNeg; omega) (by unfold Int32.toNatClampNeg; omega) foO9 ftO9 ?o86 eh_42
                      case o85 => decide
                      case o86 => decide
                    refine lv_aload hx hb dX9_hear_143 (lv_at hl 2 rfl) ?_
                    refine hk_getr hx hb hts hC_2 hown hW gq_6 tt_2 4 ?o87 rfl kw_738 ⟨rfl, rfl, rfl⟩ fq_28 dX9_hear_145 ?_
                    case o87 => decide
                    refine lv_iconst (v := 5) hx hb dX9_hear_148 ?o88 ?_
                    case o88 => decide
                    refine lv_aload_n hx hb dX9_hear_149 rfl (lv_at hl 3 rfl) ?_
                    refine hk_getr hx hb hts hC_9 hown hW gx tt_9 9 ?o89 rfl kw_373 ⟨rfl, rfl, rfl⟩ f_x_9 dX9_hear_150 ?_
                    case o89 => decide
                    refine lv_iload hx hb dX9_hear_153 (lv_at hl 0 rfl) ?_
                    refine lv_iload hx hb dX9_hear_155 (lv_at hl 1 rfl) ?_
                    refine lv_aload hx hb dX9_hear_157 (lv_at hl 2 rfl) ?_
                    refine hk_geti hx hb hts hC_2 hown hW gq_6 tt_2 8 ?o90 rfl kw_743 ⟨rfl, rfl, rfl⟩ fx_35 dX9_hear_159 ?_
                    case o90 => decide
                    have hTo := hT
                    have zc_5 : (5 : Int32).toInt = 5 := ?o91
                    case o91 => decide
                    refine hx_goi (hx_runV (As := [.int x_27, .int x_26, .int x_35]) (rest := [.int (5 : Int32), .ref q_28]) ⟨hx, hb, hml, hown, hts⟩ hW (gqb.S hM) tt_1 (T := TX1) (N := 8) rfl (t_X1_sumWith_2 l dC dI dA L_36 h_42 H.size qb x_27 x_26 x_35 hT (gqb.S hM) qo (gqo.S hM) ((hM.o gqb trivial rfl).2.trans f_qb_1) qwi (gqwi.S hM) ((hM.o gqb trivial rfl).2.trans f_qb_2) qdy (gqdy.S hM) ((hM.o gqb trivial rfl).2.trans f_qb_3) qkd (gqkd.S hM) ((hM.o gqb trivial rfl).2.trans f_qb_4) qsm (gqsm.S hM) ((hM.o gqb trivial rfl).2.trans f_qb_5) of (hx_afS hM gqo rfl af_qo) wf (hx_afS hM gqwi rfl af_qwi) df (hx_afS hM gqdy rfl af_qdy) kf (hx_afS hM gqkd rfl af_qkd) sf (hx_afS hM gqsm rfl af_qsm) ln0 ((hM.o gqb trivial rfl).1.trans f_qb_0)) (cwV 3 hts (hx_gV kw_688 kw_685 kw_686 kw_687 kw_98) rfl rfl rfl (by decide +kernel) ⟨Nat.le_of_ble_eq_true rfl, Nat.le_of_ble_eq_true rfl⟩) rfl hl.1 rfl (Nat.le_of_ble_eq_true rfl) dX9_hear_162 ⟨Nat.le_of_ble_eq_true rfl, Nat.le_of_ble_eq_true rfl⟩) hW (fun r_46 L_44 h_45 H locs p_47 hW => ?_)
                    obtain ⟨hr_48, hT, hs⟩ := p_47
                    replace hT : hx_T T_tb L_44 h_45 := hT
                    replace hs : hx_S T_tb [] L_36 h_42 L_44 h_45 := hs
                    replace f_x_7 := (hs.o gx trivial rfl).2.trans f_x_7
                    replace f_x_10 := (hs.o gx trivial rfl).2.trans f_x_10
                    replace f_x_12 := (hs.o gx trivial rfl).2.trans f_x_12
                    replace f_x_9 := (hs.o gx trivial rfl).2.trans f_x_9
                    replace f_x_15 := (hs.o gx trivial rfl).2.trans f_x_15
                    replace f_x_11 := (hs.o gx trivial rfl).1.trans f_x_11
                    replace f_x_8 := (hs.o gx trivial rfl).1.trans f_x_8
                    replace f_x_13 := (hs.o gx trivial rfl).1.trans f_x_13
                    replace f_x_2 := (hs.o gx trivial rfl).1.trans f_x_2
                    replace fx_10 := (hs.o gq_6 trivial rfl).1.trans fx_10
                    replace fx_12 := (hs.o gq_6 trivial rfl).1.trans fx_12
                    replace fq_14 := (hs.o gq_6 trivial rfl).2.trans fq_14
                    replace fx_15 := (hs.o gq_14 trivial rfl).1.trans fx_15
                    replace fq_25 := (hs.o gq_6 trivial rfl).2.trans fq_25
                    replace fx_26 := (hs.o gq_25 trivial rfl).1.trans fx_26
                    replace fx_27 := (hs.o gq_14 trivial rfl).1.trans fx_27
                    replace fq_28 := (hs.o gq_6 trivial rfl).2.trans fq_28
                    replace fx_35 := (hs.o gq_6 trivial rfl).1.trans fx_35
                    replace pf_x_8 : ∀ j : Nat, (j : Int) < (h_45.2.1 x 8).toInt → h_45.2.2 qp j ≠ none := by
                      intro j hj; rw [(hs.o gx trivial rfl).1] at hj; rw [(hs.a gqp rfl j).2]; exact pf_x_8 j hj
                    replace pf_x_11 : ∀ j : Nat, (j : Int) < (h_45.2.1 x 11).toInt → h_45.2.2 qc j ≠ none := by
                      intro j hj; rw [(hs.o gx trivial rfl).1] at hj; rw [(hs.a gqc rfl j).2]; exact pf_x_11 j hj
                    replace pf_x_13 : ∀ j : Nat, (j : Int) < (h_45.2.1 x 13).toInt → h_45.2.2 qh j ≠ none := by
                      intro j hj; rw [(hs.o gx trivial rfl).1] at hj; rw [(hs.a gqh rfl j).2]; exact pf_x_13 j hj
                    replace cl_qp_7 : hx_col 40 h_45 qp 7 = ddf := (hx_col_S hs hTo gqp tt_44 tt_4 rfl rfl).trans cl_qp_7
                    replace cl_qp_8 : hx_col 40 h_45 qp 8 = jjf := (hx_col_S hs hTo gqp tt_44 tt_4 rfl rfl).trans cl_qp_8
                    replace cl_qp_2 : hx_col 40 h_45 qp 2 = kkf := (hx_col_S hs hTo gqp tt_44 tt_4 rfl rfl).trans cl_qp_2
                    replace cl_qp_1 : hx_col 40 h_45 qp 1 = bnf := (hx_col_S hs hTo gqp tt_44 tt_4 rfl rfl).trans cl_qp_1
                    replace cl_qc_10 : hx_col 100 h_45 qc 10 = fof := (hx_col_S hs hTo gqc tt_45 tt_2 rfl rfl).trans cl_qc_10
                    replace cl_qc_11 : hx_col 100 h_45 qc 11 = hrf := (hx_col_S hs hTo gqc tt_45 tt_2 rfl rfl).trans cl_qc_11
                    replace cl_qc_12 : hx_col 100 h_45 qc 12 = udf := (hx_col_S hs hTo gqc tt_45 tt_2 rfl rfl).trans cl_qc_12
                    replace cl_qc_6 : hx_col 100 h_45 qc 6 = smf := (hx_col_S hs hTo gqc tt_45 tt_2 rfl rfl).trans cl_qc_6
                    replace cl_qc_7 : hx_col 100 h_45 qc 7 = frf := (hx_col_S hs hTo gqc tt_45 tt_2 rfl rfl).trans cl_qc_7
                    replace cl_qc_8 : hx_col 100 h_45 qc 8 = flf := (hx_col_S hs hTo gqc tt_45 tt_2 rfl rfl).trans cl_qc_8
                    replace nu_qp : hx_num 40 h_45 qp 0 (pn0.toInt) := hx_num_S hs hTo gqp tt_44 tt_4 rfl rfl nu_qp
                    replace nu_qc : hx_num 100 h_45 qc 0 (cn0.toInt) := hx_num_S hs hTo gqc tt_45 tt_2 rfl rfl nu_qc
                    replace hDF : hw_DF h_45 qc qp 2 agf cn0.toInt := hw_DF_S hs hTo gqc gqp tt_45 tt_2 rfl rfl rfl hDF
                    replace hDP : hw_DF h_45 qc qp 1 byf cn0.toInt := hw_DF_S hs hTo gqc gqp tt_45 tt_2 rfl rfl rfl hDP
                    replace hAC : hv_AC h_45 qc plf cn0.toInt A := hv_AC_S hs hTo gqc tt_45 tt_2 rfl tt_0 rfl rfl rfl rfl rfl rfl rfl hAC
                    replace hHL : hv_HL h_45 qh qc hof m0.toInt cn0.toInt := hv_HL_S hs gqh gqc rfl rfl hHL
                    replace hBX9 : hv_FX 3 5 h_45 qc bF9 cn0.toInt := hv_FX_S hs hTo gqc tt_45 tt_2 rfl rfl rfl rfl hBX9
                    replace nxF_43 : hv_FX 8 4 h_45 qc xF_43 cn0.toInt := hv_FX_S hs hTo gqc tt_45 tt_2 rfl rfl rfl rfl nxF_43
                    replace fo_9 := (hs.a gqc rfl _).2.trans fo_9
                    replace eoq_14 := (hs.a gqp rfl _).2.trans eoq_14
                    replace eoq_25 := (hs.a gqp rfl _).2.trans eoq_25
                    replace af_qtk : h_45.2.1 qtk = tf := (funext fun j => (hs.a (gqtk.S hM) rfl j).1).trans af_qtk
                    replace hM := hM.tr (hs.mono ?o92)
                    case o92 => decide
                    replace gx := gx.S hs
                    replace gqp := gqp.S hs
                    replace gqc := gqc.S hs
                    replace gqh := gqh.S hs
                    replace gq_6 := gq_6.S hs
                    replace gq_14 := gq_14.S hs
                    replace gq_25 := gq_25.S hs
                    replace gq_28 := gq_28.S hs
                    have nS_49 := hr_48; rw [hpn9, hqn9, cx_35] at nS_49
                    refine lv_ineg hx hb dX9_hear_165 ?_
                    refine lv_topi (fun x_50 ex_50 => ?_)
                    have hfO9 := nxF_43
                    have hTO9 := hT
                    have gcO9 := gqc
                    have gtO9 := gq_28
                    have foO9 := fo_9
                    have ftO9 := fq_28
                    have hTo := hT
                    refine hx_iast hx hb hW hT (hx_S.rf (M := [(20, 0)])) gq_28 tt_20 rfl ?o93 rfl (i32_r _) (List.mem_singleton.mpr rfl) dX9_hear_166 (fun H locs h_51 eh_51 hW hT hs => ?_)
                    case o93 => decide
                    replace f_x_7 := (hs.o gx trivial rfl).2.trans f_x_7
                    replace f_x_10 := (hs.o gx trivial rfl).2.trans f_x_10
                    replace f_x_12 := (hs.o gx trivial rfl).2.trans f_x_12
                    replace f_x_9 := (hs.o gx trivial rfl).2.trans f_x_9
                    replace f_x_15 := (hs.o gx trivial rfl).2.trans f_x_15
                    replace f_x_11 := (hs.o gx trivial rfl).1.trans f_x_11
                    replace f_x_8 := (hs.o gx trivial rfl).1.trans f_x_8
                    replace f_x_13 := (hs.o gx trivial rfl).1.trans f_x_13
                    replace f_x_2 := (hs.o gx trivial rfl).1.trans f_x_2
                    replace fx_10 := (hs.o gq_6 trivial rfl).1.trans fx_10
                    replace fx_12 := (hs.o gq_6 trivial rfl).1.trans fx_12
                    replace fq_14 := (hs.o gq_6 trivial rfl).2.trans fq_14
                    replace fx_15 := (hs.o gq_14 trivial rfl).1.trans fx_15
                    replace fq_25 := (hs.o gq_6 trivial rfl).2.trans fq_25
                    replace fx_26 := (hs.o gq_25 trivial rfl).1.trans fx_26
                    replace fx_27 := (hs.o gq_14 trivial rfl).1.trans fx_27
                    replace fq_28 := (hs.o gq_6 trivial rfl).2.trans fq_28
                    replace fx_35 := (hs.o gq_6 trivial rfl).1.trans fx_35
                    replace pf_x_8 : ∀ j : Nat, (j : Int) < (h_51.2.1 x 8).toInt → h_51.2.2 qp j ≠ none := by
                      intro j hj; rw [(hs.o gx trivial rfl).1] at hj; rw [(hs.a gqp rfl j).2]; exact pf_x_8 j hj
                    replace pf_x_11 : ∀ j : Nat, (j : Int) < (h_51.2.1 x 11).toInt → h_51.2.2 qc j ≠ none := by
                      intro j hj; rw [(hs.o gx trivial rfl).1] at hj; rw [(hs.a gqc rfl j).2]; exact pf_x_11 j hj
                    replace pf_x_13 : ∀ j : Nat, (j : Int) < (h_51.2.1 x 13).toInt → h_51.2.2 qh j ≠ none := by
                      intro j hj; rw [(hs.o gx trivial rfl).1] at hj; rw [(hs.a gqh rfl j).2]; exact pf_x_13 j hj
                    replace cl_qp_7 : hx_col 40 h_51 qp 7 = ddf := (hx_col_S hs hTo gqp tt_44 tt_4 rfl rfl).trans cl_qp_7
                    replace cl_qp_8 : hx_col 40 h_51 qp 8 = jjf := (hx_col_S hs hTo gqp tt_44 tt_4 rfl rfl).trans cl_qp_8
                    replace cl_qp_2 : hx_col 40 h_51 qp 2 = kkf := (hx_col_S hs hTo gqp tt_44 tt_4 rfl rfl).trans cl_qp_2
                    replace cl_qp_1 : hx_col 40 h_51 qp 1 = bnf := (hx_col_S hs hTo gqp tt_44 tt_4 rfl rfl).trans cl_qp_1
                    replace cl_qc_10 : hx_col 100 h_51 qc 10 = fof := (hx_col_S hs hTo gqc tt_45 tt_2 rfl rfl).trans cl_qc_10
                    replace cl_qc_11 : hx_col 100 h_51 qc 11 = hrf := (hx_col_S hs hTo gqc tt_45 tt_2 rfl rfl).trans cl_qc_11
                    replace cl_qc_12 : hx_col 100 h_51 qc 12 = udf := (hx_col_S hs hTo gqc tt_45 tt_2 rfl rfl).trans cl_qc_12
                    replace cl_qc_6 : hx_col 100 h_51 qc 6 = smf := (hx_col_S hs hTo gqc tt_45 tt_2 rfl rfl).trans cl_qc_6
                    replace cl_qc_7 : hx_col 100 h_51 qc 7 = frf := (hx_col_S hs hTo gqc tt_45 tt_2 rfl rfl).trans cl_qc_7
                    replace cl_qc_8 : hx_col 100 h_51 qc 8 = flf := (hx_col_S hs hTo gqc tt_45 tt_2 rfl rfl).trans cl_qc_8
                    replace nu_qp : hx_num 40 h_51 qp 0 (pn0.toInt) := hx_num_S hs hTo gqp tt_44 tt_4 rfl rfl nu_qp
                    replace nu_qc : hx_num 100 h_51 qc 0 (cn0.toInt) := hx_num_S hs hTo gqc tt_45 tt_2 rfl rfl nu_qc
                    replace hDF : hw_DF h_51 qc qp 2 agf cn0.toInt := hw_DF_S hs hTo gqc gqp tt_45 tt_2 rfl rfl rfl hDF
                    replace hDP : hw_DF h_51 qc qp 1 byf cn0.toInt := hw_DF_S hs hTo gqc gqp tt_45 tt_2 rfl rfl rfl hDP
                    replace hAC : hv_AC h_51 qc plf cn0.toInt A := hv_AC_S hs hTo gqc tt_45 tt_2 rfl tt_0 rfl rfl rfl rfl rfl rfl rfl hAC
                    replace hHL : hv_HL h_51 qh qc hof m0.toInt cn0.toInt := hv_HL_S hs gqh gqc rfl rfl hHL
                    replace hBX9 : hv_FX 3 5 h_51 qc bF9 cn0.toInt := hv_FX_S hs hTo gqc tt_45 tt_2 rfl rfl rfl rfl hBX9
                    replace fo_9 := (hs.a gqc rfl _).2.trans fo_9
                    replace eoq_14 := (hs.a gqp rfl _).2.trans eoq_14
                    replace eoq_25 := (hs.a gqp rfl _).2.trans eoq_25
                    replace af_qtk : h_51.2.1 qtk = tf := (funext fun j => (hs.a (gqtk.S hM) rfl j).1).trans af_qtk
                    replace hM := hM.tr (hs.mono ?o94)
                    case o94 => decide
                    replace gx := gx.S hs
                    replace gqp := gqp.S hs
                    replace gqc := gqc.S hs
                    replace gqh := gqh.S hs
                    replace gq_6 := gq_6.S hs
                    replace gq_14 := gq_14.S hs
                    replace gq_25 := gq_25.S hs
                    replace gq_28 := gq_28.S hs
                    obtain ⟨xF_52, dxF_52⟩ : ∃ g : Nat → Int32, g = hx_up xF_43 ((5 : Int32).toNatClampNeg + 8 * i1.toNatClampNeg) x_50 := ⟨_, rfl⟩
                    have nxF_52 : hv_FX 8 4 h_51 qc xF_52 cn0.toInt := ?o95
                    case o95 =>
                      rw [dxF_52]
                      refine hv_FX_u hfO9 hTO9 gcO9 gtO9 ?o96 tt_45 (by unfold Int32.toNatClampNeg; omega) (by unfold Int32.toNatClampNeg; omega) foO9 ftO9 ?o97 eh_51
                      case o96 => decide
                      case o97 => decide
                    refine lv_aload hx hb dX9_hear_167 (lv_at hl 2 rfl) ?_
                    refine hk_getr hx hb hts hC_2 hown hW gq_6 tt_2 4 ?o98 rfl kw_738 ⟨rfl, rfl, rfl⟩ fq_28 dX9_hear_169 ?_
                    case o98 => decide
                    refine lv_bipush (v := 6) hx hb dX9_hear_172 ?o99 ?_
                    case o99 => decide
                    refine lv_aload_n hx hb dX9_hear_174 rfl (lv_at hl 3 rfl) ?_
                    refine hk_getr hx hb hts hC_9 hown hW gx tt_9 9 ?o100 rfl kw_373 ⟨rfl, rfl, rfl⟩ f_x_9 dX9_hear_175 ?_
                    case o100 => decide
                    refine lv_iload hx hb dX9_hear_178 (lv_at hl 1 rfl) ?_
                    refine lv_iload hx hb dX9_hear_180 (lv_at hl 0 rfl) ?_
                    refine lv_aload hx hb dX9_hear_182 (lv_at hl 2 rfl) ?_
                    refine hk_geti hx hb hts hC_2 hown hW gq_6 tt_2 8 ?o101 rfl kw_743 ⟨rfl, rfl, rfl⟩ fx_35 dX9_hear_184 ?_
                    case o101 => decide
                    have hTo := hT
                    have zc_6 : (6 : Int32).toInt = 6 := ?o102
                    case o102 => decide
                    refine hx_goi (hx_runV (As := [.int x_26, .int x_27, .int x_35]) (rest := [.int (6 : Int32), .ref q_28]) ⟨hx, hb, hml, hown, hts⟩ hW (gqb.S hM) tt_1 (T := TX1) (N := 8) rfl (t_X1_twinPairs_2 l dC dI dA L_44 h_51 H.size qb x_26 x_27 x_35 hT (gqb.S hM) qo (gqo.S hM) ((hM.o gqb trivial rfl).2.trans f_qb_1) qwi (gqwi.S hM) ((hM.o gqb trivial rfl).2.trans f_qb_2) qdy (gqdy.S hM) ((hM.o gqb trivial rfl).2.trans f_qb_3) qkd (gqkd.S hM) ((hM.o gqb trivial rfl).2.trans f_qb_4) qsm (gqsm.S hM) ((hM.o gqb trivial rfl).2.trans f_qb_5) qbd (gqbd.S hM) ((hM.o gqb trivial rfl).2.trans f_qb_6) qtk (gqtk.S hM) ((hM.o gqb trivial rfl).2.trans f_qb_7) of (hx_afS hM gqo rfl af_qo) wf (hx_afS hM gqwi rfl af_qwi) df (hx_afS hM gqdy rfl af_qdy) kf (hx_afS hM gqkd rfl af_qkd) sf (hx_afS hM gqsm rfl af_qsm) bf (hx_afS hM gqbd rfl af_qbd) tf af_qtk ln0 ((hM.o gqb trivial rfl).1.trans f_qb_0) hBD hDY) (cwV 3 hts (hx_gV kw_696 kw_693 kw_694 kw_695 kw_98) rfl rfl rfl (by decide +kernel) ⟨Nat.le_of_ble_eq_true rfl, Nat.le_of_ble_eq_true rfl⟩) rfl hl.1 rfl (Nat.le_of_ble_eq_true rfl) dX9_hear_187 ⟨Nat.le_of_ble_eq_true rfl, Nat.le_of_ble_eq_true rfl⟩) hW (fun r_55 L_53 h_54 H locs p_56 hW => ?_)
                    obtain ⟨hr_57, hT, hs⟩ := p_56
                    replace hT : hx_T T_tb L_53 h_54 := hT
                    replace hs : hx_S T_tb [(19, 0)] L_44 h_51 L_53 h_54 := hs
                    replace f_x_7 := (hs.o gx trivial rfl).2.trans f_x_7
                    replace f_x_10 := (hs.o gx trivial rfl).2.trans f_x_10
                    replace f_x_12 := (hs.o gx trivial rfl).2.trans f_x_12
                    replace f_x_9 := (hs.o gx trivial rfl).2.trans f_x_9
                    replace f_x_15 := (hs.o gx trivial rfl).2.trans f_x_15
                    replace f_x_11 := (hs.o gx trivial rfl).1.trans f_x_11
                    replace f_x_8 := (hs.o gx trivial rfl).1.trans f_x_8
                    replace f_x_13 := (hs.o gx trivial rfl).1.trans f_x_13
                    replace f_x_2 := (hs.o gx trivial rfl).1.trans f_x_2
                    replace fx_10 := (hs.o gq_6 trivial rfl).1.trans fx_10
                    replace fx_12 := (hs.o gq_6 trivial rfl).1.trans fx_12
                    replace fq_14 := (hs.o gq_6 trivial rfl).2.trans fq_14
                    replace fx_15 := (hs.o gq_14 trivial rfl).1.trans fx_15
                    replace fq_25 := (hs.o gq_6 trivial rfl).2.trans fq_25
                    replace fx_26 := (hs.o gq_25 trivial rfl).1.trans fx_26
                    replace fx_27 := (hs.o gq_14 trivial rfl).1.trans fx_27
                    replace fq_28 := (hs.o gq_6 trivial rfl).2.trans fq_28
                    replace fx_35 := (hs.o gq_6 trivial rfl).1.trans fx_35
                    replace pf_x_8 : ∀ j : Nat, (j : Int) < (h_54.2.1 x 8).toInt → h_54.2.2 qp j ≠ none := by
                      intro j hj; rw [(hs.o gx trivial rfl).1] at hj; rw [(hs.a gqp rfl j).2]; exact pf_x_8 j hj
                    replace pf_x_11 : ∀ j : Nat, (j : Int) < (h_54.2.1 x 11).toInt → h_54.2.2 qc j ≠ none := by
                      intro j hj; rw [(hs.o gx trivial rfl).1] at hj; rw [(hs.a gqc rfl j).2]; exact pf_x_11 j hj
                    replace pf_x_13 : ∀ j : Nat, (j : Int) < (h_54.2.1 x 13).toInt → h_54.2.2 qh j ≠ none := by
                      intro j hj; rw [(hs.o gx trivial rfl).1] at hj; rw [(hs.a gqh rfl j).2]; exact pf_x_13 j hj
                    replace cl_qp_7 : hx_col 40 h_54 qp 7 = ddf := (hx_col_S hs hTo gqp tt_44 tt_4 rfl rfl).trans cl_qp_7
                    replace cl_qp_8 : hx_col 40 h_54 qp 8 = jjf := (hx_col_S hs hTo gqp tt_44 tt_4 rfl rfl).trans cl_qp_8
                    replace cl_qp_2 : hx_col 40 h_54 qp 2 = kkf := (hx_col_S hs hTo gqp tt_44 tt_4 rfl rfl).trans cl_qp_2
                    replace cl_qp_1 : hx_col 40 h_54 qp 1 = bnf := (hx_col_S hs hTo gqp tt_44 tt_4 rfl rfl).trans cl_qp_1
                    replace cl_qc_10 : hx_col 100 h_54 qc 10 = fof := (hx_col_S hs hTo gqc tt_45 tt_2 rfl rfl).trans cl_qc_10
                    replace cl_qc_11 : hx_col 100 h_54 qc 11 = hrf := (hx_col_S hs hTo gqc tt_45 tt_2 rfl rfl).trans cl_qc_11
                    replace cl_qc_12 : hx_col 100 h_54 qc 12 = udf := (hx_col_S hs hTo gqc tt_45 tt_2 rfl rfl).trans cl_qc_12
                    replace cl_qc_6 : hx_col 100 h_54 qc 6 = smf := (hx_col_S hs hTo gqc tt_45 tt_2 rfl rfl).trans cl_qc_6
                    replace cl_qc_7 : hx_col 100 h_54 qc 7 = frf := (hx_col_S hs hTo gqc tt_45 tt_2 rfl rfl).trans cl_qc_7
                    replace cl_qc_8 : hx_col 100 h_54 qc 8 = flf := (hx_col_S hs hTo gqc tt_45 tt_2 rfl rfl).trans cl_qc_8
                    replace nu_qp : hx_num 40 h_54 qp 0 (pn0.toInt) := hx_num_S hs hTo gqp tt_44 tt_4 rfl rfl nu_qp
                    replace nu_qc : hx_num 100 h_54 qc 0 (cn0.toInt) := hx_num_S hs hTo gqc tt_45 tt_2 rfl rfl nu_qc
                    replace hDF : hw_DF h_54 qc qp 2 agf cn0.toInt := hw_DF_S hs hTo gqc gqp tt_45 tt_2 rfl rfl rfl hDF
                    replace hDP : hw_DF h_54 qc qp 1 byf cn0.toInt := hw_DF_S hs hTo gqc gqp tt_45 tt_2 rfl rfl rfl hDP
                    replace hAC : hv_AC h_54 qc plf cn0.toInt A := hv_AC_S hs hTo gqc tt_45 tt_2 rfl tt_0 rfl rfl rfl rfl rfl rfl rfl hAC
                    replace hHL : hv_HL h_54 qh qc hof m0.toInt cn0.toInt := hv_HL_S hs gqh gqc rfl rfl hHL
                    replace hBX9 : hv_FX 3 5 h_54 qc bF9 cn0.toInt := hv_FX_S hs hTo gqc tt_45 tt_2 rfl rfl rfl rfl hBX9
                    replace nxF_52 : hv_FX 8 4 h_54 qc xF_52 cn0.toInt := hv_FX_S hs hTo gqc tt_45 tt_2 rfl rfl rfl rfl nxF_52
                    replace fo_9 := (hs.a gqc rfl _).2.trans fo_9
                    replace eoq_14 := (hs.a gqp rfl _).2.trans eoq_14
                    replace eoq_25 := (hs.a gqp rfl _).2.trans eoq_25
                    replace hM := hM.tr (hs.mono ?o103)
                    case o103 => decide
                    replace gx := gx.S hs
                    replace gqp := gqp.S hs
                    replace gqc := gqc.S hs
                    replace gqh := gqh.S hs
                    replace gq_6 := gq_6.S hs
                    replace gq_14 := gq_14.S hs
                    replace gq_25 := gq_25.S hs
                    replace gq_28 := gq_28.S hs
                    have nS_58 := hr_57; rw [hpn9, hqn9, cx_35] at nS_58
                    have hfO9 := nxF_52
                    have hTO9 := hT
                    have gcO9 := gqc
                    have gtO9 := gq_28
                    have foO9 := fo_9
                    have ftO9 := fq_28
                    have hTo := hT
                    refine hx_iast hx hb hW hT (hx_S.rf (M := [(20, 0)])) gq_28 tt_20 rfl ?o104 rfl (i32_r _) (List.mem_singleton.mpr rfl) dX9_hear_190 (fun H locs h_59 eh_59 hW hT hs => ?_)
                    case o104 => decide
                    replace f_x_7 := (hs.o gx trivial rfl).2.trans f_x_7
                    replace f_x_10 := (hs.o gx trivial rfl).2.trans f_x_10
                    replace f_x_12 := (hs.o gx trivial rfl).2.trans f_x_12
                    replace f_x_9 := (hs.o gx trivial rfl).2.trans f_x_9
                    replace f_x_15 := (hs.o gx trivial rfl).2.trans f_x_15
                    replace f_x_11 := (hs.o gx trivial rfl).1.trans f_x_11
                    replace f_x_8 := (hs.o gx trivial rfl).1.trans f_x_8
                    replace f_x_13 := (hs.o gx trivial rfl).1.trans f_x_13
                    replace f_x_2 := (hs.o gx trivial rfl).1.trans f_x_2
                    replace fx_10 := (hs.o gq_6 trivial rfl).1.trans fx_10
                    replace fx_12 := (hs.o gq_6 trivial rfl).1.trans fx_12
                    replace fq_14 := (hs.o gq_6 trivial rfl).2.trans fq_14
                    replace fx_15 := (hs.o gq_14 trivial rfl).1.trans fx_15
                    replace fq_25 := (hs.o gq_6 trivial rfl).2.trans fq_25
                    replace fx_26 := (hs.o gq_25 trivial rfl).1.trans fx_26
                    replace fx_27 := (hs.o gq_14 trivial rfl).1.trans fx_27
                    replace fq_28 := (hs.o gq_6 trivial rfl).2.trans fq_28
                    replace fx_35 := (hs.o gq_6 trivial rfl).1.trans fx_35
                    replace pf_x_8 : ∀ j : Nat, (j : Int) < (h_59.2.1 x 8).toInt → h_59.2.2 qp j ≠ none := by
                      intro j hj; rw [(hs.o gx trivial rfl).1] at hj; rw [(hs.a gqp rfl j).2]; exact pf_x_8 j hj
                    replace pf_x_11 : ∀ j : Nat, (j : Int) < (h_59.2.1 x 11).toInt → h_59.2.2 qc j ≠ none := by
                      intro j hj; rw [(hs.o gx trivial rfl).1] at hj; rw [(hs.a gqc rfl j).2]; exact pf_x_11 j hj
                    replace pf_x_13 : ∀ j : Nat, (j : Int) < (h_59.2.1 x 13).toInt → h_59.2.2 qh j ≠ none := by
                      intro j hj; rw [(hs.o gx trivial rfl).1] at hj; rw [(hs.a gqh rfl j).2]; exact pf_x_13 j hj
                    replace cl_qp_7 : hx_col 40 h_59 qp 7 = ddf := (hx_col_S hs hTo gqp tt_44 tt_4 rfl rfl).trans cl_qp_7
                    replace cl_qp_8 : hx_col 40 h_59 qp 8 = jjf := (hx_col_S hs hTo gqp tt_44 tt_4 rfl rfl).trans cl_qp_8
                    replace cl_qp_2 : hx_col 40 h_59 qp 2 = kkf := (hx_col_S hs hTo gqp tt_44 tt_4 rfl rfl).trans cl_qp_2
                    replace cl_qp_1 : hx_col 40 h_59 qp 1 = bnf := (hx_col_S hs hTo gqp tt_44 tt_4 rfl rfl).trans cl_qp_1
                    replace cl_qc_10 : hx_col 100 h_59 qc 10 = fof := (hx_col_S hs hTo gqc tt_45 tt_2 rfl rfl).trans cl_qc_10
                    replace cl_qc_11 : hx_col 100 h_59 qc 11 = hrf := (hx_col_S hs hTo gqc tt_45 tt_2 rfl rfl).trans cl_qc_11
                    replace cl_qc_12 : hx_col 100 h_59 qc 12 = udf := (hx_col_S hs hTo gqc tt_45 tt_2 rfl rfl).trans cl_qc_12
                    replace cl_qc_6 : hx_col 100 h_59 qc 6 = smf := (hx_col_S hs hTo gqc tt_45 tt_2 rfl rfl).trans cl_qc_6
                    replace cl_qc_7 : hx_col 100 h_59 qc 7 = frf := (hx_col_S hs hTo gqc tt_45 tt_2 rfl rfl).trans cl_qc_7
                    replace cl_qc_8 : hx_col 100 h_59 qc 8 = flf := (hx_col_S hs hTo gqc tt_45 tt_2 rfl rfl).trans cl_qc_8
                    replace nu_qp : hx_num 40 h_59 qp 0 (pn0.toInt) := hx_num_S hs hTo gqp tt_44 tt_4 rfl rfl nu_qp
                    replace nu_qc : hx_num 100 h_59 qc 0 (cn0.toInt) := hx_num_S hs hTo gqc tt_45 tt_2 rfl rfl nu_qc
                    replace hDF : hw_DF h_59 qc qp 2 agf cn0.toInt := hw_DF_S hs hTo gqc gqp tt_45 tt_2 rfl rfl rfl hDF
                    replace hDP : hw_DF h_59 qc qp 1 byf cn0.toInt := hw_DF_S hs hTo gqc gqp tt_45 tt_2 rfl rfl rfl hDP
                    replace hAC : hv_AC h_59 qc plf cn0.toInt A := hv_AC_S hs hTo gqc tt_45 tt_2 rfl tt_0 rfl rfl rfl rfl rfl rfl rfl hAC
                    replace hHL : hv_HL h_59 qh qc hof m0.toInt cn0.toInt := hv_HL_S hs gqh gqc rfl rfl hHL
                    replace hBX9 : hv_FX 3 5 h_59 qc bF9 cn0.toInt := hv_FX_S hs hTo gqc tt_45 tt_2 rfl rfl rfl rfl hBX9
                    replace fo_9 := (hs.a gqc rfl _).2.trans fo_9
                    replace eoq_14 := (hs.a gqp rfl _).2.trans eoq_14
                    replace eoq_25 := (hs.a gqp rfl _).2.trans eoq_25
                    replace hM := hM.tr (hs.mono ?o105)
                    case o105 => decide
                    replace gx := gx.S hs
                    replace gqp := gqp.S hs
                    replace gqc := gqc.S hs
                    replace gqh := gqh.S hs
                    replace gq_6 := gq_6.S hs
                    replace gq_14 := gq_14.S hs
                    replace gq_25 := gq_25.S hs
                    replace gq_28 := gq_28.S hs
                    obtain ⟨xF_60, dxF_60⟩ : ∃ g : Nat → Int32, g = hx_up xF_52 ((6 : Int32).toNatClampNeg + 8 * i1.toNatClampNeg) r_55 := ⟨_, rfl⟩
                    have nxF_60 : hv_FX 8 4 h_59 qc xF_60 cn0.toInt := ?o106
                    case o106 =>
                      rw [dxF_60]
                      refine hv_FX_u hfO9 hTO9 gcO9 gtO9 ?o107 tt_45 (by unfold Int32.toNatClampNeg; omega) (by unfold Int32.toNatClampNeg; omega) foO9 ftO9 ?o108 eh_59
                      case o107 => decide
                      case o108 => decide
                    refine lv_aload hx hb dX9_hear_191 (lv_at hl 2 rfl) ?_
                    refine lv_aload_n hx hb dX9_hear_193 rfl (lv_at hl 3 rfl) ?_
                    refine hk_geti hx hb hts hC_9 hown hW gx tt_9 2 ?o109 rfl kw_366 ⟨rfl, rfl, rfl⟩ f_x_2 dX9_hear_194 ?_
                    case o109 => decide
                    have hTo := hT
                    have cl_qc_11O := cl_qc_11
                    have nu_qcO := nu_qc
                    have fo_9O := fo_9
                    refine hx_puti hx hb hts hC_2 hown hW hT (hx_S.rf (M := [(2, 11)])) gq_6 tt_2 11 ?o110 rfl kw_749 ⟨rfl, rfl, rfl⟩ rfl (x := nw0) ⟨?o111, ?o112⟩ rfl rfl rfl (List.mem_singleton.mpr rfl) dX9_hear_197 (fun H locs h_61 eh_61 hW hT hs => ?_)
                    case o110 => decide
                    case o111 => omega
                    case o112 => omega
                    replace f_x_7 := (hs.o gx trivial rfl).2.trans f_x_7
                    replace f_x_10 := (hs.o gx trivial rfl).2.trans f_x_10
                    replace f_x_12 := (hs.o gx trivial rfl).2.trans f_x_12
                    replace f_x_9 := (hs.o gx trivial rfl).2.trans f_x_9
                    replace f_x_15 := (hs.o gx trivial rfl).2.trans f_x_15
                    replace f_x_11 := (hs.o gx trivial rfl).1.trans f_x_11
                    replace f_x_8 := (hs.o gx trivial rfl).1.trans f_x_8
                    replace f_x_13 := (hs.o gx trivial rfl).1.trans f_x_13
                    replace f_x_2 := (hs.o gx trivial rfl).1.trans f_x_2
                    replace fx_10 := (hs.o gq_6 trivial rfl).1.trans fx_10
                    replace fq_14 := (hs.o gq_6 trivial rfl).2.trans fq_14
                    replace fx_15 := (hs.o gq_14 trivial rfl).1.trans fx_15
                    replace fq_25 := (hs.o gq_6 trivial rfl).2.trans fq_25
                    replace fx_26 := (hs.o gq_25 trivial rfl).1.trans fx_26
                    replace fx_27 := (hs.o gq_14 trivial rfl).1.trans fx_27
                    replace fq_28 := (hs.o gq_6 trivial rfl).2.trans fq_28
                    replace fx_35 := (hs.o gq_6 trivial rfl).1.trans fx_35
                    replace pf_x_8 : ∀ j : Nat, (j : Int) < (h_61.2.1 x 8).toInt → h_61.2.2 qp j ≠ none := by
                      intro j hj; rw [(hs.o gx trivial rfl).1] at hj; rw [(hs.a gqp rfl j).2]; exact pf_x_8 j hj
                    replace pf_x_11 : ∀ j : Nat, (j : Int) < (h_61.2.1 x 11).toInt → h_61.2.2 qc j ≠ none := by
                      intro j hj; rw [(hs.o gx trivial rfl).1] at hj; rw [(hs.a gqc rfl j).2]; exact pf_x_11 j hj
                    replace pf_x_13 : ∀ j : Nat, (j : Int) < (h_61.2.1 x 13).toInt → h_61.2.2 qh j ≠ none := by
                      intro j hj; rw [(hs.o gx trivial rfl).1] at hj; rw [(hs.a gqh rfl j).2]; exact pf_x_13 j hj
                    replace cl_qp_7 : hx_col 40 h_61 qp 7 = ddf := (hx_col_S hs hTo gqp tt_44 tt_4 rfl rfl).trans cl_qp_7
                    replace cl_qp_8 : hx_col 40 h_61 qp 8 = jjf := (hx_col_S hs hTo gqp tt_44 tt_4 rfl rfl).trans cl_qp_8
                    replace cl_qp_2 : hx_col 40 h_61 qp 2 = kkf := (hx_col_S hs hTo gqp tt_44 tt_4 rfl rfl).trans cl_qp_2
                    replace cl_qp_1 : hx_col 40 h_61 qp 1 = bnf := (hx_col_S hs hTo gqp tt_44 tt_4 rfl rfl).trans cl_qp_1
                    replace cl_qc_10 : hx_col 100 h_61 qc 10 = fof := (hx_col_S hs hTo gqc tt_45 tt_2 rfl rfl).trans cl_qc_10
                    replace cl_qc_12 : hx_col 100 h_61 qc 12 = udf := (hx_col_S hs hTo gqc tt_45 tt_2 rfl rfl).trans cl_qc_12
                    replace cl_qc_6 : hx_col 100 h_61 qc 6 = smf := (hx_col_S hs hTo gqc tt_45 tt_2 rfl rfl).trans cl_qc_6
                    replace cl_qc_7 : hx_col 100 h_61 qc 7 = frf := (hx_col_S hs hTo gqc tt_45 tt_2 rfl rfl).trans cl_qc_7
                    replace cl_qc_8 : hx_col 100 h_61 qc 8 = flf := (hx_col_S hs hTo gqc tt_45 tt_2 rfl rfl).trans cl_qc_8
                    replace nu_qp : hx_num 40 h_61 qp 0 (pn0.toInt) := hx_num_S hs hTo gqp tt_44 tt_4 rfl rfl nu_qp
                    replace nu_qc : hx_num 100 h_61 qc 0 (cn0.toInt) := hx_num_S hs hTo gqc tt_45 tt_2 rfl rfl nu_qc
                    replace hDF : hw_DF h_61 qc qp 2 agf cn0.toInt := hw_DF_S hs hTo gqc gqp tt_45 tt_2 rfl rfl rfl hDF
                    replace hDP : hw_DF h_61 qc qp 1 byf cn0.toInt := hw_DF_S hs hTo gqc gqp tt_45 tt_2 rfl rfl rfl hDP
                    replace hAC : hv_AC h_61 qc plf cn0.toInt A := hv_AC_S hs hTo gqc tt_45 tt_2 rfl tt_0 rfl rfl rfl rfl rfl rfl rfl hAC
                    replace hHL : hv_HL h_61 qh qc hof m0.toInt cn0.toInt := hv_HL_S hs gqh gqc rfl rfl hHL
                    replace hBX9 : hv_FX 3 5 h_61 qc bF9 cn0.toInt := hv_FX_S hs hTo gqc tt_45 tt_2 rfl rfl rfl rfl hBX9
                    replace nxF_60 : hv_FX 8 4 h_61 qc xF_60 cn0.toInt := hv_FX_S hs hTo gqc tt_45 tt_2 rfl rfl rfl rfl nxF_60
                    replace fo_9 := (hs.a gqc rfl _).2.trans fo_9
                    replace eoq_14 := (hs.a gqp rfl _).2.trans eoq_14
                    replace eoq_25 := (hs.a gqp rfl _).2.trans eoq_25
                    replace hM := hM.tr (hs.mono ?o113)
                    case o113 => decide
                    replace gx := gx.S hs
                    replace gqp := gqp.S hs
                    replace gqc := gqc.S hs
                    replace gqh := gqh.S hs
                    replace gq_6 := gq_6.S hs
                    replace gq_14 := gq_14.S hs
                    replace gq_25 := gq_25.S hs
                    replace gq_28 := gq_28.S hs
                    have f_62 : h_61.2.1 q_6 11 = nw0 := ?o114
                    case o114 =>
                      rw [eh_61]
                      exact hx_pi_at _ _ _ _
                    obtain ⟨fc_63, dfc_63⟩ : ∃ g : Nat → Int32, g = hx_up hrf i1.toNatClampNeg nw0 := ⟨_, rfl⟩
                    have nfc_63 : hx_col 100 h_61 qc 11 = fc_63 := ?o115
                    case o115 =>
                      rw [dfc_63, ← cl_qc_11O]
                      exact hx_col_pi nu_qcO fo_9O (by unfold Int32.toNatClampNeg; omega) eh_61
                    refine lv_aload hx hb dX9_hear_200 (lv_at hl 2 rfl) ?_
                    refine lv_aload_n hx hb dX9_hear_202 rfl (lv_at hl 3 rfl) ?_
                    refine lv_aload hx hb dX9_hear_203 (lv_at hl 2 rfl) ?_
                    refine lv_aload hx hb dX9_hear_205 (lv_at hl 2 rfl) ?_
                    refine hx_getn hx hb hts hC_2 hown hW hT gq_6 tt_2 3 ?o116 rfl kw_736 ⟨rfl, rfl, rfl⟩ dX9_hear_207 (fun q_64 fq_64 gq_64 => ?_)
                    case o116 => decide
                    obtain ⟨hpl9, hAQ9⟩ := hAC i1.toNatClampNeg (by unfold Int32.toNatClampNeg; omega) (by unfold Int32.toNatClampNeg; omega) _ _ fo_9 fq_64
                    have hTo := hT
                    obtain ⟨q_65, fq_65, gq_65⟩ := hv_rf hT gq_64 tt_0 (k := 2) (u := 11) rfl
                    obtain ⟨q_66, fq_66, gq_66⟩ := hv_rf hT gq_64 tt_0 (k := 3) (u := 12) rfl
                    obtain ⟨fv_67, efv_67⟩ : ∃ y : Int32, y = h_61.2.1 q_64 4 := ⟨_, rfl⟩
                    have bfv_67 := hT.gi gq_64 tt_0 (k := 4) rfl
                    rw [← efv_67] at bfv_67
                    have bfv_67 : 0 ≤ fv_67.toInt ∧ fv_67.toInt ≤ 160 := bfv_67
                    have ffv_67 := efv_67.symm
                    obtain ⟨fa_68, nfa_68⟩ : ∃ g : Nat → Int32, h_61.2.1 q_65 = g := ⟨_, rfl⟩
                    obtain ⟨fa_69, nfa_69⟩ : ∃ g : Nat → Int32, h_61.2.1 q_66 = g := ⟨_, rfl⟩
                    obtain ⟨fa_70, nfa_70⟩ : ∃ g : Nat → Int32, h_61.2.1 q_28 = g := ⟨_, rfl⟩
                    refine hx_goi (hx_runV (As := [.ref q_6, .ref q_64]) (rest := [.ref q_6]) ⟨hx, hb, hml, hown, hts⟩ hW gx tt_9 (T := TX9) (N := 20) rfl (t_X9_judgement_v l dC dI dA L_53 h_61 H.size x q_6 q_64 hT gx gq_6 gq_64 qp gqp f_x_7 qc gqc f_x_10 q_65 gq_65 fq_65 q_66 gq_66 fq_66 q_28 gq_28 fq_28 i1 fo_9 ⟨?o117, ?o118⟩ fa_68 nfa_68 fa_69 nfa_69 fa_70 nfa_70 cn0 f_x_11 pn0 f_x_8 fv_67 ffv_67 frf cl_qc_7 smf cl_qc_6 flf cl_qc_8 bnf cl_qp_1 nu_qp agf byf hDF hDP (A (plf i1.toNatClampNeg).toInt.toNat).2.1 (by rw [← nfa_68]; exact hAQ9.2.2.1 _ fq_65) (hAB _).1 (A (plf i1.toNatClampNeg).toInt.toNat).2.2 (hAB _).2 (by have h8 := hAQ9.2.2.2 _ fq_66; rw [nfa_69, ffv_67] at h8; exact h8) ?o119 pf_x_8 pf_x_11) (cwV 2 hts (hx_gV kw_830 kw_827 kw_829 kw_28 kw_94) rfl rfl rfl (by decide +kernel) ⟨Nat.le_of_ble_eq_true rfl, Nat.le_of_ble_eq_true rfl⟩) rfl hl.1 rfl (Nat.le_of_ble_eq_true rfl) dX9_hear_210 ⟨Nat.le_of_ble_eq_true rfl, Nat.le_of_ble_eq_true rfl⟩) hW (fun r_73 L_71 h_72 H locs p_74 hW => ?_)
                    case o117 => omega
                    case o118 => omega
                    case o119 => omega
                    obtain ⟨hr_75, hT, hs⟩ := p_74
                    replace hT : hx_T T_tb L_71 h_72 := hT
                    replace hs : hx_S T_tb [] L_53 h_61 L_71 h_72 := hs
                    replace f_x_7 := (hs.o gx trivial rfl).2.trans f_x_7
                    replace f_x_10 := (hs.o gx trivial rfl).2.trans f_x_10
                    replace f_x_12 := (hs.o gx trivial rfl).2.trans f_x_12
                    replace f_x_9 := (hs.o gx trivial rfl).2.trans f_x_9
                    replace f_x_15 := (hs.o gx trivial rfl).2.trans f_x_15
                    replace f_x_11 := (hs.o gx trivial rfl).1.trans f_x_11
                    replace f_x_8 := (hs.o gx trivial rfl).1.trans f_x_8
                    replace f_x_13 := (hs.o gx trivial rfl).1.trans f_x_13
                    replace f_x_2 := (hs.o gx trivial rfl).1.trans f_x_2
                    replace fx_10 := (hs.o gq_6 trivial rfl).1.trans fx_10
                    replace fq_14 := (hs.o gq_6 trivial rfl).2.trans fq_14
                    replace fx_15 := (hs.o gq_14 trivial rfl).1.trans fx_15
                    replace fq_25 := (hs.o gq_6 trivial rfl).2.trans fq_25
                    replace fx_26 := (hs.o gq_25 trivial rfl).1.trans fx_26
                    replace fx_27 := (hs.o gq_14 trivial rfl).1.trans fx_27
                    replace fq_28 := (hs.o gq_6 trivial rfl).2.trans fq_28
                    replace fx_35 := (hs.o gq_6 trivial rfl).1.trans fx_35
                    replace f_62 := (hs.o gq_6 trivial rfl).1.trans f_62
                    replace fq_64 := (hs.o gq_6 trivial rfl).2.trans fq_64
                    replace fq_65 := (hs.o gq_64 trivial rfl).2.trans fq_65
                    replace fq_66 := (hs.o gq_64 trivial rfl).2.trans fq_66
                    replace ffv_67 := (hs.o gq_64 trivial rfl).1.trans ffv_67
                    replace pf_x_8 : ∀ j : Nat, (j : Int) < (h_72.2.1 x 8).toInt → h_72.2.2 qp j ≠ none := by
                      intro j hj; rw [(hs.o gx trivial rfl).1] at hj; rw [(hs.a gqp rfl j).2]; exact pf_x_8 j hj
                    replace pf_x_11 : ∀ j : Nat, (j : Int) < (h_72.2.1 x 11).toInt → h_72.2.2 qc j ≠ none := by
                      intro j hj; rw [(hs.o gx trivial rfl).1] at hj; rw [(hs.a gqc rfl j).2]; exact pf_x_11 j hj
                    replace pf_x_13 : ∀ j : Nat, (j : Int) < (h_72.2.1 x 13).toInt → h_72.2.2 qh j ≠ none := by
                      intro j hj; rw [(hs.o gx trivial rfl).1] at hj; rw [(hs.a gqh rfl j).2]; exact pf_x_13 j hj
                    replace cl_qp_7 : hx_col 40 h_72 qp 7 = ddf := (hx_col_S hs hTo gqp tt_44 tt_4 rfl rfl).trans cl_qp_7
                    replace cl_qp_8 : hx_col 40 h_72 qp 8 = jjf := (hx_col_S hs hTo gqp tt_44 tt_4 rfl rfl).trans cl_qp_8
                    replace cl_qp_2 : hx_col 40 h_72 qp 2 = kkf := (hx_col_S hs hTo gqp tt_44 tt_4 rfl rfl).trans cl_qp_2
                    replace cl_qp_1 : hx_col 40 h_72 qp 1 = bnf := (hx_col_S hs hTo gqp tt_44 tt_4 rfl rfl).trans cl_qp_1
                    replace cl_qc_10 : hx_col 100 h_72 qc 10 = fof := (hx_col_S hs hTo gqc tt_45 tt_2 rfl rfl).trans cl_qc_10
                    replace cl_qc_12 : hx_col 100 h_72 qc 12 = udf := (hx_col_S hs hTo gqc tt_45 tt_2 rfl rfl).trans cl_qc_12
                    replace cl_qc_6 : hx_col 100 h_72 qc 6 = smf := (hx_col_S hs hTo gqc tt_45 tt_2 rfl rfl).trans cl_qc_6
                    replace cl_qc_7 : hx_col 100 h_72 qc 7 = frf := (hx_col_S hs hTo gqc tt_45 tt_2 rfl rfl).trans cl_qc_7
                    replace cl_qc_8 : hx_col 100 h_72 qc 8 = flf := (hx_col_S hs hTo gqc tt_45 tt_2 rfl rfl).trans cl_qc_8
                    replace nfc_63 : hx_col 100 h_72 qc 11 = fc_63 := (hx_col_S hs hTo gqc tt_45 tt_2 rfl rfl).trans nfc_63
                    replace nu_qp : hx_num 40 h_72 qp 0 (pn0.toInt) := hx_num_S hs hTo gqp tt_44 tt_4 rfl rfl nu_qp
                    replace nu_qc : hx_num 100 h_72 qc 0 (cn0.toInt) := hx_num_S hs hTo gqc tt_45 tt_2 rfl rfl nu_qc
                    replace hDF : hw_DF h_72 qc qp 2 agf cn0.toInt := hw_DF_S hs hTo gqc gqp tt_45 tt_2 rfl rfl rfl hDF
                    replace hDP : hw_DF h_72 qc qp 1 byf cn0.toInt := hw_DF_S hs hTo gqc gqp tt_45 tt_2 rfl rfl rfl hDP
                    replace hAC : hv_AC h_72 qc plf cn0.toInt A := hv_AC_S hs hTo gqc tt_45 tt_2 rfl tt_0 rfl rfl rfl rfl rfl rfl rfl hAC
                    replace hHL : hv_HL h_72 qh qc hof m0.toInt cn0.toInt := hv_HL_S hs gqh gqc rfl rfl hHL
                    replace hBX9 : hv_FX 3 5 h_72 qc bF9 cn0.toInt := hv_FX_S hs hTo gqc tt_45 tt_2 rfl rfl rfl rfl hBX9
                    replace nxF_60 : hv_FX 8 4 h_72 qc xF_60 cn0.toInt := hv_FX_S hs hTo gqc tt_45 tt_2 rfl rfl rfl rfl nxF_60
                    replace fo_9 := (hs.a gqc rfl _).2.trans fo_9
                    replace eoq_14 := (hs.a gqp rfl _).2.trans eoq_14
                    replace eoq_25 := (hs.a gqp rfl _).2.trans eoq_25
                    replace nfa_68 : h_72.2.1 q_65 = fa_68 := (funext fun j => (hs.a gq_65 rfl j).1).trans nfa_68
                    replace nfa_69 : h_72.2.1 q_66 = fa_69 := (funext fun j => (hs.a gq_66 rfl j).1).trans nfa_69
                    replace nfa_70 : h_72.2.1 q_28 = fa_70 := (funext fun j => (hs.a gq_28 rfl j).1).trans nfa_70
                    replace hM := hM.tr (hs.mono ?o120)
                    case o120 => decide
                    replace gx := gx.S hs
                    replace gqp := gqp.S hs
                    replace gqc := gqc.S hs
                    replace gqh := gqh.S hs
                    replace gq_6 := gq_6.S hs
                    replace gq_14 := gq_14.S hs
                    replace gq_25 := gq_25.S hs
                    replace gq_28 := gq_28.S hs
                    replace gq_64 := gq_64.S hs
                    replace gq_65 := gq_65.S hs
                    replace gq_66 := gq_66.S hs
                    have hJ9 : r_73.toInt = (hv_jg (hv_F0 xF_60 (8 * i1.toNatClampNeg)) (A (plf i1.toNatClampNeg).toInt.toNat).2.1 (A (plf i1.toNatClampNeg).toInt.toNat).2.2 (frf i1.toNatClampNeg).toInt (bnf (agf i1.toNatClampNeg).toNatClampNeg).toInt (smf i1.toNatClampNeg).toInt (hv_sm byf agf flf smf (byf i1.toNatClampNeg).toInt (agf i1.toNatClampNeg).toInt ((flf i1.toNatClampNeg).toInt - (A (plf i1.toNatClampNeg).toInt.toNat).2.1 1) cn0.toInt.toNat)) := ?o121
                    case o121 =>
                      rw [hr_75.1]
                      exact hv_jg_e (hAB _).2 (fun k hk => by have h8 := (nxF_60).1 i1.toNatClampNeg (by unfold Int32.toNatClampNeg; omega) (by unfold Int32.toNatClampNeg; omega) _ _ fo_9 fq_28 k hk; rw [nfa_70] at h8; exact congrArg Int32.toInt h8)
                    have hTo := hT
                    have cl_qc_12O := cl_qc_12
                    have nu_qcO := nu_qc
                    have fo_9O := fo_9
                    refine hx_puti hx hb hts hC_2 hown hW hT (hx_S.rf (M := [(2, 12)])) gq_6 tt_2 12 ?o122 rfl kw_751 ⟨rfl, rfl, rfl⟩ rfl (x := r_73) ⟨?o123, ?o124⟩ rfl rfl rfl (List.mem_singleton.mpr rfl) dX9_hear_213 (fun H locs h_76 eh_76 hW hT hs => ?_)
                    case o122 => decide
                    case o123 => omega
                    case o124 => omega
                    replace f_x_7 := (hs.o gx trivial rfl).2.trans f_x_7
                    replace f_x_10 := (hs.o gx trivial rfl).2.trans f_x_10
                    replace f_x_12 := (hs.o gx trivial rfl).2.trans f_x_12
                    replace f_x_9 := (hs.o gx trivial rfl).2.trans f_x_9
                    replace f_x_15 := (hs.o gx trivial rfl).2.trans f_x_15
                    replace f_x_11 := (hs.o gx trivial rfl).1.trans f_x_11
                    replace f_x_8 := (hs.o gx trivial rfl).1.trans f_x_8
                    replace f_x_13 := (hs.o gx trivial rfl).1.trans f_x_13
                    replace f_x_2 := (hs.o gx trivial rfl).1.trans f_x_2
                    replace fx_10 := (hs.o gq_6 trivial rfl).1.trans fx_10
                    replace fq_14 := (hs.o gq_6 trivial rfl).2.trans fq_14
                    replace fx_15 := (hs.o gq_14 trivial rfl).1.trans fx_15
                    replace fq_25 := (hs.o gq_6 trivial rfl).2.trans fq_25
                    replace fx_26 := (hs.o gq_25 trivial rfl).1.trans fx_26
                    replace fx_27 := (hs.o gq_14 trivial rfl).1.trans fx_27
                    replace fq_28 := (hs.o gq_6 trivial rfl).2.trans fq_28
                    replace fx_35 := (hs.o gq_6 trivial rfl).1.trans fx_35
                    replace f_62 := (hs.o gq_6 trivial rfl).1.trans f_62
                    replace fq_64 := (hs.o gq_6 trivial rfl).2.trans fq_64
                    replace fq_65 := (hs.o gq_64 trivial rfl).2.trans fq_65
                    replace fq_66 := (hs.o gq_64 trivial rfl).2.trans fq_66
                    replace ffv_67 := (hs.o gq_64 trivial rfl).1.trans ffv_67
                    replace pf_x_8 : ∀ j : Nat, (j : Int) < (h_76.2.1 x 8).toInt → h_76.2.2 qp j ≠ none := by
                      intro j hj; rw [(hs.o gx trivial rfl).1] at hj; rw [(hs.a gqp rfl j).2]; exact pf_x_8 j hj
                    replace pf_x_11 : ∀ j : Nat, (j : Int) < (h_76.2.1 x 11).toInt → h_76.2.2 qc j ≠ none := by
                      intro j hj; rw [(hs.o gx trivial rfl).1] at hj; rw [(hs.a gqc rfl j).2]; exact pf_x_11 j hj
                    replace pf_x_13 : ∀ j : Nat, (j : Int) < (h_76.2.1 x 13).toInt → h_76.2.2 qh j ≠ none := by
                      intro j hj; rw [(hs.o gx trivial rfl).1] at hj; rw [(hs.a gqh rfl j).2]; exact pf_x_13 j hj
                    replace cl_qp_7 : hx_col 40 h_76 qp 7 = ddf := (hx_col_S hs hTo gqp tt_44 tt_4 rfl rfl).trans cl_qp_7
                    replace cl_qp_8 : hx_col 40 h_76 qp 8 = jjf := (hx_col_S hs hTo gqp tt_44 tt_4 rfl rfl).trans cl_qp_8
                    replace cl_qp_2 : hx_col 40 h_76 qp 2 = kkf := (hx_col_S hs hTo gqp tt_44 tt_4 rfl rfl).trans cl_qp_2
                    replace cl_qp_1 : hx_col 40 h_76 qp 1 = bnf := (hx_col_S hs hTo gqp tt_44 tt_4 rfl rfl).trans cl_qp_1
                    replace cl_qc_10 : hx_col 100 h_76 qc 10 = fof := (hx_col_S hs hTo gqc tt_45 tt_2 rfl rfl).trans cl_qc_10
                    replace cl_qc_6 : hx_col 100 h_76 qc 6 = smf := (hx_col_S hs hTo gqc tt_45 tt_2 rfl rfl).trans cl_qc_6
                    replace cl_qc_7 : hx_col 100 h_76 qc 7 = frf := (hx_col_S hs hTo gqc tt_45 tt_2 rfl rfl).trans cl_qc_7
                    replace cl_qc_8 : hx_col 100 h_76 qc 8 = flf := (hx_col_S hs hTo gqc tt_45 tt_2 rfl rfl).trans cl_qc_8
                    replace nfc_63 : hx_col 100 h_76 qc 11 = fc_63 := (hx_col_S hs hTo gqc tt_45 tt_2 rfl rfl).trans nfc_63
                    replace nu_qp : hx_num 40 h_76 qp 0 (pn0.toInt) := hx_num_S hs hTo gqp tt_44 tt_4 rfl rfl nu_qp
                    replace nu_qc : hx_num 100 h_76 qc 0 (cn0.toInt) := hx_num_S hs hTo gqc tt_45 tt_2 rfl rfl nu_qc
                    replace hDF : hw_DF h_76 qc qp 2 agf cn0.toInt := hw_DF_S hs hTo gqc gqp tt_45 tt_2 rfl rfl rfl hDF
                    replace hDP : hw_DF h_76 qc qp 1 byf cn0.toInt := hw_DF_S hs hTo gqc gqp tt_45 tt_2 rfl rfl rfl hDP
                    replace hAC : hv_AC h_76 qc plf cn0.toInt A := hv_AC_S hs hTo gqc tt_45 tt_2 rfl tt_0 rfl rfl rfl rfl rfl rfl rfl hAC
                    replace hHL : hv_HL h_76 qh qc hof m0.toInt cn0.toInt := hv_HL_S hs gqh gqc rfl rfl hHL
                    replace hBX9 : hv_FX 3 5 h_76 qc bF9 cn0.toInt := hv_FX_S hs hTo gqc tt_45 tt_2 rfl rfl rfl rfl hBX9
                    replace nxF_60 : hv_FX 8 4 h_76 qc xF_60 cn0.toInt := hv_FX_S hs hTo gqc tt_45 tt_2 rfl rfl rfl rfl nxF_60
                    replace fo_9 := (hs.a gqc rfl _).2.trans fo_9
                    replace eoq_14 := (hs.a gqp rfl _).2.trans eoq_14
                    replace eoq_25 := (hs.a gqp rfl _).2.trans eoq_25
                    replace nfa_68 : h_76.2.1 q_65 = fa_68 := (funext fun j => (hs.a gq_65 rfl j).1).trans nfa_68
                    replace nfa_69 : h_76.2.1 q_66 = fa_69 := (funext fun j => (hs.a gq_66 rfl j).1).trans nfa_69
                    replace nfa_70 : h_76.2.1 q_28 = fa_70 := (funext fun j => (hs.a gq_28 rfl j).1).trans nfa_70
                    replace hM := hM.tr (hs.mono ?o125)
                    case o125 => decide
                    replace gx := gx.S hs
                    replace gqp := gqp.S hs
                    replace gqc := gqc.S hs
                    replace gqh := gqh.S hs
                    replace gq_6 := gq_6.S hs
                    replace gq_14 := gq_14.S hs
                    replace gq_25 := gq_25.S hs
                    replace gq_28 := gq_28.S hs
                    replace gq_64 := gq_64.S hs
                    replace gq_65 := gq_65.S hs
                    replace gq_66 := gq_66.S hs
                    have f_77 : h_76.2.1 q_6 12 = r_73 := ?o126
                    case o126 =>
                      rw [eh_76]
                      exact hx_pi_at _ _ _ _
                    obtain ⟨fc_78, dfc_78⟩ : ∃ g : Nat → Int32, g = hx_up udf i1.toNatClampNeg r_73 := ⟨_, rfl⟩
                    have nfc_78 : hx_col 100 h_76 qc 12 = fc_78 := ?o127
                    case o127 =>
                      rw [dfc_78, ← cl_qc_12O]
                      exact hx_col_pi nu_qcO fo_9O (by unfold Int32.toNatClampNeg; omega) eh_76
                    refine lv_aload_n hx hb dX9_hear_216 rfl (lv_at hl 3 rfl) ?_
                    refine hk_getr hx hb hts hC_9 hown hW gx tt_9 12 ?o128 rfl kw_376 ⟨rfl, rfl, rfl⟩ f_x_12 dX9_hear_217 ?_
                    case o128 => decide
                    refine lv_aload_n hx hb dX9_hear_220 rfl (lv_at hl 3 rfl) ?_
                    refine hk_geti hx hb hts hC_9 hown hW gx tt_9 13 ?o129 rfl kw_377 ⟨rfl, rfl, rfl⟩ f_x_13 dX9_hear_221 ?_
                    case o129 => decide
                    refine lv_aload hx hb dX9_hear_224 (lv_at hl 2 rfl) ?_
                    have hHLO9 := hHL
                    have foO9 := fo_9
                    have gqhO9 := gqh
                    have gqcO8 := gqc
                    have hTo := hT
                    have pf_x_13O := pf_x_13
                    refine hx_aast hx hb hW hT (hx_S.rf (M := [(46, 0)])) gqh tt_46 rfl gq_6 tt_2 rfl ?o130 ⟨?o131, ?o132⟩ (List.mem_singleton.mpr rfl) dX9_hear_226 (fun H locs h_79 eh_79 hW hT hs => ?_)
                    case o130 => decide
                    case o131 => omega
                    case o132 => omega
                    replace f_x_7 := (hs.o gx trivial rfl).2.trans f_x_7
                    replace f_x_10 := (hs.o gx trivial rfl).2.trans f_x_10
                    replace f_x_12 := (hs.o gx trivial rfl).2.trans f_x_12
                    replace f_x_9 := (hs.o gx trivial rfl).2.trans f_x_9
                    replace f_x_15 := (hs.o gx trivial rfl).2.trans f_x_15
                    replace f_x_11 := (hs.o gx trivial rfl).1.trans f_x_11
                    replace f_x_8 := (hs.o gx trivial rfl).1.trans f_x_8
                    replace f_x_13 := (hs.o gx trivial rfl).1.trans f_x_13
                    replace f_x_2 := (hs.o gx trivial rfl).1.trans f_x_2
                    replace fx_10 := (hs.o gq_6 trivial rfl).1.trans fx_10
                    replace fq_14 := (hs.o gq_6 trivial rfl).2.trans fq_14
                    replace fx_15 := (hs.o gq_14 trivial rfl).1.trans fx_15
                    replace fq_25 := (hs.o gq_6 trivial rfl).2.trans fq_25
                    replace fx_26 := (hs.o gq_25 trivial rfl).1.trans fx_26
                    replace fx_27 := (hs.o gq_14 trivial rfl).1.trans fx_27
                    replace fq_28 := (hs.o gq_6 trivial rfl).2.trans fq_28
                    replace fx_35 := (hs.o gq_6 trivial rfl).1.trans fx_35
                    replace f_62 := (hs.o gq_6 trivial rfl).1.trans f_62
                    replace fq_64 := (hs.o gq_6 trivial rfl).2.trans fq_64
                    replace fq_65 := (hs.o gq_64 trivial rfl).2.trans fq_65
                    replace fq_66 := (hs.o gq_64 trivial rfl).2.trans fq_66
                    replace ffv_67 := (hs.o gq_64 trivial rfl).1.trans ffv_67
                    replace f_77 := (hs.o gq_6 trivial rfl).1.trans f_77
                    replace pf_x_8 : ∀ j : Nat, (j : Int) < (h_79.2.1 x 8).toInt → h_79.2.2 qp j ≠ none := by
                      intro j hj; rw [(hs.o gx trivial rfl).1] at hj; rw [(hs.a gqp rfl j).2]; exact pf_x_8 j hj
                    replace pf_x_11 : ∀ j : Nat, (j : Int) < (h_79.2.1 x 11).toInt → h_79.2.2 qc j ≠ none := by
                      intro j hj; rw [(hs.o gx trivial rfl).1] at hj; rw [(hs.a gqc rfl j).2]; exact pf_x_11 j hj
                    replace cl_qp_7 : hx_col 40 h_79 qp 7 = ddf := (hx_col_S hs hTo gqp tt_44 tt_4 rfl rfl).trans cl_qp_7
                    replace cl_qp_8 : hx_col 40 h_79 qp 8 = jjf := (hx_col_S hs hTo gqp tt_44 tt_4 rfl rfl).trans cl_qp_8
                    replace cl_qp_2 : hx_col 40 h_79 qp 2 = kkf := (hx_col_S hs hTo gqp tt_44 tt_4 rfl rfl).trans cl_qp_2
                    replace cl_qp_1 : hx_col 40 h_79 qp 1 = bnf := (hx_col_S hs hTo gqp tt_44 tt_4 rfl rfl).trans cl_qp_1
                    replace cl_qc_10 : hx_col 100 h_79 qc 10 = fof := (hx_col_S hs hTo gqc tt_45 tt_2 rfl rfl).trans cl_qc_10
                    replace cl_qc_6 : hx_col 100 h_79 qc 6 = smf := (hx_col_S hs hTo gqc tt_45 tt_2 rfl rfl).trans cl_qc_6
                    replace cl_qc_7 : hx_col 100 h_79 qc 7 = frf := (hx_col_S hs hTo gqc tt_45 tt_2 rfl rfl).trans cl_qc_7
                    replace cl_qc_8 : hx_col 100 h_79 qc 8 = flf := (hx_col_S hs hTo gqc tt_45 tt_2 rfl rfl).trans cl_qc_8
                    replace nfc_63 : hx_col 100 h_79 qc 11 = fc_63 := (hx_col_S hs hTo gqc tt_45 tt_2 rfl rfl).trans nfc_63
                    replace nfc_78 : hx_col 100 h_79 qc 12 = fc_78 := (hx_col_S hs hTo gqc tt_45 tt_2 rfl rfl).trans nfc_78
                    replace nu_qp : hx_num 40 h_79 qp 0 (pn0.toInt) := hx_num_S hs hTo gqp tt_44 tt_4 rfl rfl nu_qp
                    replace nu_qc : hx_num 100 h_79 qc 0 (cn0.toInt) := hx_num_S hs hTo gqc tt_45 tt_2 rfl rfl nu_qc
                    replace hDF : hw_DF h_79 qc qp 2 agf cn0.toInt := hw_DF_S hs hTo gqc gqp tt_45 tt_2 rfl rfl rfl hDF
                    replace hDP : hw_DF h_79 qc qp 1 byf cn0.toInt := hw_DF_S hs hTo gqc gqp tt_45 tt_2 rfl rfl rfl hDP
                    replace hAC : hv_AC h_79 qc plf cn0.toInt A := hv_AC_S hs hTo gqc tt_45 tt_2 rfl tt_0 rfl rfl rfl rfl rfl rfl rfl hAC
                    replace hBX9 : hv_FX 3 5 h_79 qc bF9 cn0.toInt := hv_FX_S hs hTo gqc tt_45 tt_2 rfl rfl rfl rfl hBX9
                    replace nxF_60 : hv_FX 8 4 h_79 qc xF_60 cn0.toInt := hv_FX_S hs hTo gqc tt_45 tt_2 rfl rfl rfl rfl nxF_60
                    replace fo_9 := (hs.a gqc rfl _).2.trans fo_9
                    replace eoq_14 := (hs.a gqp rfl _).2.trans eoq_14
                    replace eoq_25 := (hs.a gqp rfl _).2.trans eoq_25
                    replace nfa_68 : h_79.2.1 q_65 = fa_68 := (funext fun j => (hs.a gq_65 rfl j).1).trans nfa_68
                    replace nfa_69 : h_79.2.1 q_66 = fa_69 := (funext fun j => (hs.a gq_66 rfl j).1).trans nfa_69
                    replace nfa_70 : h_79.2.1 q_28 = fa_70 := (funext fun j => (hs.a gq_28 rfl j).1).trans nfa_70
                    replace hM := hM.tr (hs.mono ?o133)
                    case o133 => decide
                    replace gx := gx.S hs
                    replace gqp := gqp.S hs
                    replace gqc := gqc.S hs
                    replace gqh := gqh.S hs
                    replace gq_6 := gq_6.S hs
                    replace gq_14 := gq_14.S hs
                    replace gq_25 := gq_25.S hs
                    replace gq_28 := gq_28.S hs
                    replace gq_64 := gq_64.S hs
                    replace gq_65 := gq_65.S hs
                    replace gq_66 := gq_66.S hs
                    have pf_x_13 : ∀ j : Nat, (j : Int) < (h_79.2.1 x 13).toInt → h_79.2.2 qh j ≠ none := hx_pfk pf_x_13O eh_79
                    have px_80 : ∀ j : Nat, (j : Int) < m0.toInt + 1 → h_79.2.2 qh j ≠ none := hx_pfx pf_x_13O (by first | exact f_x_13 | exact ((hs.o gx trivial rfl).1.symm.trans f_x_13)) (by omega) eh_79
                    have hHL9 : hv_HL h_79 qh qc (hx_up hof m0.toInt.toNat i1) (m0.toInt + 1) cn0.toInt := hv_HL_h hHLO9 (gqhO9.ne gqcO8 ?o134) eh_79 ?o135 rfl ?o136 ?o137 foO9 rfl
                    case o134 => decide
                    case o135 => omega
                    case o136 => omega
                    case o137 => omega
                    refine lv_aload_n hx hb dX9_hear_227 rfl (lv_at hl 3 rfl) ?_
                    refine lv_dup hx hb dX9_hear_228 rfl ?_
                    refine hk_geti hx hb hts hC_9 hown hW gx tt_9 13 ?o138 rfl kw_377 ⟨rfl, rfl, rfl⟩ f_x_13 dX9_hear_229 ?_
                    case o138 => decide
                    refine lv_iconst (v := 1) hx hb dX9_hear_232 ?o139 ?_
                    case o139 => decide
                    refine lv_iadd hx hb dX9_hear_233 ?_
                    have rg_81 := i32_r m0
                    refine lv_topi (fun x_82 ex_82 => ?_)
                    have zx_82 : x_82.toInt = m0.toInt + 1 := ?o140
                    case o140 =>
                      rw [ex_82]
                      refine i32_add rfl ?o141 ?o142 ?o143
                      case o141 => decide
                      case o142 => omega
                      case o143 => omega
                    have hTo := hT
                    refine hx_puti hx hb hts hC_9 hown hW hT (hx_S.rf (M := [(9, 13)])) gx tt_9 13 ?o144 rfl kw_377 ⟨rfl, rfl, rfl⟩ rfl (x := x_82) ⟨?o145, ?o146⟩ rfl rfl rfl (List.mem_singleton.mpr rfl) dX9_hear_234 (fun H locs h_83 eh_83 hW hT hs => ?_)
                    case o144 => decide
                    case o145 => omega
                    case o146 => omega
                    replace px_80 : ∀ j : Nat, (j : Int) < m0.toInt + 1 → h_83.2.2 qh j ≠ none := fun j hj => by rw [(hs.a gqh rfl j).2]; exact px_80 j hj
                    replace f_x_7 := (hs.o gx trivial rfl).2.trans f_x_7
                    replace f_x_10 := (hs.o gx trivial rfl).2.trans f_x_10
                    replace f_x_12 := (hs.o gx trivial rfl).2.trans f_x_12
                    replace f_x_9 := (hs.o gx trivial rfl).2.trans f_x_9
                    replace f_x_15 := (hs.o gx trivial rfl).2.trans f_x_15
                    replace f_x_11 := (hs.o gx trivial rfl).1.trans f_x_11
                    replace f_x_8 := (hs.o gx trivial rfl).1.trans f_x_8
                    replace f_x_2 := (hs.o gx trivial rfl).1.trans f_x_2
                    replace fx_10 := (hs.o gq_6 trivial rfl).1.trans fx_10
                    replace fq_14 := (hs.o gq_6 trivial rfl).2.trans fq_14
                    replace fx_15 := (hs.o gq_14 trivial rfl).1.trans fx_15
                    replace fq_25 := (hs.o gq_6 trivial rfl).2.trans fq_25
                    replace fx_26 := (hs.o gq_25 trivial rfl).1.trans fx_26
                    replace fx_27 := (hs.o gq_14 trivial rfl).1.trans fx_27
                    replace fq_28 := (hs.o gq_6 trivial rfl).2.trans fq_28
                    replace fx_35 := (hs.o gq_6 trivial rfl).1.trans fx_35
                    replace f_62 := (hs.o gq_6 trivial rfl).1.trans f_62
                    replace fq_64 := (hs.o gq_6 trivial rfl).2.trans fq_64
                    replace fq_65 := (hs.o gq_64 trivial rfl).2.trans fq_65
                    replace fq_66 := (hs.o gq_64 trivial rfl).2.trans fq_66
                    replace ffv_67 := (hs.o gq_64 trivial rfl).1.trans ffv_67
                    replace f_77 := (hs.o gq_6 trivial rfl).1.trans f_77
                    replace pf_x_8 : ∀ j : Nat, (j : Int) < (h_83.2.1 x 8).toInt → h_83.2.2 qp j ≠ none := by
                      intro j hj; rw [(hs.o gx trivial rfl).1] at hj; rw [(hs.a gqp rfl j).2]; exact pf_x_8 j hj
                    replace pf_x_11 : ∀ j : Nat, (j : Int) < (h_83.2.1 x 11).toInt → h_83.2.2 qc j ≠ none := by
                      intro j hj; rw [(hs.o gx trivial rfl).1] at hj; rw [(hs.a gqc rfl j).2]; exact pf_x_11 j hj
                    replace cl_qp_7 : hx_col 40 h_83 qp 7 = ddf := (hx_col_S hs hTo gqp tt_44 tt_4 rfl rfl).trans cl_qp_7
                    replace cl_qp_8 : hx_col 40 h_83 qp 8 = jjf := (hx_col_S hs hTo gqp tt_44 tt_4 rfl rfl).trans cl_qp_8
                    replace cl_qp_2 : hx_col 40 h_83 qp 2 = kkf := (hx_col_S hs hTo gqp tt_44 tt_4 rfl rfl).trans cl_qp_2
                    replace cl_qp_1 : hx_col 40 h_83 qp 1 = bnf := (hx_col_S hs hTo gqp tt_44 tt_4 rfl rfl).trans cl_qp_1
                    replace cl_qc_10 : hx_col 100 h_83 qc 10 = fof := (hx_col_S hs hTo gqc tt_45 tt_2 rfl rfl).trans cl_qc_10
                    replace cl_qc_6 : hx_col 100 h_83 qc 6 = smf := (hx_col_S hs hTo gqc tt_45 tt_2 rfl rfl).trans cl_qc_6
                    replace cl_qc_7 : hx_col 100 h_83 qc 7 = frf := (hx_col_S hs hTo gqc tt_45 tt_2 rfl rfl).trans cl_qc_7
                    replace cl_qc_8 : hx_col 100 h_83 qc 8 = flf := (hx_col_S hs hTo gqc tt_45 tt_2 rfl rfl).trans cl_qc_8
                    replace nfc_63 : hx_col 100 h_83 qc 11 = fc_63 := (hx_col_S hs hTo gqc tt_45 tt_2 rfl rfl).trans nfc_63
                    replace nfc_78 : hx_col 100 h_83 qc 12 = fc_78 := (hx_col_S hs hTo gqc tt_45 tt_2 rfl rfl).trans nfc_78
                    replace nu_qp : hx_num 40 h_83 qp 0 (pn0.toInt) := hx_num_S hs hTo gqp tt_44 tt_4 rfl rfl nu_qp
                    replace nu_qc : hx_num 100 h_83 qc 0 (cn0.toInt) := hx_num_S hs hTo gqc tt_45 tt_2 rfl rfl nu_qc
                    replace hDF : hw_DF h_83 qc qp 2 agf cn0.toInt := hw_DF_S hs hTo gqc gqp tt_45 tt_2 rfl rfl rfl hDF
                    replace hDP : hw_DF h_83 qc qp 1 byf cn0.toInt := hw_DF_S hs hTo gqc gqp tt_45 tt_2 rfl rfl rfl hDP
                    replace hAC : hv_AC h_83 qc plf cn0.toInt A := hv_AC_S hs hTo gqc tt_45 tt_2 rfl tt_0 rfl rfl rfl rfl rfl rfl rfl hAC
                    replace hBX9 : hv_FX 3 5 h_83 qc bF9 cn0.toInt := hv_FX_S hs hTo gqc tt_45 tt_2 rfl rfl rfl rfl hBX9
                    replace nxF_60 : hv_FX 8 4 h_83 qc xF_60 cn0.toInt := hv_FX_S hs hTo gqc tt_45 tt_2 rfl rfl rfl rfl nxF_60
                    replace hHL9 : hv_HL h_83 qh qc (hx_up hof m0.toInt.toNat i1) (m0.toInt + 1) cn0.toInt := hv_HL_S hs gqh gqc rfl rfl hHL9
                    replace fo_9 := (hs.a gqc rfl _).2.trans fo_9
                    replace eoq_14 := (hs.a gqp rfl _).2.trans eoq_14
                    replace eoq_25 := (hs.a gqp rfl _).2.trans eoq_25
                    replace nfa_68 : h_83.2.1 q_65 = fa_68 := (funext fun j => (hs.a gq_65 rfl j).1).trans nfa_68
                    replace nfa_69 : h_83.2.1 q_66 = fa_69 := (funext fun j => (hs.a gq_66 rfl j).1).trans nfa_69
                    replace nfa_70 : h_83.2.1 q_28 = fa_70 := (funext fun j => (hs.a gq_28 rfl j).1).trans nfa_70
                    replace hM := hM.tr (hs.mono ?o147)
                    case o147 => decide
                    replace gx := gx.S hs
                    replace gqp := gqp.S hs
                    replace gqc := gqc.S hs
                    replace gqh := gqh.S hs
                    replace gq_6 := gq_6.S hs
                    replace gq_14 := gq_14.S hs
                    replace gq_25 := gq_25.S hs
                    replace gq_28 := gq_28.S hs
                    replace gq_64 := gq_64.S hs
                    replace gq_65 := gq_65.S hs
                    replace gq_66 := gq_66.S hs
                    have f_84 : h_83.2.1 x 13 = x_82 := ?o148
                    case o148 =>
                      rw [eh_83]
                      exact hx_pi_at _ _ _ _
                    have pf_85 : ∀ j : Nat, (j : Int) < (h_83.2.1 x 13).toInt → h_83.2.2 qh j ≠ none := fun j hj => px_80 j (by rw [f_84] at hj; omega)
                    refine lv_aload hx hb dX9_hear_237 (lv_at hl 2 rfl) ?_
                    refine hk_geti hx hb hts hC_2 hown hW gq_6 tt_2 12 ?o149 rfl kw_751 ⟨rfl, rfl, rfl⟩ f_77 dX9_hear_239 ?_
                    case o149 => decide
                    refine hx_reti hx hb hr hlk hW ⟨⟨x_82, fc_63, fc_78, f_84, nfc_63, nfc_78, ⟨xF_60, bF9, _, Or.inr ⟨⟨⟨?o150, ?o151⟩, (by rw [show fof i1.toInt.toNat = x_10 from cx_10.symm]; omega), (by rw [show hrf i1.toInt.toNat = x_12 from cx_12.symm]; omega), (by rw [show ddf (agf i1.toInt.toNat).toInt.toNat = x_15 from cx_15.symm]; omega), ?o152, hN3⟩, hJ9, ⟨?o153, ?o154⟩, ?o155, dfc_63, dfc_78, rfl⟩, nxF_60, hBX9, (hv_HL_e hHL9 rfl ?o156 rfl), Or.inr ⟨?o157, (hv_CU_i dxF_31 dxF_34 dxF_43 dxF_52 dxF_60 (Int32.toInt_inj.mp nS_41) (by rw [ex_50, Int32.toInt_inj.mp nS_49]) nS_58), ⟨b0_9, b1_9, b2_9, hBN9, hBe9⟩⟩⟩⟩, hT, hM, pf_85⟩ dX9_hear_242
                    case o150 => omega
                    case o151 => omega
                    case o152 => omega
                    case o153 => omega
                    case o154 => omega
                    case o155 => omega
                    case o156 => omega
                    case o157 => omega
                  refine hb_if_eq (zx := i3.toInt) (tgt := 118) hx hb rfl dX9_hear_111 ?o158 (fun c_86 => ?_) (fun c_86 => ?_)
                  case o158 => decide
                  · skip
                    refine lv_iconst (v := 0) hx hb dX9_hear_118 ?o159 ?_
                    case o159 => decide
                    have zj_119 : (0 : Int32).toInt = 0 := ?o160
                    case o160 => decide
                    refine jn_119 (0 : Int32) ls ?o161 ?o162 ?o163 hl
                    case o161 => decide
                    case o162 => decide
                    case o163 => omega
                  · skip
                    refine lv_iconst (v := 1) hx hb dX9_hear_114 ?o164 ?_
                    case o164 => decide
                    refine lv_goto (tgt := 119) hx hb dX9_hear_115 ?o165 ?_
                    case o165 => decide
                    have zj_119 : (1 : Int32).toInt = 1 := ?o166
                    case o166 => decide
                    refine jn_119 (1 : Int32) ls ?o167 ?o168 ?o169 hl
                    case o167 => decide
                    case o168 => decide
                    case o169 => omega
                refine hb_if_eq (zx := i2.toInt) (tgt := 102) hx hb rfl dX9_hear_95 ?o170 (fun c_87 => ?_) (fun c_87 => ?_)
                case o170 => decide
                · skip
                  refine lv_iconst (v := 0) hx hb dX9_hear_102 ?o171 ?_
                  case o171 => decide
                  have zj_103 : (0 : Int32).toInt = 0 := ?o172
                  case o172 => decide
                  refine jn_103 (0 : Int32) ls ?o173 ?o174 ?o175 hl
                  case o173 => decide
                  case o174 => decide
                  case o175 => omega
                · skip
                  refine lv_iconst (v := 1) hx hb dX9_hear_98 ?o176 ?_
                  case o176 => decide
                  refine lv_goto (tgt := 103) hx hb dX9_hear_99 ?o177 ?_
                  case o177 => decide
                  have zj_103 : (1 : Int32).toInt = 1 := ?o178
                  case o178 => decide
                  refine jn_103 (1 : Int32) ls ?o179 ?o180 ?o181 hl
                  case o179 => decide
                  case o180 => decide
                  case o181 => omega
              · skip
                refine lv_iconst (v := -1) hx hb dX9_hear_66 ?o182 ?_
                case o182 => decide
                refine hx_reti hx hb hr hlk hW ⟨⟨m0, hrf, udf, f_x_13, cl_qc_11, cl_qc_12, ⟨cF, bF, hof, Or.inl ⟨?o183, (fun hc => by have h1 := hc.2.2.2.2.2; rcases hr_23 with z | z; omega; omega), rfl, rfl, rfl, rfl⟩, hFX, (by rcases hr_23 with z | z; (exfalso; omega); exact z.2.2), hHL, Or.inl ⟨?o184, rfl, rfl⟩⟩⟩, hT, hM, pf_x_13⟩ dX9_hear_67
                case o183 => decide
                case o184 => decide


set_option maxHeartbeats 4000000 in
set_option maxRecDepth 100000 in
theorem t_X10_hear_v (l : Launch) (dC : Nat → ClassId) (dI : Nat → Nat → Nat) (dA : Nat → ClassId) (L : List Nat) (h : hx_h) (sz : Nat) (x : Nat) (i1 : Int32) (i2 : Int32) (i3 : Int32) (i4 : Int32) (hT : hx_T T_tb L h) (gx : hx_g L h x 10) (rby : Nat) (grby : hx_g L h rby 72) (f_x_37 : h.2.2 x 37 = some rby) (rag : Nat) (grag : hx_g L h rag 73) (f_x_38 : h.2.2 x 38 = some rag) (rfi : Nat) (grfi : hx_g L h rfi 78) (f_x_43 : h.2.2 x 43 = some rfi) (rsm : Nat) (grsm : hx_g L h rsm 74) (f_x_39 : h.2.2 x 39 = some rsm) (rrl : Nat) (grrl : hx_g L h rrl 50) (f_x_3 : h.2.2 x 3 = some rrl) (rfr : Nat) (grfr : hx_g L h rfr 75) (f_x_40 : h.2.2 x 40 = some rfr) (rbn : Nat) (grbn : hx_g L h rbn 58) (f_x_21 : h.2.2 x 21 = some rbn) (rpn : Nat) (grpn : hx_g L h rpn 51) (f_x_4 : h.2.2 x 4 = some rpn) (rpr : Nat) (grpr : hx_g L h rpr 52) (f_x_5 : h.2.2 x 5 = some rpr) (rst : Nat) (grst : hx_g L h rst 99) (f_x_66 : h.2.2 x 66 = some rst) (rfc : Nat) (grfc : hx_g L h rfc 88) (f_x_53 : h.2.2 x 53 = some rfc) (rhe : Nat) (grhe : hx_g L h rhe 82) (f_x_47 : h.2.2 x 47 = some rhe) (rfo : Nat) (grfo : hx_g L h rfo 81) (f_x_46 : h.2.2 x 46 = some rfo) (rdd : Nat) (grdd : hx_g L h rdd 64) (f_x_27 : h.2.2 x 27 = some rdd) (rjj : Nat) (grjj : hx_g L h rjj 65) (f_x_28 : h.2.2 x 28 = some rjj) (rkk : Nat) (grkk : hx_g L h rkk 63) (f_x_26 : h.2.2 x 26 = some rkk) (rsi : Nat) (grsi : hx_g L h rsi 98) (f_x_65 : h.2.2 x 65 = some rsi) (rbe : Nat) (grbe : hx_g L h rbe 87) (f_x_52 : h.2.2 x 52 = some rbe) (rho : Nat) (grho : hx_g L h rho 92) (f_x_58 : h.2.2 x 58 = some rho) (rnt : Nat) (grnt : hx_g L h rnt 76) (f_x_41 : h.2.2 x 41 = some rnt) (rwt : Nat) (grwt : hx_g L h rwt 77) (f_x_42 : h.2.2 x 42 = some rwt) (rju : Nat) (grju : hx_g L h rju 86) (f_x_51 : h.2.2 x 51 = some rju) (rpl : Nat) (grpl : hx_g L h rpl 79) (f_x_44 : h.2.2 x 44 = some rpl) (qo : Nat) (gqo : hx_g L h qo 66) (f_x_30 : h.2.2 x 30 = some qo) (qwi : Nat) (gqwi : hx_g L h qwi 67) (f_x_31 : h.2.2 x 31 = some qwi) (qdy : Nat) (gqdy : hx_g L h qdy 68) (f_x_32 : h.2.2 x 32 = some qdy) (qkd : Nat) (gqkd : hx_g L h qkd 69) (f_x_33 : h.2.2 x 33 = some qkd) (qsm : Nat) (gqsm : hx_g L h qsm 70) (f_x_34 : h.2.2 x 34 = some qsm) (qtk : Nat) (gqtk : hx_g L h qtk 71) (f_x_35 : h.2.2 x 35 = some qtk) (byf : Nat → Int32) (af_rby : h.2.1 rby = byf) (agf : Nat → Int32) (af_rag : h.2.1 rag = agf) (flf : Nat → Int32) (af_rfi : h.2.1 rfi = flf) (smf : Nat → Int32) (af_rsm : h.2.1 rsm = smf) (rlf : Nat → Int32) (af_rrl : h.2.1 rrl = rlf) (frf : Nat → Int32) (af_rfr : h.2.1 rfr = frf) (bnf : Nat → Int32) (af_rbn : h.2.1 rbn = bnf) (psf : Nat → Int32) (af_rpn : h.2.1 rpn = psf) (prf : Nat → Int32) (af_rpr : h.2.1 rpr = prf) (skf : Nat → Int32) (af_rst : h.2.1 rst = skf) (rf : Nat → Int32) (af_rfc : h.2.1 rfc = rf) (hrf : Nat → Int32) (af_rhe : h.2.1 rhe = hrf) (fof : Nat → Int32) (af_rfo : h.2.1 rfo = fof) (ddf : Nat → Int32) (af_rdd : h.2.1 rdd = ddf) (jjf : Nat → Int32) (af_rjj : h.2.1 rjj = jjf) (kkf : Nat → Int32) (af_rkk : h.2.1 rkk = kkf) (sif : Nat → Int32) (af_rsi : h.2.1 rsi = sif) (bnh : Nat → Int32) (af_rbe : h.2.1 rbe = bnh) (hof : Nat → Int32) (af_rho : h.2.1 rho = hof) (ntf : Nat → Int32) (af_rnt : h.2.1 rnt = ntf) (wtf : Nat → Int32) (af_rwt : h.2.1 rwt = wtf) (udf : Nat → Int32) (af_rju : h.2.1 rju = udf) (plf : Nat → Int32) (af_rpl : h.2.1 rpl = plf) (of : Nat → Int32) (af_qo : h.2.1 qo = of) (wf : Nat → Int32) (af_qwi : h.2.1 qwi = wf) (df : Nat → Int32) (af_qdy : h.2.1 qdy = df) (kf : Nat → Int32) (af_qkd : h.2.1 qkd = kf) (sf : Nat → Int32) (af_qsm : h.2.1 qsm = sf) (tf : Nat → Int32) (af_qtk : h.2.1 qtk = tf) (c0 : Int32) (f_x_36 : h.2.1 x 36 = c0) (m0 : Int32) (f_x_57 : h.2.1 x 57 = m0) (a0 : Int32) (f_x_1 : h.2.1 x 1 = a0) (pn0 : Int32) (f_x_20 : h.2.1 x 20 = pn0) (nw0 : Int32) (f_x_0 : h.2.1 x 0 = nw0) (ln0 : Int32) (f_x_29 : h.2.1 x 29 = ln0) (hi2 : 0 ≤ i2.toInt ∧ i2.toInt ≤ 1) (hi3 : 0 ≤ i3.toInt ∧ i3.toInt ≤ 1) (adf : Nat → Int32) (A : Nat → hv_act) (hCA : hv_CA adf rlf psf prf a0.toInt A) (hAB : ∀ j : Nat, (∀ k, 0 ≤ (A j).2.1 k ∧ (A j).2.1 k ≤ 9999) ∧ hv_OK (A j).2.2) (hPL : hx_PL plf c0.toInt a0.toInt) (hHC : m0.toInt = hx_hc hrf c0.toInt.toNat) (bf : Nat → Int32) (hBD : hy_BD df bf ln0.toInt.toNat) (hDY : hy_DY df ln0.toInt.toNat) : Met l yX10_hear (Cond.code yX10_hear cX10_hear 6 (some .int) :: hx_all) ({ frames := 3, cells := 0, slots := 0, locals := 73 }) (va_Pc [.ref x, .int i1, .int i2, .int i3, .int i4] (hx_B T_tb (P_ty dA) (dC, dI) vwCl L h sz)) (va_Qi (fun (r : Int32) (u : List Nat × hx_h) => (∃ (m1 : Int32) (hrf1 : Nat → Int32) (udf1 : Nat → Int32) (hof1 : Nat → Int32) (rf1 : Nat → Int32) (bnh1 : Nat → Int32), u.2.2.1 x 57 = m1 ∧ u.2.2.1 rhe = hrf1 ∧ u.2.2.1 rju = udf1 ∧ u.2.2.1 rho = hof1 ∧ u.2.2.1 rfc = rf1 ∧ u.2.2.1 rbe = bnh1 ∧ (hv_HS (hv_HC fof hrf ddf agf c0.toInt i1.toInt i4.toInt ((hv_fs jjf ddf kkf (byf i1.toNatClampNeg).toNatClampNeg (agf i1.toNatClampNeg).toNatClampNeg pn0.toInt.toNat).length : Int)) i1 nw0 m0 m1 r (hv_jg (hv_F0 rf1 (8 * i1.toNatClampNeg)) (A (plf i1.toNatClampNeg).toInt.toNat).2.1 (A (plf i1.toNatClampNeg).toInt.toNat).2.2 (frf i1.toNatClampNeg).toInt (bnf (agf i1.toNatClampNeg).toNatClampNeg).toInt (smf i1.toNatClampNeg).toInt (hv_sm byf agf flf smf (byf i1.toNatClampNeg).toInt (agf i1.toNatClampNeg).toInt ((flf i1.toNatClampNeg).toInt - (A (plf i1.toNatClampNeg).toInt.toNat).2.1 1) c0.toInt.toNat)) hrf hrf1 udf udf1 hof hof1 ∧ ((r.toInt = -1 ∧ rf1 = rf ∧ bnh1 = bnh) ∨ (r.toInt ≠ -1 ∧ hv_CV rf rf1 i1.toNatClampNeg i2 i3 (ntf i1.toNatClampNeg) (wtf i1.toNatClampNeg) (hy_bs of wf df kf sf (byf i1.toNatClampNeg) (agf i1.toNatClampNeg) (flf i1.toNatClampNeg) ln0.toInt.toNat) (-(hy_bs of wf df kf sf (agf i1.toNatClampNeg) (byf i1.toNatClampNeg) (flf i1.toNatClampNeg) ln0.toInt.toNat)) (hy_G of wf df kf sf bf (byf i1.toNatClampNeg) (agf i1.toNatClampNeg) (flf i1.toNatClampNeg) ln0.toInt.toNat ln0.toInt.toNat).2 (smf i1.toNatClampNeg) ∧ (∃ b0 b1 b2 : Int32, hv_BN (hv_fs jjf ddf kkf (byf i1.toNatClampNeg).toNatClampNeg (agf i1.toNatClampNeg).toNatClampNeg pn0.toInt.toNat) (i4.toInt % hv_T3 (hv_fs jjf ddf kkf (byf i1.toNatClampNeg).toNatClampNeg (agf i1.toNatClampNeg).toNatClampNeg pn0.toInt.toNat).length) b0 b1 b2 ∧ bnh1 = hx_up (hx_up (hx_up bnh (3 * i1.toInt.toNat) b0) (3 * i1.toInt.toNat + 1) b1) (3 * i1.toInt.toNat + 2) b2))))) ∧ hx_T T_tb u.1 u.2 ∧ hx_S T_tb [(10, 57), (71, 0), (82, 0), (86, 0), (87, 0), (88, 0), (92, 0), (98, 0), (99, 0)] L h u.1 u.2) (hx_E T_tb (P_ty dA) (dC, dI) vwCl (hx_A L sz)) (hx_A L sz)) 0 0 (hx_A L sz) := by
  refine hx_met (lv := [(0, .ref x), (1, .int i1), (2, .int i2), (3, .int i3), (4, .int i4)]) (by decide +kernel) rfl (Nat.le_of_ble_eq_true rfl) rfl ?_
  intro p e s m below meth c hx hb hml hr hlk hts0 hown hin hsz hW ls hl
  have hts : ∀ w ∈ hx_all, w.before _ s = true := fun w hw => hts0 w (List.mem_cons_of_mem _ hw)
  have hown : s.vm.findClass "SmallCourtModel" = some m.cls := hown
  have hM : hx_S T_tb [(10, 57), (71, 0), (82, 0), (86, 0), (87, 0), (88, 0), (92, 0), (98, 0), (99, 0)] L h L h := hx_S.rf
  have b_c0 := hT.gi gx tt_10 (k := 36) rfl
  rw [f_x_36] at b_c0
  have b_c0 : 0 ≤ c0.toInt ∧ c0.toInt ≤ 100 := b_c0
  have b_m0 := hT.gi gx tt_10 (k := 57) rfl
  rw [f_x_57] at b_m0
  have b_m0 : 0 ≤ m0.toInt ∧ m0.toInt ≤ 100 := b_m0
  have b_a0 := hT.gi gx tt_10 (k := 1) rfl
  rw [f_x_1] at b_a0
  have b_a0 : 0 ≤ a0.toInt ∧ a0.toInt ≤ 8 := b_a0
  have b_pn0 := hT.gi gx tt_10 (k := 20) rfl
  rw [f_x_20] at b_pn0
  have b_pn0 : 0 ≤ pn0.toInt ∧ pn0.toInt ≤ 40 := b_pn0
  have b_nw0 := hT.gi gx tt_10 (k := 0) rfl
  rw [f_x_0] at b_nw0
  have b_nw0 : 0 ≤ nw0.toInt ∧ nw0.toInt ≤ 7999 := b_nw0
  have b_ln0 := hT.gi gx tt_10 (k := 29) rfl
  rw [f_x_29] at b_ln0
  have b_ln0 : 0 ≤ ln0.toInt ∧ ln0.toInt ≤ 400 := b_ln0
  refine lv_aload_n hx hb dX10_hear_0 rfl (lv_at hl 0 rfl) ?_
  refine lv_iload_n hx hb dX10_hear_1 rfl (lv_at hl 1 rfl) ?_
  refine hx_goi (hx_runV (As := [.int i1]) (rest := []) ⟨hx, hb, hml, hown, hts⟩ hW (gx.S hM) tt_10 (T := TX10) (N := 98) rfl (t_X10_isClaim l dC dI dA L h s.heap.size x i1 hT (gx.S hM) c0 ((hM.o gx trivial rfl).1.trans f_x_36)) (cwV 1 hts (hx_gV kw_1597 kw_1594 kw_1596 kw_73 kw_103) rfl rfl rfl (by decide +kernel) ⟨Nat.le_of_ble_eq_true rfl, Nat.le_of_ble_eq_true rfl⟩) rfl hl.1 rfl (Nat.le_of_ble_eq_true rfl) dX10_hear_2 ⟨Nat.le_of_ble_eq_true rfl, Nat.le_of_ble_eq_true rfl⟩) hW (fun r_3 L_1 h_2 H locs p_4 hW => ?_)
  obtain ⟨hr_5, hT, hs⟩ := p_4
  replace hT : hx_T T_tb L_1 h_2 := hT
  replace hs : hx_S T_tb [] L h L_1 h_2 := hs
  replace f_x_57 := (hs.o (gx.S hM) trivial rfl).1.trans f_x_57
  replace af_rst : h_2.2.1 rst = skf := (funext fun j => (hs.a (grst.S hM) rfl j).1).trans af_rst
  replace af_rfc : h_2.2.1 rfc = rf := (funext fun j => (hs.a (grfc.S hM) rfl j).1).trans af_rfc
  replace af_rhe : h_2.2.1 rhe = hrf := (funext fun j => (hs.a (grhe.S hM) rfl j).1).trans af_rhe
  replace af_rsi : h_2.2.1 rsi = sif := (funext fun j => (hs.a (grsi.S hM) rfl j).1).trans af_rsi
  replace af_rbe : h_2.2.1 rbe = bnh := (funext fun j => (hs.a (grbe.S hM) rfl j).1).trans af_rbe
  replace af_rho : h_2.2.1 rho = hof := (funext fun j => (hs.a (grho.S hM) rfl j).1).trans af_rho
  replace af_rju : h_2.2.1 rju = udf := (funext fun j => (hs.a (grju.S hM) rfl j).1).trans af_rju
  replace af_qtk : h_2.2.1 qtk = tf := (funext fun j => (hs.a (gqtk.S hM) rfl j).1).trans af_qtk
  replace hM := hM.tr (hs.mono ?o0)
  case o0 => decide
  refine hb_if_eq (zx := r_3.toInt) (tgt := 47) hx hb rfl dX10_hear_5 ?o1 (fun c_6 => ?_) (fun c_6 => ?_)
  case o1 => decide
  · skip
    replace hr_5 := hr_5.resolve_right (fun z9 => absurd (c_6.symm.trans z9.1) ?o2)
    case o2 => decide
    replace hr_5 := hr_5.2
    refine lv_iconst (v := -1) hx hb dX10_hear_47 ?o3 ?_
    case o3 => decide
    refine hx_reti hx hb hr hlk hW ⟨⟨m0, hrf, udf, hof, rf, bnh, f_x_57, af_rhe, af_rju, af_rho, af_rfc, af_rbe, ⟨Or.inl ⟨?o4, (fun hc => by have h1 := hc.1; omega), rfl, rfl, rfl, rfl⟩, Or.inl ⟨?o5, rfl, rfl⟩⟩⟩, hT, hM⟩ dX10_hear_48
    case o4 => decide
    case o5 => decide
  · skip
    replace hr_5 := hr_5.resolve_left (fun z9 => c_6 z9.1)
    replace c_6 := hr_5.1
    replace hr_5 := hr_5.2
    refine lv_aload_n hx hb dX10_hear_8 rfl (lv_at hl 0 rfl) ?_
    refine hk_getr hx hb hts hC_10 hown hW (gx.S hM) tt_10 46 ?o6 rfl kw_1189 ⟨rfl, rfl, rfl⟩ ((hM.o gx trivial rfl).2.trans f_x_46) dX10_hear_9 ?_
    case o6 => decide
    refine lv_iload_n hx hb dX10_hear_12 rfl (lv_at hl 1 rfl) ?_
    refine hx_iald hx hb hW hT (grfo.S hM) tt_81 rfl ⟨?o7, ?o8⟩ dX10_hear_13 (fun x_7 ex_7 lx_7 ux_7 => ?_)
    case o7 => omega
    case o8 => omega
    have ax_7 : x_7 = fof i1.toNatClampNeg := ex_7.trans (congrFun (hx_afS hM grfo rfl af_rfo) _)
    refine lv_iconst (v := -1) hx hb dX10_hear_14 ?o9 ?_
    case o9 => decide
    refine hb_icmp_eq (zx := x_7.toInt) (zy := (-1)) (tgt := 47) hx hb rfl ?o10 dX10_hear_15 ?o11 (fun c_8 => ?_) (fun c_8 => ?_)
    case o10 => decide
    case o11 => decide
    · skip
      refine lv_iconst (v := -1) hx hb dX10_hear_47 ?o12 ?_
      case o12 => decide
      refine hx_reti hx hb hr hlk hW ⟨⟨m0, hrf, udf, hof, rf, bnh, f_x_57, af_rhe, af_rju, af_rho, af_rfc, af_rbe, ⟨Or.inl ⟨?o13, (fun hc => by have h1 := hc.2.1; rw [show fof i1.toInt.toNat = x_7 from ax_7.symm] at h1; omega), rfl, rfl, rfl, rfl⟩, Or.inl ⟨?o14, rfl, rfl⟩⟩⟩, hT, hM⟩ dX10_hear_48
      case o13 => decide
      case o14 => decide
    · skip
      refine lv_aload_n hx hb dX10_hear_18 rfl (lv_at hl 0 rfl) ?_
      refine hk_getr hx hb hts hC_10 hown hW (gx.S hM) tt_10 47 ?o15 rfl kw_1190 ⟨rfl, rfl, rfl⟩ ((hM.o gx trivial rfl).2.trans f_x_47) dX10_hear_19 ?_
      case o15 => decide
      refine lv_iload_n hx hb dX10_hear_22 rfl (lv_at hl 1 rfl) ?_
      refine hx_iald hx hb hW hT (grhe.S hM) tt_82 rfl ⟨?o16, ?o17⟩ dX10_hear_23 (fun x_9 ex_9 lx_9 ux_9 => ?_)
      case o16 => omega
      case o17 => omega
      have ax_9 : x_9 = hrf i1.toNatClampNeg := ex_9.trans (congrFun af_rhe _)
      refine lv_iconst (v := -1) hx hb dX10_hear_24 ?o18 ?_
      case o18 => decide
      refine hb_icmp_ne (zx := x_9.toInt) (zy := (-1)) (tgt := 47) hx hb rfl ?o19 dX10_hear_25 ?o20 (fun c_10 => ?_) (fun c_10 => ?_)
      case o19 => decide
      case o20 => decide
      · skip
        refine lv_iconst (v := -1) hx hb dX10_hear_47 ?o21 ?_
        case o21 => decide
        refine hx_reti hx hb hr hlk hW ⟨⟨m0, hrf, udf, hof, rf, bnh, f_x_57, af_rhe, af_rju, af_rho, af_rfc, af_rbe, ⟨Or.inl ⟨?o22, (fun hc => by have h1 := hc.2.2.1; rw [show hrf i1.toInt.toNat = x_9 from ax_9.symm] at h1; omega), rfl, rfl, rfl, rfl⟩, Or.inl ⟨?o23, rfl, rfl⟩⟩⟩, hT, hM⟩ dX10_hear_48
        case o22 => decide
        case o23 => decide
      · skip
        refine lv_aload_n hx hb dX10_hear_28 rfl (lv_at hl 0 rfl) ?_
        refine hk_getr hx hb hts hC_10 hown hW (gx.S hM) tt_10 27 ?o24 rfl kw_1170 ⟨rfl, rfl, rfl⟩ ((hM.o gx trivial rfl).2.trans f_x_27) dX10_hear_29 ?_
        case o24 => decide
        refine lv_aload_n hx hb dX10_hear_32 rfl (lv_at hl 0 rfl) ?_
        refine hk_getr hx hb hts hC_10 hown hW (gx.S hM) tt_10 38 ?o25 rfl kw_1181 ⟨rfl, rfl, rfl⟩ ((hM.o gx trivial rfl).2.trans f_x_38) dX10_hear_33 ?_
        case o25 => decide
        refine lv_iload_n hx hb dX10_hear_36 rfl (lv_at hl 1 rfl) ?_
        refine hx_iald hx hb hW hT (grag.S hM) tt_73 rfl ⟨?o26, ?o27⟩ dX10_hear_37 (fun x_11 ex_11 lx_11 ux_11 => ?_)
        case o26 => omega
        case o27 => omega
        have ax_11 : x_11 = agf i1.toNatClampNeg := ex_11.trans (congrFun (hx_afS hM grag rfl af_rag) _)
        refine hx_zald hx hb hW hT (grdd.S hM) tt_64 rfl ⟨?o28, ?o29⟩ dX10_hear_38 (fun x_12 ex_12 lx_12 ux_12 => ?_)
        case o28 => omega
        case o29 => omega
        have ax_12 : x_12 = ddf x_11.toNatClampNeg := ex_12.trans (congrFun (hx_afS hM grdd rfl af_rdd) _)
        have hdd9 : x_12 = ddf (agf i1.toNatClampNeg).toNatClampNeg := ?o30
        case o30 => rw [ax_12, ← ax_11]
        refine hb_if_ne (zx := x_12.toInt) (tgt := 47) hx hb rfl dX10_hear_39 ?o31 (fun c_13 => ?_) (fun c_13 => ?_)
        case o31 => decide
        · skip
          refine lv_iconst (v := -1) hx hb dX10_hear_47 ?o32 ?_
          case o32 => decide
          refine hx_reti hx hb hr hlk hW ⟨⟨m0, hrf, udf, hof, rf, bnh, f_x_57, af_rhe, af_rju, af_rho, af_rfc, af_rbe, ⟨Or.inl ⟨?o33, (fun hc => by have h1 := hc.2.2.2.1; rw [show ddf (agf i1.toInt.toNat).toInt.toNat = x_12 from hdd9.symm] at h1; omega), rfl, rfl, rfl, rfl⟩, Or.inl ⟨?o34, rfl, rfl⟩⟩⟩, hT, hM⟩ dX10_hear_48
          case o33 => decide
          case o34 => decide
        · skip
          refine lv_iload hx hb dX10_hear_42 (lv_at hl 4 rfl) ?_
          refine hb_if_ge (zx := i4.toInt) (tgt := 49) hx hb rfl dX10_hear_44 ?o35 (fun c_14 => ?_) (fun c_14 => ?_)
          case o35 => decide
          · skip
            refine lv_aload_n hx hb dX10_hear_49 rfl (lv_at hl 0 rfl) ?_
            refine lv_iload_n hx hb dX10_hear_50 rfl (lv_at hl 1 rfl) ?_
            refine hx_goi (hx_runV (As := [.int i1]) (rest := []) ⟨hx, hb, hml, hown, hts⟩ hW (gx.S hM) tt_10 (T := TX10) (N := 98) rfl (t_X10_sits_v l dC dI dA L_1 h_2 H.size x i1 hT (gx.S hM) rjj (grjj.S hM) ((hM.o gx trivial rfl).2.trans f_x_28) rdd (grdd.S hM) ((hM.o gx trivial rfl).2.trans f_x_27) rkk (grkk.S hM) ((hM.o gx trivial rfl).2.trans f_x_26) rby (grby.S hM) ((hM.o gx trivial rfl).2.trans f_x_37) rag (grag.S hM) ((hM.o gx trivial rfl).2.trans f_x_38) rsi (grsi.S hM) ((hM.o gx trivial rfl).2.trans f_x_65) jjf (hx_afS hM grjj rfl af_rjj) ddf (hx_afS hM grdd rfl af_rdd) kkf (hx_afS hM grkk rfl af_rkk) byf (hx_afS hM grby rfl af_rby) agf (hx_afS hM grag rfl af_rag) sif af_rsi pn0 ((hM.o gx trivial rfl).1.trans f_x_20) ⟨?o36, ?o37⟩) (cwV 1 hts (hx_gV kw_1605 kw_1602 kw_1604 kw_74 kw_103) rfl rfl rfl (by decide +kernel) ⟨Nat.le_of_ble_eq_true rfl, Nat.le_of_ble_eq_true rfl⟩) rfl hl.1 rfl (Nat.le_of_ble_eq_true rfl) dX10_hear_51 ⟨Nat.le_of_ble_eq_true rfl, Nat.le_of_ble_eq_true rfl⟩) hW (fun r_17 L_15 h_16 H locs p_18 hW => ?_)
            case o36 => omega
            case o37 => omega
            obtain ⟨⟨w_20, fw_20, hr_19⟩, hT, hs⟩ := p_18
            replace hT : hx_T T_tb L_15 h_16 := hT
            replace hs : hx_S T_tb [(98, 0)] L_1 h_2 L_15 h_16 := hs
            replace f_x_57 := (hs.o (gx.S hM) trivial rfl).1.trans f_x_57
            replace af_rst : h_16.2.1 rst = skf := (funext fun j => (hs.a (grst.S hM) rfl j).1).trans af_rst
            replace af_rfc : h_16.2.1 rfc = rf := (funext fun j => (hs.a (grfc.S hM) rfl j).1).trans af_rfc
            replace af_rhe : h_16.2.1 rhe = hrf := (funext fun j => (hs.a (grhe.S hM) rfl j).1).trans af_rhe
            replace af_rbe : h_16.2.1 rbe = bnh := (funext fun j => (hs.a (grbe.S hM) rfl j).1).trans af_rbe
            replace af_rho : h_16.2.1 rho = hof := (funext fun j => (hs.a (grho.S hM) rfl j).1).trans af_rho
            replace af_rju : h_16.2.1 rju = udf := (funext fun j => (hs.a (grju.S hM) rfl j).1).trans af_rju
            replace af_qtk : h_16.2.1 qtk = tf := (funext fun j => (hs.a (gqtk.S hM) rfl j).1).trans af_qtk
            replace ex_7 := ex_7.trans (hs.a (grfo.S hM) rfl _).1.symm
            replace ex_9 := ex_9.trans (hs.a (grhe.S hM) rfl _).1.symm
            replace ex_11 := ex_11.trans (hs.a (grag.S hM) rfl _).1.symm
            replace ex_12 := ex_12.trans (hs.a (grdd.S hM) rfl _).1.symm
            replace hM := hM.tr (hs.mono ?o38)
            case o38 => decide
            have fw_20 : h_16.2.1 rsi = w_20 := fw_20
            have r_17b9 : 0 ≤ r_17.toInt ∧ r_17.toInt ≤ 40 := ?o39
            case o39 =>
              rw [hr_19.1]
              refine ⟨Int.natCast_nonneg _, Int.le_trans (Int.ofNat_le.mpr (hv_fs_b _)) ?o40⟩
              case o40 => omega
            refine lv_istore (lv' := [(5, .int r_17), (0, .ref x), (1, .int i1), (2, .int i2), (3, .int i3), (4, .int i4)]) hx hb dX10_hear_54 hl ?o41 rfl (fun ls hl => ?_)
            case o41 => decide
            refine lv_iload hx hb dX10_hear_56 (lv_at hl 0 rfl) ?_
            refine lv_iconst (v := 3) hx hb dX10_hear_58 ?o42 ?_
            case o42 => decide
            refine hb_icmp_ge (zx := r_17.toInt) (zy := 3) (tgt := 64) hx hb rfl ?o43 dX10_hear_59 ?o44 (fun c_21 => ?_) (fun c_21 => ?_)
            case o43 => decide
            case o44 => decide
            · skip
              refine lv_aload_n hx hb dX10_hear_64 rfl (lv_at hl 1 rfl) ?_
              refine lv_iload_n hx hb dX10_hear_65 rfl (lv_at hl 2 rfl) ?_
              refine lv_iload hx hb dX10_hear_66 (lv_at hl 0 rfl) ?_
              refine lv_iload hx hb dX10_hear_68 (lv_at hl 5 rfl) ?_
              refine lv_iload hx hb dX10_hear_70 (lv_at hl 0 rfl) ?_
              refine lv_iload hx hb dX10_hear_72 (lv_at hl 0 rfl) ?_
              refine lv_iconst (v := 1) hx hb dX10_hear_74 ?o45 ?_
              case o45 => decide
              refine lv_isub hx hb dX10_hear_75 ?_
              have rg_22 := i32_r r_17
              refine lv_topi (fun x_23 ex_23 => ?_)
              have zx_23 : x_23.toInt = r_17.toInt - 1 := ?o46
              case o46 =>
                rw [ex_23]
                refine i32_sub rfl ?o47 ?o48 ?o49
                case o47 => decide
                case o48 => omega
                case o49 => omega
              refine lv_imul hx hb dX10_hear_76 ?_
              refine lv_topi (fun x_24 ex_24 => ?_)
              have mx_24 : r_17.toInt = 0 → x_24.toInt = 0 := fun z => by rw [ex_24]; exact hx_mul0 z
              refine lv_iload hx hb dX10_hear_77 (lv_at hl 0 rfl) ?_
              refine lv_iconst (v := 2) hx hb dX10_hear_79 ?o50 ?_
              case o50 => decide
              refine lv_isub hx hb dX10_hear_80 ?_
              refine lv_topi (fun x_25 ex_25 => ?_)
              have zx_25 : x_25.toInt = r_17.toInt - 2 := ?o51
              case o51 =>
                rw [ex_25]
                refine i32_sub rfl ?o52 ?o53 ?o54
                case o52 => decide
                case o53 => omega
                case o54 => omega
              refine lv_imul hx hb dX10_hear_81 ?_
              refine lv_topi (fun x_26 ex_26 => ?_)
              have mx_26 : x_24.toInt = 0 → x_26.toInt = 0 := fun z => by rw [ex_26]; exact hx_mul0 z
              refine lv_bipush (v := 6) hx hb dX10_hear_82 ?o55 ?_
              case o55 => decide
              refine lv_idiv hx hb dX10_hear_84 ?o56 ?_
              case o56 => decide
              refine lv_topi (fun x_27 ex_27 => ?_)
              have zx_27 : -1073741824 ≤ x_27.toInt ∧ x_27.toInt ≤ 1073741824 := ?o57
              case o57 =>
                rw [ex_27]
                refine hx_divb ?o58
                case o58 => decide
              have hs9 : x_27.toInt = hv_T3 r_17.toInt.toNat := hv_n6 ?o59 ?o60 zx_23 ex_24 zx_25 ex_26 ex_27
              case o59 => omega
              case o60 => omega
              have ht9 := hv_T3_c (n := r_17.toInt) ?o61 ?o62
              case o61 => omega
              case o62 => omega
              refine lv_irem hx hb dX10_hear_85 (hx_ne0 ?o63) ?_
              case o63 => omega
              refine lv_topi (fun x_28 ex_28 => ?_)
              have zx_28 : 0 ≤ x_28.toInt ∧ x_28.toInt < x_27.toInt := ?o64
              case o64 =>
                rw [ex_28]
                refine hx_rem ?o65 ?o66
                case o65 => omega
                case o66 => omega
              have hp9 : x_28.toInt = i4.toInt % hv_T3 r_17.toInt.toNat := ?o67
              case o67 => rw [ex_28, hx_remz (by omega) (by omega), hs9]
              refine hx_gov (hx_runV (As := [.int i1, .int r_17, .int x_28]) (rest := []) ⟨hx, hb, hml, hown, hts⟩ hW (gx.S hM) tt_10 (T := TX10) (N := 98) rfl (t_X10_draws_v l dC dI dA L_15 h_16 H.size x i1 r_17 x_28 hT (gx.S hM) rbe (grbe.S hM) ((hM.o gx trivial rfl).2.trans f_x_52) rsi (grsi.S hM) ((hM.o gx trivial rfl).2.trans f_x_65) bnh af_rbe w_20 fw_20 ⟨?o68, ?o69⟩ ⟨?o70, ?o71⟩ (hv_fs jjf ddf kkf (byf i1.toNatClampNeg).toNatClampNeg (agf i1.toNatClampNeg).toNatClampNeg pn0.toInt.toNat) hr_19.2 hr_19.1 ⟨?o72, ?o73⟩) (cwV 3 hts (hx_gV kw_1613 kw_1610 kw_1612 kw_76 kw_103) rfl rfl rfl (by decide +kernel) ⟨Nat.le_of_ble_eq_true rfl, Nat.le_of_ble_eq_true rfl⟩) rfl hl.1 rfl (Nat.le_of_ble_eq_true rfl) dX10_hear_86 ⟨Nat.le_of_ble_eq_true rfl, Nat.le_of_ble_eq_true rfl⟩) hW (fun L_29 h_30 H locs p_32 hW => ?_)
              case o68 => omega
              case o69 => omega
              case o70 => omega
              case o71 => omega
              case o72 => omega
              case o73 => omega
              obtain ⟨⟨w_34, fw_34, hr_33⟩, hT, hs⟩ := p_32
              replace hT : hx_T T_tb L_29 h_30 := hT
              replace hs : hx_S T_tb [(87, 0)] L_15 h_16 L_29 h_30 := hs
              replace f_x_57 := (hs.o (gx.S hM) trivial rfl).1.trans f_x_57
              replace af_rst : h_30.2.1 rst = skf := (funext fun j => (hs.a (grst.S hM) rfl j).1).trans af_rst
              replace af_rfc : h_30.2.1 rfc = rf := (funext fun j => (hs.a (grfc.S hM) rfl j).1).trans af_rfc
              replace af_rhe : h_30.2.1 rhe = hrf := (funext fun j => (hs.a (grhe.S hM) rfl j).1).trans af_rhe
              replace af_rho : h_30.2.1 rho = hof := (funext fun j => (hs.a (grho.S hM) rfl j).1).trans af_rho
              replace af_rju : h_30.2.1 rju = udf := (funext fun j => (hs.a (grju.S hM) rfl j).1).trans af_rju
              replace af_qtk : h_30.2.1 qtk = tf := (funext fun j => (hs.a (gqtk.S hM) rfl j).1).trans af_qtk
              replace fw_20 : h_30.2.1 rsi = w_20 := (funext fun j => (hs.a (grsi.S hM) rfl j).1).trans fw_20
              replace ex_7 := ex_7.trans (hs.a (grfo.S hM) rfl _).1.symm
              replace ex_9 := ex_9.trans (hs.a (grhe.S hM) rfl _).1.symm
              replace ex_11 := ex_11.trans (hs.a (grag.S hM) rfl _).1.symm
              replace ex_12 := ex_12.trans (hs.a (grdd.S hM) rfl _).1.symm
              replace hM := hM.tr (hs.mono ?o74)
              case o74 => decide
              have fw_34 : h_30.2.1 rbe = w_34 := fw_34
              have hlt := hx_hear_lt hHC ?o75 ?o76 ax_9 ?o77
              case o75 => omega
              case o76 => omega
              case o77 => omega
              refine lv_aload_n hx hb dX10_hear_89 rfl (lv_at hl 1 rfl) ?_
              refine hk_getr hx hb hts hC_10 hown hW (gx.S hM) tt_10 47 ?o78 rfl kw_1190 ⟨rfl, rfl, rfl⟩ ((hM.o gx trivial rfl).2.trans f_x_47) dX10_hear_90 ?_
              case o78 => decide
              refine lv_iload_n hx hb dX10_hear_93 rfl (lv_at hl 2 rfl) ?_
              refine lv_aload_n hx hb dX10_hear_94 rfl (lv_at hl 1 rfl) ?_
              refine hk_geti hx hb hts hC_10 hown hW (gx.S hM) tt_10 0 ?o79 rfl kw_1143 ⟨rfl, rfl, rfl⟩ ((hM.o gx trivial rfl).1.trans f_x_0) dX10_hear_95 ?_
              case o79 => decide
              have af_rheO := af_rhe
              refine hx_iast hx hb hW hT (hx_S.rf (M := [(82, 0)])) (grhe.S hM) tt_82 rfl ⟨?o80, ?o81⟩ rfl ⟨?o82, ?o83⟩ (List.mem_singleton.mpr rfl) dX10_hear_98 (fun H locs h_35 eh_35 hW hT hs => ?_)
              case o80 => omega
              case o81 => omega
              case o82 => omega
              case o83 => omega
              replace f_x_57 := (hs.o (gx.S hM) trivial rfl).1.trans f_x_57
              replace af_rst : h_35.2.1 rst = skf := (funext fun j => (hs.a (grst.S hM) rfl j).1).trans af_rst
              replace af_rfc : h_35.2.1 rfc = rf := (funext fun j => (hs.a (grfc.S hM) rfl j).1).trans af_rfc
              replace af_rho : h_35.2.1 rho = hof := (funext fun j => (hs.a (grho.S hM) rfl j).1).trans af_rho
              replace af_rju : h_35.2.1 rju = udf := (funext fun j => (hs.a (grju.S hM) rfl j).1).trans af_rju
              replace af_qtk : h_35.2.1 qtk = tf := (funext fun j => (hs.a (gqtk.S hM) rfl j).1).trans af_qtk
              replace fw_20 : h_35.2.1 rsi = w_20 := (funext fun j => (hs.a (grsi.S hM) rfl j).1).trans fw_20
              replace fw_34 : h_35.2.1 rbe = w_34 := (funext fun j => (hs.a (grbe.S hM) rfl j).1).trans fw_34
              replace ex_7 := ex_7.trans (hs.a (grfo.S hM) rfl _).1.symm
              replace ex_11 := ex_11.trans (hs.a (grag.S hM) rfl _).1.symm
              replace ex_12 := ex_12.trans (hs.a (grdd.S hM) rfl _).1.symm
              replace hM := hM.tr (hs.mono ?o84)
              case o84 => decide
              obtain ⟨fa_36, dfa_36⟩ : ∃ g : Nat → Int32, g = hx_up hrf i1.toNatClampNeg nw0 := ⟨_, rfl⟩
              have nfa_36 : h_35.2.1 rhe = fa_36 := ?o85
              case o85 =>
                rw [eh_35, dfa_36, ← af_rheO]
                exact hx_pi_fun _ _ _ _
              refine lv_aload_n hx hb dX10_hear_99 rfl (lv_at hl 1 rfl) ?_
              refine hk_getr hx hb hts hC_10 hown hW (gx.S hM) tt_10 58 ?o86 rfl kw_1201 ⟨rfl, rfl, rfl⟩ ((hM.o gx trivial rfl).2.trans f_x_58) dX10_hear_100 ?_
              case o86 => decide
              refine lv_aload_n hx hb dX10_hear_103 rfl (lv_at hl 1 rfl) ?_
              refine hk_geti hx hb hts hC_10 hown hW (gx.S hM) tt_10 57 ?o87 rfl kw_1200 ⟨rfl, rfl, rfl⟩ f_x_57 dX10_hear_104 ?_
              case o87 => decide
              refine lv_iload_n hx hb dX10_hear_107 rfl (lv_at hl 2 rfl) ?_
              have af_rhoO := af_rho
              refine hx_iast hx hb hW hT (hx_S.rf (M := [(92, 0)])) (grho.S hM) tt_92 rfl ⟨?o88, ?o89⟩ rfl ⟨?o90, ?o91⟩ (List.mem_singleton.mpr rfl) dX10_hear_108 (fun H locs h_37 eh_37 hW hT hs => ?_)
              case o88 => omega
              case o89 => omega
              case o90 => omega
              case o91 => omega
              replace f_x_57 := (hs.o (gx.S hM) trivial rfl).1.trans f_x_57
              replace af_rst : h_37.2.1 rst = skf := (funext fun j => (hs.a (grst.S hM) rfl j).1).trans af_rst
              replace af_rfc : h_37.2.1 rfc = rf := (funext fun j => (hs.a (grfc.S hM) rfl j).1).trans af_rfc
              replace af_rju : h_37.2.1 rju = udf := (funext fun j => (hs.a (grju.S hM) rfl j).1).trans af_rju
              replace af_qtk : h_37.2.1 qtk = tf := (funext fun j => (hs.a (gqtk.S hM) rfl j).1).trans af_qtk
              replace fw_20 : h_37.2.1 rsi = w_20 := (funext fun j => (hs.a (grsi.S hM) rfl j).1).trans fw_20
              replace fw_34 : h_37.2.1 rbe = w_34 := (funext fun j => (hs.a (grbe.S hM) rfl j).1).trans fw_34
              replace nfa_36 : h_37.2.1 rhe = fa_36 := (funext fun j => (hs.a (grhe.S hM) rfl j).1).trans nfa_36
              replace ex_7 := ex_7.trans (hs.a (grfo.S hM) rfl _).1.symm
              replace ex_11 := ex_11.trans (hs.a (grag.S hM) rfl _).1.symm
              replace ex_12 := ex_12.trans (hs.a (grdd.S hM) rfl _).1.symm
              replace hM := hM.tr (hs.mono ?o92)
              case o92 => decide
              obtain ⟨fa_38, dfa_38⟩ : ∃ g : Nat → Int32, g = hx_up hof m0.toNatClampNeg i1 := ⟨_, rfl⟩
              have nfa_38 : h_37.2.1 rho = fa_38 := ?o93
              case o93 =>
                rw [eh_37, dfa_38, ← af_rhoO]
                exact hx_pi_fun _ _ _ _
              refine lv_aload_n hx hb dX10_hear_109 rfl (lv_at hl 1 rfl) ?_
              refine lv_dup hx hb dX10_hear_110 rfl ?_
              refine hk_geti hx hb hts hC_10 hown hW (gx.S hM) tt_10 57 ?o94 rfl kw_1200 ⟨rfl, rfl, rfl⟩ f_x_57 dX10_hear_111 ?_
              case o94 => decide
              refine lv_iconst (v := 1) hx hb dX10_hear_114 ?o95 ?_
              case o95 => decide
              refine lv_iadd hx hb dX10_hear_115 ?_
              have rg_39 := i32_r m0
              refine lv_topi (fun x_40 ex_40 => ?_)
              have zx_40 : x_40.toInt = m0.toInt + 1 := ?o96
              case o96 =>
                rw [ex_40]
                refine i32_add rfl ?o97 ?o98 ?o99
                case o97 => decide
                case o98 => omega
                case o99 => omega
              refine hx_puti hx hb hts hC_10 hown hW hT (hx_S.rf (M := [(10, 57)])) (gx.S hM) tt_10 57 ?o100 rfl kw_1200 ⟨rfl, rfl, rfl⟩ rfl (x := x_40) ⟨?o101, ?o102⟩ rfl rfl rfl (List.mem_singleton.mpr rfl) dX10_hear_116 (fun H locs h_41 eh_41 hW hT hs => ?_)
              case o100 => decide
              case o101 => omega
              case o102 => omega
              replace af_rst : h_41.2.1 rst = skf := (funext fun j => (hs.a (grst.S hM) rfl j).1).trans af_rst
              replace af_rfc : h_41.2.1 rfc = rf := (funext fun j => (hs.a (grfc.S hM) rfl j).1).trans af_rfc
              replace af_rju : h_41.2.1 rju = udf := (funext fun j => (hs.a (grju.S hM) rfl j).1).trans af_rju
              replace af_qtk : h_41.2.1 qtk = tf := (funext fun j => (hs.a (gqtk.S hM) rfl j).1).trans af_qtk
              replace fw_20 : h_41.2.1 rsi = w_20 := (funext fun j => (hs.a (grsi.S hM) rfl j).1).trans fw_20
              replace fw_34 : h_41.2.1 rbe = w_34 := (funext fun j => (hs.a (grbe.S hM) rfl j).1).trans fw_34
              replace nfa_36 : h_41.2.1 rhe = fa_36 := (funext fun j => (hs.a (grhe.S hM) rfl j).1).trans nfa_36
              replace nfa_38 : h_41.2.1 rho = fa_38 := (funext fun j => (hs.a (grho.S hM) rfl j).1).trans nfa_38
              replace ex_7 := ex_7.trans (hs.a (grfo.S hM) rfl _).1.symm
              replace ex_11 := ex_11.trans (hs.a (grag.S hM) rfl _).1.symm
              replace ex_12 := ex_12.trans (hs.a (grdd.S hM) rfl _).1.symm
              replace hM := hM.tr (hs.mono ?o103)
              case o103 => decide
              have f_42 : h_41.2.1 x 57 = x_40 := ?o104
              case o104 =>
                rw [eh_41]
                exact hx_pi_at _ _ _ _
              refine lv_aload_n hx hb dX10_hear_119 rfl (lv_at hl 1 rfl) ?_
              refine hk_getr hx hb hts hC_10 hown hW (gx.S hM) tt_10 53 ?o105 rfl kw_1196 ⟨rfl, rfl, rfl⟩ ((hM.o gx trivial rfl).2.trans f_x_53) dX10_hear_120 ?_
              case o105 => decide
              refine lv_bipush (v := 8) hx hb dX10_hear_123 ?o106 ?_
              case o106 => decide
              refine lv_iload_n hx hb dX10_hear_125 rfl (lv_at hl 2 rfl) ?_
              refine lv_imul hx hb dX10_hear_126 ?_
              refine lv_topi (fun x_43 ex_43 => ?_)
              have zx_43 : x_43.toInt = 8 * i1.toInt := ?o107
              case o107 =>
                rw [ex_43]
                refine i32_mul ?o108 rfl rfl ?o109 ?o110
                case o108 => decide
                case o109 => omega
                case o110 => omega
              refine lv_iload_n hx hb dX10_hear_127 rfl (lv_at hl 3 rfl) ?_
              have jn_136 : ∀ (xj_44 : Int32) (ls : Array Slot), 0 ≤ xj_44.toInt → xj_44.toInt ≤ 1 → xj_44.toInt = i2.toInt → lv_has ls 6 [(5, .int r_17), (0, .ref x), (1, .int i1), (2, .int i2), (3, .int i3), (4, .int i4)] → W p l e ({ frames := 3, cells := 0, slots := 0, locals := 73 }) s m ([.ref x, .int i1, .int i2, .int i3, .int i4] : List Value).toArray below meth c H locs 0 0 (MQ below (va_Qi (fun (r : Int32) (u : List Nat × hx_h) => (∃ (m1 : Int32) (hrf1 : Nat → Int32) (udf1 : Nat → Int32) (hof1 : Nat → Int32) (rf1 : Nat → Int32) (bnh1 : Nat → Int32), u.2.2.1 x 57 = m1 ∧ u.2.2.1 rhe = hrf1 ∧ u.2.2.1 rju = udf1 ∧ u.2.2.1 rho = hof1 ∧ u.2.2.1 rfc = rf1 ∧ u.2.2.1 rbe = bnh1 ∧ (hv_HS (hv_HC fof hrf ddf agf c0.toInt i1.toInt i4.toInt ((hv_fs jjf ddf kkf (byf i1.toNatClampNeg).toNatClampNeg (agf i1.toNatClampNeg).toNatClampNeg pn0.toInt.toNat).length : Int)) i1 nw0 m0 m1 r (hv_jg (hv_F0 rf1 (8 * i1.toNatClampNeg)) (A (plf i1.toNatClampNeg).toInt.toNat).2.1 (A (plf i1.toNatClampNeg).toInt.toNat).2.2 (frf i1.toNatClampNeg).toInt (bnf (agf i1.toNatClampNeg).toNatClampNeg).toInt (smf i1.toNatClampNeg).toInt (hv_sm byf agf flf smf (byf i1.toNatClampNeg).toInt (agf i1.toNatClampNeg).toInt ((flf i1.toNatClampNeg).toInt - (A (plf i1.toNatClampNeg).toInt.toNat).2.1 1) c0.toInt.toNat)) hrf hrf1 udf udf1 hof hof1 ∧ ((r.toInt = -1 ∧ rf1 = rf ∧ bnh1 = bnh) ∨ (r.toInt ≠ -1 ∧ hv_CV rf rf1 i1.toNatClampNeg i2 i3 (ntf i1.toNatClampNeg) (wtf i1.toNatClampNeg) (hy_bs of wf df kf sf (byf i1.toNatClampNeg) (agf i1.toNatClampNeg) (flf i1.toNatClampNeg) ln0.toInt.toNat) (-(hy_bs of wf df kf sf (agf i1.toNatClampNeg) (byf i1.toNatClampNeg) (flf i1.toNatClampNeg) ln0.toInt.toNat)) (hy_G of wf df kf sf bf (byf i1.toNatClampNeg) (agf i1.toNatClampNeg) (flf i1.toNatClampNeg) ln0.toInt.toNat ln0.toInt.toNat).2 (smf i1.toNatClampNeg) ∧ (∃ b0 b1 b2 : Int32, hv_BN (hv_fs jjf ddf kkf (byf i1.toNatClampNeg).toNatClampNeg (agf i1.toNatClampNeg).toNatClampNeg pn0.toInt.toNat) (i4.toInt % hv_T3 (hv_fs jjf ddf kkf (byf i1.toNatClampNeg).toNatClampNeg (agf i1.toNatClampNeg).toNatClampNeg pn0.toInt.toNat).length) b0 b1 b2 ∧ bnh1 = hx_up (hx_up (hx_up bnh (3 * i1.toInt.toNat) b0) (3 * i1.toInt.toNat + 1) b1) (3 * i1.toInt.toNat + 2) b2))))) ∧ hx_T T_tb u.1 u.2 ∧ hx_S T_tb [(10, 57), (71, 0), (82, 0), (86, 0), (87, 0), (88, 0), (92, 0), (98, 0), (99, 0)] L h u.1 u.2) (hx_E T_tb (P_ty dA) (dC, dI) vwCl (hx_A L sz)) (hx_A L sz)) ([.ref x, .int i1, .int i2, .int i3, .int i4] : List Value).toArray s 0 0 (hx_A L sz)) (F0 m 136 ls [.int xj_44, .int x_43, .ref rfc]) := by
                intro xj_44 ls blxj_44 buxj_44 jcxj_44 hl
                obtain rfl : i2 = xj_44 := Int32.toInt_inj.mp (by omega)
                have af_rfcO := af_rfc
                refine hx_iast hx hb hW hT (hx_S.rf (M := [(88, 0)])) (grfc.S hM) tt_88 rfl ⟨?o111, ?o112⟩ rfl (i32_r _) (List.mem_singleton.mpr rfl) dX10_hear_136 (fun H locs h_45 eh_45 hW hT hs => ?_)
                case o111 => omega
                case o112 => omega
                replace f_42 := (hs.o (gx.S hM) trivial rfl).1.trans f_42
                replace af_rst : h_45.2.1 rst = skf := (funext fun j => (hs.a (grst.S hM) rfl j).1).trans af_rst
                replace af_rju : h_45.2.1 rju = udf := (funext fun j => (hs.a (grju.S hM) rfl j).1).trans af_rju
                replace af_qtk : h_45.2.1 qtk = tf := (funext fun j => (hs.a (gqtk.S hM) rfl j).1).trans af_qtk
                replace fw_20 : h_45.2.1 rsi = w_20 := (funext fun j => (hs.a (grsi.S hM) rfl j).1).trans fw_20
                replace fw_34 : h_45.2.1 rbe = w_34 := (funext fun j => (hs.a (grbe.S hM) rfl j).1).trans fw_34
                replace nfa_36 : h_45.2.1 rhe = fa_36 := (funext fun j => (hs.a (grhe.S hM) rfl j).1).trans nfa_36
                replace nfa_38 : h_45.2.1 rho = fa_38 := (funext fun j => (hs.a (grho.S hM) rfl j).1).trans nfa_38
                replace ex_7 := ex_7.trans (hs.a (grfo.S hM) rfl _).1.symm
                replace ex_11 := ex_11.trans (hs.a (grag.S hM) rfl _).1.symm
                replace ex_12 := ex_12.trans (hs.a (grdd.S hM) rfl _).1.symm
                replace hM := hM.tr (hs.mono ?o113)
                case o113 => decide
                obtain ⟨fa_46, dfa_46⟩ : ∃ g : Nat → Int32, g = hx_up rf x_43.toNatClampNeg i2 := ⟨_, rfl⟩
                have nfa_46 : h_45.2.1 rfc = fa_46 := ?o114
                case o114 =>
                  rw [eh_45, dfa_46, ← af_rfcO]
                  exact hx_pi_fun _ _ _ _
                refine lv_aload_n hx hb dX10_hear_137 rfl (lv_at hl 1 rfl) ?_
                refine hk_getr hx hb hts hC_10 hown hW (gx.S hM) tt_10 53 ?o115 rfl kw_1196 ⟨rfl, rfl, rfl⟩ ((hM.o gx trivial rfl).2.trans f_x_53) dX10_hear_138 ?_
                case o115 => decide
                refine lv_bipush (v := 8) hx hb dX10_hear_141 ?o116 ?_
                case o116 => decide
                refine lv_iload_n hx hb dX10_hear_143 rfl (lv_at hl 2 rfl) ?_
                refine lv_imul hx hb dX10_hear_144 ?_
                refine lv_topi (fun x_47 ex_47 => ?_)
                have zx_47 : x_47.toInt = 8 * i1.toInt := ?o117
                case o117 =>
                  rw [ex_47]
                  refine i32_mul ?o118 rfl rfl ?o119 ?o120
                  case o118 => decide
                  case o119 => omega
                  case o120 => omega
                refine lv_iconst (v := 1) hx hb dX10_hear_145 ?o121 ?_
                case o121 => decide
                refine lv_iadd hx hb dX10_hear_146 ?_
                have rg_48 := i32_r x_47
                refine lv_topi (fun x_49 ex_49 => ?_)
                have zx_49 : x_49.toInt = x_47.toInt + 1 := ?o122
                case o122 =>
                  rw [ex_49]
                  refine i32_add rfl ?o123 ?o124 ?o125
                  case o123 => decide
                  case o124 => omega
                  case o125 => omega
                refine lv_iload_n hx hb dX10_hear_147 rfl (lv_at hl 4 rfl) ?_
                have jn_156 : ∀ (xj_50 : Int32) (ls : Array Slot), 0 ≤ xj_50.toInt → xj_50.toInt ≤ 1 → xj_50.toInt = i3.toInt → lv_has ls 6 [(5, .int r_17), (0, .ref x), (1, .int i1), (2, .int i2), (3, .int i3), (4, .int i4)] → W p l e ({ frames := 3, cells := 0, slots := 0, locals := 73 }) s m ([.ref x, .int i1, .int i2, .int i3, .int i4] : List Value).toArray below meth c H locs 0 0 (MQ below (va_Qi (fun (r : Int32) (u : List Nat × hx_h) => (∃ (m1 : Int32) (hrf1 : Nat → Int32) (udf1 : Nat → Int32) (hof1 : Nat → Int32) (rf1 : Nat → Int32) (bnh1 : Nat → Int32), u.2.2.1 x 57 = m1 ∧ u.2.2.1 rhe = hrf1 ∧ u.2.2.1 rju = udf1 ∧ u.2.2.1 rho = hof1 ∧ u.2.2.1 rfc = rf1 ∧ u.2.2.1 rbe = bnh1 ∧ (hv_HS (hv_HC fof hrf ddf agf c0.toInt i1.toInt i4.toInt ((hv_fs jjf ddf kkf (byf i1.toNatClampNeg).toNatClampNeg (agf i1.toNatClampNeg).toNatClampNeg pn0.toInt.toNat).length : Int)) i1 nw0 m0 m1 r (hv_jg (hv_F0 rf1 (8 * i1.toNatClampNeg)) (A (plf i1.toNatClampNeg).toInt.toNat).2.1 (A (plf i1.toNatClampNeg).toInt.toNat).2.2 (frf i1.toNatClampNeg).toInt (bnf (agf i1.toNatClampNeg).toNatClampNeg).toInt (smf i1.toNatClampNeg).toInt (hv_sm byf agf flf smf (byf i1.toNatClampNeg).toInt (agf i1.toNatClampNeg).toInt ((flf i1.toNatClampNeg).toInt - (A (plf i1.toNatClampNeg).toInt.toNat).2.1 1) c0.toInt.toNat)) hrf hrf1 udf udf1 hof hof1 ∧ ((r.toInt = -1 ∧ rf1 = rf ∧ bnh1 = bnh) ∨ (r.toInt ≠ -1 ∧ hv_CV rf rf1 i1.toNatClampNeg i2 i3 (ntf i1.toNatClampNeg) (wtf i1.toNatClampNeg) (hy_bs of wf df kf sf (byf i1.toNatClampNeg) (agf i1.toNatClampNeg) (flf i1.toNatClampNeg) ln0.toInt.toNat) (-(hy_bs of wf df kf sf (agf i1.toNatClampNeg) (byf i1.toNatClampNeg) (flf i1.toNatClampNeg) ln0.toInt.toNat)) (hy_G of wf df kf sf bf (byf i1.toNatClampNeg) (agf i1.toNatClampNeg) (flf i1.toNatClampNeg) ln0.toInt.toNat ln0.toInt.toNat).2 (smf i1.toNatClampNeg) ∧ (∃ b0 b1 b2 : Int32, hv_BN (hv_fs jjf ddf kkf (byf i1.toNatClampNeg).toNatClampNeg (agf i1.toNatClampNeg).toNatClampNeg pn0.toInt.toNat) (i4.toInt % hv_T3 (hv_fs jjf ddf kkf (byf i1.toNatClampNeg).toNatClampNeg (agf i1.toNatClampNeg).toNatClampNeg pn0.toInt.toNat).length) b0 b1 b2 ∧ bnh1 = hx_up (hx_up (hx_up bnh (3 * i1.toInt.toNat) b0) (3 * i1.toInt.toNat + 1) b1) (3 * i1.toInt.toNat + 2) b2))))) ∧ hx_T T_tb u.1 u.2 ∧ hx_S T_tb [(10, 57), (71, 0), (82, 0), (86, 0), (87, 0), (88, 0), (92, 0), (98, 0), (99, 0)] L h u.1 u.2) (hx_E T_tb (P_ty dA) (dC, dI) vwCl (hx_A L sz)) (hx_A L sz)) ([.ref x, .int i1, .int i2, .int i3, .int i4] : List Value).toArray s 0 0 (hx_A L sz)) (F0 m 156 ls [.int xj_50, .int x_49, .ref rfc]) := by
                  intro xj_50 ls blxj_50 buxj_50 jcxj_50 hl
                  obtain rfl : i3 = xj_50 := Int32.toInt_inj.mp (by omega)
                  have nfa_46O := nfa_46
                  refine hx_iast hx hb hW hT (hx_S.rf (M := [(88, 0)])) (grfc.S hM) tt_88 rfl ⟨?o126, ?o127⟩ rfl (i32_r _) (List.mem_singleton.mpr rfl) dX10_hear_156 (fun H locs h_51 eh_51 hW hT hs => ?_)
                  case o126 => omega
                  case o127 => omega
                  replace f_42 := (hs.o (gx.S hM) trivial rfl).1.trans f_42
                  replace af_rst : h_51.2.1 rst = skf := (funext fun j => (hs.a (grst.S hM) rfl j).1).trans af_rst
                  replace af_rju : h_51.2.1 rju = udf := (funext fun j => (hs.a (grju.S hM) rfl j).1).trans af_rju
                  replace af_qtk : h_51.2.1 qtk = tf := (funext fun j => (hs.a (gqtk.S hM) rfl j).1).trans af_qtk
                  replace fw_20 : h_51.2.1 rsi = w_20 := (funext fun j => (hs.a (grsi.S hM) rfl j).1).trans fw_20
                  replace fw_34 : h_51.2.1 rbe = w_34 := (funext fun j => (hs.a (grbe.S hM) rfl j).1).trans fw_34
                  replace nfa_36 : h_51.2.1 rhe = fa_36 := (funext fun j => (hs.a (grhe.S hM) rfl j).1).trans nfa_36
                  replace nfa_38 : h_51.2.1 rho = fa_38 := (funext fun j => (hs.a (grho.S hM) rfl j).1).trans nfa_38
                  replace ex_7 := ex_7.trans (hs.a (grfo.S hM) rfl _).1.symm
                  replace ex_11 := ex_11.trans (hs.a (grag.S hM) rfl _).1.symm
                  replace ex_12 := ex_12.trans (hs.a (grdd.S hM) rfl _).1.symm
                  replace hM := hM.tr (hs.mono ?o128)
                  case o128 => decide
                  obtain ⟨fa_52, dfa_52⟩ : ∃ g : Nat → Int32, g = hx_up fa_46 x_49.toNatClampNeg i3 := ⟨_, rfl⟩
                  have nfa_52 : h_51.2.1 rfc = fa_52 := ?o129
                  case o129 =>
                    rw [eh_51, dfa_52, ← nfa_46O]
                    exact hx_pi_fun _ _ _ _
                  refine lv_aload_n hx hb dX10_hear_157 rfl (lv_at hl 1 rfl) ?_
                  refine hk_getr hx hb hts hC_10 hown hW (gx.S hM) tt_10 53 ?o130 rfl kw_1196 ⟨rfl, rfl, rfl⟩ ((hM.o gx trivial rfl).2.trans f_x_53) dX10_hear_158 ?_
                  case o130 => decide
                  refine lv_bipush (v := 8) hx hb dX10_hear_161 ?o131 ?_
                  case o131 => decide
                  refine lv_iload_n hx hb dX10_hear_163 rfl (lv_at hl 2 rfl) ?_
                  refine lv_imul hx hb dX10_hear_164 ?_
                  refine lv_topi (fun x_53 ex_53 => ?_)
                  have zx_53 : x_53.toInt = 8 * i1.toInt := ?o132
                  case o132 =>
                    rw [ex_53]
                    refine i32_mul ?o133 rfl rfl ?o134 ?o135
                    case o133 => decide
                    case o134 => omega
                    case o135 => omega
                  refine lv_iconst (v := 2) hx hb dX10_hear_165 ?o136 ?_
                  case o136 => decide
                  refine lv_iadd hx hb dX10_hear_166 ?_
                  have rg_54 := i32_r x_53
                  refine lv_topi (fun x_55 ex_55 => ?_)
                  have zx_55 : x_55.toInt = x_53.toInt + 2 := ?o137
                  case o137 =>
                    rw [ex_55]
                    refine i32_add rfl ?o138 ?o139 ?o140
                    case o138 => decide
                    case o139 => omega
                    case o140 => omega
                  refine lv_aload_n hx hb dX10_hear_167 rfl (lv_at hl 1 rfl) ?_
                  refine hk_getr hx hb hts hC_10 hown hW (gx.S hM) tt_10 41 ?o141 rfl kw_1184 ⟨rfl, rfl, rfl⟩ ((hM.o gx trivial rfl).2.trans f_x_41) dX10_hear_168 ?_
                  case o141 => decide
                  refine lv_iload_n hx hb dX10_hear_171 rfl (lv_at hl 2 rfl) ?_
                  refine hx_zald hx hb hW hT (grnt.S hM) tt_76 rfl ⟨?o142, ?o143⟩ dX10_hear_172 (fun x_56 ex_56 lx_56 ux_56 => ?_)
                  case o142 => omega
                  case o143 => omega
                  have ax_56 : x_56 = ntf i1.toNatClampNeg := ex_56.trans (congrFun (hx_afS hM grnt rfl af_rnt) _)
                  have jn_181 : ∀ (xj_57 : Int32) (ls : Array Slot), 0 ≤ xj_57.toInt → xj_57.toInt ≤ 1 → xj_57.toInt = x_56.toInt → lv_has ls 6 [(5, .int r_17), (0, .ref x), (1, .int i1), (2, .int i2), (3, .int i3), (4, .int i4)] → W p l e ({ frames := 3, cells := 0, slots := 0, locals := 73 }) s m ([.ref x, .int i1, .int i2, .int i3, .int i4] : List Value).toArray below meth c H locs 0 0 (MQ below (va_Qi (fun (r : Int32) (u : List Nat × hx_h) => (∃ (m1 : Int32) (hrf1 : Nat → Int32) (udf1 : Nat → Int32) (hof1 : Nat → Int32) (rf1 : Nat → Int32) (bnh1 : Nat → Int32), u.2.2.1 x 57 = m1 ∧ u.2.2.1 rhe = hrf1 ∧ u.2.2.1 rju = udf1 ∧ u.2.2.1 rho = hof1 ∧ u.2.2.1 rfc = rf1 ∧ u.2.2.1 rbe = bnh1 ∧ (hv_HS (hv_HC fof hrf ddf agf c0.toInt i1.toInt i4.toInt ((hv_fs jjf ddf kkf (byf i1.toNatClampNeg).toNatClampNeg (agf i1.toNatClampNeg).toNatClampNeg pn0.toInt.toNat).length : Int)) i1 nw0 m0 m1 r (hv_jg (hv_F0 rf1 (8 * i1.toNatClampNeg)) (A (plf i1.toNatClampNeg).toInt.toNat).2.1 (A (plf i1.toNatClampNeg).toInt.toNat).2.2 (frf i1.toNatClampNeg).toInt (bnf (agf i1.toNatClampNeg).toNatClampNeg).toInt (smf i1.toNatClampNeg).toInt (hv_sm byf agf flf smf (byf i1.toNatClampNeg).toInt (agf i1.toNatClampNeg).toInt ((flf i1.toNatClampNeg).toInt - (A (plf i1.toNatClampNeg).toInt.toNat).2.1 1) c0.toInt.toNat)) hrf hrf1 udf udf1 hof hof1 ∧ ((r.toInt = -1 ∧ rf1 = rf ∧ bnh1 = bnh) ∨ (r.toInt ≠ -1 ∧ hv_CV rf rf1 i1.toNatClampNeg i2 i3 (ntf i1.toNatClampNeg) (wtf i1.toNatClampNeg) (hy_bs of wf df kf sf (byf i1.toNatClampNeg) (agf i1.toNatClampNeg) (flf i1.toNatClampNeg) ln0.toInt.toNat) (-(hy_bs of wf df kf sf (agf i1.toNatClampNeg) (byf i1.toNatClampNeg) (flf i1.toNatClampNeg) ln0.toInt.toNat)) (hy_G of wf df kf sf bf (byf i1.toNatClampNeg) (agf i1.toNatClampNeg) (flf i1.toNatClampNeg) ln0.toInt.toNat ln0.toInt.toNat).2 (smf i1.toNatClampNeg) ∧ (∃ b0 b1 b2 : Int32, hv_BN (hv_fs jjf ddf kkf (byf i1.toNatClampNeg).toNatClampNeg (agf i1.toNatClampNeg).toNatClampNeg pn0.toInt.toNat) (i4.toInt % hv_T3 (hv_fs jjf ddf kkf (byf i1.toNatClampNeg).toNatClampNeg (agf i1.toNatClampNeg).toNatClampNeg pn0.toInt.toNat).length) b0 b1 b2 ∧ bnh1 = hx_up (hx_up (hx_up bnh (3 * i1.toInt.toNat) b0) (3 * i1.toInt.toNat + 1) b1) (3 * i1.toInt.toNat + 2) b2))))) ∧ hx_T T_tb u.1 u.2 ∧ hx_S T_tb [(10, 57), (71, 0), (82, 0), (86, 0), (87, 0), (88, 0), (92, 0), (98, 0), (99, 0)] L h u.1 u.2) (hx_E T_tb (P_ty dA) (dC, dI) vwCl (hx_A L sz)) (hx_A L sz)) ([.ref x, .int i1, .int i2, .int i3, .int i4] : List Value).toArray s 0 0 (hx_A L sz)) (F0 m 181 ls [.int xj_57, .int x_55, .ref rfc]) := by
                    intro xj_57 ls blxj_57 buxj_57 jcxj_57 hl
                    obtain rfl : x_56 = xj_57 := Int32.toInt_inj.mp (by omega)
                    have nfa_52O := nfa_52
                    refine hx_iast hx hb hW hT (hx_S.rf (M := [(88, 0)])) (grfc.S hM) tt_88 rfl ⟨?o144, ?o145⟩ rfl (i32_r _) (List.mem_singleton.mpr rfl) dX10_hear_181 (fun H locs h_58 eh_58 hW hT hs => ?_)
                    case o144 => omega
                    case o145 => omega
                    replace f_42 := (hs.o (gx.S hM) trivial rfl).1.trans f_42
                    replace af_rst : h_58.2.1 rst = skf := (funext fun j => (hs.a (grst.S hM) rfl j).1).trans af_rst
                    replace af_rju : h_58.2.1 rju = udf := (funext fun j => (hs.a (grju.S hM) rfl j).1).trans af_rju
                    replace af_qtk : h_58.2.1 qtk = tf := (funext fun j => (hs.a (gqtk.S hM) rfl j).1).trans af_qtk
                    replace fw_20 : h_58.2.1 rsi = w_20 := (funext fun j => (hs.a (grsi.S hM) rfl j).1).trans fw_20
                    replace fw_34 : h_58.2.1 rbe = w_34 := (funext fun j => (hs.a (grbe.S hM) rfl j).1).trans fw_34
                    replace nfa_36 : h_58.2.1 rhe = fa_36 := (funext fun j => (hs.a (grhe.S hM) rfl j).1).trans nfa_36
                    replace nfa_38 : h_58.2.1 rho = fa_38 := (funext fun j => (hs.a (grho.S hM) rfl j).1).trans nfa_38
                    replace ex_7 := ex_7.trans (hs.a (grfo.S hM) rfl _).1.symm
                    replace ex_11 := ex_11.trans (hs.a (grag.S hM) rfl _).1.symm
                    replace ex_12 := ex_12.trans (hs.a (grdd.S hM) rfl _).1.symm
                    replace ex_56 := ex_56.trans (hs.a (grnt.S hM) rfl _).1.symm
                    replace hM := hM.tr (hs.mono ?o146)
                    case o146 => decide
                    obtain ⟨fa_59, dfa_59⟩ : ∃ g : Nat → Int32, g = hx_up fa_52 x_55.toNatClampNeg x_56 := ⟨_, rfl⟩
                    have nfa_59 : h_58.2.1 rfc = fa_59 := ?o147
                    case o147 =>
                      rw [eh_58, dfa_59, ← nfa_52O]
                      exact hx_pi_fun _ _ _ _
                    refine lv_aload_n hx hb dX10_hear_182 rfl (lv_at hl 1 rfl) ?_
                    refine hk_getr hx hb hts hC_10 hown hW (gx.S hM) tt_10 53 ?o148 rfl kw_1196 ⟨rfl, rfl, rfl⟩ ((hM.o gx trivial rfl).2.trans f_x_53) dX10_hear_183 ?_
                    case o148 => decide
                    refine lv_bipush (v := 8) hx hb dX10_hear_186 ?o149 ?_
                    case o149 => decide
                    refine lv_iload_n hx hb dX10_hear_188 rfl (lv_at hl 2 rfl) ?_
                    refine lv_imul hx hb dX10_hear_189 ?_
                    refine lv_topi (fun x_60 ex_60 => ?_)
                    have zx_60 : x_60.toInt = 8 * i1.toInt := ?o150
                    case o150 =>
                      rw [ex_60]
                      refine i32_mul ?o151 rfl rfl ?o152 ?o153
                      case o151 => decide
                      case o152 => omega
                      case o153 => omega
                    refine lv_iconst (v := 3) hx hb dX10_hear_190 ?o154 ?_
                    case o154 => decide
                    refine lv_iadd hx hb dX10_hear_191 ?_
                    have rg_61 := i32_r x_60
                    refine lv_topi (fun x_62 ex_62 => ?_)
                    have zx_62 : x_62.toInt = x_60.toInt + 3 := ?o155
                    case o155 =>
                      rw [ex_62]
                      refine i32_add rfl ?o156 ?o157 ?o158
                      case o156 => decide
                      case o157 => omega
                      case o158 => omega
                    refine lv_aload_n hx hb dX10_hear_192 rfl (lv_at hl 1 rfl) ?_
                    refine hk_getr hx hb hts hC_10 hown hW (gx.S hM) tt_10 42 ?o159 rfl kw_1185 ⟨rfl, rfl, rfl⟩ ((hM.o gx trivial rfl).2.trans f_x_42) dX10_hear_193 ?_
                    case o159 => decide
                    refine lv_iload_n hx hb dX10_hear_196 rfl (lv_at hl 2 rfl) ?_
                    refine hx_iald hx hb hW hT (grwt.S hM) tt_77 rfl ⟨?o160, ?o161⟩ dX10_hear_197 (fun x_63 ex_63 lx_63 ux_63 => ?_)
                    case o160 => omega
                    case o161 => omega
                    have ax_63 : x_63 = wtf i1.toNatClampNeg := ex_63.trans (congrFun (hx_afS hM grwt rfl af_rwt) _)
                    have nfa_59O := nfa_59
                    refine hx_iast hx hb hW hT (hx_S.rf (M := [(88, 0)])) (grfc.S hM) tt_88 rfl ⟨?o162, ?o163⟩ rfl (i32_r _) (List.mem_singleton.mpr rfl) dX10_hear_198 (fun H locs h_64 eh_64 hW hT hs => ?_)
                    case o162 => omega
                    case o163 => omega
                    replace f_42 := (hs.o (gx.S hM) trivial rfl).1.trans f_42
                    replace af_rst : h_64.2.1 rst = skf := (funext fun j => (hs.a (grst.S hM) rfl j).1).trans af_rst
                    replace af_rju : h_64.2.1 rju = udf := (funext fun j => (hs.a (grju.S hM) rfl j).1).trans af_rju
                    replace af_qtk : h_64.2.1 qtk = tf := (funext fun j => (hs.a (gqtk.S hM) rfl j).1).trans af_qtk
                    replace fw_20 : h_64.2.1 rsi = w_20 := (funext fun j => (hs.a (grsi.S hM) rfl j).1).trans fw_20
                    replace fw_34 : h_64.2.1 rbe = w_34 := (funext fun j => (hs.a (grbe.S hM) rfl j).1).trans fw_34
                    replace nfa_36 : h_64.2.1 rhe = fa_36 := (funext fun j => (hs.a (grhe.S hM) rfl j).1).trans nfa_36
                    replace nfa_38 : h_64.2.1 rho = fa_38 := (funext fun j => (hs.a (grho.S hM) rfl j).1).trans nfa_38
                    replace ex_7 := ex_7.trans (hs.a (grfo.S hM) rfl _).1.symm
                    replace ex_11 := ex_11.trans (hs.a (grag.S hM) rfl _).1.symm
                    replace ex_12 := ex_12.trans (hs.a (grdd.S hM) rfl _).1.symm
                    replace ex_56 := ex_56.trans (hs.a (grnt.S hM) rfl _).1.symm
                    replace ex_63 := ex_63.trans (hs.a (grwt.S hM) rfl _).1.symm
                    replace hM := hM.tr (hs.mono ?o164)
                    case o164 => decide
                    obtain ⟨fa_65, dfa_65⟩ : ∃ g : Nat → Int32, g = hx_up fa_59 x_62.toNatClampNeg x_63 := ⟨_, rfl⟩
                    have nfa_65 : h_64.2.1 rfc = fa_65 := ?o165
                    case o165 =>
                      rw [eh_64, dfa_65, ← nfa_59O]
                      exact hx_pi_fun _ _ _ _
                    refine lv_aload_n hx hb dX10_hear_199 rfl (lv_at hl 1 rfl) ?_
                    refine hk_getr hx hb hts hC_10 hown hW (gx.S hM) tt_10 53 ?o166 rfl kw_1196 ⟨rfl, rfl, rfl⟩ ((hM.o gx trivial rfl).2.trans f_x_53) dX10_hear_200 ?_
                    case o166 => decide
                    refine lv_bipush (v := 8) hx hb dX10_hear_203 ?o167 ?_
                    case o167 => decide
                    refine lv_iload_n hx hb dX10_hear_205 rfl (lv_at hl 2 rfl) ?_
                    refine lv_imul hx hb dX10_hear_206 ?_
                    refine lv_topi (fun x_66 ex_66 => ?_)
                    have zx_66 : x_66.toInt = 8 * i1.toInt := ?o168
                    case o168 =>
                      rw [ex_66]
                      refine i32_mul ?o169 rfl rfl ?o170 ?o171
                      case o169 => decide
                      case o170 => omega
                      case o171 => omega
                    refine lv_iconst (v := 4) hx hb dX10_hear_207 ?o172 ?_
                    case o172 => decide
                    refine lv_iadd hx hb dX10_hear_208 ?_
                    have rg_67 := i32_r x_66
                    refine lv_topi (fun x_68 ex_68 => ?_)
                    have zx_68 : x_68.toInt = x_66.toInt + 4 := ?o173
                    case o173 =>
                      rw [ex_68]
                      refine i32_add rfl ?o174 ?o175 ?o176
                      case o174 => decide
                      case o175 => omega
                      case o176 => omega
                    refine lv_aload_n hx hb dX10_hear_209 rfl (lv_at hl 1 rfl) ?_
                    refine lv_aload_n hx hb dX10_hear_210 rfl (lv_at hl 1 rfl) ?_
                    refine hk_getr hx hb hts hC_10 hown hW (gx.S hM) tt_10 37 ?o177 rfl kw_1180 ⟨rfl, rfl, rfl⟩ ((hM.o gx trivial rfl).2.trans f_x_37) dX10_hear_211 ?_
                    case o177 => decide
                    refine lv_iload_n hx hb dX10_hear_214 rfl (lv_at hl 2 rfl) ?_
                    refine hx_iald hx hb hW hT (grby.S hM) tt_72 rfl ⟨?o178, ?o179⟩ dX10_hear_215 (fun x_69 ex_69 lx_69 ux_69 => ?_)
                    case o178 => omega
                    case o179 => omega
                    have ax_69 : x_69 = byf i1.toNatClampNeg := ex_69.trans (congrFun (hx_afS hM grby rfl af_rby) _)
                    refine lv_aload_n hx hb dX10_hear_216 rfl (lv_at hl 1 rfl) ?_
                    refine hk_getr hx hb hts hC_10 hown hW (gx.S hM) tt_10 38 ?o180 rfl kw_1181 ⟨rfl, rfl, rfl⟩ ((hM.o gx trivial rfl).2.trans f_x_38) dX10_hear_217 ?_
                    case o180 => decide
                    refine lv_iload_n hx hb dX10_hear_220 rfl (lv_at hl 2 rfl) ?_
                    refine hx_iald hx hb hW hT (grag.S hM) tt_73 rfl ⟨?o181, ?o182⟩ dX10_hear_221 (fun x_70 ex_70 lx_70 ux_70 => ?_)
                    case o181 => omega
                    case o182 => omega
                    have ax_70 : x_70 = agf i1.toNatClampNeg := ex_70.trans (congrFun (hx_afS hM grag rfl af_rag) _)
                    obtain rfl : x_11 = x_70 := ex_11.trans ex_70.symm
                    refine lv_aload_n hx hb dX10_hear_222 rfl (lv_at hl 1 rfl) ?_
                    refine hk_getr hx hb hts hC_10 hown hW (gx.S hM) tt_10 43 ?o183 rfl kw_1186 ⟨rfl, rfl, rfl⟩ ((hM.o gx trivial rfl).2.trans f_x_43) dX10_hear_223 ?_
                    case o183 => decide
                    refine lv_iload_n hx hb dX10_hear_226 rfl (lv_at hl 2 rfl) ?_
                    refine hx_iald hx hb hW hT (grfi.S hM) tt_78 rfl ⟨?o184, ?o185⟩ dX10_hear_227 (fun x_71 ex_71 lx_71 ux_71 => ?_)
                    case o184 => omega
                    case o185 => omega
                    have ax_71 : x_71 = flf i1.toNatClampNeg := ex_71.trans (congrFun (hx_afS hM grfi rfl af_rfi) _)
                    refine hx_goi (hx_runV (As := [.int x_69, .int x_11, .int x_71]) (rest := [.int x_68, .ref rfc]) ⟨hx, hb, hml, hown, hts⟩ hW (gx.S hM) tt_10 (T := TX10) (N := 98) rfl (t_X10_bookSum_2 l dC dI dA L_29 h_64 H.size x x_69 x_11 x_71 hT (gx.S hM) qo (gqo.S hM) ((hM.o gx trivial rfl).2.trans f_x_30) qwi (gqwi.S hM) ((hM.o gx trivial rfl).2.trans f_x_31) qdy (gqdy.S hM) ((hM.o gx trivial rfl).2.trans f_x_32) qkd (gqkd.S hM) ((hM.o gx trivial rfl).2.trans f_x_33) qsm (gqsm.S hM) ((hM.o gx trivial rfl).2.trans f_x_34) of (hx_afS hM gqo rfl af_qo) wf (hx_afS hM gqwi rfl af_qwi) df (hx_afS hM gqdy rfl af_qdy) kf (hx_afS hM gqkd rfl af_qkd) sf (hx_afS hM gqsm rfl af_qsm) ln0 ((hM.o gx trivial rfl).1.trans f_x_29)) (cwV 3 hts (hx_gV kw_1573 kw_1570 kw_1572 kw_69 kw_103) rfl rfl rfl (by decide +kernel) ⟨Nat.le_of_ble_eq_true rfl, Nat.le_of_ble_eq_true rfl⟩) rfl hl.1 rfl (Nat.le_of_ble_eq_true rfl) dX10_hear_228 ⟨Nat.le_of_ble_eq_true rfl, Nat.le_of_ble_eq_true rfl⟩) hW (fun r_74 L_72 h_73 H locs p_75 hW => ?_)
                    obtain ⟨hr_76, hT, hs⟩ := p_75
                    replace hT : hx_T T_tb L_72 h_73 := hT
                    replace hs : hx_S T_tb [] L_29 h_64 L_72 h_73 := hs
                    replace f_42 := (hs.o (gx.S hM) trivial rfl).1.trans f_42
                    replace af_rst : h_73.2.1 rst = skf := (funext fun j => (hs.a (grst.S hM) rfl j).1).trans af_rst
                    replace af_rju : h_73.2.1 rju = udf := (funext fun j => (hs.a (grju.S hM) rfl j).1).trans af_rju
                    replace af_qtk : h_73.2.1 qtk = tf := (funext fun j => (hs.a (gqtk.S hM) rfl j).1).trans af_qtk
                    replace fw_20 : h_73.2.1 rsi = w_20 := (funext fun j => (hs.a (grsi.S hM) rfl j).1).trans fw_20
                    replace fw_34 : h_73.2.1 rbe = w_34 := (funext fun j => (hs.a (grbe.S hM) rfl j).1).trans fw_34
                    replace nfa_36 : h_73.2.1 rhe = fa_36 := (funext fun j => (hs.a (grhe.S hM) rfl j).1).trans nfa_36
                    replace nfa_38 : h_73.2.1 rho = fa_38 := (funext fun j => (hs.a (grho.S hM) rfl j).1).trans nfa_38
                    replace nfa_65 : h_73.2.1 rfc = fa_65 := (funext fun j => (hs.a (grfc.S hM) rfl j).1).trans nfa_65
                    replace ex_7 := ex_7.trans (hs.a (grfo.S hM) rfl _).1.symm
                    replace ex_11 := ex_11.trans (hs.a (grag.S hM) rfl _).1.symm
                    replace ex_12 := ex_12.trans (hs.a (grdd.S hM) rfl _).1.symm
                    replace ex_56 := ex_56.trans (hs.a (grnt.S hM) rfl _).1.symm
                    replace ex_63 := ex_63.trans (hs.a (grwt.S hM) rfl _).1.symm
                    replace ex_69 := ex_69.trans (hs.a (grby.S hM) rfl _).1.symm
                    replace ex_71 := ex_71.trans (hs.a (grfi.S hM) rfl _).1.symm
                    replace hM := hM.tr (hs.mono ?o186)
                    case o186 => decide
                    have nS_77 := hr_76; rw [ax_69, ax_11, ax_71] at nS_77
                    have nfa_65O := nfa_65
                    refine hx_iast hx hb hW hT (hx_S.rf (M := [(88, 0)])) (grfc.S hM) tt_88 rfl ⟨?o187, ?o188⟩ rfl (i32_r _) (List.mem_singleton.mpr rfl) dX10_hear_231 (fun H locs h_78 eh_78 hW hT hs => ?_)
                    case o187 => omega
                    case o188 => omega
                    replace f_42 := (hs.o (gx.S hM) trivial rfl).1.trans f_42
                    replace af_rst : h_78.2.1 rst = skf := (funext fun j => (hs.a (grst.S hM) rfl j).1).trans af_rst
                    replace af_rju : h_78.2.1 rju = udf := (funext fun j => (hs.a (grju.S hM) rfl j).1).trans af_rju
                    replace af_qtk : h_78.2.1 qtk = tf := (funext fun j => (hs.a (gqtk.S hM) rfl j).1).trans af_qtk
                    replace fw_20 : h_78.2.1 rsi = w_20 := (funext fun j => (hs.a (grsi.S hM) rfl j).1).trans fw_20
                    replace fw_34 : h_78.2.1 rbe = w_34 := (funext fun j => (hs.a (grbe.S hM) rfl j).1).trans fw_34
                    replace nfa_36 : h_78.2.1 rhe = fa_36 := (funext fun j => (hs.a (grhe.S hM) rfl j).1).trans nfa_36
                    replace nfa_38 : h_78.2.1 rho = fa_38 := (funext fun j => (hs.a (grho.S hM) rfl j).1).trans nfa_38
                    replace ex_7 := ex_7.trans (hs.a (grfo.S hM) rfl _).1.symm
                    replace ex_11 := ex_11.trans (hs.a (grag.S hM) rfl _).1.symm
                    replace ex_12 := ex_12.trans (hs.a (grdd.S hM) rfl _).1.symm
                    replace ex_56 := ex_56.trans (hs.a (grnt.S hM) rfl _).1.symm
                    replace ex_63 := ex_63.trans (hs.a (grwt.S hM) rfl _).1.symm
                    replace ex_69 := ex_69.trans (hs.a (grby.S hM) rfl _).1.symm
                    replace ex_71 := ex_71.trans (hs.a (grfi.S hM) rfl _).1.symm
                    replace hM := hM.tr (hs.mono ?o189)
                    case o189 => decide
                    obtain ⟨fa_79, dfa_79⟩ : ∃ g : Nat → Int32, g = hx_up fa_65 x_68.toNatClampNeg r_74 := ⟨_, rfl⟩
                    have nfa_79 : h_78.2.1 rfc = fa_79 := ?o190
                    case o190 =>
                      rw [eh_78, dfa_79, ← nfa_65O]
                      exact hx_pi_fun _ _ _ _
                    refine lv_aload_n hx hb dX10_hear_232 rfl (lv_at hl 1 rfl) ?_
                    refine hk_getr hx hb hts hC_10 hown hW (gx.S hM) tt_10 53 ?o191 rfl kw_1196 ⟨rfl, rfl, rfl⟩ ((hM.o gx trivial rfl).2.trans f_x_53) dX10_hear_233 ?_
                    case o191 => decide
                    refine lv_bipush (v := 8) hx hb dX10_hear_236 ?o192 ?_
                    case o192 => decide
                    refine lv_iload_n hx hb dX10_hear_238 rfl (lv_at hl 2 rfl) ?_
                    refine lv_imul hx hb dX10_hear_239 ?_
                    refine lv_topi (fun x_80 ex_80 => ?_)
                    have zx_80 : x_80.toInt = 8 * i1.toInt := ?o193
                    case o193 =>
                      rw [ex_80]
                      refine i32_mul ?o194 rfl rfl ?o195 ?o196
                      case o194 => decide
                      case o195 => omega
                      case o196 => omega
                    refine lv_iconst (v := 5) hx hb dX10_hear_240 ?o197 ?_
                    case o197 => decide
                    refine lv_iadd hx hb dX10_hear_241 ?_
                    have rg_81 := i32_r x_80
                    refine lv_topi (fun x_82 ex_82 => ?_)
                    have zx_82 : x_82.toInt = x_80.toInt + 5 := ?o198
                    case o198 =>
                      rw [ex_82]
                      refine i32_add rfl ?o199 ?o200 ?o201
                      case o199 => decide
                      case o200 => omega
                      case o201 => omega
                    refine lv_aload_n hx hb dX10_hear_242 rfl (lv_at hl 1 rfl) ?_
                    refine lv_aload_n hx hb dX10_hear_243 rfl (lv_at hl 1 rfl) ?_
                    refine hk_getr hx hb hts hC_10 hown hW (gx.S hM) tt_10 38 ?o202 rfl kw_1181 ⟨rfl, rfl, rfl⟩ ((hM.o gx trivial rfl).2.trans f_x_38) dX10_hear_244 ?_
                    case o202 => decide
                    refine lv_iload_n hx hb dX10_hear_247 rfl (lv_at hl 2 rfl) ?_
                    refine hx_iald hx hb hW hT (grag.S hM) tt_73 rfl ⟨?o203, ?o204⟩ dX10_hear_248 (fun x_83 ex_83 lx_83 ux_83 => ?_)
                    case o203 => omega
                    case o204 => omega
                    have ax_83 : x_83 = agf i1.toNatClampNeg := ex_83.trans (congrFun (hx_afS hM grag rfl af_rag) _)
                    obtain rfl : x_11 = x_83 := ex_11.trans ex_83.symm
                    refine lv_aload_n hx hb dX10_hear_249 rfl (lv_at hl 1 rfl) ?_
                    refine hk_getr hx hb hts hC_10 hown hW (gx.S hM) tt_10 37 ?o205 rfl kw_1180 ⟨rfl, rfl, rfl⟩ ((hM.o gx trivial rfl).2.trans f_x_37) dX10_hear_250 ?_
                    case o205 => decide
                    refine lv_iload_n hx hb dX10_hear_253 rfl (lv_at hl 2 rfl) ?_
                    refine hx_iald hx hb hW hT (grby.S hM) tt_72 rfl ⟨?o206, ?o207⟩ dX10_hear_254 (fun x_84 ex_84 lx_84 ux_84 => ?_)
                    case o206 => omega
                    case o207 => omega
                    have ax_84 : x_84 = byf i1.toNatClampNeg := ex_84.trans (congrFun (hx_afS hM grby rfl af_rby) _)
                    obtain rfl : x_69 = x_84 := ex_69.trans ex_84.symm
                    refine lv_aload_n hx hb dX10_hear_255 rfl (lv_at hl 1 rfl) ?_
                    refine hk_getr hx hb hts hC_10 hown hW (gx.S hM) tt_10 43 ?o208 rfl kw_1186 ⟨rfl, rfl, rfl⟩ ((hM.o gx trivial rfl).2.trans f_x_43) dX10_hear_256 ?_
                    case o208 => decide
                    refine lv_iload_n hx hb dX10_hear_259 rfl (lv_at hl 2 rfl) ?_
                    refine hx_iald hx hb hW hT (grfi.S hM) tt_78 rfl ⟨?o209, ?o210⟩ dX10_hear_260 (fun x_85 ex_85 lx_85 ux_85 => ?_)
                    case o209 => omega
                    case o210 => omega
                    have ax_85 : x_85 = flf i1.toNatClampNeg := ex_85.trans (congrFun (hx_afS hM grfi rfl af_rfi) _)
                    obtain rfl : x_71 = x_85 := ex_71.trans ex_85.symm
                    refine hx_goi (hx_runV (As := [.int x_11, .int x_69, .int x_71]) (rest := [.int x_82, .ref rfc]) ⟨hx, hb, hml, hown, hts⟩ hW (gx.S hM) tt_10 (T := TX10) (N := 98) rfl (t_X10_bookSum_2 l dC dI dA L_72 h_78 H.size x x_11 x_69 x_71 hT (gx.S hM) qo (gqo.S hM) ((hM.o gx trivial rfl).2.trans f_x_30) qwi (gqwi.S hM) ((hM.o gx trivial rfl).2.trans f_x_31) qdy (gqdy.S hM) ((hM.o gx trivial rfl).2.trans f_x_32) qkd (gqkd.S hM) ((hM.o gx trivial rfl).2.trans f_x_33) qsm (gqsm.S hM) ((hM.o gx trivial rfl).2.trans f_x_34) of (hx_afS hM gqo rfl af_qo) wf (hx_afS hM gqwi rfl af_qwi) df (hx_afS hM gqdy rfl af_qdy) kf (hx_afS hM gqkd rfl af_qkd) sf (hx_afS hM gqsm rfl af_qsm) ln0 ((hM.o gx trivial rfl).1.trans f_x_29)) (cwV 3 hts (hx_gV kw_1573 kw_1570 kw_1572 kw_69 kw_103) rfl rfl rfl (by decide +kernel) ⟨Nat.le_of_ble_eq_true rfl, Nat.le_of_ble_eq_true rfl⟩) rfl hl.1 rfl (Nat.le_of_ble_eq_true rfl) dX10_hear_261 ⟨Nat.le_of_ble_eq_true rfl, Nat.le_of_ble_eq_true rfl⟩) hW (fun r_88 L_86 h_87 H locs p_89 hW => ?_)
                    obtain ⟨hr_90, hT, hs⟩ := p_89
                    replace hT : hx_T T_tb L_86 h_87 := hT
                    replace hs : hx_S T_tb [] L_72 h_78 L_86 h_87 := hs
                    replace f_42 := (hs.o (gx.S hM) trivial rfl).1.trans f_42
                    replace af_rst : h_87.2.1 rst = skf := (funext fun j => (hs.a (grst.S hM) rfl j).1).trans af_rst
                    replace af_rju : h_87.2.1 rju = udf := (funext fun j => (hs.a (grju.S hM) rfl j).1).trans af_rju
                    replace af_qtk : h_87.2.1 qtk = tf := (funext fun j => (hs.a (gqtk.S hM) rfl j).1).trans af_qtk
                    replace fw_20 : h_87.2.1 rsi = w_20 := (funext fun j => (hs.a (grsi.S hM) rfl j).1).trans fw_20
                    replace fw_34 : h_87.2.1 rbe = w_34 := (funext fun j => (hs.a (grbe.S hM) rfl j).1).trans fw_34
                    replace nfa_36 : h_87.2.1 rhe = fa_36 := (funext fun j => (hs.a (grhe.S hM) rfl j).1).trans nfa_36
                    replace nfa_38 : h_87.2.1 rho = fa_38 := (funext fun j => (hs.a (grho.S hM) rfl j).1).trans nfa_38
                    replace nfa_79 : h_87.2.1 rfc = fa_79 := (funext fun j => (hs.a (grfc.S hM) rfl j).1).trans nfa_79
                    replace ex_7 := ex_7.trans (hs.a (grfo.S hM) rfl _).1.symm
                    replace ex_11 := ex_11.trans (hs.a (grag.S hM) rfl _).1.symm
                    replace ex_12 := ex_12.trans (hs.a (grdd.S hM) rfl _).1.symm
                    replace ex_56 := ex_56.trans (hs.a (grnt.S hM) rfl _).1.symm
                    replace ex_63 := ex_63.trans (hs.a (grwt.S hM) rfl _).1.symm
                    replace ex_69 := ex_69.trans (hs.a (grby.S hM) rfl _).1.symm
                    replace ex_71 := ex_71.trans (hs.a (grfi.S hM) rfl _).1.symm
                    replace hM := hM.tr (hs.mono ?o211)
                    case o211 => decide
                    have nS_91 := hr_90; rw [ax_69, ax_11, ax_71] at nS_91
                    refine lv_ineg hx hb dX10_hear_264 ?_
                    refine lv_topi (fun x_92 ex_92 => ?_)
                    have nfa_79O := nfa_79
                    refine hx_iast hx hb hW hT (hx_S.rf (M := [(88, 0)])) (grfc.S hM) tt_88 rfl ⟨?o212, ?o213⟩ rfl (i32_r _) (List.mem_singleton.mpr rfl) dX10_hear_265 (fun H locs h_93 eh_93 hW hT hs => ?_)
                    case o212 => omega
                    case o213 => omega
                    replace f_42 := (hs.o (gx.S hM) trivial rfl).1.trans f_42
                    replace af_rst : h_93.2.1 rst = skf := (funext fun j => (hs.a (grst.S hM) rfl j).1).trans af_rst
                    replace af_rju : h_93.2.1 rju = udf := (funext fun j => (hs.a (grju.S hM) rfl j).1).trans af_rju
                    replace af_qtk : h_93.2.1 qtk = tf := (funext fun j => (hs.a (gqtk.S hM) rfl j).1).trans af_qtk
                    replace fw_20 : h_93.2.1 rsi = w_20 := (funext fun j => (hs.a (grsi.S hM) rfl j).1).trans fw_20
                    replace fw_34 : h_93.2.1 rbe = w_34 := (funext fun j => (hs.a (grbe.S hM) rfl j).1).trans fw_34
                    replace nfa_36 : h_93.2.1 rhe = fa_36 := (funext fun j => (hs.a (grhe.S hM) rfl j).1).trans nfa_36
                    replace nfa_38 : h_93.2.1 rho = fa_38 := (funext fun j => (hs.a (grho.S hM) rfl j).1).trans nfa_38
                    replace ex_7 := ex_7.trans (hs.a (grfo.S hM) rfl _).1.symm
                    replace ex_11 := ex_11.trans (hs.a (grag.S hM) rfl _).1.symm
                    replace ex_12 := ex_12.trans (hs.a (grdd.S hM) rfl _).1.symm
                    replace ex_56 := ex_56.trans (hs.a (grnt.S hM) rfl _).1.symm
                    replace ex_63 := ex_63.trans (hs.a (grwt.S hM) rfl _).1.symm
                    replace ex_69 := ex_69.trans (hs.a (grby.S hM) rfl _).1.symm
                    replace ex_71 := ex_71.trans (hs.a (grfi.S hM) rfl _).1.symm
                    replace hM := hM.tr (hs.mono ?o214)
                    case o214 => decide
                    obtain ⟨fa_94, dfa_94⟩ : ∃ g : Nat → Int32, g = hx_up fa_79 x_82.toNatClampNeg x_92 := ⟨_, rfl⟩
                    have nfa_94 : h_93.2.1 rfc = fa_94 := ?o215
                    case o215 =>
                      rw [eh_93, dfa_94, ← nfa_79O]
                      exact hx_pi_fun _ _ _ _
                    refine lv_aload_n hx hb dX10_hear_266 rfl (lv_at hl 1 rfl) ?_
                    refine hk_getr hx hb hts hC_10 hown hW (gx.S hM) tt_10 53 ?o216 rfl kw_1196 ⟨rfl, rfl, rfl⟩ ((hM.o gx trivial rfl).2.trans f_x_53) dX10_hear_267 ?_
                    case o216 => decide
                    refine lv_bipush (v := 8) hx hb dX10_hear_270 ?o217 ?_
                    case o217 => decide
                    refine lv_iload_n hx hb dX10_hear_272 rfl (lv_at hl 2 rfl) ?_
                    refine lv_imul hx hb dX10_hear_273 ?_
                    refine lv_topi (fun x_95 ex_95 => ?_)
                    have zx_95 : x_95.toInt = 8 * i1.toInt := ?o218
                    case o218 =>
                      rw [ex_95]
                      refine i32_mul ?o219 rfl rfl ?o220 ?o221
                      case o219 => decide
                      case o220 => omega
                      case o221 => omega
                    refine lv_bipush (v := 6) hx hb dX10_hear_274 ?o222 ?_
                    case o222 => decide
                    refine lv_iadd hx hb dX10_hear_276 ?_
                    have rg_96 := i32_r x_95
                    refine lv_topi (fun x_97 ex_97 => ?_)
                    have zx_97 : x_97.toInt = x_95.toInt + 6 := ?o223
                    case o223 =>
                      rw [ex_97]
                      refine i32_add rfl ?o224 ?o225 ?o226
                      case o224 => decide
                      case o225 => omega
                      case o226 => omega
                    refine lv_aload_n hx hb dX10_hear_277 rfl (lv_at hl 1 rfl) ?_
                    refine lv_aload_n hx hb dX10_hear_278 rfl (lv_at hl 1 rfl) ?_
                    refine hk_getr hx hb hts hC_10 hown hW (gx.S hM) tt_10 37 ?o227 rfl kw_1180 ⟨rfl, rfl, rfl⟩ ((hM.o gx trivial rfl).2.trans f_x_37) dX10_hear_279 ?_
                    case o227 => decide
                    refine lv_iload_n hx hb dX10_hear_282 rfl (lv_at hl 2 rfl) ?_
                    refine hx_iald hx hb hW hT (grby.S hM) tt_72 rfl ⟨?o228, ?o229⟩ dX10_hear_283 (fun x_98 ex_98 lx_98 ux_98 => ?_)
                    case o228 => omega
                    case o229 => omega
                    have ax_98 : x_98 = byf i1.toNatClampNeg := ex_98.trans (congrFun (hx_afS hM grby rfl af_rby) _)
                    obtain rfl : x_69 = x_98 := ex_69.trans ex_98.symm
                    refine lv_aload_n hx hb dX10_hear_284 rfl (lv_at hl 1 rfl) ?_
                    refine hk_getr hx hb hts hC_10 hown hW (gx.S hM) tt_10 38 ?o230 rfl kw_1181 ⟨rfl, rfl, rfl⟩ ((hM.o gx trivial rfl).2.trans f_x_38) dX10_hear_285 ?_
                    case o230 => decide
                    refine lv_iload_n hx hb dX10_hear_288 rfl (lv_at hl 2 rfl) ?_
                    refine hx_iald hx hb hW hT (grag.S hM) tt_73 rfl ⟨?o231, ?o232⟩ dX10_hear_289 (fun x_99 ex_99 lx_99 ux_99 => ?_)
                    case o231 => omega
                    case o232 => omega
                    have ax_99 : x_99 = agf i1.toNatClampNeg := ex_99.trans (congrFun (hx_afS hM grag rfl af_rag) _)
                    obtain rfl : x_11 = x_99 := ex_11.trans ex_99.symm
                    refine lv_aload_n hx hb dX10_hear_290 rfl (lv_at hl 1 rfl) ?_
                    refine hk_getr hx hb hts hC_10 hown hW (gx.S hM) tt_10 43 ?o233 rfl kw_1186 ⟨rfl, rfl, rfl⟩ ((hM.o gx trivial rfl).2.trans f_x_43) dX10_hear_291 ?_
                    case o233 => decide
                    refine lv_iload_n hx hb dX10_hear_294 rfl (lv_at hl 2 rfl) ?_
                    refine hx_iald hx hb hW hT (grfi.S hM) tt_78 rfl ⟨?o234, ?o235⟩ dX10_hear_295 (fun x_100 ex_100 lx_100 ux_100 => ?_)
                    case o234 => omega
                    case o235 => omega
                    have ax_100 : x_100 = flf i1.toNatClampNeg := ex_100.trans (congrFun (hx_afS hM grfi rfl af_rfi) _)
                    obtain rfl : x_71 = x_100 := ex_71.trans ex_100.symm
                    refine hx_goi (hx_runV (As := [.int x_69, .int x_11, .int x_71]) (rest := [.int x_97, .ref rfc]) ⟨hx, hb, hml, hown, hts⟩ hW (gx.S hM) tt_10 (T := TX10) (N := 98) rfl (t_X10_alike_2 l dC dI dA L_86 h_93 H.size x x_69 x_11 x_71 hT (gx.S hM) qo (gqo.S hM) ((hM.o gx trivial rfl).2.trans f_x_30) qwi (gqwi.S hM) ((hM.o gx trivial rfl).2.trans f_x_31) qdy (gqdy.S hM) ((hM.o gx trivial rfl).2.trans f_x_32) qkd (gqkd.S hM) ((hM.o gx trivial rfl).2.trans f_x_33) qsm (gqsm.S hM) ((hM.o gx trivial rfl).2.trans f_x_34) qtk (gqtk.S hM) ((hM.o gx trivial rfl).2.trans f_x_35) of (hx_afS hM gqo rfl af_qo) wf (hx_afS hM gqwi rfl af_qwi) df (hx_afS hM gqdy rfl af_qdy) kf (hx_afS hM gqkd rfl af_qkd) sf (hx_afS hM gqsm rfl af_qsm) tf af_qtk ln0 ((hM.o gx trivial rfl).1.trans f_x_29) bf hBD hDY ⟨?o236, ?o237⟩) (cwV 3 hts (hx_gV kw_1577 kw_1574 kw_1576 kw_70 kw_103) rfl rfl rfl (by decide +kernel) ⟨Nat.le_of_ble_eq_true rfl, Nat.le_of_ble_eq_true rfl⟩) rfl hl.1 rfl (Nat.le_of_ble_eq_true rfl) dX10_hear_296 ⟨Nat.le_of_ble_eq_true rfl, Nat.le_of_ble_eq_true rfl⟩) hW (fun r_103 L_101 h_102 H locs p_104 hW => ?_)
                    case o236 => omega
                    case o237 => omega
                    obtain ⟨hr_105, hT, hs⟩ := p_104
                    replace hT : hx_T T_tb L_101 h_102 := hT
                    replace hs : hx_S T_tb [(71, 0)] L_86 h_93 L_101 h_102 := hs
                    replace f_42 := (hs.o (gx.S hM) trivial rfl).1.trans f_42
                    replace af_rst : h_102.2.1 rst = skf := (funext fun j => (hs.a (grst.S hM) rfl j).1).trans af_rst
                    replace af_rju : h_102.2.1 rju = udf := (funext fun j => (hs.a (grju.S hM) rfl j).1).trans af_rju
                    replace fw_20 : h_102.2.1 rsi = w_20 := (funext fun j => (hs.a (grsi.S hM) rfl j).1).trans fw_20
                    replace fw_34 : h_102.2.1 rbe = w_34 := (funext fun j => (hs.a (grbe.S hM) rfl j).1).trans fw_34
                    replace nfa_36 : h_102.2.1 rhe = fa_36 := (funext fun j => (hs.a (grhe.S hM) rfl j).1).trans nfa_36
                    replace nfa_38 : h_102.2.1 rho = fa_38 := (funext fun j => (hs.a (grho.S hM) rfl j).1).trans nfa_38
                    replace nfa_94 : h_102.2.1 rfc = fa_94 := (funext fun j => (hs.a (grfc.S hM) rfl j).1).trans nfa_94
                    replace ex_7 := ex_7.trans (hs.a (grfo.S hM) rfl _).1.symm
                    replace ex_11 := ex_11.trans (hs.a (grag.S hM) rfl _).1.symm
                    replace ex_12 := ex_12.trans (hs.a (grdd.S hM) rfl _).1.symm
                    replace ex_56 := ex_56.trans (hs.a (grnt.S hM) rfl _).1.symm
                    replace ex_63 := ex_63.trans (hs.a (grwt.S hM) rfl _).1.symm
                    replace ex_69 := ex_69.trans (hs.a (grby.S hM) rfl _).1.symm
                    replace ex_71 := ex_71.trans (hs.a (grfi.S hM) rfl _).1.symm
                    replace hM := hM.tr (hs.mono ?o238)
                    case o238 => decide
                    have nS_106 := hr_105; rw [ax_69, ax_11, ax_71] at nS_106
                    have nfa_94O := nfa_94
                    refine hx_iast hx hb hW hT (hx_S.rf (M := [(88, 0)])) (grfc.S hM) tt_88 rfl ⟨?o239, ?o240⟩ rfl (i32_r _) (List.mem_singleton.mpr rfl) dX10_hear_299 (fun H locs h_107 eh_107 hW hT hs => ?_)
                    case o239 => omega
                    case o240 => omega
                    replace f_42 := (hs.o (gx.S hM) trivial rfl).1.trans f_42
                    replace af_rst : h_107.2.1 rst = skf := (funext fun j => (hs.a (grst.S hM) rfl j).1).trans af_rst
                    replace af_rju : h_107.2.1 rju = udf := (funext fun j => (hs.a (grju.S hM) rfl j).1).trans af_rju
                    replace fw_20 : h_107.2.1 rsi = w_20 := (funext fun j => (hs.a (grsi.S hM) rfl j).1).trans fw_20
                    replace fw_34 : h_107.2.1 rbe = w_34 := (funext fun j => (hs.a (grbe.S hM) rfl j).1).trans fw_34
                    replace nfa_36 : h_107.2.1 rhe = fa_36 := (funext fun j => (hs.a (grhe.S hM) rfl j).1).trans nfa_36
                    replace nfa_38 : h_107.2.1 rho = fa_38 := (funext fun j => (hs.a (grho.S hM) rfl j).1).trans nfa_38
                    replace ex_7 := ex_7.trans (hs.a (grfo.S hM) rfl _).1.symm
                    replace ex_11 := ex_11.trans (hs.a (grag.S hM) rfl _).1.symm
                    replace ex_12 := ex_12.trans (hs.a (grdd.S hM) rfl _).1.symm
                    replace ex_56 := ex_56.trans (hs.a (grnt.S hM) rfl _).1.symm
                    replace ex_63 := ex_63.trans (hs.a (grwt.S hM) rfl _).1.symm
                    replace ex_69 := ex_69.trans (hs.a (grby.S hM) rfl _).1.symm
                    replace ex_71 := ex_71.trans (hs.a (grfi.S hM) rfl _).1.symm
                    replace hM := hM.tr (hs.mono ?o241)
                    case o241 => decide
                    obtain ⟨fa_108, dfa_108⟩ : ∃ g : Nat → Int32, g = hx_up fa_94 x_97.toNatClampNeg r_103 := ⟨_, rfl⟩
                    have nfa_108 : h_107.2.1 rfc = fa_108 := ?o242
                    case o242 =>
                      rw [eh_107, dfa_108, ← nfa_94O]
                      exact hx_pi_fun _ _ _ _
                    refine lv_aload_n hx hb dX10_hear_300 rfl (lv_at hl 1 rfl) ?_
                    refine hk_getr hx hb hts hC_10 hown hW (gx.S hM) tt_10 53 ?o243 rfl kw_1196 ⟨rfl, rfl, rfl⟩ ((hM.o gx trivial rfl).2.trans f_x_53) dX10_hear_301 ?_
                    case o243 => decide
                    refine lv_bipush (v := 8) hx hb dX10_hear_304 ?o244 ?_
                    case o244 => decide
                    refine lv_iload_n hx hb dX10_hear_306 rfl (lv_at hl 2 rfl) ?_
                    refine lv_imul hx hb dX10_hear_307 ?_
                    refine lv_topi (fun x_109 ex_109 => ?_)
                    have zx_109 : x_109.toInt = 8 * i1.toInt := ?o245
                    case o245 =>
                      rw [ex_109]
                      refine i32_mul ?o246 rfl rfl ?o247 ?o248
                      case o246 => decide
                      case o247 => omega
                      case o248 => omega
                    refine lv_bipush (v := 7) hx hb dX10_hear_308 ?o249 ?_
                    case o249 => decide
                    refine lv_iadd hx hb dX10_hear_310 ?_
                    have rg_110 := i32_r x_109
                    refine lv_topi (fun x_111 ex_111 => ?_)
                    have zx_111 : x_111.toInt = x_109.toInt + 7 := ?o250
                    case o250 =>
                      rw [ex_111]
                      refine i32_add rfl ?o251 ?o252 ?o253
                      case o251 => decide
                      case o252 => omega
                      case o253 => omega
                    refine lv_aload_n hx hb dX10_hear_311 rfl (lv_at hl 1 rfl) ?_
                    refine hk_getr hx hb hts hC_10 hown hW (gx.S hM) tt_10 39 ?o254 rfl kw_1182 ⟨rfl, rfl, rfl⟩ ((hM.o gx trivial rfl).2.trans f_x_39) dX10_hear_312 ?_
                    case o254 => decide
                    refine lv_iload_n hx hb dX10_hear_315 rfl (lv_at hl 2 rfl) ?_
                    refine hx_iald hx hb hW hT (grsm.S hM) tt_74 rfl ⟨?o255, ?o256⟩ dX10_hear_316 (fun x_112 ex_112 lx_112 ux_112 => ?_)
                    case o255 => omega
                    case o256 => omega
                    have ax_112 : x_112 = smf i1.toNatClampNeg := ex_112.trans (congrFun (hx_afS hM grsm rfl af_rsm) _)
                    have nfa_108O := nfa_108
                    refine hx_iast hx hb hW hT (hx_S.rf (M := [(88, 0)])) (grfc.S hM) tt_88 rfl ⟨?o257, ?o258⟩ rfl (i32_r _) (List.mem_singleton.mpr rfl) dX10_hear_317 (fun H locs h_113 eh_113 hW hT hs => ?_)
                    case o257 => omega
                    case o258 => omega
                    replace f_42 := (hs.o (gx.S hM) trivial rfl).1.trans f_42
                    replace af_rst : h_113.2.1 rst = skf := (funext fun j => (hs.a (grst.S hM) rfl j).1).trans af_rst
                    replace af_rju : h_113.2.1 rju = udf := (funext fun j => (hs.a (grju.S hM) rfl j).1).trans af_rju
                    replace fw_20 : h_113.2.1 rsi = w_20 := (funext fun j => (hs.a (grsi.S hM) rfl j).1).trans fw_20
                    replace fw_34 : h_113.2.1 rbe = w_34 := (funext fun j => (hs.a (grbe.S hM) rfl j).1).trans fw_34
                    replace nfa_36 : h_113.2.1 rhe = fa_36 := (funext fun j => (hs.a (grhe.S hM) rfl j).1).trans nfa_36
                    replace nfa_38 : h_113.2.1 rho = fa_38 := (funext fun j => (hs.a (grho.S hM) rfl j).1).trans nfa_38
                    replace ex_7 := ex_7.trans (hs.a (grfo.S hM) rfl _).1.symm
                    replace ex_11 := ex_11.trans (hs.a (grag.S hM) rfl _).1.symm
                    replace ex_12 := ex_12.trans (hs.a (grdd.S hM) rfl _).1.symm
                    replace ex_56 := ex_56.trans (hs.a (grnt.S hM) rfl _).1.symm
                    replace ex_63 := ex_63.trans (hs.a (grwt.S hM) rfl _).1.symm
                    replace ex_69 := ex_69.trans (hs.a (grby.S hM) rfl _).1.symm
                    replace ex_71 := ex_71.trans (hs.a (grfi.S hM) rfl _).1.symm
                    replace ex_112 := ex_112.trans (hs.a (grsm.S hM) rfl _).1.symm
                    replace hM := hM.tr (hs.mono ?o259)
                    case o259 => decide
                    obtain ⟨fa_114, dfa_114⟩ : ∃ g : Nat → Int32, g = hx_up fa_108 x_111.toNatClampNeg x_112 := ⟨_, rfl⟩
                    have nfa_114 : h_113.2.1 rfc = fa_114 := ?o260
                    case o260 =>
                      rw [eh_113, dfa_114, ← nfa_108O]
                      exact hx_pi_fun _ _ _ _
                    refine lv_aload_n hx hb dX10_hear_318 rfl (lv_at hl 1 rfl) ?_
                    refine hk_getr hx hb hts hC_10 hown hW (gx.S hM) tt_10 51 ?o261 rfl kw_1194 ⟨rfl, rfl, rfl⟩ ((hM.o gx trivial rfl).2.trans f_x_51) dX10_hear_319 ?_
                    case o261 => decide
                    refine lv_iload_n hx hb dX10_hear_322 rfl (lv_at hl 2 rfl) ?_
                    refine lv_aload_n hx hb dX10_hear_323 rfl (lv_at hl 1 rfl) ?_
                    refine lv_iload_n hx hb dX10_hear_324 rfl (lv_at hl 2 rfl) ?_
                    refine lv_aload_n hx hb dX10_hear_325 rfl (lv_at hl 1 rfl) ?_
                    refine hk_getr hx hb hts hC_10 hown hW (gx.S hM) tt_10 44 ?o262 rfl kw_1187 ⟨rfl, rfl, rfl⟩ ((hM.o gx trivial rfl).2.trans f_x_44) dX10_hear_326 ?_
                    case o262 => decide
                    refine lv_iload_n hx hb dX10_hear_329 rfl (lv_at hl 2 rfl) ?_
                    refine hx_iald hx hb hW hT (grpl.S hM) tt_79 rfl ⟨?o263, ?o264⟩ dX10_hear_330 (fun x_115 ex_115 lx_115 ux_115 => ?_)
                    case o263 => omega
                    case o264 => omega
                    have ax_115 : x_115 = plf i1.toNatClampNeg := ex_115.trans (congrFun (hx_afS hM grpl rfl af_rpl) _)
                    have hpl := hPL i1.toInt ?o265 ?o266
                    case o265 => omega
                    case o266 => omega
                    have hpl2 : 0 ≤ x_115.toInt ∧ x_115.toInt ≤ a0.toInt := ?o267
                    case o267 =>
                      rw [ax_115]
                      exact hpl
                    obtain ⟨⟨hs1, _⟩, hs2, hs3⟩ := hCA.2 x_115.toInt.toNat (by omega)
                    refine hx_goi (hx_runV (As := [.int i1, .int x_115]) (rest := [.int i1, .ref rju]) ⟨hx, hb, hml, hown, hts⟩ hW (gx.S hM) tt_10 (T := TX10) (N := 98) rfl (t_X10_judges_v l dC dI dA L_101 h_113 H.size x i1 x_115 hT (gx.S hM) rby (grby.S hM) ((hM.o gx trivial rfl).2.trans f_x_37) rag (grag.S hM) ((hM.o gx trivial rfl).2.trans f_x_38) rfi (grfi.S hM) ((hM.o gx trivial rfl).2.trans f_x_43) rsm (grsm.S hM) ((hM.o gx trivial rfl).2.trans f_x_39) rrl (grrl.S hM) ((hM.o gx trivial rfl).2.trans f_x_3) rfr (grfr.S hM) ((hM.o gx trivial rfl).2.trans f_x_40) rbn (grbn.S hM) ((hM.o gx trivial rfl).2.trans f_x_21) rpn (grpn.S hM) ((hM.o gx trivial rfl).2.trans f_x_4) rpr (grpr.S hM) ((hM.o gx trivial rfl).2.trans f_x_5) rst (grst.S hM) ((hM.o gx trivial rfl).2.trans f_x_66) rfc (grfc.S hM) ((hM.o gx trivial rfl).2.trans f_x_53) byf (hx_afS hM grby rfl af_rby) agf (hx_afS hM grag rfl af_rag) flf (hx_afS hM grfi rfl af_rfi) smf (hx_afS hM grsm rfl af_rsm) rlf (hx_afS hM grrl rfl af_rrl) frf (hx_afS hM grfr rfl af_rfr) bnf (hx_afS hM grbn rfl af_rbn) psf (hx_afS hM grpn rfl af_rpn) prf (hx_afS hM grpr rfl af_rpr) skf af_rst fa_114 nfa_114 c0 ((hM.o gx trivial rfl).1.trans f_x_36) ⟨?o268, ?o269⟩ ⟨?o270, ?o271⟩ (A x_115.toInt.toNat).2.1 (fun k hk => by rw [← hs2]; show _ = (if k < 13 then _ else 0); rw [if_pos (by omega)]) (hAB _).1 (A x_115.toInt.toNat).2.2 (hAB _).2 hs3 hs1) (cwV 2 hts (hx_gV kw_1617 kw_1614 kw_1616 kw_77 kw_103) rfl rfl rfl (by decide +kernel) ⟨Nat.le_of_ble_eq_true rfl, Nat.le_of_ble_eq_true rfl⟩) rfl hl.1 rfl (Nat.le_of_ble_eq_true rfl) dX10_hear_331 ⟨Nat.le_of_ble_eq_true rfl, Nat.le_of_ble_eq_true rfl⟩) hW (fun r_118 L_116 h_117 H locs p_119 hW => ?_)
                    case o268 => omega
                    case o269 => omega
                    case o270 => omega
                    case o271 => omega
                    obtain ⟨hr_120, hT, hs⟩ := p_119
                    replace hT : hx_T T_tb L_116 h_117 := hT
                    replace hs : hx_S T_tb [(99, 0)] L_101 h_113 L_116 h_117 := hs
                    replace f_42 := (hs.o (gx.S hM) trivial rfl).1.trans f_42
                    replace af_rju : h_117.2.1 rju = udf := (funext fun j => (hs.a (grju.S hM) rfl j).1).trans af_rju
                    replace fw_20 : h_117.2.1 rsi = w_20 := (funext fun j => (hs.a (grsi.S hM) rfl j).1).trans fw_20
                    replace fw_34 : h_117.2.1 rbe = w_34 := (funext fun j => (hs.a (grbe.S hM) rfl j).1).trans fw_34
                    replace nfa_36 : h_117.2.1 rhe = fa_36 := (funext fun j => (hs.a (grhe.S hM) rfl j).1).trans nfa_36
                    replace nfa_38 : h_117.2.1 rho = fa_38 := (funext fun j => (hs.a (grho.S hM) rfl j).1).trans nfa_38
                    replace nfa_114 : h_117.2.1 rfc = fa_114 := (funext fun j => (hs.a (grfc.S hM) rfl j).1).trans nfa_114
                    replace ex_7 := ex_7.trans (hs.a (grfo.S hM) rfl _).1.symm
                    replace ex_11 := ex_11.trans (hs.a (grag.S hM) rfl _).1.symm
                    replace ex_12 := ex_12.trans (hs.a (grdd.S hM) rfl _).1.symm
                    replace ex_56 := ex_56.trans (hs.a (grnt.S hM) rfl _).1.symm
                    replace ex_63 := ex_63.trans (hs.a (grwt.S hM) rfl _).1.symm
                    replace ex_69 := ex_69.trans (hs.a (grby.S hM) rfl _).1.symm
                    replace ex_71 := ex_71.trans (hs.a (grfi.S hM) rfl _).1.symm
                    replace ex_112 := ex_112.trans (hs.a (grsm.S hM) rfl _).1.symm
                    replace ex_115 := ex_115.trans (hs.a (grpl.S hM) rfl _).1.symm
                    replace hM := hM.tr (hs.mono ?o272)
                    case o272 => decide
                    have hJ9 := hr_120.1; rw [ax_115] at hJ9
                    have af_rjuO := af_rju
                    refine hx_iast hx hb hW hT (hx_S.rf (M := [(86, 0)])) (grju.S hM) tt_86 rfl ⟨?o273, ?o274⟩ rfl ⟨?o275, ?o276⟩ (List.mem_singleton.mpr rfl) dX10_hear_334 (fun H locs h_121 eh_121 hW hT hs => ?_)
                    case o273 => omega
                    case o274 => omega
                    case o275 => omega
                    case o276 => omega
                    replace f_42 := (hs.o (gx.S hM) trivial rfl).1.trans f_42
                    replace fw_20 : h_121.2.1 rsi = w_20 := (funext fun j => (hs.a (grsi.S hM) rfl j).1).trans fw_20
                    replace fw_34 : h_121.2.1 rbe = w_34 := (funext fun j => (hs.a (grbe.S hM) rfl j).1).trans fw_34
                    replace nfa_36 : h_121.2.1 rhe = fa_36 := (funext fun j => (hs.a (grhe.S hM) rfl j).1).trans nfa_36
                    replace nfa_38 : h_121.2.1 rho = fa_38 := (funext fun j => (hs.a (grho.S hM) rfl j).1).trans nfa_38
                    replace nfa_114 : h_121.2.1 rfc = fa_114 := (funext fun j => (hs.a (grfc.S hM) rfl j).1).trans nfa_114
                    replace ex_7 := ex_7.trans (hs.a (grfo.S hM) rfl _).1.symm
                    replace ex_11 := ex_11.trans (hs.a (grag.S hM) rfl _).1.symm
                    replace ex_12 := ex_12.trans (hs.a (grdd.S hM) rfl _).1.symm
                    replace ex_56 := ex_56.trans (hs.a (grnt.S hM) rfl _).1.symm
                    replace ex_63 := ex_63.trans (hs.a (grwt.S hM) rfl _).1.symm
                    replace ex_69 := ex_69.trans (hs.a (grby.S hM) rfl _).1.symm
                    replace ex_71 := ex_71.trans (hs.a (grfi.S hM) rfl _).1.symm
                    replace ex_112 := ex_112.trans (hs.a (grsm.S hM) rfl _).1.symm
                    replace ex_115 := ex_115.trans (hs.a (grpl.S hM) rfl _).1.symm
                    replace hM := hM.tr (hs.mono ?o277)
                    case o277 => decide
                    obtain ⟨fa_122, dfa_122⟩ : ∃ g : Nat → Int32, g = hx_up udf i1.toNatClampNeg r_118 := ⟨_, rfl⟩
                    have nfa_122 : h_121.2.1 rju = fa_122 := ?o278
                    case o278 =>
                      rw [eh_121, dfa_122, ← af_rjuO]
                      exact hx_pi_fun _ _ _ _
                    refine lv_aload_n hx hb dX10_hear_335 rfl (lv_at hl 1 rfl) ?_
                    refine hk_getr hx hb hts hC_10 hown hW (gx.S hM) tt_10 51 ?o279 rfl kw_1194 ⟨rfl, rfl, rfl⟩ ((hM.o gx trivial rfl).2.trans f_x_51) dX10_hear_336 ?_
                    case o279 => decide
                    refine lv_iload_n hx hb dX10_hear_339 rfl (lv_at hl 2 rfl) ?_
                    refine hx_iald hx hb hW hT (grju.S hM) tt_86 rfl ⟨?o280, ?o281⟩ dX10_hear_340 (fun x_123 ex_123 lx_123 ux_123 => ?_)
                    case o280 => omega
                    case o281 => omega
                    have ax_123 : x_123 = fa_122 i1.toNatClampNeg := ex_123.trans (congrFun nfa_122 _)
                    have exv9 : x_123 = r_118 := ?o282
                    case o282 =>
                      rw [ax_123, dfa_122]
                      exact hx_up_at
                    refine hx_reti hx hb hr hlk hW ⟨⟨x_40, fa_36, fa_122, fa_38, fa_114, w_34, f_42, nfa_36, nfa_122, nfa_38, nfa_114, fw_34, ⟨Or.inr ⟨⟨⟨?o283, ?o284⟩, (by rw [show fof i1.toInt.toNat = x_7 from ax_7.symm]; omega), (by rw [show hrf i1.toInt.toNat = x_9 from ax_9.symm]; omega), (by rw [show ddf (agf i1.toInt.toNat).toInt.toNat = x_12 from hdd9.symm]; omega), ?o285, (by have h2 := hr_19.1; omega)⟩, (by rw [exv9]; exact hJ9), (by rw [exv9]; exact hr_120.2), ?o286, dfa_36, (by rw [exv9]; exact dfa_122), (by rw [dfa_38]; congr 1)⟩, Or.inr ⟨(by rw [exv9]; have := hr_120.2; omega), (hv_CV_i dfa_46 dfa_52 dfa_59 dfa_65 dfa_79 dfa_94 dfa_108 dfa_114 (by unfold Int32.toNatClampNeg; omega) (by unfold Int32.toNatClampNeg; omega) (by unfold Int32.toNatClampNeg; omega) (by unfold Int32.toNatClampNeg; omega) (by unfold Int32.toNatClampNeg; omega) (by unfold Int32.toNatClampNeg; omega) (by unfold Int32.toNatClampNeg; omega) (by unfold Int32.toNatClampNeg; omega) ax_56 ax_63 (Int32.toInt_inj.mp nS_77) (by rw [ex_92, Int32.toInt_inj.mp nS_91]) nS_106 ax_112), (by obtain ⟨b0, b1, b2, hb, he⟩ := hr_33; rw [hp9, show r_17.toInt.toNat = (hv_fs jjf ddf kkf (byf i1.toNatClampNeg).toNatClampNeg (agf i1.toNatClampNeg).toNatClampNeg pn0.toInt.toNat).length by have h2 := hr_19.1; omega] at hb; exact ⟨b0, b1, b2, hb, he⟩)⟩⟩⟩, hT, hM⟩ dX10_hear_341
                    case o283 => omega
                    case o284 => omega
                    case o285 => omega
                    case o286 => omega
                  refine hb_if_eq (zx := x_56.toInt) (tgt := 180) hx hb rfl dX10_hear_173 ?o287 (fun c_124 => ?_) (fun c_124 => ?_)
                  case o287 => decide
                  · skip
                    refine lv_iconst (v := 0) hx hb dX10_hear_180 ?o288 ?_
                    case o288 => decide
                    have zj_181 : (0 : Int32).toInt = 0 := ?o289
                    case o289 => decide
                    refine jn_181 (0 : Int32) ls ?o290 ?o291 ?o292 hl
                    case o290 => decide
                    case o291 => decide
                    case o292 => omega
                  · skip
                    refine lv_iconst (v := 1) hx hb dX10_hear_176 ?o293 ?_
                    case o293 => decide
                    refine lv_goto (tgt := 181) hx hb dX10_hear_177 ?o294 ?_
                    case o294 => decide
                    have zj_181 : (1 : Int32).toInt = 1 := ?o295
                    case o295 => decide
                    refine jn_181 (1 : Int32) ls ?o296 ?o297 ?o298 hl
                    case o296 => decide
                    case o297 => decide
                    case o298 => omega
                refine hb_if_eq (zx := i3.toInt) (tgt := 155) hx hb rfl dX10_hear_148 ?o299 (fun c_125 => ?_) (fun c_125 => ?_)
                case o299 => decide
                · skip
                  refine lv_iconst (v := 0) hx hb dX10_hear_155 ?o300 ?_
                  case o300 => decide
                  have zj_156 : (0 : Int32).toInt = 0 := ?o301
                  case o301 => decide
                  refine jn_156 (0 : Int32) ls ?o302 ?o303 ?o304 hl
                  case o302 => decide
                  case o303 => decide
                  case o304 => omega
                · skip
                  refine lv_iconst (v := 1) hx hb dX10_hear_151 ?o305 ?_
                  case o305 => decide
                  refine lv_goto (tgt := 156) hx hb dX10_hear_152 ?o306 ?_
                  case o306 => decide
                  have zj_156 : (1 : Int32).toInt = 1 := ?o307
                  case o307 => decide
                  refine jn_156 (1 : Int32) ls ?o308 ?o309 ?o310 hl
                  case o308 => decide
                  case o309 => decide
                  case o310 => omega
              refine hb_if_eq (zx := i2.toInt) (tgt := 135) hx hb rfl dX10_hear_128 ?o311 (fun c_126 => ?_) (fun c_126 => ?_)
              case o311 => decide
              · skip
                refine lv_iconst (v := 0) hx hb dX10_hear_135 ?o312 ?_
                case o312 => decide
                have zj_136 : (0 : Int32).toInt = 0 := ?o313
                case o313 => decide
                refine jn_136 (0 : Int32) ls ?o314 ?o315 ?o316 hl
                case o314 => decide
                case o315 => decide
                case o316 => omega
              · skip
                refine lv_iconst (v := 1) hx hb dX10_hear_131 ?o317 ?_
                case o317 => decide
                refine lv_goto (tgt := 136) hx hb dX10_hear_132 ?o318 ?_
                case o318 => decide
                have zj_136 : (1 : Int32).toInt = 1 := ?o319
                case o319 => decide
                refine jn_136 (1 : Int32) ls ?o320 ?o321 ?o322 hl
                case o320 => decide
                case o321 => decide
                case o322 => omega
            · skip
              refine lv_iconst (v := -1) hx hb dX10_hear_62 ?o323 ?_
              case o323 => decide
              refine hx_reti hx hb hr hlk hW ⟨⟨m0, hrf, udf, hof, rf, bnh, f_x_57, af_rhe, af_rju, af_rho, af_rfc, af_rbe, ⟨Or.inl ⟨?o324, (fun hc => by have h1 := hc.2.2.2.2.2; have h2 := hr_19.1; omega), rfl, rfl, rfl, rfl⟩, Or.inl ⟨?o325, rfl, rfl⟩⟩⟩, hT, hM⟩ dX10_hear_63
              case o324 => decide
              case o325 => decide
          · skip
            refine lv_iconst (v := -1) hx hb dX10_hear_47 ?o326 ?_
            case o326 => decide
            refine hx_reti hx hb hr hlk hW ⟨⟨m0, hrf, udf, hof, rf, bnh, f_x_57, af_rhe, af_rju, af_rho, af_rfc, af_rbe, ⟨Or.inl ⟨?o327, (fun hc => by have h1 := hc.2.2.2.2.1; omega), rfl, rfl, rfl, rfl⟩, Or.inl ⟨?o328, rfl, rfl⟩⟩⟩, hT, hM⟩ dX10_hear_48
            case o327 => decide
            case o328 => decide
end
section
/-! NEW ROWS: what is stored into them is nobody else's -/
theorem hx_S_pn {tb : List hx_d} {M : hx_m} {L L1 : List Nat} {h h1 h2 : hx_h} {q k : Nat} {x : Int32} (hM : hx_S tb M L h L1 h1) (nq : ∀ a ∈ L, a ≠ q) (e : h2 = hx_pi h1 q k x) : hx_S tb M L h L1 h2 := by
  subst e
  refine ⟨fun a ha => hM.1 a ha, fun a ha j hj => ?_⟩
  obtain ⟨y1, y2⟩ := hM.2 a ha j hj
  exact ⟨by rw [hx_pi_ne _ _ (fun z => nq a ha z.1)]; exact y1, y2⟩
theorem hv_bn3 {f f1 f2 f3 : Nat → Int32} {v : Int32} (d1 : f1 = hx_up f (0 : Int32).toNatClampNeg v) (d2 : f2 = hx_up f1 (1 : Int32).toNatClampNeg v) (d3 : f3 = hx_up f2 (2 : Int32).toNatClampNeg v) : f3 0 = v ∧ f3 1 = v ∧ f3 2 = v := by
  have k0 : (0 : Int32).toNatClampNeg = 0 := by decide
  have k1 : (1 : Int32).toNatClampNeg = 1 := by decide
  have k2 : (2 : Int32).toNatClampNeg = 2 := by decide
  rw [k0] at d1; rw [k1] at d2; rw [k2] at d3
  subst d1; subst d2; subst d3
  refine ⟨?_, ?_, ?_⟩
  · rw [hx_up_ne (by omega), hx_up_ne (by omega), hx_up_at]
  · rw [hx_up_ne (by omega), hx_up_at]
  · rw [hx_up_at]
/-! HEARD: both sides alike -/
theorem hv_HC_e {ff ff' hf df df' agf : Nat → Int32} {n i d len len' : Int} (e1 : hx_eqN 100 ff ff') (e2 : hx_eqN 40 df df') (ha : ∀ k, k < 100 → 0 ≤ (agf k).toInt ∧ (agf k).toInt ≤ 39) (hn : n ≤ 100) (el : len = len') : hv_HC ff hf df agf n i d len ↔ hv_HC ff' hf df' agf n i d len' := by
  by_cases hi : 0 ≤ i ∧ i < n
  · have k1 := e1 i.toNat (by omega)
    have b := ha i.toNat (by omega)
    have k2 := e2 (agf i.toNat).toInt.toNat (by omega)
    unfold hv_HC
    rw [k1, k2, el]
  · exact ⟨fun h => absurd h.1 hi, fun h => absurd h.1 hi⟩
theorem hv_fs_e {jf jf' df df' kf : Nat → Int32} {p q : Nat} (ej : hx_eqN 40 jf jf') (ed : hx_eqN 40 df df') : ∀ n, n ≤ 40 → hv_fs jf df kf p q n = hv_fs jf' df' kf p q n
  | 0, _ => rfl
  | n + 1, h => by
    have ih := hv_fs_e (kf := kf) (p := p) (q := q) ej ed n (by omega)
    have ef : hv_ft jf df kf p q n = hv_ft jf' df' kf p q n := by
      unfold hv_ft
      rw [ej n (by omega), ed n (by omega)]
    show (if hv_ft jf df kf p q n = true then hv_fs jf df kf p q n ++ [n] else hv_fs jf df kf p q n) = (if hv_ft jf' df' kf p q n = true then hv_fs jf' df' kf p q n ++ [n] else hv_fs jf' df' kf p q n)
    rw [ef, ih]
theorem hv_HS_2 {C C' : Prop} {i nw m0 m1 r m1' r' : Int32} {J J' : Int} {hf hf1 uf uf1 hof hof1 hf1' uf1' hof1' : Nat → Int32} (h : hv_HS C i nw m0 m1 r J hf hf1 uf uf1 hof hof1) (h' : hv_HS C' i nw m0 m1' r' J' hf hf1' uf uf1' hof hof1') (hC : C ↔ C') (e : C → r.toInt ≠ -1 → r'.toInt ≠ -1 → J = J') : r = r' ∧ m1 = m1' ∧ hf1 = hf1' ∧ uf1 = uf1' ∧ hof1 = hof1' := by
  rcases h with ⟨a1, a2, a3, a4, a5, a6⟩ | ⟨a1, a2, a0, a3, a4, a5, a6⟩ <;> rcases h' with ⟨b1, b2, b3, b4, b5, b6⟩ | ⟨b1, b2, b0, b3, b4, b5, b6⟩
  · exact ⟨Int32.toInt_inj.mp (a1.trans b1.symm), a3.trans b3.symm, a4.trans b4.symm, a5.trans b5.symm, a6.trans b6.symm⟩
  · exact absurd (hC.mpr b1) a2
  · exact absurd (hC.mp a1) b2
  · have er : r = r' := Int32.toInt_inj.mp (a2.trans ((e a1 (by omega) (by omega)).trans b2.symm))
    subst er
    exact ⟨rfl, Int32.toInt_inj.mp (a3.trans b3.symm), a4.trans b4.symm, a5.trans b5.symm, a6.trans b6.symm⟩
theorem hv_FR_h {cF cF1 rf rf1 nf wf sf hf hf1 : Nat → Int32} {n : Int} {c : Nat} {a0 a1 a4 a5 v : Int32} {a6 : Int} (H : hv_FR cF rf nf wf sf hf n) (hc : (c : Int) < n) (hh : (hf c).toInt = -1) (cu : hv_CU cF cF1 c a0 a1 a4 a5 a6) (cv : hv_CV rf rf1 c a0 a1 (nf c) (wf c) a4 a5 a6 (sf c)) (e : hf1 = hx_up hf c v) (hv : v.toInt ≠ -1) : hv_FR cF1 rf1 nf wf sf hf1 n ∧ ∀ k, k < 8 → cF1 (k + 8 * c) = rf1 (k + 8 * c) := by
  obtain ⟨u, u0, u1, u2, u3, u4, u5, u6, u7⟩ := cu
  obtain ⟨w, w0, w1, w2, w3, w4, w5, w6, w7⟩ := cv
  obtain ⟨t2, t3, t7⟩ := (H c hc).2 hh
  have key : ∀ k, k < 8 → cF1 (k + 8 * c) = rf1 (k + 8 * c) := by
    intro k hk
    rcases (show k = 0 ∨ k = 1 ∨ k = 2 ∨ k = 3 ∨ k = 4 ∨ k = 5 ∨ k = 6 ∨ k = 7 by omega) with z | z | z | z | z | z | z | z <;> subst z
    · exact u0.trans w0.symm
    · exact u1.trans w1.symm
    · exact (u2.trans t2).trans w2.symm
    · exact (u3.trans t3).trans w3.symm
    · exact u4.trans w4.symm
    · exact u5.trans w5.symm
    · exact Int32.toInt_inj.mp (u6.trans w6.symm)
    · exact (u7.trans t7).trans w7.symm
  refine ⟨fun d hd => ?_, key⟩
  subst e
  by_cases z : d = c
  · rw [z, hx_up_at]
    exact ⟨fun _ => key, fun q => absurd q hv⟩
  · rw [hx_up_ne z]
    obtain ⟨x1, x2⟩ := H d hd
    refine ⟨fun q k hk => ?_, fun q => ?_⟩
    · rw [u d k hk z, w d k hk z]; exact x1 q k hk
    · rw [u d 2 (by omega) z, u d 3 (by omega) z, u d 7 (by omega) z]; exact x2 q
theorem hv_HR {C C' P P' Q Q' : Prop} {i nw m0 m1 m1' r r' a0 a1 a4 a5 : Int32} {a6 n fr bo su sp : Int} {R : Nat → Int} {o : List hv_tok} {cF cF1 rf rf1 nf wf sf hf hf1 hf1' uf uf1 uf1' hof hof1 hof1' : Nat → Int32} (H : hv_FR cF rf nf wf sf hf n) (hnw : 0 ≤ nw.toInt) (h : hv_HS C i nw m0 m1 r (hv_jg (hv_F0 cF1 (8 * i.toNatClampNeg)) R o fr bo su sp) hf hf1 uf uf1 hof hof1) (h' : hv_HS C' i nw m0 m1' r' (hv_jg (hv_F0 rf1 (8 * i.toNatClampNeg)) R o fr bo su sp) hf hf1' uf uf1' hof hof1') (hC : C ↔ C') (hO : hv_OK o) (hc : C → (i.toNatClampNeg : Int) < n ∧ (hf i.toNatClampNeg).toInt = -1) (c : (r.toInt = -1 ∧ cF1 = cF ∧ P) ∨ (r.toInt ≠ -1 ∧ hv_CU cF cF1 i.toNatClampNeg a0 a1 a4 a5 a6 ∧ Q)) (c' : (r'.toInt = -1 ∧ rf1 = rf ∧ P') ∨ (r'.toInt ≠ -1 ∧ hv_CV rf rf1 i.toNatClampNeg a0 a1 (nf i.toNatClampNeg) (wf i.toNatClampNeg) a4 a5 a6 (sf i.toNatClampNeg) ∧ Q')) : (r = r' ∧ m1 = m1' ∧ hf1 = hf1' ∧ uf1 = uf1' ∧ hof1 = hof1') ∧ hv_FR cF1 rf1 nf wf sf hf1' n := by
  have hE : r = r' ∧ m1 = m1' ∧ hf1 = hf1' ∧ uf1 = uf1' ∧ hof1 = hof1' := by
    refine hv_HS_2 h h' hC (fun z1 z2 z3 => ?_)
    obtain ⟨y1, y2⟩ := hc z1
    rcases c with ⟨w, _⟩ | ⟨_, cu, _⟩
    · exact absurd w z2
    rcases c' with ⟨w, _⟩ | ⟨_, cv, _⟩
    · exact absurd w z3
    have hv : nw.toInt ≠ -1 := by omega
    have key := (hv_FR_h (hf1 := hx_up hf i.toNatClampNeg nw) H y1 y2 cu cv rfl hv).2
    exact hv_jg_e hO (fun k hk => congrArg Int32.toInt (key k hk))
  refine ⟨hE, ?_⟩
  rcases c with ⟨w, e1, _⟩ | ⟨w, cu, _⟩
  · rcases c' with ⟨w', e1', _⟩ | ⟨w', _⟩
    · rw [e1, e1']
      rcases h' with ⟨_, _, _, e4, _⟩ | ⟨_, b2, b0, _⟩
      · rw [e4]; exact H
      · exfalso; omega
    · exfalso; rw [hE.1] at w; exact w' w
  · rcases c' with ⟨w', _⟩ | ⟨w', cv, _⟩
    · exfalso; rw [hE.1] at w; exact w w'
    · rcases h' with ⟨b1, _⟩ | ⟨b1, _, _, _, e4, _⟩
      · exact absurd b1 w'
      · obtain ⟨y1, y2⟩ := hc (hC.mpr b1)
        exact (hv_FR_h H y1 y2 cu cv e4 (by omega)).1
theorem hv_BB {Y Y' X X' : Prop} {l l' : List Nat} {r r' : Int32} {p p' : Int} {k : Nat} {bF bF1 bf1 : Nat → Int32} (er : r = r') (el : l = l') (ep : p = p') (h : (r.toInt = -1 ∧ X ∧ bF1 = bF) ∨ (r.toInt ≠ -1 ∧ Y ∧ ∃ b0 b1 b2 : Int32, hv_BN l p b0 b1 b2 ∧ bF1 = hx_up (hx_up (hx_up bF (0 + 3 * k) b0) (1 + 3 * k) b1) (2 + 3 * k) b2)) (h' : (r'.toInt = -1 ∧ X' ∧ bf1 = bF) ∨ (r'.toInt ≠ -1 ∧ Y' ∧ ∃ b0 b1 b2 : Int32, hv_BN l' p' b0 b1 b2 ∧ bf1 = hx_up (hx_up (hx_up bF (3 * k) b0) (3 * k + 1) b1) (3 * k + 2) b2)) : bF1 = bf1 := by
  subst er; subst el; subst ep
  rcases h with ⟨z, _, e⟩ | ⟨z, _, b0, b1, b2, hb, e⟩ <;> rcases h' with ⟨z', _, e'⟩ | ⟨z', _, c0, c1, c2, hc, e'⟩
  · exact e.trans e'.symm
  · exact absurd z z'
  · exact absurd z' z
  · obtain ⟨q0, q1, q2⟩ := hv_BN_u hb hc
    rw [e, e', q0, q1, q2, show 0 + 3 * k = 3 * k by omega, show 1 + 3 * k = 3 * k + 1 by omega, show 2 + 3 * k = 3 * k + 2 by omega]
theorem hv_HS_hc {ff hf hf1 uf uf1 hof hof1 df agf : Nat → Int32} {c i nw m0 m1 r : Int32} {d len J : Int} (h : hv_HS (hv_HC ff hf df agf c.toInt i.toInt d len) i nw m0 m1 r J hf hf1 uf uf1 hof hof1) (hn : 0 ≤ nw.toInt) (hHC : m0.toInt = hx_hc hf c.toInt.toNat) : m1.toInt = hx_hc hf1 c.toInt.toNat ∧ (hf1 = hf ∨ ∃ (j : Nat) (v : Int32), hf1 = hx_up hf j v ∧ (ff j).toInt ≠ -1) := by
  rcases h with ⟨_, _, e1, e2, _, _⟩ | ⟨⟨⟨a, b⟩, f, g, _⟩, _, _, e1, e2, _, _⟩
  · rw [e1, e2]; exact ⟨hHC, Or.inl rfl⟩
  · exact ⟨hx_hear hHC a b rfl g (by omega) e2 e1, Or.inr ⟨_, _, e2, f⟩⟩
/-- whose number stands in the row of those heard was heard -/
def hv_HO (hof hf : Nat → Int32) (m n : Int) : Prop := ∀ j : Nat, (j : Int) < m → 0 ≤ (hof j).toInt ∧ (hof j).toInt < n ∧ (hf (hof j).toInt.toNat).toInt ≠ -1
theorem hv_HO_0 {hof hf : Nat → Int32} {m n : Int} (h : m = 0) : hv_HO hof hf m n := fun j hj => by exfalso; omega
theorem hv_HO_c {hof hf hf1 : Nat → Int32} {m n n1 : Int} (H : hv_HO hof hf m n) (n0 : 0 ≤ n) (p : (n1 = n ∧ hf1 = hf) ∨ (n1 = n + 1 ∧ hf1 = hx_up hf n.toNat (-1))) : hv_HO hof hf1 m n1 := by
  intro j hj
  obtain ⟨a, b, c⟩ := H j hj
  rcases p with ⟨e1, e2⟩ | ⟨e1, e2⟩
  · rw [e1, e2]; exact ⟨a, b, c⟩
  · rw [e1, e2]
    refine ⟨a, by omega, ?_⟩
    rw [hx_up_ne (by omega)]; exact c
theorem hv_HO_h {ff hf hf1 uf uf1 hof hof1 df agf : Nat → Int32} {i nw m0 m1 r : Int32} {n d len J : Int} (H : hv_HO hof hf m0.toInt n) (h : hv_HS (hv_HC ff hf df agf n i.toInt d len) i nw m0 m1 r J hf hf1 uf uf1 hof hof1) (hnw : 0 ≤ nw.toInt) (m0p : 0 ≤ m0.toInt) : hv_HO hof1 hf1 m1.toInt n := by
  rcases h with ⟨_, _, e1, e2, _, e3⟩ | ⟨⟨⟨a, b⟩, f, g, _⟩, _, _, e1, e2, _, e3⟩
  · rw [e1, e2, e3]; exact H
  · rw [e1, e2, e3]
    intro j hj
    have ei : i.toNatClampNeg = i.toInt.toNat := rfl
    by_cases z : j = m0.toInt.toNat
    · rw [z, hx_up_at]
      refine ⟨a, b, ?_⟩
      rw [← ei, hx_up_at]; omega
    · rw [hx_up_ne z]
      obtain ⟨x, y, w⟩ := H j (by omega)
      refine ⟨x, y, ?_⟩
      by_cases q : (hof j).toInt.toNat = i.toNatClampNeg
      · rw [q, hx_up_at]; omega
      · rw [hx_up_ne q]; exact w
/-! FILED: both sides alike -/
theorem hv_cdf {n r r2 : Int} {v : Int32} {d d1 g1 : Nat → Int32} (hr : r = r2) (p : hx_CD n r v d d1) (q : hx_CD n r2 v d g1) : d1 = g1 := by
  rcases p with ⟨a1, a2⟩ | ⟨a1, a2, a3⟩ <;> rcases q with ⟨b1, b2⟩ | ⟨b1, b2, b3⟩
  · exact a2.trans b2.symm
  · exfalso; omega
  · exfalso; omega
  · exact a3.trans b3.symm
theorem hv_cdfz {n r : Int} {d d1 : Nat → Int32} (p : hx_CD n r 0 d d1) (z : d n.toNat = 0) : d1 = d := by
  rcases p with ⟨_, a⟩ | ⟨_, _, a⟩
  · exact a
  · rw [a]
    funext j
    by_cases q : j = n.toNat
    · rw [q, hx_up_at, z]
    · rw [hx_up_ne q]
theorem hx_num_z2 {N : Nat} {h : hx_h} {q k k1 j : Nat} {n : Int} {f : Nat → Int32} (hn : hx_num N h q k n) (hc : hx_col N h q k1 = f) (hz : n ≤ (j : Int)) : f j = 0 := by
  by_cases hj : j < N
  · exact hx_num_z hn hc hj hz
  · rw [← hc]
    exact if_neg hj
theorem hx_col_0f {N : Nat} {h : hx_h} {q k r : Nat} (z : ∀ j, h.2.1 q j = 0 ∧ h.2.2 q j = none) (z2 : ∀ j, h.2.1 r j = 0) : hx_col N h q k = h.2.1 r := by
  funext j
  rw [z2 j]
  by_cases hj : j < N
  · exact (hx_col_0 (k := k) z z2 j hj).trans (z2 j)
  · exact if_neg hj
def hv_FU (r n : Int) (v2 v3 v7 : Int32) (f f1 : Nat → Int32) : Prop := (r = -1 ∧ f1 = f) ∨ (r ≠ -1 ∧ (∀ c k : Nat, (c : Int) < n → k < 8 → f1 (k + 8 * c) = f (k + 8 * c)) ∧ f1 (2 + 8 * n.toNat) = v2 ∧ f1 (3 + 8 * n.toNat) = v3 ∧ f1 (7 + 8 * n.toNat) = v7)
theorem hv_FU_i {r n : Int} {v2 v3 v7 : Int32} {cF f0 f1 f2 f3 : Nat → Int32} (hr : r ≠ -1) (h0 : 0 ≤ n) (d1 : f1 = hx_up f0 (2 : Int32).toNatClampNeg v2) (d2 : f2 = hx_up f1 (3 : Int32).toNatClampNeg v3) (d3 : f3 = hx_up f2 (7 : Int32).toNatClampNeg v7) : hv_FU r n v2 v3 v7 cF (hv_u8 cF n.toNat f3) := by
  have k2 : (2 : Int32).toNatClampNeg = 2 := by decide
  have k3 : (3 : Int32).toNatClampNeg = 3 := by decide
  have k7 : (7 : Int32).toNatClampNeg = 7 := by decide
  rw [k2] at d1; rw [k3] at d2; rw [k7] at d3
  subst d1; subst d2; subst d3
  refine Or.inr ⟨hr, fun c k hc hk => hv_u8_ne hk (by omega), ?_, ?_, ?_⟩
  · rw [hv_u8_at (by omega), hx_up_ne (by omega), hx_up_ne (by omega), hx_up_at]
  · rw [hv_u8_at (by omega), hx_up_ne (by omega), hx_up_at]
  · rw [hv_u8_at (by omega), hx_up_at]
def hv_b3 (f : Nat → Int32) (c : Nat) : Nat → Int32 := hx_up (hx_up (hx_up f (3 * c) (-1)) (3 * c + 1) (-1)) (3 * c + 2) (-1)
theorem hv_b3_at {f : Nat → Int32} {c k : Nat} (hk : k < 3) : hv_b3 f c (k + 3 * c) = -1 := by
  unfold hv_b3
  rcases (show k = 0 ∨ k = 1 ∨ k = 2 by omega) with z | z | z
  · rw [hx_up_ne (by omega), hx_up_ne (by omega), show k + 3 * c = 3 * c by omega, hx_up_at]
  · rw [hx_up_ne (by omega), show k + 3 * c = 3 * c + 1 by omega, hx_up_at]
  · rw [show k + 3 * c = 3 * c + 2 by omega, hx_up_at]
theorem hv_b3_ne {f : Nat → Int32} {c d k : Nat} (hk : k < 3) (h : d ≠ c) : hv_b3 f c (k + 3 * d) = f (k + 3 * d) := by
  unfold hv_b3
  rw [hx_up_ne (by omega), hx_up_ne (by omega), hx_up_ne (by omega)]
def hv_BU (r n : Int) (f f1 : Nat → Int32) : Prop := (r = -1 ∧ f1 = f) ∨ (r ≠ -1 ∧ f1 = hv_b3 f n.toNat)
theorem hv_BU_u {r r2 n : Int} {f g g2 : Nat → Int32} (e : r = r2) (p : hv_BU r n f g) (q : hv_BU r2 n f g2) : g = g2 := by
  rcases p with ⟨a1, a2⟩ | ⟨a1, a2⟩ <;> rcases q with ⟨b1, b2⟩ | ⟨b1, b2⟩
  · exact a2.trans b2.symm
  · exfalso; omega
  · exfalso; omega
  · exact a2.trans b2.symm
/-- the reference's three, one after another -/
def hv_b3k (f : Nat → Int32) (c : Nat) : Nat → Nat → Int32
  | 0 => f
  | k + 1 => hx_up (hv_b3k f c k) (3 * c + k) (-1)
theorem hv_b3k_s {f g g1 : Nat → Int32} {c ix : Nat} {k k1 : Int} (h : g = hv_b3k f c k.toNat) (h0 : 0 ≤ k) (ei : (ix : Int) = 3 * c + k) (e : g1 = hx_up g ix (-1)) (e1 : k1 = k + 1) : g1 = hv_b3k f c k1.toNat := by
  rw [show k1.toNat = k.toNat + 1 by omega, e, h, show ix = 3 * c + k.toNat by omega]; rfl
theorem hv_FR_f {cF cF1 rf nf nf1 wf wf1 sf sf1 hf hf1 : Nat → Int32} {r r' n n1 : Int} {v2 v3 v7 : Int32} (H : hv_FR cF rf nf wf sf hf n) (n0 : 0 ≤ n) (er : r = r') (fu : hv_FU r n v2 v3 v7 cF cF1) (p2 : hw_UP r' n v2 nf nf1) (p3 : hw_UP r' n v3 wf wf1) (p7 : hx_CD n r' v7 sf sf1) (ph : hx_CD n r' (-1) hf hf1) (pn : (r' = -1 ∧ n1 = n) ∨ (r' = n ∧ n1 = n + 1)) : hv_FR cF1 rf nf1 wf1 sf1 hf1 n1 := by
  subst er
  rcases pn with ⟨z, e⟩ | ⟨z, e⟩
  · rcases fu with ⟨_, f⟩ | ⟨y, _⟩
    · rcases p2 with ⟨_, b2⟩ | ⟨y, _⟩
      · rcases p3 with ⟨_, b3⟩ | ⟨y, _⟩
        · rcases p7 with ⟨_, b7⟩ | ⟨y, y0, _⟩
          · rcases ph with ⟨_, bh⟩ | ⟨y, y0, _⟩
            · rw [f, b2, b3, b7, bh, e]; exact H
            · exfalso; omega
          · exfalso; omega
        · exact absurd z y
      · exact absurd z y
    · exact absurd z y
  · have zr : r ≠ -1 := by omega
    rcases fu with ⟨y, _⟩ | ⟨_, f, f2, f3, f7⟩
    · exact absurd y zr
    rcases p2 with ⟨y, _⟩ | ⟨_, b2⟩
    · exact absurd y zr
    rcases p3 with ⟨y, _⟩ | ⟨_, b3⟩
    · exact absurd y zr
    rcases p7 with ⟨y, _⟩ | ⟨_, _, b7⟩
    · exact absurd y zr
    rcases ph with ⟨y, _⟩ | ⟨_, _, bh⟩
    · exact absurd y zr
    rw [b2, b3, b7, bh]
    intro d hd
    by_cases w : d = n.toNat
    · rw [w, hx_up_at, hx_up_at, hx_up_at, hx_up_at]
      exact ⟨fun q => absurd (by decide) q, fun _ => ⟨f2, f3, f7⟩⟩
    · rw [hx_up_ne w, hx_up_ne w, hx_up_ne w, hx_up_ne w]
      have hd' : (d : Int) < n := by omega
      obtain ⟨x1, x2⟩ := H d hd'
      refine ⟨fun q k hk => ?_, fun q => ?_⟩
      · rw [f d k hd' hk]; exact x1 q k hk
      · rw [f d 2 hd' (by omega), f d 3 hd' (by omega), f d 7 hd' (by omega)]; exact x2 q
/-- a store into a row that is no claim's -/
theorem hv_FX_o {h h1 : hx_h} {w kf qc t : Nat} {F : Nat → Int32} {n : Int} {k : Nat} {v : Int32} (H : hv_FX w kf h qc F n) (hN : hv_NF kf h qc t n) (eh : h1 = hx_pi h t k v) : hv_FX w kf h1 qc F n := by
  subst eh
  refine ⟨fun c1 hc1 hn1 o1 t1 fo1 ft1 k1 hk1 => ?_, fun c1 c' hc1 hc' hn hn' o1 o' t1 fo1 fo' ft1 ft' => H.2 c1 c' hc1 hc' hn hn' o1 o' t1 fo1 fo' ft1 ft'⟩
  replace fo1 : h.2.2 qc c1 = some o1 := fo1
  replace ft1 : h.2.2 o1 kf = some t1 := ft1
  have z : t1 ≠ t := hN c1 hc1 hn1 o1 t1 fo1 ft1
  rw [hx_pi_ne _ _ (fun q => z q.1)]
  exact H.1 c1 hc1 hn1 o1 t1 fo1 ft1 k1 hk1
/-! THE RULES: their bounds -/
def hv_AB (A : Nat → hv_act) : Prop := ∀ j : Nat, (∀ k, 0 ≤ (A j).2.1 k ∧ (A j).2.1 k ≤ 9999) ∧ hv_OK (A j).2.2
theorem hv_W0_b : ∀ k : Nat, 0 ≤ hv_W0 k ∧ hv_W0 k ≤ 9999 := by
  intro k
  show 0 ≤ (if k < 13 then (P_wo (k + 1)).toInt else 0) ∧ (if k < 13 then (P_wo (k + 1)).toInt else 0) ≤ 9999
  by_cases hk : k < 13
  · rw [if_pos hk]
    have h : (List.range 13).all (fun k => decide (0 ≤ (P_wo (k + 1)).toInt ∧ (P_wo (k + 1)).toInt ≤ 9999)) = true := by decide
    exact of_decide_eq_true (List.all_eq_true.mp h k (List.mem_range.mpr hk))
  · rw [if_neg hk]; omega
theorem hv_AB_0 : hv_AB (fun _ => hv_A0) := fun _ => ⟨hv_W0_b, hv_OK_0⟩
theorem hv_AU_o {A A1 : Nat → hv_act} {a0 a1 d : Int} {sp : Nat ⊕ hv_st} (h : hv_AU A a0 a1 d sp A1) (h0 : 0 ≤ a0) : ∀ k : Nat, (k : Int) ≤ a0 → A1 k = A k := by
  intro k hk
  rcases h with ⟨_, e⟩ | ⟨e1, x, sn, rd, o, es, e⟩
  · rw [e]
  · rw [e]; exact if_neg (by omega)
theorem hv_AB_u {A A1 : Nat → hv_act} {a0 a1 d : Int} {sp : Nat ⊕ hv_st} {adf rlf psf prf : Nat → Int32} (h : hv_AU A a0 a1 d sp A1) (hsp : ∀ q, sp = .inr q → hv_OK q.2.2.2) (hA : hv_AB A) (hCA : hv_CA adf rlf psf prf a1 A1) (h0 : 0 ≤ a0) (h8 : a1 ≤ 8) (hb : ∀ k, k < 117 → 0 ≤ (rlf k).toInt ∧ (rlf k).toInt ≤ 9999) : hv_AB A1 := by
  rcases h with ⟨_, e⟩ | ⟨e1, x, sn, rd, o, es, e⟩
  · rw [e]; exact hA
  · intro j
    by_cases z : j = a0.toNat + 1
    · have c := (hCA.2 j (by omega)).2.1
      have ej : A1 j = (d, rd, o) := by rw [e]; exact if_pos z
      rw [ej] at c ⊢
      have c' : hv_rR (fun k => rlf (13 * j + k)) = rd := c
      refine ⟨fun k => ?_, ?_⟩
      · show 0 ≤ rd k ∧ rd k ≤ 9999
        rw [← c']
        show 0 ≤ (if k < 13 then (rlf (13 * j + k)).toInt else 0) ∧ (if k < 13 then (rlf (13 * j + k)).toInt else 0) ≤ 9999
        by_cases hk : k < 13
        · rw [if_pos hk]; exact hb _ (by omega)
        · rw [if_neg hk]; omega
      · exact hsp _ es
    · have ej : A1 j = A j := by rw [e]; exact if_neg z
      rw [ej]; exact hA j
theorem hv_k3 {f : Nat → Int32} {v : Int32} (h : f 0 = v ∧ f 1 = v ∧ f 2 = v) {k : Nat} (hk : k < 3) : f k = v := by
  rcases (show k = 0 ∨ k = 1 ∨ k = 2 by omega) with z | z | z
  · rw [z]; exact h.1
  · rw [z]; exact h.2.1
  · rw [z]; exact h.2.2
end
section
set_option maxHeartbeats 4000000 in
set_option maxRecDepth 100000 in
theorem t_X2_init_v (l : Launch) (dC : Nat → ClassId) (dI : Nat → Nat → Nat) (dA : Nat → ClassId) (L : List Nat) (h : hx_h) (sz : Nat) (x : Nat) (i1 : Int32) (v1 : Nat) (v2 : Nat) (v3 : Nat) (hT : hx_T T_tb L h) (gx : hx_g L h x 118) (gv1 : hx_g L h v1 4) (gv2 : hx_g L h v2 4) (gv3 : hx_g L h v3 0) (hz : ∀ j, h.2.1 x j = 0 ∧ h.2.2 x j = none) (hi1 : 0 ≤ i1.toInt ∧ i1.toInt ≤ 99) : Met l yX2_init (Cond.code yX2_init cX2_init 5 none :: hx_all) ({ frames := 1, cells := 2, slots := 11, locals := 12 }) (va_Pc [.ref x, .int i1, .ref v1, .ref v2, .ref v3] (hx_B T_tb (P_ty dA) (dC, dI) vwCl L h sz)) (va_Qv (fun (u : List Nat × hx_h) => hx_T T_tb u.1 u.2 ∧ hx_S T_tb [(118, 0), (118, 1), (118, 2), (118, 3), (118, 4), (118, 5), (118, 10), (118, 11), (118, 13), (118, 16), (118, 18)] (hx_X L x) h u.1 u.2 ∧ hx_g u.1 u.2 x 2 ∧ u.2.2.1 x 0 = i1 ∧ u.2.2.1 x 10 = -1 ∧ u.2.2.1 x 11 = -1 ∧ u.2.2.1 x 9 = 0 ∧ u.2.2.1 x 12 = 0 ∧ u.2.2.1 x 13 = -1 ∧ u.2.2.1 x 16 = -1 ∧ u.2.2.1 x 18 = -1 ∧ u.2.2.1 x 14 = 0 ∧ u.2.2.1 x 15 = 0 ∧ u.2.2.1 x 17 = 0 ∧ u.2.2.2 x 1 = some v1 ∧ u.2.2.2 x 2 = some v2 ∧ u.2.2.2 x 3 = some v3 ∧ (∃ q, u.2.2.2 x 4 = some q ∧ hx_g u.1 u.2 q 20 ∧ True ∧ ∀ a ∈ hx_X L x, a ≠ q) ∧ (∃ q, u.2.2.2 x 5 = some q ∧ hx_g u.1 u.2 q 21 ∧ (u.2.2.1 q 0 = -1 ∧ u.2.2.1 q 1 = -1 ∧ u.2.2.1 q 2 = -1) ∧ ∀ a ∈ hx_X L x, a ≠ q)) (hx_E T_tb (P_ty dA) (dC, dI) vwCl (hx_A L sz)) (hx_A L sz)) 2 11 (hx_A L sz) := by
  refine hx_met (lv := [(0, .ref x), (1, .int i1), (2, .ref v1), (3, .ref v2), (4, .ref v3)]) (by decide +kernel) rfl (Nat.le_of_ble_eq_true rfl) rfl ?_
  intro p e s m below meth c hx hb hml hr hlk hts0 hown hin hsz hW ls hl
  have hts : ∀ w ∈ hx_all, w.before _ s = true := fun w hw => hts0 w (List.mem_cons_of_mem _ hw)
  have hown : s.vm.findClass "SmallCourt$Claim" = some m.cls := hown
  have hin : meth.name = "<init>" := hin
  have hM : hx_S T_tb [(118, 0), (118, 1), (118, 2), (118, 3), (118, 4), (118, 5), (118, 10), (118, 11), (118, 13), (118, 16), (118, 18)] (hx_X L x) h L h := hx_SX_rf
  have hz : ∀ j, ([] : List Nat).contains j = false → h.2.1 x j = 0 ∧ h.2.2 x j = none := fun j _ => hz j
  refine lv_aload_n hx hb dX2_init_0 rfl (lv_at hl 0 rfl) ?_
  refine W.objInit hx hb hown (hts _ kw_720) (hts _ kw_117) (hts _ kw_118) rfl (by rw [hml]; exact hl.1) rfl dX2_init_1 (Nat.le_of_ble_eq_true rfl) (Nat.le_of_ble_eq_true rfl) ?_
  refine W.eq (g2 := F0 m 4 ls []) rfl ?_
  refine lv_aload_n hx hb dX2_init_4 rfl (lv_at hl 0 rfl) ?_
  refine lv_bipush (v := 8) hx hb dX2_init_5 ?o0 ?_
  case o0 => decide
  refine hk_newa hx hb hts hW 20 tt_20 (atype := .int) rfl kw_186 (tys := P_ty dA) (t0 := 0) rfl (fun _ => Iff.rfl) rfl (i := (8 : Int32)) ?o1 (Nat.le_of_ble_eq_true rfl) (Nat.le_of_ble_eq_true rfl) (Nat.le_of_ble_eq_true rfl) dX2_init_7 (fun q_2 H h_1 eh_1 hqq_2 hW hs gq_2 => ?_)
  case o1 => decide
  have nq_q_2 : ∀ a ∈ (hx_X L x), a ≠ q_2 := fun a ha z => hqq_2 (z ▸ (hM.1 a ha).1)
  have hT : hx_T T_tb (L ++ [q_2]) h_1 := ?o2
  case o2 =>
    rw [eh_1]
    exact hx_T_nw hT hqq_2 tt_20 rfl
  replace hz := hx_zr [] hz hs gx trivial rfl
  replace hM := hM.tr (hs.mono ?o3)
  case o3 => decide
  replace gx := gx.S hs
  replace gv1 := gv1.S hs
  replace gv2 := gv2.S hs
  replace gv3 := gv3.S hs
  refine hx_putrF hx hb hts hC_2 hown hW hT (hx_S.rf (M := [(118, 4)])) gx tt_118 4 ?o4 rfl kw_737 ⟨rfl, rfl, rfl⟩ rfl hin rfl (x := (some q_2)) ⟨fun _ z => (by cases z), fun q hq => (by cases hq; exact ⟨gq_2.1, by rw [gq_2.2]; decide⟩)⟩ rfl rfl rfl (List.mem_singleton.mpr rfl) dX2_init_9 (fun H locs h_3 eh_3 hW hT hs => ?_)
  case o4 => decide
  replace hz := hx_zr [4] hz hs gx trivial rfl
  replace hM := hM.tr (hs.mono ?o5)
  case o5 => decide
  replace gx := gx.S hs
  replace gv1 := gv1.S hs
  replace gv2 := gv2.S hs
  replace gv3 := gv3.S hs
  replace gq_2 := gq_2.S hs
  have f_4 : h_3.2.2 x 4 = (some q_2) := ?o6
  case o6 =>
    rw [eh_3]
    exact hx_pr_at _ _ _ _
  refine lv_aload_n hx hb dX2_init_12 rfl (lv_at hl 0 rfl) ?_
  refine lv_iconst (v := 3) hx hb dX2_init_13 ?o7 ?_
  case o7 => decide
  refine hk_newa hx hb hts hW 21 tt_21 (atype := .int) rfl kw_186 (tys := P_ty dA) (t0 := 0) rfl (fun _ => Iff.rfl) rfl (i := (3 : Int32)) ?o8 (Nat.le_of_ble_eq_true rfl) (Nat.le_of_ble_eq_true rfl) (Nat.le_of_ble_eq_true rfl) dX2_init_14 (fun q_6 H h_5 eh_5 hqq_6 hW hs gq_6 => ?_)
  case o8 => decide
  have nq_q_6 : ∀ a ∈ (hx_X L x), a ≠ q_6 := fun a ha z => hqq_6 (z ▸ (hM.1 a ha).1)
  have hT : hx_T T_tb ((L ++ [q_2]) ++ [q_6]) h_5 := ?o9
  case o9 =>
    rw [eh_5]
    exact hx_T_nw hT hqq_6 tt_21 rfl
  replace f_4 := (hs.o gx trivial rfl).2.trans f_4
  replace hz := hx_zr [4] hz hs gx trivial rfl
  replace hM := hM.tr (hs.mono ?o10)
  case o10 => decide
  replace gx := gx.S hs
  replace gv1 := gv1.S hs
  replace gv2 := gv2.S hs
  replace gv3 := gv3.S hs
  replace gq_2 := gq_2.S hs
  refine hx_putrF hx hb hts hC_2 hown hW hT (hx_S.rf (M := [(118, 5)])) gx tt_118 5 ?o11 rfl kw_739 ⟨rfl, rfl, rfl⟩ rfl hin rfl (x := (some q_6)) ⟨fun _ z => (by cases z), fun q hq => (by cases hq; exact ⟨gq_6.1, by rw [gq_6.2]; decide⟩)⟩ rfl rfl rfl (List.mem_singleton.mpr rfl) dX2_init_16 (fun H locs h_7 eh_7 hW hT hs => ?_)
  case o11 => decide
  replace f_4 := (hs.o gx trivial rfl).2.trans f_4
  replace hz := hx_zr [4, 5] hz hs gx trivial rfl
  replace hM := hM.tr (hs.mono ?o12)
  case o12 => decide
  replace gx := gx.S hs
  replace gv1 := gv1.S hs
  replace gv2 := gv2.S hs
  replace gv3 := gv3.S hs
  replace gq_2 := gq_2.S hs
  replace gq_6 := gq_6.S hs
  have f_8 : h_7.2.2 x 5 = (some q_6) := ?o13
  case o13 =>
    rw [eh_7]
    exact hx_pr_at _ _ _ _
  obtain ⟨bF0, nbF0⟩ : ∃ g : Nat → Int32, h_7.2.1 q_6 = g := ⟨_, rfl⟩
  refine lv_aload_n hx hb dX2_init_19 rfl (lv_at hl 0 rfl) ?_
  refine lv_iconst (v := -1) hx hb dX2_init_20 ?o14 ?_
  case o14 => decide
  refine hx_puti hx hb hts hC_2 hown hW hT (hx_S.rf (M := [(118, 10)])) gx tt_118 10 ?o15 rfl kw_746 ⟨rfl, rfl, rfl⟩ rfl (x := (-1 : Int32)) ?o16 rfl rfl rfl (List.mem_singleton.mpr rfl) dX2_init_21 (fun H locs h_9 eh_9 hW hT hs => ?_)
  case o15 => decide
  case o16 => decide
  replace f_4 := (hs.o gx trivial rfl).2.trans f_4
  replace f_8 := (hs.o gx trivial rfl).2.trans f_8
  replace hz := hx_zr [4, 5, 10] hz hs gx trivial rfl
  replace nbF0 : h_9.2.1 q_6 = bF0 := (funext fun j => (hs.a gq_6 rfl j).1).trans nbF0
  replace hM := hM.tr (hs.mono ?o17)
  case o17 => decide
  replace gx := gx.S hs
  replace gv1 := gv1.S hs
  replace gv2 := gv2.S hs
  replace gv3 := gv3.S hs
  replace gq_2 := gq_2.S hs
  replace gq_6 := gq_6.S hs
  have f_10 : h_9.2.1 x 10 = (-1 : Int32) := ?o18
  case o18 =>
    rw [eh_9]
    exact hx_pi_at _ _ _ _
  refine lv_aload_n hx hb dX2_init_24 rfl (lv_at hl 0 rfl) ?_
  refine lv_iconst (v := -1) hx hb dX2_init_25 ?o19 ?_
  case o19 => decide
  refine hx_puti hx hb hts hC_2 hown hW hT (hx_S.rf (M := [(118, 11)])) gx tt_118 11 ?o20 rfl kw_748 ⟨rfl, rfl, rfl⟩ rfl (x := (-1 : Int32)) ?o21 rfl rfl rfl (List.mem_singleton.mpr rfl) dX2_init_26 (fun H locs h_11 eh_11 hW hT hs => ?_)
  case o20 => decide
  case o21 => decide
  replace f_4 := (hs.o gx trivial rfl).2.trans f_4
  replace f_8 := (hs.o gx trivial rfl).2.trans f_8
  replace f_10 := (hs.o gx trivial rfl).1.trans f_10
  replace hz := hx_zr [4, 5, 10, 11] hz hs gx trivial rfl
  replace nbF0 : h_11.2.1 q_6 = bF0 := (funext fun j => (hs.a gq_6 rfl j).1).trans nbF0
  replace hM := hM.tr (hs.mono ?o22)
  case o22 => decide
  replace gx := gx.S hs
  replace gv1 := gv1.S hs
  replace gv2 := gv2.S hs
  replace gv3 := gv3.S hs
  replace gq_2 := gq_2.S hs
  replace gq_6 := gq_6.S hs
  have f_12 : h_11.2.1 x 11 = (-1 : Int32) := ?o23
  case o23 =>
    rw [eh_11]
    exact hx_pi_at _ _ _ _
  refine lv_aload_n hx hb dX2_init_29 rfl (lv_at hl 0 rfl) ?_
  refine lv_iconst (v := -1) hx hb dX2_init_30 ?o24 ?_
  case o24 => decide
  refine hx_puti hx hb hts hC_2 hown hW hT (hx_S.rf (M := [(118, 13)])) gx tt_118 13 ?o25 rfl kw_752 ⟨rfl, rfl, rfl⟩ rfl (x := (-1 : Int32)) ?o26 rfl rfl rfl (List.mem_singleton.mpr rfl) dX2_init_31 (fun H locs h_13 eh_13 hW hT hs => ?_)
  case o25 => decide
  case o26 => decide
  replace f_4 := (hs.o gx trivial rfl).2.trans f_4
  replace f_8 := (hs.o gx trivial rfl).2.trans f_8
  replace f_10 := (hs.o gx trivial rfl).1.trans f_10
  replace f_12 := (hs.o gx trivial rfl).1.trans f_12
  replace hz := hx_zr [4, 5, 10, 11, 13] hz hs gx trivial rfl
  replace nbF0 : h_13.2.1 q_6 = bF0 := (funext fun j => (hs.a gq_6 rfl j).1).trans nbF0
  replace hM := hM.tr (hs.mono ?o27)
  case o27 => decide
  replace gx := gx.S hs
  replace gv1 := gv1.S hs
  replace gv2 := gv2.S hs
  replace gv3 := gv3.S hs
  replace gq_2 := gq_2.S hs
  replace gq_6 := gq_6.S hs
  have f_14 : h_13.2.1 x 13 = (-1 : Int32) := ?o28
  case o28 =>
    rw [eh_13]
    exact hx_pi_at _ _ _ _
  refine lv_aload_n hx hb dX2_init_34 rfl (lv_at hl 0 rfl) ?_
  refine lv_iconst (v := -1) hx hb dX2_init_35 ?o29 ?_
  case o29 => decide
  refine hx_puti hx hb hts hC_2 hown hW hT (hx_S.rf (M := [(118, 16)])) gx tt_118 16 ?o30 rfl kw_758 ⟨rfl, rfl, rfl⟩ rfl (x := (-1 : Int32)) ?o31 rfl rfl rfl (List.mem_singleton.mpr rfl) dX2_init_36 (fun H locs h_15 eh_15 hW hT hs => ?_)
  case o30 => decide
  case o31 => decide
  replace f_4 := (hs.o gx trivial rfl).2.trans f_4
  replace f_8 := (hs.o gx trivial rfl).2.trans f_8
  replace f_10 := (hs.o gx trivial rfl).1.trans f_10
  replace f_12 := (hs.o gx trivial rfl).1.trans f_12
  replace f_14 := (hs.o gx trivial rfl).1.trans f_14
  replace hz := hx_zr [4, 5, 10, 11, 13, 16] hz hs gx trivial rfl
  replace nbF0 : h_15.2.1 q_6 = bF0 := (funext fun j => (hs.a gq_6 rfl j).1).trans nbF0
  replace hM := hM.tr (hs.mono ?o32)
  case o32 => decide
  replace gx := gx.S hs
  replace gv1 := gv1.S hs
  replace gv2 := gv2.S hs
  replace gv3 := gv3.S hs
  replace gq_2 := gq_2.S hs
  replace gq_6 := gq_6.S hs
  have f_16 : h_15.2.1 x 16 = (-1 : Int32) := ?o33
  case o33 =>
    rw [eh_15]
    exact hx_pi_at _ _ _ _
  refine lv_aload_n hx hb dX2_init_39 rfl (lv_at hl 0 rfl) ?_
  refine lv_iconst (v := -1) hx hb dX2_init_40 ?o34 ?_
  case o34 => decide
  refine hx_puti hx hb hts hC_2 hown hW hT (hx_S.rf (M := [(118, 18)])) gx tt_118 18 ?o35 rfl kw_762 ⟨rfl, rfl, rfl⟩ rfl (x := (-1 : Int32)) ?o36 rfl rfl rfl (List.mem_singleton.mpr rfl) dX2_init_41 (fun H locs h_17 eh_17 hW hT hs => ?_)
  case o35 => decide
  case o36 => decide
  replace f_4 := (hs.o gx trivial rfl).2.trans f_4
  replace f_8 := (hs.o gx trivial rfl).2.trans f_8
  replace f_10 := (hs.o gx trivial rfl).1.trans f_10
  replace f_12 := (hs.o gx trivial rfl).1.trans f_12
  replace f_14 := (hs.o gx trivial rfl).1.trans f_14
  replace f_16 := (hs.o gx trivial rfl).1.trans f_16
  replace hz := hx_zr [4, 5, 10, 11, 13, 16, 18] hz hs gx trivial rfl
  replace nbF0 : h_17.2.1 q_6 = bF0 := (funext fun j => (hs.a gq_6 rfl j).1).trans nbF0
  replace hM := hM.tr (hs.mono ?o37)
  case o37 => decide
  replace gx := gx.S hs
  replace gv1 := gv1.S hs
  replace gv2 := gv2.S hs
  replace gv3 := gv3.S hs
  replace gq_2 := gq_2.S hs
  replace gq_6 := gq_6.S hs
  have f_18 : h_17.2.1 x 18 = (-1 : Int32) := ?o38
  case o38 =>
    rw [eh_17]
    exact hx_pi_at _ _ _ _
  refine lv_aload_n hx hb dX2_init_44 rfl (lv_at hl 0 rfl) ?_
  refine lv_iload_n hx hb dX2_init_45 rfl (lv_at hl 1 rfl) ?_
  refine hx_putiF hx hb hts hC_2 hown hW hT (hx_S.rf (M := [(118, 0)])) gx tt_118 0 ?o39 rfl kw_721 ⟨rfl, rfl, rfl⟩ rfl hin rfl (x := i1) ⟨?o40, ?o41⟩ rfl rfl rfl (List.mem_singleton.mpr rfl) dX2_init_46 (fun H locs h_19 eh_19 hW hT hs => ?_)
  case o39 => decide
  case o40 => omega
  case o41 => omega
  replace f_4 := (hs.o gx trivial rfl).2.trans f_4
  replace f_8 := (hs.o gx trivial rfl).2.trans f_8
  replace f_10 := (hs.o gx trivial rfl).1.trans f_10
  replace f_12 := (hs.o gx trivial rfl).1.trans f_12
  replace f_14 := (hs.o gx trivial rfl).1.trans f_14
  replace f_16 := (hs.o gx trivial rfl).1.trans f_16
  replace f_18 := (hs.o gx trivial rfl).1.trans f_18
  replace hz := hx_zr [0, 4, 5, 10, 11, 13, 16, 18] hz hs gx trivial rfl
  replace nbF0 : h_19.2.1 q_6 = bF0 := (funext fun j => (hs.a gq_6 rfl j).1).trans nbF0
  replace hM := hM.tr (hs.mono ?o42)
  case o42 => decide
  replace gx := gx.S hs
  replace gv1 := gv1.S hs
  replace gv2 := gv2.S hs
  replace gv3 := gv3.S hs
  replace gq_2 := gq_2.S hs
  replace gq_6 := gq_6.S hs
  have f_20 : h_19.2.1 x 0 = i1 := ?o43
  case o43 =>
    rw [eh_19]
    exact hx_pi_at _ _ _ _
  refine lv_aload_n hx hb dX2_init_49 rfl (lv_at hl 0 rfl) ?_
  refine lv_aload_n hx hb dX2_init_50 rfl (lv_at hl 2 rfl) ?_
  refine hx_putrF hx hb hts hC_2 hown hW hT (hx_S.rf (M := [(118, 1)])) gx tt_118 1 ?o44 rfl kw_725 ⟨rfl, rfl, rfl⟩ rfl hin rfl (x := (some v1)) ⟨fun _ z => (by cases z), fun q hq => (by cases hq; exact ⟨gv1.1, by rw [gv1.2]; decide⟩)⟩ rfl rfl rfl (List.mem_singleton.mpr rfl) dX2_init_51 (fun H locs h_21 eh_21 hW hT hs => ?_)
  case o44 => decide
  replace f_4 := (hs.o gx trivial rfl).2.trans f_4
  replace f_8 := (hs.o gx trivial rfl).2.trans f_8
  replace f_10 := (hs.o gx trivial rfl).1.trans f_10
  replace f_12 := (hs.o gx trivial rfl).1.trans f_12
  replace f_14 := (hs.o gx trivial rfl).1.trans f_14
  replace f_16 := (hs.o gx trivial rfl).1.trans f_16
  replace f_18 := (hs.o gx trivial rfl).1.trans f_18
  replace f_20 := (hs.o gx trivial rfl).1.trans f_20
  replace hz := hx_zr [0, 1, 4, 5, 10, 11, 13, 16, 18] hz hs gx trivial rfl
  replace nbF0 : h_21.2.1 q_6 = bF0 := (funext fun j => (hs.a gq_6 rfl j).1).trans nbF0
  replace hM := hM.tr (hs.mono ?o45)
  case o45 => decide
  replace gx := gx.S hs
  replace gv1 := gv1.S hs
  replace gv2 := gv2.S hs
  replace gv3 := gv3.S hs
  replace gq_2 := gq_2.S hs
  replace gq_6 := gq_6.S hs
  have f_22 : h_21.2.2 x 1 = (some v1) := ?o46
  case o46 =>
    rw [eh_21]
    exact hx_pr_at _ _ _ _
  refine lv_aload_n hx hb dX2_init_54 rfl (lv_at hl 0 rfl) ?_
  refine lv_aload_n hx hb dX2_init_55 rfl (lv_at hl 3 rfl) ?_
  refine hx_putrF hx hb hts hC_2 hown hW hT (hx_S.rf (M := [(118, 2)])) gx tt_118 2 ?o47 rfl kw_729 ⟨rfl, rfl, rfl⟩ rfl hin rfl (x := (some v2)) ⟨fun _ z => (by cases z), fun q hq => (by cases hq; exact ⟨gv2.1, by rw [gv2.2]; decide⟩)⟩ rfl rfl rfl (List.mem_singleton.mpr rfl) dX2_init_56 (fun H locs h_23 eh_23 hW hT hs => ?_)
  case o47 => decide
  replace f_4 := (hs.o gx trivial rfl).2.trans f_4
  replace f_8 := (hs.o gx trivial rfl).2.trans f_8
  replace f_10 := (hs.o gx trivial rfl).1.trans f_10
  replace f_12 := (hs.o gx trivial rfl).1.trans f_12
  replace f_14 := (hs.o gx trivial rfl).1.trans f_14
  replace f_16 := (hs.o gx trivial rfl).1.trans f_16
  replace f_18 := (hs.o gx trivial rfl).1.trans f_18
  replace f_20 := (hs.o gx trivial rfl).1.trans f_20
  replace f_22 := (hs.o gx trivial rfl).2.trans f_22
  replace hz := hx_zr [0, 1, 2, 4, 5, 10, 11, 13, 16, 18] hz hs gx trivial rfl
  replace nbF0 : h_23.2.1 q_6 = bF0 := (funext fun j => (hs.a gq_6 rfl j).1).trans nbF0
  replace hM := hM.tr (hs.mono ?o48)
  case o48 => decide
  replace gx := gx.S hs
  replace gv1 := gv1.S hs
  replace gv2 := gv2.S hs
  replace gv3 := gv3.S hs
  replace gq_2 := gq_2.S hs
  replace gq_6 := gq_6.S hs
  have f_24 : h_23.2.2 x 2 = (some v2) := ?o49
  case o49 =>
    rw [eh_23]
    exact hx_pr_at _ _ _ _
  refine lv_aload_n hx hb dX2_init_59 rfl (lv_at hl 0 rfl) ?_
  refine lv_aload hx hb dX2_init_60 (lv_at hl 4 rfl) ?_
  refine hx_putrF hx hb hts hC_2 hown hW hT (hx_S.rf (M := [(118, 3)])) gx tt_118 3 ?o50 rfl kw_734 ⟨rfl, rfl, rfl⟩ rfl hin rfl (x := (some v3)) ⟨fun _ z => (by cases z), fun q hq => (by cases hq; exact ⟨gv3.1, by rw [gv3.2]; decide⟩)⟩ rfl rfl rfl (List.mem_singleton.mpr rfl) dX2_init_62 (fun H locs h_25 eh_25 hW hT hs => ?_)
  case o50 => decide
  replace f_4 := (hs.o gx trivial rfl).2.trans f_4
  replace f_8 := (hs.o gx trivial rfl).2.trans f_8
  replace f_10 := (hs.o gx trivial rfl).1.trans f_10
  replace f_12 := (hs.o gx trivial rfl).1.trans f_12
  replace f_14 := (hs.o gx trivial rfl).1.trans f_14
  replace f_16 := (hs.o gx trivial rfl).1.trans f_16
  replace f_18 := (hs.o gx trivial rfl).1.trans f_18
  replace f_20 := (hs.o gx trivial rfl).1.trans f_20
  replace f_22 := (hs.o gx trivial rfl).2.trans f_22
  replace f_24 := (hs.o gx trivial rfl).2.trans f_24
  replace hz := hx_zr [0, 1, 2, 3, 4, 5, 10, 11, 13, 16, 18] hz hs gx trivial rfl
  replace nbF0 : h_25.2.1 q_6 = bF0 := (funext fun j => (hs.a gq_6 rfl j).1).trans nbF0
  replace hM := hM.tr (hs.mono ?o51)
  case o51 => decide
  replace gx := gx.S hs
  replace gv1 := gv1.S hs
  replace gv2 := gv2.S hs
  replace gv3 := gv3.S hs
  replace gq_2 := gq_2.S hs
  replace gq_6 := gq_6.S hs
  have f_26 : h_25.2.2 x 3 = (some v3) := ?o52
  case o52 =>
    rw [eh_25]
    exact hx_pr_at _ _ _ _
  refine lv_aload_n hx hb dX2_init_65 rfl (lv_at hl 0 rfl) ?_
  refine hk_getr hx hb hts hC_2 hown hW gx tt_118 5 ?o53 rfl kw_739 ⟨rfl, rfl, rfl⟩ f_8 dX2_init_66 ?_
  case o53 => decide
  refine lv_iconst (v := 0) hx hb dX2_init_69 ?o54 ?_
  case o54 => decide
  refine lv_iconst (v := -1) hx hb dX2_init_70 ?o55 ?_
  case o55 => decide
  have nbF0O := nbF0
  refine hx_iast hx hb hW hT (hx_S.rf (M := [(21, 0)])) gq_6 tt_21 rfl ?o56 rfl ?o57 (List.mem_singleton.mpr rfl) dX2_init_71 (fun H locs h_27 eh_27 hW hT hs => ?_)
  case o56 => decide
  case o57 => decide
  replace f_4 := (hs.o gx trivial rfl).2.trans f_4
  replace f_8 := (hs.o gx trivial rfl).2.trans f_8
  replace f_10 := (hs.o gx trivial rfl).1.trans f_10
  replace f_12 := (hs.o gx trivial rfl).1.trans f_12
  replace f_14 := (hs.o gx trivial rfl).1.trans f_14
  replace f_16 := (hs.o gx trivial rfl).1.trans f_16
  replace f_18 := (hs.o gx trivial rfl).1.trans f_18
  replace f_20 := (hs.o gx trivial rfl).1.trans f_20
  replace f_22 := (hs.o gx trivial rfl).2.trans f_22
  replace f_24 := (hs.o gx trivial rfl).2.trans f_24
  replace f_26 := (hs.o gx trivial rfl).2.trans f_26
  replace hz := hx_zr [0, 1, 2, 3, 4, 5, 10, 11, 13, 16, 18] hz hs gx trivial rfl
  replace hM := hx_S_pn hM nq_q_6 eh_27
  replace gx := gx.S hs
  replace gv1 := gv1.S hs
  replace gv2 := gv2.S hs
  replace gv3 := gv3.S hs
  replace gq_2 := gq_2.S hs
  replace gq_6 := gq_6.S hs
  obtain ⟨fa_28, dfa_28⟩ : ∃ g : Nat → Int32, g = hx_up bF0 (0 : Int32).toNatClampNeg (-1 : Int32) := ⟨_, rfl⟩
  have nfa_28 : h_27.2.1 q_6 = fa_28 := ?o58
  case o58 =>
    rw [eh_27, dfa_28, ← nbF0O]
    exact hx_pi_fun _ _ _ _
  refine lv_aload_n hx hb dX2_init_72 rfl (lv_at hl 0 rfl) ?_
  refine hk_getr hx hb hts hC_2 hown hW gx tt_118 5 ?o59 rfl kw_739 ⟨rfl, rfl, rfl⟩ f_8 dX2_init_73 ?_
  case o59 => decide
  refine lv_iconst (v := 1) hx hb dX2_init_76 ?o60 ?_
  case o60 => decide
  refine lv_iconst (v := -1) hx hb dX2_init_77 ?o61 ?_
  case o61 => decide
  have nfa_28O := nfa_28
  refine hx_iast hx hb hW hT (hx_S.rf (M := [(21, 0)])) gq_6 tt_21 rfl ?o62 rfl ?o63 (List.mem_singleton.mpr rfl) dX2_init_78 (fun H locs h_29 eh_29 hW hT hs => ?_)
  case o62 => decide
  case o63 => decide
  replace f_4 := (hs.o gx trivial rfl).2.trans f_4
  replace f_8 := (hs.o gx trivial rfl).2.trans f_8
  replace f_10 := (hs.o gx trivial rfl).1.trans f_10
  replace f_12 := (hs.o gx trivial rfl).1.trans f_12
  replace f_14 := (hs.o gx trivial rfl).1.trans f_14
  replace f_16 := (hs.o gx trivial rfl).1.trans f_16
  replace f_18 := (hs.o gx trivial rfl).1.trans f_18
  replace f_20 := (hs.o gx trivial rfl).1.trans f_20
  replace f_22 := (hs.o gx trivial rfl).2.trans f_22
  replace f_24 := (hs.o gx trivial rfl).2.trans f_24
  replace f_26 := (hs.o gx trivial rfl).2.trans f_26
  replace hz := hx_zr [0, 1, 2, 3, 4, 5, 10, 11, 13, 16, 18] hz hs gx trivial rfl
  replace hM := hx_S_pn hM nq_q_6 eh_29
  replace gx := gx.S hs
  replace gv1 := gv1.S hs
  replace gv2 := gv2.S hs
  replace gv3 := gv3.S hs
  replace gq_2 := gq_2.S hs
  replace gq_6 := gq_6.S hs
  obtain ⟨fa_30, dfa_30⟩ : ∃ g : Nat → Int32, g = hx_up fa_28 (1 : Int32).toNatClampNeg (-1 : Int32) := ⟨_, rfl⟩
  have nfa_30 : h_29.2.1 q_6 = fa_30 := ?o64
  case o64 =>
    rw [eh_29, dfa_30, ← nfa_28O]
    exact hx_pi_fun _ _ _ _
  refine lv_aload_n hx hb dX2_init_79 rfl (lv_at hl 0 rfl) ?_
  refine hk_getr hx hb hts hC_2 hown hW gx tt_118 5 ?o65 rfl kw_739 ⟨rfl, rfl, rfl⟩ f_8 dX2_init_80 ?_
  case o65 => decide
  refine lv_iconst (v := 2) hx hb dX2_init_83 ?o66 ?_
  case o66 => decide
  refine lv_iconst (v := -1) hx hb dX2_init_84 ?o67 ?_
  case o67 => decide
  have nfa_30O := nfa_30
  refine hx_iast hx hb hW hT (hx_S.rf (M := [(21, 0)])) gq_6 tt_21 rfl ?o68 rfl ?o69 (List.mem_singleton.mpr rfl) dX2_init_85 (fun H locs h_31 eh_31 hW hT hs => ?_)
  case o68 => decide
  case o69 => decide
  replace f_4 := (hs.o gx trivial rfl).2.trans f_4
  replace f_8 := (hs.o gx trivial rfl).2.trans f_8
  replace f_10 := (hs.o gx trivial rfl).1.trans f_10
  replace f_12 := (hs.o gx trivial rfl).1.trans f_12
  replace f_14 := (hs.o gx trivial rfl).1.trans f_14
  replace f_16 := (hs.o gx trivial rfl).1.trans f_16
  replace f_18 := (hs.o gx trivial rfl).1.trans f_18
  replace f_20 := (hs.o gx trivial rfl).1.trans f_20
  replace f_22 := (hs.o gx trivial rfl).2.trans f_22
  replace f_24 := (hs.o gx trivial rfl).2.trans f_24
  replace f_26 := (hs.o gx trivial rfl).2.trans f_26
  replace hz := hx_zr [0, 1, 2, 3, 4, 5, 10, 11, 13, 16, 18] hz hs gx trivial rfl
  replace hM := hx_S_pn hM nq_q_6 eh_31
  replace gx := gx.S hs
  replace gv1 := gv1.S hs
  replace gv2 := gv2.S hs
  replace gv3 := gv3.S hs
  replace gq_2 := gq_2.S hs
  replace gq_6 := gq_6.S hs
  obtain ⟨fa_32, dfa_32⟩ : ∃ g : Nat → Int32, g = hx_up fa_30 (2 : Int32).toNatClampNeg (-1 : Int32) := ⟨_, rfl⟩
  have nfa_32 : h_31.2.1 q_6 = fa_32 := ?o70
  case o70 =>
    rw [eh_31, dfa_32, ← nfa_30O]
    exact hx_pi_fun _ _ _ _
  have f_33 : h_31.2.1 x 9 = 0 := (hz 9 rfl).1
  have f_34 : h_31.2.1 x 12 = 0 := (hz 12 rfl).1
  have f_35 : h_31.2.1 x 14 = 0 := (hz 14 rfl).1
  have f_36 : h_31.2.1 x 15 = 0 := (hz 15 rfl).1
  have f_37 : h_31.2.1 x 17 = 0 := (hz 17 rfl).1
  have hF : hx_F (fun k f => hx_o ((L ++ [q_2]) ++ [q_6]) h_31 f (h_31.2.1 x k) (h_31.2.2 x k)) T_f2 0 := ⟨hx_oi f_20 ⟨?o71, ?o72⟩, hx_or f_22 gv1 ?o73, hx_or f_24 gv2 ?o74, hx_or f_26 gv3 ?o75, hx_or f_4 gq_2 ?o76, hx_or f_8 gq_6 ?o77, hx_oi (hz 6 rfl).1 ?o78, hx_oi (hz 7 rfl).1 ?o79, hx_oi (hz 8 rfl).1 ?o80, hx_oi f_33 ?o81, hx_oi f_10 ?o82, hx_oi f_12 ?o83, hx_oi f_34 ?o84, hx_oi f_14 ?o85, hx_oi f_35 ?o86, hx_oi f_36 ?o87, hx_oi f_16 ?o88, hx_oi f_37 ?o89, hx_oi f_18 ?o90, trivial⟩
  case o71 => omega
  case o72 => omega
  case o73 => decide
  case o74 => decide
  case o75 => decide
  case o76 => decide
  case o77 => decide
  case o78 => decide
  case o79 => decide
  case o80 => decide
  case o81 => decide
  case o82 => decide
  case o83 => decide
  case o84 => decide
  case o85 => decide
  case o86 => decide
  case o87 => decide
  case o88 => decide
  case o89 => decide
  case o90 => decide
  have hT := hx_T_rt hT gx tt_2 rfl (hx_F_all hF)
  have hW := hx_W_rt hW gx tt_118 tt_2 (fun _ _ => rfl)
  have hM := hx_SX_rt (x := x) (t := 2) hM
  have gv1 := hx_rt_o (t := 2) gv1 (gv1.ne gx ?o91)
  case o91 => decide
  have gv2 := hx_rt_o (t := 2) gv2 (gv2.ne gx ?o92)
  case o92 => decide
  have gv3 := hx_rt_o (t := 2) gv3 (gv3.ne gx ?o93)
  case o93 => decide
  have gq_2 := hx_rt_o (t := 2) gq_2 (gq_2.ne gx ?o94)
  case o94 => decide
  have gq_6 := hx_rt_o (t := 2) gq_6 (gq_6.ne gx ?o95)
  case o95 => decide
  have gx := hx_rt_g (t := 2) gx
  have f_4 : (hx_rt h_31 x 2).2.2 x 4 = some q_2 := f_4
  have f_8 : (hx_rt h_31 x 2).2.2 x 5 = some q_6 := f_8
  have f_10 : (hx_rt h_31 x 2).2.1 x 10 = (-1 : Int32) := f_10
  have f_12 : (hx_rt h_31 x 2).2.1 x 11 = (-1 : Int32) := f_12
  have f_14 : (hx_rt h_31 x 2).2.1 x 13 = (-1 : Int32) := f_14
  have f_16 : (hx_rt h_31 x 2).2.1 x 16 = (-1 : Int32) := f_16
  have f_18 : (hx_rt h_31 x 2).2.1 x 18 = (-1 : Int32) := f_18
  have f_20 : (hx_rt h_31 x 2).2.1 x 0 = i1 := f_20
  have f_22 : (hx_rt h_31 x 2).2.2 x 1 = some v1 := f_22
  have f_24 : (hx_rt h_31 x 2).2.2 x 2 = some v2 := f_24
  have f_26 : (hx_rt h_31 x 2).2.2 x 3 = some v3 := f_26
  have f_33 : (hx_rt h_31 x 2).2.1 x 9 = (0 : Int32) := f_33
  have f_34 : (hx_rt h_31 x 2).2.1 x 12 = (0 : Int32) := f_34
  have f_35 : (hx_rt h_31 x 2).2.1 x 14 = (0 : Int32) := f_35
  have f_36 : (hx_rt h_31 x 2).2.1 x 15 = (0 : Int32) := f_36
  have f_37 : (hx_rt h_31 x 2).2.1 x 17 = (0 : Int32) := f_37
  have nfa_32 : (hx_rt h_31 x 2).2.1 q_6 = fa_32 := nfa_32
  generalize eh : hx_rt h_31 x 2 = h_38 at hT hW hM gx gv1 gv2 gv3 gq_2 gq_6 f_4 f_8 f_10 f_12 f_14 f_16 f_18 f_20 f_22 f_24 f_26 f_33 f_34 f_35 f_36 f_37 nfa_32
  refine W.widen (k := 2) (n := 11) (Nat.le_of_ble_eq_true rfl) (Nat.le_of_ble_eq_true rfl) ?_
  exact hx_retv hx hb hr hlk hW ⟨hT, hM, gx, f_20, f_10, f_12, f_33, f_34, f_14, f_16, f_18, f_35, f_36, f_37, f_22, f_24, f_26, ⟨q_2, f_4, gq_2, ⟨trivial, nq_q_2⟩⟩, ⟨q_6, f_8, gq_6, ⟨(by rw [nfa_32]; exact hv_bn3 dfa_28 dfa_30 dfa_32), nq_q_6⟩⟩⟩ dX2_init_86
end
