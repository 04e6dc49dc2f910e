set_option maxHeartbeats 4000000 in
set_option maxRecDepth 100000 in
theorem law_case_8 {p : Program} {e : Env} {s : State} {m : MethodId} {below : List Frame} {meth : Method} {c : Code} (l : Launch) {b LN : Nat} {xs : Nat → Int32} (hx : p.tables.exec = Jvm.exec) (hb : c.code = code) (hr : meth.sig.returnType = ret) (hlocks : meth.locks = false) (hml : c.maxLocals = 4) (hown : s.vm.findClass "SmallCourtLaw" = some m.cls) (hts : ∀ w ∈ hx_all, w.before #[Value.ref b] s = true) (hX : va_X b LN xs s s.heap) (hbl : b < s.heap.size) (hbA : ¬ s.heap.size ≤ b) (hLN : LN ≤ 3584) (dC : Nat → ClassId) (dI : Nat → Nat → Nat) (dA : Nat → ClassId) (b0 : hx_z) (ax am : Nat) (T1 : Int) (hT0 : 0 ≤ T1) (hT1 : T1 ≤ 511) (i : Int32) (hi0 : 0 ≤ i.toInt) (hiL : i.toInt + 7 ≤ LN) (CC SS : Nat) (hCC : CC + 3 ≤ 600000) (hSS : SS + 179 ≤ 7302250) (L1 : List Nat) (hl1 : hx_h) (H : Heap) (locs : List Loc) (ls : Array Slot) (hW : hx_W T_tb (P_ty dA) (dC, dI) vwCl (fun q : Nat => s.heap.size ≤ q) s.heap L1 hl1 s H locs) (hZ : hx_Xt (fun q : Nat => s.heap.size ≤ q) b0 s) (hI : hx_IV T1 ax am L1 hl1) (hl : lv_has ls 4 [(3, .int i), (2, .ref am), (1, .ref ax), (0, .ref b)]) (kk : ∀ (L2 : List Nat) (h2 : hx_h) (H2 : Heap) (locs2 : List Loc) (ls2 : Array Slot), hx_W T_tb (P_ty dA) (dC, dI) vwCl (fun q : Nat => s.heap.size ≤ q) s.heap L2 h2 s H2 locs2 → hx_IV (T1 + 1) ax am L2 h2 → lv_has ls2 4 [(3, .int i), (2, .ref am), (1, .ref ax), (0, .ref b)] → W p l e room_1 s m #[Value.ref b] below meth c H2 locs2 (CC + 3) (SS + 179) (lw_Z below #[Value.ref b] s) (F0 m 1379 ls2 [])) : W p l e room_1 s m #[Value.ref b] below meth c H locs CC SS (lw_Z below #[Value.ref b] s) (F0 m 498 ls []) := by
  obtain ⟨hT, gx, gm, ⟨he_nw, he_np, he_c0, ho_ln, ho_lsd, ho_wkm, hn_qp, hn_qc, hk_of, hk_wf, hk_df, hk_kf, hk_sf, hkBD, hLQ, hLE, hkWD, hkDF, hc_dead, hc_isj, hc_dox, hc_doy, hc_fou, hc_tri, -⟩, ⟨ia, ip, ic, ih, il⟩, ⟨jw, jr, jp, jl, jh, jt, jf⟩⟩ := hI
  obtain ⟨qa, f_qa, g_qa⟩ := hx_rf hT gx tt_9 (k := 5) (u := 43) rfl
  have pf_qa := ia qa f_qa
  obtain ⟨qp, f_qp, g_qp⟩ := hx_rf hT gx tt_9 (k := 7) (u := 44) rfl
  have pf_qp := ip qp f_qp
  obtain ⟨qc, f_qc, g_qc⟩ := hx_rf hT gx tt_9 (k := 10) (u := 45) rfl
  have pf_qc := ic qc f_qc
  obtain ⟨qh, f_qh, g_qh⟩ := hx_rf hT gx tt_9 (k := 12) (u := 46) rfl
  have pf_qh := ih qh f_qh
  obtain ⟨qw, f_qw, g_qw⟩ := hx_rf hT gx tt_9 (k := 19) (u := 8) rfl
  obtain ⟨ql, f_ql, g_ql⟩ := hx_rf hT g_qw tt_8 (k := 3) (u := 40) rfl
  have pf_ql := il qw ql f_qw f_ql
  obtain ⟨nw, f_m_now⟩ : ∃ y : Int32, hl1.2.1 am 0 = y := ⟨_, rfl⟩
  have b_nw := hT.gi gm tt_10 (k := 0) rfl
  rw [f_m_now] at b_nw
  have b_nw : 0 ≤ nw.toInt ∧ nw.toInt ≤ 7999 := b_nw
  obtain ⟨np, f_m_persons⟩ : ∃ y : Int32, hl1.2.1 am 20 = y := ⟨_, rfl⟩
  have b_np := hT.gi gm tt_10 (k := 20) rfl
  rw [f_m_persons] at b_np
  have b_np : 0 ≤ np.toInt ∧ np.toInt ≤ 40 := b_np
  obtain ⟨c0, f_m_claims⟩ : ∃ y : Int32, hl1.2.1 am 36 = y := ⟨_, rfl⟩
  have b_c0 := hT.gi gm tt_10 (k := 36) rfl
  rw [f_m_claims] at b_c0
  have b_c0 : 0 ≤ c0.toInt ∧ c0.toInt ≤ 100 := b_c0
  obtain ⟨ln, f_m_lines⟩ : ∃ y : Int32, hl1.2.1 am 29 = y := ⟨_, rfl⟩
  have b_ln := hT.gi gm tt_10 (k := 29) rfl
  rw [f_m_lines] at b_ln
  have b_ln : 0 ≤ ln.toInt ∧ ln.toInt ≤ 400 := b_ln
  obtain ⟨lsd, f_m_listed⟩ : ∃ y : Int32, hl1.2.1 am 90 = y := ⟨_, rfl⟩
  have b_lsd := hT.gi gm tt_10 (k := 90) rfl
  rw [f_m_listed] at b_lsd
  have b_lsd : 0 ≤ lsd.toInt ∧ lsd.toInt ≤ 8 := b_lsd
  obtain ⟨wkm, f_m_walkedMany⟩ : ∃ y : Int32, hl1.2.1 am 92 = y := ⟨_, rfl⟩
  have b_wkm := hT.gi gm tt_10 (k := 92) rfl
  rw [f_m_walkedMany] at b_wkm
  have b_wkm : 0 ≤ wkm.toInt ∧ wkm.toInt ≤ 8 := b_wkm
  obtain ⟨a0, f_m_acts⟩ : ∃ y : Int32, hl1.2.1 am 1 = y := ⟨_, rfl⟩
  have b_a0 := hT.gi gm tt_10 (k := 1) rfl
  rw [f_m_acts] at b_a0
  have b_a0 : 0 ≤ a0.toInt ∧ a0.toInt ≤ 8 := b_a0
  obtain ⟨m0, f_m_heardMany⟩ : ∃ y : Int32, hl1.2.1 am 57 = y := ⟨_, rfl⟩
  have b_m0 := hT.gi gm tt_10 (k := 57) rfl
  rw [f_m_heardMany] at b_m0
  have b_m0 : 0 ≤ m0.toInt ∧ m0.toInt ≤ 100 := b_m0
  have f_x_now : hl1.2.1 ax 2 = nw := he_nw.trans f_m_now
  have f_x_personCount : hl1.2.1 ax 8 = np := he_np.trans f_m_persons
  have f_x_claimCount : hl1.2.1 ax 11 = c0 := he_c0.trans f_m_claims
  obtain ⟨mw, f_mw, g_mw⟩ := hx_rf hT gm tt_10 (k := 19) (u := 57) rfl
  obtain ⟨F_mw, n_mw⟩ : ∃ g : Nat → Int32, hl1.2.1 mw = g := ⟨_, rfl⟩
  obtain ⟨mr, f_mr, g_mr⟩ := hx_rf hT gm tt_10 (k := 3) (u := 50) rfl
  obtain ⟨F_mr, n_mr⟩ : ∃ g : Nat → Int32, hl1.2.1 mr = g := ⟨_, rfl⟩
  obtain ⟨mp, f_mp, g_mp⟩ := hx_rf hT gm tt_10 (k := 5) (u := 52) rfl
  obtain ⟨F_mp, n_mp⟩ : ∃ g : Nat → Int32, hl1.2.1 mp = g := ⟨_, rfl⟩
  obtain ⟨mn, f_mn, g_mn⟩ := hx_rf hT gm tt_10 (k := 4) (u := 51) rfl
  obtain ⟨F_mn, n_mn⟩ : ∃ g : Nat → Int32, hl1.2.1 mn = g := ⟨_, rfl⟩
  obtain ⟨ml, f_ml, g_ml⟩ := hx_rf hT gm tt_10 (k := 44) (u := 79) rfl
  obtain ⟨F_ml, n_ml⟩ : ∃ g : Nat → Int32, hl1.2.1 ml = g := ⟨_, rfl⟩
  obtain ⟨mh, f_mh, g_mh⟩ := hx_rf hT gm tt_10 (k := 47) (u := 82) rfl
  obtain ⟨F_mh, n_mh⟩ : ∃ g : Nat → Int32, hl1.2.1 mh = g := ⟨_, rfl⟩
  obtain ⟨mt, f_mt, g_mt⟩ := hx_rf hT gm tt_10 (k := 45) (u := 80) rfl
  obtain ⟨F_mt, n_mt⟩ : ∃ g : Nat → Int32, hl1.2.1 mt = g := ⟨_, rfl⟩
  obtain ⟨m_fou, f_m_fou, g_m_fou⟩ := hx_rf hT gm tt_10 (k := 46) (u := 81) rfl
  obtain ⟨F_m_fou, n_m_fou⟩ : ∃ g : Nat → Int32, hl1.2.1 m_fou = g := ⟨_, rfl⟩
  obtain ⟨qo_ln, f_qo_ln, g_qo_ln⟩ := hx_rf hT gx tt_9 (k := 9) (u := 1) rfl
  have f_o_ln : hl1.2.1 qo_ln 0 = ln := (ho_ln qo_ln f_qo_ln).trans f_m_lines
  have f_o_lsd : hl1.2.1 qw 0 = lsd := (ho_lsd qw f_qw).trans f_m_listed
  have f_o_wkm : hl1.2.1 qw 1 = wkm := (ho_wkm qw f_qw).trans f_m_walkedMany
  have nu_qp := hn_qp qp f_qp; rw [f_x_personCount] at nu_qp
  have nu_qc := hn_qc qc f_qc; rw [f_x_claimCount] at nu_qc
  obtain ⟨b_of, f_b_of, g_b_of⟩ := hx_rf hT g_qo_ln tt_1 (k := 1) (u := 13) rfl
  obtain ⟨B_of, n_b_of⟩ : ∃ g : Nat → Int32, hl1.2.1 b_of = g := ⟨_, rfl⟩
  obtain ⟨m_of, f_m_of, g_m_of⟩ := hx_rf hT gm tt_10 (k := 30) (u := 66) rfl
  obtain ⟨F_of, n_m_of⟩ : ∃ g : Nat → Int32, hl1.2.1 m_of = g := ⟨_, rfl⟩
  have eb_of := hk_of qo_ln b_of m_of f_qo_ln f_b_of f_m_of; rw [n_b_of, n_m_of, f_o_ln] at eb_of
  obtain ⟨b_wf, f_b_wf, g_b_wf⟩ := hx_rf hT g_qo_ln tt_1 (k := 2) (u := 14) rfl
  obtain ⟨B_wf, n_b_wf⟩ : ∃ g : Nat → Int32, hl1.2.1 b_wf = g := ⟨_, rfl⟩
  obtain ⟨m_wf, f_m_wf, g_m_wf⟩ := hx_rf hT gm tt_10 (k := 31) (u := 67) rfl
  obtain ⟨F_wf, n_m_wf⟩ : ∃ g : Nat → Int32, hl1.2.1 m_wf = g := ⟨_, rfl⟩
  have eb_wf := hk_wf qo_ln b_wf m_wf f_qo_ln f_b_wf f_m_wf; rw [n_b_wf, n_m_wf, f_o_ln] at eb_wf
  obtain ⟨b_df, f_b_df, g_b_df⟩ := hx_rf hT g_qo_ln tt_1 (k := 3) (u := 15) rfl
  obtain ⟨B_df, n_b_df⟩ : ∃ g : Nat → Int32, hl1.2.1 b_df = g := ⟨_, rfl⟩
  obtain ⟨m_df, f_m_df, g_m_df⟩ := hx_rf hT gm tt_10 (k := 32) (u := 68) rfl
  obtain ⟨F_df, n_m_df⟩ : ∃ g : Nat → Int32, hl1.2.1 m_df = g := ⟨_, rfl⟩
  have eb_df := hk_df qo_ln b_df m_df f_qo_ln f_b_df f_m_df; rw [n_b_df, n_m_df, f_o_ln] at eb_df
  obtain ⟨b_kf, f_b_kf, g_b_kf⟩ := hx_rf hT g_qo_ln tt_1 (k := 4) (u := 16) rfl
  obtain ⟨B_kf, n_b_kf⟩ : ∃ g : Nat → Int32, hl1.2.1 b_kf = g := ⟨_, rfl⟩
  obtain ⟨m_kf, f_m_kf, g_m_kf⟩ := hx_rf hT gm tt_10 (k := 33) (u := 69) rfl
  obtain ⟨F_kf, n_m_kf⟩ : ∃ g : Nat → Int32, hl1.2.1 m_kf = g := ⟨_, rfl⟩
  have eb_kf := hk_kf qo_ln b_kf m_kf f_qo_ln f_b_kf f_m_kf; rw [n_b_kf, n_m_kf, f_o_ln] at eb_kf
  obtain ⟨b_sf, f_b_sf, g_b_sf⟩ := hx_rf hT g_qo_ln tt_1 (k := 5) (u := 17) rfl
  obtain ⟨B_sf, n_b_sf⟩ : ∃ g : Nat → Int32, hl1.2.1 b_sf = g := ⟨_, rfl⟩
  obtain ⟨m_sf, f_m_sf, g_m_sf⟩ := hx_rf hT gm tt_10 (k := 34) (u := 70) rfl
  obtain ⟨F_sf, n_m_sf⟩ : ∃ g : Nat → Int32, hl1.2.1 m_sf = g := ⟨_, rfl⟩
  have eb_sf := hk_sf qo_ln b_sf m_sf f_qo_ln f_b_sf f_m_sf; rw [n_b_sf, n_m_sf, f_o_ln] at eb_sf
  obtain ⟨b_bf, f_b_bf, g_b_bf⟩ := hx_rf hT g_qo_ln tt_1 (k := 6) (u := 18) rfl
  obtain ⟨bfL, n_b_bf⟩ : ∃ g : Nat → Int32, hl1.2.1 b_bf = g := ⟨_, rfl⟩
  obtain ⟨hBD, hDY⟩ := hkBD qo_ln b_df b_bf f_qo_ln f_b_df f_b_bf; rw [n_b_df, n_b_bf, f_o_ln] at hBD; rw [n_b_df, f_o_ln] at hDY
  have hBDm := hy_BD_c eb_df hBD
  have hDYm : hy_DY F_df ln.toInt.toNat := fun x hx => by rw [← eb_df x hx]; exact hDY x hx
  have sb_list := hLQ qw ql qc f_qw f_ql f_qc
  obtain ⟨m_lst, f_m_lst, g_m_lst⟩ := hx_rf hT gm tt_10 (k := 91) (u := 112) rfl
  obtain ⟨F_lst, n_lst⟩ : ∃ g : Nat → Int32, hl1.2.1 m_lst = g := ⟨_, rfl⟩
  obtain ⟨c_lst, cl_lst⟩ : ∃ g : Nat → Int32, hx_col 8 hl1 ql 0 = g := ⟨_, rfl⟩
  have eq_lst := hLE qw ql m_lst f_qw f_ql f_m_lst; rw [cl_lst, n_lst] at eq_lst
  obtain ⟨c_dead, cl_dead⟩ : ∃ g : Nat → Int32, hx_col 40 hl1 qp 7 = g := ⟨_, rfl⟩
  obtain ⟨m_dead, f_m_dead, g_m_dead⟩ := hx_rf hT gm tt_10 (k := 27) (u := 64) rfl
  obtain ⟨F_dead, n_dead⟩ : ∃ g : Nat → Int32, hl1.2.1 m_dead = g := ⟨_, rfl⟩
  have eq_dead := hc_dead qp m_dead f_qp f_m_dead; rw [cl_dead, n_dead] at eq_dead
  have z_dead : np.toInt.toNat < 40 → c_dead np.toInt.toNat = 0 := fun hj => hx_num_z nu_qp cl_dead hj (by omega)
  obtain ⟨c_isj, cl_isj⟩ : ∃ g : Nat → Int32, hx_col 40 hl1 qp 8 = g := ⟨_, rfl⟩
  obtain ⟨m_isj, f_m_isj, g_m_isj⟩ := hx_rf hT gm tt_10 (k := 28) (u := 65) rfl
  obtain ⟨F_isj, n_isj⟩ : ∃ g : Nat → Int32, hl1.2.1 m_isj = g := ⟨_, rfl⟩
  have eq_isj := hc_isj qp m_isj f_qp f_m_isj; rw [cl_isj, n_isj] at eq_isj
  have z_isj : np.toInt.toNat < 40 → c_isj np.toInt.toNat = 0 := fun hj => hx_num_z nu_qp cl_isj hj (by omega)
  obtain ⟨c_dox, cl_dox⟩ : ∃ g : Nat → Int32, hx_col 40 hl1 qp 5 = g := ⟨_, rfl⟩
  obtain ⟨m_dox, f_m_dox, g_m_dox⟩ := hx_rf hT gm tt_10 (k := 24) (u := 61) rfl
  obtain ⟨F_dox, n_dox⟩ : ∃ g : Nat → Int32, hl1.2.1 m_dox = g := ⟨_, rfl⟩
  have eq_dox := hc_dox qp m_dox f_qp f_m_dox; rw [cl_dox, n_dox] at eq_dox
  have z_dox : np.toInt.toNat < 40 → c_dox np.toInt.toNat = 0 := fun hj => hx_num_z nu_qp cl_dox hj (by omega)
  obtain ⟨c_doy, cl_doy⟩ : ∃ g : Nat → Int32, hx_col 40 hl1 qp 6 = g := ⟨_, rfl⟩
  obtain ⟨m_doy, f_m_doy, g_m_doy⟩ := hx_rf hT gm tt_10 (k := 25) (u := 62) rfl
  obtain ⟨F_doy, n_doy⟩ : ∃ g : Nat → Int32, hl1.2.1 m_doy = g := ⟨_, rfl⟩
  have eq_doy := hc_doy qp m_doy f_qp f_m_doy; rw [cl_doy, n_doy] at eq_doy
  have z_doy : np.toInt.toNat < 40 → c_doy np.toInt.toNat = 0 := fun hj => hx_num_z nu_qp cl_doy hj (by omega)
  obtain ⟨c_fou, cl_fou⟩ : ∃ g : Nat → Int32, hx_col 100 hl1 qc 10 = g := ⟨_, rfl⟩
  have eq_fou := hc_fou qc m_fou f_qc f_m_fou; rw [cl_fou, n_m_fou] at eq_fou
  have z_fou : c0.toInt.toNat < 100 → c_fou c0.toInt.toNat = 0 := fun hj => hx_num_z nu_qc cl_fou hj (by omega)
  obtain ⟨c_tri, cl_tri⟩ : ∃ g : Nat → Int32, hx_col 100 hl1 qc 9 = g := ⟨_, rfl⟩
  have eq_tri := hc_tri qc mt f_qc f_mt; rw [cl_tri, n_mt] at eq_tri
  have z_tri : c0.toInt.toNat < 100 → c_tri c0.toInt.toNat = 0 := fun hj => hx_num_z nu_qc cl_tri hj (by omega)
  obtain ⟨qlt, f_qlt, g_qlt⟩ := hx_rf hT g_qw tt_8 (k := 2) (u := 39) rfl
  obtain ⟨qlf, f_qlf, g_qlf⟩ := hx_rf hT g_qw tt_8 (k := 4) (u := 41) rfl
  obtain ⟨m_wkd, f_m_wkd, g_m_wkd⟩ := hx_rf hT gm tt_10 (k := 93) (u := 113) rfl
  obtain ⟨F_qlt, n_qlt⟩ : ∃ g : Nat → Int32, hl1.2.1 qlt = g := ⟨_, rfl⟩
  obtain ⟨F_m_wkd, n_m_wkd⟩ : ∃ g : Nat → Int32, hl1.2.1 m_wkd = g := ⟨_, rfl⟩
  have eb_wkd := hkWD qw qlt m_wkd f_qw f_qlt f_m_wkd; rw [n_qlt, n_m_wkd, f_o_wkm] at eb_wkd
  obtain ⟨m_aga, f_m_aga, g_m_aga⟩ := hx_rf hT gm tt_10 (k := 38) (u := 73) rfl
  obtain ⟨F_aga, n_aga⟩ : ∃ g : Nat → Int32, hl1.2.1 m_aga = g := ⟨_, rfl⟩
  have hDF := hkDF qc qp m_aga f_qc f_qp f_m_aga; rw [n_aga, f_x_claimCount] at hDF
  have hwd := jw mw f_mw; rw [n_mw] at hwd
  have hWK := jr mr f_mr; rw [n_mr, f_m_acts] at hWK
  have hRP := jp mp mn f_mp f_mn; rw [n_mp, n_mn, f_m_acts] at hRP
  have hPL := jl ml f_ml; rw [n_ml, f_m_claims, f_m_acts] at hPL
  have hHC := jh mh f_mh; rw [n_mh, f_m_heardMany, f_m_claims] at hHC
  have hTR := jt mt f_mt; rw [n_mt] at hTR
  have hHF := jf mh m_fou f_mh f_m_fou; rw [n_mh, n_m_fou, f_m_claims] at hHF
  refine lv_aload_n hx hb dL_law_498 rfl (lv_at hl 2 rfl) ?_
  refine lv_aload_n hx hb dL_law_499 rfl (lv_at hl 3 rfl) ?_
  refine lv_iload_n hx hb dL_law_500 rfl (lv_at hl 0 rfl) ?_
  refine lv_iconst (v := 1) hx hb dL_law_501 (by decide) ?_
  refine lv_iadd hx hb dL_law_502 ?_
  have rg_208 := i32_r i
  refine lv_topi (fun x_209 ex_209 => ?_)
  have zx_209 : x_209.toInt = i.toInt + 1 := by rw [ex_209]; exact i32_add rfl (by decide) (by omega) (by omega)
  refine va_sld hx hb hX hbl hbA hW.2.2.2.1 (vp_in_iff.mpr ⟨by omega, by omega⟩) dL_law_503 ?_
  refine lv_topi (fun x_210 ex_210 => ?_)
  refine lv_aload_n hx hb dL_law_504 rfl (lv_at hl 3 rfl) ?_
  refine lv_iload_n hx hb dL_law_505 rfl (lv_at hl 0 rfl) ?_
  refine lv_iconst (v := 2) hx hb dL_law_506 (by decide) ?_
  refine lv_iadd hx hb dL_law_507 ?_
  refine lv_topi (fun x_211 ex_211 => ?_)
  have zx_211 : x_211.toInt = i.toInt + 2 := by rw [ex_211]; exact i32_add rfl (by decide) (by omega) (by omega)
  refine va_sld hx hb hX hbl hbA hW.2.2.2.1 (vp_in_iff.mpr ⟨by omega, by omega⟩) dL_law_508 ?_
  refine lv_topi (fun x_212 ex_212 => ?_)
  have jn_517 : ∀ (xj_213 : Int32) (ls : Array Slot), 0 ≤ xj_213.toInt → xj_213.toInt ≤ 1 → (x_212.toInt = 0 ∧ xj_213.toInt = 0) ∨ (x_212.toInt ≠ 0 ∧ xj_213.toInt = 1) → lv_has ls 4 [(3, .int i), (2, .ref am), (1, .ref ax), (0, .ref b)] → W p l e room_1 s m #[Value.ref b] below meth c H locs (CC) (SS) (lw_Z below #[Value.ref b] s) (F0 m 517 ls [.int xj_213, .int x_210, .ref ax]) := by
    intro xj_213 ls blxj_213 buxj_213 jcxj_213 hl
    have hTo := hT
    refine hx_goi (hx_runV (As := [.int x_210, .int xj_213]) (rest := []) ⟨hx, hb, hml, hown, hts⟩ hW gx tt_9 (T := TX9) (N := 20) rfl (t_X9_judge_2 l dC dI dA L1 hl1 H.size ax x_210 xj_213 hT gx np f_x_personCount (by omega) qp g_qp f_qp pf_qp c_isj cl_isj nu_qp) (cwV 2 hts (hx_gV kw_667 kw_664 kw_665 kw_666 kw_94) rfl rfl rfl (by decide +kernel) ⟨Nat.le_of_ble_eq_true rfl, Nat.le_of_ble_eq_true rfl⟩) rfl hl.1 rfl (Nat.le_of_ble_eq_true rfl) dL_law_517 ⟨(show CC + 0 ≤ 600000 from by omega), (show SS + 0 ≤ 7302250 from by omega)⟩) hW (fun r_216 L_214 h_215 H locs p_217 hW => ?_)
    obtain ⟨⟨w_219, fw_219, hr_218⟩, hT, hs⟩ := p_217
    replace hT : hx_T T_tb L_214 h_215 := hT
    replace hs : hx_S T_tb [(4, 8), (4, 9)] L1 hl1 L_214 h_215 := hs
    replace f_qa := (hs.o gx trivial rfl).2.trans f_qa
    replace f_qp := (hs.o gx trivial rfl).2.trans f_qp
    replace f_qc := (hs.o gx trivial rfl).2.trans f_qc
    replace f_qh := (hs.o gx trivial rfl).2.trans f_qh
    replace f_qw := (hs.o gx trivial rfl).2.trans f_qw
    replace f_ql := (hs.o g_qw trivial rfl).2.trans f_ql
    replace f_m_now := (hs.o gm trivial rfl).1.trans f_m_now
    replace f_m_persons := (hs.o gm trivial rfl).1.trans f_m_persons
    replace f_m_claims := (hs.o gm trivial rfl).1.trans f_m_claims
    replace f_m_lines := (hs.o gm trivial rfl).1.trans f_m_lines
    replace f_m_listed := (hs.o gm trivial rfl).1.trans f_m_listed
    replace f_m_walkedMany := (hs.o gm trivial rfl).1.trans f_m_walkedMany
    replace f_m_acts := (hs.o gm trivial rfl).1.trans f_m_acts
    replace f_m_heardMany := (hs.o gm trivial rfl).1.trans f_m_heardMany
    replace f_x_now := (hs.o gx trivial rfl).1.trans f_x_now
    replace f_x_personCount := (hs.o gx trivial rfl).1.trans f_x_personCount
    replace f_x_claimCount := (hs.o gx trivial rfl).1.trans f_x_claimCount
    replace f_mw := (hs.o gm trivial rfl).2.trans f_mw
    replace f_mr := (hs.o gm trivial rfl).2.trans f_mr
    replace f_mp := (hs.o gm trivial rfl).2.trans f_mp
    replace f_mn := (hs.o gm trivial rfl).2.trans f_mn
    replace f_ml := (hs.o gm trivial rfl).2.trans f_ml
    replace f_mh := (hs.o gm trivial rfl).2.trans f_mh
    replace f_mt := (hs.o gm trivial rfl).2.trans f_mt
    replace f_m_fou := (hs.o gm trivial rfl).2.trans f_m_fou
    replace f_qo_ln := (hs.o gx trivial rfl).2.trans f_qo_ln
    replace f_o_ln := (hs.o g_qo_ln trivial rfl).1.trans f_o_ln
    replace f_o_lsd := (hs.o g_qw trivial rfl).1.trans f_o_lsd
    replace f_o_wkm := (hs.o g_qw trivial rfl).1.trans f_o_wkm
    replace f_b_of := (hs.o g_qo_ln trivial rfl).2.trans f_b_of
    replace f_m_of := (hs.o gm trivial rfl).2.trans f_m_of
    replace f_b_wf := (hs.o g_qo_ln trivial rfl).2.trans f_b_wf
    replace f_m_wf := (hs.o gm trivial rfl).2.trans f_m_wf
    replace f_b_df := (hs.o g_qo_ln trivial rfl).2.trans f_b_df
    replace f_m_df := (hs.o gm trivial rfl).2.trans f_m_df
    replace f_b_kf := (hs.o g_qo_ln trivial rfl).2.trans f_b_kf
    replace f_m_kf := (hs.o gm trivial rfl).2.trans f_m_kf
    replace f_b_sf := (hs.o g_qo_ln trivial rfl).2.trans f_b_sf
    replace f_m_sf := (hs.o gm trivial rfl).2.trans f_m_sf
    replace f_b_bf := (hs.o g_qo_ln trivial rfl).2.trans f_b_bf
    replace f_m_lst := (hs.o gm trivial rfl).2.trans f_m_lst
    replace f_m_dead := (hs.o gm trivial rfl).2.trans f_m_dead
    replace f_m_isj := (hs.o gm trivial rfl).2.trans f_m_isj
    replace f_m_dox := (hs.o gm trivial rfl).2.trans f_m_dox
    replace f_m_doy := (hs.o gm trivial rfl).2.trans f_m_doy
    replace f_qlt := (hs.o g_qw trivial rfl).2.trans f_qlt
    replace f_qlf := (hs.o g_qw trivial rfl).2.trans f_qlf
    replace f_m_wkd := (hs.o gm trivial rfl).2.trans f_m_wkd
    replace f_m_aga := (hs.o gm trivial rfl).2.trans f_m_aga
    replace pf_qa : ∀ j : Nat, (j : Int) < (h_215.2.1 ax 6).toInt → h_215.2.2 qa j ≠ none := by
      intro j hj; rw [(hs.o gx trivial rfl).1] at hj; rw [(hs.a g_qa rfl j).2]; exact pf_qa j hj
    replace pf_qp : ∀ j : Nat, (j : Int) < (h_215.2.1 ax 8).toInt → h_215.2.2 qp j ≠ none := by
      intro j hj; rw [(hs.o gx trivial rfl).1] at hj; rw [(hs.a g_qp rfl j).2]; exact pf_qp j hj
    replace pf_qc : ∀ j : Nat, (j : Int) < (h_215.2.1 ax 11).toInt → h_215.2.2 qc j ≠ none := by
      intro j hj; rw [(hs.o gx trivial rfl).1] at hj; rw [(hs.a g_qc rfl j).2]; exact pf_qc j hj
    replace pf_qh : ∀ j : Nat, (j : Int) < (h_215.2.1 ax 13).toInt → h_215.2.2 qh j ≠ none := by
      intro j hj; rw [(hs.o gx trivial rfl).1] at hj; rw [(hs.a g_qh rfl j).2]; exact pf_qh j hj
    replace pf_ql : ∀ j : Nat, (j : Int) < (h_215.2.1 qw 0).toInt → h_215.2.2 ql j ≠ none := by
      intro j hj; rw [(hs.o g_qw trivial rfl).1] at hj; rw [(hs.a g_ql rfl j).2]; exact pf_ql j hj
    replace cl_lst : hx_col 8 h_215 ql 0 = c_lst := (hx_col_S hs hTo g_ql tt_40 tt_2 rfl rfl).trans cl_lst
    replace cl_dead : hx_col 40 h_215 qp 7 = c_dead := (hx_col_S hs hTo g_qp tt_44 tt_4 rfl rfl).trans cl_dead
    replace cl_dox : hx_col 40 h_215 qp 5 = c_dox := (hx_col_S hs hTo g_qp tt_44 tt_4 rfl rfl).trans cl_dox
    replace cl_doy : hx_col 40 h_215 qp 6 = c_doy := (hx_col_S hs hTo g_qp tt_44 tt_4 rfl rfl).trans cl_doy
    replace cl_fou : hx_col 100 h_215 qc 10 = c_fou := (hx_col_S hs hTo g_qc tt_45 tt_2 rfl rfl).trans cl_fou
    replace cl_tri : hx_col 100 h_215 qc 9 = c_tri := (hx_col_S hs hTo g_qc tt_45 tt_2 rfl rfl).trans cl_tri
    replace nu_qp : hx_num 40 h_215 qp 0 (np.toInt) := hx_num_S hs hTo g_qp tt_44 tt_4 rfl rfl nu_qp
    replace nu_qc : hx_num 100 h_215 qc 0 (c0.toInt) := hx_num_S hs hTo g_qc tt_45 tt_2 rfl rfl nu_qc
    replace sb_list : hx_LQ 8 100 h_215 ql qc := hx_LQ_S hs g_ql g_qc rfl rfl sb_list
    replace hDF : hw_DF h_215 qc qp 2 F_aga c0.toInt := hw_DF_S hs hTo g_qc g_qp tt_45 tt_2 rfl rfl rfl hDF
    replace n_mw : h_215.2.1 mw = F_mw := (funext fun j => (hs.a g_mw rfl j).1).trans n_mw
    replace n_mr : h_215.2.1 mr = F_mr := (funext fun j => (hs.a g_mr rfl j).1).trans n_mr
    replace n_mp : h_215.2.1 mp = F_mp := (funext fun j => (hs.a g_mp rfl j).1).trans n_mp
    replace n_mn : h_215.2.1 mn = F_mn := (funext fun j => (hs.a g_mn rfl j).1).trans n_mn
    replace n_ml : h_215.2.1 ml = F_ml := (funext fun j => (hs.a g_ml rfl j).1).trans n_ml
    replace n_mh : h_215.2.1 mh = F_mh := (funext fun j => (hs.a g_mh rfl j).1).trans n_mh
    replace n_mt : h_215.2.1 mt = F_mt := (funext fun j => (hs.a g_mt rfl j).1).trans n_mt
    replace n_m_fou : h_215.2.1 m_fou = F_m_fou := (funext fun j => (hs.a g_m_fou rfl j).1).trans n_m_fou
    replace n_b_of : h_215.2.1 b_of = B_of := (funext fun j => (hs.a g_b_of rfl j).1).trans n_b_of
    replace n_m_of : h_215.2.1 m_of = F_of := (funext fun j => (hs.a g_m_of rfl j).1).trans n_m_of
    replace n_b_wf : h_215.2.1 b_wf = B_wf := (funext fun j => (hs.a g_b_wf rfl j).1).trans n_b_wf
    replace n_m_wf : h_215.2.1 m_wf = F_wf := (funext fun j => (hs.a g_m_wf rfl j).1).trans n_m_wf
    replace n_b_df : h_215.2.1 b_df = B_df := (funext fun j => (hs.a g_b_df rfl j).1).trans n_b_df
    replace n_m_df : h_215.2.1 m_df = F_df := (funext fun j => (hs.a g_m_df rfl j).1).trans n_m_df
    replace n_b_kf : h_215.2.1 b_kf = B_kf := (funext fun j => (hs.a g_b_kf rfl j).1).trans n_b_kf
    replace n_m_kf : h_215.2.1 m_kf = F_kf := (funext fun j => (hs.a g_m_kf rfl j).1).trans n_m_kf
    replace n_b_sf : h_215.2.1 b_sf = B_sf := (funext fun j => (hs.a g_b_sf rfl j).1).trans n_b_sf
    replace n_m_sf : h_215.2.1 m_sf = F_sf := (funext fun j => (hs.a g_m_sf rfl j).1).trans n_m_sf
    replace n_b_bf : h_215.2.1 b_bf = bfL := (funext fun j => (hs.a g_b_bf rfl j).1).trans n_b_bf
    replace n_lst : h_215.2.1 m_lst = F_lst := (funext fun j => (hs.a g_m_lst rfl j).1).trans n_lst
    replace n_dead : h_215.2.1 m_dead = F_dead := (funext fun j => (hs.a g_m_dead rfl j).1).trans n_dead
    replace n_isj : h_215.2.1 m_isj = F_isj := (funext fun j => (hs.a g_m_isj rfl j).1).trans n_isj
    replace n_dox : h_215.2.1 m_dox = F_dox := (funext fun j => (hs.a g_m_dox rfl j).1).trans n_dox
    replace n_doy : h_215.2.1 m_doy = F_doy := (funext fun j => (hs.a g_m_doy rfl j).1).trans n_doy
    replace n_qlt : h_215.2.1 qlt = F_qlt := (funext fun j => (hs.a g_qlt rfl j).1).trans n_qlt
    replace n_m_wkd : h_215.2.1 m_wkd = F_m_wkd := (funext fun j => (hs.a g_m_wkd rfl j).1).trans n_m_wkd
    replace n_aga : h_215.2.1 m_aga = F_aga := (funext fun j => (hs.a g_m_aga rfl j).1).trans n_aga
    replace gx := gx.S hs
    replace gm := gm.S hs
    replace g_qa := g_qa.S hs
    replace g_qp := g_qp.S hs
    replace g_qc := g_qc.S hs
    replace g_qh := g_qh.S hs
    replace g_qw := g_qw.S hs
    replace g_ql := g_ql.S hs
    replace g_mw := g_mw.S hs
    replace g_mr := g_mr.S hs
    replace g_mp := g_mp.S hs
    replace g_mn := g_mn.S hs
    replace g_ml := g_ml.S hs
    replace g_mh := g_mh.S hs
    replace g_mt := g_mt.S hs
    replace g_m_fou := g_m_fou.S hs
    replace g_qo_ln := g_qo_ln.S hs
    replace g_b_of := g_b_of.S hs
    replace g_m_of := g_m_of.S hs
    replace g_b_wf := g_b_wf.S hs
    replace g_m_wf := g_m_wf.S hs
    replace g_b_df := g_b_df.S hs
    replace g_m_df := g_m_df.S hs
    replace g_b_kf := g_b_kf.S hs
    replace g_m_kf := g_m_kf.S hs
    replace g_b_sf := g_b_sf.S hs
    replace g_m_sf := g_m_sf.S hs
    replace g_b_bf := g_b_bf.S hs
    replace g_m_lst := g_m_lst.S hs
    replace g_m_dead := g_m_dead.S hs
    replace g_m_isj := g_m_isj.S hs
    replace g_m_dox := g_m_dox.S hs
    replace g_m_doy := g_m_doy.S hs
    replace g_qlt := g_qlt.S hs
    replace g_qlf := g_qlf.S hs
    replace g_m_wkd := g_m_wkd.S hs
    replace g_m_aga := g_m_aga.S hs
    have fw_219 : hx_col 40 h_215 qp 8 = w_219 := fw_219
    refine lv_pop hx hb dL_law_520 rfl ?_
    refine lv_aload_n hx hb dL_law_521 rfl (lv_at hl 1 rfl) ?_
    refine lv_aload_n hx hb dL_law_522 rfl (lv_at hl 3 rfl) ?_
    refine lv_iload_n hx hb dL_law_523 rfl (lv_at hl 0 rfl) ?_
    refine lv_iconst (v := 1) hx hb dL_law_524 (by decide) ?_
    refine lv_iadd hx hb dL_law_525 ?_
    refine lv_topi (fun x_220 ex_220 => ?_)
    have zx_220 : x_220.toInt = i.toInt + 1 := by rw [ex_220]; exact i32_add rfl (by decide) (by omega) (by omega)
    obtain rfl : x_209 = x_220 := ex_209.trans ex_220.symm
    refine va_sld hx hb hX hbl hbA hW.2.2.2.1 (vp_in_iff.mpr ⟨by omega, by omega⟩) dL_law_526 ?_
    refine lv_topi (fun x_221 ex_221 => ?_)
    obtain rfl : x_210 = x_221 := ex_210.trans ex_221.symm
    refine lv_aload_n hx hb dL_law_527 rfl (lv_at hl 3 rfl) ?_
    refine lv_iload_n hx hb dL_law_528 rfl (lv_at hl 0 rfl) ?_
    refine lv_iconst (v := 2) hx hb dL_law_529 (by decide) ?_
    refine lv_iadd hx hb dL_law_530 ?_
    refine lv_topi (fun x_222 ex_222 => ?_)
    have zx_222 : x_222.toInt = i.toInt + 2 := by rw [ex_222]; exact i32_add rfl (by decide) (by omega) (by omega)
    obtain rfl : x_211 = x_222 := ex_211.trans ex_222.symm
    refine va_sld hx hb hX hbl hbA hW.2.2.2.1 (vp_in_iff.mpr ⟨by omega, by omega⟩) dL_law_531 ?_
    refine lv_topi (fun x_223 ex_223 => ?_)
    obtain rfl : x_212 = x_223 := ex_212.trans ex_223.symm
    have jn_540 : ∀ (xj_224 : Int32) (ls : Array Slot), 0 ≤ xj_224.toInt → xj_224.toInt ≤ 1 → (x_212.toInt = 0 ∧ xj_224.toInt = 0) ∨ (x_212.toInt ≠ 0 ∧ xj_224.toInt = 1) → lv_has ls 4 [(3, .int i), (2, .ref am), (1, .ref ax), (0, .ref b)] → W p l e room_1 s m #[Value.ref b] below meth c H locs (CC + 0) (SS + 0) (lw_Z below #[Value.ref b] s) (F0 m 540 ls [.int xj_224, .int x_210, .ref am]) := by
      intro xj_224 ls blxj_224 buxj_224 jcxj_224 hl
      obtain rfl : xj_213 = xj_224 := Int32.toInt_inj.mp (by omega)
      have hTo := hT
      refine hx_goi (hx_runV (As := [.int x_210, .int xj_213]) (rest := []) ⟨hx, hb, hml, hown, hts⟩ hW gm tt_10 (T := TX10) (N := 98) rfl (t_X10_judge_2 l dC dI dA L_214 h_215 H.size am x_210 xj_213 hT gm m_isj g_m_isj f_m_isj F_isj n_isj np f_m_persons (by omega)) (cwV 2 hts (hx_gV kw_1560 kw_1557 kw_1558 kw_1559 kw_103) rfl rfl rfl (by decide +kernel) ⟨Nat.le_of_ble_eq_true rfl, Nat.le_of_ble_eq_true rfl⟩) rfl hl.1 rfl (Nat.le_of_ble_eq_true rfl) dL_law_540 ⟨(show CC + 0 + 0 ≤ 600000 from by omega), (show SS + 0 + 0 ≤ 7302250 from by omega)⟩) hW (fun r_227 L_225 h_226 H locs p_228 hW => ?_)
      obtain ⟨⟨w_230, fw_230, hr_229⟩, hT, hs⟩ := p_228
      replace hT : hx_T T_tb L_225 h_226 := hT
      replace hs : hx_S T_tb [(65, 0)] L_214 h_215 L_225 h_226 := hs
      replace f_qa := (hs.o gx trivial rfl).2.trans f_qa
      replace f_qp := (hs.o gx trivial rfl).2.trans f_qp
      replace f_qc := (hs.o gx trivial rfl).2.trans f_qc
      replace f_qh := (hs.o gx trivial rfl).2.trans f_qh
      replace f_qw := (hs.o gx trivial rfl).2.trans f_qw
      replace f_ql := (hs.o g_qw trivial rfl).2.trans f_ql
      replace f_m_now := (hs.o gm trivial rfl).1.trans f_m_now
      replace f_m_persons := (hs.o gm trivial rfl).1.trans f_m_persons
      replace f_m_claims := (hs.o gm trivial rfl).1.trans f_m_claims
      replace f_m_lines := (hs.o gm trivial rfl).1.trans f_m_lines
      replace f_m_listed := (hs.o gm trivial rfl).1.trans f_m_listed
      replace f_m_walkedMany := (hs.o gm trivial rfl).1.trans f_m_walkedMany
      replace f_m_acts := (hs.o gm trivial rfl).1.trans f_m_acts
      replace f_m_heardMany := (hs.o gm trivial rfl).1.trans f_m_heardMany
      replace f_x_now := (hs.o gx trivial rfl).1.trans f_x_now
      replace f_x_personCount := (hs.o gx trivial rfl).1.trans f_x_personCount
      replace f_x_claimCount := (hs.o gx trivial rfl).1.trans f_x_claimCount
      replace f_mw := (hs.o gm trivial rfl).2.trans f_mw
      replace f_mr := (hs.o gm trivial rfl).2.trans f_mr
      replace f_mp := (hs.o gm trivial rfl).2.trans f_mp
      replace f_mn := (hs.o gm trivial rfl).2.trans f_mn
      replace f_ml := (hs.o gm trivial rfl).2.trans f_ml
      replace f_mh := (hs.o gm trivial rfl).2.trans f_mh
      replace f_mt := (hs.o gm trivial rfl).2.trans f_mt
      replace f_m_fou := (hs.o gm trivial rfl).2.trans f_m_fou
      replace f_qo_ln := (hs.o gx trivial rfl).2.trans f_qo_ln
      replace f_o_ln := (hs.o g_qo_ln trivial rfl).1.trans f_o_ln
      replace f_o_lsd := (hs.o g_qw trivial rfl).1.trans f_o_lsd
      replace f_o_wkm := (hs.o g_qw trivial rfl).1.trans f_o_wkm
      replace f_b_of := (hs.o g_qo_ln trivial rfl).2.trans f_b_of
      replace f_m_of := (hs.o gm trivial rfl).2.trans f_m_of
      replace f_b_wf := (hs.o g_qo_ln trivial rfl).2.trans f_b_wf
      replace f_m_wf := (hs.o gm trivial rfl).2.trans f_m_wf
      replace f_b_df := (hs.o g_qo_ln trivial rfl).2.trans f_b_df
      replace f_m_df := (hs.o gm trivial rfl).2.trans f_m_df
      replace f_b_kf := (hs.o g_qo_ln trivial rfl).2.trans f_b_kf
      replace f_m_kf := (hs.o gm trivial rfl).2.trans f_m_kf
      replace f_b_sf := (hs.o g_qo_ln trivial rfl).2.trans f_b_sf
      replace f_m_sf := (hs.o gm trivial rfl).2.trans f_m_sf
      replace f_b_bf := (hs.o g_qo_ln trivial rfl).2.trans f_b_bf
      replace f_m_lst := (hs.o gm trivial rfl).2.trans f_m_lst
      replace f_m_dead := (hs.o gm trivial rfl).2.trans f_m_dead
      replace f_m_isj := (hs.o gm trivial rfl).2.trans f_m_isj
      replace f_m_dox := (hs.o gm trivial rfl).2.trans f_m_dox
      replace f_m_doy := (hs.o gm trivial rfl).2.trans f_m_doy
      replace f_qlt := (hs.o g_qw trivial rfl).2.trans f_qlt
      replace f_qlf := (hs.o g_qw trivial rfl).2.trans f_qlf
      replace f_m_wkd := (hs.o gm trivial rfl).2.trans f_m_wkd
      replace f_m_aga := (hs.o gm trivial rfl).2.trans f_m_aga
      replace pf_qa : ∀ j : Nat, (j : Int) < (h_226.2.1 ax 6).toInt → h_226.2.2 qa j ≠ none := by
        intro j hj; rw [(hs.o gx trivial rfl).1] at hj; rw [(hs.a g_qa rfl j).2]; exact pf_qa j hj
      replace pf_qp : ∀ j : Nat, (j : Int) < (h_226.2.1 ax 8).toInt → h_226.2.2 qp j ≠ none := by
        intro j hj; rw [(hs.o gx trivial rfl).1] at hj; rw [(hs.a g_qp rfl j).2]; exact pf_qp j hj
      replace pf_qc : ∀ j : Nat, (j : Int) < (h_226.2.1 ax 11).toInt → h_226.2.2 qc j ≠ none := by
        intro j hj; rw [(hs.o gx trivial rfl).1] at hj; rw [(hs.a g_qc rfl j).2]; exact pf_qc j hj
      replace pf_qh : ∀ j : Nat, (j : Int) < (h_226.2.1 ax 13).toInt → h_226.2.2 qh j ≠ none := by
        intro j hj; rw [(hs.o gx trivial rfl).1] at hj; rw [(hs.a g_qh rfl j).2]; exact pf_qh j hj
      replace pf_ql : ∀ j : Nat, (j : Int) < (h_226.2.1 qw 0).toInt → h_226.2.2 ql j ≠ none := by
        intro j hj; rw [(hs.o g_qw trivial rfl).1] at hj; rw [(hs.a g_ql rfl j).2]; exact pf_ql j hj
      replace cl_lst : hx_col 8 h_226 ql 0 = c_lst := (hx_col_S hs hTo g_ql tt_40 tt_2 rfl rfl).trans cl_lst
      replace cl_dead : hx_col 40 h_226 qp 7 = c_dead := (hx_col_S hs hTo g_qp tt_44 tt_4 rfl rfl).trans cl_dead
      replace cl_dox : hx_col 40 h_226 qp 5 = c_dox := (hx_col_S hs hTo g_qp tt_44 tt_4 rfl rfl).trans cl_dox
      replace cl_doy : hx_col 40 h_226 qp 6 = c_doy := (hx_col_S hs hTo g_qp tt_44 tt_4 rfl rfl).trans cl_doy
      replace cl_fou : hx_col 100 h_226 qc 10 = c_fou := (hx_col_S hs hTo g_qc tt_45 tt_2 rfl rfl).trans cl_fou
      replace cl_tri : hx_col 100 h_226 qc 9 = c_tri := (hx_col_S hs hTo g_qc tt_45 tt_2 rfl rfl).trans cl_tri
      replace fw_219 : hx_col 40 h_226 qp 8 = w_219 := (hx_col_S hs hTo g_qp tt_44 tt_4 rfl rfl).trans fw_219
      replace nu_qp : hx_num 40 h_226 qp 0 (np.toInt) := hx_num_S hs hTo g_qp tt_44 tt_4 rfl rfl nu_qp
      replace nu_qc : hx_num 100 h_226 qc 0 (c0.toInt) := hx_num_S hs hTo g_qc tt_45 tt_2 rfl rfl nu_qc
      replace sb_list : hx_LQ 8 100 h_226 ql qc := hx_LQ_S hs g_ql g_qc rfl rfl sb_list
      replace hDF : hw_DF h_226 qc qp 2 F_aga c0.toInt := hw_DF_S hs hTo g_qc g_qp tt_45 tt_2 rfl rfl rfl hDF
      replace n_mw : h_226.2.1 mw = F_mw := (funext fun j => (hs.a g_mw rfl j).1).trans n_mw
      replace n_mr : h_226.2.1 mr = F_mr := (funext fun j => (hs.a g_mr rfl j).1).trans n_mr
      replace n_mp : h_226.2.1 mp = F_mp := (funext fun j => (hs.a g_mp rfl j).1).trans n_mp
      replace n_mn : h_226.2.1 mn = F_mn := (funext fun j => (hs.a g_mn rfl j).1).trans n_mn
      replace n_ml : h_226.2.1 ml = F_ml := (funext fun j => (hs.a g_ml rfl j).1).trans n_ml
      replace n_mh : h_226.2.1 mh = F_mh := (funext fun j => (hs.a g_mh rfl j).1).trans n_mh
      replace n_mt : h_226.2.1 mt = F_mt := (funext fun j => (hs.a g_mt rfl j).1).trans n_mt
      replace n_m_fou : h_226.2.1 m_fou = F_m_fou := (funext fun j => (hs.a g_m_fou rfl j).1).trans n_m_fou
      replace n_b_of : h_226.2.1 b_of = B_of := (funext fun j => (hs.a g_b_of rfl j).1).trans n_b_of
      replace n_m_of : h_226.2.1 m_of = F_of := (funext fun j => (hs.a g_m_of rfl j).1).trans n_m_of
      replace n_b_wf : h_226.2.1 b_wf = B_wf := (funext fun j => (hs.a g_b_wf rfl j).1).trans n_b_wf
      replace n_m_wf : h_226.2.1 m_wf = F_wf := (funext fun j => (hs.a g_m_wf rfl j).1).trans n_m_wf
      replace n_b_df : h_226.2.1 b_df = B_df := (funext fun j => (hs.a g_b_df rfl j).1).trans n_b_df
      replace n_m_df : h_226.2.1 m_df = F_df := (funext fun j => (hs.a g_m_df rfl j).1).trans n_m_df
      replace n_b_kf : h_226.2.1 b_kf = B_kf := (funext fun j => (hs.a g_b_kf rfl j).1).trans n_b_kf
      replace n_m_kf : h_226.2.1 m_kf = F_kf := (funext fun j => (hs.a g_m_kf rfl j).1).trans n_m_kf
      replace n_b_sf : h_226.2.1 b_sf = B_sf := (funext fun j => (hs.a g_b_sf rfl j).1).trans n_b_sf
      replace n_m_sf : h_226.2.1 m_sf = F_sf := (funext fun j => (hs.a g_m_sf rfl j).1).trans n_m_sf
      replace n_b_bf : h_226.2.1 b_bf = bfL := (funext fun j => (hs.a g_b_bf rfl j).1).trans n_b_bf
      replace n_lst : h_226.2.1 m_lst = F_lst := (funext fun j => (hs.a g_m_lst rfl j).1).trans n_lst
      replace n_dead : h_226.2.1 m_dead = F_dead := (funext fun j => (hs.a g_m_dead rfl j).1).trans n_dead
      replace n_dox : h_226.2.1 m_dox = F_dox := (funext fun j => (hs.a g_m_dox rfl j).1).trans n_dox
      replace n_doy : h_226.2.1 m_doy = F_doy := (funext fun j => (hs.a g_m_doy rfl j).1).trans n_doy
      replace n_qlt : h_226.2.1 qlt = F_qlt := (funext fun j => (hs.a g_qlt rfl j).1).trans n_qlt
      replace n_m_wkd : h_226.2.1 m_wkd = F_m_wkd := (funext fun j => (hs.a g_m_wkd rfl j).1).trans n_m_wkd
      replace n_aga : h_226.2.1 m_aga = F_aga := (funext fun j => (hs.a g_m_aga rfl j).1).trans n_aga
      replace gx := gx.S hs
      replace gm := gm.S hs
      replace g_qa := g_qa.S hs
      replace g_qp := g_qp.S hs
      replace g_qc := g_qc.S hs
      replace g_qh := g_qh.S hs
      replace g_qw := g_qw.S hs
      replace g_ql := g_ql.S hs
      replace g_mw := g_mw.S hs
      replace g_mr := g_mr.S hs
      replace g_mp := g_mp.S hs
      replace g_mn := g_mn.S hs
      replace g_ml := g_ml.S hs
      replace g_mh := g_mh.S hs
      replace g_mt := g_mt.S hs
      replace g_m_fou := g_m_fou.S hs
      replace g_qo_ln := g_qo_ln.S hs
      replace g_b_of := g_b_of.S hs
      replace g_m_of := g_m_of.S hs
      replace g_b_wf := g_b_wf.S hs
      replace g_m_wf := g_m_wf.S hs
      replace g_b_df := g_b_df.S hs
      replace g_m_df := g_m_df.S hs
      replace g_b_kf := g_b_kf.S hs
      replace g_m_kf := g_m_kf.S hs
      replace g_b_sf := g_b_sf.S hs
      replace g_m_sf := g_m_sf.S hs
      replace g_b_bf := g_b_bf.S hs
      replace g_m_lst := g_m_lst.S hs
      replace g_m_dead := g_m_dead.S hs
      replace g_m_isj := g_m_isj.S hs
      replace g_m_dox := g_m_dox.S hs
      replace g_m_doy := g_m_doy.S hs
      replace g_qlt := g_qlt.S hs
      replace g_qlf := g_qlf.S hs
      replace g_m_wkd := g_m_wkd.S hs
      replace g_m_aga := g_m_aga.S hs
      have fw_230 : h_226.2.1 m_isj = w_230 := fw_230
      refine lv_pop hx hb dL_law_543 rfl ?_
      refine lv_goto (tgt := 1379) hx hb dL_law_544 (by decide) ?_
      obtain ⟨heq, hq_isj⟩ := hx_jk (by omega) eq_isj hr_218 hr_229
      refine W.widen (k := CC + 3) (n := SS + 179) (by omega) (by omega) ?_
      exact kk L_225 h_226 H locs ls hW ⟨hT, gx, gm, ⟨f_x_now.trans f_m_now.symm, f_x_personCount.trans f_m_persons.symm, f_x_claimCount.trans f_m_claims.symm, hx_ob f_qo_ln (f_o_ln.trans f_m_lines.symm), hx_ob f_qw (f_o_lsd.trans f_m_listed.symm), hx_ob f_qw (f_o_wkm.trans f_m_walkedMany.symm), hx_ob f_qp (by rw [f_x_personCount]; exact nu_qp), hx_ob f_qc (by rw [f_x_claimCount]; exact nu_qc), (fun b a r hb ha hr => by obtain rfl : qo_ln = b := Option.some.inj (f_qo_ln.symm.trans hb); obtain rfl : b_of = a := Option.some.inj (f_b_of.symm.trans ha); obtain rfl : m_of = r := Option.some.inj (f_m_of.symm.trans hr); rw [n_b_of, n_m_of, f_o_ln]; exact eb_of), (fun b a r hb ha hr => by obtain rfl : qo_ln = b := Option.some.inj (f_qo_ln.symm.trans hb); obtain rfl : b_wf = a := Option.some.inj (f_b_wf.symm.trans ha); obtain rfl : m_wf = r := Option.some.inj (f_m_wf.symm.trans hr); rw [n_b_wf, n_m_wf, f_o_ln]; exact eb_wf), (fun b a r hb ha hr => by obtain rfl : qo_ln = b := Option.some.inj (f_qo_ln.symm.trans hb); obtain rfl : b_df = a := Option.some.inj (f_b_df.symm.trans ha); obtain rfl : m_df = r := Option.some.inj (f_m_df.symm.trans hr); rw [n_b_df, n_m_df, f_o_ln]; exact eb_df), (fun b a r hb ha hr => by obtain rfl : qo_ln = b := Option.some.inj (f_qo_ln.symm.trans hb); obtain rfl : b_kf = a := Option.some.inj (f_b_kf.symm.trans ha); obtain rfl : m_kf = r := Option.some.inj (f_m_kf.symm.trans hr); rw [n_b_kf, n_m_kf, f_o_ln]; exact eb_kf), (fun b a r hb ha hr => by obtain rfl : qo_ln = b := Option.some.inj (f_qo_ln.symm.trans hb); obtain rfl : b_sf = a := Option.some.inj (f_b_sf.symm.trans ha); obtain rfl : m_sf = r := Option.some.inj (f_m_sf.symm.trans hr); rw [n_b_sf, n_m_sf, f_o_ln]; exact eb_sf), (fun b a r hb ha hr => by obtain rfl : qo_ln = b := Option.some.inj (f_qo_ln.symm.trans hb); obtain rfl : b_df = a := Option.some.inj (f_b_df.symm.trans ha); obtain rfl : b_bf = r := Option.some.inj (f_b_bf.symm.trans hr); rw [n_b_df, n_b_bf, f_o_ln]; exact ⟨hBD, hDY⟩), (fun w q c hw hq hc => by obtain rfl : qw = w := Option.some.inj (f_qw.symm.trans hw); obtain rfl : ql = q := Option.some.inj (f_ql.symm.trans hq); obtain rfl : qc = c := Option.some.inj (f_qc.symm.trans hc); exact sb_list), (fun w q r hw hq hr => by obtain rfl : qw = w := Option.some.inj (f_qw.symm.trans hw); obtain rfl : ql = q := Option.some.inj (f_ql.symm.trans hq); obtain rfl : m_lst = r := Option.some.inj (f_m_lst.symm.trans hr); rw [cl_lst, n_lst]; exact eq_lst), (fun w q r hw hq hr => by obtain rfl : qw = w := Option.some.inj (f_qw.symm.trans hw); obtain rfl : qlt = q := Option.some.inj (f_qlt.symm.trans hq); obtain rfl : m_wkd = r := Option.some.inj (f_m_wkd.symm.trans hr); rw [n_qlt, n_m_wkd, f_o_wkm]; exact eb_wkd), (fun c q a hc hq ha => by obtain rfl : qc = c := Option.some.inj (f_qc.symm.trans hc); obtain rfl : qp = q := Option.some.inj (f_qp.symm.trans hq); obtain rfl : m_aga = a := Option.some.inj (f_m_aga.symm.trans ha); rw [n_aga, f_x_claimCount]; exact hw_DF_e hDF rfl rfl), hx_ob2 f_qp f_m_dead (by rw [cl_dead, n_dead]; exact eq_dead), hx_ob2 f_qp f_m_isj (by rw [fw_219, fw_230]; exact hq_isj), hx_ob2 f_qp f_m_dox (by rw [cl_dox, n_dox]; exact eq_dox), hx_ob2 f_qp f_m_doy (by rw [cl_doy, n_doy]; exact eq_doy), hx_ob2 f_qc f_m_fou (by rw [cl_fou, n_m_fou]; exact eq_fou), hx_ob2 f_qc f_mt (by rw [cl_tri, n_mt]; exact eq_tri), trivial⟩, ⟨hx_ob f_qa pf_qa, hx_ob f_qp pf_qp, hx_ob f_qc pf_qc, hx_ob f_qh pf_qh, (fun w q hw hq => by obtain rfl : qw = w := Option.some.inj (f_qw.symm.trans hw); obtain rfl : ql = q := Option.some.inj (f_ql.symm.trans hq); exact pf_ql)⟩, ⟨hx_ob f_mw (by rw [n_mw]; exact hwd), hx_ob f_mr (by rw [n_mr, f_m_acts]; exact hWK), hx_ob2 f_mp f_mn (by rw [n_mp, n_mn, f_m_acts]; exact hRP), hx_ob f_ml (by rw [n_ml, f_m_claims, f_m_acts]; exact hPL), hx_ob f_mh (by rw [n_mh, f_m_heardMany, f_m_claims]; exact hHC), hx_ob f_mt (by rw [n_mt]; exact (hx_TR_le hTR (by omega))), hx_ob2 f_mh f_m_fou (by rw [n_mh, n_m_fou, f_m_claims]; exact hHF)⟩⟩ hl
    refine hb_if_eq (zx := x_212.toInt) (tgt := 539) hx hb rfl dL_law_532 (by decide) (fun c_231 => ?_) (fun c_231 => ?_)
    · skip
      refine lv_iconst (v := 0) hx hb dL_law_539 (by decide) ?_
      have zj_540 : (0 : Int32).toInt = 0 := by decide
      exact jn_540 (0 : Int32) ls (by decide) (by decide) (by omega) hl
    · skip
      refine lv_iconst (v := 1) hx hb dL_law_535 (by decide) ?_
      refine lv_goto (tgt := 540) hx hb dL_law_536 (by decide) ?_
      have zj_540 : (1 : Int32).toInt = 1 := by decide
      exact jn_540 (1 : Int32) ls (by decide) (by decide) (by omega) hl
  refine hb_if_eq (zx := x_212.toInt) (tgt := 516) hx hb rfl dL_law_509 (by decide) (fun c_232 => ?_) (fun c_232 => ?_)
  · skip
    refine lv_iconst (v := 0) hx hb dL_law_516 (by decide) ?_
    have zj_517 : (0 : Int32).toInt = 0 := by decide
    exact jn_517 (0 : Int32) ls (by decide) (by decide) (by omega) hl
  · skip
    refine lv_iconst (v := 1) hx hb dL_law_512 (by decide) ?_
    refine lv_goto (tgt := 517) hx hb dL_law_513 (by decide) ?_
    have zj_517 : (1 : Int32).toInt = 1 := by decide
    exact jn_517 (1 : Int32) ls (by decide) (by decide) (by omega) hl

set_option maxHeartbeats 4000000 in
set_option maxRecDepth 100000 in
theorem law_case_9 {p : Program} {e : Env} {s : State} {m : MethodId} {below : List Frame} {meth : Method} {c : Code} (l : Launch) {b LN : Nat} {xs : Nat → Int32} (hx : p.tables.exec = Jvm.exec) (hb : c.code = code) (hr : meth.sig.returnType = ret) (hlocks : meth.locks = false) (hml : c.maxLocals = 4) (hown : s.vm.findClass "SmallCourtLaw" = some m.cls) (hts : ∀ w ∈ hx_all, w.before #[Value.ref b] s = true) (hX : va_X b LN xs s s.heap) (hbl : b < s.heap.size) (hbA : ¬ s.heap.size ≤ b) (hLN : LN ≤ 3584) (dC : Nat → ClassId) (dI : Nat → Nat → Nat) (dA : Nat → ClassId) (b0 : hx_z) (ax am : Nat) (T1 : Int) (hT0 : 0 ≤ T1) (hT1 : T1 ≤ 511) (i : Int32) (hi0 : 0 ≤ i.toInt) (hiL : i.toInt + 7 ≤ LN) (CC SS : Nat) (hCC : CC + 3 ≤ 600000) (hSS : SS + 179 ≤ 7302250) (L1 : List Nat) (hl1 : hx_h) (H : Heap) (locs : List Loc) (ls : Array Slot) (hW : hx_W T_tb (P_ty dA) (dC, dI) vwCl (fun q : Nat => s.heap.size ≤ q) s.heap L1 hl1 s H locs) (hZ : hx_Xt (fun q : Nat => s.heap.size ≤ q) b0 s) (hI : hx_IV T1 ax am L1 hl1) (hl : lv_has ls 4 [(3, .int i), (2, .ref am), (1, .ref ax), (0, .ref b)]) (kk : ∀ (L2 : List Nat) (h2 : hx_h) (H2 : Heap) (locs2 : List Loc) (ls2 : Array Slot), hx_W T_tb (P_ty dA) (dC, dI) vwCl (fun q : Nat => s.heap.size ≤ q) s.heap L2 h2 s H2 locs2 → hx_IV (T1 + 1) ax am L2 h2 → lv_has ls2 4 [(3, .int i), (2, .ref am), (1, .ref ax), (0, .ref b)] → W p l e room_1 s m #[Value.ref b] below meth c H2 locs2 (CC + 3) (SS + 179) (lw_Z below #[Value.ref b] s) (F0 m 1379 ls2 [])) : W p l e room_1 s m #[Value.ref b] below meth c H locs CC SS (lw_Z below #[Value.ref b] s) (F0 m 547 ls []) := by
  obtain ⟨hT, gx, gm, ⟨he_nw, he_np, he_c0, ho_ln, ho_lsd, ho_wkm, hn_qp, hn_qc, hk_of, hk_wf, hk_df, hk_kf, hk_sf, hkBD, hLQ, hLE, hkWD, hkDF, hc_dead, hc_isj, hc_dox, hc_doy, hc_fou, hc_tri, -⟩, ⟨ia, ip, ic, ih, il⟩, ⟨jw, jr, jp, jl, jh, jt, jf⟩⟩ := hI
  obtain ⟨qa, f_qa, g_qa⟩ := hx_rf hT gx tt_9 (k := 5) (u := 43) rfl
  have pf_qa := ia qa f_qa
  obtain ⟨qp, f_qp, g_qp⟩ := hx_rf hT gx tt_9 (k := 7) (u := 44) rfl
  have pf_qp := ip qp f_qp
  obtain ⟨qc, f_qc, g_qc⟩ := hx_rf hT gx tt_9 (k := 10) (u := 45) rfl
  have pf_qc := ic qc f_qc
  obtain ⟨qh, f_qh, g_qh⟩ := hx_rf hT gx tt_9 (k := 12) (u := 46) rfl
  have pf_qh := ih qh f_qh
  obtain ⟨qw, f_qw, g_qw⟩ := hx_rf hT gx tt_9 (k := 19) (u := 8) rfl
  obtain ⟨ql, f_ql, g_ql⟩ := hx_rf hT g_qw tt_8 (k := 3) (u := 40) rfl
  have pf_ql := il qw ql f_qw f_ql
  obtain ⟨nw, f_m_now⟩ : ∃ y : Int32, hl1.2.1 am 0 = y := ⟨_, rfl⟩
  have b_nw := hT.gi gm tt_10 (k := 0) rfl
  rw [f_m_now] at b_nw
  have b_nw : 0 ≤ nw.toInt ∧ nw.toInt ≤ 7999 := b_nw
  obtain ⟨np, f_m_persons⟩ : ∃ y : Int32, hl1.2.1 am 20 = y := ⟨_, rfl⟩
  have b_np := hT.gi gm tt_10 (k := 20) rfl
  rw [f_m_persons] at b_np
  have b_np : 0 ≤ np.toInt ∧ np.toInt ≤ 40 := b_np
  obtain ⟨c0, f_m_claims⟩ : ∃ y : Int32, hl1.2.1 am 36 = y := ⟨_, rfl⟩
  have b_c0 := hT.gi gm tt_10 (k := 36) rfl
  rw [f_m_claims] at b_c0
  have b_c0 : 0 ≤ c0.toInt ∧ c0.toInt ≤ 100 := b_c0
  obtain ⟨ln, f_m_lines⟩ : ∃ y : Int32, hl1.2.1 am 29 = y := ⟨_, rfl⟩
  have b_ln := hT.gi gm tt_10 (k := 29) rfl
  rw [f_m_lines] at b_ln
  have b_ln : 0 ≤ ln.toInt ∧ ln.toInt ≤ 400 := b_ln
  obtain ⟨lsd, f_m_listed⟩ : ∃ y : Int32, hl1.2.1 am 90 = y := ⟨_, rfl⟩
  have b_lsd := hT.gi gm tt_10 (k := 90) rfl
  rw [f_m_listed] at b_lsd
  have b_lsd : 0 ≤ lsd.toInt ∧ lsd.toInt ≤ 8 := b_lsd
  obtain ⟨wkm, f_m_walkedMany⟩ : ∃ y : Int32, hl1.2.1 am 92 = y := ⟨_, rfl⟩
  have b_wkm := hT.gi gm tt_10 (k := 92) rfl
  rw [f_m_walkedMany] at b_wkm
  have b_wkm : 0 ≤ wkm.toInt ∧ wkm.toInt ≤ 8 := b_wkm
  obtain ⟨a0, f_m_acts⟩ : ∃ y : Int32, hl1.2.1 am 1 = y := ⟨_, rfl⟩
  have b_a0 := hT.gi gm tt_10 (k := 1) rfl
  rw [f_m_acts] at b_a0
  have b_a0 : 0 ≤ a0.toInt ∧ a0.toInt ≤ 8 := b_a0
  obtain ⟨m0, f_m_heardMany⟩ : ∃ y : Int32, hl1.2.1 am 57 = y := ⟨_, rfl⟩
  have b_m0 := hT.gi gm tt_10 (k := 57) rfl
  rw [f_m_heardMany] at b_m0
  have b_m0 : 0 ≤ m0.toInt ∧ m0.toInt ≤ 100 := b_m0
  have f_x_now : hl1.2.1 ax 2 = nw := he_nw.trans f_m_now
  have f_x_personCount : hl1.2.1 ax 8 = np := he_np.trans f_m_persons
  have f_x_claimCount : hl1.2.1 ax 11 = c0 := he_c0.trans f_m_claims
  obtain ⟨mw, f_mw, g_mw⟩ := hx_rf hT gm tt_10 (k := 19) (u := 57) rfl
  obtain ⟨F_mw, n_mw⟩ : ∃ g : Nat → Int32, hl1.2.1 mw = g := ⟨_, rfl⟩
  obtain ⟨mr, f_mr, g_mr⟩ := hx_rf hT gm tt_10 (k := 3) (u := 50) rfl
  obtain ⟨F_mr, n_mr⟩ : ∃ g : Nat → Int32, hl1.2.1 mr = g := ⟨_, rfl⟩
  obtain ⟨mp, f_mp, g_mp⟩ := hx_rf hT gm tt_10 (k := 5) (u := 52) rfl
  obtain ⟨F_mp, n_mp⟩ : ∃ g : Nat → Int32, hl1.2.1 mp = g := ⟨_, rfl⟩
  obtain ⟨mn, f_mn, g_mn⟩ := hx_rf hT gm tt_10 (k := 4) (u := 51) rfl
  obtain ⟨F_mn, n_mn⟩ : ∃ g : Nat → Int32, hl1.2.1 mn = g := ⟨_, rfl⟩
  obtain ⟨ml, f_ml, g_ml⟩ := hx_rf hT gm tt_10 (k := 44) (u := 79) rfl
  obtain ⟨F_ml, n_ml⟩ : ∃ g : Nat → Int32, hl1.2.1 ml = g := ⟨_, rfl⟩
  obtain ⟨mh, f_mh, g_mh⟩ := hx_rf hT gm tt_10 (k := 47) (u := 82) rfl
  obtain ⟨F_mh, n_mh⟩ : ∃ g : Nat → Int32, hl1.2.1 mh = g := ⟨_, rfl⟩
  obtain ⟨mt, f_mt, g_mt⟩ := hx_rf hT gm tt_10 (k := 45) (u := 80) rfl
  obtain ⟨F_mt, n_mt⟩ : ∃ g : Nat → Int32, hl1.2.1 mt = g := ⟨_, rfl⟩
  obtain ⟨m_fou, f_m_fou, g_m_fou⟩ := hx_rf hT gm tt_10 (k := 46) (u := 81) rfl
  obtain ⟨F_m_fou, n_m_fou⟩ : ∃ g : Nat → Int32, hl1.2.1 m_fou = g := ⟨_, rfl⟩
  obtain ⟨qo_ln, f_qo_ln, g_qo_ln⟩ := hx_rf hT gx tt_9 (k := 9) (u := 1) rfl
  have f_o_ln : hl1.2.1 qo_ln 0 = ln := (ho_ln qo_ln f_qo_ln).trans f_m_lines
  have f_o_lsd : hl1.2.1 qw 0 = lsd := (ho_lsd qw f_qw).trans f_m_listed
  have f_o_wkm : hl1.2.1 qw 1 = wkm := (ho_wkm qw f_qw).trans f_m_walkedMany
  have nu_qp := hn_qp qp f_qp; rw [f_x_personCount] at nu_qp
  have nu_qc := hn_qc qc f_qc; rw [f_x_claimCount] at nu_qc
  obtain ⟨b_of, f_b_of, g_b_of⟩ := hx_rf hT g_qo_ln tt_1 (k := 1) (u := 13) rfl
  obtain ⟨B_of, n_b_of⟩ : ∃ g : Nat → Int32, hl1.2.1 b_of = g := ⟨_, rfl⟩
  obtain ⟨m_of, f_m_of, g_m_of⟩ := hx_rf hT gm tt_10 (k := 30) (u := 66) rfl
  obtain ⟨F_of, n_m_of⟩ : ∃ g : Nat → Int32, hl1.2.1 m_of = g := ⟨_, rfl⟩
  have eb_of := hk_of qo_ln b_of m_of f_qo_ln f_b_of f_m_of; rw [n_b_of, n_m_of, f_o_ln] at eb_of
  obtain ⟨b_wf, f_b_wf, g_b_wf⟩ := hx_rf hT g_qo_ln tt_1 (k := 2) (u := 14) rfl
  obtain ⟨B_wf, n_b_wf⟩ : ∃ g : Nat → Int32, hl1.2.1 b_wf = g := ⟨_, rfl⟩
  obtain ⟨m_wf, f_m_wf, g_m_wf⟩ := hx_rf hT gm tt_10 (k := 31) (u := 67) rfl
  obtain ⟨F_wf, n_m_wf⟩ : ∃ g : Nat → Int32, hl1.2.1 m_wf = g := ⟨_, rfl⟩
  have eb_wf := hk_wf qo_ln b_wf m_wf f_qo_ln f_b_wf f_m_wf; rw [n_b_wf, n_m_wf, f_o_ln] at eb_wf
  obtain ⟨b_df, f_b_df, g_b_df⟩ := hx_rf hT g_qo_ln tt_1 (k := 3) (u := 15) rfl
  obtain ⟨B_df, n_b_df⟩ : ∃ g : Nat → Int32, hl1.2.1 b_df = g := ⟨_, rfl⟩
  obtain ⟨m_df, f_m_df, g_m_df⟩ := hx_rf hT gm tt_10 (k := 32) (u := 68) rfl
  obtain ⟨F_df, n_m_df⟩ : ∃ g : Nat → Int32, hl1.2.1 m_df = g := ⟨_, rfl⟩
  have eb_df := hk_df qo_ln b_df m_df f_qo_ln f_b_df f_m_df; rw [n_b_df, n_m_df, f_o_ln] at eb_df
  obtain ⟨b_kf, f_b_kf, g_b_kf⟩ := hx_rf hT g_qo_ln tt_1 (k := 4) (u := 16) rfl
  obtain ⟨B_kf, n_b_kf⟩ : ∃ g : Nat → Int32, hl1.2.1 b_kf = g := ⟨_, rfl⟩
  obtain ⟨m_kf, f_m_kf, g_m_kf⟩ := hx_rf hT gm tt_10 (k := 33) (u := 69) rfl
  obtain ⟨F_kf, n_m_kf⟩ : ∃ g : Nat → Int32, hl1.2.1 m_kf = g := ⟨_, rfl⟩
  have eb_kf := hk_kf qo_ln b_kf m_kf f_qo_ln f_b_kf f_m_kf; rw [n_b_kf, n_m_kf, f_o_ln] at eb_kf
  obtain ⟨b_sf, f_b_sf, g_b_sf⟩ := hx_rf hT g_qo_ln tt_1 (k := 5) (u := 17) rfl
  obtain ⟨B_sf, n_b_sf⟩ : ∃ g : Nat → Int32, hl1.2.1 b_sf = g := ⟨_, rfl⟩
  obtain ⟨m_sf, f_m_sf, g_m_sf⟩ := hx_rf hT gm tt_10 (k := 34) (u := 70) rfl
  obtain ⟨F_sf, n_m_sf⟩ : ∃ g : Nat → Int32, hl1.2.1 m_sf = g := ⟨_, rfl⟩
  have eb_sf := hk_sf qo_ln b_sf m_sf f_qo_ln f_b_sf f_m_sf; rw [n_b_sf, n_m_sf, f_o_ln] at eb_sf
  obtain ⟨b_bf, f_b_bf, g_b_bf⟩ := hx_rf hT g_qo_ln tt_1 (k := 6) (u := 18) rfl
  obtain ⟨bfL, n_b_bf⟩ : ∃ g : Nat → Int32, hl1.2.1 b_bf = g := ⟨_, rfl⟩
  obtain ⟨hBD, hDY⟩ := hkBD qo_ln b_df b_bf f_qo_ln f_b_df f_b_bf; rw [n_b_df, n_b_bf, f_o_ln] at hBD; rw [n_b_df, f_o_ln] at hDY
  have hBDm := hy_BD_c eb_df hBD
  have hDYm : hy_DY F_df ln.toInt.toNat := fun x hx => by rw [← eb_df x hx]; exact hDY x hx
  have sb_list := hLQ qw ql qc f_qw f_ql f_qc
  obtain ⟨m_lst, f_m_lst, g_m_lst⟩ := hx_rf hT gm tt_10 (k := 91) (u := 112) rfl
  obtain ⟨F_lst, n_lst⟩ : ∃ g : Nat → Int32, hl1.2.1 m_lst = g := ⟨_, rfl⟩
  obtain ⟨c_lst, cl_lst⟩ : ∃ g : Nat → Int32, hx_col 8 hl1 ql 0 = g := ⟨_, rfl⟩
  have eq_lst := hLE qw ql m_lst f_qw f_ql f_m_lst; rw [cl_lst, n_lst] at eq_lst
  obtain ⟨c_dead, cl_dead⟩ : ∃ g : Nat → Int32, hx_col 40 hl1 qp 7 = g := ⟨_, rfl⟩
  obtain ⟨m_dead, f_m_dead, g_m_dead⟩ := hx_rf hT gm tt_10 (k := 27) (u := 64) rfl
  obtain ⟨F_dead, n_dead⟩ : ∃ g : Nat → Int32, hl1.2.1 m_dead = g := ⟨_, rfl⟩
  have eq_dead := hc_dead qp m_dead f_qp f_m_dead; rw [cl_dead, n_dead] at eq_dead
  have z_dead : np.toInt.toNat < 40 → c_dead np.toInt.toNat = 0 := fun hj => hx_num_z nu_qp cl_dead hj (by omega)
  obtain ⟨c_isj, cl_isj⟩ : ∃ g : Nat → Int32, hx_col 40 hl1 qp 8 = g := ⟨_, rfl⟩
  obtain ⟨m_isj, f_m_isj, g_m_isj⟩ := hx_rf hT gm tt_10 (k := 28) (u := 65) rfl
  obtain ⟨F_isj, n_isj⟩ : ∃ g : Nat → Int32, hl1.2.1 m_isj = g := ⟨_, rfl⟩
  have eq_isj := hc_isj qp m_isj f_qp f_m_isj; rw [cl_isj, n_isj] at eq_isj
  have z_isj : np.toInt.toNat < 40 → c_isj np.toInt.toNat = 0 := fun hj => hx_num_z nu_qp cl_isj hj (by omega)
  obtain ⟨c_dox, cl_dox⟩ : ∃ g : Nat → Int32, hx_col 40 hl1 qp 5 = g := ⟨_, rfl⟩
  obtain ⟨m_dox, f_m_dox, g_m_dox⟩ := hx_rf hT gm tt_10 (k := 24) (u := 61) rfl
  obtain ⟨F_dox, n_dox⟩ : ∃ g : Nat → Int32, hl1.2.1 m_dox = g := ⟨_, rfl⟩
  have eq_dox := hc_dox qp m_dox f_qp f_m_dox; rw [cl_dox, n_dox] at eq_dox
  have z_dox : np.toInt.toNat < 40 → c_dox np.toInt.toNat = 0 := fun hj => hx_num_z nu_qp cl_dox hj (by omega)
  obtain ⟨c_doy, cl_doy⟩ : ∃ g : Nat → Int32, hx_col 40 hl1 qp 6 = g := ⟨_, rfl⟩
  obtain ⟨m_doy, f_m_doy, g_m_doy⟩ := hx_rf hT gm tt_10 (k := 25) (u := 62) rfl
  obtain ⟨F_doy, n_doy⟩ : ∃ g : Nat → Int32, hl1.2.1 m_doy = g := ⟨_, rfl⟩
  have eq_doy := hc_doy qp m_doy f_qp f_m_doy; rw [cl_doy, n_doy] at eq_doy
  have z_doy : np.toInt.toNat < 40 → c_doy np.toInt.toNat = 0 := fun hj => hx_num_z nu_qp cl_doy hj (by omega)
  obtain ⟨c_fou, cl_fou⟩ : ∃ g : Nat → Int32, hx_col 100 hl1 qc 10 = g := ⟨_, rfl⟩
  have eq_fou := hc_fou qc m_fou f_qc f_m_fou; rw [cl_fou, n_m_fou] at eq_fou
  have z_fou : c0.toInt.toNat < 100 → c_fou c0.toInt.toNat = 0 := fun hj => hx_num_z nu_qc cl_fou hj (by omega)
  obtain ⟨c_tri, cl_tri⟩ : ∃ g : Nat → Int32, hx_col 100 hl1 qc 9 = g := ⟨_, rfl⟩
  have eq_tri := hc_tri qc mt f_qc f_mt; rw [cl_tri, n_mt] at eq_tri
  have z_tri : c0.toInt.toNat < 100 → c_tri c0.toInt.toNat = 0 := fun hj => hx_num_z nu_qc cl_tri hj (by omega)
  obtain ⟨qlt, f_qlt, g_qlt⟩ := hx_rf hT g_qw tt_8 (k := 2) (u := 39) rfl
  obtain ⟨qlf, f_qlf, g_qlf⟩ := hx_rf hT g_qw tt_8 (k := 4) (u := 41) rfl
  obtain ⟨m_wkd, f_m_wkd, g_m_wkd⟩ := hx_rf hT gm tt_10 (k := 93) (u := 113) rfl
  obtain ⟨F_qlt, n_qlt⟩ : ∃ g : Nat → Int32, hl1.2.1 qlt = g := ⟨_, rfl⟩
  obtain ⟨F_m_wkd, n_m_wkd⟩ : ∃ g : Nat → Int32, hl1.2.1 m_wkd = g := ⟨_, rfl⟩
  have eb_wkd := hkWD qw qlt m_wkd f_qw f_qlt f_m_wkd; rw [n_qlt, n_m_wkd, f_o_wkm] at eb_wkd
  obtain ⟨m_aga, f_m_aga, g_m_aga⟩ := hx_rf hT gm tt_10 (k := 38) (u := 73) rfl
  obtain ⟨F_aga, n_aga⟩ : ∃ g : Nat → Int32, hl1.2.1 m_aga = g := ⟨_, rfl⟩
  have hDF := hkDF qc qp m_aga f_qc f_qp f_m_aga; rw [n_aga, f_x_claimCount] at hDF
  have hwd := jw mw f_mw; rw [n_mw] at hwd
  have hWK := jr mr f_mr; rw [n_mr, f_m_acts] at hWK
  have hRP := jp mp mn f_mp f_mn; rw [n_mp, n_mn, f_m_acts] at hRP
  have hPL := jl ml f_ml; rw [n_ml, f_m_claims, f_m_acts] at hPL
  have hHC := jh mh f_mh; rw [n_mh, f_m_heardMany, f_m_claims] at hHC
  have hTR := jt mt f_mt; rw [n_mt] at hTR
  have hHF := jf mh m_fou f_mh f_m_fou; rw [n_mh, n_m_fou, f_m_claims] at hHF
  refine lv_aload_n hx hb dL_law_547 rfl (lv_at hl 2 rfl) ?_
  refine lv_aload_n hx hb dL_law_548 rfl (lv_at hl 3 rfl) ?_
  refine lv_iload_n hx hb dL_law_549 rfl (lv_at hl 0 rfl) ?_
  refine lv_iconst (v := 1) hx hb dL_law_550 (by decide) ?_
  refine lv_iadd hx hb dL_law_551 ?_
  have rg_233 := i32_r i
  refine lv_topi (fun x_234 ex_234 => ?_)
  have zx_234 : x_234.toInt = i.toInt + 1 := by rw [ex_234]; exact i32_add rfl (by decide) (by omega) (by omega)
  refine va_sld hx hb hX hbl hbA hW.2.2.2.1 (vp_in_iff.mpr ⟨by omega, by omega⟩) dL_law_552 ?_
  refine lv_topi (fun x_235 ex_235 => ?_)
  refine lv_aload_n hx hb dL_law_553 rfl (lv_at hl 3 rfl) ?_
  refine lv_iload_n hx hb dL_law_554 rfl (lv_at hl 0 rfl) ?_
  refine lv_iconst (v := 2) hx hb dL_law_555 (by decide) ?_
  refine lv_iadd hx hb dL_law_556 ?_
  refine lv_topi (fun x_236 ex_236 => ?_)
  have zx_236 : x_236.toInt = i.toInt + 2 := by rw [ex_236]; exact i32_add rfl (by decide) (by omega) (by omega)
  refine va_sld hx hb hX hbl hbA hW.2.2.2.1 (vp_in_iff.mpr ⟨by omega, by omega⟩) dL_law_557 ?_
  refine lv_topi (fun x_237 ex_237 => ?_)
  refine lv_aload_n hx hb dL_law_558 rfl (lv_at hl 3 rfl) ?_
  refine lv_iload_n hx hb dL_law_559 rfl (lv_at hl 0 rfl) ?_
  refine lv_iconst (v := 3) hx hb dL_law_560 (by decide) ?_
  refine lv_iadd hx hb dL_law_561 ?_
  refine lv_topi (fun x_238 ex_238 => ?_)
  have zx_238 : x_238.toInt = i.toInt + 3 := by rw [ex_238]; exact i32_add rfl (by decide) (by omega) (by omega)
  refine va_sld hx hb hX hbl hbA hW.2.2.2.1 (vp_in_iff.mpr ⟨by omega, by omega⟩) dL_law_562 ?_
  refine lv_topi (fun x_239 ex_239 => ?_)
  refine lv_aload_n hx hb dL_law_563 rfl (lv_at hl 3 rfl) ?_
  refine lv_iload_n hx hb dL_law_564 rfl (lv_at hl 0 rfl) ?_
  refine lv_iconst (v := 4) hx hb dL_law_565 (by decide) ?_
  refine lv_iadd hx hb dL_law_566 ?_
  refine lv_topi (fun x_240 ex_240 => ?_)
  have zx_240 : x_240.toInt = i.toInt + 4 := by rw [ex_240]; exact i32_add rfl (by decide) (by omega) (by omega)
  refine va_sld hx hb hX hbl hbA hW.2.2.2.1 (vp_in_iff.mpr ⟨by omega, by omega⟩) dL_law_567 ?_
  refine lv_topi (fun x_241 ex_241 => ?_)
  refine lv_aload_n hx hb dL_law_568 rfl (lv_at hl 3 rfl) ?_
  refine lv_iload_n hx hb dL_law_569 rfl (lv_at hl 0 rfl) ?_
  refine lv_iconst (v := 5) hx hb dL_law_570 (by decide) ?_
  refine lv_iadd hx hb dL_law_571 ?_
  refine lv_topi (fun x_242 ex_242 => ?_)
  have zx_242 : x_242.toInt = i.toInt + 5 := by rw [ex_242]; exact i32_add rfl (by decide) (by omega) (by omega)
  refine va_sld hx hb hX hbl hbA hW.2.2.2.1 (vp_in_iff.mpr ⟨by omega, by omega⟩) dL_law_572 ?_
  refine lv_topi (fun x_243 ex_243 => ?_)
  have hTo := hT
  refine hx_goi (hx_runV (As := [.int x_235, .int x_237, .int x_239, .int x_241, .int x_243]) (rest := []) ⟨hx, hb, hml, hown, hts⟩ hW gx tt_9 (T := TX9) (N := 20) rfl (t_X9_line_3 l dC dI dA L1 hl1 H.size ax x_235 x_237 x_239 x_241 x_243 hT gx qp g_qp f_qp qo_ln g_qo_ln f_qo_ln b_of g_b_of f_b_of b_wf g_b_wf f_b_wf b_df g_b_df f_b_df b_kf g_b_kf f_b_kf b_sf g_b_sf f_b_sf b_bf g_b_bf f_b_bf B_of n_b_of B_wf n_b_wf B_df n_b_df B_kf n_b_kf B_sf n_b_sf bfL n_b_bf ln f_o_ln np f_x_personCount nw f_x_now hBD pf_qp) (cwV 5 hts (hx_gV kw_671 kw_668 kw_669 kw_670 kw_94) rfl rfl rfl (by decide +kernel) ⟨Nat.le_of_ble_eq_true rfl, Nat.le_of_ble_eq_true rfl⟩) rfl hl.1 rfl (Nat.le_of_ble_eq_true rfl) dL_law_573 ⟨(show CC + 0 ≤ 600000 from by omega), (show SS + 0 ≤ 7302250 from by omega)⟩) hW (fun r_246 L_244 h_245 H locs p_247 hW => ?_)
  obtain ⟨⟨w_249, w_250, w_251, w_252, w_253, w_254, w_255, fw_249, fw_250, fw_251, fw_252, fw_253, fw_254, fw_255, hr_248⟩, hT, hs⟩ := p_247
  replace hT : hx_T T_tb L_244 h_245 := hT
  replace hs : hx_S T_tb [(1, 0), (13, 0), (14, 0), (15, 0), (16, 0), (17, 0), (18, 0)] L1 hl1 L_244 h_245 := hs
  replace f_qa := (hs.o gx trivial rfl).2.trans f_qa
  replace f_qp := (hs.o gx trivial rfl).2.trans f_qp
  replace f_qc := (hs.o gx trivial rfl).2.trans f_qc
  replace f_qh := (hs.o gx trivial rfl).2.trans f_qh
  replace f_qw := (hs.o gx trivial rfl).2.trans f_qw
  replace f_ql := (hs.o g_qw trivial rfl).2.trans f_ql
  replace f_m_now := (hs.o gm trivial rfl).1.trans f_m_now
  replace f_m_persons := (hs.o gm trivial rfl).1.trans f_m_persons
  replace f_m_claims := (hs.o gm trivial rfl).1.trans f_m_claims
  replace f_m_lines := (hs.o gm trivial rfl).1.trans f_m_lines
  replace f_m_listed := (hs.o gm trivial rfl).1.trans f_m_listed
  replace f_m_walkedMany := (hs.o gm trivial rfl).1.trans f_m_walkedMany
  replace f_m_acts := (hs.o gm trivial rfl).1.trans f_m_acts
  replace f_m_heardMany := (hs.o gm trivial rfl).1.trans f_m_heardMany
  replace f_x_now := (hs.o gx trivial rfl).1.trans f_x_now
  replace f_x_personCount := (hs.o gx trivial rfl).1.trans f_x_personCount
  replace f_x_claimCount := (hs.o gx trivial rfl).1.trans f_x_claimCount
  replace f_mw := (hs.o gm trivial rfl).2.trans f_mw
  replace f_mr := (hs.o gm trivial rfl).2.trans f_mr
  replace f_mp := (hs.o gm trivial rfl).2.trans f_mp
  replace f_mn := (hs.o gm trivial rfl).2.trans f_mn
  replace f_ml := (hs.o gm trivial rfl).2.trans f_ml
  replace f_mh := (hs.o gm trivial rfl).2.trans f_mh
  replace f_mt := (hs.o gm trivial rfl).2.trans f_mt
  replace f_m_fou := (hs.o gm trivial rfl).2.trans f_m_fou
  replace f_qo_ln := (hs.o gx trivial rfl).2.trans f_qo_ln
  replace f_o_lsd := (hs.o g_qw trivial rfl).1.trans f_o_lsd
  replace f_o_wkm := (hs.o g_qw trivial rfl).1.trans f_o_wkm
  replace f_b_of := (hs.o g_qo_ln trivial rfl).2.trans f_b_of
  replace f_m_of := (hs.o gm trivial rfl).2.trans f_m_of
  replace f_b_wf := (hs.o g_qo_ln trivial rfl).2.trans f_b_wf
  replace f_m_wf := (hs.o gm trivial rfl).2.trans f_m_wf
  replace f_b_df := (hs.o g_qo_ln trivial rfl).2.trans f_b_df
  replace f_m_df := (hs.o gm trivial rfl).2.trans f_m_df
  replace f_b_kf := (hs.o g_qo_ln trivial rfl).2.trans f_b_kf
  replace f_m_kf := (hs.o gm trivial rfl).2.trans f_m_kf
  replace f_b_sf := (hs.o g_qo_ln trivial rfl).2.trans f_b_sf
  replace f_m_sf := (hs.o gm trivial rfl).2.trans f_m_sf
  replace f_b_bf := (hs.o g_qo_ln trivial rfl).2.trans f_b_bf
  replace f_m_lst := (hs.o gm trivial rfl).2.trans f_m_lst
  replace f_m_dead := (hs.o gm trivial rfl).2.trans f_m_dead
  replace f_m_isj := (hs.o gm trivial rfl).2.trans f_m_isj
  replace f_m_dox := (hs.o gm trivial rfl).2.trans f_m_dox
  replace f_m_doy := (hs.o gm trivial rfl).2.trans f_m_doy
  replace f_qlt := (hs.o g_qw trivial rfl).2.trans f_qlt
  replace f_qlf := (hs.o g_qw trivial rfl).2.trans f_qlf
  replace f_m_wkd := (hs.o gm trivial rfl).2.trans f_m_wkd
  replace f_m_aga := (hs.o gm trivial rfl).2.trans f_m_aga
  replace pf_qa : ∀ j : Nat, (j : Int) < (h_245.2.1 ax 6).toInt → h_245.2.2 qa j ≠ none := by
    intro j hj; rw [(hs.o gx trivial rfl).1] at hj; rw [(hs.a g_qa rfl j).2]; exact pf_qa j hj
  replace pf_qp : ∀ j : Nat, (j : Int) < (h_245.2.1 ax 8).toInt → h_245.2.2 qp j ≠ none := by
    intro j hj; rw [(hs.o gx trivial rfl).1] at hj; rw [(hs.a g_qp rfl j).2]; exact pf_qp j hj
  replace pf_qc : ∀ j : Nat, (j : Int) < (h_245.2.1 ax 11).toInt → h_245.2.2 qc j ≠ none := by
    intro j hj; rw [(hs.o gx trivial rfl).1] at hj; rw [(hs.a g_qc rfl j).2]; exact pf_qc j hj
  replace pf_qh : ∀ j : Nat, (j : Int) < (h_245.2.1 ax 13).toInt → h_245.2.2 qh j ≠ none := by
    intro j hj; rw [(hs.o gx trivial rfl).1] at hj; rw [(hs.a g_qh rfl j).2]; exact pf_qh j hj
  replace pf_ql : ∀ j : Nat, (j : Int) < (h_245.2.1 qw 0).toInt → h_245.2.2 ql j ≠ none := by
    intro j hj; rw [(hs.o g_qw trivial rfl).1] at hj; rw [(hs.a g_ql rfl j).2]; exact pf_ql j hj
  replace cl_lst : hx_col 8 h_245 ql 0 = c_lst := (hx_col_S hs hTo g_ql tt_40 tt_2 rfl rfl).trans cl_lst
  replace cl_dead : hx_col 40 h_245 qp 7 = c_dead := (hx_col_S hs hTo g_qp tt_44 tt_4 rfl rfl).trans cl_dead
  replace cl_isj : hx_col 40 h_245 qp 8 = c_isj := (hx_col_S hs hTo g_qp tt_44 tt_4 rfl rfl).trans cl_isj
  replace cl_dox : hx_col 40 h_245 qp 5 = c_dox := (hx_col_S hs hTo g_qp tt_44 tt_4 rfl rfl).trans cl_dox
  replace cl_doy : hx_col 40 h_245 qp 6 = c_doy := (hx_col_S hs hTo g_qp tt_44 tt_4 rfl rfl).trans cl_doy
  replace cl_fou : hx_col 100 h_245 qc 10 = c_fou := (hx_col_S hs hTo g_qc tt_45 tt_2 rfl rfl).trans cl_fou
  replace cl_tri : hx_col 100 h_245 qc 9 = c_tri := (hx_col_S hs hTo g_qc tt_45 tt_2 rfl rfl).trans cl_tri
  replace nu_qp : hx_num 40 h_245 qp 0 (np.toInt) := hx_num_S hs hTo g_qp tt_44 tt_4 rfl rfl nu_qp
  replace nu_qc : hx_num 100 h_245 qc 0 (c0.toInt) := hx_num_S hs hTo g_qc tt_45 tt_2 rfl rfl nu_qc
  replace sb_list : hx_LQ 8 100 h_245 ql qc := hx_LQ_S hs g_ql g_qc rfl rfl sb_list
  replace hDF : hw_DF h_245 qc qp 2 F_aga c0.toInt := hw_DF_S hs hTo g_qc g_qp tt_45 tt_2 rfl rfl rfl hDF
  replace n_mw : h_245.2.1 mw = F_mw := (funext fun j => (hs.a g_mw rfl j).1).trans n_mw
  replace n_mr : h_245.2.1 mr = F_mr := (funext fun j => (hs.a g_mr rfl j).1).trans n_mr
  replace n_mp : h_245.2.1 mp = F_mp := (funext fun j => (hs.a g_mp rfl j).1).trans n_mp
  replace n_mn : h_245.2.1 mn = F_mn := (funext fun j => (hs.a g_mn rfl j).1).trans n_mn
  replace n_ml : h_245.2.1 ml = F_ml := (funext fun j => (hs.a g_ml rfl j).1).trans n_ml
  replace n_mh : h_245.2.1 mh = F_mh := (funext fun j => (hs.a g_mh rfl j).1).trans n_mh
  replace n_mt : h_245.2.1 mt = F_mt := (funext fun j => (hs.a g_mt rfl j).1).trans n_mt
  replace n_m_fou : h_245.2.1 m_fou = F_m_fou := (funext fun j => (hs.a g_m_fou rfl j).1).trans n_m_fou
  replace n_m_of : h_245.2.1 m_of = F_of := (funext fun j => (hs.a g_m_of rfl j).1).trans n_m_of
  replace n_m_wf : h_245.2.1 m_wf = F_wf := (funext fun j => (hs.a g_m_wf rfl j).1).trans n_m_wf
  replace n_m_df : h_245.2.1 m_df = F_df := (funext fun j => (hs.a g_m_df rfl j).1).trans n_m_df
  replace n_m_kf : h_245.2.1 m_kf = F_kf := (funext fun j => (hs.a g_m_kf rfl j).1).trans n_m_kf
  replace n_m_sf : h_245.2.1 m_sf = F_sf := (funext fun j => (hs.a g_m_sf rfl j).1).trans n_m_sf
  replace n_lst : h_245.2.1 m_lst = F_lst := (funext fun j => (hs.a g_m_lst rfl j).1).trans n_lst
  replace n_dead : h_245.2.1 m_dead = F_dead := (funext fun j => (hs.a g_m_dead rfl j).1).trans n_dead
  replace n_isj : h_245.2.1 m_isj = F_isj := (funext fun j => (hs.a g_m_isj rfl j).1).trans n_isj
  replace n_dox : h_245.2.1 m_dox = F_dox := (funext fun j => (hs.a g_m_dox rfl j).1).trans n_dox
  replace n_doy : h_245.2.1 m_doy = F_doy := (funext fun j => (hs.a g_m_doy rfl j).1).trans n_doy
  replace n_qlt : h_245.2.1 qlt = F_qlt := (funext fun j => (hs.a g_qlt rfl j).1).trans n_qlt
  replace n_m_wkd : h_245.2.1 m_wkd = F_m_wkd := (funext fun j => (hs.a g_m_wkd rfl j).1).trans n_m_wkd
  replace n_aga : h_245.2.1 m_aga = F_aga := (funext fun j => (hs.a g_m_aga rfl j).1).trans n_aga
  replace gx := gx.S hs
  replace gm := gm.S hs
  replace g_qa := g_qa.S hs
  replace g_qp := g_qp.S hs
  replace g_qc := g_qc.S hs
  replace g_qh := g_qh.S hs
  replace g_qw := g_qw.S hs
  replace g_ql := g_ql.S hs
  replace g_mw := g_mw.S hs
  replace g_mr := g_mr.S hs
  replace g_mp := g_mp.S hs
  replace g_mn := g_mn.S hs
  replace g_ml := g_ml.S hs
  replace g_mh := g_mh.S hs
  replace g_mt := g_mt.S hs
  replace g_m_fou := g_m_fou.S hs
  replace g_qo_ln := g_qo_ln.S hs
  replace g_b_of := g_b_of.S hs
  replace g_m_of := g_m_of.S hs
  replace g_b_wf := g_b_wf.S hs
  replace g_m_wf := g_m_wf.S hs
  replace g_b_df := g_b_df.S hs
  replace g_m_df := g_m_df.S hs
  replace g_b_kf := g_b_kf.S hs
  replace g_m_kf := g_m_kf.S hs
  replace g_b_sf := g_b_sf.S hs
  replace g_m_sf := g_m_sf.S hs
  replace g_b_bf := g_b_bf.S hs
  replace g_m_lst := g_m_lst.S hs
  replace g_m_dead := g_m_dead.S hs
  replace g_m_isj := g_m_isj.S hs
  replace g_m_dox := g_m_dox.S hs
  replace g_m_doy := g_m_doy.S hs
  replace g_qlt := g_qlt.S hs
  replace g_qlf := g_qlf.S hs
  replace g_m_wkd := g_m_wkd.S hs
  replace g_m_aga := g_m_aga.S hs
  have fw_249 : h_245.2.1 qo_ln 0 = w_249 := fw_249
  have bw_249 := hT.gi g_qo_ln tt_1 (k := 0) rfl
  rw [fw_249] at bw_249
  have bw_249 : 0 ≤ w_249.toInt ∧ w_249.toInt ≤ 400 := bw_249
  have fw_250 : h_245.2.1 b_of = w_250 := fw_250
  have fw_251 : h_245.2.1 b_wf = w_251 := fw_251
  have fw_252 : h_245.2.1 b_df = w_252 := fw_252
  have fw_253 : h_245.2.1 b_kf = w_253 := fw_253
  have fw_254 : h_245.2.1 b_sf = w_254 := fw_254
  have fw_255 : h_245.2.1 b_bf = w_255 := fw_255
  refine lv_pop hx hb dL_law_576 rfl ?_
  refine lv_aload_n hx hb dL_law_577 rfl (lv_at hl 1 rfl) ?_
  refine lv_aload_n hx hb dL_law_578 rfl (lv_at hl 3 rfl) ?_
  refine lv_iload_n hx hb dL_law_579 rfl (lv_at hl 0 rfl) ?_
  refine lv_iconst (v := 1) hx hb dL_law_580 (by decide) ?_
  refine lv_iadd hx hb dL_law_581 ?_
  refine lv_topi (fun x_256 ex_256 => ?_)
  have zx_256 : x_256.toInt = i.toInt + 1 := by rw [ex_256]; exact i32_add rfl (by decide) (by omega) (by omega)
  obtain rfl : x_234 = x_256 := ex_234.trans ex_256.symm
  refine va_sld hx hb hX hbl hbA hW.2.2.2.1 (vp_in_iff.mpr ⟨by omega, by omega⟩) dL_law_582 ?_
  refine lv_topi (fun x_257 ex_257 => ?_)
  obtain rfl : x_235 = x_257 := ex_235.trans ex_257.symm
  refine lv_aload_n hx hb dL_law_583 rfl (lv_at hl 3 rfl) ?_
  refine lv_iload_n hx hb dL_law_584 rfl (lv_at hl 0 rfl) ?_
  refine lv_iconst (v := 2) hx hb dL_law_585 (by decide) ?_
  refine lv_iadd hx hb dL_law_586 ?_
  refine lv_topi (fun x_258 ex_258 => ?_)
  have zx_258 : x_258.toInt = i.toInt + 2 := by rw [ex_258]; exact i32_add rfl (by decide) (by omega) (by omega)
  obtain rfl : x_236 = x_258 := ex_236.trans ex_258.symm
  refine va_sld hx hb hX hbl hbA hW.2.2.2.1 (vp_in_iff.mpr ⟨by omega, by omega⟩) dL_law_587 ?_
  refine lv_topi (fun x_259 ex_259 => ?_)
  obtain rfl : x_237 = x_259 := ex_237.trans ex_259.symm
  refine lv_aload_n hx hb dL_law_588 rfl (lv_at hl 3 rfl) ?_
  refine lv_iload_n hx hb dL_law_589 rfl (lv_at hl 0 rfl) ?_
  refine lv_iconst (v := 3) hx hb dL_law_590 (by decide) ?_
  refine lv_iadd hx hb dL_law_591 ?_
  refine lv_topi (fun x_260 ex_260 => ?_)
  have zx_260 : x_260.toInt = i.toInt + 3 := by rw [ex_260]; exact i32_add rfl (by decide) (by omega) (by omega)
  obtain rfl : x_238 = x_260 := ex_238.trans ex_260.symm
  refine va_sld hx hb hX hbl hbA hW.2.2.2.1 (vp_in_iff.mpr ⟨by omega, by omega⟩) dL_law_592 ?_
  refine lv_topi (fun x_261 ex_261 => ?_)
  obtain rfl : x_239 = x_261 := ex_239.trans ex_261.symm
  refine lv_aload_n hx hb dL_law_593 rfl (lv_at hl 3 rfl) ?_
  refine lv_iload_n hx hb dL_law_594 rfl (lv_at hl 0 rfl) ?_
  refine lv_iconst (v := 4) hx hb dL_law_595 (by decide) ?_
  refine lv_iadd hx hb dL_law_596 ?_
  refine lv_topi (fun x_262 ex_262 => ?_)
  have zx_262 : x_262.toInt = i.toInt + 4 := by rw [ex_262]; exact i32_add rfl (by decide) (by omega) (by omega)
  obtain rfl : x_240 = x_262 := ex_240.trans ex_262.symm
  refine va_sld hx hb hX hbl hbA hW.2.2.2.1 (vp_in_iff.mpr ⟨by omega, by omega⟩) dL_law_597 ?_
  refine lv_topi (fun x_263 ex_263 => ?_)
  obtain rfl : x_241 = x_263 := ex_241.trans ex_263.symm
  refine lv_aload_n hx hb dL_law_598 rfl (lv_at hl 3 rfl) ?_
  refine lv_iload_n hx hb dL_law_599 rfl (lv_at hl 0 rfl) ?_
  refine lv_iconst (v := 5) hx hb dL_law_600 (by decide) ?_
  refine lv_iadd hx hb dL_law_601 ?_
  refine lv_topi (fun x_264 ex_264 => ?_)
  have zx_264 : x_264.toInt = i.toInt + 5 := by rw [ex_264]; exact i32_add rfl (by decide) (by omega) (by omega)
  obtain rfl : x_242 = x_264 := ex_242.trans ex_264.symm
  refine va_sld hx hb hX hbl hbA hW.2.2.2.1 (vp_in_iff.mpr ⟨by omega, by omega⟩) dL_law_602 ?_
  refine lv_topi (fun x_265 ex_265 => ?_)
  obtain rfl : x_243 = x_265 := ex_243.trans ex_265.symm
  have hTo := hT
  refine hx_goi (hx_runV (As := [.int x_235, .int x_237, .int x_239, .int x_241, .int x_243]) (rest := []) ⟨hx, hb, hml, hown, hts⟩ hW gm tt_10 (T := TX10) (N := 98) rfl (t_X10_line_3 l dC dI dA L_244 h_245 H.size am x_235 x_237 x_239 x_241 x_243 hT gm m_of g_m_of f_m_of m_wf g_m_wf f_m_wf m_df g_m_df f_m_df m_kf g_m_kf f_m_kf m_sf g_m_sf f_m_sf F_of n_m_of F_wf n_m_wf F_df n_m_df F_kf n_m_kf F_sf n_m_sf ln f_m_lines np f_m_persons nw f_m_now) (cwV 5 hts (hx_gV kw_1564 kw_1561 kw_1562 kw_1563 kw_103) rfl rfl rfl (by decide +kernel) ⟨Nat.le_of_ble_eq_true rfl, Nat.le_of_ble_eq_true rfl⟩) rfl hl.1 rfl (Nat.le_of_ble_eq_true rfl) dL_law_603 ⟨(show CC + 0 + 0 ≤ 600000 from by omega), (show SS + 0 + 0 ≤ 7302250 from by omega)⟩) hW (fun r_268 L_266 h_267 H locs p_269 hW => ?_)
  obtain ⟨⟨w_271, w_272, w_273, w_274, w_275, w_276, fw_271, fw_272, fw_273, fw_274, fw_275, fw_276, hr_270⟩, hT, hs⟩ := p_269
  replace hT : hx_T T_tb L_266 h_267 := hT
  replace hs : hx_S T_tb [(10, 29), (66, 0), (67, 0), (68, 0), (69, 0), (70, 0)] L_244 h_245 L_266 h_267 := hs
  replace f_qa := (hs.o gx trivial rfl).2.trans f_qa
  replace f_qp := (hs.o gx trivial rfl).2.trans f_qp
  replace f_qc := (hs.o gx trivial rfl).2.trans f_qc
  replace f_qh := (hs.o gx trivial rfl).2.trans f_qh
  replace f_qw := (hs.o gx trivial rfl).2.trans f_qw
  replace f_ql := (hs.o g_qw trivial rfl).2.trans f_ql
  replace f_m_now := (hs.o gm trivial rfl).1.trans f_m_now
  replace f_m_persons := (hs.o gm trivial rfl).1.trans f_m_persons
  replace f_m_claims := (hs.o gm trivial rfl).1.trans f_m_claims
  replace f_m_listed := (hs.o gm trivial rfl).1.trans f_m_listed
  replace f_m_walkedMany := (hs.o gm trivial rfl).1.trans f_m_walkedMany
  replace f_m_acts := (hs.o gm trivial rfl).1.trans f_m_acts
  replace f_m_heardMany := (hs.o gm trivial rfl).1.trans f_m_heardMany
  replace f_x_now := (hs.o gx trivial rfl).1.trans f_x_now
  replace f_x_personCount := (hs.o gx trivial rfl).1.trans f_x_personCount
  replace f_x_claimCount := (hs.o gx trivial rfl).1.trans f_x_claimCount
  replace f_mw := (hs.o gm trivial rfl).2.trans f_mw
  replace f_mr := (hs.o gm trivial rfl).2.trans f_mr
  replace f_mp := (hs.o gm trivial rfl).2.trans f_mp
  replace f_mn := (hs.o gm trivial rfl).2.trans f_mn
  replace f_ml := (hs.o gm trivial rfl).2.trans f_ml
  replace f_mh := (hs.o gm trivial rfl).2.trans f_mh
  replace f_mt := (hs.o gm trivial rfl).2.trans f_mt
  replace f_m_fou := (hs.o gm trivial rfl).2.trans f_m_fou
  replace f_qo_ln := (hs.o gx trivial rfl).2.trans f_qo_ln
  replace f_o_lsd := (hs.o g_qw trivial rfl).1.trans f_o_lsd
  replace f_o_wkm := (hs.o g_qw trivial rfl).1.trans f_o_wkm
  replace f_b_of := (hs.o g_qo_ln trivial rfl).2.trans f_b_of
  replace f_m_of := (hs.o gm trivial rfl).2.trans f_m_of
  replace f_b_wf := (hs.o g_qo_ln trivial rfl).2.trans f_b_wf
  replace f_m_wf := (hs.o gm trivial rfl).2.trans f_m_wf
  replace f_b_df := (hs.o g_qo_ln trivial rfl).2.trans f_b_df
  replace f_m_df := (hs.o gm trivial rfl).2.trans f_m_df
  replace f_b_kf := (hs.o g_qo_ln trivial rfl).2.trans f_b_kf
  replace f_m_kf := (hs.o gm trivial rfl).2.trans f_m_kf
  replace f_b_sf := (hs.o g_qo_ln trivial rfl).2.trans f_b_sf
  replace f_m_sf := (hs.o gm trivial rfl).2.trans f_m_sf
  replace f_b_bf := (hs.o g_qo_ln trivial rfl).2.trans f_b_bf
  replace f_m_lst := (hs.o gm trivial rfl).2.trans f_m_lst
  replace f_m_dead := (hs.o gm trivial rfl).2.trans f_m_dead
  replace f_m_isj := (hs.o gm trivial rfl).2.trans f_m_isj
  replace f_m_dox := (hs.o gm trivial rfl).2.trans f_m_dox
  replace f_m_doy := (hs.o gm trivial rfl).2.trans f_m_doy
  replace f_qlt := (hs.o g_qw trivial rfl).2.trans f_qlt
  replace f_qlf := (hs.o g_qw trivial rfl).2.trans f_qlf
  replace f_m_wkd := (hs.o gm trivial rfl).2.trans f_m_wkd
  replace f_m_aga := (hs.o gm trivial rfl).2.trans f_m_aga
  replace fw_249 := (hs.o g_qo_ln trivial rfl).1.trans fw_249
  replace pf_qa : ∀ j : Nat, (j : Int) < (h_267.2.1 ax 6).toInt → h_267.2.2 qa j ≠ none := by
    intro j hj; rw [(hs.o gx trivial rfl).1] at hj; rw [(hs.a g_qa rfl j).2]; exact pf_qa j hj
  replace pf_qp : ∀ j : Nat, (j : Int) < (h_267.2.1 ax 8).toInt → h_267.2.2 qp j ≠ none := by
    intro j hj; rw [(hs.o gx trivial rfl).1] at hj; rw [(hs.a g_qp rfl j).2]; exact pf_qp j hj
  replace pf_qc : ∀ j : Nat, (j : Int) < (h_267.2.1 ax 11).toInt → h_267.2.2 qc j ≠ none := by
    intro j hj; rw [(hs.o gx trivial rfl).1] at hj; rw [(hs.a g_qc rfl j).2]; exact pf_qc j hj
  replace pf_qh : ∀ j : Nat, (j : Int) < (h_267.2.1 ax 13).toInt → h_267.2.2 qh j ≠ none := by
    intro j hj; rw [(hs.o gx trivial rfl).1] at hj; rw [(hs.a g_qh rfl j).2]; exact pf_qh j hj
  replace pf_ql : ∀ j : Nat, (j : Int) < (h_267.2.1 qw 0).toInt → h_267.2.2 ql j ≠ none := by
    intro j hj; rw [(hs.o g_qw trivial rfl).1] at hj; rw [(hs.a g_ql rfl j).2]; exact pf_ql j hj
  replace cl_lst : hx_col 8 h_267 ql 0 = c_lst := (hx_col_S hs hTo g_ql tt_40 tt_2 rfl rfl).trans cl_lst
  replace cl_dead : hx_col 40 h_267 qp 7 = c_dead := (hx_col_S hs hTo g_qp tt_44 tt_4 rfl rfl).trans cl_dead
  replace cl_isj : hx_col 40 h_267 qp 8 = c_isj := (hx_col_S hs hTo g_qp tt_44 tt_4 rfl rfl).trans cl_isj
  replace cl_dox : hx_col 40 h_267 qp 5 = c_dox := (hx_col_S hs hTo g_qp tt_44 tt_4 rfl rfl).trans cl_dox
  replace cl_doy : hx_col 40 h_267 qp 6 = c_doy := (hx_col_S hs hTo g_qp tt_44 tt_4 rfl rfl).trans cl_doy
  replace cl_fou : hx_col 100 h_267 qc 10 = c_fou := (hx_col_S hs hTo g_qc tt_45 tt_2 rfl rfl).trans cl_fou
  replace cl_tri : hx_col 100 h_267 qc 9 = c_tri := (hx_col_S hs hTo g_qc tt_45 tt_2 rfl rfl).trans cl_tri
  replace nu_qp : hx_num 40 h_267 qp 0 (np.toInt) := hx_num_S hs hTo g_qp tt_44 tt_4 rfl rfl nu_qp
  replace nu_qc : hx_num 100 h_267 qc 0 (c0.toInt) := hx_num_S hs hTo g_qc tt_45 tt_2 rfl rfl nu_qc
  replace sb_list : hx_LQ 8 100 h_267 ql qc := hx_LQ_S hs g_ql g_qc rfl rfl sb_list
  replace hDF : hw_DF h_267 qc qp 2 F_aga c0.toInt := hw_DF_S hs hTo g_qc g_qp tt_45 tt_2 rfl rfl rfl hDF
  replace n_mw : h_267.2.1 mw = F_mw := (funext fun j => (hs.a g_mw rfl j).1).trans n_mw
  replace n_mr : h_267.2.1 mr = F_mr := (funext fun j => (hs.a g_mr rfl j).1).trans n_mr
  replace n_mp : h_267.2.1 mp = F_mp := (funext fun j => (hs.a g_mp rfl j).1).trans n_mp
  replace n_mn : h_267.2.1 mn = F_mn := (funext fun j => (hs.a g_mn rfl j).1).trans n_mn
  replace n_ml : h_267.2.1 ml = F_ml := (funext fun j => (hs.a g_ml rfl j).1).trans n_ml
  replace n_mh : h_267.2.1 mh = F_mh := (funext fun j => (hs.a g_mh rfl j).1).trans n_mh
  replace n_mt : h_267.2.1 mt = F_mt := (funext fun j => (hs.a g_mt rfl j).1).trans n_mt
  replace n_m_fou : h_267.2.1 m_fou = F_m_fou := (funext fun j => (hs.a g_m_fou rfl j).1).trans n_m_fou
  replace n_lst : h_267.2.1 m_lst = F_lst := (funext fun j => (hs.a g_m_lst rfl j).1).trans n_lst
  replace n_dead : h_267.2.1 m_dead = F_dead := (funext fun j => (hs.a g_m_dead rfl j).1).trans n_dead
  replace n_isj : h_267.2.1 m_isj = F_isj := (funext fun j => (hs.a g_m_isj rfl j).1).trans n_isj
  replace n_dox : h_267.2.1 m_dox = F_dox := (funext fun j => (hs.a g_m_dox rfl j).1).trans n_dox
  replace n_doy : h_267.2.1 m_doy = F_doy := (funext fun j => (hs.a g_m_doy rfl j).1).trans n_doy
  replace n_qlt : h_267.2.1 qlt = F_qlt := (funext fun j => (hs.a g_qlt rfl j).1).trans n_qlt
  replace n_m_wkd : h_267.2.1 m_wkd = F_m_wkd := (funext fun j => (hs.a g_m_wkd rfl j).1).trans n_m_wkd
  replace n_aga : h_267.2.1 m_aga = F_aga := (funext fun j => (hs.a g_m_aga rfl j).1).trans n_aga
  replace fw_250 : h_267.2.1 b_of = w_250 := (funext fun j => (hs.a g_b_of rfl j).1).trans fw_250
  replace fw_251 : h_267.2.1 b_wf = w_251 := (funext fun j => (hs.a g_b_wf rfl j).1).trans fw_251
  replace fw_252 : h_267.2.1 b_df = w_252 := (funext fun j => (hs.a g_b_df rfl j).1).trans fw_252
  replace fw_253 : h_267.2.1 b_kf = w_253 := (funext fun j => (hs.a g_b_kf rfl j).1).trans fw_253
  replace fw_254 : h_267.2.1 b_sf = w_254 := (funext fun j => (hs.a g_b_sf rfl j).1).trans fw_254
  replace fw_255 : h_267.2.1 b_bf = w_255 := (funext fun j => (hs.a g_b_bf rfl j).1).trans fw_255
  replace gx := gx.S hs
  replace gm := gm.S hs
  replace g_qa := g_qa.S hs
  replace g_qp := g_qp.S hs
  replace g_qc := g_qc.S hs
  replace g_qh := g_qh.S hs
  replace g_qw := g_qw.S hs
  replace g_ql := g_ql.S hs
  replace g_mw := g_mw.S hs
  replace g_mr := g_mr.S hs
  replace g_mp := g_mp.S hs
  replace g_mn := g_mn.S hs
  replace g_ml := g_ml.S hs
  replace g_mh := g_mh.S hs
  replace g_mt := g_mt.S hs
  replace g_m_fou := g_m_fou.S hs
  replace g_qo_ln := g_qo_ln.S hs
  replace g_b_of := g_b_of.S hs
  replace g_m_of := g_m_of.S hs
  replace g_b_wf := g_b_wf.S hs
  replace g_m_wf := g_m_wf.S hs
  replace g_b_df := g_b_df.S hs
  replace g_m_df := g_m_df.S hs
  replace g_b_kf := g_b_kf.S hs
  replace g_m_kf := g_m_kf.S hs
  replace g_b_sf := g_b_sf.S hs
  replace g_m_sf := g_m_sf.S hs
  replace g_b_bf := g_b_bf.S hs
  replace g_m_lst := g_m_lst.S hs
  replace g_m_dead := g_m_dead.S hs
  replace g_m_isj := g_m_isj.S hs
  replace g_m_dox := g_m_dox.S hs
  replace g_m_doy := g_m_doy.S hs
  replace g_qlt := g_qlt.S hs
  replace g_qlf := g_qlf.S hs
  replace g_m_wkd := g_m_wkd.S hs
  replace g_m_aga := g_m_aga.S hs
  have fw_271 : h_267.2.1 am 29 = w_271 := fw_271
  have bw_271 := hT.gi gm tt_10 (k := 29) rfl
  rw [fw_271] at bw_271
  have bw_271 : 0 ≤ w_271.toInt ∧ w_271.toInt ≤ 400 := bw_271
  have fw_272 : h_267.2.1 m_of = w_272 := fw_272
  have fw_273 : h_267.2.1 m_wf = w_273 := fw_273
  have fw_274 : h_267.2.1 m_df = w_274 := fw_274
  have fw_275 : h_267.2.1 m_kf = w_275 := fw_275
  have fw_276 : h_267.2.1 m_sf = w_276 := fw_276
  refine lv_pop hx hb dL_law_606 rfl ?_
  refine lv_goto (tgt := 1379) hx hb dL_law_607 (by decide) ?_
  obtain ⟨heq, hq_ln⟩ := hx_lk hr_248.1 hr_270.1
  have hq_b_of := hx_lak heq (by rcases hr_248.1 with ⟨z, w, _⟩ | ⟨z, w, _⟩; exact Or.inl ⟨z, w⟩; exact Or.inr ⟨z, w⟩) hr_248.2.1 hr_270.2.1 eb_of
  have hq_b_wf := hx_lak heq (by rcases hr_248.1 with ⟨z, w, _⟩ | ⟨z, w, _⟩; exact Or.inl ⟨z, w⟩; exact Or.inr ⟨z, w⟩) hr_248.2.2.1 hr_270.2.2.1 eb_wf
  have hq_b_df := hx_lak heq (by rcases hr_248.1 with ⟨z, w, _⟩ | ⟨z, w, _⟩; exact Or.inl ⟨z, w⟩; exact Or.inr ⟨z, w⟩) hr_248.2.2.2.1 hr_270.2.2.2.1 eb_df
  have hq_b_kf := hx_lak heq (by rcases hr_248.1 with ⟨z, w, _⟩ | ⟨z, w, _⟩; exact Or.inl ⟨z, w⟩; exact Or.inr ⟨z, w⟩) hr_248.2.2.2.2.1 hr_270.2.2.2.2.1 eb_kf
  have hq_b_sf := hx_lak heq (by rcases hr_248.1 with ⟨z, w, _⟩ | ⟨z, w, _⟩; exact Or.inl ⟨z, w⟩; exact Or.inr ⟨z, w⟩) hr_248.2.2.2.2.2.1 hr_270.2.2.2.2.2 eb_sf
  have hq_DY := hy_DY_s hDY (by rcases hr_248.1 with ⟨z, w, _⟩ | ⟨z, w, y⟩; exact Or.inl ⟨z, w⟩; exact Or.inr ⟨z, w, by have := y.2.2.2.2.1; omega, by have := y.2.2.2.2.1; omega⟩) (by omega) hr_248.2.2.2.1
  refine W.widen (k := CC + 3) (n := SS + 179) (by omega) (by omega) ?_
  exact kk L_266 h_267 H locs ls hW ⟨hT, gx, gm, ⟨f_x_now.trans f_m_now.symm, f_x_personCount.trans f_m_persons.symm, f_x_claimCount.trans f_m_claims.symm, hx_ob f_qo_ln ((fw_249.trans hq_ln).trans fw_271.symm), hx_ob f_qw (f_o_lsd.trans f_m_listed.symm), hx_ob f_qw (f_o_wkm.trans f_m_walkedMany.symm), hx_ob f_qp (by rw [f_x_personCount]; exact nu_qp), hx_ob f_qc (by rw [f_x_claimCount]; exact nu_qc), (fun b a r hb ha hr => by obtain rfl : qo_ln = b := Option.some.inj (f_qo_ln.symm.trans hb); obtain rfl : b_of = a := Option.some.inj (f_b_of.symm.trans ha); obtain rfl : m_of = r := Option.some.inj (f_m_of.symm.trans hr); rw [fw_250, fw_272, fw_249]; exact hq_b_of), (fun b a r hb ha hr => by obtain rfl : qo_ln = b := Option.some.inj (f_qo_ln.symm.trans hb); obtain rfl : b_wf = a := Option.some.inj (f_b_wf.symm.trans ha); obtain rfl : m_wf = r := Option.some.inj (f_m_wf.symm.trans hr); rw [fw_251, fw_273, fw_249]; exact hq_b_wf), (fun b a r hb ha hr => by obtain rfl : qo_ln = b := Option.some.inj (f_qo_ln.symm.trans hb); obtain rfl : b_df = a := Option.some.inj (f_b_df.symm.trans ha); obtain rfl : m_df = r := Option.some.inj (f_m_df.symm.trans hr); rw [fw_252, fw_274, fw_249]; exact hq_b_df), (fun b a r hb ha hr => by obtain rfl : qo_ln = b := Option.some.inj (f_qo_ln.symm.trans hb); obtain rfl : b_kf = a := Option.some.inj (f_b_kf.symm.trans ha); obtain rfl : m_kf = r := Option.some.inj (f_m_kf.symm.trans hr); rw [fw_253, fw_275, fw_249]; exact hq_b_kf), (fun b a r hb ha hr => by obtain rfl : qo_ln = b := Option.some.inj (f_qo_ln.symm.trans hb); obtain rfl : b_sf = a := Option.some.inj (f_b_sf.symm.trans ha); obtain rfl : m_sf = r := Option.some.inj (f_m_sf.symm.trans hr); rw [fw_254, fw_276, fw_249]; exact hq_b_sf), (fun b a r hb ha hr => by obtain rfl : qo_ln = b := Option.some.inj (f_qo_ln.symm.trans hb); obtain rfl : b_df = a := Option.some.inj (f_b_df.symm.trans ha); obtain rfl : b_bf = r := Option.some.inj (f_b_bf.symm.trans hr); rw [fw_252, fw_255, fw_249]; exact ⟨hr_248.2.2.2.2.2.2, hq_DY⟩), (fun w q c hw hq hc => by obtain rfl : qw = w := Option.some.inj (f_qw.symm.trans hw); obtain rfl : ql = q := Option.some.inj (f_ql.symm.trans hq); obtain rfl : qc = c := Option.some.inj (f_qc.symm.trans hc); exact sb_list), (fun w q r hw hq hr => by obtain rfl : qw = w := Option.some.inj (f_qw.symm.trans hw); obtain rfl : ql = q := Option.some.inj (f_ql.symm.trans hq); obtain rfl : m_lst = r := Option.some.inj (f_m_lst.symm.trans hr); rw [cl_lst, n_lst]; exact eq_lst), (fun w q r hw hq hr => by obtain rfl : qw = w := Option.some.inj (f_qw.symm.trans hw); obtain rfl : qlt = q := Option.some.inj (f_qlt.symm.trans hq); obtain rfl : m_wkd = r := Option.some.inj (f_m_wkd.symm.trans hr); rw [n_qlt, n_m_wkd, f_o_wkm]; exact eb_wkd), (fun c q a hc hq ha => by obtain rfl : qc = c := Option.some.inj (f_qc.symm.trans hc); obtain rfl : qp = q := Option.some.inj (f_qp.symm.trans hq); obtain rfl : m_aga = a := Option.some.inj (f_m_aga.symm.trans ha); rw [n_aga, f_x_claimCount]; exact hw_DF_e hDF rfl rfl), hx_ob2 f_qp f_m_dead (by rw [cl_dead, n_dead]; exact eq_dead), hx_ob2 f_qp f_m_isj (by rw [cl_isj, n_isj]; exact eq_isj), hx_ob2 f_qp f_m_dox (by rw [cl_dox, n_dox]; exact eq_dox), hx_ob2 f_qp f_m_doy (by rw [cl_doy, n_doy]; exact eq_doy), hx_ob2 f_qc f_m_fou (by rw [cl_fou, n_m_fou]; exact eq_fou), hx_ob2 f_qc f_mt (by rw [cl_tri, n_mt]; exact eq_tri), trivial⟩, ⟨hx_ob f_qa pf_qa, hx_ob f_qp pf_qp, hx_ob f_qc pf_qc, hx_ob f_qh pf_qh, (fun w q hw hq => by obtain rfl : qw = w := Option.some.inj (f_qw.symm.trans hw); obtain rfl : ql = q := Option.some.inj (f_ql.symm.trans hq); exact pf_ql)⟩, ⟨hx_ob f_mw (by rw [n_mw]; exact hwd), hx_ob f_mr (by rw [n_mr, f_m_acts]; exact hWK), hx_ob2 f_mp f_mn (by rw [n_mp, n_mn, f_m_acts]; exact hRP), hx_ob f_ml (by rw [n_ml, f_m_claims, f_m_acts]; exact hPL), hx_ob f_mh (by rw [n_mh, f_m_heardMany, f_m_claims]; exact hHC), hx_ob f_mt (by rw [n_mt]; exact (hx_TR_le hTR (by omega))), hx_ob2 f_mh f_m_fou (by rw [n_mh, n_m_fou, f_m_claims]; exact hHF)⟩⟩ hl

set_option maxHeartbeats 4000000 in
set_option maxRecDepth 100000 in
theorem law_case_10 {p : Program} {e : Env} {s : State} {m : MethodId} {below : List Frame} {meth : Method} {c : Code} (l : Launch) {b LN : Nat} {xs : Nat → Int32} (hx : p.tables.exec = Jvm.exec) (hb : c.code = code) (hr : meth.sig.returnType = ret) (hlocks : meth.locks = false) (hml : c.maxLocals = 4) (hown : s.vm.findClass "SmallCourtLaw" = some m.cls) (hts : ∀ w ∈ hx_all, w.before #[Value.ref b] s = true) (hX : va_X b LN xs s s.heap) (hbl : b < s.heap.size) (hbA : ¬ s.heap.size ≤ b) (hLN : LN ≤ 3584) (dC : Nat → ClassId) (dI : Nat → Nat → Nat) (dA : Nat → ClassId) (b0 : hx_z) (ax am : Nat) (T1 : Int) (hT0 : 0 ≤ T1) (hT1 : T1 ≤ 511) (i : Int32) (hi0 : 0 ≤ i.toInt) (hiL : i.toInt + 7 ≤ LN) (CC SS : Nat) (hCC : CC + 3 ≤ 600000) (hSS : SS + 179 ≤ 7302250) (L1 : List Nat) (hl1 : hx_h) (H : Heap) (locs : List Loc) (ls : Array Slot) (hW : hx_W T_tb (P_ty dA) (dC, dI) vwCl (fun q : Nat => s.heap.size ≤ q) s.heap L1 hl1 s H locs) (hZ : hx_Xt (fun q : Nat => s.heap.size ≤ q) b0 s) (hI : hx_IV T1 ax am L1 hl1) (hl : lv_has ls 4 [(3, .int i), (2, .ref am), (1, .ref ax), (0, .ref b)]) (kk : ∀ (L2 : List Nat) (h2 : hx_h) (H2 : Heap) (locs2 : List Loc) (ls2 : Array Slot), hx_W T_tb (P_ty dA) (dC, dI) vwCl (fun q : Nat => s.heap.size ≤ q) s.heap L2 h2 s H2 locs2 → hx_IV (T1 + 1) ax am L2 h2 → lv_has ls2 4 [(3, .int i), (2, .ref am), (1, .ref ax), (0, .ref b)] → W p l e room_1 s m #[Value.ref b] below meth c H2 locs2 (CC + 3) (SS + 179) (lw_Z below #[Value.ref b] s) (F0 m 1379 ls2 [])) : W p l e room_1 s m #[Value.ref b] below meth c H locs CC SS (lw_Z below #[Value.ref b] s) (F0 m 610 ls []) := by
  obtain ⟨hT, gx, gm, ⟨he_nw, he_np, he_c0, ho_ln, ho_lsd, ho_wkm, hn_qp, hn_qc, hk_of, hk_wf, hk_df, hk_kf, hk_sf, hkBD, hLQ, hLE, hkWD, hkDF, hc_dead, hc_isj, hc_dox, hc_doy, hc_fou, hc_tri, -⟩, ⟨ia, ip, ic, ih, il⟩, ⟨jw, jr, jp, jl, jh, jt, jf⟩⟩ := hI
  obtain ⟨qa, f_qa, g_qa⟩ := hx_rf hT gx tt_9 (k := 5) (u := 43) rfl
  have pf_qa := ia qa f_qa
  obtain ⟨qp, f_qp, g_qp⟩ := hx_rf hT gx tt_9 (k := 7) (u := 44) rfl
  have pf_qp := ip qp f_qp
  obtain ⟨qc, f_qc, g_qc⟩ := hx_rf hT gx tt_9 (k := 10) (u := 45) rfl
  have pf_qc := ic qc f_qc
  obtain ⟨qh, f_qh, g_qh⟩ := hx_rf hT gx tt_9 (k := 12) (u := 46) rfl
  have pf_qh := ih qh f_qh
  obtain ⟨qw, f_qw, g_qw⟩ := hx_rf hT gx tt_9 (k := 19) (u := 8) rfl
  obtain ⟨ql, f_ql, g_ql⟩ := hx_rf hT g_qw tt_8 (k := 3) (u := 40) rfl
  have pf_ql := il qw ql f_qw f_ql
  obtain ⟨nw, f_m_now⟩ : ∃ y : Int32, hl1.2.1 am 0 = y := ⟨_, rfl⟩
  have b_nw := hT.gi gm tt_10 (k := 0) rfl
  rw [f_m_now] at b_nw
  have b_nw : 0 ≤ nw.toInt ∧ nw.toInt ≤ 7999 := b_nw
  obtain ⟨np, f_m_persons⟩ : ∃ y : Int32, hl1.2.1 am 20 = y := ⟨_, rfl⟩
  have b_np := hT.gi gm tt_10 (k := 20) rfl
  rw [f_m_persons] at b_np
  have b_np : 0 ≤ np.toInt ∧ np.toInt ≤ 40 := b_np
  obtain ⟨c0, f_m_claims⟩ : ∃ y : Int32, hl1.2.1 am 36 = y := ⟨_, rfl⟩
  have b_c0 := hT.gi gm tt_10 (k := 36) rfl
  rw [f_m_claims] at b_c0
  have b_c0 : 0 ≤ c0.toInt ∧ c0.toInt ≤ 100 := b_c0
  obtain ⟨ln, f_m_lines⟩ : ∃ y : Int32, hl1.2.1 am 29 = y := ⟨_, rfl⟩
  have b_ln := hT.gi gm tt_10 (k := 29) rfl
  rw [f_m_lines] at b_ln
  have b_ln : 0 ≤ ln.toInt ∧ ln.toInt ≤ 400 := b_ln
  obtain ⟨lsd, f_m_listed⟩ : ∃ y : Int32, hl1.2.1 am 90 = y := ⟨_, rfl⟩
  have b_lsd := hT.gi gm tt_10 (k := 90) rfl
  rw [f_m_listed] at b_lsd
  have b_lsd : 0 ≤ lsd.toInt ∧ lsd.toInt ≤ 8 := b_lsd
  obtain ⟨wkm, f_m_walkedMany⟩ : ∃ y : Int32, hl1.2.1 am 92 = y := ⟨_, rfl⟩
  have b_wkm := hT.gi gm tt_10 (k := 92) rfl
  rw [f_m_walkedMany] at b_wkm
  have b_wkm : 0 ≤ wkm.toInt ∧ wkm.toInt ≤ 8 := b_wkm
  obtain ⟨a0, f_m_acts⟩ : ∃ y : Int32, hl1.2.1 am 1 = y := ⟨_, rfl⟩
  have b_a0 := hT.gi gm tt_10 (k := 1) rfl
  rw [f_m_acts] at b_a0
  have b_a0 : 0 ≤ a0.toInt ∧ a0.toInt ≤ 8 := b_a0
  obtain ⟨m0, f_m_heardMany⟩ : ∃ y : Int32, hl1.2.1 am 57 = y := ⟨_, rfl⟩
  have b_m0 := hT.gi gm tt_10 (k := 57) rfl
  rw [f_m_heardMany] at b_m0
  have b_m0 : 0 ≤ m0.toInt ∧ m0.toInt ≤ 100 := b_m0
  have f_x_now : hl1.2.1 ax 2 = nw := he_nw.trans f_m_now
  have f_x_personCount : hl1.2.1 ax 8 = np := he_np.trans f_m_persons
  have f_x_claimCount : hl1.2.1 ax 11 = c0 := he_c0.trans f_m_claims
  obtain ⟨mw, f_mw, g_mw⟩ := hx_rf hT gm tt_10 (k := 19) (u := 57) rfl
  obtain ⟨F_mw, n_mw⟩ : ∃ g : Nat → Int32, hl1.2.1 mw = g := ⟨_, rfl⟩
  obtain ⟨mr, f_mr, g_mr⟩ := hx_rf hT gm tt_10 (k := 3) (u := 50) rfl
  obtain ⟨F_mr, n_mr⟩ : ∃ g : Nat → Int32, hl1.2.1 mr = g := ⟨_, rfl⟩
  obtain ⟨mp, f_mp, g_mp⟩ := hx_rf hT gm tt_10 (k := 5) (u := 52) rfl
  obtain ⟨F_mp, n_mp⟩ : ∃ g : Nat → Int32, hl1.2.1 mp = g := ⟨_, rfl⟩
  obtain ⟨mn, f_mn, g_mn⟩ := hx_rf hT gm tt_10 (k := 4) (u := 51) rfl
  obtain ⟨F_mn, n_mn⟩ : ∃ g : Nat → Int32, hl1.2.1 mn = g := ⟨_, rfl⟩
  obtain ⟨ml, f_ml, g_ml⟩ := hx_rf hT gm tt_10 (k := 44) (u := 79) rfl
  obtain ⟨F_ml, n_ml⟩ : ∃ g : Nat → Int32, hl1.2.1 ml = g := ⟨_, rfl⟩
  obtain ⟨mh, f_mh, g_mh⟩ := hx_rf hT gm tt_10 (k := 47) (u := 82) rfl
  obtain ⟨F_mh, n_mh⟩ : ∃ g : Nat → Int32, hl1.2.1 mh = g := ⟨_, rfl⟩
  obtain ⟨mt, f_mt, g_mt⟩ := hx_rf hT gm tt_10 (k := 45) (u := 80) rfl
  obtain ⟨F_mt, n_mt⟩ : ∃ g : Nat → Int32, hl1.2.1 mt = g := ⟨_, rfl⟩
  obtain ⟨m_fou, f_m_fou, g_m_fou⟩ := hx_rf hT gm tt_10 (k := 46) (u := 81) rfl
  obtain ⟨F_m_fou, n_m_fou⟩ : ∃ g : Nat → Int32, hl1.2.1 m_fou = g := ⟨_, rfl⟩
  obtain ⟨qo_ln, f_qo_ln, g_qo_ln⟩ := hx_rf hT gx tt_9 (k := 9) (u := 1) rfl
  have f_o_ln : hl1.2.1 qo_ln 0 = ln := (ho_ln qo_ln f_qo_ln).trans f_m_lines
  have f_o_lsd : hl1.2.1 qw 0 = lsd := (ho_lsd qw f_qw).trans f_m_listed
  have f_o_wkm : hl1.2.1 qw 1 = wkm := (ho_wkm qw f_qw).trans f_m_walkedMany
  have nu_qp := hn_qp qp f_qp; rw [f_x_personCount] at nu_qp
  have nu_qc := hn_qc qc f_qc; rw [f_x_claimCount] at nu_qc
  obtain ⟨b_of, f_b_of, g_b_of⟩ := hx_rf hT g_qo_ln tt_1 (k := 1) (u := 13) rfl
  obtain ⟨B_of, n_b_of⟩ : ∃ g : Nat → Int32, hl1.2.1 b_of = g := ⟨_, rfl⟩
  obtain ⟨m_of, f_m_of, g_m_of⟩ := hx_rf hT gm tt_10 (k := 30) (u := 66) rfl
  obtain ⟨F_of, n_m_of⟩ : ∃ g : Nat → Int32, hl1.2.1 m_of = g := ⟨_, rfl⟩
  have eb_of := hk_of qo_ln b_of m_of f_qo_ln f_b_of f_m_of; rw [n_b_of, n_m_of, f_o_ln] at eb_of
  obtain ⟨b_wf, f_b_wf, g_b_wf⟩ := hx_rf hT g_qo_ln tt_1 (k := 2) (u := 14) rfl
  obtain ⟨B_wf, n_b_wf⟩ : ∃ g : Nat → Int32, hl1.2.1 b_wf = g := ⟨_, rfl⟩
  obtain ⟨m_wf, f_m_wf, g_m_wf⟩ := hx_rf hT gm tt_10 (k := 31) (u := 67) rfl
  obtain ⟨F_wf, n_m_wf⟩ : ∃ g : Nat → Int32, hl1.2.1 m_wf = g := ⟨_, rfl⟩
  have eb_wf := hk_wf qo_ln b_wf m_wf f_qo_ln f_b_wf f_m_wf; rw [n_b_wf, n_m_wf, f_o_ln] at eb_wf
  obtain ⟨b_df, f_b_df, g_b_df⟩ := hx_rf hT g_qo_ln tt_1 (k := 3) (u := 15) rfl
  obtain ⟨B_df, n_b_df⟩ : ∃ g : Nat → Int32, hl1.2.1 b_df = g := ⟨_, rfl⟩
  obtain ⟨m_df, f_m_df, g_m_df⟩ := hx_rf hT gm tt_10 (k := 32) (u := 68) rfl
  obtain ⟨F_df, n_m_df⟩ : ∃ g : Nat → Int32, hl1.2.1 m_df = g := ⟨_, rfl⟩
  have eb_df := hk_df qo_ln b_df m_df f_qo_ln f_b_df f_m_df; rw [n_b_df, n_m_df, f_o_ln] at eb_df
  obtain ⟨b_kf, f_b_kf, g_b_kf⟩ := hx_rf hT g_qo_ln tt_1 (k := 4) (u := 16) rfl
  obtain ⟨B_kf, n_b_kf⟩ : ∃ g : Nat → Int32, hl1.2.1 b_kf = g := ⟨_, rfl⟩
  obtain ⟨m_kf, f_m_kf, g_m_kf⟩ := hx_rf hT gm tt_10 (k := 33) (u := 69) rfl
  obtain ⟨F_kf, n_m_kf⟩ : ∃ g : Nat → Int32, hl1.2.1 m_kf = g := ⟨_, rfl⟩
  have eb_kf := hk_kf qo_ln b_kf m_kf f_qo_ln f_b_kf f_m_kf; rw [n_b_kf, n_m_kf, f_o_ln] at eb_kf
  obtain ⟨b_sf, f_b_sf, g_b_sf⟩ := hx_rf hT g_qo_ln tt_1 (k := 5) (u := 17) rfl
  obtain ⟨B_sf, n_b_sf⟩ : ∃ g : Nat → Int32, hl1.2.1 b_sf = g := ⟨_, rfl⟩
  obtain ⟨m_sf, f_m_sf, g_m_sf⟩ := hx_rf hT gm tt_10 (k := 34) (u := 70) rfl
  obtain ⟨F_sf, n_m_sf⟩ : ∃ g : Nat → Int32, hl1.2.1 m_sf = g := ⟨_, rfl⟩
  have eb_sf := hk_sf qo_ln b_sf m_sf f_qo_ln f_b_sf f_m_sf; rw [n_b_sf, n_m_sf, f_o_ln] at eb_sf
  obtain ⟨b_bf, f_b_bf, g_b_bf⟩ := hx_rf hT g_qo_ln tt_1 (k := 6) (u := 18) rfl
  obtain ⟨bfL, n_b_bf⟩ : ∃ g : Nat → Int32, hl1.2.1 b_bf = g := ⟨_, rfl⟩
  obtain ⟨hBD, hDY⟩ := hkBD qo_ln b_df b_bf f_qo_ln f_b_df f_b_bf; rw [n_b_df, n_b_bf, f_o_ln] at hBD; rw [n_b_df, f_o_ln] at hDY
  have hBDm := hy_BD_c eb_df hBD
  have hDYm : hy_DY F_df ln.toInt.toNat := fun x hx => by rw [← eb_df x hx]; exact hDY x hx
  have sb_list := hLQ qw ql qc f_qw f_ql f_qc
  obtain ⟨m_lst, f_m_lst, g_m_lst⟩ := hx_rf hT gm tt_10 (k := 91) (u := 112) rfl
  obtain ⟨F_lst, n_lst⟩ : ∃ g : Nat → Int32, hl1.2.1 m_lst = g := ⟨_, rfl⟩
  obtain ⟨c_lst, cl_lst⟩ : ∃ g : Nat → Int32, hx_col 8 hl1 ql 0 = g := ⟨_, rfl⟩
  have eq_lst := hLE qw ql m_lst f_qw f_ql f_m_lst; rw [cl_lst, n_lst] at eq_lst
  obtain ⟨c_dead, cl_dead⟩ : ∃ g : Nat → Int32, hx_col 40 hl1 qp 7 = g := ⟨_, rfl⟩
  obtain ⟨m_dead, f_m_dead, g_m_dead⟩ := hx_rf hT gm tt_10 (k := 27) (u := 64) rfl
  obtain ⟨F_dead, n_dead⟩ : ∃ g : Nat → Int32, hl1.2.1 m_dead = g := ⟨_, rfl⟩
  have eq_dead := hc_dead qp m_dead f_qp f_m_dead; rw [cl_dead, n_dead] at eq_dead
  have z_dead : np.toInt.toNat < 40 → c_dead np.toInt.toNat = 0 := fun hj => hx_num_z nu_qp cl_dead hj (by omega)
  obtain ⟨c_isj, cl_isj⟩ : ∃ g : Nat → Int32, hx_col 40 hl1 qp 8 = g := ⟨_, rfl⟩
  obtain ⟨m_isj, f_m_isj, g_m_isj⟩ := hx_rf hT gm tt_10 (k := 28) (u := 65) rfl
  obtain ⟨F_isj, n_isj⟩ : ∃ g : Nat → Int32, hl1.2.1 m_isj = g := ⟨_, rfl⟩
  have eq_isj := hc_isj qp m_isj f_qp f_m_isj; rw [cl_isj, n_isj] at eq_isj
  have z_isj : np.toInt.toNat < 40 → c_isj np.toInt.toNat = 0 := fun hj => hx_num_z nu_qp cl_isj hj (by omega)
  obtain ⟨c_dox, cl_dox⟩ : ∃ g : Nat → Int32, hx_col 40 hl1 qp 5 = g := ⟨_, rfl⟩
  obtain ⟨m_dox, f_m_dox, g_m_dox⟩ := hx_rf hT gm tt_10 (k := 24) (u := 61) rfl
  obtain ⟨F_dox, n_dox⟩ : ∃ g : Nat → Int32, hl1.2.1 m_dox = g := ⟨_, rfl⟩
  have eq_dox := hc_dox qp m_dox f_qp f_m_dox; rw [cl_dox, n_dox] at eq_dox
  have z_dox : np.toInt.toNat < 40 → c_dox np.toInt.toNat = 0 := fun hj => hx_num_z nu_qp cl_dox hj (by omega)
  obtain ⟨c_doy, cl_doy⟩ : ∃ g : Nat → Int32, hx_col 40 hl1 qp 6 = g := ⟨_, rfl⟩
  obtain ⟨m_doy, f_m_doy, g_m_doy⟩ := hx_rf hT gm tt_10 (k := 25) (u := 62) rfl
  obtain ⟨F_doy, n_doy⟩ : ∃ g : Nat → Int32, hl1.2.1 m_doy = g := ⟨_, rfl⟩
  have eq_doy := hc_doy qp m_doy f_qp f_m_doy; rw [cl_doy, n_doy] at eq_doy
  have z_doy : np.toInt.toNat < 40 → c_doy np.toInt.toNat = 0 := fun hj => hx_num_z nu_qp cl_doy hj (by omega)
  obtain ⟨c_fou, cl_fou⟩ : ∃ g : Nat → Int32, hx_col 100 hl1 qc 10 = g := ⟨_, rfl⟩
  have eq_fou := hc_fou qc m_fou f_qc f_m_fou; rw [cl_fou, n_m_fou] at eq_fou
  have z_fou : c0.toInt.toNat < 100 → c_fou c0.toInt.toNat = 0 := fun hj => hx_num_z nu_qc cl_fou hj (by omega)
  obtain ⟨c_tri, cl_tri⟩ : ∃ g : Nat → Int32, hx_col 100 hl1 qc 9 = g := ⟨_, rfl⟩
  have eq_tri := hc_tri qc mt f_qc f_mt; rw [cl_tri, n_mt] at eq_tri
  have z_tri : c0.toInt.toNat < 100 → c_tri c0.toInt.toNat = 0 := fun hj => hx_num_z nu_qc cl_tri hj (by omega)
  obtain ⟨qlt, f_qlt, g_qlt⟩ := hx_rf hT g_qw tt_8 (k := 2) (u := 39) rfl
  obtain ⟨qlf, f_qlf, g_qlf⟩ := hx_rf hT g_qw tt_8 (k := 4) (u := 41) rfl
  obtain ⟨m_wkd, f_m_wkd, g_m_wkd⟩ := hx_rf hT gm tt_10 (k := 93) (u := 113) rfl
  obtain ⟨F_qlt, n_qlt⟩ : ∃ g : Nat → Int32, hl1.2.1 qlt = g := ⟨_, rfl⟩
  obtain ⟨F_m_wkd, n_m_wkd⟩ : ∃ g : Nat → Int32, hl1.2.1 m_wkd = g := ⟨_, rfl⟩
  have eb_wkd := hkWD qw qlt m_wkd f_qw f_qlt f_m_wkd; rw [n_qlt, n_m_wkd, f_o_wkm] at eb_wkd
  obtain ⟨m_aga, f_m_aga, g_m_aga⟩ := hx_rf hT gm tt_10 (k := 38) (u := 73) rfl
  obtain ⟨F_aga, n_aga⟩ : ∃ g : Nat → Int32, hl1.2.1 m_aga = g := ⟨_, rfl⟩
  have hDF := hkDF qc qp m_aga f_qc f_qp f_m_aga; rw [n_aga, f_x_claimCount] at hDF
  have hwd := jw mw f_mw; rw [n_mw] at hwd
  have hWK := jr mr f_mr; rw [n_mr, f_m_acts] at hWK
  have hRP := jp mp mn f_mp f_mn; rw [n_mp, n_mn, f_m_acts] at hRP
  have hPL := jl ml f_ml; rw [n_ml, f_m_claims, f_m_acts] at hPL
  have hHC := jh mh f_mh; rw [n_mh, f_m_heardMany, f_m_claims] at hHC
  have hTR := jt mt f_mt; rw [n_mt] at hTR
  have hHF := jf mh m_fou f_mh f_m_fou; rw [n_mh, n_m_fou, f_m_claims] at hHF
  refine lv_aload_n hx hb dL_law_610 rfl (lv_at hl 2 rfl) ?_
  refine lv_aload_n hx hb dL_law_611 rfl (lv_at hl 3 rfl) ?_
  refine lv_iload_n hx hb dL_law_612 rfl (lv_at hl 0 rfl) ?_
  refine lv_iconst (v := 1) hx hb dL_law_613 (by decide) ?_
  refine lv_iadd hx hb dL_law_614 ?_
  have rg_277 := i32_r i
  refine lv_topi (fun x_278 ex_278 => ?_)
  have zx_278 : x_278.toInt = i.toInt + 1 := by rw [ex_278]; exact i32_add rfl (by decide) (by omega) (by omega)
  refine va_sld hx hb hX hbl hbA hW.2.2.2.1 (vp_in_iff.mpr ⟨by omega, by omega⟩) dL_law_615 ?_
  refine lv_topi (fun x_279 ex_279 => ?_)
  refine lv_aload_n hx hb dL_law_616 rfl (lv_at hl 3 rfl) ?_
  refine lv_iload_n hx hb dL_law_617 rfl (lv_at hl 0 rfl) ?_
  refine lv_iconst (v := 2) hx hb dL_law_618 (by decide) ?_
  refine lv_iadd hx hb dL_law_619 ?_
  refine lv_topi (fun x_280 ex_280 => ?_)
  have zx_280 : x_280.toInt = i.toInt + 2 := by rw [ex_280]; exact i32_add rfl (by decide) (by omega) (by omega)
  refine va_sld hx hb hX hbl hbA hW.2.2.2.1 (vp_in_iff.mpr ⟨by omega, by omega⟩) dL_law_620 ?_
  refine lv_topi (fun x_281 ex_281 => ?_)
  refine lv_aload_n hx hb dL_law_621 rfl (lv_at hl 3 rfl) ?_
  refine lv_iload_n hx hb dL_law_622 rfl (lv_at hl 0 rfl) ?_
  refine lv_iconst (v := 3) hx hb dL_law_623 (by decide) ?_
  refine lv_iadd hx hb dL_law_624 ?_
  refine lv_topi (fun x_282 ex_282 => ?_)
  have zx_282 : x_282.toInt = i.toInt + 3 := by rw [ex_282]; exact i32_add rfl (by decide) (by omega) (by omega)
  refine va_sld hx hb hX hbl hbA hW.2.2.2.1 (vp_in_iff.mpr ⟨by omega, by omega⟩) dL_law_625 ?_
  refine lv_topi (fun x_283 ex_283 => ?_)
  refine lv_aload_n hx hb dL_law_626 rfl (lv_at hl 3 rfl) ?_
  refine lv_iload_n hx hb dL_law_627 rfl (lv_at hl 0 rfl) ?_
  refine lv_iconst (v := 4) hx hb dL_law_628 (by decide) ?_
  refine lv_iadd hx hb dL_law_629 ?_
  refine lv_topi (fun x_284 ex_284 => ?_)
  have zx_284 : x_284.toInt = i.toInt + 4 := by rw [ex_284]; exact i32_add rfl (by decide) (by omega) (by omega)
  refine va_sld hx hb hX hbl hbA hW.2.2.2.1 (vp_in_iff.mpr ⟨by omega, by omega⟩) dL_law_630 ?_
  refine lv_topi (fun x_285 ex_285 => ?_)
  have hTo := hT
  obtain ⟨q_286, fq_286, gq_286⟩ := hx_rf hT g_qo_ln tt_1 (k := 7) (u := 19) rfl
  obtain ⟨fa_287, nfa_287⟩ : ∃ g : Nat → Int32, hl1.2.1 q_286 = g := ⟨_, rfl⟩
  refine hx_goi (hx_runV (As := [.int x_279, .int x_281, .int x_283, .int x_285]) (rest := []) ⟨hx, hb, hml, hown, hts⟩ hW gx tt_9 (T := TX9) (N := 20) rfl (t_X9_book_2 l dC dI dA L1 hl1 H.size ax x_279 x_281 x_283 x_285 hT gx qp g_qp f_qp qo_ln g_qo_ln f_qo_ln b_of g_b_of f_b_of b_wf g_b_wf f_b_wf b_df g_b_df f_b_df b_kf g_b_kf f_b_kf b_sf g_b_sf f_b_sf b_bf g_b_bf f_b_bf q_286 gq_286 fq_286 B_of n_b_of B_wf n_b_wf B_df n_b_df B_kf n_b_kf B_sf n_b_sf bfL n_b_bf fa_287 nfa_287 ln f_o_ln np f_x_personCount hBD hDY pf_qp) (cwV 4 hts (hx_gV kw_683 kw_680 kw_681 kw_682 kw_94) rfl rfl rfl (by decide +kernel) ⟨Nat.le_of_ble_eq_true rfl, Nat.le_of_ble_eq_true rfl⟩) rfl hl.1 rfl (Nat.le_of_ble_eq_true rfl) dL_law_631 ⟨(show CC + 0 ≤ 600000 from by omega), (show SS + 0 ≤ 7302250 from by omega)⟩) hW (fun r_290 L_288 h_289 H locs p_291 hW => ?_)
  obtain ⟨hr_292, hT, hs⟩ := p_291
  replace hT : hx_T T_tb L_288 h_289 := hT
  replace hs : hx_S T_tb [(19, 0)] L1 hl1 L_288 h_289 := hs
  replace f_qa := (hs.o gx trivial rfl).2.trans f_qa
  replace f_qp := (hs.o gx trivial rfl).2.trans f_qp
  replace f_qc := (hs.o gx trivial rfl).2.trans f_qc
  replace f_qh := (hs.o gx trivial rfl).2.trans f_qh
  replace f_qw := (hs.o gx trivial rfl).2.trans f_qw
  replace f_ql := (hs.o g_qw trivial rfl).2.trans f_ql
  replace f_m_now := (hs.o gm trivial rfl).1.trans f_m_now
  replace f_m_persons := (hs.o gm trivial rfl).1.trans f_m_persons
  replace f_m_claims := (hs.o gm trivial rfl).1.trans f_m_claims
  replace f_m_lines := (hs.o gm trivial rfl).1.trans f_m_lines
  replace f_m_listed := (hs.o gm trivial rfl).1.trans f_m_listed
  replace f_m_walkedMany := (hs.o gm trivial rfl).1.trans f_m_walkedMany
  replace f_m_acts := (hs.o gm trivial rfl).1.trans f_m_acts
  replace f_m_heardMany := (hs.o gm trivial rfl).1.trans f_m_heardMany
  replace f_x_now := (hs.o gx trivial rfl).1.trans f_x_now
  replace f_x_personCount := (hs.o gx trivial rfl).1.trans f_x_personCount
  replace f_x_claimCount := (hs.o gx trivial rfl).1.trans f_x_claimCount
  replace f_mw := (hs.o gm trivial rfl).2.trans f_mw
  replace f_mr := (hs.o gm trivial rfl).2.trans f_mr
  replace f_mp := (hs.o gm trivial rfl).2.trans f_mp
  replace f_mn := (hs.o gm trivial rfl).2.trans f_mn
  replace f_ml := (hs.o gm trivial rfl).2.trans f_ml
  replace f_mh := (hs.o gm trivial rfl).2.trans f_mh
  replace f_mt := (hs.o gm trivial rfl).2.trans f_mt
  replace f_m_fou := (hs.o gm trivial rfl).2.trans f_m_fou
  replace f_qo_ln := (hs.o gx trivial rfl).2.trans f_qo_ln
  replace f_o_ln := (hs.o g_qo_ln trivial rfl).1.trans f_o_ln
  replace f_o_lsd := (hs.o g_qw trivial rfl).1.trans f_o_lsd
  replace f_o_wkm := (hs.o g_qw trivial rfl).1.trans f_o_wkm
  replace f_b_of := (hs.o g_qo_ln trivial rfl).2.trans f_b_of
  replace f_m_of := (hs.o gm trivial rfl).2.trans f_m_of
  replace f_b_wf := (hs.o g_qo_ln trivial rfl).2.trans f_b_wf
  replace f_m_wf := (hs.o gm trivial rfl).2.trans f_m_wf
  replace f_b_df := (hs.o g_qo_ln trivial rfl).2.trans f_b_df
  replace f_m_df := (hs.o gm trivial rfl).2.trans f_m_df
  replace f_b_kf := (hs.o g_qo_ln trivial rfl).2.trans f_b_kf
  replace f_m_kf := (hs.o gm trivial rfl).2.trans f_m_kf
  replace f_b_sf := (hs.o g_qo_ln trivial rfl).2.trans f_b_sf
  replace f_m_sf := (hs.o gm trivial rfl).2.trans f_m_sf
  replace f_b_bf := (hs.o g_qo_ln trivial rfl).2.trans f_b_bf
  replace f_m_lst := (hs.o gm trivial rfl).2.trans f_m_lst
  replace f_m_dead := (hs.o gm trivial rfl).2.trans f_m_dead
  replace f_m_isj := (hs.o gm trivial rfl).2.trans f_m_isj
  replace f_m_dox := (hs.o gm trivial rfl).2.trans f_m_dox
  replace f_m_doy := (hs.o gm trivial rfl).2.trans f_m_doy
  replace f_qlt := (hs.o g_qw trivial rfl).2.trans f_qlt
  replace f_qlf := (hs.o g_qw trivial rfl).2.trans f_qlf
  replace f_m_wkd := (hs.o gm trivial rfl).2.trans f_m_wkd
  replace f_m_aga := (hs.o gm trivial rfl).2.trans f_m_aga
  replace fq_286 := (hs.o g_qo_ln trivial rfl).2.trans fq_286
  replace pf_qa : ∀ j : Nat, (j : Int) < (h_289.2.1 ax 6).toInt → h_289.2.2 qa j ≠ none := by
    intro j hj; rw [(hs.o gx trivial rfl).1] at hj; rw [(hs.a g_qa rfl j).2]; exact pf_qa j hj
  replace pf_qp : ∀ j : Nat, (j : Int) < (h_289.2.1 ax 8).toInt → h_289.2.2 qp j ≠ none := by
    intro j hj; rw [(hs.o gx trivial rfl).1] at hj; rw [(hs.a g_qp rfl j).2]; exact pf_qp j hj
  replace pf_qc : ∀ j : Nat, (j : Int) < (h_289.2.1 ax 11).toInt → h_289.2.2 qc j ≠ none := by
    intro j hj; rw [(hs.o gx trivial rfl).1] at hj; rw [(hs.a g_qc rfl j).2]; exact pf_qc j hj
  replace pf_qh : ∀ j : Nat, (j : Int) < (h_289.2.1 ax 13).toInt → h_289.2.2 qh j ≠ none := by
    intro j hj; rw [(hs.o gx trivial rfl).1] at hj; rw [(hs.a g_qh rfl j).2]; exact pf_qh j hj
  replace pf_ql : ∀ j : Nat, (j : Int) < (h_289.2.1 qw 0).toInt → h_289.2.2 ql j ≠ none := by
    intro j hj; rw [(hs.o g_qw trivial rfl).1] at hj; rw [(hs.a g_ql rfl j).2]; exact pf_ql j hj
  replace cl_lst : hx_col 8 h_289 ql 0 = c_lst := (hx_col_S hs hTo g_ql tt_40 tt_2 rfl rfl).trans cl_lst
  replace cl_dead : hx_col 40 h_289 qp 7 = c_dead := (hx_col_S hs hTo g_qp tt_44 tt_4 rfl rfl).trans cl_dead
  replace cl_isj : hx_col 40 h_289 qp 8 = c_isj := (hx_col_S hs hTo g_qp tt_44 tt_4 rfl rfl).trans cl_isj
  replace cl_dox : hx_col 40 h_289 qp 5 = c_dox := (hx_col_S hs hTo g_qp tt_44 tt_4 rfl rfl).trans cl_dox
  replace cl_doy : hx_col 40 h_289 qp 6 = c_doy := (hx_col_S hs hTo g_qp tt_44 tt_4 rfl rfl).trans cl_doy
  replace cl_fou : hx_col 100 h_289 qc 10 = c_fou := (hx_col_S hs hTo g_qc tt_45 tt_2 rfl rfl).trans cl_fou
  replace cl_tri : hx_col 100 h_289 qc 9 = c_tri := (hx_col_S hs hTo g_qc tt_45 tt_2 rfl rfl).trans cl_tri
  replace nu_qp : hx_num 40 h_289 qp 0 (np.toInt) := hx_num_S hs hTo g_qp tt_44 tt_4 rfl rfl nu_qp
  replace nu_qc : hx_num 100 h_289 qc 0 (c0.toInt) := hx_num_S hs hTo g_qc tt_45 tt_2 rfl rfl nu_qc
  replace sb_list : hx_LQ 8 100 h_289 ql qc := hx_LQ_S hs g_ql g_qc rfl rfl sb_list
  replace hDF : hw_DF h_289 qc qp 2 F_aga c0.toInt := hw_DF_S hs hTo g_qc g_qp tt_45 tt_2 rfl rfl rfl hDF
  replace n_mw : h_289.2.1 mw = F_mw := (funext fun j => (hs.a g_mw rfl j).1).trans n_mw
  replace n_mr : h_289.2.1 mr = F_mr := (funext fun j => (hs.a g_mr rfl j).1).trans n_mr
  replace n_mp : h_289.2.1 mp = F_mp := (funext fun j => (hs.a g_mp rfl j).1).trans n_mp
  replace n_mn : h_289.2.1 mn = F_mn := (funext fun j => (hs.a g_mn rfl j).1).trans n_mn
  replace n_ml : h_289.2.1 ml = F_ml := (funext fun j => (hs.a g_ml rfl j).1).trans n_ml
  replace n_mh : h_289.2.1 mh = F_mh := (funext fun j => (hs.a g_mh rfl j).1).trans n_mh
  replace n_mt : h_289.2.1 mt = F_mt := (funext fun j => (hs.a g_mt rfl j).1).trans n_mt
  replace n_m_fou : h_289.2.1 m_fou = F_m_fou := (funext fun j => (hs.a g_m_fou rfl j).1).trans n_m_fou
  replace n_b_of : h_289.2.1 b_of = B_of := (funext fun j => (hs.a g_b_of rfl j).1).trans n_b_of
  replace n_m_of : h_289.2.1 m_of = F_of := (funext fun j => (hs.a g_m_of rfl j).1).trans n_m_of
  replace n_b_wf : h_289.2.1 b_wf = B_wf := (funext fun j => (hs.a g_b_wf rfl j).1).trans n_b_wf
  replace n_m_wf : h_289.2.1 m_wf = F_wf := (funext fun j => (hs.a g_m_wf rfl j).1).trans n_m_wf
  replace n_b_df : h_289.2.1 b_df = B_df := (funext fun j => (hs.a g_b_df rfl j).1).trans n_b_df
  replace n_m_df : h_289.2.1 m_df = F_df := (funext fun j => (hs.a g_m_df rfl j).1).trans n_m_df
  replace n_b_kf : h_289.2.1 b_kf = B_kf := (funext fun j => (hs.a g_b_kf rfl j).1).trans n_b_kf
  replace n_m_kf : h_289.2.1 m_kf = F_kf := (funext fun j => (hs.a g_m_kf rfl j).1).trans n_m_kf
  replace n_b_sf : h_289.2.1 b_sf = B_sf := (funext fun j => (hs.a g_b_sf rfl j).1).trans n_b_sf
  replace n_m_sf : h_289.2.1 m_sf = F_sf := (funext fun j => (hs.a g_m_sf rfl j).1).trans n_m_sf
  replace n_b_bf : h_289.2.1 b_bf = bfL := (funext fun j => (hs.a g_b_bf rfl j).1).trans n_b_bf
  replace n_lst : h_289.2.1 m_lst = F_lst := (funext fun j => (hs.a g_m_lst rfl j).1).trans n_lst
  replace n_dead : h_289.2.1 m_dead = F_dead := (funext fun j => (hs.a g_m_dead rfl j).1).trans n_dead
  replace n_isj : h_289.2.1 m_isj = F_isj := (funext fun j => (hs.a g_m_isj rfl j).1).trans n_isj
  replace n_dox : h_289.2.1 m_dox = F_dox := (funext fun j => (hs.a g_m_dox rfl j).1).trans n_dox
  replace n_doy : h_289.2.1 m_doy = F_doy := (funext fun j => (hs.a g_m_doy rfl j).1).trans n_doy
  replace n_qlt : h_289.2.1 qlt = F_qlt := (funext fun j => (hs.a g_qlt rfl j).1).trans n_qlt
  replace n_m_wkd : h_289.2.1 m_wkd = F_m_wkd := (funext fun j => (hs.a g_m_wkd rfl j).1).trans n_m_wkd
  replace n_aga : h_289.2.1 m_aga = F_aga := (funext fun j => (hs.a g_m_aga rfl j).1).trans n_aga
  replace gx := gx.S hs
  replace gm := gm.S hs
  replace g_qa := g_qa.S hs
  replace g_qp := g_qp.S hs
  replace g_qc := g_qc.S hs
  replace g_qh := g_qh.S hs
  replace g_qw := g_qw.S hs
  replace g_ql := g_ql.S hs
  replace g_mw := g_mw.S hs
  replace g_mr := g_mr.S hs
  replace g_mp := g_mp.S hs
  replace g_mn := g_mn.S hs
  replace g_ml := g_ml.S hs
  replace g_mh := g_mh.S hs
  replace g_mt := g_mt.S hs
  replace g_m_fou := g_m_fou.S hs
  replace g_qo_ln := g_qo_ln.S hs
  replace g_b_of := g_b_of.S hs
  replace g_m_of := g_m_of.S hs
  replace g_b_wf := g_b_wf.S hs
  replace g_m_wf := g_m_wf.S hs
  replace g_b_df := g_b_df.S hs
  replace g_m_df := g_m_df.S hs
  replace g_b_kf := g_b_kf.S hs
  replace g_m_kf := g_m_kf.S hs
  replace g_b_sf := g_b_sf.S hs
  replace g_m_sf := g_m_sf.S hs
  replace g_b_bf := g_b_bf.S hs
  replace g_m_lst := g_m_lst.S hs
  replace g_m_dead := g_m_dead.S hs
  replace g_m_isj := g_m_isj.S hs
  replace g_m_dox := g_m_dox.S hs
  replace g_m_doy := g_m_doy.S hs
  replace g_qlt := g_qlt.S hs
  replace g_qlf := g_qlf.S hs
  replace g_m_wkd := g_m_wkd.S hs
  replace g_m_aga := g_m_aga.S hs
  replace gq_286 := gq_286.S hs
  refine lv_pop hx hb dL_law_634 rfl ?_
  refine lv_aload_n hx hb dL_law_635 rfl (lv_at hl 1 rfl) ?_
  refine lv_aload_n hx hb dL_law_636 rfl (lv_at hl 3 rfl) ?_
  refine lv_iload_n hx hb dL_law_637 rfl (lv_at hl 0 rfl) ?_
  refine lv_iconst (v := 1) hx hb dL_law_638 (by decide) ?_
  refine lv_iadd hx hb dL_law_639 ?_
  refine lv_topi (fun x_293 ex_293 => ?_)
  have zx_293 : x_293.toInt = i.toInt + 1 := by rw [ex_293]; exact i32_add rfl (by decide) (by omega) (by omega)
  obtain rfl : x_278 = x_293 := ex_278.trans ex_293.symm
  refine va_sld hx hb hX hbl hbA hW.2.2.2.1 (vp_in_iff.mpr ⟨by omega, by omega⟩) dL_law_640 ?_
  refine lv_topi (fun x_294 ex_294 => ?_)
  obtain rfl : x_279 = x_294 := ex_279.trans ex_294.symm
  refine lv_aload_n hx hb dL_law_641 rfl (lv_at hl 3 rfl) ?_
  refine lv_iload_n hx hb dL_law_642 rfl (lv_at hl 0 rfl) ?_
  refine lv_iconst (v := 2) hx hb dL_law_643 (by decide) ?_
  refine lv_iadd hx hb dL_law_644 ?_
  refine lv_topi (fun x_295 ex_295 => ?_)
  have zx_295 : x_295.toInt = i.toInt + 2 := by rw [ex_295]; exact i32_add rfl (by decide) (by omega) (by omega)
  obtain rfl : x_280 = x_295 := ex_280.trans ex_295.symm
  refine va_sld hx hb hX hbl hbA hW.2.2.2.1 (vp_in_iff.mpr ⟨by omega, by omega⟩) dL_law_645 ?_
  refine lv_topi (fun x_296 ex_296 => ?_)
  obtain rfl : x_281 = x_296 := ex_281.trans ex_296.symm
  refine lv_aload_n hx hb dL_law_646 rfl (lv_at hl 3 rfl) ?_
  refine lv_iload_n hx hb dL_law_647 rfl (lv_at hl 0 rfl) ?_
  refine lv_iconst (v := 3) hx hb dL_law_648 (by decide) ?_
  refine lv_iadd hx hb dL_law_649 ?_
  refine lv_topi (fun x_297 ex_297 => ?_)
  have zx_297 : x_297.toInt = i.toInt + 3 := by rw [ex_297]; exact i32_add rfl (by decide) (by omega) (by omega)
  obtain rfl : x_282 = x_297 := ex_282.trans ex_297.symm
  refine va_sld hx hb hX hbl hbA hW.2.2.2.1 (vp_in_iff.mpr ⟨by omega, by omega⟩) dL_law_650 ?_
  refine lv_topi (fun x_298 ex_298 => ?_)
  obtain rfl : x_283 = x_298 := ex_283.trans ex_298.symm
  refine lv_aload_n hx hb dL_law_651 rfl (lv_at hl 3 rfl) ?_
  refine lv_iload_n hx hb dL_law_652 rfl (lv_at hl 0 rfl) ?_
  refine lv_iconst (v := 4) hx hb dL_law_653 (by decide) ?_
  refine lv_iadd hx hb dL_law_654 ?_
  refine lv_topi (fun x_299 ex_299 => ?_)
  have zx_299 : x_299.toInt = i.toInt + 4 := by rw [ex_299]; exact i32_add rfl (by decide) (by omega) (by omega)
  obtain rfl : x_284 = x_299 := ex_284.trans ex_299.symm
  refine va_sld hx hb hX hbl hbA hW.2.2.2.1 (vp_in_iff.mpr ⟨by omega, by omega⟩) dL_law_655 ?_
  refine lv_topi (fun x_300 ex_300 => ?_)
  obtain rfl : x_285 = x_300 := ex_285.trans ex_300.symm
  have hTo := hT
  obtain ⟨q_301, fq_301, gq_301⟩ := hx_rf hT gm tt_10 (k := 35) (u := 71) rfl
  obtain ⟨fa_302, nfa_302⟩ : ∃ g : Nat → Int32, h_289.2.1 q_301 = g := ⟨_, rfl⟩
  refine hx_goi (hx_runV (As := [.int x_279, .int x_281, .int x_283, .int x_285]) (rest := []) ⟨hx, hb, hml, hown, hts⟩ hW gm tt_10 (T := TX10) (N := 98) rfl (t_X10_book_2 l dC dI dA L_288 h_289 H.size am x_279 x_281 x_283 x_285 hT gm m_of g_m_of f_m_of m_wf g_m_wf f_m_wf m_df g_m_df f_m_df m_kf g_m_kf f_m_kf m_sf g_m_sf f_m_sf q_301 gq_301 fq_301 F_of n_m_of F_wf n_m_wf F_df n_m_df F_kf n_m_kf F_sf n_m_sf fa_302 nfa_302 ln f_m_lines np f_m_persons bfL hBDm hDYm) (cwV 4 hts (hx_gV kw_1568 kw_1565 kw_1566 kw_1567 kw_103) rfl rfl rfl (by decide +kernel) ⟨Nat.le_of_ble_eq_true rfl, Nat.le_of_ble_eq_true rfl⟩) rfl hl.1 rfl (Nat.le_of_ble_eq_true rfl) dL_law_656 ⟨(show CC + 0 + 0 ≤ 600000 from by omega), (show SS + 0 + 0 ≤ 7302250 from by omega)⟩) hW (fun r_305 L_303 h_304 H locs p_306 hW => ?_)
  obtain ⟨hr_307, hT, hs⟩ := p_306
  replace hT : hx_T T_tb L_303 h_304 := hT
  replace hs : hx_S T_tb [(71, 0)] L_288 h_289 L_303 h_304 := hs
  replace f_qa := (hs.o gx trivial rfl).2.trans f_qa
  replace f_qp := (hs.o gx trivial rfl).2.trans f_qp
  replace f_qc := (hs.o gx trivial rfl).2.trans f_qc
  replace f_qh := (hs.o gx trivial rfl).2.trans f_qh
  replace f_qw := (hs.o gx trivial rfl).2.trans f_qw
  replace f_ql := (hs.o g_qw trivial rfl).2.trans f_ql
  replace f_m_now := (hs.o gm trivial rfl).1.trans f_m_now
  replace f_m_persons := (hs.o gm trivial rfl).1.trans f_m_persons
  replace f_m_claims := (hs.o gm trivial rfl).1.trans f_m_claims
  replace f_m_lines := (hs.o gm trivial rfl).1.trans f_m_lines
  replace f_m_listed := (hs.o gm trivial rfl).1.trans f_m_listed
  replace f_m_walkedMany := (hs.o gm trivial rfl).1.trans f_m_walkedMany
  replace f_m_acts := (hs.o gm trivial rfl).1.trans f_m_acts
  replace f_m_heardMany := (hs.o gm trivial rfl).1.trans f_m_heardMany
  replace f_x_now := (hs.o gx trivial rfl).1.trans f_x_now
  replace f_x_personCount := (hs.o gx trivial rfl).1.trans f_x_personCount
  replace f_x_claimCount := (hs.o gx trivial rfl).1.trans f_x_claimCount
  replace f_mw := (hs.o gm trivial rfl).2.trans f_mw
  replace f_mr := (hs.o gm trivial rfl).2.trans f_mr
  replace f_mp := (hs.o gm trivial rfl).2.trans f_mp
  replace f_mn := (hs.o gm trivial rfl).2.trans f_mn
  replace f_ml := (hs.o gm trivial rfl).2.trans f_ml
  replace f_mh := (hs.o gm trivial rfl).2.trans f_mh
  replace f_mt := (hs.o gm trivial rfl).2.trans f_mt
  replace f_m_fou := (hs.o gm trivial rfl).2.trans f_m_fou
  replace f_qo_ln := (hs.o gx trivial rfl).2.trans f_qo_ln
  replace f_o_ln := (hs.o g_qo_ln trivial rfl).1.trans f_o_ln
  replace f_o_lsd := (hs.o g_qw trivial rfl).1.trans f_o_lsd
  replace f_o_wkm := (hs.o g_qw trivial rfl).1.trans f_o_wkm
  replace f_b_of := (hs.o g_qo_ln trivial rfl).2.trans f_b_of
  replace f_m_of := (hs.o gm trivial rfl).2.trans f_m_of
  replace f_b_wf := (hs.o g_qo_ln trivial rfl).2.trans f_b_wf
  replace f_m_wf := (hs.o gm trivial rfl).2.trans f_m_wf
  replace f_b_df := (hs.o g_qo_ln trivial rfl).2.trans f_b_df
  replace f_m_df := (hs.o gm trivial rfl).2.trans f_m_df
  replace f_b_kf := (hs.o g_qo_ln trivial rfl).2.trans f_b_kf
  replace f_m_kf := (hs.o gm trivial rfl).2.trans f_m_kf
  replace f_b_sf := (hs.o g_qo_ln trivial rfl).2.trans f_b_sf
  replace f_m_sf := (hs.o gm trivial rfl).2.trans f_m_sf
  replace f_b_bf := (hs.o g_qo_ln trivial rfl).2.trans f_b_bf
  replace f_m_lst := (hs.o gm trivial rfl).2.trans f_m_lst
  replace f_m_dead := (hs.o gm trivial rfl).2.trans f_m_dead
  replace f_m_isj := (hs.o gm trivial rfl).2.trans f_m_isj
  replace f_m_dox := (hs.o gm trivial rfl).2.trans f_m_dox
  replace f_m_doy := (hs.o gm trivial rfl).2.trans f_m_doy
  replace f_qlt := (hs.o g_qw trivial rfl).2.trans f_qlt
  replace f_qlf := (hs.o g_qw trivial rfl).2.trans f_qlf
  replace f_m_wkd := (hs.o gm trivial rfl).2.trans f_m_wkd
  replace f_m_aga := (hs.o gm trivial rfl).2.trans f_m_aga
  replace fq_286 := (hs.o g_qo_ln trivial rfl).2.trans fq_286
  replace fq_301 := (hs.o gm trivial rfl).2.trans fq_301
  replace pf_qa : ∀ j : Nat, (j : Int) < (h_304.2.1 ax 6).toInt → h_304.2.2 qa j ≠ none := by
    intro j hj; rw [(hs.o gx trivial rfl).1] at hj; rw [(hs.a g_qa rfl j).2]; exact pf_qa j hj
  replace pf_qp : ∀ j : Nat, (j : Int) < (h_304.2.1 ax 8).toInt → h_304.2.2 qp j ≠ none := by
    intro j hj; rw [(hs.o gx trivial rfl).1] at hj; rw [(hs.a g_qp rfl j).2]; exact pf_qp j hj
  replace pf_qc : ∀ j : Nat, (j : Int) < (h_304.2.1 ax 11).toInt → h_304.2.2 qc j ≠ none := by
    intro j hj; rw [(hs.o gx trivial rfl).1] at hj; rw [(hs.a g_qc rfl j).2]; exact pf_qc j hj
  replace pf_qh : ∀ j : Nat, (j : Int) < (h_304.2.1 ax 13).toInt → h_304.2.2 qh j ≠ none := by
    intro j hj; rw [(hs.o gx trivial rfl).1] at hj; rw [(hs.a g_qh rfl j).2]; exact pf_qh j hj
  replace pf_ql : ∀ j : Nat, (j : Int) < (h_304.2.1 qw 0).toInt → h_304.2.2 ql j ≠ none := by
    intro j hj; rw [(hs.o g_qw trivial rfl).1] at hj; rw [(hs.a g_ql rfl j).2]; exact pf_ql j hj
  replace cl_lst : hx_col 8 h_304 ql 0 = c_lst := (hx_col_S hs hTo g_ql tt_40 tt_2 rfl rfl).trans cl_lst
  replace cl_dead : hx_col 40 h_304 qp 7 = c_dead := (hx_col_S hs hTo g_qp tt_44 tt_4 rfl rfl).trans cl_dead
  replace cl_isj : hx_col 40 h_304 qp 8 = c_isj := (hx_col_S hs hTo g_qp tt_44 tt_4 rfl rfl).trans cl_isj
  replace cl_dox : hx_col 40 h_304 qp 5 = c_dox := (hx_col_S hs hTo g_qp tt_44 tt_4 rfl rfl).trans cl_dox
  replace cl_doy : hx_col 40 h_304 qp 6 = c_doy := (hx_col_S hs hTo g_qp tt_44 tt_4 rfl rfl).trans cl_doy
  replace cl_fou : hx_col 100 h_304 qc 10 = c_fou := (hx_col_S hs hTo g_qc tt_45 tt_2 rfl rfl).trans cl_fou
  replace cl_tri : hx_col 100 h_304 qc 9 = c_tri := (hx_col_S hs hTo g_qc tt_45 tt_2 rfl rfl).trans cl_tri
  replace nu_qp : hx_num 40 h_304 qp 0 (np.toInt) := hx_num_S hs hTo g_qp tt_44 tt_4 rfl rfl nu_qp
  replace nu_qc : hx_num 100 h_304 qc 0 (c0.toInt) := hx_num_S hs hTo g_qc tt_45 tt_2 rfl rfl nu_qc
  replace sb_list : hx_LQ 8 100 h_304 ql qc := hx_LQ_S hs g_ql g_qc rfl rfl sb_list
  replace hDF : hw_DF h_304 qc qp 2 F_aga c0.toInt := hw_DF_S hs hTo g_qc g_qp tt_45 tt_2 rfl rfl rfl hDF
  replace n_mw : h_304.2.1 mw = F_mw := (funext fun j => (hs.a g_mw rfl j).1).trans n_mw
  replace n_mr : h_304.2.1 mr = F_mr := (funext fun j => (hs.a g_mr rfl j).1).trans n_mr
  replace n_mp : h_304.2.1 mp = F_mp := (funext fun j => (hs.a g_mp rfl j).1).trans n_mp
  replace n_mn : h_304.2.1 mn = F_mn := (funext fun j => (hs.a g_mn rfl j).1).trans n_mn
  replace n_ml : h_304.2.1 ml = F_ml := (funext fun j => (hs.a g_ml rfl j).1).trans n_ml
  replace n_mh : h_304.2.1 mh = F_mh := (funext fun j => (hs.a g_mh rfl j).1).trans n_mh
  replace n_mt : h_304.2.1 mt = F_mt := (funext fun j => (hs.a g_mt rfl j).1).trans n_mt
  replace n_m_fou : h_304.2.1 m_fou = F_m_fou := (funext fun j => (hs.a g_m_fou rfl j).1).trans n_m_fou
  replace n_b_of : h_304.2.1 b_of = B_of := (funext fun j => (hs.a g_b_of rfl j).1).trans n_b_of
  replace n_m_of : h_304.2.1 m_of = F_of := (funext fun j => (hs.a g_m_of rfl j).1).trans n_m_of
  replace n_b_wf : h_304.2.1 b_wf = B_wf := (funext fun j => (hs.a g_b_wf rfl j).1).trans n_b_wf
  replace n_m_wf : h_304.2.1 m_wf = F_wf := (funext fun j => (hs.a g_m_wf rfl j).1).trans n_m_wf
  replace n_b_df : h_304.2.1 b_df = B_df := (funext fun j => (hs.a g_b_df rfl j).1).trans n_b_df
  replace n_m_df : h_304.2.1 m_df = F_df := (funext fun j => (hs.a g_m_df rfl j).1).trans n_m_df
  replace n_b_kf : h_304.2.1 b_kf = B_kf := (funext fun j => (hs.a g_b_kf rfl j).1).trans n_b_kf
  replace n_m_kf : h_304.2.1 m_kf = F_kf := (funext fun j => (hs.a g_m_kf rfl j).1).trans n_m_kf
  replace n_b_sf : h_304.2.1 b_sf = B_sf := (funext fun j => (hs.a g_b_sf rfl j).1).trans n_b_sf
  replace n_m_sf : h_304.2.1 m_sf = F_sf := (funext fun j => (hs.a g_m_sf rfl j).1).trans n_m_sf
  replace n_b_bf : h_304.2.1 b_bf = bfL := (funext fun j => (hs.a g_b_bf rfl j).1).trans n_b_bf
  replace n_lst : h_304.2.1 m_lst = F_lst := (funext fun j => (hs.a g_m_lst rfl j).1).trans n_lst
  replace n_dead : h_304.2.1 m_dead = F_dead := (funext fun j => (hs.a g_m_dead rfl j).1).trans n_dead
  replace n_isj : h_304.2.1 m_isj = F_isj := (funext fun j => (hs.a g_m_isj rfl j).1).trans n_isj
  replace n_dox : h_304.2.1 m_dox = F_dox := (funext fun j => (hs.a g_m_dox rfl j).1).trans n_dox
  replace n_doy : h_304.2.1 m_doy = F_doy := (funext fun j => (hs.a g_m_doy rfl j).1).trans n_doy
  replace n_qlt : h_304.2.1 qlt = F_qlt := (funext fun j => (hs.a g_qlt rfl j).1).trans n_qlt
  replace n_m_wkd : h_304.2.1 m_wkd = F_m_wkd := (funext fun j => (hs.a g_m_wkd rfl j).1).trans n_m_wkd
  replace n_aga : h_304.2.1 m_aga = F_aga := (funext fun j => (hs.a g_m_aga rfl j).1).trans n_aga
  replace gx := gx.S hs
  replace gm := gm.S hs
  replace g_qa := g_qa.S hs
  replace g_qp := g_qp.S hs
  replace g_qc := g_qc.S hs
  replace g_qh := g_qh.S hs
  replace g_qw := g_qw.S hs
  replace g_ql := g_ql.S hs
  replace g_mw := g_mw.S hs
  replace g_mr := g_mr.S hs
  replace g_mp := g_mp.S hs
  replace g_mn := g_mn.S hs
  replace g_ml := g_ml.S hs
  replace g_mh := g_mh.S hs
  replace g_mt := g_mt.S hs
  replace g_m_fou := g_m_fou.S hs
  replace g_qo_ln := g_qo_ln.S hs
  replace g_b_of := g_b_of.S hs
  replace g_m_of := g_m_of.S hs
  replace g_b_wf := g_b_wf.S hs
  replace g_m_wf := g_m_wf.S hs
  replace g_b_df := g_b_df.S hs
  replace g_m_df := g_m_df.S hs
  replace g_b_kf := g_b_kf.S hs
  replace g_m_kf := g_m_kf.S hs
  replace g_b_sf := g_b_sf.S hs
  replace g_m_sf := g_m_sf.S hs
  replace g_b_bf := g_b_bf.S hs
  replace g_m_lst := g_m_lst.S hs
  replace g_m_dead := g_m_dead.S hs
  replace g_m_isj := g_m_isj.S hs
  replace g_m_dox := g_m_dox.S hs
  replace g_m_doy := g_m_doy.S hs
  replace g_qlt := g_qlt.S hs
  replace g_qlf := g_qlf.S hs
  replace g_m_wkd := g_m_wkd.S hs
  replace g_m_aga := g_m_aga.S hs
  replace gq_286 := gq_286.S hs
  replace gq_301 := gq_301.S hs
  refine lv_pop hx hb dL_law_659 rfl ?_
  refine lv_goto (tgt := 1379) hx hb dL_law_660 (by decide) ?_
  have heq := hy_bk (congrArg Int32.toInt (hy_bs_c eb_of eb_wf eb_df eb_kf eb_sf _ (Nat.le_refl _))) (congrArg Prod.snd (hy_G_c hBD eb_of eb_wf eb_df eb_kf eb_sf _ (Nat.le_refl _))) (hy_dr_c eb_of eb_df (fun x hx => (hDY x hx).1) _ (Nat.le_refl _)).1 hr_292 hr_307
  refine W.widen (k := CC + 3) (n := SS + 179) (by omega) (by omega) ?_
  exact kk L_303 h_304 H locs ls hW ⟨hT, gx, gm, ⟨f_x_now.trans f_m_now.symm, f_x_personCount.trans f_m_persons.symm, f_x_claimCount.trans f_m_claims.symm, hx_ob f_qo_ln (f_o_ln.trans f_m_lines.symm), hx_ob f_qw (f_o_lsd.trans f_m_listed.symm), hx_ob f_qw (f_o_wkm.trans f_m_walkedMany.symm), hx_ob f_qp (by rw [f_x_personCount]; exact nu_qp), hx_ob f_qc (by rw [f_x_claimCount]; exact nu_qc), (fun b a r hb ha hr => by obtain rfl : qo_ln = b := Option.some.inj (f_qo_ln.symm.trans hb); obtain rfl : b_of = a := Option.some.inj (f_b_of.symm.trans ha); obtain rfl : m_of = r := Option.some.inj (f_m_of.symm.trans hr); rw [n_b_of, n_m_of, f_o_ln]; exact eb_of), (fun b a r hb ha hr => by obtain rfl : qo_ln = b := Option.some.inj (f_qo_ln.symm.trans hb); obtain rfl : b_wf = a := Option.some.inj (f_b_wf.symm.trans ha); obtain rfl : m_wf = r := Option.some.inj (f_m_wf.symm.trans hr); rw [n_b_wf, n_m_wf, f_o_ln]; exact eb_wf), (fun b a r hb ha hr => by obtain rfl : qo_ln = b := Option.some.inj (f_qo_ln.symm.trans hb); obtain rfl : b_df = a := Option.some.inj (f_b_df.symm.trans ha); obtain rfl : m_df = r := Option.some.inj (f_m_df.symm.trans hr); rw [n_b_df, n_m_df, f_o_ln]; exact eb_df), (fun b a r hb ha hr => by obtain rfl : qo_ln = b := Option.some.inj (f_qo_ln.symm.trans hb); obtain rfl : b_kf = a := Option.some.inj (f_b_kf.symm.trans ha); obtain rfl : m_kf = r := Option.some.inj (f_m_kf.symm.trans hr); rw [n_b_kf, n_m_kf, f_o_ln]; exact eb_kf), (fun b a r hb ha hr => by obtain rfl : qo_ln = b := Option.some.inj (f_qo_ln.symm.trans hb); obtain rfl : b_sf = a := Option.some.inj (f_b_sf.symm.trans ha); obtain rfl : m_sf = r := Option.some.inj (f_m_sf.symm.trans hr); rw [n_b_sf, n_m_sf, f_o_ln]; exact eb_sf), (fun b a r hb ha hr => by obtain rfl : qo_ln = b := Option.some.inj (f_qo_ln.symm.trans hb); obtain rfl : b_df = a := Option.some.inj (f_b_df.symm.trans ha); obtain rfl : b_bf = r := Option.some.inj (f_b_bf.symm.trans hr); rw [n_b_df, n_b_bf, f_o_ln]; exact ⟨hBD, hDY⟩), (fun w q c hw hq hc => by obtain rfl : qw = w := Option.some.inj (f_qw.symm.trans hw); obtain rfl : ql = q := Option.some.inj (f_ql.symm.trans hq); obtain rfl : qc = c := Option.some.inj (f_qc.symm.trans hc); exact sb_list), (fun w q r hw hq hr => by obtain rfl : qw = w := Option.some.inj (f_qw.symm.trans hw); obtain rfl : ql = q := Option.some.inj (f_ql.symm.trans hq); obtain rfl : m_lst = r := Option.some.inj (f_m_lst.symm.trans hr); rw [cl_lst, n_lst]; exact eq_lst), (fun w q r hw hq hr => by obtain rfl : qw = w := Option.some.inj (f_qw.symm.trans hw); obtain rfl : qlt = q := Option.some.inj (f_qlt.symm.trans hq); obtain rfl : m_wkd = r := Option.some.inj (f_m_wkd.symm.trans hr); rw [n_qlt, n_m_wkd, f_o_wkm]; exact eb_wkd), (fun c q a hc hq ha => by obtain rfl : qc = c := Option.some.inj (f_qc.symm.trans hc); obtain rfl : qp = q := Option.some.inj (f_qp.symm.trans hq); obtain rfl : m_aga = a := Option.some.inj (f_m_aga.symm.trans ha); rw [n_aga, f_x_claimCount]; exact hw_DF_e hDF rfl rfl), hx_ob2 f_qp f_m_dead (by rw [cl_dead, n_dead]; exact eq_dead), hx_ob2 f_qp f_m_isj (by rw [cl_isj, n_isj]; exact eq_isj), hx_ob2 f_qp f_m_dox (by rw [cl_dox, n_dox]; exact eq_dox), hx_ob2 f_qp f_m_doy (by rw [cl_doy, n_doy]; exact eq_doy), hx_ob2 f_qc f_m_fou (by rw [cl_fou, n_m_fou]; exact eq_fou), hx_ob2 f_qc f_mt (by rw [cl_tri, n_mt]; exact eq_tri), trivial⟩, ⟨hx_ob f_qa pf_qa, hx_ob f_qp pf_qp, hx_ob f_qc pf_qc, hx_ob f_qh pf_qh, (fun w q hw hq => by obtain rfl : qw = w := Option.some.inj (f_qw.symm.trans hw); obtain rfl : ql = q := Option.some.inj (f_ql.symm.trans hq); exact pf_ql)⟩, ⟨hx_ob f_mw (by rw [n_mw]; exact hwd), hx_ob f_mr (by rw [n_mr, f_m_acts]; exact hWK), hx_ob2 f_mp f_mn (by rw [n_mp, n_mn, f_m_acts]; exact hRP), hx_ob f_ml (by rw [n_ml, f_m_claims, f_m_acts]; exact hPL), hx_ob f_mh (by rw [n_mh, f_m_heardMany, f_m_claims]; exact hHC), hx_ob f_mt (by rw [n_mt]; exact (hx_TR_le hTR (by omega))), hx_ob2 f_mh f_m_fou (by rw [n_mh, n_m_fou, f_m_claims]; exact hHF)⟩⟩ hl

set_option maxHeartbeats 4000000 in
set_option maxRecDepth 100000 in
theorem law_case_11 {p : Program} {e : Env} {s : State} {m : MethodId} {below : List Frame} {meth : Method} {c : Code} (l : Launch) {b LN : Nat} {xs : Nat → Int32} (hx : p.tables.exec = Jvm.exec) (hb : c.code = code) (hr : meth.sig.returnType = ret) (hlocks : meth.locks = false) (hml : c.maxLocals = 4) (hown : s.vm.findClass "SmallCourtLaw" = some m.cls) (hts : ∀ w ∈ hx_all, w.before #[Value.ref b] s = true) (hX : va_X b LN xs s s.heap) (hbl : b < s.heap.size) (hbA : ¬ s.heap.size ≤ b) (hLN : LN ≤ 3584) (dC : Nat → ClassId) (dI : Nat → Nat → Nat) (dA : Nat → ClassId) (b0 : hx_z) (ax am : Nat) (T1 : Int) (hT0 : 0 ≤ T1) (hT1 : T1 ≤ 511) (i : Int32) (hi0 : 0 ≤ i.toInt) (hiL : i.toInt + 7 ≤ LN) (CC SS : Nat) (hCC : CC + 3 ≤ 600000) (hSS : SS + 179 ≤ 7302250) (L1 : List Nat) (hl1 : hx_h) (H : Heap) (locs : List Loc) (ls : Array Slot) (hW : hx_W T_tb (P_ty dA) (dC, dI) vwCl (fun q : Nat => s.heap.size ≤ q) s.heap L1 hl1 s H locs) (hZ : hx_Xt (fun q : Nat => s.heap.size ≤ q) b0 s) (hI : hx_IV T1 ax am L1 hl1) (hl : lv_has ls 4 [(3, .int i), (2, .ref am), (1, .ref ax), (0, .ref b)]) (kk : ∀ (L2 : List Nat) (h2 : hx_h) (H2 : Heap) (locs2 : List Loc) (ls2 : Array Slot), hx_W T_tb (P_ty dA) (dC, dI) vwCl (fun q : Nat => s.heap.size ≤ q) s.heap L2 h2 s H2 locs2 → hx_IV (T1 + 1) ax am L2 h2 → lv_has ls2 4 [(3, .int i), (2, .ref am), (1, .ref ax), (0, .ref b)] → W p l e room_1 s m #[Value.ref b] below meth c H2 locs2 (CC + 3) (SS + 179) (lw_Z below #[Value.ref b] s) (F0 m 1379 ls2 [])) : W p l e room_1 s m #[Value.ref b] below meth c H locs CC SS (lw_Z below #[Value.ref b] s) (F0 m 663 ls []) := by
  obtain ⟨hT, gx, gm, ⟨he_nw, he_np, he_c0, ho_ln, ho_lsd, ho_wkm, hn_qp, hn_qc, hk_of, hk_wf, hk_df, hk_kf, hk_sf, hkBD, hLQ, hLE, hkWD, hkDF, hc_dead, hc_isj, hc_dox, hc_doy, hc_fou, hc_tri, -⟩, ⟨ia, ip, ic, ih, il⟩, ⟨jw, jr, jp, jl, jh, jt, jf⟩⟩ := hI
  obtain ⟨qa, f_qa, g_qa⟩ := hx_rf hT gx tt_9 (k := 5) (u := 43) rfl
  have pf_qa := ia qa f_qa
  obtain ⟨qp, f_qp, g_qp⟩ := hx_rf hT gx tt_9 (k := 7) (u := 44) rfl
  have pf_qp := ip qp f_qp
  obtain ⟨qc, f_qc, g_qc⟩ := hx_rf hT gx tt_9 (k := 10) (u := 45) rfl
  have pf_qc := ic qc f_qc
  obtain ⟨qh, f_qh, g_qh⟩ := hx_rf hT gx tt_9 (k := 12) (u := 46) rfl
  have pf_qh := ih qh f_qh
  obtain ⟨qw, f_qw, g_qw⟩ := hx_rf hT gx tt_9 (k := 19) (u := 8) rfl
  obtain ⟨ql, f_ql, g_ql⟩ := hx_rf hT g_qw tt_8 (k := 3) (u := 40) rfl
  have pf_ql := il qw ql f_qw f_ql
  obtain ⟨nw, f_m_now⟩ : ∃ y : Int32, hl1.2.1 am 0 = y := ⟨_, rfl⟩
  have b_nw := hT.gi gm tt_10 (k := 0) rfl
  rw [f_m_now] at b_nw
  have b_nw : 0 ≤ nw.toInt ∧ nw.toInt ≤ 7999 := b_nw
  obtain ⟨np, f_m_persons⟩ : ∃ y : Int32, hl1.2.1 am 20 = y := ⟨_, rfl⟩
  have b_np := hT.gi gm tt_10 (k := 20) rfl
  rw [f_m_persons] at b_np
  have b_np : 0 ≤ np.toInt ∧ np.toInt ≤ 40 := b_np
  obtain ⟨c0, f_m_claims⟩ : ∃ y : Int32, hl1.2.1 am 36 = y := ⟨_, rfl⟩
  have b_c0 := hT.gi gm tt_10 (k := 36) rfl
  rw [f_m_claims] at b_c0
  have b_c0 : 0 ≤ c0.toInt ∧ c0.toInt ≤ 100 := b_c0
  obtain ⟨ln, f_m_lines⟩ : ∃ y : Int32, hl1.2.1 am 29 = y := ⟨_, rfl⟩
  have b_ln := hT.gi gm tt_10 (k := 29) rfl
  rw [f_m_lines] at b_ln
  have b_ln : 0 ≤ ln.toInt ∧ ln.toInt ≤ 400 := b_ln
  obtain ⟨lsd, f_m_listed⟩ : ∃ y : Int32, hl1.2.1 am 90 = y := ⟨_, rfl⟩
  have b_lsd := hT.gi gm tt_10 (k := 90) rfl
  rw [f_m_listed] at b_lsd
  have b_lsd : 0 ≤ lsd.toInt ∧ lsd.toInt ≤ 8 := b_lsd
  obtain ⟨wkm, f_m_walkedMany⟩ : ∃ y : Int32, hl1.2.1 am 92 = y := ⟨_, rfl⟩
  have b_wkm := hT.gi gm tt_10 (k := 92) rfl
  rw [f_m_walkedMany] at b_wkm
  have b_wkm : 0 ≤ wkm.toInt ∧ wkm.toInt ≤ 8 := b_wkm
  obtain ⟨a0, f_m_acts⟩ : ∃ y : Int32, hl1.2.1 am 1 = y := ⟨_, rfl⟩
  have b_a0 := hT.gi gm tt_10 (k := 1) rfl
  rw [f_m_acts] at b_a0
  have b_a0 : 0 ≤ a0.toInt ∧ a0.toInt ≤ 8 := b_a0
  obtain ⟨m0, f_m_heardMany⟩ : ∃ y : Int32, hl1.2.1 am 57 = y := ⟨_, rfl⟩
  have b_m0 := hT.gi gm tt_10 (k := 57) rfl
  rw [f_m_heardMany] at b_m0
  have b_m0 : 0 ≤ m0.toInt ∧ m0.toInt ≤ 100 := b_m0
  have f_x_now : hl1.2.1 ax 2 = nw := he_nw.trans f_m_now
  have f_x_personCount : hl1.2.1 ax 8 = np := he_np.trans f_m_persons
  have f_x_claimCount : hl1.2.1 ax 11 = c0 := he_c0.trans f_m_claims
  obtain ⟨mw, f_mw, g_mw⟩ := hx_rf hT gm tt_10 (k := 19) (u := 57) rfl
  obtain ⟨F_mw, n_mw⟩ : ∃ g : Nat → Int32, hl1.2.1 mw = g := ⟨_, rfl⟩
  obtain ⟨mr, f_mr, g_mr⟩ := hx_rf hT gm tt_10 (k := 3) (u := 50) rfl
  obtain ⟨F_mr, n_mr⟩ : ∃ g : Nat → Int32, hl1.2.1 mr = g := ⟨_, rfl⟩
  obtain ⟨mp, f_mp, g_mp⟩ := hx_rf hT gm tt_10 (k := 5) (u := 52) rfl
  obtain ⟨F_mp, n_mp⟩ : ∃ g : Nat → Int32, hl1.2.1 mp = g := ⟨_, rfl⟩
  obtain ⟨mn, f_mn, g_mn⟩ := hx_rf hT gm tt_10 (k := 4) (u := 51) rfl
  obtain ⟨F_mn, n_mn⟩ : ∃ g : Nat → Int32, hl1.2.1 mn = g := ⟨_, rfl⟩
  obtain ⟨ml, f_ml, g_ml⟩ := hx_rf hT gm tt_10 (k := 44) (u := 79) rfl
  obtain ⟨F_ml, n_ml⟩ : ∃ g : Nat → Int32, hl1.2.1 ml = g := ⟨_, rfl⟩
  obtain ⟨mh, f_mh, g_mh⟩ := hx_rf hT gm tt_10 (k := 47) (u := 82) rfl
  obtain ⟨F_mh, n_mh⟩ : ∃ g : Nat → Int32, hl1.2.1 mh = g := ⟨_, rfl⟩
  obtain ⟨mt, f_mt, g_mt⟩ := hx_rf hT gm tt_10 (k := 45) (u := 80) rfl
  obtain ⟨F_mt, n_mt⟩ : ∃ g : Nat → Int32, hl1.2.1 mt = g := ⟨_, rfl⟩
  obtain ⟨m_fou, f_m_fou, g_m_fou⟩ := hx_rf hT gm tt_10 (k := 46) (u := 81) rfl
  obtain ⟨F_m_fou, n_m_fou⟩ : ∃ g : Nat → Int32, hl1.2.1 m_fou = g := ⟨_, rfl⟩
  obtain ⟨qo_ln, f_qo_ln, g_qo_ln⟩ := hx_rf hT gx tt_9 (k := 9) (u := 1) rfl
  have f_o_ln : hl1.2.1 qo_ln 0 = ln := (ho_ln qo_ln f_qo_ln).trans f_m_lines
  have f_o_lsd : hl1.2.1 qw 0 = lsd := (ho_lsd qw f_qw).trans f_m_listed
  have f_o_wkm : hl1.2.1 qw 1 = wkm := (ho_wkm qw f_qw).trans f_m_walkedMany
  have nu_qp := hn_qp qp f_qp; rw [f_x_personCount] at nu_qp
  have nu_qc := hn_qc qc f_qc; rw [f_x_claimCount] at nu_qc
  obtain ⟨b_of, f_b_of, g_b_of⟩ := hx_rf hT g_qo_ln tt_1 (k := 1) (u := 13) rfl
  obtain ⟨B_of, n_b_of⟩ : ∃ g : Nat → Int32, hl1.2.1 b_of = g := ⟨_, rfl⟩
  obtain ⟨m_of, f_m_of, g_m_of⟩ := hx_rf hT gm tt_10 (k := 30) (u := 66) rfl
  obtain ⟨F_of, n_m_of⟩ : ∃ g : Nat → Int32, hl1.2.1 m_of = g := ⟨_, rfl⟩
  have eb_of := hk_of qo_ln b_of m_of f_qo_ln f_b_of f_m_of; rw [n_b_of, n_m_of, f_o_ln] at eb_of
  obtain ⟨b_wf, f_b_wf, g_b_wf⟩ := hx_rf hT g_qo_ln tt_1 (k := 2) (u := 14) rfl
  obtain ⟨B_wf, n_b_wf⟩ : ∃ g : Nat → Int32, hl1.2.1 b_wf = g := ⟨_, rfl⟩
  obtain ⟨m_wf, f_m_wf, g_m_wf⟩ := hx_rf hT gm tt_10 (k := 31) (u := 67) rfl
  obtain ⟨F_wf, n_m_wf⟩ : ∃ g : Nat → Int32, hl1.2.1 m_wf = g := ⟨_, rfl⟩
  have eb_wf := hk_wf qo_ln b_wf m_wf f_qo_ln f_b_wf f_m_wf; rw [n_b_wf, n_m_wf, f_o_ln] at eb_wf
  obtain ⟨b_df, f_b_df, g_b_df⟩ := hx_rf hT g_qo_ln tt_1 (k := 3) (u := 15) rfl
  obtain ⟨B_df, n_b_df⟩ : ∃ g : Nat → Int32, hl1.2.1 b_df = g := ⟨_, rfl⟩
  obtain ⟨m_df, f_m_df, g_m_df⟩ := hx_rf hT gm tt_10 (k := 32) (u := 68) rfl
  obtain ⟨F_df, n_m_df⟩ : ∃ g : Nat → Int32, hl1.2.1 m_df = g := ⟨_, rfl⟩
  have eb_df := hk_df qo_ln b_df m_df f_qo_ln f_b_df f_m_df; rw [n_b_df, n_m_df, f_o_ln] at eb_df
  obtain ⟨b_kf, f_b_kf, g_b_kf⟩ := hx_rf hT g_qo_ln tt_1 (k := 4) (u := 16) rfl
  obtain ⟨B_kf, n_b_kf⟩ : ∃ g : Nat → Int32, hl1.2.1 b_kf = g := ⟨_, rfl⟩
  obtain ⟨m_kf, f_m_kf, g_m_kf⟩ := hx_rf hT gm tt_10 (k := 33) (u := 69) rfl
  obtain ⟨F_kf, n_m_kf⟩ : ∃ g : Nat → Int32, hl1.2.1 m_kf = g := ⟨_, rfl⟩
  have eb_kf := hk_kf qo_ln b_kf m_kf f_qo_ln f_b_kf f_m_kf; rw [n_b_kf, n_m_kf, f_o_ln] at eb_kf
  obtain ⟨b_sf, f_b_sf, g_b_sf⟩ := hx_rf hT g_qo_ln tt_1 (k := 5) (u := 17) rfl
  obtain ⟨B_sf, n_b_sf⟩ : ∃ g : Nat → Int32, hl1.2.1 b_sf = g := ⟨_, rfl⟩
  obtain ⟨m_sf, f_m_sf, g_m_sf⟩ := hx_rf hT gm tt_10 (k := 34) (u := 70) rfl
  obtain ⟨F_sf, n_m_sf⟩ : ∃ g : Nat → Int32, hl1.2.1 m_sf = g := ⟨_, rfl⟩
  have eb_sf := hk_sf qo_ln b_sf m_sf f_qo_ln f_b_sf f_m_sf; rw [n_b_sf, n_m_sf, f_o_ln] at eb_sf
  obtain ⟨b_bf, f_b_bf, g_b_bf⟩ := hx_rf hT g_qo_ln tt_1 (k := 6) (u := 18) rfl
  obtain ⟨bfL, n_b_bf⟩ : ∃ g : Nat → Int32, hl1.2.1 b_bf = g := ⟨_, rfl⟩
  obtain ⟨hBD, hDY⟩ := hkBD qo_ln b_df b_bf f_qo_ln f_b_df f_b_bf; rw [n_b_df, n_b_bf, f_o_ln] at hBD; rw [n_b_df, f_o_ln] at hDY
  have hBDm := hy_BD_c eb_df hBD
  have hDYm : hy_DY F_df ln.toInt.toNat := fun x hx => by rw [← eb_df x hx]; exact hDY x hx
  have sb_list := hLQ qw ql qc f_qw f_ql f_qc
  obtain ⟨m_lst, f_m_lst, g_m_lst⟩ := hx_rf hT gm tt_10 (k := 91) (u := 112) rfl
  obtain ⟨F_lst, n_lst⟩ : ∃ g : Nat → Int32, hl1.2.1 m_lst = g := ⟨_, rfl⟩
  obtain ⟨c_lst, cl_lst⟩ : ∃ g : Nat → Int32, hx_col 8 hl1 ql 0 = g := ⟨_, rfl⟩
  have eq_lst := hLE qw ql m_lst f_qw f_ql f_m_lst; rw [cl_lst, n_lst] at eq_lst
  obtain ⟨c_dead, cl_dead⟩ : ∃ g : Nat → Int32, hx_col 40 hl1 qp 7 = g := ⟨_, rfl⟩
  obtain ⟨m_dead, f_m_dead, g_m_dead⟩ := hx_rf hT gm tt_10 (k := 27) (u := 64) rfl
  obtain ⟨F_dead, n_dead⟩ : ∃ g : Nat → Int32, hl1.2.1 m_dead = g := ⟨_, rfl⟩
  have eq_dead := hc_dead qp m_dead f_qp f_m_dead; rw [cl_dead, n_dead] at eq_dead
  have z_dead : np.toInt.toNat < 40 → c_dead np.toInt.toNat = 0 := fun hj => hx_num_z nu_qp cl_dead hj (by omega)
  obtain ⟨c_isj, cl_isj⟩ : ∃ g : Nat → Int32, hx_col 40 hl1 qp 8 = g := ⟨_, rfl⟩
  obtain ⟨m_isj, f_m_isj, g_m_isj⟩ := hx_rf hT gm tt_10 (k := 28) (u := 65) rfl
  obtain ⟨F_isj, n_isj⟩ : ∃ g : Nat → Int32, hl1.2.1 m_isj = g := ⟨_, rfl⟩
  have eq_isj := hc_isj qp m_isj f_qp f_m_isj; rw [cl_isj, n_isj] at eq_isj
  have z_isj : np.toInt.toNat < 40 → c_isj np.toInt.toNat = 0 := fun hj => hx_num_z nu_qp cl_isj hj (by omega)
  obtain ⟨c_dox, cl_dox⟩ : ∃ g : Nat → Int32, hx_col 40 hl1 qp 5 = g := ⟨_, rfl⟩
  obtain ⟨m_dox, f_m_dox, g_m_dox⟩ := hx_rf hT gm tt_10 (k := 24) (u := 61) rfl
  obtain ⟨F_dox, n_dox⟩ : ∃ g : Nat → Int32, hl1.2.1 m_dox = g := ⟨_, rfl⟩
  have eq_dox := hc_dox qp m_dox f_qp f_m_dox; rw [cl_dox, n_dox] at eq_dox
  have z_dox : np.toInt.toNat < 40 → c_dox np.toInt.toNat = 0 := fun hj => hx_num_z nu_qp cl_dox hj (by omega)
  obtain ⟨c_doy, cl_doy⟩ : ∃ g : Nat → Int32, hx_col 40 hl1 qp 6 = g := ⟨_, rfl⟩
  obtain ⟨m_doy, f_m_doy, g_m_doy⟩ := hx_rf hT gm tt_10 (k := 25) (u := 62) rfl
  obtain ⟨F_doy, n_doy⟩ : ∃ g : Nat → Int32, hl1.2.1 m_doy = g := ⟨_, rfl⟩
  have eq_doy := hc_doy qp m_doy f_qp f_m_doy; rw [cl_doy, n_doy] at eq_doy
  have z_doy : np.toInt.toNat < 40 → c_doy np.toInt.toNat = 0 := fun hj => hx_num_z nu_qp cl_doy hj (by omega)
  obtain ⟨c_fou, cl_fou⟩ : ∃ g : Nat → Int32, hx_col 100 hl1 qc 10 = g := ⟨_, rfl⟩
  have eq_fou := hc_fou qc m_fou f_qc f_m_fou; rw [cl_fou, n_m_fou] at eq_fou
  have z_fou : c0.toInt.toNat < 100 → c_fou c0.toInt.toNat = 0 := fun hj => hx_num_z nu_qc cl_fou hj (by omega)
  obtain ⟨c_tri, cl_tri⟩ : ∃ g : Nat → Int32, hx_col 100 hl1 qc 9 = g := ⟨_, rfl⟩
  have eq_tri := hc_tri qc mt f_qc f_mt; rw [cl_tri, n_mt] at eq_tri
  have z_tri : c0.toInt.toNat < 100 → c_tri c0.toInt.toNat = 0 := fun hj => hx_num_z nu_qc cl_tri hj (by omega)
  obtain ⟨qlt, f_qlt, g_qlt⟩ := hx_rf hT g_qw tt_8 (k := 2) (u := 39) rfl
  obtain ⟨qlf, f_qlf, g_qlf⟩ := hx_rf hT g_qw tt_8 (k := 4) (u := 41) rfl
  obtain ⟨m_wkd, f_m_wkd, g_m_wkd⟩ := hx_rf hT gm tt_10 (k := 93) (u := 113) rfl
  obtain ⟨F_qlt, n_qlt⟩ : ∃ g : Nat → Int32, hl1.2.1 qlt = g := ⟨_, rfl⟩
  obtain ⟨F_m_wkd, n_m_wkd⟩ : ∃ g : Nat → Int32, hl1.2.1 m_wkd = g := ⟨_, rfl⟩
  have eb_wkd := hkWD qw qlt m_wkd f_qw f_qlt f_m_wkd; rw [n_qlt, n_m_wkd, f_o_wkm] at eb_wkd
  obtain ⟨m_aga, f_m_aga, g_m_aga⟩ := hx_rf hT gm tt_10 (k := 38) (u := 73) rfl
  obtain ⟨F_aga, n_aga⟩ : ∃ g : Nat → Int32, hl1.2.1 m_aga = g := ⟨_, rfl⟩
  have hDF := hkDF qc qp m_aga f_qc f_qp f_m_aga; rw [n_aga, f_x_claimCount] at hDF
  have hwd := jw mw f_mw; rw [n_mw] at hwd
  have hWK := jr mr f_mr; rw [n_mr, f_m_acts] at hWK
  have hRP := jp mp mn f_mp f_mn; rw [n_mp, n_mn, f_m_acts] at hRP
  have hPL := jl ml f_ml; rw [n_ml, f_m_claims, f_m_acts] at hPL
  have hHC := jh mh f_mh; rw [n_mh, f_m_heardMany, f_m_claims] at hHC
  have hTR := jt mt f_mt; rw [n_mt] at hTR
  have hHF := jf mh m_fou f_mh f_m_fou; rw [n_mh, n_m_fou, f_m_claims] at hHF
  refine lv_aload_n hx hb dL_law_663 rfl (lv_at hl 2 rfl) ?_
  refine lv_aload_n hx hb dL_law_664 rfl (lv_at hl 3 rfl) ?_
  refine lv_iload_n hx hb dL_law_665 rfl (lv_at hl 0 rfl) ?_
  refine lv_iconst (v := 1) hx hb dL_law_666 (by decide) ?_
  refine lv_iadd hx hb dL_law_667 ?_
  have rg_308 := i32_r i
  refine lv_topi (fun x_309 ex_309 => ?_)
  have zx_309 : x_309.toInt = i.toInt + 1 := by rw [ex_309]; exact i32_add rfl (by decide) (by omega) (by omega)
  refine va_sld hx hb hX hbl hbA hW.2.2.2.1 (vp_in_iff.mpr ⟨by omega, by omega⟩) dL_law_668 ?_
  refine lv_topi (fun x_310 ex_310 => ?_)
  refine lv_aload_n hx hb dL_law_669 rfl (lv_at hl 3 rfl) ?_
  refine lv_iload_n hx hb dL_law_670 rfl (lv_at hl 0 rfl) ?_
  refine lv_iconst (v := 2) hx hb dL_law_671 (by decide) ?_
  refine lv_iadd hx hb dL_law_672 ?_
  refine lv_topi (fun x_311 ex_311 => ?_)
  have zx_311 : x_311.toInt = i.toInt + 2 := by rw [ex_311]; exact i32_add rfl (by decide) (by omega) (by omega)
  refine va_sld hx hb hX hbl hbA hW.2.2.2.1 (vp_in_iff.mpr ⟨by omega, by omega⟩) dL_law_673 ?_
  refine lv_topi (fun x_312 ex_312 => ?_)
  refine lv_aload_n hx hb dL_law_674 rfl (lv_at hl 3 rfl) ?_
  refine lv_iload_n hx hb dL_law_675 rfl (lv_at hl 0 rfl) ?_
  refine lv_iconst (v := 3) hx hb dL_law_676 (by decide) ?_
  refine lv_iadd hx hb dL_law_677 ?_
  refine lv_topi (fun x_313 ex_313 => ?_)
  have zx_313 : x_313.toInt = i.toInt + 3 := by rw [ex_313]; exact i32_add rfl (by decide) (by omega) (by omega)
  refine va_sld hx hb hX hbl hbA hW.2.2.2.1 (vp_in_iff.mpr ⟨by omega, by omega⟩) dL_law_678 ?_
  refine lv_topi (fun x_314 ex_314 => ?_)
  refine lv_aload_n hx hb dL_law_679 rfl (lv_at hl 3 rfl) ?_
  refine lv_iload_n hx hb dL_law_680 rfl (lv_at hl 0 rfl) ?_
  refine lv_iconst (v := 4) hx hb dL_law_681 (by decide) ?_
  refine lv_iadd hx hb dL_law_682 ?_
  refine lv_topi (fun x_315 ex_315 => ?_)
  have zx_315 : x_315.toInt = i.toInt + 4 := by rw [ex_315]; exact i32_add rfl (by decide) (by omega) (by omega)
  refine va_sld hx hb hX hbl hbA hW.2.2.2.1 (vp_in_iff.mpr ⟨by omega, by omega⟩) dL_law_683 ?_
  refine lv_topi (fun x_316 ex_316 => ?_)
  refine lv_aload_n hx hb dL_law_684 rfl (lv_at hl 3 rfl) ?_
  refine lv_iload_n hx hb dL_law_685 rfl (lv_at hl 0 rfl) ?_
  refine lv_iconst (v := 5) hx hb dL_law_686 (by decide) ?_
  refine lv_iadd hx hb dL_law_687 ?_
  refine lv_topi (fun x_317 ex_317 => ?_)
  have zx_317 : x_317.toInt = i.toInt + 5 := by rw [ex_317]; exact i32_add rfl (by decide) (by omega) (by omega)
  refine va_sld hx hb hX hbl hbA hW.2.2.2.1 (vp_in_iff.mpr ⟨by omega, by omega⟩) dL_law_688 ?_
  refine lv_topi (fun x_318 ex_318 => ?_)
  have jn_697 : ∀ (xj_319 : Int32) (ls : Array Slot), 0 ≤ xj_319.toInt → xj_319.toInt ≤ 1 → (x_318.toInt = 0 ∧ xj_319.toInt = 0) ∨ (x_318.toInt ≠ 0 ∧ xj_319.toInt = 1) → lv_has ls 4 [(3, .int i), (2, .ref am), (1, .ref ax), (0, .ref b)] → W p l e room_1 s m #[Value.ref b] below meth c H locs (CC) (SS) (lw_Z below #[Value.ref b] s) (F0 m 697 ls [.int xj_319, .int x_316, .int x_314, .int x_312, .int x_310, .ref ax]) := by
    intro xj_319 ls blxj_319 buxj_319 jcxj_319 hl
    refine lv_aload_n hx hb dL_law_697 rfl (lv_at hl 3 rfl) ?_
    refine lv_iload_n hx hb dL_law_698 rfl (lv_at hl 0 rfl) ?_
    refine lv_bipush (v := 6) hx hb dL_law_699 (by decide) ?_
    refine lv_iadd hx hb dL_law_701 ?_
    refine lv_topi (fun x_320 ex_320 => ?_)
    have zx_320 : x_320.toInt = i.toInt + 6 := by rw [ex_320]; exact i32_add rfl (by decide) (by omega) (by omega)
    refine va_sld hx hb hX hbl hbA hW.2.2.2.1 (vp_in_iff.mpr ⟨by omega, by omega⟩) dL_law_702 ?_
    refine lv_topi (fun x_321 ex_321 => ?_)
    have hTo := hT
    refine hx_goi (hx_runV (As := [.int x_310, .int x_312, .int x_314, .int x_316, .int xj_319, .int x_321]) (rest := []) ⟨hx, hb, hml, hown, hts⟩ hW gx tt_9 (T := TX9) (N := 20) rfl (t_X9_file_2 l dC dI dA L1 hl1 H.size ax x_310 x_312 x_314 x_316 xj_319 x_321 hT gx qp g_qp f_qp qc g_qc f_qc qa g_qa f_qa qw g_qw f_qw ql g_ql f_ql c0 f_x_claimCount np f_x_personCount nw f_x_now c_dead cl_dead c_fou cl_fou c_tri cl_tri nu_qc sb_list F_aga hDF pf_qp pf_qc pf_qa) (cwV 6 hts (hx_gV kw_715 kw_712 kw_713 kw_714 kw_94) rfl rfl rfl (by decide +kernel) ⟨Nat.le_of_ble_eq_true rfl, Nat.le_of_ble_eq_true rfl⟩) rfl hl.1 rfl (Nat.le_of_ble_eq_true rfl) dL_law_703 ⟨(show CC + 3 ≤ 600000 from by omega), (show SS + 30 ≤ 7302250 from by omega)⟩) hW (fun r_324 L_322 h_323 H locs p_325 hW => ?_)
    obtain ⟨⟨w_328, w_329, w_330, fw_328, fw_329, fw_330, hr_326⟩, hT, hs, pf_327⟩ := p_325
    obtain ⟨nu_331, hr_326⟩ := hr_326
    obtain ⟨sb_332, hr_326⟩ := hr_326
    replace hT : hx_T T_tb L_322 h_323 := hT
    replace hs : hx_S T_tb [(2, 6), (2, 7), (2, 8), (9, 11), (20, 0), (21, 0), (45, 0), (118, 0), (118, 1), (118, 2), (118, 3), (118, 4), (118, 5), (118, 10), (118, 11), (118, 13), (118, 16), (118, 18)] L1 hl1 L_322 h_323 := hs
    replace f_qa := (hs.o gx trivial rfl).2.trans f_qa
    replace f_qp := (hs.o gx trivial rfl).2.trans f_qp
    replace f_qc := (hs.o gx trivial rfl).2.trans f_qc
    replace f_qh := (hs.o gx trivial rfl).2.trans f_qh
    replace f_qw := (hs.o gx trivial rfl).2.trans f_qw
    replace f_ql := (hs.o g_qw trivial rfl).2.trans f_ql
    replace f_m_now := (hs.o gm trivial rfl).1.trans f_m_now
    replace f_m_persons := (hs.o gm trivial rfl).1.trans f_m_persons
    replace f_m_claims := (hs.o gm trivial rfl).1.trans f_m_claims
    replace f_m_lines := (hs.o gm trivial rfl).1.trans f_m_lines
    replace f_m_listed := (hs.o gm trivial rfl).1.trans f_m_listed
    replace f_m_walkedMany := (hs.o gm trivial rfl).1.trans f_m_walkedMany
    replace f_m_acts := (hs.o gm trivial rfl).1.trans f_m_acts
    replace f_m_heardMany := (hs.o gm trivial rfl).1.trans f_m_heardMany
    replace f_x_now := (hs.o gx trivial rfl).1.trans f_x_now
    replace f_x_personCount := (hs.o gx trivial rfl).1.trans f_x_personCount
    replace f_mw := (hs.o gm trivial rfl).2.trans f_mw
    replace f_mr := (hs.o gm trivial rfl).2.trans f_mr
    replace f_mp := (hs.o gm trivial rfl).2.trans f_mp
    replace f_mn := (hs.o gm trivial rfl).2.trans f_mn
    replace f_ml := (hs.o gm trivial rfl).2.trans f_ml
    replace f_mh := (hs.o gm trivial rfl).2.trans f_mh
    replace f_mt := (hs.o gm trivial rfl).2.trans f_mt
    replace f_m_fou := (hs.o gm trivial rfl).2.trans f_m_fou
    replace f_qo_ln := (hs.o gx trivial rfl).2.trans f_qo_ln
    replace f_o_ln := (hs.o g_qo_ln trivial rfl).1.trans f_o_ln
    replace f_o_lsd := (hs.o g_qw trivial rfl).1.trans f_o_lsd
    replace f_o_wkm := (hs.o g_qw trivial rfl).1.trans f_o_wkm
    replace f_b_of := (hs.o g_qo_ln trivial rfl).2.trans f_b_of
    replace f_m_of := (hs.o gm trivial rfl).2.trans f_m_of
    replace f_b_wf := (hs.o g_qo_ln trivial rfl).2.trans f_b_wf
    replace f_m_wf := (hs.o gm trivial rfl).2.trans f_m_wf
    replace f_b_df := (hs.o g_qo_ln trivial rfl).2.trans f_b_df
    replace f_m_df := (hs.o gm trivial rfl).2.trans f_m_df
    replace f_b_kf := (hs.o g_qo_ln trivial rfl).2.trans f_b_kf
    replace f_m_kf := (hs.o gm trivial rfl).2.trans f_m_kf
    replace f_b_sf := (hs.o g_qo_ln trivial rfl).2.trans f_b_sf
    replace f_m_sf := (hs.o gm trivial rfl).2.trans f_m_sf
    replace f_b_bf := (hs.o g_qo_ln trivial rfl).2.trans f_b_bf
    replace f_m_lst := (hs.o gm trivial rfl).2.trans f_m_lst
    replace f_m_dead := (hs.o gm trivial rfl).2.trans f_m_dead
    replace f_m_isj := (hs.o gm trivial rfl).2.trans f_m_isj
    replace f_m_dox := (hs.o gm trivial rfl).2.trans f_m_dox
    replace f_m_doy := (hs.o gm trivial rfl).2.trans f_m_doy
    replace f_qlt := (hs.o g_qw trivial rfl).2.trans f_qlt
    replace f_qlf := (hs.o g_qw trivial rfl).2.trans f_qlf
    replace f_m_wkd := (hs.o gm trivial rfl).2.trans f_m_wkd
    replace f_m_aga := (hs.o gm trivial rfl).2.trans f_m_aga
    replace pf_qa : ∀ j : Nat, (j : Int) < (h_323.2.1 ax 6).toInt → h_323.2.2 qa j ≠ none := by
      intro j hj; rw [(hs.o gx trivial rfl).1] at hj; rw [(hs.a g_qa rfl j).2]; exact pf_qa j hj
    replace pf_qp : ∀ j : Nat, (j : Int) < (h_323.2.1 ax 8).toInt → h_323.2.2 qp j ≠ none := by
      intro j hj; rw [(hs.o gx trivial rfl).1] at hj; rw [(hs.a g_qp rfl j).2]; exact pf_qp j hj
    replace pf_qh : ∀ j : Nat, (j : Int) < (h_323.2.1 ax 13).toInt → h_323.2.2 qh j ≠ none := by
      intro j hj; rw [(hs.o gx trivial rfl).1] at hj; rw [(hs.a g_qh rfl j).2]; exact pf_qh j hj
    replace pf_ql : ∀ j : Nat, (j : Int) < (h_323.2.1 qw 0).toInt → h_323.2.2 ql j ≠ none := by
      intro j hj; rw [(hs.o g_qw trivial rfl).1] at hj; rw [(hs.a g_ql rfl j).2]; exact pf_ql j hj
    replace cl_lst : hx_col 8 h_323 ql 0 = c_lst := (hx_col_S hs hTo g_ql tt_40 tt_2 rfl rfl).trans cl_lst
    replace cl_dead : hx_col 40 h_323 qp 7 = c_dead := (hx_col_S hs hTo g_qp tt_44 tt_4 rfl rfl).trans cl_dead
    replace cl_isj : hx_col 40 h_323 qp 8 = c_isj := (hx_col_S hs hTo g_qp tt_44 tt_4 rfl rfl).trans cl_isj
    replace cl_dox : hx_col 40 h_323 qp 5 = c_dox := (hx_col_S hs hTo g_qp tt_44 tt_4 rfl rfl).trans cl_dox
    replace cl_doy : hx_col 40 h_323 qp 6 = c_doy := (hx_col_S hs hTo g_qp tt_44 tt_4 rfl rfl).trans cl_doy
    replace nu_qp : hx_num 40 h_323 qp 0 (np.toInt) := hx_num_S hs hTo g_qp tt_44 tt_4 rfl rfl nu_qp
    replace n_mw : h_323.2.1 mw = F_mw := (funext fun j => (hs.a g_mw rfl j).1).trans n_mw
    replace n_mr : h_323.2.1 mr = F_mr := (funext fun j => (hs.a g_mr rfl j).1).trans n_mr
    replace n_mp : h_323.2.1 mp = F_mp := (funext fun j => (hs.a g_mp rfl j).1).trans n_mp
    replace n_mn : h_323.2.1 mn = F_mn := (funext fun j => (hs.a g_mn rfl j).1).trans n_mn
    replace n_ml : h_323.2.1 ml = F_ml := (funext fun j => (hs.a g_ml rfl j).1).trans n_ml
    replace n_mh : h_323.2.1 mh = F_mh := (funext fun j => (hs.a g_mh rfl j).1).trans n_mh
    replace n_mt : h_323.2.1 mt = F_mt := (funext fun j => (hs.a g_mt rfl j).1).trans n_mt
    replace n_m_fou : h_323.2.1 m_fou = F_m_fou := (funext fun j => (hs.a g_m_fou rfl j).1).trans n_m_fou
    replace n_b_of : h_323.2.1 b_of = B_of := (funext fun j => (hs.a g_b_of rfl j).1).trans n_b_of
    replace n_m_of : h_323.2.1 m_of = F_of := (funext fun j => (hs.a g_m_of rfl j).1).trans n_m_of
    replace n_b_wf : h_323.2.1 b_wf = B_wf := (funext fun j => (hs.a g_b_wf rfl j).1).trans n_b_wf
    replace n_m_wf : h_323.2.1 m_wf = F_wf := (funext fun j => (hs.a g_m_wf rfl j).1).trans n_m_wf
    replace n_b_df : h_323.2.1 b_df = B_df := (funext fun j => (hs.a g_b_df rfl j).1).trans n_b_df
    replace n_m_df : h_323.2.1 m_df = F_df := (funext fun j => (hs.a g_m_df rfl j).1).trans n_m_df
    replace n_b_kf : h_323.2.1 b_kf = B_kf := (funext fun j => (hs.a g_b_kf rfl j).1).trans n_b_kf
    replace n_m_kf : h_323.2.1 m_kf = F_kf := (funext fun j => (hs.a g_m_kf rfl j).1).trans n_m_kf
    replace n_b_sf : h_323.2.1 b_sf = B_sf := (funext fun j => (hs.a g_b_sf rfl j).1).trans n_b_sf
    replace n_m_sf : h_323.2.1 m_sf = F_sf := (funext fun j => (hs.a g_m_sf rfl j).1).trans n_m_sf
    replace n_b_bf : h_323.2.1 b_bf = bfL := (funext fun j => (hs.a g_b_bf rfl j).1).trans n_b_bf
    replace n_lst : h_323.2.1 m_lst = F_lst := (funext fun j => (hs.a g_m_lst rfl j).1).trans n_lst
    replace n_dead : h_323.2.1 m_dead = F_dead := (funext fun j => (hs.a g_m_dead rfl j).1).trans n_dead
    replace n_isj : h_323.2.1 m_isj = F_isj := (funext fun j => (hs.a g_m_isj rfl j).1).trans n_isj
    replace n_dox : h_323.2.1 m_dox = F_dox := (funext fun j => (hs.a g_m_dox rfl j).1).trans n_dox
    replace n_doy : h_323.2.1 m_doy = F_doy := (funext fun j => (hs.a g_m_doy rfl j).1).trans n_doy
    replace n_qlt : h_323.2.1 qlt = F_qlt := (funext fun j => (hs.a g_qlt rfl j).1).trans n_qlt
    replace n_m_wkd : h_323.2.1 m_wkd = F_m_wkd := (funext fun j => (hs.a g_m_wkd rfl j).1).trans n_m_wkd
    replace n_aga : h_323.2.1 m_aga = F_aga := (funext fun j => (hs.a g_m_aga rfl j).1).trans n_aga
    replace gx := gx.S hs
    replace gm := gm.S hs
    replace g_qa := g_qa.S hs
    replace g_qp := g_qp.S hs
    replace g_qc := g_qc.S hs
    replace g_qh := g_qh.S hs
    replace g_qw := g_qw.S hs
    replace g_ql := g_ql.S hs
    replace g_mw := g_mw.S hs
    replace g_mr := g_mr.S hs
    replace g_mp := g_mp.S hs
    replace g_mn := g_mn.S hs
    replace g_ml := g_ml.S hs
    replace g_mh := g_mh.S hs
    replace g_mt := g_mt.S hs
    replace g_m_fou := g_m_fou.S hs
    replace g_qo_ln := g_qo_ln.S hs
    replace g_b_of := g_b_of.S hs
    replace g_m_of := g_m_of.S hs
    replace g_b_wf := g_b_wf.S hs
    replace g_m_wf := g_m_wf.S hs
    replace g_b_df := g_b_df.S hs
    replace g_m_df := g_m_df.S hs
    replace g_b_kf := g_b_kf.S hs
    replace g_m_kf := g_m_kf.S hs
    replace g_b_sf := g_b_sf.S hs
    replace g_m_sf := g_m_sf.S hs
    replace g_b_bf := g_b_bf.S hs
    replace g_m_lst := g_m_lst.S hs
    replace g_m_dead := g_m_dead.S hs
    replace g_m_isj := g_m_isj.S hs
    replace g_m_dox := g_m_dox.S hs
    replace g_m_doy := g_m_doy.S hs
    replace g_qlt := g_qlt.S hs
    replace g_qlf := g_qlf.S hs
    replace g_m_wkd := g_m_wkd.S hs
    replace g_m_aga := g_m_aga.S hs
    have pf_327 : ∀ j : Nat, (j : Int) < (h_323.2.1 ax 11).toInt → h_323.2.2 qc j ≠ none := pf_327
    have sb_332 : hx_LQ 8 100 h_323 ql qc := sb_332
    have nu_331 : hx_num 100 h_323 qc 0 (w_328.toInt) := nu_331
    have fw_328 : h_323.2.1 ax 11 = w_328 := fw_328
    have bw_328 := hT.gi gx tt_9 (k := 11) rfl
    rw [fw_328] at bw_328
    have bw_328 : 0 ≤ w_328.toInt ∧ w_328.toInt ≤ 100 := bw_328
    have fw_329 : hx_col 100 h_323 qc 10 = w_329 := fw_329
    have fw_330 : hx_col 100 h_323 qc 9 = w_330 := fw_330
    obtain ⟨agN, hagN, hDFN⟩ := hr_326.2.2.2
    have hDFN : hw_DF h_323 qc qp 2 agN w_328.toInt := hDFN
    refine lv_pop hx hb dL_law_706 rfl ?_
    refine lv_aload_n hx hb dL_law_707 rfl (lv_at hl 1 rfl) ?_
    refine lv_aload_n hx hb dL_law_708 rfl (lv_at hl 3 rfl) ?_
    refine lv_iload_n hx hb dL_law_709 rfl (lv_at hl 0 rfl) ?_
    refine lv_iconst (v := 1) hx hb dL_law_710 (by decide) ?_
    refine lv_iadd hx hb dL_law_711 ?_
    refine lv_topi (fun x_333 ex_333 => ?_)
    have zx_333 : x_333.toInt = i.toInt + 1 := by rw [ex_333]; exact i32_add rfl (by decide) (by omega) (by omega)
    obtain rfl : x_309 = x_333 := ex_309.trans ex_333.symm
    refine va_sld hx hb hX hbl hbA hW.2.2.2.1 (vp_in_iff.mpr ⟨by omega, by omega⟩) dL_law_712 ?_
    refine lv_topi (fun x_334 ex_334 => ?_)
    obtain rfl : x_310 = x_334 := ex_310.trans ex_334.symm
    refine lv_aload_n hx hb dL_law_713 rfl (lv_at hl 3 rfl) ?_
    refine lv_iload_n hx hb dL_law_714 rfl (lv_at hl 0 rfl) ?_
    refine lv_iconst (v := 2) hx hb dL_law_715 (by decide) ?_
    refine lv_iadd hx hb dL_law_716 ?_
    refine lv_topi (fun x_335 ex_335 => ?_)
    have zx_335 : x_335.toInt = i.toInt + 2 := by rw [ex_335]; exact i32_add rfl (by decide) (by omega) (by omega)
    obtain rfl : x_311 = x_335 := ex_311.trans ex_335.symm
    refine va_sld hx hb hX hbl hbA hW.2.2.2.1 (vp_in_iff.mpr ⟨by omega, by omega⟩) dL_law_717 ?_
    refine lv_topi (fun x_336 ex_336 => ?_)
    obtain rfl : x_312 = x_336 := ex_312.trans ex_336.symm
    refine lv_aload_n hx hb dL_law_718 rfl (lv_at hl 3 rfl) ?_
    refine lv_iload_n hx hb dL_law_719 rfl (lv_at hl 0 rfl) ?_
    refine lv_iconst (v := 3) hx hb dL_law_720 (by decide) ?_
    refine lv_iadd hx hb dL_law_721 ?_
    refine lv_topi (fun x_337 ex_337 => ?_)
    have zx_337 : x_337.toInt = i.toInt + 3 := by rw [ex_337]; exact i32_add rfl (by decide) (by omega) (by omega)
    obtain rfl : x_313 = x_337 := ex_313.trans ex_337.symm
    refine va_sld hx hb hX hbl hbA hW.2.2.2.1 (vp_in_iff.mpr ⟨by omega, by omega⟩) dL_law_722 ?_
    refine lv_topi (fun x_338 ex_338 => ?_)
    obtain rfl : x_314 = x_338 := ex_314.trans ex_338.symm
    refine lv_aload_n hx hb dL_law_723 rfl (lv_at hl 3 rfl) ?_
    refine lv_iload_n hx hb dL_law_724 rfl (lv_at hl 0 rfl) ?_
    refine lv_iconst (v := 4) hx hb dL_law_725 (by decide) ?_
    refine lv_iadd hx hb dL_law_726 ?_
    refine lv_topi (fun x_339 ex_339 => ?_)
    have zx_339 : x_339.toInt = i.toInt + 4 := by rw [ex_339]; exact i32_add rfl (by decide) (by omega) (by omega)
    obtain rfl : x_315 = x_339 := ex_315.trans ex_339.symm
    refine va_sld hx hb hX hbl hbA hW.2.2.2.1 (vp_in_iff.mpr ⟨by omega, by omega⟩) dL_law_727 ?_
    refine lv_topi (fun x_340 ex_340 => ?_)
    obtain rfl : x_316 = x_340 := ex_316.trans ex_340.symm
    refine lv_aload_n hx hb dL_law_728 rfl (lv_at hl 3 rfl) ?_
    refine lv_iload_n hx hb dL_law_729 rfl (lv_at hl 0 rfl) ?_
    refine lv_iconst (v := 5) hx hb dL_law_730 (by decide) ?_
    refine lv_iadd hx hb dL_law_731 ?_
    refine lv_topi (fun x_341 ex_341 => ?_)
    have zx_341 : x_341.toInt = i.toInt + 5 := by rw [ex_341]; exact i32_add rfl (by decide) (by omega) (by omega)
    obtain rfl : x_317 = x_341 := ex_317.trans ex_341.symm
    refine va_sld hx hb hX hbl hbA hW.2.2.2.1 (vp_in_iff.mpr ⟨by omega, by omega⟩) dL_law_732 ?_
    refine lv_topi (fun x_342 ex_342 => ?_)
    obtain rfl : x_318 = x_342 := ex_318.trans ex_342.symm
    have jn_741 : ∀ (xj_343 : Int32) (ls : Array Slot), 0 ≤ xj_343.toInt → xj_343.toInt ≤ 1 → (x_318.toInt = 0 ∧ xj_343.toInt = 0) ∨ (x_318.toInt ≠ 0 ∧ xj_343.toInt = 1) → lv_has ls 4 [(3, .int i), (2, .ref am), (1, .ref ax), (0, .ref b)] → W p l e room_1 s m #[Value.ref b] below meth c H locs (CC + 3) (SS + 30) (lw_Z below #[Value.ref b] s) (F0 m 741 ls [.int xj_343, .int x_316, .int x_314, .int x_312, .int x_310, .ref am]) := by
      intro xj_343 ls blxj_343 buxj_343 jcxj_343 hl
      obtain rfl : xj_319 = xj_343 := Int32.toInt_inj.mp (by omega)
      refine lv_aload_n hx hb dL_law_741 rfl (lv_at hl 3 rfl) ?_
      refine lv_iload_n hx hb dL_law_742 rfl (lv_at hl 0 rfl) ?_
      refine lv_bipush (v := 6) hx hb dL_law_743 (by decide) ?_
      refine lv_iadd hx hb dL_law_745 ?_
      refine lv_topi (fun x_344 ex_344 => ?_)
      have zx_344 : x_344.toInt = i.toInt + 6 := by rw [ex_344]; exact i32_add rfl (by decide) (by omega) (by omega)
      obtain rfl : x_320 = x_344 := ex_320.trans ex_344.symm
      refine va_sld hx hb hX hbl hbA hW.2.2.2.1 (vp_in_iff.mpr ⟨by omega, by omega⟩) dL_law_746 ?_
      refine lv_topi (fun x_345 ex_345 => ?_)
      obtain rfl : x_321 = x_345 := ex_321.trans ex_345.symm
      have hTo := hT
      refine hx_goi (hx_runV (As := [.int x_310, .int x_312, .int x_314, .int x_316, .int xj_319, .int x_321]) (rest := []) ⟨hx, hb, hml, hown, hts⟩ hW gm tt_10 (T := TX10) (N := 98) rfl (t_X10_file_3 l dC dI dA L_322 h_323 H.size am x_310 x_312 x_314 x_316 xj_319 x_321 hT gm mh g_mh f_mh ml g_ml f_ml m_dead g_m_dead f_m_dead m_fou g_m_fou f_m_fou m_aga g_m_aga f_m_aga F_mh n_mh F_ml n_ml F_dead n_dead F_m_fou n_m_fou F_aga n_aga a0 f_m_acts c0 f_m_claims m0 f_m_heardMany np f_m_persons nw f_m_now hPL hHC) (cwV 6 hts (hx_gV kw_1589 kw_1586 kw_1587 kw_1588 kw_103) rfl rfl rfl (by decide +kernel) ⟨Nat.le_of_ble_eq_true rfl, Nat.le_of_ble_eq_true rfl⟩) rfl hl.1 rfl (Nat.le_of_ble_eq_true rfl) dL_law_747 ⟨(show CC + 3 + 0 ≤ 600000 from by omega), (show SS + 30 + 0 ≤ 7302250 from by omega)⟩) hW (fun r_348 L_346 h_347 H locs p_349 hW => ?_)
      obtain ⟨⟨w_351, w_352, w_353, w_354, w_355, fw_351, fw_352, fw_353, fw_354, fw_355, hr_350⟩, hT, hs⟩ := p_349
      replace hT : hx_T T_tb L_346 h_347 := hT
      replace hs : hx_S T_tb [(10, 36), (72, 0), (73, 0), (74, 0), (75, 0), (76, 0), (77, 0), (78, 0), (79, 0), (81, 0), (82, 0), (83, 0), (84, 0), (85, 0), (87, 0)] L_322 h_323 L_346 h_347 := hs
      replace f_qa := (hs.o gx trivial rfl).2.trans f_qa
      replace f_qp := (hs.o gx trivial rfl).2.trans f_qp
      replace f_qc := (hs.o gx trivial rfl).2.trans f_qc
      replace f_qh := (hs.o gx trivial rfl).2.trans f_qh
      replace f_qw := (hs.o gx trivial rfl).2.trans f_qw
      replace f_ql := (hs.o g_qw trivial rfl).2.trans f_ql
      replace f_m_now := (hs.o gm trivial rfl).1.trans f_m_now
      replace f_m_persons := (hs.o gm trivial rfl).1.trans f_m_persons
      replace f_m_lines := (hs.o gm trivial rfl).1.trans f_m_lines
      replace f_m_listed := (hs.o gm trivial rfl).1.trans f_m_listed
      replace f_m_walkedMany := (hs.o gm trivial rfl).1.trans f_m_walkedMany
      replace f_m_acts := (hs.o gm trivial rfl).1.trans f_m_acts
      replace f_m_heardMany := (hs.o gm trivial rfl).1.trans f_m_heardMany
      replace f_x_now := (hs.o gx trivial rfl).1.trans f_x_now
      replace f_x_personCount := (hs.o gx trivial rfl).1.trans f_x_personCount
      replace f_mw := (hs.o gm trivial rfl).2.trans f_mw
      replace f_mr := (hs.o gm trivial rfl).2.trans f_mr
      replace f_mp := (hs.o gm trivial rfl).2.trans f_mp
      replace f_mn := (hs.o gm trivial rfl).2.trans f_mn
      replace f_ml := (hs.o gm trivial rfl).2.trans f_ml
      replace f_mh := (hs.o gm trivial rfl).2.trans f_mh
      replace f_mt := (hs.o gm trivial rfl).2.trans f_mt
      replace f_m_fou := (hs.o gm trivial rfl).2.trans f_m_fou
      replace f_qo_ln := (hs.o gx trivial rfl).2.trans f_qo_ln
      replace f_o_ln := (hs.o g_qo_ln trivial rfl).1.trans f_o_ln
      replace f_o_lsd := (hs.o g_qw trivial rfl).1.trans f_o_lsd
      replace f_o_wkm := (hs.o g_qw trivial rfl).1.trans f_o_wkm
      replace f_b_of := (hs.o g_qo_ln trivial rfl).2.trans f_b_of
      replace f_m_of := (hs.o gm trivial rfl).2.trans f_m_of
      replace f_b_wf := (hs.o g_qo_ln trivial rfl).2.trans f_b_wf
      replace f_m_wf := (hs.o gm trivial rfl).2.trans f_m_wf
      replace f_b_df := (hs.o g_qo_ln trivial rfl).2.trans f_b_df
      replace f_m_df := (hs.o gm trivial rfl).2.trans f_m_df
      replace f_b_kf := (hs.o g_qo_ln trivial rfl).2.trans f_b_kf
      replace f_m_kf := (hs.o gm trivial rfl).2.trans f_m_kf
      replace f_b_sf := (hs.o g_qo_ln trivial rfl).2.trans f_b_sf
      replace f_m_sf := (hs.o gm trivial rfl).2.trans f_m_sf
      replace f_b_bf := (hs.o g_qo_ln trivial rfl).2.trans f_b_bf
      replace f_m_lst := (hs.o gm trivial rfl).2.trans f_m_lst
      replace f_m_dead := (hs.o gm trivial rfl).2.trans f_m_dead
      replace f_m_isj := (hs.o gm trivial rfl).2.trans f_m_isj
      replace f_m_dox := (hs.o gm trivial rfl).2.trans f_m_dox
      replace f_m_doy := (hs.o gm trivial rfl).2.trans f_m_doy
      replace f_qlt := (hs.o g_qw trivial rfl).2.trans f_qlt
      replace f_qlf := (hs.o g_qw trivial rfl).2.trans f_qlf
      replace f_m_wkd := (hs.o gm trivial rfl).2.trans f_m_wkd
      replace f_m_aga := (hs.o gm trivial rfl).2.trans f_m_aga
      replace fw_328 := (hs.o gx trivial rfl).1.trans fw_328
      replace pf_qa : ∀ j : Nat, (j : Int) < (h_347.2.1 ax 6).toInt → h_347.2.2 qa j ≠ none := by
        intro j hj; rw [(hs.o gx trivial rfl).1] at hj; rw [(hs.a g_qa rfl j).2]; exact pf_qa j hj
      replace pf_qp : ∀ j : Nat, (j : Int) < (h_347.2.1 ax 8).toInt → h_347.2.2 qp j ≠ none := by
        intro j hj; rw [(hs.o gx trivial rfl).1] at hj; rw [(hs.a g_qp rfl j).2]; exact pf_qp j hj
      replace pf_qh : ∀ j : Nat, (j : Int) < (h_347.2.1 ax 13).toInt → h_347.2.2 qh j ≠ none := by
        intro j hj; rw [(hs.o gx trivial rfl).1] at hj; rw [(hs.a g_qh rfl j).2]; exact pf_qh j hj
      replace pf_ql : ∀ j : Nat, (j : Int) < (h_347.2.1 qw 0).toInt → h_347.2.2 ql j ≠ none := by
        intro j hj; rw [(hs.o g_qw trivial rfl).1] at hj; rw [(hs.a g_ql rfl j).2]; exact pf_ql j hj
      replace pf_327 : ∀ j : Nat, (j : Int) < (h_347.2.1 ax 11).toInt → h_347.2.2 qc j ≠ none := by
        intro j hj; rw [(hs.o gx trivial rfl).1] at hj; rw [(hs.a g_qc rfl j).2]; exact pf_327 j hj
      replace cl_lst : hx_col 8 h_347 ql 0 = c_lst := (hx_col_S hs hTo g_ql tt_40 tt_2 rfl rfl).trans cl_lst
      replace cl_dead : hx_col 40 h_347 qp 7 = c_dead := (hx_col_S hs hTo g_qp tt_44 tt_4 rfl rfl).trans cl_dead
      replace cl_isj : hx_col 40 h_347 qp 8 = c_isj := (hx_col_S hs hTo g_qp tt_44 tt_4 rfl rfl).trans cl_isj
      replace cl_dox : hx_col 40 h_347 qp 5 = c_dox := (hx_col_S hs hTo g_qp tt_44 tt_4 rfl rfl).trans cl_dox
      replace cl_doy : hx_col 40 h_347 qp 6 = c_doy := (hx_col_S hs hTo g_qp tt_44 tt_4 rfl rfl).trans cl_doy
      replace fw_329 : hx_col 100 h_347 qc 10 = w_329 := (hx_col_S hs hTo g_qc tt_45 tt_2 rfl rfl).trans fw_329
      replace fw_330 : hx_col 100 h_347 qc 9 = w_330 := (hx_col_S hs hTo g_qc tt_45 tt_2 rfl rfl).trans fw_330
      replace nu_qp : hx_num 40 h_347 qp 0 (np.toInt) := hx_num_S hs hTo g_qp tt_44 tt_4 rfl rfl nu_qp
      replace nu_331 : hx_num 100 h_347 qc 0 (w_328.toInt) := hx_num_S hs hTo g_qc tt_45 tt_2 rfl rfl nu_331
      replace sb_332 : hx_LQ 8 100 h_347 ql qc := hx_LQ_S hs g_ql g_qc rfl rfl sb_332
      replace hDFN : hw_DF h_347 qc qp 2 agN w_328.toInt := hw_DF_S hs hTo g_qc g_qp tt_45 tt_2 rfl rfl rfl hDFN
      replace n_mw : h_347.2.1 mw = F_mw := (funext fun j => (hs.a g_mw rfl j).1).trans n_mw
      replace n_mr : h_347.2.1 mr = F_mr := (funext fun j => (hs.a g_mr rfl j).1).trans n_mr
      replace n_mp : h_347.2.1 mp = F_mp := (funext fun j => (hs.a g_mp rfl j).1).trans n_mp
      replace n_mn : h_347.2.1 mn = F_mn := (funext fun j => (hs.a g_mn rfl j).1).trans n_mn
      replace n_mt : h_347.2.1 mt = F_mt := (funext fun j => (hs.a g_mt rfl j).1).trans n_mt
      replace n_b_of : h_347.2.1 b_of = B_of := (funext fun j => (hs.a g_b_of rfl j).1).trans n_b_of
      replace n_m_of : h_347.2.1 m_of = F_of := (funext fun j => (hs.a g_m_of rfl j).1).trans n_m_of
      replace n_b_wf : h_347.2.1 b_wf = B_wf := (funext fun j => (hs.a g_b_wf rfl j).1).trans n_b_wf
      replace n_m_wf : h_347.2.1 m_wf = F_wf := (funext fun j => (hs.a g_m_wf rfl j).1).trans n_m_wf
      replace n_b_df : h_347.2.1 b_df = B_df := (funext fun j => (hs.a g_b_df rfl j).1).trans n_b_df
      replace n_m_df : h_347.2.1 m_df = F_df := (funext fun j => (hs.a g_m_df rfl j).1).trans n_m_df
      replace n_b_kf : h_347.2.1 b_kf = B_kf := (funext fun j => (hs.a g_b_kf rfl j).1).trans n_b_kf
      replace n_m_kf : h_347.2.1 m_kf = F_kf := (funext fun j => (hs.a g_m_kf rfl j).1).trans n_m_kf
      replace n_b_sf : h_347.2.1 b_sf = B_sf := (funext fun j => (hs.a g_b_sf rfl j).1).trans n_b_sf
      replace n_m_sf : h_347.2.1 m_sf = F_sf := (funext fun j => (hs.a g_m_sf rfl j).1).trans n_m_sf
      replace n_b_bf : h_347.2.1 b_bf = bfL := (funext fun j => (hs.a g_b_bf rfl j).1).trans n_b_bf
      replace n_lst : h_347.2.1 m_lst = F_lst := (funext fun j => (hs.a g_m_lst rfl j).1).trans n_lst
      replace n_dead : h_347.2.1 m_dead = F_dead := (funext fun j => (hs.a g_m_dead rfl j).1).trans n_dead
      replace n_isj : h_347.2.1 m_isj = F_isj := (funext fun j => (hs.a g_m_isj rfl j).1).trans n_isj
      replace n_dox : h_347.2.1 m_dox = F_dox := (funext fun j => (hs.a g_m_dox rfl j).1).trans n_dox
      replace n_doy : h_347.2.1 m_doy = F_doy := (funext fun j => (hs.a g_m_doy rfl j).1).trans n_doy
      replace n_qlt : h_347.2.1 qlt = F_qlt := (funext fun j => (hs.a g_qlt rfl j).1).trans n_qlt
      replace n_m_wkd : h_347.2.1 m_wkd = F_m_wkd := (funext fun j => (hs.a g_m_wkd rfl j).1).trans n_m_wkd
      replace gx := gx.S hs
      replace gm := gm.S hs
      replace g_qa := g_qa.S hs
      replace g_qp := g_qp.S hs
      replace g_qc := g_qc.S hs
      replace g_qh := g_qh.S hs
      replace g_qw := g_qw.S hs
      replace g_ql := g_ql.S hs
      replace g_mw := g_mw.S hs
      replace g_mr := g_mr.S hs
      replace g_mp := g_mp.S hs
      replace g_mn := g_mn.S hs
      replace g_ml := g_ml.S hs
      replace g_mh := g_mh.S hs
      replace g_mt := g_mt.S hs
      replace g_m_fou := g_m_fou.S hs
      replace g_qo_ln := g_qo_ln.S hs
      replace g_b_of := g_b_of.S hs
      replace g_m_of := g_m_of.S hs
      replace g_b_wf := g_b_wf.S hs
      replace g_m_wf := g_m_wf.S hs
      replace g_b_df := g_b_df.S hs
      replace g_m_df := g_m_df.S hs
      replace g_b_kf := g_b_kf.S hs
      replace g_m_kf := g_m_kf.S hs
      replace g_b_sf := g_b_sf.S hs
      replace g_m_sf := g_m_sf.S hs
      replace g_b_bf := g_b_bf.S hs
      replace g_m_lst := g_m_lst.S hs
      replace g_m_dead := g_m_dead.S hs
      replace g_m_isj := g_m_isj.S hs
      replace g_m_dox := g_m_dox.S hs
      replace g_m_doy := g_m_doy.S hs
      replace g_qlt := g_qlt.S hs
      replace g_qlf := g_qlf.S hs
      replace g_m_wkd := g_m_wkd.S hs
      replace g_m_aga := g_m_aga.S hs
      have fw_351 : h_347.2.1 am 36 = w_351 := fw_351
      have bw_351 := hT.gi gm tt_10 (k := 36) rfl
      rw [fw_351] at bw_351
      have bw_351 : 0 ≤ w_351.toInt ∧ w_351.toInt ≤ 100 := bw_351
      have fw_352 : h_347.2.1 mh = w_352 := fw_352
      have fw_353 : h_347.2.1 ml = w_353 := fw_353
      have fw_354 : h_347.2.1 m_fou = w_354 := fw_354
      have fw_355 : h_347.2.1 m_aga = w_355 := fw_355
      refine lv_pop hx hb dL_law_750 rfl ?_
      refine lv_goto (tgt := 1379) hx hb dL_law_751 (by decide) ?_
      obtain ⟨heq, hq_c0⟩ := hx_fk (by omega) eq_dead hr_326.1 hr_350.2.2.1
      have hq_fou := hx_cdk heq hr_326.2.1 hr_350.2.2.2.1 eq_fou
      have hq_tri := hx_cdz hr_326.2.2.1 eq_tri z_tri
      refine W.widen (k := CC + 3) (n := SS + 179) (by omega) (by omega) ?_
      exact kk L_346 h_347 H locs ls hW ⟨hT, gx, gm, ⟨f_x_now.trans f_m_now.symm, f_x_personCount.trans f_m_persons.symm, (fw_328.trans hq_c0).trans fw_351.symm, hx_ob f_qo_ln (f_o_ln.trans f_m_lines.symm), hx_ob f_qw (f_o_lsd.trans f_m_listed.symm), hx_ob f_qw (f_o_wkm.trans f_m_walkedMany.symm), hx_ob f_qp (by rw [f_x_personCount]; exact nu_qp), hx_ob f_qc (by rw [fw_328]; exact nu_331), (fun b a r hb ha hr => by obtain rfl : qo_ln = b := Option.some.inj (f_qo_ln.symm.trans hb); obtain rfl : b_of = a := Option.some.inj (f_b_of.symm.trans ha); obtain rfl : m_of = r := Option.some.inj (f_m_of.symm.trans hr); rw [n_b_of, n_m_of, f_o_ln]; exact eb_of), (fun b a r hb ha hr => by obtain rfl : qo_ln = b := Option.some.inj (f_qo_ln.symm.trans hb); obtain rfl : b_wf = a := Option.some.inj (f_b_wf.symm.trans ha); obtain rfl : m_wf = r := Option.some.inj (f_m_wf.symm.trans hr); rw [n_b_wf, n_m_wf, f_o_ln]; exact eb_wf), (fun b a r hb ha hr => by obtain rfl : qo_ln = b := Option.some.inj (f_qo_ln.symm.trans hb); obtain rfl : b_df = a := Option.some.inj (f_b_df.symm.trans ha); obtain rfl : m_df = r := Option.some.inj (f_m_df.symm.trans hr); rw [n_b_df, n_m_df, f_o_ln]; exact eb_df), (fun b a r hb ha hr => by obtain rfl : qo_ln = b := Option.some.inj (f_qo_ln.symm.trans hb); obtain rfl : b_kf = a := Option.some.inj (f_b_kf.symm.trans ha); obtain rfl : m_kf = r := Option.some.inj (f_m_kf.symm.trans hr); rw [n_b_kf, n_m_kf, f_o_ln]; exact eb_kf), (fun b a r hb ha hr => by obtain rfl : qo_ln = b := Option.some.inj (f_qo_ln.symm.trans hb); obtain rfl : b_sf = a := Option.some.inj (f_b_sf.symm.trans ha); obtain rfl : m_sf = r := Option.some.inj (f_m_sf.symm.trans hr); rw [n_b_sf, n_m_sf, f_o_ln]; exact eb_sf), (fun b a r hb ha hr => by obtain rfl : qo_ln = b := Option.some.inj (f_qo_ln.symm.trans hb); obtain rfl : b_df = a := Option.some.inj (f_b_df.symm.trans ha); obtain rfl : b_bf = r := Option.some.inj (f_b_bf.symm.trans hr); rw [n_b_df, n_b_bf, f_o_ln]; exact ⟨hBD, hDY⟩), (fun w q c hw hq hc => by obtain rfl : qw = w := Option.some.inj (f_qw.symm.trans hw); obtain rfl : ql = q := Option.some.inj (f_ql.symm.trans hq); obtain rfl : qc = c := Option.some.inj (f_qc.symm.trans hc); exact sb_332), (fun w q r hw hq hr => by obtain rfl : qw = w := Option.some.inj (f_qw.symm.trans hw); obtain rfl : ql = q := Option.some.inj (f_ql.symm.trans hq); obtain rfl : m_lst = r := Option.some.inj (f_m_lst.symm.trans hr); rw [cl_lst, n_lst]; exact eq_lst), (fun w q r hw hq hr => by obtain rfl : qw = w := Option.some.inj (f_qw.symm.trans hw); obtain rfl : qlt = q := Option.some.inj (f_qlt.symm.trans hq); obtain rfl : m_wkd = r := Option.some.inj (f_m_wkd.symm.trans hr); rw [n_qlt, n_m_wkd, f_o_wkm]; exact eb_wkd), (fun c q a hc hq ha => by obtain rfl : qc = c := Option.some.inj (f_qc.symm.trans hc); obtain rfl : qp = q := Option.some.inj (f_qp.symm.trans hq); obtain rfl : m_aga = a := Option.some.inj (f_m_aga.symm.trans ha); rw [fw_355, fw_328]; exact hw_DF_e hDFN (hw_UP_u heq hagN hr_350.2.2.2.2.2) rfl), hx_ob2 f_qp f_m_dead (by rw [cl_dead, n_dead]; exact eq_dead), hx_ob2 f_qp f_m_isj (by rw [cl_isj, n_isj]; exact eq_isj), hx_ob2 f_qp f_m_dox (by rw [cl_dox, n_dox]; exact eq_dox), hx_ob2 f_qp f_m_doy (by rw [cl_doy, n_doy]; exact eq_doy), hx_ob2 f_qc f_m_fou (by rw [fw_329, fw_354]; exact hq_fou), hx_ob2 f_qc f_mt (by rw [fw_330, n_mt]; exact hq_tri), trivial⟩, ⟨hx_ob f_qa pf_qa, hx_ob f_qp pf_qp, hx_ob f_qc pf_327, hx_ob f_qh pf_qh, (fun w q hw hq => by obtain rfl : qw = w := Option.some.inj (f_qw.symm.trans hw); obtain rfl : ql = q := Option.some.inj (f_ql.symm.trans hq); exact pf_ql)⟩, ⟨hx_ob f_mw (by rw [n_mw]; exact hwd), hx_ob f_mr (by rw [n_mr, f_m_acts]; exact hWK), hx_ob2 f_mp f_mn (by rw [n_mp, n_mn, f_m_acts]; exact hRP), hx_ob f_ml (by rw [fw_353, fw_351, f_m_acts]; exact hr_350.2.1), hx_ob f_mh (by rw [fw_352, f_m_heardMany, fw_351]; exact hr_350.1), hx_ob f_mt (by rw [n_mt]; exact (hx_TR_le hTR (by omega))), hx_ob2 f_mh f_m_fou (by rw [fw_352, fw_354, fw_351]; exact (hx_HF_f hHF (by omega) hr_350.2.2.2.2.1))⟩⟩ hl
    refine hb_if_eq (zx := x_318.toInt) (tgt := 740) hx hb rfl dL_law_733 (by decide) (fun c_356 => ?_) (fun c_356 => ?_)
    · skip
      refine lv_iconst (v := 0) hx hb dL_law_740 (by decide) ?_
      have zj_741 : (0 : Int32).toInt = 0 := by decide
      exact jn_741 (0 : Int32) ls (by decide) (by decide) (by omega) hl
    · skip
      refine lv_iconst (v := 1) hx hb dL_law_736 (by decide) ?_
      refine lv_goto (tgt := 741) hx hb dL_law_737 (by decide) ?_
      have zj_741 : (1 : Int32).toInt = 1 := by decide
      exact jn_741 (1 : Int32) ls (by decide) (by decide) (by omega) hl
  refine hb_if_eq (zx := x_318.toInt) (tgt := 696) hx hb rfl dL_law_689 (by decide) (fun c_357 => ?_) (fun c_357 => ?_)
  · skip
    refine lv_iconst (v := 0) hx hb dL_law_696 (by decide) ?_
    have zj_697 : (0 : Int32).toInt = 0 := by decide
    exact jn_697 (0 : Int32) ls (by decide) (by decide) (by omega) hl
  · skip
    refine lv_iconst (v := 1) hx hb dL_law_692 (by decide) ?_
    refine lv_goto (tgt := 697) hx hb dL_law_693 (by decide) ?_
    have zj_697 : (1 : Int32).toInt = 1 := by decide
    exact jn_697 (1 : Int32) ls (by decide) (by decide) (by omega) hl

set_option maxHeartbeats 4000000 in
set_option maxRecDepth 100000 in
theorem law_case_12 {p : Program} {e : Env} {s : State} {m : MethodId} {below : List Frame} {meth : Method} {c : Code} (l : Launch) {b LN : Nat} {xs : Nat → Int32} (hx : p.tables.exec = Jvm.exec) (hb : c.code = code) (hr : meth.sig.returnType = ret) (hlocks : meth.locks = false) (hml : c.maxLocals = 4) (hown : s.vm.findClass "SmallCourtLaw" = some m.cls) (hts : ∀ w ∈ hx_all, w.before #[Value.ref b] s = true) (hX : va_X b LN xs s s.heap) (hbl : b < s.heap.size) (hbA : ¬ s.heap.size ≤ b) (hLN : LN ≤ 3584) (dC : Nat → ClassId) (dI : Nat → Nat → Nat) (dA : Nat → ClassId) (b0 : hx_z) (ax am : Nat) (T1 : Int) (hT0 : 0 ≤ T1) (hT1 : T1 ≤ 511) (i : Int32) (hi0 : 0 ≤ i.toInt) (hiL : i.toInt + 7 ≤ LN) (CC SS : Nat) (hCC : CC + 3 ≤ 600000) (hSS : SS + 179 ≤ 7302250) (L1 : List Nat) (hl1 : hx_h) (H : Heap) (locs : List Loc) (ls : Array Slot) (hW : hx_W T_tb (P_ty dA) (dC, dI) vwCl (fun q : Nat => s.heap.size ≤ q) s.heap L1 hl1 s H locs) (hZ : hx_Xt (fun q : Nat => s.heap.size ≤ q) b0 s) (hI : hx_IV T1 ax am L1 hl1) (hl : lv_has ls 4 [(3, .int i), (2, .ref am), (1, .ref ax), (0, .ref b)]) (kk : ∀ (L2 : List Nat) (h2 : hx_h) (H2 : Heap) (locs2 : List Loc) (ls2 : Array Slot), hx_W T_tb (P_ty dA) (dC, dI) vwCl (fun q : Nat => s.heap.size ≤ q) s.heap L2 h2 s H2 locs2 → hx_IV (T1 + 1) ax am L2 h2 → lv_has ls2 4 [(3, .int i), (2, .ref am), (1, .ref ax), (0, .ref b)] → W p l e room_1 s m #[Value.ref b] below meth c H2 locs2 (CC + 3) (SS + 179) (lw_Z below #[Value.ref b] s) (F0 m 1379 ls2 [])) : W p l e room_1 s m #[Value.ref b] below meth c H locs CC SS (lw_Z below #[Value.ref b] s) (F0 m 754 ls []) := by
  obtain ⟨hT, gx, gm, ⟨he_nw, he_np, he_c0, ho_ln, ho_lsd, ho_wkm, hn_qp, hn_qc, hk_of, hk_wf, hk_df, hk_kf, hk_sf, hkBD, hLQ, hLE, hkWD, hkDF, hc_dead, hc_isj, hc_dox, hc_doy, hc_fou, hc_tri, -⟩, ⟨ia, ip, ic, ih, il⟩, ⟨jw, jr, jp, jl, jh, jt, jf⟩⟩ := hI
  obtain ⟨qa, f_qa, g_qa⟩ := hx_rf hT gx tt_9 (k := 5) (u := 43) rfl
  have pf_qa := ia qa f_qa
  obtain ⟨qp, f_qp, g_qp⟩ := hx_rf hT gx tt_9 (k := 7) (u := 44) rfl
  have pf_qp := ip qp f_qp
  obtain ⟨qc, f_qc, g_qc⟩ := hx_rf hT gx tt_9 (k := 10) (u := 45) rfl
  have pf_qc := ic qc f_qc
  obtain ⟨qh, f_qh, g_qh⟩ := hx_rf hT gx tt_9 (k := 12) (u := 46) rfl
  have pf_qh := ih qh f_qh
  obtain ⟨qw, f_qw, g_qw⟩ := hx_rf hT gx tt_9 (k := 19) (u := 8) rfl
  obtain ⟨ql, f_ql, g_ql⟩ := hx_rf hT g_qw tt_8 (k := 3) (u := 40) rfl
  have pf_ql := il qw ql f_qw f_ql
  obtain ⟨nw, f_m_now⟩ : ∃ y : Int32, hl1.2.1 am 0 = y := ⟨_, rfl⟩
  have b_nw := hT.gi gm tt_10 (k := 0) rfl
  rw [f_m_now] at b_nw
  have b_nw : 0 ≤ nw.toInt ∧ nw.toInt ≤ 7999 := b_nw
  obtain ⟨np, f_m_persons⟩ : ∃ y : Int32, hl1.2.1 am 20 = y := ⟨_, rfl⟩
  have b_np := hT.gi gm tt_10 (k := 20) rfl
  rw [f_m_persons] at b_np
  have b_np : 0 ≤ np.toInt ∧ np.toInt ≤ 40 := b_np
  obtain ⟨c0, f_m_claims⟩ : ∃ y : Int32, hl1.2.1 am 36 = y := ⟨_, rfl⟩
  have b_c0 := hT.gi gm tt_10 (k := 36) rfl
  rw [f_m_claims] at b_c0
  have b_c0 : 0 ≤ c0.toInt ∧ c0.toInt ≤ 100 := b_c0
  obtain ⟨ln, f_m_lines⟩ : ∃ y : Int32, hl1.2.1 am 29 = y := ⟨_, rfl⟩
  have b_ln := hT.gi gm tt_10 (k := 29) rfl
  rw [f_m_lines] at b_ln
  have b_ln : 0 ≤ ln.toInt ∧ ln.toInt ≤ 400 := b_ln
  obtain ⟨lsd, f_m_listed⟩ : ∃ y : Int32, hl1.2.1 am 90 = y := ⟨_, rfl⟩
  have b_lsd := hT.gi gm tt_10 (k := 90) rfl
  rw [f_m_listed] at b_lsd
  have b_lsd : 0 ≤ lsd.toInt ∧ lsd.toInt ≤ 8 := b_lsd
  obtain ⟨wkm, f_m_walkedMany⟩ : ∃ y : Int32, hl1.2.1 am 92 = y := ⟨_, rfl⟩
  have b_wkm := hT.gi gm tt_10 (k := 92) rfl
  rw [f_m_walkedMany] at b_wkm
  have b_wkm : 0 ≤ wkm.toInt ∧ wkm.toInt ≤ 8 := b_wkm
  obtain ⟨a0, f_m_acts⟩ : ∃ y : Int32, hl1.2.1 am 1 = y := ⟨_, rfl⟩
  have b_a0 := hT.gi gm tt_10 (k := 1) rfl
  rw [f_m_acts] at b_a0
  have b_a0 : 0 ≤ a0.toInt ∧ a0.toInt ≤ 8 := b_a0
  obtain ⟨m0, f_m_heardMany⟩ : ∃ y : Int32, hl1.2.1 am 57 = y := ⟨_, rfl⟩
  have b_m0 := hT.gi gm tt_10 (k := 57) rfl
  rw [f_m_heardMany] at b_m0
  have b_m0 : 0 ≤ m0.toInt ∧ m0.toInt ≤ 100 := b_m0
  have f_x_now : hl1.2.1 ax 2 = nw := he_nw.trans f_m_now
  have f_x_personCount : hl1.2.1 ax 8 = np := he_np.trans f_m_persons
  have f_x_claimCount : hl1.2.1 ax 11 = c0 := he_c0.trans f_m_claims
  obtain ⟨mw, f_mw, g_mw⟩ := hx_rf hT gm tt_10 (k := 19) (u := 57) rfl
  obtain ⟨F_mw, n_mw⟩ : ∃ g : Nat → Int32, hl1.2.1 mw = g := ⟨_, rfl⟩
  obtain ⟨mr, f_mr, g_mr⟩ := hx_rf hT gm tt_10 (k := 3) (u := 50) rfl
  obtain ⟨F_mr, n_mr⟩ : ∃ g : Nat → Int32, hl1.2.1 mr = g := ⟨_, rfl⟩
  obtain ⟨mp, f_mp, g_mp⟩ := hx_rf hT gm tt_10 (k := 5) (u := 52) rfl
  obtain ⟨F_mp, n_mp⟩ : ∃ g : Nat → Int32, hl1.2.1 mp = g := ⟨_, rfl⟩
  obtain ⟨mn, f_mn, g_mn⟩ := hx_rf hT gm tt_10 (k := 4) (u := 51) rfl
  obtain ⟨F_mn, n_mn⟩ : ∃ g : Nat → Int32, hl1.2.1 mn = g := ⟨_, rfl⟩
  obtain ⟨ml, f_ml, g_ml⟩ := hx_rf hT gm tt_10 (k := 44) (u := 79) rfl
  obtain ⟨F_ml, n_ml⟩ : ∃ g : Nat → Int32, hl1.2.1 ml = g := ⟨_, rfl⟩
  obtain ⟨mh, f_mh, g_mh⟩ := hx_rf hT gm tt_10 (k := 47) (u := 82) rfl
  obtain ⟨F_mh, n_mh⟩ : ∃ g : Nat → Int32, hl1.2.1 mh = g := ⟨_, rfl⟩
  obtain ⟨mt, f_mt, g_mt⟩ := hx_rf hT gm tt_10 (k := 45) (u := 80) rfl
  obtain ⟨F_mt, n_mt⟩ : ∃ g : Nat → Int32, hl1.2.1 mt = g := ⟨_, rfl⟩
  obtain ⟨m_fou, f_m_fou, g_m_fou⟩ := hx_rf hT gm tt_10 (k := 46) (u := 81) rfl
  obtain ⟨F_m_fou, n_m_fou⟩ : ∃ g : Nat → Int32, hl1.2.1 m_fou = g := ⟨_, rfl⟩
  obtain ⟨qo_ln, f_qo_ln, g_qo_ln⟩ := hx_rf hT gx tt_9 (k := 9) (u := 1) rfl
  have f_o_ln : hl1.2.1 qo_ln 0 = ln := (ho_ln qo_ln f_qo_ln).trans f_m_lines
  have f_o_lsd : hl1.2.1 qw 0 = lsd := (ho_lsd qw f_qw).trans f_m_listed
  have f_o_wkm : hl1.2.1 qw 1 = wkm := (ho_wkm qw f_qw).trans f_m_walkedMany
  have nu_qp := hn_qp qp f_qp; rw [f_x_personCount] at nu_qp
  have nu_qc := hn_qc qc f_qc; rw [f_x_claimCount] at nu_qc
  obtain ⟨b_of, f_b_of, g_b_of⟩ := hx_rf hT g_qo_ln tt_1 (k := 1) (u := 13) rfl
  obtain ⟨B_of, n_b_of⟩ : ∃ g : Nat → Int32, hl1.2.1 b_of = g := ⟨_, rfl⟩
  obtain ⟨m_of, f_m_of, g_m_of⟩ := hx_rf hT gm tt_10 (k := 30) (u := 66) rfl
  obtain ⟨F_of, n_m_of⟩ : ∃ g : Nat → Int32, hl1.2.1 m_of = g := ⟨_, rfl⟩
  have eb_of := hk_of qo_ln b_of m_of f_qo_ln f_b_of f_m_of; rw [n_b_of, n_m_of, f_o_ln] at eb_of
  obtain ⟨b_wf, f_b_wf, g_b_wf⟩ := hx_rf hT g_qo_ln tt_1 (k := 2) (u := 14) rfl
  obtain ⟨B_wf, n_b_wf⟩ : ∃ g : Nat → Int32, hl1.2.1 b_wf = g := ⟨_, rfl⟩
  obtain ⟨m_wf, f_m_wf, g_m_wf⟩ := hx_rf hT gm tt_10 (k := 31) (u := 67) rfl
  obtain ⟨F_wf, n_m_wf⟩ : ∃ g : Nat → Int32, hl1.2.1 m_wf = g := ⟨_, rfl⟩
  have eb_wf := hk_wf qo_ln b_wf m_wf f_qo_ln f_b_wf f_m_wf; rw [n_b_wf, n_m_wf, f_o_ln] at eb_wf
  obtain ⟨b_df, f_b_df, g_b_df⟩ := hx_rf hT g_qo_ln tt_1 (k := 3) (u := 15) rfl
  obtain ⟨B_df, n_b_df⟩ : ∃ g : Nat → Int32, hl1.2.1 b_df = g := ⟨_, rfl⟩
  obtain ⟨m_df, f_m_df, g_m_df⟩ := hx_rf hT gm tt_10 (k := 32) (u := 68) rfl
  obtain ⟨F_df, n_m_df⟩ : ∃ g : Nat → Int32, hl1.2.1 m_df = g := ⟨_, rfl⟩
  have eb_df := hk_df qo_ln b_df m_df f_qo_ln f_b_df f_m_df; rw [n_b_df, n_m_df, f_o_ln] at eb_df
  obtain ⟨b_kf, f_b_kf, g_b_kf⟩ := hx_rf hT g_qo_ln tt_1 (k := 4) (u := 16) rfl
  obtain ⟨B_kf, n_b_kf⟩ : ∃ g : Nat → Int32, hl1.2.1 b_kf = g := ⟨_, rfl⟩
  obtain ⟨m_kf, f_m_kf, g_m_kf⟩ := hx_rf hT gm tt_10 (k := 33) (u := 69) rfl
  obtain ⟨F_kf, n_m_kf⟩ : ∃ g : Nat → Int32, hl1.2.1 m_kf = g := ⟨_, rfl⟩
  have eb_kf := hk_kf qo_ln b_kf m_kf f_qo_ln f_b_kf f_m_kf; rw [n_b_kf, n_m_kf, f_o_ln] at eb_kf
  obtain ⟨b_sf, f_b_sf, g_b_sf⟩ := hx_rf hT g_qo_ln tt_1 (k := 5) (u := 17) rfl
  obtain ⟨B_sf, n_b_sf⟩ : ∃ g : Nat → Int32, hl1.2.1 b_sf = g := ⟨_, rfl⟩
  obtain ⟨m_sf, f_m_sf, g_m_sf⟩ := hx_rf hT gm tt_10 (k := 34) (u := 70) rfl
  obtain ⟨F_sf, n_m_sf⟩ : ∃ g : Nat → Int32, hl1.2.1 m_sf = g := ⟨_, rfl⟩
  have eb_sf := hk_sf qo_ln b_sf m_sf f_qo_ln f_b_sf f_m_sf; rw [n_b_sf, n_m_sf, f_o_ln] at eb_sf
  obtain ⟨b_bf, f_b_bf, g_b_bf⟩ := hx_rf hT g_qo_ln tt_1 (k := 6) (u := 18) rfl
  obtain ⟨bfL, n_b_bf⟩ : ∃ g : Nat → Int32, hl1.2.1 b_bf = g := ⟨_, rfl⟩
  obtain ⟨hBD, hDY⟩ := hkBD qo_ln b_df b_bf f_qo_ln f_b_df f_b_bf; rw [n_b_df, n_b_bf, f_o_ln] at hBD; rw [n_b_df, f_o_ln] at hDY
  have hBDm := hy_BD_c eb_df hBD
  have hDYm : hy_DY F_df ln.toInt.toNat := fun x hx => by rw [← eb_df x hx]; exact hDY x hx
  have sb_list := hLQ qw ql qc f_qw f_ql f_qc
  obtain ⟨m_lst, f_m_lst, g_m_lst⟩ := hx_rf hT gm tt_10 (k := 91) (u := 112) rfl
  obtain ⟨F_lst, n_lst⟩ : ∃ g : Nat → Int32, hl1.2.1 m_lst = g := ⟨_, rfl⟩
  obtain ⟨c_lst, cl_lst⟩ : ∃ g : Nat → Int32, hx_col 8 hl1 ql 0 = g := ⟨_, rfl⟩
  have eq_lst := hLE qw ql m_lst f_qw f_ql f_m_lst; rw [cl_lst, n_lst] at eq_lst
  obtain ⟨c_dead, cl_dead⟩ : ∃ g : Nat → Int32, hx_col 40 hl1 qp 7 = g := ⟨_, rfl⟩
  obtain ⟨m_dead, f_m_dead, g_m_dead⟩ := hx_rf hT gm tt_10 (k := 27) (u := 64) rfl
  obtain ⟨F_dead, n_dead⟩ : ∃ g : Nat → Int32, hl1.2.1 m_dead = g := ⟨_, rfl⟩
  have eq_dead := hc_dead qp m_dead f_qp f_m_dead; rw [cl_dead, n_dead] at eq_dead
  have z_dead : np.toInt.toNat < 40 → c_dead np.toInt.toNat = 0 := fun hj => hx_num_z nu_qp cl_dead hj (by omega)
  obtain ⟨c_isj, cl_isj⟩ : ∃ g : Nat → Int32, hx_col 40 hl1 qp 8 = g := ⟨_, rfl⟩
  obtain ⟨m_isj, f_m_isj, g_m_isj⟩ := hx_rf hT gm tt_10 (k := 28) (u := 65) rfl
  obtain ⟨F_isj, n_isj⟩ : ∃ g : Nat → Int32, hl1.2.1 m_isj = g := ⟨_, rfl⟩
  have eq_isj := hc_isj qp m_isj f_qp f_m_isj; rw [cl_isj, n_isj] at eq_isj
  have z_isj : np.toInt.toNat < 40 → c_isj np.toInt.toNat = 0 := fun hj => hx_num_z nu_qp cl_isj hj (by omega)
  obtain ⟨c_dox, cl_dox⟩ : ∃ g : Nat → Int32, hx_col 40 hl1 qp 5 = g := ⟨_, rfl⟩
  obtain ⟨m_dox, f_m_dox, g_m_dox⟩ := hx_rf hT gm tt_10 (k := 24) (u := 61) rfl
  obtain ⟨F_dox, n_dox⟩ : ∃ g : Nat → Int32, hl1.2.1 m_dox = g := ⟨_, rfl⟩
  have eq_dox := hc_dox qp m_dox f_qp f_m_dox; rw [cl_dox, n_dox] at eq_dox
  have z_dox : np.toInt.toNat < 40 → c_dox np.toInt.toNat = 0 := fun hj => hx_num_z nu_qp cl_dox hj (by omega)
  obtain ⟨c_doy, cl_doy⟩ : ∃ g : Nat → Int32, hx_col 40 hl1 qp 6 = g := ⟨_, rfl⟩
  obtain ⟨m_doy, f_m_doy, g_m_doy⟩ := hx_rf hT gm tt_10 (k := 25) (u := 62) rfl
  obtain ⟨F_doy, n_doy⟩ : ∃ g : Nat → Int32, hl1.2.1 m_doy = g := ⟨_, rfl⟩
  have eq_doy := hc_doy qp m_doy f_qp f_m_doy; rw [cl_doy, n_doy] at eq_doy
  have z_doy : np.toInt.toNat < 40 → c_doy np.toInt.toNat = 0 := fun hj => hx_num_z nu_qp cl_doy hj (by omega)
  obtain ⟨c_fou, cl_fou⟩ : ∃ g : Nat → Int32, hx_col 100 hl1 qc 10 = g := ⟨_, rfl⟩
  have eq_fou := hc_fou qc m_fou f_qc f_m_fou; rw [cl_fou, n_m_fou] at eq_fou
  have z_fou : c0.toInt.toNat < 100 → c_fou c0.toInt.toNat = 0 := fun hj => hx_num_z nu_qc cl_fou hj (by omega)
  obtain ⟨c_tri, cl_tri⟩ : ∃ g : Nat → Int32, hx_col 100 hl1 qc 9 = g := ⟨_, rfl⟩
  have eq_tri := hc_tri qc mt f_qc f_mt; rw [cl_tri, n_mt] at eq_tri
  have z_tri : c0.toInt.toNat < 100 → c_tri c0.toInt.toNat = 0 := fun hj => hx_num_z nu_qc cl_tri hj (by omega)
  obtain ⟨qlt, f_qlt, g_qlt⟩ := hx_rf hT g_qw tt_8 (k := 2) (u := 39) rfl
  obtain ⟨qlf, f_qlf, g_qlf⟩ := hx_rf hT g_qw tt_8 (k := 4) (u := 41) rfl
  obtain ⟨m_wkd, f_m_wkd, g_m_wkd⟩ := hx_rf hT gm tt_10 (k := 93) (u := 113) rfl
  obtain ⟨F_qlt, n_qlt⟩ : ∃ g : Nat → Int32, hl1.2.1 qlt = g := ⟨_, rfl⟩
  obtain ⟨F_m_wkd, n_m_wkd⟩ : ∃ g : Nat → Int32, hl1.2.1 m_wkd = g := ⟨_, rfl⟩
  have eb_wkd := hkWD qw qlt m_wkd f_qw f_qlt f_m_wkd; rw [n_qlt, n_m_wkd, f_o_wkm] at eb_wkd
  obtain ⟨m_aga, f_m_aga, g_m_aga⟩ := hx_rf hT gm tt_10 (k := 38) (u := 73) rfl
  obtain ⟨F_aga, n_aga⟩ : ∃ g : Nat → Int32, hl1.2.1 m_aga = g := ⟨_, rfl⟩
  have hDF := hkDF qc qp m_aga f_qc f_qp f_m_aga; rw [n_aga, f_x_claimCount] at hDF
  have hwd := jw mw f_mw; rw [n_mw] at hwd
  have hWK := jr mr f_mr; rw [n_mr, f_m_acts] at hWK
  have hRP := jp mp mn f_mp f_mn; rw [n_mp, n_mn, f_m_acts] at hRP
  have hPL := jl ml f_ml; rw [n_ml, f_m_claims, f_m_acts] at hPL
  have hHC := jh mh f_mh; rw [n_mh, f_m_heardMany, f_m_claims] at hHC
  have hTR := jt mt f_mt; rw [n_mt] at hTR
  have hHF := jf mh m_fou f_mh f_m_fou; rw [n_mh, n_m_fou, f_m_claims] at hHF
  refine lv_aload_n hx hb dL_law_754 rfl (lv_at hl 2 rfl) ?_
  refine lv_aload_n hx hb dL_law_755 rfl (lv_at hl 3 rfl) ?_
  refine lv_iload_n hx hb dL_law_756 rfl (lv_at hl 0 rfl) ?_
  refine lv_iconst (v := 1) hx hb dL_law_757 (by decide) ?_
  refine lv_iadd hx hb dL_law_758 ?_
  have rg_358 := i32_r i
  refine lv_topi (fun x_359 ex_359 => ?_)
  have zx_359 : x_359.toInt = i.toInt + 1 := by rw [ex_359]; exact i32_add rfl (by decide) (by omega) (by omega)
  refine va_sld hx hb hX hbl hbA hW.2.2.2.1 (vp_in_iff.mpr ⟨by omega, by omega⟩) dL_law_759 ?_
  refine lv_topi (fun x_360 ex_360 => ?_)
  refine lv_aload_n hx hb dL_law_760 rfl (lv_at hl 3 rfl) ?_
  refine lv_iload_n hx hb dL_law_761 rfl (lv_at hl 0 rfl) ?_
  refine lv_iconst (v := 2) hx hb dL_law_762 (by decide) ?_
  refine lv_iadd hx hb dL_law_763 ?_
  refine lv_topi (fun x_361 ex_361 => ?_)
  have zx_361 : x_361.toInt = i.toInt + 2 := by rw [ex_361]; exact i32_add rfl (by decide) (by omega) (by omega)
  refine va_sld hx hb hX hbl hbA hW.2.2.2.1 (vp_in_iff.mpr ⟨by omega, by omega⟩) dL_law_764 ?_
  refine lv_topi (fun x_362 ex_362 => ?_)
  have jn_773 : ∀ (xj_363 : Int32) (ls : Array Slot), 0 ≤ xj_363.toInt → xj_363.toInt ≤ 1 → (x_362.toInt = 0 ∧ xj_363.toInt = 0) ∨ (x_362.toInt ≠ 0 ∧ xj_363.toInt = 1) → lv_has ls 4 [(3, .int i), (2, .ref am), (1, .ref ax), (0, .ref b)] → W p l e room_1 s m #[Value.ref b] below meth c H locs (CC) (SS) (lw_Z below #[Value.ref b] s) (F0 m 773 ls [.int xj_363, .int x_360, .ref ax]) := by
    intro xj_363 ls blxj_363 buxj_363 jcxj_363 hl
    have hTo := hT
    refine hx_goi (hx_runV (As := [.int x_360, .int xj_363]) (rest := []) ⟨hx, hb, hml, hown, hts⟩ hW gx tt_9 (T := TX9) (N := 20) rfl (t_X9_summons_2 l dC dI dA L1 hl1 H.size ax x_360 xj_363 hT gx c0 f_x_claimCount nw f_x_now qc g_qc f_qc pf_qc c_fou cl_fou c_tri cl_tri nu_qc) (cwV 2 hts (hx_gV kw_806 kw_803 kw_804 kw_805 kw_94) rfl rfl rfl (by decide +kernel) ⟨Nat.le_of_ble_eq_true rfl, Nat.le_of_ble_eq_true rfl⟩) rfl hl.1 rfl (Nat.le_of_ble_eq_true rfl) dL_law_773 ⟨(show CC + 0 ≤ 600000 from by omega), (show SS + 0 ≤ 7302250 from by omega)⟩) hW (fun r_366 L_364 h_365 H locs p_367 hW => ?_)
    obtain ⟨⟨w_369, w_370, fw_369, fw_370, hr_368⟩, hT, hs⟩ := p_367
    replace hT : hx_T T_tb L_364 h_365 := hT
    replace hs : hx_S T_tb [(2, 9), (2, 10)] L1 hl1 L_364 h_365 := hs
    replace f_qa := (hs.o gx trivial rfl).2.trans f_qa
    replace f_qp := (hs.o gx trivial rfl).2.trans f_qp
    replace f_qc := (hs.o gx trivial rfl).2.trans f_qc
    replace f_qh := (hs.o gx trivial rfl).2.trans f_qh
    replace f_qw := (hs.o gx trivial rfl).2.trans f_qw
    replace f_ql := (hs.o g_qw trivial rfl).2.trans f_ql
    replace f_m_now := (hs.o gm trivial rfl).1.trans f_m_now
    replace f_m_persons := (hs.o gm trivial rfl).1.trans f_m_persons
    replace f_m_claims := (hs.o gm trivial rfl).1.trans f_m_claims
    replace f_m_lines := (hs.o gm trivial rfl).1.trans f_m_lines
    replace f_m_listed := (hs.o gm trivial rfl).1.trans f_m_listed
    replace f_m_walkedMany := (hs.o gm trivial rfl).1.trans f_m_walkedMany
    replace f_m_acts := (hs.o gm trivial rfl).1.trans f_m_acts
    replace f_m_heardMany := (hs.o gm trivial rfl).1.trans f_m_heardMany
    replace f_x_now := (hs.o gx trivial rfl).1.trans f_x_now
    replace f_x_personCount := (hs.o gx trivial rfl).1.trans f_x_personCount
    replace f_x_claimCount := (hs.o gx trivial rfl).1.trans f_x_claimCount
    replace f_mw := (hs.o gm trivial rfl).2.trans f_mw
    replace f_mr := (hs.o gm trivial rfl).2.trans f_mr
    replace f_mp := (hs.o gm trivial rfl).2.trans f_mp
    replace f_mn := (hs.o gm trivial rfl).2.trans f_mn
    replace f_ml := (hs.o gm trivial rfl).2.trans f_ml
    replace f_mh := (hs.o gm trivial rfl).2.trans f_mh
    replace f_mt := (hs.o gm trivial rfl).2.trans f_mt
    replace f_m_fou := (hs.o gm trivial rfl).2.trans f_m_fou
    replace f_qo_ln := (hs.o gx trivial rfl).2.trans f_qo_ln
    replace f_o_ln := (hs.o g_qo_ln trivial rfl).1.trans f_o_ln
    replace f_o_lsd := (hs.o g_qw trivial rfl).1.trans f_o_lsd
    replace f_o_wkm := (hs.o g_qw trivial rfl).1.trans f_o_wkm
    replace f_b_of := (hs.o g_qo_ln trivial rfl).2.trans f_b_of
    replace f_m_of := (hs.o gm trivial rfl).2.trans f_m_of
    replace f_b_wf := (hs.o g_qo_ln trivial rfl).2.trans f_b_wf
    replace f_m_wf := (hs.o gm trivial rfl).2.trans f_m_wf
    replace f_b_df := (hs.o g_qo_ln trivial rfl).2.trans f_b_df
    replace f_m_df := (hs.o gm trivial rfl).2.trans f_m_df
    replace f_b_kf := (hs.o g_qo_ln trivial rfl).2.trans f_b_kf
    replace f_m_kf := (hs.o gm trivial rfl).2.trans f_m_kf
    replace f_b_sf := (hs.o g_qo_ln trivial rfl).2.trans f_b_sf
    replace f_m_sf := (hs.o gm trivial rfl).2.trans f_m_sf
    replace f_b_bf := (hs.o g_qo_ln trivial rfl).2.trans f_b_bf
    replace f_m_lst := (hs.o gm trivial rfl).2.trans f_m_lst
    replace f_m_dead := (hs.o gm trivial rfl).2.trans f_m_dead
    replace f_m_isj := (hs.o gm trivial rfl).2.trans f_m_isj
    replace f_m_dox := (hs.o gm trivial rfl).2.trans f_m_dox
    replace f_m_doy := (hs.o gm trivial rfl).2.trans f_m_doy
    replace f_qlt := (hs.o g_qw trivial rfl).2.trans f_qlt
    replace f_qlf := (hs.o g_qw trivial rfl).2.trans f_qlf
    replace f_m_wkd := (hs.o gm trivial rfl).2.trans f_m_wkd
    replace f_m_aga := (hs.o gm trivial rfl).2.trans f_m_aga
    replace pf_qa : ∀ j : Nat, (j : Int) < (h_365.2.1 ax 6).toInt → h_365.2.2 qa j ≠ none := by
      intro j hj; rw [(hs.o gx trivial rfl).1] at hj; rw [(hs.a g_qa rfl j).2]; exact pf_qa j hj
    replace pf_qp : ∀ j : Nat, (j : Int) < (h_365.2.1 ax 8).toInt → h_365.2.2 qp j ≠ none := by
      intro j hj; rw [(hs.o gx trivial rfl).1] at hj; rw [(hs.a g_qp rfl j).2]; exact pf_qp j hj
    replace pf_qc : ∀ j : Nat, (j : Int) < (h_365.2.1 ax 11).toInt → h_365.2.2 qc j ≠ none := by
      intro j hj; rw [(hs.o gx trivial rfl).1] at hj; rw [(hs.a g_qc rfl j).2]; exact pf_qc j hj
    replace pf_qh : ∀ j : Nat, (j : Int) < (h_365.2.1 ax 13).toInt → h_365.2.2 qh j ≠ none := by
      intro j hj; rw [(hs.o gx trivial rfl).1] at hj; rw [(hs.a g_qh rfl j).2]; exact pf_qh j hj
    replace pf_ql : ∀ j : Nat, (j : Int) < (h_365.2.1 qw 0).toInt → h_365.2.2 ql j ≠ none := by
      intro j hj; rw [(hs.o g_qw trivial rfl).1] at hj; rw [(hs.a g_ql rfl j).2]; exact pf_ql j hj
    replace cl_lst : hx_col 8 h_365 ql 0 = c_lst := (hx_col_S hs hTo g_ql tt_40 tt_2 rfl rfl).trans cl_lst
    replace cl_dead : hx_col 40 h_365 qp 7 = c_dead := (hx_col_S hs hTo g_qp tt_44 tt_4 rfl rfl).trans cl_dead
    replace cl_isj : hx_col 40 h_365 qp 8 = c_isj := (hx_col_S hs hTo g_qp tt_44 tt_4 rfl rfl).trans cl_isj
    replace cl_dox : hx_col 40 h_365 qp 5 = c_dox := (hx_col_S hs hTo g_qp tt_44 tt_4 rfl rfl).trans cl_dox
    replace cl_doy : hx_col 40 h_365 qp 6 = c_doy := (hx_col_S hs hTo g_qp tt_44 tt_4 rfl rfl).trans cl_doy
    replace nu_qp : hx_num 40 h_365 qp 0 (np.toInt) := hx_num_S hs hTo g_qp tt_44 tt_4 rfl rfl nu_qp
    replace nu_qc : hx_num 100 h_365 qc 0 (c0.toInt) := hx_num_S hs hTo g_qc tt_45 tt_2 rfl rfl nu_qc
    replace sb_list : hx_LQ 8 100 h_365 ql qc := hx_LQ_S hs g_ql g_qc rfl rfl sb_list
    replace hDF : hw_DF h_365 qc qp 2 F_aga c0.toInt := hw_DF_S hs hTo g_qc g_qp tt_45 tt_2 rfl rfl rfl hDF
    replace n_mw : h_365.2.1 mw = F_mw := (funext fun j => (hs.a g_mw rfl j).1).trans n_mw
    replace n_mr : h_365.2.1 mr = F_mr := (funext fun j => (hs.a g_mr rfl j).1).trans n_mr
    replace n_mp : h_365.2.1 mp = F_mp := (funext fun j => (hs.a g_mp rfl j).1).trans n_mp
    replace n_mn : h_365.2.1 mn = F_mn := (funext fun j => (hs.a g_mn rfl j).1).trans n_mn
    replace n_ml : h_365.2.1 ml = F_ml := (funext fun j => (hs.a g_ml rfl j).1).trans n_ml
    replace n_mh : h_365.2.1 mh = F_mh := (funext fun j => (hs.a g_mh rfl j).1).trans n_mh
    replace n_mt : h_365.2.1 mt = F_mt := (funext fun j => (hs.a g_mt rfl j).1).trans n_mt
    replace n_m_fou : h_365.2.1 m_fou = F_m_fou := (funext fun j => (hs.a g_m_fou rfl j).1).trans n_m_fou
    replace n_b_of : h_365.2.1 b_of = B_of := (funext fun j => (hs.a g_b_of rfl j).1).trans n_b_of
    replace n_m_of : h_365.2.1 m_of = F_of := (funext fun j => (hs.a g_m_of rfl j).1).trans n_m_of
    replace n_b_wf : h_365.2.1 b_wf = B_wf := (funext fun j => (hs.a g_b_wf rfl j).1).trans n_b_wf
    replace n_m_wf : h_365.2.1 m_wf = F_wf := (funext fun j => (hs.a g_m_wf rfl j).1).trans n_m_wf
    replace n_b_df : h_365.2.1 b_df = B_df := (funext fun j => (hs.a g_b_df rfl j).1).trans n_b_df
    replace n_m_df : h_365.2.1 m_df = F_df := (funext fun j => (hs.a g_m_df rfl j).1).trans n_m_df
    replace n_b_kf : h_365.2.1 b_kf = B_kf := (funext fun j => (hs.a g_b_kf rfl j).1).trans n_b_kf
    replace n_m_kf : h_365.2.1 m_kf = F_kf := (funext fun j => (hs.a g_m_kf rfl j).1).trans n_m_kf
    replace n_b_sf : h_365.2.1 b_sf = B_sf := (funext fun j => (hs.a g_b_sf rfl j).1).trans n_b_sf
    replace n_m_sf : h_365.2.1 m_sf = F_sf := (funext fun j => (hs.a g_m_sf rfl j).1).trans n_m_sf
    replace n_b_bf : h_365.2.1 b_bf = bfL := (funext fun j => (hs.a g_b_bf rfl j).1).trans n_b_bf
    replace n_lst : h_365.2.1 m_lst = F_lst := (funext fun j => (hs.a g_m_lst rfl j).1).trans n_lst
    replace n_dead : h_365.2.1 m_dead = F_dead := (funext fun j => (hs.a g_m_dead rfl j).1).trans n_dead
    replace n_isj : h_365.2.1 m_isj = F_isj := (funext fun j => (hs.a g_m_isj rfl j).1).trans n_isj
    replace n_dox : h_365.2.1 m_dox = F_dox := (funext fun j => (hs.a g_m_dox rfl j).1).trans n_dox
    replace n_doy : h_365.2.1 m_doy = F_doy := (funext fun j => (hs.a g_m_doy rfl j).1).trans n_doy
    replace n_qlt : h_365.2.1 qlt = F_qlt := (funext fun j => (hs.a g_qlt rfl j).1).trans n_qlt
    replace n_m_wkd : h_365.2.1 m_wkd = F_m_wkd := (funext fun j => (hs.a g_m_wkd rfl j).1).trans n_m_wkd
    replace n_aga : h_365.2.1 m_aga = F_aga := (funext fun j => (hs.a g_m_aga rfl j).1).trans n_aga
    replace gx := gx.S hs
    replace gm := gm.S hs
    replace g_qa := g_qa.S hs
    replace g_qp := g_qp.S hs
    replace g_qc := g_qc.S hs
    replace g_qh := g_qh.S hs
    replace g_qw := g_qw.S hs
    replace g_ql := g_ql.S hs
    replace g_mw := g_mw.S hs
    replace g_mr := g_mr.S hs
    replace g_mp := g_mp.S hs
    replace g_mn := g_mn.S hs
    replace g_ml := g_ml.S hs
    replace g_mh := g_mh.S hs
    replace g_mt := g_mt.S hs
    replace g_m_fou := g_m_fou.S hs
    replace g_qo_ln := g_qo_ln.S hs
    replace g_b_of := g_b_of.S hs
    replace g_m_of := g_m_of.S hs
    replace g_b_wf := g_b_wf.S hs
    replace g_m_wf := g_m_wf.S hs
    replace g_b_df := g_b_df.S hs
    replace g_m_df := g_m_df.S hs
    replace g_b_kf := g_b_kf.S hs
    replace g_m_kf := g_m_kf.S hs
    replace g_b_sf := g_b_sf.S hs
    replace g_m_sf := g_m_sf.S hs
    replace g_b_bf := g_b_bf.S hs
    replace g_m_lst := g_m_lst.S hs
    replace g_m_dead := g_m_dead.S hs
    replace g_m_isj := g_m_isj.S hs
    replace g_m_dox := g_m_dox.S hs
    replace g_m_doy := g_m_doy.S hs
    replace g_qlt := g_qlt.S hs
    replace g_qlf := g_qlf.S hs
    replace g_m_wkd := g_m_wkd.S hs
    replace g_m_aga := g_m_aga.S hs
    have fw_369 : hx_col 100 h_365 qc 10 = w_369 := fw_369
    have fw_370 : hx_col 100 h_365 qc 9 = w_370 := fw_370
    refine lv_pop hx hb dL_law_776 rfl ?_
    refine lv_aload_n hx hb dL_law_777 rfl (lv_at hl 1 rfl) ?_
    refine lv_aload_n hx hb dL_law_778 rfl (lv_at hl 3 rfl) ?_
    refine lv_iload_n hx hb dL_law_779 rfl (lv_at hl 0 rfl) ?_
    refine lv_iconst (v := 1) hx hb dL_law_780 (by decide) ?_
    refine lv_iadd hx hb dL_law_781 ?_
    refine lv_topi (fun x_371 ex_371 => ?_)
    have zx_371 : x_371.toInt = i.toInt + 1 := by rw [ex_371]; exact i32_add rfl (by decide) (by omega) (by omega)
    obtain rfl : x_359 = x_371 := ex_359.trans ex_371.symm
    refine va_sld hx hb hX hbl hbA hW.2.2.2.1 (vp_in_iff.mpr ⟨by omega, by omega⟩) dL_law_782 ?_
    refine lv_topi (fun x_372 ex_372 => ?_)
    obtain rfl : x_360 = x_372 := ex_360.trans ex_372.symm
    refine lv_aload_n hx hb dL_law_783 rfl (lv_at hl 3 rfl) ?_
    refine lv_iload_n hx hb dL_law_784 rfl (lv_at hl 0 rfl) ?_
    refine lv_iconst (v := 2) hx hb dL_law_785 (by decide) ?_
    refine lv_iadd hx hb dL_law_786 ?_
    refine lv_topi (fun x_373 ex_373 => ?_)
    have zx_373 : x_373.toInt = i.toInt + 2 := by rw [ex_373]; exact i32_add rfl (by decide) (by omega) (by omega)
    obtain rfl : x_361 = x_373 := ex_361.trans ex_373.symm
    refine va_sld hx hb hX hbl hbA hW.2.2.2.1 (vp_in_iff.mpr ⟨by omega, by omega⟩) dL_law_787 ?_
    refine lv_topi (fun x_374 ex_374 => ?_)
    obtain rfl : x_362 = x_374 := ex_362.trans ex_374.symm
    have jn_796 : ∀ (xj_375 : Int32) (ls : Array Slot), 0 ≤ xj_375.toInt → xj_375.toInt ≤ 1 → (x_362.toInt = 0 ∧ xj_375.toInt = 0) ∨ (x_362.toInt ≠ 0 ∧ xj_375.toInt = 1) → lv_has ls 4 [(3, .int i), (2, .ref am), (1, .ref ax), (0, .ref b)] → W p l e room_1 s m #[Value.ref b] below meth c H locs (CC + 0) (SS + 0) (lw_Z below #[Value.ref b] s) (F0 m 796 ls [.int xj_375, .int x_360, .ref am]) := by
      intro xj_375 ls blxj_375 buxj_375 jcxj_375 hl
      obtain rfl : xj_363 = xj_375 := Int32.toInt_inj.mp (by omega)
      have hTo := hT
      refine hx_goi (hx_runV (As := [.int x_360, .int xj_363]) (rest := []) ⟨hx, hb, hml, hown, hts⟩ hW gm tt_10 (T := TX10) (N := 98) rfl (t_X10_summons_2 l dC dI dA L_364 h_365 H.size am x_360 xj_363 hT gm mt g_mt f_mt m_fou g_m_fou f_m_fou mh g_mh f_mh F_mt n_mt F_m_fou n_m_fou F_mh n_mh c0 f_m_claims nw f_m_now T1 hT1 hTR hHF) (cwV 2 hts (hx_gV kw_1593 kw_1590 kw_1591 kw_1592 kw_103) rfl rfl rfl (by decide +kernel) ⟨Nat.le_of_ble_eq_true rfl, Nat.le_of_ble_eq_true rfl⟩) rfl hl.1 rfl (Nat.le_of_ble_eq_true rfl) dL_law_796 ⟨(show CC + 0 + 0 ≤ 600000 from by omega), (show SS + 0 + 0 ≤ 7302250 from by omega)⟩) hW (fun r_378 L_376 h_377 H locs p_379 hW => ?_)
      obtain ⟨⟨w_381, w_382, fw_381, fw_382, hr_380⟩, hT, hs⟩ := p_379
      replace hT : hx_T T_tb L_376 h_377 := hT
      replace hs : hx_S T_tb [(80, 0), (81, 0)] L_364 h_365 L_376 h_377 := hs
      replace f_qa := (hs.o gx trivial rfl).2.trans f_qa
      replace f_qp := (hs.o gx trivial rfl).2.trans f_qp
      replace f_qc := (hs.o gx trivial rfl).2.trans f_qc
      replace f_qh := (hs.o gx trivial rfl).2.trans f_qh
      replace f_qw := (hs.o gx trivial rfl).2.trans f_qw
      replace f_ql := (hs.o g_qw trivial rfl).2.trans f_ql
      replace f_m_now := (hs.o gm trivial rfl).1.trans f_m_now
      replace f_m_persons := (hs.o gm trivial rfl).1.trans f_m_persons
      replace f_m_claims := (hs.o gm trivial rfl).1.trans f_m_claims
      replace f_m_lines := (hs.o gm trivial rfl).1.trans f_m_lines
      replace f_m_listed := (hs.o gm trivial rfl).1.trans f_m_listed
      replace f_m_walkedMany := (hs.o gm trivial rfl).1.trans f_m_walkedMany
      replace f_m_acts := (hs.o gm trivial rfl).1.trans f_m_acts
      replace f_m_heardMany := (hs.o gm trivial rfl).1.trans f_m_heardMany
      replace f_x_now := (hs.o gx trivial rfl).1.trans f_x_now
      replace f_x_personCount := (hs.o gx trivial rfl).1.trans f_x_personCount
      replace f_x_claimCount := (hs.o gx trivial rfl).1.trans f_x_claimCount
      replace f_mw := (hs.o gm trivial rfl).2.trans f_mw
      replace f_mr := (hs.o gm trivial rfl).2.trans f_mr
      replace f_mp := (hs.o gm trivial rfl).2.trans f_mp
      replace f_mn := (hs.o gm trivial rfl).2.trans f_mn
      replace f_ml := (hs.o gm trivial rfl).2.trans f_ml
      replace f_mh := (hs.o gm trivial rfl).2.trans f_mh
      replace f_mt := (hs.o gm trivial rfl).2.trans f_mt
      replace f_m_fou := (hs.o gm trivial rfl).2.trans f_m_fou
      replace f_qo_ln := (hs.o gx trivial rfl).2.trans f_qo_ln
      replace f_o_ln := (hs.o g_qo_ln trivial rfl).1.trans f_o_ln
      replace f_o_lsd := (hs.o g_qw trivial rfl).1.trans f_o_lsd
      replace f_o_wkm := (hs.o g_qw trivial rfl).1.trans f_o_wkm
      replace f_b_of := (hs.o g_qo_ln trivial rfl).2.trans f_b_of
      replace f_m_of := (hs.o gm trivial rfl).2.trans f_m_of
      replace f_b_wf := (hs.o g_qo_ln trivial rfl).2.trans f_b_wf
      replace f_m_wf := (hs.o gm trivial rfl).2.trans f_m_wf
      replace f_b_df := (hs.o g_qo_ln trivial rfl).2.trans f_b_df
      replace f_m_df := (hs.o gm trivial rfl).2.trans f_m_df
      replace f_b_kf := (hs.o g_qo_ln trivial rfl).2.trans f_b_kf
      replace f_m_kf := (hs.o gm trivial rfl).2.trans f_m_kf
      replace f_b_sf := (hs.o g_qo_ln trivial rfl).2.trans f_b_sf
      replace f_m_sf := (hs.o gm trivial rfl).2.trans f_m_sf
      replace f_b_bf := (hs.o g_qo_ln trivial rfl).2.trans f_b_bf
      replace f_m_lst := (hs.o gm trivial rfl).2.trans f_m_lst
      replace f_m_dead := (hs.o gm trivial rfl).2.trans f_m_dead
      replace f_m_isj := (hs.o gm trivial rfl).2.trans f_m_isj
      replace f_m_dox := (hs.o gm trivial rfl).2.trans f_m_dox
      replace f_m_doy := (hs.o gm trivial rfl).2.trans f_m_doy
      replace f_qlt := (hs.o g_qw trivial rfl).2.trans f_qlt
      replace f_qlf := (hs.o g_qw trivial rfl).2.trans f_qlf
      replace f_m_wkd := (hs.o gm trivial rfl).2.trans f_m_wkd
      replace f_m_aga := (hs.o gm trivial rfl).2.trans f_m_aga
      replace pf_qa : ∀ j : Nat, (j : Int) < (h_377.2.1 ax 6).toInt → h_377.2.2 qa j ≠ none := by
        intro j hj; rw [(hs.o gx trivial rfl).1] at hj; rw [(hs.a g_qa rfl j).2]; exact pf_qa j hj
      replace pf_qp : ∀ j : Nat, (j : Int) < (h_377.2.1 ax 8).toInt → h_377.2.2 qp j ≠ none := by
        intro j hj; rw [(hs.o gx trivial rfl).1] at hj; rw [(hs.a g_qp rfl j).2]; exact pf_qp j hj
      replace pf_qc : ∀ j : Nat, (j : Int) < (h_377.2.1 ax 11).toInt → h_377.2.2 qc j ≠ none := by
        intro j hj; rw [(hs.o gx trivial rfl).1] at hj; rw [(hs.a g_qc rfl j).2]; exact pf_qc j hj
      replace pf_qh : ∀ j : Nat, (j : Int) < (h_377.2.1 ax 13).toInt → h_377.2.2 qh j ≠ none := by
        intro j hj; rw [(hs.o gx trivial rfl).1] at hj; rw [(hs.a g_qh rfl j).2]; exact pf_qh j hj
      replace pf_ql : ∀ j : Nat, (j : Int) < (h_377.2.1 qw 0).toInt → h_377.2.2 ql j ≠ none := by
        intro j hj; rw [(hs.o g_qw trivial rfl).1] at hj; rw [(hs.a g_ql rfl j).2]; exact pf_ql j hj
      replace cl_lst : hx_col 8 h_377 ql 0 = c_lst := (hx_col_S hs hTo g_ql tt_40 tt_2 rfl rfl).trans cl_lst
      replace cl_dead : hx_col 40 h_377 qp 7 = c_dead := (hx_col_S hs hTo g_qp tt_44 tt_4 rfl rfl).trans cl_dead
      replace cl_isj : hx_col 40 h_377 qp 8 = c_isj := (hx_col_S hs hTo g_qp tt_44 tt_4 rfl rfl).trans cl_isj
      replace cl_dox : hx_col 40 h_377 qp 5 = c_dox := (hx_col_S hs hTo g_qp tt_44 tt_4 rfl rfl).trans cl_dox
      replace cl_doy : hx_col 40 h_377 qp 6 = c_doy := (hx_col_S hs hTo g_qp tt_44 tt_4 rfl rfl).trans cl_doy
      replace fw_369 : hx_col 100 h_377 qc 10 = w_369 := (hx_col_S hs hTo g_qc tt_45 tt_2 rfl rfl).trans fw_369
      replace fw_370 : hx_col 100 h_377 qc 9 = w_370 := (hx_col_S hs hTo g_qc tt_45 tt_2 rfl rfl).trans fw_370
      replace nu_qp : hx_num 40 h_377 qp 0 (np.toInt) := hx_num_S hs hTo g_qp tt_44 tt_4 rfl rfl nu_qp
      replace nu_qc : hx_num 100 h_377 qc 0 (c0.toInt) := hx_num_S hs hTo g_qc tt_45 tt_2 rfl rfl nu_qc
      replace sb_list : hx_LQ 8 100 h_377 ql qc := hx_LQ_S hs g_ql g_qc rfl rfl sb_list
      replace hDF : hw_DF h_377 qc qp 2 F_aga c0.toInt := hw_DF_S hs hTo g_qc g_qp tt_45 tt_2 rfl rfl rfl hDF
      replace n_mw : h_377.2.1 mw = F_mw := (funext fun j => (hs.a g_mw rfl j).1).trans n_mw
      replace n_mr : h_377.2.1 mr = F_mr := (funext fun j => (hs.a g_mr rfl j).1).trans n_mr
      replace n_mp : h_377.2.1 mp = F_mp := (funext fun j => (hs.a g_mp rfl j).1).trans n_mp
      replace n_mn : h_377.2.1 mn = F_mn := (funext fun j => (hs.a g_mn rfl j).1).trans n_mn
      replace n_ml : h_377.2.1 ml = F_ml := (funext fun j => (hs.a g_ml rfl j).1).trans n_ml
      replace n_mh : h_377.2.1 mh = F_mh := (funext fun j => (hs.a g_mh rfl j).1).trans n_mh
      replace n_b_of : h_377.2.1 b_of = B_of := (funext fun j => (hs.a g_b_of rfl j).1).trans n_b_of
      replace n_m_of : h_377.2.1 m_of = F_of := (funext fun j => (hs.a g_m_of rfl j).1).trans n_m_of
      replace n_b_wf : h_377.2.1 b_wf = B_wf := (funext fun j => (hs.a g_b_wf rfl j).1).trans n_b_wf
      replace n_m_wf : h_377.2.1 m_wf = F_wf := (funext fun j => (hs.a g_m_wf rfl j).1).trans n_m_wf
      replace n_b_df : h_377.2.1 b_df = B_df := (funext fun j => (hs.a g_b_df rfl j).1).trans n_b_df
      replace n_m_df : h_377.2.1 m_df = F_df := (funext fun j => (hs.a g_m_df rfl j).1).trans n_m_df
      replace n_b_kf : h_377.2.1 b_kf = B_kf := (funext fun j => (hs.a g_b_kf rfl j).1).trans n_b_kf
      replace n_m_kf : h_377.2.1 m_kf = F_kf := (funext fun j => (hs.a g_m_kf rfl j).1).trans n_m_kf
      replace n_b_sf : h_377.2.1 b_sf = B_sf := (funext fun j => (hs.a g_b_sf rfl j).1).trans n_b_sf
      replace n_m_sf : h_377.2.1 m_sf = F_sf := (funext fun j => (hs.a g_m_sf rfl j).1).trans n_m_sf
      replace n_b_bf : h_377.2.1 b_bf = bfL := (funext fun j => (hs.a g_b_bf rfl j).1).trans n_b_bf
      replace n_lst : h_377.2.1 m_lst = F_lst := (funext fun j => (hs.a g_m_lst rfl j).1).trans n_lst
      replace n_dead : h_377.2.1 m_dead = F_dead := (funext fun j => (hs.a g_m_dead rfl j).1).trans n_dead
      replace n_isj : h_377.2.1 m_isj = F_isj := (funext fun j => (hs.a g_m_isj rfl j).1).trans n_isj
      replace n_dox : h_377.2.1 m_dox = F_dox := (funext fun j => (hs.a g_m_dox rfl j).1).trans n_dox
      replace n_doy : h_377.2.1 m_doy = F_doy := (funext fun j => (hs.a g_m_doy rfl j).1).trans n_doy
      replace n_qlt : h_377.2.1 qlt = F_qlt := (funext fun j => (hs.a g_qlt rfl j).1).trans n_qlt
      replace n_m_wkd : h_377.2.1 m_wkd = F_m_wkd := (funext fun j => (hs.a g_m_wkd rfl j).1).trans n_m_wkd
      replace n_aga : h_377.2.1 m_aga = F_aga := (funext fun j => (hs.a g_m_aga rfl j).1).trans n_aga
      replace gx := gx.S hs
      replace gm := gm.S hs
      replace g_qa := g_qa.S hs
      replace g_qp := g_qp.S hs
      replace g_qc := g_qc.S hs
      replace g_qh := g_qh.S hs
      replace g_qw := g_qw.S hs
      replace g_ql := g_ql.S hs
      replace g_mw := g_mw.S hs
      replace g_mr := g_mr.S hs
      replace g_mp := g_mp.S hs
      replace g_mn := g_mn.S hs
      replace g_ml := g_ml.S hs
      replace g_mh := g_mh.S hs
      replace g_mt := g_mt.S hs
      replace g_m_fou := g_m_fou.S hs
      replace g_qo_ln := g_qo_ln.S hs
      replace g_b_of := g_b_of.S hs
      replace g_m_of := g_m_of.S hs
      replace g_b_wf := g_b_wf.S hs
      replace g_m_wf := g_m_wf.S hs
      replace g_b_df := g_b_df.S hs
      replace g_m_df := g_m_df.S hs
      replace g_b_kf := g_b_kf.S hs
      replace g_m_kf := g_m_kf.S hs
      replace g_b_sf := g_b_sf.S hs
      replace g_m_sf := g_m_sf.S hs
      replace g_b_bf := g_b_bf.S hs
      replace g_m_lst := g_m_lst.S hs
      replace g_m_dead := g_m_dead.S hs
      replace g_m_isj := g_m_isj.S hs
      replace g_m_dox := g_m_dox.S hs
      replace g_m_doy := g_m_doy.S hs
      replace g_qlt := g_qlt.S hs
      replace g_qlf := g_qlf.S hs
      replace g_m_wkd := g_m_wkd.S hs
      replace g_m_aga := g_m_aga.S hs
      have fw_381 : h_377.2.1 mt = w_381 := fw_381
      have fw_382 : h_377.2.1 m_fou = w_382 := fw_382
      refine lv_pop hx hb dL_law_799 rfl ?_
      refine lv_goto (tgt := 1379) hx hb dL_law_800 (by decide) ?_
      obtain ⟨heq, hq_fou, hq_tri⟩ := hx_sk (by omega) eq_fou eq_tri hr_368 hr_380.2
      refine W.widen (k := CC + 3) (n := SS + 179) (by omega) (by omega) ?_
      exact kk L_376 h_377 H locs ls hW ⟨hT, gx, gm, ⟨f_x_now.trans f_m_now.symm, f_x_personCount.trans f_m_persons.symm, f_x_claimCount.trans f_m_claims.symm, hx_ob f_qo_ln (f_o_ln.trans f_m_lines.symm), hx_ob f_qw (f_o_lsd.trans f_m_listed.symm), hx_ob f_qw (f_o_wkm.trans f_m_walkedMany.symm), hx_ob f_qp (by rw [f_x_personCount]; exact nu_qp), hx_ob f_qc (by rw [f_x_claimCount]; exact nu_qc), (fun b a r hb ha hr => by obtain rfl : qo_ln = b := Option.some.inj (f_qo_ln.symm.trans hb); obtain rfl : b_of = a := Option.some.inj (f_b_of.symm.trans ha); obtain rfl : m_of = r := Option.some.inj (f_m_of.symm.trans hr); rw [n_b_of, n_m_of, f_o_ln]; exact eb_of), (fun b a r hb ha hr => by obtain rfl : qo_ln = b := Option.some.inj (f_qo_ln.symm.trans hb); obtain rfl : b_wf = a := Option.some.inj (f_b_wf.symm.trans ha); obtain rfl : m_wf = r := Option.some.inj (f_m_wf.symm.trans hr); rw [n_b_wf, n_m_wf, f_o_ln]; exact eb_wf), (fun b a r hb ha hr => by obtain rfl : qo_ln = b := Option.some.inj (f_qo_ln.symm.trans hb); obtain rfl : b_df = a := Option.some.inj (f_b_df.symm.trans ha); obtain rfl : m_df = r := Option.some.inj (f_m_df.symm.trans hr); rw [n_b_df, n_m_df, f_o_ln]; exact eb_df), (fun b a r hb ha hr => by obtain rfl : qo_ln = b := Option.some.inj (f_qo_ln.symm.trans hb); obtain rfl : b_kf = a := Option.some.inj (f_b_kf.symm.trans ha); obtain rfl : m_kf = r := Option.some.inj (f_m_kf.symm.trans hr); rw [n_b_kf, n_m_kf, f_o_ln]; exact eb_kf), (fun b a r hb ha hr => by obtain rfl : qo_ln = b := Option.some.inj (f_qo_ln.symm.trans hb); obtain rfl : b_sf = a := Option.some.inj (f_b_sf.symm.trans ha); obtain rfl : m_sf = r := Option.some.inj (f_m_sf.symm.trans hr); rw [n_b_sf, n_m_sf, f_o_ln]; exact eb_sf), (fun b a r hb ha hr => by obtain rfl : qo_ln = b := Option.some.inj (f_qo_ln.symm.trans hb); obtain rfl : b_df = a := Option.some.inj (f_b_df.symm.trans ha); obtain rfl : b_bf = r := Option.some.inj (f_b_bf.symm.trans hr); rw [n_b_df, n_b_bf, f_o_ln]; exact ⟨hBD, hDY⟩), (fun w q c hw hq hc => by obtain rfl : qw = w := Option.some.inj (f_qw.symm.trans hw); obtain rfl : ql = q := Option.some.inj (f_ql.symm.trans hq); obtain rfl : qc = c := Option.some.inj (f_qc.symm.trans hc); exact sb_list), (fun w q r hw hq hr => by obtain rfl : qw = w := Option.some.inj (f_qw.symm.trans hw); obtain rfl : ql = q := Option.some.inj (f_ql.symm.trans hq); obtain rfl : m_lst = r := Option.some.inj (f_m_lst.symm.trans hr); rw [cl_lst, n_lst]; exact eq_lst), (fun w q r hw hq hr => by obtain rfl : qw = w := Option.some.inj (f_qw.symm.trans hw); obtain rfl : qlt = q := Option.some.inj (f_qlt.symm.trans hq); obtain rfl : m_wkd = r := Option.some.inj (f_m_wkd.symm.trans hr); rw [n_qlt, n_m_wkd, f_o_wkm]; exact eb_wkd), (fun c q a hc hq ha => by obtain rfl : qc = c := Option.some.inj (f_qc.symm.trans hc); obtain rfl : qp = q := Option.some.inj (f_qp.symm.trans hq); obtain rfl : m_aga = a := Option.some.inj (f_m_aga.symm.trans ha); rw [n_aga, f_x_claimCount]; exact hw_DF_e hDF rfl rfl), hx_ob2 f_qp f_m_dead (by rw [cl_dead, n_dead]; exact eq_dead), hx_ob2 f_qp f_m_isj (by rw [cl_isj, n_isj]; exact eq_isj), hx_ob2 f_qp f_m_dox (by rw [cl_dox, n_dox]; exact eq_dox), hx_ob2 f_qp f_m_doy (by rw [cl_doy, n_doy]; exact eq_doy), hx_ob2 f_qc f_m_fou (by rw [fw_369, fw_382]; exact hq_fou), hx_ob2 f_qc f_mt (by rw [fw_370, fw_381]; exact hq_tri), trivial⟩, ⟨hx_ob f_qa pf_qa, hx_ob f_qp pf_qp, hx_ob f_qc pf_qc, hx_ob f_qh pf_qh, (fun w q hw hq => by obtain rfl : qw = w := Option.some.inj (f_qw.symm.trans hw); obtain rfl : ql = q := Option.some.inj (f_ql.symm.trans hq); exact pf_ql)⟩, ⟨hx_ob f_mw (by rw [n_mw]; exact hwd), hx_ob f_mr (by rw [n_mr, f_m_acts]; exact hWK), hx_ob2 f_mp f_mn (by rw [n_mp, n_mn, f_m_acts]; exact hRP), hx_ob f_ml (by rw [n_ml, f_m_claims, f_m_acts]; exact hPL), hx_ob f_mh (by rw [n_mh, f_m_heardMany, f_m_claims]; exact hHC), hx_ob f_mt (by rw [fw_381]; exact hr_380.1), hx_ob2 f_mh f_m_fou (by rw [n_mh, fw_382, f_m_claims]; exact (hx_HF_s hHF (by omega) hr_380.2))⟩⟩ hl
    refine hb_if_eq (zx := x_362.toInt) (tgt := 795) hx hb rfl dL_law_788 (by decide) (fun c_383 => ?_) (fun c_383 => ?_)
    · skip
      refine lv_iconst (v := 0) hx hb dL_law_795 (by decide) ?_
      have zj_796 : (0 : Int32).toInt = 0 := by decide
      exact jn_796 (0 : Int32) ls (by decide) (by decide) (by omega) hl
    · skip
      refine lv_iconst (v := 1) hx hb dL_law_791 (by decide) ?_
      refine lv_goto (tgt := 796) hx hb dL_law_792 (by decide) ?_
      have zj_796 : (1 : Int32).toInt = 1 := by decide
      exact jn_796 (1 : Int32) ls (by decide) (by decide) (by omega) hl
  refine hb_if_eq (zx := x_362.toInt) (tgt := 772) hx hb rfl dL_law_765 (by decide) (fun c_384 => ?_) (fun c_384 => ?_)
  · skip
    refine lv_iconst (v := 0) hx hb dL_law_772 (by decide) ?_
    have zj_773 : (0 : Int32).toInt = 0 := by decide
    exact jn_773 (0 : Int32) ls (by decide) (by decide) (by omega) hl
  · skip
    refine lv_iconst (v := 1) hx hb dL_law_768 (by decide) ?_
    refine lv_goto (tgt := 773) hx hb dL_law_769 (by decide) ?_
    have zj_773 : (1 : Int32).toInt = 1 := by decide
    exact jn_773 (1 : Int32) ls (by decide) (by decide) (by omega) hl

set_option maxHeartbeats 4000000 in
set_option maxRecDepth 100000 in
theorem law_case_13 {p : Program} {e : Env} {s : State} {m : MethodId} {below : List Frame} {meth : Method} {c : Code} (l : Launch) {b LN : Nat} {xs : Nat → Int32} (hx : p.tables.exec = Jvm.exec) (hb : c.code = code) (hr : meth.sig.returnType = ret) (hlocks : meth.locks = false) (hml : c.maxLocals = 4) (hown : s.vm.findClass "SmallCourtLaw" = some m.cls) (hts : ∀ w ∈ hx_all, w.before #[Value.ref b] s = true) (hX : va_X b LN xs s s.heap) (hbl : b < s.heap.size) (hbA : ¬ s.heap.size ≤ b) (hLN : LN ≤ 3584) (dC : Nat → ClassId) (dI : Nat → Nat → Nat) (dA : Nat → ClassId) (b0 : hx_z) (ax am : Nat) (T1 : Int) (hT0 : 0 ≤ T1) (hT1 : T1 ≤ 511) (i : Int32) (hi0 : 0 ≤ i.toInt) (hiL : i.toInt + 7 ≤ LN) (CC SS : Nat) (hCC : CC + 3 ≤ 600000) (hSS : SS + 179 ≤ 7302250) (L1 : List Nat) (hl1 : hx_h) (H : Heap) (locs : List Loc) (ls : Array Slot) (hW : hx_W T_tb (P_ty dA) (dC, dI) vwCl (fun q : Nat => s.heap.size ≤ q) s.heap L1 hl1 s H locs) (hZ : hx_Xt (fun q : Nat => s.heap.size ≤ q) b0 s) (hI : hx_IV T1 ax am L1 hl1) (hl : lv_has ls 4 [(3, .int i), (2, .ref am), (1, .ref ax), (0, .ref b)]) (kk : ∀ (L2 : List Nat) (h2 : hx_h) (H2 : Heap) (locs2 : List Loc) (ls2 : Array Slot), hx_W T_tb (P_ty dA) (dC, dI) vwCl (fun q : Nat => s.heap.size ≤ q) s.heap L2 h2 s H2 locs2 → hx_IV (T1 + 1) ax am L2 h2 → lv_has ls2 4 [(3, .int i), (2, .ref am), (1, .ref ax), (0, .ref b)] → W p l e room_1 s m #[Value.ref b] below meth c H2 locs2 (CC + 3) (SS + 179) (lw_Z below #[Value.ref b] s) (F0 m 1379 ls2 [])) : W p l e room_1 s m #[Value.ref b] below meth c H locs CC SS (lw_Z below #[Value.ref b] s) (F0 m 803 ls []) := by
  obtain ⟨hT, gx, gm, ⟨he_nw, he_np, he_c0, ho_ln, ho_lsd, ho_wkm, hn_qp, hn_qc, hk_of, hk_wf, hk_df, hk_kf, hk_sf, hkBD, hLQ, hLE, hkWD, hkDF, hc_dead, hc_isj, hc_dox, hc_doy, hc_fou, hc_tri, -⟩, ⟨ia, ip, ic, ih, il⟩, ⟨jw, jr, jp, jl, jh, jt, jf⟩⟩ := hI
  obtain ⟨qa, f_qa, g_qa⟩ := hx_rf hT gx tt_9 (k := 5) (u := 43) rfl
  have pf_qa := ia qa f_qa
  obtain ⟨qp, f_qp, g_qp⟩ := hx_rf hT gx tt_9 (k := 7) (u := 44) rfl
  have pf_qp := ip qp f_qp
  obtain ⟨qc, f_qc, g_qc⟩ := hx_rf hT gx tt_9 (k := 10) (u := 45) rfl
  have pf_qc := ic qc f_qc
  obtain ⟨qh, f_qh, g_qh⟩ := hx_rf hT gx tt_9 (k := 12) (u := 46) rfl
  have pf_qh := ih qh f_qh
  obtain ⟨qw, f_qw, g_qw⟩ := hx_rf hT gx tt_9 (k := 19) (u := 8) rfl
  obtain ⟨ql, f_ql, g_ql⟩ := hx_rf hT g_qw tt_8 (k := 3) (u := 40) rfl
  have pf_ql := il qw ql f_qw f_ql
  obtain ⟨nw, f_m_now⟩ : ∃ y : Int32, hl1.2.1 am 0 = y := ⟨_, rfl⟩
  have b_nw := hT.gi gm tt_10 (k := 0) rfl
  rw [f_m_now] at b_nw
  have b_nw : 0 ≤ nw.toInt ∧ nw.toInt ≤ 7999 := b_nw
  obtain ⟨np, f_m_persons⟩ : ∃ y : Int32, hl1.2.1 am 20 = y := ⟨_, rfl⟩
  have b_np := hT.gi gm tt_10 (k := 20) rfl
  rw [f_m_persons] at b_np
  have b_np : 0 ≤ np.toInt ∧ np.toInt ≤ 40 := b_np
  obtain ⟨c0, f_m_claims⟩ : ∃ y : Int32, hl1.2.1 am 36 = y := ⟨_, rfl⟩
  have b_c0 := hT.gi gm tt_10 (k := 36) rfl
  rw [f_m_claims] at b_c0
  have b_c0 : 0 ≤ c0.toInt ∧ c0.toInt ≤ 100 := b_c0
  obtain ⟨ln, f_m_lines⟩ : ∃ y : Int32, hl1.2.1 am 29 = y := ⟨_, rfl⟩
  have b_ln := hT.gi gm tt_10 (k := 29) rfl
  rw [f_m_lines] at b_ln
  have b_ln : 0 ≤ ln.toInt ∧ ln.toInt ≤ 400 := b_ln
  obtain ⟨lsd, f_m_listed⟩ : ∃ y : Int32, hl1.2.1 am 90 = y := ⟨_, rfl⟩
  have b_lsd := hT.gi gm tt_10 (k := 90) rfl
  rw [f_m_listed] at b_lsd
  have b_lsd : 0 ≤ lsd.toInt ∧ lsd.toInt ≤ 8 := b_lsd
  obtain ⟨wkm, f_m_walkedMany⟩ : ∃ y : Int32, hl1.2.1 am 92 = y := ⟨_, rfl⟩
  have b_wkm := hT.gi gm tt_10 (k := 92) rfl
  rw [f_m_walkedMany] at b_wkm
  have b_wkm : 0 ≤ wkm.toInt ∧ wkm.toInt ≤ 8 := b_wkm
  obtain ⟨a0, f_m_acts⟩ : ∃ y : Int32, hl1.2.1 am 1 = y := ⟨_, rfl⟩
  have b_a0 := hT.gi gm tt_10 (k := 1) rfl
  rw [f_m_acts] at b_a0
  have b_a0 : 0 ≤ a0.toInt ∧ a0.toInt ≤ 8 := b_a0
  obtain ⟨m0, f_m_heardMany⟩ : ∃ y : Int32, hl1.2.1 am 57 = y := ⟨_, rfl⟩
  have b_m0 := hT.gi gm tt_10 (k := 57) rfl
  rw [f_m_heardMany] at b_m0
  have b_m0 : 0 ≤ m0.toInt ∧ m0.toInt ≤ 100 := b_m0
  have f_x_now : hl1.2.1 ax 2 = nw := he_nw.trans f_m_now
  have f_x_personCount : hl1.2.1 ax 8 = np := he_np.trans f_m_persons
  have f_x_claimCount : hl1.2.1 ax 11 = c0 := he_c0.trans f_m_claims
  obtain ⟨mw, f_mw, g_mw⟩ := hx_rf hT gm tt_10 (k := 19) (u := 57) rfl
  obtain ⟨F_mw, n_mw⟩ : ∃ g : Nat → Int32, hl1.2.1 mw = g := ⟨_, rfl⟩
  obtain ⟨mr, f_mr, g_mr⟩ := hx_rf hT gm tt_10 (k := 3) (u := 50) rfl
  obtain ⟨F_mr, n_mr⟩ : ∃ g : Nat → Int32, hl1.2.1 mr = g := ⟨_, rfl⟩
  obtain ⟨mp, f_mp, g_mp⟩ := hx_rf hT gm tt_10 (k := 5) (u := 52) rfl
  obtain ⟨F_mp, n_mp⟩ : ∃ g : Nat → Int32, hl1.2.1 mp = g := ⟨_, rfl⟩
  obtain ⟨mn, f_mn, g_mn⟩ := hx_rf hT gm tt_10 (k := 4) (u := 51) rfl
  obtain ⟨F_mn, n_mn⟩ : ∃ g : Nat → Int32, hl1.2.1 mn = g := ⟨_, rfl⟩
  obtain ⟨ml, f_ml, g_ml⟩ := hx_rf hT gm tt_10 (k := 44) (u := 79) rfl
  obtain ⟨F_ml, n_ml⟩ : ∃ g : Nat → Int32, hl1.2.1 ml = g := ⟨_, rfl⟩
  obtain ⟨mh, f_mh, g_mh⟩ := hx_rf hT gm tt_10 (k := 47) (u := 82) rfl
  obtain ⟨F_mh, n_mh⟩ : ∃ g : Nat → Int32, hl1.2.1 mh = g := ⟨_, rfl⟩
  obtain ⟨mt, f_mt, g_mt⟩ := hx_rf hT gm tt_10 (k := 45) (u := 80) rfl
  obtain ⟨F_mt, n_mt⟩ : ∃ g : Nat → Int32, hl1.2.1 mt = g := ⟨_, rfl⟩
  obtain ⟨m_fou, f_m_fou, g_m_fou⟩ := hx_rf hT gm tt_10 (k := 46) (u := 81) rfl
  obtain ⟨F_m_fou, n_m_fou⟩ : ∃ g : Nat → Int32, hl1.2.1 m_fou = g := ⟨_, rfl⟩
  obtain ⟨qo_ln, f_qo_ln, g_qo_ln⟩ := hx_rf hT gx tt_9 (k := 9) (u := 1) rfl
  have f_o_ln : hl1.2.1 qo_ln 0 = ln := (ho_ln qo_ln f_qo_ln).trans f_m_lines
  have f_o_lsd : hl1.2.1 qw 0 = lsd := (ho_lsd qw f_qw).trans f_m_listed
  have f_o_wkm : hl1.2.1 qw 1 = wkm := (ho_wkm qw f_qw).trans f_m_walkedMany
  have nu_qp := hn_qp qp f_qp; rw [f_x_personCount] at nu_qp
  have nu_qc := hn_qc qc f_qc; rw [f_x_claimCount] at nu_qc
  obtain ⟨b_of, f_b_of, g_b_of⟩ := hx_rf hT g_qo_ln tt_1 (k := 1) (u := 13) rfl
  obtain ⟨B_of, n_b_of⟩ : ∃ g : Nat → Int32, hl1.2.1 b_of = g := ⟨_, rfl⟩
  obtain ⟨m_of, f_m_of, g_m_of⟩ := hx_rf hT gm tt_10 (k := 30) (u := 66) rfl
  obtain ⟨F_of, n_m_of⟩ : ∃ g : Nat → Int32, hl1.2.1 m_of = g := ⟨_, rfl⟩
  have eb_of := hk_of qo_ln b_of m_of f_qo_ln f_b_of f_m_of; rw [n_b_of, n_m_of, f_o_ln] at eb_of
  obtain ⟨b_wf, f_b_wf, g_b_wf⟩ := hx_rf hT g_qo_ln tt_1 (k := 2) (u := 14) rfl
  obtain ⟨B_wf, n_b_wf⟩ : ∃ g : Nat → Int32, hl1.2.1 b_wf = g := ⟨_, rfl⟩
  obtain ⟨m_wf, f_m_wf, g_m_wf⟩ := hx_rf hT gm tt_10 (k := 31) (u := 67) rfl
  obtain ⟨F_wf, n_m_wf⟩ : ∃ g : Nat → Int32, hl1.2.1 m_wf = g := ⟨_, rfl⟩
  have eb_wf := hk_wf qo_ln b_wf m_wf f_qo_ln f_b_wf f_m_wf; rw [n_b_wf, n_m_wf, f_o_ln] at eb_wf
  obtain ⟨b_df, f_b_df, g_b_df⟩ := hx_rf hT g_qo_ln tt_1 (k := 3) (u := 15) rfl
  obtain ⟨B_df, n_b_df⟩ : ∃ g : Nat → Int32, hl1.2.1 b_df = g := ⟨_, rfl⟩
  obtain ⟨m_df, f_m_df, g_m_df⟩ := hx_rf hT gm tt_10 (k := 32) (u := 68) rfl
  obtain ⟨F_df, n_m_df⟩ : ∃ g : Nat → Int32, hl1.2.1 m_df = g := ⟨_, rfl⟩
  have eb_df := hk_df qo_ln b_df m_df f_qo_ln f_b_df f_m_df; rw [n_b_df, n_m_df, f_o_ln] at eb_df
  obtain ⟨b_kf, f_b_kf, g_b_kf⟩ := hx_rf hT g_qo_ln tt_1 (k := 4) (u := 16) rfl
  obtain ⟨B_kf, n_b_kf⟩ : ∃ g : Nat → Int32, hl1.2.1 b_kf = g := ⟨_, rfl⟩
  obtain ⟨m_kf, f_m_kf, g_m_kf⟩ := hx_rf hT gm tt_10 (k := 33) (u := 69) rfl
  obtain ⟨F_kf, n_m_kf⟩ : ∃ g : Nat → Int32, hl1.2.1 m_kf = g := ⟨_, rfl⟩
  have eb_kf := hk_kf qo_ln b_kf m_kf f_qo_ln f_b_kf f_m_kf; rw [n_b_kf, n_m_kf, f_o_ln] at eb_kf
  obtain ⟨b_sf, f_b_sf, g_b_sf⟩ := hx_rf hT g_qo_ln tt_1 (k := 5) (u := 17) rfl
  obtain ⟨B_sf, n_b_sf⟩ : ∃ g : Nat → Int32, hl1.2.1 b_sf = g := ⟨_, rfl⟩
  obtain ⟨m_sf, f_m_sf, g_m_sf⟩ := hx_rf hT gm tt_10 (k := 34) (u := 70) rfl
  obtain ⟨F_sf, n_m_sf⟩ : ∃ g : Nat → Int32, hl1.2.1 m_sf = g := ⟨_, rfl⟩
  have eb_sf := hk_sf qo_ln b_sf m_sf f_qo_ln f_b_sf f_m_sf; rw [n_b_sf, n_m_sf, f_o_ln] at eb_sf
  obtain ⟨b_bf, f_b_bf, g_b_bf⟩ := hx_rf hT g_qo_ln tt_1 (k := 6) (u := 18) rfl
  obtain ⟨bfL, n_b_bf⟩ : ∃ g : Nat → Int32, hl1.2.1 b_bf = g := ⟨_, rfl⟩
  obtain ⟨hBD, hDY⟩ := hkBD qo_ln b_df b_bf f_qo_ln f_b_df f_b_bf; rw [n_b_df, n_b_bf, f_o_ln] at hBD; rw [n_b_df, f_o_ln] at hDY
  have hBDm := hy_BD_c eb_df hBD
  have hDYm : hy_DY F_df ln.toInt.toNat := fun x hx => by rw [← eb_df x hx]; exact hDY x hx
  have sb_list := hLQ qw ql qc f_qw f_ql f_qc
  obtain ⟨m_lst, f_m_lst, g_m_lst⟩ := hx_rf hT gm tt_10 (k := 91) (u := 112) rfl
  obtain ⟨F_lst, n_lst⟩ : ∃ g : Nat → Int32, hl1.2.1 m_lst = g := ⟨_, rfl⟩
  obtain ⟨c_lst, cl_lst⟩ : ∃ g : Nat → Int32, hx_col 8 hl1 ql 0 = g := ⟨_, rfl⟩
  have eq_lst := hLE qw ql m_lst f_qw f_ql f_m_lst; rw [cl_lst, n_lst] at eq_lst
  obtain ⟨c_dead, cl_dead⟩ : ∃ g : Nat → Int32, hx_col 40 hl1 qp 7 = g := ⟨_, rfl⟩
  obtain ⟨m_dead, f_m_dead, g_m_dead⟩ := hx_rf hT gm tt_10 (k := 27) (u := 64) rfl
  obtain ⟨F_dead, n_dead⟩ : ∃ g : Nat → Int32, hl1.2.1 m_dead = g := ⟨_, rfl⟩
  have eq_dead := hc_dead qp m_dead f_qp f_m_dead; rw [cl_dead, n_dead] at eq_dead
  have z_dead : np.toInt.toNat < 40 → c_dead np.toInt.toNat = 0 := fun hj => hx_num_z nu_qp cl_dead hj (by omega)
  obtain ⟨c_isj, cl_isj⟩ : ∃ g : Nat → Int32, hx_col 40 hl1 qp 8 = g := ⟨_, rfl⟩
  obtain ⟨m_isj, f_m_isj, g_m_isj⟩ := hx_rf hT gm tt_10 (k := 28) (u := 65) rfl
  obtain ⟨F_isj, n_isj⟩ : ∃ g : Nat → Int32, hl1.2.1 m_isj = g := ⟨_, rfl⟩
  have eq_isj := hc_isj qp m_isj f_qp f_m_isj; rw [cl_isj, n_isj] at eq_isj
  have z_isj : np.toInt.toNat < 40 → c_isj np.toInt.toNat = 0 := fun hj => hx_num_z nu_qp cl_isj hj (by omega)
  obtain ⟨c_dox, cl_dox⟩ : ∃ g : Nat → Int32, hx_col 40 hl1 qp 5 = g := ⟨_, rfl⟩
  obtain ⟨m_dox, f_m_dox, g_m_dox⟩ := hx_rf hT gm tt_10 (k := 24) (u := 61) rfl
  obtain ⟨F_dox, n_dox⟩ : ∃ g : Nat → Int32, hl1.2.1 m_dox = g := ⟨_, rfl⟩
  have eq_dox := hc_dox qp m_dox f_qp f_m_dox; rw [cl_dox, n_dox] at eq_dox
  have z_dox : np.toInt.toNat < 40 → c_dox np.toInt.toNat = 0 := fun hj => hx_num_z nu_qp cl_dox hj (by omega)
  obtain ⟨c_doy, cl_doy⟩ : ∃ g : Nat → Int32, hx_col 40 hl1 qp 6 = g := ⟨_, rfl⟩
  obtain ⟨m_doy, f_m_doy, g_m_doy⟩ := hx_rf hT gm tt_10 (k := 25) (u := 62) rfl
  obtain ⟨F_doy, n_doy⟩ : ∃ g : Nat → Int32, hl1.2.1 m_doy = g := ⟨_, rfl⟩
  have eq_doy := hc_doy qp m_doy f_qp f_m_doy; rw [cl_doy, n_doy] at eq_doy
  have z_doy : np.toInt.toNat < 40 → c_doy np.toInt.toNat = 0 := fun hj => hx_num_z nu_qp cl_doy hj (by omega)
  obtain ⟨c_fou, cl_fou⟩ : ∃ g : Nat → Int32, hx_col 100 hl1 qc 10 = g := ⟨_, rfl⟩
  have eq_fou := hc_fou qc m_fou f_qc f_m_fou; rw [cl_fou, n_m_fou] at eq_fou
  have z_fou : c0.toInt.toNat < 100 → c_fou c0.toInt.toNat = 0 := fun hj => hx_num_z nu_qc cl_fou hj (by omega)
  obtain ⟨c_tri, cl_tri⟩ : ∃ g : Nat → Int32, hx_col 100 hl1 qc 9 = g := ⟨_, rfl⟩
  have eq_tri := hc_tri qc mt f_qc f_mt; rw [cl_tri, n_mt] at eq_tri
  have z_tri : c0.toInt.toNat < 100 → c_tri c0.toInt.toNat = 0 := fun hj => hx_num_z nu_qc cl_tri hj (by omega)
  obtain ⟨qlt, f_qlt, g_qlt⟩ := hx_rf hT g_qw tt_8 (k := 2) (u := 39) rfl
  obtain ⟨qlf, f_qlf, g_qlf⟩ := hx_rf hT g_qw tt_8 (k := 4) (u := 41) rfl
  obtain ⟨m_wkd, f_m_wkd, g_m_wkd⟩ := hx_rf hT gm tt_10 (k := 93) (u := 113) rfl
  obtain ⟨F_qlt, n_qlt⟩ : ∃ g : Nat → Int32, hl1.2.1 qlt = g := ⟨_, rfl⟩
  obtain ⟨F_m_wkd, n_m_wkd⟩ : ∃ g : Nat → Int32, hl1.2.1 m_wkd = g := ⟨_, rfl⟩
  have eb_wkd := hkWD qw qlt m_wkd f_qw f_qlt f_m_wkd; rw [n_qlt, n_m_wkd, f_o_wkm] at eb_wkd
  obtain ⟨m_aga, f_m_aga, g_m_aga⟩ := hx_rf hT gm tt_10 (k := 38) (u := 73) rfl
  obtain ⟨F_aga, n_aga⟩ : ∃ g : Nat → Int32, hl1.2.1 m_aga = g := ⟨_, rfl⟩
  have hDF := hkDF qc qp m_aga f_qc f_qp f_m_aga; rw [n_aga, f_x_claimCount] at hDF
  have hwd := jw mw f_mw; rw [n_mw] at hwd
  have hWK := jr mr f_mr; rw [n_mr, f_m_acts] at hWK
  have hRP := jp mp mn f_mp f_mn; rw [n_mp, n_mn, f_m_acts] at hRP
  have hPL := jl ml f_ml; rw [n_ml, f_m_claims, f_m_acts] at hPL
  have hHC := jh mh f_mh; rw [n_mh, f_m_heardMany, f_m_claims] at hHC
  have hTR := jt mt f_mt; rw [n_mt] at hTR
  have hHF := jf mh m_fou f_mh f_m_fou; rw [n_mh, n_m_fou, f_m_claims] at hHF
  refine lv_aload_n hx hb dL_law_803 rfl (lv_at hl 2 rfl) ?_
  refine lv_aload_n hx hb dL_law_804 rfl (lv_at hl 3 rfl) ?_
  refine lv_iload_n hx hb dL_law_805 rfl (lv_at hl 0 rfl) ?_
  refine lv_iconst (v := 1) hx hb dL_law_806 (by decide) ?_
  refine lv_iadd hx hb dL_law_807 ?_
  have rg_385 := i32_r i
  refine lv_topi (fun x_386 ex_386 => ?_)
  have zx_386 : x_386.toInt = i.toInt + 1 := by rw [ex_386]; exact i32_add rfl (by decide) (by omega) (by omega)
  refine va_sld hx hb hX hbl hbA hW.2.2.2.1 (vp_in_iff.mpr ⟨by omega, by omega⟩) dL_law_808 ?_
  refine lv_topi (fun x_387 ex_387 => ?_)
  refine lv_aload_n hx hb dL_law_809 rfl (lv_at hl 3 rfl) ?_
  refine lv_iload_n hx hb dL_law_810 rfl (lv_at hl 0 rfl) ?_
  refine lv_iconst (v := 2) hx hb dL_law_811 (by decide) ?_
  refine lv_iadd hx hb dL_law_812 ?_
  refine lv_topi (fun x_388 ex_388 => ?_)
  have zx_388 : x_388.toInt = i.toInt + 2 := by rw [ex_388]; exact i32_add rfl (by decide) (by omega) (by omega)
  refine va_sld hx hb hX hbl hbA hW.2.2.2.1 (vp_in_iff.mpr ⟨by omega, by omega⟩) dL_law_813 ?_
  refine lv_topi (fun x_389 ex_389 => ?_)
  have jn_822 : ∀ (xj_390 : Int32) (ls : Array Slot), 0 ≤ xj_390.toInt → xj_390.toInt ≤ 1 → (x_389.toInt = 0 ∧ xj_390.toInt = 0) ∨ (x_389.toInt ≠ 0 ∧ xj_390.toInt = 1) → lv_has ls 4 [(3, .int i), (2, .ref am), (1, .ref ax), (0, .ref b)] → W p l e room_1 s m #[Value.ref b] below meth c H locs (CC) (SS) (lw_Z below #[Value.ref b] s) (F0 m 822 ls [.int xj_390, .int x_387, .ref ax]) := by
    intro xj_390 ls blxj_390 buxj_390 jcxj_390 hl
    refine lv_aload_n hx hb dL_law_822 rfl (lv_at hl 3 rfl) ?_
    refine lv_iload_n hx hb dL_law_823 rfl (lv_at hl 0 rfl) ?_
    refine lv_iconst (v := 3) hx hb dL_law_824 (by decide) ?_
    refine lv_iadd hx hb dL_law_825 ?_
    refine lv_topi (fun x_391 ex_391 => ?_)
    have zx_391 : x_391.toInt = i.toInt + 3 := by rw [ex_391]; exact i32_add rfl (by decide) (by omega) (by omega)
    refine va_sld hx hb hX hbl hbA hW.2.2.2.1 (vp_in_iff.mpr ⟨by omega, by omega⟩) dL_law_826 ?_
    refine lv_topi (fun x_392 ex_392 => ?_)
    have jn_835 : ∀ (xj_393 : Int32) (ls : Array Slot), 0 ≤ xj_393.toInt → xj_393.toInt ≤ 1 → (x_392.toInt = 0 ∧ xj_393.toInt = 0) ∨ (x_392.toInt ≠ 0 ∧ xj_393.toInt = 1) → lv_has ls 4 [(3, .int i), (2, .ref am), (1, .ref ax), (0, .ref b)] → W p l e room_1 s m #[Value.ref b] below meth c H locs (CC) (SS) (lw_Z below #[Value.ref b] s) (F0 m 835 ls [.int xj_393, .int xj_390, .int x_387, .ref ax]) := by
      intro xj_393 ls blxj_393 buxj_393 jcxj_393 hl
      refine lv_aload_n hx hb dL_law_835 rfl (lv_at hl 3 rfl) ?_
      refine lv_iload_n hx hb dL_law_836 rfl (lv_at hl 0 rfl) ?_
      refine lv_iconst (v := 4) hx hb dL_law_837 (by decide) ?_
      refine lv_iadd hx hb dL_law_838 ?_
      refine lv_topi (fun x_394 ex_394 => ?_)
      have zx_394 : x_394.toInt = i.toInt + 4 := by rw [ex_394]; exact i32_add rfl (by decide) (by omega) (by omega)
      refine va_sld hx hb hX hbl hbA hW.2.2.2.1 (vp_in_iff.mpr ⟨by omega, by omega⟩) dL_law_839 ?_
      refine lv_topi (fun x_395 ex_395 => ?_)
      have hTo := hT
      refine hx_goi (hx_runV (As := [.int x_387, .int xj_390, .int xj_393, .int x_395]) (rest := []) ⟨hx, hb, hml, hown, hts⟩ hW gx tt_9 (T := TX9) (N := 20) rfl (t_X9_hear l dC dI dA L1 hl1 H.size ax x_387 xj_390 xj_393 x_395 hT gx qp g_qp f_qp qc g_qc f_qc qh g_qh f_qh pf_qp pf_qc pf_qh) (cwV 4 hts (hx_gV kw_814 kw_811 kw_812 kw_813 kw_94) rfl rfl rfl (by decide +kernel) ⟨Nat.le_of_ble_eq_true rfl, Nat.le_of_ble_eq_true rfl⟩) rfl hl.1 rfl (Nat.le_of_ble_eq_true rfl) dL_law_840 ⟨(show CC + 0 ≤ 600000 from by omega), (show SS + 0 ≤ 7302250 from by omega)⟩) hW (fun r_398 L_396 h_397 H locs p_399 hW => ?_)
      obtain ⟨hr_400, hT, hs, pf_401⟩ := p_399
      replace hT : hx_T T_tb L_396 h_397 := hT
      replace hs : hx_S T_tb [(2, 11), (2, 12), (9, 13), (19, 0), (20, 0), (21, 0), (46, 0), (47, 0)] L1 hl1 L_396 h_397 := hs
      replace f_qa := (hs.o gx trivial rfl).2.trans f_qa
      replace f_qp := (hs.o gx trivial rfl).2.trans f_qp
      replace f_qc := (hs.o gx trivial rfl).2.trans f_qc
      replace f_qh := (hs.o gx trivial rfl).2.trans f_qh
      replace f_qw := (hs.o gx trivial rfl).2.trans f_qw
      replace f_ql := (hs.o g_qw trivial rfl).2.trans f_ql
      replace f_m_now := (hs.o gm trivial rfl).1.trans f_m_now
      replace f_m_persons := (hs.o gm trivial rfl).1.trans f_m_persons
      replace f_m_claims := (hs.o gm trivial rfl).1.trans f_m_claims
      replace f_m_lines := (hs.o gm trivial rfl).1.trans f_m_lines
      replace f_m_listed := (hs.o gm trivial rfl).1.trans f_m_listed
      replace f_m_walkedMany := (hs.o gm trivial rfl).1.trans f_m_walkedMany
      replace f_m_acts := (hs.o gm trivial rfl).1.trans f_m_acts
      replace f_m_heardMany := (hs.o gm trivial rfl).1.trans f_m_heardMany
      replace f_x_now := (hs.o gx trivial rfl).1.trans f_x_now
      replace f_x_personCount := (hs.o gx trivial rfl).1.trans f_x_personCount
      replace f_x_claimCount := (hs.o gx trivial rfl).1.trans f_x_claimCount
      replace f_mw := (hs.o gm trivial rfl).2.trans f_mw
      replace f_mr := (hs.o gm trivial rfl).2.trans f_mr
      replace f_mp := (hs.o gm trivial rfl).2.trans f_mp
      replace f_mn := (hs.o gm trivial rfl).2.trans f_mn
      replace f_ml := (hs.o gm trivial rfl).2.trans f_ml
      replace f_mh := (hs.o gm trivial rfl).2.trans f_mh
      replace f_mt := (hs.o gm trivial rfl).2.trans f_mt
      replace f_m_fou := (hs.o gm trivial rfl).2.trans f_m_fou
      replace f_qo_ln := (hs.o gx trivial rfl).2.trans f_qo_ln
      replace f_o_ln := (hs.o g_qo_ln trivial rfl).1.trans f_o_ln
      replace f_o_lsd := (hs.o g_qw trivial rfl).1.trans f_o_lsd
      replace f_o_wkm := (hs.o g_qw trivial rfl).1.trans f_o_wkm
      replace f_b_of := (hs.o g_qo_ln trivial rfl).2.trans f_b_of
      replace f_m_of := (hs.o gm trivial rfl).2.trans f_m_of
      replace f_b_wf := (hs.o g_qo_ln trivial rfl).2.trans f_b_wf
      replace f_m_wf := (hs.o gm trivial rfl).2.trans f_m_wf
      replace f_b_df := (hs.o g_qo_ln trivial rfl).2.trans f_b_df
      replace f_m_df := (hs.o gm trivial rfl).2.trans f_m_df
      replace f_b_kf := (hs.o g_qo_ln trivial rfl).2.trans f_b_kf
      replace f_m_kf := (hs.o gm trivial rfl).2.trans f_m_kf
      replace f_b_sf := (hs.o g_qo_ln trivial rfl).2.trans f_b_sf
      replace f_m_sf := (hs.o gm trivial rfl).2.trans f_m_sf
      replace f_b_bf := (hs.o g_qo_ln trivial rfl).2.trans f_b_bf
      replace f_m_lst := (hs.o gm trivial rfl).2.trans f_m_lst
      replace f_m_dead := (hs.o gm trivial rfl).2.trans f_m_dead
      replace f_m_isj := (hs.o gm trivial rfl).2.trans f_m_isj
      replace f_m_dox := (hs.o gm trivial rfl).2.trans f_m_dox
      replace f_m_doy := (hs.o gm trivial rfl).2.trans f_m_doy
      replace f_qlt := (hs.o g_qw trivial rfl).2.trans f_qlt
      replace f_qlf := (hs.o g_qw trivial rfl).2.trans f_qlf
      replace f_m_wkd := (hs.o gm trivial rfl).2.trans f_m_wkd
      replace f_m_aga := (hs.o gm trivial rfl).2.trans f_m_aga
      replace pf_qa : ∀ j : Nat, (j : Int) < (h_397.2.1 ax 6).toInt → h_397.2.2 qa j ≠ none := by
        intro j hj; rw [(hs.o gx trivial rfl).1] at hj; rw [(hs.a g_qa rfl j).2]; exact pf_qa j hj
      replace pf_qp : ∀ j : Nat, (j : Int) < (h_397.2.1 ax 8).toInt → h_397.2.2 qp j ≠ none := by
        intro j hj; rw [(hs.o gx trivial rfl).1] at hj; rw [(hs.a g_qp rfl j).2]; exact pf_qp j hj
      replace pf_qc : ∀ j : Nat, (j : Int) < (h_397.2.1 ax 11).toInt → h_397.2.2 qc j ≠ none := by
        intro j hj; rw [(hs.o gx trivial rfl).1] at hj; rw [(hs.a g_qc rfl j).2]; exact pf_qc j hj
      replace pf_ql : ∀ j : Nat, (j : Int) < (h_397.2.1 qw 0).toInt → h_397.2.2 ql j ≠ none := by
        intro j hj; rw [(hs.o g_qw trivial rfl).1] at hj; rw [(hs.a g_ql rfl j).2]; exact pf_ql j hj
      replace cl_lst : hx_col 8 h_397 ql 0 = c_lst := (hx_col_S hs hTo g_ql tt_40 tt_2 rfl rfl).trans cl_lst
      replace cl_dead : hx_col 40 h_397 qp 7 = c_dead := (hx_col_S hs hTo g_qp tt_44 tt_4 rfl rfl).trans cl_dead
      replace cl_isj : hx_col 40 h_397 qp 8 = c_isj := (hx_col_S hs hTo g_qp tt_44 tt_4 rfl rfl).trans cl_isj
      replace cl_dox : hx_col 40 h_397 qp 5 = c_dox := (hx_col_S hs hTo g_qp tt_44 tt_4 rfl rfl).trans cl_dox
      replace cl_doy : hx_col 40 h_397 qp 6 = c_doy := (hx_col_S hs hTo g_qp tt_44 tt_4 rfl rfl).trans cl_doy
      replace cl_fou : hx_col 100 h_397 qc 10 = c_fou := (hx_col_S hs hTo g_qc tt_45 tt_2 rfl rfl).trans cl_fou
      replace cl_tri : hx_col 100 h_397 qc 9 = c_tri := (hx_col_S hs hTo g_qc tt_45 tt_2 rfl rfl).trans cl_tri
      replace nu_qp : hx_num 40 h_397 qp 0 (np.toInt) := hx_num_S hs hTo g_qp tt_44 tt_4 rfl rfl nu_qp
      replace nu_qc : hx_num 100 h_397 qc 0 (c0.toInt) := hx_num_S hs hTo g_qc tt_45 tt_2 rfl rfl nu_qc
      replace sb_list : hx_LQ 8 100 h_397 ql qc := hx_LQ_S hs g_ql g_qc rfl rfl sb_list
      replace hDF : hw_DF h_397 qc qp 2 F_aga c0.toInt := hw_DF_S hs hTo g_qc g_qp tt_45 tt_2 rfl rfl rfl hDF
      replace n_mw : h_397.2.1 mw = F_mw := (funext fun j => (hs.a g_mw rfl j).1).trans n_mw
      replace n_mr : h_397.2.1 mr = F_mr := (funext fun j => (hs.a g_mr rfl j).1).trans n_mr
      replace n_mp : h_397.2.1 mp = F_mp := (funext fun j => (hs.a g_mp rfl j).1).trans n_mp
      replace n_mn : h_397.2.1 mn = F_mn := (funext fun j => (hs.a g_mn rfl j).1).trans n_mn
      replace n_ml : h_397.2.1 ml = F_ml := (funext fun j => (hs.a g_ml rfl j).1).trans n_ml
      replace n_mh : h_397.2.1 mh = F_mh := (funext fun j => (hs.a g_mh rfl j).1).trans n_mh
      replace n_mt : h_397.2.1 mt = F_mt := (funext fun j => (hs.a g_mt rfl j).1).trans n_mt
      replace n_m_fou : h_397.2.1 m_fou = F_m_fou := (funext fun j => (hs.a g_m_fou rfl j).1).trans n_m_fou
      replace n_b_of : h_397.2.1 b_of = B_of := (funext fun j => (hs.a g_b_of rfl j).1).trans n_b_of
      replace n_m_of : h_397.2.1 m_of = F_of := (funext fun j => (hs.a g_m_of rfl j).1).trans n_m_of
      replace n_b_wf : h_397.2.1 b_wf = B_wf := (funext fun j => (hs.a g_b_wf rfl j).1).trans n_b_wf
      replace n_m_wf : h_397.2.1 m_wf = F_wf := (funext fun j => (hs.a g_m_wf rfl j).1).trans n_m_wf
      replace n_b_df : h_397.2.1 b_df = B_df := (funext fun j => (hs.a g_b_df rfl j).1).trans n_b_df
      replace n_m_df : h_397.2.1 m_df = F_df := (funext fun j => (hs.a g_m_df rfl j).1).trans n_m_df
      replace n_b_kf : h_397.2.1 b_kf = B_kf := (funext fun j => (hs.a g_b_kf rfl j).1).trans n_b_kf
      replace n_m_kf : h_397.2.1 m_kf = F_kf := (funext fun j => (hs.a g_m_kf rfl j).1).trans n_m_kf
      replace n_b_sf : h_397.2.1 b_sf = B_sf := (funext fun j => (hs.a g_b_sf rfl j).1).trans n_b_sf
      replace n_m_sf : h_397.2.1 m_sf = F_sf := (funext fun j => (hs.a g_m_sf rfl j).1).trans n_m_sf
      replace n_b_bf : h_397.2.1 b_bf = bfL := (funext fun j => (hs.a g_b_bf rfl j).1).trans n_b_bf
      replace n_lst : h_397.2.1 m_lst = F_lst := (funext fun j => (hs.a g_m_lst rfl j).1).trans n_lst
      replace n_dead : h_397.2.1 m_dead = F_dead := (funext fun j => (hs.a g_m_dead rfl j).1).trans n_dead
      replace n_isj : h_397.2.1 m_isj = F_isj := (funext fun j => (hs.a g_m_isj rfl j).1).trans n_isj
      replace n_dox : h_397.2.1 m_dox = F_dox := (funext fun j => (hs.a g_m_dox rfl j).1).trans n_dox
      replace n_doy : h_397.2.1 m_doy = F_doy := (funext fun j => (hs.a g_m_doy rfl j).1).trans n_doy
      replace n_qlt : h_397.2.1 qlt = F_qlt := (funext fun j => (hs.a g_qlt rfl j).1).trans n_qlt
      replace n_m_wkd : h_397.2.1 m_wkd = F_m_wkd := (funext fun j => (hs.a g_m_wkd rfl j).1).trans n_m_wkd
      replace n_aga : h_397.2.1 m_aga = F_aga := (funext fun j => (hs.a g_m_aga rfl j).1).trans n_aga
      replace gx := gx.S hs
      replace gm := gm.S hs
      replace g_qa := g_qa.S hs
      replace g_qp := g_qp.S hs
      replace g_qc := g_qc.S hs
      replace g_qh := g_qh.S hs
      replace g_qw := g_qw.S hs
      replace g_ql := g_ql.S hs
      replace g_mw := g_mw.S hs
      replace g_mr := g_mr.S hs
      replace g_mp := g_mp.S hs
      replace g_mn := g_mn.S hs
      replace g_ml := g_ml.S hs
      replace g_mh := g_mh.S hs
      replace g_mt := g_mt.S hs
      replace g_m_fou := g_m_fou.S hs
      replace g_qo_ln := g_qo_ln.S hs
      replace g_b_of := g_b_of.S hs
      replace g_m_of := g_m_of.S hs
      replace g_b_wf := g_b_wf.S hs
      replace g_m_wf := g_m_wf.S hs
      replace g_b_df := g_b_df.S hs
      replace g_m_df := g_m_df.S hs
      replace g_b_kf := g_b_kf.S hs
      replace g_m_kf := g_m_kf.S hs
      replace g_b_sf := g_b_sf.S hs
      replace g_m_sf := g_m_sf.S hs
      replace g_b_bf := g_b_bf.S hs
      replace g_m_lst := g_m_lst.S hs
      replace g_m_dead := g_m_dead.S hs
      replace g_m_isj := g_m_isj.S hs
      replace g_m_dox := g_m_dox.S hs
      replace g_m_doy := g_m_doy.S hs
      replace g_qlt := g_qlt.S hs
      replace g_qlf := g_qlf.S hs
      replace g_m_wkd := g_m_wkd.S hs
      replace g_m_aga := g_m_aga.S hs
      have pf_401 : ∀ j : Nat, (j : Int) < (h_397.2.1 ax 13).toInt → h_397.2.2 qh j ≠ none := pf_401
      refine lv_pop hx hb dL_law_843 rfl ?_
      refine lv_aload_n hx hb dL_law_844 rfl (lv_at hl 1 rfl) ?_
      refine lv_aload_n hx hb dL_law_845 rfl (lv_at hl 3 rfl) ?_
      refine lv_iload_n hx hb dL_law_846 rfl (lv_at hl 0 rfl) ?_
      refine lv_iconst (v := 1) hx hb dL_law_847 (by decide) ?_
      refine lv_iadd hx hb dL_law_848 ?_
      refine lv_topi (fun x_402 ex_402 => ?_)
      have zx_402 : x_402.toInt = i.toInt + 1 := by rw [ex_402]; exact i32_add rfl (by decide) (by omega) (by omega)
      obtain rfl : x_386 = x_402 := ex_386.trans ex_402.symm
      refine va_sld hx hb hX hbl hbA hW.2.2.2.1 (vp_in_iff.mpr ⟨by omega, by omega⟩) dL_law_849 ?_
      refine lv_topi (fun x_403 ex_403 => ?_)
      obtain rfl : x_387 = x_403 := ex_387.trans ex_403.symm
      refine lv_aload_n hx hb dL_law_850 rfl (lv_at hl 3 rfl) ?_
      refine lv_iload_n hx hb dL_law_851 rfl (lv_at hl 0 rfl) ?_
      refine lv_iconst (v := 2) hx hb dL_law_852 (by decide) ?_
      refine lv_iadd hx hb dL_law_853 ?_
      refine lv_topi (fun x_404 ex_404 => ?_)
      have zx_404 : x_404.toInt = i.toInt + 2 := by rw [ex_404]; exact i32_add rfl (by decide) (by omega) (by omega)
      obtain rfl : x_388 = x_404 := ex_388.trans ex_404.symm
      refine va_sld hx hb hX hbl hbA hW.2.2.2.1 (vp_in_iff.mpr ⟨by omega, by omega⟩) dL_law_854 ?_
      refine lv_topi (fun x_405 ex_405 => ?_)
      obtain rfl : x_389 = x_405 := ex_389.trans ex_405.symm
      have jn_863 : ∀ (xj_406 : Int32) (ls : Array Slot), 0 ≤ xj_406.toInt → xj_406.toInt ≤ 1 → (x_389.toInt = 0 ∧ xj_406.toInt = 0) ∨ (x_389.toInt ≠ 0 ∧ xj_406.toInt = 1) → lv_has ls 4 [(3, .int i), (2, .ref am), (1, .ref ax), (0, .ref b)] → W p l e room_1 s m #[Value.ref b] below meth c H locs (CC + 0) (SS + 0) (lw_Z below #[Value.ref b] s) (F0 m 863 ls [.int xj_406, .int x_387, .ref am]) := by
        intro xj_406 ls blxj_406 buxj_406 jcxj_406 hl
        obtain rfl : xj_390 = xj_406 := Int32.toInt_inj.mp (by omega)
        refine lv_aload_n hx hb dL_law_863 rfl (lv_at hl 3 rfl) ?_
        refine lv_iload_n hx hb dL_law_864 rfl (lv_at hl 0 rfl) ?_
        refine lv_iconst (v := 3) hx hb dL_law_865 (by decide) ?_
        refine lv_iadd hx hb dL_law_866 ?_
        refine lv_topi (fun x_407 ex_407 => ?_)
        have zx_407 : x_407.toInt = i.toInt + 3 := by rw [ex_407]; exact i32_add rfl (by decide) (by omega) (by omega)
        obtain rfl : x_391 = x_407 := ex_391.trans ex_407.symm
        refine va_sld hx hb hX hbl hbA hW.2.2.2.1 (vp_in_iff.mpr ⟨by omega, by omega⟩) dL_law_867 ?_
        refine lv_topi (fun x_408 ex_408 => ?_)
        obtain rfl : x_392 = x_408 := ex_392.trans ex_408.symm
        have jn_876 : ∀ (xj_409 : Int32) (ls : Array Slot), 0 ≤ xj_409.toInt → xj_409.toInt ≤ 1 → (x_392.toInt = 0 ∧ xj_409.toInt = 0) ∨ (x_392.toInt ≠ 0 ∧ xj_409.toInt = 1) → lv_has ls 4 [(3, .int i), (2, .ref am), (1, .ref ax), (0, .ref b)] → W p l e room_1 s m #[Value.ref b] below meth c H locs (CC + 0) (SS + 0) (lw_Z below #[Value.ref b] s) (F0 m 876 ls [.int xj_409, .int xj_390, .int x_387, .ref am]) := by
          intro xj_409 ls blxj_409 buxj_409 jcxj_409 hl
          obtain rfl : xj_393 = xj_409 := Int32.toInt_inj.mp (by omega)
          refine lv_aload_n hx hb dL_law_876 rfl (lv_at hl 3 rfl) ?_
          refine lv_iload_n hx hb dL_law_877 rfl (lv_at hl 0 rfl) ?_
          refine lv_iconst (v := 4) hx hb dL_law_878 (by decide) ?_
          refine lv_iadd hx hb dL_law_879 ?_
          refine lv_topi (fun x_410 ex_410 => ?_)
          have zx_410 : x_410.toInt = i.toInt + 4 := by rw [ex_410]; exact i32_add rfl (by decide) (by omega) (by omega)
          obtain rfl : x_394 = x_410 := ex_394.trans ex_410.symm
          refine va_sld hx hb hX hbl hbA hW.2.2.2.1 (vp_in_iff.mpr ⟨by omega, by omega⟩) dL_law_880 ?_
          refine lv_topi (fun x_411 ex_411 => ?_)
          obtain rfl : x_395 = x_411 := ex_395.trans ex_411.symm
          have hTo := hT
          refine hx_goi (hx_runV (As := [.int x_387, .int xj_390, .int xj_393, .int x_395]) (rest := []) ⟨hx, hb, hml, hown, hts⟩ hW gm tt_10 (T := TX10) (N := 98) rfl (t_X10_hear_2 l dC dI dA L_396 h_397 H.size am x_387 xj_390 xj_393 x_395 hT gm mn g_mn f_mn mp g_mp f_mp mh g_mh f_mh ml g_ml f_ml m_fou g_m_fou f_m_fou F_mn n_mn F_mp n_mp F_mh n_mh F_ml n_ml F_m_fou n_m_fou a0 f_m_acts c0 f_m_claims m0 f_m_heardMany hRP hPL hHC) (cwV 4 hts (hx_gV kw_1601 kw_1598 kw_1599 kw_1600 kw_103) rfl rfl rfl (by decide +kernel) ⟨Nat.le_of_ble_eq_true rfl, Nat.le_of_ble_eq_true rfl⟩) rfl hl.1 rfl (Nat.le_of_ble_eq_true rfl) dL_law_881 ⟨(show CC + 0 + 0 ≤ 600000 from by omega), (show SS + 0 + 0 ≤ 7302250 from by omega)⟩) hW (fun r_414 L_412 h_413 H locs p_415 hW => ?_)
          obtain ⟨⟨w_417, w_418, fw_417, fw_418, hr_416⟩, hT, hs⟩ := p_415
          replace hT : hx_T T_tb L_412 h_413 := hT
          replace hs : hx_S T_tb [(10, 57), (71, 0), (82, 0), (86, 0), (87, 0), (88, 0), (92, 0), (98, 0), (99, 0)] L_396 h_397 L_412 h_413 := hs
          replace f_qa := (hs.o gx trivial rfl).2.trans f_qa
          replace f_qp := (hs.o gx trivial rfl).2.trans f_qp
          replace f_qc := (hs.o gx trivial rfl).2.trans f_qc
          replace f_qh := (hs.o gx trivial rfl).2.trans f_qh
          replace f_qw := (hs.o gx trivial rfl).2.trans f_qw
          replace f_ql := (hs.o g_qw trivial rfl).2.trans f_ql
          replace f_m_now := (hs.o gm trivial rfl).1.trans f_m_now
          replace f_m_persons := (hs.o gm trivial rfl).1.trans f_m_persons
          replace f_m_claims := (hs.o gm trivial rfl).1.trans f_m_claims
          replace f_m_lines := (hs.o gm trivial rfl).1.trans f_m_lines
          replace f_m_listed := (hs.o gm trivial rfl).1.trans f_m_listed
          replace f_m_walkedMany := (hs.o gm trivial rfl).1.trans f_m_walkedMany
          replace f_m_acts := (hs.o gm trivial rfl).1.trans f_m_acts
          replace f_x_now := (hs.o gx trivial rfl).1.trans f_x_now
          replace f_x_personCount := (hs.o gx trivial rfl).1.trans f_x_personCount
          replace f_x_claimCount := (hs.o gx trivial rfl).1.trans f_x_claimCount
          replace f_mw := (hs.o gm trivial rfl).2.trans f_mw
          replace f_mr := (hs.o gm trivial rfl).2.trans f_mr
          replace f_mp := (hs.o gm trivial rfl).2.trans f_mp
          replace f_mn := (hs.o gm trivial rfl).2.trans f_mn
          replace f_ml := (hs.o gm trivial rfl).2.trans f_ml
          replace f_mh := (hs.o gm trivial rfl).2.trans f_mh
          replace f_mt := (hs.o gm trivial rfl).2.trans f_mt
          replace f_m_fou := (hs.o gm trivial rfl).2.trans f_m_fou
          replace f_qo_ln := (hs.o gx trivial rfl).2.trans f_qo_ln
          replace f_o_ln := (hs.o g_qo_ln trivial rfl).1.trans f_o_ln
          replace f_o_lsd := (hs.o g_qw trivial rfl).1.trans f_o_lsd
          replace f_o_wkm := (hs.o g_qw trivial rfl).1.trans f_o_wkm
          replace f_b_of := (hs.o g_qo_ln trivial rfl).2.trans f_b_of
          replace f_m_of := (hs.o gm trivial rfl).2.trans f_m_of
          replace f_b_wf := (hs.o g_qo_ln trivial rfl).2.trans f_b_wf
          replace f_m_wf := (hs.o gm trivial rfl).2.trans f_m_wf
          replace f_b_df := (hs.o g_qo_ln trivial rfl).2.trans f_b_df
          replace f_m_df := (hs.o gm trivial rfl).2.trans f_m_df
          replace f_b_kf := (hs.o g_qo_ln trivial rfl).2.trans f_b_kf
          replace f_m_kf := (hs.o gm trivial rfl).2.trans f_m_kf
          replace f_b_sf := (hs.o g_qo_ln trivial rfl).2.trans f_b_sf
          replace f_m_sf := (hs.o gm trivial rfl).2.trans f_m_sf
          replace f_b_bf := (hs.o g_qo_ln trivial rfl).2.trans f_b_bf
          replace f_m_lst := (hs.o gm trivial rfl).2.trans f_m_lst
          replace f_m_dead := (hs.o gm trivial rfl).2.trans f_m_dead
          replace f_m_isj := (hs.o gm trivial rfl).2.trans f_m_isj
          replace f_m_dox := (hs.o gm trivial rfl).2.trans f_m_dox
          replace f_m_doy := (hs.o gm trivial rfl).2.trans f_m_doy
          replace f_qlt := (hs.o g_qw trivial rfl).2.trans f_qlt
          replace f_qlf := (hs.o g_qw trivial rfl).2.trans f_qlf
          replace f_m_wkd := (hs.o gm trivial rfl).2.trans f_m_wkd
          replace f_m_aga := (hs.o gm trivial rfl).2.trans f_m_aga
          replace pf_qa : ∀ j : Nat, (j : Int) < (h_413.2.1 ax 6).toInt → h_413.2.2 qa j ≠ none := by
            intro j hj; rw [(hs.o gx trivial rfl).1] at hj; rw [(hs.a g_qa rfl j).2]; exact pf_qa j hj
          replace pf_qp : ∀ j : Nat, (j : Int) < (h_413.2.1 ax 8).toInt → h_413.2.2 qp j ≠ none := by
            intro j hj; rw [(hs.o gx trivial rfl).1] at hj; rw [(hs.a g_qp rfl j).2]; exact pf_qp j hj
          replace pf_qc : ∀ j : Nat, (j : Int) < (h_413.2.1 ax 11).toInt → h_413.2.2 qc j ≠ none := by
            intro j hj; rw [(hs.o gx trivial rfl).1] at hj; rw [(hs.a g_qc rfl j).2]; exact pf_qc j hj
          replace pf_ql : ∀ j : Nat, (j : Int) < (h_413.2.1 qw 0).toInt → h_413.2.2 ql j ≠ none := by
            intro j hj; rw [(hs.o g_qw trivial rfl).1] at hj; rw [(hs.a g_ql rfl j).2]; exact pf_ql j hj
          replace pf_401 : ∀ j : Nat, (j : Int) < (h_413.2.1 ax 13).toInt → h_413.2.2 qh j ≠ none := by
            intro j hj; rw [(hs.o gx trivial rfl).1] at hj; rw [(hs.a g_qh rfl j).2]; exact pf_401 j hj
          replace cl_lst : hx_col 8 h_413 ql 0 = c_lst := (hx_col_S hs hTo g_ql tt_40 tt_2 rfl rfl).trans cl_lst
          replace cl_dead : hx_col 40 h_413 qp 7 = c_dead := (hx_col_S hs hTo g_qp tt_44 tt_4 rfl rfl).trans cl_dead
          replace cl_isj : hx_col 40 h_413 qp 8 = c_isj := (hx_col_S hs hTo g_qp tt_44 tt_4 rfl rfl).trans cl_isj
          replace cl_dox : hx_col 40 h_413 qp 5 = c_dox := (hx_col_S hs hTo g_qp tt_44 tt_4 rfl rfl).trans cl_dox
          replace cl_doy : hx_col 40 h_413 qp 6 = c_doy := (hx_col_S hs hTo g_qp tt_44 tt_4 rfl rfl).trans cl_doy
          replace cl_fou : hx_col 100 h_413 qc 10 = c_fou := (hx_col_S hs hTo g_qc tt_45 tt_2 rfl rfl).trans cl_fou
          replace cl_tri : hx_col 100 h_413 qc 9 = c_tri := (hx_col_S hs hTo g_qc tt_45 tt_2 rfl rfl).trans cl_tri
          replace nu_qp : hx_num 40 h_413 qp 0 (np.toInt) := hx_num_S hs hTo g_qp tt_44 tt_4 rfl rfl nu_qp
          replace nu_qc : hx_num 100 h_413 qc 0 (c0.toInt) := hx_num_S hs hTo g_qc tt_45 tt_2 rfl rfl nu_qc
          replace sb_list : hx_LQ 8 100 h_413 ql qc := hx_LQ_S hs g_ql g_qc rfl rfl sb_list
          replace hDF : hw_DF h_413 qc qp 2 F_aga c0.toInt := hw_DF_S hs hTo g_qc g_qp tt_45 tt_2 rfl rfl rfl hDF
          replace n_mw : h_413.2.1 mw = F_mw := (funext fun j => (hs.a g_mw rfl j).1).trans n_mw
          replace n_mr : h_413.2.1 mr = F_mr := (funext fun j => (hs.a g_mr rfl j).1).trans n_mr
          replace n_mp : h_413.2.1 mp = F_mp := (funext fun j => (hs.a g_mp rfl j).1).trans n_mp
          replace n_mn : h_413.2.1 mn = F_mn := (funext fun j => (hs.a g_mn rfl j).1).trans n_mn
          replace n_ml : h_413.2.1 ml = F_ml := (funext fun j => (hs.a g_ml rfl j).1).trans n_ml
          replace n_mt : h_413.2.1 mt = F_mt := (funext fun j => (hs.a g_mt rfl j).1).trans n_mt
          replace n_m_fou : h_413.2.1 m_fou = F_m_fou := (funext fun j => (hs.a g_m_fou rfl j).1).trans n_m_fou
          replace n_b_of : h_413.2.1 b_of = B_of := (funext fun j => (hs.a g_b_of rfl j).1).trans n_b_of
          replace n_m_of : h_413.2.1 m_of = F_of := (funext fun j => (hs.a g_m_of rfl j).1).trans n_m_of
          replace n_b_wf : h_413.2.1 b_wf = B_wf := (funext fun j => (hs.a g_b_wf rfl j).1).trans n_b_wf
          replace n_m_wf : h_413.2.1 m_wf = F_wf := (funext fun j => (hs.a g_m_wf rfl j).1).trans n_m_wf
          replace n_b_df : h_413.2.1 b_df = B_df := (funext fun j => (hs.a g_b_df rfl j).1).trans n_b_df
          replace n_m_df : h_413.2.1 m_df = F_df := (funext fun j => (hs.a g_m_df rfl j).1).trans n_m_df
          replace n_b_kf : h_413.2.1 b_kf = B_kf := (funext fun j => (hs.a g_b_kf rfl j).1).trans n_b_kf
          replace n_m_kf : h_413.2.1 m_kf = F_kf := (funext fun j => (hs.a g_m_kf rfl j).1).trans n_m_kf
          replace n_b_sf : h_413.2.1 b_sf = B_sf := (funext fun j => (hs.a g_b_sf rfl j).1).trans n_b_sf
          replace n_m_sf : h_413.2.1 m_sf = F_sf := (funext fun j => (hs.a g_m_sf rfl j).1).trans n_m_sf
          replace n_b_bf : h_413.2.1 b_bf = bfL := (funext fun j => (hs.a g_b_bf rfl j).1).trans n_b_bf
          replace n_lst : h_413.2.1 m_lst = F_lst := (funext fun j => (hs.a g_m_lst rfl j).1).trans n_lst
          replace n_dead : h_413.2.1 m_dead = F_dead := (funext fun j => (hs.a g_m_dead rfl j).1).trans n_dead
          replace n_isj : h_413.2.1 m_isj = F_isj := (funext fun j => (hs.a g_m_isj rfl j).1).trans n_isj
          replace n_dox : h_413.2.1 m_dox = F_dox := (funext fun j => (hs.a g_m_dox rfl j).1).trans n_dox
          replace n_doy : h_413.2.1 m_doy = F_doy := (funext fun j => (hs.a g_m_doy rfl j).1).trans n_doy
          replace n_qlt : h_413.2.1 qlt = F_qlt := (funext fun j => (hs.a g_qlt rfl j).1).trans n_qlt
          replace n_m_wkd : h_413.2.1 m_wkd = F_m_wkd := (funext fun j => (hs.a g_m_wkd rfl j).1).trans n_m_wkd
          replace n_aga : h_413.2.1 m_aga = F_aga := (funext fun j => (hs.a g_m_aga rfl j).1).trans n_aga
          replace gx := gx.S hs
          replace gm := gm.S hs
          replace g_qa := g_qa.S hs
          replace g_qp := g_qp.S hs
          replace g_qc := g_qc.S hs
          replace g_qh := g_qh.S hs
          replace g_qw := g_qw.S hs
          replace g_ql := g_ql.S hs
          replace g_mw := g_mw.S hs
          replace g_mr := g_mr.S hs
          replace g_mp := g_mp.S hs
          replace g_mn := g_mn.S hs
          replace g_ml := g_ml.S hs
          replace g_mh := g_mh.S hs
          replace g_mt := g_mt.S hs
          replace g_m_fou := g_m_fou.S hs
          replace g_qo_ln := g_qo_ln.S hs
          replace g_b_of := g_b_of.S hs
          replace g_m_of := g_m_of.S hs
          replace g_b_wf := g_b_wf.S hs
          replace g_m_wf := g_m_wf.S hs
          replace g_b_df := g_b_df.S hs
          replace g_m_df := g_m_df.S hs
          replace g_b_kf := g_b_kf.S hs
          replace g_m_kf := g_m_kf.S hs
          replace g_b_sf := g_b_sf.S hs
          replace g_m_sf := g_m_sf.S hs
          replace g_b_bf := g_b_bf.S hs
          replace g_m_lst := g_m_lst.S hs
          replace g_m_dead := g_m_dead.S hs
          replace g_m_isj := g_m_isj.S hs
          replace g_m_dox := g_m_dox.S hs
          replace g_m_doy := g_m_doy.S hs
          replace g_qlt := g_qlt.S hs
          replace g_qlf := g_qlf.S hs
          replace g_m_wkd := g_m_wkd.S hs
          replace g_m_aga := g_m_aga.S hs
          have fw_417 : h_413.2.1 am 57 = w_417 := fw_417
          have bw_417 := hT.gi gm tt_10 (k := 57) rfl
          rw [fw_417] at bw_417
          have bw_417 : 0 ≤ w_417.toInt ∧ w_417.toInt ≤ 100 := bw_417
          have fw_418 : h_413.2.1 mh = w_418 := fw_418
          refine lv_pop hx hb dL_law_884 rfl ?_
          refine lv_goto (tgt := 1379) hx hb dL_law_885 (by decide) ?_
          refine W.widen (k := CC + 3) (n := SS + 179) (by omega) (by omega) ?_
          exact kk L_412 h_413 H locs ls hW ⟨hT, gx, gm, ⟨f_x_now.trans f_m_now.symm, f_x_personCount.trans f_m_persons.symm, f_x_claimCount.trans f_m_claims.symm, hx_ob f_qo_ln (f_o_ln.trans f_m_lines.symm), hx_ob f_qw (f_o_lsd.trans f_m_listed.symm), hx_ob f_qw (f_o_wkm.trans f_m_walkedMany.symm), hx_ob f_qp (by rw [f_x_personCount]; exact nu_qp), hx_ob f_qc (by rw [f_x_claimCount]; exact nu_qc), (fun b a r hb ha hr => by obtain rfl : qo_ln = b := Option.some.inj (f_qo_ln.symm.trans hb); obtain rfl : b_of = a := Option.some.inj (f_b_of.symm.trans ha); obtain rfl : m_of = r := Option.some.inj (f_m_of.symm.trans hr); rw [n_b_of, n_m_of, f_o_ln]; exact eb_of), (fun b a r hb ha hr => by obtain rfl : qo_ln = b := Option.some.inj (f_qo_ln.symm.trans hb); obtain rfl : b_wf = a := Option.some.inj (f_b_wf.symm.trans ha); obtain rfl : m_wf = r := Option.some.inj (f_m_wf.symm.trans hr); rw [n_b_wf, n_m_wf, f_o_ln]; exact eb_wf), (fun b a r hb ha hr => by obtain rfl : qo_ln = b := Option.some.inj (f_qo_ln.symm.trans hb); obtain rfl : b_df = a := Option.some.inj (f_b_df.symm.trans ha); obtain rfl : m_df = r := Option.some.inj (f_m_df.symm.trans hr); rw [n_b_df, n_m_df, f_o_ln]; exact eb_df), (fun b a r hb ha hr => by obtain rfl : qo_ln = b := Option.some.inj (f_qo_ln.symm.trans hb); obtain rfl : b_kf = a := Option.some.inj (f_b_kf.symm.trans ha); obtain rfl : m_kf = r := Option.some.inj (f_m_kf.symm.trans hr); rw [n_b_kf, n_m_kf, f_o_ln]; exact eb_kf), (fun b a r hb ha hr => by obtain rfl : qo_ln = b := Option.some.inj (f_qo_ln.symm.trans hb); obtain rfl : b_sf = a := Option.some.inj (f_b_sf.symm.trans ha); obtain rfl : m_sf = r := Option.some.inj (f_m_sf.symm.trans hr); rw [n_b_sf, n_m_sf, f_o_ln]; exact eb_sf), (fun b a r hb ha hr => by obtain rfl : qo_ln = b := Option.some.inj (f_qo_ln.symm.trans hb); obtain rfl : b_df = a := Option.some.inj (f_b_df.symm.trans ha); obtain rfl : b_bf = r := Option.some.inj (f_b_bf.symm.trans hr); rw [n_b_df, n_b_bf, f_o_ln]; exact ⟨hBD, hDY⟩), (fun w q c hw hq hc => by obtain rfl : qw = w := Option.some.inj (f_qw.symm.trans hw); obtain rfl : ql = q := Option.some.inj (f_ql.symm.trans hq); obtain rfl : qc = c := Option.some.inj (f_qc.symm.trans hc); exact sb_list), (fun w q r hw hq hr => by obtain rfl : qw = w := Option.some.inj (f_qw.symm.trans hw); obtain rfl : ql = q := Option.some.inj (f_ql.symm.trans hq); obtain rfl : m_lst = r := Option.some.inj (f_m_lst.symm.trans hr); rw [cl_lst, n_lst]; exact eq_lst), (fun w q r hw hq hr => by obtain rfl : qw = w := Option.some.inj (f_qw.symm.trans hw); obtain rfl : qlt = q := Option.some.inj (f_qlt.symm.trans hq); obtain rfl : m_wkd = r := Option.some.inj (f_m_wkd.symm.trans hr); rw [n_qlt, n_m_wkd, f_o_wkm]; exact eb_wkd), (fun c q a hc hq ha => by obtain rfl : qc = c := Option.some.inj (f_qc.symm.trans hc); obtain rfl : qp = q := Option.some.inj (f_qp.symm.trans hq); obtain rfl : m_aga = a := Option.some.inj (f_m_aga.symm.trans ha); rw [n_aga, f_x_claimCount]; exact hw_DF_e hDF rfl rfl), hx_ob2 f_qp f_m_dead (by rw [cl_dead, n_dead]; exact eq_dead), hx_ob2 f_qp f_m_isj (by rw [cl_isj, n_isj]; exact eq_isj), hx_ob2 f_qp f_m_dox (by rw [cl_dox, n_dox]; exact eq_dox), hx_ob2 f_qp f_m_doy (by rw [cl_doy, n_doy]; exact eq_doy), hx_ob2 f_qc f_m_fou (by rw [cl_fou, n_m_fou]; exact eq_fou), hx_ob2 f_qc f_mt (by rw [cl_tri, n_mt]; exact eq_tri), trivial⟩, ⟨hx_ob f_qa pf_qa, hx_ob f_qp pf_qp, hx_ob f_qc pf_qc, hx_ob f_qh pf_401, (fun w q hw hq => by obtain rfl : qw = w := Option.some.inj (f_qw.symm.trans hw); obtain rfl : ql = q := Option.some.inj (f_ql.symm.trans hq); exact pf_ql)⟩, ⟨hx_ob f_mw (by rw [n_mw]; exact hwd), hx_ob f_mr (by rw [n_mr, f_m_acts]; exact hWK), hx_ob2 f_mp f_mn (by rw [n_mp, n_mn, f_m_acts]; exact hRP), hx_ob f_ml (by rw [n_ml, f_m_claims, f_m_acts]; exact hPL), hx_ob f_mh (by rw [fw_418, fw_417, f_m_claims]; exact hr_416.1), hx_ob f_mt (by rw [n_mt]; exact (hx_TR_le hTR (by omega))), hx_ob2 f_mh f_m_fou (by rw [fw_418, n_m_fou, f_m_claims]; exact (hx_HF_h hHF hr_416.2))⟩⟩ hl
        refine hb_if_eq (zx := x_392.toInt) (tgt := 875) hx hb rfl dL_law_868 (by decide) (fun c_419 => ?_) (fun c_419 => ?_)
        · skip
          refine lv_iconst (v := 0) hx hb dL_law_875 (by decide) ?_
          have zj_876 : (0 : Int32).toInt = 0 := by decide
          exact jn_876 (0 : Int32) ls (by decide) (by decide) (by omega) hl
        · skip
          refine lv_iconst (v := 1) hx hb dL_law_871 (by decide) ?_
          refine lv_goto (tgt := 876) hx hb dL_law_872 (by decide) ?_
          have zj_876 : (1 : Int32).toInt = 1 := by decide
          exact jn_876 (1 : Int32) ls (by decide) (by decide) (by omega) hl
      refine hb_if_eq (zx := x_389.toInt) (tgt := 862) hx hb rfl dL_law_855 (by decide) (fun c_420 => ?_) (fun c_420 => ?_)
      · skip
        refine lv_iconst (v := 0) hx hb dL_law_862 (by decide) ?_
        have zj_863 : (0 : Int32).toInt = 0 := by decide
        exact jn_863 (0 : Int32) ls (by decide) (by decide) (by omega) hl
      · skip
        refine lv_iconst (v := 1) hx hb dL_law_858 (by decide) ?_
        refine lv_goto (tgt := 863) hx hb dL_law_859 (by decide) ?_
        have zj_863 : (1 : Int32).toInt = 1 := by decide
        exact jn_863 (1 : Int32) ls (by decide) (by decide) (by omega) hl
    refine hb_if_eq (zx := x_392.toInt) (tgt := 834) hx hb rfl dL_law_827 (by decide) (fun c_421 => ?_) (fun c_421 => ?_)
    · skip
      refine lv_iconst (v := 0) hx hb dL_law_834 (by decide) ?_
      have zj_835 : (0 : Int32).toInt = 0 := by decide
      exact jn_835 (0 : Int32) ls (by decide) (by decide) (by omega) hl
    · skip
      refine lv_iconst (v := 1) hx hb dL_law_830 (by decide) ?_
      refine lv_goto (tgt := 835) hx hb dL_law_831 (by decide) ?_
      have zj_835 : (1 : Int32).toInt = 1 := by decide
      exact jn_835 (1 : Int32) ls (by decide) (by decide) (by omega) hl
  refine hb_if_eq (zx := x_389.toInt) (tgt := 821) hx hb rfl dL_law_814 (by decide) (fun c_422 => ?_) (fun c_422 => ?_)
  · skip
    refine lv_iconst (v := 0) hx hb dL_law_821 (by decide) ?_
    have zj_822 : (0 : Int32).toInt = 0 := by decide
    exact jn_822 (0 : Int32) ls (by decide) (by decide) (by omega) hl
  · skip
    refine lv_iconst (v := 1) hx hb dL_law_817 (by decide) ?_
    refine lv_goto (tgt := 822) hx hb dL_law_818 (by decide) ?_
    have zj_822 : (1 : Int32).toInt = 1 := by decide
    exact jn_822 (1 : Int32) ls (by decide) (by decide) (by omega) hl

set_option maxHeartbeats 4000000 in
set_option maxRecDepth 100000 in
theorem law_case_14 {p : Program} {e : Env} {s : State} {m : MethodId} {below : List Frame} {meth : Method} {c : Code} (l : Launch) {b LN : Nat} {xs : Nat → Int32} (hx : p.tables.exec = Jvm.exec) (hb : c.code = code) (hr : meth.sig.returnType = ret) (hlocks : meth.locks = false) (hml : c.maxLocals = 4) (hown : s.vm.findClass "SmallCourtLaw" = some m.cls) (hts : ∀ w ∈ hx_all, w.before #[Value.ref b] s = true) (hX : va_X b LN xs s s.heap) (hbl : b < s.heap.size) (hbA : ¬ s.heap.size ≤ b) (hLN : LN ≤ 3584) (dC : Nat → ClassId) (dI : Nat → Nat → Nat) (dA : Nat → ClassId) (b0 : hx_z) (ax am : Nat) (T1 : Int) (hT0 : 0 ≤ T1) (hT1 : T1 ≤ 511) (i : Int32) (hi0 : 0 ≤ i.toInt) (hiL : i.toInt + 7 ≤ LN) (CC SS : Nat) (hCC : CC + 3 ≤ 600000) (hSS : SS + 179 ≤ 7302250) (L1 : List Nat) (hl1 : hx_h) (H : Heap) (locs : List Loc) (ls : Array Slot) (hW : hx_W T_tb (P_ty dA) (dC, dI) vwCl (fun q : Nat => s.heap.size ≤ q) s.heap L1 hl1 s H locs) (hZ : hx_Xt (fun q : Nat => s.heap.size ≤ q) b0 s) (hI : hx_IV T1 ax am L1 hl1) (hl : lv_has ls 4 [(3, .int i), (2, .ref am), (1, .ref ax), (0, .ref b)]) (kk : ∀ (L2 : List Nat) (h2 : hx_h) (H2 : Heap) (locs2 : List Loc) (ls2 : Array Slot), hx_W T_tb (P_ty dA) (dC, dI) vwCl (fun q : Nat => s.heap.size ≤ q) s.heap L2 h2 s H2 locs2 → hx_IV (T1 + 1) ax am L2 h2 → lv_has ls2 4 [(3, .int i), (2, .ref am), (1, .ref ax), (0, .ref b)] → W p l e room_1 s m #[Value.ref b] below meth c H2 locs2 (CC + 3) (SS + 179) (lw_Z below #[Value.ref b] s) (F0 m 1379 ls2 [])) : W p l e room_1 s m #[Value.ref b] below meth c H locs CC SS (lw_Z below #[Value.ref b] s) (F0 m 888 ls []) := by
  obtain ⟨hT, gx, gm, ⟨he_nw, he_np, he_c0, ho_ln, ho_lsd, ho_wkm, hn_qp, hn_qc, hk_of, hk_wf, hk_df, hk_kf, hk_sf, hkBD, hLQ, hLE, hkWD, hkDF, hc_dead, hc_isj, hc_dox, hc_doy, hc_fou, hc_tri, -⟩, ⟨ia, ip, ic, ih, il⟩, ⟨jw, jr, jp, jl, jh, jt, jf⟩⟩ := hI
  obtain ⟨qa, f_qa, g_qa⟩ := hx_rf hT gx tt_9 (k := 5) (u := 43) rfl
  have pf_qa := ia qa f_qa
  obtain ⟨qp, f_qp, g_qp⟩ := hx_rf hT gx tt_9 (k := 7) (u := 44) rfl
  have pf_qp := ip qp f_qp
  obtain ⟨qc, f_qc, g_qc⟩ := hx_rf hT gx tt_9 (k := 10) (u := 45) rfl
  have pf_qc := ic qc f_qc
  obtain ⟨qh, f_qh, g_qh⟩ := hx_rf hT gx tt_9 (k := 12) (u := 46) rfl
  have pf_qh := ih qh f_qh
  obtain ⟨qw, f_qw, g_qw⟩ := hx_rf hT gx tt_9 (k := 19) (u := 8) rfl
  obtain ⟨ql, f_ql, g_ql⟩ := hx_rf hT g_qw tt_8 (k := 3) (u := 40) rfl
  have pf_ql := il qw ql f_qw f_ql
  obtain ⟨nw, f_m_now⟩ : ∃ y : Int32, hl1.2.1 am 0 = y := ⟨_, rfl⟩
  have b_nw := hT.gi gm tt_10 (k := 0) rfl
  rw [f_m_now] at b_nw
  have b_nw : 0 ≤ nw.toInt ∧ nw.toInt ≤ 7999 := b_nw
  obtain ⟨np, f_m_persons⟩ : ∃ y : Int32, hl1.2.1 am 20 = y := ⟨_, rfl⟩
  have b_np := hT.gi gm tt_10 (k := 20) rfl
  rw [f_m_persons] at b_np
  have b_np : 0 ≤ np.toInt ∧ np.toInt ≤ 40 := b_np
  obtain ⟨c0, f_m_claims⟩ : ∃ y : Int32, hl1.2.1 am 36 = y := ⟨_, rfl⟩
  have b_c0 := hT.gi gm tt_10 (k := 36) rfl
  rw [f_m_claims] at b_c0
  have b_c0 : 0 ≤ c0.toInt ∧ c0.toInt ≤ 100 := b_c0
  obtain ⟨ln, f_m_lines⟩ : ∃ y : Int32, hl1.2.1 am 29 = y := ⟨_, rfl⟩
  have b_ln := hT.gi gm tt_10 (k := 29) rfl
  rw [f_m_lines] at b_ln
  have b_ln : 0 ≤ ln.toInt ∧ ln.toInt ≤ 400 := b_ln
  obtain ⟨lsd, f_m_listed⟩ : ∃ y : Int32, hl1.2.1 am 90 = y := ⟨_, rfl⟩
  have b_lsd := hT.gi gm tt_10 (k := 90) rfl
  rw [f_m_listed] at b_lsd
  have b_lsd : 0 ≤ lsd.toInt ∧ lsd.toInt ≤ 8 := b_lsd
  obtain ⟨wkm, f_m_walkedMany⟩ : ∃ y : Int32, hl1.2.1 am 92 = y := ⟨_, rfl⟩
  have b_wkm := hT.gi gm tt_10 (k := 92) rfl
  rw [f_m_walkedMany] at b_wkm
  have b_wkm : 0 ≤ wkm.toInt ∧ wkm.toInt ≤ 8 := b_wkm
  obtain ⟨a0, f_m_acts⟩ : ∃ y : Int32, hl1.2.1 am 1 = y := ⟨_, rfl⟩
  have b_a0 := hT.gi gm tt_10 (k := 1) rfl
  rw [f_m_acts] at b_a0
  have b_a0 : 0 ≤ a0.toInt ∧ a0.toInt ≤ 8 := b_a0
  obtain ⟨m0, f_m_heardMany⟩ : ∃ y : Int32, hl1.2.1 am 57 = y := ⟨_, rfl⟩
  have b_m0 := hT.gi gm tt_10 (k := 57) rfl
  rw [f_m_heardMany] at b_m0
  have b_m0 : 0 ≤ m0.toInt ∧ m0.toInt ≤ 100 := b_m0
  have f_x_now : hl1.2.1 ax 2 = nw := he_nw.trans f_m_now
  have f_x_personCount : hl1.2.1 ax 8 = np := he_np.trans f_m_persons
  have f_x_claimCount : hl1.2.1 ax 11 = c0 := he_c0.trans f_m_claims
  obtain ⟨mw, f_mw, g_mw⟩ := hx_rf hT gm tt_10 (k := 19) (u := 57) rfl
  obtain ⟨F_mw, n_mw⟩ : ∃ g : Nat → Int32, hl1.2.1 mw = g := ⟨_, rfl⟩
  obtain ⟨mr, f_mr, g_mr⟩ := hx_rf hT gm tt_10 (k := 3) (u := 50) rfl
  obtain ⟨F_mr, n_mr⟩ : ∃ g : Nat → Int32, hl1.2.1 mr = g := ⟨_, rfl⟩
  obtain ⟨mp, f_mp, g_mp⟩ := hx_rf hT gm tt_10 (k := 5) (u := 52) rfl
  obtain ⟨F_mp, n_mp⟩ : ∃ g : Nat → Int32, hl1.2.1 mp = g := ⟨_, rfl⟩
  obtain ⟨mn, f_mn, g_mn⟩ := hx_rf hT gm tt_10 (k := 4) (u := 51) rfl
  obtain ⟨F_mn, n_mn⟩ : ∃ g : Nat → Int32, hl1.2.1 mn = g := ⟨_, rfl⟩
  obtain ⟨ml, f_ml, g_ml⟩ := hx_rf hT gm tt_10 (k := 44) (u := 79) rfl
  obtain ⟨F_ml, n_ml⟩ : ∃ g : Nat → Int32, hl1.2.1 ml = g := ⟨_, rfl⟩
  obtain ⟨mh, f_mh, g_mh⟩ := hx_rf hT gm tt_10 (k := 47) (u := 82) rfl
  obtain ⟨F_mh, n_mh⟩ : ∃ g : Nat → Int32, hl1.2.1 mh = g := ⟨_, rfl⟩
  obtain ⟨mt, f_mt, g_mt⟩ := hx_rf hT gm tt_10 (k := 45) (u := 80) rfl
  obtain ⟨F_mt, n_mt⟩ : ∃ g : Nat → Int32, hl1.2.1 mt = g := ⟨_, rfl⟩
  obtain ⟨m_fou, f_m_fou, g_m_fou⟩ := hx_rf hT gm tt_10 (k := 46) (u := 81) rfl
  obtain ⟨F_m_fou, n_m_fou⟩ : ∃ g : Nat → Int32, hl1.2.1 m_fou = g := ⟨_, rfl⟩
  obtain ⟨qo_ln, f_qo_ln, g_qo_ln⟩ := hx_rf hT gx tt_9 (k := 9) (u := 1) rfl
  have f_o_ln : hl1.2.1 qo_ln 0 = ln := (ho_ln qo_ln f_qo_ln).trans f_m_lines
  have f_o_lsd : hl1.2.1 qw 0 = lsd := (ho_lsd qw f_qw).trans f_m_listed
  have f_o_wkm : hl1.2.1 qw 1 = wkm := (ho_wkm qw f_qw).trans f_m_walkedMany
  have nu_qp := hn_qp qp f_qp; rw [f_x_personCount] at nu_qp
  have nu_qc := hn_qc qc f_qc; rw [f_x_claimCount] at nu_qc
  obtain ⟨b_of, f_b_of, g_b_of⟩ := hx_rf hT g_qo_ln tt_1 (k := 1) (u := 13) rfl
  obtain ⟨B_of, n_b_of⟩ : ∃ g : Nat → Int32, hl1.2.1 b_of = g := ⟨_, rfl⟩
  obtain ⟨m_of, f_m_of, g_m_of⟩ := hx_rf hT gm tt_10 (k := 30) (u := 66) rfl
  obtain ⟨F_of, n_m_of⟩ : ∃ g : Nat → Int32, hl1.2.1 m_of = g := ⟨_, rfl⟩
  have eb_of := hk_of qo_ln b_of m_of f_qo_ln f_b_of f_m_of; rw [n_b_of, n_m_of, f_o_ln] at eb_of
  obtain ⟨b_wf, f_b_wf, g_b_wf⟩ := hx_rf hT g_qo_ln tt_1 (k := 2) (u := 14) rfl
  obtain ⟨B_wf, n_b_wf⟩ : ∃ g : Nat → Int32, hl1.2.1 b_wf = g := ⟨_, rfl⟩
  obtain ⟨m_wf, f_m_wf, g_m_wf⟩ := hx_rf hT gm tt_10 (k := 31) (u := 67) rfl
  obtain ⟨F_wf, n_m_wf⟩ : ∃ g : Nat → Int32, hl1.2.1 m_wf = g := ⟨_, rfl⟩
  have eb_wf := hk_wf qo_ln b_wf m_wf f_qo_ln f_b_wf f_m_wf; rw [n_b_wf, n_m_wf, f_o_ln] at eb_wf
  obtain ⟨b_df, f_b_df, g_b_df⟩ := hx_rf hT g_qo_ln tt_1 (k := 3) (u := 15) rfl
  obtain ⟨B_df, n_b_df⟩ : ∃ g : Nat → Int32, hl1.2.1 b_df = g := ⟨_, rfl⟩
  obtain ⟨m_df, f_m_df, g_m_df⟩ := hx_rf hT gm tt_10 (k := 32) (u := 68) rfl
  obtain ⟨F_df, n_m_df⟩ : ∃ g : Nat → Int32, hl1.2.1 m_df = g := ⟨_, rfl⟩
  have eb_df := hk_df qo_ln b_df m_df f_qo_ln f_b_df f_m_df; rw [n_b_df, n_m_df, f_o_ln] at eb_df
  obtain ⟨b_kf, f_b_kf, g_b_kf⟩ := hx_rf hT g_qo_ln tt_1 (k := 4) (u := 16) rfl
  obtain ⟨B_kf, n_b_kf⟩ : ∃ g : Nat → Int32, hl1.2.1 b_kf = g := ⟨_, rfl⟩
  obtain ⟨m_kf, f_m_kf, g_m_kf⟩ := hx_rf hT gm tt_10 (k := 33) (u := 69) rfl
  obtain ⟨F_kf, n_m_kf⟩ : ∃ g : Nat → Int32, hl1.2.1 m_kf = g := ⟨_, rfl⟩
  have eb_kf := hk_kf qo_ln b_kf m_kf f_qo_ln f_b_kf f_m_kf; rw [n_b_kf, n_m_kf, f_o_ln] at eb_kf
  obtain ⟨b_sf, f_b_sf, g_b_sf⟩ := hx_rf hT g_qo_ln tt_1 (k := 5) (u := 17) rfl
  obtain ⟨B_sf, n_b_sf⟩ : ∃ g : Nat → Int32, hl1.2.1 b_sf = g := ⟨_, rfl⟩
  obtain ⟨m_sf, f_m_sf, g_m_sf⟩ := hx_rf hT gm tt_10 (k := 34) (u := 70) rfl
  obtain ⟨F_sf, n_m_sf⟩ : ∃ g : Nat → Int32, hl1.2.1 m_sf = g := ⟨_, rfl⟩
  have eb_sf := hk_sf qo_ln b_sf m_sf f_qo_ln f_b_sf f_m_sf; rw [n_b_sf, n_m_sf, f_o_ln] at eb_sf
  obtain ⟨b_bf, f_b_bf, g_b_bf⟩ := hx_rf hT g_qo_ln tt_1 (k := 6) (u := 18) rfl
  obtain ⟨bfL, n_b_bf⟩ : ∃ g : Nat → Int32, hl1.2.1 b_bf = g := ⟨_, rfl⟩
  obtain ⟨hBD, hDY⟩ := hkBD qo_ln b_df b_bf f_qo_ln f_b_df f_b_bf; rw [n_b_df, n_b_bf, f_o_ln] at hBD; rw [n_b_df, f_o_ln] at hDY
  have hBDm := hy_BD_c eb_df hBD
  have hDYm : hy_DY F_df ln.toInt.toNat := fun x hx => by rw [← eb_df x hx]; exact hDY x hx
  have sb_list := hLQ qw ql qc f_qw f_ql f_qc
  obtain ⟨m_lst, f_m_lst, g_m_lst⟩ := hx_rf hT gm tt_10 (k := 91) (u := 112) rfl
  obtain ⟨F_lst, n_lst⟩ : ∃ g : Nat → Int32, hl1.2.1 m_lst = g := ⟨_, rfl⟩
  obtain ⟨c_lst, cl_lst⟩ : ∃ g : Nat → Int32, hx_col 8 hl1 ql 0 = g := ⟨_, rfl⟩
  have eq_lst := hLE qw ql m_lst f_qw f_ql f_m_lst; rw [cl_lst, n_lst] at eq_lst
  obtain ⟨c_dead, cl_dead⟩ : ∃ g : Nat → Int32, hx_col 40 hl1 qp 7 = g := ⟨_, rfl⟩
  obtain ⟨m_dead, f_m_dead, g_m_dead⟩ := hx_rf hT gm tt_10 (k := 27) (u := 64) rfl
  obtain ⟨F_dead, n_dead⟩ : ∃ g : Nat → Int32, hl1.2.1 m_dead = g := ⟨_, rfl⟩
  have eq_dead := hc_dead qp m_dead f_qp f_m_dead; rw [cl_dead, n_dead] at eq_dead
  have z_dead : np.toInt.toNat < 40 → c_dead np.toInt.toNat = 0 := fun hj => hx_num_z nu_qp cl_dead hj (by omega)
  obtain ⟨c_isj, cl_isj⟩ : ∃ g : Nat → Int32, hx_col 40 hl1 qp 8 = g := ⟨_, rfl⟩
  obtain ⟨m_isj, f_m_isj, g_m_isj⟩ := hx_rf hT gm tt_10 (k := 28) (u := 65) rfl
  obtain ⟨F_isj, n_isj⟩ : ∃ g : Nat → Int32, hl1.2.1 m_isj = g := ⟨_, rfl⟩
  have eq_isj := hc_isj qp m_isj f_qp f_m_isj; rw [cl_isj, n_isj] at eq_isj
  have z_isj : np.toInt.toNat < 40 → c_isj np.toInt.toNat = 0 := fun hj => hx_num_z nu_qp cl_isj hj (by omega)
  obtain ⟨c_dox, cl_dox⟩ : ∃ g : Nat → Int32, hx_col 40 hl1 qp 5 = g := ⟨_, rfl⟩
  obtain ⟨m_dox, f_m_dox, g_m_dox⟩ := hx_rf hT gm tt_10 (k := 24) (u := 61) rfl
  obtain ⟨F_dox, n_dox⟩ : ∃ g : Nat → Int32, hl1.2.1 m_dox = g := ⟨_, rfl⟩
  have eq_dox := hc_dox qp m_dox f_qp f_m_dox; rw [cl_dox, n_dox] at eq_dox
  have z_dox : np.toInt.toNat < 40 → c_dox np.toInt.toNat = 0 := fun hj => hx_num_z nu_qp cl_dox hj (by omega)
  obtain ⟨c_doy, cl_doy⟩ : ∃ g : Nat → Int32, hx_col 40 hl1 qp 6 = g := ⟨_, rfl⟩
  obtain ⟨m_doy, f_m_doy, g_m_doy⟩ := hx_rf hT gm tt_10 (k := 25) (u := 62) rfl
  obtain ⟨F_doy, n_doy⟩ : ∃ g : Nat → Int32, hl1.2.1 m_doy = g := ⟨_, rfl⟩
  have eq_doy := hc_doy qp m_doy f_qp f_m_doy; rw [cl_doy, n_doy] at eq_doy
  have z_doy : np.toInt.toNat < 40 → c_doy np.toInt.toNat = 0 := fun hj => hx_num_z nu_qp cl_doy hj (by omega)
  obtain ⟨c_fou, cl_fou⟩ : ∃ g : Nat → Int32, hx_col 100 hl1 qc 10 = g := ⟨_, rfl⟩
  have eq_fou := hc_fou qc m_fou f_qc f_m_fou; rw [cl_fou, n_m_fou] at eq_fou
  have z_fou : c0.toInt.toNat < 100 → c_fou c0.toInt.toNat = 0 := fun hj => hx_num_z nu_qc cl_fou hj (by omega)
  obtain ⟨c_tri, cl_tri⟩ : ∃ g : Nat → Int32, hx_col 100 hl1 qc 9 = g := ⟨_, rfl⟩
  have eq_tri := hc_tri qc mt f_qc f_mt; rw [cl_tri, n_mt] at eq_tri
  have z_tri : c0.toInt.toNat < 100 → c_tri c0.toInt.toNat = 0 := fun hj => hx_num_z nu_qc cl_tri hj (by omega)
  obtain ⟨qlt, f_qlt, g_qlt⟩ := hx_rf hT g_qw tt_8 (k := 2) (u := 39) rfl
  obtain ⟨qlf, f_qlf, g_qlf⟩ := hx_rf hT g_qw tt_8 (k := 4) (u := 41) rfl
  obtain ⟨m_wkd, f_m_wkd, g_m_wkd⟩ := hx_rf hT gm tt_10 (k := 93) (u := 113) rfl
  obtain ⟨F_qlt, n_qlt⟩ : ∃ g : Nat → Int32, hl1.2.1 qlt = g := ⟨_, rfl⟩
  obtain ⟨F_m_wkd, n_m_wkd⟩ : ∃ g : Nat → Int32, hl1.2.1 m_wkd = g := ⟨_, rfl⟩
  have eb_wkd := hkWD qw qlt m_wkd f_qw f_qlt f_m_wkd; rw [n_qlt, n_m_wkd, f_o_wkm] at eb_wkd
  obtain ⟨m_aga, f_m_aga, g_m_aga⟩ := hx_rf hT gm tt_10 (k := 38) (u := 73) rfl
  obtain ⟨F_aga, n_aga⟩ : ∃ g : Nat → Int32, hl1.2.1 m_aga = g := ⟨_, rfl⟩
  have hDF := hkDF qc qp m_aga f_qc f_qp f_m_aga; rw [n_aga, f_x_claimCount] at hDF
  have hwd := jw mw f_mw; rw [n_mw] at hwd
  have hWK := jr mr f_mr; rw [n_mr, f_m_acts] at hWK
  have hRP := jp mp mn f_mp f_mn; rw [n_mp, n_mn, f_m_acts] at hRP
  have hPL := jl ml f_ml; rw [n_ml, f_m_claims, f_m_acts] at hPL
  have hHC := jh mh f_mh; rw [n_mh, f_m_heardMany, f_m_claims] at hHC
  have hTR := jt mt f_mt; rw [n_mt] at hTR
  have hHF := jf mh m_fou f_mh f_m_fou; rw [n_mh, n_m_fou, f_m_claims] at hHF
  refine lv_aload_n hx hb dL_law_888 rfl (lv_at hl 2 rfl) ?_
  refine lv_aload_n hx hb dL_law_889 rfl (lv_at hl 3 rfl) ?_
  refine lv_iload_n hx hb dL_law_890 rfl (lv_at hl 0 rfl) ?_
  refine lv_iconst (v := 1) hx hb dL_law_891 (by decide) ?_
  refine lv_iadd hx hb dL_law_892 ?_
  have rg_423 := i32_r i
  refine lv_topi (fun x_424 ex_424 => ?_)
  have zx_424 : x_424.toInt = i.toInt + 1 := by rw [ex_424]; exact i32_add rfl (by decide) (by omega) (by omega)
  refine va_sld hx hb hX hbl hbA hW.2.2.2.1 (vp_in_iff.mpr ⟨by omega, by omega⟩) dL_law_893 ?_
  refine lv_topi (fun x_425 ex_425 => ?_)
  refine lv_aload_n hx hb dL_law_894 rfl (lv_at hl 3 rfl) ?_
  refine lv_iload_n hx hb dL_law_895 rfl (lv_at hl 0 rfl) ?_
  refine lv_iconst (v := 2) hx hb dL_law_896 (by decide) ?_
  refine lv_iadd hx hb dL_law_897 ?_
  refine lv_topi (fun x_426 ex_426 => ?_)
  have zx_426 : x_426.toInt = i.toInt + 2 := by rw [ex_426]; exact i32_add rfl (by decide) (by omega) (by omega)
  refine va_sld hx hb hX hbl hbA hW.2.2.2.1 (vp_in_iff.mpr ⟨by omega, by omega⟩) dL_law_898 ?_
  refine lv_topi (fun x_427 ex_427 => ?_)
  have hTo := hT
  refine hx_goi (hx_runV (As := [.int x_425, .int x_427]) (rest := []) ⟨hx, hb, hml, hown, hts⟩ hW gx tt_9 (T := TX9) (N := 20) rfl (t_X9_order l dC dI dA L1 hl1 H.size ax x_425 x_427 hT gx qc g_qc f_qc pf_qc) (cwV 2 hts (hx_gV kw_845 kw_842 kw_843 kw_844 kw_94) rfl rfl rfl (by decide +kernel) ⟨Nat.le_of_ble_eq_true rfl, Nat.le_of_ble_eq_true rfl⟩) rfl hl.1 rfl (Nat.le_of_ble_eq_true rfl) dL_law_899 ⟨(show CC + 0 ≤ 600000 from by omega), (show SS + 0 ≤ 7302250 from by omega)⟩) hW (fun r_430 L_428 h_429 H locs p_431 hW => ?_)
  obtain ⟨hr_432, hT, hs⟩ := p_431
  replace hT : hx_T T_tb L_428 h_429 := hT
  replace hs : hx_S T_tb [(2, 13), (2, 14), (2, 15)] L1 hl1 L_428 h_429 := hs
  replace f_qa := (hs.o gx trivial rfl).2.trans f_qa
  replace f_qp := (hs.o gx trivial rfl).2.trans f_qp
  replace f_qc := (hs.o gx trivial rfl).2.trans f_qc
  replace f_qh := (hs.o gx trivial rfl).2.trans f_qh
  replace f_qw := (hs.o gx trivial rfl).2.trans f_qw
  replace f_ql := (hs.o g_qw trivial rfl).2.trans f_ql
  replace f_m_now := (hs.o gm trivial rfl).1.trans f_m_now
  replace f_m_persons := (hs.o gm trivial rfl).1.trans f_m_persons
  replace f_m_claims := (hs.o gm trivial rfl).1.trans f_m_claims
  replace f_m_lines := (hs.o gm trivial rfl).1.trans f_m_lines
  replace f_m_listed := (hs.o gm trivial rfl).1.trans f_m_listed
  replace f_m_walkedMany := (hs.o gm trivial rfl).1.trans f_m_walkedMany
  replace f_m_acts := (hs.o gm trivial rfl).1.trans f_m_acts
  replace f_m_heardMany := (hs.o gm trivial rfl).1.trans f_m_heardMany
  replace f_x_now := (hs.o gx trivial rfl).1.trans f_x_now
  replace f_x_personCount := (hs.o gx trivial rfl).1.trans f_x_personCount
  replace f_x_claimCount := (hs.o gx trivial rfl).1.trans f_x_claimCount
  replace f_mw := (hs.o gm trivial rfl).2.trans f_mw
  replace f_mr := (hs.o gm trivial rfl).2.trans f_mr
  replace f_mp := (hs.o gm trivial rfl).2.trans f_mp
  replace f_mn := (hs.o gm trivial rfl).2.trans f_mn
  replace f_ml := (hs.o gm trivial rfl).2.trans f_ml
  replace f_mh := (hs.o gm trivial rfl).2.trans f_mh
  replace f_mt := (hs.o gm trivial rfl).2.trans f_mt
  replace f_m_fou := (hs.o gm trivial rfl).2.trans f_m_fou
  replace f_qo_ln := (hs.o gx trivial rfl).2.trans f_qo_ln
  replace f_o_ln := (hs.o g_qo_ln trivial rfl).1.trans f_o_ln
  replace f_o_lsd := (hs.o g_qw trivial rfl).1.trans f_o_lsd
  replace f_o_wkm := (hs.o g_qw trivial rfl).1.trans f_o_wkm
  replace f_b_of := (hs.o g_qo_ln trivial rfl).2.trans f_b_of
  replace f_m_of := (hs.o gm trivial rfl).2.trans f_m_of
  replace f_b_wf := (hs.o g_qo_ln trivial rfl).2.trans f_b_wf
  replace f_m_wf := (hs.o gm trivial rfl).2.trans f_m_wf
  replace f_b_df := (hs.o g_qo_ln trivial rfl).2.trans f_b_df
  replace f_m_df := (hs.o gm trivial rfl).2.trans f_m_df
  replace f_b_kf := (hs.o g_qo_ln trivial rfl).2.trans f_b_kf
  replace f_m_kf := (hs.o gm trivial rfl).2.trans f_m_kf
  replace f_b_sf := (hs.o g_qo_ln trivial rfl).2.trans f_b_sf
  replace f_m_sf := (hs.o gm trivial rfl).2.trans f_m_sf
  replace f_b_bf := (hs.o g_qo_ln trivial rfl).2.trans f_b_bf
  replace f_m_lst := (hs.o gm trivial rfl).2.trans f_m_lst
  replace f_m_dead := (hs.o gm trivial rfl).2.trans f_m_dead
  replace f_m_isj := (hs.o gm trivial rfl).2.trans f_m_isj
  replace f_m_dox := (hs.o gm trivial rfl).2.trans f_m_dox
  replace f_m_doy := (hs.o gm trivial rfl).2.trans f_m_doy
  replace f_qlt := (hs.o g_qw trivial rfl).2.trans f_qlt
  replace f_qlf := (hs.o g_qw trivial rfl).2.trans f_qlf
  replace f_m_wkd := (hs.o gm trivial rfl).2.trans f_m_wkd
  replace f_m_aga := (hs.o gm trivial rfl).2.trans f_m_aga
  replace pf_qa : ∀ j : Nat, (j : Int) < (h_429.2.1 ax 6).toInt → h_429.2.2 qa j ≠ none := by
    intro j hj; rw [(hs.o gx trivial rfl).1] at hj; rw [(hs.a g_qa rfl j).2]; exact pf_qa j hj
  replace pf_qp : ∀ j : Nat, (j : Int) < (h_429.2.1 ax 8).toInt → h_429.2.2 qp j ≠ none := by
    intro j hj; rw [(hs.o gx trivial rfl).1] at hj; rw [(hs.a g_qp rfl j).2]; exact pf_qp j hj
  replace pf_qc : ∀ j : Nat, (j : Int) < (h_429.2.1 ax 11).toInt → h_429.2.2 qc j ≠ none := by
    intro j hj; rw [(hs.o gx trivial rfl).1] at hj; rw [(hs.a g_qc rfl j).2]; exact pf_qc j hj
  replace pf_qh : ∀ j : Nat, (j : Int) < (h_429.2.1 ax 13).toInt → h_429.2.2 qh j ≠ none := by
    intro j hj; rw [(hs.o gx trivial rfl).1] at hj; rw [(hs.a g_qh rfl j).2]; exact pf_qh j hj
  replace pf_ql : ∀ j : Nat, (j : Int) < (h_429.2.1 qw 0).toInt → h_429.2.2 ql j ≠ none := by
    intro j hj; rw [(hs.o g_qw trivial rfl).1] at hj; rw [(hs.a g_ql rfl j).2]; exact pf_ql j hj
  replace cl_lst : hx_col 8 h_429 ql 0 = c_lst := (hx_col_S hs hTo g_ql tt_40 tt_2 rfl rfl).trans cl_lst
  replace cl_dead : hx_col 40 h_429 qp 7 = c_dead := (hx_col_S hs hTo g_qp tt_44 tt_4 rfl rfl).trans cl_dead
  replace cl_isj : hx_col 40 h_429 qp 8 = c_isj := (hx_col_S hs hTo g_qp tt_44 tt_4 rfl rfl).trans cl_isj
  replace cl_dox : hx_col 40 h_429 qp 5 = c_dox := (hx_col_S hs hTo g_qp tt_44 tt_4 rfl rfl).trans cl_dox
  replace cl_doy : hx_col 40 h_429 qp 6 = c_doy := (hx_col_S hs hTo g_qp tt_44 tt_4 rfl rfl).trans cl_doy
  replace cl_fou : hx_col 100 h_429 qc 10 = c_fou := (hx_col_S hs hTo g_qc tt_45 tt_2 rfl rfl).trans cl_fou
  replace cl_tri : hx_col 100 h_429 qc 9 = c_tri := (hx_col_S hs hTo g_qc tt_45 tt_2 rfl rfl).trans cl_tri
  replace nu_qp : hx_num 40 h_429 qp 0 (np.toInt) := hx_num_S hs hTo g_qp tt_44 tt_4 rfl rfl nu_qp
  replace nu_qc : hx_num 100 h_429 qc 0 (c0.toInt) := hx_num_S hs hTo g_qc tt_45 tt_2 rfl rfl nu_qc
  replace sb_list : hx_LQ 8 100 h_429 ql qc := hx_LQ_S hs g_ql g_qc rfl rfl sb_list
  replace hDF : hw_DF h_429 qc qp 2 F_aga c0.toInt := hw_DF_S hs hTo g_qc g_qp tt_45 tt_2 rfl rfl rfl hDF
  replace n_mw : h_429.2.1 mw = F_mw := (funext fun j => (hs.a g_mw rfl j).1).trans n_mw
  replace n_mr : h_429.2.1 mr = F_mr := (funext fun j => (hs.a g_mr rfl j).1).trans n_mr
  replace n_mp : h_429.2.1 mp = F_mp := (funext fun j => (hs.a g_mp rfl j).1).trans n_mp
  replace n_mn : h_429.2.1 mn = F_mn := (funext fun j => (hs.a g_mn rfl j).1).trans n_mn
  replace n_ml : h_429.2.1 ml = F_ml := (funext fun j => (hs.a g_ml rfl j).1).trans n_ml
  replace n_mh : h_429.2.1 mh = F_mh := (funext fun j => (hs.a g_mh rfl j).1).trans n_mh
  replace n_mt : h_429.2.1 mt = F_mt := (funext fun j => (hs.a g_mt rfl j).1).trans n_mt
  replace n_m_fou : h_429.2.1 m_fou = F_m_fou := (funext fun j => (hs.a g_m_fou rfl j).1).trans n_m_fou
  replace n_b_of : h_429.2.1 b_of = B_of := (funext fun j => (hs.a g_b_of rfl j).1).trans n_b_of
  replace n_m_of : h_429.2.1 m_of = F_of := (funext fun j => (hs.a g_m_of rfl j).1).trans n_m_of
  replace n_b_wf : h_429.2.1 b_wf = B_wf := (funext fun j => (hs.a g_b_wf rfl j).1).trans n_b_wf
  replace n_m_wf : h_429.2.1 m_wf = F_wf := (funext fun j => (hs.a g_m_wf rfl j).1).trans n_m_wf
  replace n_b_df : h_429.2.1 b_df = B_df := (funext fun j => (hs.a g_b_df rfl j).1).trans n_b_df
  replace n_m_df : h_429.2.1 m_df = F_df := (funext fun j => (hs.a g_m_df rfl j).1).trans n_m_df
  replace n_b_kf : h_429.2.1 b_kf = B_kf := (funext fun j => (hs.a g_b_kf rfl j).1).trans n_b_kf
  replace n_m_kf : h_429.2.1 m_kf = F_kf := (funext fun j => (hs.a g_m_kf rfl j).1).trans n_m_kf
  replace n_b_sf : h_429.2.1 b_sf = B_sf := (funext fun j => (hs.a g_b_sf rfl j).1).trans n_b_sf
  replace n_m_sf : h_429.2.1 m_sf = F_sf := (funext fun j => (hs.a g_m_sf rfl j).1).trans n_m_sf
  replace n_b_bf : h_429.2.1 b_bf = bfL := (funext fun j => (hs.a g_b_bf rfl j).1).trans n_b_bf
  replace n_lst : h_429.2.1 m_lst = F_lst := (funext fun j => (hs.a g_m_lst rfl j).1).trans n_lst
  replace n_dead : h_429.2.1 m_dead = F_dead := (funext fun j => (hs.a g_m_dead rfl j).1).trans n_dead
  replace n_isj : h_429.2.1 m_isj = F_isj := (funext fun j => (hs.a g_m_isj rfl j).1).trans n_isj
  replace n_dox : h_429.2.1 m_dox = F_dox := (funext fun j => (hs.a g_m_dox rfl j).1).trans n_dox
  replace n_doy : h_429.2.1 m_doy = F_doy := (funext fun j => (hs.a g_m_doy rfl j).1).trans n_doy
  replace n_qlt : h_429.2.1 qlt = F_qlt := (funext fun j => (hs.a g_qlt rfl j).1).trans n_qlt
  replace n_m_wkd : h_429.2.1 m_wkd = F_m_wkd := (funext fun j => (hs.a g_m_wkd rfl j).1).trans n_m_wkd
  replace n_aga : h_429.2.1 m_aga = F_aga := (funext fun j => (hs.a g_m_aga rfl j).1).trans n_aga
  replace gx := gx.S hs
  replace gm := gm.S hs
  replace g_qa := g_qa.S hs
  replace g_qp := g_qp.S hs
  replace g_qc := g_qc.S hs
  replace g_qh := g_qh.S hs
  replace g_qw := g_qw.S hs
  replace g_ql := g_ql.S hs
  replace g_mw := g_mw.S hs
  replace g_mr := g_mr.S hs
  replace g_mp := g_mp.S hs
  replace g_mn := g_mn.S hs
  replace g_ml := g_ml.S hs
  replace g_mh := g_mh.S hs
  replace g_mt := g_mt.S hs
  replace g_m_fou := g_m_fou.S hs
  replace g_qo_ln := g_qo_ln.S hs
  replace g_b_of := g_b_of.S hs
  replace g_m_of := g_m_of.S hs
  replace g_b_wf := g_b_wf.S hs
  replace g_m_wf := g_m_wf.S hs
  replace g_b_df := g_b_df.S hs
  replace g_m_df := g_m_df.S hs
  replace g_b_kf := g_b_kf.S hs
  replace g_m_kf := g_m_kf.S hs
  replace g_b_sf := g_b_sf.S hs
  replace g_m_sf := g_m_sf.S hs
  replace g_b_bf := g_b_bf.S hs
  replace g_m_lst := g_m_lst.S hs
  replace g_m_dead := g_m_dead.S hs
  replace g_m_isj := g_m_isj.S hs
  replace g_m_dox := g_m_dox.S hs
  replace g_m_doy := g_m_doy.S hs
  replace g_qlt := g_qlt.S hs
  replace g_qlf := g_qlf.S hs
  replace g_m_wkd := g_m_wkd.S hs
  replace g_m_aga := g_m_aga.S hs
  refine lv_pop hx hb dL_law_902 rfl ?_
  refine lv_aload_n hx hb dL_law_903 rfl (lv_at hl 1 rfl) ?_
  refine lv_aload_n hx hb dL_law_904 rfl (lv_at hl 3 rfl) ?_
  refine lv_iload_n hx hb dL_law_905 rfl (lv_at hl 0 rfl) ?_
  refine lv_iconst (v := 1) hx hb dL_law_906 (by decide) ?_
  refine lv_iadd hx hb dL_law_907 ?_
  refine lv_topi (fun x_433 ex_433 => ?_)
  have zx_433 : x_433.toInt = i.toInt + 1 := by rw [ex_433]; exact i32_add rfl (by decide) (by omega) (by omega)
  obtain rfl : x_424 = x_433 := ex_424.trans ex_433.symm
  refine va_sld hx hb hX hbl hbA hW.2.2.2.1 (vp_in_iff.mpr ⟨by omega, by omega⟩) dL_law_908 ?_
  refine lv_topi (fun x_434 ex_434 => ?_)
  obtain rfl : x_425 = x_434 := ex_425.trans ex_434.symm
  refine lv_aload_n hx hb dL_law_909 rfl (lv_at hl 3 rfl) ?_
  refine lv_iload_n hx hb dL_law_910 rfl (lv_at hl 0 rfl) ?_
  refine lv_iconst (v := 2) hx hb dL_law_911 (by decide) ?_
  refine lv_iadd hx hb dL_law_912 ?_
  refine lv_topi (fun x_435 ex_435 => ?_)
  have zx_435 : x_435.toInt = i.toInt + 2 := by rw [ex_435]; exact i32_add rfl (by decide) (by omega) (by omega)
  obtain rfl : x_426 = x_435 := ex_426.trans ex_435.symm
  refine va_sld hx hb hX hbl hbA hW.2.2.2.1 (vp_in_iff.mpr ⟨by omega, by omega⟩) dL_law_913 ?_
  refine lv_topi (fun x_436 ex_436 => ?_)
  obtain rfl : x_427 = x_436 := ex_427.trans ex_436.symm
  have hTo := hT
  refine hx_goi (hx_runV (As := [.int x_425, .int x_427]) (rest := []) ⟨hx, hb, hml, hown, hts⟩ hW gm tt_10 (T := TX10) (N := 98) rfl (t_X10_order l dC dI dA L_428 h_429 H.size am x_425 x_427 hT gm mr g_mr f_mr ml g_ml f_ml F_mr n_mr F_ml n_ml a0 f_m_acts c0 f_m_claims hWK hPL) (cwV 2 hts (hx_gV kw_1633 kw_1630 kw_1631 kw_1632 kw_103) rfl rfl rfl (by decide +kernel) ⟨Nat.le_of_ble_eq_true rfl, Nat.le_of_ble_eq_true rfl⟩) rfl hl.1 rfl (Nat.le_of_ble_eq_true rfl) dL_law_914 ⟨(show CC + 0 + 0 ≤ 600000 from by omega), (show SS + 0 + 0 ≤ 7302250 from by omega)⟩) hW (fun r_439 L_437 h_438 H locs p_440 hW => ?_)
  obtain ⟨hr_441, hT, hs⟩ := p_440
  replace hT : hx_T T_tb L_437 h_438 := hT
  replace hs : hx_S T_tb [(10, 67), (10, 68), (10, 69), (10, 70), (10, 71), (83, 0), (89, 0), (90, 0)] L_428 h_429 L_437 h_438 := hs
  replace f_qa := (hs.o gx trivial rfl).2.trans f_qa
  replace f_qp := (hs.o gx trivial rfl).2.trans f_qp
  replace f_qc := (hs.o gx trivial rfl).2.trans f_qc
  replace f_qh := (hs.o gx trivial rfl).2.trans f_qh
  replace f_qw := (hs.o gx trivial rfl).2.trans f_qw
  replace f_ql := (hs.o g_qw trivial rfl).2.trans f_ql
  replace f_m_now := (hs.o gm trivial rfl).1.trans f_m_now
  replace f_m_persons := (hs.o gm trivial rfl).1.trans f_m_persons
  replace f_m_claims := (hs.o gm trivial rfl).1.trans f_m_claims
  replace f_m_lines := (hs.o gm trivial rfl).1.trans f_m_lines
  replace f_m_listed := (hs.o gm trivial rfl).1.trans f_m_listed
  replace f_m_walkedMany := (hs.o gm trivial rfl).1.trans f_m_walkedMany
  replace f_m_acts := (hs.o gm trivial rfl).1.trans f_m_acts
  replace f_m_heardMany := (hs.o gm trivial rfl).1.trans f_m_heardMany
  replace f_x_now := (hs.o gx trivial rfl).1.trans f_x_now
  replace f_x_personCount := (hs.o gx trivial rfl).1.trans f_x_personCount
  replace f_x_claimCount := (hs.o gx trivial rfl).1.trans f_x_claimCount
  replace f_mw := (hs.o gm trivial rfl).2.trans f_mw
  replace f_mr := (hs.o gm trivial rfl).2.trans f_mr
  replace f_mp := (hs.o gm trivial rfl).2.trans f_mp
  replace f_mn := (hs.o gm trivial rfl).2.trans f_mn
  replace f_ml := (hs.o gm trivial rfl).2.trans f_ml
  replace f_mh := (hs.o gm trivial rfl).2.trans f_mh
  replace f_mt := (hs.o gm trivial rfl).2.trans f_mt
  replace f_m_fou := (hs.o gm trivial rfl).2.trans f_m_fou
  replace f_qo_ln := (hs.o gx trivial rfl).2.trans f_qo_ln
  replace f_o_ln := (hs.o g_qo_ln trivial rfl).1.trans f_o_ln
  replace f_o_lsd := (hs.o g_qw trivial rfl).1.trans f_o_lsd
  replace f_o_wkm := (hs.o g_qw trivial rfl).1.trans f_o_wkm
  replace f_b_of := (hs.o g_qo_ln trivial rfl).2.trans f_b_of
  replace f_m_of := (hs.o gm trivial rfl).2.trans f_m_of
  replace f_b_wf := (hs.o g_qo_ln trivial rfl).2.trans f_b_wf
  replace f_m_wf := (hs.o gm trivial rfl).2.trans f_m_wf
  replace f_b_df := (hs.o g_qo_ln trivial rfl).2.trans f_b_df
  replace f_m_df := (hs.o gm trivial rfl).2.trans f_m_df
  replace f_b_kf := (hs.o g_qo_ln trivial rfl).2.trans f_b_kf
  replace f_m_kf := (hs.o gm trivial rfl).2.trans f_m_kf
  replace f_b_sf := (hs.o g_qo_ln trivial rfl).2.trans f_b_sf
  replace f_m_sf := (hs.o gm trivial rfl).2.trans f_m_sf
  replace f_b_bf := (hs.o g_qo_ln trivial rfl).2.trans f_b_bf
  replace f_m_lst := (hs.o gm trivial rfl).2.trans f_m_lst
  replace f_m_dead := (hs.o gm trivial rfl).2.trans f_m_dead
  replace f_m_isj := (hs.o gm trivial rfl).2.trans f_m_isj
  replace f_m_dox := (hs.o gm trivial rfl).2.trans f_m_dox
  replace f_m_doy := (hs.o gm trivial rfl).2.trans f_m_doy
  replace f_qlt := (hs.o g_qw trivial rfl).2.trans f_qlt
  replace f_qlf := (hs.o g_qw trivial rfl).2.trans f_qlf
  replace f_m_wkd := (hs.o gm trivial rfl).2.trans f_m_wkd
  replace f_m_aga := (hs.o gm trivial rfl).2.trans f_m_aga
  replace pf_qa : ∀ j : Nat, (j : Int) < (h_438.2.1 ax 6).toInt → h_438.2.2 qa j ≠ none := by
    intro j hj; rw [(hs.o gx trivial rfl).1] at hj; rw [(hs.a g_qa rfl j).2]; exact pf_qa j hj
  replace pf_qp : ∀ j : Nat, (j : Int) < (h_438.2.1 ax 8).toInt → h_438.2.2 qp j ≠ none := by
    intro j hj; rw [(hs.o gx trivial rfl).1] at hj; rw [(hs.a g_qp rfl j).2]; exact pf_qp j hj
  replace pf_qc : ∀ j : Nat, (j : Int) < (h_438.2.1 ax 11).toInt → h_438.2.2 qc j ≠ none := by
    intro j hj; rw [(hs.o gx trivial rfl).1] at hj; rw [(hs.a g_qc rfl j).2]; exact pf_qc j hj
  replace pf_qh : ∀ j : Nat, (j : Int) < (h_438.2.1 ax 13).toInt → h_438.2.2 qh j ≠ none := by
    intro j hj; rw [(hs.o gx trivial rfl).1] at hj; rw [(hs.a g_qh rfl j).2]; exact pf_qh j hj
  replace pf_ql : ∀ j : Nat, (j : Int) < (h_438.2.1 qw 0).toInt → h_438.2.2 ql j ≠ none := by
    intro j hj; rw [(hs.o g_qw trivial rfl).1] at hj; rw [(hs.a g_ql rfl j).2]; exact pf_ql j hj
  replace cl_lst : hx_col 8 h_438 ql 0 = c_lst := (hx_col_S hs hTo g_ql tt_40 tt_2 rfl rfl).trans cl_lst
  replace cl_dead : hx_col 40 h_438 qp 7 = c_dead := (hx_col_S hs hTo g_qp tt_44 tt_4 rfl rfl).trans cl_dead
  replace cl_isj : hx_col 40 h_438 qp 8 = c_isj := (hx_col_S hs hTo g_qp tt_44 tt_4 rfl rfl).trans cl_isj
  replace cl_dox : hx_col 40 h_438 qp 5 = c_dox := (hx_col_S hs hTo g_qp tt_44 tt_4 rfl rfl).trans cl_dox
  replace cl_doy : hx_col 40 h_438 qp 6 = c_doy := (hx_col_S hs hTo g_qp tt_44 tt_4 rfl rfl).trans cl_doy
  replace cl_fou : hx_col 100 h_438 qc 10 = c_fou := (hx_col_S hs hTo g_qc tt_45 tt_2 rfl rfl).trans cl_fou
  replace cl_tri : hx_col 100 h_438 qc 9 = c_tri := (hx_col_S hs hTo g_qc tt_45 tt_2 rfl rfl).trans cl_tri
  replace nu_qp : hx_num 40 h_438 qp 0 (np.toInt) := hx_num_S hs hTo g_qp tt_44 tt_4 rfl rfl nu_qp
  replace nu_qc : hx_num 100 h_438 qc 0 (c0.toInt) := hx_num_S hs hTo g_qc tt_45 tt_2 rfl rfl nu_qc
  replace sb_list : hx_LQ 8 100 h_438 ql qc := hx_LQ_S hs g_ql g_qc rfl rfl sb_list
  replace hDF : hw_DF h_438 qc qp 2 F_aga c0.toInt := hw_DF_S hs hTo g_qc g_qp tt_45 tt_2 rfl rfl rfl hDF
  replace n_mw : h_438.2.1 mw = F_mw := (funext fun j => (hs.a g_mw rfl j).1).trans n_mw
  replace n_mr : h_438.2.1 mr = F_mr := (funext fun j => (hs.a g_mr rfl j).1).trans n_mr
  replace n_mp : h_438.2.1 mp = F_mp := (funext fun j => (hs.a g_mp rfl j).1).trans n_mp
  replace n_mn : h_438.2.1 mn = F_mn := (funext fun j => (hs.a g_mn rfl j).1).trans n_mn
  replace n_ml : h_438.2.1 ml = F_ml := (funext fun j => (hs.a g_ml rfl j).1).trans n_ml
  replace n_mh : h_438.2.1 mh = F_mh := (funext fun j => (hs.a g_mh rfl j).1).trans n_mh
  replace n_mt : h_438.2.1 mt = F_mt := (funext fun j => (hs.a g_mt rfl j).1).trans n_mt
  replace n_m_fou : h_438.2.1 m_fou = F_m_fou := (funext fun j => (hs.a g_m_fou rfl j).1).trans n_m_fou
  replace n_b_of : h_438.2.1 b_of = B_of := (funext fun j => (hs.a g_b_of rfl j).1).trans n_b_of
  replace n_m_of : h_438.2.1 m_of = F_of := (funext fun j => (hs.a g_m_of rfl j).1).trans n_m_of
  replace n_b_wf : h_438.2.1 b_wf = B_wf := (funext fun j => (hs.a g_b_wf rfl j).1).trans n_b_wf
  replace n_m_wf : h_438.2.1 m_wf = F_wf := (funext fun j => (hs.a g_m_wf rfl j).1).trans n_m_wf
  replace n_b_df : h_438.2.1 b_df = B_df := (funext fun j => (hs.a g_b_df rfl j).1).trans n_b_df
  replace n_m_df : h_438.2.1 m_df = F_df := (funext fun j => (hs.a g_m_df rfl j).1).trans n_m_df
  replace n_b_kf : h_438.2.1 b_kf = B_kf := (funext fun j => (hs.a g_b_kf rfl j).1).trans n_b_kf
  replace n_m_kf : h_438.2.1 m_kf = F_kf := (funext fun j => (hs.a g_m_kf rfl j).1).trans n_m_kf
  replace n_b_sf : h_438.2.1 b_sf = B_sf := (funext fun j => (hs.a g_b_sf rfl j).1).trans n_b_sf
  replace n_m_sf : h_438.2.1 m_sf = F_sf := (funext fun j => (hs.a g_m_sf rfl j).1).trans n_m_sf
  replace n_b_bf : h_438.2.1 b_bf = bfL := (funext fun j => (hs.a g_b_bf rfl j).1).trans n_b_bf
  replace n_lst : h_438.2.1 m_lst = F_lst := (funext fun j => (hs.a g_m_lst rfl j).1).trans n_lst
  replace n_dead : h_438.2.1 m_dead = F_dead := (funext fun j => (hs.a g_m_dead rfl j).1).trans n_dead
  replace n_isj : h_438.2.1 m_isj = F_isj := (funext fun j => (hs.a g_m_isj rfl j).1).trans n_isj
  replace n_dox : h_438.2.1 m_dox = F_dox := (funext fun j => (hs.a g_m_dox rfl j).1).trans n_dox
  replace n_doy : h_438.2.1 m_doy = F_doy := (funext fun j => (hs.a g_m_doy rfl j).1).trans n_doy
  replace n_qlt : h_438.2.1 qlt = F_qlt := (funext fun j => (hs.a g_qlt rfl j).1).trans n_qlt
  replace n_m_wkd : h_438.2.1 m_wkd = F_m_wkd := (funext fun j => (hs.a g_m_wkd rfl j).1).trans n_m_wkd
  replace n_aga : h_438.2.1 m_aga = F_aga := (funext fun j => (hs.a g_m_aga rfl j).1).trans n_aga
  replace gx := gx.S hs
  replace gm := gm.S hs
  replace g_qa := g_qa.S hs
  replace g_qp := g_qp.S hs
  replace g_qc := g_qc.S hs
  replace g_qh := g_qh.S hs
  replace g_qw := g_qw.S hs
  replace g_ql := g_ql.S hs
  replace g_mw := g_mw.S hs
  replace g_mr := g_mr.S hs
  replace g_mp := g_mp.S hs
  replace g_mn := g_mn.S hs
  replace g_ml := g_ml.S hs
  replace g_mh := g_mh.S hs
  replace g_mt := g_mt.S hs
  replace g_m_fou := g_m_fou.S hs
  replace g_qo_ln := g_qo_ln.S hs
  replace g_b_of := g_b_of.S hs
  replace g_m_of := g_m_of.S hs
  replace g_b_wf := g_b_wf.S hs
  replace g_m_wf := g_m_wf.S hs
  replace g_b_df := g_b_df.S hs
  replace g_m_df := g_m_df.S hs
  replace g_b_kf := g_b_kf.S hs
  replace g_m_kf := g_m_kf.S hs
  replace g_b_sf := g_b_sf.S hs
  replace g_m_sf := g_m_sf.S hs
  replace g_b_bf := g_b_bf.S hs
  replace g_m_lst := g_m_lst.S hs
  replace g_m_dead := g_m_dead.S hs
  replace g_m_isj := g_m_isj.S hs
  replace g_m_dox := g_m_dox.S hs
  replace g_m_doy := g_m_doy.S hs
  replace g_qlt := g_qlt.S hs
  replace g_qlf := g_qlf.S hs
  replace g_m_wkd := g_m_wkd.S hs
  replace g_m_aga := g_m_aga.S hs
  refine lv_pop hx hb dL_law_917 rfl ?_
  refine lv_goto (tgt := 1379) hx hb dL_law_918 (by decide) ?_
  refine W.widen (k := CC + 3) (n := SS + 179) (by omega) (by omega) ?_
  exact kk L_437 h_438 H locs ls hW ⟨hT, gx, gm, ⟨f_x_now.trans f_m_now.symm, f_x_personCount.trans f_m_persons.symm, f_x_claimCount.trans f_m_claims.symm, hx_ob f_qo_ln (f_o_ln.trans f_m_lines.symm), hx_ob f_qw (f_o_lsd.trans f_m_listed.symm), hx_ob f_qw (f_o_wkm.trans f_m_walkedMany.symm), hx_ob f_qp (by rw [f_x_personCount]; exact nu_qp), hx_ob f_qc (by rw [f_x_claimCount]; exact nu_qc), (fun b a r hb ha hr => by obtain rfl : qo_ln = b := Option.some.inj (f_qo_ln.symm.trans hb); obtain rfl : b_of = a := Option.some.inj (f_b_of.symm.trans ha); obtain rfl : m_of = r := Option.some.inj (f_m_of.symm.trans hr); rw [n_b_of, n_m_of, f_o_ln]; exact eb_of), (fun b a r hb ha hr => by obtain rfl : qo_ln = b := Option.some.inj (f_qo_ln.symm.trans hb); obtain rfl : b_wf = a := Option.some.inj (f_b_wf.symm.trans ha); obtain rfl : m_wf = r := Option.some.inj (f_m_wf.symm.trans hr); rw [n_b_wf, n_m_wf, f_o_ln]; exact eb_wf), (fun b a r hb ha hr => by obtain rfl : qo_ln = b := Option.some.inj (f_qo_ln.symm.trans hb); obtain rfl : b_df = a := Option.some.inj (f_b_df.symm.trans ha); obtain rfl : m_df = r := Option.some.inj (f_m_df.symm.trans hr); rw [n_b_df, n_m_df, f_o_ln]; exact eb_df), (fun b a r hb ha hr => by obtain rfl : qo_ln = b := Option.some.inj (f_qo_ln.symm.trans hb); obtain rfl : b_kf = a := Option.some.inj (f_b_kf.symm.trans ha); obtain rfl : m_kf = r := Option.some.inj (f_m_kf.symm.trans hr); rw [n_b_kf, n_m_kf, f_o_ln]; exact eb_kf), (fun b a r hb ha hr => by obtain rfl : qo_ln = b := Option.some.inj (f_qo_ln.symm.trans hb); obtain rfl : b_sf = a := Option.some.inj (f_b_sf.symm.trans ha); obtain rfl : m_sf = r := Option.some.inj (f_m_sf.symm.trans hr); rw [n_b_sf, n_m_sf, f_o_ln]; exact eb_sf), (fun b a r hb ha hr => by obtain rfl : qo_ln = b := Option.some.inj (f_qo_ln.symm.trans hb); obtain rfl : b_df = a := Option.some.inj (f_b_df.symm.trans ha); obtain rfl : b_bf = r := Option.some.inj (f_b_bf.symm.trans hr); rw [n_b_df, n_b_bf, f_o_ln]; exact ⟨hBD, hDY⟩), (fun w q c hw hq hc => by obtain rfl : qw = w := Option.some.inj (f_qw.symm.trans hw); obtain rfl : ql = q := Option.some.inj (f_ql.symm.trans hq); obtain rfl : qc = c := Option.some.inj (f_qc.symm.trans hc); exact sb_list), (fun w q r hw hq hr => by obtain rfl : qw = w := Option.some.inj (f_qw.symm.trans hw); obtain rfl : ql = q := Option.some.inj (f_ql.symm.trans hq); obtain rfl : m_lst = r := Option.some.inj (f_m_lst.symm.trans hr); rw [cl_lst, n_lst]; exact eq_lst), (fun w q r hw hq hr => by obtain rfl : qw = w := Option.some.inj (f_qw.symm.trans hw); obtain rfl : qlt = q := Option.some.inj (f_qlt.symm.trans hq); obtain rfl : m_wkd = r := Option.some.inj (f_m_wkd.symm.trans hr); rw [n_qlt, n_m_wkd, f_o_wkm]; exact eb_wkd), (fun c q a hc hq ha => by obtain rfl : qc = c := Option.some.inj (f_qc.symm.trans hc); obtain rfl : qp = q := Option.some.inj (f_qp.symm.trans hq); obtain rfl : m_aga = a := Option.some.inj (f_m_aga.symm.trans ha); rw [n_aga, f_x_claimCount]; exact hw_DF_e hDF rfl rfl), hx_ob2 f_qp f_m_dead (by rw [cl_dead, n_dead]; exact eq_dead), hx_ob2 f_qp f_m_isj (by rw [cl_isj, n_isj]; exact eq_isj), hx_ob2 f_qp f_m_dox (by rw [cl_dox, n_dox]; exact eq_dox), hx_ob2 f_qp f_m_doy (by rw [cl_doy, n_doy]; exact eq_doy), hx_ob2 f_qc f_m_fou (by rw [cl_fou, n_m_fou]; exact eq_fou), hx_ob2 f_qc f_mt (by rw [cl_tri, n_mt]; exact eq_tri), trivial⟩, ⟨hx_ob f_qa pf_qa, hx_ob f_qp pf_qp, hx_ob f_qc pf_qc, hx_ob f_qh pf_qh, (fun w q hw hq => by obtain rfl : qw = w := Option.some.inj (f_qw.symm.trans hw); obtain rfl : ql = q := Option.some.inj (f_ql.symm.trans hq); exact pf_ql)⟩, ⟨hx_ob f_mw (by rw [n_mw]; exact hwd), hx_ob f_mr (by rw [n_mr, f_m_acts]; exact hWK), hx_ob2 f_mp f_mn (by rw [n_mp, n_mn, f_m_acts]; exact hRP), hx_ob f_ml (by rw [n_ml, f_m_claims, f_m_acts]; exact hPL), hx_ob f_mh (by rw [n_mh, f_m_heardMany, f_m_claims]; exact hHC), hx_ob f_mt (by rw [n_mt]; exact (hx_TR_le hTR (by omega))), hx_ob2 f_mh f_m_fou (by rw [n_mh, n_m_fou, f_m_claims]; exact hHF)⟩⟩ hl

set_option maxHeartbeats 4000000 in
set_option maxRecDepth 100000 in
theorem law_case_15 {p : Program} {e : Env} {s : State} {m : MethodId} {below : List Frame} {meth : Method} {c : Code} (l : Launch) {b LN : Nat} {xs : Nat → Int32} (hx : p.tables.exec = Jvm.exec) (hb : c.code = code) (hr : meth.sig.returnType = ret) (hlocks : meth.locks = false) (hml : c.maxLocals = 4) (hown : s.vm.findClass "SmallCourtLaw" = some m.cls) (hts : ∀ w ∈ hx_all, w.before #[Value.ref b] s = true) (hX : va_X b LN xs s s.heap) (hbl : b < s.heap.size) (hbA : ¬ s.heap.size ≤ b) (hLN : LN ≤ 3584) (dC : Nat → ClassId) (dI : Nat → Nat → Nat) (dA : Nat → ClassId) (b0 : hx_z) (ax am : Nat) (T1 : Int) (hT0 : 0 ≤ T1) (hT1 : T1 ≤ 511) (i : Int32) (hi0 : 0 ≤ i.toInt) (hiL : i.toInt + 7 ≤ LN) (CC SS : Nat) (hCC : CC + 3 ≤ 600000) (hSS : SS + 179 ≤ 7302250) (L1 : List Nat) (hl1 : hx_h) (H : Heap) (locs : List Loc) (ls : Array Slot) (hW : hx_W T_tb (P_ty dA) (dC, dI) vwCl (fun q : Nat => s.heap.size ≤ q) s.heap L1 hl1 s H locs) (hZ : hx_Xt (fun q : Nat => s.heap.size ≤ q) b0 s) (hI : hx_IV T1 ax am L1 hl1) (hl : lv_has ls 4 [(3, .int i), (2, .ref am), (1, .ref ax), (0, .ref b)]) (kk : ∀ (L2 : List Nat) (h2 : hx_h) (H2 : Heap) (locs2 : List Loc) (ls2 : Array Slot), hx_W T_tb (P_ty dA) (dC, dI) vwCl (fun q : Nat => s.heap.size ≤ q) s.heap L2 h2 s H2 locs2 → hx_IV (T1 + 1) ax am L2 h2 → lv_has ls2 4 [(3, .int i), (2, .ref am), (1, .ref ax), (0, .ref b)] → W p l e room_1 s m #[Value.ref b] below meth c H2 locs2 (CC + 3) (SS + 179) (lw_Z below #[Value.ref b] s) (F0 m 1379 ls2 [])) : W p l e room_1 s m #[Value.ref b] below meth c H locs CC SS (lw_Z below #[Value.ref b] s) (F0 m 921 ls []) := by
  obtain ⟨hT, gx, gm, ⟨he_nw, he_np, he_c0, ho_ln, ho_lsd, ho_wkm, hn_qp, hn_qc, hk_of, hk_wf, hk_df, hk_kf, hk_sf, hkBD, hLQ, hLE, hkWD, hkDF, hc_dead, hc_isj, hc_dox, hc_doy, hc_fou, hc_tri, -⟩, ⟨ia, ip, ic, ih, il⟩, ⟨jw, jr, jp, jl, jh, jt, jf⟩⟩ := hI
  obtain ⟨qa, f_qa, g_qa⟩ := hx_rf hT gx tt_9 (k := 5) (u := 43) rfl
  have pf_qa := ia qa f_qa
  obtain ⟨qp, f_qp, g_qp⟩ := hx_rf hT gx tt_9 (k := 7) (u := 44) rfl
  have pf_qp := ip qp f_qp
  obtain ⟨qc, f_qc, g_qc⟩ := hx_rf hT gx tt_9 (k := 10) (u := 45) rfl
  have pf_qc := ic qc f_qc
  obtain ⟨qh, f_qh, g_qh⟩ := hx_rf hT gx tt_9 (k := 12) (u := 46) rfl
  have pf_qh := ih qh f_qh
  obtain ⟨qw, f_qw, g_qw⟩ := hx_rf hT gx tt_9 (k := 19) (u := 8) rfl
  obtain ⟨ql, f_ql, g_ql⟩ := hx_rf hT g_qw tt_8 (k := 3) (u := 40) rfl
  have pf_ql := il qw ql f_qw f_ql
  obtain ⟨nw, f_m_now⟩ : ∃ y : Int32, hl1.2.1 am 0 = y := ⟨_, rfl⟩
  have b_nw := hT.gi gm tt_10 (k := 0) rfl
  rw [f_m_now] at b_nw
  have b_nw : 0 ≤ nw.toInt ∧ nw.toInt ≤ 7999 := b_nw
  obtain ⟨np, f_m_persons⟩ : ∃ y : Int32, hl1.2.1 am 20 = y := ⟨_, rfl⟩
  have b_np := hT.gi gm tt_10 (k := 20) rfl
  rw [f_m_persons] at b_np
  have b_np : 0 ≤ np.toInt ∧ np.toInt ≤ 40 := b_np
  obtain ⟨c0, f_m_claims⟩ : ∃ y : Int32, hl1.2.1 am 36 = y := ⟨_, rfl⟩
  have b_c0 := hT.gi gm tt_10 (k := 36) rfl
  rw [f_m_claims] at b_c0
  have b_c0 : 0 ≤ c0.toInt ∧ c0.toInt ≤ 100 := b_c0
  obtain ⟨ln, f_m_lines⟩ : ∃ y : Int32, hl1.2.1 am 29 = y := ⟨_, rfl⟩
  have b_ln := hT.gi gm tt_10 (k := 29) rfl
  rw [f_m_lines] at b_ln
  have b_ln : 0 ≤ ln.toInt ∧ ln.toInt ≤ 400 := b_ln
  obtain ⟨lsd, f_m_listed⟩ : ∃ y : Int32, hl1.2.1 am 90 = y := ⟨_, rfl⟩
  have b_lsd := hT.gi gm tt_10 (k := 90) rfl
  rw [f_m_listed] at b_lsd
  have b_lsd : 0 ≤ lsd.toInt ∧ lsd.toInt ≤ 8 := b_lsd
  obtain ⟨wkm, f_m_walkedMany⟩ : ∃ y : Int32, hl1.2.1 am 92 = y := ⟨_, rfl⟩
  have b_wkm := hT.gi gm tt_10 (k := 92) rfl
  rw [f_m_walkedMany] at b_wkm
  have b_wkm : 0 ≤ wkm.toInt ∧ wkm.toInt ≤ 8 := b_wkm
  obtain ⟨a0, f_m_acts⟩ : ∃ y : Int32, hl1.2.1 am 1 = y := ⟨_, rfl⟩
  have b_a0 := hT.gi gm tt_10 (k := 1) rfl
  rw [f_m_acts] at b_a0
  have b_a0 : 0 ≤ a0.toInt ∧ a0.toInt ≤ 8 := b_a0
  obtain ⟨m0, f_m_heardMany⟩ : ∃ y : Int32, hl1.2.1 am 57 = y := ⟨_, rfl⟩
  have b_m0 := hT.gi gm tt_10 (k := 57) rfl
  rw [f_m_heardMany] at b_m0
  have b_m0 : 0 ≤ m0.toInt ∧ m0.toInt ≤ 100 := b_m0
  have f_x_now : hl1.2.1 ax 2 = nw := he_nw.trans f_m_now
  have f_x_personCount : hl1.2.1 ax 8 = np := he_np.trans f_m_persons
  have f_x_claimCount : hl1.2.1 ax 11 = c0 := he_c0.trans f_m_claims
  obtain ⟨mw, f_mw, g_mw⟩ := hx_rf hT gm tt_10 (k := 19) (u := 57) rfl
  obtain ⟨F_mw, n_mw⟩ : ∃ g : Nat → Int32, hl1.2.1 mw = g := ⟨_, rfl⟩
  obtain ⟨mr, f_mr, g_mr⟩ := hx_rf hT gm tt_10 (k := 3) (u := 50) rfl
  obtain ⟨F_mr, n_mr⟩ : ∃ g : Nat → Int32, hl1.2.1 mr = g := ⟨_, rfl⟩
  obtain ⟨mp, f_mp, g_mp⟩ := hx_rf hT gm tt_10 (k := 5) (u := 52) rfl
  obtain ⟨F_mp, n_mp⟩ : ∃ g : Nat → Int32, hl1.2.1 mp = g := ⟨_, rfl⟩
  obtain ⟨mn, f_mn, g_mn⟩ := hx_rf hT gm tt_10 (k := 4) (u := 51) rfl
  obtain ⟨F_mn, n_mn⟩ : ∃ g : Nat → Int32, hl1.2.1 mn = g := ⟨_, rfl⟩
  obtain ⟨ml, f_ml, g_ml⟩ := hx_rf hT gm tt_10 (k := 44) (u := 79) rfl
  obtain ⟨F_ml, n_ml⟩ : ∃ g : Nat → Int32, hl1.2.1 ml = g := ⟨_, rfl⟩
  obtain ⟨mh, f_mh, g_mh⟩ := hx_rf hT gm tt_10 (k := 47) (u := 82) rfl
  obtain ⟨F_mh, n_mh⟩ : ∃ g : Nat → Int32, hl1.2.1 mh = g := ⟨_, rfl⟩
  obtain ⟨mt, f_mt, g_mt⟩ := hx_rf hT gm tt_10 (k := 45) (u := 80) rfl
  obtain ⟨F_mt, n_mt⟩ : ∃ g : Nat → Int32, hl1.2.1 mt = g := ⟨_, rfl⟩
  obtain ⟨m_fou, f_m_fou, g_m_fou⟩ := hx_rf hT gm tt_10 (k := 46) (u := 81) rfl
  obtain ⟨F_m_fou, n_m_fou⟩ : ∃ g : Nat → Int32, hl1.2.1 m_fou = g := ⟨_, rfl⟩
  obtain ⟨qo_ln, f_qo_ln, g_qo_ln⟩ := hx_rf hT gx tt_9 (k := 9) (u := 1) rfl
  have f_o_ln : hl1.2.1 qo_ln 0 = ln := (ho_ln qo_ln f_qo_ln).trans f_m_lines
  have f_o_lsd : hl1.2.1 qw 0 = lsd := (ho_lsd qw f_qw).trans f_m_listed
  have f_o_wkm : hl1.2.1 qw 1 = wkm := (ho_wkm qw f_qw).trans f_m_walkedMany
  have nu_qp := hn_qp qp f_qp; rw [f_x_personCount] at nu_qp
  have nu_qc := hn_qc qc f_qc; rw [f_x_claimCount] at nu_qc
  obtain ⟨b_of, f_b_of, g_b_of⟩ := hx_rf hT g_qo_ln tt_1 (k := 1) (u := 13) rfl
  obtain ⟨B_of, n_b_of⟩ : ∃ g : Nat → Int32, hl1.2.1 b_of = g := ⟨_, rfl⟩
  obtain ⟨m_of, f_m_of, g_m_of⟩ := hx_rf hT gm tt_10 (k := 30) (u := 66) rfl
  obtain ⟨F_of, n_m_of⟩ : ∃ g : Nat → Int32, hl1.2.1 m_of = g := ⟨_, rfl⟩
  have eb_of := hk_of qo_ln b_of m_of f_qo_ln f_b_of f_m_of; rw [n_b_of, n_m_of, f_o_ln] at eb_of
  obtain ⟨b_wf, f_b_wf, g_b_wf⟩ := hx_rf hT g_qo_ln tt_1 (k := 2) (u := 14) rfl
  obtain ⟨B_wf, n_b_wf⟩ : ∃ g : Nat → Int32, hl1.2.1 b_wf = g := ⟨_, rfl⟩
  obtain ⟨m_wf, f_m_wf, g_m_wf⟩ := hx_rf hT gm tt_10 (k := 31) (u := 67) rfl
  obtain ⟨F_wf, n_m_wf⟩ : ∃ g : Nat → Int32, hl1.2.1 m_wf = g := ⟨_, rfl⟩
  have eb_wf := hk_wf qo_ln b_wf m_wf f_qo_ln f_b_wf f_m_wf; rw [n_b_wf, n_m_wf, f_o_ln] at eb_wf
  obtain ⟨b_df, f_b_df, g_b_df⟩ := hx_rf hT g_qo_ln tt_1 (k := 3) (u := 15) rfl
  obtain ⟨B_df, n_b_df⟩ : ∃ g : Nat → Int32, hl1.2.1 b_df = g := ⟨_, rfl⟩
  obtain ⟨m_df, f_m_df, g_m_df⟩ := hx_rf hT gm tt_10 (k := 32) (u := 68) rfl
  obtain ⟨F_df, n_m_df⟩ : ∃ g : Nat → Int32, hl1.2.1 m_df = g := ⟨_, rfl⟩
  have eb_df := hk_df qo_ln b_df m_df f_qo_ln f_b_df f_m_df; rw [n_b_df, n_m_df, f_o_ln] at eb_df
  obtain ⟨b_kf, f_b_kf, g_b_kf⟩ := hx_rf hT g_qo_ln tt_1 (k := 4) (u := 16) rfl
  obtain ⟨B_kf, n_b_kf⟩ : ∃ g : Nat → Int32, hl1.2.1 b_kf = g := ⟨_, rfl⟩
  obtain ⟨m_kf, f_m_kf, g_m_kf⟩ := hx_rf hT gm tt_10 (k := 33) (u := 69) rfl
  obtain ⟨F_kf, n_m_kf⟩ : ∃ g : Nat → Int32, hl1.2.1 m_kf = g := ⟨_, rfl⟩
  have eb_kf := hk_kf qo_ln b_kf m_kf f_qo_ln f_b_kf f_m_kf; rw [n_b_kf, n_m_kf, f_o_ln] at eb_kf
  obtain ⟨b_sf, f_b_sf, g_b_sf⟩ := hx_rf hT g_qo_ln tt_1 (k := 5) (u := 17) rfl
  obtain ⟨B_sf, n_b_sf⟩ : ∃ g : Nat → Int32, hl1.2.1 b_sf = g := ⟨_, rfl⟩
  obtain ⟨m_sf, f_m_sf, g_m_sf⟩ := hx_rf hT gm tt_10 (k := 34) (u := 70) rfl
  obtain ⟨F_sf, n_m_sf⟩ : ∃ g : Nat → Int32, hl1.2.1 m_sf = g := ⟨_, rfl⟩
  have eb_sf := hk_sf qo_ln b_sf m_sf f_qo_ln f_b_sf f_m_sf; rw [n_b_sf, n_m_sf, f_o_ln] at eb_sf
  obtain ⟨b_bf, f_b_bf, g_b_bf⟩ := hx_rf hT g_qo_ln tt_1 (k := 6) (u := 18) rfl
  obtain ⟨bfL, n_b_bf⟩ : ∃ g : Nat → Int32, hl1.2.1 b_bf = g := ⟨_, rfl⟩
  obtain ⟨hBD, hDY⟩ := hkBD qo_ln b_df b_bf f_qo_ln f_b_df f_b_bf; rw [n_b_df, n_b_bf, f_o_ln] at hBD; rw [n_b_df, f_o_ln] at hDY
  have hBDm := hy_BD_c eb_df hBD
  have hDYm : hy_DY F_df ln.toInt.toNat := fun x hx => by rw [← eb_df x hx]; exact hDY x hx
  have sb_list := hLQ qw ql qc f_qw f_ql f_qc
  obtain ⟨m_lst, f_m_lst, g_m_lst⟩ := hx_rf hT gm tt_10 (k := 91) (u := 112) rfl
  obtain ⟨F_lst, n_lst⟩ : ∃ g : Nat → Int32, hl1.2.1 m_lst = g := ⟨_, rfl⟩
  obtain ⟨c_lst, cl_lst⟩ : ∃ g : Nat → Int32, hx_col 8 hl1 ql 0 = g := ⟨_, rfl⟩
  have eq_lst := hLE qw ql m_lst f_qw f_ql f_m_lst; rw [cl_lst, n_lst] at eq_lst
  obtain ⟨c_dead, cl_dead⟩ : ∃ g : Nat → Int32, hx_col 40 hl1 qp 7 = g := ⟨_, rfl⟩
  obtain ⟨m_dead, f_m_dead, g_m_dead⟩ := hx_rf hT gm tt_10 (k := 27) (u := 64) rfl
  obtain ⟨F_dead, n_dead⟩ : ∃ g : Nat → Int32, hl1.2.1 m_dead = g := ⟨_, rfl⟩
  have eq_dead := hc_dead qp m_dead f_qp f_m_dead; rw [cl_dead, n_dead] at eq_dead
  have z_dead : np.toInt.toNat < 40 → c_dead np.toInt.toNat = 0 := fun hj => hx_num_z nu_qp cl_dead hj (by omega)
  obtain ⟨c_isj, cl_isj⟩ : ∃ g : Nat → Int32, hx_col 40 hl1 qp 8 = g := ⟨_, rfl⟩
  obtain ⟨m_isj, f_m_isj, g_m_isj⟩ := hx_rf hT gm tt_10 (k := 28) (u := 65) rfl
  obtain ⟨F_isj, n_isj⟩ : ∃ g : Nat → Int32, hl1.2.1 m_isj = g := ⟨_, rfl⟩
  have eq_isj := hc_isj qp m_isj f_qp f_m_isj; rw [cl_isj, n_isj] at eq_isj
  have z_isj : np.toInt.toNat < 40 → c_isj np.toInt.toNat = 0 := fun hj => hx_num_z nu_qp cl_isj hj (by omega)
  obtain ⟨c_dox, cl_dox⟩ : ∃ g : Nat → Int32, hx_col 40 hl1 qp 5 = g := ⟨_, rfl⟩
  obtain ⟨m_dox, f_m_dox, g_m_dox⟩ := hx_rf hT gm tt_10 (k := 24) (u := 61) rfl
  obtain ⟨F_dox, n_dox⟩ : ∃ g : Nat → Int32, hl1.2.1 m_dox = g := ⟨_, rfl⟩
  have eq_dox := hc_dox qp m_dox f_qp f_m_dox; rw [cl_dox, n_dox] at eq_dox
  have z_dox : np.toInt.toNat < 40 → c_dox np.toInt.toNat = 0 := fun hj => hx_num_z nu_qp cl_dox hj (by omega)
  obtain ⟨c_doy, cl_doy⟩ : ∃ g : Nat → Int32, hx_col 40 hl1 qp 6 = g := ⟨_, rfl⟩
  obtain ⟨m_doy, f_m_doy, g_m_doy⟩ := hx_rf hT gm tt_10 (k := 25) (u := 62) rfl
  obtain ⟨F_doy, n_doy⟩ : ∃ g : Nat → Int32, hl1.2.1 m_doy = g := ⟨_, rfl⟩
  have eq_doy := hc_doy qp m_doy f_qp f_m_doy; rw [cl_doy, n_doy] at eq_doy
  have z_doy : np.toInt.toNat < 40 → c_doy np.toInt.toNat = 0 := fun hj => hx_num_z nu_qp cl_doy hj (by omega)
  obtain ⟨c_fou, cl_fou⟩ : ∃ g : Nat → Int32, hx_col 100 hl1 qc 10 = g := ⟨_, rfl⟩
  have eq_fou := hc_fou qc m_fou f_qc f_m_fou; rw [cl_fou, n_m_fou] at eq_fou
  have z_fou : c0.toInt.toNat < 100 → c_fou c0.toInt.toNat = 0 := fun hj => hx_num_z nu_qc cl_fou hj (by omega)
  obtain ⟨c_tri, cl_tri⟩ : ∃ g : Nat → Int32, hx_col 100 hl1 qc 9 = g := ⟨_, rfl⟩
  have eq_tri := hc_tri qc mt f_qc f_mt; rw [cl_tri, n_mt] at eq_tri
  have z_tri : c0.toInt.toNat < 100 → c_tri c0.toInt.toNat = 0 := fun hj => hx_num_z nu_qc cl_tri hj (by omega)
  obtain ⟨qlt, f_qlt, g_qlt⟩ := hx_rf hT g_qw tt_8 (k := 2) (u := 39) rfl
  obtain ⟨qlf, f_qlf, g_qlf⟩ := hx_rf hT g_qw tt_8 (k := 4) (u := 41) rfl
  obtain ⟨m_wkd, f_m_wkd, g_m_wkd⟩ := hx_rf hT gm tt_10 (k := 93) (u := 113) rfl
  obtain ⟨F_qlt, n_qlt⟩ : ∃ g : Nat → Int32, hl1.2.1 qlt = g := ⟨_, rfl⟩
  obtain ⟨F_m_wkd, n_m_wkd⟩ : ∃ g : Nat → Int32, hl1.2.1 m_wkd = g := ⟨_, rfl⟩
  have eb_wkd := hkWD qw qlt m_wkd f_qw f_qlt f_m_wkd; rw [n_qlt, n_m_wkd, f_o_wkm] at eb_wkd
  obtain ⟨m_aga, f_m_aga, g_m_aga⟩ := hx_rf hT gm tt_10 (k := 38) (u := 73) rfl
  obtain ⟨F_aga, n_aga⟩ : ∃ g : Nat → Int32, hl1.2.1 m_aga = g := ⟨_, rfl⟩
  have hDF := hkDF qc qp m_aga f_qc f_qp f_m_aga; rw [n_aga, f_x_claimCount] at hDF
  have hwd := jw mw f_mw; rw [n_mw] at hwd
  have hWK := jr mr f_mr; rw [n_mr, f_m_acts] at hWK
  have hRP := jp mp mn f_mp f_mn; rw [n_mp, n_mn, f_m_acts] at hRP
  have hPL := jl ml f_ml; rw [n_ml, f_m_claims, f_m_acts] at hPL
  have hHC := jh mh f_mh; rw [n_mh, f_m_heardMany, f_m_claims] at hHC
  have hTR := jt mt f_mt; rw [n_mt] at hTR
  have hHF := jf mh m_fou f_mh f_m_fou; rw [n_mh, n_m_fou, f_m_claims] at hHF
  refine lv_aload_n hx hb dL_law_921 rfl (lv_at hl 2 rfl) ?_
  refine lv_aload_n hx hb dL_law_922 rfl (lv_at hl 3 rfl) ?_
  refine lv_iload_n hx hb dL_law_923 rfl (lv_at hl 0 rfl) ?_
  refine lv_iconst (v := 1) hx hb dL_law_924 (by decide) ?_
  refine lv_iadd hx hb dL_law_925 ?_
  have rg_442 := i32_r i
  refine lv_topi (fun x_443 ex_443 => ?_)
  have zx_443 : x_443.toInt = i.toInt + 1 := by rw [ex_443]; exact i32_add rfl (by decide) (by omega) (by omega)
  refine va_sld hx hb hX hbl hbA hW.2.2.2.1 (vp_in_iff.mpr ⟨by omega, by omega⟩) dL_law_926 ?_
  refine lv_topi (fun x_444 ex_444 => ?_)
  refine lv_aload_n hx hb dL_law_927 rfl (lv_at hl 3 rfl) ?_
  refine lv_iload_n hx hb dL_law_928 rfl (lv_at hl 0 rfl) ?_
  refine lv_iconst (v := 2) hx hb dL_law_929 (by decide) ?_
  refine lv_iadd hx hb dL_law_930 ?_
  refine lv_topi (fun x_445 ex_445 => ?_)
  have zx_445 : x_445.toInt = i.toInt + 2 := by rw [ex_445]; exact i32_add rfl (by decide) (by omega) (by omega)
  refine va_sld hx hb hX hbl hbA hW.2.2.2.1 (vp_in_iff.mpr ⟨by omega, by omega⟩) dL_law_931 ?_
  refine lv_topi (fun x_446 ex_446 => ?_)
  refine lv_aload_n hx hb dL_law_932 rfl (lv_at hl 3 rfl) ?_
  refine lv_iload_n hx hb dL_law_933 rfl (lv_at hl 0 rfl) ?_
  refine lv_iconst (v := 3) hx hb dL_law_934 (by decide) ?_
  refine lv_iadd hx hb dL_law_935 ?_
  refine lv_topi (fun x_447 ex_447 => ?_)
  have zx_447 : x_447.toInt = i.toInt + 3 := by rw [ex_447]; exact i32_add rfl (by decide) (by omega) (by omega)
  refine va_sld hx hb hX hbl hbA hW.2.2.2.1 (vp_in_iff.mpr ⟨by omega, by omega⟩) dL_law_936 ?_
  refine lv_topi (fun x_448 ex_448 => ?_)
  have hTo := hT
  refine hx_goi (hx_runV (As := [.int x_444, .int x_446, .int x_448]) (rest := []) ⟨hx, hb, hml, hown, hts⟩ hW gx tt_9 (T := TX9) (N := 20) rfl (t_X9_pay l dC dI dA L1 hl1 H.size ax x_444 x_446 x_448 hT gx qc g_qc f_qc pf_qc) (cwV 3 hts (hx_gV kw_891 kw_888 kw_889 kw_890 kw_94) rfl rfl rfl (by decide +kernel) ⟨Nat.le_of_ble_eq_true rfl, Nat.le_of_ble_eq_true rfl⟩) rfl hl.1 rfl (Nat.le_of_ble_eq_true rfl) dL_law_937 ⟨(show CC + 0 ≤ 600000 from by omega), (show SS + 0 ≤ 7302250 from by omega)⟩) hW (fun r_451 L_449 h_450 H locs p_452 hW => ?_)
  obtain ⟨hr_453, hT, hs⟩ := p_452
  replace hT : hx_T T_tb L_449 h_450 := hT
  replace hs : hx_S T_tb [(3, 0), (22, 0), (23, 0), (24, 0), (25, 0), (26, 0)] L1 hl1 L_449 h_450 := hs
  replace f_qa := (hs.o gx trivial rfl).2.trans f_qa
  replace f_qp := (hs.o gx trivial rfl).2.trans f_qp
  replace f_qc := (hs.o gx trivial rfl).2.trans f_qc
  replace f_qh := (hs.o gx trivial rfl).2.trans f_qh
  replace f_qw := (hs.o gx trivial rfl).2.trans f_qw
  replace f_ql := (hs.o g_qw trivial rfl).2.trans f_ql
  replace f_m_now := (hs.o gm trivial rfl).1.trans f_m_now
  replace f_m_persons := (hs.o gm trivial rfl).1.trans f_m_persons
  replace f_m_claims := (hs.o gm trivial rfl).1.trans f_m_claims
  replace f_m_lines := (hs.o gm trivial rfl).1.trans f_m_lines
  replace f_m_listed := (hs.o gm trivial rfl).1.trans f_m_listed
  replace f_m_walkedMany := (hs.o gm trivial rfl).1.trans f_m_walkedMany
  replace f_m_acts := (hs.o gm trivial rfl).1.trans f_m_acts
  replace f_m_heardMany := (hs.o gm trivial rfl).1.trans f_m_heardMany
  replace f_x_now := (hs.o gx trivial rfl).1.trans f_x_now
  replace f_x_personCount := (hs.o gx trivial rfl).1.trans f_x_personCount
  replace f_x_claimCount := (hs.o gx trivial rfl).1.trans f_x_claimCount
  replace f_mw := (hs.o gm trivial rfl).2.trans f_mw
  replace f_mr := (hs.o gm trivial rfl).2.trans f_mr
  replace f_mp := (hs.o gm trivial rfl).2.trans f_mp
  replace f_mn := (hs.o gm trivial rfl).2.trans f_mn
  replace f_ml := (hs.o gm trivial rfl).2.trans f_ml
  replace f_mh := (hs.o gm trivial rfl).2.trans f_mh
  replace f_mt := (hs.o gm trivial rfl).2.trans f_mt
  replace f_m_fou := (hs.o gm trivial rfl).2.trans f_m_fou
  replace f_qo_ln := (hs.o gx trivial rfl).2.trans f_qo_ln
  replace f_o_ln := (hs.o g_qo_ln trivial rfl).1.trans f_o_ln
  replace f_o_lsd := (hs.o g_qw trivial rfl).1.trans f_o_lsd
  replace f_o_wkm := (hs.o g_qw trivial rfl).1.trans f_o_wkm
  replace f_b_of := (hs.o g_qo_ln trivial rfl).2.trans f_b_of
  replace f_m_of := (hs.o gm trivial rfl).2.trans f_m_of
  replace f_b_wf := (hs.o g_qo_ln trivial rfl).2.trans f_b_wf
  replace f_m_wf := (hs.o gm trivial rfl).2.trans f_m_wf
  replace f_b_df := (hs.o g_qo_ln trivial rfl).2.trans f_b_df
  replace f_m_df := (hs.o gm trivial rfl).2.trans f_m_df
  replace f_b_kf := (hs.o g_qo_ln trivial rfl).2.trans f_b_kf
  replace f_m_kf := (hs.o gm trivial rfl).2.trans f_m_kf
  replace f_b_sf := (hs.o g_qo_ln trivial rfl).2.trans f_b_sf
  replace f_m_sf := (hs.o gm trivial rfl).2.trans f_m_sf
  replace f_b_bf := (hs.o g_qo_ln trivial rfl).2.trans f_b_bf
  replace f_m_lst := (hs.o gm trivial rfl).2.trans f_m_lst
  replace f_m_dead := (hs.o gm trivial rfl).2.trans f_m_dead
  replace f_m_isj := (hs.o gm trivial rfl).2.trans f_m_isj
  replace f_m_dox := (hs.o gm trivial rfl).2.trans f_m_dox
  replace f_m_doy := (hs.o gm trivial rfl).2.trans f_m_doy
  replace f_qlt := (hs.o g_qw trivial rfl).2.trans f_qlt
  replace f_qlf := (hs.o g_qw trivial rfl).2.trans f_qlf
  replace f_m_wkd := (hs.o gm trivial rfl).2.trans f_m_wkd
  replace f_m_aga := (hs.o gm trivial rfl).2.trans f_m_aga
  replace pf_qa : ∀ j : Nat, (j : Int) < (h_450.2.1 ax 6).toInt → h_450.2.2 qa j ≠ none := by
    intro j hj; rw [(hs.o gx trivial rfl).1] at hj; rw [(hs.a g_qa rfl j).2]; exact pf_qa j hj
  replace pf_qp : ∀ j : Nat, (j : Int) < (h_450.2.1 ax 8).toInt → h_450.2.2 qp j ≠ none := by
    intro j hj; rw [(hs.o gx trivial rfl).1] at hj; rw [(hs.a g_qp rfl j).2]; exact pf_qp j hj
  replace pf_qc : ∀ j : Nat, (j : Int) < (h_450.2.1 ax 11).toInt → h_450.2.2 qc j ≠ none := by
    intro j hj; rw [(hs.o gx trivial rfl).1] at hj; rw [(hs.a g_qc rfl j).2]; exact pf_qc j hj
  replace pf_qh : ∀ j : Nat, (j : Int) < (h_450.2.1 ax 13).toInt → h_450.2.2 qh j ≠ none := by
    intro j hj; rw [(hs.o gx trivial rfl).1] at hj; rw [(hs.a g_qh rfl j).2]; exact pf_qh j hj
  replace pf_ql : ∀ j : Nat, (j : Int) < (h_450.2.1 qw 0).toInt → h_450.2.2 ql j ≠ none := by
    intro j hj; rw [(hs.o g_qw trivial rfl).1] at hj; rw [(hs.a g_ql rfl j).2]; exact pf_ql j hj
  replace cl_lst : hx_col 8 h_450 ql 0 = c_lst := (hx_col_S hs hTo g_ql tt_40 tt_2 rfl rfl).trans cl_lst
  replace cl_dead : hx_col 40 h_450 qp 7 = c_dead := (hx_col_S hs hTo g_qp tt_44 tt_4 rfl rfl).trans cl_dead
  replace cl_isj : hx_col 40 h_450 qp 8 = c_isj := (hx_col_S hs hTo g_qp tt_44 tt_4 rfl rfl).trans cl_isj
  replace cl_dox : hx_col 40 h_450 qp 5 = c_dox := (hx_col_S hs hTo g_qp tt_44 tt_4 rfl rfl).trans cl_dox
  replace cl_doy : hx_col 40 h_450 qp 6 = c_doy := (hx_col_S hs hTo g_qp tt_44 tt_4 rfl rfl).trans cl_doy
  replace cl_fou : hx_col 100 h_450 qc 10 = c_fou := (hx_col_S hs hTo g_qc tt_45 tt_2 rfl rfl).trans cl_fou
  replace cl_tri : hx_col 100 h_450 qc 9 = c_tri := (hx_col_S hs hTo g_qc tt_45 tt_2 rfl rfl).trans cl_tri
  replace nu_qp : hx_num 40 h_450 qp 0 (np.toInt) := hx_num_S hs hTo g_qp tt_44 tt_4 rfl rfl nu_qp
  replace nu_qc : hx_num 100 h_450 qc 0 (c0.toInt) := hx_num_S hs hTo g_qc tt_45 tt_2 rfl rfl nu_qc
  replace sb_list : hx_LQ 8 100 h_450 ql qc := hx_LQ_S hs g_ql g_qc rfl rfl sb_list
  replace hDF : hw_DF h_450 qc qp 2 F_aga c0.toInt := hw_DF_S hs hTo g_qc g_qp tt_45 tt_2 rfl rfl rfl hDF
  replace n_mw : h_450.2.1 mw = F_mw := (funext fun j => (hs.a g_mw rfl j).1).trans n_mw
  replace n_mr : h_450.2.1 mr = F_mr := (funext fun j => (hs.a g_mr rfl j).1).trans n_mr
  replace n_mp : h_450.2.1 mp = F_mp := (funext fun j => (hs.a g_mp rfl j).1).trans n_mp
  replace n_mn : h_450.2.1 mn = F_mn := (funext fun j => (hs.a g_mn rfl j).1).trans n_mn
  replace n_ml : h_450.2.1 ml = F_ml := (funext fun j => (hs.a g_ml rfl j).1).trans n_ml
  replace n_mh : h_450.2.1 mh = F_mh := (funext fun j => (hs.a g_mh rfl j).1).trans n_mh
  replace n_mt : h_450.2.1 mt = F_mt := (funext fun j => (hs.a g_mt rfl j).1).trans n_mt
  replace n_m_fou : h_450.2.1 m_fou = F_m_fou := (funext fun j => (hs.a g_m_fou rfl j).1).trans n_m_fou
  replace n_b_of : h_450.2.1 b_of = B_of := (funext fun j => (hs.a g_b_of rfl j).1).trans n_b_of
  replace n_m_of : h_450.2.1 m_of = F_of := (funext fun j => (hs.a g_m_of rfl j).1).trans n_m_of
  replace n_b_wf : h_450.2.1 b_wf = B_wf := (funext fun j => (hs.a g_b_wf rfl j).1).trans n_b_wf
  replace n_m_wf : h_450.2.1 m_wf = F_wf := (funext fun j => (hs.a g_m_wf rfl j).1).trans n_m_wf
  replace n_b_df : h_450.2.1 b_df = B_df := (funext fun j => (hs.a g_b_df rfl j).1).trans n_b_df
  replace n_m_df : h_450.2.1 m_df = F_df := (funext fun j => (hs.a g_m_df rfl j).1).trans n_m_df
  replace n_b_kf : h_450.2.1 b_kf = B_kf := (funext fun j => (hs.a g_b_kf rfl j).1).trans n_b_kf
  replace n_m_kf : h_450.2.1 m_kf = F_kf := (funext fun j => (hs.a g_m_kf rfl j).1).trans n_m_kf
  replace n_b_sf : h_450.2.1 b_sf = B_sf := (funext fun j => (hs.a g_b_sf rfl j).1).trans n_b_sf
  replace n_m_sf : h_450.2.1 m_sf = F_sf := (funext fun j => (hs.a g_m_sf rfl j).1).trans n_m_sf
  replace n_b_bf : h_450.2.1 b_bf = bfL := (funext fun j => (hs.a g_b_bf rfl j).1).trans n_b_bf
  replace n_lst : h_450.2.1 m_lst = F_lst := (funext fun j => (hs.a g_m_lst rfl j).1).trans n_lst
  replace n_dead : h_450.2.1 m_dead = F_dead := (funext fun j => (hs.a g_m_dead rfl j).1).trans n_dead
  replace n_isj : h_450.2.1 m_isj = F_isj := (funext fun j => (hs.a g_m_isj rfl j).1).trans n_isj
  replace n_dox : h_450.2.1 m_dox = F_dox := (funext fun j => (hs.a g_m_dox rfl j).1).trans n_dox
  replace n_doy : h_450.2.1 m_doy = F_doy := (funext fun j => (hs.a g_m_doy rfl j).1).trans n_doy
  replace n_qlt : h_450.2.1 qlt = F_qlt := (funext fun j => (hs.a g_qlt rfl j).1).trans n_qlt
  replace n_m_wkd : h_450.2.1 m_wkd = F_m_wkd := (funext fun j => (hs.a g_m_wkd rfl j).1).trans n_m_wkd
  replace n_aga : h_450.2.1 m_aga = F_aga := (funext fun j => (hs.a g_m_aga rfl j).1).trans n_aga
  replace gx := gx.S hs
  replace gm := gm.S hs
  replace g_qa := g_qa.S hs
  replace g_qp := g_qp.S hs
  replace g_qc := g_qc.S hs
  replace g_qh := g_qh.S hs
  replace g_qw := g_qw.S hs
  replace g_ql := g_ql.S hs
  replace g_mw := g_mw.S hs
  replace g_mr := g_mr.S hs
  replace g_mp := g_mp.S hs
  replace g_mn := g_mn.S hs
  replace g_ml := g_ml.S hs
  replace g_mh := g_mh.S hs
  replace g_mt := g_mt.S hs
  replace g_m_fou := g_m_fou.S hs
  replace g_qo_ln := g_qo_ln.S hs
  replace g_b_of := g_b_of.S hs
  replace g_m_of := g_m_of.S hs
  replace g_b_wf := g_b_wf.S hs
  replace g_m_wf := g_m_wf.S hs
  replace g_b_df := g_b_df.S hs
  replace g_m_df := g_m_df.S hs
  replace g_b_kf := g_b_kf.S hs
  replace g_m_kf := g_m_kf.S hs
  replace g_b_sf := g_b_sf.S hs
  replace g_m_sf := g_m_sf.S hs
  replace g_b_bf := g_b_bf.S hs
  replace g_m_lst := g_m_lst.S hs
  replace g_m_dead := g_m_dead.S hs
  replace g_m_isj := g_m_isj.S hs
  replace g_m_dox := g_m_dox.S hs
  replace g_m_doy := g_m_doy.S hs
  replace g_qlt := g_qlt.S hs
  replace g_qlf := g_qlf.S hs
  replace g_m_wkd := g_m_wkd.S hs
  replace g_m_aga := g_m_aga.S hs
  refine lv_pop hx hb dL_law_940 rfl ?_
  refine lv_aload_n hx hb dL_law_941 rfl (lv_at hl 1 rfl) ?_
  refine lv_aload_n hx hb dL_law_942 rfl (lv_at hl 3 rfl) ?_
  refine lv_iload_n hx hb dL_law_943 rfl (lv_at hl 0 rfl) ?_
  refine lv_iconst (v := 1) hx hb dL_law_944 (by decide) ?_
  refine lv_iadd hx hb dL_law_945 ?_
  refine lv_topi (fun x_454 ex_454 => ?_)
  have zx_454 : x_454.toInt = i.toInt + 1 := by rw [ex_454]; exact i32_add rfl (by decide) (by omega) (by omega)
  obtain rfl : x_443 = x_454 := ex_443.trans ex_454.symm
  refine va_sld hx hb hX hbl hbA hW.2.2.2.1 (vp_in_iff.mpr ⟨by omega, by omega⟩) dL_law_946 ?_
  refine lv_topi (fun x_455 ex_455 => ?_)
  obtain rfl : x_444 = x_455 := ex_444.trans ex_455.symm
  refine lv_aload_n hx hb dL_law_947 rfl (lv_at hl 3 rfl) ?_
  refine lv_iload_n hx hb dL_law_948 rfl (lv_at hl 0 rfl) ?_
  refine lv_iconst (v := 2) hx hb dL_law_949 (by decide) ?_
  refine lv_iadd hx hb dL_law_950 ?_
  refine lv_topi (fun x_456 ex_456 => ?_)
  have zx_456 : x_456.toInt = i.toInt + 2 := by rw [ex_456]; exact i32_add rfl (by decide) (by omega) (by omega)
  obtain rfl : x_445 = x_456 := ex_445.trans ex_456.symm
  refine va_sld hx hb hX hbl hbA hW.2.2.2.1 (vp_in_iff.mpr ⟨by omega, by omega⟩) dL_law_951 ?_
  refine lv_topi (fun x_457 ex_457 => ?_)
  obtain rfl : x_446 = x_457 := ex_446.trans ex_457.symm
  refine lv_aload_n hx hb dL_law_952 rfl (lv_at hl 3 rfl) ?_
  refine lv_iload_n hx hb dL_law_953 rfl (lv_at hl 0 rfl) ?_
  refine lv_iconst (v := 3) hx hb dL_law_954 (by decide) ?_
  refine lv_iadd hx hb dL_law_955 ?_
  refine lv_topi (fun x_458 ex_458 => ?_)
  have zx_458 : x_458.toInt = i.toInt + 3 := by rw [ex_458]; exact i32_add rfl (by decide) (by omega) (by omega)
  obtain rfl : x_447 = x_458 := ex_447.trans ex_458.symm
  refine va_sld hx hb hX hbl hbA hW.2.2.2.1 (vp_in_iff.mpr ⟨by omega, by omega⟩) dL_law_956 ?_
  refine lv_topi (fun x_459 ex_459 => ?_)
  obtain rfl : x_448 = x_459 := ex_448.trans ex_459.symm
  have hTo := hT
  refine hx_goi (hx_runV (As := [.int x_444, .int x_446, .int x_448]) (rest := []) ⟨hx, hb, hml, hown, hts⟩ hW gm tt_10 (T := TX10) (N := 98) rfl (t_X10_pay l dC dI dA L_449 h_450 H.size am x_444 x_446 x_448 hT gm) (cwV 3 hts (hx_gV kw_1649 kw_1646 kw_1647 kw_1648 kw_103) rfl rfl rfl (by decide +kernel) ⟨Nat.le_of_ble_eq_true rfl, Nat.le_of_ble_eq_true rfl⟩) rfl hl.1 rfl (Nat.le_of_ble_eq_true rfl) dL_law_957 ⟨(show CC + 0 + 0 ≤ 600000 from by omega), (show SS + 0 + 0 ≤ 7302250 from by omega)⟩) hW (fun r_462 L_460 h_461 H locs p_463 hW => ?_)
  obtain ⟨hr_464, hT, hs⟩ := p_463
  replace hT : hx_T T_tb L_460 h_461 := hT
  replace hs : hx_S T_tb [(10, 59), (93, 0), (94, 0), (95, 0), (96, 0), (97, 0)] L_449 h_450 L_460 h_461 := hs
  replace f_qa := (hs.o gx trivial rfl).2.trans f_qa
  replace f_qp := (hs.o gx trivial rfl).2.trans f_qp
  replace f_qc := (hs.o gx trivial rfl).2.trans f_qc
  replace f_qh := (hs.o gx trivial rfl).2.trans f_qh
  replace f_qw := (hs.o gx trivial rfl).2.trans f_qw
  replace f_ql := (hs.o g_qw trivial rfl).2.trans f_ql
  replace f_m_now := (hs.o gm trivial rfl).1.trans f_m_now
  replace f_m_persons := (hs.o gm trivial rfl).1.trans f_m_persons
  replace f_m_claims := (hs.o gm trivial rfl).1.trans f_m_claims
  replace f_m_lines := (hs.o gm trivial rfl).1.trans f_m_lines
  replace f_m_listed := (hs.o gm trivial rfl).1.trans f_m_listed
  replace f_m_walkedMany := (hs.o gm trivial rfl).1.trans f_m_walkedMany
  replace f_m_acts := (hs.o gm trivial rfl).1.trans f_m_acts
  replace f_m_heardMany := (hs.o gm trivial rfl).1.trans f_m_heardMany
  replace f_x_now := (hs.o gx trivial rfl).1.trans f_x_now
  replace f_x_personCount := (hs.o gx trivial rfl).1.trans f_x_personCount
  replace f_x_claimCount := (hs.o gx trivial rfl).1.trans f_x_claimCount
  replace f_mw := (hs.o gm trivial rfl).2.trans f_mw
  replace f_mr := (hs.o gm trivial rfl).2.trans f_mr
  replace f_mp := (hs.o gm trivial rfl).2.trans f_mp
  replace f_mn := (hs.o gm trivial rfl).2.trans f_mn
  replace f_ml := (hs.o gm trivial rfl).2.trans f_ml
  replace f_mh := (hs.o gm trivial rfl).2.trans f_mh
  replace f_mt := (hs.o gm trivial rfl).2.trans f_mt
  replace f_m_fou := (hs.o gm trivial rfl).2.trans f_m_fou
  replace f_qo_ln := (hs.o gx trivial rfl).2.trans f_qo_ln
  replace f_o_ln := (hs.o g_qo_ln trivial rfl).1.trans f_o_ln
  replace f_o_lsd := (hs.o g_qw trivial rfl).1.trans f_o_lsd
  replace f_o_wkm := (hs.o g_qw trivial rfl).1.trans f_o_wkm
  replace f_b_of := (hs.o g_qo_ln trivial rfl).2.trans f_b_of
  replace f_m_of := (hs.o gm trivial rfl).2.trans f_m_of
  replace f_b_wf := (hs.o g_qo_ln trivial rfl).2.trans f_b_wf
  replace f_m_wf := (hs.o gm trivial rfl).2.trans f_m_wf
  replace f_b_df := (hs.o g_qo_ln trivial rfl).2.trans f_b_df
  replace f_m_df := (hs.o gm trivial rfl).2.trans f_m_df
  replace f_b_kf := (hs.o g_qo_ln trivial rfl).2.trans f_b_kf
  replace f_m_kf := (hs.o gm trivial rfl).2.trans f_m_kf
  replace f_b_sf := (hs.o g_qo_ln trivial rfl).2.trans f_b_sf
  replace f_m_sf := (hs.o gm trivial rfl).2.trans f_m_sf
  replace f_b_bf := (hs.o g_qo_ln trivial rfl).2.trans f_b_bf
  replace f_m_lst := (hs.o gm trivial rfl).2.trans f_m_lst
  replace f_m_dead := (hs.o gm trivial rfl).2.trans f_m_dead
  replace f_m_isj := (hs.o gm trivial rfl).2.trans f_m_isj
  replace f_m_dox := (hs.o gm trivial rfl).2.trans f_m_dox
  replace f_m_doy := (hs.o gm trivial rfl).2.trans f_m_doy
  replace f_qlt := (hs.o g_qw trivial rfl).2.trans f_qlt
  replace f_qlf := (hs.o g_qw trivial rfl).2.trans f_qlf
  replace f_m_wkd := (hs.o gm trivial rfl).2.trans f_m_wkd
  replace f_m_aga := (hs.o gm trivial rfl).2.trans f_m_aga
  replace pf_qa : ∀ j : Nat, (j : Int) < (h_461.2.1 ax 6).toInt → h_461.2.2 qa j ≠ none := by
    intro j hj; rw [(hs.o gx trivial rfl).1] at hj; rw [(hs.a g_qa rfl j).2]; exact pf_qa j hj
  replace pf_qp : ∀ j : Nat, (j : Int) < (h_461.2.1 ax 8).toInt → h_461.2.2 qp j ≠ none := by
    intro j hj; rw [(hs.o gx trivial rfl).1] at hj; rw [(hs.a g_qp rfl j).2]; exact pf_qp j hj
  replace pf_qc : ∀ j : Nat, (j : Int) < (h_461.2.1 ax 11).toInt → h_461.2.2 qc j ≠ none := by
    intro j hj; rw [(hs.o gx trivial rfl).1] at hj; rw [(hs.a g_qc rfl j).2]; exact pf_qc j hj
  replace pf_qh : ∀ j : Nat, (j : Int) < (h_461.2.1 ax 13).toInt → h_461.2.2 qh j ≠ none := by
    intro j hj; rw [(hs.o gx trivial rfl).1] at hj; rw [(hs.a g_qh rfl j).2]; exact pf_qh j hj
  replace pf_ql : ∀ j : Nat, (j : Int) < (h_461.2.1 qw 0).toInt → h_461.2.2 ql j ≠ none := by
    intro j hj; rw [(hs.o g_qw trivial rfl).1] at hj; rw [(hs.a g_ql rfl j).2]; exact pf_ql j hj
  replace cl_lst : hx_col 8 h_461 ql 0 = c_lst := (hx_col_S hs hTo g_ql tt_40 tt_2 rfl rfl).trans cl_lst
  replace cl_dead : hx_col 40 h_461 qp 7 = c_dead := (hx_col_S hs hTo g_qp tt_44 tt_4 rfl rfl).trans cl_dead
  replace cl_isj : hx_col 40 h_461 qp 8 = c_isj := (hx_col_S hs hTo g_qp tt_44 tt_4 rfl rfl).trans cl_isj
  replace cl_dox : hx_col 40 h_461 qp 5 = c_dox := (hx_col_S hs hTo g_qp tt_44 tt_4 rfl rfl).trans cl_dox
  replace cl_doy : hx_col 40 h_461 qp 6 = c_doy := (hx_col_S hs hTo g_qp tt_44 tt_4 rfl rfl).trans cl_doy
  replace cl_fou : hx_col 100 h_461 qc 10 = c_fou := (hx_col_S hs hTo g_qc tt_45 tt_2 rfl rfl).trans cl_fou
  replace cl_tri : hx_col 100 h_461 qc 9 = c_tri := (hx_col_S hs hTo g_qc tt_45 tt_2 rfl rfl).trans cl_tri
  replace nu_qp : hx_num 40 h_461 qp 0 (np.toInt) := hx_num_S hs hTo g_qp tt_44 tt_4 rfl rfl nu_qp
  replace nu_qc : hx_num 100 h_461 qc 0 (c0.toInt) := hx_num_S hs hTo g_qc tt_45 tt_2 rfl rfl nu_qc
  replace sb_list : hx_LQ 8 100 h_461 ql qc := hx_LQ_S hs g_ql g_qc rfl rfl sb_list
  replace hDF : hw_DF h_461 qc qp 2 F_aga c0.toInt := hw_DF_S hs hTo g_qc g_qp tt_45 tt_2 rfl rfl rfl hDF
  replace n_mw : h_461.2.1 mw = F_mw := (funext fun j => (hs.a g_mw rfl j).1).trans n_mw
  replace n_mr : h_461.2.1 mr = F_mr := (funext fun j => (hs.a g_mr rfl j).1).trans n_mr
  replace n_mp : h_461.2.1 mp = F_mp := (funext fun j => (hs.a g_mp rfl j).1).trans n_mp
  replace n_mn : h_461.2.1 mn = F_mn := (funext fun j => (hs.a g_mn rfl j).1).trans n_mn
  replace n_ml : h_461.2.1 ml = F_ml := (funext fun j => (hs.a g_ml rfl j).1).trans n_ml
  replace n_mh : h_461.2.1 mh = F_mh := (funext fun j => (hs.a g_mh rfl j).1).trans n_mh
  replace n_mt : h_461.2.1 mt = F_mt := (funext fun j => (hs.a g_mt rfl j).1).trans n_mt
  replace n_m_fou : h_461.2.1 m_fou = F_m_fou := (funext fun j => (hs.a g_m_fou rfl j).1).trans n_m_fou
  replace n_b_of : h_461.2.1 b_of = B_of := (funext fun j => (hs.a g_b_of rfl j).1).trans n_b_of
  replace n_m_of : h_461.2.1 m_of = F_of := (funext fun j => (hs.a g_m_of rfl j).1).trans n_m_of
  replace n_b_wf : h_461.2.1 b_wf = B_wf := (funext fun j => (hs.a g_b_wf rfl j).1).trans n_b_wf
  replace n_m_wf : h_461.2.1 m_wf = F_wf := (funext fun j => (hs.a g_m_wf rfl j).1).trans n_m_wf
  replace n_b_df : h_461.2.1 b_df = B_df := (funext fun j => (hs.a g_b_df rfl j).1).trans n_b_df
  replace n_m_df : h_461.2.1 m_df = F_df := (funext fun j => (hs.a g_m_df rfl j).1).trans n_m_df
  replace n_b_kf : h_461.2.1 b_kf = B_kf := (funext fun j => (hs.a g_b_kf rfl j).1).trans n_b_kf
  replace n_m_kf : h_461.2.1 m_kf = F_kf := (funext fun j => (hs.a g_m_kf rfl j).1).trans n_m_kf
  replace n_b_sf : h_461.2.1 b_sf = B_sf := (funext fun j => (hs.a g_b_sf rfl j).1).trans n_b_sf
  replace n_m_sf : h_461.2.1 m_sf = F_sf := (funext fun j => (hs.a g_m_sf rfl j).1).trans n_m_sf
  replace n_b_bf : h_461.2.1 b_bf = bfL := (funext fun j => (hs.a g_b_bf rfl j).1).trans n_b_bf
  replace n_lst : h_461.2.1 m_lst = F_lst := (funext fun j => (hs.a g_m_lst rfl j).1).trans n_lst
  replace n_dead : h_461.2.1 m_dead = F_dead := (funext fun j => (hs.a g_m_dead rfl j).1).trans n_dead
  replace n_isj : h_461.2.1 m_isj = F_isj := (funext fun j => (hs.a g_m_isj rfl j).1).trans n_isj
  replace n_dox : h_461.2.1 m_dox = F_dox := (funext fun j => (hs.a g_m_dox rfl j).1).trans n_dox
  replace n_doy : h_461.2.1 m_doy = F_doy := (funext fun j => (hs.a g_m_doy rfl j).1).trans n_doy
  replace n_qlt : h_461.2.1 qlt = F_qlt := (funext fun j => (hs.a g_qlt rfl j).1).trans n_qlt
  replace n_m_wkd : h_461.2.1 m_wkd = F_m_wkd := (funext fun j => (hs.a g_m_wkd rfl j).1).trans n_m_wkd
  replace n_aga : h_461.2.1 m_aga = F_aga := (funext fun j => (hs.a g_m_aga rfl j).1).trans n_aga
  replace gx := gx.S hs
  replace gm := gm.S hs
  replace g_qa := g_qa.S hs
  replace g_qp := g_qp.S hs
  replace g_qc := g_qc.S hs
  replace g_qh := g_qh.S hs
  replace g_qw := g_qw.S hs
  replace g_ql := g_ql.S hs
  replace g_mw := g_mw.S hs
  replace g_mr := g_mr.S hs
  replace g_mp := g_mp.S hs
  replace g_mn := g_mn.S hs
  replace g_ml := g_ml.S hs
  replace g_mh := g_mh.S hs
  replace g_mt := g_mt.S hs
  replace g_m_fou := g_m_fou.S hs
  replace g_qo_ln := g_qo_ln.S hs
  replace g_b_of := g_b_of.S hs
  replace g_m_of := g_m_of.S hs
  replace g_b_wf := g_b_wf.S hs
  replace g_m_wf := g_m_wf.S hs
  replace g_b_df := g_b_df.S hs
  replace g_m_df := g_m_df.S hs
  replace g_b_kf := g_b_kf.S hs
  replace g_m_kf := g_m_kf.S hs
  replace g_b_sf := g_b_sf.S hs
  replace g_m_sf := g_m_sf.S hs
  replace g_b_bf := g_b_bf.S hs
  replace g_m_lst := g_m_lst.S hs
  replace g_m_dead := g_m_dead.S hs
  replace g_m_isj := g_m_isj.S hs
  replace g_m_dox := g_m_dox.S hs
  replace g_m_doy := g_m_doy.S hs
  replace g_qlt := g_qlt.S hs
  replace g_qlf := g_qlf.S hs
  replace g_m_wkd := g_m_wkd.S hs
  replace g_m_aga := g_m_aga.S hs
  refine lv_pop hx hb dL_law_960 rfl ?_
  refine lv_goto (tgt := 1379) hx hb dL_law_961 (by decide) ?_
  refine W.widen (k := CC + 3) (n := SS + 179) (by omega) (by omega) ?_
  exact kk L_460 h_461 H locs ls hW ⟨hT, gx, gm, ⟨f_x_now.trans f_m_now.symm, f_x_personCount.trans f_m_persons.symm, f_x_claimCount.trans f_m_claims.symm, hx_ob f_qo_ln (f_o_ln.trans f_m_lines.symm), hx_ob f_qw (f_o_lsd.trans f_m_listed.symm), hx_ob f_qw (f_o_wkm.trans f_m_walkedMany.symm), hx_ob f_qp (by rw [f_x_personCount]; exact nu_qp), hx_ob f_qc (by rw [f_x_claimCount]; exact nu_qc), (fun b a r hb ha hr => by obtain rfl : qo_ln = b := Option.some.inj (f_qo_ln.symm.trans hb); obtain rfl : b_of = a := Option.some.inj (f_b_of.symm.trans ha); obtain rfl : m_of = r := Option.some.inj (f_m_of.symm.trans hr); rw [n_b_of, n_m_of, f_o_ln]; exact eb_of), (fun b a r hb ha hr => by obtain rfl : qo_ln = b := Option.some.inj (f_qo_ln.symm.trans hb); obtain rfl : b_wf = a := Option.some.inj (f_b_wf.symm.trans ha); obtain rfl : m_wf = r := Option.some.inj (f_m_wf.symm.trans hr); rw [n_b_wf, n_m_wf, f_o_ln]; exact eb_wf), (fun b a r hb ha hr => by obtain rfl : qo_ln = b := Option.some.inj (f_qo_ln.symm.trans hb); obtain rfl : b_df = a := Option.some.inj (f_b_df.symm.trans ha); obtain rfl : m_df = r := Option.some.inj (f_m_df.symm.trans hr); rw [n_b_df, n_m_df, f_o_ln]; exact eb_df), (fun b a r hb ha hr => by obtain rfl : qo_ln = b := Option.some.inj (f_qo_ln.symm.trans hb); obtain rfl : b_kf = a := Option.some.inj (f_b_kf.symm.trans ha); obtain rfl : m_kf = r := Option.some.inj (f_m_kf.symm.trans hr); rw [n_b_kf, n_m_kf, f_o_ln]; exact eb_kf), (fun b a r hb ha hr => by obtain rfl : qo_ln = b := Option.some.inj (f_qo_ln.symm.trans hb); obtain rfl : b_sf = a := Option.some.inj (f_b_sf.symm.trans ha); obtain rfl : m_sf = r := Option.some.inj (f_m_sf.symm.trans hr); rw [n_b_sf, n_m_sf, f_o_ln]; exact eb_sf), (fun b a r hb ha hr => by obtain rfl : qo_ln = b := Option.some.inj (f_qo_ln.symm.trans hb); obtain rfl : b_df = a := Option.some.inj (f_b_df.symm.trans ha); obtain rfl : b_bf = r := Option.some.inj (f_b_bf.symm.trans hr); rw [n_b_df, n_b_bf, f_o_ln]; exact ⟨hBD, hDY⟩), (fun w q c hw hq hc => by obtain rfl : qw = w := Option.some.inj (f_qw.symm.trans hw); obtain rfl : ql = q := Option.some.inj (f_ql.symm.trans hq); obtain rfl : qc = c := Option.some.inj (f_qc.symm.trans hc); exact sb_list), (fun w q r hw hq hr => by obtain rfl : qw = w := Option.some.inj (f_qw.symm.trans hw); obtain rfl : ql = q := Option.some.inj (f_ql.symm.trans hq); obtain rfl : m_lst = r := Option.some.inj (f_m_lst.symm.trans hr); rw [cl_lst, n_lst]; exact eq_lst), (fun w q r hw hq hr => by obtain rfl : qw = w := Option.some.inj (f_qw.symm.trans hw); obtain rfl : qlt = q := Option.some.inj (f_qlt.symm.trans hq); obtain rfl : m_wkd = r := Option.some.inj (f_m_wkd.symm.trans hr); rw [n_qlt, n_m_wkd, f_o_wkm]; exact eb_wkd), (fun c q a hc hq ha => by obtain rfl : qc = c := Option.some.inj (f_qc.symm.trans hc); obtain rfl : qp = q := Option.some.inj (f_qp.symm.trans hq); obtain rfl : m_aga = a := Option.some.inj (f_m_aga.symm.trans ha); rw [n_aga, f_x_claimCount]; exact hw_DF_e hDF rfl rfl), hx_ob2 f_qp f_m_dead (by rw [cl_dead, n_dead]; exact eq_dead), hx_ob2 f_qp f_m_isj (by rw [cl_isj, n_isj]; exact eq_isj), hx_ob2 f_qp f_m_dox (by rw [cl_dox, n_dox]; exact eq_dox), hx_ob2 f_qp f_m_doy (by rw [cl_doy, n_doy]; exact eq_doy), hx_ob2 f_qc f_m_fou (by rw [cl_fou, n_m_fou]; exact eq_fou), hx_ob2 f_qc f_mt (by rw [cl_tri, n_mt]; exact eq_tri), trivial⟩, ⟨hx_ob f_qa pf_qa, hx_ob f_qp pf_qp, hx_ob f_qc pf_qc, hx_ob f_qh pf_qh, (fun w q hw hq => by obtain rfl : qw = w := Option.some.inj (f_qw.symm.trans hw); obtain rfl : ql = q := Option.some.inj (f_ql.symm.trans hq); exact pf_ql)⟩, ⟨hx_ob f_mw (by rw [n_mw]; exact hwd), hx_ob f_mr (by rw [n_mr, f_m_acts]; exact hWK), hx_ob2 f_mp f_mn (by rw [n_mp, n_mn, f_m_acts]; exact hRP), hx_ob f_ml (by rw [n_ml, f_m_claims, f_m_acts]; exact hPL), hx_ob f_mh (by rw [n_mh, f_m_heardMany, f_m_claims]; exact hHC), hx_ob f_mt (by rw [n_mt]; exact (hx_TR_le hTR (by omega))), hx_ob2 f_mh f_m_fou (by rw [n_mh, n_m_fou, f_m_claims]; exact hHF)⟩⟩ hl
