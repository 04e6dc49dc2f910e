set_option maxHeartbeats 4000000 in
set_option maxRecDepth 100000 in
theorem law_case_16 {p : Program} {e : Env} {s : State} {m : MethodId} {below : List Frame} {meth : Method} {c : Code} (l : Launch) {b LN : Nat} {xs : Nat → Int32} (hx : p.tables.exec = Jvm.exec) (hb : c.code = code) (hr : meth.sig.returnType = ret) (hlocks : meth.locks = false) (hml : c.maxLocals = 4) (hown : s.vm.findClass "SmallCourtLaw" = some m.cls) (hts : ∀ w ∈ hx_all, w.before #[Value.ref b] s = true) (hX : va_X b LN xs s s.heap) (hbl : b < s.heap.size) (hbA : ¬ s.heap.size ≤ b) (hLN : LN ≤ 3584) (dC : Nat → ClassId) (dI : Nat → Nat → Nat) (dA : Nat → ClassId) (b0 : hx_z) (ax am : Nat) (T1 : Int) (hT0 : 0 ≤ T1) (hT1 : T1 ≤ 511) (i : Int32) (hi0 : 0 ≤ i.toInt) (hiL : i.toInt + 7 ≤ LN) (CC SS : Nat) (hCC : CC + 3 ≤ 600000) (hSS : SS + 179 ≤ 7302250) (L1 : List Nat) (hl1 : hx_h) (H : Heap) (locs : List Loc) (ls : Array Slot) (hW : hx_W T_tb (P_ty dA) (dC, dI) vwCl (fun q : Nat => s.heap.size ≤ q) s.heap L1 hl1 s H locs) (hZ : hx_Xt (fun q : Nat => s.heap.size ≤ q) b0 s) (hI : hx_IV T1 ax am L1 hl1) (hl : lv_has ls 4 [(3, .int i), (2, .ref am), (1, .ref ax), (0, .ref b)]) (kk : ∀ (L2 : List Nat) (h2 : hx_h) (H2 : Heap) (locs2 : List Loc) (ls2 : Array Slot), hx_W T_tb (P_ty dA) (dC, dI) vwCl (fun q : Nat => s.heap.size ≤ q) s.heap L2 h2 s H2 locs2 → hx_IV (T1 + 1) ax am L2 h2 → lv_has ls2 4 [(3, .int i), (2, .ref am), (1, .ref ax), (0, .ref b)] → W p l e room_1 s m #[Value.ref b] below meth c H2 locs2 (CC + 3) (SS + 179) (lw_Z below #[Value.ref b] s) (F0 m 1379 ls2 [])) : W p l e room_1 s m #[Value.ref b] below meth c H locs CC SS (lw_Z below #[Value.ref b] s) (F0 m 964 ls []) := by
  obtain ⟨hT, gx, gm, ⟨he_nw, he_np, he_c0, ho_ln, ho_lsd, ho_wkm, hn_qp, hn_qc, hk_of, hk_wf, hk_df, hk_kf, hk_sf, hkBD, hLQ, hLE, hkWD, hkDF, hc_dead, hc_isj, hc_dox, hc_doy, hc_fou, hc_tri, -⟩, ⟨ia, ip, ic, ih, il⟩, ⟨jw, jr, jp, jl, jh, jt, jf⟩⟩ := hI
  obtain ⟨qa, f_qa, g_qa⟩ := hx_rf hT gx tt_9 (k := 5) (u := 43) rfl
  have pf_qa := ia qa f_qa
  obtain ⟨qp, f_qp, g_qp⟩ := hx_rf hT gx tt_9 (k := 7) (u := 44) rfl
  have pf_qp := ip qp f_qp
  obtain ⟨qc, f_qc, g_qc⟩ := hx_rf hT gx tt_9 (k := 10) (u := 45) rfl
  have pf_qc := ic qc f_qc
  obtain ⟨qh, f_qh, g_qh⟩ := hx_rf hT gx tt_9 (k := 12) (u := 46) rfl
  have pf_qh := ih qh f_qh
  obtain ⟨qw, f_qw, g_qw⟩ := hx_rf hT gx tt_9 (k := 19) (u := 8) rfl
  obtain ⟨ql, f_ql, g_ql⟩ := hx_rf hT g_qw tt_8 (k := 3) (u := 40) rfl
  have pf_ql := il qw ql f_qw f_ql
  obtain ⟨nw, f_m_now⟩ : ∃ y : Int32, hl1.2.1 am 0 = y := ⟨_, rfl⟩
  have b_nw := hT.gi gm tt_10 (k := 0) rfl
  rw [f_m_now] at b_nw
  have b_nw : 0 ≤ nw.toInt ∧ nw.toInt ≤ 7999 := b_nw
  obtain ⟨np, f_m_persons⟩ : ∃ y : Int32, hl1.2.1 am 20 = y := ⟨_, rfl⟩
  have b_np := hT.gi gm tt_10 (k := 20) rfl
  rw [f_m_persons] at b_np
  have b_np : 0 ≤ np.toInt ∧ np.toInt ≤ 40 := b_np
  obtain ⟨c0, f_m_claims⟩ : ∃ y : Int32, hl1.2.1 am 36 = y := ⟨_, rfl⟩
  have b_c0 := hT.gi gm tt_10 (k := 36) rfl
  rw [f_m_claims] at b_c0
  have b_c0 : 0 ≤ c0.toInt ∧ c0.toInt ≤ 100 := b_c0
  obtain ⟨ln, f_m_lines⟩ : ∃ y : Int32, hl1.2.1 am 29 = y := ⟨_, rfl⟩
  have b_ln := hT.gi gm tt_10 (k := 29) rfl
  rw [f_m_lines] at b_ln
  have b_ln : 0 ≤ ln.toInt ∧ ln.toInt ≤ 400 := b_ln
  obtain ⟨lsd, f_m_listed⟩ : ∃ y : Int32, hl1.2.1 am 90 = y := ⟨_, rfl⟩
  have b_lsd := hT.gi gm tt_10 (k := 90) rfl
  rw [f_m_listed] at b_lsd
  have b_lsd : 0 ≤ lsd.toInt ∧ lsd.toInt ≤ 8 := b_lsd
  obtain ⟨wkm, f_m_walkedMany⟩ : ∃ y : Int32, hl1.2.1 am 92 = y := ⟨_, rfl⟩
  have b_wkm := hT.gi gm tt_10 (k := 92) rfl
  rw [f_m_walkedMany] at b_wkm
  have b_wkm : 0 ≤ wkm.toInt ∧ wkm.toInt ≤ 8 := b_wkm
  obtain ⟨a0, f_m_acts⟩ : ∃ y : Int32, hl1.2.1 am 1 = y := ⟨_, rfl⟩
  have b_a0 := hT.gi gm tt_10 (k := 1) rfl
  rw [f_m_acts] at b_a0
  have b_a0 : 0 ≤ a0.toInt ∧ a0.toInt ≤ 8 := b_a0
  obtain ⟨m0, f_m_heardMany⟩ : ∃ y : Int32, hl1.2.1 am 57 = y := ⟨_, rfl⟩
  have b_m0 := hT.gi gm tt_10 (k := 57) rfl
  rw [f_m_heardMany] at b_m0
  have b_m0 : 0 ≤ m0.toInt ∧ m0.toInt ≤ 100 := b_m0
  have f_x_now : hl1.2.1 ax 2 = nw := he_nw.trans f_m_now
  have f_x_personCount : hl1.2.1 ax 8 = np := he_np.trans f_m_persons
  have f_x_claimCount : hl1.2.1 ax 11 = c0 := he_c0.trans f_m_claims
  obtain ⟨mw, f_mw, g_mw⟩ := hx_rf hT gm tt_10 (k := 19) (u := 57) rfl
  obtain ⟨F_mw, n_mw⟩ : ∃ g : Nat → Int32, hl1.2.1 mw = g := ⟨_, rfl⟩
  obtain ⟨mr, f_mr, g_mr⟩ := hx_rf hT gm tt_10 (k := 3) (u := 50) rfl
  obtain ⟨F_mr, n_mr⟩ : ∃ g : Nat → Int32, hl1.2.1 mr = g := ⟨_, rfl⟩
  obtain ⟨mp, f_mp, g_mp⟩ := hx_rf hT gm tt_10 (k := 5) (u := 52) rfl
  obtain ⟨F_mp, n_mp⟩ : ∃ g : Nat → Int32, hl1.2.1 mp = g := ⟨_, rfl⟩
  obtain ⟨mn, f_mn, g_mn⟩ := hx_rf hT gm tt_10 (k := 4) (u := 51) rfl
  obtain ⟨F_mn, n_mn⟩ : ∃ g : Nat → Int32, hl1.2.1 mn = g := ⟨_, rfl⟩
  obtain ⟨ml, f_ml, g_ml⟩ := hx_rf hT gm tt_10 (k := 44) (u := 79) rfl
  obtain ⟨F_ml, n_ml⟩ : ∃ g : Nat → Int32, hl1.2.1 ml = g := ⟨_, rfl⟩
  obtain ⟨mh, f_mh, g_mh⟩ := hx_rf hT gm tt_10 (k := 47) (u := 82) rfl
  obtain ⟨F_mh, n_mh⟩ : ∃ g : Nat → Int32, hl1.2.1 mh = g := ⟨_, rfl⟩
  obtain ⟨mt, f_mt, g_mt⟩ := hx_rf hT gm tt_10 (k := 45) (u := 80) rfl
  obtain ⟨F_mt, n_mt⟩ : ∃ g : Nat → Int32, hl1.2.1 mt = g := ⟨_, rfl⟩
  obtain ⟨m_fou, f_m_fou, g_m_fou⟩ := hx_rf hT gm tt_10 (k := 46) (u := 81) rfl
  obtain ⟨F_m_fou, n_m_fou⟩ : ∃ g : Nat → Int32, hl1.2.1 m_fou = g := ⟨_, rfl⟩
  obtain ⟨qo_ln, f_qo_ln, g_qo_ln⟩ := hx_rf hT gx tt_9 (k := 9) (u := 1) rfl
  have f_o_ln : hl1.2.1 qo_ln 0 = ln := (ho_ln qo_ln f_qo_ln).trans f_m_lines
  have f_o_lsd : hl1.2.1 qw 0 = lsd := (ho_lsd qw f_qw).trans f_m_listed
  have f_o_wkm : hl1.2.1 qw 1 = wkm := (ho_wkm qw f_qw).trans f_m_walkedMany
  have nu_qp := hn_qp qp f_qp; rw [f_x_personCount] at nu_qp
  have nu_qc := hn_qc qc f_qc; rw [f_x_claimCount] at nu_qc
  obtain ⟨b_of, f_b_of, g_b_of⟩ := hx_rf hT g_qo_ln tt_1 (k := 1) (u := 13) rfl
  obtain ⟨B_of, n_b_of⟩ : ∃ g : Nat → Int32, hl1.2.1 b_of = g := ⟨_, rfl⟩
  obtain ⟨m_of, f_m_of, g_m_of⟩ := hx_rf hT gm tt_10 (k := 30) (u := 66) rfl
  obtain ⟨F_of, n_m_of⟩ : ∃ g : Nat → Int32, hl1.2.1 m_of = g := ⟨_, rfl⟩
  have eb_of := hk_of qo_ln b_of m_of f_qo_ln f_b_of f_m_of; rw [n_b_of, n_m_of, f_o_ln] at eb_of
  obtain ⟨b_wf, f_b_wf, g_b_wf⟩ := hx_rf hT g_qo_ln tt_1 (k := 2) (u := 14) rfl
  obtain ⟨B_wf, n_b_wf⟩ : ∃ g : Nat → Int32, hl1.2.1 b_wf = g := ⟨_, rfl⟩
  obtain ⟨m_wf, f_m_wf, g_m_wf⟩ := hx_rf hT gm tt_10 (k := 31) (u := 67) rfl
  obtain ⟨F_wf, n_m_wf⟩ : ∃ g : Nat → Int32, hl1.2.1 m_wf = g := ⟨_, rfl⟩
  have eb_wf := hk_wf qo_ln b_wf m_wf f_qo_ln f_b_wf f_m_wf; rw [n_b_wf, n_m_wf, f_o_ln] at eb_wf
  obtain ⟨b_df, f_b_df, g_b_df⟩ := hx_rf hT g_qo_ln tt_1 (k := 3) (u := 15) rfl
  obtain ⟨B_df, n_b_df⟩ : ∃ g : Nat → Int32, hl1.2.1 b_df = g := ⟨_, rfl⟩
  obtain ⟨m_df, f_m_df, g_m_df⟩ := hx_rf hT gm tt_10 (k := 32) (u := 68) rfl
  obtain ⟨F_df, n_m_df⟩ : ∃ g : Nat → Int32, hl1.2.1 m_df = g := ⟨_, rfl⟩
  have eb_df := hk_df qo_ln b_df m_df f_qo_ln f_b_df f_m_df; rw [n_b_df, n_m_df, f_o_ln] at eb_df
  obtain ⟨b_kf, f_b_kf, g_b_kf⟩ := hx_rf hT g_qo_ln tt_1 (k := 4) (u := 16) rfl
  obtain ⟨B_kf, n_b_kf⟩ : ∃ g : Nat → Int32, hl1.2.1 b_kf = g := ⟨_, rfl⟩
  obtain ⟨m_kf, f_m_kf, g_m_kf⟩ := hx_rf hT gm tt_10 (k := 33) (u := 69) rfl
  obtain ⟨F_kf, n_m_kf⟩ : ∃ g : Nat → Int32, hl1.2.1 m_kf = g := ⟨_, rfl⟩
  have eb_kf := hk_kf qo_ln b_kf m_kf f_qo_ln f_b_kf f_m_kf; rw [n_b_kf, n_m_kf, f_o_ln] at eb_kf
  obtain ⟨b_sf, f_b_sf, g_b_sf⟩ := hx_rf hT g_qo_ln tt_1 (k := 5) (u := 17) rfl
  obtain ⟨B_sf, n_b_sf⟩ : ∃ g : Nat → Int32, hl1.2.1 b_sf = g := ⟨_, rfl⟩
  obtain ⟨m_sf, f_m_sf, g_m_sf⟩ := hx_rf hT gm tt_10 (k := 34) (u := 70) rfl
  obtain ⟨F_sf, n_m_sf⟩ : ∃ g : Nat → Int32, hl1.2.1 m_sf = g := ⟨_, rfl⟩
  have eb_sf := hk_sf qo_ln b_sf m_sf f_qo_ln f_b_sf f_m_sf; rw [n_b_sf, n_m_sf, f_o_ln] at eb_sf
  obtain ⟨b_bf, f_b_bf, g_b_bf⟩ := hx_rf hT g_qo_ln tt_1 (k := 6) (u := 18) rfl
  obtain ⟨bfL, n_b_bf⟩ : ∃ g : Nat → Int32, hl1.2.1 b_bf = g := ⟨_, rfl⟩
  obtain ⟨hBD, hDY⟩ := hkBD qo_ln b_df b_bf f_qo_ln f_b_df f_b_bf; rw [n_b_df, n_b_bf, f_o_ln] at hBD; rw [n_b_df, f_o_ln] at hDY
  have hBDm := hy_BD_c eb_df hBD
  have hDYm : hy_DY F_df ln.toInt.toNat := fun x hx => by rw [← eb_df x hx]; exact hDY x hx
  have sb_list := hLQ qw ql qc f_qw f_ql f_qc
  obtain ⟨m_lst, f_m_lst, g_m_lst⟩ := hx_rf hT gm tt_10 (k := 91) (u := 112) rfl
  obtain ⟨F_lst, n_lst⟩ : ∃ g : Nat → Int32, hl1.2.1 m_lst = g := ⟨_, rfl⟩
  obtain ⟨c_lst, cl_lst⟩ : ∃ g : Nat → Int32, hx_col 8 hl1 ql 0 = g := ⟨_, rfl⟩
  have eq_lst := hLE qw ql m_lst f_qw f_ql f_m_lst; rw [cl_lst, n_lst] at eq_lst
  obtain ⟨c_dead, cl_dead⟩ : ∃ g : Nat → Int32, hx_col 40 hl1 qp 7 = g := ⟨_, rfl⟩
  obtain ⟨m_dead, f_m_dead, g_m_dead⟩ := hx_rf hT gm tt_10 (k := 27) (u := 64) rfl
  obtain ⟨F_dead, n_dead⟩ : ∃ g : Nat → Int32, hl1.2.1 m_dead = g := ⟨_, rfl⟩
  have eq_dead := hc_dead qp m_dead f_qp f_m_dead; rw [cl_dead, n_dead] at eq_dead
  have z_dead : np.toInt.toNat < 40 → c_dead np.toInt.toNat = 0 := fun hj => hx_num_z nu_qp cl_dead hj (by omega)
  obtain ⟨c_isj, cl_isj⟩ : ∃ g : Nat → Int32, hx_col 40 hl1 qp 8 = g := ⟨_, rfl⟩
  obtain ⟨m_isj, f_m_isj, g_m_isj⟩ := hx_rf hT gm tt_10 (k := 28) (u := 65) rfl
  obtain ⟨F_isj, n_isj⟩ : ∃ g : Nat → Int32, hl1.2.1 m_isj = g := ⟨_, rfl⟩
  have eq_isj := hc_isj qp m_isj f_qp f_m_isj; rw [cl_isj, n_isj] at eq_isj
  have z_isj : np.toInt.toNat < 40 → c_isj np.toInt.toNat = 0 := fun hj => hx_num_z nu_qp cl_isj hj (by omega)
  obtain ⟨c_dox, cl_dox⟩ : ∃ g : Nat → Int32, hx_col 40 hl1 qp 5 = g := ⟨_, rfl⟩
  obtain ⟨m_dox, f_m_dox, g_m_dox⟩ := hx_rf hT gm tt_10 (k := 24) (u := 61) rfl
  obtain ⟨F_dox, n_dox⟩ : ∃ g : Nat → Int32, hl1.2.1 m_dox = g := ⟨_, rfl⟩
  have eq_dox := hc_dox qp m_dox f_qp f_m_dox; rw [cl_dox, n_dox] at eq_dox
  have z_dox : np.toInt.toNat < 40 → c_dox np.toInt.toNat = 0 := fun hj => hx_num_z nu_qp cl_dox hj (by omega)
  obtain ⟨c_doy, cl_doy⟩ : ∃ g : Nat → Int32, hx_col 40 hl1 qp 6 = g := ⟨_, rfl⟩
  obtain ⟨m_doy, f_m_doy, g_m_doy⟩ := hx_rf hT gm tt_10 (k := 25) (u := 62) rfl
  obtain ⟨F_doy, n_doy⟩ : ∃ g : Nat → Int32, hl1.2.1 m_doy = g := ⟨_, rfl⟩
  have eq_doy := hc_doy qp m_doy f_qp f_m_doy; rw [cl_doy, n_doy] at eq_doy
  have z_doy : np.toInt.toNat < 40 → c_doy np.toInt.toNat = 0 := fun hj => hx_num_z nu_qp cl_doy hj (by omega)
  obtain ⟨c_fou, cl_fou⟩ : ∃ g : Nat → Int32, hx_col 100 hl1 qc 10 = g := ⟨_, rfl⟩
  have eq_fou := hc_fou qc m_fou f_qc f_m_fou; rw [cl_fou, n_m_fou] at eq_fou
  have z_fou : c0.toInt.toNat < 100 → c_fou c0.toInt.toNat = 0 := fun hj => hx_num_z nu_qc cl_fou hj (by omega)
  obtain ⟨c_tri, cl_tri⟩ : ∃ g : Nat → Int32, hx_col 100 hl1 qc 9 = g := ⟨_, rfl⟩
  have eq_tri := hc_tri qc mt f_qc f_mt; rw [cl_tri, n_mt] at eq_tri
  have z_tri : c0.toInt.toNat < 100 → c_tri c0.toInt.toNat = 0 := fun hj => hx_num_z nu_qc cl_tri hj (by omega)
  obtain ⟨qlt, f_qlt, g_qlt⟩ := hx_rf hT g_qw tt_8 (k := 2) (u := 39) rfl
  obtain ⟨qlf, f_qlf, g_qlf⟩ := hx_rf hT g_qw tt_8 (k := 4) (u := 41) rfl
  obtain ⟨m_wkd, f_m_wkd, g_m_wkd⟩ := hx_rf hT gm tt_10 (k := 93) (u := 113) rfl
  obtain ⟨F_qlt, n_qlt⟩ : ∃ g : Nat → Int32, hl1.2.1 qlt = g := ⟨_, rfl⟩
  obtain ⟨F_m_wkd, n_m_wkd⟩ : ∃ g : Nat → Int32, hl1.2.1 m_wkd = g := ⟨_, rfl⟩
  have eb_wkd := hkWD qw qlt m_wkd f_qw f_qlt f_m_wkd; rw [n_qlt, n_m_wkd, f_o_wkm] at eb_wkd
  obtain ⟨m_aga, f_m_aga, g_m_aga⟩ := hx_rf hT gm tt_10 (k := 38) (u := 73) rfl
  obtain ⟨F_aga, n_aga⟩ : ∃ g : Nat → Int32, hl1.2.1 m_aga = g := ⟨_, rfl⟩
  have hDF := hkDF qc qp m_aga f_qc f_qp f_m_aga; rw [n_aga, f_x_claimCount] at hDF
  have hwd := jw mw f_mw; rw [n_mw] at hwd
  have hWK := jr mr f_mr; rw [n_mr, f_m_acts] at hWK
  have hRP := jp mp mn f_mp f_mn; rw [n_mp, n_mn, f_m_acts] at hRP
  have hPL := jl ml f_ml; rw [n_ml, f_m_claims, f_m_acts] at hPL
  have hHC := jh mh f_mh; rw [n_mh, f_m_heardMany, f_m_claims] at hHC
  have hTR := jt mt f_mt; rw [n_mt] at hTR
  have hHF := jf mh m_fou f_mh f_m_fou; rw [n_mh, n_m_fou, f_m_claims] at hHF
  refine lv_aload_n hx hb dL_law_964 rfl (lv_at hl 2 rfl) ?_
  refine lv_aload_n hx hb dL_law_965 rfl (lv_at hl 3 rfl) ?_
  refine lv_iload_n hx hb dL_law_966 rfl (lv_at hl 0 rfl) ?_
  refine lv_iconst (v := 1) hx hb dL_law_967 (by decide) ?_
  refine lv_iadd hx hb dL_law_968 ?_
  have rg_465 := i32_r i
  refine lv_topi (fun x_466 ex_466 => ?_)
  have zx_466 : x_466.toInt = i.toInt + 1 := by rw [ex_466]; exact i32_add rfl (by decide) (by omega) (by omega)
  refine va_sld hx hb hX hbl hbA hW.2.2.2.1 (vp_in_iff.mpr ⟨by omega, by omega⟩) dL_law_969 ?_
  refine lv_topi (fun x_467 ex_467 => ?_)
  have hTo := hT
  refine hx_goi (hx_runV (As := [.int x_467]) (rest := []) ⟨hx, hb, hml, hown, hts⟩ hW gx tt_9 (T := TX9) (N := 20) rfl (t_X9_strike l dC dI dA L1 hl1 H.size ax x_467 hT gx) (cwV 1 hts (hx_gV kw_899 kw_896 kw_897 kw_898 kw_94) rfl rfl rfl (by decide +kernel) ⟨Nat.le_of_ble_eq_true rfl, Nat.le_of_ble_eq_true rfl⟩) rfl hl.1 rfl (Nat.le_of_ble_eq_true rfl) dL_law_970 ⟨(show CC + 0 ≤ 600000 from by omega), (show SS + 0 ≤ 7302250 from by omega)⟩) hW (fun r_470 L_468 h_469 H locs p_471 hW => ?_)
  obtain ⟨hr_472, hT, hs⟩ := p_471
  replace hT : hx_T T_tb L_468 h_469 := hT
  replace hs : hx_S T_tb [(22, 0)] L1 hl1 L_468 h_469 := hs
  replace f_qa := (hs.o gx trivial rfl).2.trans f_qa
  replace f_qp := (hs.o gx trivial rfl).2.trans f_qp
  replace f_qc := (hs.o gx trivial rfl).2.trans f_qc
  replace f_qh := (hs.o gx trivial rfl).2.trans f_qh
  replace f_qw := (hs.o gx trivial rfl).2.trans f_qw
  replace f_ql := (hs.o g_qw trivial rfl).2.trans f_ql
  replace f_m_now := (hs.o gm trivial rfl).1.trans f_m_now
  replace f_m_persons := (hs.o gm trivial rfl).1.trans f_m_persons
  replace f_m_claims := (hs.o gm trivial rfl).1.trans f_m_claims
  replace f_m_lines := (hs.o gm trivial rfl).1.trans f_m_lines
  replace f_m_listed := (hs.o gm trivial rfl).1.trans f_m_listed
  replace f_m_walkedMany := (hs.o gm trivial rfl).1.trans f_m_walkedMany
  replace f_m_acts := (hs.o gm trivial rfl).1.trans f_m_acts
  replace f_m_heardMany := (hs.o gm trivial rfl).1.trans f_m_heardMany
  replace f_x_now := (hs.o gx trivial rfl).1.trans f_x_now
  replace f_x_personCount := (hs.o gx trivial rfl).1.trans f_x_personCount
  replace f_x_claimCount := (hs.o gx trivial rfl).1.trans f_x_claimCount
  replace f_mw := (hs.o gm trivial rfl).2.trans f_mw
  replace f_mr := (hs.o gm trivial rfl).2.trans f_mr
  replace f_mp := (hs.o gm trivial rfl).2.trans f_mp
  replace f_mn := (hs.o gm trivial rfl).2.trans f_mn
  replace f_ml := (hs.o gm trivial rfl).2.trans f_ml
  replace f_mh := (hs.o gm trivial rfl).2.trans f_mh
  replace f_mt := (hs.o gm trivial rfl).2.trans f_mt
  replace f_m_fou := (hs.o gm trivial rfl).2.trans f_m_fou
  replace f_qo_ln := (hs.o gx trivial rfl).2.trans f_qo_ln
  replace f_o_ln := (hs.o g_qo_ln trivial rfl).1.trans f_o_ln
  replace f_o_lsd := (hs.o g_qw trivial rfl).1.trans f_o_lsd
  replace f_o_wkm := (hs.o g_qw trivial rfl).1.trans f_o_wkm
  replace f_b_of := (hs.o g_qo_ln trivial rfl).2.trans f_b_of
  replace f_m_of := (hs.o gm trivial rfl).2.trans f_m_of
  replace f_b_wf := (hs.o g_qo_ln trivial rfl).2.trans f_b_wf
  replace f_m_wf := (hs.o gm trivial rfl).2.trans f_m_wf
  replace f_b_df := (hs.o g_qo_ln trivial rfl).2.trans f_b_df
  replace f_m_df := (hs.o gm trivial rfl).2.trans f_m_df
  replace f_b_kf := (hs.o g_qo_ln trivial rfl).2.trans f_b_kf
  replace f_m_kf := (hs.o gm trivial rfl).2.trans f_m_kf
  replace f_b_sf := (hs.o g_qo_ln trivial rfl).2.trans f_b_sf
  replace f_m_sf := (hs.o gm trivial rfl).2.trans f_m_sf
  replace f_b_bf := (hs.o g_qo_ln trivial rfl).2.trans f_b_bf
  replace f_m_lst := (hs.o gm trivial rfl).2.trans f_m_lst
  replace f_m_dead := (hs.o gm trivial rfl).2.trans f_m_dead
  replace f_m_isj := (hs.o gm trivial rfl).2.trans f_m_isj
  replace f_m_dox := (hs.o gm trivial rfl).2.trans f_m_dox
  replace f_m_doy := (hs.o gm trivial rfl).2.trans f_m_doy
  replace f_qlt := (hs.o g_qw trivial rfl).2.trans f_qlt
  replace f_qlf := (hs.o g_qw trivial rfl).2.trans f_qlf
  replace f_m_wkd := (hs.o gm trivial rfl).2.trans f_m_wkd
  replace f_m_aga := (hs.o gm trivial rfl).2.trans f_m_aga
  replace pf_qa : ∀ j : Nat, (j : Int) < (h_469.2.1 ax 6).toInt → h_469.2.2 qa j ≠ none := by
    intro j hj; rw [(hs.o gx trivial rfl).1] at hj; rw [(hs.a g_qa rfl j).2]; exact pf_qa j hj
  replace pf_qp : ∀ j : Nat, (j : Int) < (h_469.2.1 ax 8).toInt → h_469.2.2 qp j ≠ none := by
    intro j hj; rw [(hs.o gx trivial rfl).1] at hj; rw [(hs.a g_qp rfl j).2]; exact pf_qp j hj
  replace pf_qc : ∀ j : Nat, (j : Int) < (h_469.2.1 ax 11).toInt → h_469.2.2 qc j ≠ none := by
    intro j hj; rw [(hs.o gx trivial rfl).1] at hj; rw [(hs.a g_qc rfl j).2]; exact pf_qc j hj
  replace pf_qh : ∀ j : Nat, (j : Int) < (h_469.2.1 ax 13).toInt → h_469.2.2 qh j ≠ none := by
    intro j hj; rw [(hs.o gx trivial rfl).1] at hj; rw [(hs.a g_qh rfl j).2]; exact pf_qh j hj
  replace pf_ql : ∀ j : Nat, (j : Int) < (h_469.2.1 qw 0).toInt → h_469.2.2 ql j ≠ none := by
    intro j hj; rw [(hs.o g_qw trivial rfl).1] at hj; rw [(hs.a g_ql rfl j).2]; exact pf_ql j hj
  replace cl_lst : hx_col 8 h_469 ql 0 = c_lst := (hx_col_S hs hTo g_ql tt_40 tt_2 rfl rfl).trans cl_lst
  replace cl_dead : hx_col 40 h_469 qp 7 = c_dead := (hx_col_S hs hTo g_qp tt_44 tt_4 rfl rfl).trans cl_dead
  replace cl_isj : hx_col 40 h_469 qp 8 = c_isj := (hx_col_S hs hTo g_qp tt_44 tt_4 rfl rfl).trans cl_isj
  replace cl_dox : hx_col 40 h_469 qp 5 = c_dox := (hx_col_S hs hTo g_qp tt_44 tt_4 rfl rfl).trans cl_dox
  replace cl_doy : hx_col 40 h_469 qp 6 = c_doy := (hx_col_S hs hTo g_qp tt_44 tt_4 rfl rfl).trans cl_doy
  replace cl_fou : hx_col 100 h_469 qc 10 = c_fou := (hx_col_S hs hTo g_qc tt_45 tt_2 rfl rfl).trans cl_fou
  replace cl_tri : hx_col 100 h_469 qc 9 = c_tri := (hx_col_S hs hTo g_qc tt_45 tt_2 rfl rfl).trans cl_tri
  replace nu_qp : hx_num 40 h_469 qp 0 (np.toInt) := hx_num_S hs hTo g_qp tt_44 tt_4 rfl rfl nu_qp
  replace nu_qc : hx_num 100 h_469 qc 0 (c0.toInt) := hx_num_S hs hTo g_qc tt_45 tt_2 rfl rfl nu_qc
  replace sb_list : hx_LQ 8 100 h_469 ql qc := hx_LQ_S hs g_ql g_qc rfl rfl sb_list
  replace hDF : hw_DF h_469 qc qp 2 F_aga c0.toInt := hw_DF_S hs hTo g_qc g_qp tt_45 tt_2 rfl rfl rfl hDF
  replace n_mw : h_469.2.1 mw = F_mw := (funext fun j => (hs.a g_mw rfl j).1).trans n_mw
  replace n_mr : h_469.2.1 mr = F_mr := (funext fun j => (hs.a g_mr rfl j).1).trans n_mr
  replace n_mp : h_469.2.1 mp = F_mp := (funext fun j => (hs.a g_mp rfl j).1).trans n_mp
  replace n_mn : h_469.2.1 mn = F_mn := (funext fun j => (hs.a g_mn rfl j).1).trans n_mn
  replace n_ml : h_469.2.1 ml = F_ml := (funext fun j => (hs.a g_ml rfl j).1).trans n_ml
  replace n_mh : h_469.2.1 mh = F_mh := (funext fun j => (hs.a g_mh rfl j).1).trans n_mh
  replace n_mt : h_469.2.1 mt = F_mt := (funext fun j => (hs.a g_mt rfl j).1).trans n_mt
  replace n_m_fou : h_469.2.1 m_fou = F_m_fou := (funext fun j => (hs.a g_m_fou rfl j).1).trans n_m_fou
  replace n_b_of : h_469.2.1 b_of = B_of := (funext fun j => (hs.a g_b_of rfl j).1).trans n_b_of
  replace n_m_of : h_469.2.1 m_of = F_of := (funext fun j => (hs.a g_m_of rfl j).1).trans n_m_of
  replace n_b_wf : h_469.2.1 b_wf = B_wf := (funext fun j => (hs.a g_b_wf rfl j).1).trans n_b_wf
  replace n_m_wf : h_469.2.1 m_wf = F_wf := (funext fun j => (hs.a g_m_wf rfl j).1).trans n_m_wf
  replace n_b_df : h_469.2.1 b_df = B_df := (funext fun j => (hs.a g_b_df rfl j).1).trans n_b_df
  replace n_m_df : h_469.2.1 m_df = F_df := (funext fun j => (hs.a g_m_df rfl j).1).trans n_m_df
  replace n_b_kf : h_469.2.1 b_kf = B_kf := (funext fun j => (hs.a g_b_kf rfl j).1).trans n_b_kf
  replace n_m_kf : h_469.2.1 m_kf = F_kf := (funext fun j => (hs.a g_m_kf rfl j).1).trans n_m_kf
  replace n_b_sf : h_469.2.1 b_sf = B_sf := (funext fun j => (hs.a g_b_sf rfl j).1).trans n_b_sf
  replace n_m_sf : h_469.2.1 m_sf = F_sf := (funext fun j => (hs.a g_m_sf rfl j).1).trans n_m_sf
  replace n_b_bf : h_469.2.1 b_bf = bfL := (funext fun j => (hs.a g_b_bf rfl j).1).trans n_b_bf
  replace n_lst : h_469.2.1 m_lst = F_lst := (funext fun j => (hs.a g_m_lst rfl j).1).trans n_lst
  replace n_dead : h_469.2.1 m_dead = F_dead := (funext fun j => (hs.a g_m_dead rfl j).1).trans n_dead
  replace n_isj : h_469.2.1 m_isj = F_isj := (funext fun j => (hs.a g_m_isj rfl j).1).trans n_isj
  replace n_dox : h_469.2.1 m_dox = F_dox := (funext fun j => (hs.a g_m_dox rfl j).1).trans n_dox
  replace n_doy : h_469.2.1 m_doy = F_doy := (funext fun j => (hs.a g_m_doy rfl j).1).trans n_doy
  replace n_qlt : h_469.2.1 qlt = F_qlt := (funext fun j => (hs.a g_qlt rfl j).1).trans n_qlt
  replace n_m_wkd : h_469.2.1 m_wkd = F_m_wkd := (funext fun j => (hs.a g_m_wkd rfl j).1).trans n_m_wkd
  replace n_aga : h_469.2.1 m_aga = F_aga := (funext fun j => (hs.a g_m_aga rfl j).1).trans n_aga
  replace gx := gx.S hs
  replace gm := gm.S hs
  replace g_qa := g_qa.S hs
  replace g_qp := g_qp.S hs
  replace g_qc := g_qc.S hs
  replace g_qh := g_qh.S hs
  replace g_qw := g_qw.S hs
  replace g_ql := g_ql.S hs
  replace g_mw := g_mw.S hs
  replace g_mr := g_mr.S hs
  replace g_mp := g_mp.S hs
  replace g_mn := g_mn.S hs
  replace g_ml := g_ml.S hs
  replace g_mh := g_mh.S hs
  replace g_mt := g_mt.S hs
  replace g_m_fou := g_m_fou.S hs
  replace g_qo_ln := g_qo_ln.S hs
  replace g_b_of := g_b_of.S hs
  replace g_m_of := g_m_of.S hs
  replace g_b_wf := g_b_wf.S hs
  replace g_m_wf := g_m_wf.S hs
  replace g_b_df := g_b_df.S hs
  replace g_m_df := g_m_df.S hs
  replace g_b_kf := g_b_kf.S hs
  replace g_m_kf := g_m_kf.S hs
  replace g_b_sf := g_b_sf.S hs
  replace g_m_sf := g_m_sf.S hs
  replace g_b_bf := g_b_bf.S hs
  replace g_m_lst := g_m_lst.S hs
  replace g_m_dead := g_m_dead.S hs
  replace g_m_isj := g_m_isj.S hs
  replace g_m_dox := g_m_dox.S hs
  replace g_m_doy := g_m_doy.S hs
  replace g_qlt := g_qlt.S hs
  replace g_qlf := g_qlf.S hs
  replace g_m_wkd := g_m_wkd.S hs
  replace g_m_aga := g_m_aga.S hs
  refine lv_pop hx hb dL_law_973 rfl ?_
  refine lv_aload_n hx hb dL_law_974 rfl (lv_at hl 1 rfl) ?_
  refine lv_aload_n hx hb dL_law_975 rfl (lv_at hl 3 rfl) ?_
  refine lv_iload_n hx hb dL_law_976 rfl (lv_at hl 0 rfl) ?_
  refine lv_iconst (v := 1) hx hb dL_law_977 (by decide) ?_
  refine lv_iadd hx hb dL_law_978 ?_
  refine lv_topi (fun x_473 ex_473 => ?_)
  have zx_473 : x_473.toInt = i.toInt + 1 := by rw [ex_473]; exact i32_add rfl (by decide) (by omega) (by omega)
  obtain rfl : x_466 = x_473 := ex_466.trans ex_473.symm
  refine va_sld hx hb hX hbl hbA hW.2.2.2.1 (vp_in_iff.mpr ⟨by omega, by omega⟩) dL_law_979 ?_
  refine lv_topi (fun x_474 ex_474 => ?_)
  obtain rfl : x_467 = x_474 := ex_467.trans ex_474.symm
  have hTo := hT
  refine hx_goi (hx_runV (As := [.int x_467]) (rest := []) ⟨hx, hb, hml, hown, hts⟩ hW gm tt_10 (T := TX10) (N := 98) rfl (t_X10_strike l dC dI dA L_468 h_469 H.size am x_467 hT gm) (cwV 1 hts (hx_gV kw_1657 kw_1654 kw_1655 kw_1656 kw_103) rfl rfl rfl (by decide +kernel) ⟨Nat.le_of_ble_eq_true rfl, Nat.le_of_ble_eq_true rfl⟩) rfl hl.1 rfl (Nat.le_of_ble_eq_true rfl) dL_law_980 ⟨(show CC + 0 + 0 ≤ 600000 from by omega), (show SS + 0 + 0 ≤ 7302250 from by omega)⟩) hW (fun r_477 L_475 h_476 H locs p_478 hW => ?_)
  obtain ⟨hr_479, hT, hs⟩ := p_478
  replace hT : hx_T T_tb L_475 h_476 := hT
  replace hs : hx_S T_tb [(97, 0)] L_468 h_469 L_475 h_476 := hs
  replace f_qa := (hs.o gx trivial rfl).2.trans f_qa
  replace f_qp := (hs.o gx trivial rfl).2.trans f_qp
  replace f_qc := (hs.o gx trivial rfl).2.trans f_qc
  replace f_qh := (hs.o gx trivial rfl).2.trans f_qh
  replace f_qw := (hs.o gx trivial rfl).2.trans f_qw
  replace f_ql := (hs.o g_qw trivial rfl).2.trans f_ql
  replace f_m_now := (hs.o gm trivial rfl).1.trans f_m_now
  replace f_m_persons := (hs.o gm trivial rfl).1.trans f_m_persons
  replace f_m_claims := (hs.o gm trivial rfl).1.trans f_m_claims
  replace f_m_lines := (hs.o gm trivial rfl).1.trans f_m_lines
  replace f_m_listed := (hs.o gm trivial rfl).1.trans f_m_listed
  replace f_m_walkedMany := (hs.o gm trivial rfl).1.trans f_m_walkedMany
  replace f_m_acts := (hs.o gm trivial rfl).1.trans f_m_acts
  replace f_m_heardMany := (hs.o gm trivial rfl).1.trans f_m_heardMany
  replace f_x_now := (hs.o gx trivial rfl).1.trans f_x_now
  replace f_x_personCount := (hs.o gx trivial rfl).1.trans f_x_personCount
  replace f_x_claimCount := (hs.o gx trivial rfl).1.trans f_x_claimCount
  replace f_mw := (hs.o gm trivial rfl).2.trans f_mw
  replace f_mr := (hs.o gm trivial rfl).2.trans f_mr
  replace f_mp := (hs.o gm trivial rfl).2.trans f_mp
  replace f_mn := (hs.o gm trivial rfl).2.trans f_mn
  replace f_ml := (hs.o gm trivial rfl).2.trans f_ml
  replace f_mh := (hs.o gm trivial rfl).2.trans f_mh
  replace f_mt := (hs.o gm trivial rfl).2.trans f_mt
  replace f_m_fou := (hs.o gm trivial rfl).2.trans f_m_fou
  replace f_qo_ln := (hs.o gx trivial rfl).2.trans f_qo_ln
  replace f_o_ln := (hs.o g_qo_ln trivial rfl).1.trans f_o_ln
  replace f_o_lsd := (hs.o g_qw trivial rfl).1.trans f_o_lsd
  replace f_o_wkm := (hs.o g_qw trivial rfl).1.trans f_o_wkm
  replace f_b_of := (hs.o g_qo_ln trivial rfl).2.trans f_b_of
  replace f_m_of := (hs.o gm trivial rfl).2.trans f_m_of
  replace f_b_wf := (hs.o g_qo_ln trivial rfl).2.trans f_b_wf
  replace f_m_wf := (hs.o gm trivial rfl).2.trans f_m_wf
  replace f_b_df := (hs.o g_qo_ln trivial rfl).2.trans f_b_df
  replace f_m_df := (hs.o gm trivial rfl).2.trans f_m_df
  replace f_b_kf := (hs.o g_qo_ln trivial rfl).2.trans f_b_kf
  replace f_m_kf := (hs.o gm trivial rfl).2.trans f_m_kf
  replace f_b_sf := (hs.o g_qo_ln trivial rfl).2.trans f_b_sf
  replace f_m_sf := (hs.o gm trivial rfl).2.trans f_m_sf
  replace f_b_bf := (hs.o g_qo_ln trivial rfl).2.trans f_b_bf
  replace f_m_lst := (hs.o gm trivial rfl).2.trans f_m_lst
  replace f_m_dead := (hs.o gm trivial rfl).2.trans f_m_dead
  replace f_m_isj := (hs.o gm trivial rfl).2.trans f_m_isj
  replace f_m_dox := (hs.o gm trivial rfl).2.trans f_m_dox
  replace f_m_doy := (hs.o gm trivial rfl).2.trans f_m_doy
  replace f_qlt := (hs.o g_qw trivial rfl).2.trans f_qlt
  replace f_qlf := (hs.o g_qw trivial rfl).2.trans f_qlf
  replace f_m_wkd := (hs.o gm trivial rfl).2.trans f_m_wkd
  replace f_m_aga := (hs.o gm trivial rfl).2.trans f_m_aga
  replace pf_qa : ∀ j : Nat, (j : Int) < (h_476.2.1 ax 6).toInt → h_476.2.2 qa j ≠ none := by
    intro j hj; rw [(hs.o gx trivial rfl).1] at hj; rw [(hs.a g_qa rfl j).2]; exact pf_qa j hj
  replace pf_qp : ∀ j : Nat, (j : Int) < (h_476.2.1 ax 8).toInt → h_476.2.2 qp j ≠ none := by
    intro j hj; rw [(hs.o gx trivial rfl).1] at hj; rw [(hs.a g_qp rfl j).2]; exact pf_qp j hj
  replace pf_qc : ∀ j : Nat, (j : Int) < (h_476.2.1 ax 11).toInt → h_476.2.2 qc j ≠ none := by
    intro j hj; rw [(hs.o gx trivial rfl).1] at hj; rw [(hs.a g_qc rfl j).2]; exact pf_qc j hj
  replace pf_qh : ∀ j : Nat, (j : Int) < (h_476.2.1 ax 13).toInt → h_476.2.2 qh j ≠ none := by
    intro j hj; rw [(hs.o gx trivial rfl).1] at hj; rw [(hs.a g_qh rfl j).2]; exact pf_qh j hj
  replace pf_ql : ∀ j : Nat, (j : Int) < (h_476.2.1 qw 0).toInt → h_476.2.2 ql j ≠ none := by
    intro j hj; rw [(hs.o g_qw trivial rfl).1] at hj; rw [(hs.a g_ql rfl j).2]; exact pf_ql j hj
  replace cl_lst : hx_col 8 h_476 ql 0 = c_lst := (hx_col_S hs hTo g_ql tt_40 tt_2 rfl rfl).trans cl_lst
  replace cl_dead : hx_col 40 h_476 qp 7 = c_dead := (hx_col_S hs hTo g_qp tt_44 tt_4 rfl rfl).trans cl_dead
  replace cl_isj : hx_col 40 h_476 qp 8 = c_isj := (hx_col_S hs hTo g_qp tt_44 tt_4 rfl rfl).trans cl_isj
  replace cl_dox : hx_col 40 h_476 qp 5 = c_dox := (hx_col_S hs hTo g_qp tt_44 tt_4 rfl rfl).trans cl_dox
  replace cl_doy : hx_col 40 h_476 qp 6 = c_doy := (hx_col_S hs hTo g_qp tt_44 tt_4 rfl rfl).trans cl_doy
  replace cl_fou : hx_col 100 h_476 qc 10 = c_fou := (hx_col_S hs hTo g_qc tt_45 tt_2 rfl rfl).trans cl_fou
  replace cl_tri : hx_col 100 h_476 qc 9 = c_tri := (hx_col_S hs hTo g_qc tt_45 tt_2 rfl rfl).trans cl_tri
  replace nu_qp : hx_num 40 h_476 qp 0 (np.toInt) := hx_num_S hs hTo g_qp tt_44 tt_4 rfl rfl nu_qp
  replace nu_qc : hx_num 100 h_476 qc 0 (c0.toInt) := hx_num_S hs hTo g_qc tt_45 tt_2 rfl rfl nu_qc
  replace sb_list : hx_LQ 8 100 h_476 ql qc := hx_LQ_S hs g_ql g_qc rfl rfl sb_list
  replace hDF : hw_DF h_476 qc qp 2 F_aga c0.toInt := hw_DF_S hs hTo g_qc g_qp tt_45 tt_2 rfl rfl rfl hDF
  replace n_mw : h_476.2.1 mw = F_mw := (funext fun j => (hs.a g_mw rfl j).1).trans n_mw
  replace n_mr : h_476.2.1 mr = F_mr := (funext fun j => (hs.a g_mr rfl j).1).trans n_mr
  replace n_mp : h_476.2.1 mp = F_mp := (funext fun j => (hs.a g_mp rfl j).1).trans n_mp
  replace n_mn : h_476.2.1 mn = F_mn := (funext fun j => (hs.a g_mn rfl j).1).trans n_mn
  replace n_ml : h_476.2.1 ml = F_ml := (funext fun j => (hs.a g_ml rfl j).1).trans n_ml
  replace n_mh : h_476.2.1 mh = F_mh := (funext fun j => (hs.a g_mh rfl j).1).trans n_mh
  replace n_mt : h_476.2.1 mt = F_mt := (funext fun j => (hs.a g_mt rfl j).1).trans n_mt
  replace n_m_fou : h_476.2.1 m_fou = F_m_fou := (funext fun j => (hs.a g_m_fou rfl j).1).trans n_m_fou
  replace n_b_of : h_476.2.1 b_of = B_of := (funext fun j => (hs.a g_b_of rfl j).1).trans n_b_of
  replace n_m_of : h_476.2.1 m_of = F_of := (funext fun j => (hs.a g_m_of rfl j).1).trans n_m_of
  replace n_b_wf : h_476.2.1 b_wf = B_wf := (funext fun j => (hs.a g_b_wf rfl j).1).trans n_b_wf
  replace n_m_wf : h_476.2.1 m_wf = F_wf := (funext fun j => (hs.a g_m_wf rfl j).1).trans n_m_wf
  replace n_b_df : h_476.2.1 b_df = B_df := (funext fun j => (hs.a g_b_df rfl j).1).trans n_b_df
  replace n_m_df : h_476.2.1 m_df = F_df := (funext fun j => (hs.a g_m_df rfl j).1).trans n_m_df
  replace n_b_kf : h_476.2.1 b_kf = B_kf := (funext fun j => (hs.a g_b_kf rfl j).1).trans n_b_kf
  replace n_m_kf : h_476.2.1 m_kf = F_kf := (funext fun j => (hs.a g_m_kf rfl j).1).trans n_m_kf
  replace n_b_sf : h_476.2.1 b_sf = B_sf := (funext fun j => (hs.a g_b_sf rfl j).1).trans n_b_sf
  replace n_m_sf : h_476.2.1 m_sf = F_sf := (funext fun j => (hs.a g_m_sf rfl j).1).trans n_m_sf
  replace n_b_bf : h_476.2.1 b_bf = bfL := (funext fun j => (hs.a g_b_bf rfl j).1).trans n_b_bf
  replace n_lst : h_476.2.1 m_lst = F_lst := (funext fun j => (hs.a g_m_lst rfl j).1).trans n_lst
  replace n_dead : h_476.2.1 m_dead = F_dead := (funext fun j => (hs.a g_m_dead rfl j).1).trans n_dead
  replace n_isj : h_476.2.1 m_isj = F_isj := (funext fun j => (hs.a g_m_isj rfl j).1).trans n_isj
  replace n_dox : h_476.2.1 m_dox = F_dox := (funext fun j => (hs.a g_m_dox rfl j).1).trans n_dox
  replace n_doy : h_476.2.1 m_doy = F_doy := (funext fun j => (hs.a g_m_doy rfl j).1).trans n_doy
  replace n_qlt : h_476.2.1 qlt = F_qlt := (funext fun j => (hs.a g_qlt rfl j).1).trans n_qlt
  replace n_m_wkd : h_476.2.1 m_wkd = F_m_wkd := (funext fun j => (hs.a g_m_wkd rfl j).1).trans n_m_wkd
  replace n_aga : h_476.2.1 m_aga = F_aga := (funext fun j => (hs.a g_m_aga rfl j).1).trans n_aga
  replace gx := gx.S hs
  replace gm := gm.S hs
  replace g_qa := g_qa.S hs
  replace g_qp := g_qp.S hs
  replace g_qc := g_qc.S hs
  replace g_qh := g_qh.S hs
  replace g_qw := g_qw.S hs
  replace g_ql := g_ql.S hs
  replace g_mw := g_mw.S hs
  replace g_mr := g_mr.S hs
  replace g_mp := g_mp.S hs
  replace g_mn := g_mn.S hs
  replace g_ml := g_ml.S hs
  replace g_mh := g_mh.S hs
  replace g_mt := g_mt.S hs
  replace g_m_fou := g_m_fou.S hs
  replace g_qo_ln := g_qo_ln.S hs
  replace g_b_of := g_b_of.S hs
  replace g_m_of := g_m_of.S hs
  replace g_b_wf := g_b_wf.S hs
  replace g_m_wf := g_m_wf.S hs
  replace g_b_df := g_b_df.S hs
  replace g_m_df := g_m_df.S hs
  replace g_b_kf := g_b_kf.S hs
  replace g_m_kf := g_m_kf.S hs
  replace g_b_sf := g_b_sf.S hs
  replace g_m_sf := g_m_sf.S hs
  replace g_b_bf := g_b_bf.S hs
  replace g_m_lst := g_m_lst.S hs
  replace g_m_dead := g_m_dead.S hs
  replace g_m_isj := g_m_isj.S hs
  replace g_m_dox := g_m_dox.S hs
  replace g_m_doy := g_m_doy.S hs
  replace g_qlt := g_qlt.S hs
  replace g_qlf := g_qlf.S hs
  replace g_m_wkd := g_m_wkd.S hs
  replace g_m_aga := g_m_aga.S hs
  refine lv_pop hx hb dL_law_983 rfl ?_
  refine lv_goto (tgt := 1379) hx hb dL_law_984 (by decide) ?_
  refine W.widen (k := CC + 3) (n := SS + 179) (by omega) (by omega) ?_
  exact kk L_475 h_476 H locs ls hW ⟨hT, gx, gm, ⟨f_x_now.trans f_m_now.symm, f_x_personCount.trans f_m_persons.symm, f_x_claimCount.trans f_m_claims.symm, hx_ob f_qo_ln (f_o_ln.trans f_m_lines.symm), hx_ob f_qw (f_o_lsd.trans f_m_listed.symm), hx_ob f_qw (f_o_wkm.trans f_m_walkedMany.symm), hx_ob f_qp (by rw [f_x_personCount]; exact nu_qp), hx_ob f_qc (by rw [f_x_claimCount]; exact nu_qc), (fun b a r hb ha hr => by obtain rfl : qo_ln = b := Option.some.inj (f_qo_ln.symm.trans hb); obtain rfl : b_of = a := Option.some.inj (f_b_of.symm.trans ha); obtain rfl : m_of = r := Option.some.inj (f_m_of.symm.trans hr); rw [n_b_of, n_m_of, f_o_ln]; exact eb_of), (fun b a r hb ha hr => by obtain rfl : qo_ln = b := Option.some.inj (f_qo_ln.symm.trans hb); obtain rfl : b_wf = a := Option.some.inj (f_b_wf.symm.trans ha); obtain rfl : m_wf = r := Option.some.inj (f_m_wf.symm.trans hr); rw [n_b_wf, n_m_wf, f_o_ln]; exact eb_wf), (fun b a r hb ha hr => by obtain rfl : qo_ln = b := Option.some.inj (f_qo_ln.symm.trans hb); obtain rfl : b_df = a := Option.some.inj (f_b_df.symm.trans ha); obtain rfl : m_df = r := Option.some.inj (f_m_df.symm.trans hr); rw [n_b_df, n_m_df, f_o_ln]; exact eb_df), (fun b a r hb ha hr => by obtain rfl : qo_ln = b := Option.some.inj (f_qo_ln.symm.trans hb); obtain rfl : b_kf = a := Option.some.inj (f_b_kf.symm.trans ha); obtain rfl : m_kf = r := Option.some.inj (f_m_kf.symm.trans hr); rw [n_b_kf, n_m_kf, f_o_ln]; exact eb_kf), (fun b a r hb ha hr => by obtain rfl : qo_ln = b := Option.some.inj (f_qo_ln.symm.trans hb); obtain rfl : b_sf = a := Option.some.inj (f_b_sf.symm.trans ha); obtain rfl : m_sf = r := Option.some.inj (f_m_sf.symm.trans hr); rw [n_b_sf, n_m_sf, f_o_ln]; exact eb_sf), (fun b a r hb ha hr => by obtain rfl : qo_ln = b := Option.some.inj (f_qo_ln.symm.trans hb); obtain rfl : b_df = a := Option.some.inj (f_b_df.symm.trans ha); obtain rfl : b_bf = r := Option.some.inj (f_b_bf.symm.trans hr); rw [n_b_df, n_b_bf, f_o_ln]; exact ⟨hBD, hDY⟩), (fun w q c hw hq hc => by obtain rfl : qw = w := Option.some.inj (f_qw.symm.trans hw); obtain rfl : ql = q := Option.some.inj (f_ql.symm.trans hq); obtain rfl : qc = c := Option.some.inj (f_qc.symm.trans hc); exact sb_list), (fun w q r hw hq hr => by obtain rfl : qw = w := Option.some.inj (f_qw.symm.trans hw); obtain rfl : ql = q := Option.some.inj (f_ql.symm.trans hq); obtain rfl : m_lst = r := Option.some.inj (f_m_lst.symm.trans hr); rw [cl_lst, n_lst]; exact eq_lst), (fun w q r hw hq hr => by obtain rfl : qw = w := Option.some.inj (f_qw.symm.trans hw); obtain rfl : qlt = q := Option.some.inj (f_qlt.symm.trans hq); obtain rfl : m_wkd = r := Option.some.inj (f_m_wkd.symm.trans hr); rw [n_qlt, n_m_wkd, f_o_wkm]; exact eb_wkd), (fun c q a hc hq ha => by obtain rfl : qc = c := Option.some.inj (f_qc.symm.trans hc); obtain rfl : qp = q := Option.some.inj (f_qp.symm.trans hq); obtain rfl : m_aga = a := Option.some.inj (f_m_aga.symm.trans ha); rw [n_aga, f_x_claimCount]; exact hw_DF_e hDF rfl rfl), hx_ob2 f_qp f_m_dead (by rw [cl_dead, n_dead]; exact eq_dead), hx_ob2 f_qp f_m_isj (by rw [cl_isj, n_isj]; exact eq_isj), hx_ob2 f_qp f_m_dox (by rw [cl_dox, n_dox]; exact eq_dox), hx_ob2 f_qp f_m_doy (by rw [cl_doy, n_doy]; exact eq_doy), hx_ob2 f_qc f_m_fou (by rw [cl_fou, n_m_fou]; exact eq_fou), hx_ob2 f_qc f_mt (by rw [cl_tri, n_mt]; exact eq_tri), trivial⟩, ⟨hx_ob f_qa pf_qa, hx_ob f_qp pf_qp, hx_ob f_qc pf_qc, hx_ob f_qh pf_qh, (fun w q hw hq => by obtain rfl : qw = w := Option.some.inj (f_qw.symm.trans hw); obtain rfl : ql = q := Option.some.inj (f_ql.symm.trans hq); exact pf_ql)⟩, ⟨hx_ob f_mw (by rw [n_mw]; exact hwd), hx_ob f_mr (by rw [n_mr, f_m_acts]; exact hWK), hx_ob2 f_mp f_mn (by rw [n_mp, n_mn, f_m_acts]; exact hRP), hx_ob f_ml (by rw [n_ml, f_m_claims, f_m_acts]; exact hPL), hx_ob f_mh (by rw [n_mh, f_m_heardMany, f_m_claims]; exact hHC), hx_ob f_mt (by rw [n_mt]; exact (hx_TR_le hTR (by omega))), hx_ob2 f_mh f_m_fou (by rw [n_mh, n_m_fou, f_m_claims]; exact hHF)⟩⟩ hl

set_option maxHeartbeats 4000000 in
set_option maxRecDepth 100000 in
theorem law_case_17 {p : Program} {e : Env} {s : State} {m : MethodId} {below : List Frame} {meth : Method} {c : Code} (l : Launch) {b LN : Nat} {xs : Nat → Int32} (hx : p.tables.exec = Jvm.exec) (hb : c.code = code) (hr : meth.sig.returnType = ret) (hlocks : meth.locks = false) (hml : c.maxLocals = 4) (hown : s.vm.findClass "SmallCourtLaw" = some m.cls) (hts : ∀ w ∈ hx_all, w.before #[Value.ref b] s = true) (hX : va_X b LN xs s s.heap) (hbl : b < s.heap.size) (hbA : ¬ s.heap.size ≤ b) (hLN : LN ≤ 3584) (dC : Nat → ClassId) (dI : Nat → Nat → Nat) (dA : Nat → ClassId) (b0 : hx_z) (ax am : Nat) (T1 : Int) (hT0 : 0 ≤ T1) (hT1 : T1 ≤ 511) (i : Int32) (hi0 : 0 ≤ i.toInt) (hiL : i.toInt + 7 ≤ LN) (CC SS : Nat) (hCC : CC + 3 ≤ 600000) (hSS : SS + 179 ≤ 7302250) (L1 : List Nat) (hl1 : hx_h) (H : Heap) (locs : List Loc) (ls : Array Slot) (hW : hx_W T_tb (P_ty dA) (dC, dI) vwCl (fun q : Nat => s.heap.size ≤ q) s.heap L1 hl1 s H locs) (hZ : hx_Xt (fun q : Nat => s.heap.size ≤ q) b0 s) (hI : hx_IV T1 ax am L1 hl1) (hl : lv_has ls 4 [(3, .int i), (2, .ref am), (1, .ref ax), (0, .ref b)]) (kk : ∀ (L2 : List Nat) (h2 : hx_h) (H2 : Heap) (locs2 : List Loc) (ls2 : Array Slot), hx_W T_tb (P_ty dA) (dC, dI) vwCl (fun q : Nat => s.heap.size ≤ q) s.heap L2 h2 s H2 locs2 → hx_IV (T1 + 1) ax am L2 h2 → lv_has ls2 4 [(3, .int i), (2, .ref am), (1, .ref ax), (0, .ref b)] → W p l e room_1 s m #[Value.ref b] below meth c H2 locs2 (CC + 3) (SS + 179) (lw_Z below #[Value.ref b] s) (F0 m 1379 ls2 [])) : W p l e room_1 s m #[Value.ref b] below meth c H locs CC SS (lw_Z below #[Value.ref b] s) (F0 m 987 ls []) := by
  obtain ⟨hT, gx, gm, ⟨he_nw, he_np, he_c0, ho_ln, ho_lsd, ho_wkm, hn_qp, hn_qc, hk_of, hk_wf, hk_df, hk_kf, hk_sf, hkBD, hLQ, hLE, hkWD, hkDF, hc_dead, hc_isj, hc_dox, hc_doy, hc_fou, hc_tri, -⟩, ⟨ia, ip, ic, ih, il⟩, ⟨jw, jr, jp, jl, jh, jt, jf⟩⟩ := hI
  obtain ⟨qa, f_qa, g_qa⟩ := hx_rf hT gx tt_9 (k := 5) (u := 43) rfl
  have pf_qa := ia qa f_qa
  obtain ⟨qp, f_qp, g_qp⟩ := hx_rf hT gx tt_9 (k := 7) (u := 44) rfl
  have pf_qp := ip qp f_qp
  obtain ⟨qc, f_qc, g_qc⟩ := hx_rf hT gx tt_9 (k := 10) (u := 45) rfl
  have pf_qc := ic qc f_qc
  obtain ⟨qh, f_qh, g_qh⟩ := hx_rf hT gx tt_9 (k := 12) (u := 46) rfl
  have pf_qh := ih qh f_qh
  obtain ⟨qw, f_qw, g_qw⟩ := hx_rf hT gx tt_9 (k := 19) (u := 8) rfl
  obtain ⟨ql, f_ql, g_ql⟩ := hx_rf hT g_qw tt_8 (k := 3) (u := 40) rfl
  have pf_ql := il qw ql f_qw f_ql
  obtain ⟨nw, f_m_now⟩ : ∃ y : Int32, hl1.2.1 am 0 = y := ⟨_, rfl⟩
  have b_nw := hT.gi gm tt_10 (k := 0) rfl
  rw [f_m_now] at b_nw
  have b_nw : 0 ≤ nw.toInt ∧ nw.toInt ≤ 7999 := b_nw
  obtain ⟨np, f_m_persons⟩ : ∃ y : Int32, hl1.2.1 am 20 = y := ⟨_, rfl⟩
  have b_np := hT.gi gm tt_10 (k := 20) rfl
  rw [f_m_persons] at b_np
  have b_np : 0 ≤ np.toInt ∧ np.toInt ≤ 40 := b_np
  obtain ⟨c0, f_m_claims⟩ : ∃ y : Int32, hl1.2.1 am 36 = y := ⟨_, rfl⟩
  have b_c0 := hT.gi gm tt_10 (k := 36) rfl
  rw [f_m_claims] at b_c0
  have b_c0 : 0 ≤ c0.toInt ∧ c0.toInt ≤ 100 := b_c0
  obtain ⟨ln, f_m_lines⟩ : ∃ y : Int32, hl1.2.1 am 29 = y := ⟨_, rfl⟩
  have b_ln := hT.gi gm tt_10 (k := 29) rfl
  rw [f_m_lines] at b_ln
  have b_ln : 0 ≤ ln.toInt ∧ ln.toInt ≤ 400 := b_ln
  obtain ⟨lsd, f_m_listed⟩ : ∃ y : Int32, hl1.2.1 am 90 = y := ⟨_, rfl⟩
  have b_lsd := hT.gi gm tt_10 (k := 90) rfl
  rw [f_m_listed] at b_lsd
  have b_lsd : 0 ≤ lsd.toInt ∧ lsd.toInt ≤ 8 := b_lsd
  obtain ⟨wkm, f_m_walkedMany⟩ : ∃ y : Int32, hl1.2.1 am 92 = y := ⟨_, rfl⟩
  have b_wkm := hT.gi gm tt_10 (k := 92) rfl
  rw [f_m_walkedMany] at b_wkm
  have b_wkm : 0 ≤ wkm.toInt ∧ wkm.toInt ≤ 8 := b_wkm
  obtain ⟨a0, f_m_acts⟩ : ∃ y : Int32, hl1.2.1 am 1 = y := ⟨_, rfl⟩
  have b_a0 := hT.gi gm tt_10 (k := 1) rfl
  rw [f_m_acts] at b_a0
  have b_a0 : 0 ≤ a0.toInt ∧ a0.toInt ≤ 8 := b_a0
  obtain ⟨m0, f_m_heardMany⟩ : ∃ y : Int32, hl1.2.1 am 57 = y := ⟨_, rfl⟩
  have b_m0 := hT.gi gm tt_10 (k := 57) rfl
  rw [f_m_heardMany] at b_m0
  have b_m0 : 0 ≤ m0.toInt ∧ m0.toInt ≤ 100 := b_m0
  have f_x_now : hl1.2.1 ax 2 = nw := he_nw.trans f_m_now
  have f_x_personCount : hl1.2.1 ax 8 = np := he_np.trans f_m_persons
  have f_x_claimCount : hl1.2.1 ax 11 = c0 := he_c0.trans f_m_claims
  obtain ⟨mw, f_mw, g_mw⟩ := hx_rf hT gm tt_10 (k := 19) (u := 57) rfl
  obtain ⟨F_mw, n_mw⟩ : ∃ g : Nat → Int32, hl1.2.1 mw = g := ⟨_, rfl⟩
  obtain ⟨mr, f_mr, g_mr⟩ := hx_rf hT gm tt_10 (k := 3) (u := 50) rfl
  obtain ⟨F_mr, n_mr⟩ : ∃ g : Nat → Int32, hl1.2.1 mr = g := ⟨_, rfl⟩
  obtain ⟨mp, f_mp, g_mp⟩ := hx_rf hT gm tt_10 (k := 5) (u := 52) rfl
  obtain ⟨F_mp, n_mp⟩ : ∃ g : Nat → Int32, hl1.2.1 mp = g := ⟨_, rfl⟩
  obtain ⟨mn, f_mn, g_mn⟩ := hx_rf hT gm tt_10 (k := 4) (u := 51) rfl
  obtain ⟨F_mn, n_mn⟩ : ∃ g : Nat → Int32, hl1.2.1 mn = g := ⟨_, rfl⟩
  obtain ⟨ml, f_ml, g_ml⟩ := hx_rf hT gm tt_10 (k := 44) (u := 79) rfl
  obtain ⟨F_ml, n_ml⟩ : ∃ g : Nat → Int32, hl1.2.1 ml = g := ⟨_, rfl⟩
  obtain ⟨mh, f_mh, g_mh⟩ := hx_rf hT gm tt_10 (k := 47) (u := 82) rfl
  obtain ⟨F_mh, n_mh⟩ : ∃ g : Nat → Int32, hl1.2.1 mh = g := ⟨_, rfl⟩
  obtain ⟨mt, f_mt, g_mt⟩ := hx_rf hT gm tt_10 (k := 45) (u := 80) rfl
  obtain ⟨F_mt, n_mt⟩ : ∃ g : Nat → Int32, hl1.2.1 mt = g := ⟨_, rfl⟩
  obtain ⟨m_fou, f_m_fou, g_m_fou⟩ := hx_rf hT gm tt_10 (k := 46) (u := 81) rfl
  obtain ⟨F_m_fou, n_m_fou⟩ : ∃ g : Nat → Int32, hl1.2.1 m_fou = g := ⟨_, rfl⟩
  obtain ⟨qo_ln, f_qo_ln, g_qo_ln⟩ := hx_rf hT gx tt_9 (k := 9) (u := 1) rfl
  have f_o_ln : hl1.2.1 qo_ln 0 = ln := (ho_ln qo_ln f_qo_ln).trans f_m_lines
  have f_o_lsd : hl1.2.1 qw 0 = lsd := (ho_lsd qw f_qw).trans f_m_listed
  have f_o_wkm : hl1.2.1 qw 1 = wkm := (ho_wkm qw f_qw).trans f_m_walkedMany
  have nu_qp := hn_qp qp f_qp; rw [f_x_personCount] at nu_qp
  have nu_qc := hn_qc qc f_qc; rw [f_x_claimCount] at nu_qc
  obtain ⟨b_of, f_b_of, g_b_of⟩ := hx_rf hT g_qo_ln tt_1 (k := 1) (u := 13) rfl
  obtain ⟨B_of, n_b_of⟩ : ∃ g : Nat → Int32, hl1.2.1 b_of = g := ⟨_, rfl⟩
  obtain ⟨m_of, f_m_of, g_m_of⟩ := hx_rf hT gm tt_10 (k := 30) (u := 66) rfl
  obtain ⟨F_of, n_m_of⟩ : ∃ g : Nat → Int32, hl1.2.1 m_of = g := ⟨_, rfl⟩
  have eb_of := hk_of qo_ln b_of m_of f_qo_ln f_b_of f_m_of; rw [n_b_of, n_m_of, f_o_ln] at eb_of
  obtain ⟨b_wf, f_b_wf, g_b_wf⟩ := hx_rf hT g_qo_ln tt_1 (k := 2) (u := 14) rfl
  obtain ⟨B_wf, n_b_wf⟩ : ∃ g : Nat → Int32, hl1.2.1 b_wf = g := ⟨_, rfl⟩
  obtain ⟨m_wf, f_m_wf, g_m_wf⟩ := hx_rf hT gm tt_10 (k := 31) (u := 67) rfl
  obtain ⟨F_wf, n_m_wf⟩ : ∃ g : Nat → Int32, hl1.2.1 m_wf = g := ⟨_, rfl⟩
  have eb_wf := hk_wf qo_ln b_wf m_wf f_qo_ln f_b_wf f_m_wf; rw [n_b_wf, n_m_wf, f_o_ln] at eb_wf
  obtain ⟨b_df, f_b_df, g_b_df⟩ := hx_rf hT g_qo_ln tt_1 (k := 3) (u := 15) rfl
  obtain ⟨B_df, n_b_df⟩ : ∃ g : Nat → Int32, hl1.2.1 b_df = g := ⟨_, rfl⟩
  obtain ⟨m_df, f_m_df, g_m_df⟩ := hx_rf hT gm tt_10 (k := 32) (u := 68) rfl
  obtain ⟨F_df, n_m_df⟩ : ∃ g : Nat → Int32, hl1.2.1 m_df = g := ⟨_, rfl⟩
  have eb_df := hk_df qo_ln b_df m_df f_qo_ln f_b_df f_m_df; rw [n_b_df, n_m_df, f_o_ln] at eb_df
  obtain ⟨b_kf, f_b_kf, g_b_kf⟩ := hx_rf hT g_qo_ln tt_1 (k := 4) (u := 16) rfl
  obtain ⟨B_kf, n_b_kf⟩ : ∃ g : Nat → Int32, hl1.2.1 b_kf = g := ⟨_, rfl⟩
  obtain ⟨m_kf, f_m_kf, g_m_kf⟩ := hx_rf hT gm tt_10 (k := 33) (u := 69) rfl
  obtain ⟨F_kf, n_m_kf⟩ : ∃ g : Nat → Int32, hl1.2.1 m_kf = g := ⟨_, rfl⟩
  have eb_kf := hk_kf qo_ln b_kf m_kf f_qo_ln f_b_kf f_m_kf; rw [n_b_kf, n_m_kf, f_o_ln] at eb_kf
  obtain ⟨b_sf, f_b_sf, g_b_sf⟩ := hx_rf hT g_qo_ln tt_1 (k := 5) (u := 17) rfl
  obtain ⟨B_sf, n_b_sf⟩ : ∃ g : Nat → Int32, hl1.2.1 b_sf = g := ⟨_, rfl⟩
  obtain ⟨m_sf, f_m_sf, g_m_sf⟩ := hx_rf hT gm tt_10 (k := 34) (u := 70) rfl
  obtain ⟨F_sf, n_m_sf⟩ : ∃ g : Nat → Int32, hl1.2.1 m_sf = g := ⟨_, rfl⟩
  have eb_sf := hk_sf qo_ln b_sf m_sf f_qo_ln f_b_sf f_m_sf; rw [n_b_sf, n_m_sf, f_o_ln] at eb_sf
  obtain ⟨b_bf, f_b_bf, g_b_bf⟩ := hx_rf hT g_qo_ln tt_1 (k := 6) (u := 18) rfl
  obtain ⟨bfL, n_b_bf⟩ : ∃ g : Nat → Int32, hl1.2.1 b_bf = g := ⟨_, rfl⟩
  obtain ⟨hBD, hDY⟩ := hkBD qo_ln b_df b_bf f_qo_ln f_b_df f_b_bf; rw [n_b_df, n_b_bf, f_o_ln] at hBD; rw [n_b_df, f_o_ln] at hDY
  have hBDm := hy_BD_c eb_df hBD
  have hDYm : hy_DY F_df ln.toInt.toNat := fun x hx => by rw [← eb_df x hx]; exact hDY x hx
  have sb_list := hLQ qw ql qc f_qw f_ql f_qc
  obtain ⟨m_lst, f_m_lst, g_m_lst⟩ := hx_rf hT gm tt_10 (k := 91) (u := 112) rfl
  obtain ⟨F_lst, n_lst⟩ : ∃ g : Nat → Int32, hl1.2.1 m_lst = g := ⟨_, rfl⟩
  obtain ⟨c_lst, cl_lst⟩ : ∃ g : Nat → Int32, hx_col 8 hl1 ql 0 = g := ⟨_, rfl⟩
  have eq_lst := hLE qw ql m_lst f_qw f_ql f_m_lst; rw [cl_lst, n_lst] at eq_lst
  obtain ⟨c_dead, cl_dead⟩ : ∃ g : Nat → Int32, hx_col 40 hl1 qp 7 = g := ⟨_, rfl⟩
  obtain ⟨m_dead, f_m_dead, g_m_dead⟩ := hx_rf hT gm tt_10 (k := 27) (u := 64) rfl
  obtain ⟨F_dead, n_dead⟩ : ∃ g : Nat → Int32, hl1.2.1 m_dead = g := ⟨_, rfl⟩
  have eq_dead := hc_dead qp m_dead f_qp f_m_dead; rw [cl_dead, n_dead] at eq_dead
  have z_dead : np.toInt.toNat < 40 → c_dead np.toInt.toNat = 0 := fun hj => hx_num_z nu_qp cl_dead hj (by omega)
  obtain ⟨c_isj, cl_isj⟩ : ∃ g : Nat → Int32, hx_col 40 hl1 qp 8 = g := ⟨_, rfl⟩
  obtain ⟨m_isj, f_m_isj, g_m_isj⟩ := hx_rf hT gm tt_10 (k := 28) (u := 65) rfl
  obtain ⟨F_isj, n_isj⟩ : ∃ g : Nat → Int32, hl1.2.1 m_isj = g := ⟨_, rfl⟩
  have eq_isj := hc_isj qp m_isj f_qp f_m_isj; rw [cl_isj, n_isj] at eq_isj
  have z_isj : np.toInt.toNat < 40 → c_isj np.toInt.toNat = 0 := fun hj => hx_num_z nu_qp cl_isj hj (by omega)
  obtain ⟨c_dox, cl_dox⟩ : ∃ g : Nat → Int32, hx_col 40 hl1 qp 5 = g := ⟨_, rfl⟩
  obtain ⟨m_dox, f_m_dox, g_m_dox⟩ := hx_rf hT gm tt_10 (k := 24) (u := 61) rfl
  obtain ⟨F_dox, n_dox⟩ : ∃ g : Nat → Int32, hl1.2.1 m_dox = g := ⟨_, rfl⟩
  have eq_dox := hc_dox qp m_dox f_qp f_m_dox; rw [cl_dox, n_dox] at eq_dox
  have z_dox : np.toInt.toNat < 40 → c_dox np.toInt.toNat = 0 := fun hj => hx_num_z nu_qp cl_dox hj (by omega)
  obtain ⟨c_doy, cl_doy⟩ : ∃ g : Nat → Int32, hx_col 40 hl1 qp 6 = g := ⟨_, rfl⟩
  obtain ⟨m_doy, f_m_doy, g_m_doy⟩ := hx_rf hT gm tt_10 (k := 25) (u := 62) rfl
  obtain ⟨F_doy, n_doy⟩ : ∃ g : Nat → Int32, hl1.2.1 m_doy = g := ⟨_, rfl⟩
  have eq_doy := hc_doy qp m_doy f_qp f_m_doy; rw [cl_doy, n_doy] at eq_doy
  have z_doy : np.toInt.toNat < 40 → c_doy np.toInt.toNat = 0 := fun hj => hx_num_z nu_qp cl_doy hj (by omega)
  obtain ⟨c_fou, cl_fou⟩ : ∃ g : Nat → Int32, hx_col 100 hl1 qc 10 = g := ⟨_, rfl⟩
  have eq_fou := hc_fou qc m_fou f_qc f_m_fou; rw [cl_fou, n_m_fou] at eq_fou
  have z_fou : c0.toInt.toNat < 100 → c_fou c0.toInt.toNat = 0 := fun hj => hx_num_z nu_qc cl_fou hj (by omega)
  obtain ⟨c_tri, cl_tri⟩ : ∃ g : Nat → Int32, hx_col 100 hl1 qc 9 = g := ⟨_, rfl⟩
  have eq_tri := hc_tri qc mt f_qc f_mt; rw [cl_tri, n_mt] at eq_tri
  have z_tri : c0.toInt.toNat < 100 → c_tri c0.toInt.toNat = 0 := fun hj => hx_num_z nu_qc cl_tri hj (by omega)
  obtain ⟨qlt, f_qlt, g_qlt⟩ := hx_rf hT g_qw tt_8 (k := 2) (u := 39) rfl
  obtain ⟨qlf, f_qlf, g_qlf⟩ := hx_rf hT g_qw tt_8 (k := 4) (u := 41) rfl
  obtain ⟨m_wkd, f_m_wkd, g_m_wkd⟩ := hx_rf hT gm tt_10 (k := 93) (u := 113) rfl
  obtain ⟨F_qlt, n_qlt⟩ : ∃ g : Nat → Int32, hl1.2.1 qlt = g := ⟨_, rfl⟩
  obtain ⟨F_m_wkd, n_m_wkd⟩ : ∃ g : Nat → Int32, hl1.2.1 m_wkd = g := ⟨_, rfl⟩
  have eb_wkd := hkWD qw qlt m_wkd f_qw f_qlt f_m_wkd; rw [n_qlt, n_m_wkd, f_o_wkm] at eb_wkd
  obtain ⟨m_aga, f_m_aga, g_m_aga⟩ := hx_rf hT gm tt_10 (k := 38) (u := 73) rfl
  obtain ⟨F_aga, n_aga⟩ : ∃ g : Nat → Int32, hl1.2.1 m_aga = g := ⟨_, rfl⟩
  have hDF := hkDF qc qp m_aga f_qc f_qp f_m_aga; rw [n_aga, f_x_claimCount] at hDF
  have hwd := jw mw f_mw; rw [n_mw] at hwd
  have hWK := jr mr f_mr; rw [n_mr, f_m_acts] at hWK
  have hRP := jp mp mn f_mp f_mn; rw [n_mp, n_mn, f_m_acts] at hRP
  have hPL := jl ml f_ml; rw [n_ml, f_m_claims, f_m_acts] at hPL
  have hHC := jh mh f_mh; rw [n_mh, f_m_heardMany, f_m_claims] at hHC
  have hTR := jt mt f_mt; rw [n_mt] at hTR
  have hHF := jf mh m_fou f_mh f_m_fou; rw [n_mh, n_m_fou, f_m_claims] at hHF
  refine lv_aload_n hx hb dL_law_987 rfl (lv_at hl 2 rfl) ?_
  refine lv_aload_n hx hb dL_law_988 rfl (lv_at hl 3 rfl) ?_
  refine lv_iload_n hx hb dL_law_989 rfl (lv_at hl 0 rfl) ?_
  refine lv_iconst (v := 1) hx hb dL_law_990 (by decide) ?_
  refine lv_iadd hx hb dL_law_991 ?_
  have rg_480 := i32_r i
  refine lv_topi (fun x_481 ex_481 => ?_)
  have zx_481 : x_481.toInt = i.toInt + 1 := by rw [ex_481]; exact i32_add rfl (by decide) (by omega) (by omega)
  refine va_sld hx hb hX hbl hbA hW.2.2.2.1 (vp_in_iff.mpr ⟨by omega, by omega⟩) dL_law_992 ?_
  refine lv_topi (fun x_482 ex_482 => ?_)
  refine lv_aload_n hx hb dL_law_993 rfl (lv_at hl 3 rfl) ?_
  refine lv_iload_n hx hb dL_law_994 rfl (lv_at hl 0 rfl) ?_
  refine lv_iconst (v := 2) hx hb dL_law_995 (by decide) ?_
  refine lv_iadd hx hb dL_law_996 ?_
  refine lv_topi (fun x_483 ex_483 => ?_)
  have zx_483 : x_483.toInt = i.toInt + 2 := by rw [ex_483]; exact i32_add rfl (by decide) (by omega) (by omega)
  refine va_sld hx hb hX hbl hbA hW.2.2.2.1 (vp_in_iff.mpr ⟨by omega, by omega⟩) dL_law_997 ?_
  refine lv_topi (fun x_484 ex_484 => ?_)
  have hTo := hT
  refine hx_goi (hx_runVX (As := [.int x_482, .int x_484]) (rest := []) ⟨hx, hb, hml, hown, hts⟩ hW gx tt_9 (T := TX9) (N := 20) rfl (t_X9_seize l dC dI dA L1 hl1 H.size b0 ax x_482 x_484 hT gx qc g_qc f_qc pf_qc) hZ (cwV 2 hts (hx_gV kw_903 kw_900 kw_901 kw_902 kw_94) rfl rfl rfl (by decide +kernel) ⟨Nat.le_of_ble_eq_true rfl, Nat.le_of_ble_eq_true rfl⟩) rfl hl.1 rfl (Nat.le_of_ble_eq_true rfl) dL_law_998 ⟨(show CC + 0 ≤ 600000 from by omega), (show SS + 0 ≤ 7302250 from by omega)⟩) hW (fun r_487 L_485 h_486 H locs p_488 hW => ?_)
  obtain ⟨hr_489, hT, hs⟩ := p_488
  replace hT : hx_T T_tb L_485 h_486 := hT
  replace hs : hx_S T_tb [(2, 16), (2, 17)] L1 hl1 L_485 h_486 := hs
  replace f_qa := (hs.o gx trivial rfl).2.trans f_qa
  replace f_qp := (hs.o gx trivial rfl).2.trans f_qp
  replace f_qc := (hs.o gx trivial rfl).2.trans f_qc
  replace f_qh := (hs.o gx trivial rfl).2.trans f_qh
  replace f_qw := (hs.o gx trivial rfl).2.trans f_qw
  replace f_ql := (hs.o g_qw trivial rfl).2.trans f_ql
  replace f_m_now := (hs.o gm trivial rfl).1.trans f_m_now
  replace f_m_persons := (hs.o gm trivial rfl).1.trans f_m_persons
  replace f_m_claims := (hs.o gm trivial rfl).1.trans f_m_claims
  replace f_m_lines := (hs.o gm trivial rfl).1.trans f_m_lines
  replace f_m_listed := (hs.o gm trivial rfl).1.trans f_m_listed
  replace f_m_walkedMany := (hs.o gm trivial rfl).1.trans f_m_walkedMany
  replace f_m_acts := (hs.o gm trivial rfl).1.trans f_m_acts
  replace f_m_heardMany := (hs.o gm trivial rfl).1.trans f_m_heardMany
  replace f_x_now := (hs.o gx trivial rfl).1.trans f_x_now
  replace f_x_personCount := (hs.o gx trivial rfl).1.trans f_x_personCount
  replace f_x_claimCount := (hs.o gx trivial rfl).1.trans f_x_claimCount
  replace f_mw := (hs.o gm trivial rfl).2.trans f_mw
  replace f_mr := (hs.o gm trivial rfl).2.trans f_mr
  replace f_mp := (hs.o gm trivial rfl).2.trans f_mp
  replace f_mn := (hs.o gm trivial rfl).2.trans f_mn
  replace f_ml := (hs.o gm trivial rfl).2.trans f_ml
  replace f_mh := (hs.o gm trivial rfl).2.trans f_mh
  replace f_mt := (hs.o gm trivial rfl).2.trans f_mt
  replace f_m_fou := (hs.o gm trivial rfl).2.trans f_m_fou
  replace f_qo_ln := (hs.o gx trivial rfl).2.trans f_qo_ln
  replace f_o_ln := (hs.o g_qo_ln trivial rfl).1.trans f_o_ln
  replace f_o_lsd := (hs.o g_qw trivial rfl).1.trans f_o_lsd
  replace f_o_wkm := (hs.o g_qw trivial rfl).1.trans f_o_wkm
  replace f_b_of := (hs.o g_qo_ln trivial rfl).2.trans f_b_of
  replace f_m_of := (hs.o gm trivial rfl).2.trans f_m_of
  replace f_b_wf := (hs.o g_qo_ln trivial rfl).2.trans f_b_wf
  replace f_m_wf := (hs.o gm trivial rfl).2.trans f_m_wf
  replace f_b_df := (hs.o g_qo_ln trivial rfl).2.trans f_b_df
  replace f_m_df := (hs.o gm trivial rfl).2.trans f_m_df
  replace f_b_kf := (hs.o g_qo_ln trivial rfl).2.trans f_b_kf
  replace f_m_kf := (hs.o gm trivial rfl).2.trans f_m_kf
  replace f_b_sf := (hs.o g_qo_ln trivial rfl).2.trans f_b_sf
  replace f_m_sf := (hs.o gm trivial rfl).2.trans f_m_sf
  replace f_b_bf := (hs.o g_qo_ln trivial rfl).2.trans f_b_bf
  replace f_m_lst := (hs.o gm trivial rfl).2.trans f_m_lst
  replace f_m_dead := (hs.o gm trivial rfl).2.trans f_m_dead
  replace f_m_isj := (hs.o gm trivial rfl).2.trans f_m_isj
  replace f_m_dox := (hs.o gm trivial rfl).2.trans f_m_dox
  replace f_m_doy := (hs.o gm trivial rfl).2.trans f_m_doy
  replace f_qlt := (hs.o g_qw trivial rfl).2.trans f_qlt
  replace f_qlf := (hs.o g_qw trivial rfl).2.trans f_qlf
  replace f_m_wkd := (hs.o gm trivial rfl).2.trans f_m_wkd
  replace f_m_aga := (hs.o gm trivial rfl).2.trans f_m_aga
  replace pf_qa : ∀ j : Nat, (j : Int) < (h_486.2.1 ax 6).toInt → h_486.2.2 qa j ≠ none := by
    intro j hj; rw [(hs.o gx trivial rfl).1] at hj; rw [(hs.a g_qa rfl j).2]; exact pf_qa j hj
  replace pf_qp : ∀ j : Nat, (j : Int) < (h_486.2.1 ax 8).toInt → h_486.2.2 qp j ≠ none := by
    intro j hj; rw [(hs.o gx trivial rfl).1] at hj; rw [(hs.a g_qp rfl j).2]; exact pf_qp j hj
  replace pf_qc : ∀ j : Nat, (j : Int) < (h_486.2.1 ax 11).toInt → h_486.2.2 qc j ≠ none := by
    intro j hj; rw [(hs.o gx trivial rfl).1] at hj; rw [(hs.a g_qc rfl j).2]; exact pf_qc j hj
  replace pf_qh : ∀ j : Nat, (j : Int) < (h_486.2.1 ax 13).toInt → h_486.2.2 qh j ≠ none := by
    intro j hj; rw [(hs.o gx trivial rfl).1] at hj; rw [(hs.a g_qh rfl j).2]; exact pf_qh j hj
  replace pf_ql : ∀ j : Nat, (j : Int) < (h_486.2.1 qw 0).toInt → h_486.2.2 ql j ≠ none := by
    intro j hj; rw [(hs.o g_qw trivial rfl).1] at hj; rw [(hs.a g_ql rfl j).2]; exact pf_ql j hj
  replace cl_lst : hx_col 8 h_486 ql 0 = c_lst := (hx_col_S hs hTo g_ql tt_40 tt_2 rfl rfl).trans cl_lst
  replace cl_dead : hx_col 40 h_486 qp 7 = c_dead := (hx_col_S hs hTo g_qp tt_44 tt_4 rfl rfl).trans cl_dead
  replace cl_isj : hx_col 40 h_486 qp 8 = c_isj := (hx_col_S hs hTo g_qp tt_44 tt_4 rfl rfl).trans cl_isj
  replace cl_dox : hx_col 40 h_486 qp 5 = c_dox := (hx_col_S hs hTo g_qp tt_44 tt_4 rfl rfl).trans cl_dox
  replace cl_doy : hx_col 40 h_486 qp 6 = c_doy := (hx_col_S hs hTo g_qp tt_44 tt_4 rfl rfl).trans cl_doy
  replace cl_fou : hx_col 100 h_486 qc 10 = c_fou := (hx_col_S hs hTo g_qc tt_45 tt_2 rfl rfl).trans cl_fou
  replace cl_tri : hx_col 100 h_486 qc 9 = c_tri := (hx_col_S hs hTo g_qc tt_45 tt_2 rfl rfl).trans cl_tri
  replace nu_qp : hx_num 40 h_486 qp 0 (np.toInt) := hx_num_S hs hTo g_qp tt_44 tt_4 rfl rfl nu_qp
  replace nu_qc : hx_num 100 h_486 qc 0 (c0.toInt) := hx_num_S hs hTo g_qc tt_45 tt_2 rfl rfl nu_qc
  replace sb_list : hx_LQ 8 100 h_486 ql qc := hx_LQ_S hs g_ql g_qc rfl rfl sb_list
  replace hDF : hw_DF h_486 qc qp 2 F_aga c0.toInt := hw_DF_S hs hTo g_qc g_qp tt_45 tt_2 rfl rfl rfl hDF
  replace n_mw : h_486.2.1 mw = F_mw := (funext fun j => (hs.a g_mw rfl j).1).trans n_mw
  replace n_mr : h_486.2.1 mr = F_mr := (funext fun j => (hs.a g_mr rfl j).1).trans n_mr
  replace n_mp : h_486.2.1 mp = F_mp := (funext fun j => (hs.a g_mp rfl j).1).trans n_mp
  replace n_mn : h_486.2.1 mn = F_mn := (funext fun j => (hs.a g_mn rfl j).1).trans n_mn
  replace n_ml : h_486.2.1 ml = F_ml := (funext fun j => (hs.a g_ml rfl j).1).trans n_ml
  replace n_mh : h_486.2.1 mh = F_mh := (funext fun j => (hs.a g_mh rfl j).1).trans n_mh
  replace n_mt : h_486.2.1 mt = F_mt := (funext fun j => (hs.a g_mt rfl j).1).trans n_mt
  replace n_m_fou : h_486.2.1 m_fou = F_m_fou := (funext fun j => (hs.a g_m_fou rfl j).1).trans n_m_fou
  replace n_b_of : h_486.2.1 b_of = B_of := (funext fun j => (hs.a g_b_of rfl j).1).trans n_b_of
  replace n_m_of : h_486.2.1 m_of = F_of := (funext fun j => (hs.a g_m_of rfl j).1).trans n_m_of
  replace n_b_wf : h_486.2.1 b_wf = B_wf := (funext fun j => (hs.a g_b_wf rfl j).1).trans n_b_wf
  replace n_m_wf : h_486.2.1 m_wf = F_wf := (funext fun j => (hs.a g_m_wf rfl j).1).trans n_m_wf
  replace n_b_df : h_486.2.1 b_df = B_df := (funext fun j => (hs.a g_b_df rfl j).1).trans n_b_df
  replace n_m_df : h_486.2.1 m_df = F_df := (funext fun j => (hs.a g_m_df rfl j).1).trans n_m_df
  replace n_b_kf : h_486.2.1 b_kf = B_kf := (funext fun j => (hs.a g_b_kf rfl j).1).trans n_b_kf
  replace n_m_kf : h_486.2.1 m_kf = F_kf := (funext fun j => (hs.a g_m_kf rfl j).1).trans n_m_kf
  replace n_b_sf : h_486.2.1 b_sf = B_sf := (funext fun j => (hs.a g_b_sf rfl j).1).trans n_b_sf
  replace n_m_sf : h_486.2.1 m_sf = F_sf := (funext fun j => (hs.a g_m_sf rfl j).1).trans n_m_sf
  replace n_b_bf : h_486.2.1 b_bf = bfL := (funext fun j => (hs.a g_b_bf rfl j).1).trans n_b_bf
  replace n_lst : h_486.2.1 m_lst = F_lst := (funext fun j => (hs.a g_m_lst rfl j).1).trans n_lst
  replace n_dead : h_486.2.1 m_dead = F_dead := (funext fun j => (hs.a g_m_dead rfl j).1).trans n_dead
  replace n_isj : h_486.2.1 m_isj = F_isj := (funext fun j => (hs.a g_m_isj rfl j).1).trans n_isj
  replace n_dox : h_486.2.1 m_dox = F_dox := (funext fun j => (hs.a g_m_dox rfl j).1).trans n_dox
  replace n_doy : h_486.2.1 m_doy = F_doy := (funext fun j => (hs.a g_m_doy rfl j).1).trans n_doy
  replace n_qlt : h_486.2.1 qlt = F_qlt := (funext fun j => (hs.a g_qlt rfl j).1).trans n_qlt
  replace n_m_wkd : h_486.2.1 m_wkd = F_m_wkd := (funext fun j => (hs.a g_m_wkd rfl j).1).trans n_m_wkd
  replace n_aga : h_486.2.1 m_aga = F_aga := (funext fun j => (hs.a g_m_aga rfl j).1).trans n_aga
  replace gx := gx.S hs
  replace gm := gm.S hs
  replace g_qa := g_qa.S hs
  replace g_qp := g_qp.S hs
  replace g_qc := g_qc.S hs
  replace g_qh := g_qh.S hs
  replace g_qw := g_qw.S hs
  replace g_ql := g_ql.S hs
  replace g_mw := g_mw.S hs
  replace g_mr := g_mr.S hs
  replace g_mp := g_mp.S hs
  replace g_mn := g_mn.S hs
  replace g_ml := g_ml.S hs
  replace g_mh := g_mh.S hs
  replace g_mt := g_mt.S hs
  replace g_m_fou := g_m_fou.S hs
  replace g_qo_ln := g_qo_ln.S hs
  replace g_b_of := g_b_of.S hs
  replace g_m_of := g_m_of.S hs
  replace g_b_wf := g_b_wf.S hs
  replace g_m_wf := g_m_wf.S hs
  replace g_b_df := g_b_df.S hs
  replace g_m_df := g_m_df.S hs
  replace g_b_kf := g_b_kf.S hs
  replace g_m_kf := g_m_kf.S hs
  replace g_b_sf := g_b_sf.S hs
  replace g_m_sf := g_m_sf.S hs
  replace g_b_bf := g_b_bf.S hs
  replace g_m_lst := g_m_lst.S hs
  replace g_m_dead := g_m_dead.S hs
  replace g_m_isj := g_m_isj.S hs
  replace g_m_dox := g_m_dox.S hs
  replace g_m_doy := g_m_doy.S hs
  replace g_qlt := g_qlt.S hs
  replace g_qlf := g_qlf.S hs
  replace g_m_wkd := g_m_wkd.S hs
  replace g_m_aga := g_m_aga.S hs
  refine lv_pop hx hb dL_law_1001 rfl ?_
  refine lv_aload_n hx hb dL_law_1002 rfl (lv_at hl 1 rfl) ?_
  refine lv_aload_n hx hb dL_law_1003 rfl (lv_at hl 3 rfl) ?_
  refine lv_iload_n hx hb dL_law_1004 rfl (lv_at hl 0 rfl) ?_
  refine lv_iconst (v := 1) hx hb dL_law_1005 (by decide) ?_
  refine lv_iadd hx hb dL_law_1006 ?_
  refine lv_topi (fun x_490 ex_490 => ?_)
  have zx_490 : x_490.toInt = i.toInt + 1 := by rw [ex_490]; exact i32_add rfl (by decide) (by omega) (by omega)
  obtain rfl : x_481 = x_490 := ex_481.trans ex_490.symm
  refine va_sld hx hb hX hbl hbA hW.2.2.2.1 (vp_in_iff.mpr ⟨by omega, by omega⟩) dL_law_1007 ?_
  refine lv_topi (fun x_491 ex_491 => ?_)
  obtain rfl : x_482 = x_491 := ex_482.trans ex_491.symm
  refine lv_aload_n hx hb dL_law_1008 rfl (lv_at hl 3 rfl) ?_
  refine lv_iload_n hx hb dL_law_1009 rfl (lv_at hl 0 rfl) ?_
  refine lv_iconst (v := 2) hx hb dL_law_1010 (by decide) ?_
  refine lv_iadd hx hb dL_law_1011 ?_
  refine lv_topi (fun x_492 ex_492 => ?_)
  have zx_492 : x_492.toInt = i.toInt + 2 := by rw [ex_492]; exact i32_add rfl (by decide) (by omega) (by omega)
  obtain rfl : x_483 = x_492 := ex_483.trans ex_492.symm
  refine va_sld hx hb hX hbl hbA hW.2.2.2.1 (vp_in_iff.mpr ⟨by omega, by omega⟩) dL_law_1012 ?_
  refine lv_topi (fun x_493 ex_493 => ?_)
  obtain rfl : x_484 = x_493 := ex_484.trans ex_493.symm
  have hTo := hT
  refine hx_goi (hx_runV (As := [.int x_482, .int x_484]) (rest := []) ⟨hx, hb, hml, hown, hts⟩ hW gm tt_10 (T := TX10) (N := 98) rfl (t_X10_seize l dC dI dA L_485 h_486 H.size am x_482 x_484 hT gm) (cwV 2 hts (hx_gV kw_1661 kw_1658 kw_1659 kw_1660 kw_103) rfl rfl rfl (by decide +kernel) ⟨Nat.le_of_ble_eq_true rfl, Nat.le_of_ble_eq_true rfl⟩) rfl hl.1 rfl (Nat.le_of_ble_eq_true rfl) dL_law_1013 ⟨(show CC + 0 + 0 ≤ 600000 from by omega), (show SS + 0 + 0 ≤ 7302250 from by omega)⟩) hW (fun r_496 L_494 h_495 H locs p_497 hW => ?_)
  obtain ⟨hr_498, hT, hs⟩ := p_497
  replace hT : hx_T T_tb L_494 h_495 := hT
  replace hs : hx_S T_tb [(10, 67), (10, 68), (10, 69), (10, 70), (10, 71), (84, 0), (91, 0)] L_485 h_486 L_494 h_495 := hs
  replace f_qa := (hs.o gx trivial rfl).2.trans f_qa
  replace f_qp := (hs.o gx trivial rfl).2.trans f_qp
  replace f_qc := (hs.o gx trivial rfl).2.trans f_qc
  replace f_qh := (hs.o gx trivial rfl).2.trans f_qh
  replace f_qw := (hs.o gx trivial rfl).2.trans f_qw
  replace f_ql := (hs.o g_qw trivial rfl).2.trans f_ql
  replace f_m_now := (hs.o gm trivial rfl).1.trans f_m_now
  replace f_m_persons := (hs.o gm trivial rfl).1.trans f_m_persons
  replace f_m_claims := (hs.o gm trivial rfl).1.trans f_m_claims
  replace f_m_lines := (hs.o gm trivial rfl).1.trans f_m_lines
  replace f_m_listed := (hs.o gm trivial rfl).1.trans f_m_listed
  replace f_m_walkedMany := (hs.o gm trivial rfl).1.trans f_m_walkedMany
  replace f_m_acts := (hs.o gm trivial rfl).1.trans f_m_acts
  replace f_m_heardMany := (hs.o gm trivial rfl).1.trans f_m_heardMany
  replace f_x_now := (hs.o gx trivial rfl).1.trans f_x_now
  replace f_x_personCount := (hs.o gx trivial rfl).1.trans f_x_personCount
  replace f_x_claimCount := (hs.o gx trivial rfl).1.trans f_x_claimCount
  replace f_mw := (hs.o gm trivial rfl).2.trans f_mw
  replace f_mr := (hs.o gm trivial rfl).2.trans f_mr
  replace f_mp := (hs.o gm trivial rfl).2.trans f_mp
  replace f_mn := (hs.o gm trivial rfl).2.trans f_mn
  replace f_ml := (hs.o gm trivial rfl).2.trans f_ml
  replace f_mh := (hs.o gm trivial rfl).2.trans f_mh
  replace f_mt := (hs.o gm trivial rfl).2.trans f_mt
  replace f_m_fou := (hs.o gm trivial rfl).2.trans f_m_fou
  replace f_qo_ln := (hs.o gx trivial rfl).2.trans f_qo_ln
  replace f_o_ln := (hs.o g_qo_ln trivial rfl).1.trans f_o_ln
  replace f_o_lsd := (hs.o g_qw trivial rfl).1.trans f_o_lsd
  replace f_o_wkm := (hs.o g_qw trivial rfl).1.trans f_o_wkm
  replace f_b_of := (hs.o g_qo_ln trivial rfl).2.trans f_b_of
  replace f_m_of := (hs.o gm trivial rfl).2.trans f_m_of
  replace f_b_wf := (hs.o g_qo_ln trivial rfl).2.trans f_b_wf
  replace f_m_wf := (hs.o gm trivial rfl).2.trans f_m_wf
  replace f_b_df := (hs.o g_qo_ln trivial rfl).2.trans f_b_df
  replace f_m_df := (hs.o gm trivial rfl).2.trans f_m_df
  replace f_b_kf := (hs.o g_qo_ln trivial rfl).2.trans f_b_kf
  replace f_m_kf := (hs.o gm trivial rfl).2.trans f_m_kf
  replace f_b_sf := (hs.o g_qo_ln trivial rfl).2.trans f_b_sf
  replace f_m_sf := (hs.o gm trivial rfl).2.trans f_m_sf
  replace f_b_bf := (hs.o g_qo_ln trivial rfl).2.trans f_b_bf
  replace f_m_lst := (hs.o gm trivial rfl).2.trans f_m_lst
  replace f_m_dead := (hs.o gm trivial rfl).2.trans f_m_dead
  replace f_m_isj := (hs.o gm trivial rfl).2.trans f_m_isj
  replace f_m_dox := (hs.o gm trivial rfl).2.trans f_m_dox
  replace f_m_doy := (hs.o gm trivial rfl).2.trans f_m_doy
  replace f_qlt := (hs.o g_qw trivial rfl).2.trans f_qlt
  replace f_qlf := (hs.o g_qw trivial rfl).2.trans f_qlf
  replace f_m_wkd := (hs.o gm trivial rfl).2.trans f_m_wkd
  replace f_m_aga := (hs.o gm trivial rfl).2.trans f_m_aga
  replace pf_qa : ∀ j : Nat, (j : Int) < (h_495.2.1 ax 6).toInt → h_495.2.2 qa j ≠ none := by
    intro j hj; rw [(hs.o gx trivial rfl).1] at hj; rw [(hs.a g_qa rfl j).2]; exact pf_qa j hj
  replace pf_qp : ∀ j : Nat, (j : Int) < (h_495.2.1 ax 8).toInt → h_495.2.2 qp j ≠ none := by
    intro j hj; rw [(hs.o gx trivial rfl).1] at hj; rw [(hs.a g_qp rfl j).2]; exact pf_qp j hj
  replace pf_qc : ∀ j : Nat, (j : Int) < (h_495.2.1 ax 11).toInt → h_495.2.2 qc j ≠ none := by
    intro j hj; rw [(hs.o gx trivial rfl).1] at hj; rw [(hs.a g_qc rfl j).2]; exact pf_qc j hj
  replace pf_qh : ∀ j : Nat, (j : Int) < (h_495.2.1 ax 13).toInt → h_495.2.2 qh j ≠ none := by
    intro j hj; rw [(hs.o gx trivial rfl).1] at hj; rw [(hs.a g_qh rfl j).2]; exact pf_qh j hj
  replace pf_ql : ∀ j : Nat, (j : Int) < (h_495.2.1 qw 0).toInt → h_495.2.2 ql j ≠ none := by
    intro j hj; rw [(hs.o g_qw trivial rfl).1] at hj; rw [(hs.a g_ql rfl j).2]; exact pf_ql j hj
  replace cl_lst : hx_col 8 h_495 ql 0 = c_lst := (hx_col_S hs hTo g_ql tt_40 tt_2 rfl rfl).trans cl_lst
  replace cl_dead : hx_col 40 h_495 qp 7 = c_dead := (hx_col_S hs hTo g_qp tt_44 tt_4 rfl rfl).trans cl_dead
  replace cl_isj : hx_col 40 h_495 qp 8 = c_isj := (hx_col_S hs hTo g_qp tt_44 tt_4 rfl rfl).trans cl_isj
  replace cl_dox : hx_col 40 h_495 qp 5 = c_dox := (hx_col_S hs hTo g_qp tt_44 tt_4 rfl rfl).trans cl_dox
  replace cl_doy : hx_col 40 h_495 qp 6 = c_doy := (hx_col_S hs hTo g_qp tt_44 tt_4 rfl rfl).trans cl_doy
  replace cl_fou : hx_col 100 h_495 qc 10 = c_fou := (hx_col_S hs hTo g_qc tt_45 tt_2 rfl rfl).trans cl_fou
  replace cl_tri : hx_col 100 h_495 qc 9 = c_tri := (hx_col_S hs hTo g_qc tt_45 tt_2 rfl rfl).trans cl_tri
  replace nu_qp : hx_num 40 h_495 qp 0 (np.toInt) := hx_num_S hs hTo g_qp tt_44 tt_4 rfl rfl nu_qp
  replace nu_qc : hx_num 100 h_495 qc 0 (c0.toInt) := hx_num_S hs hTo g_qc tt_45 tt_2 rfl rfl nu_qc
  replace sb_list : hx_LQ 8 100 h_495 ql qc := hx_LQ_S hs g_ql g_qc rfl rfl sb_list
  replace hDF : hw_DF h_495 qc qp 2 F_aga c0.toInt := hw_DF_S hs hTo g_qc g_qp tt_45 tt_2 rfl rfl rfl hDF
  replace n_mw : h_495.2.1 mw = F_mw := (funext fun j => (hs.a g_mw rfl j).1).trans n_mw
  replace n_mr : h_495.2.1 mr = F_mr := (funext fun j => (hs.a g_mr rfl j).1).trans n_mr
  replace n_mp : h_495.2.1 mp = F_mp := (funext fun j => (hs.a g_mp rfl j).1).trans n_mp
  replace n_mn : h_495.2.1 mn = F_mn := (funext fun j => (hs.a g_mn rfl j).1).trans n_mn
  replace n_ml : h_495.2.1 ml = F_ml := (funext fun j => (hs.a g_ml rfl j).1).trans n_ml
  replace n_mh : h_495.2.1 mh = F_mh := (funext fun j => (hs.a g_mh rfl j).1).trans n_mh
  replace n_mt : h_495.2.1 mt = F_mt := (funext fun j => (hs.a g_mt rfl j).1).trans n_mt
  replace n_m_fou : h_495.2.1 m_fou = F_m_fou := (funext fun j => (hs.a g_m_fou rfl j).1).trans n_m_fou
  replace n_b_of : h_495.2.1 b_of = B_of := (funext fun j => (hs.a g_b_of rfl j).1).trans n_b_of
  replace n_m_of : h_495.2.1 m_of = F_of := (funext fun j => (hs.a g_m_of rfl j).1).trans n_m_of
  replace n_b_wf : h_495.2.1 b_wf = B_wf := (funext fun j => (hs.a g_b_wf rfl j).1).trans n_b_wf
  replace n_m_wf : h_495.2.1 m_wf = F_wf := (funext fun j => (hs.a g_m_wf rfl j).1).trans n_m_wf
  replace n_b_df : h_495.2.1 b_df = B_df := (funext fun j => (hs.a g_b_df rfl j).1).trans n_b_df
  replace n_m_df : h_495.2.1 m_df = F_df := (funext fun j => (hs.a g_m_df rfl j).1).trans n_m_df
  replace n_b_kf : h_495.2.1 b_kf = B_kf := (funext fun j => (hs.a g_b_kf rfl j).1).trans n_b_kf
  replace n_m_kf : h_495.2.1 m_kf = F_kf := (funext fun j => (hs.a g_m_kf rfl j).1).trans n_m_kf
  replace n_b_sf : h_495.2.1 b_sf = B_sf := (funext fun j => (hs.a g_b_sf rfl j).1).trans n_b_sf
  replace n_m_sf : h_495.2.1 m_sf = F_sf := (funext fun j => (hs.a g_m_sf rfl j).1).trans n_m_sf
  replace n_b_bf : h_495.2.1 b_bf = bfL := (funext fun j => (hs.a g_b_bf rfl j).1).trans n_b_bf
  replace n_lst : h_495.2.1 m_lst = F_lst := (funext fun j => (hs.a g_m_lst rfl j).1).trans n_lst
  replace n_dead : h_495.2.1 m_dead = F_dead := (funext fun j => (hs.a g_m_dead rfl j).1).trans n_dead
  replace n_isj : h_495.2.1 m_isj = F_isj := (funext fun j => (hs.a g_m_isj rfl j).1).trans n_isj
  replace n_dox : h_495.2.1 m_dox = F_dox := (funext fun j => (hs.a g_m_dox rfl j).1).trans n_dox
  replace n_doy : h_495.2.1 m_doy = F_doy := (funext fun j => (hs.a g_m_doy rfl j).1).trans n_doy
  replace n_qlt : h_495.2.1 qlt = F_qlt := (funext fun j => (hs.a g_qlt rfl j).1).trans n_qlt
  replace n_m_wkd : h_495.2.1 m_wkd = F_m_wkd := (funext fun j => (hs.a g_m_wkd rfl j).1).trans n_m_wkd
  replace n_aga : h_495.2.1 m_aga = F_aga := (funext fun j => (hs.a g_m_aga rfl j).1).trans n_aga
  replace gx := gx.S hs
  replace gm := gm.S hs
  replace g_qa := g_qa.S hs
  replace g_qp := g_qp.S hs
  replace g_qc := g_qc.S hs
  replace g_qh := g_qh.S hs
  replace g_qw := g_qw.S hs
  replace g_ql := g_ql.S hs
  replace g_mw := g_mw.S hs
  replace g_mr := g_mr.S hs
  replace g_mp := g_mp.S hs
  replace g_mn := g_mn.S hs
  replace g_ml := g_ml.S hs
  replace g_mh := g_mh.S hs
  replace g_mt := g_mt.S hs
  replace g_m_fou := g_m_fou.S hs
  replace g_qo_ln := g_qo_ln.S hs
  replace g_b_of := g_b_of.S hs
  replace g_m_of := g_m_of.S hs
  replace g_b_wf := g_b_wf.S hs
  replace g_m_wf := g_m_wf.S hs
  replace g_b_df := g_b_df.S hs
  replace g_m_df := g_m_df.S hs
  replace g_b_kf := g_b_kf.S hs
  replace g_m_kf := g_m_kf.S hs
  replace g_b_sf := g_b_sf.S hs
  replace g_m_sf := g_m_sf.S hs
  replace g_b_bf := g_b_bf.S hs
  replace g_m_lst := g_m_lst.S hs
  replace g_m_dead := g_m_dead.S hs
  replace g_m_isj := g_m_isj.S hs
  replace g_m_dox := g_m_dox.S hs
  replace g_m_doy := g_m_doy.S hs
  replace g_qlt := g_qlt.S hs
  replace g_qlf := g_qlf.S hs
  replace g_m_wkd := g_m_wkd.S hs
  replace g_m_aga := g_m_aga.S hs
  refine lv_pop hx hb dL_law_1016 rfl ?_
  refine lv_goto (tgt := 1379) hx hb dL_law_1017 (by decide) ?_
  refine W.widen (k := CC + 3) (n := SS + 179) (by omega) (by omega) ?_
  exact kk L_494 h_495 H locs ls hW ⟨hT, gx, gm, ⟨f_x_now.trans f_m_now.symm, f_x_personCount.trans f_m_persons.symm, f_x_claimCount.trans f_m_claims.symm, hx_ob f_qo_ln (f_o_ln.trans f_m_lines.symm), hx_ob f_qw (f_o_lsd.trans f_m_listed.symm), hx_ob f_qw (f_o_wkm.trans f_m_walkedMany.symm), hx_ob f_qp (by rw [f_x_personCount]; exact nu_qp), hx_ob f_qc (by rw [f_x_claimCount]; exact nu_qc), (fun b a r hb ha hr => by obtain rfl : qo_ln = b := Option.some.inj (f_qo_ln.symm.trans hb); obtain rfl : b_of = a := Option.some.inj (f_b_of.symm.trans ha); obtain rfl : m_of = r := Option.some.inj (f_m_of.symm.trans hr); rw [n_b_of, n_m_of, f_o_ln]; exact eb_of), (fun b a r hb ha hr => by obtain rfl : qo_ln = b := Option.some.inj (f_qo_ln.symm.trans hb); obtain rfl : b_wf = a := Option.some.inj (f_b_wf.symm.trans ha); obtain rfl : m_wf = r := Option.some.inj (f_m_wf.symm.trans hr); rw [n_b_wf, n_m_wf, f_o_ln]; exact eb_wf), (fun b a r hb ha hr => by obtain rfl : qo_ln = b := Option.some.inj (f_qo_ln.symm.trans hb); obtain rfl : b_df = a := Option.some.inj (f_b_df.symm.trans ha); obtain rfl : m_df = r := Option.some.inj (f_m_df.symm.trans hr); rw [n_b_df, n_m_df, f_o_ln]; exact eb_df), (fun b a r hb ha hr => by obtain rfl : qo_ln = b := Option.some.inj (f_qo_ln.symm.trans hb); obtain rfl : b_kf = a := Option.some.inj (f_b_kf.symm.trans ha); obtain rfl : m_kf = r := Option.some.inj (f_m_kf.symm.trans hr); rw [n_b_kf, n_m_kf, f_o_ln]; exact eb_kf), (fun b a r hb ha hr => by obtain rfl : qo_ln = b := Option.some.inj (f_qo_ln.symm.trans hb); obtain rfl : b_sf = a := Option.some.inj (f_b_sf.symm.trans ha); obtain rfl : m_sf = r := Option.some.inj (f_m_sf.symm.trans hr); rw [n_b_sf, n_m_sf, f_o_ln]; exact eb_sf), (fun b a r hb ha hr => by obtain rfl : qo_ln = b := Option.some.inj (f_qo_ln.symm.trans hb); obtain rfl : b_df = a := Option.some.inj (f_b_df.symm.trans ha); obtain rfl : b_bf = r := Option.some.inj (f_b_bf.symm.trans hr); rw [n_b_df, n_b_bf, f_o_ln]; exact ⟨hBD, hDY⟩), (fun w q c hw hq hc => by obtain rfl : qw = w := Option.some.inj (f_qw.symm.trans hw); obtain rfl : ql = q := Option.some.inj (f_ql.symm.trans hq); obtain rfl : qc = c := Option.some.inj (f_qc.symm.trans hc); exact sb_list), (fun w q r hw hq hr => by obtain rfl : qw = w := Option.some.inj (f_qw.symm.trans hw); obtain rfl : ql = q := Option.some.inj (f_ql.symm.trans hq); obtain rfl : m_lst = r := Option.some.inj (f_m_lst.symm.trans hr); rw [cl_lst, n_lst]; exact eq_lst), (fun w q r hw hq hr => by obtain rfl : qw = w := Option.some.inj (f_qw.symm.trans hw); obtain rfl : qlt = q := Option.some.inj (f_qlt.symm.trans hq); obtain rfl : m_wkd = r := Option.some.inj (f_m_wkd.symm.trans hr); rw [n_qlt, n_m_wkd, f_o_wkm]; exact eb_wkd), (fun c q a hc hq ha => by obtain rfl : qc = c := Option.some.inj (f_qc.symm.trans hc); obtain rfl : qp = q := Option.some.inj (f_qp.symm.trans hq); obtain rfl : m_aga = a := Option.some.inj (f_m_aga.symm.trans ha); rw [n_aga, f_x_claimCount]; exact hw_DF_e hDF rfl rfl), hx_ob2 f_qp f_m_dead (by rw [cl_dead, n_dead]; exact eq_dead), hx_ob2 f_qp f_m_isj (by rw [cl_isj, n_isj]; exact eq_isj), hx_ob2 f_qp f_m_dox (by rw [cl_dox, n_dox]; exact eq_dox), hx_ob2 f_qp f_m_doy (by rw [cl_doy, n_doy]; exact eq_doy), hx_ob2 f_qc f_m_fou (by rw [cl_fou, n_m_fou]; exact eq_fou), hx_ob2 f_qc f_mt (by rw [cl_tri, n_mt]; exact eq_tri), trivial⟩, ⟨hx_ob f_qa pf_qa, hx_ob f_qp pf_qp, hx_ob f_qc pf_qc, hx_ob f_qh pf_qh, (fun w q hw hq => by obtain rfl : qw = w := Option.some.inj (f_qw.symm.trans hw); obtain rfl : ql = q := Option.some.inj (f_ql.symm.trans hq); exact pf_ql)⟩, ⟨hx_ob f_mw (by rw [n_mw]; exact hwd), hx_ob f_mr (by rw [n_mr, f_m_acts]; exact hWK), hx_ob2 f_mp f_mn (by rw [n_mp, n_mn, f_m_acts]; exact hRP), hx_ob f_ml (by rw [n_ml, f_m_claims, f_m_acts]; exact hPL), hx_ob f_mh (by rw [n_mh, f_m_heardMany, f_m_claims]; exact hHC), hx_ob f_mt (by rw [n_mt]; exact (hx_TR_le hTR (by omega))), hx_ob2 f_mh f_m_fou (by rw [n_mh, n_m_fou, f_m_claims]; exact hHF)⟩⟩ hl

set_option maxHeartbeats 4000000 in
set_option maxRecDepth 100000 in
theorem law_case_18 {p : Program} {e : Env} {s : State} {m : MethodId} {below : List Frame} {meth : Method} {c : Code} (l : Launch) {b LN : Nat} {xs : Nat → Int32} (hx : p.tables.exec = Jvm.exec) (hb : c.code = code) (hr : meth.sig.returnType = ret) (hlocks : meth.locks = false) (hml : c.maxLocals = 4) (hown : s.vm.findClass "SmallCourtLaw" = some m.cls) (hts : ∀ w ∈ hx_all, w.before #[Value.ref b] s = true) (hX : va_X b LN xs s s.heap) (hbl : b < s.heap.size) (hbA : ¬ s.heap.size ≤ b) (hLN : LN ≤ 3584) (dC : Nat → ClassId) (dI : Nat → Nat → Nat) (dA : Nat → ClassId) (b0 : hx_z) (ax am : Nat) (T1 : Int) (hT0 : 0 ≤ T1) (hT1 : T1 ≤ 511) (i : Int32) (hi0 : 0 ≤ i.toInt) (hiL : i.toInt + 7 ≤ LN) (CC SS : Nat) (hCC : CC + 3 ≤ 600000) (hSS : SS + 179 ≤ 7302250) (L1 : List Nat) (hl1 : hx_h) (H : Heap) (locs : List Loc) (ls : Array Slot) (hW : hx_W T_tb (P_ty dA) (dC, dI) vwCl (fun q : Nat => s.heap.size ≤ q) s.heap L1 hl1 s H locs) (hZ : hx_Xt (fun q : Nat => s.heap.size ≤ q) b0 s) (hI : hx_IV T1 ax am L1 hl1) (hl : lv_has ls 4 [(3, .int i), (2, .ref am), (1, .ref ax), (0, .ref b)]) (kk : ∀ (L2 : List Nat) (h2 : hx_h) (H2 : Heap) (locs2 : List Loc) (ls2 : Array Slot), hx_W T_tb (P_ty dA) (dC, dI) vwCl (fun q : Nat => s.heap.size ≤ q) s.heap L2 h2 s H2 locs2 → hx_IV (T1 + 1) ax am L2 h2 → lv_has ls2 4 [(3, .int i), (2, .ref am), (1, .ref ax), (0, .ref b)] → W p l e room_1 s m #[Value.ref b] below meth c H2 locs2 (CC + 3) (SS + 179) (lw_Z below #[Value.ref b] s) (F0 m 1379 ls2 [])) : W p l e room_1 s m #[Value.ref b] below meth c H locs CC SS (lw_Z below #[Value.ref b] s) (F0 m 1020 ls []) := by
  obtain ⟨hT, gx, gm, ⟨he_nw, he_np, he_c0, ho_ln, ho_lsd, ho_wkm, hn_qp, hn_qc, hk_of, hk_wf, hk_df, hk_kf, hk_sf, hkBD, hLQ, hLE, hkWD, hkDF, hc_dead, hc_isj, hc_dox, hc_doy, hc_fou, hc_tri, -⟩, ⟨ia, ip, ic, ih, il⟩, ⟨jw, jr, jp, jl, jh, jt, jf⟩⟩ := hI
  obtain ⟨qa, f_qa, g_qa⟩ := hx_rf hT gx tt_9 (k := 5) (u := 43) rfl
  have pf_qa := ia qa f_qa
  obtain ⟨qp, f_qp, g_qp⟩ := hx_rf hT gx tt_9 (k := 7) (u := 44) rfl
  have pf_qp := ip qp f_qp
  obtain ⟨qc, f_qc, g_qc⟩ := hx_rf hT gx tt_9 (k := 10) (u := 45) rfl
  have pf_qc := ic qc f_qc
  obtain ⟨qh, f_qh, g_qh⟩ := hx_rf hT gx tt_9 (k := 12) (u := 46) rfl
  have pf_qh := ih qh f_qh
  obtain ⟨qw, f_qw, g_qw⟩ := hx_rf hT gx tt_9 (k := 19) (u := 8) rfl
  obtain ⟨ql, f_ql, g_ql⟩ := hx_rf hT g_qw tt_8 (k := 3) (u := 40) rfl
  have pf_ql := il qw ql f_qw f_ql
  obtain ⟨nw, f_m_now⟩ : ∃ y : Int32, hl1.2.1 am 0 = y := ⟨_, rfl⟩
  have b_nw := hT.gi gm tt_10 (k := 0) rfl
  rw [f_m_now] at b_nw
  have b_nw : 0 ≤ nw.toInt ∧ nw.toInt ≤ 7999 := b_nw
  obtain ⟨np, f_m_persons⟩ : ∃ y : Int32, hl1.2.1 am 20 = y := ⟨_, rfl⟩
  have b_np := hT.gi gm tt_10 (k := 20) rfl
  rw [f_m_persons] at b_np
  have b_np : 0 ≤ np.toInt ∧ np.toInt ≤ 40 := b_np
  obtain ⟨c0, f_m_claims⟩ : ∃ y : Int32, hl1.2.1 am 36 = y := ⟨_, rfl⟩
  have b_c0 := hT.gi gm tt_10 (k := 36) rfl
  rw [f_m_claims] at b_c0
  have b_c0 : 0 ≤ c0.toInt ∧ c0.toInt ≤ 100 := b_c0
  obtain ⟨ln, f_m_lines⟩ : ∃ y : Int32, hl1.2.1 am 29 = y := ⟨_, rfl⟩
  have b_ln := hT.gi gm tt_10 (k := 29) rfl
  rw [f_m_lines] at b_ln
  have b_ln : 0 ≤ ln.toInt ∧ ln.toInt ≤ 400 := b_ln
  obtain ⟨lsd, f_m_listed⟩ : ∃ y : Int32, hl1.2.1 am 90 = y := ⟨_, rfl⟩
  have b_lsd := hT.gi gm tt_10 (k := 90) rfl
  rw [f_m_listed] at b_lsd
  have b_lsd : 0 ≤ lsd.toInt ∧ lsd.toInt ≤ 8 := b_lsd
  obtain ⟨wkm, f_m_walkedMany⟩ : ∃ y : Int32, hl1.2.1 am 92 = y := ⟨_, rfl⟩
  have b_wkm := hT.gi gm tt_10 (k := 92) rfl
  rw [f_m_walkedMany] at b_wkm
  have b_wkm : 0 ≤ wkm.toInt ∧ wkm.toInt ≤ 8 := b_wkm
  obtain ⟨a0, f_m_acts⟩ : ∃ y : Int32, hl1.2.1 am 1 = y := ⟨_, rfl⟩
  have b_a0 := hT.gi gm tt_10 (k := 1) rfl
  rw [f_m_acts] at b_a0
  have b_a0 : 0 ≤ a0.toInt ∧ a0.toInt ≤ 8 := b_a0
  obtain ⟨m0, f_m_heardMany⟩ : ∃ y : Int32, hl1.2.1 am 57 = y := ⟨_, rfl⟩
  have b_m0 := hT.gi gm tt_10 (k := 57) rfl
  rw [f_m_heardMany] at b_m0
  have b_m0 : 0 ≤ m0.toInt ∧ m0.toInt ≤ 100 := b_m0
  have f_x_now : hl1.2.1 ax 2 = nw := he_nw.trans f_m_now
  have f_x_personCount : hl1.2.1 ax 8 = np := he_np.trans f_m_persons
  have f_x_claimCount : hl1.2.1 ax 11 = c0 := he_c0.trans f_m_claims
  obtain ⟨mw, f_mw, g_mw⟩ := hx_rf hT gm tt_10 (k := 19) (u := 57) rfl
  obtain ⟨F_mw, n_mw⟩ : ∃ g : Nat → Int32, hl1.2.1 mw = g := ⟨_, rfl⟩
  obtain ⟨mr, f_mr, g_mr⟩ := hx_rf hT gm tt_10 (k := 3) (u := 50) rfl
  obtain ⟨F_mr, n_mr⟩ : ∃ g : Nat → Int32, hl1.2.1 mr = g := ⟨_, rfl⟩
  obtain ⟨mp, f_mp, g_mp⟩ := hx_rf hT gm tt_10 (k := 5) (u := 52) rfl
  obtain ⟨F_mp, n_mp⟩ : ∃ g : Nat → Int32, hl1.2.1 mp = g := ⟨_, rfl⟩
  obtain ⟨mn, f_mn, g_mn⟩ := hx_rf hT gm tt_10 (k := 4) (u := 51) rfl
  obtain ⟨F_mn, n_mn⟩ : ∃ g : Nat → Int32, hl1.2.1 mn = g := ⟨_, rfl⟩
  obtain ⟨ml, f_ml, g_ml⟩ := hx_rf hT gm tt_10 (k := 44) (u := 79) rfl
  obtain ⟨F_ml, n_ml⟩ : ∃ g : Nat → Int32, hl1.2.1 ml = g := ⟨_, rfl⟩
  obtain ⟨mh, f_mh, g_mh⟩ := hx_rf hT gm tt_10 (k := 47) (u := 82) rfl
  obtain ⟨F_mh, n_mh⟩ : ∃ g : Nat → Int32, hl1.2.1 mh = g := ⟨_, rfl⟩
  obtain ⟨mt, f_mt, g_mt⟩ := hx_rf hT gm tt_10 (k := 45) (u := 80) rfl
  obtain ⟨F_mt, n_mt⟩ : ∃ g : Nat → Int32, hl1.2.1 mt = g := ⟨_, rfl⟩
  obtain ⟨m_fou, f_m_fou, g_m_fou⟩ := hx_rf hT gm tt_10 (k := 46) (u := 81) rfl
  obtain ⟨F_m_fou, n_m_fou⟩ : ∃ g : Nat → Int32, hl1.2.1 m_fou = g := ⟨_, rfl⟩
  obtain ⟨qo_ln, f_qo_ln, g_qo_ln⟩ := hx_rf hT gx tt_9 (k := 9) (u := 1) rfl
  have f_o_ln : hl1.2.1 qo_ln 0 = ln := (ho_ln qo_ln f_qo_ln).trans f_m_lines
  have f_o_lsd : hl1.2.1 qw 0 = lsd := (ho_lsd qw f_qw).trans f_m_listed
  have f_o_wkm : hl1.2.1 qw 1 = wkm := (ho_wkm qw f_qw).trans f_m_walkedMany
  have nu_qp := hn_qp qp f_qp; rw [f_x_personCount] at nu_qp
  have nu_qc := hn_qc qc f_qc; rw [f_x_claimCount] at nu_qc
  obtain ⟨b_of, f_b_of, g_b_of⟩ := hx_rf hT g_qo_ln tt_1 (k := 1) (u := 13) rfl
  obtain ⟨B_of, n_b_of⟩ : ∃ g : Nat → Int32, hl1.2.1 b_of = g := ⟨_, rfl⟩
  obtain ⟨m_of, f_m_of, g_m_of⟩ := hx_rf hT gm tt_10 (k := 30) (u := 66) rfl
  obtain ⟨F_of, n_m_of⟩ : ∃ g : Nat → Int32, hl1.2.1 m_of = g := ⟨_, rfl⟩
  have eb_of := hk_of qo_ln b_of m_of f_qo_ln f_b_of f_m_of; rw [n_b_of, n_m_of, f_o_ln] at eb_of
  obtain ⟨b_wf, f_b_wf, g_b_wf⟩ := hx_rf hT g_qo_ln tt_1 (k := 2) (u := 14) rfl
  obtain ⟨B_wf, n_b_wf⟩ : ∃ g : Nat → Int32, hl1.2.1 b_wf = g := ⟨_, rfl⟩
  obtain ⟨m_wf, f_m_wf, g_m_wf⟩ := hx_rf hT gm tt_10 (k := 31) (u := 67) rfl
  obtain ⟨F_wf, n_m_wf⟩ : ∃ g : Nat → Int32, hl1.2.1 m_wf = g := ⟨_, rfl⟩
  have eb_wf := hk_wf qo_ln b_wf m_wf f_qo_ln f_b_wf f_m_wf; rw [n_b_wf, n_m_wf, f_o_ln] at eb_wf
  obtain ⟨b_df, f_b_df, g_b_df⟩ := hx_rf hT g_qo_ln tt_1 (k := 3) (u := 15) rfl
  obtain ⟨B_df, n_b_df⟩ : ∃ g : Nat → Int32, hl1.2.1 b_df = g := ⟨_, rfl⟩
  obtain ⟨m_df, f_m_df, g_m_df⟩ := hx_rf hT gm tt_10 (k := 32) (u := 68) rfl
  obtain ⟨F_df, n_m_df⟩ : ∃ g : Nat → Int32, hl1.2.1 m_df = g := ⟨_, rfl⟩
  have eb_df := hk_df qo_ln b_df m_df f_qo_ln f_b_df f_m_df; rw [n_b_df, n_m_df, f_o_ln] at eb_df
  obtain ⟨b_kf, f_b_kf, g_b_kf⟩ := hx_rf hT g_qo_ln tt_1 (k := 4) (u := 16) rfl
  obtain ⟨B_kf, n_b_kf⟩ : ∃ g : Nat → Int32, hl1.2.1 b_kf = g := ⟨_, rfl⟩
  obtain ⟨m_kf, f_m_kf, g_m_kf⟩ := hx_rf hT gm tt_10 (k := 33) (u := 69) rfl
  obtain ⟨F_kf, n_m_kf⟩ : ∃ g : Nat → Int32, hl1.2.1 m_kf = g := ⟨_, rfl⟩
  have eb_kf := hk_kf qo_ln b_kf m_kf f_qo_ln f_b_kf f_m_kf; rw [n_b_kf, n_m_kf, f_o_ln] at eb_kf
  obtain ⟨b_sf, f_b_sf, g_b_sf⟩ := hx_rf hT g_qo_ln tt_1 (k := 5) (u := 17) rfl
  obtain ⟨B_sf, n_b_sf⟩ : ∃ g : Nat → Int32, hl1.2.1 b_sf = g := ⟨_, rfl⟩
  obtain ⟨m_sf, f_m_sf, g_m_sf⟩ := hx_rf hT gm tt_10 (k := 34) (u := 70) rfl
  obtain ⟨F_sf, n_m_sf⟩ : ∃ g : Nat → Int32, hl1.2.1 m_sf = g := ⟨_, rfl⟩
  have eb_sf := hk_sf qo_ln b_sf m_sf f_qo_ln f_b_sf f_m_sf; rw [n_b_sf, n_m_sf, f_o_ln] at eb_sf
  obtain ⟨b_bf, f_b_bf, g_b_bf⟩ := hx_rf hT g_qo_ln tt_1 (k := 6) (u := 18) rfl
  obtain ⟨bfL, n_b_bf⟩ : ∃ g : Nat → Int32, hl1.2.1 b_bf = g := ⟨_, rfl⟩
  obtain ⟨hBD, hDY⟩ := hkBD qo_ln b_df b_bf f_qo_ln f_b_df f_b_bf; rw [n_b_df, n_b_bf, f_o_ln] at hBD; rw [n_b_df, f_o_ln] at hDY
  have hBDm := hy_BD_c eb_df hBD
  have hDYm : hy_DY F_df ln.toInt.toNat := fun x hx => by rw [← eb_df x hx]; exact hDY x hx
  have sb_list := hLQ qw ql qc f_qw f_ql f_qc
  obtain ⟨m_lst, f_m_lst, g_m_lst⟩ := hx_rf hT gm tt_10 (k := 91) (u := 112) rfl
  obtain ⟨F_lst, n_lst⟩ : ∃ g : Nat → Int32, hl1.2.1 m_lst = g := ⟨_, rfl⟩
  obtain ⟨c_lst, cl_lst⟩ : ∃ g : Nat → Int32, hx_col 8 hl1 ql 0 = g := ⟨_, rfl⟩
  have eq_lst := hLE qw ql m_lst f_qw f_ql f_m_lst; rw [cl_lst, n_lst] at eq_lst
  obtain ⟨c_dead, cl_dead⟩ : ∃ g : Nat → Int32, hx_col 40 hl1 qp 7 = g := ⟨_, rfl⟩
  obtain ⟨m_dead, f_m_dead, g_m_dead⟩ := hx_rf hT gm tt_10 (k := 27) (u := 64) rfl
  obtain ⟨F_dead, n_dead⟩ : ∃ g : Nat → Int32, hl1.2.1 m_dead = g := ⟨_, rfl⟩
  have eq_dead := hc_dead qp m_dead f_qp f_m_dead; rw [cl_dead, n_dead] at eq_dead
  have z_dead : np.toInt.toNat < 40 → c_dead np.toInt.toNat = 0 := fun hj => hx_num_z nu_qp cl_dead hj (by omega)
  obtain ⟨c_isj, cl_isj⟩ : ∃ g : Nat → Int32, hx_col 40 hl1 qp 8 = g := ⟨_, rfl⟩
  obtain ⟨m_isj, f_m_isj, g_m_isj⟩ := hx_rf hT gm tt_10 (k := 28) (u := 65) rfl
  obtain ⟨F_isj, n_isj⟩ : ∃ g : Nat → Int32, hl1.2.1 m_isj = g := ⟨_, rfl⟩
  have eq_isj := hc_isj qp m_isj f_qp f_m_isj; rw [cl_isj, n_isj] at eq_isj
  have z_isj : np.toInt.toNat < 40 → c_isj np.toInt.toNat = 0 := fun hj => hx_num_z nu_qp cl_isj hj (by omega)
  obtain ⟨c_dox, cl_dox⟩ : ∃ g : Nat → Int32, hx_col 40 hl1 qp 5 = g := ⟨_, rfl⟩
  obtain ⟨m_dox, f_m_dox, g_m_dox⟩ := hx_rf hT gm tt_10 (k := 24) (u := 61) rfl
  obtain ⟨F_dox, n_dox⟩ : ∃ g : Nat → Int32, hl1.2.1 m_dox = g := ⟨_, rfl⟩
  have eq_dox := hc_dox qp m_dox f_qp f_m_dox; rw [cl_dox, n_dox] at eq_dox
  have z_dox : np.toInt.toNat < 40 → c_dox np.toInt.toNat = 0 := fun hj => hx_num_z nu_qp cl_dox hj (by omega)
  obtain ⟨c_doy, cl_doy⟩ : ∃ g : Nat → Int32, hx_col 40 hl1 qp 6 = g := ⟨_, rfl⟩
  obtain ⟨m_doy, f_m_doy, g_m_doy⟩ := hx_rf hT gm tt_10 (k := 25) (u := 62) rfl
  obtain ⟨F_doy, n_doy⟩ : ∃ g : Nat → Int32, hl1.2.1 m_doy = g := ⟨_, rfl⟩
  have eq_doy := hc_doy qp m_doy f_qp f_m_doy; rw [cl_doy, n_doy] at eq_doy
  have z_doy : np.toInt.toNat < 40 → c_doy np.toInt.toNat = 0 := fun hj => hx_num_z nu_qp cl_doy hj (by omega)
  obtain ⟨c_fou, cl_fou⟩ : ∃ g : Nat → Int32, hx_col 100 hl1 qc 10 = g := ⟨_, rfl⟩
  have eq_fou := hc_fou qc m_fou f_qc f_m_fou; rw [cl_fou, n_m_fou] at eq_fou
  have z_fou : c0.toInt.toNat < 100 → c_fou c0.toInt.toNat = 0 := fun hj => hx_num_z nu_qc cl_fou hj (by omega)
  obtain ⟨c_tri, cl_tri⟩ : ∃ g : Nat → Int32, hx_col 100 hl1 qc 9 = g := ⟨_, rfl⟩
  have eq_tri := hc_tri qc mt f_qc f_mt; rw [cl_tri, n_mt] at eq_tri
  have z_tri : c0.toInt.toNat < 100 → c_tri c0.toInt.toNat = 0 := fun hj => hx_num_z nu_qc cl_tri hj (by omega)
  obtain ⟨qlt, f_qlt, g_qlt⟩ := hx_rf hT g_qw tt_8 (k := 2) (u := 39) rfl
  obtain ⟨qlf, f_qlf, g_qlf⟩ := hx_rf hT g_qw tt_8 (k := 4) (u := 41) rfl
  obtain ⟨m_wkd, f_m_wkd, g_m_wkd⟩ := hx_rf hT gm tt_10 (k := 93) (u := 113) rfl
  obtain ⟨F_qlt, n_qlt⟩ : ∃ g : Nat → Int32, hl1.2.1 qlt = g := ⟨_, rfl⟩
  obtain ⟨F_m_wkd, n_m_wkd⟩ : ∃ g : Nat → Int32, hl1.2.1 m_wkd = g := ⟨_, rfl⟩
  have eb_wkd := hkWD qw qlt m_wkd f_qw f_qlt f_m_wkd; rw [n_qlt, n_m_wkd, f_o_wkm] at eb_wkd
  obtain ⟨m_aga, f_m_aga, g_m_aga⟩ := hx_rf hT gm tt_10 (k := 38) (u := 73) rfl
  obtain ⟨F_aga, n_aga⟩ : ∃ g : Nat → Int32, hl1.2.1 m_aga = g := ⟨_, rfl⟩
  have hDF := hkDF qc qp m_aga f_qc f_qp f_m_aga; rw [n_aga, f_x_claimCount] at hDF
  have hwd := jw mw f_mw; rw [n_mw] at hwd
  have hWK := jr mr f_mr; rw [n_mr, f_m_acts] at hWK
  have hRP := jp mp mn f_mp f_mn; rw [n_mp, n_mn, f_m_acts] at hRP
  have hPL := jl ml f_ml; rw [n_ml, f_m_claims, f_m_acts] at hPL
  have hHC := jh mh f_mh; rw [n_mh, f_m_heardMany, f_m_claims] at hHC
  have hTR := jt mt f_mt; rw [n_mt] at hTR
  have hHF := jf mh m_fou f_mh f_m_fou; rw [n_mh, n_m_fou, f_m_claims] at hHF
  refine lv_aload_n hx hb dL_law_1020 rfl (lv_at hl 2 rfl) ?_
  refine lv_aload_n hx hb dL_law_1021 rfl (lv_at hl 3 rfl) ?_
  refine lv_iload_n hx hb dL_law_1022 rfl (lv_at hl 0 rfl) ?_
  refine lv_iconst (v := 1) hx hb dL_law_1023 (by decide) ?_
  refine lv_iadd hx hb dL_law_1024 ?_
  have rg_499 := i32_r i
  refine lv_topi (fun x_500 ex_500 => ?_)
  have zx_500 : x_500.toInt = i.toInt + 1 := by rw [ex_500]; exact i32_add rfl (by decide) (by omega) (by omega)
  refine va_sld hx hb hX hbl hbA hW.2.2.2.1 (vp_in_iff.mpr ⟨by omega, by omega⟩) dL_law_1025 ?_
  refine lv_topi (fun x_501 ex_501 => ?_)
  have hTo := hT
  refine hx_goi (hx_runVX (As := [.int x_501]) (rest := []) ⟨hx, hb, hml, hown, hts⟩ hW gx tt_9 (T := TX9) (N := 20) rfl (t_X9_gaol l dC dI dA L1 hl1 H.size b0 ax x_501 hT gx qc g_qc f_qc pf_qc) hZ (cwV 1 hts (hx_gV kw_926 kw_923 kw_924 kw_925 kw_94) rfl rfl rfl (by decide +kernel) ⟨Nat.le_of_ble_eq_true rfl, Nat.le_of_ble_eq_true rfl⟩) rfl hl.1 rfl (Nat.le_of_ble_eq_true rfl) dL_law_1026 ⟨(show CC + 0 ≤ 600000 from by omega), (show SS + 0 ≤ 7302250 from by omega)⟩) hW (fun r_504 L_502 h_503 H locs p_505 hW => ?_)
  obtain ⟨hr_506, hT, hs⟩ := p_505
  replace hT : hx_T T_tb L_502 h_503 := hT
  replace hs : hx_S T_tb [(2, 18)] L1 hl1 L_502 h_503 := hs
  replace f_qa := (hs.o gx trivial rfl).2.trans f_qa
  replace f_qp := (hs.o gx trivial rfl).2.trans f_qp
  replace f_qc := (hs.o gx trivial rfl).2.trans f_qc
  replace f_qh := (hs.o gx trivial rfl).2.trans f_qh
  replace f_qw := (hs.o gx trivial rfl).2.trans f_qw
  replace f_ql := (hs.o g_qw trivial rfl).2.trans f_ql
  replace f_m_now := (hs.o gm trivial rfl).1.trans f_m_now
  replace f_m_persons := (hs.o gm trivial rfl).1.trans f_m_persons
  replace f_m_claims := (hs.o gm trivial rfl).1.trans f_m_claims
  replace f_m_lines := (hs.o gm trivial rfl).1.trans f_m_lines
  replace f_m_listed := (hs.o gm trivial rfl).1.trans f_m_listed
  replace f_m_walkedMany := (hs.o gm trivial rfl).1.trans f_m_walkedMany
  replace f_m_acts := (hs.o gm trivial rfl).1.trans f_m_acts
  replace f_m_heardMany := (hs.o gm trivial rfl).1.trans f_m_heardMany
  replace f_x_now := (hs.o gx trivial rfl).1.trans f_x_now
  replace f_x_personCount := (hs.o gx trivial rfl).1.trans f_x_personCount
  replace f_x_claimCount := (hs.o gx trivial rfl).1.trans f_x_claimCount
  replace f_mw := (hs.o gm trivial rfl).2.trans f_mw
  replace f_mr := (hs.o gm trivial rfl).2.trans f_mr
  replace f_mp := (hs.o gm trivial rfl).2.trans f_mp
  replace f_mn := (hs.o gm trivial rfl).2.trans f_mn
  replace f_ml := (hs.o gm trivial rfl).2.trans f_ml
  replace f_mh := (hs.o gm trivial rfl).2.trans f_mh
  replace f_mt := (hs.o gm trivial rfl).2.trans f_mt
  replace f_m_fou := (hs.o gm trivial rfl).2.trans f_m_fou
  replace f_qo_ln := (hs.o gx trivial rfl).2.trans f_qo_ln
  replace f_o_ln := (hs.o g_qo_ln trivial rfl).1.trans f_o_ln
  replace f_o_lsd := (hs.o g_qw trivial rfl).1.trans f_o_lsd
  replace f_o_wkm := (hs.o g_qw trivial rfl).1.trans f_o_wkm
  replace f_b_of := (hs.o g_qo_ln trivial rfl).2.trans f_b_of
  replace f_m_of := (hs.o gm trivial rfl).2.trans f_m_of
  replace f_b_wf := (hs.o g_qo_ln trivial rfl).2.trans f_b_wf
  replace f_m_wf := (hs.o gm trivial rfl).2.trans f_m_wf
  replace f_b_df := (hs.o g_qo_ln trivial rfl).2.trans f_b_df
  replace f_m_df := (hs.o gm trivial rfl).2.trans f_m_df
  replace f_b_kf := (hs.o g_qo_ln trivial rfl).2.trans f_b_kf
  replace f_m_kf := (hs.o gm trivial rfl).2.trans f_m_kf
  replace f_b_sf := (hs.o g_qo_ln trivial rfl).2.trans f_b_sf
  replace f_m_sf := (hs.o gm trivial rfl).2.trans f_m_sf
  replace f_b_bf := (hs.o g_qo_ln trivial rfl).2.trans f_b_bf
  replace f_m_lst := (hs.o gm trivial rfl).2.trans f_m_lst
  replace f_m_dead := (hs.o gm trivial rfl).2.trans f_m_dead
  replace f_m_isj := (hs.o gm trivial rfl).2.trans f_m_isj
  replace f_m_dox := (hs.o gm trivial rfl).2.trans f_m_dox
  replace f_m_doy := (hs.o gm trivial rfl).2.trans f_m_doy
  replace f_qlt := (hs.o g_qw trivial rfl).2.trans f_qlt
  replace f_qlf := (hs.o g_qw trivial rfl).2.trans f_qlf
  replace f_m_wkd := (hs.o gm trivial rfl).2.trans f_m_wkd
  replace f_m_aga := (hs.o gm trivial rfl).2.trans f_m_aga
  replace pf_qa : ∀ j : Nat, (j : Int) < (h_503.2.1 ax 6).toInt → h_503.2.2 qa j ≠ none := by
    intro j hj; rw [(hs.o gx trivial rfl).1] at hj; rw [(hs.a g_qa rfl j).2]; exact pf_qa j hj
  replace pf_qp : ∀ j : Nat, (j : Int) < (h_503.2.1 ax 8).toInt → h_503.2.2 qp j ≠ none := by
    intro j hj; rw [(hs.o gx trivial rfl).1] at hj; rw [(hs.a g_qp rfl j).2]; exact pf_qp j hj
  replace pf_qc : ∀ j : Nat, (j : Int) < (h_503.2.1 ax 11).toInt → h_503.2.2 qc j ≠ none := by
    intro j hj; rw [(hs.o gx trivial rfl).1] at hj; rw [(hs.a g_qc rfl j).2]; exact pf_qc j hj
  replace pf_qh : ∀ j : Nat, (j : Int) < (h_503.2.1 ax 13).toInt → h_503.2.2 qh j ≠ none := by
    intro j hj; rw [(hs.o gx trivial rfl).1] at hj; rw [(hs.a g_qh rfl j).2]; exact pf_qh j hj
  replace pf_ql : ∀ j : Nat, (j : Int) < (h_503.2.1 qw 0).toInt → h_503.2.2 ql j ≠ none := by
    intro j hj; rw [(hs.o g_qw trivial rfl).1] at hj; rw [(hs.a g_ql rfl j).2]; exact pf_ql j hj
  replace cl_lst : hx_col 8 h_503 ql 0 = c_lst := (hx_col_S hs hTo g_ql tt_40 tt_2 rfl rfl).trans cl_lst
  replace cl_dead : hx_col 40 h_503 qp 7 = c_dead := (hx_col_S hs hTo g_qp tt_44 tt_4 rfl rfl).trans cl_dead
  replace cl_isj : hx_col 40 h_503 qp 8 = c_isj := (hx_col_S hs hTo g_qp tt_44 tt_4 rfl rfl).trans cl_isj
  replace cl_dox : hx_col 40 h_503 qp 5 = c_dox := (hx_col_S hs hTo g_qp tt_44 tt_4 rfl rfl).trans cl_dox
  replace cl_doy : hx_col 40 h_503 qp 6 = c_doy := (hx_col_S hs hTo g_qp tt_44 tt_4 rfl rfl).trans cl_doy
  replace cl_fou : hx_col 100 h_503 qc 10 = c_fou := (hx_col_S hs hTo g_qc tt_45 tt_2 rfl rfl).trans cl_fou
  replace cl_tri : hx_col 100 h_503 qc 9 = c_tri := (hx_col_S hs hTo g_qc tt_45 tt_2 rfl rfl).trans cl_tri
  replace nu_qp : hx_num 40 h_503 qp 0 (np.toInt) := hx_num_S hs hTo g_qp tt_44 tt_4 rfl rfl nu_qp
  replace nu_qc : hx_num 100 h_503 qc 0 (c0.toInt) := hx_num_S hs hTo g_qc tt_45 tt_2 rfl rfl nu_qc
  replace sb_list : hx_LQ 8 100 h_503 ql qc := hx_LQ_S hs g_ql g_qc rfl rfl sb_list
  replace hDF : hw_DF h_503 qc qp 2 F_aga c0.toInt := hw_DF_S hs hTo g_qc g_qp tt_45 tt_2 rfl rfl rfl hDF
  replace n_mw : h_503.2.1 mw = F_mw := (funext fun j => (hs.a g_mw rfl j).1).trans n_mw
  replace n_mr : h_503.2.1 mr = F_mr := (funext fun j => (hs.a g_mr rfl j).1).trans n_mr
  replace n_mp : h_503.2.1 mp = F_mp := (funext fun j => (hs.a g_mp rfl j).1).trans n_mp
  replace n_mn : h_503.2.1 mn = F_mn := (funext fun j => (hs.a g_mn rfl j).1).trans n_mn
  replace n_ml : h_503.2.1 ml = F_ml := (funext fun j => (hs.a g_ml rfl j).1).trans n_ml
  replace n_mh : h_503.2.1 mh = F_mh := (funext fun j => (hs.a g_mh rfl j).1).trans n_mh
  replace n_mt : h_503.2.1 mt = F_mt := (funext fun j => (hs.a g_mt rfl j).1).trans n_mt
  replace n_m_fou : h_503.2.1 m_fou = F_m_fou := (funext fun j => (hs.a g_m_fou rfl j).1).trans n_m_fou
  replace n_b_of : h_503.2.1 b_of = B_of := (funext fun j => (hs.a g_b_of rfl j).1).trans n_b_of
  replace n_m_of : h_503.2.1 m_of = F_of := (funext fun j => (hs.a g_m_of rfl j).1).trans n_m_of
  replace n_b_wf : h_503.2.1 b_wf = B_wf := (funext fun j => (hs.a g_b_wf rfl j).1).trans n_b_wf
  replace n_m_wf : h_503.2.1 m_wf = F_wf := (funext fun j => (hs.a g_m_wf rfl j).1).trans n_m_wf
  replace n_b_df : h_503.2.1 b_df = B_df := (funext fun j => (hs.a g_b_df rfl j).1).trans n_b_df
  replace n_m_df : h_503.2.1 m_df = F_df := (funext fun j => (hs.a g_m_df rfl j).1).trans n_m_df
  replace n_b_kf : h_503.2.1 b_kf = B_kf := (funext fun j => (hs.a g_b_kf rfl j).1).trans n_b_kf
  replace n_m_kf : h_503.2.1 m_kf = F_kf := (funext fun j => (hs.a g_m_kf rfl j).1).trans n_m_kf
  replace n_b_sf : h_503.2.1 b_sf = B_sf := (funext fun j => (hs.a g_b_sf rfl j).1).trans n_b_sf
  replace n_m_sf : h_503.2.1 m_sf = F_sf := (funext fun j => (hs.a g_m_sf rfl j).1).trans n_m_sf
  replace n_b_bf : h_503.2.1 b_bf = bfL := (funext fun j => (hs.a g_b_bf rfl j).1).trans n_b_bf
  replace n_lst : h_503.2.1 m_lst = F_lst := (funext fun j => (hs.a g_m_lst rfl j).1).trans n_lst
  replace n_dead : h_503.2.1 m_dead = F_dead := (funext fun j => (hs.a g_m_dead rfl j).1).trans n_dead
  replace n_isj : h_503.2.1 m_isj = F_isj := (funext fun j => (hs.a g_m_isj rfl j).1).trans n_isj
  replace n_dox : h_503.2.1 m_dox = F_dox := (funext fun j => (hs.a g_m_dox rfl j).1).trans n_dox
  replace n_doy : h_503.2.1 m_doy = F_doy := (funext fun j => (hs.a g_m_doy rfl j).1).trans n_doy
  replace n_qlt : h_503.2.1 qlt = F_qlt := (funext fun j => (hs.a g_qlt rfl j).1).trans n_qlt
  replace n_m_wkd : h_503.2.1 m_wkd = F_m_wkd := (funext fun j => (hs.a g_m_wkd rfl j).1).trans n_m_wkd
  replace n_aga : h_503.2.1 m_aga = F_aga := (funext fun j => (hs.a g_m_aga rfl j).1).trans n_aga
  replace gx := gx.S hs
  replace gm := gm.S hs
  replace g_qa := g_qa.S hs
  replace g_qp := g_qp.S hs
  replace g_qc := g_qc.S hs
  replace g_qh := g_qh.S hs
  replace g_qw := g_qw.S hs
  replace g_ql := g_ql.S hs
  replace g_mw := g_mw.S hs
  replace g_mr := g_mr.S hs
  replace g_mp := g_mp.S hs
  replace g_mn := g_mn.S hs
  replace g_ml := g_ml.S hs
  replace g_mh := g_mh.S hs
  replace g_mt := g_mt.S hs
  replace g_m_fou := g_m_fou.S hs
  replace g_qo_ln := g_qo_ln.S hs
  replace g_b_of := g_b_of.S hs
  replace g_m_of := g_m_of.S hs
  replace g_b_wf := g_b_wf.S hs
  replace g_m_wf := g_m_wf.S hs
  replace g_b_df := g_b_df.S hs
  replace g_m_df := g_m_df.S hs
  replace g_b_kf := g_b_kf.S hs
  replace g_m_kf := g_m_kf.S hs
  replace g_b_sf := g_b_sf.S hs
  replace g_m_sf := g_m_sf.S hs
  replace g_b_bf := g_b_bf.S hs
  replace g_m_lst := g_m_lst.S hs
  replace g_m_dead := g_m_dead.S hs
  replace g_m_isj := g_m_isj.S hs
  replace g_m_dox := g_m_dox.S hs
  replace g_m_doy := g_m_doy.S hs
  replace g_qlt := g_qlt.S hs
  replace g_qlf := g_qlf.S hs
  replace g_m_wkd := g_m_wkd.S hs
  replace g_m_aga := g_m_aga.S hs
  refine lv_pop hx hb dL_law_1029 rfl ?_
  refine lv_aload_n hx hb dL_law_1030 rfl (lv_at hl 1 rfl) ?_
  refine lv_aload_n hx hb dL_law_1031 rfl (lv_at hl 3 rfl) ?_
  refine lv_iload_n hx hb dL_law_1032 rfl (lv_at hl 0 rfl) ?_
  refine lv_iconst (v := 1) hx hb dL_law_1033 (by decide) ?_
  refine lv_iadd hx hb dL_law_1034 ?_
  refine lv_topi (fun x_507 ex_507 => ?_)
  have zx_507 : x_507.toInt = i.toInt + 1 := by rw [ex_507]; exact i32_add rfl (by decide) (by omega) (by omega)
  obtain rfl : x_500 = x_507 := ex_500.trans ex_507.symm
  refine va_sld hx hb hX hbl hbA hW.2.2.2.1 (vp_in_iff.mpr ⟨by omega, by omega⟩) dL_law_1035 ?_
  refine lv_topi (fun x_508 ex_508 => ?_)
  obtain rfl : x_501 = x_508 := ex_501.trans ex_508.symm
  have hTo := hT
  refine hx_goi (hx_runV (As := [.int x_501]) (rest := []) ⟨hx, hb, hml, hown, hts⟩ hW gm tt_10 (T := TX10) (N := 98) rfl (t_X10_gaol l dC dI dA L_502 h_503 H.size am x_501 hT gm) (cwV 1 hts (hx_gV kw_1665 kw_1662 kw_1663 kw_1664 kw_103) rfl rfl rfl (by decide +kernel) ⟨Nat.le_of_ble_eq_true rfl, Nat.le_of_ble_eq_true rfl⟩) rfl hl.1 rfl (Nat.le_of_ble_eq_true rfl) dL_law_1036 ⟨(show CC + 0 + 0 ≤ 600000 from by omega), (show SS + 0 + 0 ≤ 7302250 from by omega)⟩) hW (fun r_511 L_509 h_510 H locs p_512 hW => ?_)
  obtain ⟨hr_513, hT, hs⟩ := p_512
  replace hT : hx_T T_tb L_509 h_510 := hT
  replace hs : hx_S T_tb [(10, 67), (10, 68), (10, 69), (10, 70), (10, 71), (85, 0)] L_502 h_503 L_509 h_510 := hs
  replace f_qa := (hs.o gx trivial rfl).2.trans f_qa
  replace f_qp := (hs.o gx trivial rfl).2.trans f_qp
  replace f_qc := (hs.o gx trivial rfl).2.trans f_qc
  replace f_qh := (hs.o gx trivial rfl).2.trans f_qh
  replace f_qw := (hs.o gx trivial rfl).2.trans f_qw
  replace f_ql := (hs.o g_qw trivial rfl).2.trans f_ql
  replace f_m_now := (hs.o gm trivial rfl).1.trans f_m_now
  replace f_m_persons := (hs.o gm trivial rfl).1.trans f_m_persons
  replace f_m_claims := (hs.o gm trivial rfl).1.trans f_m_claims
  replace f_m_lines := (hs.o gm trivial rfl).1.trans f_m_lines
  replace f_m_listed := (hs.o gm trivial rfl).1.trans f_m_listed
  replace f_m_walkedMany := (hs.o gm trivial rfl).1.trans f_m_walkedMany
  replace f_m_acts := (hs.o gm trivial rfl).1.trans f_m_acts
  replace f_m_heardMany := (hs.o gm trivial rfl).1.trans f_m_heardMany
  replace f_x_now := (hs.o gx trivial rfl).1.trans f_x_now
  replace f_x_personCount := (hs.o gx trivial rfl).1.trans f_x_personCount
  replace f_x_claimCount := (hs.o gx trivial rfl).1.trans f_x_claimCount
  replace f_mw := (hs.o gm trivial rfl).2.trans f_mw
  replace f_mr := (hs.o gm trivial rfl).2.trans f_mr
  replace f_mp := (hs.o gm trivial rfl).2.trans f_mp
  replace f_mn := (hs.o gm trivial rfl).2.trans f_mn
  replace f_ml := (hs.o gm trivial rfl).2.trans f_ml
  replace f_mh := (hs.o gm trivial rfl).2.trans f_mh
  replace f_mt := (hs.o gm trivial rfl).2.trans f_mt
  replace f_m_fou := (hs.o gm trivial rfl).2.trans f_m_fou
  replace f_qo_ln := (hs.o gx trivial rfl).2.trans f_qo_ln
  replace f_o_ln := (hs.o g_qo_ln trivial rfl).1.trans f_o_ln
  replace f_o_lsd := (hs.o g_qw trivial rfl).1.trans f_o_lsd
  replace f_o_wkm := (hs.o g_qw trivial rfl).1.trans f_o_wkm
  replace f_b_of := (hs.o g_qo_ln trivial rfl).2.trans f_b_of
  replace f_m_of := (hs.o gm trivial rfl).2.trans f_m_of
  replace f_b_wf := (hs.o g_qo_ln trivial rfl).2.trans f_b_wf
  replace f_m_wf := (hs.o gm trivial rfl).2.trans f_m_wf
  replace f_b_df := (hs.o g_qo_ln trivial rfl).2.trans f_b_df
  replace f_m_df := (hs.o gm trivial rfl).2.trans f_m_df
  replace f_b_kf := (hs.o g_qo_ln trivial rfl).2.trans f_b_kf
  replace f_m_kf := (hs.o gm trivial rfl).2.trans f_m_kf
  replace f_b_sf := (hs.o g_qo_ln trivial rfl).2.trans f_b_sf
  replace f_m_sf := (hs.o gm trivial rfl).2.trans f_m_sf
  replace f_b_bf := (hs.o g_qo_ln trivial rfl).2.trans f_b_bf
  replace f_m_lst := (hs.o gm trivial rfl).2.trans f_m_lst
  replace f_m_dead := (hs.o gm trivial rfl).2.trans f_m_dead
  replace f_m_isj := (hs.o gm trivial rfl).2.trans f_m_isj
  replace f_m_dox := (hs.o gm trivial rfl).2.trans f_m_dox
  replace f_m_doy := (hs.o gm trivial rfl).2.trans f_m_doy
  replace f_qlt := (hs.o g_qw trivial rfl).2.trans f_qlt
  replace f_qlf := (hs.o g_qw trivial rfl).2.trans f_qlf
  replace f_m_wkd := (hs.o gm trivial rfl).2.trans f_m_wkd
  replace f_m_aga := (hs.o gm trivial rfl).2.trans f_m_aga
  replace pf_qa : ∀ j : Nat, (j : Int) < (h_510.2.1 ax 6).toInt → h_510.2.2 qa j ≠ none := by
    intro j hj; rw [(hs.o gx trivial rfl).1] at hj; rw [(hs.a g_qa rfl j).2]; exact pf_qa j hj
  replace pf_qp : ∀ j : Nat, (j : Int) < (h_510.2.1 ax 8).toInt → h_510.2.2 qp j ≠ none := by
    intro j hj; rw [(hs.o gx trivial rfl).1] at hj; rw [(hs.a g_qp rfl j).2]; exact pf_qp j hj
  replace pf_qc : ∀ j : Nat, (j : Int) < (h_510.2.1 ax 11).toInt → h_510.2.2 qc j ≠ none := by
    intro j hj; rw [(hs.o gx trivial rfl).1] at hj; rw [(hs.a g_qc rfl j).2]; exact pf_qc j hj
  replace pf_qh : ∀ j : Nat, (j : Int) < (h_510.2.1 ax 13).toInt → h_510.2.2 qh j ≠ none := by
    intro j hj; rw [(hs.o gx trivial rfl).1] at hj; rw [(hs.a g_qh rfl j).2]; exact pf_qh j hj
  replace pf_ql : ∀ j : Nat, (j : Int) < (h_510.2.1 qw 0).toInt → h_510.2.2 ql j ≠ none := by
    intro j hj; rw [(hs.o g_qw trivial rfl).1] at hj; rw [(hs.a g_ql rfl j).2]; exact pf_ql j hj
  replace cl_lst : hx_col 8 h_510 ql 0 = c_lst := (hx_col_S hs hTo g_ql tt_40 tt_2 rfl rfl).trans cl_lst
  replace cl_dead : hx_col 40 h_510 qp 7 = c_dead := (hx_col_S hs hTo g_qp tt_44 tt_4 rfl rfl).trans cl_dead
  replace cl_isj : hx_col 40 h_510 qp 8 = c_isj := (hx_col_S hs hTo g_qp tt_44 tt_4 rfl rfl).trans cl_isj
  replace cl_dox : hx_col 40 h_510 qp 5 = c_dox := (hx_col_S hs hTo g_qp tt_44 tt_4 rfl rfl).trans cl_dox
  replace cl_doy : hx_col 40 h_510 qp 6 = c_doy := (hx_col_S hs hTo g_qp tt_44 tt_4 rfl rfl).trans cl_doy
  replace cl_fou : hx_col 100 h_510 qc 10 = c_fou := (hx_col_S hs hTo g_qc tt_45 tt_2 rfl rfl).trans cl_fou
  replace cl_tri : hx_col 100 h_510 qc 9 = c_tri := (hx_col_S hs hTo g_qc tt_45 tt_2 rfl rfl).trans cl_tri
  replace nu_qp : hx_num 40 h_510 qp 0 (np.toInt) := hx_num_S hs hTo g_qp tt_44 tt_4 rfl rfl nu_qp
  replace nu_qc : hx_num 100 h_510 qc 0 (c0.toInt) := hx_num_S hs hTo g_qc tt_45 tt_2 rfl rfl nu_qc
  replace sb_list : hx_LQ 8 100 h_510 ql qc := hx_LQ_S hs g_ql g_qc rfl rfl sb_list
  replace hDF : hw_DF h_510 qc qp 2 F_aga c0.toInt := hw_DF_S hs hTo g_qc g_qp tt_45 tt_2 rfl rfl rfl hDF
  replace n_mw : h_510.2.1 mw = F_mw := (funext fun j => (hs.a g_mw rfl j).1).trans n_mw
  replace n_mr : h_510.2.1 mr = F_mr := (funext fun j => (hs.a g_mr rfl j).1).trans n_mr
  replace n_mp : h_510.2.1 mp = F_mp := (funext fun j => (hs.a g_mp rfl j).1).trans n_mp
  replace n_mn : h_510.2.1 mn = F_mn := (funext fun j => (hs.a g_mn rfl j).1).trans n_mn
  replace n_ml : h_510.2.1 ml = F_ml := (funext fun j => (hs.a g_ml rfl j).1).trans n_ml
  replace n_mh : h_510.2.1 mh = F_mh := (funext fun j => (hs.a g_mh rfl j).1).trans n_mh
  replace n_mt : h_510.2.1 mt = F_mt := (funext fun j => (hs.a g_mt rfl j).1).trans n_mt
  replace n_m_fou : h_510.2.1 m_fou = F_m_fou := (funext fun j => (hs.a g_m_fou rfl j).1).trans n_m_fou
  replace n_b_of : h_510.2.1 b_of = B_of := (funext fun j => (hs.a g_b_of rfl j).1).trans n_b_of
  replace n_m_of : h_510.2.1 m_of = F_of := (funext fun j => (hs.a g_m_of rfl j).1).trans n_m_of
  replace n_b_wf : h_510.2.1 b_wf = B_wf := (funext fun j => (hs.a g_b_wf rfl j).1).trans n_b_wf
  replace n_m_wf : h_510.2.1 m_wf = F_wf := (funext fun j => (hs.a g_m_wf rfl j).1).trans n_m_wf
  replace n_b_df : h_510.2.1 b_df = B_df := (funext fun j => (hs.a g_b_df rfl j).1).trans n_b_df
  replace n_m_df : h_510.2.1 m_df = F_df := (funext fun j => (hs.a g_m_df rfl j).1).trans n_m_df
  replace n_b_kf : h_510.2.1 b_kf = B_kf := (funext fun j => (hs.a g_b_kf rfl j).1).trans n_b_kf
  replace n_m_kf : h_510.2.1 m_kf = F_kf := (funext fun j => (hs.a g_m_kf rfl j).1).trans n_m_kf
  replace n_b_sf : h_510.2.1 b_sf = B_sf := (funext fun j => (hs.a g_b_sf rfl j).1).trans n_b_sf
  replace n_m_sf : h_510.2.1 m_sf = F_sf := (funext fun j => (hs.a g_m_sf rfl j).1).trans n_m_sf
  replace n_b_bf : h_510.2.1 b_bf = bfL := (funext fun j => (hs.a g_b_bf rfl j).1).trans n_b_bf
  replace n_lst : h_510.2.1 m_lst = F_lst := (funext fun j => (hs.a g_m_lst rfl j).1).trans n_lst
  replace n_dead : h_510.2.1 m_dead = F_dead := (funext fun j => (hs.a g_m_dead rfl j).1).trans n_dead
  replace n_isj : h_510.2.1 m_isj = F_isj := (funext fun j => (hs.a g_m_isj rfl j).1).trans n_isj
  replace n_dox : h_510.2.1 m_dox = F_dox := (funext fun j => (hs.a g_m_dox rfl j).1).trans n_dox
  replace n_doy : h_510.2.1 m_doy = F_doy := (funext fun j => (hs.a g_m_doy rfl j).1).trans n_doy
  replace n_qlt : h_510.2.1 qlt = F_qlt := (funext fun j => (hs.a g_qlt rfl j).1).trans n_qlt
  replace n_m_wkd : h_510.2.1 m_wkd = F_m_wkd := (funext fun j => (hs.a g_m_wkd rfl j).1).trans n_m_wkd
  replace n_aga : h_510.2.1 m_aga = F_aga := (funext fun j => (hs.a g_m_aga rfl j).1).trans n_aga
  replace gx := gx.S hs
  replace gm := gm.S hs
  replace g_qa := g_qa.S hs
  replace g_qp := g_qp.S hs
  replace g_qc := g_qc.S hs
  replace g_qh := g_qh.S hs
  replace g_qw := g_qw.S hs
  replace g_ql := g_ql.S hs
  replace g_mw := g_mw.S hs
  replace g_mr := g_mr.S hs
  replace g_mp := g_mp.S hs
  replace g_mn := g_mn.S hs
  replace g_ml := g_ml.S hs
  replace g_mh := g_mh.S hs
  replace g_mt := g_mt.S hs
  replace g_m_fou := g_m_fou.S hs
  replace g_qo_ln := g_qo_ln.S hs
  replace g_b_of := g_b_of.S hs
  replace g_m_of := g_m_of.S hs
  replace g_b_wf := g_b_wf.S hs
  replace g_m_wf := g_m_wf.S hs
  replace g_b_df := g_b_df.S hs
  replace g_m_df := g_m_df.S hs
  replace g_b_kf := g_b_kf.S hs
  replace g_m_kf := g_m_kf.S hs
  replace g_b_sf := g_b_sf.S hs
  replace g_m_sf := g_m_sf.S hs
  replace g_b_bf := g_b_bf.S hs
  replace g_m_lst := g_m_lst.S hs
  replace g_m_dead := g_m_dead.S hs
  replace g_m_isj := g_m_isj.S hs
  replace g_m_dox := g_m_dox.S hs
  replace g_m_doy := g_m_doy.S hs
  replace g_qlt := g_qlt.S hs
  replace g_qlf := g_qlf.S hs
  replace g_m_wkd := g_m_wkd.S hs
  replace g_m_aga := g_m_aga.S hs
  refine lv_pop hx hb dL_law_1039 rfl ?_
  refine lv_goto (tgt := 1379) hx hb dL_law_1040 (by decide) ?_
  refine W.widen (k := CC + 3) (n := SS + 179) (by omega) (by omega) ?_
  exact kk L_509 h_510 H locs ls hW ⟨hT, gx, gm, ⟨f_x_now.trans f_m_now.symm, f_x_personCount.trans f_m_persons.symm, f_x_claimCount.trans f_m_claims.symm, hx_ob f_qo_ln (f_o_ln.trans f_m_lines.symm), hx_ob f_qw (f_o_lsd.trans f_m_listed.symm), hx_ob f_qw (f_o_wkm.trans f_m_walkedMany.symm), hx_ob f_qp (by rw [f_x_personCount]; exact nu_qp), hx_ob f_qc (by rw [f_x_claimCount]; exact nu_qc), (fun b a r hb ha hr => by obtain rfl : qo_ln = b := Option.some.inj (f_qo_ln.symm.trans hb); obtain rfl : b_of = a := Option.some.inj (f_b_of.symm.trans ha); obtain rfl : m_of = r := Option.some.inj (f_m_of.symm.trans hr); rw [n_b_of, n_m_of, f_o_ln]; exact eb_of), (fun b a r hb ha hr => by obtain rfl : qo_ln = b := Option.some.inj (f_qo_ln.symm.trans hb); obtain rfl : b_wf = a := Option.some.inj (f_b_wf.symm.trans ha); obtain rfl : m_wf = r := Option.some.inj (f_m_wf.symm.trans hr); rw [n_b_wf, n_m_wf, f_o_ln]; exact eb_wf), (fun b a r hb ha hr => by obtain rfl : qo_ln = b := Option.some.inj (f_qo_ln.symm.trans hb); obtain rfl : b_df = a := Option.some.inj (f_b_df.symm.trans ha); obtain rfl : m_df = r := Option.some.inj (f_m_df.symm.trans hr); rw [n_b_df, n_m_df, f_o_ln]; exact eb_df), (fun b a r hb ha hr => by obtain rfl : qo_ln = b := Option.some.inj (f_qo_ln.symm.trans hb); obtain rfl : b_kf = a := Option.some.inj (f_b_kf.symm.trans ha); obtain rfl : m_kf = r := Option.some.inj (f_m_kf.symm.trans hr); rw [n_b_kf, n_m_kf, f_o_ln]; exact eb_kf), (fun b a r hb ha hr => by obtain rfl : qo_ln = b := Option.some.inj (f_qo_ln.symm.trans hb); obtain rfl : b_sf = a := Option.some.inj (f_b_sf.symm.trans ha); obtain rfl : m_sf = r := Option.some.inj (f_m_sf.symm.trans hr); rw [n_b_sf, n_m_sf, f_o_ln]; exact eb_sf), (fun b a r hb ha hr => by obtain rfl : qo_ln = b := Option.some.inj (f_qo_ln.symm.trans hb); obtain rfl : b_df = a := Option.some.inj (f_b_df.symm.trans ha); obtain rfl : b_bf = r := Option.some.inj (f_b_bf.symm.trans hr); rw [n_b_df, n_b_bf, f_o_ln]; exact ⟨hBD, hDY⟩), (fun w q c hw hq hc => by obtain rfl : qw = w := Option.some.inj (f_qw.symm.trans hw); obtain rfl : ql = q := Option.some.inj (f_ql.symm.trans hq); obtain rfl : qc = c := Option.some.inj (f_qc.symm.trans hc); exact sb_list), (fun w q r hw hq hr => by obtain rfl : qw = w := Option.some.inj (f_qw.symm.trans hw); obtain rfl : ql = q := Option.some.inj (f_ql.symm.trans hq); obtain rfl : m_lst = r := Option.some.inj (f_m_lst.symm.trans hr); rw [cl_lst, n_lst]; exact eq_lst), (fun w q r hw hq hr => by obtain rfl : qw = w := Option.some.inj (f_qw.symm.trans hw); obtain rfl : qlt = q := Option.some.inj (f_qlt.symm.trans hq); obtain rfl : m_wkd = r := Option.some.inj (f_m_wkd.symm.trans hr); rw [n_qlt, n_m_wkd, f_o_wkm]; exact eb_wkd), (fun c q a hc hq ha => by obtain rfl : qc = c := Option.some.inj (f_qc.symm.trans hc); obtain rfl : qp = q := Option.some.inj (f_qp.symm.trans hq); obtain rfl : m_aga = a := Option.some.inj (f_m_aga.symm.trans ha); rw [n_aga, f_x_claimCount]; exact hw_DF_e hDF rfl rfl), hx_ob2 f_qp f_m_dead (by rw [cl_dead, n_dead]; exact eq_dead), hx_ob2 f_qp f_m_isj (by rw [cl_isj, n_isj]; exact eq_isj), hx_ob2 f_qp f_m_dox (by rw [cl_dox, n_dox]; exact eq_dox), hx_ob2 f_qp f_m_doy (by rw [cl_doy, n_doy]; exact eq_doy), hx_ob2 f_qc f_m_fou (by rw [cl_fou, n_m_fou]; exact eq_fou), hx_ob2 f_qc f_mt (by rw [cl_tri, n_mt]; exact eq_tri), trivial⟩, ⟨hx_ob f_qa pf_qa, hx_ob f_qp pf_qp, hx_ob f_qc pf_qc, hx_ob f_qh pf_qh, (fun w q hw hq => by obtain rfl : qw = w := Option.some.inj (f_qw.symm.trans hw); obtain rfl : ql = q := Option.some.inj (f_ql.symm.trans hq); exact pf_ql)⟩, ⟨hx_ob f_mw (by rw [n_mw]; exact hwd), hx_ob f_mr (by rw [n_mr, f_m_acts]; exact hWK), hx_ob2 f_mp f_mn (by rw [n_mp, n_mn, f_m_acts]; exact hRP), hx_ob f_ml (by rw [n_ml, f_m_claims, f_m_acts]; exact hPL), hx_ob f_mh (by rw [n_mh, f_m_heardMany, f_m_claims]; exact hHC), hx_ob f_mt (by rw [n_mt]; exact (hx_TR_le hTR (by omega))), hx_ob2 f_mh f_m_fou (by rw [n_mh, n_m_fou, f_m_claims]; exact hHF)⟩⟩ hl

set_option maxHeartbeats 4000000 in
set_option maxRecDepth 100000 in
theorem law_case_19 {p : Program} {e : Env} {s : State} {m : MethodId} {below : List Frame} {meth : Method} {c : Code} (l : Launch) {b LN : Nat} {xs : Nat → Int32} (hx : p.tables.exec = Jvm.exec) (hb : c.code = code) (hr : meth.sig.returnType = ret) (hlocks : meth.locks = false) (hml : c.maxLocals = 4) (hown : s.vm.findClass "SmallCourtLaw" = some m.cls) (hts : ∀ w ∈ hx_all, w.before #[Value.ref b] s = true) (hX : va_X b LN xs s s.heap) (hbl : b < s.heap.size) (hbA : ¬ s.heap.size ≤ b) (hLN : LN ≤ 3584) (dC : Nat → ClassId) (dI : Nat → Nat → Nat) (dA : Nat → ClassId) (b0 : hx_z) (ax am : Nat) (T1 : Int) (hT0 : 0 ≤ T1) (hT1 : T1 ≤ 511) (i : Int32) (hi0 : 0 ≤ i.toInt) (hiL : i.toInt + 7 ≤ LN) (CC SS : Nat) (hCC : CC + 3 ≤ 600000) (hSS : SS + 179 ≤ 7302250) (L1 : List Nat) (hl1 : hx_h) (H : Heap) (locs : List Loc) (ls : Array Slot) (hW : hx_W T_tb (P_ty dA) (dC, dI) vwCl (fun q : Nat => s.heap.size ≤ q) s.heap L1 hl1 s H locs) (hZ : hx_Xt (fun q : Nat => s.heap.size ≤ q) b0 s) (hI : hx_IV T1 ax am L1 hl1) (hl : lv_has ls 4 [(3, .int i), (2, .ref am), (1, .ref ax), (0, .ref b)]) (kk : ∀ (L2 : List Nat) (h2 : hx_h) (H2 : Heap) (locs2 : List Loc) (ls2 : Array Slot), hx_W T_tb (P_ty dA) (dC, dI) vwCl (fun q : Nat => s.heap.size ≤ q) s.heap L2 h2 s H2 locs2 → hx_IV (T1 + 1) ax am L2 h2 → lv_has ls2 4 [(3, .int i), (2, .ref am), (1, .ref ax), (0, .ref b)] → W p l e room_1 s m #[Value.ref b] below meth c H2 locs2 (CC + 3) (SS + 179) (lw_Z below #[Value.ref b] s) (F0 m 1379 ls2 [])) : W p l e room_1 s m #[Value.ref b] below meth c H locs CC SS (lw_Z below #[Value.ref b] s) (F0 m 1043 ls []) := by
  obtain ⟨hT, gx, gm, ⟨he_nw, he_np, he_c0, ho_ln, ho_lsd, ho_wkm, hn_qp, hn_qc, hk_of, hk_wf, hk_df, hk_kf, hk_sf, hkBD, hLQ, hLE, hkWD, hkDF, hc_dead, hc_isj, hc_dox, hc_doy, hc_fou, hc_tri, -⟩, ⟨ia, ip, ic, ih, il⟩, ⟨jw, jr, jp, jl, jh, jt, jf⟩⟩ := hI
  obtain ⟨qa, f_qa, g_qa⟩ := hx_rf hT gx tt_9 (k := 5) (u := 43) rfl
  have pf_qa := ia qa f_qa
  obtain ⟨qp, f_qp, g_qp⟩ := hx_rf hT gx tt_9 (k := 7) (u := 44) rfl
  have pf_qp := ip qp f_qp
  obtain ⟨qc, f_qc, g_qc⟩ := hx_rf hT gx tt_9 (k := 10) (u := 45) rfl
  have pf_qc := ic qc f_qc
  obtain ⟨qh, f_qh, g_qh⟩ := hx_rf hT gx tt_9 (k := 12) (u := 46) rfl
  have pf_qh := ih qh f_qh
  obtain ⟨qw, f_qw, g_qw⟩ := hx_rf hT gx tt_9 (k := 19) (u := 8) rfl
  obtain ⟨ql, f_ql, g_ql⟩ := hx_rf hT g_qw tt_8 (k := 3) (u := 40) rfl
  have pf_ql := il qw ql f_qw f_ql
  obtain ⟨nw, f_m_now⟩ : ∃ y : Int32, hl1.2.1 am 0 = y := ⟨_, rfl⟩
  have b_nw := hT.gi gm tt_10 (k := 0) rfl
  rw [f_m_now] at b_nw
  have b_nw : 0 ≤ nw.toInt ∧ nw.toInt ≤ 7999 := b_nw
  obtain ⟨np, f_m_persons⟩ : ∃ y : Int32, hl1.2.1 am 20 = y := ⟨_, rfl⟩
  have b_np := hT.gi gm tt_10 (k := 20) rfl
  rw [f_m_persons] at b_np
  have b_np : 0 ≤ np.toInt ∧ np.toInt ≤ 40 := b_np
  obtain ⟨c0, f_m_claims⟩ : ∃ y : Int32, hl1.2.1 am 36 = y := ⟨_, rfl⟩
  have b_c0 := hT.gi gm tt_10 (k := 36) rfl
  rw [f_m_claims] at b_c0
  have b_c0 : 0 ≤ c0.toInt ∧ c0.toInt ≤ 100 := b_c0
  obtain ⟨ln, f_m_lines⟩ : ∃ y : Int32, hl1.2.1 am 29 = y := ⟨_, rfl⟩
  have b_ln := hT.gi gm tt_10 (k := 29) rfl
  rw [f_m_lines] at b_ln
  have b_ln : 0 ≤ ln.toInt ∧ ln.toInt ≤ 400 := b_ln
  obtain ⟨lsd, f_m_listed⟩ : ∃ y : Int32, hl1.2.1 am 90 = y := ⟨_, rfl⟩
  have b_lsd := hT.gi gm tt_10 (k := 90) rfl
  rw [f_m_listed] at b_lsd
  have b_lsd : 0 ≤ lsd.toInt ∧ lsd.toInt ≤ 8 := b_lsd
  obtain ⟨wkm, f_m_walkedMany⟩ : ∃ y : Int32, hl1.2.1 am 92 = y := ⟨_, rfl⟩
  have b_wkm := hT.gi gm tt_10 (k := 92) rfl
  rw [f_m_walkedMany] at b_wkm
  have b_wkm : 0 ≤ wkm.toInt ∧ wkm.toInt ≤ 8 := b_wkm
  obtain ⟨a0, f_m_acts⟩ : ∃ y : Int32, hl1.2.1 am 1 = y := ⟨_, rfl⟩
  have b_a0 := hT.gi gm tt_10 (k := 1) rfl
  rw [f_m_acts] at b_a0
  have b_a0 : 0 ≤ a0.toInt ∧ a0.toInt ≤ 8 := b_a0
  obtain ⟨m0, f_m_heardMany⟩ : ∃ y : Int32, hl1.2.1 am 57 = y := ⟨_, rfl⟩
  have b_m0 := hT.gi gm tt_10 (k := 57) rfl
  rw [f_m_heardMany] at b_m0
  have b_m0 : 0 ≤ m0.toInt ∧ m0.toInt ≤ 100 := b_m0
  have f_x_now : hl1.2.1 ax 2 = nw := he_nw.trans f_m_now
  have f_x_personCount : hl1.2.1 ax 8 = np := he_np.trans f_m_persons
  have f_x_claimCount : hl1.2.1 ax 11 = c0 := he_c0.trans f_m_claims
  obtain ⟨mw, f_mw, g_mw⟩ := hx_rf hT gm tt_10 (k := 19) (u := 57) rfl
  obtain ⟨F_mw, n_mw⟩ : ∃ g : Nat → Int32, hl1.2.1 mw = g := ⟨_, rfl⟩
  obtain ⟨mr, f_mr, g_mr⟩ := hx_rf hT gm tt_10 (k := 3) (u := 50) rfl
  obtain ⟨F_mr, n_mr⟩ : ∃ g : Nat → Int32, hl1.2.1 mr = g := ⟨_, rfl⟩
  obtain ⟨mp, f_mp, g_mp⟩ := hx_rf hT gm tt_10 (k := 5) (u := 52) rfl
  obtain ⟨F_mp, n_mp⟩ : ∃ g : Nat → Int32, hl1.2.1 mp = g := ⟨_, rfl⟩
  obtain ⟨mn, f_mn, g_mn⟩ := hx_rf hT gm tt_10 (k := 4) (u := 51) rfl
  obtain ⟨F_mn, n_mn⟩ : ∃ g : Nat → Int32, hl1.2.1 mn = g := ⟨_, rfl⟩
  obtain ⟨ml, f_ml, g_ml⟩ := hx_rf hT gm tt_10 (k := 44) (u := 79) rfl
  obtain ⟨F_ml, n_ml⟩ : ∃ g : Nat → Int32, hl1.2.1 ml = g := ⟨_, rfl⟩
  obtain ⟨mh, f_mh, g_mh⟩ := hx_rf hT gm tt_10 (k := 47) (u := 82) rfl
  obtain ⟨F_mh, n_mh⟩ : ∃ g : Nat → Int32, hl1.2.1 mh = g := ⟨_, rfl⟩
  obtain ⟨mt, f_mt, g_mt⟩ := hx_rf hT gm tt_10 (k := 45) (u := 80) rfl
  obtain ⟨F_mt, n_mt⟩ : ∃ g : Nat → Int32, hl1.2.1 mt = g := ⟨_, rfl⟩
  obtain ⟨m_fou, f_m_fou, g_m_fou⟩ := hx_rf hT gm tt_10 (k := 46) (u := 81) rfl
  obtain ⟨F_m_fou, n_m_fou⟩ : ∃ g : Nat → Int32, hl1.2.1 m_fou = g := ⟨_, rfl⟩
  obtain ⟨qo_ln, f_qo_ln, g_qo_ln⟩ := hx_rf hT gx tt_9 (k := 9) (u := 1) rfl
  have f_o_ln : hl1.2.1 qo_ln 0 = ln := (ho_ln qo_ln f_qo_ln).trans f_m_lines
  have f_o_lsd : hl1.2.1 qw 0 = lsd := (ho_lsd qw f_qw).trans f_m_listed
  have f_o_wkm : hl1.2.1 qw 1 = wkm := (ho_wkm qw f_qw).trans f_m_walkedMany
  have nu_qp := hn_qp qp f_qp; rw [f_x_personCount] at nu_qp
  have nu_qc := hn_qc qc f_qc; rw [f_x_claimCount] at nu_qc
  obtain ⟨b_of, f_b_of, g_b_of⟩ := hx_rf hT g_qo_ln tt_1 (k := 1) (u := 13) rfl
  obtain ⟨B_of, n_b_of⟩ : ∃ g : Nat → Int32, hl1.2.1 b_of = g := ⟨_, rfl⟩
  obtain ⟨m_of, f_m_of, g_m_of⟩ := hx_rf hT gm tt_10 (k := 30) (u := 66) rfl
  obtain ⟨F_of, n_m_of⟩ : ∃ g : Nat → Int32, hl1.2.1 m_of = g := ⟨_, rfl⟩
  have eb_of := hk_of qo_ln b_of m_of f_qo_ln f_b_of f_m_of; rw [n_b_of, n_m_of, f_o_ln] at eb_of
  obtain ⟨b_wf, f_b_wf, g_b_wf⟩ := hx_rf hT g_qo_ln tt_1 (k := 2) (u := 14) rfl
  obtain ⟨B_wf, n_b_wf⟩ : ∃ g : Nat → Int32, hl1.2.1 b_wf = g := ⟨_, rfl⟩
  obtain ⟨m_wf, f_m_wf, g_m_wf⟩ := hx_rf hT gm tt_10 (k := 31) (u := 67) rfl
  obtain ⟨F_wf, n_m_wf⟩ : ∃ g : Nat → Int32, hl1.2.1 m_wf = g := ⟨_, rfl⟩
  have eb_wf := hk_wf qo_ln b_wf m_wf f_qo_ln f_b_wf f_m_wf; rw [n_b_wf, n_m_wf, f_o_ln] at eb_wf
  obtain ⟨b_df, f_b_df, g_b_df⟩ := hx_rf hT g_qo_ln tt_1 (k := 3) (u := 15) rfl
  obtain ⟨B_df, n_b_df⟩ : ∃ g : Nat → Int32, hl1.2.1 b_df = g := ⟨_, rfl⟩
  obtain ⟨m_df, f_m_df, g_m_df⟩ := hx_rf hT gm tt_10 (k := 32) (u := 68) rfl
  obtain ⟨F_df, n_m_df⟩ : ∃ g : Nat → Int32, hl1.2.1 m_df = g := ⟨_, rfl⟩
  have eb_df := hk_df qo_ln b_df m_df f_qo_ln f_b_df f_m_df; rw [n_b_df, n_m_df, f_o_ln] at eb_df
  obtain ⟨b_kf, f_b_kf, g_b_kf⟩ := hx_rf hT g_qo_ln tt_1 (k := 4) (u := 16) rfl
  obtain ⟨B_kf, n_b_kf⟩ : ∃ g : Nat → Int32, hl1.2.1 b_kf = g := ⟨_, rfl⟩
  obtain ⟨m_kf, f_m_kf, g_m_kf⟩ := hx_rf hT gm tt_10 (k := 33) (u := 69) rfl
  obtain ⟨F_kf, n_m_kf⟩ : ∃ g : Nat → Int32, hl1.2.1 m_kf = g := ⟨_, rfl⟩
  have eb_kf := hk_kf qo_ln b_kf m_kf f_qo_ln f_b_kf f_m_kf; rw [n_b_kf, n_m_kf, f_o_ln] at eb_kf
  obtain ⟨b_sf, f_b_sf, g_b_sf⟩ := hx_rf hT g_qo_ln tt_1 (k := 5) (u := 17) rfl
  obtain ⟨B_sf, n_b_sf⟩ : ∃ g : Nat → Int32, hl1.2.1 b_sf = g := ⟨_, rfl⟩
  obtain ⟨m_sf, f_m_sf, g_m_sf⟩ := hx_rf hT gm tt_10 (k := 34) (u := 70) rfl
  obtain ⟨F_sf, n_m_sf⟩ : ∃ g : Nat → Int32, hl1.2.1 m_sf = g := ⟨_, rfl⟩
  have eb_sf := hk_sf qo_ln b_sf m_sf f_qo_ln f_b_sf f_m_sf; rw [n_b_sf, n_m_sf, f_o_ln] at eb_sf
  obtain ⟨b_bf, f_b_bf, g_b_bf⟩ := hx_rf hT g_qo_ln tt_1 (k := 6) (u := 18) rfl
  obtain ⟨bfL, n_b_bf⟩ : ∃ g : Nat → Int32, hl1.2.1 b_bf = g := ⟨_, rfl⟩
  obtain ⟨hBD, hDY⟩ := hkBD qo_ln b_df b_bf f_qo_ln f_b_df f_b_bf; rw [n_b_df, n_b_bf, f_o_ln] at hBD; rw [n_b_df, f_o_ln] at hDY
  have hBDm := hy_BD_c eb_df hBD
  have hDYm : hy_DY F_df ln.toInt.toNat := fun x hx => by rw [← eb_df x hx]; exact hDY x hx
  have sb_list := hLQ qw ql qc f_qw f_ql f_qc
  obtain ⟨m_lst, f_m_lst, g_m_lst⟩ := hx_rf hT gm tt_10 (k := 91) (u := 112) rfl
  obtain ⟨F_lst, n_lst⟩ : ∃ g : Nat → Int32, hl1.2.1 m_lst = g := ⟨_, rfl⟩
  obtain ⟨c_lst, cl_lst⟩ : ∃ g : Nat → Int32, hx_col 8 hl1 ql 0 = g := ⟨_, rfl⟩
  have eq_lst := hLE qw ql m_lst f_qw f_ql f_m_lst; rw [cl_lst, n_lst] at eq_lst
  obtain ⟨c_dead, cl_dead⟩ : ∃ g : Nat → Int32, hx_col 40 hl1 qp 7 = g := ⟨_, rfl⟩
  obtain ⟨m_dead, f_m_dead, g_m_dead⟩ := hx_rf hT gm tt_10 (k := 27) (u := 64) rfl
  obtain ⟨F_dead, n_dead⟩ : ∃ g : Nat → Int32, hl1.2.1 m_dead = g := ⟨_, rfl⟩
  have eq_dead := hc_dead qp m_dead f_qp f_m_dead; rw [cl_dead, n_dead] at eq_dead
  have z_dead : np.toInt.toNat < 40 → c_dead np.toInt.toNat = 0 := fun hj => hx_num_z nu_qp cl_dead hj (by omega)
  obtain ⟨c_isj, cl_isj⟩ : ∃ g : Nat → Int32, hx_col 40 hl1 qp 8 = g := ⟨_, rfl⟩
  obtain ⟨m_isj, f_m_isj, g_m_isj⟩ := hx_rf hT gm tt_10 (k := 28) (u := 65) rfl
  obtain ⟨F_isj, n_isj⟩ : ∃ g : Nat → Int32, hl1.2.1 m_isj = g := ⟨_, rfl⟩
  have eq_isj := hc_isj qp m_isj f_qp f_m_isj; rw [cl_isj, n_isj] at eq_isj
  have z_isj : np.toInt.toNat < 40 → c_isj np.toInt.toNat = 0 := fun hj => hx_num_z nu_qp cl_isj hj (by omega)
  obtain ⟨c_dox, cl_dox⟩ : ∃ g : Nat → Int32, hx_col 40 hl1 qp 5 = g := ⟨_, rfl⟩
  obtain ⟨m_dox, f_m_dox, g_m_dox⟩ := hx_rf hT gm tt_10 (k := 24) (u := 61) rfl
  obtain ⟨F_dox, n_dox⟩ : ∃ g : Nat → Int32, hl1.2.1 m_dox = g := ⟨_, rfl⟩
  have eq_dox := hc_dox qp m_dox f_qp f_m_dox; rw [cl_dox, n_dox] at eq_dox
  have z_dox : np.toInt.toNat < 40 → c_dox np.toInt.toNat = 0 := fun hj => hx_num_z nu_qp cl_dox hj (by omega)
  obtain ⟨c_doy, cl_doy⟩ : ∃ g : Nat → Int32, hx_col 40 hl1 qp 6 = g := ⟨_, rfl⟩
  obtain ⟨m_doy, f_m_doy, g_m_doy⟩ := hx_rf hT gm tt_10 (k := 25) (u := 62) rfl
  obtain ⟨F_doy, n_doy⟩ : ∃ g : Nat → Int32, hl1.2.1 m_doy = g := ⟨_, rfl⟩
  have eq_doy := hc_doy qp m_doy f_qp f_m_doy; rw [cl_doy, n_doy] at eq_doy
  have z_doy : np.toInt.toNat < 40 → c_doy np.toInt.toNat = 0 := fun hj => hx_num_z nu_qp cl_doy hj (by omega)
  obtain ⟨c_fou, cl_fou⟩ : ∃ g : Nat → Int32, hx_col 100 hl1 qc 10 = g := ⟨_, rfl⟩
  have eq_fou := hc_fou qc m_fou f_qc f_m_fou; rw [cl_fou, n_m_fou] at eq_fou
  have z_fou : c0.toInt.toNat < 100 → c_fou c0.toInt.toNat = 0 := fun hj => hx_num_z nu_qc cl_fou hj (by omega)
  obtain ⟨c_tri, cl_tri⟩ : ∃ g : Nat → Int32, hx_col 100 hl1 qc 9 = g := ⟨_, rfl⟩
  have eq_tri := hc_tri qc mt f_qc f_mt; rw [cl_tri, n_mt] at eq_tri
  have z_tri : c0.toInt.toNat < 100 → c_tri c0.toInt.toNat = 0 := fun hj => hx_num_z nu_qc cl_tri hj (by omega)
  obtain ⟨qlt, f_qlt, g_qlt⟩ := hx_rf hT g_qw tt_8 (k := 2) (u := 39) rfl
  obtain ⟨qlf, f_qlf, g_qlf⟩ := hx_rf hT g_qw tt_8 (k := 4) (u := 41) rfl
  obtain ⟨m_wkd, f_m_wkd, g_m_wkd⟩ := hx_rf hT gm tt_10 (k := 93) (u := 113) rfl
  obtain ⟨F_qlt, n_qlt⟩ : ∃ g : Nat → Int32, hl1.2.1 qlt = g := ⟨_, rfl⟩
  obtain ⟨F_m_wkd, n_m_wkd⟩ : ∃ g : Nat → Int32, hl1.2.1 m_wkd = g := ⟨_, rfl⟩
  have eb_wkd := hkWD qw qlt m_wkd f_qw f_qlt f_m_wkd; rw [n_qlt, n_m_wkd, f_o_wkm] at eb_wkd
  obtain ⟨m_aga, f_m_aga, g_m_aga⟩ := hx_rf hT gm tt_10 (k := 38) (u := 73) rfl
  obtain ⟨F_aga, n_aga⟩ : ∃ g : Nat → Int32, hl1.2.1 m_aga = g := ⟨_, rfl⟩
  have hDF := hkDF qc qp m_aga f_qc f_qp f_m_aga; rw [n_aga, f_x_claimCount] at hDF
  have hwd := jw mw f_mw; rw [n_mw] at hwd
  have hWK := jr mr f_mr; rw [n_mr, f_m_acts] at hWK
  have hRP := jp mp mn f_mp f_mn; rw [n_mp, n_mn, f_m_acts] at hRP
  have hPL := jl ml f_ml; rw [n_ml, f_m_claims, f_m_acts] at hPL
  have hHC := jh mh f_mh; rw [n_mh, f_m_heardMany, f_m_claims] at hHC
  have hTR := jt mt f_mt; rw [n_mt] at hTR
  have hHF := jf mh m_fou f_mh f_m_fou; rw [n_mh, n_m_fou, f_m_claims] at hHF
  refine lv_aload_n hx hb dL_law_1043 rfl (lv_at hl 2 rfl) ?_
  refine lv_aload_n hx hb dL_law_1044 rfl (lv_at hl 3 rfl) ?_
  refine lv_iload_n hx hb dL_law_1045 rfl (lv_at hl 0 rfl) ?_
  refine lv_iconst (v := 1) hx hb dL_law_1046 (by decide) ?_
  refine lv_iadd hx hb dL_law_1047 ?_
  have rg_514 := i32_r i
  refine lv_topi (fun x_515 ex_515 => ?_)
  have zx_515 : x_515.toInt = i.toInt + 1 := by rw [ex_515]; exact i32_add rfl (by decide) (by omega) (by omega)
  refine va_sld hx hb hX hbl hbA hW.2.2.2.1 (vp_in_iff.mpr ⟨by omega, by omega⟩) dL_law_1048 ?_
  refine lv_topi (fun x_516 ex_516 => ?_)
  refine lv_aload_n hx hb dL_law_1049 rfl (lv_at hl 3 rfl) ?_
  refine lv_iload_n hx hb dL_law_1050 rfl (lv_at hl 0 rfl) ?_
  refine lv_iconst (v := 2) hx hb dL_law_1051 (by decide) ?_
  refine lv_iadd hx hb dL_law_1052 ?_
  refine lv_topi (fun x_517 ex_517 => ?_)
  have zx_517 : x_517.toInt = i.toInt + 2 := by rw [ex_517]; exact i32_add rfl (by decide) (by omega) (by omega)
  refine va_sld hx hb hX hbl hbA hW.2.2.2.1 (vp_in_iff.mpr ⟨by omega, by omega⟩) dL_law_1053 ?_
  refine lv_topi (fun x_518 ex_518 => ?_)
  have hTo := hT
  refine hx_goi (hx_runV (As := [.int x_516, .int x_518]) (rest := []) ⟨hx, hb, hml, hown, hts⟩ hW gx tt_9 (T := TX9) (N := 20) rfl (t_X9_claim l dC dI dA L1 hl1 H.size ax x_516 x_518 hT gx qc g_qc f_qc pf_qc) (cwV 2 hts (hx_gV kw_933 kw_930 kw_931 kw_932 kw_94) rfl rfl rfl (by decide +kernel) ⟨Nat.le_of_ble_eq_true rfl, Nat.le_of_ble_eq_true rfl⟩) rfl hl.1 rfl (Nat.le_of_ble_eq_true rfl) dL_law_1054 ⟨(show CC + 0 ≤ 600000 from by omega), (show SS + 0 ≤ 7302250 from by omega)⟩) hW (fun r_521 L_519 h_520 H locs p_522 hW => ?_)
  obtain ⟨hr_523, hT, hs⟩ := p_522
  replace hT : hx_T T_tb L_519 h_520 := hT
  replace hs : hx_S T_tb [] L1 hl1 L_519 h_520 := hs
  replace f_qa := (hs.o gx trivial rfl).2.trans f_qa
  replace f_qp := (hs.o gx trivial rfl).2.trans f_qp
  replace f_qc := (hs.o gx trivial rfl).2.trans f_qc
  replace f_qh := (hs.o gx trivial rfl).2.trans f_qh
  replace f_qw := (hs.o gx trivial rfl).2.trans f_qw
  replace f_ql := (hs.o g_qw trivial rfl).2.trans f_ql
  replace f_m_now := (hs.o gm trivial rfl).1.trans f_m_now
  replace f_m_persons := (hs.o gm trivial rfl).1.trans f_m_persons
  replace f_m_claims := (hs.o gm trivial rfl).1.trans f_m_claims
  replace f_m_lines := (hs.o gm trivial rfl).1.trans f_m_lines
  replace f_m_listed := (hs.o gm trivial rfl).1.trans f_m_listed
  replace f_m_walkedMany := (hs.o gm trivial rfl).1.trans f_m_walkedMany
  replace f_m_acts := (hs.o gm trivial rfl).1.trans f_m_acts
  replace f_m_heardMany := (hs.o gm trivial rfl).1.trans f_m_heardMany
  replace f_x_now := (hs.o gx trivial rfl).1.trans f_x_now
  replace f_x_personCount := (hs.o gx trivial rfl).1.trans f_x_personCount
  replace f_x_claimCount := (hs.o gx trivial rfl).1.trans f_x_claimCount
  replace f_mw := (hs.o gm trivial rfl).2.trans f_mw
  replace f_mr := (hs.o gm trivial rfl).2.trans f_mr
  replace f_mp := (hs.o gm trivial rfl).2.trans f_mp
  replace f_mn := (hs.o gm trivial rfl).2.trans f_mn
  replace f_ml := (hs.o gm trivial rfl).2.trans f_ml
  replace f_mh := (hs.o gm trivial rfl).2.trans f_mh
  replace f_mt := (hs.o gm trivial rfl).2.trans f_mt
  replace f_m_fou := (hs.o gm trivial rfl).2.trans f_m_fou
  replace f_qo_ln := (hs.o gx trivial rfl).2.trans f_qo_ln
  replace f_o_ln := (hs.o g_qo_ln trivial rfl).1.trans f_o_ln
  replace f_o_lsd := (hs.o g_qw trivial rfl).1.trans f_o_lsd
  replace f_o_wkm := (hs.o g_qw trivial rfl).1.trans f_o_wkm
  replace f_b_of := (hs.o g_qo_ln trivial rfl).2.trans f_b_of
  replace f_m_of := (hs.o gm trivial rfl).2.trans f_m_of
  replace f_b_wf := (hs.o g_qo_ln trivial rfl).2.trans f_b_wf
  replace f_m_wf := (hs.o gm trivial rfl).2.trans f_m_wf
  replace f_b_df := (hs.o g_qo_ln trivial rfl).2.trans f_b_df
  replace f_m_df := (hs.o gm trivial rfl).2.trans f_m_df
  replace f_b_kf := (hs.o g_qo_ln trivial rfl).2.trans f_b_kf
  replace f_m_kf := (hs.o gm trivial rfl).2.trans f_m_kf
  replace f_b_sf := (hs.o g_qo_ln trivial rfl).2.trans f_b_sf
  replace f_m_sf := (hs.o gm trivial rfl).2.trans f_m_sf
  replace f_b_bf := (hs.o g_qo_ln trivial rfl).2.trans f_b_bf
  replace f_m_lst := (hs.o gm trivial rfl).2.trans f_m_lst
  replace f_m_dead := (hs.o gm trivial rfl).2.trans f_m_dead
  replace f_m_isj := (hs.o gm trivial rfl).2.trans f_m_isj
  replace f_m_dox := (hs.o gm trivial rfl).2.trans f_m_dox
  replace f_m_doy := (hs.o gm trivial rfl).2.trans f_m_doy
  replace f_qlt := (hs.o g_qw trivial rfl).2.trans f_qlt
  replace f_qlf := (hs.o g_qw trivial rfl).2.trans f_qlf
  replace f_m_wkd := (hs.o gm trivial rfl).2.trans f_m_wkd
  replace f_m_aga := (hs.o gm trivial rfl).2.trans f_m_aga
  replace pf_qa : ∀ j : Nat, (j : Int) < (h_520.2.1 ax 6).toInt → h_520.2.2 qa j ≠ none := by
    intro j hj; rw [(hs.o gx trivial rfl).1] at hj; rw [(hs.a g_qa rfl j).2]; exact pf_qa j hj
  replace pf_qp : ∀ j : Nat, (j : Int) < (h_520.2.1 ax 8).toInt → h_520.2.2 qp j ≠ none := by
    intro j hj; rw [(hs.o gx trivial rfl).1] at hj; rw [(hs.a g_qp rfl j).2]; exact pf_qp j hj
  replace pf_qc : ∀ j : Nat, (j : Int) < (h_520.2.1 ax 11).toInt → h_520.2.2 qc j ≠ none := by
    intro j hj; rw [(hs.o gx trivial rfl).1] at hj; rw [(hs.a g_qc rfl j).2]; exact pf_qc j hj
  replace pf_qh : ∀ j : Nat, (j : Int) < (h_520.2.1 ax 13).toInt → h_520.2.2 qh j ≠ none := by
    intro j hj; rw [(hs.o gx trivial rfl).1] at hj; rw [(hs.a g_qh rfl j).2]; exact pf_qh j hj
  replace pf_ql : ∀ j : Nat, (j : Int) < (h_520.2.1 qw 0).toInt → h_520.2.2 ql j ≠ none := by
    intro j hj; rw [(hs.o g_qw trivial rfl).1] at hj; rw [(hs.a g_ql rfl j).2]; exact pf_ql j hj
  replace cl_lst : hx_col 8 h_520 ql 0 = c_lst := (hx_col_S hs hTo g_ql tt_40 tt_2 rfl rfl).trans cl_lst
  replace cl_dead : hx_col 40 h_520 qp 7 = c_dead := (hx_col_S hs hTo g_qp tt_44 tt_4 rfl rfl).trans cl_dead
  replace cl_isj : hx_col 40 h_520 qp 8 = c_isj := (hx_col_S hs hTo g_qp tt_44 tt_4 rfl rfl).trans cl_isj
  replace cl_dox : hx_col 40 h_520 qp 5 = c_dox := (hx_col_S hs hTo g_qp tt_44 tt_4 rfl rfl).trans cl_dox
  replace cl_doy : hx_col 40 h_520 qp 6 = c_doy := (hx_col_S hs hTo g_qp tt_44 tt_4 rfl rfl).trans cl_doy
  replace cl_fou : hx_col 100 h_520 qc 10 = c_fou := (hx_col_S hs hTo g_qc tt_45 tt_2 rfl rfl).trans cl_fou
  replace cl_tri : hx_col 100 h_520 qc 9 = c_tri := (hx_col_S hs hTo g_qc tt_45 tt_2 rfl rfl).trans cl_tri
  replace nu_qp : hx_num 40 h_520 qp 0 (np.toInt) := hx_num_S hs hTo g_qp tt_44 tt_4 rfl rfl nu_qp
  replace nu_qc : hx_num 100 h_520 qc 0 (c0.toInt) := hx_num_S hs hTo g_qc tt_45 tt_2 rfl rfl nu_qc
  replace sb_list : hx_LQ 8 100 h_520 ql qc := hx_LQ_S hs g_ql g_qc rfl rfl sb_list
  replace hDF : hw_DF h_520 qc qp 2 F_aga c0.toInt := hw_DF_S hs hTo g_qc g_qp tt_45 tt_2 rfl rfl rfl hDF
  replace n_mw : h_520.2.1 mw = F_mw := (funext fun j => (hs.a g_mw rfl j).1).trans n_mw
  replace n_mr : h_520.2.1 mr = F_mr := (funext fun j => (hs.a g_mr rfl j).1).trans n_mr
  replace n_mp : h_520.2.1 mp = F_mp := (funext fun j => (hs.a g_mp rfl j).1).trans n_mp
  replace n_mn : h_520.2.1 mn = F_mn := (funext fun j => (hs.a g_mn rfl j).1).trans n_mn
  replace n_ml : h_520.2.1 ml = F_ml := (funext fun j => (hs.a g_ml rfl j).1).trans n_ml
  replace n_mh : h_520.2.1 mh = F_mh := (funext fun j => (hs.a g_mh rfl j).1).trans n_mh
  replace n_mt : h_520.2.1 mt = F_mt := (funext fun j => (hs.a g_mt rfl j).1).trans n_mt
  replace n_m_fou : h_520.2.1 m_fou = F_m_fou := (funext fun j => (hs.a g_m_fou rfl j).1).trans n_m_fou
  replace n_b_of : h_520.2.1 b_of = B_of := (funext fun j => (hs.a g_b_of rfl j).1).trans n_b_of
  replace n_m_of : h_520.2.1 m_of = F_of := (funext fun j => (hs.a g_m_of rfl j).1).trans n_m_of
  replace n_b_wf : h_520.2.1 b_wf = B_wf := (funext fun j => (hs.a g_b_wf rfl j).1).trans n_b_wf
  replace n_m_wf : h_520.2.1 m_wf = F_wf := (funext fun j => (hs.a g_m_wf rfl j).1).trans n_m_wf
  replace n_b_df : h_520.2.1 b_df = B_df := (funext fun j => (hs.a g_b_df rfl j).1).trans n_b_df
  replace n_m_df : h_520.2.1 m_df = F_df := (funext fun j => (hs.a g_m_df rfl j).1).trans n_m_df
  replace n_b_kf : h_520.2.1 b_kf = B_kf := (funext fun j => (hs.a g_b_kf rfl j).1).trans n_b_kf
  replace n_m_kf : h_520.2.1 m_kf = F_kf := (funext fun j => (hs.a g_m_kf rfl j).1).trans n_m_kf
  replace n_b_sf : h_520.2.1 b_sf = B_sf := (funext fun j => (hs.a g_b_sf rfl j).1).trans n_b_sf
  replace n_m_sf : h_520.2.1 m_sf = F_sf := (funext fun j => (hs.a g_m_sf rfl j).1).trans n_m_sf
  replace n_b_bf : h_520.2.1 b_bf = bfL := (funext fun j => (hs.a g_b_bf rfl j).1).trans n_b_bf
  replace n_lst : h_520.2.1 m_lst = F_lst := (funext fun j => (hs.a g_m_lst rfl j).1).trans n_lst
  replace n_dead : h_520.2.1 m_dead = F_dead := (funext fun j => (hs.a g_m_dead rfl j).1).trans n_dead
  replace n_isj : h_520.2.1 m_isj = F_isj := (funext fun j => (hs.a g_m_isj rfl j).1).trans n_isj
  replace n_dox : h_520.2.1 m_dox = F_dox := (funext fun j => (hs.a g_m_dox rfl j).1).trans n_dox
  replace n_doy : h_520.2.1 m_doy = F_doy := (funext fun j => (hs.a g_m_doy rfl j).1).trans n_doy
  replace n_qlt : h_520.2.1 qlt = F_qlt := (funext fun j => (hs.a g_qlt rfl j).1).trans n_qlt
  replace n_m_wkd : h_520.2.1 m_wkd = F_m_wkd := (funext fun j => (hs.a g_m_wkd rfl j).1).trans n_m_wkd
  replace n_aga : h_520.2.1 m_aga = F_aga := (funext fun j => (hs.a g_m_aga rfl j).1).trans n_aga
  replace gx := gx.S hs
  replace gm := gm.S hs
  replace g_qa := g_qa.S hs
  replace g_qp := g_qp.S hs
  replace g_qc := g_qc.S hs
  replace g_qh := g_qh.S hs
  replace g_qw := g_qw.S hs
  replace g_ql := g_ql.S hs
  replace g_mw := g_mw.S hs
  replace g_mr := g_mr.S hs
  replace g_mp := g_mp.S hs
  replace g_mn := g_mn.S hs
  replace g_ml := g_ml.S hs
  replace g_mh := g_mh.S hs
  replace g_mt := g_mt.S hs
  replace g_m_fou := g_m_fou.S hs
  replace g_qo_ln := g_qo_ln.S hs
  replace g_b_of := g_b_of.S hs
  replace g_m_of := g_m_of.S hs
  replace g_b_wf := g_b_wf.S hs
  replace g_m_wf := g_m_wf.S hs
  replace g_b_df := g_b_df.S hs
  replace g_m_df := g_m_df.S hs
  replace g_b_kf := g_b_kf.S hs
  replace g_m_kf := g_m_kf.S hs
  replace g_b_sf := g_b_sf.S hs
  replace g_m_sf := g_m_sf.S hs
  replace g_b_bf := g_b_bf.S hs
  replace g_m_lst := g_m_lst.S hs
  replace g_m_dead := g_m_dead.S hs
  replace g_m_isj := g_m_isj.S hs
  replace g_m_dox := g_m_dox.S hs
  replace g_m_doy := g_m_doy.S hs
  replace g_qlt := g_qlt.S hs
  replace g_qlf := g_qlf.S hs
  replace g_m_wkd := g_m_wkd.S hs
  replace g_m_aga := g_m_aga.S hs
  refine lv_pop hx hb dL_law_1057 rfl ?_
  refine lv_aload_n hx hb dL_law_1058 rfl (lv_at hl 1 rfl) ?_
  refine lv_aload_n hx hb dL_law_1059 rfl (lv_at hl 3 rfl) ?_
  refine lv_iload_n hx hb dL_law_1060 rfl (lv_at hl 0 rfl) ?_
  refine lv_iconst (v := 1) hx hb dL_law_1061 (by decide) ?_
  refine lv_iadd hx hb dL_law_1062 ?_
  refine lv_topi (fun x_524 ex_524 => ?_)
  have zx_524 : x_524.toInt = i.toInt + 1 := by rw [ex_524]; exact i32_add rfl (by decide) (by omega) (by omega)
  obtain rfl : x_515 = x_524 := ex_515.trans ex_524.symm
  refine va_sld hx hb hX hbl hbA hW.2.2.2.1 (vp_in_iff.mpr ⟨by omega, by omega⟩) dL_law_1063 ?_
  refine lv_topi (fun x_525 ex_525 => ?_)
  obtain rfl : x_516 = x_525 := ex_516.trans ex_525.symm
  refine lv_aload_n hx hb dL_law_1064 rfl (lv_at hl 3 rfl) ?_
  refine lv_iload_n hx hb dL_law_1065 rfl (lv_at hl 0 rfl) ?_
  refine lv_iconst (v := 2) hx hb dL_law_1066 (by decide) ?_
  refine lv_iadd hx hb dL_law_1067 ?_
  refine lv_topi (fun x_526 ex_526 => ?_)
  have zx_526 : x_526.toInt = i.toInt + 2 := by rw [ex_526]; exact i32_add rfl (by decide) (by omega) (by omega)
  obtain rfl : x_517 = x_526 := ex_517.trans ex_526.symm
  refine va_sld hx hb hX hbl hbA hW.2.2.2.1 (vp_in_iff.mpr ⟨by omega, by omega⟩) dL_law_1068 ?_
  refine lv_topi (fun x_527 ex_527 => ?_)
  obtain rfl : x_518 = x_527 := ex_518.trans ex_527.symm
  have hTo := hT
  refine hx_goi (hx_runV (As := [.int x_516, .int x_518]) (rest := []) ⟨hx, hb, hml, hown, hts⟩ hW gm tt_10 (T := TX10) (N := 98) rfl (t_X10_claim l dC dI dA L_519 h_520 H.size am x_516 x_518 hT gm) (cwV 2 hts (hx_gV kw_1669 kw_1666 kw_1667 kw_1668 kw_103) rfl rfl rfl (by decide +kernel) ⟨Nat.le_of_ble_eq_true rfl, Nat.le_of_ble_eq_true rfl⟩) rfl hl.1 rfl (Nat.le_of_ble_eq_true rfl) dL_law_1069 ⟨(show CC + 0 + 0 ≤ 600000 from by omega), (show SS + 0 + 0 ≤ 7302250 from by omega)⟩) hW (fun r_530 L_528 h_529 H locs p_531 hW => ?_)
  obtain ⟨hr_532, hT, hs⟩ := p_531
  replace hT : hx_T T_tb L_528 h_529 := hT
  replace hs : hx_S T_tb [] L_519 h_520 L_528 h_529 := hs
  replace f_qa := (hs.o gx trivial rfl).2.trans f_qa
  replace f_qp := (hs.o gx trivial rfl).2.trans f_qp
  replace f_qc := (hs.o gx trivial rfl).2.trans f_qc
  replace f_qh := (hs.o gx trivial rfl).2.trans f_qh
  replace f_qw := (hs.o gx trivial rfl).2.trans f_qw
  replace f_ql := (hs.o g_qw trivial rfl).2.trans f_ql
  replace f_m_now := (hs.o gm trivial rfl).1.trans f_m_now
  replace f_m_persons := (hs.o gm trivial rfl).1.trans f_m_persons
  replace f_m_claims := (hs.o gm trivial rfl).1.trans f_m_claims
  replace f_m_lines := (hs.o gm trivial rfl).1.trans f_m_lines
  replace f_m_listed := (hs.o gm trivial rfl).1.trans f_m_listed
  replace f_m_walkedMany := (hs.o gm trivial rfl).1.trans f_m_walkedMany
  replace f_m_acts := (hs.o gm trivial rfl).1.trans f_m_acts
  replace f_m_heardMany := (hs.o gm trivial rfl).1.trans f_m_heardMany
  replace f_x_now := (hs.o gx trivial rfl).1.trans f_x_now
  replace f_x_personCount := (hs.o gx trivial rfl).1.trans f_x_personCount
  replace f_x_claimCount := (hs.o gx trivial rfl).1.trans f_x_claimCount
  replace f_mw := (hs.o gm trivial rfl).2.trans f_mw
  replace f_mr := (hs.o gm trivial rfl).2.trans f_mr
  replace f_mp := (hs.o gm trivial rfl).2.trans f_mp
  replace f_mn := (hs.o gm trivial rfl).2.trans f_mn
  replace f_ml := (hs.o gm trivial rfl).2.trans f_ml
  replace f_mh := (hs.o gm trivial rfl).2.trans f_mh
  replace f_mt := (hs.o gm trivial rfl).2.trans f_mt
  replace f_m_fou := (hs.o gm trivial rfl).2.trans f_m_fou
  replace f_qo_ln := (hs.o gx trivial rfl).2.trans f_qo_ln
  replace f_o_ln := (hs.o g_qo_ln trivial rfl).1.trans f_o_ln
  replace f_o_lsd := (hs.o g_qw trivial rfl).1.trans f_o_lsd
  replace f_o_wkm := (hs.o g_qw trivial rfl).1.trans f_o_wkm
  replace f_b_of := (hs.o g_qo_ln trivial rfl).2.trans f_b_of
  replace f_m_of := (hs.o gm trivial rfl).2.trans f_m_of
  replace f_b_wf := (hs.o g_qo_ln trivial rfl).2.trans f_b_wf
  replace f_m_wf := (hs.o gm trivial rfl).2.trans f_m_wf
  replace f_b_df := (hs.o g_qo_ln trivial rfl).2.trans f_b_df
  replace f_m_df := (hs.o gm trivial rfl).2.trans f_m_df
  replace f_b_kf := (hs.o g_qo_ln trivial rfl).2.trans f_b_kf
  replace f_m_kf := (hs.o gm trivial rfl).2.trans f_m_kf
  replace f_b_sf := (hs.o g_qo_ln trivial rfl).2.trans f_b_sf
  replace f_m_sf := (hs.o gm trivial rfl).2.trans f_m_sf
  replace f_b_bf := (hs.o g_qo_ln trivial rfl).2.trans f_b_bf
  replace f_m_lst := (hs.o gm trivial rfl).2.trans f_m_lst
  replace f_m_dead := (hs.o gm trivial rfl).2.trans f_m_dead
  replace f_m_isj := (hs.o gm trivial rfl).2.trans f_m_isj
  replace f_m_dox := (hs.o gm trivial rfl).2.trans f_m_dox
  replace f_m_doy := (hs.o gm trivial rfl).2.trans f_m_doy
  replace f_qlt := (hs.o g_qw trivial rfl).2.trans f_qlt
  replace f_qlf := (hs.o g_qw trivial rfl).2.trans f_qlf
  replace f_m_wkd := (hs.o gm trivial rfl).2.trans f_m_wkd
  replace f_m_aga := (hs.o gm trivial rfl).2.trans f_m_aga
  replace pf_qa : ∀ j : Nat, (j : Int) < (h_529.2.1 ax 6).toInt → h_529.2.2 qa j ≠ none := by
    intro j hj; rw [(hs.o gx trivial rfl).1] at hj; rw [(hs.a g_qa rfl j).2]; exact pf_qa j hj
  replace pf_qp : ∀ j : Nat, (j : Int) < (h_529.2.1 ax 8).toInt → h_529.2.2 qp j ≠ none := by
    intro j hj; rw [(hs.o gx trivial rfl).1] at hj; rw [(hs.a g_qp rfl j).2]; exact pf_qp j hj
  replace pf_qc : ∀ j : Nat, (j : Int) < (h_529.2.1 ax 11).toInt → h_529.2.2 qc j ≠ none := by
    intro j hj; rw [(hs.o gx trivial rfl).1] at hj; rw [(hs.a g_qc rfl j).2]; exact pf_qc j hj
  replace pf_qh : ∀ j : Nat, (j : Int) < (h_529.2.1 ax 13).toInt → h_529.2.2 qh j ≠ none := by
    intro j hj; rw [(hs.o gx trivial rfl).1] at hj; rw [(hs.a g_qh rfl j).2]; exact pf_qh j hj
  replace pf_ql : ∀ j : Nat, (j : Int) < (h_529.2.1 qw 0).toInt → h_529.2.2 ql j ≠ none := by
    intro j hj; rw [(hs.o g_qw trivial rfl).1] at hj; rw [(hs.a g_ql rfl j).2]; exact pf_ql j hj
  replace cl_lst : hx_col 8 h_529 ql 0 = c_lst := (hx_col_S hs hTo g_ql tt_40 tt_2 rfl rfl).trans cl_lst
  replace cl_dead : hx_col 40 h_529 qp 7 = c_dead := (hx_col_S hs hTo g_qp tt_44 tt_4 rfl rfl).trans cl_dead
  replace cl_isj : hx_col 40 h_529 qp 8 = c_isj := (hx_col_S hs hTo g_qp tt_44 tt_4 rfl rfl).trans cl_isj
  replace cl_dox : hx_col 40 h_529 qp 5 = c_dox := (hx_col_S hs hTo g_qp tt_44 tt_4 rfl rfl).trans cl_dox
  replace cl_doy : hx_col 40 h_529 qp 6 = c_doy := (hx_col_S hs hTo g_qp tt_44 tt_4 rfl rfl).trans cl_doy
  replace cl_fou : hx_col 100 h_529 qc 10 = c_fou := (hx_col_S hs hTo g_qc tt_45 tt_2 rfl rfl).trans cl_fou
  replace cl_tri : hx_col 100 h_529 qc 9 = c_tri := (hx_col_S hs hTo g_qc tt_45 tt_2 rfl rfl).trans cl_tri
  replace nu_qp : hx_num 40 h_529 qp 0 (np.toInt) := hx_num_S hs hTo g_qp tt_44 tt_4 rfl rfl nu_qp
  replace nu_qc : hx_num 100 h_529 qc 0 (c0.toInt) := hx_num_S hs hTo g_qc tt_45 tt_2 rfl rfl nu_qc
  replace sb_list : hx_LQ 8 100 h_529 ql qc := hx_LQ_S hs g_ql g_qc rfl rfl sb_list
  replace hDF : hw_DF h_529 qc qp 2 F_aga c0.toInt := hw_DF_S hs hTo g_qc g_qp tt_45 tt_2 rfl rfl rfl hDF
  replace n_mw : h_529.2.1 mw = F_mw := (funext fun j => (hs.a g_mw rfl j).1).trans n_mw
  replace n_mr : h_529.2.1 mr = F_mr := (funext fun j => (hs.a g_mr rfl j).1).trans n_mr
  replace n_mp : h_529.2.1 mp = F_mp := (funext fun j => (hs.a g_mp rfl j).1).trans n_mp
  replace n_mn : h_529.2.1 mn = F_mn := (funext fun j => (hs.a g_mn rfl j).1).trans n_mn
  replace n_ml : h_529.2.1 ml = F_ml := (funext fun j => (hs.a g_ml rfl j).1).trans n_ml
  replace n_mh : h_529.2.1 mh = F_mh := (funext fun j => (hs.a g_mh rfl j).1).trans n_mh
  replace n_mt : h_529.2.1 mt = F_mt := (funext fun j => (hs.a g_mt rfl j).1).trans n_mt
  replace n_m_fou : h_529.2.1 m_fou = F_m_fou := (funext fun j => (hs.a g_m_fou rfl j).1).trans n_m_fou
  replace n_b_of : h_529.2.1 b_of = B_of := (funext fun j => (hs.a g_b_of rfl j).1).trans n_b_of
  replace n_m_of : h_529.2.1 m_of = F_of := (funext fun j => (hs.a g_m_of rfl j).1).trans n_m_of
  replace n_b_wf : h_529.2.1 b_wf = B_wf := (funext fun j => (hs.a g_b_wf rfl j).1).trans n_b_wf
  replace n_m_wf : h_529.2.1 m_wf = F_wf := (funext fun j => (hs.a g_m_wf rfl j).1).trans n_m_wf
  replace n_b_df : h_529.2.1 b_df = B_df := (funext fun j => (hs.a g_b_df rfl j).1).trans n_b_df
  replace n_m_df : h_529.2.1 m_df = F_df := (funext fun j => (hs.a g_m_df rfl j).1).trans n_m_df
  replace n_b_kf : h_529.2.1 b_kf = B_kf := (funext fun j => (hs.a g_b_kf rfl j).1).trans n_b_kf
  replace n_m_kf : h_529.2.1 m_kf = F_kf := (funext fun j => (hs.a g_m_kf rfl j).1).trans n_m_kf
  replace n_b_sf : h_529.2.1 b_sf = B_sf := (funext fun j => (hs.a g_b_sf rfl j).1).trans n_b_sf
  replace n_m_sf : h_529.2.1 m_sf = F_sf := (funext fun j => (hs.a g_m_sf rfl j).1).trans n_m_sf
  replace n_b_bf : h_529.2.1 b_bf = bfL := (funext fun j => (hs.a g_b_bf rfl j).1).trans n_b_bf
  replace n_lst : h_529.2.1 m_lst = F_lst := (funext fun j => (hs.a g_m_lst rfl j).1).trans n_lst
  replace n_dead : h_529.2.1 m_dead = F_dead := (funext fun j => (hs.a g_m_dead rfl j).1).trans n_dead
  replace n_isj : h_529.2.1 m_isj = F_isj := (funext fun j => (hs.a g_m_isj rfl j).1).trans n_isj
  replace n_dox : h_529.2.1 m_dox = F_dox := (funext fun j => (hs.a g_m_dox rfl j).1).trans n_dox
  replace n_doy : h_529.2.1 m_doy = F_doy := (funext fun j => (hs.a g_m_doy rfl j).1).trans n_doy
  replace n_qlt : h_529.2.1 qlt = F_qlt := (funext fun j => (hs.a g_qlt rfl j).1).trans n_qlt
  replace n_m_wkd : h_529.2.1 m_wkd = F_m_wkd := (funext fun j => (hs.a g_m_wkd rfl j).1).trans n_m_wkd
  replace n_aga : h_529.2.1 m_aga = F_aga := (funext fun j => (hs.a g_m_aga rfl j).1).trans n_aga
  replace gx := gx.S hs
  replace gm := gm.S hs
  replace g_qa := g_qa.S hs
  replace g_qp := g_qp.S hs
  replace g_qc := g_qc.S hs
  replace g_qh := g_qh.S hs
  replace g_qw := g_qw.S hs
  replace g_ql := g_ql.S hs
  replace g_mw := g_mw.S hs
  replace g_mr := g_mr.S hs
  replace g_mp := g_mp.S hs
  replace g_mn := g_mn.S hs
  replace g_ml := g_ml.S hs
  replace g_mh := g_mh.S hs
  replace g_mt := g_mt.S hs
  replace g_m_fou := g_m_fou.S hs
  replace g_qo_ln := g_qo_ln.S hs
  replace g_b_of := g_b_of.S hs
  replace g_m_of := g_m_of.S hs
  replace g_b_wf := g_b_wf.S hs
  replace g_m_wf := g_m_wf.S hs
  replace g_b_df := g_b_df.S hs
  replace g_m_df := g_m_df.S hs
  replace g_b_kf := g_b_kf.S hs
  replace g_m_kf := g_m_kf.S hs
  replace g_b_sf := g_b_sf.S hs
  replace g_m_sf := g_m_sf.S hs
  replace g_b_bf := g_b_bf.S hs
  replace g_m_lst := g_m_lst.S hs
  replace g_m_dead := g_m_dead.S hs
  replace g_m_isj := g_m_isj.S hs
  replace g_m_dox := g_m_dox.S hs
  replace g_m_doy := g_m_doy.S hs
  replace g_qlt := g_qlt.S hs
  replace g_qlf := g_qlf.S hs
  replace g_m_wkd := g_m_wkd.S hs
  replace g_m_aga := g_m_aga.S hs
  refine lv_pop hx hb dL_law_1072 rfl ?_
  refine lv_goto (tgt := 1379) hx hb dL_law_1073 (by decide) ?_
  refine W.widen (k := CC + 3) (n := SS + 179) (by omega) (by omega) ?_
  exact kk L_528 h_529 H locs ls hW ⟨hT, gx, gm, ⟨f_x_now.trans f_m_now.symm, f_x_personCount.trans f_m_persons.symm, f_x_claimCount.trans f_m_claims.symm, hx_ob f_qo_ln (f_o_ln.trans f_m_lines.symm), hx_ob f_qw (f_o_lsd.trans f_m_listed.symm), hx_ob f_qw (f_o_wkm.trans f_m_walkedMany.symm), hx_ob f_qp (by rw [f_x_personCount]; exact nu_qp), hx_ob f_qc (by rw [f_x_claimCount]; exact nu_qc), (fun b a r hb ha hr => by obtain rfl : qo_ln = b := Option.some.inj (f_qo_ln.symm.trans hb); obtain rfl : b_of = a := Option.some.inj (f_b_of.symm.trans ha); obtain rfl : m_of = r := Option.some.inj (f_m_of.symm.trans hr); rw [n_b_of, n_m_of, f_o_ln]; exact eb_of), (fun b a r hb ha hr => by obtain rfl : qo_ln = b := Option.some.inj (f_qo_ln.symm.trans hb); obtain rfl : b_wf = a := Option.some.inj (f_b_wf.symm.trans ha); obtain rfl : m_wf = r := Option.some.inj (f_m_wf.symm.trans hr); rw [n_b_wf, n_m_wf, f_o_ln]; exact eb_wf), (fun b a r hb ha hr => by obtain rfl : qo_ln = b := Option.some.inj (f_qo_ln.symm.trans hb); obtain rfl : b_df = a := Option.some.inj (f_b_df.symm.trans ha); obtain rfl : m_df = r := Option.some.inj (f_m_df.symm.trans hr); rw [n_b_df, n_m_df, f_o_ln]; exact eb_df), (fun b a r hb ha hr => by obtain rfl : qo_ln = b := Option.some.inj (f_qo_ln.symm.trans hb); obtain rfl : b_kf = a := Option.some.inj (f_b_kf.symm.trans ha); obtain rfl : m_kf = r := Option.some.inj (f_m_kf.symm.trans hr); rw [n_b_kf, n_m_kf, f_o_ln]; exact eb_kf), (fun b a r hb ha hr => by obtain rfl : qo_ln = b := Option.some.inj (f_qo_ln.symm.trans hb); obtain rfl : b_sf = a := Option.some.inj (f_b_sf.symm.trans ha); obtain rfl : m_sf = r := Option.some.inj (f_m_sf.symm.trans hr); rw [n_b_sf, n_m_sf, f_o_ln]; exact eb_sf), (fun b a r hb ha hr => by obtain rfl : qo_ln = b := Option.some.inj (f_qo_ln.symm.trans hb); obtain rfl : b_df = a := Option.some.inj (f_b_df.symm.trans ha); obtain rfl : b_bf = r := Option.some.inj (f_b_bf.symm.trans hr); rw [n_b_df, n_b_bf, f_o_ln]; exact ⟨hBD, hDY⟩), (fun w q c hw hq hc => by obtain rfl : qw = w := Option.some.inj (f_qw.symm.trans hw); obtain rfl : ql = q := Option.some.inj (f_ql.symm.trans hq); obtain rfl : qc = c := Option.some.inj (f_qc.symm.trans hc); exact sb_list), (fun w q r hw hq hr => by obtain rfl : qw = w := Option.some.inj (f_qw.symm.trans hw); obtain rfl : ql = q := Option.some.inj (f_ql.symm.trans hq); obtain rfl : m_lst = r := Option.some.inj (f_m_lst.symm.trans hr); rw [cl_lst, n_lst]; exact eq_lst), (fun w q r hw hq hr => by obtain rfl : qw = w := Option.some.inj (f_qw.symm.trans hw); obtain rfl : qlt = q := Option.some.inj (f_qlt.symm.trans hq); obtain rfl : m_wkd = r := Option.some.inj (f_m_wkd.symm.trans hr); rw [n_qlt, n_m_wkd, f_o_wkm]; exact eb_wkd), (fun c q a hc hq ha => by obtain rfl : qc = c := Option.some.inj (f_qc.symm.trans hc); obtain rfl : qp = q := Option.some.inj (f_qp.symm.trans hq); obtain rfl : m_aga = a := Option.some.inj (f_m_aga.symm.trans ha); rw [n_aga, f_x_claimCount]; exact hw_DF_e hDF rfl rfl), hx_ob2 f_qp f_m_dead (by rw [cl_dead, n_dead]; exact eq_dead), hx_ob2 f_qp f_m_isj (by rw [cl_isj, n_isj]; exact eq_isj), hx_ob2 f_qp f_m_dox (by rw [cl_dox, n_dox]; exact eq_dox), hx_ob2 f_qp f_m_doy (by rw [cl_doy, n_doy]; exact eq_doy), hx_ob2 f_qc f_m_fou (by rw [cl_fou, n_m_fou]; exact eq_fou), hx_ob2 f_qc f_mt (by rw [cl_tri, n_mt]; exact eq_tri), trivial⟩, ⟨hx_ob f_qa pf_qa, hx_ob f_qp pf_qp, hx_ob f_qc pf_qc, hx_ob f_qh pf_qh, (fun w q hw hq => by obtain rfl : qw = w := Option.some.inj (f_qw.symm.trans hw); obtain rfl : ql = q := Option.some.inj (f_ql.symm.trans hq); exact pf_ql)⟩, ⟨hx_ob f_mw (by rw [n_mw]; exact hwd), hx_ob f_mr (by rw [n_mr, f_m_acts]; exact hWK), hx_ob2 f_mp f_mn (by rw [n_mp, n_mn, f_m_acts]; exact hRP), hx_ob f_ml (by rw [n_ml, f_m_claims, f_m_acts]; exact hPL), hx_ob f_mh (by rw [n_mh, f_m_heardMany, f_m_claims]; exact hHC), hx_ob f_mt (by rw [n_mt]; exact (hx_TR_le hTR (by omega))), hx_ob2 f_mh f_m_fou (by rw [n_mh, n_m_fou, f_m_claims]; exact hHF)⟩⟩ hl

set_option maxHeartbeats 4000000 in
set_option maxRecDepth 100000 in
theorem law_case_20 {p : Program} {e : Env} {s : State} {m : MethodId} {below : List Frame} {meth : Method} {c : Code} (l : Launch) {b LN : Nat} {xs : Nat → Int32} (hx : p.tables.exec = Jvm.exec) (hb : c.code = code) (hr : meth.sig.returnType = ret) (hlocks : meth.locks = false) (hml : c.maxLocals = 4) (hown : s.vm.findClass "SmallCourtLaw" = some m.cls) (hts : ∀ w ∈ hx_all, w.before #[Value.ref b] s = true) (hX : va_X b LN xs s s.heap) (hbl : b < s.heap.size) (hbA : ¬ s.heap.size ≤ b) (hLN : LN ≤ 3584) (dC : Nat → ClassId) (dI : Nat → Nat → Nat) (dA : Nat → ClassId) (b0 : hx_z) (ax am : Nat) (T1 : Int) (hT0 : 0 ≤ T1) (hT1 : T1 ≤ 511) (i : Int32) (hi0 : 0 ≤ i.toInt) (hiL : i.toInt + 7 ≤ LN) (CC SS : Nat) (hCC : CC + 3 ≤ 600000) (hSS : SS + 179 ≤ 7302250) (L1 : List Nat) (hl1 : hx_h) (H : Heap) (locs : List Loc) (ls : Array Slot) (hW : hx_W T_tb (P_ty dA) (dC, dI) vwCl (fun q : Nat => s.heap.size ≤ q) s.heap L1 hl1 s H locs) (hZ : hx_Xt (fun q : Nat => s.heap.size ≤ q) b0 s) (hI : hx_IV T1 ax am L1 hl1) (hl : lv_has ls 4 [(3, .int i), (2, .ref am), (1, .ref ax), (0, .ref b)]) (kk : ∀ (L2 : List Nat) (h2 : hx_h) (H2 : Heap) (locs2 : List Loc) (ls2 : Array Slot), hx_W T_tb (P_ty dA) (dC, dI) vwCl (fun q : Nat => s.heap.size ≤ q) s.heap L2 h2 s H2 locs2 → hx_IV (T1 + 1) ax am L2 h2 → lv_has ls2 4 [(3, .int i), (2, .ref am), (1, .ref ax), (0, .ref b)] → W p l e room_1 s m #[Value.ref b] below meth c H2 locs2 (CC + 3) (SS + 179) (lw_Z below #[Value.ref b] s) (F0 m 1379 ls2 [])) : W p l e room_1 s m #[Value.ref b] below meth c H locs CC SS (lw_Z below #[Value.ref b] s) (F0 m 1076 ls []) := by
  obtain ⟨hT, gx, gm, ⟨he_nw, he_np, he_c0, ho_ln, ho_lsd, ho_wkm, hn_qp, hn_qc, hk_of, hk_wf, hk_df, hk_kf, hk_sf, hkBD, hLQ, hLE, hkWD, hkDF, hc_dead, hc_isj, hc_dox, hc_doy, hc_fou, hc_tri, -⟩, ⟨ia, ip, ic, ih, il⟩, ⟨jw, jr, jp, jl, jh, jt, jf⟩⟩ := hI
  obtain ⟨qa, f_qa, g_qa⟩ := hx_rf hT gx tt_9 (k := 5) (u := 43) rfl
  have pf_qa := ia qa f_qa
  obtain ⟨qp, f_qp, g_qp⟩ := hx_rf hT gx tt_9 (k := 7) (u := 44) rfl
  have pf_qp := ip qp f_qp
  obtain ⟨qc, f_qc, g_qc⟩ := hx_rf hT gx tt_9 (k := 10) (u := 45) rfl
  have pf_qc := ic qc f_qc
  obtain ⟨qh, f_qh, g_qh⟩ := hx_rf hT gx tt_9 (k := 12) (u := 46) rfl
  have pf_qh := ih qh f_qh
  obtain ⟨qw, f_qw, g_qw⟩ := hx_rf hT gx tt_9 (k := 19) (u := 8) rfl
  obtain ⟨ql, f_ql, g_ql⟩ := hx_rf hT g_qw tt_8 (k := 3) (u := 40) rfl
  have pf_ql := il qw ql f_qw f_ql
  obtain ⟨nw, f_m_now⟩ : ∃ y : Int32, hl1.2.1 am 0 = y := ⟨_, rfl⟩
  have b_nw := hT.gi gm tt_10 (k := 0) rfl
  rw [f_m_now] at b_nw
  have b_nw : 0 ≤ nw.toInt ∧ nw.toInt ≤ 7999 := b_nw
  obtain ⟨np, f_m_persons⟩ : ∃ y : Int32, hl1.2.1 am 20 = y := ⟨_, rfl⟩
  have b_np := hT.gi gm tt_10 (k := 20) rfl
  rw [f_m_persons] at b_np
  have b_np : 0 ≤ np.toInt ∧ np.toInt ≤ 40 := b_np
  obtain ⟨c0, f_m_claims⟩ : ∃ y : Int32, hl1.2.1 am 36 = y := ⟨_, rfl⟩
  have b_c0 := hT.gi gm tt_10 (k := 36) rfl
  rw [f_m_claims] at b_c0
  have b_c0 : 0 ≤ c0.toInt ∧ c0.toInt ≤ 100 := b_c0
  obtain ⟨ln, f_m_lines⟩ : ∃ y : Int32, hl1.2.1 am 29 = y := ⟨_, rfl⟩
  have b_ln := hT.gi gm tt_10 (k := 29) rfl
  rw [f_m_lines] at b_ln
  have b_ln : 0 ≤ ln.toInt ∧ ln.toInt ≤ 400 := b_ln
  obtain ⟨lsd, f_m_listed⟩ : ∃ y : Int32, hl1.2.1 am 90 = y := ⟨_, rfl⟩
  have b_lsd := hT.gi gm tt_10 (k := 90) rfl
  rw [f_m_listed] at b_lsd
  have b_lsd : 0 ≤ lsd.toInt ∧ lsd.toInt ≤ 8 := b_lsd
  obtain ⟨wkm, f_m_walkedMany⟩ : ∃ y : Int32, hl1.2.1 am 92 = y := ⟨_, rfl⟩
  have b_wkm := hT.gi gm tt_10 (k := 92) rfl
  rw [f_m_walkedMany] at b_wkm
  have b_wkm : 0 ≤ wkm.toInt ∧ wkm.toInt ≤ 8 := b_wkm
  obtain ⟨a0, f_m_acts⟩ : ∃ y : Int32, hl1.2.1 am 1 = y := ⟨_, rfl⟩
  have b_a0 := hT.gi gm tt_10 (k := 1) rfl
  rw [f_m_acts] at b_a0
  have b_a0 : 0 ≤ a0.toInt ∧ a0.toInt ≤ 8 := b_a0
  obtain ⟨m0, f_m_heardMany⟩ : ∃ y : Int32, hl1.2.1 am 57 = y := ⟨_, rfl⟩
  have b_m0 := hT.gi gm tt_10 (k := 57) rfl
  rw [f_m_heardMany] at b_m0
  have b_m0 : 0 ≤ m0.toInt ∧ m0.toInt ≤ 100 := b_m0
  have f_x_now : hl1.2.1 ax 2 = nw := he_nw.trans f_m_now
  have f_x_personCount : hl1.2.1 ax 8 = np := he_np.trans f_m_persons
  have f_x_claimCount : hl1.2.1 ax 11 = c0 := he_c0.trans f_m_claims
  obtain ⟨mw, f_mw, g_mw⟩ := hx_rf hT gm tt_10 (k := 19) (u := 57) rfl
  obtain ⟨F_mw, n_mw⟩ : ∃ g : Nat → Int32, hl1.2.1 mw = g := ⟨_, rfl⟩
  obtain ⟨mr, f_mr, g_mr⟩ := hx_rf hT gm tt_10 (k := 3) (u := 50) rfl
  obtain ⟨F_mr, n_mr⟩ : ∃ g : Nat → Int32, hl1.2.1 mr = g := ⟨_, rfl⟩
  obtain ⟨mp, f_mp, g_mp⟩ := hx_rf hT gm tt_10 (k := 5) (u := 52) rfl
  obtain ⟨F_mp, n_mp⟩ : ∃ g : Nat → Int32, hl1.2.1 mp = g := ⟨_, rfl⟩
  obtain ⟨mn, f_mn, g_mn⟩ := hx_rf hT gm tt_10 (k := 4) (u := 51) rfl
  obtain ⟨F_mn, n_mn⟩ : ∃ g : Nat → Int32, hl1.2.1 mn = g := ⟨_, rfl⟩
  obtain ⟨ml, f_ml, g_ml⟩ := hx_rf hT gm tt_10 (k := 44) (u := 79) rfl
  obtain ⟨F_ml, n_ml⟩ : ∃ g : Nat → Int32, hl1.2.1 ml = g := ⟨_, rfl⟩
  obtain ⟨mh, f_mh, g_mh⟩ := hx_rf hT gm tt_10 (k := 47) (u := 82) rfl
  obtain ⟨F_mh, n_mh⟩ : ∃ g : Nat → Int32, hl1.2.1 mh = g := ⟨_, rfl⟩
  obtain ⟨mt, f_mt, g_mt⟩ := hx_rf hT gm tt_10 (k := 45) (u := 80) rfl
  obtain ⟨F_mt, n_mt⟩ : ∃ g : Nat → Int32, hl1.2.1 mt = g := ⟨_, rfl⟩
  obtain ⟨m_fou, f_m_fou, g_m_fou⟩ := hx_rf hT gm tt_10 (k := 46) (u := 81) rfl
  obtain ⟨F_m_fou, n_m_fou⟩ : ∃ g : Nat → Int32, hl1.2.1 m_fou = g := ⟨_, rfl⟩
  obtain ⟨qo_ln, f_qo_ln, g_qo_ln⟩ := hx_rf hT gx tt_9 (k := 9) (u := 1) rfl
  have f_o_ln : hl1.2.1 qo_ln 0 = ln := (ho_ln qo_ln f_qo_ln).trans f_m_lines
  have f_o_lsd : hl1.2.1 qw 0 = lsd := (ho_lsd qw f_qw).trans f_m_listed
  have f_o_wkm : hl1.2.1 qw 1 = wkm := (ho_wkm qw f_qw).trans f_m_walkedMany
  have nu_qp := hn_qp qp f_qp; rw [f_x_personCount] at nu_qp
  have nu_qc := hn_qc qc f_qc; rw [f_x_claimCount] at nu_qc
  obtain ⟨b_of, f_b_of, g_b_of⟩ := hx_rf hT g_qo_ln tt_1 (k := 1) (u := 13) rfl
  obtain ⟨B_of, n_b_of⟩ : ∃ g : Nat → Int32, hl1.2.1 b_of = g := ⟨_, rfl⟩
  obtain ⟨m_of, f_m_of, g_m_of⟩ := hx_rf hT gm tt_10 (k := 30) (u := 66) rfl
  obtain ⟨F_of, n_m_of⟩ : ∃ g : Nat → Int32, hl1.2.1 m_of = g := ⟨_, rfl⟩
  have eb_of := hk_of qo_ln b_of m_of f_qo_ln f_b_of f_m_of; rw [n_b_of, n_m_of, f_o_ln] at eb_of
  obtain ⟨b_wf, f_b_wf, g_b_wf⟩ := hx_rf hT g_qo_ln tt_1 (k := 2) (u := 14) rfl
  obtain ⟨B_wf, n_b_wf⟩ : ∃ g : Nat → Int32, hl1.2.1 b_wf = g := ⟨_, rfl⟩
  obtain ⟨m_wf, f_m_wf, g_m_wf⟩ := hx_rf hT gm tt_10 (k := 31) (u := 67) rfl
  obtain ⟨F_wf, n_m_wf⟩ : ∃ g : Nat → Int32, hl1.2.1 m_wf = g := ⟨_, rfl⟩
  have eb_wf := hk_wf qo_ln b_wf m_wf f_qo_ln f_b_wf f_m_wf; rw [n_b_wf, n_m_wf, f_o_ln] at eb_wf
  obtain ⟨b_df, f_b_df, g_b_df⟩ := hx_rf hT g_qo_ln tt_1 (k := 3) (u := 15) rfl
  obtain ⟨B_df, n_b_df⟩ : ∃ g : Nat → Int32, hl1.2.1 b_df = g := ⟨_, rfl⟩
  obtain ⟨m_df, f_m_df, g_m_df⟩ := hx_rf hT gm tt_10 (k := 32) (u := 68) rfl
  obtain ⟨F_df, n_m_df⟩ : ∃ g : Nat → Int32, hl1.2.1 m_df = g := ⟨_, rfl⟩
  have eb_df := hk_df qo_ln b_df m_df f_qo_ln f_b_df f_m_df; rw [n_b_df, n_m_df, f_o_ln] at eb_df
  obtain ⟨b_kf, f_b_kf, g_b_kf⟩ := hx_rf hT g_qo_ln tt_1 (k := 4) (u := 16) rfl
  obtain ⟨B_kf, n_b_kf⟩ : ∃ g : Nat → Int32, hl1.2.1 b_kf = g := ⟨_, rfl⟩
  obtain ⟨m_kf, f_m_kf, g_m_kf⟩ := hx_rf hT gm tt_10 (k := 33) (u := 69) rfl
  obtain ⟨F_kf, n_m_kf⟩ : ∃ g : Nat → Int32, hl1.2.1 m_kf = g := ⟨_, rfl⟩
  have eb_kf := hk_kf qo_ln b_kf m_kf f_qo_ln f_b_kf f_m_kf; rw [n_b_kf, n_m_kf, f_o_ln] at eb_kf
  obtain ⟨b_sf, f_b_sf, g_b_sf⟩ := hx_rf hT g_qo_ln tt_1 (k := 5) (u := 17) rfl
  obtain ⟨B_sf, n_b_sf⟩ : ∃ g : Nat → Int32, hl1.2.1 b_sf = g := ⟨_, rfl⟩
  obtain ⟨m_sf, f_m_sf, g_m_sf⟩ := hx_rf hT gm tt_10 (k := 34) (u := 70) rfl
  obtain ⟨F_sf, n_m_sf⟩ : ∃ g : Nat → Int32, hl1.2.1 m_sf = g := ⟨_, rfl⟩
  have eb_sf := hk_sf qo_ln b_sf m_sf f_qo_ln f_b_sf f_m_sf; rw [n_b_sf, n_m_sf, f_o_ln] at eb_sf
  obtain ⟨b_bf, f_b_bf, g_b_bf⟩ := hx_rf hT g_qo_ln tt_1 (k := 6) (u := 18) rfl
  obtain ⟨bfL, n_b_bf⟩ : ∃ g : Nat → Int32, hl1.2.1 b_bf = g := ⟨_, rfl⟩
  obtain ⟨hBD, hDY⟩ := hkBD qo_ln b_df b_bf f_qo_ln f_b_df f_b_bf; rw [n_b_df, n_b_bf, f_o_ln] at hBD; rw [n_b_df, f_o_ln] at hDY
  have hBDm := hy_BD_c eb_df hBD
  have hDYm : hy_DY F_df ln.toInt.toNat := fun x hx => by rw [← eb_df x hx]; exact hDY x hx
  have sb_list := hLQ qw ql qc f_qw f_ql f_qc
  obtain ⟨m_lst, f_m_lst, g_m_lst⟩ := hx_rf hT gm tt_10 (k := 91) (u := 112) rfl
  obtain ⟨F_lst, n_lst⟩ : ∃ g : Nat → Int32, hl1.2.1 m_lst = g := ⟨_, rfl⟩
  obtain ⟨c_lst, cl_lst⟩ : ∃ g : Nat → Int32, hx_col 8 hl1 ql 0 = g := ⟨_, rfl⟩
  have eq_lst := hLE qw ql m_lst f_qw f_ql f_m_lst; rw [cl_lst, n_lst] at eq_lst
  obtain ⟨c_dead, cl_dead⟩ : ∃ g : Nat → Int32, hx_col 40 hl1 qp 7 = g := ⟨_, rfl⟩
  obtain ⟨m_dead, f_m_dead, g_m_dead⟩ := hx_rf hT gm tt_10 (k := 27) (u := 64) rfl
  obtain ⟨F_dead, n_dead⟩ : ∃ g : Nat → Int32, hl1.2.1 m_dead = g := ⟨_, rfl⟩
  have eq_dead := hc_dead qp m_dead f_qp f_m_dead; rw [cl_dead, n_dead] at eq_dead
  have z_dead : np.toInt.toNat < 40 → c_dead np.toInt.toNat = 0 := fun hj => hx_num_z nu_qp cl_dead hj (by omega)
  obtain ⟨c_isj, cl_isj⟩ : ∃ g : Nat → Int32, hx_col 40 hl1 qp 8 = g := ⟨_, rfl⟩
  obtain ⟨m_isj, f_m_isj, g_m_isj⟩ := hx_rf hT gm tt_10 (k := 28) (u := 65) rfl
  obtain ⟨F_isj, n_isj⟩ : ∃ g : Nat → Int32, hl1.2.1 m_isj = g := ⟨_, rfl⟩
  have eq_isj := hc_isj qp m_isj f_qp f_m_isj; rw [cl_isj, n_isj] at eq_isj
  have z_isj : np.toInt.toNat < 40 → c_isj np.toInt.toNat = 0 := fun hj => hx_num_z nu_qp cl_isj hj (by omega)
  obtain ⟨c_dox, cl_dox⟩ : ∃ g : Nat → Int32, hx_col 40 hl1 qp 5 = g := ⟨_, rfl⟩
  obtain ⟨m_dox, f_m_dox, g_m_dox⟩ := hx_rf hT gm tt_10 (k := 24) (u := 61) rfl
  obtain ⟨F_dox, n_dox⟩ : ∃ g : Nat → Int32, hl1.2.1 m_dox = g := ⟨_, rfl⟩
  have eq_dox := hc_dox qp m_dox f_qp f_m_dox; rw [cl_dox, n_dox] at eq_dox
  have z_dox : np.toInt.toNat < 40 → c_dox np.toInt.toNat = 0 := fun hj => hx_num_z nu_qp cl_dox hj (by omega)
  obtain ⟨c_doy, cl_doy⟩ : ∃ g : Nat → Int32, hx_col 40 hl1 qp 6 = g := ⟨_, rfl⟩
  obtain ⟨m_doy, f_m_doy, g_m_doy⟩ := hx_rf hT gm tt_10 (k := 25) (u := 62) rfl
  obtain ⟨F_doy, n_doy⟩ : ∃ g : Nat → Int32, hl1.2.1 m_doy = g := ⟨_, rfl⟩
  have eq_doy := hc_doy qp m_doy f_qp f_m_doy; rw [cl_doy, n_doy] at eq_doy
  have z_doy : np.toInt.toNat < 40 → c_doy np.toInt.toNat = 0 := fun hj => hx_num_z nu_qp cl_doy hj (by omega)
  obtain ⟨c_fou, cl_fou⟩ : ∃ g : Nat → Int32, hx_col 100 hl1 qc 10 = g := ⟨_, rfl⟩
  have eq_fou := hc_fou qc m_fou f_qc f_m_fou; rw [cl_fou, n_m_fou] at eq_fou
  have z_fou : c0.toInt.toNat < 100 → c_fou c0.toInt.toNat = 0 := fun hj => hx_num_z nu_qc cl_fou hj (by omega)
  obtain ⟨c_tri, cl_tri⟩ : ∃ g : Nat → Int32, hx_col 100 hl1 qc 9 = g := ⟨_, rfl⟩
  have eq_tri := hc_tri qc mt f_qc f_mt; rw [cl_tri, n_mt] at eq_tri
  have z_tri : c0.toInt.toNat < 100 → c_tri c0.toInt.toNat = 0 := fun hj => hx_num_z nu_qc cl_tri hj (by omega)
  obtain ⟨qlt, f_qlt, g_qlt⟩ := hx_rf hT g_qw tt_8 (k := 2) (u := 39) rfl
  obtain ⟨qlf, f_qlf, g_qlf⟩ := hx_rf hT g_qw tt_8 (k := 4) (u := 41) rfl
  obtain ⟨m_wkd, f_m_wkd, g_m_wkd⟩ := hx_rf hT gm tt_10 (k := 93) (u := 113) rfl
  obtain ⟨F_qlt, n_qlt⟩ : ∃ g : Nat → Int32, hl1.2.1 qlt = g := ⟨_, rfl⟩
  obtain ⟨F_m_wkd, n_m_wkd⟩ : ∃ g : Nat → Int32, hl1.2.1 m_wkd = g := ⟨_, rfl⟩
  have eb_wkd := hkWD qw qlt m_wkd f_qw f_qlt f_m_wkd; rw [n_qlt, n_m_wkd, f_o_wkm] at eb_wkd
  obtain ⟨m_aga, f_m_aga, g_m_aga⟩ := hx_rf hT gm tt_10 (k := 38) (u := 73) rfl
  obtain ⟨F_aga, n_aga⟩ : ∃ g : Nat → Int32, hl1.2.1 m_aga = g := ⟨_, rfl⟩
  have hDF := hkDF qc qp m_aga f_qc f_qp f_m_aga; rw [n_aga, f_x_claimCount] at hDF
  have hwd := jw mw f_mw; rw [n_mw] at hwd
  have hWK := jr mr f_mr; rw [n_mr, f_m_acts] at hWK
  have hRP := jp mp mn f_mp f_mn; rw [n_mp, n_mn, f_m_acts] at hRP
  have hPL := jl ml f_ml; rw [n_ml, f_m_claims, f_m_acts] at hPL
  have hHC := jh mh f_mh; rw [n_mh, f_m_heardMany, f_m_claims] at hHC
  have hTR := jt mt f_mt; rw [n_mt] at hTR
  have hHF := jf mh m_fou f_mh f_m_fou; rw [n_mh, n_m_fou, f_m_claims] at hHF
  refine lv_aload_n hx hb dL_law_1076 rfl (lv_at hl 2 rfl) ?_
  refine lv_aload_n hx hb dL_law_1077 rfl (lv_at hl 3 rfl) ?_
  refine lv_iload_n hx hb dL_law_1078 rfl (lv_at hl 0 rfl) ?_
  refine lv_iconst (v := 1) hx hb dL_law_1079 (by decide) ?_
  refine lv_iadd hx hb dL_law_1080 ?_
  have rg_533 := i32_r i
  refine lv_topi (fun x_534 ex_534 => ?_)
  have zx_534 : x_534.toInt = i.toInt + 1 := by rw [ex_534]; exact i32_add rfl (by decide) (by omega) (by omega)
  refine va_sld hx hb hX hbl hbA hW.2.2.2.1 (vp_in_iff.mpr ⟨by omega, by omega⟩) dL_law_1081 ?_
  refine lv_topi (fun x_535 ex_535 => ?_)
  refine lv_aload_n hx hb dL_law_1082 rfl (lv_at hl 3 rfl) ?_
  refine lv_iload_n hx hb dL_law_1083 rfl (lv_at hl 0 rfl) ?_
  refine lv_iconst (v := 2) hx hb dL_law_1084 (by decide) ?_
  refine lv_iadd hx hb dL_law_1085 ?_
  refine lv_topi (fun x_536 ex_536 => ?_)
  have zx_536 : x_536.toInt = i.toInt + 2 := by rw [ex_536]; exact i32_add rfl (by decide) (by omega) (by omega)
  refine va_sld hx hb hX hbl hbA hW.2.2.2.1 (vp_in_iff.mpr ⟨by omega, by omega⟩) dL_law_1086 ?_
  refine lv_topi (fun x_537 ex_537 => ?_)
  refine lv_aload_n hx hb dL_law_1087 rfl (lv_at hl 3 rfl) ?_
  refine lv_iload_n hx hb dL_law_1088 rfl (lv_at hl 0 rfl) ?_
  refine lv_iconst (v := 3) hx hb dL_law_1089 (by decide) ?_
  refine lv_iadd hx hb dL_law_1090 ?_
  refine lv_topi (fun x_538 ex_538 => ?_)
  have zx_538 : x_538.toInt = i.toInt + 3 := by rw [ex_538]; exact i32_add rfl (by decide) (by omega) (by omega)
  refine va_sld hx hb hX hbl hbA hW.2.2.2.1 (vp_in_iff.mpr ⟨by omega, by omega⟩) dL_law_1091 ?_
  refine lv_topi (fun x_539 ex_539 => ?_)
  refine lv_aload_n hx hb dL_law_1092 rfl (lv_at hl 3 rfl) ?_
  refine lv_iload_n hx hb dL_law_1093 rfl (lv_at hl 0 rfl) ?_
  refine lv_iconst (v := 4) hx hb dL_law_1094 (by decide) ?_
  refine lv_iadd hx hb dL_law_1095 ?_
  refine lv_topi (fun x_540 ex_540 => ?_)
  have zx_540 : x_540.toInt = i.toInt + 4 := by rw [ex_540]; exact i32_add rfl (by decide) (by omega) (by omega)
  refine va_sld hx hb hX hbl hbA hW.2.2.2.1 (vp_in_iff.mpr ⟨by omega, by omega⟩) dL_law_1096 ?_
  refine lv_topi (fun x_541 ex_541 => ?_)
  have hTo := hT
  refine hx_goi (hx_runVX (As := [.int x_535, .int x_537, .int x_539, .int x_541]) (rest := []) ⟨hx, hb, hml, hown, hts⟩ hW gx tt_9 (T := TX9) (N := 20) rfl (t_X9_state l dC dI dA L1 hl1 H.size b0 ax x_535 x_537 x_539 x_541 hT gx qc g_qc f_qc pf_qc) hZ (cwV 4 hts (hx_gV kw_937 kw_934 kw_935 kw_936 kw_94) rfl rfl rfl (by decide +kernel) ⟨Nat.le_of_ble_eq_true rfl, Nat.le_of_ble_eq_true rfl⟩) rfl hl.1 rfl (Nat.le_of_ble_eq_true rfl) dL_law_1097 ⟨(show CC + 0 ≤ 600000 from by omega), (show SS + 0 ≤ 7302250 from by omega)⟩) hW (fun r_544 L_542 h_543 H locs p_545 hW => ?_)
  obtain ⟨hr_546, hT, hs⟩ := p_545
  replace hT : hx_T T_tb L_542 h_543 := hT
  replace hs : hx_S T_tb [] L1 hl1 L_542 h_543 := hs
  replace f_qa := (hs.o gx trivial rfl).2.trans f_qa
  replace f_qp := (hs.o gx trivial rfl).2.trans f_qp
  replace f_qc := (hs.o gx trivial rfl).2.trans f_qc
  replace f_qh := (hs.o gx trivial rfl).2.trans f_qh
  replace f_qw := (hs.o gx trivial rfl).2.trans f_qw
  replace f_ql := (hs.o g_qw trivial rfl).2.trans f_ql
  replace f_m_now := (hs.o gm trivial rfl).1.trans f_m_now
  replace f_m_persons := (hs.o gm trivial rfl).1.trans f_m_persons
  replace f_m_claims := (hs.o gm trivial rfl).1.trans f_m_claims
  replace f_m_lines := (hs.o gm trivial rfl).1.trans f_m_lines
  replace f_m_listed := (hs.o gm trivial rfl).1.trans f_m_listed
  replace f_m_walkedMany := (hs.o gm trivial rfl).1.trans f_m_walkedMany
  replace f_m_acts := (hs.o gm trivial rfl).1.trans f_m_acts
  replace f_m_heardMany := (hs.o gm trivial rfl).1.trans f_m_heardMany
  replace f_x_now := (hs.o gx trivial rfl).1.trans f_x_now
  replace f_x_personCount := (hs.o gx trivial rfl).1.trans f_x_personCount
  replace f_x_claimCount := (hs.o gx trivial rfl).1.trans f_x_claimCount
  replace f_mw := (hs.o gm trivial rfl).2.trans f_mw
  replace f_mr := (hs.o gm trivial rfl).2.trans f_mr
  replace f_mp := (hs.o gm trivial rfl).2.trans f_mp
  replace f_mn := (hs.o gm trivial rfl).2.trans f_mn
  replace f_ml := (hs.o gm trivial rfl).2.trans f_ml
  replace f_mh := (hs.o gm trivial rfl).2.trans f_mh
  replace f_mt := (hs.o gm trivial rfl).2.trans f_mt
  replace f_m_fou := (hs.o gm trivial rfl).2.trans f_m_fou
  replace f_qo_ln := (hs.o gx trivial rfl).2.trans f_qo_ln
  replace f_o_ln := (hs.o g_qo_ln trivial rfl).1.trans f_o_ln
  replace f_o_lsd := (hs.o g_qw trivial rfl).1.trans f_o_lsd
  replace f_o_wkm := (hs.o g_qw trivial rfl).1.trans f_o_wkm
  replace f_b_of := (hs.o g_qo_ln trivial rfl).2.trans f_b_of
  replace f_m_of := (hs.o gm trivial rfl).2.trans f_m_of
  replace f_b_wf := (hs.o g_qo_ln trivial rfl).2.trans f_b_wf
  replace f_m_wf := (hs.o gm trivial rfl).2.trans f_m_wf
  replace f_b_df := (hs.o g_qo_ln trivial rfl).2.trans f_b_df
  replace f_m_df := (hs.o gm trivial rfl).2.trans f_m_df
  replace f_b_kf := (hs.o g_qo_ln trivial rfl).2.trans f_b_kf
  replace f_m_kf := (hs.o gm trivial rfl).2.trans f_m_kf
  replace f_b_sf := (hs.o g_qo_ln trivial rfl).2.trans f_b_sf
  replace f_m_sf := (hs.o gm trivial rfl).2.trans f_m_sf
  replace f_b_bf := (hs.o g_qo_ln trivial rfl).2.trans f_b_bf
  replace f_m_lst := (hs.o gm trivial rfl).2.trans f_m_lst
  replace f_m_dead := (hs.o gm trivial rfl).2.trans f_m_dead
  replace f_m_isj := (hs.o gm trivial rfl).2.trans f_m_isj
  replace f_m_dox := (hs.o gm trivial rfl).2.trans f_m_dox
  replace f_m_doy := (hs.o gm trivial rfl).2.trans f_m_doy
  replace f_qlt := (hs.o g_qw trivial rfl).2.trans f_qlt
  replace f_qlf := (hs.o g_qw trivial rfl).2.trans f_qlf
  replace f_m_wkd := (hs.o gm trivial rfl).2.trans f_m_wkd
  replace f_m_aga := (hs.o gm trivial rfl).2.trans f_m_aga
  replace pf_qa : ∀ j : Nat, (j : Int) < (h_543.2.1 ax 6).toInt → h_543.2.2 qa j ≠ none := by
    intro j hj; rw [(hs.o gx trivial rfl).1] at hj; rw [(hs.a g_qa rfl j).2]; exact pf_qa j hj
  replace pf_qp : ∀ j : Nat, (j : Int) < (h_543.2.1 ax 8).toInt → h_543.2.2 qp j ≠ none := by
    intro j hj; rw [(hs.o gx trivial rfl).1] at hj; rw [(hs.a g_qp rfl j).2]; exact pf_qp j hj
  replace pf_qc : ∀ j : Nat, (j : Int) < (h_543.2.1 ax 11).toInt → h_543.2.2 qc j ≠ none := by
    intro j hj; rw [(hs.o gx trivial rfl).1] at hj; rw [(hs.a g_qc rfl j).2]; exact pf_qc j hj
  replace pf_qh : ∀ j : Nat, (j : Int) < (h_543.2.1 ax 13).toInt → h_543.2.2 qh j ≠ none := by
    intro j hj; rw [(hs.o gx trivial rfl).1] at hj; rw [(hs.a g_qh rfl j).2]; exact pf_qh j hj
  replace pf_ql : ∀ j : Nat, (j : Int) < (h_543.2.1 qw 0).toInt → h_543.2.2 ql j ≠ none := by
    intro j hj; rw [(hs.o g_qw trivial rfl).1] at hj; rw [(hs.a g_ql rfl j).2]; exact pf_ql j hj
  replace cl_lst : hx_col 8 h_543 ql 0 = c_lst := (hx_col_S hs hTo g_ql tt_40 tt_2 rfl rfl).trans cl_lst
  replace cl_dead : hx_col 40 h_543 qp 7 = c_dead := (hx_col_S hs hTo g_qp tt_44 tt_4 rfl rfl).trans cl_dead
  replace cl_isj : hx_col 40 h_543 qp 8 = c_isj := (hx_col_S hs hTo g_qp tt_44 tt_4 rfl rfl).trans cl_isj
  replace cl_dox : hx_col 40 h_543 qp 5 = c_dox := (hx_col_S hs hTo g_qp tt_44 tt_4 rfl rfl).trans cl_dox
  replace cl_doy : hx_col 40 h_543 qp 6 = c_doy := (hx_col_S hs hTo g_qp tt_44 tt_4 rfl rfl).trans cl_doy
  replace cl_fou : hx_col 100 h_543 qc 10 = c_fou := (hx_col_S hs hTo g_qc tt_45 tt_2 rfl rfl).trans cl_fou
  replace cl_tri : hx_col 100 h_543 qc 9 = c_tri := (hx_col_S hs hTo g_qc tt_45 tt_2 rfl rfl).trans cl_tri
  replace nu_qp : hx_num 40 h_543 qp 0 (np.toInt) := hx_num_S hs hTo g_qp tt_44 tt_4 rfl rfl nu_qp
  replace nu_qc : hx_num 100 h_543 qc 0 (c0.toInt) := hx_num_S hs hTo g_qc tt_45 tt_2 rfl rfl nu_qc
  replace sb_list : hx_LQ 8 100 h_543 ql qc := hx_LQ_S hs g_ql g_qc rfl rfl sb_list
  replace hDF : hw_DF h_543 qc qp 2 F_aga c0.toInt := hw_DF_S hs hTo g_qc g_qp tt_45 tt_2 rfl rfl rfl hDF
  replace n_mw : h_543.2.1 mw = F_mw := (funext fun j => (hs.a g_mw rfl j).1).trans n_mw
  replace n_mr : h_543.2.1 mr = F_mr := (funext fun j => (hs.a g_mr rfl j).1).trans n_mr
  replace n_mp : h_543.2.1 mp = F_mp := (funext fun j => (hs.a g_mp rfl j).1).trans n_mp
  replace n_mn : h_543.2.1 mn = F_mn := (funext fun j => (hs.a g_mn rfl j).1).trans n_mn
  replace n_ml : h_543.2.1 ml = F_ml := (funext fun j => (hs.a g_ml rfl j).1).trans n_ml
  replace n_mh : h_543.2.1 mh = F_mh := (funext fun j => (hs.a g_mh rfl j).1).trans n_mh
  replace n_mt : h_543.2.1 mt = F_mt := (funext fun j => (hs.a g_mt rfl j).1).trans n_mt
  replace n_m_fou : h_543.2.1 m_fou = F_m_fou := (funext fun j => (hs.a g_m_fou rfl j).1).trans n_m_fou
  replace n_b_of : h_543.2.1 b_of = B_of := (funext fun j => (hs.a g_b_of rfl j).1).trans n_b_of
  replace n_m_of : h_543.2.1 m_of = F_of := (funext fun j => (hs.a g_m_of rfl j).1).trans n_m_of
  replace n_b_wf : h_543.2.1 b_wf = B_wf := (funext fun j => (hs.a g_b_wf rfl j).1).trans n_b_wf
  replace n_m_wf : h_543.2.1 m_wf = F_wf := (funext fun j => (hs.a g_m_wf rfl j).1).trans n_m_wf
  replace n_b_df : h_543.2.1 b_df = B_df := (funext fun j => (hs.a g_b_df rfl j).1).trans n_b_df
  replace n_m_df : h_543.2.1 m_df = F_df := (funext fun j => (hs.a g_m_df rfl j).1).trans n_m_df
  replace n_b_kf : h_543.2.1 b_kf = B_kf := (funext fun j => (hs.a g_b_kf rfl j).1).trans n_b_kf
  replace n_m_kf : h_543.2.1 m_kf = F_kf := (funext fun j => (hs.a g_m_kf rfl j).1).trans n_m_kf
  replace n_b_sf : h_543.2.1 b_sf = B_sf := (funext fun j => (hs.a g_b_sf rfl j).1).trans n_b_sf
  replace n_m_sf : h_543.2.1 m_sf = F_sf := (funext fun j => (hs.a g_m_sf rfl j).1).trans n_m_sf
  replace n_b_bf : h_543.2.1 b_bf = bfL := (funext fun j => (hs.a g_b_bf rfl j).1).trans n_b_bf
  replace n_lst : h_543.2.1 m_lst = F_lst := (funext fun j => (hs.a g_m_lst rfl j).1).trans n_lst
  replace n_dead : h_543.2.1 m_dead = F_dead := (funext fun j => (hs.a g_m_dead rfl j).1).trans n_dead
  replace n_isj : h_543.2.1 m_isj = F_isj := (funext fun j => (hs.a g_m_isj rfl j).1).trans n_isj
  replace n_dox : h_543.2.1 m_dox = F_dox := (funext fun j => (hs.a g_m_dox rfl j).1).trans n_dox
  replace n_doy : h_543.2.1 m_doy = F_doy := (funext fun j => (hs.a g_m_doy rfl j).1).trans n_doy
  replace n_qlt : h_543.2.1 qlt = F_qlt := (funext fun j => (hs.a g_qlt rfl j).1).trans n_qlt
  replace n_m_wkd : h_543.2.1 m_wkd = F_m_wkd := (funext fun j => (hs.a g_m_wkd rfl j).1).trans n_m_wkd
  replace n_aga : h_543.2.1 m_aga = F_aga := (funext fun j => (hs.a g_m_aga rfl j).1).trans n_aga
  replace gx := gx.S hs
  replace gm := gm.S hs
  replace g_qa := g_qa.S hs
  replace g_qp := g_qp.S hs
  replace g_qc := g_qc.S hs
  replace g_qh := g_qh.S hs
  replace g_qw := g_qw.S hs
  replace g_ql := g_ql.S hs
  replace g_mw := g_mw.S hs
  replace g_mr := g_mr.S hs
  replace g_mp := g_mp.S hs
  replace g_mn := g_mn.S hs
  replace g_ml := g_ml.S hs
  replace g_mh := g_mh.S hs
  replace g_mt := g_mt.S hs
  replace g_m_fou := g_m_fou.S hs
  replace g_qo_ln := g_qo_ln.S hs
  replace g_b_of := g_b_of.S hs
  replace g_m_of := g_m_of.S hs
  replace g_b_wf := g_b_wf.S hs
  replace g_m_wf := g_m_wf.S hs
  replace g_b_df := g_b_df.S hs
  replace g_m_df := g_m_df.S hs
  replace g_b_kf := g_b_kf.S hs
  replace g_m_kf := g_m_kf.S hs
  replace g_b_sf := g_b_sf.S hs
  replace g_m_sf := g_m_sf.S hs
  replace g_b_bf := g_b_bf.S hs
  replace g_m_lst := g_m_lst.S hs
  replace g_m_dead := g_m_dead.S hs
  replace g_m_isj := g_m_isj.S hs
  replace g_m_dox := g_m_dox.S hs
  replace g_m_doy := g_m_doy.S hs
  replace g_qlt := g_qlt.S hs
  replace g_qlf := g_qlf.S hs
  replace g_m_wkd := g_m_wkd.S hs
  replace g_m_aga := g_m_aga.S hs
  refine lv_pop hx hb dL_law_1100 rfl ?_
  refine lv_aload_n hx hb dL_law_1101 rfl (lv_at hl 1 rfl) ?_
  refine lv_aload_n hx hb dL_law_1102 rfl (lv_at hl 3 rfl) ?_
  refine lv_iload_n hx hb dL_law_1103 rfl (lv_at hl 0 rfl) ?_
  refine lv_iconst (v := 1) hx hb dL_law_1104 (by decide) ?_
  refine lv_iadd hx hb dL_law_1105 ?_
  refine lv_topi (fun x_547 ex_547 => ?_)
  have zx_547 : x_547.toInt = i.toInt + 1 := by rw [ex_547]; exact i32_add rfl (by decide) (by omega) (by omega)
  obtain rfl : x_534 = x_547 := ex_534.trans ex_547.symm
  refine va_sld hx hb hX hbl hbA hW.2.2.2.1 (vp_in_iff.mpr ⟨by omega, by omega⟩) dL_law_1106 ?_
  refine lv_topi (fun x_548 ex_548 => ?_)
  obtain rfl : x_535 = x_548 := ex_535.trans ex_548.symm
  refine lv_aload_n hx hb dL_law_1107 rfl (lv_at hl 3 rfl) ?_
  refine lv_iload_n hx hb dL_law_1108 rfl (lv_at hl 0 rfl) ?_
  refine lv_iconst (v := 2) hx hb dL_law_1109 (by decide) ?_
  refine lv_iadd hx hb dL_law_1110 ?_
  refine lv_topi (fun x_549 ex_549 => ?_)
  have zx_549 : x_549.toInt = i.toInt + 2 := by rw [ex_549]; exact i32_add rfl (by decide) (by omega) (by omega)
  obtain rfl : x_536 = x_549 := ex_536.trans ex_549.symm
  refine va_sld hx hb hX hbl hbA hW.2.2.2.1 (vp_in_iff.mpr ⟨by omega, by omega⟩) dL_law_1111 ?_
  refine lv_topi (fun x_550 ex_550 => ?_)
  obtain rfl : x_537 = x_550 := ex_537.trans ex_550.symm
  refine lv_aload_n hx hb dL_law_1112 rfl (lv_at hl 3 rfl) ?_
  refine lv_iload_n hx hb dL_law_1113 rfl (lv_at hl 0 rfl) ?_
  refine lv_iconst (v := 3) hx hb dL_law_1114 (by decide) ?_
  refine lv_iadd hx hb dL_law_1115 ?_
  refine lv_topi (fun x_551 ex_551 => ?_)
  have zx_551 : x_551.toInt = i.toInt + 3 := by rw [ex_551]; exact i32_add rfl (by decide) (by omega) (by omega)
  obtain rfl : x_538 = x_551 := ex_538.trans ex_551.symm
  refine va_sld hx hb hX hbl hbA hW.2.2.2.1 (vp_in_iff.mpr ⟨by omega, by omega⟩) dL_law_1116 ?_
  refine lv_topi (fun x_552 ex_552 => ?_)
  obtain rfl : x_539 = x_552 := ex_539.trans ex_552.symm
  refine lv_aload_n hx hb dL_law_1117 rfl (lv_at hl 3 rfl) ?_
  refine lv_iload_n hx hb dL_law_1118 rfl (lv_at hl 0 rfl) ?_
  refine lv_iconst (v := 4) hx hb dL_law_1119 (by decide) ?_
  refine lv_iadd hx hb dL_law_1120 ?_
  refine lv_topi (fun x_553 ex_553 => ?_)
  have zx_553 : x_553.toInt = i.toInt + 4 := by rw [ex_553]; exact i32_add rfl (by decide) (by omega) (by omega)
  obtain rfl : x_540 = x_553 := ex_540.trans ex_553.symm
  refine va_sld hx hb hX hbl hbA hW.2.2.2.1 (vp_in_iff.mpr ⟨by omega, by omega⟩) dL_law_1121 ?_
  refine lv_topi (fun x_554 ex_554 => ?_)
  obtain rfl : x_541 = x_554 := ex_541.trans ex_554.symm
  have hTo := hT
  refine hx_goi (hx_runV (As := [.int x_535, .int x_537, .int x_539, .int x_541]) (rest := []) ⟨hx, hb, hml, hown, hts⟩ hW gm tt_10 (T := TX10) (N := 98) rfl (t_X10_state l dC dI dA L_542 h_543 H.size am x_535 x_537 x_539 x_541 hT gm) (cwV 4 hts (hx_gV kw_1673 kw_1670 kw_1671 kw_1672 kw_103) rfl rfl rfl (by decide +kernel) ⟨Nat.le_of_ble_eq_true rfl, Nat.le_of_ble_eq_true rfl⟩) rfl hl.1 rfl (Nat.le_of_ble_eq_true rfl) dL_law_1122 ⟨(show CC + 0 + 0 ≤ 600000 from by omega), (show SS + 0 + 0 ≤ 7302250 from by omega)⟩) hW (fun r_557 L_555 h_556 H locs p_558 hW => ?_)
  obtain ⟨hr_559, hT, hs⟩ := p_558
  replace hT : hx_T T_tb L_555 h_556 := hT
  replace hs : hx_S T_tb [(10, 67), (10, 68), (10, 69), (10, 70), (10, 71)] L_542 h_543 L_555 h_556 := hs
  replace f_qa := (hs.o gx trivial rfl).2.trans f_qa
  replace f_qp := (hs.o gx trivial rfl).2.trans f_qp
  replace f_qc := (hs.o gx trivial rfl).2.trans f_qc
  replace f_qh := (hs.o gx trivial rfl).2.trans f_qh
  replace f_qw := (hs.o gx trivial rfl).2.trans f_qw
  replace f_ql := (hs.o g_qw trivial rfl).2.trans f_ql
  replace f_m_now := (hs.o gm trivial rfl).1.trans f_m_now
  replace f_m_persons := (hs.o gm trivial rfl).1.trans f_m_persons
  replace f_m_claims := (hs.o gm trivial rfl).1.trans f_m_claims
  replace f_m_lines := (hs.o gm trivial rfl).1.trans f_m_lines
  replace f_m_listed := (hs.o gm trivial rfl).1.trans f_m_listed
  replace f_m_walkedMany := (hs.o gm trivial rfl).1.trans f_m_walkedMany
  replace f_m_acts := (hs.o gm trivial rfl).1.trans f_m_acts
  replace f_m_heardMany := (hs.o gm trivial rfl).1.trans f_m_heardMany
  replace f_x_now := (hs.o gx trivial rfl).1.trans f_x_now
  replace f_x_personCount := (hs.o gx trivial rfl).1.trans f_x_personCount
  replace f_x_claimCount := (hs.o gx trivial rfl).1.trans f_x_claimCount
  replace f_mw := (hs.o gm trivial rfl).2.trans f_mw
  replace f_mr := (hs.o gm trivial rfl).2.trans f_mr
  replace f_mp := (hs.o gm trivial rfl).2.trans f_mp
  replace f_mn := (hs.o gm trivial rfl).2.trans f_mn
  replace f_ml := (hs.o gm trivial rfl).2.trans f_ml
  replace f_mh := (hs.o gm trivial rfl).2.trans f_mh
  replace f_mt := (hs.o gm trivial rfl).2.trans f_mt
  replace f_m_fou := (hs.o gm trivial rfl).2.trans f_m_fou
  replace f_qo_ln := (hs.o gx trivial rfl).2.trans f_qo_ln
  replace f_o_ln := (hs.o g_qo_ln trivial rfl).1.trans f_o_ln
  replace f_o_lsd := (hs.o g_qw trivial rfl).1.trans f_o_lsd
  replace f_o_wkm := (hs.o g_qw trivial rfl).1.trans f_o_wkm
  replace f_b_of := (hs.o g_qo_ln trivial rfl).2.trans f_b_of
  replace f_m_of := (hs.o gm trivial rfl).2.trans f_m_of
  replace f_b_wf := (hs.o g_qo_ln trivial rfl).2.trans f_b_wf
  replace f_m_wf := (hs.o gm trivial rfl).2.trans f_m_wf
  replace f_b_df := (hs.o g_qo_ln trivial rfl).2.trans f_b_df
  replace f_m_df := (hs.o gm trivial rfl).2.trans f_m_df
  replace f_b_kf := (hs.o g_qo_ln trivial rfl).2.trans f_b_kf
  replace f_m_kf := (hs.o gm trivial rfl).2.trans f_m_kf
  replace f_b_sf := (hs.o g_qo_ln trivial rfl).2.trans f_b_sf
  replace f_m_sf := (hs.o gm trivial rfl).2.trans f_m_sf
  replace f_b_bf := (hs.o g_qo_ln trivial rfl).2.trans f_b_bf
  replace f_m_lst := (hs.o gm trivial rfl).2.trans f_m_lst
  replace f_m_dead := (hs.o gm trivial rfl).2.trans f_m_dead
  replace f_m_isj := (hs.o gm trivial rfl).2.trans f_m_isj
  replace f_m_dox := (hs.o gm trivial rfl).2.trans f_m_dox
  replace f_m_doy := (hs.o gm trivial rfl).2.trans f_m_doy
  replace f_qlt := (hs.o g_qw trivial rfl).2.trans f_qlt
  replace f_qlf := (hs.o g_qw trivial rfl).2.trans f_qlf
  replace f_m_wkd := (hs.o gm trivial rfl).2.trans f_m_wkd
  replace f_m_aga := (hs.o gm trivial rfl).2.trans f_m_aga
  replace pf_qa : ∀ j : Nat, (j : Int) < (h_556.2.1 ax 6).toInt → h_556.2.2 qa j ≠ none := by
    intro j hj; rw [(hs.o gx trivial rfl).1] at hj; rw [(hs.a g_qa rfl j).2]; exact pf_qa j hj
  replace pf_qp : ∀ j : Nat, (j : Int) < (h_556.2.1 ax 8).toInt → h_556.2.2 qp j ≠ none := by
    intro j hj; rw [(hs.o gx trivial rfl).1] at hj; rw [(hs.a g_qp rfl j).2]; exact pf_qp j hj
  replace pf_qc : ∀ j : Nat, (j : Int) < (h_556.2.1 ax 11).toInt → h_556.2.2 qc j ≠ none := by
    intro j hj; rw [(hs.o gx trivial rfl).1] at hj; rw [(hs.a g_qc rfl j).2]; exact pf_qc j hj
  replace pf_qh : ∀ j : Nat, (j : Int) < (h_556.2.1 ax 13).toInt → h_556.2.2 qh j ≠ none := by
    intro j hj; rw [(hs.o gx trivial rfl).1] at hj; rw [(hs.a g_qh rfl j).2]; exact pf_qh j hj
  replace pf_ql : ∀ j : Nat, (j : Int) < (h_556.2.1 qw 0).toInt → h_556.2.2 ql j ≠ none := by
    intro j hj; rw [(hs.o g_qw trivial rfl).1] at hj; rw [(hs.a g_ql rfl j).2]; exact pf_ql j hj
  replace cl_lst : hx_col 8 h_556 ql 0 = c_lst := (hx_col_S hs hTo g_ql tt_40 tt_2 rfl rfl).trans cl_lst
  replace cl_dead : hx_col 40 h_556 qp 7 = c_dead := (hx_col_S hs hTo g_qp tt_44 tt_4 rfl rfl).trans cl_dead
  replace cl_isj : hx_col 40 h_556 qp 8 = c_isj := (hx_col_S hs hTo g_qp tt_44 tt_4 rfl rfl).trans cl_isj
  replace cl_dox : hx_col 40 h_556 qp 5 = c_dox := (hx_col_S hs hTo g_qp tt_44 tt_4 rfl rfl).trans cl_dox
  replace cl_doy : hx_col 40 h_556 qp 6 = c_doy := (hx_col_S hs hTo g_qp tt_44 tt_4 rfl rfl).trans cl_doy
  replace cl_fou : hx_col 100 h_556 qc 10 = c_fou := (hx_col_S hs hTo g_qc tt_45 tt_2 rfl rfl).trans cl_fou
  replace cl_tri : hx_col 100 h_556 qc 9 = c_tri := (hx_col_S hs hTo g_qc tt_45 tt_2 rfl rfl).trans cl_tri
  replace nu_qp : hx_num 40 h_556 qp 0 (np.toInt) := hx_num_S hs hTo g_qp tt_44 tt_4 rfl rfl nu_qp
  replace nu_qc : hx_num 100 h_556 qc 0 (c0.toInt) := hx_num_S hs hTo g_qc tt_45 tt_2 rfl rfl nu_qc
  replace sb_list : hx_LQ 8 100 h_556 ql qc := hx_LQ_S hs g_ql g_qc rfl rfl sb_list
  replace hDF : hw_DF h_556 qc qp 2 F_aga c0.toInt := hw_DF_S hs hTo g_qc g_qp tt_45 tt_2 rfl rfl rfl hDF
  replace n_mw : h_556.2.1 mw = F_mw := (funext fun j => (hs.a g_mw rfl j).1).trans n_mw
  replace n_mr : h_556.2.1 mr = F_mr := (funext fun j => (hs.a g_mr rfl j).1).trans n_mr
  replace n_mp : h_556.2.1 mp = F_mp := (funext fun j => (hs.a g_mp rfl j).1).trans n_mp
  replace n_mn : h_556.2.1 mn = F_mn := (funext fun j => (hs.a g_mn rfl j).1).trans n_mn
  replace n_ml : h_556.2.1 ml = F_ml := (funext fun j => (hs.a g_ml rfl j).1).trans n_ml
  replace n_mh : h_556.2.1 mh = F_mh := (funext fun j => (hs.a g_mh rfl j).1).trans n_mh
  replace n_mt : h_556.2.1 mt = F_mt := (funext fun j => (hs.a g_mt rfl j).1).trans n_mt
  replace n_m_fou : h_556.2.1 m_fou = F_m_fou := (funext fun j => (hs.a g_m_fou rfl j).1).trans n_m_fou
  replace n_b_of : h_556.2.1 b_of = B_of := (funext fun j => (hs.a g_b_of rfl j).1).trans n_b_of
  replace n_m_of : h_556.2.1 m_of = F_of := (funext fun j => (hs.a g_m_of rfl j).1).trans n_m_of
  replace n_b_wf : h_556.2.1 b_wf = B_wf := (funext fun j => (hs.a g_b_wf rfl j).1).trans n_b_wf
  replace n_m_wf : h_556.2.1 m_wf = F_wf := (funext fun j => (hs.a g_m_wf rfl j).1).trans n_m_wf
  replace n_b_df : h_556.2.1 b_df = B_df := (funext fun j => (hs.a g_b_df rfl j).1).trans n_b_df
  replace n_m_df : h_556.2.1 m_df = F_df := (funext fun j => (hs.a g_m_df rfl j).1).trans n_m_df
  replace n_b_kf : h_556.2.1 b_kf = B_kf := (funext fun j => (hs.a g_b_kf rfl j).1).trans n_b_kf
  replace n_m_kf : h_556.2.1 m_kf = F_kf := (funext fun j => (hs.a g_m_kf rfl j).1).trans n_m_kf
  replace n_b_sf : h_556.2.1 b_sf = B_sf := (funext fun j => (hs.a g_b_sf rfl j).1).trans n_b_sf
  replace n_m_sf : h_556.2.1 m_sf = F_sf := (funext fun j => (hs.a g_m_sf rfl j).1).trans n_m_sf
  replace n_b_bf : h_556.2.1 b_bf = bfL := (funext fun j => (hs.a g_b_bf rfl j).1).trans n_b_bf
  replace n_lst : h_556.2.1 m_lst = F_lst := (funext fun j => (hs.a g_m_lst rfl j).1).trans n_lst
  replace n_dead : h_556.2.1 m_dead = F_dead := (funext fun j => (hs.a g_m_dead rfl j).1).trans n_dead
  replace n_isj : h_556.2.1 m_isj = F_isj := (funext fun j => (hs.a g_m_isj rfl j).1).trans n_isj
  replace n_dox : h_556.2.1 m_dox = F_dox := (funext fun j => (hs.a g_m_dox rfl j).1).trans n_dox
  replace n_doy : h_556.2.1 m_doy = F_doy := (funext fun j => (hs.a g_m_doy rfl j).1).trans n_doy
  replace n_qlt : h_556.2.1 qlt = F_qlt := (funext fun j => (hs.a g_qlt rfl j).1).trans n_qlt
  replace n_m_wkd : h_556.2.1 m_wkd = F_m_wkd := (funext fun j => (hs.a g_m_wkd rfl j).1).trans n_m_wkd
  replace n_aga : h_556.2.1 m_aga = F_aga := (funext fun j => (hs.a g_m_aga rfl j).1).trans n_aga
  replace gx := gx.S hs
  replace gm := gm.S hs
  replace g_qa := g_qa.S hs
  replace g_qp := g_qp.S hs
  replace g_qc := g_qc.S hs
  replace g_qh := g_qh.S hs
  replace g_qw := g_qw.S hs
  replace g_ql := g_ql.S hs
  replace g_mw := g_mw.S hs
  replace g_mr := g_mr.S hs
  replace g_mp := g_mp.S hs
  replace g_mn := g_mn.S hs
  replace g_ml := g_ml.S hs
  replace g_mh := g_mh.S hs
  replace g_mt := g_mt.S hs
  replace g_m_fou := g_m_fou.S hs
  replace g_qo_ln := g_qo_ln.S hs
  replace g_b_of := g_b_of.S hs
  replace g_m_of := g_m_of.S hs
  replace g_b_wf := g_b_wf.S hs
  replace g_m_wf := g_m_wf.S hs
  replace g_b_df := g_b_df.S hs
  replace g_m_df := g_m_df.S hs
  replace g_b_kf := g_b_kf.S hs
  replace g_m_kf := g_m_kf.S hs
  replace g_b_sf := g_b_sf.S hs
  replace g_m_sf := g_m_sf.S hs
  replace g_b_bf := g_b_bf.S hs
  replace g_m_lst := g_m_lst.S hs
  replace g_m_dead := g_m_dead.S hs
  replace g_m_isj := g_m_isj.S hs
  replace g_m_dox := g_m_dox.S hs
  replace g_m_doy := g_m_doy.S hs
  replace g_qlt := g_qlt.S hs
  replace g_qlf := g_qlf.S hs
  replace g_m_wkd := g_m_wkd.S hs
  replace g_m_aga := g_m_aga.S hs
  refine lv_pop hx hb dL_law_1125 rfl ?_
  refine lv_goto (tgt := 1379) hx hb dL_law_1126 (by decide) ?_
  refine W.widen (k := CC + 3) (n := SS + 179) (by omega) (by omega) ?_
  exact kk L_555 h_556 H locs ls hW ⟨hT, gx, gm, ⟨f_x_now.trans f_m_now.symm, f_x_personCount.trans f_m_persons.symm, f_x_claimCount.trans f_m_claims.symm, hx_ob f_qo_ln (f_o_ln.trans f_m_lines.symm), hx_ob f_qw (f_o_lsd.trans f_m_listed.symm), hx_ob f_qw (f_o_wkm.trans f_m_walkedMany.symm), hx_ob f_qp (by rw [f_x_personCount]; exact nu_qp), hx_ob f_qc (by rw [f_x_claimCount]; exact nu_qc), (fun b a r hb ha hr => by obtain rfl : qo_ln = b := Option.some.inj (f_qo_ln.symm.trans hb); obtain rfl : b_of = a := Option.some.inj (f_b_of.symm.trans ha); obtain rfl : m_of = r := Option.some.inj (f_m_of.symm.trans hr); rw [n_b_of, n_m_of, f_o_ln]; exact eb_of), (fun b a r hb ha hr => by obtain rfl : qo_ln = b := Option.some.inj (f_qo_ln.symm.trans hb); obtain rfl : b_wf = a := Option.some.inj (f_b_wf.symm.trans ha); obtain rfl : m_wf = r := Option.some.inj (f_m_wf.symm.trans hr); rw [n_b_wf, n_m_wf, f_o_ln]; exact eb_wf), (fun b a r hb ha hr => by obtain rfl : qo_ln = b := Option.some.inj (f_qo_ln.symm.trans hb); obtain rfl : b_df = a := Option.some.inj (f_b_df.symm.trans ha); obtain rfl : m_df = r := Option.some.inj (f_m_df.symm.trans hr); rw [n_b_df, n_m_df, f_o_ln]; exact eb_df), (fun b a r hb ha hr => by obtain rfl : qo_ln = b := Option.some.inj (f_qo_ln.symm.trans hb); obtain rfl : b_kf = a := Option.some.inj (f_b_kf.symm.trans ha); obtain rfl : m_kf = r := Option.some.inj (f_m_kf.symm.trans hr); rw [n_b_kf, n_m_kf, f_o_ln]; exact eb_kf), (fun b a r hb ha hr => by obtain rfl : qo_ln = b := Option.some.inj (f_qo_ln.symm.trans hb); obtain rfl : b_sf = a := Option.some.inj (f_b_sf.symm.trans ha); obtain rfl : m_sf = r := Option.some.inj (f_m_sf.symm.trans hr); rw [n_b_sf, n_m_sf, f_o_ln]; exact eb_sf), (fun b a r hb ha hr => by obtain rfl : qo_ln = b := Option.some.inj (f_qo_ln.symm.trans hb); obtain rfl : b_df = a := Option.some.inj (f_b_df.symm.trans ha); obtain rfl : b_bf = r := Option.some.inj (f_b_bf.symm.trans hr); rw [n_b_df, n_b_bf, f_o_ln]; exact ⟨hBD, hDY⟩), (fun w q c hw hq hc => by obtain rfl : qw = w := Option.some.inj (f_qw.symm.trans hw); obtain rfl : ql = q := Option.some.inj (f_ql.symm.trans hq); obtain rfl : qc = c := Option.some.inj (f_qc.symm.trans hc); exact sb_list), (fun w q r hw hq hr => by obtain rfl : qw = w := Option.some.inj (f_qw.symm.trans hw); obtain rfl : ql = q := Option.some.inj (f_ql.symm.trans hq); obtain rfl : m_lst = r := Option.some.inj (f_m_lst.symm.trans hr); rw [cl_lst, n_lst]; exact eq_lst), (fun w q r hw hq hr => by obtain rfl : qw = w := Option.some.inj (f_qw.symm.trans hw); obtain rfl : qlt = q := Option.some.inj (f_qlt.symm.trans hq); obtain rfl : m_wkd = r := Option.some.inj (f_m_wkd.symm.trans hr); rw [n_qlt, n_m_wkd, f_o_wkm]; exact eb_wkd), (fun c q a hc hq ha => by obtain rfl : qc = c := Option.some.inj (f_qc.symm.trans hc); obtain rfl : qp = q := Option.some.inj (f_qp.symm.trans hq); obtain rfl : m_aga = a := Option.some.inj (f_m_aga.symm.trans ha); rw [n_aga, f_x_claimCount]; exact hw_DF_e hDF rfl rfl), hx_ob2 f_qp f_m_dead (by rw [cl_dead, n_dead]; exact eq_dead), hx_ob2 f_qp f_m_isj (by rw [cl_isj, n_isj]; exact eq_isj), hx_ob2 f_qp f_m_dox (by rw [cl_dox, n_dox]; exact eq_dox), hx_ob2 f_qp f_m_doy (by rw [cl_doy, n_doy]; exact eq_doy), hx_ob2 f_qc f_m_fou (by rw [cl_fou, n_m_fou]; exact eq_fou), hx_ob2 f_qc f_mt (by rw [cl_tri, n_mt]; exact eq_tri), trivial⟩, ⟨hx_ob f_qa pf_qa, hx_ob f_qp pf_qp, hx_ob f_qc pf_qc, hx_ob f_qh pf_qh, (fun w q hw hq => by obtain rfl : qw = w := Option.some.inj (f_qw.symm.trans hw); obtain rfl : ql = q := Option.some.inj (f_ql.symm.trans hq); exact pf_ql)⟩, ⟨hx_ob f_mw (by rw [n_mw]; exact hwd), hx_ob f_mr (by rw [n_mr, f_m_acts]; exact hWK), hx_ob2 f_mp f_mn (by rw [n_mp, n_mn, f_m_acts]; exact hRP), hx_ob f_ml (by rw [n_ml, f_m_claims, f_m_acts]; exact hPL), hx_ob f_mh (by rw [n_mh, f_m_heardMany, f_m_claims]; exact hHC), hx_ob f_mt (by rw [n_mt]; exact (hx_TR_le hTR (by omega))), hx_ob2 f_mh f_m_fou (by rw [n_mh, n_m_fou, f_m_claims]; exact hHF)⟩⟩ hl

set_option maxHeartbeats 4000000 in
set_option maxRecDepth 100000 in
theorem law_case_21 {p : Program} {e : Env} {s : State} {m : MethodId} {below : List Frame} {meth : Method} {c : Code} (l : Launch) {b LN : Nat} {xs : Nat → Int32} (hx : p.tables.exec = Jvm.exec) (hb : c.code = code) (hr : meth.sig.returnType = ret) (hlocks : meth.locks = false) (hml : c.maxLocals = 4) (hown : s.vm.findClass "SmallCourtLaw" = some m.cls) (hts : ∀ w ∈ hx_all, w.before #[Value.ref b] s = true) (hX : va_X b LN xs s s.heap) (hbl : b < s.heap.size) (hbA : ¬ s.heap.size ≤ b) (hLN : LN ≤ 3584) (dC : Nat → ClassId) (dI : Nat → Nat → Nat) (dA : Nat → ClassId) (b0 : hx_z) (ax am : Nat) (T1 : Int) (hT0 : 0 ≤ T1) (hT1 : T1 ≤ 511) (i : Int32) (hi0 : 0 ≤ i.toInt) (hiL : i.toInt + 7 ≤ LN) (CC SS : Nat) (hCC : CC + 3 ≤ 600000) (hSS : SS + 179 ≤ 7302250) (L1 : List Nat) (hl1 : hx_h) (H : Heap) (locs : List Loc) (ls : Array Slot) (hW : hx_W T_tb (P_ty dA) (dC, dI) vwCl (fun q : Nat => s.heap.size ≤ q) s.heap L1 hl1 s H locs) (hZ : hx_Xt (fun q : Nat => s.heap.size ≤ q) b0 s) (hI : hx_IV T1 ax am L1 hl1) (hl : lv_has ls 4 [(3, .int i), (2, .ref am), (1, .ref ax), (0, .ref b)]) (kk : ∀ (L2 : List Nat) (h2 : hx_h) (H2 : Heap) (locs2 : List Loc) (ls2 : Array Slot), hx_W T_tb (P_ty dA) (dC, dI) vwCl (fun q : Nat => s.heap.size ≤ q) s.heap L2 h2 s H2 locs2 → hx_IV (T1 + 1) ax am L2 h2 → lv_has ls2 4 [(3, .int i), (2, .ref am), (1, .ref ax), (0, .ref b)] → W p l e room_1 s m #[Value.ref b] below meth c H2 locs2 (CC + 3) (SS + 179) (lw_Z below #[Value.ref b] s) (F0 m 1379 ls2 [])) : W p l e room_1 s m #[Value.ref b] below meth c H locs CC SS (lw_Z below #[Value.ref b] s) (F0 m 1129 ls []) := by
  obtain ⟨hT, gx, gm, ⟨he_nw, he_np, he_c0, ho_ln, ho_lsd, ho_wkm, hn_qp, hn_qc, hk_of, hk_wf, hk_df, hk_kf, hk_sf, hkBD, hLQ, hLE, hkWD, hkDF, hc_dead, hc_isj, hc_dox, hc_doy, hc_fou, hc_tri, -⟩, ⟨ia, ip, ic, ih, il⟩, ⟨jw, jr, jp, jl, jh, jt, jf⟩⟩ := hI
  obtain ⟨qa, f_qa, g_qa⟩ := hx_rf hT gx tt_9 (k := 5) (u := 43) rfl
  have pf_qa := ia qa f_qa
  obtain ⟨qp, f_qp, g_qp⟩ := hx_rf hT gx tt_9 (k := 7) (u := 44) rfl
  have pf_qp := ip qp f_qp
  obtain ⟨qc, f_qc, g_qc⟩ := hx_rf hT gx tt_9 (k := 10) (u := 45) rfl
  have pf_qc := ic qc f_qc
  obtain ⟨qh, f_qh, g_qh⟩ := hx_rf hT gx tt_9 (k := 12) (u := 46) rfl
  have pf_qh := ih qh f_qh
  obtain ⟨qw, f_qw, g_qw⟩ := hx_rf hT gx tt_9 (k := 19) (u := 8) rfl
  obtain ⟨ql, f_ql, g_ql⟩ := hx_rf hT g_qw tt_8 (k := 3) (u := 40) rfl
  have pf_ql := il qw ql f_qw f_ql
  obtain ⟨nw, f_m_now⟩ : ∃ y : Int32, hl1.2.1 am 0 = y := ⟨_, rfl⟩
  have b_nw := hT.gi gm tt_10 (k := 0) rfl
  rw [f_m_now] at b_nw
  have b_nw : 0 ≤ nw.toInt ∧ nw.toInt ≤ 7999 := b_nw
  obtain ⟨np, f_m_persons⟩ : ∃ y : Int32, hl1.2.1 am 20 = y := ⟨_, rfl⟩
  have b_np := hT.gi gm tt_10 (k := 20) rfl
  rw [f_m_persons] at b_np
  have b_np : 0 ≤ np.toInt ∧ np.toInt ≤ 40 := b_np
  obtain ⟨c0, f_m_claims⟩ : ∃ y : Int32, hl1.2.1 am 36 = y := ⟨_, rfl⟩
  have b_c0 := hT.gi gm tt_10 (k := 36) rfl
  rw [f_m_claims] at b_c0
  have b_c0 : 0 ≤ c0.toInt ∧ c0.toInt ≤ 100 := b_c0
  obtain ⟨ln, f_m_lines⟩ : ∃ y : Int32, hl1.2.1 am 29 = y := ⟨_, rfl⟩
  have b_ln := hT.gi gm tt_10 (k := 29) rfl
  rw [f_m_lines] at b_ln
  have b_ln : 0 ≤ ln.toInt ∧ ln.toInt ≤ 400 := b_ln
  obtain ⟨lsd, f_m_listed⟩ : ∃ y : Int32, hl1.2.1 am 90 = y := ⟨_, rfl⟩
  have b_lsd := hT.gi gm tt_10 (k := 90) rfl
  rw [f_m_listed] at b_lsd
  have b_lsd : 0 ≤ lsd.toInt ∧ lsd.toInt ≤ 8 := b_lsd
  obtain ⟨wkm, f_m_walkedMany⟩ : ∃ y : Int32, hl1.2.1 am 92 = y := ⟨_, rfl⟩
  have b_wkm := hT.gi gm tt_10 (k := 92) rfl
  rw [f_m_walkedMany] at b_wkm
  have b_wkm : 0 ≤ wkm.toInt ∧ wkm.toInt ≤ 8 := b_wkm
  obtain ⟨a0, f_m_acts⟩ : ∃ y : Int32, hl1.2.1 am 1 = y := ⟨_, rfl⟩
  have b_a0 := hT.gi gm tt_10 (k := 1) rfl
  rw [f_m_acts] at b_a0
  have b_a0 : 0 ≤ a0.toInt ∧ a0.toInt ≤ 8 := b_a0
  obtain ⟨m0, f_m_heardMany⟩ : ∃ y : Int32, hl1.2.1 am 57 = y := ⟨_, rfl⟩
  have b_m0 := hT.gi gm tt_10 (k := 57) rfl
  rw [f_m_heardMany] at b_m0
  have b_m0 : 0 ≤ m0.toInt ∧ m0.toInt ≤ 100 := b_m0
  have f_x_now : hl1.2.1 ax 2 = nw := he_nw.trans f_m_now
  have f_x_personCount : hl1.2.1 ax 8 = np := he_np.trans f_m_persons
  have f_x_claimCount : hl1.2.1 ax 11 = c0 := he_c0.trans f_m_claims
  obtain ⟨mw, f_mw, g_mw⟩ := hx_rf hT gm tt_10 (k := 19) (u := 57) rfl
  obtain ⟨F_mw, n_mw⟩ : ∃ g : Nat → Int32, hl1.2.1 mw = g := ⟨_, rfl⟩
  obtain ⟨mr, f_mr, g_mr⟩ := hx_rf hT gm tt_10 (k := 3) (u := 50) rfl
  obtain ⟨F_mr, n_mr⟩ : ∃ g : Nat → Int32, hl1.2.1 mr = g := ⟨_, rfl⟩
  obtain ⟨mp, f_mp, g_mp⟩ := hx_rf hT gm tt_10 (k := 5) (u := 52) rfl
  obtain ⟨F_mp, n_mp⟩ : ∃ g : Nat → Int32, hl1.2.1 mp = g := ⟨_, rfl⟩
  obtain ⟨mn, f_mn, g_mn⟩ := hx_rf hT gm tt_10 (k := 4) (u := 51) rfl
  obtain ⟨F_mn, n_mn⟩ : ∃ g : Nat → Int32, hl1.2.1 mn = g := ⟨_, rfl⟩
  obtain ⟨ml, f_ml, g_ml⟩ := hx_rf hT gm tt_10 (k := 44) (u := 79) rfl
  obtain ⟨F_ml, n_ml⟩ : ∃ g : Nat → Int32, hl1.2.1 ml = g := ⟨_, rfl⟩
  obtain ⟨mh, f_mh, g_mh⟩ := hx_rf hT gm tt_10 (k := 47) (u := 82) rfl
  obtain ⟨F_mh, n_mh⟩ : ∃ g : Nat → Int32, hl1.2.1 mh = g := ⟨_, rfl⟩
  obtain ⟨mt, f_mt, g_mt⟩ := hx_rf hT gm tt_10 (k := 45) (u := 80) rfl
  obtain ⟨F_mt, n_mt⟩ : ∃ g : Nat → Int32, hl1.2.1 mt = g := ⟨_, rfl⟩
  obtain ⟨m_fou, f_m_fou, g_m_fou⟩ := hx_rf hT gm tt_10 (k := 46) (u := 81) rfl
  obtain ⟨F_m_fou, n_m_fou⟩ : ∃ g : Nat → Int32, hl1.2.1 m_fou = g := ⟨_, rfl⟩
  obtain ⟨qo_ln, f_qo_ln, g_qo_ln⟩ := hx_rf hT gx tt_9 (k := 9) (u := 1) rfl
  have f_o_ln : hl1.2.1 qo_ln 0 = ln := (ho_ln qo_ln f_qo_ln).trans f_m_lines
  have f_o_lsd : hl1.2.1 qw 0 = lsd := (ho_lsd qw f_qw).trans f_m_listed
  have f_o_wkm : hl1.2.1 qw 1 = wkm := (ho_wkm qw f_qw).trans f_m_walkedMany
  have nu_qp := hn_qp qp f_qp; rw [f_x_personCount] at nu_qp
  have nu_qc := hn_qc qc f_qc; rw [f_x_claimCount] at nu_qc
  obtain ⟨b_of, f_b_of, g_b_of⟩ := hx_rf hT g_qo_ln tt_1 (k := 1) (u := 13) rfl
  obtain ⟨B_of, n_b_of⟩ : ∃ g : Nat → Int32, hl1.2.1 b_of = g := ⟨_, rfl⟩
  obtain ⟨m_of, f_m_of, g_m_of⟩ := hx_rf hT gm tt_10 (k := 30) (u := 66) rfl
  obtain ⟨F_of, n_m_of⟩ : ∃ g : Nat → Int32, hl1.2.1 m_of = g := ⟨_, rfl⟩
  have eb_of := hk_of qo_ln b_of m_of f_qo_ln f_b_of f_m_of; rw [n_b_of, n_m_of, f_o_ln] at eb_of
  obtain ⟨b_wf, f_b_wf, g_b_wf⟩ := hx_rf hT g_qo_ln tt_1 (k := 2) (u := 14) rfl
  obtain ⟨B_wf, n_b_wf⟩ : ∃ g : Nat → Int32, hl1.2.1 b_wf = g := ⟨_, rfl⟩
  obtain ⟨m_wf, f_m_wf, g_m_wf⟩ := hx_rf hT gm tt_10 (k := 31) (u := 67) rfl
  obtain ⟨F_wf, n_m_wf⟩ : ∃ g : Nat → Int32, hl1.2.1 m_wf = g := ⟨_, rfl⟩
  have eb_wf := hk_wf qo_ln b_wf m_wf f_qo_ln f_b_wf f_m_wf; rw [n_b_wf, n_m_wf, f_o_ln] at eb_wf
  obtain ⟨b_df, f_b_df, g_b_df⟩ := hx_rf hT g_qo_ln tt_1 (k := 3) (u := 15) rfl
  obtain ⟨B_df, n_b_df⟩ : ∃ g : Nat → Int32, hl1.2.1 b_df = g := ⟨_, rfl⟩
  obtain ⟨m_df, f_m_df, g_m_df⟩ := hx_rf hT gm tt_10 (k := 32) (u := 68) rfl
  obtain ⟨F_df, n_m_df⟩ : ∃ g : Nat → Int32, hl1.2.1 m_df = g := ⟨_, rfl⟩
  have eb_df := hk_df qo_ln b_df m_df f_qo_ln f_b_df f_m_df; rw [n_b_df, n_m_df, f_o_ln] at eb_df
  obtain ⟨b_kf, f_b_kf, g_b_kf⟩ := hx_rf hT g_qo_ln tt_1 (k := 4) (u := 16) rfl
  obtain ⟨B_kf, n_b_kf⟩ : ∃ g : Nat → Int32, hl1.2.1 b_kf = g := ⟨_, rfl⟩
  obtain ⟨m_kf, f_m_kf, g_m_kf⟩ := hx_rf hT gm tt_10 (k := 33) (u := 69) rfl
  obtain ⟨F_kf, n_m_kf⟩ : ∃ g : Nat → Int32, hl1.2.1 m_kf = g := ⟨_, rfl⟩
  have eb_kf := hk_kf qo_ln b_kf m_kf f_qo_ln f_b_kf f_m_kf; rw [n_b_kf, n_m_kf, f_o_ln] at eb_kf
  obtain ⟨b_sf, f_b_sf, g_b_sf⟩ := hx_rf hT g_qo_ln tt_1 (k := 5) (u := 17) rfl
  obtain ⟨B_sf, n_b_sf⟩ : ∃ g : Nat → Int32, hl1.2.1 b_sf = g := ⟨_, rfl⟩
  obtain ⟨m_sf, f_m_sf, g_m_sf⟩ := hx_rf hT gm tt_10 (k := 34) (u := 70) rfl
  obtain ⟨F_sf, n_m_sf⟩ : ∃ g : Nat → Int32, hl1.2.1 m_sf = g := ⟨_, rfl⟩
  have eb_sf := hk_sf qo_ln b_sf m_sf f_qo_ln f_b_sf f_m_sf; rw [n_b_sf, n_m_sf, f_o_ln] at eb_sf
  obtain ⟨b_bf, f_b_bf, g_b_bf⟩ := hx_rf hT g_qo_ln tt_1 (k := 6) (u := 18) rfl
  obtain ⟨bfL, n_b_bf⟩ : ∃ g : Nat → Int32, hl1.2.1 b_bf = g := ⟨_, rfl⟩
  obtain ⟨hBD, hDY⟩ := hkBD qo_ln b_df b_bf f_qo_ln f_b_df f_b_bf; rw [n_b_df, n_b_bf, f_o_ln] at hBD; rw [n_b_df, f_o_ln] at hDY
  have hBDm := hy_BD_c eb_df hBD
  have hDYm : hy_DY F_df ln.toInt.toNat := fun x hx => by rw [← eb_df x hx]; exact hDY x hx
  have sb_list := hLQ qw ql qc f_qw f_ql f_qc
  obtain ⟨m_lst, f_m_lst, g_m_lst⟩ := hx_rf hT gm tt_10 (k := 91) (u := 112) rfl
  obtain ⟨F_lst, n_lst⟩ : ∃ g : Nat → Int32, hl1.2.1 m_lst = g := ⟨_, rfl⟩
  obtain ⟨c_lst, cl_lst⟩ : ∃ g : Nat → Int32, hx_col 8 hl1 ql 0 = g := ⟨_, rfl⟩
  have eq_lst := hLE qw ql m_lst f_qw f_ql f_m_lst; rw [cl_lst, n_lst] at eq_lst
  obtain ⟨c_dead, cl_dead⟩ : ∃ g : Nat → Int32, hx_col 40 hl1 qp 7 = g := ⟨_, rfl⟩
  obtain ⟨m_dead, f_m_dead, g_m_dead⟩ := hx_rf hT gm tt_10 (k := 27) (u := 64) rfl
  obtain ⟨F_dead, n_dead⟩ : ∃ g : Nat → Int32, hl1.2.1 m_dead = g := ⟨_, rfl⟩
  have eq_dead := hc_dead qp m_dead f_qp f_m_dead; rw [cl_dead, n_dead] at eq_dead
  have z_dead : np.toInt.toNat < 40 → c_dead np.toInt.toNat = 0 := fun hj => hx_num_z nu_qp cl_dead hj (by omega)
  obtain ⟨c_isj, cl_isj⟩ : ∃ g : Nat → Int32, hx_col 40 hl1 qp 8 = g := ⟨_, rfl⟩
  obtain ⟨m_isj, f_m_isj, g_m_isj⟩ := hx_rf hT gm tt_10 (k := 28) (u := 65) rfl
  obtain ⟨F_isj, n_isj⟩ : ∃ g : Nat → Int32, hl1.2.1 m_isj = g := ⟨_, rfl⟩
  have eq_isj := hc_isj qp m_isj f_qp f_m_isj; rw [cl_isj, n_isj] at eq_isj
  have z_isj : np.toInt.toNat < 40 → c_isj np.toInt.toNat = 0 := fun hj => hx_num_z nu_qp cl_isj hj (by omega)
  obtain ⟨c_dox, cl_dox⟩ : ∃ g : Nat → Int32, hx_col 40 hl1 qp 5 = g := ⟨_, rfl⟩
  obtain ⟨m_dox, f_m_dox, g_m_dox⟩ := hx_rf hT gm tt_10 (k := 24) (u := 61) rfl
  obtain ⟨F_dox, n_dox⟩ : ∃ g : Nat → Int32, hl1.2.1 m_dox = g := ⟨_, rfl⟩
  have eq_dox := hc_dox qp m_dox f_qp f_m_dox; rw [cl_dox, n_dox] at eq_dox
  have z_dox : np.toInt.toNat < 40 → c_dox np.toInt.toNat = 0 := fun hj => hx_num_z nu_qp cl_dox hj (by omega)
  obtain ⟨c_doy, cl_doy⟩ : ∃ g : Nat → Int32, hx_col 40 hl1 qp 6 = g := ⟨_, rfl⟩
  obtain ⟨m_doy, f_m_doy, g_m_doy⟩ := hx_rf hT gm tt_10 (k := 25) (u := 62) rfl
  obtain ⟨F_doy, n_doy⟩ : ∃ g : Nat → Int32, hl1.2.1 m_doy = g := ⟨_, rfl⟩
  have eq_doy := hc_doy qp m_doy f_qp f_m_doy; rw [cl_doy, n_doy] at eq_doy
  have z_doy : np.toInt.toNat < 40 → c_doy np.toInt.toNat = 0 := fun hj => hx_num_z nu_qp cl_doy hj (by omega)
  obtain ⟨c_fou, cl_fou⟩ : ∃ g : Nat → Int32, hx_col 100 hl1 qc 10 = g := ⟨_, rfl⟩
  have eq_fou := hc_fou qc m_fou f_qc f_m_fou; rw [cl_fou, n_m_fou] at eq_fou
  have z_fou : c0.toInt.toNat < 100 → c_fou c0.toInt.toNat = 0 := fun hj => hx_num_z nu_qc cl_fou hj (by omega)
  obtain ⟨c_tri, cl_tri⟩ : ∃ g : Nat → Int32, hx_col 100 hl1 qc 9 = g := ⟨_, rfl⟩
  have eq_tri := hc_tri qc mt f_qc f_mt; rw [cl_tri, n_mt] at eq_tri
  have z_tri : c0.toInt.toNat < 100 → c_tri c0.toInt.toNat = 0 := fun hj => hx_num_z nu_qc cl_tri hj (by omega)
  obtain ⟨qlt, f_qlt, g_qlt⟩ := hx_rf hT g_qw tt_8 (k := 2) (u := 39) rfl
  obtain ⟨qlf, f_qlf, g_qlf⟩ := hx_rf hT g_qw tt_8 (k := 4) (u := 41) rfl
  obtain ⟨m_wkd, f_m_wkd, g_m_wkd⟩ := hx_rf hT gm tt_10 (k := 93) (u := 113) rfl
  obtain ⟨F_qlt, n_qlt⟩ : ∃ g : Nat → Int32, hl1.2.1 qlt = g := ⟨_, rfl⟩
  obtain ⟨F_m_wkd, n_m_wkd⟩ : ∃ g : Nat → Int32, hl1.2.1 m_wkd = g := ⟨_, rfl⟩
  have eb_wkd := hkWD qw qlt m_wkd f_qw f_qlt f_m_wkd; rw [n_qlt, n_m_wkd, f_o_wkm] at eb_wkd
  obtain ⟨m_aga, f_m_aga, g_m_aga⟩ := hx_rf hT gm tt_10 (k := 38) (u := 73) rfl
  obtain ⟨F_aga, n_aga⟩ : ∃ g : Nat → Int32, hl1.2.1 m_aga = g := ⟨_, rfl⟩
  have hDF := hkDF qc qp m_aga f_qc f_qp f_m_aga; rw [n_aga, f_x_claimCount] at hDF
  have hwd := jw mw f_mw; rw [n_mw] at hwd
  have hWK := jr mr f_mr; rw [n_mr, f_m_acts] at hWK
  have hRP := jp mp mn f_mp f_mn; rw [n_mp, n_mn, f_m_acts] at hRP
  have hPL := jl ml f_ml; rw [n_ml, f_m_claims, f_m_acts] at hPL
  have hHC := jh mh f_mh; rw [n_mh, f_m_heardMany, f_m_claims] at hHC
  have hTR := jt mt f_mt; rw [n_mt] at hTR
  have hHF := jf mh m_fou f_mh f_m_fou; rw [n_mh, n_m_fou, f_m_claims] at hHF
  refine lv_aload_n hx hb dL_law_1129 rfl (lv_at hl 2 rfl) ?_
  refine lv_aload_n hx hb dL_law_1130 rfl (lv_at hl 3 rfl) ?_
  refine lv_iload_n hx hb dL_law_1131 rfl (lv_at hl 0 rfl) ?_
  refine lv_iconst (v := 1) hx hb dL_law_1132 (by decide) ?_
  refine lv_iadd hx hb dL_law_1133 ?_
  have rg_560 := i32_r i
  refine lv_topi (fun x_561 ex_561 => ?_)
  have zx_561 : x_561.toInt = i.toInt + 1 := by rw [ex_561]; exact i32_add rfl (by decide) (by omega) (by omega)
  refine va_sld hx hb hX hbl hbA hW.2.2.2.1 (vp_in_iff.mpr ⟨by omega, by omega⟩) dL_law_1134 ?_
  refine lv_topi (fun x_562 ex_562 => ?_)
  refine lv_aload_n hx hb dL_law_1135 rfl (lv_at hl 3 rfl) ?_
  refine lv_iload_n hx hb dL_law_1136 rfl (lv_at hl 0 rfl) ?_
  refine lv_iconst (v := 2) hx hb dL_law_1137 (by decide) ?_
  refine lv_iadd hx hb dL_law_1138 ?_
  refine lv_topi (fun x_563 ex_563 => ?_)
  have zx_563 : x_563.toInt = i.toInt + 2 := by rw [ex_563]; exact i32_add rfl (by decide) (by omega) (by omega)
  refine va_sld hx hb hX hbl hbA hW.2.2.2.1 (vp_in_iff.mpr ⟨by omega, by omega⟩) dL_law_1139 ?_
  refine lv_topi (fun x_564 ex_564 => ?_)
  have hTo := hT
  refine hx_goi (hx_runVX (As := [.int x_562, .int x_564]) (rest := []) ⟨hx, hb, hml, hown, hts⟩ hW gx tt_9 (T := TX9) (N := 20) rfl (t_X9_plan l dC dI dA L1 hl1 H.size b0 ax x_562 x_564 hT gx qp g_qp f_qp qc g_qc f_qc qa g_qa f_qa pf_qp pf_qc pf_qa) hZ (cwV 2 hts (hx_gV kw_947 kw_944 kw_945 kw_946 kw_94) rfl rfl rfl (by decide +kernel) ⟨Nat.le_of_ble_eq_true rfl, Nat.le_of_ble_eq_true rfl⟩) rfl hl.1 rfl (Nat.le_of_ble_eq_true rfl) dL_law_1140 ⟨(show CC + 0 ≤ 600000 from by omega), (show SS + 0 ≤ 7302250 from by omega)⟩) hW (fun r_567 L_565 h_566 H locs p_568 hW => ?_)
  obtain ⟨hr_569, hT, hs⟩ := p_568
  replace hT : hx_T T_tb L_565 h_566 := hT
  replace hs : hx_S T_tb [(5, 0), (5, 1), (5, 9), (5, 10), (5, 11), (5, 12), (27, 0), (28, 0), (29, 0), (30, 0), (31, 0), (32, 0), (33, 0)] L1 hl1 L_565 h_566 := hs
  replace f_qa := (hs.o gx trivial rfl).2.trans f_qa
  replace f_qp := (hs.o gx trivial rfl).2.trans f_qp
  replace f_qc := (hs.o gx trivial rfl).2.trans f_qc
  replace f_qh := (hs.o gx trivial rfl).2.trans f_qh
  replace f_qw := (hs.o gx trivial rfl).2.trans f_qw
  replace f_ql := (hs.o g_qw trivial rfl).2.trans f_ql
  replace f_m_now := (hs.o gm trivial rfl).1.trans f_m_now
  replace f_m_persons := (hs.o gm trivial rfl).1.trans f_m_persons
  replace f_m_claims := (hs.o gm trivial rfl).1.trans f_m_claims
  replace f_m_lines := (hs.o gm trivial rfl).1.trans f_m_lines
  replace f_m_listed := (hs.o gm trivial rfl).1.trans f_m_listed
  replace f_m_walkedMany := (hs.o gm trivial rfl).1.trans f_m_walkedMany
  replace f_m_acts := (hs.o gm trivial rfl).1.trans f_m_acts
  replace f_m_heardMany := (hs.o gm trivial rfl).1.trans f_m_heardMany
  replace f_x_now := (hs.o gx trivial rfl).1.trans f_x_now
  replace f_x_personCount := (hs.o gx trivial rfl).1.trans f_x_personCount
  replace f_x_claimCount := (hs.o gx trivial rfl).1.trans f_x_claimCount
  replace f_mw := (hs.o gm trivial rfl).2.trans f_mw
  replace f_mr := (hs.o gm trivial rfl).2.trans f_mr
  replace f_mp := (hs.o gm trivial rfl).2.trans f_mp
  replace f_mn := (hs.o gm trivial rfl).2.trans f_mn
  replace f_ml := (hs.o gm trivial rfl).2.trans f_ml
  replace f_mh := (hs.o gm trivial rfl).2.trans f_mh
  replace f_mt := (hs.o gm trivial rfl).2.trans f_mt
  replace f_m_fou := (hs.o gm trivial rfl).2.trans f_m_fou
  replace f_qo_ln := (hs.o gx trivial rfl).2.trans f_qo_ln
  replace f_o_ln := (hs.o g_qo_ln trivial rfl).1.trans f_o_ln
  replace f_o_lsd := (hs.o g_qw trivial rfl).1.trans f_o_lsd
  replace f_o_wkm := (hs.o g_qw trivial rfl).1.trans f_o_wkm
  replace f_b_of := (hs.o g_qo_ln trivial rfl).2.trans f_b_of
  replace f_m_of := (hs.o gm trivial rfl).2.trans f_m_of
  replace f_b_wf := (hs.o g_qo_ln trivial rfl).2.trans f_b_wf
  replace f_m_wf := (hs.o gm trivial rfl).2.trans f_m_wf
  replace f_b_df := (hs.o g_qo_ln trivial rfl).2.trans f_b_df
  replace f_m_df := (hs.o gm trivial rfl).2.trans f_m_df
  replace f_b_kf := (hs.o g_qo_ln trivial rfl).2.trans f_b_kf
  replace f_m_kf := (hs.o gm trivial rfl).2.trans f_m_kf
  replace f_b_sf := (hs.o g_qo_ln trivial rfl).2.trans f_b_sf
  replace f_m_sf := (hs.o gm trivial rfl).2.trans f_m_sf
  replace f_b_bf := (hs.o g_qo_ln trivial rfl).2.trans f_b_bf
  replace f_m_lst := (hs.o gm trivial rfl).2.trans f_m_lst
  replace f_m_dead := (hs.o gm trivial rfl).2.trans f_m_dead
  replace f_m_isj := (hs.o gm trivial rfl).2.trans f_m_isj
  replace f_m_dox := (hs.o gm trivial rfl).2.trans f_m_dox
  replace f_m_doy := (hs.o gm trivial rfl).2.trans f_m_doy
  replace f_qlt := (hs.o g_qw trivial rfl).2.trans f_qlt
  replace f_qlf := (hs.o g_qw trivial rfl).2.trans f_qlf
  replace f_m_wkd := (hs.o gm trivial rfl).2.trans f_m_wkd
  replace f_m_aga := (hs.o gm trivial rfl).2.trans f_m_aga
  replace pf_qa : ∀ j : Nat, (j : Int) < (h_566.2.1 ax 6).toInt → h_566.2.2 qa j ≠ none := by
    intro j hj; rw [(hs.o gx trivial rfl).1] at hj; rw [(hs.a g_qa rfl j).2]; exact pf_qa j hj
  replace pf_qp : ∀ j : Nat, (j : Int) < (h_566.2.1 ax 8).toInt → h_566.2.2 qp j ≠ none := by
    intro j hj; rw [(hs.o gx trivial rfl).1] at hj; rw [(hs.a g_qp rfl j).2]; exact pf_qp j hj
  replace pf_qc : ∀ j : Nat, (j : Int) < (h_566.2.1 ax 11).toInt → h_566.2.2 qc j ≠ none := by
    intro j hj; rw [(hs.o gx trivial rfl).1] at hj; rw [(hs.a g_qc rfl j).2]; exact pf_qc j hj
  replace pf_qh : ∀ j : Nat, (j : Int) < (h_566.2.1 ax 13).toInt → h_566.2.2 qh j ≠ none := by
    intro j hj; rw [(hs.o gx trivial rfl).1] at hj; rw [(hs.a g_qh rfl j).2]; exact pf_qh j hj
  replace pf_ql : ∀ j : Nat, (j : Int) < (h_566.2.1 qw 0).toInt → h_566.2.2 ql j ≠ none := by
    intro j hj; rw [(hs.o g_qw trivial rfl).1] at hj; rw [(hs.a g_ql rfl j).2]; exact pf_ql j hj
  replace cl_lst : hx_col 8 h_566 ql 0 = c_lst := (hx_col_S hs hTo g_ql tt_40 tt_2 rfl rfl).trans cl_lst
  replace cl_dead : hx_col 40 h_566 qp 7 = c_dead := (hx_col_S hs hTo g_qp tt_44 tt_4 rfl rfl).trans cl_dead
  replace cl_isj : hx_col 40 h_566 qp 8 = c_isj := (hx_col_S hs hTo g_qp tt_44 tt_4 rfl rfl).trans cl_isj
  replace cl_dox : hx_col 40 h_566 qp 5 = c_dox := (hx_col_S hs hTo g_qp tt_44 tt_4 rfl rfl).trans cl_dox
  replace cl_doy : hx_col 40 h_566 qp 6 = c_doy := (hx_col_S hs hTo g_qp tt_44 tt_4 rfl rfl).trans cl_doy
  replace cl_fou : hx_col 100 h_566 qc 10 = c_fou := (hx_col_S hs hTo g_qc tt_45 tt_2 rfl rfl).trans cl_fou
  replace cl_tri : hx_col 100 h_566 qc 9 = c_tri := (hx_col_S hs hTo g_qc tt_45 tt_2 rfl rfl).trans cl_tri
  replace nu_qp : hx_num 40 h_566 qp 0 (np.toInt) := hx_num_S hs hTo g_qp tt_44 tt_4 rfl rfl nu_qp
  replace nu_qc : hx_num 100 h_566 qc 0 (c0.toInt) := hx_num_S hs hTo g_qc tt_45 tt_2 rfl rfl nu_qc
  replace sb_list : hx_LQ 8 100 h_566 ql qc := hx_LQ_S hs g_ql g_qc rfl rfl sb_list
  replace hDF : hw_DF h_566 qc qp 2 F_aga c0.toInt := hw_DF_S hs hTo g_qc g_qp tt_45 tt_2 rfl rfl rfl hDF
  replace n_mw : h_566.2.1 mw = F_mw := (funext fun j => (hs.a g_mw rfl j).1).trans n_mw
  replace n_mr : h_566.2.1 mr = F_mr := (funext fun j => (hs.a g_mr rfl j).1).trans n_mr
  replace n_mp : h_566.2.1 mp = F_mp := (funext fun j => (hs.a g_mp rfl j).1).trans n_mp
  replace n_mn : h_566.2.1 mn = F_mn := (funext fun j => (hs.a g_mn rfl j).1).trans n_mn
  replace n_ml : h_566.2.1 ml = F_ml := (funext fun j => (hs.a g_ml rfl j).1).trans n_ml
  replace n_mh : h_566.2.1 mh = F_mh := (funext fun j => (hs.a g_mh rfl j).1).trans n_mh
  replace n_mt : h_566.2.1 mt = F_mt := (funext fun j => (hs.a g_mt rfl j).1).trans n_mt
  replace n_m_fou : h_566.2.1 m_fou = F_m_fou := (funext fun j => (hs.a g_m_fou rfl j).1).trans n_m_fou
  replace n_b_of : h_566.2.1 b_of = B_of := (funext fun j => (hs.a g_b_of rfl j).1).trans n_b_of
  replace n_m_of : h_566.2.1 m_of = F_of := (funext fun j => (hs.a g_m_of rfl j).1).trans n_m_of
  replace n_b_wf : h_566.2.1 b_wf = B_wf := (funext fun j => (hs.a g_b_wf rfl j).1).trans n_b_wf
  replace n_m_wf : h_566.2.1 m_wf = F_wf := (funext fun j => (hs.a g_m_wf rfl j).1).trans n_m_wf
  replace n_b_df : h_566.2.1 b_df = B_df := (funext fun j => (hs.a g_b_df rfl j).1).trans n_b_df
  replace n_m_df : h_566.2.1 m_df = F_df := (funext fun j => (hs.a g_m_df rfl j).1).trans n_m_df
  replace n_b_kf : h_566.2.1 b_kf = B_kf := (funext fun j => (hs.a g_b_kf rfl j).1).trans n_b_kf
  replace n_m_kf : h_566.2.1 m_kf = F_kf := (funext fun j => (hs.a g_m_kf rfl j).1).trans n_m_kf
  replace n_b_sf : h_566.2.1 b_sf = B_sf := (funext fun j => (hs.a g_b_sf rfl j).1).trans n_b_sf
  replace n_m_sf : h_566.2.1 m_sf = F_sf := (funext fun j => (hs.a g_m_sf rfl j).1).trans n_m_sf
  replace n_b_bf : h_566.2.1 b_bf = bfL := (funext fun j => (hs.a g_b_bf rfl j).1).trans n_b_bf
  replace n_lst : h_566.2.1 m_lst = F_lst := (funext fun j => (hs.a g_m_lst rfl j).1).trans n_lst
  replace n_dead : h_566.2.1 m_dead = F_dead := (funext fun j => (hs.a g_m_dead rfl j).1).trans n_dead
  replace n_isj : h_566.2.1 m_isj = F_isj := (funext fun j => (hs.a g_m_isj rfl j).1).trans n_isj
  replace n_dox : h_566.2.1 m_dox = F_dox := (funext fun j => (hs.a g_m_dox rfl j).1).trans n_dox
  replace n_doy : h_566.2.1 m_doy = F_doy := (funext fun j => (hs.a g_m_doy rfl j).1).trans n_doy
  replace n_qlt : h_566.2.1 qlt = F_qlt := (funext fun j => (hs.a g_qlt rfl j).1).trans n_qlt
  replace n_m_wkd : h_566.2.1 m_wkd = F_m_wkd := (funext fun j => (hs.a g_m_wkd rfl j).1).trans n_m_wkd
  replace n_aga : h_566.2.1 m_aga = F_aga := (funext fun j => (hs.a g_m_aga rfl j).1).trans n_aga
  replace gx := gx.S hs
  replace gm := gm.S hs
  replace g_qa := g_qa.S hs
  replace g_qp := g_qp.S hs
  replace g_qc := g_qc.S hs
  replace g_qh := g_qh.S hs
  replace g_qw := g_qw.S hs
  replace g_ql := g_ql.S hs
  replace g_mw := g_mw.S hs
  replace g_mr := g_mr.S hs
  replace g_mp := g_mp.S hs
  replace g_mn := g_mn.S hs
  replace g_ml := g_ml.S hs
  replace g_mh := g_mh.S hs
  replace g_mt := g_mt.S hs
  replace g_m_fou := g_m_fou.S hs
  replace g_qo_ln := g_qo_ln.S hs
  replace g_b_of := g_b_of.S hs
  replace g_m_of := g_m_of.S hs
  replace g_b_wf := g_b_wf.S hs
  replace g_m_wf := g_m_wf.S hs
  replace g_b_df := g_b_df.S hs
  replace g_m_df := g_m_df.S hs
  replace g_b_kf := g_b_kf.S hs
  replace g_m_kf := g_m_kf.S hs
  replace g_b_sf := g_b_sf.S hs
  replace g_m_sf := g_m_sf.S hs
  replace g_b_bf := g_b_bf.S hs
  replace g_m_lst := g_m_lst.S hs
  replace g_m_dead := g_m_dead.S hs
  replace g_m_isj := g_m_isj.S hs
  replace g_m_dox := g_m_dox.S hs
  replace g_m_doy := g_m_doy.S hs
  replace g_qlt := g_qlt.S hs
  replace g_qlf := g_qlf.S hs
  replace g_m_wkd := g_m_wkd.S hs
  replace g_m_aga := g_m_aga.S hs
  refine lv_pop hx hb dL_law_1143 rfl ?_
  refine lv_aload_n hx hb dL_law_1144 rfl (lv_at hl 1 rfl) ?_
  refine lv_aload_n hx hb dL_law_1145 rfl (lv_at hl 3 rfl) ?_
  refine lv_iload_n hx hb dL_law_1146 rfl (lv_at hl 0 rfl) ?_
  refine lv_iconst (v := 1) hx hb dL_law_1147 (by decide) ?_
  refine lv_iadd hx hb dL_law_1148 ?_
  refine lv_topi (fun x_570 ex_570 => ?_)
  have zx_570 : x_570.toInt = i.toInt + 1 := by rw [ex_570]; exact i32_add rfl (by decide) (by omega) (by omega)
  obtain rfl : x_561 = x_570 := ex_561.trans ex_570.symm
  refine va_sld hx hb hX hbl hbA hW.2.2.2.1 (vp_in_iff.mpr ⟨by omega, by omega⟩) dL_law_1149 ?_
  refine lv_topi (fun x_571 ex_571 => ?_)
  obtain rfl : x_562 = x_571 := ex_562.trans ex_571.symm
  refine lv_aload_n hx hb dL_law_1150 rfl (lv_at hl 3 rfl) ?_
  refine lv_iload_n hx hb dL_law_1151 rfl (lv_at hl 0 rfl) ?_
  refine lv_iconst (v := 2) hx hb dL_law_1152 (by decide) ?_
  refine lv_iadd hx hb dL_law_1153 ?_
  refine lv_topi (fun x_572 ex_572 => ?_)
  have zx_572 : x_572.toInt = i.toInt + 2 := by rw [ex_572]; exact i32_add rfl (by decide) (by omega) (by omega)
  obtain rfl : x_563 = x_572 := ex_563.trans ex_572.symm
  refine va_sld hx hb hX hbl hbA hW.2.2.2.1 (vp_in_iff.mpr ⟨by omega, by omega⟩) dL_law_1154 ?_
  refine lv_topi (fun x_573 ex_573 => ?_)
  obtain rfl : x_564 = x_573 := ex_564.trans ex_573.symm
  have hTo := hT
  obtain ⟨q_574, fq_574, gq_574⟩ := hx_rf hT gm tt_10 (k := 78) (u := 104) rfl
  obtain ⟨q_575, fq_575, gq_575⟩ := hx_rf hT gm tt_10 (k := 79) (u := 105) rfl
  refine hx_goi (hx_runV (As := [.int x_562, .int x_564]) (rest := []) ⟨hx, hb, hml, hown, hts⟩ hW gm tt_10 (T := TX10) (N := 98) rfl (t_X10_plan l dC dI dA L_565 h_566 H.size am x_562 x_564 hT gm mr g_mr f_mr ml g_ml f_ml q_574 gq_574 fq_574 q_575 gq_575 fq_575 F_mr n_mr F_ml n_ml a0 f_m_acts c0 f_m_claims hWK hPL) (cwV 2 hts (hx_gV kw_1677 kw_1674 kw_1675 kw_1676 kw_103) rfl rfl rfl (by decide +kernel) ⟨Nat.le_of_ble_eq_true rfl, Nat.le_of_ble_eq_true rfl⟩) rfl hl.1 rfl (Nat.le_of_ble_eq_true rfl) dL_law_1155 ⟨(show CC + 0 + 0 ≤ 600000 from by omega), (show SS + 0 + 0 ≤ 7302250 from by omega)⟩) hW (fun r_578 L_576 h_577 H locs p_579 hW => ?_)
  obtain ⟨hr_580, hT, hs⟩ := p_579
  replace hT : hx_T T_tb L_576 h_577 := hT
  replace hs : hx_S T_tb [(10, 67), (10, 68), (10, 69), (10, 70), (10, 71), (10, 72), (10, 75), (100, 0), (101, 0), (102, 0), (103, 0), (104, 0), (105, 0), (106, 0), (107, 0)] L_565 h_566 L_576 h_577 := hs
  replace f_qa := (hs.o gx trivial rfl).2.trans f_qa
  replace f_qp := (hs.o gx trivial rfl).2.trans f_qp
  replace f_qc := (hs.o gx trivial rfl).2.trans f_qc
  replace f_qh := (hs.o gx trivial rfl).2.trans f_qh
  replace f_qw := (hs.o gx trivial rfl).2.trans f_qw
  replace f_ql := (hs.o g_qw trivial rfl).2.trans f_ql
  replace f_m_now := (hs.o gm trivial rfl).1.trans f_m_now
  replace f_m_persons := (hs.o gm trivial rfl).1.trans f_m_persons
  replace f_m_claims := (hs.o gm trivial rfl).1.trans f_m_claims
  replace f_m_lines := (hs.o gm trivial rfl).1.trans f_m_lines
  replace f_m_listed := (hs.o gm trivial rfl).1.trans f_m_listed
  replace f_m_walkedMany := (hs.o gm trivial rfl).1.trans f_m_walkedMany
  replace f_m_acts := (hs.o gm trivial rfl).1.trans f_m_acts
  replace f_m_heardMany := (hs.o gm trivial rfl).1.trans f_m_heardMany
  replace f_x_now := (hs.o gx trivial rfl).1.trans f_x_now
  replace f_x_personCount := (hs.o gx trivial rfl).1.trans f_x_personCount
  replace f_x_claimCount := (hs.o gx trivial rfl).1.trans f_x_claimCount
  replace f_mw := (hs.o gm trivial rfl).2.trans f_mw
  replace f_mr := (hs.o gm trivial rfl).2.trans f_mr
  replace f_mp := (hs.o gm trivial rfl).2.trans f_mp
  replace f_mn := (hs.o gm trivial rfl).2.trans f_mn
  replace f_ml := (hs.o gm trivial rfl).2.trans f_ml
  replace f_mh := (hs.o gm trivial rfl).2.trans f_mh
  replace f_mt := (hs.o gm trivial rfl).2.trans f_mt
  replace f_m_fou := (hs.o gm trivial rfl).2.trans f_m_fou
  replace f_qo_ln := (hs.o gx trivial rfl).2.trans f_qo_ln
  replace f_o_ln := (hs.o g_qo_ln trivial rfl).1.trans f_o_ln
  replace f_o_lsd := (hs.o g_qw trivial rfl).1.trans f_o_lsd
  replace f_o_wkm := (hs.o g_qw trivial rfl).1.trans f_o_wkm
  replace f_b_of := (hs.o g_qo_ln trivial rfl).2.trans f_b_of
  replace f_m_of := (hs.o gm trivial rfl).2.trans f_m_of
  replace f_b_wf := (hs.o g_qo_ln trivial rfl).2.trans f_b_wf
  replace f_m_wf := (hs.o gm trivial rfl).2.trans f_m_wf
  replace f_b_df := (hs.o g_qo_ln trivial rfl).2.trans f_b_df
  replace f_m_df := (hs.o gm trivial rfl).2.trans f_m_df
  replace f_b_kf := (hs.o g_qo_ln trivial rfl).2.trans f_b_kf
  replace f_m_kf := (hs.o gm trivial rfl).2.trans f_m_kf
  replace f_b_sf := (hs.o g_qo_ln trivial rfl).2.trans f_b_sf
  replace f_m_sf := (hs.o gm trivial rfl).2.trans f_m_sf
  replace f_b_bf := (hs.o g_qo_ln trivial rfl).2.trans f_b_bf
  replace f_m_lst := (hs.o gm trivial rfl).2.trans f_m_lst
  replace f_m_dead := (hs.o gm trivial rfl).2.trans f_m_dead
  replace f_m_isj := (hs.o gm trivial rfl).2.trans f_m_isj
  replace f_m_dox := (hs.o gm trivial rfl).2.trans f_m_dox
  replace f_m_doy := (hs.o gm trivial rfl).2.trans f_m_doy
  replace f_qlt := (hs.o g_qw trivial rfl).2.trans f_qlt
  replace f_qlf := (hs.o g_qw trivial rfl).2.trans f_qlf
  replace f_m_wkd := (hs.o gm trivial rfl).2.trans f_m_wkd
  replace f_m_aga := (hs.o gm trivial rfl).2.trans f_m_aga
  replace fq_574 := (hs.o gm trivial rfl).2.trans fq_574
  replace fq_575 := (hs.o gm trivial rfl).2.trans fq_575
  replace pf_qa : ∀ j : Nat, (j : Int) < (h_577.2.1 ax 6).toInt → h_577.2.2 qa j ≠ none := by
    intro j hj; rw [(hs.o gx trivial rfl).1] at hj; rw [(hs.a g_qa rfl j).2]; exact pf_qa j hj
  replace pf_qp : ∀ j : Nat, (j : Int) < (h_577.2.1 ax 8).toInt → h_577.2.2 qp j ≠ none := by
    intro j hj; rw [(hs.o gx trivial rfl).1] at hj; rw [(hs.a g_qp rfl j).2]; exact pf_qp j hj
  replace pf_qc : ∀ j : Nat, (j : Int) < (h_577.2.1 ax 11).toInt → h_577.2.2 qc j ≠ none := by
    intro j hj; rw [(hs.o gx trivial rfl).1] at hj; rw [(hs.a g_qc rfl j).2]; exact pf_qc j hj
  replace pf_qh : ∀ j : Nat, (j : Int) < (h_577.2.1 ax 13).toInt → h_577.2.2 qh j ≠ none := by
    intro j hj; rw [(hs.o gx trivial rfl).1] at hj; rw [(hs.a g_qh rfl j).2]; exact pf_qh j hj
  replace pf_ql : ∀ j : Nat, (j : Int) < (h_577.2.1 qw 0).toInt → h_577.2.2 ql j ≠ none := by
    intro j hj; rw [(hs.o g_qw trivial rfl).1] at hj; rw [(hs.a g_ql rfl j).2]; exact pf_ql j hj
  replace cl_lst : hx_col 8 h_577 ql 0 = c_lst := (hx_col_S hs hTo g_ql tt_40 tt_2 rfl rfl).trans cl_lst
  replace cl_dead : hx_col 40 h_577 qp 7 = c_dead := (hx_col_S hs hTo g_qp tt_44 tt_4 rfl rfl).trans cl_dead
  replace cl_isj : hx_col 40 h_577 qp 8 = c_isj := (hx_col_S hs hTo g_qp tt_44 tt_4 rfl rfl).trans cl_isj
  replace cl_dox : hx_col 40 h_577 qp 5 = c_dox := (hx_col_S hs hTo g_qp tt_44 tt_4 rfl rfl).trans cl_dox
  replace cl_doy : hx_col 40 h_577 qp 6 = c_doy := (hx_col_S hs hTo g_qp tt_44 tt_4 rfl rfl).trans cl_doy
  replace cl_fou : hx_col 100 h_577 qc 10 = c_fou := (hx_col_S hs hTo g_qc tt_45 tt_2 rfl rfl).trans cl_fou
  replace cl_tri : hx_col 100 h_577 qc 9 = c_tri := (hx_col_S hs hTo g_qc tt_45 tt_2 rfl rfl).trans cl_tri
  replace nu_qp : hx_num 40 h_577 qp 0 (np.toInt) := hx_num_S hs hTo g_qp tt_44 tt_4 rfl rfl nu_qp
  replace nu_qc : hx_num 100 h_577 qc 0 (c0.toInt) := hx_num_S hs hTo g_qc tt_45 tt_2 rfl rfl nu_qc
  replace sb_list : hx_LQ 8 100 h_577 ql qc := hx_LQ_S hs g_ql g_qc rfl rfl sb_list
  replace hDF : hw_DF h_577 qc qp 2 F_aga c0.toInt := hw_DF_S hs hTo g_qc g_qp tt_45 tt_2 rfl rfl rfl hDF
  replace n_mw : h_577.2.1 mw = F_mw := (funext fun j => (hs.a g_mw rfl j).1).trans n_mw
  replace n_mr : h_577.2.1 mr = F_mr := (funext fun j => (hs.a g_mr rfl j).1).trans n_mr
  replace n_mp : h_577.2.1 mp = F_mp := (funext fun j => (hs.a g_mp rfl j).1).trans n_mp
  replace n_mn : h_577.2.1 mn = F_mn := (funext fun j => (hs.a g_mn rfl j).1).trans n_mn
  replace n_ml : h_577.2.1 ml = F_ml := (funext fun j => (hs.a g_ml rfl j).1).trans n_ml
  replace n_mh : h_577.2.1 mh = F_mh := (funext fun j => (hs.a g_mh rfl j).1).trans n_mh
  replace n_mt : h_577.2.1 mt = F_mt := (funext fun j => (hs.a g_mt rfl j).1).trans n_mt
  replace n_m_fou : h_577.2.1 m_fou = F_m_fou := (funext fun j => (hs.a g_m_fou rfl j).1).trans n_m_fou
  replace n_b_of : h_577.2.1 b_of = B_of := (funext fun j => (hs.a g_b_of rfl j).1).trans n_b_of
  replace n_m_of : h_577.2.1 m_of = F_of := (funext fun j => (hs.a g_m_of rfl j).1).trans n_m_of
  replace n_b_wf : h_577.2.1 b_wf = B_wf := (funext fun j => (hs.a g_b_wf rfl j).1).trans n_b_wf
  replace n_m_wf : h_577.2.1 m_wf = F_wf := (funext fun j => (hs.a g_m_wf rfl j).1).trans n_m_wf
  replace n_b_df : h_577.2.1 b_df = B_df := (funext fun j => (hs.a g_b_df rfl j).1).trans n_b_df
  replace n_m_df : h_577.2.1 m_df = F_df := (funext fun j => (hs.a g_m_df rfl j).1).trans n_m_df
  replace n_b_kf : h_577.2.1 b_kf = B_kf := (funext fun j => (hs.a g_b_kf rfl j).1).trans n_b_kf
  replace n_m_kf : h_577.2.1 m_kf = F_kf := (funext fun j => (hs.a g_m_kf rfl j).1).trans n_m_kf
  replace n_b_sf : h_577.2.1 b_sf = B_sf := (funext fun j => (hs.a g_b_sf rfl j).1).trans n_b_sf
  replace n_m_sf : h_577.2.1 m_sf = F_sf := (funext fun j => (hs.a g_m_sf rfl j).1).trans n_m_sf
  replace n_b_bf : h_577.2.1 b_bf = bfL := (funext fun j => (hs.a g_b_bf rfl j).1).trans n_b_bf
  replace n_lst : h_577.2.1 m_lst = F_lst := (funext fun j => (hs.a g_m_lst rfl j).1).trans n_lst
  replace n_dead : h_577.2.1 m_dead = F_dead := (funext fun j => (hs.a g_m_dead rfl j).1).trans n_dead
  replace n_isj : h_577.2.1 m_isj = F_isj := (funext fun j => (hs.a g_m_isj rfl j).1).trans n_isj
  replace n_dox : h_577.2.1 m_dox = F_dox := (funext fun j => (hs.a g_m_dox rfl j).1).trans n_dox
  replace n_doy : h_577.2.1 m_doy = F_doy := (funext fun j => (hs.a g_m_doy rfl j).1).trans n_doy
  replace n_qlt : h_577.2.1 qlt = F_qlt := (funext fun j => (hs.a g_qlt rfl j).1).trans n_qlt
  replace n_m_wkd : h_577.2.1 m_wkd = F_m_wkd := (funext fun j => (hs.a g_m_wkd rfl j).1).trans n_m_wkd
  replace n_aga : h_577.2.1 m_aga = F_aga := (funext fun j => (hs.a g_m_aga rfl j).1).trans n_aga
  replace gx := gx.S hs
  replace gm := gm.S hs
  replace g_qa := g_qa.S hs
  replace g_qp := g_qp.S hs
  replace g_qc := g_qc.S hs
  replace g_qh := g_qh.S hs
  replace g_qw := g_qw.S hs
  replace g_ql := g_ql.S hs
  replace g_mw := g_mw.S hs
  replace g_mr := g_mr.S hs
  replace g_mp := g_mp.S hs
  replace g_mn := g_mn.S hs
  replace g_ml := g_ml.S hs
  replace g_mh := g_mh.S hs
  replace g_mt := g_mt.S hs
  replace g_m_fou := g_m_fou.S hs
  replace g_qo_ln := g_qo_ln.S hs
  replace g_b_of := g_b_of.S hs
  replace g_m_of := g_m_of.S hs
  replace g_b_wf := g_b_wf.S hs
  replace g_m_wf := g_m_wf.S hs
  replace g_b_df := g_b_df.S hs
  replace g_m_df := g_m_df.S hs
  replace g_b_kf := g_b_kf.S hs
  replace g_m_kf := g_m_kf.S hs
  replace g_b_sf := g_b_sf.S hs
  replace g_m_sf := g_m_sf.S hs
  replace g_b_bf := g_b_bf.S hs
  replace g_m_lst := g_m_lst.S hs
  replace g_m_dead := g_m_dead.S hs
  replace g_m_isj := g_m_isj.S hs
  replace g_m_dox := g_m_dox.S hs
  replace g_m_doy := g_m_doy.S hs
  replace g_qlt := g_qlt.S hs
  replace g_qlf := g_qlf.S hs
  replace g_m_wkd := g_m_wkd.S hs
  replace g_m_aga := g_m_aga.S hs
  replace gq_574 := gq_574.S hs
  replace gq_575 := gq_575.S hs
  refine lv_pop hx hb dL_law_1158 rfl ?_
  refine lv_goto (tgt := 1379) hx hb dL_law_1159 (by decide) ?_
  refine W.widen (k := CC + 3) (n := SS + 179) (by omega) (by omega) ?_
  exact kk L_576 h_577 H locs ls hW ⟨hT, gx, gm, ⟨f_x_now.trans f_m_now.symm, f_x_personCount.trans f_m_persons.symm, f_x_claimCount.trans f_m_claims.symm, hx_ob f_qo_ln (f_o_ln.trans f_m_lines.symm), hx_ob f_qw (f_o_lsd.trans f_m_listed.symm), hx_ob f_qw (f_o_wkm.trans f_m_walkedMany.symm), hx_ob f_qp (by rw [f_x_personCount]; exact nu_qp), hx_ob f_qc (by rw [f_x_claimCount]; exact nu_qc), (fun b a r hb ha hr => by obtain rfl : qo_ln = b := Option.some.inj (f_qo_ln.symm.trans hb); obtain rfl : b_of = a := Option.some.inj (f_b_of.symm.trans ha); obtain rfl : m_of = r := Option.some.inj (f_m_of.symm.trans hr); rw [n_b_of, n_m_of, f_o_ln]; exact eb_of), (fun b a r hb ha hr => by obtain rfl : qo_ln = b := Option.some.inj (f_qo_ln.symm.trans hb); obtain rfl : b_wf = a := Option.some.inj (f_b_wf.symm.trans ha); obtain rfl : m_wf = r := Option.some.inj (f_m_wf.symm.trans hr); rw [n_b_wf, n_m_wf, f_o_ln]; exact eb_wf), (fun b a r hb ha hr => by obtain rfl : qo_ln = b := Option.some.inj (f_qo_ln.symm.trans hb); obtain rfl : b_df = a := Option.some.inj (f_b_df.symm.trans ha); obtain rfl : m_df = r := Option.some.inj (f_m_df.symm.trans hr); rw [n_b_df, n_m_df, f_o_ln]; exact eb_df), (fun b a r hb ha hr => by obtain rfl : qo_ln = b := Option.some.inj (f_qo_ln.symm.trans hb); obtain rfl : b_kf = a := Option.some.inj (f_b_kf.symm.trans ha); obtain rfl : m_kf = r := Option.some.inj (f_m_kf.symm.trans hr); rw [n_b_kf, n_m_kf, f_o_ln]; exact eb_kf), (fun b a r hb ha hr => by obtain rfl : qo_ln = b := Option.some.inj (f_qo_ln.symm.trans hb); obtain rfl : b_sf = a := Option.some.inj (f_b_sf.symm.trans ha); obtain rfl : m_sf = r := Option.some.inj (f_m_sf.symm.trans hr); rw [n_b_sf, n_m_sf, f_o_ln]; exact eb_sf), (fun b a r hb ha hr => by obtain rfl : qo_ln = b := Option.some.inj (f_qo_ln.symm.trans hb); obtain rfl : b_df = a := Option.some.inj (f_b_df.symm.trans ha); obtain rfl : b_bf = r := Option.some.inj (f_b_bf.symm.trans hr); rw [n_b_df, n_b_bf, f_o_ln]; exact ⟨hBD, hDY⟩), (fun w q c hw hq hc => by obtain rfl : qw = w := Option.some.inj (f_qw.symm.trans hw); obtain rfl : ql = q := Option.some.inj (f_ql.symm.trans hq); obtain rfl : qc = c := Option.some.inj (f_qc.symm.trans hc); exact sb_list), (fun w q r hw hq hr => by obtain rfl : qw = w := Option.some.inj (f_qw.symm.trans hw); obtain rfl : ql = q := Option.some.inj (f_ql.symm.trans hq); obtain rfl : m_lst = r := Option.some.inj (f_m_lst.symm.trans hr); rw [cl_lst, n_lst]; exact eq_lst), (fun w q r hw hq hr => by obtain rfl : qw = w := Option.some.inj (f_qw.symm.trans hw); obtain rfl : qlt = q := Option.some.inj (f_qlt.symm.trans hq); obtain rfl : m_wkd = r := Option.some.inj (f_m_wkd.symm.trans hr); rw [n_qlt, n_m_wkd, f_o_wkm]; exact eb_wkd), (fun c q a hc hq ha => by obtain rfl : qc = c := Option.some.inj (f_qc.symm.trans hc); obtain rfl : qp = q := Option.some.inj (f_qp.symm.trans hq); obtain rfl : m_aga = a := Option.some.inj (f_m_aga.symm.trans ha); rw [n_aga, f_x_claimCount]; exact hw_DF_e hDF rfl rfl), hx_ob2 f_qp f_m_dead (by rw [cl_dead, n_dead]; exact eq_dead), hx_ob2 f_qp f_m_isj (by rw [cl_isj, n_isj]; exact eq_isj), hx_ob2 f_qp f_m_dox (by rw [cl_dox, n_dox]; exact eq_dox), hx_ob2 f_qp f_m_doy (by rw [cl_doy, n_doy]; exact eq_doy), hx_ob2 f_qc f_m_fou (by rw [cl_fou, n_m_fou]; exact eq_fou), hx_ob2 f_qc f_mt (by rw [cl_tri, n_mt]; exact eq_tri), trivial⟩, ⟨hx_ob f_qa pf_qa, hx_ob f_qp pf_qp, hx_ob f_qc pf_qc, hx_ob f_qh pf_qh, (fun w q hw hq => by obtain rfl : qw = w := Option.some.inj (f_qw.symm.trans hw); obtain rfl : ql = q := Option.some.inj (f_ql.symm.trans hq); exact pf_ql)⟩, ⟨hx_ob f_mw (by rw [n_mw]; exact hwd), hx_ob f_mr (by rw [n_mr, f_m_acts]; exact hWK), hx_ob2 f_mp f_mn (by rw [n_mp, n_mn, f_m_acts]; exact hRP), hx_ob f_ml (by rw [n_ml, f_m_claims, f_m_acts]; exact hPL), hx_ob f_mh (by rw [n_mh, f_m_heardMany, f_m_claims]; exact hHC), hx_ob f_mt (by rw [n_mt]; exact (hx_TR_le hTR (by omega))), hx_ob2 f_mh f_m_fou (by rw [n_mh, n_m_fou, f_m_claims]; exact hHF)⟩⟩ hl

set_option maxHeartbeats 4000000 in
set_option maxRecDepth 100000 in
theorem law_case_22 {p : Program} {e : Env} {s : State} {m : MethodId} {below : List Frame} {meth : Method} {c : Code} (l : Launch) {b LN : Nat} {xs : Nat → Int32} (hx : p.tables.exec = Jvm.exec) (hb : c.code = code) (hr : meth.sig.returnType = ret) (hlocks : meth.locks = false) (hml : c.maxLocals = 4) (hown : s.vm.findClass "SmallCourtLaw" = some m.cls) (hts : ∀ w ∈ hx_all, w.before #[Value.ref b] s = true) (hX : va_X b LN xs s s.heap) (hbl : b < s.heap.size) (hbA : ¬ s.heap.size ≤ b) (hLN : LN ≤ 3584) (dC : Nat → ClassId) (dI : Nat → Nat → Nat) (dA : Nat → ClassId) (b0 : hx_z) (ax am : Nat) (T1 : Int) (hT0 : 0 ≤ T1) (hT1 : T1 ≤ 511) (i : Int32) (hi0 : 0 ≤ i.toInt) (hiL : i.toInt + 7 ≤ LN) (CC SS : Nat) (hCC : CC + 3 ≤ 600000) (hSS : SS + 179 ≤ 7302250) (L1 : List Nat) (hl1 : hx_h) (H : Heap) (locs : List Loc) (ls : Array Slot) (hW : hx_W T_tb (P_ty dA) (dC, dI) vwCl (fun q : Nat => s.heap.size ≤ q) s.heap L1 hl1 s H locs) (hZ : hx_Xt (fun q : Nat => s.heap.size ≤ q) b0 s) (hI : hx_IV T1 ax am L1 hl1) (hl : lv_has ls 4 [(3, .int i), (2, .ref am), (1, .ref ax), (0, .ref b)]) (kk : ∀ (L2 : List Nat) (h2 : hx_h) (H2 : Heap) (locs2 : List Loc) (ls2 : Array Slot), hx_W T_tb (P_ty dA) (dC, dI) vwCl (fun q : Nat => s.heap.size ≤ q) s.heap L2 h2 s H2 locs2 → hx_IV (T1 + 1) ax am L2 h2 → lv_has ls2 4 [(3, .int i), (2, .ref am), (1, .ref ax), (0, .ref b)] → W p l e room_1 s m #[Value.ref b] below meth c H2 locs2 (CC + 3) (SS + 179) (lw_Z below #[Value.ref b] s) (F0 m 1379 ls2 [])) : W p l e room_1 s m #[Value.ref b] below meth c H locs CC SS (lw_Z below #[Value.ref b] s) (F0 m 1162 ls []) := by
  obtain ⟨hT, gx, gm, ⟨he_nw, he_np, he_c0, ho_ln, ho_lsd, ho_wkm, hn_qp, hn_qc, hk_of, hk_wf, hk_df, hk_kf, hk_sf, hkBD, hLQ, hLE, hkWD, hkDF, hc_dead, hc_isj, hc_dox, hc_doy, hc_fou, hc_tri, -⟩, ⟨ia, ip, ic, ih, il⟩, ⟨jw, jr, jp, jl, jh, jt, jf⟩⟩ := hI
  obtain ⟨qa, f_qa, g_qa⟩ := hx_rf hT gx tt_9 (k := 5) (u := 43) rfl
  have pf_qa := ia qa f_qa
  obtain ⟨qp, f_qp, g_qp⟩ := hx_rf hT gx tt_9 (k := 7) (u := 44) rfl
  have pf_qp := ip qp f_qp
  obtain ⟨qc, f_qc, g_qc⟩ := hx_rf hT gx tt_9 (k := 10) (u := 45) rfl
  have pf_qc := ic qc f_qc
  obtain ⟨qh, f_qh, g_qh⟩ := hx_rf hT gx tt_9 (k := 12) (u := 46) rfl
  have pf_qh := ih qh f_qh
  obtain ⟨qw, f_qw, g_qw⟩ := hx_rf hT gx tt_9 (k := 19) (u := 8) rfl
  obtain ⟨ql, f_ql, g_ql⟩ := hx_rf hT g_qw tt_8 (k := 3) (u := 40) rfl
  have pf_ql := il qw ql f_qw f_ql
  obtain ⟨nw, f_m_now⟩ : ∃ y : Int32, hl1.2.1 am 0 = y := ⟨_, rfl⟩
  have b_nw := hT.gi gm tt_10 (k := 0) rfl
  rw [f_m_now] at b_nw
  have b_nw : 0 ≤ nw.toInt ∧ nw.toInt ≤ 7999 := b_nw
  obtain ⟨np, f_m_persons⟩ : ∃ y : Int32, hl1.2.1 am 20 = y := ⟨_, rfl⟩
  have b_np := hT.gi gm tt_10 (k := 20) rfl
  rw [f_m_persons] at b_np
  have b_np : 0 ≤ np.toInt ∧ np.toInt ≤ 40 := b_np
  obtain ⟨c0, f_m_claims⟩ : ∃ y : Int32, hl1.2.1 am 36 = y := ⟨_, rfl⟩
  have b_c0 := hT.gi gm tt_10 (k := 36) rfl
  rw [f_m_claims] at b_c0
  have b_c0 : 0 ≤ c0.toInt ∧ c0.toInt ≤ 100 := b_c0
  obtain ⟨ln, f_m_lines⟩ : ∃ y : Int32, hl1.2.1 am 29 = y := ⟨_, rfl⟩
  have b_ln := hT.gi gm tt_10 (k := 29) rfl
  rw [f_m_lines] at b_ln
  have b_ln : 0 ≤ ln.toInt ∧ ln.toInt ≤ 400 := b_ln
  obtain ⟨lsd, f_m_listed⟩ : ∃ y : Int32, hl1.2.1 am 90 = y := ⟨_, rfl⟩
  have b_lsd := hT.gi gm tt_10 (k := 90) rfl
  rw [f_m_listed] at b_lsd
  have b_lsd : 0 ≤ lsd.toInt ∧ lsd.toInt ≤ 8 := b_lsd
  obtain ⟨wkm, f_m_walkedMany⟩ : ∃ y : Int32, hl1.2.1 am 92 = y := ⟨_, rfl⟩
  have b_wkm := hT.gi gm tt_10 (k := 92) rfl
  rw [f_m_walkedMany] at b_wkm
  have b_wkm : 0 ≤ wkm.toInt ∧ wkm.toInt ≤ 8 := b_wkm
  obtain ⟨a0, f_m_acts⟩ : ∃ y : Int32, hl1.2.1 am 1 = y := ⟨_, rfl⟩
  have b_a0 := hT.gi gm tt_10 (k := 1) rfl
  rw [f_m_acts] at b_a0
  have b_a0 : 0 ≤ a0.toInt ∧ a0.toInt ≤ 8 := b_a0
  obtain ⟨m0, f_m_heardMany⟩ : ∃ y : Int32, hl1.2.1 am 57 = y := ⟨_, rfl⟩
  have b_m0 := hT.gi gm tt_10 (k := 57) rfl
  rw [f_m_heardMany] at b_m0
  have b_m0 : 0 ≤ m0.toInt ∧ m0.toInt ≤ 100 := b_m0
  have f_x_now : hl1.2.1 ax 2 = nw := he_nw.trans f_m_now
  have f_x_personCount : hl1.2.1 ax 8 = np := he_np.trans f_m_persons
  have f_x_claimCount : hl1.2.1 ax 11 = c0 := he_c0.trans f_m_claims
  obtain ⟨mw, f_mw, g_mw⟩ := hx_rf hT gm tt_10 (k := 19) (u := 57) rfl
  obtain ⟨F_mw, n_mw⟩ : ∃ g : Nat → Int32, hl1.2.1 mw = g := ⟨_, rfl⟩
  obtain ⟨mr, f_mr, g_mr⟩ := hx_rf hT gm tt_10 (k := 3) (u := 50) rfl
  obtain ⟨F_mr, n_mr⟩ : ∃ g : Nat → Int32, hl1.2.1 mr = g := ⟨_, rfl⟩
  obtain ⟨mp, f_mp, g_mp⟩ := hx_rf hT gm tt_10 (k := 5) (u := 52) rfl
  obtain ⟨F_mp, n_mp⟩ : ∃ g : Nat → Int32, hl1.2.1 mp = g := ⟨_, rfl⟩
  obtain ⟨mn, f_mn, g_mn⟩ := hx_rf hT gm tt_10 (k := 4) (u := 51) rfl
  obtain ⟨F_mn, n_mn⟩ : ∃ g : Nat → Int32, hl1.2.1 mn = g := ⟨_, rfl⟩
  obtain ⟨ml, f_ml, g_ml⟩ := hx_rf hT gm tt_10 (k := 44) (u := 79) rfl
  obtain ⟨F_ml, n_ml⟩ : ∃ g : Nat → Int32, hl1.2.1 ml = g := ⟨_, rfl⟩
  obtain ⟨mh, f_mh, g_mh⟩ := hx_rf hT gm tt_10 (k := 47) (u := 82) rfl
  obtain ⟨F_mh, n_mh⟩ : ∃ g : Nat → Int32, hl1.2.1 mh = g := ⟨_, rfl⟩
  obtain ⟨mt, f_mt, g_mt⟩ := hx_rf hT gm tt_10 (k := 45) (u := 80) rfl
  obtain ⟨F_mt, n_mt⟩ : ∃ g : Nat → Int32, hl1.2.1 mt = g := ⟨_, rfl⟩
  obtain ⟨m_fou, f_m_fou, g_m_fou⟩ := hx_rf hT gm tt_10 (k := 46) (u := 81) rfl
  obtain ⟨F_m_fou, n_m_fou⟩ : ∃ g : Nat → Int32, hl1.2.1 m_fou = g := ⟨_, rfl⟩
  obtain ⟨qo_ln, f_qo_ln, g_qo_ln⟩ := hx_rf hT gx tt_9 (k := 9) (u := 1) rfl
  have f_o_ln : hl1.2.1 qo_ln 0 = ln := (ho_ln qo_ln f_qo_ln).trans f_m_lines
  have f_o_lsd : hl1.2.1 qw 0 = lsd := (ho_lsd qw f_qw).trans f_m_listed
  have f_o_wkm : hl1.2.1 qw 1 = wkm := (ho_wkm qw f_qw).trans f_m_walkedMany
  have nu_qp := hn_qp qp f_qp; rw [f_x_personCount] at nu_qp
  have nu_qc := hn_qc qc f_qc; rw [f_x_claimCount] at nu_qc
  obtain ⟨b_of, f_b_of, g_b_of⟩ := hx_rf hT g_qo_ln tt_1 (k := 1) (u := 13) rfl
  obtain ⟨B_of, n_b_of⟩ : ∃ g : Nat → Int32, hl1.2.1 b_of = g := ⟨_, rfl⟩
  obtain ⟨m_of, f_m_of, g_m_of⟩ := hx_rf hT gm tt_10 (k := 30) (u := 66) rfl
  obtain ⟨F_of, n_m_of⟩ : ∃ g : Nat → Int32, hl1.2.1 m_of = g := ⟨_, rfl⟩
  have eb_of := hk_of qo_ln b_of m_of f_qo_ln f_b_of f_m_of; rw [n_b_of, n_m_of, f_o_ln] at eb_of
  obtain ⟨b_wf, f_b_wf, g_b_wf⟩ := hx_rf hT g_qo_ln tt_1 (k := 2) (u := 14) rfl
  obtain ⟨B_wf, n_b_wf⟩ : ∃ g : Nat → Int32, hl1.2.1 b_wf = g := ⟨_, rfl⟩
  obtain ⟨m_wf, f_m_wf, g_m_wf⟩ := hx_rf hT gm tt_10 (k := 31) (u := 67) rfl
  obtain ⟨F_wf, n_m_wf⟩ : ∃ g : Nat → Int32, hl1.2.1 m_wf = g := ⟨_, rfl⟩
  have eb_wf := hk_wf qo_ln b_wf m_wf f_qo_ln f_b_wf f_m_wf; rw [n_b_wf, n_m_wf, f_o_ln] at eb_wf
  obtain ⟨b_df, f_b_df, g_b_df⟩ := hx_rf hT g_qo_ln tt_1 (k := 3) (u := 15) rfl
  obtain ⟨B_df, n_b_df⟩ : ∃ g : Nat → Int32, hl1.2.1 b_df = g := ⟨_, rfl⟩
  obtain ⟨m_df, f_m_df, g_m_df⟩ := hx_rf hT gm tt_10 (k := 32) (u := 68) rfl
  obtain ⟨F_df, n_m_df⟩ : ∃ g : Nat → Int32, hl1.2.1 m_df = g := ⟨_, rfl⟩
  have eb_df := hk_df qo_ln b_df m_df f_qo_ln f_b_df f_m_df; rw [n_b_df, n_m_df, f_o_ln] at eb_df
  obtain ⟨b_kf, f_b_kf, g_b_kf⟩ := hx_rf hT g_qo_ln tt_1 (k := 4) (u := 16) rfl
  obtain ⟨B_kf, n_b_kf⟩ : ∃ g : Nat → Int32, hl1.2.1 b_kf = g := ⟨_, rfl⟩
  obtain ⟨m_kf, f_m_kf, g_m_kf⟩ := hx_rf hT gm tt_10 (k := 33) (u := 69) rfl
  obtain ⟨F_kf, n_m_kf⟩ : ∃ g : Nat → Int32, hl1.2.1 m_kf = g := ⟨_, rfl⟩
  have eb_kf := hk_kf qo_ln b_kf m_kf f_qo_ln f_b_kf f_m_kf; rw [n_b_kf, n_m_kf, f_o_ln] at eb_kf
  obtain ⟨b_sf, f_b_sf, g_b_sf⟩ := hx_rf hT g_qo_ln tt_1 (k := 5) (u := 17) rfl
  obtain ⟨B_sf, n_b_sf⟩ : ∃ g : Nat → Int32, hl1.2.1 b_sf = g := ⟨_, rfl⟩
  obtain ⟨m_sf, f_m_sf, g_m_sf⟩ := hx_rf hT gm tt_10 (k := 34) (u := 70) rfl
  obtain ⟨F_sf, n_m_sf⟩ : ∃ g : Nat → Int32, hl1.2.1 m_sf = g := ⟨_, rfl⟩
  have eb_sf := hk_sf qo_ln b_sf m_sf f_qo_ln f_b_sf f_m_sf; rw [n_b_sf, n_m_sf, f_o_ln] at eb_sf
  obtain ⟨b_bf, f_b_bf, g_b_bf⟩ := hx_rf hT g_qo_ln tt_1 (k := 6) (u := 18) rfl
  obtain ⟨bfL, n_b_bf⟩ : ∃ g : Nat → Int32, hl1.2.1 b_bf = g := ⟨_, rfl⟩
  obtain ⟨hBD, hDY⟩ := hkBD qo_ln b_df b_bf f_qo_ln f_b_df f_b_bf; rw [n_b_df, n_b_bf, f_o_ln] at hBD; rw [n_b_df, f_o_ln] at hDY
  have hBDm := hy_BD_c eb_df hBD
  have hDYm : hy_DY F_df ln.toInt.toNat := fun x hx => by rw [← eb_df x hx]; exact hDY x hx
  have sb_list := hLQ qw ql qc f_qw f_ql f_qc
  obtain ⟨m_lst, f_m_lst, g_m_lst⟩ := hx_rf hT gm tt_10 (k := 91) (u := 112) rfl
  obtain ⟨F_lst, n_lst⟩ : ∃ g : Nat → Int32, hl1.2.1 m_lst = g := ⟨_, rfl⟩
  obtain ⟨c_lst, cl_lst⟩ : ∃ g : Nat → Int32, hx_col 8 hl1 ql 0 = g := ⟨_, rfl⟩
  have eq_lst := hLE qw ql m_lst f_qw f_ql f_m_lst; rw [cl_lst, n_lst] at eq_lst
  obtain ⟨c_dead, cl_dead⟩ : ∃ g : Nat → Int32, hx_col 40 hl1 qp 7 = g := ⟨_, rfl⟩
  obtain ⟨m_dead, f_m_dead, g_m_dead⟩ := hx_rf hT gm tt_10 (k := 27) (u := 64) rfl
  obtain ⟨F_dead, n_dead⟩ : ∃ g : Nat → Int32, hl1.2.1 m_dead = g := ⟨_, rfl⟩
  have eq_dead := hc_dead qp m_dead f_qp f_m_dead; rw [cl_dead, n_dead] at eq_dead
  have z_dead : np.toInt.toNat < 40 → c_dead np.toInt.toNat = 0 := fun hj => hx_num_z nu_qp cl_dead hj (by omega)
  obtain ⟨c_isj, cl_isj⟩ : ∃ g : Nat → Int32, hx_col 40 hl1 qp 8 = g := ⟨_, rfl⟩
  obtain ⟨m_isj, f_m_isj, g_m_isj⟩ := hx_rf hT gm tt_10 (k := 28) (u := 65) rfl
  obtain ⟨F_isj, n_isj⟩ : ∃ g : Nat → Int32, hl1.2.1 m_isj = g := ⟨_, rfl⟩
  have eq_isj := hc_isj qp m_isj f_qp f_m_isj; rw [cl_isj, n_isj] at eq_isj
  have z_isj : np.toInt.toNat < 40 → c_isj np.toInt.toNat = 0 := fun hj => hx_num_z nu_qp cl_isj hj (by omega)
  obtain ⟨c_dox, cl_dox⟩ : ∃ g : Nat → Int32, hx_col 40 hl1 qp 5 = g := ⟨_, rfl⟩
  obtain ⟨m_dox, f_m_dox, g_m_dox⟩ := hx_rf hT gm tt_10 (k := 24) (u := 61) rfl
  obtain ⟨F_dox, n_dox⟩ : ∃ g : Nat → Int32, hl1.2.1 m_dox = g := ⟨_, rfl⟩
  have eq_dox := hc_dox qp m_dox f_qp f_m_dox; rw [cl_dox, n_dox] at eq_dox
  have z_dox : np.toInt.toNat < 40 → c_dox np.toInt.toNat = 0 := fun hj => hx_num_z nu_qp cl_dox hj (by omega)
  obtain ⟨c_doy, cl_doy⟩ : ∃ g : Nat → Int32, hx_col 40 hl1 qp 6 = g := ⟨_, rfl⟩
  obtain ⟨m_doy, f_m_doy, g_m_doy⟩ := hx_rf hT gm tt_10 (k := 25) (u := 62) rfl
  obtain ⟨F_doy, n_doy⟩ : ∃ g : Nat → Int32, hl1.2.1 m_doy = g := ⟨_, rfl⟩
  have eq_doy := hc_doy qp m_doy f_qp f_m_doy; rw [cl_doy, n_doy] at eq_doy
  have z_doy : np.toInt.toNat < 40 → c_doy np.toInt.toNat = 0 := fun hj => hx_num_z nu_qp cl_doy hj (by omega)
  obtain ⟨c_fou, cl_fou⟩ : ∃ g : Nat → Int32, hx_col 100 hl1 qc 10 = g := ⟨_, rfl⟩
  have eq_fou := hc_fou qc m_fou f_qc f_m_fou; rw [cl_fou, n_m_fou] at eq_fou
  have z_fou : c0.toInt.toNat < 100 → c_fou c0.toInt.toNat = 0 := fun hj => hx_num_z nu_qc cl_fou hj (by omega)
  obtain ⟨c_tri, cl_tri⟩ : ∃ g : Nat → Int32, hx_col 100 hl1 qc 9 = g := ⟨_, rfl⟩
  have eq_tri := hc_tri qc mt f_qc f_mt; rw [cl_tri, n_mt] at eq_tri
  have z_tri : c0.toInt.toNat < 100 → c_tri c0.toInt.toNat = 0 := fun hj => hx_num_z nu_qc cl_tri hj (by omega)
  obtain ⟨qlt, f_qlt, g_qlt⟩ := hx_rf hT g_qw tt_8 (k := 2) (u := 39) rfl
  obtain ⟨qlf, f_qlf, g_qlf⟩ := hx_rf hT g_qw tt_8 (k := 4) (u := 41) rfl
  obtain ⟨m_wkd, f_m_wkd, g_m_wkd⟩ := hx_rf hT gm tt_10 (k := 93) (u := 113) rfl
  obtain ⟨F_qlt, n_qlt⟩ : ∃ g : Nat → Int32, hl1.2.1 qlt = g := ⟨_, rfl⟩
  obtain ⟨F_m_wkd, n_m_wkd⟩ : ∃ g : Nat → Int32, hl1.2.1 m_wkd = g := ⟨_, rfl⟩
  have eb_wkd := hkWD qw qlt m_wkd f_qw f_qlt f_m_wkd; rw [n_qlt, n_m_wkd, f_o_wkm] at eb_wkd
  obtain ⟨m_aga, f_m_aga, g_m_aga⟩ := hx_rf hT gm tt_10 (k := 38) (u := 73) rfl
  obtain ⟨F_aga, n_aga⟩ : ∃ g : Nat → Int32, hl1.2.1 m_aga = g := ⟨_, rfl⟩
  have hDF := hkDF qc qp m_aga f_qc f_qp f_m_aga; rw [n_aga, f_x_claimCount] at hDF
  have hwd := jw mw f_mw; rw [n_mw] at hwd
  have hWK := jr mr f_mr; rw [n_mr, f_m_acts] at hWK
  have hRP := jp mp mn f_mp f_mn; rw [n_mp, n_mn, f_m_acts] at hRP
  have hPL := jl ml f_ml; rw [n_ml, f_m_claims, f_m_acts] at hPL
  have hHC := jh mh f_mh; rw [n_mh, f_m_heardMany, f_m_claims] at hHC
  have hTR := jt mt f_mt; rw [n_mt] at hTR
  have hHF := jf mh m_fou f_mh f_m_fou; rw [n_mh, n_m_fou, f_m_claims] at hHF
  refine lv_aload_n hx hb dL_law_1162 rfl (lv_at hl 2 rfl) ?_
  refine lv_aload_n hx hb dL_law_1163 rfl (lv_at hl 3 rfl) ?_
  refine lv_iload_n hx hb dL_law_1164 rfl (lv_at hl 0 rfl) ?_
  refine lv_iconst (v := 1) hx hb dL_law_1165 (by decide) ?_
  refine lv_iadd hx hb dL_law_1166 ?_
  have rg_581 := i32_r i
  refine lv_topi (fun x_582 ex_582 => ?_)
  have zx_582 : x_582.toInt = i.toInt + 1 := by rw [ex_582]; exact i32_add rfl (by decide) (by omega) (by omega)
  refine va_sld hx hb hX hbl hbA hW.2.2.2.1 (vp_in_iff.mpr ⟨by omega, by omega⟩) dL_law_1167 ?_
  refine lv_topi (fun x_583 ex_583 => ?_)
  refine lv_aload_n hx hb dL_law_1168 rfl (lv_at hl 3 rfl) ?_
  refine lv_iload_n hx hb dL_law_1169 rfl (lv_at hl 0 rfl) ?_
  refine lv_iconst (v := 2) hx hb dL_law_1170 (by decide) ?_
  refine lv_iadd hx hb dL_law_1171 ?_
  refine lv_topi (fun x_584 ex_584 => ?_)
  have zx_584 : x_584.toInt = i.toInt + 2 := by rw [ex_584]; exact i32_add rfl (by decide) (by omega) (by omega)
  refine va_sld hx hb hX hbl hbA hW.2.2.2.1 (vp_in_iff.mpr ⟨by omega, by omega⟩) dL_law_1172 ?_
  refine lv_topi (fun x_585 ex_585 => ?_)
  have hTo := hT
  refine hx_goi (hx_runV (As := [.int x_583, .int x_585]) (rest := []) ⟨hx, hb, hml, hown, hts⟩ hW gx tt_9 (T := TX9) (N := 20) rfl (t_X9_planned l dC dI dA L1 hl1 H.size ax x_583 x_585 hT gx) (cwV 2 hts (hx_gV kw_980 kw_977 kw_978 kw_979 kw_94) rfl rfl rfl (by decide +kernel) ⟨Nat.le_of_ble_eq_true rfl, Nat.le_of_ble_eq_true rfl⟩) rfl hl.1 rfl (Nat.le_of_ble_eq_true rfl) dL_law_1173 ⟨(show CC + 0 ≤ 600000 from by omega), (show SS + 0 ≤ 7302250 from by omega)⟩) hW (fun r_588 L_586 h_587 H locs p_589 hW => ?_)
  obtain ⟨hr_590, hT, hs⟩ := p_589
  replace hT : hx_T T_tb L_586 h_587 := hT
  replace hs : hx_S T_tb [] L1 hl1 L_586 h_587 := hs
  replace f_qa := (hs.o gx trivial rfl).2.trans f_qa
  replace f_qp := (hs.o gx trivial rfl).2.trans f_qp
  replace f_qc := (hs.o gx trivial rfl).2.trans f_qc
  replace f_qh := (hs.o gx trivial rfl).2.trans f_qh
  replace f_qw := (hs.o gx trivial rfl).2.trans f_qw
  replace f_ql := (hs.o g_qw trivial rfl).2.trans f_ql
  replace f_m_now := (hs.o gm trivial rfl).1.trans f_m_now
  replace f_m_persons := (hs.o gm trivial rfl).1.trans f_m_persons
  replace f_m_claims := (hs.o gm trivial rfl).1.trans f_m_claims
  replace f_m_lines := (hs.o gm trivial rfl).1.trans f_m_lines
  replace f_m_listed := (hs.o gm trivial rfl).1.trans f_m_listed
  replace f_m_walkedMany := (hs.o gm trivial rfl).1.trans f_m_walkedMany
  replace f_m_acts := (hs.o gm trivial rfl).1.trans f_m_acts
  replace f_m_heardMany := (hs.o gm trivial rfl).1.trans f_m_heardMany
  replace f_x_now := (hs.o gx trivial rfl).1.trans f_x_now
  replace f_x_personCount := (hs.o gx trivial rfl).1.trans f_x_personCount
  replace f_x_claimCount := (hs.o gx trivial rfl).1.trans f_x_claimCount
  replace f_mw := (hs.o gm trivial rfl).2.trans f_mw
  replace f_mr := (hs.o gm trivial rfl).2.trans f_mr
  replace f_mp := (hs.o gm trivial rfl).2.trans f_mp
  replace f_mn := (hs.o gm trivial rfl).2.trans f_mn
  replace f_ml := (hs.o gm trivial rfl).2.trans f_ml
  replace f_mh := (hs.o gm trivial rfl).2.trans f_mh
  replace f_mt := (hs.o gm trivial rfl).2.trans f_mt
  replace f_m_fou := (hs.o gm trivial rfl).2.trans f_m_fou
  replace f_qo_ln := (hs.o gx trivial rfl).2.trans f_qo_ln
  replace f_o_ln := (hs.o g_qo_ln trivial rfl).1.trans f_o_ln
  replace f_o_lsd := (hs.o g_qw trivial rfl).1.trans f_o_lsd
  replace f_o_wkm := (hs.o g_qw trivial rfl).1.trans f_o_wkm
  replace f_b_of := (hs.o g_qo_ln trivial rfl).2.trans f_b_of
  replace f_m_of := (hs.o gm trivial rfl).2.trans f_m_of
  replace f_b_wf := (hs.o g_qo_ln trivial rfl).2.trans f_b_wf
  replace f_m_wf := (hs.o gm trivial rfl).2.trans f_m_wf
  replace f_b_df := (hs.o g_qo_ln trivial rfl).2.trans f_b_df
  replace f_m_df := (hs.o gm trivial rfl).2.trans f_m_df
  replace f_b_kf := (hs.o g_qo_ln trivial rfl).2.trans f_b_kf
  replace f_m_kf := (hs.o gm trivial rfl).2.trans f_m_kf
  replace f_b_sf := (hs.o g_qo_ln trivial rfl).2.trans f_b_sf
  replace f_m_sf := (hs.o gm trivial rfl).2.trans f_m_sf
  replace f_b_bf := (hs.o g_qo_ln trivial rfl).2.trans f_b_bf
  replace f_m_lst := (hs.o gm trivial rfl).2.trans f_m_lst
  replace f_m_dead := (hs.o gm trivial rfl).2.trans f_m_dead
  replace f_m_isj := (hs.o gm trivial rfl).2.trans f_m_isj
  replace f_m_dox := (hs.o gm trivial rfl).2.trans f_m_dox
  replace f_m_doy := (hs.o gm trivial rfl).2.trans f_m_doy
  replace f_qlt := (hs.o g_qw trivial rfl).2.trans f_qlt
  replace f_qlf := (hs.o g_qw trivial rfl).2.trans f_qlf
  replace f_m_wkd := (hs.o gm trivial rfl).2.trans f_m_wkd
  replace f_m_aga := (hs.o gm trivial rfl).2.trans f_m_aga
  replace pf_qa : ∀ j : Nat, (j : Int) < (h_587.2.1 ax 6).toInt → h_587.2.2 qa j ≠ none := by
    intro j hj; rw [(hs.o gx trivial rfl).1] at hj; rw [(hs.a g_qa rfl j).2]; exact pf_qa j hj
  replace pf_qp : ∀ j : Nat, (j : Int) < (h_587.2.1 ax 8).toInt → h_587.2.2 qp j ≠ none := by
    intro j hj; rw [(hs.o gx trivial rfl).1] at hj; rw [(hs.a g_qp rfl j).2]; exact pf_qp j hj
  replace pf_qc : ∀ j : Nat, (j : Int) < (h_587.2.1 ax 11).toInt → h_587.2.2 qc j ≠ none := by
    intro j hj; rw [(hs.o gx trivial rfl).1] at hj; rw [(hs.a g_qc rfl j).2]; exact pf_qc j hj
  replace pf_qh : ∀ j : Nat, (j : Int) < (h_587.2.1 ax 13).toInt → h_587.2.2 qh j ≠ none := by
    intro j hj; rw [(hs.o gx trivial rfl).1] at hj; rw [(hs.a g_qh rfl j).2]; exact pf_qh j hj
  replace pf_ql : ∀ j : Nat, (j : Int) < (h_587.2.1 qw 0).toInt → h_587.2.2 ql j ≠ none := by
    intro j hj; rw [(hs.o g_qw trivial rfl).1] at hj; rw [(hs.a g_ql rfl j).2]; exact pf_ql j hj
  replace cl_lst : hx_col 8 h_587 ql 0 = c_lst := (hx_col_S hs hTo g_ql tt_40 tt_2 rfl rfl).trans cl_lst
  replace cl_dead : hx_col 40 h_587 qp 7 = c_dead := (hx_col_S hs hTo g_qp tt_44 tt_4 rfl rfl).trans cl_dead
  replace cl_isj : hx_col 40 h_587 qp 8 = c_isj := (hx_col_S hs hTo g_qp tt_44 tt_4 rfl rfl).trans cl_isj
  replace cl_dox : hx_col 40 h_587 qp 5 = c_dox := (hx_col_S hs hTo g_qp tt_44 tt_4 rfl rfl).trans cl_dox
  replace cl_doy : hx_col 40 h_587 qp 6 = c_doy := (hx_col_S hs hTo g_qp tt_44 tt_4 rfl rfl).trans cl_doy
  replace cl_fou : hx_col 100 h_587 qc 10 = c_fou := (hx_col_S hs hTo g_qc tt_45 tt_2 rfl rfl).trans cl_fou
  replace cl_tri : hx_col 100 h_587 qc 9 = c_tri := (hx_col_S hs hTo g_qc tt_45 tt_2 rfl rfl).trans cl_tri
  replace nu_qp : hx_num 40 h_587 qp 0 (np.toInt) := hx_num_S hs hTo g_qp tt_44 tt_4 rfl rfl nu_qp
  replace nu_qc : hx_num 100 h_587 qc 0 (c0.toInt) := hx_num_S hs hTo g_qc tt_45 tt_2 rfl rfl nu_qc
  replace sb_list : hx_LQ 8 100 h_587 ql qc := hx_LQ_S hs g_ql g_qc rfl rfl sb_list
  replace hDF : hw_DF h_587 qc qp 2 F_aga c0.toInt := hw_DF_S hs hTo g_qc g_qp tt_45 tt_2 rfl rfl rfl hDF
  replace n_mw : h_587.2.1 mw = F_mw := (funext fun j => (hs.a g_mw rfl j).1).trans n_mw
  replace n_mr : h_587.2.1 mr = F_mr := (funext fun j => (hs.a g_mr rfl j).1).trans n_mr
  replace n_mp : h_587.2.1 mp = F_mp := (funext fun j => (hs.a g_mp rfl j).1).trans n_mp
  replace n_mn : h_587.2.1 mn = F_mn := (funext fun j => (hs.a g_mn rfl j).1).trans n_mn
  replace n_ml : h_587.2.1 ml = F_ml := (funext fun j => (hs.a g_ml rfl j).1).trans n_ml
  replace n_mh : h_587.2.1 mh = F_mh := (funext fun j => (hs.a g_mh rfl j).1).trans n_mh
  replace n_mt : h_587.2.1 mt = F_mt := (funext fun j => (hs.a g_mt rfl j).1).trans n_mt
  replace n_m_fou : h_587.2.1 m_fou = F_m_fou := (funext fun j => (hs.a g_m_fou rfl j).1).trans n_m_fou
  replace n_b_of : h_587.2.1 b_of = B_of := (funext fun j => (hs.a g_b_of rfl j).1).trans n_b_of
  replace n_m_of : h_587.2.1 m_of = F_of := (funext fun j => (hs.a g_m_of rfl j).1).trans n_m_of
  replace n_b_wf : h_587.2.1 b_wf = B_wf := (funext fun j => (hs.a g_b_wf rfl j).1).trans n_b_wf
  replace n_m_wf : h_587.2.1 m_wf = F_wf := (funext fun j => (hs.a g_m_wf rfl j).1).trans n_m_wf
  replace n_b_df : h_587.2.1 b_df = B_df := (funext fun j => (hs.a g_b_df rfl j).1).trans n_b_df
  replace n_m_df : h_587.2.1 m_df = F_df := (funext fun j => (hs.a g_m_df rfl j).1).trans n_m_df
  replace n_b_kf : h_587.2.1 b_kf = B_kf := (funext fun j => (hs.a g_b_kf rfl j).1).trans n_b_kf
  replace n_m_kf : h_587.2.1 m_kf = F_kf := (funext fun j => (hs.a g_m_kf rfl j).1).trans n_m_kf
  replace n_b_sf : h_587.2.1 b_sf = B_sf := (funext fun j => (hs.a g_b_sf rfl j).1).trans n_b_sf
  replace n_m_sf : h_587.2.1 m_sf = F_sf := (funext fun j => (hs.a g_m_sf rfl j).1).trans n_m_sf
  replace n_b_bf : h_587.2.1 b_bf = bfL := (funext fun j => (hs.a g_b_bf rfl j).1).trans n_b_bf
  replace n_lst : h_587.2.1 m_lst = F_lst := (funext fun j => (hs.a g_m_lst rfl j).1).trans n_lst
  replace n_dead : h_587.2.1 m_dead = F_dead := (funext fun j => (hs.a g_m_dead rfl j).1).trans n_dead
  replace n_isj : h_587.2.1 m_isj = F_isj := (funext fun j => (hs.a g_m_isj rfl j).1).trans n_isj
  replace n_dox : h_587.2.1 m_dox = F_dox := (funext fun j => (hs.a g_m_dox rfl j).1).trans n_dox
  replace n_doy : h_587.2.1 m_doy = F_doy := (funext fun j => (hs.a g_m_doy rfl j).1).trans n_doy
  replace n_qlt : h_587.2.1 qlt = F_qlt := (funext fun j => (hs.a g_qlt rfl j).1).trans n_qlt
  replace n_m_wkd : h_587.2.1 m_wkd = F_m_wkd := (funext fun j => (hs.a g_m_wkd rfl j).1).trans n_m_wkd
  replace n_aga : h_587.2.1 m_aga = F_aga := (funext fun j => (hs.a g_m_aga rfl j).1).trans n_aga
  replace gx := gx.S hs
  replace gm := gm.S hs
  replace g_qa := g_qa.S hs
  replace g_qp := g_qp.S hs
  replace g_qc := g_qc.S hs
  replace g_qh := g_qh.S hs
  replace g_qw := g_qw.S hs
  replace g_ql := g_ql.S hs
  replace g_mw := g_mw.S hs
  replace g_mr := g_mr.S hs
  replace g_mp := g_mp.S hs
  replace g_mn := g_mn.S hs
  replace g_ml := g_ml.S hs
  replace g_mh := g_mh.S hs
  replace g_mt := g_mt.S hs
  replace g_m_fou := g_m_fou.S hs
  replace g_qo_ln := g_qo_ln.S hs
  replace g_b_of := g_b_of.S hs
  replace g_m_of := g_m_of.S hs
  replace g_b_wf := g_b_wf.S hs
  replace g_m_wf := g_m_wf.S hs
  replace g_b_df := g_b_df.S hs
  replace g_m_df := g_m_df.S hs
  replace g_b_kf := g_b_kf.S hs
  replace g_m_kf := g_m_kf.S hs
  replace g_b_sf := g_b_sf.S hs
  replace g_m_sf := g_m_sf.S hs
  replace g_b_bf := g_b_bf.S hs
  replace g_m_lst := g_m_lst.S hs
  replace g_m_dead := g_m_dead.S hs
  replace g_m_isj := g_m_isj.S hs
  replace g_m_dox := g_m_dox.S hs
  replace g_m_doy := g_m_doy.S hs
  replace g_qlt := g_qlt.S hs
  replace g_qlf := g_qlf.S hs
  replace g_m_wkd := g_m_wkd.S hs
  replace g_m_aga := g_m_aga.S hs
  refine lv_pop hx hb dL_law_1176 rfl ?_
  refine lv_aload_n hx hb dL_law_1177 rfl (lv_at hl 1 rfl) ?_
  refine lv_aload_n hx hb dL_law_1178 rfl (lv_at hl 3 rfl) ?_
  refine lv_iload_n hx hb dL_law_1179 rfl (lv_at hl 0 rfl) ?_
  refine lv_iconst (v := 1) hx hb dL_law_1180 (by decide) ?_
  refine lv_iadd hx hb dL_law_1181 ?_
  refine lv_topi (fun x_591 ex_591 => ?_)
  have zx_591 : x_591.toInt = i.toInt + 1 := by rw [ex_591]; exact i32_add rfl (by decide) (by omega) (by omega)
  obtain rfl : x_582 = x_591 := ex_582.trans ex_591.symm
  refine va_sld hx hb hX hbl hbA hW.2.2.2.1 (vp_in_iff.mpr ⟨by omega, by omega⟩) dL_law_1182 ?_
  refine lv_topi (fun x_592 ex_592 => ?_)
  obtain rfl : x_583 = x_592 := ex_583.trans ex_592.symm
  refine lv_aload_n hx hb dL_law_1183 rfl (lv_at hl 3 rfl) ?_
  refine lv_iload_n hx hb dL_law_1184 rfl (lv_at hl 0 rfl) ?_
  refine lv_iconst (v := 2) hx hb dL_law_1185 (by decide) ?_
  refine lv_iadd hx hb dL_law_1186 ?_
  refine lv_topi (fun x_593 ex_593 => ?_)
  have zx_593 : x_593.toInt = i.toInt + 2 := by rw [ex_593]; exact i32_add rfl (by decide) (by omega) (by omega)
  obtain rfl : x_584 = x_593 := ex_584.trans ex_593.symm
  refine va_sld hx hb hX hbl hbA hW.2.2.2.1 (vp_in_iff.mpr ⟨by omega, by omega⟩) dL_law_1187 ?_
  refine lv_topi (fun x_594 ex_594 => ?_)
  obtain rfl : x_585 = x_594 := ex_585.trans ex_594.symm
  have hTo := hT
  refine hx_goi (hx_runV (As := [.int x_583, .int x_585]) (rest := []) ⟨hx, hb, hml, hown, hts⟩ hW gm tt_10 (T := TX10) (N := 98) rfl (t_X10_planned l dC dI dA L_586 h_587 H.size am x_583 x_585 hT gm) (cwV 2 hts (hx_gV kw_1686 kw_1683 kw_1684 kw_1685 kw_103) rfl rfl rfl (by decide +kernel) ⟨Nat.le_of_ble_eq_true rfl, Nat.le_of_ble_eq_true rfl⟩) rfl hl.1 rfl (Nat.le_of_ble_eq_true rfl) dL_law_1188 ⟨(show CC + 0 + 0 ≤ 600000 from by omega), (show SS + 0 + 0 ≤ 7302250 from by omega)⟩) hW (fun r_597 L_595 h_596 H locs p_598 hW => ?_)
  obtain ⟨hr_599, hT, hs⟩ := p_598
  replace hT : hx_T T_tb L_595 h_596 := hT
  replace hs : hx_S T_tb [] L_586 h_587 L_595 h_596 := hs
  replace f_qa := (hs.o gx trivial rfl).2.trans f_qa
  replace f_qp := (hs.o gx trivial rfl).2.trans f_qp
  replace f_qc := (hs.o gx trivial rfl).2.trans f_qc
  replace f_qh := (hs.o gx trivial rfl).2.trans f_qh
  replace f_qw := (hs.o gx trivial rfl).2.trans f_qw
  replace f_ql := (hs.o g_qw trivial rfl).2.trans f_ql
  replace f_m_now := (hs.o gm trivial rfl).1.trans f_m_now
  replace f_m_persons := (hs.o gm trivial rfl).1.trans f_m_persons
  replace f_m_claims := (hs.o gm trivial rfl).1.trans f_m_claims
  replace f_m_lines := (hs.o gm trivial rfl).1.trans f_m_lines
  replace f_m_listed := (hs.o gm trivial rfl).1.trans f_m_listed
  replace f_m_walkedMany := (hs.o gm trivial rfl).1.trans f_m_walkedMany
  replace f_m_acts := (hs.o gm trivial rfl).1.trans f_m_acts
  replace f_m_heardMany := (hs.o gm trivial rfl).1.trans f_m_heardMany
  replace f_x_now := (hs.o gx trivial rfl).1.trans f_x_now
  replace f_x_personCount := (hs.o gx trivial rfl).1.trans f_x_personCount
  replace f_x_claimCount := (hs.o gx trivial rfl).1.trans f_x_claimCount
  replace f_mw := (hs.o gm trivial rfl).2.trans f_mw
  replace f_mr := (hs.o gm trivial rfl).2.trans f_mr
  replace f_mp := (hs.o gm trivial rfl).2.trans f_mp
  replace f_mn := (hs.o gm trivial rfl).2.trans f_mn
  replace f_ml := (hs.o gm trivial rfl).2.trans f_ml
  replace f_mh := (hs.o gm trivial rfl).2.trans f_mh
  replace f_mt := (hs.o gm trivial rfl).2.trans f_mt
  replace f_m_fou := (hs.o gm trivial rfl).2.trans f_m_fou
  replace f_qo_ln := (hs.o gx trivial rfl).2.trans f_qo_ln
  replace f_o_ln := (hs.o g_qo_ln trivial rfl).1.trans f_o_ln
  replace f_o_lsd := (hs.o g_qw trivial rfl).1.trans f_o_lsd
  replace f_o_wkm := (hs.o g_qw trivial rfl).1.trans f_o_wkm
  replace f_b_of := (hs.o g_qo_ln trivial rfl).2.trans f_b_of
  replace f_m_of := (hs.o gm trivial rfl).2.trans f_m_of
  replace f_b_wf := (hs.o g_qo_ln trivial rfl).2.trans f_b_wf
  replace f_m_wf := (hs.o gm trivial rfl).2.trans f_m_wf
  replace f_b_df := (hs.o g_qo_ln trivial rfl).2.trans f_b_df
  replace f_m_df := (hs.o gm trivial rfl).2.trans f_m_df
  replace f_b_kf := (hs.o g_qo_ln trivial rfl).2.trans f_b_kf
  replace f_m_kf := (hs.o gm trivial rfl).2.trans f_m_kf
  replace f_b_sf := (hs.o g_qo_ln trivial rfl).2.trans f_b_sf
  replace f_m_sf := (hs.o gm trivial rfl).2.trans f_m_sf
  replace f_b_bf := (hs.o g_qo_ln trivial rfl).2.trans f_b_bf
  replace f_m_lst := (hs.o gm trivial rfl).2.trans f_m_lst
  replace f_m_dead := (hs.o gm trivial rfl).2.trans f_m_dead
  replace f_m_isj := (hs.o gm trivial rfl).2.trans f_m_isj
  replace f_m_dox := (hs.o gm trivial rfl).2.trans f_m_dox
  replace f_m_doy := (hs.o gm trivial rfl).2.trans f_m_doy
  replace f_qlt := (hs.o g_qw trivial rfl).2.trans f_qlt
  replace f_qlf := (hs.o g_qw trivial rfl).2.trans f_qlf
  replace f_m_wkd := (hs.o gm trivial rfl).2.trans f_m_wkd
  replace f_m_aga := (hs.o gm trivial rfl).2.trans f_m_aga
  replace pf_qa : ∀ j : Nat, (j : Int) < (h_596.2.1 ax 6).toInt → h_596.2.2 qa j ≠ none := by
    intro j hj; rw [(hs.o gx trivial rfl).1] at hj; rw [(hs.a g_qa rfl j).2]; exact pf_qa j hj
  replace pf_qp : ∀ j : Nat, (j : Int) < (h_596.2.1 ax 8).toInt → h_596.2.2 qp j ≠ none := by
    intro j hj; rw [(hs.o gx trivial rfl).1] at hj; rw [(hs.a g_qp rfl j).2]; exact pf_qp j hj
  replace pf_qc : ∀ j : Nat, (j : Int) < (h_596.2.1 ax 11).toInt → h_596.2.2 qc j ≠ none := by
    intro j hj; rw [(hs.o gx trivial rfl).1] at hj; rw [(hs.a g_qc rfl j).2]; exact pf_qc j hj
  replace pf_qh : ∀ j : Nat, (j : Int) < (h_596.2.1 ax 13).toInt → h_596.2.2 qh j ≠ none := by
    intro j hj; rw [(hs.o gx trivial rfl).1] at hj; rw [(hs.a g_qh rfl j).2]; exact pf_qh j hj
  replace pf_ql : ∀ j : Nat, (j : Int) < (h_596.2.1 qw 0).toInt → h_596.2.2 ql j ≠ none := by
    intro j hj; rw [(hs.o g_qw trivial rfl).1] at hj; rw [(hs.a g_ql rfl j).2]; exact pf_ql j hj
  replace cl_lst : hx_col 8 h_596 ql 0 = c_lst := (hx_col_S hs hTo g_ql tt_40 tt_2 rfl rfl).trans cl_lst
  replace cl_dead : hx_col 40 h_596 qp 7 = c_dead := (hx_col_S hs hTo g_qp tt_44 tt_4 rfl rfl).trans cl_dead
  replace cl_isj : hx_col 40 h_596 qp 8 = c_isj := (hx_col_S hs hTo g_qp tt_44 tt_4 rfl rfl).trans cl_isj
  replace cl_dox : hx_col 40 h_596 qp 5 = c_dox := (hx_col_S hs hTo g_qp tt_44 tt_4 rfl rfl).trans cl_dox
  replace cl_doy : hx_col 40 h_596 qp 6 = c_doy := (hx_col_S hs hTo g_qp tt_44 tt_4 rfl rfl).trans cl_doy
  replace cl_fou : hx_col 100 h_596 qc 10 = c_fou := (hx_col_S hs hTo g_qc tt_45 tt_2 rfl rfl).trans cl_fou
  replace cl_tri : hx_col 100 h_596 qc 9 = c_tri := (hx_col_S hs hTo g_qc tt_45 tt_2 rfl rfl).trans cl_tri
  replace nu_qp : hx_num 40 h_596 qp 0 (np.toInt) := hx_num_S hs hTo g_qp tt_44 tt_4 rfl rfl nu_qp
  replace nu_qc : hx_num 100 h_596 qc 0 (c0.toInt) := hx_num_S hs hTo g_qc tt_45 tt_2 rfl rfl nu_qc
  replace sb_list : hx_LQ 8 100 h_596 ql qc := hx_LQ_S hs g_ql g_qc rfl rfl sb_list
  replace hDF : hw_DF h_596 qc qp 2 F_aga c0.toInt := hw_DF_S hs hTo g_qc g_qp tt_45 tt_2 rfl rfl rfl hDF
  replace n_mw : h_596.2.1 mw = F_mw := (funext fun j => (hs.a g_mw rfl j).1).trans n_mw
  replace n_mr : h_596.2.1 mr = F_mr := (funext fun j => (hs.a g_mr rfl j).1).trans n_mr
  replace n_mp : h_596.2.1 mp = F_mp := (funext fun j => (hs.a g_mp rfl j).1).trans n_mp
  replace n_mn : h_596.2.1 mn = F_mn := (funext fun j => (hs.a g_mn rfl j).1).trans n_mn
  replace n_ml : h_596.2.1 ml = F_ml := (funext fun j => (hs.a g_ml rfl j).1).trans n_ml
  replace n_mh : h_596.2.1 mh = F_mh := (funext fun j => (hs.a g_mh rfl j).1).trans n_mh
  replace n_mt : h_596.2.1 mt = F_mt := (funext fun j => (hs.a g_mt rfl j).1).trans n_mt
  replace n_m_fou : h_596.2.1 m_fou = F_m_fou := (funext fun j => (hs.a g_m_fou rfl j).1).trans n_m_fou
  replace n_b_of : h_596.2.1 b_of = B_of := (funext fun j => (hs.a g_b_of rfl j).1).trans n_b_of
  replace n_m_of : h_596.2.1 m_of = F_of := (funext fun j => (hs.a g_m_of rfl j).1).trans n_m_of
  replace n_b_wf : h_596.2.1 b_wf = B_wf := (funext fun j => (hs.a g_b_wf rfl j).1).trans n_b_wf
  replace n_m_wf : h_596.2.1 m_wf = F_wf := (funext fun j => (hs.a g_m_wf rfl j).1).trans n_m_wf
  replace n_b_df : h_596.2.1 b_df = B_df := (funext fun j => (hs.a g_b_df rfl j).1).trans n_b_df
  replace n_m_df : h_596.2.1 m_df = F_df := (funext fun j => (hs.a g_m_df rfl j).1).trans n_m_df
  replace n_b_kf : h_596.2.1 b_kf = B_kf := (funext fun j => (hs.a g_b_kf rfl j).1).trans n_b_kf
  replace n_m_kf : h_596.2.1 m_kf = F_kf := (funext fun j => (hs.a g_m_kf rfl j).1).trans n_m_kf
  replace n_b_sf : h_596.2.1 b_sf = B_sf := (funext fun j => (hs.a g_b_sf rfl j).1).trans n_b_sf
  replace n_m_sf : h_596.2.1 m_sf = F_sf := (funext fun j => (hs.a g_m_sf rfl j).1).trans n_m_sf
  replace n_b_bf : h_596.2.1 b_bf = bfL := (funext fun j => (hs.a g_b_bf rfl j).1).trans n_b_bf
  replace n_lst : h_596.2.1 m_lst = F_lst := (funext fun j => (hs.a g_m_lst rfl j).1).trans n_lst
  replace n_dead : h_596.2.1 m_dead = F_dead := (funext fun j => (hs.a g_m_dead rfl j).1).trans n_dead
  replace n_isj : h_596.2.1 m_isj = F_isj := (funext fun j => (hs.a g_m_isj rfl j).1).trans n_isj
  replace n_dox : h_596.2.1 m_dox = F_dox := (funext fun j => (hs.a g_m_dox rfl j).1).trans n_dox
  replace n_doy : h_596.2.1 m_doy = F_doy := (funext fun j => (hs.a g_m_doy rfl j).1).trans n_doy
  replace n_qlt : h_596.2.1 qlt = F_qlt := (funext fun j => (hs.a g_qlt rfl j).1).trans n_qlt
  replace n_m_wkd : h_596.2.1 m_wkd = F_m_wkd := (funext fun j => (hs.a g_m_wkd rfl j).1).trans n_m_wkd
  replace n_aga : h_596.2.1 m_aga = F_aga := (funext fun j => (hs.a g_m_aga rfl j).1).trans n_aga
  replace gx := gx.S hs
  replace gm := gm.S hs
  replace g_qa := g_qa.S hs
  replace g_qp := g_qp.S hs
  replace g_qc := g_qc.S hs
  replace g_qh := g_qh.S hs
  replace g_qw := g_qw.S hs
  replace g_ql := g_ql.S hs
  replace g_mw := g_mw.S hs
  replace g_mr := g_mr.S hs
  replace g_mp := g_mp.S hs
  replace g_mn := g_mn.S hs
  replace g_ml := g_ml.S hs
  replace g_mh := g_mh.S hs
  replace g_mt := g_mt.S hs
  replace g_m_fou := g_m_fou.S hs
  replace g_qo_ln := g_qo_ln.S hs
  replace g_b_of := g_b_of.S hs
  replace g_m_of := g_m_of.S hs
  replace g_b_wf := g_b_wf.S hs
  replace g_m_wf := g_m_wf.S hs
  replace g_b_df := g_b_df.S hs
  replace g_m_df := g_m_df.S hs
  replace g_b_kf := g_b_kf.S hs
  replace g_m_kf := g_m_kf.S hs
  replace g_b_sf := g_b_sf.S hs
  replace g_m_sf := g_m_sf.S hs
  replace g_b_bf := g_b_bf.S hs
  replace g_m_lst := g_m_lst.S hs
  replace g_m_dead := g_m_dead.S hs
  replace g_m_isj := g_m_isj.S hs
  replace g_m_dox := g_m_dox.S hs
  replace g_m_doy := g_m_doy.S hs
  replace g_qlt := g_qlt.S hs
  replace g_qlf := g_qlf.S hs
  replace g_m_wkd := g_m_wkd.S hs
  replace g_m_aga := g_m_aga.S hs
  refine lv_pop hx hb dL_law_1191 rfl ?_
  refine lv_goto (tgt := 1379) hx hb dL_law_1192 (by decide) ?_
  refine W.widen (k := CC + 3) (n := SS + 179) (by omega) (by omega) ?_
  exact kk L_595 h_596 H locs ls hW ⟨hT, gx, gm, ⟨f_x_now.trans f_m_now.symm, f_x_personCount.trans f_m_persons.symm, f_x_claimCount.trans f_m_claims.symm, hx_ob f_qo_ln (f_o_ln.trans f_m_lines.symm), hx_ob f_qw (f_o_lsd.trans f_m_listed.symm), hx_ob f_qw (f_o_wkm.trans f_m_walkedMany.symm), hx_ob f_qp (by rw [f_x_personCount]; exact nu_qp), hx_ob f_qc (by rw [f_x_claimCount]; exact nu_qc), (fun b a r hb ha hr => by obtain rfl : qo_ln = b := Option.some.inj (f_qo_ln.symm.trans hb); obtain rfl : b_of = a := Option.some.inj (f_b_of.symm.trans ha); obtain rfl : m_of = r := Option.some.inj (f_m_of.symm.trans hr); rw [n_b_of, n_m_of, f_o_ln]; exact eb_of), (fun b a r hb ha hr => by obtain rfl : qo_ln = b := Option.some.inj (f_qo_ln.symm.trans hb); obtain rfl : b_wf = a := Option.some.inj (f_b_wf.symm.trans ha); obtain rfl : m_wf = r := Option.some.inj (f_m_wf.symm.trans hr); rw [n_b_wf, n_m_wf, f_o_ln]; exact eb_wf), (fun b a r hb ha hr => by obtain rfl : qo_ln = b := Option.some.inj (f_qo_ln.symm.trans hb); obtain rfl : b_df = a := Option.some.inj (f_b_df.symm.trans ha); obtain rfl : m_df = r := Option.some.inj (f_m_df.symm.trans hr); rw [n_b_df, n_m_df, f_o_ln]; exact eb_df), (fun b a r hb ha hr => by obtain rfl : qo_ln = b := Option.some.inj (f_qo_ln.symm.trans hb); obtain rfl : b_kf = a := Option.some.inj (f_b_kf.symm.trans ha); obtain rfl : m_kf = r := Option.some.inj (f_m_kf.symm.trans hr); rw [n_b_kf, n_m_kf, f_o_ln]; exact eb_kf), (fun b a r hb ha hr => by obtain rfl : qo_ln = b := Option.some.inj (f_qo_ln.symm.trans hb); obtain rfl : b_sf = a := Option.some.inj (f_b_sf.symm.trans ha); obtain rfl : m_sf = r := Option.some.inj (f_m_sf.symm.trans hr); rw [n_b_sf, n_m_sf, f_o_ln]; exact eb_sf), (fun b a r hb ha hr => by obtain rfl : qo_ln = b := Option.some.inj (f_qo_ln.symm.trans hb); obtain rfl : b_df = a := Option.some.inj (f_b_df.symm.trans ha); obtain rfl : b_bf = r := Option.some.inj (f_b_bf.symm.trans hr); rw [n_b_df, n_b_bf, f_o_ln]; exact ⟨hBD, hDY⟩), (fun w q c hw hq hc => by obtain rfl : qw = w := Option.some.inj (f_qw.symm.trans hw); obtain rfl : ql = q := Option.some.inj (f_ql.symm.trans hq); obtain rfl : qc = c := Option.some.inj (f_qc.symm.trans hc); exact sb_list), (fun w q r hw hq hr => by obtain rfl : qw = w := Option.some.inj (f_qw.symm.trans hw); obtain rfl : ql = q := Option.some.inj (f_ql.symm.trans hq); obtain rfl : m_lst = r := Option.some.inj (f_m_lst.symm.trans hr); rw [cl_lst, n_lst]; exact eq_lst), (fun w q r hw hq hr => by obtain rfl : qw = w := Option.some.inj (f_qw.symm.trans hw); obtain rfl : qlt = q := Option.some.inj (f_qlt.symm.trans hq); obtain rfl : m_wkd = r := Option.some.inj (f_m_wkd.symm.trans hr); rw [n_qlt, n_m_wkd, f_o_wkm]; exact eb_wkd), (fun c q a hc hq ha => by obtain rfl : qc = c := Option.some.inj (f_qc.symm.trans hc); obtain rfl : qp = q := Option.some.inj (f_qp.symm.trans hq); obtain rfl : m_aga = a := Option.some.inj (f_m_aga.symm.trans ha); rw [n_aga, f_x_claimCount]; exact hw_DF_e hDF rfl rfl), hx_ob2 f_qp f_m_dead (by rw [cl_dead, n_dead]; exact eq_dead), hx_ob2 f_qp f_m_isj (by rw [cl_isj, n_isj]; exact eq_isj), hx_ob2 f_qp f_m_dox (by rw [cl_dox, n_dox]; exact eq_dox), hx_ob2 f_qp f_m_doy (by rw [cl_doy, n_doy]; exact eq_doy), hx_ob2 f_qc f_m_fou (by rw [cl_fou, n_m_fou]; exact eq_fou), hx_ob2 f_qc f_mt (by rw [cl_tri, n_mt]; exact eq_tri), trivial⟩, ⟨hx_ob f_qa pf_qa, hx_ob f_qp pf_qp, hx_ob f_qc pf_qc, hx_ob f_qh pf_qh, (fun w q hw hq => by obtain rfl : qw = w := Option.some.inj (f_qw.symm.trans hw); obtain rfl : ql = q := Option.some.inj (f_ql.symm.trans hq); exact pf_ql)⟩, ⟨hx_ob f_mw (by rw [n_mw]; exact hwd), hx_ob f_mr (by rw [n_mr, f_m_acts]; exact hWK), hx_ob2 f_mp f_mn (by rw [n_mp, n_mn, f_m_acts]; exact hRP), hx_ob f_ml (by rw [n_ml, f_m_claims, f_m_acts]; exact hPL), hx_ob f_mh (by rw [n_mh, f_m_heardMany, f_m_claims]; exact hHC), hx_ob f_mt (by rw [n_mt]; exact (hx_TR_le hTR (by omega))), hx_ob2 f_mh f_m_fou (by rw [n_mh, n_m_fou, f_m_claims]; exact hHF)⟩⟩ hl

set_option maxHeartbeats 4000000 in
set_option maxRecDepth 100000 in
theorem law_case_23 {p : Program} {e : Env} {s : State} {m : MethodId} {below : List Frame} {meth : Method} {c : Code} (l : Launch) {b LN : Nat} {xs : Nat → Int32} (hx : p.tables.exec = Jvm.exec) (hb : c.code = code) (hr : meth.sig.returnType = ret) (hlocks : meth.locks = false) (hml : c.maxLocals = 4) (hown : s.vm.findClass "SmallCourtLaw" = some m.cls) (hts : ∀ w ∈ hx_all, w.before #[Value.ref b] s = true) (hX : va_X b LN xs s s.heap) (hbl : b < s.heap.size) (hbA : ¬ s.heap.size ≤ b) (hLN : LN ≤ 3584) (dC : Nat → ClassId) (dI : Nat → Nat → Nat) (dA : Nat → ClassId) (b0 : hx_z) (ax am : Nat) (T1 : Int) (hT0 : 0 ≤ T1) (hT1 : T1 ≤ 511) (i : Int32) (hi0 : 0 ≤ i.toInt) (hiL : i.toInt + 7 ≤ LN) (CC SS : Nat) (hCC : CC + 3 ≤ 600000) (hSS : SS + 179 ≤ 7302250) (L1 : List Nat) (hl1 : hx_h) (H : Heap) (locs : List Loc) (ls : Array Slot) (hW : hx_W T_tb (P_ty dA) (dC, dI) vwCl (fun q : Nat => s.heap.size ≤ q) s.heap L1 hl1 s H locs) (hZ : hx_Xt (fun q : Nat => s.heap.size ≤ q) b0 s) (hI : hx_IV T1 ax am L1 hl1) (hl : lv_has ls 4 [(3, .int i), (2, .ref am), (1, .ref ax), (0, .ref b)]) (kk : ∀ (L2 : List Nat) (h2 : hx_h) (H2 : Heap) (locs2 : List Loc) (ls2 : Array Slot), hx_W T_tb (P_ty dA) (dC, dI) vwCl (fun q : Nat => s.heap.size ≤ q) s.heap L2 h2 s H2 locs2 → hx_IV (T1 + 1) ax am L2 h2 → lv_has ls2 4 [(3, .int i), (2, .ref am), (1, .ref ax), (0, .ref b)] → W p l e room_1 s m #[Value.ref b] below meth c H2 locs2 (CC + 3) (SS + 179) (lw_Z below #[Value.ref b] s) (F0 m 1379 ls2 [])) : W p l e room_1 s m #[Value.ref b] below meth c H locs CC SS (lw_Z below #[Value.ref b] s) (F0 m 1195 ls []) := by
  obtain ⟨hT, gx, gm, ⟨he_nw, he_np, he_c0, ho_ln, ho_lsd, ho_wkm, hn_qp, hn_qc, hk_of, hk_wf, hk_df, hk_kf, hk_sf, hkBD, hLQ, hLE, hkWD, hkDF, hc_dead, hc_isj, hc_dox, hc_doy, hc_fou, hc_tri, -⟩, ⟨ia, ip, ic, ih, il⟩, ⟨jw, jr, jp, jl, jh, jt, jf⟩⟩ := hI
  obtain ⟨qa, f_qa, g_qa⟩ := hx_rf hT gx tt_9 (k := 5) (u := 43) rfl
  have pf_qa := ia qa f_qa
  obtain ⟨qp, f_qp, g_qp⟩ := hx_rf hT gx tt_9 (k := 7) (u := 44) rfl
  have pf_qp := ip qp f_qp
  obtain ⟨qc, f_qc, g_qc⟩ := hx_rf hT gx tt_9 (k := 10) (u := 45) rfl
  have pf_qc := ic qc f_qc
  obtain ⟨qh, f_qh, g_qh⟩ := hx_rf hT gx tt_9 (k := 12) (u := 46) rfl
  have pf_qh := ih qh f_qh
  obtain ⟨qw, f_qw, g_qw⟩ := hx_rf hT gx tt_9 (k := 19) (u := 8) rfl
  obtain ⟨ql, f_ql, g_ql⟩ := hx_rf hT g_qw tt_8 (k := 3) (u := 40) rfl
  have pf_ql := il qw ql f_qw f_ql
  obtain ⟨nw, f_m_now⟩ : ∃ y : Int32, hl1.2.1 am 0 = y := ⟨_, rfl⟩
  have b_nw := hT.gi gm tt_10 (k := 0) rfl
  rw [f_m_now] at b_nw
  have b_nw : 0 ≤ nw.toInt ∧ nw.toInt ≤ 7999 := b_nw
  obtain ⟨np, f_m_persons⟩ : ∃ y : Int32, hl1.2.1 am 20 = y := ⟨_, rfl⟩
  have b_np := hT.gi gm tt_10 (k := 20) rfl
  rw [f_m_persons] at b_np
  have b_np : 0 ≤ np.toInt ∧ np.toInt ≤ 40 := b_np
  obtain ⟨c0, f_m_claims⟩ : ∃ y : Int32, hl1.2.1 am 36 = y := ⟨_, rfl⟩
  have b_c0 := hT.gi gm tt_10 (k := 36) rfl
  rw [f_m_claims] at b_c0
  have b_c0 : 0 ≤ c0.toInt ∧ c0.toInt ≤ 100 := b_c0
  obtain ⟨ln, f_m_lines⟩ : ∃ y : Int32, hl1.2.1 am 29 = y := ⟨_, rfl⟩
  have b_ln := hT.gi gm tt_10 (k := 29) rfl
  rw [f_m_lines] at b_ln
  have b_ln : 0 ≤ ln.toInt ∧ ln.toInt ≤ 400 := b_ln
  obtain ⟨lsd, f_m_listed⟩ : ∃ y : Int32, hl1.2.1 am 90 = y := ⟨_, rfl⟩
  have b_lsd := hT.gi gm tt_10 (k := 90) rfl
  rw [f_m_listed] at b_lsd
  have b_lsd : 0 ≤ lsd.toInt ∧ lsd.toInt ≤ 8 := b_lsd
  obtain ⟨wkm, f_m_walkedMany⟩ : ∃ y : Int32, hl1.2.1 am 92 = y := ⟨_, rfl⟩
  have b_wkm := hT.gi gm tt_10 (k := 92) rfl
  rw [f_m_walkedMany] at b_wkm
  have b_wkm : 0 ≤ wkm.toInt ∧ wkm.toInt ≤ 8 := b_wkm
  obtain ⟨a0, f_m_acts⟩ : ∃ y : Int32, hl1.2.1 am 1 = y := ⟨_, rfl⟩
  have b_a0 := hT.gi gm tt_10 (k := 1) rfl
  rw [f_m_acts] at b_a0
  have b_a0 : 0 ≤ a0.toInt ∧ a0.toInt ≤ 8 := b_a0
  obtain ⟨m0, f_m_heardMany⟩ : ∃ y : Int32, hl1.2.1 am 57 = y := ⟨_, rfl⟩
  have b_m0 := hT.gi gm tt_10 (k := 57) rfl
  rw [f_m_heardMany] at b_m0
  have b_m0 : 0 ≤ m0.toInt ∧ m0.toInt ≤ 100 := b_m0
  have f_x_now : hl1.2.1 ax 2 = nw := he_nw.trans f_m_now
  have f_x_personCount : hl1.2.1 ax 8 = np := he_np.trans f_m_persons
  have f_x_claimCount : hl1.2.1 ax 11 = c0 := he_c0.trans f_m_claims
  obtain ⟨mw, f_mw, g_mw⟩ := hx_rf hT gm tt_10 (k := 19) (u := 57) rfl
  obtain ⟨F_mw, n_mw⟩ : ∃ g : Nat → Int32, hl1.2.1 mw = g := ⟨_, rfl⟩
  obtain ⟨mr, f_mr, g_mr⟩ := hx_rf hT gm tt_10 (k := 3) (u := 50) rfl
  obtain ⟨F_mr, n_mr⟩ : ∃ g : Nat → Int32, hl1.2.1 mr = g := ⟨_, rfl⟩
  obtain ⟨mp, f_mp, g_mp⟩ := hx_rf hT gm tt_10 (k := 5) (u := 52) rfl
  obtain ⟨F_mp, n_mp⟩ : ∃ g : Nat → Int32, hl1.2.1 mp = g := ⟨_, rfl⟩
  obtain ⟨mn, f_mn, g_mn⟩ := hx_rf hT gm tt_10 (k := 4) (u := 51) rfl
  obtain ⟨F_mn, n_mn⟩ : ∃ g : Nat → Int32, hl1.2.1 mn = g := ⟨_, rfl⟩
  obtain ⟨ml, f_ml, g_ml⟩ := hx_rf hT gm tt_10 (k := 44) (u := 79) rfl
  obtain ⟨F_ml, n_ml⟩ : ∃ g : Nat → Int32, hl1.2.1 ml = g := ⟨_, rfl⟩
  obtain ⟨mh, f_mh, g_mh⟩ := hx_rf hT gm tt_10 (k := 47) (u := 82) rfl
  obtain ⟨F_mh, n_mh⟩ : ∃ g : Nat → Int32, hl1.2.1 mh = g := ⟨_, rfl⟩
  obtain ⟨mt, f_mt, g_mt⟩ := hx_rf hT gm tt_10 (k := 45) (u := 80) rfl
  obtain ⟨F_mt, n_mt⟩ : ∃ g : Nat → Int32, hl1.2.1 mt = g := ⟨_, rfl⟩
  obtain ⟨m_fou, f_m_fou, g_m_fou⟩ := hx_rf hT gm tt_10 (k := 46) (u := 81) rfl
  obtain ⟨F_m_fou, n_m_fou⟩ : ∃ g : Nat → Int32, hl1.2.1 m_fou = g := ⟨_, rfl⟩
  obtain ⟨qo_ln, f_qo_ln, g_qo_ln⟩ := hx_rf hT gx tt_9 (k := 9) (u := 1) rfl
  have f_o_ln : hl1.2.1 qo_ln 0 = ln := (ho_ln qo_ln f_qo_ln).trans f_m_lines
  have f_o_lsd : hl1.2.1 qw 0 = lsd := (ho_lsd qw f_qw).trans f_m_listed
  have f_o_wkm : hl1.2.1 qw 1 = wkm := (ho_wkm qw f_qw).trans f_m_walkedMany
  have nu_qp := hn_qp qp f_qp; rw [f_x_personCount] at nu_qp
  have nu_qc := hn_qc qc f_qc; rw [f_x_claimCount] at nu_qc
  obtain ⟨b_of, f_b_of, g_b_of⟩ := hx_rf hT g_qo_ln tt_1 (k := 1) (u := 13) rfl
  obtain ⟨B_of, n_b_of⟩ : ∃ g : Nat → Int32, hl1.2.1 b_of = g := ⟨_, rfl⟩
  obtain ⟨m_of, f_m_of, g_m_of⟩ := hx_rf hT gm tt_10 (k := 30) (u := 66) rfl
  obtain ⟨F_of, n_m_of⟩ : ∃ g : Nat → Int32, hl1.2.1 m_of = g := ⟨_, rfl⟩
  have eb_of := hk_of qo_ln b_of m_of f_qo_ln f_b_of f_m_of; rw [n_b_of, n_m_of, f_o_ln] at eb_of
  obtain ⟨b_wf, f_b_wf, g_b_wf⟩ := hx_rf hT g_qo_ln tt_1 (k := 2) (u := 14) rfl
  obtain ⟨B_wf, n_b_wf⟩ : ∃ g : Nat → Int32, hl1.2.1 b_wf = g := ⟨_, rfl⟩
  obtain ⟨m_wf, f_m_wf, g_m_wf⟩ := hx_rf hT gm tt_10 (k := 31) (u := 67) rfl
  obtain ⟨F_wf, n_m_wf⟩ : ∃ g : Nat → Int32, hl1.2.1 m_wf = g := ⟨_, rfl⟩
  have eb_wf := hk_wf qo_ln b_wf m_wf f_qo_ln f_b_wf f_m_wf; rw [n_b_wf, n_m_wf, f_o_ln] at eb_wf
  obtain ⟨b_df, f_b_df, g_b_df⟩ := hx_rf hT g_qo_ln tt_1 (k := 3) (u := 15) rfl
  obtain ⟨B_df, n_b_df⟩ : ∃ g : Nat → Int32, hl1.2.1 b_df = g := ⟨_, rfl⟩
  obtain ⟨m_df, f_m_df, g_m_df⟩ := hx_rf hT gm tt_10 (k := 32) (u := 68) rfl
  obtain ⟨F_df, n_m_df⟩ : ∃ g : Nat → Int32, hl1.2.1 m_df = g := ⟨_, rfl⟩
  have eb_df := hk_df qo_ln b_df m_df f_qo_ln f_b_df f_m_df; rw [n_b_df, n_m_df, f_o_ln] at eb_df
  obtain ⟨b_kf, f_b_kf, g_b_kf⟩ := hx_rf hT g_qo_ln tt_1 (k := 4) (u := 16) rfl
  obtain ⟨B_kf, n_b_kf⟩ : ∃ g : Nat → Int32, hl1.2.1 b_kf = g := ⟨_, rfl⟩
  obtain ⟨m_kf, f_m_kf, g_m_kf⟩ := hx_rf hT gm tt_10 (k := 33) (u := 69) rfl
  obtain ⟨F_kf, n_m_kf⟩ : ∃ g : Nat → Int32, hl1.2.1 m_kf = g := ⟨_, rfl⟩
  have eb_kf := hk_kf qo_ln b_kf m_kf f_qo_ln f_b_kf f_m_kf; rw [n_b_kf, n_m_kf, f_o_ln] at eb_kf
  obtain ⟨b_sf, f_b_sf, g_b_sf⟩ := hx_rf hT g_qo_ln tt_1 (k := 5) (u := 17) rfl
  obtain ⟨B_sf, n_b_sf⟩ : ∃ g : Nat → Int32, hl1.2.1 b_sf = g := ⟨_, rfl⟩
  obtain ⟨m_sf, f_m_sf, g_m_sf⟩ := hx_rf hT gm tt_10 (k := 34) (u := 70) rfl
  obtain ⟨F_sf, n_m_sf⟩ : ∃ g : Nat → Int32, hl1.2.1 m_sf = g := ⟨_, rfl⟩
  have eb_sf := hk_sf qo_ln b_sf m_sf f_qo_ln f_b_sf f_m_sf; rw [n_b_sf, n_m_sf, f_o_ln] at eb_sf
  obtain ⟨b_bf, f_b_bf, g_b_bf⟩ := hx_rf hT g_qo_ln tt_1 (k := 6) (u := 18) rfl
  obtain ⟨bfL, n_b_bf⟩ : ∃ g : Nat → Int32, hl1.2.1 b_bf = g := ⟨_, rfl⟩
  obtain ⟨hBD, hDY⟩ := hkBD qo_ln b_df b_bf f_qo_ln f_b_df f_b_bf; rw [n_b_df, n_b_bf, f_o_ln] at hBD; rw [n_b_df, f_o_ln] at hDY
  have hBDm := hy_BD_c eb_df hBD
  have hDYm : hy_DY F_df ln.toInt.toNat := fun x hx => by rw [← eb_df x hx]; exact hDY x hx
  have sb_list := hLQ qw ql qc f_qw f_ql f_qc
  obtain ⟨m_lst, f_m_lst, g_m_lst⟩ := hx_rf hT gm tt_10 (k := 91) (u := 112) rfl
  obtain ⟨F_lst, n_lst⟩ : ∃ g : Nat → Int32, hl1.2.1 m_lst = g := ⟨_, rfl⟩
  obtain ⟨c_lst, cl_lst⟩ : ∃ g : Nat → Int32, hx_col 8 hl1 ql 0 = g := ⟨_, rfl⟩
  have eq_lst := hLE qw ql m_lst f_qw f_ql f_m_lst; rw [cl_lst, n_lst] at eq_lst
  obtain ⟨c_dead, cl_dead⟩ : ∃ g : Nat → Int32, hx_col 40 hl1 qp 7 = g := ⟨_, rfl⟩
  obtain ⟨m_dead, f_m_dead, g_m_dead⟩ := hx_rf hT gm tt_10 (k := 27) (u := 64) rfl
  obtain ⟨F_dead, n_dead⟩ : ∃ g : Nat → Int32, hl1.2.1 m_dead = g := ⟨_, rfl⟩
  have eq_dead := hc_dead qp m_dead f_qp f_m_dead; rw [cl_dead, n_dead] at eq_dead
  have z_dead : np.toInt.toNat < 40 → c_dead np.toInt.toNat = 0 := fun hj => hx_num_z nu_qp cl_dead hj (by omega)
  obtain ⟨c_isj, cl_isj⟩ : ∃ g : Nat → Int32, hx_col 40 hl1 qp 8 = g := ⟨_, rfl⟩
  obtain ⟨m_isj, f_m_isj, g_m_isj⟩ := hx_rf hT gm tt_10 (k := 28) (u := 65) rfl
  obtain ⟨F_isj, n_isj⟩ : ∃ g : Nat → Int32, hl1.2.1 m_isj = g := ⟨_, rfl⟩
  have eq_isj := hc_isj qp m_isj f_qp f_m_isj; rw [cl_isj, n_isj] at eq_isj
  have z_isj : np.toInt.toNat < 40 → c_isj np.toInt.toNat = 0 := fun hj => hx_num_z nu_qp cl_isj hj (by omega)
  obtain ⟨c_dox, cl_dox⟩ : ∃ g : Nat → Int32, hx_col 40 hl1 qp 5 = g := ⟨_, rfl⟩
  obtain ⟨m_dox, f_m_dox, g_m_dox⟩ := hx_rf hT gm tt_10 (k := 24) (u := 61) rfl
  obtain ⟨F_dox, n_dox⟩ : ∃ g : Nat → Int32, hl1.2.1 m_dox = g := ⟨_, rfl⟩
  have eq_dox := hc_dox qp m_dox f_qp f_m_dox; rw [cl_dox, n_dox] at eq_dox
  have z_dox : np.toInt.toNat < 40 → c_dox np.toInt.toNat = 0 := fun hj => hx_num_z nu_qp cl_dox hj (by omega)
  obtain ⟨c_doy, cl_doy⟩ : ∃ g : Nat → Int32, hx_col 40 hl1 qp 6 = g := ⟨_, rfl⟩
  obtain ⟨m_doy, f_m_doy, g_m_doy⟩ := hx_rf hT gm tt_10 (k := 25) (u := 62) rfl
  obtain ⟨F_doy, n_doy⟩ : ∃ g : Nat → Int32, hl1.2.1 m_doy = g := ⟨_, rfl⟩
  have eq_doy := hc_doy qp m_doy f_qp f_m_doy; rw [cl_doy, n_doy] at eq_doy
  have z_doy : np.toInt.toNat < 40 → c_doy np.toInt.toNat = 0 := fun hj => hx_num_z nu_qp cl_doy hj (by omega)
  obtain ⟨c_fou, cl_fou⟩ : ∃ g : Nat → Int32, hx_col 100 hl1 qc 10 = g := ⟨_, rfl⟩
  have eq_fou := hc_fou qc m_fou f_qc f_m_fou; rw [cl_fou, n_m_fou] at eq_fou
  have z_fou : c0.toInt.toNat < 100 → c_fou c0.toInt.toNat = 0 := fun hj => hx_num_z nu_qc cl_fou hj (by omega)
  obtain ⟨c_tri, cl_tri⟩ : ∃ g : Nat → Int32, hx_col 100 hl1 qc 9 = g := ⟨_, rfl⟩
  have eq_tri := hc_tri qc mt f_qc f_mt; rw [cl_tri, n_mt] at eq_tri
  have z_tri : c0.toInt.toNat < 100 → c_tri c0.toInt.toNat = 0 := fun hj => hx_num_z nu_qc cl_tri hj (by omega)
  obtain ⟨qlt, f_qlt, g_qlt⟩ := hx_rf hT g_qw tt_8 (k := 2) (u := 39) rfl
  obtain ⟨qlf, f_qlf, g_qlf⟩ := hx_rf hT g_qw tt_8 (k := 4) (u := 41) rfl
  obtain ⟨m_wkd, f_m_wkd, g_m_wkd⟩ := hx_rf hT gm tt_10 (k := 93) (u := 113) rfl
  obtain ⟨F_qlt, n_qlt⟩ : ∃ g : Nat → Int32, hl1.2.1 qlt = g := ⟨_, rfl⟩
  obtain ⟨F_m_wkd, n_m_wkd⟩ : ∃ g : Nat → Int32, hl1.2.1 m_wkd = g := ⟨_, rfl⟩
  have eb_wkd := hkWD qw qlt m_wkd f_qw f_qlt f_m_wkd; rw [n_qlt, n_m_wkd, f_o_wkm] at eb_wkd
  obtain ⟨m_aga, f_m_aga, g_m_aga⟩ := hx_rf hT gm tt_10 (k := 38) (u := 73) rfl
  obtain ⟨F_aga, n_aga⟩ : ∃ g : Nat → Int32, hl1.2.1 m_aga = g := ⟨_, rfl⟩
  have hDF := hkDF qc qp m_aga f_qc f_qp f_m_aga; rw [n_aga, f_x_claimCount] at hDF
  have hwd := jw mw f_mw; rw [n_mw] at hwd
  have hWK := jr mr f_mr; rw [n_mr, f_m_acts] at hWK
  have hRP := jp mp mn f_mp f_mn; rw [n_mp, n_mn, f_m_acts] at hRP
  have hPL := jl ml f_ml; rw [n_ml, f_m_claims, f_m_acts] at hPL
  have hHC := jh mh f_mh; rw [n_mh, f_m_heardMany, f_m_claims] at hHC
  have hTR := jt mt f_mt; rw [n_mt] at hTR
  have hHF := jf mh m_fou f_mh f_m_fou; rw [n_mh, n_m_fou, f_m_claims] at hHF
  refine lv_aload_n hx hb dL_law_1195 rfl (lv_at hl 2 rfl) ?_
  have hTo := hT
  refine hx_goi (hx_runV (As := []) (rest := []) ⟨hx, hb, hml, hown, hts⟩ hW gx tt_9 (T := TX9) (N := 20) rfl (t_X9_net l dC dI dA L1 hl1 H.size ax hT gx qc g_qc f_qc pf_qc) (cwV 0 hts (hx_gV kw_984 kw_981 kw_982 kw_983 kw_94) rfl rfl rfl (by decide +kernel) ⟨Nat.le_of_ble_eq_true rfl, Nat.le_of_ble_eq_true rfl⟩) rfl hl.1 rfl (Nat.le_of_ble_eq_true rfl) dL_law_1196 ⟨(show CC + 0 ≤ 600000 from by omega), (show SS + 0 ≤ 7302250 from by omega)⟩) hW (fun r_602 L_600 h_601 H locs p_603 hW => ?_)
  obtain ⟨hr_604, hT, hs⟩ := p_603
  replace hT : hx_T T_tb L_600 h_601 := hT
  replace hs : hx_S T_tb [(3, 0), (7, 0), (7, 1), (7, 2), (7, 4), (22, 0), (23, 0), (24, 0), (25, 0), (26, 0), (35, 0), (36, 0), (37, 0), (38, 0), (48, 0)] L1 hl1 L_600 h_601 := hs
  replace f_qa := (hs.o gx trivial rfl).2.trans f_qa
  replace f_qp := (hs.o gx trivial rfl).2.trans f_qp
  replace f_qc := (hs.o gx trivial rfl).2.trans f_qc
  replace f_qh := (hs.o gx trivial rfl).2.trans f_qh
  replace f_qw := (hs.o gx trivial rfl).2.trans f_qw
  replace f_ql := (hs.o g_qw trivial rfl).2.trans f_ql
  replace f_m_now := (hs.o gm trivial rfl).1.trans f_m_now
  replace f_m_persons := (hs.o gm trivial rfl).1.trans f_m_persons
  replace f_m_claims := (hs.o gm trivial rfl).1.trans f_m_claims
  replace f_m_lines := (hs.o gm trivial rfl).1.trans f_m_lines
  replace f_m_listed := (hs.o gm trivial rfl).1.trans f_m_listed
  replace f_m_walkedMany := (hs.o gm trivial rfl).1.trans f_m_walkedMany
  replace f_m_acts := (hs.o gm trivial rfl).1.trans f_m_acts
  replace f_m_heardMany := (hs.o gm trivial rfl).1.trans f_m_heardMany
  replace f_x_now := (hs.o gx trivial rfl).1.trans f_x_now
  replace f_x_personCount := (hs.o gx trivial rfl).1.trans f_x_personCount
  replace f_x_claimCount := (hs.o gx trivial rfl).1.trans f_x_claimCount
  replace f_mw := (hs.o gm trivial rfl).2.trans f_mw
  replace f_mr := (hs.o gm trivial rfl).2.trans f_mr
  replace f_mp := (hs.o gm trivial rfl).2.trans f_mp
  replace f_mn := (hs.o gm trivial rfl).2.trans f_mn
  replace f_ml := (hs.o gm trivial rfl).2.trans f_ml
  replace f_mh := (hs.o gm trivial rfl).2.trans f_mh
  replace f_mt := (hs.o gm trivial rfl).2.trans f_mt
  replace f_m_fou := (hs.o gm trivial rfl).2.trans f_m_fou
  replace f_qo_ln := (hs.o gx trivial rfl).2.trans f_qo_ln
  replace f_o_ln := (hs.o g_qo_ln trivial rfl).1.trans f_o_ln
  replace f_o_lsd := (hs.o g_qw trivial rfl).1.trans f_o_lsd
  replace f_o_wkm := (hs.o g_qw trivial rfl).1.trans f_o_wkm
  replace f_b_of := (hs.o g_qo_ln trivial rfl).2.trans f_b_of
  replace f_m_of := (hs.o gm trivial rfl).2.trans f_m_of
  replace f_b_wf := (hs.o g_qo_ln trivial rfl).2.trans f_b_wf
  replace f_m_wf := (hs.o gm trivial rfl).2.trans f_m_wf
  replace f_b_df := (hs.o g_qo_ln trivial rfl).2.trans f_b_df
  replace f_m_df := (hs.o gm trivial rfl).2.trans f_m_df
  replace f_b_kf := (hs.o g_qo_ln trivial rfl).2.trans f_b_kf
  replace f_m_kf := (hs.o gm trivial rfl).2.trans f_m_kf
  replace f_b_sf := (hs.o g_qo_ln trivial rfl).2.trans f_b_sf
  replace f_m_sf := (hs.o gm trivial rfl).2.trans f_m_sf
  replace f_b_bf := (hs.o g_qo_ln trivial rfl).2.trans f_b_bf
  replace f_m_lst := (hs.o gm trivial rfl).2.trans f_m_lst
  replace f_m_dead := (hs.o gm trivial rfl).2.trans f_m_dead
  replace f_m_isj := (hs.o gm trivial rfl).2.trans f_m_isj
  replace f_m_dox := (hs.o gm trivial rfl).2.trans f_m_dox
  replace f_m_doy := (hs.o gm trivial rfl).2.trans f_m_doy
  replace f_qlt := (hs.o g_qw trivial rfl).2.trans f_qlt
  replace f_qlf := (hs.o g_qw trivial rfl).2.trans f_qlf
  replace f_m_wkd := (hs.o gm trivial rfl).2.trans f_m_wkd
  replace f_m_aga := (hs.o gm trivial rfl).2.trans f_m_aga
  replace pf_qa : ∀ j : Nat, (j : Int) < (h_601.2.1 ax 6).toInt → h_601.2.2 qa j ≠ none := by
    intro j hj; rw [(hs.o gx trivial rfl).1] at hj; rw [(hs.a g_qa rfl j).2]; exact pf_qa j hj
  replace pf_qp : ∀ j : Nat, (j : Int) < (h_601.2.1 ax 8).toInt → h_601.2.2 qp j ≠ none := by
    intro j hj; rw [(hs.o gx trivial rfl).1] at hj; rw [(hs.a g_qp rfl j).2]; exact pf_qp j hj
  replace pf_qc : ∀ j : Nat, (j : Int) < (h_601.2.1 ax 11).toInt → h_601.2.2 qc j ≠ none := by
    intro j hj; rw [(hs.o gx trivial rfl).1] at hj; rw [(hs.a g_qc rfl j).2]; exact pf_qc j hj
  replace pf_qh : ∀ j : Nat, (j : Int) < (h_601.2.1 ax 13).toInt → h_601.2.2 qh j ≠ none := by
    intro j hj; rw [(hs.o gx trivial rfl).1] at hj; rw [(hs.a g_qh rfl j).2]; exact pf_qh j hj
  replace pf_ql : ∀ j : Nat, (j : Int) < (h_601.2.1 qw 0).toInt → h_601.2.2 ql j ≠ none := by
    intro j hj; rw [(hs.o g_qw trivial rfl).1] at hj; rw [(hs.a g_ql rfl j).2]; exact pf_ql j hj
  replace cl_lst : hx_col 8 h_601 ql 0 = c_lst := (hx_col_S hs hTo g_ql tt_40 tt_2 rfl rfl).trans cl_lst
  replace cl_dead : hx_col 40 h_601 qp 7 = c_dead := (hx_col_S hs hTo g_qp tt_44 tt_4 rfl rfl).trans cl_dead
  replace cl_isj : hx_col 40 h_601 qp 8 = c_isj := (hx_col_S hs hTo g_qp tt_44 tt_4 rfl rfl).trans cl_isj
  replace cl_dox : hx_col 40 h_601 qp 5 = c_dox := (hx_col_S hs hTo g_qp tt_44 tt_4 rfl rfl).trans cl_dox
  replace cl_doy : hx_col 40 h_601 qp 6 = c_doy := (hx_col_S hs hTo g_qp tt_44 tt_4 rfl rfl).trans cl_doy
  replace cl_fou : hx_col 100 h_601 qc 10 = c_fou := (hx_col_S hs hTo g_qc tt_45 tt_2 rfl rfl).trans cl_fou
  replace cl_tri : hx_col 100 h_601 qc 9 = c_tri := (hx_col_S hs hTo g_qc tt_45 tt_2 rfl rfl).trans cl_tri
  replace nu_qp : hx_num 40 h_601 qp 0 (np.toInt) := hx_num_S hs hTo g_qp tt_44 tt_4 rfl rfl nu_qp
  replace nu_qc : hx_num 100 h_601 qc 0 (c0.toInt) := hx_num_S hs hTo g_qc tt_45 tt_2 rfl rfl nu_qc
  replace sb_list : hx_LQ 8 100 h_601 ql qc := hx_LQ_S hs g_ql g_qc rfl rfl sb_list
  replace hDF : hw_DF h_601 qc qp 2 F_aga c0.toInt := hw_DF_S hs hTo g_qc g_qp tt_45 tt_2 rfl rfl rfl hDF
  replace n_mw : h_601.2.1 mw = F_mw := (funext fun j => (hs.a g_mw rfl j).1).trans n_mw
  replace n_mr : h_601.2.1 mr = F_mr := (funext fun j => (hs.a g_mr rfl j).1).trans n_mr
  replace n_mp : h_601.2.1 mp = F_mp := (funext fun j => (hs.a g_mp rfl j).1).trans n_mp
  replace n_mn : h_601.2.1 mn = F_mn := (funext fun j => (hs.a g_mn rfl j).1).trans n_mn
  replace n_ml : h_601.2.1 ml = F_ml := (funext fun j => (hs.a g_ml rfl j).1).trans n_ml
  replace n_mh : h_601.2.1 mh = F_mh := (funext fun j => (hs.a g_mh rfl j).1).trans n_mh
  replace n_mt : h_601.2.1 mt = F_mt := (funext fun j => (hs.a g_mt rfl j).1).trans n_mt
  replace n_m_fou : h_601.2.1 m_fou = F_m_fou := (funext fun j => (hs.a g_m_fou rfl j).1).trans n_m_fou
  replace n_b_of : h_601.2.1 b_of = B_of := (funext fun j => (hs.a g_b_of rfl j).1).trans n_b_of
  replace n_m_of : h_601.2.1 m_of = F_of := (funext fun j => (hs.a g_m_of rfl j).1).trans n_m_of
  replace n_b_wf : h_601.2.1 b_wf = B_wf := (funext fun j => (hs.a g_b_wf rfl j).1).trans n_b_wf
  replace n_m_wf : h_601.2.1 m_wf = F_wf := (funext fun j => (hs.a g_m_wf rfl j).1).trans n_m_wf
  replace n_b_df : h_601.2.1 b_df = B_df := (funext fun j => (hs.a g_b_df rfl j).1).trans n_b_df
  replace n_m_df : h_601.2.1 m_df = F_df := (funext fun j => (hs.a g_m_df rfl j).1).trans n_m_df
  replace n_b_kf : h_601.2.1 b_kf = B_kf := (funext fun j => (hs.a g_b_kf rfl j).1).trans n_b_kf
  replace n_m_kf : h_601.2.1 m_kf = F_kf := (funext fun j => (hs.a g_m_kf rfl j).1).trans n_m_kf
  replace n_b_sf : h_601.2.1 b_sf = B_sf := (funext fun j => (hs.a g_b_sf rfl j).1).trans n_b_sf
  replace n_m_sf : h_601.2.1 m_sf = F_sf := (funext fun j => (hs.a g_m_sf rfl j).1).trans n_m_sf
  replace n_b_bf : h_601.2.1 b_bf = bfL := (funext fun j => (hs.a g_b_bf rfl j).1).trans n_b_bf
  replace n_lst : h_601.2.1 m_lst = F_lst := (funext fun j => (hs.a g_m_lst rfl j).1).trans n_lst
  replace n_dead : h_601.2.1 m_dead = F_dead := (funext fun j => (hs.a g_m_dead rfl j).1).trans n_dead
  replace n_isj : h_601.2.1 m_isj = F_isj := (funext fun j => (hs.a g_m_isj rfl j).1).trans n_isj
  replace n_dox : h_601.2.1 m_dox = F_dox := (funext fun j => (hs.a g_m_dox rfl j).1).trans n_dox
  replace n_doy : h_601.2.1 m_doy = F_doy := (funext fun j => (hs.a g_m_doy rfl j).1).trans n_doy
  replace n_qlt : h_601.2.1 qlt = F_qlt := (funext fun j => (hs.a g_qlt rfl j).1).trans n_qlt
  replace n_m_wkd : h_601.2.1 m_wkd = F_m_wkd := (funext fun j => (hs.a g_m_wkd rfl j).1).trans n_m_wkd
  replace n_aga : h_601.2.1 m_aga = F_aga := (funext fun j => (hs.a g_m_aga rfl j).1).trans n_aga
  replace gx := gx.S hs
  replace gm := gm.S hs
  replace g_qa := g_qa.S hs
  replace g_qp := g_qp.S hs
  replace g_qc := g_qc.S hs
  replace g_qh := g_qh.S hs
  replace g_qw := g_qw.S hs
  replace g_ql := g_ql.S hs
  replace g_mw := g_mw.S hs
  replace g_mr := g_mr.S hs
  replace g_mp := g_mp.S hs
  replace g_mn := g_mn.S hs
  replace g_ml := g_ml.S hs
  replace g_mh := g_mh.S hs
  replace g_mt := g_mt.S hs
  replace g_m_fou := g_m_fou.S hs
  replace g_qo_ln := g_qo_ln.S hs
  replace g_b_of := g_b_of.S hs
  replace g_m_of := g_m_of.S hs
  replace g_b_wf := g_b_wf.S hs
  replace g_m_wf := g_m_wf.S hs
  replace g_b_df := g_b_df.S hs
  replace g_m_df := g_m_df.S hs
  replace g_b_kf := g_b_kf.S hs
  replace g_m_kf := g_m_kf.S hs
  replace g_b_sf := g_b_sf.S hs
  replace g_m_sf := g_m_sf.S hs
  replace g_b_bf := g_b_bf.S hs
  replace g_m_lst := g_m_lst.S hs
  replace g_m_dead := g_m_dead.S hs
  replace g_m_isj := g_m_isj.S hs
  replace g_m_dox := g_m_dox.S hs
  replace g_m_doy := g_m_doy.S hs
  replace g_qlt := g_qlt.S hs
  replace g_qlf := g_qlf.S hs
  replace g_m_wkd := g_m_wkd.S hs
  replace g_m_aga := g_m_aga.S hs
  refine lv_pop hx hb dL_law_1199 rfl ?_
  refine lv_aload_n hx hb dL_law_1200 rfl (lv_at hl 1 rfl) ?_
  have hTo := hT
  obtain ⟨q_605, fq_605, gq_605⟩ := hx_rf hT gm tt_10 (k := 48) (u := 83) rfl
  obtain ⟨q_606, fq_606, gq_606⟩ := hx_rf hT gm tt_10 (k := 50) (u := 85) rfl
  obtain ⟨q_607, fq_607, gq_607⟩ := hx_rf hT gm tt_10 (k := 49) (u := 84) rfl
  obtain ⟨q_608, fq_608, gq_608⟩ := hx_rf hT gm tt_10 (k := 56) (u := 91) rfl
  obtain ⟨q_609, fq_609, gq_609⟩ := hx_rf hT gm tt_10 (k := 55) (u := 90) rfl
  obtain ⟨q_610, fq_610, gq_610⟩ := hx_rf hT gm tt_10 (k := 60) (u := 93) rfl
  obtain ⟨q_611, fq_611, gq_611⟩ := hx_rf hT gm tt_10 (k := 61) (u := 94) rfl
  obtain ⟨q_612, fq_612, gq_612⟩ := hx_rf hT gm tt_10 (k := 62) (u := 95) rfl
  obtain ⟨q_613, fq_613, gq_613⟩ := hx_rf hT gm tt_10 (k := 63) (u := 96) rfl
  obtain ⟨q_614, fq_614, gq_614⟩ := hx_rf hT gm tt_10 (k := 64) (u := 97) rfl
  obtain ⟨q_615, fq_615, gq_615⟩ := hx_rf hT gm tt_10 (k := 37) (u := 72) rfl
  obtain ⟨q_616, fq_616, gq_616⟩ := hx_rf hT gm tt_10 (k := 82) (u := 108) rfl
  obtain ⟨q_617, fq_617, gq_617⟩ := hx_rf hT gm tt_10 (k := 89) (u := 111) rfl
  obtain ⟨q_618, fq_618, gq_618⟩ := hx_rf hT gm tt_10 (k := 88) (u := 110) rfl
  obtain ⟨fa_619, nfa_619⟩ : ∃ g : Nat → Int32, h_601.2.1 q_605 = g := ⟨_, rfl⟩
  obtain ⟨fa_620, nfa_620⟩ : ∃ g : Nat → Int32, h_601.2.1 q_606 = g := ⟨_, rfl⟩
  obtain ⟨fa_621, nfa_621⟩ : ∃ g : Nat → Int32, h_601.2.1 q_607 = g := ⟨_, rfl⟩
  obtain ⟨fa_622, nfa_622⟩ : ∃ g : Nat → Int32, h_601.2.1 q_608 = g := ⟨_, rfl⟩
  obtain ⟨fa_623, nfa_623⟩ : ∃ g : Nat → Int32, h_601.2.1 q_609 = g := ⟨_, rfl⟩
  obtain ⟨fa_624, nfa_624⟩ : ∃ g : Nat → Int32, h_601.2.1 q_610 = g := ⟨_, rfl⟩
  obtain ⟨fa_625, nfa_625⟩ : ∃ g : Nat → Int32, h_601.2.1 q_611 = g := ⟨_, rfl⟩
  obtain ⟨fa_626, nfa_626⟩ : ∃ g : Nat → Int32, h_601.2.1 q_612 = g := ⟨_, rfl⟩
  obtain ⟨fa_627, nfa_627⟩ : ∃ g : Nat → Int32, h_601.2.1 q_613 = g := ⟨_, rfl⟩
  obtain ⟨fa_628, nfa_628⟩ : ∃ g : Nat → Int32, h_601.2.1 q_614 = g := ⟨_, rfl⟩
  obtain ⟨fa_629, nfa_629⟩ : ∃ g : Nat → Int32, h_601.2.1 q_615 = g := ⟨_, rfl⟩
  refine hx_goi (hx_runV (As := []) (rest := []) ⟨hx, hb, hml, hown, hts⟩ hW gm tt_10 (T := TX10) (N := 98) rfl (t_X10_net_2 l dC dI dA L_600 h_601 H.size am hT gm q_605 gq_605 fq_605 q_606 gq_606 fq_606 q_607 gq_607 fq_607 q_608 gq_608 fq_608 q_609 gq_609 fq_609 ml g_ml f_ml mr g_mr f_mr q_610 gq_610 fq_610 q_611 gq_611 fq_611 q_612 gq_612 fq_612 q_613 gq_613 fq_613 q_614 gq_614 fq_614 m_aga g_m_aga f_m_aga q_615 gq_615 fq_615 q_616 gq_616 fq_616 q_617 gq_617 fq_617 q_618 gq_618 fq_618 fa_619 nfa_619 fa_620 nfa_620 fa_621 nfa_621 fa_622 nfa_622 fa_623 nfa_623 F_ml n_ml F_mr n_mr fa_624 nfa_624 fa_625 nfa_625 fa_626 nfa_626 fa_627 nfa_627 fa_628 nfa_628 F_aga n_aga fa_629 nfa_629 nw f_m_now c0 f_m_claims) (cwV 0 hts (hx_gV kw_1690 kw_1687 kw_1688 kw_1689 kw_103) rfl rfl rfl (by decide +kernel) ⟨Nat.le_of_ble_eq_true rfl, Nat.le_of_ble_eq_true rfl⟩) rfl hl.1 rfl (Nat.le_of_ble_eq_true rfl) dL_law_1201 ⟨(show CC + 0 + 0 ≤ 600000 from by omega), (show SS + 0 + 0 ≤ 7302250 from by omega)⟩) hW (fun r_632 L_630 h_631 H locs p_633 hW => ?_)
  obtain ⟨hr_634, hT, hs⟩ := p_633
  replace hT : hx_T T_tb L_630 h_631 := hT
  replace hs : hx_S T_tb [(10, 59), (10, 67), (10, 68), (10, 69), (10, 70), (10, 71), (10, 83), (10, 84), (10, 86), (10, 87), (93, 0), (94, 0), (95, 0), (96, 0), (97, 0), (108, 0), (109, 0), (110, 0), (111, 0)] L_600 h_601 L_630 h_631 := hs
  replace f_qa := (hs.o gx trivial rfl).2.trans f_qa
  replace f_qp := (hs.o gx trivial rfl).2.trans f_qp
  replace f_qc := (hs.o gx trivial rfl).2.trans f_qc
  replace f_qh := (hs.o gx trivial rfl).2.trans f_qh
  replace f_qw := (hs.o gx trivial rfl).2.trans f_qw
  replace f_ql := (hs.o g_qw trivial rfl).2.trans f_ql
  replace f_m_now := (hs.o gm trivial rfl).1.trans f_m_now
  replace f_m_persons := (hs.o gm trivial rfl).1.trans f_m_persons
  replace f_m_claims := (hs.o gm trivial rfl).1.trans f_m_claims
  replace f_m_lines := (hs.o gm trivial rfl).1.trans f_m_lines
  replace f_m_listed := (hs.o gm trivial rfl).1.trans f_m_listed
  replace f_m_walkedMany := (hs.o gm trivial rfl).1.trans f_m_walkedMany
  replace f_m_acts := (hs.o gm trivial rfl).1.trans f_m_acts
  replace f_m_heardMany := (hs.o gm trivial rfl).1.trans f_m_heardMany
  replace f_x_now := (hs.o gx trivial rfl).1.trans f_x_now
  replace f_x_personCount := (hs.o gx trivial rfl).1.trans f_x_personCount
  replace f_x_claimCount := (hs.o gx trivial rfl).1.trans f_x_claimCount
  replace f_mw := (hs.o gm trivial rfl).2.trans f_mw
  replace f_mr := (hs.o gm trivial rfl).2.trans f_mr
  replace f_mp := (hs.o gm trivial rfl).2.trans f_mp
  replace f_mn := (hs.o gm trivial rfl).2.trans f_mn
  replace f_ml := (hs.o gm trivial rfl).2.trans f_ml
  replace f_mh := (hs.o gm trivial rfl).2.trans f_mh
  replace f_mt := (hs.o gm trivial rfl).2.trans f_mt
  replace f_m_fou := (hs.o gm trivial rfl).2.trans f_m_fou
  replace f_qo_ln := (hs.o gx trivial rfl).2.trans f_qo_ln
  replace f_o_ln := (hs.o g_qo_ln trivial rfl).1.trans f_o_ln
  replace f_o_lsd := (hs.o g_qw trivial rfl).1.trans f_o_lsd
  replace f_o_wkm := (hs.o g_qw trivial rfl).1.trans f_o_wkm
  replace f_b_of := (hs.o g_qo_ln trivial rfl).2.trans f_b_of
  replace f_m_of := (hs.o gm trivial rfl).2.trans f_m_of
  replace f_b_wf := (hs.o g_qo_ln trivial rfl).2.trans f_b_wf
  replace f_m_wf := (hs.o gm trivial rfl).2.trans f_m_wf
  replace f_b_df := (hs.o g_qo_ln trivial rfl).2.trans f_b_df
  replace f_m_df := (hs.o gm trivial rfl).2.trans f_m_df
  replace f_b_kf := (hs.o g_qo_ln trivial rfl).2.trans f_b_kf
  replace f_m_kf := (hs.o gm trivial rfl).2.trans f_m_kf
  replace f_b_sf := (hs.o g_qo_ln trivial rfl).2.trans f_b_sf
  replace f_m_sf := (hs.o gm trivial rfl).2.trans f_m_sf
  replace f_b_bf := (hs.o g_qo_ln trivial rfl).2.trans f_b_bf
  replace f_m_lst := (hs.o gm trivial rfl).2.trans f_m_lst
  replace f_m_dead := (hs.o gm trivial rfl).2.trans f_m_dead
  replace f_m_isj := (hs.o gm trivial rfl).2.trans f_m_isj
  replace f_m_dox := (hs.o gm trivial rfl).2.trans f_m_dox
  replace f_m_doy := (hs.o gm trivial rfl).2.trans f_m_doy
  replace f_qlt := (hs.o g_qw trivial rfl).2.trans f_qlt
  replace f_qlf := (hs.o g_qw trivial rfl).2.trans f_qlf
  replace f_m_wkd := (hs.o gm trivial rfl).2.trans f_m_wkd
  replace f_m_aga := (hs.o gm trivial rfl).2.trans f_m_aga
  replace fq_605 := (hs.o gm trivial rfl).2.trans fq_605
  replace fq_606 := (hs.o gm trivial rfl).2.trans fq_606
  replace fq_607 := (hs.o gm trivial rfl).2.trans fq_607
  replace fq_608 := (hs.o gm trivial rfl).2.trans fq_608
  replace fq_609 := (hs.o gm trivial rfl).2.trans fq_609
  replace fq_610 := (hs.o gm trivial rfl).2.trans fq_610
  replace fq_611 := (hs.o gm trivial rfl).2.trans fq_611
  replace fq_612 := (hs.o gm trivial rfl).2.trans fq_612
  replace fq_613 := (hs.o gm trivial rfl).2.trans fq_613
  replace fq_614 := (hs.o gm trivial rfl).2.trans fq_614
  replace fq_615 := (hs.o gm trivial rfl).2.trans fq_615
  replace fq_616 := (hs.o gm trivial rfl).2.trans fq_616
  replace fq_617 := (hs.o gm trivial rfl).2.trans fq_617
  replace fq_618 := (hs.o gm trivial rfl).2.trans fq_618
  replace pf_qa : ∀ j : Nat, (j : Int) < (h_631.2.1 ax 6).toInt → h_631.2.2 qa j ≠ none := by
    intro j hj; rw [(hs.o gx trivial rfl).1] at hj; rw [(hs.a g_qa rfl j).2]; exact pf_qa j hj
  replace pf_qp : ∀ j : Nat, (j : Int) < (h_631.2.1 ax 8).toInt → h_631.2.2 qp j ≠ none := by
    intro j hj; rw [(hs.o gx trivial rfl).1] at hj; rw [(hs.a g_qp rfl j).2]; exact pf_qp j hj
  replace pf_qc : ∀ j : Nat, (j : Int) < (h_631.2.1 ax 11).toInt → h_631.2.2 qc j ≠ none := by
    intro j hj; rw [(hs.o gx trivial rfl).1] at hj; rw [(hs.a g_qc rfl j).2]; exact pf_qc j hj
  replace pf_qh : ∀ j : Nat, (j : Int) < (h_631.2.1 ax 13).toInt → h_631.2.2 qh j ≠ none := by
    intro j hj; rw [(hs.o gx trivial rfl).1] at hj; rw [(hs.a g_qh rfl j).2]; exact pf_qh j hj
  replace pf_ql : ∀ j : Nat, (j : Int) < (h_631.2.1 qw 0).toInt → h_631.2.2 ql j ≠ none := by
    intro j hj; rw [(hs.o g_qw trivial rfl).1] at hj; rw [(hs.a g_ql rfl j).2]; exact pf_ql j hj
  replace cl_lst : hx_col 8 h_631 ql 0 = c_lst := (hx_col_S hs hTo g_ql tt_40 tt_2 rfl rfl).trans cl_lst
  replace cl_dead : hx_col 40 h_631 qp 7 = c_dead := (hx_col_S hs hTo g_qp tt_44 tt_4 rfl rfl).trans cl_dead
  replace cl_isj : hx_col 40 h_631 qp 8 = c_isj := (hx_col_S hs hTo g_qp tt_44 tt_4 rfl rfl).trans cl_isj
  replace cl_dox : hx_col 40 h_631 qp 5 = c_dox := (hx_col_S hs hTo g_qp tt_44 tt_4 rfl rfl).trans cl_dox
  replace cl_doy : hx_col 40 h_631 qp 6 = c_doy := (hx_col_S hs hTo g_qp tt_44 tt_4 rfl rfl).trans cl_doy
  replace cl_fou : hx_col 100 h_631 qc 10 = c_fou := (hx_col_S hs hTo g_qc tt_45 tt_2 rfl rfl).trans cl_fou
  replace cl_tri : hx_col 100 h_631 qc 9 = c_tri := (hx_col_S hs hTo g_qc tt_45 tt_2 rfl rfl).trans cl_tri
  replace nu_qp : hx_num 40 h_631 qp 0 (np.toInt) := hx_num_S hs hTo g_qp tt_44 tt_4 rfl rfl nu_qp
  replace nu_qc : hx_num 100 h_631 qc 0 (c0.toInt) := hx_num_S hs hTo g_qc tt_45 tt_2 rfl rfl nu_qc
  replace sb_list : hx_LQ 8 100 h_631 ql qc := hx_LQ_S hs g_ql g_qc rfl rfl sb_list
  replace hDF : hw_DF h_631 qc qp 2 F_aga c0.toInt := hw_DF_S hs hTo g_qc g_qp tt_45 tt_2 rfl rfl rfl hDF
  replace n_mw : h_631.2.1 mw = F_mw := (funext fun j => (hs.a g_mw rfl j).1).trans n_mw
  replace n_mr : h_631.2.1 mr = F_mr := (funext fun j => (hs.a g_mr rfl j).1).trans n_mr
  replace n_mp : h_631.2.1 mp = F_mp := (funext fun j => (hs.a g_mp rfl j).1).trans n_mp
  replace n_mn : h_631.2.1 mn = F_mn := (funext fun j => (hs.a g_mn rfl j).1).trans n_mn
  replace n_ml : h_631.2.1 ml = F_ml := (funext fun j => (hs.a g_ml rfl j).1).trans n_ml
  replace n_mh : h_631.2.1 mh = F_mh := (funext fun j => (hs.a g_mh rfl j).1).trans n_mh
  replace n_mt : h_631.2.1 mt = F_mt := (funext fun j => (hs.a g_mt rfl j).1).trans n_mt
  replace n_m_fou : h_631.2.1 m_fou = F_m_fou := (funext fun j => (hs.a g_m_fou rfl j).1).trans n_m_fou
  replace n_b_of : h_631.2.1 b_of = B_of := (funext fun j => (hs.a g_b_of rfl j).1).trans n_b_of
  replace n_m_of : h_631.2.1 m_of = F_of := (funext fun j => (hs.a g_m_of rfl j).1).trans n_m_of
  replace n_b_wf : h_631.2.1 b_wf = B_wf := (funext fun j => (hs.a g_b_wf rfl j).1).trans n_b_wf
  replace n_m_wf : h_631.2.1 m_wf = F_wf := (funext fun j => (hs.a g_m_wf rfl j).1).trans n_m_wf
  replace n_b_df : h_631.2.1 b_df = B_df := (funext fun j => (hs.a g_b_df rfl j).1).trans n_b_df
  replace n_m_df : h_631.2.1 m_df = F_df := (funext fun j => (hs.a g_m_df rfl j).1).trans n_m_df
  replace n_b_kf : h_631.2.1 b_kf = B_kf := (funext fun j => (hs.a g_b_kf rfl j).1).trans n_b_kf
  replace n_m_kf : h_631.2.1 m_kf = F_kf := (funext fun j => (hs.a g_m_kf rfl j).1).trans n_m_kf
  replace n_b_sf : h_631.2.1 b_sf = B_sf := (funext fun j => (hs.a g_b_sf rfl j).1).trans n_b_sf
  replace n_m_sf : h_631.2.1 m_sf = F_sf := (funext fun j => (hs.a g_m_sf rfl j).1).trans n_m_sf
  replace n_b_bf : h_631.2.1 b_bf = bfL := (funext fun j => (hs.a g_b_bf rfl j).1).trans n_b_bf
  replace n_lst : h_631.2.1 m_lst = F_lst := (funext fun j => (hs.a g_m_lst rfl j).1).trans n_lst
  replace n_dead : h_631.2.1 m_dead = F_dead := (funext fun j => (hs.a g_m_dead rfl j).1).trans n_dead
  replace n_isj : h_631.2.1 m_isj = F_isj := (funext fun j => (hs.a g_m_isj rfl j).1).trans n_isj
  replace n_dox : h_631.2.1 m_dox = F_dox := (funext fun j => (hs.a g_m_dox rfl j).1).trans n_dox
  replace n_doy : h_631.2.1 m_doy = F_doy := (funext fun j => (hs.a g_m_doy rfl j).1).trans n_doy
  replace n_qlt : h_631.2.1 qlt = F_qlt := (funext fun j => (hs.a g_qlt rfl j).1).trans n_qlt
  replace n_m_wkd : h_631.2.1 m_wkd = F_m_wkd := (funext fun j => (hs.a g_m_wkd rfl j).1).trans n_m_wkd
  replace n_aga : h_631.2.1 m_aga = F_aga := (funext fun j => (hs.a g_m_aga rfl j).1).trans n_aga
  replace nfa_619 : h_631.2.1 q_605 = fa_619 := (funext fun j => (hs.a gq_605 rfl j).1).trans nfa_619
  replace nfa_620 : h_631.2.1 q_606 = fa_620 := (funext fun j => (hs.a gq_606 rfl j).1).trans nfa_620
  replace nfa_621 : h_631.2.1 q_607 = fa_621 := (funext fun j => (hs.a gq_607 rfl j).1).trans nfa_621
  replace nfa_622 : h_631.2.1 q_608 = fa_622 := (funext fun j => (hs.a gq_608 rfl j).1).trans nfa_622
  replace nfa_623 : h_631.2.1 q_609 = fa_623 := (funext fun j => (hs.a gq_609 rfl j).1).trans nfa_623
  replace nfa_629 : h_631.2.1 q_615 = fa_629 := (funext fun j => (hs.a gq_615 rfl j).1).trans nfa_629
  replace gx := gx.S hs
  replace gm := gm.S hs
  replace g_qa := g_qa.S hs
  replace g_qp := g_qp.S hs
  replace g_qc := g_qc.S hs
  replace g_qh := g_qh.S hs
  replace g_qw := g_qw.S hs
  replace g_ql := g_ql.S hs
  replace g_mw := g_mw.S hs
  replace g_mr := g_mr.S hs
  replace g_mp := g_mp.S hs
  replace g_mn := g_mn.S hs
  replace g_ml := g_ml.S hs
  replace g_mh := g_mh.S hs
  replace g_mt := g_mt.S hs
  replace g_m_fou := g_m_fou.S hs
  replace g_qo_ln := g_qo_ln.S hs
  replace g_b_of := g_b_of.S hs
  replace g_m_of := g_m_of.S hs
  replace g_b_wf := g_b_wf.S hs
  replace g_m_wf := g_m_wf.S hs
  replace g_b_df := g_b_df.S hs
  replace g_m_df := g_m_df.S hs
  replace g_b_kf := g_b_kf.S hs
  replace g_m_kf := g_m_kf.S hs
  replace g_b_sf := g_b_sf.S hs
  replace g_m_sf := g_m_sf.S hs
  replace g_b_bf := g_b_bf.S hs
  replace g_m_lst := g_m_lst.S hs
  replace g_m_dead := g_m_dead.S hs
  replace g_m_isj := g_m_isj.S hs
  replace g_m_dox := g_m_dox.S hs
  replace g_m_doy := g_m_doy.S hs
  replace g_qlt := g_qlt.S hs
  replace g_qlf := g_qlf.S hs
  replace g_m_wkd := g_m_wkd.S hs
  replace g_m_aga := g_m_aga.S hs
  replace gq_605 := gq_605.S hs
  replace gq_606 := gq_606.S hs
  replace gq_607 := gq_607.S hs
  replace gq_608 := gq_608.S hs
  replace gq_609 := gq_609.S hs
  replace gq_610 := gq_610.S hs
  replace gq_611 := gq_611.S hs
  replace gq_612 := gq_612.S hs
  replace gq_613 := gq_613.S hs
  replace gq_614 := gq_614.S hs
  replace gq_615 := gq_615.S hs
  replace gq_616 := gq_616.S hs
  replace gq_617 := gq_617.S hs
  replace gq_618 := gq_618.S hs
  refine lv_pop hx hb dL_law_1204 rfl ?_
  refine lv_goto (tgt := 1379) hx hb dL_law_1205 (by decide) ?_
  refine W.widen (k := CC + 3) (n := SS + 179) (by omega) (by omega) ?_
  exact kk L_630 h_631 H locs ls hW ⟨hT, gx, gm, ⟨f_x_now.trans f_m_now.symm, f_x_personCount.trans f_m_persons.symm, f_x_claimCount.trans f_m_claims.symm, hx_ob f_qo_ln (f_o_ln.trans f_m_lines.symm), hx_ob f_qw (f_o_lsd.trans f_m_listed.symm), hx_ob f_qw (f_o_wkm.trans f_m_walkedMany.symm), hx_ob f_qp (by rw [f_x_personCount]; exact nu_qp), hx_ob f_qc (by rw [f_x_claimCount]; exact nu_qc), (fun b a r hb ha hr => by obtain rfl : qo_ln = b := Option.some.inj (f_qo_ln.symm.trans hb); obtain rfl : b_of = a := Option.some.inj (f_b_of.symm.trans ha); obtain rfl : m_of = r := Option.some.inj (f_m_of.symm.trans hr); rw [n_b_of, n_m_of, f_o_ln]; exact eb_of), (fun b a r hb ha hr => by obtain rfl : qo_ln = b := Option.some.inj (f_qo_ln.symm.trans hb); obtain rfl : b_wf = a := Option.some.inj (f_b_wf.symm.trans ha); obtain rfl : m_wf = r := Option.some.inj (f_m_wf.symm.trans hr); rw [n_b_wf, n_m_wf, f_o_ln]; exact eb_wf), (fun b a r hb ha hr => by obtain rfl : qo_ln = b := Option.some.inj (f_qo_ln.symm.trans hb); obtain rfl : b_df = a := Option.some.inj (f_b_df.symm.trans ha); obtain rfl : m_df = r := Option.some.inj (f_m_df.symm.trans hr); rw [n_b_df, n_m_df, f_o_ln]; exact eb_df), (fun b a r hb ha hr => by obtain rfl : qo_ln = b := Option.some.inj (f_qo_ln.symm.trans hb); obtain rfl : b_kf = a := Option.some.inj (f_b_kf.symm.trans ha); obtain rfl : m_kf = r := Option.some.inj (f_m_kf.symm.trans hr); rw [n_b_kf, n_m_kf, f_o_ln]; exact eb_kf), (fun b a r hb ha hr => by obtain rfl : qo_ln = b := Option.some.inj (f_qo_ln.symm.trans hb); obtain rfl : b_sf = a := Option.some.inj (f_b_sf.symm.trans ha); obtain rfl : m_sf = r := Option.some.inj (f_m_sf.symm.trans hr); rw [n_b_sf, n_m_sf, f_o_ln]; exact eb_sf), (fun b a r hb ha hr => by obtain rfl : qo_ln = b := Option.some.inj (f_qo_ln.symm.trans hb); obtain rfl : b_df = a := Option.some.inj (f_b_df.symm.trans ha); obtain rfl : b_bf = r := Option.some.inj (f_b_bf.symm.trans hr); rw [n_b_df, n_b_bf, f_o_ln]; exact ⟨hBD, hDY⟩), (fun w q c hw hq hc => by obtain rfl : qw = w := Option.some.inj (f_qw.symm.trans hw); obtain rfl : ql = q := Option.some.inj (f_ql.symm.trans hq); obtain rfl : qc = c := Option.some.inj (f_qc.symm.trans hc); exact sb_list), (fun w q r hw hq hr => by obtain rfl : qw = w := Option.some.inj (f_qw.symm.trans hw); obtain rfl : ql = q := Option.some.inj (f_ql.symm.trans hq); obtain rfl : m_lst = r := Option.some.inj (f_m_lst.symm.trans hr); rw [cl_lst, n_lst]; exact eq_lst), (fun w q r hw hq hr => by obtain rfl : qw = w := Option.some.inj (f_qw.symm.trans hw); obtain rfl : qlt = q := Option.some.inj (f_qlt.symm.trans hq); obtain rfl : m_wkd = r := Option.some.inj (f_m_wkd.symm.trans hr); rw [n_qlt, n_m_wkd, f_o_wkm]; exact eb_wkd), (fun c q a hc hq ha => by obtain rfl : qc = c := Option.some.inj (f_qc.symm.trans hc); obtain rfl : qp = q := Option.some.inj (f_qp.symm.trans hq); obtain rfl : m_aga = a := Option.some.inj (f_m_aga.symm.trans ha); rw [n_aga, f_x_claimCount]; exact hw_DF_e hDF rfl rfl), hx_ob2 f_qp f_m_dead (by rw [cl_dead, n_dead]; exact eq_dead), hx_ob2 f_qp f_m_isj (by rw [cl_isj, n_isj]; exact eq_isj), hx_ob2 f_qp f_m_dox (by rw [cl_dox, n_dox]; exact eq_dox), hx_ob2 f_qp f_m_doy (by rw [cl_doy, n_doy]; exact eq_doy), hx_ob2 f_qc f_m_fou (by rw [cl_fou, n_m_fou]; exact eq_fou), hx_ob2 f_qc f_mt (by rw [cl_tri, n_mt]; exact eq_tri), trivial⟩, ⟨hx_ob f_qa pf_qa, hx_ob f_qp pf_qp, hx_ob f_qc pf_qc, hx_ob f_qh pf_qh, (fun w q hw hq => by obtain rfl : qw = w := Option.some.inj (f_qw.symm.trans hw); obtain rfl : ql = q := Option.some.inj (f_ql.symm.trans hq); exact pf_ql)⟩, ⟨hx_ob f_mw (by rw [n_mw]; exact hwd), hx_ob f_mr (by rw [n_mr, f_m_acts]; exact hWK), hx_ob2 f_mp f_mn (by rw [n_mp, n_mn, f_m_acts]; exact hRP), hx_ob f_ml (by rw [n_ml, f_m_claims, f_m_acts]; exact hPL), hx_ob f_mh (by rw [n_mh, f_m_heardMany, f_m_claims]; exact hHC), hx_ob f_mt (by rw [n_mt]; exact (hx_TR_le hTR (by omega))), hx_ob2 f_mh f_m_fou (by rw [n_mh, n_m_fou, f_m_claims]; exact hHF)⟩⟩ hl
