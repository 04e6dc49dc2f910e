set_option maxHeartbeats 4000000 in
set_option maxRecDepth 100000 in
theorem law_case_0 {p : Program} {e : Env} {s : State} {m : MethodId} {below : List Frame} {meth : Method} {c : Code} (l : Launch) {b LN : Nat} {xs : Nat → Int32} (hx : p.tables.exec = Jvm.exec) (hb : c.code = code) (hr : meth.sig.returnType = ret) (hlocks : meth.locks = false) (hml : c.maxLocals = 4) (hown : s.vm.findClass "SmallCourtLaw" = some m.cls) (hts : ∀ w ∈ hx_all, w.before #[Value.ref b] s = true) (hX : va_X b LN xs s s.heap) (hbl : b < s.heap.size) (hbA : ¬ s.heap.size ≤ b) (hLN : LN ≤ 3584) (dC : Nat → ClassId) (dI : Nat → Nat → Nat) (dA : Nat → ClassId) (b0 : hx_z) (ax am : Nat) (T1 : Int) (hT0 : 0 ≤ T1) (hT1 : T1 ≤ 511) (i : Int32) (hi0 : 0 ≤ i.toInt) (hiL : i.toInt + 7 ≤ LN) (CC SS : Nat) (hCC : CC + 3 ≤ 600000) (hSS : SS + 179 ≤ 7302250) (L1 : List Nat) (hl1 : hx_h) (H : Heap) (locs : List Loc) (ls : Array Slot) (hW : hx_W T_tb (P_ty dA) (dC, dI) vwCl (fun q : Nat => s.heap.size ≤ q) s.heap L1 hl1 s H locs) (hZ : hx_Xt (fun q : Nat => s.heap.size ≤ q) b0 s) (hI : hx_IV T1 ax am L1 hl1) (hl : lv_has ls 4 [(3, .int i), (2, .ref am), (1, .ref ax), (0, .ref b)]) (kk : ∀ (L2 : List Nat) (h2 : hx_h) (H2 : Heap) (locs2 : List Loc) (ls2 : Array Slot), hx_W T_tb (P_ty dA) (dC, dI) vwCl (fun q : Nat => s.heap.size ≤ q) s.heap L2 h2 s H2 locs2 → hx_IV (T1 + 1) ax am L2 h2 → lv_has ls2 4 [(3, .int i), (2, .ref am), (1, .ref ax), (0, .ref b)] → W p l e room_1 s m #[Value.ref b] below meth c H2 locs2 (CC + 3) (SS + 179) (lw_Z below #[Value.ref b] s) (F0 m 1379 ls2 [])) : W p l e room_1 s m #[Value.ref b] below meth c H locs CC SS (lw_Z below #[Value.ref b] s) (F0 m 172 ls []) := by
  obtain ⟨hT, gx, gm, ⟨he_nw, he_np, he_c0, he_tl, he_a0, ho_ln, ho_lsd, ho_wkm, hn_qp, hn_qc, hk_of, hk_wf, hk_df, hk_kf, hk_sf, hkBD, hLQ, hLE, hkWD, hkDF, hkTP, hkAC, hc_dead, hc_isj, hc_dox, hc_doy, hc_fou, hc_tri, -⟩, ⟨ia, ip, ic, ih, il⟩, ⟨jw, jr, jp, jl, jh, jt, jf⟩⟩ := hI
  obtain ⟨qa, f_qa, g_qa⟩ := hx_rf hT gx tt_9 (k := 5) (u := 43) rfl
  have pf_qa := ia qa f_qa
  obtain ⟨qp, f_qp, g_qp⟩ := hx_rf hT gx tt_9 (k := 7) (u := 44) rfl
  have pf_qp := ip qp f_qp
  obtain ⟨qc, f_qc, g_qc⟩ := hx_rf hT gx tt_9 (k := 10) (u := 45) rfl
  have pf_qc := ic qc f_qc
  obtain ⟨qh, f_qh, g_qh⟩ := hx_rf hT gx tt_9 (k := 12) (u := 46) rfl
  have pf_qh := ih qh f_qh
  obtain ⟨qw, f_qw, g_qw⟩ := hx_rf hT gx tt_9 (k := 19) (u := 8) rfl
  obtain ⟨ql, f_ql, g_ql⟩ := hx_rf hT g_qw tt_8 (k := 3) (u := 40) rfl
  have pf_ql := il qw ql f_qw f_ql
  obtain ⟨nw, f_m_now⟩ : ∃ y : Int32, hl1.2.1 am 0 = y := ⟨_, rfl⟩
  have b_nw := hT.gi gm tt_10 (k := 0) rfl
  rw [f_m_now] at b_nw
  have b_nw : 0 ≤ nw.toInt ∧ nw.toInt ≤ 7999 := b_nw
  obtain ⟨np, f_m_persons⟩ : ∃ y : Int32, hl1.2.1 am 20 = y := ⟨_, rfl⟩
  have b_np := hT.gi gm tt_10 (k := 20) rfl
  rw [f_m_persons] at b_np
  have b_np : 0 ≤ np.toInt ∧ np.toInt ≤ 40 := b_np
  obtain ⟨c0, f_m_claims⟩ : ∃ y : Int32, hl1.2.1 am 36 = y := ⟨_, rfl⟩
  have b_c0 := hT.gi gm tt_10 (k := 36) rfl
  rw [f_m_claims] at b_c0
  have b_c0 : 0 ≤ c0.toInt ∧ c0.toInt ≤ 100 := b_c0
  obtain ⟨tl, f_m_taped⟩ : ∃ y : Int32, hl1.2.1 am 7 = y := ⟨_, rfl⟩
  have b_tl := hT.gi gm tt_10 (k := 7) rfl
  rw [f_m_taped] at b_tl
  have b_tl : 0 ≤ tl.toInt ∧ tl.toInt ≤ 400 := b_tl
  obtain ⟨a0, f_m_acts⟩ : ∃ y : Int32, hl1.2.1 am 1 = y := ⟨_, rfl⟩
  have b_a0 := hT.gi gm tt_10 (k := 1) rfl
  rw [f_m_acts] at b_a0
  have b_a0 : 0 ≤ a0.toInt ∧ a0.toInt ≤ 8 := b_a0
  obtain ⟨ln, f_m_lines⟩ : ∃ y : Int32, hl1.2.1 am 29 = y := ⟨_, rfl⟩
  have b_ln := hT.gi gm tt_10 (k := 29) rfl
  rw [f_m_lines] at b_ln
  have b_ln : 0 ≤ ln.toInt ∧ ln.toInt ≤ 400 := b_ln
  obtain ⟨lsd, f_m_listed⟩ : ∃ y : Int32, hl1.2.1 am 90 = y := ⟨_, rfl⟩
  have b_lsd := hT.gi gm tt_10 (k := 90) rfl
  rw [f_m_listed] at b_lsd
  have b_lsd : 0 ≤ lsd.toInt ∧ lsd.toInt ≤ 8 := b_lsd
  obtain ⟨wkm, f_m_walkedMany⟩ : ∃ y : Int32, hl1.2.1 am 92 = y := ⟨_, rfl⟩
  have b_wkm := hT.gi gm tt_10 (k := 92) rfl
  rw [f_m_walkedMany] at b_wkm
  have b_wkm : 0 ≤ wkm.toInt ∧ wkm.toInt ≤ 8 := b_wkm
  obtain ⟨m0, f_m_heardMany⟩ : ∃ y : Int32, hl1.2.1 am 57 = y := ⟨_, rfl⟩
  have b_m0 := hT.gi gm tt_10 (k := 57) rfl
  rw [f_m_heardMany] at b_m0
  have b_m0 : 0 ≤ m0.toInt ∧ m0.toInt ≤ 100 := b_m0
  have f_x_now : hl1.2.1 ax 2 = nw := he_nw.trans f_m_now
  have f_x_personCount : hl1.2.1 ax 8 = np := he_np.trans f_m_persons
  have f_x_claimCount : hl1.2.1 ax 11 = c0 := he_c0.trans f_m_claims
  have f_x_tapeLength : hl1.2.1 ax 1 = tl := he_tl.trans f_m_taped
  have f_x_actCount : hl1.2.1 ax 6 = a0 := he_a0.trans f_m_acts
  obtain ⟨mw, f_mw, g_mw⟩ := hx_rf hT gm tt_10 (k := 19) (u := 57) rfl
  obtain ⟨F_mw, n_mw⟩ : ∃ g : Nat → Int32, hl1.2.1 mw = g := ⟨_, rfl⟩
  obtain ⟨mr, f_mr, g_mr⟩ := hx_rf hT gm tt_10 (k := 3) (u := 50) rfl
  obtain ⟨F_mr, n_mr⟩ : ∃ g : Nat → Int32, hl1.2.1 mr = g := ⟨_, rfl⟩
  obtain ⟨mp, f_mp, g_mp⟩ := hx_rf hT gm tt_10 (k := 5) (u := 52) rfl
  obtain ⟨F_mp, n_mp⟩ : ∃ g : Nat → Int32, hl1.2.1 mp = g := ⟨_, rfl⟩
  obtain ⟨mn, f_mn, g_mn⟩ := hx_rf hT gm tt_10 (k := 4) (u := 51) rfl
  obtain ⟨F_mn, n_mn⟩ : ∃ g : Nat → Int32, hl1.2.1 mn = g := ⟨_, rfl⟩
  obtain ⟨ml, f_ml, g_ml⟩ := hx_rf hT gm tt_10 (k := 44) (u := 79) rfl
  obtain ⟨F_ml, n_ml⟩ : ∃ g : Nat → Int32, hl1.2.1 ml = g := ⟨_, rfl⟩
  obtain ⟨mh, f_mh, g_mh⟩ := hx_rf hT gm tt_10 (k := 47) (u := 82) rfl
  obtain ⟨F_mh, n_mh⟩ : ∃ g : Nat → Int32, hl1.2.1 mh = g := ⟨_, rfl⟩
  obtain ⟨mt, f_mt, g_mt⟩ := hx_rf hT gm tt_10 (k := 45) (u := 80) rfl
  obtain ⟨F_mt, n_mt⟩ : ∃ g : Nat → Int32, hl1.2.1 mt = g := ⟨_, rfl⟩
  obtain ⟨m_fou, f_m_fou, g_m_fou⟩ := hx_rf hT gm tt_10 (k := 46) (u := 81) rfl
  obtain ⟨F_m_fou, n_m_fou⟩ : ∃ g : Nat → Int32, hl1.2.1 m_fou = g := ⟨_, rfl⟩
  obtain ⟨qo_ln, f_qo_ln, g_qo_ln⟩ := hx_rf hT gx tt_9 (k := 9) (u := 1) rfl
  have f_o_ln : hl1.2.1 qo_ln 0 = ln := (ho_ln qo_ln f_qo_ln).trans f_m_lines
  have f_o_lsd : hl1.2.1 qw 0 = lsd := (ho_lsd qw f_qw).trans f_m_listed
  have f_o_wkm : hl1.2.1 qw 1 = wkm := (ho_wkm qw f_qw).trans f_m_walkedMany
  have nu_qp := hn_qp qp f_qp; rw [f_x_personCount] at nu_qp
  have nu_qc := hn_qc qc f_qc; rw [f_x_claimCount] at nu_qc
  obtain ⟨b_of, f_b_of, g_b_of⟩ := hx_rf hT g_qo_ln tt_1 (k := 1) (u := 13) rfl
  obtain ⟨B_of, n_b_of⟩ : ∃ g : Nat → Int32, hl1.2.1 b_of = g := ⟨_, rfl⟩
  obtain ⟨m_of, f_m_of, g_m_of⟩ := hx_rf hT gm tt_10 (k := 30) (u := 66) rfl
  obtain ⟨F_of, n_m_of⟩ : ∃ g : Nat → Int32, hl1.2.1 m_of = g := ⟨_, rfl⟩
  have eb_of := hk_of qo_ln b_of m_of f_qo_ln f_b_of f_m_of; rw [n_b_of, n_m_of, f_o_ln] at eb_of
  obtain ⟨b_wf, f_b_wf, g_b_wf⟩ := hx_rf hT g_qo_ln tt_1 (k := 2) (u := 14) rfl
  obtain ⟨B_wf, n_b_wf⟩ : ∃ g : Nat → Int32, hl1.2.1 b_wf = g := ⟨_, rfl⟩
  obtain ⟨m_wf, f_m_wf, g_m_wf⟩ := hx_rf hT gm tt_10 (k := 31) (u := 67) rfl
  obtain ⟨F_wf, n_m_wf⟩ : ∃ g : Nat → Int32, hl1.2.1 m_wf = g := ⟨_, rfl⟩
  have eb_wf := hk_wf qo_ln b_wf m_wf f_qo_ln f_b_wf f_m_wf; rw [n_b_wf, n_m_wf, f_o_ln] at eb_wf
  obtain ⟨b_df, f_b_df, g_b_df⟩ := hx_rf hT g_qo_ln tt_1 (k := 3) (u := 15) rfl
  obtain ⟨B_df, n_b_df⟩ : ∃ g : Nat → Int32, hl1.2.1 b_df = g := ⟨_, rfl⟩
  obtain ⟨m_df, f_m_df, g_m_df⟩ := hx_rf hT gm tt_10 (k := 32) (u := 68) rfl
  obtain ⟨F_df, n_m_df⟩ : ∃ g : Nat → Int32, hl1.2.1 m_df = g := ⟨_, rfl⟩
  have eb_df := hk_df qo_ln b_df m_df f_qo_ln f_b_df f_m_df; rw [n_b_df, n_m_df, f_o_ln] at eb_df
  obtain ⟨b_kf, f_b_kf, g_b_kf⟩ := hx_rf hT g_qo_ln tt_1 (k := 4) (u := 16) rfl
  obtain ⟨B_kf, n_b_kf⟩ : ∃ g : Nat → Int32, hl1.2.1 b_kf = g := ⟨_, rfl⟩
  obtain ⟨m_kf, f_m_kf, g_m_kf⟩ := hx_rf hT gm tt_10 (k := 33) (u := 69) rfl
  obtain ⟨F_kf, n_m_kf⟩ : ∃ g : Nat → Int32, hl1.2.1 m_kf = g := ⟨_, rfl⟩
  have eb_kf := hk_kf qo_ln b_kf m_kf f_qo_ln f_b_kf f_m_kf; rw [n_b_kf, n_m_kf, f_o_ln] at eb_kf
  obtain ⟨b_sf, f_b_sf, g_b_sf⟩ := hx_rf hT g_qo_ln tt_1 (k := 5) (u := 17) rfl
  obtain ⟨B_sf, n_b_sf⟩ : ∃ g : Nat → Int32, hl1.2.1 b_sf = g := ⟨_, rfl⟩
  obtain ⟨m_sf, f_m_sf, g_m_sf⟩ := hx_rf hT gm tt_10 (k := 34) (u := 70) rfl
  obtain ⟨F_sf, n_m_sf⟩ : ∃ g : Nat → Int32, hl1.2.1 m_sf = g := ⟨_, rfl⟩
  have eb_sf := hk_sf qo_ln b_sf m_sf f_qo_ln f_b_sf f_m_sf; rw [n_b_sf, n_m_sf, f_o_ln] at eb_sf
  obtain ⟨b_bf, f_b_bf, g_b_bf⟩ := hx_rf hT g_qo_ln tt_1 (k := 6) (u := 18) rfl
  obtain ⟨bfL, n_b_bf⟩ : ∃ g : Nat → Int32, hl1.2.1 b_bf = g := ⟨_, rfl⟩
  obtain ⟨hBD, hDY⟩ := hkBD qo_ln b_df b_bf f_qo_ln f_b_df f_b_bf; rw [n_b_df, n_b_bf, f_o_ln] at hBD; rw [n_b_df, f_o_ln] at hDY
  have hBDm := hy_BD_c eb_df hBD
  have hDYm : hy_DY F_df ln.toInt.toNat := fun x hx => by rw [← eb_df x hx]; exact hDY x hx
  have sb_list := hLQ qw ql qc f_qw f_ql f_qc
  obtain ⟨m_lst, f_m_lst, g_m_lst⟩ := hx_rf hT gm tt_10 (k := 91) (u := 112) rfl
  obtain ⟨F_lst, n_lst⟩ : ∃ g : Nat → Int32, hl1.2.1 m_lst = g := ⟨_, rfl⟩
  obtain ⟨c_lst, cl_lst⟩ : ∃ g : Nat → Int32, hx_col 8 hl1 ql 0 = g := ⟨_, rfl⟩
  have eq_lst := hLE qw ql m_lst f_qw f_ql f_m_lst; rw [cl_lst, n_lst] at eq_lst
  obtain ⟨qtp, f_qtp, g_qtp⟩ := hx_rf hT gx tt_9 (k := 0) (u := 42) rfl
  obtain ⟨m_tp, f_m_tp, g_m_tp⟩ := hx_rf hT gm tt_10 (k := 6) (u := 53) rfl
  obtain ⟨F_tp, n_tp⟩ : ∃ g : Nat → Int32, hl1.2.1 m_tp = g := ⟨_, rfl⟩
  have n_qtp : hl1.2.1 qtp = F_tp := (hkTP qtp m_tp f_qtp f_m_tp).trans n_tp
  obtain ⟨c_dead, cl_dead⟩ : ∃ g : Nat → Int32, hx_col 40 hl1 qp 7 = g := ⟨_, rfl⟩
  obtain ⟨m_dead, f_m_dead, g_m_dead⟩ := hx_rf hT gm tt_10 (k := 27) (u := 64) rfl
  obtain ⟨F_dead, n_dead⟩ : ∃ g : Nat → Int32, hl1.2.1 m_dead = g := ⟨_, rfl⟩
  have eq_dead := hc_dead qp m_dead f_qp f_m_dead; rw [cl_dead, n_dead] at eq_dead
  have z_dead : np.toInt.toNat < 40 → c_dead np.toInt.toNat = 0 := fun hj => hx_num_z nu_qp cl_dead hj (by omega)
  obtain ⟨c_isj, cl_isj⟩ : ∃ g : Nat → Int32, hx_col 40 hl1 qp 8 = g := ⟨_, rfl⟩
  obtain ⟨m_isj, f_m_isj, g_m_isj⟩ := hx_rf hT gm tt_10 (k := 28) (u := 65) rfl
  obtain ⟨F_isj, n_isj⟩ : ∃ g : Nat → Int32, hl1.2.1 m_isj = g := ⟨_, rfl⟩
  have eq_isj := hc_isj qp m_isj f_qp f_m_isj; rw [cl_isj, n_isj] at eq_isj
  have z_isj : np.toInt.toNat < 40 → c_isj np.toInt.toNat = 0 := fun hj => hx_num_z nu_qp cl_isj hj (by omega)
  obtain ⟨c_dox, cl_dox⟩ : ∃ g : Nat → Int32, hx_col 40 hl1 qp 5 = g := ⟨_, rfl⟩
  obtain ⟨m_dox, f_m_dox, g_m_dox⟩ := hx_rf hT gm tt_10 (k := 24) (u := 61) rfl
  obtain ⟨F_dox, n_dox⟩ : ∃ g : Nat → Int32, hl1.2.1 m_dox = g := ⟨_, rfl⟩
  have eq_dox := hc_dox qp m_dox f_qp f_m_dox; rw [cl_dox, n_dox] at eq_dox
  have z_dox : np.toInt.toNat < 40 → c_dox np.toInt.toNat = 0 := fun hj => hx_num_z nu_qp cl_dox hj (by omega)
  obtain ⟨c_doy, cl_doy⟩ : ∃ g : Nat → Int32, hx_col 40 hl1 qp 6 = g := ⟨_, rfl⟩
  obtain ⟨m_doy, f_m_doy, g_m_doy⟩ := hx_rf hT gm tt_10 (k := 25) (u := 62) rfl
  obtain ⟨F_doy, n_doy⟩ : ∃ g : Nat → Int32, hl1.2.1 m_doy = g := ⟨_, rfl⟩
  have eq_doy := hc_doy qp m_doy f_qp f_m_doy; rw [cl_doy, n_doy] at eq_doy
  have z_doy : np.toInt.toNat < 40 → c_doy np.toInt.toNat = 0 := fun hj => hx_num_z nu_qp cl_doy hj (by omega)
  obtain ⟨c_fou, cl_fou⟩ : ∃ g : Nat → Int32, hx_col 100 hl1 qc 10 = g := ⟨_, rfl⟩
  have eq_fou := hc_fou qc m_fou f_qc f_m_fou; rw [cl_fou, n_m_fou] at eq_fou
  have z_fou : c0.toInt.toNat < 100 → c_fou c0.toInt.toNat = 0 := fun hj => hx_num_z nu_qc cl_fou hj (by omega)
  obtain ⟨c_tri, cl_tri⟩ : ∃ g : Nat → Int32, hx_col 100 hl1 qc 9 = g := ⟨_, rfl⟩
  have eq_tri := hc_tri qc mt f_qc f_mt; rw [cl_tri, n_mt] at eq_tri
  have z_tri : c0.toInt.toNat < 100 → c_tri c0.toInt.toNat = 0 := fun hj => hx_num_z nu_qc cl_tri hj (by omega)
  obtain ⟨qlt, f_qlt, g_qlt⟩ := hx_rf hT g_qw tt_8 (k := 2) (u := 39) rfl
  obtain ⟨qlf, f_qlf, g_qlf⟩ := hx_rf hT g_qw tt_8 (k := 4) (u := 41) rfl
  obtain ⟨m_wkd, f_m_wkd, g_m_wkd⟩ := hx_rf hT gm tt_10 (k := 93) (u := 113) rfl
  obtain ⟨F_qlt, n_qlt⟩ : ∃ g : Nat → Int32, hl1.2.1 qlt = g := ⟨_, rfl⟩
  obtain ⟨F_m_wkd, n_m_wkd⟩ : ∃ g : Nat → Int32, hl1.2.1 m_wkd = g := ⟨_, rfl⟩
  have eb_wkd := hkWD qw qlt m_wkd f_qw f_qlt f_m_wkd; rw [n_qlt, n_m_wkd, f_o_wkm] at eb_wkd
  obtain ⟨m_aga, f_m_aga, g_m_aga⟩ := hx_rf hT gm tt_10 (k := 38) (u := 73) rfl
  obtain ⟨F_aga, n_aga⟩ : ∃ g : Nat → Int32, hl1.2.1 m_aga = g := ⟨_, rfl⟩
  have hDF := hkDF qc qp m_aga f_qc f_qp f_m_aga; rw [n_aga, f_x_claimCount] at hDF
  obtain ⟨qwo, f_qwo, g_qwo⟩ := hx_rf hT gx tt_9 (k := 4) (u := 0) rfl
  obtain ⟨m_ad, f_m_ad, g_m_ad⟩ := hx_rf hT gm tt_10 (k := 2) (u := 49) rfl
  obtain ⟨F_ad, n_ad⟩ : ∃ g : Nat → Int32, hl1.2.1 m_ad = g := ⟨_, rfl⟩
  obtain ⟨A9, hRA9, hCA9⟩ := hkAC qa qwo m_ad mr mn mp f_qa f_qwo f_m_ad f_mr f_mn f_mp
  rw [f_x_actCount] at hRA9; rw [f_x_actCount, n_ad, n_mr, n_mn, n_mp] at hCA9
  have hwd := jw mw f_mw; rw [n_mw] at hwd
  have hWK := jr mr f_mr; rw [n_mr, f_m_acts] at hWK
  have hRP := jp mp mn f_mp f_mn; rw [n_mp, n_mn, f_m_acts] at hRP
  have hPL := jl ml f_ml; rw [n_ml, f_m_claims, f_m_acts] at hPL
  have hHC := jh mh f_mh; rw [n_mh, f_m_heardMany, f_m_claims] at hHC
  have hTR := jt mt f_mt; rw [n_mt] at hTR
  have hHF := jf mh m_fou f_mh f_m_fou; rw [n_mh, n_m_fou, f_m_claims] at hHF
  refine lv_aload_n hx hb dL_law_172 rfl (lv_at hl 2 rfl) ?_
  refine lv_aload_n hx hb dL_law_173 rfl (lv_at hl 3 rfl) ?_
  refine lv_iload_n hx hb dL_law_174 rfl (lv_at hl 0 rfl) ?_
  refine lv_iconst (v := 1) hx hb dL_law_175 (by decide) ?_
  refine lv_iadd hx hb dL_law_176 ?_
  have rg_1 := i32_r i
  refine lv_topi (fun x_2 ex_2 => ?_)
  have zx_2 : x_2.toInt = i.toInt + 1 := by rw [ex_2]; exact i32_add rfl (by decide) (by omega) (by omega)
  refine va_sld hx hb hX hbl hbA hW.2.2.2.1 (vp_in_iff.mpr ⟨by omega, by omega⟩) dL_law_177 ?_
  refine lv_topi (fun x_3 ex_3 => ?_)
  have hTo := hT
  refine hx_goi (hx_runV (As := [.int x_3]) (rest := []) ⟨hx, hb, hml, hown, hts⟩ hW gx tt_9 (T := TX9) (N := 20) rfl (t_X9_clock l dC dI dA L1 hl1 H.size ax x_3 hT gx nw f_x_now) (cwV 1 hts (hx_gV kw_428 kw_425 kw_426 kw_427 kw_94) rfl rfl rfl (by decide +kernel) ⟨Nat.le_of_ble_eq_true rfl, Nat.le_of_ble_eq_true rfl⟩) rfl hl.1 rfl (Nat.le_of_ble_eq_true rfl) dL_law_178 ⟨(show CC + 0 ≤ 600000 from by omega), (show SS + 0 ≤ 7302250 from by omega)⟩) hW (fun r_6 L_4 h_5 H locs p_7 hW => ?_)
  obtain ⟨⟨w_9, fw_9, hr_8⟩, hT, hs⟩ := p_7
  replace hT : hx_T T_tb L_4 h_5 := hT
  replace hs : hx_S T_tb [(9, 2)] L1 hl1 L_4 h_5 := hs
  replace f_qa := (hs.o gx trivial rfl).2.trans f_qa
  replace f_qp := (hs.o gx trivial rfl).2.trans f_qp
  replace f_qc := (hs.o gx trivial rfl).2.trans f_qc
  replace f_qh := (hs.o gx trivial rfl).2.trans f_qh
  replace f_qw := (hs.o gx trivial rfl).2.trans f_qw
  replace f_ql := (hs.o g_qw trivial rfl).2.trans f_ql
  replace f_m_now := (hs.o gm trivial rfl).1.trans f_m_now
  replace f_m_persons := (hs.o gm trivial rfl).1.trans f_m_persons
  replace f_m_claims := (hs.o gm trivial rfl).1.trans f_m_claims
  replace f_m_taped := (hs.o gm trivial rfl).1.trans f_m_taped
  replace f_m_acts := (hs.o gm trivial rfl).1.trans f_m_acts
  replace f_m_lines := (hs.o gm trivial rfl).1.trans f_m_lines
  replace f_m_listed := (hs.o gm trivial rfl).1.trans f_m_listed
  replace f_m_walkedMany := (hs.o gm trivial rfl).1.trans f_m_walkedMany
  replace f_m_heardMany := (hs.o gm trivial rfl).1.trans f_m_heardMany
  replace f_x_personCount := (hs.o gx trivial rfl).1.trans f_x_personCount
  replace f_x_claimCount := (hs.o gx trivial rfl).1.trans f_x_claimCount
  replace f_x_tapeLength := (hs.o gx trivial rfl).1.trans f_x_tapeLength
  replace f_x_actCount := (hs.o gx trivial rfl).1.trans f_x_actCount
  replace f_mw := (hs.o gm trivial rfl).2.trans f_mw
  replace f_mr := (hs.o gm trivial rfl).2.trans f_mr
  replace f_mp := (hs.o gm trivial rfl).2.trans f_mp
  replace f_mn := (hs.o gm trivial rfl).2.trans f_mn
  replace f_ml := (hs.o gm trivial rfl).2.trans f_ml
  replace f_mh := (hs.o gm trivial rfl).2.trans f_mh
  replace f_mt := (hs.o gm trivial rfl).2.trans f_mt
  replace f_m_fou := (hs.o gm trivial rfl).2.trans f_m_fou
  replace f_qo_ln := (hs.o gx trivial rfl).2.trans f_qo_ln
  replace f_o_ln := (hs.o g_qo_ln trivial rfl).1.trans f_o_ln
  replace f_o_lsd := (hs.o g_qw trivial rfl).1.trans f_o_lsd
  replace f_o_wkm := (hs.o g_qw trivial rfl).1.trans f_o_wkm
  replace f_b_of := (hs.o g_qo_ln trivial rfl).2.trans f_b_of
  replace f_m_of := (hs.o gm trivial rfl).2.trans f_m_of
  replace f_b_wf := (hs.o g_qo_ln trivial rfl).2.trans f_b_wf
  replace f_m_wf := (hs.o gm trivial rfl).2.trans f_m_wf
  replace f_b_df := (hs.o g_qo_ln trivial rfl).2.trans f_b_df
  replace f_m_df := (hs.o gm trivial rfl).2.trans f_m_df
  replace f_b_kf := (hs.o g_qo_ln trivial rfl).2.trans f_b_kf
  replace f_m_kf := (hs.o gm trivial rfl).2.trans f_m_kf
  replace f_b_sf := (hs.o g_qo_ln trivial rfl).2.trans f_b_sf
  replace f_m_sf := (hs.o gm trivial rfl).2.trans f_m_sf
  replace f_b_bf := (hs.o g_qo_ln trivial rfl).2.trans f_b_bf
  replace f_m_lst := (hs.o gm trivial rfl).2.trans f_m_lst
  replace f_qtp := (hs.o gx trivial rfl).2.trans f_qtp
  replace f_m_tp := (hs.o gm trivial rfl).2.trans f_m_tp
  replace f_m_dead := (hs.o gm trivial rfl).2.trans f_m_dead
  replace f_m_isj := (hs.o gm trivial rfl).2.trans f_m_isj
  replace f_m_dox := (hs.o gm trivial rfl).2.trans f_m_dox
  replace f_m_doy := (hs.o gm trivial rfl).2.trans f_m_doy
  replace f_qlt := (hs.o g_qw trivial rfl).2.trans f_qlt
  replace f_qlf := (hs.o g_qw trivial rfl).2.trans f_qlf
  replace f_m_wkd := (hs.o gm trivial rfl).2.trans f_m_wkd
  replace f_m_aga := (hs.o gm trivial rfl).2.trans f_m_aga
  replace f_qwo := (hs.o gx trivial rfl).2.trans f_qwo
  replace f_m_ad := (hs.o gm trivial rfl).2.trans f_m_ad
  replace pf_qa : ∀ j : Nat, (j : Int) < (h_5.2.1 ax 6).toInt → h_5.2.2 qa j ≠ none := by
    intro j hj; rw [(hs.o gx trivial rfl).1] at hj; rw [(hs.a g_qa rfl j).2]; exact pf_qa j hj
  replace pf_qp : ∀ j : Nat, (j : Int) < (h_5.2.1 ax 8).toInt → h_5.2.2 qp j ≠ none := by
    intro j hj; rw [(hs.o gx trivial rfl).1] at hj; rw [(hs.a g_qp rfl j).2]; exact pf_qp j hj
  replace pf_qc : ∀ j : Nat, (j : Int) < (h_5.2.1 ax 11).toInt → h_5.2.2 qc j ≠ none := by
    intro j hj; rw [(hs.o gx trivial rfl).1] at hj; rw [(hs.a g_qc rfl j).2]; exact pf_qc j hj
  replace pf_qh : ∀ j : Nat, (j : Int) < (h_5.2.1 ax 13).toInt → h_5.2.2 qh j ≠ none := by
    intro j hj; rw [(hs.o gx trivial rfl).1] at hj; rw [(hs.a g_qh rfl j).2]; exact pf_qh j hj
  replace pf_ql : ∀ j : Nat, (j : Int) < (h_5.2.1 qw 0).toInt → h_5.2.2 ql j ≠ none := by
    intro j hj; rw [(hs.o g_qw trivial rfl).1] at hj; rw [(hs.a g_ql rfl j).2]; exact pf_ql j hj
  replace cl_lst : hx_col 8 h_5 ql 0 = c_lst := (hx_col_S hs hTo g_ql tt_40 tt_2 rfl rfl).trans cl_lst
  replace cl_dead : hx_col 40 h_5 qp 7 = c_dead := (hx_col_S hs hTo g_qp tt_44 tt_4 rfl rfl).trans cl_dead
  replace cl_isj : hx_col 40 h_5 qp 8 = c_isj := (hx_col_S hs hTo g_qp tt_44 tt_4 rfl rfl).trans cl_isj
  replace cl_dox : hx_col 40 h_5 qp 5 = c_dox := (hx_col_S hs hTo g_qp tt_44 tt_4 rfl rfl).trans cl_dox
  replace cl_doy : hx_col 40 h_5 qp 6 = c_doy := (hx_col_S hs hTo g_qp tt_44 tt_4 rfl rfl).trans cl_doy
  replace cl_fou : hx_col 100 h_5 qc 10 = c_fou := (hx_col_S hs hTo g_qc tt_45 tt_2 rfl rfl).trans cl_fou
  replace cl_tri : hx_col 100 h_5 qc 9 = c_tri := (hx_col_S hs hTo g_qc tt_45 tt_2 rfl rfl).trans cl_tri
  replace nu_qp : hx_num 40 h_5 qp 0 (np.toInt) := hx_num_S hs hTo g_qp tt_44 tt_4 rfl rfl nu_qp
  replace nu_qc : hx_num 100 h_5 qc 0 (c0.toInt) := hx_num_S hs hTo g_qc tt_45 tt_2 rfl rfl nu_qc
  replace sb_list : hx_LQ 8 100 h_5 ql qc := hx_LQ_S hs g_ql g_qc rfl rfl sb_list
  replace hDF : hw_DF h_5 qc qp 2 F_aga c0.toInt := hw_DF_S hs hTo g_qc g_qp tt_45 tt_2 rfl rfl rfl hDF
  replace hRA9 : hv_RA h_5 qa qwo a0.toInt A9 := hv_RA_S hs hTo g_qa g_qwo tt_43 tt_0 rfl rfl rfl rfl rfl rfl (by omega) hRA9
  replace n_mw : h_5.2.1 mw = F_mw := (funext fun j => (hs.a g_mw rfl j).1).trans n_mw
  replace n_mr : h_5.2.1 mr = F_mr := (funext fun j => (hs.a g_mr rfl j).1).trans n_mr
  replace n_mp : h_5.2.1 mp = F_mp := (funext fun j => (hs.a g_mp rfl j).1).trans n_mp
  replace n_mn : h_5.2.1 mn = F_mn := (funext fun j => (hs.a g_mn rfl j).1).trans n_mn
  replace n_ml : h_5.2.1 ml = F_ml := (funext fun j => (hs.a g_ml rfl j).1).trans n_ml
  replace n_mh : h_5.2.1 mh = F_mh := (funext fun j => (hs.a g_mh rfl j).1).trans n_mh
  replace n_mt : h_5.2.1 mt = F_mt := (funext fun j => (hs.a g_mt rfl j).1).trans n_mt
  replace n_m_fou : h_5.2.1 m_fou = F_m_fou := (funext fun j => (hs.a g_m_fou rfl j).1).trans n_m_fou
  replace n_b_of : h_5.2.1 b_of = B_of := (funext fun j => (hs.a g_b_of rfl j).1).trans n_b_of
  replace n_m_of : h_5.2.1 m_of = F_of := (funext fun j => (hs.a g_m_of rfl j).1).trans n_m_of
  replace n_b_wf : h_5.2.1 b_wf = B_wf := (funext fun j => (hs.a g_b_wf rfl j).1).trans n_b_wf
  replace n_m_wf : h_5.2.1 m_wf = F_wf := (funext fun j => (hs.a g_m_wf rfl j).1).trans n_m_wf
  replace n_b_df : h_5.2.1 b_df = B_df := (funext fun j => (hs.a g_b_df rfl j).1).trans n_b_df
  replace n_m_df : h_5.2.1 m_df = F_df := (funext fun j => (hs.a g_m_df rfl j).1).trans n_m_df
  replace n_b_kf : h_5.2.1 b_kf = B_kf := (funext fun j => (hs.a g_b_kf rfl j).1).trans n_b_kf
  replace n_m_kf : h_5.2.1 m_kf = F_kf := (funext fun j => (hs.a g_m_kf rfl j).1).trans n_m_kf
  replace n_b_sf : h_5.2.1 b_sf = B_sf := (funext fun j => (hs.a g_b_sf rfl j).1).trans n_b_sf
  replace n_m_sf : h_5.2.1 m_sf = F_sf := (funext fun j => (hs.a g_m_sf rfl j).1).trans n_m_sf
  replace n_b_bf : h_5.2.1 b_bf = bfL := (funext fun j => (hs.a g_b_bf rfl j).1).trans n_b_bf
  replace n_lst : h_5.2.1 m_lst = F_lst := (funext fun j => (hs.a g_m_lst rfl j).1).trans n_lst
  replace n_tp : h_5.2.1 m_tp = F_tp := (funext fun j => (hs.a g_m_tp rfl j).1).trans n_tp
  replace n_qtp : h_5.2.1 qtp = F_tp := (funext fun j => (hs.a g_qtp rfl j).1).trans n_qtp
  replace n_dead : h_5.2.1 m_dead = F_dead := (funext fun j => (hs.a g_m_dead rfl j).1).trans n_dead
  replace n_isj : h_5.2.1 m_isj = F_isj := (funext fun j => (hs.a g_m_isj rfl j).1).trans n_isj
  replace n_dox : h_5.2.1 m_dox = F_dox := (funext fun j => (hs.a g_m_dox rfl j).1).trans n_dox
  replace n_doy : h_5.2.1 m_doy = F_doy := (funext fun j => (hs.a g_m_doy rfl j).1).trans n_doy
  replace n_qlt : h_5.2.1 qlt = F_qlt := (funext fun j => (hs.a g_qlt rfl j).1).trans n_qlt
  replace n_m_wkd : h_5.2.1 m_wkd = F_m_wkd := (funext fun j => (hs.a g_m_wkd rfl j).1).trans n_m_wkd
  replace n_aga : h_5.2.1 m_aga = F_aga := (funext fun j => (hs.a g_m_aga rfl j).1).trans n_aga
  replace n_ad : h_5.2.1 m_ad = F_ad := (funext fun j => (hs.a g_m_ad rfl j).1).trans n_ad
  replace gx := gx.S hs
  replace gm := gm.S hs
  replace g_qa := g_qa.S hs
  replace g_qp := g_qp.S hs
  replace g_qc := g_qc.S hs
  replace g_qh := g_qh.S hs
  replace g_qw := g_qw.S hs
  replace g_ql := g_ql.S hs
  replace g_mw := g_mw.S hs
  replace g_mr := g_mr.S hs
  replace g_mp := g_mp.S hs
  replace g_mn := g_mn.S hs
  replace g_ml := g_ml.S hs
  replace g_mh := g_mh.S hs
  replace g_mt := g_mt.S hs
  replace g_m_fou := g_m_fou.S hs
  replace g_qo_ln := g_qo_ln.S hs
  replace g_b_of := g_b_of.S hs
  replace g_m_of := g_m_of.S hs
  replace g_b_wf := g_b_wf.S hs
  replace g_m_wf := g_m_wf.S hs
  replace g_b_df := g_b_df.S hs
  replace g_m_df := g_m_df.S hs
  replace g_b_kf := g_b_kf.S hs
  replace g_m_kf := g_m_kf.S hs
  replace g_b_sf := g_b_sf.S hs
  replace g_m_sf := g_m_sf.S hs
  replace g_b_bf := g_b_bf.S hs
  replace g_m_lst := g_m_lst.S hs
  replace g_qtp := g_qtp.S hs
  replace g_m_tp := g_m_tp.S hs
  replace g_m_dead := g_m_dead.S hs
  replace g_m_isj := g_m_isj.S hs
  replace g_m_dox := g_m_dox.S hs
  replace g_m_doy := g_m_doy.S hs
  replace g_qlt := g_qlt.S hs
  replace g_qlf := g_qlf.S hs
  replace g_m_wkd := g_m_wkd.S hs
  replace g_m_aga := g_m_aga.S hs
  replace g_qwo := g_qwo.S hs
  replace g_m_ad := g_m_ad.S hs
  have fw_9 : h_5.2.1 ax 2 = w_9 := fw_9
  have bw_9 := hT.gi gx tt_9 (k := 2) rfl
  rw [fw_9] at bw_9
  have bw_9 : 0 ≤ w_9.toInt ∧ w_9.toInt ≤ 7999 := bw_9
  refine lv_pop hx hb dL_law_181 rfl ?_
  refine lv_aload_n hx hb dL_law_182 rfl (lv_at hl 1 rfl) ?_
  refine lv_aload_n hx hb dL_law_183 rfl (lv_at hl 3 rfl) ?_
  refine lv_iload_n hx hb dL_law_184 rfl (lv_at hl 0 rfl) ?_
  refine lv_iconst (v := 1) hx hb dL_law_185 (by decide) ?_
  refine lv_iadd hx hb dL_law_186 ?_
  refine lv_topi (fun x_10 ex_10 => ?_)
  have zx_10 : x_10.toInt = i.toInt + 1 := by rw [ex_10]; exact i32_add rfl (by decide) (by omega) (by omega)
  obtain rfl : x_2 = x_10 := ex_2.trans ex_10.symm
  refine va_sld hx hb hX hbl hbA hW.2.2.2.1 (vp_in_iff.mpr ⟨by omega, by omega⟩) dL_law_187 ?_
  refine lv_topi (fun x_11 ex_11 => ?_)
  obtain rfl : x_3 = x_11 := ex_3.trans ex_11.symm
  have hTo := hT
  refine hx_goi (hx_runV (As := [.int x_3]) (rest := []) ⟨hx, hb, hml, hown, hts⟩ hW gm tt_10 (T := TX10) (N := 98) rfl (t_X10_clock l dC dI dA L_4 h_5 H.size am x_3 hT gm nw f_m_now) (cwV 1 hts (hx_gV kw_1442 kw_1439 kw_1440 kw_1441 kw_103) rfl rfl rfl (by decide +kernel) ⟨Nat.le_of_ble_eq_true rfl, Nat.le_of_ble_eq_true rfl⟩) rfl hl.1 rfl (Nat.le_of_ble_eq_true rfl) dL_law_188 ⟨(show CC + 0 + 0 ≤ 600000 from by omega), (show SS + 0 + 0 ≤ 7302250 from by omega)⟩) hW (fun r_14 L_12 h_13 H locs p_15 hW => ?_)
  obtain ⟨⟨w_17, fw_17, hr_16⟩, hT, hs⟩ := p_15
  replace hT : hx_T T_tb L_12 h_13 := hT
  replace hs : hx_S T_tb [(10, 0)] L_4 h_5 L_12 h_13 := hs
  replace f_qa := (hs.o gx trivial rfl).2.trans f_qa
  replace f_qp := (hs.o gx trivial rfl).2.trans f_qp
  replace f_qc := (hs.o gx trivial rfl).2.trans f_qc
  replace f_qh := (hs.o gx trivial rfl).2.trans f_qh
  replace f_qw := (hs.o gx trivial rfl).2.trans f_qw
  replace f_ql := (hs.o g_qw trivial rfl).2.trans f_ql
  replace f_m_persons := (hs.o gm trivial rfl).1.trans f_m_persons
  replace f_m_claims := (hs.o gm trivial rfl).1.trans f_m_claims
  replace f_m_taped := (hs.o gm trivial rfl).1.trans f_m_taped
  replace f_m_acts := (hs.o gm trivial rfl).1.trans f_m_acts
  replace f_m_lines := (hs.o gm trivial rfl).1.trans f_m_lines
  replace f_m_listed := (hs.o gm trivial rfl).1.trans f_m_listed
  replace f_m_walkedMany := (hs.o gm trivial rfl).1.trans f_m_walkedMany
  replace f_m_heardMany := (hs.o gm trivial rfl).1.trans f_m_heardMany
  replace f_x_personCount := (hs.o gx trivial rfl).1.trans f_x_personCount
  replace f_x_claimCount := (hs.o gx trivial rfl).1.trans f_x_claimCount
  replace f_x_tapeLength := (hs.o gx trivial rfl).1.trans f_x_tapeLength
  replace f_x_actCount := (hs.o gx trivial rfl).1.trans f_x_actCount
  replace f_mw := (hs.o gm trivial rfl).2.trans f_mw
  replace f_mr := (hs.o gm trivial rfl).2.trans f_mr
  replace f_mp := (hs.o gm trivial rfl).2.trans f_mp
  replace f_mn := (hs.o gm trivial rfl).2.trans f_mn
  replace f_ml := (hs.o gm trivial rfl).2.trans f_ml
  replace f_mh := (hs.o gm trivial rfl).2.trans f_mh
  replace f_mt := (hs.o gm trivial rfl).2.trans f_mt
  replace f_m_fou := (hs.o gm trivial rfl).2.trans f_m_fou
  replace f_qo_ln := (hs.o gx trivial rfl).2.trans f_qo_ln
  replace f_o_ln := (hs.o g_qo_ln trivial rfl).1.trans f_o_ln
  replace f_o_lsd := (hs.o g_qw trivial rfl).1.trans f_o_lsd
  replace f_o_wkm := (hs.o g_qw trivial rfl).1.trans f_o_wkm
  replace f_b_of := (hs.o g_qo_ln trivial rfl).2.trans f_b_of
  replace f_m_of := (hs.o gm trivial rfl).2.trans f_m_of
  replace f_b_wf := (hs.o g_qo_ln trivial rfl).2.trans f_b_wf
  replace f_m_wf := (hs.o gm trivial rfl).2.trans f_m_wf
  replace f_b_df := (hs.o g_qo_ln trivial rfl).2.trans f_b_df
  replace f_m_df := (hs.o gm trivial rfl).2.trans f_m_df
  replace f_b_kf := (hs.o g_qo_ln trivial rfl).2.trans f_b_kf
  replace f_m_kf := (hs.o gm trivial rfl).2.trans f_m_kf
  replace f_b_sf := (hs.o g_qo_ln trivial rfl).2.trans f_b_sf
  replace f_m_sf := (hs.o gm trivial rfl).2.trans f_m_sf
  replace f_b_bf := (hs.o g_qo_ln trivial rfl).2.trans f_b_bf
  replace f_m_lst := (hs.o gm trivial rfl).2.trans f_m_lst
  replace f_qtp := (hs.o gx trivial rfl).2.trans f_qtp
  replace f_m_tp := (hs.o gm trivial rfl).2.trans f_m_tp
  replace f_m_dead := (hs.o gm trivial rfl).2.trans f_m_dead
  replace f_m_isj := (hs.o gm trivial rfl).2.trans f_m_isj
  replace f_m_dox := (hs.o gm trivial rfl).2.trans f_m_dox
  replace f_m_doy := (hs.o gm trivial rfl).2.trans f_m_doy
  replace f_qlt := (hs.o g_qw trivial rfl).2.trans f_qlt
  replace f_qlf := (hs.o g_qw trivial rfl).2.trans f_qlf
  replace f_m_wkd := (hs.o gm trivial rfl).2.trans f_m_wkd
  replace f_m_aga := (hs.o gm trivial rfl).2.trans f_m_aga
  replace f_qwo := (hs.o gx trivial rfl).2.trans f_qwo
  replace f_m_ad := (hs.o gm trivial rfl).2.trans f_m_ad
  replace fw_9 := (hs.o gx trivial rfl).1.trans fw_9
  replace pf_qa : ∀ j : Nat, (j : Int) < (h_13.2.1 ax 6).toInt → h_13.2.2 qa j ≠ none := by
    intro j hj; rw [(hs.o gx trivial rfl).1] at hj; rw [(hs.a g_qa rfl j).2]; exact pf_qa j hj
  replace pf_qp : ∀ j : Nat, (j : Int) < (h_13.2.1 ax 8).toInt → h_13.2.2 qp j ≠ none := by
    intro j hj; rw [(hs.o gx trivial rfl).1] at hj; rw [(hs.a g_qp rfl j).2]; exact pf_qp j hj
  replace pf_qc : ∀ j : Nat, (j : Int) < (h_13.2.1 ax 11).toInt → h_13.2.2 qc j ≠ none := by
    intro j hj; rw [(hs.o gx trivial rfl).1] at hj; rw [(hs.a g_qc rfl j).2]; exact pf_qc j hj
  replace pf_qh : ∀ j : Nat, (j : Int) < (h_13.2.1 ax 13).toInt → h_13.2.2 qh j ≠ none := by
    intro j hj; rw [(hs.o gx trivial rfl).1] at hj; rw [(hs.a g_qh rfl j).2]; exact pf_qh j hj
  replace pf_ql : ∀ j : Nat, (j : Int) < (h_13.2.1 qw 0).toInt → h_13.2.2 ql j ≠ none := by
    intro j hj; rw [(hs.o g_qw trivial rfl).1] at hj; rw [(hs.a g_ql rfl j).2]; exact pf_ql j hj
  replace cl_lst : hx_col 8 h_13 ql 0 = c_lst := (hx_col_S hs hTo g_ql tt_40 tt_2 rfl rfl).trans cl_lst
  replace cl_dead : hx_col 40 h_13 qp 7 = c_dead := (hx_col_S hs hTo g_qp tt_44 tt_4 rfl rfl).trans cl_dead
  replace cl_isj : hx_col 40 h_13 qp 8 = c_isj := (hx_col_S hs hTo g_qp tt_44 tt_4 rfl rfl).trans cl_isj
  replace cl_dox : hx_col 40 h_13 qp 5 = c_dox := (hx_col_S hs hTo g_qp tt_44 tt_4 rfl rfl).trans cl_dox
  replace cl_doy : hx_col 40 h_13 qp 6 = c_doy := (hx_col_S hs hTo g_qp tt_44 tt_4 rfl rfl).trans cl_doy
  replace cl_fou : hx_col 100 h_13 qc 10 = c_fou := (hx_col_S hs hTo g_qc tt_45 tt_2 rfl rfl).trans cl_fou
  replace cl_tri : hx_col 100 h_13 qc 9 = c_tri := (hx_col_S hs hTo g_qc tt_45 tt_2 rfl rfl).trans cl_tri
  replace nu_qp : hx_num 40 h_13 qp 0 (np.toInt) := hx_num_S hs hTo g_qp tt_44 tt_4 rfl rfl nu_qp
  replace nu_qc : hx_num 100 h_13 qc 0 (c0.toInt) := hx_num_S hs hTo g_qc tt_45 tt_2 rfl rfl nu_qc
  replace sb_list : hx_LQ 8 100 h_13 ql qc := hx_LQ_S hs g_ql g_qc rfl rfl sb_list
  replace hDF : hw_DF h_13 qc qp 2 F_aga c0.toInt := hw_DF_S hs hTo g_qc g_qp tt_45 tt_2 rfl rfl rfl hDF
  replace hRA9 : hv_RA h_13 qa qwo a0.toInt A9 := hv_RA_S hs hTo g_qa g_qwo tt_43 tt_0 rfl rfl rfl rfl rfl rfl (by omega) hRA9
  replace n_mw : h_13.2.1 mw = F_mw := (funext fun j => (hs.a g_mw rfl j).1).trans n_mw
  replace n_mr : h_13.2.1 mr = F_mr := (funext fun j => (hs.a g_mr rfl j).1).trans n_mr
  replace n_mp : h_13.2.1 mp = F_mp := (funext fun j => (hs.a g_mp rfl j).1).trans n_mp
  replace n_mn : h_13.2.1 mn = F_mn := (funext fun j => (hs.a g_mn rfl j).1).trans n_mn
  replace n_ml : h_13.2.1 ml = F_ml := (funext fun j => (hs.a g_ml rfl j).1).trans n_ml
  replace n_mh : h_13.2.1 mh = F_mh := (funext fun j => (hs.a g_mh rfl j).1).trans n_mh
  replace n_mt : h_13.2.1 mt = F_mt := (funext fun j => (hs.a g_mt rfl j).1).trans n_mt
  replace n_m_fou : h_13.2.1 m_fou = F_m_fou := (funext fun j => (hs.a g_m_fou rfl j).1).trans n_m_fou
  replace n_b_of : h_13.2.1 b_of = B_of := (funext fun j => (hs.a g_b_of rfl j).1).trans n_b_of
  replace n_m_of : h_13.2.1 m_of = F_of := (funext fun j => (hs.a g_m_of rfl j).1).trans n_m_of
  replace n_b_wf : h_13.2.1 b_wf = B_wf := (funext fun j => (hs.a g_b_wf rfl j).1).trans n_b_wf
  replace n_m_wf : h_13.2.1 m_wf = F_wf := (funext fun j => (hs.a g_m_wf rfl j).1).trans n_m_wf
  replace n_b_df : h_13.2.1 b_df = B_df := (funext fun j => (hs.a g_b_df rfl j).1).trans n_b_df
  replace n_m_df : h_13.2.1 m_df = F_df := (funext fun j => (hs.a g_m_df rfl j).1).trans n_m_df
  replace n_b_kf : h_13.2.1 b_kf = B_kf := (funext fun j => (hs.a g_b_kf rfl j).1).trans n_b_kf
  replace n_m_kf : h_13.2.1 m_kf = F_kf := (funext fun j => (hs.a g_m_kf rfl j).1).trans n_m_kf
  replace n_b_sf : h_13.2.1 b_sf = B_sf := (funext fun j => (hs.a g_b_sf rfl j).1).trans n_b_sf
  replace n_m_sf : h_13.2.1 m_sf = F_sf := (funext fun j => (hs.a g_m_sf rfl j).1).trans n_m_sf
  replace n_b_bf : h_13.2.1 b_bf = bfL := (funext fun j => (hs.a g_b_bf rfl j).1).trans n_b_bf
  replace n_lst : h_13.2.1 m_lst = F_lst := (funext fun j => (hs.a g_m_lst rfl j).1).trans n_lst
  replace n_tp : h_13.2.1 m_tp = F_tp := (funext fun j => (hs.a g_m_tp rfl j).1).trans n_tp
  replace n_qtp : h_13.2.1 qtp = F_tp := (funext fun j => (hs.a g_qtp rfl j).1).trans n_qtp
  replace n_dead : h_13.2.1 m_dead = F_dead := (funext fun j => (hs.a g_m_dead rfl j).1).trans n_dead
  replace n_isj : h_13.2.1 m_isj = F_isj := (funext fun j => (hs.a g_m_isj rfl j).1).trans n_isj
  replace n_dox : h_13.2.1 m_dox = F_dox := (funext fun j => (hs.a g_m_dox rfl j).1).trans n_dox
  replace n_doy : h_13.2.1 m_doy = F_doy := (funext fun j => (hs.a g_m_doy rfl j).1).trans n_doy
  replace n_qlt : h_13.2.1 qlt = F_qlt := (funext fun j => (hs.a g_qlt rfl j).1).trans n_qlt
  replace n_m_wkd : h_13.2.1 m_wkd = F_m_wkd := (funext fun j => (hs.a g_m_wkd rfl j).1).trans n_m_wkd
  replace n_aga : h_13.2.1 m_aga = F_aga := (funext fun j => (hs.a g_m_aga rfl j).1).trans n_aga
  replace n_ad : h_13.2.1 m_ad = F_ad := (funext fun j => (hs.a g_m_ad rfl j).1).trans n_ad
  replace gx := gx.S hs
  replace gm := gm.S hs
  replace g_qa := g_qa.S hs
  replace g_qp := g_qp.S hs
  replace g_qc := g_qc.S hs
  replace g_qh := g_qh.S hs
  replace g_qw := g_qw.S hs
  replace g_ql := g_ql.S hs
  replace g_mw := g_mw.S hs
  replace g_mr := g_mr.S hs
  replace g_mp := g_mp.S hs
  replace g_mn := g_mn.S hs
  replace g_ml := g_ml.S hs
  replace g_mh := g_mh.S hs
  replace g_mt := g_mt.S hs
  replace g_m_fou := g_m_fou.S hs
  replace g_qo_ln := g_qo_ln.S hs
  replace g_b_of := g_b_of.S hs
  replace g_m_of := g_m_of.S hs
  replace g_b_wf := g_b_wf.S hs
  replace g_m_wf := g_m_wf.S hs
  replace g_b_df := g_b_df.S hs
  replace g_m_df := g_m_df.S hs
  replace g_b_kf := g_b_kf.S hs
  replace g_m_kf := g_m_kf.S hs
  replace g_b_sf := g_b_sf.S hs
  replace g_m_sf := g_m_sf.S hs
  replace g_b_bf := g_b_bf.S hs
  replace g_m_lst := g_m_lst.S hs
  replace g_qtp := g_qtp.S hs
  replace g_m_tp := g_m_tp.S hs
  replace g_m_dead := g_m_dead.S hs
  replace g_m_isj := g_m_isj.S hs
  replace g_m_dox := g_m_dox.S hs
  replace g_m_doy := g_m_doy.S hs
  replace g_qlt := g_qlt.S hs
  replace g_qlf := g_qlf.S hs
  replace g_m_wkd := g_m_wkd.S hs
  replace g_m_aga := g_m_aga.S hs
  replace g_qwo := g_qwo.S hs
  replace g_m_ad := g_m_ad.S hs
  have fw_17 : h_13.2.1 am 0 = w_17 := fw_17
  have bw_17 := hT.gi gm tt_10 (k := 0) rfl
  rw [fw_17] at bw_17
  have bw_17 : 0 ≤ w_17.toInt ∧ w_17.toInt ≤ 7999 := bw_17
  refine lv_pop hx hb dL_law_191 rfl ?_
  refine lv_goto (tgt := 1379) hx hb dL_law_192 (by decide) ?_
  obtain ⟨heq, hq_nw⟩ := hx_ck hr_8 hr_16
  refine W.widen (k := CC + 3) (n := SS + 179) (by omega) (by omega) ?_
  exact kk L_12 h_13 H locs ls hW ⟨hT, gx, gm, ⟨(fw_9.trans hq_nw).trans fw_17.symm, f_x_personCount.trans f_m_persons.symm, f_x_claimCount.trans f_m_claims.symm, f_x_tapeLength.trans f_m_taped.symm, f_x_actCount.trans f_m_acts.symm, hx_ob f_qo_ln (f_o_ln.trans f_m_lines.symm), hx_ob f_qw (f_o_lsd.trans f_m_listed.symm), hx_ob f_qw (f_o_wkm.trans f_m_walkedMany.symm), hx_ob f_qp (by rw [f_x_personCount]; exact nu_qp), hx_ob f_qc (by rw [f_x_claimCount]; exact nu_qc), (fun b a r hb ha hr => by obtain rfl : qo_ln = b := Option.some.inj (f_qo_ln.symm.trans hb); obtain rfl : b_of = a := Option.some.inj (f_b_of.symm.trans ha); obtain rfl : m_of = r := Option.some.inj (f_m_of.symm.trans hr); rw [n_b_of, n_m_of, f_o_ln]; exact eb_of), (fun b a r hb ha hr => by obtain rfl : qo_ln = b := Option.some.inj (f_qo_ln.symm.trans hb); obtain rfl : b_wf = a := Option.some.inj (f_b_wf.symm.trans ha); obtain rfl : m_wf = r := Option.some.inj (f_m_wf.symm.trans hr); rw [n_b_wf, n_m_wf, f_o_ln]; exact eb_wf), (fun b a r hb ha hr => by obtain rfl : qo_ln = b := Option.some.inj (f_qo_ln.symm.trans hb); obtain rfl : b_df = a := Option.some.inj (f_b_df.symm.trans ha); obtain rfl : m_df = r := Option.some.inj (f_m_df.symm.trans hr); rw [n_b_df, n_m_df, f_o_ln]; exact eb_df), (fun b a r hb ha hr => by obtain rfl : qo_ln = b := Option.some.inj (f_qo_ln.symm.trans hb); obtain rfl : b_kf = a := Option.some.inj (f_b_kf.symm.trans ha); obtain rfl : m_kf = r := Option.some.inj (f_m_kf.symm.trans hr); rw [n_b_kf, n_m_kf, f_o_ln]; exact eb_kf), (fun b a r hb ha hr => by obtain rfl : qo_ln = b := Option.some.inj (f_qo_ln.symm.trans hb); obtain rfl : b_sf = a := Option.some.inj (f_b_sf.symm.trans ha); obtain rfl : m_sf = r := Option.some.inj (f_m_sf.symm.trans hr); rw [n_b_sf, n_m_sf, f_o_ln]; exact eb_sf), (fun b a r hb ha hr => by obtain rfl : qo_ln = b := Option.some.inj (f_qo_ln.symm.trans hb); obtain rfl : b_df = a := Option.some.inj (f_b_df.symm.trans ha); obtain rfl : b_bf = r := Option.some.inj (f_b_bf.symm.trans hr); rw [n_b_df, n_b_bf, f_o_ln]; exact ⟨hBD, hDY⟩), (fun w q c hw hq hc => by obtain rfl : qw = w := Option.some.inj (f_qw.symm.trans hw); obtain rfl : ql = q := Option.some.inj (f_ql.symm.trans hq); obtain rfl : qc = c := Option.some.inj (f_qc.symm.trans hc); exact sb_list), (fun w q r hw hq hr => by obtain rfl : qw = w := Option.some.inj (f_qw.symm.trans hw); obtain rfl : ql = q := Option.some.inj (f_ql.symm.trans hq); obtain rfl : m_lst = r := Option.some.inj (f_m_lst.symm.trans hr); rw [cl_lst, n_lst]; exact eq_lst), (fun w q r hw hq hr => by obtain rfl : qw = w := Option.some.inj (f_qw.symm.trans hw); obtain rfl : qlt = q := Option.some.inj (f_qlt.symm.trans hq); obtain rfl : m_wkd = r := Option.some.inj (f_m_wkd.symm.trans hr); rw [n_qlt, n_m_wkd, f_o_wkm]; exact eb_wkd), (fun c q a hc hq ha => by obtain rfl : qc = c := Option.some.inj (f_qc.symm.trans hc); obtain rfl : qp = q := Option.some.inj (f_qp.symm.trans hq); obtain rfl : m_aga = a := Option.some.inj (f_m_aga.symm.trans ha); rw [n_aga, f_x_claimCount]; exact hw_DF_e hDF rfl rfl), (fun q r hq hr => by obtain rfl : qtp = q := Option.some.inj (f_qtp.symm.trans hq); obtain rfl : m_tp = r := Option.some.inj (f_m_tp.symm.trans hr); exact n_qtp.trans n_tp.symm), (fun q w a b c d hq hw ha hb hc hd => by obtain rfl : qa = q := Option.some.inj (f_qa.symm.trans hq); obtain rfl : qwo = w := Option.some.inj (f_qwo.symm.trans hw); obtain rfl : m_ad = a := Option.some.inj (f_m_ad.symm.trans ha); obtain rfl : mr = b := Option.some.inj (f_mr.symm.trans hb); obtain rfl : mn = c := Option.some.inj (f_mn.symm.trans hc); obtain rfl : mp = d := Option.some.inj (f_mp.symm.trans hd); exact ⟨_, by rw [f_x_actCount]; exact hRA9, by rw [f_x_actCount, n_ad, n_mr, n_mn, n_mp]; exact hCA9⟩), hx_ob2 f_qp f_m_dead (by rw [cl_dead, n_dead]; exact eq_dead), hx_ob2 f_qp f_m_isj (by rw [cl_isj, n_isj]; exact eq_isj), hx_ob2 f_qp f_m_dox (by rw [cl_dox, n_dox]; exact eq_dox), hx_ob2 f_qp f_m_doy (by rw [cl_doy, n_doy]; exact eq_doy), hx_ob2 f_qc f_m_fou (by rw [cl_fou, n_m_fou]; exact eq_fou), hx_ob2 f_qc f_mt (by rw [cl_tri, n_mt]; exact eq_tri), trivial⟩, ⟨hx_ob f_qa pf_qa, hx_ob f_qp pf_qp, hx_ob f_qc pf_qc, hx_ob f_qh pf_qh, (fun w q hw hq => by obtain rfl : qw = w := Option.some.inj (f_qw.symm.trans hw); obtain rfl : ql = q := Option.some.inj (f_ql.symm.trans hq); exact pf_ql)⟩, ⟨hx_ob f_mw (by rw [n_mw]; exact hwd), hx_ob f_mr (by rw [n_mr, f_m_acts]; exact hWK), hx_ob2 f_mp f_mn (by rw [n_mp, n_mn, f_m_acts]; exact hRP), hx_ob f_ml (by rw [n_ml, f_m_claims, f_m_acts]; exact hPL), hx_ob f_mh (by rw [n_mh, f_m_heardMany, f_m_claims]; exact hHC), hx_ob f_mt (by rw [n_mt]; exact (hx_TR_le hTR (by omega))), hx_ob2 f_mh f_m_fou (by rw [n_mh, n_m_fou, f_m_claims]; exact hHF)⟩⟩ hl

set_option maxHeartbeats 4000000 in
set_option maxRecDepth 100000 in
theorem law_case_1 {p : Program} {e : Env} {s : State} {m : MethodId} {below : List Frame} {meth : Method} {c : Code} (l : Launch) {b LN : Nat} {xs : Nat → Int32} (hx : p.tables.exec = Jvm.exec) (hb : c.code = code) (hr : meth.sig.returnType = ret) (hlocks : meth.locks = false) (hml : c.maxLocals = 4) (hown : s.vm.findClass "SmallCourtLaw" = some m.cls) (hts : ∀ w ∈ hx_all, w.before #[Value.ref b] s = true) (hX : va_X b LN xs s s.heap) (hbl : b < s.heap.size) (hbA : ¬ s.heap.size ≤ b) (hLN : LN ≤ 3584) (dC : Nat → ClassId) (dI : Nat → Nat → Nat) (dA : Nat → ClassId) (b0 : hx_z) (ax am : Nat) (T1 : Int) (hT0 : 0 ≤ T1) (hT1 : T1 ≤ 511) (i : Int32) (hi0 : 0 ≤ i.toInt) (hiL : i.toInt + 7 ≤ LN) (CC SS : Nat) (hCC : CC + 3 ≤ 600000) (hSS : SS + 179 ≤ 7302250) (L1 : List Nat) (hl1 : hx_h) (H : Heap) (locs : List Loc) (ls : Array Slot) (hW : hx_W T_tb (P_ty dA) (dC, dI) vwCl (fun q : Nat => s.heap.size ≤ q) s.heap L1 hl1 s H locs) (hZ : hx_Xt (fun q : Nat => s.heap.size ≤ q) b0 s) (hI : hx_IV T1 ax am L1 hl1) (hl : lv_has ls 4 [(3, .int i), (2, .ref am), (1, .ref ax), (0, .ref b)]) (kk : ∀ (L2 : List Nat) (h2 : hx_h) (H2 : Heap) (locs2 : List Loc) (ls2 : Array Slot), hx_W T_tb (P_ty dA) (dC, dI) vwCl (fun q : Nat => s.heap.size ≤ q) s.heap L2 h2 s H2 locs2 → hx_IV (T1 + 1) ax am L2 h2 → lv_has ls2 4 [(3, .int i), (2, .ref am), (1, .ref ax), (0, .ref b)] → W p l e room_1 s m #[Value.ref b] below meth c H2 locs2 (CC + 3) (SS + 179) (lw_Z below #[Value.ref b] s) (F0 m 1379 ls2 [])) : W p l e room_1 s m #[Value.ref b] below meth c H locs CC SS (lw_Z below #[Value.ref b] s) (F0 m 195 ls []) := by
  obtain ⟨hT, gx, gm, ⟨he_nw, he_np, he_c0, he_tl, he_a0, ho_ln, ho_lsd, ho_wkm, hn_qp, hn_qc, hk_of, hk_wf, hk_df, hk_kf, hk_sf, hkBD, hLQ, hLE, hkWD, hkDF, hkTP, hkAC, hc_dead, hc_isj, hc_dox, hc_doy, hc_fou, hc_tri, -⟩, ⟨ia, ip, ic, ih, il⟩, ⟨jw, jr, jp, jl, jh, jt, jf⟩⟩ := hI
  obtain ⟨qa, f_qa, g_qa⟩ := hx_rf hT gx tt_9 (k := 5) (u := 43) rfl
  have pf_qa := ia qa f_qa
  obtain ⟨qp, f_qp, g_qp⟩ := hx_rf hT gx tt_9 (k := 7) (u := 44) rfl
  have pf_qp := ip qp f_qp
  obtain ⟨qc, f_qc, g_qc⟩ := hx_rf hT gx tt_9 (k := 10) (u := 45) rfl
  have pf_qc := ic qc f_qc
  obtain ⟨qh, f_qh, g_qh⟩ := hx_rf hT gx tt_9 (k := 12) (u := 46) rfl
  have pf_qh := ih qh f_qh
  obtain ⟨qw, f_qw, g_qw⟩ := hx_rf hT gx tt_9 (k := 19) (u := 8) rfl
  obtain ⟨ql, f_ql, g_ql⟩ := hx_rf hT g_qw tt_8 (k := 3) (u := 40) rfl
  have pf_ql := il qw ql f_qw f_ql
  obtain ⟨nw, f_m_now⟩ : ∃ y : Int32, hl1.2.1 am 0 = y := ⟨_, rfl⟩
  have b_nw := hT.gi gm tt_10 (k := 0) rfl
  rw [f_m_now] at b_nw
  have b_nw : 0 ≤ nw.toInt ∧ nw.toInt ≤ 7999 := b_nw
  obtain ⟨np, f_m_persons⟩ : ∃ y : Int32, hl1.2.1 am 20 = y := ⟨_, rfl⟩
  have b_np := hT.gi gm tt_10 (k := 20) rfl
  rw [f_m_persons] at b_np
  have b_np : 0 ≤ np.toInt ∧ np.toInt ≤ 40 := b_np
  obtain ⟨c0, f_m_claims⟩ : ∃ y : Int32, hl1.2.1 am 36 = y := ⟨_, rfl⟩
  have b_c0 := hT.gi gm tt_10 (k := 36) rfl
  rw [f_m_claims] at b_c0
  have b_c0 : 0 ≤ c0.toInt ∧ c0.toInt ≤ 100 := b_c0
  obtain ⟨tl, f_m_taped⟩ : ∃ y : Int32, hl1.2.1 am 7 = y := ⟨_, rfl⟩
  have b_tl := hT.gi gm tt_10 (k := 7) rfl
  rw [f_m_taped] at b_tl
  have b_tl : 0 ≤ tl.toInt ∧ tl.toInt ≤ 400 := b_tl
  obtain ⟨a0, f_m_acts⟩ : ∃ y : Int32, hl1.2.1 am 1 = y := ⟨_, rfl⟩
  have b_a0 := hT.gi gm tt_10 (k := 1) rfl
  rw [f_m_acts] at b_a0
  have b_a0 : 0 ≤ a0.toInt ∧ a0.toInt ≤ 8 := b_a0
  obtain ⟨ln, f_m_lines⟩ : ∃ y : Int32, hl1.2.1 am 29 = y := ⟨_, rfl⟩
  have b_ln := hT.gi gm tt_10 (k := 29) rfl
  rw [f_m_lines] at b_ln
  have b_ln : 0 ≤ ln.toInt ∧ ln.toInt ≤ 400 := b_ln
  obtain ⟨lsd, f_m_listed⟩ : ∃ y : Int32, hl1.2.1 am 90 = y := ⟨_, rfl⟩
  have b_lsd := hT.gi gm tt_10 (k := 90) rfl
  rw [f_m_listed] at b_lsd
  have b_lsd : 0 ≤ lsd.toInt ∧ lsd.toInt ≤ 8 := b_lsd
  obtain ⟨wkm, f_m_walkedMany⟩ : ∃ y : Int32, hl1.2.1 am 92 = y := ⟨_, rfl⟩
  have b_wkm := hT.gi gm tt_10 (k := 92) rfl
  rw [f_m_walkedMany] at b_wkm
  have b_wkm : 0 ≤ wkm.toInt ∧ wkm.toInt ≤ 8 := b_wkm
  obtain ⟨m0, f_m_heardMany⟩ : ∃ y : Int32, hl1.2.1 am 57 = y := ⟨_, rfl⟩
  have b_m0 := hT.gi gm tt_10 (k := 57) rfl
  rw [f_m_heardMany] at b_m0
  have b_m0 : 0 ≤ m0.toInt ∧ m0.toInt ≤ 100 := b_m0
  have f_x_now : hl1.2.1 ax 2 = nw := he_nw.trans f_m_now
  have f_x_personCount : hl1.2.1 ax 8 = np := he_np.trans f_m_persons
  have f_x_claimCount : hl1.2.1 ax 11 = c0 := he_c0.trans f_m_claims
  have f_x_tapeLength : hl1.2.1 ax 1 = tl := he_tl.trans f_m_taped
  have f_x_actCount : hl1.2.1 ax 6 = a0 := he_a0.trans f_m_acts
  obtain ⟨mw, f_mw, g_mw⟩ := hx_rf hT gm tt_10 (k := 19) (u := 57) rfl
  obtain ⟨F_mw, n_mw⟩ : ∃ g : Nat → Int32, hl1.2.1 mw = g := ⟨_, rfl⟩
  obtain ⟨mr, f_mr, g_mr⟩ := hx_rf hT gm tt_10 (k := 3) (u := 50) rfl
  obtain ⟨F_mr, n_mr⟩ : ∃ g : Nat → Int32, hl1.2.1 mr = g := ⟨_, rfl⟩
  obtain ⟨mp, f_mp, g_mp⟩ := hx_rf hT gm tt_10 (k := 5) (u := 52) rfl
  obtain ⟨F_mp, n_mp⟩ : ∃ g : Nat → Int32, hl1.2.1 mp = g := ⟨_, rfl⟩
  obtain ⟨mn, f_mn, g_mn⟩ := hx_rf hT gm tt_10 (k := 4) (u := 51) rfl
  obtain ⟨F_mn, n_mn⟩ : ∃ g : Nat → Int32, hl1.2.1 mn = g := ⟨_, rfl⟩
  obtain ⟨ml, f_ml, g_ml⟩ := hx_rf hT gm tt_10 (k := 44) (u := 79) rfl
  obtain ⟨F_ml, n_ml⟩ : ∃ g : Nat → Int32, hl1.2.1 ml = g := ⟨_, rfl⟩
  obtain ⟨mh, f_mh, g_mh⟩ := hx_rf hT gm tt_10 (k := 47) (u := 82) rfl
  obtain ⟨F_mh, n_mh⟩ : ∃ g : Nat → Int32, hl1.2.1 mh = g := ⟨_, rfl⟩
  obtain ⟨mt, f_mt, g_mt⟩ := hx_rf hT gm tt_10 (k := 45) (u := 80) rfl
  obtain ⟨F_mt, n_mt⟩ : ∃ g : Nat → Int32, hl1.2.1 mt = g := ⟨_, rfl⟩
  obtain ⟨m_fou, f_m_fou, g_m_fou⟩ := hx_rf hT gm tt_10 (k := 46) (u := 81) rfl
  obtain ⟨F_m_fou, n_m_fou⟩ : ∃ g : Nat → Int32, hl1.2.1 m_fou = g := ⟨_, rfl⟩
  obtain ⟨qo_ln, f_qo_ln, g_qo_ln⟩ := hx_rf hT gx tt_9 (k := 9) (u := 1) rfl
  have f_o_ln : hl1.2.1 qo_ln 0 = ln := (ho_ln qo_ln f_qo_ln).trans f_m_lines
  have f_o_lsd : hl1.2.1 qw 0 = lsd := (ho_lsd qw f_qw).trans f_m_listed
  have f_o_wkm : hl1.2.1 qw 1 = wkm := (ho_wkm qw f_qw).trans f_m_walkedMany
  have nu_qp := hn_qp qp f_qp; rw [f_x_personCount] at nu_qp
  have nu_qc := hn_qc qc f_qc; rw [f_x_claimCount] at nu_qc
  obtain ⟨b_of, f_b_of, g_b_of⟩ := hx_rf hT g_qo_ln tt_1 (k := 1) (u := 13) rfl
  obtain ⟨B_of, n_b_of⟩ : ∃ g : Nat → Int32, hl1.2.1 b_of = g := ⟨_, rfl⟩
  obtain ⟨m_of, f_m_of, g_m_of⟩ := hx_rf hT gm tt_10 (k := 30) (u := 66) rfl
  obtain ⟨F_of, n_m_of⟩ : ∃ g : Nat → Int32, hl1.2.1 m_of = g := ⟨_, rfl⟩
  have eb_of := hk_of qo_ln b_of m_of f_qo_ln f_b_of f_m_of; rw [n_b_of, n_m_of, f_o_ln] at eb_of
  obtain ⟨b_wf, f_b_wf, g_b_wf⟩ := hx_rf hT g_qo_ln tt_1 (k := 2) (u := 14) rfl
  obtain ⟨B_wf, n_b_wf⟩ : ∃ g : Nat → Int32, hl1.2.1 b_wf = g := ⟨_, rfl⟩
  obtain ⟨m_wf, f_m_wf, g_m_wf⟩ := hx_rf hT gm tt_10 (k := 31) (u := 67) rfl
  obtain ⟨F_wf, n_m_wf⟩ : ∃ g : Nat → Int32, hl1.2.1 m_wf = g := ⟨_, rfl⟩
  have eb_wf := hk_wf qo_ln b_wf m_wf f_qo_ln f_b_wf f_m_wf; rw [n_b_wf, n_m_wf, f_o_ln] at eb_wf
  obtain ⟨b_df, f_b_df, g_b_df⟩ := hx_rf hT g_qo_ln tt_1 (k := 3) (u := 15) rfl
  obtain ⟨B_df, n_b_df⟩ : ∃ g : Nat → Int32, hl1.2.1 b_df = g := ⟨_, rfl⟩
  obtain ⟨m_df, f_m_df, g_m_df⟩ := hx_rf hT gm tt_10 (k := 32) (u := 68) rfl
  obtain ⟨F_df, n_m_df⟩ : ∃ g : Nat → Int32, hl1.2.1 m_df = g := ⟨_, rfl⟩
  have eb_df := hk_df qo_ln b_df m_df f_qo_ln f_b_df f_m_df; rw [n_b_df, n_m_df, f_o_ln] at eb_df
  obtain ⟨b_kf, f_b_kf, g_b_kf⟩ := hx_rf hT g_qo_ln tt_1 (k := 4) (u := 16) rfl
  obtain ⟨B_kf, n_b_kf⟩ : ∃ g : Nat → Int32, hl1.2.1 b_kf = g := ⟨_, rfl⟩
  obtain ⟨m_kf, f_m_kf, g_m_kf⟩ := hx_rf hT gm tt_10 (k := 33) (u := 69) rfl
  obtain ⟨F_kf, n_m_kf⟩ : ∃ g : Nat → Int32, hl1.2.1 m_kf = g := ⟨_, rfl⟩
  have eb_kf := hk_kf qo_ln b_kf m_kf f_qo_ln f_b_kf f_m_kf; rw [n_b_kf, n_m_kf, f_o_ln] at eb_kf
  obtain ⟨b_sf, f_b_sf, g_b_sf⟩ := hx_rf hT g_qo_ln tt_1 (k := 5) (u := 17) rfl
  obtain ⟨B_sf, n_b_sf⟩ : ∃ g : Nat → Int32, hl1.2.1 b_sf = g := ⟨_, rfl⟩
  obtain ⟨m_sf, f_m_sf, g_m_sf⟩ := hx_rf hT gm tt_10 (k := 34) (u := 70) rfl
  obtain ⟨F_sf, n_m_sf⟩ : ∃ g : Nat → Int32, hl1.2.1 m_sf = g := ⟨_, rfl⟩
  have eb_sf := hk_sf qo_ln b_sf m_sf f_qo_ln f_b_sf f_m_sf; rw [n_b_sf, n_m_sf, f_o_ln] at eb_sf
  obtain ⟨b_bf, f_b_bf, g_b_bf⟩ := hx_rf hT g_qo_ln tt_1 (k := 6) (u := 18) rfl
  obtain ⟨bfL, n_b_bf⟩ : ∃ g : Nat → Int32, hl1.2.1 b_bf = g := ⟨_, rfl⟩
  obtain ⟨hBD, hDY⟩ := hkBD qo_ln b_df b_bf f_qo_ln f_b_df f_b_bf; rw [n_b_df, n_b_bf, f_o_ln] at hBD; rw [n_b_df, f_o_ln] at hDY
  have hBDm := hy_BD_c eb_df hBD
  have hDYm : hy_DY F_df ln.toInt.toNat := fun x hx => by rw [← eb_df x hx]; exact hDY x hx
  have sb_list := hLQ qw ql qc f_qw f_ql f_qc
  obtain ⟨m_lst, f_m_lst, g_m_lst⟩ := hx_rf hT gm tt_10 (k := 91) (u := 112) rfl
  obtain ⟨F_lst, n_lst⟩ : ∃ g : Nat → Int32, hl1.2.1 m_lst = g := ⟨_, rfl⟩
  obtain ⟨c_lst, cl_lst⟩ : ∃ g : Nat → Int32, hx_col 8 hl1 ql 0 = g := ⟨_, rfl⟩
  have eq_lst := hLE qw ql m_lst f_qw f_ql f_m_lst; rw [cl_lst, n_lst] at eq_lst
  obtain ⟨qtp, f_qtp, g_qtp⟩ := hx_rf hT gx tt_9 (k := 0) (u := 42) rfl
  obtain ⟨m_tp, f_m_tp, g_m_tp⟩ := hx_rf hT gm tt_10 (k := 6) (u := 53) rfl
  obtain ⟨F_tp, n_tp⟩ : ∃ g : Nat → Int32, hl1.2.1 m_tp = g := ⟨_, rfl⟩
  have n_qtp : hl1.2.1 qtp = F_tp := (hkTP qtp m_tp f_qtp f_m_tp).trans n_tp
  obtain ⟨c_dead, cl_dead⟩ : ∃ g : Nat → Int32, hx_col 40 hl1 qp 7 = g := ⟨_, rfl⟩
  obtain ⟨m_dead, f_m_dead, g_m_dead⟩ := hx_rf hT gm tt_10 (k := 27) (u := 64) rfl
  obtain ⟨F_dead, n_dead⟩ : ∃ g : Nat → Int32, hl1.2.1 m_dead = g := ⟨_, rfl⟩
  have eq_dead := hc_dead qp m_dead f_qp f_m_dead; rw [cl_dead, n_dead] at eq_dead
  have z_dead : np.toInt.toNat < 40 → c_dead np.toInt.toNat = 0 := fun hj => hx_num_z nu_qp cl_dead hj (by omega)
  obtain ⟨c_isj, cl_isj⟩ : ∃ g : Nat → Int32, hx_col 40 hl1 qp 8 = g := ⟨_, rfl⟩
  obtain ⟨m_isj, f_m_isj, g_m_isj⟩ := hx_rf hT gm tt_10 (k := 28) (u := 65) rfl
  obtain ⟨F_isj, n_isj⟩ : ∃ g : Nat → Int32, hl1.2.1 m_isj = g := ⟨_, rfl⟩
  have eq_isj := hc_isj qp m_isj f_qp f_m_isj; rw [cl_isj, n_isj] at eq_isj
  have z_isj : np.toInt.toNat < 40 → c_isj np.toInt.toNat = 0 := fun hj => hx_num_z nu_qp cl_isj hj (by omega)
  obtain ⟨c_dox, cl_dox⟩ : ∃ g : Nat → Int32, hx_col 40 hl1 qp 5 = g := ⟨_, rfl⟩
  obtain ⟨m_dox, f_m_dox, g_m_dox⟩ := hx_rf hT gm tt_10 (k := 24) (u := 61) rfl
  obtain ⟨F_dox, n_dox⟩ : ∃ g : Nat → Int32, hl1.2.1 m_dox = g := ⟨_, rfl⟩
  have eq_dox := hc_dox qp m_dox f_qp f_m_dox; rw [cl_dox, n_dox] at eq_dox
  have z_dox : np.toInt.toNat < 40 → c_dox np.toInt.toNat = 0 := fun hj => hx_num_z nu_qp cl_dox hj (by omega)
  obtain ⟨c_doy, cl_doy⟩ : ∃ g : Nat → Int32, hx_col 40 hl1 qp 6 = g := ⟨_, rfl⟩
  obtain ⟨m_doy, f_m_doy, g_m_doy⟩ := hx_rf hT gm tt_10 (k := 25) (u := 62) rfl
  obtain ⟨F_doy, n_doy⟩ : ∃ g : Nat → Int32, hl1.2.1 m_doy = g := ⟨_, rfl⟩
  have eq_doy := hc_doy qp m_doy f_qp f_m_doy; rw [cl_doy, n_doy] at eq_doy
  have z_doy : np.toInt.toNat < 40 → c_doy np.toInt.toNat = 0 := fun hj => hx_num_z nu_qp cl_doy hj (by omega)
  obtain ⟨c_fou, cl_fou⟩ : ∃ g : Nat → Int32, hx_col 100 hl1 qc 10 = g := ⟨_, rfl⟩
  have eq_fou := hc_fou qc m_fou f_qc f_m_fou; rw [cl_fou, n_m_fou] at eq_fou
  have z_fou : c0.toInt.toNat < 100 → c_fou c0.toInt.toNat = 0 := fun hj => hx_num_z nu_qc cl_fou hj (by omega)
  obtain ⟨c_tri, cl_tri⟩ : ∃ g : Nat → Int32, hx_col 100 hl1 qc 9 = g := ⟨_, rfl⟩
  have eq_tri := hc_tri qc mt f_qc f_mt; rw [cl_tri, n_mt] at eq_tri
  have z_tri : c0.toInt.toNat < 100 → c_tri c0.toInt.toNat = 0 := fun hj => hx_num_z nu_qc cl_tri hj (by omega)
  obtain ⟨qlt, f_qlt, g_qlt⟩ := hx_rf hT g_qw tt_8 (k := 2) (u := 39) rfl
  obtain ⟨qlf, f_qlf, g_qlf⟩ := hx_rf hT g_qw tt_8 (k := 4) (u := 41) rfl
  obtain ⟨m_wkd, f_m_wkd, g_m_wkd⟩ := hx_rf hT gm tt_10 (k := 93) (u := 113) rfl
  obtain ⟨F_qlt, n_qlt⟩ : ∃ g : Nat → Int32, hl1.2.1 qlt = g := ⟨_, rfl⟩
  obtain ⟨F_m_wkd, n_m_wkd⟩ : ∃ g : Nat → Int32, hl1.2.1 m_wkd = g := ⟨_, rfl⟩
  have eb_wkd := hkWD qw qlt m_wkd f_qw f_qlt f_m_wkd; rw [n_qlt, n_m_wkd, f_o_wkm] at eb_wkd
  obtain ⟨m_aga, f_m_aga, g_m_aga⟩ := hx_rf hT gm tt_10 (k := 38) (u := 73) rfl
  obtain ⟨F_aga, n_aga⟩ : ∃ g : Nat → Int32, hl1.2.1 m_aga = g := ⟨_, rfl⟩
  have hDF := hkDF qc qp m_aga f_qc f_qp f_m_aga; rw [n_aga, f_x_claimCount] at hDF
  obtain ⟨qwo, f_qwo, g_qwo⟩ := hx_rf hT gx tt_9 (k := 4) (u := 0) rfl
  obtain ⟨m_ad, f_m_ad, g_m_ad⟩ := hx_rf hT gm tt_10 (k := 2) (u := 49) rfl
  obtain ⟨F_ad, n_ad⟩ : ∃ g : Nat → Int32, hl1.2.1 m_ad = g := ⟨_, rfl⟩
  obtain ⟨A9, hRA9, hCA9⟩ := hkAC qa qwo m_ad mr mn mp f_qa f_qwo f_m_ad f_mr f_mn f_mp
  rw [f_x_actCount] at hRA9; rw [f_x_actCount, n_ad, n_mr, n_mn, n_mp] at hCA9
  have hwd := jw mw f_mw; rw [n_mw] at hwd
  have hWK := jr mr f_mr; rw [n_mr, f_m_acts] at hWK
  have hRP := jp mp mn f_mp f_mn; rw [n_mp, n_mn, f_m_acts] at hRP
  have hPL := jl ml f_ml; rw [n_ml, f_m_claims, f_m_acts] at hPL
  have hHC := jh mh f_mh; rw [n_mh, f_m_heardMany, f_m_claims] at hHC
  have hTR := jt mt f_mt; rw [n_mt] at hTR
  have hHF := jf mh m_fou f_mh f_m_fou; rw [n_mh, n_m_fou, f_m_claims] at hHF
  refine lv_aload_n hx hb dL_law_195 rfl (lv_at hl 2 rfl) ?_
  refine lv_aload_n hx hb dL_law_196 rfl (lv_at hl 3 rfl) ?_
  refine lv_iload_n hx hb dL_law_197 rfl (lv_at hl 0 rfl) ?_
  refine lv_iconst (v := 1) hx hb dL_law_198 (by decide) ?_
  refine lv_iadd hx hb dL_law_199 ?_
  have rg_18 := i32_r i
  refine lv_topi (fun x_19 ex_19 => ?_)
  have zx_19 : x_19.toInt = i.toInt + 1 := by rw [ex_19]; exact i32_add rfl (by decide) (by omega) (by omega)
  refine va_sld hx hb hX hbl hbA hW.2.2.2.1 (vp_in_iff.mpr ⟨by omega, by omega⟩) dL_law_200 ?_
  refine lv_topi (fun x_20 ex_20 => ?_)
  refine lv_aload_n hx hb dL_law_201 rfl (lv_at hl 3 rfl) ?_
  refine lv_iload_n hx hb dL_law_202 rfl (lv_at hl 0 rfl) ?_
  refine lv_iconst (v := 2) hx hb dL_law_203 (by decide) ?_
  refine lv_iadd hx hb dL_law_204 ?_
  refine lv_topi (fun x_21 ex_21 => ?_)
  have zx_21 : x_21.toInt = i.toInt + 2 := by rw [ex_21]; exact i32_add rfl (by decide) (by omega) (by omega)
  refine va_sld hx hb hX hbl hbA hW.2.2.2.1 (vp_in_iff.mpr ⟨by omega, by omega⟩) dL_law_205 ?_
  refine lv_topi (fun x_22 ex_22 => ?_)
  refine lv_aload_n hx hb dL_law_206 rfl (lv_at hl 3 rfl) ?_
  refine lv_iload_n hx hb dL_law_207 rfl (lv_at hl 0 rfl) ?_
  refine lv_iconst (v := 3) hx hb dL_law_208 (by decide) ?_
  refine lv_iadd hx hb dL_law_209 ?_
  refine lv_topi (fun x_23 ex_23 => ?_)
  have zx_23 : x_23.toInt = i.toInt + 3 := by rw [ex_23]; exact i32_add rfl (by decide) (by omega) (by omega)
  refine va_sld hx hb hX hbl hbA hW.2.2.2.1 (vp_in_iff.mpr ⟨by omega, by omega⟩) dL_law_210 ?_
  refine lv_topi (fun x_24 ex_24 => ?_)
  refine lv_aload_n hx hb dL_law_211 rfl (lv_at hl 3 rfl) ?_
  refine lv_iload_n hx hb dL_law_212 rfl (lv_at hl 0 rfl) ?_
  refine lv_iconst (v := 4) hx hb dL_law_213 (by decide) ?_
  refine lv_iadd hx hb dL_law_214 ?_
  refine lv_topi (fun x_25 ex_25 => ?_)
  have zx_25 : x_25.toInt = i.toInt + 4 := by rw [ex_25]; exact i32_add rfl (by decide) (by omega) (by omega)
  refine va_sld hx hb hX hbl hbA hW.2.2.2.1 (vp_in_iff.mpr ⟨by omega, by omega⟩) dL_law_215 ?_
  refine lv_topi (fun x_26 ex_26 => ?_)
  refine lv_aload_n hx hb dL_law_216 rfl (lv_at hl 3 rfl) ?_
  refine lv_iload_n hx hb dL_law_217 rfl (lv_at hl 0 rfl) ?_
  refine lv_iconst (v := 5) hx hb dL_law_218 (by decide) ?_
  refine lv_iadd hx hb dL_law_219 ?_
  refine lv_topi (fun x_27 ex_27 => ?_)
  have zx_27 : x_27.toInt = i.toInt + 5 := by rw [ex_27]; exact i32_add rfl (by decide) (by omega) (by omega)
  refine va_sld hx hb hX hbl hbA hW.2.2.2.1 (vp_in_iff.mpr ⟨by omega, by omega⟩) dL_law_220 ?_
  refine lv_topi (fun x_28 ex_28 => ?_)
  have hTo := hT
  refine hx_goi (hx_runV (As := [.int x_20, .int x_22, .int x_24, .int x_26, .int x_28]) (rest := []) ⟨hx, hb, hml, hown, hts⟩ hW gx tt_9 (T := TX9) (N := 20) rfl (t_X9_feed_v l dC dI dA L1 hl1 H.size ax x_20 x_22 x_24 x_26 x_28 hT gx qtp g_qtp f_qtp F_tp n_qtp tl f_x_tapeLength) (cwV 5 hts (hx_gV kw_438 kw_435 kw_436 kw_437 kw_94) rfl rfl rfl (by decide +kernel) ⟨Nat.le_of_ble_eq_true rfl, Nat.le_of_ble_eq_true rfl⟩) rfl hl.1 rfl (Nat.le_of_ble_eq_true rfl) dL_law_221 ⟨(show CC + 0 ≤ 600000 from by omega), (show SS + 0 ≤ 7302250 from by omega)⟩) hW (fun r_31 L_29 h_30 H locs p_32 hW => ?_)
  obtain ⟨⟨w_34, w_35, fw_34, fw_35, hr_33⟩, hT, hs⟩ := p_32
  replace hT : hx_T T_tb L_29 h_30 := hT
  replace hs : hx_S T_tb [(9, 1), (42, 0)] L1 hl1 L_29 h_30 := hs
  replace f_qa := (hs.o gx trivial rfl).2.trans f_qa
  replace f_qp := (hs.o gx trivial rfl).2.trans f_qp
  replace f_qc := (hs.o gx trivial rfl).2.trans f_qc
  replace f_qh := (hs.o gx trivial rfl).2.trans f_qh
  replace f_qw := (hs.o gx trivial rfl).2.trans f_qw
  replace f_ql := (hs.o g_qw trivial rfl).2.trans f_ql
  replace f_m_now := (hs.o gm trivial rfl).1.trans f_m_now
  replace f_m_persons := (hs.o gm trivial rfl).1.trans f_m_persons
  replace f_m_claims := (hs.o gm trivial rfl).1.trans f_m_claims
  replace f_m_taped := (hs.o gm trivial rfl).1.trans f_m_taped
  replace f_m_acts := (hs.o gm trivial rfl).1.trans f_m_acts
  replace f_m_lines := (hs.o gm trivial rfl).1.trans f_m_lines
  replace f_m_listed := (hs.o gm trivial rfl).1.trans f_m_listed
  replace f_m_walkedMany := (hs.o gm trivial rfl).1.trans f_m_walkedMany
  replace f_m_heardMany := (hs.o gm trivial rfl).1.trans f_m_heardMany
  replace f_x_now := (hs.o gx trivial rfl).1.trans f_x_now
  replace f_x_personCount := (hs.o gx trivial rfl).1.trans f_x_personCount
  replace f_x_claimCount := (hs.o gx trivial rfl).1.trans f_x_claimCount
  replace f_x_actCount := (hs.o gx trivial rfl).1.trans f_x_actCount
  replace f_mw := (hs.o gm trivial rfl).2.trans f_mw
  replace f_mr := (hs.o gm trivial rfl).2.trans f_mr
  replace f_mp := (hs.o gm trivial rfl).2.trans f_mp
  replace f_mn := (hs.o gm trivial rfl).2.trans f_mn
  replace f_ml := (hs.o gm trivial rfl).2.trans f_ml
  replace f_mh := (hs.o gm trivial rfl).2.trans f_mh
  replace f_mt := (hs.o gm trivial rfl).2.trans f_mt
  replace f_m_fou := (hs.o gm trivial rfl).2.trans f_m_fou
  replace f_qo_ln := (hs.o gx trivial rfl).2.trans f_qo_ln
  replace f_o_ln := (hs.o g_qo_ln trivial rfl).1.trans f_o_ln
  replace f_o_lsd := (hs.o g_qw trivial rfl).1.trans f_o_lsd
  replace f_o_wkm := (hs.o g_qw trivial rfl).1.trans f_o_wkm
  replace f_b_of := (hs.o g_qo_ln trivial rfl).2.trans f_b_of
  replace f_m_of := (hs.o gm trivial rfl).2.trans f_m_of
  replace f_b_wf := (hs.o g_qo_ln trivial rfl).2.trans f_b_wf
  replace f_m_wf := (hs.o gm trivial rfl).2.trans f_m_wf
  replace f_b_df := (hs.o g_qo_ln trivial rfl).2.trans f_b_df
  replace f_m_df := (hs.o gm trivial rfl).2.trans f_m_df
  replace f_b_kf := (hs.o g_qo_ln trivial rfl).2.trans f_b_kf
  replace f_m_kf := (hs.o gm trivial rfl).2.trans f_m_kf
  replace f_b_sf := (hs.o g_qo_ln trivial rfl).2.trans f_b_sf
  replace f_m_sf := (hs.o gm trivial rfl).2.trans f_m_sf
  replace f_b_bf := (hs.o g_qo_ln trivial rfl).2.trans f_b_bf
  replace f_m_lst := (hs.o gm trivial rfl).2.trans f_m_lst
  replace f_qtp := (hs.o gx trivial rfl).2.trans f_qtp
  replace f_m_tp := (hs.o gm trivial rfl).2.trans f_m_tp
  replace f_m_dead := (hs.o gm trivial rfl).2.trans f_m_dead
  replace f_m_isj := (hs.o gm trivial rfl).2.trans f_m_isj
  replace f_m_dox := (hs.o gm trivial rfl).2.trans f_m_dox
  replace f_m_doy := (hs.o gm trivial rfl).2.trans f_m_doy
  replace f_qlt := (hs.o g_qw trivial rfl).2.trans f_qlt
  replace f_qlf := (hs.o g_qw trivial rfl).2.trans f_qlf
  replace f_m_wkd := (hs.o gm trivial rfl).2.trans f_m_wkd
  replace f_m_aga := (hs.o gm trivial rfl).2.trans f_m_aga
  replace f_qwo := (hs.o gx trivial rfl).2.trans f_qwo
  replace f_m_ad := (hs.o gm trivial rfl).2.trans f_m_ad
  replace pf_qa : ∀ j : Nat, (j : Int) < (h_30.2.1 ax 6).toInt → h_30.2.2 qa j ≠ none := by
    intro j hj; rw [(hs.o gx trivial rfl).1] at hj; rw [(hs.a g_qa rfl j).2]; exact pf_qa j hj
  replace pf_qp : ∀ j : Nat, (j : Int) < (h_30.2.1 ax 8).toInt → h_30.2.2 qp j ≠ none := by
    intro j hj; rw [(hs.o gx trivial rfl).1] at hj; rw [(hs.a g_qp rfl j).2]; exact pf_qp j hj
  replace pf_qc : ∀ j : Nat, (j : Int) < (h_30.2.1 ax 11).toInt → h_30.2.2 qc j ≠ none := by
    intro j hj; rw [(hs.o gx trivial rfl).1] at hj; rw [(hs.a g_qc rfl j).2]; exact pf_qc j hj
  replace pf_qh : ∀ j : Nat, (j : Int) < (h_30.2.1 ax 13).toInt → h_30.2.2 qh j ≠ none := by
    intro j hj; rw [(hs.o gx trivial rfl).1] at hj; rw [(hs.a g_qh rfl j).2]; exact pf_qh j hj
  replace pf_ql : ∀ j : Nat, (j : Int) < (h_30.2.1 qw 0).toInt → h_30.2.2 ql j ≠ none := by
    intro j hj; rw [(hs.o g_qw trivial rfl).1] at hj; rw [(hs.a g_ql rfl j).2]; exact pf_ql j hj
  replace cl_lst : hx_col 8 h_30 ql 0 = c_lst := (hx_col_S hs hTo g_ql tt_40 tt_2 rfl rfl).trans cl_lst
  replace cl_dead : hx_col 40 h_30 qp 7 = c_dead := (hx_col_S hs hTo g_qp tt_44 tt_4 rfl rfl).trans cl_dead
  replace cl_isj : hx_col 40 h_30 qp 8 = c_isj := (hx_col_S hs hTo g_qp tt_44 tt_4 rfl rfl).trans cl_isj
  replace cl_dox : hx_col 40 h_30 qp 5 = c_dox := (hx_col_S hs hTo g_qp tt_44 tt_4 rfl rfl).trans cl_dox
  replace cl_doy : hx_col 40 h_30 qp 6 = c_doy := (hx_col_S hs hTo g_qp tt_44 tt_4 rfl rfl).trans cl_doy
  replace cl_fou : hx_col 100 h_30 qc 10 = c_fou := (hx_col_S hs hTo g_qc tt_45 tt_2 rfl rfl).trans cl_fou
  replace cl_tri : hx_col 100 h_30 qc 9 = c_tri := (hx_col_S hs hTo g_qc tt_45 tt_2 rfl rfl).trans cl_tri
  replace nu_qp : hx_num 40 h_30 qp 0 (np.toInt) := hx_num_S hs hTo g_qp tt_44 tt_4 rfl rfl nu_qp
  replace nu_qc : hx_num 100 h_30 qc 0 (c0.toInt) := hx_num_S hs hTo g_qc tt_45 tt_2 rfl rfl nu_qc
  replace sb_list : hx_LQ 8 100 h_30 ql qc := hx_LQ_S hs g_ql g_qc rfl rfl sb_list
  replace hDF : hw_DF h_30 qc qp 2 F_aga c0.toInt := hw_DF_S hs hTo g_qc g_qp tt_45 tt_2 rfl rfl rfl hDF
  replace hRA9 : hv_RA h_30 qa qwo a0.toInt A9 := hv_RA_S hs hTo g_qa g_qwo tt_43 tt_0 rfl rfl rfl rfl rfl rfl (by omega) hRA9
  replace n_mw : h_30.2.1 mw = F_mw := (funext fun j => (hs.a g_mw rfl j).1).trans n_mw
  replace n_mr : h_30.2.1 mr = F_mr := (funext fun j => (hs.a g_mr rfl j).1).trans n_mr
  replace n_mp : h_30.2.1 mp = F_mp := (funext fun j => (hs.a g_mp rfl j).1).trans n_mp
  replace n_mn : h_30.2.1 mn = F_mn := (funext fun j => (hs.a g_mn rfl j).1).trans n_mn
  replace n_ml : h_30.2.1 ml = F_ml := (funext fun j => (hs.a g_ml rfl j).1).trans n_ml
  replace n_mh : h_30.2.1 mh = F_mh := (funext fun j => (hs.a g_mh rfl j).1).trans n_mh
  replace n_mt : h_30.2.1 mt = F_mt := (funext fun j => (hs.a g_mt rfl j).1).trans n_mt
  replace n_m_fou : h_30.2.1 m_fou = F_m_fou := (funext fun j => (hs.a g_m_fou rfl j).1).trans n_m_fou
  replace n_b_of : h_30.2.1 b_of = B_of := (funext fun j => (hs.a g_b_of rfl j).1).trans n_b_of
  replace n_m_of : h_30.2.1 m_of = F_of := (funext fun j => (hs.a g_m_of rfl j).1).trans n_m_of
  replace n_b_wf : h_30.2.1 b_wf = B_wf := (funext fun j => (hs.a g_b_wf rfl j).1).trans n_b_wf
  replace n_m_wf : h_30.2.1 m_wf = F_wf := (funext fun j => (hs.a g_m_wf rfl j).1).trans n_m_wf
  replace n_b_df : h_30.2.1 b_df = B_df := (funext fun j => (hs.a g_b_df rfl j).1).trans n_b_df
  replace n_m_df : h_30.2.1 m_df = F_df := (funext fun j => (hs.a g_m_df rfl j).1).trans n_m_df
  replace n_b_kf : h_30.2.1 b_kf = B_kf := (funext fun j => (hs.a g_b_kf rfl j).1).trans n_b_kf
  replace n_m_kf : h_30.2.1 m_kf = F_kf := (funext fun j => (hs.a g_m_kf rfl j).1).trans n_m_kf
  replace n_b_sf : h_30.2.1 b_sf = B_sf := (funext fun j => (hs.a g_b_sf rfl j).1).trans n_b_sf
  replace n_m_sf : h_30.2.1 m_sf = F_sf := (funext fun j => (hs.a g_m_sf rfl j).1).trans n_m_sf
  replace n_b_bf : h_30.2.1 b_bf = bfL := (funext fun j => (hs.a g_b_bf rfl j).1).trans n_b_bf
  replace n_lst : h_30.2.1 m_lst = F_lst := (funext fun j => (hs.a g_m_lst rfl j).1).trans n_lst
  replace n_tp : h_30.2.1 m_tp = F_tp := (funext fun j => (hs.a g_m_tp rfl j).1).trans n_tp
  replace n_dead : h_30.2.1 m_dead = F_dead := (funext fun j => (hs.a g_m_dead rfl j).1).trans n_dead
  replace n_isj : h_30.2.1 m_isj = F_isj := (funext fun j => (hs.a g_m_isj rfl j).1).trans n_isj
  replace n_dox : h_30.2.1 m_dox = F_dox := (funext fun j => (hs.a g_m_dox rfl j).1).trans n_dox
  replace n_doy : h_30.2.1 m_doy = F_doy := (funext fun j => (hs.a g_m_doy rfl j).1).trans n_doy
  replace n_qlt : h_30.2.1 qlt = F_qlt := (funext fun j => (hs.a g_qlt rfl j).1).trans n_qlt
  replace n_m_wkd : h_30.2.1 m_wkd = F_m_wkd := (funext fun j => (hs.a g_m_wkd rfl j).1).trans n_m_wkd
  replace n_aga : h_30.2.1 m_aga = F_aga := (funext fun j => (hs.a g_m_aga rfl j).1).trans n_aga
  replace n_ad : h_30.2.1 m_ad = F_ad := (funext fun j => (hs.a g_m_ad rfl j).1).trans n_ad
  replace gx := gx.S hs
  replace gm := gm.S hs
  replace g_qa := g_qa.S hs
  replace g_qp := g_qp.S hs
  replace g_qc := g_qc.S hs
  replace g_qh := g_qh.S hs
  replace g_qw := g_qw.S hs
  replace g_ql := g_ql.S hs
  replace g_mw := g_mw.S hs
  replace g_mr := g_mr.S hs
  replace g_mp := g_mp.S hs
  replace g_mn := g_mn.S hs
  replace g_ml := g_ml.S hs
  replace g_mh := g_mh.S hs
  replace g_mt := g_mt.S hs
  replace g_m_fou := g_m_fou.S hs
  replace g_qo_ln := g_qo_ln.S hs
  replace g_b_of := g_b_of.S hs
  replace g_m_of := g_m_of.S hs
  replace g_b_wf := g_b_wf.S hs
  replace g_m_wf := g_m_wf.S hs
  replace g_b_df := g_b_df.S hs
  replace g_m_df := g_m_df.S hs
  replace g_b_kf := g_b_kf.S hs
  replace g_m_kf := g_m_kf.S hs
  replace g_b_sf := g_b_sf.S hs
  replace g_m_sf := g_m_sf.S hs
  replace g_b_bf := g_b_bf.S hs
  replace g_m_lst := g_m_lst.S hs
  replace g_qtp := g_qtp.S hs
  replace g_m_tp := g_m_tp.S hs
  replace g_m_dead := g_m_dead.S hs
  replace g_m_isj := g_m_isj.S hs
  replace g_m_dox := g_m_dox.S hs
  replace g_m_doy := g_m_doy.S hs
  replace g_qlt := g_qlt.S hs
  replace g_qlf := g_qlf.S hs
  replace g_m_wkd := g_m_wkd.S hs
  replace g_m_aga := g_m_aga.S hs
  replace g_qwo := g_qwo.S hs
  replace g_m_ad := g_m_ad.S hs
  have fw_34 : h_30.2.1 ax 1 = w_34 := fw_34
  have bw_34 := hT.gi gx tt_9 (k := 1) rfl
  rw [fw_34] at bw_34
  have bw_34 : 0 ≤ w_34.toInt ∧ w_34.toInt ≤ 400 := bw_34
  have fw_35 : h_30.2.1 qtp = w_35 := fw_35
  refine lv_pop hx hb dL_law_224 rfl ?_
  refine lv_aload_n hx hb dL_law_225 rfl (lv_at hl 1 rfl) ?_
  refine lv_aload_n hx hb dL_law_226 rfl (lv_at hl 3 rfl) ?_
  refine lv_iload_n hx hb dL_law_227 rfl (lv_at hl 0 rfl) ?_
  refine lv_iconst (v := 1) hx hb dL_law_228 (by decide) ?_
  refine lv_iadd hx hb dL_law_229 ?_
  refine lv_topi (fun x_36 ex_36 => ?_)
  have zx_36 : x_36.toInt = i.toInt + 1 := by rw [ex_36]; exact i32_add rfl (by decide) (by omega) (by omega)
  obtain rfl : x_19 = x_36 := ex_19.trans ex_36.symm
  refine va_sld hx hb hX hbl hbA hW.2.2.2.1 (vp_in_iff.mpr ⟨by omega, by omega⟩) dL_law_230 ?_
  refine lv_topi (fun x_37 ex_37 => ?_)
  obtain rfl : x_20 = x_37 := ex_20.trans ex_37.symm
  refine lv_aload_n hx hb dL_law_231 rfl (lv_at hl 3 rfl) ?_
  refine lv_iload_n hx hb dL_law_232 rfl (lv_at hl 0 rfl) ?_
  refine lv_iconst (v := 2) hx hb dL_law_233 (by decide) ?_
  refine lv_iadd hx hb dL_law_234 ?_
  refine lv_topi (fun x_38 ex_38 => ?_)
  have zx_38 : x_38.toInt = i.toInt + 2 := by rw [ex_38]; exact i32_add rfl (by decide) (by omega) (by omega)
  obtain rfl : x_21 = x_38 := ex_21.trans ex_38.symm
  refine va_sld hx hb hX hbl hbA hW.2.2.2.1 (vp_in_iff.mpr ⟨by omega, by omega⟩) dL_law_235 ?_
  refine lv_topi (fun x_39 ex_39 => ?_)
  obtain rfl : x_22 = x_39 := ex_22.trans ex_39.symm
  refine lv_aload_n hx hb dL_law_236 rfl (lv_at hl 3 rfl) ?_
  refine lv_iload_n hx hb dL_law_237 rfl (lv_at hl 0 rfl) ?_
  refine lv_iconst (v := 3) hx hb dL_law_238 (by decide) ?_
  refine lv_iadd hx hb dL_law_239 ?_
  refine lv_topi (fun x_40 ex_40 => ?_)
  have zx_40 : x_40.toInt = i.toInt + 3 := by rw [ex_40]; exact i32_add rfl (by decide) (by omega) (by omega)
  obtain rfl : x_23 = x_40 := ex_23.trans ex_40.symm
  refine va_sld hx hb hX hbl hbA hW.2.2.2.1 (vp_in_iff.mpr ⟨by omega, by omega⟩) dL_law_240 ?_
  refine lv_topi (fun x_41 ex_41 => ?_)
  obtain rfl : x_24 = x_41 := ex_24.trans ex_41.symm
  refine lv_aload_n hx hb dL_law_241 rfl (lv_at hl 3 rfl) ?_
  refine lv_iload_n hx hb dL_law_242 rfl (lv_at hl 0 rfl) ?_
  refine lv_iconst (v := 4) hx hb dL_law_243 (by decide) ?_
  refine lv_iadd hx hb dL_law_244 ?_
  refine lv_topi (fun x_42 ex_42 => ?_)
  have zx_42 : x_42.toInt = i.toInt + 4 := by rw [ex_42]; exact i32_add rfl (by decide) (by omega) (by omega)
  obtain rfl : x_25 = x_42 := ex_25.trans ex_42.symm
  refine va_sld hx hb hX hbl hbA hW.2.2.2.1 (vp_in_iff.mpr ⟨by omega, by omega⟩) dL_law_245 ?_
  refine lv_topi (fun x_43 ex_43 => ?_)
  obtain rfl : x_26 = x_43 := ex_26.trans ex_43.symm
  refine lv_aload_n hx hb dL_law_246 rfl (lv_at hl 3 rfl) ?_
  refine lv_iload_n hx hb dL_law_247 rfl (lv_at hl 0 rfl) ?_
  refine lv_iconst (v := 5) hx hb dL_law_248 (by decide) ?_
  refine lv_iadd hx hb dL_law_249 ?_
  refine lv_topi (fun x_44 ex_44 => ?_)
  have zx_44 : x_44.toInt = i.toInt + 5 := by rw [ex_44]; exact i32_add rfl (by decide) (by omega) (by omega)
  obtain rfl : x_27 = x_44 := ex_27.trans ex_44.symm
  refine va_sld hx hb hX hbl hbA hW.2.2.2.1 (vp_in_iff.mpr ⟨by omega, by omega⟩) dL_law_250 ?_
  refine lv_topi (fun x_45 ex_45 => ?_)
  obtain rfl : x_28 = x_45 := ex_28.trans ex_45.symm
  have hTo := hT
  refine hx_goi (hx_runV (As := [.int x_20, .int x_22, .int x_24, .int x_26, .int x_28]) (rest := []) ⟨hx, hb, hml, hown, hts⟩ hW gm tt_10 (T := TX10) (N := 98) rfl (t_X10_feed_v l dC dI dA L_29 h_30 H.size am x_20 x_22 x_24 x_26 x_28 hT gm m_tp g_m_tp f_m_tp F_tp n_tp tl f_m_taped) (cwV 5 hts (hx_gV kw_1449 kw_1446 kw_1447 kw_1448 kw_103) rfl rfl rfl (by decide +kernel) ⟨Nat.le_of_ble_eq_true rfl, Nat.le_of_ble_eq_true rfl⟩) rfl hl.1 rfl (Nat.le_of_ble_eq_true rfl) dL_law_251 ⟨(show CC + 0 + 0 ≤ 600000 from by omega), (show SS + 0 + 0 ≤ 7302250 from by omega)⟩) hW (fun r_48 L_46 h_47 H locs p_49 hW => ?_)
  obtain ⟨⟨w_51, w_52, fw_51, fw_52, hr_50⟩, hT, hs⟩ := p_49
  replace hT : hx_T T_tb L_46 h_47 := hT
  replace hs : hx_S T_tb [(10, 7), (53, 0)] L_29 h_30 L_46 h_47 := hs
  replace f_qa := (hs.o gx trivial rfl).2.trans f_qa
  replace f_qp := (hs.o gx trivial rfl).2.trans f_qp
  replace f_qc := (hs.o gx trivial rfl).2.trans f_qc
  replace f_qh := (hs.o gx trivial rfl).2.trans f_qh
  replace f_qw := (hs.o gx trivial rfl).2.trans f_qw
  replace f_ql := (hs.o g_qw trivial rfl).2.trans f_ql
  replace f_m_now := (hs.o gm trivial rfl).1.trans f_m_now
  replace f_m_persons := (hs.o gm trivial rfl).1.trans f_m_persons
  replace f_m_claims := (hs.o gm trivial rfl).1.trans f_m_claims
  replace f_m_acts := (hs.o gm trivial rfl).1.trans f_m_acts
  replace f_m_lines := (hs.o gm trivial rfl).1.trans f_m_lines
  replace f_m_listed := (hs.o gm trivial rfl).1.trans f_m_listed
  replace f_m_walkedMany := (hs.o gm trivial rfl).1.trans f_m_walkedMany
  replace f_m_heardMany := (hs.o gm trivial rfl).1.trans f_m_heardMany
  replace f_x_now := (hs.o gx trivial rfl).1.trans f_x_now
  replace f_x_personCount := (hs.o gx trivial rfl).1.trans f_x_personCount
  replace f_x_claimCount := (hs.o gx trivial rfl).1.trans f_x_claimCount
  replace f_x_actCount := (hs.o gx trivial rfl).1.trans f_x_actCount
  replace f_mw := (hs.o gm trivial rfl).2.trans f_mw
  replace f_mr := (hs.o gm trivial rfl).2.trans f_mr
  replace f_mp := (hs.o gm trivial rfl).2.trans f_mp
  replace f_mn := (hs.o gm trivial rfl).2.trans f_mn
  replace f_ml := (hs.o gm trivial rfl).2.trans f_ml
  replace f_mh := (hs.o gm trivial rfl).2.trans f_mh
  replace f_mt := (hs.o gm trivial rfl).2.trans f_mt
  replace f_m_fou := (hs.o gm trivial rfl).2.trans f_m_fou
  replace f_qo_ln := (hs.o gx trivial rfl).2.trans f_qo_ln
  replace f_o_ln := (hs.o g_qo_ln trivial rfl).1.trans f_o_ln
  replace f_o_lsd := (hs.o g_qw trivial rfl).1.trans f_o_lsd
  replace f_o_wkm := (hs.o g_qw trivial rfl).1.trans f_o_wkm
  replace f_b_of := (hs.o g_qo_ln trivial rfl).2.trans f_b_of
  replace f_m_of := (hs.o gm trivial rfl).2.trans f_m_of
  replace f_b_wf := (hs.o g_qo_ln trivial rfl).2.trans f_b_wf
  replace f_m_wf := (hs.o gm trivial rfl).2.trans f_m_wf
  replace f_b_df := (hs.o g_qo_ln trivial rfl).2.trans f_b_df
  replace f_m_df := (hs.o gm trivial rfl).2.trans f_m_df
  replace f_b_kf := (hs.o g_qo_ln trivial rfl).2.trans f_b_kf
  replace f_m_kf := (hs.o gm trivial rfl).2.trans f_m_kf
  replace f_b_sf := (hs.o g_qo_ln trivial rfl).2.trans f_b_sf
  replace f_m_sf := (hs.o gm trivial rfl).2.trans f_m_sf
  replace f_b_bf := (hs.o g_qo_ln trivial rfl).2.trans f_b_bf
  replace f_m_lst := (hs.o gm trivial rfl).2.trans f_m_lst
  replace f_qtp := (hs.o gx trivial rfl).2.trans f_qtp
  replace f_m_tp := (hs.o gm trivial rfl).2.trans f_m_tp
  replace f_m_dead := (hs.o gm trivial rfl).2.trans f_m_dead
  replace f_m_isj := (hs.o gm trivial rfl).2.trans f_m_isj
  replace f_m_dox := (hs.o gm trivial rfl).2.trans f_m_dox
  replace f_m_doy := (hs.o gm trivial rfl).2.trans f_m_doy
  replace f_qlt := (hs.o g_qw trivial rfl).2.trans f_qlt
  replace f_qlf := (hs.o g_qw trivial rfl).2.trans f_qlf
  replace f_m_wkd := (hs.o gm trivial rfl).2.trans f_m_wkd
  replace f_m_aga := (hs.o gm trivial rfl).2.trans f_m_aga
  replace f_qwo := (hs.o gx trivial rfl).2.trans f_qwo
  replace f_m_ad := (hs.o gm trivial rfl).2.trans f_m_ad
  replace fw_34 := (hs.o gx trivial rfl).1.trans fw_34
  replace pf_qa : ∀ j : Nat, (j : Int) < (h_47.2.1 ax 6).toInt → h_47.2.2 qa j ≠ none := by
    intro j hj; rw [(hs.o gx trivial rfl).1] at hj; rw [(hs.a g_qa rfl j).2]; exact pf_qa j hj
  replace pf_qp : ∀ j : Nat, (j : Int) < (h_47.2.1 ax 8).toInt → h_47.2.2 qp j ≠ none := by
    intro j hj; rw [(hs.o gx trivial rfl).1] at hj; rw [(hs.a g_qp rfl j).2]; exact pf_qp j hj
  replace pf_qc : ∀ j : Nat, (j : Int) < (h_47.2.1 ax 11).toInt → h_47.2.2 qc j ≠ none := by
    intro j hj; rw [(hs.o gx trivial rfl).1] at hj; rw [(hs.a g_qc rfl j).2]; exact pf_qc j hj
  replace pf_qh : ∀ j : Nat, (j : Int) < (h_47.2.1 ax 13).toInt → h_47.2.2 qh j ≠ none := by
    intro j hj; rw [(hs.o gx trivial rfl).1] at hj; rw [(hs.a g_qh rfl j).2]; exact pf_qh j hj
  replace pf_ql : ∀ j : Nat, (j : Int) < (h_47.2.1 qw 0).toInt → h_47.2.2 ql j ≠ none := by
    intro j hj; rw [(hs.o g_qw trivial rfl).1] at hj; rw [(hs.a g_ql rfl j).2]; exact pf_ql j hj
  replace cl_lst : hx_col 8 h_47 ql 0 = c_lst := (hx_col_S hs hTo g_ql tt_40 tt_2 rfl rfl).trans cl_lst
  replace cl_dead : hx_col 40 h_47 qp 7 = c_dead := (hx_col_S hs hTo g_qp tt_44 tt_4 rfl rfl).trans cl_dead
  replace cl_isj : hx_col 40 h_47 qp 8 = c_isj := (hx_col_S hs hTo g_qp tt_44 tt_4 rfl rfl).trans cl_isj
  replace cl_dox : hx_col 40 h_47 qp 5 = c_dox := (hx_col_S hs hTo g_qp tt_44 tt_4 rfl rfl).trans cl_dox
  replace cl_doy : hx_col 40 h_47 qp 6 = c_doy := (hx_col_S hs hTo g_qp tt_44 tt_4 rfl rfl).trans cl_doy
  replace cl_fou : hx_col 100 h_47 qc 10 = c_fou := (hx_col_S hs hTo g_qc tt_45 tt_2 rfl rfl).trans cl_fou
  replace cl_tri : hx_col 100 h_47 qc 9 = c_tri := (hx_col_S hs hTo g_qc tt_45 tt_2 rfl rfl).trans cl_tri
  replace nu_qp : hx_num 40 h_47 qp 0 (np.toInt) := hx_num_S hs hTo g_qp tt_44 tt_4 rfl rfl nu_qp
  replace nu_qc : hx_num 100 h_47 qc 0 (c0.toInt) := hx_num_S hs hTo g_qc tt_45 tt_2 rfl rfl nu_qc
  replace sb_list : hx_LQ 8 100 h_47 ql qc := hx_LQ_S hs g_ql g_qc rfl rfl sb_list
  replace hDF : hw_DF h_47 qc qp 2 F_aga c0.toInt := hw_DF_S hs hTo g_qc g_qp tt_45 tt_2 rfl rfl rfl hDF
  replace hRA9 : hv_RA h_47 qa qwo a0.toInt A9 := hv_RA_S hs hTo g_qa g_qwo tt_43 tt_0 rfl rfl rfl rfl rfl rfl (by omega) hRA9
  replace n_mw : h_47.2.1 mw = F_mw := (funext fun j => (hs.a g_mw rfl j).1).trans n_mw
  replace n_mr : h_47.2.1 mr = F_mr := (funext fun j => (hs.a g_mr rfl j).1).trans n_mr
  replace n_mp : h_47.2.1 mp = F_mp := (funext fun j => (hs.a g_mp rfl j).1).trans n_mp
  replace n_mn : h_47.2.1 mn = F_mn := (funext fun j => (hs.a g_mn rfl j).1).trans n_mn
  replace n_ml : h_47.2.1 ml = F_ml := (funext fun j => (hs.a g_ml rfl j).1).trans n_ml
  replace n_mh : h_47.2.1 mh = F_mh := (funext fun j => (hs.a g_mh rfl j).1).trans n_mh
  replace n_mt : h_47.2.1 mt = F_mt := (funext fun j => (hs.a g_mt rfl j).1).trans n_mt
  replace n_m_fou : h_47.2.1 m_fou = F_m_fou := (funext fun j => (hs.a g_m_fou rfl j).1).trans n_m_fou
  replace n_b_of : h_47.2.1 b_of = B_of := (funext fun j => (hs.a g_b_of rfl j).1).trans n_b_of
  replace n_m_of : h_47.2.1 m_of = F_of := (funext fun j => (hs.a g_m_of rfl j).1).trans n_m_of
  replace n_b_wf : h_47.2.1 b_wf = B_wf := (funext fun j => (hs.a g_b_wf rfl j).1).trans n_b_wf
  replace n_m_wf : h_47.2.1 m_wf = F_wf := (funext fun j => (hs.a g_m_wf rfl j).1).trans n_m_wf
  replace n_b_df : h_47.2.1 b_df = B_df := (funext fun j => (hs.a g_b_df rfl j).1).trans n_b_df
  replace n_m_df : h_47.2.1 m_df = F_df := (funext fun j => (hs.a g_m_df rfl j).1).trans n_m_df
  replace n_b_kf : h_47.2.1 b_kf = B_kf := (funext fun j => (hs.a g_b_kf rfl j).1).trans n_b_kf
  replace n_m_kf : h_47.2.1 m_kf = F_kf := (funext fun j => (hs.a g_m_kf rfl j).1).trans n_m_kf
  replace n_b_sf : h_47.2.1 b_sf = B_sf := (funext fun j => (hs.a g_b_sf rfl j).1).trans n_b_sf
  replace n_m_sf : h_47.2.1 m_sf = F_sf := (funext fun j => (hs.a g_m_sf rfl j).1).trans n_m_sf
  replace n_b_bf : h_47.2.1 b_bf = bfL := (funext fun j => (hs.a g_b_bf rfl j).1).trans n_b_bf
  replace n_lst : h_47.2.1 m_lst = F_lst := (funext fun j => (hs.a g_m_lst rfl j).1).trans n_lst
  replace n_dead : h_47.2.1 m_dead = F_dead := (funext fun j => (hs.a g_m_dead rfl j).1).trans n_dead
  replace n_isj : h_47.2.1 m_isj = F_isj := (funext fun j => (hs.a g_m_isj rfl j).1).trans n_isj
  replace n_dox : h_47.2.1 m_dox = F_dox := (funext fun j => (hs.a g_m_dox rfl j).1).trans n_dox
  replace n_doy : h_47.2.1 m_doy = F_doy := (funext fun j => (hs.a g_m_doy rfl j).1).trans n_doy
  replace n_qlt : h_47.2.1 qlt = F_qlt := (funext fun j => (hs.a g_qlt rfl j).1).trans n_qlt
  replace n_m_wkd : h_47.2.1 m_wkd = F_m_wkd := (funext fun j => (hs.a g_m_wkd rfl j).1).trans n_m_wkd
  replace n_aga : h_47.2.1 m_aga = F_aga := (funext fun j => (hs.a g_m_aga rfl j).1).trans n_aga
  replace n_ad : h_47.2.1 m_ad = F_ad := (funext fun j => (hs.a g_m_ad rfl j).1).trans n_ad
  replace fw_35 : h_47.2.1 qtp = w_35 := (funext fun j => (hs.a g_qtp rfl j).1).trans fw_35
  replace gx := gx.S hs
  replace gm := gm.S hs
  replace g_qa := g_qa.S hs
  replace g_qp := g_qp.S hs
  replace g_qc := g_qc.S hs
  replace g_qh := g_qh.S hs
  replace g_qw := g_qw.S hs
  replace g_ql := g_ql.S hs
  replace g_mw := g_mw.S hs
  replace g_mr := g_mr.S hs
  replace g_mp := g_mp.S hs
  replace g_mn := g_mn.S hs
  replace g_ml := g_ml.S hs
  replace g_mh := g_mh.S hs
  replace g_mt := g_mt.S hs
  replace g_m_fou := g_m_fou.S hs
  replace g_qo_ln := g_qo_ln.S hs
  replace g_b_of := g_b_of.S hs
  replace g_m_of := g_m_of.S hs
  replace g_b_wf := g_b_wf.S hs
  replace g_m_wf := g_m_wf.S hs
  replace g_b_df := g_b_df.S hs
  replace g_m_df := g_m_df.S hs
  replace g_b_kf := g_b_kf.S hs
  replace g_m_kf := g_m_kf.S hs
  replace g_b_sf := g_b_sf.S hs
  replace g_m_sf := g_m_sf.S hs
  replace g_b_bf := g_b_bf.S hs
  replace g_m_lst := g_m_lst.S hs
  replace g_qtp := g_qtp.S hs
  replace g_m_tp := g_m_tp.S hs
  replace g_m_dead := g_m_dead.S hs
  replace g_m_isj := g_m_isj.S hs
  replace g_m_dox := g_m_dox.S hs
  replace g_m_doy := g_m_doy.S hs
  replace g_qlt := g_qlt.S hs
  replace g_qlf := g_qlf.S hs
  replace g_m_wkd := g_m_wkd.S hs
  replace g_m_aga := g_m_aga.S hs
  replace g_qwo := g_qwo.S hs
  replace g_m_ad := g_m_ad.S hs
  have fw_51 : h_47.2.1 am 7 = w_51 := fw_51
  have bw_51 := hT.gi gm tt_10 (k := 7) rfl
  rw [fw_51] at bw_51
  have bw_51 : 0 ≤ w_51.toInt ∧ w_51.toInt ≤ 400 := bw_51
  have fw_52 : h_47.2.1 m_tp = w_52 := fw_52
  refine lv_pop hx hb dL_law_254 rfl ?_
  refine lv_goto (tgt := 1379) hx hb dL_law_255 (by decide) ?_
  obtain ⟨heqr, hq_tl, hq_tp⟩ := hv_FE_eq hr_33 hr_50; have heq := congrArg Int32.toInt heqr
  refine W.widen (k := CC + 3) (n := SS + 179) (by omega) (by omega) ?_
  exact kk L_46 h_47 H locs ls hW ⟨hT, gx, gm, ⟨f_x_now.trans f_m_now.symm, f_x_personCount.trans f_m_persons.symm, f_x_claimCount.trans f_m_claims.symm, (fw_34.trans hq_tl).trans fw_51.symm, f_x_actCount.trans f_m_acts.symm, hx_ob f_qo_ln (f_o_ln.trans f_m_lines.symm), hx_ob f_qw (f_o_lsd.trans f_m_listed.symm), hx_ob f_qw (f_o_wkm.trans f_m_walkedMany.symm), hx_ob f_qp (by rw [f_x_personCount]; exact nu_qp), hx_ob f_qc (by rw [f_x_claimCount]; exact nu_qc), (fun b a r hb ha hr => by obtain rfl : qo_ln = b := Option.some.inj (f_qo_ln.symm.trans hb); obtain rfl : b_of = a := Option.some.inj (f_b_of.symm.trans ha); obtain rfl : m_of = r := Option.some.inj (f_m_of.symm.trans hr); rw [n_b_of, n_m_of, f_o_ln]; exact eb_of), (fun b a r hb ha hr => by obtain rfl : qo_ln = b := Option.some.inj (f_qo_ln.symm.trans hb); obtain rfl : b_wf = a := Option.some.inj (f_b_wf.symm.trans ha); obtain rfl : m_wf = r := Option.some.inj (f_m_wf.symm.trans hr); rw [n_b_wf, n_m_wf, f_o_ln]; exact eb_wf), (fun b a r hb ha hr => by obtain rfl : qo_ln = b := Option.some.inj (f_qo_ln.symm.trans hb); obtain rfl : b_df = a := Option.some.inj (f_b_df.symm.trans ha); obtain rfl : m_df = r := Option.some.inj (f_m_df.symm.trans hr); rw [n_b_df, n_m_df, f_o_ln]; exact eb_df), (fun b a r hb ha hr => by obtain rfl : qo_ln = b := Option.some.inj (f_qo_ln.symm.trans hb); obtain rfl : b_kf = a := Option.some.inj (f_b_kf.symm.trans ha); obtain rfl : m_kf = r := Option.some.inj (f_m_kf.symm.trans hr); rw [n_b_kf, n_m_kf, f_o_ln]; exact eb_kf), (fun b a r hb ha hr => by obtain rfl : qo_ln = b := Option.some.inj (f_qo_ln.symm.trans hb); obtain rfl : b_sf = a := Option.some.inj (f_b_sf.symm.trans ha); obtain rfl : m_sf = r := Option.some.inj (f_m_sf.symm.trans hr); rw [n_b_sf, n_m_sf, f_o_ln]; exact eb_sf), (fun b a r hb ha hr => by obtain rfl : qo_ln = b := Option.some.inj (f_qo_ln.symm.trans hb); obtain rfl : b_df = a := Option.some.inj (f_b_df.symm.trans ha); obtain rfl : b_bf = r := Option.some.inj (f_b_bf.symm.trans hr); rw [n_b_df, n_b_bf, f_o_ln]; exact ⟨hBD, hDY⟩), (fun w q c hw hq hc => by obtain rfl : qw = w := Option.some.inj (f_qw.symm.trans hw); obtain rfl : ql = q := Option.some.inj (f_ql.symm.trans hq); obtain rfl : qc = c := Option.some.inj (f_qc.symm.trans hc); exact sb_list), (fun w q r hw hq hr => by obtain rfl : qw = w := Option.some.inj (f_qw.symm.trans hw); obtain rfl : ql = q := Option.some.inj (f_ql.symm.trans hq); obtain rfl : m_lst = r := Option.some.inj (f_m_lst.symm.trans hr); rw [cl_lst, n_lst]; exact eq_lst), (fun w q r hw hq hr => by obtain rfl : qw = w := Option.some.inj (f_qw.symm.trans hw); obtain rfl : qlt = q := Option.some.inj (f_qlt.symm.trans hq); obtain rfl : m_wkd = r := Option.some.inj (f_m_wkd.symm.trans hr); rw [n_qlt, n_m_wkd, f_o_wkm]; exact eb_wkd), (fun c q a hc hq ha => by obtain rfl : qc = c := Option.some.inj (f_qc.symm.trans hc); obtain rfl : qp = q := Option.some.inj (f_qp.symm.trans hq); obtain rfl : m_aga = a := Option.some.inj (f_m_aga.symm.trans ha); rw [n_aga, f_x_claimCount]; exact hw_DF_e hDF rfl rfl), (fun q r hq hr => by obtain rfl : qtp = q := Option.some.inj (f_qtp.symm.trans hq); obtain rfl : m_tp = r := Option.some.inj (f_m_tp.symm.trans hr); exact (fw_35.trans hq_tp).trans fw_52.symm), (fun q w a b c d hq hw ha hb hc hd => by obtain rfl : qa = q := Option.some.inj (f_qa.symm.trans hq); obtain rfl : qwo = w := Option.some.inj (f_qwo.symm.trans hw); obtain rfl : m_ad = a := Option.some.inj (f_m_ad.symm.trans ha); obtain rfl : mr = b := Option.some.inj (f_mr.symm.trans hb); obtain rfl : mn = c := Option.some.inj (f_mn.symm.trans hc); obtain rfl : mp = d := Option.some.inj (f_mp.symm.trans hd); exact ⟨_, by rw [f_x_actCount]; exact hRA9, by rw [f_x_actCount, n_ad, n_mr, n_mn, n_mp]; exact hCA9⟩), hx_ob2 f_qp f_m_dead (by rw [cl_dead, n_dead]; exact eq_dead), hx_ob2 f_qp f_m_isj (by rw [cl_isj, n_isj]; exact eq_isj), hx_ob2 f_qp f_m_dox (by rw [cl_dox, n_dox]; exact eq_dox), hx_ob2 f_qp f_m_doy (by rw [cl_doy, n_doy]; exact eq_doy), hx_ob2 f_qc f_m_fou (by rw [cl_fou, n_m_fou]; exact eq_fou), hx_ob2 f_qc f_mt (by rw [cl_tri, n_mt]; exact eq_tri), trivial⟩, ⟨hx_ob f_qa pf_qa, hx_ob f_qp pf_qp, hx_ob f_qc pf_qc, hx_ob f_qh pf_qh, (fun w q hw hq => by obtain rfl : qw = w := Option.some.inj (f_qw.symm.trans hw); obtain rfl : ql = q := Option.some.inj (f_ql.symm.trans hq); exact pf_ql)⟩, ⟨hx_ob f_mw (by rw [n_mw]; exact hwd), hx_ob f_mr (by rw [n_mr, f_m_acts]; exact hWK), hx_ob2 f_mp f_mn (by rw [n_mp, n_mn, f_m_acts]; exact hRP), hx_ob f_ml (by rw [n_ml, f_m_claims, f_m_acts]; exact hPL), hx_ob f_mh (by rw [n_mh, f_m_heardMany, f_m_claims]; exact hHC), hx_ob f_mt (by rw [n_mt]; exact (hx_TR_le hTR (by omega))), hx_ob2 f_mh f_m_fou (by rw [n_mh, n_m_fou, f_m_claims]; exact hHF)⟩⟩ hl

set_option maxHeartbeats 4000000 in
set_option maxRecDepth 100000 in
theorem law_case_2 {p : Program} {e : Env} {s : State} {m : MethodId} {below : List Frame} {meth : Method} {c : Code} (l : Launch) {b LN : Nat} {xs : Nat → Int32} (hx : p.tables.exec = Jvm.exec) (hb : c.code = code) (hr : meth.sig.returnType = ret) (hlocks : meth.locks = false) (hml : c.maxLocals = 4) (hown : s.vm.findClass "SmallCourtLaw" = some m.cls) (hts : ∀ w ∈ hx_all, w.before #[Value.ref b] s = true) (hX : va_X b LN xs s s.heap) (hbl : b < s.heap.size) (hbA : ¬ s.heap.size ≤ b) (hLN : LN ≤ 3584) (dC : Nat → ClassId) (dI : Nat → Nat → Nat) (dA : Nat → ClassId) (b0 : hx_z) (ax am : Nat) (T1 : Int) (hT0 : 0 ≤ T1) (hT1 : T1 ≤ 511) (i : Int32) (hi0 : 0 ≤ i.toInt) (hiL : i.toInt + 7 ≤ LN) (CC SS : Nat) (hCC : CC + 3 ≤ 600000) (hSS : SS + 179 ≤ 7302250) (L1 : List Nat) (hl1 : hx_h) (H : Heap) (locs : List Loc) (ls : Array Slot) (hW : hx_W T_tb (P_ty dA) (dC, dI) vwCl (fun q : Nat => s.heap.size ≤ q) s.heap L1 hl1 s H locs) (hZ : hx_Xt (fun q : Nat => s.heap.size ≤ q) b0 s) (hI : hx_IV T1 ax am L1 hl1) (hl : lv_has ls 4 [(3, .int i), (2, .ref am), (1, .ref ax), (0, .ref b)]) (kk : ∀ (L2 : List Nat) (h2 : hx_h) (H2 : Heap) (locs2 : List Loc) (ls2 : Array Slot), hx_W T_tb (P_ty dA) (dC, dI) vwCl (fun q : Nat => s.heap.size ≤ q) s.heap L2 h2 s H2 locs2 → hx_IV (T1 + 1) ax am L2 h2 → lv_has ls2 4 [(3, .int i), (2, .ref am), (1, .ref ax), (0, .ref b)] → W p l e room_1 s m #[Value.ref b] below meth c H2 locs2 (CC + 3) (SS + 179) (lw_Z below #[Value.ref b] s) (F0 m 1379 ls2 [])) : W p l e room_1 s m #[Value.ref b] below meth c H locs CC SS (lw_Z below #[Value.ref b] s) (F0 m 258 ls []) := by
  obtain ⟨hT, gx, gm, ⟨he_nw, he_np, he_c0, he_tl, he_a0, ho_ln, ho_lsd, ho_wkm, hn_qp, hn_qc, hk_of, hk_wf, hk_df, hk_kf, hk_sf, hkBD, hLQ, hLE, hkWD, hkDF, hkTP, hkAC, hc_dead, hc_isj, hc_dox, hc_doy, hc_fou, hc_tri, -⟩, ⟨ia, ip, ic, ih, il⟩, ⟨jw, jr, jp, jl, jh, jt, jf⟩⟩ := hI
  obtain ⟨qa, f_qa, g_qa⟩ := hx_rf hT gx tt_9 (k := 5) (u := 43) rfl
  have pf_qa := ia qa f_qa
  obtain ⟨qp, f_qp, g_qp⟩ := hx_rf hT gx tt_9 (k := 7) (u := 44) rfl
  have pf_qp := ip qp f_qp
  obtain ⟨qc, f_qc, g_qc⟩ := hx_rf hT gx tt_9 (k := 10) (u := 45) rfl
  have pf_qc := ic qc f_qc
  obtain ⟨qh, f_qh, g_qh⟩ := hx_rf hT gx tt_9 (k := 12) (u := 46) rfl
  have pf_qh := ih qh f_qh
  obtain ⟨qw, f_qw, g_qw⟩ := hx_rf hT gx tt_9 (k := 19) (u := 8) rfl
  obtain ⟨ql, f_ql, g_ql⟩ := hx_rf hT g_qw tt_8 (k := 3) (u := 40) rfl
  have pf_ql := il qw ql f_qw f_ql
  obtain ⟨nw, f_m_now⟩ : ∃ y : Int32, hl1.2.1 am 0 = y := ⟨_, rfl⟩
  have b_nw := hT.gi gm tt_10 (k := 0) rfl
  rw [f_m_now] at b_nw
  have b_nw : 0 ≤ nw.toInt ∧ nw.toInt ≤ 7999 := b_nw
  obtain ⟨np, f_m_persons⟩ : ∃ y : Int32, hl1.2.1 am 20 = y := ⟨_, rfl⟩
  have b_np := hT.gi gm tt_10 (k := 20) rfl
  rw [f_m_persons] at b_np
  have b_np : 0 ≤ np.toInt ∧ np.toInt ≤ 40 := b_np
  obtain ⟨c0, f_m_claims⟩ : ∃ y : Int32, hl1.2.1 am 36 = y := ⟨_, rfl⟩
  have b_c0 := hT.gi gm tt_10 (k := 36) rfl
  rw [f_m_claims] at b_c0
  have b_c0 : 0 ≤ c0.toInt ∧ c0.toInt ≤ 100 := b_c0
  obtain ⟨tl, f_m_taped⟩ : ∃ y : Int32, hl1.2.1 am 7 = y := ⟨_, rfl⟩
  have b_tl := hT.gi gm tt_10 (k := 7) rfl
  rw [f_m_taped] at b_tl
  have b_tl : 0 ≤ tl.toInt ∧ tl.toInt ≤ 400 := b_tl
  obtain ⟨a0, f_m_acts⟩ : ∃ y : Int32, hl1.2.1 am 1 = y := ⟨_, rfl⟩
  have b_a0 := hT.gi gm tt_10 (k := 1) rfl
  rw [f_m_acts] at b_a0
  have b_a0 : 0 ≤ a0.toInt ∧ a0.toInt ≤ 8 := b_a0
  obtain ⟨ln, f_m_lines⟩ : ∃ y : Int32, hl1.2.1 am 29 = y := ⟨_, rfl⟩
  have b_ln := hT.gi gm tt_10 (k := 29) rfl
  rw [f_m_lines] at b_ln
  have b_ln : 0 ≤ ln.toInt ∧ ln.toInt ≤ 400 := b_ln
  obtain ⟨lsd, f_m_listed⟩ : ∃ y : Int32, hl1.2.1 am 90 = y := ⟨_, rfl⟩
  have b_lsd := hT.gi gm tt_10 (k := 90) rfl
  rw [f_m_listed] at b_lsd
  have b_lsd : 0 ≤ lsd.toInt ∧ lsd.toInt ≤ 8 := b_lsd
  obtain ⟨wkm, f_m_walkedMany⟩ : ∃ y : Int32, hl1.2.1 am 92 = y := ⟨_, rfl⟩
  have b_wkm := hT.gi gm tt_10 (k := 92) rfl
  rw [f_m_walkedMany] at b_wkm
  have b_wkm : 0 ≤ wkm.toInt ∧ wkm.toInt ≤ 8 := b_wkm
  obtain ⟨m0, f_m_heardMany⟩ : ∃ y : Int32, hl1.2.1 am 57 = y := ⟨_, rfl⟩
  have b_m0 := hT.gi gm tt_10 (k := 57) rfl
  rw [f_m_heardMany] at b_m0
  have b_m0 : 0 ≤ m0.toInt ∧ m0.toInt ≤ 100 := b_m0
  have f_x_now : hl1.2.1 ax 2 = nw := he_nw.trans f_m_now
  have f_x_personCount : hl1.2.1 ax 8 = np := he_np.trans f_m_persons
  have f_x_claimCount : hl1.2.1 ax 11 = c0 := he_c0.trans f_m_claims
  have f_x_tapeLength : hl1.2.1 ax 1 = tl := he_tl.trans f_m_taped
  have f_x_actCount : hl1.2.1 ax 6 = a0 := he_a0.trans f_m_acts
  obtain ⟨mw, f_mw, g_mw⟩ := hx_rf hT gm tt_10 (k := 19) (u := 57) rfl
  obtain ⟨F_mw, n_mw⟩ : ∃ g : Nat → Int32, hl1.2.1 mw = g := ⟨_, rfl⟩
  obtain ⟨mr, f_mr, g_mr⟩ := hx_rf hT gm tt_10 (k := 3) (u := 50) rfl
  obtain ⟨F_mr, n_mr⟩ : ∃ g : Nat → Int32, hl1.2.1 mr = g := ⟨_, rfl⟩
  obtain ⟨mp, f_mp, g_mp⟩ := hx_rf hT gm tt_10 (k := 5) (u := 52) rfl
  obtain ⟨F_mp, n_mp⟩ : ∃ g : Nat → Int32, hl1.2.1 mp = g := ⟨_, rfl⟩
  obtain ⟨mn, f_mn, g_mn⟩ := hx_rf hT gm tt_10 (k := 4) (u := 51) rfl
  obtain ⟨F_mn, n_mn⟩ : ∃ g : Nat → Int32, hl1.2.1 mn = g := ⟨_, rfl⟩
  obtain ⟨ml, f_ml, g_ml⟩ := hx_rf hT gm tt_10 (k := 44) (u := 79) rfl
  obtain ⟨F_ml, n_ml⟩ : ∃ g : Nat → Int32, hl1.2.1 ml = g := ⟨_, rfl⟩
  obtain ⟨mh, f_mh, g_mh⟩ := hx_rf hT gm tt_10 (k := 47) (u := 82) rfl
  obtain ⟨F_mh, n_mh⟩ : ∃ g : Nat → Int32, hl1.2.1 mh = g := ⟨_, rfl⟩
  obtain ⟨mt, f_mt, g_mt⟩ := hx_rf hT gm tt_10 (k := 45) (u := 80) rfl
  obtain ⟨F_mt, n_mt⟩ : ∃ g : Nat → Int32, hl1.2.1 mt = g := ⟨_, rfl⟩
  obtain ⟨m_fou, f_m_fou, g_m_fou⟩ := hx_rf hT gm tt_10 (k := 46) (u := 81) rfl
  obtain ⟨F_m_fou, n_m_fou⟩ : ∃ g : Nat → Int32, hl1.2.1 m_fou = g := ⟨_, rfl⟩
  obtain ⟨qo_ln, f_qo_ln, g_qo_ln⟩ := hx_rf hT gx tt_9 (k := 9) (u := 1) rfl
  have f_o_ln : hl1.2.1 qo_ln 0 = ln := (ho_ln qo_ln f_qo_ln).trans f_m_lines
  have f_o_lsd : hl1.2.1 qw 0 = lsd := (ho_lsd qw f_qw).trans f_m_listed
  have f_o_wkm : hl1.2.1 qw 1 = wkm := (ho_wkm qw f_qw).trans f_m_walkedMany
  have nu_qp := hn_qp qp f_qp; rw [f_x_personCount] at nu_qp
  have nu_qc := hn_qc qc f_qc; rw [f_x_claimCount] at nu_qc
  obtain ⟨b_of, f_b_of, g_b_of⟩ := hx_rf hT g_qo_ln tt_1 (k := 1) (u := 13) rfl
  obtain ⟨B_of, n_b_of⟩ : ∃ g : Nat → Int32, hl1.2.1 b_of = g := ⟨_, rfl⟩
  obtain ⟨m_of, f_m_of, g_m_of⟩ := hx_rf hT gm tt_10 (k := 30) (u := 66) rfl
  obtain ⟨F_of, n_m_of⟩ : ∃ g : Nat → Int32, hl1.2.1 m_of = g := ⟨_, rfl⟩
  have eb_of := hk_of qo_ln b_of m_of f_qo_ln f_b_of f_m_of; rw [n_b_of, n_m_of, f_o_ln] at eb_of
  obtain ⟨b_wf, f_b_wf, g_b_wf⟩ := hx_rf hT g_qo_ln tt_1 (k := 2) (u := 14) rfl
  obtain ⟨B_wf, n_b_wf⟩ : ∃ g : Nat → Int32, hl1.2.1 b_wf = g := ⟨_, rfl⟩
  obtain ⟨m_wf, f_m_wf, g_m_wf⟩ := hx_rf hT gm tt_10 (k := 31) (u := 67) rfl
  obtain ⟨F_wf, n_m_wf⟩ : ∃ g : Nat → Int32, hl1.2.1 m_wf = g := ⟨_, rfl⟩
  have eb_wf := hk_wf qo_ln b_wf m_wf f_qo_ln f_b_wf f_m_wf; rw [n_b_wf, n_m_wf, f_o_ln] at eb_wf
  obtain ⟨b_df, f_b_df, g_b_df⟩ := hx_rf hT g_qo_ln tt_1 (k := 3) (u := 15) rfl
  obtain ⟨B_df, n_b_df⟩ : ∃ g : Nat → Int32, hl1.2.1 b_df = g := ⟨_, rfl⟩
  obtain ⟨m_df, f_m_df, g_m_df⟩ := hx_rf hT gm tt_10 (k := 32) (u := 68) rfl
  obtain ⟨F_df, n_m_df⟩ : ∃ g : Nat → Int32, hl1.2.1 m_df = g := ⟨_, rfl⟩
  have eb_df := hk_df qo_ln b_df m_df f_qo_ln f_b_df f_m_df; rw [n_b_df, n_m_df, f_o_ln] at eb_df
  obtain ⟨b_kf, f_b_kf, g_b_kf⟩ := hx_rf hT g_qo_ln tt_1 (k := 4) (u := 16) rfl
  obtain ⟨B_kf, n_b_kf⟩ : ∃ g : Nat → Int32, hl1.2.1 b_kf = g := ⟨_, rfl⟩
  obtain ⟨m_kf, f_m_kf, g_m_kf⟩ := hx_rf hT gm tt_10 (k := 33) (u := 69) rfl
  obtain ⟨F_kf, n_m_kf⟩ : ∃ g : Nat → Int32, hl1.2.1 m_kf = g := ⟨_, rfl⟩
  have eb_kf := hk_kf qo_ln b_kf m_kf f_qo_ln f_b_kf f_m_kf; rw [n_b_kf, n_m_kf, f_o_ln] at eb_kf
  obtain ⟨b_sf, f_b_sf, g_b_sf⟩ := hx_rf hT g_qo_ln tt_1 (k := 5) (u := 17) rfl
  obtain ⟨B_sf, n_b_sf⟩ : ∃ g : Nat → Int32, hl1.2.1 b_sf = g := ⟨_, rfl⟩
  obtain ⟨m_sf, f_m_sf, g_m_sf⟩ := hx_rf hT gm tt_10 (k := 34) (u := 70) rfl
  obtain ⟨F_sf, n_m_sf⟩ : ∃ g : Nat → Int32, hl1.2.1 m_sf = g := ⟨_, rfl⟩
  have eb_sf := hk_sf qo_ln b_sf m_sf f_qo_ln f_b_sf f_m_sf; rw [n_b_sf, n_m_sf, f_o_ln] at eb_sf
  obtain ⟨b_bf, f_b_bf, g_b_bf⟩ := hx_rf hT g_qo_ln tt_1 (k := 6) (u := 18) rfl
  obtain ⟨bfL, n_b_bf⟩ : ∃ g : Nat → Int32, hl1.2.1 b_bf = g := ⟨_, rfl⟩
  obtain ⟨hBD, hDY⟩ := hkBD qo_ln b_df b_bf f_qo_ln f_b_df f_b_bf; rw [n_b_df, n_b_bf, f_o_ln] at hBD; rw [n_b_df, f_o_ln] at hDY
  have hBDm := hy_BD_c eb_df hBD
  have hDYm : hy_DY F_df ln.toInt.toNat := fun x hx => by rw [← eb_df x hx]; exact hDY x hx
  have sb_list := hLQ qw ql qc f_qw f_ql f_qc
  obtain ⟨m_lst, f_m_lst, g_m_lst⟩ := hx_rf hT gm tt_10 (k := 91) (u := 112) rfl
  obtain ⟨F_lst, n_lst⟩ : ∃ g : Nat → Int32, hl1.2.1 m_lst = g := ⟨_, rfl⟩
  obtain ⟨c_lst, cl_lst⟩ : ∃ g : Nat → Int32, hx_col 8 hl1 ql 0 = g := ⟨_, rfl⟩
  have eq_lst := hLE qw ql m_lst f_qw f_ql f_m_lst; rw [cl_lst, n_lst] at eq_lst
  obtain ⟨qtp, f_qtp, g_qtp⟩ := hx_rf hT gx tt_9 (k := 0) (u := 42) rfl
  obtain ⟨m_tp, f_m_tp, g_m_tp⟩ := hx_rf hT gm tt_10 (k := 6) (u := 53) rfl
  obtain ⟨F_tp, n_tp⟩ : ∃ g : Nat → Int32, hl1.2.1 m_tp = g := ⟨_, rfl⟩
  have n_qtp : hl1.2.1 qtp = F_tp := (hkTP qtp m_tp f_qtp f_m_tp).trans n_tp
  obtain ⟨c_dead, cl_dead⟩ : ∃ g : Nat → Int32, hx_col 40 hl1 qp 7 = g := ⟨_, rfl⟩
  obtain ⟨m_dead, f_m_dead, g_m_dead⟩ := hx_rf hT gm tt_10 (k := 27) (u := 64) rfl
  obtain ⟨F_dead, n_dead⟩ : ∃ g : Nat → Int32, hl1.2.1 m_dead = g := ⟨_, rfl⟩
  have eq_dead := hc_dead qp m_dead f_qp f_m_dead; rw [cl_dead, n_dead] at eq_dead
  have z_dead : np.toInt.toNat < 40 → c_dead np.toInt.toNat = 0 := fun hj => hx_num_z nu_qp cl_dead hj (by omega)
  obtain ⟨c_isj, cl_isj⟩ : ∃ g : Nat → Int32, hx_col 40 hl1 qp 8 = g := ⟨_, rfl⟩
  obtain ⟨m_isj, f_m_isj, g_m_isj⟩ := hx_rf hT gm tt_10 (k := 28) (u := 65) rfl
  obtain ⟨F_isj, n_isj⟩ : ∃ g : Nat → Int32, hl1.2.1 m_isj = g := ⟨_, rfl⟩
  have eq_isj := hc_isj qp m_isj f_qp f_m_isj; rw [cl_isj, n_isj] at eq_isj
  have z_isj : np.toInt.toNat < 40 → c_isj np.toInt.toNat = 0 := fun hj => hx_num_z nu_qp cl_isj hj (by omega)
  obtain ⟨c_dox, cl_dox⟩ : ∃ g : Nat → Int32, hx_col 40 hl1 qp 5 = g := ⟨_, rfl⟩
  obtain ⟨m_dox, f_m_dox, g_m_dox⟩ := hx_rf hT gm tt_10 (k := 24) (u := 61) rfl
  obtain ⟨F_dox, n_dox⟩ : ∃ g : Nat → Int32, hl1.2.1 m_dox = g := ⟨_, rfl⟩
  have eq_dox := hc_dox qp m_dox f_qp f_m_dox; rw [cl_dox, n_dox] at eq_dox
  have z_dox : np.toInt.toNat < 40 → c_dox np.toInt.toNat = 0 := fun hj => hx_num_z nu_qp cl_dox hj (by omega)
  obtain ⟨c_doy, cl_doy⟩ : ∃ g : Nat → Int32, hx_col 40 hl1 qp 6 = g := ⟨_, rfl⟩
  obtain ⟨m_doy, f_m_doy, g_m_doy⟩ := hx_rf hT gm tt_10 (k := 25) (u := 62) rfl
  obtain ⟨F_doy, n_doy⟩ : ∃ g : Nat → Int32, hl1.2.1 m_doy = g := ⟨_, rfl⟩
  have eq_doy := hc_doy qp m_doy f_qp f_m_doy; rw [cl_doy, n_doy] at eq_doy
  have z_doy : np.toInt.toNat < 40 → c_doy np.toInt.toNat = 0 := fun hj => hx_num_z nu_qp cl_doy hj (by omega)
  obtain ⟨c_fou, cl_fou⟩ : ∃ g : Nat → Int32, hx_col 100 hl1 qc 10 = g := ⟨_, rfl⟩
  have eq_fou := hc_fou qc m_fou f_qc f_m_fou; rw [cl_fou, n_m_fou] at eq_fou
  have z_fou : c0.toInt.toNat < 100 → c_fou c0.toInt.toNat = 0 := fun hj => hx_num_z nu_qc cl_fou hj (by omega)
  obtain ⟨c_tri, cl_tri⟩ : ∃ g : Nat → Int32, hx_col 100 hl1 qc 9 = g := ⟨_, rfl⟩
  have eq_tri := hc_tri qc mt f_qc f_mt; rw [cl_tri, n_mt] at eq_tri
  have z_tri : c0.toInt.toNat < 100 → c_tri c0.toInt.toNat = 0 := fun hj => hx_num_z nu_qc cl_tri hj (by omega)
  obtain ⟨qlt, f_qlt, g_qlt⟩ := hx_rf hT g_qw tt_8 (k := 2) (u := 39) rfl
  obtain ⟨qlf, f_qlf, g_qlf⟩ := hx_rf hT g_qw tt_8 (k := 4) (u := 41) rfl
  obtain ⟨m_wkd, f_m_wkd, g_m_wkd⟩ := hx_rf hT gm tt_10 (k := 93) (u := 113) rfl
  obtain ⟨F_qlt, n_qlt⟩ : ∃ g : Nat → Int32, hl1.2.1 qlt = g := ⟨_, rfl⟩
  obtain ⟨F_m_wkd, n_m_wkd⟩ : ∃ g : Nat → Int32, hl1.2.1 m_wkd = g := ⟨_, rfl⟩
  have eb_wkd := hkWD qw qlt m_wkd f_qw f_qlt f_m_wkd; rw [n_qlt, n_m_wkd, f_o_wkm] at eb_wkd
  obtain ⟨m_aga, f_m_aga, g_m_aga⟩ := hx_rf hT gm tt_10 (k := 38) (u := 73) rfl
  obtain ⟨F_aga, n_aga⟩ : ∃ g : Nat → Int32, hl1.2.1 m_aga = g := ⟨_, rfl⟩
  have hDF := hkDF qc qp m_aga f_qc f_qp f_m_aga; rw [n_aga, f_x_claimCount] at hDF
  obtain ⟨qwo, f_qwo, g_qwo⟩ := hx_rf hT gx tt_9 (k := 4) (u := 0) rfl
  obtain ⟨m_ad, f_m_ad, g_m_ad⟩ := hx_rf hT gm tt_10 (k := 2) (u := 49) rfl
  obtain ⟨F_ad, n_ad⟩ : ∃ g : Nat → Int32, hl1.2.1 m_ad = g := ⟨_, rfl⟩
  obtain ⟨A9, hRA9, hCA9⟩ := hkAC qa qwo m_ad mr mn mp f_qa f_qwo f_m_ad f_mr f_mn f_mp
  rw [f_x_actCount] at hRA9; rw [f_x_actCount, n_ad, n_mr, n_mn, n_mp] at hCA9
  have hwd := jw mw f_mw; rw [n_mw] at hwd
  have hWK := jr mr f_mr; rw [n_mr, f_m_acts] at hWK
  have hRP := jp mp mn f_mp f_mn; rw [n_mp, n_mn, f_m_acts] at hRP
  have hPL := jl ml f_ml; rw [n_ml, f_m_claims, f_m_acts] at hPL
  have hHC := jh mh f_mh; rw [n_mh, f_m_heardMany, f_m_claims] at hHC
  have hTR := jt mt f_mt; rw [n_mt] at hTR
  have hHF := jf mh m_fou f_mh f_m_fou; rw [n_mh, n_m_fou, f_m_claims] at hHF
  refine lv_aload_n hx hb dL_law_258 rfl (lv_at hl 2 rfl) ?_
  refine lv_aload_n hx hb dL_law_259 rfl (lv_at hl 3 rfl) ?_
  refine lv_iload_n hx hb dL_law_260 rfl (lv_at hl 0 rfl) ?_
  refine lv_iconst (v := 1) hx hb dL_law_261 (by decide) ?_
  refine lv_iadd hx hb dL_law_262 ?_
  have rg_53 := i32_r i
  refine lv_topi (fun x_54 ex_54 => ?_)
  have zx_54 : x_54.toInt = i.toInt + 1 := by rw [ex_54]; exact i32_add rfl (by decide) (by omega) (by omega)
  refine va_sld hx hb hX hbl hbA hW.2.2.2.1 (vp_in_iff.mpr ⟨by omega, by omega⟩) dL_law_263 ?_
  refine lv_topi (fun x_55 ex_55 => ?_)
  have hTo := hT
  refine hx_goi (hx_runV (As := [.int x_55]) (rest := []) ⟨hx, hb, hml, hown, hts⟩ hW gx tt_9 (T := TX9) (N := 20) rfl (t_X9_end_v l dC dI dA L1 hl1 H.size ax x_55 hT gx tl f_x_tapeLength) (cwV 1 hts (hx_gV kw_446 kw_443 kw_444 kw_445 kw_94) rfl rfl rfl (by decide +kernel) ⟨Nat.le_of_ble_eq_true rfl, Nat.le_of_ble_eq_true rfl⟩) rfl hl.1 rfl (Nat.le_of_ble_eq_true rfl) dL_law_264 ⟨(show CC + 0 ≤ 600000 from by omega), (show SS + 0 ≤ 7302250 from by omega)⟩) hW (fun r_58 L_56 h_57 H locs p_59 hW => ?_)
  obtain ⟨⟨w_61, fw_61, hr_60⟩, hT, hs⟩ := p_59
  replace hT : hx_T T_tb L_56 h_57 := hT
  replace hs : hx_S T_tb [(9, 1)] L1 hl1 L_56 h_57 := hs
  replace f_qa := (hs.o gx trivial rfl).2.trans f_qa
  replace f_qp := (hs.o gx trivial rfl).2.trans f_qp
  replace f_qc := (hs.o gx trivial rfl).2.trans f_qc
  replace f_qh := (hs.o gx trivial rfl).2.trans f_qh
  replace f_qw := (hs.o gx trivial rfl).2.trans f_qw
  replace f_ql := (hs.o g_qw trivial rfl).2.trans f_ql
  replace f_m_now := (hs.o gm trivial rfl).1.trans f_m_now
  replace f_m_persons := (hs.o gm trivial rfl).1.trans f_m_persons
  replace f_m_claims := (hs.o gm trivial rfl).1.trans f_m_claims
  replace f_m_taped := (hs.o gm trivial rfl).1.trans f_m_taped
  replace f_m_acts := (hs.o gm trivial rfl).1.trans f_m_acts
  replace f_m_lines := (hs.o gm trivial rfl).1.trans f_m_lines
  replace f_m_listed := (hs.o gm trivial rfl).1.trans f_m_listed
  replace f_m_walkedMany := (hs.o gm trivial rfl).1.trans f_m_walkedMany
  replace f_m_heardMany := (hs.o gm trivial rfl).1.trans f_m_heardMany
  replace f_x_now := (hs.o gx trivial rfl).1.trans f_x_now
  replace f_x_personCount := (hs.o gx trivial rfl).1.trans f_x_personCount
  replace f_x_claimCount := (hs.o gx trivial rfl).1.trans f_x_claimCount
  replace f_x_actCount := (hs.o gx trivial rfl).1.trans f_x_actCount
  replace f_mw := (hs.o gm trivial rfl).2.trans f_mw
  replace f_mr := (hs.o gm trivial rfl).2.trans f_mr
  replace f_mp := (hs.o gm trivial rfl).2.trans f_mp
  replace f_mn := (hs.o gm trivial rfl).2.trans f_mn
  replace f_ml := (hs.o gm trivial rfl).2.trans f_ml
  replace f_mh := (hs.o gm trivial rfl).2.trans f_mh
  replace f_mt := (hs.o gm trivial rfl).2.trans f_mt
  replace f_m_fou := (hs.o gm trivial rfl).2.trans f_m_fou
  replace f_qo_ln := (hs.o gx trivial rfl).2.trans f_qo_ln
  replace f_o_ln := (hs.o g_qo_ln trivial rfl).1.trans f_o_ln
  replace f_o_lsd := (hs.o g_qw trivial rfl).1.trans f_o_lsd
  replace f_o_wkm := (hs.o g_qw trivial rfl).1.trans f_o_wkm
  replace f_b_of := (hs.o g_qo_ln trivial rfl).2.trans f_b_of
  replace f_m_of := (hs.o gm trivial rfl).2.trans f_m_of
  replace f_b_wf := (hs.o g_qo_ln trivial rfl).2.trans f_b_wf
  replace f_m_wf := (hs.o gm trivial rfl).2.trans f_m_wf
  replace f_b_df := (hs.o g_qo_ln trivial rfl).2.trans f_b_df
  replace f_m_df := (hs.o gm trivial rfl).2.trans f_m_df
  replace f_b_kf := (hs.o g_qo_ln trivial rfl).2.trans f_b_kf
  replace f_m_kf := (hs.o gm trivial rfl).2.trans f_m_kf
  replace f_b_sf := (hs.o g_qo_ln trivial rfl).2.trans f_b_sf
  replace f_m_sf := (hs.o gm trivial rfl).2.trans f_m_sf
  replace f_b_bf := (hs.o g_qo_ln trivial rfl).2.trans f_b_bf
  replace f_m_lst := (hs.o gm trivial rfl).2.trans f_m_lst
  replace f_qtp := (hs.o gx trivial rfl).2.trans f_qtp
  replace f_m_tp := (hs.o gm trivial rfl).2.trans f_m_tp
  replace f_m_dead := (hs.o gm trivial rfl).2.trans f_m_dead
  replace f_m_isj := (hs.o gm trivial rfl).2.trans f_m_isj
  replace f_m_dox := (hs.o gm trivial rfl).2.trans f_m_dox
  replace f_m_doy := (hs.o gm trivial rfl).2.trans f_m_doy
  replace f_qlt := (hs.o g_qw trivial rfl).2.trans f_qlt
  replace f_qlf := (hs.o g_qw trivial rfl).2.trans f_qlf
  replace f_m_wkd := (hs.o gm trivial rfl).2.trans f_m_wkd
  replace f_m_aga := (hs.o gm trivial rfl).2.trans f_m_aga
  replace f_qwo := (hs.o gx trivial rfl).2.trans f_qwo
  replace f_m_ad := (hs.o gm trivial rfl).2.trans f_m_ad
  replace pf_qa : ∀ j : Nat, (j : Int) < (h_57.2.1 ax 6).toInt → h_57.2.2 qa j ≠ none := by
    intro j hj; rw [(hs.o gx trivial rfl).1] at hj; rw [(hs.a g_qa rfl j).2]; exact pf_qa j hj
  replace pf_qp : ∀ j : Nat, (j : Int) < (h_57.2.1 ax 8).toInt → h_57.2.2 qp j ≠ none := by
    intro j hj; rw [(hs.o gx trivial rfl).1] at hj; rw [(hs.a g_qp rfl j).2]; exact pf_qp j hj
  replace pf_qc : ∀ j : Nat, (j : Int) < (h_57.2.1 ax 11).toInt → h_57.2.2 qc j ≠ none := by
    intro j hj; rw [(hs.o gx trivial rfl).1] at hj; rw [(hs.a g_qc rfl j).2]; exact pf_qc j hj
  replace pf_qh : ∀ j : Nat, (j : Int) < (h_57.2.1 ax 13).toInt → h_57.2.2 qh j ≠ none := by
    intro j hj; rw [(hs.o gx trivial rfl).1] at hj; rw [(hs.a g_qh rfl j).2]; exact pf_qh j hj
  replace pf_ql : ∀ j : Nat, (j : Int) < (h_57.2.1 qw 0).toInt → h_57.2.2 ql j ≠ none := by
    intro j hj; rw [(hs.o g_qw trivial rfl).1] at hj; rw [(hs.a g_ql rfl j).2]; exact pf_ql j hj
  replace cl_lst : hx_col 8 h_57 ql 0 = c_lst := (hx_col_S hs hTo g_ql tt_40 tt_2 rfl rfl).trans cl_lst
  replace cl_dead : hx_col 40 h_57 qp 7 = c_dead := (hx_col_S hs hTo g_qp tt_44 tt_4 rfl rfl).trans cl_dead
  replace cl_isj : hx_col 40 h_57 qp 8 = c_isj := (hx_col_S hs hTo g_qp tt_44 tt_4 rfl rfl).trans cl_isj
  replace cl_dox : hx_col 40 h_57 qp 5 = c_dox := (hx_col_S hs hTo g_qp tt_44 tt_4 rfl rfl).trans cl_dox
  replace cl_doy : hx_col 40 h_57 qp 6 = c_doy := (hx_col_S hs hTo g_qp tt_44 tt_4 rfl rfl).trans cl_doy
  replace cl_fou : hx_col 100 h_57 qc 10 = c_fou := (hx_col_S hs hTo g_qc tt_45 tt_2 rfl rfl).trans cl_fou
  replace cl_tri : hx_col 100 h_57 qc 9 = c_tri := (hx_col_S hs hTo g_qc tt_45 tt_2 rfl rfl).trans cl_tri
  replace nu_qp : hx_num 40 h_57 qp 0 (np.toInt) := hx_num_S hs hTo g_qp tt_44 tt_4 rfl rfl nu_qp
  replace nu_qc : hx_num 100 h_57 qc 0 (c0.toInt) := hx_num_S hs hTo g_qc tt_45 tt_2 rfl rfl nu_qc
  replace sb_list : hx_LQ 8 100 h_57 ql qc := hx_LQ_S hs g_ql g_qc rfl rfl sb_list
  replace hDF : hw_DF h_57 qc qp 2 F_aga c0.toInt := hw_DF_S hs hTo g_qc g_qp tt_45 tt_2 rfl rfl rfl hDF
  replace hRA9 : hv_RA h_57 qa qwo a0.toInt A9 := hv_RA_S hs hTo g_qa g_qwo tt_43 tt_0 rfl rfl rfl rfl rfl rfl (by omega) hRA9
  replace n_mw : h_57.2.1 mw = F_mw := (funext fun j => (hs.a g_mw rfl j).1).trans n_mw
  replace n_mr : h_57.2.1 mr = F_mr := (funext fun j => (hs.a g_mr rfl j).1).trans n_mr
  replace n_mp : h_57.2.1 mp = F_mp := (funext fun j => (hs.a g_mp rfl j).1).trans n_mp
  replace n_mn : h_57.2.1 mn = F_mn := (funext fun j => (hs.a g_mn rfl j).1).trans n_mn
  replace n_ml : h_57.2.1 ml = F_ml := (funext fun j => (hs.a g_ml rfl j).1).trans n_ml
  replace n_mh : h_57.2.1 mh = F_mh := (funext fun j => (hs.a g_mh rfl j).1).trans n_mh
  replace n_mt : h_57.2.1 mt = F_mt := (funext fun j => (hs.a g_mt rfl j).1).trans n_mt
  replace n_m_fou : h_57.2.1 m_fou = F_m_fou := (funext fun j => (hs.a g_m_fou rfl j).1).trans n_m_fou
  replace n_b_of : h_57.2.1 b_of = B_of := (funext fun j => (hs.a g_b_of rfl j).1).trans n_b_of
  replace n_m_of : h_57.2.1 m_of = F_of := (funext fun j => (hs.a g_m_of rfl j).1).trans n_m_of
  replace n_b_wf : h_57.2.1 b_wf = B_wf := (funext fun j => (hs.a g_b_wf rfl j).1).trans n_b_wf
  replace n_m_wf : h_57.2.1 m_wf = F_wf := (funext fun j => (hs.a g_m_wf rfl j).1).trans n_m_wf
  replace n_b_df : h_57.2.1 b_df = B_df := (funext fun j => (hs.a g_b_df rfl j).1).trans n_b_df
  replace n_m_df : h_57.2.1 m_df = F_df := (funext fun j => (hs.a g_m_df rfl j).1).trans n_m_df
  replace n_b_kf : h_57.2.1 b_kf = B_kf := (funext fun j => (hs.a g_b_kf rfl j).1).trans n_b_kf
  replace n_m_kf : h_57.2.1 m_kf = F_kf := (funext fun j => (hs.a g_m_kf rfl j).1).trans n_m_kf
  replace n_b_sf : h_57.2.1 b_sf = B_sf := (funext fun j => (hs.a g_b_sf rfl j).1).trans n_b_sf
  replace n_m_sf : h_57.2.1 m_sf = F_sf := (funext fun j => (hs.a g_m_sf rfl j).1).trans n_m_sf
  replace n_b_bf : h_57.2.1 b_bf = bfL := (funext fun j => (hs.a g_b_bf rfl j).1).trans n_b_bf
  replace n_lst : h_57.2.1 m_lst = F_lst := (funext fun j => (hs.a g_m_lst rfl j).1).trans n_lst
  replace n_tp : h_57.2.1 m_tp = F_tp := (funext fun j => (hs.a g_m_tp rfl j).1).trans n_tp
  replace n_qtp : h_57.2.1 qtp = F_tp := (funext fun j => (hs.a g_qtp rfl j).1).trans n_qtp
  replace n_dead : h_57.2.1 m_dead = F_dead := (funext fun j => (hs.a g_m_dead rfl j).1).trans n_dead
  replace n_isj : h_57.2.1 m_isj = F_isj := (funext fun j => (hs.a g_m_isj rfl j).1).trans n_isj
  replace n_dox : h_57.2.1 m_dox = F_dox := (funext fun j => (hs.a g_m_dox rfl j).1).trans n_dox
  replace n_doy : h_57.2.1 m_doy = F_doy := (funext fun j => (hs.a g_m_doy rfl j).1).trans n_doy
  replace n_qlt : h_57.2.1 qlt = F_qlt := (funext fun j => (hs.a g_qlt rfl j).1).trans n_qlt
  replace n_m_wkd : h_57.2.1 m_wkd = F_m_wkd := (funext fun j => (hs.a g_m_wkd rfl j).1).trans n_m_wkd
  replace n_aga : h_57.2.1 m_aga = F_aga := (funext fun j => (hs.a g_m_aga rfl j).1).trans n_aga
  replace n_ad : h_57.2.1 m_ad = F_ad := (funext fun j => (hs.a g_m_ad rfl j).1).trans n_ad
  replace gx := gx.S hs
  replace gm := gm.S hs
  replace g_qa := g_qa.S hs
  replace g_qp := g_qp.S hs
  replace g_qc := g_qc.S hs
  replace g_qh := g_qh.S hs
  replace g_qw := g_qw.S hs
  replace g_ql := g_ql.S hs
  replace g_mw := g_mw.S hs
  replace g_mr := g_mr.S hs
  replace g_mp := g_mp.S hs
  replace g_mn := g_mn.S hs
  replace g_ml := g_ml.S hs
  replace g_mh := g_mh.S hs
  replace g_mt := g_mt.S hs
  replace g_m_fou := g_m_fou.S hs
  replace g_qo_ln := g_qo_ln.S hs
  replace g_b_of := g_b_of.S hs
  replace g_m_of := g_m_of.S hs
  replace g_b_wf := g_b_wf.S hs
  replace g_m_wf := g_m_wf.S hs
  replace g_b_df := g_b_df.S hs
  replace g_m_df := g_m_df.S hs
  replace g_b_kf := g_b_kf.S hs
  replace g_m_kf := g_m_kf.S hs
  replace g_b_sf := g_b_sf.S hs
  replace g_m_sf := g_m_sf.S hs
  replace g_b_bf := g_b_bf.S hs
  replace g_m_lst := g_m_lst.S hs
  replace g_qtp := g_qtp.S hs
  replace g_m_tp := g_m_tp.S hs
  replace g_m_dead := g_m_dead.S hs
  replace g_m_isj := g_m_isj.S hs
  replace g_m_dox := g_m_dox.S hs
  replace g_m_doy := g_m_doy.S hs
  replace g_qlt := g_qlt.S hs
  replace g_qlf := g_qlf.S hs
  replace g_m_wkd := g_m_wkd.S hs
  replace g_m_aga := g_m_aga.S hs
  replace g_qwo := g_qwo.S hs
  replace g_m_ad := g_m_ad.S hs
  have fw_61 : h_57.2.1 ax 1 = w_61 := fw_61
  have bw_61 := hT.gi gx tt_9 (k := 1) rfl
  rw [fw_61] at bw_61
  have bw_61 : 0 ≤ w_61.toInt ∧ w_61.toInt ≤ 400 := bw_61
  refine lv_pop hx hb dL_law_267 rfl ?_
  refine lv_aload_n hx hb dL_law_268 rfl (lv_at hl 1 rfl) ?_
  refine lv_aload_n hx hb dL_law_269 rfl (lv_at hl 3 rfl) ?_
  refine lv_iload_n hx hb dL_law_270 rfl (lv_at hl 0 rfl) ?_
  refine lv_iconst (v := 1) hx hb dL_law_271 (by decide) ?_
  refine lv_iadd hx hb dL_law_272 ?_
  refine lv_topi (fun x_62 ex_62 => ?_)
  have zx_62 : x_62.toInt = i.toInt + 1 := by rw [ex_62]; exact i32_add rfl (by decide) (by omega) (by omega)
  obtain rfl : x_54 = x_62 := ex_54.trans ex_62.symm
  refine va_sld hx hb hX hbl hbA hW.2.2.2.1 (vp_in_iff.mpr ⟨by omega, by omega⟩) dL_law_273 ?_
  refine lv_topi (fun x_63 ex_63 => ?_)
  obtain rfl : x_55 = x_63 := ex_55.trans ex_63.symm
  have hTo := hT
  refine hx_goi (hx_runV (As := [.int x_55]) (rest := []) ⟨hx, hb, hml, hown, hts⟩ hW gm tt_10 (T := TX10) (N := 98) rfl (t_X10_end_v l dC dI dA L_56 h_57 H.size am x_55 hT gm tl f_m_taped) (cwV 1 hts (hx_gV kw_1457 kw_1454 kw_1455 kw_1456 kw_103) rfl rfl rfl (by decide +kernel) ⟨Nat.le_of_ble_eq_true rfl, Nat.le_of_ble_eq_true rfl⟩) rfl hl.1 rfl (Nat.le_of_ble_eq_true rfl) dL_law_274 ⟨(show CC + 0 + 0 ≤ 600000 from by omega), (show SS + 0 + 0 ≤ 7302250 from by omega)⟩) hW (fun r_66 L_64 h_65 H locs p_67 hW => ?_)
  obtain ⟨⟨w_69, fw_69, hr_68⟩, hT, hs⟩ := p_67
  replace hT : hx_T T_tb L_64 h_65 := hT
  replace hs : hx_S T_tb [(10, 7)] L_56 h_57 L_64 h_65 := hs
  replace f_qa := (hs.o gx trivial rfl).2.trans f_qa
  replace f_qp := (hs.o gx trivial rfl).2.trans f_qp
  replace f_qc := (hs.o gx trivial rfl).2.trans f_qc
  replace f_qh := (hs.o gx trivial rfl).2.trans f_qh
  replace f_qw := (hs.o gx trivial rfl).2.trans f_qw
  replace f_ql := (hs.o g_qw trivial rfl).2.trans f_ql
  replace f_m_now := (hs.o gm trivial rfl).1.trans f_m_now
  replace f_m_persons := (hs.o gm trivial rfl).1.trans f_m_persons
  replace f_m_claims := (hs.o gm trivial rfl).1.trans f_m_claims
  replace f_m_acts := (hs.o gm trivial rfl).1.trans f_m_acts
  replace f_m_lines := (hs.o gm trivial rfl).1.trans f_m_lines
  replace f_m_listed := (hs.o gm trivial rfl).1.trans f_m_listed
  replace f_m_walkedMany := (hs.o gm trivial rfl).1.trans f_m_walkedMany
  replace f_m_heardMany := (hs.o gm trivial rfl).1.trans f_m_heardMany
  replace f_x_now := (hs.o gx trivial rfl).1.trans f_x_now
  replace f_x_personCount := (hs.o gx trivial rfl).1.trans f_x_personCount
  replace f_x_claimCount := (hs.o gx trivial rfl).1.trans f_x_claimCount
  replace f_x_actCount := (hs.o gx trivial rfl).1.trans f_x_actCount
  replace f_mw := (hs.o gm trivial rfl).2.trans f_mw
  replace f_mr := (hs.o gm trivial rfl).2.trans f_mr
  replace f_mp := (hs.o gm trivial rfl).2.trans f_mp
  replace f_mn := (hs.o gm trivial rfl).2.trans f_mn
  replace f_ml := (hs.o gm trivial rfl).2.trans f_ml
  replace f_mh := (hs.o gm trivial rfl).2.trans f_mh
  replace f_mt := (hs.o gm trivial rfl).2.trans f_mt
  replace f_m_fou := (hs.o gm trivial rfl).2.trans f_m_fou
  replace f_qo_ln := (hs.o gx trivial rfl).2.trans f_qo_ln
  replace f_o_ln := (hs.o g_qo_ln trivial rfl).1.trans f_o_ln
  replace f_o_lsd := (hs.o g_qw trivial rfl).1.trans f_o_lsd
  replace f_o_wkm := (hs.o g_qw trivial rfl).1.trans f_o_wkm
  replace f_b_of := (hs.o g_qo_ln trivial rfl).2.trans f_b_of
  replace f_m_of := (hs.o gm trivial rfl).2.trans f_m_of
  replace f_b_wf := (hs.o g_qo_ln trivial rfl).2.trans f_b_wf
  replace f_m_wf := (hs.o gm trivial rfl).2.trans f_m_wf
  replace f_b_df := (hs.o g_qo_ln trivial rfl).2.trans f_b_df
  replace f_m_df := (hs.o gm trivial rfl).2.trans f_m_df
  replace f_b_kf := (hs.o g_qo_ln trivial rfl).2.trans f_b_kf
  replace f_m_kf := (hs.o gm trivial rfl).2.trans f_m_kf
  replace f_b_sf := (hs.o g_qo_ln trivial rfl).2.trans f_b_sf
  replace f_m_sf := (hs.o gm trivial rfl).2.trans f_m_sf
  replace f_b_bf := (hs.o g_qo_ln trivial rfl).2.trans f_b_bf
  replace f_m_lst := (hs.o gm trivial rfl).2.trans f_m_lst
  replace f_qtp := (hs.o gx trivial rfl).2.trans f_qtp
  replace f_m_tp := (hs.o gm trivial rfl).2.trans f_m_tp
  replace f_m_dead := (hs.o gm trivial rfl).2.trans f_m_dead
  replace f_m_isj := (hs.o gm trivial rfl).2.trans f_m_isj
  replace f_m_dox := (hs.o gm trivial rfl).2.trans f_m_dox
  replace f_m_doy := (hs.o gm trivial rfl).2.trans f_m_doy
  replace f_qlt := (hs.o g_qw trivial rfl).2.trans f_qlt
  replace f_qlf := (hs.o g_qw trivial rfl).2.trans f_qlf
  replace f_m_wkd := (hs.o gm trivial rfl).2.trans f_m_wkd
  replace f_m_aga := (hs.o gm trivial rfl).2.trans f_m_aga
  replace f_qwo := (hs.o gx trivial rfl).2.trans f_qwo
  replace f_m_ad := (hs.o gm trivial rfl).2.trans f_m_ad
  replace fw_61 := (hs.o gx trivial rfl).1.trans fw_61
  replace pf_qa : ∀ j : Nat, (j : Int) < (h_65.2.1 ax 6).toInt → h_65.2.2 qa j ≠ none := by
    intro j hj; rw [(hs.o gx trivial rfl).1] at hj; rw [(hs.a g_qa rfl j).2]; exact pf_qa j hj
  replace pf_qp : ∀ j : Nat, (j : Int) < (h_65.2.1 ax 8).toInt → h_65.2.2 qp j ≠ none := by
    intro j hj; rw [(hs.o gx trivial rfl).1] at hj; rw [(hs.a g_qp rfl j).2]; exact pf_qp j hj
  replace pf_qc : ∀ j : Nat, (j : Int) < (h_65.2.1 ax 11).toInt → h_65.2.2 qc j ≠ none := by
    intro j hj; rw [(hs.o gx trivial rfl).1] at hj; rw [(hs.a g_qc rfl j).2]; exact pf_qc j hj
  replace pf_qh : ∀ j : Nat, (j : Int) < (h_65.2.1 ax 13).toInt → h_65.2.2 qh j ≠ none := by
    intro j hj; rw [(hs.o gx trivial rfl).1] at hj; rw [(hs.a g_qh rfl j).2]; exact pf_qh j hj
  replace pf_ql : ∀ j : Nat, (j : Int) < (h_65.2.1 qw 0).toInt → h_65.2.2 ql j ≠ none := by
    intro j hj; rw [(hs.o g_qw trivial rfl).1] at hj; rw [(hs.a g_ql rfl j).2]; exact pf_ql j hj
  replace cl_lst : hx_col 8 h_65 ql 0 = c_lst := (hx_col_S hs hTo g_ql tt_40 tt_2 rfl rfl).trans cl_lst
  replace cl_dead : hx_col 40 h_65 qp 7 = c_dead := (hx_col_S hs hTo g_qp tt_44 tt_4 rfl rfl).trans cl_dead
  replace cl_isj : hx_col 40 h_65 qp 8 = c_isj := (hx_col_S hs hTo g_qp tt_44 tt_4 rfl rfl).trans cl_isj
  replace cl_dox : hx_col 40 h_65 qp 5 = c_dox := (hx_col_S hs hTo g_qp tt_44 tt_4 rfl rfl).trans cl_dox
  replace cl_doy : hx_col 40 h_65 qp 6 = c_doy := (hx_col_S hs hTo g_qp tt_44 tt_4 rfl rfl).trans cl_doy
  replace cl_fou : hx_col 100 h_65 qc 10 = c_fou := (hx_col_S hs hTo g_qc tt_45 tt_2 rfl rfl).trans cl_fou
  replace cl_tri : hx_col 100 h_65 qc 9 = c_tri := (hx_col_S hs hTo g_qc tt_45 tt_2 rfl rfl).trans cl_tri
  replace nu_qp : hx_num 40 h_65 qp 0 (np.toInt) := hx_num_S hs hTo g_qp tt_44 tt_4 rfl rfl nu_qp
  replace nu_qc : hx_num 100 h_65 qc 0 (c0.toInt) := hx_num_S hs hTo g_qc tt_45 tt_2 rfl rfl nu_qc
  replace sb_list : hx_LQ 8 100 h_65 ql qc := hx_LQ_S hs g_ql g_qc rfl rfl sb_list
  replace hDF : hw_DF h_65 qc qp 2 F_aga c0.toInt := hw_DF_S hs hTo g_qc g_qp tt_45 tt_2 rfl rfl rfl hDF
  replace hRA9 : hv_RA h_65 qa qwo a0.toInt A9 := hv_RA_S hs hTo g_qa g_qwo tt_43 tt_0 rfl rfl rfl rfl rfl rfl (by omega) hRA9
  replace n_mw : h_65.2.1 mw = F_mw := (funext fun j => (hs.a g_mw rfl j).1).trans n_mw
  replace n_mr : h_65.2.1 mr = F_mr := (funext fun j => (hs.a g_mr rfl j).1).trans n_mr
  replace n_mp : h_65.2.1 mp = F_mp := (funext fun j => (hs.a g_mp rfl j).1).trans n_mp
  replace n_mn : h_65.2.1 mn = F_mn := (funext fun j => (hs.a g_mn rfl j).1).trans n_mn
  replace n_ml : h_65.2.1 ml = F_ml := (funext fun j => (hs.a g_ml rfl j).1).trans n_ml
  replace n_mh : h_65.2.1 mh = F_mh := (funext fun j => (hs.a g_mh rfl j).1).trans n_mh
  replace n_mt : h_65.2.1 mt = F_mt := (funext fun j => (hs.a g_mt rfl j).1).trans n_mt
  replace n_m_fou : h_65.2.1 m_fou = F_m_fou := (funext fun j => (hs.a g_m_fou rfl j).1).trans n_m_fou
  replace n_b_of : h_65.2.1 b_of = B_of := (funext fun j => (hs.a g_b_of rfl j).1).trans n_b_of
  replace n_m_of : h_65.2.1 m_of = F_of := (funext fun j => (hs.a g_m_of rfl j).1).trans n_m_of
  replace n_b_wf : h_65.2.1 b_wf = B_wf := (funext fun j => (hs.a g_b_wf rfl j).1).trans n_b_wf
  replace n_m_wf : h_65.2.1 m_wf = F_wf := (funext fun j => (hs.a g_m_wf rfl j).1).trans n_m_wf
  replace n_b_df : h_65.2.1 b_df = B_df := (funext fun j => (hs.a g_b_df rfl j).1).trans n_b_df
  replace n_m_df : h_65.2.1 m_df = F_df := (funext fun j => (hs.a g_m_df rfl j).1).trans n_m_df
  replace n_b_kf : h_65.2.1 b_kf = B_kf := (funext fun j => (hs.a g_b_kf rfl j).1).trans n_b_kf
  replace n_m_kf : h_65.2.1 m_kf = F_kf := (funext fun j => (hs.a g_m_kf rfl j).1).trans n_m_kf
  replace n_b_sf : h_65.2.1 b_sf = B_sf := (funext fun j => (hs.a g_b_sf rfl j).1).trans n_b_sf
  replace n_m_sf : h_65.2.1 m_sf = F_sf := (funext fun j => (hs.a g_m_sf rfl j).1).trans n_m_sf
  replace n_b_bf : h_65.2.1 b_bf = bfL := (funext fun j => (hs.a g_b_bf rfl j).1).trans n_b_bf
  replace n_lst : h_65.2.1 m_lst = F_lst := (funext fun j => (hs.a g_m_lst rfl j).1).trans n_lst
  replace n_tp : h_65.2.1 m_tp = F_tp := (funext fun j => (hs.a g_m_tp rfl j).1).trans n_tp
  replace n_qtp : h_65.2.1 qtp = F_tp := (funext fun j => (hs.a g_qtp rfl j).1).trans n_qtp
  replace n_dead : h_65.2.1 m_dead = F_dead := (funext fun j => (hs.a g_m_dead rfl j).1).trans n_dead
  replace n_isj : h_65.2.1 m_isj = F_isj := (funext fun j => (hs.a g_m_isj rfl j).1).trans n_isj
  replace n_dox : h_65.2.1 m_dox = F_dox := (funext fun j => (hs.a g_m_dox rfl j).1).trans n_dox
  replace n_doy : h_65.2.1 m_doy = F_doy := (funext fun j => (hs.a g_m_doy rfl j).1).trans n_doy
  replace n_qlt : h_65.2.1 qlt = F_qlt := (funext fun j => (hs.a g_qlt rfl j).1).trans n_qlt
  replace n_m_wkd : h_65.2.1 m_wkd = F_m_wkd := (funext fun j => (hs.a g_m_wkd rfl j).1).trans n_m_wkd
  replace n_aga : h_65.2.1 m_aga = F_aga := (funext fun j => (hs.a g_m_aga rfl j).1).trans n_aga
  replace n_ad : h_65.2.1 m_ad = F_ad := (funext fun j => (hs.a g_m_ad rfl j).1).trans n_ad
  replace gx := gx.S hs
  replace gm := gm.S hs
  replace g_qa := g_qa.S hs
  replace g_qp := g_qp.S hs
  replace g_qc := g_qc.S hs
  replace g_qh := g_qh.S hs
  replace g_qw := g_qw.S hs
  replace g_ql := g_ql.S hs
  replace g_mw := g_mw.S hs
  replace g_mr := g_mr.S hs
  replace g_mp := g_mp.S hs
  replace g_mn := g_mn.S hs
  replace g_ml := g_ml.S hs
  replace g_mh := g_mh.S hs
  replace g_mt := g_mt.S hs
  replace g_m_fou := g_m_fou.S hs
  replace g_qo_ln := g_qo_ln.S hs
  replace g_b_of := g_b_of.S hs
  replace g_m_of := g_m_of.S hs
  replace g_b_wf := g_b_wf.S hs
  replace g_m_wf := g_m_wf.S hs
  replace g_b_df := g_b_df.S hs
  replace g_m_df := g_m_df.S hs
  replace g_b_kf := g_b_kf.S hs
  replace g_m_kf := g_m_kf.S hs
  replace g_b_sf := g_b_sf.S hs
  replace g_m_sf := g_m_sf.S hs
  replace g_b_bf := g_b_bf.S hs
  replace g_m_lst := g_m_lst.S hs
  replace g_qtp := g_qtp.S hs
  replace g_m_tp := g_m_tp.S hs
  replace g_m_dead := g_m_dead.S hs
  replace g_m_isj := g_m_isj.S hs
  replace g_m_dox := g_m_dox.S hs
  replace g_m_doy := g_m_doy.S hs
  replace g_qlt := g_qlt.S hs
  replace g_qlf := g_qlf.S hs
  replace g_m_wkd := g_m_wkd.S hs
  replace g_m_aga := g_m_aga.S hs
  replace g_qwo := g_qwo.S hs
  replace g_m_ad := g_m_ad.S hs
  have fw_69 : h_65.2.1 am 7 = w_69 := fw_69
  have bw_69 := hT.gi gm tt_10 (k := 7) rfl
  rw [fw_69] at bw_69
  have bw_69 : 0 ≤ w_69.toInt ∧ w_69.toInt ≤ 400 := bw_69
  refine lv_pop hx hb dL_law_277 rfl ?_
  refine lv_goto (tgt := 1379) hx hb dL_law_278 (by decide) ?_
  obtain ⟨heqr, hq_tl⟩ := hv_EN_eq hr_60 hr_68; have heq := congrArg Int32.toInt heqr
  refine W.widen (k := CC + 3) (n := SS + 179) (by omega) (by omega) ?_
  exact kk L_64 h_65 H locs ls hW ⟨hT, gx, gm, ⟨f_x_now.trans f_m_now.symm, f_x_personCount.trans f_m_persons.symm, f_x_claimCount.trans f_m_claims.symm, (fw_61.trans hq_tl).trans fw_69.symm, f_x_actCount.trans f_m_acts.symm, hx_ob f_qo_ln (f_o_ln.trans f_m_lines.symm), hx_ob f_qw (f_o_lsd.trans f_m_listed.symm), hx_ob f_qw (f_o_wkm.trans f_m_walkedMany.symm), hx_ob f_qp (by rw [f_x_personCount]; exact nu_qp), hx_ob f_qc (by rw [f_x_claimCount]; exact nu_qc), (fun b a r hb ha hr => by obtain rfl : qo_ln = b := Option.some.inj (f_qo_ln.symm.trans hb); obtain rfl : b_of = a := Option.some.inj (f_b_of.symm.trans ha); obtain rfl : m_of = r := Option.some.inj (f_m_of.symm.trans hr); rw [n_b_of, n_m_of, f_o_ln]; exact eb_of), (fun b a r hb ha hr => by obtain rfl : qo_ln = b := Option.some.inj (f_qo_ln.symm.trans hb); obtain rfl : b_wf = a := Option.some.inj (f_b_wf.symm.trans ha); obtain rfl : m_wf = r := Option.some.inj (f_m_wf.symm.trans hr); rw [n_b_wf, n_m_wf, f_o_ln]; exact eb_wf), (fun b a r hb ha hr => by obtain rfl : qo_ln = b := Option.some.inj (f_qo_ln.symm.trans hb); obtain rfl : b_df = a := Option.some.inj (f_b_df.symm.trans ha); obtain rfl : m_df = r := Option.some.inj (f_m_df.symm.trans hr); rw [n_b_df, n_m_df, f_o_ln]; exact eb_df), (fun b a r hb ha hr => by obtain rfl : qo_ln = b := Option.some.inj (f_qo_ln.symm.trans hb); obtain rfl : b_kf = a := Option.some.inj (f_b_kf.symm.trans ha); obtain rfl : m_kf = r := Option.some.inj (f_m_kf.symm.trans hr); rw [n_b_kf, n_m_kf, f_o_ln]; exact eb_kf), (fun b a r hb ha hr => by obtain rfl : qo_ln = b := Option.some.inj (f_qo_ln.symm.trans hb); obtain rfl : b_sf = a := Option.some.inj (f_b_sf.symm.trans ha); obtain rfl : m_sf = r := Option.some.inj (f_m_sf.symm.trans hr); rw [n_b_sf, n_m_sf, f_o_ln]; exact eb_sf), (fun b a r hb ha hr => by obtain rfl : qo_ln = b := Option.some.inj (f_qo_ln.symm.trans hb); obtain rfl : b_df = a := Option.some.inj (f_b_df.symm.trans ha); obtain rfl : b_bf = r := Option.some.inj (f_b_bf.symm.trans hr); rw [n_b_df, n_b_bf, f_o_ln]; exact ⟨hBD, hDY⟩), (fun w q c hw hq hc => by obtain rfl : qw = w := Option.some.inj (f_qw.symm.trans hw); obtain rfl : ql = q := Option.some.inj (f_ql.symm.trans hq); obtain rfl : qc = c := Option.some.inj (f_qc.symm.trans hc); exact sb_list), (fun w q r hw hq hr => by obtain rfl : qw = w := Option.some.inj (f_qw.symm.trans hw); obtain rfl : ql = q := Option.some.inj (f_ql.symm.trans hq); obtain rfl : m_lst = r := Option.some.inj (f_m_lst.symm.trans hr); rw [cl_lst, n_lst]; exact eq_lst), (fun w q r hw hq hr => by obtain rfl : qw = w := Option.some.inj (f_qw.symm.trans hw); obtain rfl : qlt = q := Option.some.inj (f_qlt.symm.trans hq); obtain rfl : m_wkd = r := Option.some.inj (f_m_wkd.symm.trans hr); rw [n_qlt, n_m_wkd, f_o_wkm]; exact eb_wkd), (fun c q a hc hq ha => by obtain rfl : qc = c := Option.some.inj (f_qc.symm.trans hc); obtain rfl : qp = q := Option.some.inj (f_qp.symm.trans hq); obtain rfl : m_aga = a := Option.some.inj (f_m_aga.symm.trans ha); rw [n_aga, f_x_claimCount]; exact hw_DF_e hDF rfl rfl), (fun q r hq hr => by obtain rfl : qtp = q := Option.some.inj (f_qtp.symm.trans hq); obtain rfl : m_tp = r := Option.some.inj (f_m_tp.symm.trans hr); exact n_qtp.trans n_tp.symm), (fun q w a b c d hq hw ha hb hc hd => by obtain rfl : qa = q := Option.some.inj (f_qa.symm.trans hq); obtain rfl : qwo = w := Option.some.inj (f_qwo.symm.trans hw); obtain rfl : m_ad = a := Option.some.inj (f_m_ad.symm.trans ha); obtain rfl : mr = b := Option.some.inj (f_mr.symm.trans hb); obtain rfl : mn = c := Option.some.inj (f_mn.symm.trans hc); obtain rfl : mp = d := Option.some.inj (f_mp.symm.trans hd); exact ⟨_, by rw [f_x_actCount]; exact hRA9, by rw [f_x_actCount, n_ad, n_mr, n_mn, n_mp]; exact hCA9⟩), hx_ob2 f_qp f_m_dead (by rw [cl_dead, n_dead]; exact eq_dead), hx_ob2 f_qp f_m_isj (by rw [cl_isj, n_isj]; exact eq_isj), hx_ob2 f_qp f_m_dox (by rw [cl_dox, n_dox]; exact eq_dox), hx_ob2 f_qp f_m_doy (by rw [cl_doy, n_doy]; exact eq_doy), hx_ob2 f_qc f_m_fou (by rw [cl_fou, n_m_fou]; exact eq_fou), hx_ob2 f_qc f_mt (by rw [cl_tri, n_mt]; exact eq_tri), trivial⟩, ⟨hx_ob f_qa pf_qa, hx_ob f_qp pf_qp, hx_ob f_qc pf_qc, hx_ob f_qh pf_qh, (fun w q hw hq => by obtain rfl : qw = w := Option.some.inj (f_qw.symm.trans hw); obtain rfl : ql = q := Option.some.inj (f_ql.symm.trans hq); exact pf_ql)⟩, ⟨hx_ob f_mw (by rw [n_mw]; exact hwd), hx_ob f_mr (by rw [n_mr, f_m_acts]; exact hWK), hx_ob2 f_mp f_mn (by rw [n_mp, n_mn, f_m_acts]; exact hRP), hx_ob f_ml (by rw [n_ml, f_m_claims, f_m_acts]; exact hPL), hx_ob f_mh (by rw [n_mh, f_m_heardMany, f_m_claims]; exact hHC), hx_ob f_mt (by rw [n_mt]; exact (hx_TR_le hTR (by omega))), hx_ob2 f_mh f_m_fou (by rw [n_mh, n_m_fou, f_m_claims]; exact hHF)⟩⟩ hl

set_option maxHeartbeats 4000000 in
set_option maxRecDepth 100000 in
theorem law_case_3 {p : Program} {e : Env} {s : State} {m : MethodId} {below : List Frame} {meth : Method} {c : Code} (l : Launch) {b LN : Nat} {xs : Nat → Int32} (hx : p.tables.exec = Jvm.exec) (hb : c.code = code) (hr : meth.sig.returnType = ret) (hlocks : meth.locks = false) (hml : c.maxLocals = 4) (hown : s.vm.findClass "SmallCourtLaw" = some m.cls) (hts : ∀ w ∈ hx_all, w.before #[Value.ref b] s = true) (hX : va_X b LN xs s s.heap) (hbl : b < s.heap.size) (hbA : ¬ s.heap.size ≤ b) (hLN : LN ≤ 3584) (dC : Nat → ClassId) (dI : Nat → Nat → Nat) (dA : Nat → ClassId) (b0 : hx_z) (ax am : Nat) (T1 : Int) (hT0 : 0 ≤ T1) (hT1 : T1 ≤ 511) (i : Int32) (hi0 : 0 ≤ i.toInt) (hiL : i.toInt + 7 ≤ LN) (CC SS : Nat) (hCC : CC + 3 ≤ 600000) (hSS : SS + 179 ≤ 7302250) (L1 : List Nat) (hl1 : hx_h) (H : Heap) (locs : List Loc) (ls : Array Slot) (hW : hx_W T_tb (P_ty dA) (dC, dI) vwCl (fun q : Nat => s.heap.size ≤ q) s.heap L1 hl1 s H locs) (hZ : hx_Xt (fun q : Nat => s.heap.size ≤ q) b0 s) (hI : hx_IV T1 ax am L1 hl1) (hl : lv_has ls 4 [(3, .int i), (2, .ref am), (1, .ref ax), (0, .ref b)]) (kk : ∀ (L2 : List Nat) (h2 : hx_h) (H2 : Heap) (locs2 : List Loc) (ls2 : Array Slot), hx_W T_tb (P_ty dA) (dC, dI) vwCl (fun q : Nat => s.heap.size ≤ q) s.heap L2 h2 s H2 locs2 → hx_IV (T1 + 1) ax am L2 h2 → lv_has ls2 4 [(3, .int i), (2, .ref am), (1, .ref ax), (0, .ref b)] → W p l e room_1 s m #[Value.ref b] below meth c H2 locs2 (CC + 3) (SS + 179) (lw_Z below #[Value.ref b] s) (F0 m 1379 ls2 [])) : W p l e room_1 s m #[Value.ref b] below meth c H locs CC SS (lw_Z below #[Value.ref b] s) (F0 m 281 ls []) := by
  obtain ⟨hT, gx, gm, ⟨he_nw, he_np, he_c0, he_tl, he_a0, ho_ln, ho_lsd, ho_wkm, hn_qp, hn_qc, hk_of, hk_wf, hk_df, hk_kf, hk_sf, hkBD, hLQ, hLE, hkWD, hkDF, hkTP, hkAC, hc_dead, hc_isj, hc_dox, hc_doy, hc_fou, hc_tri, -⟩, ⟨ia, ip, ic, ih, il⟩, ⟨jw, jr, jp, jl, jh, jt, jf⟩⟩ := hI
  obtain ⟨qa, f_qa, g_qa⟩ := hx_rf hT gx tt_9 (k := 5) (u := 43) rfl
  have pf_qa := ia qa f_qa
  obtain ⟨qp, f_qp, g_qp⟩ := hx_rf hT gx tt_9 (k := 7) (u := 44) rfl
  have pf_qp := ip qp f_qp
  obtain ⟨qc, f_qc, g_qc⟩ := hx_rf hT gx tt_9 (k := 10) (u := 45) rfl
  have pf_qc := ic qc f_qc
  obtain ⟨qh, f_qh, g_qh⟩ := hx_rf hT gx tt_9 (k := 12) (u := 46) rfl
  have pf_qh := ih qh f_qh
  obtain ⟨qw, f_qw, g_qw⟩ := hx_rf hT gx tt_9 (k := 19) (u := 8) rfl
  obtain ⟨ql, f_ql, g_ql⟩ := hx_rf hT g_qw tt_8 (k := 3) (u := 40) rfl
  have pf_ql := il qw ql f_qw f_ql
  obtain ⟨nw, f_m_now⟩ : ∃ y : Int32, hl1.2.1 am 0 = y := ⟨_, rfl⟩
  have b_nw := hT.gi gm tt_10 (k := 0) rfl
  rw [f_m_now] at b_nw
  have b_nw : 0 ≤ nw.toInt ∧ nw.toInt ≤ 7999 := b_nw
  obtain ⟨np, f_m_persons⟩ : ∃ y : Int32, hl1.2.1 am 20 = y := ⟨_, rfl⟩
  have b_np := hT.gi gm tt_10 (k := 20) rfl
  rw [f_m_persons] at b_np
  have b_np : 0 ≤ np.toInt ∧ np.toInt ≤ 40 := b_np
  obtain ⟨c0, f_m_claims⟩ : ∃ y : Int32, hl1.2.1 am 36 = y := ⟨_, rfl⟩
  have b_c0 := hT.gi gm tt_10 (k := 36) rfl
  rw [f_m_claims] at b_c0
  have b_c0 : 0 ≤ c0.toInt ∧ c0.toInt ≤ 100 := b_c0
  obtain ⟨tl, f_m_taped⟩ : ∃ y : Int32, hl1.2.1 am 7 = y := ⟨_, rfl⟩
  have b_tl := hT.gi gm tt_10 (k := 7) rfl
  rw [f_m_taped] at b_tl
  have b_tl : 0 ≤ tl.toInt ∧ tl.toInt ≤ 400 := b_tl
  obtain ⟨a0, f_m_acts⟩ : ∃ y : Int32, hl1.2.1 am 1 = y := ⟨_, rfl⟩
  have b_a0 := hT.gi gm tt_10 (k := 1) rfl
  rw [f_m_acts] at b_a0
  have b_a0 : 0 ≤ a0.toInt ∧ a0.toInt ≤ 8 := b_a0
  obtain ⟨ln, f_m_lines⟩ : ∃ y : Int32, hl1.2.1 am 29 = y := ⟨_, rfl⟩
  have b_ln := hT.gi gm tt_10 (k := 29) rfl
  rw [f_m_lines] at b_ln
  have b_ln : 0 ≤ ln.toInt ∧ ln.toInt ≤ 400 := b_ln
  obtain ⟨lsd, f_m_listed⟩ : ∃ y : Int32, hl1.2.1 am 90 = y := ⟨_, rfl⟩
  have b_lsd := hT.gi gm tt_10 (k := 90) rfl
  rw [f_m_listed] at b_lsd
  have b_lsd : 0 ≤ lsd.toInt ∧ lsd.toInt ≤ 8 := b_lsd
  obtain ⟨wkm, f_m_walkedMany⟩ : ∃ y : Int32, hl1.2.1 am 92 = y := ⟨_, rfl⟩
  have b_wkm := hT.gi gm tt_10 (k := 92) rfl
  rw [f_m_walkedMany] at b_wkm
  have b_wkm : 0 ≤ wkm.toInt ∧ wkm.toInt ≤ 8 := b_wkm
  obtain ⟨m0, f_m_heardMany⟩ : ∃ y : Int32, hl1.2.1 am 57 = y := ⟨_, rfl⟩
  have b_m0 := hT.gi gm tt_10 (k := 57) rfl
  rw [f_m_heardMany] at b_m0
  have b_m0 : 0 ≤ m0.toInt ∧ m0.toInt ≤ 100 := b_m0
  have f_x_now : hl1.2.1 ax 2 = nw := he_nw.trans f_m_now
  have f_x_personCount : hl1.2.1 ax 8 = np := he_np.trans f_m_persons
  have f_x_claimCount : hl1.2.1 ax 11 = c0 := he_c0.trans f_m_claims
  have f_x_tapeLength : hl1.2.1 ax 1 = tl := he_tl.trans f_m_taped
  have f_x_actCount : hl1.2.1 ax 6 = a0 := he_a0.trans f_m_acts
  obtain ⟨mw, f_mw, g_mw⟩ := hx_rf hT gm tt_10 (k := 19) (u := 57) rfl
  obtain ⟨F_mw, n_mw⟩ : ∃ g : Nat → Int32, hl1.2.1 mw = g := ⟨_, rfl⟩
  obtain ⟨mr, f_mr, g_mr⟩ := hx_rf hT gm tt_10 (k := 3) (u := 50) rfl
  obtain ⟨F_mr, n_mr⟩ : ∃ g : Nat → Int32, hl1.2.1 mr = g := ⟨_, rfl⟩
  obtain ⟨mp, f_mp, g_mp⟩ := hx_rf hT gm tt_10 (k := 5) (u := 52) rfl
  obtain ⟨F_mp, n_mp⟩ : ∃ g : Nat → Int32, hl1.2.1 mp = g := ⟨_, rfl⟩
  obtain ⟨mn, f_mn, g_mn⟩ := hx_rf hT gm tt_10 (k := 4) (u := 51) rfl
  obtain ⟨F_mn, n_mn⟩ : ∃ g : Nat → Int32, hl1.2.1 mn = g := ⟨_, rfl⟩
  obtain ⟨ml, f_ml, g_ml⟩ := hx_rf hT gm tt_10 (k := 44) (u := 79) rfl
  obtain ⟨F_ml, n_ml⟩ : ∃ g : Nat → Int32, hl1.2.1 ml = g := ⟨_, rfl⟩
  obtain ⟨mh, f_mh, g_mh⟩ := hx_rf hT gm tt_10 (k := 47) (u := 82) rfl
  obtain ⟨F_mh, n_mh⟩ : ∃ g : Nat → Int32, hl1.2.1 mh = g := ⟨_, rfl⟩
  obtain ⟨mt, f_mt, g_mt⟩ := hx_rf hT gm tt_10 (k := 45) (u := 80) rfl
  obtain ⟨F_mt, n_mt⟩ : ∃ g : Nat → Int32, hl1.2.1 mt = g := ⟨_, rfl⟩
  obtain ⟨m_fou, f_m_fou, g_m_fou⟩ := hx_rf hT gm tt_10 (k := 46) (u := 81) rfl
  obtain ⟨F_m_fou, n_m_fou⟩ : ∃ g : Nat → Int32, hl1.2.1 m_fou = g := ⟨_, rfl⟩
  obtain ⟨qo_ln, f_qo_ln, g_qo_ln⟩ := hx_rf hT gx tt_9 (k := 9) (u := 1) rfl
  have f_o_ln : hl1.2.1 qo_ln 0 = ln := (ho_ln qo_ln f_qo_ln).trans f_m_lines
  have f_o_lsd : hl1.2.1 qw 0 = lsd := (ho_lsd qw f_qw).trans f_m_listed
  have f_o_wkm : hl1.2.1 qw 1 = wkm := (ho_wkm qw f_qw).trans f_m_walkedMany
  have nu_qp := hn_qp qp f_qp; rw [f_x_personCount] at nu_qp
  have nu_qc := hn_qc qc f_qc; rw [f_x_claimCount] at nu_qc
  obtain ⟨b_of, f_b_of, g_b_of⟩ := hx_rf hT g_qo_ln tt_1 (k := 1) (u := 13) rfl
  obtain ⟨B_of, n_b_of⟩ : ∃ g : Nat → Int32, hl1.2.1 b_of = g := ⟨_, rfl⟩
  obtain ⟨m_of, f_m_of, g_m_of⟩ := hx_rf hT gm tt_10 (k := 30) (u := 66) rfl
  obtain ⟨F_of, n_m_of⟩ : ∃ g : Nat → Int32, hl1.2.1 m_of = g := ⟨_, rfl⟩
  have eb_of := hk_of qo_ln b_of m_of f_qo_ln f_b_of f_m_of; rw [n_b_of, n_m_of, f_o_ln] at eb_of
  obtain ⟨b_wf, f_b_wf, g_b_wf⟩ := hx_rf hT g_qo_ln tt_1 (k := 2) (u := 14) rfl
  obtain ⟨B_wf, n_b_wf⟩ : ∃ g : Nat → Int32, hl1.2.1 b_wf = g := ⟨_, rfl⟩
  obtain ⟨m_wf, f_m_wf, g_m_wf⟩ := hx_rf hT gm tt_10 (k := 31) (u := 67) rfl
  obtain ⟨F_wf, n_m_wf⟩ : ∃ g : Nat → Int32, hl1.2.1 m_wf = g := ⟨_, rfl⟩
  have eb_wf := hk_wf qo_ln b_wf m_wf f_qo_ln f_b_wf f_m_wf; rw [n_b_wf, n_m_wf, f_o_ln] at eb_wf
  obtain ⟨b_df, f_b_df, g_b_df⟩ := hx_rf hT g_qo_ln tt_1 (k := 3) (u := 15) rfl
  obtain ⟨B_df, n_b_df⟩ : ∃ g : Nat → Int32, hl1.2.1 b_df = g := ⟨_, rfl⟩
  obtain ⟨m_df, f_m_df, g_m_df⟩ := hx_rf hT gm tt_10 (k := 32) (u := 68) rfl
  obtain ⟨F_df, n_m_df⟩ : ∃ g : Nat → Int32, hl1.2.1 m_df = g := ⟨_, rfl⟩
  have eb_df := hk_df qo_ln b_df m_df f_qo_ln f_b_df f_m_df; rw [n_b_df, n_m_df, f_o_ln] at eb_df
  obtain ⟨b_kf, f_b_kf, g_b_kf⟩ := hx_rf hT g_qo_ln tt_1 (k := 4) (u := 16) rfl
  obtain ⟨B_kf, n_b_kf⟩ : ∃ g : Nat → Int32, hl1.2.1 b_kf = g := ⟨_, rfl⟩
  obtain ⟨m_kf, f_m_kf, g_m_kf⟩ := hx_rf hT gm tt_10 (k := 33) (u := 69) rfl
  obtain ⟨F_kf, n_m_kf⟩ : ∃ g : Nat → Int32, hl1.2.1 m_kf = g := ⟨_, rfl⟩
  have eb_kf := hk_kf qo_ln b_kf m_kf f_qo_ln f_b_kf f_m_kf; rw [n_b_kf, n_m_kf, f_o_ln] at eb_kf
  obtain ⟨b_sf, f_b_sf, g_b_sf⟩ := hx_rf hT g_qo_ln tt_1 (k := 5) (u := 17) rfl
  obtain ⟨B_sf, n_b_sf⟩ : ∃ g : Nat → Int32, hl1.2.1 b_sf = g := ⟨_, rfl⟩
  obtain ⟨m_sf, f_m_sf, g_m_sf⟩ := hx_rf hT gm tt_10 (k := 34) (u := 70) rfl
  obtain ⟨F_sf, n_m_sf⟩ : ∃ g : Nat → Int32, hl1.2.1 m_sf = g := ⟨_, rfl⟩
  have eb_sf := hk_sf qo_ln b_sf m_sf f_qo_ln f_b_sf f_m_sf; rw [n_b_sf, n_m_sf, f_o_ln] at eb_sf
  obtain ⟨b_bf, f_b_bf, g_b_bf⟩ := hx_rf hT g_qo_ln tt_1 (k := 6) (u := 18) rfl
  obtain ⟨bfL, n_b_bf⟩ : ∃ g : Nat → Int32, hl1.2.1 b_bf = g := ⟨_, rfl⟩
  obtain ⟨hBD, hDY⟩ := hkBD qo_ln b_df b_bf f_qo_ln f_b_df f_b_bf; rw [n_b_df, n_b_bf, f_o_ln] at hBD; rw [n_b_df, f_o_ln] at hDY
  have hBDm := hy_BD_c eb_df hBD
  have hDYm : hy_DY F_df ln.toInt.toNat := fun x hx => by rw [← eb_df x hx]; exact hDY x hx
  have sb_list := hLQ qw ql qc f_qw f_ql f_qc
  obtain ⟨m_lst, f_m_lst, g_m_lst⟩ := hx_rf hT gm tt_10 (k := 91) (u := 112) rfl
  obtain ⟨F_lst, n_lst⟩ : ∃ g : Nat → Int32, hl1.2.1 m_lst = g := ⟨_, rfl⟩
  obtain ⟨c_lst, cl_lst⟩ : ∃ g : Nat → Int32, hx_col 8 hl1 ql 0 = g := ⟨_, rfl⟩
  have eq_lst := hLE qw ql m_lst f_qw f_ql f_m_lst; rw [cl_lst, n_lst] at eq_lst
  obtain ⟨qtp, f_qtp, g_qtp⟩ := hx_rf hT gx tt_9 (k := 0) (u := 42) rfl
  obtain ⟨m_tp, f_m_tp, g_m_tp⟩ := hx_rf hT gm tt_10 (k := 6) (u := 53) rfl
  obtain ⟨F_tp, n_tp⟩ : ∃ g : Nat → Int32, hl1.2.1 m_tp = g := ⟨_, rfl⟩
  have n_qtp : hl1.2.1 qtp = F_tp := (hkTP qtp m_tp f_qtp f_m_tp).trans n_tp
  obtain ⟨c_dead, cl_dead⟩ : ∃ g : Nat → Int32, hx_col 40 hl1 qp 7 = g := ⟨_, rfl⟩
  obtain ⟨m_dead, f_m_dead, g_m_dead⟩ := hx_rf hT gm tt_10 (k := 27) (u := 64) rfl
  obtain ⟨F_dead, n_dead⟩ : ∃ g : Nat → Int32, hl1.2.1 m_dead = g := ⟨_, rfl⟩
  have eq_dead := hc_dead qp m_dead f_qp f_m_dead; rw [cl_dead, n_dead] at eq_dead
  have z_dead : np.toInt.toNat < 40 → c_dead np.toInt.toNat = 0 := fun hj => hx_num_z nu_qp cl_dead hj (by omega)
  obtain ⟨c_isj, cl_isj⟩ : ∃ g : Nat → Int32, hx_col 40 hl1 qp 8 = g := ⟨_, rfl⟩
  obtain ⟨m_isj, f_m_isj, g_m_isj⟩ := hx_rf hT gm tt_10 (k := 28) (u := 65) rfl
  obtain ⟨F_isj, n_isj⟩ : ∃ g : Nat → Int32, hl1.2.1 m_isj = g := ⟨_, rfl⟩
  have eq_isj := hc_isj qp m_isj f_qp f_m_isj; rw [cl_isj, n_isj] at eq_isj
  have z_isj : np.toInt.toNat < 40 → c_isj np.toInt.toNat = 0 := fun hj => hx_num_z nu_qp cl_isj hj (by omega)
  obtain ⟨c_dox, cl_dox⟩ : ∃ g : Nat → Int32, hx_col 40 hl1 qp 5 = g := ⟨_, rfl⟩
  obtain ⟨m_dox, f_m_dox, g_m_dox⟩ := hx_rf hT gm tt_10 (k := 24) (u := 61) rfl
  obtain ⟨F_dox, n_dox⟩ : ∃ g : Nat → Int32, hl1.2.1 m_dox = g := ⟨_, rfl⟩
  have eq_dox := hc_dox qp m_dox f_qp f_m_dox; rw [cl_dox, n_dox] at eq_dox
  have z_dox : np.toInt.toNat < 40 → c_dox np.toInt.toNat = 0 := fun hj => hx_num_z nu_qp cl_dox hj (by omega)
  obtain ⟨c_doy, cl_doy⟩ : ∃ g : Nat → Int32, hx_col 40 hl1 qp 6 = g := ⟨_, rfl⟩
  obtain ⟨m_doy, f_m_doy, g_m_doy⟩ := hx_rf hT gm tt_10 (k := 25) (u := 62) rfl
  obtain ⟨F_doy, n_doy⟩ : ∃ g : Nat → Int32, hl1.2.1 m_doy = g := ⟨_, rfl⟩
  have eq_doy := hc_doy qp m_doy f_qp f_m_doy; rw [cl_doy, n_doy] at eq_doy
  have z_doy : np.toInt.toNat < 40 → c_doy np.toInt.toNat = 0 := fun hj => hx_num_z nu_qp cl_doy hj (by omega)
  obtain ⟨c_fou, cl_fou⟩ : ∃ g : Nat → Int32, hx_col 100 hl1 qc 10 = g := ⟨_, rfl⟩
  have eq_fou := hc_fou qc m_fou f_qc f_m_fou; rw [cl_fou, n_m_fou] at eq_fou
  have z_fou : c0.toInt.toNat < 100 → c_fou c0.toInt.toNat = 0 := fun hj => hx_num_z nu_qc cl_fou hj (by omega)
  obtain ⟨c_tri, cl_tri⟩ : ∃ g : Nat → Int32, hx_col 100 hl1 qc 9 = g := ⟨_, rfl⟩
  have eq_tri := hc_tri qc mt f_qc f_mt; rw [cl_tri, n_mt] at eq_tri
  have z_tri : c0.toInt.toNat < 100 → c_tri c0.toInt.toNat = 0 := fun hj => hx_num_z nu_qc cl_tri hj (by omega)
  obtain ⟨qlt, f_qlt, g_qlt⟩ := hx_rf hT g_qw tt_8 (k := 2) (u := 39) rfl
  obtain ⟨qlf, f_qlf, g_qlf⟩ := hx_rf hT g_qw tt_8 (k := 4) (u := 41) rfl
  obtain ⟨m_wkd, f_m_wkd, g_m_wkd⟩ := hx_rf hT gm tt_10 (k := 93) (u := 113) rfl
  obtain ⟨F_qlt, n_qlt⟩ : ∃ g : Nat → Int32, hl1.2.1 qlt = g := ⟨_, rfl⟩
  obtain ⟨F_m_wkd, n_m_wkd⟩ : ∃ g : Nat → Int32, hl1.2.1 m_wkd = g := ⟨_, rfl⟩
  have eb_wkd := hkWD qw qlt m_wkd f_qw f_qlt f_m_wkd; rw [n_qlt, n_m_wkd, f_o_wkm] at eb_wkd
  obtain ⟨m_aga, f_m_aga, g_m_aga⟩ := hx_rf hT gm tt_10 (k := 38) (u := 73) rfl
  obtain ⟨F_aga, n_aga⟩ : ∃ g : Nat → Int32, hl1.2.1 m_aga = g := ⟨_, rfl⟩
  have hDF := hkDF qc qp m_aga f_qc f_qp f_m_aga; rw [n_aga, f_x_claimCount] at hDF
  obtain ⟨qwo, f_qwo, g_qwo⟩ := hx_rf hT gx tt_9 (k := 4) (u := 0) rfl
  obtain ⟨m_ad, f_m_ad, g_m_ad⟩ := hx_rf hT gm tt_10 (k := 2) (u := 49) rfl
  obtain ⟨F_ad, n_ad⟩ : ∃ g : Nat → Int32, hl1.2.1 m_ad = g := ⟨_, rfl⟩
  obtain ⟨A9, hRA9, hCA9⟩ := hkAC qa qwo m_ad mr mn mp f_qa f_qwo f_m_ad f_mr f_mn f_mp
  rw [f_x_actCount] at hRA9; rw [f_x_actCount, n_ad, n_mr, n_mn, n_mp] at hCA9
  have hwd := jw mw f_mw; rw [n_mw] at hwd
  have hWK := jr mr f_mr; rw [n_mr, f_m_acts] at hWK
  have hRP := jp mp mn f_mp f_mn; rw [n_mp, n_mn, f_m_acts] at hRP
  have hPL := jl ml f_ml; rw [n_ml, f_m_claims, f_m_acts] at hPL
  have hHC := jh mh f_mh; rw [n_mh, f_m_heardMany, f_m_claims] at hHC
  have hTR := jt mt f_mt; rw [n_mt] at hTR
  have hHF := jf mh m_fou f_mh f_m_fou; rw [n_mh, n_m_fou, f_m_claims] at hHF
  refine lv_aload_n hx hb dL_law_281 rfl (lv_at hl 2 rfl) ?_
  refine lv_aload_n hx hb dL_law_282 rfl (lv_at hl 3 rfl) ?_
  refine lv_iload_n hx hb dL_law_283 rfl (lv_at hl 0 rfl) ?_
  refine lv_iconst (v := 1) hx hb dL_law_284 (by decide) ?_
  refine lv_iadd hx hb dL_law_285 ?_
  have rg_70 := i32_r i
  refine lv_topi (fun x_71 ex_71 => ?_)
  have zx_71 : x_71.toInt = i.toInt + 1 := by rw [ex_71]; exact i32_add rfl (by decide) (by omega) (by omega)
  refine va_sld hx hb hX hbl hbA hW.2.2.2.1 (vp_in_iff.mpr ⟨by omega, by omega⟩) dL_law_286 ?_
  refine lv_topi (fun x_72 ex_72 => ?_)
  have hTo := hT
  refine hx_goi (hx_runVX (As := [.int x_72]) (rest := []) ⟨hx, hb, hml, hown, hts⟩ hW gx tt_9 (T := TX9) (N := 20) rfl (t_X9_act_v l dC dI dA L1 hl1 H.size b0 ax x_72 hT gx qa g_qa f_qa qtp g_qtp f_qtp qwo g_qwo f_qwo F_tp n_qtp a0 f_x_actCount tl f_x_tapeLength A9 hRA9 pf_qa) hZ (cwV 1 hts (hx_gV kw_450 kw_447 kw_448 kw_449 kw_94) rfl rfl rfl (by decide +kernel) ⟨Nat.le_of_ble_eq_true rfl, Nat.le_of_ble_eq_true rfl⟩) rfl hl.1 rfl (Nat.le_of_ble_eq_true rfl) dL_law_287 ⟨(show CC + 3 ≤ 600000 from by omega), (show SS + 179 ≤ 7302250 from by omega)⟩) hW (fun r_75 L_73 h_74 H locs p_76 hW => ?_)
  obtain ⟨⟨w_79, w_80, fw_79, fw_80, hr_77⟩, hT, hs, pf_78⟩ := p_76
  replace hT : hx_T T_tb L_73 h_74 := hT
  replace hs : hx_S T_tb [(6, 0), (6, 1), (6, 2), (6, 3), (6, 4), (6, 5), (6, 6), (9, 1), (9, 6), (43, 0), (116, 0), (116, 1), (116, 2), (116, 3), (116, 4), (127, 0), (128, 0), (129, 4)] L1 hl1 L_73 h_74 := hs
  replace f_qa := (hs.o gx trivial rfl).2.trans f_qa
  replace f_qp := (hs.o gx trivial rfl).2.trans f_qp
  replace f_qc := (hs.o gx trivial rfl).2.trans f_qc
  replace f_qh := (hs.o gx trivial rfl).2.trans f_qh
  replace f_qw := (hs.o gx trivial rfl).2.trans f_qw
  replace f_ql := (hs.o g_qw trivial rfl).2.trans f_ql
  replace f_m_now := (hs.o gm trivial rfl).1.trans f_m_now
  replace f_m_persons := (hs.o gm trivial rfl).1.trans f_m_persons
  replace f_m_claims := (hs.o gm trivial rfl).1.trans f_m_claims
  replace f_m_taped := (hs.o gm trivial rfl).1.trans f_m_taped
  replace f_m_acts := (hs.o gm trivial rfl).1.trans f_m_acts
  replace f_m_lines := (hs.o gm trivial rfl).1.trans f_m_lines
  replace f_m_listed := (hs.o gm trivial rfl).1.trans f_m_listed
  replace f_m_walkedMany := (hs.o gm trivial rfl).1.trans f_m_walkedMany
  replace f_m_heardMany := (hs.o gm trivial rfl).1.trans f_m_heardMany
  replace f_x_now := (hs.o gx trivial rfl).1.trans f_x_now
  replace f_x_personCount := (hs.o gx trivial rfl).1.trans f_x_personCount
  replace f_x_claimCount := (hs.o gx trivial rfl).1.trans f_x_claimCount
  replace f_mw := (hs.o gm trivial rfl).2.trans f_mw
  replace f_mr := (hs.o gm trivial rfl).2.trans f_mr
  replace f_mp := (hs.o gm trivial rfl).2.trans f_mp
  replace f_mn := (hs.o gm trivial rfl).2.trans f_mn
  replace f_ml := (hs.o gm trivial rfl).2.trans f_ml
  replace f_mh := (hs.o gm trivial rfl).2.trans f_mh
  replace f_mt := (hs.o gm trivial rfl).2.trans f_mt
  replace f_m_fou := (hs.o gm trivial rfl).2.trans f_m_fou
  replace f_qo_ln := (hs.o gx trivial rfl).2.trans f_qo_ln
  replace f_o_ln := (hs.o g_qo_ln trivial rfl).1.trans f_o_ln
  replace f_o_lsd := (hs.o g_qw trivial rfl).1.trans f_o_lsd
  replace f_o_wkm := (hs.o g_qw trivial rfl).1.trans f_o_wkm
  replace f_b_of := (hs.o g_qo_ln trivial rfl).2.trans f_b_of
  replace f_m_of := (hs.o gm trivial rfl).2.trans f_m_of
  replace f_b_wf := (hs.o g_qo_ln trivial rfl).2.trans f_b_wf
  replace f_m_wf := (hs.o gm trivial rfl).2.trans f_m_wf
  replace f_b_df := (hs.o g_qo_ln trivial rfl).2.trans f_b_df
  replace f_m_df := (hs.o gm trivial rfl).2.trans f_m_df
  replace f_b_kf := (hs.o g_qo_ln trivial rfl).2.trans f_b_kf
  replace f_m_kf := (hs.o gm trivial rfl).2.trans f_m_kf
  replace f_b_sf := (hs.o g_qo_ln trivial rfl).2.trans f_b_sf
  replace f_m_sf := (hs.o gm trivial rfl).2.trans f_m_sf
  replace f_b_bf := (hs.o g_qo_ln trivial rfl).2.trans f_b_bf
  replace f_m_lst := (hs.o gm trivial rfl).2.trans f_m_lst
  replace f_qtp := (hs.o gx trivial rfl).2.trans f_qtp
  replace f_m_tp := (hs.o gm trivial rfl).2.trans f_m_tp
  replace f_m_dead := (hs.o gm trivial rfl).2.trans f_m_dead
  replace f_m_isj := (hs.o gm trivial rfl).2.trans f_m_isj
  replace f_m_dox := (hs.o gm trivial rfl).2.trans f_m_dox
  replace f_m_doy := (hs.o gm trivial rfl).2.trans f_m_doy
  replace f_qlt := (hs.o g_qw trivial rfl).2.trans f_qlt
  replace f_qlf := (hs.o g_qw trivial rfl).2.trans f_qlf
  replace f_m_wkd := (hs.o gm trivial rfl).2.trans f_m_wkd
  replace f_m_aga := (hs.o gm trivial rfl).2.trans f_m_aga
  replace f_qwo := (hs.o gx trivial rfl).2.trans f_qwo
  replace f_m_ad := (hs.o gm trivial rfl).2.trans f_m_ad
  replace pf_qp : ∀ j : Nat, (j : Int) < (h_74.2.1 ax 8).toInt → h_74.2.2 qp j ≠ none := by
    intro j hj; rw [(hs.o gx trivial rfl).1] at hj; rw [(hs.a g_qp rfl j).2]; exact pf_qp j hj
  replace pf_qc : ∀ j : Nat, (j : Int) < (h_74.2.1 ax 11).toInt → h_74.2.2 qc j ≠ none := by
    intro j hj; rw [(hs.o gx trivial rfl).1] at hj; rw [(hs.a g_qc rfl j).2]; exact pf_qc j hj
  replace pf_qh : ∀ j : Nat, (j : Int) < (h_74.2.1 ax 13).toInt → h_74.2.2 qh j ≠ none := by
    intro j hj; rw [(hs.o gx trivial rfl).1] at hj; rw [(hs.a g_qh rfl j).2]; exact pf_qh j hj
  replace pf_ql : ∀ j : Nat, (j : Int) < (h_74.2.1 qw 0).toInt → h_74.2.2 ql j ≠ none := by
    intro j hj; rw [(hs.o g_qw trivial rfl).1] at hj; rw [(hs.a g_ql rfl j).2]; exact pf_ql j hj
  replace cl_lst : hx_col 8 h_74 ql 0 = c_lst := (hx_col_S hs hTo g_ql tt_40 tt_2 rfl rfl).trans cl_lst
  replace cl_dead : hx_col 40 h_74 qp 7 = c_dead := (hx_col_S hs hTo g_qp tt_44 tt_4 rfl rfl).trans cl_dead
  replace cl_isj : hx_col 40 h_74 qp 8 = c_isj := (hx_col_S hs hTo g_qp tt_44 tt_4 rfl rfl).trans cl_isj
  replace cl_dox : hx_col 40 h_74 qp 5 = c_dox := (hx_col_S hs hTo g_qp tt_44 tt_4 rfl rfl).trans cl_dox
  replace cl_doy : hx_col 40 h_74 qp 6 = c_doy := (hx_col_S hs hTo g_qp tt_44 tt_4 rfl rfl).trans cl_doy
  replace cl_fou : hx_col 100 h_74 qc 10 = c_fou := (hx_col_S hs hTo g_qc tt_45 tt_2 rfl rfl).trans cl_fou
  replace cl_tri : hx_col 100 h_74 qc 9 = c_tri := (hx_col_S hs hTo g_qc tt_45 tt_2 rfl rfl).trans cl_tri
  replace nu_qp : hx_num 40 h_74 qp 0 (np.toInt) := hx_num_S hs hTo g_qp tt_44 tt_4 rfl rfl nu_qp
  replace nu_qc : hx_num 100 h_74 qc 0 (c0.toInt) := hx_num_S hs hTo g_qc tt_45 tt_2 rfl rfl nu_qc
  replace sb_list : hx_LQ 8 100 h_74 ql qc := hx_LQ_S hs g_ql g_qc rfl rfl sb_list
  replace hDF : hw_DF h_74 qc qp 2 F_aga c0.toInt := hw_DF_S hs hTo g_qc g_qp tt_45 tt_2 rfl rfl rfl hDF
  replace n_mw : h_74.2.1 mw = F_mw := (funext fun j => (hs.a g_mw rfl j).1).trans n_mw
  replace n_mr : h_74.2.1 mr = F_mr := (funext fun j => (hs.a g_mr rfl j).1).trans n_mr
  replace n_mp : h_74.2.1 mp = F_mp := (funext fun j => (hs.a g_mp rfl j).1).trans n_mp
  replace n_mn : h_74.2.1 mn = F_mn := (funext fun j => (hs.a g_mn rfl j).1).trans n_mn
  replace n_ml : h_74.2.1 ml = F_ml := (funext fun j => (hs.a g_ml rfl j).1).trans n_ml
  replace n_mh : h_74.2.1 mh = F_mh := (funext fun j => (hs.a g_mh rfl j).1).trans n_mh
  replace n_mt : h_74.2.1 mt = F_mt := (funext fun j => (hs.a g_mt rfl j).1).trans n_mt
  replace n_m_fou : h_74.2.1 m_fou = F_m_fou := (funext fun j => (hs.a g_m_fou rfl j).1).trans n_m_fou
  replace n_b_of : h_74.2.1 b_of = B_of := (funext fun j => (hs.a g_b_of rfl j).1).trans n_b_of
  replace n_m_of : h_74.2.1 m_of = F_of := (funext fun j => (hs.a g_m_of rfl j).1).trans n_m_of
  replace n_b_wf : h_74.2.1 b_wf = B_wf := (funext fun j => (hs.a g_b_wf rfl j).1).trans n_b_wf
  replace n_m_wf : h_74.2.1 m_wf = F_wf := (funext fun j => (hs.a g_m_wf rfl j).1).trans n_m_wf
  replace n_b_df : h_74.2.1 b_df = B_df := (funext fun j => (hs.a g_b_df rfl j).1).trans n_b_df
  replace n_m_df : h_74.2.1 m_df = F_df := (funext fun j => (hs.a g_m_df rfl j).1).trans n_m_df
  replace n_b_kf : h_74.2.1 b_kf = B_kf := (funext fun j => (hs.a g_b_kf rfl j).1).trans n_b_kf
  replace n_m_kf : h_74.2.1 m_kf = F_kf := (funext fun j => (hs.a g_m_kf rfl j).1).trans n_m_kf
  replace n_b_sf : h_74.2.1 b_sf = B_sf := (funext fun j => (hs.a g_b_sf rfl j).1).trans n_b_sf
  replace n_m_sf : h_74.2.1 m_sf = F_sf := (funext fun j => (hs.a g_m_sf rfl j).1).trans n_m_sf
  replace n_b_bf : h_74.2.1 b_bf = bfL := (funext fun j => (hs.a g_b_bf rfl j).1).trans n_b_bf
  replace n_lst : h_74.2.1 m_lst = F_lst := (funext fun j => (hs.a g_m_lst rfl j).1).trans n_lst
  replace n_tp : h_74.2.1 m_tp = F_tp := (funext fun j => (hs.a g_m_tp rfl j).1).trans n_tp
  replace n_qtp : h_74.2.1 qtp = F_tp := (funext fun j => (hs.a g_qtp rfl j).1).trans n_qtp
  replace n_dead : h_74.2.1 m_dead = F_dead := (funext fun j => (hs.a g_m_dead rfl j).1).trans n_dead
  replace n_isj : h_74.2.1 m_isj = F_isj := (funext fun j => (hs.a g_m_isj rfl j).1).trans n_isj
  replace n_dox : h_74.2.1 m_dox = F_dox := (funext fun j => (hs.a g_m_dox rfl j).1).trans n_dox
  replace n_doy : h_74.2.1 m_doy = F_doy := (funext fun j => (hs.a g_m_doy rfl j).1).trans n_doy
  replace n_qlt : h_74.2.1 qlt = F_qlt := (funext fun j => (hs.a g_qlt rfl j).1).trans n_qlt
  replace n_m_wkd : h_74.2.1 m_wkd = F_m_wkd := (funext fun j => (hs.a g_m_wkd rfl j).1).trans n_m_wkd
  replace n_aga : h_74.2.1 m_aga = F_aga := (funext fun j => (hs.a g_m_aga rfl j).1).trans n_aga
  replace n_ad : h_74.2.1 m_ad = F_ad := (funext fun j => (hs.a g_m_ad rfl j).1).trans n_ad
  replace gx := gx.S hs
  replace gm := gm.S hs
  replace g_qa := g_qa.S hs
  replace g_qp := g_qp.S hs
  replace g_qc := g_qc.S hs
  replace g_qh := g_qh.S hs
  replace g_qw := g_qw.S hs
  replace g_ql := g_ql.S hs
  replace g_mw := g_mw.S hs
  replace g_mr := g_mr.S hs
  replace g_mp := g_mp.S hs
  replace g_mn := g_mn.S hs
  replace g_ml := g_ml.S hs
  replace g_mh := g_mh.S hs
  replace g_mt := g_mt.S hs
  replace g_m_fou := g_m_fou.S hs
  replace g_qo_ln := g_qo_ln.S hs
  replace g_b_of := g_b_of.S hs
  replace g_m_of := g_m_of.S hs
  replace g_b_wf := g_b_wf.S hs
  replace g_m_wf := g_m_wf.S hs
  replace g_b_df := g_b_df.S hs
  replace g_m_df := g_m_df.S hs
  replace g_b_kf := g_b_kf.S hs
  replace g_m_kf := g_m_kf.S hs
  replace g_b_sf := g_b_sf.S hs
  replace g_m_sf := g_m_sf.S hs
  replace g_b_bf := g_b_bf.S hs
  replace g_m_lst := g_m_lst.S hs
  replace g_qtp := g_qtp.S hs
  replace g_m_tp := g_m_tp.S hs
  replace g_m_dead := g_m_dead.S hs
  replace g_m_isj := g_m_isj.S hs
  replace g_m_dox := g_m_dox.S hs
  replace g_m_doy := g_m_doy.S hs
  replace g_qlt := g_qlt.S hs
  replace g_qlf := g_qlf.S hs
  replace g_m_wkd := g_m_wkd.S hs
  replace g_m_aga := g_m_aga.S hs
  replace g_qwo := g_qwo.S hs
  replace g_m_ad := g_m_ad.S hs
  have pf_78 : ∀ j : Nat, (j : Int) < (h_74.2.1 ax 6).toInt → h_74.2.2 qa j ≠ none := pf_78
  have fw_79 : h_74.2.1 ax 6 = w_79 := fw_79
  have bw_79 := hT.gi gx tt_9 (k := 6) rfl
  rw [fw_79] at bw_79
  have bw_79 : 0 ≤ w_79.toInt ∧ w_79.toInt ≤ 8 := bw_79
  have fw_80 : h_74.2.1 ax 1 = w_80 := fw_80
  have bw_80 := hT.gi gx tt_9 (k := 1) rfl
  rw [fw_80] at bw_80
  have bw_80 : 0 ≤ w_80.toInt ∧ w_80.toInt ≤ 400 := bw_80
  obtain ⟨hr_77, A1_9, hAU9, hRA19⟩ := hr_77
  have hRA19 : hv_RA h_74 qa qwo w_79.toInt A1_9 := hRA19
  refine lv_pop hx hb dL_law_290 rfl ?_
  refine lv_aload_n hx hb dL_law_291 rfl (lv_at hl 1 rfl) ?_
  refine lv_aload_n hx hb dL_law_292 rfl (lv_at hl 3 rfl) ?_
  refine lv_iload_n hx hb dL_law_293 rfl (lv_at hl 0 rfl) ?_
  refine lv_iconst (v := 1) hx hb dL_law_294 (by decide) ?_
  refine lv_iadd hx hb dL_law_295 ?_
  refine lv_topi (fun x_81 ex_81 => ?_)
  have zx_81 : x_81.toInt = i.toInt + 1 := by rw [ex_81]; exact i32_add rfl (by decide) (by omega) (by omega)
  obtain rfl : x_71 = x_81 := ex_71.trans ex_81.symm
  refine va_sld hx hb hX hbl hbA hW.2.2.2.1 (vp_in_iff.mpr ⟨by omega, by omega⟩) dL_law_296 ?_
  refine lv_topi (fun x_82 ex_82 => ?_)
  obtain rfl : x_72 = x_82 := ex_72.trans ex_82.symm
  have hTo := hT
  obtain ⟨q_83, fq_83, gq_83⟩ := hx_rf hT gm tt_10 (k := 15) (u := 55) rfl
  obtain ⟨q_84, fq_84, gq_84⟩ := hx_rf hT gm tt_10 (k := 17) (u := 56) rfl
  obtain ⟨q_85, fq_85, gq_85⟩ := hx_rf hT gm tt_10 (k := 12) (u := 54) rfl
  obtain ⟨fa_86, nfa_86⟩ : ∃ g : Nat → Int32, h_74.2.1 q_83 = g := ⟨_, rfl⟩
  obtain ⟨fa_87, nfa_87⟩ : ∃ g : Nat → Int32, h_74.2.1 q_84 = g := ⟨_, rfl⟩
  obtain ⟨fa_88, nfa_88⟩ : ∃ g : Nat → Int32, h_74.2.1 q_85 = g := ⟨_, rfl⟩
  refine hx_goi (hx_runV (As := [.int x_72]) (rest := []) ⟨hx, hb, hml, hown, hts⟩ hW gm tt_10 (T := TX10) (N := 98) rfl (t_X10_act_v l dC dI dA L_73 h_74 H.size am x_72 hT gm q_83 gq_83 fq_83 q_84 gq_84 fq_84 m_tp g_m_tp f_m_tp mw g_mw f_mw q_85 gq_85 fq_85 mr g_mr f_mr mn g_mn f_mn mp g_mp f_mp m_ad g_m_ad f_m_ad fa_86 nfa_86 fa_87 nfa_87 F_tp n_tp F_mw n_mw fa_88 nfa_88 F_mr n_mr F_mn n_mn F_mp n_mp F_ad n_ad a0 f_m_acts tl f_m_taped hWK hRP hwd A9 hCA9) (cwV 1 hts (hx_gV kw_1461 kw_1458 kw_1459 kw_1460 kw_103) rfl rfl rfl (by decide +kernel) ⟨Nat.le_of_ble_eq_true rfl, Nat.le_of_ble_eq_true rfl⟩) rfl hl.1 rfl (Nat.le_of_ble_eq_true rfl) dL_law_297 ⟨(show CC + 3 + 0 ≤ 600000 from by omega), (show SS + 179 + 0 ≤ 7302250 from by omega)⟩) hW (fun r_91 L_89 h_90 H locs p_92 hW => ?_)
  obtain ⟨⟨w_94, w_95, w_96, w_97, w_98, w_99, fw_94, fw_95, fw_96, fw_97, fw_98, fw_99, hr_93⟩, hT, hs⟩ := p_92
  replace hT : hx_T T_tb L_89 h_90 := hT
  replace hs : hx_S T_tb [(10, 1), (10, 7), (10, 8), (10, 9), (10, 10), (10, 11), (10, 13), (10, 14), (10, 16), (10, 18), (49, 0), (50, 0), (51, 0), (52, 0), (54, 0), (55, 0), (56, 0)] L_73 h_74 L_89 h_90 := hs
  replace f_qa := (hs.o gx trivial rfl).2.trans f_qa
  replace f_qp := (hs.o gx trivial rfl).2.trans f_qp
  replace f_qc := (hs.o gx trivial rfl).2.trans f_qc
  replace f_qh := (hs.o gx trivial rfl).2.trans f_qh
  replace f_qw := (hs.o gx trivial rfl).2.trans f_qw
  replace f_ql := (hs.o g_qw trivial rfl).2.trans f_ql
  replace f_m_now := (hs.o gm trivial rfl).1.trans f_m_now
  replace f_m_persons := (hs.o gm trivial rfl).1.trans f_m_persons
  replace f_m_claims := (hs.o gm trivial rfl).1.trans f_m_claims
  replace f_m_lines := (hs.o gm trivial rfl).1.trans f_m_lines
  replace f_m_listed := (hs.o gm trivial rfl).1.trans f_m_listed
  replace f_m_walkedMany := (hs.o gm trivial rfl).1.trans f_m_walkedMany
  replace f_m_heardMany := (hs.o gm trivial rfl).1.trans f_m_heardMany
  replace f_x_now := (hs.o gx trivial rfl).1.trans f_x_now
  replace f_x_personCount := (hs.o gx trivial rfl).1.trans f_x_personCount
  replace f_x_claimCount := (hs.o gx trivial rfl).1.trans f_x_claimCount
  replace f_mw := (hs.o gm trivial rfl).2.trans f_mw
  replace f_mr := (hs.o gm trivial rfl).2.trans f_mr
  replace f_mp := (hs.o gm trivial rfl).2.trans f_mp
  replace f_mn := (hs.o gm trivial rfl).2.trans f_mn
  replace f_ml := (hs.o gm trivial rfl).2.trans f_ml
  replace f_mh := (hs.o gm trivial rfl).2.trans f_mh
  replace f_mt := (hs.o gm trivial rfl).2.trans f_mt
  replace f_m_fou := (hs.o gm trivial rfl).2.trans f_m_fou
  replace f_qo_ln := (hs.o gx trivial rfl).2.trans f_qo_ln
  replace f_o_ln := (hs.o g_qo_ln trivial rfl).1.trans f_o_ln
  replace f_o_lsd := (hs.o g_qw trivial rfl).1.trans f_o_lsd
  replace f_o_wkm := (hs.o g_qw trivial rfl).1.trans f_o_wkm
  replace f_b_of := (hs.o g_qo_ln trivial rfl).2.trans f_b_of
  replace f_m_of := (hs.o gm trivial rfl).2.trans f_m_of
  replace f_b_wf := (hs.o g_qo_ln trivial rfl).2.trans f_b_wf
  replace f_m_wf := (hs.o gm trivial rfl).2.trans f_m_wf
  replace f_b_df := (hs.o g_qo_ln trivial rfl).2.trans f_b_df
  replace f_m_df := (hs.o gm trivial rfl).2.trans f_m_df
  replace f_b_kf := (hs.o g_qo_ln trivial rfl).2.trans f_b_kf
  replace f_m_kf := (hs.o gm trivial rfl).2.trans f_m_kf
  replace f_b_sf := (hs.o g_qo_ln trivial rfl).2.trans f_b_sf
  replace f_m_sf := (hs.o gm trivial rfl).2.trans f_m_sf
  replace f_b_bf := (hs.o g_qo_ln trivial rfl).2.trans f_b_bf
  replace f_m_lst := (hs.o gm trivial rfl).2.trans f_m_lst
  replace f_qtp := (hs.o gx trivial rfl).2.trans f_qtp
  replace f_m_tp := (hs.o gm trivial rfl).2.trans f_m_tp
  replace f_m_dead := (hs.o gm trivial rfl).2.trans f_m_dead
  replace f_m_isj := (hs.o gm trivial rfl).2.trans f_m_isj
  replace f_m_dox := (hs.o gm trivial rfl).2.trans f_m_dox
  replace f_m_doy := (hs.o gm trivial rfl).2.trans f_m_doy
  replace f_qlt := (hs.o g_qw trivial rfl).2.trans f_qlt
  replace f_qlf := (hs.o g_qw trivial rfl).2.trans f_qlf
  replace f_m_wkd := (hs.o gm trivial rfl).2.trans f_m_wkd
  replace f_m_aga := (hs.o gm trivial rfl).2.trans f_m_aga
  replace f_qwo := (hs.o gx trivial rfl).2.trans f_qwo
  replace f_m_ad := (hs.o gm trivial rfl).2.trans f_m_ad
  replace fw_79 := (hs.o gx trivial rfl).1.trans fw_79
  replace fw_80 := (hs.o gx trivial rfl).1.trans fw_80
  replace fq_83 := (hs.o gm trivial rfl).2.trans fq_83
  replace fq_84 := (hs.o gm trivial rfl).2.trans fq_84
  replace fq_85 := (hs.o gm trivial rfl).2.trans fq_85
  replace pf_qp : ∀ j : Nat, (j : Int) < (h_90.2.1 ax 8).toInt → h_90.2.2 qp j ≠ none := by
    intro j hj; rw [(hs.o gx trivial rfl).1] at hj; rw [(hs.a g_qp rfl j).2]; exact pf_qp j hj
  replace pf_qc : ∀ j : Nat, (j : Int) < (h_90.2.1 ax 11).toInt → h_90.2.2 qc j ≠ none := by
    intro j hj; rw [(hs.o gx trivial rfl).1] at hj; rw [(hs.a g_qc rfl j).2]; exact pf_qc j hj
  replace pf_qh : ∀ j : Nat, (j : Int) < (h_90.2.1 ax 13).toInt → h_90.2.2 qh j ≠ none := by
    intro j hj; rw [(hs.o gx trivial rfl).1] at hj; rw [(hs.a g_qh rfl j).2]; exact pf_qh j hj
  replace pf_ql : ∀ j : Nat, (j : Int) < (h_90.2.1 qw 0).toInt → h_90.2.2 ql j ≠ none := by
    intro j hj; rw [(hs.o g_qw trivial rfl).1] at hj; rw [(hs.a g_ql rfl j).2]; exact pf_ql j hj
  replace pf_78 : ∀ j : Nat, (j : Int) < (h_90.2.1 ax 6).toInt → h_90.2.2 qa j ≠ none := by
    intro j hj; rw [(hs.o gx trivial rfl).1] at hj; rw [(hs.a g_qa rfl j).2]; exact pf_78 j hj
  replace cl_lst : hx_col 8 h_90 ql 0 = c_lst := (hx_col_S hs hTo g_ql tt_40 tt_2 rfl rfl).trans cl_lst
  replace cl_dead : hx_col 40 h_90 qp 7 = c_dead := (hx_col_S hs hTo g_qp tt_44 tt_4 rfl rfl).trans cl_dead
  replace cl_isj : hx_col 40 h_90 qp 8 = c_isj := (hx_col_S hs hTo g_qp tt_44 tt_4 rfl rfl).trans cl_isj
  replace cl_dox : hx_col 40 h_90 qp 5 = c_dox := (hx_col_S hs hTo g_qp tt_44 tt_4 rfl rfl).trans cl_dox
  replace cl_doy : hx_col 40 h_90 qp 6 = c_doy := (hx_col_S hs hTo g_qp tt_44 tt_4 rfl rfl).trans cl_doy
  replace cl_fou : hx_col 100 h_90 qc 10 = c_fou := (hx_col_S hs hTo g_qc tt_45 tt_2 rfl rfl).trans cl_fou
  replace cl_tri : hx_col 100 h_90 qc 9 = c_tri := (hx_col_S hs hTo g_qc tt_45 tt_2 rfl rfl).trans cl_tri
  replace nu_qp : hx_num 40 h_90 qp 0 (np.toInt) := hx_num_S hs hTo g_qp tt_44 tt_4 rfl rfl nu_qp
  replace nu_qc : hx_num 100 h_90 qc 0 (c0.toInt) := hx_num_S hs hTo g_qc tt_45 tt_2 rfl rfl nu_qc
  replace sb_list : hx_LQ 8 100 h_90 ql qc := hx_LQ_S hs g_ql g_qc rfl rfl sb_list
  replace hDF : hw_DF h_90 qc qp 2 F_aga c0.toInt := hw_DF_S hs hTo g_qc g_qp tt_45 tt_2 rfl rfl rfl hDF
  replace hRA19 : hv_RA h_90 qa qwo w_79.toInt A1_9 := hv_RA_S hs hTo g_qa g_qwo tt_43 tt_0 rfl rfl rfl rfl rfl rfl (by omega) hRA19
  replace n_mw : h_90.2.1 mw = F_mw := (funext fun j => (hs.a g_mw rfl j).1).trans n_mw
  replace n_ml : h_90.2.1 ml = F_ml := (funext fun j => (hs.a g_ml rfl j).1).trans n_ml
  replace n_mh : h_90.2.1 mh = F_mh := (funext fun j => (hs.a g_mh rfl j).1).trans n_mh
  replace n_mt : h_90.2.1 mt = F_mt := (funext fun j => (hs.a g_mt rfl j).1).trans n_mt
  replace n_m_fou : h_90.2.1 m_fou = F_m_fou := (funext fun j => (hs.a g_m_fou rfl j).1).trans n_m_fou
  replace n_b_of : h_90.2.1 b_of = B_of := (funext fun j => (hs.a g_b_of rfl j).1).trans n_b_of
  replace n_m_of : h_90.2.1 m_of = F_of := (funext fun j => (hs.a g_m_of rfl j).1).trans n_m_of
  replace n_b_wf : h_90.2.1 b_wf = B_wf := (funext fun j => (hs.a g_b_wf rfl j).1).trans n_b_wf
  replace n_m_wf : h_90.2.1 m_wf = F_wf := (funext fun j => (hs.a g_m_wf rfl j).1).trans n_m_wf
  replace n_b_df : h_90.2.1 b_df = B_df := (funext fun j => (hs.a g_b_df rfl j).1).trans n_b_df
  replace n_m_df : h_90.2.1 m_df = F_df := (funext fun j => (hs.a g_m_df rfl j).1).trans n_m_df
  replace n_b_kf : h_90.2.1 b_kf = B_kf := (funext fun j => (hs.a g_b_kf rfl j).1).trans n_b_kf
  replace n_m_kf : h_90.2.1 m_kf = F_kf := (funext fun j => (hs.a g_m_kf rfl j).1).trans n_m_kf
  replace n_b_sf : h_90.2.1 b_sf = B_sf := (funext fun j => (hs.a g_b_sf rfl j).1).trans n_b_sf
  replace n_m_sf : h_90.2.1 m_sf = F_sf := (funext fun j => (hs.a g_m_sf rfl j).1).trans n_m_sf
  replace n_b_bf : h_90.2.1 b_bf = bfL := (funext fun j => (hs.a g_b_bf rfl j).1).trans n_b_bf
  replace n_lst : h_90.2.1 m_lst = F_lst := (funext fun j => (hs.a g_m_lst rfl j).1).trans n_lst
  replace n_tp : h_90.2.1 m_tp = F_tp := (funext fun j => (hs.a g_m_tp rfl j).1).trans n_tp
  replace n_qtp : h_90.2.1 qtp = F_tp := (funext fun j => (hs.a g_qtp rfl j).1).trans n_qtp
  replace n_dead : h_90.2.1 m_dead = F_dead := (funext fun j => (hs.a g_m_dead rfl j).1).trans n_dead
  replace n_isj : h_90.2.1 m_isj = F_isj := (funext fun j => (hs.a g_m_isj rfl j).1).trans n_isj
  replace n_dox : h_90.2.1 m_dox = F_dox := (funext fun j => (hs.a g_m_dox rfl j).1).trans n_dox
  replace n_doy : h_90.2.1 m_doy = F_doy := (funext fun j => (hs.a g_m_doy rfl j).1).trans n_doy
  replace n_qlt : h_90.2.1 qlt = F_qlt := (funext fun j => (hs.a g_qlt rfl j).1).trans n_qlt
  replace n_m_wkd : h_90.2.1 m_wkd = F_m_wkd := (funext fun j => (hs.a g_m_wkd rfl j).1).trans n_m_wkd
  replace n_aga : h_90.2.1 m_aga = F_aga := (funext fun j => (hs.a g_m_aga rfl j).1).trans n_aga
  replace gx := gx.S hs
  replace gm := gm.S hs
  replace g_qa := g_qa.S hs
  replace g_qp := g_qp.S hs
  replace g_qc := g_qc.S hs
  replace g_qh := g_qh.S hs
  replace g_qw := g_qw.S hs
  replace g_ql := g_ql.S hs
  replace g_mw := g_mw.S hs
  replace g_mr := g_mr.S hs
  replace g_mp := g_mp.S hs
  replace g_mn := g_mn.S hs
  replace g_ml := g_ml.S hs
  replace g_mh := g_mh.S hs
  replace g_mt := g_mt.S hs
  replace g_m_fou := g_m_fou.S hs
  replace g_qo_ln := g_qo_ln.S hs
  replace g_b_of := g_b_of.S hs
  replace g_m_of := g_m_of.S hs
  replace g_b_wf := g_b_wf.S hs
  replace g_m_wf := g_m_wf.S hs
  replace g_b_df := g_b_df.S hs
  replace g_m_df := g_m_df.S hs
  replace g_b_kf := g_b_kf.S hs
  replace g_m_kf := g_m_kf.S hs
  replace g_b_sf := g_b_sf.S hs
  replace g_m_sf := g_m_sf.S hs
  replace g_b_bf := g_b_bf.S hs
  replace g_m_lst := g_m_lst.S hs
  replace g_qtp := g_qtp.S hs
  replace g_m_tp := g_m_tp.S hs
  replace g_m_dead := g_m_dead.S hs
  replace g_m_isj := g_m_isj.S hs
  replace g_m_dox := g_m_dox.S hs
  replace g_m_doy := g_m_doy.S hs
  replace g_qlt := g_qlt.S hs
  replace g_qlf := g_qlf.S hs
  replace g_m_wkd := g_m_wkd.S hs
  replace g_m_aga := g_m_aga.S hs
  replace g_qwo := g_qwo.S hs
  replace g_m_ad := g_m_ad.S hs
  replace gq_83 := gq_83.S hs
  replace gq_84 := gq_84.S hs
  replace gq_85 := gq_85.S hs
  have fw_94 : h_90.2.1 am 1 = w_94 := fw_94
  have bw_94 := hT.gi gm tt_10 (k := 1) rfl
  rw [fw_94] at bw_94
  have bw_94 : 0 ≤ w_94.toInt ∧ w_94.toInt ≤ 8 := bw_94
  have fw_95 : h_90.2.1 am 7 = w_95 := fw_95
  have bw_95 := hT.gi gm tt_10 (k := 7) rfl
  rw [fw_95] at bw_95
  have bw_95 : 0 ≤ w_95.toInt ∧ w_95.toInt ≤ 400 := bw_95
  have fw_96 : h_90.2.1 mr = w_96 := fw_96
  have fw_97 : h_90.2.1 mn = w_97 := fw_97
  have fw_98 : h_90.2.1 mp = w_98 := fw_98
  have fw_99 : h_90.2.1 m_ad = w_99 := fw_99
  obtain ⟨A2_9, hAU29, hCA29⟩ := hr_93.2.2.2.2
  refine lv_pop hx hb dL_law_300 rfl ?_
  refine lv_goto (tgt := 1379) hx hb dL_law_301 (by decide) ?_
  obtain ⟨heqr, zq_a0, zq_tl⟩ := hv_AN_eq hr_77 hr_93.2.2.2.1 Iff.rfl rfl rfl rfl; have heq := congrArg Int32.toInt heqr; have hq_a0 : w_79 = w_94 := Int32.toInt_inj.mp zq_a0; have hq_tl : w_80 = w_95 := Int32.toInt_inj.mp zq_tl
  have hAA := hv_AU_eq hAU9 (by rw [zq_a0]; exact hAU29); have hCA39 := hCA29; rw [← hAA, ← zq_a0] at hCA39
  refine W.widen (k := CC + 3) (n := SS + 179) (by omega) (by omega) ?_
  exact kk L_89 h_90 H locs ls hW ⟨hT, gx, gm, ⟨f_x_now.trans f_m_now.symm, f_x_personCount.trans f_m_persons.symm, f_x_claimCount.trans f_m_claims.symm, (fw_80.trans hq_tl).trans fw_95.symm, (fw_79.trans hq_a0).trans fw_94.symm, hx_ob f_qo_ln (f_o_ln.trans f_m_lines.symm), hx_ob f_qw (f_o_lsd.trans f_m_listed.symm), hx_ob f_qw (f_o_wkm.trans f_m_walkedMany.symm), hx_ob f_qp (by rw [f_x_personCount]; exact nu_qp), hx_ob f_qc (by rw [f_x_claimCount]; exact nu_qc), (fun b a r hb ha hr => by obtain rfl : qo_ln = b := Option.some.inj (f_qo_ln.symm.trans hb); obtain rfl : b_of = a := Option.some.inj (f_b_of.symm.trans ha); obtain rfl : m_of = r := Option.some.inj (f_m_of.symm.trans hr); rw [n_b_of, n_m_of, f_o_ln]; exact eb_of), (fun b a r hb ha hr => by obtain rfl : qo_ln = b := Option.some.inj (f_qo_ln.symm.trans hb); obtain rfl : b_wf = a := Option.some.inj (f_b_wf.symm.trans ha); obtain rfl : m_wf = r := Option.some.inj (f_m_wf.symm.trans hr); rw [n_b_wf, n_m_wf, f_o_ln]; exact eb_wf), (fun b a r hb ha hr => by obtain rfl : qo_ln = b := Option.some.inj (f_qo_ln.symm.trans hb); obtain rfl : b_df = a := Option.some.inj (f_b_df.symm.trans ha); obtain rfl : m_df = r := Option.some.inj (f_m_df.symm.trans hr); rw [n_b_df, n_m_df, f_o_ln]; exact eb_df), (fun b a r hb ha hr => by obtain rfl : qo_ln = b := Option.some.inj (f_qo_ln.symm.trans hb); obtain rfl : b_kf = a := Option.some.inj (f_b_kf.symm.trans ha); obtain rfl : m_kf = r := Option.some.inj (f_m_kf.symm.trans hr); rw [n_b_kf, n_m_kf, f_o_ln]; exact eb_kf), (fun b a r hb ha hr => by obtain rfl : qo_ln = b := Option.some.inj (f_qo_ln.symm.trans hb); obtain rfl : b_sf = a := Option.some.inj (f_b_sf.symm.trans ha); obtain rfl : m_sf = r := Option.some.inj (f_m_sf.symm.trans hr); rw [n_b_sf, n_m_sf, f_o_ln]; exact eb_sf), (fun b a r hb ha hr => by obtain rfl : qo_ln = b := Option.some.inj (f_qo_ln.symm.trans hb); obtain rfl : b_df = a := Option.some.inj (f_b_df.symm.trans ha); obtain rfl : b_bf = r := Option.some.inj (f_b_bf.symm.trans hr); rw [n_b_df, n_b_bf, f_o_ln]; exact ⟨hBD, hDY⟩), (fun w q c hw hq hc => by obtain rfl : qw = w := Option.some.inj (f_qw.symm.trans hw); obtain rfl : ql = q := Option.some.inj (f_ql.symm.trans hq); obtain rfl : qc = c := Option.some.inj (f_qc.symm.trans hc); exact sb_list), (fun w q r hw hq hr => by obtain rfl : qw = w := Option.some.inj (f_qw.symm.trans hw); obtain rfl : ql = q := Option.some.inj (f_ql.symm.trans hq); obtain rfl : m_lst = r := Option.some.inj (f_m_lst.symm.trans hr); rw [cl_lst, n_lst]; exact eq_lst), (fun w q r hw hq hr => by obtain rfl : qw = w := Option.some.inj (f_qw.symm.trans hw); obtain rfl : qlt = q := Option.some.inj (f_qlt.symm.trans hq); obtain rfl : m_wkd = r := Option.some.inj (f_m_wkd.symm.trans hr); rw [n_qlt, n_m_wkd, f_o_wkm]; exact eb_wkd), (fun c q a hc hq ha => by obtain rfl : qc = c := Option.some.inj (f_qc.symm.trans hc); obtain rfl : qp = q := Option.some.inj (f_qp.symm.trans hq); obtain rfl : m_aga = a := Option.some.inj (f_m_aga.symm.trans ha); rw [n_aga, f_x_claimCount]; exact hw_DF_e hDF rfl rfl), (fun q r hq hr => by obtain rfl : qtp = q := Option.some.inj (f_qtp.symm.trans hq); obtain rfl : m_tp = r := Option.some.inj (f_m_tp.symm.trans hr); exact n_qtp.trans n_tp.symm), (fun q w a b c d hq hw ha hb hc hd => by obtain rfl : qa = q := Option.some.inj (f_qa.symm.trans hq); obtain rfl : qwo = w := Option.some.inj (f_qwo.symm.trans hw); obtain rfl : m_ad = a := Option.some.inj (f_m_ad.symm.trans ha); obtain rfl : mr = b := Option.some.inj (f_mr.symm.trans hb); obtain rfl : mn = c := Option.some.inj (f_mn.symm.trans hc); obtain rfl : mp = d := Option.some.inj (f_mp.symm.trans hd); exact ⟨_, by rw [fw_79]; exact hRA19, by rw [fw_79, fw_99, fw_96, fw_97, fw_98]; exact hCA39⟩), hx_ob2 f_qp f_m_dead (by rw [cl_dead, n_dead]; exact eq_dead), hx_ob2 f_qp f_m_isj (by rw [cl_isj, n_isj]; exact eq_isj), hx_ob2 f_qp f_m_dox (by rw [cl_dox, n_dox]; exact eq_dox), hx_ob2 f_qp f_m_doy (by rw [cl_doy, n_doy]; exact eq_doy), hx_ob2 f_qc f_m_fou (by rw [cl_fou, n_m_fou]; exact eq_fou), hx_ob2 f_qc f_mt (by rw [cl_tri, n_mt]; exact eq_tri), trivial⟩, ⟨hx_ob f_qa pf_78, hx_ob f_qp pf_qp, hx_ob f_qc pf_qc, hx_ob f_qh pf_qh, (fun w q hw hq => by obtain rfl : qw = w := Option.some.inj (f_qw.symm.trans hw); obtain rfl : ql = q := Option.some.inj (f_ql.symm.trans hq); exact pf_ql)⟩, ⟨hx_ob f_mw (by rw [n_mw]; exact hwd), hx_ob f_mr (by rw [fw_96, fw_94]; exact hr_93.2.1), hx_ob2 f_mp f_mn (by rw [fw_98, fw_97, fw_94]; exact hr_93.2.2.1), hx_ob f_ml (by rw [n_ml, f_m_claims, fw_94]; exact (hx_PL_le hPL hr_93.1)), hx_ob f_mh (by rw [n_mh, f_m_heardMany, f_m_claims]; exact hHC), hx_ob f_mt (by rw [n_mt]; exact (hx_TR_le hTR (by omega))), hx_ob2 f_mh f_m_fou (by rw [n_mh, n_m_fou, f_m_claims]; exact hHF)⟩⟩ hl

set_option maxHeartbeats 4000000 in
set_option maxRecDepth 100000 in
theorem law_case_4 {p : Program} {e : Env} {s : State} {m : MethodId} {below : List Frame} {meth : Method} {c : Code} (l : Launch) {b LN : Nat} {xs : Nat → Int32} (hx : p.tables.exec = Jvm.exec) (hb : c.code = code) (hr : meth.sig.returnType = ret) (hlocks : meth.locks = false) (hml : c.maxLocals = 4) (hown : s.vm.findClass "SmallCourtLaw" = some m.cls) (hts : ∀ w ∈ hx_all, w.before #[Value.ref b] s = true) (hX : va_X b LN xs s s.heap) (hbl : b < s.heap.size) (hbA : ¬ s.heap.size ≤ b) (hLN : LN ≤ 3584) (dC : Nat → ClassId) (dI : Nat → Nat → Nat) (dA : Nat → ClassId) (b0 : hx_z) (ax am : Nat) (T1 : Int) (hT0 : 0 ≤ T1) (hT1 : T1 ≤ 511) (i : Int32) (hi0 : 0 ≤ i.toInt) (hiL : i.toInt + 7 ≤ LN) (CC SS : Nat) (hCC : CC + 3 ≤ 600000) (hSS : SS + 179 ≤ 7302250) (L1 : List Nat) (hl1 : hx_h) (H : Heap) (locs : List Loc) (ls : Array Slot) (hW : hx_W T_tb (P_ty dA) (dC, dI) vwCl (fun q : Nat => s.heap.size ≤ q) s.heap L1 hl1 s H locs) (hZ : hx_Xt (fun q : Nat => s.heap.size ≤ q) b0 s) (hI : hx_IV T1 ax am L1 hl1) (hl : lv_has ls 4 [(3, .int i), (2, .ref am), (1, .ref ax), (0, .ref b)]) (kk : ∀ (L2 : List Nat) (h2 : hx_h) (H2 : Heap) (locs2 : List Loc) (ls2 : Array Slot), hx_W T_tb (P_ty dA) (dC, dI) vwCl (fun q : Nat => s.heap.size ≤ q) s.heap L2 h2 s H2 locs2 → hx_IV (T1 + 1) ax am L2 h2 → lv_has ls2 4 [(3, .int i), (2, .ref am), (1, .ref ax), (0, .ref b)] → W p l e room_1 s m #[Value.ref b] below meth c H2 locs2 (CC + 3) (SS + 179) (lw_Z below #[Value.ref b] s) (F0 m 1379 ls2 [])) : W p l e room_1 s m #[Value.ref b] below meth c H locs CC SS (lw_Z below #[Value.ref b] s) (F0 m 304 ls []) := by
  obtain ⟨hT, gx, gm, ⟨he_nw, he_np, he_c0, he_tl, he_a0, ho_ln, ho_lsd, ho_wkm, hn_qp, hn_qc, hk_of, hk_wf, hk_df, hk_kf, hk_sf, hkBD, hLQ, hLE, hkWD, hkDF, hkTP, hkAC, hc_dead, hc_isj, hc_dox, hc_doy, hc_fou, hc_tri, -⟩, ⟨ia, ip, ic, ih, il⟩, ⟨jw, jr, jp, jl, jh, jt, jf⟩⟩ := hI
  obtain ⟨qa, f_qa, g_qa⟩ := hx_rf hT gx tt_9 (k := 5) (u := 43) rfl
  have pf_qa := ia qa f_qa
  obtain ⟨qp, f_qp, g_qp⟩ := hx_rf hT gx tt_9 (k := 7) (u := 44) rfl
  have pf_qp := ip qp f_qp
  obtain ⟨qc, f_qc, g_qc⟩ := hx_rf hT gx tt_9 (k := 10) (u := 45) rfl
  have pf_qc := ic qc f_qc
  obtain ⟨qh, f_qh, g_qh⟩ := hx_rf hT gx tt_9 (k := 12) (u := 46) rfl
  have pf_qh := ih qh f_qh
  obtain ⟨qw, f_qw, g_qw⟩ := hx_rf hT gx tt_9 (k := 19) (u := 8) rfl
  obtain ⟨ql, f_ql, g_ql⟩ := hx_rf hT g_qw tt_8 (k := 3) (u := 40) rfl
  have pf_ql := il qw ql f_qw f_ql
  obtain ⟨nw, f_m_now⟩ : ∃ y : Int32, hl1.2.1 am 0 = y := ⟨_, rfl⟩
  have b_nw := hT.gi gm tt_10 (k := 0) rfl
  rw [f_m_now] at b_nw
  have b_nw : 0 ≤ nw.toInt ∧ nw.toInt ≤ 7999 := b_nw
  obtain ⟨np, f_m_persons⟩ : ∃ y : Int32, hl1.2.1 am 20 = y := ⟨_, rfl⟩
  have b_np := hT.gi gm tt_10 (k := 20) rfl
  rw [f_m_persons] at b_np
  have b_np : 0 ≤ np.toInt ∧ np.toInt ≤ 40 := b_np
  obtain ⟨c0, f_m_claims⟩ : ∃ y : Int32, hl1.2.1 am 36 = y := ⟨_, rfl⟩
  have b_c0 := hT.gi gm tt_10 (k := 36) rfl
  rw [f_m_claims] at b_c0
  have b_c0 : 0 ≤ c0.toInt ∧ c0.toInt ≤ 100 := b_c0
  obtain ⟨tl, f_m_taped⟩ : ∃ y : Int32, hl1.2.1 am 7 = y := ⟨_, rfl⟩
  have b_tl := hT.gi gm tt_10 (k := 7) rfl
  rw [f_m_taped] at b_tl
  have b_tl : 0 ≤ tl.toInt ∧ tl.toInt ≤ 400 := b_tl
  obtain ⟨a0, f_m_acts⟩ : ∃ y : Int32, hl1.2.1 am 1 = y := ⟨_, rfl⟩
  have b_a0 := hT.gi gm tt_10 (k := 1) rfl
  rw [f_m_acts] at b_a0
  have b_a0 : 0 ≤ a0.toInt ∧ a0.toInt ≤ 8 := b_a0
  obtain ⟨ln, f_m_lines⟩ : ∃ y : Int32, hl1.2.1 am 29 = y := ⟨_, rfl⟩
  have b_ln := hT.gi gm tt_10 (k := 29) rfl
  rw [f_m_lines] at b_ln
  have b_ln : 0 ≤ ln.toInt ∧ ln.toInt ≤ 400 := b_ln
  obtain ⟨lsd, f_m_listed⟩ : ∃ y : Int32, hl1.2.1 am 90 = y := ⟨_, rfl⟩
  have b_lsd := hT.gi gm tt_10 (k := 90) rfl
  rw [f_m_listed] at b_lsd
  have b_lsd : 0 ≤ lsd.toInt ∧ lsd.toInt ≤ 8 := b_lsd
  obtain ⟨wkm, f_m_walkedMany⟩ : ∃ y : Int32, hl1.2.1 am 92 = y := ⟨_, rfl⟩
  have b_wkm := hT.gi gm tt_10 (k := 92) rfl
  rw [f_m_walkedMany] at b_wkm
  have b_wkm : 0 ≤ wkm.toInt ∧ wkm.toInt ≤ 8 := b_wkm
  obtain ⟨m0, f_m_heardMany⟩ : ∃ y : Int32, hl1.2.1 am 57 = y := ⟨_, rfl⟩
  have b_m0 := hT.gi gm tt_10 (k := 57) rfl
  rw [f_m_heardMany] at b_m0
  have b_m0 : 0 ≤ m0.toInt ∧ m0.toInt ≤ 100 := b_m0
  have f_x_now : hl1.2.1 ax 2 = nw := he_nw.trans f_m_now
  have f_x_personCount : hl1.2.1 ax 8 = np := he_np.trans f_m_persons
  have f_x_claimCount : hl1.2.1 ax 11 = c0 := he_c0.trans f_m_claims
  have f_x_tapeLength : hl1.2.1 ax 1 = tl := he_tl.trans f_m_taped
  have f_x_actCount : hl1.2.1 ax 6 = a0 := he_a0.trans f_m_acts
  obtain ⟨mw, f_mw, g_mw⟩ := hx_rf hT gm tt_10 (k := 19) (u := 57) rfl
  obtain ⟨F_mw, n_mw⟩ : ∃ g : Nat → Int32, hl1.2.1 mw = g := ⟨_, rfl⟩
  obtain ⟨mr, f_mr, g_mr⟩ := hx_rf hT gm tt_10 (k := 3) (u := 50) rfl
  obtain ⟨F_mr, n_mr⟩ : ∃ g : Nat → Int32, hl1.2.1 mr = g := ⟨_, rfl⟩
  obtain ⟨mp, f_mp, g_mp⟩ := hx_rf hT gm tt_10 (k := 5) (u := 52) rfl
  obtain ⟨F_mp, n_mp⟩ : ∃ g : Nat → Int32, hl1.2.1 mp = g := ⟨_, rfl⟩
  obtain ⟨mn, f_mn, g_mn⟩ := hx_rf hT gm tt_10 (k := 4) (u := 51) rfl
  obtain ⟨F_mn, n_mn⟩ : ∃ g : Nat → Int32, hl1.2.1 mn = g := ⟨_, rfl⟩
  obtain ⟨ml, f_ml, g_ml⟩ := hx_rf hT gm tt_10 (k := 44) (u := 79) rfl
  obtain ⟨F_ml, n_ml⟩ : ∃ g : Nat → Int32, hl1.2.1 ml = g := ⟨_, rfl⟩
  obtain ⟨mh, f_mh, g_mh⟩ := hx_rf hT gm tt_10 (k := 47) (u := 82) rfl
  obtain ⟨F_mh, n_mh⟩ : ∃ g : Nat → Int32, hl1.2.1 mh = g := ⟨_, rfl⟩
  obtain ⟨mt, f_mt, g_mt⟩ := hx_rf hT gm tt_10 (k := 45) (u := 80) rfl
  obtain ⟨F_mt, n_mt⟩ : ∃ g : Nat → Int32, hl1.2.1 mt = g := ⟨_, rfl⟩
  obtain ⟨m_fou, f_m_fou, g_m_fou⟩ := hx_rf hT gm tt_10 (k := 46) (u := 81) rfl
  obtain ⟨F_m_fou, n_m_fou⟩ : ∃ g : Nat → Int32, hl1.2.1 m_fou = g := ⟨_, rfl⟩
  obtain ⟨qo_ln, f_qo_ln, g_qo_ln⟩ := hx_rf hT gx tt_9 (k := 9) (u := 1) rfl
  have f_o_ln : hl1.2.1 qo_ln 0 = ln := (ho_ln qo_ln f_qo_ln).trans f_m_lines
  have f_o_lsd : hl1.2.1 qw 0 = lsd := (ho_lsd qw f_qw).trans f_m_listed
  have f_o_wkm : hl1.2.1 qw 1 = wkm := (ho_wkm qw f_qw).trans f_m_walkedMany
  have nu_qp := hn_qp qp f_qp; rw [f_x_personCount] at nu_qp
  have nu_qc := hn_qc qc f_qc; rw [f_x_claimCount] at nu_qc
  obtain ⟨b_of, f_b_of, g_b_of⟩ := hx_rf hT g_qo_ln tt_1 (k := 1) (u := 13) rfl
  obtain ⟨B_of, n_b_of⟩ : ∃ g : Nat → Int32, hl1.2.1 b_of = g := ⟨_, rfl⟩
  obtain ⟨m_of, f_m_of, g_m_of⟩ := hx_rf hT gm tt_10 (k := 30) (u := 66) rfl
  obtain ⟨F_of, n_m_of⟩ : ∃ g : Nat → Int32, hl1.2.1 m_of = g := ⟨_, rfl⟩
  have eb_of := hk_of qo_ln b_of m_of f_qo_ln f_b_of f_m_of; rw [n_b_of, n_m_of, f_o_ln] at eb_of
  obtain ⟨b_wf, f_b_wf, g_b_wf⟩ := hx_rf hT g_qo_ln tt_1 (k := 2) (u := 14) rfl
  obtain ⟨B_wf, n_b_wf⟩ : ∃ g : Nat → Int32, hl1.2.1 b_wf = g := ⟨_, rfl⟩
  obtain ⟨m_wf, f_m_wf, g_m_wf⟩ := hx_rf hT gm tt_10 (k := 31) (u := 67) rfl
  obtain ⟨F_wf, n_m_wf⟩ : ∃ g : Nat → Int32, hl1.2.1 m_wf = g := ⟨_, rfl⟩
  have eb_wf := hk_wf qo_ln b_wf m_wf f_qo_ln f_b_wf f_m_wf; rw [n_b_wf, n_m_wf, f_o_ln] at eb_wf
  obtain ⟨b_df, f_b_df, g_b_df⟩ := hx_rf hT g_qo_ln tt_1 (k := 3) (u := 15) rfl
  obtain ⟨B_df, n_b_df⟩ : ∃ g : Nat → Int32, hl1.2.1 b_df = g := ⟨_, rfl⟩
  obtain ⟨m_df, f_m_df, g_m_df⟩ := hx_rf hT gm tt_10 (k := 32) (u := 68) rfl
  obtain ⟨F_df, n_m_df⟩ : ∃ g : Nat → Int32, hl1.2.1 m_df = g := ⟨_, rfl⟩
  have eb_df := hk_df qo_ln b_df m_df f_qo_ln f_b_df f_m_df; rw [n_b_df, n_m_df, f_o_ln] at eb_df
  obtain ⟨b_kf, f_b_kf, g_b_kf⟩ := hx_rf hT g_qo_ln tt_1 (k := 4) (u := 16) rfl
  obtain ⟨B_kf, n_b_kf⟩ : ∃ g : Nat → Int32, hl1.2.1 b_kf = g := ⟨_, rfl⟩
  obtain ⟨m_kf, f_m_kf, g_m_kf⟩ := hx_rf hT gm tt_10 (k := 33) (u := 69) rfl
  obtain ⟨F_kf, n_m_kf⟩ : ∃ g : Nat → Int32, hl1.2.1 m_kf = g := ⟨_, rfl⟩
  have eb_kf := hk_kf qo_ln b_kf m_kf f_qo_ln f_b_kf f_m_kf; rw [n_b_kf, n_m_kf, f_o_ln] at eb_kf
  obtain ⟨b_sf, f_b_sf, g_b_sf⟩ := hx_rf hT g_qo_ln tt_1 (k := 5) (u := 17) rfl
  obtain ⟨B_sf, n_b_sf⟩ : ∃ g : Nat → Int32, hl1.2.1 b_sf = g := ⟨_, rfl⟩
  obtain ⟨m_sf, f_m_sf, g_m_sf⟩ := hx_rf hT gm tt_10 (k := 34) (u := 70) rfl
  obtain ⟨F_sf, n_m_sf⟩ : ∃ g : Nat → Int32, hl1.2.1 m_sf = g := ⟨_, rfl⟩
  have eb_sf := hk_sf qo_ln b_sf m_sf f_qo_ln f_b_sf f_m_sf; rw [n_b_sf, n_m_sf, f_o_ln] at eb_sf
  obtain ⟨b_bf, f_b_bf, g_b_bf⟩ := hx_rf hT g_qo_ln tt_1 (k := 6) (u := 18) rfl
  obtain ⟨bfL, n_b_bf⟩ : ∃ g : Nat → Int32, hl1.2.1 b_bf = g := ⟨_, rfl⟩
  obtain ⟨hBD, hDY⟩ := hkBD qo_ln b_df b_bf f_qo_ln f_b_df f_b_bf; rw [n_b_df, n_b_bf, f_o_ln] at hBD; rw [n_b_df, f_o_ln] at hDY
  have hBDm := hy_BD_c eb_df hBD
  have hDYm : hy_DY F_df ln.toInt.toNat := fun x hx => by rw [← eb_df x hx]; exact hDY x hx
  have sb_list := hLQ qw ql qc f_qw f_ql f_qc
  obtain ⟨m_lst, f_m_lst, g_m_lst⟩ := hx_rf hT gm tt_10 (k := 91) (u := 112) rfl
  obtain ⟨F_lst, n_lst⟩ : ∃ g : Nat → Int32, hl1.2.1 m_lst = g := ⟨_, rfl⟩
  obtain ⟨c_lst, cl_lst⟩ : ∃ g : Nat → Int32, hx_col 8 hl1 ql 0 = g := ⟨_, rfl⟩
  have eq_lst := hLE qw ql m_lst f_qw f_ql f_m_lst; rw [cl_lst, n_lst] at eq_lst
  obtain ⟨qtp, f_qtp, g_qtp⟩ := hx_rf hT gx tt_9 (k := 0) (u := 42) rfl
  obtain ⟨m_tp, f_m_tp, g_m_tp⟩ := hx_rf hT gm tt_10 (k := 6) (u := 53) rfl
  obtain ⟨F_tp, n_tp⟩ : ∃ g : Nat → Int32, hl1.2.1 m_tp = g := ⟨_, rfl⟩
  have n_qtp : hl1.2.1 qtp = F_tp := (hkTP qtp m_tp f_qtp f_m_tp).trans n_tp
  obtain ⟨c_dead, cl_dead⟩ : ∃ g : Nat → Int32, hx_col 40 hl1 qp 7 = g := ⟨_, rfl⟩
  obtain ⟨m_dead, f_m_dead, g_m_dead⟩ := hx_rf hT gm tt_10 (k := 27) (u := 64) rfl
  obtain ⟨F_dead, n_dead⟩ : ∃ g : Nat → Int32, hl1.2.1 m_dead = g := ⟨_, rfl⟩
  have eq_dead := hc_dead qp m_dead f_qp f_m_dead; rw [cl_dead, n_dead] at eq_dead
  have z_dead : np.toInt.toNat < 40 → c_dead np.toInt.toNat = 0 := fun hj => hx_num_z nu_qp cl_dead hj (by omega)
  obtain ⟨c_isj, cl_isj⟩ : ∃ g : Nat → Int32, hx_col 40 hl1 qp 8 = g := ⟨_, rfl⟩
  obtain ⟨m_isj, f_m_isj, g_m_isj⟩ := hx_rf hT gm tt_10 (k := 28) (u := 65) rfl
  obtain ⟨F_isj, n_isj⟩ : ∃ g : Nat → Int32, hl1.2.1 m_isj = g := ⟨_, rfl⟩
  have eq_isj := hc_isj qp m_isj f_qp f_m_isj; rw [cl_isj, n_isj] at eq_isj
  have z_isj : np.toInt.toNat < 40 → c_isj np.toInt.toNat = 0 := fun hj => hx_num_z nu_qp cl_isj hj (by omega)
  obtain ⟨c_dox, cl_dox⟩ : ∃ g : Nat → Int32, hx_col 40 hl1 qp 5 = g := ⟨_, rfl⟩
  obtain ⟨m_dox, f_m_dox, g_m_dox⟩ := hx_rf hT gm tt_10 (k := 24) (u := 61) rfl
  obtain ⟨F_dox, n_dox⟩ : ∃ g : Nat → Int32, hl1.2.1 m_dox = g := ⟨_, rfl⟩
  have eq_dox := hc_dox qp m_dox f_qp f_m_dox; rw [cl_dox, n_dox] at eq_dox
  have z_dox : np.toInt.toNat < 40 → c_dox np.toInt.toNat = 0 := fun hj => hx_num_z nu_qp cl_dox hj (by omega)
  obtain ⟨c_doy, cl_doy⟩ : ∃ g : Nat → Int32, hx_col 40 hl1 qp 6 = g := ⟨_, rfl⟩
  obtain ⟨m_doy, f_m_doy, g_m_doy⟩ := hx_rf hT gm tt_10 (k := 25) (u := 62) rfl
  obtain ⟨F_doy, n_doy⟩ : ∃ g : Nat → Int32, hl1.2.1 m_doy = g := ⟨_, rfl⟩
  have eq_doy := hc_doy qp m_doy f_qp f_m_doy; rw [cl_doy, n_doy] at eq_doy
  have z_doy : np.toInt.toNat < 40 → c_doy np.toInt.toNat = 0 := fun hj => hx_num_z nu_qp cl_doy hj (by omega)
  obtain ⟨c_fou, cl_fou⟩ : ∃ g : Nat → Int32, hx_col 100 hl1 qc 10 = g := ⟨_, rfl⟩
  have eq_fou := hc_fou qc m_fou f_qc f_m_fou; rw [cl_fou, n_m_fou] at eq_fou
  have z_fou : c0.toInt.toNat < 100 → c_fou c0.toInt.toNat = 0 := fun hj => hx_num_z nu_qc cl_fou hj (by omega)
  obtain ⟨c_tri, cl_tri⟩ : ∃ g : Nat → Int32, hx_col 100 hl1 qc 9 = g := ⟨_, rfl⟩
  have eq_tri := hc_tri qc mt f_qc f_mt; rw [cl_tri, n_mt] at eq_tri
  have z_tri : c0.toInt.toNat < 100 → c_tri c0.toInt.toNat = 0 := fun hj => hx_num_z nu_qc cl_tri hj (by omega)
  obtain ⟨qlt, f_qlt, g_qlt⟩ := hx_rf hT g_qw tt_8 (k := 2) (u := 39) rfl
  obtain ⟨qlf, f_qlf, g_qlf⟩ := hx_rf hT g_qw tt_8 (k := 4) (u := 41) rfl
  obtain ⟨m_wkd, f_m_wkd, g_m_wkd⟩ := hx_rf hT gm tt_10 (k := 93) (u := 113) rfl
  obtain ⟨F_qlt, n_qlt⟩ : ∃ g : Nat → Int32, hl1.2.1 qlt = g := ⟨_, rfl⟩
  obtain ⟨F_m_wkd, n_m_wkd⟩ : ∃ g : Nat → Int32, hl1.2.1 m_wkd = g := ⟨_, rfl⟩
  have eb_wkd := hkWD qw qlt m_wkd f_qw f_qlt f_m_wkd; rw [n_qlt, n_m_wkd, f_o_wkm] at eb_wkd
  obtain ⟨m_aga, f_m_aga, g_m_aga⟩ := hx_rf hT gm tt_10 (k := 38) (u := 73) rfl
  obtain ⟨F_aga, n_aga⟩ : ∃ g : Nat → Int32, hl1.2.1 m_aga = g := ⟨_, rfl⟩
  have hDF := hkDF qc qp m_aga f_qc f_qp f_m_aga; rw [n_aga, f_x_claimCount] at hDF
  obtain ⟨qwo, f_qwo, g_qwo⟩ := hx_rf hT gx tt_9 (k := 4) (u := 0) rfl
  obtain ⟨m_ad, f_m_ad, g_m_ad⟩ := hx_rf hT gm tt_10 (k := 2) (u := 49) rfl
  obtain ⟨F_ad, n_ad⟩ : ∃ g : Nat → Int32, hl1.2.1 m_ad = g := ⟨_, rfl⟩
  obtain ⟨A9, hRA9, hCA9⟩ := hkAC qa qwo m_ad mr mn mp f_qa f_qwo f_m_ad f_mr f_mn f_mp
  rw [f_x_actCount] at hRA9; rw [f_x_actCount, n_ad, n_mr, n_mn, n_mp] at hCA9
  have hwd := jw mw f_mw; rw [n_mw] at hwd
  have hWK := jr mr f_mr; rw [n_mr, f_m_acts] at hWK
  have hRP := jp mp mn f_mp f_mn; rw [n_mp, n_mn, f_m_acts] at hRP
  have hPL := jl ml f_ml; rw [n_ml, f_m_claims, f_m_acts] at hPL
  have hHC := jh mh f_mh; rw [n_mh, f_m_heardMany, f_m_claims] at hHC
  have hTR := jt mt f_mt; rw [n_mt] at hTR
  have hHF := jf mh m_fou f_mh f_m_fou; rw [n_mh, n_m_fou, f_m_claims] at hHF
  refine lv_aload_n hx hb dL_law_304 rfl (lv_at hl 2 rfl) ?_
  refine lv_aload_n hx hb dL_law_305 rfl (lv_at hl 3 rfl) ?_
  refine lv_iload_n hx hb dL_law_306 rfl (lv_at hl 0 rfl) ?_
  refine lv_iconst (v := 1) hx hb dL_law_307 (by decide) ?_
  refine lv_iadd hx hb dL_law_308 ?_
  have rg_100 := i32_r i
  refine lv_topi (fun x_101 ex_101 => ?_)
  have zx_101 : x_101.toInt = i.toInt + 1 := by rw [ex_101]; exact i32_add rfl (by decide) (by omega) (by omega)
  refine va_sld hx hb hX hbl hbA hW.2.2.2.1 (vp_in_iff.mpr ⟨by omega, by omega⟩) dL_law_309 ?_
  refine lv_topi (fun x_102 ex_102 => ?_)
  refine lv_aload_n hx hb dL_law_310 rfl (lv_at hl 3 rfl) ?_
  refine lv_iload_n hx hb dL_law_311 rfl (lv_at hl 0 rfl) ?_
  refine lv_iconst (v := 2) hx hb dL_law_312 (by decide) ?_
  refine lv_iadd hx hb dL_law_313 ?_
  refine lv_topi (fun x_103 ex_103 => ?_)
  have zx_103 : x_103.toInt = i.toInt + 2 := by rw [ex_103]; exact i32_add rfl (by decide) (by omega) (by omega)
  refine va_sld hx hb hX hbl hbA hW.2.2.2.1 (vp_in_iff.mpr ⟨by omega, by omega⟩) dL_law_314 ?_
  refine lv_topi (fun x_104 ex_104 => ?_)
  have hTo := hT
  refine hx_goi (hx_runV (As := [.int x_102, .int x_104]) (rest := []) ⟨hx, hb, hml, hown, hts⟩ hW gx tt_9 (T := TX9) (N := 20) rfl (t_X9_force_v l dC dI dA L1 hl1 H.size ax x_102 x_104 hT gx qa g_qa f_qa qwo g_qwo f_qwo a0 f_x_actCount A9 hRA9 pf_qa) (cwV 2 hts (hx_gV kw_593 kw_590 kw_591 kw_592 kw_94) rfl rfl rfl (by decide +kernel) ⟨Nat.le_of_ble_eq_true rfl, Nat.le_of_ble_eq_true rfl⟩) rfl hl.1 rfl (Nat.le_of_ble_eq_true rfl) dL_law_315 ⟨(show CC + 0 ≤ 600000 from by omega), (show SS + 0 ≤ 7302250 from by omega)⟩) hW (fun r_107 L_105 h_106 H locs p_108 hW => ?_)
  obtain ⟨hr_109, hT, hs⟩ := p_108
  replace hT : hx_T T_tb L_105 h_106 := hT
  replace hs : hx_S T_tb [] L1 hl1 L_105 h_106 := hs
  replace f_qa := (hs.o gx trivial rfl).2.trans f_qa
  replace f_qp := (hs.o gx trivial rfl).2.trans f_qp
  replace f_qc := (hs.o gx trivial rfl).2.trans f_qc
  replace f_qh := (hs.o gx trivial rfl).2.trans f_qh
  replace f_qw := (hs.o gx trivial rfl).2.trans f_qw
  replace f_ql := (hs.o g_qw trivial rfl).2.trans f_ql
  replace f_m_now := (hs.o gm trivial rfl).1.trans f_m_now
  replace f_m_persons := (hs.o gm trivial rfl).1.trans f_m_persons
  replace f_m_claims := (hs.o gm trivial rfl).1.trans f_m_claims
  replace f_m_taped := (hs.o gm trivial rfl).1.trans f_m_taped
  replace f_m_acts := (hs.o gm trivial rfl).1.trans f_m_acts
  replace f_m_lines := (hs.o gm trivial rfl).1.trans f_m_lines
  replace f_m_listed := (hs.o gm trivial rfl).1.trans f_m_listed
  replace f_m_walkedMany := (hs.o gm trivial rfl).1.trans f_m_walkedMany
  replace f_m_heardMany := (hs.o gm trivial rfl).1.trans f_m_heardMany
  replace f_x_now := (hs.o gx trivial rfl).1.trans f_x_now
  replace f_x_personCount := (hs.o gx trivial rfl).1.trans f_x_personCount
  replace f_x_claimCount := (hs.o gx trivial rfl).1.trans f_x_claimCount
  replace f_x_tapeLength := (hs.o gx trivial rfl).1.trans f_x_tapeLength
  replace f_x_actCount := (hs.o gx trivial rfl).1.trans f_x_actCount
  replace f_mw := (hs.o gm trivial rfl).2.trans f_mw
  replace f_mr := (hs.o gm trivial rfl).2.trans f_mr
  replace f_mp := (hs.o gm trivial rfl).2.trans f_mp
  replace f_mn := (hs.o gm trivial rfl).2.trans f_mn
  replace f_ml := (hs.o gm trivial rfl).2.trans f_ml
  replace f_mh := (hs.o gm trivial rfl).2.trans f_mh
  replace f_mt := (hs.o gm trivial rfl).2.trans f_mt
  replace f_m_fou := (hs.o gm trivial rfl).2.trans f_m_fou
  replace f_qo_ln := (hs.o gx trivial rfl).2.trans f_qo_ln
  replace f_o_ln := (hs.o g_qo_ln trivial rfl).1.trans f_o_ln
  replace f_o_lsd := (hs.o g_qw trivial rfl).1.trans f_o_lsd
  replace f_o_wkm := (hs.o g_qw trivial rfl).1.trans f_o_wkm
  replace f_b_of := (hs.o g_qo_ln trivial rfl).2.trans f_b_of
  replace f_m_of := (hs.o gm trivial rfl).2.trans f_m_of
  replace f_b_wf := (hs.o g_qo_ln trivial rfl).2.trans f_b_wf
  replace f_m_wf := (hs.o gm trivial rfl).2.trans f_m_wf
  replace f_b_df := (hs.o g_qo_ln trivial rfl).2.trans f_b_df
  replace f_m_df := (hs.o gm trivial rfl).2.trans f_m_df
  replace f_b_kf := (hs.o g_qo_ln trivial rfl).2.trans f_b_kf
  replace f_m_kf := (hs.o gm trivial rfl).2.trans f_m_kf
  replace f_b_sf := (hs.o g_qo_ln trivial rfl).2.trans f_b_sf
  replace f_m_sf := (hs.o gm trivial rfl).2.trans f_m_sf
  replace f_b_bf := (hs.o g_qo_ln trivial rfl).2.trans f_b_bf
  replace f_m_lst := (hs.o gm trivial rfl).2.trans f_m_lst
  replace f_qtp := (hs.o gx trivial rfl).2.trans f_qtp
  replace f_m_tp := (hs.o gm trivial rfl).2.trans f_m_tp
  replace f_m_dead := (hs.o gm trivial rfl).2.trans f_m_dead
  replace f_m_isj := (hs.o gm trivial rfl).2.trans f_m_isj
  replace f_m_dox := (hs.o gm trivial rfl).2.trans f_m_dox
  replace f_m_doy := (hs.o gm trivial rfl).2.trans f_m_doy
  replace f_qlt := (hs.o g_qw trivial rfl).2.trans f_qlt
  replace f_qlf := (hs.o g_qw trivial rfl).2.trans f_qlf
  replace f_m_wkd := (hs.o gm trivial rfl).2.trans f_m_wkd
  replace f_m_aga := (hs.o gm trivial rfl).2.trans f_m_aga
  replace f_qwo := (hs.o gx trivial rfl).2.trans f_qwo
  replace f_m_ad := (hs.o gm trivial rfl).2.trans f_m_ad
  replace pf_qa : ∀ j : Nat, (j : Int) < (h_106.2.1 ax 6).toInt → h_106.2.2 qa j ≠ none := by
    intro j hj; rw [(hs.o gx trivial rfl).1] at hj; rw [(hs.a g_qa rfl j).2]; exact pf_qa j hj
  replace pf_qp : ∀ j : Nat, (j : Int) < (h_106.2.1 ax 8).toInt → h_106.2.2 qp j ≠ none := by
    intro j hj; rw [(hs.o gx trivial rfl).1] at hj; rw [(hs.a g_qp rfl j).2]; exact pf_qp j hj
  replace pf_qc : ∀ j : Nat, (j : Int) < (h_106.2.1 ax 11).toInt → h_106.2.2 qc j ≠ none := by
    intro j hj; rw [(hs.o gx trivial rfl).1] at hj; rw [(hs.a g_qc rfl j).2]; exact pf_qc j hj
  replace pf_qh : ∀ j : Nat, (j : Int) < (h_106.2.1 ax 13).toInt → h_106.2.2 qh j ≠ none := by
    intro j hj; rw [(hs.o gx trivial rfl).1] at hj; rw [(hs.a g_qh rfl j).2]; exact pf_qh j hj
  replace pf_ql : ∀ j : Nat, (j : Int) < (h_106.2.1 qw 0).toInt → h_106.2.2 ql j ≠ none := by
    intro j hj; rw [(hs.o g_qw trivial rfl).1] at hj; rw [(hs.a g_ql rfl j).2]; exact pf_ql j hj
  replace cl_lst : hx_col 8 h_106 ql 0 = c_lst := (hx_col_S hs hTo g_ql tt_40 tt_2 rfl rfl).trans cl_lst
  replace cl_dead : hx_col 40 h_106 qp 7 = c_dead := (hx_col_S hs hTo g_qp tt_44 tt_4 rfl rfl).trans cl_dead
  replace cl_isj : hx_col 40 h_106 qp 8 = c_isj := (hx_col_S hs hTo g_qp tt_44 tt_4 rfl rfl).trans cl_isj
  replace cl_dox : hx_col 40 h_106 qp 5 = c_dox := (hx_col_S hs hTo g_qp tt_44 tt_4 rfl rfl).trans cl_dox
  replace cl_doy : hx_col 40 h_106 qp 6 = c_doy := (hx_col_S hs hTo g_qp tt_44 tt_4 rfl rfl).trans cl_doy
  replace cl_fou : hx_col 100 h_106 qc 10 = c_fou := (hx_col_S hs hTo g_qc tt_45 tt_2 rfl rfl).trans cl_fou
  replace cl_tri : hx_col 100 h_106 qc 9 = c_tri := (hx_col_S hs hTo g_qc tt_45 tt_2 rfl rfl).trans cl_tri
  replace nu_qp : hx_num 40 h_106 qp 0 (np.toInt) := hx_num_S hs hTo g_qp tt_44 tt_4 rfl rfl nu_qp
  replace nu_qc : hx_num 100 h_106 qc 0 (c0.toInt) := hx_num_S hs hTo g_qc tt_45 tt_2 rfl rfl nu_qc
  replace sb_list : hx_LQ 8 100 h_106 ql qc := hx_LQ_S hs g_ql g_qc rfl rfl sb_list
  replace hDF : hw_DF h_106 qc qp 2 F_aga c0.toInt := hw_DF_S hs hTo g_qc g_qp tt_45 tt_2 rfl rfl rfl hDF
  replace hRA9 : hv_RA h_106 qa qwo a0.toInt A9 := hv_RA_S hs hTo g_qa g_qwo tt_43 tt_0 rfl rfl rfl rfl rfl rfl (by omega) hRA9
  replace n_mw : h_106.2.1 mw = F_mw := (funext fun j => (hs.a g_mw rfl j).1).trans n_mw
  replace n_mr : h_106.2.1 mr = F_mr := (funext fun j => (hs.a g_mr rfl j).1).trans n_mr
  replace n_mp : h_106.2.1 mp = F_mp := (funext fun j => (hs.a g_mp rfl j).1).trans n_mp
  replace n_mn : h_106.2.1 mn = F_mn := (funext fun j => (hs.a g_mn rfl j).1).trans n_mn
  replace n_ml : h_106.2.1 ml = F_ml := (funext fun j => (hs.a g_ml rfl j).1).trans n_ml
  replace n_mh : h_106.2.1 mh = F_mh := (funext fun j => (hs.a g_mh rfl j).1).trans n_mh
  replace n_mt : h_106.2.1 mt = F_mt := (funext fun j => (hs.a g_mt rfl j).1).trans n_mt
  replace n_m_fou : h_106.2.1 m_fou = F_m_fou := (funext fun j => (hs.a g_m_fou rfl j).1).trans n_m_fou
  replace n_b_of : h_106.2.1 b_of = B_of := (funext fun j => (hs.a g_b_of rfl j).1).trans n_b_of
  replace n_m_of : h_106.2.1 m_of = F_of := (funext fun j => (hs.a g_m_of rfl j).1).trans n_m_of
  replace n_b_wf : h_106.2.1 b_wf = B_wf := (funext fun j => (hs.a g_b_wf rfl j).1).trans n_b_wf
  replace n_m_wf : h_106.2.1 m_wf = F_wf := (funext fun j => (hs.a g_m_wf rfl j).1).trans n_m_wf
  replace n_b_df : h_106.2.1 b_df = B_df := (funext fun j => (hs.a g_b_df rfl j).1).trans n_b_df
  replace n_m_df : h_106.2.1 m_df = F_df := (funext fun j => (hs.a g_m_df rfl j).1).trans n_m_df
  replace n_b_kf : h_106.2.1 b_kf = B_kf := (funext fun j => (hs.a g_b_kf rfl j).1).trans n_b_kf
  replace n_m_kf : h_106.2.1 m_kf = F_kf := (funext fun j => (hs.a g_m_kf rfl j).1).trans n_m_kf
  replace n_b_sf : h_106.2.1 b_sf = B_sf := (funext fun j => (hs.a g_b_sf rfl j).1).trans n_b_sf
  replace n_m_sf : h_106.2.1 m_sf = F_sf := (funext fun j => (hs.a g_m_sf rfl j).1).trans n_m_sf
  replace n_b_bf : h_106.2.1 b_bf = bfL := (funext fun j => (hs.a g_b_bf rfl j).1).trans n_b_bf
  replace n_lst : h_106.2.1 m_lst = F_lst := (funext fun j => (hs.a g_m_lst rfl j).1).trans n_lst
  replace n_tp : h_106.2.1 m_tp = F_tp := (funext fun j => (hs.a g_m_tp rfl j).1).trans n_tp
  replace n_qtp : h_106.2.1 qtp = F_tp := (funext fun j => (hs.a g_qtp rfl j).1).trans n_qtp
  replace n_dead : h_106.2.1 m_dead = F_dead := (funext fun j => (hs.a g_m_dead rfl j).1).trans n_dead
  replace n_isj : h_106.2.1 m_isj = F_isj := (funext fun j => (hs.a g_m_isj rfl j).1).trans n_isj
  replace n_dox : h_106.2.1 m_dox = F_dox := (funext fun j => (hs.a g_m_dox rfl j).1).trans n_dox
  replace n_doy : h_106.2.1 m_doy = F_doy := (funext fun j => (hs.a g_m_doy rfl j).1).trans n_doy
  replace n_qlt : h_106.2.1 qlt = F_qlt := (funext fun j => (hs.a g_qlt rfl j).1).trans n_qlt
  replace n_m_wkd : h_106.2.1 m_wkd = F_m_wkd := (funext fun j => (hs.a g_m_wkd rfl j).1).trans n_m_wkd
  replace n_aga : h_106.2.1 m_aga = F_aga := (funext fun j => (hs.a g_m_aga rfl j).1).trans n_aga
  replace n_ad : h_106.2.1 m_ad = F_ad := (funext fun j => (hs.a g_m_ad rfl j).1).trans n_ad
  replace gx := gx.S hs
  replace gm := gm.S hs
  replace g_qa := g_qa.S hs
  replace g_qp := g_qp.S hs
  replace g_qc := g_qc.S hs
  replace g_qh := g_qh.S hs
  replace g_qw := g_qw.S hs
  replace g_ql := g_ql.S hs
  replace g_mw := g_mw.S hs
  replace g_mr := g_mr.S hs
  replace g_mp := g_mp.S hs
  replace g_mn := g_mn.S hs
  replace g_ml := g_ml.S hs
  replace g_mh := g_mh.S hs
  replace g_mt := g_mt.S hs
  replace g_m_fou := g_m_fou.S hs
  replace g_qo_ln := g_qo_ln.S hs
  replace g_b_of := g_b_of.S hs
  replace g_m_of := g_m_of.S hs
  replace g_b_wf := g_b_wf.S hs
  replace g_m_wf := g_m_wf.S hs
  replace g_b_df := g_b_df.S hs
  replace g_m_df := g_m_df.S hs
  replace g_b_kf := g_b_kf.S hs
  replace g_m_kf := g_m_kf.S hs
  replace g_b_sf := g_b_sf.S hs
  replace g_m_sf := g_m_sf.S hs
  replace g_b_bf := g_b_bf.S hs
  replace g_m_lst := g_m_lst.S hs
  replace g_qtp := g_qtp.S hs
  replace g_m_tp := g_m_tp.S hs
  replace g_m_dead := g_m_dead.S hs
  replace g_m_isj := g_m_isj.S hs
  replace g_m_dox := g_m_dox.S hs
  replace g_m_doy := g_m_doy.S hs
  replace g_qlt := g_qlt.S hs
  replace g_qlf := g_qlf.S hs
  replace g_m_wkd := g_m_wkd.S hs
  replace g_m_aga := g_m_aga.S hs
  replace g_qwo := g_qwo.S hs
  replace g_m_ad := g_m_ad.S hs
  refine lv_aload_n hx hb dL_law_318 rfl (lv_at hl 1 rfl) ?_
  refine lv_aload_n hx hb dL_law_319 rfl (lv_at hl 3 rfl) ?_
  refine lv_iload_n hx hb dL_law_320 rfl (lv_at hl 0 rfl) ?_
  refine lv_iconst (v := 1) hx hb dL_law_321 (by decide) ?_
  refine lv_iadd hx hb dL_law_322 ?_
  refine lv_topi (fun x_110 ex_110 => ?_)
  have zx_110 : x_110.toInt = i.toInt + 1 := by rw [ex_110]; exact i32_add rfl (by decide) (by omega) (by omega)
  obtain rfl : x_101 = x_110 := ex_101.trans ex_110.symm
  refine va_sld hx hb hX hbl hbA hW.2.2.2.1 (vp_in_iff.mpr ⟨by omega, by omega⟩) dL_law_323 ?_
  refine lv_topi (fun x_111 ex_111 => ?_)
  obtain rfl : x_102 = x_111 := ex_102.trans ex_111.symm
  refine lv_aload_n hx hb dL_law_324 rfl (lv_at hl 3 rfl) ?_
  refine lv_iload_n hx hb dL_law_325 rfl (lv_at hl 0 rfl) ?_
  refine lv_iconst (v := 2) hx hb dL_law_326 (by decide) ?_
  refine lv_iadd hx hb dL_law_327 ?_
  refine lv_topi (fun x_112 ex_112 => ?_)
  have zx_112 : x_112.toInt = i.toInt + 2 := by rw [ex_112]; exact i32_add rfl (by decide) (by omega) (by omega)
  obtain rfl : x_103 = x_112 := ex_103.trans ex_112.symm
  refine va_sld hx hb hX hbl hbA hW.2.2.2.1 (vp_in_iff.mpr ⟨by omega, by omega⟩) dL_law_328 ?_
  refine lv_topi (fun x_113 ex_113 => ?_)
  obtain rfl : x_104 = x_113 := ex_104.trans ex_113.symm
  have hTo := hT
  refine hx_goi (hx_runV (As := [.int x_102, .int x_104]) (rest := [.int r_107]) ⟨hx, hb, hml, hown, hts⟩ hW gm tt_10 (T := TX10) (N := 98) rfl (t_X10_force_v l dC dI dA L_105 h_106 H.size am x_102 x_104 hT gm m_ad g_m_ad f_m_ad mr g_mr f_mr mn g_mn f_mn mp g_mp f_mp F_ad n_ad F_mr n_mr F_mn n_mn F_mp n_mp a0 f_m_acts A9 hCA9) (cwV 2 hts (hx_gV kw_1525 kw_1522 kw_1523 kw_1524 kw_103) rfl rfl rfl (by decide +kernel) ⟨Nat.le_of_ble_eq_true rfl, Nat.le_of_ble_eq_true rfl⟩) rfl hl.1 rfl (Nat.le_of_ble_eq_true rfl) dL_law_329 ⟨(show CC + 0 + 0 ≤ 600000 from by omega), (show SS + 0 + 0 ≤ 7302250 from by omega)⟩) hW (fun r_116 L_114 h_115 H locs p_117 hW => ?_)
  obtain ⟨hr_118, hT, hs⟩ := p_117
  replace hT : hx_T T_tb L_114 h_115 := hT
  replace hs : hx_S T_tb [] L_105 h_106 L_114 h_115 := hs
  replace f_qa := (hs.o gx trivial rfl).2.trans f_qa
  replace f_qp := (hs.o gx trivial rfl).2.trans f_qp
  replace f_qc := (hs.o gx trivial rfl).2.trans f_qc
  replace f_qh := (hs.o gx trivial rfl).2.trans f_qh
  replace f_qw := (hs.o gx trivial rfl).2.trans f_qw
  replace f_ql := (hs.o g_qw trivial rfl).2.trans f_ql
  replace f_m_now := (hs.o gm trivial rfl).1.trans f_m_now
  replace f_m_persons := (hs.o gm trivial rfl).1.trans f_m_persons
  replace f_m_claims := (hs.o gm trivial rfl).1.trans f_m_claims
  replace f_m_taped := (hs.o gm trivial rfl).1.trans f_m_taped
  replace f_m_acts := (hs.o gm trivial rfl).1.trans f_m_acts
  replace f_m_lines := (hs.o gm trivial rfl).1.trans f_m_lines
  replace f_m_listed := (hs.o gm trivial rfl).1.trans f_m_listed
  replace f_m_walkedMany := (hs.o gm trivial rfl).1.trans f_m_walkedMany
  replace f_m_heardMany := (hs.o gm trivial rfl).1.trans f_m_heardMany
  replace f_x_now := (hs.o gx trivial rfl).1.trans f_x_now
  replace f_x_personCount := (hs.o gx trivial rfl).1.trans f_x_personCount
  replace f_x_claimCount := (hs.o gx trivial rfl).1.trans f_x_claimCount
  replace f_x_tapeLength := (hs.o gx trivial rfl).1.trans f_x_tapeLength
  replace f_x_actCount := (hs.o gx trivial rfl).1.trans f_x_actCount
  replace f_mw := (hs.o gm trivial rfl).2.trans f_mw
  replace f_mr := (hs.o gm trivial rfl).2.trans f_mr
  replace f_mp := (hs.o gm trivial rfl).2.trans f_mp
  replace f_mn := (hs.o gm trivial rfl).2.trans f_mn
  replace f_ml := (hs.o gm trivial rfl).2.trans f_ml
  replace f_mh := (hs.o gm trivial rfl).2.trans f_mh
  replace f_mt := (hs.o gm trivial rfl).2.trans f_mt
  replace f_m_fou := (hs.o gm trivial rfl).2.trans f_m_fou
  replace f_qo_ln := (hs.o gx trivial rfl).2.trans f_qo_ln
  replace f_o_ln := (hs.o g_qo_ln trivial rfl).1.trans f_o_ln
  replace f_o_lsd := (hs.o g_qw trivial rfl).1.trans f_o_lsd
  replace f_o_wkm := (hs.o g_qw trivial rfl).1.trans f_o_wkm
  replace f_b_of := (hs.o g_qo_ln trivial rfl).2.trans f_b_of
  replace f_m_of := (hs.o gm trivial rfl).2.trans f_m_of
  replace f_b_wf := (hs.o g_qo_ln trivial rfl).2.trans f_b_wf
  replace f_m_wf := (hs.o gm trivial rfl).2.trans f_m_wf
  replace f_b_df := (hs.o g_qo_ln trivial rfl).2.trans f_b_df
  replace f_m_df := (hs.o gm trivial rfl).2.trans f_m_df
  replace f_b_kf := (hs.o g_qo_ln trivial rfl).2.trans f_b_kf
  replace f_m_kf := (hs.o gm trivial rfl).2.trans f_m_kf
  replace f_b_sf := (hs.o g_qo_ln trivial rfl).2.trans f_b_sf
  replace f_m_sf := (hs.o gm trivial rfl).2.trans f_m_sf
  replace f_b_bf := (hs.o g_qo_ln trivial rfl).2.trans f_b_bf
  replace f_m_lst := (hs.o gm trivial rfl).2.trans f_m_lst
  replace f_qtp := (hs.o gx trivial rfl).2.trans f_qtp
  replace f_m_tp := (hs.o gm trivial rfl).2.trans f_m_tp
  replace f_m_dead := (hs.o gm trivial rfl).2.trans f_m_dead
  replace f_m_isj := (hs.o gm trivial rfl).2.trans f_m_isj
  replace f_m_dox := (hs.o gm trivial rfl).2.trans f_m_dox
  replace f_m_doy := (hs.o gm trivial rfl).2.trans f_m_doy
  replace f_qlt := (hs.o g_qw trivial rfl).2.trans f_qlt
  replace f_qlf := (hs.o g_qw trivial rfl).2.trans f_qlf
  replace f_m_wkd := (hs.o gm trivial rfl).2.trans f_m_wkd
  replace f_m_aga := (hs.o gm trivial rfl).2.trans f_m_aga
  replace f_qwo := (hs.o gx trivial rfl).2.trans f_qwo
  replace f_m_ad := (hs.o gm trivial rfl).2.trans f_m_ad
  replace pf_qa : ∀ j : Nat, (j : Int) < (h_115.2.1 ax 6).toInt → h_115.2.2 qa j ≠ none := by
    intro j hj; rw [(hs.o gx trivial rfl).1] at hj; rw [(hs.a g_qa rfl j).2]; exact pf_qa j hj
  replace pf_qp : ∀ j : Nat, (j : Int) < (h_115.2.1 ax 8).toInt → h_115.2.2 qp j ≠ none := by
    intro j hj; rw [(hs.o gx trivial rfl).1] at hj; rw [(hs.a g_qp rfl j).2]; exact pf_qp j hj
  replace pf_qc : ∀ j : Nat, (j : Int) < (h_115.2.1 ax 11).toInt → h_115.2.2 qc j ≠ none := by
    intro j hj; rw [(hs.o gx trivial rfl).1] at hj; rw [(hs.a g_qc rfl j).2]; exact pf_qc j hj
  replace pf_qh : ∀ j : Nat, (j : Int) < (h_115.2.1 ax 13).toInt → h_115.2.2 qh j ≠ none := by
    intro j hj; rw [(hs.o gx trivial rfl).1] at hj; rw [(hs.a g_qh rfl j).2]; exact pf_qh j hj
  replace pf_ql : ∀ j : Nat, (j : Int) < (h_115.2.1 qw 0).toInt → h_115.2.2 ql j ≠ none := by
    intro j hj; rw [(hs.o g_qw trivial rfl).1] at hj; rw [(hs.a g_ql rfl j).2]; exact pf_ql j hj
  replace cl_lst : hx_col 8 h_115 ql 0 = c_lst := (hx_col_S hs hTo g_ql tt_40 tt_2 rfl rfl).trans cl_lst
  replace cl_dead : hx_col 40 h_115 qp 7 = c_dead := (hx_col_S hs hTo g_qp tt_44 tt_4 rfl rfl).trans cl_dead
  replace cl_isj : hx_col 40 h_115 qp 8 = c_isj := (hx_col_S hs hTo g_qp tt_44 tt_4 rfl rfl).trans cl_isj
  replace cl_dox : hx_col 40 h_115 qp 5 = c_dox := (hx_col_S hs hTo g_qp tt_44 tt_4 rfl rfl).trans cl_dox
  replace cl_doy : hx_col 40 h_115 qp 6 = c_doy := (hx_col_S hs hTo g_qp tt_44 tt_4 rfl rfl).trans cl_doy
  replace cl_fou : hx_col 100 h_115 qc 10 = c_fou := (hx_col_S hs hTo g_qc tt_45 tt_2 rfl rfl).trans cl_fou
  replace cl_tri : hx_col 100 h_115 qc 9 = c_tri := (hx_col_S hs hTo g_qc tt_45 tt_2 rfl rfl).trans cl_tri
  replace nu_qp : hx_num 40 h_115 qp 0 (np.toInt) := hx_num_S hs hTo g_qp tt_44 tt_4 rfl rfl nu_qp
  replace nu_qc : hx_num 100 h_115 qc 0 (c0.toInt) := hx_num_S hs hTo g_qc tt_45 tt_2 rfl rfl nu_qc
  replace sb_list : hx_LQ 8 100 h_115 ql qc := hx_LQ_S hs g_ql g_qc rfl rfl sb_list
  replace hDF : hw_DF h_115 qc qp 2 F_aga c0.toInt := hw_DF_S hs hTo g_qc g_qp tt_45 tt_2 rfl rfl rfl hDF
  replace hRA9 : hv_RA h_115 qa qwo a0.toInt A9 := hv_RA_S hs hTo g_qa g_qwo tt_43 tt_0 rfl rfl rfl rfl rfl rfl (by omega) hRA9
  replace n_mw : h_115.2.1 mw = F_mw := (funext fun j => (hs.a g_mw rfl j).1).trans n_mw
  replace n_mr : h_115.2.1 mr = F_mr := (funext fun j => (hs.a g_mr rfl j).1).trans n_mr
  replace n_mp : h_115.2.1 mp = F_mp := (funext fun j => (hs.a g_mp rfl j).1).trans n_mp
  replace n_mn : h_115.2.1 mn = F_mn := (funext fun j => (hs.a g_mn rfl j).1).trans n_mn
  replace n_ml : h_115.2.1 ml = F_ml := (funext fun j => (hs.a g_ml rfl j).1).trans n_ml
  replace n_mh : h_115.2.1 mh = F_mh := (funext fun j => (hs.a g_mh rfl j).1).trans n_mh
  replace n_mt : h_115.2.1 mt = F_mt := (funext fun j => (hs.a g_mt rfl j).1).trans n_mt
  replace n_m_fou : h_115.2.1 m_fou = F_m_fou := (funext fun j => (hs.a g_m_fou rfl j).1).trans n_m_fou
  replace n_b_of : h_115.2.1 b_of = B_of := (funext fun j => (hs.a g_b_of rfl j).1).trans n_b_of
  replace n_m_of : h_115.2.1 m_of = F_of := (funext fun j => (hs.a g_m_of rfl j).1).trans n_m_of
  replace n_b_wf : h_115.2.1 b_wf = B_wf := (funext fun j => (hs.a g_b_wf rfl j).1).trans n_b_wf
  replace n_m_wf : h_115.2.1 m_wf = F_wf := (funext fun j => (hs.a g_m_wf rfl j).1).trans n_m_wf
  replace n_b_df : h_115.2.1 b_df = B_df := (funext fun j => (hs.a g_b_df rfl j).1).trans n_b_df
  replace n_m_df : h_115.2.1 m_df = F_df := (funext fun j => (hs.a g_m_df rfl j).1).trans n_m_df
  replace n_b_kf : h_115.2.1 b_kf = B_kf := (funext fun j => (hs.a g_b_kf rfl j).1).trans n_b_kf
  replace n_m_kf : h_115.2.1 m_kf = F_kf := (funext fun j => (hs.a g_m_kf rfl j).1).trans n_m_kf
  replace n_b_sf : h_115.2.1 b_sf = B_sf := (funext fun j => (hs.a g_b_sf rfl j).1).trans n_b_sf
  replace n_m_sf : h_115.2.1 m_sf = F_sf := (funext fun j => (hs.a g_m_sf rfl j).1).trans n_m_sf
  replace n_b_bf : h_115.2.1 b_bf = bfL := (funext fun j => (hs.a g_b_bf rfl j).1).trans n_b_bf
  replace n_lst : h_115.2.1 m_lst = F_lst := (funext fun j => (hs.a g_m_lst rfl j).1).trans n_lst
  replace n_tp : h_115.2.1 m_tp = F_tp := (funext fun j => (hs.a g_m_tp rfl j).1).trans n_tp
  replace n_qtp : h_115.2.1 qtp = F_tp := (funext fun j => (hs.a g_qtp rfl j).1).trans n_qtp
  replace n_dead : h_115.2.1 m_dead = F_dead := (funext fun j => (hs.a g_m_dead rfl j).1).trans n_dead
  replace n_isj : h_115.2.1 m_isj = F_isj := (funext fun j => (hs.a g_m_isj rfl j).1).trans n_isj
  replace n_dox : h_115.2.1 m_dox = F_dox := (funext fun j => (hs.a g_m_dox rfl j).1).trans n_dox
  replace n_doy : h_115.2.1 m_doy = F_doy := (funext fun j => (hs.a g_m_doy rfl j).1).trans n_doy
  replace n_qlt : h_115.2.1 qlt = F_qlt := (funext fun j => (hs.a g_qlt rfl j).1).trans n_qlt
  replace n_m_wkd : h_115.2.1 m_wkd = F_m_wkd := (funext fun j => (hs.a g_m_wkd rfl j).1).trans n_m_wkd
  replace n_aga : h_115.2.1 m_aga = F_aga := (funext fun j => (hs.a g_m_aga rfl j).1).trans n_aga
  replace n_ad : h_115.2.1 m_ad = F_ad := (funext fun j => (hs.a g_m_ad rfl j).1).trans n_ad
  replace gx := gx.S hs
  replace gm := gm.S hs
  replace g_qa := g_qa.S hs
  replace g_qp := g_qp.S hs
  replace g_qc := g_qc.S hs
  replace g_qh := g_qh.S hs
  replace g_qw := g_qw.S hs
  replace g_ql := g_ql.S hs
  replace g_mw := g_mw.S hs
  replace g_mr := g_mr.S hs
  replace g_mp := g_mp.S hs
  replace g_mn := g_mn.S hs
  replace g_ml := g_ml.S hs
  replace g_mh := g_mh.S hs
  replace g_mt := g_mt.S hs
  replace g_m_fou := g_m_fou.S hs
  replace g_qo_ln := g_qo_ln.S hs
  replace g_b_of := g_b_of.S hs
  replace g_m_of := g_m_of.S hs
  replace g_b_wf := g_b_wf.S hs
  replace g_m_wf := g_m_wf.S hs
  replace g_b_df := g_b_df.S hs
  replace g_m_df := g_m_df.S hs
  replace g_b_kf := g_b_kf.S hs
  replace g_m_kf := g_m_kf.S hs
  replace g_b_sf := g_b_sf.S hs
  replace g_m_sf := g_m_sf.S hs
  replace g_b_bf := g_b_bf.S hs
  replace g_m_lst := g_m_lst.S hs
  replace g_qtp := g_qtp.S hs
  replace g_m_tp := g_m_tp.S hs
  replace g_m_dead := g_m_dead.S hs
  replace g_m_isj := g_m_isj.S hs
  replace g_m_dox := g_m_dox.S hs
  replace g_m_doy := g_m_doy.S hs
  replace g_qlt := g_qlt.S hs
  replace g_qlf := g_qlf.S hs
  replace g_m_wkd := g_m_wkd.S hs
  replace g_m_aga := g_m_aga.S hs
  replace g_qwo := g_qwo.S hs
  replace g_m_ad := g_m_ad.S hs
  have heq := hv_FO_eq hr_109 hr_118
  have heq : r_107.toInt = r_116.toInt := heq
  refine hb_icmp_eq (zx := r_107.toInt) (zy := r_116.toInt) (tgt := 1379) hx hb rfl rfl dL_law_332 (by decide) (fun c_119 => ?_) (fun c_119 => absurd heq c_119)
  refine W.widen (k := CC + 3) (n := SS + 179) (by omega) (by omega) ?_
  exact kk L_114 h_115 H locs ls hW ⟨hT, gx, gm, ⟨f_x_now.trans f_m_now.symm, f_x_personCount.trans f_m_persons.symm, f_x_claimCount.trans f_m_claims.symm, f_x_tapeLength.trans f_m_taped.symm, f_x_actCount.trans f_m_acts.symm, hx_ob f_qo_ln (f_o_ln.trans f_m_lines.symm), hx_ob f_qw (f_o_lsd.trans f_m_listed.symm), hx_ob f_qw (f_o_wkm.trans f_m_walkedMany.symm), hx_ob f_qp (by rw [f_x_personCount]; exact nu_qp), hx_ob f_qc (by rw [f_x_claimCount]; exact nu_qc), (fun b a r hb ha hr => by obtain rfl : qo_ln = b := Option.some.inj (f_qo_ln.symm.trans hb); obtain rfl : b_of = a := Option.some.inj (f_b_of.symm.trans ha); obtain rfl : m_of = r := Option.some.inj (f_m_of.symm.trans hr); rw [n_b_of, n_m_of, f_o_ln]; exact eb_of), (fun b a r hb ha hr => by obtain rfl : qo_ln = b := Option.some.inj (f_qo_ln.symm.trans hb); obtain rfl : b_wf = a := Option.some.inj (f_b_wf.symm.trans ha); obtain rfl : m_wf = r := Option.some.inj (f_m_wf.symm.trans hr); rw [n_b_wf, n_m_wf, f_o_ln]; exact eb_wf), (fun b a r hb ha hr => by obtain rfl : qo_ln = b := Option.some.inj (f_qo_ln.symm.trans hb); obtain rfl : b_df = a := Option.some.inj (f_b_df.symm.trans ha); obtain rfl : m_df = r := Option.some.inj (f_m_df.symm.trans hr); rw [n_b_df, n_m_df, f_o_ln]; exact eb_df), (fun b a r hb ha hr => by obtain rfl : qo_ln = b := Option.some.inj (f_qo_ln.symm.trans hb); obtain rfl : b_kf = a := Option.some.inj (f_b_kf.symm.trans ha); obtain rfl : m_kf = r := Option.some.inj (f_m_kf.symm.trans hr); rw [n_b_kf, n_m_kf, f_o_ln]; exact eb_kf), (fun b a r hb ha hr => by obtain rfl : qo_ln = b := Option.some.inj (f_qo_ln.symm.trans hb); obtain rfl : b_sf = a := Option.some.inj (f_b_sf.symm.trans ha); obtain rfl : m_sf = r := Option.some.inj (f_m_sf.symm.trans hr); rw [n_b_sf, n_m_sf, f_o_ln]; exact eb_sf), (fun b a r hb ha hr => by obtain rfl : qo_ln = b := Option.some.inj (f_qo_ln.symm.trans hb); obtain rfl : b_df = a := Option.some.inj (f_b_df.symm.trans ha); obtain rfl : b_bf = r := Option.some.inj (f_b_bf.symm.trans hr); rw [n_b_df, n_b_bf, f_o_ln]; exact ⟨hBD, hDY⟩), (fun w q c hw hq hc => by obtain rfl : qw = w := Option.some.inj (f_qw.symm.trans hw); obtain rfl : ql = q := Option.some.inj (f_ql.symm.trans hq); obtain rfl : qc = c := Option.some.inj (f_qc.symm.trans hc); exact sb_list), (fun w q r hw hq hr => by obtain rfl : qw = w := Option.some.inj (f_qw.symm.trans hw); obtain rfl : ql = q := Option.some.inj (f_ql.symm.trans hq); obtain rfl : m_lst = r := Option.some.inj (f_m_lst.symm.trans hr); rw [cl_lst, n_lst]; exact eq_lst), (fun w q r hw hq hr => by obtain rfl : qw = w := Option.some.inj (f_qw.symm.trans hw); obtain rfl : qlt = q := Option.some.inj (f_qlt.symm.trans hq); obtain rfl : m_wkd = r := Option.some.inj (f_m_wkd.symm.trans hr); rw [n_qlt, n_m_wkd, f_o_wkm]; exact eb_wkd), (fun c q a hc hq ha => by obtain rfl : qc = c := Option.some.inj (f_qc.symm.trans hc); obtain rfl : qp = q := Option.some.inj (f_qp.symm.trans hq); obtain rfl : m_aga = a := Option.some.inj (f_m_aga.symm.trans ha); rw [n_aga, f_x_claimCount]; exact hw_DF_e hDF rfl rfl), (fun q r hq hr => by obtain rfl : qtp = q := Option.some.inj (f_qtp.symm.trans hq); obtain rfl : m_tp = r := Option.some.inj (f_m_tp.symm.trans hr); exact n_qtp.trans n_tp.symm), (fun q w a b c d hq hw ha hb hc hd => by obtain rfl : qa = q := Option.some.inj (f_qa.symm.trans hq); obtain rfl : qwo = w := Option.some.inj (f_qwo.symm.trans hw); obtain rfl : m_ad = a := Option.some.inj (f_m_ad.symm.trans ha); obtain rfl : mr = b := Option.some.inj (f_mr.symm.trans hb); obtain rfl : mn = c := Option.some.inj (f_mn.symm.trans hc); obtain rfl : mp = d := Option.some.inj (f_mp.symm.trans hd); exact ⟨_, by rw [f_x_actCount]; exact hRA9, by rw [f_x_actCount, n_ad, n_mr, n_mn, n_mp]; exact hCA9⟩), hx_ob2 f_qp f_m_dead (by rw [cl_dead, n_dead]; exact eq_dead), hx_ob2 f_qp f_m_isj (by rw [cl_isj, n_isj]; exact eq_isj), hx_ob2 f_qp f_m_dox (by rw [cl_dox, n_dox]; exact eq_dox), hx_ob2 f_qp f_m_doy (by rw [cl_doy, n_doy]; exact eq_doy), hx_ob2 f_qc f_m_fou (by rw [cl_fou, n_m_fou]; exact eq_fou), hx_ob2 f_qc f_mt (by rw [cl_tri, n_mt]; exact eq_tri), trivial⟩, ⟨hx_ob f_qa pf_qa, hx_ob f_qp pf_qp, hx_ob f_qc pf_qc, hx_ob f_qh pf_qh, (fun w q hw hq => by obtain rfl : qw = w := Option.some.inj (f_qw.symm.trans hw); obtain rfl : ql = q := Option.some.inj (f_ql.symm.trans hq); exact pf_ql)⟩, ⟨hx_ob f_mw (by rw [n_mw]; exact hwd), hx_ob f_mr (by rw [n_mr, f_m_acts]; exact hWK), hx_ob2 f_mp f_mn (by rw [n_mp, n_mn, f_m_acts]; exact hRP), hx_ob f_ml (by rw [n_ml, f_m_claims, f_m_acts]; exact hPL), hx_ob f_mh (by rw [n_mh, f_m_heardMany, f_m_claims]; exact hHC), hx_ob f_mt (by rw [n_mt]; exact (hx_TR_le hTR (by omega))), hx_ob2 f_mh f_m_fou (by rw [n_mh, n_m_fou, f_m_claims]; exact hHF)⟩⟩ hl

set_option maxHeartbeats 4000000 in
set_option maxRecDepth 100000 in
theorem law_case_5 {p : Program} {e : Env} {s : State} {m : MethodId} {below : List Frame} {meth : Method} {c : Code} (l : Launch) {b LN : Nat} {xs : Nat → Int32} (hx : p.tables.exec = Jvm.exec) (hb : c.code = code) (hr : meth.sig.returnType = ret) (hlocks : meth.locks = false) (hml : c.maxLocals = 4) (hown : s.vm.findClass "SmallCourtLaw" = some m.cls) (hts : ∀ w ∈ hx_all, w.before #[Value.ref b] s = true) (hX : va_X b LN xs s s.heap) (hbl : b < s.heap.size) (hbA : ¬ s.heap.size ≤ b) (hLN : LN ≤ 3584) (dC : Nat → ClassId) (dI : Nat → Nat → Nat) (dA : Nat → ClassId) (b0 : hx_z) (ax am : Nat) (T1 : Int) (hT0 : 0 ≤ T1) (hT1 : T1 ≤ 511) (i : Int32) (hi0 : 0 ≤ i.toInt) (hiL : i.toInt + 7 ≤ LN) (CC SS : Nat) (hCC : CC + 3 ≤ 600000) (hSS : SS + 179 ≤ 7302250) (L1 : List Nat) (hl1 : hx_h) (H : Heap) (locs : List Loc) (ls : Array Slot) (hW : hx_W T_tb (P_ty dA) (dC, dI) vwCl (fun q : Nat => s.heap.size ≤ q) s.heap L1 hl1 s H locs) (hZ : hx_Xt (fun q : Nat => s.heap.size ≤ q) b0 s) (hI : hx_IV T1 ax am L1 hl1) (hl : lv_has ls 4 [(3, .int i), (2, .ref am), (1, .ref ax), (0, .ref b)]) (kk : ∀ (L2 : List Nat) (h2 : hx_h) (H2 : Heap) (locs2 : List Loc) (ls2 : Array Slot), hx_W T_tb (P_ty dA) (dC, dI) vwCl (fun q : Nat => s.heap.size ≤ q) s.heap L2 h2 s H2 locs2 → hx_IV (T1 + 1) ax am L2 h2 → lv_has ls2 4 [(3, .int i), (2, .ref am), (1, .ref ax), (0, .ref b)] → W p l e room_1 s m #[Value.ref b] below meth c H2 locs2 (CC + 3) (SS + 179) (lw_Z below #[Value.ref b] s) (F0 m 1379 ls2 [])) : W p l e room_1 s m #[Value.ref b] below meth c H locs CC SS (lw_Z below #[Value.ref b] s) (F0 m 337 ls []) := by
  obtain ⟨hT, gx, gm, ⟨he_nw, he_np, he_c0, he_tl, he_a0, ho_ln, ho_lsd, ho_wkm, hn_qp, hn_qc, hk_of, hk_wf, hk_df, hk_kf, hk_sf, hkBD, hLQ, hLE, hkWD, hkDF, hkTP, hkAC, hc_dead, hc_isj, hc_dox, hc_doy, hc_fou, hc_tri, -⟩, ⟨ia, ip, ic, ih, il⟩, ⟨jw, jr, jp, jl, jh, jt, jf⟩⟩ := hI
  obtain ⟨qa, f_qa, g_qa⟩ := hx_rf hT gx tt_9 (k := 5) (u := 43) rfl
  have pf_qa := ia qa f_qa
  obtain ⟨qp, f_qp, g_qp⟩ := hx_rf hT gx tt_9 (k := 7) (u := 44) rfl
  have pf_qp := ip qp f_qp
  obtain ⟨qc, f_qc, g_qc⟩ := hx_rf hT gx tt_9 (k := 10) (u := 45) rfl
  have pf_qc := ic qc f_qc
  obtain ⟨qh, f_qh, g_qh⟩ := hx_rf hT gx tt_9 (k := 12) (u := 46) rfl
  have pf_qh := ih qh f_qh
  obtain ⟨qw, f_qw, g_qw⟩ := hx_rf hT gx tt_9 (k := 19) (u := 8) rfl
  obtain ⟨ql, f_ql, g_ql⟩ := hx_rf hT g_qw tt_8 (k := 3) (u := 40) rfl
  have pf_ql := il qw ql f_qw f_ql
  obtain ⟨nw, f_m_now⟩ : ∃ y : Int32, hl1.2.1 am 0 = y := ⟨_, rfl⟩
  have b_nw := hT.gi gm tt_10 (k := 0) rfl
  rw [f_m_now] at b_nw
  have b_nw : 0 ≤ nw.toInt ∧ nw.toInt ≤ 7999 := b_nw
  obtain ⟨np, f_m_persons⟩ : ∃ y : Int32, hl1.2.1 am 20 = y := ⟨_, rfl⟩
  have b_np := hT.gi gm tt_10 (k := 20) rfl
  rw [f_m_persons] at b_np
  have b_np : 0 ≤ np.toInt ∧ np.toInt ≤ 40 := b_np
  obtain ⟨c0, f_m_claims⟩ : ∃ y : Int32, hl1.2.1 am 36 = y := ⟨_, rfl⟩
  have b_c0 := hT.gi gm tt_10 (k := 36) rfl
  rw [f_m_claims] at b_c0
  have b_c0 : 0 ≤ c0.toInt ∧ c0.toInt ≤ 100 := b_c0
  obtain ⟨tl, f_m_taped⟩ : ∃ y : Int32, hl1.2.1 am 7 = y := ⟨_, rfl⟩
  have b_tl := hT.gi gm tt_10 (k := 7) rfl
  rw [f_m_taped] at b_tl
  have b_tl : 0 ≤ tl.toInt ∧ tl.toInt ≤ 400 := b_tl
  obtain ⟨a0, f_m_acts⟩ : ∃ y : Int32, hl1.2.1 am 1 = y := ⟨_, rfl⟩
  have b_a0 := hT.gi gm tt_10 (k := 1) rfl
  rw [f_m_acts] at b_a0
  have b_a0 : 0 ≤ a0.toInt ∧ a0.toInt ≤ 8 := b_a0
  obtain ⟨ln, f_m_lines⟩ : ∃ y : Int32, hl1.2.1 am 29 = y := ⟨_, rfl⟩
  have b_ln := hT.gi gm tt_10 (k := 29) rfl
  rw [f_m_lines] at b_ln
  have b_ln : 0 ≤ ln.toInt ∧ ln.toInt ≤ 400 := b_ln
  obtain ⟨lsd, f_m_listed⟩ : ∃ y : Int32, hl1.2.1 am 90 = y := ⟨_, rfl⟩
  have b_lsd := hT.gi gm tt_10 (k := 90) rfl
  rw [f_m_listed] at b_lsd
  have b_lsd : 0 ≤ lsd.toInt ∧ lsd.toInt ≤ 8 := b_lsd
  obtain ⟨wkm, f_m_walkedMany⟩ : ∃ y : Int32, hl1.2.1 am 92 = y := ⟨_, rfl⟩
  have b_wkm := hT.gi gm tt_10 (k := 92) rfl
  rw [f_m_walkedMany] at b_wkm
  have b_wkm : 0 ≤ wkm.toInt ∧ wkm.toInt ≤ 8 := b_wkm
  obtain ⟨m0, f_m_heardMany⟩ : ∃ y : Int32, hl1.2.1 am 57 = y := ⟨_, rfl⟩
  have b_m0 := hT.gi gm tt_10 (k := 57) rfl
  rw [f_m_heardMany] at b_m0
  have b_m0 : 0 ≤ m0.toInt ∧ m0.toInt ≤ 100 := b_m0
  have f_x_now : hl1.2.1 ax 2 = nw := he_nw.trans f_m_now
  have f_x_personCount : hl1.2.1 ax 8 = np := he_np.trans f_m_persons
  have f_x_claimCount : hl1.2.1 ax 11 = c0 := he_c0.trans f_m_claims
  have f_x_tapeLength : hl1.2.1 ax 1 = tl := he_tl.trans f_m_taped
  have f_x_actCount : hl1.2.1 ax 6 = a0 := he_a0.trans f_m_acts
  obtain ⟨mw, f_mw, g_mw⟩ := hx_rf hT gm tt_10 (k := 19) (u := 57) rfl
  obtain ⟨F_mw, n_mw⟩ : ∃ g : Nat → Int32, hl1.2.1 mw = g := ⟨_, rfl⟩
  obtain ⟨mr, f_mr, g_mr⟩ := hx_rf hT gm tt_10 (k := 3) (u := 50) rfl
  obtain ⟨F_mr, n_mr⟩ : ∃ g : Nat → Int32, hl1.2.1 mr = g := ⟨_, rfl⟩
  obtain ⟨mp, f_mp, g_mp⟩ := hx_rf hT gm tt_10 (k := 5) (u := 52) rfl
  obtain ⟨F_mp, n_mp⟩ : ∃ g : Nat → Int32, hl1.2.1 mp = g := ⟨_, rfl⟩
  obtain ⟨mn, f_mn, g_mn⟩ := hx_rf hT gm tt_10 (k := 4) (u := 51) rfl
  obtain ⟨F_mn, n_mn⟩ : ∃ g : Nat → Int32, hl1.2.1 mn = g := ⟨_, rfl⟩
  obtain ⟨ml, f_ml, g_ml⟩ := hx_rf hT gm tt_10 (k := 44) (u := 79) rfl
  obtain ⟨F_ml, n_ml⟩ : ∃ g : Nat → Int32, hl1.2.1 ml = g := ⟨_, rfl⟩
  obtain ⟨mh, f_mh, g_mh⟩ := hx_rf hT gm tt_10 (k := 47) (u := 82) rfl
  obtain ⟨F_mh, n_mh⟩ : ∃ g : Nat → Int32, hl1.2.1 mh = g := ⟨_, rfl⟩
  obtain ⟨mt, f_mt, g_mt⟩ := hx_rf hT gm tt_10 (k := 45) (u := 80) rfl
  obtain ⟨F_mt, n_mt⟩ : ∃ g : Nat → Int32, hl1.2.1 mt = g := ⟨_, rfl⟩
  obtain ⟨m_fou, f_m_fou, g_m_fou⟩ := hx_rf hT gm tt_10 (k := 46) (u := 81) rfl
  obtain ⟨F_m_fou, n_m_fou⟩ : ∃ g : Nat → Int32, hl1.2.1 m_fou = g := ⟨_, rfl⟩
  obtain ⟨qo_ln, f_qo_ln, g_qo_ln⟩ := hx_rf hT gx tt_9 (k := 9) (u := 1) rfl
  have f_o_ln : hl1.2.1 qo_ln 0 = ln := (ho_ln qo_ln f_qo_ln).trans f_m_lines
  have f_o_lsd : hl1.2.1 qw 0 = lsd := (ho_lsd qw f_qw).trans f_m_listed
  have f_o_wkm : hl1.2.1 qw 1 = wkm := (ho_wkm qw f_qw).trans f_m_walkedMany
  have nu_qp := hn_qp qp f_qp; rw [f_x_personCount] at nu_qp
  have nu_qc := hn_qc qc f_qc; rw [f_x_claimCount] at nu_qc
  obtain ⟨b_of, f_b_of, g_b_of⟩ := hx_rf hT g_qo_ln tt_1 (k := 1) (u := 13) rfl
  obtain ⟨B_of, n_b_of⟩ : ∃ g : Nat → Int32, hl1.2.1 b_of = g := ⟨_, rfl⟩
  obtain ⟨m_of, f_m_of, g_m_of⟩ := hx_rf hT gm tt_10 (k := 30) (u := 66) rfl
  obtain ⟨F_of, n_m_of⟩ : ∃ g : Nat → Int32, hl1.2.1 m_of = g := ⟨_, rfl⟩
  have eb_of := hk_of qo_ln b_of m_of f_qo_ln f_b_of f_m_of; rw [n_b_of, n_m_of, f_o_ln] at eb_of
  obtain ⟨b_wf, f_b_wf, g_b_wf⟩ := hx_rf hT g_qo_ln tt_1 (k := 2) (u := 14) rfl
  obtain ⟨B_wf, n_b_wf⟩ : ∃ g : Nat → Int32, hl1.2.1 b_wf = g := ⟨_, rfl⟩
  obtain ⟨m_wf, f_m_wf, g_m_wf⟩ := hx_rf hT gm tt_10 (k := 31) (u := 67) rfl
  obtain ⟨F_wf, n_m_wf⟩ : ∃ g : Nat → Int32, hl1.2.1 m_wf = g := ⟨_, rfl⟩
  have eb_wf := hk_wf qo_ln b_wf m_wf f_qo_ln f_b_wf f_m_wf; rw [n_b_wf, n_m_wf, f_o_ln] at eb_wf
  obtain ⟨b_df, f_b_df, g_b_df⟩ := hx_rf hT g_qo_ln tt_1 (k := 3) (u := 15) rfl
  obtain ⟨B_df, n_b_df⟩ : ∃ g : Nat → Int32, hl1.2.1 b_df = g := ⟨_, rfl⟩
  obtain ⟨m_df, f_m_df, g_m_df⟩ := hx_rf hT gm tt_10 (k := 32) (u := 68) rfl
  obtain ⟨F_df, n_m_df⟩ : ∃ g : Nat → Int32, hl1.2.1 m_df = g := ⟨_, rfl⟩
  have eb_df := hk_df qo_ln b_df m_df f_qo_ln f_b_df f_m_df; rw [n_b_df, n_m_df, f_o_ln] at eb_df
  obtain ⟨b_kf, f_b_kf, g_b_kf⟩ := hx_rf hT g_qo_ln tt_1 (k := 4) (u := 16) rfl
  obtain ⟨B_kf, n_b_kf⟩ : ∃ g : Nat → Int32, hl1.2.1 b_kf = g := ⟨_, rfl⟩
  obtain ⟨m_kf, f_m_kf, g_m_kf⟩ := hx_rf hT gm tt_10 (k := 33) (u := 69) rfl
  obtain ⟨F_kf, n_m_kf⟩ : ∃ g : Nat → Int32, hl1.2.1 m_kf = g := ⟨_, rfl⟩
  have eb_kf := hk_kf qo_ln b_kf m_kf f_qo_ln f_b_kf f_m_kf; rw [n_b_kf, n_m_kf, f_o_ln] at eb_kf
  obtain ⟨b_sf, f_b_sf, g_b_sf⟩ := hx_rf hT g_qo_ln tt_1 (k := 5) (u := 17) rfl
  obtain ⟨B_sf, n_b_sf⟩ : ∃ g : Nat → Int32, hl1.2.1 b_sf = g := ⟨_, rfl⟩
  obtain ⟨m_sf, f_m_sf, g_m_sf⟩ := hx_rf hT gm tt_10 (k := 34) (u := 70) rfl
  obtain ⟨F_sf, n_m_sf⟩ : ∃ g : Nat → Int32, hl1.2.1 m_sf = g := ⟨_, rfl⟩
  have eb_sf := hk_sf qo_ln b_sf m_sf f_qo_ln f_b_sf f_m_sf; rw [n_b_sf, n_m_sf, f_o_ln] at eb_sf
  obtain ⟨b_bf, f_b_bf, g_b_bf⟩ := hx_rf hT g_qo_ln tt_1 (k := 6) (u := 18) rfl
  obtain ⟨bfL, n_b_bf⟩ : ∃ g : Nat → Int32, hl1.2.1 b_bf = g := ⟨_, rfl⟩
  obtain ⟨hBD, hDY⟩ := hkBD qo_ln b_df b_bf f_qo_ln f_b_df f_b_bf; rw [n_b_df, n_b_bf, f_o_ln] at hBD; rw [n_b_df, f_o_ln] at hDY
  have hBDm := hy_BD_c eb_df hBD
  have hDYm : hy_DY F_df ln.toInt.toNat := fun x hx => by rw [← eb_df x hx]; exact hDY x hx
  have sb_list := hLQ qw ql qc f_qw f_ql f_qc
  obtain ⟨m_lst, f_m_lst, g_m_lst⟩ := hx_rf hT gm tt_10 (k := 91) (u := 112) rfl
  obtain ⟨F_lst, n_lst⟩ : ∃ g : Nat → Int32, hl1.2.1 m_lst = g := ⟨_, rfl⟩
  obtain ⟨c_lst, cl_lst⟩ : ∃ g : Nat → Int32, hx_col 8 hl1 ql 0 = g := ⟨_, rfl⟩
  have eq_lst := hLE qw ql m_lst f_qw f_ql f_m_lst; rw [cl_lst, n_lst] at eq_lst
  obtain ⟨qtp, f_qtp, g_qtp⟩ := hx_rf hT gx tt_9 (k := 0) (u := 42) rfl
  obtain ⟨m_tp, f_m_tp, g_m_tp⟩ := hx_rf hT gm tt_10 (k := 6) (u := 53) rfl
  obtain ⟨F_tp, n_tp⟩ : ∃ g : Nat → Int32, hl1.2.1 m_tp = g := ⟨_, rfl⟩
  have n_qtp : hl1.2.1 qtp = F_tp := (hkTP qtp m_tp f_qtp f_m_tp).trans n_tp
  obtain ⟨c_dead, cl_dead⟩ : ∃ g : Nat → Int32, hx_col 40 hl1 qp 7 = g := ⟨_, rfl⟩
  obtain ⟨m_dead, f_m_dead, g_m_dead⟩ := hx_rf hT gm tt_10 (k := 27) (u := 64) rfl
  obtain ⟨F_dead, n_dead⟩ : ∃ g : Nat → Int32, hl1.2.1 m_dead = g := ⟨_, rfl⟩
  have eq_dead := hc_dead qp m_dead f_qp f_m_dead; rw [cl_dead, n_dead] at eq_dead
  have z_dead : np.toInt.toNat < 40 → c_dead np.toInt.toNat = 0 := fun hj => hx_num_z nu_qp cl_dead hj (by omega)
  obtain ⟨c_isj, cl_isj⟩ : ∃ g : Nat → Int32, hx_col 40 hl1 qp 8 = g := ⟨_, rfl⟩
  obtain ⟨m_isj, f_m_isj, g_m_isj⟩ := hx_rf hT gm tt_10 (k := 28) (u := 65) rfl
  obtain ⟨F_isj, n_isj⟩ : ∃ g : Nat → Int32, hl1.2.1 m_isj = g := ⟨_, rfl⟩
  have eq_isj := hc_isj qp m_isj f_qp f_m_isj; rw [cl_isj, n_isj] at eq_isj
  have z_isj : np.toInt.toNat < 40 → c_isj np.toInt.toNat = 0 := fun hj => hx_num_z nu_qp cl_isj hj (by omega)
  obtain ⟨c_dox, cl_dox⟩ : ∃ g : Nat → Int32, hx_col 40 hl1 qp 5 = g := ⟨_, rfl⟩
  obtain ⟨m_dox, f_m_dox, g_m_dox⟩ := hx_rf hT gm tt_10 (k := 24) (u := 61) rfl
  obtain ⟨F_dox, n_dox⟩ : ∃ g : Nat → Int32, hl1.2.1 m_dox = g := ⟨_, rfl⟩
  have eq_dox := hc_dox qp m_dox f_qp f_m_dox; rw [cl_dox, n_dox] at eq_dox
  have z_dox : np.toInt.toNat < 40 → c_dox np.toInt.toNat = 0 := fun hj => hx_num_z nu_qp cl_dox hj (by omega)
  obtain ⟨c_doy, cl_doy⟩ : ∃ g : Nat → Int32, hx_col 40 hl1 qp 6 = g := ⟨_, rfl⟩
  obtain ⟨m_doy, f_m_doy, g_m_doy⟩ := hx_rf hT gm tt_10 (k := 25) (u := 62) rfl
  obtain ⟨F_doy, n_doy⟩ : ∃ g : Nat → Int32, hl1.2.1 m_doy = g := ⟨_, rfl⟩
  have eq_doy := hc_doy qp m_doy f_qp f_m_doy; rw [cl_doy, n_doy] at eq_doy
  have z_doy : np.toInt.toNat < 40 → c_doy np.toInt.toNat = 0 := fun hj => hx_num_z nu_qp cl_doy hj (by omega)
  obtain ⟨c_fou, cl_fou⟩ : ∃ g : Nat → Int32, hx_col 100 hl1 qc 10 = g := ⟨_, rfl⟩
  have eq_fou := hc_fou qc m_fou f_qc f_m_fou; rw [cl_fou, n_m_fou] at eq_fou
  have z_fou : c0.toInt.toNat < 100 → c_fou c0.toInt.toNat = 0 := fun hj => hx_num_z nu_qc cl_fou hj (by omega)
  obtain ⟨c_tri, cl_tri⟩ : ∃ g : Nat → Int32, hx_col 100 hl1 qc 9 = g := ⟨_, rfl⟩
  have eq_tri := hc_tri qc mt f_qc f_mt; rw [cl_tri, n_mt] at eq_tri
  have z_tri : c0.toInt.toNat < 100 → c_tri c0.toInt.toNat = 0 := fun hj => hx_num_z nu_qc cl_tri hj (by omega)
  obtain ⟨qlt, f_qlt, g_qlt⟩ := hx_rf hT g_qw tt_8 (k := 2) (u := 39) rfl
  obtain ⟨qlf, f_qlf, g_qlf⟩ := hx_rf hT g_qw tt_8 (k := 4) (u := 41) rfl
  obtain ⟨m_wkd, f_m_wkd, g_m_wkd⟩ := hx_rf hT gm tt_10 (k := 93) (u := 113) rfl
  obtain ⟨F_qlt, n_qlt⟩ : ∃ g : Nat → Int32, hl1.2.1 qlt = g := ⟨_, rfl⟩
  obtain ⟨F_m_wkd, n_m_wkd⟩ : ∃ g : Nat → Int32, hl1.2.1 m_wkd = g := ⟨_, rfl⟩
  have eb_wkd := hkWD qw qlt m_wkd f_qw f_qlt f_m_wkd; rw [n_qlt, n_m_wkd, f_o_wkm] at eb_wkd
  obtain ⟨m_aga, f_m_aga, g_m_aga⟩ := hx_rf hT gm tt_10 (k := 38) (u := 73) rfl
  obtain ⟨F_aga, n_aga⟩ : ∃ g : Nat → Int32, hl1.2.1 m_aga = g := ⟨_, rfl⟩
  have hDF := hkDF qc qp m_aga f_qc f_qp f_m_aga; rw [n_aga, f_x_claimCount] at hDF
  obtain ⟨qwo, f_qwo, g_qwo⟩ := hx_rf hT gx tt_9 (k := 4) (u := 0) rfl
  obtain ⟨m_ad, f_m_ad, g_m_ad⟩ := hx_rf hT gm tt_10 (k := 2) (u := 49) rfl
  obtain ⟨F_ad, n_ad⟩ : ∃ g : Nat → Int32, hl1.2.1 m_ad = g := ⟨_, rfl⟩
  obtain ⟨A9, hRA9, hCA9⟩ := hkAC qa qwo m_ad mr mn mp f_qa f_qwo f_m_ad f_mr f_mn f_mp
  rw [f_x_actCount] at hRA9; rw [f_x_actCount, n_ad, n_mr, n_mn, n_mp] at hCA9
  have hwd := jw mw f_mw; rw [n_mw] at hwd
  have hWK := jr mr f_mr; rw [n_mr, f_m_acts] at hWK
  have hRP := jp mp mn f_mp f_mn; rw [n_mp, n_mn, f_m_acts] at hRP
  have hPL := jl ml f_ml; rw [n_ml, f_m_claims, f_m_acts] at hPL
  have hHC := jh mh f_mh; rw [n_mh, f_m_heardMany, f_m_claims] at hHC
  have hTR := jt mt f_mt; rw [n_mt] at hTR
  have hHF := jf mh m_fou f_mh f_m_fou; rw [n_mh, n_m_fou, f_m_claims] at hHF
  refine lv_aload_n hx hb dL_law_337 rfl (lv_at hl 2 rfl) ?_
  refine lv_aload_n hx hb dL_law_338 rfl (lv_at hl 3 rfl) ?_
  refine lv_iload_n hx hb dL_law_339 rfl (lv_at hl 0 rfl) ?_
  refine lv_iconst (v := 1) hx hb dL_law_340 (by decide) ?_
  refine lv_iadd hx hb dL_law_341 ?_
  have rg_120 := i32_r i
  refine lv_topi (fun x_121 ex_121 => ?_)
  have zx_121 : x_121.toInt = i.toInt + 1 := by rw [ex_121]; exact i32_add rfl (by decide) (by omega) (by omega)
  refine va_sld hx hb hX hbl hbA hW.2.2.2.1 (vp_in_iff.mpr ⟨by omega, by omega⟩) dL_law_342 ?_
  refine lv_topi (fun x_122 ex_122 => ?_)
  refine lv_aload_n hx hb dL_law_343 rfl (lv_at hl 3 rfl) ?_
  refine lv_iload_n hx hb dL_law_344 rfl (lv_at hl 0 rfl) ?_
  refine lv_iconst (v := 2) hx hb dL_law_345 (by decide) ?_
  refine lv_iadd hx hb dL_law_346 ?_
  refine lv_topi (fun x_123 ex_123 => ?_)
  have zx_123 : x_123.toInt = i.toInt + 2 := by rw [ex_123]; exact i32_add rfl (by decide) (by omega) (by omega)
  refine va_sld hx hb hX hbl hbA hW.2.2.2.1 (vp_in_iff.mpr ⟨by omega, by omega⟩) dL_law_347 ?_
  refine lv_topi (fun x_124 ex_124 => ?_)
  refine lv_aload_n hx hb dL_law_348 rfl (lv_at hl 3 rfl) ?_
  refine lv_iload_n hx hb dL_law_349 rfl (lv_at hl 0 rfl) ?_
  refine lv_iconst (v := 3) hx hb dL_law_350 (by decide) ?_
  refine lv_iadd hx hb dL_law_351 ?_
  refine lv_topi (fun x_125 ex_125 => ?_)
  have zx_125 : x_125.toInt = i.toInt + 3 := by rw [ex_125]; exact i32_add rfl (by decide) (by omega) (by omega)
  refine va_sld hx hb hX hbl hbA hW.2.2.2.1 (vp_in_iff.mpr ⟨by omega, by omega⟩) dL_law_352 ?_
  refine lv_topi (fun x_126 ex_126 => ?_)
  refine lv_aload_n hx hb dL_law_353 rfl (lv_at hl 3 rfl) ?_
  refine lv_iload_n hx hb dL_law_354 rfl (lv_at hl 0 rfl) ?_
  refine lv_iconst (v := 4) hx hb dL_law_355 (by decide) ?_
  refine lv_iadd hx hb dL_law_356 ?_
  refine lv_topi (fun x_127 ex_127 => ?_)
  have zx_127 : x_127.toInt = i.toInt + 4 := by rw [ex_127]; exact i32_add rfl (by decide) (by omega) (by omega)
  refine va_sld hx hb hX hbl hbA hW.2.2.2.1 (vp_in_iff.mpr ⟨by omega, by omega⟩) dL_law_357 ?_
  refine lv_topi (fun x_128 ex_128 => ?_)
  refine lv_aload_n hx hb dL_law_358 rfl (lv_at hl 3 rfl) ?_
  refine lv_iload_n hx hb dL_law_359 rfl (lv_at hl 0 rfl) ?_
  refine lv_iconst (v := 5) hx hb dL_law_360 (by decide) ?_
  refine lv_iadd hx hb dL_law_361 ?_
  refine lv_topi (fun x_129 ex_129 => ?_)
  have zx_129 : x_129.toInt = i.toInt + 5 := by rw [ex_129]; exact i32_add rfl (by decide) (by omega) (by omega)
  refine va_sld hx hb hX hbl hbA hW.2.2.2.1 (vp_in_iff.mpr ⟨by omega, by omega⟩) dL_law_362 ?_
  refine lv_topi (fun x_130 ex_130 => ?_)
  refine lv_aload_n hx hb dL_law_363 rfl (lv_at hl 3 rfl) ?_
  refine lv_iload_n hx hb dL_law_364 rfl (lv_at hl 0 rfl) ?_
  refine lv_bipush (v := 6) hx hb dL_law_365 (by decide) ?_
  refine lv_iadd hx hb dL_law_367 ?_
  refine lv_topi (fun x_131 ex_131 => ?_)
  have zx_131 : x_131.toInt = i.toInt + 6 := by rw [ex_131]; exact i32_add rfl (by decide) (by omega) (by omega)
  refine va_sld hx hb hX hbl hbA hW.2.2.2.1 (vp_in_iff.mpr ⟨by omega, by omega⟩) dL_law_368 ?_
  refine lv_topi (fun x_132 ex_132 => ?_)
  have hTo := hT
  refine hx_goi (hx_runV (As := [.int x_122, .int x_124, .int x_126, .int x_128, .int x_130, .int x_132]) (rest := []) ⟨hx, hb, hml, hown, hts⟩ hW gx tt_9 (T := TX9) (N := 20) rfl (t_X9_person_2 l dC dI dA L1 hl1 H.size ax x_122 x_124 x_126 x_128 x_130 x_132 hT gx qp g_qp f_qp qc g_qc f_qc np f_x_personCount c0 f_x_claimCount c_dead cl_dead c_isj cl_isj c_dox cl_dox c_doy cl_doy nu_qp F_aga hDF pf_qp) (cwV 6 hts (hx_gV kw_601 kw_598 kw_599 kw_600 kw_94) rfl rfl rfl (by decide +kernel) ⟨Nat.le_of_ble_eq_true rfl, Nat.le_of_ble_eq_true rfl⟩) rfl hl.1 rfl (Nat.le_of_ble_eq_true rfl) dL_law_369 ⟨(show CC + 1 ≤ 600000 from by omega), (show SS + 10 ≤ 7302250 from by omega)⟩) hW (fun r_135 L_133 h_134 H locs p_136 hW => ?_)
  obtain ⟨⟨w_139, w_140, w_141, w_142, w_143, fw_139, fw_140, fw_141, fw_142, fw_143, hr_137⟩, hT, hs, pf_138⟩ := p_136
  obtain ⟨nu_144, hr_137⟩ := hr_137
  replace hT : hx_T T_tb L_133 h_134 := hT
  replace hs : hx_S T_tb [(4, 3), (4, 4), (4, 5), (4, 6), (9, 8), (44, 0), (120, 0), (120, 1), (120, 2)] L1 hl1 L_133 h_134 := hs
  replace f_qa := (hs.o gx trivial rfl).2.trans f_qa
  replace f_qp := (hs.o gx trivial rfl).2.trans f_qp
  replace f_qc := (hs.o gx trivial rfl).2.trans f_qc
  replace f_qh := (hs.o gx trivial rfl).2.trans f_qh
  replace f_qw := (hs.o gx trivial rfl).2.trans f_qw
  replace f_ql := (hs.o g_qw trivial rfl).2.trans f_ql
  replace f_m_now := (hs.o gm trivial rfl).1.trans f_m_now
  replace f_m_persons := (hs.o gm trivial rfl).1.trans f_m_persons
  replace f_m_claims := (hs.o gm trivial rfl).1.trans f_m_claims
  replace f_m_taped := (hs.o gm trivial rfl).1.trans f_m_taped
  replace f_m_acts := (hs.o gm trivial rfl).1.trans f_m_acts
  replace f_m_lines := (hs.o gm trivial rfl).1.trans f_m_lines
  replace f_m_listed := (hs.o gm trivial rfl).1.trans f_m_listed
  replace f_m_walkedMany := (hs.o gm trivial rfl).1.trans f_m_walkedMany
  replace f_m_heardMany := (hs.o gm trivial rfl).1.trans f_m_heardMany
  replace f_x_now := (hs.o gx trivial rfl).1.trans f_x_now
  replace f_x_claimCount := (hs.o gx trivial rfl).1.trans f_x_claimCount
  replace f_x_tapeLength := (hs.o gx trivial rfl).1.trans f_x_tapeLength
  replace f_x_actCount := (hs.o gx trivial rfl).1.trans f_x_actCount
  replace f_mw := (hs.o gm trivial rfl).2.trans f_mw
  replace f_mr := (hs.o gm trivial rfl).2.trans f_mr
  replace f_mp := (hs.o gm trivial rfl).2.trans f_mp
  replace f_mn := (hs.o gm trivial rfl).2.trans f_mn
  replace f_ml := (hs.o gm trivial rfl).2.trans f_ml
  replace f_mh := (hs.o gm trivial rfl).2.trans f_mh
  replace f_mt := (hs.o gm trivial rfl).2.trans f_mt
  replace f_m_fou := (hs.o gm trivial rfl).2.trans f_m_fou
  replace f_qo_ln := (hs.o gx trivial rfl).2.trans f_qo_ln
  replace f_o_ln := (hs.o g_qo_ln trivial rfl).1.trans f_o_ln
  replace f_o_lsd := (hs.o g_qw trivial rfl).1.trans f_o_lsd
  replace f_o_wkm := (hs.o g_qw trivial rfl).1.trans f_o_wkm
  replace f_b_of := (hs.o g_qo_ln trivial rfl).2.trans f_b_of
  replace f_m_of := (hs.o gm trivial rfl).2.trans f_m_of
  replace f_b_wf := (hs.o g_qo_ln trivial rfl).2.trans f_b_wf
  replace f_m_wf := (hs.o gm trivial rfl).2.trans f_m_wf
  replace f_b_df := (hs.o g_qo_ln trivial rfl).2.trans f_b_df
  replace f_m_df := (hs.o gm trivial rfl).2.trans f_m_df
  replace f_b_kf := (hs.o g_qo_ln trivial rfl).2.trans f_b_kf
  replace f_m_kf := (hs.o gm trivial rfl).2.trans f_m_kf
  replace f_b_sf := (hs.o g_qo_ln trivial rfl).2.trans f_b_sf
  replace f_m_sf := (hs.o gm trivial rfl).2.trans f_m_sf
  replace f_b_bf := (hs.o g_qo_ln trivial rfl).2.trans f_b_bf
  replace f_m_lst := (hs.o gm trivial rfl).2.trans f_m_lst
  replace f_qtp := (hs.o gx trivial rfl).2.trans f_qtp
  replace f_m_tp := (hs.o gm trivial rfl).2.trans f_m_tp
  replace f_m_dead := (hs.o gm trivial rfl).2.trans f_m_dead
  replace f_m_isj := (hs.o gm trivial rfl).2.trans f_m_isj
  replace f_m_dox := (hs.o gm trivial rfl).2.trans f_m_dox
  replace f_m_doy := (hs.o gm trivial rfl).2.trans f_m_doy
  replace f_qlt := (hs.o g_qw trivial rfl).2.trans f_qlt
  replace f_qlf := (hs.o g_qw trivial rfl).2.trans f_qlf
  replace f_m_wkd := (hs.o gm trivial rfl).2.trans f_m_wkd
  replace f_m_aga := (hs.o gm trivial rfl).2.trans f_m_aga
  replace f_qwo := (hs.o gx trivial rfl).2.trans f_qwo
  replace f_m_ad := (hs.o gm trivial rfl).2.trans f_m_ad
  replace pf_qa : ∀ j : Nat, (j : Int) < (h_134.2.1 ax 6).toInt → h_134.2.2 qa j ≠ none := by
    intro j hj; rw [(hs.o gx trivial rfl).1] at hj; rw [(hs.a g_qa rfl j).2]; exact pf_qa j hj
  replace pf_qc : ∀ j : Nat, (j : Int) < (h_134.2.1 ax 11).toInt → h_134.2.2 qc j ≠ none := by
    intro j hj; rw [(hs.o gx trivial rfl).1] at hj; rw [(hs.a g_qc rfl j).2]; exact pf_qc j hj
  replace pf_qh : ∀ j : Nat, (j : Int) < (h_134.2.1 ax 13).toInt → h_134.2.2 qh j ≠ none := by
    intro j hj; rw [(hs.o gx trivial rfl).1] at hj; rw [(hs.a g_qh rfl j).2]; exact pf_qh j hj
  replace pf_ql : ∀ j : Nat, (j : Int) < (h_134.2.1 qw 0).toInt → h_134.2.2 ql j ≠ none := by
    intro j hj; rw [(hs.o g_qw trivial rfl).1] at hj; rw [(hs.a g_ql rfl j).2]; exact pf_ql j hj
  replace cl_lst : hx_col 8 h_134 ql 0 = c_lst := (hx_col_S hs hTo g_ql tt_40 tt_2 rfl rfl).trans cl_lst
  replace cl_fou : hx_col 100 h_134 qc 10 = c_fou := (hx_col_S hs hTo g_qc tt_45 tt_2 rfl rfl).trans cl_fou
  replace cl_tri : hx_col 100 h_134 qc 9 = c_tri := (hx_col_S hs hTo g_qc tt_45 tt_2 rfl rfl).trans cl_tri
  replace nu_qc : hx_num 100 h_134 qc 0 (c0.toInt) := hx_num_S hs hTo g_qc tt_45 tt_2 rfl rfl nu_qc
  replace sb_list : hx_LQ 8 100 h_134 ql qc := hx_LQ_S hs g_ql g_qc rfl rfl sb_list
  replace hRA9 : hv_RA h_134 qa qwo a0.toInt A9 := hv_RA_S hs hTo g_qa g_qwo tt_43 tt_0 rfl rfl rfl rfl rfl rfl (by omega) hRA9
  replace n_mw : h_134.2.1 mw = F_mw := (funext fun j => (hs.a g_mw rfl j).1).trans n_mw
  replace n_mr : h_134.2.1 mr = F_mr := (funext fun j => (hs.a g_mr rfl j).1).trans n_mr
  replace n_mp : h_134.2.1 mp = F_mp := (funext fun j => (hs.a g_mp rfl j).1).trans n_mp
  replace n_mn : h_134.2.1 mn = F_mn := (funext fun j => (hs.a g_mn rfl j).1).trans n_mn
  replace n_ml : h_134.2.1 ml = F_ml := (funext fun j => (hs.a g_ml rfl j).1).trans n_ml
  replace n_mh : h_134.2.1 mh = F_mh := (funext fun j => (hs.a g_mh rfl j).1).trans n_mh
  replace n_mt : h_134.2.1 mt = F_mt := (funext fun j => (hs.a g_mt rfl j).1).trans n_mt
  replace n_m_fou : h_134.2.1 m_fou = F_m_fou := (funext fun j => (hs.a g_m_fou rfl j).1).trans n_m_fou
  replace n_b_of : h_134.2.1 b_of = B_of := (funext fun j => (hs.a g_b_of rfl j).1).trans n_b_of
  replace n_m_of : h_134.2.1 m_of = F_of := (funext fun j => (hs.a g_m_of rfl j).1).trans n_m_of
  replace n_b_wf : h_134.2.1 b_wf = B_wf := (funext fun j => (hs.a g_b_wf rfl j).1).trans n_b_wf
  replace n_m_wf : h_134.2.1 m_wf = F_wf := (funext fun j => (hs.a g_m_wf rfl j).1).trans n_m_wf
  replace n_b_df : h_134.2.1 b_df = B_df := (funext fun j => (hs.a g_b_df rfl j).1).trans n_b_df
  replace n_m_df : h_134.2.1 m_df = F_df := (funext fun j => (hs.a g_m_df rfl j).1).trans n_m_df
  replace n_b_kf : h_134.2.1 b_kf = B_kf := (funext fun j => (hs.a g_b_kf rfl j).1).trans n_b_kf
  replace n_m_kf : h_134.2.1 m_kf = F_kf := (funext fun j => (hs.a g_m_kf rfl j).1).trans n_m_kf
  replace n_b_sf : h_134.2.1 b_sf = B_sf := (funext fun j => (hs.a g_b_sf rfl j).1).trans n_b_sf
  replace n_m_sf : h_134.2.1 m_sf = F_sf := (funext fun j => (hs.a g_m_sf rfl j).1).trans n_m_sf
  replace n_b_bf : h_134.2.1 b_bf = bfL := (funext fun j => (hs.a g_b_bf rfl j).1).trans n_b_bf
  replace n_lst : h_134.2.1 m_lst = F_lst := (funext fun j => (hs.a g_m_lst rfl j).1).trans n_lst
  replace n_tp : h_134.2.1 m_tp = F_tp := (funext fun j => (hs.a g_m_tp rfl j).1).trans n_tp
  replace n_qtp : h_134.2.1 qtp = F_tp := (funext fun j => (hs.a g_qtp rfl j).1).trans n_qtp
  replace n_dead : h_134.2.1 m_dead = F_dead := (funext fun j => (hs.a g_m_dead rfl j).1).trans n_dead
  replace n_isj : h_134.2.1 m_isj = F_isj := (funext fun j => (hs.a g_m_isj rfl j).1).trans n_isj
  replace n_dox : h_134.2.1 m_dox = F_dox := (funext fun j => (hs.a g_m_dox rfl j).1).trans n_dox
  replace n_doy : h_134.2.1 m_doy = F_doy := (funext fun j => (hs.a g_m_doy rfl j).1).trans n_doy
  replace n_qlt : h_134.2.1 qlt = F_qlt := (funext fun j => (hs.a g_qlt rfl j).1).trans n_qlt
  replace n_m_wkd : h_134.2.1 m_wkd = F_m_wkd := (funext fun j => (hs.a g_m_wkd rfl j).1).trans n_m_wkd
  replace n_aga : h_134.2.1 m_aga = F_aga := (funext fun j => (hs.a g_m_aga rfl j).1).trans n_aga
  replace n_ad : h_134.2.1 m_ad = F_ad := (funext fun j => (hs.a g_m_ad rfl j).1).trans n_ad
  replace gx := gx.S hs
  replace gm := gm.S hs
  replace g_qa := g_qa.S hs
  replace g_qp := g_qp.S hs
  replace g_qc := g_qc.S hs
  replace g_qh := g_qh.S hs
  replace g_qw := g_qw.S hs
  replace g_ql := g_ql.S hs
  replace g_mw := g_mw.S hs
  replace g_mr := g_mr.S hs
  replace g_mp := g_mp.S hs
  replace g_mn := g_mn.S hs
  replace g_ml := g_ml.S hs
  replace g_mh := g_mh.S hs
  replace g_mt := g_mt.S hs
  replace g_m_fou := g_m_fou.S hs
  replace g_qo_ln := g_qo_ln.S hs
  replace g_b_of := g_b_of.S hs
  replace g_m_of := g_m_of.S hs
  replace g_b_wf := g_b_wf.S hs
  replace g_m_wf := g_m_wf.S hs
  replace g_b_df := g_b_df.S hs
  replace g_m_df := g_m_df.S hs
  replace g_b_kf := g_b_kf.S hs
  replace g_m_kf := g_m_kf.S hs
  replace g_b_sf := g_b_sf.S hs
  replace g_m_sf := g_m_sf.S hs
  replace g_b_bf := g_b_bf.S hs
  replace g_m_lst := g_m_lst.S hs
  replace g_qtp := g_qtp.S hs
  replace g_m_tp := g_m_tp.S hs
  replace g_m_dead := g_m_dead.S hs
  replace g_m_isj := g_m_isj.S hs
  replace g_m_dox := g_m_dox.S hs
  replace g_m_doy := g_m_doy.S hs
  replace g_qlt := g_qlt.S hs
  replace g_qlf := g_qlf.S hs
  replace g_m_wkd := g_m_wkd.S hs
  replace g_m_aga := g_m_aga.S hs
  replace g_qwo := g_qwo.S hs
  replace g_m_ad := g_m_ad.S hs
  have pf_138 : ∀ j : Nat, (j : Int) < (h_134.2.1 ax 8).toInt → h_134.2.2 qp j ≠ none := pf_138
  have nu_144 : hx_num 40 h_134 qp 0 (w_139.toInt) := nu_144
  have fw_139 : h_134.2.1 ax 8 = w_139 := fw_139
  have bw_139 := hT.gi gx tt_9 (k := 8) rfl
  rw [fw_139] at bw_139
  have bw_139 : 0 ≤ w_139.toInt ∧ w_139.toInt ≤ 40 := bw_139
  have fw_140 : hx_col 40 h_134 qp 7 = w_140 := fw_140
  have fw_141 : hx_col 40 h_134 qp 8 = w_141 := fw_141
  have fw_142 : hx_col 40 h_134 qp 5 = w_142 := fw_142
  have fw_143 : hx_col 40 h_134 qp 6 = w_143 := fw_143
  have hDFp : hw_DF h_134 qc qp 2 F_aga c0.toInt := hr_137.2.2.2.2.2
  refine lv_pop hx hb dL_law_372 rfl ?_
  refine lv_aload_n hx hb dL_law_373 rfl (lv_at hl 1 rfl) ?_
  refine lv_aload_n hx hb dL_law_374 rfl (lv_at hl 3 rfl) ?_
  refine lv_iload_n hx hb dL_law_375 rfl (lv_at hl 0 rfl) ?_
  refine lv_iconst (v := 1) hx hb dL_law_376 (by decide) ?_
  refine lv_iadd hx hb dL_law_377 ?_
  refine lv_topi (fun x_145 ex_145 => ?_)
  have zx_145 : x_145.toInt = i.toInt + 1 := by rw [ex_145]; exact i32_add rfl (by decide) (by omega) (by omega)
  obtain rfl : x_121 = x_145 := ex_121.trans ex_145.symm
  refine va_sld hx hb hX hbl hbA hW.2.2.2.1 (vp_in_iff.mpr ⟨by omega, by omega⟩) dL_law_378 ?_
  refine lv_topi (fun x_146 ex_146 => ?_)
  obtain rfl : x_122 = x_146 := ex_122.trans ex_146.symm
  refine lv_aload_n hx hb dL_law_379 rfl (lv_at hl 3 rfl) ?_
  refine lv_iload_n hx hb dL_law_380 rfl (lv_at hl 0 rfl) ?_
  refine lv_iconst (v := 2) hx hb dL_law_381 (by decide) ?_
  refine lv_iadd hx hb dL_law_382 ?_
  refine lv_topi (fun x_147 ex_147 => ?_)
  have zx_147 : x_147.toInt = i.toInt + 2 := by rw [ex_147]; exact i32_add rfl (by decide) (by omega) (by omega)
  obtain rfl : x_123 = x_147 := ex_123.trans ex_147.symm
  refine va_sld hx hb hX hbl hbA hW.2.2.2.1 (vp_in_iff.mpr ⟨by omega, by omega⟩) dL_law_383 ?_
  refine lv_topi (fun x_148 ex_148 => ?_)
  obtain rfl : x_124 = x_148 := ex_124.trans ex_148.symm
  refine lv_aload_n hx hb dL_law_384 rfl (lv_at hl 3 rfl) ?_
  refine lv_iload_n hx hb dL_law_385 rfl (lv_at hl 0 rfl) ?_
  refine lv_iconst (v := 3) hx hb dL_law_386 (by decide) ?_
  refine lv_iadd hx hb dL_law_387 ?_
  refine lv_topi (fun x_149 ex_149 => ?_)
  have zx_149 : x_149.toInt = i.toInt + 3 := by rw [ex_149]; exact i32_add rfl (by decide) (by omega) (by omega)
  obtain rfl : x_125 = x_149 := ex_125.trans ex_149.symm
  refine va_sld hx hb hX hbl hbA hW.2.2.2.1 (vp_in_iff.mpr ⟨by omega, by omega⟩) dL_law_388 ?_
  refine lv_topi (fun x_150 ex_150 => ?_)
  obtain rfl : x_126 = x_150 := ex_126.trans ex_150.symm
  refine lv_aload_n hx hb dL_law_389 rfl (lv_at hl 3 rfl) ?_
  refine lv_iload_n hx hb dL_law_390 rfl (lv_at hl 0 rfl) ?_
  refine lv_iconst (v := 4) hx hb dL_law_391 (by decide) ?_
  refine lv_iadd hx hb dL_law_392 ?_
  refine lv_topi (fun x_151 ex_151 => ?_)
  have zx_151 : x_151.toInt = i.toInt + 4 := by rw [ex_151]; exact i32_add rfl (by decide) (by omega) (by omega)
  obtain rfl : x_127 = x_151 := ex_127.trans ex_151.symm
  refine va_sld hx hb hX hbl hbA hW.2.2.2.1 (vp_in_iff.mpr ⟨by omega, by omega⟩) dL_law_393 ?_
  refine lv_topi (fun x_152 ex_152 => ?_)
  obtain rfl : x_128 = x_152 := ex_128.trans ex_152.symm
  refine lv_aload_n hx hb dL_law_394 rfl (lv_at hl 3 rfl) ?_
  refine lv_iload_n hx hb dL_law_395 rfl (lv_at hl 0 rfl) ?_
  refine lv_iconst (v := 5) hx hb dL_law_396 (by decide) ?_
  refine lv_iadd hx hb dL_law_397 ?_
  refine lv_topi (fun x_153 ex_153 => ?_)
  have zx_153 : x_153.toInt = i.toInt + 5 := by rw [ex_153]; exact i32_add rfl (by decide) (by omega) (by omega)
  obtain rfl : x_129 = x_153 := ex_129.trans ex_153.symm
  refine va_sld hx hb hX hbl hbA hW.2.2.2.1 (vp_in_iff.mpr ⟨by omega, by omega⟩) dL_law_398 ?_
  refine lv_topi (fun x_154 ex_154 => ?_)
  obtain rfl : x_130 = x_154 := ex_130.trans ex_154.symm
  refine lv_aload_n hx hb dL_law_399 rfl (lv_at hl 3 rfl) ?_
  refine lv_iload_n hx hb dL_law_400 rfl (lv_at hl 0 rfl) ?_
  refine lv_bipush (v := 6) hx hb dL_law_401 (by decide) ?_
  refine lv_iadd hx hb dL_law_403 ?_
  refine lv_topi (fun x_155 ex_155 => ?_)
  have zx_155 : x_155.toInt = i.toInt + 6 := by rw [ex_155]; exact i32_add rfl (by decide) (by omega) (by omega)
  obtain rfl : x_131 = x_155 := ex_131.trans ex_155.symm
  refine va_sld hx hb hX hbl hbA hW.2.2.2.1 (vp_in_iff.mpr ⟨by omega, by omega⟩) dL_law_404 ?_
  refine lv_topi (fun x_156 ex_156 => ?_)
  obtain rfl : x_132 = x_156 := ex_132.trans ex_156.symm
  have hTo := hT
  refine hx_goi (hx_runV (As := [.int x_122, .int x_124, .int x_126, .int x_128, .int x_130, .int x_132]) (rest := []) ⟨hx, hb, hml, hown, hts⟩ hW gm tt_10 (T := TX10) (N := 98) rfl (t_X10_person_2 l dC dI dA L_133 h_134 H.size am x_122 x_124 x_126 x_128 x_130 x_132 hT gm m_dox g_m_dox f_m_dox m_doy g_m_doy f_m_doy F_dox n_dox F_doy n_doy np f_m_persons) (cwV 6 hts (hx_gV kw_1537 kw_1534 kw_1535 kw_1536 kw_103) rfl rfl rfl (by decide +kernel) ⟨Nat.le_of_ble_eq_true rfl, Nat.le_of_ble_eq_true rfl⟩) rfl hl.1 rfl (Nat.le_of_ble_eq_true rfl) dL_law_405 ⟨(show CC + 1 + 0 ≤ 600000 from by omega), (show SS + 10 + 0 ≤ 7302250 from by omega)⟩) hW (fun r_159 L_157 h_158 H locs p_160 hW => ?_)
  obtain ⟨⟨w_162, w_163, w_164, fw_162, fw_163, fw_164, hr_161⟩, hT, hs⟩ := p_160
  replace hT : hx_T T_tb L_157 h_158 := hT
  replace hs : hx_S T_tb [(10, 20), (58, 0), (59, 0), (60, 0), (61, 0), (62, 0), (63, 0)] L_133 h_134 L_157 h_158 := hs
  replace f_qa := (hs.o gx trivial rfl).2.trans f_qa
  replace f_qp := (hs.o gx trivial rfl).2.trans f_qp
  replace f_qc := (hs.o gx trivial rfl).2.trans f_qc
  replace f_qh := (hs.o gx trivial rfl).2.trans f_qh
  replace f_qw := (hs.o gx trivial rfl).2.trans f_qw
  replace f_ql := (hs.o g_qw trivial rfl).2.trans f_ql
  replace f_m_now := (hs.o gm trivial rfl).1.trans f_m_now
  replace f_m_claims := (hs.o gm trivial rfl).1.trans f_m_claims
  replace f_m_taped := (hs.o gm trivial rfl).1.trans f_m_taped
  replace f_m_acts := (hs.o gm trivial rfl).1.trans f_m_acts
  replace f_m_lines := (hs.o gm trivial rfl).1.trans f_m_lines
  replace f_m_listed := (hs.o gm trivial rfl).1.trans f_m_listed
  replace f_m_walkedMany := (hs.o gm trivial rfl).1.trans f_m_walkedMany
  replace f_m_heardMany := (hs.o gm trivial rfl).1.trans f_m_heardMany
  replace f_x_now := (hs.o gx trivial rfl).1.trans f_x_now
  replace f_x_claimCount := (hs.o gx trivial rfl).1.trans f_x_claimCount
  replace f_x_tapeLength := (hs.o gx trivial rfl).1.trans f_x_tapeLength
  replace f_x_actCount := (hs.o gx trivial rfl).1.trans f_x_actCount
  replace f_mw := (hs.o gm trivial rfl).2.trans f_mw
  replace f_mr := (hs.o gm trivial rfl).2.trans f_mr
  replace f_mp := (hs.o gm trivial rfl).2.trans f_mp
  replace f_mn := (hs.o gm trivial rfl).2.trans f_mn
  replace f_ml := (hs.o gm trivial rfl).2.trans f_ml
  replace f_mh := (hs.o gm trivial rfl).2.trans f_mh
  replace f_mt := (hs.o gm trivial rfl).2.trans f_mt
  replace f_m_fou := (hs.o gm trivial rfl).2.trans f_m_fou
  replace f_qo_ln := (hs.o gx trivial rfl).2.trans f_qo_ln
  replace f_o_ln := (hs.o g_qo_ln trivial rfl).1.trans f_o_ln
  replace f_o_lsd := (hs.o g_qw trivial rfl).1.trans f_o_lsd
  replace f_o_wkm := (hs.o g_qw trivial rfl).1.trans f_o_wkm
  replace f_b_of := (hs.o g_qo_ln trivial rfl).2.trans f_b_of
  replace f_m_of := (hs.o gm trivial rfl).2.trans f_m_of
  replace f_b_wf := (hs.o g_qo_ln trivial rfl).2.trans f_b_wf
  replace f_m_wf := (hs.o gm trivial rfl).2.trans f_m_wf
  replace f_b_df := (hs.o g_qo_ln trivial rfl).2.trans f_b_df
  replace f_m_df := (hs.o gm trivial rfl).2.trans f_m_df
  replace f_b_kf := (hs.o g_qo_ln trivial rfl).2.trans f_b_kf
  replace f_m_kf := (hs.o gm trivial rfl).2.trans f_m_kf
  replace f_b_sf := (hs.o g_qo_ln trivial rfl).2.trans f_b_sf
  replace f_m_sf := (hs.o gm trivial rfl).2.trans f_m_sf
  replace f_b_bf := (hs.o g_qo_ln trivial rfl).2.trans f_b_bf
  replace f_m_lst := (hs.o gm trivial rfl).2.trans f_m_lst
  replace f_qtp := (hs.o gx trivial rfl).2.trans f_qtp
  replace f_m_tp := (hs.o gm trivial rfl).2.trans f_m_tp
  replace f_m_dead := (hs.o gm trivial rfl).2.trans f_m_dead
  replace f_m_isj := (hs.o gm trivial rfl).2.trans f_m_isj
  replace f_m_dox := (hs.o gm trivial rfl).2.trans f_m_dox
  replace f_m_doy := (hs.o gm trivial rfl).2.trans f_m_doy
  replace f_qlt := (hs.o g_qw trivial rfl).2.trans f_qlt
  replace f_qlf := (hs.o g_qw trivial rfl).2.trans f_qlf
  replace f_m_wkd := (hs.o gm trivial rfl).2.trans f_m_wkd
  replace f_m_aga := (hs.o gm trivial rfl).2.trans f_m_aga
  replace f_qwo := (hs.o gx trivial rfl).2.trans f_qwo
  replace f_m_ad := (hs.o gm trivial rfl).2.trans f_m_ad
  replace fw_139 := (hs.o gx trivial rfl).1.trans fw_139
  replace pf_qa : ∀ j : Nat, (j : Int) < (h_158.2.1 ax 6).toInt → h_158.2.2 qa j ≠ none := by
    intro j hj; rw [(hs.o gx trivial rfl).1] at hj; rw [(hs.a g_qa rfl j).2]; exact pf_qa j hj
  replace pf_qc : ∀ j : Nat, (j : Int) < (h_158.2.1 ax 11).toInt → h_158.2.2 qc j ≠ none := by
    intro j hj; rw [(hs.o gx trivial rfl).1] at hj; rw [(hs.a g_qc rfl j).2]; exact pf_qc j hj
  replace pf_qh : ∀ j : Nat, (j : Int) < (h_158.2.1 ax 13).toInt → h_158.2.2 qh j ≠ none := by
    intro j hj; rw [(hs.o gx trivial rfl).1] at hj; rw [(hs.a g_qh rfl j).2]; exact pf_qh j hj
  replace pf_ql : ∀ j : Nat, (j : Int) < (h_158.2.1 qw 0).toInt → h_158.2.2 ql j ≠ none := by
    intro j hj; rw [(hs.o g_qw trivial rfl).1] at hj; rw [(hs.a g_ql rfl j).2]; exact pf_ql j hj
  replace pf_138 : ∀ j : Nat, (j : Int) < (h_158.2.1 ax 8).toInt → h_158.2.2 qp j ≠ none := by
    intro j hj; rw [(hs.o gx trivial rfl).1] at hj; rw [(hs.a g_qp rfl j).2]; exact pf_138 j hj
  replace cl_lst : hx_col 8 h_158 ql 0 = c_lst := (hx_col_S hs hTo g_ql tt_40 tt_2 rfl rfl).trans cl_lst
  replace cl_fou : hx_col 100 h_158 qc 10 = c_fou := (hx_col_S hs hTo g_qc tt_45 tt_2 rfl rfl).trans cl_fou
  replace cl_tri : hx_col 100 h_158 qc 9 = c_tri := (hx_col_S hs hTo g_qc tt_45 tt_2 rfl rfl).trans cl_tri
  replace fw_140 : hx_col 40 h_158 qp 7 = w_140 := (hx_col_S hs hTo g_qp tt_44 tt_4 rfl rfl).trans fw_140
  replace fw_141 : hx_col 40 h_158 qp 8 = w_141 := (hx_col_S hs hTo g_qp tt_44 tt_4 rfl rfl).trans fw_141
  replace fw_142 : hx_col 40 h_158 qp 5 = w_142 := (hx_col_S hs hTo g_qp tt_44 tt_4 rfl rfl).trans fw_142
  replace fw_143 : hx_col 40 h_158 qp 6 = w_143 := (hx_col_S hs hTo g_qp tt_44 tt_4 rfl rfl).trans fw_143
  replace nu_qc : hx_num 100 h_158 qc 0 (c0.toInt) := hx_num_S hs hTo g_qc tt_45 tt_2 rfl rfl nu_qc
  replace nu_144 : hx_num 40 h_158 qp 0 (w_139.toInt) := hx_num_S hs hTo g_qp tt_44 tt_4 rfl rfl nu_144
  replace sb_list : hx_LQ 8 100 h_158 ql qc := hx_LQ_S hs g_ql g_qc rfl rfl sb_list
  replace hRA9 : hv_RA h_158 qa qwo a0.toInt A9 := hv_RA_S hs hTo g_qa g_qwo tt_43 tt_0 rfl rfl rfl rfl rfl rfl (by omega) hRA9
  replace hDFp : hw_DF h_158 qc qp 2 F_aga c0.toInt := hw_DF_S hs hTo g_qc g_qp tt_45 tt_2 rfl rfl rfl hDFp
  replace n_mw : h_158.2.1 mw = F_mw := (funext fun j => (hs.a g_mw rfl j).1).trans n_mw
  replace n_mr : h_158.2.1 mr = F_mr := (funext fun j => (hs.a g_mr rfl j).1).trans n_mr
  replace n_mp : h_158.2.1 mp = F_mp := (funext fun j => (hs.a g_mp rfl j).1).trans n_mp
  replace n_mn : h_158.2.1 mn = F_mn := (funext fun j => (hs.a g_mn rfl j).1).trans n_mn
  replace n_ml : h_158.2.1 ml = F_ml := (funext fun j => (hs.a g_ml rfl j).1).trans n_ml
  replace n_mh : h_158.2.1 mh = F_mh := (funext fun j => (hs.a g_mh rfl j).1).trans n_mh
  replace n_mt : h_158.2.1 mt = F_mt := (funext fun j => (hs.a g_mt rfl j).1).trans n_mt
  replace n_m_fou : h_158.2.1 m_fou = F_m_fou := (funext fun j => (hs.a g_m_fou rfl j).1).trans n_m_fou
  replace n_b_of : h_158.2.1 b_of = B_of := (funext fun j => (hs.a g_b_of rfl j).1).trans n_b_of
  replace n_m_of : h_158.2.1 m_of = F_of := (funext fun j => (hs.a g_m_of rfl j).1).trans n_m_of
  replace n_b_wf : h_158.2.1 b_wf = B_wf := (funext fun j => (hs.a g_b_wf rfl j).1).trans n_b_wf
  replace n_m_wf : h_158.2.1 m_wf = F_wf := (funext fun j => (hs.a g_m_wf rfl j).1).trans n_m_wf
  replace n_b_df : h_158.2.1 b_df = B_df := (funext fun j => (hs.a g_b_df rfl j).1).trans n_b_df
  replace n_m_df : h_158.2.1 m_df = F_df := (funext fun j => (hs.a g_m_df rfl j).1).trans n_m_df
  replace n_b_kf : h_158.2.1 b_kf = B_kf := (funext fun j => (hs.a g_b_kf rfl j).1).trans n_b_kf
  replace n_m_kf : h_158.2.1 m_kf = F_kf := (funext fun j => (hs.a g_m_kf rfl j).1).trans n_m_kf
  replace n_b_sf : h_158.2.1 b_sf = B_sf := (funext fun j => (hs.a g_b_sf rfl j).1).trans n_b_sf
  replace n_m_sf : h_158.2.1 m_sf = F_sf := (funext fun j => (hs.a g_m_sf rfl j).1).trans n_m_sf
  replace n_b_bf : h_158.2.1 b_bf = bfL := (funext fun j => (hs.a g_b_bf rfl j).1).trans n_b_bf
  replace n_lst : h_158.2.1 m_lst = F_lst := (funext fun j => (hs.a g_m_lst rfl j).1).trans n_lst
  replace n_tp : h_158.2.1 m_tp = F_tp := (funext fun j => (hs.a g_m_tp rfl j).1).trans n_tp
  replace n_qtp : h_158.2.1 qtp = F_tp := (funext fun j => (hs.a g_qtp rfl j).1).trans n_qtp
  replace n_dead : h_158.2.1 m_dead = F_dead := (funext fun j => (hs.a g_m_dead rfl j).1).trans n_dead
  replace n_isj : h_158.2.1 m_isj = F_isj := (funext fun j => (hs.a g_m_isj rfl j).1).trans n_isj
  replace n_qlt : h_158.2.1 qlt = F_qlt := (funext fun j => (hs.a g_qlt rfl j).1).trans n_qlt
  replace n_m_wkd : h_158.2.1 m_wkd = F_m_wkd := (funext fun j => (hs.a g_m_wkd rfl j).1).trans n_m_wkd
  replace n_aga : h_158.2.1 m_aga = F_aga := (funext fun j => (hs.a g_m_aga rfl j).1).trans n_aga
  replace n_ad : h_158.2.1 m_ad = F_ad := (funext fun j => (hs.a g_m_ad rfl j).1).trans n_ad
  replace gx := gx.S hs
  replace gm := gm.S hs
  replace g_qa := g_qa.S hs
  replace g_qp := g_qp.S hs
  replace g_qc := g_qc.S hs
  replace g_qh := g_qh.S hs
  replace g_qw := g_qw.S hs
  replace g_ql := g_ql.S hs
  replace g_mw := g_mw.S hs
  replace g_mr := g_mr.S hs
  replace g_mp := g_mp.S hs
  replace g_mn := g_mn.S hs
  replace g_ml := g_ml.S hs
  replace g_mh := g_mh.S hs
  replace g_mt := g_mt.S hs
  replace g_m_fou := g_m_fou.S hs
  replace g_qo_ln := g_qo_ln.S hs
  replace g_b_of := g_b_of.S hs
  replace g_m_of := g_m_of.S hs
  replace g_b_wf := g_b_wf.S hs
  replace g_m_wf := g_m_wf.S hs
  replace g_b_df := g_b_df.S hs
  replace g_m_df := g_m_df.S hs
  replace g_b_kf := g_b_kf.S hs
  replace g_m_kf := g_m_kf.S hs
  replace g_b_sf := g_b_sf.S hs
  replace g_m_sf := g_m_sf.S hs
  replace g_b_bf := g_b_bf.S hs
  replace g_m_lst := g_m_lst.S hs
  replace g_qtp := g_qtp.S hs
  replace g_m_tp := g_m_tp.S hs
  replace g_m_dead := g_m_dead.S hs
  replace g_m_isj := g_m_isj.S hs
  replace g_m_dox := g_m_dox.S hs
  replace g_m_doy := g_m_doy.S hs
  replace g_qlt := g_qlt.S hs
  replace g_qlf := g_qlf.S hs
  replace g_m_wkd := g_m_wkd.S hs
  replace g_m_aga := g_m_aga.S hs
  replace g_qwo := g_qwo.S hs
  replace g_m_ad := g_m_ad.S hs
  have fw_162 : h_158.2.1 am 20 = w_162 := fw_162
  have bw_162 := hT.gi gm tt_10 (k := 20) rfl
  rw [fw_162] at bw_162
  have bw_162 : 0 ≤ w_162.toInt ∧ w_162.toInt ≤ 40 := bw_162
  have fw_163 : h_158.2.1 m_dox = w_163 := fw_163
  have fw_164 : h_158.2.1 m_doy = w_164 := fw_164
  refine lv_pop hx hb dL_law_408 rfl ?_
  refine lv_goto (tgt := 1379) hx hb dL_law_409 (by decide) ?_
  obtain ⟨heq, hq_np⟩ := hx_pk hr_137.1 hr_161.1
  have hq_dox := hx_cdk heq hr_137.2.2.2.1 hr_161.2.1 eq_dox; have hq_doy := hx_cdk heq hr_137.2.2.2.2.1 hr_161.2.2 eq_doy
  have hq_dead := hx_pdk hr_137.2.1 eq_dead z_dead
  have hq_isj := hx_pdk hr_137.2.2.1 eq_isj z_isj
  refine W.widen (k := CC + 3) (n := SS + 179) (by omega) (by omega) ?_
  exact kk L_157 h_158 H locs ls hW ⟨hT, gx, gm, ⟨f_x_now.trans f_m_now.symm, (fw_139.trans hq_np).trans fw_162.symm, f_x_claimCount.trans f_m_claims.symm, f_x_tapeLength.trans f_m_taped.symm, f_x_actCount.trans f_m_acts.symm, hx_ob f_qo_ln (f_o_ln.trans f_m_lines.symm), hx_ob f_qw (f_o_lsd.trans f_m_listed.symm), hx_ob f_qw (f_o_wkm.trans f_m_walkedMany.symm), hx_ob f_qp (by rw [fw_139]; exact nu_144), hx_ob f_qc (by rw [f_x_claimCount]; exact nu_qc), (fun b a r hb ha hr => by obtain rfl : qo_ln = b := Option.some.inj (f_qo_ln.symm.trans hb); obtain rfl : b_of = a := Option.some.inj (f_b_of.symm.trans ha); obtain rfl : m_of = r := Option.some.inj (f_m_of.symm.trans hr); rw [n_b_of, n_m_of, f_o_ln]; exact eb_of), (fun b a r hb ha hr => by obtain rfl : qo_ln = b := Option.some.inj (f_qo_ln.symm.trans hb); obtain rfl : b_wf = a := Option.some.inj (f_b_wf.symm.trans ha); obtain rfl : m_wf = r := Option.some.inj (f_m_wf.symm.trans hr); rw [n_b_wf, n_m_wf, f_o_ln]; exact eb_wf), (fun b a r hb ha hr => by obtain rfl : qo_ln = b := Option.some.inj (f_qo_ln.symm.trans hb); obtain rfl : b_df = a := Option.some.inj (f_b_df.symm.trans ha); obtain rfl : m_df = r := Option.some.inj (f_m_df.symm.trans hr); rw [n_b_df, n_m_df, f_o_ln]; exact eb_df), (fun b a r hb ha hr => by obtain rfl : qo_ln = b := Option.some.inj (f_qo_ln.symm.trans hb); obtain rfl : b_kf = a := Option.some.inj (f_b_kf.symm.trans ha); obtain rfl : m_kf = r := Option.some.inj (f_m_kf.symm.trans hr); rw [n_b_kf, n_m_kf, f_o_ln]; exact eb_kf), (fun b a r hb ha hr => by obtain rfl : qo_ln = b := Option.some.inj (f_qo_ln.symm.trans hb); obtain rfl : b_sf = a := Option.some.inj (f_b_sf.symm.trans ha); obtain rfl : m_sf = r := Option.some.inj (f_m_sf.symm.trans hr); rw [n_b_sf, n_m_sf, f_o_ln]; exact eb_sf), (fun b a r hb ha hr => by obtain rfl : qo_ln = b := Option.some.inj (f_qo_ln.symm.trans hb); obtain rfl : b_df = a := Option.some.inj (f_b_df.symm.trans ha); obtain rfl : b_bf = r := Option.some.inj (f_b_bf.symm.trans hr); rw [n_b_df, n_b_bf, f_o_ln]; exact ⟨hBD, hDY⟩), (fun w q c hw hq hc => by obtain rfl : qw = w := Option.some.inj (f_qw.symm.trans hw); obtain rfl : ql = q := Option.some.inj (f_ql.symm.trans hq); obtain rfl : qc = c := Option.some.inj (f_qc.symm.trans hc); exact sb_list), (fun w q r hw hq hr => by obtain rfl : qw = w := Option.some.inj (f_qw.symm.trans hw); obtain rfl : ql = q := Option.some.inj (f_ql.symm.trans hq); obtain rfl : m_lst = r := Option.some.inj (f_m_lst.symm.trans hr); rw [cl_lst, n_lst]; exact eq_lst), (fun w q r hw hq hr => by obtain rfl : qw = w := Option.some.inj (f_qw.symm.trans hw); obtain rfl : qlt = q := Option.some.inj (f_qlt.symm.trans hq); obtain rfl : m_wkd = r := Option.some.inj (f_m_wkd.symm.trans hr); rw [n_qlt, n_m_wkd, f_o_wkm]; exact eb_wkd), (fun c q a hc hq ha => by obtain rfl : qc = c := Option.some.inj (f_qc.symm.trans hc); obtain rfl : qp = q := Option.some.inj (f_qp.symm.trans hq); obtain rfl : m_aga = a := Option.some.inj (f_m_aga.symm.trans ha); rw [n_aga, f_x_claimCount]; exact hw_DF_e hDFp rfl rfl), (fun q r hq hr => by obtain rfl : qtp = q := Option.some.inj (f_qtp.symm.trans hq); obtain rfl : m_tp = r := Option.some.inj (f_m_tp.symm.trans hr); exact n_qtp.trans n_tp.symm), (fun q w a b c d hq hw ha hb hc hd => by obtain rfl : qa = q := Option.some.inj (f_qa.symm.trans hq); obtain rfl : qwo = w := Option.some.inj (f_qwo.symm.trans hw); obtain rfl : m_ad = a := Option.some.inj (f_m_ad.symm.trans ha); obtain rfl : mr = b := Option.some.inj (f_mr.symm.trans hb); obtain rfl : mn = c := Option.some.inj (f_mn.symm.trans hc); obtain rfl : mp = d := Option.some.inj (f_mp.symm.trans hd); exact ⟨_, by rw [f_x_actCount]; exact hRA9, by rw [f_x_actCount, n_ad, n_mr, n_mn, n_mp]; exact hCA9⟩), hx_ob2 f_qp f_m_dead (by rw [fw_140, n_dead]; exact hq_dead), hx_ob2 f_qp f_m_isj (by rw [fw_141, n_isj]; exact hq_isj), hx_ob2 f_qp f_m_dox (by rw [fw_142, fw_163]; exact hq_dox), hx_ob2 f_qp f_m_doy (by rw [fw_143, fw_164]; exact hq_doy), hx_ob2 f_qc f_m_fou (by rw [cl_fou, n_m_fou]; exact eq_fou), hx_ob2 f_qc f_mt (by rw [cl_tri, n_mt]; exact eq_tri), trivial⟩, ⟨hx_ob f_qa pf_qa, hx_ob f_qp pf_138, hx_ob f_qc pf_qc, hx_ob f_qh pf_qh, (fun w q hw hq => by obtain rfl : qw = w := Option.some.inj (f_qw.symm.trans hw); obtain rfl : ql = q := Option.some.inj (f_ql.symm.trans hq); exact pf_ql)⟩, ⟨hx_ob f_mw (by rw [n_mw]; exact hwd), hx_ob f_mr (by rw [n_mr, f_m_acts]; exact hWK), hx_ob2 f_mp f_mn (by rw [n_mp, n_mn, f_m_acts]; exact hRP), hx_ob f_ml (by rw [n_ml, f_m_claims, f_m_acts]; exact hPL), hx_ob f_mh (by rw [n_mh, f_m_heardMany, f_m_claims]; exact hHC), hx_ob f_mt (by rw [n_mt]; exact (hx_TR_le hTR (by omega))), hx_ob2 f_mh f_m_fou (by rw [n_mh, n_m_fou, f_m_claims]; exact hHF)⟩⟩ hl

set_option maxHeartbeats 4000000 in
set_option maxRecDepth 100000 in
theorem law_case_6 {p : Program} {e : Env} {s : State} {m : MethodId} {below : List Frame} {meth : Method} {c : Code} (l : Launch) {b LN : Nat} {xs : Nat → Int32} (hx : p.tables.exec = Jvm.exec) (hb : c.code = code) (hr : meth.sig.returnType = ret) (hlocks : meth.locks = false) (hml : c.maxLocals = 4) (hown : s.vm.findClass "SmallCourtLaw" = some m.cls) (hts : ∀ w ∈ hx_all, w.before #[Value.ref b] s = true) (hX : va_X b LN xs s s.heap) (hbl : b < s.heap.size) (hbA : ¬ s.heap.size ≤ b) (hLN : LN ≤ 3584) (dC : Nat → ClassId) (dI : Nat → Nat → Nat) (dA : Nat → ClassId) (b0 : hx_z) (ax am : Nat) (T1 : Int) (hT0 : 0 ≤ T1) (hT1 : T1 ≤ 511) (i : Int32) (hi0 : 0 ≤ i.toInt) (hiL : i.toInt + 7 ≤ LN) (CC SS : Nat) (hCC : CC + 3 ≤ 600000) (hSS : SS + 179 ≤ 7302250) (L1 : List Nat) (hl1 : hx_h) (H : Heap) (locs : List Loc) (ls : Array Slot) (hW : hx_W T_tb (P_ty dA) (dC, dI) vwCl (fun q : Nat => s.heap.size ≤ q) s.heap L1 hl1 s H locs) (hZ : hx_Xt (fun q : Nat => s.heap.size ≤ q) b0 s) (hI : hx_IV T1 ax am L1 hl1) (hl : lv_has ls 4 [(3, .int i), (2, .ref am), (1, .ref ax), (0, .ref b)]) (kk : ∀ (L2 : List Nat) (h2 : hx_h) (H2 : Heap) (locs2 : List Loc) (ls2 : Array Slot), hx_W T_tb (P_ty dA) (dC, dI) vwCl (fun q : Nat => s.heap.size ≤ q) s.heap L2 h2 s H2 locs2 → hx_IV (T1 + 1) ax am L2 h2 → lv_has ls2 4 [(3, .int i), (2, .ref am), (1, .ref ax), (0, .ref b)] → W p l e room_1 s m #[Value.ref b] below meth c H2 locs2 (CC + 3) (SS + 179) (lw_Z below #[Value.ref b] s) (F0 m 1379 ls2 [])) : W p l e room_1 s m #[Value.ref b] below meth c H locs CC SS (lw_Z below #[Value.ref b] s) (F0 m 412 ls []) := by
  obtain ⟨hT, gx, gm, ⟨he_nw, he_np, he_c0, he_tl, he_a0, ho_ln, ho_lsd, ho_wkm, hn_qp, hn_qc, hk_of, hk_wf, hk_df, hk_kf, hk_sf, hkBD, hLQ, hLE, hkWD, hkDF, hkTP, hkAC, hc_dead, hc_isj, hc_dox, hc_doy, hc_fou, hc_tri, -⟩, ⟨ia, ip, ic, ih, il⟩, ⟨jw, jr, jp, jl, jh, jt, jf⟩⟩ := hI
  obtain ⟨qa, f_qa, g_qa⟩ := hx_rf hT gx tt_9 (k := 5) (u := 43) rfl
  have pf_qa := ia qa f_qa
  obtain ⟨qp, f_qp, g_qp⟩ := hx_rf hT gx tt_9 (k := 7) (u := 44) rfl
  have pf_qp := ip qp f_qp
  obtain ⟨qc, f_qc, g_qc⟩ := hx_rf hT gx tt_9 (k := 10) (u := 45) rfl
  have pf_qc := ic qc f_qc
  obtain ⟨qh, f_qh, g_qh⟩ := hx_rf hT gx tt_9 (k := 12) (u := 46) rfl
  have pf_qh := ih qh f_qh
  obtain ⟨qw, f_qw, g_qw⟩ := hx_rf hT gx tt_9 (k := 19) (u := 8) rfl
  obtain ⟨ql, f_ql, g_ql⟩ := hx_rf hT g_qw tt_8 (k := 3) (u := 40) rfl
  have pf_ql := il qw ql f_qw f_ql
  obtain ⟨nw, f_m_now⟩ : ∃ y : Int32, hl1.2.1 am 0 = y := ⟨_, rfl⟩
  have b_nw := hT.gi gm tt_10 (k := 0) rfl
  rw [f_m_now] at b_nw
  have b_nw : 0 ≤ nw.toInt ∧ nw.toInt ≤ 7999 := b_nw
  obtain ⟨np, f_m_persons⟩ : ∃ y : Int32, hl1.2.1 am 20 = y := ⟨_, rfl⟩
  have b_np := hT.gi gm tt_10 (k := 20) rfl
  rw [f_m_persons] at b_np
  have b_np : 0 ≤ np.toInt ∧ np.toInt ≤ 40 := b_np
  obtain ⟨c0, f_m_claims⟩ : ∃ y : Int32, hl1.2.1 am 36 = y := ⟨_, rfl⟩
  have b_c0 := hT.gi gm tt_10 (k := 36) rfl
  rw [f_m_claims] at b_c0
  have b_c0 : 0 ≤ c0.toInt ∧ c0.toInt ≤ 100 := b_c0
  obtain ⟨tl, f_m_taped⟩ : ∃ y : Int32, hl1.2.1 am 7 = y := ⟨_, rfl⟩
  have b_tl := hT.gi gm tt_10 (k := 7) rfl
  rw [f_m_taped] at b_tl
  have b_tl : 0 ≤ tl.toInt ∧ tl.toInt ≤ 400 := b_tl
  obtain ⟨a0, f_m_acts⟩ : ∃ y : Int32, hl1.2.1 am 1 = y := ⟨_, rfl⟩
  have b_a0 := hT.gi gm tt_10 (k := 1) rfl
  rw [f_m_acts] at b_a0
  have b_a0 : 0 ≤ a0.toInt ∧ a0.toInt ≤ 8 := b_a0
  obtain ⟨ln, f_m_lines⟩ : ∃ y : Int32, hl1.2.1 am 29 = y := ⟨_, rfl⟩
  have b_ln := hT.gi gm tt_10 (k := 29) rfl
  rw [f_m_lines] at b_ln
  have b_ln : 0 ≤ ln.toInt ∧ ln.toInt ≤ 400 := b_ln
  obtain ⟨lsd, f_m_listed⟩ : ∃ y : Int32, hl1.2.1 am 90 = y := ⟨_, rfl⟩
  have b_lsd := hT.gi gm tt_10 (k := 90) rfl
  rw [f_m_listed] at b_lsd
  have b_lsd : 0 ≤ lsd.toInt ∧ lsd.toInt ≤ 8 := b_lsd
  obtain ⟨wkm, f_m_walkedMany⟩ : ∃ y : Int32, hl1.2.1 am 92 = y := ⟨_, rfl⟩
  have b_wkm := hT.gi gm tt_10 (k := 92) rfl
  rw [f_m_walkedMany] at b_wkm
  have b_wkm : 0 ≤ wkm.toInt ∧ wkm.toInt ≤ 8 := b_wkm
  obtain ⟨m0, f_m_heardMany⟩ : ∃ y : Int32, hl1.2.1 am 57 = y := ⟨_, rfl⟩
  have b_m0 := hT.gi gm tt_10 (k := 57) rfl
  rw [f_m_heardMany] at b_m0
  have b_m0 : 0 ≤ m0.toInt ∧ m0.toInt ≤ 100 := b_m0
  have f_x_now : hl1.2.1 ax 2 = nw := he_nw.trans f_m_now
  have f_x_personCount : hl1.2.1 ax 8 = np := he_np.trans f_m_persons
  have f_x_claimCount : hl1.2.1 ax 11 = c0 := he_c0.trans f_m_claims
  have f_x_tapeLength : hl1.2.1 ax 1 = tl := he_tl.trans f_m_taped
  have f_x_actCount : hl1.2.1 ax 6 = a0 := he_a0.trans f_m_acts
  obtain ⟨mw, f_mw, g_mw⟩ := hx_rf hT gm tt_10 (k := 19) (u := 57) rfl
  obtain ⟨F_mw, n_mw⟩ : ∃ g : Nat → Int32, hl1.2.1 mw = g := ⟨_, rfl⟩
  obtain ⟨mr, f_mr, g_mr⟩ := hx_rf hT gm tt_10 (k := 3) (u := 50) rfl
  obtain ⟨F_mr, n_mr⟩ : ∃ g : Nat → Int32, hl1.2.1 mr = g := ⟨_, rfl⟩
  obtain ⟨mp, f_mp, g_mp⟩ := hx_rf hT gm tt_10 (k := 5) (u := 52) rfl
  obtain ⟨F_mp, n_mp⟩ : ∃ g : Nat → Int32, hl1.2.1 mp = g := ⟨_, rfl⟩
  obtain ⟨mn, f_mn, g_mn⟩ := hx_rf hT gm tt_10 (k := 4) (u := 51) rfl
  obtain ⟨F_mn, n_mn⟩ : ∃ g : Nat → Int32, hl1.2.1 mn = g := ⟨_, rfl⟩
  obtain ⟨ml, f_ml, g_ml⟩ := hx_rf hT gm tt_10 (k := 44) (u := 79) rfl
  obtain ⟨F_ml, n_ml⟩ : ∃ g : Nat → Int32, hl1.2.1 ml = g := ⟨_, rfl⟩
  obtain ⟨mh, f_mh, g_mh⟩ := hx_rf hT gm tt_10 (k := 47) (u := 82) rfl
  obtain ⟨F_mh, n_mh⟩ : ∃ g : Nat → Int32, hl1.2.1 mh = g := ⟨_, rfl⟩
  obtain ⟨mt, f_mt, g_mt⟩ := hx_rf hT gm tt_10 (k := 45) (u := 80) rfl
  obtain ⟨F_mt, n_mt⟩ : ∃ g : Nat → Int32, hl1.2.1 mt = g := ⟨_, rfl⟩
  obtain ⟨m_fou, f_m_fou, g_m_fou⟩ := hx_rf hT gm tt_10 (k := 46) (u := 81) rfl
  obtain ⟨F_m_fou, n_m_fou⟩ : ∃ g : Nat → Int32, hl1.2.1 m_fou = g := ⟨_, rfl⟩
  obtain ⟨qo_ln, f_qo_ln, g_qo_ln⟩ := hx_rf hT gx tt_9 (k := 9) (u := 1) rfl
  have f_o_ln : hl1.2.1 qo_ln 0 = ln := (ho_ln qo_ln f_qo_ln).trans f_m_lines
  have f_o_lsd : hl1.2.1 qw 0 = lsd := (ho_lsd qw f_qw).trans f_m_listed
  have f_o_wkm : hl1.2.1 qw 1 = wkm := (ho_wkm qw f_qw).trans f_m_walkedMany
  have nu_qp := hn_qp qp f_qp; rw [f_x_personCount] at nu_qp
  have nu_qc := hn_qc qc f_qc; rw [f_x_claimCount] at nu_qc
  obtain ⟨b_of, f_b_of, g_b_of⟩ := hx_rf hT g_qo_ln tt_1 (k := 1) (u := 13) rfl
  obtain ⟨B_of, n_b_of⟩ : ∃ g : Nat → Int32, hl1.2.1 b_of = g := ⟨_, rfl⟩
  obtain ⟨m_of, f_m_of, g_m_of⟩ := hx_rf hT gm tt_10 (k := 30) (u := 66) rfl
  obtain ⟨F_of, n_m_of⟩ : ∃ g : Nat → Int32, hl1.2.1 m_of = g := ⟨_, rfl⟩
  have eb_of := hk_of qo_ln b_of m_of f_qo_ln f_b_of f_m_of; rw [n_b_of, n_m_of, f_o_ln] at eb_of
  obtain ⟨b_wf, f_b_wf, g_b_wf⟩ := hx_rf hT g_qo_ln tt_1 (k := 2) (u := 14) rfl
  obtain ⟨B_wf, n_b_wf⟩ : ∃ g : Nat → Int32, hl1.2.1 b_wf = g := ⟨_, rfl⟩
  obtain ⟨m_wf, f_m_wf, g_m_wf⟩ := hx_rf hT gm tt_10 (k := 31) (u := 67) rfl
  obtain ⟨F_wf, n_m_wf⟩ : ∃ g : Nat → Int32, hl1.2.1 m_wf = g := ⟨_, rfl⟩
  have eb_wf := hk_wf qo_ln b_wf m_wf f_qo_ln f_b_wf f_m_wf; rw [n_b_wf, n_m_wf, f_o_ln] at eb_wf
  obtain ⟨b_df, f_b_df, g_b_df⟩ := hx_rf hT g_qo_ln tt_1 (k := 3) (u := 15) rfl
  obtain ⟨B_df, n_b_df⟩ : ∃ g : Nat → Int32, hl1.2.1 b_df = g := ⟨_, rfl⟩
  obtain ⟨m_df, f_m_df, g_m_df⟩ := hx_rf hT gm tt_10 (k := 32) (u := 68) rfl
  obtain ⟨F_df, n_m_df⟩ : ∃ g : Nat → Int32, hl1.2.1 m_df = g := ⟨_, rfl⟩
  have eb_df := hk_df qo_ln b_df m_df f_qo_ln f_b_df f_m_df; rw [n_b_df, n_m_df, f_o_ln] at eb_df
  obtain ⟨b_kf, f_b_kf, g_b_kf⟩ := hx_rf hT g_qo_ln tt_1 (k := 4) (u := 16) rfl
  obtain ⟨B_kf, n_b_kf⟩ : ∃ g : Nat → Int32, hl1.2.1 b_kf = g := ⟨_, rfl⟩
  obtain ⟨m_kf, f_m_kf, g_m_kf⟩ := hx_rf hT gm tt_10 (k := 33) (u := 69) rfl
  obtain ⟨F_kf, n_m_kf⟩ : ∃ g : Nat → Int32, hl1.2.1 m_kf = g := ⟨_, rfl⟩
  have eb_kf := hk_kf qo_ln b_kf m_kf f_qo_ln f_b_kf f_m_kf; rw [n_b_kf, n_m_kf, f_o_ln] at eb_kf
  obtain ⟨b_sf, f_b_sf, g_b_sf⟩ := hx_rf hT g_qo_ln tt_1 (k := 5) (u := 17) rfl
  obtain ⟨B_sf, n_b_sf⟩ : ∃ g : Nat → Int32, hl1.2.1 b_sf = g := ⟨_, rfl⟩
  obtain ⟨m_sf, f_m_sf, g_m_sf⟩ := hx_rf hT gm tt_10 (k := 34) (u := 70) rfl
  obtain ⟨F_sf, n_m_sf⟩ : ∃ g : Nat → Int32, hl1.2.1 m_sf = g := ⟨_, rfl⟩
  have eb_sf := hk_sf qo_ln b_sf m_sf f_qo_ln f_b_sf f_m_sf; rw [n_b_sf, n_m_sf, f_o_ln] at eb_sf
  obtain ⟨b_bf, f_b_bf, g_b_bf⟩ := hx_rf hT g_qo_ln tt_1 (k := 6) (u := 18) rfl
  obtain ⟨bfL, n_b_bf⟩ : ∃ g : Nat → Int32, hl1.2.1 b_bf = g := ⟨_, rfl⟩
  obtain ⟨hBD, hDY⟩ := hkBD qo_ln b_df b_bf f_qo_ln f_b_df f_b_bf; rw [n_b_df, n_b_bf, f_o_ln] at hBD; rw [n_b_df, f_o_ln] at hDY
  have hBDm := hy_BD_c eb_df hBD
  have hDYm : hy_DY F_df ln.toInt.toNat := fun x hx => by rw [← eb_df x hx]; exact hDY x hx
  have sb_list := hLQ qw ql qc f_qw f_ql f_qc
  obtain ⟨m_lst, f_m_lst, g_m_lst⟩ := hx_rf hT gm tt_10 (k := 91) (u := 112) rfl
  obtain ⟨F_lst, n_lst⟩ : ∃ g : Nat → Int32, hl1.2.1 m_lst = g := ⟨_, rfl⟩
  obtain ⟨c_lst, cl_lst⟩ : ∃ g : Nat → Int32, hx_col 8 hl1 ql 0 = g := ⟨_, rfl⟩
  have eq_lst := hLE qw ql m_lst f_qw f_ql f_m_lst; rw [cl_lst, n_lst] at eq_lst
  obtain ⟨qtp, f_qtp, g_qtp⟩ := hx_rf hT gx tt_9 (k := 0) (u := 42) rfl
  obtain ⟨m_tp, f_m_tp, g_m_tp⟩ := hx_rf hT gm tt_10 (k := 6) (u := 53) rfl
  obtain ⟨F_tp, n_tp⟩ : ∃ g : Nat → Int32, hl1.2.1 m_tp = g := ⟨_, rfl⟩
  have n_qtp : hl1.2.1 qtp = F_tp := (hkTP qtp m_tp f_qtp f_m_tp).trans n_tp
  obtain ⟨c_dead, cl_dead⟩ : ∃ g : Nat → Int32, hx_col 40 hl1 qp 7 = g := ⟨_, rfl⟩
  obtain ⟨m_dead, f_m_dead, g_m_dead⟩ := hx_rf hT gm tt_10 (k := 27) (u := 64) rfl
  obtain ⟨F_dead, n_dead⟩ : ∃ g : Nat → Int32, hl1.2.1 m_dead = g := ⟨_, rfl⟩
  have eq_dead := hc_dead qp m_dead f_qp f_m_dead; rw [cl_dead, n_dead] at eq_dead
  have z_dead : np.toInt.toNat < 40 → c_dead np.toInt.toNat = 0 := fun hj => hx_num_z nu_qp cl_dead hj (by omega)
  obtain ⟨c_isj, cl_isj⟩ : ∃ g : Nat → Int32, hx_col 40 hl1 qp 8 = g := ⟨_, rfl⟩
  obtain ⟨m_isj, f_m_isj, g_m_isj⟩ := hx_rf hT gm tt_10 (k := 28) (u := 65) rfl
  obtain ⟨F_isj, n_isj⟩ : ∃ g : Nat → Int32, hl1.2.1 m_isj = g := ⟨_, rfl⟩
  have eq_isj := hc_isj qp m_isj f_qp f_m_isj; rw [cl_isj, n_isj] at eq_isj
  have z_isj : np.toInt.toNat < 40 → c_isj np.toInt.toNat = 0 := fun hj => hx_num_z nu_qp cl_isj hj (by omega)
  obtain ⟨c_dox, cl_dox⟩ : ∃ g : Nat → Int32, hx_col 40 hl1 qp 5 = g := ⟨_, rfl⟩
  obtain ⟨m_dox, f_m_dox, g_m_dox⟩ := hx_rf hT gm tt_10 (k := 24) (u := 61) rfl
  obtain ⟨F_dox, n_dox⟩ : ∃ g : Nat → Int32, hl1.2.1 m_dox = g := ⟨_, rfl⟩
  have eq_dox := hc_dox qp m_dox f_qp f_m_dox; rw [cl_dox, n_dox] at eq_dox
  have z_dox : np.toInt.toNat < 40 → c_dox np.toInt.toNat = 0 := fun hj => hx_num_z nu_qp cl_dox hj (by omega)
  obtain ⟨c_doy, cl_doy⟩ : ∃ g : Nat → Int32, hx_col 40 hl1 qp 6 = g := ⟨_, rfl⟩
  obtain ⟨m_doy, f_m_doy, g_m_doy⟩ := hx_rf hT gm tt_10 (k := 25) (u := 62) rfl
  obtain ⟨F_doy, n_doy⟩ : ∃ g : Nat → Int32, hl1.2.1 m_doy = g := ⟨_, rfl⟩
  have eq_doy := hc_doy qp m_doy f_qp f_m_doy; rw [cl_doy, n_doy] at eq_doy
  have z_doy : np.toInt.toNat < 40 → c_doy np.toInt.toNat = 0 := fun hj => hx_num_z nu_qp cl_doy hj (by omega)
  obtain ⟨c_fou, cl_fou⟩ : ∃ g : Nat → Int32, hx_col 100 hl1 qc 10 = g := ⟨_, rfl⟩
  have eq_fou := hc_fou qc m_fou f_qc f_m_fou; rw [cl_fou, n_m_fou] at eq_fou
  have z_fou : c0.toInt.toNat < 100 → c_fou c0.toInt.toNat = 0 := fun hj => hx_num_z nu_qc cl_fou hj (by omega)
  obtain ⟨c_tri, cl_tri⟩ : ∃ g : Nat → Int32, hx_col 100 hl1 qc 9 = g := ⟨_, rfl⟩
  have eq_tri := hc_tri qc mt f_qc f_mt; rw [cl_tri, n_mt] at eq_tri
  have z_tri : c0.toInt.toNat < 100 → c_tri c0.toInt.toNat = 0 := fun hj => hx_num_z nu_qc cl_tri hj (by omega)
  obtain ⟨qlt, f_qlt, g_qlt⟩ := hx_rf hT g_qw tt_8 (k := 2) (u := 39) rfl
  obtain ⟨qlf, f_qlf, g_qlf⟩ := hx_rf hT g_qw tt_8 (k := 4) (u := 41) rfl
  obtain ⟨m_wkd, f_m_wkd, g_m_wkd⟩ := hx_rf hT gm tt_10 (k := 93) (u := 113) rfl
  obtain ⟨F_qlt, n_qlt⟩ : ∃ g : Nat → Int32, hl1.2.1 qlt = g := ⟨_, rfl⟩
  obtain ⟨F_m_wkd, n_m_wkd⟩ : ∃ g : Nat → Int32, hl1.2.1 m_wkd = g := ⟨_, rfl⟩
  have eb_wkd := hkWD qw qlt m_wkd f_qw f_qlt f_m_wkd; rw [n_qlt, n_m_wkd, f_o_wkm] at eb_wkd
  obtain ⟨m_aga, f_m_aga, g_m_aga⟩ := hx_rf hT gm tt_10 (k := 38) (u := 73) rfl
  obtain ⟨F_aga, n_aga⟩ : ∃ g : Nat → Int32, hl1.2.1 m_aga = g := ⟨_, rfl⟩
  have hDF := hkDF qc qp m_aga f_qc f_qp f_m_aga; rw [n_aga, f_x_claimCount] at hDF
  obtain ⟨qwo, f_qwo, g_qwo⟩ := hx_rf hT gx tt_9 (k := 4) (u := 0) rfl
  obtain ⟨m_ad, f_m_ad, g_m_ad⟩ := hx_rf hT gm tt_10 (k := 2) (u := 49) rfl
  obtain ⟨F_ad, n_ad⟩ : ∃ g : Nat → Int32, hl1.2.1 m_ad = g := ⟨_, rfl⟩
  obtain ⟨A9, hRA9, hCA9⟩ := hkAC qa qwo m_ad mr mn mp f_qa f_qwo f_m_ad f_mr f_mn f_mp
  rw [f_x_actCount] at hRA9; rw [f_x_actCount, n_ad, n_mr, n_mn, n_mp] at hCA9
  have hwd := jw mw f_mw; rw [n_mw] at hwd
  have hWK := jr mr f_mr; rw [n_mr, f_m_acts] at hWK
  have hRP := jp mp mn f_mp f_mn; rw [n_mp, n_mn, f_m_acts] at hRP
  have hPL := jl ml f_ml; rw [n_ml, f_m_claims, f_m_acts] at hPL
  have hHC := jh mh f_mh; rw [n_mh, f_m_heardMany, f_m_claims] at hHC
  have hTR := jt mt f_mt; rw [n_mt] at hTR
  have hHF := jf mh m_fou f_mh f_m_fou; rw [n_mh, n_m_fou, f_m_claims] at hHF
  refine lv_aload_n hx hb dL_law_412 rfl (lv_at hl 2 rfl) ?_
  refine lv_aload_n hx hb dL_law_413 rfl (lv_at hl 3 rfl) ?_
  refine lv_iload_n hx hb dL_law_414 rfl (lv_at hl 0 rfl) ?_
  refine lv_iconst (v := 1) hx hb dL_law_415 (by decide) ?_
  refine lv_iadd hx hb dL_law_416 ?_
  have rg_165 := i32_r i
  refine lv_topi (fun x_166 ex_166 => ?_)
  have zx_166 : x_166.toInt = i.toInt + 1 := by rw [ex_166]; exact i32_add rfl (by decide) (by omega) (by omega)
  refine va_sld hx hb hX hbl hbA hW.2.2.2.1 (vp_in_iff.mpr ⟨by omega, by omega⟩) dL_law_417 ?_
  refine lv_topi (fun x_167 ex_167 => ?_)
  refine lv_aload_n hx hb dL_law_418 rfl (lv_at hl 3 rfl) ?_
  refine lv_iload_n hx hb dL_law_419 rfl (lv_at hl 0 rfl) ?_
  refine lv_iconst (v := 2) hx hb dL_law_420 (by decide) ?_
  refine lv_iadd hx hb dL_law_421 ?_
  refine lv_topi (fun x_168 ex_168 => ?_)
  have zx_168 : x_168.toInt = i.toInt + 2 := by rw [ex_168]; exact i32_add rfl (by decide) (by omega) (by omega)
  refine va_sld hx hb hX hbl hbA hW.2.2.2.1 (vp_in_iff.mpr ⟨by omega, by omega⟩) dL_law_422 ?_
  refine lv_topi (fun x_169 ex_169 => ?_)
  refine lv_aload_n hx hb dL_law_423 rfl (lv_at hl 3 rfl) ?_
  refine lv_iload_n hx hb dL_law_424 rfl (lv_at hl 0 rfl) ?_
  refine lv_iconst (v := 3) hx hb dL_law_425 (by decide) ?_
  refine lv_iadd hx hb dL_law_426 ?_
  refine lv_topi (fun x_170 ex_170 => ?_)
  have zx_170 : x_170.toInt = i.toInt + 3 := by rw [ex_170]; exact i32_add rfl (by decide) (by omega) (by omega)
  refine va_sld hx hb hX hbl hbA hW.2.2.2.1 (vp_in_iff.mpr ⟨by omega, by omega⟩) dL_law_427 ?_
  refine lv_topi (fun x_171 ex_171 => ?_)
  refine lv_aload_n hx hb dL_law_428 rfl (lv_at hl 3 rfl) ?_
  refine lv_iload_n hx hb dL_law_429 rfl (lv_at hl 0 rfl) ?_
  refine lv_iconst (v := 4) hx hb dL_law_430 (by decide) ?_
  refine lv_iadd hx hb dL_law_431 ?_
  refine lv_topi (fun x_172 ex_172 => ?_)
  have zx_172 : x_172.toInt = i.toInt + 4 := by rw [ex_172]; exact i32_add rfl (by decide) (by omega) (by omega)
  refine va_sld hx hb hX hbl hbA hW.2.2.2.1 (vp_in_iff.mpr ⟨by omega, by omega⟩) dL_law_432 ?_
  refine lv_topi (fun x_173 ex_173 => ?_)
  refine lv_aload_n hx hb dL_law_433 rfl (lv_at hl 3 rfl) ?_
  refine lv_iload_n hx hb dL_law_434 rfl (lv_at hl 0 rfl) ?_
  refine lv_iconst (v := 5) hx hb dL_law_435 (by decide) ?_
  refine lv_iadd hx hb dL_law_436 ?_
  refine lv_topi (fun x_174 ex_174 => ?_)
  have zx_174 : x_174.toInt = i.toInt + 5 := by rw [ex_174]; exact i32_add rfl (by decide) (by omega) (by omega)
  refine va_sld hx hb hX hbl hbA hW.2.2.2.1 (vp_in_iff.mpr ⟨by omega, by omega⟩) dL_law_437 ?_
  refine lv_topi (fun x_175 ex_175 => ?_)
  have hTo := hT
  refine hx_goi (hx_runV (As := [.int x_167, .int x_169, .int x_171, .int x_173, .int x_175]) (rest := []) ⟨hx, hb, hml, hown, hts⟩ hW gx tt_9 (T := TX9) (N := 20) rfl (t_X9_anew_2 l dC dI dA L1 hl1 H.size ax x_167 x_169 x_171 x_173 x_175 hT gx np f_x_personCount qp g_qp f_qp pf_qp c_dead cl_dead c_dox cl_dox c_doy cl_doy nu_qp) (cwV 5 hts (hx_gV kw_655 kw_652 kw_653 kw_654 kw_94) rfl rfl rfl (by decide +kernel) ⟨Nat.le_of_ble_eq_true rfl, Nat.le_of_ble_eq_true rfl⟩) rfl hl.1 rfl (Nat.le_of_ble_eq_true rfl) dL_law_438 ⟨(show CC + 0 ≤ 600000 from by omega), (show SS + 0 ≤ 7302250 from by omega)⟩) hW (fun r_178 L_176 h_177 H locs p_179 hW => ?_)
  obtain ⟨⟨w_181, w_182, fw_181, fw_182, hr_180⟩, hT, hs⟩ := p_179
  replace hT : hx_T T_tb L_176 h_177 := hT
  replace hs : hx_S T_tb [(4, 3), (4, 4), (4, 5), (4, 6)] L1 hl1 L_176 h_177 := hs
  replace f_qa := (hs.o gx trivial rfl).2.trans f_qa
  replace f_qp := (hs.o gx trivial rfl).2.trans f_qp
  replace f_qc := (hs.o gx trivial rfl).2.trans f_qc
  replace f_qh := (hs.o gx trivial rfl).2.trans f_qh
  replace f_qw := (hs.o gx trivial rfl).2.trans f_qw
  replace f_ql := (hs.o g_qw trivial rfl).2.trans f_ql
  replace f_m_now := (hs.o gm trivial rfl).1.trans f_m_now
  replace f_m_persons := (hs.o gm trivial rfl).1.trans f_m_persons
  replace f_m_claims := (hs.o gm trivial rfl).1.trans f_m_claims
  replace f_m_taped := (hs.o gm trivial rfl).1.trans f_m_taped
  replace f_m_acts := (hs.o gm trivial rfl).1.trans f_m_acts
  replace f_m_lines := (hs.o gm trivial rfl).1.trans f_m_lines
  replace f_m_listed := (hs.o gm trivial rfl).1.trans f_m_listed
  replace f_m_walkedMany := (hs.o gm trivial rfl).1.trans f_m_walkedMany
  replace f_m_heardMany := (hs.o gm trivial rfl).1.trans f_m_heardMany
  replace f_x_now := (hs.o gx trivial rfl).1.trans f_x_now
  replace f_x_personCount := (hs.o gx trivial rfl).1.trans f_x_personCount
  replace f_x_claimCount := (hs.o gx trivial rfl).1.trans f_x_claimCount
  replace f_x_tapeLength := (hs.o gx trivial rfl).1.trans f_x_tapeLength
  replace f_x_actCount := (hs.o gx trivial rfl).1.trans f_x_actCount
  replace f_mw := (hs.o gm trivial rfl).2.trans f_mw
  replace f_mr := (hs.o gm trivial rfl).2.trans f_mr
  replace f_mp := (hs.o gm trivial rfl).2.trans f_mp
  replace f_mn := (hs.o gm trivial rfl).2.trans f_mn
  replace f_ml := (hs.o gm trivial rfl).2.trans f_ml
  replace f_mh := (hs.o gm trivial rfl).2.trans f_mh
  replace f_mt := (hs.o gm trivial rfl).2.trans f_mt
  replace f_m_fou := (hs.o gm trivial rfl).2.trans f_m_fou
  replace f_qo_ln := (hs.o gx trivial rfl).2.trans f_qo_ln
  replace f_o_ln := (hs.o g_qo_ln trivial rfl).1.trans f_o_ln
  replace f_o_lsd := (hs.o g_qw trivial rfl).1.trans f_o_lsd
  replace f_o_wkm := (hs.o g_qw trivial rfl).1.trans f_o_wkm
  replace f_b_of := (hs.o g_qo_ln trivial rfl).2.trans f_b_of
  replace f_m_of := (hs.o gm trivial rfl).2.trans f_m_of
  replace f_b_wf := (hs.o g_qo_ln trivial rfl).2.trans f_b_wf
  replace f_m_wf := (hs.o gm trivial rfl).2.trans f_m_wf
  replace f_b_df := (hs.o g_qo_ln trivial rfl).2.trans f_b_df
  replace f_m_df := (hs.o gm trivial rfl).2.trans f_m_df
  replace f_b_kf := (hs.o g_qo_ln trivial rfl).2.trans f_b_kf
  replace f_m_kf := (hs.o gm trivial rfl).2.trans f_m_kf
  replace f_b_sf := (hs.o g_qo_ln trivial rfl).2.trans f_b_sf
  replace f_m_sf := (hs.o gm trivial rfl).2.trans f_m_sf
  replace f_b_bf := (hs.o g_qo_ln trivial rfl).2.trans f_b_bf
  replace f_m_lst := (hs.o gm trivial rfl).2.trans f_m_lst
  replace f_qtp := (hs.o gx trivial rfl).2.trans f_qtp
  replace f_m_tp := (hs.o gm trivial rfl).2.trans f_m_tp
  replace f_m_dead := (hs.o gm trivial rfl).2.trans f_m_dead
  replace f_m_isj := (hs.o gm trivial rfl).2.trans f_m_isj
  replace f_m_dox := (hs.o gm trivial rfl).2.trans f_m_dox
  replace f_m_doy := (hs.o gm trivial rfl).2.trans f_m_doy
  replace f_qlt := (hs.o g_qw trivial rfl).2.trans f_qlt
  replace f_qlf := (hs.o g_qw trivial rfl).2.trans f_qlf
  replace f_m_wkd := (hs.o gm trivial rfl).2.trans f_m_wkd
  replace f_m_aga := (hs.o gm trivial rfl).2.trans f_m_aga
  replace f_qwo := (hs.o gx trivial rfl).2.trans f_qwo
  replace f_m_ad := (hs.o gm trivial rfl).2.trans f_m_ad
  replace pf_qa : ∀ j : Nat, (j : Int) < (h_177.2.1 ax 6).toInt → h_177.2.2 qa j ≠ none := by
    intro j hj; rw [(hs.o gx trivial rfl).1] at hj; rw [(hs.a g_qa rfl j).2]; exact pf_qa j hj
  replace pf_qp : ∀ j : Nat, (j : Int) < (h_177.2.1 ax 8).toInt → h_177.2.2 qp j ≠ none := by
    intro j hj; rw [(hs.o gx trivial rfl).1] at hj; rw [(hs.a g_qp rfl j).2]; exact pf_qp j hj
  replace pf_qc : ∀ j : Nat, (j : Int) < (h_177.2.1 ax 11).toInt → h_177.2.2 qc j ≠ none := by
    intro j hj; rw [(hs.o gx trivial rfl).1] at hj; rw [(hs.a g_qc rfl j).2]; exact pf_qc j hj
  replace pf_qh : ∀ j : Nat, (j : Int) < (h_177.2.1 ax 13).toInt → h_177.2.2 qh j ≠ none := by
    intro j hj; rw [(hs.o gx trivial rfl).1] at hj; rw [(hs.a g_qh rfl j).2]; exact pf_qh j hj
  replace pf_ql : ∀ j : Nat, (j : Int) < (h_177.2.1 qw 0).toInt → h_177.2.2 ql j ≠ none := by
    intro j hj; rw [(hs.o g_qw trivial rfl).1] at hj; rw [(hs.a g_ql rfl j).2]; exact pf_ql j hj
  replace cl_lst : hx_col 8 h_177 ql 0 = c_lst := (hx_col_S hs hTo g_ql tt_40 tt_2 rfl rfl).trans cl_lst
  replace cl_dead : hx_col 40 h_177 qp 7 = c_dead := (hx_col_S hs hTo g_qp tt_44 tt_4 rfl rfl).trans cl_dead
  replace cl_isj : hx_col 40 h_177 qp 8 = c_isj := (hx_col_S hs hTo g_qp tt_44 tt_4 rfl rfl).trans cl_isj
  replace cl_fou : hx_col 100 h_177 qc 10 = c_fou := (hx_col_S hs hTo g_qc tt_45 tt_2 rfl rfl).trans cl_fou
  replace cl_tri : hx_col 100 h_177 qc 9 = c_tri := (hx_col_S hs hTo g_qc tt_45 tt_2 rfl rfl).trans cl_tri
  replace nu_qp : hx_num 40 h_177 qp 0 (np.toInt) := hx_num_S hs hTo g_qp tt_44 tt_4 rfl rfl nu_qp
  replace nu_qc : hx_num 100 h_177 qc 0 (c0.toInt) := hx_num_S hs hTo g_qc tt_45 tt_2 rfl rfl nu_qc
  replace sb_list : hx_LQ 8 100 h_177 ql qc := hx_LQ_S hs g_ql g_qc rfl rfl sb_list
  replace hDF : hw_DF h_177 qc qp 2 F_aga c0.toInt := hw_DF_S hs hTo g_qc g_qp tt_45 tt_2 rfl rfl rfl hDF
  replace hRA9 : hv_RA h_177 qa qwo a0.toInt A9 := hv_RA_S hs hTo g_qa g_qwo tt_43 tt_0 rfl rfl rfl rfl rfl rfl (by omega) hRA9
  replace n_mw : h_177.2.1 mw = F_mw := (funext fun j => (hs.a g_mw rfl j).1).trans n_mw
  replace n_mr : h_177.2.1 mr = F_mr := (funext fun j => (hs.a g_mr rfl j).1).trans n_mr
  replace n_mp : h_177.2.1 mp = F_mp := (funext fun j => (hs.a g_mp rfl j).1).trans n_mp
  replace n_mn : h_177.2.1 mn = F_mn := (funext fun j => (hs.a g_mn rfl j).1).trans n_mn
  replace n_ml : h_177.2.1 ml = F_ml := (funext fun j => (hs.a g_ml rfl j).1).trans n_ml
  replace n_mh : h_177.2.1 mh = F_mh := (funext fun j => (hs.a g_mh rfl j).1).trans n_mh
  replace n_mt : h_177.2.1 mt = F_mt := (funext fun j => (hs.a g_mt rfl j).1).trans n_mt
  replace n_m_fou : h_177.2.1 m_fou = F_m_fou := (funext fun j => (hs.a g_m_fou rfl j).1).trans n_m_fou
  replace n_b_of : h_177.2.1 b_of = B_of := (funext fun j => (hs.a g_b_of rfl j).1).trans n_b_of
  replace n_m_of : h_177.2.1 m_of = F_of := (funext fun j => (hs.a g_m_of rfl j).1).trans n_m_of
  replace n_b_wf : h_177.2.1 b_wf = B_wf := (funext fun j => (hs.a g_b_wf rfl j).1).trans n_b_wf
  replace n_m_wf : h_177.2.1 m_wf = F_wf := (funext fun j => (hs.a g_m_wf rfl j).1).trans n_m_wf
  replace n_b_df : h_177.2.1 b_df = B_df := (funext fun j => (hs.a g_b_df rfl j).1).trans n_b_df
  replace n_m_df : h_177.2.1 m_df = F_df := (funext fun j => (hs.a g_m_df rfl j).1).trans n_m_df
  replace n_b_kf : h_177.2.1 b_kf = B_kf := (funext fun j => (hs.a g_b_kf rfl j).1).trans n_b_kf
  replace n_m_kf : h_177.2.1 m_kf = F_kf := (funext fun j => (hs.a g_m_kf rfl j).1).trans n_m_kf
  replace n_b_sf : h_177.2.1 b_sf = B_sf := (funext fun j => (hs.a g_b_sf rfl j).1).trans n_b_sf
  replace n_m_sf : h_177.2.1 m_sf = F_sf := (funext fun j => (hs.a g_m_sf rfl j).1).trans n_m_sf
  replace n_b_bf : h_177.2.1 b_bf = bfL := (funext fun j => (hs.a g_b_bf rfl j).1).trans n_b_bf
  replace n_lst : h_177.2.1 m_lst = F_lst := (funext fun j => (hs.a g_m_lst rfl j).1).trans n_lst
  replace n_tp : h_177.2.1 m_tp = F_tp := (funext fun j => (hs.a g_m_tp rfl j).1).trans n_tp
  replace n_qtp : h_177.2.1 qtp = F_tp := (funext fun j => (hs.a g_qtp rfl j).1).trans n_qtp
  replace n_dead : h_177.2.1 m_dead = F_dead := (funext fun j => (hs.a g_m_dead rfl j).1).trans n_dead
  replace n_isj : h_177.2.1 m_isj = F_isj := (funext fun j => (hs.a g_m_isj rfl j).1).trans n_isj
  replace n_dox : h_177.2.1 m_dox = F_dox := (funext fun j => (hs.a g_m_dox rfl j).1).trans n_dox
  replace n_doy : h_177.2.1 m_doy = F_doy := (funext fun j => (hs.a g_m_doy rfl j).1).trans n_doy
  replace n_qlt : h_177.2.1 qlt = F_qlt := (funext fun j => (hs.a g_qlt rfl j).1).trans n_qlt
  replace n_m_wkd : h_177.2.1 m_wkd = F_m_wkd := (funext fun j => (hs.a g_m_wkd rfl j).1).trans n_m_wkd
  replace n_aga : h_177.2.1 m_aga = F_aga := (funext fun j => (hs.a g_m_aga rfl j).1).trans n_aga
  replace n_ad : h_177.2.1 m_ad = F_ad := (funext fun j => (hs.a g_m_ad rfl j).1).trans n_ad
  replace gx := gx.S hs
  replace gm := gm.S hs
  replace g_qa := g_qa.S hs
  replace g_qp := g_qp.S hs
  replace g_qc := g_qc.S hs
  replace g_qh := g_qh.S hs
  replace g_qw := g_qw.S hs
  replace g_ql := g_ql.S hs
  replace g_mw := g_mw.S hs
  replace g_mr := g_mr.S hs
  replace g_mp := g_mp.S hs
  replace g_mn := g_mn.S hs
  replace g_ml := g_ml.S hs
  replace g_mh := g_mh.S hs
  replace g_mt := g_mt.S hs
  replace g_m_fou := g_m_fou.S hs
  replace g_qo_ln := g_qo_ln.S hs
  replace g_b_of := g_b_of.S hs
  replace g_m_of := g_m_of.S hs
  replace g_b_wf := g_b_wf.S hs
  replace g_m_wf := g_m_wf.S hs
  replace g_b_df := g_b_df.S hs
  replace g_m_df := g_m_df.S hs
  replace g_b_kf := g_b_kf.S hs
  replace g_m_kf := g_m_kf.S hs
  replace g_b_sf := g_b_sf.S hs
  replace g_m_sf := g_m_sf.S hs
  replace g_b_bf := g_b_bf.S hs
  replace g_m_lst := g_m_lst.S hs
  replace g_qtp := g_qtp.S hs
  replace g_m_tp := g_m_tp.S hs
  replace g_m_dead := g_m_dead.S hs
  replace g_m_isj := g_m_isj.S hs
  replace g_m_dox := g_m_dox.S hs
  replace g_m_doy := g_m_doy.S hs
  replace g_qlt := g_qlt.S hs
  replace g_qlf := g_qlf.S hs
  replace g_m_wkd := g_m_wkd.S hs
  replace g_m_aga := g_m_aga.S hs
  replace g_qwo := g_qwo.S hs
  replace g_m_ad := g_m_ad.S hs
  have fw_181 : hx_col 40 h_177 qp 5 = w_181 := fw_181
  have fw_182 : hx_col 40 h_177 qp 6 = w_182 := fw_182
  refine lv_pop hx hb dL_law_441 rfl ?_
  refine lv_aload_n hx hb dL_law_442 rfl (lv_at hl 1 rfl) ?_
  refine lv_aload_n hx hb dL_law_443 rfl (lv_at hl 3 rfl) ?_
  refine lv_iload_n hx hb dL_law_444 rfl (lv_at hl 0 rfl) ?_
  refine lv_iconst (v := 1) hx hb dL_law_445 (by decide) ?_
  refine lv_iadd hx hb dL_law_446 ?_
  refine lv_topi (fun x_183 ex_183 => ?_)
  have zx_183 : x_183.toInt = i.toInt + 1 := by rw [ex_183]; exact i32_add rfl (by decide) (by omega) (by omega)
  obtain rfl : x_166 = x_183 := ex_166.trans ex_183.symm
  refine va_sld hx hb hX hbl hbA hW.2.2.2.1 (vp_in_iff.mpr ⟨by omega, by omega⟩) dL_law_447 ?_
  refine lv_topi (fun x_184 ex_184 => ?_)
  obtain rfl : x_167 = x_184 := ex_167.trans ex_184.symm
  refine lv_aload_n hx hb dL_law_448 rfl (lv_at hl 3 rfl) ?_
  refine lv_iload_n hx hb dL_law_449 rfl (lv_at hl 0 rfl) ?_
  refine lv_iconst (v := 2) hx hb dL_law_450 (by decide) ?_
  refine lv_iadd hx hb dL_law_451 ?_
  refine lv_topi (fun x_185 ex_185 => ?_)
  have zx_185 : x_185.toInt = i.toInt + 2 := by rw [ex_185]; exact i32_add rfl (by decide) (by omega) (by omega)
  obtain rfl : x_168 = x_185 := ex_168.trans ex_185.symm
  refine va_sld hx hb hX hbl hbA hW.2.2.2.1 (vp_in_iff.mpr ⟨by omega, by omega⟩) dL_law_452 ?_
  refine lv_topi (fun x_186 ex_186 => ?_)
  obtain rfl : x_169 = x_186 := ex_169.trans ex_186.symm
  refine lv_aload_n hx hb dL_law_453 rfl (lv_at hl 3 rfl) ?_
  refine lv_iload_n hx hb dL_law_454 rfl (lv_at hl 0 rfl) ?_
  refine lv_iconst (v := 3) hx hb dL_law_455 (by decide) ?_
  refine lv_iadd hx hb dL_law_456 ?_
  refine lv_topi (fun x_187 ex_187 => ?_)
  have zx_187 : x_187.toInt = i.toInt + 3 := by rw [ex_187]; exact i32_add rfl (by decide) (by omega) (by omega)
  obtain rfl : x_170 = x_187 := ex_170.trans ex_187.symm
  refine va_sld hx hb hX hbl hbA hW.2.2.2.1 (vp_in_iff.mpr ⟨by omega, by omega⟩) dL_law_457 ?_
  refine lv_topi (fun x_188 ex_188 => ?_)
  obtain rfl : x_171 = x_188 := ex_171.trans ex_188.symm
  refine lv_aload_n hx hb dL_law_458 rfl (lv_at hl 3 rfl) ?_
  refine lv_iload_n hx hb dL_law_459 rfl (lv_at hl 0 rfl) ?_
  refine lv_iconst (v := 4) hx hb dL_law_460 (by decide) ?_
  refine lv_iadd hx hb dL_law_461 ?_
  refine lv_topi (fun x_189 ex_189 => ?_)
  have zx_189 : x_189.toInt = i.toInt + 4 := by rw [ex_189]; exact i32_add rfl (by decide) (by omega) (by omega)
  obtain rfl : x_172 = x_189 := ex_172.trans ex_189.symm
  refine va_sld hx hb hX hbl hbA hW.2.2.2.1 (vp_in_iff.mpr ⟨by omega, by omega⟩) dL_law_462 ?_
  refine lv_topi (fun x_190 ex_190 => ?_)
  obtain rfl : x_173 = x_190 := ex_173.trans ex_190.symm
  refine lv_aload_n hx hb dL_law_463 rfl (lv_at hl 3 rfl) ?_
  refine lv_iload_n hx hb dL_law_464 rfl (lv_at hl 0 rfl) ?_
  refine lv_iconst (v := 5) hx hb dL_law_465 (by decide) ?_
  refine lv_iadd hx hb dL_law_466 ?_
  refine lv_topi (fun x_191 ex_191 => ?_)
  have zx_191 : x_191.toInt = i.toInt + 5 := by rw [ex_191]; exact i32_add rfl (by decide) (by omega) (by omega)
  obtain rfl : x_174 = x_191 := ex_174.trans ex_191.symm
  refine va_sld hx hb hX hbl hbA hW.2.2.2.1 (vp_in_iff.mpr ⟨by omega, by omega⟩) dL_law_467 ?_
  refine lv_topi (fun x_192 ex_192 => ?_)
  obtain rfl : x_175 = x_192 := ex_175.trans ex_192.symm
  have hTo := hT
  refine hx_goi (hx_runV (As := [.int x_167, .int x_169, .int x_171, .int x_173, .int x_175]) (rest := []) ⟨hx, hb, hml, hown, hts⟩ hW gm tt_10 (T := TX10) (N := 98) rfl (t_X10_anew_2 l dC dI dA L_176 h_177 H.size am x_167 x_169 x_171 x_173 x_175 hT gm m_dead g_m_dead f_m_dead m_dox g_m_dox f_m_dox m_doy g_m_doy f_m_doy F_dead n_dead F_dox n_dox F_doy n_doy np f_m_persons) (cwV 5 hts (hx_gV kw_1548 kw_1545 kw_1546 kw_1547 kw_103) rfl rfl rfl (by decide +kernel) ⟨Nat.le_of_ble_eq_true rfl, Nat.le_of_ble_eq_true rfl⟩) rfl hl.1 rfl (Nat.le_of_ble_eq_true rfl) dL_law_468 ⟨(show CC + 0 + 0 ≤ 600000 from by omega), (show SS + 0 + 0 ≤ 7302250 from by omega)⟩) hW (fun r_195 L_193 h_194 H locs p_196 hW => ?_)
  obtain ⟨⟨w_198, w_199, fw_198, fw_199, hr_197⟩, hT, hs⟩ := p_196
  replace hT : hx_T T_tb L_193 h_194 := hT
  replace hs : hx_S T_tb [(59, 0), (60, 0), (61, 0), (62, 0)] L_176 h_177 L_193 h_194 := hs
  replace f_qa := (hs.o gx trivial rfl).2.trans f_qa
  replace f_qp := (hs.o gx trivial rfl).2.trans f_qp
  replace f_qc := (hs.o gx trivial rfl).2.trans f_qc
  replace f_qh := (hs.o gx trivial rfl).2.trans f_qh
  replace f_qw := (hs.o gx trivial rfl).2.trans f_qw
  replace f_ql := (hs.o g_qw trivial rfl).2.trans f_ql
  replace f_m_now := (hs.o gm trivial rfl).1.trans f_m_now
  replace f_m_persons := (hs.o gm trivial rfl).1.trans f_m_persons
  replace f_m_claims := (hs.o gm trivial rfl).1.trans f_m_claims
  replace f_m_taped := (hs.o gm trivial rfl).1.trans f_m_taped
  replace f_m_acts := (hs.o gm trivial rfl).1.trans f_m_acts
  replace f_m_lines := (hs.o gm trivial rfl).1.trans f_m_lines
  replace f_m_listed := (hs.o gm trivial rfl).1.trans f_m_listed
  replace f_m_walkedMany := (hs.o gm trivial rfl).1.trans f_m_walkedMany
  replace f_m_heardMany := (hs.o gm trivial rfl).1.trans f_m_heardMany
  replace f_x_now := (hs.o gx trivial rfl).1.trans f_x_now
  replace f_x_personCount := (hs.o gx trivial rfl).1.trans f_x_personCount
  replace f_x_claimCount := (hs.o gx trivial rfl).1.trans f_x_claimCount
  replace f_x_tapeLength := (hs.o gx trivial rfl).1.trans f_x_tapeLength
  replace f_x_actCount := (hs.o gx trivial rfl).1.trans f_x_actCount
  replace f_mw := (hs.o gm trivial rfl).2.trans f_mw
  replace f_mr := (hs.o gm trivial rfl).2.trans f_mr
  replace f_mp := (hs.o gm trivial rfl).2.trans f_mp
  replace f_mn := (hs.o gm trivial rfl).2.trans f_mn
  replace f_ml := (hs.o gm trivial rfl).2.trans f_ml
  replace f_mh := (hs.o gm trivial rfl).2.trans f_mh
  replace f_mt := (hs.o gm trivial rfl).2.trans f_mt
  replace f_m_fou := (hs.o gm trivial rfl).2.trans f_m_fou
  replace f_qo_ln := (hs.o gx trivial rfl).2.trans f_qo_ln
  replace f_o_ln := (hs.o g_qo_ln trivial rfl).1.trans f_o_ln
  replace f_o_lsd := (hs.o g_qw trivial rfl).1.trans f_o_lsd
  replace f_o_wkm := (hs.o g_qw trivial rfl).1.trans f_o_wkm
  replace f_b_of := (hs.o g_qo_ln trivial rfl).2.trans f_b_of
  replace f_m_of := (hs.o gm trivial rfl).2.trans f_m_of
  replace f_b_wf := (hs.o g_qo_ln trivial rfl).2.trans f_b_wf
  replace f_m_wf := (hs.o gm trivial rfl).2.trans f_m_wf
  replace f_b_df := (hs.o g_qo_ln trivial rfl).2.trans f_b_df
  replace f_m_df := (hs.o gm trivial rfl).2.trans f_m_df
  replace f_b_kf := (hs.o g_qo_ln trivial rfl).2.trans f_b_kf
  replace f_m_kf := (hs.o gm trivial rfl).2.trans f_m_kf
  replace f_b_sf := (hs.o g_qo_ln trivial rfl).2.trans f_b_sf
  replace f_m_sf := (hs.o gm trivial rfl).2.trans f_m_sf
  replace f_b_bf := (hs.o g_qo_ln trivial rfl).2.trans f_b_bf
  replace f_m_lst := (hs.o gm trivial rfl).2.trans f_m_lst
  replace f_qtp := (hs.o gx trivial rfl).2.trans f_qtp
  replace f_m_tp := (hs.o gm trivial rfl).2.trans f_m_tp
  replace f_m_dead := (hs.o gm trivial rfl).2.trans f_m_dead
  replace f_m_isj := (hs.o gm trivial rfl).2.trans f_m_isj
  replace f_m_dox := (hs.o gm trivial rfl).2.trans f_m_dox
  replace f_m_doy := (hs.o gm trivial rfl).2.trans f_m_doy
  replace f_qlt := (hs.o g_qw trivial rfl).2.trans f_qlt
  replace f_qlf := (hs.o g_qw trivial rfl).2.trans f_qlf
  replace f_m_wkd := (hs.o gm trivial rfl).2.trans f_m_wkd
  replace f_m_aga := (hs.o gm trivial rfl).2.trans f_m_aga
  replace f_qwo := (hs.o gx trivial rfl).2.trans f_qwo
  replace f_m_ad := (hs.o gm trivial rfl).2.trans f_m_ad
  replace pf_qa : ∀ j : Nat, (j : Int) < (h_194.2.1 ax 6).toInt → h_194.2.2 qa j ≠ none := by
    intro j hj; rw [(hs.o gx trivial rfl).1] at hj; rw [(hs.a g_qa rfl j).2]; exact pf_qa j hj
  replace pf_qp : ∀ j : Nat, (j : Int) < (h_194.2.1 ax 8).toInt → h_194.2.2 qp j ≠ none := by
    intro j hj; rw [(hs.o gx trivial rfl).1] at hj; rw [(hs.a g_qp rfl j).2]; exact pf_qp j hj
  replace pf_qc : ∀ j : Nat, (j : Int) < (h_194.2.1 ax 11).toInt → h_194.2.2 qc j ≠ none := by
    intro j hj; rw [(hs.o gx trivial rfl).1] at hj; rw [(hs.a g_qc rfl j).2]; exact pf_qc j hj
  replace pf_qh : ∀ j : Nat, (j : Int) < (h_194.2.1 ax 13).toInt → h_194.2.2 qh j ≠ none := by
    intro j hj; rw [(hs.o gx trivial rfl).1] at hj; rw [(hs.a g_qh rfl j).2]; exact pf_qh j hj
  replace pf_ql : ∀ j : Nat, (j : Int) < (h_194.2.1 qw 0).toInt → h_194.2.2 ql j ≠ none := by
    intro j hj; rw [(hs.o g_qw trivial rfl).1] at hj; rw [(hs.a g_ql rfl j).2]; exact pf_ql j hj
  replace cl_lst : hx_col 8 h_194 ql 0 = c_lst := (hx_col_S hs hTo g_ql tt_40 tt_2 rfl rfl).trans cl_lst
  replace cl_dead : hx_col 40 h_194 qp 7 = c_dead := (hx_col_S hs hTo g_qp tt_44 tt_4 rfl rfl).trans cl_dead
  replace cl_isj : hx_col 40 h_194 qp 8 = c_isj := (hx_col_S hs hTo g_qp tt_44 tt_4 rfl rfl).trans cl_isj
  replace cl_fou : hx_col 100 h_194 qc 10 = c_fou := (hx_col_S hs hTo g_qc tt_45 tt_2 rfl rfl).trans cl_fou
  replace cl_tri : hx_col 100 h_194 qc 9 = c_tri := (hx_col_S hs hTo g_qc tt_45 tt_2 rfl rfl).trans cl_tri
  replace fw_181 : hx_col 40 h_194 qp 5 = w_181 := (hx_col_S hs hTo g_qp tt_44 tt_4 rfl rfl).trans fw_181
  replace fw_182 : hx_col 40 h_194 qp 6 = w_182 := (hx_col_S hs hTo g_qp tt_44 tt_4 rfl rfl).trans fw_182
  replace nu_qp : hx_num 40 h_194 qp 0 (np.toInt) := hx_num_S hs hTo g_qp tt_44 tt_4 rfl rfl nu_qp
  replace nu_qc : hx_num 100 h_194 qc 0 (c0.toInt) := hx_num_S hs hTo g_qc tt_45 tt_2 rfl rfl nu_qc
  replace sb_list : hx_LQ 8 100 h_194 ql qc := hx_LQ_S hs g_ql g_qc rfl rfl sb_list
  replace hDF : hw_DF h_194 qc qp 2 F_aga c0.toInt := hw_DF_S hs hTo g_qc g_qp tt_45 tt_2 rfl rfl rfl hDF
  replace hRA9 : hv_RA h_194 qa qwo a0.toInt A9 := hv_RA_S hs hTo g_qa g_qwo tt_43 tt_0 rfl rfl rfl rfl rfl rfl (by omega) hRA9
  replace n_mw : h_194.2.1 mw = F_mw := (funext fun j => (hs.a g_mw rfl j).1).trans n_mw
  replace n_mr : h_194.2.1 mr = F_mr := (funext fun j => (hs.a g_mr rfl j).1).trans n_mr
  replace n_mp : h_194.2.1 mp = F_mp := (funext fun j => (hs.a g_mp rfl j).1).trans n_mp
  replace n_mn : h_194.2.1 mn = F_mn := (funext fun j => (hs.a g_mn rfl j).1).trans n_mn
  replace n_ml : h_194.2.1 ml = F_ml := (funext fun j => (hs.a g_ml rfl j).1).trans n_ml
  replace n_mh : h_194.2.1 mh = F_mh := (funext fun j => (hs.a g_mh rfl j).1).trans n_mh
  replace n_mt : h_194.2.1 mt = F_mt := (funext fun j => (hs.a g_mt rfl j).1).trans n_mt
  replace n_m_fou : h_194.2.1 m_fou = F_m_fou := (funext fun j => (hs.a g_m_fou rfl j).1).trans n_m_fou
  replace n_b_of : h_194.2.1 b_of = B_of := (funext fun j => (hs.a g_b_of rfl j).1).trans n_b_of
  replace n_m_of : h_194.2.1 m_of = F_of := (funext fun j => (hs.a g_m_of rfl j).1).trans n_m_of
  replace n_b_wf : h_194.2.1 b_wf = B_wf := (funext fun j => (hs.a g_b_wf rfl j).1).trans n_b_wf
  replace n_m_wf : h_194.2.1 m_wf = F_wf := (funext fun j => (hs.a g_m_wf rfl j).1).trans n_m_wf
  replace n_b_df : h_194.2.1 b_df = B_df := (funext fun j => (hs.a g_b_df rfl j).1).trans n_b_df
  replace n_m_df : h_194.2.1 m_df = F_df := (funext fun j => (hs.a g_m_df rfl j).1).trans n_m_df
  replace n_b_kf : h_194.2.1 b_kf = B_kf := (funext fun j => (hs.a g_b_kf rfl j).1).trans n_b_kf
  replace n_m_kf : h_194.2.1 m_kf = F_kf := (funext fun j => (hs.a g_m_kf rfl j).1).trans n_m_kf
  replace n_b_sf : h_194.2.1 b_sf = B_sf := (funext fun j => (hs.a g_b_sf rfl j).1).trans n_b_sf
  replace n_m_sf : h_194.2.1 m_sf = F_sf := (funext fun j => (hs.a g_m_sf rfl j).1).trans n_m_sf
  replace n_b_bf : h_194.2.1 b_bf = bfL := (funext fun j => (hs.a g_b_bf rfl j).1).trans n_b_bf
  replace n_lst : h_194.2.1 m_lst = F_lst := (funext fun j => (hs.a g_m_lst rfl j).1).trans n_lst
  replace n_tp : h_194.2.1 m_tp = F_tp := (funext fun j => (hs.a g_m_tp rfl j).1).trans n_tp
  replace n_qtp : h_194.2.1 qtp = F_tp := (funext fun j => (hs.a g_qtp rfl j).1).trans n_qtp
  replace n_dead : h_194.2.1 m_dead = F_dead := (funext fun j => (hs.a g_m_dead rfl j).1).trans n_dead
  replace n_isj : h_194.2.1 m_isj = F_isj := (funext fun j => (hs.a g_m_isj rfl j).1).trans n_isj
  replace n_qlt : h_194.2.1 qlt = F_qlt := (funext fun j => (hs.a g_qlt rfl j).1).trans n_qlt
  replace n_m_wkd : h_194.2.1 m_wkd = F_m_wkd := (funext fun j => (hs.a g_m_wkd rfl j).1).trans n_m_wkd
  replace n_aga : h_194.2.1 m_aga = F_aga := (funext fun j => (hs.a g_m_aga rfl j).1).trans n_aga
  replace n_ad : h_194.2.1 m_ad = F_ad := (funext fun j => (hs.a g_m_ad rfl j).1).trans n_ad
  replace gx := gx.S hs
  replace gm := gm.S hs
  replace g_qa := g_qa.S hs
  replace g_qp := g_qp.S hs
  replace g_qc := g_qc.S hs
  replace g_qh := g_qh.S hs
  replace g_qw := g_qw.S hs
  replace g_ql := g_ql.S hs
  replace g_mw := g_mw.S hs
  replace g_mr := g_mr.S hs
  replace g_mp := g_mp.S hs
  replace g_mn := g_mn.S hs
  replace g_ml := g_ml.S hs
  replace g_mh := g_mh.S hs
  replace g_mt := g_mt.S hs
  replace g_m_fou := g_m_fou.S hs
  replace g_qo_ln := g_qo_ln.S hs
  replace g_b_of := g_b_of.S hs
  replace g_m_of := g_m_of.S hs
  replace g_b_wf := g_b_wf.S hs
  replace g_m_wf := g_m_wf.S hs
  replace g_b_df := g_b_df.S hs
  replace g_m_df := g_m_df.S hs
  replace g_b_kf := g_b_kf.S hs
  replace g_m_kf := g_m_kf.S hs
  replace g_b_sf := g_b_sf.S hs
  replace g_m_sf := g_m_sf.S hs
  replace g_b_bf := g_b_bf.S hs
  replace g_m_lst := g_m_lst.S hs
  replace g_qtp := g_qtp.S hs
  replace g_m_tp := g_m_tp.S hs
  replace g_m_dead := g_m_dead.S hs
  replace g_m_isj := g_m_isj.S hs
  replace g_m_dox := g_m_dox.S hs
  replace g_m_doy := g_m_doy.S hs
  replace g_qlt := g_qlt.S hs
  replace g_qlf := g_qlf.S hs
  replace g_m_wkd := g_m_wkd.S hs
  replace g_m_aga := g_m_aga.S hs
  replace g_qwo := g_qwo.S hs
  replace g_m_ad := g_m_ad.S hs
  have fw_198 : h_194.2.1 m_dox = w_198 := fw_198
  have fw_199 : h_194.2.1 m_doy = w_199 := fw_199
  refine lv_pop hx hb dL_law_471 rfl ?_
  refine lv_goto (tgt := 1379) hx hb dL_law_472 (by decide) ?_
  have heq := hx_ak (by omega) eq_dead hr_180.1 hr_197.1
  have hq_dox := hw_adk heq eq_dox hr_180.2.1 hr_197.2.1; have hq_doy := hw_adk heq eq_doy hr_180.2.2 hr_197.2.2
  refine W.widen (k := CC + 3) (n := SS + 179) (by omega) (by omega) ?_
  exact kk L_193 h_194 H locs ls hW ⟨hT, gx, gm, ⟨f_x_now.trans f_m_now.symm, f_x_personCount.trans f_m_persons.symm, f_x_claimCount.trans f_m_claims.symm, f_x_tapeLength.trans f_m_taped.symm, f_x_actCount.trans f_m_acts.symm, hx_ob f_qo_ln (f_o_ln.trans f_m_lines.symm), hx_ob f_qw (f_o_lsd.trans f_m_listed.symm), hx_ob f_qw (f_o_wkm.trans f_m_walkedMany.symm), hx_ob f_qp (by rw [f_x_personCount]; exact nu_qp), hx_ob f_qc (by rw [f_x_claimCount]; exact nu_qc), (fun b a r hb ha hr => by obtain rfl : qo_ln = b := Option.some.inj (f_qo_ln.symm.trans hb); obtain rfl : b_of = a := Option.some.inj (f_b_of.symm.trans ha); obtain rfl : m_of = r := Option.some.inj (f_m_of.symm.trans hr); rw [n_b_of, n_m_of, f_o_ln]; exact eb_of), (fun b a r hb ha hr => by obtain rfl : qo_ln = b := Option.some.inj (f_qo_ln.symm.trans hb); obtain rfl : b_wf = a := Option.some.inj (f_b_wf.symm.trans ha); obtain rfl : m_wf = r := Option.some.inj (f_m_wf.symm.trans hr); rw [n_b_wf, n_m_wf, f_o_ln]; exact eb_wf), (fun b a r hb ha hr => by obtain rfl : qo_ln = b := Option.some.inj (f_qo_ln.symm.trans hb); obtain rfl : b_df = a := Option.some.inj (f_b_df.symm.trans ha); obtain rfl : m_df = r := Option.some.inj (f_m_df.symm.trans hr); rw [n_b_df, n_m_df, f_o_ln]; exact eb_df), (fun b a r hb ha hr => by obtain rfl : qo_ln = b := Option.some.inj (f_qo_ln.symm.trans hb); obtain rfl : b_kf = a := Option.some.inj (f_b_kf.symm.trans ha); obtain rfl : m_kf = r := Option.some.inj (f_m_kf.symm.trans hr); rw [n_b_kf, n_m_kf, f_o_ln]; exact eb_kf), (fun b a r hb ha hr => by obtain rfl : qo_ln = b := Option.some.inj (f_qo_ln.symm.trans hb); obtain rfl : b_sf = a := Option.some.inj (f_b_sf.symm.trans ha); obtain rfl : m_sf = r := Option.some.inj (f_m_sf.symm.trans hr); rw [n_b_sf, n_m_sf, f_o_ln]; exact eb_sf), (fun b a r hb ha hr => by obtain rfl : qo_ln = b := Option.some.inj (f_qo_ln.symm.trans hb); obtain rfl : b_df = a := Option.some.inj (f_b_df.symm.trans ha); obtain rfl : b_bf = r := Option.some.inj (f_b_bf.symm.trans hr); rw [n_b_df, n_b_bf, f_o_ln]; exact ⟨hBD, hDY⟩), (fun w q c hw hq hc => by obtain rfl : qw = w := Option.some.inj (f_qw.symm.trans hw); obtain rfl : ql = q := Option.some.inj (f_ql.symm.trans hq); obtain rfl : qc = c := Option.some.inj (f_qc.symm.trans hc); exact sb_list), (fun w q r hw hq hr => by obtain rfl : qw = w := Option.some.inj (f_qw.symm.trans hw); obtain rfl : ql = q := Option.some.inj (f_ql.symm.trans hq); obtain rfl : m_lst = r := Option.some.inj (f_m_lst.symm.trans hr); rw [cl_lst, n_lst]; exact eq_lst), (fun w q r hw hq hr => by obtain rfl : qw = w := Option.some.inj (f_qw.symm.trans hw); obtain rfl : qlt = q := Option.some.inj (f_qlt.symm.trans hq); obtain rfl : m_wkd = r := Option.some.inj (f_m_wkd.symm.trans hr); rw [n_qlt, n_m_wkd, f_o_wkm]; exact eb_wkd), (fun c q a hc hq ha => by obtain rfl : qc = c := Option.some.inj (f_qc.symm.trans hc); obtain rfl : qp = q := Option.some.inj (f_qp.symm.trans hq); obtain rfl : m_aga = a := Option.some.inj (f_m_aga.symm.trans ha); rw [n_aga, f_x_claimCount]; exact hw_DF_e hDF rfl rfl), (fun q r hq hr => by obtain rfl : qtp = q := Option.some.inj (f_qtp.symm.trans hq); obtain rfl : m_tp = r := Option.some.inj (f_m_tp.symm.trans hr); exact n_qtp.trans n_tp.symm), (fun q w a b c d hq hw ha hb hc hd => by obtain rfl : qa = q := Option.some.inj (f_qa.symm.trans hq); obtain rfl : qwo = w := Option.some.inj (f_qwo.symm.trans hw); obtain rfl : m_ad = a := Option.some.inj (f_m_ad.symm.trans ha); obtain rfl : mr = b := Option.some.inj (f_mr.symm.trans hb); obtain rfl : mn = c := Option.some.inj (f_mn.symm.trans hc); obtain rfl : mp = d := Option.some.inj (f_mp.symm.trans hd); exact ⟨_, by rw [f_x_actCount]; exact hRA9, by rw [f_x_actCount, n_ad, n_mr, n_mn, n_mp]; exact hCA9⟩), hx_ob2 f_qp f_m_dead (by rw [cl_dead, n_dead]; exact eq_dead), hx_ob2 f_qp f_m_isj (by rw [cl_isj, n_isj]; exact eq_isj), hx_ob2 f_qp f_m_dox (by rw [fw_181, fw_198]; exact hq_dox), hx_ob2 f_qp f_m_doy (by rw [fw_182, fw_199]; exact hq_doy), hx_ob2 f_qc f_m_fou (by rw [cl_fou, n_m_fou]; exact eq_fou), hx_ob2 f_qc f_mt (by rw [cl_tri, n_mt]; exact eq_tri), trivial⟩, ⟨hx_ob f_qa pf_qa, hx_ob f_qp pf_qp, hx_ob f_qc pf_qc, hx_ob f_qh pf_qh, (fun w q hw hq => by obtain rfl : qw = w := Option.some.inj (f_qw.symm.trans hw); obtain rfl : ql = q := Option.some.inj (f_ql.symm.trans hq); exact pf_ql)⟩, ⟨hx_ob f_mw (by rw [n_mw]; exact hwd), hx_ob f_mr (by rw [n_mr, f_m_acts]; exact hWK), hx_ob2 f_mp f_mn (by rw [n_mp, n_mn, f_m_acts]; exact hRP), hx_ob f_ml (by rw [n_ml, f_m_claims, f_m_acts]; exact hPL), hx_ob f_mh (by rw [n_mh, f_m_heardMany, f_m_claims]; exact hHC), hx_ob f_mt (by rw [n_mt]; exact (hx_TR_le hTR (by omega))), hx_ob2 f_mh f_m_fou (by rw [n_mh, n_m_fou, f_m_claims]; exact hHF)⟩⟩ hl

set_option maxHeartbeats 4000000 in
set_option maxRecDepth 100000 in
theorem law_case_7 {p : Program} {e : Env} {s : State} {m : MethodId} {below : List Frame} {meth : Method} {c : Code} (l : Launch) {b LN : Nat} {xs : Nat → Int32} (hx : p.tables.exec = Jvm.exec) (hb : c.code = code) (hr : meth.sig.returnType = ret) (hlocks : meth.locks = false) (hml : c.maxLocals = 4) (hown : s.vm.findClass "SmallCourtLaw" = some m.cls) (hts : ∀ w ∈ hx_all, w.before #[Value.ref b] s = true) (hX : va_X b LN xs s s.heap) (hbl : b < s.heap.size) (hbA : ¬ s.heap.size ≤ b) (hLN : LN ≤ 3584) (dC : Nat → ClassId) (dI : Nat → Nat → Nat) (dA : Nat → ClassId) (b0 : hx_z) (ax am : Nat) (T1 : Int) (hT0 : 0 ≤ T1) (hT1 : T1 ≤ 511) (i : Int32) (hi0 : 0 ≤ i.toInt) (hiL : i.toInt + 7 ≤ LN) (CC SS : Nat) (hCC : CC + 3 ≤ 600000) (hSS : SS + 179 ≤ 7302250) (L1 : List Nat) (hl1 : hx_h) (H : Heap) (locs : List Loc) (ls : Array Slot) (hW : hx_W T_tb (P_ty dA) (dC, dI) vwCl (fun q : Nat => s.heap.size ≤ q) s.heap L1 hl1 s H locs) (hZ : hx_Xt (fun q : Nat => s.heap.size ≤ q) b0 s) (hI : hx_IV T1 ax am L1 hl1) (hl : lv_has ls 4 [(3, .int i), (2, .ref am), (1, .ref ax), (0, .ref b)]) (kk : ∀ (L2 : List Nat) (h2 : hx_h) (H2 : Heap) (locs2 : List Loc) (ls2 : Array Slot), hx_W T_tb (P_ty dA) (dC, dI) vwCl (fun q : Nat => s.heap.size ≤ q) s.heap L2 h2 s H2 locs2 → hx_IV (T1 + 1) ax am L2 h2 → lv_has ls2 4 [(3, .int i), (2, .ref am), (1, .ref ax), (0, .ref b)] → W p l e room_1 s m #[Value.ref b] below meth c H2 locs2 (CC + 3) (SS + 179) (lw_Z below #[Value.ref b] s) (F0 m 1379 ls2 [])) : W p l e room_1 s m #[Value.ref b] below meth c H locs CC SS (lw_Z below #[Value.ref b] s) (F0 m 475 ls []) := by
  obtain ⟨hT, gx, gm, ⟨he_nw, he_np, he_c0, he_tl, he_a0, ho_ln, ho_lsd, ho_wkm, hn_qp, hn_qc, hk_of, hk_wf, hk_df, hk_kf, hk_sf, hkBD, hLQ, hLE, hkWD, hkDF, hkTP, hkAC, hc_dead, hc_isj, hc_dox, hc_doy, hc_fou, hc_tri, -⟩, ⟨ia, ip, ic, ih, il⟩, ⟨jw, jr, jp, jl, jh, jt, jf⟩⟩ := hI
  obtain ⟨qa, f_qa, g_qa⟩ := hx_rf hT gx tt_9 (k := 5) (u := 43) rfl
  have pf_qa := ia qa f_qa
  obtain ⟨qp, f_qp, g_qp⟩ := hx_rf hT gx tt_9 (k := 7) (u := 44) rfl
  have pf_qp := ip qp f_qp
  obtain ⟨qc, f_qc, g_qc⟩ := hx_rf hT gx tt_9 (k := 10) (u := 45) rfl
  have pf_qc := ic qc f_qc
  obtain ⟨qh, f_qh, g_qh⟩ := hx_rf hT gx tt_9 (k := 12) (u := 46) rfl
  have pf_qh := ih qh f_qh
  obtain ⟨qw, f_qw, g_qw⟩ := hx_rf hT gx tt_9 (k := 19) (u := 8) rfl
  obtain ⟨ql, f_ql, g_ql⟩ := hx_rf hT g_qw tt_8 (k := 3) (u := 40) rfl
  have pf_ql := il qw ql f_qw f_ql
  obtain ⟨nw, f_m_now⟩ : ∃ y : Int32, hl1.2.1 am 0 = y := ⟨_, rfl⟩
  have b_nw := hT.gi gm tt_10 (k := 0) rfl
  rw [f_m_now] at b_nw
  have b_nw : 0 ≤ nw.toInt ∧ nw.toInt ≤ 7999 := b_nw
  obtain ⟨np, f_m_persons⟩ : ∃ y : Int32, hl1.2.1 am 20 = y := ⟨_, rfl⟩
  have b_np := hT.gi gm tt_10 (k := 20) rfl
  rw [f_m_persons] at b_np
  have b_np : 0 ≤ np.toInt ∧ np.toInt ≤ 40 := b_np
  obtain ⟨c0, f_m_claims⟩ : ∃ y : Int32, hl1.2.1 am 36 = y := ⟨_, rfl⟩
  have b_c0 := hT.gi gm tt_10 (k := 36) rfl
  rw [f_m_claims] at b_c0
  have b_c0 : 0 ≤ c0.toInt ∧ c0.toInt ≤ 100 := b_c0
  obtain ⟨tl, f_m_taped⟩ : ∃ y : Int32, hl1.2.1 am 7 = y := ⟨_, rfl⟩
  have b_tl := hT.gi gm tt_10 (k := 7) rfl
  rw [f_m_taped] at b_tl
  have b_tl : 0 ≤ tl.toInt ∧ tl.toInt ≤ 400 := b_tl
  obtain ⟨a0, f_m_acts⟩ : ∃ y : Int32, hl1.2.1 am 1 = y := ⟨_, rfl⟩
  have b_a0 := hT.gi gm tt_10 (k := 1) rfl
  rw [f_m_acts] at b_a0
  have b_a0 : 0 ≤ a0.toInt ∧ a0.toInt ≤ 8 := b_a0
  obtain ⟨ln, f_m_lines⟩ : ∃ y : Int32, hl1.2.1 am 29 = y := ⟨_, rfl⟩
  have b_ln := hT.gi gm tt_10 (k := 29) rfl
  rw [f_m_lines] at b_ln
  have b_ln : 0 ≤ ln.toInt ∧ ln.toInt ≤ 400 := b_ln
  obtain ⟨lsd, f_m_listed⟩ : ∃ y : Int32, hl1.2.1 am 90 = y := ⟨_, rfl⟩
  have b_lsd := hT.gi gm tt_10 (k := 90) rfl
  rw [f_m_listed] at b_lsd
  have b_lsd : 0 ≤ lsd.toInt ∧ lsd.toInt ≤ 8 := b_lsd
  obtain ⟨wkm, f_m_walkedMany⟩ : ∃ y : Int32, hl1.2.1 am 92 = y := ⟨_, rfl⟩
  have b_wkm := hT.gi gm tt_10 (k := 92) rfl
  rw [f_m_walkedMany] at b_wkm
  have b_wkm : 0 ≤ wkm.toInt ∧ wkm.toInt ≤ 8 := b_wkm
  obtain ⟨m0, f_m_heardMany⟩ : ∃ y : Int32, hl1.2.1 am 57 = y := ⟨_, rfl⟩
  have b_m0 := hT.gi gm tt_10 (k := 57) rfl
  rw [f_m_heardMany] at b_m0
  have b_m0 : 0 ≤ m0.toInt ∧ m0.toInt ≤ 100 := b_m0
  have f_x_now : hl1.2.1 ax 2 = nw := he_nw.trans f_m_now
  have f_x_personCount : hl1.2.1 ax 8 = np := he_np.trans f_m_persons
  have f_x_claimCount : hl1.2.1 ax 11 = c0 := he_c0.trans f_m_claims
  have f_x_tapeLength : hl1.2.1 ax 1 = tl := he_tl.trans f_m_taped
  have f_x_actCount : hl1.2.1 ax 6 = a0 := he_a0.trans f_m_acts
  obtain ⟨mw, f_mw, g_mw⟩ := hx_rf hT gm tt_10 (k := 19) (u := 57) rfl
  obtain ⟨F_mw, n_mw⟩ : ∃ g : Nat → Int32, hl1.2.1 mw = g := ⟨_, rfl⟩
  obtain ⟨mr, f_mr, g_mr⟩ := hx_rf hT gm tt_10 (k := 3) (u := 50) rfl
  obtain ⟨F_mr, n_mr⟩ : ∃ g : Nat → Int32, hl1.2.1 mr = g := ⟨_, rfl⟩
  obtain ⟨mp, f_mp, g_mp⟩ := hx_rf hT gm tt_10 (k := 5) (u := 52) rfl
  obtain ⟨F_mp, n_mp⟩ : ∃ g : Nat → Int32, hl1.2.1 mp = g := ⟨_, rfl⟩
  obtain ⟨mn, f_mn, g_mn⟩ := hx_rf hT gm tt_10 (k := 4) (u := 51) rfl
  obtain ⟨F_mn, n_mn⟩ : ∃ g : Nat → Int32, hl1.2.1 mn = g := ⟨_, rfl⟩
  obtain ⟨ml, f_ml, g_ml⟩ := hx_rf hT gm tt_10 (k := 44) (u := 79) rfl
  obtain ⟨F_ml, n_ml⟩ : ∃ g : Nat → Int32, hl1.2.1 ml = g := ⟨_, rfl⟩
  obtain ⟨mh, f_mh, g_mh⟩ := hx_rf hT gm tt_10 (k := 47) (u := 82) rfl
  obtain ⟨F_mh, n_mh⟩ : ∃ g : Nat → Int32, hl1.2.1 mh = g := ⟨_, rfl⟩
  obtain ⟨mt, f_mt, g_mt⟩ := hx_rf hT gm tt_10 (k := 45) (u := 80) rfl
  obtain ⟨F_mt, n_mt⟩ : ∃ g : Nat → Int32, hl1.2.1 mt = g := ⟨_, rfl⟩
  obtain ⟨m_fou, f_m_fou, g_m_fou⟩ := hx_rf hT gm tt_10 (k := 46) (u := 81) rfl
  obtain ⟨F_m_fou, n_m_fou⟩ : ∃ g : Nat → Int32, hl1.2.1 m_fou = g := ⟨_, rfl⟩
  obtain ⟨qo_ln, f_qo_ln, g_qo_ln⟩ := hx_rf hT gx tt_9 (k := 9) (u := 1) rfl
  have f_o_ln : hl1.2.1 qo_ln 0 = ln := (ho_ln qo_ln f_qo_ln).trans f_m_lines
  have f_o_lsd : hl1.2.1 qw 0 = lsd := (ho_lsd qw f_qw).trans f_m_listed
  have f_o_wkm : hl1.2.1 qw 1 = wkm := (ho_wkm qw f_qw).trans f_m_walkedMany
  have nu_qp := hn_qp qp f_qp; rw [f_x_personCount] at nu_qp
  have nu_qc := hn_qc qc f_qc; rw [f_x_claimCount] at nu_qc
  obtain ⟨b_of, f_b_of, g_b_of⟩ := hx_rf hT g_qo_ln tt_1 (k := 1) (u := 13) rfl
  obtain ⟨B_of, n_b_of⟩ : ∃ g : Nat → Int32, hl1.2.1 b_of = g := ⟨_, rfl⟩
  obtain ⟨m_of, f_m_of, g_m_of⟩ := hx_rf hT gm tt_10 (k := 30) (u := 66) rfl
  obtain ⟨F_of, n_m_of⟩ : ∃ g : Nat → Int32, hl1.2.1 m_of = g := ⟨_, rfl⟩
  have eb_of := hk_of qo_ln b_of m_of f_qo_ln f_b_of f_m_of; rw [n_b_of, n_m_of, f_o_ln] at eb_of
  obtain ⟨b_wf, f_b_wf, g_b_wf⟩ := hx_rf hT g_qo_ln tt_1 (k := 2) (u := 14) rfl
  obtain ⟨B_wf, n_b_wf⟩ : ∃ g : Nat → Int32, hl1.2.1 b_wf = g := ⟨_, rfl⟩
  obtain ⟨m_wf, f_m_wf, g_m_wf⟩ := hx_rf hT gm tt_10 (k := 31) (u := 67) rfl
  obtain ⟨F_wf, n_m_wf⟩ : ∃ g : Nat → Int32, hl1.2.1 m_wf = g := ⟨_, rfl⟩
  have eb_wf := hk_wf qo_ln b_wf m_wf f_qo_ln f_b_wf f_m_wf; rw [n_b_wf, n_m_wf, f_o_ln] at eb_wf
  obtain ⟨b_df, f_b_df, g_b_df⟩ := hx_rf hT g_qo_ln tt_1 (k := 3) (u := 15) rfl
  obtain ⟨B_df, n_b_df⟩ : ∃ g : Nat → Int32, hl1.2.1 b_df = g := ⟨_, rfl⟩
  obtain ⟨m_df, f_m_df, g_m_df⟩ := hx_rf hT gm tt_10 (k := 32) (u := 68) rfl
  obtain ⟨F_df, n_m_df⟩ : ∃ g : Nat → Int32, hl1.2.1 m_df = g := ⟨_, rfl⟩
  have eb_df := hk_df qo_ln b_df m_df f_qo_ln f_b_df f_m_df; rw [n_b_df, n_m_df, f_o_ln] at eb_df
  obtain ⟨b_kf, f_b_kf, g_b_kf⟩ := hx_rf hT g_qo_ln tt_1 (k := 4) (u := 16) rfl
  obtain ⟨B_kf, n_b_kf⟩ : ∃ g : Nat → Int32, hl1.2.1 b_kf = g := ⟨_, rfl⟩
  obtain ⟨m_kf, f_m_kf, g_m_kf⟩ := hx_rf hT gm tt_10 (k := 33) (u := 69) rfl
  obtain ⟨F_kf, n_m_kf⟩ : ∃ g : Nat → Int32, hl1.2.1 m_kf = g := ⟨_, rfl⟩
  have eb_kf := hk_kf qo_ln b_kf m_kf f_qo_ln f_b_kf f_m_kf; rw [n_b_kf, n_m_kf, f_o_ln] at eb_kf
  obtain ⟨b_sf, f_b_sf, g_b_sf⟩ := hx_rf hT g_qo_ln tt_1 (k := 5) (u := 17) rfl
  obtain ⟨B_sf, n_b_sf⟩ : ∃ g : Nat → Int32, hl1.2.1 b_sf = g := ⟨_, rfl⟩
  obtain ⟨m_sf, f_m_sf, g_m_sf⟩ := hx_rf hT gm tt_10 (k := 34) (u := 70) rfl
  obtain ⟨F_sf, n_m_sf⟩ : ∃ g : Nat → Int32, hl1.2.1 m_sf = g := ⟨_, rfl⟩
  have eb_sf := hk_sf qo_ln b_sf m_sf f_qo_ln f_b_sf f_m_sf; rw [n_b_sf, n_m_sf, f_o_ln] at eb_sf
  obtain ⟨b_bf, f_b_bf, g_b_bf⟩ := hx_rf hT g_qo_ln tt_1 (k := 6) (u := 18) rfl
  obtain ⟨bfL, n_b_bf⟩ : ∃ g : Nat → Int32, hl1.2.1 b_bf = g := ⟨_, rfl⟩
  obtain ⟨hBD, hDY⟩ := hkBD qo_ln b_df b_bf f_qo_ln f_b_df f_b_bf; rw [n_b_df, n_b_bf, f_o_ln] at hBD; rw [n_b_df, f_o_ln] at hDY
  have hBDm := hy_BD_c eb_df hBD
  have hDYm : hy_DY F_df ln.toInt.toNat := fun x hx => by rw [← eb_df x hx]; exact hDY x hx
  have sb_list := hLQ qw ql qc f_qw f_ql f_qc
  obtain ⟨m_lst, f_m_lst, g_m_lst⟩ := hx_rf hT gm tt_10 (k := 91) (u := 112) rfl
  obtain ⟨F_lst, n_lst⟩ : ∃ g : Nat → Int32, hl1.2.1 m_lst = g := ⟨_, rfl⟩
  obtain ⟨c_lst, cl_lst⟩ : ∃ g : Nat → Int32, hx_col 8 hl1 ql 0 = g := ⟨_, rfl⟩
  have eq_lst := hLE qw ql m_lst f_qw f_ql f_m_lst; rw [cl_lst, n_lst] at eq_lst
  obtain ⟨qtp, f_qtp, g_qtp⟩ := hx_rf hT gx tt_9 (k := 0) (u := 42) rfl
  obtain ⟨m_tp, f_m_tp, g_m_tp⟩ := hx_rf hT gm tt_10 (k := 6) (u := 53) rfl
  obtain ⟨F_tp, n_tp⟩ : ∃ g : Nat → Int32, hl1.2.1 m_tp = g := ⟨_, rfl⟩
  have n_qtp : hl1.2.1 qtp = F_tp := (hkTP qtp m_tp f_qtp f_m_tp).trans n_tp
  obtain ⟨c_dead, cl_dead⟩ : ∃ g : Nat → Int32, hx_col 40 hl1 qp 7 = g := ⟨_, rfl⟩
  obtain ⟨m_dead, f_m_dead, g_m_dead⟩ := hx_rf hT gm tt_10 (k := 27) (u := 64) rfl
  obtain ⟨F_dead, n_dead⟩ : ∃ g : Nat → Int32, hl1.2.1 m_dead = g := ⟨_, rfl⟩
  have eq_dead := hc_dead qp m_dead f_qp f_m_dead; rw [cl_dead, n_dead] at eq_dead
  have z_dead : np.toInt.toNat < 40 → c_dead np.toInt.toNat = 0 := fun hj => hx_num_z nu_qp cl_dead hj (by omega)
  obtain ⟨c_isj, cl_isj⟩ : ∃ g : Nat → Int32, hx_col 40 hl1 qp 8 = g := ⟨_, rfl⟩
  obtain ⟨m_isj, f_m_isj, g_m_isj⟩ := hx_rf hT gm tt_10 (k := 28) (u := 65) rfl
  obtain ⟨F_isj, n_isj⟩ : ∃ g : Nat → Int32, hl1.2.1 m_isj = g := ⟨_, rfl⟩
  have eq_isj := hc_isj qp m_isj f_qp f_m_isj; rw [cl_isj, n_isj] at eq_isj
  have z_isj : np.toInt.toNat < 40 → c_isj np.toInt.toNat = 0 := fun hj => hx_num_z nu_qp cl_isj hj (by omega)
  obtain ⟨c_dox, cl_dox⟩ : ∃ g : Nat → Int32, hx_col 40 hl1 qp 5 = g := ⟨_, rfl⟩
  obtain ⟨m_dox, f_m_dox, g_m_dox⟩ := hx_rf hT gm tt_10 (k := 24) (u := 61) rfl
  obtain ⟨F_dox, n_dox⟩ : ∃ g : Nat → Int32, hl1.2.1 m_dox = g := ⟨_, rfl⟩
  have eq_dox := hc_dox qp m_dox f_qp f_m_dox; rw [cl_dox, n_dox] at eq_dox
  have z_dox : np.toInt.toNat < 40 → c_dox np.toInt.toNat = 0 := fun hj => hx_num_z nu_qp cl_dox hj (by omega)
  obtain ⟨c_doy, cl_doy⟩ : ∃ g : Nat → Int32, hx_col 40 hl1 qp 6 = g := ⟨_, rfl⟩
  obtain ⟨m_doy, f_m_doy, g_m_doy⟩ := hx_rf hT gm tt_10 (k := 25) (u := 62) rfl
  obtain ⟨F_doy, n_doy⟩ : ∃ g : Nat → Int32, hl1.2.1 m_doy = g := ⟨_, rfl⟩
  have eq_doy := hc_doy qp m_doy f_qp f_m_doy; rw [cl_doy, n_doy] at eq_doy
  have z_doy : np.toInt.toNat < 40 → c_doy np.toInt.toNat = 0 := fun hj => hx_num_z nu_qp cl_doy hj (by omega)
  obtain ⟨c_fou, cl_fou⟩ : ∃ g : Nat → Int32, hx_col 100 hl1 qc 10 = g := ⟨_, rfl⟩
  have eq_fou := hc_fou qc m_fou f_qc f_m_fou; rw [cl_fou, n_m_fou] at eq_fou
  have z_fou : c0.toInt.toNat < 100 → c_fou c0.toInt.toNat = 0 := fun hj => hx_num_z nu_qc cl_fou hj (by omega)
  obtain ⟨c_tri, cl_tri⟩ : ∃ g : Nat → Int32, hx_col 100 hl1 qc 9 = g := ⟨_, rfl⟩
  have eq_tri := hc_tri qc mt f_qc f_mt; rw [cl_tri, n_mt] at eq_tri
  have z_tri : c0.toInt.toNat < 100 → c_tri c0.toInt.toNat = 0 := fun hj => hx_num_z nu_qc cl_tri hj (by omega)
  obtain ⟨qlt, f_qlt, g_qlt⟩ := hx_rf hT g_qw tt_8 (k := 2) (u := 39) rfl
  obtain ⟨qlf, f_qlf, g_qlf⟩ := hx_rf hT g_qw tt_8 (k := 4) (u := 41) rfl
  obtain ⟨m_wkd, f_m_wkd, g_m_wkd⟩ := hx_rf hT gm tt_10 (k := 93) (u := 113) rfl
  obtain ⟨F_qlt, n_qlt⟩ : ∃ g : Nat → Int32, hl1.2.1 qlt = g := ⟨_, rfl⟩
  obtain ⟨F_m_wkd, n_m_wkd⟩ : ∃ g : Nat → Int32, hl1.2.1 m_wkd = g := ⟨_, rfl⟩
  have eb_wkd := hkWD qw qlt m_wkd f_qw f_qlt f_m_wkd; rw [n_qlt, n_m_wkd, f_o_wkm] at eb_wkd
  obtain ⟨m_aga, f_m_aga, g_m_aga⟩ := hx_rf hT gm tt_10 (k := 38) (u := 73) rfl
  obtain ⟨F_aga, n_aga⟩ : ∃ g : Nat → Int32, hl1.2.1 m_aga = g := ⟨_, rfl⟩
  have hDF := hkDF qc qp m_aga f_qc f_qp f_m_aga; rw [n_aga, f_x_claimCount] at hDF
  obtain ⟨qwo, f_qwo, g_qwo⟩ := hx_rf hT gx tt_9 (k := 4) (u := 0) rfl
  obtain ⟨m_ad, f_m_ad, g_m_ad⟩ := hx_rf hT gm tt_10 (k := 2) (u := 49) rfl
  obtain ⟨F_ad, n_ad⟩ : ∃ g : Nat → Int32, hl1.2.1 m_ad = g := ⟨_, rfl⟩
  obtain ⟨A9, hRA9, hCA9⟩ := hkAC qa qwo m_ad mr mn mp f_qa f_qwo f_m_ad f_mr f_mn f_mp
  rw [f_x_actCount] at hRA9; rw [f_x_actCount, n_ad, n_mr, n_mn, n_mp] at hCA9
  have hwd := jw mw f_mw; rw [n_mw] at hwd
  have hWK := jr mr f_mr; rw [n_mr, f_m_acts] at hWK
  have hRP := jp mp mn f_mp f_mn; rw [n_mp, n_mn, f_m_acts] at hRP
  have hPL := jl ml f_ml; rw [n_ml, f_m_claims, f_m_acts] at hPL
  have hHC := jh mh f_mh; rw [n_mh, f_m_heardMany, f_m_claims] at hHC
  have hTR := jt mt f_mt; rw [n_mt] at hTR
  have hHF := jf mh m_fou f_mh f_m_fou; rw [n_mh, n_m_fou, f_m_claims] at hHF
  refine lv_aload_n hx hb dL_law_475 rfl (lv_at hl 2 rfl) ?_
  refine lv_aload_n hx hb dL_law_476 rfl (lv_at hl 3 rfl) ?_
  refine lv_iload_n hx hb dL_law_477 rfl (lv_at hl 0 rfl) ?_
  refine lv_iconst (v := 1) hx hb dL_law_478 (by decide) ?_
  refine lv_iadd hx hb dL_law_479 ?_
  have rg_200 := i32_r i
  refine lv_topi (fun x_201 ex_201 => ?_)
  have zx_201 : x_201.toInt = i.toInt + 1 := by rw [ex_201]; exact i32_add rfl (by decide) (by omega) (by omega)
  refine va_sld hx hb hX hbl hbA hW.2.2.2.1 (vp_in_iff.mpr ⟨by omega, by omega⟩) dL_law_480 ?_
  refine lv_topi (fun x_202 ex_202 => ?_)
  have hTo := hT
  refine hx_goi (hx_runV (As := [.int x_202]) (rest := []) ⟨hx, hb, hml, hown, hts⟩ hW gx tt_9 (T := TX9) (N := 20) rfl (t_X9_dies_2 l dC dI dA L1 hl1 H.size ax x_202 hT gx np f_x_personCount qp g_qp f_qp pf_qp c_dead cl_dead nu_qp) (cwV 1 hts (hx_gV kw_663 kw_660 kw_661 kw_662 kw_94) rfl rfl rfl (by decide +kernel) ⟨Nat.le_of_ble_eq_true rfl, Nat.le_of_ble_eq_true rfl⟩) rfl hl.1 rfl (Nat.le_of_ble_eq_true rfl) dL_law_481 ⟨(show CC + 0 ≤ 600000 from by omega), (show SS + 0 ≤ 7302250 from by omega)⟩) hW (fun r_205 L_203 h_204 H locs p_206 hW => ?_)
  obtain ⟨⟨w_208, fw_208, hr_207⟩, hT, hs⟩ := p_206
  replace hT : hx_T T_tb L_203 h_204 := hT
  replace hs : hx_S T_tb [(4, 7)] L1 hl1 L_203 h_204 := hs
  replace f_qa := (hs.o gx trivial rfl).2.trans f_qa
  replace f_qp := (hs.o gx trivial rfl).2.trans f_qp
  replace f_qc := (hs.o gx trivial rfl).2.trans f_qc
  replace f_qh := (hs.o gx trivial rfl).2.trans f_qh
  replace f_qw := (hs.o gx trivial rfl).2.trans f_qw
  replace f_ql := (hs.o g_qw trivial rfl).2.trans f_ql
  replace f_m_now := (hs.o gm trivial rfl).1.trans f_m_now
  replace f_m_persons := (hs.o gm trivial rfl).1.trans f_m_persons
  replace f_m_claims := (hs.o gm trivial rfl).1.trans f_m_claims
  replace f_m_taped := (hs.o gm trivial rfl).1.trans f_m_taped
  replace f_m_acts := (hs.o gm trivial rfl).1.trans f_m_acts
  replace f_m_lines := (hs.o gm trivial rfl).1.trans f_m_lines
  replace f_m_listed := (hs.o gm trivial rfl).1.trans f_m_listed
  replace f_m_walkedMany := (hs.o gm trivial rfl).1.trans f_m_walkedMany
  replace f_m_heardMany := (hs.o gm trivial rfl).1.trans f_m_heardMany
  replace f_x_now := (hs.o gx trivial rfl).1.trans f_x_now
  replace f_x_personCount := (hs.o gx trivial rfl).1.trans f_x_personCount
  replace f_x_claimCount := (hs.o gx trivial rfl).1.trans f_x_claimCount
  replace f_x_tapeLength := (hs.o gx trivial rfl).1.trans f_x_tapeLength
  replace f_x_actCount := (hs.o gx trivial rfl).1.trans f_x_actCount
  replace f_mw := (hs.o gm trivial rfl).2.trans f_mw
  replace f_mr := (hs.o gm trivial rfl).2.trans f_mr
  replace f_mp := (hs.o gm trivial rfl).2.trans f_mp
  replace f_mn := (hs.o gm trivial rfl).2.trans f_mn
  replace f_ml := (hs.o gm trivial rfl).2.trans f_ml
  replace f_mh := (hs.o gm trivial rfl).2.trans f_mh
  replace f_mt := (hs.o gm trivial rfl).2.trans f_mt
  replace f_m_fou := (hs.o gm trivial rfl).2.trans f_m_fou
  replace f_qo_ln := (hs.o gx trivial rfl).2.trans f_qo_ln
  replace f_o_ln := (hs.o g_qo_ln trivial rfl).1.trans f_o_ln
  replace f_o_lsd := (hs.o g_qw trivial rfl).1.trans f_o_lsd
  replace f_o_wkm := (hs.o g_qw trivial rfl).1.trans f_o_wkm
  replace f_b_of := (hs.o g_qo_ln trivial rfl).2.trans f_b_of
  replace f_m_of := (hs.o gm trivial rfl).2.trans f_m_of
  replace f_b_wf := (hs.o g_qo_ln trivial rfl).2.trans f_b_wf
  replace f_m_wf := (hs.o gm trivial rfl).2.trans f_m_wf
  replace f_b_df := (hs.o g_qo_ln trivial rfl).2.trans f_b_df
  replace f_m_df := (hs.o gm trivial rfl).2.trans f_m_df
  replace f_b_kf := (hs.o g_qo_ln trivial rfl).2.trans f_b_kf
  replace f_m_kf := (hs.o gm trivial rfl).2.trans f_m_kf
  replace f_b_sf := (hs.o g_qo_ln trivial rfl).2.trans f_b_sf
  replace f_m_sf := (hs.o gm trivial rfl).2.trans f_m_sf
  replace f_b_bf := (hs.o g_qo_ln trivial rfl).2.trans f_b_bf
  replace f_m_lst := (hs.o gm trivial rfl).2.trans f_m_lst
  replace f_qtp := (hs.o gx trivial rfl).2.trans f_qtp
  replace f_m_tp := (hs.o gm trivial rfl).2.trans f_m_tp
  replace f_m_dead := (hs.o gm trivial rfl).2.trans f_m_dead
  replace f_m_isj := (hs.o gm trivial rfl).2.trans f_m_isj
  replace f_m_dox := (hs.o gm trivial rfl).2.trans f_m_dox
  replace f_m_doy := (hs.o gm trivial rfl).2.trans f_m_doy
  replace f_qlt := (hs.o g_qw trivial rfl).2.trans f_qlt
  replace f_qlf := (hs.o g_qw trivial rfl).2.trans f_qlf
  replace f_m_wkd := (hs.o gm trivial rfl).2.trans f_m_wkd
  replace f_m_aga := (hs.o gm trivial rfl).2.trans f_m_aga
  replace f_qwo := (hs.o gx trivial rfl).2.trans f_qwo
  replace f_m_ad := (hs.o gm trivial rfl).2.trans f_m_ad
  replace pf_qa : ∀ j : Nat, (j : Int) < (h_204.2.1 ax 6).toInt → h_204.2.2 qa j ≠ none := by
    intro j hj; rw [(hs.o gx trivial rfl).1] at hj; rw [(hs.a g_qa rfl j).2]; exact pf_qa j hj
  replace pf_qp : ∀ j : Nat, (j : Int) < (h_204.2.1 ax 8).toInt → h_204.2.2 qp j ≠ none := by
    intro j hj; rw [(hs.o gx trivial rfl).1] at hj; rw [(hs.a g_qp rfl j).2]; exact pf_qp j hj
  replace pf_qc : ∀ j : Nat, (j : Int) < (h_204.2.1 ax 11).toInt → h_204.2.2 qc j ≠ none := by
    intro j hj; rw [(hs.o gx trivial rfl).1] at hj; rw [(hs.a g_qc rfl j).2]; exact pf_qc j hj
  replace pf_qh : ∀ j : Nat, (j : Int) < (h_204.2.1 ax 13).toInt → h_204.2.2 qh j ≠ none := by
    intro j hj; rw [(hs.o gx trivial rfl).1] at hj; rw [(hs.a g_qh rfl j).2]; exact pf_qh j hj
  replace pf_ql : ∀ j : Nat, (j : Int) < (h_204.2.1 qw 0).toInt → h_204.2.2 ql j ≠ none := by
    intro j hj; rw [(hs.o g_qw trivial rfl).1] at hj; rw [(hs.a g_ql rfl j).2]; exact pf_ql j hj
  replace cl_lst : hx_col 8 h_204 ql 0 = c_lst := (hx_col_S hs hTo g_ql tt_40 tt_2 rfl rfl).trans cl_lst
  replace cl_isj : hx_col 40 h_204 qp 8 = c_isj := (hx_col_S hs hTo g_qp tt_44 tt_4 rfl rfl).trans cl_isj
  replace cl_dox : hx_col 40 h_204 qp 5 = c_dox := (hx_col_S hs hTo g_qp tt_44 tt_4 rfl rfl).trans cl_dox
  replace cl_doy : hx_col 40 h_204 qp 6 = c_doy := (hx_col_S hs hTo g_qp tt_44 tt_4 rfl rfl).trans cl_doy
  replace cl_fou : hx_col 100 h_204 qc 10 = c_fou := (hx_col_S hs hTo g_qc tt_45 tt_2 rfl rfl).trans cl_fou
  replace cl_tri : hx_col 100 h_204 qc 9 = c_tri := (hx_col_S hs hTo g_qc tt_45 tt_2 rfl rfl).trans cl_tri
  replace nu_qp : hx_num 40 h_204 qp 0 (np.toInt) := hx_num_S hs hTo g_qp tt_44 tt_4 rfl rfl nu_qp
  replace nu_qc : hx_num 100 h_204 qc 0 (c0.toInt) := hx_num_S hs hTo g_qc tt_45 tt_2 rfl rfl nu_qc
  replace sb_list : hx_LQ 8 100 h_204 ql qc := hx_LQ_S hs g_ql g_qc rfl rfl sb_list
  replace hDF : hw_DF h_204 qc qp 2 F_aga c0.toInt := hw_DF_S hs hTo g_qc g_qp tt_45 tt_2 rfl rfl rfl hDF
  replace hRA9 : hv_RA h_204 qa qwo a0.toInt A9 := hv_RA_S hs hTo g_qa g_qwo tt_43 tt_0 rfl rfl rfl rfl rfl rfl (by omega) hRA9
  replace n_mw : h_204.2.1 mw = F_mw := (funext fun j => (hs.a g_mw rfl j).1).trans n_mw
  replace n_mr : h_204.2.1 mr = F_mr := (funext fun j => (hs.a g_mr rfl j).1).trans n_mr
  replace n_mp : h_204.2.1 mp = F_mp := (funext fun j => (hs.a g_mp rfl j).1).trans n_mp
  replace n_mn : h_204.2.1 mn = F_mn := (funext fun j => (hs.a g_mn rfl j).1).trans n_mn
  replace n_ml : h_204.2.1 ml = F_ml := (funext fun j => (hs.a g_ml rfl j).1).trans n_ml
  replace n_mh : h_204.2.1 mh = F_mh := (funext fun j => (hs.a g_mh rfl j).1).trans n_mh
  replace n_mt : h_204.2.1 mt = F_mt := (funext fun j => (hs.a g_mt rfl j).1).trans n_mt
  replace n_m_fou : h_204.2.1 m_fou = F_m_fou := (funext fun j => (hs.a g_m_fou rfl j).1).trans n_m_fou
  replace n_b_of : h_204.2.1 b_of = B_of := (funext fun j => (hs.a g_b_of rfl j).1).trans n_b_of
  replace n_m_of : h_204.2.1 m_of = F_of := (funext fun j => (hs.a g_m_of rfl j).1).trans n_m_of
  replace n_b_wf : h_204.2.1 b_wf = B_wf := (funext fun j => (hs.a g_b_wf rfl j).1).trans n_b_wf
  replace n_m_wf : h_204.2.1 m_wf = F_wf := (funext fun j => (hs.a g_m_wf rfl j).1).trans n_m_wf
  replace n_b_df : h_204.2.1 b_df = B_df := (funext fun j => (hs.a g_b_df rfl j).1).trans n_b_df
  replace n_m_df : h_204.2.1 m_df = F_df := (funext fun j => (hs.a g_m_df rfl j).1).trans n_m_df
  replace n_b_kf : h_204.2.1 b_kf = B_kf := (funext fun j => (hs.a g_b_kf rfl j).1).trans n_b_kf
  replace n_m_kf : h_204.2.1 m_kf = F_kf := (funext fun j => (hs.a g_m_kf rfl j).1).trans n_m_kf
  replace n_b_sf : h_204.2.1 b_sf = B_sf := (funext fun j => (hs.a g_b_sf rfl j).1).trans n_b_sf
  replace n_m_sf : h_204.2.1 m_sf = F_sf := (funext fun j => (hs.a g_m_sf rfl j).1).trans n_m_sf
  replace n_b_bf : h_204.2.1 b_bf = bfL := (funext fun j => (hs.a g_b_bf rfl j).1).trans n_b_bf
  replace n_lst : h_204.2.1 m_lst = F_lst := (funext fun j => (hs.a g_m_lst rfl j).1).trans n_lst
  replace n_tp : h_204.2.1 m_tp = F_tp := (funext fun j => (hs.a g_m_tp rfl j).1).trans n_tp
  replace n_qtp : h_204.2.1 qtp = F_tp := (funext fun j => (hs.a g_qtp rfl j).1).trans n_qtp
  replace n_dead : h_204.2.1 m_dead = F_dead := (funext fun j => (hs.a g_m_dead rfl j).1).trans n_dead
  replace n_isj : h_204.2.1 m_isj = F_isj := (funext fun j => (hs.a g_m_isj rfl j).1).trans n_isj
  replace n_dox : h_204.2.1 m_dox = F_dox := (funext fun j => (hs.a g_m_dox rfl j).1).trans n_dox
  replace n_doy : h_204.2.1 m_doy = F_doy := (funext fun j => (hs.a g_m_doy rfl j).1).trans n_doy
  replace n_qlt : h_204.2.1 qlt = F_qlt := (funext fun j => (hs.a g_qlt rfl j).1).trans n_qlt
  replace n_m_wkd : h_204.2.1 m_wkd = F_m_wkd := (funext fun j => (hs.a g_m_wkd rfl j).1).trans n_m_wkd
  replace n_aga : h_204.2.1 m_aga = F_aga := (funext fun j => (hs.a g_m_aga rfl j).1).trans n_aga
  replace n_ad : h_204.2.1 m_ad = F_ad := (funext fun j => (hs.a g_m_ad rfl j).1).trans n_ad
  replace gx := gx.S hs
  replace gm := gm.S hs
  replace g_qa := g_qa.S hs
  replace g_qp := g_qp.S hs
  replace g_qc := g_qc.S hs
  replace g_qh := g_qh.S hs
  replace g_qw := g_qw.S hs
  replace g_ql := g_ql.S hs
  replace g_mw := g_mw.S hs
  replace g_mr := g_mr.S hs
  replace g_mp := g_mp.S hs
  replace g_mn := g_mn.S hs
  replace g_ml := g_ml.S hs
  replace g_mh := g_mh.S hs
  replace g_mt := g_mt.S hs
  replace g_m_fou := g_m_fou.S hs
  replace g_qo_ln := g_qo_ln.S hs
  replace g_b_of := g_b_of.S hs
  replace g_m_of := g_m_of.S hs
  replace g_b_wf := g_b_wf.S hs
  replace g_m_wf := g_m_wf.S hs
  replace g_b_df := g_b_df.S hs
  replace g_m_df := g_m_df.S hs
  replace g_b_kf := g_b_kf.S hs
  replace g_m_kf := g_m_kf.S hs
  replace g_b_sf := g_b_sf.S hs
  replace g_m_sf := g_m_sf.S hs
  replace g_b_bf := g_b_bf.S hs
  replace g_m_lst := g_m_lst.S hs
  replace g_qtp := g_qtp.S hs
  replace g_m_tp := g_m_tp.S hs
  replace g_m_dead := g_m_dead.S hs
  replace g_m_isj := g_m_isj.S hs
  replace g_m_dox := g_m_dox.S hs
  replace g_m_doy := g_m_doy.S hs
  replace g_qlt := g_qlt.S hs
  replace g_qlf := g_qlf.S hs
  replace g_m_wkd := g_m_wkd.S hs
  replace g_m_aga := g_m_aga.S hs
  replace g_qwo := g_qwo.S hs
  replace g_m_ad := g_m_ad.S hs
  have fw_208 : hx_col 40 h_204 qp 7 = w_208 := fw_208
  refine lv_pop hx hb dL_law_484 rfl ?_
  refine lv_aload_n hx hb dL_law_485 rfl (lv_at hl 1 rfl) ?_
  refine lv_aload_n hx hb dL_law_486 rfl (lv_at hl 3 rfl) ?_
  refine lv_iload_n hx hb dL_law_487 rfl (lv_at hl 0 rfl) ?_
  refine lv_iconst (v := 1) hx hb dL_law_488 (by decide) ?_
  refine lv_iadd hx hb dL_law_489 ?_
  refine lv_topi (fun x_209 ex_209 => ?_)
  have zx_209 : x_209.toInt = i.toInt + 1 := by rw [ex_209]; exact i32_add rfl (by decide) (by omega) (by omega)
  obtain rfl : x_201 = x_209 := ex_201.trans ex_209.symm
  refine va_sld hx hb hX hbl hbA hW.2.2.2.1 (vp_in_iff.mpr ⟨by omega, by omega⟩) dL_law_490 ?_
  refine lv_topi (fun x_210 ex_210 => ?_)
  obtain rfl : x_202 = x_210 := ex_202.trans ex_210.symm
  have hTo := hT
  refine hx_goi (hx_runV (As := [.int x_202]) (rest := []) ⟨hx, hb, hml, hown, hts⟩ hW gm tt_10 (T := TX10) (N := 98) rfl (t_X10_dies_2 l dC dI dA L_203 h_204 H.size am x_202 hT gm m_dead g_m_dead f_m_dead F_dead n_dead np f_m_persons) (cwV 1 hts (hx_gV kw_1556 kw_1553 kw_1554 kw_1555 kw_103) rfl rfl rfl (by decide +kernel) ⟨Nat.le_of_ble_eq_true rfl, Nat.le_of_ble_eq_true rfl⟩) rfl hl.1 rfl (Nat.le_of_ble_eq_true rfl) dL_law_491 ⟨(show CC + 0 + 0 ≤ 600000 from by omega), (show SS + 0 + 0 ≤ 7302250 from by omega)⟩) hW (fun r_213 L_211 h_212 H locs p_214 hW => ?_)
  obtain ⟨⟨w_216, fw_216, hr_215⟩, hT, hs⟩ := p_214
  replace hT : hx_T T_tb L_211 h_212 := hT
  replace hs : hx_S T_tb [(64, 0)] L_203 h_204 L_211 h_212 := hs
  replace f_qa := (hs.o gx trivial rfl).2.trans f_qa
  replace f_qp := (hs.o gx trivial rfl).2.trans f_qp
  replace f_qc := (hs.o gx trivial rfl).2.trans f_qc
  replace f_qh := (hs.o gx trivial rfl).2.trans f_qh
  replace f_qw := (hs.o gx trivial rfl).2.trans f_qw
  replace f_ql := (hs.o g_qw trivial rfl).2.trans f_ql
  replace f_m_now := (hs.o gm trivial rfl).1.trans f_m_now
  replace f_m_persons := (hs.o gm trivial rfl).1.trans f_m_persons
  replace f_m_claims := (hs.o gm trivial rfl).1.trans f_m_claims
  replace f_m_taped := (hs.o gm trivial rfl).1.trans f_m_taped
  replace f_m_acts := (hs.o gm trivial rfl).1.trans f_m_acts
  replace f_m_lines := (hs.o gm trivial rfl).1.trans f_m_lines
  replace f_m_listed := (hs.o gm trivial rfl).1.trans f_m_listed
  replace f_m_walkedMany := (hs.o gm trivial rfl).1.trans f_m_walkedMany
  replace f_m_heardMany := (hs.o gm trivial rfl).1.trans f_m_heardMany
  replace f_x_now := (hs.o gx trivial rfl).1.trans f_x_now
  replace f_x_personCount := (hs.o gx trivial rfl).1.trans f_x_personCount
  replace f_x_claimCount := (hs.o gx trivial rfl).1.trans f_x_claimCount
  replace f_x_tapeLength := (hs.o gx trivial rfl).1.trans f_x_tapeLength
  replace f_x_actCount := (hs.o gx trivial rfl).1.trans f_x_actCount
  replace f_mw := (hs.o gm trivial rfl).2.trans f_mw
  replace f_mr := (hs.o gm trivial rfl).2.trans f_mr
  replace f_mp := (hs.o gm trivial rfl).2.trans f_mp
  replace f_mn := (hs.o gm trivial rfl).2.trans f_mn
  replace f_ml := (hs.o gm trivial rfl).2.trans f_ml
  replace f_mh := (hs.o gm trivial rfl).2.trans f_mh
  replace f_mt := (hs.o gm trivial rfl).2.trans f_mt
  replace f_m_fou := (hs.o gm trivial rfl).2.trans f_m_fou
  replace f_qo_ln := (hs.o gx trivial rfl).2.trans f_qo_ln
  replace f_o_ln := (hs.o g_qo_ln trivial rfl).1.trans f_o_ln
  replace f_o_lsd := (hs.o g_qw trivial rfl).1.trans f_o_lsd
  replace f_o_wkm := (hs.o g_qw trivial rfl).1.trans f_o_wkm
  replace f_b_of := (hs.o g_qo_ln trivial rfl).2.trans f_b_of
  replace f_m_of := (hs.o gm trivial rfl).2.trans f_m_of
  replace f_b_wf := (hs.o g_qo_ln trivial rfl).2.trans f_b_wf
  replace f_m_wf := (hs.o gm trivial rfl).2.trans f_m_wf
  replace f_b_df := (hs.o g_qo_ln trivial rfl).2.trans f_b_df
  replace f_m_df := (hs.o gm trivial rfl).2.trans f_m_df
  replace f_b_kf := (hs.o g_qo_ln trivial rfl).2.trans f_b_kf
  replace f_m_kf := (hs.o gm trivial rfl).2.trans f_m_kf
  replace f_b_sf := (hs.o g_qo_ln trivial rfl).2.trans f_b_sf
  replace f_m_sf := (hs.o gm trivial rfl).2.trans f_m_sf
  replace f_b_bf := (hs.o g_qo_ln trivial rfl).2.trans f_b_bf
  replace f_m_lst := (hs.o gm trivial rfl).2.trans f_m_lst
  replace f_qtp := (hs.o gx trivial rfl).2.trans f_qtp
  replace f_m_tp := (hs.o gm trivial rfl).2.trans f_m_tp
  replace f_m_dead := (hs.o gm trivial rfl).2.trans f_m_dead
  replace f_m_isj := (hs.o gm trivial rfl).2.trans f_m_isj
  replace f_m_dox := (hs.o gm trivial rfl).2.trans f_m_dox
  replace f_m_doy := (hs.o gm trivial rfl).2.trans f_m_doy
  replace f_qlt := (hs.o g_qw trivial rfl).2.trans f_qlt
  replace f_qlf := (hs.o g_qw trivial rfl).2.trans f_qlf
  replace f_m_wkd := (hs.o gm trivial rfl).2.trans f_m_wkd
  replace f_m_aga := (hs.o gm trivial rfl).2.trans f_m_aga
  replace f_qwo := (hs.o gx trivial rfl).2.trans f_qwo
  replace f_m_ad := (hs.o gm trivial rfl).2.trans f_m_ad
  replace pf_qa : ∀ j : Nat, (j : Int) < (h_212.2.1 ax 6).toInt → h_212.2.2 qa j ≠ none := by
    intro j hj; rw [(hs.o gx trivial rfl).1] at hj; rw [(hs.a g_qa rfl j).2]; exact pf_qa j hj
  replace pf_qp : ∀ j : Nat, (j : Int) < (h_212.2.1 ax 8).toInt → h_212.2.2 qp j ≠ none := by
    intro j hj; rw [(hs.o gx trivial rfl).1] at hj; rw [(hs.a g_qp rfl j).2]; exact pf_qp j hj
  replace pf_qc : ∀ j : Nat, (j : Int) < (h_212.2.1 ax 11).toInt → h_212.2.2 qc j ≠ none := by
    intro j hj; rw [(hs.o gx trivial rfl).1] at hj; rw [(hs.a g_qc rfl j).2]; exact pf_qc j hj
  replace pf_qh : ∀ j : Nat, (j : Int) < (h_212.2.1 ax 13).toInt → h_212.2.2 qh j ≠ none := by
    intro j hj; rw [(hs.o gx trivial rfl).1] at hj; rw [(hs.a g_qh rfl j).2]; exact pf_qh j hj
  replace pf_ql : ∀ j : Nat, (j : Int) < (h_212.2.1 qw 0).toInt → h_212.2.2 ql j ≠ none := by
    intro j hj; rw [(hs.o g_qw trivial rfl).1] at hj; rw [(hs.a g_ql rfl j).2]; exact pf_ql j hj
  replace cl_lst : hx_col 8 h_212 ql 0 = c_lst := (hx_col_S hs hTo g_ql tt_40 tt_2 rfl rfl).trans cl_lst
  replace cl_isj : hx_col 40 h_212 qp 8 = c_isj := (hx_col_S hs hTo g_qp tt_44 tt_4 rfl rfl).trans cl_isj
  replace cl_dox : hx_col 40 h_212 qp 5 = c_dox := (hx_col_S hs hTo g_qp tt_44 tt_4 rfl rfl).trans cl_dox
  replace cl_doy : hx_col 40 h_212 qp 6 = c_doy := (hx_col_S hs hTo g_qp tt_44 tt_4 rfl rfl).trans cl_doy
  replace cl_fou : hx_col 100 h_212 qc 10 = c_fou := (hx_col_S hs hTo g_qc tt_45 tt_2 rfl rfl).trans cl_fou
  replace cl_tri : hx_col 100 h_212 qc 9 = c_tri := (hx_col_S hs hTo g_qc tt_45 tt_2 rfl rfl).trans cl_tri
  replace fw_208 : hx_col 40 h_212 qp 7 = w_208 := (hx_col_S hs hTo g_qp tt_44 tt_4 rfl rfl).trans fw_208
  replace nu_qp : hx_num 40 h_212 qp 0 (np.toInt) := hx_num_S hs hTo g_qp tt_44 tt_4 rfl rfl nu_qp
  replace nu_qc : hx_num 100 h_212 qc 0 (c0.toInt) := hx_num_S hs hTo g_qc tt_45 tt_2 rfl rfl nu_qc
  replace sb_list : hx_LQ 8 100 h_212 ql qc := hx_LQ_S hs g_ql g_qc rfl rfl sb_list
  replace hDF : hw_DF h_212 qc qp 2 F_aga c0.toInt := hw_DF_S hs hTo g_qc g_qp tt_45 tt_2 rfl rfl rfl hDF
  replace hRA9 : hv_RA h_212 qa qwo a0.toInt A9 := hv_RA_S hs hTo g_qa g_qwo tt_43 tt_0 rfl rfl rfl rfl rfl rfl (by omega) hRA9
  replace n_mw : h_212.2.1 mw = F_mw := (funext fun j => (hs.a g_mw rfl j).1).trans n_mw
  replace n_mr : h_212.2.1 mr = F_mr := (funext fun j => (hs.a g_mr rfl j).1).trans n_mr
  replace n_mp : h_212.2.1 mp = F_mp := (funext fun j => (hs.a g_mp rfl j).1).trans n_mp
  replace n_mn : h_212.2.1 mn = F_mn := (funext fun j => (hs.a g_mn rfl j).1).trans n_mn
  replace n_ml : h_212.2.1 ml = F_ml := (funext fun j => (hs.a g_ml rfl j).1).trans n_ml
  replace n_mh : h_212.2.1 mh = F_mh := (funext fun j => (hs.a g_mh rfl j).1).trans n_mh
  replace n_mt : h_212.2.1 mt = F_mt := (funext fun j => (hs.a g_mt rfl j).1).trans n_mt
  replace n_m_fou : h_212.2.1 m_fou = F_m_fou := (funext fun j => (hs.a g_m_fou rfl j).1).trans n_m_fou
  replace n_b_of : h_212.2.1 b_of = B_of := (funext fun j => (hs.a g_b_of rfl j).1).trans n_b_of
  replace n_m_of : h_212.2.1 m_of = F_of := (funext fun j => (hs.a g_m_of rfl j).1).trans n_m_of
  replace n_b_wf : h_212.2.1 b_wf = B_wf := (funext fun j => (hs.a g_b_wf rfl j).1).trans n_b_wf
  replace n_m_wf : h_212.2.1 m_wf = F_wf := (funext fun j => (hs.a g_m_wf rfl j).1).trans n_m_wf
  replace n_b_df : h_212.2.1 b_df = B_df := (funext fun j => (hs.a g_b_df rfl j).1).trans n_b_df
  replace n_m_df : h_212.2.1 m_df = F_df := (funext fun j => (hs.a g_m_df rfl j).1).trans n_m_df
  replace n_b_kf : h_212.2.1 b_kf = B_kf := (funext fun j => (hs.a g_b_kf rfl j).1).trans n_b_kf
  replace n_m_kf : h_212.2.1 m_kf = F_kf := (funext fun j => (hs.a g_m_kf rfl j).1).trans n_m_kf
  replace n_b_sf : h_212.2.1 b_sf = B_sf := (funext fun j => (hs.a g_b_sf rfl j).1).trans n_b_sf
  replace n_m_sf : h_212.2.1 m_sf = F_sf := (funext fun j => (hs.a g_m_sf rfl j).1).trans n_m_sf
  replace n_b_bf : h_212.2.1 b_bf = bfL := (funext fun j => (hs.a g_b_bf rfl j).1).trans n_b_bf
  replace n_lst : h_212.2.1 m_lst = F_lst := (funext fun j => (hs.a g_m_lst rfl j).1).trans n_lst
  replace n_tp : h_212.2.1 m_tp = F_tp := (funext fun j => (hs.a g_m_tp rfl j).1).trans n_tp
  replace n_qtp : h_212.2.1 qtp = F_tp := (funext fun j => (hs.a g_qtp rfl j).1).trans n_qtp
  replace n_isj : h_212.2.1 m_isj = F_isj := (funext fun j => (hs.a g_m_isj rfl j).1).trans n_isj
  replace n_dox : h_212.2.1 m_dox = F_dox := (funext fun j => (hs.a g_m_dox rfl j).1).trans n_dox
  replace n_doy : h_212.2.1 m_doy = F_doy := (funext fun j => (hs.a g_m_doy rfl j).1).trans n_doy
  replace n_qlt : h_212.2.1 qlt = F_qlt := (funext fun j => (hs.a g_qlt rfl j).1).trans n_qlt
  replace n_m_wkd : h_212.2.1 m_wkd = F_m_wkd := (funext fun j => (hs.a g_m_wkd rfl j).1).trans n_m_wkd
  replace n_aga : h_212.2.1 m_aga = F_aga := (funext fun j => (hs.a g_m_aga rfl j).1).trans n_aga
  replace n_ad : h_212.2.1 m_ad = F_ad := (funext fun j => (hs.a g_m_ad rfl j).1).trans n_ad
  replace gx := gx.S hs
  replace gm := gm.S hs
  replace g_qa := g_qa.S hs
  replace g_qp := g_qp.S hs
  replace g_qc := g_qc.S hs
  replace g_qh := g_qh.S hs
  replace g_qw := g_qw.S hs
  replace g_ql := g_ql.S hs
  replace g_mw := g_mw.S hs
  replace g_mr := g_mr.S hs
  replace g_mp := g_mp.S hs
  replace g_mn := g_mn.S hs
  replace g_ml := g_ml.S hs
  replace g_mh := g_mh.S hs
  replace g_mt := g_mt.S hs
  replace g_m_fou := g_m_fou.S hs
  replace g_qo_ln := g_qo_ln.S hs
  replace g_b_of := g_b_of.S hs
  replace g_m_of := g_m_of.S hs
  replace g_b_wf := g_b_wf.S hs
  replace g_m_wf := g_m_wf.S hs
  replace g_b_df := g_b_df.S hs
  replace g_m_df := g_m_df.S hs
  replace g_b_kf := g_b_kf.S hs
  replace g_m_kf := g_m_kf.S hs
  replace g_b_sf := g_b_sf.S hs
  replace g_m_sf := g_m_sf.S hs
  replace g_b_bf := g_b_bf.S hs
  replace g_m_lst := g_m_lst.S hs
  replace g_qtp := g_qtp.S hs
  replace g_m_tp := g_m_tp.S hs
  replace g_m_dead := g_m_dead.S hs
  replace g_m_isj := g_m_isj.S hs
  replace g_m_dox := g_m_dox.S hs
  replace g_m_doy := g_m_doy.S hs
  replace g_qlt := g_qlt.S hs
  replace g_qlf := g_qlf.S hs
  replace g_m_wkd := g_m_wkd.S hs
  replace g_m_aga := g_m_aga.S hs
  replace g_qwo := g_qwo.S hs
  replace g_m_ad := g_m_ad.S hs
  have fw_216 : h_212.2.1 m_dead = w_216 := fw_216
  refine lv_pop hx hb dL_law_494 rfl ?_
  refine lv_goto (tgt := 1379) hx hb dL_law_495 (by decide) ?_
  obtain ⟨heq, hq_dead⟩ := hx_jk (by omega) eq_dead hr_207 hr_215
  refine W.widen (k := CC + 3) (n := SS + 179) (by omega) (by omega) ?_
  exact kk L_211 h_212 H locs ls hW ⟨hT, gx, gm, ⟨f_x_now.trans f_m_now.symm, f_x_personCount.trans f_m_persons.symm, f_x_claimCount.trans f_m_claims.symm, f_x_tapeLength.trans f_m_taped.symm, f_x_actCount.trans f_m_acts.symm, hx_ob f_qo_ln (f_o_ln.trans f_m_lines.symm), hx_ob f_qw (f_o_lsd.trans f_m_listed.symm), hx_ob f_qw (f_o_wkm.trans f_m_walkedMany.symm), hx_ob f_qp (by rw [f_x_personCount]; exact nu_qp), hx_ob f_qc (by rw [f_x_claimCount]; exact nu_qc), (fun b a r hb ha hr => by obtain rfl : qo_ln = b := Option.some.inj (f_qo_ln.symm.trans hb); obtain rfl : b_of = a := Option.some.inj (f_b_of.symm.trans ha); obtain rfl : m_of = r := Option.some.inj (f_m_of.symm.trans hr); rw [n_b_of, n_m_of, f_o_ln]; exact eb_of), (fun b a r hb ha hr => by obtain rfl : qo_ln = b := Option.some.inj (f_qo_ln.symm.trans hb); obtain rfl : b_wf = a := Option.some.inj (f_b_wf.symm.trans ha); obtain rfl : m_wf = r := Option.some.inj (f_m_wf.symm.trans hr); rw [n_b_wf, n_m_wf, f_o_ln]; exact eb_wf), (fun b a r hb ha hr => by obtain rfl : qo_ln = b := Option.some.inj (f_qo_ln.symm.trans hb); obtain rfl : b_df = a := Option.some.inj (f_b_df.symm.trans ha); obtain rfl : m_df = r := Option.some.inj (f_m_df.symm.trans hr); rw [n_b_df, n_m_df, f_o_ln]; exact eb_df), (fun b a r hb ha hr => by obtain rfl : qo_ln = b := Option.some.inj (f_qo_ln.symm.trans hb); obtain rfl : b_kf = a := Option.some.inj (f_b_kf.symm.trans ha); obtain rfl : m_kf = r := Option.some.inj (f_m_kf.symm.trans hr); rw [n_b_kf, n_m_kf, f_o_ln]; exact eb_kf), (fun b a r hb ha hr => by obtain rfl : qo_ln = b := Option.some.inj (f_qo_ln.symm.trans hb); obtain rfl : b_sf = a := Option.some.inj (f_b_sf.symm.trans ha); obtain rfl : m_sf = r := Option.some.inj (f_m_sf.symm.trans hr); rw [n_b_sf, n_m_sf, f_o_ln]; exact eb_sf), (fun b a r hb ha hr => by obtain rfl : qo_ln = b := Option.some.inj (f_qo_ln.symm.trans hb); obtain rfl : b_df = a := Option.some.inj (f_b_df.symm.trans ha); obtain rfl : b_bf = r := Option.some.inj (f_b_bf.symm.trans hr); rw [n_b_df, n_b_bf, f_o_ln]; exact ⟨hBD, hDY⟩), (fun w q c hw hq hc => by obtain rfl : qw = w := Option.some.inj (f_qw.symm.trans hw); obtain rfl : ql = q := Option.some.inj (f_ql.symm.trans hq); obtain rfl : qc = c := Option.some.inj (f_qc.symm.trans hc); exact sb_list), (fun w q r hw hq hr => by obtain rfl : qw = w := Option.some.inj (f_qw.symm.trans hw); obtain rfl : ql = q := Option.some.inj (f_ql.symm.trans hq); obtain rfl : m_lst = r := Option.some.inj (f_m_lst.symm.trans hr); rw [cl_lst, n_lst]; exact eq_lst), (fun w q r hw hq hr => by obtain rfl : qw = w := Option.some.inj (f_qw.symm.trans hw); obtain rfl : qlt = q := Option.some.inj (f_qlt.symm.trans hq); obtain rfl : m_wkd = r := Option.some.inj (f_m_wkd.symm.trans hr); rw [n_qlt, n_m_wkd, f_o_wkm]; exact eb_wkd), (fun c q a hc hq ha => by obtain rfl : qc = c := Option.some.inj (f_qc.symm.trans hc); obtain rfl : qp = q := Option.some.inj (f_qp.symm.trans hq); obtain rfl : m_aga = a := Option.some.inj (f_m_aga.symm.trans ha); rw [n_aga, f_x_claimCount]; exact hw_DF_e hDF rfl rfl), (fun q r hq hr => by obtain rfl : qtp = q := Option.some.inj (f_qtp.symm.trans hq); obtain rfl : m_tp = r := Option.some.inj (f_m_tp.symm.trans hr); exact n_qtp.trans n_tp.symm), (fun q w a b c d hq hw ha hb hc hd => by obtain rfl : qa = q := Option.some.inj (f_qa.symm.trans hq); obtain rfl : qwo = w := Option.some.inj (f_qwo.symm.trans hw); obtain rfl : m_ad = a := Option.some.inj (f_m_ad.symm.trans ha); obtain rfl : mr = b := Option.some.inj (f_mr.symm.trans hb); obtain rfl : mn = c := Option.some.inj (f_mn.symm.trans hc); obtain rfl : mp = d := Option.some.inj (f_mp.symm.trans hd); exact ⟨_, by rw [f_x_actCount]; exact hRA9, by rw [f_x_actCount, n_ad, n_mr, n_mn, n_mp]; exact hCA9⟩), hx_ob2 f_qp f_m_dead (by rw [fw_208, fw_216]; exact hq_dead), hx_ob2 f_qp f_m_isj (by rw [cl_isj, n_isj]; exact eq_isj), hx_ob2 f_qp f_m_dox (by rw [cl_dox, n_dox]; exact eq_dox), hx_ob2 f_qp f_m_doy (by rw [cl_doy, n_doy]; exact eq_doy), hx_ob2 f_qc f_m_fou (by rw [cl_fou, n_m_fou]; exact eq_fou), hx_ob2 f_qc f_mt (by rw [cl_tri, n_mt]; exact eq_tri), trivial⟩, ⟨hx_ob f_qa pf_qa, hx_ob f_qp pf_qp, hx_ob f_qc pf_qc, hx_ob f_qh pf_qh, (fun w q hw hq => by obtain rfl : qw = w := Option.some.inj (f_qw.symm.trans hw); obtain rfl : ql = q := Option.some.inj (f_ql.symm.trans hq); exact pf_ql)⟩, ⟨hx_ob f_mw (by rw [n_mw]; exact hwd), hx_ob f_mr (by rw [n_mr, f_m_acts]; exact hWK), hx_ob2 f_mp f_mn (by rw [n_mp, n_mn, f_m_acts]; exact hRP), hx_ob f_ml (by rw [n_ml, f_m_claims, f_m_acts]; exact hPL), hx_ob f_mh (by rw [n_mh, f_m_heardMany, f_m_claims]; exact hHC), hx_ob f_mt (by rw [n_mt]; exact (hx_TR_le hTR (by omega))), hx_ob2 f_mh f_m_fou (by rw [n_mh, n_m_fou, f_m_claims]; exact hHF)⟩⟩ hl
