set_option maxHeartbeats 4000000 in
set_option maxRecDepth 100000 in
theorem law_case_8 {p : Program} {e : Env} {s : State} {m : MethodId} {below : List Frame} {meth : Method} {c : Code} (l : Launch) {b LN : Nat} {xs : Nat → Int32} (hx : p.tables.exec = Jvm.exec) (hb : c.code = code) (hr : meth.sig.returnType = ret) (hlocks : meth.locks = false) (hml : c.maxLocals = 4) (hown : s.vm.findClass "SmallCourtLaw" = some m.cls) (hts : ∀ w ∈ hx_all, w.before #[Value.ref b] s = true) (hX : va_X b LN xs s s.heap) (hbl : b < s.heap.size) (hbA : ¬ s.heap.size ≤ b) (hLN : LN ≤ 3584) (dC : Nat → ClassId) (dI : Nat → Nat → Nat) (dA : Nat → ClassId) (b0 : hx_z) (ax am : Nat) (T1 : Int) (hT0 : 0 ≤ T1) (hT1 : T1 ≤ 511) (i : Int32) (hi0 : 0 ≤ i.toInt) (hiL : i.toInt + 7 ≤ LN) (CC SS : Nat) (hCC : CC + 3 ≤ 600000) (hSS : SS + 179 ≤ 7302250) (L1 : List Nat) (hl1 : hx_h) (H : Heap) (locs : List Loc) (ls : Array Slot) (hW : hx_W T_tb (P_ty dA) (dC, dI) vwCl (fun q : Nat => s.heap.size ≤ q) s.heap L1 hl1 s H locs) (hZ : hx_Xt (fun q : Nat => s.heap.size ≤ q) b0 s) (hI : hx_IV T1 ax am L1 hl1) (hl : lv_has ls 4 [(3, .int i), (2, .ref am), (1, .ref ax), (0, .ref b)]) (kk : ∀ (L2 : List Nat) (h2 : hx_h) (H2 : Heap) (locs2 : List Loc) (ls2 : Array Slot), hx_W T_tb (P_ty dA) (dC, dI) vwCl (fun q : Nat => s.heap.size ≤ q) s.heap L2 h2 s H2 locs2 → hx_IV (T1 + 1) ax am L2 h2 → lv_has ls2 4 [(3, .int i), (2, .ref am), (1, .ref ax), (0, .ref b)] → W p l e room_1 s m #[Value.ref b] below meth c H2 locs2 (CC + 3) (SS + 179) (lw_Z below #[Value.ref b] s) (F0 m 1379 ls2 [])) : W p l e room_1 s m #[Value.ref b] below meth c H locs CC SS (lw_Z below #[Value.ref b] s) (F0 m 498 ls []) := by
  obtain ⟨hT, gx, gm, ⟨he_nw, he_np, he_c0, he_tl, he_a0, he_m0, ho_ln, ho_lsd, ho_wkm, hn_qp, hn_qc, hk_of, hk_wf, hk_df, hk_kf, hk_sf, hkBD, hLQ, hLE, hkWD, hkDF, hkTP, hkAC, hkDP, hkHL, hkHO, hkFX, hkBX, hf_bor, hf_kin, hf_sum, hf_fro, hf_fil, hf_hea, hf_jud, hc_dead, hc_isj, hc_dox, hc_doy, hc_fou, hc_tri, -⟩, ⟨ia, ip, ic, ih, il⟩, ⟨jw, jr, jp, jl, jh, jt, jf⟩⟩ := hI
  obtain ⟨qa, f_qa, g_qa⟩ := hx_rf hT gx tt_9 (k := 5) (u := 43) rfl
  have pf_qa := ia qa f_qa
  obtain ⟨qp, f_qp, g_qp⟩ := hx_rf hT gx tt_9 (k := 7) (u := 44) rfl
  have pf_qp := ip qp f_qp
  obtain ⟨qc, f_qc, g_qc⟩ := hx_rf hT gx tt_9 (k := 10) (u := 45) rfl
  have pf_qc := ic qc f_qc
  obtain ⟨qh, f_qh, g_qh⟩ := hx_rf hT gx tt_9 (k := 12) (u := 46) rfl
  have pf_qh := ih qh f_qh
  obtain ⟨qw, f_qw, g_qw⟩ := hx_rf hT gx tt_9 (k := 19) (u := 8) rfl
  obtain ⟨ql, f_ql, g_ql⟩ := hx_rf hT g_qw tt_8 (k := 3) (u := 40) rfl
  have pf_ql := il qw ql f_qw f_ql
  obtain ⟨nw, f_m_now⟩ : ∃ y : Int32, hl1.2.1 am 0 = y := ⟨_, rfl⟩
  have b_nw := hT.gi gm tt_10 (k := 0) rfl
  rw [f_m_now] at b_nw
  have b_nw : 0 ≤ nw.toInt ∧ nw.toInt ≤ 7999 := b_nw
  obtain ⟨np, f_m_persons⟩ : ∃ y : Int32, hl1.2.1 am 20 = y := ⟨_, rfl⟩
  have b_np := hT.gi gm tt_10 (k := 20) rfl
  rw [f_m_persons] at b_np
  have b_np : 0 ≤ np.toInt ∧ np.toInt ≤ 40 := b_np
  obtain ⟨c0, f_m_claims⟩ : ∃ y : Int32, hl1.2.1 am 36 = y := ⟨_, rfl⟩
  have b_c0 := hT.gi gm tt_10 (k := 36) rfl
  rw [f_m_claims] at b_c0
  have b_c0 : 0 ≤ c0.toInt ∧ c0.toInt ≤ 100 := b_c0
  obtain ⟨tl, f_m_taped⟩ : ∃ y : Int32, hl1.2.1 am 7 = y := ⟨_, rfl⟩
  have b_tl := hT.gi gm tt_10 (k := 7) rfl
  rw [f_m_taped] at b_tl
  have b_tl : 0 ≤ tl.toInt ∧ tl.toInt ≤ 400 := b_tl
  obtain ⟨a0, f_m_acts⟩ : ∃ y : Int32, hl1.2.1 am 1 = y := ⟨_, rfl⟩
  have b_a0 := hT.gi gm tt_10 (k := 1) rfl
  rw [f_m_acts] at b_a0
  have b_a0 : 0 ≤ a0.toInt ∧ a0.toInt ≤ 8 := b_a0
  obtain ⟨m0, f_m_heardMany⟩ : ∃ y : Int32, hl1.2.1 am 57 = y := ⟨_, rfl⟩
  have b_m0 := hT.gi gm tt_10 (k := 57) rfl
  rw [f_m_heardMany] at b_m0
  have b_m0 : 0 ≤ m0.toInt ∧ m0.toInt ≤ 100 := b_m0
  obtain ⟨ln, f_m_lines⟩ : ∃ y : Int32, hl1.2.1 am 29 = y := ⟨_, rfl⟩
  have b_ln := hT.gi gm tt_10 (k := 29) rfl
  rw [f_m_lines] at b_ln
  have b_ln : 0 ≤ ln.toInt ∧ ln.toInt ≤ 400 := b_ln
  obtain ⟨lsd, f_m_listed⟩ : ∃ y : Int32, hl1.2.1 am 90 = y := ⟨_, rfl⟩
  have b_lsd := hT.gi gm tt_10 (k := 90) rfl
  rw [f_m_listed] at b_lsd
  have b_lsd : 0 ≤ lsd.toInt ∧ lsd.toInt ≤ 8 := b_lsd
  obtain ⟨wkm, f_m_walkedMany⟩ : ∃ y : Int32, hl1.2.1 am 92 = y := ⟨_, rfl⟩
  have b_wkm := hT.gi gm tt_10 (k := 92) rfl
  rw [f_m_walkedMany] at b_wkm
  have b_wkm : 0 ≤ wkm.toInt ∧ wkm.toInt ≤ 8 := b_wkm
  have f_x_now : hl1.2.1 ax 2 = nw := he_nw.trans f_m_now
  have f_x_personCount : hl1.2.1 ax 8 = np := he_np.trans f_m_persons
  have f_x_claimCount : hl1.2.1 ax 11 = c0 := he_c0.trans f_m_claims
  have f_x_tapeLength : hl1.2.1 ax 1 = tl := he_tl.trans f_m_taped
  have f_x_actCount : hl1.2.1 ax 6 = a0 := he_a0.trans f_m_acts
  have f_x_heardCount : hl1.2.1 ax 13 = m0 := he_m0.trans f_m_heardMany
  obtain ⟨mw, f_mw, g_mw⟩ := hx_rf hT gm tt_10 (k := 19) (u := 57) rfl
  obtain ⟨F_mw, n_mw⟩ : ∃ g : Nat → Int32, hl1.2.1 mw = g := ⟨_, rfl⟩
  obtain ⟨mr, f_mr, g_mr⟩ := hx_rf hT gm tt_10 (k := 3) (u := 50) rfl
  obtain ⟨F_mr, n_mr⟩ : ∃ g : Nat → Int32, hl1.2.1 mr = g := ⟨_, rfl⟩
  obtain ⟨mp, f_mp, g_mp⟩ := hx_rf hT gm tt_10 (k := 5) (u := 52) rfl
  obtain ⟨F_mp, n_mp⟩ : ∃ g : Nat → Int32, hl1.2.1 mp = g := ⟨_, rfl⟩
  obtain ⟨mn, f_mn, g_mn⟩ := hx_rf hT gm tt_10 (k := 4) (u := 51) rfl
  obtain ⟨F_mn, n_mn⟩ : ∃ g : Nat → Int32, hl1.2.1 mn = g := ⟨_, rfl⟩
  obtain ⟨ml, f_ml, g_ml⟩ := hx_rf hT gm tt_10 (k := 44) (u := 79) rfl
  obtain ⟨F_ml, n_ml⟩ : ∃ g : Nat → Int32, hl1.2.1 ml = g := ⟨_, rfl⟩
  obtain ⟨mh, f_mh, g_mh⟩ := hx_rf hT gm tt_10 (k := 47) (u := 82) rfl
  obtain ⟨F_mh, n_mh⟩ : ∃ g : Nat → Int32, hl1.2.1 mh = g := ⟨_, rfl⟩
  obtain ⟨mt, f_mt, g_mt⟩ := hx_rf hT gm tt_10 (k := 45) (u := 80) rfl
  obtain ⟨F_mt, n_mt⟩ : ∃ g : Nat → Int32, hl1.2.1 mt = g := ⟨_, rfl⟩
  obtain ⟨m_fou, f_m_fou, g_m_fou⟩ := hx_rf hT gm tt_10 (k := 46) (u := 81) rfl
  obtain ⟨F_m_fou, n_m_fou⟩ : ∃ g : Nat → Int32, hl1.2.1 m_fou = g := ⟨_, rfl⟩
  obtain ⟨qo_ln, f_qo_ln, g_qo_ln⟩ := hx_rf hT gx tt_9 (k := 9) (u := 1) rfl
  have f_o_ln : hl1.2.1 qo_ln 0 = ln := (ho_ln qo_ln f_qo_ln).trans f_m_lines
  have f_o_lsd : hl1.2.1 qw 0 = lsd := (ho_lsd qw f_qw).trans f_m_listed
  have f_o_wkm : hl1.2.1 qw 1 = wkm := (ho_wkm qw f_qw).trans f_m_walkedMany
  have nu_qp := hn_qp qp f_qp; rw [f_x_personCount] at nu_qp
  have nu_qc := hn_qc qc f_qc; rw [f_x_claimCount] at nu_qc
  obtain ⟨b_of, f_b_of, g_b_of⟩ := hx_rf hT g_qo_ln tt_1 (k := 1) (u := 13) rfl
  obtain ⟨B_of, n_b_of⟩ : ∃ g : Nat → Int32, hl1.2.1 b_of = g := ⟨_, rfl⟩
  obtain ⟨m_of, f_m_of, g_m_of⟩ := hx_rf hT gm tt_10 (k := 30) (u := 66) rfl
  obtain ⟨F_of, n_m_of⟩ : ∃ g : Nat → Int32, hl1.2.1 m_of = g := ⟨_, rfl⟩
  have eb_of := hk_of qo_ln b_of m_of f_qo_ln f_b_of f_m_of; rw [n_b_of, n_m_of, f_o_ln] at eb_of
  obtain ⟨b_wf, f_b_wf, g_b_wf⟩ := hx_rf hT g_qo_ln tt_1 (k := 2) (u := 14) rfl
  obtain ⟨B_wf, n_b_wf⟩ : ∃ g : Nat → Int32, hl1.2.1 b_wf = g := ⟨_, rfl⟩
  obtain ⟨m_wf, f_m_wf, g_m_wf⟩ := hx_rf hT gm tt_10 (k := 31) (u := 67) rfl
  obtain ⟨F_wf, n_m_wf⟩ : ∃ g : Nat → Int32, hl1.2.1 m_wf = g := ⟨_, rfl⟩
  have eb_wf := hk_wf qo_ln b_wf m_wf f_qo_ln f_b_wf f_m_wf; rw [n_b_wf, n_m_wf, f_o_ln] at eb_wf
  obtain ⟨b_df, f_b_df, g_b_df⟩ := hx_rf hT g_qo_ln tt_1 (k := 3) (u := 15) rfl
  obtain ⟨B_df, n_b_df⟩ : ∃ g : Nat → Int32, hl1.2.1 b_df = g := ⟨_, rfl⟩
  obtain ⟨m_df, f_m_df, g_m_df⟩ := hx_rf hT gm tt_10 (k := 32) (u := 68) rfl
  obtain ⟨F_df, n_m_df⟩ : ∃ g : Nat → Int32, hl1.2.1 m_df = g := ⟨_, rfl⟩
  have eb_df := hk_df qo_ln b_df m_df f_qo_ln f_b_df f_m_df; rw [n_b_df, n_m_df, f_o_ln] at eb_df
  obtain ⟨b_kf, f_b_kf, g_b_kf⟩ := hx_rf hT g_qo_ln tt_1 (k := 4) (u := 16) rfl
  obtain ⟨B_kf, n_b_kf⟩ : ∃ g : Nat → Int32, hl1.2.1 b_kf = g := ⟨_, rfl⟩
  obtain ⟨m_kf, f_m_kf, g_m_kf⟩ := hx_rf hT gm tt_10 (k := 33) (u := 69) rfl
  obtain ⟨F_kf, n_m_kf⟩ : ∃ g : Nat → Int32, hl1.2.1 m_kf = g := ⟨_, rfl⟩
  have eb_kf := hk_kf qo_ln b_kf m_kf f_qo_ln f_b_kf f_m_kf; rw [n_b_kf, n_m_kf, f_o_ln] at eb_kf
  obtain ⟨b_sf, f_b_sf, g_b_sf⟩ := hx_rf hT g_qo_ln tt_1 (k := 5) (u := 17) rfl
  obtain ⟨B_sf, n_b_sf⟩ : ∃ g : Nat → Int32, hl1.2.1 b_sf = g := ⟨_, rfl⟩
  obtain ⟨m_sf, f_m_sf, g_m_sf⟩ := hx_rf hT gm tt_10 (k := 34) (u := 70) rfl
  obtain ⟨F_sf, n_m_sf⟩ : ∃ g : Nat → Int32, hl1.2.1 m_sf = g := ⟨_, rfl⟩
  have eb_sf := hk_sf qo_ln b_sf m_sf f_qo_ln f_b_sf f_m_sf; rw [n_b_sf, n_m_sf, f_o_ln] at eb_sf
  obtain ⟨b_bf, f_b_bf, g_b_bf⟩ := hx_rf hT g_qo_ln tt_1 (k := 6) (u := 18) rfl
  obtain ⟨bfL, n_b_bf⟩ : ∃ g : Nat → Int32, hl1.2.1 b_bf = g := ⟨_, rfl⟩
  obtain ⟨hBD, hDY⟩ := hkBD qo_ln b_df b_bf f_qo_ln f_b_df f_b_bf; rw [n_b_df, n_b_bf, f_o_ln] at hBD; rw [n_b_df, f_o_ln] at hDY
  have hBDm := hy_BD_c eb_df hBD
  have hDYm : hy_DY F_df ln.toInt.toNat := fun x hx => by rw [← eb_df x hx]; exact hDY x hx
  have sb_list := hLQ qw ql qc f_qw f_ql f_qc
  obtain ⟨m_lst, f_m_lst, g_m_lst⟩ := hx_rf hT gm tt_10 (k := 91) (u := 112) rfl
  obtain ⟨F_lst, n_lst⟩ : ∃ g : Nat → Int32, hl1.2.1 m_lst = g := ⟨_, rfl⟩
  obtain ⟨c_lst, cl_lst⟩ : ∃ g : Nat → Int32, hx_col 8 hl1 ql 0 = g := ⟨_, rfl⟩
  have eq_lst := hLE qw ql m_lst f_qw f_ql f_m_lst; rw [cl_lst, n_lst] at eq_lst
  obtain ⟨qtp, f_qtp, g_qtp⟩ := hx_rf hT gx tt_9 (k := 0) (u := 42) rfl
  obtain ⟨m_tp, f_m_tp, g_m_tp⟩ := hx_rf hT gm tt_10 (k := 6) (u := 53) rfl
  obtain ⟨F_tp, n_tp⟩ : ∃ g : Nat → Int32, hl1.2.1 m_tp = g := ⟨_, rfl⟩
  have n_qtp : hl1.2.1 qtp = F_tp := (hkTP qtp m_tp f_qtp f_m_tp).trans n_tp
  obtain ⟨c_dead, cl_dead⟩ : ∃ g : Nat → Int32, hx_col 40 hl1 qp 7 = g := ⟨_, rfl⟩
  obtain ⟨m_dead, f_m_dead, g_m_dead⟩ := hx_rf hT gm tt_10 (k := 27) (u := 64) rfl
  obtain ⟨F_dead, n_dead⟩ : ∃ g : Nat → Int32, hl1.2.1 m_dead = g := ⟨_, rfl⟩
  have eq_dead := hc_dead qp m_dead f_qp f_m_dead; rw [cl_dead, n_dead] at eq_dead
  have z_dead : np.toInt.toNat < 40 → c_dead np.toInt.toNat = 0 := fun hj => hx_num_z nu_qp cl_dead hj (by omega)
  obtain ⟨c_isj, cl_isj⟩ : ∃ g : Nat → Int32, hx_col 40 hl1 qp 8 = g := ⟨_, rfl⟩
  obtain ⟨m_isj, f_m_isj, g_m_isj⟩ := hx_rf hT gm tt_10 (k := 28) (u := 65) rfl
  obtain ⟨F_isj, n_isj⟩ : ∃ g : Nat → Int32, hl1.2.1 m_isj = g := ⟨_, rfl⟩
  have eq_isj := hc_isj qp m_isj f_qp f_m_isj; rw [cl_isj, n_isj] at eq_isj
  have z_isj : np.toInt.toNat < 40 → c_isj np.toInt.toNat = 0 := fun hj => hx_num_z nu_qp cl_isj hj (by omega)
  obtain ⟨c_dox, cl_dox⟩ : ∃ g : Nat → Int32, hx_col 40 hl1 qp 5 = g := ⟨_, rfl⟩
  obtain ⟨m_dox, f_m_dox, g_m_dox⟩ := hx_rf hT gm tt_10 (k := 24) (u := 61) rfl
  obtain ⟨F_dox, n_dox⟩ : ∃ g : Nat → Int32, hl1.2.1 m_dox = g := ⟨_, rfl⟩
  have eq_dox := hc_dox qp m_dox f_qp f_m_dox; rw [cl_dox, n_dox] at eq_dox
  have z_dox : np.toInt.toNat < 40 → c_dox np.toInt.toNat = 0 := fun hj => hx_num_z nu_qp cl_dox hj (by omega)
  obtain ⟨c_doy, cl_doy⟩ : ∃ g : Nat → Int32, hx_col 40 hl1 qp 6 = g := ⟨_, rfl⟩
  obtain ⟨m_doy, f_m_doy, g_m_doy⟩ := hx_rf hT gm tt_10 (k := 25) (u := 62) rfl
  obtain ⟨F_doy, n_doy⟩ : ∃ g : Nat → Int32, hl1.2.1 m_doy = g := ⟨_, rfl⟩
  have eq_doy := hc_doy qp m_doy f_qp f_m_doy; rw [cl_doy, n_doy] at eq_doy
  have z_doy : np.toInt.toNat < 40 → c_doy np.toInt.toNat = 0 := fun hj => hx_num_z nu_qp cl_doy hj (by omega)
  obtain ⟨c_fou, cl_fou⟩ : ∃ g : Nat → Int32, hx_col 100 hl1 qc 10 = g := ⟨_, rfl⟩
  have eq_fou := hc_fou qc m_fou f_qc f_m_fou; rw [cl_fou, n_m_fou] at eq_fou
  have z_fou : c0.toInt.toNat < 100 → c_fou c0.toInt.toNat = 0 := fun hj => hx_num_z nu_qc cl_fou hj (by omega)
  obtain ⟨c_tri, cl_tri⟩ : ∃ g : Nat → Int32, hx_col 100 hl1 qc 9 = g := ⟨_, rfl⟩
  have eq_tri := hc_tri qc mt f_qc f_mt; rw [cl_tri, n_mt] at eq_tri
  have z_tri : c0.toInt.toNat < 100 → c_tri c0.toInt.toNat = 0 := fun hj => hx_num_z nu_qc cl_tri hj (by omega)
  obtain ⟨qlt, f_qlt, g_qlt⟩ := hx_rf hT g_qw tt_8 (k := 2) (u := 39) rfl
  obtain ⟨qlf, f_qlf, g_qlf⟩ := hx_rf hT g_qw tt_8 (k := 4) (u := 41) rfl
  obtain ⟨m_wkd, f_m_wkd, g_m_wkd⟩ := hx_rf hT gm tt_10 (k := 93) (u := 113) rfl
  obtain ⟨F_qlt, n_qlt⟩ : ∃ g : Nat → Int32, hl1.2.1 qlt = g := ⟨_, rfl⟩
  obtain ⟨F_m_wkd, n_m_wkd⟩ : ∃ g : Nat → Int32, hl1.2.1 m_wkd = g := ⟨_, rfl⟩
  have eb_wkd := hkWD qw qlt m_wkd f_qw f_qlt f_m_wkd; rw [n_qlt, n_m_wkd, f_o_wkm] at eb_wkd
  obtain ⟨m_aga, f_m_aga, g_m_aga⟩ := hx_rf hT gm tt_10 (k := 38) (u := 73) rfl
  obtain ⟨F_aga, n_aga⟩ : ∃ g : Nat → Int32, hl1.2.1 m_aga = g := ⟨_, rfl⟩
  have hDF := hkDF qc qp m_aga f_qc f_qp f_m_aga; rw [n_aga, f_x_claimCount] at hDF
  obtain ⟨qwo, f_qwo, g_qwo⟩ := hx_rf hT gx tt_9 (k := 4) (u := 0) rfl
  obtain ⟨m_ad, f_m_ad, g_m_ad⟩ := hx_rf hT gm tt_10 (k := 2) (u := 49) rfl
  obtain ⟨F_ad, n_ad⟩ : ∃ g : Nat → Int32, hl1.2.1 m_ad = g := ⟨_, rfl⟩
  obtain ⟨A9, hRA9, hCA9, hAC9, hAB⟩ := hkAC qa qwo m_ad mr mn mp qc ml f_qa f_qwo f_m_ad f_mr f_mn f_mp f_qc f_ml
  rw [f_x_actCount] at hRA9; rw [f_x_actCount, n_ad, n_mr, n_mn, n_mp] at hCA9
  obtain ⟨m_by, f_m_by, g_m_by⟩ := hx_rf hT gm tt_10 (k := 37) (u := 72) rfl
  obtain ⟨F_by, n_by⟩ : ∃ g : Nat → Int32, hl1.2.1 m_by = g := ⟨_, rfl⟩
  obtain ⟨m_ho, f_m_ho, g_m_ho⟩ := hx_rf hT gm tt_10 (k := 58) (u := 92) rfl
  obtain ⟨F_ho, n_ho⟩ : ∃ g : Nat → Int32, hl1.2.1 m_ho = g := ⟨_, rfl⟩
  obtain ⟨m_fc, f_m_fc, g_m_fc⟩ := hx_rf hT gm tt_10 (k := 53) (u := 88) rfl
  obtain ⟨F_fc, n_fc⟩ : ∃ g : Nat → Int32, hl1.2.1 m_fc = g := ⟨_, rfl⟩
  obtain ⟨m_nt, f_m_nt, g_m_nt⟩ := hx_rf hT gm tt_10 (k := 41) (u := 76) rfl
  obtain ⟨F_nt, n_nt⟩ : ∃ g : Nat → Int32, hl1.2.1 m_nt = g := ⟨_, rfl⟩
  obtain ⟨m_wt, f_m_wt, g_m_wt⟩ := hx_rf hT gm tt_10 (k := 42) (u := 77) rfl
  obtain ⟨F_wt, n_wt⟩ : ∃ g : Nat → Int32, hl1.2.1 m_wt = g := ⟨_, rfl⟩
  obtain ⟨m_be, f_m_be, g_m_be⟩ := hx_rf hT gm tt_10 (k := 52) (u := 87) rfl
  obtain ⟨F_be, n_be⟩ : ∃ g : Nat → Int32, hl1.2.1 m_be = g := ⟨_, rfl⟩
  obtain ⟨m_bor, f_m_bor, g_m_bor⟩ := hx_rf hT gm tt_10 (k := 21) (u := 58) rfl
  obtain ⟨F_bor, n_bor⟩ : ∃ g : Nat → Int32, hl1.2.1 m_bor = g := ⟨_, rfl⟩
  obtain ⟨m_kin, f_m_kin, g_m_kin⟩ := hx_rf hT gm tt_10 (k := 26) (u := 63) rfl
  obtain ⟨F_kin, n_kin⟩ : ∃ g : Nat → Int32, hl1.2.1 m_kin = g := ⟨_, rfl⟩
  obtain ⟨m_sum, f_m_sum, g_m_sum⟩ := hx_rf hT gm tt_10 (k := 39) (u := 74) rfl
  obtain ⟨F_sum, n_sum⟩ : ∃ g : Nat → Int32, hl1.2.1 m_sum = g := ⟨_, rfl⟩
  obtain ⟨m_fro, f_m_fro, g_m_fro⟩ := hx_rf hT gm tt_10 (k := 40) (u := 75) rfl
  obtain ⟨F_fro, n_fro⟩ : ∃ g : Nat → Int32, hl1.2.1 m_fro = g := ⟨_, rfl⟩
  obtain ⟨m_fil, f_m_fil, g_m_fil⟩ := hx_rf hT gm tt_10 (k := 43) (u := 78) rfl
  obtain ⟨F_fil, n_fil⟩ : ∃ g : Nat → Int32, hl1.2.1 m_fil = g := ⟨_, rfl⟩
  obtain ⟨m_jud, f_m_jud, g_m_jud⟩ := hx_rf hT gm tt_10 (k := 51) (u := 86) rfl
  obtain ⟨F_jud, n_jud⟩ : ∃ g : Nat → Int32, hl1.2.1 m_jud = g := ⟨_, rfl⟩
  have cl_bor : hx_col 40 hl1 qp 1 = F_bor := (hf_bor qp m_bor f_qp f_m_bor).trans n_bor
  have cl_kin : hx_col 40 hl1 qp 2 = F_kin := (hf_kin qp m_kin f_qp f_m_kin).trans n_kin
  have cl_sum : hx_col 100 hl1 qc 6 = F_sum := (hf_sum qc m_sum f_qc f_m_sum).trans n_sum
  have cl_fro : hx_col 100 hl1 qc 7 = F_fro := (hf_fro qc m_fro f_qc f_m_fro).trans n_fro
  have cl_fil : hx_col 100 hl1 qc 8 = F_fil := (hf_fil qc m_fil f_qc f_m_fil).trans n_fil
  have cl_hea : hx_col 100 hl1 qc 11 = F_mh := (hf_hea qc mh f_qc f_mh).trans n_mh
  have cl_jud : hx_col 100 hl1 qc 12 = F_jud := (hf_jud qc m_jud f_qc f_m_jud).trans n_jud
  have htb9 : ∀ c, c < 100 → 0 ≤ (c_tri c).toInt ∧ (c_tri c).toInt ≤ 512 := fun c hc => by rw [eq_tri c hc]; have w := hT.ei g_mt tt_80 (k := c) hc; rw [n_mt] at w; exact w
  have z_jud : F_jud c0.toInt.toNat = 0 := hx_num_z2 nu_qc cl_jud (by omega)
  have hDP := hkDP qc qp m_by f_qc f_qp f_m_by; rw [n_by, f_x_claimCount] at hDP
  have hHL := hkHL qh qc m_ho f_qh f_qc f_m_ho; rw [n_ho, f_x_heardCount, f_x_claimCount] at hHL
  have hHO9 := hkHO m_ho mh f_m_ho f_mh; rw [n_ho, n_mh, f_m_heardMany, f_m_claims] at hHO9
  obtain ⟨cF9L, hFX, hFR9⟩ := hkFX qc m_fc m_nt m_wt m_sum mh f_qc f_m_fc f_m_nt f_m_wt f_m_sum f_mh; rw [f_x_claimCount] at hFX; rw [n_fc, n_nt, n_wt, n_sum, n_mh, f_x_claimCount] at hFR9
  have hBX := hkBX qc m_be f_qc f_m_be; rw [n_be, f_x_claimCount] at hBX
  rw [n_ml, f_x_claimCount] at hAC9
  have hwd := jw mw f_mw; rw [n_mw] at hwd
  have hWK := jr mr f_mr; rw [n_mr, f_m_acts] at hWK
  have hRP := jp mp mn f_mp f_mn; rw [n_mp, n_mn, f_m_acts] at hRP
  have hPL := jl ml f_ml; rw [n_ml, f_m_claims, f_m_acts] at hPL
  have hHC := jh mh f_mh; rw [n_mh, f_m_heardMany, f_m_claims] at hHC
  have hTR := jt mt f_mt; rw [n_mt] at hTR
  have hHF := jf mh m_fou f_mh f_m_fou; rw [n_mh, n_m_fou, f_m_claims] at hHF
  refine lv_aload_n hx hb dL_law_498 rfl (lv_at hl 2 rfl) ?_
  refine lv_aload_n hx hb dL_law_499 rfl (lv_at hl 3 rfl) ?_
  refine lv_iload_n hx hb dL_law_500 rfl (lv_at hl 0 rfl) ?_
  refine lv_iconst (v := 1) hx hb dL_law_501 (by decide) ?_
  refine lv_iadd hx hb dL_law_502 ?_
  have rg_220 := i32_r i
  refine lv_topi (fun x_221 ex_221 => ?_)
  have zx_221 : x_221.toInt = i.toInt + 1 := by rw [ex_221]; exact i32_add rfl (by decide) (by omega) (by omega)
  refine va_sld hx hb hX hbl hbA hW.2.2.2.1 (vp_in_iff.mpr ⟨by omega, by omega⟩) dL_law_503 ?_
  refine lv_topi (fun x_222 ex_222 => ?_)
  refine lv_aload_n hx hb dL_law_504 rfl (lv_at hl 3 rfl) ?_
  refine lv_iload_n hx hb dL_law_505 rfl (lv_at hl 0 rfl) ?_
  refine lv_iconst (v := 2) hx hb dL_law_506 (by decide) ?_
  refine lv_iadd hx hb dL_law_507 ?_
  refine lv_topi (fun x_223 ex_223 => ?_)
  have zx_223 : x_223.toInt = i.toInt + 2 := by rw [ex_223]; exact i32_add rfl (by decide) (by omega) (by omega)
  refine va_sld hx hb hX hbl hbA hW.2.2.2.1 (vp_in_iff.mpr ⟨by omega, by omega⟩) dL_law_508 ?_
  refine lv_topi (fun x_224 ex_224 => ?_)
  have jn_517 : ∀ (xj_225 : Int32) (ls : Array Slot), 0 ≤ xj_225.toInt → xj_225.toInt ≤ 1 → (x_224.toInt = 0 ∧ xj_225.toInt = 0) ∨ (x_224.toInt ≠ 0 ∧ xj_225.toInt = 1) → lv_has ls 4 [(3, .int i), (2, .ref am), (1, .ref ax), (0, .ref b)] → W p l e room_1 s m #[Value.ref b] below meth c H locs (CC) (SS) (lw_Z below #[Value.ref b] s) (F0 m 517 ls [.int xj_225, .int x_222, .ref ax]) := by
    intro xj_225 ls blxj_225 buxj_225 jcxj_225 hl
    have hTo := hT
    refine hx_goi (hx_runV (As := [.int x_222, .int xj_225]) (rest := []) ⟨hx, hb, hml, hown, hts⟩ hW gx tt_9 (T := TX9) (N := 20) rfl (t_X9_judge_2 l dC dI dA L1 hl1 H.size ax x_222 xj_225 hT gx np f_x_personCount (by omega) qp g_qp f_qp pf_qp c_isj cl_isj nu_qp) (cwV 2 hts (hx_gV kw_667 kw_664 kw_665 kw_666 kw_94) rfl rfl rfl (by decide +kernel) ⟨Nat.le_of_ble_eq_true rfl, Nat.le_of_ble_eq_true rfl⟩) rfl hl.1 rfl (Nat.le_of_ble_eq_true rfl) dL_law_517 ⟨(show CC + 0 ≤ 600000 from by omega), (show SS + 0 ≤ 7302250 from by omega)⟩) hW (fun r_228 L_226 h_227 H locs p_229 hW => ?_)
    obtain ⟨⟨w_231, fw_231, hr_230⟩, hT, hs⟩ := p_229
    replace hT : hx_T T_tb L_226 h_227 := hT
    replace hs : hx_S T_tb [(4, 8), (4, 9)] L1 hl1 L_226 h_227 := hs
    replace f_qa := (hs.o gx trivial rfl).2.trans f_qa
    replace f_qp := (hs.o gx trivial rfl).2.trans f_qp
    replace f_qc := (hs.o gx trivial rfl).2.trans f_qc
    replace f_qh := (hs.o gx trivial rfl).2.trans f_qh
    replace f_qw := (hs.o gx trivial rfl).2.trans f_qw
    replace f_ql := (hs.o g_qw trivial rfl).2.trans f_ql
    replace f_m_now := (hs.o gm trivial rfl).1.trans f_m_now
    replace f_m_persons := (hs.o gm trivial rfl).1.trans f_m_persons
    replace f_m_claims := (hs.o gm trivial rfl).1.trans f_m_claims
    replace f_m_taped := (hs.o gm trivial rfl).1.trans f_m_taped
    replace f_m_acts := (hs.o gm trivial rfl).1.trans f_m_acts
    replace f_m_heardMany := (hs.o gm trivial rfl).1.trans f_m_heardMany
    replace f_m_lines := (hs.o gm trivial rfl).1.trans f_m_lines
    replace f_m_listed := (hs.o gm trivial rfl).1.trans f_m_listed
    replace f_m_walkedMany := (hs.o gm trivial rfl).1.trans f_m_walkedMany
    replace f_x_now := (hs.o gx trivial rfl).1.trans f_x_now
    replace f_x_personCount := (hs.o gx trivial rfl).1.trans f_x_personCount
    replace f_x_claimCount := (hs.o gx trivial rfl).1.trans f_x_claimCount
    replace f_x_tapeLength := (hs.o gx trivial rfl).1.trans f_x_tapeLength
    replace f_x_actCount := (hs.o gx trivial rfl).1.trans f_x_actCount
    replace f_x_heardCount := (hs.o gx trivial rfl).1.trans f_x_heardCount
    replace f_mw := (hs.o gm trivial rfl).2.trans f_mw
    replace f_mr := (hs.o gm trivial rfl).2.trans f_mr
    replace f_mp := (hs.o gm trivial rfl).2.trans f_mp
    replace f_mn := (hs.o gm trivial rfl).2.trans f_mn
    replace f_ml := (hs.o gm trivial rfl).2.trans f_ml
    replace f_mh := (hs.o gm trivial rfl).2.trans f_mh
    replace f_mt := (hs.o gm trivial rfl).2.trans f_mt
    replace f_m_fou := (hs.o gm trivial rfl).2.trans f_m_fou
    replace f_qo_ln := (hs.o gx trivial rfl).2.trans f_qo_ln
    replace f_o_ln := (hs.o g_qo_ln trivial rfl).1.trans f_o_ln
    replace f_o_lsd := (hs.o g_qw trivial rfl).1.trans f_o_lsd
    replace f_o_wkm := (hs.o g_qw trivial rfl).1.trans f_o_wkm
    replace f_b_of := (hs.o g_qo_ln trivial rfl).2.trans f_b_of
    replace f_m_of := (hs.o gm trivial rfl).2.trans f_m_of
    replace f_b_wf := (hs.o g_qo_ln trivial rfl).2.trans f_b_wf
    replace f_m_wf := (hs.o gm trivial rfl).2.trans f_m_wf
    replace f_b_df := (hs.o g_qo_ln trivial rfl).2.trans f_b_df
    replace f_m_df := (hs.o gm trivial rfl).2.trans f_m_df
    replace f_b_kf := (hs.o g_qo_ln trivial rfl).2.trans f_b_kf
    replace f_m_kf := (hs.o gm trivial rfl).2.trans f_m_kf
    replace f_b_sf := (hs.o g_qo_ln trivial rfl).2.trans f_b_sf
    replace f_m_sf := (hs.o gm trivial rfl).2.trans f_m_sf
    replace f_b_bf := (hs.o g_qo_ln trivial rfl).2.trans f_b_bf
    replace f_m_lst := (hs.o gm trivial rfl).2.trans f_m_lst
    replace f_qtp := (hs.o gx trivial rfl).2.trans f_qtp
    replace f_m_tp := (hs.o gm trivial rfl).2.trans f_m_tp
    replace f_m_dead := (hs.o gm trivial rfl).2.trans f_m_dead
    replace f_m_isj := (hs.o gm trivial rfl).2.trans f_m_isj
    replace f_m_dox := (hs.o gm trivial rfl).2.trans f_m_dox
    replace f_m_doy := (hs.o gm trivial rfl).2.trans f_m_doy
    replace f_qlt := (hs.o g_qw trivial rfl).2.trans f_qlt
    replace f_qlf := (hs.o g_qw trivial rfl).2.trans f_qlf
    replace f_m_wkd := (hs.o gm trivial rfl).2.trans f_m_wkd
    replace f_m_aga := (hs.o gm trivial rfl).2.trans f_m_aga
    replace f_qwo := (hs.o gx trivial rfl).2.trans f_qwo
    replace f_m_ad := (hs.o gm trivial rfl).2.trans f_m_ad
    replace f_m_by := (hs.o gm trivial rfl).2.trans f_m_by
    replace f_m_ho := (hs.o gm trivial rfl).2.trans f_m_ho
    replace f_m_fc := (hs.o gm trivial rfl).2.trans f_m_fc
    replace f_m_nt := (hs.o gm trivial rfl).2.trans f_m_nt
    replace f_m_wt := (hs.o gm trivial rfl).2.trans f_m_wt
    replace f_m_be := (hs.o gm trivial rfl).2.trans f_m_be
    replace f_m_bor := (hs.o gm trivial rfl).2.trans f_m_bor
    replace f_m_kin := (hs.o gm trivial rfl).2.trans f_m_kin
    replace f_m_sum := (hs.o gm trivial rfl).2.trans f_m_sum
    replace f_m_fro := (hs.o gm trivial rfl).2.trans f_m_fro
    replace f_m_fil := (hs.o gm trivial rfl).2.trans f_m_fil
    replace f_m_jud := (hs.o gm trivial rfl).2.trans f_m_jud
    replace pf_qa : ∀ j : Nat, (j : Int) < (h_227.2.1 ax 6).toInt → h_227.2.2 qa j ≠ none := by
      intro j hj; rw [(hs.o gx trivial rfl).1] at hj; rw [(hs.a g_qa rfl j).2]; exact pf_qa j hj
    replace pf_qp : ∀ j : Nat, (j : Int) < (h_227.2.1 ax 8).toInt → h_227.2.2 qp j ≠ none := by
      intro j hj; rw [(hs.o gx trivial rfl).1] at hj; rw [(hs.a g_qp rfl j).2]; exact pf_qp j hj
    replace pf_qc : ∀ j : Nat, (j : Int) < (h_227.2.1 ax 11).toInt → h_227.2.2 qc j ≠ none := by
      intro j hj; rw [(hs.o gx trivial rfl).1] at hj; rw [(hs.a g_qc rfl j).2]; exact pf_qc j hj
    replace pf_qh : ∀ j : Nat, (j : Int) < (h_227.2.1 ax 13).toInt → h_227.2.2 qh j ≠ none := by
      intro j hj; rw [(hs.o gx trivial rfl).1] at hj; rw [(hs.a g_qh rfl j).2]; exact pf_qh j hj
    replace pf_ql : ∀ j : Nat, (j : Int) < (h_227.2.1 qw 0).toInt → h_227.2.2 ql j ≠ none := by
      intro j hj; rw [(hs.o g_qw trivial rfl).1] at hj; rw [(hs.a g_ql rfl j).2]; exact pf_ql j hj
    replace cl_lst : hx_col 8 h_227 ql 0 = c_lst := (hx_col_S hs hTo g_ql tt_40 tt_2 rfl rfl).trans cl_lst
    replace cl_dead : hx_col 40 h_227 qp 7 = c_dead := (hx_col_S hs hTo g_qp tt_44 tt_4 rfl rfl).trans cl_dead
    replace cl_dox : hx_col 40 h_227 qp 5 = c_dox := (hx_col_S hs hTo g_qp tt_44 tt_4 rfl rfl).trans cl_dox
    replace cl_doy : hx_col 40 h_227 qp 6 = c_doy := (hx_col_S hs hTo g_qp tt_44 tt_4 rfl rfl).trans cl_doy
    replace cl_fou : hx_col 100 h_227 qc 10 = c_fou := (hx_col_S hs hTo g_qc tt_45 tt_2 rfl rfl).trans cl_fou
    replace cl_tri : hx_col 100 h_227 qc 9 = c_tri := (hx_col_S hs hTo g_qc tt_45 tt_2 rfl rfl).trans cl_tri
    replace cl_bor : hx_col 40 h_227 qp 1 = F_bor := (hx_col_S hs hTo g_qp tt_44 tt_4 rfl rfl).trans cl_bor
    replace cl_kin : hx_col 40 h_227 qp 2 = F_kin := (hx_col_S hs hTo g_qp tt_44 tt_4 rfl rfl).trans cl_kin
    replace cl_sum : hx_col 100 h_227 qc 6 = F_sum := (hx_col_S hs hTo g_qc tt_45 tt_2 rfl rfl).trans cl_sum
    replace cl_fro : hx_col 100 h_227 qc 7 = F_fro := (hx_col_S hs hTo g_qc tt_45 tt_2 rfl rfl).trans cl_fro
    replace cl_fil : hx_col 100 h_227 qc 8 = F_fil := (hx_col_S hs hTo g_qc tt_45 tt_2 rfl rfl).trans cl_fil
    replace cl_hea : hx_col 100 h_227 qc 11 = F_mh := (hx_col_S hs hTo g_qc tt_45 tt_2 rfl rfl).trans cl_hea
    replace cl_jud : hx_col 100 h_227 qc 12 = F_jud := (hx_col_S hs hTo g_qc tt_45 tt_2 rfl rfl).trans cl_jud
    replace nu_qp : hx_num 40 h_227 qp 0 (np.toInt) := hx_num_S hs hTo g_qp tt_44 tt_4 rfl rfl nu_qp
    replace nu_qc : hx_num 100 h_227 qc 0 (c0.toInt) := hx_num_S hs hTo g_qc tt_45 tt_2 rfl rfl nu_qc
    replace sb_list : hx_LQ 8 100 h_227 ql qc := hx_LQ_S hs g_ql g_qc rfl rfl sb_list
    replace hDF : hw_DF h_227 qc qp 2 F_aga c0.toInt := hw_DF_S hs hTo g_qc g_qp tt_45 tt_2 rfl rfl rfl hDF
    replace hRA9 : hv_RA h_227 qa qwo a0.toInt A9 := hv_RA_S hs hTo g_qa g_qwo tt_43 tt_0 rfl rfl rfl rfl rfl rfl (by omega) hRA9
    replace hDP : hw_DF h_227 qc qp 1 F_by c0.toInt := hw_DF_S hs hTo g_qc g_qp tt_45 tt_2 rfl rfl rfl hDP
    replace hAC9 : hv_AC h_227 qc F_ml c0.toInt A9 := hv_AC_S hs hTo g_qc tt_45 tt_2 rfl tt_0 rfl rfl rfl rfl rfl rfl rfl hAC9
    replace hFX : hv_FX 8 4 h_227 qc cF9L c0.toInt := hv_FX_S hs hTo g_qc tt_45 tt_2 rfl rfl rfl rfl hFX
    replace hBX : hv_FX 3 5 h_227 qc F_be c0.toInt := hv_FX_S hs hTo g_qc tt_45 tt_2 rfl rfl rfl rfl hBX
    replace hHL : hv_HL h_227 qh qc F_ho m0.toInt c0.toInt := hv_HL_S hs g_qh g_qc rfl rfl hHL
    replace n_mw : h_227.2.1 mw = F_mw := (funext fun j => (hs.a g_mw rfl j).1).trans n_mw
    replace n_mr : h_227.2.1 mr = F_mr := (funext fun j => (hs.a g_mr rfl j).1).trans n_mr
    replace n_mp : h_227.2.1 mp = F_mp := (funext fun j => (hs.a g_mp rfl j).1).trans n_mp
    replace n_mn : h_227.2.1 mn = F_mn := (funext fun j => (hs.a g_mn rfl j).1).trans n_mn
    replace n_ml : h_227.2.1 ml = F_ml := (funext fun j => (hs.a g_ml rfl j).1).trans n_ml
    replace n_mh : h_227.2.1 mh = F_mh := (funext fun j => (hs.a g_mh rfl j).1).trans n_mh
    replace n_mt : h_227.2.1 mt = F_mt := (funext fun j => (hs.a g_mt rfl j).1).trans n_mt
    replace n_m_fou : h_227.2.1 m_fou = F_m_fou := (funext fun j => (hs.a g_m_fou rfl j).1).trans n_m_fou
    replace n_b_of : h_227.2.1 b_of = B_of := (funext fun j => (hs.a g_b_of rfl j).1).trans n_b_of
    replace n_m_of : h_227.2.1 m_of = F_of := (funext fun j => (hs.a g_m_of rfl j).1).trans n_m_of
    replace n_b_wf : h_227.2.1 b_wf = B_wf := (funext fun j => (hs.a g_b_wf rfl j).1).trans n_b_wf
    replace n_m_wf : h_227.2.1 m_wf = F_wf := (funext fun j => (hs.a g_m_wf rfl j).1).trans n_m_wf
    replace n_b_df : h_227.2.1 b_df = B_df := (funext fun j => (hs.a g_b_df rfl j).1).trans n_b_df
    replace n_m_df : h_227.2.1 m_df = F_df := (funext fun j => (hs.a g_m_df rfl j).1).trans n_m_df
    replace n_b_kf : h_227.2.1 b_kf = B_kf := (funext fun j => (hs.a g_b_kf rfl j).1).trans n_b_kf
    replace n_m_kf : h_227.2.1 m_kf = F_kf := (funext fun j => (hs.a g_m_kf rfl j).1).trans n_m_kf
    replace n_b_sf : h_227.2.1 b_sf = B_sf := (funext fun j => (hs.a g_b_sf rfl j).1).trans n_b_sf
    replace n_m_sf : h_227.2.1 m_sf = F_sf := (funext fun j => (hs.a g_m_sf rfl j).1).trans n_m_sf
    replace n_b_bf : h_227.2.1 b_bf = bfL := (funext fun j => (hs.a g_b_bf rfl j).1).trans n_b_bf
    replace n_lst : h_227.2.1 m_lst = F_lst := (funext fun j => (hs.a g_m_lst rfl j).1).trans n_lst
    replace n_tp : h_227.2.1 m_tp = F_tp := (funext fun j => (hs.a g_m_tp rfl j).1).trans n_tp
    replace n_qtp : h_227.2.1 qtp = F_tp := (funext fun j => (hs.a g_qtp rfl j).1).trans n_qtp
    replace n_dead : h_227.2.1 m_dead = F_dead := (funext fun j => (hs.a g_m_dead rfl j).1).trans n_dead
    replace n_isj : h_227.2.1 m_isj = F_isj := (funext fun j => (hs.a g_m_isj rfl j).1).trans n_isj
    replace n_dox : h_227.2.1 m_dox = F_dox := (funext fun j => (hs.a g_m_dox rfl j).1).trans n_dox
    replace n_doy : h_227.2.1 m_doy = F_doy := (funext fun j => (hs.a g_m_doy rfl j).1).trans n_doy
    replace n_qlt : h_227.2.1 qlt = F_qlt := (funext fun j => (hs.a g_qlt rfl j).1).trans n_qlt
    replace n_m_wkd : h_227.2.1 m_wkd = F_m_wkd := (funext fun j => (hs.a g_m_wkd rfl j).1).trans n_m_wkd
    replace n_aga : h_227.2.1 m_aga = F_aga := (funext fun j => (hs.a g_m_aga rfl j).1).trans n_aga
    replace n_ad : h_227.2.1 m_ad = F_ad := (funext fun j => (hs.a g_m_ad rfl j).1).trans n_ad
    replace n_by : h_227.2.1 m_by = F_by := (funext fun j => (hs.a g_m_by rfl j).1).trans n_by
    replace n_ho : h_227.2.1 m_ho = F_ho := (funext fun j => (hs.a g_m_ho rfl j).1).trans n_ho
    replace n_fc : h_227.2.1 m_fc = F_fc := (funext fun j => (hs.a g_m_fc rfl j).1).trans n_fc
    replace n_nt : h_227.2.1 m_nt = F_nt := (funext fun j => (hs.a g_m_nt rfl j).1).trans n_nt
    replace n_wt : h_227.2.1 m_wt = F_wt := (funext fun j => (hs.a g_m_wt rfl j).1).trans n_wt
    replace n_be : h_227.2.1 m_be = F_be := (funext fun j => (hs.a g_m_be rfl j).1).trans n_be
    replace n_bor : h_227.2.1 m_bor = F_bor := (funext fun j => (hs.a g_m_bor rfl j).1).trans n_bor
    replace n_kin : h_227.2.1 m_kin = F_kin := (funext fun j => (hs.a g_m_kin rfl j).1).trans n_kin
    replace n_sum : h_227.2.1 m_sum = F_sum := (funext fun j => (hs.a g_m_sum rfl j).1).trans n_sum
    replace n_fro : h_227.2.1 m_fro = F_fro := (funext fun j => (hs.a g_m_fro rfl j).1).trans n_fro
    replace n_fil : h_227.2.1 m_fil = F_fil := (funext fun j => (hs.a g_m_fil rfl j).1).trans n_fil
    replace n_jud : h_227.2.1 m_jud = F_jud := (funext fun j => (hs.a g_m_jud rfl j).1).trans n_jud
    replace gx := gx.S hs
    replace gm := gm.S hs
    replace g_qa := g_qa.S hs
    replace g_qp := g_qp.S hs
    replace g_qc := g_qc.S hs
    replace g_qh := g_qh.S hs
    replace g_qw := g_qw.S hs
    replace g_ql := g_ql.S hs
    replace g_mw := g_mw.S hs
    replace g_mr := g_mr.S hs
    replace g_mp := g_mp.S hs
    replace g_mn := g_mn.S hs
    replace g_ml := g_ml.S hs
    replace g_mh := g_mh.S hs
    replace g_mt := g_mt.S hs
    replace g_m_fou := g_m_fou.S hs
    replace g_qo_ln := g_qo_ln.S hs
    replace g_b_of := g_b_of.S hs
    replace g_m_of := g_m_of.S hs
    replace g_b_wf := g_b_wf.S hs
    replace g_m_wf := g_m_wf.S hs
    replace g_b_df := g_b_df.S hs
    replace g_m_df := g_m_df.S hs
    replace g_b_kf := g_b_kf.S hs
    replace g_m_kf := g_m_kf.S hs
    replace g_b_sf := g_b_sf.S hs
    replace g_m_sf := g_m_sf.S hs
    replace g_b_bf := g_b_bf.S hs
    replace g_m_lst := g_m_lst.S hs
    replace g_qtp := g_qtp.S hs
    replace g_m_tp := g_m_tp.S hs
    replace g_m_dead := g_m_dead.S hs
    replace g_m_isj := g_m_isj.S hs
    replace g_m_dox := g_m_dox.S hs
    replace g_m_doy := g_m_doy.S hs
    replace g_qlt := g_qlt.S hs
    replace g_qlf := g_qlf.S hs
    replace g_m_wkd := g_m_wkd.S hs
    replace g_m_aga := g_m_aga.S hs
    replace g_qwo := g_qwo.S hs
    replace g_m_ad := g_m_ad.S hs
    replace g_m_by := g_m_by.S hs
    replace g_m_ho := g_m_ho.S hs
    replace g_m_fc := g_m_fc.S hs
    replace g_m_nt := g_m_nt.S hs
    replace g_m_wt := g_m_wt.S hs
    replace g_m_be := g_m_be.S hs
    replace g_m_bor := g_m_bor.S hs
    replace g_m_kin := g_m_kin.S hs
    replace g_m_sum := g_m_sum.S hs
    replace g_m_fro := g_m_fro.S hs
    replace g_m_fil := g_m_fil.S hs
    replace g_m_jud := g_m_jud.S hs
    have fw_231 : hx_col 40 h_227 qp 8 = w_231 := fw_231
    refine lv_pop hx hb dL_law_520 rfl ?_
    refine lv_aload_n hx hb dL_law_521 rfl (lv_at hl 1 rfl) ?_
    refine lv_aload_n hx hb dL_law_522 rfl (lv_at hl 3 rfl) ?_
    refine lv_iload_n hx hb dL_law_523 rfl (lv_at hl 0 rfl) ?_
    refine lv_iconst (v := 1) hx hb dL_law_524 (by decide) ?_
    refine lv_iadd hx hb dL_law_525 ?_
    refine lv_topi (fun x_232 ex_232 => ?_)
    have zx_232 : x_232.toInt = i.toInt + 1 := by rw [ex_232]; exact i32_add rfl (by decide) (by omega) (by omega)
    obtain rfl : x_221 = x_232 := ex_221.trans ex_232.symm
    refine va_sld hx hb hX hbl hbA hW.2.2.2.1 (vp_in_iff.mpr ⟨by omega, by omega⟩) dL_law_526 ?_
    refine lv_topi (fun x_233 ex_233 => ?_)
    obtain rfl : x_222 = x_233 := ex_222.trans ex_233.symm
    refine lv_aload_n hx hb dL_law_527 rfl (lv_at hl 3 rfl) ?_
    refine lv_iload_n hx hb dL_law_528 rfl (lv_at hl 0 rfl) ?_
    refine lv_iconst (v := 2) hx hb dL_law_529 (by decide) ?_
    refine lv_iadd hx hb dL_law_530 ?_
    refine lv_topi (fun x_234 ex_234 => ?_)
    have zx_234 : x_234.toInt = i.toInt + 2 := by rw [ex_234]; exact i32_add rfl (by decide) (by omega) (by omega)
    obtain rfl : x_223 = x_234 := ex_223.trans ex_234.symm
    refine va_sld hx hb hX hbl hbA hW.2.2.2.1 (vp_in_iff.mpr ⟨by omega, by omega⟩) dL_law_531 ?_
    refine lv_topi (fun x_235 ex_235 => ?_)
    obtain rfl : x_224 = x_235 := ex_224.trans ex_235.symm
    have jn_540 : ∀ (xj_236 : Int32) (ls : Array Slot), 0 ≤ xj_236.toInt → xj_236.toInt ≤ 1 → (x_224.toInt = 0 ∧ xj_236.toInt = 0) ∨ (x_224.toInt ≠ 0 ∧ xj_236.toInt = 1) → lv_has ls 4 [(3, .int i), (2, .ref am), (1, .ref ax), (0, .ref b)] → W p l e room_1 s m #[Value.ref b] below meth c H locs (CC + 0) (SS + 0) (lw_Z below #[Value.ref b] s) (F0 m 540 ls [.int xj_236, .int x_222, .ref am]) := by
      intro xj_236 ls blxj_236 buxj_236 jcxj_236 hl
      obtain rfl : xj_225 = xj_236 := Int32.toInt_inj.mp (by omega)
      have hTo := hT
      refine hx_goi (hx_runV (As := [.int x_222, .int xj_225]) (rest := []) ⟨hx, hb, hml, hown, hts⟩ hW gm tt_10 (T := TX10) (N := 98) rfl (t_X10_judge_2 l dC dI dA L_226 h_227 H.size am x_222 xj_225 hT gm m_isj g_m_isj f_m_isj F_isj n_isj np f_m_persons (by omega)) (cwV 2 hts (hx_gV kw_1560 kw_1557 kw_1558 kw_1559 kw_103) rfl rfl rfl (by decide +kernel) ⟨Nat.le_of_ble_eq_true rfl, Nat.le_of_ble_eq_true rfl⟩) rfl hl.1 rfl (Nat.le_of_ble_eq_true rfl) dL_law_540 ⟨(show CC + 0 + 0 ≤ 600000 from by omega), (show SS + 0 + 0 ≤ 7302250 from by omega)⟩) hW (fun r_239 L_237 h_238 H locs p_240 hW => ?_)
      obtain ⟨⟨w_242, fw_242, hr_241⟩, hT, hs⟩ := p_240
      replace hT : hx_T T_tb L_237 h_238 := hT
      replace hs : hx_S T_tb [(65, 0)] L_226 h_227 L_237 h_238 := hs
      replace f_qa := (hs.o gx trivial rfl).2.trans f_qa
      replace f_qp := (hs.o gx trivial rfl).2.trans f_qp
      replace f_qc := (hs.o gx trivial rfl).2.trans f_qc
      replace f_qh := (hs.o gx trivial rfl).2.trans f_qh
      replace f_qw := (hs.o gx trivial rfl).2.trans f_qw
      replace f_ql := (hs.o g_qw trivial rfl).2.trans f_ql
      replace f_m_now := (hs.o gm trivial rfl).1.trans f_m_now
      replace f_m_persons := (hs.o gm trivial rfl).1.trans f_m_persons
      replace f_m_claims := (hs.o gm trivial rfl).1.trans f_m_claims
      replace f_m_taped := (hs.o gm trivial rfl).1.trans f_m_taped
      replace f_m_acts := (hs.o gm trivial rfl).1.trans f_m_acts
      replace f_m_heardMany := (hs.o gm trivial rfl).1.trans f_m_heardMany
      replace f_m_lines := (hs.o gm trivial rfl).1.trans f_m_lines
      replace f_m_listed := (hs.o gm trivial rfl).1.trans f_m_listed
      replace f_m_walkedMany := (hs.o gm trivial rfl).1.trans f_m_walkedMany
      replace f_x_now := (hs.o gx trivial rfl).1.trans f_x_now
      replace f_x_personCount := (hs.o gx trivial rfl).1.trans f_x_personCount
      replace f_x_claimCount := (hs.o gx trivial rfl).1.trans f_x_claimCount
      replace f_x_tapeLength := (hs.o gx trivial rfl).1.trans f_x_tapeLength
      replace f_x_actCount := (hs.o gx trivial rfl).1.trans f_x_actCount
      replace f_x_heardCount := (hs.o gx trivial rfl).1.trans f_x_heardCount
      replace f_mw := (hs.o gm trivial rfl).2.trans f_mw
      replace f_mr := (hs.o gm trivial rfl).2.trans f_mr
      replace f_mp := (hs.o gm trivial rfl).2.trans f_mp
      replace f_mn := (hs.o gm trivial rfl).2.trans f_mn
      replace f_ml := (hs.o gm trivial rfl).2.trans f_ml
      replace f_mh := (hs.o gm trivial rfl).2.trans f_mh
      replace f_mt := (hs.o gm trivial rfl).2.trans f_mt
      replace f_m_fou := (hs.o gm trivial rfl).2.trans f_m_fou
      replace f_qo_ln := (hs.o gx trivial rfl).2.trans f_qo_ln
      replace f_o_ln := (hs.o g_qo_ln trivial rfl).1.trans f_o_ln
      replace f_o_lsd := (hs.o g_qw trivial rfl).1.trans f_o_lsd
      replace f_o_wkm := (hs.o g_qw trivial rfl).1.trans f_o_wkm
      replace f_b_of := (hs.o g_qo_ln trivial rfl).2.trans f_b_of
      replace f_m_of := (hs.o gm trivial rfl).2.trans f_m_of
      replace f_b_wf := (hs.o g_qo_ln trivial rfl).2.trans f_b_wf
      replace f_m_wf := (hs.o gm trivial rfl).2.trans f_m_wf
      replace f_b_df := (hs.o g_qo_ln trivial rfl).2.trans f_b_df
      replace f_m_df := (hs.o gm trivial rfl).2.trans f_m_df
      replace f_b_kf := (hs.o g_qo_ln trivial rfl).2.trans f_b_kf
      replace f_m_kf := (hs.o gm trivial rfl).2.trans f_m_kf
      replace f_b_sf := (hs.o g_qo_ln trivial rfl).2.trans f_b_sf
      replace f_m_sf := (hs.o gm trivial rfl).2.trans f_m_sf
      replace f_b_bf := (hs.o g_qo_ln trivial rfl).2.trans f_b_bf
      replace f_m_lst := (hs.o gm trivial rfl).2.trans f_m_lst
      replace f_qtp := (hs.o gx trivial rfl).2.trans f_qtp
      replace f_m_tp := (hs.o gm trivial rfl).2.trans f_m_tp
      replace f_m_dead := (hs.o gm trivial rfl).2.trans f_m_dead
      replace f_m_isj := (hs.o gm trivial rfl).2.trans f_m_isj
      replace f_m_dox := (hs.o gm trivial rfl).2.trans f_m_dox
      replace f_m_doy := (hs.o gm trivial rfl).2.trans f_m_doy
      replace f_qlt := (hs.o g_qw trivial rfl).2.trans f_qlt
      replace f_qlf := (hs.o g_qw trivial rfl).2.trans f_qlf
      replace f_m_wkd := (hs.o gm trivial rfl).2.trans f_m_wkd
      replace f_m_aga := (hs.o gm trivial rfl).2.trans f_m_aga
      replace f_qwo := (hs.o gx trivial rfl).2.trans f_qwo
      replace f_m_ad := (hs.o gm trivial rfl).2.trans f_m_ad
      replace f_m_by := (hs.o gm trivial rfl).2.trans f_m_by
      replace f_m_ho := (hs.o gm trivial rfl).2.trans f_m_ho
      replace f_m_fc := (hs.o gm trivial rfl).2.trans f_m_fc
      replace f_m_nt := (hs.o gm trivial rfl).2.trans f_m_nt
      replace f_m_wt := (hs.o gm trivial rfl).2.trans f_m_wt
      replace f_m_be := (hs.o gm trivial rfl).2.trans f_m_be
      replace f_m_bor := (hs.o gm trivial rfl).2.trans f_m_bor
      replace f_m_kin := (hs.o gm trivial rfl).2.trans f_m_kin
      replace f_m_sum := (hs.o gm trivial rfl).2.trans f_m_sum
      replace f_m_fro := (hs.o gm trivial rfl).2.trans f_m_fro
      replace f_m_fil := (hs.o gm trivial rfl).2.trans f_m_fil
      replace f_m_jud := (hs.o gm trivial rfl).2.trans f_m_jud
      replace pf_qa : ∀ j : Nat, (j : Int) < (h_238.2.1 ax 6).toInt → h_238.2.2 qa j ≠ none := by
        intro j hj; rw [(hs.o gx trivial rfl).1] at hj; rw [(hs.a g_qa rfl j).2]; exact pf_qa j hj
      replace pf_qp : ∀ j : Nat, (j : Int) < (h_238.2.1 ax 8).toInt → h_238.2.2 qp j ≠ none := by
        intro j hj; rw [(hs.o gx trivial rfl).1] at hj; rw [(hs.a g_qp rfl j).2]; exact pf_qp j hj
      replace pf_qc : ∀ j : Nat, (j : Int) < (h_238.2.1 ax 11).toInt → h_238.2.2 qc j ≠ none := by
        intro j hj; rw [(hs.o gx trivial rfl).1] at hj; rw [(hs.a g_qc rfl j).2]; exact pf_qc j hj
      replace pf_qh : ∀ j : Nat, (j : Int) < (h_238.2.1 ax 13).toInt → h_238.2.2 qh j ≠ none := by
        intro j hj; rw [(hs.o gx trivial rfl).1] at hj; rw [(hs.a g_qh rfl j).2]; exact pf_qh j hj
      replace pf_ql : ∀ j : Nat, (j : Int) < (h_238.2.1 qw 0).toInt → h_238.2.2 ql j ≠ none := by
        intro j hj; rw [(hs.o g_qw trivial rfl).1] at hj; rw [(hs.a g_ql rfl j).2]; exact pf_ql j hj
      replace cl_lst : hx_col 8 h_238 ql 0 = c_lst := (hx_col_S hs hTo g_ql tt_40 tt_2 rfl rfl).trans cl_lst
      replace cl_dead : hx_col 40 h_238 qp 7 = c_dead := (hx_col_S hs hTo g_qp tt_44 tt_4 rfl rfl).trans cl_dead
      replace cl_dox : hx_col 40 h_238 qp 5 = c_dox := (hx_col_S hs hTo g_qp tt_44 tt_4 rfl rfl).trans cl_dox
      replace cl_doy : hx_col 40 h_238 qp 6 = c_doy := (hx_col_S hs hTo g_qp tt_44 tt_4 rfl rfl).trans cl_doy
      replace cl_fou : hx_col 100 h_238 qc 10 = c_fou := (hx_col_S hs hTo g_qc tt_45 tt_2 rfl rfl).trans cl_fou
      replace cl_tri : hx_col 100 h_238 qc 9 = c_tri := (hx_col_S hs hTo g_qc tt_45 tt_2 rfl rfl).trans cl_tri
      replace cl_bor : hx_col 40 h_238 qp 1 = F_bor := (hx_col_S hs hTo g_qp tt_44 tt_4 rfl rfl).trans cl_bor
      replace cl_kin : hx_col 40 h_238 qp 2 = F_kin := (hx_col_S hs hTo g_qp tt_44 tt_4 rfl rfl).trans cl_kin
      replace cl_sum : hx_col 100 h_238 qc 6 = F_sum := (hx_col_S hs hTo g_qc tt_45 tt_2 rfl rfl).trans cl_sum
      replace cl_fro : hx_col 100 h_238 qc 7 = F_fro := (hx_col_S hs hTo g_qc tt_45 tt_2 rfl rfl).trans cl_fro
      replace cl_fil : hx_col 100 h_238 qc 8 = F_fil := (hx_col_S hs hTo g_qc tt_45 tt_2 rfl rfl).trans cl_fil
      replace cl_hea : hx_col 100 h_238 qc 11 = F_mh := (hx_col_S hs hTo g_qc tt_45 tt_2 rfl rfl).trans cl_hea
      replace cl_jud : hx_col 100 h_238 qc 12 = F_jud := (hx_col_S hs hTo g_qc tt_45 tt_2 rfl rfl).trans cl_jud
      replace fw_231 : hx_col 40 h_238 qp 8 = w_231 := (hx_col_S hs hTo g_qp tt_44 tt_4 rfl rfl).trans fw_231
      replace nu_qp : hx_num 40 h_238 qp 0 (np.toInt) := hx_num_S hs hTo g_qp tt_44 tt_4 rfl rfl nu_qp
      replace nu_qc : hx_num 100 h_238 qc 0 (c0.toInt) := hx_num_S hs hTo g_qc tt_45 tt_2 rfl rfl nu_qc
      replace sb_list : hx_LQ 8 100 h_238 ql qc := hx_LQ_S hs g_ql g_qc rfl rfl sb_list
      replace hDF : hw_DF h_238 qc qp 2 F_aga c0.toInt := hw_DF_S hs hTo g_qc g_qp tt_45 tt_2 rfl rfl rfl hDF
      replace hRA9 : hv_RA h_238 qa qwo a0.toInt A9 := hv_RA_S hs hTo g_qa g_qwo tt_43 tt_0 rfl rfl rfl rfl rfl rfl (by omega) hRA9
      replace hDP : hw_DF h_238 qc qp 1 F_by c0.toInt := hw_DF_S hs hTo g_qc g_qp tt_45 tt_2 rfl rfl rfl hDP
      replace hAC9 : hv_AC h_238 qc F_ml c0.toInt A9 := hv_AC_S hs hTo g_qc tt_45 tt_2 rfl tt_0 rfl rfl rfl rfl rfl rfl rfl hAC9
      replace hFX : hv_FX 8 4 h_238 qc cF9L c0.toInt := hv_FX_S hs hTo g_qc tt_45 tt_2 rfl rfl rfl rfl hFX
      replace hBX : hv_FX 3 5 h_238 qc F_be c0.toInt := hv_FX_S hs hTo g_qc tt_45 tt_2 rfl rfl rfl rfl hBX
      replace hHL : hv_HL h_238 qh qc F_ho m0.toInt c0.toInt := hv_HL_S hs g_qh g_qc rfl rfl hHL
      replace n_mw : h_238.2.1 mw = F_mw := (funext fun j => (hs.a g_mw rfl j).1).trans n_mw
      replace n_mr : h_238.2.1 mr = F_mr := (funext fun j => (hs.a g_mr rfl j).1).trans n_mr
      replace n_mp : h_238.2.1 mp = F_mp := (funext fun j => (hs.a g_mp rfl j).1).trans n_mp
      replace n_mn : h_238.2.1 mn = F_mn := (funext fun j => (hs.a g_mn rfl j).1).trans n_mn
      replace n_ml : h_238.2.1 ml = F_ml := (funext fun j => (hs.a g_ml rfl j).1).trans n_ml
      replace n_mh : h_238.2.1 mh = F_mh := (funext fun j => (hs.a g_mh rfl j).1).trans n_mh
      replace n_mt : h_238.2.1 mt = F_mt := (funext fun j => (hs.a g_mt rfl j).1).trans n_mt
      replace n_m_fou : h_238.2.1 m_fou = F_m_fou := (funext fun j => (hs.a g_m_fou rfl j).1).trans n_m_fou
      replace n_b_of : h_238.2.1 b_of = B_of := (funext fun j => (hs.a g_b_of rfl j).1).trans n_b_of
      replace n_m_of : h_238.2.1 m_of = F_of := (funext fun j => (hs.a g_m_of rfl j).1).trans n_m_of
      replace n_b_wf : h_238.2.1 b_wf = B_wf := (funext fun j => (hs.a g_b_wf rfl j).1).trans n_b_wf
      replace n_m_wf : h_238.2.1 m_wf = F_wf := (funext fun j => (hs.a g_m_wf rfl j).1).trans n_m_wf
      replace n_b_df : h_238.2.1 b_df = B_df := (funext fun j => (hs.a g_b_df rfl j).1).trans n_b_df
      replace n_m_df : h_238.2.1 m_df = F_df := (funext fun j => (hs.a g_m_df rfl j).1).trans n_m_df
      replace n_b_kf : h_238.2.1 b_kf = B_kf := (funext fun j => (hs.a g_b_kf rfl j).1).trans n_b_kf
      replace n_m_kf : h_238.2.1 m_kf = F_kf := (funext fun j => (hs.a g_m_kf rfl j).1).trans n_m_kf
      replace n_b_sf : h_238.2.1 b_sf = B_sf := (funext fun j => (hs.a g_b_sf rfl j).1).trans n_b_sf
      replace n_m_sf : h_238.2.1 m_sf = F_sf := (funext fun j => (hs.a g_m_sf rfl j).1).trans n_m_sf
      replace n_b_bf : h_238.2.1 b_bf = bfL := (funext fun j => (hs.a g_b_bf rfl j).1).trans n_b_bf
      replace n_lst : h_238.2.1 m_lst = F_lst := (funext fun j => (hs.a g_m_lst rfl j).1).trans n_lst
      replace n_tp : h_238.2.1 m_tp = F_tp := (funext fun j => (hs.a g_m_tp rfl j).1).trans n_tp
      replace n_qtp : h_238.2.1 qtp = F_tp := (funext fun j => (hs.a g_qtp rfl j).1).trans n_qtp
      replace n_dead : h_238.2.1 m_dead = F_dead := (funext fun j => (hs.a g_m_dead rfl j).1).trans n_dead
      replace n_dox : h_238.2.1 m_dox = F_dox := (funext fun j => (hs.a g_m_dox rfl j).1).trans n_dox
      replace n_doy : h_238.2.1 m_doy = F_doy := (funext fun j => (hs.a g_m_doy rfl j).1).trans n_doy
      replace n_qlt : h_238.2.1 qlt = F_qlt := (funext fun j => (hs.a g_qlt rfl j).1).trans n_qlt
      replace n_m_wkd : h_238.2.1 m_wkd = F_m_wkd := (funext fun j => (hs.a g_m_wkd rfl j).1).trans n_m_wkd
      replace n_aga : h_238.2.1 m_aga = F_aga := (funext fun j => (hs.a g_m_aga rfl j).1).trans n_aga
      replace n_ad : h_238.2.1 m_ad = F_ad := (funext fun j => (hs.a g_m_ad rfl j).1).trans n_ad
      replace n_by : h_238.2.1 m_by = F_by := (funext fun j => (hs.a g_m_by rfl j).1).trans n_by
      replace n_ho : h_238.2.1 m_ho = F_ho := (funext fun j => (hs.a g_m_ho rfl j).1).trans n_ho
      replace n_fc : h_238.2.1 m_fc = F_fc := (funext fun j => (hs.a g_m_fc rfl j).1).trans n_fc
      replace n_nt : h_238.2.1 m_nt = F_nt := (funext fun j => (hs.a g_m_nt rfl j).1).trans n_nt
      replace n_wt : h_238.2.1 m_wt = F_wt := (funext fun j => (hs.a g_m_wt rfl j).1).trans n_wt
      replace n_be : h_238.2.1 m_be = F_be := (funext fun j => (hs.a g_m_be rfl j).1).trans n_be
      replace n_bor : h_238.2.1 m_bor = F_bor := (funext fun j => (hs.a g_m_bor rfl j).1).trans n_bor
      replace n_kin : h_238.2.1 m_kin = F_kin := (funext fun j => (hs.a g_m_kin rfl j).1).trans n_kin
      replace n_sum : h_238.2.1 m_sum = F_sum := (funext fun j => (hs.a g_m_sum rfl j).1).trans n_sum
      replace n_fro : h_238.2.1 m_fro = F_fro := (funext fun j => (hs.a g_m_fro rfl j).1).trans n_fro
      replace n_fil : h_238.2.1 m_fil = F_fil := (funext fun j => (hs.a g_m_fil rfl j).1).trans n_fil
      replace n_jud : h_238.2.1 m_jud = F_jud := (funext fun j => (hs.a g_m_jud rfl j).1).trans n_jud
      replace gx := gx.S hs
      replace gm := gm.S hs
      replace g_qa := g_qa.S hs
      replace g_qp := g_qp.S hs
      replace g_qc := g_qc.S hs
      replace g_qh := g_qh.S hs
      replace g_qw := g_qw.S hs
      replace g_ql := g_ql.S hs
      replace g_mw := g_mw.S hs
      replace g_mr := g_mr.S hs
      replace g_mp := g_mp.S hs
      replace g_mn := g_mn.S hs
      replace g_ml := g_ml.S hs
      replace g_mh := g_mh.S hs
      replace g_mt := g_mt.S hs
      replace g_m_fou := g_m_fou.S hs
      replace g_qo_ln := g_qo_ln.S hs
      replace g_b_of := g_b_of.S hs
      replace g_m_of := g_m_of.S hs
      replace g_b_wf := g_b_wf.S hs
      replace g_m_wf := g_m_wf.S hs
      replace g_b_df := g_b_df.S hs
      replace g_m_df := g_m_df.S hs
      replace g_b_kf := g_b_kf.S hs
      replace g_m_kf := g_m_kf.S hs
      replace g_b_sf := g_b_sf.S hs
      replace g_m_sf := g_m_sf.S hs
      replace g_b_bf := g_b_bf.S hs
      replace g_m_lst := g_m_lst.S hs
      replace g_qtp := g_qtp.S hs
      replace g_m_tp := g_m_tp.S hs
      replace g_m_dead := g_m_dead.S hs
      replace g_m_isj := g_m_isj.S hs
      replace g_m_dox := g_m_dox.S hs
      replace g_m_doy := g_m_doy.S hs
      replace g_qlt := g_qlt.S hs
      replace g_qlf := g_qlf.S hs
      replace g_m_wkd := g_m_wkd.S hs
      replace g_m_aga := g_m_aga.S hs
      replace g_qwo := g_qwo.S hs
      replace g_m_ad := g_m_ad.S hs
      replace g_m_by := g_m_by.S hs
      replace g_m_ho := g_m_ho.S hs
      replace g_m_fc := g_m_fc.S hs
      replace g_m_nt := g_m_nt.S hs
      replace g_m_wt := g_m_wt.S hs
      replace g_m_be := g_m_be.S hs
      replace g_m_bor := g_m_bor.S hs
      replace g_m_kin := g_m_kin.S hs
      replace g_m_sum := g_m_sum.S hs
      replace g_m_fro := g_m_fro.S hs
      replace g_m_fil := g_m_fil.S hs
      replace g_m_jud := g_m_jud.S hs
      have fw_242 : h_238.2.1 m_isj = w_242 := fw_242
      refine lv_pop hx hb dL_law_543 rfl ?_
      refine lv_goto (tgt := 1379) hx hb dL_law_544 (by decide) ?_
      obtain ⟨heq, hq_isj⟩ := hx_jk (by omega) eq_isj hr_230 hr_241
      refine W.widen (k := CC + 3) (n := SS + 179) (by omega) (by omega) ?_
      exact kk L_237 h_238 H locs ls hW ⟨hT, gx, gm, ⟨f_x_now.trans f_m_now.symm, f_x_personCount.trans f_m_persons.symm, f_x_claimCount.trans f_m_claims.symm, f_x_tapeLength.trans f_m_taped.symm, f_x_actCount.trans f_m_acts.symm, f_x_heardCount.trans f_m_heardMany.symm, hx_ob f_qo_ln (f_o_ln.trans f_m_lines.symm), hx_ob f_qw (f_o_lsd.trans f_m_listed.symm), hx_ob f_qw (f_o_wkm.trans f_m_walkedMany.symm), hx_ob f_qp (by rw [f_x_personCount]; exact nu_qp), hx_ob f_qc (by rw [f_x_claimCount]; exact nu_qc), (fun b a r hb ha hr => by obtain rfl : qo_ln = b := Option.some.inj (f_qo_ln.symm.trans hb); obtain rfl : b_of = a := Option.some.inj (f_b_of.symm.trans ha); obtain rfl : m_of = r := Option.some.inj (f_m_of.symm.trans hr); rw [n_b_of, n_m_of, f_o_ln]; exact eb_of), (fun b a r hb ha hr => by obtain rfl : qo_ln = b := Option.some.inj (f_qo_ln.symm.trans hb); obtain rfl : b_wf = a := Option.some.inj (f_b_wf.symm.trans ha); obtain rfl : m_wf = r := Option.some.inj (f_m_wf.symm.trans hr); rw [n_b_wf, n_m_wf, f_o_ln]; exact eb_wf), (fun b a r hb ha hr => by obtain rfl : qo_ln = b := Option.some.inj (f_qo_ln.symm.trans hb); obtain rfl : b_df = a := Option.some.inj (f_b_df.symm.trans ha); obtain rfl : m_df = r := Option.some.inj (f_m_df.symm.trans hr); rw [n_b_df, n_m_df, f_o_ln]; exact eb_df), (fun b a r hb ha hr => by obtain rfl : qo_ln = b := Option.some.inj (f_qo_ln.symm.trans hb); obtain rfl : b_kf = a := Option.some.inj (f_b_kf.symm.trans ha); obtain rfl : m_kf = r := Option.some.inj (f_m_kf.symm.trans hr); rw [n_b_kf, n_m_kf, f_o_ln]; exact eb_kf), (fun b a r hb ha hr => by obtain rfl : qo_ln = b := Option.some.inj (f_qo_ln.symm.trans hb); obtain rfl : b_sf = a := Option.some.inj (f_b_sf.symm.trans ha); obtain rfl : m_sf = r := Option.some.inj (f_m_sf.symm.trans hr); rw [n_b_sf, n_m_sf, f_o_ln]; exact eb_sf), (fun b a r hb ha hr => by obtain rfl : qo_ln = b := Option.some.inj (f_qo_ln.symm.trans hb); obtain rfl : b_df = a := Option.some.inj (f_b_df.symm.trans ha); obtain rfl : b_bf = r := Option.some.inj (f_b_bf.symm.trans hr); rw [n_b_df, n_b_bf, f_o_ln]; exact ⟨hBD, hDY⟩), (fun w q c hw hq hc => by obtain rfl : qw = w := Option.some.inj (f_qw.symm.trans hw); obtain rfl : ql = q := Option.some.inj (f_ql.symm.trans hq); obtain rfl : qc = c := Option.some.inj (f_qc.symm.trans hc); exact sb_list), (fun w q r hw hq hr => by obtain rfl : qw = w := Option.some.inj (f_qw.symm.trans hw); obtain rfl : ql = q := Option.some.inj (f_ql.symm.trans hq); obtain rfl : m_lst = r := Option.some.inj (f_m_lst.symm.trans hr); rw [cl_lst, n_lst]; exact eq_lst), (fun w q r hw hq hr => by obtain rfl : qw = w := Option.some.inj (f_qw.symm.trans hw); obtain rfl : qlt = q := Option.some.inj (f_qlt.symm.trans hq); obtain rfl : m_wkd = r := Option.some.inj (f_m_wkd.symm.trans hr); rw [n_qlt, n_m_wkd, f_o_wkm]; exact eb_wkd), (fun c q a hc hq ha => by obtain rfl : qc = c := Option.some.inj (f_qc.symm.trans hc); obtain rfl : qp = q := Option.some.inj (f_qp.symm.trans hq); obtain rfl : m_aga = a := Option.some.inj (f_m_aga.symm.trans ha); rw [n_aga, f_x_claimCount]; exact hw_DF_e hDF rfl rfl), (fun q r hq hr => by obtain rfl : qtp = q := Option.some.inj (f_qtp.symm.trans hq); obtain rfl : m_tp = r := Option.some.inj (f_m_tp.symm.trans hr); exact n_qtp.trans n_tp.symm), (fun q w a b c d e p hq hw ha hb hc hd he hp => by obtain rfl : qa = q := Option.some.inj (f_qa.symm.trans hq); obtain rfl : qwo = w := Option.some.inj (f_qwo.symm.trans hw); obtain rfl : m_ad = a := Option.some.inj (f_m_ad.symm.trans ha); obtain rfl : mr = b := Option.some.inj (f_mr.symm.trans hb); obtain rfl : mn = c := Option.some.inj (f_mn.symm.trans hc); obtain rfl : mp = d := Option.some.inj (f_mp.symm.trans hd); obtain rfl : qc = e := Option.some.inj (f_qc.symm.trans he); obtain rfl : ml = p := Option.some.inj (f_ml.symm.trans hp); exact ⟨_, by rw [f_x_actCount]; exact hRA9, by rw [f_x_actCount, n_ad, n_mr, n_mn, n_mp]; exact hCA9, by rw [n_ml, f_x_claimCount]; exact hv_AC_e hAC9 rfl rfl rfl, hAB⟩), (fun c q a hc hq ha => by obtain rfl : qc = c := Option.some.inj (f_qc.symm.trans hc); obtain rfl : qp = q := Option.some.inj (f_qp.symm.trans hq); obtain rfl : m_by = a := Option.some.inj (f_m_by.symm.trans ha); rw [n_by, f_x_claimCount]; exact hw_DF_e hDP rfl rfl), (fun q c a hq hc ha => by obtain rfl : qh = q := Option.some.inj (f_qh.symm.trans hq); obtain rfl : qc = c := Option.some.inj (f_qc.symm.trans hc); obtain rfl : m_ho = a := Option.some.inj (f_m_ho.symm.trans ha); rw [n_ho, f_x_heardCount, f_x_claimCount]; exact hv_HL_e hHL rfl rfl rfl), (fun a b ha hb => by obtain rfl : m_ho = a := Option.some.inj (f_m_ho.symm.trans ha); obtain rfl : mh = b := Option.some.inj (f_mh.symm.trans hb); rw [n_ho, n_mh, f_m_heardMany, f_m_claims]; exact hHO9), (fun c a b d e f hc ha hb hd he hf => by obtain rfl : qc = c := Option.some.inj (f_qc.symm.trans hc); obtain rfl : m_fc = a := Option.some.inj (f_m_fc.symm.trans ha); obtain rfl : m_nt = b := Option.some.inj (f_m_nt.symm.trans hb); obtain rfl : m_wt = d := Option.some.inj (f_m_wt.symm.trans hd); obtain rfl : m_sum = e := Option.some.inj (f_m_sum.symm.trans he); obtain rfl : mh = f := Option.some.inj (f_mh.symm.trans hf); exact ⟨cF9L, by rw [f_x_claimCount]; exact hFX, by rw [n_fc, n_nt, n_wt, n_sum, n_mh, f_x_claimCount]; exact hFR9⟩), (fun c a hc ha => by obtain rfl : qc = c := Option.some.inj (f_qc.symm.trans hc); obtain rfl : m_be = a := Option.some.inj (f_m_be.symm.trans ha); rw [n_be, f_x_claimCount]; exact hv_FX_e hBX rfl rfl), hx_ob2 f_qp f_m_bor (cl_bor.trans n_bor.symm), hx_ob2 f_qp f_m_kin (cl_kin.trans n_kin.symm), hx_ob2 f_qc f_m_sum (cl_sum.trans n_sum.symm), hx_ob2 f_qc f_m_fro (cl_fro.trans n_fro.symm), hx_ob2 f_qc f_m_fil (cl_fil.trans n_fil.symm), hx_ob2 f_qc f_mh (cl_hea.trans n_mh.symm), hx_ob2 f_qc f_m_jud (cl_jud.trans n_jud.symm), hx_ob2 f_qp f_m_dead (by rw [cl_dead, n_dead]; exact eq_dead), hx_ob2 f_qp f_m_isj (by rw [fw_231, fw_242]; exact hq_isj), hx_ob2 f_qp f_m_dox (by rw [cl_dox, n_dox]; exact eq_dox), hx_ob2 f_qp f_m_doy (by rw [cl_doy, n_doy]; exact eq_doy), hx_ob2 f_qc f_m_fou (by rw [cl_fou, n_m_fou]; exact eq_fou), hx_ob2 f_qc f_mt (by rw [cl_tri, n_mt]; exact eq_tri), trivial⟩, ⟨hx_ob f_qa pf_qa, hx_ob f_qp pf_qp, hx_ob f_qc pf_qc, hx_ob f_qh pf_qh, (fun w q hw hq => by obtain rfl : qw = w := Option.some.inj (f_qw.symm.trans hw); obtain rfl : ql = q := Option.some.inj (f_ql.symm.trans hq); exact pf_ql)⟩, ⟨hx_ob f_mw (by rw [n_mw]; exact hwd), hx_ob f_mr (by rw [n_mr, f_m_acts]; exact hWK), hx_ob2 f_mp f_mn (by rw [n_mp, n_mn, f_m_acts]; exact hRP), hx_ob f_ml (by rw [n_ml, f_m_claims, f_m_acts]; exact hPL), hx_ob f_mh (by rw [n_mh, f_m_heardMany, f_m_claims]; exact hHC), hx_ob f_mt (by rw [n_mt]; exact (hx_TR_le hTR (by omega))), hx_ob2 f_mh f_m_fou (by rw [n_mh, n_m_fou, f_m_claims]; exact hHF)⟩⟩ hl
    refine hb_if_eq (zx := x_224.toInt) (tgt := 539) hx hb rfl dL_law_532 (by decide) (fun c_243 => ?_) (fun c_243 => ?_)
    · skip
      refine lv_iconst (v := 0) hx hb dL_law_539 (by decide) ?_
      have zj_540 : (0 : Int32).toInt = 0 := by decide
      exact jn_540 (0 : Int32) ls (by decide) (by decide) (by omega) hl
    · skip
      refine lv_iconst (v := 1) hx hb dL_law_535 (by decide) ?_
      refine lv_goto (tgt := 540) hx hb dL_law_536 (by decide) ?_
      have zj_540 : (1 : Int32).toInt = 1 := by decide
      exact jn_540 (1 : Int32) ls (by decide) (by decide) (by omega) hl
  refine hb_if_eq (zx := x_224.toInt) (tgt := 516) hx hb rfl dL_law_509 (by decide) (fun c_244 => ?_) (fun c_244 => ?_)
  · skip
    refine lv_iconst (v := 0) hx hb dL_law_516 (by decide) ?_
    have zj_517 : (0 : Int32).toInt = 0 := by decide
    exact jn_517 (0 : Int32) ls (by decide) (by decide) (by omega) hl
  · skip
    refine lv_iconst (v := 1) hx hb dL_law_512 (by decide) ?_
    refine lv_goto (tgt := 517) hx hb dL_law_513 (by decide) ?_
    have zj_517 : (1 : Int32).toInt = 1 := by decide
    exact jn_517 (1 : Int32) ls (by decide) (by decide) (by omega) hl

set_option maxHeartbeats 4000000 in
set_option maxRecDepth 100000 in
theorem law_case_9 {p : Program} {e : Env} {s : State} {m : MethodId} {below : List Frame} {meth : Method} {c : Code} (l : Launch) {b LN : Nat} {xs : Nat → Int32} (hx : p.tables.exec = Jvm.exec) (hb : c.code = code) (hr : meth.sig.returnType = ret) (hlocks : meth.locks = false) (hml : c.maxLocals = 4) (hown : s.vm.findClass "SmallCourtLaw" = some m.cls) (hts : ∀ w ∈ hx_all, w.before #[Value.ref b] s = true) (hX : va_X b LN xs s s.heap) (hbl : b < s.heap.size) (hbA : ¬ s.heap.size ≤ b) (hLN : LN ≤ 3584) (dC : Nat → ClassId) (dI : Nat → Nat → Nat) (dA : Nat → ClassId) (b0 : hx_z) (ax am : Nat) (T1 : Int) (hT0 : 0 ≤ T1) (hT1 : T1 ≤ 511) (i : Int32) (hi0 : 0 ≤ i.toInt) (hiL : i.toInt + 7 ≤ LN) (CC SS : Nat) (hCC : CC + 3 ≤ 600000) (hSS : SS + 179 ≤ 7302250) (L1 : List Nat) (hl1 : hx_h) (H : Heap) (locs : List Loc) (ls : Array Slot) (hW : hx_W T_tb (P_ty dA) (dC, dI) vwCl (fun q : Nat => s.heap.size ≤ q) s.heap L1 hl1 s H locs) (hZ : hx_Xt (fun q : Nat => s.heap.size ≤ q) b0 s) (hI : hx_IV T1 ax am L1 hl1) (hl : lv_has ls 4 [(3, .int i), (2, .ref am), (1, .ref ax), (0, .ref b)]) (kk : ∀ (L2 : List Nat) (h2 : hx_h) (H2 : Heap) (locs2 : List Loc) (ls2 : Array Slot), hx_W T_tb (P_ty dA) (dC, dI) vwCl (fun q : Nat => s.heap.size ≤ q) s.heap L2 h2 s H2 locs2 → hx_IV (T1 + 1) ax am L2 h2 → lv_has ls2 4 [(3, .int i), (2, .ref am), (1, .ref ax), (0, .ref b)] → W p l e room_1 s m #[Value.ref b] below meth c H2 locs2 (CC + 3) (SS + 179) (lw_Z below #[Value.ref b] s) (F0 m 1379 ls2 [])) : W p l e room_1 s m #[Value.ref b] below meth c H locs CC SS (lw_Z below #[Value.ref b] s) (F0 m 547 ls []) := by
  obtain ⟨hT, gx, gm, ⟨he_nw, he_np, he_c0, he_tl, he_a0, he_m0, ho_ln, ho_lsd, ho_wkm, hn_qp, hn_qc, hk_of, hk_wf, hk_df, hk_kf, hk_sf, hkBD, hLQ, hLE, hkWD, hkDF, hkTP, hkAC, hkDP, hkHL, hkHO, hkFX, hkBX, hf_bor, hf_kin, hf_sum, hf_fro, hf_fil, hf_hea, hf_jud, hc_dead, hc_isj, hc_dox, hc_doy, hc_fou, hc_tri, -⟩, ⟨ia, ip, ic, ih, il⟩, ⟨jw, jr, jp, jl, jh, jt, jf⟩⟩ := hI
  obtain ⟨qa, f_qa, g_qa⟩ := hx_rf hT gx tt_9 (k := 5) (u := 43) rfl
  have pf_qa := ia qa f_qa
  obtain ⟨qp, f_qp, g_qp⟩ := hx_rf hT gx tt_9 (k := 7) (u := 44) rfl
  have pf_qp := ip qp f_qp
  obtain ⟨qc, f_qc, g_qc⟩ := hx_rf hT gx tt_9 (k := 10) (u := 45) rfl
  have pf_qc := ic qc f_qc
  obtain ⟨qh, f_qh, g_qh⟩ := hx_rf hT gx tt_9 (k := 12) (u := 46) rfl
  have pf_qh := ih qh f_qh
  obtain ⟨qw, f_qw, g_qw⟩ := hx_rf hT gx tt_9 (k := 19) (u := 8) rfl
  obtain ⟨ql, f_ql, g_ql⟩ := hx_rf hT g_qw tt_8 (k := 3) (u := 40) rfl
  have pf_ql := il qw ql f_qw f_ql
  obtain ⟨nw, f_m_now⟩ : ∃ y : Int32, hl1.2.1 am 0 = y := ⟨_, rfl⟩
  have b_nw := hT.gi gm tt_10 (k := 0) rfl
  rw [f_m_now] at b_nw
  have b_nw : 0 ≤ nw.toInt ∧ nw.toInt ≤ 7999 := b_nw
  obtain ⟨np, f_m_persons⟩ : ∃ y : Int32, hl1.2.1 am 20 = y := ⟨_, rfl⟩
  have b_np := hT.gi gm tt_10 (k := 20) rfl
  rw [f_m_persons] at b_np
  have b_np : 0 ≤ np.toInt ∧ np.toInt ≤ 40 := b_np
  obtain ⟨c0, f_m_claims⟩ : ∃ y : Int32, hl1.2.1 am 36 = y := ⟨_, rfl⟩
  have b_c0 := hT.gi gm tt_10 (k := 36) rfl
  rw [f_m_claims] at b_c0
  have b_c0 : 0 ≤ c0.toInt ∧ c0.toInt ≤ 100 := b_c0
  obtain ⟨tl, f_m_taped⟩ : ∃ y : Int32, hl1.2.1 am 7 = y := ⟨_, rfl⟩
  have b_tl := hT.gi gm tt_10 (k := 7) rfl
  rw [f_m_taped] at b_tl
  have b_tl : 0 ≤ tl.toInt ∧ tl.toInt ≤ 400 := b_tl
  obtain ⟨a0, f_m_acts⟩ : ∃ y : Int32, hl1.2.1 am 1 = y := ⟨_, rfl⟩
  have b_a0 := hT.gi gm tt_10 (k := 1) rfl
  rw [f_m_acts] at b_a0
  have b_a0 : 0 ≤ a0.toInt ∧ a0.toInt ≤ 8 := b_a0
  obtain ⟨m0, f_m_heardMany⟩ : ∃ y : Int32, hl1.2.1 am 57 = y := ⟨_, rfl⟩
  have b_m0 := hT.gi gm tt_10 (k := 57) rfl
  rw [f_m_heardMany] at b_m0
  have b_m0 : 0 ≤ m0.toInt ∧ m0.toInt ≤ 100 := b_m0
  obtain ⟨ln, f_m_lines⟩ : ∃ y : Int32, hl1.2.1 am 29 = y := ⟨_, rfl⟩
  have b_ln := hT.gi gm tt_10 (k := 29) rfl
  rw [f_m_lines] at b_ln
  have b_ln : 0 ≤ ln.toInt ∧ ln.toInt ≤ 400 := b_ln
  obtain ⟨lsd, f_m_listed⟩ : ∃ y : Int32, hl1.2.1 am 90 = y := ⟨_, rfl⟩
  have b_lsd := hT.gi gm tt_10 (k := 90) rfl
  rw [f_m_listed] at b_lsd
  have b_lsd : 0 ≤ lsd.toInt ∧ lsd.toInt ≤ 8 := b_lsd
  obtain ⟨wkm, f_m_walkedMany⟩ : ∃ y : Int32, hl1.2.1 am 92 = y := ⟨_, rfl⟩
  have b_wkm := hT.gi gm tt_10 (k := 92) rfl
  rw [f_m_walkedMany] at b_wkm
  have b_wkm : 0 ≤ wkm.toInt ∧ wkm.toInt ≤ 8 := b_wkm
  have f_x_now : hl1.2.1 ax 2 = nw := he_nw.trans f_m_now
  have f_x_personCount : hl1.2.1 ax 8 = np := he_np.trans f_m_persons
  have f_x_claimCount : hl1.2.1 ax 11 = c0 := he_c0.trans f_m_claims
  have f_x_tapeLength : hl1.2.1 ax 1 = tl := he_tl.trans f_m_taped
  have f_x_actCount : hl1.2.1 ax 6 = a0 := he_a0.trans f_m_acts
  have f_x_heardCount : hl1.2.1 ax 13 = m0 := he_m0.trans f_m_heardMany
  obtain ⟨mw, f_mw, g_mw⟩ := hx_rf hT gm tt_10 (k := 19) (u := 57) rfl
  obtain ⟨F_mw, n_mw⟩ : ∃ g : Nat → Int32, hl1.2.1 mw = g := ⟨_, rfl⟩
  obtain ⟨mr, f_mr, g_mr⟩ := hx_rf hT gm tt_10 (k := 3) (u := 50) rfl
  obtain ⟨F_mr, n_mr⟩ : ∃ g : Nat → Int32, hl1.2.1 mr = g := ⟨_, rfl⟩
  obtain ⟨mp, f_mp, g_mp⟩ := hx_rf hT gm tt_10 (k := 5) (u := 52) rfl
  obtain ⟨F_mp, n_mp⟩ : ∃ g : Nat → Int32, hl1.2.1 mp = g := ⟨_, rfl⟩
  obtain ⟨mn, f_mn, g_mn⟩ := hx_rf hT gm tt_10 (k := 4) (u := 51) rfl
  obtain ⟨F_mn, n_mn⟩ : ∃ g : Nat → Int32, hl1.2.1 mn = g := ⟨_, rfl⟩
  obtain ⟨ml, f_ml, g_ml⟩ := hx_rf hT gm tt_10 (k := 44) (u := 79) rfl
  obtain ⟨F_ml, n_ml⟩ : ∃ g : Nat → Int32, hl1.2.1 ml = g := ⟨_, rfl⟩
  obtain ⟨mh, f_mh, g_mh⟩ := hx_rf hT gm tt_10 (k := 47) (u := 82) rfl
  obtain ⟨F_mh, n_mh⟩ : ∃ g : Nat → Int32, hl1.2.1 mh = g := ⟨_, rfl⟩
  obtain ⟨mt, f_mt, g_mt⟩ := hx_rf hT gm tt_10 (k := 45) (u := 80) rfl
  obtain ⟨F_mt, n_mt⟩ : ∃ g : Nat → Int32, hl1.2.1 mt = g := ⟨_, rfl⟩
  obtain ⟨m_fou, f_m_fou, g_m_fou⟩ := hx_rf hT gm tt_10 (k := 46) (u := 81) rfl
  obtain ⟨F_m_fou, n_m_fou⟩ : ∃ g : Nat → Int32, hl1.2.1 m_fou = g := ⟨_, rfl⟩
  obtain ⟨qo_ln, f_qo_ln, g_qo_ln⟩ := hx_rf hT gx tt_9 (k := 9) (u := 1) rfl
  have f_o_ln : hl1.2.1 qo_ln 0 = ln := (ho_ln qo_ln f_qo_ln).trans f_m_lines
  have f_o_lsd : hl1.2.1 qw 0 = lsd := (ho_lsd qw f_qw).trans f_m_listed
  have f_o_wkm : hl1.2.1 qw 1 = wkm := (ho_wkm qw f_qw).trans f_m_walkedMany
  have nu_qp := hn_qp qp f_qp; rw [f_x_personCount] at nu_qp
  have nu_qc := hn_qc qc f_qc; rw [f_x_claimCount] at nu_qc
  obtain ⟨b_of, f_b_of, g_b_of⟩ := hx_rf hT g_qo_ln tt_1 (k := 1) (u := 13) rfl
  obtain ⟨B_of, n_b_of⟩ : ∃ g : Nat → Int32, hl1.2.1 b_of = g := ⟨_, rfl⟩
  obtain ⟨m_of, f_m_of, g_m_of⟩ := hx_rf hT gm tt_10 (k := 30) (u := 66) rfl
  obtain ⟨F_of, n_m_of⟩ : ∃ g : Nat → Int32, hl1.2.1 m_of = g := ⟨_, rfl⟩
  have eb_of := hk_of qo_ln b_of m_of f_qo_ln f_b_of f_m_of; rw [n_b_of, n_m_of, f_o_ln] at eb_of
  obtain ⟨b_wf, f_b_wf, g_b_wf⟩ := hx_rf hT g_qo_ln tt_1 (k := 2) (u := 14) rfl
  obtain ⟨B_wf, n_b_wf⟩ : ∃ g : Nat → Int32, hl1.2.1 b_wf = g := ⟨_, rfl⟩
  obtain ⟨m_wf, f_m_wf, g_m_wf⟩ := hx_rf hT gm tt_10 (k := 31) (u := 67) rfl
  obtain ⟨F_wf, n_m_wf⟩ : ∃ g : Nat → Int32, hl1.2.1 m_wf = g := ⟨_, rfl⟩
  have eb_wf := hk_wf qo_ln b_wf m_wf f_qo_ln f_b_wf f_m_wf; rw [n_b_wf, n_m_wf, f_o_ln] at eb_wf
  obtain ⟨b_df, f_b_df, g_b_df⟩ := hx_rf hT g_qo_ln tt_1 (k := 3) (u := 15) rfl
  obtain ⟨B_df, n_b_df⟩ : ∃ g : Nat → Int32, hl1.2.1 b_df = g := ⟨_, rfl⟩
  obtain ⟨m_df, f_m_df, g_m_df⟩ := hx_rf hT gm tt_10 (k := 32) (u := 68) rfl
  obtain ⟨F_df, n_m_df⟩ : ∃ g : Nat → Int32, hl1.2.1 m_df = g := ⟨_, rfl⟩
  have eb_df := hk_df qo_ln b_df m_df f_qo_ln f_b_df f_m_df; rw [n_b_df, n_m_df, f_o_ln] at eb_df
  obtain ⟨b_kf, f_b_kf, g_b_kf⟩ := hx_rf hT g_qo_ln tt_1 (k := 4) (u := 16) rfl
  obtain ⟨B_kf, n_b_kf⟩ : ∃ g : Nat → Int32, hl1.2.1 b_kf = g := ⟨_, rfl⟩
  obtain ⟨m_kf, f_m_kf, g_m_kf⟩ := hx_rf hT gm tt_10 (k := 33) (u := 69) rfl
  obtain ⟨F_kf, n_m_kf⟩ : ∃ g : Nat → Int32, hl1.2.1 m_kf = g := ⟨_, rfl⟩
  have eb_kf := hk_kf qo_ln b_kf m_kf f_qo_ln f_b_kf f_m_kf; rw [n_b_kf, n_m_kf, f_o_ln] at eb_kf
  obtain ⟨b_sf, f_b_sf, g_b_sf⟩ := hx_rf hT g_qo_ln tt_1 (k := 5) (u := 17) rfl
  obtain ⟨B_sf, n_b_sf⟩ : ∃ g : Nat → Int32, hl1.2.1 b_sf = g := ⟨_, rfl⟩
  obtain ⟨m_sf, f_m_sf, g_m_sf⟩ := hx_rf hT gm tt_10 (k := 34) (u := 70) rfl
  obtain ⟨F_sf, n_m_sf⟩ : ∃ g : Nat → Int32, hl1.2.1 m_sf = g := ⟨_, rfl⟩
  have eb_sf := hk_sf qo_ln b_sf m_sf f_qo_ln f_b_sf f_m_sf; rw [n_b_sf, n_m_sf, f_o_ln] at eb_sf
  obtain ⟨b_bf, f_b_bf, g_b_bf⟩ := hx_rf hT g_qo_ln tt_1 (k := 6) (u := 18) rfl
  obtain ⟨bfL, n_b_bf⟩ : ∃ g : Nat → Int32, hl1.2.1 b_bf = g := ⟨_, rfl⟩
  obtain ⟨hBD, hDY⟩ := hkBD qo_ln b_df b_bf f_qo_ln f_b_df f_b_bf; rw [n_b_df, n_b_bf, f_o_ln] at hBD; rw [n_b_df, f_o_ln] at hDY
  have hBDm := hy_BD_c eb_df hBD
  have hDYm : hy_DY F_df ln.toInt.toNat := fun x hx => by rw [← eb_df x hx]; exact hDY x hx
  have sb_list := hLQ qw ql qc f_qw f_ql f_qc
  obtain ⟨m_lst, f_m_lst, g_m_lst⟩ := hx_rf hT gm tt_10 (k := 91) (u := 112) rfl
  obtain ⟨F_lst, n_lst⟩ : ∃ g : Nat → Int32, hl1.2.1 m_lst = g := ⟨_, rfl⟩
  obtain ⟨c_lst, cl_lst⟩ : ∃ g : Nat → Int32, hx_col 8 hl1 ql 0 = g := ⟨_, rfl⟩
  have eq_lst := hLE qw ql m_lst f_qw f_ql f_m_lst; rw [cl_lst, n_lst] at eq_lst
  obtain ⟨qtp, f_qtp, g_qtp⟩ := hx_rf hT gx tt_9 (k := 0) (u := 42) rfl
  obtain ⟨m_tp, f_m_tp, g_m_tp⟩ := hx_rf hT gm tt_10 (k := 6) (u := 53) rfl
  obtain ⟨F_tp, n_tp⟩ : ∃ g : Nat → Int32, hl1.2.1 m_tp = g := ⟨_, rfl⟩
  have n_qtp : hl1.2.1 qtp = F_tp := (hkTP qtp m_tp f_qtp f_m_tp).trans n_tp
  obtain ⟨c_dead, cl_dead⟩ : ∃ g : Nat → Int32, hx_col 40 hl1 qp 7 = g := ⟨_, rfl⟩
  obtain ⟨m_dead, f_m_dead, g_m_dead⟩ := hx_rf hT gm tt_10 (k := 27) (u := 64) rfl
  obtain ⟨F_dead, n_dead⟩ : ∃ g : Nat → Int32, hl1.2.1 m_dead = g := ⟨_, rfl⟩
  have eq_dead := hc_dead qp m_dead f_qp f_m_dead; rw [cl_dead, n_dead] at eq_dead
  have z_dead : np.toInt.toNat < 40 → c_dead np.toInt.toNat = 0 := fun hj => hx_num_z nu_qp cl_dead hj (by omega)
  obtain ⟨c_isj, cl_isj⟩ : ∃ g : Nat → Int32, hx_col 40 hl1 qp 8 = g := ⟨_, rfl⟩
  obtain ⟨m_isj, f_m_isj, g_m_isj⟩ := hx_rf hT gm tt_10 (k := 28) (u := 65) rfl
  obtain ⟨F_isj, n_isj⟩ : ∃ g : Nat → Int32, hl1.2.1 m_isj = g := ⟨_, rfl⟩
  have eq_isj := hc_isj qp m_isj f_qp f_m_isj; rw [cl_isj, n_isj] at eq_isj
  have z_isj : np.toInt.toNat < 40 → c_isj np.toInt.toNat = 0 := fun hj => hx_num_z nu_qp cl_isj hj (by omega)
  obtain ⟨c_dox, cl_dox⟩ : ∃ g : Nat → Int32, hx_col 40 hl1 qp 5 = g := ⟨_, rfl⟩
  obtain ⟨m_dox, f_m_dox, g_m_dox⟩ := hx_rf hT gm tt_10 (k := 24) (u := 61) rfl
  obtain ⟨F_dox, n_dox⟩ : ∃ g : Nat → Int32, hl1.2.1 m_dox = g := ⟨_, rfl⟩
  have eq_dox := hc_dox qp m_dox f_qp f_m_dox; rw [cl_dox, n_dox] at eq_dox
  have z_dox : np.toInt.toNat < 40 → c_dox np.toInt.toNat = 0 := fun hj => hx_num_z nu_qp cl_dox hj (by omega)
  obtain ⟨c_doy, cl_doy⟩ : ∃ g : Nat → Int32, hx_col 40 hl1 qp 6 = g := ⟨_, rfl⟩
  obtain ⟨m_doy, f_m_doy, g_m_doy⟩ := hx_rf hT gm tt_10 (k := 25) (u := 62) rfl
  obtain ⟨F_doy, n_doy⟩ : ∃ g : Nat → Int32, hl1.2.1 m_doy = g := ⟨_, rfl⟩
  have eq_doy := hc_doy qp m_doy f_qp f_m_doy; rw [cl_doy, n_doy] at eq_doy
  have z_doy : np.toInt.toNat < 40 → c_doy np.toInt.toNat = 0 := fun hj => hx_num_z nu_qp cl_doy hj (by omega)
  obtain ⟨c_fou, cl_fou⟩ : ∃ g : Nat → Int32, hx_col 100 hl1 qc 10 = g := ⟨_, rfl⟩
  have eq_fou := hc_fou qc m_fou f_qc f_m_fou; rw [cl_fou, n_m_fou] at eq_fou
  have z_fou : c0.toInt.toNat < 100 → c_fou c0.toInt.toNat = 0 := fun hj => hx_num_z nu_qc cl_fou hj (by omega)
  obtain ⟨c_tri, cl_tri⟩ : ∃ g : Nat → Int32, hx_col 100 hl1 qc 9 = g := ⟨_, rfl⟩
  have eq_tri := hc_tri qc mt f_qc f_mt; rw [cl_tri, n_mt] at eq_tri
  have z_tri : c0.toInt.toNat < 100 → c_tri c0.toInt.toNat = 0 := fun hj => hx_num_z nu_qc cl_tri hj (by omega)
  obtain ⟨qlt, f_qlt, g_qlt⟩ := hx_rf hT g_qw tt_8 (k := 2) (u := 39) rfl
  obtain ⟨qlf, f_qlf, g_qlf⟩ := hx_rf hT g_qw tt_8 (k := 4) (u := 41) rfl
  obtain ⟨m_wkd, f_m_wkd, g_m_wkd⟩ := hx_rf hT gm tt_10 (k := 93) (u := 113) rfl
  obtain ⟨F_qlt, n_qlt⟩ : ∃ g : Nat → Int32, hl1.2.1 qlt = g := ⟨_, rfl⟩
  obtain ⟨F_m_wkd, n_m_wkd⟩ : ∃ g : Nat → Int32, hl1.2.1 m_wkd = g := ⟨_, rfl⟩
  have eb_wkd := hkWD qw qlt m_wkd f_qw f_qlt f_m_wkd; rw [n_qlt, n_m_wkd, f_o_wkm] at eb_wkd
  obtain ⟨m_aga, f_m_aga, g_m_aga⟩ := hx_rf hT gm tt_10 (k := 38) (u := 73) rfl
  obtain ⟨F_aga, n_aga⟩ : ∃ g : Nat → Int32, hl1.2.1 m_aga = g := ⟨_, rfl⟩
  have hDF := hkDF qc qp m_aga f_qc f_qp f_m_aga; rw [n_aga, f_x_claimCount] at hDF
  obtain ⟨qwo, f_qwo, g_qwo⟩ := hx_rf hT gx tt_9 (k := 4) (u := 0) rfl
  obtain ⟨m_ad, f_m_ad, g_m_ad⟩ := hx_rf hT gm tt_10 (k := 2) (u := 49) rfl
  obtain ⟨F_ad, n_ad⟩ : ∃ g : Nat → Int32, hl1.2.1 m_ad = g := ⟨_, rfl⟩
  obtain ⟨A9, hRA9, hCA9, hAC9, hAB⟩ := hkAC qa qwo m_ad mr mn mp qc ml f_qa f_qwo f_m_ad f_mr f_mn f_mp f_qc f_ml
  rw [f_x_actCount] at hRA9; rw [f_x_actCount, n_ad, n_mr, n_mn, n_mp] at hCA9
  obtain ⟨m_by, f_m_by, g_m_by⟩ := hx_rf hT gm tt_10 (k := 37) (u := 72) rfl
  obtain ⟨F_by, n_by⟩ : ∃ g : Nat → Int32, hl1.2.1 m_by = g := ⟨_, rfl⟩
  obtain ⟨m_ho, f_m_ho, g_m_ho⟩ := hx_rf hT gm tt_10 (k := 58) (u := 92) rfl
  obtain ⟨F_ho, n_ho⟩ : ∃ g : Nat → Int32, hl1.2.1 m_ho = g := ⟨_, rfl⟩
  obtain ⟨m_fc, f_m_fc, g_m_fc⟩ := hx_rf hT gm tt_10 (k := 53) (u := 88) rfl
  obtain ⟨F_fc, n_fc⟩ : ∃ g : Nat → Int32, hl1.2.1 m_fc = g := ⟨_, rfl⟩
  obtain ⟨m_nt, f_m_nt, g_m_nt⟩ := hx_rf hT gm tt_10 (k := 41) (u := 76) rfl
  obtain ⟨F_nt, n_nt⟩ : ∃ g : Nat → Int32, hl1.2.1 m_nt = g := ⟨_, rfl⟩
  obtain ⟨m_wt, f_m_wt, g_m_wt⟩ := hx_rf hT gm tt_10 (k := 42) (u := 77) rfl
  obtain ⟨F_wt, n_wt⟩ : ∃ g : Nat → Int32, hl1.2.1 m_wt = g := ⟨_, rfl⟩
  obtain ⟨m_be, f_m_be, g_m_be⟩ := hx_rf hT gm tt_10 (k := 52) (u := 87) rfl
  obtain ⟨F_be, n_be⟩ : ∃ g : Nat → Int32, hl1.2.1 m_be = g := ⟨_, rfl⟩
  obtain ⟨m_bor, f_m_bor, g_m_bor⟩ := hx_rf hT gm tt_10 (k := 21) (u := 58) rfl
  obtain ⟨F_bor, n_bor⟩ : ∃ g : Nat → Int32, hl1.2.1 m_bor = g := ⟨_, rfl⟩
  obtain ⟨m_kin, f_m_kin, g_m_kin⟩ := hx_rf hT gm tt_10 (k := 26) (u := 63) rfl
  obtain ⟨F_kin, n_kin⟩ : ∃ g : Nat → Int32, hl1.2.1 m_kin = g := ⟨_, rfl⟩
  obtain ⟨m_sum, f_m_sum, g_m_sum⟩ := hx_rf hT gm tt_10 (k := 39) (u := 74) rfl
  obtain ⟨F_sum, n_sum⟩ : ∃ g : Nat → Int32, hl1.2.1 m_sum = g := ⟨_, rfl⟩
  obtain ⟨m_fro, f_m_fro, g_m_fro⟩ := hx_rf hT gm tt_10 (k := 40) (u := 75) rfl
  obtain ⟨F_fro, n_fro⟩ : ∃ g : Nat → Int32, hl1.2.1 m_fro = g := ⟨_, rfl⟩
  obtain ⟨m_fil, f_m_fil, g_m_fil⟩ := hx_rf hT gm tt_10 (k := 43) (u := 78) rfl
  obtain ⟨F_fil, n_fil⟩ : ∃ g : Nat → Int32, hl1.2.1 m_fil = g := ⟨_, rfl⟩
  obtain ⟨m_jud, f_m_jud, g_m_jud⟩ := hx_rf hT gm tt_10 (k := 51) (u := 86) rfl
  obtain ⟨F_jud, n_jud⟩ : ∃ g : Nat → Int32, hl1.2.1 m_jud = g := ⟨_, rfl⟩
  have cl_bor : hx_col 40 hl1 qp 1 = F_bor := (hf_bor qp m_bor f_qp f_m_bor).trans n_bor
  have cl_kin : hx_col 40 hl1 qp 2 = F_kin := (hf_kin qp m_kin f_qp f_m_kin).trans n_kin
  have cl_sum : hx_col 100 hl1 qc 6 = F_sum := (hf_sum qc m_sum f_qc f_m_sum).trans n_sum
  have cl_fro : hx_col 100 hl1 qc 7 = F_fro := (hf_fro qc m_fro f_qc f_m_fro).trans n_fro
  have cl_fil : hx_col 100 hl1 qc 8 = F_fil := (hf_fil qc m_fil f_qc f_m_fil).trans n_fil
  have cl_hea : hx_col 100 hl1 qc 11 = F_mh := (hf_hea qc mh f_qc f_mh).trans n_mh
  have cl_jud : hx_col 100 hl1 qc 12 = F_jud := (hf_jud qc m_jud f_qc f_m_jud).trans n_jud
  have htb9 : ∀ c, c < 100 → 0 ≤ (c_tri c).toInt ∧ (c_tri c).toInt ≤ 512 := fun c hc => by rw [eq_tri c hc]; have w := hT.ei g_mt tt_80 (k := c) hc; rw [n_mt] at w; exact w
  have z_jud : F_jud c0.toInt.toNat = 0 := hx_num_z2 nu_qc cl_jud (by omega)
  have hDP := hkDP qc qp m_by f_qc f_qp f_m_by; rw [n_by, f_x_claimCount] at hDP
  have hHL := hkHL qh qc m_ho f_qh f_qc f_m_ho; rw [n_ho, f_x_heardCount, f_x_claimCount] at hHL
  have hHO9 := hkHO m_ho mh f_m_ho f_mh; rw [n_ho, n_mh, f_m_heardMany, f_m_claims] at hHO9
  obtain ⟨cF9L, hFX, hFR9⟩ := hkFX qc m_fc m_nt m_wt m_sum mh f_qc f_m_fc f_m_nt f_m_wt f_m_sum f_mh; rw [f_x_claimCount] at hFX; rw [n_fc, n_nt, n_wt, n_sum, n_mh, f_x_claimCount] at hFR9
  have hBX := hkBX qc m_be f_qc f_m_be; rw [n_be, f_x_claimCount] at hBX
  rw [n_ml, f_x_claimCount] at hAC9
  have hwd := jw mw f_mw; rw [n_mw] at hwd
  have hWK := jr mr f_mr; rw [n_mr, f_m_acts] at hWK
  have hRP := jp mp mn f_mp f_mn; rw [n_mp, n_mn, f_m_acts] at hRP
  have hPL := jl ml f_ml; rw [n_ml, f_m_claims, f_m_acts] at hPL
  have hHC := jh mh f_mh; rw [n_mh, f_m_heardMany, f_m_claims] at hHC
  have hTR := jt mt f_mt; rw [n_mt] at hTR
  have hHF := jf mh m_fou f_mh f_m_fou; rw [n_mh, n_m_fou, f_m_claims] at hHF
  refine lv_aload_n hx hb dL_law_547 rfl (lv_at hl 2 rfl) ?_
  refine lv_aload_n hx hb dL_law_548 rfl (lv_at hl 3 rfl) ?_
  refine lv_iload_n hx hb dL_law_549 rfl (lv_at hl 0 rfl) ?_
  refine lv_iconst (v := 1) hx hb dL_law_550 (by decide) ?_
  refine lv_iadd hx hb dL_law_551 ?_
  have rg_245 := i32_r i
  refine lv_topi (fun x_246 ex_246 => ?_)
  have zx_246 : x_246.toInt = i.toInt + 1 := by rw [ex_246]; exact i32_add rfl (by decide) (by omega) (by omega)
  refine va_sld hx hb hX hbl hbA hW.2.2.2.1 (vp_in_iff.mpr ⟨by omega, by omega⟩) dL_law_552 ?_
  refine lv_topi (fun x_247 ex_247 => ?_)
  refine lv_aload_n hx hb dL_law_553 rfl (lv_at hl 3 rfl) ?_
  refine lv_iload_n hx hb dL_law_554 rfl (lv_at hl 0 rfl) ?_
  refine lv_iconst (v := 2) hx hb dL_law_555 (by decide) ?_
  refine lv_iadd hx hb dL_law_556 ?_
  refine lv_topi (fun x_248 ex_248 => ?_)
  have zx_248 : x_248.toInt = i.toInt + 2 := by rw [ex_248]; exact i32_add rfl (by decide) (by omega) (by omega)
  refine va_sld hx hb hX hbl hbA hW.2.2.2.1 (vp_in_iff.mpr ⟨by omega, by omega⟩) dL_law_557 ?_
  refine lv_topi (fun x_249 ex_249 => ?_)
  refine lv_aload_n hx hb dL_law_558 rfl (lv_at hl 3 rfl) ?_
  refine lv_iload_n hx hb dL_law_559 rfl (lv_at hl 0 rfl) ?_
  refine lv_iconst (v := 3) hx hb dL_law_560 (by decide) ?_
  refine lv_iadd hx hb dL_law_561 ?_
  refine lv_topi (fun x_250 ex_250 => ?_)
  have zx_250 : x_250.toInt = i.toInt + 3 := by rw [ex_250]; exact i32_add rfl (by decide) (by omega) (by omega)
  refine va_sld hx hb hX hbl hbA hW.2.2.2.1 (vp_in_iff.mpr ⟨by omega, by omega⟩) dL_law_562 ?_
  refine lv_topi (fun x_251 ex_251 => ?_)
  refine lv_aload_n hx hb dL_law_563 rfl (lv_at hl 3 rfl) ?_
  refine lv_iload_n hx hb dL_law_564 rfl (lv_at hl 0 rfl) ?_
  refine lv_iconst (v := 4) hx hb dL_law_565 (by decide) ?_
  refine lv_iadd hx hb dL_law_566 ?_
  refine lv_topi (fun x_252 ex_252 => ?_)
  have zx_252 : x_252.toInt = i.toInt + 4 := by rw [ex_252]; exact i32_add rfl (by decide) (by omega) (by omega)
  refine va_sld hx hb hX hbl hbA hW.2.2.2.1 (vp_in_iff.mpr ⟨by omega, by omega⟩) dL_law_567 ?_
  refine lv_topi (fun x_253 ex_253 => ?_)
  refine lv_aload_n hx hb dL_law_568 rfl (lv_at hl 3 rfl) ?_
  refine lv_iload_n hx hb dL_law_569 rfl (lv_at hl 0 rfl) ?_
  refine lv_iconst (v := 5) hx hb dL_law_570 (by decide) ?_
  refine lv_iadd hx hb dL_law_571 ?_
  refine lv_topi (fun x_254 ex_254 => ?_)
  have zx_254 : x_254.toInt = i.toInt + 5 := by rw [ex_254]; exact i32_add rfl (by decide) (by omega) (by omega)
  refine va_sld hx hb hX hbl hbA hW.2.2.2.1 (vp_in_iff.mpr ⟨by omega, by omega⟩) dL_law_572 ?_
  refine lv_topi (fun x_255 ex_255 => ?_)
  have hTo := hT
  refine hx_goi (hx_runV (As := [.int x_247, .int x_249, .int x_251, .int x_253, .int x_255]) (rest := []) ⟨hx, hb, hml, hown, hts⟩ hW gx tt_9 (T := TX9) (N := 20) rfl (t_X9_line_3 l dC dI dA L1 hl1 H.size ax x_247 x_249 x_251 x_253 x_255 hT gx qp g_qp f_qp qo_ln g_qo_ln f_qo_ln b_of g_b_of f_b_of b_wf g_b_wf f_b_wf b_df g_b_df f_b_df b_kf g_b_kf f_b_kf b_sf g_b_sf f_b_sf b_bf g_b_bf f_b_bf B_of n_b_of B_wf n_b_wf B_df n_b_df B_kf n_b_kf B_sf n_b_sf bfL n_b_bf ln f_o_ln np f_x_personCount nw f_x_now hBD pf_qp) (cwV 5 hts (hx_gV kw_671 kw_668 kw_669 kw_670 kw_94) rfl rfl rfl (by decide +kernel) ⟨Nat.le_of_ble_eq_true rfl, Nat.le_of_ble_eq_true rfl⟩) rfl hl.1 rfl (Nat.le_of_ble_eq_true rfl) dL_law_573 ⟨(show CC + 0 ≤ 600000 from by omega), (show SS + 0 ≤ 7302250 from by omega)⟩) hW (fun r_258 L_256 h_257 H locs p_259 hW => ?_)
  obtain ⟨⟨w_261, w_262, w_263, w_264, w_265, w_266, w_267, fw_261, fw_262, fw_263, fw_264, fw_265, fw_266, fw_267, hr_260⟩, hT, hs⟩ := p_259
  replace hT : hx_T T_tb L_256 h_257 := hT
  replace hs : hx_S T_tb [(1, 0), (13, 0), (14, 0), (15, 0), (16, 0), (17, 0), (18, 0)] L1 hl1 L_256 h_257 := hs
  replace f_qa := (hs.o gx trivial rfl).2.trans f_qa
  replace f_qp := (hs.o gx trivial rfl).2.trans f_qp
  replace f_qc := (hs.o gx trivial rfl).2.trans f_qc
  replace f_qh := (hs.o gx trivial rfl).2.trans f_qh
  replace f_qw := (hs.o gx trivial rfl).2.trans f_qw
  replace f_ql := (hs.o g_qw trivial rfl).2.trans f_ql
  replace f_m_now := (hs.o gm trivial rfl).1.trans f_m_now
  replace f_m_persons := (hs.o gm trivial rfl).1.trans f_m_persons
  replace f_m_claims := (hs.o gm trivial rfl).1.trans f_m_claims
  replace f_m_taped := (hs.o gm trivial rfl).1.trans f_m_taped
  replace f_m_acts := (hs.o gm trivial rfl).1.trans f_m_acts
  replace f_m_heardMany := (hs.o gm trivial rfl).1.trans f_m_heardMany
  replace f_m_lines := (hs.o gm trivial rfl).1.trans f_m_lines
  replace f_m_listed := (hs.o gm trivial rfl).1.trans f_m_listed
  replace f_m_walkedMany := (hs.o gm trivial rfl).1.trans f_m_walkedMany
  replace f_x_now := (hs.o gx trivial rfl).1.trans f_x_now
  replace f_x_personCount := (hs.o gx trivial rfl).1.trans f_x_personCount
  replace f_x_claimCount := (hs.o gx trivial rfl).1.trans f_x_claimCount
  replace f_x_tapeLength := (hs.o gx trivial rfl).1.trans f_x_tapeLength
  replace f_x_actCount := (hs.o gx trivial rfl).1.trans f_x_actCount
  replace f_x_heardCount := (hs.o gx trivial rfl).1.trans f_x_heardCount
  replace f_mw := (hs.o gm trivial rfl).2.trans f_mw
  replace f_mr := (hs.o gm trivial rfl).2.trans f_mr
  replace f_mp := (hs.o gm trivial rfl).2.trans f_mp
  replace f_mn := (hs.o gm trivial rfl).2.trans f_mn
  replace f_ml := (hs.o gm trivial rfl).2.trans f_ml
  replace f_mh := (hs.o gm trivial rfl).2.trans f_mh
  replace f_mt := (hs.o gm trivial rfl).2.trans f_mt
  replace f_m_fou := (hs.o gm trivial rfl).2.trans f_m_fou
  replace f_qo_ln := (hs.o gx trivial rfl).2.trans f_qo_ln
  replace f_o_lsd := (hs.o g_qw trivial rfl).1.trans f_o_lsd
  replace f_o_wkm := (hs.o g_qw trivial rfl).1.trans f_o_wkm
  replace f_b_of := (hs.o g_qo_ln trivial rfl).2.trans f_b_of
  replace f_m_of := (hs.o gm trivial rfl).2.trans f_m_of
  replace f_b_wf := (hs.o g_qo_ln trivial rfl).2.trans f_b_wf
  replace f_m_wf := (hs.o gm trivial rfl).2.trans f_m_wf
  replace f_b_df := (hs.o g_qo_ln trivial rfl).2.trans f_b_df
  replace f_m_df := (hs.o gm trivial rfl).2.trans f_m_df
  replace f_b_kf := (hs.o g_qo_ln trivial rfl).2.trans f_b_kf
  replace f_m_kf := (hs.o gm trivial rfl).2.trans f_m_kf
  replace f_b_sf := (hs.o g_qo_ln trivial rfl).2.trans f_b_sf
  replace f_m_sf := (hs.o gm trivial rfl).2.trans f_m_sf
  replace f_b_bf := (hs.o g_qo_ln trivial rfl).2.trans f_b_bf
  replace f_m_lst := (hs.o gm trivial rfl).2.trans f_m_lst
  replace f_qtp := (hs.o gx trivial rfl).2.trans f_qtp
  replace f_m_tp := (hs.o gm trivial rfl).2.trans f_m_tp
  replace f_m_dead := (hs.o gm trivial rfl).2.trans f_m_dead
  replace f_m_isj := (hs.o gm trivial rfl).2.trans f_m_isj
  replace f_m_dox := (hs.o gm trivial rfl).2.trans f_m_dox
  replace f_m_doy := (hs.o gm trivial rfl).2.trans f_m_doy
  replace f_qlt := (hs.o g_qw trivial rfl).2.trans f_qlt
  replace f_qlf := (hs.o g_qw trivial rfl).2.trans f_qlf
  replace f_m_wkd := (hs.o gm trivial rfl).2.trans f_m_wkd
  replace f_m_aga := (hs.o gm trivial rfl).2.trans f_m_aga
  replace f_qwo := (hs.o gx trivial rfl).2.trans f_qwo
  replace f_m_ad := (hs.o gm trivial rfl).2.trans f_m_ad
  replace f_m_by := (hs.o gm trivial rfl).2.trans f_m_by
  replace f_m_ho := (hs.o gm trivial rfl).2.trans f_m_ho
  replace f_m_fc := (hs.o gm trivial rfl).2.trans f_m_fc
  replace f_m_nt := (hs.o gm trivial rfl).2.trans f_m_nt
  replace f_m_wt := (hs.o gm trivial rfl).2.trans f_m_wt
  replace f_m_be := (hs.o gm trivial rfl).2.trans f_m_be
  replace f_m_bor := (hs.o gm trivial rfl).2.trans f_m_bor
  replace f_m_kin := (hs.o gm trivial rfl).2.trans f_m_kin
  replace f_m_sum := (hs.o gm trivial rfl).2.trans f_m_sum
  replace f_m_fro := (hs.o gm trivial rfl).2.trans f_m_fro
  replace f_m_fil := (hs.o gm trivial rfl).2.trans f_m_fil
  replace f_m_jud := (hs.o gm trivial rfl).2.trans f_m_jud
  replace pf_qa : ∀ j : Nat, (j : Int) < (h_257.2.1 ax 6).toInt → h_257.2.2 qa j ≠ none := by
    intro j hj; rw [(hs.o gx trivial rfl).1] at hj; rw [(hs.a g_qa rfl j).2]; exact pf_qa j hj
  replace pf_qp : ∀ j : Nat, (j : Int) < (h_257.2.1 ax 8).toInt → h_257.2.2 qp j ≠ none := by
    intro j hj; rw [(hs.o gx trivial rfl).1] at hj; rw [(hs.a g_qp rfl j).2]; exact pf_qp j hj
  replace pf_qc : ∀ j : Nat, (j : Int) < (h_257.2.1 ax 11).toInt → h_257.2.2 qc j ≠ none := by
    intro j hj; rw [(hs.o gx trivial rfl).1] at hj; rw [(hs.a g_qc rfl j).2]; exact pf_qc j hj
  replace pf_qh : ∀ j : Nat, (j : Int) < (h_257.2.1 ax 13).toInt → h_257.2.2 qh j ≠ none := by
    intro j hj; rw [(hs.o gx trivial rfl).1] at hj; rw [(hs.a g_qh rfl j).2]; exact pf_qh j hj
  replace pf_ql : ∀ j : Nat, (j : Int) < (h_257.2.1 qw 0).toInt → h_257.2.2 ql j ≠ none := by
    intro j hj; rw [(hs.o g_qw trivial rfl).1] at hj; rw [(hs.a g_ql rfl j).2]; exact pf_ql j hj
  replace cl_lst : hx_col 8 h_257 ql 0 = c_lst := (hx_col_S hs hTo g_ql tt_40 tt_2 rfl rfl).trans cl_lst
  replace cl_dead : hx_col 40 h_257 qp 7 = c_dead := (hx_col_S hs hTo g_qp tt_44 tt_4 rfl rfl).trans cl_dead
  replace cl_isj : hx_col 40 h_257 qp 8 = c_isj := (hx_col_S hs hTo g_qp tt_44 tt_4 rfl rfl).trans cl_isj
  replace cl_dox : hx_col 40 h_257 qp 5 = c_dox := (hx_col_S hs hTo g_qp tt_44 tt_4 rfl rfl).trans cl_dox
  replace cl_doy : hx_col 40 h_257 qp 6 = c_doy := (hx_col_S hs hTo g_qp tt_44 tt_4 rfl rfl).trans cl_doy
  replace cl_fou : hx_col 100 h_257 qc 10 = c_fou := (hx_col_S hs hTo g_qc tt_45 tt_2 rfl rfl).trans cl_fou
  replace cl_tri : hx_col 100 h_257 qc 9 = c_tri := (hx_col_S hs hTo g_qc tt_45 tt_2 rfl rfl).trans cl_tri
  replace cl_bor : hx_col 40 h_257 qp 1 = F_bor := (hx_col_S hs hTo g_qp tt_44 tt_4 rfl rfl).trans cl_bor
  replace cl_kin : hx_col 40 h_257 qp 2 = F_kin := (hx_col_S hs hTo g_qp tt_44 tt_4 rfl rfl).trans cl_kin
  replace cl_sum : hx_col 100 h_257 qc 6 = F_sum := (hx_col_S hs hTo g_qc tt_45 tt_2 rfl rfl).trans cl_sum
  replace cl_fro : hx_col 100 h_257 qc 7 = F_fro := (hx_col_S hs hTo g_qc tt_45 tt_2 rfl rfl).trans cl_fro
  replace cl_fil : hx_col 100 h_257 qc 8 = F_fil := (hx_col_S hs hTo g_qc tt_45 tt_2 rfl rfl).trans cl_fil
  replace cl_hea : hx_col 100 h_257 qc 11 = F_mh := (hx_col_S hs hTo g_qc tt_45 tt_2 rfl rfl).trans cl_hea
  replace cl_jud : hx_col 100 h_257 qc 12 = F_jud := (hx_col_S hs hTo g_qc tt_45 tt_2 rfl rfl).trans cl_jud
  replace nu_qp : hx_num 40 h_257 qp 0 (np.toInt) := hx_num_S hs hTo g_qp tt_44 tt_4 rfl rfl nu_qp
  replace nu_qc : hx_num 100 h_257 qc 0 (c0.toInt) := hx_num_S hs hTo g_qc tt_45 tt_2 rfl rfl nu_qc
  replace sb_list : hx_LQ 8 100 h_257 ql qc := hx_LQ_S hs g_ql g_qc rfl rfl sb_list
  replace hDF : hw_DF h_257 qc qp 2 F_aga c0.toInt := hw_DF_S hs hTo g_qc g_qp tt_45 tt_2 rfl rfl rfl hDF
  replace hRA9 : hv_RA h_257 qa qwo a0.toInt A9 := hv_RA_S hs hTo g_qa g_qwo tt_43 tt_0 rfl rfl rfl rfl rfl rfl (by omega) hRA9
  replace hDP : hw_DF h_257 qc qp 1 F_by c0.toInt := hw_DF_S hs hTo g_qc g_qp tt_45 tt_2 rfl rfl rfl hDP
  replace hAC9 : hv_AC h_257 qc F_ml c0.toInt A9 := hv_AC_S hs hTo g_qc tt_45 tt_2 rfl tt_0 rfl rfl rfl rfl rfl rfl rfl hAC9
  replace hFX : hv_FX 8 4 h_257 qc cF9L c0.toInt := hv_FX_S hs hTo g_qc tt_45 tt_2 rfl rfl rfl rfl hFX
  replace hBX : hv_FX 3 5 h_257 qc F_be c0.toInt := hv_FX_S hs hTo g_qc tt_45 tt_2 rfl rfl rfl rfl hBX
  replace hHL : hv_HL h_257 qh qc F_ho m0.toInt c0.toInt := hv_HL_S hs g_qh g_qc rfl rfl hHL
  replace n_mw : h_257.2.1 mw = F_mw := (funext fun j => (hs.a g_mw rfl j).1).trans n_mw
  replace n_mr : h_257.2.1 mr = F_mr := (funext fun j => (hs.a g_mr rfl j).1).trans n_mr
  replace n_mp : h_257.2.1 mp = F_mp := (funext fun j => (hs.a g_mp rfl j).1).trans n_mp
  replace n_mn : h_257.2.1 mn = F_mn := (funext fun j => (hs.a g_mn rfl j).1).trans n_mn
  replace n_ml : h_257.2.1 ml = F_ml := (funext fun j => (hs.a g_ml rfl j).1).trans n_ml
  replace n_mh : h_257.2.1 mh = F_mh := (funext fun j => (hs.a g_mh rfl j).1).trans n_mh
  replace n_mt : h_257.2.1 mt = F_mt := (funext fun j => (hs.a g_mt rfl j).1).trans n_mt
  replace n_m_fou : h_257.2.1 m_fou = F_m_fou := (funext fun j => (hs.a g_m_fou rfl j).1).trans n_m_fou
  replace n_m_of : h_257.2.1 m_of = F_of := (funext fun j => (hs.a g_m_of rfl j).1).trans n_m_of
  replace n_m_wf : h_257.2.1 m_wf = F_wf := (funext fun j => (hs.a g_m_wf rfl j).1).trans n_m_wf
  replace n_m_df : h_257.2.1 m_df = F_df := (funext fun j => (hs.a g_m_df rfl j).1).trans n_m_df
  replace n_m_kf : h_257.2.1 m_kf = F_kf := (funext fun j => (hs.a g_m_kf rfl j).1).trans n_m_kf
  replace n_m_sf : h_257.2.1 m_sf = F_sf := (funext fun j => (hs.a g_m_sf rfl j).1).trans n_m_sf
  replace n_lst : h_257.2.1 m_lst = F_lst := (funext fun j => (hs.a g_m_lst rfl j).1).trans n_lst
  replace n_tp : h_257.2.1 m_tp = F_tp := (funext fun j => (hs.a g_m_tp rfl j).1).trans n_tp
  replace n_qtp : h_257.2.1 qtp = F_tp := (funext fun j => (hs.a g_qtp rfl j).1).trans n_qtp
  replace n_dead : h_257.2.1 m_dead = F_dead := (funext fun j => (hs.a g_m_dead rfl j).1).trans n_dead
  replace n_isj : h_257.2.1 m_isj = F_isj := (funext fun j => (hs.a g_m_isj rfl j).1).trans n_isj
  replace n_dox : h_257.2.1 m_dox = F_dox := (funext fun j => (hs.a g_m_dox rfl j).1).trans n_dox
  replace n_doy : h_257.2.1 m_doy = F_doy := (funext fun j => (hs.a g_m_doy rfl j).1).trans n_doy
  replace n_qlt : h_257.2.1 qlt = F_qlt := (funext fun j => (hs.a g_qlt rfl j).1).trans n_qlt
  replace n_m_wkd : h_257.2.1 m_wkd = F_m_wkd := (funext fun j => (hs.a g_m_wkd rfl j).1).trans n_m_wkd
  replace n_aga : h_257.2.1 m_aga = F_aga := (funext fun j => (hs.a g_m_aga rfl j).1).trans n_aga
  replace n_ad : h_257.2.1 m_ad = F_ad := (funext fun j => (hs.a g_m_ad rfl j).1).trans n_ad
  replace n_by : h_257.2.1 m_by = F_by := (funext fun j => (hs.a g_m_by rfl j).1).trans n_by
  replace n_ho : h_257.2.1 m_ho = F_ho := (funext fun j => (hs.a g_m_ho rfl j).1).trans n_ho
  replace n_fc : h_257.2.1 m_fc = F_fc := (funext fun j => (hs.a g_m_fc rfl j).1).trans n_fc
  replace n_nt : h_257.2.1 m_nt = F_nt := (funext fun j => (hs.a g_m_nt rfl j).1).trans n_nt
  replace n_wt : h_257.2.1 m_wt = F_wt := (funext fun j => (hs.a g_m_wt rfl j).1).trans n_wt
  replace n_be : h_257.2.1 m_be = F_be := (funext fun j => (hs.a g_m_be rfl j).1).trans n_be
  replace n_bor : h_257.2.1 m_bor = F_bor := (funext fun j => (hs.a g_m_bor rfl j).1).trans n_bor
  replace n_kin : h_257.2.1 m_kin = F_kin := (funext fun j => (hs.a g_m_kin rfl j).1).trans n_kin
  replace n_sum : h_257.2.1 m_sum = F_sum := (funext fun j => (hs.a g_m_sum rfl j).1).trans n_sum
  replace n_fro : h_257.2.1 m_fro = F_fro := (funext fun j => (hs.a g_m_fro rfl j).1).trans n_fro
  replace n_fil : h_257.2.1 m_fil = F_fil := (funext fun j => (hs.a g_m_fil rfl j).1).trans n_fil
  replace n_jud : h_257.2.1 m_jud = F_jud := (funext fun j => (hs.a g_m_jud rfl j).1).trans n_jud
  replace gx := gx.S hs
  replace gm := gm.S hs
  replace g_qa := g_qa.S hs
  replace g_qp := g_qp.S hs
  replace g_qc := g_qc.S hs
  replace g_qh := g_qh.S hs
  replace g_qw := g_qw.S hs
  replace g_ql := g_ql.S hs
  replace g_mw := g_mw.S hs
  replace g_mr := g_mr.S hs
  replace g_mp := g_mp.S hs
  replace g_mn := g_mn.S hs
  replace g_ml := g_ml.S hs
  replace g_mh := g_mh.S hs
  replace g_mt := g_mt.S hs
  replace g_m_fou := g_m_fou.S hs
  replace g_qo_ln := g_qo_ln.S hs
  replace g_b_of := g_b_of.S hs
  replace g_m_of := g_m_of.S hs
  replace g_b_wf := g_b_wf.S hs
  replace g_m_wf := g_m_wf.S hs
  replace g_b_df := g_b_df.S hs
  replace g_m_df := g_m_df.S hs
  replace g_b_kf := g_b_kf.S hs
  replace g_m_kf := g_m_kf.S hs
  replace g_b_sf := g_b_sf.S hs
  replace g_m_sf := g_m_sf.S hs
  replace g_b_bf := g_b_bf.S hs
  replace g_m_lst := g_m_lst.S hs
  replace g_qtp := g_qtp.S hs
  replace g_m_tp := g_m_tp.S hs
  replace g_m_dead := g_m_dead.S hs
  replace g_m_isj := g_m_isj.S hs
  replace g_m_dox := g_m_dox.S hs
  replace g_m_doy := g_m_doy.S hs
  replace g_qlt := g_qlt.S hs
  replace g_qlf := g_qlf.S hs
  replace g_m_wkd := g_m_wkd.S hs
  replace g_m_aga := g_m_aga.S hs
  replace g_qwo := g_qwo.S hs
  replace g_m_ad := g_m_ad.S hs
  replace g_m_by := g_m_by.S hs
  replace g_m_ho := g_m_ho.S hs
  replace g_m_fc := g_m_fc.S hs
  replace g_m_nt := g_m_nt.S hs
  replace g_m_wt := g_m_wt.S hs
  replace g_m_be := g_m_be.S hs
  replace g_m_bor := g_m_bor.S hs
  replace g_m_kin := g_m_kin.S hs
  replace g_m_sum := g_m_sum.S hs
  replace g_m_fro := g_m_fro.S hs
  replace g_m_fil := g_m_fil.S hs
  replace g_m_jud := g_m_jud.S hs
  have fw_261 : h_257.2.1 qo_ln 0 = w_261 := fw_261
  have bw_261 := hT.gi g_qo_ln tt_1 (k := 0) rfl
  rw [fw_261] at bw_261
  have bw_261 : 0 ≤ w_261.toInt ∧ w_261.toInt ≤ 400 := bw_261
  have fw_262 : h_257.2.1 b_of = w_262 := fw_262
  have fw_263 : h_257.2.1 b_wf = w_263 := fw_263
  have fw_264 : h_257.2.1 b_df = w_264 := fw_264
  have fw_265 : h_257.2.1 b_kf = w_265 := fw_265
  have fw_266 : h_257.2.1 b_sf = w_266 := fw_266
  have fw_267 : h_257.2.1 b_bf = w_267 := fw_267
  refine lv_pop hx hb dL_law_576 rfl ?_
  refine lv_aload_n hx hb dL_law_577 rfl (lv_at hl 1 rfl) ?_
  refine lv_aload_n hx hb dL_law_578 rfl (lv_at hl 3 rfl) ?_
  refine lv_iload_n hx hb dL_law_579 rfl (lv_at hl 0 rfl) ?_
  refine lv_iconst (v := 1) hx hb dL_law_580 (by decide) ?_
  refine lv_iadd hx hb dL_law_581 ?_
  refine lv_topi (fun x_268 ex_268 => ?_)
  have zx_268 : x_268.toInt = i.toInt + 1 := by rw [ex_268]; exact i32_add rfl (by decide) (by omega) (by omega)
  obtain rfl : x_246 = x_268 := ex_246.trans ex_268.symm
  refine va_sld hx hb hX hbl hbA hW.2.2.2.1 (vp_in_iff.mpr ⟨by omega, by omega⟩) dL_law_582 ?_
  refine lv_topi (fun x_269 ex_269 => ?_)
  obtain rfl : x_247 = x_269 := ex_247.trans ex_269.symm
  refine lv_aload_n hx hb dL_law_583 rfl (lv_at hl 3 rfl) ?_
  refine lv_iload_n hx hb dL_law_584 rfl (lv_at hl 0 rfl) ?_
  refine lv_iconst (v := 2) hx hb dL_law_585 (by decide) ?_
  refine lv_iadd hx hb dL_law_586 ?_
  refine lv_topi (fun x_270 ex_270 => ?_)
  have zx_270 : x_270.toInt = i.toInt + 2 := by rw [ex_270]; exact i32_add rfl (by decide) (by omega) (by omega)
  obtain rfl : x_248 = x_270 := ex_248.trans ex_270.symm
  refine va_sld hx hb hX hbl hbA hW.2.2.2.1 (vp_in_iff.mpr ⟨by omega, by omega⟩) dL_law_587 ?_
  refine lv_topi (fun x_271 ex_271 => ?_)
  obtain rfl : x_249 = x_271 := ex_249.trans ex_271.symm
  refine lv_aload_n hx hb dL_law_588 rfl (lv_at hl 3 rfl) ?_
  refine lv_iload_n hx hb dL_law_589 rfl (lv_at hl 0 rfl) ?_
  refine lv_iconst (v := 3) hx hb dL_law_590 (by decide) ?_
  refine lv_iadd hx hb dL_law_591 ?_
  refine lv_topi (fun x_272 ex_272 => ?_)
  have zx_272 : x_272.toInt = i.toInt + 3 := by rw [ex_272]; exact i32_add rfl (by decide) (by omega) (by omega)
  obtain rfl : x_250 = x_272 := ex_250.trans ex_272.symm
  refine va_sld hx hb hX hbl hbA hW.2.2.2.1 (vp_in_iff.mpr ⟨by omega, by omega⟩) dL_law_592 ?_
  refine lv_topi (fun x_273 ex_273 => ?_)
  obtain rfl : x_251 = x_273 := ex_251.trans ex_273.symm
  refine lv_aload_n hx hb dL_law_593 rfl (lv_at hl 3 rfl) ?_
  refine lv_iload_n hx hb dL_law_594 rfl (lv_at hl 0 rfl) ?_
  refine lv_iconst (v := 4) hx hb dL_law_595 (by decide) ?_
  refine lv_iadd hx hb dL_law_596 ?_
  refine lv_topi (fun x_274 ex_274 => ?_)
  have zx_274 : x_274.toInt = i.toInt + 4 := by rw [ex_274]; exact i32_add rfl (by decide) (by omega) (by omega)
  obtain rfl : x_252 = x_274 := ex_252.trans ex_274.symm
  refine va_sld hx hb hX hbl hbA hW.2.2.2.1 (vp_in_iff.mpr ⟨by omega, by omega⟩) dL_law_597 ?_
  refine lv_topi (fun x_275 ex_275 => ?_)
  obtain rfl : x_253 = x_275 := ex_253.trans ex_275.symm
  refine lv_aload_n hx hb dL_law_598 rfl (lv_at hl 3 rfl) ?_
  refine lv_iload_n hx hb dL_law_599 rfl (lv_at hl 0 rfl) ?_
  refine lv_iconst (v := 5) hx hb dL_law_600 (by decide) ?_
  refine lv_iadd hx hb dL_law_601 ?_
  refine lv_topi (fun x_276 ex_276 => ?_)
  have zx_276 : x_276.toInt = i.toInt + 5 := by rw [ex_276]; exact i32_add rfl (by decide) (by omega) (by omega)
  obtain rfl : x_254 = x_276 := ex_254.trans ex_276.symm
  refine va_sld hx hb hX hbl hbA hW.2.2.2.1 (vp_in_iff.mpr ⟨by omega, by omega⟩) dL_law_602 ?_
  refine lv_topi (fun x_277 ex_277 => ?_)
  obtain rfl : x_255 = x_277 := ex_255.trans ex_277.symm
  have hTo := hT
  refine hx_goi (hx_runV (As := [.int x_247, .int x_249, .int x_251, .int x_253, .int x_255]) (rest := []) ⟨hx, hb, hml, hown, hts⟩ hW gm tt_10 (T := TX10) (N := 98) rfl (t_X10_line_3 l dC dI dA L_256 h_257 H.size am x_247 x_249 x_251 x_253 x_255 hT gm m_of g_m_of f_m_of m_wf g_m_wf f_m_wf m_df g_m_df f_m_df m_kf g_m_kf f_m_kf m_sf g_m_sf f_m_sf F_of n_m_of F_wf n_m_wf F_df n_m_df F_kf n_m_kf F_sf n_m_sf ln f_m_lines np f_m_persons nw f_m_now) (cwV 5 hts (hx_gV kw_1564 kw_1561 kw_1562 kw_1563 kw_103) rfl rfl rfl (by decide +kernel) ⟨Nat.le_of_ble_eq_true rfl, Nat.le_of_ble_eq_true rfl⟩) rfl hl.1 rfl (Nat.le_of_ble_eq_true rfl) dL_law_603 ⟨(show CC + 0 + 0 ≤ 600000 from by omega), (show SS + 0 + 0 ≤ 7302250 from by omega)⟩) hW (fun r_280 L_278 h_279 H locs p_281 hW => ?_)
  obtain ⟨⟨w_283, w_284, w_285, w_286, w_287, w_288, fw_283, fw_284, fw_285, fw_286, fw_287, fw_288, hr_282⟩, hT, hs⟩ := p_281
  replace hT : hx_T T_tb L_278 h_279 := hT
  replace hs : hx_S T_tb [(10, 29), (66, 0), (67, 0), (68, 0), (69, 0), (70, 0)] L_256 h_257 L_278 h_279 := hs
  replace f_qa := (hs.o gx trivial rfl).2.trans f_qa
  replace f_qp := (hs.o gx trivial rfl).2.trans f_qp
  replace f_qc := (hs.o gx trivial rfl).2.trans f_qc
  replace f_qh := (hs.o gx trivial rfl).2.trans f_qh
  replace f_qw := (hs.o gx trivial rfl).2.trans f_qw
  replace f_ql := (hs.o g_qw trivial rfl).2.trans f_ql
  replace f_m_now := (hs.o gm trivial rfl).1.trans f_m_now
  replace f_m_persons := (hs.o gm trivial rfl).1.trans f_m_persons
  replace f_m_claims := (hs.o gm trivial rfl).1.trans f_m_claims
  replace f_m_taped := (hs.o gm trivial rfl).1.trans f_m_taped
  replace f_m_acts := (hs.o gm trivial rfl).1.trans f_m_acts
  replace f_m_heardMany := (hs.o gm trivial rfl).1.trans f_m_heardMany
  replace f_m_listed := (hs.o gm trivial rfl).1.trans f_m_listed
  replace f_m_walkedMany := (hs.o gm trivial rfl).1.trans f_m_walkedMany
  replace f_x_now := (hs.o gx trivial rfl).1.trans f_x_now
  replace f_x_personCount := (hs.o gx trivial rfl).1.trans f_x_personCount
  replace f_x_claimCount := (hs.o gx trivial rfl).1.trans f_x_claimCount
  replace f_x_tapeLength := (hs.o gx trivial rfl).1.trans f_x_tapeLength
  replace f_x_actCount := (hs.o gx trivial rfl).1.trans f_x_actCount
  replace f_x_heardCount := (hs.o gx trivial rfl).1.trans f_x_heardCount
  replace f_mw := (hs.o gm trivial rfl).2.trans f_mw
  replace f_mr := (hs.o gm trivial rfl).2.trans f_mr
  replace f_mp := (hs.o gm trivial rfl).2.trans f_mp
  replace f_mn := (hs.o gm trivial rfl).2.trans f_mn
  replace f_ml := (hs.o gm trivial rfl).2.trans f_ml
  replace f_mh := (hs.o gm trivial rfl).2.trans f_mh
  replace f_mt := (hs.o gm trivial rfl).2.trans f_mt
  replace f_m_fou := (hs.o gm trivial rfl).2.trans f_m_fou
  replace f_qo_ln := (hs.o gx trivial rfl).2.trans f_qo_ln
  replace f_o_lsd := (hs.o g_qw trivial rfl).1.trans f_o_lsd
  replace f_o_wkm := (hs.o g_qw trivial rfl).1.trans f_o_wkm
  replace f_b_of := (hs.o g_qo_ln trivial rfl).2.trans f_b_of
  replace f_m_of := (hs.o gm trivial rfl).2.trans f_m_of
  replace f_b_wf := (hs.o g_qo_ln trivial rfl).2.trans f_b_wf
  replace f_m_wf := (hs.o gm trivial rfl).2.trans f_m_wf
  replace f_b_df := (hs.o g_qo_ln trivial rfl).2.trans f_b_df
  replace f_m_df := (hs.o gm trivial rfl).2.trans f_m_df
  replace f_b_kf := (hs.o g_qo_ln trivial rfl).2.trans f_b_kf
  replace f_m_kf := (hs.o gm trivial rfl).2.trans f_m_kf
  replace f_b_sf := (hs.o g_qo_ln trivial rfl).2.trans f_b_sf
  replace f_m_sf := (hs.o gm trivial rfl).2.trans f_m_sf
  replace f_b_bf := (hs.o g_qo_ln trivial rfl).2.trans f_b_bf
  replace f_m_lst := (hs.o gm trivial rfl).2.trans f_m_lst
  replace f_qtp := (hs.o gx trivial rfl).2.trans f_qtp
  replace f_m_tp := (hs.o gm trivial rfl).2.trans f_m_tp
  replace f_m_dead := (hs.o gm trivial rfl).2.trans f_m_dead
  replace f_m_isj := (hs.o gm trivial rfl).2.trans f_m_isj
  replace f_m_dox := (hs.o gm trivial rfl).2.trans f_m_dox
  replace f_m_doy := (hs.o gm trivial rfl).2.trans f_m_doy
  replace f_qlt := (hs.o g_qw trivial rfl).2.trans f_qlt
  replace f_qlf := (hs.o g_qw trivial rfl).2.trans f_qlf
  replace f_m_wkd := (hs.o gm trivial rfl).2.trans f_m_wkd
  replace f_m_aga := (hs.o gm trivial rfl).2.trans f_m_aga
  replace f_qwo := (hs.o gx trivial rfl).2.trans f_qwo
  replace f_m_ad := (hs.o gm trivial rfl).2.trans f_m_ad
  replace f_m_by := (hs.o gm trivial rfl).2.trans f_m_by
  replace f_m_ho := (hs.o gm trivial rfl).2.trans f_m_ho
  replace f_m_fc := (hs.o gm trivial rfl).2.trans f_m_fc
  replace f_m_nt := (hs.o gm trivial rfl).2.trans f_m_nt
  replace f_m_wt := (hs.o gm trivial rfl).2.trans f_m_wt
  replace f_m_be := (hs.o gm trivial rfl).2.trans f_m_be
  replace f_m_bor := (hs.o gm trivial rfl).2.trans f_m_bor
  replace f_m_kin := (hs.o gm trivial rfl).2.trans f_m_kin
  replace f_m_sum := (hs.o gm trivial rfl).2.trans f_m_sum
  replace f_m_fro := (hs.o gm trivial rfl).2.trans f_m_fro
  replace f_m_fil := (hs.o gm trivial rfl).2.trans f_m_fil
  replace f_m_jud := (hs.o gm trivial rfl).2.trans f_m_jud
  replace fw_261 := (hs.o g_qo_ln trivial rfl).1.trans fw_261
  replace pf_qa : ∀ j : Nat, (j : Int) < (h_279.2.1 ax 6).toInt → h_279.2.2 qa j ≠ none := by
    intro j hj; rw [(hs.o gx trivial rfl).1] at hj; rw [(hs.a g_qa rfl j).2]; exact pf_qa j hj
  replace pf_qp : ∀ j : Nat, (j : Int) < (h_279.2.1 ax 8).toInt → h_279.2.2 qp j ≠ none := by
    intro j hj; rw [(hs.o gx trivial rfl).1] at hj; rw [(hs.a g_qp rfl j).2]; exact pf_qp j hj
  replace pf_qc : ∀ j : Nat, (j : Int) < (h_279.2.1 ax 11).toInt → h_279.2.2 qc j ≠ none := by
    intro j hj; rw [(hs.o gx trivial rfl).1] at hj; rw [(hs.a g_qc rfl j).2]; exact pf_qc j hj
  replace pf_qh : ∀ j : Nat, (j : Int) < (h_279.2.1 ax 13).toInt → h_279.2.2 qh j ≠ none := by
    intro j hj; rw [(hs.o gx trivial rfl).1] at hj; rw [(hs.a g_qh rfl j).2]; exact pf_qh j hj
  replace pf_ql : ∀ j : Nat, (j : Int) < (h_279.2.1 qw 0).toInt → h_279.2.2 ql j ≠ none := by
    intro j hj; rw [(hs.o g_qw trivial rfl).1] at hj; rw [(hs.a g_ql rfl j).2]; exact pf_ql j hj
  replace cl_lst : hx_col 8 h_279 ql 0 = c_lst := (hx_col_S hs hTo g_ql tt_40 tt_2 rfl rfl).trans cl_lst
  replace cl_dead : hx_col 40 h_279 qp 7 = c_dead := (hx_col_S hs hTo g_qp tt_44 tt_4 rfl rfl).trans cl_dead
  replace cl_isj : hx_col 40 h_279 qp 8 = c_isj := (hx_col_S hs hTo g_qp tt_44 tt_4 rfl rfl).trans cl_isj
  replace cl_dox : hx_col 40 h_279 qp 5 = c_dox := (hx_col_S hs hTo g_qp tt_44 tt_4 rfl rfl).trans cl_dox
  replace cl_doy : hx_col 40 h_279 qp 6 = c_doy := (hx_col_S hs hTo g_qp tt_44 tt_4 rfl rfl).trans cl_doy
  replace cl_fou : hx_col 100 h_279 qc 10 = c_fou := (hx_col_S hs hTo g_qc tt_45 tt_2 rfl rfl).trans cl_fou
  replace cl_tri : hx_col 100 h_279 qc 9 = c_tri := (hx_col_S hs hTo g_qc tt_45 tt_2 rfl rfl).trans cl_tri
  replace cl_bor : hx_col 40 h_279 qp 1 = F_bor := (hx_col_S hs hTo g_qp tt_44 tt_4 rfl rfl).trans cl_bor
  replace cl_kin : hx_col 40 h_279 qp 2 = F_kin := (hx_col_S hs hTo g_qp tt_44 tt_4 rfl rfl).trans cl_kin
  replace cl_sum : hx_col 100 h_279 qc 6 = F_sum := (hx_col_S hs hTo g_qc tt_45 tt_2 rfl rfl).trans cl_sum
  replace cl_fro : hx_col 100 h_279 qc 7 = F_fro := (hx_col_S hs hTo g_qc tt_45 tt_2 rfl rfl).trans cl_fro
  replace cl_fil : hx_col 100 h_279 qc 8 = F_fil := (hx_col_S hs hTo g_qc tt_45 tt_2 rfl rfl).trans cl_fil
  replace cl_hea : hx_col 100 h_279 qc 11 = F_mh := (hx_col_S hs hTo g_qc tt_45 tt_2 rfl rfl).trans cl_hea
  replace cl_jud : hx_col 100 h_279 qc 12 = F_jud := (hx_col_S hs hTo g_qc tt_45 tt_2 rfl rfl).trans cl_jud
  replace nu_qp : hx_num 40 h_279 qp 0 (np.toInt) := hx_num_S hs hTo g_qp tt_44 tt_4 rfl rfl nu_qp
  replace nu_qc : hx_num 100 h_279 qc 0 (c0.toInt) := hx_num_S hs hTo g_qc tt_45 tt_2 rfl rfl nu_qc
  replace sb_list : hx_LQ 8 100 h_279 ql qc := hx_LQ_S hs g_ql g_qc rfl rfl sb_list
  replace hDF : hw_DF h_279 qc qp 2 F_aga c0.toInt := hw_DF_S hs hTo g_qc g_qp tt_45 tt_2 rfl rfl rfl hDF
  replace hRA9 : hv_RA h_279 qa qwo a0.toInt A9 := hv_RA_S hs hTo g_qa g_qwo tt_43 tt_0 rfl rfl rfl rfl rfl rfl (by omega) hRA9
  replace hDP : hw_DF h_279 qc qp 1 F_by c0.toInt := hw_DF_S hs hTo g_qc g_qp tt_45 tt_2 rfl rfl rfl hDP
  replace hAC9 : hv_AC h_279 qc F_ml c0.toInt A9 := hv_AC_S hs hTo g_qc tt_45 tt_2 rfl tt_0 rfl rfl rfl rfl rfl rfl rfl hAC9
  replace hFX : hv_FX 8 4 h_279 qc cF9L c0.toInt := hv_FX_S hs hTo g_qc tt_45 tt_2 rfl rfl rfl rfl hFX
  replace hBX : hv_FX 3 5 h_279 qc F_be c0.toInt := hv_FX_S hs hTo g_qc tt_45 tt_2 rfl rfl rfl rfl hBX
  replace hHL : hv_HL h_279 qh qc F_ho m0.toInt c0.toInt := hv_HL_S hs g_qh g_qc rfl rfl hHL
  replace n_mw : h_279.2.1 mw = F_mw := (funext fun j => (hs.a g_mw rfl j).1).trans n_mw
  replace n_mr : h_279.2.1 mr = F_mr := (funext fun j => (hs.a g_mr rfl j).1).trans n_mr
  replace n_mp : h_279.2.1 mp = F_mp := (funext fun j => (hs.a g_mp rfl j).1).trans n_mp
  replace n_mn : h_279.2.1 mn = F_mn := (funext fun j => (hs.a g_mn rfl j).1).trans n_mn
  replace n_ml : h_279.2.1 ml = F_ml := (funext fun j => (hs.a g_ml rfl j).1).trans n_ml
  replace n_mh : h_279.2.1 mh = F_mh := (funext fun j => (hs.a g_mh rfl j).1).trans n_mh
  replace n_mt : h_279.2.1 mt = F_mt := (funext fun j => (hs.a g_mt rfl j).1).trans n_mt
  replace n_m_fou : h_279.2.1 m_fou = F_m_fou := (funext fun j => (hs.a g_m_fou rfl j).1).trans n_m_fou
  replace n_lst : h_279.2.1 m_lst = F_lst := (funext fun j => (hs.a g_m_lst rfl j).1).trans n_lst
  replace n_tp : h_279.2.1 m_tp = F_tp := (funext fun j => (hs.a g_m_tp rfl j).1).trans n_tp
  replace n_qtp : h_279.2.1 qtp = F_tp := (funext fun j => (hs.a g_qtp rfl j).1).trans n_qtp
  replace n_dead : h_279.2.1 m_dead = F_dead := (funext fun j => (hs.a g_m_dead rfl j).1).trans n_dead
  replace n_isj : h_279.2.1 m_isj = F_isj := (funext fun j => (hs.a g_m_isj rfl j).1).trans n_isj
  replace n_dox : h_279.2.1 m_dox = F_dox := (funext fun j => (hs.a g_m_dox rfl j).1).trans n_dox
  replace n_doy : h_279.2.1 m_doy = F_doy := (funext fun j => (hs.a g_m_doy rfl j).1).trans n_doy
  replace n_qlt : h_279.2.1 qlt = F_qlt := (funext fun j => (hs.a g_qlt rfl j).1).trans n_qlt
  replace n_m_wkd : h_279.2.1 m_wkd = F_m_wkd := (funext fun j => (hs.a g_m_wkd rfl j).1).trans n_m_wkd
  replace n_aga : h_279.2.1 m_aga = F_aga := (funext fun j => (hs.a g_m_aga rfl j).1).trans n_aga
  replace n_ad : h_279.2.1 m_ad = F_ad := (funext fun j => (hs.a g_m_ad rfl j).1).trans n_ad
  replace n_by : h_279.2.1 m_by = F_by := (funext fun j => (hs.a g_m_by rfl j).1).trans n_by
  replace n_ho : h_279.2.1 m_ho = F_ho := (funext fun j => (hs.a g_m_ho rfl j).1).trans n_ho
  replace n_fc : h_279.2.1 m_fc = F_fc := (funext fun j => (hs.a g_m_fc rfl j).1).trans n_fc
  replace n_nt : h_279.2.1 m_nt = F_nt := (funext fun j => (hs.a g_m_nt rfl j).1).trans n_nt
  replace n_wt : h_279.2.1 m_wt = F_wt := (funext fun j => (hs.a g_m_wt rfl j).1).trans n_wt
  replace n_be : h_279.2.1 m_be = F_be := (funext fun j => (hs.a g_m_be rfl j).1).trans n_be
  replace n_bor : h_279.2.1 m_bor = F_bor := (funext fun j => (hs.a g_m_bor rfl j).1).trans n_bor
  replace n_kin : h_279.2.1 m_kin = F_kin := (funext fun j => (hs.a g_m_kin rfl j).1).trans n_kin
  replace n_sum : h_279.2.1 m_sum = F_sum := (funext fun j => (hs.a g_m_sum rfl j).1).trans n_sum
  replace n_fro : h_279.2.1 m_fro = F_fro := (funext fun j => (hs.a g_m_fro rfl j).1).trans n_fro
  replace n_fil : h_279.2.1 m_fil = F_fil := (funext fun j => (hs.a g_m_fil rfl j).1).trans n_fil
  replace n_jud : h_279.2.1 m_jud = F_jud := (funext fun j => (hs.a g_m_jud rfl j).1).trans n_jud
  replace fw_262 : h_279.2.1 b_of = w_262 := (funext fun j => (hs.a g_b_of rfl j).1).trans fw_262
  replace fw_263 : h_279.2.1 b_wf = w_263 := (funext fun j => (hs.a g_b_wf rfl j).1).trans fw_263
  replace fw_264 : h_279.2.1 b_df = w_264 := (funext fun j => (hs.a g_b_df rfl j).1).trans fw_264
  replace fw_265 : h_279.2.1 b_kf = w_265 := (funext fun j => (hs.a g_b_kf rfl j).1).trans fw_265
  replace fw_266 : h_279.2.1 b_sf = w_266 := (funext fun j => (hs.a g_b_sf rfl j).1).trans fw_266
  replace fw_267 : h_279.2.1 b_bf = w_267 := (funext fun j => (hs.a g_b_bf rfl j).1).trans fw_267
  replace gx := gx.S hs
  replace gm := gm.S hs
  replace g_qa := g_qa.S hs
  replace g_qp := g_qp.S hs
  replace g_qc := g_qc.S hs
  replace g_qh := g_qh.S hs
  replace g_qw := g_qw.S hs
  replace g_ql := g_ql.S hs
  replace g_mw := g_mw.S hs
  replace g_mr := g_mr.S hs
  replace g_mp := g_mp.S hs
  replace g_mn := g_mn.S hs
  replace g_ml := g_ml.S hs
  replace g_mh := g_mh.S hs
  replace g_mt := g_mt.S hs
  replace g_m_fou := g_m_fou.S hs
  replace g_qo_ln := g_qo_ln.S hs
  replace g_b_of := g_b_of.S hs
  replace g_m_of := g_m_of.S hs
  replace g_b_wf := g_b_wf.S hs
  replace g_m_wf := g_m_wf.S hs
  replace g_b_df := g_b_df.S hs
  replace g_m_df := g_m_df.S hs
  replace g_b_kf := g_b_kf.S hs
  replace g_m_kf := g_m_kf.S hs
  replace g_b_sf := g_b_sf.S hs
  replace g_m_sf := g_m_sf.S hs
  replace g_b_bf := g_b_bf.S hs
  replace g_m_lst := g_m_lst.S hs
  replace g_qtp := g_qtp.S hs
  replace g_m_tp := g_m_tp.S hs
  replace g_m_dead := g_m_dead.S hs
  replace g_m_isj := g_m_isj.S hs
  replace g_m_dox := g_m_dox.S hs
  replace g_m_doy := g_m_doy.S hs
  replace g_qlt := g_qlt.S hs
  replace g_qlf := g_qlf.S hs
  replace g_m_wkd := g_m_wkd.S hs
  replace g_m_aga := g_m_aga.S hs
  replace g_qwo := g_qwo.S hs
  replace g_m_ad := g_m_ad.S hs
  replace g_m_by := g_m_by.S hs
  replace g_m_ho := g_m_ho.S hs
  replace g_m_fc := g_m_fc.S hs
  replace g_m_nt := g_m_nt.S hs
  replace g_m_wt := g_m_wt.S hs
  replace g_m_be := g_m_be.S hs
  replace g_m_bor := g_m_bor.S hs
  replace g_m_kin := g_m_kin.S hs
  replace g_m_sum := g_m_sum.S hs
  replace g_m_fro := g_m_fro.S hs
  replace g_m_fil := g_m_fil.S hs
  replace g_m_jud := g_m_jud.S hs
  have fw_283 : h_279.2.1 am 29 = w_283 := fw_283
  have bw_283 := hT.gi gm tt_10 (k := 29) rfl
  rw [fw_283] at bw_283
  have bw_283 : 0 ≤ w_283.toInt ∧ w_283.toInt ≤ 400 := bw_283
  have fw_284 : h_279.2.1 m_of = w_284 := fw_284
  have fw_285 : h_279.2.1 m_wf = w_285 := fw_285
  have fw_286 : h_279.2.1 m_df = w_286 := fw_286
  have fw_287 : h_279.2.1 m_kf = w_287 := fw_287
  have fw_288 : h_279.2.1 m_sf = w_288 := fw_288
  refine lv_pop hx hb dL_law_606 rfl ?_
  refine lv_goto (tgt := 1379) hx hb dL_law_607 (by decide) ?_
  obtain ⟨heq, hq_ln⟩ := hx_lk hr_260.1 hr_282.1
  have hq_b_of := hx_lak heq (by rcases hr_260.1 with ⟨z, w, _⟩ | ⟨z, w, _⟩; exact Or.inl ⟨z, w⟩; exact Or.inr ⟨z, w⟩) hr_260.2.1 hr_282.2.1 eb_of
  have hq_b_wf := hx_lak heq (by rcases hr_260.1 with ⟨z, w, _⟩ | ⟨z, w, _⟩; exact Or.inl ⟨z, w⟩; exact Or.inr ⟨z, w⟩) hr_260.2.2.1 hr_282.2.2.1 eb_wf
  have hq_b_df := hx_lak heq (by rcases hr_260.1 with ⟨z, w, _⟩ | ⟨z, w, _⟩; exact Or.inl ⟨z, w⟩; exact Or.inr ⟨z, w⟩) hr_260.2.2.2.1 hr_282.2.2.2.1 eb_df
  have hq_b_kf := hx_lak heq (by rcases hr_260.1 with ⟨z, w, _⟩ | ⟨z, w, _⟩; exact Or.inl ⟨z, w⟩; exact Or.inr ⟨z, w⟩) hr_260.2.2.2.2.1 hr_282.2.2.2.2.1 eb_kf
  have hq_b_sf := hx_lak heq (by rcases hr_260.1 with ⟨z, w, _⟩ | ⟨z, w, _⟩; exact Or.inl ⟨z, w⟩; exact Or.inr ⟨z, w⟩) hr_260.2.2.2.2.2.1 hr_282.2.2.2.2.2 eb_sf
  have hq_DY := hy_DY_s hDY (by rcases hr_260.1 with ⟨z, w, _⟩ | ⟨z, w, y⟩; exact Or.inl ⟨z, w⟩; exact Or.inr ⟨z, w, by have := y.2.2.2.2.1; omega, by have := y.2.2.2.2.1; omega⟩) (by omega) hr_260.2.2.2.1
  refine W.widen (k := CC + 3) (n := SS + 179) (by omega) (by omega) ?_
  exact kk L_278 h_279 H locs ls hW ⟨hT, gx, gm, ⟨f_x_now.trans f_m_now.symm, f_x_personCount.trans f_m_persons.symm, f_x_claimCount.trans f_m_claims.symm, f_x_tapeLength.trans f_m_taped.symm, f_x_actCount.trans f_m_acts.symm, f_x_heardCount.trans f_m_heardMany.symm, hx_ob f_qo_ln ((fw_261.trans hq_ln).trans fw_283.symm), hx_ob f_qw (f_o_lsd.trans f_m_listed.symm), hx_ob f_qw (f_o_wkm.trans f_m_walkedMany.symm), hx_ob f_qp (by rw [f_x_personCount]; exact nu_qp), hx_ob f_qc (by rw [f_x_claimCount]; exact nu_qc), (fun b a r hb ha hr => by obtain rfl : qo_ln = b := Option.some.inj (f_qo_ln.symm.trans hb); obtain rfl : b_of = a := Option.some.inj (f_b_of.symm.trans ha); obtain rfl : m_of = r := Option.some.inj (f_m_of.symm.trans hr); rw [fw_262, fw_284, fw_261]; exact hq_b_of), (fun b a r hb ha hr => by obtain rfl : qo_ln = b := Option.some.inj (f_qo_ln.symm.trans hb); obtain rfl : b_wf = a := Option.some.inj (f_b_wf.symm.trans ha); obtain rfl : m_wf = r := Option.some.inj (f_m_wf.symm.trans hr); rw [fw_263, fw_285, fw_261]; exact hq_b_wf), (fun b a r hb ha hr => by obtain rfl : qo_ln = b := Option.some.inj (f_qo_ln.symm.trans hb); obtain rfl : b_df = a := Option.some.inj (f_b_df.symm.trans ha); obtain rfl : m_df = r := Option.some.inj (f_m_df.symm.trans hr); rw [fw_264, fw_286, fw_261]; exact hq_b_df), (fun b a r hb ha hr => by obtain rfl : qo_ln = b := Option.some.inj (f_qo_ln.symm.trans hb); obtain rfl : b_kf = a := Option.some.inj (f_b_kf.symm.trans ha); obtain rfl : m_kf = r := Option.some.inj (f_m_kf.symm.trans hr); rw [fw_265, fw_287, fw_261]; exact hq_b_kf), (fun b a r hb ha hr => by obtain rfl : qo_ln = b := Option.some.inj (f_qo_ln.symm.trans hb); obtain rfl : b_sf = a := Option.some.inj (f_b_sf.symm.trans ha); obtain rfl : m_sf = r := Option.some.inj (f_m_sf.symm.trans hr); rw [fw_266, fw_288, fw_261]; exact hq_b_sf), (fun b a r hb ha hr => by obtain rfl : qo_ln = b := Option.some.inj (f_qo_ln.symm.trans hb); obtain rfl : b_df = a := Option.some.inj (f_b_df.symm.trans ha); obtain rfl : b_bf = r := Option.some.inj (f_b_bf.symm.trans hr); rw [fw_264, fw_267, fw_261]; exact ⟨hr_260.2.2.2.2.2.2, hq_DY⟩), (fun w q c hw hq hc => by obtain rfl : qw = w := Option.some.inj (f_qw.symm.trans hw); obtain rfl : ql = q := Option.some.inj (f_ql.symm.trans hq); obtain rfl : qc = c := Option.some.inj (f_qc.symm.trans hc); exact sb_list), (fun w q r hw hq hr => by obtain rfl : qw = w := Option.some.inj (f_qw.symm.trans hw); obtain rfl : ql = q := Option.some.inj (f_ql.symm.trans hq); obtain rfl : m_lst = r := Option.some.inj (f_m_lst.symm.trans hr); rw [cl_lst, n_lst]; exact eq_lst), (fun w q r hw hq hr => by obtain rfl : qw = w := Option.some.inj (f_qw.symm.trans hw); obtain rfl : qlt = q := Option.some.inj (f_qlt.symm.trans hq); obtain rfl : m_wkd = r := Option.some.inj (f_m_wkd.symm.trans hr); rw [n_qlt, n_m_wkd, f_o_wkm]; exact eb_wkd), (fun c q a hc hq ha => by obtain rfl : qc = c := Option.some.inj (f_qc.symm.trans hc); obtain rfl : qp = q := Option.some.inj (f_qp.symm.trans hq); obtain rfl : m_aga = a := Option.some.inj (f_m_aga.symm.trans ha); rw [n_aga, f_x_claimCount]; exact hw_DF_e hDF rfl rfl), (fun q r hq hr => by obtain rfl : qtp = q := Option.some.inj (f_qtp.symm.trans hq); obtain rfl : m_tp = r := Option.some.inj (f_m_tp.symm.trans hr); exact n_qtp.trans n_tp.symm), (fun q w a b c d e p hq hw ha hb hc hd he hp => by obtain rfl : qa = q := Option.some.inj (f_qa.symm.trans hq); obtain rfl : qwo = w := Option.some.inj (f_qwo.symm.trans hw); obtain rfl : m_ad = a := Option.some.inj (f_m_ad.symm.trans ha); obtain rfl : mr = b := Option.some.inj (f_mr.symm.trans hb); obtain rfl : mn = c := Option.some.inj (f_mn.symm.trans hc); obtain rfl : mp = d := Option.some.inj (f_mp.symm.trans hd); obtain rfl : qc = e := Option.some.inj (f_qc.symm.trans he); obtain rfl : ml = p := Option.some.inj (f_ml.symm.trans hp); exact ⟨_, by rw [f_x_actCount]; exact hRA9, by rw [f_x_actCount, n_ad, n_mr, n_mn, n_mp]; exact hCA9, by rw [n_ml, f_x_claimCount]; exact hv_AC_e hAC9 rfl rfl rfl, hAB⟩), (fun c q a hc hq ha => by obtain rfl : qc = c := Option.some.inj (f_qc.symm.trans hc); obtain rfl : qp = q := Option.some.inj (f_qp.symm.trans hq); obtain rfl : m_by = a := Option.some.inj (f_m_by.symm.trans ha); rw [n_by, f_x_claimCount]; exact hw_DF_e hDP rfl rfl), (fun q c a hq hc ha => by obtain rfl : qh = q := Option.some.inj (f_qh.symm.trans hq); obtain rfl : qc = c := Option.some.inj (f_qc.symm.trans hc); obtain rfl : m_ho = a := Option.some.inj (f_m_ho.symm.trans ha); rw [n_ho, f_x_heardCount, f_x_claimCount]; exact hv_HL_e hHL rfl rfl rfl), (fun a b ha hb => by obtain rfl : m_ho = a := Option.some.inj (f_m_ho.symm.trans ha); obtain rfl : mh = b := Option.some.inj (f_mh.symm.trans hb); rw [n_ho, n_mh, f_m_heardMany, f_m_claims]; exact hHO9), (fun c a b d e f hc ha hb hd he hf => by obtain rfl : qc = c := Option.some.inj (f_qc.symm.trans hc); obtain rfl : m_fc = a := Option.some.inj (f_m_fc.symm.trans ha); obtain rfl : m_nt = b := Option.some.inj (f_m_nt.symm.trans hb); obtain rfl : m_wt = d := Option.some.inj (f_m_wt.symm.trans hd); obtain rfl : m_sum = e := Option.some.inj (f_m_sum.symm.trans he); obtain rfl : mh = f := Option.some.inj (f_mh.symm.trans hf); exact ⟨cF9L, by rw [f_x_claimCount]; exact hFX, by rw [n_fc, n_nt, n_wt, n_sum, n_mh, f_x_claimCount]; exact hFR9⟩), (fun c a hc ha => by obtain rfl : qc = c := Option.some.inj (f_qc.symm.trans hc); obtain rfl : m_be = a := Option.some.inj (f_m_be.symm.trans ha); rw [n_be, f_x_claimCount]; exact hv_FX_e hBX rfl rfl), hx_ob2 f_qp f_m_bor (cl_bor.trans n_bor.symm), hx_ob2 f_qp f_m_kin (cl_kin.trans n_kin.symm), hx_ob2 f_qc f_m_sum (cl_sum.trans n_sum.symm), hx_ob2 f_qc f_m_fro (cl_fro.trans n_fro.symm), hx_ob2 f_qc f_m_fil (cl_fil.trans n_fil.symm), hx_ob2 f_qc f_mh (cl_hea.trans n_mh.symm), hx_ob2 f_qc f_m_jud (cl_jud.trans n_jud.symm), hx_ob2 f_qp f_m_dead (by rw [cl_dead, n_dead]; exact eq_dead), hx_ob2 f_qp f_m_isj (by rw [cl_isj, n_isj]; exact eq_isj), hx_ob2 f_qp f_m_dox (by rw [cl_dox, n_dox]; exact eq_dox), hx_ob2 f_qp f_m_doy (by rw [cl_doy, n_doy]; exact eq_doy), hx_ob2 f_qc f_m_fou (by rw [cl_fou, n_m_fou]; exact eq_fou), hx_ob2 f_qc f_mt (by rw [cl_tri, n_mt]; exact eq_tri), trivial⟩, ⟨hx_ob f_qa pf_qa, hx_ob f_qp pf_qp, hx_ob f_qc pf_qc, hx_ob f_qh pf_qh, (fun w q hw hq => by obtain rfl : qw = w := Option.some.inj (f_qw.symm.trans hw); obtain rfl : ql = q := Option.some.inj (f_ql.symm.trans hq); exact pf_ql)⟩, ⟨hx_ob f_mw (by rw [n_mw]; exact hwd), hx_ob f_mr (by rw [n_mr, f_m_acts]; exact hWK), hx_ob2 f_mp f_mn (by rw [n_mp, n_mn, f_m_acts]; exact hRP), hx_ob f_ml (by rw [n_ml, f_m_claims, f_m_acts]; exact hPL), hx_ob f_mh (by rw [n_mh, f_m_heardMany, f_m_claims]; exact hHC), hx_ob f_mt (by rw [n_mt]; exact (hx_TR_le hTR (by omega))), hx_ob2 f_mh f_m_fou (by rw [n_mh, n_m_fou, f_m_claims]; exact hHF)⟩⟩ hl

set_option maxHeartbeats 4000000 in
set_option maxRecDepth 100000 in
theorem law_case_10 {p : Program} {e : Env} {s : State} {m : MethodId} {below : List Frame} {meth : Method} {c : Code} (l : Launch) {b LN : Nat} {xs : Nat → Int32} (hx : p.tables.exec = Jvm.exec) (hb : c.code = code) (hr : meth.sig.returnType = ret) (hlocks : meth.locks = false) (hml : c.maxLocals = 4) (hown : s.vm.findClass "SmallCourtLaw" = some m.cls) (hts : ∀ w ∈ hx_all, w.before #[Value.ref b] s = true) (hX : va_X b LN xs s s.heap) (hbl : b < s.heap.size) (hbA : ¬ s.heap.size ≤ b) (hLN : LN ≤ 3584) (dC : Nat → ClassId) (dI : Nat → Nat → Nat) (dA : Nat → ClassId) (b0 : hx_z) (ax am : Nat) (T1 : Int) (hT0 : 0 ≤ T1) (hT1 : T1 ≤ 511) (i : Int32) (hi0 : 0 ≤ i.toInt) (hiL : i.toInt + 7 ≤ LN) (CC SS : Nat) (hCC : CC + 3 ≤ 600000) (hSS : SS + 179 ≤ 7302250) (L1 : List Nat) (hl1 : hx_h) (H : Heap) (locs : List Loc) (ls : Array Slot) (hW : hx_W T_tb (P_ty dA) (dC, dI) vwCl (fun q : Nat => s.heap.size ≤ q) s.heap L1 hl1 s H locs) (hZ : hx_Xt (fun q : Nat => s.heap.size ≤ q) b0 s) (hI : hx_IV T1 ax am L1 hl1) (hl : lv_has ls 4 [(3, .int i), (2, .ref am), (1, .ref ax), (0, .ref b)]) (kk : ∀ (L2 : List Nat) (h2 : hx_h) (H2 : Heap) (locs2 : List Loc) (ls2 : Array Slot), hx_W T_tb (P_ty dA) (dC, dI) vwCl (fun q : Nat => s.heap.size ≤ q) s.heap L2 h2 s H2 locs2 → hx_IV (T1 + 1) ax am L2 h2 → lv_has ls2 4 [(3, .int i), (2, .ref am), (1, .ref ax), (0, .ref b)] → W p l e room_1 s m #[Value.ref b] below meth c H2 locs2 (CC + 3) (SS + 179) (lw_Z below #[Value.ref b] s) (F0 m 1379 ls2 [])) : W p l e room_1 s m #[Value.ref b] below meth c H locs CC SS (lw_Z below #[Value.ref b] s) (F0 m 610 ls []) := by
  obtain ⟨hT, gx, gm, ⟨he_nw, he_np, he_c0, he_tl, he_a0, he_m0, ho_ln, ho_lsd, ho_wkm, hn_qp, hn_qc, hk_of, hk_wf, hk_df, hk_kf, hk_sf, hkBD, hLQ, hLE, hkWD, hkDF, hkTP, hkAC, hkDP, hkHL, hkHO, hkFX, hkBX, hf_bor, hf_kin, hf_sum, hf_fro, hf_fil, hf_hea, hf_jud, hc_dead, hc_isj, hc_dox, hc_doy, hc_fou, hc_tri, -⟩, ⟨ia, ip, ic, ih, il⟩, ⟨jw, jr, jp, jl, jh, jt, jf⟩⟩ := hI
  obtain ⟨qa, f_qa, g_qa⟩ := hx_rf hT gx tt_9 (k := 5) (u := 43) rfl
  have pf_qa := ia qa f_qa
  obtain ⟨qp, f_qp, g_qp⟩ := hx_rf hT gx tt_9 (k := 7) (u := 44) rfl
  have pf_qp := ip qp f_qp
  obtain ⟨qc, f_qc, g_qc⟩ := hx_rf hT gx tt_9 (k := 10) (u := 45) rfl
  have pf_qc := ic qc f_qc
  obtain ⟨qh, f_qh, g_qh⟩ := hx_rf hT gx tt_9 (k := 12) (u := 46) rfl
  have pf_qh := ih qh f_qh
  obtain ⟨qw, f_qw, g_qw⟩ := hx_rf hT gx tt_9 (k := 19) (u := 8) rfl
  obtain ⟨ql, f_ql, g_ql⟩ := hx_rf hT g_qw tt_8 (k := 3) (u := 40) rfl
  have pf_ql := il qw ql f_qw f_ql
  obtain ⟨nw, f_m_now⟩ : ∃ y : Int32, hl1.2.1 am 0 = y := ⟨_, rfl⟩
  have b_nw := hT.gi gm tt_10 (k := 0) rfl
  rw [f_m_now] at b_nw
  have b_nw : 0 ≤ nw.toInt ∧ nw.toInt ≤ 7999 := b_nw
  obtain ⟨np, f_m_persons⟩ : ∃ y : Int32, hl1.2.1 am 20 = y := ⟨_, rfl⟩
  have b_np := hT.gi gm tt_10 (k := 20) rfl
  rw [f_m_persons] at b_np
  have b_np : 0 ≤ np.toInt ∧ np.toInt ≤ 40 := b_np
  obtain ⟨c0, f_m_claims⟩ : ∃ y : Int32, hl1.2.1 am 36 = y := ⟨_, rfl⟩
  have b_c0 := hT.gi gm tt_10 (k := 36) rfl
  rw [f_m_claims] at b_c0
  have b_c0 : 0 ≤ c0.toInt ∧ c0.toInt ≤ 100 := b_c0
  obtain ⟨tl, f_m_taped⟩ : ∃ y : Int32, hl1.2.1 am 7 = y := ⟨_, rfl⟩
  have b_tl := hT.gi gm tt_10 (k := 7) rfl
  rw [f_m_taped] at b_tl
  have b_tl : 0 ≤ tl.toInt ∧ tl.toInt ≤ 400 := b_tl
  obtain ⟨a0, f_m_acts⟩ : ∃ y : Int32, hl1.2.1 am 1 = y := ⟨_, rfl⟩
  have b_a0 := hT.gi gm tt_10 (k := 1) rfl
  rw [f_m_acts] at b_a0
  have b_a0 : 0 ≤ a0.toInt ∧ a0.toInt ≤ 8 := b_a0
  obtain ⟨m0, f_m_heardMany⟩ : ∃ y : Int32, hl1.2.1 am 57 = y := ⟨_, rfl⟩
  have b_m0 := hT.gi gm tt_10 (k := 57) rfl
  rw [f_m_heardMany] at b_m0
  have b_m0 : 0 ≤ m0.toInt ∧ m0.toInt ≤ 100 := b_m0
  obtain ⟨ln, f_m_lines⟩ : ∃ y : Int32, hl1.2.1 am 29 = y := ⟨_, rfl⟩
  have b_ln := hT.gi gm tt_10 (k := 29) rfl
  rw [f_m_lines] at b_ln
  have b_ln : 0 ≤ ln.toInt ∧ ln.toInt ≤ 400 := b_ln
  obtain ⟨lsd, f_m_listed⟩ : ∃ y : Int32, hl1.2.1 am 90 = y := ⟨_, rfl⟩
  have b_lsd := hT.gi gm tt_10 (k := 90) rfl
  rw [f_m_listed] at b_lsd
  have b_lsd : 0 ≤ lsd.toInt ∧ lsd.toInt ≤ 8 := b_lsd
  obtain ⟨wkm, f_m_walkedMany⟩ : ∃ y : Int32, hl1.2.1 am 92 = y := ⟨_, rfl⟩
  have b_wkm := hT.gi gm tt_10 (k := 92) rfl
  rw [f_m_walkedMany] at b_wkm
  have b_wkm : 0 ≤ wkm.toInt ∧ wkm.toInt ≤ 8 := b_wkm
  have f_x_now : hl1.2.1 ax 2 = nw := he_nw.trans f_m_now
  have f_x_personCount : hl1.2.1 ax 8 = np := he_np.trans f_m_persons
  have f_x_claimCount : hl1.2.1 ax 11 = c0 := he_c0.trans f_m_claims
  have f_x_tapeLength : hl1.2.1 ax 1 = tl := he_tl.trans f_m_taped
  have f_x_actCount : hl1.2.1 ax 6 = a0 := he_a0.trans f_m_acts
  have f_x_heardCount : hl1.2.1 ax 13 = m0 := he_m0.trans f_m_heardMany
  obtain ⟨mw, f_mw, g_mw⟩ := hx_rf hT gm tt_10 (k := 19) (u := 57) rfl
  obtain ⟨F_mw, n_mw⟩ : ∃ g : Nat → Int32, hl1.2.1 mw = g := ⟨_, rfl⟩
  obtain ⟨mr, f_mr, g_mr⟩ := hx_rf hT gm tt_10 (k := 3) (u := 50) rfl
  obtain ⟨F_mr, n_mr⟩ : ∃ g : Nat → Int32, hl1.2.1 mr = g := ⟨_, rfl⟩
  obtain ⟨mp, f_mp, g_mp⟩ := hx_rf hT gm tt_10 (k := 5) (u := 52) rfl
  obtain ⟨F_mp, n_mp⟩ : ∃ g : Nat → Int32, hl1.2.1 mp = g := ⟨_, rfl⟩
  obtain ⟨mn, f_mn, g_mn⟩ := hx_rf hT gm tt_10 (k := 4) (u := 51) rfl
  obtain ⟨F_mn, n_mn⟩ : ∃ g : Nat → Int32, hl1.2.1 mn = g := ⟨_, rfl⟩
  obtain ⟨ml, f_ml, g_ml⟩ := hx_rf hT gm tt_10 (k := 44) (u := 79) rfl
  obtain ⟨F_ml, n_ml⟩ : ∃ g : Nat → Int32, hl1.2.1 ml = g := ⟨_, rfl⟩
  obtain ⟨mh, f_mh, g_mh⟩ := hx_rf hT gm tt_10 (k := 47) (u := 82) rfl
  obtain ⟨F_mh, n_mh⟩ : ∃ g : Nat → Int32, hl1.2.1 mh = g := ⟨_, rfl⟩
  obtain ⟨mt, f_mt, g_mt⟩ := hx_rf hT gm tt_10 (k := 45) (u := 80) rfl
  obtain ⟨F_mt, n_mt⟩ : ∃ g : Nat → Int32, hl1.2.1 mt = g := ⟨_, rfl⟩
  obtain ⟨m_fou, f_m_fou, g_m_fou⟩ := hx_rf hT gm tt_10 (k := 46) (u := 81) rfl
  obtain ⟨F_m_fou, n_m_fou⟩ : ∃ g : Nat → Int32, hl1.2.1 m_fou = g := ⟨_, rfl⟩
  obtain ⟨qo_ln, f_qo_ln, g_qo_ln⟩ := hx_rf hT gx tt_9 (k := 9) (u := 1) rfl
  have f_o_ln : hl1.2.1 qo_ln 0 = ln := (ho_ln qo_ln f_qo_ln).trans f_m_lines
  have f_o_lsd : hl1.2.1 qw 0 = lsd := (ho_lsd qw f_qw).trans f_m_listed
  have f_o_wkm : hl1.2.1 qw 1 = wkm := (ho_wkm qw f_qw).trans f_m_walkedMany
  have nu_qp := hn_qp qp f_qp; rw [f_x_personCount] at nu_qp
  have nu_qc := hn_qc qc f_qc; rw [f_x_claimCount] at nu_qc
  obtain ⟨b_of, f_b_of, g_b_of⟩ := hx_rf hT g_qo_ln tt_1 (k := 1) (u := 13) rfl
  obtain ⟨B_of, n_b_of⟩ : ∃ g : Nat → Int32, hl1.2.1 b_of = g := ⟨_, rfl⟩
  obtain ⟨m_of, f_m_of, g_m_of⟩ := hx_rf hT gm tt_10 (k := 30) (u := 66) rfl
  obtain ⟨F_of, n_m_of⟩ : ∃ g : Nat → Int32, hl1.2.1 m_of = g := ⟨_, rfl⟩
  have eb_of := hk_of qo_ln b_of m_of f_qo_ln f_b_of f_m_of; rw [n_b_of, n_m_of, f_o_ln] at eb_of
  obtain ⟨b_wf, f_b_wf, g_b_wf⟩ := hx_rf hT g_qo_ln tt_1 (k := 2) (u := 14) rfl
  obtain ⟨B_wf, n_b_wf⟩ : ∃ g : Nat → Int32, hl1.2.1 b_wf = g := ⟨_, rfl⟩
  obtain ⟨m_wf, f_m_wf, g_m_wf⟩ := hx_rf hT gm tt_10 (k := 31) (u := 67) rfl
  obtain ⟨F_wf, n_m_wf⟩ : ∃ g : Nat → Int32, hl1.2.1 m_wf = g := ⟨_, rfl⟩
  have eb_wf := hk_wf qo_ln b_wf m_wf f_qo_ln f_b_wf f_m_wf; rw [n_b_wf, n_m_wf, f_o_ln] at eb_wf
  obtain ⟨b_df, f_b_df, g_b_df⟩ := hx_rf hT g_qo_ln tt_1 (k := 3) (u := 15) rfl
  obtain ⟨B_df, n_b_df⟩ : ∃ g : Nat → Int32, hl1.2.1 b_df = g := ⟨_, rfl⟩
  obtain ⟨m_df, f_m_df, g_m_df⟩ := hx_rf hT gm tt_10 (k := 32) (u := 68) rfl
  obtain ⟨F_df, n_m_df⟩ : ∃ g : Nat → Int32, hl1.2.1 m_df = g := ⟨_, rfl⟩
  have eb_df := hk_df qo_ln b_df m_df f_qo_ln f_b_df f_m_df; rw [n_b_df, n_m_df, f_o_ln] at eb_df
  obtain ⟨b_kf, f_b_kf, g_b_kf⟩ := hx_rf hT g_qo_ln tt_1 (k := 4) (u := 16) rfl
  obtain ⟨B_kf, n_b_kf⟩ : ∃ g : Nat → Int32, hl1.2.1 b_kf = g := ⟨_, rfl⟩
  obtain ⟨m_kf, f_m_kf, g_m_kf⟩ := hx_rf hT gm tt_10 (k := 33) (u := 69) rfl
  obtain ⟨F_kf, n_m_kf⟩ : ∃ g : Nat → Int32, hl1.2.1 m_kf = g := ⟨_, rfl⟩
  have eb_kf := hk_kf qo_ln b_kf m_kf f_qo_ln f_b_kf f_m_kf; rw [n_b_kf, n_m_kf, f_o_ln] at eb_kf
  obtain ⟨b_sf, f_b_sf, g_b_sf⟩ := hx_rf hT g_qo_ln tt_1 (k := 5) (u := 17) rfl
  obtain ⟨B_sf, n_b_sf⟩ : ∃ g : Nat → Int32, hl1.2.1 b_sf = g := ⟨_, rfl⟩
  obtain ⟨m_sf, f_m_sf, g_m_sf⟩ := hx_rf hT gm tt_10 (k := 34) (u := 70) rfl
  obtain ⟨F_sf, n_m_sf⟩ : ∃ g : Nat → Int32, hl1.2.1 m_sf = g := ⟨_, rfl⟩
  have eb_sf := hk_sf qo_ln b_sf m_sf f_qo_ln f_b_sf f_m_sf; rw [n_b_sf, n_m_sf, f_o_ln] at eb_sf
  obtain ⟨b_bf, f_b_bf, g_b_bf⟩ := hx_rf hT g_qo_ln tt_1 (k := 6) (u := 18) rfl
  obtain ⟨bfL, n_b_bf⟩ : ∃ g : Nat → Int32, hl1.2.1 b_bf = g := ⟨_, rfl⟩
  obtain ⟨hBD, hDY⟩ := hkBD qo_ln b_df b_bf f_qo_ln f_b_df f_b_bf; rw [n_b_df, n_b_bf, f_o_ln] at hBD; rw [n_b_df, f_o_ln] at hDY
  have hBDm := hy_BD_c eb_df hBD
  have hDYm : hy_DY F_df ln.toInt.toNat := fun x hx => by rw [← eb_df x hx]; exact hDY x hx
  have sb_list := hLQ qw ql qc f_qw f_ql f_qc
  obtain ⟨m_lst, f_m_lst, g_m_lst⟩ := hx_rf hT gm tt_10 (k := 91) (u := 112) rfl
  obtain ⟨F_lst, n_lst⟩ : ∃ g : Nat → Int32, hl1.2.1 m_lst = g := ⟨_, rfl⟩
  obtain ⟨c_lst, cl_lst⟩ : ∃ g : Nat → Int32, hx_col 8 hl1 ql 0 = g := ⟨_, rfl⟩
  have eq_lst := hLE qw ql m_lst f_qw f_ql f_m_lst; rw [cl_lst, n_lst] at eq_lst
  obtain ⟨qtp, f_qtp, g_qtp⟩ := hx_rf hT gx tt_9 (k := 0) (u := 42) rfl
  obtain ⟨m_tp, f_m_tp, g_m_tp⟩ := hx_rf hT gm tt_10 (k := 6) (u := 53) rfl
  obtain ⟨F_tp, n_tp⟩ : ∃ g : Nat → Int32, hl1.2.1 m_tp = g := ⟨_, rfl⟩
  have n_qtp : hl1.2.1 qtp = F_tp := (hkTP qtp m_tp f_qtp f_m_tp).trans n_tp
  obtain ⟨c_dead, cl_dead⟩ : ∃ g : Nat → Int32, hx_col 40 hl1 qp 7 = g := ⟨_, rfl⟩
  obtain ⟨m_dead, f_m_dead, g_m_dead⟩ := hx_rf hT gm tt_10 (k := 27) (u := 64) rfl
  obtain ⟨F_dead, n_dead⟩ : ∃ g : Nat → Int32, hl1.2.1 m_dead = g := ⟨_, rfl⟩
  have eq_dead := hc_dead qp m_dead f_qp f_m_dead; rw [cl_dead, n_dead] at eq_dead
  have z_dead : np.toInt.toNat < 40 → c_dead np.toInt.toNat = 0 := fun hj => hx_num_z nu_qp cl_dead hj (by omega)
  obtain ⟨c_isj, cl_isj⟩ : ∃ g : Nat → Int32, hx_col 40 hl1 qp 8 = g := ⟨_, rfl⟩
  obtain ⟨m_isj, f_m_isj, g_m_isj⟩ := hx_rf hT gm tt_10 (k := 28) (u := 65) rfl
  obtain ⟨F_isj, n_isj⟩ : ∃ g : Nat → Int32, hl1.2.1 m_isj = g := ⟨_, rfl⟩
  have eq_isj := hc_isj qp m_isj f_qp f_m_isj; rw [cl_isj, n_isj] at eq_isj
  have z_isj : np.toInt.toNat < 40 → c_isj np.toInt.toNat = 0 := fun hj => hx_num_z nu_qp cl_isj hj (by omega)
  obtain ⟨c_dox, cl_dox⟩ : ∃ g : Nat → Int32, hx_col 40 hl1 qp 5 = g := ⟨_, rfl⟩
  obtain ⟨m_dox, f_m_dox, g_m_dox⟩ := hx_rf hT gm tt_10 (k := 24) (u := 61) rfl
  obtain ⟨F_dox, n_dox⟩ : ∃ g : Nat → Int32, hl1.2.1 m_dox = g := ⟨_, rfl⟩
  have eq_dox := hc_dox qp m_dox f_qp f_m_dox; rw [cl_dox, n_dox] at eq_dox
  have z_dox : np.toInt.toNat < 40 → c_dox np.toInt.toNat = 0 := fun hj => hx_num_z nu_qp cl_dox hj (by omega)
  obtain ⟨c_doy, cl_doy⟩ : ∃ g : Nat → Int32, hx_col 40 hl1 qp 6 = g := ⟨_, rfl⟩
  obtain ⟨m_doy, f_m_doy, g_m_doy⟩ := hx_rf hT gm tt_10 (k := 25) (u := 62) rfl
  obtain ⟨F_doy, n_doy⟩ : ∃ g : Nat → Int32, hl1.2.1 m_doy = g := ⟨_, rfl⟩
  have eq_doy := hc_doy qp m_doy f_qp f_m_doy; rw [cl_doy, n_doy] at eq_doy
  have z_doy : np.toInt.toNat < 40 → c_doy np.toInt.toNat = 0 := fun hj => hx_num_z nu_qp cl_doy hj (by omega)
  obtain ⟨c_fou, cl_fou⟩ : ∃ g : Nat → Int32, hx_col 100 hl1 qc 10 = g := ⟨_, rfl⟩
  have eq_fou := hc_fou qc m_fou f_qc f_m_fou; rw [cl_fou, n_m_fou] at eq_fou
  have z_fou : c0.toInt.toNat < 100 → c_fou c0.toInt.toNat = 0 := fun hj => hx_num_z nu_qc cl_fou hj (by omega)
  obtain ⟨c_tri, cl_tri⟩ : ∃ g : Nat → Int32, hx_col 100 hl1 qc 9 = g := ⟨_, rfl⟩
  have eq_tri := hc_tri qc mt f_qc f_mt; rw [cl_tri, n_mt] at eq_tri
  have z_tri : c0.toInt.toNat < 100 → c_tri c0.toInt.toNat = 0 := fun hj => hx_num_z nu_qc cl_tri hj (by omega)
  obtain ⟨qlt, f_qlt, g_qlt⟩ := hx_rf hT g_qw tt_8 (k := 2) (u := 39) rfl
  obtain ⟨qlf, f_qlf, g_qlf⟩ := hx_rf hT g_qw tt_8 (k := 4) (u := 41) rfl
  obtain ⟨m_wkd, f_m_wkd, g_m_wkd⟩ := hx_rf hT gm tt_10 (k := 93) (u := 113) rfl
  obtain ⟨F_qlt, n_qlt⟩ : ∃ g : Nat → Int32, hl1.2.1 qlt = g := ⟨_, rfl⟩
  obtain ⟨F_m_wkd, n_m_wkd⟩ : ∃ g : Nat → Int32, hl1.2.1 m_wkd = g := ⟨_, rfl⟩
  have eb_wkd := hkWD qw qlt m_wkd f_qw f_qlt f_m_wkd; rw [n_qlt, n_m_wkd, f_o_wkm] at eb_wkd
  obtain ⟨m_aga, f_m_aga, g_m_aga⟩ := hx_rf hT gm tt_10 (k := 38) (u := 73) rfl
  obtain ⟨F_aga, n_aga⟩ : ∃ g : Nat → Int32, hl1.2.1 m_aga = g := ⟨_, rfl⟩
  have hDF := hkDF qc qp m_aga f_qc f_qp f_m_aga; rw [n_aga, f_x_claimCount] at hDF
  obtain ⟨qwo, f_qwo, g_qwo⟩ := hx_rf hT gx tt_9 (k := 4) (u := 0) rfl
  obtain ⟨m_ad, f_m_ad, g_m_ad⟩ := hx_rf hT gm tt_10 (k := 2) (u := 49) rfl
  obtain ⟨F_ad, n_ad⟩ : ∃ g : Nat → Int32, hl1.2.1 m_ad = g := ⟨_, rfl⟩
  obtain ⟨A9, hRA9, hCA9, hAC9, hAB⟩ := hkAC qa qwo m_ad mr mn mp qc ml f_qa f_qwo f_m_ad f_mr f_mn f_mp f_qc f_ml
  rw [f_x_actCount] at hRA9; rw [f_x_actCount, n_ad, n_mr, n_mn, n_mp] at hCA9
  obtain ⟨m_by, f_m_by, g_m_by⟩ := hx_rf hT gm tt_10 (k := 37) (u := 72) rfl
  obtain ⟨F_by, n_by⟩ : ∃ g : Nat → Int32, hl1.2.1 m_by = g := ⟨_, rfl⟩
  obtain ⟨m_ho, f_m_ho, g_m_ho⟩ := hx_rf hT gm tt_10 (k := 58) (u := 92) rfl
  obtain ⟨F_ho, n_ho⟩ : ∃ g : Nat → Int32, hl1.2.1 m_ho = g := ⟨_, rfl⟩
  obtain ⟨m_fc, f_m_fc, g_m_fc⟩ := hx_rf hT gm tt_10 (k := 53) (u := 88) rfl
  obtain ⟨F_fc, n_fc⟩ : ∃ g : Nat → Int32, hl1.2.1 m_fc = g := ⟨_, rfl⟩
  obtain ⟨m_nt, f_m_nt, g_m_nt⟩ := hx_rf hT gm tt_10 (k := 41) (u := 76) rfl
  obtain ⟨F_nt, n_nt⟩ : ∃ g : Nat → Int32, hl1.2.1 m_nt = g := ⟨_, rfl⟩
  obtain ⟨m_wt, f_m_wt, g_m_wt⟩ := hx_rf hT gm tt_10 (k := 42) (u := 77) rfl
  obtain ⟨F_wt, n_wt⟩ : ∃ g : Nat → Int32, hl1.2.1 m_wt = g := ⟨_, rfl⟩
  obtain ⟨m_be, f_m_be, g_m_be⟩ := hx_rf hT gm tt_10 (k := 52) (u := 87) rfl
  obtain ⟨F_be, n_be⟩ : ∃ g : Nat → Int32, hl1.2.1 m_be = g := ⟨_, rfl⟩
  obtain ⟨m_bor, f_m_bor, g_m_bor⟩ := hx_rf hT gm tt_10 (k := 21) (u := 58) rfl
  obtain ⟨F_bor, n_bor⟩ : ∃ g : Nat → Int32, hl1.2.1 m_bor = g := ⟨_, rfl⟩
  obtain ⟨m_kin, f_m_kin, g_m_kin⟩ := hx_rf hT gm tt_10 (k := 26) (u := 63) rfl
  obtain ⟨F_kin, n_kin⟩ : ∃ g : Nat → Int32, hl1.2.1 m_kin = g := ⟨_, rfl⟩
  obtain ⟨m_sum, f_m_sum, g_m_sum⟩ := hx_rf hT gm tt_10 (k := 39) (u := 74) rfl
  obtain ⟨F_sum, n_sum⟩ : ∃ g : Nat → Int32, hl1.2.1 m_sum = g := ⟨_, rfl⟩
  obtain ⟨m_fro, f_m_fro, g_m_fro⟩ := hx_rf hT gm tt_10 (k := 40) (u := 75) rfl
  obtain ⟨F_fro, n_fro⟩ : ∃ g : Nat → Int32, hl1.2.1 m_fro = g := ⟨_, rfl⟩
  obtain ⟨m_fil, f_m_fil, g_m_fil⟩ := hx_rf hT gm tt_10 (k := 43) (u := 78) rfl
  obtain ⟨F_fil, n_fil⟩ : ∃ g : Nat → Int32, hl1.2.1 m_fil = g := ⟨_, rfl⟩
  obtain ⟨m_jud, f_m_jud, g_m_jud⟩ := hx_rf hT gm tt_10 (k := 51) (u := 86) rfl
  obtain ⟨F_jud, n_jud⟩ : ∃ g : Nat → Int32, hl1.2.1 m_jud = g := ⟨_, rfl⟩
  have cl_bor : hx_col 40 hl1 qp 1 = F_bor := (hf_bor qp m_bor f_qp f_m_bor).trans n_bor
  have cl_kin : hx_col 40 hl1 qp 2 = F_kin := (hf_kin qp m_kin f_qp f_m_kin).trans n_kin
  have cl_sum : hx_col 100 hl1 qc 6 = F_sum := (hf_sum qc m_sum f_qc f_m_sum).trans n_sum
  have cl_fro : hx_col 100 hl1 qc 7 = F_fro := (hf_fro qc m_fro f_qc f_m_fro).trans n_fro
  have cl_fil : hx_col 100 hl1 qc 8 = F_fil := (hf_fil qc m_fil f_qc f_m_fil).trans n_fil
  have cl_hea : hx_col 100 hl1 qc 11 = F_mh := (hf_hea qc mh f_qc f_mh).trans n_mh
  have cl_jud : hx_col 100 hl1 qc 12 = F_jud := (hf_jud qc m_jud f_qc f_m_jud).trans n_jud
  have htb9 : ∀ c, c < 100 → 0 ≤ (c_tri c).toInt ∧ (c_tri c).toInt ≤ 512 := fun c hc => by rw [eq_tri c hc]; have w := hT.ei g_mt tt_80 (k := c) hc; rw [n_mt] at w; exact w
  have z_jud : F_jud c0.toInt.toNat = 0 := hx_num_z2 nu_qc cl_jud (by omega)
  have hDP := hkDP qc qp m_by f_qc f_qp f_m_by; rw [n_by, f_x_claimCount] at hDP
  have hHL := hkHL qh qc m_ho f_qh f_qc f_m_ho; rw [n_ho, f_x_heardCount, f_x_claimCount] at hHL
  have hHO9 := hkHO m_ho mh f_m_ho f_mh; rw [n_ho, n_mh, f_m_heardMany, f_m_claims] at hHO9
  obtain ⟨cF9L, hFX, hFR9⟩ := hkFX qc m_fc m_nt m_wt m_sum mh f_qc f_m_fc f_m_nt f_m_wt f_m_sum f_mh; rw [f_x_claimCount] at hFX; rw [n_fc, n_nt, n_wt, n_sum, n_mh, f_x_claimCount] at hFR9
  have hBX := hkBX qc m_be f_qc f_m_be; rw [n_be, f_x_claimCount] at hBX
  rw [n_ml, f_x_claimCount] at hAC9
  have hwd := jw mw f_mw; rw [n_mw] at hwd
  have hWK := jr mr f_mr; rw [n_mr, f_m_acts] at hWK
  have hRP := jp mp mn f_mp f_mn; rw [n_mp, n_mn, f_m_acts] at hRP
  have hPL := jl ml f_ml; rw [n_ml, f_m_claims, f_m_acts] at hPL
  have hHC := jh mh f_mh; rw [n_mh, f_m_heardMany, f_m_claims] at hHC
  have hTR := jt mt f_mt; rw [n_mt] at hTR
  have hHF := jf mh m_fou f_mh f_m_fou; rw [n_mh, n_m_fou, f_m_claims] at hHF
  refine lv_aload_n hx hb dL_law_610 rfl (lv_at hl 2 rfl) ?_
  refine lv_aload_n hx hb dL_law_611 rfl (lv_at hl 3 rfl) ?_
  refine lv_iload_n hx hb dL_law_612 rfl (lv_at hl 0 rfl) ?_
  refine lv_iconst (v := 1) hx hb dL_law_613 (by decide) ?_
  refine lv_iadd hx hb dL_law_614 ?_
  have rg_289 := i32_r i
  refine lv_topi (fun x_290 ex_290 => ?_)
  have zx_290 : x_290.toInt = i.toInt + 1 := by rw [ex_290]; exact i32_add rfl (by decide) (by omega) (by omega)
  refine va_sld hx hb hX hbl hbA hW.2.2.2.1 (vp_in_iff.mpr ⟨by omega, by omega⟩) dL_law_615 ?_
  refine lv_topi (fun x_291 ex_291 => ?_)
  refine lv_aload_n hx hb dL_law_616 rfl (lv_at hl 3 rfl) ?_
  refine lv_iload_n hx hb dL_law_617 rfl (lv_at hl 0 rfl) ?_
  refine lv_iconst (v := 2) hx hb dL_law_618 (by decide) ?_
  refine lv_iadd hx hb dL_law_619 ?_
  refine lv_topi (fun x_292 ex_292 => ?_)
  have zx_292 : x_292.toInt = i.toInt + 2 := by rw [ex_292]; exact i32_add rfl (by decide) (by omega) (by omega)
  refine va_sld hx hb hX hbl hbA hW.2.2.2.1 (vp_in_iff.mpr ⟨by omega, by omega⟩) dL_law_620 ?_
  refine lv_topi (fun x_293 ex_293 => ?_)
  refine lv_aload_n hx hb dL_law_621 rfl (lv_at hl 3 rfl) ?_
  refine lv_iload_n hx hb dL_law_622 rfl (lv_at hl 0 rfl) ?_
  refine lv_iconst (v := 3) hx hb dL_law_623 (by decide) ?_
  refine lv_iadd hx hb dL_law_624 ?_
  refine lv_topi (fun x_294 ex_294 => ?_)
  have zx_294 : x_294.toInt = i.toInt + 3 := by rw [ex_294]; exact i32_add rfl (by decide) (by omega) (by omega)
  refine va_sld hx hb hX hbl hbA hW.2.2.2.1 (vp_in_iff.mpr ⟨by omega, by omega⟩) dL_law_625 ?_
  refine lv_topi (fun x_295 ex_295 => ?_)
  refine lv_aload_n hx hb dL_law_626 rfl (lv_at hl 3 rfl) ?_
  refine lv_iload_n hx hb dL_law_627 rfl (lv_at hl 0 rfl) ?_
  refine lv_iconst (v := 4) hx hb dL_law_628 (by decide) ?_
  refine lv_iadd hx hb dL_law_629 ?_
  refine lv_topi (fun x_296 ex_296 => ?_)
  have zx_296 : x_296.toInt = i.toInt + 4 := by rw [ex_296]; exact i32_add rfl (by decide) (by omega) (by omega)
  refine va_sld hx hb hX hbl hbA hW.2.2.2.1 (vp_in_iff.mpr ⟨by omega, by omega⟩) dL_law_630 ?_
  refine lv_topi (fun x_297 ex_297 => ?_)
  have hTo := hT
  obtain ⟨q_298, fq_298, gq_298⟩ := hx_rf hT g_qo_ln tt_1 (k := 7) (u := 19) rfl
  obtain ⟨fa_299, nfa_299⟩ : ∃ g : Nat → Int32, hl1.2.1 q_298 = g := ⟨_, rfl⟩
  refine hx_goi (hx_runV (As := [.int x_291, .int x_293, .int x_295, .int x_297]) (rest := []) ⟨hx, hb, hml, hown, hts⟩ hW gx tt_9 (T := TX9) (N := 20) rfl (t_X9_book_2 l dC dI dA L1 hl1 H.size ax x_291 x_293 x_295 x_297 hT gx qp g_qp f_qp qo_ln g_qo_ln f_qo_ln b_of g_b_of f_b_of b_wf g_b_wf f_b_wf b_df g_b_df f_b_df b_kf g_b_kf f_b_kf b_sf g_b_sf f_b_sf b_bf g_b_bf f_b_bf q_298 gq_298 fq_298 B_of n_b_of B_wf n_b_wf B_df n_b_df B_kf n_b_kf B_sf n_b_sf bfL n_b_bf fa_299 nfa_299 ln f_o_ln np f_x_personCount hBD hDY pf_qp) (cwV 4 hts (hx_gV kw_683 kw_680 kw_681 kw_682 kw_94) rfl rfl rfl (by decide +kernel) ⟨Nat.le_of_ble_eq_true rfl, Nat.le_of_ble_eq_true rfl⟩) rfl hl.1 rfl (Nat.le_of_ble_eq_true rfl) dL_law_631 ⟨(show CC + 0 ≤ 600000 from by omega), (show SS + 0 ≤ 7302250 from by omega)⟩) hW (fun r_302 L_300 h_301 H locs p_303 hW => ?_)
  obtain ⟨hr_304, hT, hs⟩ := p_303
  replace hT : hx_T T_tb L_300 h_301 := hT
  replace hs : hx_S T_tb [(19, 0)] L1 hl1 L_300 h_301 := hs
  replace f_qa := (hs.o gx trivial rfl).2.trans f_qa
  replace f_qp := (hs.o gx trivial rfl).2.trans f_qp
  replace f_qc := (hs.o gx trivial rfl).2.trans f_qc
  replace f_qh := (hs.o gx trivial rfl).2.trans f_qh
  replace f_qw := (hs.o gx trivial rfl).2.trans f_qw
  replace f_ql := (hs.o g_qw trivial rfl).2.trans f_ql
  replace f_m_now := (hs.o gm trivial rfl).1.trans f_m_now
  replace f_m_persons := (hs.o gm trivial rfl).1.trans f_m_persons
  replace f_m_claims := (hs.o gm trivial rfl).1.trans f_m_claims
  replace f_m_taped := (hs.o gm trivial rfl).1.trans f_m_taped
  replace f_m_acts := (hs.o gm trivial rfl).1.trans f_m_acts
  replace f_m_heardMany := (hs.o gm trivial rfl).1.trans f_m_heardMany
  replace f_m_lines := (hs.o gm trivial rfl).1.trans f_m_lines
  replace f_m_listed := (hs.o gm trivial rfl).1.trans f_m_listed
  replace f_m_walkedMany := (hs.o gm trivial rfl).1.trans f_m_walkedMany
  replace f_x_now := (hs.o gx trivial rfl).1.trans f_x_now
  replace f_x_personCount := (hs.o gx trivial rfl).1.trans f_x_personCount
  replace f_x_claimCount := (hs.o gx trivial rfl).1.trans f_x_claimCount
  replace f_x_tapeLength := (hs.o gx trivial rfl).1.trans f_x_tapeLength
  replace f_x_actCount := (hs.o gx trivial rfl).1.trans f_x_actCount
  replace f_x_heardCount := (hs.o gx trivial rfl).1.trans f_x_heardCount
  replace f_mw := (hs.o gm trivial rfl).2.trans f_mw
  replace f_mr := (hs.o gm trivial rfl).2.trans f_mr
  replace f_mp := (hs.o gm trivial rfl).2.trans f_mp
  replace f_mn := (hs.o gm trivial rfl).2.trans f_mn
  replace f_ml := (hs.o gm trivial rfl).2.trans f_ml
  replace f_mh := (hs.o gm trivial rfl).2.trans f_mh
  replace f_mt := (hs.o gm trivial rfl).2.trans f_mt
  replace f_m_fou := (hs.o gm trivial rfl).2.trans f_m_fou
  replace f_qo_ln := (hs.o gx trivial rfl).2.trans f_qo_ln
  replace f_o_ln := (hs.o g_qo_ln trivial rfl).1.trans f_o_ln
  replace f_o_lsd := (hs.o g_qw trivial rfl).1.trans f_o_lsd
  replace f_o_wkm := (hs.o g_qw trivial rfl).1.trans f_o_wkm
  replace f_b_of := (hs.o g_qo_ln trivial rfl).2.trans f_b_of
  replace f_m_of := (hs.o gm trivial rfl).2.trans f_m_of
  replace f_b_wf := (hs.o g_qo_ln trivial rfl).2.trans f_b_wf
  replace f_m_wf := (hs.o gm trivial rfl).2.trans f_m_wf
  replace f_b_df := (hs.o g_qo_ln trivial rfl).2.trans f_b_df
  replace f_m_df := (hs.o gm trivial rfl).2.trans f_m_df
  replace f_b_kf := (hs.o g_qo_ln trivial rfl).2.trans f_b_kf
  replace f_m_kf := (hs.o gm trivial rfl).2.trans f_m_kf
  replace f_b_sf := (hs.o g_qo_ln trivial rfl).2.trans f_b_sf
  replace f_m_sf := (hs.o gm trivial rfl).2.trans f_m_sf
  replace f_b_bf := (hs.o g_qo_ln trivial rfl).2.trans f_b_bf
  replace f_m_lst := (hs.o gm trivial rfl).2.trans f_m_lst
  replace f_qtp := (hs.o gx trivial rfl).2.trans f_qtp
  replace f_m_tp := (hs.o gm trivial rfl).2.trans f_m_tp
  replace f_m_dead := (hs.o gm trivial rfl).2.trans f_m_dead
  replace f_m_isj := (hs.o gm trivial rfl).2.trans f_m_isj
  replace f_m_dox := (hs.o gm trivial rfl).2.trans f_m_dox
  replace f_m_doy := (hs.o gm trivial rfl).2.trans f_m_doy
  replace f_qlt := (hs.o g_qw trivial rfl).2.trans f_qlt
  replace f_qlf := (hs.o g_qw trivial rfl).2.trans f_qlf
  replace f_m_wkd := (hs.o gm trivial rfl).2.trans f_m_wkd
  replace f_m_aga := (hs.o gm trivial rfl).2.trans f_m_aga
  replace f_qwo := (hs.o gx trivial rfl).2.trans f_qwo
  replace f_m_ad := (hs.o gm trivial rfl).2.trans f_m_ad
  replace f_m_by := (hs.o gm trivial rfl).2.trans f_m_by
  replace f_m_ho := (hs.o gm trivial rfl).2.trans f_m_ho
  replace f_m_fc := (hs.o gm trivial rfl).2.trans f_m_fc
  replace f_m_nt := (hs.o gm trivial rfl).2.trans f_m_nt
  replace f_m_wt := (hs.o gm trivial rfl).2.trans f_m_wt
  replace f_m_be := (hs.o gm trivial rfl).2.trans f_m_be
  replace f_m_bor := (hs.o gm trivial rfl).2.trans f_m_bor
  replace f_m_kin := (hs.o gm trivial rfl).2.trans f_m_kin
  replace f_m_sum := (hs.o gm trivial rfl).2.trans f_m_sum
  replace f_m_fro := (hs.o gm trivial rfl).2.trans f_m_fro
  replace f_m_fil := (hs.o gm trivial rfl).2.trans f_m_fil
  replace f_m_jud := (hs.o gm trivial rfl).2.trans f_m_jud
  replace fq_298 := (hs.o g_qo_ln trivial rfl).2.trans fq_298
  replace pf_qa : ∀ j : Nat, (j : Int) < (h_301.2.1 ax 6).toInt → h_301.2.2 qa j ≠ none := by
    intro j hj; rw [(hs.o gx trivial rfl).1] at hj; rw [(hs.a g_qa rfl j).2]; exact pf_qa j hj
  replace pf_qp : ∀ j : Nat, (j : Int) < (h_301.2.1 ax 8).toInt → h_301.2.2 qp j ≠ none := by
    intro j hj; rw [(hs.o gx trivial rfl).1] at hj; rw [(hs.a g_qp rfl j).2]; exact pf_qp j hj
  replace pf_qc : ∀ j : Nat, (j : Int) < (h_301.2.1 ax 11).toInt → h_301.2.2 qc j ≠ none := by
    intro j hj; rw [(hs.o gx trivial rfl).1] at hj; rw [(hs.a g_qc rfl j).2]; exact pf_qc j hj
  replace pf_qh : ∀ j : Nat, (j : Int) < (h_301.2.1 ax 13).toInt → h_301.2.2 qh j ≠ none := by
    intro j hj; rw [(hs.o gx trivial rfl).1] at hj; rw [(hs.a g_qh rfl j).2]; exact pf_qh j hj
  replace pf_ql : ∀ j : Nat, (j : Int) < (h_301.2.1 qw 0).toInt → h_301.2.2 ql j ≠ none := by
    intro j hj; rw [(hs.o g_qw trivial rfl).1] at hj; rw [(hs.a g_ql rfl j).2]; exact pf_ql j hj
  replace cl_lst : hx_col 8 h_301 ql 0 = c_lst := (hx_col_S hs hTo g_ql tt_40 tt_2 rfl rfl).trans cl_lst
  replace cl_dead : hx_col 40 h_301 qp 7 = c_dead := (hx_col_S hs hTo g_qp tt_44 tt_4 rfl rfl).trans cl_dead
  replace cl_isj : hx_col 40 h_301 qp 8 = c_isj := (hx_col_S hs hTo g_qp tt_44 tt_4 rfl rfl).trans cl_isj
  replace cl_dox : hx_col 40 h_301 qp 5 = c_dox := (hx_col_S hs hTo g_qp tt_44 tt_4 rfl rfl).trans cl_dox
  replace cl_doy : hx_col 40 h_301 qp 6 = c_doy := (hx_col_S hs hTo g_qp tt_44 tt_4 rfl rfl).trans cl_doy
  replace cl_fou : hx_col 100 h_301 qc 10 = c_fou := (hx_col_S hs hTo g_qc tt_45 tt_2 rfl rfl).trans cl_fou
  replace cl_tri : hx_col 100 h_301 qc 9 = c_tri := (hx_col_S hs hTo g_qc tt_45 tt_2 rfl rfl).trans cl_tri
  replace cl_bor : hx_col 40 h_301 qp 1 = F_bor := (hx_col_S hs hTo g_qp tt_44 tt_4 rfl rfl).trans cl_bor
  replace cl_kin : hx_col 40 h_301 qp 2 = F_kin := (hx_col_S hs hTo g_qp tt_44 tt_4 rfl rfl).trans cl_kin
  replace cl_sum : hx_col 100 h_301 qc 6 = F_sum := (hx_col_S hs hTo g_qc tt_45 tt_2 rfl rfl).trans cl_sum
  replace cl_fro : hx_col 100 h_301 qc 7 = F_fro := (hx_col_S hs hTo g_qc tt_45 tt_2 rfl rfl).trans cl_fro
  replace cl_fil : hx_col 100 h_301 qc 8 = F_fil := (hx_col_S hs hTo g_qc tt_45 tt_2 rfl rfl).trans cl_fil
  replace cl_hea : hx_col 100 h_301 qc 11 = F_mh := (hx_col_S hs hTo g_qc tt_45 tt_2 rfl rfl).trans cl_hea
  replace cl_jud : hx_col 100 h_301 qc 12 = F_jud := (hx_col_S hs hTo g_qc tt_45 tt_2 rfl rfl).trans cl_jud
  replace nu_qp : hx_num 40 h_301 qp 0 (np.toInt) := hx_num_S hs hTo g_qp tt_44 tt_4 rfl rfl nu_qp
  replace nu_qc : hx_num 100 h_301 qc 0 (c0.toInt) := hx_num_S hs hTo g_qc tt_45 tt_2 rfl rfl nu_qc
  replace sb_list : hx_LQ 8 100 h_301 ql qc := hx_LQ_S hs g_ql g_qc rfl rfl sb_list
  replace hDF : hw_DF h_301 qc qp 2 F_aga c0.toInt := hw_DF_S hs hTo g_qc g_qp tt_45 tt_2 rfl rfl rfl hDF
  replace hRA9 : hv_RA h_301 qa qwo a0.toInt A9 := hv_RA_S hs hTo g_qa g_qwo tt_43 tt_0 rfl rfl rfl rfl rfl rfl (by omega) hRA9
  replace hDP : hw_DF h_301 qc qp 1 F_by c0.toInt := hw_DF_S hs hTo g_qc g_qp tt_45 tt_2 rfl rfl rfl hDP
  replace hAC9 : hv_AC h_301 qc F_ml c0.toInt A9 := hv_AC_S hs hTo g_qc tt_45 tt_2 rfl tt_0 rfl rfl rfl rfl rfl rfl rfl hAC9
  replace hFX : hv_FX 8 4 h_301 qc cF9L c0.toInt := hv_FX_S hs hTo g_qc tt_45 tt_2 rfl rfl rfl rfl hFX
  replace hBX : hv_FX 3 5 h_301 qc F_be c0.toInt := hv_FX_S hs hTo g_qc tt_45 tt_2 rfl rfl rfl rfl hBX
  replace hHL : hv_HL h_301 qh qc F_ho m0.toInt c0.toInt := hv_HL_S hs g_qh g_qc rfl rfl hHL
  replace n_mw : h_301.2.1 mw = F_mw := (funext fun j => (hs.a g_mw rfl j).1).trans n_mw
  replace n_mr : h_301.2.1 mr = F_mr := (funext fun j => (hs.a g_mr rfl j).1).trans n_mr
  replace n_mp : h_301.2.1 mp = F_mp := (funext fun j => (hs.a g_mp rfl j).1).trans n_mp
  replace n_mn : h_301.2.1 mn = F_mn := (funext fun j => (hs.a g_mn rfl j).1).trans n_mn
  replace n_ml : h_301.2.1 ml = F_ml := (funext fun j => (hs.a g_ml rfl j).1).trans n_ml
  replace n_mh : h_301.2.1 mh = F_mh := (funext fun j => (hs.a g_mh rfl j).1).trans n_mh
  replace n_mt : h_301.2.1 mt = F_mt := (funext fun j => (hs.a g_mt rfl j).1).trans n_mt
  replace n_m_fou : h_301.2.1 m_fou = F_m_fou := (funext fun j => (hs.a g_m_fou rfl j).1).trans n_m_fou
  replace n_b_of : h_301.2.1 b_of = B_of := (funext fun j => (hs.a g_b_of rfl j).1).trans n_b_of
  replace n_m_of : h_301.2.1 m_of = F_of := (funext fun j => (hs.a g_m_of rfl j).1).trans n_m_of
  replace n_b_wf : h_301.2.1 b_wf = B_wf := (funext fun j => (hs.a g_b_wf rfl j).1).trans n_b_wf
  replace n_m_wf : h_301.2.1 m_wf = F_wf := (funext fun j => (hs.a g_m_wf rfl j).1).trans n_m_wf
  replace n_b_df : h_301.2.1 b_df = B_df := (funext fun j => (hs.a g_b_df rfl j).1).trans n_b_df
  replace n_m_df : h_301.2.1 m_df = F_df := (funext fun j => (hs.a g_m_df rfl j).1).trans n_m_df
  replace n_b_kf : h_301.2.1 b_kf = B_kf := (funext fun j => (hs.a g_b_kf rfl j).1).trans n_b_kf
  replace n_m_kf : h_301.2.1 m_kf = F_kf := (funext fun j => (hs.a g_m_kf rfl j).1).trans n_m_kf
  replace n_b_sf : h_301.2.1 b_sf = B_sf := (funext fun j => (hs.a g_b_sf rfl j).1).trans n_b_sf
  replace n_m_sf : h_301.2.1 m_sf = F_sf := (funext fun j => (hs.a g_m_sf rfl j).1).trans n_m_sf
  replace n_b_bf : h_301.2.1 b_bf = bfL := (funext fun j => (hs.a g_b_bf rfl j).1).trans n_b_bf
  replace n_lst : h_301.2.1 m_lst = F_lst := (funext fun j => (hs.a g_m_lst rfl j).1).trans n_lst
  replace n_tp : h_301.2.1 m_tp = F_tp := (funext fun j => (hs.a g_m_tp rfl j).1).trans n_tp
  replace n_qtp : h_301.2.1 qtp = F_tp := (funext fun j => (hs.a g_qtp rfl j).1).trans n_qtp
  replace n_dead : h_301.2.1 m_dead = F_dead := (funext fun j => (hs.a g_m_dead rfl j).1).trans n_dead
  replace n_isj : h_301.2.1 m_isj = F_isj := (funext fun j => (hs.a g_m_isj rfl j).1).trans n_isj
  replace n_dox : h_301.2.1 m_dox = F_dox := (funext fun j => (hs.a g_m_dox rfl j).1).trans n_dox
  replace n_doy : h_301.2.1 m_doy = F_doy := (funext fun j => (hs.a g_m_doy rfl j).1).trans n_doy
  replace n_qlt : h_301.2.1 qlt = F_qlt := (funext fun j => (hs.a g_qlt rfl j).1).trans n_qlt
  replace n_m_wkd : h_301.2.1 m_wkd = F_m_wkd := (funext fun j => (hs.a g_m_wkd rfl j).1).trans n_m_wkd
  replace n_aga : h_301.2.1 m_aga = F_aga := (funext fun j => (hs.a g_m_aga rfl j).1).trans n_aga
  replace n_ad : h_301.2.1 m_ad = F_ad := (funext fun j => (hs.a g_m_ad rfl j).1).trans n_ad
  replace n_by : h_301.2.1 m_by = F_by := (funext fun j => (hs.a g_m_by rfl j).1).trans n_by
  replace n_ho : h_301.2.1 m_ho = F_ho := (funext fun j => (hs.a g_m_ho rfl j).1).trans n_ho
  replace n_fc : h_301.2.1 m_fc = F_fc := (funext fun j => (hs.a g_m_fc rfl j).1).trans n_fc
  replace n_nt : h_301.2.1 m_nt = F_nt := (funext fun j => (hs.a g_m_nt rfl j).1).trans n_nt
  replace n_wt : h_301.2.1 m_wt = F_wt := (funext fun j => (hs.a g_m_wt rfl j).1).trans n_wt
  replace n_be : h_301.2.1 m_be = F_be := (funext fun j => (hs.a g_m_be rfl j).1).trans n_be
  replace n_bor : h_301.2.1 m_bor = F_bor := (funext fun j => (hs.a g_m_bor rfl j).1).trans n_bor
  replace n_kin : h_301.2.1 m_kin = F_kin := (funext fun j => (hs.a g_m_kin rfl j).1).trans n_kin
  replace n_sum : h_301.2.1 m_sum = F_sum := (funext fun j => (hs.a g_m_sum rfl j).1).trans n_sum
  replace n_fro : h_301.2.1 m_fro = F_fro := (funext fun j => (hs.a g_m_fro rfl j).1).trans n_fro
  replace n_fil : h_301.2.1 m_fil = F_fil := (funext fun j => (hs.a g_m_fil rfl j).1).trans n_fil
  replace n_jud : h_301.2.1 m_jud = F_jud := (funext fun j => (hs.a g_m_jud rfl j).1).trans n_jud
  replace gx := gx.S hs
  replace gm := gm.S hs
  replace g_qa := g_qa.S hs
  replace g_qp := g_qp.S hs
  replace g_qc := g_qc.S hs
  replace g_qh := g_qh.S hs
  replace g_qw := g_qw.S hs
  replace g_ql := g_ql.S hs
  replace g_mw := g_mw.S hs
  replace g_mr := g_mr.S hs
  replace g_mp := g_mp.S hs
  replace g_mn := g_mn.S hs
  replace g_ml := g_ml.S hs
  replace g_mh := g_mh.S hs
  replace g_mt := g_mt.S hs
  replace g_m_fou := g_m_fou.S hs
  replace g_qo_ln := g_qo_ln.S hs
  replace g_b_of := g_b_of.S hs
  replace g_m_of := g_m_of.S hs
  replace g_b_wf := g_b_wf.S hs
  replace g_m_wf := g_m_wf.S hs
  replace g_b_df := g_b_df.S hs
  replace g_m_df := g_m_df.S hs
  replace g_b_kf := g_b_kf.S hs
  replace g_m_kf := g_m_kf.S hs
  replace g_b_sf := g_b_sf.S hs
  replace g_m_sf := g_m_sf.S hs
  replace g_b_bf := g_b_bf.S hs
  replace g_m_lst := g_m_lst.S hs
  replace g_qtp := g_qtp.S hs
  replace g_m_tp := g_m_tp.S hs
  replace g_m_dead := g_m_dead.S hs
  replace g_m_isj := g_m_isj.S hs
  replace g_m_dox := g_m_dox.S hs
  replace g_m_doy := g_m_doy.S hs
  replace g_qlt := g_qlt.S hs
  replace g_qlf := g_qlf.S hs
  replace g_m_wkd := g_m_wkd.S hs
  replace g_m_aga := g_m_aga.S hs
  replace g_qwo := g_qwo.S hs
  replace g_m_ad := g_m_ad.S hs
  replace g_m_by := g_m_by.S hs
  replace g_m_ho := g_m_ho.S hs
  replace g_m_fc := g_m_fc.S hs
  replace g_m_nt := g_m_nt.S hs
  replace g_m_wt := g_m_wt.S hs
  replace g_m_be := g_m_be.S hs
  replace g_m_bor := g_m_bor.S hs
  replace g_m_kin := g_m_kin.S hs
  replace g_m_sum := g_m_sum.S hs
  replace g_m_fro := g_m_fro.S hs
  replace g_m_fil := g_m_fil.S hs
  replace g_m_jud := g_m_jud.S hs
  replace gq_298 := gq_298.S hs
  refine lv_pop hx hb dL_law_634 rfl ?_
  refine lv_aload_n hx hb dL_law_635 rfl (lv_at hl 1 rfl) ?_
  refine lv_aload_n hx hb dL_law_636 rfl (lv_at hl 3 rfl) ?_
  refine lv_iload_n hx hb dL_law_637 rfl (lv_at hl 0 rfl) ?_
  refine lv_iconst (v := 1) hx hb dL_law_638 (by decide) ?_
  refine lv_iadd hx hb dL_law_639 ?_
  refine lv_topi (fun x_305 ex_305 => ?_)
  have zx_305 : x_305.toInt = i.toInt + 1 := by rw [ex_305]; exact i32_add rfl (by decide) (by omega) (by omega)
  obtain rfl : x_290 = x_305 := ex_290.trans ex_305.symm
  refine va_sld hx hb hX hbl hbA hW.2.2.2.1 (vp_in_iff.mpr ⟨by omega, by omega⟩) dL_law_640 ?_
  refine lv_topi (fun x_306 ex_306 => ?_)
  obtain rfl : x_291 = x_306 := ex_291.trans ex_306.symm
  refine lv_aload_n hx hb dL_law_641 rfl (lv_at hl 3 rfl) ?_
  refine lv_iload_n hx hb dL_law_642 rfl (lv_at hl 0 rfl) ?_
  refine lv_iconst (v := 2) hx hb dL_law_643 (by decide) ?_
  refine lv_iadd hx hb dL_law_644 ?_
  refine lv_topi (fun x_307 ex_307 => ?_)
  have zx_307 : x_307.toInt = i.toInt + 2 := by rw [ex_307]; exact i32_add rfl (by decide) (by omega) (by omega)
  obtain rfl : x_292 = x_307 := ex_292.trans ex_307.symm
  refine va_sld hx hb hX hbl hbA hW.2.2.2.1 (vp_in_iff.mpr ⟨by omega, by omega⟩) dL_law_645 ?_
  refine lv_topi (fun x_308 ex_308 => ?_)
  obtain rfl : x_293 = x_308 := ex_293.trans ex_308.symm
  refine lv_aload_n hx hb dL_law_646 rfl (lv_at hl 3 rfl) ?_
  refine lv_iload_n hx hb dL_law_647 rfl (lv_at hl 0 rfl) ?_
  refine lv_iconst (v := 3) hx hb dL_law_648 (by decide) ?_
  refine lv_iadd hx hb dL_law_649 ?_
  refine lv_topi (fun x_309 ex_309 => ?_)
  have zx_309 : x_309.toInt = i.toInt + 3 := by rw [ex_309]; exact i32_add rfl (by decide) (by omega) (by omega)
  obtain rfl : x_294 = x_309 := ex_294.trans ex_309.symm
  refine va_sld hx hb hX hbl hbA hW.2.2.2.1 (vp_in_iff.mpr ⟨by omega, by omega⟩) dL_law_650 ?_
  refine lv_topi (fun x_310 ex_310 => ?_)
  obtain rfl : x_295 = x_310 := ex_295.trans ex_310.symm
  refine lv_aload_n hx hb dL_law_651 rfl (lv_at hl 3 rfl) ?_
  refine lv_iload_n hx hb dL_law_652 rfl (lv_at hl 0 rfl) ?_
  refine lv_iconst (v := 4) hx hb dL_law_653 (by decide) ?_
  refine lv_iadd hx hb dL_law_654 ?_
  refine lv_topi (fun x_311 ex_311 => ?_)
  have zx_311 : x_311.toInt = i.toInt + 4 := by rw [ex_311]; exact i32_add rfl (by decide) (by omega) (by omega)
  obtain rfl : x_296 = x_311 := ex_296.trans ex_311.symm
  refine va_sld hx hb hX hbl hbA hW.2.2.2.1 (vp_in_iff.mpr ⟨by omega, by omega⟩) dL_law_655 ?_
  refine lv_topi (fun x_312 ex_312 => ?_)
  obtain rfl : x_297 = x_312 := ex_297.trans ex_312.symm
  have hTo := hT
  obtain ⟨q_313, fq_313, gq_313⟩ := hx_rf hT gm tt_10 (k := 35) (u := 71) rfl
  obtain ⟨fa_314, nfa_314⟩ : ∃ g : Nat → Int32, h_301.2.1 q_313 = g := ⟨_, rfl⟩
  refine hx_goi (hx_runV (As := [.int x_291, .int x_293, .int x_295, .int x_297]) (rest := []) ⟨hx, hb, hml, hown, hts⟩ hW gm tt_10 (T := TX10) (N := 98) rfl (t_X10_book_2 l dC dI dA L_300 h_301 H.size am x_291 x_293 x_295 x_297 hT gm m_of g_m_of f_m_of m_wf g_m_wf f_m_wf m_df g_m_df f_m_df m_kf g_m_kf f_m_kf m_sf g_m_sf f_m_sf q_313 gq_313 fq_313 F_of n_m_of F_wf n_m_wf F_df n_m_df F_kf n_m_kf F_sf n_m_sf fa_314 nfa_314 ln f_m_lines np f_m_persons bfL hBDm hDYm) (cwV 4 hts (hx_gV kw_1568 kw_1565 kw_1566 kw_1567 kw_103) rfl rfl rfl (by decide +kernel) ⟨Nat.le_of_ble_eq_true rfl, Nat.le_of_ble_eq_true rfl⟩) rfl hl.1 rfl (Nat.le_of_ble_eq_true rfl) dL_law_656 ⟨(show CC + 0 + 0 ≤ 600000 from by omega), (show SS + 0 + 0 ≤ 7302250 from by omega)⟩) hW (fun r_317 L_315 h_316 H locs p_318 hW => ?_)
  obtain ⟨hr_319, hT, hs⟩ := p_318
  replace hT : hx_T T_tb L_315 h_316 := hT
  replace hs : hx_S T_tb [(71, 0)] L_300 h_301 L_315 h_316 := hs
  replace f_qa := (hs.o gx trivial rfl).2.trans f_qa
  replace f_qp := (hs.o gx trivial rfl).2.trans f_qp
  replace f_qc := (hs.o gx trivial rfl).2.trans f_qc
  replace f_qh := (hs.o gx trivial rfl).2.trans f_qh
  replace f_qw := (hs.o gx trivial rfl).2.trans f_qw
  replace f_ql := (hs.o g_qw trivial rfl).2.trans f_ql
  replace f_m_now := (hs.o gm trivial rfl).1.trans f_m_now
  replace f_m_persons := (hs.o gm trivial rfl).1.trans f_m_persons
  replace f_m_claims := (hs.o gm trivial rfl).1.trans f_m_claims
  replace f_m_taped := (hs.o gm trivial rfl).1.trans f_m_taped
  replace f_m_acts := (hs.o gm trivial rfl).1.trans f_m_acts
  replace f_m_heardMany := (hs.o gm trivial rfl).1.trans f_m_heardMany
  replace f_m_lines := (hs.o gm trivial rfl).1.trans f_m_lines
  replace f_m_listed := (hs.o gm trivial rfl).1.trans f_m_listed
  replace f_m_walkedMany := (hs.o gm trivial rfl).1.trans f_m_walkedMany
  replace f_x_now := (hs.o gx trivial rfl).1.trans f_x_now
  replace f_x_personCount := (hs.o gx trivial rfl).1.trans f_x_personCount
  replace f_x_claimCount := (hs.o gx trivial rfl).1.trans f_x_claimCount
  replace f_x_tapeLength := (hs.o gx trivial rfl).1.trans f_x_tapeLength
  replace f_x_actCount := (hs.o gx trivial rfl).1.trans f_x_actCount
  replace f_x_heardCount := (hs.o gx trivial rfl).1.trans f_x_heardCount
  replace f_mw := (hs.o gm trivial rfl).2.trans f_mw
  replace f_mr := (hs.o gm trivial rfl).2.trans f_mr
  replace f_mp := (hs.o gm trivial rfl).2.trans f_mp
  replace f_mn := (hs.o gm trivial rfl).2.trans f_mn
  replace f_ml := (hs.o gm trivial rfl).2.trans f_ml
  replace f_mh := (hs.o gm trivial rfl).2.trans f_mh
  replace f_mt := (hs.o gm trivial rfl).2.trans f_mt
  replace f_m_fou := (hs.o gm trivial rfl).2.trans f_m_fou
  replace f_qo_ln := (hs.o gx trivial rfl).2.trans f_qo_ln
  replace f_o_ln := (hs.o g_qo_ln trivial rfl).1.trans f_o_ln
  replace f_o_lsd := (hs.o g_qw trivial rfl).1.trans f_o_lsd
  replace f_o_wkm := (hs.o g_qw trivial rfl).1.trans f_o_wkm
  replace f_b_of := (hs.o g_qo_ln trivial rfl).2.trans f_b_of
  replace f_m_of := (hs.o gm trivial rfl).2.trans f_m_of
  replace f_b_wf := (hs.o g_qo_ln trivial rfl).2.trans f_b_wf
  replace f_m_wf := (hs.o gm trivial rfl).2.trans f_m_wf
  replace f_b_df := (hs.o g_qo_ln trivial rfl).2.trans f_b_df
  replace f_m_df := (hs.o gm trivial rfl).2.trans f_m_df
  replace f_b_kf := (hs.o g_qo_ln trivial rfl).2.trans f_b_kf
  replace f_m_kf := (hs.o gm trivial rfl).2.trans f_m_kf
  replace f_b_sf := (hs.o g_qo_ln trivial rfl).2.trans f_b_sf
  replace f_m_sf := (hs.o gm trivial rfl).2.trans f_m_sf
  replace f_b_bf := (hs.o g_qo_ln trivial rfl).2.trans f_b_bf
  replace f_m_lst := (hs.o gm trivial rfl).2.trans f_m_lst
  replace f_qtp := (hs.o gx trivial rfl).2.trans f_qtp
  replace f_m_tp := (hs.o gm trivial rfl).2.trans f_m_tp
  replace f_m_dead := (hs.o gm trivial rfl).2.trans f_m_dead
  replace f_m_isj := (hs.o gm trivial rfl).2.trans f_m_isj
  replace f_m_dox := (hs.o gm trivial rfl).2.trans f_m_dox
  replace f_m_doy := (hs.o gm trivial rfl).2.trans f_m_doy
  replace f_qlt := (hs.o g_qw trivial rfl).2.trans f_qlt
  replace f_qlf := (hs.o g_qw trivial rfl).2.trans f_qlf
  replace f_m_wkd := (hs.o gm trivial rfl).2.trans f_m_wkd
  replace f_m_aga := (hs.o gm trivial rfl).2.trans f_m_aga
  replace f_qwo := (hs.o gx trivial rfl).2.trans f_qwo
  replace f_m_ad := (hs.o gm trivial rfl).2.trans f_m_ad
  replace f_m_by := (hs.o gm trivial rfl).2.trans f_m_by
  replace f_m_ho := (hs.o gm trivial rfl).2.trans f_m_ho
  replace f_m_fc := (hs.o gm trivial rfl).2.trans f_m_fc
  replace f_m_nt := (hs.o gm trivial rfl).2.trans f_m_nt
  replace f_m_wt := (hs.o gm trivial rfl).2.trans f_m_wt
  replace f_m_be := (hs.o gm trivial rfl).2.trans f_m_be
  replace f_m_bor := (hs.o gm trivial rfl).2.trans f_m_bor
  replace f_m_kin := (hs.o gm trivial rfl).2.trans f_m_kin
  replace f_m_sum := (hs.o gm trivial rfl).2.trans f_m_sum
  replace f_m_fro := (hs.o gm trivial rfl).2.trans f_m_fro
  replace f_m_fil := (hs.o gm trivial rfl).2.trans f_m_fil
  replace f_m_jud := (hs.o gm trivial rfl).2.trans f_m_jud
  replace fq_298 := (hs.o g_qo_ln trivial rfl).2.trans fq_298
  replace fq_313 := (hs.o gm trivial rfl).2.trans fq_313
  replace pf_qa : ∀ j : Nat, (j : Int) < (h_316.2.1 ax 6).toInt → h_316.2.2 qa j ≠ none := by
    intro j hj; rw [(hs.o gx trivial rfl).1] at hj; rw [(hs.a g_qa rfl j).2]; exact pf_qa j hj
  replace pf_qp : ∀ j : Nat, (j : Int) < (h_316.2.1 ax 8).toInt → h_316.2.2 qp j ≠ none := by
    intro j hj; rw [(hs.o gx trivial rfl).1] at hj; rw [(hs.a g_qp rfl j).2]; exact pf_qp j hj
  replace pf_qc : ∀ j : Nat, (j : Int) < (h_316.2.1 ax 11).toInt → h_316.2.2 qc j ≠ none := by
    intro j hj; rw [(hs.o gx trivial rfl).1] at hj; rw [(hs.a g_qc rfl j).2]; exact pf_qc j hj
  replace pf_qh : ∀ j : Nat, (j : Int) < (h_316.2.1 ax 13).toInt → h_316.2.2 qh j ≠ none := by
    intro j hj; rw [(hs.o gx trivial rfl).1] at hj; rw [(hs.a g_qh rfl j).2]; exact pf_qh j hj
  replace pf_ql : ∀ j : Nat, (j : Int) < (h_316.2.1 qw 0).toInt → h_316.2.2 ql j ≠ none := by
    intro j hj; rw [(hs.o g_qw trivial rfl).1] at hj; rw [(hs.a g_ql rfl j).2]; exact pf_ql j hj
  replace cl_lst : hx_col 8 h_316 ql 0 = c_lst := (hx_col_S hs hTo g_ql tt_40 tt_2 rfl rfl).trans cl_lst
  replace cl_dead : hx_col 40 h_316 qp 7 = c_dead := (hx_col_S hs hTo g_qp tt_44 tt_4 rfl rfl).trans cl_dead
  replace cl_isj : hx_col 40 h_316 qp 8 = c_isj := (hx_col_S hs hTo g_qp tt_44 tt_4 rfl rfl).trans cl_isj
  replace cl_dox : hx_col 40 h_316 qp 5 = c_dox := (hx_col_S hs hTo g_qp tt_44 tt_4 rfl rfl).trans cl_dox
  replace cl_doy : hx_col 40 h_316 qp 6 = c_doy := (hx_col_S hs hTo g_qp tt_44 tt_4 rfl rfl).trans cl_doy
  replace cl_fou : hx_col 100 h_316 qc 10 = c_fou := (hx_col_S hs hTo g_qc tt_45 tt_2 rfl rfl).trans cl_fou
  replace cl_tri : hx_col 100 h_316 qc 9 = c_tri := (hx_col_S hs hTo g_qc tt_45 tt_2 rfl rfl).trans cl_tri
  replace cl_bor : hx_col 40 h_316 qp 1 = F_bor := (hx_col_S hs hTo g_qp tt_44 tt_4 rfl rfl).trans cl_bor
  replace cl_kin : hx_col 40 h_316 qp 2 = F_kin := (hx_col_S hs hTo g_qp tt_44 tt_4 rfl rfl).trans cl_kin
  replace cl_sum : hx_col 100 h_316 qc 6 = F_sum := (hx_col_S hs hTo g_qc tt_45 tt_2 rfl rfl).trans cl_sum
  replace cl_fro : hx_col 100 h_316 qc 7 = F_fro := (hx_col_S hs hTo g_qc tt_45 tt_2 rfl rfl).trans cl_fro
  replace cl_fil : hx_col 100 h_316 qc 8 = F_fil := (hx_col_S hs hTo g_qc tt_45 tt_2 rfl rfl).trans cl_fil
  replace cl_hea : hx_col 100 h_316 qc 11 = F_mh := (hx_col_S hs hTo g_qc tt_45 tt_2 rfl rfl).trans cl_hea
  replace cl_jud : hx_col 100 h_316 qc 12 = F_jud := (hx_col_S hs hTo g_qc tt_45 tt_2 rfl rfl).trans cl_jud
  replace nu_qp : hx_num 40 h_316 qp 0 (np.toInt) := hx_num_S hs hTo g_qp tt_44 tt_4 rfl rfl nu_qp
  replace nu_qc : hx_num 100 h_316 qc 0 (c0.toInt) := hx_num_S hs hTo g_qc tt_45 tt_2 rfl rfl nu_qc
  replace sb_list : hx_LQ 8 100 h_316 ql qc := hx_LQ_S hs g_ql g_qc rfl rfl sb_list
  replace hDF : hw_DF h_316 qc qp 2 F_aga c0.toInt := hw_DF_S hs hTo g_qc g_qp tt_45 tt_2 rfl rfl rfl hDF
  replace hRA9 : hv_RA h_316 qa qwo a0.toInt A9 := hv_RA_S hs hTo g_qa g_qwo tt_43 tt_0 rfl rfl rfl rfl rfl rfl (by omega) hRA9
  replace hDP : hw_DF h_316 qc qp 1 F_by c0.toInt := hw_DF_S hs hTo g_qc g_qp tt_45 tt_2 rfl rfl rfl hDP
  replace hAC9 : hv_AC h_316 qc F_ml c0.toInt A9 := hv_AC_S hs hTo g_qc tt_45 tt_2 rfl tt_0 rfl rfl rfl rfl rfl rfl rfl hAC9
  replace hFX : hv_FX 8 4 h_316 qc cF9L c0.toInt := hv_FX_S hs hTo g_qc tt_45 tt_2 rfl rfl rfl rfl hFX
  replace hBX : hv_FX 3 5 h_316 qc F_be c0.toInt := hv_FX_S hs hTo g_qc tt_45 tt_2 rfl rfl rfl rfl hBX
  replace hHL : hv_HL h_316 qh qc F_ho m0.toInt c0.toInt := hv_HL_S hs g_qh g_qc rfl rfl hHL
  replace n_mw : h_316.2.1 mw = F_mw := (funext fun j => (hs.a g_mw rfl j).1).trans n_mw
  replace n_mr : h_316.2.1 mr = F_mr := (funext fun j => (hs.a g_mr rfl j).1).trans n_mr
  replace n_mp : h_316.2.1 mp = F_mp := (funext fun j => (hs.a g_mp rfl j).1).trans n_mp
  replace n_mn : h_316.2.1 mn = F_mn := (funext fun j => (hs.a g_mn rfl j).1).trans n_mn
  replace n_ml : h_316.2.1 ml = F_ml := (funext fun j => (hs.a g_ml rfl j).1).trans n_ml
  replace n_mh : h_316.2.1 mh = F_mh := (funext fun j => (hs.a g_mh rfl j).1).trans n_mh
  replace n_mt : h_316.2.1 mt = F_mt := (funext fun j => (hs.a g_mt rfl j).1).trans n_mt
  replace n_m_fou : h_316.2.1 m_fou = F_m_fou := (funext fun j => (hs.a g_m_fou rfl j).1).trans n_m_fou
  replace n_b_of : h_316.2.1 b_of = B_of := (funext fun j => (hs.a g_b_of rfl j).1).trans n_b_of
  replace n_m_of : h_316.2.1 m_of = F_of := (funext fun j => (hs.a g_m_of rfl j).1).trans n_m_of
  replace n_b_wf : h_316.2.1 b_wf = B_wf := (funext fun j => (hs.a g_b_wf rfl j).1).trans n_b_wf
  replace n_m_wf : h_316.2.1 m_wf = F_wf := (funext fun j => (hs.a g_m_wf rfl j).1).trans n_m_wf
  replace n_b_df : h_316.2.1 b_df = B_df := (funext fun j => (hs.a g_b_df rfl j).1).trans n_b_df
  replace n_m_df : h_316.2.1 m_df = F_df := (funext fun j => (hs.a g_m_df rfl j).1).trans n_m_df
  replace n_b_kf : h_316.2.1 b_kf = B_kf := (funext fun j => (hs.a g_b_kf rfl j).1).trans n_b_kf
  replace n_m_kf : h_316.2.1 m_kf = F_kf := (funext fun j => (hs.a g_m_kf rfl j).1).trans n_m_kf
  replace n_b_sf : h_316.2.1 b_sf = B_sf := (funext fun j => (hs.a g_b_sf rfl j).1).trans n_b_sf
  replace n_m_sf : h_316.2.1 m_sf = F_sf := (funext fun j => (hs.a g_m_sf rfl j).1).trans n_m_sf
  replace n_b_bf : h_316.2.1 b_bf = bfL := (funext fun j => (hs.a g_b_bf rfl j).1).trans n_b_bf
  replace n_lst : h_316.2.1 m_lst = F_lst := (funext fun j => (hs.a g_m_lst rfl j).1).trans n_lst
  replace n_tp : h_316.2.1 m_tp = F_tp := (funext fun j => (hs.a g_m_tp rfl j).1).trans n_tp
  replace n_qtp : h_316.2.1 qtp = F_tp := (funext fun j => (hs.a g_qtp rfl j).1).trans n_qtp
  replace n_dead : h_316.2.1 m_dead = F_dead := (funext fun j => (hs.a g_m_dead rfl j).1).trans n_dead
  replace n_isj : h_316.2.1 m_isj = F_isj := (funext fun j => (hs.a g_m_isj rfl j).1).trans n_isj
  replace n_dox : h_316.2.1 m_dox = F_dox := (funext fun j => (hs.a g_m_dox rfl j).1).trans n_dox
  replace n_doy : h_316.2.1 m_doy = F_doy := (funext fun j => (hs.a g_m_doy rfl j).1).trans n_doy
  replace n_qlt : h_316.2.1 qlt = F_qlt := (funext fun j => (hs.a g_qlt rfl j).1).trans n_qlt
  replace n_m_wkd : h_316.2.1 m_wkd = F_m_wkd := (funext fun j => (hs.a g_m_wkd rfl j).1).trans n_m_wkd
  replace n_aga : h_316.2.1 m_aga = F_aga := (funext fun j => (hs.a g_m_aga rfl j).1).trans n_aga
  replace n_ad : h_316.2.1 m_ad = F_ad := (funext fun j => (hs.a g_m_ad rfl j).1).trans n_ad
  replace n_by : h_316.2.1 m_by = F_by := (funext fun j => (hs.a g_m_by rfl j).1).trans n_by
  replace n_ho : h_316.2.1 m_ho = F_ho := (funext fun j => (hs.a g_m_ho rfl j).1).trans n_ho
  replace n_fc : h_316.2.1 m_fc = F_fc := (funext fun j => (hs.a g_m_fc rfl j).1).trans n_fc
  replace n_nt : h_316.2.1 m_nt = F_nt := (funext fun j => (hs.a g_m_nt rfl j).1).trans n_nt
  replace n_wt : h_316.2.1 m_wt = F_wt := (funext fun j => (hs.a g_m_wt rfl j).1).trans n_wt
  replace n_be : h_316.2.1 m_be = F_be := (funext fun j => (hs.a g_m_be rfl j).1).trans n_be
  replace n_bor : h_316.2.1 m_bor = F_bor := (funext fun j => (hs.a g_m_bor rfl j).1).trans n_bor
  replace n_kin : h_316.2.1 m_kin = F_kin := (funext fun j => (hs.a g_m_kin rfl j).1).trans n_kin
  replace n_sum : h_316.2.1 m_sum = F_sum := (funext fun j => (hs.a g_m_sum rfl j).1).trans n_sum
  replace n_fro : h_316.2.1 m_fro = F_fro := (funext fun j => (hs.a g_m_fro rfl j).1).trans n_fro
  replace n_fil : h_316.2.1 m_fil = F_fil := (funext fun j => (hs.a g_m_fil rfl j).1).trans n_fil
  replace n_jud : h_316.2.1 m_jud = F_jud := (funext fun j => (hs.a g_m_jud rfl j).1).trans n_jud
  replace gx := gx.S hs
  replace gm := gm.S hs
  replace g_qa := g_qa.S hs
  replace g_qp := g_qp.S hs
  replace g_qc := g_qc.S hs
  replace g_qh := g_qh.S hs
  replace g_qw := g_qw.S hs
  replace g_ql := g_ql.S hs
  replace g_mw := g_mw.S hs
  replace g_mr := g_mr.S hs
  replace g_mp := g_mp.S hs
  replace g_mn := g_mn.S hs
  replace g_ml := g_ml.S hs
  replace g_mh := g_mh.S hs
  replace g_mt := g_mt.S hs
  replace g_m_fou := g_m_fou.S hs
  replace g_qo_ln := g_qo_ln.S hs
  replace g_b_of := g_b_of.S hs
  replace g_m_of := g_m_of.S hs
  replace g_b_wf := g_b_wf.S hs
  replace g_m_wf := g_m_wf.S hs
  replace g_b_df := g_b_df.S hs
  replace g_m_df := g_m_df.S hs
  replace g_b_kf := g_b_kf.S hs
  replace g_m_kf := g_m_kf.S hs
  replace g_b_sf := g_b_sf.S hs
  replace g_m_sf := g_m_sf.S hs
  replace g_b_bf := g_b_bf.S hs
  replace g_m_lst := g_m_lst.S hs
  replace g_qtp := g_qtp.S hs
  replace g_m_tp := g_m_tp.S hs
  replace g_m_dead := g_m_dead.S hs
  replace g_m_isj := g_m_isj.S hs
  replace g_m_dox := g_m_dox.S hs
  replace g_m_doy := g_m_doy.S hs
  replace g_qlt := g_qlt.S hs
  replace g_qlf := g_qlf.S hs
  replace g_m_wkd := g_m_wkd.S hs
  replace g_m_aga := g_m_aga.S hs
  replace g_qwo := g_qwo.S hs
  replace g_m_ad := g_m_ad.S hs
  replace g_m_by := g_m_by.S hs
  replace g_m_ho := g_m_ho.S hs
  replace g_m_fc := g_m_fc.S hs
  replace g_m_nt := g_m_nt.S hs
  replace g_m_wt := g_m_wt.S hs
  replace g_m_be := g_m_be.S hs
  replace g_m_bor := g_m_bor.S hs
  replace g_m_kin := g_m_kin.S hs
  replace g_m_sum := g_m_sum.S hs
  replace g_m_fro := g_m_fro.S hs
  replace g_m_fil := g_m_fil.S hs
  replace g_m_jud := g_m_jud.S hs
  replace gq_298 := gq_298.S hs
  replace gq_313 := gq_313.S hs
  refine lv_pop hx hb dL_law_659 rfl ?_
  refine lv_goto (tgt := 1379) hx hb dL_law_660 (by decide) ?_
  have heq := hy_bk (congrArg Int32.toInt (hy_bs_c eb_of eb_wf eb_df eb_kf eb_sf _ (Nat.le_refl _))) (congrArg Prod.snd (hy_G_c hBD eb_of eb_wf eb_df eb_kf eb_sf _ (Nat.le_refl _))) (hy_dr_c eb_of eb_df (fun x hx => (hDY x hx).1) _ (Nat.le_refl _)).1 hr_304 hr_319
  refine W.widen (k := CC + 3) (n := SS + 179) (by omega) (by omega) ?_
  exact kk L_315 h_316 H locs ls hW ⟨hT, gx, gm, ⟨f_x_now.trans f_m_now.symm, f_x_personCount.trans f_m_persons.symm, f_x_claimCount.trans f_m_claims.symm, f_x_tapeLength.trans f_m_taped.symm, f_x_actCount.trans f_m_acts.symm, f_x_heardCount.trans f_m_heardMany.symm, hx_ob f_qo_ln (f_o_ln.trans f_m_lines.symm), hx_ob f_qw (f_o_lsd.trans f_m_listed.symm), hx_ob f_qw (f_o_wkm.trans f_m_walkedMany.symm), hx_ob f_qp (by rw [f_x_personCount]; exact nu_qp), hx_ob f_qc (by rw [f_x_claimCount]; exact nu_qc), (fun b a r hb ha hr => by obtain rfl : qo_ln = b := Option.some.inj (f_qo_ln.symm.trans hb); obtain rfl : b_of = a := Option.some.inj (f_b_of.symm.trans ha); obtain rfl : m_of = r := Option.some.inj (f_m_of.symm.trans hr); rw [n_b_of, n_m_of, f_o_ln]; exact eb_of), (fun b a r hb ha hr => by obtain rfl : qo_ln = b := Option.some.inj (f_qo_ln.symm.trans hb); obtain rfl : b_wf = a := Option.some.inj (f_b_wf.symm.trans ha); obtain rfl : m_wf = r := Option.some.inj (f_m_wf.symm.trans hr); rw [n_b_wf, n_m_wf, f_o_ln]; exact eb_wf), (fun b a r hb ha hr => by obtain rfl : qo_ln = b := Option.some.inj (f_qo_ln.symm.trans hb); obtain rfl : b_df = a := Option.some.inj (f_b_df.symm.trans ha); obtain rfl : m_df = r := Option.some.inj (f_m_df.symm.trans hr); rw [n_b_df, n_m_df, f_o_ln]; exact eb_df), (fun b a r hb ha hr => by obtain rfl : qo_ln = b := Option.some.inj (f_qo_ln.symm.trans hb); obtain rfl : b_kf = a := Option.some.inj (f_b_kf.symm.trans ha); obtain rfl : m_kf = r := Option.some.inj (f_m_kf.symm.trans hr); rw [n_b_kf, n_m_kf, f_o_ln]; exact eb_kf), (fun b a r hb ha hr => by obtain rfl : qo_ln = b := Option.some.inj (f_qo_ln.symm.trans hb); obtain rfl : b_sf = a := Option.some.inj (f_b_sf.symm.trans ha); obtain rfl : m_sf = r := Option.some.inj (f_m_sf.symm.trans hr); rw [n_b_sf, n_m_sf, f_o_ln]; exact eb_sf), (fun b a r hb ha hr => by obtain rfl : qo_ln = b := Option.some.inj (f_qo_ln.symm.trans hb); obtain rfl : b_df = a := Option.some.inj (f_b_df.symm.trans ha); obtain rfl : b_bf = r := Option.some.inj (f_b_bf.symm.trans hr); rw [n_b_df, n_b_bf, f_o_ln]; exact ⟨hBD, hDY⟩), (fun w q c hw hq hc => by obtain rfl : qw = w := Option.some.inj (f_qw.symm.trans hw); obtain rfl : ql = q := Option.some.inj (f_ql.symm.trans hq); obtain rfl : qc = c := Option.some.inj (f_qc.symm.trans hc); exact sb_list), (fun w q r hw hq hr => by obtain rfl : qw = w := Option.some.inj (f_qw.symm.trans hw); obtain rfl : ql = q := Option.some.inj (f_ql.symm.trans hq); obtain rfl : m_lst = r := Option.some.inj (f_m_lst.symm.trans hr); rw [cl_lst, n_lst]; exact eq_lst), (fun w q r hw hq hr => by obtain rfl : qw = w := Option.some.inj (f_qw.symm.trans hw); obtain rfl : qlt = q := Option.some.inj (f_qlt.symm.trans hq); obtain rfl : m_wkd = r := Option.some.inj (f_m_wkd.symm.trans hr); rw [n_qlt, n_m_wkd, f_o_wkm]; exact eb_wkd), (fun c q a hc hq ha => by obtain rfl : qc = c := Option.some.inj (f_qc.symm.trans hc); obtain rfl : qp = q := Option.some.inj (f_qp.symm.trans hq); obtain rfl : m_aga = a := Option.some.inj (f_m_aga.symm.trans ha); rw [n_aga, f_x_claimCount]; exact hw_DF_e hDF rfl rfl), (fun q r hq hr => by obtain rfl : qtp = q := Option.some.inj (f_qtp.symm.trans hq); obtain rfl : m_tp = r := Option.some.inj (f_m_tp.symm.trans hr); exact n_qtp.trans n_tp.symm), (fun q w a b c d e p hq hw ha hb hc hd he hp => by obtain rfl : qa = q := Option.some.inj (f_qa.symm.trans hq); obtain rfl : qwo = w := Option.some.inj (f_qwo.symm.trans hw); obtain rfl : m_ad = a := Option.some.inj (f_m_ad.symm.trans ha); obtain rfl : mr = b := Option.some.inj (f_mr.symm.trans hb); obtain rfl : mn = c := Option.some.inj (f_mn.symm.trans hc); obtain rfl : mp = d := Option.some.inj (f_mp.symm.trans hd); obtain rfl : qc = e := Option.some.inj (f_qc.symm.trans he); obtain rfl : ml = p := Option.some.inj (f_ml.symm.trans hp); exact ⟨_, by rw [f_x_actCount]; exact hRA9, by rw [f_x_actCount, n_ad, n_mr, n_mn, n_mp]; exact hCA9, by rw [n_ml, f_x_claimCount]; exact hv_AC_e hAC9 rfl rfl rfl, hAB⟩), (fun c q a hc hq ha => by obtain rfl : qc = c := Option.some.inj (f_qc.symm.trans hc); obtain rfl : qp = q := Option.some.inj (f_qp.symm.trans hq); obtain rfl : m_by = a := Option.some.inj (f_m_by.symm.trans ha); rw [n_by, f_x_claimCount]; exact hw_DF_e hDP rfl rfl), (fun q c a hq hc ha => by obtain rfl : qh = q := Option.some.inj (f_qh.symm.trans hq); obtain rfl : qc = c := Option.some.inj (f_qc.symm.trans hc); obtain rfl : m_ho = a := Option.some.inj (f_m_ho.symm.trans ha); rw [n_ho, f_x_heardCount, f_x_claimCount]; exact hv_HL_e hHL rfl rfl rfl), (fun a b ha hb => by obtain rfl : m_ho = a := Option.some.inj (f_m_ho.symm.trans ha); obtain rfl : mh = b := Option.some.inj (f_mh.symm.trans hb); rw [n_ho, n_mh, f_m_heardMany, f_m_claims]; exact hHO9), (fun c a b d e f hc ha hb hd he hf => by obtain rfl : qc = c := Option.some.inj (f_qc.symm.trans hc); obtain rfl : m_fc = a := Option.some.inj (f_m_fc.symm.trans ha); obtain rfl : m_nt = b := Option.some.inj (f_m_nt.symm.trans hb); obtain rfl : m_wt = d := Option.some.inj (f_m_wt.symm.trans hd); obtain rfl : m_sum = e := Option.some.inj (f_m_sum.symm.trans he); obtain rfl : mh = f := Option.some.inj (f_mh.symm.trans hf); exact ⟨cF9L, by rw [f_x_claimCount]; exact hFX, by rw [n_fc, n_nt, n_wt, n_sum, n_mh, f_x_claimCount]; exact hFR9⟩), (fun c a hc ha => by obtain rfl : qc = c := Option.some.inj (f_qc.symm.trans hc); obtain rfl : m_be = a := Option.some.inj (f_m_be.symm.trans ha); rw [n_be, f_x_claimCount]; exact hv_FX_e hBX rfl rfl), hx_ob2 f_qp f_m_bor (cl_bor.trans n_bor.symm), hx_ob2 f_qp f_m_kin (cl_kin.trans n_kin.symm), hx_ob2 f_qc f_m_sum (cl_sum.trans n_sum.symm), hx_ob2 f_qc f_m_fro (cl_fro.trans n_fro.symm), hx_ob2 f_qc f_m_fil (cl_fil.trans n_fil.symm), hx_ob2 f_qc f_mh (cl_hea.trans n_mh.symm), hx_ob2 f_qc f_m_jud (cl_jud.trans n_jud.symm), hx_ob2 f_qp f_m_dead (by rw [cl_dead, n_dead]; exact eq_dead), hx_ob2 f_qp f_m_isj (by rw [cl_isj, n_isj]; exact eq_isj), hx_ob2 f_qp f_m_dox (by rw [cl_dox, n_dox]; exact eq_dox), hx_ob2 f_qp f_m_doy (by rw [cl_doy, n_doy]; exact eq_doy), hx_ob2 f_qc f_m_fou (by rw [cl_fou, n_m_fou]; exact eq_fou), hx_ob2 f_qc f_mt (by rw [cl_tri, n_mt]; exact eq_tri), trivial⟩, ⟨hx_ob f_qa pf_qa, hx_ob f_qp pf_qp, hx_ob f_qc pf_qc, hx_ob f_qh pf_qh, (fun w q hw hq => by obtain rfl : qw = w := Option.some.inj (f_qw.symm.trans hw); obtain rfl : ql = q := Option.some.inj (f_ql.symm.trans hq); exact pf_ql)⟩, ⟨hx_ob f_mw (by rw [n_mw]; exact hwd), hx_ob f_mr (by rw [n_mr, f_m_acts]; exact hWK), hx_ob2 f_mp f_mn (by rw [n_mp, n_mn, f_m_acts]; exact hRP), hx_ob f_ml (by rw [n_ml, f_m_claims, f_m_acts]; exact hPL), hx_ob f_mh (by rw [n_mh, f_m_heardMany, f_m_claims]; exact hHC), hx_ob f_mt (by rw [n_mt]; exact (hx_TR_le hTR (by omega))), hx_ob2 f_mh f_m_fou (by rw [n_mh, n_m_fou, f_m_claims]; exact hHF)⟩⟩ hl

set_option maxHeartbeats 4000000 in
set_option maxRecDepth 100000 in
theorem law_case_11 {p : Program} {e : Env} {s : State} {m : MethodId} {below : List Frame} {meth : Method} {c : Code} (l : Launch) {b LN : Nat} {xs : Nat → Int32} (hx : p.tables.exec = Jvm.exec) (hb : c.code = code) (hr : meth.sig.returnType = ret) (hlocks : meth.locks = false) (hml : c.maxLocals = 4) (hown : s.vm.findClass "SmallCourtLaw" = some m.cls) (hts : ∀ w ∈ hx_all, w.before #[Value.ref b] s = true) (hX : va_X b LN xs s s.heap) (hbl : b < s.heap.size) (hbA : ¬ s.heap.size ≤ b) (hLN : LN ≤ 3584) (dC : Nat → ClassId) (dI : Nat → Nat → Nat) (dA : Nat → ClassId) (b0 : hx_z) (ax am : Nat) (T1 : Int) (hT0 : 0 ≤ T1) (hT1 : T1 ≤ 511) (i : Int32) (hi0 : 0 ≤ i.toInt) (hiL : i.toInt + 7 ≤ LN) (CC SS : Nat) (hCC : CC + 3 ≤ 600000) (hSS : SS + 179 ≤ 7302250) (L1 : List Nat) (hl1 : hx_h) (H : Heap) (locs : List Loc) (ls : Array Slot) (hW : hx_W T_tb (P_ty dA) (dC, dI) vwCl (fun q : Nat => s.heap.size ≤ q) s.heap L1 hl1 s H locs) (hZ : hx_Xt (fun q : Nat => s.heap.size ≤ q) b0 s) (hI : hx_IV T1 ax am L1 hl1) (hl : lv_has ls 4 [(3, .int i), (2, .ref am), (1, .ref ax), (0, .ref b)]) (kk : ∀ (L2 : List Nat) (h2 : hx_h) (H2 : Heap) (locs2 : List Loc) (ls2 : Array Slot), hx_W T_tb (P_ty dA) (dC, dI) vwCl (fun q : Nat => s.heap.size ≤ q) s.heap L2 h2 s H2 locs2 → hx_IV (T1 + 1) ax am L2 h2 → lv_has ls2 4 [(3, .int i), (2, .ref am), (1, .ref ax), (0, .ref b)] → W p l e room_1 s m #[Value.ref b] below meth c H2 locs2 (CC + 3) (SS + 179) (lw_Z below #[Value.ref b] s) (F0 m 1379 ls2 [])) : W p l e room_1 s m #[Value.ref b] below meth c H locs CC SS (lw_Z below #[Value.ref b] s) (F0 m 663 ls []) := by
  obtain ⟨hT, gx, gm, ⟨he_nw, he_np, he_c0, he_tl, he_a0, he_m0, ho_ln, ho_lsd, ho_wkm, hn_qp, hn_qc, hk_of, hk_wf, hk_df, hk_kf, hk_sf, hkBD, hLQ, hLE, hkWD, hkDF, hkTP, hkAC, hkDP, hkHL, hkHO, hkFX, hkBX, hf_bor, hf_kin, hf_sum, hf_fro, hf_fil, hf_hea, hf_jud, hc_dead, hc_isj, hc_dox, hc_doy, hc_fou, hc_tri, -⟩, ⟨ia, ip, ic, ih, il⟩, ⟨jw, jr, jp, jl, jh, jt, jf⟩⟩ := hI
  obtain ⟨qa, f_qa, g_qa⟩ := hx_rf hT gx tt_9 (k := 5) (u := 43) rfl
  have pf_qa := ia qa f_qa
  obtain ⟨qp, f_qp, g_qp⟩ := hx_rf hT gx tt_9 (k := 7) (u := 44) rfl
  have pf_qp := ip qp f_qp
  obtain ⟨qc, f_qc, g_qc⟩ := hx_rf hT gx tt_9 (k := 10) (u := 45) rfl
  have pf_qc := ic qc f_qc
  obtain ⟨qh, f_qh, g_qh⟩ := hx_rf hT gx tt_9 (k := 12) (u := 46) rfl
  have pf_qh := ih qh f_qh
  obtain ⟨qw, f_qw, g_qw⟩ := hx_rf hT gx tt_9 (k := 19) (u := 8) rfl
  obtain ⟨ql, f_ql, g_ql⟩ := hx_rf hT g_qw tt_8 (k := 3) (u := 40) rfl
  have pf_ql := il qw ql f_qw f_ql
  obtain ⟨nw, f_m_now⟩ : ∃ y : Int32, hl1.2.1 am 0 = y := ⟨_, rfl⟩
  have b_nw := hT.gi gm tt_10 (k := 0) rfl
  rw [f_m_now] at b_nw
  have b_nw : 0 ≤ nw.toInt ∧ nw.toInt ≤ 7999 := b_nw
  obtain ⟨np, f_m_persons⟩ : ∃ y : Int32, hl1.2.1 am 20 = y := ⟨_, rfl⟩
  have b_np := hT.gi gm tt_10 (k := 20) rfl
  rw [f_m_persons] at b_np
  have b_np : 0 ≤ np.toInt ∧ np.toInt ≤ 40 := b_np
  obtain ⟨c0, f_m_claims⟩ : ∃ y : Int32, hl1.2.1 am 36 = y := ⟨_, rfl⟩
  have b_c0 := hT.gi gm tt_10 (k := 36) rfl
  rw [f_m_claims] at b_c0
  have b_c0 : 0 ≤ c0.toInt ∧ c0.toInt ≤ 100 := b_c0
  obtain ⟨tl, f_m_taped⟩ : ∃ y : Int32, hl1.2.1 am 7 = y := ⟨_, rfl⟩
  have b_tl := hT.gi gm tt_10 (k := 7) rfl
  rw [f_m_taped] at b_tl
  have b_tl : 0 ≤ tl.toInt ∧ tl.toInt ≤ 400 := b_tl
  obtain ⟨a0, f_m_acts⟩ : ∃ y : Int32, hl1.2.1 am 1 = y := ⟨_, rfl⟩
  have b_a0 := hT.gi gm tt_10 (k := 1) rfl
  rw [f_m_acts] at b_a0
  have b_a0 : 0 ≤ a0.toInt ∧ a0.toInt ≤ 8 := b_a0
  obtain ⟨m0, f_m_heardMany⟩ : ∃ y : Int32, hl1.2.1 am 57 = y := ⟨_, rfl⟩
  have b_m0 := hT.gi gm tt_10 (k := 57) rfl
  rw [f_m_heardMany] at b_m0
  have b_m0 : 0 ≤ m0.toInt ∧ m0.toInt ≤ 100 := b_m0
  obtain ⟨ln, f_m_lines⟩ : ∃ y : Int32, hl1.2.1 am 29 = y := ⟨_, rfl⟩
  have b_ln := hT.gi gm tt_10 (k := 29) rfl
  rw [f_m_lines] at b_ln
  have b_ln : 0 ≤ ln.toInt ∧ ln.toInt ≤ 400 := b_ln
  obtain ⟨lsd, f_m_listed⟩ : ∃ y : Int32, hl1.2.1 am 90 = y := ⟨_, rfl⟩
  have b_lsd := hT.gi gm tt_10 (k := 90) rfl
  rw [f_m_listed] at b_lsd
  have b_lsd : 0 ≤ lsd.toInt ∧ lsd.toInt ≤ 8 := b_lsd
  obtain ⟨wkm, f_m_walkedMany⟩ : ∃ y : Int32, hl1.2.1 am 92 = y := ⟨_, rfl⟩
  have b_wkm := hT.gi gm tt_10 (k := 92) rfl
  rw [f_m_walkedMany] at b_wkm
  have b_wkm : 0 ≤ wkm.toInt ∧ wkm.toInt ≤ 8 := b_wkm
  have f_x_now : hl1.2.1 ax 2 = nw := he_nw.trans f_m_now
  have f_x_personCount : hl1.2.1 ax 8 = np := he_np.trans f_m_persons
  have f_x_claimCount : hl1.2.1 ax 11 = c0 := he_c0.trans f_m_claims
  have f_x_tapeLength : hl1.2.1 ax 1 = tl := he_tl.trans f_m_taped
  have f_x_actCount : hl1.2.1 ax 6 = a0 := he_a0.trans f_m_acts
  have f_x_heardCount : hl1.2.1 ax 13 = m0 := he_m0.trans f_m_heardMany
  obtain ⟨mw, f_mw, g_mw⟩ := hx_rf hT gm tt_10 (k := 19) (u := 57) rfl
  obtain ⟨F_mw, n_mw⟩ : ∃ g : Nat → Int32, hl1.2.1 mw = g := ⟨_, rfl⟩
  obtain ⟨mr, f_mr, g_mr⟩ := hx_rf hT gm tt_10 (k := 3) (u := 50) rfl
  obtain ⟨F_mr, n_mr⟩ : ∃ g : Nat → Int32, hl1.2.1 mr = g := ⟨_, rfl⟩
  obtain ⟨mp, f_mp, g_mp⟩ := hx_rf hT gm tt_10 (k := 5) (u := 52) rfl
  obtain ⟨F_mp, n_mp⟩ : ∃ g : Nat → Int32, hl1.2.1 mp = g := ⟨_, rfl⟩
  obtain ⟨mn, f_mn, g_mn⟩ := hx_rf hT gm tt_10 (k := 4) (u := 51) rfl
  obtain ⟨F_mn, n_mn⟩ : ∃ g : Nat → Int32, hl1.2.1 mn = g := ⟨_, rfl⟩
  obtain ⟨ml, f_ml, g_ml⟩ := hx_rf hT gm tt_10 (k := 44) (u := 79) rfl
  obtain ⟨F_ml, n_ml⟩ : ∃ g : Nat → Int32, hl1.2.1 ml = g := ⟨_, rfl⟩
  obtain ⟨mh, f_mh, g_mh⟩ := hx_rf hT gm tt_10 (k := 47) (u := 82) rfl
  obtain ⟨F_mh, n_mh⟩ : ∃ g : Nat → Int32, hl1.2.1 mh = g := ⟨_, rfl⟩
  obtain ⟨mt, f_mt, g_mt⟩ := hx_rf hT gm tt_10 (k := 45) (u := 80) rfl
  obtain ⟨F_mt, n_mt⟩ : ∃ g : Nat → Int32, hl1.2.1 mt = g := ⟨_, rfl⟩
  obtain ⟨m_fou, f_m_fou, g_m_fou⟩ := hx_rf hT gm tt_10 (k := 46) (u := 81) rfl
  obtain ⟨F_m_fou, n_m_fou⟩ : ∃ g : Nat → Int32, hl1.2.1 m_fou = g := ⟨_, rfl⟩
  obtain ⟨qo_ln, f_qo_ln, g_qo_ln⟩ := hx_rf hT gx tt_9 (k := 9) (u := 1) rfl
  have f_o_ln : hl1.2.1 qo_ln 0 = ln := (ho_ln qo_ln f_qo_ln).trans f_m_lines
  have f_o_lsd : hl1.2.1 qw 0 = lsd := (ho_lsd qw f_qw).trans f_m_listed
  have f_o_wkm : hl1.2.1 qw 1 = wkm := (ho_wkm qw f_qw).trans f_m_walkedMany
  have nu_qp := hn_qp qp f_qp; rw [f_x_personCount] at nu_qp
  have nu_qc := hn_qc qc f_qc; rw [f_x_claimCount] at nu_qc
  obtain ⟨b_of, f_b_of, g_b_of⟩ := hx_rf hT g_qo_ln tt_1 (k := 1) (u := 13) rfl
  obtain ⟨B_of, n_b_of⟩ : ∃ g : Nat → Int32, hl1.2.1 b_of = g := ⟨_, rfl⟩
  obtain ⟨m_of, f_m_of, g_m_of⟩ := hx_rf hT gm tt_10 (k := 30) (u := 66) rfl
  obtain ⟨F_of, n_m_of⟩ : ∃ g : Nat → Int32, hl1.2.1 m_of = g := ⟨_, rfl⟩
  have eb_of := hk_of qo_ln b_of m_of f_qo_ln f_b_of f_m_of; rw [n_b_of, n_m_of, f_o_ln] at eb_of
  obtain ⟨b_wf, f_b_wf, g_b_wf⟩ := hx_rf hT g_qo_ln tt_1 (k := 2) (u := 14) rfl
  obtain ⟨B_wf, n_b_wf⟩ : ∃ g : Nat → Int32, hl1.2.1 b_wf = g := ⟨_, rfl⟩
  obtain ⟨m_wf, f_m_wf, g_m_wf⟩ := hx_rf hT gm tt_10 (k := 31) (u := 67) rfl
  obtain ⟨F_wf, n_m_wf⟩ : ∃ g : Nat → Int32, hl1.2.1 m_wf = g := ⟨_, rfl⟩
  have eb_wf := hk_wf qo_ln b_wf m_wf f_qo_ln f_b_wf f_m_wf; rw [n_b_wf, n_m_wf, f_o_ln] at eb_wf
  obtain ⟨b_df, f_b_df, g_b_df⟩ := hx_rf hT g_qo_ln tt_1 (k := 3) (u := 15) rfl
  obtain ⟨B_df, n_b_df⟩ : ∃ g : Nat → Int32, hl1.2.1 b_df = g := ⟨_, rfl⟩
  obtain ⟨m_df, f_m_df, g_m_df⟩ := hx_rf hT gm tt_10 (k := 32) (u := 68) rfl
  obtain ⟨F_df, n_m_df⟩ : ∃ g : Nat → Int32, hl1.2.1 m_df = g := ⟨_, rfl⟩
  have eb_df := hk_df qo_ln b_df m_df f_qo_ln f_b_df f_m_df; rw [n_b_df, n_m_df, f_o_ln] at eb_df
  obtain ⟨b_kf, f_b_kf, g_b_kf⟩ := hx_rf hT g_qo_ln tt_1 (k := 4) (u := 16) rfl
  obtain ⟨B_kf, n_b_kf⟩ : ∃ g : Nat → Int32, hl1.2.1 b_kf = g := ⟨_, rfl⟩
  obtain ⟨m_kf, f_m_kf, g_m_kf⟩ := hx_rf hT gm tt_10 (k := 33) (u := 69) rfl
  obtain ⟨F_kf, n_m_kf⟩ : ∃ g : Nat → Int32, hl1.2.1 m_kf = g := ⟨_, rfl⟩
  have eb_kf := hk_kf qo_ln b_kf m_kf f_qo_ln f_b_kf f_m_kf; rw [n_b_kf, n_m_kf, f_o_ln] at eb_kf
  obtain ⟨b_sf, f_b_sf, g_b_sf⟩ := hx_rf hT g_qo_ln tt_1 (k := 5) (u := 17) rfl
  obtain ⟨B_sf, n_b_sf⟩ : ∃ g : Nat → Int32, hl1.2.1 b_sf = g := ⟨_, rfl⟩
  obtain ⟨m_sf, f_m_sf, g_m_sf⟩ := hx_rf hT gm tt_10 (k := 34) (u := 70) rfl
  obtain ⟨F_sf, n_m_sf⟩ : ∃ g : Nat → Int32, hl1.2.1 m_sf = g := ⟨_, rfl⟩
  have eb_sf := hk_sf qo_ln b_sf m_sf f_qo_ln f_b_sf f_m_sf; rw [n_b_sf, n_m_sf, f_o_ln] at eb_sf
  obtain ⟨b_bf, f_b_bf, g_b_bf⟩ := hx_rf hT g_qo_ln tt_1 (k := 6) (u := 18) rfl
  obtain ⟨bfL, n_b_bf⟩ : ∃ g : Nat → Int32, hl1.2.1 b_bf = g := ⟨_, rfl⟩
  obtain ⟨hBD, hDY⟩ := hkBD qo_ln b_df b_bf f_qo_ln f_b_df f_b_bf; rw [n_b_df, n_b_bf, f_o_ln] at hBD; rw [n_b_df, f_o_ln] at hDY
  have hBDm := hy_BD_c eb_df hBD
  have hDYm : hy_DY F_df ln.toInt.toNat := fun x hx => by rw [← eb_df x hx]; exact hDY x hx
  have sb_list := hLQ qw ql qc f_qw f_ql f_qc
  obtain ⟨m_lst, f_m_lst, g_m_lst⟩ := hx_rf hT gm tt_10 (k := 91) (u := 112) rfl
  obtain ⟨F_lst, n_lst⟩ : ∃ g : Nat → Int32, hl1.2.1 m_lst = g := ⟨_, rfl⟩
  obtain ⟨c_lst, cl_lst⟩ : ∃ g : Nat → Int32, hx_col 8 hl1 ql 0 = g := ⟨_, rfl⟩
  have eq_lst := hLE qw ql m_lst f_qw f_ql f_m_lst; rw [cl_lst, n_lst] at eq_lst
  obtain ⟨qtp, f_qtp, g_qtp⟩ := hx_rf hT gx tt_9 (k := 0) (u := 42) rfl
  obtain ⟨m_tp, f_m_tp, g_m_tp⟩ := hx_rf hT gm tt_10 (k := 6) (u := 53) rfl
  obtain ⟨F_tp, n_tp⟩ : ∃ g : Nat → Int32, hl1.2.1 m_tp = g := ⟨_, rfl⟩
  have n_qtp : hl1.2.1 qtp = F_tp := (hkTP qtp m_tp f_qtp f_m_tp).trans n_tp
  obtain ⟨c_dead, cl_dead⟩ : ∃ g : Nat → Int32, hx_col 40 hl1 qp 7 = g := ⟨_, rfl⟩
  obtain ⟨m_dead, f_m_dead, g_m_dead⟩ := hx_rf hT gm tt_10 (k := 27) (u := 64) rfl
  obtain ⟨F_dead, n_dead⟩ : ∃ g : Nat → Int32, hl1.2.1 m_dead = g := ⟨_, rfl⟩
  have eq_dead := hc_dead qp m_dead f_qp f_m_dead; rw [cl_dead, n_dead] at eq_dead
  have z_dead : np.toInt.toNat < 40 → c_dead np.toInt.toNat = 0 := fun hj => hx_num_z nu_qp cl_dead hj (by omega)
  obtain ⟨c_isj, cl_isj⟩ : ∃ g : Nat → Int32, hx_col 40 hl1 qp 8 = g := ⟨_, rfl⟩
  obtain ⟨m_isj, f_m_isj, g_m_isj⟩ := hx_rf hT gm tt_10 (k := 28) (u := 65) rfl
  obtain ⟨F_isj, n_isj⟩ : ∃ g : Nat → Int32, hl1.2.1 m_isj = g := ⟨_, rfl⟩
  have eq_isj := hc_isj qp m_isj f_qp f_m_isj; rw [cl_isj, n_isj] at eq_isj
  have z_isj : np.toInt.toNat < 40 → c_isj np.toInt.toNat = 0 := fun hj => hx_num_z nu_qp cl_isj hj (by omega)
  obtain ⟨c_dox, cl_dox⟩ : ∃ g : Nat → Int32, hx_col 40 hl1 qp 5 = g := ⟨_, rfl⟩
  obtain ⟨m_dox, f_m_dox, g_m_dox⟩ := hx_rf hT gm tt_10 (k := 24) (u := 61) rfl
  obtain ⟨F_dox, n_dox⟩ : ∃ g : Nat → Int32, hl1.2.1 m_dox = g := ⟨_, rfl⟩
  have eq_dox := hc_dox qp m_dox f_qp f_m_dox; rw [cl_dox, n_dox] at eq_dox
  have z_dox : np.toInt.toNat < 40 → c_dox np.toInt.toNat = 0 := fun hj => hx_num_z nu_qp cl_dox hj (by omega)
  obtain ⟨c_doy, cl_doy⟩ : ∃ g : Nat → Int32, hx_col 40 hl1 qp 6 = g := ⟨_, rfl⟩
  obtain ⟨m_doy, f_m_doy, g_m_doy⟩ := hx_rf hT gm tt_10 (k := 25) (u := 62) rfl
  obtain ⟨F_doy, n_doy⟩ : ∃ g : Nat → Int32, hl1.2.1 m_doy = g := ⟨_, rfl⟩
  have eq_doy := hc_doy qp m_doy f_qp f_m_doy; rw [cl_doy, n_doy] at eq_doy
  have z_doy : np.toInt.toNat < 40 → c_doy np.toInt.toNat = 0 := fun hj => hx_num_z nu_qp cl_doy hj (by omega)
  obtain ⟨c_fou, cl_fou⟩ : ∃ g : Nat → Int32, hx_col 100 hl1 qc 10 = g := ⟨_, rfl⟩
  have eq_fou := hc_fou qc m_fou f_qc f_m_fou; rw [cl_fou, n_m_fou] at eq_fou
  have z_fou : c0.toInt.toNat < 100 → c_fou c0.toInt.toNat = 0 := fun hj => hx_num_z nu_qc cl_fou hj (by omega)
  obtain ⟨c_tri, cl_tri⟩ : ∃ g : Nat → Int32, hx_col 100 hl1 qc 9 = g := ⟨_, rfl⟩
  have eq_tri := hc_tri qc mt f_qc f_mt; rw [cl_tri, n_mt] at eq_tri
  have z_tri : c0.toInt.toNat < 100 → c_tri c0.toInt.toNat = 0 := fun hj => hx_num_z nu_qc cl_tri hj (by omega)
  obtain ⟨qlt, f_qlt, g_qlt⟩ := hx_rf hT g_qw tt_8 (k := 2) (u := 39) rfl
  obtain ⟨qlf, f_qlf, g_qlf⟩ := hx_rf hT g_qw tt_8 (k := 4) (u := 41) rfl
  obtain ⟨m_wkd, f_m_wkd, g_m_wkd⟩ := hx_rf hT gm tt_10 (k := 93) (u := 113) rfl
  obtain ⟨F_qlt, n_qlt⟩ : ∃ g : Nat → Int32, hl1.2.1 qlt = g := ⟨_, rfl⟩
  obtain ⟨F_m_wkd, n_m_wkd⟩ : ∃ g : Nat → Int32, hl1.2.1 m_wkd = g := ⟨_, rfl⟩
  have eb_wkd := hkWD qw qlt m_wkd f_qw f_qlt f_m_wkd; rw [n_qlt, n_m_wkd, f_o_wkm] at eb_wkd
  obtain ⟨m_aga, f_m_aga, g_m_aga⟩ := hx_rf hT gm tt_10 (k := 38) (u := 73) rfl
  obtain ⟨F_aga, n_aga⟩ : ∃ g : Nat → Int32, hl1.2.1 m_aga = g := ⟨_, rfl⟩
  have hDF := hkDF qc qp m_aga f_qc f_qp f_m_aga; rw [n_aga, f_x_claimCount] at hDF
  obtain ⟨qwo, f_qwo, g_qwo⟩ := hx_rf hT gx tt_9 (k := 4) (u := 0) rfl
  obtain ⟨m_ad, f_m_ad, g_m_ad⟩ := hx_rf hT gm tt_10 (k := 2) (u := 49) rfl
  obtain ⟨F_ad, n_ad⟩ : ∃ g : Nat → Int32, hl1.2.1 m_ad = g := ⟨_, rfl⟩
  obtain ⟨A9, hRA9, hCA9, hAC9, hAB⟩ := hkAC qa qwo m_ad mr mn mp qc ml f_qa f_qwo f_m_ad f_mr f_mn f_mp f_qc f_ml
  rw [f_x_actCount] at hRA9; rw [f_x_actCount, n_ad, n_mr, n_mn, n_mp] at hCA9
  obtain ⟨m_by, f_m_by, g_m_by⟩ := hx_rf hT gm tt_10 (k := 37) (u := 72) rfl
  obtain ⟨F_by, n_by⟩ : ∃ g : Nat → Int32, hl1.2.1 m_by = g := ⟨_, rfl⟩
  obtain ⟨m_ho, f_m_ho, g_m_ho⟩ := hx_rf hT gm tt_10 (k := 58) (u := 92) rfl
  obtain ⟨F_ho, n_ho⟩ : ∃ g : Nat → Int32, hl1.2.1 m_ho = g := ⟨_, rfl⟩
  obtain ⟨m_fc, f_m_fc, g_m_fc⟩ := hx_rf hT gm tt_10 (k := 53) (u := 88) rfl
  obtain ⟨F_fc, n_fc⟩ : ∃ g : Nat → Int32, hl1.2.1 m_fc = g := ⟨_, rfl⟩
  obtain ⟨m_nt, f_m_nt, g_m_nt⟩ := hx_rf hT gm tt_10 (k := 41) (u := 76) rfl
  obtain ⟨F_nt, n_nt⟩ : ∃ g : Nat → Int32, hl1.2.1 m_nt = g := ⟨_, rfl⟩
  obtain ⟨m_wt, f_m_wt, g_m_wt⟩ := hx_rf hT gm tt_10 (k := 42) (u := 77) rfl
  obtain ⟨F_wt, n_wt⟩ : ∃ g : Nat → Int32, hl1.2.1 m_wt = g := ⟨_, rfl⟩
  obtain ⟨m_be, f_m_be, g_m_be⟩ := hx_rf hT gm tt_10 (k := 52) (u := 87) rfl
  obtain ⟨F_be, n_be⟩ : ∃ g : Nat → Int32, hl1.2.1 m_be = g := ⟨_, rfl⟩
  obtain ⟨m_bor, f_m_bor, g_m_bor⟩ := hx_rf hT gm tt_10 (k := 21) (u := 58) rfl
  obtain ⟨F_bor, n_bor⟩ : ∃ g : Nat → Int32, hl1.2.1 m_bor = g := ⟨_, rfl⟩
  obtain ⟨m_kin, f_m_kin, g_m_kin⟩ := hx_rf hT gm tt_10 (k := 26) (u := 63) rfl
  obtain ⟨F_kin, n_kin⟩ : ∃ g : Nat → Int32, hl1.2.1 m_kin = g := ⟨_, rfl⟩
  obtain ⟨m_sum, f_m_sum, g_m_sum⟩ := hx_rf hT gm tt_10 (k := 39) (u := 74) rfl
  obtain ⟨F_sum, n_sum⟩ : ∃ g : Nat → Int32, hl1.2.1 m_sum = g := ⟨_, rfl⟩
  obtain ⟨m_fro, f_m_fro, g_m_fro⟩ := hx_rf hT gm tt_10 (k := 40) (u := 75) rfl
  obtain ⟨F_fro, n_fro⟩ : ∃ g : Nat → Int32, hl1.2.1 m_fro = g := ⟨_, rfl⟩
  obtain ⟨m_fil, f_m_fil, g_m_fil⟩ := hx_rf hT gm tt_10 (k := 43) (u := 78) rfl
  obtain ⟨F_fil, n_fil⟩ : ∃ g : Nat → Int32, hl1.2.1 m_fil = g := ⟨_, rfl⟩
  obtain ⟨m_jud, f_m_jud, g_m_jud⟩ := hx_rf hT gm tt_10 (k := 51) (u := 86) rfl
  obtain ⟨F_jud, n_jud⟩ : ∃ g : Nat → Int32, hl1.2.1 m_jud = g := ⟨_, rfl⟩
  have cl_bor : hx_col 40 hl1 qp 1 = F_bor := (hf_bor qp m_bor f_qp f_m_bor).trans n_bor
  have cl_kin : hx_col 40 hl1 qp 2 = F_kin := (hf_kin qp m_kin f_qp f_m_kin).trans n_kin
  have cl_sum : hx_col 100 hl1 qc 6 = F_sum := (hf_sum qc m_sum f_qc f_m_sum).trans n_sum
  have cl_fro : hx_col 100 hl1 qc 7 = F_fro := (hf_fro qc m_fro f_qc f_m_fro).trans n_fro
  have cl_fil : hx_col 100 hl1 qc 8 = F_fil := (hf_fil qc m_fil f_qc f_m_fil).trans n_fil
  have cl_hea : hx_col 100 hl1 qc 11 = F_mh := (hf_hea qc mh f_qc f_mh).trans n_mh
  have cl_jud : hx_col 100 hl1 qc 12 = F_jud := (hf_jud qc m_jud f_qc f_m_jud).trans n_jud
  have htb9 : ∀ c, c < 100 → 0 ≤ (c_tri c).toInt ∧ (c_tri c).toInt ≤ 512 := fun c hc => by rw [eq_tri c hc]; have w := hT.ei g_mt tt_80 (k := c) hc; rw [n_mt] at w; exact w
  have z_jud : F_jud c0.toInt.toNat = 0 := hx_num_z2 nu_qc cl_jud (by omega)
  have hDP := hkDP qc qp m_by f_qc f_qp f_m_by; rw [n_by, f_x_claimCount] at hDP
  have hHL := hkHL qh qc m_ho f_qh f_qc f_m_ho; rw [n_ho, f_x_heardCount, f_x_claimCount] at hHL
  have hHO9 := hkHO m_ho mh f_m_ho f_mh; rw [n_ho, n_mh, f_m_heardMany, f_m_claims] at hHO9
  obtain ⟨cF9L, hFX, hFR9⟩ := hkFX qc m_fc m_nt m_wt m_sum mh f_qc f_m_fc f_m_nt f_m_wt f_m_sum f_mh; rw [f_x_claimCount] at hFX; rw [n_fc, n_nt, n_wt, n_sum, n_mh, f_x_claimCount] at hFR9
  have hBX := hkBX qc m_be f_qc f_m_be; rw [n_be, f_x_claimCount] at hBX
  rw [n_ml, f_x_claimCount] at hAC9
  have hwd := jw mw f_mw; rw [n_mw] at hwd
  have hWK := jr mr f_mr; rw [n_mr, f_m_acts] at hWK
  have hRP := jp mp mn f_mp f_mn; rw [n_mp, n_mn, f_m_acts] at hRP
  have hPL := jl ml f_ml; rw [n_ml, f_m_claims, f_m_acts] at hPL
  have hHC := jh mh f_mh; rw [n_mh, f_m_heardMany, f_m_claims] at hHC
  have hTR := jt mt f_mt; rw [n_mt] at hTR
  have hHF := jf mh m_fou f_mh f_m_fou; rw [n_mh, n_m_fou, f_m_claims] at hHF
  refine lv_aload_n hx hb dL_law_663 rfl (lv_at hl 2 rfl) ?_
  refine lv_aload_n hx hb dL_law_664 rfl (lv_at hl 3 rfl) ?_
  refine lv_iload_n hx hb dL_law_665 rfl (lv_at hl 0 rfl) ?_
  refine lv_iconst (v := 1) hx hb dL_law_666 (by decide) ?_
  refine lv_iadd hx hb dL_law_667 ?_
  have rg_320 := i32_r i
  refine lv_topi (fun x_321 ex_321 => ?_)
  have zx_321 : x_321.toInt = i.toInt + 1 := by rw [ex_321]; exact i32_add rfl (by decide) (by omega) (by omega)
  refine va_sld hx hb hX hbl hbA hW.2.2.2.1 (vp_in_iff.mpr ⟨by omega, by omega⟩) dL_law_668 ?_
  refine lv_topi (fun x_322 ex_322 => ?_)
  refine lv_aload_n hx hb dL_law_669 rfl (lv_at hl 3 rfl) ?_
  refine lv_iload_n hx hb dL_law_670 rfl (lv_at hl 0 rfl) ?_
  refine lv_iconst (v := 2) hx hb dL_law_671 (by decide) ?_
  refine lv_iadd hx hb dL_law_672 ?_
  refine lv_topi (fun x_323 ex_323 => ?_)
  have zx_323 : x_323.toInt = i.toInt + 2 := by rw [ex_323]; exact i32_add rfl (by decide) (by omega) (by omega)
  refine va_sld hx hb hX hbl hbA hW.2.2.2.1 (vp_in_iff.mpr ⟨by omega, by omega⟩) dL_law_673 ?_
  refine lv_topi (fun x_324 ex_324 => ?_)
  refine lv_aload_n hx hb dL_law_674 rfl (lv_at hl 3 rfl) ?_
  refine lv_iload_n hx hb dL_law_675 rfl (lv_at hl 0 rfl) ?_
  refine lv_iconst (v := 3) hx hb dL_law_676 (by decide) ?_
  refine lv_iadd hx hb dL_law_677 ?_
  refine lv_topi (fun x_325 ex_325 => ?_)
  have zx_325 : x_325.toInt = i.toInt + 3 := by rw [ex_325]; exact i32_add rfl (by decide) (by omega) (by omega)
  refine va_sld hx hb hX hbl hbA hW.2.2.2.1 (vp_in_iff.mpr ⟨by omega, by omega⟩) dL_law_678 ?_
  refine lv_topi (fun x_326 ex_326 => ?_)
  refine lv_aload_n hx hb dL_law_679 rfl (lv_at hl 3 rfl) ?_
  refine lv_iload_n hx hb dL_law_680 rfl (lv_at hl 0 rfl) ?_
  refine lv_iconst (v := 4) hx hb dL_law_681 (by decide) ?_
  refine lv_iadd hx hb dL_law_682 ?_
  refine lv_topi (fun x_327 ex_327 => ?_)
  have zx_327 : x_327.toInt = i.toInt + 4 := by rw [ex_327]; exact i32_add rfl (by decide) (by omega) (by omega)
  refine va_sld hx hb hX hbl hbA hW.2.2.2.1 (vp_in_iff.mpr ⟨by omega, by omega⟩) dL_law_683 ?_
  refine lv_topi (fun x_328 ex_328 => ?_)
  refine lv_aload_n hx hb dL_law_684 rfl (lv_at hl 3 rfl) ?_
  refine lv_iload_n hx hb dL_law_685 rfl (lv_at hl 0 rfl) ?_
  refine lv_iconst (v := 5) hx hb dL_law_686 (by decide) ?_
  refine lv_iadd hx hb dL_law_687 ?_
  refine lv_topi (fun x_329 ex_329 => ?_)
  have zx_329 : x_329.toInt = i.toInt + 5 := by rw [ex_329]; exact i32_add rfl (by decide) (by omega) (by omega)
  refine va_sld hx hb hX hbl hbA hW.2.2.2.1 (vp_in_iff.mpr ⟨by omega, by omega⟩) dL_law_688 ?_
  refine lv_topi (fun x_330 ex_330 => ?_)
  have jn_697 : ∀ (xj_331 : Int32) (ls : Array Slot), 0 ≤ xj_331.toInt → xj_331.toInt ≤ 1 → (x_330.toInt = 0 ∧ xj_331.toInt = 0) ∨ (x_330.toInt ≠ 0 ∧ xj_331.toInt = 1) → lv_has ls 4 [(3, .int i), (2, .ref am), (1, .ref ax), (0, .ref b)] → W p l e room_1 s m #[Value.ref b] below meth c H locs (CC) (SS) (lw_Z below #[Value.ref b] s) (F0 m 697 ls [.int xj_331, .int x_328, .int x_326, .int x_324, .int x_322, .ref ax]) := by
    intro xj_331 ls blxj_331 buxj_331 jcxj_331 hl
    refine lv_aload_n hx hb dL_law_697 rfl (lv_at hl 3 rfl) ?_
    refine lv_iload_n hx hb dL_law_698 rfl (lv_at hl 0 rfl) ?_
    refine lv_bipush (v := 6) hx hb dL_law_699 (by decide) ?_
    refine lv_iadd hx hb dL_law_701 ?_
    refine lv_topi (fun x_332 ex_332 => ?_)
    have zx_332 : x_332.toInt = i.toInt + 6 := by rw [ex_332]; exact i32_add rfl (by decide) (by omega) (by omega)
    refine va_sld hx hb hX hbl hbA hW.2.2.2.1 (vp_in_iff.mpr ⟨by omega, by omega⟩) dL_law_702 ?_
    refine lv_topi (fun x_333 ex_333 => ?_)
    have hTo := hT
    refine hx_goi (hx_runV (As := [.int x_322, .int x_324, .int x_326, .int x_328, .int xj_331, .int x_333]) (rest := []) ⟨hx, hb, hml, hown, hts⟩ hW gx tt_9 (T := TX9) (N := 20) rfl (t_X9_file_v l dC dI dA L1 hl1 H.size ax x_322 x_324 x_326 x_328 xj_331 x_333 hT gx qp g_qp f_qp qc g_qc f_qc qa g_qa f_qa qwo g_qwo f_qwo qw g_qw f_qw ql g_ql f_ql qh g_qh f_qh c0 f_x_claimCount np f_x_personCount nw f_x_now a0 f_x_actCount m0 f_x_heardCount c_dead cl_dead c_fou cl_fou c_tri cl_tri F_sum cl_sum F_fro cl_fro F_fil cl_fil F_mh cl_hea F_jud cl_jud nu_qc sb_list F_aga F_by hDF hDP F_ml F_ho cF9L F_be A9 hRA9 hAC9 hFX hBX hHL ⟨by omega, by omega⟩ pf_qp pf_qc pf_qa) (cwV 6 hts (hx_gV kw_715 kw_712 kw_713 kw_714 kw_94) rfl rfl rfl (by decide +kernel) ⟨Nat.le_of_ble_eq_true rfl, Nat.le_of_ble_eq_true rfl⟩) rfl hl.1 rfl (Nat.le_of_ble_eq_true rfl) dL_law_703 ⟨(show CC + 3 ≤ 600000 from by omega), (show SS + 30 ≤ 7302250 from by omega)⟩) hW (fun r_336 L_334 h_335 H locs p_337 hW => ?_)
    obtain ⟨⟨w_340, w_341, w_342, w_343, w_344, w_345, w_346, w_347, fw_340, fw_341, fw_342, fw_343, fw_344, fw_345, fw_346, fw_347, hr_338⟩, hT, hs, pf_339⟩ := p_337
    obtain ⟨nu_348, hr_338⟩ := hr_338
    obtain ⟨sb_349, hr_338⟩ := hr_338
    replace hT : hx_T T_tb L_334 h_335 := hT
    replace hs : hx_S T_tb [(2, 6), (2, 7), (2, 8), (9, 11), (20, 0), (45, 0), (118, 0), (118, 1), (118, 2), (118, 3), (118, 4), (118, 5), (118, 10), (118, 11), (118, 13), (118, 16), (118, 18)] L1 hl1 L_334 h_335 := hs
    replace f_qa := (hs.o gx trivial rfl).2.trans f_qa
    replace f_qp := (hs.o gx trivial rfl).2.trans f_qp
    replace f_qc := (hs.o gx trivial rfl).2.trans f_qc
    replace f_qh := (hs.o gx trivial rfl).2.trans f_qh
    replace f_qw := (hs.o gx trivial rfl).2.trans f_qw
    replace f_ql := (hs.o g_qw trivial rfl).2.trans f_ql
    replace f_m_now := (hs.o gm trivial rfl).1.trans f_m_now
    replace f_m_persons := (hs.o gm trivial rfl).1.trans f_m_persons
    replace f_m_claims := (hs.o gm trivial rfl).1.trans f_m_claims
    replace f_m_taped := (hs.o gm trivial rfl).1.trans f_m_taped
    replace f_m_acts := (hs.o gm trivial rfl).1.trans f_m_acts
    replace f_m_heardMany := (hs.o gm trivial rfl).1.trans f_m_heardMany
    replace f_m_lines := (hs.o gm trivial rfl).1.trans f_m_lines
    replace f_m_listed := (hs.o gm trivial rfl).1.trans f_m_listed
    replace f_m_walkedMany := (hs.o gm trivial rfl).1.trans f_m_walkedMany
    replace f_x_now := (hs.o gx trivial rfl).1.trans f_x_now
    replace f_x_personCount := (hs.o gx trivial rfl).1.trans f_x_personCount
    replace f_x_tapeLength := (hs.o gx trivial rfl).1.trans f_x_tapeLength
    replace f_x_actCount := (hs.o gx trivial rfl).1.trans f_x_actCount
    replace f_x_heardCount := (hs.o gx trivial rfl).1.trans f_x_heardCount
    replace f_mw := (hs.o gm trivial rfl).2.trans f_mw
    replace f_mr := (hs.o gm trivial rfl).2.trans f_mr
    replace f_mp := (hs.o gm trivial rfl).2.trans f_mp
    replace f_mn := (hs.o gm trivial rfl).2.trans f_mn
    replace f_ml := (hs.o gm trivial rfl).2.trans f_ml
    replace f_mh := (hs.o gm trivial rfl).2.trans f_mh
    replace f_mt := (hs.o gm trivial rfl).2.trans f_mt
    replace f_m_fou := (hs.o gm trivial rfl).2.trans f_m_fou
    replace f_qo_ln := (hs.o gx trivial rfl).2.trans f_qo_ln
    replace f_o_ln := (hs.o g_qo_ln trivial rfl).1.trans f_o_ln
    replace f_o_lsd := (hs.o g_qw trivial rfl).1.trans f_o_lsd
    replace f_o_wkm := (hs.o g_qw trivial rfl).1.trans f_o_wkm
    replace f_b_of := (hs.o g_qo_ln trivial rfl).2.trans f_b_of
    replace f_m_of := (hs.o gm trivial rfl).2.trans f_m_of
    replace f_b_wf := (hs.o g_qo_ln trivial rfl).2.trans f_b_wf
    replace f_m_wf := (hs.o gm trivial rfl).2.trans f_m_wf
    replace f_b_df := (hs.o g_qo_ln trivial rfl).2.trans f_b_df
    replace f_m_df := (hs.o gm trivial rfl).2.trans f_m_df
    replace f_b_kf := (hs.o g_qo_ln trivial rfl).2.trans f_b_kf
    replace f_m_kf := (hs.o gm trivial rfl).2.trans f_m_kf
    replace f_b_sf := (hs.o g_qo_ln trivial rfl).2.trans f_b_sf
    replace f_m_sf := (hs.o gm trivial rfl).2.trans f_m_sf
    replace f_b_bf := (hs.o g_qo_ln trivial rfl).2.trans f_b_bf
    replace f_m_lst := (hs.o gm trivial rfl).2.trans f_m_lst
    replace f_qtp := (hs.o gx trivial rfl).2.trans f_qtp
    replace f_m_tp := (hs.o gm trivial rfl).2.trans f_m_tp
    replace f_m_dead := (hs.o gm trivial rfl).2.trans f_m_dead
    replace f_m_isj := (hs.o gm trivial rfl).2.trans f_m_isj
    replace f_m_dox := (hs.o gm trivial rfl).2.trans f_m_dox
    replace f_m_doy := (hs.o gm trivial rfl).2.trans f_m_doy
    replace f_qlt := (hs.o g_qw trivial rfl).2.trans f_qlt
    replace f_qlf := (hs.o g_qw trivial rfl).2.trans f_qlf
    replace f_m_wkd := (hs.o gm trivial rfl).2.trans f_m_wkd
    replace f_m_aga := (hs.o gm trivial rfl).2.trans f_m_aga
    replace f_qwo := (hs.o gx trivial rfl).2.trans f_qwo
    replace f_m_ad := (hs.o gm trivial rfl).2.trans f_m_ad
    replace f_m_by := (hs.o gm trivial rfl).2.trans f_m_by
    replace f_m_ho := (hs.o gm trivial rfl).2.trans f_m_ho
    replace f_m_fc := (hs.o gm trivial rfl).2.trans f_m_fc
    replace f_m_nt := (hs.o gm trivial rfl).2.trans f_m_nt
    replace f_m_wt := (hs.o gm trivial rfl).2.trans f_m_wt
    replace f_m_be := (hs.o gm trivial rfl).2.trans f_m_be
    replace f_m_bor := (hs.o gm trivial rfl).2.trans f_m_bor
    replace f_m_kin := (hs.o gm trivial rfl).2.trans f_m_kin
    replace f_m_sum := (hs.o gm trivial rfl).2.trans f_m_sum
    replace f_m_fro := (hs.o gm trivial rfl).2.trans f_m_fro
    replace f_m_fil := (hs.o gm trivial rfl).2.trans f_m_fil
    replace f_m_jud := (hs.o gm trivial rfl).2.trans f_m_jud
    replace pf_qa : ∀ j : Nat, (j : Int) < (h_335.2.1 ax 6).toInt → h_335.2.2 qa j ≠ none := by
      intro j hj; rw [(hs.o gx trivial rfl).1] at hj; rw [(hs.a g_qa rfl j).2]; exact pf_qa j hj
    replace pf_qp : ∀ j : Nat, (j : Int) < (h_335.2.1 ax 8).toInt → h_335.2.2 qp j ≠ none := by
      intro j hj; rw [(hs.o gx trivial rfl).1] at hj; rw [(hs.a g_qp rfl j).2]; exact pf_qp j hj
    replace pf_qh : ∀ j : Nat, (j : Int) < (h_335.2.1 ax 13).toInt → h_335.2.2 qh j ≠ none := by
      intro j hj; rw [(hs.o gx trivial rfl).1] at hj; rw [(hs.a g_qh rfl j).2]; exact pf_qh j hj
    replace pf_ql : ∀ j : Nat, (j : Int) < (h_335.2.1 qw 0).toInt → h_335.2.2 ql j ≠ none := by
      intro j hj; rw [(hs.o g_qw trivial rfl).1] at hj; rw [(hs.a g_ql rfl j).2]; exact pf_ql j hj
    replace cl_lst : hx_col 8 h_335 ql 0 = c_lst := (hx_col_S hs hTo g_ql tt_40 tt_2 rfl rfl).trans cl_lst
    replace cl_dead : hx_col 40 h_335 qp 7 = c_dead := (hx_col_S hs hTo g_qp tt_44 tt_4 rfl rfl).trans cl_dead
    replace cl_isj : hx_col 40 h_335 qp 8 = c_isj := (hx_col_S hs hTo g_qp tt_44 tt_4 rfl rfl).trans cl_isj
    replace cl_dox : hx_col 40 h_335 qp 5 = c_dox := (hx_col_S hs hTo g_qp tt_44 tt_4 rfl rfl).trans cl_dox
    replace cl_doy : hx_col 40 h_335 qp 6 = c_doy := (hx_col_S hs hTo g_qp tt_44 tt_4 rfl rfl).trans cl_doy
    replace cl_bor : hx_col 40 h_335 qp 1 = F_bor := (hx_col_S hs hTo g_qp tt_44 tt_4 rfl rfl).trans cl_bor
    replace cl_kin : hx_col 40 h_335 qp 2 = F_kin := (hx_col_S hs hTo g_qp tt_44 tt_4 rfl rfl).trans cl_kin
    replace nu_qp : hx_num 40 h_335 qp 0 (np.toInt) := hx_num_S hs hTo g_qp tt_44 tt_4 rfl rfl nu_qp
    replace hRA9 : hv_RA h_335 qa qwo a0.toInt A9 := hv_RA_S hs hTo g_qa g_qwo tt_43 tt_0 rfl rfl rfl rfl rfl rfl (by omega) hRA9
    replace n_mw : h_335.2.1 mw = F_mw := (funext fun j => (hs.a g_mw rfl j).1).trans n_mw
    replace n_mr : h_335.2.1 mr = F_mr := (funext fun j => (hs.a g_mr rfl j).1).trans n_mr
    replace n_mp : h_335.2.1 mp = F_mp := (funext fun j => (hs.a g_mp rfl j).1).trans n_mp
    replace n_mn : h_335.2.1 mn = F_mn := (funext fun j => (hs.a g_mn rfl j).1).trans n_mn
    replace n_ml : h_335.2.1 ml = F_ml := (funext fun j => (hs.a g_ml rfl j).1).trans n_ml
    replace n_mh : h_335.2.1 mh = F_mh := (funext fun j => (hs.a g_mh rfl j).1).trans n_mh
    replace n_mt : h_335.2.1 mt = F_mt := (funext fun j => (hs.a g_mt rfl j).1).trans n_mt
    replace n_m_fou : h_335.2.1 m_fou = F_m_fou := (funext fun j => (hs.a g_m_fou rfl j).1).trans n_m_fou
    replace n_b_of : h_335.2.1 b_of = B_of := (funext fun j => (hs.a g_b_of rfl j).1).trans n_b_of
    replace n_m_of : h_335.2.1 m_of = F_of := (funext fun j => (hs.a g_m_of rfl j).1).trans n_m_of
    replace n_b_wf : h_335.2.1 b_wf = B_wf := (funext fun j => (hs.a g_b_wf rfl j).1).trans n_b_wf
    replace n_m_wf : h_335.2.1 m_wf = F_wf := (funext fun j => (hs.a g_m_wf rfl j).1).trans n_m_wf
    replace n_b_df : h_335.2.1 b_df = B_df := (funext fun j => (hs.a g_b_df rfl j).1).trans n_b_df
    replace n_m_df : h_335.2.1 m_df = F_df := (funext fun j => (hs.a g_m_df rfl j).1).trans n_m_df
    replace n_b_kf : h_335.2.1 b_kf = B_kf := (funext fun j => (hs.a g_b_kf rfl j).1).trans n_b_kf
    replace n_m_kf : h_335.2.1 m_kf = F_kf := (funext fun j => (hs.a g_m_kf rfl j).1).trans n_m_kf
    replace n_b_sf : h_335.2.1 b_sf = B_sf := (funext fun j => (hs.a g_b_sf rfl j).1).trans n_b_sf
    replace n_m_sf : h_335.2.1 m_sf = F_sf := (funext fun j => (hs.a g_m_sf rfl j).1).trans n_m_sf
    replace n_b_bf : h_335.2.1 b_bf = bfL := (funext fun j => (hs.a g_b_bf rfl j).1).trans n_b_bf
    replace n_lst : h_335.2.1 m_lst = F_lst := (funext fun j => (hs.a g_m_lst rfl j).1).trans n_lst
    replace n_tp : h_335.2.1 m_tp = F_tp := (funext fun j => (hs.a g_m_tp rfl j).1).trans n_tp
    replace n_qtp : h_335.2.1 qtp = F_tp := (funext fun j => (hs.a g_qtp rfl j).1).trans n_qtp
    replace n_dead : h_335.2.1 m_dead = F_dead := (funext fun j => (hs.a g_m_dead rfl j).1).trans n_dead
    replace n_isj : h_335.2.1 m_isj = F_isj := (funext fun j => (hs.a g_m_isj rfl j).1).trans n_isj
    replace n_dox : h_335.2.1 m_dox = F_dox := (funext fun j => (hs.a g_m_dox rfl j).1).trans n_dox
    replace n_doy : h_335.2.1 m_doy = F_doy := (funext fun j => (hs.a g_m_doy rfl j).1).trans n_doy
    replace n_qlt : h_335.2.1 qlt = F_qlt := (funext fun j => (hs.a g_qlt rfl j).1).trans n_qlt
    replace n_m_wkd : h_335.2.1 m_wkd = F_m_wkd := (funext fun j => (hs.a g_m_wkd rfl j).1).trans n_m_wkd
    replace n_aga : h_335.2.1 m_aga = F_aga := (funext fun j => (hs.a g_m_aga rfl j).1).trans n_aga
    replace n_ad : h_335.2.1 m_ad = F_ad := (funext fun j => (hs.a g_m_ad rfl j).1).trans n_ad
    replace n_by : h_335.2.1 m_by = F_by := (funext fun j => (hs.a g_m_by rfl j).1).trans n_by
    replace n_ho : h_335.2.1 m_ho = F_ho := (funext fun j => (hs.a g_m_ho rfl j).1).trans n_ho
    replace n_fc : h_335.2.1 m_fc = F_fc := (funext fun j => (hs.a g_m_fc rfl j).1).trans n_fc
    replace n_nt : h_335.2.1 m_nt = F_nt := (funext fun j => (hs.a g_m_nt rfl j).1).trans n_nt
    replace n_wt : h_335.2.1 m_wt = F_wt := (funext fun j => (hs.a g_m_wt rfl j).1).trans n_wt
    replace n_be : h_335.2.1 m_be = F_be := (funext fun j => (hs.a g_m_be rfl j).1).trans n_be
    replace n_bor : h_335.2.1 m_bor = F_bor := (funext fun j => (hs.a g_m_bor rfl j).1).trans n_bor
    replace n_kin : h_335.2.1 m_kin = F_kin := (funext fun j => (hs.a g_m_kin rfl j).1).trans n_kin
    replace n_sum : h_335.2.1 m_sum = F_sum := (funext fun j => (hs.a g_m_sum rfl j).1).trans n_sum
    replace n_fro : h_335.2.1 m_fro = F_fro := (funext fun j => (hs.a g_m_fro rfl j).1).trans n_fro
    replace n_fil : h_335.2.1 m_fil = F_fil := (funext fun j => (hs.a g_m_fil rfl j).1).trans n_fil
    replace n_jud : h_335.2.1 m_jud = F_jud := (funext fun j => (hs.a g_m_jud rfl j).1).trans n_jud
    replace gx := gx.S hs
    replace gm := gm.S hs
    replace g_qa := g_qa.S hs
    replace g_qp := g_qp.S hs
    replace g_qc := g_qc.S hs
    replace g_qh := g_qh.S hs
    replace g_qw := g_qw.S hs
    replace g_ql := g_ql.S hs
    replace g_mw := g_mw.S hs
    replace g_mr := g_mr.S hs
    replace g_mp := g_mp.S hs
    replace g_mn := g_mn.S hs
    replace g_ml := g_ml.S hs
    replace g_mh := g_mh.S hs
    replace g_mt := g_mt.S hs
    replace g_m_fou := g_m_fou.S hs
    replace g_qo_ln := g_qo_ln.S hs
    replace g_b_of := g_b_of.S hs
    replace g_m_of := g_m_of.S hs
    replace g_b_wf := g_b_wf.S hs
    replace g_m_wf := g_m_wf.S hs
    replace g_b_df := g_b_df.S hs
    replace g_m_df := g_m_df.S hs
    replace g_b_kf := g_b_kf.S hs
    replace g_m_kf := g_m_kf.S hs
    replace g_b_sf := g_b_sf.S hs
    replace g_m_sf := g_m_sf.S hs
    replace g_b_bf := g_b_bf.S hs
    replace g_m_lst := g_m_lst.S hs
    replace g_qtp := g_qtp.S hs
    replace g_m_tp := g_m_tp.S hs
    replace g_m_dead := g_m_dead.S hs
    replace g_m_isj := g_m_isj.S hs
    replace g_m_dox := g_m_dox.S hs
    replace g_m_doy := g_m_doy.S hs
    replace g_qlt := g_qlt.S hs
    replace g_qlf := g_qlf.S hs
    replace g_m_wkd := g_m_wkd.S hs
    replace g_m_aga := g_m_aga.S hs
    replace g_qwo := g_qwo.S hs
    replace g_m_ad := g_m_ad.S hs
    replace g_m_by := g_m_by.S hs
    replace g_m_ho := g_m_ho.S hs
    replace g_m_fc := g_m_fc.S hs
    replace g_m_nt := g_m_nt.S hs
    replace g_m_wt := g_m_wt.S hs
    replace g_m_be := g_m_be.S hs
    replace g_m_bor := g_m_bor.S hs
    replace g_m_kin := g_m_kin.S hs
    replace g_m_sum := g_m_sum.S hs
    replace g_m_fro := g_m_fro.S hs
    replace g_m_fil := g_m_fil.S hs
    replace g_m_jud := g_m_jud.S hs
    have pf_339 : ∀ j : Nat, (j : Int) < (h_335.2.1 ax 11).toInt → h_335.2.2 qc j ≠ none := pf_339
    have sb_349 : hx_LQ 8 100 h_335 ql qc := sb_349
    have nu_348 : hx_num 100 h_335 qc 0 (w_340.toInt) := nu_348
    have fw_340 : h_335.2.1 ax 11 = w_340 := fw_340
    have bw_340 := hT.gi gx tt_9 (k := 11) rfl
    rw [fw_340] at bw_340
    have bw_340 : 0 ≤ w_340.toInt ∧ w_340.toInt ≤ 100 := bw_340
    have fw_341 : hx_col 100 h_335 qc 10 = w_341 := fw_341
    have fw_342 : hx_col 100 h_335 qc 9 = w_342 := fw_342
    have fw_343 : hx_col 100 h_335 qc 6 = w_343 := fw_343
    have fw_344 : hx_col 100 h_335 qc 7 = w_344 := fw_344
    have fw_345 : hx_col 100 h_335 qc 8 = w_345 := fw_345
    have fw_346 : hx_col 100 h_335 qc 11 = w_346 := fw_346
    have fw_347 : hx_col 100 h_335 qc 12 = w_347 := fw_347
    obtain ⟨agN, byN, plN, cFN, bFN, pvN, hagN, hbyN, ⟨hpvN, hplN⟩, hFUN, hBUN, hDFN, hDPN, hACN, hFXN, hBXN, hHLN⟩ := hr_338.2.2.2.2.2.2.2.2
    have hDFN : hw_DF h_335 qc qp 2 agN w_340.toInt := hDFN
    have hDPN : hw_DF h_335 qc qp 1 byN w_340.toInt := hDPN
    have hACN : hv_AC h_335 qc plN w_340.toInt A9 := hACN
    have hFXN : hv_FX 8 4 h_335 qc cFN w_340.toInt := hFXN
    have hBXN : hv_FX 3 5 h_335 qc bFN w_340.toInt := hBXN
    have hHLN : hv_HL h_335 qh qc F_ho m0.toInt w_340.toInt := hHLN
    refine lv_pop hx hb dL_law_706 rfl ?_
    refine lv_aload_n hx hb dL_law_707 rfl (lv_at hl 1 rfl) ?_
    refine lv_aload_n hx hb dL_law_708 rfl (lv_at hl 3 rfl) ?_
    refine lv_iload_n hx hb dL_law_709 rfl (lv_at hl 0 rfl) ?_
    refine lv_iconst (v := 1) hx hb dL_law_710 (by decide) ?_
    refine lv_iadd hx hb dL_law_711 ?_
    refine lv_topi (fun x_350 ex_350 => ?_)
    have zx_350 : x_350.toInt = i.toInt + 1 := by rw [ex_350]; exact i32_add rfl (by decide) (by omega) (by omega)
    obtain rfl : x_321 = x_350 := ex_321.trans ex_350.symm
    refine va_sld hx hb hX hbl hbA hW.2.2.2.1 (vp_in_iff.mpr ⟨by omega, by omega⟩) dL_law_712 ?_
    refine lv_topi (fun x_351 ex_351 => ?_)
    obtain rfl : x_322 = x_351 := ex_322.trans ex_351.symm
    refine lv_aload_n hx hb dL_law_713 rfl (lv_at hl 3 rfl) ?_
    refine lv_iload_n hx hb dL_law_714 rfl (lv_at hl 0 rfl) ?_
    refine lv_iconst (v := 2) hx hb dL_law_715 (by decide) ?_
    refine lv_iadd hx hb dL_law_716 ?_
    refine lv_topi (fun x_352 ex_352 => ?_)
    have zx_352 : x_352.toInt = i.toInt + 2 := by rw [ex_352]; exact i32_add rfl (by decide) (by omega) (by omega)
    obtain rfl : x_323 = x_352 := ex_323.trans ex_352.symm
    refine va_sld hx hb hX hbl hbA hW.2.2.2.1 (vp_in_iff.mpr ⟨by omega, by omega⟩) dL_law_717 ?_
    refine lv_topi (fun x_353 ex_353 => ?_)
    obtain rfl : x_324 = x_353 := ex_324.trans ex_353.symm
    refine lv_aload_n hx hb dL_law_718 rfl (lv_at hl 3 rfl) ?_
    refine lv_iload_n hx hb dL_law_719 rfl (lv_at hl 0 rfl) ?_
    refine lv_iconst (v := 3) hx hb dL_law_720 (by decide) ?_
    refine lv_iadd hx hb dL_law_721 ?_
    refine lv_topi (fun x_354 ex_354 => ?_)
    have zx_354 : x_354.toInt = i.toInt + 3 := by rw [ex_354]; exact i32_add rfl (by decide) (by omega) (by omega)
    obtain rfl : x_325 = x_354 := ex_325.trans ex_354.symm
    refine va_sld hx hb hX hbl hbA hW.2.2.2.1 (vp_in_iff.mpr ⟨by omega, by omega⟩) dL_law_722 ?_
    refine lv_topi (fun x_355 ex_355 => ?_)
    obtain rfl : x_326 = x_355 := ex_326.trans ex_355.symm
    refine lv_aload_n hx hb dL_law_723 rfl (lv_at hl 3 rfl) ?_
    refine lv_iload_n hx hb dL_law_724 rfl (lv_at hl 0 rfl) ?_
    refine lv_iconst (v := 4) hx hb dL_law_725 (by decide) ?_
    refine lv_iadd hx hb dL_law_726 ?_
    refine lv_topi (fun x_356 ex_356 => ?_)
    have zx_356 : x_356.toInt = i.toInt + 4 := by rw [ex_356]; exact i32_add rfl (by decide) (by omega) (by omega)
    obtain rfl : x_327 = x_356 := ex_327.trans ex_356.symm
    refine va_sld hx hb hX hbl hbA hW.2.2.2.1 (vp_in_iff.mpr ⟨by omega, by omega⟩) dL_law_727 ?_
    refine lv_topi (fun x_357 ex_357 => ?_)
    obtain rfl : x_328 = x_357 := ex_328.trans ex_357.symm
    refine lv_aload_n hx hb dL_law_728 rfl (lv_at hl 3 rfl) ?_
    refine lv_iload_n hx hb dL_law_729 rfl (lv_at hl 0 rfl) ?_
    refine lv_iconst (v := 5) hx hb dL_law_730 (by decide) ?_
    refine lv_iadd hx hb dL_law_731 ?_
    refine lv_topi (fun x_358 ex_358 => ?_)
    have zx_358 : x_358.toInt = i.toInt + 5 := by rw [ex_358]; exact i32_add rfl (by decide) (by omega) (by omega)
    obtain rfl : x_329 = x_358 := ex_329.trans ex_358.symm
    refine va_sld hx hb hX hbl hbA hW.2.2.2.1 (vp_in_iff.mpr ⟨by omega, by omega⟩) dL_law_732 ?_
    refine lv_topi (fun x_359 ex_359 => ?_)
    obtain rfl : x_330 = x_359 := ex_330.trans ex_359.symm
    have jn_741 : ∀ (xj_360 : Int32) (ls : Array Slot), 0 ≤ xj_360.toInt → xj_360.toInt ≤ 1 → (x_330.toInt = 0 ∧ xj_360.toInt = 0) ∨ (x_330.toInt ≠ 0 ∧ xj_360.toInt = 1) → lv_has ls 4 [(3, .int i), (2, .ref am), (1, .ref ax), (0, .ref b)] → W p l e room_1 s m #[Value.ref b] below meth c H locs (CC + 3) (SS + 30) (lw_Z below #[Value.ref b] s) (F0 m 741 ls [.int xj_360, .int x_328, .int x_326, .int x_324, .int x_322, .ref am]) := by
      intro xj_360 ls blxj_360 buxj_360 jcxj_360 hl
      obtain rfl : xj_331 = xj_360 := Int32.toInt_inj.mp (by omega)
      refine lv_aload_n hx hb dL_law_741 rfl (lv_at hl 3 rfl) ?_
      refine lv_iload_n hx hb dL_law_742 rfl (lv_at hl 0 rfl) ?_
      refine lv_bipush (v := 6) hx hb dL_law_743 (by decide) ?_
      refine lv_iadd hx hb dL_law_745 ?_
      refine lv_topi (fun x_361 ex_361 => ?_)
      have zx_361 : x_361.toInt = i.toInt + 6 := by rw [ex_361]; exact i32_add rfl (by decide) (by omega) (by omega)
      obtain rfl : x_332 = x_361 := ex_332.trans ex_361.symm
      refine va_sld hx hb hX hbl hbA hW.2.2.2.1 (vp_in_iff.mpr ⟨by omega, by omega⟩) dL_law_746 ?_
      refine lv_topi (fun x_362 ex_362 => ?_)
      obtain rfl : x_333 = x_362 := ex_333.trans ex_362.symm
      have hTo := hT
      refine hx_goi (hx_runV (As := [.int x_322, .int x_324, .int x_326, .int x_328, .int xj_331, .int x_333]) (rest := []) ⟨hx, hb, hml, hown, hts⟩ hW gm tt_10 (T := TX10) (N := 98) rfl (t_X10_file_v l dC dI dA L_334 h_335 H.size am x_322 x_324 x_326 x_328 xj_331 x_333 hT gm mh g_mh f_mh ml g_ml f_ml m_dead g_m_dead f_m_dead m_fou g_m_fou f_m_fou m_aga g_m_aga f_m_aga m_by g_m_by f_m_by m_sum g_m_sum f_m_sum m_fro g_m_fro f_m_fro m_fil g_m_fil f_m_fil m_nt g_m_nt f_m_nt m_wt g_m_wt f_m_wt m_be g_m_be f_m_be m_ad g_m_ad f_m_ad mr g_mr f_mr mn g_mn f_mn mp g_mp f_mp F_mh n_mh F_ml n_ml F_dead n_dead F_m_fou n_m_fou F_aga n_aga F_by n_by F_sum n_sum F_fro n_fro F_fil n_fil F_nt n_nt F_wt n_wt F_be n_be F_ad n_ad F_mr n_mr F_mn n_mn F_mp n_mp a0 f_m_acts c0 f_m_claims m0 f_m_heardMany np f_m_persons nw f_m_now A9 hCA9 hPL hHC ⟨by omega, by omega⟩) (cwV 6 hts (hx_gV kw_1589 kw_1586 kw_1587 kw_1588 kw_103) rfl rfl rfl (by decide +kernel) ⟨Nat.le_of_ble_eq_true rfl, Nat.le_of_ble_eq_true rfl⟩) rfl hl.1 rfl (Nat.le_of_ble_eq_true rfl) dL_law_747 ⟨(show CC + 3 + 0 ≤ 600000 from by omega), (show SS + 30 + 0 ≤ 7302250 from by omega)⟩) hW (fun r_365 L_363 h_364 H locs p_366 hW => ?_)
      obtain ⟨⟨w_368, w_369, w_370, w_371, w_372, w_373, w_374, w_375, w_376, w_377, w_378, w_379, fw_368, fw_369, fw_370, fw_371, fw_372, fw_373, fw_374, fw_375, fw_376, fw_377, fw_378, fw_379, hr_367⟩, hT, hs⟩ := p_366
      replace hT : hx_T T_tb L_363 h_364 := hT
      replace hs : hx_S T_tb [(10, 36), (72, 0), (73, 0), (74, 0), (75, 0), (76, 0), (77, 0), (78, 0), (79, 0), (81, 0), (82, 0), (83, 0), (84, 0), (85, 0), (87, 0)] L_334 h_335 L_363 h_364 := hs
      replace f_qa := (hs.o gx trivial rfl).2.trans f_qa
      replace f_qp := (hs.o gx trivial rfl).2.trans f_qp
      replace f_qc := (hs.o gx trivial rfl).2.trans f_qc
      replace f_qh := (hs.o gx trivial rfl).2.trans f_qh
      replace f_qw := (hs.o gx trivial rfl).2.trans f_qw
      replace f_ql := (hs.o g_qw trivial rfl).2.trans f_ql
      replace f_m_now := (hs.o gm trivial rfl).1.trans f_m_now
      replace f_m_persons := (hs.o gm trivial rfl).1.trans f_m_persons
      replace f_m_taped := (hs.o gm trivial rfl).1.trans f_m_taped
      replace f_m_acts := (hs.o gm trivial rfl).1.trans f_m_acts
      replace f_m_heardMany := (hs.o gm trivial rfl).1.trans f_m_heardMany
      replace f_m_lines := (hs.o gm trivial rfl).1.trans f_m_lines
      replace f_m_listed := (hs.o gm trivial rfl).1.trans f_m_listed
      replace f_m_walkedMany := (hs.o gm trivial rfl).1.trans f_m_walkedMany
      replace f_x_now := (hs.o gx trivial rfl).1.trans f_x_now
      replace f_x_personCount := (hs.o gx trivial rfl).1.trans f_x_personCount
      replace f_x_tapeLength := (hs.o gx trivial rfl).1.trans f_x_tapeLength
      replace f_x_actCount := (hs.o gx trivial rfl).1.trans f_x_actCount
      replace f_x_heardCount := (hs.o gx trivial rfl).1.trans f_x_heardCount
      replace f_mw := (hs.o gm trivial rfl).2.trans f_mw
      replace f_mr := (hs.o gm trivial rfl).2.trans f_mr
      replace f_mp := (hs.o gm trivial rfl).2.trans f_mp
      replace f_mn := (hs.o gm trivial rfl).2.trans f_mn
      replace f_ml := (hs.o gm trivial rfl).2.trans f_ml
      replace f_mh := (hs.o gm trivial rfl).2.trans f_mh
      replace f_mt := (hs.o gm trivial rfl).2.trans f_mt
      replace f_m_fou := (hs.o gm trivial rfl).2.trans f_m_fou
      replace f_qo_ln := (hs.o gx trivial rfl).2.trans f_qo_ln
      replace f_o_ln := (hs.o g_qo_ln trivial rfl).1.trans f_o_ln
      replace f_o_lsd := (hs.o g_qw trivial rfl).1.trans f_o_lsd
      replace f_o_wkm := (hs.o g_qw trivial rfl).1.trans f_o_wkm
      replace f_b_of := (hs.o g_qo_ln trivial rfl).2.trans f_b_of
      replace f_m_of := (hs.o gm trivial rfl).2.trans f_m_of
      replace f_b_wf := (hs.o g_qo_ln trivial rfl).2.trans f_b_wf
      replace f_m_wf := (hs.o gm trivial rfl).2.trans f_m_wf
      replace f_b_df := (hs.o g_qo_ln trivial rfl).2.trans f_b_df
      replace f_m_df := (hs.o gm trivial rfl).2.trans f_m_df
      replace f_b_kf := (hs.o g_qo_ln trivial rfl).2.trans f_b_kf
      replace f_m_kf := (hs.o gm trivial rfl).2.trans f_m_kf
      replace f_b_sf := (hs.o g_qo_ln trivial rfl).2.trans f_b_sf
      replace f_m_sf := (hs.o gm trivial rfl).2.trans f_m_sf
      replace f_b_bf := (hs.o g_qo_ln trivial rfl).2.trans f_b_bf
      replace f_m_lst := (hs.o gm trivial rfl).2.trans f_m_lst
      replace f_qtp := (hs.o gx trivial rfl).2.trans f_qtp
      replace f_m_tp := (hs.o gm trivial rfl).2.trans f_m_tp
      replace f_m_dead := (hs.o gm trivial rfl).2.trans f_m_dead
      replace f_m_isj := (hs.o gm trivial rfl).2.trans f_m_isj
      replace f_m_dox := (hs.o gm trivial rfl).2.trans f_m_dox
      replace f_m_doy := (hs.o gm trivial rfl).2.trans f_m_doy
      replace f_qlt := (hs.o g_qw trivial rfl).2.trans f_qlt
      replace f_qlf := (hs.o g_qw trivial rfl).2.trans f_qlf
      replace f_m_wkd := (hs.o gm trivial rfl).2.trans f_m_wkd
      replace f_m_aga := (hs.o gm trivial rfl).2.trans f_m_aga
      replace f_qwo := (hs.o gx trivial rfl).2.trans f_qwo
      replace f_m_ad := (hs.o gm trivial rfl).2.trans f_m_ad
      replace f_m_by := (hs.o gm trivial rfl).2.trans f_m_by
      replace f_m_ho := (hs.o gm trivial rfl).2.trans f_m_ho
      replace f_m_fc := (hs.o gm trivial rfl).2.trans f_m_fc
      replace f_m_nt := (hs.o gm trivial rfl).2.trans f_m_nt
      replace f_m_wt := (hs.o gm trivial rfl).2.trans f_m_wt
      replace f_m_be := (hs.o gm trivial rfl).2.trans f_m_be
      replace f_m_bor := (hs.o gm trivial rfl).2.trans f_m_bor
      replace f_m_kin := (hs.o gm trivial rfl).2.trans f_m_kin
      replace f_m_sum := (hs.o gm trivial rfl).2.trans f_m_sum
      replace f_m_fro := (hs.o gm trivial rfl).2.trans f_m_fro
      replace f_m_fil := (hs.o gm trivial rfl).2.trans f_m_fil
      replace f_m_jud := (hs.o gm trivial rfl).2.trans f_m_jud
      replace fw_340 := (hs.o gx trivial rfl).1.trans fw_340
      replace pf_qa : ∀ j : Nat, (j : Int) < (h_364.2.1 ax 6).toInt → h_364.2.2 qa j ≠ none := by
        intro j hj; rw [(hs.o gx trivial rfl).1] at hj; rw [(hs.a g_qa rfl j).2]; exact pf_qa j hj
      replace pf_qp : ∀ j : Nat, (j : Int) < (h_364.2.1 ax 8).toInt → h_364.2.2 qp j ≠ none := by
        intro j hj; rw [(hs.o gx trivial rfl).1] at hj; rw [(hs.a g_qp rfl j).2]; exact pf_qp j hj
      replace pf_qh : ∀ j : Nat, (j : Int) < (h_364.2.1 ax 13).toInt → h_364.2.2 qh j ≠ none := by
        intro j hj; rw [(hs.o gx trivial rfl).1] at hj; rw [(hs.a g_qh rfl j).2]; exact pf_qh j hj
      replace pf_ql : ∀ j : Nat, (j : Int) < (h_364.2.1 qw 0).toInt → h_364.2.2 ql j ≠ none := by
        intro j hj; rw [(hs.o g_qw trivial rfl).1] at hj; rw [(hs.a g_ql rfl j).2]; exact pf_ql j hj
      replace pf_339 : ∀ j : Nat, (j : Int) < (h_364.2.1 ax 11).toInt → h_364.2.2 qc j ≠ none := by
        intro j hj; rw [(hs.o gx trivial rfl).1] at hj; rw [(hs.a g_qc rfl j).2]; exact pf_339 j hj
      replace cl_lst : hx_col 8 h_364 ql 0 = c_lst := (hx_col_S hs hTo g_ql tt_40 tt_2 rfl rfl).trans cl_lst
      replace cl_dead : hx_col 40 h_364 qp 7 = c_dead := (hx_col_S hs hTo g_qp tt_44 tt_4 rfl rfl).trans cl_dead
      replace cl_isj : hx_col 40 h_364 qp 8 = c_isj := (hx_col_S hs hTo g_qp tt_44 tt_4 rfl rfl).trans cl_isj
      replace cl_dox : hx_col 40 h_364 qp 5 = c_dox := (hx_col_S hs hTo g_qp tt_44 tt_4 rfl rfl).trans cl_dox
      replace cl_doy : hx_col 40 h_364 qp 6 = c_doy := (hx_col_S hs hTo g_qp tt_44 tt_4 rfl rfl).trans cl_doy
      replace cl_bor : hx_col 40 h_364 qp 1 = F_bor := (hx_col_S hs hTo g_qp tt_44 tt_4 rfl rfl).trans cl_bor
      replace cl_kin : hx_col 40 h_364 qp 2 = F_kin := (hx_col_S hs hTo g_qp tt_44 tt_4 rfl rfl).trans cl_kin
      replace fw_341 : hx_col 100 h_364 qc 10 = w_341 := (hx_col_S hs hTo g_qc tt_45 tt_2 rfl rfl).trans fw_341
      replace fw_342 : hx_col 100 h_364 qc 9 = w_342 := (hx_col_S hs hTo g_qc tt_45 tt_2 rfl rfl).trans fw_342
      replace fw_343 : hx_col 100 h_364 qc 6 = w_343 := (hx_col_S hs hTo g_qc tt_45 tt_2 rfl rfl).trans fw_343
      replace fw_344 : hx_col 100 h_364 qc 7 = w_344 := (hx_col_S hs hTo g_qc tt_45 tt_2 rfl rfl).trans fw_344
      replace fw_345 : hx_col 100 h_364 qc 8 = w_345 := (hx_col_S hs hTo g_qc tt_45 tt_2 rfl rfl).trans fw_345
      replace fw_346 : hx_col 100 h_364 qc 11 = w_346 := (hx_col_S hs hTo g_qc tt_45 tt_2 rfl rfl).trans fw_346
      replace fw_347 : hx_col 100 h_364 qc 12 = w_347 := (hx_col_S hs hTo g_qc tt_45 tt_2 rfl rfl).trans fw_347
      replace nu_qp : hx_num 40 h_364 qp 0 (np.toInt) := hx_num_S hs hTo g_qp tt_44 tt_4 rfl rfl nu_qp
      replace nu_348 : hx_num 100 h_364 qc 0 (w_340.toInt) := hx_num_S hs hTo g_qc tt_45 tt_2 rfl rfl nu_348
      replace sb_349 : hx_LQ 8 100 h_364 ql qc := hx_LQ_S hs g_ql g_qc rfl rfl sb_349
      replace hRA9 : hv_RA h_364 qa qwo a0.toInt A9 := hv_RA_S hs hTo g_qa g_qwo tt_43 tt_0 rfl rfl rfl rfl rfl rfl (by omega) hRA9
      replace hDFN : hw_DF h_364 qc qp 2 agN w_340.toInt := hw_DF_S hs hTo g_qc g_qp tt_45 tt_2 rfl rfl rfl hDFN
      replace hDPN : hw_DF h_364 qc qp 1 byN w_340.toInt := hw_DF_S hs hTo g_qc g_qp tt_45 tt_2 rfl rfl rfl hDPN
      replace hACN : hv_AC h_364 qc plN w_340.toInt A9 := hv_AC_S hs hTo g_qc tt_45 tt_2 rfl tt_0 rfl rfl rfl rfl rfl rfl rfl hACN
      replace hFXN : hv_FX 8 4 h_364 qc cFN w_340.toInt := hv_FX_S hs hTo g_qc tt_45 tt_2 rfl rfl rfl rfl hFXN
      replace hBXN : hv_FX 3 5 h_364 qc bFN w_340.toInt := hv_FX_S hs hTo g_qc tt_45 tt_2 rfl rfl rfl rfl hBXN
      replace hHLN : hv_HL h_364 qh qc F_ho m0.toInt w_340.toInt := hv_HL_S hs g_qh g_qc rfl rfl hHLN
      replace n_mw : h_364.2.1 mw = F_mw := (funext fun j => (hs.a g_mw rfl j).1).trans n_mw
      replace n_mr : h_364.2.1 mr = F_mr := (funext fun j => (hs.a g_mr rfl j).1).trans n_mr
      replace n_mp : h_364.2.1 mp = F_mp := (funext fun j => (hs.a g_mp rfl j).1).trans n_mp
      replace n_mn : h_364.2.1 mn = F_mn := (funext fun j => (hs.a g_mn rfl j).1).trans n_mn
      replace n_mt : h_364.2.1 mt = F_mt := (funext fun j => (hs.a g_mt rfl j).1).trans n_mt
      replace n_b_of : h_364.2.1 b_of = B_of := (funext fun j => (hs.a g_b_of rfl j).1).trans n_b_of
      replace n_m_of : h_364.2.1 m_of = F_of := (funext fun j => (hs.a g_m_of rfl j).1).trans n_m_of
      replace n_b_wf : h_364.2.1 b_wf = B_wf := (funext fun j => (hs.a g_b_wf rfl j).1).trans n_b_wf
      replace n_m_wf : h_364.2.1 m_wf = F_wf := (funext fun j => (hs.a g_m_wf rfl j).1).trans n_m_wf
      replace n_b_df : h_364.2.1 b_df = B_df := (funext fun j => (hs.a g_b_df rfl j).1).trans n_b_df
      replace n_m_df : h_364.2.1 m_df = F_df := (funext fun j => (hs.a g_m_df rfl j).1).trans n_m_df
      replace n_b_kf : h_364.2.1 b_kf = B_kf := (funext fun j => (hs.a g_b_kf rfl j).1).trans n_b_kf
      replace n_m_kf : h_364.2.1 m_kf = F_kf := (funext fun j => (hs.a g_m_kf rfl j).1).trans n_m_kf
      replace n_b_sf : h_364.2.1 b_sf = B_sf := (funext fun j => (hs.a g_b_sf rfl j).1).trans n_b_sf
      replace n_m_sf : h_364.2.1 m_sf = F_sf := (funext fun j => (hs.a g_m_sf rfl j).1).trans n_m_sf
      replace n_b_bf : h_364.2.1 b_bf = bfL := (funext fun j => (hs.a g_b_bf rfl j).1).trans n_b_bf
      replace n_lst : h_364.2.1 m_lst = F_lst := (funext fun j => (hs.a g_m_lst rfl j).1).trans n_lst
      replace n_tp : h_364.2.1 m_tp = F_tp := (funext fun j => (hs.a g_m_tp rfl j).1).trans n_tp
      replace n_qtp : h_364.2.1 qtp = F_tp := (funext fun j => (hs.a g_qtp rfl j).1).trans n_qtp
      replace n_dead : h_364.2.1 m_dead = F_dead := (funext fun j => (hs.a g_m_dead rfl j).1).trans n_dead
      replace n_isj : h_364.2.1 m_isj = F_isj := (funext fun j => (hs.a g_m_isj rfl j).1).trans n_isj
      replace n_dox : h_364.2.1 m_dox = F_dox := (funext fun j => (hs.a g_m_dox rfl j).1).trans n_dox
      replace n_doy : h_364.2.1 m_doy = F_doy := (funext fun j => (hs.a g_m_doy rfl j).1).trans n_doy
      replace n_qlt : h_364.2.1 qlt = F_qlt := (funext fun j => (hs.a g_qlt rfl j).1).trans n_qlt
      replace n_m_wkd : h_364.2.1 m_wkd = F_m_wkd := (funext fun j => (hs.a g_m_wkd rfl j).1).trans n_m_wkd
      replace n_ad : h_364.2.1 m_ad = F_ad := (funext fun j => (hs.a g_m_ad rfl j).1).trans n_ad
      replace n_ho : h_364.2.1 m_ho = F_ho := (funext fun j => (hs.a g_m_ho rfl j).1).trans n_ho
      replace n_fc : h_364.2.1 m_fc = F_fc := (funext fun j => (hs.a g_m_fc rfl j).1).trans n_fc
      replace n_bor : h_364.2.1 m_bor = F_bor := (funext fun j => (hs.a g_m_bor rfl j).1).trans n_bor
      replace n_kin : h_364.2.1 m_kin = F_kin := (funext fun j => (hs.a g_m_kin rfl j).1).trans n_kin
      replace n_jud : h_364.2.1 m_jud = F_jud := (funext fun j => (hs.a g_m_jud rfl j).1).trans n_jud
      replace gx := gx.S hs
      replace gm := gm.S hs
      replace g_qa := g_qa.S hs
      replace g_qp := g_qp.S hs
      replace g_qc := g_qc.S hs
      replace g_qh := g_qh.S hs
      replace g_qw := g_qw.S hs
      replace g_ql := g_ql.S hs
      replace g_mw := g_mw.S hs
      replace g_mr := g_mr.S hs
      replace g_mp := g_mp.S hs
      replace g_mn := g_mn.S hs
      replace g_ml := g_ml.S hs
      replace g_mh := g_mh.S hs
      replace g_mt := g_mt.S hs
      replace g_m_fou := g_m_fou.S hs
      replace g_qo_ln := g_qo_ln.S hs
      replace g_b_of := g_b_of.S hs
      replace g_m_of := g_m_of.S hs
      replace g_b_wf := g_b_wf.S hs
      replace g_m_wf := g_m_wf.S hs
      replace g_b_df := g_b_df.S hs
      replace g_m_df := g_m_df.S hs
      replace g_b_kf := g_b_kf.S hs
      replace g_m_kf := g_m_kf.S hs
      replace g_b_sf := g_b_sf.S hs
      replace g_m_sf := g_m_sf.S hs
      replace g_b_bf := g_b_bf.S hs
      replace g_m_lst := g_m_lst.S hs
      replace g_qtp := g_qtp.S hs
      replace g_m_tp := g_m_tp.S hs
      replace g_m_dead := g_m_dead.S hs
      replace g_m_isj := g_m_isj.S hs
      replace g_m_dox := g_m_dox.S hs
      replace g_m_doy := g_m_doy.S hs
      replace g_qlt := g_qlt.S hs
      replace g_qlf := g_qlf.S hs
      replace g_m_wkd := g_m_wkd.S hs
      replace g_m_aga := g_m_aga.S hs
      replace g_qwo := g_qwo.S hs
      replace g_m_ad := g_m_ad.S hs
      replace g_m_by := g_m_by.S hs
      replace g_m_ho := g_m_ho.S hs
      replace g_m_fc := g_m_fc.S hs
      replace g_m_nt := g_m_nt.S hs
      replace g_m_wt := g_m_wt.S hs
      replace g_m_be := g_m_be.S hs
      replace g_m_bor := g_m_bor.S hs
      replace g_m_kin := g_m_kin.S hs
      replace g_m_sum := g_m_sum.S hs
      replace g_m_fro := g_m_fro.S hs
      replace g_m_fil := g_m_fil.S hs
      replace g_m_jud := g_m_jud.S hs
      have fw_368 : h_364.2.1 am 36 = w_368 := fw_368
      have bw_368 := hT.gi gm tt_10 (k := 36) rfl
      rw [fw_368] at bw_368
      have bw_368 : 0 ≤ w_368.toInt ∧ w_368.toInt ≤ 100 := bw_368
      have fw_369 : h_364.2.1 mh = w_369 := fw_369
      have fw_370 : h_364.2.1 ml = w_370 := fw_370
      have fw_371 : h_364.2.1 m_fou = w_371 := fw_371
      have fw_372 : h_364.2.1 m_aga = w_372 := fw_372
      have fw_373 : h_364.2.1 m_by = w_373 := fw_373
      have fw_374 : h_364.2.1 m_sum = w_374 := fw_374
      have fw_375 : h_364.2.1 m_fro = w_375 := fw_375
      have fw_376 : h_364.2.1 m_fil = w_376 := fw_376
      have fw_377 : h_364.2.1 m_nt = w_377 := fw_377
      have fw_378 : h_364.2.1 m_wt = w_378 := fw_378
      have fw_379 : h_364.2.1 m_be = w_379 := fw_379
      refine lv_pop hx hb dL_law_750 rfl ?_
      refine lv_goto (tgt := 1379) hx hb dL_law_751 (by decide) ?_
      obtain ⟨heq, hq_c0⟩ := hx_fk (by omega) eq_dead hr_338.1 hr_367.2.2.1
      have hq_fou := hx_cdk heq hr_338.2.1 hr_367.2.2.2.1 eq_fou
      have hq_tri := hx_cdz hr_338.2.2.1 eq_tri z_tri
      have hq_sum := hv_cdf heq hr_338.2.2.2.1 hr_367.2.2.2.2.2.2.2.2.1
      have hq_fro := hv_cdf heq hr_338.2.2.2.2.1 hr_367.2.2.2.2.2.2.2.2.2.1
      have hq_fil := hv_cdf heq hr_338.2.2.2.2.2.1 hr_367.2.2.2.2.2.2.2.2.2.2.1
      have hq_hea := hv_cdf heq hr_338.2.2.2.2.2.2.1 hr_367.2.2.2.2.2.2.1
      have hq_jud := hv_cdfz hr_338.2.2.2.2.2.2.2.1 z_jud
      obtain ⟨pvM, hpvM, hplM⟩ := hr_367.2.2.2.2.2.2.2.2.2.2.2.2.2.1; obtain rfl : pvN = pvM := Int32.toInt_inj.mp (hpvN.trans hpvM.symm); have hq_pl := hw_UP_u heq hplN hplM
      have hFRn := hv_FR_f hFR9 (by omega) heq hFUN hr_367.2.2.2.2.2.2.2.2.2.2.2.1 hr_367.2.2.2.2.2.2.2.2.2.2.2.2.1 hr_367.2.2.2.2.2.2.2.2.1 hr_367.2.2.2.2.2.2.1 (n1 := w_340.toInt) (by rw [← heq]; rcases hr_338.1 with ⟨z, w, _⟩ | ⟨z, w, _⟩; exact Or.inl ⟨z, w⟩; exact Or.inr ⟨z, w⟩)
      have hHOn := hv_HO_c hHO9 (by omega) (n1 := w_368.toInt) (by rcases hr_367.2.2.2.2.1 with ⟨z, w, _⟩ | ⟨z, w, _⟩; exact Or.inl ⟨z, w⟩; exact Or.inr ⟨z, w⟩)
      refine W.widen (k := CC + 3) (n := SS + 179) (by omega) (by omega) ?_
      exact kk L_363 h_364 H locs ls hW ⟨hT, gx, gm, ⟨f_x_now.trans f_m_now.symm, f_x_personCount.trans f_m_persons.symm, (fw_340.trans hq_c0).trans fw_368.symm, f_x_tapeLength.trans f_m_taped.symm, f_x_actCount.trans f_m_acts.symm, f_x_heardCount.trans f_m_heardMany.symm, hx_ob f_qo_ln (f_o_ln.trans f_m_lines.symm), hx_ob f_qw (f_o_lsd.trans f_m_listed.symm), hx_ob f_qw (f_o_wkm.trans f_m_walkedMany.symm), hx_ob f_qp (by rw [f_x_personCount]; exact nu_qp), hx_ob f_qc (by rw [fw_340]; exact nu_348), (fun b a r hb ha hr => by obtain rfl : qo_ln = b := Option.some.inj (f_qo_ln.symm.trans hb); obtain rfl : b_of = a := Option.some.inj (f_b_of.symm.trans ha); obtain rfl : m_of = r := Option.some.inj (f_m_of.symm.trans hr); rw [n_b_of, n_m_of, f_o_ln]; exact eb_of), (fun b a r hb ha hr => by obtain rfl : qo_ln = b := Option.some.inj (f_qo_ln.symm.trans hb); obtain rfl : b_wf = a := Option.some.inj (f_b_wf.symm.trans ha); obtain rfl : m_wf = r := Option.some.inj (f_m_wf.symm.trans hr); rw [n_b_wf, n_m_wf, f_o_ln]; exact eb_wf), (fun b a r hb ha hr => by obtain rfl : qo_ln = b := Option.some.inj (f_qo_ln.symm.trans hb); obtain rfl : b_df = a := Option.some.inj (f_b_df.symm.trans ha); obtain rfl : m_df = r := Option.some.inj (f_m_df.symm.trans hr); rw [n_b_df, n_m_df, f_o_ln]; exact eb_df), (fun b a r hb ha hr => by obtain rfl : qo_ln = b := Option.some.inj (f_qo_ln.symm.trans hb); obtain rfl : b_kf = a := Option.some.inj (f_b_kf.symm.trans ha); obtain rfl : m_kf = r := Option.some.inj (f_m_kf.symm.trans hr); rw [n_b_kf, n_m_kf, f_o_ln]; exact eb_kf), (fun b a r hb ha hr => by obtain rfl : qo_ln = b := Option.some.inj (f_qo_ln.symm.trans hb); obtain rfl : b_sf = a := Option.some.inj (f_b_sf.symm.trans ha); obtain rfl : m_sf = r := Option.some.inj (f_m_sf.symm.trans hr); rw [n_b_sf, n_m_sf, f_o_ln]; exact eb_sf), (fun b a r hb ha hr => by obtain rfl : qo_ln = b := Option.some.inj (f_qo_ln.symm.trans hb); obtain rfl : b_df = a := Option.some.inj (f_b_df.symm.trans ha); obtain rfl : b_bf = r := Option.some.inj (f_b_bf.symm.trans hr); rw [n_b_df, n_b_bf, f_o_ln]; exact ⟨hBD, hDY⟩), (fun w q c hw hq hc => by obtain rfl : qw = w := Option.some.inj (f_qw.symm.trans hw); obtain rfl : ql = q := Option.some.inj (f_ql.symm.trans hq); obtain rfl : qc = c := Option.some.inj (f_qc.symm.trans hc); exact sb_349), (fun w q r hw hq hr => by obtain rfl : qw = w := Option.some.inj (f_qw.symm.trans hw); obtain rfl : ql = q := Option.some.inj (f_ql.symm.trans hq); obtain rfl : m_lst = r := Option.some.inj (f_m_lst.symm.trans hr); rw [cl_lst, n_lst]; exact eq_lst), (fun w q r hw hq hr => by obtain rfl : qw = w := Option.some.inj (f_qw.symm.trans hw); obtain rfl : qlt = q := Option.some.inj (f_qlt.symm.trans hq); obtain rfl : m_wkd = r := Option.some.inj (f_m_wkd.symm.trans hr); rw [n_qlt, n_m_wkd, f_o_wkm]; exact eb_wkd), (fun c q a hc hq ha => by obtain rfl : qc = c := Option.some.inj (f_qc.symm.trans hc); obtain rfl : qp = q := Option.some.inj (f_qp.symm.trans hq); obtain rfl : m_aga = a := Option.some.inj (f_m_aga.symm.trans ha); rw [fw_372, fw_340]; exact hw_DF_e hDFN (hw_UP_u heq hagN hr_367.2.2.2.2.2.1) rfl), (fun q r hq hr => by obtain rfl : qtp = q := Option.some.inj (f_qtp.symm.trans hq); obtain rfl : m_tp = r := Option.some.inj (f_m_tp.symm.trans hr); exact n_qtp.trans n_tp.symm), (fun q w a b c d e p hq hw ha hb hc hd he hp => by obtain rfl : qa = q := Option.some.inj (f_qa.symm.trans hq); obtain rfl : qwo = w := Option.some.inj (f_qwo.symm.trans hw); obtain rfl : m_ad = a := Option.some.inj (f_m_ad.symm.trans ha); obtain rfl : mr = b := Option.some.inj (f_mr.symm.trans hb); obtain rfl : mn = c := Option.some.inj (f_mn.symm.trans hc); obtain rfl : mp = d := Option.some.inj (f_mp.symm.trans hd); obtain rfl : qc = e := Option.some.inj (f_qc.symm.trans he); obtain rfl : ml = p := Option.some.inj (f_ml.symm.trans hp); exact ⟨_, by rw [f_x_actCount]; exact hRA9, by rw [f_x_actCount, n_ad, n_mr, n_mn, n_mp]; exact hCA9, by rw [fw_370, fw_340]; exact hv_AC_e hACN hq_pl rfl rfl, hAB⟩), (fun c q a hc hq ha => by obtain rfl : qc = c := Option.some.inj (f_qc.symm.trans hc); obtain rfl : qp = q := Option.some.inj (f_qp.symm.trans hq); obtain rfl : m_by = a := Option.some.inj (f_m_by.symm.trans ha); rw [fw_373, fw_340]; exact hw_DF_e hDPN (hw_UP_u heq hbyN hr_367.2.2.2.2.2.2.2.1) rfl), (fun q c a hq hc ha => by obtain rfl : qh = q := Option.some.inj (f_qh.symm.trans hq); obtain rfl : qc = c := Option.some.inj (f_qc.symm.trans hc); obtain rfl : m_ho = a := Option.some.inj (f_m_ho.symm.trans ha); rw [n_ho, f_x_heardCount, fw_340]; exact hv_HL_e hHLN rfl rfl rfl), (fun a b ha hb => by obtain rfl : m_ho = a := Option.some.inj (f_m_ho.symm.trans ha); obtain rfl : mh = b := Option.some.inj (f_mh.symm.trans hb); rw [n_ho, fw_369, f_m_heardMany, fw_368]; exact hHOn), (fun c a b d e f hc ha hb hd he hf => by obtain rfl : qc = c := Option.some.inj (f_qc.symm.trans hc); obtain rfl : m_fc = a := Option.some.inj (f_m_fc.symm.trans ha); obtain rfl : m_nt = b := Option.some.inj (f_m_nt.symm.trans hb); obtain rfl : m_wt = d := Option.some.inj (f_m_wt.symm.trans hd); obtain rfl : m_sum = e := Option.some.inj (f_m_sum.symm.trans he); obtain rfl : mh = f := Option.some.inj (f_mh.symm.trans hf); exact ⟨cFN, by rw [fw_340]; exact hFXN, by rw [n_fc, fw_377, fw_378, fw_374, fw_369, fw_340]; exact hFRn⟩), (fun c a hc ha => by obtain rfl : qc = c := Option.some.inj (f_qc.symm.trans hc); obtain rfl : m_be = a := Option.some.inj (f_m_be.symm.trans ha); rw [fw_379, fw_340]; exact hv_FX_e hBXN (hv_BU_u heq hBUN hr_367.2.2.2.2.2.2.2.2.2.2.2.2.2.2) rfl), hx_ob2 f_qp f_m_bor (cl_bor.trans n_bor.symm), hx_ob2 f_qp f_m_kin (cl_kin.trans n_kin.symm), hx_ob2 f_qc f_m_sum ((fw_343.trans hq_sum).trans fw_374.symm), hx_ob2 f_qc f_m_fro ((fw_344.trans hq_fro).trans fw_375.symm), hx_ob2 f_qc f_m_fil ((fw_345.trans hq_fil).trans fw_376.symm), hx_ob2 f_qc f_mh ((fw_346.trans hq_hea).trans fw_369.symm), hx_ob2 f_qc f_m_jud ((fw_347.trans hq_jud).trans n_jud.symm), hx_ob2 f_qp f_m_dead (by rw [cl_dead, n_dead]; exact eq_dead), hx_ob2 f_qp f_m_isj (by rw [cl_isj, n_isj]; exact eq_isj), hx_ob2 f_qp f_m_dox (by rw [cl_dox, n_dox]; exact eq_dox), hx_ob2 f_qp f_m_doy (by rw [cl_doy, n_doy]; exact eq_doy), hx_ob2 f_qc f_m_fou (by rw [fw_341, fw_371]; exact hq_fou), hx_ob2 f_qc f_mt (by rw [fw_342, n_mt]; exact hq_tri), trivial⟩, ⟨hx_ob f_qa pf_qa, hx_ob f_qp pf_qp, hx_ob f_qc pf_339, hx_ob f_qh pf_qh, (fun w q hw hq => by obtain rfl : qw = w := Option.some.inj (f_qw.symm.trans hw); obtain rfl : ql = q := Option.some.inj (f_ql.symm.trans hq); exact pf_ql)⟩, ⟨hx_ob f_mw (by rw [n_mw]; exact hwd), hx_ob f_mr (by rw [n_mr, f_m_acts]; exact hWK), hx_ob2 f_mp f_mn (by rw [n_mp, n_mn, f_m_acts]; exact hRP), hx_ob f_ml (by rw [fw_370, fw_368, f_m_acts]; exact hr_367.2.1), hx_ob f_mh (by rw [fw_369, f_m_heardMany, fw_368]; exact hr_367.1), hx_ob f_mt (by rw [n_mt]; exact (hx_TR_le hTR (by omega))), hx_ob2 f_mh f_m_fou (by rw [fw_369, fw_371, fw_368]; exact (hx_HF_f hHF (by omega) hr_367.2.2.2.2.1))⟩⟩ hl
    refine hb_if_eq (zx := x_330.toInt) (tgt := 740) hx hb rfl dL_law_733 (by decide) (fun c_380 => ?_) (fun c_380 => ?_)
    · skip
      refine lv_iconst (v := 0) hx hb dL_law_740 (by decide) ?_
      have zj_741 : (0 : Int32).toInt = 0 := by decide
      exact jn_741 (0 : Int32) ls (by decide) (by decide) (by omega) hl
    · skip
      refine lv_iconst (v := 1) hx hb dL_law_736 (by decide) ?_
      refine lv_goto (tgt := 741) hx hb dL_law_737 (by decide) ?_
      have zj_741 : (1 : Int32).toInt = 1 := by decide
      exact jn_741 (1 : Int32) ls (by decide) (by decide) (by omega) hl
  refine hb_if_eq (zx := x_330.toInt) (tgt := 696) hx hb rfl dL_law_689 (by decide) (fun c_381 => ?_) (fun c_381 => ?_)
  · skip
    refine lv_iconst (v := 0) hx hb dL_law_696 (by decide) ?_
    have zj_697 : (0 : Int32).toInt = 0 := by decide
    exact jn_697 (0 : Int32) ls (by decide) (by decide) (by omega) hl
  · skip
    refine lv_iconst (v := 1) hx hb dL_law_692 (by decide) ?_
    refine lv_goto (tgt := 697) hx hb dL_law_693 (by decide) ?_
    have zj_697 : (1 : Int32).toInt = 1 := by decide
    exact jn_697 (1 : Int32) ls (by decide) (by decide) (by omega) hl

set_option maxHeartbeats 4000000 in
set_option maxRecDepth 100000 in
theorem law_case_12 {p : Program} {e : Env} {s : State} {m : MethodId} {below : List Frame} {meth : Method} {c : Code} (l : Launch) {b LN : Nat} {xs : Nat → Int32} (hx : p.tables.exec = Jvm.exec) (hb : c.code = code) (hr : meth.sig.returnType = ret) (hlocks : meth.locks = false) (hml : c.maxLocals = 4) (hown : s.vm.findClass "SmallCourtLaw" = some m.cls) (hts : ∀ w ∈ hx_all, w.before #[Value.ref b] s = true) (hX : va_X b LN xs s s.heap) (hbl : b < s.heap.size) (hbA : ¬ s.heap.size ≤ b) (hLN : LN ≤ 3584) (dC : Nat → ClassId) (dI : Nat → Nat → Nat) (dA : Nat → ClassId) (b0 : hx_z) (ax am : Nat) (T1 : Int) (hT0 : 0 ≤ T1) (hT1 : T1 ≤ 511) (i : Int32) (hi0 : 0 ≤ i.toInt) (hiL : i.toInt + 7 ≤ LN) (CC SS : Nat) (hCC : CC + 3 ≤ 600000) (hSS : SS + 179 ≤ 7302250) (L1 : List Nat) (hl1 : hx_h) (H : Heap) (locs : List Loc) (ls : Array Slot) (hW : hx_W T_tb (P_ty dA) (dC, dI) vwCl (fun q : Nat => s.heap.size ≤ q) s.heap L1 hl1 s H locs) (hZ : hx_Xt (fun q : Nat => s.heap.size ≤ q) b0 s) (hI : hx_IV T1 ax am L1 hl1) (hl : lv_has ls 4 [(3, .int i), (2, .ref am), (1, .ref ax), (0, .ref b)]) (kk : ∀ (L2 : List Nat) (h2 : hx_h) (H2 : Heap) (locs2 : List Loc) (ls2 : Array Slot), hx_W T_tb (P_ty dA) (dC, dI) vwCl (fun q : Nat => s.heap.size ≤ q) s.heap L2 h2 s H2 locs2 → hx_IV (T1 + 1) ax am L2 h2 → lv_has ls2 4 [(3, .int i), (2, .ref am), (1, .ref ax), (0, .ref b)] → W p l e room_1 s m #[Value.ref b] below meth c H2 locs2 (CC + 3) (SS + 179) (lw_Z below #[Value.ref b] s) (F0 m 1379 ls2 [])) : W p l e room_1 s m #[Value.ref b] below meth c H locs CC SS (lw_Z below #[Value.ref b] s) (F0 m 754 ls []) := by
  obtain ⟨hT, gx, gm, ⟨he_nw, he_np, he_c0, he_tl, he_a0, he_m0, ho_ln, ho_lsd, ho_wkm, hn_qp, hn_qc, hk_of, hk_wf, hk_df, hk_kf, hk_sf, hkBD, hLQ, hLE, hkWD, hkDF, hkTP, hkAC, hkDP, hkHL, hkHO, hkFX, hkBX, hf_bor, hf_kin, hf_sum, hf_fro, hf_fil, hf_hea, hf_jud, hc_dead, hc_isj, hc_dox, hc_doy, hc_fou, hc_tri, -⟩, ⟨ia, ip, ic, ih, il⟩, ⟨jw, jr, jp, jl, jh, jt, jf⟩⟩ := hI
  obtain ⟨qa, f_qa, g_qa⟩ := hx_rf hT gx tt_9 (k := 5) (u := 43) rfl
  have pf_qa := ia qa f_qa
  obtain ⟨qp, f_qp, g_qp⟩ := hx_rf hT gx tt_9 (k := 7) (u := 44) rfl
  have pf_qp := ip qp f_qp
  obtain ⟨qc, f_qc, g_qc⟩ := hx_rf hT gx tt_9 (k := 10) (u := 45) rfl
  have pf_qc := ic qc f_qc
  obtain ⟨qh, f_qh, g_qh⟩ := hx_rf hT gx tt_9 (k := 12) (u := 46) rfl
  have pf_qh := ih qh f_qh
  obtain ⟨qw, f_qw, g_qw⟩ := hx_rf hT gx tt_9 (k := 19) (u := 8) rfl
  obtain ⟨ql, f_ql, g_ql⟩ := hx_rf hT g_qw tt_8 (k := 3) (u := 40) rfl
  have pf_ql := il qw ql f_qw f_ql
  obtain ⟨nw, f_m_now⟩ : ∃ y : Int32, hl1.2.1 am 0 = y := ⟨_, rfl⟩
  have b_nw := hT.gi gm tt_10 (k := 0) rfl
  rw [f_m_now] at b_nw
  have b_nw : 0 ≤ nw.toInt ∧ nw.toInt ≤ 7999 := b_nw
  obtain ⟨np, f_m_persons⟩ : ∃ y : Int32, hl1.2.1 am 20 = y := ⟨_, rfl⟩
  have b_np := hT.gi gm tt_10 (k := 20) rfl
  rw [f_m_persons] at b_np
  have b_np : 0 ≤ np.toInt ∧ np.toInt ≤ 40 := b_np
  obtain ⟨c0, f_m_claims⟩ : ∃ y : Int32, hl1.2.1 am 36 = y := ⟨_, rfl⟩
  have b_c0 := hT.gi gm tt_10 (k := 36) rfl
  rw [f_m_claims] at b_c0
  have b_c0 : 0 ≤ c0.toInt ∧ c0.toInt ≤ 100 := b_c0
  obtain ⟨tl, f_m_taped⟩ : ∃ y : Int32, hl1.2.1 am 7 = y := ⟨_, rfl⟩
  have b_tl := hT.gi gm tt_10 (k := 7) rfl
  rw [f_m_taped] at b_tl
  have b_tl : 0 ≤ tl.toInt ∧ tl.toInt ≤ 400 := b_tl
  obtain ⟨a0, f_m_acts⟩ : ∃ y : Int32, hl1.2.1 am 1 = y := ⟨_, rfl⟩
  have b_a0 := hT.gi gm tt_10 (k := 1) rfl
  rw [f_m_acts] at b_a0
  have b_a0 : 0 ≤ a0.toInt ∧ a0.toInt ≤ 8 := b_a0
  obtain ⟨m0, f_m_heardMany⟩ : ∃ y : Int32, hl1.2.1 am 57 = y := ⟨_, rfl⟩
  have b_m0 := hT.gi gm tt_10 (k := 57) rfl
  rw [f_m_heardMany] at b_m0
  have b_m0 : 0 ≤ m0.toInt ∧ m0.toInt ≤ 100 := b_m0
  obtain ⟨ln, f_m_lines⟩ : ∃ y : Int32, hl1.2.1 am 29 = y := ⟨_, rfl⟩
  have b_ln := hT.gi gm tt_10 (k := 29) rfl
  rw [f_m_lines] at b_ln
  have b_ln : 0 ≤ ln.toInt ∧ ln.toInt ≤ 400 := b_ln
  obtain ⟨lsd, f_m_listed⟩ : ∃ y : Int32, hl1.2.1 am 90 = y := ⟨_, rfl⟩
  have b_lsd := hT.gi gm tt_10 (k := 90) rfl
  rw [f_m_listed] at b_lsd
  have b_lsd : 0 ≤ lsd.toInt ∧ lsd.toInt ≤ 8 := b_lsd
  obtain ⟨wkm, f_m_walkedMany⟩ : ∃ y : Int32, hl1.2.1 am 92 = y := ⟨_, rfl⟩
  have b_wkm := hT.gi gm tt_10 (k := 92) rfl
  rw [f_m_walkedMany] at b_wkm
  have b_wkm : 0 ≤ wkm.toInt ∧ wkm.toInt ≤ 8 := b_wkm
  have f_x_now : hl1.2.1 ax 2 = nw := he_nw.trans f_m_now
  have f_x_personCount : hl1.2.1 ax 8 = np := he_np.trans f_m_persons
  have f_x_claimCount : hl1.2.1 ax 11 = c0 := he_c0.trans f_m_claims
  have f_x_tapeLength : hl1.2.1 ax 1 = tl := he_tl.trans f_m_taped
  have f_x_actCount : hl1.2.1 ax 6 = a0 := he_a0.trans f_m_acts
  have f_x_heardCount : hl1.2.1 ax 13 = m0 := he_m0.trans f_m_heardMany
  obtain ⟨mw, f_mw, g_mw⟩ := hx_rf hT gm tt_10 (k := 19) (u := 57) rfl
  obtain ⟨F_mw, n_mw⟩ : ∃ g : Nat → Int32, hl1.2.1 mw = g := ⟨_, rfl⟩
  obtain ⟨mr, f_mr, g_mr⟩ := hx_rf hT gm tt_10 (k := 3) (u := 50) rfl
  obtain ⟨F_mr, n_mr⟩ : ∃ g : Nat → Int32, hl1.2.1 mr = g := ⟨_, rfl⟩
  obtain ⟨mp, f_mp, g_mp⟩ := hx_rf hT gm tt_10 (k := 5) (u := 52) rfl
  obtain ⟨F_mp, n_mp⟩ : ∃ g : Nat → Int32, hl1.2.1 mp = g := ⟨_, rfl⟩
  obtain ⟨mn, f_mn, g_mn⟩ := hx_rf hT gm tt_10 (k := 4) (u := 51) rfl
  obtain ⟨F_mn, n_mn⟩ : ∃ g : Nat → Int32, hl1.2.1 mn = g := ⟨_, rfl⟩
  obtain ⟨ml, f_ml, g_ml⟩ := hx_rf hT gm tt_10 (k := 44) (u := 79) rfl
  obtain ⟨F_ml, n_ml⟩ : ∃ g : Nat → Int32, hl1.2.1 ml = g := ⟨_, rfl⟩
  obtain ⟨mh, f_mh, g_mh⟩ := hx_rf hT gm tt_10 (k := 47) (u := 82) rfl
  obtain ⟨F_mh, n_mh⟩ : ∃ g : Nat → Int32, hl1.2.1 mh = g := ⟨_, rfl⟩
  obtain ⟨mt, f_mt, g_mt⟩ := hx_rf hT gm tt_10 (k := 45) (u := 80) rfl
  obtain ⟨F_mt, n_mt⟩ : ∃ g : Nat → Int32, hl1.2.1 mt = g := ⟨_, rfl⟩
  obtain ⟨m_fou, f_m_fou, g_m_fou⟩ := hx_rf hT gm tt_10 (k := 46) (u := 81) rfl
  obtain ⟨F_m_fou, n_m_fou⟩ : ∃ g : Nat → Int32, hl1.2.1 m_fou = g := ⟨_, rfl⟩
  obtain ⟨qo_ln, f_qo_ln, g_qo_ln⟩ := hx_rf hT gx tt_9 (k := 9) (u := 1) rfl
  have f_o_ln : hl1.2.1 qo_ln 0 = ln := (ho_ln qo_ln f_qo_ln).trans f_m_lines
  have f_o_lsd : hl1.2.1 qw 0 = lsd := (ho_lsd qw f_qw).trans f_m_listed
  have f_o_wkm : hl1.2.1 qw 1 = wkm := (ho_wkm qw f_qw).trans f_m_walkedMany
  have nu_qp := hn_qp qp f_qp; rw [f_x_personCount] at nu_qp
  have nu_qc := hn_qc qc f_qc; rw [f_x_claimCount] at nu_qc
  obtain ⟨b_of, f_b_of, g_b_of⟩ := hx_rf hT g_qo_ln tt_1 (k := 1) (u := 13) rfl
  obtain ⟨B_of, n_b_of⟩ : ∃ g : Nat → Int32, hl1.2.1 b_of = g := ⟨_, rfl⟩
  obtain ⟨m_of, f_m_of, g_m_of⟩ := hx_rf hT gm tt_10 (k := 30) (u := 66) rfl
  obtain ⟨F_of, n_m_of⟩ : ∃ g : Nat → Int32, hl1.2.1 m_of = g := ⟨_, rfl⟩
  have eb_of := hk_of qo_ln b_of m_of f_qo_ln f_b_of f_m_of; rw [n_b_of, n_m_of, f_o_ln] at eb_of
  obtain ⟨b_wf, f_b_wf, g_b_wf⟩ := hx_rf hT g_qo_ln tt_1 (k := 2) (u := 14) rfl
  obtain ⟨B_wf, n_b_wf⟩ : ∃ g : Nat → Int32, hl1.2.1 b_wf = g := ⟨_, rfl⟩
  obtain ⟨m_wf, f_m_wf, g_m_wf⟩ := hx_rf hT gm tt_10 (k := 31) (u := 67) rfl
  obtain ⟨F_wf, n_m_wf⟩ : ∃ g : Nat → Int32, hl1.2.1 m_wf = g := ⟨_, rfl⟩
  have eb_wf := hk_wf qo_ln b_wf m_wf f_qo_ln f_b_wf f_m_wf; rw [n_b_wf, n_m_wf, f_o_ln] at eb_wf
  obtain ⟨b_df, f_b_df, g_b_df⟩ := hx_rf hT g_qo_ln tt_1 (k := 3) (u := 15) rfl
  obtain ⟨B_df, n_b_df⟩ : ∃ g : Nat → Int32, hl1.2.1 b_df = g := ⟨_, rfl⟩
  obtain ⟨m_df, f_m_df, g_m_df⟩ := hx_rf hT gm tt_10 (k := 32) (u := 68) rfl
  obtain ⟨F_df, n_m_df⟩ : ∃ g : Nat → Int32, hl1.2.1 m_df = g := ⟨_, rfl⟩
  have eb_df := hk_df qo_ln b_df m_df f_qo_ln f_b_df f_m_df; rw [n_b_df, n_m_df, f_o_ln] at eb_df
  obtain ⟨b_kf, f_b_kf, g_b_kf⟩ := hx_rf hT g_qo_ln tt_1 (k := 4) (u := 16) rfl
  obtain ⟨B_kf, n_b_kf⟩ : ∃ g : Nat → Int32, hl1.2.1 b_kf = g := ⟨_, rfl⟩
  obtain ⟨m_kf, f_m_kf, g_m_kf⟩ := hx_rf hT gm tt_10 (k := 33) (u := 69) rfl
  obtain ⟨F_kf, n_m_kf⟩ : ∃ g : Nat → Int32, hl1.2.1 m_kf = g := ⟨_, rfl⟩
  have eb_kf := hk_kf qo_ln b_kf m_kf f_qo_ln f_b_kf f_m_kf; rw [n_b_kf, n_m_kf, f_o_ln] at eb_kf
  obtain ⟨b_sf, f_b_sf, g_b_sf⟩ := hx_rf hT g_qo_ln tt_1 (k := 5) (u := 17) rfl
  obtain ⟨B_sf, n_b_sf⟩ : ∃ g : Nat → Int32, hl1.2.1 b_sf = g := ⟨_, rfl⟩
  obtain ⟨m_sf, f_m_sf, g_m_sf⟩ := hx_rf hT gm tt_10 (k := 34) (u := 70) rfl
  obtain ⟨F_sf, n_m_sf⟩ : ∃ g : Nat → Int32, hl1.2.1 m_sf = g := ⟨_, rfl⟩
  have eb_sf := hk_sf qo_ln b_sf m_sf f_qo_ln f_b_sf f_m_sf; rw [n_b_sf, n_m_sf, f_o_ln] at eb_sf
  obtain ⟨b_bf, f_b_bf, g_b_bf⟩ := hx_rf hT g_qo_ln tt_1 (k := 6) (u := 18) rfl
  obtain ⟨bfL, n_b_bf⟩ : ∃ g : Nat → Int32, hl1.2.1 b_bf = g := ⟨_, rfl⟩
  obtain ⟨hBD, hDY⟩ := hkBD qo_ln b_df b_bf f_qo_ln f_b_df f_b_bf; rw [n_b_df, n_b_bf, f_o_ln] at hBD; rw [n_b_df, f_o_ln] at hDY
  have hBDm := hy_BD_c eb_df hBD
  have hDYm : hy_DY F_df ln.toInt.toNat := fun x hx => by rw [← eb_df x hx]; exact hDY x hx
  have sb_list := hLQ qw ql qc f_qw f_ql f_qc
  obtain ⟨m_lst, f_m_lst, g_m_lst⟩ := hx_rf hT gm tt_10 (k := 91) (u := 112) rfl
  obtain ⟨F_lst, n_lst⟩ : ∃ g : Nat → Int32, hl1.2.1 m_lst = g := ⟨_, rfl⟩
  obtain ⟨c_lst, cl_lst⟩ : ∃ g : Nat → Int32, hx_col 8 hl1 ql 0 = g := ⟨_, rfl⟩
  have eq_lst := hLE qw ql m_lst f_qw f_ql f_m_lst; rw [cl_lst, n_lst] at eq_lst
  obtain ⟨qtp, f_qtp, g_qtp⟩ := hx_rf hT gx tt_9 (k := 0) (u := 42) rfl
  obtain ⟨m_tp, f_m_tp, g_m_tp⟩ := hx_rf hT gm tt_10 (k := 6) (u := 53) rfl
  obtain ⟨F_tp, n_tp⟩ : ∃ g : Nat → Int32, hl1.2.1 m_tp = g := ⟨_, rfl⟩
  have n_qtp : hl1.2.1 qtp = F_tp := (hkTP qtp m_tp f_qtp f_m_tp).trans n_tp
  obtain ⟨c_dead, cl_dead⟩ : ∃ g : Nat → Int32, hx_col 40 hl1 qp 7 = g := ⟨_, rfl⟩
  obtain ⟨m_dead, f_m_dead, g_m_dead⟩ := hx_rf hT gm tt_10 (k := 27) (u := 64) rfl
  obtain ⟨F_dead, n_dead⟩ : ∃ g : Nat → Int32, hl1.2.1 m_dead = g := ⟨_, rfl⟩
  have eq_dead := hc_dead qp m_dead f_qp f_m_dead; rw [cl_dead, n_dead] at eq_dead
  have z_dead : np.toInt.toNat < 40 → c_dead np.toInt.toNat = 0 := fun hj => hx_num_z nu_qp cl_dead hj (by omega)
  obtain ⟨c_isj, cl_isj⟩ : ∃ g : Nat → Int32, hx_col 40 hl1 qp 8 = g := ⟨_, rfl⟩
  obtain ⟨m_isj, f_m_isj, g_m_isj⟩ := hx_rf hT gm tt_10 (k := 28) (u := 65) rfl
  obtain ⟨F_isj, n_isj⟩ : ∃ g : Nat → Int32, hl1.2.1 m_isj = g := ⟨_, rfl⟩
  have eq_isj := hc_isj qp m_isj f_qp f_m_isj; rw [cl_isj, n_isj] at eq_isj
  have z_isj : np.toInt.toNat < 40 → c_isj np.toInt.toNat = 0 := fun hj => hx_num_z nu_qp cl_isj hj (by omega)
  obtain ⟨c_dox, cl_dox⟩ : ∃ g : Nat → Int32, hx_col 40 hl1 qp 5 = g := ⟨_, rfl⟩
  obtain ⟨m_dox, f_m_dox, g_m_dox⟩ := hx_rf hT gm tt_10 (k := 24) (u := 61) rfl
  obtain ⟨F_dox, n_dox⟩ : ∃ g : Nat → Int32, hl1.2.1 m_dox = g := ⟨_, rfl⟩
  have eq_dox := hc_dox qp m_dox f_qp f_m_dox; rw [cl_dox, n_dox] at eq_dox
  have z_dox : np.toInt.toNat < 40 → c_dox np.toInt.toNat = 0 := fun hj => hx_num_z nu_qp cl_dox hj (by omega)
  obtain ⟨c_doy, cl_doy⟩ : ∃ g : Nat → Int32, hx_col 40 hl1 qp 6 = g := ⟨_, rfl⟩
  obtain ⟨m_doy, f_m_doy, g_m_doy⟩ := hx_rf hT gm tt_10 (k := 25) (u := 62) rfl
  obtain ⟨F_doy, n_doy⟩ : ∃ g : Nat → Int32, hl1.2.1 m_doy = g := ⟨_, rfl⟩
  have eq_doy := hc_doy qp m_doy f_qp f_m_doy; rw [cl_doy, n_doy] at eq_doy
  have z_doy : np.toInt.toNat < 40 → c_doy np.toInt.toNat = 0 := fun hj => hx_num_z nu_qp cl_doy hj (by omega)
  obtain ⟨c_fou, cl_fou⟩ : ∃ g : Nat → Int32, hx_col 100 hl1 qc 10 = g := ⟨_, rfl⟩
  have eq_fou := hc_fou qc m_fou f_qc f_m_fou; rw [cl_fou, n_m_fou] at eq_fou
  have z_fou : c0.toInt.toNat < 100 → c_fou c0.toInt.toNat = 0 := fun hj => hx_num_z nu_qc cl_fou hj (by omega)
  obtain ⟨c_tri, cl_tri⟩ : ∃ g : Nat → Int32, hx_col 100 hl1 qc 9 = g := ⟨_, rfl⟩
  have eq_tri := hc_tri qc mt f_qc f_mt; rw [cl_tri, n_mt] at eq_tri
  have z_tri : c0.toInt.toNat < 100 → c_tri c0.toInt.toNat = 0 := fun hj => hx_num_z nu_qc cl_tri hj (by omega)
  obtain ⟨qlt, f_qlt, g_qlt⟩ := hx_rf hT g_qw tt_8 (k := 2) (u := 39) rfl
  obtain ⟨qlf, f_qlf, g_qlf⟩ := hx_rf hT g_qw tt_8 (k := 4) (u := 41) rfl
  obtain ⟨m_wkd, f_m_wkd, g_m_wkd⟩ := hx_rf hT gm tt_10 (k := 93) (u := 113) rfl
  obtain ⟨F_qlt, n_qlt⟩ : ∃ g : Nat → Int32, hl1.2.1 qlt = g := ⟨_, rfl⟩
  obtain ⟨F_m_wkd, n_m_wkd⟩ : ∃ g : Nat → Int32, hl1.2.1 m_wkd = g := ⟨_, rfl⟩
  have eb_wkd := hkWD qw qlt m_wkd f_qw f_qlt f_m_wkd; rw [n_qlt, n_m_wkd, f_o_wkm] at eb_wkd
  obtain ⟨m_aga, f_m_aga, g_m_aga⟩ := hx_rf hT gm tt_10 (k := 38) (u := 73) rfl
  obtain ⟨F_aga, n_aga⟩ : ∃ g : Nat → Int32, hl1.2.1 m_aga = g := ⟨_, rfl⟩
  have hDF := hkDF qc qp m_aga f_qc f_qp f_m_aga; rw [n_aga, f_x_claimCount] at hDF
  obtain ⟨qwo, f_qwo, g_qwo⟩ := hx_rf hT gx tt_9 (k := 4) (u := 0) rfl
  obtain ⟨m_ad, f_m_ad, g_m_ad⟩ := hx_rf hT gm tt_10 (k := 2) (u := 49) rfl
  obtain ⟨F_ad, n_ad⟩ : ∃ g : Nat → Int32, hl1.2.1 m_ad = g := ⟨_, rfl⟩
  obtain ⟨A9, hRA9, hCA9, hAC9, hAB⟩ := hkAC qa qwo m_ad mr mn mp qc ml f_qa f_qwo f_m_ad f_mr f_mn f_mp f_qc f_ml
  rw [f_x_actCount] at hRA9; rw [f_x_actCount, n_ad, n_mr, n_mn, n_mp] at hCA9
  obtain ⟨m_by, f_m_by, g_m_by⟩ := hx_rf hT gm tt_10 (k := 37) (u := 72) rfl
  obtain ⟨F_by, n_by⟩ : ∃ g : Nat → Int32, hl1.2.1 m_by = g := ⟨_, rfl⟩
  obtain ⟨m_ho, f_m_ho, g_m_ho⟩ := hx_rf hT gm tt_10 (k := 58) (u := 92) rfl
  obtain ⟨F_ho, n_ho⟩ : ∃ g : Nat → Int32, hl1.2.1 m_ho = g := ⟨_, rfl⟩
  obtain ⟨m_fc, f_m_fc, g_m_fc⟩ := hx_rf hT gm tt_10 (k := 53) (u := 88) rfl
  obtain ⟨F_fc, n_fc⟩ : ∃ g : Nat → Int32, hl1.2.1 m_fc = g := ⟨_, rfl⟩
  obtain ⟨m_nt, f_m_nt, g_m_nt⟩ := hx_rf hT gm tt_10 (k := 41) (u := 76) rfl
  obtain ⟨F_nt, n_nt⟩ : ∃ g : Nat → Int32, hl1.2.1 m_nt = g := ⟨_, rfl⟩
  obtain ⟨m_wt, f_m_wt, g_m_wt⟩ := hx_rf hT gm tt_10 (k := 42) (u := 77) rfl
  obtain ⟨F_wt, n_wt⟩ : ∃ g : Nat → Int32, hl1.2.1 m_wt = g := ⟨_, rfl⟩
  obtain ⟨m_be, f_m_be, g_m_be⟩ := hx_rf hT gm tt_10 (k := 52) (u := 87) rfl
  obtain ⟨F_be, n_be⟩ : ∃ g : Nat → Int32, hl1.2.1 m_be = g := ⟨_, rfl⟩
  obtain ⟨m_bor, f_m_bor, g_m_bor⟩ := hx_rf hT gm tt_10 (k := 21) (u := 58) rfl
  obtain ⟨F_bor, n_bor⟩ : ∃ g : Nat → Int32, hl1.2.1 m_bor = g := ⟨_, rfl⟩
  obtain ⟨m_kin, f_m_kin, g_m_kin⟩ := hx_rf hT gm tt_10 (k := 26) (u := 63) rfl
  obtain ⟨F_kin, n_kin⟩ : ∃ g : Nat → Int32, hl1.2.1 m_kin = g := ⟨_, rfl⟩
  obtain ⟨m_sum, f_m_sum, g_m_sum⟩ := hx_rf hT gm tt_10 (k := 39) (u := 74) rfl
  obtain ⟨F_sum, n_sum⟩ : ∃ g : Nat → Int32, hl1.2.1 m_sum = g := ⟨_, rfl⟩
  obtain ⟨m_fro, f_m_fro, g_m_fro⟩ := hx_rf hT gm tt_10 (k := 40) (u := 75) rfl
  obtain ⟨F_fro, n_fro⟩ : ∃ g : Nat → Int32, hl1.2.1 m_fro = g := ⟨_, rfl⟩
  obtain ⟨m_fil, f_m_fil, g_m_fil⟩ := hx_rf hT gm tt_10 (k := 43) (u := 78) rfl
  obtain ⟨F_fil, n_fil⟩ : ∃ g : Nat → Int32, hl1.2.1 m_fil = g := ⟨_, rfl⟩
  obtain ⟨m_jud, f_m_jud, g_m_jud⟩ := hx_rf hT gm tt_10 (k := 51) (u := 86) rfl
  obtain ⟨F_jud, n_jud⟩ : ∃ g : Nat → Int32, hl1.2.1 m_jud = g := ⟨_, rfl⟩
  have cl_bor : hx_col 40 hl1 qp 1 = F_bor := (hf_bor qp m_bor f_qp f_m_bor).trans n_bor
  have cl_kin : hx_col 40 hl1 qp 2 = F_kin := (hf_kin qp m_kin f_qp f_m_kin).trans n_kin
  have cl_sum : hx_col 100 hl1 qc 6 = F_sum := (hf_sum qc m_sum f_qc f_m_sum).trans n_sum
  have cl_fro : hx_col 100 hl1 qc 7 = F_fro := (hf_fro qc m_fro f_qc f_m_fro).trans n_fro
  have cl_fil : hx_col 100 hl1 qc 8 = F_fil := (hf_fil qc m_fil f_qc f_m_fil).trans n_fil
  have cl_hea : hx_col 100 hl1 qc 11 = F_mh := (hf_hea qc mh f_qc f_mh).trans n_mh
  have cl_jud : hx_col 100 hl1 qc 12 = F_jud := (hf_jud qc m_jud f_qc f_m_jud).trans n_jud
  have htb9 : ∀ c, c < 100 → 0 ≤ (c_tri c).toInt ∧ (c_tri c).toInt ≤ 512 := fun c hc => by rw [eq_tri c hc]; have w := hT.ei g_mt tt_80 (k := c) hc; rw [n_mt] at w; exact w
  have z_jud : F_jud c0.toInt.toNat = 0 := hx_num_z2 nu_qc cl_jud (by omega)
  have hDP := hkDP qc qp m_by f_qc f_qp f_m_by; rw [n_by, f_x_claimCount] at hDP
  have hHL := hkHL qh qc m_ho f_qh f_qc f_m_ho; rw [n_ho, f_x_heardCount, f_x_claimCount] at hHL
  have hHO9 := hkHO m_ho mh f_m_ho f_mh; rw [n_ho, n_mh, f_m_heardMany, f_m_claims] at hHO9
  obtain ⟨cF9L, hFX, hFR9⟩ := hkFX qc m_fc m_nt m_wt m_sum mh f_qc f_m_fc f_m_nt f_m_wt f_m_sum f_mh; rw [f_x_claimCount] at hFX; rw [n_fc, n_nt, n_wt, n_sum, n_mh, f_x_claimCount] at hFR9
  have hBX := hkBX qc m_be f_qc f_m_be; rw [n_be, f_x_claimCount] at hBX
  rw [n_ml, f_x_claimCount] at hAC9
  have hwd := jw mw f_mw; rw [n_mw] at hwd
  have hWK := jr mr f_mr; rw [n_mr, f_m_acts] at hWK
  have hRP := jp mp mn f_mp f_mn; rw [n_mp, n_mn, f_m_acts] at hRP
  have hPL := jl ml f_ml; rw [n_ml, f_m_claims, f_m_acts] at hPL
  have hHC := jh mh f_mh; rw [n_mh, f_m_heardMany, f_m_claims] at hHC
  have hTR := jt mt f_mt; rw [n_mt] at hTR
  have hHF := jf mh m_fou f_mh f_m_fou; rw [n_mh, n_m_fou, f_m_claims] at hHF
  refine lv_aload_n hx hb dL_law_754 rfl (lv_at hl 2 rfl) ?_
  refine lv_aload_n hx hb dL_law_755 rfl (lv_at hl 3 rfl) ?_
  refine lv_iload_n hx hb dL_law_756 rfl (lv_at hl 0 rfl) ?_
  refine lv_iconst (v := 1) hx hb dL_law_757 (by decide) ?_
  refine lv_iadd hx hb dL_law_758 ?_
  have rg_382 := i32_r i
  refine lv_topi (fun x_383 ex_383 => ?_)
  have zx_383 : x_383.toInt = i.toInt + 1 := by rw [ex_383]; exact i32_add rfl (by decide) (by omega) (by omega)
  refine va_sld hx hb hX hbl hbA hW.2.2.2.1 (vp_in_iff.mpr ⟨by omega, by omega⟩) dL_law_759 ?_
  refine lv_topi (fun x_384 ex_384 => ?_)
  refine lv_aload_n hx hb dL_law_760 rfl (lv_at hl 3 rfl) ?_
  refine lv_iload_n hx hb dL_law_761 rfl (lv_at hl 0 rfl) ?_
  refine lv_iconst (v := 2) hx hb dL_law_762 (by decide) ?_
  refine lv_iadd hx hb dL_law_763 ?_
  refine lv_topi (fun x_385 ex_385 => ?_)
  have zx_385 : x_385.toInt = i.toInt + 2 := by rw [ex_385]; exact i32_add rfl (by decide) (by omega) (by omega)
  refine va_sld hx hb hX hbl hbA hW.2.2.2.1 (vp_in_iff.mpr ⟨by omega, by omega⟩) dL_law_764 ?_
  refine lv_topi (fun x_386 ex_386 => ?_)
  have jn_773 : ∀ (xj_387 : Int32) (ls : Array Slot), 0 ≤ xj_387.toInt → xj_387.toInt ≤ 1 → (x_386.toInt = 0 ∧ xj_387.toInt = 0) ∨ (x_386.toInt ≠ 0 ∧ xj_387.toInt = 1) → lv_has ls 4 [(3, .int i), (2, .ref am), (1, .ref ax), (0, .ref b)] → W p l e room_1 s m #[Value.ref b] below meth c H locs (CC) (SS) (lw_Z below #[Value.ref b] s) (F0 m 773 ls [.int xj_387, .int x_384, .ref ax]) := by
    intro xj_387 ls blxj_387 buxj_387 jcxj_387 hl
    have hTo := hT
    refine hx_goi (hx_runV (As := [.int x_384, .int xj_387]) (rest := []) ⟨hx, hb, hml, hown, hts⟩ hW gx tt_9 (T := TX9) (N := 20) rfl (t_X9_summons_2 l dC dI dA L1 hl1 H.size ax x_384 xj_387 hT gx c0 f_x_claimCount nw f_x_now qc g_qc f_qc pf_qc c_fou cl_fou c_tri cl_tri nu_qc) (cwV 2 hts (hx_gV kw_806 kw_803 kw_804 kw_805 kw_94) rfl rfl rfl (by decide +kernel) ⟨Nat.le_of_ble_eq_true rfl, Nat.le_of_ble_eq_true rfl⟩) rfl hl.1 rfl (Nat.le_of_ble_eq_true rfl) dL_law_773 ⟨(show CC + 0 ≤ 600000 from by omega), (show SS + 0 ≤ 7302250 from by omega)⟩) hW (fun r_390 L_388 h_389 H locs p_391 hW => ?_)
    obtain ⟨⟨w_393, w_394, fw_393, fw_394, hr_392⟩, hT, hs⟩ := p_391
    replace hT : hx_T T_tb L_388 h_389 := hT
    replace hs : hx_S T_tb [(2, 9), (2, 10)] L1 hl1 L_388 h_389 := hs
    replace f_qa := (hs.o gx trivial rfl).2.trans f_qa
    replace f_qp := (hs.o gx trivial rfl).2.trans f_qp
    replace f_qc := (hs.o gx trivial rfl).2.trans f_qc
    replace f_qh := (hs.o gx trivial rfl).2.trans f_qh
    replace f_qw := (hs.o gx trivial rfl).2.trans f_qw
    replace f_ql := (hs.o g_qw trivial rfl).2.trans f_ql
    replace f_m_now := (hs.o gm trivial rfl).1.trans f_m_now
    replace f_m_persons := (hs.o gm trivial rfl).1.trans f_m_persons
    replace f_m_claims := (hs.o gm trivial rfl).1.trans f_m_claims
    replace f_m_taped := (hs.o gm trivial rfl).1.trans f_m_taped
    replace f_m_acts := (hs.o gm trivial rfl).1.trans f_m_acts
    replace f_m_heardMany := (hs.o gm trivial rfl).1.trans f_m_heardMany
    replace f_m_lines := (hs.o gm trivial rfl).1.trans f_m_lines
    replace f_m_listed := (hs.o gm trivial rfl).1.trans f_m_listed
    replace f_m_walkedMany := (hs.o gm trivial rfl).1.trans f_m_walkedMany
    replace f_x_now := (hs.o gx trivial rfl).1.trans f_x_now
    replace f_x_personCount := (hs.o gx trivial rfl).1.trans f_x_personCount
    replace f_x_claimCount := (hs.o gx trivial rfl).1.trans f_x_claimCount
    replace f_x_tapeLength := (hs.o gx trivial rfl).1.trans f_x_tapeLength
    replace f_x_actCount := (hs.o gx trivial rfl).1.trans f_x_actCount
    replace f_x_heardCount := (hs.o gx trivial rfl).1.trans f_x_heardCount
    replace f_mw := (hs.o gm trivial rfl).2.trans f_mw
    replace f_mr := (hs.o gm trivial rfl).2.trans f_mr
    replace f_mp := (hs.o gm trivial rfl).2.trans f_mp
    replace f_mn := (hs.o gm trivial rfl).2.trans f_mn
    replace f_ml := (hs.o gm trivial rfl).2.trans f_ml
    replace f_mh := (hs.o gm trivial rfl).2.trans f_mh
    replace f_mt := (hs.o gm trivial rfl).2.trans f_mt
    replace f_m_fou := (hs.o gm trivial rfl).2.trans f_m_fou
    replace f_qo_ln := (hs.o gx trivial rfl).2.trans f_qo_ln
    replace f_o_ln := (hs.o g_qo_ln trivial rfl).1.trans f_o_ln
    replace f_o_lsd := (hs.o g_qw trivial rfl).1.trans f_o_lsd
    replace f_o_wkm := (hs.o g_qw trivial rfl).1.trans f_o_wkm
    replace f_b_of := (hs.o g_qo_ln trivial rfl).2.trans f_b_of
    replace f_m_of := (hs.o gm trivial rfl).2.trans f_m_of
    replace f_b_wf := (hs.o g_qo_ln trivial rfl).2.trans f_b_wf
    replace f_m_wf := (hs.o gm trivial rfl).2.trans f_m_wf
    replace f_b_df := (hs.o g_qo_ln trivial rfl).2.trans f_b_df
    replace f_m_df := (hs.o gm trivial rfl).2.trans f_m_df
    replace f_b_kf := (hs.o g_qo_ln trivial rfl).2.trans f_b_kf
    replace f_m_kf := (hs.o gm trivial rfl).2.trans f_m_kf
    replace f_b_sf := (hs.o g_qo_ln trivial rfl).2.trans f_b_sf
    replace f_m_sf := (hs.o gm trivial rfl).2.trans f_m_sf
    replace f_b_bf := (hs.o g_qo_ln trivial rfl).2.trans f_b_bf
    replace f_m_lst := (hs.o gm trivial rfl).2.trans f_m_lst
    replace f_qtp := (hs.o gx trivial rfl).2.trans f_qtp
    replace f_m_tp := (hs.o gm trivial rfl).2.trans f_m_tp
    replace f_m_dead := (hs.o gm trivial rfl).2.trans f_m_dead
    replace f_m_isj := (hs.o gm trivial rfl).2.trans f_m_isj
    replace f_m_dox := (hs.o gm trivial rfl).2.trans f_m_dox
    replace f_m_doy := (hs.o gm trivial rfl).2.trans f_m_doy
    replace f_qlt := (hs.o g_qw trivial rfl).2.trans f_qlt
    replace f_qlf := (hs.o g_qw trivial rfl).2.trans f_qlf
    replace f_m_wkd := (hs.o gm trivial rfl).2.trans f_m_wkd
    replace f_m_aga := (hs.o gm trivial rfl).2.trans f_m_aga
    replace f_qwo := (hs.o gx trivial rfl).2.trans f_qwo
    replace f_m_ad := (hs.o gm trivial rfl).2.trans f_m_ad
    replace f_m_by := (hs.o gm trivial rfl).2.trans f_m_by
    replace f_m_ho := (hs.o gm trivial rfl).2.trans f_m_ho
    replace f_m_fc := (hs.o gm trivial rfl).2.trans f_m_fc
    replace f_m_nt := (hs.o gm trivial rfl).2.trans f_m_nt
    replace f_m_wt := (hs.o gm trivial rfl).2.trans f_m_wt
    replace f_m_be := (hs.o gm trivial rfl).2.trans f_m_be
    replace f_m_bor := (hs.o gm trivial rfl).2.trans f_m_bor
    replace f_m_kin := (hs.o gm trivial rfl).2.trans f_m_kin
    replace f_m_sum := (hs.o gm trivial rfl).2.trans f_m_sum
    replace f_m_fro := (hs.o gm trivial rfl).2.trans f_m_fro
    replace f_m_fil := (hs.o gm trivial rfl).2.trans f_m_fil
    replace f_m_jud := (hs.o gm trivial rfl).2.trans f_m_jud
    replace pf_qa : ∀ j : Nat, (j : Int) < (h_389.2.1 ax 6).toInt → h_389.2.2 qa j ≠ none := by
      intro j hj; rw [(hs.o gx trivial rfl).1] at hj; rw [(hs.a g_qa rfl j).2]; exact pf_qa j hj
    replace pf_qp : ∀ j : Nat, (j : Int) < (h_389.2.1 ax 8).toInt → h_389.2.2 qp j ≠ none := by
      intro j hj; rw [(hs.o gx trivial rfl).1] at hj; rw [(hs.a g_qp rfl j).2]; exact pf_qp j hj
    replace pf_qc : ∀ j : Nat, (j : Int) < (h_389.2.1 ax 11).toInt → h_389.2.2 qc j ≠ none := by
      intro j hj; rw [(hs.o gx trivial rfl).1] at hj; rw [(hs.a g_qc rfl j).2]; exact pf_qc j hj
    replace pf_qh : ∀ j : Nat, (j : Int) < (h_389.2.1 ax 13).toInt → h_389.2.2 qh j ≠ none := by
      intro j hj; rw [(hs.o gx trivial rfl).1] at hj; rw [(hs.a g_qh rfl j).2]; exact pf_qh j hj
    replace pf_ql : ∀ j : Nat, (j : Int) < (h_389.2.1 qw 0).toInt → h_389.2.2 ql j ≠ none := by
      intro j hj; rw [(hs.o g_qw trivial rfl).1] at hj; rw [(hs.a g_ql rfl j).2]; exact pf_ql j hj
    replace cl_lst : hx_col 8 h_389 ql 0 = c_lst := (hx_col_S hs hTo g_ql tt_40 tt_2 rfl rfl).trans cl_lst
    replace cl_dead : hx_col 40 h_389 qp 7 = c_dead := (hx_col_S hs hTo g_qp tt_44 tt_4 rfl rfl).trans cl_dead
    replace cl_isj : hx_col 40 h_389 qp 8 = c_isj := (hx_col_S hs hTo g_qp tt_44 tt_4 rfl rfl).trans cl_isj
    replace cl_dox : hx_col 40 h_389 qp 5 = c_dox := (hx_col_S hs hTo g_qp tt_44 tt_4 rfl rfl).trans cl_dox
    replace cl_doy : hx_col 40 h_389 qp 6 = c_doy := (hx_col_S hs hTo g_qp tt_44 tt_4 rfl rfl).trans cl_doy
    replace cl_bor : hx_col 40 h_389 qp 1 = F_bor := (hx_col_S hs hTo g_qp tt_44 tt_4 rfl rfl).trans cl_bor
    replace cl_kin : hx_col 40 h_389 qp 2 = F_kin := (hx_col_S hs hTo g_qp tt_44 tt_4 rfl rfl).trans cl_kin
    replace cl_sum : hx_col 100 h_389 qc 6 = F_sum := (hx_col_S hs hTo g_qc tt_45 tt_2 rfl rfl).trans cl_sum
    replace cl_fro : hx_col 100 h_389 qc 7 = F_fro := (hx_col_S hs hTo g_qc tt_45 tt_2 rfl rfl).trans cl_fro
    replace cl_fil : hx_col 100 h_389 qc 8 = F_fil := (hx_col_S hs hTo g_qc tt_45 tt_2 rfl rfl).trans cl_fil
    replace cl_hea : hx_col 100 h_389 qc 11 = F_mh := (hx_col_S hs hTo g_qc tt_45 tt_2 rfl rfl).trans cl_hea
    replace cl_jud : hx_col 100 h_389 qc 12 = F_jud := (hx_col_S hs hTo g_qc tt_45 tt_2 rfl rfl).trans cl_jud
    replace nu_qp : hx_num 40 h_389 qp 0 (np.toInt) := hx_num_S hs hTo g_qp tt_44 tt_4 rfl rfl nu_qp
    replace nu_qc : hx_num 100 h_389 qc 0 (c0.toInt) := hx_num_S hs hTo g_qc tt_45 tt_2 rfl rfl nu_qc
    replace sb_list : hx_LQ 8 100 h_389 ql qc := hx_LQ_S hs g_ql g_qc rfl rfl sb_list
    replace hDF : hw_DF h_389 qc qp 2 F_aga c0.toInt := hw_DF_S hs hTo g_qc g_qp tt_45 tt_2 rfl rfl rfl hDF
    replace hRA9 : hv_RA h_389 qa qwo a0.toInt A9 := hv_RA_S hs hTo g_qa g_qwo tt_43 tt_0 rfl rfl rfl rfl rfl rfl (by omega) hRA9
    replace hDP : hw_DF h_389 qc qp 1 F_by c0.toInt := hw_DF_S hs hTo g_qc g_qp tt_45 tt_2 rfl rfl rfl hDP
    replace hAC9 : hv_AC h_389 qc F_ml c0.toInt A9 := hv_AC_S hs hTo g_qc tt_45 tt_2 rfl tt_0 rfl rfl rfl rfl rfl rfl rfl hAC9
    replace hFX : hv_FX 8 4 h_389 qc cF9L c0.toInt := hv_FX_S hs hTo g_qc tt_45 tt_2 rfl rfl rfl rfl hFX
    replace hBX : hv_FX 3 5 h_389 qc F_be c0.toInt := hv_FX_S hs hTo g_qc tt_45 tt_2 rfl rfl rfl rfl hBX
    replace hHL : hv_HL h_389 qh qc F_ho m0.toInt c0.toInt := hv_HL_S hs g_qh g_qc rfl rfl hHL
    replace n_mw : h_389.2.1 mw = F_mw := (funext fun j => (hs.a g_mw rfl j).1).trans n_mw
    replace n_mr : h_389.2.1 mr = F_mr := (funext fun j => (hs.a g_mr rfl j).1).trans n_mr
    replace n_mp : h_389.2.1 mp = F_mp := (funext fun j => (hs.a g_mp rfl j).1).trans n_mp
    replace n_mn : h_389.2.1 mn = F_mn := (funext fun j => (hs.a g_mn rfl j).1).trans n_mn
    replace n_ml : h_389.2.1 ml = F_ml := (funext fun j => (hs.a g_ml rfl j).1).trans n_ml
    replace n_mh : h_389.2.1 mh = F_mh := (funext fun j => (hs.a g_mh rfl j).1).trans n_mh
    replace n_mt : h_389.2.1 mt = F_mt := (funext fun j => (hs.a g_mt rfl j).1).trans n_mt
    replace n_m_fou : h_389.2.1 m_fou = F_m_fou := (funext fun j => (hs.a g_m_fou rfl j).1).trans n_m_fou
    replace n_b_of : h_389.2.1 b_of = B_of := (funext fun j => (hs.a g_b_of rfl j).1).trans n_b_of
    replace n_m_of : h_389.2.1 m_of = F_of := (funext fun j => (hs.a g_m_of rfl j).1).trans n_m_of
    replace n_b_wf : h_389.2.1 b_wf = B_wf := (funext fun j => (hs.a g_b_wf rfl j).1).trans n_b_wf
    replace n_m_wf : h_389.2.1 m_wf = F_wf := (funext fun j => (hs.a g_m_wf rfl j).1).trans n_m_wf
    replace n_b_df : h_389.2.1 b_df = B_df := (funext fun j => (hs.a g_b_df rfl j).1).trans n_b_df
    replace n_m_df : h_389.2.1 m_df = F_df := (funext fun j => (hs.a g_m_df rfl j).1).trans n_m_df
    replace n_b_kf : h_389.2.1 b_kf = B_kf := (funext fun j => (hs.a g_b_kf rfl j).1).trans n_b_kf
    replace n_m_kf : h_389.2.1 m_kf = F_kf := (funext fun j => (hs.a g_m_kf rfl j).1).trans n_m_kf
    replace n_b_sf : h_389.2.1 b_sf = B_sf := (funext fun j => (hs.a g_b_sf rfl j).1).trans n_b_sf
    replace n_m_sf : h_389.2.1 m_sf = F_sf := (funext fun j => (hs.a g_m_sf rfl j).1).trans n_m_sf
    replace n_b_bf : h_389.2.1 b_bf = bfL := (funext fun j => (hs.a g_b_bf rfl j).1).trans n_b_bf
    replace n_lst : h_389.2.1 m_lst = F_lst := (funext fun j => (hs.a g_m_lst rfl j).1).trans n_lst
    replace n_tp : h_389.2.1 m_tp = F_tp := (funext fun j => (hs.a g_m_tp rfl j).1).trans n_tp
    replace n_qtp : h_389.2.1 qtp = F_tp := (funext fun j => (hs.a g_qtp rfl j).1).trans n_qtp
    replace n_dead : h_389.2.1 m_dead = F_dead := (funext fun j => (hs.a g_m_dead rfl j).1).trans n_dead
    replace n_isj : h_389.2.1 m_isj = F_isj := (funext fun j => (hs.a g_m_isj rfl j).1).trans n_isj
    replace n_dox : h_389.2.1 m_dox = F_dox := (funext fun j => (hs.a g_m_dox rfl j).1).trans n_dox
    replace n_doy : h_389.2.1 m_doy = F_doy := (funext fun j => (hs.a g_m_doy rfl j).1).trans n_doy
    replace n_qlt : h_389.2.1 qlt = F_qlt := (funext fun j => (hs.a g_qlt rfl j).1).trans n_qlt
    replace n_m_wkd : h_389.2.1 m_wkd = F_m_wkd := (funext fun j => (hs.a g_m_wkd rfl j).1).trans n_m_wkd
    replace n_aga : h_389.2.1 m_aga = F_aga := (funext fun j => (hs.a g_m_aga rfl j).1).trans n_aga
    replace n_ad : h_389.2.1 m_ad = F_ad := (funext fun j => (hs.a g_m_ad rfl j).1).trans n_ad
    replace n_by : h_389.2.1 m_by = F_by := (funext fun j => (hs.a g_m_by rfl j).1).trans n_by
    replace n_ho : h_389.2.1 m_ho = F_ho := (funext fun j => (hs.a g_m_ho rfl j).1).trans n_ho
    replace n_fc : h_389.2.1 m_fc = F_fc := (funext fun j => (hs.a g_m_fc rfl j).1).trans n_fc
    replace n_nt : h_389.2.1 m_nt = F_nt := (funext fun j => (hs.a g_m_nt rfl j).1).trans n_nt
    replace n_wt : h_389.2.1 m_wt = F_wt := (funext fun j => (hs.a g_m_wt rfl j).1).trans n_wt
    replace n_be : h_389.2.1 m_be = F_be := (funext fun j => (hs.a g_m_be rfl j).1).trans n_be
    replace n_bor : h_389.2.1 m_bor = F_bor := (funext fun j => (hs.a g_m_bor rfl j).1).trans n_bor
    replace n_kin : h_389.2.1 m_kin = F_kin := (funext fun j => (hs.a g_m_kin rfl j).1).trans n_kin
    replace n_sum : h_389.2.1 m_sum = F_sum := (funext fun j => (hs.a g_m_sum rfl j).1).trans n_sum
    replace n_fro : h_389.2.1 m_fro = F_fro := (funext fun j => (hs.a g_m_fro rfl j).1).trans n_fro
    replace n_fil : h_389.2.1 m_fil = F_fil := (funext fun j => (hs.a g_m_fil rfl j).1).trans n_fil
    replace n_jud : h_389.2.1 m_jud = F_jud := (funext fun j => (hs.a g_m_jud rfl j).1).trans n_jud
    replace gx := gx.S hs
    replace gm := gm.S hs
    replace g_qa := g_qa.S hs
    replace g_qp := g_qp.S hs
    replace g_qc := g_qc.S hs
    replace g_qh := g_qh.S hs
    replace g_qw := g_qw.S hs
    replace g_ql := g_ql.S hs
    replace g_mw := g_mw.S hs
    replace g_mr := g_mr.S hs
    replace g_mp := g_mp.S hs
    replace g_mn := g_mn.S hs
    replace g_ml := g_ml.S hs
    replace g_mh := g_mh.S hs
    replace g_mt := g_mt.S hs
    replace g_m_fou := g_m_fou.S hs
    replace g_qo_ln := g_qo_ln.S hs
    replace g_b_of := g_b_of.S hs
    replace g_m_of := g_m_of.S hs
    replace g_b_wf := g_b_wf.S hs
    replace g_m_wf := g_m_wf.S hs
    replace g_b_df := g_b_df.S hs
    replace g_m_df := g_m_df.S hs
    replace g_b_kf := g_b_kf.S hs
    replace g_m_kf := g_m_kf.S hs
    replace g_b_sf := g_b_sf.S hs
    replace g_m_sf := g_m_sf.S hs
    replace g_b_bf := g_b_bf.S hs
    replace g_m_lst := g_m_lst.S hs
    replace g_qtp := g_qtp.S hs
    replace g_m_tp := g_m_tp.S hs
    replace g_m_dead := g_m_dead.S hs
    replace g_m_isj := g_m_isj.S hs
    replace g_m_dox := g_m_dox.S hs
    replace g_m_doy := g_m_doy.S hs
    replace g_qlt := g_qlt.S hs
    replace g_qlf := g_qlf.S hs
    replace g_m_wkd := g_m_wkd.S hs
    replace g_m_aga := g_m_aga.S hs
    replace g_qwo := g_qwo.S hs
    replace g_m_ad := g_m_ad.S hs
    replace g_m_by := g_m_by.S hs
    replace g_m_ho := g_m_ho.S hs
    replace g_m_fc := g_m_fc.S hs
    replace g_m_nt := g_m_nt.S hs
    replace g_m_wt := g_m_wt.S hs
    replace g_m_be := g_m_be.S hs
    replace g_m_bor := g_m_bor.S hs
    replace g_m_kin := g_m_kin.S hs
    replace g_m_sum := g_m_sum.S hs
    replace g_m_fro := g_m_fro.S hs
    replace g_m_fil := g_m_fil.S hs
    replace g_m_jud := g_m_jud.S hs
    have fw_393 : hx_col 100 h_389 qc 10 = w_393 := fw_393
    have fw_394 : hx_col 100 h_389 qc 9 = w_394 := fw_394
    refine lv_pop hx hb dL_law_776 rfl ?_
    refine lv_aload_n hx hb dL_law_777 rfl (lv_at hl 1 rfl) ?_
    refine lv_aload_n hx hb dL_law_778 rfl (lv_at hl 3 rfl) ?_
    refine lv_iload_n hx hb dL_law_779 rfl (lv_at hl 0 rfl) ?_
    refine lv_iconst (v := 1) hx hb dL_law_780 (by decide) ?_
    refine lv_iadd hx hb dL_law_781 ?_
    refine lv_topi (fun x_395 ex_395 => ?_)
    have zx_395 : x_395.toInt = i.toInt + 1 := by rw [ex_395]; exact i32_add rfl (by decide) (by omega) (by omega)
    obtain rfl : x_383 = x_395 := ex_383.trans ex_395.symm
    refine va_sld hx hb hX hbl hbA hW.2.2.2.1 (vp_in_iff.mpr ⟨by omega, by omega⟩) dL_law_782 ?_
    refine lv_topi (fun x_396 ex_396 => ?_)
    obtain rfl : x_384 = x_396 := ex_384.trans ex_396.symm
    refine lv_aload_n hx hb dL_law_783 rfl (lv_at hl 3 rfl) ?_
    refine lv_iload_n hx hb dL_law_784 rfl (lv_at hl 0 rfl) ?_
    refine lv_iconst (v := 2) hx hb dL_law_785 (by decide) ?_
    refine lv_iadd hx hb dL_law_786 ?_
    refine lv_topi (fun x_397 ex_397 => ?_)
    have zx_397 : x_397.toInt = i.toInt + 2 := by rw [ex_397]; exact i32_add rfl (by decide) (by omega) (by omega)
    obtain rfl : x_385 = x_397 := ex_385.trans ex_397.symm
    refine va_sld hx hb hX hbl hbA hW.2.2.2.1 (vp_in_iff.mpr ⟨by omega, by omega⟩) dL_law_787 ?_
    refine lv_topi (fun x_398 ex_398 => ?_)
    obtain rfl : x_386 = x_398 := ex_386.trans ex_398.symm
    have jn_796 : ∀ (xj_399 : Int32) (ls : Array Slot), 0 ≤ xj_399.toInt → xj_399.toInt ≤ 1 → (x_386.toInt = 0 ∧ xj_399.toInt = 0) ∨ (x_386.toInt ≠ 0 ∧ xj_399.toInt = 1) → lv_has ls 4 [(3, .int i), (2, .ref am), (1, .ref ax), (0, .ref b)] → W p l e room_1 s m #[Value.ref b] below meth c H locs (CC + 0) (SS + 0) (lw_Z below #[Value.ref b] s) (F0 m 796 ls [.int xj_399, .int x_384, .ref am]) := by
      intro xj_399 ls blxj_399 buxj_399 jcxj_399 hl
      obtain rfl : xj_387 = xj_399 := Int32.toInt_inj.mp (by omega)
      have hTo := hT
      refine hx_goi (hx_runV (As := [.int x_384, .int xj_387]) (rest := []) ⟨hx, hb, hml, hown, hts⟩ hW gm tt_10 (T := TX10) (N := 98) rfl (t_X10_summons_2 l dC dI dA L_388 h_389 H.size am x_384 xj_387 hT gm mt g_mt f_mt m_fou g_m_fou f_m_fou mh g_mh f_mh F_mt n_mt F_m_fou n_m_fou F_mh n_mh c0 f_m_claims nw f_m_now T1 hT1 hTR hHF) (cwV 2 hts (hx_gV kw_1593 kw_1590 kw_1591 kw_1592 kw_103) rfl rfl rfl (by decide +kernel) ⟨Nat.le_of_ble_eq_true rfl, Nat.le_of_ble_eq_true rfl⟩) rfl hl.1 rfl (Nat.le_of_ble_eq_true rfl) dL_law_796 ⟨(show CC + 0 + 0 ≤ 600000 from by omega), (show SS + 0 + 0 ≤ 7302250 from by omega)⟩) hW (fun r_402 L_400 h_401 H locs p_403 hW => ?_)
      obtain ⟨⟨w_405, w_406, fw_405, fw_406, hr_404⟩, hT, hs⟩ := p_403
      replace hT : hx_T T_tb L_400 h_401 := hT
      replace hs : hx_S T_tb [(80, 0), (81, 0)] L_388 h_389 L_400 h_401 := hs
      replace f_qa := (hs.o gx trivial rfl).2.trans f_qa
      replace f_qp := (hs.o gx trivial rfl).2.trans f_qp
      replace f_qc := (hs.o gx trivial rfl).2.trans f_qc
      replace f_qh := (hs.o gx trivial rfl).2.trans f_qh
      replace f_qw := (hs.o gx trivial rfl).2.trans f_qw
      replace f_ql := (hs.o g_qw trivial rfl).2.trans f_ql
      replace f_m_now := (hs.o gm trivial rfl).1.trans f_m_now
      replace f_m_persons := (hs.o gm trivial rfl).1.trans f_m_persons
      replace f_m_claims := (hs.o gm trivial rfl).1.trans f_m_claims
      replace f_m_taped := (hs.o gm trivial rfl).1.trans f_m_taped
      replace f_m_acts := (hs.o gm trivial rfl).1.trans f_m_acts
      replace f_m_heardMany := (hs.o gm trivial rfl).1.trans f_m_heardMany
      replace f_m_lines := (hs.o gm trivial rfl).1.trans f_m_lines
      replace f_m_listed := (hs.o gm trivial rfl).1.trans f_m_listed
      replace f_m_walkedMany := (hs.o gm trivial rfl).1.trans f_m_walkedMany
      replace f_x_now := (hs.o gx trivial rfl).1.trans f_x_now
      replace f_x_personCount := (hs.o gx trivial rfl).1.trans f_x_personCount
      replace f_x_claimCount := (hs.o gx trivial rfl).1.trans f_x_claimCount
      replace f_x_tapeLength := (hs.o gx trivial rfl).1.trans f_x_tapeLength
      replace f_x_actCount := (hs.o gx trivial rfl).1.trans f_x_actCount
      replace f_x_heardCount := (hs.o gx trivial rfl).1.trans f_x_heardCount
      replace f_mw := (hs.o gm trivial rfl).2.trans f_mw
      replace f_mr := (hs.o gm trivial rfl).2.trans f_mr
      replace f_mp := (hs.o gm trivial rfl).2.trans f_mp
      replace f_mn := (hs.o gm trivial rfl).2.trans f_mn
      replace f_ml := (hs.o gm trivial rfl).2.trans f_ml
      replace f_mh := (hs.o gm trivial rfl).2.trans f_mh
      replace f_mt := (hs.o gm trivial rfl).2.trans f_mt
      replace f_m_fou := (hs.o gm trivial rfl).2.trans f_m_fou
      replace f_qo_ln := (hs.o gx trivial rfl).2.trans f_qo_ln
      replace f_o_ln := (hs.o g_qo_ln trivial rfl).1.trans f_o_ln
      replace f_o_lsd := (hs.o g_qw trivial rfl).1.trans f_o_lsd
      replace f_o_wkm := (hs.o g_qw trivial rfl).1.trans f_o_wkm
      replace f_b_of := (hs.o g_qo_ln trivial rfl).2.trans f_b_of
      replace f_m_of := (hs.o gm trivial rfl).2.trans f_m_of
      replace f_b_wf := (hs.o g_qo_ln trivial rfl).2.trans f_b_wf
      replace f_m_wf := (hs.o gm trivial rfl).2.trans f_m_wf
      replace f_b_df := (hs.o g_qo_ln trivial rfl).2.trans f_b_df
      replace f_m_df := (hs.o gm trivial rfl).2.trans f_m_df
      replace f_b_kf := (hs.o g_qo_ln trivial rfl).2.trans f_b_kf
      replace f_m_kf := (hs.o gm trivial rfl).2.trans f_m_kf
      replace f_b_sf := (hs.o g_qo_ln trivial rfl).2.trans f_b_sf
      replace f_m_sf := (hs.o gm trivial rfl).2.trans f_m_sf
      replace f_b_bf := (hs.o g_qo_ln trivial rfl).2.trans f_b_bf
      replace f_m_lst := (hs.o gm trivial rfl).2.trans f_m_lst
      replace f_qtp := (hs.o gx trivial rfl).2.trans f_qtp
      replace f_m_tp := (hs.o gm trivial rfl).2.trans f_m_tp
      replace f_m_dead := (hs.o gm trivial rfl).2.trans f_m_dead
      replace f_m_isj := (hs.o gm trivial rfl).2.trans f_m_isj
      replace f_m_dox := (hs.o gm trivial rfl).2.trans f_m_dox
      replace f_m_doy := (hs.o gm trivial rfl).2.trans f_m_doy
      replace f_qlt := (hs.o g_qw trivial rfl).2.trans f_qlt
      replace f_qlf := (hs.o g_qw trivial rfl).2.trans f_qlf
      replace f_m_wkd := (hs.o gm trivial rfl).2.trans f_m_wkd
      replace f_m_aga := (hs.o gm trivial rfl).2.trans f_m_aga
      replace f_qwo := (hs.o gx trivial rfl).2.trans f_qwo
      replace f_m_ad := (hs.o gm trivial rfl).2.trans f_m_ad
      replace f_m_by := (hs.o gm trivial rfl).2.trans f_m_by
      replace f_m_ho := (hs.o gm trivial rfl).2.trans f_m_ho
      replace f_m_fc := (hs.o gm trivial rfl).2.trans f_m_fc
      replace f_m_nt := (hs.o gm trivial rfl).2.trans f_m_nt
      replace f_m_wt := (hs.o gm trivial rfl).2.trans f_m_wt
      replace f_m_be := (hs.o gm trivial rfl).2.trans f_m_be
      replace f_m_bor := (hs.o gm trivial rfl).2.trans f_m_bor
      replace f_m_kin := (hs.o gm trivial rfl).2.trans f_m_kin
      replace f_m_sum := (hs.o gm trivial rfl).2.trans f_m_sum
      replace f_m_fro := (hs.o gm trivial rfl).2.trans f_m_fro
      replace f_m_fil := (hs.o gm trivial rfl).2.trans f_m_fil
      replace f_m_jud := (hs.o gm trivial rfl).2.trans f_m_jud
      replace pf_qa : ∀ j : Nat, (j : Int) < (h_401.2.1 ax 6).toInt → h_401.2.2 qa j ≠ none := by
        intro j hj; rw [(hs.o gx trivial rfl).1] at hj; rw [(hs.a g_qa rfl j).2]; exact pf_qa j hj
      replace pf_qp : ∀ j : Nat, (j : Int) < (h_401.2.1 ax 8).toInt → h_401.2.2 qp j ≠ none := by
        intro j hj; rw [(hs.o gx trivial rfl).1] at hj; rw [(hs.a g_qp rfl j).2]; exact pf_qp j hj
      replace pf_qc : ∀ j : Nat, (j : Int) < (h_401.2.1 ax 11).toInt → h_401.2.2 qc j ≠ none := by
        intro j hj; rw [(hs.o gx trivial rfl).1] at hj; rw [(hs.a g_qc rfl j).2]; exact pf_qc j hj
      replace pf_qh : ∀ j : Nat, (j : Int) < (h_401.2.1 ax 13).toInt → h_401.2.2 qh j ≠ none := by
        intro j hj; rw [(hs.o gx trivial rfl).1] at hj; rw [(hs.a g_qh rfl j).2]; exact pf_qh j hj
      replace pf_ql : ∀ j : Nat, (j : Int) < (h_401.2.1 qw 0).toInt → h_401.2.2 ql j ≠ none := by
        intro j hj; rw [(hs.o g_qw trivial rfl).1] at hj; rw [(hs.a g_ql rfl j).2]; exact pf_ql j hj
      replace cl_lst : hx_col 8 h_401 ql 0 = c_lst := (hx_col_S hs hTo g_ql tt_40 tt_2 rfl rfl).trans cl_lst
      replace cl_dead : hx_col 40 h_401 qp 7 = c_dead := (hx_col_S hs hTo g_qp tt_44 tt_4 rfl rfl).trans cl_dead
      replace cl_isj : hx_col 40 h_401 qp 8 = c_isj := (hx_col_S hs hTo g_qp tt_44 tt_4 rfl rfl).trans cl_isj
      replace cl_dox : hx_col 40 h_401 qp 5 = c_dox := (hx_col_S hs hTo g_qp tt_44 tt_4 rfl rfl).trans cl_dox
      replace cl_doy : hx_col 40 h_401 qp 6 = c_doy := (hx_col_S hs hTo g_qp tt_44 tt_4 rfl rfl).trans cl_doy
      replace cl_bor : hx_col 40 h_401 qp 1 = F_bor := (hx_col_S hs hTo g_qp tt_44 tt_4 rfl rfl).trans cl_bor
      replace cl_kin : hx_col 40 h_401 qp 2 = F_kin := (hx_col_S hs hTo g_qp tt_44 tt_4 rfl rfl).trans cl_kin
      replace cl_sum : hx_col 100 h_401 qc 6 = F_sum := (hx_col_S hs hTo g_qc tt_45 tt_2 rfl rfl).trans cl_sum
      replace cl_fro : hx_col 100 h_401 qc 7 = F_fro := (hx_col_S hs hTo g_qc tt_45 tt_2 rfl rfl).trans cl_fro
      replace cl_fil : hx_col 100 h_401 qc 8 = F_fil := (hx_col_S hs hTo g_qc tt_45 tt_2 rfl rfl).trans cl_fil
      replace cl_hea : hx_col 100 h_401 qc 11 = F_mh := (hx_col_S hs hTo g_qc tt_45 tt_2 rfl rfl).trans cl_hea
      replace cl_jud : hx_col 100 h_401 qc 12 = F_jud := (hx_col_S hs hTo g_qc tt_45 tt_2 rfl rfl).trans cl_jud
      replace fw_393 : hx_col 100 h_401 qc 10 = w_393 := (hx_col_S hs hTo g_qc tt_45 tt_2 rfl rfl).trans fw_393
      replace fw_394 : hx_col 100 h_401 qc 9 = w_394 := (hx_col_S hs hTo g_qc tt_45 tt_2 rfl rfl).trans fw_394
      replace nu_qp : hx_num 40 h_401 qp 0 (np.toInt) := hx_num_S hs hTo g_qp tt_44 tt_4 rfl rfl nu_qp
      replace nu_qc : hx_num 100 h_401 qc 0 (c0.toInt) := hx_num_S hs hTo g_qc tt_45 tt_2 rfl rfl nu_qc
      replace sb_list : hx_LQ 8 100 h_401 ql qc := hx_LQ_S hs g_ql g_qc rfl rfl sb_list
      replace hDF : hw_DF h_401 qc qp 2 F_aga c0.toInt := hw_DF_S hs hTo g_qc g_qp tt_45 tt_2 rfl rfl rfl hDF
      replace hRA9 : hv_RA h_401 qa qwo a0.toInt A9 := hv_RA_S hs hTo g_qa g_qwo tt_43 tt_0 rfl rfl rfl rfl rfl rfl (by omega) hRA9
      replace hDP : hw_DF h_401 qc qp 1 F_by c0.toInt := hw_DF_S hs hTo g_qc g_qp tt_45 tt_2 rfl rfl rfl hDP
      replace hAC9 : hv_AC h_401 qc F_ml c0.toInt A9 := hv_AC_S hs hTo g_qc tt_45 tt_2 rfl tt_0 rfl rfl rfl rfl rfl rfl rfl hAC9
      replace hFX : hv_FX 8 4 h_401 qc cF9L c0.toInt := hv_FX_S hs hTo g_qc tt_45 tt_2 rfl rfl rfl rfl hFX
      replace hBX : hv_FX 3 5 h_401 qc F_be c0.toInt := hv_FX_S hs hTo g_qc tt_45 tt_2 rfl rfl rfl rfl hBX
      replace hHL : hv_HL h_401 qh qc F_ho m0.toInt c0.toInt := hv_HL_S hs g_qh g_qc rfl rfl hHL
      replace n_mw : h_401.2.1 mw = F_mw := (funext fun j => (hs.a g_mw rfl j).1).trans n_mw
      replace n_mr : h_401.2.1 mr = F_mr := (funext fun j => (hs.a g_mr rfl j).1).trans n_mr
      replace n_mp : h_401.2.1 mp = F_mp := (funext fun j => (hs.a g_mp rfl j).1).trans n_mp
      replace n_mn : h_401.2.1 mn = F_mn := (funext fun j => (hs.a g_mn rfl j).1).trans n_mn
      replace n_ml : h_401.2.1 ml = F_ml := (funext fun j => (hs.a g_ml rfl j).1).trans n_ml
      replace n_mh : h_401.2.1 mh = F_mh := (funext fun j => (hs.a g_mh rfl j).1).trans n_mh
      replace n_b_of : h_401.2.1 b_of = B_of := (funext fun j => (hs.a g_b_of rfl j).1).trans n_b_of
      replace n_m_of : h_401.2.1 m_of = F_of := (funext fun j => (hs.a g_m_of rfl j).1).trans n_m_of
      replace n_b_wf : h_401.2.1 b_wf = B_wf := (funext fun j => (hs.a g_b_wf rfl j).1).trans n_b_wf
      replace n_m_wf : h_401.2.1 m_wf = F_wf := (funext fun j => (hs.a g_m_wf rfl j).1).trans n_m_wf
      replace n_b_df : h_401.2.1 b_df = B_df := (funext fun j => (hs.a g_b_df rfl j).1).trans n_b_df
      replace n_m_df : h_401.2.1 m_df = F_df := (funext fun j => (hs.a g_m_df rfl j).1).trans n_m_df
      replace n_b_kf : h_401.2.1 b_kf = B_kf := (funext fun j => (hs.a g_b_kf rfl j).1).trans n_b_kf
      replace n_m_kf : h_401.2.1 m_kf = F_kf := (funext fun j => (hs.a g_m_kf rfl j).1).trans n_m_kf
      replace n_b_sf : h_401.2.1 b_sf = B_sf := (funext fun j => (hs.a g_b_sf rfl j).1).trans n_b_sf
      replace n_m_sf : h_401.2.1 m_sf = F_sf := (funext fun j => (hs.a g_m_sf rfl j).1).trans n_m_sf
      replace n_b_bf : h_401.2.1 b_bf = bfL := (funext fun j => (hs.a g_b_bf rfl j).1).trans n_b_bf
      replace n_lst : h_401.2.1 m_lst = F_lst := (funext fun j => (hs.a g_m_lst rfl j).1).trans n_lst
      replace n_tp : h_401.2.1 m_tp = F_tp := (funext fun j => (hs.a g_m_tp rfl j).1).trans n_tp
      replace n_qtp : h_401.2.1 qtp = F_tp := (funext fun j => (hs.a g_qtp rfl j).1).trans n_qtp
      replace n_dead : h_401.2.1 m_dead = F_dead := (funext fun j => (hs.a g_m_dead rfl j).1).trans n_dead
      replace n_isj : h_401.2.1 m_isj = F_isj := (funext fun j => (hs.a g_m_isj rfl j).1).trans n_isj
      replace n_dox : h_401.2.1 m_dox = F_dox := (funext fun j => (hs.a g_m_dox rfl j).1).trans n_dox
      replace n_doy : h_401.2.1 m_doy = F_doy := (funext fun j => (hs.a g_m_doy rfl j).1).trans n_doy
      replace n_qlt : h_401.2.1 qlt = F_qlt := (funext fun j => (hs.a g_qlt rfl j).1).trans n_qlt
      replace n_m_wkd : h_401.2.1 m_wkd = F_m_wkd := (funext fun j => (hs.a g_m_wkd rfl j).1).trans n_m_wkd
      replace n_aga : h_401.2.1 m_aga = F_aga := (funext fun j => (hs.a g_m_aga rfl j).1).trans n_aga
      replace n_ad : h_401.2.1 m_ad = F_ad := (funext fun j => (hs.a g_m_ad rfl j).1).trans n_ad
      replace n_by : h_401.2.1 m_by = F_by := (funext fun j => (hs.a g_m_by rfl j).1).trans n_by
      replace n_ho : h_401.2.1 m_ho = F_ho := (funext fun j => (hs.a g_m_ho rfl j).1).trans n_ho
      replace n_fc : h_401.2.1 m_fc = F_fc := (funext fun j => (hs.a g_m_fc rfl j).1).trans n_fc
      replace n_nt : h_401.2.1 m_nt = F_nt := (funext fun j => (hs.a g_m_nt rfl j).1).trans n_nt
      replace n_wt : h_401.2.1 m_wt = F_wt := (funext fun j => (hs.a g_m_wt rfl j).1).trans n_wt
      replace n_be : h_401.2.1 m_be = F_be := (funext fun j => (hs.a g_m_be rfl j).1).trans n_be
      replace n_bor : h_401.2.1 m_bor = F_bor := (funext fun j => (hs.a g_m_bor rfl j).1).trans n_bor
      replace n_kin : h_401.2.1 m_kin = F_kin := (funext fun j => (hs.a g_m_kin rfl j).1).trans n_kin
      replace n_sum : h_401.2.1 m_sum = F_sum := (funext fun j => (hs.a g_m_sum rfl j).1).trans n_sum
      replace n_fro : h_401.2.1 m_fro = F_fro := (funext fun j => (hs.a g_m_fro rfl j).1).trans n_fro
      replace n_fil : h_401.2.1 m_fil = F_fil := (funext fun j => (hs.a g_m_fil rfl j).1).trans n_fil
      replace n_jud : h_401.2.1 m_jud = F_jud := (funext fun j => (hs.a g_m_jud rfl j).1).trans n_jud
      replace gx := gx.S hs
      replace gm := gm.S hs
      replace g_qa := g_qa.S hs
      replace g_qp := g_qp.S hs
      replace g_qc := g_qc.S hs
      replace g_qh := g_qh.S hs
      replace g_qw := g_qw.S hs
      replace g_ql := g_ql.S hs
      replace g_mw := g_mw.S hs
      replace g_mr := g_mr.S hs
      replace g_mp := g_mp.S hs
      replace g_mn := g_mn.S hs
      replace g_ml := g_ml.S hs
      replace g_mh := g_mh.S hs
      replace g_mt := g_mt.S hs
      replace g_m_fou := g_m_fou.S hs
      replace g_qo_ln := g_qo_ln.S hs
      replace g_b_of := g_b_of.S hs
      replace g_m_of := g_m_of.S hs
      replace g_b_wf := g_b_wf.S hs
      replace g_m_wf := g_m_wf.S hs
      replace g_b_df := g_b_df.S hs
      replace g_m_df := g_m_df.S hs
      replace g_b_kf := g_b_kf.S hs
      replace g_m_kf := g_m_kf.S hs
      replace g_b_sf := g_b_sf.S hs
      replace g_m_sf := g_m_sf.S hs
      replace g_b_bf := g_b_bf.S hs
      replace g_m_lst := g_m_lst.S hs
      replace g_qtp := g_qtp.S hs
      replace g_m_tp := g_m_tp.S hs
      replace g_m_dead := g_m_dead.S hs
      replace g_m_isj := g_m_isj.S hs
      replace g_m_dox := g_m_dox.S hs
      replace g_m_doy := g_m_doy.S hs
      replace g_qlt := g_qlt.S hs
      replace g_qlf := g_qlf.S hs
      replace g_m_wkd := g_m_wkd.S hs
      replace g_m_aga := g_m_aga.S hs
      replace g_qwo := g_qwo.S hs
      replace g_m_ad := g_m_ad.S hs
      replace g_m_by := g_m_by.S hs
      replace g_m_ho := g_m_ho.S hs
      replace g_m_fc := g_m_fc.S hs
      replace g_m_nt := g_m_nt.S hs
      replace g_m_wt := g_m_wt.S hs
      replace g_m_be := g_m_be.S hs
      replace g_m_bor := g_m_bor.S hs
      replace g_m_kin := g_m_kin.S hs
      replace g_m_sum := g_m_sum.S hs
      replace g_m_fro := g_m_fro.S hs
      replace g_m_fil := g_m_fil.S hs
      replace g_m_jud := g_m_jud.S hs
      have fw_405 : h_401.2.1 mt = w_405 := fw_405
      have fw_406 : h_401.2.1 m_fou = w_406 := fw_406
      refine lv_pop hx hb dL_law_799 rfl ?_
      refine lv_goto (tgt := 1379) hx hb dL_law_800 (by decide) ?_
      obtain ⟨heq, hq_fou, hq_tri⟩ := hx_sk (by omega) eq_fou eq_tri hr_392 hr_404.2
      refine W.widen (k := CC + 3) (n := SS + 179) (by omega) (by omega) ?_
      exact kk L_400 h_401 H locs ls hW ⟨hT, gx, gm, ⟨f_x_now.trans f_m_now.symm, f_x_personCount.trans f_m_persons.symm, f_x_claimCount.trans f_m_claims.symm, f_x_tapeLength.trans f_m_taped.symm, f_x_actCount.trans f_m_acts.symm, f_x_heardCount.trans f_m_heardMany.symm, hx_ob f_qo_ln (f_o_ln.trans f_m_lines.symm), hx_ob f_qw (f_o_lsd.trans f_m_listed.symm), hx_ob f_qw (f_o_wkm.trans f_m_walkedMany.symm), hx_ob f_qp (by rw [f_x_personCount]; exact nu_qp), hx_ob f_qc (by rw [f_x_claimCount]; exact nu_qc), (fun b a r hb ha hr => by obtain rfl : qo_ln = b := Option.some.inj (f_qo_ln.symm.trans hb); obtain rfl : b_of = a := Option.some.inj (f_b_of.symm.trans ha); obtain rfl : m_of = r := Option.some.inj (f_m_of.symm.trans hr); rw [n_b_of, n_m_of, f_o_ln]; exact eb_of), (fun b a r hb ha hr => by obtain rfl : qo_ln = b := Option.some.inj (f_qo_ln.symm.trans hb); obtain rfl : b_wf = a := Option.some.inj (f_b_wf.symm.trans ha); obtain rfl : m_wf = r := Option.some.inj (f_m_wf.symm.trans hr); rw [n_b_wf, n_m_wf, f_o_ln]; exact eb_wf), (fun b a r hb ha hr => by obtain rfl : qo_ln = b := Option.some.inj (f_qo_ln.symm.trans hb); obtain rfl : b_df = a := Option.some.inj (f_b_df.symm.trans ha); obtain rfl : m_df = r := Option.some.inj (f_m_df.symm.trans hr); rw [n_b_df, n_m_df, f_o_ln]; exact eb_df), (fun b a r hb ha hr => by obtain rfl : qo_ln = b := Option.some.inj (f_qo_ln.symm.trans hb); obtain rfl : b_kf = a := Option.some.inj (f_b_kf.symm.trans ha); obtain rfl : m_kf = r := Option.some.inj (f_m_kf.symm.trans hr); rw [n_b_kf, n_m_kf, f_o_ln]; exact eb_kf), (fun b a r hb ha hr => by obtain rfl : qo_ln = b := Option.some.inj (f_qo_ln.symm.trans hb); obtain rfl : b_sf = a := Option.some.inj (f_b_sf.symm.trans ha); obtain rfl : m_sf = r := Option.some.inj (f_m_sf.symm.trans hr); rw [n_b_sf, n_m_sf, f_o_ln]; exact eb_sf), (fun b a r hb ha hr => by obtain rfl : qo_ln = b := Option.some.inj (f_qo_ln.symm.trans hb); obtain rfl : b_df = a := Option.some.inj (f_b_df.symm.trans ha); obtain rfl : b_bf = r := Option.some.inj (f_b_bf.symm.trans hr); rw [n_b_df, n_b_bf, f_o_ln]; exact ⟨hBD, hDY⟩), (fun w q c hw hq hc => by obtain rfl : qw = w := Option.some.inj (f_qw.symm.trans hw); obtain rfl : ql = q := Option.some.inj (f_ql.symm.trans hq); obtain rfl : qc = c := Option.some.inj (f_qc.symm.trans hc); exact sb_list), (fun w q r hw hq hr => by obtain rfl : qw = w := Option.some.inj (f_qw.symm.trans hw); obtain rfl : ql = q := Option.some.inj (f_ql.symm.trans hq); obtain rfl : m_lst = r := Option.some.inj (f_m_lst.symm.trans hr); rw [cl_lst, n_lst]; exact eq_lst), (fun w q r hw hq hr => by obtain rfl : qw = w := Option.some.inj (f_qw.symm.trans hw); obtain rfl : qlt = q := Option.some.inj (f_qlt.symm.trans hq); obtain rfl : m_wkd = r := Option.some.inj (f_m_wkd.symm.trans hr); rw [n_qlt, n_m_wkd, f_o_wkm]; exact eb_wkd), (fun c q a hc hq ha => by obtain rfl : qc = c := Option.some.inj (f_qc.symm.trans hc); obtain rfl : qp = q := Option.some.inj (f_qp.symm.trans hq); obtain rfl : m_aga = a := Option.some.inj (f_m_aga.symm.trans ha); rw [n_aga, f_x_claimCount]; exact hw_DF_e hDF rfl rfl), (fun q r hq hr => by obtain rfl : qtp = q := Option.some.inj (f_qtp.symm.trans hq); obtain rfl : m_tp = r := Option.some.inj (f_m_tp.symm.trans hr); exact n_qtp.trans n_tp.symm), (fun q w a b c d e p hq hw ha hb hc hd he hp => by obtain rfl : qa = q := Option.some.inj (f_qa.symm.trans hq); obtain rfl : qwo = w := Option.some.inj (f_qwo.symm.trans hw); obtain rfl : m_ad = a := Option.some.inj (f_m_ad.symm.trans ha); obtain rfl : mr = b := Option.some.inj (f_mr.symm.trans hb); obtain rfl : mn = c := Option.some.inj (f_mn.symm.trans hc); obtain rfl : mp = d := Option.some.inj (f_mp.symm.trans hd); obtain rfl : qc = e := Option.some.inj (f_qc.symm.trans he); obtain rfl : ml = p := Option.some.inj (f_ml.symm.trans hp); exact ⟨_, by rw [f_x_actCount]; exact hRA9, by rw [f_x_actCount, n_ad, n_mr, n_mn, n_mp]; exact hCA9, by rw [n_ml, f_x_claimCount]; exact hv_AC_e hAC9 rfl rfl rfl, hAB⟩), (fun c q a hc hq ha => by obtain rfl : qc = c := Option.some.inj (f_qc.symm.trans hc); obtain rfl : qp = q := Option.some.inj (f_qp.symm.trans hq); obtain rfl : m_by = a := Option.some.inj (f_m_by.symm.trans ha); rw [n_by, f_x_claimCount]; exact hw_DF_e hDP rfl rfl), (fun q c a hq hc ha => by obtain rfl : qh = q := Option.some.inj (f_qh.symm.trans hq); obtain rfl : qc = c := Option.some.inj (f_qc.symm.trans hc); obtain rfl : m_ho = a := Option.some.inj (f_m_ho.symm.trans ha); rw [n_ho, f_x_heardCount, f_x_claimCount]; exact hv_HL_e hHL rfl rfl rfl), (fun a b ha hb => by obtain rfl : m_ho = a := Option.some.inj (f_m_ho.symm.trans ha); obtain rfl : mh = b := Option.some.inj (f_mh.symm.trans hb); rw [n_ho, n_mh, f_m_heardMany, f_m_claims]; exact hHO9), (fun c a b d e f hc ha hb hd he hf => by obtain rfl : qc = c := Option.some.inj (f_qc.symm.trans hc); obtain rfl : m_fc = a := Option.some.inj (f_m_fc.symm.trans ha); obtain rfl : m_nt = b := Option.some.inj (f_m_nt.symm.trans hb); obtain rfl : m_wt = d := Option.some.inj (f_m_wt.symm.trans hd); obtain rfl : m_sum = e := Option.some.inj (f_m_sum.symm.trans he); obtain rfl : mh = f := Option.some.inj (f_mh.symm.trans hf); exact ⟨cF9L, by rw [f_x_claimCount]; exact hFX, by rw [n_fc, n_nt, n_wt, n_sum, n_mh, f_x_claimCount]; exact hFR9⟩), (fun c a hc ha => by obtain rfl : qc = c := Option.some.inj (f_qc.symm.trans hc); obtain rfl : m_be = a := Option.some.inj (f_m_be.symm.trans ha); rw [n_be, f_x_claimCount]; exact hv_FX_e hBX rfl rfl), hx_ob2 f_qp f_m_bor (cl_bor.trans n_bor.symm), hx_ob2 f_qp f_m_kin (cl_kin.trans n_kin.symm), hx_ob2 f_qc f_m_sum (cl_sum.trans n_sum.symm), hx_ob2 f_qc f_m_fro (cl_fro.trans n_fro.symm), hx_ob2 f_qc f_m_fil (cl_fil.trans n_fil.symm), hx_ob2 f_qc f_mh (cl_hea.trans n_mh.symm), hx_ob2 f_qc f_m_jud (cl_jud.trans n_jud.symm), hx_ob2 f_qp f_m_dead (by rw [cl_dead, n_dead]; exact eq_dead), hx_ob2 f_qp f_m_isj (by rw [cl_isj, n_isj]; exact eq_isj), hx_ob2 f_qp f_m_dox (by rw [cl_dox, n_dox]; exact eq_dox), hx_ob2 f_qp f_m_doy (by rw [cl_doy, n_doy]; exact eq_doy), hx_ob2 f_qc f_m_fou (by rw [fw_393, fw_406]; exact hq_fou), hx_ob2 f_qc f_mt (by rw [fw_394, fw_405]; exact hq_tri), trivial⟩, ⟨hx_ob f_qa pf_qa, hx_ob f_qp pf_qp, hx_ob f_qc pf_qc, hx_ob f_qh pf_qh, (fun w q hw hq => by obtain rfl : qw = w := Option.some.inj (f_qw.symm.trans hw); obtain rfl : ql = q := Option.some.inj (f_ql.symm.trans hq); exact pf_ql)⟩, ⟨hx_ob f_mw (by rw [n_mw]; exact hwd), hx_ob f_mr (by rw [n_mr, f_m_acts]; exact hWK), hx_ob2 f_mp f_mn (by rw [n_mp, n_mn, f_m_acts]; exact hRP), hx_ob f_ml (by rw [n_ml, f_m_claims, f_m_acts]; exact hPL), hx_ob f_mh (by rw [n_mh, f_m_heardMany, f_m_claims]; exact hHC), hx_ob f_mt (by rw [fw_405]; exact hr_404.1), hx_ob2 f_mh f_m_fou (by rw [n_mh, fw_406, f_m_claims]; exact (hx_HF_s hHF (by omega) hr_404.2))⟩⟩ hl
    refine hb_if_eq (zx := x_386.toInt) (tgt := 795) hx hb rfl dL_law_788 (by decide) (fun c_407 => ?_) (fun c_407 => ?_)
    · skip
      refine lv_iconst (v := 0) hx hb dL_law_795 (by decide) ?_
      have zj_796 : (0 : Int32).toInt = 0 := by decide
      exact jn_796 (0 : Int32) ls (by decide) (by decide) (by omega) hl
    · skip
      refine lv_iconst (v := 1) hx hb dL_law_791 (by decide) ?_
      refine lv_goto (tgt := 796) hx hb dL_law_792 (by decide) ?_
      have zj_796 : (1 : Int32).toInt = 1 := by decide
      exact jn_796 (1 : Int32) ls (by decide) (by decide) (by omega) hl
  refine hb_if_eq (zx := x_386.toInt) (tgt := 772) hx hb rfl dL_law_765 (by decide) (fun c_408 => ?_) (fun c_408 => ?_)
  · skip
    refine lv_iconst (v := 0) hx hb dL_law_772 (by decide) ?_
    have zj_773 : (0 : Int32).toInt = 0 := by decide
    exact jn_773 (0 : Int32) ls (by decide) (by decide) (by omega) hl
  · skip
    refine lv_iconst (v := 1) hx hb dL_law_768 (by decide) ?_
    refine lv_goto (tgt := 773) hx hb dL_law_769 (by decide) ?_
    have zj_773 : (1 : Int32).toInt = 1 := by decide
    exact jn_773 (1 : Int32) ls (by decide) (by decide) (by omega) hl

set_option maxHeartbeats 4000000 in
set_option maxRecDepth 100000 in
theorem law_case_13 {p : Program} {e : Env} {s : State} {m : MethodId} {below : List Frame} {meth : Method} {c : Code} (l : Launch) {b LN : Nat} {xs : Nat → Int32} (hx : p.tables.exec = Jvm.exec) (hb : c.code = code) (hr : meth.sig.returnType = ret) (hlocks : meth.locks = false) (hml : c.maxLocals = 4) (hown : s.vm.findClass "SmallCourtLaw" = some m.cls) (hts : ∀ w ∈ hx_all, w.before #[Value.ref b] s = true) (hX : va_X b LN xs s s.heap) (hbl : b < s.heap.size) (hbA : ¬ s.heap.size ≤ b) (hLN : LN ≤ 3584) (dC : Nat → ClassId) (dI : Nat → Nat → Nat) (dA : Nat → ClassId) (b0 : hx_z) (ax am : Nat) (T1 : Int) (hT0 : 0 ≤ T1) (hT1 : T1 ≤ 511) (i : Int32) (hi0 : 0 ≤ i.toInt) (hiL : i.toInt + 7 ≤ LN) (CC SS : Nat) (hCC : CC + 3 ≤ 600000) (hSS : SS + 179 ≤ 7302250) (L1 : List Nat) (hl1 : hx_h) (H : Heap) (locs : List Loc) (ls : Array Slot) (hW : hx_W T_tb (P_ty dA) (dC, dI) vwCl (fun q : Nat => s.heap.size ≤ q) s.heap L1 hl1 s H locs) (hZ : hx_Xt (fun q : Nat => s.heap.size ≤ q) b0 s) (hI : hx_IV T1 ax am L1 hl1) (hl : lv_has ls 4 [(3, .int i), (2, .ref am), (1, .ref ax), (0, .ref b)]) (kk : ∀ (L2 : List Nat) (h2 : hx_h) (H2 : Heap) (locs2 : List Loc) (ls2 : Array Slot), hx_W T_tb (P_ty dA) (dC, dI) vwCl (fun q : Nat => s.heap.size ≤ q) s.heap L2 h2 s H2 locs2 → hx_IV (T1 + 1) ax am L2 h2 → lv_has ls2 4 [(3, .int i), (2, .ref am), (1, .ref ax), (0, .ref b)] → W p l e room_1 s m #[Value.ref b] below meth c H2 locs2 (CC + 3) (SS + 179) (lw_Z below #[Value.ref b] s) (F0 m 1379 ls2 [])) : W p l e room_1 s m #[Value.ref b] below meth c H locs CC SS (lw_Z below #[Value.ref b] s) (F0 m 803 ls []) := by
  obtain ⟨hT, gx, gm, ⟨he_nw, he_np, he_c0, he_tl, he_a0, he_m0, ho_ln, ho_lsd, ho_wkm, hn_qp, hn_qc, hk_of, hk_wf, hk_df, hk_kf, hk_sf, hkBD, hLQ, hLE, hkWD, hkDF, hkTP, hkAC, hkDP, hkHL, hkHO, hkFX, hkBX, hf_bor, hf_kin, hf_sum, hf_fro, hf_fil, hf_hea, hf_jud, hc_dead, hc_isj, hc_dox, hc_doy, hc_fou, hc_tri, -⟩, ⟨ia, ip, ic, ih, il⟩, ⟨jw, jr, jp, jl, jh, jt, jf⟩⟩ := hI
  obtain ⟨qa, f_qa, g_qa⟩ := hx_rf hT gx tt_9 (k := 5) (u := 43) rfl
  have pf_qa := ia qa f_qa
  obtain ⟨qp, f_qp, g_qp⟩ := hx_rf hT gx tt_9 (k := 7) (u := 44) rfl
  have pf_qp := ip qp f_qp
  obtain ⟨qc, f_qc, g_qc⟩ := hx_rf hT gx tt_9 (k := 10) (u := 45) rfl
  have pf_qc := ic qc f_qc
  obtain ⟨qh, f_qh, g_qh⟩ := hx_rf hT gx tt_9 (k := 12) (u := 46) rfl
  have pf_qh := ih qh f_qh
  obtain ⟨qw, f_qw, g_qw⟩ := hx_rf hT gx tt_9 (k := 19) (u := 8) rfl
  obtain ⟨ql, f_ql, g_ql⟩ := hx_rf hT g_qw tt_8 (k := 3) (u := 40) rfl
  have pf_ql := il qw ql f_qw f_ql
  obtain ⟨nw, f_m_now⟩ : ∃ y : Int32, hl1.2.1 am 0 = y := ⟨_, rfl⟩
  have b_nw := hT.gi gm tt_10 (k := 0) rfl
  rw [f_m_now] at b_nw
  have b_nw : 0 ≤ nw.toInt ∧ nw.toInt ≤ 7999 := b_nw
  obtain ⟨np, f_m_persons⟩ : ∃ y : Int32, hl1.2.1 am 20 = y := ⟨_, rfl⟩
  have b_np := hT.gi gm tt_10 (k := 20) rfl
  rw [f_m_persons] at b_np
  have b_np : 0 ≤ np.toInt ∧ np.toInt ≤ 40 := b_np
  obtain ⟨c0, f_m_claims⟩ : ∃ y : Int32, hl1.2.1 am 36 = y := ⟨_, rfl⟩
  have b_c0 := hT.gi gm tt_10 (k := 36) rfl
  rw [f_m_claims] at b_c0
  have b_c0 : 0 ≤ c0.toInt ∧ c0.toInt ≤ 100 := b_c0
  obtain ⟨tl, f_m_taped⟩ : ∃ y : Int32, hl1.2.1 am 7 = y := ⟨_, rfl⟩
  have b_tl := hT.gi gm tt_10 (k := 7) rfl
  rw [f_m_taped] at b_tl
  have b_tl : 0 ≤ tl.toInt ∧ tl.toInt ≤ 400 := b_tl
  obtain ⟨a0, f_m_acts⟩ : ∃ y : Int32, hl1.2.1 am 1 = y := ⟨_, rfl⟩
  have b_a0 := hT.gi gm tt_10 (k := 1) rfl
  rw [f_m_acts] at b_a0
  have b_a0 : 0 ≤ a0.toInt ∧ a0.toInt ≤ 8 := b_a0
  obtain ⟨m0, f_m_heardMany⟩ : ∃ y : Int32, hl1.2.1 am 57 = y := ⟨_, rfl⟩
  have b_m0 := hT.gi gm tt_10 (k := 57) rfl
  rw [f_m_heardMany] at b_m0
  have b_m0 : 0 ≤ m0.toInt ∧ m0.toInt ≤ 100 := b_m0
  obtain ⟨ln, f_m_lines⟩ : ∃ y : Int32, hl1.2.1 am 29 = y := ⟨_, rfl⟩
  have b_ln := hT.gi gm tt_10 (k := 29) rfl
  rw [f_m_lines] at b_ln
  have b_ln : 0 ≤ ln.toInt ∧ ln.toInt ≤ 400 := b_ln
  obtain ⟨lsd, f_m_listed⟩ : ∃ y : Int32, hl1.2.1 am 90 = y := ⟨_, rfl⟩
  have b_lsd := hT.gi gm tt_10 (k := 90) rfl
  rw [f_m_listed] at b_lsd
  have b_lsd : 0 ≤ lsd.toInt ∧ lsd.toInt ≤ 8 := b_lsd
  obtain ⟨wkm, f_m_walkedMany⟩ : ∃ y : Int32, hl1.2.1 am 92 = y := ⟨_, rfl⟩
  have b_wkm := hT.gi gm tt_10 (k := 92) rfl
  rw [f_m_walkedMany] at b_wkm
  have b_wkm : 0 ≤ wkm.toInt ∧ wkm.toInt ≤ 8 := b_wkm
  have f_x_now : hl1.2.1 ax 2 = nw := he_nw.trans f_m_now
  have f_x_personCount : hl1.2.1 ax 8 = np := he_np.trans f_m_persons
  have f_x_claimCount : hl1.2.1 ax 11 = c0 := he_c0.trans f_m_claims
  have f_x_tapeLength : hl1.2.1 ax 1 = tl := he_tl.trans f_m_taped
  have f_x_actCount : hl1.2.1 ax 6 = a0 := he_a0.trans f_m_acts
  have f_x_heardCount : hl1.2.1 ax 13 = m0 := he_m0.trans f_m_heardMany
  obtain ⟨mw, f_mw, g_mw⟩ := hx_rf hT gm tt_10 (k := 19) (u := 57) rfl
  obtain ⟨F_mw, n_mw⟩ : ∃ g : Nat → Int32, hl1.2.1 mw = g := ⟨_, rfl⟩
  obtain ⟨mr, f_mr, g_mr⟩ := hx_rf hT gm tt_10 (k := 3) (u := 50) rfl
  obtain ⟨F_mr, n_mr⟩ : ∃ g : Nat → Int32, hl1.2.1 mr = g := ⟨_, rfl⟩
  obtain ⟨mp, f_mp, g_mp⟩ := hx_rf hT gm tt_10 (k := 5) (u := 52) rfl
  obtain ⟨F_mp, n_mp⟩ : ∃ g : Nat → Int32, hl1.2.1 mp = g := ⟨_, rfl⟩
  obtain ⟨mn, f_mn, g_mn⟩ := hx_rf hT gm tt_10 (k := 4) (u := 51) rfl
  obtain ⟨F_mn, n_mn⟩ : ∃ g : Nat → Int32, hl1.2.1 mn = g := ⟨_, rfl⟩
  obtain ⟨ml, f_ml, g_ml⟩ := hx_rf hT gm tt_10 (k := 44) (u := 79) rfl
  obtain ⟨F_ml, n_ml⟩ : ∃ g : Nat → Int32, hl1.2.1 ml = g := ⟨_, rfl⟩
  obtain ⟨mh, f_mh, g_mh⟩ := hx_rf hT gm tt_10 (k := 47) (u := 82) rfl
  obtain ⟨F_mh, n_mh⟩ : ∃ g : Nat → Int32, hl1.2.1 mh = g := ⟨_, rfl⟩
  obtain ⟨mt, f_mt, g_mt⟩ := hx_rf hT gm tt_10 (k := 45) (u := 80) rfl
  obtain ⟨F_mt, n_mt⟩ : ∃ g : Nat → Int32, hl1.2.1 mt = g := ⟨_, rfl⟩
  obtain ⟨m_fou, f_m_fou, g_m_fou⟩ := hx_rf hT gm tt_10 (k := 46) (u := 81) rfl
  obtain ⟨F_m_fou, n_m_fou⟩ : ∃ g : Nat → Int32, hl1.2.1 m_fou = g := ⟨_, rfl⟩
  obtain ⟨qo_ln, f_qo_ln, g_qo_ln⟩ := hx_rf hT gx tt_9 (k := 9) (u := 1) rfl
  have f_o_ln : hl1.2.1 qo_ln 0 = ln := (ho_ln qo_ln f_qo_ln).trans f_m_lines
  have f_o_lsd : hl1.2.1 qw 0 = lsd := (ho_lsd qw f_qw).trans f_m_listed
  have f_o_wkm : hl1.2.1 qw 1 = wkm := (ho_wkm qw f_qw).trans f_m_walkedMany
  have nu_qp := hn_qp qp f_qp; rw [f_x_personCount] at nu_qp
  have nu_qc := hn_qc qc f_qc; rw [f_x_claimCount] at nu_qc
  obtain ⟨b_of, f_b_of, g_b_of⟩ := hx_rf hT g_qo_ln tt_1 (k := 1) (u := 13) rfl
  obtain ⟨B_of, n_b_of⟩ : ∃ g : Nat → Int32, hl1.2.1 b_of = g := ⟨_, rfl⟩
  obtain ⟨m_of, f_m_of, g_m_of⟩ := hx_rf hT gm tt_10 (k := 30) (u := 66) rfl
  obtain ⟨F_of, n_m_of⟩ : ∃ g : Nat → Int32, hl1.2.1 m_of = g := ⟨_, rfl⟩
  have eb_of := hk_of qo_ln b_of m_of f_qo_ln f_b_of f_m_of; rw [n_b_of, n_m_of, f_o_ln] at eb_of
  obtain ⟨b_wf, f_b_wf, g_b_wf⟩ := hx_rf hT g_qo_ln tt_1 (k := 2) (u := 14) rfl
  obtain ⟨B_wf, n_b_wf⟩ : ∃ g : Nat → Int32, hl1.2.1 b_wf = g := ⟨_, rfl⟩
  obtain ⟨m_wf, f_m_wf, g_m_wf⟩ := hx_rf hT gm tt_10 (k := 31) (u := 67) rfl
  obtain ⟨F_wf, n_m_wf⟩ : ∃ g : Nat → Int32, hl1.2.1 m_wf = g := ⟨_, rfl⟩
  have eb_wf := hk_wf qo_ln b_wf m_wf f_qo_ln f_b_wf f_m_wf; rw [n_b_wf, n_m_wf, f_o_ln] at eb_wf
  obtain ⟨b_df, f_b_df, g_b_df⟩ := hx_rf hT g_qo_ln tt_1 (k := 3) (u := 15) rfl
  obtain ⟨B_df, n_b_df⟩ : ∃ g : Nat → Int32, hl1.2.1 b_df = g := ⟨_, rfl⟩
  obtain ⟨m_df, f_m_df, g_m_df⟩ := hx_rf hT gm tt_10 (k := 32) (u := 68) rfl
  obtain ⟨F_df, n_m_df⟩ : ∃ g : Nat → Int32, hl1.2.1 m_df = g := ⟨_, rfl⟩
  have eb_df := hk_df qo_ln b_df m_df f_qo_ln f_b_df f_m_df; rw [n_b_df, n_m_df, f_o_ln] at eb_df
  obtain ⟨b_kf, f_b_kf, g_b_kf⟩ := hx_rf hT g_qo_ln tt_1 (k := 4) (u := 16) rfl
  obtain ⟨B_kf, n_b_kf⟩ : ∃ g : Nat → Int32, hl1.2.1 b_kf = g := ⟨_, rfl⟩
  obtain ⟨m_kf, f_m_kf, g_m_kf⟩ := hx_rf hT gm tt_10 (k := 33) (u := 69) rfl
  obtain ⟨F_kf, n_m_kf⟩ : ∃ g : Nat → Int32, hl1.2.1 m_kf = g := ⟨_, rfl⟩
  have eb_kf := hk_kf qo_ln b_kf m_kf f_qo_ln f_b_kf f_m_kf; rw [n_b_kf, n_m_kf, f_o_ln] at eb_kf
  obtain ⟨b_sf, f_b_sf, g_b_sf⟩ := hx_rf hT g_qo_ln tt_1 (k := 5) (u := 17) rfl
  obtain ⟨B_sf, n_b_sf⟩ : ∃ g : Nat → Int32, hl1.2.1 b_sf = g := ⟨_, rfl⟩
  obtain ⟨m_sf, f_m_sf, g_m_sf⟩ := hx_rf hT gm tt_10 (k := 34) (u := 70) rfl
  obtain ⟨F_sf, n_m_sf⟩ : ∃ g : Nat → Int32, hl1.2.1 m_sf = g := ⟨_, rfl⟩
  have eb_sf := hk_sf qo_ln b_sf m_sf f_qo_ln f_b_sf f_m_sf; rw [n_b_sf, n_m_sf, f_o_ln] at eb_sf
  obtain ⟨b_bf, f_b_bf, g_b_bf⟩ := hx_rf hT g_qo_ln tt_1 (k := 6) (u := 18) rfl
  obtain ⟨bfL, n_b_bf⟩ : ∃ g : Nat → Int32, hl1.2.1 b_bf = g := ⟨_, rfl⟩
  obtain ⟨hBD, hDY⟩ := hkBD qo_ln b_df b_bf f_qo_ln f_b_df f_b_bf; rw [n_b_df, n_b_bf, f_o_ln] at hBD; rw [n_b_df, f_o_ln] at hDY
  have hBDm := hy_BD_c eb_df hBD
  have hDYm : hy_DY F_df ln.toInt.toNat := fun x hx => by rw [← eb_df x hx]; exact hDY x hx
  have sb_list := hLQ qw ql qc f_qw f_ql f_qc
  obtain ⟨m_lst, f_m_lst, g_m_lst⟩ := hx_rf hT gm tt_10 (k := 91) (u := 112) rfl
  obtain ⟨F_lst, n_lst⟩ : ∃ g : Nat → Int32, hl1.2.1 m_lst = g := ⟨_, rfl⟩
  obtain ⟨c_lst, cl_lst⟩ : ∃ g : Nat → Int32, hx_col 8 hl1 ql 0 = g := ⟨_, rfl⟩
  have eq_lst := hLE qw ql m_lst f_qw f_ql f_m_lst; rw [cl_lst, n_lst] at eq_lst
  obtain ⟨qtp, f_qtp, g_qtp⟩ := hx_rf hT gx tt_9 (k := 0) (u := 42) rfl
  obtain ⟨m_tp, f_m_tp, g_m_tp⟩ := hx_rf hT gm tt_10 (k := 6) (u := 53) rfl
  obtain ⟨F_tp, n_tp⟩ : ∃ g : Nat → Int32, hl1.2.1 m_tp = g := ⟨_, rfl⟩
  have n_qtp : hl1.2.1 qtp = F_tp := (hkTP qtp m_tp f_qtp f_m_tp).trans n_tp
  obtain ⟨c_dead, cl_dead⟩ : ∃ g : Nat → Int32, hx_col 40 hl1 qp 7 = g := ⟨_, rfl⟩
  obtain ⟨m_dead, f_m_dead, g_m_dead⟩ := hx_rf hT gm tt_10 (k := 27) (u := 64) rfl
  obtain ⟨F_dead, n_dead⟩ : ∃ g : Nat → Int32, hl1.2.1 m_dead = g := ⟨_, rfl⟩
  have eq_dead := hc_dead qp m_dead f_qp f_m_dead; rw [cl_dead, n_dead] at eq_dead
  have z_dead : np.toInt.toNat < 40 → c_dead np.toInt.toNat = 0 := fun hj => hx_num_z nu_qp cl_dead hj (by omega)
  obtain ⟨c_isj, cl_isj⟩ : ∃ g : Nat → Int32, hx_col 40 hl1 qp 8 = g := ⟨_, rfl⟩
  obtain ⟨m_isj, f_m_isj, g_m_isj⟩ := hx_rf hT gm tt_10 (k := 28) (u := 65) rfl
  obtain ⟨F_isj, n_isj⟩ : ∃ g : Nat → Int32, hl1.2.1 m_isj = g := ⟨_, rfl⟩
  have eq_isj := hc_isj qp m_isj f_qp f_m_isj; rw [cl_isj, n_isj] at eq_isj
  have z_isj : np.toInt.toNat < 40 → c_isj np.toInt.toNat = 0 := fun hj => hx_num_z nu_qp cl_isj hj (by omega)
  obtain ⟨c_dox, cl_dox⟩ : ∃ g : Nat → Int32, hx_col 40 hl1 qp 5 = g := ⟨_, rfl⟩
  obtain ⟨m_dox, f_m_dox, g_m_dox⟩ := hx_rf hT gm tt_10 (k := 24) (u := 61) rfl
  obtain ⟨F_dox, n_dox⟩ : ∃ g : Nat → Int32, hl1.2.1 m_dox = g := ⟨_, rfl⟩
  have eq_dox := hc_dox qp m_dox f_qp f_m_dox; rw [cl_dox, n_dox] at eq_dox
  have z_dox : np.toInt.toNat < 40 → c_dox np.toInt.toNat = 0 := fun hj => hx_num_z nu_qp cl_dox hj (by omega)
  obtain ⟨c_doy, cl_doy⟩ : ∃ g : Nat → Int32, hx_col 40 hl1 qp 6 = g := ⟨_, rfl⟩
  obtain ⟨m_doy, f_m_doy, g_m_doy⟩ := hx_rf hT gm tt_10 (k := 25) (u := 62) rfl
  obtain ⟨F_doy, n_doy⟩ : ∃ g : Nat → Int32, hl1.2.1 m_doy = g := ⟨_, rfl⟩
  have eq_doy := hc_doy qp m_doy f_qp f_m_doy; rw [cl_doy, n_doy] at eq_doy
  have z_doy : np.toInt.toNat < 40 → c_doy np.toInt.toNat = 0 := fun hj => hx_num_z nu_qp cl_doy hj (by omega)
  obtain ⟨c_fou, cl_fou⟩ : ∃ g : Nat → Int32, hx_col 100 hl1 qc 10 = g := ⟨_, rfl⟩
  have eq_fou := hc_fou qc m_fou f_qc f_m_fou; rw [cl_fou, n_m_fou] at eq_fou
  have z_fou : c0.toInt.toNat < 100 → c_fou c0.toInt.toNat = 0 := fun hj => hx_num_z nu_qc cl_fou hj (by omega)
  obtain ⟨c_tri, cl_tri⟩ : ∃ g : Nat → Int32, hx_col 100 hl1 qc 9 = g := ⟨_, rfl⟩
  have eq_tri := hc_tri qc mt f_qc f_mt; rw [cl_tri, n_mt] at eq_tri
  have z_tri : c0.toInt.toNat < 100 → c_tri c0.toInt.toNat = 0 := fun hj => hx_num_z nu_qc cl_tri hj (by omega)
  obtain ⟨qlt, f_qlt, g_qlt⟩ := hx_rf hT g_qw tt_8 (k := 2) (u := 39) rfl
  obtain ⟨qlf, f_qlf, g_qlf⟩ := hx_rf hT g_qw tt_8 (k := 4) (u := 41) rfl
  obtain ⟨m_wkd, f_m_wkd, g_m_wkd⟩ := hx_rf hT gm tt_10 (k := 93) (u := 113) rfl
  obtain ⟨F_qlt, n_qlt⟩ : ∃ g : Nat → Int32, hl1.2.1 qlt = g := ⟨_, rfl⟩
  obtain ⟨F_m_wkd, n_m_wkd⟩ : ∃ g : Nat → Int32, hl1.2.1 m_wkd = g := ⟨_, rfl⟩
  have eb_wkd := hkWD qw qlt m_wkd f_qw f_qlt f_m_wkd; rw [n_qlt, n_m_wkd, f_o_wkm] at eb_wkd
  obtain ⟨m_aga, f_m_aga, g_m_aga⟩ := hx_rf hT gm tt_10 (k := 38) (u := 73) rfl
  obtain ⟨F_aga, n_aga⟩ : ∃ g : Nat → Int32, hl1.2.1 m_aga = g := ⟨_, rfl⟩
  have hDF := hkDF qc qp m_aga f_qc f_qp f_m_aga; rw [n_aga, f_x_claimCount] at hDF
  obtain ⟨qwo, f_qwo, g_qwo⟩ := hx_rf hT gx tt_9 (k := 4) (u := 0) rfl
  obtain ⟨m_ad, f_m_ad, g_m_ad⟩ := hx_rf hT gm tt_10 (k := 2) (u := 49) rfl
  obtain ⟨F_ad, n_ad⟩ : ∃ g : Nat → Int32, hl1.2.1 m_ad = g := ⟨_, rfl⟩
  obtain ⟨A9, hRA9, hCA9, hAC9, hAB⟩ := hkAC qa qwo m_ad mr mn mp qc ml f_qa f_qwo f_m_ad f_mr f_mn f_mp f_qc f_ml
  rw [f_x_actCount] at hRA9; rw [f_x_actCount, n_ad, n_mr, n_mn, n_mp] at hCA9
  obtain ⟨m_by, f_m_by, g_m_by⟩ := hx_rf hT gm tt_10 (k := 37) (u := 72) rfl
  obtain ⟨F_by, n_by⟩ : ∃ g : Nat → Int32, hl1.2.1 m_by = g := ⟨_, rfl⟩
  obtain ⟨m_ho, f_m_ho, g_m_ho⟩ := hx_rf hT gm tt_10 (k := 58) (u := 92) rfl
  obtain ⟨F_ho, n_ho⟩ : ∃ g : Nat → Int32, hl1.2.1 m_ho = g := ⟨_, rfl⟩
  obtain ⟨m_fc, f_m_fc, g_m_fc⟩ := hx_rf hT gm tt_10 (k := 53) (u := 88) rfl
  obtain ⟨F_fc, n_fc⟩ : ∃ g : Nat → Int32, hl1.2.1 m_fc = g := ⟨_, rfl⟩
  obtain ⟨m_nt, f_m_nt, g_m_nt⟩ := hx_rf hT gm tt_10 (k := 41) (u := 76) rfl
  obtain ⟨F_nt, n_nt⟩ : ∃ g : Nat → Int32, hl1.2.1 m_nt = g := ⟨_, rfl⟩
  obtain ⟨m_wt, f_m_wt, g_m_wt⟩ := hx_rf hT gm tt_10 (k := 42) (u := 77) rfl
  obtain ⟨F_wt, n_wt⟩ : ∃ g : Nat → Int32, hl1.2.1 m_wt = g := ⟨_, rfl⟩
  obtain ⟨m_be, f_m_be, g_m_be⟩ := hx_rf hT gm tt_10 (k := 52) (u := 87) rfl
  obtain ⟨F_be, n_be⟩ : ∃ g : Nat → Int32, hl1.2.1 m_be = g := ⟨_, rfl⟩
  obtain ⟨m_bor, f_m_bor, g_m_bor⟩ := hx_rf hT gm tt_10 (k := 21) (u := 58) rfl
  obtain ⟨F_bor, n_bor⟩ : ∃ g : Nat → Int32, hl1.2.1 m_bor = g := ⟨_, rfl⟩
  obtain ⟨m_kin, f_m_kin, g_m_kin⟩ := hx_rf hT gm tt_10 (k := 26) (u := 63) rfl
  obtain ⟨F_kin, n_kin⟩ : ∃ g : Nat → Int32, hl1.2.1 m_kin = g := ⟨_, rfl⟩
  obtain ⟨m_sum, f_m_sum, g_m_sum⟩ := hx_rf hT gm tt_10 (k := 39) (u := 74) rfl
  obtain ⟨F_sum, n_sum⟩ : ∃ g : Nat → Int32, hl1.2.1 m_sum = g := ⟨_, rfl⟩
  obtain ⟨m_fro, f_m_fro, g_m_fro⟩ := hx_rf hT gm tt_10 (k := 40) (u := 75) rfl
  obtain ⟨F_fro, n_fro⟩ : ∃ g : Nat → Int32, hl1.2.1 m_fro = g := ⟨_, rfl⟩
  obtain ⟨m_fil, f_m_fil, g_m_fil⟩ := hx_rf hT gm tt_10 (k := 43) (u := 78) rfl
  obtain ⟨F_fil, n_fil⟩ : ∃ g : Nat → Int32, hl1.2.1 m_fil = g := ⟨_, rfl⟩
  obtain ⟨m_jud, f_m_jud, g_m_jud⟩ := hx_rf hT gm tt_10 (k := 51) (u := 86) rfl
  obtain ⟨F_jud, n_jud⟩ : ∃ g : Nat → Int32, hl1.2.1 m_jud = g := ⟨_, rfl⟩
  have cl_bor : hx_col 40 hl1 qp 1 = F_bor := (hf_bor qp m_bor f_qp f_m_bor).trans n_bor
  have cl_kin : hx_col 40 hl1 qp 2 = F_kin := (hf_kin qp m_kin f_qp f_m_kin).trans n_kin
  have cl_sum : hx_col 100 hl1 qc 6 = F_sum := (hf_sum qc m_sum f_qc f_m_sum).trans n_sum
  have cl_fro : hx_col 100 hl1 qc 7 = F_fro := (hf_fro qc m_fro f_qc f_m_fro).trans n_fro
  have cl_fil : hx_col 100 hl1 qc 8 = F_fil := (hf_fil qc m_fil f_qc f_m_fil).trans n_fil
  have cl_hea : hx_col 100 hl1 qc 11 = F_mh := (hf_hea qc mh f_qc f_mh).trans n_mh
  have cl_jud : hx_col 100 hl1 qc 12 = F_jud := (hf_jud qc m_jud f_qc f_m_jud).trans n_jud
  have htb9 : ∀ c, c < 100 → 0 ≤ (c_tri c).toInt ∧ (c_tri c).toInt ≤ 512 := fun c hc => by rw [eq_tri c hc]; have w := hT.ei g_mt tt_80 (k := c) hc; rw [n_mt] at w; exact w
  have z_jud : F_jud c0.toInt.toNat = 0 := hx_num_z2 nu_qc cl_jud (by omega)
  have hDP := hkDP qc qp m_by f_qc f_qp f_m_by; rw [n_by, f_x_claimCount] at hDP
  have hHL := hkHL qh qc m_ho f_qh f_qc f_m_ho; rw [n_ho, f_x_heardCount, f_x_claimCount] at hHL
  have hHO9 := hkHO m_ho mh f_m_ho f_mh; rw [n_ho, n_mh, f_m_heardMany, f_m_claims] at hHO9
  obtain ⟨cF9L, hFX, hFR9⟩ := hkFX qc m_fc m_nt m_wt m_sum mh f_qc f_m_fc f_m_nt f_m_wt f_m_sum f_mh; rw [f_x_claimCount] at hFX; rw [n_fc, n_nt, n_wt, n_sum, n_mh, f_x_claimCount] at hFR9
  have hBX := hkBX qc m_be f_qc f_m_be; rw [n_be, f_x_claimCount] at hBX
  rw [n_ml, f_x_claimCount] at hAC9
  have hwd := jw mw f_mw; rw [n_mw] at hwd
  have hWK := jr mr f_mr; rw [n_mr, f_m_acts] at hWK
  have hRP := jp mp mn f_mp f_mn; rw [n_mp, n_mn, f_m_acts] at hRP
  have hPL := jl ml f_ml; rw [n_ml, f_m_claims, f_m_acts] at hPL
  have hHC := jh mh f_mh; rw [n_mh, f_m_heardMany, f_m_claims] at hHC
  have hTR := jt mt f_mt; rw [n_mt] at hTR
  have hHF := jf mh m_fou f_mh f_m_fou; rw [n_mh, n_m_fou, f_m_claims] at hHF
  refine lv_aload_n hx hb dL_law_803 rfl (lv_at hl 2 rfl) ?_
  refine lv_aload_n hx hb dL_law_804 rfl (lv_at hl 3 rfl) ?_
  refine lv_iload_n hx hb dL_law_805 rfl (lv_at hl 0 rfl) ?_
  refine lv_iconst (v := 1) hx hb dL_law_806 (by decide) ?_
  refine lv_iadd hx hb dL_law_807 ?_
  have rg_409 := i32_r i
  refine lv_topi (fun x_410 ex_410 => ?_)
  have zx_410 : x_410.toInt = i.toInt + 1 := by rw [ex_410]; exact i32_add rfl (by decide) (by omega) (by omega)
  refine va_sld hx hb hX hbl hbA hW.2.2.2.1 (vp_in_iff.mpr ⟨by omega, by omega⟩) dL_law_808 ?_
  refine lv_topi (fun x_411 ex_411 => ?_)
  refine lv_aload_n hx hb dL_law_809 rfl (lv_at hl 3 rfl) ?_
  refine lv_iload_n hx hb dL_law_810 rfl (lv_at hl 0 rfl) ?_
  refine lv_iconst (v := 2) hx hb dL_law_811 (by decide) ?_
  refine lv_iadd hx hb dL_law_812 ?_
  refine lv_topi (fun x_412 ex_412 => ?_)
  have zx_412 : x_412.toInt = i.toInt + 2 := by rw [ex_412]; exact i32_add rfl (by decide) (by omega) (by omega)
  refine va_sld hx hb hX hbl hbA hW.2.2.2.1 (vp_in_iff.mpr ⟨by omega, by omega⟩) dL_law_813 ?_
  refine lv_topi (fun x_413 ex_413 => ?_)
  have jn_822 : ∀ (xj_414 : Int32) (ls : Array Slot), 0 ≤ xj_414.toInt → xj_414.toInt ≤ 1 → (x_413.toInt = 0 ∧ xj_414.toInt = 0) ∨ (x_413.toInt ≠ 0 ∧ xj_414.toInt = 1) → lv_has ls 4 [(3, .int i), (2, .ref am), (1, .ref ax), (0, .ref b)] → W p l e room_1 s m #[Value.ref b] below meth c H locs (CC) (SS) (lw_Z below #[Value.ref b] s) (F0 m 822 ls [.int xj_414, .int x_411, .ref ax]) := by
    intro xj_414 ls blxj_414 buxj_414 jcxj_414 hl
    refine lv_aload_n hx hb dL_law_822 rfl (lv_at hl 3 rfl) ?_
    refine lv_iload_n hx hb dL_law_823 rfl (lv_at hl 0 rfl) ?_
    refine lv_iconst (v := 3) hx hb dL_law_824 (by decide) ?_
    refine lv_iadd hx hb dL_law_825 ?_
    refine lv_topi (fun x_415 ex_415 => ?_)
    have zx_415 : x_415.toInt = i.toInt + 3 := by rw [ex_415]; exact i32_add rfl (by decide) (by omega) (by omega)
    refine va_sld hx hb hX hbl hbA hW.2.2.2.1 (vp_in_iff.mpr ⟨by omega, by omega⟩) dL_law_826 ?_
    refine lv_topi (fun x_416 ex_416 => ?_)
    have jn_835 : ∀ (xj_417 : Int32) (ls : Array Slot), 0 ≤ xj_417.toInt → xj_417.toInt ≤ 1 → (x_416.toInt = 0 ∧ xj_417.toInt = 0) ∨ (x_416.toInt ≠ 0 ∧ xj_417.toInt = 1) → lv_has ls 4 [(3, .int i), (2, .ref am), (1, .ref ax), (0, .ref b)] → W p l e room_1 s m #[Value.ref b] below meth c H locs (CC) (SS) (lw_Z below #[Value.ref b] s) (F0 m 835 ls [.int xj_417, .int xj_414, .int x_411, .ref ax]) := by
      intro xj_417 ls blxj_417 buxj_417 jcxj_417 hl
      refine lv_aload_n hx hb dL_law_835 rfl (lv_at hl 3 rfl) ?_
      refine lv_iload_n hx hb dL_law_836 rfl (lv_at hl 0 rfl) ?_
      refine lv_iconst (v := 4) hx hb dL_law_837 (by decide) ?_
      refine lv_iadd hx hb dL_law_838 ?_
      refine lv_topi (fun x_418 ex_418 => ?_)
      have zx_418 : x_418.toInt = i.toInt + 4 := by rw [ex_418]; exact i32_add rfl (by decide) (by omega) (by omega)
      refine va_sld hx hb hX hbl hbA hW.2.2.2.1 (vp_in_iff.mpr ⟨by omega, by omega⟩) dL_law_839 ?_
      refine lv_topi (fun x_419 ex_419 => ?_)
      have hTo := hT
      obtain ⟨q_420, fq_420, gq_420⟩ := hx_rf hT g_qo_ln tt_1 (k := 7) (u := 19) rfl
      obtain ⟨q_421, fq_421, gq_421⟩ := hx_rf hT gx tt_9 (k := 15) (u := 47) rfl
      obtain ⟨fa_422, nfa_422⟩ : ∃ g : Nat → Int32, hl1.2.1 q_420 = g := ⟨_, rfl⟩
      obtain ⟨fa_423, nfa_423⟩ : ∃ g : Nat → Int32, hl1.2.1 q_421 = g := ⟨_, rfl⟩
      refine hx_goi (hx_runV (As := [.int x_411, .int xj_414, .int xj_417, .int x_419]) (rest := []) ⟨hx, hb, hml, hown, hts⟩ hW gx tt_9 (T := TX9) (N := 20) rfl (t_X9_hear_v l dC dI dA L1 hl1 H.size ax x_411 xj_414 xj_417 x_419 hT gx qp g_qp f_qp qc g_qc f_qc qh g_qh f_qh qo_ln g_qo_ln f_qo_ln b_of g_b_of f_b_of b_wf g_b_wf f_b_wf b_df g_b_df f_b_df b_kf g_b_kf f_b_kf b_sf g_b_sf f_b_sf b_bf g_b_bf f_b_bf q_420 gq_420 fq_420 q_421 gq_421 fq_421 B_of n_b_of B_wf n_b_wf B_df n_b_df B_kf n_b_kf B_sf n_b_sf bfL n_b_bf fa_422 nfa_422 fa_423 nfa_423 c0 f_x_claimCount np f_x_personCount m0 f_x_heardCount nw f_x_now ln f_o_ln c_dead cl_dead c_isj cl_isj F_kin cl_kin F_bor cl_bor c_fou cl_fou F_mh cl_hea F_jud cl_jud F_sum cl_sum F_fro cl_fro F_fil cl_fil nu_qp nu_qc ⟨by omega, by omega⟩ ⟨by omega, by omega⟩ F_aga F_by F_ml F_ho cF9L F_be A9 hDF hDP hAC9 hAB hFX hBX hHL hHC hBD hDY pf_qp pf_qc pf_qh) (cwV 4 hts (hx_gV kw_814 kw_811 kw_812 kw_813 kw_94) rfl rfl rfl (by decide +kernel) ⟨Nat.le_of_ble_eq_true rfl, Nat.le_of_ble_eq_true rfl⟩) rfl hl.1 rfl (Nat.le_of_ble_eq_true rfl) dL_law_840 ⟨(show CC + 0 ≤ 600000 from by omega), (show SS + 0 ≤ 7302250 from by omega)⟩) hW (fun r_426 L_424 h_425 H locs p_427 hW => ?_)
      obtain ⟨⟨w_430, w_431, w_432, fw_430, fw_431, fw_432, hr_428⟩, hT, hs, pf_429⟩ := p_427
      replace hT : hx_T T_tb L_424 h_425 := hT
      replace hs : hx_S T_tb [(2, 11), (2, 12), (9, 13), (19, 0), (20, 0), (21, 0), (46, 0), (47, 0)] L1 hl1 L_424 h_425 := hs
      replace f_qa := (hs.o gx trivial rfl).2.trans f_qa
      replace f_qp := (hs.o gx trivial rfl).2.trans f_qp
      replace f_qc := (hs.o gx trivial rfl).2.trans f_qc
      replace f_qh := (hs.o gx trivial rfl).2.trans f_qh
      replace f_qw := (hs.o gx trivial rfl).2.trans f_qw
      replace f_ql := (hs.o g_qw trivial rfl).2.trans f_ql
      replace f_m_now := (hs.o gm trivial rfl).1.trans f_m_now
      replace f_m_persons := (hs.o gm trivial rfl).1.trans f_m_persons
      replace f_m_claims := (hs.o gm trivial rfl).1.trans f_m_claims
      replace f_m_taped := (hs.o gm trivial rfl).1.trans f_m_taped
      replace f_m_acts := (hs.o gm trivial rfl).1.trans f_m_acts
      replace f_m_heardMany := (hs.o gm trivial rfl).1.trans f_m_heardMany
      replace f_m_lines := (hs.o gm trivial rfl).1.trans f_m_lines
      replace f_m_listed := (hs.o gm trivial rfl).1.trans f_m_listed
      replace f_m_walkedMany := (hs.o gm trivial rfl).1.trans f_m_walkedMany
      replace f_x_now := (hs.o gx trivial rfl).1.trans f_x_now
      replace f_x_personCount := (hs.o gx trivial rfl).1.trans f_x_personCount
      replace f_x_claimCount := (hs.o gx trivial rfl).1.trans f_x_claimCount
      replace f_x_tapeLength := (hs.o gx trivial rfl).1.trans f_x_tapeLength
      replace f_x_actCount := (hs.o gx trivial rfl).1.trans f_x_actCount
      replace f_mw := (hs.o gm trivial rfl).2.trans f_mw
      replace f_mr := (hs.o gm trivial rfl).2.trans f_mr
      replace f_mp := (hs.o gm trivial rfl).2.trans f_mp
      replace f_mn := (hs.o gm trivial rfl).2.trans f_mn
      replace f_ml := (hs.o gm trivial rfl).2.trans f_ml
      replace f_mh := (hs.o gm trivial rfl).2.trans f_mh
      replace f_mt := (hs.o gm trivial rfl).2.trans f_mt
      replace f_m_fou := (hs.o gm trivial rfl).2.trans f_m_fou
      replace f_qo_ln := (hs.o gx trivial rfl).2.trans f_qo_ln
      replace f_o_ln := (hs.o g_qo_ln trivial rfl).1.trans f_o_ln
      replace f_o_lsd := (hs.o g_qw trivial rfl).1.trans f_o_lsd
      replace f_o_wkm := (hs.o g_qw trivial rfl).1.trans f_o_wkm
      replace f_b_of := (hs.o g_qo_ln trivial rfl).2.trans f_b_of
      replace f_m_of := (hs.o gm trivial rfl).2.trans f_m_of
      replace f_b_wf := (hs.o g_qo_ln trivial rfl).2.trans f_b_wf
      replace f_m_wf := (hs.o gm trivial rfl).2.trans f_m_wf
      replace f_b_df := (hs.o g_qo_ln trivial rfl).2.trans f_b_df
      replace f_m_df := (hs.o gm trivial rfl).2.trans f_m_df
      replace f_b_kf := (hs.o g_qo_ln trivial rfl).2.trans f_b_kf
      replace f_m_kf := (hs.o gm trivial rfl).2.trans f_m_kf
      replace f_b_sf := (hs.o g_qo_ln trivial rfl).2.trans f_b_sf
      replace f_m_sf := (hs.o gm trivial rfl).2.trans f_m_sf
      replace f_b_bf := (hs.o g_qo_ln trivial rfl).2.trans f_b_bf
      replace f_m_lst := (hs.o gm trivial rfl).2.trans f_m_lst
      replace f_qtp := (hs.o gx trivial rfl).2.trans f_qtp
      replace f_m_tp := (hs.o gm trivial rfl).2.trans f_m_tp
      replace f_m_dead := (hs.o gm trivial rfl).2.trans f_m_dead
      replace f_m_isj := (hs.o gm trivial rfl).2.trans f_m_isj
      replace f_m_dox := (hs.o gm trivial rfl).2.trans f_m_dox
      replace f_m_doy := (hs.o gm trivial rfl).2.trans f_m_doy
      replace f_qlt := (hs.o g_qw trivial rfl).2.trans f_qlt
      replace f_qlf := (hs.o g_qw trivial rfl).2.trans f_qlf
      replace f_m_wkd := (hs.o gm trivial rfl).2.trans f_m_wkd
      replace f_m_aga := (hs.o gm trivial rfl).2.trans f_m_aga
      replace f_qwo := (hs.o gx trivial rfl).2.trans f_qwo
      replace f_m_ad := (hs.o gm trivial rfl).2.trans f_m_ad
      replace f_m_by := (hs.o gm trivial rfl).2.trans f_m_by
      replace f_m_ho := (hs.o gm trivial rfl).2.trans f_m_ho
      replace f_m_fc := (hs.o gm trivial rfl).2.trans f_m_fc
      replace f_m_nt := (hs.o gm trivial rfl).2.trans f_m_nt
      replace f_m_wt := (hs.o gm trivial rfl).2.trans f_m_wt
      replace f_m_be := (hs.o gm trivial rfl).2.trans f_m_be
      replace f_m_bor := (hs.o gm trivial rfl).2.trans f_m_bor
      replace f_m_kin := (hs.o gm trivial rfl).2.trans f_m_kin
      replace f_m_sum := (hs.o gm trivial rfl).2.trans f_m_sum
      replace f_m_fro := (hs.o gm trivial rfl).2.trans f_m_fro
      replace f_m_fil := (hs.o gm trivial rfl).2.trans f_m_fil
      replace f_m_jud := (hs.o gm trivial rfl).2.trans f_m_jud
      replace fq_420 := (hs.o g_qo_ln trivial rfl).2.trans fq_420
      replace fq_421 := (hs.o gx trivial rfl).2.trans fq_421
      replace pf_qa : ∀ j : Nat, (j : Int) < (h_425.2.1 ax 6).toInt → h_425.2.2 qa j ≠ none := by
        intro j hj; rw [(hs.o gx trivial rfl).1] at hj; rw [(hs.a g_qa rfl j).2]; exact pf_qa j hj
      replace pf_qp : ∀ j : Nat, (j : Int) < (h_425.2.1 ax 8).toInt → h_425.2.2 qp j ≠ none := by
        intro j hj; rw [(hs.o gx trivial rfl).1] at hj; rw [(hs.a g_qp rfl j).2]; exact pf_qp j hj
      replace pf_qc : ∀ j : Nat, (j : Int) < (h_425.2.1 ax 11).toInt → h_425.2.2 qc j ≠ none := by
        intro j hj; rw [(hs.o gx trivial rfl).1] at hj; rw [(hs.a g_qc rfl j).2]; exact pf_qc j hj
      replace pf_ql : ∀ j : Nat, (j : Int) < (h_425.2.1 qw 0).toInt → h_425.2.2 ql j ≠ none := by
        intro j hj; rw [(hs.o g_qw trivial rfl).1] at hj; rw [(hs.a g_ql rfl j).2]; exact pf_ql j hj
      replace cl_lst : hx_col 8 h_425 ql 0 = c_lst := (hx_col_S hs hTo g_ql tt_40 tt_2 rfl rfl).trans cl_lst
      replace cl_dead : hx_col 40 h_425 qp 7 = c_dead := (hx_col_S hs hTo g_qp tt_44 tt_4 rfl rfl).trans cl_dead
      replace cl_isj : hx_col 40 h_425 qp 8 = c_isj := (hx_col_S hs hTo g_qp tt_44 tt_4 rfl rfl).trans cl_isj
      replace cl_dox : hx_col 40 h_425 qp 5 = c_dox := (hx_col_S hs hTo g_qp tt_44 tt_4 rfl rfl).trans cl_dox
      replace cl_doy : hx_col 40 h_425 qp 6 = c_doy := (hx_col_S hs hTo g_qp tt_44 tt_4 rfl rfl).trans cl_doy
      replace cl_fou : hx_col 100 h_425 qc 10 = c_fou := (hx_col_S hs hTo g_qc tt_45 tt_2 rfl rfl).trans cl_fou
      replace cl_tri : hx_col 100 h_425 qc 9 = c_tri := (hx_col_S hs hTo g_qc tt_45 tt_2 rfl rfl).trans cl_tri
      replace cl_bor : hx_col 40 h_425 qp 1 = F_bor := (hx_col_S hs hTo g_qp tt_44 tt_4 rfl rfl).trans cl_bor
      replace cl_kin : hx_col 40 h_425 qp 2 = F_kin := (hx_col_S hs hTo g_qp tt_44 tt_4 rfl rfl).trans cl_kin
      replace cl_sum : hx_col 100 h_425 qc 6 = F_sum := (hx_col_S hs hTo g_qc tt_45 tt_2 rfl rfl).trans cl_sum
      replace cl_fro : hx_col 100 h_425 qc 7 = F_fro := (hx_col_S hs hTo g_qc tt_45 tt_2 rfl rfl).trans cl_fro
      replace cl_fil : hx_col 100 h_425 qc 8 = F_fil := (hx_col_S hs hTo g_qc tt_45 tt_2 rfl rfl).trans cl_fil
      replace nu_qp : hx_num 40 h_425 qp 0 (np.toInt) := hx_num_S hs hTo g_qp tt_44 tt_4 rfl rfl nu_qp
      replace nu_qc : hx_num 100 h_425 qc 0 (c0.toInt) := hx_num_S hs hTo g_qc tt_45 tt_2 rfl rfl nu_qc
      replace sb_list : hx_LQ 8 100 h_425 ql qc := hx_LQ_S hs g_ql g_qc rfl rfl sb_list
      replace hDF : hw_DF h_425 qc qp 2 F_aga c0.toInt := hw_DF_S hs hTo g_qc g_qp tt_45 tt_2 rfl rfl rfl hDF
      replace hRA9 : hv_RA h_425 qa qwo a0.toInt A9 := hv_RA_S hs hTo g_qa g_qwo tt_43 tt_0 rfl rfl rfl rfl rfl rfl (by omega) hRA9
      replace hDP : hw_DF h_425 qc qp 1 F_by c0.toInt := hw_DF_S hs hTo g_qc g_qp tt_45 tt_2 rfl rfl rfl hDP
      replace hAC9 : hv_AC h_425 qc F_ml c0.toInt A9 := hv_AC_S hs hTo g_qc tt_45 tt_2 rfl tt_0 rfl rfl rfl rfl rfl rfl rfl hAC9
      replace n_mw : h_425.2.1 mw = F_mw := (funext fun j => (hs.a g_mw rfl j).1).trans n_mw
      replace n_mr : h_425.2.1 mr = F_mr := (funext fun j => (hs.a g_mr rfl j).1).trans n_mr
      replace n_mp : h_425.2.1 mp = F_mp := (funext fun j => (hs.a g_mp rfl j).1).trans n_mp
      replace n_mn : h_425.2.1 mn = F_mn := (funext fun j => (hs.a g_mn rfl j).1).trans n_mn
      replace n_ml : h_425.2.1 ml = F_ml := (funext fun j => (hs.a g_ml rfl j).1).trans n_ml
      replace n_mh : h_425.2.1 mh = F_mh := (funext fun j => (hs.a g_mh rfl j).1).trans n_mh
      replace n_mt : h_425.2.1 mt = F_mt := (funext fun j => (hs.a g_mt rfl j).1).trans n_mt
      replace n_m_fou : h_425.2.1 m_fou = F_m_fou := (funext fun j => (hs.a g_m_fou rfl j).1).trans n_m_fou
      replace n_b_of : h_425.2.1 b_of = B_of := (funext fun j => (hs.a g_b_of rfl j).1).trans n_b_of
      replace n_m_of : h_425.2.1 m_of = F_of := (funext fun j => (hs.a g_m_of rfl j).1).trans n_m_of
      replace n_b_wf : h_425.2.1 b_wf = B_wf := (funext fun j => (hs.a g_b_wf rfl j).1).trans n_b_wf
      replace n_m_wf : h_425.2.1 m_wf = F_wf := (funext fun j => (hs.a g_m_wf rfl j).1).trans n_m_wf
      replace n_b_df : h_425.2.1 b_df = B_df := (funext fun j => (hs.a g_b_df rfl j).1).trans n_b_df
      replace n_m_df : h_425.2.1 m_df = F_df := (funext fun j => (hs.a g_m_df rfl j).1).trans n_m_df
      replace n_b_kf : h_425.2.1 b_kf = B_kf := (funext fun j => (hs.a g_b_kf rfl j).1).trans n_b_kf
      replace n_m_kf : h_425.2.1 m_kf = F_kf := (funext fun j => (hs.a g_m_kf rfl j).1).trans n_m_kf
      replace n_b_sf : h_425.2.1 b_sf = B_sf := (funext fun j => (hs.a g_b_sf rfl j).1).trans n_b_sf
      replace n_m_sf : h_425.2.1 m_sf = F_sf := (funext fun j => (hs.a g_m_sf rfl j).1).trans n_m_sf
      replace n_b_bf : h_425.2.1 b_bf = bfL := (funext fun j => (hs.a g_b_bf rfl j).1).trans n_b_bf
      replace n_lst : h_425.2.1 m_lst = F_lst := (funext fun j => (hs.a g_m_lst rfl j).1).trans n_lst
      replace n_tp : h_425.2.1 m_tp = F_tp := (funext fun j => (hs.a g_m_tp rfl j).1).trans n_tp
      replace n_qtp : h_425.2.1 qtp = F_tp := (funext fun j => (hs.a g_qtp rfl j).1).trans n_qtp
      replace n_dead : h_425.2.1 m_dead = F_dead := (funext fun j => (hs.a g_m_dead rfl j).1).trans n_dead
      replace n_isj : h_425.2.1 m_isj = F_isj := (funext fun j => (hs.a g_m_isj rfl j).1).trans n_isj
      replace n_dox : h_425.2.1 m_dox = F_dox := (funext fun j => (hs.a g_m_dox rfl j).1).trans n_dox
      replace n_doy : h_425.2.1 m_doy = F_doy := (funext fun j => (hs.a g_m_doy rfl j).1).trans n_doy
      replace n_qlt : h_425.2.1 qlt = F_qlt := (funext fun j => (hs.a g_qlt rfl j).1).trans n_qlt
      replace n_m_wkd : h_425.2.1 m_wkd = F_m_wkd := (funext fun j => (hs.a g_m_wkd rfl j).1).trans n_m_wkd
      replace n_aga : h_425.2.1 m_aga = F_aga := (funext fun j => (hs.a g_m_aga rfl j).1).trans n_aga
      replace n_ad : h_425.2.1 m_ad = F_ad := (funext fun j => (hs.a g_m_ad rfl j).1).trans n_ad
      replace n_by : h_425.2.1 m_by = F_by := (funext fun j => (hs.a g_m_by rfl j).1).trans n_by
      replace n_ho : h_425.2.1 m_ho = F_ho := (funext fun j => (hs.a g_m_ho rfl j).1).trans n_ho
      replace n_fc : h_425.2.1 m_fc = F_fc := (funext fun j => (hs.a g_m_fc rfl j).1).trans n_fc
      replace n_nt : h_425.2.1 m_nt = F_nt := (funext fun j => (hs.a g_m_nt rfl j).1).trans n_nt
      replace n_wt : h_425.2.1 m_wt = F_wt := (funext fun j => (hs.a g_m_wt rfl j).1).trans n_wt
      replace n_be : h_425.2.1 m_be = F_be := (funext fun j => (hs.a g_m_be rfl j).1).trans n_be
      replace n_bor : h_425.2.1 m_bor = F_bor := (funext fun j => (hs.a g_m_bor rfl j).1).trans n_bor
      replace n_kin : h_425.2.1 m_kin = F_kin := (funext fun j => (hs.a g_m_kin rfl j).1).trans n_kin
      replace n_sum : h_425.2.1 m_sum = F_sum := (funext fun j => (hs.a g_m_sum rfl j).1).trans n_sum
      replace n_fro : h_425.2.1 m_fro = F_fro := (funext fun j => (hs.a g_m_fro rfl j).1).trans n_fro
      replace n_fil : h_425.2.1 m_fil = F_fil := (funext fun j => (hs.a g_m_fil rfl j).1).trans n_fil
      replace n_jud : h_425.2.1 m_jud = F_jud := (funext fun j => (hs.a g_m_jud rfl j).1).trans n_jud
      replace gx := gx.S hs
      replace gm := gm.S hs
      replace g_qa := g_qa.S hs
      replace g_qp := g_qp.S hs
      replace g_qc := g_qc.S hs
      replace g_qh := g_qh.S hs
      replace g_qw := g_qw.S hs
      replace g_ql := g_ql.S hs
      replace g_mw := g_mw.S hs
      replace g_mr := g_mr.S hs
      replace g_mp := g_mp.S hs
      replace g_mn := g_mn.S hs
      replace g_ml := g_ml.S hs
      replace g_mh := g_mh.S hs
      replace g_mt := g_mt.S hs
      replace g_m_fou := g_m_fou.S hs
      replace g_qo_ln := g_qo_ln.S hs
      replace g_b_of := g_b_of.S hs
      replace g_m_of := g_m_of.S hs
      replace g_b_wf := g_b_wf.S hs
      replace g_m_wf := g_m_wf.S hs
      replace g_b_df := g_b_df.S hs
      replace g_m_df := g_m_df.S hs
      replace g_b_kf := g_b_kf.S hs
      replace g_m_kf := g_m_kf.S hs
      replace g_b_sf := g_b_sf.S hs
      replace g_m_sf := g_m_sf.S hs
      replace g_b_bf := g_b_bf.S hs
      replace g_m_lst := g_m_lst.S hs
      replace g_qtp := g_qtp.S hs
      replace g_m_tp := g_m_tp.S hs
      replace g_m_dead := g_m_dead.S hs
      replace g_m_isj := g_m_isj.S hs
      replace g_m_dox := g_m_dox.S hs
      replace g_m_doy := g_m_doy.S hs
      replace g_qlt := g_qlt.S hs
      replace g_qlf := g_qlf.S hs
      replace g_m_wkd := g_m_wkd.S hs
      replace g_m_aga := g_m_aga.S hs
      replace g_qwo := g_qwo.S hs
      replace g_m_ad := g_m_ad.S hs
      replace g_m_by := g_m_by.S hs
      replace g_m_ho := g_m_ho.S hs
      replace g_m_fc := g_m_fc.S hs
      replace g_m_nt := g_m_nt.S hs
      replace g_m_wt := g_m_wt.S hs
      replace g_m_be := g_m_be.S hs
      replace g_m_bor := g_m_bor.S hs
      replace g_m_kin := g_m_kin.S hs
      replace g_m_sum := g_m_sum.S hs
      replace g_m_fro := g_m_fro.S hs
      replace g_m_fil := g_m_fil.S hs
      replace g_m_jud := g_m_jud.S hs
      replace gq_420 := gq_420.S hs
      replace gq_421 := gq_421.S hs
      have pf_429 : ∀ j : Nat, (j : Int) < (h_425.2.1 ax 13).toInt → h_425.2.2 qh j ≠ none := pf_429
      have fw_430 : h_425.2.1 ax 13 = w_430 := fw_430
      have bw_430 := hT.gi gx tt_9 (k := 13) rfl
      rw [fw_430] at bw_430
      have bw_430 : 0 ≤ w_430.toInt ∧ w_430.toInt ≤ 100 := bw_430
      have fw_431 : hx_col 100 h_425 qc 11 = w_431 := fw_431
      have fw_432 : hx_col 100 h_425 qc 12 = w_432 := fw_432
      obtain ⟨cF9, bFn9, hofn9, hHS9, hFXn9, hBXn9, hHLn9, hCB9⟩ := hr_428
      have hFXn9 : hv_FX 8 4 h_425 qc cF9 c0.toInt := hFXn9
      have hBXn9 : hv_FX 3 5 h_425 qc bFn9 c0.toInt := hBXn9
      have hHLn9 : hv_HL h_425 qh qc hofn9 w_430.toInt c0.toInt := hHLn9
      refine lv_pop hx hb dL_law_843 rfl ?_
      refine lv_aload_n hx hb dL_law_844 rfl (lv_at hl 1 rfl) ?_
      refine lv_aload_n hx hb dL_law_845 rfl (lv_at hl 3 rfl) ?_
      refine lv_iload_n hx hb dL_law_846 rfl (lv_at hl 0 rfl) ?_
      refine lv_iconst (v := 1) hx hb dL_law_847 (by decide) ?_
      refine lv_iadd hx hb dL_law_848 ?_
      refine lv_topi (fun x_433 ex_433 => ?_)
      have zx_433 : x_433.toInt = i.toInt + 1 := by rw [ex_433]; exact i32_add rfl (by decide) (by omega) (by omega)
      obtain rfl : x_410 = x_433 := ex_410.trans ex_433.symm
      refine va_sld hx hb hX hbl hbA hW.2.2.2.1 (vp_in_iff.mpr ⟨by omega, by omega⟩) dL_law_849 ?_
      refine lv_topi (fun x_434 ex_434 => ?_)
      obtain rfl : x_411 = x_434 := ex_411.trans ex_434.symm
      refine lv_aload_n hx hb dL_law_850 rfl (lv_at hl 3 rfl) ?_
      refine lv_iload_n hx hb dL_law_851 rfl (lv_at hl 0 rfl) ?_
      refine lv_iconst (v := 2) hx hb dL_law_852 (by decide) ?_
      refine lv_iadd hx hb dL_law_853 ?_
      refine lv_topi (fun x_435 ex_435 => ?_)
      have zx_435 : x_435.toInt = i.toInt + 2 := by rw [ex_435]; exact i32_add rfl (by decide) (by omega) (by omega)
      obtain rfl : x_412 = x_435 := ex_412.trans ex_435.symm
      refine va_sld hx hb hX hbl hbA hW.2.2.2.1 (vp_in_iff.mpr ⟨by omega, by omega⟩) dL_law_854 ?_
      refine lv_topi (fun x_436 ex_436 => ?_)
      obtain rfl : x_413 = x_436 := ex_413.trans ex_436.symm
      have jn_863 : ∀ (xj_437 : Int32) (ls : Array Slot), 0 ≤ xj_437.toInt → xj_437.toInt ≤ 1 → (x_413.toInt = 0 ∧ xj_437.toInt = 0) ∨ (x_413.toInt ≠ 0 ∧ xj_437.toInt = 1) → lv_has ls 4 [(3, .int i), (2, .ref am), (1, .ref ax), (0, .ref b)] → W p l e room_1 s m #[Value.ref b] below meth c H locs (CC + 0) (SS + 0) (lw_Z below #[Value.ref b] s) (F0 m 863 ls [.int xj_437, .int x_411, .ref am]) := by
        intro xj_437 ls blxj_437 buxj_437 jcxj_437 hl
        obtain rfl : xj_414 = xj_437 := Int32.toInt_inj.mp (by omega)
        refine lv_aload_n hx hb dL_law_863 rfl (lv_at hl 3 rfl) ?_
        refine lv_iload_n hx hb dL_law_864 rfl (lv_at hl 0 rfl) ?_
        refine lv_iconst (v := 3) hx hb dL_law_865 (by decide) ?_
        refine lv_iadd hx hb dL_law_866 ?_
        refine lv_topi (fun x_438 ex_438 => ?_)
        have zx_438 : x_438.toInt = i.toInt + 3 := by rw [ex_438]; exact i32_add rfl (by decide) (by omega) (by omega)
        obtain rfl : x_415 = x_438 := ex_415.trans ex_438.symm
        refine va_sld hx hb hX hbl hbA hW.2.2.2.1 (vp_in_iff.mpr ⟨by omega, by omega⟩) dL_law_867 ?_
        refine lv_topi (fun x_439 ex_439 => ?_)
        obtain rfl : x_416 = x_439 := ex_416.trans ex_439.symm
        have jn_876 : ∀ (xj_440 : Int32) (ls : Array Slot), 0 ≤ xj_440.toInt → xj_440.toInt ≤ 1 → (x_416.toInt = 0 ∧ xj_440.toInt = 0) ∨ (x_416.toInt ≠ 0 ∧ xj_440.toInt = 1) → lv_has ls 4 [(3, .int i), (2, .ref am), (1, .ref ax), (0, .ref b)] → W p l e room_1 s m #[Value.ref b] below meth c H locs (CC + 0) (SS + 0) (lw_Z below #[Value.ref b] s) (F0 m 876 ls [.int xj_440, .int xj_414, .int x_411, .ref am]) := by
          intro xj_440 ls blxj_440 buxj_440 jcxj_440 hl
          obtain rfl : xj_417 = xj_440 := Int32.toInt_inj.mp (by omega)
          refine lv_aload_n hx hb dL_law_876 rfl (lv_at hl 3 rfl) ?_
          refine lv_iload_n hx hb dL_law_877 rfl (lv_at hl 0 rfl) ?_
          refine lv_iconst (v := 4) hx hb dL_law_878 (by decide) ?_
          refine lv_iadd hx hb dL_law_879 ?_
          refine lv_topi (fun x_441 ex_441 => ?_)
          have zx_441 : x_441.toInt = i.toInt + 4 := by rw [ex_441]; exact i32_add rfl (by decide) (by omega) (by omega)
          obtain rfl : x_418 = x_441 := ex_418.trans ex_441.symm
          refine va_sld hx hb hX hbl hbA hW.2.2.2.1 (vp_in_iff.mpr ⟨by omega, by omega⟩) dL_law_880 ?_
          refine lv_topi (fun x_442 ex_442 => ?_)
          obtain rfl : x_419 = x_442 := ex_419.trans ex_442.symm
          have hTo := hT
          obtain ⟨q_443, fq_443, gq_443⟩ := hx_rf hT gm tt_10 (k := 66) (u := 99) rfl
          obtain ⟨q_444, fq_444, gq_444⟩ := hx_rf hT gm tt_10 (k := 65) (u := 98) rfl
          obtain ⟨q_445, fq_445, gq_445⟩ := hx_rf hT gm tt_10 (k := 35) (u := 71) rfl
          obtain ⟨fa_446, nfa_446⟩ : ∃ g : Nat → Int32, h_425.2.1 q_443 = g := ⟨_, rfl⟩
          obtain ⟨fa_447, nfa_447⟩ : ∃ g : Nat → Int32, h_425.2.1 q_444 = g := ⟨_, rfl⟩
          obtain ⟨fa_448, nfa_448⟩ : ∃ g : Nat → Int32, h_425.2.1 q_445 = g := ⟨_, rfl⟩
          refine hx_goi (hx_runV (As := [.int x_411, .int xj_414, .int xj_417, .int x_419]) (rest := []) ⟨hx, hb, hml, hown, hts⟩ hW gm tt_10 (T := TX10) (N := 98) rfl (t_X10_hear_v l dC dI dA L_424 h_425 H.size am x_411 xj_414 xj_417 x_419 hT gm m_by g_m_by f_m_by m_aga g_m_aga f_m_aga m_fil g_m_fil f_m_fil m_sum g_m_sum f_m_sum mr g_mr f_mr m_fro g_m_fro f_m_fro m_bor g_m_bor f_m_bor mn g_mn f_mn mp g_mp f_mp q_443 gq_443 fq_443 m_fc g_m_fc f_m_fc mh g_mh f_mh m_fou g_m_fou f_m_fou m_dead g_m_dead f_m_dead m_isj g_m_isj f_m_isj m_kin g_m_kin f_m_kin q_444 gq_444 fq_444 m_be g_m_be f_m_be m_ho g_m_ho f_m_ho m_nt g_m_nt f_m_nt m_wt g_m_wt f_m_wt m_jud g_m_jud f_m_jud ml g_ml f_ml m_of g_m_of f_m_of m_wf g_m_wf f_m_wf m_df g_m_df f_m_df m_kf g_m_kf f_m_kf m_sf g_m_sf f_m_sf q_445 gq_445 fq_445 F_by n_by F_aga n_aga F_fil n_fil F_sum n_sum F_mr n_mr F_fro n_fro F_bor n_bor F_mn n_mn F_mp n_mp fa_446 nfa_446 F_fc n_fc F_mh n_mh F_m_fou n_m_fou F_dead n_dead F_isj n_isj F_kin n_kin fa_447 nfa_447 F_be n_be F_ho n_ho F_nt n_nt F_wt n_wt F_jud n_jud F_ml n_ml F_of n_m_of F_wf n_m_wf F_df n_m_df F_kf n_m_kf F_sf n_m_sf fa_448 nfa_448 c0 f_m_claims m0 f_m_heardMany a0 f_m_acts np f_m_persons nw f_m_now ln f_m_lines ⟨by omega, by omega⟩ ⟨by omega, by omega⟩ F_ad A9 hCA9 hAB hPL hHC bfL hBDm hDYm) (cwV 4 hts (hx_gV kw_1601 kw_1598 kw_1599 kw_1600 kw_103) rfl rfl rfl (by decide +kernel) ⟨Nat.le_of_ble_eq_true rfl, Nat.le_of_ble_eq_true rfl⟩) rfl hl.1 rfl (Nat.le_of_ble_eq_true rfl) dL_law_881 ⟨(show CC + 0 + 0 ≤ 600000 from by omega), (show SS + 0 + 0 ≤ 7302250 from by omega)⟩) hW (fun r_451 L_449 h_450 H locs p_452 hW => ?_)
          obtain ⟨⟨w_454, w_455, w_456, w_457, w_458, w_459, fw_454, fw_455, fw_456, fw_457, fw_458, fw_459, hr_453⟩, hT, hs⟩ := p_452
          replace hT : hx_T T_tb L_449 h_450 := hT
          replace hs : hx_S T_tb [(10, 57), (71, 0), (82, 0), (86, 0), (87, 0), (88, 0), (92, 0), (98, 0), (99, 0)] L_424 h_425 L_449 h_450 := hs
          replace f_qa := (hs.o gx trivial rfl).2.trans f_qa
          replace f_qp := (hs.o gx trivial rfl).2.trans f_qp
          replace f_qc := (hs.o gx trivial rfl).2.trans f_qc
          replace f_qh := (hs.o gx trivial rfl).2.trans f_qh
          replace f_qw := (hs.o gx trivial rfl).2.trans f_qw
          replace f_ql := (hs.o g_qw trivial rfl).2.trans f_ql
          replace f_m_now := (hs.o gm trivial rfl).1.trans f_m_now
          replace f_m_persons := (hs.o gm trivial rfl).1.trans f_m_persons
          replace f_m_claims := (hs.o gm trivial rfl).1.trans f_m_claims
          replace f_m_taped := (hs.o gm trivial rfl).1.trans f_m_taped
          replace f_m_acts := (hs.o gm trivial rfl).1.trans f_m_acts
          replace f_m_lines := (hs.o gm trivial rfl).1.trans f_m_lines
          replace f_m_listed := (hs.o gm trivial rfl).1.trans f_m_listed
          replace f_m_walkedMany := (hs.o gm trivial rfl).1.trans f_m_walkedMany
          replace f_x_now := (hs.o gx trivial rfl).1.trans f_x_now
          replace f_x_personCount := (hs.o gx trivial rfl).1.trans f_x_personCount
          replace f_x_claimCount := (hs.o gx trivial rfl).1.trans f_x_claimCount
          replace f_x_tapeLength := (hs.o gx trivial rfl).1.trans f_x_tapeLength
          replace f_x_actCount := (hs.o gx trivial rfl).1.trans f_x_actCount
          replace f_mw := (hs.o gm trivial rfl).2.trans f_mw
          replace f_mr := (hs.o gm trivial rfl).2.trans f_mr
          replace f_mp := (hs.o gm trivial rfl).2.trans f_mp
          replace f_mn := (hs.o gm trivial rfl).2.trans f_mn
          replace f_ml := (hs.o gm trivial rfl).2.trans f_ml
          replace f_mh := (hs.o gm trivial rfl).2.trans f_mh
          replace f_mt := (hs.o gm trivial rfl).2.trans f_mt
          replace f_m_fou := (hs.o gm trivial rfl).2.trans f_m_fou
          replace f_qo_ln := (hs.o gx trivial rfl).2.trans f_qo_ln
          replace f_o_ln := (hs.o g_qo_ln trivial rfl).1.trans f_o_ln
          replace f_o_lsd := (hs.o g_qw trivial rfl).1.trans f_o_lsd
          replace f_o_wkm := (hs.o g_qw trivial rfl).1.trans f_o_wkm
          replace f_b_of := (hs.o g_qo_ln trivial rfl).2.trans f_b_of
          replace f_m_of := (hs.o gm trivial rfl).2.trans f_m_of
          replace f_b_wf := (hs.o g_qo_ln trivial rfl).2.trans f_b_wf
          replace f_m_wf := (hs.o gm trivial rfl).2.trans f_m_wf
          replace f_b_df := (hs.o g_qo_ln trivial rfl).2.trans f_b_df
          replace f_m_df := (hs.o gm trivial rfl).2.trans f_m_df
          replace f_b_kf := (hs.o g_qo_ln trivial rfl).2.trans f_b_kf
          replace f_m_kf := (hs.o gm trivial rfl).2.trans f_m_kf
          replace f_b_sf := (hs.o g_qo_ln trivial rfl).2.trans f_b_sf
          replace f_m_sf := (hs.o gm trivial rfl).2.trans f_m_sf
          replace f_b_bf := (hs.o g_qo_ln trivial rfl).2.trans f_b_bf
          replace f_m_lst := (hs.o gm trivial rfl).2.trans f_m_lst
          replace f_qtp := (hs.o gx trivial rfl).2.trans f_qtp
          replace f_m_tp := (hs.o gm trivial rfl).2.trans f_m_tp
          replace f_m_dead := (hs.o gm trivial rfl).2.trans f_m_dead
          replace f_m_isj := (hs.o gm trivial rfl).2.trans f_m_isj
          replace f_m_dox := (hs.o gm trivial rfl).2.trans f_m_dox
          replace f_m_doy := (hs.o gm trivial rfl).2.trans f_m_doy
          replace f_qlt := (hs.o g_qw trivial rfl).2.trans f_qlt
          replace f_qlf := (hs.o g_qw trivial rfl).2.trans f_qlf
          replace f_m_wkd := (hs.o gm trivial rfl).2.trans f_m_wkd
          replace f_m_aga := (hs.o gm trivial rfl).2.trans f_m_aga
          replace f_qwo := (hs.o gx trivial rfl).2.trans f_qwo
          replace f_m_ad := (hs.o gm trivial rfl).2.trans f_m_ad
          replace f_m_by := (hs.o gm trivial rfl).2.trans f_m_by
          replace f_m_ho := (hs.o gm trivial rfl).2.trans f_m_ho
          replace f_m_fc := (hs.o gm trivial rfl).2.trans f_m_fc
          replace f_m_nt := (hs.o gm trivial rfl).2.trans f_m_nt
          replace f_m_wt := (hs.o gm trivial rfl).2.trans f_m_wt
          replace f_m_be := (hs.o gm trivial rfl).2.trans f_m_be
          replace f_m_bor := (hs.o gm trivial rfl).2.trans f_m_bor
          replace f_m_kin := (hs.o gm trivial rfl).2.trans f_m_kin
          replace f_m_sum := (hs.o gm trivial rfl).2.trans f_m_sum
          replace f_m_fro := (hs.o gm trivial rfl).2.trans f_m_fro
          replace f_m_fil := (hs.o gm trivial rfl).2.trans f_m_fil
          replace f_m_jud := (hs.o gm trivial rfl).2.trans f_m_jud
          replace fq_420 := (hs.o g_qo_ln trivial rfl).2.trans fq_420
          replace fq_421 := (hs.o gx trivial rfl).2.trans fq_421
          replace fw_430 := (hs.o gx trivial rfl).1.trans fw_430
          replace fq_443 := (hs.o gm trivial rfl).2.trans fq_443
          replace fq_444 := (hs.o gm trivial rfl).2.trans fq_444
          replace fq_445 := (hs.o gm trivial rfl).2.trans fq_445
          replace pf_qa : ∀ j : Nat, (j : Int) < (h_450.2.1 ax 6).toInt → h_450.2.2 qa j ≠ none := by
            intro j hj; rw [(hs.o gx trivial rfl).1] at hj; rw [(hs.a g_qa rfl j).2]; exact pf_qa j hj
          replace pf_qp : ∀ j : Nat, (j : Int) < (h_450.2.1 ax 8).toInt → h_450.2.2 qp j ≠ none := by
            intro j hj; rw [(hs.o gx trivial rfl).1] at hj; rw [(hs.a g_qp rfl j).2]; exact pf_qp j hj
          replace pf_qc : ∀ j : Nat, (j : Int) < (h_450.2.1 ax 11).toInt → h_450.2.2 qc j ≠ none := by
            intro j hj; rw [(hs.o gx trivial rfl).1] at hj; rw [(hs.a g_qc rfl j).2]; exact pf_qc j hj
          replace pf_ql : ∀ j : Nat, (j : Int) < (h_450.2.1 qw 0).toInt → h_450.2.2 ql j ≠ none := by
            intro j hj; rw [(hs.o g_qw trivial rfl).1] at hj; rw [(hs.a g_ql rfl j).2]; exact pf_ql j hj
          replace pf_429 : ∀ j : Nat, (j : Int) < (h_450.2.1 ax 13).toInt → h_450.2.2 qh j ≠ none := by
            intro j hj; rw [(hs.o gx trivial rfl).1] at hj; rw [(hs.a g_qh rfl j).2]; exact pf_429 j hj
          replace cl_lst : hx_col 8 h_450 ql 0 = c_lst := (hx_col_S hs hTo g_ql tt_40 tt_2 rfl rfl).trans cl_lst
          replace cl_dead : hx_col 40 h_450 qp 7 = c_dead := (hx_col_S hs hTo g_qp tt_44 tt_4 rfl rfl).trans cl_dead
          replace cl_isj : hx_col 40 h_450 qp 8 = c_isj := (hx_col_S hs hTo g_qp tt_44 tt_4 rfl rfl).trans cl_isj
          replace cl_dox : hx_col 40 h_450 qp 5 = c_dox := (hx_col_S hs hTo g_qp tt_44 tt_4 rfl rfl).trans cl_dox
          replace cl_doy : hx_col 40 h_450 qp 6 = c_doy := (hx_col_S hs hTo g_qp tt_44 tt_4 rfl rfl).trans cl_doy
          replace cl_fou : hx_col 100 h_450 qc 10 = c_fou := (hx_col_S hs hTo g_qc tt_45 tt_2 rfl rfl).trans cl_fou
          replace cl_tri : hx_col 100 h_450 qc 9 = c_tri := (hx_col_S hs hTo g_qc tt_45 tt_2 rfl rfl).trans cl_tri
          replace cl_bor : hx_col 40 h_450 qp 1 = F_bor := (hx_col_S hs hTo g_qp tt_44 tt_4 rfl rfl).trans cl_bor
          replace cl_kin : hx_col 40 h_450 qp 2 = F_kin := (hx_col_S hs hTo g_qp tt_44 tt_4 rfl rfl).trans cl_kin
          replace cl_sum : hx_col 100 h_450 qc 6 = F_sum := (hx_col_S hs hTo g_qc tt_45 tt_2 rfl rfl).trans cl_sum
          replace cl_fro : hx_col 100 h_450 qc 7 = F_fro := (hx_col_S hs hTo g_qc tt_45 tt_2 rfl rfl).trans cl_fro
          replace cl_fil : hx_col 100 h_450 qc 8 = F_fil := (hx_col_S hs hTo g_qc tt_45 tt_2 rfl rfl).trans cl_fil
          replace fw_431 : hx_col 100 h_450 qc 11 = w_431 := (hx_col_S hs hTo g_qc tt_45 tt_2 rfl rfl).trans fw_431
          replace fw_432 : hx_col 100 h_450 qc 12 = w_432 := (hx_col_S hs hTo g_qc tt_45 tt_2 rfl rfl).trans fw_432
          replace nu_qp : hx_num 40 h_450 qp 0 (np.toInt) := hx_num_S hs hTo g_qp tt_44 tt_4 rfl rfl nu_qp
          replace nu_qc : hx_num 100 h_450 qc 0 (c0.toInt) := hx_num_S hs hTo g_qc tt_45 tt_2 rfl rfl nu_qc
          replace sb_list : hx_LQ 8 100 h_450 ql qc := hx_LQ_S hs g_ql g_qc rfl rfl sb_list
          replace hDF : hw_DF h_450 qc qp 2 F_aga c0.toInt := hw_DF_S hs hTo g_qc g_qp tt_45 tt_2 rfl rfl rfl hDF
          replace hRA9 : hv_RA h_450 qa qwo a0.toInt A9 := hv_RA_S hs hTo g_qa g_qwo tt_43 tt_0 rfl rfl rfl rfl rfl rfl (by omega) hRA9
          replace hDP : hw_DF h_450 qc qp 1 F_by c0.toInt := hw_DF_S hs hTo g_qc g_qp tt_45 tt_2 rfl rfl rfl hDP
          replace hAC9 : hv_AC h_450 qc F_ml c0.toInt A9 := hv_AC_S hs hTo g_qc tt_45 tt_2 rfl tt_0 rfl rfl rfl rfl rfl rfl rfl hAC9
          replace hFXn9 : hv_FX 8 4 h_450 qc cF9 c0.toInt := hv_FX_S hs hTo g_qc tt_45 tt_2 rfl rfl rfl rfl hFXn9
          replace hBXn9 : hv_FX 3 5 h_450 qc bFn9 c0.toInt := hv_FX_S hs hTo g_qc tt_45 tt_2 rfl rfl rfl rfl hBXn9
          replace hHLn9 : hv_HL h_450 qh qc hofn9 w_430.toInt c0.toInt := hv_HL_S hs g_qh g_qc rfl rfl hHLn9
          replace n_mw : h_450.2.1 mw = F_mw := (funext fun j => (hs.a g_mw rfl j).1).trans n_mw
          replace n_mr : h_450.2.1 mr = F_mr := (funext fun j => (hs.a g_mr rfl j).1).trans n_mr
          replace n_mp : h_450.2.1 mp = F_mp := (funext fun j => (hs.a g_mp rfl j).1).trans n_mp
          replace n_mn : h_450.2.1 mn = F_mn := (funext fun j => (hs.a g_mn rfl j).1).trans n_mn
          replace n_ml : h_450.2.1 ml = F_ml := (funext fun j => (hs.a g_ml rfl j).1).trans n_ml
          replace n_mt : h_450.2.1 mt = F_mt := (funext fun j => (hs.a g_mt rfl j).1).trans n_mt
          replace n_m_fou : h_450.2.1 m_fou = F_m_fou := (funext fun j => (hs.a g_m_fou rfl j).1).trans n_m_fou
          replace n_b_of : h_450.2.1 b_of = B_of := (funext fun j => (hs.a g_b_of rfl j).1).trans n_b_of
          replace n_m_of : h_450.2.1 m_of = F_of := (funext fun j => (hs.a g_m_of rfl j).1).trans n_m_of
          replace n_b_wf : h_450.2.1 b_wf = B_wf := (funext fun j => (hs.a g_b_wf rfl j).1).trans n_b_wf
          replace n_m_wf : h_450.2.1 m_wf = F_wf := (funext fun j => (hs.a g_m_wf rfl j).1).trans n_m_wf
          replace n_b_df : h_450.2.1 b_df = B_df := (funext fun j => (hs.a g_b_df rfl j).1).trans n_b_df
          replace n_m_df : h_450.2.1 m_df = F_df := (funext fun j => (hs.a g_m_df rfl j).1).trans n_m_df
          replace n_b_kf : h_450.2.1 b_kf = B_kf := (funext fun j => (hs.a g_b_kf rfl j).1).trans n_b_kf
          replace n_m_kf : h_450.2.1 m_kf = F_kf := (funext fun j => (hs.a g_m_kf rfl j).1).trans n_m_kf
          replace n_b_sf : h_450.2.1 b_sf = B_sf := (funext fun j => (hs.a g_b_sf rfl j).1).trans n_b_sf
          replace n_m_sf : h_450.2.1 m_sf = F_sf := (funext fun j => (hs.a g_m_sf rfl j).1).trans n_m_sf
          replace n_b_bf : h_450.2.1 b_bf = bfL := (funext fun j => (hs.a g_b_bf rfl j).1).trans n_b_bf
          replace n_lst : h_450.2.1 m_lst = F_lst := (funext fun j => (hs.a g_m_lst rfl j).1).trans n_lst
          replace n_tp : h_450.2.1 m_tp = F_tp := (funext fun j => (hs.a g_m_tp rfl j).1).trans n_tp
          replace n_qtp : h_450.2.1 qtp = F_tp := (funext fun j => (hs.a g_qtp rfl j).1).trans n_qtp
          replace n_dead : h_450.2.1 m_dead = F_dead := (funext fun j => (hs.a g_m_dead rfl j).1).trans n_dead
          replace n_isj : h_450.2.1 m_isj = F_isj := (funext fun j => (hs.a g_m_isj rfl j).1).trans n_isj
          replace n_dox : h_450.2.1 m_dox = F_dox := (funext fun j => (hs.a g_m_dox rfl j).1).trans n_dox
          replace n_doy : h_450.2.1 m_doy = F_doy := (funext fun j => (hs.a g_m_doy rfl j).1).trans n_doy
          replace n_qlt : h_450.2.1 qlt = F_qlt := (funext fun j => (hs.a g_qlt rfl j).1).trans n_qlt
          replace n_m_wkd : h_450.2.1 m_wkd = F_m_wkd := (funext fun j => (hs.a g_m_wkd rfl j).1).trans n_m_wkd
          replace n_aga : h_450.2.1 m_aga = F_aga := (funext fun j => (hs.a g_m_aga rfl j).1).trans n_aga
          replace n_ad : h_450.2.1 m_ad = F_ad := (funext fun j => (hs.a g_m_ad rfl j).1).trans n_ad
          replace n_by : h_450.2.1 m_by = F_by := (funext fun j => (hs.a g_m_by rfl j).1).trans n_by
          replace n_nt : h_450.2.1 m_nt = F_nt := (funext fun j => (hs.a g_m_nt rfl j).1).trans n_nt
          replace n_wt : h_450.2.1 m_wt = F_wt := (funext fun j => (hs.a g_m_wt rfl j).1).trans n_wt
          replace n_bor : h_450.2.1 m_bor = F_bor := (funext fun j => (hs.a g_m_bor rfl j).1).trans n_bor
          replace n_kin : h_450.2.1 m_kin = F_kin := (funext fun j => (hs.a g_m_kin rfl j).1).trans n_kin
          replace n_sum : h_450.2.1 m_sum = F_sum := (funext fun j => (hs.a g_m_sum rfl j).1).trans n_sum
          replace n_fro : h_450.2.1 m_fro = F_fro := (funext fun j => (hs.a g_m_fro rfl j).1).trans n_fro
          replace n_fil : h_450.2.1 m_fil = F_fil := (funext fun j => (hs.a g_m_fil rfl j).1).trans n_fil
          replace gx := gx.S hs
          replace gm := gm.S hs
          replace g_qa := g_qa.S hs
          replace g_qp := g_qp.S hs
          replace g_qc := g_qc.S hs
          replace g_qh := g_qh.S hs
          replace g_qw := g_qw.S hs
          replace g_ql := g_ql.S hs
          replace g_mw := g_mw.S hs
          replace g_mr := g_mr.S hs
          replace g_mp := g_mp.S hs
          replace g_mn := g_mn.S hs
          replace g_ml := g_ml.S hs
          replace g_mh := g_mh.S hs
          replace g_mt := g_mt.S hs
          replace g_m_fou := g_m_fou.S hs
          replace g_qo_ln := g_qo_ln.S hs
          replace g_b_of := g_b_of.S hs
          replace g_m_of := g_m_of.S hs
          replace g_b_wf := g_b_wf.S hs
          replace g_m_wf := g_m_wf.S hs
          replace g_b_df := g_b_df.S hs
          replace g_m_df := g_m_df.S hs
          replace g_b_kf := g_b_kf.S hs
          replace g_m_kf := g_m_kf.S hs
          replace g_b_sf := g_b_sf.S hs
          replace g_m_sf := g_m_sf.S hs
          replace g_b_bf := g_b_bf.S hs
          replace g_m_lst := g_m_lst.S hs
          replace g_qtp := g_qtp.S hs
          replace g_m_tp := g_m_tp.S hs
          replace g_m_dead := g_m_dead.S hs
          replace g_m_isj := g_m_isj.S hs
          replace g_m_dox := g_m_dox.S hs
          replace g_m_doy := g_m_doy.S hs
          replace g_qlt := g_qlt.S hs
          replace g_qlf := g_qlf.S hs
          replace g_m_wkd := g_m_wkd.S hs
          replace g_m_aga := g_m_aga.S hs
          replace g_qwo := g_qwo.S hs
          replace g_m_ad := g_m_ad.S hs
          replace g_m_by := g_m_by.S hs
          replace g_m_ho := g_m_ho.S hs
          replace g_m_fc := g_m_fc.S hs
          replace g_m_nt := g_m_nt.S hs
          replace g_m_wt := g_m_wt.S hs
          replace g_m_be := g_m_be.S hs
          replace g_m_bor := g_m_bor.S hs
          replace g_m_kin := g_m_kin.S hs
          replace g_m_sum := g_m_sum.S hs
          replace g_m_fro := g_m_fro.S hs
          replace g_m_fil := g_m_fil.S hs
          replace g_m_jud := g_m_jud.S hs
          replace gq_420 := gq_420.S hs
          replace gq_421 := gq_421.S hs
          replace gq_443 := gq_443.S hs
          replace gq_444 := gq_444.S hs
          replace gq_445 := gq_445.S hs
          have fw_454 : h_450.2.1 am 57 = w_454 := fw_454
          have bw_454 := hT.gi gm tt_10 (k := 57) rfl
          rw [fw_454] at bw_454
          have bw_454 : 0 ≤ w_454.toInt ∧ w_454.toInt ≤ 100 := bw_454
          have fw_455 : h_450.2.1 mh = w_455 := fw_455
          have fw_456 : h_450.2.1 m_jud = w_456 := fw_456
          have fw_457 : h_450.2.1 m_ho = w_457 := fw_457
          have fw_458 : h_450.2.1 m_fc = w_458 := fw_458
          have fw_459 : h_450.2.1 m_be = w_459 := fw_459
          refine lv_pop hx hb dL_law_884 rfl ?_
          refine lv_goto (tgt := 1379) hx hb dL_law_885 (by decide) ?_
          obtain ⟨hHM9, hMB9⟩ := hr_453
          have bA9 : ∀ k, k < 100 → 0 ≤ (F_aga k).toInt ∧ (F_aga k).toInt ≤ 39 := fun k hk => by have w := hT.ei g_m_aga tt_73 (k := k) hk; rw [n_aga] at w; exact w
          have esl := hv_fs_e (kf := F_kin) (p := (F_by x_411.toNatClampNeg).toNatClampNeg) (q := (F_aga x_411.toNatClampNeg).toNatClampNeg) eq_isj eq_dead np.toInt.toNat (by omega)
          have hCB8 := hCB9; rw [hy_bs_c eb_of eb_wf eb_df eb_kf eb_sf _ (Nat.le_refl _), hy_bs_c eb_of eb_wf eb_df eb_kf eb_sf _ (Nat.le_refl _), hy_G_c hBD eb_of eb_wf eb_df eb_kf eb_sf _ (Nat.le_refl _)] at hCB8
          obtain ⟨⟨heqr, hq_hm, hq_hea, hq_jud, hq_ho⟩, hFRn⟩ := hv_HR hFR9 (by omega) hHS9 hHM9 (hv_HC_e eq_fou eq_dead bA9 (by omega) (congrArg (fun l => ((List.length l : Nat) : Int)) esl)) (hAB _).2 (fun hc => ⟨by have h9 := hc.1; unfold Int32.toNatClampNeg; omega, hc.2.2.1⟩) hCB8 hMB9
          have heq := congrArg Int32.toInt heqr
          have hq_be := hv_BB heqr esl (congrArg (fun l => x_419.toInt % hv_T3 (List.length l)) esl) hCB9 hMB9
          obtain ⟨hHCn9, hHFn9⟩ := hv_HS_hc hHM9 (by omega) hHC; have hHOn := hv_HO_h hHO9 hHM9 (by omega) (by omega)
          refine W.widen (k := CC + 3) (n := SS + 179) (by omega) (by omega) ?_
          exact kk L_449 h_450 H locs ls hW ⟨hT, gx, gm, ⟨f_x_now.trans f_m_now.symm, f_x_personCount.trans f_m_persons.symm, f_x_claimCount.trans f_m_claims.symm, f_x_tapeLength.trans f_m_taped.symm, f_x_actCount.trans f_m_acts.symm, (fw_430.trans hq_hm).trans fw_454.symm, hx_ob f_qo_ln (f_o_ln.trans f_m_lines.symm), hx_ob f_qw (f_o_lsd.trans f_m_listed.symm), hx_ob f_qw (f_o_wkm.trans f_m_walkedMany.symm), hx_ob f_qp (by rw [f_x_personCount]; exact nu_qp), hx_ob f_qc (by rw [f_x_claimCount]; exact nu_qc), (fun b a r hb ha hr => by obtain rfl : qo_ln = b := Option.some.inj (f_qo_ln.symm.trans hb); obtain rfl : b_of = a := Option.some.inj (f_b_of.symm.trans ha); obtain rfl : m_of = r := Option.some.inj (f_m_of.symm.trans hr); rw [n_b_of, n_m_of, f_o_ln]; exact eb_of), (fun b a r hb ha hr => by obtain rfl : qo_ln = b := Option.some.inj (f_qo_ln.symm.trans hb); obtain rfl : b_wf = a := Option.some.inj (f_b_wf.symm.trans ha); obtain rfl : m_wf = r := Option.some.inj (f_m_wf.symm.trans hr); rw [n_b_wf, n_m_wf, f_o_ln]; exact eb_wf), (fun b a r hb ha hr => by obtain rfl : qo_ln = b := Option.some.inj (f_qo_ln.symm.trans hb); obtain rfl : b_df = a := Option.some.inj (f_b_df.symm.trans ha); obtain rfl : m_df = r := Option.some.inj (f_m_df.symm.trans hr); rw [n_b_df, n_m_df, f_o_ln]; exact eb_df), (fun b a r hb ha hr => by obtain rfl : qo_ln = b := Option.some.inj (f_qo_ln.symm.trans hb); obtain rfl : b_kf = a := Option.some.inj (f_b_kf.symm.trans ha); obtain rfl : m_kf = r := Option.some.inj (f_m_kf.symm.trans hr); rw [n_b_kf, n_m_kf, f_o_ln]; exact eb_kf), (fun b a r hb ha hr => by obtain rfl : qo_ln = b := Option.some.inj (f_qo_ln.symm.trans hb); obtain rfl : b_sf = a := Option.some.inj (f_b_sf.symm.trans ha); obtain rfl : m_sf = r := Option.some.inj (f_m_sf.symm.trans hr); rw [n_b_sf, n_m_sf, f_o_ln]; exact eb_sf), (fun b a r hb ha hr => by obtain rfl : qo_ln = b := Option.some.inj (f_qo_ln.symm.trans hb); obtain rfl : b_df = a := Option.some.inj (f_b_df.symm.trans ha); obtain rfl : b_bf = r := Option.some.inj (f_b_bf.symm.trans hr); rw [n_b_df, n_b_bf, f_o_ln]; exact ⟨hBD, hDY⟩), (fun w q c hw hq hc => by obtain rfl : qw = w := Option.some.inj (f_qw.symm.trans hw); obtain rfl : ql = q := Option.some.inj (f_ql.symm.trans hq); obtain rfl : qc = c := Option.some.inj (f_qc.symm.trans hc); exact sb_list), (fun w q r hw hq hr => by obtain rfl : qw = w := Option.some.inj (f_qw.symm.trans hw); obtain rfl : ql = q := Option.some.inj (f_ql.symm.trans hq); obtain rfl : m_lst = r := Option.some.inj (f_m_lst.symm.trans hr); rw [cl_lst, n_lst]; exact eq_lst), (fun w q r hw hq hr => by obtain rfl : qw = w := Option.some.inj (f_qw.symm.trans hw); obtain rfl : qlt = q := Option.some.inj (f_qlt.symm.trans hq); obtain rfl : m_wkd = r := Option.some.inj (f_m_wkd.symm.trans hr); rw [n_qlt, n_m_wkd, f_o_wkm]; exact eb_wkd), (fun c q a hc hq ha => by obtain rfl : qc = c := Option.some.inj (f_qc.symm.trans hc); obtain rfl : qp = q := Option.some.inj (f_qp.symm.trans hq); obtain rfl : m_aga = a := Option.some.inj (f_m_aga.symm.trans ha); rw [n_aga, f_x_claimCount]; exact hw_DF_e hDF rfl rfl), (fun q r hq hr => by obtain rfl : qtp = q := Option.some.inj (f_qtp.symm.trans hq); obtain rfl : m_tp = r := Option.some.inj (f_m_tp.symm.trans hr); exact n_qtp.trans n_tp.symm), (fun q w a b c d e p hq hw ha hb hc hd he hp => by obtain rfl : qa = q := Option.some.inj (f_qa.symm.trans hq); obtain rfl : qwo = w := Option.some.inj (f_qwo.symm.trans hw); obtain rfl : m_ad = a := Option.some.inj (f_m_ad.symm.trans ha); obtain rfl : mr = b := Option.some.inj (f_mr.symm.trans hb); obtain rfl : mn = c := Option.some.inj (f_mn.symm.trans hc); obtain rfl : mp = d := Option.some.inj (f_mp.symm.trans hd); obtain rfl : qc = e := Option.some.inj (f_qc.symm.trans he); obtain rfl : ml = p := Option.some.inj (f_ml.symm.trans hp); exact ⟨_, by rw [f_x_actCount]; exact hRA9, by rw [f_x_actCount, n_ad, n_mr, n_mn, n_mp]; exact hCA9, by rw [n_ml, f_x_claimCount]; exact hv_AC_e hAC9 rfl rfl rfl, hAB⟩), (fun c q a hc hq ha => by obtain rfl : qc = c := Option.some.inj (f_qc.symm.trans hc); obtain rfl : qp = q := Option.some.inj (f_qp.symm.trans hq); obtain rfl : m_by = a := Option.some.inj (f_m_by.symm.trans ha); rw [n_by, f_x_claimCount]; exact hw_DF_e hDP rfl rfl), (fun q c a hq hc ha => by obtain rfl : qh = q := Option.some.inj (f_qh.symm.trans hq); obtain rfl : qc = c := Option.some.inj (f_qc.symm.trans hc); obtain rfl : m_ho = a := Option.some.inj (f_m_ho.symm.trans ha); rw [fw_457, fw_430, f_x_claimCount]; exact hv_HL_e hHLn9 hq_ho rfl rfl), (fun a b ha hb => by obtain rfl : m_ho = a := Option.some.inj (f_m_ho.symm.trans ha); obtain rfl : mh = b := Option.some.inj (f_mh.symm.trans hb); rw [fw_457, fw_455, fw_454, f_m_claims]; exact hHOn), (fun c a b d e f hc ha hb hd he hf => by obtain rfl : qc = c := Option.some.inj (f_qc.symm.trans hc); obtain rfl : m_fc = a := Option.some.inj (f_m_fc.symm.trans ha); obtain rfl : m_nt = b := Option.some.inj (f_m_nt.symm.trans hb); obtain rfl : m_wt = d := Option.some.inj (f_m_wt.symm.trans hd); obtain rfl : m_sum = e := Option.some.inj (f_m_sum.symm.trans he); obtain rfl : mh = f := Option.some.inj (f_mh.symm.trans hf); exact ⟨cF9, by rw [f_x_claimCount]; exact hFXn9, by rw [fw_458, n_nt, n_wt, n_sum, fw_455, f_x_claimCount]; exact hFRn⟩), (fun c a hc ha => by obtain rfl : qc = c := Option.some.inj (f_qc.symm.trans hc); obtain rfl : m_be = a := Option.some.inj (f_m_be.symm.trans ha); rw [fw_459, f_x_claimCount]; exact hv_FX_e hBXn9 hq_be rfl), hx_ob2 f_qp f_m_bor (cl_bor.trans n_bor.symm), hx_ob2 f_qp f_m_kin (cl_kin.trans n_kin.symm), hx_ob2 f_qc f_m_sum (cl_sum.trans n_sum.symm), hx_ob2 f_qc f_m_fro (cl_fro.trans n_fro.symm), hx_ob2 f_qc f_m_fil (cl_fil.trans n_fil.symm), hx_ob2 f_qc f_mh ((fw_431.trans hq_hea).trans fw_455.symm), hx_ob2 f_qc f_m_jud ((fw_432.trans hq_jud).trans fw_456.symm), hx_ob2 f_qp f_m_dead (by rw [cl_dead, n_dead]; exact eq_dead), hx_ob2 f_qp f_m_isj (by rw [cl_isj, n_isj]; exact eq_isj), hx_ob2 f_qp f_m_dox (by rw [cl_dox, n_dox]; exact eq_dox), hx_ob2 f_qp f_m_doy (by rw [cl_doy, n_doy]; exact eq_doy), hx_ob2 f_qc f_m_fou (by rw [cl_fou, n_m_fou]; exact eq_fou), hx_ob2 f_qc f_mt (by rw [cl_tri, n_mt]; exact eq_tri), trivial⟩, ⟨hx_ob f_qa pf_qa, hx_ob f_qp pf_qp, hx_ob f_qc pf_qc, hx_ob f_qh pf_429, (fun w q hw hq => by obtain rfl : qw = w := Option.some.inj (f_qw.symm.trans hw); obtain rfl : ql = q := Option.some.inj (f_ql.symm.trans hq); exact pf_ql)⟩, ⟨hx_ob f_mw (by rw [n_mw]; exact hwd), hx_ob f_mr (by rw [n_mr, f_m_acts]; exact hWK), hx_ob2 f_mp f_mn (by rw [n_mp, n_mn, f_m_acts]; exact hRP), hx_ob f_ml (by rw [n_ml, f_m_claims, f_m_acts]; exact hPL), hx_ob f_mh (by rw [fw_455, fw_454, f_m_claims]; exact hHCn9), hx_ob f_mt (by rw [n_mt]; exact (hx_TR_le hTR (by omega))), hx_ob2 f_mh f_m_fou (by rw [fw_455, n_m_fou, f_m_claims]; exact (hx_HF_h hHF hHFn9))⟩⟩ hl
        refine hb_if_eq (zx := x_416.toInt) (tgt := 875) hx hb rfl dL_law_868 (by decide) (fun c_460 => ?_) (fun c_460 => ?_)
        · skip
          refine lv_iconst (v := 0) hx hb dL_law_875 (by decide) ?_
          have zj_876 : (0 : Int32).toInt = 0 := by decide
          exact jn_876 (0 : Int32) ls (by decide) (by decide) (by omega) hl
        · skip
          refine lv_iconst (v := 1) hx hb dL_law_871 (by decide) ?_
          refine lv_goto (tgt := 876) hx hb dL_law_872 (by decide) ?_
          have zj_876 : (1 : Int32).toInt = 1 := by decide
          exact jn_876 (1 : Int32) ls (by decide) (by decide) (by omega) hl
      refine hb_if_eq (zx := x_413.toInt) (tgt := 862) hx hb rfl dL_law_855 (by decide) (fun c_461 => ?_) (fun c_461 => ?_)
      · skip
        refine lv_iconst (v := 0) hx hb dL_law_862 (by decide) ?_
        have zj_863 : (0 : Int32).toInt = 0 := by decide
        exact jn_863 (0 : Int32) ls (by decide) (by decide) (by omega) hl
      · skip
        refine lv_iconst (v := 1) hx hb dL_law_858 (by decide) ?_
        refine lv_goto (tgt := 863) hx hb dL_law_859 (by decide) ?_
        have zj_863 : (1 : Int32).toInt = 1 := by decide
        exact jn_863 (1 : Int32) ls (by decide) (by decide) (by omega) hl
    refine hb_if_eq (zx := x_416.toInt) (tgt := 834) hx hb rfl dL_law_827 (by decide) (fun c_462 => ?_) (fun c_462 => ?_)
    · skip
      refine lv_iconst (v := 0) hx hb dL_law_834 (by decide) ?_
      have zj_835 : (0 : Int32).toInt = 0 := by decide
      exact jn_835 (0 : Int32) ls (by decide) (by decide) (by omega) hl
    · skip
      refine lv_iconst (v := 1) hx hb dL_law_830 (by decide) ?_
      refine lv_goto (tgt := 835) hx hb dL_law_831 (by decide) ?_
      have zj_835 : (1 : Int32).toInt = 1 := by decide
      exact jn_835 (1 : Int32) ls (by decide) (by decide) (by omega) hl
  refine hb_if_eq (zx := x_413.toInt) (tgt := 821) hx hb rfl dL_law_814 (by decide) (fun c_463 => ?_) (fun c_463 => ?_)
  · skip
    refine lv_iconst (v := 0) hx hb dL_law_821 (by decide) ?_
    have zj_822 : (0 : Int32).toInt = 0 := by decide
    exact jn_822 (0 : Int32) ls (by decide) (by decide) (by omega) hl
  · skip
    refine lv_iconst (v := 1) hx hb dL_law_817 (by decide) ?_
    refine lv_goto (tgt := 822) hx hb dL_law_818 (by decide) ?_
    have zj_822 : (1 : Int32).toInt = 1 := by decide
    exact jn_822 (1 : Int32) ls (by decide) (by decide) (by omega) hl

set_option maxHeartbeats 4000000 in
set_option maxRecDepth 100000 in
theorem law_case_14 {p : Program} {e : Env} {s : State} {m : MethodId} {below : List Frame} {meth : Method} {c : Code} (l : Launch) {b LN : Nat} {xs : Nat → Int32} (hx : p.tables.exec = Jvm.exec) (hb : c.code = code) (hr : meth.sig.returnType = ret) (hlocks : meth.locks = false) (hml : c.maxLocals = 4) (hown : s.vm.findClass "SmallCourtLaw" = some m.cls) (hts : ∀ w ∈ hx_all, w.before #[Value.ref b] s = true) (hX : va_X b LN xs s s.heap) (hbl : b < s.heap.size) (hbA : ¬ s.heap.size ≤ b) (hLN : LN ≤ 3584) (dC : Nat → ClassId) (dI : Nat → Nat → Nat) (dA : Nat → ClassId) (b0 : hx_z) (ax am : Nat) (T1 : Int) (hT0 : 0 ≤ T1) (hT1 : T1 ≤ 511) (i : Int32) (hi0 : 0 ≤ i.toInt) (hiL : i.toInt + 7 ≤ LN) (CC SS : Nat) (hCC : CC + 3 ≤ 600000) (hSS : SS + 179 ≤ 7302250) (L1 : List Nat) (hl1 : hx_h) (H : Heap) (locs : List Loc) (ls : Array Slot) (hW : hx_W T_tb (P_ty dA) (dC, dI) vwCl (fun q : Nat => s.heap.size ≤ q) s.heap L1 hl1 s H locs) (hZ : hx_Xt (fun q : Nat => s.heap.size ≤ q) b0 s) (hI : hx_IV T1 ax am L1 hl1) (hl : lv_has ls 4 [(3, .int i), (2, .ref am), (1, .ref ax), (0, .ref b)]) (kk : ∀ (L2 : List Nat) (h2 : hx_h) (H2 : Heap) (locs2 : List Loc) (ls2 : Array Slot), hx_W T_tb (P_ty dA) (dC, dI) vwCl (fun q : Nat => s.heap.size ≤ q) s.heap L2 h2 s H2 locs2 → hx_IV (T1 + 1) ax am L2 h2 → lv_has ls2 4 [(3, .int i), (2, .ref am), (1, .ref ax), (0, .ref b)] → W p l e room_1 s m #[Value.ref b] below meth c H2 locs2 (CC + 3) (SS + 179) (lw_Z below #[Value.ref b] s) (F0 m 1379 ls2 [])) : W p l e room_1 s m #[Value.ref b] below meth c H locs CC SS (lw_Z below #[Value.ref b] s) (F0 m 888 ls []) := by
  obtain ⟨hT, gx, gm, ⟨he_nw, he_np, he_c0, he_tl, he_a0, he_m0, ho_ln, ho_lsd, ho_wkm, hn_qp, hn_qc, hk_of, hk_wf, hk_df, hk_kf, hk_sf, hkBD, hLQ, hLE, hkWD, hkDF, hkTP, hkAC, hkDP, hkHL, hkHO, hkFX, hkBX, hf_bor, hf_kin, hf_sum, hf_fro, hf_fil, hf_hea, hf_jud, hc_dead, hc_isj, hc_dox, hc_doy, hc_fou, hc_tri, -⟩, ⟨ia, ip, ic, ih, il⟩, ⟨jw, jr, jp, jl, jh, jt, jf⟩⟩ := hI
  obtain ⟨qa, f_qa, g_qa⟩ := hx_rf hT gx tt_9 (k := 5) (u := 43) rfl
  have pf_qa := ia qa f_qa
  obtain ⟨qp, f_qp, g_qp⟩ := hx_rf hT gx tt_9 (k := 7) (u := 44) rfl
  have pf_qp := ip qp f_qp
  obtain ⟨qc, f_qc, g_qc⟩ := hx_rf hT gx tt_9 (k := 10) (u := 45) rfl
  have pf_qc := ic qc f_qc
  obtain ⟨qh, f_qh, g_qh⟩ := hx_rf hT gx tt_9 (k := 12) (u := 46) rfl
  have pf_qh := ih qh f_qh
  obtain ⟨qw, f_qw, g_qw⟩ := hx_rf hT gx tt_9 (k := 19) (u := 8) rfl
  obtain ⟨ql, f_ql, g_ql⟩ := hx_rf hT g_qw tt_8 (k := 3) (u := 40) rfl
  have pf_ql := il qw ql f_qw f_ql
  obtain ⟨nw, f_m_now⟩ : ∃ y : Int32, hl1.2.1 am 0 = y := ⟨_, rfl⟩
  have b_nw := hT.gi gm tt_10 (k := 0) rfl
  rw [f_m_now] at b_nw
  have b_nw : 0 ≤ nw.toInt ∧ nw.toInt ≤ 7999 := b_nw
  obtain ⟨np, f_m_persons⟩ : ∃ y : Int32, hl1.2.1 am 20 = y := ⟨_, rfl⟩
  have b_np := hT.gi gm tt_10 (k := 20) rfl
  rw [f_m_persons] at b_np
  have b_np : 0 ≤ np.toInt ∧ np.toInt ≤ 40 := b_np
  obtain ⟨c0, f_m_claims⟩ : ∃ y : Int32, hl1.2.1 am 36 = y := ⟨_, rfl⟩
  have b_c0 := hT.gi gm tt_10 (k := 36) rfl
  rw [f_m_claims] at b_c0
  have b_c0 : 0 ≤ c0.toInt ∧ c0.toInt ≤ 100 := b_c0
  obtain ⟨tl, f_m_taped⟩ : ∃ y : Int32, hl1.2.1 am 7 = y := ⟨_, rfl⟩
  have b_tl := hT.gi gm tt_10 (k := 7) rfl
  rw [f_m_taped] at b_tl
  have b_tl : 0 ≤ tl.toInt ∧ tl.toInt ≤ 400 := b_tl
  obtain ⟨a0, f_m_acts⟩ : ∃ y : Int32, hl1.2.1 am 1 = y := ⟨_, rfl⟩
  have b_a0 := hT.gi gm tt_10 (k := 1) rfl
  rw [f_m_acts] at b_a0
  have b_a0 : 0 ≤ a0.toInt ∧ a0.toInt ≤ 8 := b_a0
  obtain ⟨m0, f_m_heardMany⟩ : ∃ y : Int32, hl1.2.1 am 57 = y := ⟨_, rfl⟩
  have b_m0 := hT.gi gm tt_10 (k := 57) rfl
  rw [f_m_heardMany] at b_m0
  have b_m0 : 0 ≤ m0.toInt ∧ m0.toInt ≤ 100 := b_m0
  obtain ⟨ln, f_m_lines⟩ : ∃ y : Int32, hl1.2.1 am 29 = y := ⟨_, rfl⟩
  have b_ln := hT.gi gm tt_10 (k := 29) rfl
  rw [f_m_lines] at b_ln
  have b_ln : 0 ≤ ln.toInt ∧ ln.toInt ≤ 400 := b_ln
  obtain ⟨lsd, f_m_listed⟩ : ∃ y : Int32, hl1.2.1 am 90 = y := ⟨_, rfl⟩
  have b_lsd := hT.gi gm tt_10 (k := 90) rfl
  rw [f_m_listed] at b_lsd
  have b_lsd : 0 ≤ lsd.toInt ∧ lsd.toInt ≤ 8 := b_lsd
  obtain ⟨wkm, f_m_walkedMany⟩ : ∃ y : Int32, hl1.2.1 am 92 = y := ⟨_, rfl⟩
  have b_wkm := hT.gi gm tt_10 (k := 92) rfl
  rw [f_m_walkedMany] at b_wkm
  have b_wkm : 0 ≤ wkm.toInt ∧ wkm.toInt ≤ 8 := b_wkm
  have f_x_now : hl1.2.1 ax 2 = nw := he_nw.trans f_m_now
  have f_x_personCount : hl1.2.1 ax 8 = np := he_np.trans f_m_persons
  have f_x_claimCount : hl1.2.1 ax 11 = c0 := he_c0.trans f_m_claims
  have f_x_tapeLength : hl1.2.1 ax 1 = tl := he_tl.trans f_m_taped
  have f_x_actCount : hl1.2.1 ax 6 = a0 := he_a0.trans f_m_acts
  have f_x_heardCount : hl1.2.1 ax 13 = m0 := he_m0.trans f_m_heardMany
  obtain ⟨mw, f_mw, g_mw⟩ := hx_rf hT gm tt_10 (k := 19) (u := 57) rfl
  obtain ⟨F_mw, n_mw⟩ : ∃ g : Nat → Int32, hl1.2.1 mw = g := ⟨_, rfl⟩
  obtain ⟨mr, f_mr, g_mr⟩ := hx_rf hT gm tt_10 (k := 3) (u := 50) rfl
  obtain ⟨F_mr, n_mr⟩ : ∃ g : Nat → Int32, hl1.2.1 mr = g := ⟨_, rfl⟩
  obtain ⟨mp, f_mp, g_mp⟩ := hx_rf hT gm tt_10 (k := 5) (u := 52) rfl
  obtain ⟨F_mp, n_mp⟩ : ∃ g : Nat → Int32, hl1.2.1 mp = g := ⟨_, rfl⟩
  obtain ⟨mn, f_mn, g_mn⟩ := hx_rf hT gm tt_10 (k := 4) (u := 51) rfl
  obtain ⟨F_mn, n_mn⟩ : ∃ g : Nat → Int32, hl1.2.1 mn = g := ⟨_, rfl⟩
  obtain ⟨ml, f_ml, g_ml⟩ := hx_rf hT gm tt_10 (k := 44) (u := 79) rfl
  obtain ⟨F_ml, n_ml⟩ : ∃ g : Nat → Int32, hl1.2.1 ml = g := ⟨_, rfl⟩
  obtain ⟨mh, f_mh, g_mh⟩ := hx_rf hT gm tt_10 (k := 47) (u := 82) rfl
  obtain ⟨F_mh, n_mh⟩ : ∃ g : Nat → Int32, hl1.2.1 mh = g := ⟨_, rfl⟩
  obtain ⟨mt, f_mt, g_mt⟩ := hx_rf hT gm tt_10 (k := 45) (u := 80) rfl
  obtain ⟨F_mt, n_mt⟩ : ∃ g : Nat → Int32, hl1.2.1 mt = g := ⟨_, rfl⟩
  obtain ⟨m_fou, f_m_fou, g_m_fou⟩ := hx_rf hT gm tt_10 (k := 46) (u := 81) rfl
  obtain ⟨F_m_fou, n_m_fou⟩ : ∃ g : Nat → Int32, hl1.2.1 m_fou = g := ⟨_, rfl⟩
  obtain ⟨qo_ln, f_qo_ln, g_qo_ln⟩ := hx_rf hT gx tt_9 (k := 9) (u := 1) rfl
  have f_o_ln : hl1.2.1 qo_ln 0 = ln := (ho_ln qo_ln f_qo_ln).trans f_m_lines
  have f_o_lsd : hl1.2.1 qw 0 = lsd := (ho_lsd qw f_qw).trans f_m_listed
  have f_o_wkm : hl1.2.1 qw 1 = wkm := (ho_wkm qw f_qw).trans f_m_walkedMany
  have nu_qp := hn_qp qp f_qp; rw [f_x_personCount] at nu_qp
  have nu_qc := hn_qc qc f_qc; rw [f_x_claimCount] at nu_qc
  obtain ⟨b_of, f_b_of, g_b_of⟩ := hx_rf hT g_qo_ln tt_1 (k := 1) (u := 13) rfl
  obtain ⟨B_of, n_b_of⟩ : ∃ g : Nat → Int32, hl1.2.1 b_of = g := ⟨_, rfl⟩
  obtain ⟨m_of, f_m_of, g_m_of⟩ := hx_rf hT gm tt_10 (k := 30) (u := 66) rfl
  obtain ⟨F_of, n_m_of⟩ : ∃ g : Nat → Int32, hl1.2.1 m_of = g := ⟨_, rfl⟩
  have eb_of := hk_of qo_ln b_of m_of f_qo_ln f_b_of f_m_of; rw [n_b_of, n_m_of, f_o_ln] at eb_of
  obtain ⟨b_wf, f_b_wf, g_b_wf⟩ := hx_rf hT g_qo_ln tt_1 (k := 2) (u := 14) rfl
  obtain ⟨B_wf, n_b_wf⟩ : ∃ g : Nat → Int32, hl1.2.1 b_wf = g := ⟨_, rfl⟩
  obtain ⟨m_wf, f_m_wf, g_m_wf⟩ := hx_rf hT gm tt_10 (k := 31) (u := 67) rfl
  obtain ⟨F_wf, n_m_wf⟩ : ∃ g : Nat → Int32, hl1.2.1 m_wf = g := ⟨_, rfl⟩
  have eb_wf := hk_wf qo_ln b_wf m_wf f_qo_ln f_b_wf f_m_wf; rw [n_b_wf, n_m_wf, f_o_ln] at eb_wf
  obtain ⟨b_df, f_b_df, g_b_df⟩ := hx_rf hT g_qo_ln tt_1 (k := 3) (u := 15) rfl
  obtain ⟨B_df, n_b_df⟩ : ∃ g : Nat → Int32, hl1.2.1 b_df = g := ⟨_, rfl⟩
  obtain ⟨m_df, f_m_df, g_m_df⟩ := hx_rf hT gm tt_10 (k := 32) (u := 68) rfl
  obtain ⟨F_df, n_m_df⟩ : ∃ g : Nat → Int32, hl1.2.1 m_df = g := ⟨_, rfl⟩
  have eb_df := hk_df qo_ln b_df m_df f_qo_ln f_b_df f_m_df; rw [n_b_df, n_m_df, f_o_ln] at eb_df
  obtain ⟨b_kf, f_b_kf, g_b_kf⟩ := hx_rf hT g_qo_ln tt_1 (k := 4) (u := 16) rfl
  obtain ⟨B_kf, n_b_kf⟩ : ∃ g : Nat → Int32, hl1.2.1 b_kf = g := ⟨_, rfl⟩
  obtain ⟨m_kf, f_m_kf, g_m_kf⟩ := hx_rf hT gm tt_10 (k := 33) (u := 69) rfl
  obtain ⟨F_kf, n_m_kf⟩ : ∃ g : Nat → Int32, hl1.2.1 m_kf = g := ⟨_, rfl⟩
  have eb_kf := hk_kf qo_ln b_kf m_kf f_qo_ln f_b_kf f_m_kf; rw [n_b_kf, n_m_kf, f_o_ln] at eb_kf
  obtain ⟨b_sf, f_b_sf, g_b_sf⟩ := hx_rf hT g_qo_ln tt_1 (k := 5) (u := 17) rfl
  obtain ⟨B_sf, n_b_sf⟩ : ∃ g : Nat → Int32, hl1.2.1 b_sf = g := ⟨_, rfl⟩
  obtain ⟨m_sf, f_m_sf, g_m_sf⟩ := hx_rf hT gm tt_10 (k := 34) (u := 70) rfl
  obtain ⟨F_sf, n_m_sf⟩ : ∃ g : Nat → Int32, hl1.2.1 m_sf = g := ⟨_, rfl⟩
  have eb_sf := hk_sf qo_ln b_sf m_sf f_qo_ln f_b_sf f_m_sf; rw [n_b_sf, n_m_sf, f_o_ln] at eb_sf
  obtain ⟨b_bf, f_b_bf, g_b_bf⟩ := hx_rf hT g_qo_ln tt_1 (k := 6) (u := 18) rfl
  obtain ⟨bfL, n_b_bf⟩ : ∃ g : Nat → Int32, hl1.2.1 b_bf = g := ⟨_, rfl⟩
  obtain ⟨hBD, hDY⟩ := hkBD qo_ln b_df b_bf f_qo_ln f_b_df f_b_bf; rw [n_b_df, n_b_bf, f_o_ln] at hBD; rw [n_b_df, f_o_ln] at hDY
  have hBDm := hy_BD_c eb_df hBD
  have hDYm : hy_DY F_df ln.toInt.toNat := fun x hx => by rw [← eb_df x hx]; exact hDY x hx
  have sb_list := hLQ qw ql qc f_qw f_ql f_qc
  obtain ⟨m_lst, f_m_lst, g_m_lst⟩ := hx_rf hT gm tt_10 (k := 91) (u := 112) rfl
  obtain ⟨F_lst, n_lst⟩ : ∃ g : Nat → Int32, hl1.2.1 m_lst = g := ⟨_, rfl⟩
  obtain ⟨c_lst, cl_lst⟩ : ∃ g : Nat → Int32, hx_col 8 hl1 ql 0 = g := ⟨_, rfl⟩
  have eq_lst := hLE qw ql m_lst f_qw f_ql f_m_lst; rw [cl_lst, n_lst] at eq_lst
  obtain ⟨qtp, f_qtp, g_qtp⟩ := hx_rf hT gx tt_9 (k := 0) (u := 42) rfl
  obtain ⟨m_tp, f_m_tp, g_m_tp⟩ := hx_rf hT gm tt_10 (k := 6) (u := 53) rfl
  obtain ⟨F_tp, n_tp⟩ : ∃ g : Nat → Int32, hl1.2.1 m_tp = g := ⟨_, rfl⟩
  have n_qtp : hl1.2.1 qtp = F_tp := (hkTP qtp m_tp f_qtp f_m_tp).trans n_tp
  obtain ⟨c_dead, cl_dead⟩ : ∃ g : Nat → Int32, hx_col 40 hl1 qp 7 = g := ⟨_, rfl⟩
  obtain ⟨m_dead, f_m_dead, g_m_dead⟩ := hx_rf hT gm tt_10 (k := 27) (u := 64) rfl
  obtain ⟨F_dead, n_dead⟩ : ∃ g : Nat → Int32, hl1.2.1 m_dead = g := ⟨_, rfl⟩
  have eq_dead := hc_dead qp m_dead f_qp f_m_dead; rw [cl_dead, n_dead] at eq_dead
  have z_dead : np.toInt.toNat < 40 → c_dead np.toInt.toNat = 0 := fun hj => hx_num_z nu_qp cl_dead hj (by omega)
  obtain ⟨c_isj, cl_isj⟩ : ∃ g : Nat → Int32, hx_col 40 hl1 qp 8 = g := ⟨_, rfl⟩
  obtain ⟨m_isj, f_m_isj, g_m_isj⟩ := hx_rf hT gm tt_10 (k := 28) (u := 65) rfl
  obtain ⟨F_isj, n_isj⟩ : ∃ g : Nat → Int32, hl1.2.1 m_isj = g := ⟨_, rfl⟩
  have eq_isj := hc_isj qp m_isj f_qp f_m_isj; rw [cl_isj, n_isj] at eq_isj
  have z_isj : np.toInt.toNat < 40 → c_isj np.toInt.toNat = 0 := fun hj => hx_num_z nu_qp cl_isj hj (by omega)
  obtain ⟨c_dox, cl_dox⟩ : ∃ g : Nat → Int32, hx_col 40 hl1 qp 5 = g := ⟨_, rfl⟩
  obtain ⟨m_dox, f_m_dox, g_m_dox⟩ := hx_rf hT gm tt_10 (k := 24) (u := 61) rfl
  obtain ⟨F_dox, n_dox⟩ : ∃ g : Nat → Int32, hl1.2.1 m_dox = g := ⟨_, rfl⟩
  have eq_dox := hc_dox qp m_dox f_qp f_m_dox; rw [cl_dox, n_dox] at eq_dox
  have z_dox : np.toInt.toNat < 40 → c_dox np.toInt.toNat = 0 := fun hj => hx_num_z nu_qp cl_dox hj (by omega)
  obtain ⟨c_doy, cl_doy⟩ : ∃ g : Nat → Int32, hx_col 40 hl1 qp 6 = g := ⟨_, rfl⟩
  obtain ⟨m_doy, f_m_doy, g_m_doy⟩ := hx_rf hT gm tt_10 (k := 25) (u := 62) rfl
  obtain ⟨F_doy, n_doy⟩ : ∃ g : Nat → Int32, hl1.2.1 m_doy = g := ⟨_, rfl⟩
  have eq_doy := hc_doy qp m_doy f_qp f_m_doy; rw [cl_doy, n_doy] at eq_doy
  have z_doy : np.toInt.toNat < 40 → c_doy np.toInt.toNat = 0 := fun hj => hx_num_z nu_qp cl_doy hj (by omega)
  obtain ⟨c_fou, cl_fou⟩ : ∃ g : Nat → Int32, hx_col 100 hl1 qc 10 = g := ⟨_, rfl⟩
  have eq_fou := hc_fou qc m_fou f_qc f_m_fou; rw [cl_fou, n_m_fou] at eq_fou
  have z_fou : c0.toInt.toNat < 100 → c_fou c0.toInt.toNat = 0 := fun hj => hx_num_z nu_qc cl_fou hj (by omega)
  obtain ⟨c_tri, cl_tri⟩ : ∃ g : Nat → Int32, hx_col 100 hl1 qc 9 = g := ⟨_, rfl⟩
  have eq_tri := hc_tri qc mt f_qc f_mt; rw [cl_tri, n_mt] at eq_tri
  have z_tri : c0.toInt.toNat < 100 → c_tri c0.toInt.toNat = 0 := fun hj => hx_num_z nu_qc cl_tri hj (by omega)
  obtain ⟨qlt, f_qlt, g_qlt⟩ := hx_rf hT g_qw tt_8 (k := 2) (u := 39) rfl
  obtain ⟨qlf, f_qlf, g_qlf⟩ := hx_rf hT g_qw tt_8 (k := 4) (u := 41) rfl
  obtain ⟨m_wkd, f_m_wkd, g_m_wkd⟩ := hx_rf hT gm tt_10 (k := 93) (u := 113) rfl
  obtain ⟨F_qlt, n_qlt⟩ : ∃ g : Nat → Int32, hl1.2.1 qlt = g := ⟨_, rfl⟩
  obtain ⟨F_m_wkd, n_m_wkd⟩ : ∃ g : Nat → Int32, hl1.2.1 m_wkd = g := ⟨_, rfl⟩
  have eb_wkd := hkWD qw qlt m_wkd f_qw f_qlt f_m_wkd; rw [n_qlt, n_m_wkd, f_o_wkm] at eb_wkd
  obtain ⟨m_aga, f_m_aga, g_m_aga⟩ := hx_rf hT gm tt_10 (k := 38) (u := 73) rfl
  obtain ⟨F_aga, n_aga⟩ : ∃ g : Nat → Int32, hl1.2.1 m_aga = g := ⟨_, rfl⟩
  have hDF := hkDF qc qp m_aga f_qc f_qp f_m_aga; rw [n_aga, f_x_claimCount] at hDF
  obtain ⟨qwo, f_qwo, g_qwo⟩ := hx_rf hT gx tt_9 (k := 4) (u := 0) rfl
  obtain ⟨m_ad, f_m_ad, g_m_ad⟩ := hx_rf hT gm tt_10 (k := 2) (u := 49) rfl
  obtain ⟨F_ad, n_ad⟩ : ∃ g : Nat → Int32, hl1.2.1 m_ad = g := ⟨_, rfl⟩
  obtain ⟨A9, hRA9, hCA9, hAC9, hAB⟩ := hkAC qa qwo m_ad mr mn mp qc ml f_qa f_qwo f_m_ad f_mr f_mn f_mp f_qc f_ml
  rw [f_x_actCount] at hRA9; rw [f_x_actCount, n_ad, n_mr, n_mn, n_mp] at hCA9
  obtain ⟨m_by, f_m_by, g_m_by⟩ := hx_rf hT gm tt_10 (k := 37) (u := 72) rfl
  obtain ⟨F_by, n_by⟩ : ∃ g : Nat → Int32, hl1.2.1 m_by = g := ⟨_, rfl⟩
  obtain ⟨m_ho, f_m_ho, g_m_ho⟩ := hx_rf hT gm tt_10 (k := 58) (u := 92) rfl
  obtain ⟨F_ho, n_ho⟩ : ∃ g : Nat → Int32, hl1.2.1 m_ho = g := ⟨_, rfl⟩
  obtain ⟨m_fc, f_m_fc, g_m_fc⟩ := hx_rf hT gm tt_10 (k := 53) (u := 88) rfl
  obtain ⟨F_fc, n_fc⟩ : ∃ g : Nat → Int32, hl1.2.1 m_fc = g := ⟨_, rfl⟩
  obtain ⟨m_nt, f_m_nt, g_m_nt⟩ := hx_rf hT gm tt_10 (k := 41) (u := 76) rfl
  obtain ⟨F_nt, n_nt⟩ : ∃ g : Nat → Int32, hl1.2.1 m_nt = g := ⟨_, rfl⟩
  obtain ⟨m_wt, f_m_wt, g_m_wt⟩ := hx_rf hT gm tt_10 (k := 42) (u := 77) rfl
  obtain ⟨F_wt, n_wt⟩ : ∃ g : Nat → Int32, hl1.2.1 m_wt = g := ⟨_, rfl⟩
  obtain ⟨m_be, f_m_be, g_m_be⟩ := hx_rf hT gm tt_10 (k := 52) (u := 87) rfl
  obtain ⟨F_be, n_be⟩ : ∃ g : Nat → Int32, hl1.2.1 m_be = g := ⟨_, rfl⟩
  obtain ⟨m_bor, f_m_bor, g_m_bor⟩ := hx_rf hT gm tt_10 (k := 21) (u := 58) rfl
  obtain ⟨F_bor, n_bor⟩ : ∃ g : Nat → Int32, hl1.2.1 m_bor = g := ⟨_, rfl⟩
  obtain ⟨m_kin, f_m_kin, g_m_kin⟩ := hx_rf hT gm tt_10 (k := 26) (u := 63) rfl
  obtain ⟨F_kin, n_kin⟩ : ∃ g : Nat → Int32, hl1.2.1 m_kin = g := ⟨_, rfl⟩
  obtain ⟨m_sum, f_m_sum, g_m_sum⟩ := hx_rf hT gm tt_10 (k := 39) (u := 74) rfl
  obtain ⟨F_sum, n_sum⟩ : ∃ g : Nat → Int32, hl1.2.1 m_sum = g := ⟨_, rfl⟩
  obtain ⟨m_fro, f_m_fro, g_m_fro⟩ := hx_rf hT gm tt_10 (k := 40) (u := 75) rfl
  obtain ⟨F_fro, n_fro⟩ : ∃ g : Nat → Int32, hl1.2.1 m_fro = g := ⟨_, rfl⟩
  obtain ⟨m_fil, f_m_fil, g_m_fil⟩ := hx_rf hT gm tt_10 (k := 43) (u := 78) rfl
  obtain ⟨F_fil, n_fil⟩ : ∃ g : Nat → Int32, hl1.2.1 m_fil = g := ⟨_, rfl⟩
  obtain ⟨m_jud, f_m_jud, g_m_jud⟩ := hx_rf hT gm tt_10 (k := 51) (u := 86) rfl
  obtain ⟨F_jud, n_jud⟩ : ∃ g : Nat → Int32, hl1.2.1 m_jud = g := ⟨_, rfl⟩
  have cl_bor : hx_col 40 hl1 qp 1 = F_bor := (hf_bor qp m_bor f_qp f_m_bor).trans n_bor
  have cl_kin : hx_col 40 hl1 qp 2 = F_kin := (hf_kin qp m_kin f_qp f_m_kin).trans n_kin
  have cl_sum : hx_col 100 hl1 qc 6 = F_sum := (hf_sum qc m_sum f_qc f_m_sum).trans n_sum
  have cl_fro : hx_col 100 hl1 qc 7 = F_fro := (hf_fro qc m_fro f_qc f_m_fro).trans n_fro
  have cl_fil : hx_col 100 hl1 qc 8 = F_fil := (hf_fil qc m_fil f_qc f_m_fil).trans n_fil
  have cl_hea : hx_col 100 hl1 qc 11 = F_mh := (hf_hea qc mh f_qc f_mh).trans n_mh
  have cl_jud : hx_col 100 hl1 qc 12 = F_jud := (hf_jud qc m_jud f_qc f_m_jud).trans n_jud
  have htb9 : ∀ c, c < 100 → 0 ≤ (c_tri c).toInt ∧ (c_tri c).toInt ≤ 512 := fun c hc => by rw [eq_tri c hc]; have w := hT.ei g_mt tt_80 (k := c) hc; rw [n_mt] at w; exact w
  have z_jud : F_jud c0.toInt.toNat = 0 := hx_num_z2 nu_qc cl_jud (by omega)
  have hDP := hkDP qc qp m_by f_qc f_qp f_m_by; rw [n_by, f_x_claimCount] at hDP
  have hHL := hkHL qh qc m_ho f_qh f_qc f_m_ho; rw [n_ho, f_x_heardCount, f_x_claimCount] at hHL
  have hHO9 := hkHO m_ho mh f_m_ho f_mh; rw [n_ho, n_mh, f_m_heardMany, f_m_claims] at hHO9
  obtain ⟨cF9L, hFX, hFR9⟩ := hkFX qc m_fc m_nt m_wt m_sum mh f_qc f_m_fc f_m_nt f_m_wt f_m_sum f_mh; rw [f_x_claimCount] at hFX; rw [n_fc, n_nt, n_wt, n_sum, n_mh, f_x_claimCount] at hFR9
  have hBX := hkBX qc m_be f_qc f_m_be; rw [n_be, f_x_claimCount] at hBX
  rw [n_ml, f_x_claimCount] at hAC9
  have hwd := jw mw f_mw; rw [n_mw] at hwd
  have hWK := jr mr f_mr; rw [n_mr, f_m_acts] at hWK
  have hRP := jp mp mn f_mp f_mn; rw [n_mp, n_mn, f_m_acts] at hRP
  have hPL := jl ml f_ml; rw [n_ml, f_m_claims, f_m_acts] at hPL
  have hHC := jh mh f_mh; rw [n_mh, f_m_heardMany, f_m_claims] at hHC
  have hTR := jt mt f_mt; rw [n_mt] at hTR
  have hHF := jf mh m_fou f_mh f_m_fou; rw [n_mh, n_m_fou, f_m_claims] at hHF
  refine lv_aload_n hx hb dL_law_888 rfl (lv_at hl 2 rfl) ?_
  refine lv_aload_n hx hb dL_law_889 rfl (lv_at hl 3 rfl) ?_
  refine lv_iload_n hx hb dL_law_890 rfl (lv_at hl 0 rfl) ?_
  refine lv_iconst (v := 1) hx hb dL_law_891 (by decide) ?_
  refine lv_iadd hx hb dL_law_892 ?_
  have rg_464 := i32_r i
  refine lv_topi (fun x_465 ex_465 => ?_)
  have zx_465 : x_465.toInt = i.toInt + 1 := by rw [ex_465]; exact i32_add rfl (by decide) (by omega) (by omega)
  refine va_sld hx hb hX hbl hbA hW.2.2.2.1 (vp_in_iff.mpr ⟨by omega, by omega⟩) dL_law_893 ?_
  refine lv_topi (fun x_466 ex_466 => ?_)
  refine lv_aload_n hx hb dL_law_894 rfl (lv_at hl 3 rfl) ?_
  refine lv_iload_n hx hb dL_law_895 rfl (lv_at hl 0 rfl) ?_
  refine lv_iconst (v := 2) hx hb dL_law_896 (by decide) ?_
  refine lv_iadd hx hb dL_law_897 ?_
  refine lv_topi (fun x_467 ex_467 => ?_)
  have zx_467 : x_467.toInt = i.toInt + 2 := by rw [ex_467]; exact i32_add rfl (by decide) (by omega) (by omega)
  refine va_sld hx hb hX hbl hbA hW.2.2.2.1 (vp_in_iff.mpr ⟨by omega, by omega⟩) dL_law_898 ?_
  refine lv_topi (fun x_468 ex_468 => ?_)
  have hTo := hT
  refine hx_goi (hx_runV (As := [.int x_466, .int x_468]) (rest := []) ⟨hx, hb, hml, hown, hts⟩ hW gx tt_9 (T := TX9) (N := 20) rfl (t_X9_order l dC dI dA L1 hl1 H.size ax x_466 x_468 hT gx qc g_qc f_qc pf_qc) (cwV 2 hts (hx_gV kw_845 kw_842 kw_843 kw_844 kw_94) rfl rfl rfl (by decide +kernel) ⟨Nat.le_of_ble_eq_true rfl, Nat.le_of_ble_eq_true rfl⟩) rfl hl.1 rfl (Nat.le_of_ble_eq_true rfl) dL_law_899 ⟨(show CC + 0 ≤ 600000 from by omega), (show SS + 0 ≤ 7302250 from by omega)⟩) hW (fun r_471 L_469 h_470 H locs p_472 hW => ?_)
  obtain ⟨hr_473, hT, hs⟩ := p_472
  replace hT : hx_T T_tb L_469 h_470 := hT
  replace hs : hx_S T_tb [(2, 13), (2, 14), (2, 15)] L1 hl1 L_469 h_470 := hs
  replace f_qa := (hs.o gx trivial rfl).2.trans f_qa
  replace f_qp := (hs.o gx trivial rfl).2.trans f_qp
  replace f_qc := (hs.o gx trivial rfl).2.trans f_qc
  replace f_qh := (hs.o gx trivial rfl).2.trans f_qh
  replace f_qw := (hs.o gx trivial rfl).2.trans f_qw
  replace f_ql := (hs.o g_qw trivial rfl).2.trans f_ql
  replace f_m_now := (hs.o gm trivial rfl).1.trans f_m_now
  replace f_m_persons := (hs.o gm trivial rfl).1.trans f_m_persons
  replace f_m_claims := (hs.o gm trivial rfl).1.trans f_m_claims
  replace f_m_taped := (hs.o gm trivial rfl).1.trans f_m_taped
  replace f_m_acts := (hs.o gm trivial rfl).1.trans f_m_acts
  replace f_m_heardMany := (hs.o gm trivial rfl).1.trans f_m_heardMany
  replace f_m_lines := (hs.o gm trivial rfl).1.trans f_m_lines
  replace f_m_listed := (hs.o gm trivial rfl).1.trans f_m_listed
  replace f_m_walkedMany := (hs.o gm trivial rfl).1.trans f_m_walkedMany
  replace f_x_now := (hs.o gx trivial rfl).1.trans f_x_now
  replace f_x_personCount := (hs.o gx trivial rfl).1.trans f_x_personCount
  replace f_x_claimCount := (hs.o gx trivial rfl).1.trans f_x_claimCount
  replace f_x_tapeLength := (hs.o gx trivial rfl).1.trans f_x_tapeLength
  replace f_x_actCount := (hs.o gx trivial rfl).1.trans f_x_actCount
  replace f_x_heardCount := (hs.o gx trivial rfl).1.trans f_x_heardCount
  replace f_mw := (hs.o gm trivial rfl).2.trans f_mw
  replace f_mr := (hs.o gm trivial rfl).2.trans f_mr
  replace f_mp := (hs.o gm trivial rfl).2.trans f_mp
  replace f_mn := (hs.o gm trivial rfl).2.trans f_mn
  replace f_ml := (hs.o gm trivial rfl).2.trans f_ml
  replace f_mh := (hs.o gm trivial rfl).2.trans f_mh
  replace f_mt := (hs.o gm trivial rfl).2.trans f_mt
  replace f_m_fou := (hs.o gm trivial rfl).2.trans f_m_fou
  replace f_qo_ln := (hs.o gx trivial rfl).2.trans f_qo_ln
  replace f_o_ln := (hs.o g_qo_ln trivial rfl).1.trans f_o_ln
  replace f_o_lsd := (hs.o g_qw trivial rfl).1.trans f_o_lsd
  replace f_o_wkm := (hs.o g_qw trivial rfl).1.trans f_o_wkm
  replace f_b_of := (hs.o g_qo_ln trivial rfl).2.trans f_b_of
  replace f_m_of := (hs.o gm trivial rfl).2.trans f_m_of
  replace f_b_wf := (hs.o g_qo_ln trivial rfl).2.trans f_b_wf
  replace f_m_wf := (hs.o gm trivial rfl).2.trans f_m_wf
  replace f_b_df := (hs.o g_qo_ln trivial rfl).2.trans f_b_df
  replace f_m_df := (hs.o gm trivial rfl).2.trans f_m_df
  replace f_b_kf := (hs.o g_qo_ln trivial rfl).2.trans f_b_kf
  replace f_m_kf := (hs.o gm trivial rfl).2.trans f_m_kf
  replace f_b_sf := (hs.o g_qo_ln trivial rfl).2.trans f_b_sf
  replace f_m_sf := (hs.o gm trivial rfl).2.trans f_m_sf
  replace f_b_bf := (hs.o g_qo_ln trivial rfl).2.trans f_b_bf
  replace f_m_lst := (hs.o gm trivial rfl).2.trans f_m_lst
  replace f_qtp := (hs.o gx trivial rfl).2.trans f_qtp
  replace f_m_tp := (hs.o gm trivial rfl).2.trans f_m_tp
  replace f_m_dead := (hs.o gm trivial rfl).2.trans f_m_dead
  replace f_m_isj := (hs.o gm trivial rfl).2.trans f_m_isj
  replace f_m_dox := (hs.o gm trivial rfl).2.trans f_m_dox
  replace f_m_doy := (hs.o gm trivial rfl).2.trans f_m_doy
  replace f_qlt := (hs.o g_qw trivial rfl).2.trans f_qlt
  replace f_qlf := (hs.o g_qw trivial rfl).2.trans f_qlf
  replace f_m_wkd := (hs.o gm trivial rfl).2.trans f_m_wkd
  replace f_m_aga := (hs.o gm trivial rfl).2.trans f_m_aga
  replace f_qwo := (hs.o gx trivial rfl).2.trans f_qwo
  replace f_m_ad := (hs.o gm trivial rfl).2.trans f_m_ad
  replace f_m_by := (hs.o gm trivial rfl).2.trans f_m_by
  replace f_m_ho := (hs.o gm trivial rfl).2.trans f_m_ho
  replace f_m_fc := (hs.o gm trivial rfl).2.trans f_m_fc
  replace f_m_nt := (hs.o gm trivial rfl).2.trans f_m_nt
  replace f_m_wt := (hs.o gm trivial rfl).2.trans f_m_wt
  replace f_m_be := (hs.o gm trivial rfl).2.trans f_m_be
  replace f_m_bor := (hs.o gm trivial rfl).2.trans f_m_bor
  replace f_m_kin := (hs.o gm trivial rfl).2.trans f_m_kin
  replace f_m_sum := (hs.o gm trivial rfl).2.trans f_m_sum
  replace f_m_fro := (hs.o gm trivial rfl).2.trans f_m_fro
  replace f_m_fil := (hs.o gm trivial rfl).2.trans f_m_fil
  replace f_m_jud := (hs.o gm trivial rfl).2.trans f_m_jud
  replace pf_qa : ∀ j : Nat, (j : Int) < (h_470.2.1 ax 6).toInt → h_470.2.2 qa j ≠ none := by
    intro j hj; rw [(hs.o gx trivial rfl).1] at hj; rw [(hs.a g_qa rfl j).2]; exact pf_qa j hj
  replace pf_qp : ∀ j : Nat, (j : Int) < (h_470.2.1 ax 8).toInt → h_470.2.2 qp j ≠ none := by
    intro j hj; rw [(hs.o gx trivial rfl).1] at hj; rw [(hs.a g_qp rfl j).2]; exact pf_qp j hj
  replace pf_qc : ∀ j : Nat, (j : Int) < (h_470.2.1 ax 11).toInt → h_470.2.2 qc j ≠ none := by
    intro j hj; rw [(hs.o gx trivial rfl).1] at hj; rw [(hs.a g_qc rfl j).2]; exact pf_qc j hj
  replace pf_qh : ∀ j : Nat, (j : Int) < (h_470.2.1 ax 13).toInt → h_470.2.2 qh j ≠ none := by
    intro j hj; rw [(hs.o gx trivial rfl).1] at hj; rw [(hs.a g_qh rfl j).2]; exact pf_qh j hj
  replace pf_ql : ∀ j : Nat, (j : Int) < (h_470.2.1 qw 0).toInt → h_470.2.2 ql j ≠ none := by
    intro j hj; rw [(hs.o g_qw trivial rfl).1] at hj; rw [(hs.a g_ql rfl j).2]; exact pf_ql j hj
  replace cl_lst : hx_col 8 h_470 ql 0 = c_lst := (hx_col_S hs hTo g_ql tt_40 tt_2 rfl rfl).trans cl_lst
  replace cl_dead : hx_col 40 h_470 qp 7 = c_dead := (hx_col_S hs hTo g_qp tt_44 tt_4 rfl rfl).trans cl_dead
  replace cl_isj : hx_col 40 h_470 qp 8 = c_isj := (hx_col_S hs hTo g_qp tt_44 tt_4 rfl rfl).trans cl_isj
  replace cl_dox : hx_col 40 h_470 qp 5 = c_dox := (hx_col_S hs hTo g_qp tt_44 tt_4 rfl rfl).trans cl_dox
  replace cl_doy : hx_col 40 h_470 qp 6 = c_doy := (hx_col_S hs hTo g_qp tt_44 tt_4 rfl rfl).trans cl_doy
  replace cl_fou : hx_col 100 h_470 qc 10 = c_fou := (hx_col_S hs hTo g_qc tt_45 tt_2 rfl rfl).trans cl_fou
  replace cl_tri : hx_col 100 h_470 qc 9 = c_tri := (hx_col_S hs hTo g_qc tt_45 tt_2 rfl rfl).trans cl_tri
  replace cl_bor : hx_col 40 h_470 qp 1 = F_bor := (hx_col_S hs hTo g_qp tt_44 tt_4 rfl rfl).trans cl_bor
  replace cl_kin : hx_col 40 h_470 qp 2 = F_kin := (hx_col_S hs hTo g_qp tt_44 tt_4 rfl rfl).trans cl_kin
  replace cl_sum : hx_col 100 h_470 qc 6 = F_sum := (hx_col_S hs hTo g_qc tt_45 tt_2 rfl rfl).trans cl_sum
  replace cl_fro : hx_col 100 h_470 qc 7 = F_fro := (hx_col_S hs hTo g_qc tt_45 tt_2 rfl rfl).trans cl_fro
  replace cl_fil : hx_col 100 h_470 qc 8 = F_fil := (hx_col_S hs hTo g_qc tt_45 tt_2 rfl rfl).trans cl_fil
  replace cl_hea : hx_col 100 h_470 qc 11 = F_mh := (hx_col_S hs hTo g_qc tt_45 tt_2 rfl rfl).trans cl_hea
  replace cl_jud : hx_col 100 h_470 qc 12 = F_jud := (hx_col_S hs hTo g_qc tt_45 tt_2 rfl rfl).trans cl_jud
  replace nu_qp : hx_num 40 h_470 qp 0 (np.toInt) := hx_num_S hs hTo g_qp tt_44 tt_4 rfl rfl nu_qp
  replace nu_qc : hx_num 100 h_470 qc 0 (c0.toInt) := hx_num_S hs hTo g_qc tt_45 tt_2 rfl rfl nu_qc
  replace sb_list : hx_LQ 8 100 h_470 ql qc := hx_LQ_S hs g_ql g_qc rfl rfl sb_list
  replace hDF : hw_DF h_470 qc qp 2 F_aga c0.toInt := hw_DF_S hs hTo g_qc g_qp tt_45 tt_2 rfl rfl rfl hDF
  replace hRA9 : hv_RA h_470 qa qwo a0.toInt A9 := hv_RA_S hs hTo g_qa g_qwo tt_43 tt_0 rfl rfl rfl rfl rfl rfl (by omega) hRA9
  replace hDP : hw_DF h_470 qc qp 1 F_by c0.toInt := hw_DF_S hs hTo g_qc g_qp tt_45 tt_2 rfl rfl rfl hDP
  replace hAC9 : hv_AC h_470 qc F_ml c0.toInt A9 := hv_AC_S hs hTo g_qc tt_45 tt_2 rfl tt_0 rfl rfl rfl rfl rfl rfl rfl hAC9
  replace hFX : hv_FX 8 4 h_470 qc cF9L c0.toInt := hv_FX_S hs hTo g_qc tt_45 tt_2 rfl rfl rfl rfl hFX
  replace hBX : hv_FX 3 5 h_470 qc F_be c0.toInt := hv_FX_S hs hTo g_qc tt_45 tt_2 rfl rfl rfl rfl hBX
  replace hHL : hv_HL h_470 qh qc F_ho m0.toInt c0.toInt := hv_HL_S hs g_qh g_qc rfl rfl hHL
  replace n_mw : h_470.2.1 mw = F_mw := (funext fun j => (hs.a g_mw rfl j).1).trans n_mw
  replace n_mr : h_470.2.1 mr = F_mr := (funext fun j => (hs.a g_mr rfl j).1).trans n_mr
  replace n_mp : h_470.2.1 mp = F_mp := (funext fun j => (hs.a g_mp rfl j).1).trans n_mp
  replace n_mn : h_470.2.1 mn = F_mn := (funext fun j => (hs.a g_mn rfl j).1).trans n_mn
  replace n_ml : h_470.2.1 ml = F_ml := (funext fun j => (hs.a g_ml rfl j).1).trans n_ml
  replace n_mh : h_470.2.1 mh = F_mh := (funext fun j => (hs.a g_mh rfl j).1).trans n_mh
  replace n_mt : h_470.2.1 mt = F_mt := (funext fun j => (hs.a g_mt rfl j).1).trans n_mt
  replace n_m_fou : h_470.2.1 m_fou = F_m_fou := (funext fun j => (hs.a g_m_fou rfl j).1).trans n_m_fou
  replace n_b_of : h_470.2.1 b_of = B_of := (funext fun j => (hs.a g_b_of rfl j).1).trans n_b_of
  replace n_m_of : h_470.2.1 m_of = F_of := (funext fun j => (hs.a g_m_of rfl j).1).trans n_m_of
  replace n_b_wf : h_470.2.1 b_wf = B_wf := (funext fun j => (hs.a g_b_wf rfl j).1).trans n_b_wf
  replace n_m_wf : h_470.2.1 m_wf = F_wf := (funext fun j => (hs.a g_m_wf rfl j).1).trans n_m_wf
  replace n_b_df : h_470.2.1 b_df = B_df := (funext fun j => (hs.a g_b_df rfl j).1).trans n_b_df
  replace n_m_df : h_470.2.1 m_df = F_df := (funext fun j => (hs.a g_m_df rfl j).1).trans n_m_df
  replace n_b_kf : h_470.2.1 b_kf = B_kf := (funext fun j => (hs.a g_b_kf rfl j).1).trans n_b_kf
  replace n_m_kf : h_470.2.1 m_kf = F_kf := (funext fun j => (hs.a g_m_kf rfl j).1).trans n_m_kf
  replace n_b_sf : h_470.2.1 b_sf = B_sf := (funext fun j => (hs.a g_b_sf rfl j).1).trans n_b_sf
  replace n_m_sf : h_470.2.1 m_sf = F_sf := (funext fun j => (hs.a g_m_sf rfl j).1).trans n_m_sf
  replace n_b_bf : h_470.2.1 b_bf = bfL := (funext fun j => (hs.a g_b_bf rfl j).1).trans n_b_bf
  replace n_lst : h_470.2.1 m_lst = F_lst := (funext fun j => (hs.a g_m_lst rfl j).1).trans n_lst
  replace n_tp : h_470.2.1 m_tp = F_tp := (funext fun j => (hs.a g_m_tp rfl j).1).trans n_tp
  replace n_qtp : h_470.2.1 qtp = F_tp := (funext fun j => (hs.a g_qtp rfl j).1).trans n_qtp
  replace n_dead : h_470.2.1 m_dead = F_dead := (funext fun j => (hs.a g_m_dead rfl j).1).trans n_dead
  replace n_isj : h_470.2.1 m_isj = F_isj := (funext fun j => (hs.a g_m_isj rfl j).1).trans n_isj
  replace n_dox : h_470.2.1 m_dox = F_dox := (funext fun j => (hs.a g_m_dox rfl j).1).trans n_dox
  replace n_doy : h_470.2.1 m_doy = F_doy := (funext fun j => (hs.a g_m_doy rfl j).1).trans n_doy
  replace n_qlt : h_470.2.1 qlt = F_qlt := (funext fun j => (hs.a g_qlt rfl j).1).trans n_qlt
  replace n_m_wkd : h_470.2.1 m_wkd = F_m_wkd := (funext fun j => (hs.a g_m_wkd rfl j).1).trans n_m_wkd
  replace n_aga : h_470.2.1 m_aga = F_aga := (funext fun j => (hs.a g_m_aga rfl j).1).trans n_aga
  replace n_ad : h_470.2.1 m_ad = F_ad := (funext fun j => (hs.a g_m_ad rfl j).1).trans n_ad
  replace n_by : h_470.2.1 m_by = F_by := (funext fun j => (hs.a g_m_by rfl j).1).trans n_by
  replace n_ho : h_470.2.1 m_ho = F_ho := (funext fun j => (hs.a g_m_ho rfl j).1).trans n_ho
  replace n_fc : h_470.2.1 m_fc = F_fc := (funext fun j => (hs.a g_m_fc rfl j).1).trans n_fc
  replace n_nt : h_470.2.1 m_nt = F_nt := (funext fun j => (hs.a g_m_nt rfl j).1).trans n_nt
  replace n_wt : h_470.2.1 m_wt = F_wt := (funext fun j => (hs.a g_m_wt rfl j).1).trans n_wt
  replace n_be : h_470.2.1 m_be = F_be := (funext fun j => (hs.a g_m_be rfl j).1).trans n_be
  replace n_bor : h_470.2.1 m_bor = F_bor := (funext fun j => (hs.a g_m_bor rfl j).1).trans n_bor
  replace n_kin : h_470.2.1 m_kin = F_kin := (funext fun j => (hs.a g_m_kin rfl j).1).trans n_kin
  replace n_sum : h_470.2.1 m_sum = F_sum := (funext fun j => (hs.a g_m_sum rfl j).1).trans n_sum
  replace n_fro : h_470.2.1 m_fro = F_fro := (funext fun j => (hs.a g_m_fro rfl j).1).trans n_fro
  replace n_fil : h_470.2.1 m_fil = F_fil := (funext fun j => (hs.a g_m_fil rfl j).1).trans n_fil
  replace n_jud : h_470.2.1 m_jud = F_jud := (funext fun j => (hs.a g_m_jud rfl j).1).trans n_jud
  replace gx := gx.S hs
  replace gm := gm.S hs
  replace g_qa := g_qa.S hs
  replace g_qp := g_qp.S hs
  replace g_qc := g_qc.S hs
  replace g_qh := g_qh.S hs
  replace g_qw := g_qw.S hs
  replace g_ql := g_ql.S hs
  replace g_mw := g_mw.S hs
  replace g_mr := g_mr.S hs
  replace g_mp := g_mp.S hs
  replace g_mn := g_mn.S hs
  replace g_ml := g_ml.S hs
  replace g_mh := g_mh.S hs
  replace g_mt := g_mt.S hs
  replace g_m_fou := g_m_fou.S hs
  replace g_qo_ln := g_qo_ln.S hs
  replace g_b_of := g_b_of.S hs
  replace g_m_of := g_m_of.S hs
  replace g_b_wf := g_b_wf.S hs
  replace g_m_wf := g_m_wf.S hs
  replace g_b_df := g_b_df.S hs
  replace g_m_df := g_m_df.S hs
  replace g_b_kf := g_b_kf.S hs
  replace g_m_kf := g_m_kf.S hs
  replace g_b_sf := g_b_sf.S hs
  replace g_m_sf := g_m_sf.S hs
  replace g_b_bf := g_b_bf.S hs
  replace g_m_lst := g_m_lst.S hs
  replace g_qtp := g_qtp.S hs
  replace g_m_tp := g_m_tp.S hs
  replace g_m_dead := g_m_dead.S hs
  replace g_m_isj := g_m_isj.S hs
  replace g_m_dox := g_m_dox.S hs
  replace g_m_doy := g_m_doy.S hs
  replace g_qlt := g_qlt.S hs
  replace g_qlf := g_qlf.S hs
  replace g_m_wkd := g_m_wkd.S hs
  replace g_m_aga := g_m_aga.S hs
  replace g_qwo := g_qwo.S hs
  replace g_m_ad := g_m_ad.S hs
  replace g_m_by := g_m_by.S hs
  replace g_m_ho := g_m_ho.S hs
  replace g_m_fc := g_m_fc.S hs
  replace g_m_nt := g_m_nt.S hs
  replace g_m_wt := g_m_wt.S hs
  replace g_m_be := g_m_be.S hs
  replace g_m_bor := g_m_bor.S hs
  replace g_m_kin := g_m_kin.S hs
  replace g_m_sum := g_m_sum.S hs
  replace g_m_fro := g_m_fro.S hs
  replace g_m_fil := g_m_fil.S hs
  replace g_m_jud := g_m_jud.S hs
  refine lv_pop hx hb dL_law_902 rfl ?_
  refine lv_aload_n hx hb dL_law_903 rfl (lv_at hl 1 rfl) ?_
  refine lv_aload_n hx hb dL_law_904 rfl (lv_at hl 3 rfl) ?_
  refine lv_iload_n hx hb dL_law_905 rfl (lv_at hl 0 rfl) ?_
  refine lv_iconst (v := 1) hx hb dL_law_906 (by decide) ?_
  refine lv_iadd hx hb dL_law_907 ?_
  refine lv_topi (fun x_474 ex_474 => ?_)
  have zx_474 : x_474.toInt = i.toInt + 1 := by rw [ex_474]; exact i32_add rfl (by decide) (by omega) (by omega)
  obtain rfl : x_465 = x_474 := ex_465.trans ex_474.symm
  refine va_sld hx hb hX hbl hbA hW.2.2.2.1 (vp_in_iff.mpr ⟨by omega, by omega⟩) dL_law_908 ?_
  refine lv_topi (fun x_475 ex_475 => ?_)
  obtain rfl : x_466 = x_475 := ex_466.trans ex_475.symm
  refine lv_aload_n hx hb dL_law_909 rfl (lv_at hl 3 rfl) ?_
  refine lv_iload_n hx hb dL_law_910 rfl (lv_at hl 0 rfl) ?_
  refine lv_iconst (v := 2) hx hb dL_law_911 (by decide) ?_
  refine lv_iadd hx hb dL_law_912 ?_
  refine lv_topi (fun x_476 ex_476 => ?_)
  have zx_476 : x_476.toInt = i.toInt + 2 := by rw [ex_476]; exact i32_add rfl (by decide) (by omega) (by omega)
  obtain rfl : x_467 = x_476 := ex_467.trans ex_476.symm
  refine va_sld hx hb hX hbl hbA hW.2.2.2.1 (vp_in_iff.mpr ⟨by omega, by omega⟩) dL_law_913 ?_
  refine lv_topi (fun x_477 ex_477 => ?_)
  obtain rfl : x_468 = x_477 := ex_468.trans ex_477.symm
  have hTo := hT
  refine hx_goi (hx_runV (As := [.int x_466, .int x_468]) (rest := []) ⟨hx, hb, hml, hown, hts⟩ hW gm tt_10 (T := TX10) (N := 98) rfl (t_X10_order l dC dI dA L_469 h_470 H.size am x_466 x_468 hT gm mr g_mr f_mr ml g_ml f_ml F_mr n_mr F_ml n_ml a0 f_m_acts c0 f_m_claims hWK hPL) (cwV 2 hts (hx_gV kw_1633 kw_1630 kw_1631 kw_1632 kw_103) rfl rfl rfl (by decide +kernel) ⟨Nat.le_of_ble_eq_true rfl, Nat.le_of_ble_eq_true rfl⟩) rfl hl.1 rfl (Nat.le_of_ble_eq_true rfl) dL_law_914 ⟨(show CC + 0 + 0 ≤ 600000 from by omega), (show SS + 0 + 0 ≤ 7302250 from by omega)⟩) hW (fun r_480 L_478 h_479 H locs p_481 hW => ?_)
  obtain ⟨hr_482, hT, hs⟩ := p_481
  replace hT : hx_T T_tb L_478 h_479 := hT
  replace hs : hx_S T_tb [(10, 67), (10, 68), (10, 69), (10, 70), (10, 71), (83, 0), (89, 0), (90, 0)] L_469 h_470 L_478 h_479 := hs
  replace f_qa := (hs.o gx trivial rfl).2.trans f_qa
  replace f_qp := (hs.o gx trivial rfl).2.trans f_qp
  replace f_qc := (hs.o gx trivial rfl).2.trans f_qc
  replace f_qh := (hs.o gx trivial rfl).2.trans f_qh
  replace f_qw := (hs.o gx trivial rfl).2.trans f_qw
  replace f_ql := (hs.o g_qw trivial rfl).2.trans f_ql
  replace f_m_now := (hs.o gm trivial rfl).1.trans f_m_now
  replace f_m_persons := (hs.o gm trivial rfl).1.trans f_m_persons
  replace f_m_claims := (hs.o gm trivial rfl).1.trans f_m_claims
  replace f_m_taped := (hs.o gm trivial rfl).1.trans f_m_taped
  replace f_m_acts := (hs.o gm trivial rfl).1.trans f_m_acts
  replace f_m_heardMany := (hs.o gm trivial rfl).1.trans f_m_heardMany
  replace f_m_lines := (hs.o gm trivial rfl).1.trans f_m_lines
  replace f_m_listed := (hs.o gm trivial rfl).1.trans f_m_listed
  replace f_m_walkedMany := (hs.o gm trivial rfl).1.trans f_m_walkedMany
  replace f_x_now := (hs.o gx trivial rfl).1.trans f_x_now
  replace f_x_personCount := (hs.o gx trivial rfl).1.trans f_x_personCount
  replace f_x_claimCount := (hs.o gx trivial rfl).1.trans f_x_claimCount
  replace f_x_tapeLength := (hs.o gx trivial rfl).1.trans f_x_tapeLength
  replace f_x_actCount := (hs.o gx trivial rfl).1.trans f_x_actCount
  replace f_x_heardCount := (hs.o gx trivial rfl).1.trans f_x_heardCount
  replace f_mw := (hs.o gm trivial rfl).2.trans f_mw
  replace f_mr := (hs.o gm trivial rfl).2.trans f_mr
  replace f_mp := (hs.o gm trivial rfl).2.trans f_mp
  replace f_mn := (hs.o gm trivial rfl).2.trans f_mn
  replace f_ml := (hs.o gm trivial rfl).2.trans f_ml
  replace f_mh := (hs.o gm trivial rfl).2.trans f_mh
  replace f_mt := (hs.o gm trivial rfl).2.trans f_mt
  replace f_m_fou := (hs.o gm trivial rfl).2.trans f_m_fou
  replace f_qo_ln := (hs.o gx trivial rfl).2.trans f_qo_ln
  replace f_o_ln := (hs.o g_qo_ln trivial rfl).1.trans f_o_ln
  replace f_o_lsd := (hs.o g_qw trivial rfl).1.trans f_o_lsd
  replace f_o_wkm := (hs.o g_qw trivial rfl).1.trans f_o_wkm
  replace f_b_of := (hs.o g_qo_ln trivial rfl).2.trans f_b_of
  replace f_m_of := (hs.o gm trivial rfl).2.trans f_m_of
  replace f_b_wf := (hs.o g_qo_ln trivial rfl).2.trans f_b_wf
  replace f_m_wf := (hs.o gm trivial rfl).2.trans f_m_wf
  replace f_b_df := (hs.o g_qo_ln trivial rfl).2.trans f_b_df
  replace f_m_df := (hs.o gm trivial rfl).2.trans f_m_df
  replace f_b_kf := (hs.o g_qo_ln trivial rfl).2.trans f_b_kf
  replace f_m_kf := (hs.o gm trivial rfl).2.trans f_m_kf
  replace f_b_sf := (hs.o g_qo_ln trivial rfl).2.trans f_b_sf
  replace f_m_sf := (hs.o gm trivial rfl).2.trans f_m_sf
  replace f_b_bf := (hs.o g_qo_ln trivial rfl).2.trans f_b_bf
  replace f_m_lst := (hs.o gm trivial rfl).2.trans f_m_lst
  replace f_qtp := (hs.o gx trivial rfl).2.trans f_qtp
  replace f_m_tp := (hs.o gm trivial rfl).2.trans f_m_tp
  replace f_m_dead := (hs.o gm trivial rfl).2.trans f_m_dead
  replace f_m_isj := (hs.o gm trivial rfl).2.trans f_m_isj
  replace f_m_dox := (hs.o gm trivial rfl).2.trans f_m_dox
  replace f_m_doy := (hs.o gm trivial rfl).2.trans f_m_doy
  replace f_qlt := (hs.o g_qw trivial rfl).2.trans f_qlt
  replace f_qlf := (hs.o g_qw trivial rfl).2.trans f_qlf
  replace f_m_wkd := (hs.o gm trivial rfl).2.trans f_m_wkd
  replace f_m_aga := (hs.o gm trivial rfl).2.trans f_m_aga
  replace f_qwo := (hs.o gx trivial rfl).2.trans f_qwo
  replace f_m_ad := (hs.o gm trivial rfl).2.trans f_m_ad
  replace f_m_by := (hs.o gm trivial rfl).2.trans f_m_by
  replace f_m_ho := (hs.o gm trivial rfl).2.trans f_m_ho
  replace f_m_fc := (hs.o gm trivial rfl).2.trans f_m_fc
  replace f_m_nt := (hs.o gm trivial rfl).2.trans f_m_nt
  replace f_m_wt := (hs.o gm trivial rfl).2.trans f_m_wt
  replace f_m_be := (hs.o gm trivial rfl).2.trans f_m_be
  replace f_m_bor := (hs.o gm trivial rfl).2.trans f_m_bor
  replace f_m_kin := (hs.o gm trivial rfl).2.trans f_m_kin
  replace f_m_sum := (hs.o gm trivial rfl).2.trans f_m_sum
  replace f_m_fro := (hs.o gm trivial rfl).2.trans f_m_fro
  replace f_m_fil := (hs.o gm trivial rfl).2.trans f_m_fil
  replace f_m_jud := (hs.o gm trivial rfl).2.trans f_m_jud
  replace pf_qa : ∀ j : Nat, (j : Int) < (h_479.2.1 ax 6).toInt → h_479.2.2 qa j ≠ none := by
    intro j hj; rw [(hs.o gx trivial rfl).1] at hj; rw [(hs.a g_qa rfl j).2]; exact pf_qa j hj
  replace pf_qp : ∀ j : Nat, (j : Int) < (h_479.2.1 ax 8).toInt → h_479.2.2 qp j ≠ none := by
    intro j hj; rw [(hs.o gx trivial rfl).1] at hj; rw [(hs.a g_qp rfl j).2]; exact pf_qp j hj
  replace pf_qc : ∀ j : Nat, (j : Int) < (h_479.2.1 ax 11).toInt → h_479.2.2 qc j ≠ none := by
    intro j hj; rw [(hs.o gx trivial rfl).1] at hj; rw [(hs.a g_qc rfl j).2]; exact pf_qc j hj
  replace pf_qh : ∀ j : Nat, (j : Int) < (h_479.2.1 ax 13).toInt → h_479.2.2 qh j ≠ none := by
    intro j hj; rw [(hs.o gx trivial rfl).1] at hj; rw [(hs.a g_qh rfl j).2]; exact pf_qh j hj
  replace pf_ql : ∀ j : Nat, (j : Int) < (h_479.2.1 qw 0).toInt → h_479.2.2 ql j ≠ none := by
    intro j hj; rw [(hs.o g_qw trivial rfl).1] at hj; rw [(hs.a g_ql rfl j).2]; exact pf_ql j hj
  replace cl_lst : hx_col 8 h_479 ql 0 = c_lst := (hx_col_S hs hTo g_ql tt_40 tt_2 rfl rfl).trans cl_lst
  replace cl_dead : hx_col 40 h_479 qp 7 = c_dead := (hx_col_S hs hTo g_qp tt_44 tt_4 rfl rfl).trans cl_dead
  replace cl_isj : hx_col 40 h_479 qp 8 = c_isj := (hx_col_S hs hTo g_qp tt_44 tt_4 rfl rfl).trans cl_isj
  replace cl_dox : hx_col 40 h_479 qp 5 = c_dox := (hx_col_S hs hTo g_qp tt_44 tt_4 rfl rfl).trans cl_dox
  replace cl_doy : hx_col 40 h_479 qp 6 = c_doy := (hx_col_S hs hTo g_qp tt_44 tt_4 rfl rfl).trans cl_doy
  replace cl_fou : hx_col 100 h_479 qc 10 = c_fou := (hx_col_S hs hTo g_qc tt_45 tt_2 rfl rfl).trans cl_fou
  replace cl_tri : hx_col 100 h_479 qc 9 = c_tri := (hx_col_S hs hTo g_qc tt_45 tt_2 rfl rfl).trans cl_tri
  replace cl_bor : hx_col 40 h_479 qp 1 = F_bor := (hx_col_S hs hTo g_qp tt_44 tt_4 rfl rfl).trans cl_bor
  replace cl_kin : hx_col 40 h_479 qp 2 = F_kin := (hx_col_S hs hTo g_qp tt_44 tt_4 rfl rfl).trans cl_kin
  replace cl_sum : hx_col 100 h_479 qc 6 = F_sum := (hx_col_S hs hTo g_qc tt_45 tt_2 rfl rfl).trans cl_sum
  replace cl_fro : hx_col 100 h_479 qc 7 = F_fro := (hx_col_S hs hTo g_qc tt_45 tt_2 rfl rfl).trans cl_fro
  replace cl_fil : hx_col 100 h_479 qc 8 = F_fil := (hx_col_S hs hTo g_qc tt_45 tt_2 rfl rfl).trans cl_fil
  replace cl_hea : hx_col 100 h_479 qc 11 = F_mh := (hx_col_S hs hTo g_qc tt_45 tt_2 rfl rfl).trans cl_hea
  replace cl_jud : hx_col 100 h_479 qc 12 = F_jud := (hx_col_S hs hTo g_qc tt_45 tt_2 rfl rfl).trans cl_jud
  replace nu_qp : hx_num 40 h_479 qp 0 (np.toInt) := hx_num_S hs hTo g_qp tt_44 tt_4 rfl rfl nu_qp
  replace nu_qc : hx_num 100 h_479 qc 0 (c0.toInt) := hx_num_S hs hTo g_qc tt_45 tt_2 rfl rfl nu_qc
  replace sb_list : hx_LQ 8 100 h_479 ql qc := hx_LQ_S hs g_ql g_qc rfl rfl sb_list
  replace hDF : hw_DF h_479 qc qp 2 F_aga c0.toInt := hw_DF_S hs hTo g_qc g_qp tt_45 tt_2 rfl rfl rfl hDF
  replace hRA9 : hv_RA h_479 qa qwo a0.toInt A9 := hv_RA_S hs hTo g_qa g_qwo tt_43 tt_0 rfl rfl rfl rfl rfl rfl (by omega) hRA9
  replace hDP : hw_DF h_479 qc qp 1 F_by c0.toInt := hw_DF_S hs hTo g_qc g_qp tt_45 tt_2 rfl rfl rfl hDP
  replace hAC9 : hv_AC h_479 qc F_ml c0.toInt A9 := hv_AC_S hs hTo g_qc tt_45 tt_2 rfl tt_0 rfl rfl rfl rfl rfl rfl rfl hAC9
  replace hFX : hv_FX 8 4 h_479 qc cF9L c0.toInt := hv_FX_S hs hTo g_qc tt_45 tt_2 rfl rfl rfl rfl hFX
  replace hBX : hv_FX 3 5 h_479 qc F_be c0.toInt := hv_FX_S hs hTo g_qc tt_45 tt_2 rfl rfl rfl rfl hBX
  replace hHL : hv_HL h_479 qh qc F_ho m0.toInt c0.toInt := hv_HL_S hs g_qh g_qc rfl rfl hHL
  replace n_mw : h_479.2.1 mw = F_mw := (funext fun j => (hs.a g_mw rfl j).1).trans n_mw
  replace n_mr : h_479.2.1 mr = F_mr := (funext fun j => (hs.a g_mr rfl j).1).trans n_mr
  replace n_mp : h_479.2.1 mp = F_mp := (funext fun j => (hs.a g_mp rfl j).1).trans n_mp
  replace n_mn : h_479.2.1 mn = F_mn := (funext fun j => (hs.a g_mn rfl j).1).trans n_mn
  replace n_ml : h_479.2.1 ml = F_ml := (funext fun j => (hs.a g_ml rfl j).1).trans n_ml
  replace n_mh : h_479.2.1 mh = F_mh := (funext fun j => (hs.a g_mh rfl j).1).trans n_mh
  replace n_mt : h_479.2.1 mt = F_mt := (funext fun j => (hs.a g_mt rfl j).1).trans n_mt
  replace n_m_fou : h_479.2.1 m_fou = F_m_fou := (funext fun j => (hs.a g_m_fou rfl j).1).trans n_m_fou
  replace n_b_of : h_479.2.1 b_of = B_of := (funext fun j => (hs.a g_b_of rfl j).1).trans n_b_of
  replace n_m_of : h_479.2.1 m_of = F_of := (funext fun j => (hs.a g_m_of rfl j).1).trans n_m_of
  replace n_b_wf : h_479.2.1 b_wf = B_wf := (funext fun j => (hs.a g_b_wf rfl j).1).trans n_b_wf
  replace n_m_wf : h_479.2.1 m_wf = F_wf := (funext fun j => (hs.a g_m_wf rfl j).1).trans n_m_wf
  replace n_b_df : h_479.2.1 b_df = B_df := (funext fun j => (hs.a g_b_df rfl j).1).trans n_b_df
  replace n_m_df : h_479.2.1 m_df = F_df := (funext fun j => (hs.a g_m_df rfl j).1).trans n_m_df
  replace n_b_kf : h_479.2.1 b_kf = B_kf := (funext fun j => (hs.a g_b_kf rfl j).1).trans n_b_kf
  replace n_m_kf : h_479.2.1 m_kf = F_kf := (funext fun j => (hs.a g_m_kf rfl j).1).trans n_m_kf
  replace n_b_sf : h_479.2.1 b_sf = B_sf := (funext fun j => (hs.a g_b_sf rfl j).1).trans n_b_sf
  replace n_m_sf : h_479.2.1 m_sf = F_sf := (funext fun j => (hs.a g_m_sf rfl j).1).trans n_m_sf
  replace n_b_bf : h_479.2.1 b_bf = bfL := (funext fun j => (hs.a g_b_bf rfl j).1).trans n_b_bf
  replace n_lst : h_479.2.1 m_lst = F_lst := (funext fun j => (hs.a g_m_lst rfl j).1).trans n_lst
  replace n_tp : h_479.2.1 m_tp = F_tp := (funext fun j => (hs.a g_m_tp rfl j).1).trans n_tp
  replace n_qtp : h_479.2.1 qtp = F_tp := (funext fun j => (hs.a g_qtp rfl j).1).trans n_qtp
  replace n_dead : h_479.2.1 m_dead = F_dead := (funext fun j => (hs.a g_m_dead rfl j).1).trans n_dead
  replace n_isj : h_479.2.1 m_isj = F_isj := (funext fun j => (hs.a g_m_isj rfl j).1).trans n_isj
  replace n_dox : h_479.2.1 m_dox = F_dox := (funext fun j => (hs.a g_m_dox rfl j).1).trans n_dox
  replace n_doy : h_479.2.1 m_doy = F_doy := (funext fun j => (hs.a g_m_doy rfl j).1).trans n_doy
  replace n_qlt : h_479.2.1 qlt = F_qlt := (funext fun j => (hs.a g_qlt rfl j).1).trans n_qlt
  replace n_m_wkd : h_479.2.1 m_wkd = F_m_wkd := (funext fun j => (hs.a g_m_wkd rfl j).1).trans n_m_wkd
  replace n_aga : h_479.2.1 m_aga = F_aga := (funext fun j => (hs.a g_m_aga rfl j).1).trans n_aga
  replace n_ad : h_479.2.1 m_ad = F_ad := (funext fun j => (hs.a g_m_ad rfl j).1).trans n_ad
  replace n_by : h_479.2.1 m_by = F_by := (funext fun j => (hs.a g_m_by rfl j).1).trans n_by
  replace n_ho : h_479.2.1 m_ho = F_ho := (funext fun j => (hs.a g_m_ho rfl j).1).trans n_ho
  replace n_fc : h_479.2.1 m_fc = F_fc := (funext fun j => (hs.a g_m_fc rfl j).1).trans n_fc
  replace n_nt : h_479.2.1 m_nt = F_nt := (funext fun j => (hs.a g_m_nt rfl j).1).trans n_nt
  replace n_wt : h_479.2.1 m_wt = F_wt := (funext fun j => (hs.a g_m_wt rfl j).1).trans n_wt
  replace n_be : h_479.2.1 m_be = F_be := (funext fun j => (hs.a g_m_be rfl j).1).trans n_be
  replace n_bor : h_479.2.1 m_bor = F_bor := (funext fun j => (hs.a g_m_bor rfl j).1).trans n_bor
  replace n_kin : h_479.2.1 m_kin = F_kin := (funext fun j => (hs.a g_m_kin rfl j).1).trans n_kin
  replace n_sum : h_479.2.1 m_sum = F_sum := (funext fun j => (hs.a g_m_sum rfl j).1).trans n_sum
  replace n_fro : h_479.2.1 m_fro = F_fro := (funext fun j => (hs.a g_m_fro rfl j).1).trans n_fro
  replace n_fil : h_479.2.1 m_fil = F_fil := (funext fun j => (hs.a g_m_fil rfl j).1).trans n_fil
  replace n_jud : h_479.2.1 m_jud = F_jud := (funext fun j => (hs.a g_m_jud rfl j).1).trans n_jud
  replace gx := gx.S hs
  replace gm := gm.S hs
  replace g_qa := g_qa.S hs
  replace g_qp := g_qp.S hs
  replace g_qc := g_qc.S hs
  replace g_qh := g_qh.S hs
  replace g_qw := g_qw.S hs
  replace g_ql := g_ql.S hs
  replace g_mw := g_mw.S hs
  replace g_mr := g_mr.S hs
  replace g_mp := g_mp.S hs
  replace g_mn := g_mn.S hs
  replace g_ml := g_ml.S hs
  replace g_mh := g_mh.S hs
  replace g_mt := g_mt.S hs
  replace g_m_fou := g_m_fou.S hs
  replace g_qo_ln := g_qo_ln.S hs
  replace g_b_of := g_b_of.S hs
  replace g_m_of := g_m_of.S hs
  replace g_b_wf := g_b_wf.S hs
  replace g_m_wf := g_m_wf.S hs
  replace g_b_df := g_b_df.S hs
  replace g_m_df := g_m_df.S hs
  replace g_b_kf := g_b_kf.S hs
  replace g_m_kf := g_m_kf.S hs
  replace g_b_sf := g_b_sf.S hs
  replace g_m_sf := g_m_sf.S hs
  replace g_b_bf := g_b_bf.S hs
  replace g_m_lst := g_m_lst.S hs
  replace g_qtp := g_qtp.S hs
  replace g_m_tp := g_m_tp.S hs
  replace g_m_dead := g_m_dead.S hs
  replace g_m_isj := g_m_isj.S hs
  replace g_m_dox := g_m_dox.S hs
  replace g_m_doy := g_m_doy.S hs
  replace g_qlt := g_qlt.S hs
  replace g_qlf := g_qlf.S hs
  replace g_m_wkd := g_m_wkd.S hs
  replace g_m_aga := g_m_aga.S hs
  replace g_qwo := g_qwo.S hs
  replace g_m_ad := g_m_ad.S hs
  replace g_m_by := g_m_by.S hs
  replace g_m_ho := g_m_ho.S hs
  replace g_m_fc := g_m_fc.S hs
  replace g_m_nt := g_m_nt.S hs
  replace g_m_wt := g_m_wt.S hs
  replace g_m_be := g_m_be.S hs
  replace g_m_bor := g_m_bor.S hs
  replace g_m_kin := g_m_kin.S hs
  replace g_m_sum := g_m_sum.S hs
  replace g_m_fro := g_m_fro.S hs
  replace g_m_fil := g_m_fil.S hs
  replace g_m_jud := g_m_jud.S hs
  refine lv_pop hx hb dL_law_917 rfl ?_
  refine lv_goto (tgt := 1379) hx hb dL_law_918 (by decide) ?_
  refine W.widen (k := CC + 3) (n := SS + 179) (by omega) (by omega) ?_
  exact kk L_478 h_479 H locs ls hW ⟨hT, gx, gm, ⟨f_x_now.trans f_m_now.symm, f_x_personCount.trans f_m_persons.symm, f_x_claimCount.trans f_m_claims.symm, f_x_tapeLength.trans f_m_taped.symm, f_x_actCount.trans f_m_acts.symm, f_x_heardCount.trans f_m_heardMany.symm, hx_ob f_qo_ln (f_o_ln.trans f_m_lines.symm), hx_ob f_qw (f_o_lsd.trans f_m_listed.symm), hx_ob f_qw (f_o_wkm.trans f_m_walkedMany.symm), hx_ob f_qp (by rw [f_x_personCount]; exact nu_qp), hx_ob f_qc (by rw [f_x_claimCount]; exact nu_qc), (fun b a r hb ha hr => by obtain rfl : qo_ln = b := Option.some.inj (f_qo_ln.symm.trans hb); obtain rfl : b_of = a := Option.some.inj (f_b_of.symm.trans ha); obtain rfl : m_of = r := Option.some.inj (f_m_of.symm.trans hr); rw [n_b_of, n_m_of, f_o_ln]; exact eb_of), (fun b a r hb ha hr => by obtain rfl : qo_ln = b := Option.some.inj (f_qo_ln.symm.trans hb); obtain rfl : b_wf = a := Option.some.inj (f_b_wf.symm.trans ha); obtain rfl : m_wf = r := Option.some.inj (f_m_wf.symm.trans hr); rw [n_b_wf, n_m_wf, f_o_ln]; exact eb_wf), (fun b a r hb ha hr => by obtain rfl : qo_ln = b := Option.some.inj (f_qo_ln.symm.trans hb); obtain rfl : b_df = a := Option.some.inj (f_b_df.symm.trans ha); obtain rfl : m_df = r := Option.some.inj (f_m_df.symm.trans hr); rw [n_b_df, n_m_df, f_o_ln]; exact eb_df), (fun b a r hb ha hr => by obtain rfl : qo_ln = b := Option.some.inj (f_qo_ln.symm.trans hb); obtain rfl : b_kf = a := Option.some.inj (f_b_kf.symm.trans ha); obtain rfl : m_kf = r := Option.some.inj (f_m_kf.symm.trans hr); rw [n_b_kf, n_m_kf, f_o_ln]; exact eb_kf), (fun b a r hb ha hr => by obtain rfl : qo_ln = b := Option.some.inj (f_qo_ln.symm.trans hb); obtain rfl : b_sf = a := Option.some.inj (f_b_sf.symm.trans ha); obtain rfl : m_sf = r := Option.some.inj (f_m_sf.symm.trans hr); rw [n_b_sf, n_m_sf, f_o_ln]; exact eb_sf), (fun b a r hb ha hr => by obtain rfl : qo_ln = b := Option.some.inj (f_qo_ln.symm.trans hb); obtain rfl : b_df = a := Option.some.inj (f_b_df.symm.trans ha); obtain rfl : b_bf = r := Option.some.inj (f_b_bf.symm.trans hr); rw [n_b_df, n_b_bf, f_o_ln]; exact ⟨hBD, hDY⟩), (fun w q c hw hq hc => by obtain rfl : qw = w := Option.some.inj (f_qw.symm.trans hw); obtain rfl : ql = q := Option.some.inj (f_ql.symm.trans hq); obtain rfl : qc = c := Option.some.inj (f_qc.symm.trans hc); exact sb_list), (fun w q r hw hq hr => by obtain rfl : qw = w := Option.some.inj (f_qw.symm.trans hw); obtain rfl : ql = q := Option.some.inj (f_ql.symm.trans hq); obtain rfl : m_lst = r := Option.some.inj (f_m_lst.symm.trans hr); rw [cl_lst, n_lst]; exact eq_lst), (fun w q r hw hq hr => by obtain rfl : qw = w := Option.some.inj (f_qw.symm.trans hw); obtain rfl : qlt = q := Option.some.inj (f_qlt.symm.trans hq); obtain rfl : m_wkd = r := Option.some.inj (f_m_wkd.symm.trans hr); rw [n_qlt, n_m_wkd, f_o_wkm]; exact eb_wkd), (fun c q a hc hq ha => by obtain rfl : qc = c := Option.some.inj (f_qc.symm.trans hc); obtain rfl : qp = q := Option.some.inj (f_qp.symm.trans hq); obtain rfl : m_aga = a := Option.some.inj (f_m_aga.symm.trans ha); rw [n_aga, f_x_claimCount]; exact hw_DF_e hDF rfl rfl), (fun q r hq hr => by obtain rfl : qtp = q := Option.some.inj (f_qtp.symm.trans hq); obtain rfl : m_tp = r := Option.some.inj (f_m_tp.symm.trans hr); exact n_qtp.trans n_tp.symm), (fun q w a b c d e p hq hw ha hb hc hd he hp => by obtain rfl : qa = q := Option.some.inj (f_qa.symm.trans hq); obtain rfl : qwo = w := Option.some.inj (f_qwo.symm.trans hw); obtain rfl : m_ad = a := Option.some.inj (f_m_ad.symm.trans ha); obtain rfl : mr = b := Option.some.inj (f_mr.symm.trans hb); obtain rfl : mn = c := Option.some.inj (f_mn.symm.trans hc); obtain rfl : mp = d := Option.some.inj (f_mp.symm.trans hd); obtain rfl : qc = e := Option.some.inj (f_qc.symm.trans he); obtain rfl : ml = p := Option.some.inj (f_ml.symm.trans hp); exact ⟨_, by rw [f_x_actCount]; exact hRA9, by rw [f_x_actCount, n_ad, n_mr, n_mn, n_mp]; exact hCA9, by rw [n_ml, f_x_claimCount]; exact hv_AC_e hAC9 rfl rfl rfl, hAB⟩), (fun c q a hc hq ha => by obtain rfl : qc = c := Option.some.inj (f_qc.symm.trans hc); obtain rfl : qp = q := Option.some.inj (f_qp.symm.trans hq); obtain rfl : m_by = a := Option.some.inj (f_m_by.symm.trans ha); rw [n_by, f_x_claimCount]; exact hw_DF_e hDP rfl rfl), (fun q c a hq hc ha => by obtain rfl : qh = q := Option.some.inj (f_qh.symm.trans hq); obtain rfl : qc = c := Option.some.inj (f_qc.symm.trans hc); obtain rfl : m_ho = a := Option.some.inj (f_m_ho.symm.trans ha); rw [n_ho, f_x_heardCount, f_x_claimCount]; exact hv_HL_e hHL rfl rfl rfl), (fun a b ha hb => by obtain rfl : m_ho = a := Option.some.inj (f_m_ho.symm.trans ha); obtain rfl : mh = b := Option.some.inj (f_mh.symm.trans hb); rw [n_ho, n_mh, f_m_heardMany, f_m_claims]; exact hHO9), (fun c a b d e f hc ha hb hd he hf => by obtain rfl : qc = c := Option.some.inj (f_qc.symm.trans hc); obtain rfl : m_fc = a := Option.some.inj (f_m_fc.symm.trans ha); obtain rfl : m_nt = b := Option.some.inj (f_m_nt.symm.trans hb); obtain rfl : m_wt = d := Option.some.inj (f_m_wt.symm.trans hd); obtain rfl : m_sum = e := Option.some.inj (f_m_sum.symm.trans he); obtain rfl : mh = f := Option.some.inj (f_mh.symm.trans hf); exact ⟨cF9L, by rw [f_x_claimCount]; exact hFX, by rw [n_fc, n_nt, n_wt, n_sum, n_mh, f_x_claimCount]; exact hFR9⟩), (fun c a hc ha => by obtain rfl : qc = c := Option.some.inj (f_qc.symm.trans hc); obtain rfl : m_be = a := Option.some.inj (f_m_be.symm.trans ha); rw [n_be, f_x_claimCount]; exact hv_FX_e hBX rfl rfl), hx_ob2 f_qp f_m_bor (cl_bor.trans n_bor.symm), hx_ob2 f_qp f_m_kin (cl_kin.trans n_kin.symm), hx_ob2 f_qc f_m_sum (cl_sum.trans n_sum.symm), hx_ob2 f_qc f_m_fro (cl_fro.trans n_fro.symm), hx_ob2 f_qc f_m_fil (cl_fil.trans n_fil.symm), hx_ob2 f_qc f_mh (cl_hea.trans n_mh.symm), hx_ob2 f_qc f_m_jud (cl_jud.trans n_jud.symm), hx_ob2 f_qp f_m_dead (by rw [cl_dead, n_dead]; exact eq_dead), hx_ob2 f_qp f_m_isj (by rw [cl_isj, n_isj]; exact eq_isj), hx_ob2 f_qp f_m_dox (by rw [cl_dox, n_dox]; exact eq_dox), hx_ob2 f_qp f_m_doy (by rw [cl_doy, n_doy]; exact eq_doy), hx_ob2 f_qc f_m_fou (by rw [cl_fou, n_m_fou]; exact eq_fou), hx_ob2 f_qc f_mt (by rw [cl_tri, n_mt]; exact eq_tri), trivial⟩, ⟨hx_ob f_qa pf_qa, hx_ob f_qp pf_qp, hx_ob f_qc pf_qc, hx_ob f_qh pf_qh, (fun w q hw hq => by obtain rfl : qw = w := Option.some.inj (f_qw.symm.trans hw); obtain rfl : ql = q := Option.some.inj (f_ql.symm.trans hq); exact pf_ql)⟩, ⟨hx_ob f_mw (by rw [n_mw]; exact hwd), hx_ob f_mr (by rw [n_mr, f_m_acts]; exact hWK), hx_ob2 f_mp f_mn (by rw [n_mp, n_mn, f_m_acts]; exact hRP), hx_ob f_ml (by rw [n_ml, f_m_claims, f_m_acts]; exact hPL), hx_ob f_mh (by rw [n_mh, f_m_heardMany, f_m_claims]; exact hHC), hx_ob f_mt (by rw [n_mt]; exact (hx_TR_le hTR (by omega))), hx_ob2 f_mh f_m_fou (by rw [n_mh, n_m_fou, f_m_claims]; exact hHF)⟩⟩ hl

set_option maxHeartbeats 4000000 in
set_option maxRecDepth 100000 in
theorem law_case_15 {p : Program} {e : Env} {s : State} {m : MethodId} {below : List Frame} {meth : Method} {c : Code} (l : Launch) {b LN : Nat} {xs : Nat → Int32} (hx : p.tables.exec = Jvm.exec) (hb : c.code = code) (hr : meth.sig.returnType = ret) (hlocks : meth.locks = false) (hml : c.maxLocals = 4) (hown : s.vm.findClass "SmallCourtLaw" = some m.cls) (hts : ∀ w ∈ hx_all, w.before #[Value.ref b] s = true) (hX : va_X b LN xs s s.heap) (hbl : b < s.heap.size) (hbA : ¬ s.heap.size ≤ b) (hLN : LN ≤ 3584) (dC : Nat → ClassId) (dI : Nat → Nat → Nat) (dA : Nat → ClassId) (b0 : hx_z) (ax am : Nat) (T1 : Int) (hT0 : 0 ≤ T1) (hT1 : T1 ≤ 511) (i : Int32) (hi0 : 0 ≤ i.toInt) (hiL : i.toInt + 7 ≤ LN) (CC SS : Nat) (hCC : CC + 3 ≤ 600000) (hSS : SS + 179 ≤ 7302250) (L1 : List Nat) (hl1 : hx_h) (H : Heap) (locs : List Loc) (ls : Array Slot) (hW : hx_W T_tb (P_ty dA) (dC, dI) vwCl (fun q : Nat => s.heap.size ≤ q) s.heap L1 hl1 s H locs) (hZ : hx_Xt (fun q : Nat => s.heap.size ≤ q) b0 s) (hI : hx_IV T1 ax am L1 hl1) (hl : lv_has ls 4 [(3, .int i), (2, .ref am), (1, .ref ax), (0, .ref b)]) (kk : ∀ (L2 : List Nat) (h2 : hx_h) (H2 : Heap) (locs2 : List Loc) (ls2 : Array Slot), hx_W T_tb (P_ty dA) (dC, dI) vwCl (fun q : Nat => s.heap.size ≤ q) s.heap L2 h2 s H2 locs2 → hx_IV (T1 + 1) ax am L2 h2 → lv_has ls2 4 [(3, .int i), (2, .ref am), (1, .ref ax), (0, .ref b)] → W p l e room_1 s m #[Value.ref b] below meth c H2 locs2 (CC + 3) (SS + 179) (lw_Z below #[Value.ref b] s) (F0 m 1379 ls2 [])) : W p l e room_1 s m #[Value.ref b] below meth c H locs CC SS (lw_Z below #[Value.ref b] s) (F0 m 921 ls []) := by
  obtain ⟨hT, gx, gm, ⟨he_nw, he_np, he_c0, he_tl, he_a0, he_m0, ho_ln, ho_lsd, ho_wkm, hn_qp, hn_qc, hk_of, hk_wf, hk_df, hk_kf, hk_sf, hkBD, hLQ, hLE, hkWD, hkDF, hkTP, hkAC, hkDP, hkHL, hkHO, hkFX, hkBX, hf_bor, hf_kin, hf_sum, hf_fro, hf_fil, hf_hea, hf_jud, hc_dead, hc_isj, hc_dox, hc_doy, hc_fou, hc_tri, -⟩, ⟨ia, ip, ic, ih, il⟩, ⟨jw, jr, jp, jl, jh, jt, jf⟩⟩ := hI
  obtain ⟨qa, f_qa, g_qa⟩ := hx_rf hT gx tt_9 (k := 5) (u := 43) rfl
  have pf_qa := ia qa f_qa
  obtain ⟨qp, f_qp, g_qp⟩ := hx_rf hT gx tt_9 (k := 7) (u := 44) rfl
  have pf_qp := ip qp f_qp
  obtain ⟨qc, f_qc, g_qc⟩ := hx_rf hT gx tt_9 (k := 10) (u := 45) rfl
  have pf_qc := ic qc f_qc
  obtain ⟨qh, f_qh, g_qh⟩ := hx_rf hT gx tt_9 (k := 12) (u := 46) rfl
  have pf_qh := ih qh f_qh
  obtain ⟨qw, f_qw, g_qw⟩ := hx_rf hT gx tt_9 (k := 19) (u := 8) rfl
  obtain ⟨ql, f_ql, g_ql⟩ := hx_rf hT g_qw tt_8 (k := 3) (u := 40) rfl
  have pf_ql := il qw ql f_qw f_ql
  obtain ⟨nw, f_m_now⟩ : ∃ y : Int32, hl1.2.1 am 0 = y := ⟨_, rfl⟩
  have b_nw := hT.gi gm tt_10 (k := 0) rfl
  rw [f_m_now] at b_nw
  have b_nw : 0 ≤ nw.toInt ∧ nw.toInt ≤ 7999 := b_nw
  obtain ⟨np, f_m_persons⟩ : ∃ y : Int32, hl1.2.1 am 20 = y := ⟨_, rfl⟩
  have b_np := hT.gi gm tt_10 (k := 20) rfl
  rw [f_m_persons] at b_np
  have b_np : 0 ≤ np.toInt ∧ np.toInt ≤ 40 := b_np
  obtain ⟨c0, f_m_claims⟩ : ∃ y : Int32, hl1.2.1 am 36 = y := ⟨_, rfl⟩
  have b_c0 := hT.gi gm tt_10 (k := 36) rfl
  rw [f_m_claims] at b_c0
  have b_c0 : 0 ≤ c0.toInt ∧ c0.toInt ≤ 100 := b_c0
  obtain ⟨tl, f_m_taped⟩ : ∃ y : Int32, hl1.2.1 am 7 = y := ⟨_, rfl⟩
  have b_tl := hT.gi gm tt_10 (k := 7) rfl
  rw [f_m_taped] at b_tl
  have b_tl : 0 ≤ tl.toInt ∧ tl.toInt ≤ 400 := b_tl
  obtain ⟨a0, f_m_acts⟩ : ∃ y : Int32, hl1.2.1 am 1 = y := ⟨_, rfl⟩
  have b_a0 := hT.gi gm tt_10 (k := 1) rfl
  rw [f_m_acts] at b_a0
  have b_a0 : 0 ≤ a0.toInt ∧ a0.toInt ≤ 8 := b_a0
  obtain ⟨m0, f_m_heardMany⟩ : ∃ y : Int32, hl1.2.1 am 57 = y := ⟨_, rfl⟩
  have b_m0 := hT.gi gm tt_10 (k := 57) rfl
  rw [f_m_heardMany] at b_m0
  have b_m0 : 0 ≤ m0.toInt ∧ m0.toInt ≤ 100 := b_m0
  obtain ⟨ln, f_m_lines⟩ : ∃ y : Int32, hl1.2.1 am 29 = y := ⟨_, rfl⟩
  have b_ln := hT.gi gm tt_10 (k := 29) rfl
  rw [f_m_lines] at b_ln
  have b_ln : 0 ≤ ln.toInt ∧ ln.toInt ≤ 400 := b_ln
  obtain ⟨lsd, f_m_listed⟩ : ∃ y : Int32, hl1.2.1 am 90 = y := ⟨_, rfl⟩
  have b_lsd := hT.gi gm tt_10 (k := 90) rfl
  rw [f_m_listed] at b_lsd
  have b_lsd : 0 ≤ lsd.toInt ∧ lsd.toInt ≤ 8 := b_lsd
  obtain ⟨wkm, f_m_walkedMany⟩ : ∃ y : Int32, hl1.2.1 am 92 = y := ⟨_, rfl⟩
  have b_wkm := hT.gi gm tt_10 (k := 92) rfl
  rw [f_m_walkedMany] at b_wkm
  have b_wkm : 0 ≤ wkm.toInt ∧ wkm.toInt ≤ 8 := b_wkm
  have f_x_now : hl1.2.1 ax 2 = nw := he_nw.trans f_m_now
  have f_x_personCount : hl1.2.1 ax 8 = np := he_np.trans f_m_persons
  have f_x_claimCount : hl1.2.1 ax 11 = c0 := he_c0.trans f_m_claims
  have f_x_tapeLength : hl1.2.1 ax 1 = tl := he_tl.trans f_m_taped
  have f_x_actCount : hl1.2.1 ax 6 = a0 := he_a0.trans f_m_acts
  have f_x_heardCount : hl1.2.1 ax 13 = m0 := he_m0.trans f_m_heardMany
  obtain ⟨mw, f_mw, g_mw⟩ := hx_rf hT gm tt_10 (k := 19) (u := 57) rfl
  obtain ⟨F_mw, n_mw⟩ : ∃ g : Nat → Int32, hl1.2.1 mw = g := ⟨_, rfl⟩
  obtain ⟨mr, f_mr, g_mr⟩ := hx_rf hT gm tt_10 (k := 3) (u := 50) rfl
  obtain ⟨F_mr, n_mr⟩ : ∃ g : Nat → Int32, hl1.2.1 mr = g := ⟨_, rfl⟩
  obtain ⟨mp, f_mp, g_mp⟩ := hx_rf hT gm tt_10 (k := 5) (u := 52) rfl
  obtain ⟨F_mp, n_mp⟩ : ∃ g : Nat → Int32, hl1.2.1 mp = g := ⟨_, rfl⟩
  obtain ⟨mn, f_mn, g_mn⟩ := hx_rf hT gm tt_10 (k := 4) (u := 51) rfl
  obtain ⟨F_mn, n_mn⟩ : ∃ g : Nat → Int32, hl1.2.1 mn = g := ⟨_, rfl⟩
  obtain ⟨ml, f_ml, g_ml⟩ := hx_rf hT gm tt_10 (k := 44) (u := 79) rfl
  obtain ⟨F_ml, n_ml⟩ : ∃ g : Nat → Int32, hl1.2.1 ml = g := ⟨_, rfl⟩
  obtain ⟨mh, f_mh, g_mh⟩ := hx_rf hT gm tt_10 (k := 47) (u := 82) rfl
  obtain ⟨F_mh, n_mh⟩ : ∃ g : Nat → Int32, hl1.2.1 mh = g := ⟨_, rfl⟩
  obtain ⟨mt, f_mt, g_mt⟩ := hx_rf hT gm tt_10 (k := 45) (u := 80) rfl
  obtain ⟨F_mt, n_mt⟩ : ∃ g : Nat → Int32, hl1.2.1 mt = g := ⟨_, rfl⟩
  obtain ⟨m_fou, f_m_fou, g_m_fou⟩ := hx_rf hT gm tt_10 (k := 46) (u := 81) rfl
  obtain ⟨F_m_fou, n_m_fou⟩ : ∃ g : Nat → Int32, hl1.2.1 m_fou = g := ⟨_, rfl⟩
  obtain ⟨qo_ln, f_qo_ln, g_qo_ln⟩ := hx_rf hT gx tt_9 (k := 9) (u := 1) rfl
  have f_o_ln : hl1.2.1 qo_ln 0 = ln := (ho_ln qo_ln f_qo_ln).trans f_m_lines
  have f_o_lsd : hl1.2.1 qw 0 = lsd := (ho_lsd qw f_qw).trans f_m_listed
  have f_o_wkm : hl1.2.1 qw 1 = wkm := (ho_wkm qw f_qw).trans f_m_walkedMany
  have nu_qp := hn_qp qp f_qp; rw [f_x_personCount] at nu_qp
  have nu_qc := hn_qc qc f_qc; rw [f_x_claimCount] at nu_qc
  obtain ⟨b_of, f_b_of, g_b_of⟩ := hx_rf hT g_qo_ln tt_1 (k := 1) (u := 13) rfl
  obtain ⟨B_of, n_b_of⟩ : ∃ g : Nat → Int32, hl1.2.1 b_of = g := ⟨_, rfl⟩
  obtain ⟨m_of, f_m_of, g_m_of⟩ := hx_rf hT gm tt_10 (k := 30) (u := 66) rfl
  obtain ⟨F_of, n_m_of⟩ : ∃ g : Nat → Int32, hl1.2.1 m_of = g := ⟨_, rfl⟩
  have eb_of := hk_of qo_ln b_of m_of f_qo_ln f_b_of f_m_of; rw [n_b_of, n_m_of, f_o_ln] at eb_of
  obtain ⟨b_wf, f_b_wf, g_b_wf⟩ := hx_rf hT g_qo_ln tt_1 (k := 2) (u := 14) rfl
  obtain ⟨B_wf, n_b_wf⟩ : ∃ g : Nat → Int32, hl1.2.1 b_wf = g := ⟨_, rfl⟩
  obtain ⟨m_wf, f_m_wf, g_m_wf⟩ := hx_rf hT gm tt_10 (k := 31) (u := 67) rfl
  obtain ⟨F_wf, n_m_wf⟩ : ∃ g : Nat → Int32, hl1.2.1 m_wf = g := ⟨_, rfl⟩
  have eb_wf := hk_wf qo_ln b_wf m_wf f_qo_ln f_b_wf f_m_wf; rw [n_b_wf, n_m_wf, f_o_ln] at eb_wf
  obtain ⟨b_df, f_b_df, g_b_df⟩ := hx_rf hT g_qo_ln tt_1 (k := 3) (u := 15) rfl
  obtain ⟨B_df, n_b_df⟩ : ∃ g : Nat → Int32, hl1.2.1 b_df = g := ⟨_, rfl⟩
  obtain ⟨m_df, f_m_df, g_m_df⟩ := hx_rf hT gm tt_10 (k := 32) (u := 68) rfl
  obtain ⟨F_df, n_m_df⟩ : ∃ g : Nat → Int32, hl1.2.1 m_df = g := ⟨_, rfl⟩
  have eb_df := hk_df qo_ln b_df m_df f_qo_ln f_b_df f_m_df; rw [n_b_df, n_m_df, f_o_ln] at eb_df
  obtain ⟨b_kf, f_b_kf, g_b_kf⟩ := hx_rf hT g_qo_ln tt_1 (k := 4) (u := 16) rfl
  obtain ⟨B_kf, n_b_kf⟩ : ∃ g : Nat → Int32, hl1.2.1 b_kf = g := ⟨_, rfl⟩
  obtain ⟨m_kf, f_m_kf, g_m_kf⟩ := hx_rf hT gm tt_10 (k := 33) (u := 69) rfl
  obtain ⟨F_kf, n_m_kf⟩ : ∃ g : Nat → Int32, hl1.2.1 m_kf = g := ⟨_, rfl⟩
  have eb_kf := hk_kf qo_ln b_kf m_kf f_qo_ln f_b_kf f_m_kf; rw [n_b_kf, n_m_kf, f_o_ln] at eb_kf
  obtain ⟨b_sf, f_b_sf, g_b_sf⟩ := hx_rf hT g_qo_ln tt_1 (k := 5) (u := 17) rfl
  obtain ⟨B_sf, n_b_sf⟩ : ∃ g : Nat → Int32, hl1.2.1 b_sf = g := ⟨_, rfl⟩
  obtain ⟨m_sf, f_m_sf, g_m_sf⟩ := hx_rf hT gm tt_10 (k := 34) (u := 70) rfl
  obtain ⟨F_sf, n_m_sf⟩ : ∃ g : Nat → Int32, hl1.2.1 m_sf = g := ⟨_, rfl⟩
  have eb_sf := hk_sf qo_ln b_sf m_sf f_qo_ln f_b_sf f_m_sf; rw [n_b_sf, n_m_sf, f_o_ln] at eb_sf
  obtain ⟨b_bf, f_b_bf, g_b_bf⟩ := hx_rf hT g_qo_ln tt_1 (k := 6) (u := 18) rfl
  obtain ⟨bfL, n_b_bf⟩ : ∃ g : Nat → Int32, hl1.2.1 b_bf = g := ⟨_, rfl⟩
  obtain ⟨hBD, hDY⟩ := hkBD qo_ln b_df b_bf f_qo_ln f_b_df f_b_bf; rw [n_b_df, n_b_bf, f_o_ln] at hBD; rw [n_b_df, f_o_ln] at hDY
  have hBDm := hy_BD_c eb_df hBD
  have hDYm : hy_DY F_df ln.toInt.toNat := fun x hx => by rw [← eb_df x hx]; exact hDY x hx
  have sb_list := hLQ qw ql qc f_qw f_ql f_qc
  obtain ⟨m_lst, f_m_lst, g_m_lst⟩ := hx_rf hT gm tt_10 (k := 91) (u := 112) rfl
  obtain ⟨F_lst, n_lst⟩ : ∃ g : Nat → Int32, hl1.2.1 m_lst = g := ⟨_, rfl⟩
  obtain ⟨c_lst, cl_lst⟩ : ∃ g : Nat → Int32, hx_col 8 hl1 ql 0 = g := ⟨_, rfl⟩
  have eq_lst := hLE qw ql m_lst f_qw f_ql f_m_lst; rw [cl_lst, n_lst] at eq_lst
  obtain ⟨qtp, f_qtp, g_qtp⟩ := hx_rf hT gx tt_9 (k := 0) (u := 42) rfl
  obtain ⟨m_tp, f_m_tp, g_m_tp⟩ := hx_rf hT gm tt_10 (k := 6) (u := 53) rfl
  obtain ⟨F_tp, n_tp⟩ : ∃ g : Nat → Int32, hl1.2.1 m_tp = g := ⟨_, rfl⟩
  have n_qtp : hl1.2.1 qtp = F_tp := (hkTP qtp m_tp f_qtp f_m_tp).trans n_tp
  obtain ⟨c_dead, cl_dead⟩ : ∃ g : Nat → Int32, hx_col 40 hl1 qp 7 = g := ⟨_, rfl⟩
  obtain ⟨m_dead, f_m_dead, g_m_dead⟩ := hx_rf hT gm tt_10 (k := 27) (u := 64) rfl
  obtain ⟨F_dead, n_dead⟩ : ∃ g : Nat → Int32, hl1.2.1 m_dead = g := ⟨_, rfl⟩
  have eq_dead := hc_dead qp m_dead f_qp f_m_dead; rw [cl_dead, n_dead] at eq_dead
  have z_dead : np.toInt.toNat < 40 → c_dead np.toInt.toNat = 0 := fun hj => hx_num_z nu_qp cl_dead hj (by omega)
  obtain ⟨c_isj, cl_isj⟩ : ∃ g : Nat → Int32, hx_col 40 hl1 qp 8 = g := ⟨_, rfl⟩
  obtain ⟨m_isj, f_m_isj, g_m_isj⟩ := hx_rf hT gm tt_10 (k := 28) (u := 65) rfl
  obtain ⟨F_isj, n_isj⟩ : ∃ g : Nat → Int32, hl1.2.1 m_isj = g := ⟨_, rfl⟩
  have eq_isj := hc_isj qp m_isj f_qp f_m_isj; rw [cl_isj, n_isj] at eq_isj
  have z_isj : np.toInt.toNat < 40 → c_isj np.toInt.toNat = 0 := fun hj => hx_num_z nu_qp cl_isj hj (by omega)
  obtain ⟨c_dox, cl_dox⟩ : ∃ g : Nat → Int32, hx_col 40 hl1 qp 5 = g := ⟨_, rfl⟩
  obtain ⟨m_dox, f_m_dox, g_m_dox⟩ := hx_rf hT gm tt_10 (k := 24) (u := 61) rfl
  obtain ⟨F_dox, n_dox⟩ : ∃ g : Nat → Int32, hl1.2.1 m_dox = g := ⟨_, rfl⟩
  have eq_dox := hc_dox qp m_dox f_qp f_m_dox; rw [cl_dox, n_dox] at eq_dox
  have z_dox : np.toInt.toNat < 40 → c_dox np.toInt.toNat = 0 := fun hj => hx_num_z nu_qp cl_dox hj (by omega)
  obtain ⟨c_doy, cl_doy⟩ : ∃ g : Nat → Int32, hx_col 40 hl1 qp 6 = g := ⟨_, rfl⟩
  obtain ⟨m_doy, f_m_doy, g_m_doy⟩ := hx_rf hT gm tt_10 (k := 25) (u := 62) rfl
  obtain ⟨F_doy, n_doy⟩ : ∃ g : Nat → Int32, hl1.2.1 m_doy = g := ⟨_, rfl⟩
  have eq_doy := hc_doy qp m_doy f_qp f_m_doy; rw [cl_doy, n_doy] at eq_doy
  have z_doy : np.toInt.toNat < 40 → c_doy np.toInt.toNat = 0 := fun hj => hx_num_z nu_qp cl_doy hj (by omega)
  obtain ⟨c_fou, cl_fou⟩ : ∃ g : Nat → Int32, hx_col 100 hl1 qc 10 = g := ⟨_, rfl⟩
  have eq_fou := hc_fou qc m_fou f_qc f_m_fou; rw [cl_fou, n_m_fou] at eq_fou
  have z_fou : c0.toInt.toNat < 100 → c_fou c0.toInt.toNat = 0 := fun hj => hx_num_z nu_qc cl_fou hj (by omega)
  obtain ⟨c_tri, cl_tri⟩ : ∃ g : Nat → Int32, hx_col 100 hl1 qc 9 = g := ⟨_, rfl⟩
  have eq_tri := hc_tri qc mt f_qc f_mt; rw [cl_tri, n_mt] at eq_tri
  have z_tri : c0.toInt.toNat < 100 → c_tri c0.toInt.toNat = 0 := fun hj => hx_num_z nu_qc cl_tri hj (by omega)
  obtain ⟨qlt, f_qlt, g_qlt⟩ := hx_rf hT g_qw tt_8 (k := 2) (u := 39) rfl
  obtain ⟨qlf, f_qlf, g_qlf⟩ := hx_rf hT g_qw tt_8 (k := 4) (u := 41) rfl
  obtain ⟨m_wkd, f_m_wkd, g_m_wkd⟩ := hx_rf hT gm tt_10 (k := 93) (u := 113) rfl
  obtain ⟨F_qlt, n_qlt⟩ : ∃ g : Nat → Int32, hl1.2.1 qlt = g := ⟨_, rfl⟩
  obtain ⟨F_m_wkd, n_m_wkd⟩ : ∃ g : Nat → Int32, hl1.2.1 m_wkd = g := ⟨_, rfl⟩
  have eb_wkd := hkWD qw qlt m_wkd f_qw f_qlt f_m_wkd; rw [n_qlt, n_m_wkd, f_o_wkm] at eb_wkd
  obtain ⟨m_aga, f_m_aga, g_m_aga⟩ := hx_rf hT gm tt_10 (k := 38) (u := 73) rfl
  obtain ⟨F_aga, n_aga⟩ : ∃ g : Nat → Int32, hl1.2.1 m_aga = g := ⟨_, rfl⟩
  have hDF := hkDF qc qp m_aga f_qc f_qp f_m_aga; rw [n_aga, f_x_claimCount] at hDF
  obtain ⟨qwo, f_qwo, g_qwo⟩ := hx_rf hT gx tt_9 (k := 4) (u := 0) rfl
  obtain ⟨m_ad, f_m_ad, g_m_ad⟩ := hx_rf hT gm tt_10 (k := 2) (u := 49) rfl
  obtain ⟨F_ad, n_ad⟩ : ∃ g : Nat → Int32, hl1.2.1 m_ad = g := ⟨_, rfl⟩
  obtain ⟨A9, hRA9, hCA9, hAC9, hAB⟩ := hkAC qa qwo m_ad mr mn mp qc ml f_qa f_qwo f_m_ad f_mr f_mn f_mp f_qc f_ml
  rw [f_x_actCount] at hRA9; rw [f_x_actCount, n_ad, n_mr, n_mn, n_mp] at hCA9
  obtain ⟨m_by, f_m_by, g_m_by⟩ := hx_rf hT gm tt_10 (k := 37) (u := 72) rfl
  obtain ⟨F_by, n_by⟩ : ∃ g : Nat → Int32, hl1.2.1 m_by = g := ⟨_, rfl⟩
  obtain ⟨m_ho, f_m_ho, g_m_ho⟩ := hx_rf hT gm tt_10 (k := 58) (u := 92) rfl
  obtain ⟨F_ho, n_ho⟩ : ∃ g : Nat → Int32, hl1.2.1 m_ho = g := ⟨_, rfl⟩
  obtain ⟨m_fc, f_m_fc, g_m_fc⟩ := hx_rf hT gm tt_10 (k := 53) (u := 88) rfl
  obtain ⟨F_fc, n_fc⟩ : ∃ g : Nat → Int32, hl1.2.1 m_fc = g := ⟨_, rfl⟩
  obtain ⟨m_nt, f_m_nt, g_m_nt⟩ := hx_rf hT gm tt_10 (k := 41) (u := 76) rfl
  obtain ⟨F_nt, n_nt⟩ : ∃ g : Nat → Int32, hl1.2.1 m_nt = g := ⟨_, rfl⟩
  obtain ⟨m_wt, f_m_wt, g_m_wt⟩ := hx_rf hT gm tt_10 (k := 42) (u := 77) rfl
  obtain ⟨F_wt, n_wt⟩ : ∃ g : Nat → Int32, hl1.2.1 m_wt = g := ⟨_, rfl⟩
  obtain ⟨m_be, f_m_be, g_m_be⟩ := hx_rf hT gm tt_10 (k := 52) (u := 87) rfl
  obtain ⟨F_be, n_be⟩ : ∃ g : Nat → Int32, hl1.2.1 m_be = g := ⟨_, rfl⟩
  obtain ⟨m_bor, f_m_bor, g_m_bor⟩ := hx_rf hT gm tt_10 (k := 21) (u := 58) rfl
  obtain ⟨F_bor, n_bor⟩ : ∃ g : Nat → Int32, hl1.2.1 m_bor = g := ⟨_, rfl⟩
  obtain ⟨m_kin, f_m_kin, g_m_kin⟩ := hx_rf hT gm tt_10 (k := 26) (u := 63) rfl
  obtain ⟨F_kin, n_kin⟩ : ∃ g : Nat → Int32, hl1.2.1 m_kin = g := ⟨_, rfl⟩
  obtain ⟨m_sum, f_m_sum, g_m_sum⟩ := hx_rf hT gm tt_10 (k := 39) (u := 74) rfl
  obtain ⟨F_sum, n_sum⟩ : ∃ g : Nat → Int32, hl1.2.1 m_sum = g := ⟨_, rfl⟩
  obtain ⟨m_fro, f_m_fro, g_m_fro⟩ := hx_rf hT gm tt_10 (k := 40) (u := 75) rfl
  obtain ⟨F_fro, n_fro⟩ : ∃ g : Nat → Int32, hl1.2.1 m_fro = g := ⟨_, rfl⟩
  obtain ⟨m_fil, f_m_fil, g_m_fil⟩ := hx_rf hT gm tt_10 (k := 43) (u := 78) rfl
  obtain ⟨F_fil, n_fil⟩ : ∃ g : Nat → Int32, hl1.2.1 m_fil = g := ⟨_, rfl⟩
  obtain ⟨m_jud, f_m_jud, g_m_jud⟩ := hx_rf hT gm tt_10 (k := 51) (u := 86) rfl
  obtain ⟨F_jud, n_jud⟩ : ∃ g : Nat → Int32, hl1.2.1 m_jud = g := ⟨_, rfl⟩
  have cl_bor : hx_col 40 hl1 qp 1 = F_bor := (hf_bor qp m_bor f_qp f_m_bor).trans n_bor
  have cl_kin : hx_col 40 hl1 qp 2 = F_kin := (hf_kin qp m_kin f_qp f_m_kin).trans n_kin
  have cl_sum : hx_col 100 hl1 qc 6 = F_sum := (hf_sum qc m_sum f_qc f_m_sum).trans n_sum
  have cl_fro : hx_col 100 hl1 qc 7 = F_fro := (hf_fro qc m_fro f_qc f_m_fro).trans n_fro
  have cl_fil : hx_col 100 hl1 qc 8 = F_fil := (hf_fil qc m_fil f_qc f_m_fil).trans n_fil
  have cl_hea : hx_col 100 hl1 qc 11 = F_mh := (hf_hea qc mh f_qc f_mh).trans n_mh
  have cl_jud : hx_col 100 hl1 qc 12 = F_jud := (hf_jud qc m_jud f_qc f_m_jud).trans n_jud
  have htb9 : ∀ c, c < 100 → 0 ≤ (c_tri c).toInt ∧ (c_tri c).toInt ≤ 512 := fun c hc => by rw [eq_tri c hc]; have w := hT.ei g_mt tt_80 (k := c) hc; rw [n_mt] at w; exact w
  have z_jud : F_jud c0.toInt.toNat = 0 := hx_num_z2 nu_qc cl_jud (by omega)
  have hDP := hkDP qc qp m_by f_qc f_qp f_m_by; rw [n_by, f_x_claimCount] at hDP
  have hHL := hkHL qh qc m_ho f_qh f_qc f_m_ho; rw [n_ho, f_x_heardCount, f_x_claimCount] at hHL
  have hHO9 := hkHO m_ho mh f_m_ho f_mh; rw [n_ho, n_mh, f_m_heardMany, f_m_claims] at hHO9
  obtain ⟨cF9L, hFX, hFR9⟩ := hkFX qc m_fc m_nt m_wt m_sum mh f_qc f_m_fc f_m_nt f_m_wt f_m_sum f_mh; rw [f_x_claimCount] at hFX; rw [n_fc, n_nt, n_wt, n_sum, n_mh, f_x_claimCount] at hFR9
  have hBX := hkBX qc m_be f_qc f_m_be; rw [n_be, f_x_claimCount] at hBX
  rw [n_ml, f_x_claimCount] at hAC9
  have hwd := jw mw f_mw; rw [n_mw] at hwd
  have hWK := jr mr f_mr; rw [n_mr, f_m_acts] at hWK
  have hRP := jp mp mn f_mp f_mn; rw [n_mp, n_mn, f_m_acts] at hRP
  have hPL := jl ml f_ml; rw [n_ml, f_m_claims, f_m_acts] at hPL
  have hHC := jh mh f_mh; rw [n_mh, f_m_heardMany, f_m_claims] at hHC
  have hTR := jt mt f_mt; rw [n_mt] at hTR
  have hHF := jf mh m_fou f_mh f_m_fou; rw [n_mh, n_m_fou, f_m_claims] at hHF
  refine lv_aload_n hx hb dL_law_921 rfl (lv_at hl 2 rfl) ?_
  refine lv_aload_n hx hb dL_law_922 rfl (lv_at hl 3 rfl) ?_
  refine lv_iload_n hx hb dL_law_923 rfl (lv_at hl 0 rfl) ?_
  refine lv_iconst (v := 1) hx hb dL_law_924 (by decide) ?_
  refine lv_iadd hx hb dL_law_925 ?_
  have rg_483 := i32_r i
  refine lv_topi (fun x_484 ex_484 => ?_)
  have zx_484 : x_484.toInt = i.toInt + 1 := by rw [ex_484]; exact i32_add rfl (by decide) (by omega) (by omega)
  refine va_sld hx hb hX hbl hbA hW.2.2.2.1 (vp_in_iff.mpr ⟨by omega, by omega⟩) dL_law_926 ?_
  refine lv_topi (fun x_485 ex_485 => ?_)
  refine lv_aload_n hx hb dL_law_927 rfl (lv_at hl 3 rfl) ?_
  refine lv_iload_n hx hb dL_law_928 rfl (lv_at hl 0 rfl) ?_
  refine lv_iconst (v := 2) hx hb dL_law_929 (by decide) ?_
  refine lv_iadd hx hb dL_law_930 ?_
  refine lv_topi (fun x_486 ex_486 => ?_)
  have zx_486 : x_486.toInt = i.toInt + 2 := by rw [ex_486]; exact i32_add rfl (by decide) (by omega) (by omega)
  refine va_sld hx hb hX hbl hbA hW.2.2.2.1 (vp_in_iff.mpr ⟨by omega, by omega⟩) dL_law_931 ?_
  refine lv_topi (fun x_487 ex_487 => ?_)
  refine lv_aload_n hx hb dL_law_932 rfl (lv_at hl 3 rfl) ?_
  refine lv_iload_n hx hb dL_law_933 rfl (lv_at hl 0 rfl) ?_
  refine lv_iconst (v := 3) hx hb dL_law_934 (by decide) ?_
  refine lv_iadd hx hb dL_law_935 ?_
  refine lv_topi (fun x_488 ex_488 => ?_)
  have zx_488 : x_488.toInt = i.toInt + 3 := by rw [ex_488]; exact i32_add rfl (by decide) (by omega) (by omega)
  refine va_sld hx hb hX hbl hbA hW.2.2.2.1 (vp_in_iff.mpr ⟨by omega, by omega⟩) dL_law_936 ?_
  refine lv_topi (fun x_489 ex_489 => ?_)
  have hTo := hT
  refine hx_goi (hx_runV (As := [.int x_485, .int x_487, .int x_489]) (rest := []) ⟨hx, hb, hml, hown, hts⟩ hW gx tt_9 (T := TX9) (N := 20) rfl (t_X9_pay l dC dI dA L1 hl1 H.size ax x_485 x_487 x_489 hT gx qc g_qc f_qc pf_qc) (cwV 3 hts (hx_gV kw_891 kw_888 kw_889 kw_890 kw_94) rfl rfl rfl (by decide +kernel) ⟨Nat.le_of_ble_eq_true rfl, Nat.le_of_ble_eq_true rfl⟩) rfl hl.1 rfl (Nat.le_of_ble_eq_true rfl) dL_law_937 ⟨(show CC + 0 ≤ 600000 from by omega), (show SS + 0 ≤ 7302250 from by omega)⟩) hW (fun r_492 L_490 h_491 H locs p_493 hW => ?_)
  obtain ⟨hr_494, hT, hs⟩ := p_493
  replace hT : hx_T T_tb L_490 h_491 := hT
  replace hs : hx_S T_tb [(3, 0), (22, 0), (23, 0), (24, 0), (25, 0), (26, 0)] L1 hl1 L_490 h_491 := hs
  replace f_qa := (hs.o gx trivial rfl).2.trans f_qa
  replace f_qp := (hs.o gx trivial rfl).2.trans f_qp
  replace f_qc := (hs.o gx trivial rfl).2.trans f_qc
  replace f_qh := (hs.o gx trivial rfl).2.trans f_qh
  replace f_qw := (hs.o gx trivial rfl).2.trans f_qw
  replace f_ql := (hs.o g_qw trivial rfl).2.trans f_ql
  replace f_m_now := (hs.o gm trivial rfl).1.trans f_m_now
  replace f_m_persons := (hs.o gm trivial rfl).1.trans f_m_persons
  replace f_m_claims := (hs.o gm trivial rfl).1.trans f_m_claims
  replace f_m_taped := (hs.o gm trivial rfl).1.trans f_m_taped
  replace f_m_acts := (hs.o gm trivial rfl).1.trans f_m_acts
  replace f_m_heardMany := (hs.o gm trivial rfl).1.trans f_m_heardMany
  replace f_m_lines := (hs.o gm trivial rfl).1.trans f_m_lines
  replace f_m_listed := (hs.o gm trivial rfl).1.trans f_m_listed
  replace f_m_walkedMany := (hs.o gm trivial rfl).1.trans f_m_walkedMany
  replace f_x_now := (hs.o gx trivial rfl).1.trans f_x_now
  replace f_x_personCount := (hs.o gx trivial rfl).1.trans f_x_personCount
  replace f_x_claimCount := (hs.o gx trivial rfl).1.trans f_x_claimCount
  replace f_x_tapeLength := (hs.o gx trivial rfl).1.trans f_x_tapeLength
  replace f_x_actCount := (hs.o gx trivial rfl).1.trans f_x_actCount
  replace f_x_heardCount := (hs.o gx trivial rfl).1.trans f_x_heardCount
  replace f_mw := (hs.o gm trivial rfl).2.trans f_mw
  replace f_mr := (hs.o gm trivial rfl).2.trans f_mr
  replace f_mp := (hs.o gm trivial rfl).2.trans f_mp
  replace f_mn := (hs.o gm trivial rfl).2.trans f_mn
  replace f_ml := (hs.o gm trivial rfl).2.trans f_ml
  replace f_mh := (hs.o gm trivial rfl).2.trans f_mh
  replace f_mt := (hs.o gm trivial rfl).2.trans f_mt
  replace f_m_fou := (hs.o gm trivial rfl).2.trans f_m_fou
  replace f_qo_ln := (hs.o gx trivial rfl).2.trans f_qo_ln
  replace f_o_ln := (hs.o g_qo_ln trivial rfl).1.trans f_o_ln
  replace f_o_lsd := (hs.o g_qw trivial rfl).1.trans f_o_lsd
  replace f_o_wkm := (hs.o g_qw trivial rfl).1.trans f_o_wkm
  replace f_b_of := (hs.o g_qo_ln trivial rfl).2.trans f_b_of
  replace f_m_of := (hs.o gm trivial rfl).2.trans f_m_of
  replace f_b_wf := (hs.o g_qo_ln trivial rfl).2.trans f_b_wf
  replace f_m_wf := (hs.o gm trivial rfl).2.trans f_m_wf
  replace f_b_df := (hs.o g_qo_ln trivial rfl).2.trans f_b_df
  replace f_m_df := (hs.o gm trivial rfl).2.trans f_m_df
  replace f_b_kf := (hs.o g_qo_ln trivial rfl).2.trans f_b_kf
  replace f_m_kf := (hs.o gm trivial rfl).2.trans f_m_kf
  replace f_b_sf := (hs.o g_qo_ln trivial rfl).2.trans f_b_sf
  replace f_m_sf := (hs.o gm trivial rfl).2.trans f_m_sf
  replace f_b_bf := (hs.o g_qo_ln trivial rfl).2.trans f_b_bf
  replace f_m_lst := (hs.o gm trivial rfl).2.trans f_m_lst
  replace f_qtp := (hs.o gx trivial rfl).2.trans f_qtp
  replace f_m_tp := (hs.o gm trivial rfl).2.trans f_m_tp
  replace f_m_dead := (hs.o gm trivial rfl).2.trans f_m_dead
  replace f_m_isj := (hs.o gm trivial rfl).2.trans f_m_isj
  replace f_m_dox := (hs.o gm trivial rfl).2.trans f_m_dox
  replace f_m_doy := (hs.o gm trivial rfl).2.trans f_m_doy
  replace f_qlt := (hs.o g_qw trivial rfl).2.trans f_qlt
  replace f_qlf := (hs.o g_qw trivial rfl).2.trans f_qlf
  replace f_m_wkd := (hs.o gm trivial rfl).2.trans f_m_wkd
  replace f_m_aga := (hs.o gm trivial rfl).2.trans f_m_aga
  replace f_qwo := (hs.o gx trivial rfl).2.trans f_qwo
  replace f_m_ad := (hs.o gm trivial rfl).2.trans f_m_ad
  replace f_m_by := (hs.o gm trivial rfl).2.trans f_m_by
  replace f_m_ho := (hs.o gm trivial rfl).2.trans f_m_ho
  replace f_m_fc := (hs.o gm trivial rfl).2.trans f_m_fc
  replace f_m_nt := (hs.o gm trivial rfl).2.trans f_m_nt
  replace f_m_wt := (hs.o gm trivial rfl).2.trans f_m_wt
  replace f_m_be := (hs.o gm trivial rfl).2.trans f_m_be
  replace f_m_bor := (hs.o gm trivial rfl).2.trans f_m_bor
  replace f_m_kin := (hs.o gm trivial rfl).2.trans f_m_kin
  replace f_m_sum := (hs.o gm trivial rfl).2.trans f_m_sum
  replace f_m_fro := (hs.o gm trivial rfl).2.trans f_m_fro
  replace f_m_fil := (hs.o gm trivial rfl).2.trans f_m_fil
  replace f_m_jud := (hs.o gm trivial rfl).2.trans f_m_jud
  replace pf_qa : ∀ j : Nat, (j : Int) < (h_491.2.1 ax 6).toInt → h_491.2.2 qa j ≠ none := by
    intro j hj; rw [(hs.o gx trivial rfl).1] at hj; rw [(hs.a g_qa rfl j).2]; exact pf_qa j hj
  replace pf_qp : ∀ j : Nat, (j : Int) < (h_491.2.1 ax 8).toInt → h_491.2.2 qp j ≠ none := by
    intro j hj; rw [(hs.o gx trivial rfl).1] at hj; rw [(hs.a g_qp rfl j).2]; exact pf_qp j hj
  replace pf_qc : ∀ j : Nat, (j : Int) < (h_491.2.1 ax 11).toInt → h_491.2.2 qc j ≠ none := by
    intro j hj; rw [(hs.o gx trivial rfl).1] at hj; rw [(hs.a g_qc rfl j).2]; exact pf_qc j hj
  replace pf_qh : ∀ j : Nat, (j : Int) < (h_491.2.1 ax 13).toInt → h_491.2.2 qh j ≠ none := by
    intro j hj; rw [(hs.o gx trivial rfl).1] at hj; rw [(hs.a g_qh rfl j).2]; exact pf_qh j hj
  replace pf_ql : ∀ j : Nat, (j : Int) < (h_491.2.1 qw 0).toInt → h_491.2.2 ql j ≠ none := by
    intro j hj; rw [(hs.o g_qw trivial rfl).1] at hj; rw [(hs.a g_ql rfl j).2]; exact pf_ql j hj
  replace cl_lst : hx_col 8 h_491 ql 0 = c_lst := (hx_col_S hs hTo g_ql tt_40 tt_2 rfl rfl).trans cl_lst
  replace cl_dead : hx_col 40 h_491 qp 7 = c_dead := (hx_col_S hs hTo g_qp tt_44 tt_4 rfl rfl).trans cl_dead
  replace cl_isj : hx_col 40 h_491 qp 8 = c_isj := (hx_col_S hs hTo g_qp tt_44 tt_4 rfl rfl).trans cl_isj
  replace cl_dox : hx_col 40 h_491 qp 5 = c_dox := (hx_col_S hs hTo g_qp tt_44 tt_4 rfl rfl).trans cl_dox
  replace cl_doy : hx_col 40 h_491 qp 6 = c_doy := (hx_col_S hs hTo g_qp tt_44 tt_4 rfl rfl).trans cl_doy
  replace cl_fou : hx_col 100 h_491 qc 10 = c_fou := (hx_col_S hs hTo g_qc tt_45 tt_2 rfl rfl).trans cl_fou
  replace cl_tri : hx_col 100 h_491 qc 9 = c_tri := (hx_col_S hs hTo g_qc tt_45 tt_2 rfl rfl).trans cl_tri
  replace cl_bor : hx_col 40 h_491 qp 1 = F_bor := (hx_col_S hs hTo g_qp tt_44 tt_4 rfl rfl).trans cl_bor
  replace cl_kin : hx_col 40 h_491 qp 2 = F_kin := (hx_col_S hs hTo g_qp tt_44 tt_4 rfl rfl).trans cl_kin
  replace cl_sum : hx_col 100 h_491 qc 6 = F_sum := (hx_col_S hs hTo g_qc tt_45 tt_2 rfl rfl).trans cl_sum
  replace cl_fro : hx_col 100 h_491 qc 7 = F_fro := (hx_col_S hs hTo g_qc tt_45 tt_2 rfl rfl).trans cl_fro
  replace cl_fil : hx_col 100 h_491 qc 8 = F_fil := (hx_col_S hs hTo g_qc tt_45 tt_2 rfl rfl).trans cl_fil
  replace cl_hea : hx_col 100 h_491 qc 11 = F_mh := (hx_col_S hs hTo g_qc tt_45 tt_2 rfl rfl).trans cl_hea
  replace cl_jud : hx_col 100 h_491 qc 12 = F_jud := (hx_col_S hs hTo g_qc tt_45 tt_2 rfl rfl).trans cl_jud
  replace nu_qp : hx_num 40 h_491 qp 0 (np.toInt) := hx_num_S hs hTo g_qp tt_44 tt_4 rfl rfl nu_qp
  replace nu_qc : hx_num 100 h_491 qc 0 (c0.toInt) := hx_num_S hs hTo g_qc tt_45 tt_2 rfl rfl nu_qc
  replace sb_list : hx_LQ 8 100 h_491 ql qc := hx_LQ_S hs g_ql g_qc rfl rfl sb_list
  replace hDF : hw_DF h_491 qc qp 2 F_aga c0.toInt := hw_DF_S hs hTo g_qc g_qp tt_45 tt_2 rfl rfl rfl hDF
  replace hRA9 : hv_RA h_491 qa qwo a0.toInt A9 := hv_RA_S hs hTo g_qa g_qwo tt_43 tt_0 rfl rfl rfl rfl rfl rfl (by omega) hRA9
  replace hDP : hw_DF h_491 qc qp 1 F_by c0.toInt := hw_DF_S hs hTo g_qc g_qp tt_45 tt_2 rfl rfl rfl hDP
  replace hAC9 : hv_AC h_491 qc F_ml c0.toInt A9 := hv_AC_S hs hTo g_qc tt_45 tt_2 rfl tt_0 rfl rfl rfl rfl rfl rfl rfl hAC9
  replace hFX : hv_FX 8 4 h_491 qc cF9L c0.toInt := hv_FX_S hs hTo g_qc tt_45 tt_2 rfl rfl rfl rfl hFX
  replace hBX : hv_FX 3 5 h_491 qc F_be c0.toInt := hv_FX_S hs hTo g_qc tt_45 tt_2 rfl rfl rfl rfl hBX
  replace hHL : hv_HL h_491 qh qc F_ho m0.toInt c0.toInt := hv_HL_S hs g_qh g_qc rfl rfl hHL
  replace n_mw : h_491.2.1 mw = F_mw := (funext fun j => (hs.a g_mw rfl j).1).trans n_mw
  replace n_mr : h_491.2.1 mr = F_mr := (funext fun j => (hs.a g_mr rfl j).1).trans n_mr
  replace n_mp : h_491.2.1 mp = F_mp := (funext fun j => (hs.a g_mp rfl j).1).trans n_mp
  replace n_mn : h_491.2.1 mn = F_mn := (funext fun j => (hs.a g_mn rfl j).1).trans n_mn
  replace n_ml : h_491.2.1 ml = F_ml := (funext fun j => (hs.a g_ml rfl j).1).trans n_ml
  replace n_mh : h_491.2.1 mh = F_mh := (funext fun j => (hs.a g_mh rfl j).1).trans n_mh
  replace n_mt : h_491.2.1 mt = F_mt := (funext fun j => (hs.a g_mt rfl j).1).trans n_mt
  replace n_m_fou : h_491.2.1 m_fou = F_m_fou := (funext fun j => (hs.a g_m_fou rfl j).1).trans n_m_fou
  replace n_b_of : h_491.2.1 b_of = B_of := (funext fun j => (hs.a g_b_of rfl j).1).trans n_b_of
  replace n_m_of : h_491.2.1 m_of = F_of := (funext fun j => (hs.a g_m_of rfl j).1).trans n_m_of
  replace n_b_wf : h_491.2.1 b_wf = B_wf := (funext fun j => (hs.a g_b_wf rfl j).1).trans n_b_wf
  replace n_m_wf : h_491.2.1 m_wf = F_wf := (funext fun j => (hs.a g_m_wf rfl j).1).trans n_m_wf
  replace n_b_df : h_491.2.1 b_df = B_df := (funext fun j => (hs.a g_b_df rfl j).1).trans n_b_df
  replace n_m_df : h_491.2.1 m_df = F_df := (funext fun j => (hs.a g_m_df rfl j).1).trans n_m_df
  replace n_b_kf : h_491.2.1 b_kf = B_kf := (funext fun j => (hs.a g_b_kf rfl j).1).trans n_b_kf
  replace n_m_kf : h_491.2.1 m_kf = F_kf := (funext fun j => (hs.a g_m_kf rfl j).1).trans n_m_kf
  replace n_b_sf : h_491.2.1 b_sf = B_sf := (funext fun j => (hs.a g_b_sf rfl j).1).trans n_b_sf
  replace n_m_sf : h_491.2.1 m_sf = F_sf := (funext fun j => (hs.a g_m_sf rfl j).1).trans n_m_sf
  replace n_b_bf : h_491.2.1 b_bf = bfL := (funext fun j => (hs.a g_b_bf rfl j).1).trans n_b_bf
  replace n_lst : h_491.2.1 m_lst = F_lst := (funext fun j => (hs.a g_m_lst rfl j).1).trans n_lst
  replace n_tp : h_491.2.1 m_tp = F_tp := (funext fun j => (hs.a g_m_tp rfl j).1).trans n_tp
  replace n_qtp : h_491.2.1 qtp = F_tp := (funext fun j => (hs.a g_qtp rfl j).1).trans n_qtp
  replace n_dead : h_491.2.1 m_dead = F_dead := (funext fun j => (hs.a g_m_dead rfl j).1).trans n_dead
  replace n_isj : h_491.2.1 m_isj = F_isj := (funext fun j => (hs.a g_m_isj rfl j).1).trans n_isj
  replace n_dox : h_491.2.1 m_dox = F_dox := (funext fun j => (hs.a g_m_dox rfl j).1).trans n_dox
  replace n_doy : h_491.2.1 m_doy = F_doy := (funext fun j => (hs.a g_m_doy rfl j).1).trans n_doy
  replace n_qlt : h_491.2.1 qlt = F_qlt := (funext fun j => (hs.a g_qlt rfl j).1).trans n_qlt
  replace n_m_wkd : h_491.2.1 m_wkd = F_m_wkd := (funext fun j => (hs.a g_m_wkd rfl j).1).trans n_m_wkd
  replace n_aga : h_491.2.1 m_aga = F_aga := (funext fun j => (hs.a g_m_aga rfl j).1).trans n_aga
  replace n_ad : h_491.2.1 m_ad = F_ad := (funext fun j => (hs.a g_m_ad rfl j).1).trans n_ad
  replace n_by : h_491.2.1 m_by = F_by := (funext fun j => (hs.a g_m_by rfl j).1).trans n_by
  replace n_ho : h_491.2.1 m_ho = F_ho := (funext fun j => (hs.a g_m_ho rfl j).1).trans n_ho
  replace n_fc : h_491.2.1 m_fc = F_fc := (funext fun j => (hs.a g_m_fc rfl j).1).trans n_fc
  replace n_nt : h_491.2.1 m_nt = F_nt := (funext fun j => (hs.a g_m_nt rfl j).1).trans n_nt
  replace n_wt : h_491.2.1 m_wt = F_wt := (funext fun j => (hs.a g_m_wt rfl j).1).trans n_wt
  replace n_be : h_491.2.1 m_be = F_be := (funext fun j => (hs.a g_m_be rfl j).1).trans n_be
  replace n_bor : h_491.2.1 m_bor = F_bor := (funext fun j => (hs.a g_m_bor rfl j).1).trans n_bor
  replace n_kin : h_491.2.1 m_kin = F_kin := (funext fun j => (hs.a g_m_kin rfl j).1).trans n_kin
  replace n_sum : h_491.2.1 m_sum = F_sum := (funext fun j => (hs.a g_m_sum rfl j).1).trans n_sum
  replace n_fro : h_491.2.1 m_fro = F_fro := (funext fun j => (hs.a g_m_fro rfl j).1).trans n_fro
  replace n_fil : h_491.2.1 m_fil = F_fil := (funext fun j => (hs.a g_m_fil rfl j).1).trans n_fil
  replace n_jud : h_491.2.1 m_jud = F_jud := (funext fun j => (hs.a g_m_jud rfl j).1).trans n_jud
  replace gx := gx.S hs
  replace gm := gm.S hs
  replace g_qa := g_qa.S hs
  replace g_qp := g_qp.S hs
  replace g_qc := g_qc.S hs
  replace g_qh := g_qh.S hs
  replace g_qw := g_qw.S hs
  replace g_ql := g_ql.S hs
  replace g_mw := g_mw.S hs
  replace g_mr := g_mr.S hs
  replace g_mp := g_mp.S hs
  replace g_mn := g_mn.S hs
  replace g_ml := g_ml.S hs
  replace g_mh := g_mh.S hs
  replace g_mt := g_mt.S hs
  replace g_m_fou := g_m_fou.S hs
  replace g_qo_ln := g_qo_ln.S hs
  replace g_b_of := g_b_of.S hs
  replace g_m_of := g_m_of.S hs
  replace g_b_wf := g_b_wf.S hs
  replace g_m_wf := g_m_wf.S hs
  replace g_b_df := g_b_df.S hs
  replace g_m_df := g_m_df.S hs
  replace g_b_kf := g_b_kf.S hs
  replace g_m_kf := g_m_kf.S hs
  replace g_b_sf := g_b_sf.S hs
  replace g_m_sf := g_m_sf.S hs
  replace g_b_bf := g_b_bf.S hs
  replace g_m_lst := g_m_lst.S hs
  replace g_qtp := g_qtp.S hs
  replace g_m_tp := g_m_tp.S hs
  replace g_m_dead := g_m_dead.S hs
  replace g_m_isj := g_m_isj.S hs
  replace g_m_dox := g_m_dox.S hs
  replace g_m_doy := g_m_doy.S hs
  replace g_qlt := g_qlt.S hs
  replace g_qlf := g_qlf.S hs
  replace g_m_wkd := g_m_wkd.S hs
  replace g_m_aga := g_m_aga.S hs
  replace g_qwo := g_qwo.S hs
  replace g_m_ad := g_m_ad.S hs
  replace g_m_by := g_m_by.S hs
  replace g_m_ho := g_m_ho.S hs
  replace g_m_fc := g_m_fc.S hs
  replace g_m_nt := g_m_nt.S hs
  replace g_m_wt := g_m_wt.S hs
  replace g_m_be := g_m_be.S hs
  replace g_m_bor := g_m_bor.S hs
  replace g_m_kin := g_m_kin.S hs
  replace g_m_sum := g_m_sum.S hs
  replace g_m_fro := g_m_fro.S hs
  replace g_m_fil := g_m_fil.S hs
  replace g_m_jud := g_m_jud.S hs
  refine lv_pop hx hb dL_law_940 rfl ?_
  refine lv_aload_n hx hb dL_law_941 rfl (lv_at hl 1 rfl) ?_
  refine lv_aload_n hx hb dL_law_942 rfl (lv_at hl 3 rfl) ?_
  refine lv_iload_n hx hb dL_law_943 rfl (lv_at hl 0 rfl) ?_
  refine lv_iconst (v := 1) hx hb dL_law_944 (by decide) ?_
  refine lv_iadd hx hb dL_law_945 ?_
  refine lv_topi (fun x_495 ex_495 => ?_)
  have zx_495 : x_495.toInt = i.toInt + 1 := by rw [ex_495]; exact i32_add rfl (by decide) (by omega) (by omega)
  obtain rfl : x_484 = x_495 := ex_484.trans ex_495.symm
  refine va_sld hx hb hX hbl hbA hW.2.2.2.1 (vp_in_iff.mpr ⟨by omega, by omega⟩) dL_law_946 ?_
  refine lv_topi (fun x_496 ex_496 => ?_)
  obtain rfl : x_485 = x_496 := ex_485.trans ex_496.symm
  refine lv_aload_n hx hb dL_law_947 rfl (lv_at hl 3 rfl) ?_
  refine lv_iload_n hx hb dL_law_948 rfl (lv_at hl 0 rfl) ?_
  refine lv_iconst (v := 2) hx hb dL_law_949 (by decide) ?_
  refine lv_iadd hx hb dL_law_950 ?_
  refine lv_topi (fun x_497 ex_497 => ?_)
  have zx_497 : x_497.toInt = i.toInt + 2 := by rw [ex_497]; exact i32_add rfl (by decide) (by omega) (by omega)
  obtain rfl : x_486 = x_497 := ex_486.trans ex_497.symm
  refine va_sld hx hb hX hbl hbA hW.2.2.2.1 (vp_in_iff.mpr ⟨by omega, by omega⟩) dL_law_951 ?_
  refine lv_topi (fun x_498 ex_498 => ?_)
  obtain rfl : x_487 = x_498 := ex_487.trans ex_498.symm
  refine lv_aload_n hx hb dL_law_952 rfl (lv_at hl 3 rfl) ?_
  refine lv_iload_n hx hb dL_law_953 rfl (lv_at hl 0 rfl) ?_
  refine lv_iconst (v := 3) hx hb dL_law_954 (by decide) ?_
  refine lv_iadd hx hb dL_law_955 ?_
  refine lv_topi (fun x_499 ex_499 => ?_)
  have zx_499 : x_499.toInt = i.toInt + 3 := by rw [ex_499]; exact i32_add rfl (by decide) (by omega) (by omega)
  obtain rfl : x_488 = x_499 := ex_488.trans ex_499.symm
  refine va_sld hx hb hX hbl hbA hW.2.2.2.1 (vp_in_iff.mpr ⟨by omega, by omega⟩) dL_law_956 ?_
  refine lv_topi (fun x_500 ex_500 => ?_)
  obtain rfl : x_489 = x_500 := ex_489.trans ex_500.symm
  have hTo := hT
  refine hx_goi (hx_runV (As := [.int x_485, .int x_487, .int x_489]) (rest := []) ⟨hx, hb, hml, hown, hts⟩ hW gm tt_10 (T := TX10) (N := 98) rfl (t_X10_pay l dC dI dA L_490 h_491 H.size am x_485 x_487 x_489 hT gm) (cwV 3 hts (hx_gV kw_1649 kw_1646 kw_1647 kw_1648 kw_103) rfl rfl rfl (by decide +kernel) ⟨Nat.le_of_ble_eq_true rfl, Nat.le_of_ble_eq_true rfl⟩) rfl hl.1 rfl (Nat.le_of_ble_eq_true rfl) dL_law_957 ⟨(show CC + 0 + 0 ≤ 600000 from by omega), (show SS + 0 + 0 ≤ 7302250 from by omega)⟩) hW (fun r_503 L_501 h_502 H locs p_504 hW => ?_)
  obtain ⟨hr_505, hT, hs⟩ := p_504
  replace hT : hx_T T_tb L_501 h_502 := hT
  replace hs : hx_S T_tb [(10, 59), (93, 0), (94, 0), (95, 0), (96, 0), (97, 0)] L_490 h_491 L_501 h_502 := hs
  replace f_qa := (hs.o gx trivial rfl).2.trans f_qa
  replace f_qp := (hs.o gx trivial rfl).2.trans f_qp
  replace f_qc := (hs.o gx trivial rfl).2.trans f_qc
  replace f_qh := (hs.o gx trivial rfl).2.trans f_qh
  replace f_qw := (hs.o gx trivial rfl).2.trans f_qw
  replace f_ql := (hs.o g_qw trivial rfl).2.trans f_ql
  replace f_m_now := (hs.o gm trivial rfl).1.trans f_m_now
  replace f_m_persons := (hs.o gm trivial rfl).1.trans f_m_persons
  replace f_m_claims := (hs.o gm trivial rfl).1.trans f_m_claims
  replace f_m_taped := (hs.o gm trivial rfl).1.trans f_m_taped
  replace f_m_acts := (hs.o gm trivial rfl).1.trans f_m_acts
  replace f_m_heardMany := (hs.o gm trivial rfl).1.trans f_m_heardMany
  replace f_m_lines := (hs.o gm trivial rfl).1.trans f_m_lines
  replace f_m_listed := (hs.o gm trivial rfl).1.trans f_m_listed
  replace f_m_walkedMany := (hs.o gm trivial rfl).1.trans f_m_walkedMany
  replace f_x_now := (hs.o gx trivial rfl).1.trans f_x_now
  replace f_x_personCount := (hs.o gx trivial rfl).1.trans f_x_personCount
  replace f_x_claimCount := (hs.o gx trivial rfl).1.trans f_x_claimCount
  replace f_x_tapeLength := (hs.o gx trivial rfl).1.trans f_x_tapeLength
  replace f_x_actCount := (hs.o gx trivial rfl).1.trans f_x_actCount
  replace f_x_heardCount := (hs.o gx trivial rfl).1.trans f_x_heardCount
  replace f_mw := (hs.o gm trivial rfl).2.trans f_mw
  replace f_mr := (hs.o gm trivial rfl).2.trans f_mr
  replace f_mp := (hs.o gm trivial rfl).2.trans f_mp
  replace f_mn := (hs.o gm trivial rfl).2.trans f_mn
  replace f_ml := (hs.o gm trivial rfl).2.trans f_ml
  replace f_mh := (hs.o gm trivial rfl).2.trans f_mh
  replace f_mt := (hs.o gm trivial rfl).2.trans f_mt
  replace f_m_fou := (hs.o gm trivial rfl).2.trans f_m_fou
  replace f_qo_ln := (hs.o gx trivial rfl).2.trans f_qo_ln
  replace f_o_ln := (hs.o g_qo_ln trivial rfl).1.trans f_o_ln
  replace f_o_lsd := (hs.o g_qw trivial rfl).1.trans f_o_lsd
  replace f_o_wkm := (hs.o g_qw trivial rfl).1.trans f_o_wkm
  replace f_b_of := (hs.o g_qo_ln trivial rfl).2.trans f_b_of
  replace f_m_of := (hs.o gm trivial rfl).2.trans f_m_of
  replace f_b_wf := (hs.o g_qo_ln trivial rfl).2.trans f_b_wf
  replace f_m_wf := (hs.o gm trivial rfl).2.trans f_m_wf
  replace f_b_df := (hs.o g_qo_ln trivial rfl).2.trans f_b_df
  replace f_m_df := (hs.o gm trivial rfl).2.trans f_m_df
  replace f_b_kf := (hs.o g_qo_ln trivial rfl).2.trans f_b_kf
  replace f_m_kf := (hs.o gm trivial rfl).2.trans f_m_kf
  replace f_b_sf := (hs.o g_qo_ln trivial rfl).2.trans f_b_sf
  replace f_m_sf := (hs.o gm trivial rfl).2.trans f_m_sf
  replace f_b_bf := (hs.o g_qo_ln trivial rfl).2.trans f_b_bf
  replace f_m_lst := (hs.o gm trivial rfl).2.trans f_m_lst
  replace f_qtp := (hs.o gx trivial rfl).2.trans f_qtp
  replace f_m_tp := (hs.o gm trivial rfl).2.trans f_m_tp
  replace f_m_dead := (hs.o gm trivial rfl).2.trans f_m_dead
  replace f_m_isj := (hs.o gm trivial rfl).2.trans f_m_isj
  replace f_m_dox := (hs.o gm trivial rfl).2.trans f_m_dox
  replace f_m_doy := (hs.o gm trivial rfl).2.trans f_m_doy
  replace f_qlt := (hs.o g_qw trivial rfl).2.trans f_qlt
  replace f_qlf := (hs.o g_qw trivial rfl).2.trans f_qlf
  replace f_m_wkd := (hs.o gm trivial rfl).2.trans f_m_wkd
  replace f_m_aga := (hs.o gm trivial rfl).2.trans f_m_aga
  replace f_qwo := (hs.o gx trivial rfl).2.trans f_qwo
  replace f_m_ad := (hs.o gm trivial rfl).2.trans f_m_ad
  replace f_m_by := (hs.o gm trivial rfl).2.trans f_m_by
  replace f_m_ho := (hs.o gm trivial rfl).2.trans f_m_ho
  replace f_m_fc := (hs.o gm trivial rfl).2.trans f_m_fc
  replace f_m_nt := (hs.o gm trivial rfl).2.trans f_m_nt
  replace f_m_wt := (hs.o gm trivial rfl).2.trans f_m_wt
  replace f_m_be := (hs.o gm trivial rfl).2.trans f_m_be
  replace f_m_bor := (hs.o gm trivial rfl).2.trans f_m_bor
  replace f_m_kin := (hs.o gm trivial rfl).2.trans f_m_kin
  replace f_m_sum := (hs.o gm trivial rfl).2.trans f_m_sum
  replace f_m_fro := (hs.o gm trivial rfl).2.trans f_m_fro
  replace f_m_fil := (hs.o gm trivial rfl).2.trans f_m_fil
  replace f_m_jud := (hs.o gm trivial rfl).2.trans f_m_jud
  replace pf_qa : ∀ j : Nat, (j : Int) < (h_502.2.1 ax 6).toInt → h_502.2.2 qa j ≠ none := by
    intro j hj; rw [(hs.o gx trivial rfl).1] at hj; rw [(hs.a g_qa rfl j).2]; exact pf_qa j hj
  replace pf_qp : ∀ j : Nat, (j : Int) < (h_502.2.1 ax 8).toInt → h_502.2.2 qp j ≠ none := by
    intro j hj; rw [(hs.o gx trivial rfl).1] at hj; rw [(hs.a g_qp rfl j).2]; exact pf_qp j hj
  replace pf_qc : ∀ j : Nat, (j : Int) < (h_502.2.1 ax 11).toInt → h_502.2.2 qc j ≠ none := by
    intro j hj; rw [(hs.o gx trivial rfl).1] at hj; rw [(hs.a g_qc rfl j).2]; exact pf_qc j hj
  replace pf_qh : ∀ j : Nat, (j : Int) < (h_502.2.1 ax 13).toInt → h_502.2.2 qh j ≠ none := by
    intro j hj; rw [(hs.o gx trivial rfl).1] at hj; rw [(hs.a g_qh rfl j).2]; exact pf_qh j hj
  replace pf_ql : ∀ j : Nat, (j : Int) < (h_502.2.1 qw 0).toInt → h_502.2.2 ql j ≠ none := by
    intro j hj; rw [(hs.o g_qw trivial rfl).1] at hj; rw [(hs.a g_ql rfl j).2]; exact pf_ql j hj
  replace cl_lst : hx_col 8 h_502 ql 0 = c_lst := (hx_col_S hs hTo g_ql tt_40 tt_2 rfl rfl).trans cl_lst
  replace cl_dead : hx_col 40 h_502 qp 7 = c_dead := (hx_col_S hs hTo g_qp tt_44 tt_4 rfl rfl).trans cl_dead
  replace cl_isj : hx_col 40 h_502 qp 8 = c_isj := (hx_col_S hs hTo g_qp tt_44 tt_4 rfl rfl).trans cl_isj
  replace cl_dox : hx_col 40 h_502 qp 5 = c_dox := (hx_col_S hs hTo g_qp tt_44 tt_4 rfl rfl).trans cl_dox
  replace cl_doy : hx_col 40 h_502 qp 6 = c_doy := (hx_col_S hs hTo g_qp tt_44 tt_4 rfl rfl).trans cl_doy
  replace cl_fou : hx_col 100 h_502 qc 10 = c_fou := (hx_col_S hs hTo g_qc tt_45 tt_2 rfl rfl).trans cl_fou
  replace cl_tri : hx_col 100 h_502 qc 9 = c_tri := (hx_col_S hs hTo g_qc tt_45 tt_2 rfl rfl).trans cl_tri
  replace cl_bor : hx_col 40 h_502 qp 1 = F_bor := (hx_col_S hs hTo g_qp tt_44 tt_4 rfl rfl).trans cl_bor
  replace cl_kin : hx_col 40 h_502 qp 2 = F_kin := (hx_col_S hs hTo g_qp tt_44 tt_4 rfl rfl).trans cl_kin
  replace cl_sum : hx_col 100 h_502 qc 6 = F_sum := (hx_col_S hs hTo g_qc tt_45 tt_2 rfl rfl).trans cl_sum
  replace cl_fro : hx_col 100 h_502 qc 7 = F_fro := (hx_col_S hs hTo g_qc tt_45 tt_2 rfl rfl).trans cl_fro
  replace cl_fil : hx_col 100 h_502 qc 8 = F_fil := (hx_col_S hs hTo g_qc tt_45 tt_2 rfl rfl).trans cl_fil
  replace cl_hea : hx_col 100 h_502 qc 11 = F_mh := (hx_col_S hs hTo g_qc tt_45 tt_2 rfl rfl).trans cl_hea
  replace cl_jud : hx_col 100 h_502 qc 12 = F_jud := (hx_col_S hs hTo g_qc tt_45 tt_2 rfl rfl).trans cl_jud
  replace nu_qp : hx_num 40 h_502 qp 0 (np.toInt) := hx_num_S hs hTo g_qp tt_44 tt_4 rfl rfl nu_qp
  replace nu_qc : hx_num 100 h_502 qc 0 (c0.toInt) := hx_num_S hs hTo g_qc tt_45 tt_2 rfl rfl nu_qc
  replace sb_list : hx_LQ 8 100 h_502 ql qc := hx_LQ_S hs g_ql g_qc rfl rfl sb_list
  replace hDF : hw_DF h_502 qc qp 2 F_aga c0.toInt := hw_DF_S hs hTo g_qc g_qp tt_45 tt_2 rfl rfl rfl hDF
  replace hRA9 : hv_RA h_502 qa qwo a0.toInt A9 := hv_RA_S hs hTo g_qa g_qwo tt_43 tt_0 rfl rfl rfl rfl rfl rfl (by omega) hRA9
  replace hDP : hw_DF h_502 qc qp 1 F_by c0.toInt := hw_DF_S hs hTo g_qc g_qp tt_45 tt_2 rfl rfl rfl hDP
  replace hAC9 : hv_AC h_502 qc F_ml c0.toInt A9 := hv_AC_S hs hTo g_qc tt_45 tt_2 rfl tt_0 rfl rfl rfl rfl rfl rfl rfl hAC9
  replace hFX : hv_FX 8 4 h_502 qc cF9L c0.toInt := hv_FX_S hs hTo g_qc tt_45 tt_2 rfl rfl rfl rfl hFX
  replace hBX : hv_FX 3 5 h_502 qc F_be c0.toInt := hv_FX_S hs hTo g_qc tt_45 tt_2 rfl rfl rfl rfl hBX
  replace hHL : hv_HL h_502 qh qc F_ho m0.toInt c0.toInt := hv_HL_S hs g_qh g_qc rfl rfl hHL
  replace n_mw : h_502.2.1 mw = F_mw := (funext fun j => (hs.a g_mw rfl j).1).trans n_mw
  replace n_mr : h_502.2.1 mr = F_mr := (funext fun j => (hs.a g_mr rfl j).1).trans n_mr
  replace n_mp : h_502.2.1 mp = F_mp := (funext fun j => (hs.a g_mp rfl j).1).trans n_mp
  replace n_mn : h_502.2.1 mn = F_mn := (funext fun j => (hs.a g_mn rfl j).1).trans n_mn
  replace n_ml : h_502.2.1 ml = F_ml := (funext fun j => (hs.a g_ml rfl j).1).trans n_ml
  replace n_mh : h_502.2.1 mh = F_mh := (funext fun j => (hs.a g_mh rfl j).1).trans n_mh
  replace n_mt : h_502.2.1 mt = F_mt := (funext fun j => (hs.a g_mt rfl j).1).trans n_mt
  replace n_m_fou : h_502.2.1 m_fou = F_m_fou := (funext fun j => (hs.a g_m_fou rfl j).1).trans n_m_fou
  replace n_b_of : h_502.2.1 b_of = B_of := (funext fun j => (hs.a g_b_of rfl j).1).trans n_b_of
  replace n_m_of : h_502.2.1 m_of = F_of := (funext fun j => (hs.a g_m_of rfl j).1).trans n_m_of
  replace n_b_wf : h_502.2.1 b_wf = B_wf := (funext fun j => (hs.a g_b_wf rfl j).1).trans n_b_wf
  replace n_m_wf : h_502.2.1 m_wf = F_wf := (funext fun j => (hs.a g_m_wf rfl j).1).trans n_m_wf
  replace n_b_df : h_502.2.1 b_df = B_df := (funext fun j => (hs.a g_b_df rfl j).1).trans n_b_df
  replace n_m_df : h_502.2.1 m_df = F_df := (funext fun j => (hs.a g_m_df rfl j).1).trans n_m_df
  replace n_b_kf : h_502.2.1 b_kf = B_kf := (funext fun j => (hs.a g_b_kf rfl j).1).trans n_b_kf
  replace n_m_kf : h_502.2.1 m_kf = F_kf := (funext fun j => (hs.a g_m_kf rfl j).1).trans n_m_kf
  replace n_b_sf : h_502.2.1 b_sf = B_sf := (funext fun j => (hs.a g_b_sf rfl j).1).trans n_b_sf
  replace n_m_sf : h_502.2.1 m_sf = F_sf := (funext fun j => (hs.a g_m_sf rfl j).1).trans n_m_sf
  replace n_b_bf : h_502.2.1 b_bf = bfL := (funext fun j => (hs.a g_b_bf rfl j).1).trans n_b_bf
  replace n_lst : h_502.2.1 m_lst = F_lst := (funext fun j => (hs.a g_m_lst rfl j).1).trans n_lst
  replace n_tp : h_502.2.1 m_tp = F_tp := (funext fun j => (hs.a g_m_tp rfl j).1).trans n_tp
  replace n_qtp : h_502.2.1 qtp = F_tp := (funext fun j => (hs.a g_qtp rfl j).1).trans n_qtp
  replace n_dead : h_502.2.1 m_dead = F_dead := (funext fun j => (hs.a g_m_dead rfl j).1).trans n_dead
  replace n_isj : h_502.2.1 m_isj = F_isj := (funext fun j => (hs.a g_m_isj rfl j).1).trans n_isj
  replace n_dox : h_502.2.1 m_dox = F_dox := (funext fun j => (hs.a g_m_dox rfl j).1).trans n_dox
  replace n_doy : h_502.2.1 m_doy = F_doy := (funext fun j => (hs.a g_m_doy rfl j).1).trans n_doy
  replace n_qlt : h_502.2.1 qlt = F_qlt := (funext fun j => (hs.a g_qlt rfl j).1).trans n_qlt
  replace n_m_wkd : h_502.2.1 m_wkd = F_m_wkd := (funext fun j => (hs.a g_m_wkd rfl j).1).trans n_m_wkd
  replace n_aga : h_502.2.1 m_aga = F_aga := (funext fun j => (hs.a g_m_aga rfl j).1).trans n_aga
  replace n_ad : h_502.2.1 m_ad = F_ad := (funext fun j => (hs.a g_m_ad rfl j).1).trans n_ad
  replace n_by : h_502.2.1 m_by = F_by := (funext fun j => (hs.a g_m_by rfl j).1).trans n_by
  replace n_ho : h_502.2.1 m_ho = F_ho := (funext fun j => (hs.a g_m_ho rfl j).1).trans n_ho
  replace n_fc : h_502.2.1 m_fc = F_fc := (funext fun j => (hs.a g_m_fc rfl j).1).trans n_fc
  replace n_nt : h_502.2.1 m_nt = F_nt := (funext fun j => (hs.a g_m_nt rfl j).1).trans n_nt
  replace n_wt : h_502.2.1 m_wt = F_wt := (funext fun j => (hs.a g_m_wt rfl j).1).trans n_wt
  replace n_be : h_502.2.1 m_be = F_be := (funext fun j => (hs.a g_m_be rfl j).1).trans n_be
  replace n_bor : h_502.2.1 m_bor = F_bor := (funext fun j => (hs.a g_m_bor rfl j).1).trans n_bor
  replace n_kin : h_502.2.1 m_kin = F_kin := (funext fun j => (hs.a g_m_kin rfl j).1).trans n_kin
  replace n_sum : h_502.2.1 m_sum = F_sum := (funext fun j => (hs.a g_m_sum rfl j).1).trans n_sum
  replace n_fro : h_502.2.1 m_fro = F_fro := (funext fun j => (hs.a g_m_fro rfl j).1).trans n_fro
  replace n_fil : h_502.2.1 m_fil = F_fil := (funext fun j => (hs.a g_m_fil rfl j).1).trans n_fil
  replace n_jud : h_502.2.1 m_jud = F_jud := (funext fun j => (hs.a g_m_jud rfl j).1).trans n_jud
  replace gx := gx.S hs
  replace gm := gm.S hs
  replace g_qa := g_qa.S hs
  replace g_qp := g_qp.S hs
  replace g_qc := g_qc.S hs
  replace g_qh := g_qh.S hs
  replace g_qw := g_qw.S hs
  replace g_ql := g_ql.S hs
  replace g_mw := g_mw.S hs
  replace g_mr := g_mr.S hs
  replace g_mp := g_mp.S hs
  replace g_mn := g_mn.S hs
  replace g_ml := g_ml.S hs
  replace g_mh := g_mh.S hs
  replace g_mt := g_mt.S hs
  replace g_m_fou := g_m_fou.S hs
  replace g_qo_ln := g_qo_ln.S hs
  replace g_b_of := g_b_of.S hs
  replace g_m_of := g_m_of.S hs
  replace g_b_wf := g_b_wf.S hs
  replace g_m_wf := g_m_wf.S hs
  replace g_b_df := g_b_df.S hs
  replace g_m_df := g_m_df.S hs
  replace g_b_kf := g_b_kf.S hs
  replace g_m_kf := g_m_kf.S hs
  replace g_b_sf := g_b_sf.S hs
  replace g_m_sf := g_m_sf.S hs
  replace g_b_bf := g_b_bf.S hs
  replace g_m_lst := g_m_lst.S hs
  replace g_qtp := g_qtp.S hs
  replace g_m_tp := g_m_tp.S hs
  replace g_m_dead := g_m_dead.S hs
  replace g_m_isj := g_m_isj.S hs
  replace g_m_dox := g_m_dox.S hs
  replace g_m_doy := g_m_doy.S hs
  replace g_qlt := g_qlt.S hs
  replace g_qlf := g_qlf.S hs
  replace g_m_wkd := g_m_wkd.S hs
  replace g_m_aga := g_m_aga.S hs
  replace g_qwo := g_qwo.S hs
  replace g_m_ad := g_m_ad.S hs
  replace g_m_by := g_m_by.S hs
  replace g_m_ho := g_m_ho.S hs
  replace g_m_fc := g_m_fc.S hs
  replace g_m_nt := g_m_nt.S hs
  replace g_m_wt := g_m_wt.S hs
  replace g_m_be := g_m_be.S hs
  replace g_m_bor := g_m_bor.S hs
  replace g_m_kin := g_m_kin.S hs
  replace g_m_sum := g_m_sum.S hs
  replace g_m_fro := g_m_fro.S hs
  replace g_m_fil := g_m_fil.S hs
  replace g_m_jud := g_m_jud.S hs
  refine lv_pop hx hb dL_law_960 rfl ?_
  refine lv_goto (tgt := 1379) hx hb dL_law_961 (by decide) ?_
  refine W.widen (k := CC + 3) (n := SS + 179) (by omega) (by omega) ?_
  exact kk L_501 h_502 H locs ls hW ⟨hT, gx, gm, ⟨f_x_now.trans f_m_now.symm, f_x_personCount.trans f_m_persons.symm, f_x_claimCount.trans f_m_claims.symm, f_x_tapeLength.trans f_m_taped.symm, f_x_actCount.trans f_m_acts.symm, f_x_heardCount.trans f_m_heardMany.symm, hx_ob f_qo_ln (f_o_ln.trans f_m_lines.symm), hx_ob f_qw (f_o_lsd.trans f_m_listed.symm), hx_ob f_qw (f_o_wkm.trans f_m_walkedMany.symm), hx_ob f_qp (by rw [f_x_personCount]; exact nu_qp), hx_ob f_qc (by rw [f_x_claimCount]; exact nu_qc), (fun b a r hb ha hr => by obtain rfl : qo_ln = b := Option.some.inj (f_qo_ln.symm.trans hb); obtain rfl : b_of = a := Option.some.inj (f_b_of.symm.trans ha); obtain rfl : m_of = r := Option.some.inj (f_m_of.symm.trans hr); rw [n_b_of, n_m_of, f_o_ln]; exact eb_of), (fun b a r hb ha hr => by obtain rfl : qo_ln = b := Option.some.inj (f_qo_ln.symm.trans hb); obtain rfl : b_wf = a := Option.some.inj (f_b_wf.symm.trans ha); obtain rfl : m_wf = r := Option.some.inj (f_m_wf.symm.trans hr); rw [n_b_wf, n_m_wf, f_o_ln]; exact eb_wf), (fun b a r hb ha hr => by obtain rfl : qo_ln = b := Option.some.inj (f_qo_ln.symm.trans hb); obtain rfl : b_df = a := Option.some.inj (f_b_df.symm.trans ha); obtain rfl : m_df = r := Option.some.inj (f_m_df.symm.trans hr); rw [n_b_df, n_m_df, f_o_ln]; exact eb_df), (fun b a r hb ha hr => by obtain rfl : qo_ln = b := Option.some.inj (f_qo_ln.symm.trans hb); obtain rfl : b_kf = a := Option.some.inj (f_b_kf.symm.trans ha); obtain rfl : m_kf = r := Option.some.inj (f_m_kf.symm.trans hr); rw [n_b_kf, n_m_kf, f_o_ln]; exact eb_kf), (fun b a r hb ha hr => by obtain rfl : qo_ln = b := Option.some.inj (f_qo_ln.symm.trans hb); obtain rfl : b_sf = a := Option.some.inj (f_b_sf.symm.trans ha); obtain rfl : m_sf = r := Option.some.inj (f_m_sf.symm.trans hr); rw [n_b_sf, n_m_sf, f_o_ln]; exact eb_sf), (fun b a r hb ha hr => by obtain rfl : qo_ln = b := Option.some.inj (f_qo_ln.symm.trans hb); obtain rfl : b_df = a := Option.some.inj (f_b_df.symm.trans ha); obtain rfl : b_bf = r := Option.some.inj (f_b_bf.symm.trans hr); rw [n_b_df, n_b_bf, f_o_ln]; exact ⟨hBD, hDY⟩), (fun w q c hw hq hc => by obtain rfl : qw = w := Option.some.inj (f_qw.symm.trans hw); obtain rfl : ql = q := Option.some.inj (f_ql.symm.trans hq); obtain rfl : qc = c := Option.some.inj (f_qc.symm.trans hc); exact sb_list), (fun w q r hw hq hr => by obtain rfl : qw = w := Option.some.inj (f_qw.symm.trans hw); obtain rfl : ql = q := Option.some.inj (f_ql.symm.trans hq); obtain rfl : m_lst = r := Option.some.inj (f_m_lst.symm.trans hr); rw [cl_lst, n_lst]; exact eq_lst), (fun w q r hw hq hr => by obtain rfl : qw = w := Option.some.inj (f_qw.symm.trans hw); obtain rfl : qlt = q := Option.some.inj (f_qlt.symm.trans hq); obtain rfl : m_wkd = r := Option.some.inj (f_m_wkd.symm.trans hr); rw [n_qlt, n_m_wkd, f_o_wkm]; exact eb_wkd), (fun c q a hc hq ha => by obtain rfl : qc = c := Option.some.inj (f_qc.symm.trans hc); obtain rfl : qp = q := Option.some.inj (f_qp.symm.trans hq); obtain rfl : m_aga = a := Option.some.inj (f_m_aga.symm.trans ha); rw [n_aga, f_x_claimCount]; exact hw_DF_e hDF rfl rfl), (fun q r hq hr => by obtain rfl : qtp = q := Option.some.inj (f_qtp.symm.trans hq); obtain rfl : m_tp = r := Option.some.inj (f_m_tp.symm.trans hr); exact n_qtp.trans n_tp.symm), (fun q w a b c d e p hq hw ha hb hc hd he hp => by obtain rfl : qa = q := Option.some.inj (f_qa.symm.trans hq); obtain rfl : qwo = w := Option.some.inj (f_qwo.symm.trans hw); obtain rfl : m_ad = a := Option.some.inj (f_m_ad.symm.trans ha); obtain rfl : mr = b := Option.some.inj (f_mr.symm.trans hb); obtain rfl : mn = c := Option.some.inj (f_mn.symm.trans hc); obtain rfl : mp = d := Option.some.inj (f_mp.symm.trans hd); obtain rfl : qc = e := Option.some.inj (f_qc.symm.trans he); obtain rfl : ml = p := Option.some.inj (f_ml.symm.trans hp); exact ⟨_, by rw [f_x_actCount]; exact hRA9, by rw [f_x_actCount, n_ad, n_mr, n_mn, n_mp]; exact hCA9, by rw [n_ml, f_x_claimCount]; exact hv_AC_e hAC9 rfl rfl rfl, hAB⟩), (fun c q a hc hq ha => by obtain rfl : qc = c := Option.some.inj (f_qc.symm.trans hc); obtain rfl : qp = q := Option.some.inj (f_qp.symm.trans hq); obtain rfl : m_by = a := Option.some.inj (f_m_by.symm.trans ha); rw [n_by, f_x_claimCount]; exact hw_DF_e hDP rfl rfl), (fun q c a hq hc ha => by obtain rfl : qh = q := Option.some.inj (f_qh.symm.trans hq); obtain rfl : qc = c := Option.some.inj (f_qc.symm.trans hc); obtain rfl : m_ho = a := Option.some.inj (f_m_ho.symm.trans ha); rw [n_ho, f_x_heardCount, f_x_claimCount]; exact hv_HL_e hHL rfl rfl rfl), (fun a b ha hb => by obtain rfl : m_ho = a := Option.some.inj (f_m_ho.symm.trans ha); obtain rfl : mh = b := Option.some.inj (f_mh.symm.trans hb); rw [n_ho, n_mh, f_m_heardMany, f_m_claims]; exact hHO9), (fun c a b d e f hc ha hb hd he hf => by obtain rfl : qc = c := Option.some.inj (f_qc.symm.trans hc); obtain rfl : m_fc = a := Option.some.inj (f_m_fc.symm.trans ha); obtain rfl : m_nt = b := Option.some.inj (f_m_nt.symm.trans hb); obtain rfl : m_wt = d := Option.some.inj (f_m_wt.symm.trans hd); obtain rfl : m_sum = e := Option.some.inj (f_m_sum.symm.trans he); obtain rfl : mh = f := Option.some.inj (f_mh.symm.trans hf); exact ⟨cF9L, by rw [f_x_claimCount]; exact hFX, by rw [n_fc, n_nt, n_wt, n_sum, n_mh, f_x_claimCount]; exact hFR9⟩), (fun c a hc ha => by obtain rfl : qc = c := Option.some.inj (f_qc.symm.trans hc); obtain rfl : m_be = a := Option.some.inj (f_m_be.symm.trans ha); rw [n_be, f_x_claimCount]; exact hv_FX_e hBX rfl rfl), hx_ob2 f_qp f_m_bor (cl_bor.trans n_bor.symm), hx_ob2 f_qp f_m_kin (cl_kin.trans n_kin.symm), hx_ob2 f_qc f_m_sum (cl_sum.trans n_sum.symm), hx_ob2 f_qc f_m_fro (cl_fro.trans n_fro.symm), hx_ob2 f_qc f_m_fil (cl_fil.trans n_fil.symm), hx_ob2 f_qc f_mh (cl_hea.trans n_mh.symm), hx_ob2 f_qc f_m_jud (cl_jud.trans n_jud.symm), hx_ob2 f_qp f_m_dead (by rw [cl_dead, n_dead]; exact eq_dead), hx_ob2 f_qp f_m_isj (by rw [cl_isj, n_isj]; exact eq_isj), hx_ob2 f_qp f_m_dox (by rw [cl_dox, n_dox]; exact eq_dox), hx_ob2 f_qp f_m_doy (by rw [cl_doy, n_doy]; exact eq_doy), hx_ob2 f_qc f_m_fou (by rw [cl_fou, n_m_fou]; exact eq_fou), hx_ob2 f_qc f_mt (by rw [cl_tri, n_mt]; exact eq_tri), trivial⟩, ⟨hx_ob f_qa pf_qa, hx_ob f_qp pf_qp, hx_ob f_qc pf_qc, hx_ob f_qh pf_qh, (fun w q hw hq => by obtain rfl : qw = w := Option.some.inj (f_qw.symm.trans hw); obtain rfl : ql = q := Option.some.inj (f_ql.symm.trans hq); exact pf_ql)⟩, ⟨hx_ob f_mw (by rw [n_mw]; exact hwd), hx_ob f_mr (by rw [n_mr, f_m_acts]; exact hWK), hx_ob2 f_mp f_mn (by rw [n_mp, n_mn, f_m_acts]; exact hRP), hx_ob f_ml (by rw [n_ml, f_m_claims, f_m_acts]; exact hPL), hx_ob f_mh (by rw [n_mh, f_m_heardMany, f_m_claims]; exact hHC), hx_ob f_mt (by rw [n_mt]; exact (hx_TR_le hTR (by omega))), hx_ob2 f_mh f_m_fou (by rw [n_mh, n_m_fou, f_m_claims]; exact hHF)⟩⟩ hl
