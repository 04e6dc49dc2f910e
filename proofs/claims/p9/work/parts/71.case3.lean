set_option maxHeartbeats 4000000 in
set_option maxRecDepth 100000 in
theorem law_case_24 {p : Program} {e : Env} {s : State} {m : MethodId} {below : List Frame} {meth : Method} {c : Code} (l : Launch) {b LN : Nat} {xs : Nat → Int32} (hx : p.tables.exec = Jvm.exec) (hb : c.code = code) (hr : meth.sig.returnType = ret) (hlocks : meth.locks = false) (hml : c.maxLocals = 4) (hown : s.vm.findClass "SmallCourtLaw" = some m.cls) (hts : ∀ w ∈ hx_all, w.before #[Value.ref b] s = true) (hX : va_X b LN xs s s.heap) (hbl : b < s.heap.size) (hbA : ¬ s.heap.size ≤ b) (hLN : LN ≤ 3584) (dC : Nat → ClassId) (dI : Nat → Nat → Nat) (dA : Nat → ClassId) (b0 : hx_z) (ax am : Nat) (T1 : Int) (hT0 : 0 ≤ T1) (hT1 : T1 ≤ 511) (i : Int32) (hi0 : 0 ≤ i.toInt) (hiL : i.toInt + 7 ≤ LN) (CC SS : Nat) (hCC : CC + 3 ≤ 600000) (hSS : SS + 179 ≤ 7302250) (L1 : List Nat) (hl1 : hx_h) (H : Heap) (locs : List Loc) (ls : Array Slot) (hW : hx_W T_tb (P_ty dA) (dC, dI) vwCl (fun q : Nat => s.heap.size ≤ q) s.heap L1 hl1 s H locs) (hZ : hx_Xt (fun q : Nat => s.heap.size ≤ q) b0 s) (hI : hx_IV T1 ax am L1 hl1) (hl : lv_has ls 4 [(3, .int i), (2, .ref am), (1, .ref ax), (0, .ref b)]) (kk : ∀ (L2 : List Nat) (h2 : hx_h) (H2 : Heap) (locs2 : List Loc) (ls2 : Array Slot), hx_W T_tb (P_ty dA) (dC, dI) vwCl (fun q : Nat => s.heap.size ≤ q) s.heap L2 h2 s H2 locs2 → hx_IV (T1 + 1) ax am L2 h2 → lv_has ls2 4 [(3, .int i), (2, .ref am), (1, .ref ax), (0, .ref b)] → W p l e room_1 s m #[Value.ref b] below meth c H2 locs2 (CC + 3) (SS + 179) (lw_Z below #[Value.ref b] s) (F0 m 1379 ls2 [])) : W p l e room_1 s m #[Value.ref b] below meth c H locs CC SS (lw_Z below #[Value.ref b] s) (F0 m 1208 ls []) := by
  obtain ⟨hT, gx, gm, ⟨he_nw, he_np, he_c0, ho_ln, ho_lsd, hn_qp, hn_qc, hk_of, hk_wf, hk_df, hk_kf, hk_sf, hkBD, hLQ, hLE, hc_dead, hc_isj, hc_fou, hc_tri, -⟩, ⟨ia, ip, ic, ih, il⟩, ⟨jw, jr, jp, jl, jh, jt, jf⟩⟩ := hI
  obtain ⟨qa, f_qa, g_qa⟩ := hx_rf hT gx tt_9 (k := 5) (u := 43) rfl
  have pf_qa := ia qa f_qa
  obtain ⟨qp, f_qp, g_qp⟩ := hx_rf hT gx tt_9 (k := 7) (u := 44) rfl
  have pf_qp := ip qp f_qp
  obtain ⟨qc, f_qc, g_qc⟩ := hx_rf hT gx tt_9 (k := 10) (u := 45) rfl
  have pf_qc := ic qc f_qc
  obtain ⟨qh, f_qh, g_qh⟩ := hx_rf hT gx tt_9 (k := 12) (u := 46) rfl
  have pf_qh := ih qh f_qh
  obtain ⟨qw, f_qw, g_qw⟩ := hx_rf hT gx tt_9 (k := 19) (u := 8) rfl
  obtain ⟨ql, f_ql, g_ql⟩ := hx_rf hT g_qw tt_8 (k := 3) (u := 40) rfl
  have pf_ql := il qw ql f_qw f_ql
  obtain ⟨nw, f_m_now⟩ : ∃ y : Int32, hl1.2.1 am 0 = y := ⟨_, rfl⟩
  have b_nw := hT.gi gm tt_10 (k := 0) rfl
  rw [f_m_now] at b_nw
  have b_nw : 0 ≤ nw.toInt ∧ nw.toInt ≤ 7999 := b_nw
  obtain ⟨np, f_m_persons⟩ : ∃ y : Int32, hl1.2.1 am 20 = y := ⟨_, rfl⟩
  have b_np := hT.gi gm tt_10 (k := 20) rfl
  rw [f_m_persons] at b_np
  have b_np : 0 ≤ np.toInt ∧ np.toInt ≤ 40 := b_np
  obtain ⟨c0, f_m_claims⟩ : ∃ y : Int32, hl1.2.1 am 36 = y := ⟨_, rfl⟩
  have b_c0 := hT.gi gm tt_10 (k := 36) rfl
  rw [f_m_claims] at b_c0
  have b_c0 : 0 ≤ c0.toInt ∧ c0.toInt ≤ 100 := b_c0
  obtain ⟨ln, f_m_lines⟩ : ∃ y : Int32, hl1.2.1 am 29 = y := ⟨_, rfl⟩
  have b_ln := hT.gi gm tt_10 (k := 29) rfl
  rw [f_m_lines] at b_ln
  have b_ln : 0 ≤ ln.toInt ∧ ln.toInt ≤ 400 := b_ln
  obtain ⟨lsd, f_m_listed⟩ : ∃ y : Int32, hl1.2.1 am 90 = y := ⟨_, rfl⟩
  have b_lsd := hT.gi gm tt_10 (k := 90) rfl
  rw [f_m_listed] at b_lsd
  have b_lsd : 0 ≤ lsd.toInt ∧ lsd.toInt ≤ 8 := b_lsd
  obtain ⟨a0, f_m_acts⟩ : ∃ y : Int32, hl1.2.1 am 1 = y := ⟨_, rfl⟩
  have b_a0 := hT.gi gm tt_10 (k := 1) rfl
  rw [f_m_acts] at b_a0
  have b_a0 : 0 ≤ a0.toInt ∧ a0.toInt ≤ 8 := b_a0
  obtain ⟨m0, f_m_heardMany⟩ : ∃ y : Int32, hl1.2.1 am 57 = y := ⟨_, rfl⟩
  have b_m0 := hT.gi gm tt_10 (k := 57) rfl
  rw [f_m_heardMany] at b_m0
  have b_m0 : 0 ≤ m0.toInt ∧ m0.toInt ≤ 100 := b_m0
  have f_x_now : hl1.2.1 ax 2 = nw := he_nw.trans f_m_now
  have f_x_personCount : hl1.2.1 ax 8 = np := he_np.trans f_m_persons
  have f_x_claimCount : hl1.2.1 ax 11 = c0 := he_c0.trans f_m_claims
  obtain ⟨mw, f_mw, g_mw⟩ := hx_rf hT gm tt_10 (k := 19) (u := 57) rfl
  obtain ⟨F_mw, n_mw⟩ : ∃ g : Nat → Int32, hl1.2.1 mw = g := ⟨_, rfl⟩
  obtain ⟨mr, f_mr, g_mr⟩ := hx_rf hT gm tt_10 (k := 3) (u := 50) rfl
  obtain ⟨F_mr, n_mr⟩ : ∃ g : Nat → Int32, hl1.2.1 mr = g := ⟨_, rfl⟩
  obtain ⟨mp, f_mp, g_mp⟩ := hx_rf hT gm tt_10 (k := 5) (u := 52) rfl
  obtain ⟨F_mp, n_mp⟩ : ∃ g : Nat → Int32, hl1.2.1 mp = g := ⟨_, rfl⟩
  obtain ⟨mn, f_mn, g_mn⟩ := hx_rf hT gm tt_10 (k := 4) (u := 51) rfl
  obtain ⟨F_mn, n_mn⟩ : ∃ g : Nat → Int32, hl1.2.1 mn = g := ⟨_, rfl⟩
  obtain ⟨ml, f_ml, g_ml⟩ := hx_rf hT gm tt_10 (k := 44) (u := 79) rfl
  obtain ⟨F_ml, n_ml⟩ : ∃ g : Nat → Int32, hl1.2.1 ml = g := ⟨_, rfl⟩
  obtain ⟨mh, f_mh, g_mh⟩ := hx_rf hT gm tt_10 (k := 47) (u := 82) rfl
  obtain ⟨F_mh, n_mh⟩ : ∃ g : Nat → Int32, hl1.2.1 mh = g := ⟨_, rfl⟩
  obtain ⟨mt, f_mt, g_mt⟩ := hx_rf hT gm tt_10 (k := 45) (u := 80) rfl
  obtain ⟨F_mt, n_mt⟩ : ∃ g : Nat → Int32, hl1.2.1 mt = g := ⟨_, rfl⟩
  obtain ⟨m_fou, f_m_fou, g_m_fou⟩ := hx_rf hT gm tt_10 (k := 46) (u := 81) rfl
  obtain ⟨F_m_fou, n_m_fou⟩ : ∃ g : Nat → Int32, hl1.2.1 m_fou = g := ⟨_, rfl⟩
  obtain ⟨qo_ln, f_qo_ln, g_qo_ln⟩ := hx_rf hT gx tt_9 (k := 9) (u := 1) rfl
  have f_o_ln : hl1.2.1 qo_ln 0 = ln := (ho_ln qo_ln f_qo_ln).trans f_m_lines
  have f_o_lsd : hl1.2.1 qw 0 = lsd := (ho_lsd qw f_qw).trans f_m_listed
  have nu_qp := hn_qp qp f_qp; rw [f_x_personCount] at nu_qp
  have nu_qc := hn_qc qc f_qc; rw [f_x_claimCount] at nu_qc
  obtain ⟨b_of, f_b_of, g_b_of⟩ := hx_rf hT g_qo_ln tt_1 (k := 1) (u := 13) rfl
  obtain ⟨B_of, n_b_of⟩ : ∃ g : Nat → Int32, hl1.2.1 b_of = g := ⟨_, rfl⟩
  obtain ⟨m_of, f_m_of, g_m_of⟩ := hx_rf hT gm tt_10 (k := 30) (u := 66) rfl
  obtain ⟨F_of, n_m_of⟩ : ∃ g : Nat → Int32, hl1.2.1 m_of = g := ⟨_, rfl⟩
  have eb_of := hk_of qo_ln b_of m_of f_qo_ln f_b_of f_m_of; rw [n_b_of, n_m_of, f_o_ln] at eb_of
  obtain ⟨b_wf, f_b_wf, g_b_wf⟩ := hx_rf hT g_qo_ln tt_1 (k := 2) (u := 14) rfl
  obtain ⟨B_wf, n_b_wf⟩ : ∃ g : Nat → Int32, hl1.2.1 b_wf = g := ⟨_, rfl⟩
  obtain ⟨m_wf, f_m_wf, g_m_wf⟩ := hx_rf hT gm tt_10 (k := 31) (u := 67) rfl
  obtain ⟨F_wf, n_m_wf⟩ : ∃ g : Nat → Int32, hl1.2.1 m_wf = g := ⟨_, rfl⟩
  have eb_wf := hk_wf qo_ln b_wf m_wf f_qo_ln f_b_wf f_m_wf; rw [n_b_wf, n_m_wf, f_o_ln] at eb_wf
  obtain ⟨b_df, f_b_df, g_b_df⟩ := hx_rf hT g_qo_ln tt_1 (k := 3) (u := 15) rfl
  obtain ⟨B_df, n_b_df⟩ : ∃ g : Nat → Int32, hl1.2.1 b_df = g := ⟨_, rfl⟩
  obtain ⟨m_df, f_m_df, g_m_df⟩ := hx_rf hT gm tt_10 (k := 32) (u := 68) rfl
  obtain ⟨F_df, n_m_df⟩ : ∃ g : Nat → Int32, hl1.2.1 m_df = g := ⟨_, rfl⟩
  have eb_df := hk_df qo_ln b_df m_df f_qo_ln f_b_df f_m_df; rw [n_b_df, n_m_df, f_o_ln] at eb_df
  obtain ⟨b_kf, f_b_kf, g_b_kf⟩ := hx_rf hT g_qo_ln tt_1 (k := 4) (u := 16) rfl
  obtain ⟨B_kf, n_b_kf⟩ : ∃ g : Nat → Int32, hl1.2.1 b_kf = g := ⟨_, rfl⟩
  obtain ⟨m_kf, f_m_kf, g_m_kf⟩ := hx_rf hT gm tt_10 (k := 33) (u := 69) rfl
  obtain ⟨F_kf, n_m_kf⟩ : ∃ g : Nat → Int32, hl1.2.1 m_kf = g := ⟨_, rfl⟩
  have eb_kf := hk_kf qo_ln b_kf m_kf f_qo_ln f_b_kf f_m_kf; rw [n_b_kf, n_m_kf, f_o_ln] at eb_kf
  obtain ⟨b_sf, f_b_sf, g_b_sf⟩ := hx_rf hT g_qo_ln tt_1 (k := 5) (u := 17) rfl
  obtain ⟨B_sf, n_b_sf⟩ : ∃ g : Nat → Int32, hl1.2.1 b_sf = g := ⟨_, rfl⟩
  obtain ⟨m_sf, f_m_sf, g_m_sf⟩ := hx_rf hT gm tt_10 (k := 34) (u := 70) rfl
  obtain ⟨F_sf, n_m_sf⟩ : ∃ g : Nat → Int32, hl1.2.1 m_sf = g := ⟨_, rfl⟩
  have eb_sf := hk_sf qo_ln b_sf m_sf f_qo_ln f_b_sf f_m_sf; rw [n_b_sf, n_m_sf, f_o_ln] at eb_sf
  obtain ⟨b_bf, f_b_bf, g_b_bf⟩ := hx_rf hT g_qo_ln tt_1 (k := 6) (u := 18) rfl
  obtain ⟨bfL, n_b_bf⟩ : ∃ g : Nat → Int32, hl1.2.1 b_bf = g := ⟨_, rfl⟩
  obtain ⟨hBD, hDY⟩ := hkBD qo_ln b_df b_bf f_qo_ln f_b_df f_b_bf; rw [n_b_df, n_b_bf, f_o_ln] at hBD; rw [n_b_df, f_o_ln] at hDY
  have hBDm := hy_BD_c eb_df hBD
  have hDYm : hy_DY F_df ln.toInt.toNat := fun x hx => by rw [← eb_df x hx]; exact hDY x hx
  have sb_list := hLQ qw ql qc f_qw f_ql f_qc
  obtain ⟨m_lst, f_m_lst, g_m_lst⟩ := hx_rf hT gm tt_10 (k := 91) (u := 112) rfl
  obtain ⟨F_lst, n_lst⟩ : ∃ g : Nat → Int32, hl1.2.1 m_lst = g := ⟨_, rfl⟩
  obtain ⟨c_lst, cl_lst⟩ : ∃ g : Nat → Int32, hx_col 8 hl1 ql 0 = g := ⟨_, rfl⟩
  have eq_lst := hLE qw ql m_lst f_qw f_ql f_m_lst; rw [cl_lst, n_lst] at eq_lst
  obtain ⟨c_dead, cl_dead⟩ : ∃ g : Nat → Int32, hx_col 40 hl1 qp 7 = g := ⟨_, rfl⟩
  obtain ⟨m_dead, f_m_dead, g_m_dead⟩ := hx_rf hT gm tt_10 (k := 27) (u := 64) rfl
  obtain ⟨F_dead, n_dead⟩ : ∃ g : Nat → Int32, hl1.2.1 m_dead = g := ⟨_, rfl⟩
  have eq_dead := hc_dead qp m_dead f_qp f_m_dead; rw [cl_dead, n_dead] at eq_dead
  have z_dead : np.toInt.toNat < 40 → c_dead np.toInt.toNat = 0 := fun hj => hx_num_z nu_qp cl_dead hj (by omega)
  obtain ⟨c_isj, cl_isj⟩ : ∃ g : Nat → Int32, hx_col 40 hl1 qp 8 = g := ⟨_, rfl⟩
  obtain ⟨m_isj, f_m_isj, g_m_isj⟩ := hx_rf hT gm tt_10 (k := 28) (u := 65) rfl
  obtain ⟨F_isj, n_isj⟩ : ∃ g : Nat → Int32, hl1.2.1 m_isj = g := ⟨_, rfl⟩
  have eq_isj := hc_isj qp m_isj f_qp f_m_isj; rw [cl_isj, n_isj] at eq_isj
  have z_isj : np.toInt.toNat < 40 → c_isj np.toInt.toNat = 0 := fun hj => hx_num_z nu_qp cl_isj hj (by omega)
  obtain ⟨c_fou, cl_fou⟩ : ∃ g : Nat → Int32, hx_col 100 hl1 qc 10 = g := ⟨_, rfl⟩
  have eq_fou := hc_fou qc m_fou f_qc f_m_fou; rw [cl_fou, n_m_fou] at eq_fou
  have z_fou : c0.toInt.toNat < 100 → c_fou c0.toInt.toNat = 0 := fun hj => hx_num_z nu_qc cl_fou hj (by omega)
  obtain ⟨c_tri, cl_tri⟩ : ∃ g : Nat → Int32, hx_col 100 hl1 qc 9 = g := ⟨_, rfl⟩
  have eq_tri := hc_tri qc mt f_qc f_mt; rw [cl_tri, n_mt] at eq_tri
  have z_tri : c0.toInt.toNat < 100 → c_tri c0.toInt.toNat = 0 := fun hj => hx_num_z nu_qc cl_tri hj (by omega)
  have hwd := jw mw f_mw; rw [n_mw] at hwd
  have hWK := jr mr f_mr; rw [n_mr, f_m_acts] at hWK
  have hRP := jp mp mn f_mp f_mn; rw [n_mp, n_mn, f_m_acts] at hRP
  have hPL := jl ml f_ml; rw [n_ml, f_m_claims, f_m_acts] at hPL
  have hHC := jh mh f_mh; rw [n_mh, f_m_heardMany, f_m_claims] at hHC
  have hTR := jt mt f_mt; rw [n_mt] at hTR
  have hHF := jf mh m_fou f_mh f_m_fou; rw [n_mh, n_m_fou, f_m_claims] at hHF
  refine lv_aload_n hx hb dL_law_1208 rfl (lv_at hl 2 rfl) ?_
  refine lv_aload_n hx hb dL_law_1209 rfl (lv_at hl 3 rfl) ?_
  refine lv_iload_n hx hb dL_law_1210 rfl (lv_at hl 0 rfl) ?_
  refine lv_iconst (v := 1) hx hb dL_law_1211 (by decide) ?_
  refine lv_iadd hx hb dL_law_1212 ?_
  have rg_629 := i32_r i
  refine lv_topi (fun x_630 ex_630 => ?_)
  have zx_630 : x_630.toInt = i.toInt + 1 := by rw [ex_630]; exact i32_add rfl (by decide) (by omega) (by omega)
  refine va_sld hx hb hX hbl hbA hW.2.2.2.1 (vp_in_iff.mpr ⟨by omega, by omega⟩) dL_law_1213 ?_
  refine lv_topi (fun x_631 ex_631 => ?_)
  have hTo := hT
  refine hx_goi (hx_runV (As := [.int x_631]) (rest := []) ⟨hx, hb, hml, hown, hts⟩ hW gx tt_9 (T := TX9) (N := 20) rfl (t_X9_netted l dC dI dA L1 hl1 H.size ax x_631 hT gx) (cwV 1 hts (hx_gV kw_1035 kw_1032 kw_1033 kw_1034 kw_94) rfl rfl rfl (by decide +kernel) ⟨Nat.le_of_ble_eq_true rfl, Nat.le_of_ble_eq_true rfl⟩) rfl hl.1 rfl (Nat.le_of_ble_eq_true rfl) dL_law_1214 ⟨(show CC + 0 ≤ 600000 from by omega), (show SS + 0 ≤ 7302250 from by omega)⟩) hW (fun r_634 L_632 h_633 H locs p_635 hW => ?_)
  obtain ⟨hr_636, hT, hs⟩ := p_635
  have hT : hx_T T_tb L_632 h_633 := hT
  have hs : hx_S T_tb [] L1 hl1 L_632 h_633 := hs
  have f_qa := (hs.o gx trivial rfl).2.trans f_qa
  have f_qp := (hs.o gx trivial rfl).2.trans f_qp
  have f_qc := (hs.o gx trivial rfl).2.trans f_qc
  have f_qh := (hs.o gx trivial rfl).2.trans f_qh
  have f_qw := (hs.o gx trivial rfl).2.trans f_qw
  have f_ql := (hs.o g_qw trivial rfl).2.trans f_ql
  have f_m_now := (hs.o gm trivial rfl).1.trans f_m_now
  have f_m_persons := (hs.o gm trivial rfl).1.trans f_m_persons
  have f_m_claims := (hs.o gm trivial rfl).1.trans f_m_claims
  have f_m_lines := (hs.o gm trivial rfl).1.trans f_m_lines
  have f_m_listed := (hs.o gm trivial rfl).1.trans f_m_listed
  have f_m_acts := (hs.o gm trivial rfl).1.trans f_m_acts
  have f_m_heardMany := (hs.o gm trivial rfl).1.trans f_m_heardMany
  have f_x_now := (hs.o gx trivial rfl).1.trans f_x_now
  have f_x_personCount := (hs.o gx trivial rfl).1.trans f_x_personCount
  have f_x_claimCount := (hs.o gx trivial rfl).1.trans f_x_claimCount
  have f_mw := (hs.o gm trivial rfl).2.trans f_mw
  have f_mr := (hs.o gm trivial rfl).2.trans f_mr
  have f_mp := (hs.o gm trivial rfl).2.trans f_mp
  have f_mn := (hs.o gm trivial rfl).2.trans f_mn
  have f_ml := (hs.o gm trivial rfl).2.trans f_ml
  have f_mh := (hs.o gm trivial rfl).2.trans f_mh
  have f_mt := (hs.o gm trivial rfl).2.trans f_mt
  have f_m_fou := (hs.o gm trivial rfl).2.trans f_m_fou
  have f_qo_ln := (hs.o gx trivial rfl).2.trans f_qo_ln
  have f_o_ln := (hs.o g_qo_ln trivial rfl).1.trans f_o_ln
  have f_o_lsd := (hs.o g_qw trivial rfl).1.trans f_o_lsd
  have f_b_of := (hs.o g_qo_ln trivial rfl).2.trans f_b_of
  have f_m_of := (hs.o gm trivial rfl).2.trans f_m_of
  have f_b_wf := (hs.o g_qo_ln trivial rfl).2.trans f_b_wf
  have f_m_wf := (hs.o gm trivial rfl).2.trans f_m_wf
  have f_b_df := (hs.o g_qo_ln trivial rfl).2.trans f_b_df
  have f_m_df := (hs.o gm trivial rfl).2.trans f_m_df
  have f_b_kf := (hs.o g_qo_ln trivial rfl).2.trans f_b_kf
  have f_m_kf := (hs.o gm trivial rfl).2.trans f_m_kf
  have f_b_sf := (hs.o g_qo_ln trivial rfl).2.trans f_b_sf
  have f_m_sf := (hs.o gm trivial rfl).2.trans f_m_sf
  have f_b_bf := (hs.o g_qo_ln trivial rfl).2.trans f_b_bf
  have f_m_lst := (hs.o gm trivial rfl).2.trans f_m_lst
  have f_m_dead := (hs.o gm trivial rfl).2.trans f_m_dead
  have f_m_isj := (hs.o gm trivial rfl).2.trans f_m_isj
  have pf_qa : ∀ j : Nat, (j : Int) < (h_633.2.1 ax 6).toInt → h_633.2.2 qa j ≠ none := by
    intro j hj; rw [(hs.o gx trivial rfl).1] at hj; rw [(hs.a g_qa rfl j).2]; exact pf_qa j hj
  have pf_qp : ∀ j : Nat, (j : Int) < (h_633.2.1 ax 8).toInt → h_633.2.2 qp j ≠ none := by
    intro j hj; rw [(hs.o gx trivial rfl).1] at hj; rw [(hs.a g_qp rfl j).2]; exact pf_qp j hj
  have pf_qc : ∀ j : Nat, (j : Int) < (h_633.2.1 ax 11).toInt → h_633.2.2 qc j ≠ none := by
    intro j hj; rw [(hs.o gx trivial rfl).1] at hj; rw [(hs.a g_qc rfl j).2]; exact pf_qc j hj
  have pf_qh : ∀ j : Nat, (j : Int) < (h_633.2.1 ax 13).toInt → h_633.2.2 qh j ≠ none := by
    intro j hj; rw [(hs.o gx trivial rfl).1] at hj; rw [(hs.a g_qh rfl j).2]; exact pf_qh j hj
  have pf_ql : ∀ j : Nat, (j : Int) < (h_633.2.1 qw 0).toInt → h_633.2.2 ql j ≠ none := by
    intro j hj; rw [(hs.o g_qw trivial rfl).1] at hj; rw [(hs.a g_ql rfl j).2]; exact pf_ql j hj
  have cl_lst : hx_col 8 h_633 ql 0 = c_lst := (hx_col_S hs hTo g_ql tt_40 tt_2 rfl rfl).trans cl_lst
  have cl_dead : hx_col 40 h_633 qp 7 = c_dead := (hx_col_S hs hTo g_qp tt_44 tt_4 rfl rfl).trans cl_dead
  have cl_isj : hx_col 40 h_633 qp 8 = c_isj := (hx_col_S hs hTo g_qp tt_44 tt_4 rfl rfl).trans cl_isj
  have cl_fou : hx_col 100 h_633 qc 10 = c_fou := (hx_col_S hs hTo g_qc tt_45 tt_2 rfl rfl).trans cl_fou
  have cl_tri : hx_col 100 h_633 qc 9 = c_tri := (hx_col_S hs hTo g_qc tt_45 tt_2 rfl rfl).trans cl_tri
  have nu_qp : hx_num 40 h_633 qp 0 (np.toInt) := hx_num_S hs hTo g_qp tt_44 tt_4 rfl rfl nu_qp
  have nu_qc : hx_num 100 h_633 qc 0 (c0.toInt) := hx_num_S hs hTo g_qc tt_45 tt_2 rfl rfl nu_qc
  have sb_list : hx_LQ 8 100 h_633 ql qc := hx_LQ_S hs g_ql g_qc rfl rfl sb_list
  have n_mw : h_633.2.1 mw = F_mw := (funext fun j => (hs.a g_mw rfl j).1).trans n_mw
  have n_mr : h_633.2.1 mr = F_mr := (funext fun j => (hs.a g_mr rfl j).1).trans n_mr
  have n_mp : h_633.2.1 mp = F_mp := (funext fun j => (hs.a g_mp rfl j).1).trans n_mp
  have n_mn : h_633.2.1 mn = F_mn := (funext fun j => (hs.a g_mn rfl j).1).trans n_mn
  have n_ml : h_633.2.1 ml = F_ml := (funext fun j => (hs.a g_ml rfl j).1).trans n_ml
  have n_mh : h_633.2.1 mh = F_mh := (funext fun j => (hs.a g_mh rfl j).1).trans n_mh
  have n_mt : h_633.2.1 mt = F_mt := (funext fun j => (hs.a g_mt rfl j).1).trans n_mt
  have n_m_fou : h_633.2.1 m_fou = F_m_fou := (funext fun j => (hs.a g_m_fou rfl j).1).trans n_m_fou
  have n_b_of : h_633.2.1 b_of = B_of := (funext fun j => (hs.a g_b_of rfl j).1).trans n_b_of
  have n_m_of : h_633.2.1 m_of = F_of := (funext fun j => (hs.a g_m_of rfl j).1).trans n_m_of
  have n_b_wf : h_633.2.1 b_wf = B_wf := (funext fun j => (hs.a g_b_wf rfl j).1).trans n_b_wf
  have n_m_wf : h_633.2.1 m_wf = F_wf := (funext fun j => (hs.a g_m_wf rfl j).1).trans n_m_wf
  have n_b_df : h_633.2.1 b_df = B_df := (funext fun j => (hs.a g_b_df rfl j).1).trans n_b_df
  have n_m_df : h_633.2.1 m_df = F_df := (funext fun j => (hs.a g_m_df rfl j).1).trans n_m_df
  have n_b_kf : h_633.2.1 b_kf = B_kf := (funext fun j => (hs.a g_b_kf rfl j).1).trans n_b_kf
  have n_m_kf : h_633.2.1 m_kf = F_kf := (funext fun j => (hs.a g_m_kf rfl j).1).trans n_m_kf
  have n_b_sf : h_633.2.1 b_sf = B_sf := (funext fun j => (hs.a g_b_sf rfl j).1).trans n_b_sf
  have n_m_sf : h_633.2.1 m_sf = F_sf := (funext fun j => (hs.a g_m_sf rfl j).1).trans n_m_sf
  have n_b_bf : h_633.2.1 b_bf = bfL := (funext fun j => (hs.a g_b_bf rfl j).1).trans n_b_bf
  have n_lst : h_633.2.1 m_lst = F_lst := (funext fun j => (hs.a g_m_lst rfl j).1).trans n_lst
  have n_dead : h_633.2.1 m_dead = F_dead := (funext fun j => (hs.a g_m_dead rfl j).1).trans n_dead
  have n_isj : h_633.2.1 m_isj = F_isj := (funext fun j => (hs.a g_m_isj rfl j).1).trans n_isj
  have gx := gx.S hs
  have gm := gm.S hs
  have g_qa := g_qa.S hs
  have g_qp := g_qp.S hs
  have g_qc := g_qc.S hs
  have g_qh := g_qh.S hs
  have g_qw := g_qw.S hs
  have g_ql := g_ql.S hs
  have g_mw := g_mw.S hs
  have g_mr := g_mr.S hs
  have g_mp := g_mp.S hs
  have g_mn := g_mn.S hs
  have g_ml := g_ml.S hs
  have g_mh := g_mh.S hs
  have g_mt := g_mt.S hs
  have g_m_fou := g_m_fou.S hs
  have g_qo_ln := g_qo_ln.S hs
  have g_b_of := g_b_of.S hs
  have g_m_of := g_m_of.S hs
  have g_b_wf := g_b_wf.S hs
  have g_m_wf := g_m_wf.S hs
  have g_b_df := g_b_df.S hs
  have g_m_df := g_m_df.S hs
  have g_b_kf := g_b_kf.S hs
  have g_m_kf := g_m_kf.S hs
  have g_b_sf := g_b_sf.S hs
  have g_m_sf := g_m_sf.S hs
  have g_b_bf := g_b_bf.S hs
  have g_m_lst := g_m_lst.S hs
  have g_m_dead := g_m_dead.S hs
  have g_m_isj := g_m_isj.S hs
  refine lv_pop hx hb dL_law_1217 rfl ?_
  refine lv_aload_n hx hb dL_law_1218 rfl (lv_at hl 1 rfl) ?_
  refine lv_aload_n hx hb dL_law_1219 rfl (lv_at hl 3 rfl) ?_
  refine lv_iload_n hx hb dL_law_1220 rfl (lv_at hl 0 rfl) ?_
  refine lv_iconst (v := 1) hx hb dL_law_1221 (by decide) ?_
  refine lv_iadd hx hb dL_law_1222 ?_
  refine lv_topi (fun x_637 ex_637 => ?_)
  have zx_637 : x_637.toInt = i.toInt + 1 := by rw [ex_637]; exact i32_add rfl (by decide) (by omega) (by omega)
  obtain rfl : x_630 = x_637 := ex_630.trans ex_637.symm
  refine va_sld hx hb hX hbl hbA hW.2.2.2.1 (vp_in_iff.mpr ⟨by omega, by omega⟩) dL_law_1223 ?_
  refine lv_topi (fun x_638 ex_638 => ?_)
  obtain rfl : x_631 = x_638 := ex_631.trans ex_638.symm
  have hTo := hT
  refine hx_goi (hx_runV (As := [.int x_631]) (rest := []) ⟨hx, hb, hml, hown, hts⟩ hW gm tt_10 (T := TX10) (N := 98) rfl (t_X10_netted l dC dI dA L_632 h_633 H.size am x_631 hT gm) (cwV 1 hts (hx_gV kw_1713 kw_1710 kw_1711 kw_1712 kw_103) rfl rfl rfl (by decide +kernel) ⟨Nat.le_of_ble_eq_true rfl, Nat.le_of_ble_eq_true rfl⟩) rfl hl.1 rfl (Nat.le_of_ble_eq_true rfl) dL_law_1224 ⟨(show CC + 0 + 0 ≤ 600000 from by omega), (show SS + 0 + 0 ≤ 7302250 from by omega)⟩) hW (fun r_641 L_639 h_640 H locs p_642 hW => ?_)
  obtain ⟨hr_643, hT, hs⟩ := p_642
  have hT : hx_T T_tb L_639 h_640 := hT
  have hs : hx_S T_tb [] L_632 h_633 L_639 h_640 := hs
  have f_qa := (hs.o gx trivial rfl).2.trans f_qa
  have f_qp := (hs.o gx trivial rfl).2.trans f_qp
  have f_qc := (hs.o gx trivial rfl).2.trans f_qc
  have f_qh := (hs.o gx trivial rfl).2.trans f_qh
  have f_qw := (hs.o gx trivial rfl).2.trans f_qw
  have f_ql := (hs.o g_qw trivial rfl).2.trans f_ql
  have f_m_now := (hs.o gm trivial rfl).1.trans f_m_now
  have f_m_persons := (hs.o gm trivial rfl).1.trans f_m_persons
  have f_m_claims := (hs.o gm trivial rfl).1.trans f_m_claims
  have f_m_lines := (hs.o gm trivial rfl).1.trans f_m_lines
  have f_m_listed := (hs.o gm trivial rfl).1.trans f_m_listed
  have f_m_acts := (hs.o gm trivial rfl).1.trans f_m_acts
  have f_m_heardMany := (hs.o gm trivial rfl).1.trans f_m_heardMany
  have f_x_now := (hs.o gx trivial rfl).1.trans f_x_now
  have f_x_personCount := (hs.o gx trivial rfl).1.trans f_x_personCount
  have f_x_claimCount := (hs.o gx trivial rfl).1.trans f_x_claimCount
  have f_mw := (hs.o gm trivial rfl).2.trans f_mw
  have f_mr := (hs.o gm trivial rfl).2.trans f_mr
  have f_mp := (hs.o gm trivial rfl).2.trans f_mp
  have f_mn := (hs.o gm trivial rfl).2.trans f_mn
  have f_ml := (hs.o gm trivial rfl).2.trans f_ml
  have f_mh := (hs.o gm trivial rfl).2.trans f_mh
  have f_mt := (hs.o gm trivial rfl).2.trans f_mt
  have f_m_fou := (hs.o gm trivial rfl).2.trans f_m_fou
  have f_qo_ln := (hs.o gx trivial rfl).2.trans f_qo_ln
  have f_o_ln := (hs.o g_qo_ln trivial rfl).1.trans f_o_ln
  have f_o_lsd := (hs.o g_qw trivial rfl).1.trans f_o_lsd
  have f_b_of := (hs.o g_qo_ln trivial rfl).2.trans f_b_of
  have f_m_of := (hs.o gm trivial rfl).2.trans f_m_of
  have f_b_wf := (hs.o g_qo_ln trivial rfl).2.trans f_b_wf
  have f_m_wf := (hs.o gm trivial rfl).2.trans f_m_wf
  have f_b_df := (hs.o g_qo_ln trivial rfl).2.trans f_b_df
  have f_m_df := (hs.o gm trivial rfl).2.trans f_m_df
  have f_b_kf := (hs.o g_qo_ln trivial rfl).2.trans f_b_kf
  have f_m_kf := (hs.o gm trivial rfl).2.trans f_m_kf
  have f_b_sf := (hs.o g_qo_ln trivial rfl).2.trans f_b_sf
  have f_m_sf := (hs.o gm trivial rfl).2.trans f_m_sf
  have f_b_bf := (hs.o g_qo_ln trivial rfl).2.trans f_b_bf
  have f_m_lst := (hs.o gm trivial rfl).2.trans f_m_lst
  have f_m_dead := (hs.o gm trivial rfl).2.trans f_m_dead
  have f_m_isj := (hs.o gm trivial rfl).2.trans f_m_isj
  have pf_qa : ∀ j : Nat, (j : Int) < (h_640.2.1 ax 6).toInt → h_640.2.2 qa j ≠ none := by
    intro j hj; rw [(hs.o gx trivial rfl).1] at hj; rw [(hs.a g_qa rfl j).2]; exact pf_qa j hj
  have pf_qp : ∀ j : Nat, (j : Int) < (h_640.2.1 ax 8).toInt → h_640.2.2 qp j ≠ none := by
    intro j hj; rw [(hs.o gx trivial rfl).1] at hj; rw [(hs.a g_qp rfl j).2]; exact pf_qp j hj
  have pf_qc : ∀ j : Nat, (j : Int) < (h_640.2.1 ax 11).toInt → h_640.2.2 qc j ≠ none := by
    intro j hj; rw [(hs.o gx trivial rfl).1] at hj; rw [(hs.a g_qc rfl j).2]; exact pf_qc j hj
  have pf_qh : ∀ j : Nat, (j : Int) < (h_640.2.1 ax 13).toInt → h_640.2.2 qh j ≠ none := by
    intro j hj; rw [(hs.o gx trivial rfl).1] at hj; rw [(hs.a g_qh rfl j).2]; exact pf_qh j hj
  have pf_ql : ∀ j : Nat, (j : Int) < (h_640.2.1 qw 0).toInt → h_640.2.2 ql j ≠ none := by
    intro j hj; rw [(hs.o g_qw trivial rfl).1] at hj; rw [(hs.a g_ql rfl j).2]; exact pf_ql j hj
  have cl_lst : hx_col 8 h_640 ql 0 = c_lst := (hx_col_S hs hTo g_ql tt_40 tt_2 rfl rfl).trans cl_lst
  have cl_dead : hx_col 40 h_640 qp 7 = c_dead := (hx_col_S hs hTo g_qp tt_44 tt_4 rfl rfl).trans cl_dead
  have cl_isj : hx_col 40 h_640 qp 8 = c_isj := (hx_col_S hs hTo g_qp tt_44 tt_4 rfl rfl).trans cl_isj
  have cl_fou : hx_col 100 h_640 qc 10 = c_fou := (hx_col_S hs hTo g_qc tt_45 tt_2 rfl rfl).trans cl_fou
  have cl_tri : hx_col 100 h_640 qc 9 = c_tri := (hx_col_S hs hTo g_qc tt_45 tt_2 rfl rfl).trans cl_tri
  have nu_qp : hx_num 40 h_640 qp 0 (np.toInt) := hx_num_S hs hTo g_qp tt_44 tt_4 rfl rfl nu_qp
  have nu_qc : hx_num 100 h_640 qc 0 (c0.toInt) := hx_num_S hs hTo g_qc tt_45 tt_2 rfl rfl nu_qc
  have sb_list : hx_LQ 8 100 h_640 ql qc := hx_LQ_S hs g_ql g_qc rfl rfl sb_list
  have n_mw : h_640.2.1 mw = F_mw := (funext fun j => (hs.a g_mw rfl j).1).trans n_mw
  have n_mr : h_640.2.1 mr = F_mr := (funext fun j => (hs.a g_mr rfl j).1).trans n_mr
  have n_mp : h_640.2.1 mp = F_mp := (funext fun j => (hs.a g_mp rfl j).1).trans n_mp
  have n_mn : h_640.2.1 mn = F_mn := (funext fun j => (hs.a g_mn rfl j).1).trans n_mn
  have n_ml : h_640.2.1 ml = F_ml := (funext fun j => (hs.a g_ml rfl j).1).trans n_ml
  have n_mh : h_640.2.1 mh = F_mh := (funext fun j => (hs.a g_mh rfl j).1).trans n_mh
  have n_mt : h_640.2.1 mt = F_mt := (funext fun j => (hs.a g_mt rfl j).1).trans n_mt
  have n_m_fou : h_640.2.1 m_fou = F_m_fou := (funext fun j => (hs.a g_m_fou rfl j).1).trans n_m_fou
  have n_b_of : h_640.2.1 b_of = B_of := (funext fun j => (hs.a g_b_of rfl j).1).trans n_b_of
  have n_m_of : h_640.2.1 m_of = F_of := (funext fun j => (hs.a g_m_of rfl j).1).trans n_m_of
  have n_b_wf : h_640.2.1 b_wf = B_wf := (funext fun j => (hs.a g_b_wf rfl j).1).trans n_b_wf
  have n_m_wf : h_640.2.1 m_wf = F_wf := (funext fun j => (hs.a g_m_wf rfl j).1).trans n_m_wf
  have n_b_df : h_640.2.1 b_df = B_df := (funext fun j => (hs.a g_b_df rfl j).1).trans n_b_df
  have n_m_df : h_640.2.1 m_df = F_df := (funext fun j => (hs.a g_m_df rfl j).1).trans n_m_df
  have n_b_kf : h_640.2.1 b_kf = B_kf := (funext fun j => (hs.a g_b_kf rfl j).1).trans n_b_kf
  have n_m_kf : h_640.2.1 m_kf = F_kf := (funext fun j => (hs.a g_m_kf rfl j).1).trans n_m_kf
  have n_b_sf : h_640.2.1 b_sf = B_sf := (funext fun j => (hs.a g_b_sf rfl j).1).trans n_b_sf
  have n_m_sf : h_640.2.1 m_sf = F_sf := (funext fun j => (hs.a g_m_sf rfl j).1).trans n_m_sf
  have n_b_bf : h_640.2.1 b_bf = bfL := (funext fun j => (hs.a g_b_bf rfl j).1).trans n_b_bf
  have n_lst : h_640.2.1 m_lst = F_lst := (funext fun j => (hs.a g_m_lst rfl j).1).trans n_lst
  have n_dead : h_640.2.1 m_dead = F_dead := (funext fun j => (hs.a g_m_dead rfl j).1).trans n_dead
  have n_isj : h_640.2.1 m_isj = F_isj := (funext fun j => (hs.a g_m_isj rfl j).1).trans n_isj
  have gx := gx.S hs
  have gm := gm.S hs
  have g_qa := g_qa.S hs
  have g_qp := g_qp.S hs
  have g_qc := g_qc.S hs
  have g_qh := g_qh.S hs
  have g_qw := g_qw.S hs
  have g_ql := g_ql.S hs
  have g_mw := g_mw.S hs
  have g_mr := g_mr.S hs
  have g_mp := g_mp.S hs
  have g_mn := g_mn.S hs
  have g_ml := g_ml.S hs
  have g_mh := g_mh.S hs
  have g_mt := g_mt.S hs
  have g_m_fou := g_m_fou.S hs
  have g_qo_ln := g_qo_ln.S hs
  have g_b_of := g_b_of.S hs
  have g_m_of := g_m_of.S hs
  have g_b_wf := g_b_wf.S hs
  have g_m_wf := g_m_wf.S hs
  have g_b_df := g_b_df.S hs
  have g_m_df := g_m_df.S hs
  have g_b_kf := g_b_kf.S hs
  have g_m_kf := g_m_kf.S hs
  have g_b_sf := g_b_sf.S hs
  have g_m_sf := g_m_sf.S hs
  have g_b_bf := g_b_bf.S hs
  have g_m_lst := g_m_lst.S hs
  have g_m_dead := g_m_dead.S hs
  have g_m_isj := g_m_isj.S hs
  refine lv_pop hx hb dL_law_1227 rfl ?_
  refine lv_goto (tgt := 1379) hx hb dL_law_1228 (by decide) ?_
  refine W.widen (k := CC + 3) (n := SS + 179) (by omega) (by omega) ?_
  exact kk L_639 h_640 H locs ls hW ⟨hT, gx, gm, ⟨f_x_now.trans f_m_now.symm, f_x_personCount.trans f_m_persons.symm, f_x_claimCount.trans f_m_claims.symm, hx_ob f_qo_ln (f_o_ln.trans f_m_lines.symm), hx_ob f_qw (f_o_lsd.trans f_m_listed.symm), hx_ob f_qp (by rw [f_x_personCount]; exact nu_qp), hx_ob f_qc (by rw [f_x_claimCount]; exact nu_qc), (fun b a r hb ha hr => by obtain rfl : qo_ln = b := Option.some.inj (f_qo_ln.symm.trans hb); obtain rfl : b_of = a := Option.some.inj (f_b_of.symm.trans ha); obtain rfl : m_of = r := Option.some.inj (f_m_of.symm.trans hr); rw [n_b_of, n_m_of, f_o_ln]; exact eb_of), (fun b a r hb ha hr => by obtain rfl : qo_ln = b := Option.some.inj (f_qo_ln.symm.trans hb); obtain rfl : b_wf = a := Option.some.inj (f_b_wf.symm.trans ha); obtain rfl : m_wf = r := Option.some.inj (f_m_wf.symm.trans hr); rw [n_b_wf, n_m_wf, f_o_ln]; exact eb_wf), (fun b a r hb ha hr => by obtain rfl : qo_ln = b := Option.some.inj (f_qo_ln.symm.trans hb); obtain rfl : b_df = a := Option.some.inj (f_b_df.symm.trans ha); obtain rfl : m_df = r := Option.some.inj (f_m_df.symm.trans hr); rw [n_b_df, n_m_df, f_o_ln]; exact eb_df), (fun b a r hb ha hr => by obtain rfl : qo_ln = b := Option.some.inj (f_qo_ln.symm.trans hb); obtain rfl : b_kf = a := Option.some.inj (f_b_kf.symm.trans ha); obtain rfl : m_kf = r := Option.some.inj (f_m_kf.symm.trans hr); rw [n_b_kf, n_m_kf, f_o_ln]; exact eb_kf), (fun b a r hb ha hr => by obtain rfl : qo_ln = b := Option.some.inj (f_qo_ln.symm.trans hb); obtain rfl : b_sf = a := Option.some.inj (f_b_sf.symm.trans ha); obtain rfl : m_sf = r := Option.some.inj (f_m_sf.symm.trans hr); rw [n_b_sf, n_m_sf, f_o_ln]; exact eb_sf), (fun b a r hb ha hr => by obtain rfl : qo_ln = b := Option.some.inj (f_qo_ln.symm.trans hb); obtain rfl : b_df = a := Option.some.inj (f_b_df.symm.trans ha); obtain rfl : b_bf = r := Option.some.inj (f_b_bf.symm.trans hr); rw [n_b_df, n_b_bf, f_o_ln]; exact ⟨hBD, hDY⟩), (fun w q c hw hq hc => by obtain rfl : qw = w := Option.some.inj (f_qw.symm.trans hw); obtain rfl : ql = q := Option.some.inj (f_ql.symm.trans hq); obtain rfl : qc = c := Option.some.inj (f_qc.symm.trans hc); exact sb_list), (fun w q r hw hq hr => by obtain rfl : qw = w := Option.some.inj (f_qw.symm.trans hw); obtain rfl : ql = q := Option.some.inj (f_ql.symm.trans hq); obtain rfl : m_lst = r := Option.some.inj (f_m_lst.symm.trans hr); rw [cl_lst, n_lst]; exact eq_lst), hx_ob2 f_qp f_m_dead (by rw [cl_dead, n_dead]; exact eq_dead), hx_ob2 f_qp f_m_isj (by rw [cl_isj, n_isj]; exact eq_isj), hx_ob2 f_qc f_m_fou (by rw [cl_fou, n_m_fou]; exact eq_fou), hx_ob2 f_qc f_mt (by rw [cl_tri, n_mt]; exact eq_tri), trivial⟩, ⟨hx_ob f_qa pf_qa, hx_ob f_qp pf_qp, hx_ob f_qc pf_qc, hx_ob f_qh pf_qh, (fun w q hw hq => by obtain rfl : qw = w := Option.some.inj (f_qw.symm.trans hw); obtain rfl : ql = q := Option.some.inj (f_ql.symm.trans hq); exact pf_ql)⟩, ⟨hx_ob f_mw (by rw [n_mw]; exact hwd), hx_ob f_mr (by rw [n_mr, f_m_acts]; exact hWK), hx_ob2 f_mp f_mn (by rw [n_mp, n_mn, f_m_acts]; exact hRP), hx_ob f_ml (by rw [n_ml, f_m_claims, f_m_acts]; exact hPL), hx_ob f_mh (by rw [n_mh, f_m_heardMany, f_m_claims]; exact hHC), hx_ob f_mt (by rw [n_mt]; exact (hx_TR_le hTR (by omega))), hx_ob2 f_mh f_m_fou (by rw [n_mh, n_m_fou, f_m_claims]; exact hHF)⟩⟩ hl

set_option maxHeartbeats 4000000 in
set_option maxRecDepth 100000 in
theorem law_case_25 {p : Program} {e : Env} {s : State} {m : MethodId} {below : List Frame} {meth : Method} {c : Code} (l : Launch) {b LN : Nat} {xs : Nat → Int32} (hx : p.tables.exec = Jvm.exec) (hb : c.code = code) (hr : meth.sig.returnType = ret) (hlocks : meth.locks = false) (hml : c.maxLocals = 4) (hown : s.vm.findClass "SmallCourtLaw" = some m.cls) (hts : ∀ w ∈ hx_all, w.before #[Value.ref b] s = true) (hX : va_X b LN xs s s.heap) (hbl : b < s.heap.size) (hbA : ¬ s.heap.size ≤ b) (hLN : LN ≤ 3584) (dC : Nat → ClassId) (dI : Nat → Nat → Nat) (dA : Nat → ClassId) (b0 : hx_z) (ax am : Nat) (T1 : Int) (hT0 : 0 ≤ T1) (hT1 : T1 ≤ 511) (i : Int32) (hi0 : 0 ≤ i.toInt) (hiL : i.toInt + 7 ≤ LN) (CC SS : Nat) (hCC : CC + 3 ≤ 600000) (hSS : SS + 179 ≤ 7302250) (L1 : List Nat) (hl1 : hx_h) (H : Heap) (locs : List Loc) (ls : Array Slot) (hW : hx_W T_tb (P_ty dA) (dC, dI) vwCl (fun q : Nat => s.heap.size ≤ q) s.heap L1 hl1 s H locs) (hZ : hx_Xt (fun q : Nat => s.heap.size ≤ q) b0 s) (hI : hx_IV T1 ax am L1 hl1) (hl : lv_has ls 4 [(3, .int i), (2, .ref am), (1, .ref ax), (0, .ref b)]) (kk : ∀ (L2 : List Nat) (h2 : hx_h) (H2 : Heap) (locs2 : List Loc) (ls2 : Array Slot), hx_W T_tb (P_ty dA) (dC, dI) vwCl (fun q : Nat => s.heap.size ≤ q) s.heap L2 h2 s H2 locs2 → hx_IV (T1 + 1) ax am L2 h2 → lv_has ls2 4 [(3, .int i), (2, .ref am), (1, .ref ax), (0, .ref b)] → W p l e room_1 s m #[Value.ref b] below meth c H2 locs2 (CC + 3) (SS + 179) (lw_Z below #[Value.ref b] s) (F0 m 1379 ls2 [])) : W p l e room_1 s m #[Value.ref b] below meth c H locs CC SS (lw_Z below #[Value.ref b] s) (F0 m 1231 ls []) := by
  obtain ⟨hT, gx, gm, ⟨he_nw, he_np, he_c0, ho_ln, ho_lsd, hn_qp, hn_qc, hk_of, hk_wf, hk_df, hk_kf, hk_sf, hkBD, hLQ, hLE, hc_dead, hc_isj, hc_fou, hc_tri, -⟩, ⟨ia, ip, ic, ih, il⟩, ⟨jw, jr, jp, jl, jh, jt, jf⟩⟩ := hI
  obtain ⟨qa, f_qa, g_qa⟩ := hx_rf hT gx tt_9 (k := 5) (u := 43) rfl
  have pf_qa := ia qa f_qa
  obtain ⟨qp, f_qp, g_qp⟩ := hx_rf hT gx tt_9 (k := 7) (u := 44) rfl
  have pf_qp := ip qp f_qp
  obtain ⟨qc, f_qc, g_qc⟩ := hx_rf hT gx tt_9 (k := 10) (u := 45) rfl
  have pf_qc := ic qc f_qc
  obtain ⟨qh, f_qh, g_qh⟩ := hx_rf hT gx tt_9 (k := 12) (u := 46) rfl
  have pf_qh := ih qh f_qh
  obtain ⟨qw, f_qw, g_qw⟩ := hx_rf hT gx tt_9 (k := 19) (u := 8) rfl
  obtain ⟨ql, f_ql, g_ql⟩ := hx_rf hT g_qw tt_8 (k := 3) (u := 40) rfl
  have pf_ql := il qw ql f_qw f_ql
  obtain ⟨nw, f_m_now⟩ : ∃ y : Int32, hl1.2.1 am 0 = y := ⟨_, rfl⟩
  have b_nw := hT.gi gm tt_10 (k := 0) rfl
  rw [f_m_now] at b_nw
  have b_nw : 0 ≤ nw.toInt ∧ nw.toInt ≤ 7999 := b_nw
  obtain ⟨np, f_m_persons⟩ : ∃ y : Int32, hl1.2.1 am 20 = y := ⟨_, rfl⟩
  have b_np := hT.gi gm tt_10 (k := 20) rfl
  rw [f_m_persons] at b_np
  have b_np : 0 ≤ np.toInt ∧ np.toInt ≤ 40 := b_np
  obtain ⟨c0, f_m_claims⟩ : ∃ y : Int32, hl1.2.1 am 36 = y := ⟨_, rfl⟩
  have b_c0 := hT.gi gm tt_10 (k := 36) rfl
  rw [f_m_claims] at b_c0
  have b_c0 : 0 ≤ c0.toInt ∧ c0.toInt ≤ 100 := b_c0
  obtain ⟨ln, f_m_lines⟩ : ∃ y : Int32, hl1.2.1 am 29 = y := ⟨_, rfl⟩
  have b_ln := hT.gi gm tt_10 (k := 29) rfl
  rw [f_m_lines] at b_ln
  have b_ln : 0 ≤ ln.toInt ∧ ln.toInt ≤ 400 := b_ln
  obtain ⟨lsd, f_m_listed⟩ : ∃ y : Int32, hl1.2.1 am 90 = y := ⟨_, rfl⟩
  have b_lsd := hT.gi gm tt_10 (k := 90) rfl
  rw [f_m_listed] at b_lsd
  have b_lsd : 0 ≤ lsd.toInt ∧ lsd.toInt ≤ 8 := b_lsd
  obtain ⟨a0, f_m_acts⟩ : ∃ y : Int32, hl1.2.1 am 1 = y := ⟨_, rfl⟩
  have b_a0 := hT.gi gm tt_10 (k := 1) rfl
  rw [f_m_acts] at b_a0
  have b_a0 : 0 ≤ a0.toInt ∧ a0.toInt ≤ 8 := b_a0
  obtain ⟨m0, f_m_heardMany⟩ : ∃ y : Int32, hl1.2.1 am 57 = y := ⟨_, rfl⟩
  have b_m0 := hT.gi gm tt_10 (k := 57) rfl
  rw [f_m_heardMany] at b_m0
  have b_m0 : 0 ≤ m0.toInt ∧ m0.toInt ≤ 100 := b_m0
  have f_x_now : hl1.2.1 ax 2 = nw := he_nw.trans f_m_now
  have f_x_personCount : hl1.2.1 ax 8 = np := he_np.trans f_m_persons
  have f_x_claimCount : hl1.2.1 ax 11 = c0 := he_c0.trans f_m_claims
  obtain ⟨mw, f_mw, g_mw⟩ := hx_rf hT gm tt_10 (k := 19) (u := 57) rfl
  obtain ⟨F_mw, n_mw⟩ : ∃ g : Nat → Int32, hl1.2.1 mw = g := ⟨_, rfl⟩
  obtain ⟨mr, f_mr, g_mr⟩ := hx_rf hT gm tt_10 (k := 3) (u := 50) rfl
  obtain ⟨F_mr, n_mr⟩ : ∃ g : Nat → Int32, hl1.2.1 mr = g := ⟨_, rfl⟩
  obtain ⟨mp, f_mp, g_mp⟩ := hx_rf hT gm tt_10 (k := 5) (u := 52) rfl
  obtain ⟨F_mp, n_mp⟩ : ∃ g : Nat → Int32, hl1.2.1 mp = g := ⟨_, rfl⟩
  obtain ⟨mn, f_mn, g_mn⟩ := hx_rf hT gm tt_10 (k := 4) (u := 51) rfl
  obtain ⟨F_mn, n_mn⟩ : ∃ g : Nat → Int32, hl1.2.1 mn = g := ⟨_, rfl⟩
  obtain ⟨ml, f_ml, g_ml⟩ := hx_rf hT gm tt_10 (k := 44) (u := 79) rfl
  obtain ⟨F_ml, n_ml⟩ : ∃ g : Nat → Int32, hl1.2.1 ml = g := ⟨_, rfl⟩
  obtain ⟨mh, f_mh, g_mh⟩ := hx_rf hT gm tt_10 (k := 47) (u := 82) rfl
  obtain ⟨F_mh, n_mh⟩ : ∃ g : Nat → Int32, hl1.2.1 mh = g := ⟨_, rfl⟩
  obtain ⟨mt, f_mt, g_mt⟩ := hx_rf hT gm tt_10 (k := 45) (u := 80) rfl
  obtain ⟨F_mt, n_mt⟩ : ∃ g : Nat → Int32, hl1.2.1 mt = g := ⟨_, rfl⟩
  obtain ⟨m_fou, f_m_fou, g_m_fou⟩ := hx_rf hT gm tt_10 (k := 46) (u := 81) rfl
  obtain ⟨F_m_fou, n_m_fou⟩ : ∃ g : Nat → Int32, hl1.2.1 m_fou = g := ⟨_, rfl⟩
  obtain ⟨qo_ln, f_qo_ln, g_qo_ln⟩ := hx_rf hT gx tt_9 (k := 9) (u := 1) rfl
  have f_o_ln : hl1.2.1 qo_ln 0 = ln := (ho_ln qo_ln f_qo_ln).trans f_m_lines
  have f_o_lsd : hl1.2.1 qw 0 = lsd := (ho_lsd qw f_qw).trans f_m_listed
  have nu_qp := hn_qp qp f_qp; rw [f_x_personCount] at nu_qp
  have nu_qc := hn_qc qc f_qc; rw [f_x_claimCount] at nu_qc
  obtain ⟨b_of, f_b_of, g_b_of⟩ := hx_rf hT g_qo_ln tt_1 (k := 1) (u := 13) rfl
  obtain ⟨B_of, n_b_of⟩ : ∃ g : Nat → Int32, hl1.2.1 b_of = g := ⟨_, rfl⟩
  obtain ⟨m_of, f_m_of, g_m_of⟩ := hx_rf hT gm tt_10 (k := 30) (u := 66) rfl
  obtain ⟨F_of, n_m_of⟩ : ∃ g : Nat → Int32, hl1.2.1 m_of = g := ⟨_, rfl⟩
  have eb_of := hk_of qo_ln b_of m_of f_qo_ln f_b_of f_m_of; rw [n_b_of, n_m_of, f_o_ln] at eb_of
  obtain ⟨b_wf, f_b_wf, g_b_wf⟩ := hx_rf hT g_qo_ln tt_1 (k := 2) (u := 14) rfl
  obtain ⟨B_wf, n_b_wf⟩ : ∃ g : Nat → Int32, hl1.2.1 b_wf = g := ⟨_, rfl⟩
  obtain ⟨m_wf, f_m_wf, g_m_wf⟩ := hx_rf hT gm tt_10 (k := 31) (u := 67) rfl
  obtain ⟨F_wf, n_m_wf⟩ : ∃ g : Nat → Int32, hl1.2.1 m_wf = g := ⟨_, rfl⟩
  have eb_wf := hk_wf qo_ln b_wf m_wf f_qo_ln f_b_wf f_m_wf; rw [n_b_wf, n_m_wf, f_o_ln] at eb_wf
  obtain ⟨b_df, f_b_df, g_b_df⟩ := hx_rf hT g_qo_ln tt_1 (k := 3) (u := 15) rfl
  obtain ⟨B_df, n_b_df⟩ : ∃ g : Nat → Int32, hl1.2.1 b_df = g := ⟨_, rfl⟩
  obtain ⟨m_df, f_m_df, g_m_df⟩ := hx_rf hT gm tt_10 (k := 32) (u := 68) rfl
  obtain ⟨F_df, n_m_df⟩ : ∃ g : Nat → Int32, hl1.2.1 m_df = g := ⟨_, rfl⟩
  have eb_df := hk_df qo_ln b_df m_df f_qo_ln f_b_df f_m_df; rw [n_b_df, n_m_df, f_o_ln] at eb_df
  obtain ⟨b_kf, f_b_kf, g_b_kf⟩ := hx_rf hT g_qo_ln tt_1 (k := 4) (u := 16) rfl
  obtain ⟨B_kf, n_b_kf⟩ : ∃ g : Nat → Int32, hl1.2.1 b_kf = g := ⟨_, rfl⟩
  obtain ⟨m_kf, f_m_kf, g_m_kf⟩ := hx_rf hT gm tt_10 (k := 33) (u := 69) rfl
  obtain ⟨F_kf, n_m_kf⟩ : ∃ g : Nat → Int32, hl1.2.1 m_kf = g := ⟨_, rfl⟩
  have eb_kf := hk_kf qo_ln b_kf m_kf f_qo_ln f_b_kf f_m_kf; rw [n_b_kf, n_m_kf, f_o_ln] at eb_kf
  obtain ⟨b_sf, f_b_sf, g_b_sf⟩ := hx_rf hT g_qo_ln tt_1 (k := 5) (u := 17) rfl
  obtain ⟨B_sf, n_b_sf⟩ : ∃ g : Nat → Int32, hl1.2.1 b_sf = g := ⟨_, rfl⟩
  obtain ⟨m_sf, f_m_sf, g_m_sf⟩ := hx_rf hT gm tt_10 (k := 34) (u := 70) rfl
  obtain ⟨F_sf, n_m_sf⟩ : ∃ g : Nat → Int32, hl1.2.1 m_sf = g := ⟨_, rfl⟩
  have eb_sf := hk_sf qo_ln b_sf m_sf f_qo_ln f_b_sf f_m_sf; rw [n_b_sf, n_m_sf, f_o_ln] at eb_sf
  obtain ⟨b_bf, f_b_bf, g_b_bf⟩ := hx_rf hT g_qo_ln tt_1 (k := 6) (u := 18) rfl
  obtain ⟨bfL, n_b_bf⟩ : ∃ g : Nat → Int32, hl1.2.1 b_bf = g := ⟨_, rfl⟩
  obtain ⟨hBD, hDY⟩ := hkBD qo_ln b_df b_bf f_qo_ln f_b_df f_b_bf; rw [n_b_df, n_b_bf, f_o_ln] at hBD; rw [n_b_df, f_o_ln] at hDY
  have hBDm := hy_BD_c eb_df hBD
  have hDYm : hy_DY F_df ln.toInt.toNat := fun x hx => by rw [← eb_df x hx]; exact hDY x hx
  have sb_list := hLQ qw ql qc f_qw f_ql f_qc
  obtain ⟨m_lst, f_m_lst, g_m_lst⟩ := hx_rf hT gm tt_10 (k := 91) (u := 112) rfl
  obtain ⟨F_lst, n_lst⟩ : ∃ g : Nat → Int32, hl1.2.1 m_lst = g := ⟨_, rfl⟩
  obtain ⟨c_lst, cl_lst⟩ : ∃ g : Nat → Int32, hx_col 8 hl1 ql 0 = g := ⟨_, rfl⟩
  have eq_lst := hLE qw ql m_lst f_qw f_ql f_m_lst; rw [cl_lst, n_lst] at eq_lst
  obtain ⟨c_dead, cl_dead⟩ : ∃ g : Nat → Int32, hx_col 40 hl1 qp 7 = g := ⟨_, rfl⟩
  obtain ⟨m_dead, f_m_dead, g_m_dead⟩ := hx_rf hT gm tt_10 (k := 27) (u := 64) rfl
  obtain ⟨F_dead, n_dead⟩ : ∃ g : Nat → Int32, hl1.2.1 m_dead = g := ⟨_, rfl⟩
  have eq_dead := hc_dead qp m_dead f_qp f_m_dead; rw [cl_dead, n_dead] at eq_dead
  have z_dead : np.toInt.toNat < 40 → c_dead np.toInt.toNat = 0 := fun hj => hx_num_z nu_qp cl_dead hj (by omega)
  obtain ⟨c_isj, cl_isj⟩ : ∃ g : Nat → Int32, hx_col 40 hl1 qp 8 = g := ⟨_, rfl⟩
  obtain ⟨m_isj, f_m_isj, g_m_isj⟩ := hx_rf hT gm tt_10 (k := 28) (u := 65) rfl
  obtain ⟨F_isj, n_isj⟩ : ∃ g : Nat → Int32, hl1.2.1 m_isj = g := ⟨_, rfl⟩
  have eq_isj := hc_isj qp m_isj f_qp f_m_isj; rw [cl_isj, n_isj] at eq_isj
  have z_isj : np.toInt.toNat < 40 → c_isj np.toInt.toNat = 0 := fun hj => hx_num_z nu_qp cl_isj hj (by omega)
  obtain ⟨c_fou, cl_fou⟩ : ∃ g : Nat → Int32, hx_col 100 hl1 qc 10 = g := ⟨_, rfl⟩
  have eq_fou := hc_fou qc m_fou f_qc f_m_fou; rw [cl_fou, n_m_fou] at eq_fou
  have z_fou : c0.toInt.toNat < 100 → c_fou c0.toInt.toNat = 0 := fun hj => hx_num_z nu_qc cl_fou hj (by omega)
  obtain ⟨c_tri, cl_tri⟩ : ∃ g : Nat → Int32, hx_col 100 hl1 qc 9 = g := ⟨_, rfl⟩
  have eq_tri := hc_tri qc mt f_qc f_mt; rw [cl_tri, n_mt] at eq_tri
  have z_tri : c0.toInt.toNat < 100 → c_tri c0.toInt.toNat = 0 := fun hj => hx_num_z nu_qc cl_tri hj (by omega)
  have hwd := jw mw f_mw; rw [n_mw] at hwd
  have hWK := jr mr f_mr; rw [n_mr, f_m_acts] at hWK
  have hRP := jp mp mn f_mp f_mn; rw [n_mp, n_mn, f_m_acts] at hRP
  have hPL := jl ml f_ml; rw [n_ml, f_m_claims, f_m_acts] at hPL
  have hHC := jh mh f_mh; rw [n_mh, f_m_heardMany, f_m_claims] at hHC
  have hTR := jt mt f_mt; rw [n_mt] at hTR
  have hHF := jf mh m_fou f_mh f_m_fou; rw [n_mh, n_m_fou, f_m_claims] at hHF
  refine lv_aload_n hx hb dL_law_1231 rfl (lv_at hl 2 rfl) ?_
  refine lv_aload_n hx hb dL_law_1232 rfl (lv_at hl 3 rfl) ?_
  refine lv_iload_n hx hb dL_law_1233 rfl (lv_at hl 0 rfl) ?_
  refine lv_iconst (v := 1) hx hb dL_law_1234 (by decide) ?_
  refine lv_iadd hx hb dL_law_1235 ?_
  have rg_644 := i32_r i
  refine lv_topi (fun x_645 ex_645 => ?_)
  have zx_645 : x_645.toInt = i.toInt + 1 := by rw [ex_645]; exact i32_add rfl (by decide) (by omega) (by omega)
  refine va_sld hx hb hX hbl hbA hW.2.2.2.1 (vp_in_iff.mpr ⟨by omega, by omega⟩) dL_law_1236 ?_
  refine lv_topi (fun x_646 ex_646 => ?_)
  have hTo := hT
  refine hx_goi (hx_runV (As := [.int x_646]) (rest := []) ⟨hx, hb, hml, hown, hts⟩ hW gx tt_9 (T := TX9) (N := 20) rfl (t_X9_list_2 l dC dI dA L1 hl1 H.size ax x_646 hT gx qc g_qc f_qc qw g_qw f_qw ql g_ql f_ql c0 f_x_claimCount lsd f_o_lsd c_fou cl_fou c_lst cl_lst nu_qc sb_list pf_qc pf_ql) (cwV 1 hts (hx_gV kw_1039 kw_1036 kw_1037 kw_1038 kw_94) rfl rfl rfl (by decide +kernel) ⟨Nat.le_of_ble_eq_true rfl, Nat.le_of_ble_eq_true rfl⟩) rfl hl.1 rfl (Nat.le_of_ble_eq_true rfl) dL_law_1237 ⟨(show CC + 0 ≤ 600000 from by omega), (show SS + 0 ≤ 7302250 from by omega)⟩) hW (fun r_649 L_647 h_648 H locs p_650 hW => ?_)
  obtain ⟨⟨w_653, w_654, fw_653, fw_654, hr_651⟩, hT, hs, pf_652⟩ := p_650
  obtain ⟨sb_655, hr_651⟩ := hr_651
  have hT : hx_T T_tb L_647 h_648 := hT
  have hs : hx_S T_tb [(8, 0), (40, 0)] L1 hl1 L_647 h_648 := hs
  have f_qa := (hs.o gx trivial rfl).2.trans f_qa
  have f_qp := (hs.o gx trivial rfl).2.trans f_qp
  have f_qc := (hs.o gx trivial rfl).2.trans f_qc
  have f_qh := (hs.o gx trivial rfl).2.trans f_qh
  have f_qw := (hs.o gx trivial rfl).2.trans f_qw
  have f_ql := (hs.o g_qw trivial rfl).2.trans f_ql
  have f_m_now := (hs.o gm trivial rfl).1.trans f_m_now
  have f_m_persons := (hs.o gm trivial rfl).1.trans f_m_persons
  have f_m_claims := (hs.o gm trivial rfl).1.trans f_m_claims
  have f_m_lines := (hs.o gm trivial rfl).1.trans f_m_lines
  have f_m_listed := (hs.o gm trivial rfl).1.trans f_m_listed
  have f_m_acts := (hs.o gm trivial rfl).1.trans f_m_acts
  have f_m_heardMany := (hs.o gm trivial rfl).1.trans f_m_heardMany
  have f_x_now := (hs.o gx trivial rfl).1.trans f_x_now
  have f_x_personCount := (hs.o gx trivial rfl).1.trans f_x_personCount
  have f_x_claimCount := (hs.o gx trivial rfl).1.trans f_x_claimCount
  have f_mw := (hs.o gm trivial rfl).2.trans f_mw
  have f_mr := (hs.o gm trivial rfl).2.trans f_mr
  have f_mp := (hs.o gm trivial rfl).2.trans f_mp
  have f_mn := (hs.o gm trivial rfl).2.trans f_mn
  have f_ml := (hs.o gm trivial rfl).2.trans f_ml
  have f_mh := (hs.o gm trivial rfl).2.trans f_mh
  have f_mt := (hs.o gm trivial rfl).2.trans f_mt
  have f_m_fou := (hs.o gm trivial rfl).2.trans f_m_fou
  have f_qo_ln := (hs.o gx trivial rfl).2.trans f_qo_ln
  have f_o_ln := (hs.o g_qo_ln trivial rfl).1.trans f_o_ln
  have f_b_of := (hs.o g_qo_ln trivial rfl).2.trans f_b_of
  have f_m_of := (hs.o gm trivial rfl).2.trans f_m_of
  have f_b_wf := (hs.o g_qo_ln trivial rfl).2.trans f_b_wf
  have f_m_wf := (hs.o gm trivial rfl).2.trans f_m_wf
  have f_b_df := (hs.o g_qo_ln trivial rfl).2.trans f_b_df
  have f_m_df := (hs.o gm trivial rfl).2.trans f_m_df
  have f_b_kf := (hs.o g_qo_ln trivial rfl).2.trans f_b_kf
  have f_m_kf := (hs.o gm trivial rfl).2.trans f_m_kf
  have f_b_sf := (hs.o g_qo_ln trivial rfl).2.trans f_b_sf
  have f_m_sf := (hs.o gm trivial rfl).2.trans f_m_sf
  have f_b_bf := (hs.o g_qo_ln trivial rfl).2.trans f_b_bf
  have f_m_lst := (hs.o gm trivial rfl).2.trans f_m_lst
  have f_m_dead := (hs.o gm trivial rfl).2.trans f_m_dead
  have f_m_isj := (hs.o gm trivial rfl).2.trans f_m_isj
  have pf_qa : ∀ j : Nat, (j : Int) < (h_648.2.1 ax 6).toInt → h_648.2.2 qa j ≠ none := by
    intro j hj; rw [(hs.o gx trivial rfl).1] at hj; rw [(hs.a g_qa rfl j).2]; exact pf_qa j hj
  have pf_qp : ∀ j : Nat, (j : Int) < (h_648.2.1 ax 8).toInt → h_648.2.2 qp j ≠ none := by
    intro j hj; rw [(hs.o gx trivial rfl).1] at hj; rw [(hs.a g_qp rfl j).2]; exact pf_qp j hj
  have pf_qc : ∀ j : Nat, (j : Int) < (h_648.2.1 ax 11).toInt → h_648.2.2 qc j ≠ none := by
    intro j hj; rw [(hs.o gx trivial rfl).1] at hj; rw [(hs.a g_qc rfl j).2]; exact pf_qc j hj
  have pf_qh : ∀ j : Nat, (j : Int) < (h_648.2.1 ax 13).toInt → h_648.2.2 qh j ≠ none := by
    intro j hj; rw [(hs.o gx trivial rfl).1] at hj; rw [(hs.a g_qh rfl j).2]; exact pf_qh j hj
  have cl_dead : hx_col 40 h_648 qp 7 = c_dead := (hx_col_S hs hTo g_qp tt_44 tt_4 rfl rfl).trans cl_dead
  have cl_isj : hx_col 40 h_648 qp 8 = c_isj := (hx_col_S hs hTo g_qp tt_44 tt_4 rfl rfl).trans cl_isj
  have cl_fou : hx_col 100 h_648 qc 10 = c_fou := (hx_col_S hs hTo g_qc tt_45 tt_2 rfl rfl).trans cl_fou
  have cl_tri : hx_col 100 h_648 qc 9 = c_tri := (hx_col_S hs hTo g_qc tt_45 tt_2 rfl rfl).trans cl_tri
  have nu_qp : hx_num 40 h_648 qp 0 (np.toInt) := hx_num_S hs hTo g_qp tt_44 tt_4 rfl rfl nu_qp
  have nu_qc : hx_num 100 h_648 qc 0 (c0.toInt) := hx_num_S hs hTo g_qc tt_45 tt_2 rfl rfl nu_qc
  have n_mw : h_648.2.1 mw = F_mw := (funext fun j => (hs.a g_mw rfl j).1).trans n_mw
  have n_mr : h_648.2.1 mr = F_mr := (funext fun j => (hs.a g_mr rfl j).1).trans n_mr
  have n_mp : h_648.2.1 mp = F_mp := (funext fun j => (hs.a g_mp rfl j).1).trans n_mp
  have n_mn : h_648.2.1 mn = F_mn := (funext fun j => (hs.a g_mn rfl j).1).trans n_mn
  have n_ml : h_648.2.1 ml = F_ml := (funext fun j => (hs.a g_ml rfl j).1).trans n_ml
  have n_mh : h_648.2.1 mh = F_mh := (funext fun j => (hs.a g_mh rfl j).1).trans n_mh
  have n_mt : h_648.2.1 mt = F_mt := (funext fun j => (hs.a g_mt rfl j).1).trans n_mt
  have n_m_fou : h_648.2.1 m_fou = F_m_fou := (funext fun j => (hs.a g_m_fou rfl j).1).trans n_m_fou
  have n_b_of : h_648.2.1 b_of = B_of := (funext fun j => (hs.a g_b_of rfl j).1).trans n_b_of
  have n_m_of : h_648.2.1 m_of = F_of := (funext fun j => (hs.a g_m_of rfl j).1).trans n_m_of
  have n_b_wf : h_648.2.1 b_wf = B_wf := (funext fun j => (hs.a g_b_wf rfl j).1).trans n_b_wf
  have n_m_wf : h_648.2.1 m_wf = F_wf := (funext fun j => (hs.a g_m_wf rfl j).1).trans n_m_wf
  have n_b_df : h_648.2.1 b_df = B_df := (funext fun j => (hs.a g_b_df rfl j).1).trans n_b_df
  have n_m_df : h_648.2.1 m_df = F_df := (funext fun j => (hs.a g_m_df rfl j).1).trans n_m_df
  have n_b_kf : h_648.2.1 b_kf = B_kf := (funext fun j => (hs.a g_b_kf rfl j).1).trans n_b_kf
  have n_m_kf : h_648.2.1 m_kf = F_kf := (funext fun j => (hs.a g_m_kf rfl j).1).trans n_m_kf
  have n_b_sf : h_648.2.1 b_sf = B_sf := (funext fun j => (hs.a g_b_sf rfl j).1).trans n_b_sf
  have n_m_sf : h_648.2.1 m_sf = F_sf := (funext fun j => (hs.a g_m_sf rfl j).1).trans n_m_sf
  have n_b_bf : h_648.2.1 b_bf = bfL := (funext fun j => (hs.a g_b_bf rfl j).1).trans n_b_bf
  have n_lst : h_648.2.1 m_lst = F_lst := (funext fun j => (hs.a g_m_lst rfl j).1).trans n_lst
  have n_dead : h_648.2.1 m_dead = F_dead := (funext fun j => (hs.a g_m_dead rfl j).1).trans n_dead
  have n_isj : h_648.2.1 m_isj = F_isj := (funext fun j => (hs.a g_m_isj rfl j).1).trans n_isj
  have gx := gx.S hs
  have gm := gm.S hs
  have g_qa := g_qa.S hs
  have g_qp := g_qp.S hs
  have g_qc := g_qc.S hs
  have g_qh := g_qh.S hs
  have g_qw := g_qw.S hs
  have g_ql := g_ql.S hs
  have g_mw := g_mw.S hs
  have g_mr := g_mr.S hs
  have g_mp := g_mp.S hs
  have g_mn := g_mn.S hs
  have g_ml := g_ml.S hs
  have g_mh := g_mh.S hs
  have g_mt := g_mt.S hs
  have g_m_fou := g_m_fou.S hs
  have g_qo_ln := g_qo_ln.S hs
  have g_b_of := g_b_of.S hs
  have g_m_of := g_m_of.S hs
  have g_b_wf := g_b_wf.S hs
  have g_m_wf := g_m_wf.S hs
  have g_b_df := g_b_df.S hs
  have g_m_df := g_m_df.S hs
  have g_b_kf := g_b_kf.S hs
  have g_m_kf := g_m_kf.S hs
  have g_b_sf := g_b_sf.S hs
  have g_m_sf := g_m_sf.S hs
  have g_b_bf := g_b_bf.S hs
  have g_m_lst := g_m_lst.S hs
  have g_m_dead := g_m_dead.S hs
  have g_m_isj := g_m_isj.S hs
  have pf_652 : ∀ j : Nat, (j : Int) < (h_648.2.1 qw 0).toInt → h_648.2.2 ql j ≠ none := pf_652
  have sb_655 : hx_LQ 8 100 h_648 ql qc := sb_655
  have fw_653 : h_648.2.1 qw 0 = w_653 := fw_653
  have bw_653 := hT.gi g_qw tt_8 (k := 0) rfl
  rw [fw_653] at bw_653
  have bw_653 : 0 ≤ w_653.toInt ∧ w_653.toInt ≤ 8 := bw_653
  have fw_654 : hx_col 8 h_648 ql 0 = w_654 := fw_654
  refine lv_pop hx hb dL_law_1240 rfl ?_
  refine lv_aload_n hx hb dL_law_1241 rfl (lv_at hl 1 rfl) ?_
  refine lv_aload_n hx hb dL_law_1242 rfl (lv_at hl 3 rfl) ?_
  refine lv_iload_n hx hb dL_law_1243 rfl (lv_at hl 0 rfl) ?_
  refine lv_iconst (v := 1) hx hb dL_law_1244 (by decide) ?_
  refine lv_iadd hx hb dL_law_1245 ?_
  refine lv_topi (fun x_656 ex_656 => ?_)
  have zx_656 : x_656.toInt = i.toInt + 1 := by rw [ex_656]; exact i32_add rfl (by decide) (by omega) (by omega)
  obtain rfl : x_645 = x_656 := ex_645.trans ex_656.symm
  refine va_sld hx hb hX hbl hbA hW.2.2.2.1 (vp_in_iff.mpr ⟨by omega, by omega⟩) dL_law_1246 ?_
  refine lv_topi (fun x_657 ex_657 => ?_)
  obtain rfl : x_646 = x_657 := ex_646.trans ex_657.symm
  have hTo := hT
  refine hx_goi (hx_runV (As := [.int x_646]) (rest := []) ⟨hx, hb, hml, hown, hts⟩ hW gm tt_10 (T := TX10) (N := 98) rfl (t_X10_list_2 l dC dI dA L_647 h_648 H.size am x_646 hT gm m_fou g_m_fou f_m_fou mh g_mh f_mh m_lst g_m_lst f_m_lst F_m_fou n_m_fou F_mh n_mh F_lst n_lst c0 f_m_claims lsd f_m_listed hHF) (cwV 1 hts (hx_gV kw_1717 kw_1714 kw_1715 kw_1716 kw_103) rfl rfl rfl (by decide +kernel) ⟨Nat.le_of_ble_eq_true rfl, Nat.le_of_ble_eq_true rfl⟩) rfl hl.1 rfl (Nat.le_of_ble_eq_true rfl) dL_law_1247 ⟨(show CC + 0 + 0 ≤ 600000 from by omega), (show SS + 0 + 0 ≤ 7302250 from by omega)⟩) hW (fun r_660 L_658 h_659 H locs p_661 hW => ?_)
  obtain ⟨⟨w_663, w_664, fw_663, fw_664, hr_662⟩, hT, hs⟩ := p_661
  have hT : hx_T T_tb L_658 h_659 := hT
  have hs : hx_S T_tb [(10, 90), (112, 0)] L_647 h_648 L_658 h_659 := hs
  have f_qa := (hs.o gx trivial rfl).2.trans f_qa
  have f_qp := (hs.o gx trivial rfl).2.trans f_qp
  have f_qc := (hs.o gx trivial rfl).2.trans f_qc
  have f_qh := (hs.o gx trivial rfl).2.trans f_qh
  have f_qw := (hs.o gx trivial rfl).2.trans f_qw
  have f_ql := (hs.o g_qw trivial rfl).2.trans f_ql
  have f_m_now := (hs.o gm trivial rfl).1.trans f_m_now
  have f_m_persons := (hs.o gm trivial rfl).1.trans f_m_persons
  have f_m_claims := (hs.o gm trivial rfl).1.trans f_m_claims
  have f_m_lines := (hs.o gm trivial rfl).1.trans f_m_lines
  have f_m_acts := (hs.o gm trivial rfl).1.trans f_m_acts
  have f_m_heardMany := (hs.o gm trivial rfl).1.trans f_m_heardMany
  have f_x_now := (hs.o gx trivial rfl).1.trans f_x_now
  have f_x_personCount := (hs.o gx trivial rfl).1.trans f_x_personCount
  have f_x_claimCount := (hs.o gx trivial rfl).1.trans f_x_claimCount
  have f_mw := (hs.o gm trivial rfl).2.trans f_mw
  have f_mr := (hs.o gm trivial rfl).2.trans f_mr
  have f_mp := (hs.o gm trivial rfl).2.trans f_mp
  have f_mn := (hs.o gm trivial rfl).2.trans f_mn
  have f_ml := (hs.o gm trivial rfl).2.trans f_ml
  have f_mh := (hs.o gm trivial rfl).2.trans f_mh
  have f_mt := (hs.o gm trivial rfl).2.trans f_mt
  have f_m_fou := (hs.o gm trivial rfl).2.trans f_m_fou
  have f_qo_ln := (hs.o gx trivial rfl).2.trans f_qo_ln
  have f_o_ln := (hs.o g_qo_ln trivial rfl).1.trans f_o_ln
  have f_b_of := (hs.o g_qo_ln trivial rfl).2.trans f_b_of
  have f_m_of := (hs.o gm trivial rfl).2.trans f_m_of
  have f_b_wf := (hs.o g_qo_ln trivial rfl).2.trans f_b_wf
  have f_m_wf := (hs.o gm trivial rfl).2.trans f_m_wf
  have f_b_df := (hs.o g_qo_ln trivial rfl).2.trans f_b_df
  have f_m_df := (hs.o gm trivial rfl).2.trans f_m_df
  have f_b_kf := (hs.o g_qo_ln trivial rfl).2.trans f_b_kf
  have f_m_kf := (hs.o gm trivial rfl).2.trans f_m_kf
  have f_b_sf := (hs.o g_qo_ln trivial rfl).2.trans f_b_sf
  have f_m_sf := (hs.o gm trivial rfl).2.trans f_m_sf
  have f_b_bf := (hs.o g_qo_ln trivial rfl).2.trans f_b_bf
  have f_m_lst := (hs.o gm trivial rfl).2.trans f_m_lst
  have f_m_dead := (hs.o gm trivial rfl).2.trans f_m_dead
  have f_m_isj := (hs.o gm trivial rfl).2.trans f_m_isj
  have fw_653 := (hs.o g_qw trivial rfl).1.trans fw_653
  have pf_qa : ∀ j : Nat, (j : Int) < (h_659.2.1 ax 6).toInt → h_659.2.2 qa j ≠ none := by
    intro j hj; rw [(hs.o gx trivial rfl).1] at hj; rw [(hs.a g_qa rfl j).2]; exact pf_qa j hj
  have pf_qp : ∀ j : Nat, (j : Int) < (h_659.2.1 ax 8).toInt → h_659.2.2 qp j ≠ none := by
    intro j hj; rw [(hs.o gx trivial rfl).1] at hj; rw [(hs.a g_qp rfl j).2]; exact pf_qp j hj
  have pf_qc : ∀ j : Nat, (j : Int) < (h_659.2.1 ax 11).toInt → h_659.2.2 qc j ≠ none := by
    intro j hj; rw [(hs.o gx trivial rfl).1] at hj; rw [(hs.a g_qc rfl j).2]; exact pf_qc j hj
  have pf_qh : ∀ j : Nat, (j : Int) < (h_659.2.1 ax 13).toInt → h_659.2.2 qh j ≠ none := by
    intro j hj; rw [(hs.o gx trivial rfl).1] at hj; rw [(hs.a g_qh rfl j).2]; exact pf_qh j hj
  have pf_652 : ∀ j : Nat, (j : Int) < (h_659.2.1 qw 0).toInt → h_659.2.2 ql j ≠ none := by
    intro j hj; rw [(hs.o g_qw trivial rfl).1] at hj; rw [(hs.a g_ql rfl j).2]; exact pf_652 j hj
  have cl_dead : hx_col 40 h_659 qp 7 = c_dead := (hx_col_S hs hTo g_qp tt_44 tt_4 rfl rfl).trans cl_dead
  have cl_isj : hx_col 40 h_659 qp 8 = c_isj := (hx_col_S hs hTo g_qp tt_44 tt_4 rfl rfl).trans cl_isj
  have cl_fou : hx_col 100 h_659 qc 10 = c_fou := (hx_col_S hs hTo g_qc tt_45 tt_2 rfl rfl).trans cl_fou
  have cl_tri : hx_col 100 h_659 qc 9 = c_tri := (hx_col_S hs hTo g_qc tt_45 tt_2 rfl rfl).trans cl_tri
  have fw_654 : hx_col 8 h_659 ql 0 = w_654 := (hx_col_S hs hTo g_ql tt_40 tt_2 rfl rfl).trans fw_654
  have nu_qp : hx_num 40 h_659 qp 0 (np.toInt) := hx_num_S hs hTo g_qp tt_44 tt_4 rfl rfl nu_qp
  have nu_qc : hx_num 100 h_659 qc 0 (c0.toInt) := hx_num_S hs hTo g_qc tt_45 tt_2 rfl rfl nu_qc
  have sb_655 : hx_LQ 8 100 h_659 ql qc := hx_LQ_S hs g_ql g_qc rfl rfl sb_655
  have n_mw : h_659.2.1 mw = F_mw := (funext fun j => (hs.a g_mw rfl j).1).trans n_mw
  have n_mr : h_659.2.1 mr = F_mr := (funext fun j => (hs.a g_mr rfl j).1).trans n_mr
  have n_mp : h_659.2.1 mp = F_mp := (funext fun j => (hs.a g_mp rfl j).1).trans n_mp
  have n_mn : h_659.2.1 mn = F_mn := (funext fun j => (hs.a g_mn rfl j).1).trans n_mn
  have n_ml : h_659.2.1 ml = F_ml := (funext fun j => (hs.a g_ml rfl j).1).trans n_ml
  have n_mh : h_659.2.1 mh = F_mh := (funext fun j => (hs.a g_mh rfl j).1).trans n_mh
  have n_mt : h_659.2.1 mt = F_mt := (funext fun j => (hs.a g_mt rfl j).1).trans n_mt
  have n_m_fou : h_659.2.1 m_fou = F_m_fou := (funext fun j => (hs.a g_m_fou rfl j).1).trans n_m_fou
  have n_b_of : h_659.2.1 b_of = B_of := (funext fun j => (hs.a g_b_of rfl j).1).trans n_b_of
  have n_m_of : h_659.2.1 m_of = F_of := (funext fun j => (hs.a g_m_of rfl j).1).trans n_m_of
  have n_b_wf : h_659.2.1 b_wf = B_wf := (funext fun j => (hs.a g_b_wf rfl j).1).trans n_b_wf
  have n_m_wf : h_659.2.1 m_wf = F_wf := (funext fun j => (hs.a g_m_wf rfl j).1).trans n_m_wf
  have n_b_df : h_659.2.1 b_df = B_df := (funext fun j => (hs.a g_b_df rfl j).1).trans n_b_df
  have n_m_df : h_659.2.1 m_df = F_df := (funext fun j => (hs.a g_m_df rfl j).1).trans n_m_df
  have n_b_kf : h_659.2.1 b_kf = B_kf := (funext fun j => (hs.a g_b_kf rfl j).1).trans n_b_kf
  have n_m_kf : h_659.2.1 m_kf = F_kf := (funext fun j => (hs.a g_m_kf rfl j).1).trans n_m_kf
  have n_b_sf : h_659.2.1 b_sf = B_sf := (funext fun j => (hs.a g_b_sf rfl j).1).trans n_b_sf
  have n_m_sf : h_659.2.1 m_sf = F_sf := (funext fun j => (hs.a g_m_sf rfl j).1).trans n_m_sf
  have n_b_bf : h_659.2.1 b_bf = bfL := (funext fun j => (hs.a g_b_bf rfl j).1).trans n_b_bf
  have n_dead : h_659.2.1 m_dead = F_dead := (funext fun j => (hs.a g_m_dead rfl j).1).trans n_dead
  have n_isj : h_659.2.1 m_isj = F_isj := (funext fun j => (hs.a g_m_isj rfl j).1).trans n_isj
  have gx := gx.S hs
  have gm := gm.S hs
  have g_qa := g_qa.S hs
  have g_qp := g_qp.S hs
  have g_qc := g_qc.S hs
  have g_qh := g_qh.S hs
  have g_qw := g_qw.S hs
  have g_ql := g_ql.S hs
  have g_mw := g_mw.S hs
  have g_mr := g_mr.S hs
  have g_mp := g_mp.S hs
  have g_mn := g_mn.S hs
  have g_ml := g_ml.S hs
  have g_mh := g_mh.S hs
  have g_mt := g_mt.S hs
  have g_m_fou := g_m_fou.S hs
  have g_qo_ln := g_qo_ln.S hs
  have g_b_of := g_b_of.S hs
  have g_m_of := g_m_of.S hs
  have g_b_wf := g_b_wf.S hs
  have g_m_wf := g_m_wf.S hs
  have g_b_df := g_b_df.S hs
  have g_m_df := g_m_df.S hs
  have g_b_kf := g_b_kf.S hs
  have g_m_kf := g_m_kf.S hs
  have g_b_sf := g_b_sf.S hs
  have g_m_sf := g_m_sf.S hs
  have g_b_bf := g_b_bf.S hs
  have g_m_lst := g_m_lst.S hs
  have g_m_dead := g_m_dead.S hs
  have g_m_isj := g_m_isj.S hs
  have fw_663 : h_659.2.1 am 90 = w_663 := fw_663
  have bw_663 := hT.gi gm tt_10 (k := 90) rfl
  rw [fw_663] at bw_663
  have bw_663 : 0 ≤ w_663.toInt ∧ w_663.toInt ≤ 8 := bw_663
  have fw_664 : h_659.2.1 m_lst = w_664 := fw_664
  refine lv_pop hx hb dL_law_1250 rfl ?_
  refine lv_goto (tgt := 1379) hx hb dL_law_1251 (by decide) ?_
  obtain ⟨heq, hq_lsd, hq_lst⟩ := hx_wk (by omega) (by omega) eq_fou eq_lst hr_651 hr_662
  refine W.widen (k := CC + 3) (n := SS + 179) (by omega) (by omega) ?_
  exact kk L_658 h_659 H locs ls hW ⟨hT, gx, gm, ⟨f_x_now.trans f_m_now.symm, f_x_personCount.trans f_m_persons.symm, f_x_claimCount.trans f_m_claims.symm, hx_ob f_qo_ln (f_o_ln.trans f_m_lines.symm), hx_ob f_qw ((fw_653.trans hq_lsd).trans fw_663.symm), hx_ob f_qp (by rw [f_x_personCount]; exact nu_qp), hx_ob f_qc (by rw [f_x_claimCount]; exact nu_qc), (fun b a r hb ha hr => by obtain rfl : qo_ln = b := Option.some.inj (f_qo_ln.symm.trans hb); obtain rfl : b_of = a := Option.some.inj (f_b_of.symm.trans ha); obtain rfl : m_of = r := Option.some.inj (f_m_of.symm.trans hr); rw [n_b_of, n_m_of, f_o_ln]; exact eb_of), (fun b a r hb ha hr => by obtain rfl : qo_ln = b := Option.some.inj (f_qo_ln.symm.trans hb); obtain rfl : b_wf = a := Option.some.inj (f_b_wf.symm.trans ha); obtain rfl : m_wf = r := Option.some.inj (f_m_wf.symm.trans hr); rw [n_b_wf, n_m_wf, f_o_ln]; exact eb_wf), (fun b a r hb ha hr => by obtain rfl : qo_ln = b := Option.some.inj (f_qo_ln.symm.trans hb); obtain rfl : b_df = a := Option.some.inj (f_b_df.symm.trans ha); obtain rfl : m_df = r := Option.some.inj (f_m_df.symm.trans hr); rw [n_b_df, n_m_df, f_o_ln]; exact eb_df), (fun b a r hb ha hr => by obtain rfl : qo_ln = b := Option.some.inj (f_qo_ln.symm.trans hb); obtain rfl : b_kf = a := Option.some.inj (f_b_kf.symm.trans ha); obtain rfl : m_kf = r := Option.some.inj (f_m_kf.symm.trans hr); rw [n_b_kf, n_m_kf, f_o_ln]; exact eb_kf), (fun b a r hb ha hr => by obtain rfl : qo_ln = b := Option.some.inj (f_qo_ln.symm.trans hb); obtain rfl : b_sf = a := Option.some.inj (f_b_sf.symm.trans ha); obtain rfl : m_sf = r := Option.some.inj (f_m_sf.symm.trans hr); rw [n_b_sf, n_m_sf, f_o_ln]; exact eb_sf), (fun b a r hb ha hr => by obtain rfl : qo_ln = b := Option.some.inj (f_qo_ln.symm.trans hb); obtain rfl : b_df = a := Option.some.inj (f_b_df.symm.trans ha); obtain rfl : b_bf = r := Option.some.inj (f_b_bf.symm.trans hr); rw [n_b_df, n_b_bf, f_o_ln]; exact ⟨hBD, hDY⟩), (fun w q c hw hq hc => by obtain rfl : qw = w := Option.some.inj (f_qw.symm.trans hw); obtain rfl : ql = q := Option.some.inj (f_ql.symm.trans hq); obtain rfl : qc = c := Option.some.inj (f_qc.symm.trans hc); exact sb_655), (fun w q r hw hq hr => by obtain rfl : qw = w := Option.some.inj (f_qw.symm.trans hw); obtain rfl : ql = q := Option.some.inj (f_ql.symm.trans hq); obtain rfl : m_lst = r := Option.some.inj (f_m_lst.symm.trans hr); rw [fw_654, fw_664]; exact hq_lst), hx_ob2 f_qp f_m_dead (by rw [cl_dead, n_dead]; exact eq_dead), hx_ob2 f_qp f_m_isj (by rw [cl_isj, n_isj]; exact eq_isj), hx_ob2 f_qc f_m_fou (by rw [cl_fou, n_m_fou]; exact eq_fou), hx_ob2 f_qc f_mt (by rw [cl_tri, n_mt]; exact eq_tri), trivial⟩, ⟨hx_ob f_qa pf_qa, hx_ob f_qp pf_qp, hx_ob f_qc pf_qc, hx_ob f_qh pf_qh, (fun w q hw hq => by obtain rfl : qw = w := Option.some.inj (f_qw.symm.trans hw); obtain rfl : ql = q := Option.some.inj (f_ql.symm.trans hq); exact pf_652)⟩, ⟨hx_ob f_mw (by rw [n_mw]; exact hwd), hx_ob f_mr (by rw [n_mr, f_m_acts]; exact hWK), hx_ob2 f_mp f_mn (by rw [n_mp, n_mn, f_m_acts]; exact hRP), hx_ob f_ml (by rw [n_ml, f_m_claims, f_m_acts]; exact hPL), hx_ob f_mh (by rw [n_mh, f_m_heardMany, f_m_claims]; exact hHC), hx_ob f_mt (by rw [n_mt]; exact (hx_TR_le hTR (by omega))), hx_ob2 f_mh f_m_fou (by rw [n_mh, n_m_fou, f_m_claims]; exact hHF)⟩⟩ hl

set_option maxHeartbeats 4000000 in
set_option maxRecDepth 100000 in
theorem law_case_26 {p : Program} {e : Env} {s : State} {m : MethodId} {below : List Frame} {meth : Method} {c : Code} (l : Launch) {b LN : Nat} {xs : Nat → Int32} (hx : p.tables.exec = Jvm.exec) (hb : c.code = code) (hr : meth.sig.returnType = ret) (hlocks : meth.locks = false) (hml : c.maxLocals = 4) (hown : s.vm.findClass "SmallCourtLaw" = some m.cls) (hts : ∀ w ∈ hx_all, w.before #[Value.ref b] s = true) (hX : va_X b LN xs s s.heap) (hbl : b < s.heap.size) (hbA : ¬ s.heap.size ≤ b) (hLN : LN ≤ 3584) (dC : Nat → ClassId) (dI : Nat → Nat → Nat) (dA : Nat → ClassId) (b0 : hx_z) (ax am : Nat) (T1 : Int) (hT0 : 0 ≤ T1) (hT1 : T1 ≤ 511) (i : Int32) (hi0 : 0 ≤ i.toInt) (hiL : i.toInt + 7 ≤ LN) (CC SS : Nat) (hCC : CC + 3 ≤ 600000) (hSS : SS + 179 ≤ 7302250) (L1 : List Nat) (hl1 : hx_h) (H : Heap) (locs : List Loc) (ls : Array Slot) (hW : hx_W T_tb (P_ty dA) (dC, dI) vwCl (fun q : Nat => s.heap.size ≤ q) s.heap L1 hl1 s H locs) (hZ : hx_Xt (fun q : Nat => s.heap.size ≤ q) b0 s) (hI : hx_IV T1 ax am L1 hl1) (hl : lv_has ls 4 [(3, .int i), (2, .ref am), (1, .ref ax), (0, .ref b)]) (kk : ∀ (L2 : List Nat) (h2 : hx_h) (H2 : Heap) (locs2 : List Loc) (ls2 : Array Slot), hx_W T_tb (P_ty dA) (dC, dI) vwCl (fun q : Nat => s.heap.size ≤ q) s.heap L2 h2 s H2 locs2 → hx_IV (T1 + 1) ax am L2 h2 → lv_has ls2 4 [(3, .int i), (2, .ref am), (1, .ref ax), (0, .ref b)] → W p l e room_1 s m #[Value.ref b] below meth c H2 locs2 (CC + 3) (SS + 179) (lw_Z below #[Value.ref b] s) (F0 m 1379 ls2 [])) : W p l e room_1 s m #[Value.ref b] below meth c H locs CC SS (lw_Z below #[Value.ref b] s) (F0 m 1254 ls []) := by
  obtain ⟨hT, gx, gm, ⟨he_nw, he_np, he_c0, ho_ln, ho_lsd, hn_qp, hn_qc, hk_of, hk_wf, hk_df, hk_kf, hk_sf, hkBD, hLQ, hLE, hc_dead, hc_isj, hc_fou, hc_tri, -⟩, ⟨ia, ip, ic, ih, il⟩, ⟨jw, jr, jp, jl, jh, jt, jf⟩⟩ := hI
  obtain ⟨qa, f_qa, g_qa⟩ := hx_rf hT gx tt_9 (k := 5) (u := 43) rfl
  have pf_qa := ia qa f_qa
  obtain ⟨qp, f_qp, g_qp⟩ := hx_rf hT gx tt_9 (k := 7) (u := 44) rfl
  have pf_qp := ip qp f_qp
  obtain ⟨qc, f_qc, g_qc⟩ := hx_rf hT gx tt_9 (k := 10) (u := 45) rfl
  have pf_qc := ic qc f_qc
  obtain ⟨qh, f_qh, g_qh⟩ := hx_rf hT gx tt_9 (k := 12) (u := 46) rfl
  have pf_qh := ih qh f_qh
  obtain ⟨qw, f_qw, g_qw⟩ := hx_rf hT gx tt_9 (k := 19) (u := 8) rfl
  obtain ⟨ql, f_ql, g_ql⟩ := hx_rf hT g_qw tt_8 (k := 3) (u := 40) rfl
  have pf_ql := il qw ql f_qw f_ql
  obtain ⟨nw, f_m_now⟩ : ∃ y : Int32, hl1.2.1 am 0 = y := ⟨_, rfl⟩
  have b_nw := hT.gi gm tt_10 (k := 0) rfl
  rw [f_m_now] at b_nw
  have b_nw : 0 ≤ nw.toInt ∧ nw.toInt ≤ 7999 := b_nw
  obtain ⟨np, f_m_persons⟩ : ∃ y : Int32, hl1.2.1 am 20 = y := ⟨_, rfl⟩
  have b_np := hT.gi gm tt_10 (k := 20) rfl
  rw [f_m_persons] at b_np
  have b_np : 0 ≤ np.toInt ∧ np.toInt ≤ 40 := b_np
  obtain ⟨c0, f_m_claims⟩ : ∃ y : Int32, hl1.2.1 am 36 = y := ⟨_, rfl⟩
  have b_c0 := hT.gi gm tt_10 (k := 36) rfl
  rw [f_m_claims] at b_c0
  have b_c0 : 0 ≤ c0.toInt ∧ c0.toInt ≤ 100 := b_c0
  obtain ⟨ln, f_m_lines⟩ : ∃ y : Int32, hl1.2.1 am 29 = y := ⟨_, rfl⟩
  have b_ln := hT.gi gm tt_10 (k := 29) rfl
  rw [f_m_lines] at b_ln
  have b_ln : 0 ≤ ln.toInt ∧ ln.toInt ≤ 400 := b_ln
  obtain ⟨lsd, f_m_listed⟩ : ∃ y : Int32, hl1.2.1 am 90 = y := ⟨_, rfl⟩
  have b_lsd := hT.gi gm tt_10 (k := 90) rfl
  rw [f_m_listed] at b_lsd
  have b_lsd : 0 ≤ lsd.toInt ∧ lsd.toInt ≤ 8 := b_lsd
  obtain ⟨a0, f_m_acts⟩ : ∃ y : Int32, hl1.2.1 am 1 = y := ⟨_, rfl⟩
  have b_a0 := hT.gi gm tt_10 (k := 1) rfl
  rw [f_m_acts] at b_a0
  have b_a0 : 0 ≤ a0.toInt ∧ a0.toInt ≤ 8 := b_a0
  obtain ⟨m0, f_m_heardMany⟩ : ∃ y : Int32, hl1.2.1 am 57 = y := ⟨_, rfl⟩
  have b_m0 := hT.gi gm tt_10 (k := 57) rfl
  rw [f_m_heardMany] at b_m0
  have b_m0 : 0 ≤ m0.toInt ∧ m0.toInt ≤ 100 := b_m0
  have f_x_now : hl1.2.1 ax 2 = nw := he_nw.trans f_m_now
  have f_x_personCount : hl1.2.1 ax 8 = np := he_np.trans f_m_persons
  have f_x_claimCount : hl1.2.1 ax 11 = c0 := he_c0.trans f_m_claims
  obtain ⟨mw, f_mw, g_mw⟩ := hx_rf hT gm tt_10 (k := 19) (u := 57) rfl
  obtain ⟨F_mw, n_mw⟩ : ∃ g : Nat → Int32, hl1.2.1 mw = g := ⟨_, rfl⟩
  obtain ⟨mr, f_mr, g_mr⟩ := hx_rf hT gm tt_10 (k := 3) (u := 50) rfl
  obtain ⟨F_mr, n_mr⟩ : ∃ g : Nat → Int32, hl1.2.1 mr = g := ⟨_, rfl⟩
  obtain ⟨mp, f_mp, g_mp⟩ := hx_rf hT gm tt_10 (k := 5) (u := 52) rfl
  obtain ⟨F_mp, n_mp⟩ : ∃ g : Nat → Int32, hl1.2.1 mp = g := ⟨_, rfl⟩
  obtain ⟨mn, f_mn, g_mn⟩ := hx_rf hT gm tt_10 (k := 4) (u := 51) rfl
  obtain ⟨F_mn, n_mn⟩ : ∃ g : Nat → Int32, hl1.2.1 mn = g := ⟨_, rfl⟩
  obtain ⟨ml, f_ml, g_ml⟩ := hx_rf hT gm tt_10 (k := 44) (u := 79) rfl
  obtain ⟨F_ml, n_ml⟩ : ∃ g : Nat → Int32, hl1.2.1 ml = g := ⟨_, rfl⟩
  obtain ⟨mh, f_mh, g_mh⟩ := hx_rf hT gm tt_10 (k := 47) (u := 82) rfl
  obtain ⟨F_mh, n_mh⟩ : ∃ g : Nat → Int32, hl1.2.1 mh = g := ⟨_, rfl⟩
  obtain ⟨mt, f_mt, g_mt⟩ := hx_rf hT gm tt_10 (k := 45) (u := 80) rfl
  obtain ⟨F_mt, n_mt⟩ : ∃ g : Nat → Int32, hl1.2.1 mt = g := ⟨_, rfl⟩
  obtain ⟨m_fou, f_m_fou, g_m_fou⟩ := hx_rf hT gm tt_10 (k := 46) (u := 81) rfl
  obtain ⟨F_m_fou, n_m_fou⟩ : ∃ g : Nat → Int32, hl1.2.1 m_fou = g := ⟨_, rfl⟩
  obtain ⟨qo_ln, f_qo_ln, g_qo_ln⟩ := hx_rf hT gx tt_9 (k := 9) (u := 1) rfl
  have f_o_ln : hl1.2.1 qo_ln 0 = ln := (ho_ln qo_ln f_qo_ln).trans f_m_lines
  have f_o_lsd : hl1.2.1 qw 0 = lsd := (ho_lsd qw f_qw).trans f_m_listed
  have nu_qp := hn_qp qp f_qp; rw [f_x_personCount] at nu_qp
  have nu_qc := hn_qc qc f_qc; rw [f_x_claimCount] at nu_qc
  obtain ⟨b_of, f_b_of, g_b_of⟩ := hx_rf hT g_qo_ln tt_1 (k := 1) (u := 13) rfl
  obtain ⟨B_of, n_b_of⟩ : ∃ g : Nat → Int32, hl1.2.1 b_of = g := ⟨_, rfl⟩
  obtain ⟨m_of, f_m_of, g_m_of⟩ := hx_rf hT gm tt_10 (k := 30) (u := 66) rfl
  obtain ⟨F_of, n_m_of⟩ : ∃ g : Nat → Int32, hl1.2.1 m_of = g := ⟨_, rfl⟩
  have eb_of := hk_of qo_ln b_of m_of f_qo_ln f_b_of f_m_of; rw [n_b_of, n_m_of, f_o_ln] at eb_of
  obtain ⟨b_wf, f_b_wf, g_b_wf⟩ := hx_rf hT g_qo_ln tt_1 (k := 2) (u := 14) rfl
  obtain ⟨B_wf, n_b_wf⟩ : ∃ g : Nat → Int32, hl1.2.1 b_wf = g := ⟨_, rfl⟩
  obtain ⟨m_wf, f_m_wf, g_m_wf⟩ := hx_rf hT gm tt_10 (k := 31) (u := 67) rfl
  obtain ⟨F_wf, n_m_wf⟩ : ∃ g : Nat → Int32, hl1.2.1 m_wf = g := ⟨_, rfl⟩
  have eb_wf := hk_wf qo_ln b_wf m_wf f_qo_ln f_b_wf f_m_wf; rw [n_b_wf, n_m_wf, f_o_ln] at eb_wf
  obtain ⟨b_df, f_b_df, g_b_df⟩ := hx_rf hT g_qo_ln tt_1 (k := 3) (u := 15) rfl
  obtain ⟨B_df, n_b_df⟩ : ∃ g : Nat → Int32, hl1.2.1 b_df = g := ⟨_, rfl⟩
  obtain ⟨m_df, f_m_df, g_m_df⟩ := hx_rf hT gm tt_10 (k := 32) (u := 68) rfl
  obtain ⟨F_df, n_m_df⟩ : ∃ g : Nat → Int32, hl1.2.1 m_df = g := ⟨_, rfl⟩
  have eb_df := hk_df qo_ln b_df m_df f_qo_ln f_b_df f_m_df; rw [n_b_df, n_m_df, f_o_ln] at eb_df
  obtain ⟨b_kf, f_b_kf, g_b_kf⟩ := hx_rf hT g_qo_ln tt_1 (k := 4) (u := 16) rfl
  obtain ⟨B_kf, n_b_kf⟩ : ∃ g : Nat → Int32, hl1.2.1 b_kf = g := ⟨_, rfl⟩
  obtain ⟨m_kf, f_m_kf, g_m_kf⟩ := hx_rf hT gm tt_10 (k := 33) (u := 69) rfl
  obtain ⟨F_kf, n_m_kf⟩ : ∃ g : Nat → Int32, hl1.2.1 m_kf = g := ⟨_, rfl⟩
  have eb_kf := hk_kf qo_ln b_kf m_kf f_qo_ln f_b_kf f_m_kf; rw [n_b_kf, n_m_kf, f_o_ln] at eb_kf
  obtain ⟨b_sf, f_b_sf, g_b_sf⟩ := hx_rf hT g_qo_ln tt_1 (k := 5) (u := 17) rfl
  obtain ⟨B_sf, n_b_sf⟩ : ∃ g : Nat → Int32, hl1.2.1 b_sf = g := ⟨_, rfl⟩
  obtain ⟨m_sf, f_m_sf, g_m_sf⟩ := hx_rf hT gm tt_10 (k := 34) (u := 70) rfl
  obtain ⟨F_sf, n_m_sf⟩ : ∃ g : Nat → Int32, hl1.2.1 m_sf = g := ⟨_, rfl⟩
  have eb_sf := hk_sf qo_ln b_sf m_sf f_qo_ln f_b_sf f_m_sf; rw [n_b_sf, n_m_sf, f_o_ln] at eb_sf
  obtain ⟨b_bf, f_b_bf, g_b_bf⟩ := hx_rf hT g_qo_ln tt_1 (k := 6) (u := 18) rfl
  obtain ⟨bfL, n_b_bf⟩ : ∃ g : Nat → Int32, hl1.2.1 b_bf = g := ⟨_, rfl⟩
  obtain ⟨hBD, hDY⟩ := hkBD qo_ln b_df b_bf f_qo_ln f_b_df f_b_bf; rw [n_b_df, n_b_bf, f_o_ln] at hBD; rw [n_b_df, f_o_ln] at hDY
  have hBDm := hy_BD_c eb_df hBD
  have hDYm : hy_DY F_df ln.toInt.toNat := fun x hx => by rw [← eb_df x hx]; exact hDY x hx
  have sb_list := hLQ qw ql qc f_qw f_ql f_qc
  obtain ⟨m_lst, f_m_lst, g_m_lst⟩ := hx_rf hT gm tt_10 (k := 91) (u := 112) rfl
  obtain ⟨F_lst, n_lst⟩ : ∃ g : Nat → Int32, hl1.2.1 m_lst = g := ⟨_, rfl⟩
  obtain ⟨c_lst, cl_lst⟩ : ∃ g : Nat → Int32, hx_col 8 hl1 ql 0 = g := ⟨_, rfl⟩
  have eq_lst := hLE qw ql m_lst f_qw f_ql f_m_lst; rw [cl_lst, n_lst] at eq_lst
  obtain ⟨c_dead, cl_dead⟩ : ∃ g : Nat → Int32, hx_col 40 hl1 qp 7 = g := ⟨_, rfl⟩
  obtain ⟨m_dead, f_m_dead, g_m_dead⟩ := hx_rf hT gm tt_10 (k := 27) (u := 64) rfl
  obtain ⟨F_dead, n_dead⟩ : ∃ g : Nat → Int32, hl1.2.1 m_dead = g := ⟨_, rfl⟩
  have eq_dead := hc_dead qp m_dead f_qp f_m_dead; rw [cl_dead, n_dead] at eq_dead
  have z_dead : np.toInt.toNat < 40 → c_dead np.toInt.toNat = 0 := fun hj => hx_num_z nu_qp cl_dead hj (by omega)
  obtain ⟨c_isj, cl_isj⟩ : ∃ g : Nat → Int32, hx_col 40 hl1 qp 8 = g := ⟨_, rfl⟩
  obtain ⟨m_isj, f_m_isj, g_m_isj⟩ := hx_rf hT gm tt_10 (k := 28) (u := 65) rfl
  obtain ⟨F_isj, n_isj⟩ : ∃ g : Nat → Int32, hl1.2.1 m_isj = g := ⟨_, rfl⟩
  have eq_isj := hc_isj qp m_isj f_qp f_m_isj; rw [cl_isj, n_isj] at eq_isj
  have z_isj : np.toInt.toNat < 40 → c_isj np.toInt.toNat = 0 := fun hj => hx_num_z nu_qp cl_isj hj (by omega)
  obtain ⟨c_fou, cl_fou⟩ : ∃ g : Nat → Int32, hx_col 100 hl1 qc 10 = g := ⟨_, rfl⟩
  have eq_fou := hc_fou qc m_fou f_qc f_m_fou; rw [cl_fou, n_m_fou] at eq_fou
  have z_fou : c0.toInt.toNat < 100 → c_fou c0.toInt.toNat = 0 := fun hj => hx_num_z nu_qc cl_fou hj (by omega)
  obtain ⟨c_tri, cl_tri⟩ : ∃ g : Nat → Int32, hx_col 100 hl1 qc 9 = g := ⟨_, rfl⟩
  have eq_tri := hc_tri qc mt f_qc f_mt; rw [cl_tri, n_mt] at eq_tri
  have z_tri : c0.toInt.toNat < 100 → c_tri c0.toInt.toNat = 0 := fun hj => hx_num_z nu_qc cl_tri hj (by omega)
  have hwd := jw mw f_mw; rw [n_mw] at hwd
  have hWK := jr mr f_mr; rw [n_mr, f_m_acts] at hWK
  have hRP := jp mp mn f_mp f_mn; rw [n_mp, n_mn, f_m_acts] at hRP
  have hPL := jl ml f_ml; rw [n_ml, f_m_claims, f_m_acts] at hPL
  have hHC := jh mh f_mh; rw [n_mh, f_m_heardMany, f_m_claims] at hHC
  have hTR := jt mt f_mt; rw [n_mt] at hTR
  have hHF := jf mh m_fou f_mh f_m_fou; rw [n_mh, n_m_fou, f_m_claims] at hHF
  refine lv_aload_n hx hb dL_law_1254 rfl (lv_at hl 2 rfl) ?_
  have hTo := hT
  refine hx_goi (hx_runV (As := []) (rest := []) ⟨hx, hb, hml, hown, hts⟩ hW gx tt_9 (T := TX9) (N := 20) rfl (t_X9_walk_2 l dC dI dA L1 hl1 H.size ax hT gx qw g_qw f_qw ql g_ql f_ql pf_ql) (cwV 0 hts (hx_gV kw_1051 kw_1048 kw_1049 kw_1050 kw_94) rfl rfl rfl (by decide +kernel) ⟨Nat.le_of_ble_eq_true rfl, Nat.le_of_ble_eq_true rfl⟩) rfl hl.1 rfl (Nat.le_of_ble_eq_true rfl) dL_law_1255 ⟨(show CC + 0 ≤ 600000 from by omega), (show SS + 0 ≤ 7302250 from by omega)⟩) hW (fun r_667 L_665 h_666 H locs p_668 hW => ?_)
  obtain ⟨⟨w_670, fw_670, hr_669⟩, hT, hs⟩ := p_668
  have hT : hx_T T_tb L_665 h_666 := hT
  have hs : hx_S T_tb [(8, 0), (8, 1), (39, 0), (41, 0)] L1 hl1 L_665 h_666 := hs
  have f_qa := (hs.o gx trivial rfl).2.trans f_qa
  have f_qp := (hs.o gx trivial rfl).2.trans f_qp
  have f_qc := (hs.o gx trivial rfl).2.trans f_qc
  have f_qh := (hs.o gx trivial rfl).2.trans f_qh
  have f_qw := (hs.o gx trivial rfl).2.trans f_qw
  have f_ql := (hs.o g_qw trivial rfl).2.trans f_ql
  have f_m_now := (hs.o gm trivial rfl).1.trans f_m_now
  have f_m_persons := (hs.o gm trivial rfl).1.trans f_m_persons
  have f_m_claims := (hs.o gm trivial rfl).1.trans f_m_claims
  have f_m_lines := (hs.o gm trivial rfl).1.trans f_m_lines
  have f_m_listed := (hs.o gm trivial rfl).1.trans f_m_listed
  have f_m_acts := (hs.o gm trivial rfl).1.trans f_m_acts
  have f_m_heardMany := (hs.o gm trivial rfl).1.trans f_m_heardMany
  have f_x_now := (hs.o gx trivial rfl).1.trans f_x_now
  have f_x_personCount := (hs.o gx trivial rfl).1.trans f_x_personCount
  have f_x_claimCount := (hs.o gx trivial rfl).1.trans f_x_claimCount
  have f_mw := (hs.o gm trivial rfl).2.trans f_mw
  have f_mr := (hs.o gm trivial rfl).2.trans f_mr
  have f_mp := (hs.o gm trivial rfl).2.trans f_mp
  have f_mn := (hs.o gm trivial rfl).2.trans f_mn
  have f_ml := (hs.o gm trivial rfl).2.trans f_ml
  have f_mh := (hs.o gm trivial rfl).2.trans f_mh
  have f_mt := (hs.o gm trivial rfl).2.trans f_mt
  have f_m_fou := (hs.o gm trivial rfl).2.trans f_m_fou
  have f_qo_ln := (hs.o gx trivial rfl).2.trans f_qo_ln
  have f_o_ln := (hs.o g_qo_ln trivial rfl).1.trans f_o_ln
  have f_b_of := (hs.o g_qo_ln trivial rfl).2.trans f_b_of
  have f_m_of := (hs.o gm trivial rfl).2.trans f_m_of
  have f_b_wf := (hs.o g_qo_ln trivial rfl).2.trans f_b_wf
  have f_m_wf := (hs.o gm trivial rfl).2.trans f_m_wf
  have f_b_df := (hs.o g_qo_ln trivial rfl).2.trans f_b_df
  have f_m_df := (hs.o gm trivial rfl).2.trans f_m_df
  have f_b_kf := (hs.o g_qo_ln trivial rfl).2.trans f_b_kf
  have f_m_kf := (hs.o gm trivial rfl).2.trans f_m_kf
  have f_b_sf := (hs.o g_qo_ln trivial rfl).2.trans f_b_sf
  have f_m_sf := (hs.o gm trivial rfl).2.trans f_m_sf
  have f_b_bf := (hs.o g_qo_ln trivial rfl).2.trans f_b_bf
  have f_m_lst := (hs.o gm trivial rfl).2.trans f_m_lst
  have f_m_dead := (hs.o gm trivial rfl).2.trans f_m_dead
  have f_m_isj := (hs.o gm trivial rfl).2.trans f_m_isj
  have pf_qa : ∀ j : Nat, (j : Int) < (h_666.2.1 ax 6).toInt → h_666.2.2 qa j ≠ none := by
    intro j hj; rw [(hs.o gx trivial rfl).1] at hj; rw [(hs.a g_qa rfl j).2]; exact pf_qa j hj
  have pf_qp : ∀ j : Nat, (j : Int) < (h_666.2.1 ax 8).toInt → h_666.2.2 qp j ≠ none := by
    intro j hj; rw [(hs.o gx trivial rfl).1] at hj; rw [(hs.a g_qp rfl j).2]; exact pf_qp j hj
  have pf_qc : ∀ j : Nat, (j : Int) < (h_666.2.1 ax 11).toInt → h_666.2.2 qc j ≠ none := by
    intro j hj; rw [(hs.o gx trivial rfl).1] at hj; rw [(hs.a g_qc rfl j).2]; exact pf_qc j hj
  have pf_qh : ∀ j : Nat, (j : Int) < (h_666.2.1 ax 13).toInt → h_666.2.2 qh j ≠ none := by
    intro j hj; rw [(hs.o gx trivial rfl).1] at hj; rw [(hs.a g_qh rfl j).2]; exact pf_qh j hj
  have cl_lst : hx_col 8 h_666 ql 0 = c_lst := (hx_col_S hs hTo g_ql tt_40 tt_2 rfl rfl).trans cl_lst
  have cl_dead : hx_col 40 h_666 qp 7 = c_dead := (hx_col_S hs hTo g_qp tt_44 tt_4 rfl rfl).trans cl_dead
  have cl_isj : hx_col 40 h_666 qp 8 = c_isj := (hx_col_S hs hTo g_qp tt_44 tt_4 rfl rfl).trans cl_isj
  have cl_fou : hx_col 100 h_666 qc 10 = c_fou := (hx_col_S hs hTo g_qc tt_45 tt_2 rfl rfl).trans cl_fou
  have cl_tri : hx_col 100 h_666 qc 9 = c_tri := (hx_col_S hs hTo g_qc tt_45 tt_2 rfl rfl).trans cl_tri
  have nu_qp : hx_num 40 h_666 qp 0 (np.toInt) := hx_num_S hs hTo g_qp tt_44 tt_4 rfl rfl nu_qp
  have nu_qc : hx_num 100 h_666 qc 0 (c0.toInt) := hx_num_S hs hTo g_qc tt_45 tt_2 rfl rfl nu_qc
  have sb_list : hx_LQ 8 100 h_666 ql qc := hx_LQ_S hs g_ql g_qc rfl rfl sb_list
  have n_mw : h_666.2.1 mw = F_mw := (funext fun j => (hs.a g_mw rfl j).1).trans n_mw
  have n_mr : h_666.2.1 mr = F_mr := (funext fun j => (hs.a g_mr rfl j).1).trans n_mr
  have n_mp : h_666.2.1 mp = F_mp := (funext fun j => (hs.a g_mp rfl j).1).trans n_mp
  have n_mn : h_666.2.1 mn = F_mn := (funext fun j => (hs.a g_mn rfl j).1).trans n_mn
  have n_ml : h_666.2.1 ml = F_ml := (funext fun j => (hs.a g_ml rfl j).1).trans n_ml
  have n_mh : h_666.2.1 mh = F_mh := (funext fun j => (hs.a g_mh rfl j).1).trans n_mh
  have n_mt : h_666.2.1 mt = F_mt := (funext fun j => (hs.a g_mt rfl j).1).trans n_mt
  have n_m_fou : h_666.2.1 m_fou = F_m_fou := (funext fun j => (hs.a g_m_fou rfl j).1).trans n_m_fou
  have n_b_of : h_666.2.1 b_of = B_of := (funext fun j => (hs.a g_b_of rfl j).1).trans n_b_of
  have n_m_of : h_666.2.1 m_of = F_of := (funext fun j => (hs.a g_m_of rfl j).1).trans n_m_of
  have n_b_wf : h_666.2.1 b_wf = B_wf := (funext fun j => (hs.a g_b_wf rfl j).1).trans n_b_wf
  have n_m_wf : h_666.2.1 m_wf = F_wf := (funext fun j => (hs.a g_m_wf rfl j).1).trans n_m_wf
  have n_b_df : h_666.2.1 b_df = B_df := (funext fun j => (hs.a g_b_df rfl j).1).trans n_b_df
  have n_m_df : h_666.2.1 m_df = F_df := (funext fun j => (hs.a g_m_df rfl j).1).trans n_m_df
  have n_b_kf : h_666.2.1 b_kf = B_kf := (funext fun j => (hs.a g_b_kf rfl j).1).trans n_b_kf
  have n_m_kf : h_666.2.1 m_kf = F_kf := (funext fun j => (hs.a g_m_kf rfl j).1).trans n_m_kf
  have n_b_sf : h_666.2.1 b_sf = B_sf := (funext fun j => (hs.a g_b_sf rfl j).1).trans n_b_sf
  have n_m_sf : h_666.2.1 m_sf = F_sf := (funext fun j => (hs.a g_m_sf rfl j).1).trans n_m_sf
  have n_b_bf : h_666.2.1 b_bf = bfL := (funext fun j => (hs.a g_b_bf rfl j).1).trans n_b_bf
  have n_lst : h_666.2.1 m_lst = F_lst := (funext fun j => (hs.a g_m_lst rfl j).1).trans n_lst
  have n_dead : h_666.2.1 m_dead = F_dead := (funext fun j => (hs.a g_m_dead rfl j).1).trans n_dead
  have n_isj : h_666.2.1 m_isj = F_isj := (funext fun j => (hs.a g_m_isj rfl j).1).trans n_isj
  have gx := gx.S hs
  have gm := gm.S hs
  have g_qa := g_qa.S hs
  have g_qp := g_qp.S hs
  have g_qc := g_qc.S hs
  have g_qh := g_qh.S hs
  have g_qw := g_qw.S hs
  have g_ql := g_ql.S hs
  have g_mw := g_mw.S hs
  have g_mr := g_mr.S hs
  have g_mp := g_mp.S hs
  have g_mn := g_mn.S hs
  have g_ml := g_ml.S hs
  have g_mh := g_mh.S hs
  have g_mt := g_mt.S hs
  have g_m_fou := g_m_fou.S hs
  have g_qo_ln := g_qo_ln.S hs
  have g_b_of := g_b_of.S hs
  have g_m_of := g_m_of.S hs
  have g_b_wf := g_b_wf.S hs
  have g_m_wf := g_m_wf.S hs
  have g_b_df := g_b_df.S hs
  have g_m_df := g_m_df.S hs
  have g_b_kf := g_b_kf.S hs
  have g_m_kf := g_m_kf.S hs
  have g_b_sf := g_b_sf.S hs
  have g_m_sf := g_m_sf.S hs
  have g_b_bf := g_b_bf.S hs
  have g_m_lst := g_m_lst.S hs
  have g_m_dead := g_m_dead.S hs
  have g_m_isj := g_m_isj.S hs
  have fw_670 : h_666.2.1 qw 0 = w_670 := fw_670
  have bw_670 := hT.gi g_qw tt_8 (k := 0) rfl
  rw [fw_670] at bw_670
  have bw_670 : 0 ≤ w_670.toInt ∧ w_670.toInt ≤ 8 := bw_670
  refine lv_pop hx hb dL_law_1258 rfl ?_
  refine lv_aload_n hx hb dL_law_1259 rfl (lv_at hl 1 rfl) ?_
  have hTo := hT
  obtain ⟨q_671, fq_671, gq_671⟩ := hx_rf hT gm tt_10 (k := 38) (u := 73) rfl
  obtain ⟨q_672, fq_672, gq_672⟩ := hx_rf hT gm tt_10 (k := 24) (u := 61) rfl
  obtain ⟨q_673, fq_673, gq_673⟩ := hx_rf hT gm tt_10 (k := 25) (u := 62) rfl
  obtain ⟨q_674, fq_674, gq_674⟩ := hx_rf hT gm tt_10 (k := 94) (u := 114) rfl
  obtain ⟨fa_675, nfa_675⟩ : ∃ g : Nat → Int32, h_666.2.1 q_671 = g := ⟨_, rfl⟩
  obtain ⟨fa_676, nfa_676⟩ : ∃ g : Nat → Int32, h_666.2.1 q_672 = g := ⟨_, rfl⟩
  obtain ⟨fa_677, nfa_677⟩ : ∃ g : Nat → Int32, h_666.2.1 q_673 = g := ⟨_, rfl⟩
  obtain ⟨fa_678, nfa_678⟩ : ∃ g : Nat → Int32, h_666.2.1 q_674 = g := ⟨_, rfl⟩
  refine hx_goi (hx_runV (As := []) (rest := []) ⟨hx, hb, hml, hown, hts⟩ hW gm tt_10 (T := TX10) (N := 98) rfl (t_X10_walk l dC dI dA L_665 h_666 H.size am hT gm m_lst g_m_lst f_m_lst q_671 gq_671 fq_671 q_672 gq_672 fq_672 q_673 gq_673 fq_673 q_674 gq_674 fq_674 F_lst n_lst fa_675 nfa_675 fa_676 nfa_676 fa_677 nfa_677 fa_678 nfa_678 lsd f_m_listed) (cwV 0 hts (hx_gV kw_1721 kw_1718 kw_1719 kw_1720 kw_103) rfl rfl rfl (by decide +kernel) ⟨Nat.le_of_ble_eq_true rfl, Nat.le_of_ble_eq_true rfl⟩) rfl hl.1 rfl (Nat.le_of_ble_eq_true rfl) dL_law_1260 ⟨(show CC + 0 + 0 ≤ 600000 from by omega), (show SS + 0 + 0 ≤ 7302250 from by omega)⟩) hW (fun r_681 L_679 h_680 H locs p_682 hW => ?_)
  obtain ⟨⟨w_684, fw_684, hr_683⟩, hT, hs⟩ := p_682
  have hT : hx_T T_tb L_679 h_680 := hT
  have hs : hx_S T_tb [(10, 90), (10, 92), (113, 0), (114, 0)] L_665 h_666 L_679 h_680 := hs
  have f_qa := (hs.o gx trivial rfl).2.trans f_qa
  have f_qp := (hs.o gx trivial rfl).2.trans f_qp
  have f_qc := (hs.o gx trivial rfl).2.trans f_qc
  have f_qh := (hs.o gx trivial rfl).2.trans f_qh
  have f_qw := (hs.o gx trivial rfl).2.trans f_qw
  have f_ql := (hs.o g_qw trivial rfl).2.trans f_ql
  have f_m_now := (hs.o gm trivial rfl).1.trans f_m_now
  have f_m_persons := (hs.o gm trivial rfl).1.trans f_m_persons
  have f_m_claims := (hs.o gm trivial rfl).1.trans f_m_claims
  have f_m_lines := (hs.o gm trivial rfl).1.trans f_m_lines
  have f_m_acts := (hs.o gm trivial rfl).1.trans f_m_acts
  have f_m_heardMany := (hs.o gm trivial rfl).1.trans f_m_heardMany
  have f_x_now := (hs.o gx trivial rfl).1.trans f_x_now
  have f_x_personCount := (hs.o gx trivial rfl).1.trans f_x_personCount
  have f_x_claimCount := (hs.o gx trivial rfl).1.trans f_x_claimCount
  have f_mw := (hs.o gm trivial rfl).2.trans f_mw
  have f_mr := (hs.o gm trivial rfl).2.trans f_mr
  have f_mp := (hs.o gm trivial rfl).2.trans f_mp
  have f_mn := (hs.o gm trivial rfl).2.trans f_mn
  have f_ml := (hs.o gm trivial rfl).2.trans f_ml
  have f_mh := (hs.o gm trivial rfl).2.trans f_mh
  have f_mt := (hs.o gm trivial rfl).2.trans f_mt
  have f_m_fou := (hs.o gm trivial rfl).2.trans f_m_fou
  have f_qo_ln := (hs.o gx trivial rfl).2.trans f_qo_ln
  have f_o_ln := (hs.o g_qo_ln trivial rfl).1.trans f_o_ln
  have f_b_of := (hs.o g_qo_ln trivial rfl).2.trans f_b_of
  have f_m_of := (hs.o gm trivial rfl).2.trans f_m_of
  have f_b_wf := (hs.o g_qo_ln trivial rfl).2.trans f_b_wf
  have f_m_wf := (hs.o gm trivial rfl).2.trans f_m_wf
  have f_b_df := (hs.o g_qo_ln trivial rfl).2.trans f_b_df
  have f_m_df := (hs.o gm trivial rfl).2.trans f_m_df
  have f_b_kf := (hs.o g_qo_ln trivial rfl).2.trans f_b_kf
  have f_m_kf := (hs.o gm trivial rfl).2.trans f_m_kf
  have f_b_sf := (hs.o g_qo_ln trivial rfl).2.trans f_b_sf
  have f_m_sf := (hs.o gm trivial rfl).2.trans f_m_sf
  have f_b_bf := (hs.o g_qo_ln trivial rfl).2.trans f_b_bf
  have f_m_lst := (hs.o gm trivial rfl).2.trans f_m_lst
  have f_m_dead := (hs.o gm trivial rfl).2.trans f_m_dead
  have f_m_isj := (hs.o gm trivial rfl).2.trans f_m_isj
  have fw_670 := (hs.o g_qw trivial rfl).1.trans fw_670
  have fq_671 := (hs.o gm trivial rfl).2.trans fq_671
  have fq_672 := (hs.o gm trivial rfl).2.trans fq_672
  have fq_673 := (hs.o gm trivial rfl).2.trans fq_673
  have fq_674 := (hs.o gm trivial rfl).2.trans fq_674
  have pf_qa : ∀ j : Nat, (j : Int) < (h_680.2.1 ax 6).toInt → h_680.2.2 qa j ≠ none := by
    intro j hj; rw [(hs.o gx trivial rfl).1] at hj; rw [(hs.a g_qa rfl j).2]; exact pf_qa j hj
  have pf_qp : ∀ j : Nat, (j : Int) < (h_680.2.1 ax 8).toInt → h_680.2.2 qp j ≠ none := by
    intro j hj; rw [(hs.o gx trivial rfl).1] at hj; rw [(hs.a g_qp rfl j).2]; exact pf_qp j hj
  have pf_qc : ∀ j : Nat, (j : Int) < (h_680.2.1 ax 11).toInt → h_680.2.2 qc j ≠ none := by
    intro j hj; rw [(hs.o gx trivial rfl).1] at hj; rw [(hs.a g_qc rfl j).2]; exact pf_qc j hj
  have pf_qh : ∀ j : Nat, (j : Int) < (h_680.2.1 ax 13).toInt → h_680.2.2 qh j ≠ none := by
    intro j hj; rw [(hs.o gx trivial rfl).1] at hj; rw [(hs.a g_qh rfl j).2]; exact pf_qh j hj
  have cl_lst : hx_col 8 h_680 ql 0 = c_lst := (hx_col_S hs hTo g_ql tt_40 tt_2 rfl rfl).trans cl_lst
  have cl_dead : hx_col 40 h_680 qp 7 = c_dead := (hx_col_S hs hTo g_qp tt_44 tt_4 rfl rfl).trans cl_dead
  have cl_isj : hx_col 40 h_680 qp 8 = c_isj := (hx_col_S hs hTo g_qp tt_44 tt_4 rfl rfl).trans cl_isj
  have cl_fou : hx_col 100 h_680 qc 10 = c_fou := (hx_col_S hs hTo g_qc tt_45 tt_2 rfl rfl).trans cl_fou
  have cl_tri : hx_col 100 h_680 qc 9 = c_tri := (hx_col_S hs hTo g_qc tt_45 tt_2 rfl rfl).trans cl_tri
  have nu_qp : hx_num 40 h_680 qp 0 (np.toInt) := hx_num_S hs hTo g_qp tt_44 tt_4 rfl rfl nu_qp
  have nu_qc : hx_num 100 h_680 qc 0 (c0.toInt) := hx_num_S hs hTo g_qc tt_45 tt_2 rfl rfl nu_qc
  have sb_list : hx_LQ 8 100 h_680 ql qc := hx_LQ_S hs g_ql g_qc rfl rfl sb_list
  have n_mw : h_680.2.1 mw = F_mw := (funext fun j => (hs.a g_mw rfl j).1).trans n_mw
  have n_mr : h_680.2.1 mr = F_mr := (funext fun j => (hs.a g_mr rfl j).1).trans n_mr
  have n_mp : h_680.2.1 mp = F_mp := (funext fun j => (hs.a g_mp rfl j).1).trans n_mp
  have n_mn : h_680.2.1 mn = F_mn := (funext fun j => (hs.a g_mn rfl j).1).trans n_mn
  have n_ml : h_680.2.1 ml = F_ml := (funext fun j => (hs.a g_ml rfl j).1).trans n_ml
  have n_mh : h_680.2.1 mh = F_mh := (funext fun j => (hs.a g_mh rfl j).1).trans n_mh
  have n_mt : h_680.2.1 mt = F_mt := (funext fun j => (hs.a g_mt rfl j).1).trans n_mt
  have n_m_fou : h_680.2.1 m_fou = F_m_fou := (funext fun j => (hs.a g_m_fou rfl j).1).trans n_m_fou
  have n_b_of : h_680.2.1 b_of = B_of := (funext fun j => (hs.a g_b_of rfl j).1).trans n_b_of
  have n_m_of : h_680.2.1 m_of = F_of := (funext fun j => (hs.a g_m_of rfl j).1).trans n_m_of
  have n_b_wf : h_680.2.1 b_wf = B_wf := (funext fun j => (hs.a g_b_wf rfl j).1).trans n_b_wf
  have n_m_wf : h_680.2.1 m_wf = F_wf := (funext fun j => (hs.a g_m_wf rfl j).1).trans n_m_wf
  have n_b_df : h_680.2.1 b_df = B_df := (funext fun j => (hs.a g_b_df rfl j).1).trans n_b_df
  have n_m_df : h_680.2.1 m_df = F_df := (funext fun j => (hs.a g_m_df rfl j).1).trans n_m_df
  have n_b_kf : h_680.2.1 b_kf = B_kf := (funext fun j => (hs.a g_b_kf rfl j).1).trans n_b_kf
  have n_m_kf : h_680.2.1 m_kf = F_kf := (funext fun j => (hs.a g_m_kf rfl j).1).trans n_m_kf
  have n_b_sf : h_680.2.1 b_sf = B_sf := (funext fun j => (hs.a g_b_sf rfl j).1).trans n_b_sf
  have n_m_sf : h_680.2.1 m_sf = F_sf := (funext fun j => (hs.a g_m_sf rfl j).1).trans n_m_sf
  have n_b_bf : h_680.2.1 b_bf = bfL := (funext fun j => (hs.a g_b_bf rfl j).1).trans n_b_bf
  have n_lst : h_680.2.1 m_lst = F_lst := (funext fun j => (hs.a g_m_lst rfl j).1).trans n_lst
  have n_dead : h_680.2.1 m_dead = F_dead := (funext fun j => (hs.a g_m_dead rfl j).1).trans n_dead
  have n_isj : h_680.2.1 m_isj = F_isj := (funext fun j => (hs.a g_m_isj rfl j).1).trans n_isj
  have nfa_675 : h_680.2.1 q_671 = fa_675 := (funext fun j => (hs.a gq_671 rfl j).1).trans nfa_675
  have nfa_676 : h_680.2.1 q_672 = fa_676 := (funext fun j => (hs.a gq_672 rfl j).1).trans nfa_676
  have nfa_677 : h_680.2.1 q_673 = fa_677 := (funext fun j => (hs.a gq_673 rfl j).1).trans nfa_677
  have gx := gx.S hs
  have gm := gm.S hs
  have g_qa := g_qa.S hs
  have g_qp := g_qp.S hs
  have g_qc := g_qc.S hs
  have g_qh := g_qh.S hs
  have g_qw := g_qw.S hs
  have g_ql := g_ql.S hs
  have g_mw := g_mw.S hs
  have g_mr := g_mr.S hs
  have g_mp := g_mp.S hs
  have g_mn := g_mn.S hs
  have g_ml := g_ml.S hs
  have g_mh := g_mh.S hs
  have g_mt := g_mt.S hs
  have g_m_fou := g_m_fou.S hs
  have g_qo_ln := g_qo_ln.S hs
  have g_b_of := g_b_of.S hs
  have g_m_of := g_m_of.S hs
  have g_b_wf := g_b_wf.S hs
  have g_m_wf := g_m_wf.S hs
  have g_b_df := g_b_df.S hs
  have g_m_df := g_m_df.S hs
  have g_b_kf := g_b_kf.S hs
  have g_m_kf := g_m_kf.S hs
  have g_b_sf := g_b_sf.S hs
  have g_m_sf := g_m_sf.S hs
  have g_b_bf := g_b_bf.S hs
  have g_m_lst := g_m_lst.S hs
  have g_m_dead := g_m_dead.S hs
  have g_m_isj := g_m_isj.S hs
  have gq_671 := gq_671.S hs
  have gq_672 := gq_672.S hs
  have gq_673 := gq_673.S hs
  have gq_674 := gq_674.S hs
  have fw_684 : h_680.2.1 am 90 = w_684 := fw_684
  have bw_684 := hT.gi gm tt_10 (k := 90) rfl
  rw [fw_684] at bw_684
  have bw_684 : 0 ≤ w_684.toInt ∧ w_684.toInt ≤ 8 := bw_684
  refine lv_pop hx hb dL_law_1263 rfl ?_
  refine lv_goto (tgt := 1379) hx hb dL_law_1264 (by decide) ?_
  have pfw : ∀ j : Nat, (j : Int) < (h_680.2.1 qw 0).toInt → h_680.2.2 ql j ≠ none := hx_pf1 fw_670 hr_669
  have hq_lsd : w_670 = w_684 := Int32.toInt_inj.mp (hr_669.trans hr_683.symm)
  refine W.widen (k := CC + 3) (n := SS + 179) (by omega) (by omega) ?_
  exact kk L_679 h_680 H locs ls hW ⟨hT, gx, gm, ⟨f_x_now.trans f_m_now.symm, f_x_personCount.trans f_m_persons.symm, f_x_claimCount.trans f_m_claims.symm, hx_ob f_qo_ln (f_o_ln.trans f_m_lines.symm), hx_ob f_qw ((fw_670.trans hq_lsd).trans fw_684.symm), hx_ob f_qp (by rw [f_x_personCount]; exact nu_qp), hx_ob f_qc (by rw [f_x_claimCount]; exact nu_qc), (fun b a r hb ha hr => by obtain rfl : qo_ln = b := Option.some.inj (f_qo_ln.symm.trans hb); obtain rfl : b_of = a := Option.some.inj (f_b_of.symm.trans ha); obtain rfl : m_of = r := Option.some.inj (f_m_of.symm.trans hr); rw [n_b_of, n_m_of, f_o_ln]; exact eb_of), (fun b a r hb ha hr => by obtain rfl : qo_ln = b := Option.some.inj (f_qo_ln.symm.trans hb); obtain rfl : b_wf = a := Option.some.inj (f_b_wf.symm.trans ha); obtain rfl : m_wf = r := Option.some.inj (f_m_wf.symm.trans hr); rw [n_b_wf, n_m_wf, f_o_ln]; exact eb_wf), (fun b a r hb ha hr => by obtain rfl : qo_ln = b := Option.some.inj (f_qo_ln.symm.trans hb); obtain rfl : b_df = a := Option.some.inj (f_b_df.symm.trans ha); obtain rfl : m_df = r := Option.some.inj (f_m_df.symm.trans hr); rw [n_b_df, n_m_df, f_o_ln]; exact eb_df), (fun b a r hb ha hr => by obtain rfl : qo_ln = b := Option.some.inj (f_qo_ln.symm.trans hb); obtain rfl : b_kf = a := Option.some.inj (f_b_kf.symm.trans ha); obtain rfl : m_kf = r := Option.some.inj (f_m_kf.symm.trans hr); rw [n_b_kf, n_m_kf, f_o_ln]; exact eb_kf), (fun b a r hb ha hr => by obtain rfl : qo_ln = b := Option.some.inj (f_qo_ln.symm.trans hb); obtain rfl : b_sf = a := Option.some.inj (f_b_sf.symm.trans ha); obtain rfl : m_sf = r := Option.some.inj (f_m_sf.symm.trans hr); rw [n_b_sf, n_m_sf, f_o_ln]; exact eb_sf), (fun b a r hb ha hr => by obtain rfl : qo_ln = b := Option.some.inj (f_qo_ln.symm.trans hb); obtain rfl : b_df = a := Option.some.inj (f_b_df.symm.trans ha); obtain rfl : b_bf = r := Option.some.inj (f_b_bf.symm.trans hr); rw [n_b_df, n_b_bf, f_o_ln]; exact ⟨hBD, hDY⟩), (fun w q c hw hq hc => by obtain rfl : qw = w := Option.some.inj (f_qw.symm.trans hw); obtain rfl : ql = q := Option.some.inj (f_ql.symm.trans hq); obtain rfl : qc = c := Option.some.inj (f_qc.symm.trans hc); exact sb_list), (fun w q r hw hq hr => by obtain rfl : qw = w := Option.some.inj (f_qw.symm.trans hw); obtain rfl : ql = q := Option.some.inj (f_ql.symm.trans hq); obtain rfl : m_lst = r := Option.some.inj (f_m_lst.symm.trans hr); rw [cl_lst, n_lst]; exact eq_lst), hx_ob2 f_qp f_m_dead (by rw [cl_dead, n_dead]; exact eq_dead), hx_ob2 f_qp f_m_isj (by rw [cl_isj, n_isj]; exact eq_isj), hx_ob2 f_qc f_m_fou (by rw [cl_fou, n_m_fou]; exact eq_fou), hx_ob2 f_qc f_mt (by rw [cl_tri, n_mt]; exact eq_tri), trivial⟩, ⟨hx_ob f_qa pf_qa, hx_ob f_qp pf_qp, hx_ob f_qc pf_qc, hx_ob f_qh pf_qh, (fun w q hw hq => by obtain rfl : qw = w := Option.some.inj (f_qw.symm.trans hw); obtain rfl : ql = q := Option.some.inj (f_ql.symm.trans hq); exact pfw)⟩, ⟨hx_ob f_mw (by rw [n_mw]; exact hwd), hx_ob f_mr (by rw [n_mr, f_m_acts]; exact hWK), hx_ob2 f_mp f_mn (by rw [n_mp, n_mn, f_m_acts]; exact hRP), hx_ob f_ml (by rw [n_ml, f_m_claims, f_m_acts]; exact hPL), hx_ob f_mh (by rw [n_mh, f_m_heardMany, f_m_claims]; exact hHC), hx_ob f_mt (by rw [n_mt]; exact (hx_TR_le hTR (by omega))), hx_ob2 f_mh f_m_fou (by rw [n_mh, n_m_fou, f_m_claims]; exact hHF)⟩⟩ hl

set_option maxHeartbeats 4000000 in
set_option maxRecDepth 100000 in
theorem law_case_27 {p : Program} {e : Env} {s : State} {m : MethodId} {below : List Frame} {meth : Method} {c : Code} (l : Launch) {b LN : Nat} {xs : Nat → Int32} (hx : p.tables.exec = Jvm.exec) (hb : c.code = code) (hr : meth.sig.returnType = ret) (hlocks : meth.locks = false) (hml : c.maxLocals = 4) (hown : s.vm.findClass "SmallCourtLaw" = some m.cls) (hts : ∀ w ∈ hx_all, w.before #[Value.ref b] s = true) (hX : va_X b LN xs s s.heap) (hbl : b < s.heap.size) (hbA : ¬ s.heap.size ≤ b) (hLN : LN ≤ 3584) (dC : Nat → ClassId) (dI : Nat → Nat → Nat) (dA : Nat → ClassId) (b0 : hx_z) (ax am : Nat) (T1 : Int) (hT0 : 0 ≤ T1) (hT1 : T1 ≤ 511) (i : Int32) (hi0 : 0 ≤ i.toInt) (hiL : i.toInt + 7 ≤ LN) (CC SS : Nat) (hCC : CC + 3 ≤ 600000) (hSS : SS + 179 ≤ 7302250) (L1 : List Nat) (hl1 : hx_h) (H : Heap) (locs : List Loc) (ls : Array Slot) (hW : hx_W T_tb (P_ty dA) (dC, dI) vwCl (fun q : Nat => s.heap.size ≤ q) s.heap L1 hl1 s H locs) (hZ : hx_Xt (fun q : Nat => s.heap.size ≤ q) b0 s) (hI : hx_IV T1 ax am L1 hl1) (hl : lv_has ls 4 [(3, .int i), (2, .ref am), (1, .ref ax), (0, .ref b)]) (kk : ∀ (L2 : List Nat) (h2 : hx_h) (H2 : Heap) (locs2 : List Loc) (ls2 : Array Slot), hx_W T_tb (P_ty dA) (dC, dI) vwCl (fun q : Nat => s.heap.size ≤ q) s.heap L2 h2 s H2 locs2 → hx_IV (T1 + 1) ax am L2 h2 → lv_has ls2 4 [(3, .int i), (2, .ref am), (1, .ref ax), (0, .ref b)] → W p l e room_1 s m #[Value.ref b] below meth c H2 locs2 (CC + 3) (SS + 179) (lw_Z below #[Value.ref b] s) (F0 m 1379 ls2 [])) : W p l e room_1 s m #[Value.ref b] below meth c H locs CC SS (lw_Z below #[Value.ref b] s) (F0 m 1267 ls []) := by
  obtain ⟨hT, gx, gm, ⟨he_nw, he_np, he_c0, ho_ln, ho_lsd, hn_qp, hn_qc, hk_of, hk_wf, hk_df, hk_kf, hk_sf, hkBD, hLQ, hLE, hc_dead, hc_isj, hc_fou, hc_tri, -⟩, ⟨ia, ip, ic, ih, il⟩, ⟨jw, jr, jp, jl, jh, jt, jf⟩⟩ := hI
  obtain ⟨qa, f_qa, g_qa⟩ := hx_rf hT gx tt_9 (k := 5) (u := 43) rfl
  have pf_qa := ia qa f_qa
  obtain ⟨qp, f_qp, g_qp⟩ := hx_rf hT gx tt_9 (k := 7) (u := 44) rfl
  have pf_qp := ip qp f_qp
  obtain ⟨qc, f_qc, g_qc⟩ := hx_rf hT gx tt_9 (k := 10) (u := 45) rfl
  have pf_qc := ic qc f_qc
  obtain ⟨qh, f_qh, g_qh⟩ := hx_rf hT gx tt_9 (k := 12) (u := 46) rfl
  have pf_qh := ih qh f_qh
  obtain ⟨qw, f_qw, g_qw⟩ := hx_rf hT gx tt_9 (k := 19) (u := 8) rfl
  obtain ⟨ql, f_ql, g_ql⟩ := hx_rf hT g_qw tt_8 (k := 3) (u := 40) rfl
  have pf_ql := il qw ql f_qw f_ql
  obtain ⟨nw, f_m_now⟩ : ∃ y : Int32, hl1.2.1 am 0 = y := ⟨_, rfl⟩
  have b_nw := hT.gi gm tt_10 (k := 0) rfl
  rw [f_m_now] at b_nw
  have b_nw : 0 ≤ nw.toInt ∧ nw.toInt ≤ 7999 := b_nw
  obtain ⟨np, f_m_persons⟩ : ∃ y : Int32, hl1.2.1 am 20 = y := ⟨_, rfl⟩
  have b_np := hT.gi gm tt_10 (k := 20) rfl
  rw [f_m_persons] at b_np
  have b_np : 0 ≤ np.toInt ∧ np.toInt ≤ 40 := b_np
  obtain ⟨c0, f_m_claims⟩ : ∃ y : Int32, hl1.2.1 am 36 = y := ⟨_, rfl⟩
  have b_c0 := hT.gi gm tt_10 (k := 36) rfl
  rw [f_m_claims] at b_c0
  have b_c0 : 0 ≤ c0.toInt ∧ c0.toInt ≤ 100 := b_c0
  obtain ⟨ln, f_m_lines⟩ : ∃ y : Int32, hl1.2.1 am 29 = y := ⟨_, rfl⟩
  have b_ln := hT.gi gm tt_10 (k := 29) rfl
  rw [f_m_lines] at b_ln
  have b_ln : 0 ≤ ln.toInt ∧ ln.toInt ≤ 400 := b_ln
  obtain ⟨lsd, f_m_listed⟩ : ∃ y : Int32, hl1.2.1 am 90 = y := ⟨_, rfl⟩
  have b_lsd := hT.gi gm tt_10 (k := 90) rfl
  rw [f_m_listed] at b_lsd
  have b_lsd : 0 ≤ lsd.toInt ∧ lsd.toInt ≤ 8 := b_lsd
  obtain ⟨a0, f_m_acts⟩ : ∃ y : Int32, hl1.2.1 am 1 = y := ⟨_, rfl⟩
  have b_a0 := hT.gi gm tt_10 (k := 1) rfl
  rw [f_m_acts] at b_a0
  have b_a0 : 0 ≤ a0.toInt ∧ a0.toInt ≤ 8 := b_a0
  obtain ⟨m0, f_m_heardMany⟩ : ∃ y : Int32, hl1.2.1 am 57 = y := ⟨_, rfl⟩
  have b_m0 := hT.gi gm tt_10 (k := 57) rfl
  rw [f_m_heardMany] at b_m0
  have b_m0 : 0 ≤ m0.toInt ∧ m0.toInt ≤ 100 := b_m0
  have f_x_now : hl1.2.1 ax 2 = nw := he_nw.trans f_m_now
  have f_x_personCount : hl1.2.1 ax 8 = np := he_np.trans f_m_persons
  have f_x_claimCount : hl1.2.1 ax 11 = c0 := he_c0.trans f_m_claims
  obtain ⟨mw, f_mw, g_mw⟩ := hx_rf hT gm tt_10 (k := 19) (u := 57) rfl
  obtain ⟨F_mw, n_mw⟩ : ∃ g : Nat → Int32, hl1.2.1 mw = g := ⟨_, rfl⟩
  obtain ⟨mr, f_mr, g_mr⟩ := hx_rf hT gm tt_10 (k := 3) (u := 50) rfl
  obtain ⟨F_mr, n_mr⟩ : ∃ g : Nat → Int32, hl1.2.1 mr = g := ⟨_, rfl⟩
  obtain ⟨mp, f_mp, g_mp⟩ := hx_rf hT gm tt_10 (k := 5) (u := 52) rfl
  obtain ⟨F_mp, n_mp⟩ : ∃ g : Nat → Int32, hl1.2.1 mp = g := ⟨_, rfl⟩
  obtain ⟨mn, f_mn, g_mn⟩ := hx_rf hT gm tt_10 (k := 4) (u := 51) rfl
  obtain ⟨F_mn, n_mn⟩ : ∃ g : Nat → Int32, hl1.2.1 mn = g := ⟨_, rfl⟩
  obtain ⟨ml, f_ml, g_ml⟩ := hx_rf hT gm tt_10 (k := 44) (u := 79) rfl
  obtain ⟨F_ml, n_ml⟩ : ∃ g : Nat → Int32, hl1.2.1 ml = g := ⟨_, rfl⟩
  obtain ⟨mh, f_mh, g_mh⟩ := hx_rf hT gm tt_10 (k := 47) (u := 82) rfl
  obtain ⟨F_mh, n_mh⟩ : ∃ g : Nat → Int32, hl1.2.1 mh = g := ⟨_, rfl⟩
  obtain ⟨mt, f_mt, g_mt⟩ := hx_rf hT gm tt_10 (k := 45) (u := 80) rfl
  obtain ⟨F_mt, n_mt⟩ : ∃ g : Nat → Int32, hl1.2.1 mt = g := ⟨_, rfl⟩
  obtain ⟨m_fou, f_m_fou, g_m_fou⟩ := hx_rf hT gm tt_10 (k := 46) (u := 81) rfl
  obtain ⟨F_m_fou, n_m_fou⟩ : ∃ g : Nat → Int32, hl1.2.1 m_fou = g := ⟨_, rfl⟩
  obtain ⟨qo_ln, f_qo_ln, g_qo_ln⟩ := hx_rf hT gx tt_9 (k := 9) (u := 1) rfl
  have f_o_ln : hl1.2.1 qo_ln 0 = ln := (ho_ln qo_ln f_qo_ln).trans f_m_lines
  have f_o_lsd : hl1.2.1 qw 0 = lsd := (ho_lsd qw f_qw).trans f_m_listed
  have nu_qp := hn_qp qp f_qp; rw [f_x_personCount] at nu_qp
  have nu_qc := hn_qc qc f_qc; rw [f_x_claimCount] at nu_qc
  obtain ⟨b_of, f_b_of, g_b_of⟩ := hx_rf hT g_qo_ln tt_1 (k := 1) (u := 13) rfl
  obtain ⟨B_of, n_b_of⟩ : ∃ g : Nat → Int32, hl1.2.1 b_of = g := ⟨_, rfl⟩
  obtain ⟨m_of, f_m_of, g_m_of⟩ := hx_rf hT gm tt_10 (k := 30) (u := 66) rfl
  obtain ⟨F_of, n_m_of⟩ : ∃ g : Nat → Int32, hl1.2.1 m_of = g := ⟨_, rfl⟩
  have eb_of := hk_of qo_ln b_of m_of f_qo_ln f_b_of f_m_of; rw [n_b_of, n_m_of, f_o_ln] at eb_of
  obtain ⟨b_wf, f_b_wf, g_b_wf⟩ := hx_rf hT g_qo_ln tt_1 (k := 2) (u := 14) rfl
  obtain ⟨B_wf, n_b_wf⟩ : ∃ g : Nat → Int32, hl1.2.1 b_wf = g := ⟨_, rfl⟩
  obtain ⟨m_wf, f_m_wf, g_m_wf⟩ := hx_rf hT gm tt_10 (k := 31) (u := 67) rfl
  obtain ⟨F_wf, n_m_wf⟩ : ∃ g : Nat → Int32, hl1.2.1 m_wf = g := ⟨_, rfl⟩
  have eb_wf := hk_wf qo_ln b_wf m_wf f_qo_ln f_b_wf f_m_wf; rw [n_b_wf, n_m_wf, f_o_ln] at eb_wf
  obtain ⟨b_df, f_b_df, g_b_df⟩ := hx_rf hT g_qo_ln tt_1 (k := 3) (u := 15) rfl
  obtain ⟨B_df, n_b_df⟩ : ∃ g : Nat → Int32, hl1.2.1 b_df = g := ⟨_, rfl⟩
  obtain ⟨m_df, f_m_df, g_m_df⟩ := hx_rf hT gm tt_10 (k := 32) (u := 68) rfl
  obtain ⟨F_df, n_m_df⟩ : ∃ g : Nat → Int32, hl1.2.1 m_df = g := ⟨_, rfl⟩
  have eb_df := hk_df qo_ln b_df m_df f_qo_ln f_b_df f_m_df; rw [n_b_df, n_m_df, f_o_ln] at eb_df
  obtain ⟨b_kf, f_b_kf, g_b_kf⟩ := hx_rf hT g_qo_ln tt_1 (k := 4) (u := 16) rfl
  obtain ⟨B_kf, n_b_kf⟩ : ∃ g : Nat → Int32, hl1.2.1 b_kf = g := ⟨_, rfl⟩
  obtain ⟨m_kf, f_m_kf, g_m_kf⟩ := hx_rf hT gm tt_10 (k := 33) (u := 69) rfl
  obtain ⟨F_kf, n_m_kf⟩ : ∃ g : Nat → Int32, hl1.2.1 m_kf = g := ⟨_, rfl⟩
  have eb_kf := hk_kf qo_ln b_kf m_kf f_qo_ln f_b_kf f_m_kf; rw [n_b_kf, n_m_kf, f_o_ln] at eb_kf
  obtain ⟨b_sf, f_b_sf, g_b_sf⟩ := hx_rf hT g_qo_ln tt_1 (k := 5) (u := 17) rfl
  obtain ⟨B_sf, n_b_sf⟩ : ∃ g : Nat → Int32, hl1.2.1 b_sf = g := ⟨_, rfl⟩
  obtain ⟨m_sf, f_m_sf, g_m_sf⟩ := hx_rf hT gm tt_10 (k := 34) (u := 70) rfl
  obtain ⟨F_sf, n_m_sf⟩ : ∃ g : Nat → Int32, hl1.2.1 m_sf = g := ⟨_, rfl⟩
  have eb_sf := hk_sf qo_ln b_sf m_sf f_qo_ln f_b_sf f_m_sf; rw [n_b_sf, n_m_sf, f_o_ln] at eb_sf
  obtain ⟨b_bf, f_b_bf, g_b_bf⟩ := hx_rf hT g_qo_ln tt_1 (k := 6) (u := 18) rfl
  obtain ⟨bfL, n_b_bf⟩ : ∃ g : Nat → Int32, hl1.2.1 b_bf = g := ⟨_, rfl⟩
  obtain ⟨hBD, hDY⟩ := hkBD qo_ln b_df b_bf f_qo_ln f_b_df f_b_bf; rw [n_b_df, n_b_bf, f_o_ln] at hBD; rw [n_b_df, f_o_ln] at hDY
  have hBDm := hy_BD_c eb_df hBD
  have hDYm : hy_DY F_df ln.toInt.toNat := fun x hx => by rw [← eb_df x hx]; exact hDY x hx
  have sb_list := hLQ qw ql qc f_qw f_ql f_qc
  obtain ⟨m_lst, f_m_lst, g_m_lst⟩ := hx_rf hT gm tt_10 (k := 91) (u := 112) rfl
  obtain ⟨F_lst, n_lst⟩ : ∃ g : Nat → Int32, hl1.2.1 m_lst = g := ⟨_, rfl⟩
  obtain ⟨c_lst, cl_lst⟩ : ∃ g : Nat → Int32, hx_col 8 hl1 ql 0 = g := ⟨_, rfl⟩
  have eq_lst := hLE qw ql m_lst f_qw f_ql f_m_lst; rw [cl_lst, n_lst] at eq_lst
  obtain ⟨c_dead, cl_dead⟩ : ∃ g : Nat → Int32, hx_col 40 hl1 qp 7 = g := ⟨_, rfl⟩
  obtain ⟨m_dead, f_m_dead, g_m_dead⟩ := hx_rf hT gm tt_10 (k := 27) (u := 64) rfl
  obtain ⟨F_dead, n_dead⟩ : ∃ g : Nat → Int32, hl1.2.1 m_dead = g := ⟨_, rfl⟩
  have eq_dead := hc_dead qp m_dead f_qp f_m_dead; rw [cl_dead, n_dead] at eq_dead
  have z_dead : np.toInt.toNat < 40 → c_dead np.toInt.toNat = 0 := fun hj => hx_num_z nu_qp cl_dead hj (by omega)
  obtain ⟨c_isj, cl_isj⟩ : ∃ g : Nat → Int32, hx_col 40 hl1 qp 8 = g := ⟨_, rfl⟩
  obtain ⟨m_isj, f_m_isj, g_m_isj⟩ := hx_rf hT gm tt_10 (k := 28) (u := 65) rfl
  obtain ⟨F_isj, n_isj⟩ : ∃ g : Nat → Int32, hl1.2.1 m_isj = g := ⟨_, rfl⟩
  have eq_isj := hc_isj qp m_isj f_qp f_m_isj; rw [cl_isj, n_isj] at eq_isj
  have z_isj : np.toInt.toNat < 40 → c_isj np.toInt.toNat = 0 := fun hj => hx_num_z nu_qp cl_isj hj (by omega)
  obtain ⟨c_fou, cl_fou⟩ : ∃ g : Nat → Int32, hx_col 100 hl1 qc 10 = g := ⟨_, rfl⟩
  have eq_fou := hc_fou qc m_fou f_qc f_m_fou; rw [cl_fou, n_m_fou] at eq_fou
  have z_fou : c0.toInt.toNat < 100 → c_fou c0.toInt.toNat = 0 := fun hj => hx_num_z nu_qc cl_fou hj (by omega)
  obtain ⟨c_tri, cl_tri⟩ : ∃ g : Nat → Int32, hx_col 100 hl1 qc 9 = g := ⟨_, rfl⟩
  have eq_tri := hc_tri qc mt f_qc f_mt; rw [cl_tri, n_mt] at eq_tri
  have z_tri : c0.toInt.toNat < 100 → c_tri c0.toInt.toNat = 0 := fun hj => hx_num_z nu_qc cl_tri hj (by omega)
  have hwd := jw mw f_mw; rw [n_mw] at hwd
  have hWK := jr mr f_mr; rw [n_mr, f_m_acts] at hWK
  have hRP := jp mp mn f_mp f_mn; rw [n_mp, n_mn, f_m_acts] at hRP
  have hPL := jl ml f_ml; rw [n_ml, f_m_claims, f_m_acts] at hPL
  have hHC := jh mh f_mh; rw [n_mh, f_m_heardMany, f_m_claims] at hHC
  have hTR := jt mt f_mt; rw [n_mt] at hTR
  have hHF := jf mh m_fou f_mh f_m_fou; rw [n_mh, n_m_fou, f_m_claims] at hHF
  refine lv_aload_n hx hb dL_law_1267 rfl (lv_at hl 2 rfl) ?_
  refine lv_aload_n hx hb dL_law_1268 rfl (lv_at hl 3 rfl) ?_
  refine lv_iload_n hx hb dL_law_1269 rfl (lv_at hl 0 rfl) ?_
  refine lv_iconst (v := 1) hx hb dL_law_1270 (by decide) ?_
  refine lv_iadd hx hb dL_law_1271 ?_
  have rg_685 := i32_r i
  refine lv_topi (fun x_686 ex_686 => ?_)
  have zx_686 : x_686.toInt = i.toInt + 1 := by rw [ex_686]; exact i32_add rfl (by decide) (by omega) (by omega)
  refine va_sld hx hb hX hbl hbA hW.2.2.2.1 (vp_in_iff.mpr ⟨by omega, by omega⟩) dL_law_1272 ?_
  refine lv_topi (fun x_687 ex_687 => ?_)
  have hTo := hT
  refine hx_goi (hx_runV (As := [.int x_687]) (rest := []) ⟨hx, hb, hml, hown, hts⟩ hW gx tt_9 (T := TX9) (N := 20) rfl (t_X9_walked l dC dI dA L1 hl1 H.size ax x_687 hT gx) (cwV 1 hts (hx_gV kw_1088 kw_1085 kw_1086 kw_1087 kw_94) rfl rfl rfl (by decide +kernel) ⟨Nat.le_of_ble_eq_true rfl, Nat.le_of_ble_eq_true rfl⟩) rfl hl.1 rfl (Nat.le_of_ble_eq_true rfl) dL_law_1273 ⟨(show CC + 0 ≤ 600000 from by omega), (show SS + 0 ≤ 7302250 from by omega)⟩) hW (fun r_690 L_688 h_689 H locs p_691 hW => ?_)
  obtain ⟨hr_692, hT, hs⟩ := p_691
  have hT : hx_T T_tb L_688 h_689 := hT
  have hs : hx_S T_tb [] L1 hl1 L_688 h_689 := hs
  have f_qa := (hs.o gx trivial rfl).2.trans f_qa
  have f_qp := (hs.o gx trivial rfl).2.trans f_qp
  have f_qc := (hs.o gx trivial rfl).2.trans f_qc
  have f_qh := (hs.o gx trivial rfl).2.trans f_qh
  have f_qw := (hs.o gx trivial rfl).2.trans f_qw
  have f_ql := (hs.o g_qw trivial rfl).2.trans f_ql
  have f_m_now := (hs.o gm trivial rfl).1.trans f_m_now
  have f_m_persons := (hs.o gm trivial rfl).1.trans f_m_persons
  have f_m_claims := (hs.o gm trivial rfl).1.trans f_m_claims
  have f_m_lines := (hs.o gm trivial rfl).1.trans f_m_lines
  have f_m_listed := (hs.o gm trivial rfl).1.trans f_m_listed
  have f_m_acts := (hs.o gm trivial rfl).1.trans f_m_acts
  have f_m_heardMany := (hs.o gm trivial rfl).1.trans f_m_heardMany
  have f_x_now := (hs.o gx trivial rfl).1.trans f_x_now
  have f_x_personCount := (hs.o gx trivial rfl).1.trans f_x_personCount
  have f_x_claimCount := (hs.o gx trivial rfl).1.trans f_x_claimCount
  have f_mw := (hs.o gm trivial rfl).2.trans f_mw
  have f_mr := (hs.o gm trivial rfl).2.trans f_mr
  have f_mp := (hs.o gm trivial rfl).2.trans f_mp
  have f_mn := (hs.o gm trivial rfl).2.trans f_mn
  have f_ml := (hs.o gm trivial rfl).2.trans f_ml
  have f_mh := (hs.o gm trivial rfl).2.trans f_mh
  have f_mt := (hs.o gm trivial rfl).2.trans f_mt
  have f_m_fou := (hs.o gm trivial rfl).2.trans f_m_fou
  have f_qo_ln := (hs.o gx trivial rfl).2.trans f_qo_ln
  have f_o_ln := (hs.o g_qo_ln trivial rfl).1.trans f_o_ln
  have f_o_lsd := (hs.o g_qw trivial rfl).1.trans f_o_lsd
  have f_b_of := (hs.o g_qo_ln trivial rfl).2.trans f_b_of
  have f_m_of := (hs.o gm trivial rfl).2.trans f_m_of
  have f_b_wf := (hs.o g_qo_ln trivial rfl).2.trans f_b_wf
  have f_m_wf := (hs.o gm trivial rfl).2.trans f_m_wf
  have f_b_df := (hs.o g_qo_ln trivial rfl).2.trans f_b_df
  have f_m_df := (hs.o gm trivial rfl).2.trans f_m_df
  have f_b_kf := (hs.o g_qo_ln trivial rfl).2.trans f_b_kf
  have f_m_kf := (hs.o gm trivial rfl).2.trans f_m_kf
  have f_b_sf := (hs.o g_qo_ln trivial rfl).2.trans f_b_sf
  have f_m_sf := (hs.o gm trivial rfl).2.trans f_m_sf
  have f_b_bf := (hs.o g_qo_ln trivial rfl).2.trans f_b_bf
  have f_m_lst := (hs.o gm trivial rfl).2.trans f_m_lst
  have f_m_dead := (hs.o gm trivial rfl).2.trans f_m_dead
  have f_m_isj := (hs.o gm trivial rfl).2.trans f_m_isj
  have pf_qa : ∀ j : Nat, (j : Int) < (h_689.2.1 ax 6).toInt → h_689.2.2 qa j ≠ none := by
    intro j hj; rw [(hs.o gx trivial rfl).1] at hj; rw [(hs.a g_qa rfl j).2]; exact pf_qa j hj
  have pf_qp : ∀ j : Nat, (j : Int) < (h_689.2.1 ax 8).toInt → h_689.2.2 qp j ≠ none := by
    intro j hj; rw [(hs.o gx trivial rfl).1] at hj; rw [(hs.a g_qp rfl j).2]; exact pf_qp j hj
  have pf_qc : ∀ j : Nat, (j : Int) < (h_689.2.1 ax 11).toInt → h_689.2.2 qc j ≠ none := by
    intro j hj; rw [(hs.o gx trivial rfl).1] at hj; rw [(hs.a g_qc rfl j).2]; exact pf_qc j hj
  have pf_qh : ∀ j : Nat, (j : Int) < (h_689.2.1 ax 13).toInt → h_689.2.2 qh j ≠ none := by
    intro j hj; rw [(hs.o gx trivial rfl).1] at hj; rw [(hs.a g_qh rfl j).2]; exact pf_qh j hj
  have pf_ql : ∀ j : Nat, (j : Int) < (h_689.2.1 qw 0).toInt → h_689.2.2 ql j ≠ none := by
    intro j hj; rw [(hs.o g_qw trivial rfl).1] at hj; rw [(hs.a g_ql rfl j).2]; exact pf_ql j hj
  have cl_lst : hx_col 8 h_689 ql 0 = c_lst := (hx_col_S hs hTo g_ql tt_40 tt_2 rfl rfl).trans cl_lst
  have cl_dead : hx_col 40 h_689 qp 7 = c_dead := (hx_col_S hs hTo g_qp tt_44 tt_4 rfl rfl).trans cl_dead
  have cl_isj : hx_col 40 h_689 qp 8 = c_isj := (hx_col_S hs hTo g_qp tt_44 tt_4 rfl rfl).trans cl_isj
  have cl_fou : hx_col 100 h_689 qc 10 = c_fou := (hx_col_S hs hTo g_qc tt_45 tt_2 rfl rfl).trans cl_fou
  have cl_tri : hx_col 100 h_689 qc 9 = c_tri := (hx_col_S hs hTo g_qc tt_45 tt_2 rfl rfl).trans cl_tri
  have nu_qp : hx_num 40 h_689 qp 0 (np.toInt) := hx_num_S hs hTo g_qp tt_44 tt_4 rfl rfl nu_qp
  have nu_qc : hx_num 100 h_689 qc 0 (c0.toInt) := hx_num_S hs hTo g_qc tt_45 tt_2 rfl rfl nu_qc
  have sb_list : hx_LQ 8 100 h_689 ql qc := hx_LQ_S hs g_ql g_qc rfl rfl sb_list
  have n_mw : h_689.2.1 mw = F_mw := (funext fun j => (hs.a g_mw rfl j).1).trans n_mw
  have n_mr : h_689.2.1 mr = F_mr := (funext fun j => (hs.a g_mr rfl j).1).trans n_mr
  have n_mp : h_689.2.1 mp = F_mp := (funext fun j => (hs.a g_mp rfl j).1).trans n_mp
  have n_mn : h_689.2.1 mn = F_mn := (funext fun j => (hs.a g_mn rfl j).1).trans n_mn
  have n_ml : h_689.2.1 ml = F_ml := (funext fun j => (hs.a g_ml rfl j).1).trans n_ml
  have n_mh : h_689.2.1 mh = F_mh := (funext fun j => (hs.a g_mh rfl j).1).trans n_mh
  have n_mt : h_689.2.1 mt = F_mt := (funext fun j => (hs.a g_mt rfl j).1).trans n_mt
  have n_m_fou : h_689.2.1 m_fou = F_m_fou := (funext fun j => (hs.a g_m_fou rfl j).1).trans n_m_fou
  have n_b_of : h_689.2.1 b_of = B_of := (funext fun j => (hs.a g_b_of rfl j).1).trans n_b_of
  have n_m_of : h_689.2.1 m_of = F_of := (funext fun j => (hs.a g_m_of rfl j).1).trans n_m_of
  have n_b_wf : h_689.2.1 b_wf = B_wf := (funext fun j => (hs.a g_b_wf rfl j).1).trans n_b_wf
  have n_m_wf : h_689.2.1 m_wf = F_wf := (funext fun j => (hs.a g_m_wf rfl j).1).trans n_m_wf
  have n_b_df : h_689.2.1 b_df = B_df := (funext fun j => (hs.a g_b_df rfl j).1).trans n_b_df
  have n_m_df : h_689.2.1 m_df = F_df := (funext fun j => (hs.a g_m_df rfl j).1).trans n_m_df
  have n_b_kf : h_689.2.1 b_kf = B_kf := (funext fun j => (hs.a g_b_kf rfl j).1).trans n_b_kf
  have n_m_kf : h_689.2.1 m_kf = F_kf := (funext fun j => (hs.a g_m_kf rfl j).1).trans n_m_kf
  have n_b_sf : h_689.2.1 b_sf = B_sf := (funext fun j => (hs.a g_b_sf rfl j).1).trans n_b_sf
  have n_m_sf : h_689.2.1 m_sf = F_sf := (funext fun j => (hs.a g_m_sf rfl j).1).trans n_m_sf
  have n_b_bf : h_689.2.1 b_bf = bfL := (funext fun j => (hs.a g_b_bf rfl j).1).trans n_b_bf
  have n_lst : h_689.2.1 m_lst = F_lst := (funext fun j => (hs.a g_m_lst rfl j).1).trans n_lst
  have n_dead : h_689.2.1 m_dead = F_dead := (funext fun j => (hs.a g_m_dead rfl j).1).trans n_dead
  have n_isj : h_689.2.1 m_isj = F_isj := (funext fun j => (hs.a g_m_isj rfl j).1).trans n_isj
  have gx := gx.S hs
  have gm := gm.S hs
  have g_qa := g_qa.S hs
  have g_qp := g_qp.S hs
  have g_qc := g_qc.S hs
  have g_qh := g_qh.S hs
  have g_qw := g_qw.S hs
  have g_ql := g_ql.S hs
  have g_mw := g_mw.S hs
  have g_mr := g_mr.S hs
  have g_mp := g_mp.S hs
  have g_mn := g_mn.S hs
  have g_ml := g_ml.S hs
  have g_mh := g_mh.S hs
  have g_mt := g_mt.S hs
  have g_m_fou := g_m_fou.S hs
  have g_qo_ln := g_qo_ln.S hs
  have g_b_of := g_b_of.S hs
  have g_m_of := g_m_of.S hs
  have g_b_wf := g_b_wf.S hs
  have g_m_wf := g_m_wf.S hs
  have g_b_df := g_b_df.S hs
  have g_m_df := g_m_df.S hs
  have g_b_kf := g_b_kf.S hs
  have g_m_kf := g_m_kf.S hs
  have g_b_sf := g_b_sf.S hs
  have g_m_sf := g_m_sf.S hs
  have g_b_bf := g_b_bf.S hs
  have g_m_lst := g_m_lst.S hs
  have g_m_dead := g_m_dead.S hs
  have g_m_isj := g_m_isj.S hs
  refine lv_pop hx hb dL_law_1276 rfl ?_
  refine lv_aload_n hx hb dL_law_1277 rfl (lv_at hl 1 rfl) ?_
  refine lv_aload_n hx hb dL_law_1278 rfl (lv_at hl 3 rfl) ?_
  refine lv_iload_n hx hb dL_law_1279 rfl (lv_at hl 0 rfl) ?_
  refine lv_iconst (v := 1) hx hb dL_law_1280 (by decide) ?_
  refine lv_iadd hx hb dL_law_1281 ?_
  refine lv_topi (fun x_693 ex_693 => ?_)
  have zx_693 : x_693.toInt = i.toInt + 1 := by rw [ex_693]; exact i32_add rfl (by decide) (by omega) (by omega)
  obtain rfl : x_686 = x_693 := ex_686.trans ex_693.symm
  refine va_sld hx hb hX hbl hbA hW.2.2.2.1 (vp_in_iff.mpr ⟨by omega, by omega⟩) dL_law_1282 ?_
  refine lv_topi (fun x_694 ex_694 => ?_)
  obtain rfl : x_687 = x_694 := ex_687.trans ex_694.symm
  have hTo := hT
  refine hx_goi (hx_runV (As := [.int x_687]) (rest := []) ⟨hx, hb, hml, hown, hts⟩ hW gm tt_10 (T := TX10) (N := 98) rfl (t_X10_walked l dC dI dA L_688 h_689 H.size am x_687 hT gm) (cwV 1 hts (hx_gV kw_1732 kw_1729 kw_1730 kw_1731 kw_103) rfl rfl rfl (by decide +kernel) ⟨Nat.le_of_ble_eq_true rfl, Nat.le_of_ble_eq_true rfl⟩) rfl hl.1 rfl (Nat.le_of_ble_eq_true rfl) dL_law_1283 ⟨(show CC + 0 + 0 ≤ 600000 from by omega), (show SS + 0 + 0 ≤ 7302250 from by omega)⟩) hW (fun r_697 L_695 h_696 H locs p_698 hW => ?_)
  obtain ⟨hr_699, hT, hs⟩ := p_698
  have hT : hx_T T_tb L_695 h_696 := hT
  have hs : hx_S T_tb [] L_688 h_689 L_695 h_696 := hs
  have f_qa := (hs.o gx trivial rfl).2.trans f_qa
  have f_qp := (hs.o gx trivial rfl).2.trans f_qp
  have f_qc := (hs.o gx trivial rfl).2.trans f_qc
  have f_qh := (hs.o gx trivial rfl).2.trans f_qh
  have f_qw := (hs.o gx trivial rfl).2.trans f_qw
  have f_ql := (hs.o g_qw trivial rfl).2.trans f_ql
  have f_m_now := (hs.o gm trivial rfl).1.trans f_m_now
  have f_m_persons := (hs.o gm trivial rfl).1.trans f_m_persons
  have f_m_claims := (hs.o gm trivial rfl).1.trans f_m_claims
  have f_m_lines := (hs.o gm trivial rfl).1.trans f_m_lines
  have f_m_listed := (hs.o gm trivial rfl).1.trans f_m_listed
  have f_m_acts := (hs.o gm trivial rfl).1.trans f_m_acts
  have f_m_heardMany := (hs.o gm trivial rfl).1.trans f_m_heardMany
  have f_x_now := (hs.o gx trivial rfl).1.trans f_x_now
  have f_x_personCount := (hs.o gx trivial rfl).1.trans f_x_personCount
  have f_x_claimCount := (hs.o gx trivial rfl).1.trans f_x_claimCount
  have f_mw := (hs.o gm trivial rfl).2.trans f_mw
  have f_mr := (hs.o gm trivial rfl).2.trans f_mr
  have f_mp := (hs.o gm trivial rfl).2.trans f_mp
  have f_mn := (hs.o gm trivial rfl).2.trans f_mn
  have f_ml := (hs.o gm trivial rfl).2.trans f_ml
  have f_mh := (hs.o gm trivial rfl).2.trans f_mh
  have f_mt := (hs.o gm trivial rfl).2.trans f_mt
  have f_m_fou := (hs.o gm trivial rfl).2.trans f_m_fou
  have f_qo_ln := (hs.o gx trivial rfl).2.trans f_qo_ln
  have f_o_ln := (hs.o g_qo_ln trivial rfl).1.trans f_o_ln
  have f_o_lsd := (hs.o g_qw trivial rfl).1.trans f_o_lsd
  have f_b_of := (hs.o g_qo_ln trivial rfl).2.trans f_b_of
  have f_m_of := (hs.o gm trivial rfl).2.trans f_m_of
  have f_b_wf := (hs.o g_qo_ln trivial rfl).2.trans f_b_wf
  have f_m_wf := (hs.o gm trivial rfl).2.trans f_m_wf
  have f_b_df := (hs.o g_qo_ln trivial rfl).2.trans f_b_df
  have f_m_df := (hs.o gm trivial rfl).2.trans f_m_df
  have f_b_kf := (hs.o g_qo_ln trivial rfl).2.trans f_b_kf
  have f_m_kf := (hs.o gm trivial rfl).2.trans f_m_kf
  have f_b_sf := (hs.o g_qo_ln trivial rfl).2.trans f_b_sf
  have f_m_sf := (hs.o gm trivial rfl).2.trans f_m_sf
  have f_b_bf := (hs.o g_qo_ln trivial rfl).2.trans f_b_bf
  have f_m_lst := (hs.o gm trivial rfl).2.trans f_m_lst
  have f_m_dead := (hs.o gm trivial rfl).2.trans f_m_dead
  have f_m_isj := (hs.o gm trivial rfl).2.trans f_m_isj
  have pf_qa : ∀ j : Nat, (j : Int) < (h_696.2.1 ax 6).toInt → h_696.2.2 qa j ≠ none := by
    intro j hj; rw [(hs.o gx trivial rfl).1] at hj; rw [(hs.a g_qa rfl j).2]; exact pf_qa j hj
  have pf_qp : ∀ j : Nat, (j : Int) < (h_696.2.1 ax 8).toInt → h_696.2.2 qp j ≠ none := by
    intro j hj; rw [(hs.o gx trivial rfl).1] at hj; rw [(hs.a g_qp rfl j).2]; exact pf_qp j hj
  have pf_qc : ∀ j : Nat, (j : Int) < (h_696.2.1 ax 11).toInt → h_696.2.2 qc j ≠ none := by
    intro j hj; rw [(hs.o gx trivial rfl).1] at hj; rw [(hs.a g_qc rfl j).2]; exact pf_qc j hj
  have pf_qh : ∀ j : Nat, (j : Int) < (h_696.2.1 ax 13).toInt → h_696.2.2 qh j ≠ none := by
    intro j hj; rw [(hs.o gx trivial rfl).1] at hj; rw [(hs.a g_qh rfl j).2]; exact pf_qh j hj
  have pf_ql : ∀ j : Nat, (j : Int) < (h_696.2.1 qw 0).toInt → h_696.2.2 ql j ≠ none := by
    intro j hj; rw [(hs.o g_qw trivial rfl).1] at hj; rw [(hs.a g_ql rfl j).2]; exact pf_ql j hj
  have cl_lst : hx_col 8 h_696 ql 0 = c_lst := (hx_col_S hs hTo g_ql tt_40 tt_2 rfl rfl).trans cl_lst
  have cl_dead : hx_col 40 h_696 qp 7 = c_dead := (hx_col_S hs hTo g_qp tt_44 tt_4 rfl rfl).trans cl_dead
  have cl_isj : hx_col 40 h_696 qp 8 = c_isj := (hx_col_S hs hTo g_qp tt_44 tt_4 rfl rfl).trans cl_isj
  have cl_fou : hx_col 100 h_696 qc 10 = c_fou := (hx_col_S hs hTo g_qc tt_45 tt_2 rfl rfl).trans cl_fou
  have cl_tri : hx_col 100 h_696 qc 9 = c_tri := (hx_col_S hs hTo g_qc tt_45 tt_2 rfl rfl).trans cl_tri
  have nu_qp : hx_num 40 h_696 qp 0 (np.toInt) := hx_num_S hs hTo g_qp tt_44 tt_4 rfl rfl nu_qp
  have nu_qc : hx_num 100 h_696 qc 0 (c0.toInt) := hx_num_S hs hTo g_qc tt_45 tt_2 rfl rfl nu_qc
  have sb_list : hx_LQ 8 100 h_696 ql qc := hx_LQ_S hs g_ql g_qc rfl rfl sb_list
  have n_mw : h_696.2.1 mw = F_mw := (funext fun j => (hs.a g_mw rfl j).1).trans n_mw
  have n_mr : h_696.2.1 mr = F_mr := (funext fun j => (hs.a g_mr rfl j).1).trans n_mr
  have n_mp : h_696.2.1 mp = F_mp := (funext fun j => (hs.a g_mp rfl j).1).trans n_mp
  have n_mn : h_696.2.1 mn = F_mn := (funext fun j => (hs.a g_mn rfl j).1).trans n_mn
  have n_ml : h_696.2.1 ml = F_ml := (funext fun j => (hs.a g_ml rfl j).1).trans n_ml
  have n_mh : h_696.2.1 mh = F_mh := (funext fun j => (hs.a g_mh rfl j).1).trans n_mh
  have n_mt : h_696.2.1 mt = F_mt := (funext fun j => (hs.a g_mt rfl j).1).trans n_mt
  have n_m_fou : h_696.2.1 m_fou = F_m_fou := (funext fun j => (hs.a g_m_fou rfl j).1).trans n_m_fou
  have n_b_of : h_696.2.1 b_of = B_of := (funext fun j => (hs.a g_b_of rfl j).1).trans n_b_of
  have n_m_of : h_696.2.1 m_of = F_of := (funext fun j => (hs.a g_m_of rfl j).1).trans n_m_of
  have n_b_wf : h_696.2.1 b_wf = B_wf := (funext fun j => (hs.a g_b_wf rfl j).1).trans n_b_wf
  have n_m_wf : h_696.2.1 m_wf = F_wf := (funext fun j => (hs.a g_m_wf rfl j).1).trans n_m_wf
  have n_b_df : h_696.2.1 b_df = B_df := (funext fun j => (hs.a g_b_df rfl j).1).trans n_b_df
  have n_m_df : h_696.2.1 m_df = F_df := (funext fun j => (hs.a g_m_df rfl j).1).trans n_m_df
  have n_b_kf : h_696.2.1 b_kf = B_kf := (funext fun j => (hs.a g_b_kf rfl j).1).trans n_b_kf
  have n_m_kf : h_696.2.1 m_kf = F_kf := (funext fun j => (hs.a g_m_kf rfl j).1).trans n_m_kf
  have n_b_sf : h_696.2.1 b_sf = B_sf := (funext fun j => (hs.a g_b_sf rfl j).1).trans n_b_sf
  have n_m_sf : h_696.2.1 m_sf = F_sf := (funext fun j => (hs.a g_m_sf rfl j).1).trans n_m_sf
  have n_b_bf : h_696.2.1 b_bf = bfL := (funext fun j => (hs.a g_b_bf rfl j).1).trans n_b_bf
  have n_lst : h_696.2.1 m_lst = F_lst := (funext fun j => (hs.a g_m_lst rfl j).1).trans n_lst
  have n_dead : h_696.2.1 m_dead = F_dead := (funext fun j => (hs.a g_m_dead rfl j).1).trans n_dead
  have n_isj : h_696.2.1 m_isj = F_isj := (funext fun j => (hs.a g_m_isj rfl j).1).trans n_isj
  have gx := gx.S hs
  have gm := gm.S hs
  have g_qa := g_qa.S hs
  have g_qp := g_qp.S hs
  have g_qc := g_qc.S hs
  have g_qh := g_qh.S hs
  have g_qw := g_qw.S hs
  have g_ql := g_ql.S hs
  have g_mw := g_mw.S hs
  have g_mr := g_mr.S hs
  have g_mp := g_mp.S hs
  have g_mn := g_mn.S hs
  have g_ml := g_ml.S hs
  have g_mh := g_mh.S hs
  have g_mt := g_mt.S hs
  have g_m_fou := g_m_fou.S hs
  have g_qo_ln := g_qo_ln.S hs
  have g_b_of := g_b_of.S hs
  have g_m_of := g_m_of.S hs
  have g_b_wf := g_b_wf.S hs
  have g_m_wf := g_m_wf.S hs
  have g_b_df := g_b_df.S hs
  have g_m_df := g_m_df.S hs
  have g_b_kf := g_b_kf.S hs
  have g_m_kf := g_m_kf.S hs
  have g_b_sf := g_b_sf.S hs
  have g_m_sf := g_m_sf.S hs
  have g_b_bf := g_b_bf.S hs
  have g_m_lst := g_m_lst.S hs
  have g_m_dead := g_m_dead.S hs
  have g_m_isj := g_m_isj.S hs
  refine lv_pop hx hb dL_law_1286 rfl ?_
  refine lv_goto (tgt := 1379) hx hb dL_law_1287 (by decide) ?_
  refine W.widen (k := CC + 3) (n := SS + 179) (by omega) (by omega) ?_
  exact kk L_695 h_696 H locs ls hW ⟨hT, gx, gm, ⟨f_x_now.trans f_m_now.symm, f_x_personCount.trans f_m_persons.symm, f_x_claimCount.trans f_m_claims.symm, hx_ob f_qo_ln (f_o_ln.trans f_m_lines.symm), hx_ob f_qw (f_o_lsd.trans f_m_listed.symm), hx_ob f_qp (by rw [f_x_personCount]; exact nu_qp), hx_ob f_qc (by rw [f_x_claimCount]; exact nu_qc), (fun b a r hb ha hr => by obtain rfl : qo_ln = b := Option.some.inj (f_qo_ln.symm.trans hb); obtain rfl : b_of = a := Option.some.inj (f_b_of.symm.trans ha); obtain rfl : m_of = r := Option.some.inj (f_m_of.symm.trans hr); rw [n_b_of, n_m_of, f_o_ln]; exact eb_of), (fun b a r hb ha hr => by obtain rfl : qo_ln = b := Option.some.inj (f_qo_ln.symm.trans hb); obtain rfl : b_wf = a := Option.some.inj (f_b_wf.symm.trans ha); obtain rfl : m_wf = r := Option.some.inj (f_m_wf.symm.trans hr); rw [n_b_wf, n_m_wf, f_o_ln]; exact eb_wf), (fun b a r hb ha hr => by obtain rfl : qo_ln = b := Option.some.inj (f_qo_ln.symm.trans hb); obtain rfl : b_df = a := Option.some.inj (f_b_df.symm.trans ha); obtain rfl : m_df = r := Option.some.inj (f_m_df.symm.trans hr); rw [n_b_df, n_m_df, f_o_ln]; exact eb_df), (fun b a r hb ha hr => by obtain rfl : qo_ln = b := Option.some.inj (f_qo_ln.symm.trans hb); obtain rfl : b_kf = a := Option.some.inj (f_b_kf.symm.trans ha); obtain rfl : m_kf = r := Option.some.inj (f_m_kf.symm.trans hr); rw [n_b_kf, n_m_kf, f_o_ln]; exact eb_kf), (fun b a r hb ha hr => by obtain rfl : qo_ln = b := Option.some.inj (f_qo_ln.symm.trans hb); obtain rfl : b_sf = a := Option.some.inj (f_b_sf.symm.trans ha); obtain rfl : m_sf = r := Option.some.inj (f_m_sf.symm.trans hr); rw [n_b_sf, n_m_sf, f_o_ln]; exact eb_sf), (fun b a r hb ha hr => by obtain rfl : qo_ln = b := Option.some.inj (f_qo_ln.symm.trans hb); obtain rfl : b_df = a := Option.some.inj (f_b_df.symm.trans ha); obtain rfl : b_bf = r := Option.some.inj (f_b_bf.symm.trans hr); rw [n_b_df, n_b_bf, f_o_ln]; exact ⟨hBD, hDY⟩), (fun w q c hw hq hc => by obtain rfl : qw = w := Option.some.inj (f_qw.symm.trans hw); obtain rfl : ql = q := Option.some.inj (f_ql.symm.trans hq); obtain rfl : qc = c := Option.some.inj (f_qc.symm.trans hc); exact sb_list), (fun w q r hw hq hr => by obtain rfl : qw = w := Option.some.inj (f_qw.symm.trans hw); obtain rfl : ql = q := Option.some.inj (f_ql.symm.trans hq); obtain rfl : m_lst = r := Option.some.inj (f_m_lst.symm.trans hr); rw [cl_lst, n_lst]; exact eq_lst), hx_ob2 f_qp f_m_dead (by rw [cl_dead, n_dead]; exact eq_dead), hx_ob2 f_qp f_m_isj (by rw [cl_isj, n_isj]; exact eq_isj), hx_ob2 f_qc f_m_fou (by rw [cl_fou, n_m_fou]; exact eq_fou), hx_ob2 f_qc f_mt (by rw [cl_tri, n_mt]; exact eq_tri), trivial⟩, ⟨hx_ob f_qa pf_qa, hx_ob f_qp pf_qp, hx_ob f_qc pf_qc, hx_ob f_qh pf_qh, (fun w q hw hq => by obtain rfl : qw = w := Option.some.inj (f_qw.symm.trans hw); obtain rfl : ql = q := Option.some.inj (f_ql.symm.trans hq); exact pf_ql)⟩, ⟨hx_ob f_mw (by rw [n_mw]; exact hwd), hx_ob f_mr (by rw [n_mr, f_m_acts]; exact hWK), hx_ob2 f_mp f_mn (by rw [n_mp, n_mn, f_m_acts]; exact hRP), hx_ob f_ml (by rw [n_ml, f_m_claims, f_m_acts]; exact hPL), hx_ob f_mh (by rw [n_mh, f_m_heardMany, f_m_claims]; exact hHC), hx_ob f_mt (by rw [n_mt]; exact (hx_TR_le hTR (by omega))), hx_ob2 f_mh f_m_fou (by rw [n_mh, n_m_fou, f_m_claims]; exact hHF)⟩⟩ hl

set_option maxHeartbeats 4000000 in
set_option maxRecDepth 100000 in
theorem law_case_28 {p : Program} {e : Env} {s : State} {m : MethodId} {below : List Frame} {meth : Method} {c : Code} (l : Launch) {b LN : Nat} {xs : Nat → Int32} (hx : p.tables.exec = Jvm.exec) (hb : c.code = code) (hr : meth.sig.returnType = ret) (hlocks : meth.locks = false) (hml : c.maxLocals = 4) (hown : s.vm.findClass "SmallCourtLaw" = some m.cls) (hts : ∀ w ∈ hx_all, w.before #[Value.ref b] s = true) (hX : va_X b LN xs s s.heap) (hbl : b < s.heap.size) (hbA : ¬ s.heap.size ≤ b) (hLN : LN ≤ 3584) (dC : Nat → ClassId) (dI : Nat → Nat → Nat) (dA : Nat → ClassId) (b0 : hx_z) (ax am : Nat) (T1 : Int) (hT0 : 0 ≤ T1) (hT1 : T1 ≤ 511) (i : Int32) (hi0 : 0 ≤ i.toInt) (hiL : i.toInt + 7 ≤ LN) (CC SS : Nat) (hCC : CC + 3 ≤ 600000) (hSS : SS + 179 ≤ 7302250) (L1 : List Nat) (hl1 : hx_h) (H : Heap) (locs : List Loc) (ls : Array Slot) (hW : hx_W T_tb (P_ty dA) (dC, dI) vwCl (fun q : Nat => s.heap.size ≤ q) s.heap L1 hl1 s H locs) (hZ : hx_Xt (fun q : Nat => s.heap.size ≤ q) b0 s) (hI : hx_IV T1 ax am L1 hl1) (hl : lv_has ls 4 [(3, .int i), (2, .ref am), (1, .ref ax), (0, .ref b)]) (kk : ∀ (L2 : List Nat) (h2 : hx_h) (H2 : Heap) (locs2 : List Loc) (ls2 : Array Slot), hx_W T_tb (P_ty dA) (dC, dI) vwCl (fun q : Nat => s.heap.size ≤ q) s.heap L2 h2 s H2 locs2 → hx_IV (T1 + 1) ax am L2 h2 → lv_has ls2 4 [(3, .int i), (2, .ref am), (1, .ref ax), (0, .ref b)] → W p l e room_1 s m #[Value.ref b] below meth c H2 locs2 (CC + 3) (SS + 179) (lw_Z below #[Value.ref b] s) (F0 m 1379 ls2 [])) : W p l e room_1 s m #[Value.ref b] below meth c H locs CC SS (lw_Z below #[Value.ref b] s) (F0 m 1290 ls []) := by
  obtain ⟨hT, gx, gm, ⟨he_nw, he_np, he_c0, ho_ln, ho_lsd, hn_qp, hn_qc, hk_of, hk_wf, hk_df, hk_kf, hk_sf, hkBD, hLQ, hLE, hc_dead, hc_isj, hc_fou, hc_tri, -⟩, ⟨ia, ip, ic, ih, il⟩, ⟨jw, jr, jp, jl, jh, jt, jf⟩⟩ := hI
  obtain ⟨qa, f_qa, g_qa⟩ := hx_rf hT gx tt_9 (k := 5) (u := 43) rfl
  have pf_qa := ia qa f_qa
  obtain ⟨qp, f_qp, g_qp⟩ := hx_rf hT gx tt_9 (k := 7) (u := 44) rfl
  have pf_qp := ip qp f_qp
  obtain ⟨qc, f_qc, g_qc⟩ := hx_rf hT gx tt_9 (k := 10) (u := 45) rfl
  have pf_qc := ic qc f_qc
  obtain ⟨qh, f_qh, g_qh⟩ := hx_rf hT gx tt_9 (k := 12) (u := 46) rfl
  have pf_qh := ih qh f_qh
  obtain ⟨qw, f_qw, g_qw⟩ := hx_rf hT gx tt_9 (k := 19) (u := 8) rfl
  obtain ⟨ql, f_ql, g_ql⟩ := hx_rf hT g_qw tt_8 (k := 3) (u := 40) rfl
  have pf_ql := il qw ql f_qw f_ql
  obtain ⟨nw, f_m_now⟩ : ∃ y : Int32, hl1.2.1 am 0 = y := ⟨_, rfl⟩
  have b_nw := hT.gi gm tt_10 (k := 0) rfl
  rw [f_m_now] at b_nw
  have b_nw : 0 ≤ nw.toInt ∧ nw.toInt ≤ 7999 := b_nw
  obtain ⟨np, f_m_persons⟩ : ∃ y : Int32, hl1.2.1 am 20 = y := ⟨_, rfl⟩
  have b_np := hT.gi gm tt_10 (k := 20) rfl
  rw [f_m_persons] at b_np
  have b_np : 0 ≤ np.toInt ∧ np.toInt ≤ 40 := b_np
  obtain ⟨c0, f_m_claims⟩ : ∃ y : Int32, hl1.2.1 am 36 = y := ⟨_, rfl⟩
  have b_c0 := hT.gi gm tt_10 (k := 36) rfl
  rw [f_m_claims] at b_c0
  have b_c0 : 0 ≤ c0.toInt ∧ c0.toInt ≤ 100 := b_c0
  obtain ⟨ln, f_m_lines⟩ : ∃ y : Int32, hl1.2.1 am 29 = y := ⟨_, rfl⟩
  have b_ln := hT.gi gm tt_10 (k := 29) rfl
  rw [f_m_lines] at b_ln
  have b_ln : 0 ≤ ln.toInt ∧ ln.toInt ≤ 400 := b_ln
  obtain ⟨lsd, f_m_listed⟩ : ∃ y : Int32, hl1.2.1 am 90 = y := ⟨_, rfl⟩
  have b_lsd := hT.gi gm tt_10 (k := 90) rfl
  rw [f_m_listed] at b_lsd
  have b_lsd : 0 ≤ lsd.toInt ∧ lsd.toInt ≤ 8 := b_lsd
  obtain ⟨a0, f_m_acts⟩ : ∃ y : Int32, hl1.2.1 am 1 = y := ⟨_, rfl⟩
  have b_a0 := hT.gi gm tt_10 (k := 1) rfl
  rw [f_m_acts] at b_a0
  have b_a0 : 0 ≤ a0.toInt ∧ a0.toInt ≤ 8 := b_a0
  obtain ⟨m0, f_m_heardMany⟩ : ∃ y : Int32, hl1.2.1 am 57 = y := ⟨_, rfl⟩
  have b_m0 := hT.gi gm tt_10 (k := 57) rfl
  rw [f_m_heardMany] at b_m0
  have b_m0 : 0 ≤ m0.toInt ∧ m0.toInt ≤ 100 := b_m0
  have f_x_now : hl1.2.1 ax 2 = nw := he_nw.trans f_m_now
  have f_x_personCount : hl1.2.1 ax 8 = np := he_np.trans f_m_persons
  have f_x_claimCount : hl1.2.1 ax 11 = c0 := he_c0.trans f_m_claims
  obtain ⟨mw, f_mw, g_mw⟩ := hx_rf hT gm tt_10 (k := 19) (u := 57) rfl
  obtain ⟨F_mw, n_mw⟩ : ∃ g : Nat → Int32, hl1.2.1 mw = g := ⟨_, rfl⟩
  obtain ⟨mr, f_mr, g_mr⟩ := hx_rf hT gm tt_10 (k := 3) (u := 50) rfl
  obtain ⟨F_mr, n_mr⟩ : ∃ g : Nat → Int32, hl1.2.1 mr = g := ⟨_, rfl⟩
  obtain ⟨mp, f_mp, g_mp⟩ := hx_rf hT gm tt_10 (k := 5) (u := 52) rfl
  obtain ⟨F_mp, n_mp⟩ : ∃ g : Nat → Int32, hl1.2.1 mp = g := ⟨_, rfl⟩
  obtain ⟨mn, f_mn, g_mn⟩ := hx_rf hT gm tt_10 (k := 4) (u := 51) rfl
  obtain ⟨F_mn, n_mn⟩ : ∃ g : Nat → Int32, hl1.2.1 mn = g := ⟨_, rfl⟩
  obtain ⟨ml, f_ml, g_ml⟩ := hx_rf hT gm tt_10 (k := 44) (u := 79) rfl
  obtain ⟨F_ml, n_ml⟩ : ∃ g : Nat → Int32, hl1.2.1 ml = g := ⟨_, rfl⟩
  obtain ⟨mh, f_mh, g_mh⟩ := hx_rf hT gm tt_10 (k := 47) (u := 82) rfl
  obtain ⟨F_mh, n_mh⟩ : ∃ g : Nat → Int32, hl1.2.1 mh = g := ⟨_, rfl⟩
  obtain ⟨mt, f_mt, g_mt⟩ := hx_rf hT gm tt_10 (k := 45) (u := 80) rfl
  obtain ⟨F_mt, n_mt⟩ : ∃ g : Nat → Int32, hl1.2.1 mt = g := ⟨_, rfl⟩
  obtain ⟨m_fou, f_m_fou, g_m_fou⟩ := hx_rf hT gm tt_10 (k := 46) (u := 81) rfl
  obtain ⟨F_m_fou, n_m_fou⟩ : ∃ g : Nat → Int32, hl1.2.1 m_fou = g := ⟨_, rfl⟩
  obtain ⟨qo_ln, f_qo_ln, g_qo_ln⟩ := hx_rf hT gx tt_9 (k := 9) (u := 1) rfl
  have f_o_ln : hl1.2.1 qo_ln 0 = ln := (ho_ln qo_ln f_qo_ln).trans f_m_lines
  have f_o_lsd : hl1.2.1 qw 0 = lsd := (ho_lsd qw f_qw).trans f_m_listed
  have nu_qp := hn_qp qp f_qp; rw [f_x_personCount] at nu_qp
  have nu_qc := hn_qc qc f_qc; rw [f_x_claimCount] at nu_qc
  obtain ⟨b_of, f_b_of, g_b_of⟩ := hx_rf hT g_qo_ln tt_1 (k := 1) (u := 13) rfl
  obtain ⟨B_of, n_b_of⟩ : ∃ g : Nat → Int32, hl1.2.1 b_of = g := ⟨_, rfl⟩
  obtain ⟨m_of, f_m_of, g_m_of⟩ := hx_rf hT gm tt_10 (k := 30) (u := 66) rfl
  obtain ⟨F_of, n_m_of⟩ : ∃ g : Nat → Int32, hl1.2.1 m_of = g := ⟨_, rfl⟩
  have eb_of := hk_of qo_ln b_of m_of f_qo_ln f_b_of f_m_of; rw [n_b_of, n_m_of, f_o_ln] at eb_of
  obtain ⟨b_wf, f_b_wf, g_b_wf⟩ := hx_rf hT g_qo_ln tt_1 (k := 2) (u := 14) rfl
  obtain ⟨B_wf, n_b_wf⟩ : ∃ g : Nat → Int32, hl1.2.1 b_wf = g := ⟨_, rfl⟩
  obtain ⟨m_wf, f_m_wf, g_m_wf⟩ := hx_rf hT gm tt_10 (k := 31) (u := 67) rfl
  obtain ⟨F_wf, n_m_wf⟩ : ∃ g : Nat → Int32, hl1.2.1 m_wf = g := ⟨_, rfl⟩
  have eb_wf := hk_wf qo_ln b_wf m_wf f_qo_ln f_b_wf f_m_wf; rw [n_b_wf, n_m_wf, f_o_ln] at eb_wf
  obtain ⟨b_df, f_b_df, g_b_df⟩ := hx_rf hT g_qo_ln tt_1 (k := 3) (u := 15) rfl
  obtain ⟨B_df, n_b_df⟩ : ∃ g : Nat → Int32, hl1.2.1 b_df = g := ⟨_, rfl⟩
  obtain ⟨m_df, f_m_df, g_m_df⟩ := hx_rf hT gm tt_10 (k := 32) (u := 68) rfl
  obtain ⟨F_df, n_m_df⟩ : ∃ g : Nat → Int32, hl1.2.1 m_df = g := ⟨_, rfl⟩
  have eb_df := hk_df qo_ln b_df m_df f_qo_ln f_b_df f_m_df; rw [n_b_df, n_m_df, f_o_ln] at eb_df
  obtain ⟨b_kf, f_b_kf, g_b_kf⟩ := hx_rf hT g_qo_ln tt_1 (k := 4) (u := 16) rfl
  obtain ⟨B_kf, n_b_kf⟩ : ∃ g : Nat → Int32, hl1.2.1 b_kf = g := ⟨_, rfl⟩
  obtain ⟨m_kf, f_m_kf, g_m_kf⟩ := hx_rf hT gm tt_10 (k := 33) (u := 69) rfl
  obtain ⟨F_kf, n_m_kf⟩ : ∃ g : Nat → Int32, hl1.2.1 m_kf = g := ⟨_, rfl⟩
  have eb_kf := hk_kf qo_ln b_kf m_kf f_qo_ln f_b_kf f_m_kf; rw [n_b_kf, n_m_kf, f_o_ln] at eb_kf
  obtain ⟨b_sf, f_b_sf, g_b_sf⟩ := hx_rf hT g_qo_ln tt_1 (k := 5) (u := 17) rfl
  obtain ⟨B_sf, n_b_sf⟩ : ∃ g : Nat → Int32, hl1.2.1 b_sf = g := ⟨_, rfl⟩
  obtain ⟨m_sf, f_m_sf, g_m_sf⟩ := hx_rf hT gm tt_10 (k := 34) (u := 70) rfl
  obtain ⟨F_sf, n_m_sf⟩ : ∃ g : Nat → Int32, hl1.2.1 m_sf = g := ⟨_, rfl⟩
  have eb_sf := hk_sf qo_ln b_sf m_sf f_qo_ln f_b_sf f_m_sf; rw [n_b_sf, n_m_sf, f_o_ln] at eb_sf
  obtain ⟨b_bf, f_b_bf, g_b_bf⟩ := hx_rf hT g_qo_ln tt_1 (k := 6) (u := 18) rfl
  obtain ⟨bfL, n_b_bf⟩ : ∃ g : Nat → Int32, hl1.2.1 b_bf = g := ⟨_, rfl⟩
  obtain ⟨hBD, hDY⟩ := hkBD qo_ln b_df b_bf f_qo_ln f_b_df f_b_bf; rw [n_b_df, n_b_bf, f_o_ln] at hBD; rw [n_b_df, f_o_ln] at hDY
  have hBDm := hy_BD_c eb_df hBD
  have hDYm : hy_DY F_df ln.toInt.toNat := fun x hx => by rw [← eb_df x hx]; exact hDY x hx
  have sb_list := hLQ qw ql qc f_qw f_ql f_qc
  obtain ⟨m_lst, f_m_lst, g_m_lst⟩ := hx_rf hT gm tt_10 (k := 91) (u := 112) rfl
  obtain ⟨F_lst, n_lst⟩ : ∃ g : Nat → Int32, hl1.2.1 m_lst = g := ⟨_, rfl⟩
  obtain ⟨c_lst, cl_lst⟩ : ∃ g : Nat → Int32, hx_col 8 hl1 ql 0 = g := ⟨_, rfl⟩
  have eq_lst := hLE qw ql m_lst f_qw f_ql f_m_lst; rw [cl_lst, n_lst] at eq_lst
  obtain ⟨c_dead, cl_dead⟩ : ∃ g : Nat → Int32, hx_col 40 hl1 qp 7 = g := ⟨_, rfl⟩
  obtain ⟨m_dead, f_m_dead, g_m_dead⟩ := hx_rf hT gm tt_10 (k := 27) (u := 64) rfl
  obtain ⟨F_dead, n_dead⟩ : ∃ g : Nat → Int32, hl1.2.1 m_dead = g := ⟨_, rfl⟩
  have eq_dead := hc_dead qp m_dead f_qp f_m_dead; rw [cl_dead, n_dead] at eq_dead
  have z_dead : np.toInt.toNat < 40 → c_dead np.toInt.toNat = 0 := fun hj => hx_num_z nu_qp cl_dead hj (by omega)
  obtain ⟨c_isj, cl_isj⟩ : ∃ g : Nat → Int32, hx_col 40 hl1 qp 8 = g := ⟨_, rfl⟩
  obtain ⟨m_isj, f_m_isj, g_m_isj⟩ := hx_rf hT gm tt_10 (k := 28) (u := 65) rfl
  obtain ⟨F_isj, n_isj⟩ : ∃ g : Nat → Int32, hl1.2.1 m_isj = g := ⟨_, rfl⟩
  have eq_isj := hc_isj qp m_isj f_qp f_m_isj; rw [cl_isj, n_isj] at eq_isj
  have z_isj : np.toInt.toNat < 40 → c_isj np.toInt.toNat = 0 := fun hj => hx_num_z nu_qp cl_isj hj (by omega)
  obtain ⟨c_fou, cl_fou⟩ : ∃ g : Nat → Int32, hx_col 100 hl1 qc 10 = g := ⟨_, rfl⟩
  have eq_fou := hc_fou qc m_fou f_qc f_m_fou; rw [cl_fou, n_m_fou] at eq_fou
  have z_fou : c0.toInt.toNat < 100 → c_fou c0.toInt.toNat = 0 := fun hj => hx_num_z nu_qc cl_fou hj (by omega)
  obtain ⟨c_tri, cl_tri⟩ : ∃ g : Nat → Int32, hx_col 100 hl1 qc 9 = g := ⟨_, rfl⟩
  have eq_tri := hc_tri qc mt f_qc f_mt; rw [cl_tri, n_mt] at eq_tri
  have z_tri : c0.toInt.toNat < 100 → c_tri c0.toInt.toNat = 0 := fun hj => hx_num_z nu_qc cl_tri hj (by omega)
  have hwd := jw mw f_mw; rw [n_mw] at hwd
  have hWK := jr mr f_mr; rw [n_mr, f_m_acts] at hWK
  have hRP := jp mp mn f_mp f_mn; rw [n_mp, n_mn, f_m_acts] at hRP
  have hPL := jl ml f_ml; rw [n_ml, f_m_claims, f_m_acts] at hPL
  have hHC := jh mh f_mh; rw [n_mh, f_m_heardMany, f_m_claims] at hHC
  have hTR := jt mt f_mt; rw [n_mt] at hTR
  have hHF := jf mh m_fou f_mh f_m_fou; rw [n_mh, n_m_fou, f_m_claims] at hHF
  refine lv_aload_n hx hb dL_law_1290 rfl (lv_at hl 2 rfl) ?_
  refine lv_aload_n hx hb dL_law_1291 rfl (lv_at hl 3 rfl) ?_
  refine lv_iload_n hx hb dL_law_1292 rfl (lv_at hl 0 rfl) ?_
  refine lv_iconst (v := 1) hx hb dL_law_1293 (by decide) ?_
  refine lv_iadd hx hb dL_law_1294 ?_
  have rg_700 := i32_r i
  refine lv_topi (fun x_701 ex_701 => ?_)
  have zx_701 : x_701.toInt = i.toInt + 1 := by rw [ex_701]; exact i32_add rfl (by decide) (by omega) (by omega)
  refine va_sld hx hb hX hbl hbA hW.2.2.2.1 (vp_in_iff.mpr ⟨by omega, by omega⟩) dL_law_1295 ?_
  refine lv_topi (fun x_702 ex_702 => ?_)
  refine lv_aload_n hx hb dL_law_1296 rfl (lv_at hl 3 rfl) ?_
  refine lv_iload_n hx hb dL_law_1297 rfl (lv_at hl 0 rfl) ?_
  refine lv_iconst (v := 2) hx hb dL_law_1298 (by decide) ?_
  refine lv_iadd hx hb dL_law_1299 ?_
  refine lv_topi (fun x_703 ex_703 => ?_)
  have zx_703 : x_703.toInt = i.toInt + 2 := by rw [ex_703]; exact i32_add rfl (by decide) (by omega) (by omega)
  refine va_sld hx hb hX hbl hbA hW.2.2.2.1 (vp_in_iff.mpr ⟨by omega, by omega⟩) dL_law_1300 ?_
  refine lv_topi (fun x_704 ex_704 => ?_)
  have hTo := hT
  refine hx_goi (hx_runV (As := [.int x_702, .int x_704]) (rest := []) ⟨hx, hb, hml, hown, hts⟩ hW gx tt_9 (T := TX9) (N := 20) rfl (t_X9_habit l dC dI dA L1 hl1 H.size ax x_702 x_704 hT gx qp g_qp f_qp qh g_qh f_qh pf_qp pf_qh) (cwV 2 hts (hx_gV kw_1092 kw_1089 kw_1090 kw_1091 kw_94) rfl rfl rfl (by decide +kernel) ⟨Nat.le_of_ble_eq_true rfl, Nat.le_of_ble_eq_true rfl⟩) rfl hl.1 rfl (Nat.le_of_ble_eq_true rfl) dL_law_1301 ⟨(show CC + 0 ≤ 600000 from by omega), (show SS + 0 ≤ 7302250 from by omega)⟩) hW (fun r_707 L_705 h_706 H locs p_708 hW => ?_)
  obtain ⟨hr_709, hT, hs⟩ := p_708
  have hT : hx_T T_tb L_705 h_706 := hT
  have hs : hx_S T_tb [] L1 hl1 L_705 h_706 := hs
  have f_qa := (hs.o gx trivial rfl).2.trans f_qa
  have f_qp := (hs.o gx trivial rfl).2.trans f_qp
  have f_qc := (hs.o gx trivial rfl).2.trans f_qc
  have f_qh := (hs.o gx trivial rfl).2.trans f_qh
  have f_qw := (hs.o gx trivial rfl).2.trans f_qw
  have f_ql := (hs.o g_qw trivial rfl).2.trans f_ql
  have f_m_now := (hs.o gm trivial rfl).1.trans f_m_now
  have f_m_persons := (hs.o gm trivial rfl).1.trans f_m_persons
  have f_m_claims := (hs.o gm trivial rfl).1.trans f_m_claims
  have f_m_lines := (hs.o gm trivial rfl).1.trans f_m_lines
  have f_m_listed := (hs.o gm trivial rfl).1.trans f_m_listed
  have f_m_acts := (hs.o gm trivial rfl).1.trans f_m_acts
  have f_m_heardMany := (hs.o gm trivial rfl).1.trans f_m_heardMany
  have f_x_now := (hs.o gx trivial rfl).1.trans f_x_now
  have f_x_personCount := (hs.o gx trivial rfl).1.trans f_x_personCount
  have f_x_claimCount := (hs.o gx trivial rfl).1.trans f_x_claimCount
  have f_mw := (hs.o gm trivial rfl).2.trans f_mw
  have f_mr := (hs.o gm trivial rfl).2.trans f_mr
  have f_mp := (hs.o gm trivial rfl).2.trans f_mp
  have f_mn := (hs.o gm trivial rfl).2.trans f_mn
  have f_ml := (hs.o gm trivial rfl).2.trans f_ml
  have f_mh := (hs.o gm trivial rfl).2.trans f_mh
  have f_mt := (hs.o gm trivial rfl).2.trans f_mt
  have f_m_fou := (hs.o gm trivial rfl).2.trans f_m_fou
  have f_qo_ln := (hs.o gx trivial rfl).2.trans f_qo_ln
  have f_o_ln := (hs.o g_qo_ln trivial rfl).1.trans f_o_ln
  have f_o_lsd := (hs.o g_qw trivial rfl).1.trans f_o_lsd
  have f_b_of := (hs.o g_qo_ln trivial rfl).2.trans f_b_of
  have f_m_of := (hs.o gm trivial rfl).2.trans f_m_of
  have f_b_wf := (hs.o g_qo_ln trivial rfl).2.trans f_b_wf
  have f_m_wf := (hs.o gm trivial rfl).2.trans f_m_wf
  have f_b_df := (hs.o g_qo_ln trivial rfl).2.trans f_b_df
  have f_m_df := (hs.o gm trivial rfl).2.trans f_m_df
  have f_b_kf := (hs.o g_qo_ln trivial rfl).2.trans f_b_kf
  have f_m_kf := (hs.o gm trivial rfl).2.trans f_m_kf
  have f_b_sf := (hs.o g_qo_ln trivial rfl).2.trans f_b_sf
  have f_m_sf := (hs.o gm trivial rfl).2.trans f_m_sf
  have f_b_bf := (hs.o g_qo_ln trivial rfl).2.trans f_b_bf
  have f_m_lst := (hs.o gm trivial rfl).2.trans f_m_lst
  have f_m_dead := (hs.o gm trivial rfl).2.trans f_m_dead
  have f_m_isj := (hs.o gm trivial rfl).2.trans f_m_isj
  have pf_qa : ∀ j : Nat, (j : Int) < (h_706.2.1 ax 6).toInt → h_706.2.2 qa j ≠ none := by
    intro j hj; rw [(hs.o gx trivial rfl).1] at hj; rw [(hs.a g_qa rfl j).2]; exact pf_qa j hj
  have pf_qp : ∀ j : Nat, (j : Int) < (h_706.2.1 ax 8).toInt → h_706.2.2 qp j ≠ none := by
    intro j hj; rw [(hs.o gx trivial rfl).1] at hj; rw [(hs.a g_qp rfl j).2]; exact pf_qp j hj
  have pf_qc : ∀ j : Nat, (j : Int) < (h_706.2.1 ax 11).toInt → h_706.2.2 qc j ≠ none := by
    intro j hj; rw [(hs.o gx trivial rfl).1] at hj; rw [(hs.a g_qc rfl j).2]; exact pf_qc j hj
  have pf_qh : ∀ j : Nat, (j : Int) < (h_706.2.1 ax 13).toInt → h_706.2.2 qh j ≠ none := by
    intro j hj; rw [(hs.o gx trivial rfl).1] at hj; rw [(hs.a g_qh rfl j).2]; exact pf_qh j hj
  have pf_ql : ∀ j : Nat, (j : Int) < (h_706.2.1 qw 0).toInt → h_706.2.2 ql j ≠ none := by
    intro j hj; rw [(hs.o g_qw trivial rfl).1] at hj; rw [(hs.a g_ql rfl j).2]; exact pf_ql j hj
  have cl_lst : hx_col 8 h_706 ql 0 = c_lst := (hx_col_S hs hTo g_ql tt_40 tt_2 rfl rfl).trans cl_lst
  have cl_dead : hx_col 40 h_706 qp 7 = c_dead := (hx_col_S hs hTo g_qp tt_44 tt_4 rfl rfl).trans cl_dead
  have cl_isj : hx_col 40 h_706 qp 8 = c_isj := (hx_col_S hs hTo g_qp tt_44 tt_4 rfl rfl).trans cl_isj
  have cl_fou : hx_col 100 h_706 qc 10 = c_fou := (hx_col_S hs hTo g_qc tt_45 tt_2 rfl rfl).trans cl_fou
  have cl_tri : hx_col 100 h_706 qc 9 = c_tri := (hx_col_S hs hTo g_qc tt_45 tt_2 rfl rfl).trans cl_tri
  have nu_qp : hx_num 40 h_706 qp 0 (np.toInt) := hx_num_S hs hTo g_qp tt_44 tt_4 rfl rfl nu_qp
  have nu_qc : hx_num 100 h_706 qc 0 (c0.toInt) := hx_num_S hs hTo g_qc tt_45 tt_2 rfl rfl nu_qc
  have sb_list : hx_LQ 8 100 h_706 ql qc := hx_LQ_S hs g_ql g_qc rfl rfl sb_list
  have n_mw : h_706.2.1 mw = F_mw := (funext fun j => (hs.a g_mw rfl j).1).trans n_mw
  have n_mr : h_706.2.1 mr = F_mr := (funext fun j => (hs.a g_mr rfl j).1).trans n_mr
  have n_mp : h_706.2.1 mp = F_mp := (funext fun j => (hs.a g_mp rfl j).1).trans n_mp
  have n_mn : h_706.2.1 mn = F_mn := (funext fun j => (hs.a g_mn rfl j).1).trans n_mn
  have n_ml : h_706.2.1 ml = F_ml := (funext fun j => (hs.a g_ml rfl j).1).trans n_ml
  have n_mh : h_706.2.1 mh = F_mh := (funext fun j => (hs.a g_mh rfl j).1).trans n_mh
  have n_mt : h_706.2.1 mt = F_mt := (funext fun j => (hs.a g_mt rfl j).1).trans n_mt
  have n_m_fou : h_706.2.1 m_fou = F_m_fou := (funext fun j => (hs.a g_m_fou rfl j).1).trans n_m_fou
  have n_b_of : h_706.2.1 b_of = B_of := (funext fun j => (hs.a g_b_of rfl j).1).trans n_b_of
  have n_m_of : h_706.2.1 m_of = F_of := (funext fun j => (hs.a g_m_of rfl j).1).trans n_m_of
  have n_b_wf : h_706.2.1 b_wf = B_wf := (funext fun j => (hs.a g_b_wf rfl j).1).trans n_b_wf
  have n_m_wf : h_706.2.1 m_wf = F_wf := (funext fun j => (hs.a g_m_wf rfl j).1).trans n_m_wf
  have n_b_df : h_706.2.1 b_df = B_df := (funext fun j => (hs.a g_b_df rfl j).1).trans n_b_df
  have n_m_df : h_706.2.1 m_df = F_df := (funext fun j => (hs.a g_m_df rfl j).1).trans n_m_df
  have n_b_kf : h_706.2.1 b_kf = B_kf := (funext fun j => (hs.a g_b_kf rfl j).1).trans n_b_kf
  have n_m_kf : h_706.2.1 m_kf = F_kf := (funext fun j => (hs.a g_m_kf rfl j).1).trans n_m_kf
  have n_b_sf : h_706.2.1 b_sf = B_sf := (funext fun j => (hs.a g_b_sf rfl j).1).trans n_b_sf
  have n_m_sf : h_706.2.1 m_sf = F_sf := (funext fun j => (hs.a g_m_sf rfl j).1).trans n_m_sf
  have n_b_bf : h_706.2.1 b_bf = bfL := (funext fun j => (hs.a g_b_bf rfl j).1).trans n_b_bf
  have n_lst : h_706.2.1 m_lst = F_lst := (funext fun j => (hs.a g_m_lst rfl j).1).trans n_lst
  have n_dead : h_706.2.1 m_dead = F_dead := (funext fun j => (hs.a g_m_dead rfl j).1).trans n_dead
  have n_isj : h_706.2.1 m_isj = F_isj := (funext fun j => (hs.a g_m_isj rfl j).1).trans n_isj
  have gx := gx.S hs
  have gm := gm.S hs
  have g_qa := g_qa.S hs
  have g_qp := g_qp.S hs
  have g_qc := g_qc.S hs
  have g_qh := g_qh.S hs
  have g_qw := g_qw.S hs
  have g_ql := g_ql.S hs
  have g_mw := g_mw.S hs
  have g_mr := g_mr.S hs
  have g_mp := g_mp.S hs
  have g_mn := g_mn.S hs
  have g_ml := g_ml.S hs
  have g_mh := g_mh.S hs
  have g_mt := g_mt.S hs
  have g_m_fou := g_m_fou.S hs
  have g_qo_ln := g_qo_ln.S hs
  have g_b_of := g_b_of.S hs
  have g_m_of := g_m_of.S hs
  have g_b_wf := g_b_wf.S hs
  have g_m_wf := g_m_wf.S hs
  have g_b_df := g_b_df.S hs
  have g_m_df := g_m_df.S hs
  have g_b_kf := g_b_kf.S hs
  have g_m_kf := g_m_kf.S hs
  have g_b_sf := g_b_sf.S hs
  have g_m_sf := g_m_sf.S hs
  have g_b_bf := g_b_bf.S hs
  have g_m_lst := g_m_lst.S hs
  have g_m_dead := g_m_dead.S hs
  have g_m_isj := g_m_isj.S hs
  refine lv_pop hx hb dL_law_1304 rfl ?_
  refine lv_aload_n hx hb dL_law_1305 rfl (lv_at hl 1 rfl) ?_
  refine lv_aload_n hx hb dL_law_1306 rfl (lv_at hl 3 rfl) ?_
  refine lv_iload_n hx hb dL_law_1307 rfl (lv_at hl 0 rfl) ?_
  refine lv_iconst (v := 1) hx hb dL_law_1308 (by decide) ?_
  refine lv_iadd hx hb dL_law_1309 ?_
  refine lv_topi (fun x_710 ex_710 => ?_)
  have zx_710 : x_710.toInt = i.toInt + 1 := by rw [ex_710]; exact i32_add rfl (by decide) (by omega) (by omega)
  obtain rfl : x_701 = x_710 := ex_701.trans ex_710.symm
  refine va_sld hx hb hX hbl hbA hW.2.2.2.1 (vp_in_iff.mpr ⟨by omega, by omega⟩) dL_law_1310 ?_
  refine lv_topi (fun x_711 ex_711 => ?_)
  obtain rfl : x_702 = x_711 := ex_702.trans ex_711.symm
  refine lv_aload_n hx hb dL_law_1311 rfl (lv_at hl 3 rfl) ?_
  refine lv_iload_n hx hb dL_law_1312 rfl (lv_at hl 0 rfl) ?_
  refine lv_iconst (v := 2) hx hb dL_law_1313 (by decide) ?_
  refine lv_iadd hx hb dL_law_1314 ?_
  refine lv_topi (fun x_712 ex_712 => ?_)
  have zx_712 : x_712.toInt = i.toInt + 2 := by rw [ex_712]; exact i32_add rfl (by decide) (by omega) (by omega)
  obtain rfl : x_703 = x_712 := ex_703.trans ex_712.symm
  refine va_sld hx hb hX hbl hbA hW.2.2.2.1 (vp_in_iff.mpr ⟨by omega, by omega⟩) dL_law_1315 ?_
  refine lv_topi (fun x_713 ex_713 => ?_)
  obtain rfl : x_704 = x_713 := ex_704.trans ex_713.symm
  have hTo := hT
  refine hx_goi (hx_runV (As := [.int x_702, .int x_704]) (rest := []) ⟨hx, hb, hml, hown, hts⟩ hW gm tt_10 (T := TX10) (N := 98) rfl (t_X10_habit l dC dI dA L_705 h_706 H.size am x_702 x_704 hT gm) (cwV 2 hts (hx_gV kw_1736 kw_1733 kw_1734 kw_1735 kw_103) rfl rfl rfl (by decide +kernel) ⟨Nat.le_of_ble_eq_true rfl, Nat.le_of_ble_eq_true rfl⟩) rfl hl.1 rfl (Nat.le_of_ble_eq_true rfl) dL_law_1316 ⟨(show CC + 0 + 0 ≤ 600000 from by omega), (show SS + 0 + 0 ≤ 7302250 from by omega)⟩) hW (fun r_716 L_714 h_715 H locs p_717 hW => ?_)
  obtain ⟨hr_718, hT, hs⟩ := p_717
  have hT : hx_T T_tb L_714 h_715 := hT
  have hs : hx_S T_tb [(10, 95), (10, 96), (115, 0)] L_705 h_706 L_714 h_715 := hs
  have f_qa := (hs.o gx trivial rfl).2.trans f_qa
  have f_qp := (hs.o gx trivial rfl).2.trans f_qp
  have f_qc := (hs.o gx trivial rfl).2.trans f_qc
  have f_qh := (hs.o gx trivial rfl).2.trans f_qh
  have f_qw := (hs.o gx trivial rfl).2.trans f_qw
  have f_ql := (hs.o g_qw trivial rfl).2.trans f_ql
  have f_m_now := (hs.o gm trivial rfl).1.trans f_m_now
  have f_m_persons := (hs.o gm trivial rfl).1.trans f_m_persons
  have f_m_claims := (hs.o gm trivial rfl).1.trans f_m_claims
  have f_m_lines := (hs.o gm trivial rfl).1.trans f_m_lines
  have f_m_listed := (hs.o gm trivial rfl).1.trans f_m_listed
  have f_m_acts := (hs.o gm trivial rfl).1.trans f_m_acts
  have f_m_heardMany := (hs.o gm trivial rfl).1.trans f_m_heardMany
  have f_x_now := (hs.o gx trivial rfl).1.trans f_x_now
  have f_x_personCount := (hs.o gx trivial rfl).1.trans f_x_personCount
  have f_x_claimCount := (hs.o gx trivial rfl).1.trans f_x_claimCount
  have f_mw := (hs.o gm trivial rfl).2.trans f_mw
  have f_mr := (hs.o gm trivial rfl).2.trans f_mr
  have f_mp := (hs.o gm trivial rfl).2.trans f_mp
  have f_mn := (hs.o gm trivial rfl).2.trans f_mn
  have f_ml := (hs.o gm trivial rfl).2.trans f_ml
  have f_mh := (hs.o gm trivial rfl).2.trans f_mh
  have f_mt := (hs.o gm trivial rfl).2.trans f_mt
  have f_m_fou := (hs.o gm trivial rfl).2.trans f_m_fou
  have f_qo_ln := (hs.o gx trivial rfl).2.trans f_qo_ln
  have f_o_ln := (hs.o g_qo_ln trivial rfl).1.trans f_o_ln
  have f_o_lsd := (hs.o g_qw trivial rfl).1.trans f_o_lsd
  have f_b_of := (hs.o g_qo_ln trivial rfl).2.trans f_b_of
  have f_m_of := (hs.o gm trivial rfl).2.trans f_m_of
  have f_b_wf := (hs.o g_qo_ln trivial rfl).2.trans f_b_wf
  have f_m_wf := (hs.o gm trivial rfl).2.trans f_m_wf
  have f_b_df := (hs.o g_qo_ln trivial rfl).2.trans f_b_df
  have f_m_df := (hs.o gm trivial rfl).2.trans f_m_df
  have f_b_kf := (hs.o g_qo_ln trivial rfl).2.trans f_b_kf
  have f_m_kf := (hs.o gm trivial rfl).2.trans f_m_kf
  have f_b_sf := (hs.o g_qo_ln trivial rfl).2.trans f_b_sf
  have f_m_sf := (hs.o gm trivial rfl).2.trans f_m_sf
  have f_b_bf := (hs.o g_qo_ln trivial rfl).2.trans f_b_bf
  have f_m_lst := (hs.o gm trivial rfl).2.trans f_m_lst
  have f_m_dead := (hs.o gm trivial rfl).2.trans f_m_dead
  have f_m_isj := (hs.o gm trivial rfl).2.trans f_m_isj
  have pf_qa : ∀ j : Nat, (j : Int) < (h_715.2.1 ax 6).toInt → h_715.2.2 qa j ≠ none := by
    intro j hj; rw [(hs.o gx trivial rfl).1] at hj; rw [(hs.a g_qa rfl j).2]; exact pf_qa j hj
  have pf_qp : ∀ j : Nat, (j : Int) < (h_715.2.1 ax 8).toInt → h_715.2.2 qp j ≠ none := by
    intro j hj; rw [(hs.o gx trivial rfl).1] at hj; rw [(hs.a g_qp rfl j).2]; exact pf_qp j hj
  have pf_qc : ∀ j : Nat, (j : Int) < (h_715.2.1 ax 11).toInt → h_715.2.2 qc j ≠ none := by
    intro j hj; rw [(hs.o gx trivial rfl).1] at hj; rw [(hs.a g_qc rfl j).2]; exact pf_qc j hj
  have pf_qh : ∀ j : Nat, (j : Int) < (h_715.2.1 ax 13).toInt → h_715.2.2 qh j ≠ none := by
    intro j hj; rw [(hs.o gx trivial rfl).1] at hj; rw [(hs.a g_qh rfl j).2]; exact pf_qh j hj
  have pf_ql : ∀ j : Nat, (j : Int) < (h_715.2.1 qw 0).toInt → h_715.2.2 ql j ≠ none := by
    intro j hj; rw [(hs.o g_qw trivial rfl).1] at hj; rw [(hs.a g_ql rfl j).2]; exact pf_ql j hj
  have cl_lst : hx_col 8 h_715 ql 0 = c_lst := (hx_col_S hs hTo g_ql tt_40 tt_2 rfl rfl).trans cl_lst
  have cl_dead : hx_col 40 h_715 qp 7 = c_dead := (hx_col_S hs hTo g_qp tt_44 tt_4 rfl rfl).trans cl_dead
  have cl_isj : hx_col 40 h_715 qp 8 = c_isj := (hx_col_S hs hTo g_qp tt_44 tt_4 rfl rfl).trans cl_isj
  have cl_fou : hx_col 100 h_715 qc 10 = c_fou := (hx_col_S hs hTo g_qc tt_45 tt_2 rfl rfl).trans cl_fou
  have cl_tri : hx_col 100 h_715 qc 9 = c_tri := (hx_col_S hs hTo g_qc tt_45 tt_2 rfl rfl).trans cl_tri
  have nu_qp : hx_num 40 h_715 qp 0 (np.toInt) := hx_num_S hs hTo g_qp tt_44 tt_4 rfl rfl nu_qp
  have nu_qc : hx_num 100 h_715 qc 0 (c0.toInt) := hx_num_S hs hTo g_qc tt_45 tt_2 rfl rfl nu_qc
  have sb_list : hx_LQ 8 100 h_715 ql qc := hx_LQ_S hs g_ql g_qc rfl rfl sb_list
  have n_mw : h_715.2.1 mw = F_mw := (funext fun j => (hs.a g_mw rfl j).1).trans n_mw
  have n_mr : h_715.2.1 mr = F_mr := (funext fun j => (hs.a g_mr rfl j).1).trans n_mr
  have n_mp : h_715.2.1 mp = F_mp := (funext fun j => (hs.a g_mp rfl j).1).trans n_mp
  have n_mn : h_715.2.1 mn = F_mn := (funext fun j => (hs.a g_mn rfl j).1).trans n_mn
  have n_ml : h_715.2.1 ml = F_ml := (funext fun j => (hs.a g_ml rfl j).1).trans n_ml
  have n_mh : h_715.2.1 mh = F_mh := (funext fun j => (hs.a g_mh rfl j).1).trans n_mh
  have n_mt : h_715.2.1 mt = F_mt := (funext fun j => (hs.a g_mt rfl j).1).trans n_mt
  have n_m_fou : h_715.2.1 m_fou = F_m_fou := (funext fun j => (hs.a g_m_fou rfl j).1).trans n_m_fou
  have n_b_of : h_715.2.1 b_of = B_of := (funext fun j => (hs.a g_b_of rfl j).1).trans n_b_of
  have n_m_of : h_715.2.1 m_of = F_of := (funext fun j => (hs.a g_m_of rfl j).1).trans n_m_of
  have n_b_wf : h_715.2.1 b_wf = B_wf := (funext fun j => (hs.a g_b_wf rfl j).1).trans n_b_wf
  have n_m_wf : h_715.2.1 m_wf = F_wf := (funext fun j => (hs.a g_m_wf rfl j).1).trans n_m_wf
  have n_b_df : h_715.2.1 b_df = B_df := (funext fun j => (hs.a g_b_df rfl j).1).trans n_b_df
  have n_m_df : h_715.2.1 m_df = F_df := (funext fun j => (hs.a g_m_df rfl j).1).trans n_m_df
  have n_b_kf : h_715.2.1 b_kf = B_kf := (funext fun j => (hs.a g_b_kf rfl j).1).trans n_b_kf
  have n_m_kf : h_715.2.1 m_kf = F_kf := (funext fun j => (hs.a g_m_kf rfl j).1).trans n_m_kf
  have n_b_sf : h_715.2.1 b_sf = B_sf := (funext fun j => (hs.a g_b_sf rfl j).1).trans n_b_sf
  have n_m_sf : h_715.2.1 m_sf = F_sf := (funext fun j => (hs.a g_m_sf rfl j).1).trans n_m_sf
  have n_b_bf : h_715.2.1 b_bf = bfL := (funext fun j => (hs.a g_b_bf rfl j).1).trans n_b_bf
  have n_lst : h_715.2.1 m_lst = F_lst := (funext fun j => (hs.a g_m_lst rfl j).1).trans n_lst
  have n_dead : h_715.2.1 m_dead = F_dead := (funext fun j => (hs.a g_m_dead rfl j).1).trans n_dead
  have n_isj : h_715.2.1 m_isj = F_isj := (funext fun j => (hs.a g_m_isj rfl j).1).trans n_isj
  have gx := gx.S hs
  have gm := gm.S hs
  have g_qa := g_qa.S hs
  have g_qp := g_qp.S hs
  have g_qc := g_qc.S hs
  have g_qh := g_qh.S hs
  have g_qw := g_qw.S hs
  have g_ql := g_ql.S hs
  have g_mw := g_mw.S hs
  have g_mr := g_mr.S hs
  have g_mp := g_mp.S hs
  have g_mn := g_mn.S hs
  have g_ml := g_ml.S hs
  have g_mh := g_mh.S hs
  have g_mt := g_mt.S hs
  have g_m_fou := g_m_fou.S hs
  have g_qo_ln := g_qo_ln.S hs
  have g_b_of := g_b_of.S hs
  have g_m_of := g_m_of.S hs
  have g_b_wf := g_b_wf.S hs
  have g_m_wf := g_m_wf.S hs
  have g_b_df := g_b_df.S hs
  have g_m_df := g_m_df.S hs
  have g_b_kf := g_b_kf.S hs
  have g_m_kf := g_m_kf.S hs
  have g_b_sf := g_b_sf.S hs
  have g_m_sf := g_m_sf.S hs
  have g_b_bf := g_b_bf.S hs
  have g_m_lst := g_m_lst.S hs
  have g_m_dead := g_m_dead.S hs
  have g_m_isj := g_m_isj.S hs
  refine lv_pop hx hb dL_law_1319 rfl ?_
  refine lv_goto (tgt := 1379) hx hb dL_law_1320 (by decide) ?_
  refine W.widen (k := CC + 3) (n := SS + 179) (by omega) (by omega) ?_
  exact kk L_714 h_715 H locs ls hW ⟨hT, gx, gm, ⟨f_x_now.trans f_m_now.symm, f_x_personCount.trans f_m_persons.symm, f_x_claimCount.trans f_m_claims.symm, hx_ob f_qo_ln (f_o_ln.trans f_m_lines.symm), hx_ob f_qw (f_o_lsd.trans f_m_listed.symm), hx_ob f_qp (by rw [f_x_personCount]; exact nu_qp), hx_ob f_qc (by rw [f_x_claimCount]; exact nu_qc), (fun b a r hb ha hr => by obtain rfl : qo_ln = b := Option.some.inj (f_qo_ln.symm.trans hb); obtain rfl : b_of = a := Option.some.inj (f_b_of.symm.trans ha); obtain rfl : m_of = r := Option.some.inj (f_m_of.symm.trans hr); rw [n_b_of, n_m_of, f_o_ln]; exact eb_of), (fun b a r hb ha hr => by obtain rfl : qo_ln = b := Option.some.inj (f_qo_ln.symm.trans hb); obtain rfl : b_wf = a := Option.some.inj (f_b_wf.symm.trans ha); obtain rfl : m_wf = r := Option.some.inj (f_m_wf.symm.trans hr); rw [n_b_wf, n_m_wf, f_o_ln]; exact eb_wf), (fun b a r hb ha hr => by obtain rfl : qo_ln = b := Option.some.inj (f_qo_ln.symm.trans hb); obtain rfl : b_df = a := Option.some.inj (f_b_df.symm.trans ha); obtain rfl : m_df = r := Option.some.inj (f_m_df.symm.trans hr); rw [n_b_df, n_m_df, f_o_ln]; exact eb_df), (fun b a r hb ha hr => by obtain rfl : qo_ln = b := Option.some.inj (f_qo_ln.symm.trans hb); obtain rfl : b_kf = a := Option.some.inj (f_b_kf.symm.trans ha); obtain rfl : m_kf = r := Option.some.inj (f_m_kf.symm.trans hr); rw [n_b_kf, n_m_kf, f_o_ln]; exact eb_kf), (fun b a r hb ha hr => by obtain rfl : qo_ln = b := Option.some.inj (f_qo_ln.symm.trans hb); obtain rfl : b_sf = a := Option.some.inj (f_b_sf.symm.trans ha); obtain rfl : m_sf = r := Option.some.inj (f_m_sf.symm.trans hr); rw [n_b_sf, n_m_sf, f_o_ln]; exact eb_sf), (fun b a r hb ha hr => by obtain rfl : qo_ln = b := Option.some.inj (f_qo_ln.symm.trans hb); obtain rfl : b_df = a := Option.some.inj (f_b_df.symm.trans ha); obtain rfl : b_bf = r := Option.some.inj (f_b_bf.symm.trans hr); rw [n_b_df, n_b_bf, f_o_ln]; exact ⟨hBD, hDY⟩), (fun w q c hw hq hc => by obtain rfl : qw = w := Option.some.inj (f_qw.symm.trans hw); obtain rfl : ql = q := Option.some.inj (f_ql.symm.trans hq); obtain rfl : qc = c := Option.some.inj (f_qc.symm.trans hc); exact sb_list), (fun w q r hw hq hr => by obtain rfl : qw = w := Option.some.inj (f_qw.symm.trans hw); obtain rfl : ql = q := Option.some.inj (f_ql.symm.trans hq); obtain rfl : m_lst = r := Option.some.inj (f_m_lst.symm.trans hr); rw [cl_lst, n_lst]; exact eq_lst), hx_ob2 f_qp f_m_dead (by rw [cl_dead, n_dead]; exact eq_dead), hx_ob2 f_qp f_m_isj (by rw [cl_isj, n_isj]; exact eq_isj), hx_ob2 f_qc f_m_fou (by rw [cl_fou, n_m_fou]; exact eq_fou), hx_ob2 f_qc f_mt (by rw [cl_tri, n_mt]; exact eq_tri), trivial⟩, ⟨hx_ob f_qa pf_qa, hx_ob f_qp pf_qp, hx_ob f_qc pf_qc, hx_ob f_qh pf_qh, (fun w q hw hq => by obtain rfl : qw = w := Option.some.inj (f_qw.symm.trans hw); obtain rfl : ql = q := Option.some.inj (f_ql.symm.trans hq); exact pf_ql)⟩, ⟨hx_ob f_mw (by rw [n_mw]; exact hwd), hx_ob f_mr (by rw [n_mr, f_m_acts]; exact hWK), hx_ob2 f_mp f_mn (by rw [n_mp, n_mn, f_m_acts]; exact hRP), hx_ob f_ml (by rw [n_ml, f_m_claims, f_m_acts]; exact hPL), hx_ob f_mh (by rw [n_mh, f_m_heardMany, f_m_claims]; exact hHC), hx_ob f_mt (by rw [n_mt]; exact (hx_TR_le hTR (by omega))), hx_ob2 f_mh f_m_fou (by rw [n_mh, n_m_fou, f_m_claims]; exact hHF)⟩⟩ hl

set_option maxHeartbeats 4000000 in
set_option maxRecDepth 100000 in
theorem law_case_29 {p : Program} {e : Env} {s : State} {m : MethodId} {below : List Frame} {meth : Method} {c : Code} (l : Launch) {b LN : Nat} {xs : Nat → Int32} (hx : p.tables.exec = Jvm.exec) (hb : c.code = code) (hr : meth.sig.returnType = ret) (hlocks : meth.locks = false) (hml : c.maxLocals = 4) (hown : s.vm.findClass "SmallCourtLaw" = some m.cls) (hts : ∀ w ∈ hx_all, w.before #[Value.ref b] s = true) (hX : va_X b LN xs s s.heap) (hbl : b < s.heap.size) (hbA : ¬ s.heap.size ≤ b) (hLN : LN ≤ 3584) (dC : Nat → ClassId) (dI : Nat → Nat → Nat) (dA : Nat → ClassId) (b0 : hx_z) (ax am : Nat) (T1 : Int) (hT0 : 0 ≤ T1) (hT1 : T1 ≤ 511) (i : Int32) (hi0 : 0 ≤ i.toInt) (hiL : i.toInt + 7 ≤ LN) (CC SS : Nat) (hCC : CC + 3 ≤ 600000) (hSS : SS + 179 ≤ 7302250) (L1 : List Nat) (hl1 : hx_h) (H : Heap) (locs : List Loc) (ls : Array Slot) (hW : hx_W T_tb (P_ty dA) (dC, dI) vwCl (fun q : Nat => s.heap.size ≤ q) s.heap L1 hl1 s H locs) (hZ : hx_Xt (fun q : Nat => s.heap.size ≤ q) b0 s) (hI : hx_IV T1 ax am L1 hl1) (hl : lv_has ls 4 [(3, .int i), (2, .ref am), (1, .ref ax), (0, .ref b)]) (kk : ∀ (L2 : List Nat) (h2 : hx_h) (H2 : Heap) (locs2 : List Loc) (ls2 : Array Slot), hx_W T_tb (P_ty dA) (dC, dI) vwCl (fun q : Nat => s.heap.size ≤ q) s.heap L2 h2 s H2 locs2 → hx_IV (T1 + 1) ax am L2 h2 → lv_has ls2 4 [(3, .int i), (2, .ref am), (1, .ref ax), (0, .ref b)] → W p l e room_1 s m #[Value.ref b] below meth c H2 locs2 (CC + 3) (SS + 179) (lw_Z below #[Value.ref b] s) (F0 m 1379 ls2 [])) : W p l e room_1 s m #[Value.ref b] below meth c H locs CC SS (lw_Z below #[Value.ref b] s) (F0 m 1323 ls []) := by
  obtain ⟨hT, gx, gm, ⟨he_nw, he_np, he_c0, ho_ln, ho_lsd, hn_qp, hn_qc, hk_of, hk_wf, hk_df, hk_kf, hk_sf, hkBD, hLQ, hLE, hc_dead, hc_isj, hc_fou, hc_tri, -⟩, ⟨ia, ip, ic, ih, il⟩, ⟨jw, jr, jp, jl, jh, jt, jf⟩⟩ := hI
  obtain ⟨qa, f_qa, g_qa⟩ := hx_rf hT gx tt_9 (k := 5) (u := 43) rfl
  have pf_qa := ia qa f_qa
  obtain ⟨qp, f_qp, g_qp⟩ := hx_rf hT gx tt_9 (k := 7) (u := 44) rfl
  have pf_qp := ip qp f_qp
  obtain ⟨qc, f_qc, g_qc⟩ := hx_rf hT gx tt_9 (k := 10) (u := 45) rfl
  have pf_qc := ic qc f_qc
  obtain ⟨qh, f_qh, g_qh⟩ := hx_rf hT gx tt_9 (k := 12) (u := 46) rfl
  have pf_qh := ih qh f_qh
  obtain ⟨qw, f_qw, g_qw⟩ := hx_rf hT gx tt_9 (k := 19) (u := 8) rfl
  obtain ⟨ql, f_ql, g_ql⟩ := hx_rf hT g_qw tt_8 (k := 3) (u := 40) rfl
  have pf_ql := il qw ql f_qw f_ql
  obtain ⟨nw, f_m_now⟩ : ∃ y : Int32, hl1.2.1 am 0 = y := ⟨_, rfl⟩
  have b_nw := hT.gi gm tt_10 (k := 0) rfl
  rw [f_m_now] at b_nw
  have b_nw : 0 ≤ nw.toInt ∧ nw.toInt ≤ 7999 := b_nw
  obtain ⟨np, f_m_persons⟩ : ∃ y : Int32, hl1.2.1 am 20 = y := ⟨_, rfl⟩
  have b_np := hT.gi gm tt_10 (k := 20) rfl
  rw [f_m_persons] at b_np
  have b_np : 0 ≤ np.toInt ∧ np.toInt ≤ 40 := b_np
  obtain ⟨c0, f_m_claims⟩ : ∃ y : Int32, hl1.2.1 am 36 = y := ⟨_, rfl⟩
  have b_c0 := hT.gi gm tt_10 (k := 36) rfl
  rw [f_m_claims] at b_c0
  have b_c0 : 0 ≤ c0.toInt ∧ c0.toInt ≤ 100 := b_c0
  obtain ⟨ln, f_m_lines⟩ : ∃ y : Int32, hl1.2.1 am 29 = y := ⟨_, rfl⟩
  have b_ln := hT.gi gm tt_10 (k := 29) rfl
  rw [f_m_lines] at b_ln
  have b_ln : 0 ≤ ln.toInt ∧ ln.toInt ≤ 400 := b_ln
  obtain ⟨lsd, f_m_listed⟩ : ∃ y : Int32, hl1.2.1 am 90 = y := ⟨_, rfl⟩
  have b_lsd := hT.gi gm tt_10 (k := 90) rfl
  rw [f_m_listed] at b_lsd
  have b_lsd : 0 ≤ lsd.toInt ∧ lsd.toInt ≤ 8 := b_lsd
  obtain ⟨a0, f_m_acts⟩ : ∃ y : Int32, hl1.2.1 am 1 = y := ⟨_, rfl⟩
  have b_a0 := hT.gi gm tt_10 (k := 1) rfl
  rw [f_m_acts] at b_a0
  have b_a0 : 0 ≤ a0.toInt ∧ a0.toInt ≤ 8 := b_a0
  obtain ⟨m0, f_m_heardMany⟩ : ∃ y : Int32, hl1.2.1 am 57 = y := ⟨_, rfl⟩
  have b_m0 := hT.gi gm tt_10 (k := 57) rfl
  rw [f_m_heardMany] at b_m0
  have b_m0 : 0 ≤ m0.toInt ∧ m0.toInt ≤ 100 := b_m0
  have f_x_now : hl1.2.1 ax 2 = nw := he_nw.trans f_m_now
  have f_x_personCount : hl1.2.1 ax 8 = np := he_np.trans f_m_persons
  have f_x_claimCount : hl1.2.1 ax 11 = c0 := he_c0.trans f_m_claims
  obtain ⟨mw, f_mw, g_mw⟩ := hx_rf hT gm tt_10 (k := 19) (u := 57) rfl
  obtain ⟨F_mw, n_mw⟩ : ∃ g : Nat → Int32, hl1.2.1 mw = g := ⟨_, rfl⟩
  obtain ⟨mr, f_mr, g_mr⟩ := hx_rf hT gm tt_10 (k := 3) (u := 50) rfl
  obtain ⟨F_mr, n_mr⟩ : ∃ g : Nat → Int32, hl1.2.1 mr = g := ⟨_, rfl⟩
  obtain ⟨mp, f_mp, g_mp⟩ := hx_rf hT gm tt_10 (k := 5) (u := 52) rfl
  obtain ⟨F_mp, n_mp⟩ : ∃ g : Nat → Int32, hl1.2.1 mp = g := ⟨_, rfl⟩
  obtain ⟨mn, f_mn, g_mn⟩ := hx_rf hT gm tt_10 (k := 4) (u := 51) rfl
  obtain ⟨F_mn, n_mn⟩ : ∃ g : Nat → Int32, hl1.2.1 mn = g := ⟨_, rfl⟩
  obtain ⟨ml, f_ml, g_ml⟩ := hx_rf hT gm tt_10 (k := 44) (u := 79) rfl
  obtain ⟨F_ml, n_ml⟩ : ∃ g : Nat → Int32, hl1.2.1 ml = g := ⟨_, rfl⟩
  obtain ⟨mh, f_mh, g_mh⟩ := hx_rf hT gm tt_10 (k := 47) (u := 82) rfl
  obtain ⟨F_mh, n_mh⟩ : ∃ g : Nat → Int32, hl1.2.1 mh = g := ⟨_, rfl⟩
  obtain ⟨mt, f_mt, g_mt⟩ := hx_rf hT gm tt_10 (k := 45) (u := 80) rfl
  obtain ⟨F_mt, n_mt⟩ : ∃ g : Nat → Int32, hl1.2.1 mt = g := ⟨_, rfl⟩
  obtain ⟨m_fou, f_m_fou, g_m_fou⟩ := hx_rf hT gm tt_10 (k := 46) (u := 81) rfl
  obtain ⟨F_m_fou, n_m_fou⟩ : ∃ g : Nat → Int32, hl1.2.1 m_fou = g := ⟨_, rfl⟩
  obtain ⟨qo_ln, f_qo_ln, g_qo_ln⟩ := hx_rf hT gx tt_9 (k := 9) (u := 1) rfl
  have f_o_ln : hl1.2.1 qo_ln 0 = ln := (ho_ln qo_ln f_qo_ln).trans f_m_lines
  have f_o_lsd : hl1.2.1 qw 0 = lsd := (ho_lsd qw f_qw).trans f_m_listed
  have nu_qp := hn_qp qp f_qp; rw [f_x_personCount] at nu_qp
  have nu_qc := hn_qc qc f_qc; rw [f_x_claimCount] at nu_qc
  obtain ⟨b_of, f_b_of, g_b_of⟩ := hx_rf hT g_qo_ln tt_1 (k := 1) (u := 13) rfl
  obtain ⟨B_of, n_b_of⟩ : ∃ g : Nat → Int32, hl1.2.1 b_of = g := ⟨_, rfl⟩
  obtain ⟨m_of, f_m_of, g_m_of⟩ := hx_rf hT gm tt_10 (k := 30) (u := 66) rfl
  obtain ⟨F_of, n_m_of⟩ : ∃ g : Nat → Int32, hl1.2.1 m_of = g := ⟨_, rfl⟩
  have eb_of := hk_of qo_ln b_of m_of f_qo_ln f_b_of f_m_of; rw [n_b_of, n_m_of, f_o_ln] at eb_of
  obtain ⟨b_wf, f_b_wf, g_b_wf⟩ := hx_rf hT g_qo_ln tt_1 (k := 2) (u := 14) rfl
  obtain ⟨B_wf, n_b_wf⟩ : ∃ g : Nat → Int32, hl1.2.1 b_wf = g := ⟨_, rfl⟩
  obtain ⟨m_wf, f_m_wf, g_m_wf⟩ := hx_rf hT gm tt_10 (k := 31) (u := 67) rfl
  obtain ⟨F_wf, n_m_wf⟩ : ∃ g : Nat → Int32, hl1.2.1 m_wf = g := ⟨_, rfl⟩
  have eb_wf := hk_wf qo_ln b_wf m_wf f_qo_ln f_b_wf f_m_wf; rw [n_b_wf, n_m_wf, f_o_ln] at eb_wf
  obtain ⟨b_df, f_b_df, g_b_df⟩ := hx_rf hT g_qo_ln tt_1 (k := 3) (u := 15) rfl
  obtain ⟨B_df, n_b_df⟩ : ∃ g : Nat → Int32, hl1.2.1 b_df = g := ⟨_, rfl⟩
  obtain ⟨m_df, f_m_df, g_m_df⟩ := hx_rf hT gm tt_10 (k := 32) (u := 68) rfl
  obtain ⟨F_df, n_m_df⟩ : ∃ g : Nat → Int32, hl1.2.1 m_df = g := ⟨_, rfl⟩
  have eb_df := hk_df qo_ln b_df m_df f_qo_ln f_b_df f_m_df; rw [n_b_df, n_m_df, f_o_ln] at eb_df
  obtain ⟨b_kf, f_b_kf, g_b_kf⟩ := hx_rf hT g_qo_ln tt_1 (k := 4) (u := 16) rfl
  obtain ⟨B_kf, n_b_kf⟩ : ∃ g : Nat → Int32, hl1.2.1 b_kf = g := ⟨_, rfl⟩
  obtain ⟨m_kf, f_m_kf, g_m_kf⟩ := hx_rf hT gm tt_10 (k := 33) (u := 69) rfl
  obtain ⟨F_kf, n_m_kf⟩ : ∃ g : Nat → Int32, hl1.2.1 m_kf = g := ⟨_, rfl⟩
  have eb_kf := hk_kf qo_ln b_kf m_kf f_qo_ln f_b_kf f_m_kf; rw [n_b_kf, n_m_kf, f_o_ln] at eb_kf
  obtain ⟨b_sf, f_b_sf, g_b_sf⟩ := hx_rf hT g_qo_ln tt_1 (k := 5) (u := 17) rfl
  obtain ⟨B_sf, n_b_sf⟩ : ∃ g : Nat → Int32, hl1.2.1 b_sf = g := ⟨_, rfl⟩
  obtain ⟨m_sf, f_m_sf, g_m_sf⟩ := hx_rf hT gm tt_10 (k := 34) (u := 70) rfl
  obtain ⟨F_sf, n_m_sf⟩ : ∃ g : Nat → Int32, hl1.2.1 m_sf = g := ⟨_, rfl⟩
  have eb_sf := hk_sf qo_ln b_sf m_sf f_qo_ln f_b_sf f_m_sf; rw [n_b_sf, n_m_sf, f_o_ln] at eb_sf
  obtain ⟨b_bf, f_b_bf, g_b_bf⟩ := hx_rf hT g_qo_ln tt_1 (k := 6) (u := 18) rfl
  obtain ⟨bfL, n_b_bf⟩ : ∃ g : Nat → Int32, hl1.2.1 b_bf = g := ⟨_, rfl⟩
  obtain ⟨hBD, hDY⟩ := hkBD qo_ln b_df b_bf f_qo_ln f_b_df f_b_bf; rw [n_b_df, n_b_bf, f_o_ln] at hBD; rw [n_b_df, f_o_ln] at hDY
  have hBDm := hy_BD_c eb_df hBD
  have hDYm : hy_DY F_df ln.toInt.toNat := fun x hx => by rw [← eb_df x hx]; exact hDY x hx
  have sb_list := hLQ qw ql qc f_qw f_ql f_qc
  obtain ⟨m_lst, f_m_lst, g_m_lst⟩ := hx_rf hT gm tt_10 (k := 91) (u := 112) rfl
  obtain ⟨F_lst, n_lst⟩ : ∃ g : Nat → Int32, hl1.2.1 m_lst = g := ⟨_, rfl⟩
  obtain ⟨c_lst, cl_lst⟩ : ∃ g : Nat → Int32, hx_col 8 hl1 ql 0 = g := ⟨_, rfl⟩
  have eq_lst := hLE qw ql m_lst f_qw f_ql f_m_lst; rw [cl_lst, n_lst] at eq_lst
  obtain ⟨c_dead, cl_dead⟩ : ∃ g : Nat → Int32, hx_col 40 hl1 qp 7 = g := ⟨_, rfl⟩
  obtain ⟨m_dead, f_m_dead, g_m_dead⟩ := hx_rf hT gm tt_10 (k := 27) (u := 64) rfl
  obtain ⟨F_dead, n_dead⟩ : ∃ g : Nat → Int32, hl1.2.1 m_dead = g := ⟨_, rfl⟩
  have eq_dead := hc_dead qp m_dead f_qp f_m_dead; rw [cl_dead, n_dead] at eq_dead
  have z_dead : np.toInt.toNat < 40 → c_dead np.toInt.toNat = 0 := fun hj => hx_num_z nu_qp cl_dead hj (by omega)
  obtain ⟨c_isj, cl_isj⟩ : ∃ g : Nat → Int32, hx_col 40 hl1 qp 8 = g := ⟨_, rfl⟩
  obtain ⟨m_isj, f_m_isj, g_m_isj⟩ := hx_rf hT gm tt_10 (k := 28) (u := 65) rfl
  obtain ⟨F_isj, n_isj⟩ : ∃ g : Nat → Int32, hl1.2.1 m_isj = g := ⟨_, rfl⟩
  have eq_isj := hc_isj qp m_isj f_qp f_m_isj; rw [cl_isj, n_isj] at eq_isj
  have z_isj : np.toInt.toNat < 40 → c_isj np.toInt.toNat = 0 := fun hj => hx_num_z nu_qp cl_isj hj (by omega)
  obtain ⟨c_fou, cl_fou⟩ : ∃ g : Nat → Int32, hx_col 100 hl1 qc 10 = g := ⟨_, rfl⟩
  have eq_fou := hc_fou qc m_fou f_qc f_m_fou; rw [cl_fou, n_m_fou] at eq_fou
  have z_fou : c0.toInt.toNat < 100 → c_fou c0.toInt.toNat = 0 := fun hj => hx_num_z nu_qc cl_fou hj (by omega)
  obtain ⟨c_tri, cl_tri⟩ : ∃ g : Nat → Int32, hx_col 100 hl1 qc 9 = g := ⟨_, rfl⟩
  have eq_tri := hc_tri qc mt f_qc f_mt; rw [cl_tri, n_mt] at eq_tri
  have z_tri : c0.toInt.toNat < 100 → c_tri c0.toInt.toNat = 0 := fun hj => hx_num_z nu_qc cl_tri hj (by omega)
  have hwd := jw mw f_mw; rw [n_mw] at hwd
  have hWK := jr mr f_mr; rw [n_mr, f_m_acts] at hWK
  have hRP := jp mp mn f_mp f_mn; rw [n_mp, n_mn, f_m_acts] at hRP
  have hPL := jl ml f_ml; rw [n_ml, f_m_claims, f_m_acts] at hPL
  have hHC := jh mh f_mh; rw [n_mh, f_m_heardMany, f_m_claims] at hHC
  have hTR := jt mt f_mt; rw [n_mt] at hTR
  have hHF := jf mh m_fou f_mh f_m_fou; rw [n_mh, n_m_fou, f_m_claims] at hHF
  refine lv_aload_n hx hb dL_law_1323 rfl (lv_at hl 2 rfl) ?_
  refine lv_aload_n hx hb dL_law_1324 rfl (lv_at hl 3 rfl) ?_
  refine lv_iload_n hx hb dL_law_1325 rfl (lv_at hl 0 rfl) ?_
  refine lv_iconst (v := 1) hx hb dL_law_1326 (by decide) ?_
  refine lv_iadd hx hb dL_law_1327 ?_
  have rg_719 := i32_r i
  refine lv_topi (fun x_720 ex_720 => ?_)
  have zx_720 : x_720.toInt = i.toInt + 1 := by rw [ex_720]; exact i32_add rfl (by decide) (by omega) (by omega)
  refine va_sld hx hb hX hbl hbA hW.2.2.2.1 (vp_in_iff.mpr ⟨by omega, by omega⟩) dL_law_1328 ?_
  refine lv_topi (fun x_721 ex_721 => ?_)
  refine lv_aload_n hx hb dL_law_1329 rfl (lv_at hl 3 rfl) ?_
  refine lv_iload_n hx hb dL_law_1330 rfl (lv_at hl 0 rfl) ?_
  refine lv_iconst (v := 2) hx hb dL_law_1331 (by decide) ?_
  refine lv_iadd hx hb dL_law_1332 ?_
  refine lv_topi (fun x_722 ex_722 => ?_)
  have zx_722 : x_722.toInt = i.toInt + 2 := by rw [ex_722]; exact i32_add rfl (by decide) (by omega) (by omega)
  refine va_sld hx hb hX hbl hbA hW.2.2.2.1 (vp_in_iff.mpr ⟨by omega, by omega⟩) dL_law_1333 ?_
  refine lv_topi (fun x_723 ex_723 => ?_)
  have hTo := hT
  refine hx_goi (hx_runV (As := [.int x_721, .int x_723]) (rest := []) ⟨hx, hb, hml, hown, hts⟩ hW gx tt_9 (T := TX9) (N := 20) rfl (t_X9_other l dC dI dA L1 hl1 H.size ax x_721 x_723 hT gx qa g_qa f_qa qh g_qh f_qh qc g_qc f_qc pf_qa pf_qh pf_qc) (cwV 2 hts (hx_gV kw_1104 kw_1101 kw_1102 kw_1103 kw_94) rfl rfl rfl (by decide +kernel) ⟨Nat.le_of_ble_eq_true rfl, Nat.le_of_ble_eq_true rfl⟩) rfl hl.1 rfl (Nat.le_of_ble_eq_true rfl) dL_law_1334 ⟨(show CC + 0 ≤ 600000 from by omega), (show SS + 0 ≤ 7302250 from by omega)⟩) hW (fun r_726 L_724 h_725 H locs p_727 hW => ?_)
  obtain ⟨hr_728, hT, hs⟩ := p_727
  have hT : hx_T T_tb L_724 h_725 := hT
  have hs : hx_S T_tb [] L1 hl1 L_724 h_725 := hs
  have f_qa := (hs.o gx trivial rfl).2.trans f_qa
  have f_qp := (hs.o gx trivial rfl).2.trans f_qp
  have f_qc := (hs.o gx trivial rfl).2.trans f_qc
  have f_qh := (hs.o gx trivial rfl).2.trans f_qh
  have f_qw := (hs.o gx trivial rfl).2.trans f_qw
  have f_ql := (hs.o g_qw trivial rfl).2.trans f_ql
  have f_m_now := (hs.o gm trivial rfl).1.trans f_m_now
  have f_m_persons := (hs.o gm trivial rfl).1.trans f_m_persons
  have f_m_claims := (hs.o gm trivial rfl).1.trans f_m_claims
  have f_m_lines := (hs.o gm trivial rfl).1.trans f_m_lines
  have f_m_listed := (hs.o gm trivial rfl).1.trans f_m_listed
  have f_m_acts := (hs.o gm trivial rfl).1.trans f_m_acts
  have f_m_heardMany := (hs.o gm trivial rfl).1.trans f_m_heardMany
  have f_x_now := (hs.o gx trivial rfl).1.trans f_x_now
  have f_x_personCount := (hs.o gx trivial rfl).1.trans f_x_personCount
  have f_x_claimCount := (hs.o gx trivial rfl).1.trans f_x_claimCount
  have f_mw := (hs.o gm trivial rfl).2.trans f_mw
  have f_mr := (hs.o gm trivial rfl).2.trans f_mr
  have f_mp := (hs.o gm trivial rfl).2.trans f_mp
  have f_mn := (hs.o gm trivial rfl).2.trans f_mn
  have f_ml := (hs.o gm trivial rfl).2.trans f_ml
  have f_mh := (hs.o gm trivial rfl).2.trans f_mh
  have f_mt := (hs.o gm trivial rfl).2.trans f_mt
  have f_m_fou := (hs.o gm trivial rfl).2.trans f_m_fou
  have f_qo_ln := (hs.o gx trivial rfl).2.trans f_qo_ln
  have f_o_ln := (hs.o g_qo_ln trivial rfl).1.trans f_o_ln
  have f_o_lsd := (hs.o g_qw trivial rfl).1.trans f_o_lsd
  have f_b_of := (hs.o g_qo_ln trivial rfl).2.trans f_b_of
  have f_m_of := (hs.o gm trivial rfl).2.trans f_m_of
  have f_b_wf := (hs.o g_qo_ln trivial rfl).2.trans f_b_wf
  have f_m_wf := (hs.o gm trivial rfl).2.trans f_m_wf
  have f_b_df := (hs.o g_qo_ln trivial rfl).2.trans f_b_df
  have f_m_df := (hs.o gm trivial rfl).2.trans f_m_df
  have f_b_kf := (hs.o g_qo_ln trivial rfl).2.trans f_b_kf
  have f_m_kf := (hs.o gm trivial rfl).2.trans f_m_kf
  have f_b_sf := (hs.o g_qo_ln trivial rfl).2.trans f_b_sf
  have f_m_sf := (hs.o gm trivial rfl).2.trans f_m_sf
  have f_b_bf := (hs.o g_qo_ln trivial rfl).2.trans f_b_bf
  have f_m_lst := (hs.o gm trivial rfl).2.trans f_m_lst
  have f_m_dead := (hs.o gm trivial rfl).2.trans f_m_dead
  have f_m_isj := (hs.o gm trivial rfl).2.trans f_m_isj
  have pf_qa : ∀ j : Nat, (j : Int) < (h_725.2.1 ax 6).toInt → h_725.2.2 qa j ≠ none := by
    intro j hj; rw [(hs.o gx trivial rfl).1] at hj; rw [(hs.a g_qa rfl j).2]; exact pf_qa j hj
  have pf_qp : ∀ j : Nat, (j : Int) < (h_725.2.1 ax 8).toInt → h_725.2.2 qp j ≠ none := by
    intro j hj; rw [(hs.o gx trivial rfl).1] at hj; rw [(hs.a g_qp rfl j).2]; exact pf_qp j hj
  have pf_qc : ∀ j : Nat, (j : Int) < (h_725.2.1 ax 11).toInt → h_725.2.2 qc j ≠ none := by
    intro j hj; rw [(hs.o gx trivial rfl).1] at hj; rw [(hs.a g_qc rfl j).2]; exact pf_qc j hj
  have pf_qh : ∀ j : Nat, (j : Int) < (h_725.2.1 ax 13).toInt → h_725.2.2 qh j ≠ none := by
    intro j hj; rw [(hs.o gx trivial rfl).1] at hj; rw [(hs.a g_qh rfl j).2]; exact pf_qh j hj
  have pf_ql : ∀ j : Nat, (j : Int) < (h_725.2.1 qw 0).toInt → h_725.2.2 ql j ≠ none := by
    intro j hj; rw [(hs.o g_qw trivial rfl).1] at hj; rw [(hs.a g_ql rfl j).2]; exact pf_ql j hj
  have cl_lst : hx_col 8 h_725 ql 0 = c_lst := (hx_col_S hs hTo g_ql tt_40 tt_2 rfl rfl).trans cl_lst
  have cl_dead : hx_col 40 h_725 qp 7 = c_dead := (hx_col_S hs hTo g_qp tt_44 tt_4 rfl rfl).trans cl_dead
  have cl_isj : hx_col 40 h_725 qp 8 = c_isj := (hx_col_S hs hTo g_qp tt_44 tt_4 rfl rfl).trans cl_isj
  have cl_fou : hx_col 100 h_725 qc 10 = c_fou := (hx_col_S hs hTo g_qc tt_45 tt_2 rfl rfl).trans cl_fou
  have cl_tri : hx_col 100 h_725 qc 9 = c_tri := (hx_col_S hs hTo g_qc tt_45 tt_2 rfl rfl).trans cl_tri
  have nu_qp : hx_num 40 h_725 qp 0 (np.toInt) := hx_num_S hs hTo g_qp tt_44 tt_4 rfl rfl nu_qp
  have nu_qc : hx_num 100 h_725 qc 0 (c0.toInt) := hx_num_S hs hTo g_qc tt_45 tt_2 rfl rfl nu_qc
  have sb_list : hx_LQ 8 100 h_725 ql qc := hx_LQ_S hs g_ql g_qc rfl rfl sb_list
  have n_mw : h_725.2.1 mw = F_mw := (funext fun j => (hs.a g_mw rfl j).1).trans n_mw
  have n_mr : h_725.2.1 mr = F_mr := (funext fun j => (hs.a g_mr rfl j).1).trans n_mr
  have n_mp : h_725.2.1 mp = F_mp := (funext fun j => (hs.a g_mp rfl j).1).trans n_mp
  have n_mn : h_725.2.1 mn = F_mn := (funext fun j => (hs.a g_mn rfl j).1).trans n_mn
  have n_ml : h_725.2.1 ml = F_ml := (funext fun j => (hs.a g_ml rfl j).1).trans n_ml
  have n_mh : h_725.2.1 mh = F_mh := (funext fun j => (hs.a g_mh rfl j).1).trans n_mh
  have n_mt : h_725.2.1 mt = F_mt := (funext fun j => (hs.a g_mt rfl j).1).trans n_mt
  have n_m_fou : h_725.2.1 m_fou = F_m_fou := (funext fun j => (hs.a g_m_fou rfl j).1).trans n_m_fou
  have n_b_of : h_725.2.1 b_of = B_of := (funext fun j => (hs.a g_b_of rfl j).1).trans n_b_of
  have n_m_of : h_725.2.1 m_of = F_of := (funext fun j => (hs.a g_m_of rfl j).1).trans n_m_of
  have n_b_wf : h_725.2.1 b_wf = B_wf := (funext fun j => (hs.a g_b_wf rfl j).1).trans n_b_wf
  have n_m_wf : h_725.2.1 m_wf = F_wf := (funext fun j => (hs.a g_m_wf rfl j).1).trans n_m_wf
  have n_b_df : h_725.2.1 b_df = B_df := (funext fun j => (hs.a g_b_df rfl j).1).trans n_b_df
  have n_m_df : h_725.2.1 m_df = F_df := (funext fun j => (hs.a g_m_df rfl j).1).trans n_m_df
  have n_b_kf : h_725.2.1 b_kf = B_kf := (funext fun j => (hs.a g_b_kf rfl j).1).trans n_b_kf
  have n_m_kf : h_725.2.1 m_kf = F_kf := (funext fun j => (hs.a g_m_kf rfl j).1).trans n_m_kf
  have n_b_sf : h_725.2.1 b_sf = B_sf := (funext fun j => (hs.a g_b_sf rfl j).1).trans n_b_sf
  have n_m_sf : h_725.2.1 m_sf = F_sf := (funext fun j => (hs.a g_m_sf rfl j).1).trans n_m_sf
  have n_b_bf : h_725.2.1 b_bf = bfL := (funext fun j => (hs.a g_b_bf rfl j).1).trans n_b_bf
  have n_lst : h_725.2.1 m_lst = F_lst := (funext fun j => (hs.a g_m_lst rfl j).1).trans n_lst
  have n_dead : h_725.2.1 m_dead = F_dead := (funext fun j => (hs.a g_m_dead rfl j).1).trans n_dead
  have n_isj : h_725.2.1 m_isj = F_isj := (funext fun j => (hs.a g_m_isj rfl j).1).trans n_isj
  have gx := gx.S hs
  have gm := gm.S hs
  have g_qa := g_qa.S hs
  have g_qp := g_qp.S hs
  have g_qc := g_qc.S hs
  have g_qh := g_qh.S hs
  have g_qw := g_qw.S hs
  have g_ql := g_ql.S hs
  have g_mw := g_mw.S hs
  have g_mr := g_mr.S hs
  have g_mp := g_mp.S hs
  have g_mn := g_mn.S hs
  have g_ml := g_ml.S hs
  have g_mh := g_mh.S hs
  have g_mt := g_mt.S hs
  have g_m_fou := g_m_fou.S hs
  have g_qo_ln := g_qo_ln.S hs
  have g_b_of := g_b_of.S hs
  have g_m_of := g_m_of.S hs
  have g_b_wf := g_b_wf.S hs
  have g_m_wf := g_m_wf.S hs
  have g_b_df := g_b_df.S hs
  have g_m_df := g_m_df.S hs
  have g_b_kf := g_b_kf.S hs
  have g_m_kf := g_m_kf.S hs
  have g_b_sf := g_b_sf.S hs
  have g_m_sf := g_m_sf.S hs
  have g_b_bf := g_b_bf.S hs
  have g_m_lst := g_m_lst.S hs
  have g_m_dead := g_m_dead.S hs
  have g_m_isj := g_m_isj.S hs
  refine lv_pop hx hb dL_law_1337 rfl ?_
  refine lv_aload_n hx hb dL_law_1338 rfl (lv_at hl 1 rfl) ?_
  refine lv_aload_n hx hb dL_law_1339 rfl (lv_at hl 3 rfl) ?_
  refine lv_iload_n hx hb dL_law_1340 rfl (lv_at hl 0 rfl) ?_
  refine lv_iconst (v := 1) hx hb dL_law_1341 (by decide) ?_
  refine lv_iadd hx hb dL_law_1342 ?_
  refine lv_topi (fun x_729 ex_729 => ?_)
  have zx_729 : x_729.toInt = i.toInt + 1 := by rw [ex_729]; exact i32_add rfl (by decide) (by omega) (by omega)
  obtain rfl : x_720 = x_729 := ex_720.trans ex_729.symm
  refine va_sld hx hb hX hbl hbA hW.2.2.2.1 (vp_in_iff.mpr ⟨by omega, by omega⟩) dL_law_1343 ?_
  refine lv_topi (fun x_730 ex_730 => ?_)
  obtain rfl : x_721 = x_730 := ex_721.trans ex_730.symm
  refine lv_aload_n hx hb dL_law_1344 rfl (lv_at hl 3 rfl) ?_
  refine lv_iload_n hx hb dL_law_1345 rfl (lv_at hl 0 rfl) ?_
  refine lv_iconst (v := 2) hx hb dL_law_1346 (by decide) ?_
  refine lv_iadd hx hb dL_law_1347 ?_
  refine lv_topi (fun x_731 ex_731 => ?_)
  have zx_731 : x_731.toInt = i.toInt + 2 := by rw [ex_731]; exact i32_add rfl (by decide) (by omega) (by omega)
  obtain rfl : x_722 = x_731 := ex_722.trans ex_731.symm
  refine va_sld hx hb hX hbl hbA hW.2.2.2.1 (vp_in_iff.mpr ⟨by omega, by omega⟩) dL_law_1348 ?_
  refine lv_topi (fun x_732 ex_732 => ?_)
  obtain rfl : x_723 = x_732 := ex_723.trans ex_732.symm
  have hTo := hT
  refine hx_goi (hx_runV (As := [.int x_721, .int x_723]) (rest := []) ⟨hx, hb, hml, hown, hts⟩ hW gm tt_10 (T := TX10) (N := 98) rfl (t_X10_other l dC dI dA L_724 h_725 H.size am x_721 x_723 hT gm mn g_mn f_mn mp g_mp f_mp F_mn n_mn F_mp n_mp a0 f_m_acts hRP) (cwV 2 hts (hx_gV kw_1749 kw_1746 kw_1747 kw_1748 kw_103) rfl rfl rfl (by decide +kernel) ⟨Nat.le_of_ble_eq_true rfl, Nat.le_of_ble_eq_true rfl⟩) rfl hl.1 rfl (Nat.le_of_ble_eq_true rfl) dL_law_1349 ⟨(show CC + 0 + 0 ≤ 600000 from by omega), (show SS + 0 + 0 ≤ 7302250 from by omega)⟩) hW (fun r_735 L_733 h_734 H locs p_736 hW => ?_)
  obtain ⟨hr_737, hT, hs⟩ := p_736
  have hT : hx_T T_tb L_733 h_734 := hT
  have hs : hx_S T_tb [(99, 0)] L_724 h_725 L_733 h_734 := hs
  have f_qa := (hs.o gx trivial rfl).2.trans f_qa
  have f_qp := (hs.o gx trivial rfl).2.trans f_qp
  have f_qc := (hs.o gx trivial rfl).2.trans f_qc
  have f_qh := (hs.o gx trivial rfl).2.trans f_qh
  have f_qw := (hs.o gx trivial rfl).2.trans f_qw
  have f_ql := (hs.o g_qw trivial rfl).2.trans f_ql
  have f_m_now := (hs.o gm trivial rfl).1.trans f_m_now
  have f_m_persons := (hs.o gm trivial rfl).1.trans f_m_persons
  have f_m_claims := (hs.o gm trivial rfl).1.trans f_m_claims
  have f_m_lines := (hs.o gm trivial rfl).1.trans f_m_lines
  have f_m_listed := (hs.o gm trivial rfl).1.trans f_m_listed
  have f_m_acts := (hs.o gm trivial rfl).1.trans f_m_acts
  have f_m_heardMany := (hs.o gm trivial rfl).1.trans f_m_heardMany
  have f_x_now := (hs.o gx trivial rfl).1.trans f_x_now
  have f_x_personCount := (hs.o gx trivial rfl).1.trans f_x_personCount
  have f_x_claimCount := (hs.o gx trivial rfl).1.trans f_x_claimCount
  have f_mw := (hs.o gm trivial rfl).2.trans f_mw
  have f_mr := (hs.o gm trivial rfl).2.trans f_mr
  have f_mp := (hs.o gm trivial rfl).2.trans f_mp
  have f_mn := (hs.o gm trivial rfl).2.trans f_mn
  have f_ml := (hs.o gm trivial rfl).2.trans f_ml
  have f_mh := (hs.o gm trivial rfl).2.trans f_mh
  have f_mt := (hs.o gm trivial rfl).2.trans f_mt
  have f_m_fou := (hs.o gm trivial rfl).2.trans f_m_fou
  have f_qo_ln := (hs.o gx trivial rfl).2.trans f_qo_ln
  have f_o_ln := (hs.o g_qo_ln trivial rfl).1.trans f_o_ln
  have f_o_lsd := (hs.o g_qw trivial rfl).1.trans f_o_lsd
  have f_b_of := (hs.o g_qo_ln trivial rfl).2.trans f_b_of
  have f_m_of := (hs.o gm trivial rfl).2.trans f_m_of
  have f_b_wf := (hs.o g_qo_ln trivial rfl).2.trans f_b_wf
  have f_m_wf := (hs.o gm trivial rfl).2.trans f_m_wf
  have f_b_df := (hs.o g_qo_ln trivial rfl).2.trans f_b_df
  have f_m_df := (hs.o gm trivial rfl).2.trans f_m_df
  have f_b_kf := (hs.o g_qo_ln trivial rfl).2.trans f_b_kf
  have f_m_kf := (hs.o gm trivial rfl).2.trans f_m_kf
  have f_b_sf := (hs.o g_qo_ln trivial rfl).2.trans f_b_sf
  have f_m_sf := (hs.o gm trivial rfl).2.trans f_m_sf
  have f_b_bf := (hs.o g_qo_ln trivial rfl).2.trans f_b_bf
  have f_m_lst := (hs.o gm trivial rfl).2.trans f_m_lst
  have f_m_dead := (hs.o gm trivial rfl).2.trans f_m_dead
  have f_m_isj := (hs.o gm trivial rfl).2.trans f_m_isj
  have pf_qa : ∀ j : Nat, (j : Int) < (h_734.2.1 ax 6).toInt → h_734.2.2 qa j ≠ none := by
    intro j hj; rw [(hs.o gx trivial rfl).1] at hj; rw [(hs.a g_qa rfl j).2]; exact pf_qa j hj
  have pf_qp : ∀ j : Nat, (j : Int) < (h_734.2.1 ax 8).toInt → h_734.2.2 qp j ≠ none := by
    intro j hj; rw [(hs.o gx trivial rfl).1] at hj; rw [(hs.a g_qp rfl j).2]; exact pf_qp j hj
  have pf_qc : ∀ j : Nat, (j : Int) < (h_734.2.1 ax 11).toInt → h_734.2.2 qc j ≠ none := by
    intro j hj; rw [(hs.o gx trivial rfl).1] at hj; rw [(hs.a g_qc rfl j).2]; exact pf_qc j hj
  have pf_qh : ∀ j : Nat, (j : Int) < (h_734.2.1 ax 13).toInt → h_734.2.2 qh j ≠ none := by
    intro j hj; rw [(hs.o gx trivial rfl).1] at hj; rw [(hs.a g_qh rfl j).2]; exact pf_qh j hj
  have pf_ql : ∀ j : Nat, (j : Int) < (h_734.2.1 qw 0).toInt → h_734.2.2 ql j ≠ none := by
    intro j hj; rw [(hs.o g_qw trivial rfl).1] at hj; rw [(hs.a g_ql rfl j).2]; exact pf_ql j hj
  have cl_lst : hx_col 8 h_734 ql 0 = c_lst := (hx_col_S hs hTo g_ql tt_40 tt_2 rfl rfl).trans cl_lst
  have cl_dead : hx_col 40 h_734 qp 7 = c_dead := (hx_col_S hs hTo g_qp tt_44 tt_4 rfl rfl).trans cl_dead
  have cl_isj : hx_col 40 h_734 qp 8 = c_isj := (hx_col_S hs hTo g_qp tt_44 tt_4 rfl rfl).trans cl_isj
  have cl_fou : hx_col 100 h_734 qc 10 = c_fou := (hx_col_S hs hTo g_qc tt_45 tt_2 rfl rfl).trans cl_fou
  have cl_tri : hx_col 100 h_734 qc 9 = c_tri := (hx_col_S hs hTo g_qc tt_45 tt_2 rfl rfl).trans cl_tri
  have nu_qp : hx_num 40 h_734 qp 0 (np.toInt) := hx_num_S hs hTo g_qp tt_44 tt_4 rfl rfl nu_qp
  have nu_qc : hx_num 100 h_734 qc 0 (c0.toInt) := hx_num_S hs hTo g_qc tt_45 tt_2 rfl rfl nu_qc
  have sb_list : hx_LQ 8 100 h_734 ql qc := hx_LQ_S hs g_ql g_qc rfl rfl sb_list
  have n_mw : h_734.2.1 mw = F_mw := (funext fun j => (hs.a g_mw rfl j).1).trans n_mw
  have n_mr : h_734.2.1 mr = F_mr := (funext fun j => (hs.a g_mr rfl j).1).trans n_mr
  have n_mp : h_734.2.1 mp = F_mp := (funext fun j => (hs.a g_mp rfl j).1).trans n_mp
  have n_mn : h_734.2.1 mn = F_mn := (funext fun j => (hs.a g_mn rfl j).1).trans n_mn
  have n_ml : h_734.2.1 ml = F_ml := (funext fun j => (hs.a g_ml rfl j).1).trans n_ml
  have n_mh : h_734.2.1 mh = F_mh := (funext fun j => (hs.a g_mh rfl j).1).trans n_mh
  have n_mt : h_734.2.1 mt = F_mt := (funext fun j => (hs.a g_mt rfl j).1).trans n_mt
  have n_m_fou : h_734.2.1 m_fou = F_m_fou := (funext fun j => (hs.a g_m_fou rfl j).1).trans n_m_fou
  have n_b_of : h_734.2.1 b_of = B_of := (funext fun j => (hs.a g_b_of rfl j).1).trans n_b_of
  have n_m_of : h_734.2.1 m_of = F_of := (funext fun j => (hs.a g_m_of rfl j).1).trans n_m_of
  have n_b_wf : h_734.2.1 b_wf = B_wf := (funext fun j => (hs.a g_b_wf rfl j).1).trans n_b_wf
  have n_m_wf : h_734.2.1 m_wf = F_wf := (funext fun j => (hs.a g_m_wf rfl j).1).trans n_m_wf
  have n_b_df : h_734.2.1 b_df = B_df := (funext fun j => (hs.a g_b_df rfl j).1).trans n_b_df
  have n_m_df : h_734.2.1 m_df = F_df := (funext fun j => (hs.a g_m_df rfl j).1).trans n_m_df
  have n_b_kf : h_734.2.1 b_kf = B_kf := (funext fun j => (hs.a g_b_kf rfl j).1).trans n_b_kf
  have n_m_kf : h_734.2.1 m_kf = F_kf := (funext fun j => (hs.a g_m_kf rfl j).1).trans n_m_kf
  have n_b_sf : h_734.2.1 b_sf = B_sf := (funext fun j => (hs.a g_b_sf rfl j).1).trans n_b_sf
  have n_m_sf : h_734.2.1 m_sf = F_sf := (funext fun j => (hs.a g_m_sf rfl j).1).trans n_m_sf
  have n_b_bf : h_734.2.1 b_bf = bfL := (funext fun j => (hs.a g_b_bf rfl j).1).trans n_b_bf
  have n_lst : h_734.2.1 m_lst = F_lst := (funext fun j => (hs.a g_m_lst rfl j).1).trans n_lst
  have n_dead : h_734.2.1 m_dead = F_dead := (funext fun j => (hs.a g_m_dead rfl j).1).trans n_dead
  have n_isj : h_734.2.1 m_isj = F_isj := (funext fun j => (hs.a g_m_isj rfl j).1).trans n_isj
  have gx := gx.S hs
  have gm := gm.S hs
  have g_qa := g_qa.S hs
  have g_qp := g_qp.S hs
  have g_qc := g_qc.S hs
  have g_qh := g_qh.S hs
  have g_qw := g_qw.S hs
  have g_ql := g_ql.S hs
  have g_mw := g_mw.S hs
  have g_mr := g_mr.S hs
  have g_mp := g_mp.S hs
  have g_mn := g_mn.S hs
  have g_ml := g_ml.S hs
  have g_mh := g_mh.S hs
  have g_mt := g_mt.S hs
  have g_m_fou := g_m_fou.S hs
  have g_qo_ln := g_qo_ln.S hs
  have g_b_of := g_b_of.S hs
  have g_m_of := g_m_of.S hs
  have g_b_wf := g_b_wf.S hs
  have g_m_wf := g_m_wf.S hs
  have g_b_df := g_b_df.S hs
  have g_m_df := g_m_df.S hs
  have g_b_kf := g_b_kf.S hs
  have g_m_kf := g_m_kf.S hs
  have g_b_sf := g_b_sf.S hs
  have g_m_sf := g_m_sf.S hs
  have g_b_bf := g_b_bf.S hs
  have g_m_lst := g_m_lst.S hs
  have g_m_dead := g_m_dead.S hs
  have g_m_isj := g_m_isj.S hs
  refine lv_pop hx hb dL_law_1352 rfl ?_
  refine lv_goto (tgt := 1379) hx hb dL_law_1353 (by decide) ?_
  refine W.widen (k := CC + 3) (n := SS + 179) (by omega) (by omega) ?_
  exact kk L_733 h_734 H locs ls hW ⟨hT, gx, gm, ⟨f_x_now.trans f_m_now.symm, f_x_personCount.trans f_m_persons.symm, f_x_claimCount.trans f_m_claims.symm, hx_ob f_qo_ln (f_o_ln.trans f_m_lines.symm), hx_ob f_qw (f_o_lsd.trans f_m_listed.symm), hx_ob f_qp (by rw [f_x_personCount]; exact nu_qp), hx_ob f_qc (by rw [f_x_claimCount]; exact nu_qc), (fun b a r hb ha hr => by obtain rfl : qo_ln = b := Option.some.inj (f_qo_ln.symm.trans hb); obtain rfl : b_of = a := Option.some.inj (f_b_of.symm.trans ha); obtain rfl : m_of = r := Option.some.inj (f_m_of.symm.trans hr); rw [n_b_of, n_m_of, f_o_ln]; exact eb_of), (fun b a r hb ha hr => by obtain rfl : qo_ln = b := Option.some.inj (f_qo_ln.symm.trans hb); obtain rfl : b_wf = a := Option.some.inj (f_b_wf.symm.trans ha); obtain rfl : m_wf = r := Option.some.inj (f_m_wf.symm.trans hr); rw [n_b_wf, n_m_wf, f_o_ln]; exact eb_wf), (fun b a r hb ha hr => by obtain rfl : qo_ln = b := Option.some.inj (f_qo_ln.symm.trans hb); obtain rfl : b_df = a := Option.some.inj (f_b_df.symm.trans ha); obtain rfl : m_df = r := Option.some.inj (f_m_df.symm.trans hr); rw [n_b_df, n_m_df, f_o_ln]; exact eb_df), (fun b a r hb ha hr => by obtain rfl : qo_ln = b := Option.some.inj (f_qo_ln.symm.trans hb); obtain rfl : b_kf = a := Option.some.inj (f_b_kf.symm.trans ha); obtain rfl : m_kf = r := Option.some.inj (f_m_kf.symm.trans hr); rw [n_b_kf, n_m_kf, f_o_ln]; exact eb_kf), (fun b a r hb ha hr => by obtain rfl : qo_ln = b := Option.some.inj (f_qo_ln.symm.trans hb); obtain rfl : b_sf = a := Option.some.inj (f_b_sf.symm.trans ha); obtain rfl : m_sf = r := Option.some.inj (f_m_sf.symm.trans hr); rw [n_b_sf, n_m_sf, f_o_ln]; exact eb_sf), (fun b a r hb ha hr => by obtain rfl : qo_ln = b := Option.some.inj (f_qo_ln.symm.trans hb); obtain rfl : b_df = a := Option.some.inj (f_b_df.symm.trans ha); obtain rfl : b_bf = r := Option.some.inj (f_b_bf.symm.trans hr); rw [n_b_df, n_b_bf, f_o_ln]; exact ⟨hBD, hDY⟩), (fun w q c hw hq hc => by obtain rfl : qw = w := Option.some.inj (f_qw.symm.trans hw); obtain rfl : ql = q := Option.some.inj (f_ql.symm.trans hq); obtain rfl : qc = c := Option.some.inj (f_qc.symm.trans hc); exact sb_list), (fun w q r hw hq hr => by obtain rfl : qw = w := Option.some.inj (f_qw.symm.trans hw); obtain rfl : ql = q := Option.some.inj (f_ql.symm.trans hq); obtain rfl : m_lst = r := Option.some.inj (f_m_lst.symm.trans hr); rw [cl_lst, n_lst]; exact eq_lst), hx_ob2 f_qp f_m_dead (by rw [cl_dead, n_dead]; exact eq_dead), hx_ob2 f_qp f_m_isj (by rw [cl_isj, n_isj]; exact eq_isj), hx_ob2 f_qc f_m_fou (by rw [cl_fou, n_m_fou]; exact eq_fou), hx_ob2 f_qc f_mt (by rw [cl_tri, n_mt]; exact eq_tri), trivial⟩, ⟨hx_ob f_qa pf_qa, hx_ob f_qp pf_qp, hx_ob f_qc pf_qc, hx_ob f_qh pf_qh, (fun w q hw hq => by obtain rfl : qw = w := Option.some.inj (f_qw.symm.trans hw); obtain rfl : ql = q := Option.some.inj (f_ql.symm.trans hq); exact pf_ql)⟩, ⟨hx_ob f_mw (by rw [n_mw]; exact hwd), hx_ob f_mr (by rw [n_mr, f_m_acts]; exact hWK), hx_ob2 f_mp f_mn (by rw [n_mp, n_mn, f_m_acts]; exact hRP), hx_ob f_ml (by rw [n_ml, f_m_claims, f_m_acts]; exact hPL), hx_ob f_mh (by rw [n_mh, f_m_heardMany, f_m_claims]; exact hHC), hx_ob f_mt (by rw [n_mt]; exact (hx_TR_le hTR (by omega))), hx_ob2 f_mh f_m_fou (by rw [n_mh, n_m_fou, f_m_claims]; exact hHF)⟩⟩ hl

set_option maxHeartbeats 4000000 in
set_option maxRecDepth 100000 in
theorem law_case_30 {p : Program} {e : Env} {s : State} {m : MethodId} {below : List Frame} {meth : Method} {c : Code} (l : Launch) {b LN : Nat} {xs : Nat → Int32} (hx : p.tables.exec = Jvm.exec) (hb : c.code = code) (hr : meth.sig.returnType = ret) (hlocks : meth.locks = false) (hml : c.maxLocals = 4) (hown : s.vm.findClass "SmallCourtLaw" = some m.cls) (hts : ∀ w ∈ hx_all, w.before #[Value.ref b] s = true) (hX : va_X b LN xs s s.heap) (hbl : b < s.heap.size) (hbA : ¬ s.heap.size ≤ b) (hLN : LN ≤ 3584) (dC : Nat → ClassId) (dI : Nat → Nat → Nat) (dA : Nat → ClassId) (b0 : hx_z) (ax am : Nat) (T1 : Int) (hT0 : 0 ≤ T1) (hT1 : T1 ≤ 511) (i : Int32) (hi0 : 0 ≤ i.toInt) (hiL : i.toInt + 7 ≤ LN) (CC SS : Nat) (hCC : CC + 3 ≤ 600000) (hSS : SS + 179 ≤ 7302250) (L1 : List Nat) (hl1 : hx_h) (H : Heap) (locs : List Loc) (ls : Array Slot) (hW : hx_W T_tb (P_ty dA) (dC, dI) vwCl (fun q : Nat => s.heap.size ≤ q) s.heap L1 hl1 s H locs) (hZ : hx_Xt (fun q : Nat => s.heap.size ≤ q) b0 s) (hI : hx_IV T1 ax am L1 hl1) (hl : lv_has ls 4 [(3, .int i), (2, .ref am), (1, .ref ax), (0, .ref b)]) (kk : ∀ (L2 : List Nat) (h2 : hx_h) (H2 : Heap) (locs2 : List Loc) (ls2 : Array Slot), hx_W T_tb (P_ty dA) (dC, dI) vwCl (fun q : Nat => s.heap.size ≤ q) s.heap L2 h2 s H2 locs2 → hx_IV (T1 + 1) ax am L2 h2 → lv_has ls2 4 [(3, .int i), (2, .ref am), (1, .ref ax), (0, .ref b)] → W p l e room_1 s m #[Value.ref b] below meth c H2 locs2 (CC + 3) (SS + 179) (lw_Z below #[Value.ref b] s) (F0 m 1379 ls2 [])) : W p l e room_1 s m #[Value.ref b] below meth c H locs CC SS (lw_Z below #[Value.ref b] s) (F0 m 1356 ls []) := by
  obtain ⟨hT, gx, gm, ⟨he_nw, he_np, he_c0, ho_ln, ho_lsd, hn_qp, hn_qc, hk_of, hk_wf, hk_df, hk_kf, hk_sf, hkBD, hLQ, hLE, hc_dead, hc_isj, hc_fou, hc_tri, -⟩, ⟨ia, ip, ic, ih, il⟩, ⟨jw, jr, jp, jl, jh, jt, jf⟩⟩ := hI
  obtain ⟨qa, f_qa, g_qa⟩ := hx_rf hT gx tt_9 (k := 5) (u := 43) rfl
  have pf_qa := ia qa f_qa
  obtain ⟨qp, f_qp, g_qp⟩ := hx_rf hT gx tt_9 (k := 7) (u := 44) rfl
  have pf_qp := ip qp f_qp
  obtain ⟨qc, f_qc, g_qc⟩ := hx_rf hT gx tt_9 (k := 10) (u := 45) rfl
  have pf_qc := ic qc f_qc
  obtain ⟨qh, f_qh, g_qh⟩ := hx_rf hT gx tt_9 (k := 12) (u := 46) rfl
  have pf_qh := ih qh f_qh
  obtain ⟨qw, f_qw, g_qw⟩ := hx_rf hT gx tt_9 (k := 19) (u := 8) rfl
  obtain ⟨ql, f_ql, g_ql⟩ := hx_rf hT g_qw tt_8 (k := 3) (u := 40) rfl
  have pf_ql := il qw ql f_qw f_ql
  obtain ⟨nw, f_m_now⟩ : ∃ y : Int32, hl1.2.1 am 0 = y := ⟨_, rfl⟩
  have b_nw := hT.gi gm tt_10 (k := 0) rfl
  rw [f_m_now] at b_nw
  have b_nw : 0 ≤ nw.toInt ∧ nw.toInt ≤ 7999 := b_nw
  obtain ⟨np, f_m_persons⟩ : ∃ y : Int32, hl1.2.1 am 20 = y := ⟨_, rfl⟩
  have b_np := hT.gi gm tt_10 (k := 20) rfl
  rw [f_m_persons] at b_np
  have b_np : 0 ≤ np.toInt ∧ np.toInt ≤ 40 := b_np
  obtain ⟨c0, f_m_claims⟩ : ∃ y : Int32, hl1.2.1 am 36 = y := ⟨_, rfl⟩
  have b_c0 := hT.gi gm tt_10 (k := 36) rfl
  rw [f_m_claims] at b_c0
  have b_c0 : 0 ≤ c0.toInt ∧ c0.toInt ≤ 100 := b_c0
  obtain ⟨ln, f_m_lines⟩ : ∃ y : Int32, hl1.2.1 am 29 = y := ⟨_, rfl⟩
  have b_ln := hT.gi gm tt_10 (k := 29) rfl
  rw [f_m_lines] at b_ln
  have b_ln : 0 ≤ ln.toInt ∧ ln.toInt ≤ 400 := b_ln
  obtain ⟨lsd, f_m_listed⟩ : ∃ y : Int32, hl1.2.1 am 90 = y := ⟨_, rfl⟩
  have b_lsd := hT.gi gm tt_10 (k := 90) rfl
  rw [f_m_listed] at b_lsd
  have b_lsd : 0 ≤ lsd.toInt ∧ lsd.toInt ≤ 8 := b_lsd
  obtain ⟨a0, f_m_acts⟩ : ∃ y : Int32, hl1.2.1 am 1 = y := ⟨_, rfl⟩
  have b_a0 := hT.gi gm tt_10 (k := 1) rfl
  rw [f_m_acts] at b_a0
  have b_a0 : 0 ≤ a0.toInt ∧ a0.toInt ≤ 8 := b_a0
  obtain ⟨m0, f_m_heardMany⟩ : ∃ y : Int32, hl1.2.1 am 57 = y := ⟨_, rfl⟩
  have b_m0 := hT.gi gm tt_10 (k := 57) rfl
  rw [f_m_heardMany] at b_m0
  have b_m0 : 0 ≤ m0.toInt ∧ m0.toInt ≤ 100 := b_m0
  have f_x_now : hl1.2.1 ax 2 = nw := he_nw.trans f_m_now
  have f_x_personCount : hl1.2.1 ax 8 = np := he_np.trans f_m_persons
  have f_x_claimCount : hl1.2.1 ax 11 = c0 := he_c0.trans f_m_claims
  obtain ⟨mw, f_mw, g_mw⟩ := hx_rf hT gm tt_10 (k := 19) (u := 57) rfl
  obtain ⟨F_mw, n_mw⟩ : ∃ g : Nat → Int32, hl1.2.1 mw = g := ⟨_, rfl⟩
  obtain ⟨mr, f_mr, g_mr⟩ := hx_rf hT gm tt_10 (k := 3) (u := 50) rfl
  obtain ⟨F_mr, n_mr⟩ : ∃ g : Nat → Int32, hl1.2.1 mr = g := ⟨_, rfl⟩
  obtain ⟨mp, f_mp, g_mp⟩ := hx_rf hT gm tt_10 (k := 5) (u := 52) rfl
  obtain ⟨F_mp, n_mp⟩ : ∃ g : Nat → Int32, hl1.2.1 mp = g := ⟨_, rfl⟩
  obtain ⟨mn, f_mn, g_mn⟩ := hx_rf hT gm tt_10 (k := 4) (u := 51) rfl
  obtain ⟨F_mn, n_mn⟩ : ∃ g : Nat → Int32, hl1.2.1 mn = g := ⟨_, rfl⟩
  obtain ⟨ml, f_ml, g_ml⟩ := hx_rf hT gm tt_10 (k := 44) (u := 79) rfl
  obtain ⟨F_ml, n_ml⟩ : ∃ g : Nat → Int32, hl1.2.1 ml = g := ⟨_, rfl⟩
  obtain ⟨mh, f_mh, g_mh⟩ := hx_rf hT gm tt_10 (k := 47) (u := 82) rfl
  obtain ⟨F_mh, n_mh⟩ : ∃ g : Nat → Int32, hl1.2.1 mh = g := ⟨_, rfl⟩
  obtain ⟨mt, f_mt, g_mt⟩ := hx_rf hT gm tt_10 (k := 45) (u := 80) rfl
  obtain ⟨F_mt, n_mt⟩ : ∃ g : Nat → Int32, hl1.2.1 mt = g := ⟨_, rfl⟩
  obtain ⟨m_fou, f_m_fou, g_m_fou⟩ := hx_rf hT gm tt_10 (k := 46) (u := 81) rfl
  obtain ⟨F_m_fou, n_m_fou⟩ : ∃ g : Nat → Int32, hl1.2.1 m_fou = g := ⟨_, rfl⟩
  obtain ⟨qo_ln, f_qo_ln, g_qo_ln⟩ := hx_rf hT gx tt_9 (k := 9) (u := 1) rfl
  have f_o_ln : hl1.2.1 qo_ln 0 = ln := (ho_ln qo_ln f_qo_ln).trans f_m_lines
  have f_o_lsd : hl1.2.1 qw 0 = lsd := (ho_lsd qw f_qw).trans f_m_listed
  have nu_qp := hn_qp qp f_qp; rw [f_x_personCount] at nu_qp
  have nu_qc := hn_qc qc f_qc; rw [f_x_claimCount] at nu_qc
  obtain ⟨b_of, f_b_of, g_b_of⟩ := hx_rf hT g_qo_ln tt_1 (k := 1) (u := 13) rfl
  obtain ⟨B_of, n_b_of⟩ : ∃ g : Nat → Int32, hl1.2.1 b_of = g := ⟨_, rfl⟩
  obtain ⟨m_of, f_m_of, g_m_of⟩ := hx_rf hT gm tt_10 (k := 30) (u := 66) rfl
  obtain ⟨F_of, n_m_of⟩ : ∃ g : Nat → Int32, hl1.2.1 m_of = g := ⟨_, rfl⟩
  have eb_of := hk_of qo_ln b_of m_of f_qo_ln f_b_of f_m_of; rw [n_b_of, n_m_of, f_o_ln] at eb_of
  obtain ⟨b_wf, f_b_wf, g_b_wf⟩ := hx_rf hT g_qo_ln tt_1 (k := 2) (u := 14) rfl
  obtain ⟨B_wf, n_b_wf⟩ : ∃ g : Nat → Int32, hl1.2.1 b_wf = g := ⟨_, rfl⟩
  obtain ⟨m_wf, f_m_wf, g_m_wf⟩ := hx_rf hT gm tt_10 (k := 31) (u := 67) rfl
  obtain ⟨F_wf, n_m_wf⟩ : ∃ g : Nat → Int32, hl1.2.1 m_wf = g := ⟨_, rfl⟩
  have eb_wf := hk_wf qo_ln b_wf m_wf f_qo_ln f_b_wf f_m_wf; rw [n_b_wf, n_m_wf, f_o_ln] at eb_wf
  obtain ⟨b_df, f_b_df, g_b_df⟩ := hx_rf hT g_qo_ln tt_1 (k := 3) (u := 15) rfl
  obtain ⟨B_df, n_b_df⟩ : ∃ g : Nat → Int32, hl1.2.1 b_df = g := ⟨_, rfl⟩
  obtain ⟨m_df, f_m_df, g_m_df⟩ := hx_rf hT gm tt_10 (k := 32) (u := 68) rfl
  obtain ⟨F_df, n_m_df⟩ : ∃ g : Nat → Int32, hl1.2.1 m_df = g := ⟨_, rfl⟩
  have eb_df := hk_df qo_ln b_df m_df f_qo_ln f_b_df f_m_df; rw [n_b_df, n_m_df, f_o_ln] at eb_df
  obtain ⟨b_kf, f_b_kf, g_b_kf⟩ := hx_rf hT g_qo_ln tt_1 (k := 4) (u := 16) rfl
  obtain ⟨B_kf, n_b_kf⟩ : ∃ g : Nat → Int32, hl1.2.1 b_kf = g := ⟨_, rfl⟩
  obtain ⟨m_kf, f_m_kf, g_m_kf⟩ := hx_rf hT gm tt_10 (k := 33) (u := 69) rfl
  obtain ⟨F_kf, n_m_kf⟩ : ∃ g : Nat → Int32, hl1.2.1 m_kf = g := ⟨_, rfl⟩
  have eb_kf := hk_kf qo_ln b_kf m_kf f_qo_ln f_b_kf f_m_kf; rw [n_b_kf, n_m_kf, f_o_ln] at eb_kf
  obtain ⟨b_sf, f_b_sf, g_b_sf⟩ := hx_rf hT g_qo_ln tt_1 (k := 5) (u := 17) rfl
  obtain ⟨B_sf, n_b_sf⟩ : ∃ g : Nat → Int32, hl1.2.1 b_sf = g := ⟨_, rfl⟩
  obtain ⟨m_sf, f_m_sf, g_m_sf⟩ := hx_rf hT gm tt_10 (k := 34) (u := 70) rfl
  obtain ⟨F_sf, n_m_sf⟩ : ∃ g : Nat → Int32, hl1.2.1 m_sf = g := ⟨_, rfl⟩
  have eb_sf := hk_sf qo_ln b_sf m_sf f_qo_ln f_b_sf f_m_sf; rw [n_b_sf, n_m_sf, f_o_ln] at eb_sf
  obtain ⟨b_bf, f_b_bf, g_b_bf⟩ := hx_rf hT g_qo_ln tt_1 (k := 6) (u := 18) rfl
  obtain ⟨bfL, n_b_bf⟩ : ∃ g : Nat → Int32, hl1.2.1 b_bf = g := ⟨_, rfl⟩
  obtain ⟨hBD, hDY⟩ := hkBD qo_ln b_df b_bf f_qo_ln f_b_df f_b_bf; rw [n_b_df, n_b_bf, f_o_ln] at hBD; rw [n_b_df, f_o_ln] at hDY
  have hBDm := hy_BD_c eb_df hBD
  have hDYm : hy_DY F_df ln.toInt.toNat := fun x hx => by rw [← eb_df x hx]; exact hDY x hx
  have sb_list := hLQ qw ql qc f_qw f_ql f_qc
  obtain ⟨m_lst, f_m_lst, g_m_lst⟩ := hx_rf hT gm tt_10 (k := 91) (u := 112) rfl
  obtain ⟨F_lst, n_lst⟩ : ∃ g : Nat → Int32, hl1.2.1 m_lst = g := ⟨_, rfl⟩
  obtain ⟨c_lst, cl_lst⟩ : ∃ g : Nat → Int32, hx_col 8 hl1 ql 0 = g := ⟨_, rfl⟩
  have eq_lst := hLE qw ql m_lst f_qw f_ql f_m_lst; rw [cl_lst, n_lst] at eq_lst
  obtain ⟨c_dead, cl_dead⟩ : ∃ g : Nat → Int32, hx_col 40 hl1 qp 7 = g := ⟨_, rfl⟩
  obtain ⟨m_dead, f_m_dead, g_m_dead⟩ := hx_rf hT gm tt_10 (k := 27) (u := 64) rfl
  obtain ⟨F_dead, n_dead⟩ : ∃ g : Nat → Int32, hl1.2.1 m_dead = g := ⟨_, rfl⟩
  have eq_dead := hc_dead qp m_dead f_qp f_m_dead; rw [cl_dead, n_dead] at eq_dead
  have z_dead : np.toInt.toNat < 40 → c_dead np.toInt.toNat = 0 := fun hj => hx_num_z nu_qp cl_dead hj (by omega)
  obtain ⟨c_isj, cl_isj⟩ : ∃ g : Nat → Int32, hx_col 40 hl1 qp 8 = g := ⟨_, rfl⟩
  obtain ⟨m_isj, f_m_isj, g_m_isj⟩ := hx_rf hT gm tt_10 (k := 28) (u := 65) rfl
  obtain ⟨F_isj, n_isj⟩ : ∃ g : Nat → Int32, hl1.2.1 m_isj = g := ⟨_, rfl⟩
  have eq_isj := hc_isj qp m_isj f_qp f_m_isj; rw [cl_isj, n_isj] at eq_isj
  have z_isj : np.toInt.toNat < 40 → c_isj np.toInt.toNat = 0 := fun hj => hx_num_z nu_qp cl_isj hj (by omega)
  obtain ⟨c_fou, cl_fou⟩ : ∃ g : Nat → Int32, hx_col 100 hl1 qc 10 = g := ⟨_, rfl⟩
  have eq_fou := hc_fou qc m_fou f_qc f_m_fou; rw [cl_fou, n_m_fou] at eq_fou
  have z_fou : c0.toInt.toNat < 100 → c_fou c0.toInt.toNat = 0 := fun hj => hx_num_z nu_qc cl_fou hj (by omega)
  obtain ⟨c_tri, cl_tri⟩ : ∃ g : Nat → Int32, hx_col 100 hl1 qc 9 = g := ⟨_, rfl⟩
  have eq_tri := hc_tri qc mt f_qc f_mt; rw [cl_tri, n_mt] at eq_tri
  have z_tri : c0.toInt.toNat < 100 → c_tri c0.toInt.toNat = 0 := fun hj => hx_num_z nu_qc cl_tri hj (by omega)
  have hwd := jw mw f_mw; rw [n_mw] at hwd
  have hWK := jr mr f_mr; rw [n_mr, f_m_acts] at hWK
  have hRP := jp mp mn f_mp f_mn; rw [n_mp, n_mn, f_m_acts] at hRP
  have hPL := jl ml f_ml; rw [n_ml, f_m_claims, f_m_acts] at hPL
  have hHC := jh mh f_mh; rw [n_mh, f_m_heardMany, f_m_claims] at hHC
  have hTR := jt mt f_mt; rw [n_mt] at hTR
  have hHF := jf mh m_fou f_mh f_m_fou; rw [n_mh, n_m_fou, f_m_claims] at hHF
  refine lv_aload_n hx hb dL_law_1356 rfl (lv_at hl 2 rfl) ?_
  refine lv_aload_n hx hb dL_law_1357 rfl (lv_at hl 3 rfl) ?_
  refine lv_iload_n hx hb dL_law_1358 rfl (lv_at hl 0 rfl) ?_
  refine lv_iconst (v := 1) hx hb dL_law_1359 (by decide) ?_
  refine lv_iadd hx hb dL_law_1360 ?_
  have rg_738 := i32_r i
  refine lv_topi (fun x_739 ex_739 => ?_)
  have zx_739 : x_739.toInt = i.toInt + 1 := by rw [ex_739]; exact i32_add rfl (by decide) (by omega) (by omega)
  refine va_sld hx hb hX hbl hbA hW.2.2.2.1 (vp_in_iff.mpr ⟨by omega, by omega⟩) dL_law_1361 ?_
  refine lv_topi (fun x_740 ex_740 => ?_)
  have hTo := hT
  refine hx_goi (hx_runV (As := [.int x_740]) (rest := []) ⟨hx, hb, hml, hown, hts⟩ hW gx tt_9 (T := TX9) (N := 20) rfl (t_X9_count l dC dI dA L1 hl1 H.size ax x_740 hT gx qp g_qp f_qp pf_qp) (cwV 1 hts (hx_gV kw_1108 kw_1105 kw_1106 kw_1107 kw_94) rfl rfl rfl (by decide +kernel) ⟨Nat.le_of_ble_eq_true rfl, Nat.le_of_ble_eq_true rfl⟩) rfl hl.1 rfl (Nat.le_of_ble_eq_true rfl) dL_law_1362 ⟨(show CC + 0 ≤ 600000 from by omega), (show SS + 0 ≤ 7302250 from by omega)⟩) hW (fun r_743 L_741 h_742 H locs p_744 hW => ?_)
  obtain ⟨hr_745, hT, hs⟩ := p_744
  have hT : hx_T T_tb L_741 h_742 := hT
  have hs : hx_S T_tb [] L1 hl1 L_741 h_742 := hs
  have f_qa := (hs.o gx trivial rfl).2.trans f_qa
  have f_qp := (hs.o gx trivial rfl).2.trans f_qp
  have f_qc := (hs.o gx trivial rfl).2.trans f_qc
  have f_qh := (hs.o gx trivial rfl).2.trans f_qh
  have f_qw := (hs.o gx trivial rfl).2.trans f_qw
  have f_ql := (hs.o g_qw trivial rfl).2.trans f_ql
  have f_m_now := (hs.o gm trivial rfl).1.trans f_m_now
  have f_m_persons := (hs.o gm trivial rfl).1.trans f_m_persons
  have f_m_claims := (hs.o gm trivial rfl).1.trans f_m_claims
  have f_m_lines := (hs.o gm trivial rfl).1.trans f_m_lines
  have f_m_listed := (hs.o gm trivial rfl).1.trans f_m_listed
  have f_m_acts := (hs.o gm trivial rfl).1.trans f_m_acts
  have f_m_heardMany := (hs.o gm trivial rfl).1.trans f_m_heardMany
  have f_x_now := (hs.o gx trivial rfl).1.trans f_x_now
  have f_x_personCount := (hs.o gx trivial rfl).1.trans f_x_personCount
  have f_x_claimCount := (hs.o gx trivial rfl).1.trans f_x_claimCount
  have f_mw := (hs.o gm trivial rfl).2.trans f_mw
  have f_mr := (hs.o gm trivial rfl).2.trans f_mr
  have f_mp := (hs.o gm trivial rfl).2.trans f_mp
  have f_mn := (hs.o gm trivial rfl).2.trans f_mn
  have f_ml := (hs.o gm trivial rfl).2.trans f_ml
  have f_mh := (hs.o gm trivial rfl).2.trans f_mh
  have f_mt := (hs.o gm trivial rfl).2.trans f_mt
  have f_m_fou := (hs.o gm trivial rfl).2.trans f_m_fou
  have f_qo_ln := (hs.o gx trivial rfl).2.trans f_qo_ln
  have f_o_ln := (hs.o g_qo_ln trivial rfl).1.trans f_o_ln
  have f_o_lsd := (hs.o g_qw trivial rfl).1.trans f_o_lsd
  have f_b_of := (hs.o g_qo_ln trivial rfl).2.trans f_b_of
  have f_m_of := (hs.o gm trivial rfl).2.trans f_m_of
  have f_b_wf := (hs.o g_qo_ln trivial rfl).2.trans f_b_wf
  have f_m_wf := (hs.o gm trivial rfl).2.trans f_m_wf
  have f_b_df := (hs.o g_qo_ln trivial rfl).2.trans f_b_df
  have f_m_df := (hs.o gm trivial rfl).2.trans f_m_df
  have f_b_kf := (hs.o g_qo_ln trivial rfl).2.trans f_b_kf
  have f_m_kf := (hs.o gm trivial rfl).2.trans f_m_kf
  have f_b_sf := (hs.o g_qo_ln trivial rfl).2.trans f_b_sf
  have f_m_sf := (hs.o gm trivial rfl).2.trans f_m_sf
  have f_b_bf := (hs.o g_qo_ln trivial rfl).2.trans f_b_bf
  have f_m_lst := (hs.o gm trivial rfl).2.trans f_m_lst
  have f_m_dead := (hs.o gm trivial rfl).2.trans f_m_dead
  have f_m_isj := (hs.o gm trivial rfl).2.trans f_m_isj
  have pf_qa : ∀ j : Nat, (j : Int) < (h_742.2.1 ax 6).toInt → h_742.2.2 qa j ≠ none := by
    intro j hj; rw [(hs.o gx trivial rfl).1] at hj; rw [(hs.a g_qa rfl j).2]; exact pf_qa j hj
  have pf_qp : ∀ j : Nat, (j : Int) < (h_742.2.1 ax 8).toInt → h_742.2.2 qp j ≠ none := by
    intro j hj; rw [(hs.o gx trivial rfl).1] at hj; rw [(hs.a g_qp rfl j).2]; exact pf_qp j hj
  have pf_qc : ∀ j : Nat, (j : Int) < (h_742.2.1 ax 11).toInt → h_742.2.2 qc j ≠ none := by
    intro j hj; rw [(hs.o gx trivial rfl).1] at hj; rw [(hs.a g_qc rfl j).2]; exact pf_qc j hj
  have pf_qh : ∀ j : Nat, (j : Int) < (h_742.2.1 ax 13).toInt → h_742.2.2 qh j ≠ none := by
    intro j hj; rw [(hs.o gx trivial rfl).1] at hj; rw [(hs.a g_qh rfl j).2]; exact pf_qh j hj
  have pf_ql : ∀ j : Nat, (j : Int) < (h_742.2.1 qw 0).toInt → h_742.2.2 ql j ≠ none := by
    intro j hj; rw [(hs.o g_qw trivial rfl).1] at hj; rw [(hs.a g_ql rfl j).2]; exact pf_ql j hj
  have cl_lst : hx_col 8 h_742 ql 0 = c_lst := (hx_col_S hs hTo g_ql tt_40 tt_2 rfl rfl).trans cl_lst
  have cl_dead : hx_col 40 h_742 qp 7 = c_dead := (hx_col_S hs hTo g_qp tt_44 tt_4 rfl rfl).trans cl_dead
  have cl_isj : hx_col 40 h_742 qp 8 = c_isj := (hx_col_S hs hTo g_qp tt_44 tt_4 rfl rfl).trans cl_isj
  have cl_fou : hx_col 100 h_742 qc 10 = c_fou := (hx_col_S hs hTo g_qc tt_45 tt_2 rfl rfl).trans cl_fou
  have cl_tri : hx_col 100 h_742 qc 9 = c_tri := (hx_col_S hs hTo g_qc tt_45 tt_2 rfl rfl).trans cl_tri
  have nu_qp : hx_num 40 h_742 qp 0 (np.toInt) := hx_num_S hs hTo g_qp tt_44 tt_4 rfl rfl nu_qp
  have nu_qc : hx_num 100 h_742 qc 0 (c0.toInt) := hx_num_S hs hTo g_qc tt_45 tt_2 rfl rfl nu_qc
  have sb_list : hx_LQ 8 100 h_742 ql qc := hx_LQ_S hs g_ql g_qc rfl rfl sb_list
  have n_mw : h_742.2.1 mw = F_mw := (funext fun j => (hs.a g_mw rfl j).1).trans n_mw
  have n_mr : h_742.2.1 mr = F_mr := (funext fun j => (hs.a g_mr rfl j).1).trans n_mr
  have n_mp : h_742.2.1 mp = F_mp := (funext fun j => (hs.a g_mp rfl j).1).trans n_mp
  have n_mn : h_742.2.1 mn = F_mn := (funext fun j => (hs.a g_mn rfl j).1).trans n_mn
  have n_ml : h_742.2.1 ml = F_ml := (funext fun j => (hs.a g_ml rfl j).1).trans n_ml
  have n_mh : h_742.2.1 mh = F_mh := (funext fun j => (hs.a g_mh rfl j).1).trans n_mh
  have n_mt : h_742.2.1 mt = F_mt := (funext fun j => (hs.a g_mt rfl j).1).trans n_mt
  have n_m_fou : h_742.2.1 m_fou = F_m_fou := (funext fun j => (hs.a g_m_fou rfl j).1).trans n_m_fou
  have n_b_of : h_742.2.1 b_of = B_of := (funext fun j => (hs.a g_b_of rfl j).1).trans n_b_of
  have n_m_of : h_742.2.1 m_of = F_of := (funext fun j => (hs.a g_m_of rfl j).1).trans n_m_of
  have n_b_wf : h_742.2.1 b_wf = B_wf := (funext fun j => (hs.a g_b_wf rfl j).1).trans n_b_wf
  have n_m_wf : h_742.2.1 m_wf = F_wf := (funext fun j => (hs.a g_m_wf rfl j).1).trans n_m_wf
  have n_b_df : h_742.2.1 b_df = B_df := (funext fun j => (hs.a g_b_df rfl j).1).trans n_b_df
  have n_m_df : h_742.2.1 m_df = F_df := (funext fun j => (hs.a g_m_df rfl j).1).trans n_m_df
  have n_b_kf : h_742.2.1 b_kf = B_kf := (funext fun j => (hs.a g_b_kf rfl j).1).trans n_b_kf
  have n_m_kf : h_742.2.1 m_kf = F_kf := (funext fun j => (hs.a g_m_kf rfl j).1).trans n_m_kf
  have n_b_sf : h_742.2.1 b_sf = B_sf := (funext fun j => (hs.a g_b_sf rfl j).1).trans n_b_sf
  have n_m_sf : h_742.2.1 m_sf = F_sf := (funext fun j => (hs.a g_m_sf rfl j).1).trans n_m_sf
  have n_b_bf : h_742.2.1 b_bf = bfL := (funext fun j => (hs.a g_b_bf rfl j).1).trans n_b_bf
  have n_lst : h_742.2.1 m_lst = F_lst := (funext fun j => (hs.a g_m_lst rfl j).1).trans n_lst
  have n_dead : h_742.2.1 m_dead = F_dead := (funext fun j => (hs.a g_m_dead rfl j).1).trans n_dead
  have n_isj : h_742.2.1 m_isj = F_isj := (funext fun j => (hs.a g_m_isj rfl j).1).trans n_isj
  have gx := gx.S hs
  have gm := gm.S hs
  have g_qa := g_qa.S hs
  have g_qp := g_qp.S hs
  have g_qc := g_qc.S hs
  have g_qh := g_qh.S hs
  have g_qw := g_qw.S hs
  have g_ql := g_ql.S hs
  have g_mw := g_mw.S hs
  have g_mr := g_mr.S hs
  have g_mp := g_mp.S hs
  have g_mn := g_mn.S hs
  have g_ml := g_ml.S hs
  have g_mh := g_mh.S hs
  have g_mt := g_mt.S hs
  have g_m_fou := g_m_fou.S hs
  have g_qo_ln := g_qo_ln.S hs
  have g_b_of := g_b_of.S hs
  have g_m_of := g_m_of.S hs
  have g_b_wf := g_b_wf.S hs
  have g_m_wf := g_m_wf.S hs
  have g_b_df := g_b_df.S hs
  have g_m_df := g_m_df.S hs
  have g_b_kf := g_b_kf.S hs
  have g_m_kf := g_m_kf.S hs
  have g_b_sf := g_b_sf.S hs
  have g_m_sf := g_m_sf.S hs
  have g_b_bf := g_b_bf.S hs
  have g_m_lst := g_m_lst.S hs
  have g_m_dead := g_m_dead.S hs
  have g_m_isj := g_m_isj.S hs
  refine lv_pop hx hb dL_law_1365 rfl ?_
  refine lv_aload_n hx hb dL_law_1366 rfl (lv_at hl 1 rfl) ?_
  refine lv_aload_n hx hb dL_law_1367 rfl (lv_at hl 3 rfl) ?_
  refine lv_iload_n hx hb dL_law_1368 rfl (lv_at hl 0 rfl) ?_
  refine lv_iconst (v := 1) hx hb dL_law_1369 (by decide) ?_
  refine lv_iadd hx hb dL_law_1370 ?_
  refine lv_topi (fun x_746 ex_746 => ?_)
  have zx_746 : x_746.toInt = i.toInt + 1 := by rw [ex_746]; exact i32_add rfl (by decide) (by omega) (by omega)
  obtain rfl : x_739 = x_746 := ex_739.trans ex_746.symm
  refine va_sld hx hb hX hbl hbA hW.2.2.2.1 (vp_in_iff.mpr ⟨by omega, by omega⟩) dL_law_1371 ?_
  refine lv_topi (fun x_747 ex_747 => ?_)
  obtain rfl : x_740 = x_747 := ex_740.trans ex_747.symm
  have hTo := hT
  refine hx_goi (hx_runV (As := [.int x_740]) (rest := []) ⟨hx, hb, hml, hown, hts⟩ hW gm tt_10 (T := TX10) (N := 98) rfl (t_X10_count l dC dI dA L_741 h_742 H.size am x_740 hT gm) (cwV 1 hts (hx_gV kw_1753 kw_1750 kw_1751 kw_1752 kw_103) rfl rfl rfl (by decide +kernel) ⟨Nat.le_of_ble_eq_true rfl, Nat.le_of_ble_eq_true rfl⟩) rfl hl.1 rfl (Nat.le_of_ble_eq_true rfl) dL_law_1372 ⟨(show CC + 0 + 0 ≤ 600000 from by omega), (show SS + 0 + 0 ≤ 7302250 from by omega)⟩) hW (fun r_750 L_748 h_749 H locs p_751 hW => ?_)
  obtain ⟨hr_752, hT, hs⟩ := p_751
  have hT : hx_T T_tb L_748 h_749 := hT
  have hs : hx_S T_tb [] L_741 h_742 L_748 h_749 := hs
  have f_qa := (hs.o gx trivial rfl).2.trans f_qa
  have f_qp := (hs.o gx trivial rfl).2.trans f_qp
  have f_qc := (hs.o gx trivial rfl).2.trans f_qc
  have f_qh := (hs.o gx trivial rfl).2.trans f_qh
  have f_qw := (hs.o gx trivial rfl).2.trans f_qw
  have f_ql := (hs.o g_qw trivial rfl).2.trans f_ql
  have f_m_now := (hs.o gm trivial rfl).1.trans f_m_now
  have f_m_persons := (hs.o gm trivial rfl).1.trans f_m_persons
  have f_m_claims := (hs.o gm trivial rfl).1.trans f_m_claims
  have f_m_lines := (hs.o gm trivial rfl).1.trans f_m_lines
  have f_m_listed := (hs.o gm trivial rfl).1.trans f_m_listed
  have f_m_acts := (hs.o gm trivial rfl).1.trans f_m_acts
  have f_m_heardMany := (hs.o gm trivial rfl).1.trans f_m_heardMany
  have f_x_now := (hs.o gx trivial rfl).1.trans f_x_now
  have f_x_personCount := (hs.o gx trivial rfl).1.trans f_x_personCount
  have f_x_claimCount := (hs.o gx trivial rfl).1.trans f_x_claimCount
  have f_mw := (hs.o gm trivial rfl).2.trans f_mw
  have f_mr := (hs.o gm trivial rfl).2.trans f_mr
  have f_mp := (hs.o gm trivial rfl).2.trans f_mp
  have f_mn := (hs.o gm trivial rfl).2.trans f_mn
  have f_ml := (hs.o gm trivial rfl).2.trans f_ml
  have f_mh := (hs.o gm trivial rfl).2.trans f_mh
  have f_mt := (hs.o gm trivial rfl).2.trans f_mt
  have f_m_fou := (hs.o gm trivial rfl).2.trans f_m_fou
  have f_qo_ln := (hs.o gx trivial rfl).2.trans f_qo_ln
  have f_o_ln := (hs.o g_qo_ln trivial rfl).1.trans f_o_ln
  have f_o_lsd := (hs.o g_qw trivial rfl).1.trans f_o_lsd
  have f_b_of := (hs.o g_qo_ln trivial rfl).2.trans f_b_of
  have f_m_of := (hs.o gm trivial rfl).2.trans f_m_of
  have f_b_wf := (hs.o g_qo_ln trivial rfl).2.trans f_b_wf
  have f_m_wf := (hs.o gm trivial rfl).2.trans f_m_wf
  have f_b_df := (hs.o g_qo_ln trivial rfl).2.trans f_b_df
  have f_m_df := (hs.o gm trivial rfl).2.trans f_m_df
  have f_b_kf := (hs.o g_qo_ln trivial rfl).2.trans f_b_kf
  have f_m_kf := (hs.o gm trivial rfl).2.trans f_m_kf
  have f_b_sf := (hs.o g_qo_ln trivial rfl).2.trans f_b_sf
  have f_m_sf := (hs.o gm trivial rfl).2.trans f_m_sf
  have f_b_bf := (hs.o g_qo_ln trivial rfl).2.trans f_b_bf
  have f_m_lst := (hs.o gm trivial rfl).2.trans f_m_lst
  have f_m_dead := (hs.o gm trivial rfl).2.trans f_m_dead
  have f_m_isj := (hs.o gm trivial rfl).2.trans f_m_isj
  have pf_qa : ∀ j : Nat, (j : Int) < (h_749.2.1 ax 6).toInt → h_749.2.2 qa j ≠ none := by
    intro j hj; rw [(hs.o gx trivial rfl).1] at hj; rw [(hs.a g_qa rfl j).2]; exact pf_qa j hj
  have pf_qp : ∀ j : Nat, (j : Int) < (h_749.2.1 ax 8).toInt → h_749.2.2 qp j ≠ none := by
    intro j hj; rw [(hs.o gx trivial rfl).1] at hj; rw [(hs.a g_qp rfl j).2]; exact pf_qp j hj
  have pf_qc : ∀ j : Nat, (j : Int) < (h_749.2.1 ax 11).toInt → h_749.2.2 qc j ≠ none := by
    intro j hj; rw [(hs.o gx trivial rfl).1] at hj; rw [(hs.a g_qc rfl j).2]; exact pf_qc j hj
  have pf_qh : ∀ j : Nat, (j : Int) < (h_749.2.1 ax 13).toInt → h_749.2.2 qh j ≠ none := by
    intro j hj; rw [(hs.o gx trivial rfl).1] at hj; rw [(hs.a g_qh rfl j).2]; exact pf_qh j hj
  have pf_ql : ∀ j : Nat, (j : Int) < (h_749.2.1 qw 0).toInt → h_749.2.2 ql j ≠ none := by
    intro j hj; rw [(hs.o g_qw trivial rfl).1] at hj; rw [(hs.a g_ql rfl j).2]; exact pf_ql j hj
  have cl_lst : hx_col 8 h_749 ql 0 = c_lst := (hx_col_S hs hTo g_ql tt_40 tt_2 rfl rfl).trans cl_lst
  have cl_dead : hx_col 40 h_749 qp 7 = c_dead := (hx_col_S hs hTo g_qp tt_44 tt_4 rfl rfl).trans cl_dead
  have cl_isj : hx_col 40 h_749 qp 8 = c_isj := (hx_col_S hs hTo g_qp tt_44 tt_4 rfl rfl).trans cl_isj
  have cl_fou : hx_col 100 h_749 qc 10 = c_fou := (hx_col_S hs hTo g_qc tt_45 tt_2 rfl rfl).trans cl_fou
  have cl_tri : hx_col 100 h_749 qc 9 = c_tri := (hx_col_S hs hTo g_qc tt_45 tt_2 rfl rfl).trans cl_tri
  have nu_qp : hx_num 40 h_749 qp 0 (np.toInt) := hx_num_S hs hTo g_qp tt_44 tt_4 rfl rfl nu_qp
  have nu_qc : hx_num 100 h_749 qc 0 (c0.toInt) := hx_num_S hs hTo g_qc tt_45 tt_2 rfl rfl nu_qc
  have sb_list : hx_LQ 8 100 h_749 ql qc := hx_LQ_S hs g_ql g_qc rfl rfl sb_list
  have n_mw : h_749.2.1 mw = F_mw := (funext fun j => (hs.a g_mw rfl j).1).trans n_mw
  have n_mr : h_749.2.1 mr = F_mr := (funext fun j => (hs.a g_mr rfl j).1).trans n_mr
  have n_mp : h_749.2.1 mp = F_mp := (funext fun j => (hs.a g_mp rfl j).1).trans n_mp
  have n_mn : h_749.2.1 mn = F_mn := (funext fun j => (hs.a g_mn rfl j).1).trans n_mn
  have n_ml : h_749.2.1 ml = F_ml := (funext fun j => (hs.a g_ml rfl j).1).trans n_ml
  have n_mh : h_749.2.1 mh = F_mh := (funext fun j => (hs.a g_mh rfl j).1).trans n_mh
  have n_mt : h_749.2.1 mt = F_mt := (funext fun j => (hs.a g_mt rfl j).1).trans n_mt
  have n_m_fou : h_749.2.1 m_fou = F_m_fou := (funext fun j => (hs.a g_m_fou rfl j).1).trans n_m_fou
  have n_b_of : h_749.2.1 b_of = B_of := (funext fun j => (hs.a g_b_of rfl j).1).trans n_b_of
  have n_m_of : h_749.2.1 m_of = F_of := (funext fun j => (hs.a g_m_of rfl j).1).trans n_m_of
  have n_b_wf : h_749.2.1 b_wf = B_wf := (funext fun j => (hs.a g_b_wf rfl j).1).trans n_b_wf
  have n_m_wf : h_749.2.1 m_wf = F_wf := (funext fun j => (hs.a g_m_wf rfl j).1).trans n_m_wf
  have n_b_df : h_749.2.1 b_df = B_df := (funext fun j => (hs.a g_b_df rfl j).1).trans n_b_df
  have n_m_df : h_749.2.1 m_df = F_df := (funext fun j => (hs.a g_m_df rfl j).1).trans n_m_df
  have n_b_kf : h_749.2.1 b_kf = B_kf := (funext fun j => (hs.a g_b_kf rfl j).1).trans n_b_kf
  have n_m_kf : h_749.2.1 m_kf = F_kf := (funext fun j => (hs.a g_m_kf rfl j).1).trans n_m_kf
  have n_b_sf : h_749.2.1 b_sf = B_sf := (funext fun j => (hs.a g_b_sf rfl j).1).trans n_b_sf
  have n_m_sf : h_749.2.1 m_sf = F_sf := (funext fun j => (hs.a g_m_sf rfl j).1).trans n_m_sf
  have n_b_bf : h_749.2.1 b_bf = bfL := (funext fun j => (hs.a g_b_bf rfl j).1).trans n_b_bf
  have n_lst : h_749.2.1 m_lst = F_lst := (funext fun j => (hs.a g_m_lst rfl j).1).trans n_lst
  have n_dead : h_749.2.1 m_dead = F_dead := (funext fun j => (hs.a g_m_dead rfl j).1).trans n_dead
  have n_isj : h_749.2.1 m_isj = F_isj := (funext fun j => (hs.a g_m_isj rfl j).1).trans n_isj
  have gx := gx.S hs
  have gm := gm.S hs
  have g_qa := g_qa.S hs
  have g_qp := g_qp.S hs
  have g_qc := g_qc.S hs
  have g_qh := g_qh.S hs
  have g_qw := g_qw.S hs
  have g_ql := g_ql.S hs
  have g_mw := g_mw.S hs
  have g_mr := g_mr.S hs
  have g_mp := g_mp.S hs
  have g_mn := g_mn.S hs
  have g_ml := g_ml.S hs
  have g_mh := g_mh.S hs
  have g_mt := g_mt.S hs
  have g_m_fou := g_m_fou.S hs
  have g_qo_ln := g_qo_ln.S hs
  have g_b_of := g_b_of.S hs
  have g_m_of := g_m_of.S hs
  have g_b_wf := g_b_wf.S hs
  have g_m_wf := g_m_wf.S hs
  have g_b_df := g_b_df.S hs
  have g_m_df := g_m_df.S hs
  have g_b_kf := g_b_kf.S hs
  have g_m_kf := g_m_kf.S hs
  have g_b_sf := g_b_sf.S hs
  have g_m_sf := g_m_sf.S hs
  have g_b_bf := g_b_bf.S hs
  have g_m_lst := g_m_lst.S hs
  have g_m_dead := g_m_dead.S hs
  have g_m_isj := g_m_isj.S hs
  refine lv_pop hx hb dL_law_1375 rfl ?_
  refine lv_goto (tgt := 1379) hx hb dL_law_1376 (by decide) ?_
  refine W.widen (k := CC + 3) (n := SS + 179) (by omega) (by omega) ?_
  exact kk L_748 h_749 H locs ls hW ⟨hT, gx, gm, ⟨f_x_now.trans f_m_now.symm, f_x_personCount.trans f_m_persons.symm, f_x_claimCount.trans f_m_claims.symm, hx_ob f_qo_ln (f_o_ln.trans f_m_lines.symm), hx_ob f_qw (f_o_lsd.trans f_m_listed.symm), hx_ob f_qp (by rw [f_x_personCount]; exact nu_qp), hx_ob f_qc (by rw [f_x_claimCount]; exact nu_qc), (fun b a r hb ha hr => by obtain rfl : qo_ln = b := Option.some.inj (f_qo_ln.symm.trans hb); obtain rfl : b_of = a := Option.some.inj (f_b_of.symm.trans ha); obtain rfl : m_of = r := Option.some.inj (f_m_of.symm.trans hr); rw [n_b_of, n_m_of, f_o_ln]; exact eb_of), (fun b a r hb ha hr => by obtain rfl : qo_ln = b := Option.some.inj (f_qo_ln.symm.trans hb); obtain rfl : b_wf = a := Option.some.inj (f_b_wf.symm.trans ha); obtain rfl : m_wf = r := Option.some.inj (f_m_wf.symm.trans hr); rw [n_b_wf, n_m_wf, f_o_ln]; exact eb_wf), (fun b a r hb ha hr => by obtain rfl : qo_ln = b := Option.some.inj (f_qo_ln.symm.trans hb); obtain rfl : b_df = a := Option.some.inj (f_b_df.symm.trans ha); obtain rfl : m_df = r := Option.some.inj (f_m_df.symm.trans hr); rw [n_b_df, n_m_df, f_o_ln]; exact eb_df), (fun b a r hb ha hr => by obtain rfl : qo_ln = b := Option.some.inj (f_qo_ln.symm.trans hb); obtain rfl : b_kf = a := Option.some.inj (f_b_kf.symm.trans ha); obtain rfl : m_kf = r := Option.some.inj (f_m_kf.symm.trans hr); rw [n_b_kf, n_m_kf, f_o_ln]; exact eb_kf), (fun b a r hb ha hr => by obtain rfl : qo_ln = b := Option.some.inj (f_qo_ln.symm.trans hb); obtain rfl : b_sf = a := Option.some.inj (f_b_sf.symm.trans ha); obtain rfl : m_sf = r := Option.some.inj (f_m_sf.symm.trans hr); rw [n_b_sf, n_m_sf, f_o_ln]; exact eb_sf), (fun b a r hb ha hr => by obtain rfl : qo_ln = b := Option.some.inj (f_qo_ln.symm.trans hb); obtain rfl : b_df = a := Option.some.inj (f_b_df.symm.trans ha); obtain rfl : b_bf = r := Option.some.inj (f_b_bf.symm.trans hr); rw [n_b_df, n_b_bf, f_o_ln]; exact ⟨hBD, hDY⟩), (fun w q c hw hq hc => by obtain rfl : qw = w := Option.some.inj (f_qw.symm.trans hw); obtain rfl : ql = q := Option.some.inj (f_ql.symm.trans hq); obtain rfl : qc = c := Option.some.inj (f_qc.symm.trans hc); exact sb_list), (fun w q r hw hq hr => by obtain rfl : qw = w := Option.some.inj (f_qw.symm.trans hw); obtain rfl : ql = q := Option.some.inj (f_ql.symm.trans hq); obtain rfl : m_lst = r := Option.some.inj (f_m_lst.symm.trans hr); rw [cl_lst, n_lst]; exact eq_lst), hx_ob2 f_qp f_m_dead (by rw [cl_dead, n_dead]; exact eq_dead), hx_ob2 f_qp f_m_isj (by rw [cl_isj, n_isj]; exact eq_isj), hx_ob2 f_qc f_m_fou (by rw [cl_fou, n_m_fou]; exact eq_fou), hx_ob2 f_qc f_mt (by rw [cl_tri, n_mt]; exact eq_tri), trivial⟩, ⟨hx_ob f_qa pf_qa, hx_ob f_qp pf_qp, hx_ob f_qc pf_qc, hx_ob f_qh pf_qh, (fun w q hw hq => by obtain rfl : qw = w := Option.some.inj (f_qw.symm.trans hw); obtain rfl : ql = q := Option.some.inj (f_ql.symm.trans hq); exact pf_ql)⟩, ⟨hx_ob f_mw (by rw [n_mw]; exact hwd), hx_ob f_mr (by rw [n_mr, f_m_acts]; exact hWK), hx_ob2 f_mp f_mn (by rw [n_mp, n_mn, f_m_acts]; exact hRP), hx_ob f_ml (by rw [n_ml, f_m_claims, f_m_acts]; exact hPL), hx_ob f_mh (by rw [n_mh, f_m_heardMany, f_m_claims]; exact hHC), hx_ob f_mt (by rw [n_mt]; exact (hx_TR_le hTR (by omega))), hx_ob2 f_mh f_m_fou (by rw [n_mh, n_m_fou, f_m_claims]; exact hHF)⟩⟩ hl
