set_option maxHeartbeats 4000000 in
set_option maxRecDepth 100000 in
theorem law_case_24 {p : Program} {e : Env} {s : State} {m : MethodId} {below : List Frame} {meth : Method} {c : Code} (l : Launch) {b LN : Nat} {xs : Nat → Int32} (hx : p.tables.exec = Jvm.exec) (hb : c.code = code) (hr : meth.sig.returnType = ret) (hlocks : meth.locks = false) (hml : c.maxLocals = 4) (hown : s.vm.findClass "SmallCourtLaw" = some m.cls) (hts : ∀ w ∈ hx_all, w.before #[Value.ref b] s = true) (hX : va_X b LN xs s s.heap) (hbl : b < s.heap.size) (hbA : ¬ s.heap.size ≤ b) (hLN : LN ≤ 3584) (dC : Nat → ClassId) (dI : Nat → Nat → Nat) (dA : Nat → ClassId) (b0 : hx_z) (ax am : Nat) (T1 : Int) (hT0 : 0 ≤ T1) (hT1 : T1 ≤ 511) (i : Int32) (hi0 : 0 ≤ i.toInt) (hiL : i.toInt + 7 ≤ LN) (CC SS : Nat) (hCC : CC + 3 ≤ 600000) (hSS : SS + 179 ≤ 7302250) (L1 : List Nat) (hl1 : hx_h) (H : Heap) (locs : List Loc) (ls : Array Slot) (hW : hx_W T_tb (P_ty dA) (dC, dI) vwCl (fun q : Nat => s.heap.size ≤ q) s.heap L1 hl1 s H locs) (hZ : hx_Xt (fun q : Nat => s.heap.size ≤ q) b0 s) (hI : hx_IV T1 ax am L1 hl1) (hl : lv_has ls 4 [(3, .int i), (2, .ref am), (1, .ref ax), (0, .ref b)]) (kk : ∀ (L2 : List Nat) (h2 : hx_h) (H2 : Heap) (locs2 : List Loc) (ls2 : Array Slot), hx_W T_tb (P_ty dA) (dC, dI) vwCl (fun q : Nat => s.heap.size ≤ q) s.heap L2 h2 s H2 locs2 → hx_IV (T1 + 1) ax am L2 h2 → lv_has ls2 4 [(3, .int i), (2, .ref am), (1, .ref ax), (0, .ref b)] → W p l e room_1 s m #[Value.ref b] below meth c H2 locs2 (CC + 3) (SS + 179) (lw_Z below #[Value.ref b] s) (F0 m 1379 ls2 [])) : W p l e room_1 s m #[Value.ref b] below meth c H locs CC SS (lw_Z below #[Value.ref b] s) (F0 m 1208 ls []) := by
  have hI9 := hI
  have hT := hI9.1
  replace hI9 := hI9.2
  have gx := hI9.1
  replace hI9 := hI9.2
  have gm := hI9.1
  replace hI9 := hI9.2
  have zq0_3 := hI9.1
  have he_nw := zq0_3.1
  replace zq0_3 := zq0_3.2
  have he_np := zq0_3.1
  replace zq0_3 := zq0_3.2
  have he_c0 := zq0_3.1
  replace zq0_3 := zq0_3.2
  have he_tl := zq0_3.1
  replace zq0_3 := zq0_3.2
  have he_a0 := zq0_3.1
  replace zq0_3 := zq0_3.2
  have he_m0 := zq0_3.1
  replace zq0_3 := zq0_3.2
  have ho_ln := zq0_3.1
  replace zq0_3 := zq0_3.2
  have ho_lsd := zq0_3.1
  replace zq0_3 := zq0_3.2
  have ho_wkm := zq0_3.1
  replace zq0_3 := zq0_3.2
  have ho_py := zq0_3.1
  replace zq0_3 := zq0_3.2
  have hn_qp := zq0_3.1
  replace zq0_3 := zq0_3.2
  have hn_qc := zq0_3.1
  replace zq0_3 := zq0_3.2
  have hk_of := zq0_3.1
  replace zq0_3 := zq0_3.2
  have hk_wf := zq0_3.1
  replace zq0_3 := zq0_3.2
  have hk_df := zq0_3.1
  replace zq0_3 := zq0_3.2
  have hk_kf := zq0_3.1
  replace zq0_3 := zq0_3.2
  have hk_sf := zq0_3.1
  replace zq0_3 := zq0_3.2
  have hkBD := zq0_3.1
  replace zq0_3 := zq0_3.2
  have hLQ := zq0_3.1
  replace zq0_3 := zq0_3.2
  have hLE := zq0_3.1
  replace zq0_3 := zq0_3.2
  have hkWD := zq0_3.1
  replace zq0_3 := zq0_3.2
  have hkDF := zq0_3.1
  replace zq0_3 := zq0_3.2
  have hkTP := zq0_3.1
  replace zq0_3 := zq0_3.2
  have hkAC := zq0_3.1
  replace zq0_3 := zq0_3.2
  have hkDP := zq0_3.1
  replace zq0_3 := zq0_3.2
  have hkHL := zq0_3.1
  replace zq0_3 := zq0_3.2
  have hkHO := zq0_3.1
  replace zq0_3 := zq0_3.2
  have hkFX := zq0_3.1
  replace zq0_3 := zq0_3.2
  have hkBX := zq0_3.1
  replace zq0_3 := zq0_3.2
  have hf_bor := zq0_3.1
  replace zq0_3 := zq0_3.2
  have hf_kin := zq0_3.1
  replace zq0_3 := zq0_3.2
  have hf_sum := zq0_3.1
  replace zq0_3 := zq0_3.2
  have hf_fro := zq0_3.1
  replace zq0_3 := zq0_3.2
  have hf_fil := zq0_3.1
  replace zq0_3 := zq0_3.2
  have hf_hea := zq0_3.1
  replace zq0_3 := zq0_3.2
  have hf_jud := zq0_3.1
  replace zq0_3 := zq0_3.2
  have hf_ear := zq0_3.1
  replace zq0_3 := zq0_3.2
  have hf_hds := zq0_3.1
  replace zq0_3 := zq0_3.2
  have hf_ord := zq0_3.1
  replace zq0_3 := zq0_3.2
  have hf_wkl := zq0_3.1
  replace zq0_3 := zq0_3.2
  have hf_owd := zq0_3.1
  replace zq0_3 := zq0_3.2
  have hf_gds := zq0_3.1
  replace zq0_3 := zq0_3.2
  have hf_szd := zq0_3.1
  replace zq0_3 := zq0_3.2
  have hf_srv := zq0_3.1
  replace zq0_3 := zq0_3.2
  have hkP0 := zq0_3.1
  replace zq0_3 := zq0_3.2
  have hkP1 := zq0_3.1
  replace zq0_3 := zq0_3.2
  have hkP2 := zq0_3.1
  replace zq0_3 := zq0_3.2
  have hkP3 := zq0_3.1
  replace zq0_3 := zq0_3.2
  have hkP4 := zq0_3.1
  replace zq0_3 := zq0_3.2
  have hkNQ := zq0_3.1
  replace zq0_3 := zq0_3.2
  have hkRL := zq0_3.1
  replace zq0_3 := zq0_3.2
  have hc_dead := zq0_3.1
  replace zq0_3 := zq0_3.2
  have hc_isj := zq0_3.1
  replace zq0_3 := zq0_3.2
  have hc_dox := zq0_3.1
  replace zq0_3 := zq0_3.2
  have hc_doy := zq0_3.1
  replace zq0_3 := zq0_3.2
  have hc_fou := zq0_3.1
  replace zq0_3 := zq0_3.2
  have hc_tri := zq0_3.1
  replace zq0_3 := zq0_3.2
  replace hI9 := hI9.2
  have zq0_4 := hI9.1
  have ia := zq0_4.1
  replace zq0_4 := zq0_4.2
  have ip := zq0_4.1
  replace zq0_4 := zq0_4.2
  have ic := zq0_4.1
  replace zq0_4 := zq0_4.2
  have ih := zq0_4.1
  replace zq0_4 := zq0_4.2
  have il := zq0_4
  replace hI9 := hI9.2
  have zq0_5 := hI9
  have jw := zq0_5.1
  replace zq0_5 := zq0_5.2
  have jr := zq0_5.1
  replace zq0_5 := zq0_5.2
  have jp := zq0_5.1
  replace zq0_5 := zq0_5.2
  have jl := zq0_5.1
  replace zq0_5 := zq0_5.2
  have jh := zq0_5.1
  replace zq0_5 := zq0_5.2
  have jt := zq0_5.1
  replace zq0_5 := zq0_5.2
  have jf := zq0_5
  obtain ⟨qa, f_qa, g_qa⟩ := hx_rf hT gx tt_9 (k := 5) (u := 43) rfl
  have pf_qa := ia qa f_qa
  obtain ⟨qp, f_qp, g_qp⟩ := hx_rf hT gx tt_9 (k := 7) (u := 44) rfl
  have pf_qp := ip qp f_qp
  obtain ⟨qc, f_qc, g_qc⟩ := hx_rf hT gx tt_9 (k := 10) (u := 45) rfl
  have pf_qc := ic qc f_qc
  obtain ⟨qh, f_qh, g_qh⟩ := hx_rf hT gx tt_9 (k := 12) (u := 46) rfl
  have pf_qh := ih qh f_qh
  obtain ⟨qw, f_qw, g_qw⟩ := hx_rf hT gx tt_9 (k := 19) (u := 8) rfl
  obtain ⟨ql, f_ql, g_ql⟩ := hx_rf hT g_qw tt_8 (k := 3) (u := 40) rfl
  have pf_ql := il qw ql f_qw f_ql
  obtain ⟨nw, f_m_now⟩ : ∃ y : Int32, hl1.2.1 am 0 = y := ⟨_, rfl⟩
  have b_nw := hT.gi gm tt_10 (k := 0) rfl
  rw [f_m_now] at b_nw
  have b_nw : 0 ≤ nw.toInt ∧ nw.toInt ≤ 7999 := b_nw
  obtain ⟨np, f_m_persons⟩ : ∃ y : Int32, hl1.2.1 am 20 = y := ⟨_, rfl⟩
  have b_np := hT.gi gm tt_10 (k := 20) rfl
  rw [f_m_persons] at b_np
  have b_np : 0 ≤ np.toInt ∧ np.toInt ≤ 40 := b_np
  obtain ⟨c0, f_m_claims⟩ : ∃ y : Int32, hl1.2.1 am 36 = y := ⟨_, rfl⟩
  have b_c0 := hT.gi gm tt_10 (k := 36) rfl
  rw [f_m_claims] at b_c0
  have b_c0 : 0 ≤ c0.toInt ∧ c0.toInt ≤ 100 := b_c0
  obtain ⟨tl, f_m_taped⟩ : ∃ y : Int32, hl1.2.1 am 7 = y := ⟨_, rfl⟩
  have b_tl := hT.gi gm tt_10 (k := 7) rfl
  rw [f_m_taped] at b_tl
  have b_tl : 0 ≤ tl.toInt ∧ tl.toInt ≤ 400 := b_tl
  obtain ⟨a0, f_m_acts⟩ : ∃ y : Int32, hl1.2.1 am 1 = y := ⟨_, rfl⟩
  have b_a0 := hT.gi gm tt_10 (k := 1) rfl
  rw [f_m_acts] at b_a0
  have b_a0 : 0 ≤ a0.toInt ∧ a0.toInt ≤ 8 := b_a0
  obtain ⟨m0, f_m_heardMany⟩ : ∃ y : Int32, hl1.2.1 am 57 = y := ⟨_, rfl⟩
  have b_m0 := hT.gi gm tt_10 (k := 57) rfl
  rw [f_m_heardMany] at b_m0
  have b_m0 : 0 ≤ m0.toInt ∧ m0.toInt ≤ 100 := b_m0
  obtain ⟨ln, f_m_lines⟩ : ∃ y : Int32, hl1.2.1 am 29 = y := ⟨_, rfl⟩
  have b_ln := hT.gi gm tt_10 (k := 29) rfl
  rw [f_m_lines] at b_ln
  have b_ln : 0 ≤ ln.toInt ∧ ln.toInt ≤ 400 := b_ln
  obtain ⟨lsd, f_m_listed⟩ : ∃ y : Int32, hl1.2.1 am 90 = y := ⟨_, rfl⟩
  have b_lsd := hT.gi gm tt_10 (k := 90) rfl
  rw [f_m_listed] at b_lsd
  have b_lsd : 0 ≤ lsd.toInt ∧ lsd.toInt ≤ 8 := b_lsd
  obtain ⟨wkm, f_m_walkedMany⟩ : ∃ y : Int32, hl1.2.1 am 92 = y := ⟨_, rfl⟩
  have b_wkm := hT.gi gm tt_10 (k := 92) rfl
  rw [f_m_walkedMany] at b_wkm
  have b_wkm : 0 ≤ wkm.toInt ∧ wkm.toInt ≤ 8 := b_wkm
  obtain ⟨py, f_m_payments⟩ : ∃ y : Int32, hl1.2.1 am 59 = y := ⟨_, rfl⟩
  have b_py := hT.gi gm tt_10 (k := 59) rfl
  rw [f_m_payments] at b_py
  have b_py : 0 ≤ py.toInt ∧ py.toInt ≤ 600 := b_py
  have f_x_now : hl1.2.1 ax 2 = nw := he_nw.trans f_m_now
  have f_x_personCount : hl1.2.1 ax 8 = np := he_np.trans f_m_persons
  have f_x_claimCount : hl1.2.1 ax 11 = c0 := he_c0.trans f_m_claims
  have f_x_tapeLength : hl1.2.1 ax 1 = tl := he_tl.trans f_m_taped
  have f_x_actCount : hl1.2.1 ax 6 = a0 := he_a0.trans f_m_acts
  have f_x_heardCount : hl1.2.1 ax 13 = m0 := he_m0.trans f_m_heardMany
  obtain ⟨mw, f_mw, g_mw⟩ := hx_rf hT gm tt_10 (k := 19) (u := 57) rfl
  obtain ⟨F_mw, n_mw⟩ : ∃ g : Nat → Int32, hl1.2.1 mw = g := ⟨_, rfl⟩
  obtain ⟨mr, f_mr, g_mr⟩ := hx_rf hT gm tt_10 (k := 3) (u := 50) rfl
  obtain ⟨F_mr, n_mr⟩ : ∃ g : Nat → Int32, hl1.2.1 mr = g := ⟨_, rfl⟩
  obtain ⟨mp, f_mp, g_mp⟩ := hx_rf hT gm tt_10 (k := 5) (u := 52) rfl
  obtain ⟨F_mp, n_mp⟩ : ∃ g : Nat → Int32, hl1.2.1 mp = g := ⟨_, rfl⟩
  obtain ⟨mn, f_mn, g_mn⟩ := hx_rf hT gm tt_10 (k := 4) (u := 51) rfl
  obtain ⟨F_mn, n_mn⟩ : ∃ g : Nat → Int32, hl1.2.1 mn = g := ⟨_, rfl⟩
  obtain ⟨ml, f_ml, g_ml⟩ := hx_rf hT gm tt_10 (k := 44) (u := 79) rfl
  obtain ⟨F_ml, n_ml⟩ : ∃ g : Nat → Int32, hl1.2.1 ml = g := ⟨_, rfl⟩
  obtain ⟨mh, f_mh, g_mh⟩ := hx_rf hT gm tt_10 (k := 47) (u := 82) rfl
  obtain ⟨F_mh, n_mh⟩ : ∃ g : Nat → Int32, hl1.2.1 mh = g := ⟨_, rfl⟩
  obtain ⟨mt, f_mt, g_mt⟩ := hx_rf hT gm tt_10 (k := 45) (u := 80) rfl
  obtain ⟨F_mt, n_mt⟩ : ∃ g : Nat → Int32, hl1.2.1 mt = g := ⟨_, rfl⟩
  obtain ⟨m_fou, f_m_fou, g_m_fou⟩ := hx_rf hT gm tt_10 (k := 46) (u := 81) rfl
  obtain ⟨F_m_fou, n_m_fou⟩ : ∃ g : Nat → Int32, hl1.2.1 m_fou = g := ⟨_, rfl⟩
  obtain ⟨qo_ln, f_qo_ln, g_qo_ln⟩ := hx_rf hT gx tt_9 (k := 9) (u := 1) rfl
  have f_o_ln : hl1.2.1 qo_ln 0 = ln := (ho_ln qo_ln f_qo_ln).trans f_m_lines
  have f_o_lsd : hl1.2.1 qw 0 = lsd := (ho_lsd qw f_qw).trans f_m_listed
  have f_o_wkm : hl1.2.1 qw 1 = wkm := (ho_wkm qw f_qw).trans f_m_walkedMany
  obtain ⟨qo_py, f_qo_py, g_qo_py⟩ := hx_rf hT gx tt_9 (k := 14) (u := 3) rfl
  have f_o_py : hl1.2.1 qo_py 0 = py := (ho_py qo_py f_qo_py).trans f_m_payments
  have nu_qp := hn_qp qp f_qp; rw [f_x_personCount] at nu_qp
  have nu_qc := hn_qc qc f_qc; rw [f_x_claimCount] at nu_qc
  obtain ⟨b_of, f_b_of, g_b_of⟩ := hx_rf hT g_qo_ln tt_1 (k := 1) (u := 13) rfl
  obtain ⟨B_of, n_b_of⟩ : ∃ g : Nat → Int32, hl1.2.1 b_of = g := ⟨_, rfl⟩
  obtain ⟨m_of, f_m_of, g_m_of⟩ := hx_rf hT gm tt_10 (k := 30) (u := 66) rfl
  obtain ⟨F_of, n_m_of⟩ : ∃ g : Nat → Int32, hl1.2.1 m_of = g := ⟨_, rfl⟩
  have eb_of := hk_of qo_ln b_of m_of f_qo_ln f_b_of f_m_of; rw [n_b_of, n_m_of, f_o_ln] at eb_of
  obtain ⟨b_wf, f_b_wf, g_b_wf⟩ := hx_rf hT g_qo_ln tt_1 (k := 2) (u := 14) rfl
  obtain ⟨B_wf, n_b_wf⟩ : ∃ g : Nat → Int32, hl1.2.1 b_wf = g := ⟨_, rfl⟩
  obtain ⟨m_wf, f_m_wf, g_m_wf⟩ := hx_rf hT gm tt_10 (k := 31) (u := 67) rfl
  obtain ⟨F_wf, n_m_wf⟩ : ∃ g : Nat → Int32, hl1.2.1 m_wf = g := ⟨_, rfl⟩
  have eb_wf := hk_wf qo_ln b_wf m_wf f_qo_ln f_b_wf f_m_wf; rw [n_b_wf, n_m_wf, f_o_ln] at eb_wf
  obtain ⟨b_df, f_b_df, g_b_df⟩ := hx_rf hT g_qo_ln tt_1 (k := 3) (u := 15) rfl
  obtain ⟨B_df, n_b_df⟩ : ∃ g : Nat → Int32, hl1.2.1 b_df = g := ⟨_, rfl⟩
  obtain ⟨m_df, f_m_df, g_m_df⟩ := hx_rf hT gm tt_10 (k := 32) (u := 68) rfl
  obtain ⟨F_df, n_m_df⟩ : ∃ g : Nat → Int32, hl1.2.1 m_df = g := ⟨_, rfl⟩
  have eb_df := hk_df qo_ln b_df m_df f_qo_ln f_b_df f_m_df; rw [n_b_df, n_m_df, f_o_ln] at eb_df
  obtain ⟨b_kf, f_b_kf, g_b_kf⟩ := hx_rf hT g_qo_ln tt_1 (k := 4) (u := 16) rfl
  obtain ⟨B_kf, n_b_kf⟩ : ∃ g : Nat → Int32, hl1.2.1 b_kf = g := ⟨_, rfl⟩
  obtain ⟨m_kf, f_m_kf, g_m_kf⟩ := hx_rf hT gm tt_10 (k := 33) (u := 69) rfl
  obtain ⟨F_kf, n_m_kf⟩ : ∃ g : Nat → Int32, hl1.2.1 m_kf = g := ⟨_, rfl⟩
  have eb_kf := hk_kf qo_ln b_kf m_kf f_qo_ln f_b_kf f_m_kf; rw [n_b_kf, n_m_kf, f_o_ln] at eb_kf
  obtain ⟨b_sf, f_b_sf, g_b_sf⟩ := hx_rf hT g_qo_ln tt_1 (k := 5) (u := 17) rfl
  obtain ⟨B_sf, n_b_sf⟩ : ∃ g : Nat → Int32, hl1.2.1 b_sf = g := ⟨_, rfl⟩
  obtain ⟨m_sf, f_m_sf, g_m_sf⟩ := hx_rf hT gm tt_10 (k := 34) (u := 70) rfl
  obtain ⟨F_sf, n_m_sf⟩ : ∃ g : Nat → Int32, hl1.2.1 m_sf = g := ⟨_, rfl⟩
  have eb_sf := hk_sf qo_ln b_sf m_sf f_qo_ln f_b_sf f_m_sf; rw [n_b_sf, n_m_sf, f_o_ln] at eb_sf
  obtain ⟨b_bf, f_b_bf, g_b_bf⟩ := hx_rf hT g_qo_ln tt_1 (k := 6) (u := 18) rfl
  obtain ⟨bfL, n_b_bf⟩ : ∃ g : Nat → Int32, hl1.2.1 b_bf = g := ⟨_, rfl⟩
  obtain ⟨hBD, hDY⟩ := hkBD qo_ln b_df b_bf f_qo_ln f_b_df f_b_bf; rw [n_b_df, n_b_bf, f_o_ln] at hBD; rw [n_b_df, f_o_ln] at hDY
  have hBDm := hy_BD_c eb_df hBD
  have hDYm : hy_DY F_df ln.toInt.toNat := fun x hx => by rw [← eb_df x hx]; exact hDY x hx
  have sb_list := hLQ qw ql qc f_qw f_ql f_qc
  obtain ⟨m_lst, f_m_lst, g_m_lst⟩ := hx_rf hT gm tt_10 (k := 91) (u := 112) rfl
  obtain ⟨F_lst, n_lst⟩ : ∃ g : Nat → Int32, hl1.2.1 m_lst = g := ⟨_, rfl⟩
  obtain ⟨c_lst, cl_lst⟩ : ∃ g : Nat → Int32, hx_col 8 hl1 ql 0 = g := ⟨_, rfl⟩
  have eq_lst := hLE qw ql m_lst f_qw f_ql f_m_lst; rw [cl_lst, n_lst] at eq_lst
  obtain ⟨qtp, f_qtp, g_qtp⟩ := hx_rf hT gx tt_9 (k := 0) (u := 42) rfl
  obtain ⟨m_tp, f_m_tp, g_m_tp⟩ := hx_rf hT gm tt_10 (k := 6) (u := 53) rfl
  obtain ⟨F_tp, n_tp⟩ : ∃ g : Nat → Int32, hl1.2.1 m_tp = g := ⟨_, rfl⟩
  have n_qtp : hl1.2.1 qtp = F_tp := (hkTP qtp m_tp f_qtp f_m_tp).trans n_tp
  obtain ⟨c_dead, cl_dead⟩ : ∃ g : Nat → Int32, hx_col 40 hl1 qp 7 = g := ⟨_, rfl⟩
  obtain ⟨m_dead, f_m_dead, g_m_dead⟩ := hx_rf hT gm tt_10 (k := 27) (u := 64) rfl
  obtain ⟨F_dead, n_dead⟩ : ∃ g : Nat → Int32, hl1.2.1 m_dead = g := ⟨_, rfl⟩
  have eq_dead := hc_dead qp m_dead f_qp f_m_dead; rw [cl_dead, n_dead] at eq_dead
  have z_dead : np.toInt.toNat < 40 → c_dead np.toInt.toNat = 0 := fun hj => hx_num_z nu_qp cl_dead hj ?o0
  case o0 => omega
  obtain ⟨c_isj, cl_isj⟩ : ∃ g : Nat → Int32, hx_col 40 hl1 qp 8 = g := ⟨_, rfl⟩
  obtain ⟨m_isj, f_m_isj, g_m_isj⟩ := hx_rf hT gm tt_10 (k := 28) (u := 65) rfl
  obtain ⟨F_isj, n_isj⟩ : ∃ g : Nat → Int32, hl1.2.1 m_isj = g := ⟨_, rfl⟩
  have eq_isj := hc_isj qp m_isj f_qp f_m_isj; rw [cl_isj, n_isj] at eq_isj
  have z_isj : np.toInt.toNat < 40 → c_isj np.toInt.toNat = 0 := fun hj => hx_num_z nu_qp cl_isj hj ?o1
  case o1 => omega
  obtain ⟨c_dox, cl_dox⟩ : ∃ g : Nat → Int32, hx_col 40 hl1 qp 5 = g := ⟨_, rfl⟩
  obtain ⟨m_dox, f_m_dox, g_m_dox⟩ := hx_rf hT gm tt_10 (k := 24) (u := 61) rfl
  obtain ⟨F_dox, n_dox⟩ : ∃ g : Nat → Int32, hl1.2.1 m_dox = g := ⟨_, rfl⟩
  have eq_dox := hc_dox qp m_dox f_qp f_m_dox; rw [cl_dox, n_dox] at eq_dox
  have z_dox : np.toInt.toNat < 40 → c_dox np.toInt.toNat = 0 := fun hj => hx_num_z nu_qp cl_dox hj ?o2
  case o2 => omega
  obtain ⟨c_doy, cl_doy⟩ : ∃ g : Nat → Int32, hx_col 40 hl1 qp 6 = g := ⟨_, rfl⟩
  obtain ⟨m_doy, f_m_doy, g_m_doy⟩ := hx_rf hT gm tt_10 (k := 25) (u := 62) rfl
  obtain ⟨F_doy, n_doy⟩ : ∃ g : Nat → Int32, hl1.2.1 m_doy = g := ⟨_, rfl⟩
  have eq_doy := hc_doy qp m_doy f_qp f_m_doy; rw [cl_doy, n_doy] at eq_doy
  have z_doy : np.toInt.toNat < 40 → c_doy np.toInt.toNat = 0 := fun hj => hx_num_z nu_qp cl_doy hj ?o3
  case o3 => omega
  obtain ⟨c_fou, cl_fou⟩ : ∃ g : Nat → Int32, hx_col 100 hl1 qc 10 = g := ⟨_, rfl⟩
  have eq_fou := hc_fou qc m_fou f_qc f_m_fou; rw [cl_fou, n_m_fou] at eq_fou
  have z_fou : c0.toInt.toNat < 100 → c_fou c0.toInt.toNat = 0 := fun hj => hx_num_z nu_qc cl_fou hj ?o4
  case o4 => omega
  obtain ⟨c_tri, cl_tri⟩ : ∃ g : Nat → Int32, hx_col 100 hl1 qc 9 = g := ⟨_, rfl⟩
  have eq_tri := hc_tri qc mt f_qc f_mt; rw [cl_tri, n_mt] at eq_tri
  have z_tri : c0.toInt.toNat < 100 → c_tri c0.toInt.toNat = 0 := fun hj => hx_num_z nu_qc cl_tri hj ?o5
  case o5 => omega
  obtain ⟨qlt, f_qlt, g_qlt⟩ := hx_rf hT g_qw tt_8 (k := 2) (u := 39) rfl
  obtain ⟨qlf, f_qlf, g_qlf⟩ := hx_rf hT g_qw tt_8 (k := 4) (u := 41) rfl
  obtain ⟨m_wkd, f_m_wkd, g_m_wkd⟩ := hx_rf hT gm tt_10 (k := 93) (u := 113) rfl
  obtain ⟨F_qlt, n_qlt⟩ : ∃ g : Nat → Int32, hl1.2.1 qlt = g := ⟨_, rfl⟩
  obtain ⟨F_m_wkd, n_m_wkd⟩ : ∃ g : Nat → Int32, hl1.2.1 m_wkd = g := ⟨_, rfl⟩
  have eb_wkd := hkWD qw qlt m_wkd f_qw f_qlt f_m_wkd; rw [n_qlt, n_m_wkd, f_o_wkm] at eb_wkd
  obtain ⟨m_aga, f_m_aga, g_m_aga⟩ := hx_rf hT gm tt_10 (k := 38) (u := 73) rfl
  obtain ⟨F_aga, n_aga⟩ : ∃ g : Nat → Int32, hl1.2.1 m_aga = g := ⟨_, rfl⟩
  have hDF := hkDF qc qp m_aga f_qc f_qp f_m_aga; rw [n_aga, f_x_claimCount] at hDF
  obtain ⟨qwo, f_qwo, g_qwo⟩ := hx_rf hT gx tt_9 (k := 4) (u := 0) rfl
  obtain ⟨m_ad, f_m_ad, g_m_ad⟩ := hx_rf hT gm tt_10 (k := 2) (u := 49) rfl
  obtain ⟨F_ad, n_ad⟩ : ∃ g : Nat → Int32, hl1.2.1 m_ad = g := ⟨_, rfl⟩
  obtain ⟨A9, hRA9, hCA9, hAC9, hAB⟩ := hkAC qa qwo m_ad mr mn mp qc ml f_qa f_qwo f_m_ad f_mr f_mn f_mp f_qc f_ml
  rw [f_x_actCount] at hRA9; rw [f_x_actCount, n_ad, n_mr, n_mn, n_mp] at hCA9
  obtain ⟨m_by, f_m_by, g_m_by⟩ := hx_rf hT gm tt_10 (k := 37) (u := 72) rfl
  obtain ⟨F_by, n_by⟩ : ∃ g : Nat → Int32, hl1.2.1 m_by = g := ⟨_, rfl⟩
  obtain ⟨m_ho, f_m_ho, g_m_ho⟩ := hx_rf hT gm tt_10 (k := 58) (u := 92) rfl
  obtain ⟨F_ho, n_ho⟩ : ∃ g : Nat → Int32, hl1.2.1 m_ho = g := ⟨_, rfl⟩
  obtain ⟨m_fc, f_m_fc, g_m_fc⟩ := hx_rf hT gm tt_10 (k := 53) (u := 88) rfl
  obtain ⟨F_fc, n_fc⟩ : ∃ g : Nat → Int32, hl1.2.1 m_fc = g := ⟨_, rfl⟩
  obtain ⟨m_nt, f_m_nt, g_m_nt⟩ := hx_rf hT gm tt_10 (k := 41) (u := 76) rfl
  obtain ⟨F_nt, n_nt⟩ : ∃ g : Nat → Int32, hl1.2.1 m_nt = g := ⟨_, rfl⟩
  obtain ⟨m_wt, f_m_wt, g_m_wt⟩ := hx_rf hT gm tt_10 (k := 42) (u := 77) rfl
  obtain ⟨F_wt, n_wt⟩ : ∃ g : Nat → Int32, hl1.2.1 m_wt = g := ⟨_, rfl⟩
  obtain ⟨m_be, f_m_be, g_m_be⟩ := hx_rf hT gm tt_10 (k := 52) (u := 87) rfl
  obtain ⟨F_be, n_be⟩ : ∃ g : Nat → Int32, hl1.2.1 m_be = g := ⟨_, rfl⟩
  obtain ⟨m_bor, f_m_bor, g_m_bor⟩ := hx_rf hT gm tt_10 (k := 21) (u := 58) rfl
  obtain ⟨F_bor, n_bor⟩ : ∃ g : Nat → Int32, hl1.2.1 m_bor = g := ⟨_, rfl⟩
  obtain ⟨m_kin, f_m_kin, g_m_kin⟩ := hx_rf hT gm tt_10 (k := 26) (u := 63) rfl
  obtain ⟨F_kin, n_kin⟩ : ∃ g : Nat → Int32, hl1.2.1 m_kin = g := ⟨_, rfl⟩
  obtain ⟨m_sum, f_m_sum, g_m_sum⟩ := hx_rf hT gm tt_10 (k := 39) (u := 74) rfl
  obtain ⟨F_sum, n_sum⟩ : ∃ g : Nat → Int32, hl1.2.1 m_sum = g := ⟨_, rfl⟩
  obtain ⟨m_fro, f_m_fro, g_m_fro⟩ := hx_rf hT gm tt_10 (k := 40) (u := 75) rfl
  obtain ⟨F_fro, n_fro⟩ : ∃ g : Nat → Int32, hl1.2.1 m_fro = g := ⟨_, rfl⟩
  obtain ⟨m_fil, f_m_fil, g_m_fil⟩ := hx_rf hT gm tt_10 (k := 43) (u := 78) rfl
  obtain ⟨F_fil, n_fil⟩ : ∃ g : Nat → Int32, hl1.2.1 m_fil = g := ⟨_, rfl⟩
  obtain ⟨m_jud, f_m_jud, g_m_jud⟩ := hx_rf hT gm tt_10 (k := 51) (u := 86) rfl
  obtain ⟨F_jud, n_jud⟩ : ∃ g : Nat → Int32, hl1.2.1 m_jud = g := ⟨_, rfl⟩
  obtain ⟨m_ear, f_m_ear, g_m_ear⟩ := hx_rf hT gm tt_10 (k := 22) (u := 59) rfl
  obtain ⟨F_ear, n_ear⟩ : ∃ g : Nat → Int32, hl1.2.1 m_ear = g := ⟨_, rfl⟩
  obtain ⟨m_hds, f_m_hds, g_m_hds⟩ := hx_rf hT gm tt_10 (k := 23) (u := 60) rfl
  obtain ⟨F_hds, n_hds⟩ : ∃ g : Nat → Int32, hl1.2.1 m_hds = g := ⟨_, rfl⟩
  obtain ⟨m_ord, f_m_ord, g_m_ord⟩ := hx_rf hT gm tt_10 (k := 48) (u := 83) rfl
  obtain ⟨F_ord, n_ord⟩ : ∃ g : Nat → Int32, hl1.2.1 m_ord = g := ⟨_, rfl⟩
  obtain ⟨m_wkl, f_m_wkl, g_m_wkl⟩ := hx_rf hT gm tt_10 (k := 54) (u := 89) rfl
  obtain ⟨F_wkl, n_wkl⟩ : ∃ g : Nat → Int32, hl1.2.1 m_wkl = g := ⟨_, rfl⟩
  obtain ⟨m_owd, f_m_owd, g_m_owd⟩ := hx_rf hT gm tt_10 (k := 55) (u := 90) rfl
  obtain ⟨F_owd, n_owd⟩ : ∃ g : Nat → Int32, hl1.2.1 m_owd = g := ⟨_, rfl⟩
  obtain ⟨m_gds, f_m_gds, g_m_gds⟩ := hx_rf hT gm tt_10 (k := 56) (u := 91) rfl
  obtain ⟨F_gds, n_gds⟩ : ∃ g : Nat → Int32, hl1.2.1 m_gds = g := ⟨_, rfl⟩
  obtain ⟨m_szd, f_m_szd, g_m_szd⟩ := hx_rf hT gm tt_10 (k := 49) (u := 84) rfl
  obtain ⟨F_szd, n_szd⟩ : ∃ g : Nat → Int32, hl1.2.1 m_szd = g := ⟨_, rfl⟩
  obtain ⟨m_srv, f_m_srv, g_m_srv⟩ := hx_rf hT gm tt_10 (k := 50) (u := 85) rfl
  obtain ⟨F_srv, n_srv⟩ : ∃ g : Nat → Int32, hl1.2.1 m_srv = g := ⟨_, rfl⟩
  have cl_bor : hx_col 40 hl1 qp 1 = F_bor := (hf_bor qp m_bor f_qp f_m_bor).trans n_bor
  have cl_kin : hx_col 40 hl1 qp 2 = F_kin := (hf_kin qp m_kin f_qp f_m_kin).trans n_kin
  have cl_sum : hx_col 100 hl1 qc 6 = F_sum := (hf_sum qc m_sum f_qc f_m_sum).trans n_sum
  have cl_fro : hx_col 100 hl1 qc 7 = F_fro := (hf_fro qc m_fro f_qc f_m_fro).trans n_fro
  have cl_fil : hx_col 100 hl1 qc 8 = F_fil := (hf_fil qc m_fil f_qc f_m_fil).trans n_fil
  have cl_hea : hx_col 100 hl1 qc 11 = F_mh := (hf_hea qc mh f_qc f_mh).trans n_mh
  have cl_jud : hx_col 100 hl1 qc 12 = F_jud := (hf_jud qc m_jud f_qc f_m_jud).trans n_jud
  have cl_ear : hx_col 40 hl1 qp 3 = F_ear := (hf_ear qp m_ear f_qp f_m_ear).trans n_ear
  have cl_hds : hx_col 40 hl1 qp 4 = F_hds := (hf_hds qp m_hds f_qp f_m_hds).trans n_hds
  have cl_ord : hx_col 100 hl1 qc 13 = F_ord := (hf_ord qc m_ord f_qc f_m_ord).trans n_ord
  have cl_wkl : hx_col 100 hl1 qc 14 = F_wkl := (hf_wkl qc m_wkl f_qc f_m_wkl).trans n_wkl
  have cl_owd : hx_col 100 hl1 qc 15 = F_owd := (hf_owd qc m_owd f_qc f_m_owd).trans n_owd
  have cl_gds : hx_col 100 hl1 qc 17 = F_gds := (hf_gds qc m_gds f_qc f_m_gds).trans n_gds
  have cl_szd : hx_col 100 hl1 qc 16 = F_szd := (hf_szd qc m_szd f_qc f_m_szd).trans n_szd
  have cl_srv : hx_col 100 hl1 qc 18 = F_srv := (hf_srv qc m_srv f_qc f_m_srv).trans n_srv
  have htb9 : ∀ c, c < 100 → 0 ≤ (c_tri c).toInt ∧ (c_tri c).toInt ≤ 512 := fun c hc => by rw [eq_tri c hc]; have w := hT.ei g_mt tt_80 (k := c) hc; rw [n_mt] at w; exact w
  have z_jud : F_jud c0.toInt.toNat = 0 := hx_num_z2 nu_qc cl_jud ?o6
  case o6 => omega
  have hDP := hkDP qc qp m_by f_qc f_qp f_m_by; rw [n_by, f_x_claimCount] at hDP
  have hHL := hkHL qh qc m_ho f_qh f_qc f_m_ho; rw [n_ho, f_x_heardCount, f_x_claimCount] at hHL
  have hHO9 := hkHO m_ho mh f_m_ho f_mh; rw [n_ho, n_mh, f_m_heardMany, f_m_claims] at hHO9
  obtain ⟨cF9L, hFX, hFR9⟩ := hkFX qc m_fc m_nt m_wt m_sum mh f_qc f_m_fc f_m_nt f_m_wt f_m_sum f_mh; rw [f_x_claimCount] at hFX; rw [n_fc, n_nt, n_wt, n_sum, n_mh, f_x_claimCount] at hFR9
  have hBX := hkBX qc m_be f_qc f_m_be; rw [n_be, f_x_claimCount] at hBX
  rw [n_ml, f_x_claimCount] at hAC9
  obtain ⟨y_p0, f_y_p0, g_y_p0⟩ := hx_rf hT g_qo_py tt_3 (k := 2) (u := 23) rfl
  obtain ⟨m_p0, f_m_p0, g_m_p0⟩ := hx_rf hT gm tt_10 (k := 60) (u := 93) rfl
  obtain ⟨F_p0, n_p0⟩ : ∃ g : Nat → Int32, hl1.2.1 m_p0 = g := ⟨_, rfl⟩
  have n_y_p0 : hl1.2.1 y_p0 = F_p0 := (hkP0 qo_py y_p0 m_p0 f_qo_py f_y_p0 f_m_p0).trans n_p0
  obtain ⟨y_p1, f_y_p1, g_y_p1⟩ := hx_rf hT g_qo_py tt_3 (k := 3) (u := 24) rfl
  obtain ⟨m_p1, f_m_p1, g_m_p1⟩ := hx_rf hT gm tt_10 (k := 61) (u := 94) rfl
  obtain ⟨F_p1, n_p1⟩ : ∃ g : Nat → Int32, hl1.2.1 m_p1 = g := ⟨_, rfl⟩
  have n_y_p1 : hl1.2.1 y_p1 = F_p1 := (hkP1 qo_py y_p1 m_p1 f_qo_py f_y_p1 f_m_p1).trans n_p1
  obtain ⟨y_p2, f_y_p2, g_y_p2⟩ := hx_rf hT g_qo_py tt_3 (k := 5) (u := 26) rfl
  obtain ⟨m_p2, f_m_p2, g_m_p2⟩ := hx_rf hT gm tt_10 (k := 62) (u := 95) rfl
  obtain ⟨F_p2, n_p2⟩ : ∃ g : Nat → Int32, hl1.2.1 m_p2 = g := ⟨_, rfl⟩
  have n_y_p2 : hl1.2.1 y_p2 = F_p2 := (hkP2 qo_py y_p2 m_p2 f_qo_py f_y_p2 f_m_p2).trans n_p2
  obtain ⟨y_p3, f_y_p3, g_y_p3⟩ := hx_rf hT g_qo_py tt_3 (k := 4) (u := 25) rfl
  obtain ⟨m_p3, f_m_p3, g_m_p3⟩ := hx_rf hT gm tt_10 (k := 63) (u := 96) rfl
  obtain ⟨F_p3, n_p3⟩ : ∃ g : Nat → Int32, hl1.2.1 m_p3 = g := ⟨_, rfl⟩
  have n_y_p3 : hl1.2.1 y_p3 = F_p3 := (hkP3 qo_py y_p3 m_p3 f_qo_py f_y_p3 f_m_p3).trans n_p3
  obtain ⟨y_p4, f_y_p4, g_y_p4⟩ := hx_rf hT g_qo_py tt_3 (k := 1) (u := 22) rfl
  obtain ⟨m_p4, f_m_p4, g_m_p4⟩ := hx_rf hT gm tt_10 (k := 64) (u := 97) rfl
  obtain ⟨F_p4, n_p4⟩ : ∃ g : Nat → Int32, hl1.2.1 m_p4 = g := ⟨_, rfl⟩
  have n_y_p4 : hl1.2.1 y_p4 = F_p4 := (hkP4 qo_py y_p4 m_p4 f_qo_py f_y_p4 f_m_p4).trans n_p4
  obtain ⟨qrg9, f_qrg9, g_qrg9⟩ := hx_rf hT gx tt_9 (k := 18) (u := 7) rfl
  obtain ⟨y_ls, f_y_ls, g_y_ls⟩ := hx_rf hT g_qrg9 tt_7 (k := 3) (u := 35) rfl
  obtain ⟨m_rl, f_m_rl, g_m_rl⟩ := hx_rf hT gm tt_10 (k := 85) (u := 109) rfl
  obtain ⟨F_y_ls, n_y_ls⟩ : ∃ g : Nat → Int32, hl1.2.1 y_ls = g := ⟨_, rfl⟩
  obtain ⟨F_m_rl, n_m_rl⟩ : ∃ g : Nat → Int32, hl1.2.1 m_rl = g := ⟨_, rfl⟩
  obtain ⟨fv_790, efv_790⟩ : ∃ y : Int32, y = hl1.2.1 qrg9 0 := ⟨_, rfl⟩
  have bfv_790 := hT.gi g_qrg9 tt_7 (k := 0) rfl
  rw [← efv_790] at bfv_790
  have bfv_790 : -1 ≤ fv_790.toInt ∧ fv_790.toInt ≤ 100 := bfv_790
  have ffv_790 := efv_790.symm
  obtain ⟨fv_791, efv_791⟩ : ∃ y : Int32, y = hl1.2.1 am 83 := ⟨_, rfl⟩
  have bfv_791 := hT.gi gm tt_10 (k := 83) rfl
  rw [← efv_791] at bfv_791
  have bfv_791 : 0 ≤ fv_791.toInt ∧ fv_791.toInt ≤ 1 := bfv_791
  have ffv_791 := efv_791.symm
  obtain ⟨fv_792, efv_792⟩ : ∃ y : Int32, y = hl1.2.1 am 84 := ⟨_, rfl⟩
  have bfv_792 := hT.gi gm tt_10 (k := 84) rfl
  rw [← efv_792] at bfv_792
  have bfv_792 : 0 ≤ fv_792.toInt ∧ fv_792.toInt ≤ 300 := bfv_792
  have ffv_792 := efv_792.symm
  have hNQ9 := hkNQ qrg9 f_qrg9; rw [ffv_790, ffv_791, ffv_792] at hNQ9
  have hRL9 := hkRL qrg9 y_ls m_rl f_qrg9 f_y_ls f_m_rl; rw [n_y_ls, n_m_rl, ffv_790] at hRL9
  have hCB : hz_CB F_ord F_wkl F_owd F_szd F_gds F_srv := fun c hc => ⟨by have w := hT.ei g_m_ord tt_83 (k := c) (by omega); rw [n_ord] at w; exact w, by have w := hT.ei g_m_wkl tt_89 (k := c) (by omega); rw [n_wkl] at w; exact w, by have w := hT.ei g_m_owd tt_90 (k := c) (by omega); rw [n_owd] at w; exact w, by have w := hT.ei g_m_szd tt_84 (k := c) (by omega); rw [n_szd] at w; exact w, by have w := hT.ei g_m_gds tt_91 (k := c) (by omega); rw [n_gds] at w; exact w, by have w := hT.ei g_m_srv tt_85 (k := c) (by omega); rw [n_srv] at w; exact w⟩
  have hps : ∀ j, j < 600 → 0 ≤ (F_p2 j).toInt ∧ (F_p2 j).toInt ≤ 610000 := fun j hj => by have w := hT.ei g_m_p2 tt_95 (k := j) (by omega); rw [n_p2] at w; exact w
  have hte9 : ∀ c : Nat, c < 100 → (0 ≤ (c_tri c).toInt ∧ (c_tri c).toInt ≤ 512) ∧ (0 ≤ (F_sum c).toInt ∧ (F_sum c).toInt ≤ 9999) := fun c hc => ⟨htb9 c hc, by have w := hT.ei g_m_sum tt_74 (k := c) (by omega); rw [n_sum] at w; exact w⟩
  have hee9 : ∀ c : Nat, c < 40 → (0 ≤ (F_ear c).toInt ∧ (F_ear c).toInt ≤ 9999) ∧ (0 ≤ (F_hds c).toInt ∧ (F_hds c).toInt ≤ 20) := fun c hc => ⟨by have w := hT.ei g_m_ear tt_59 (k := c) (by omega); rw [n_ear] at w; exact w, by have w := hT.ei g_m_hds tt_60 (k := c) (by omega); rw [n_hds] at w; exact w⟩
  have bAG9 : ∀ k, k < 100 → 0 ≤ (F_aga k).toInt ∧ (F_aga k).toInt ≤ 39 := fun k hk => by have w := hT.ei g_m_aga tt_73 (k := k) (by omega); rw [n_aga] at w; exact w
  have bBY9 : ∀ k, k < 100 → 0 ≤ (F_by k).toInt ∧ (F_by k).toInt ≤ 39 := fun k hk => by have w := hT.ei g_m_by tt_72 (k := k) (by omega); rw [n_by] at w; exact w
  have hag9 : ∀ c, c < c0.toInt.toNat → 0 ≤ (F_aga c).toInt ∧ (F_aga c).toInt < 40 ∧ 0 ≤ (F_by c).toInt ∧ (F_by c).toInt < 40 := fun c hc => by have a9 := bAG9 c (by omega); have b9 := bBY9 c (by omega); omega
  have z_wkl : F_wkl c0.toInt.toNat = 0 := hx_num_z2 nu_qc cl_wkl ?o7
  case o7 => omega
  have z_owd : F_owd c0.toInt.toNat = 0 := hx_num_z2 nu_qc cl_owd ?o8
  case o8 => omega
  have z_gds : F_gds c0.toInt.toNat = 0 := hx_num_z2 nu_qc cl_gds ?o9
  case o9 => omega
  have hwd := jw mw f_mw; rw [n_mw] at hwd
  have hWK := jr mr f_mr; rw [n_mr, f_m_acts] at hWK
  have hRP := jp mp mn f_mp f_mn; rw [n_mp, n_mn, f_m_acts] at hRP
  have hPL := jl ml f_ml; rw [n_ml, f_m_claims, f_m_acts] at hPL
  have hHC := jh mh f_mh; rw [n_mh, f_m_heardMany, f_m_claims] at hHC
  have hTR := jt mt f_mt; rw [n_mt] at hTR
  have hHF := jf mh m_fou f_mh f_m_fou; rw [n_mh, n_m_fou, f_m_claims] at hHF
  refine lv_aload_n hx hb dL_law_1208 rfl (lv_at hl 2 rfl) ?_
  refine lv_aload_n hx hb dL_law_1209 rfl (lv_at hl 3 rfl) ?_
  refine lv_iload_n hx hb dL_law_1210 rfl (lv_at hl 0 rfl) ?_
  refine lv_iconst (v := 1) hx hb dL_law_1211 ?o10 ?_
  case o10 => decide
  refine lv_iadd hx hb dL_law_1212 ?_
  have rg_793 := i32_r i
  refine lv_topi (fun x_794 ex_794 => ?_)
  have zx_794 : x_794.toInt = i.toInt + 1 := ?o11
  case o11 =>
    rw [ex_794]
    refine i32_add rfl ?o12 ?o13 ?o14
    case o12 => decide
    case o13 => omega
    case o14 => omega
  refine va_sld hx hb hX hbl hbA hW.2.2.2.1 (vp_in_iff.mpr ⟨?o15, ?o16⟩) dL_law_1213 ?_
  case o15 => omega
  case o16 => omega
  refine lv_topi (fun x_795 ex_795 => ?_)
  have hTo := hT
  refine hx_goi (hx_runV (As := [.int x_795]) (rest := []) ⟨hx, hb, hml, hown, hts⟩ hW gx tt_9 (T := TX9) (N := 20) rfl (t_X9_netted_v l dC dI dA L1 hl1 H.size ax x_795 hT gx qrg9 g_qrg9 f_qrg9 y_ls g_y_ls f_y_ls F_y_ls n_y_ls fv_790 ffv_790) (cwV 1 hts (hx_gV kw_1035 kw_1032 kw_1033 kw_1034 kw_94) rfl rfl rfl (by decide +kernel) ⟨Nat.le_of_ble_eq_true rfl, Nat.le_of_ble_eq_true rfl⟩) rfl hl.1 rfl (Nat.le_of_ble_eq_true rfl) dL_law_1214 ⟨(show CC + 0 ≤ 600000 from ?o17), (show SS + 0 ≤ 7302250 from ?o18)⟩) hW (fun r_798 L_796 h_797 H locs p_799 hW => ?_)
  case o17 => omega
  case o18 => omega
  obtain ⟨hr_800, hT, hs⟩ := p_799
  replace hT : hx_T T_tb L_796 h_797 := hT
  replace hs : hx_S T_tb [] L1 hl1 L_796 h_797 := hs
  replace f_qa := (hs.o gx trivial rfl).2.trans f_qa
  replace f_qp := (hs.o gx trivial rfl).2.trans f_qp
  replace f_qc := (hs.o gx trivial rfl).2.trans f_qc
  replace f_qh := (hs.o gx trivial rfl).2.trans f_qh
  replace f_qw := (hs.o gx trivial rfl).2.trans f_qw
  replace f_ql := (hs.o g_qw trivial rfl).2.trans f_ql
  replace f_m_now := (hs.o gm trivial rfl).1.trans f_m_now
  replace f_m_persons := (hs.o gm trivial rfl).1.trans f_m_persons
  replace f_m_claims := (hs.o gm trivial rfl).1.trans f_m_claims
  replace f_m_taped := (hs.o gm trivial rfl).1.trans f_m_taped
  replace f_m_acts := (hs.o gm trivial rfl).1.trans f_m_acts
  replace f_m_heardMany := (hs.o gm trivial rfl).1.trans f_m_heardMany
  replace f_m_lines := (hs.o gm trivial rfl).1.trans f_m_lines
  replace f_m_listed := (hs.o gm trivial rfl).1.trans f_m_listed
  replace f_m_walkedMany := (hs.o gm trivial rfl).1.trans f_m_walkedMany
  replace f_m_payments := (hs.o gm trivial rfl).1.trans f_m_payments
  replace f_x_now := (hs.o gx trivial rfl).1.trans f_x_now
  replace f_x_personCount := (hs.o gx trivial rfl).1.trans f_x_personCount
  replace f_x_claimCount := (hs.o gx trivial rfl).1.trans f_x_claimCount
  replace f_x_tapeLength := (hs.o gx trivial rfl).1.trans f_x_tapeLength
  replace f_x_actCount := (hs.o gx trivial rfl).1.trans f_x_actCount
  replace f_x_heardCount := (hs.o gx trivial rfl).1.trans f_x_heardCount
  replace f_mw := (hs.o gm trivial rfl).2.trans f_mw
  replace f_mr := (hs.o gm trivial rfl).2.trans f_mr
  replace f_mp := (hs.o gm trivial rfl).2.trans f_mp
  replace f_mn := (hs.o gm trivial rfl).2.trans f_mn
  replace f_ml := (hs.o gm trivial rfl).2.trans f_ml
  replace f_mh := (hs.o gm trivial rfl).2.trans f_mh
  replace f_mt := (hs.o gm trivial rfl).2.trans f_mt
  replace f_m_fou := (hs.o gm trivial rfl).2.trans f_m_fou
  replace f_qo_ln := (hs.o gx trivial rfl).2.trans f_qo_ln
  replace f_o_ln := (hs.o g_qo_ln trivial rfl).1.trans f_o_ln
  replace f_o_lsd := (hs.o g_qw trivial rfl).1.trans f_o_lsd
  replace f_o_wkm := (hs.o g_qw trivial rfl).1.trans f_o_wkm
  replace f_qo_py := (hs.o gx trivial rfl).2.trans f_qo_py
  replace f_o_py := (hs.o g_qo_py trivial rfl).1.trans f_o_py
  replace f_b_of := (hs.o g_qo_ln trivial rfl).2.trans f_b_of
  replace f_m_of := (hs.o gm trivial rfl).2.trans f_m_of
  replace f_b_wf := (hs.o g_qo_ln trivial rfl).2.trans f_b_wf
  replace f_m_wf := (hs.o gm trivial rfl).2.trans f_m_wf
  replace f_b_df := (hs.o g_qo_ln trivial rfl).2.trans f_b_df
  replace f_m_df := (hs.o gm trivial rfl).2.trans f_m_df
  replace f_b_kf := (hs.o g_qo_ln trivial rfl).2.trans f_b_kf
  replace f_m_kf := (hs.o gm trivial rfl).2.trans f_m_kf
  replace f_b_sf := (hs.o g_qo_ln trivial rfl).2.trans f_b_sf
  replace f_m_sf := (hs.o gm trivial rfl).2.trans f_m_sf
  replace f_b_bf := (hs.o g_qo_ln trivial rfl).2.trans f_b_bf
  replace f_m_lst := (hs.o gm trivial rfl).2.trans f_m_lst
  replace f_qtp := (hs.o gx trivial rfl).2.trans f_qtp
  replace f_m_tp := (hs.o gm trivial rfl).2.trans f_m_tp
  replace f_m_dead := (hs.o gm trivial rfl).2.trans f_m_dead
  replace f_m_isj := (hs.o gm trivial rfl).2.trans f_m_isj
  replace f_m_dox := (hs.o gm trivial rfl).2.trans f_m_dox
  replace f_m_doy := (hs.o gm trivial rfl).2.trans f_m_doy
  replace f_qlt := (hs.o g_qw trivial rfl).2.trans f_qlt
  replace f_qlf := (hs.o g_qw trivial rfl).2.trans f_qlf
  replace f_m_wkd := (hs.o gm trivial rfl).2.trans f_m_wkd
  replace f_m_aga := (hs.o gm trivial rfl).2.trans f_m_aga
  replace f_qwo := (hs.o gx trivial rfl).2.trans f_qwo
  replace f_m_ad := (hs.o gm trivial rfl).2.trans f_m_ad
  replace f_m_by := (hs.o gm trivial rfl).2.trans f_m_by
  replace f_m_ho := (hs.o gm trivial rfl).2.trans f_m_ho
  replace f_m_fc := (hs.o gm trivial rfl).2.trans f_m_fc
  replace f_m_nt := (hs.o gm trivial rfl).2.trans f_m_nt
  replace f_m_wt := (hs.o gm trivial rfl).2.trans f_m_wt
  replace f_m_be := (hs.o gm trivial rfl).2.trans f_m_be
  replace f_m_bor := (hs.o gm trivial rfl).2.trans f_m_bor
  replace f_m_kin := (hs.o gm trivial rfl).2.trans f_m_kin
  replace f_m_sum := (hs.o gm trivial rfl).2.trans f_m_sum
  replace f_m_fro := (hs.o gm trivial rfl).2.trans f_m_fro
  replace f_m_fil := (hs.o gm trivial rfl).2.trans f_m_fil
  replace f_m_jud := (hs.o gm trivial rfl).2.trans f_m_jud
  replace f_m_ear := (hs.o gm trivial rfl).2.trans f_m_ear
  replace f_m_hds := (hs.o gm trivial rfl).2.trans f_m_hds
  replace f_m_ord := (hs.o gm trivial rfl).2.trans f_m_ord
  replace f_m_wkl := (hs.o gm trivial rfl).2.trans f_m_wkl
  replace f_m_owd := (hs.o gm trivial rfl).2.trans f_m_owd
  replace f_m_gds := (hs.o gm trivial rfl).2.trans f_m_gds
  replace f_m_szd := (hs.o gm trivial rfl).2.trans f_m_szd
  replace f_m_srv := (hs.o gm trivial rfl).2.trans f_m_srv
  replace f_y_p0 := (hs.o g_qo_py trivial rfl).2.trans f_y_p0
  replace f_m_p0 := (hs.o gm trivial rfl).2.trans f_m_p0
  replace f_y_p1 := (hs.o g_qo_py trivial rfl).2.trans f_y_p1
  replace f_m_p1 := (hs.o gm trivial rfl).2.trans f_m_p1
  replace f_y_p2 := (hs.o g_qo_py trivial rfl).2.trans f_y_p2
  replace f_m_p2 := (hs.o gm trivial rfl).2.trans f_m_p2
  replace f_y_p3 := (hs.o g_qo_py trivial rfl).2.trans f_y_p3
  replace f_m_p3 := (hs.o gm trivial rfl).2.trans f_m_p3
  replace f_y_p4 := (hs.o g_qo_py trivial rfl).2.trans f_y_p4
  replace f_m_p4 := (hs.o gm trivial rfl).2.trans f_m_p4
  replace f_qrg9 := (hs.o gx trivial rfl).2.trans f_qrg9
  replace f_y_ls := (hs.o g_qrg9 trivial rfl).2.trans f_y_ls
  replace f_m_rl := (hs.o gm trivial rfl).2.trans f_m_rl
  replace ffv_790 := (hs.o g_qrg9 trivial rfl).1.trans ffv_790
  replace ffv_791 := (hs.o gm trivial rfl).1.trans ffv_791
  replace ffv_792 := (hs.o gm trivial rfl).1.trans ffv_792
  replace pf_qa : ∀ j : Nat, (j : Int) < (h_797.2.1 ax 6).toInt → h_797.2.2 qa j ≠ none := by
    intro j hj; rw [(hs.o gx trivial rfl).1] at hj; rw [(hs.a g_qa rfl j).2]; exact pf_qa j hj
  replace pf_qp : ∀ j : Nat, (j : Int) < (h_797.2.1 ax 8).toInt → h_797.2.2 qp j ≠ none := by
    intro j hj; rw [(hs.o gx trivial rfl).1] at hj; rw [(hs.a g_qp rfl j).2]; exact pf_qp j hj
  replace pf_qc : ∀ j : Nat, (j : Int) < (h_797.2.1 ax 11).toInt → h_797.2.2 qc j ≠ none := by
    intro j hj; rw [(hs.o gx trivial rfl).1] at hj; rw [(hs.a g_qc rfl j).2]; exact pf_qc j hj
  replace pf_qh : ∀ j : Nat, (j : Int) < (h_797.2.1 ax 13).toInt → h_797.2.2 qh j ≠ none := by
    intro j hj; rw [(hs.o gx trivial rfl).1] at hj; rw [(hs.a g_qh rfl j).2]; exact pf_qh j hj
  replace pf_ql : ∀ j : Nat, (j : Int) < (h_797.2.1 qw 0).toInt → h_797.2.2 ql j ≠ none := by
    intro j hj; rw [(hs.o g_qw trivial rfl).1] at hj; rw [(hs.a g_ql rfl j).2]; exact pf_ql j hj
  replace cl_lst : hx_col 8 h_797 ql 0 = c_lst := (hx_col_S hs hTo g_ql tt_40 tt_2 rfl rfl).trans cl_lst
  replace cl_dead : hx_col 40 h_797 qp 7 = c_dead := (hx_col_S hs hTo g_qp tt_44 tt_4 rfl rfl).trans cl_dead
  replace cl_isj : hx_col 40 h_797 qp 8 = c_isj := (hx_col_S hs hTo g_qp tt_44 tt_4 rfl rfl).trans cl_isj
  replace cl_dox : hx_col 40 h_797 qp 5 = c_dox := (hx_col_S hs hTo g_qp tt_44 tt_4 rfl rfl).trans cl_dox
  replace cl_doy : hx_col 40 h_797 qp 6 = c_doy := (hx_col_S hs hTo g_qp tt_44 tt_4 rfl rfl).trans cl_doy
  replace cl_fou : hx_col 100 h_797 qc 10 = c_fou := (hx_col_S hs hTo g_qc tt_45 tt_2 rfl rfl).trans cl_fou
  replace cl_tri : hx_col 100 h_797 qc 9 = c_tri := (hx_col_S hs hTo g_qc tt_45 tt_2 rfl rfl).trans cl_tri
  replace cl_bor : hx_col 40 h_797 qp 1 = F_bor := (hx_col_S hs hTo g_qp tt_44 tt_4 rfl rfl).trans cl_bor
  replace cl_kin : hx_col 40 h_797 qp 2 = F_kin := (hx_col_S hs hTo g_qp tt_44 tt_4 rfl rfl).trans cl_kin
  replace cl_sum : hx_col 100 h_797 qc 6 = F_sum := (hx_col_S hs hTo g_qc tt_45 tt_2 rfl rfl).trans cl_sum
  replace cl_fro : hx_col 100 h_797 qc 7 = F_fro := (hx_col_S hs hTo g_qc tt_45 tt_2 rfl rfl).trans cl_fro
  replace cl_fil : hx_col 100 h_797 qc 8 = F_fil := (hx_col_S hs hTo g_qc tt_45 tt_2 rfl rfl).trans cl_fil
  replace cl_hea : hx_col 100 h_797 qc 11 = F_mh := (hx_col_S hs hTo g_qc tt_45 tt_2 rfl rfl).trans cl_hea
  replace cl_jud : hx_col 100 h_797 qc 12 = F_jud := (hx_col_S hs hTo g_qc tt_45 tt_2 rfl rfl).trans cl_jud
  replace cl_ear : hx_col 40 h_797 qp 3 = F_ear := (hx_col_S hs hTo g_qp tt_44 tt_4 rfl rfl).trans cl_ear
  replace cl_hds : hx_col 40 h_797 qp 4 = F_hds := (hx_col_S hs hTo g_qp tt_44 tt_4 rfl rfl).trans cl_hds
  replace cl_ord : hx_col 100 h_797 qc 13 = F_ord := (hx_col_S hs hTo g_qc tt_45 tt_2 rfl rfl).trans cl_ord
  replace cl_wkl : hx_col 100 h_797 qc 14 = F_wkl := (hx_col_S hs hTo g_qc tt_45 tt_2 rfl rfl).trans cl_wkl
  replace cl_owd : hx_col 100 h_797 qc 15 = F_owd := (hx_col_S hs hTo g_qc tt_45 tt_2 rfl rfl).trans cl_owd
  replace cl_gds : hx_col 100 h_797 qc 17 = F_gds := (hx_col_S hs hTo g_qc tt_45 tt_2 rfl rfl).trans cl_gds
  replace cl_szd : hx_col 100 h_797 qc 16 = F_szd := (hx_col_S hs hTo g_qc tt_45 tt_2 rfl rfl).trans cl_szd
  replace cl_srv : hx_col 100 h_797 qc 18 = F_srv := (hx_col_S hs hTo g_qc tt_45 tt_2 rfl rfl).trans cl_srv
  replace nu_qp : hx_num 40 h_797 qp 0 (np.toInt) := hx_num_S hs hTo g_qp tt_44 tt_4 rfl rfl nu_qp
  replace nu_qc : hx_num 100 h_797 qc 0 (c0.toInt) := hx_num_S hs hTo g_qc tt_45 tt_2 rfl rfl nu_qc
  replace sb_list : hx_LQ 8 100 h_797 ql qc := hx_LQ_S hs g_ql g_qc rfl rfl sb_list
  replace hDF : hw_DF h_797 qc qp 2 F_aga c0.toInt := hw_DF_S hs hTo g_qc g_qp tt_45 tt_2 rfl rfl rfl hDF
  replace hRA9 : hv_RA h_797 qa qwo a0.toInt A9 := hv_RA_S hs hTo g_qa g_qwo tt_43 tt_0 rfl rfl rfl rfl rfl rfl ?o19 hRA9
  case o19 => omega
  replace hDP : hw_DF h_797 qc qp 1 F_by c0.toInt := hw_DF_S hs hTo g_qc g_qp tt_45 tt_2 rfl rfl rfl hDP
  replace hAC9 : hv_AC h_797 qc F_ml c0.toInt A9 := hv_AC_S hs hTo g_qc tt_45 tt_2 rfl tt_0 rfl rfl rfl rfl rfl rfl rfl hAC9
  replace hFX : hv_FX 8 4 h_797 qc cF9L c0.toInt := hv_FX_S hs hTo g_qc tt_45 tt_2 rfl rfl rfl rfl hFX
  replace hBX : hv_FX 3 5 h_797 qc F_be c0.toInt := hv_FX_S hs hTo g_qc tt_45 tt_2 rfl rfl rfl rfl hBX
  replace hHL : hv_HL h_797 qh qc F_ho m0.toInt c0.toInt := hv_HL_S hs g_qh g_qc rfl rfl hHL
  replace n_mw : h_797.2.1 mw = F_mw := (funext fun j => (hs.a g_mw rfl j).1).trans n_mw
  replace n_mr : h_797.2.1 mr = F_mr := (funext fun j => (hs.a g_mr rfl j).1).trans n_mr
  replace n_mp : h_797.2.1 mp = F_mp := (funext fun j => (hs.a g_mp rfl j).1).trans n_mp
  replace n_mn : h_797.2.1 mn = F_mn := (funext fun j => (hs.a g_mn rfl j).1).trans n_mn
  replace n_ml : h_797.2.1 ml = F_ml := (funext fun j => (hs.a g_ml rfl j).1).trans n_ml
  replace n_mh : h_797.2.1 mh = F_mh := (funext fun j => (hs.a g_mh rfl j).1).trans n_mh
  replace n_mt : h_797.2.1 mt = F_mt := (funext fun j => (hs.a g_mt rfl j).1).trans n_mt
  replace n_m_fou : h_797.2.1 m_fou = F_m_fou := (funext fun j => (hs.a g_m_fou rfl j).1).trans n_m_fou
  replace n_b_of : h_797.2.1 b_of = B_of := (funext fun j => (hs.a g_b_of rfl j).1).trans n_b_of
  replace n_m_of : h_797.2.1 m_of = F_of := (funext fun j => (hs.a g_m_of rfl j).1).trans n_m_of
  replace n_b_wf : h_797.2.1 b_wf = B_wf := (funext fun j => (hs.a g_b_wf rfl j).1).trans n_b_wf
  replace n_m_wf : h_797.2.1 m_wf = F_wf := (funext fun j => (hs.a g_m_wf rfl j).1).trans n_m_wf
  replace n_b_df : h_797.2.1 b_df = B_df := (funext fun j => (hs.a g_b_df rfl j).1).trans n_b_df
  replace n_m_df : h_797.2.1 m_df = F_df := (funext fun j => (hs.a g_m_df rfl j).1).trans n_m_df
  replace n_b_kf : h_797.2.1 b_kf = B_kf := (funext fun j => (hs.a g_b_kf rfl j).1).trans n_b_kf
  replace n_m_kf : h_797.2.1 m_kf = F_kf := (funext fun j => (hs.a g_m_kf rfl j).1).trans n_m_kf
  replace n_b_sf : h_797.2.1 b_sf = B_sf := (funext fun j => (hs.a g_b_sf rfl j).1).trans n_b_sf
  replace n_m_sf : h_797.2.1 m_sf = F_sf := (funext fun j => (hs.a g_m_sf rfl j).1).trans n_m_sf
  replace n_b_bf : h_797.2.1 b_bf = bfL := (funext fun j => (hs.a g_b_bf rfl j).1).trans n_b_bf
  replace n_lst : h_797.2.1 m_lst = F_lst := (funext fun j => (hs.a g_m_lst rfl j).1).trans n_lst
  replace n_tp : h_797.2.1 m_tp = F_tp := (funext fun j => (hs.a g_m_tp rfl j).1).trans n_tp
  replace n_qtp : h_797.2.1 qtp = F_tp := (funext fun j => (hs.a g_qtp rfl j).1).trans n_qtp
  replace n_dead : h_797.2.1 m_dead = F_dead := (funext fun j => (hs.a g_m_dead rfl j).1).trans n_dead
  replace n_isj : h_797.2.1 m_isj = F_isj := (funext fun j => (hs.a g_m_isj rfl j).1).trans n_isj
  replace n_dox : h_797.2.1 m_dox = F_dox := (funext fun j => (hs.a g_m_dox rfl j).1).trans n_dox
  replace n_doy : h_797.2.1 m_doy = F_doy := (funext fun j => (hs.a g_m_doy rfl j).1).trans n_doy
  replace n_qlt : h_797.2.1 qlt = F_qlt := (funext fun j => (hs.a g_qlt rfl j).1).trans n_qlt
  replace n_m_wkd : h_797.2.1 m_wkd = F_m_wkd := (funext fun j => (hs.a g_m_wkd rfl j).1).trans n_m_wkd
  replace n_aga : h_797.2.1 m_aga = F_aga := (funext fun j => (hs.a g_m_aga rfl j).1).trans n_aga
  replace n_ad : h_797.2.1 m_ad = F_ad := (funext fun j => (hs.a g_m_ad rfl j).1).trans n_ad
  replace n_by : h_797.2.1 m_by = F_by := (funext fun j => (hs.a g_m_by rfl j).1).trans n_by
  replace n_ho : h_797.2.1 m_ho = F_ho := (funext fun j => (hs.a g_m_ho rfl j).1).trans n_ho
  replace n_fc : h_797.2.1 m_fc = F_fc := (funext fun j => (hs.a g_m_fc rfl j).1).trans n_fc
  replace n_nt : h_797.2.1 m_nt = F_nt := (funext fun j => (hs.a g_m_nt rfl j).1).trans n_nt
  replace n_wt : h_797.2.1 m_wt = F_wt := (funext fun j => (hs.a g_m_wt rfl j).1).trans n_wt
  replace n_be : h_797.2.1 m_be = F_be := (funext fun j => (hs.a g_m_be rfl j).1).trans n_be
  replace n_bor : h_797.2.1 m_bor = F_bor := (funext fun j => (hs.a g_m_bor rfl j).1).trans n_bor
  replace n_kin : h_797.2.1 m_kin = F_kin := (funext fun j => (hs.a g_m_kin rfl j).1).trans n_kin
  replace n_sum : h_797.2.1 m_sum = F_sum := (funext fun j => (hs.a g_m_sum rfl j).1).trans n_sum
  replace n_fro : h_797.2.1 m_fro = F_fro := (funext fun j => (hs.a g_m_fro rfl j).1).trans n_fro
  replace n_fil : h_797.2.1 m_fil = F_fil := (funext fun j => (hs.a g_m_fil rfl j).1).trans n_fil
  replace n_jud : h_797.2.1 m_jud = F_jud := (funext fun j => (hs.a g_m_jud rfl j).1).trans n_jud
  replace n_ear : h_797.2.1 m_ear = F_ear := (funext fun j => (hs.a g_m_ear rfl j).1).trans n_ear
  replace n_hds : h_797.2.1 m_hds = F_hds := (funext fun j => (hs.a g_m_hds rfl j).1).trans n_hds
  replace n_ord : h_797.2.1 m_ord = F_ord := (funext fun j => (hs.a g_m_ord rfl j).1).trans n_ord
  replace n_wkl : h_797.2.1 m_wkl = F_wkl := (funext fun j => (hs.a g_m_wkl rfl j).1).trans n_wkl
  replace n_owd : h_797.2.1 m_owd = F_owd := (funext fun j => (hs.a g_m_owd rfl j).1).trans n_owd
  replace n_gds : h_797.2.1 m_gds = F_gds := (funext fun j => (hs.a g_m_gds rfl j).1).trans n_gds
  replace n_szd : h_797.2.1 m_szd = F_szd := (funext fun j => (hs.a g_m_szd rfl j).1).trans n_szd
  replace n_srv : h_797.2.1 m_srv = F_srv := (funext fun j => (hs.a g_m_srv rfl j).1).trans n_srv
  replace n_p0 : h_797.2.1 m_p0 = F_p0 := (funext fun j => (hs.a g_m_p0 rfl j).1).trans n_p0
  replace n_y_p0 : h_797.2.1 y_p0 = F_p0 := (funext fun j => (hs.a g_y_p0 rfl j).1).trans n_y_p0
  replace n_p1 : h_797.2.1 m_p1 = F_p1 := (funext fun j => (hs.a g_m_p1 rfl j).1).trans n_p1
  replace n_y_p1 : h_797.2.1 y_p1 = F_p1 := (funext fun j => (hs.a g_y_p1 rfl j).1).trans n_y_p1
  replace n_p2 : h_797.2.1 m_p2 = F_p2 := (funext fun j => (hs.a g_m_p2 rfl j).1).trans n_p2
  replace n_y_p2 : h_797.2.1 y_p2 = F_p2 := (funext fun j => (hs.a g_y_p2 rfl j).1).trans n_y_p2
  replace n_p3 : h_797.2.1 m_p3 = F_p3 := (funext fun j => (hs.a g_m_p3 rfl j).1).trans n_p3
  replace n_y_p3 : h_797.2.1 y_p3 = F_p3 := (funext fun j => (hs.a g_y_p3 rfl j).1).trans n_y_p3
  replace n_p4 : h_797.2.1 m_p4 = F_p4 := (funext fun j => (hs.a g_m_p4 rfl j).1).trans n_p4
  replace n_y_p4 : h_797.2.1 y_p4 = F_p4 := (funext fun j => (hs.a g_y_p4 rfl j).1).trans n_y_p4
  replace n_y_ls : h_797.2.1 y_ls = F_y_ls := (funext fun j => (hs.a g_y_ls rfl j).1).trans n_y_ls
  replace n_m_rl : h_797.2.1 m_rl = F_m_rl := (funext fun j => (hs.a g_m_rl rfl j).1).trans n_m_rl
  replace gx := gx.S hs
  replace gm := gm.S hs
  replace g_qa := g_qa.S hs
  replace g_qp := g_qp.S hs
  replace g_qc := g_qc.S hs
  replace g_qh := g_qh.S hs
  replace g_qw := g_qw.S hs
  replace g_ql := g_ql.S hs
  replace g_mw := g_mw.S hs
  replace g_mr := g_mr.S hs
  replace g_mp := g_mp.S hs
  replace g_mn := g_mn.S hs
  replace g_ml := g_ml.S hs
  replace g_mh := g_mh.S hs
  replace g_mt := g_mt.S hs
  replace g_m_fou := g_m_fou.S hs
  replace g_qo_ln := g_qo_ln.S hs
  replace g_qo_py := g_qo_py.S hs
  replace g_b_of := g_b_of.S hs
  replace g_m_of := g_m_of.S hs
  replace g_b_wf := g_b_wf.S hs
  replace g_m_wf := g_m_wf.S hs
  replace g_b_df := g_b_df.S hs
  replace g_m_df := g_m_df.S hs
  replace g_b_kf := g_b_kf.S hs
  replace g_m_kf := g_m_kf.S hs
  replace g_b_sf := g_b_sf.S hs
  replace g_m_sf := g_m_sf.S hs
  replace g_b_bf := g_b_bf.S hs
  replace g_m_lst := g_m_lst.S hs
  replace g_qtp := g_qtp.S hs
  replace g_m_tp := g_m_tp.S hs
  replace g_m_dead := g_m_dead.S hs
  replace g_m_isj := g_m_isj.S hs
  replace g_m_dox := g_m_dox.S hs
  replace g_m_doy := g_m_doy.S hs
  replace g_qlt := g_qlt.S hs
  replace g_qlf := g_qlf.S hs
  replace g_m_wkd := g_m_wkd.S hs
  replace g_m_aga := g_m_aga.S hs
  replace g_qwo := g_qwo.S hs
  replace g_m_ad := g_m_ad.S hs
  replace g_m_by := g_m_by.S hs
  replace g_m_ho := g_m_ho.S hs
  replace g_m_fc := g_m_fc.S hs
  replace g_m_nt := g_m_nt.S hs
  replace g_m_wt := g_m_wt.S hs
  replace g_m_be := g_m_be.S hs
  replace g_m_bor := g_m_bor.S hs
  replace g_m_kin := g_m_kin.S hs
  replace g_m_sum := g_m_sum.S hs
  replace g_m_fro := g_m_fro.S hs
  replace g_m_fil := g_m_fil.S hs
  replace g_m_jud := g_m_jud.S hs
  replace g_m_ear := g_m_ear.S hs
  replace g_m_hds := g_m_hds.S hs
  replace g_m_ord := g_m_ord.S hs
  replace g_m_wkl := g_m_wkl.S hs
  replace g_m_owd := g_m_owd.S hs
  replace g_m_gds := g_m_gds.S hs
  replace g_m_szd := g_m_szd.S hs
  replace g_m_srv := g_m_srv.S hs
  replace g_y_p0 := g_y_p0.S hs
  replace g_m_p0 := g_m_p0.S hs
  replace g_y_p1 := g_y_p1.S hs
  replace g_m_p1 := g_m_p1.S hs
  replace g_y_p2 := g_y_p2.S hs
  replace g_m_p2 := g_m_p2.S hs
  replace g_y_p3 := g_y_p3.S hs
  replace g_m_p3 := g_m_p3.S hs
  replace g_y_p4 := g_y_p4.S hs
  replace g_m_p4 := g_m_p4.S hs
  replace g_qrg9 := g_qrg9.S hs
  replace g_y_ls := g_y_ls.S hs
  replace g_m_rl := g_m_rl.S hs
  refine lv_pop hx hb dL_law_1217 rfl ?_
  refine lv_aload_n hx hb dL_law_1218 rfl (lv_at hl 1 rfl) ?_
  refine lv_aload_n hx hb dL_law_1219 rfl (lv_at hl 3 rfl) ?_
  refine lv_iload_n hx hb dL_law_1220 rfl (lv_at hl 0 rfl) ?_
  refine lv_iconst (v := 1) hx hb dL_law_1221 ?o20 ?_
  case o20 => decide
  refine lv_iadd hx hb dL_law_1222 ?_
  refine lv_topi (fun x_801 ex_801 => ?_)
  have zx_801 : x_801.toInt = i.toInt + 1 := ?o21
  case o21 =>
    rw [ex_801]
    refine i32_add rfl ?o22 ?o23 ?o24
    case o22 => decide
    case o23 => omega
    case o24 => omega
  obtain rfl : x_794 = x_801 := ex_794.trans ex_801.symm
  refine va_sld hx hb hX hbl hbA hW.2.2.2.1 (vp_in_iff.mpr ⟨?o25, ?o26⟩) dL_law_1223 ?_
  case o25 => omega
  case o26 => omega
  refine lv_topi (fun x_802 ex_802 => ?_)
  obtain rfl : x_795 = x_802 := ex_795.trans ex_802.symm
  have hTo := hT
  refine hx_goi (hx_runV (As := [.int x_795]) (rest := []) ⟨hx, hb, hml, hown, hts⟩ hW gm tt_10 (T := TX10) (N := 98) rfl (t_X10_netted_v l dC dI dA L_796 h_797 H.size am x_795 hT gm m_rl g_m_rl f_m_rl F_m_rl n_m_rl fv_791 ffv_791 fv_792 ffv_792) (cwV 1 hts (hx_gV kw_1713 kw_1710 kw_1711 kw_1712 kw_103) rfl rfl rfl (by decide +kernel) ⟨Nat.le_of_ble_eq_true rfl, Nat.le_of_ble_eq_true rfl⟩) rfl hl.1 rfl (Nat.le_of_ble_eq_true rfl) dL_law_1224 ⟨(show CC + 0 + 0 ≤ 600000 from ?o27), (show SS + 0 + 0 ≤ 7302250 from ?o28)⟩) hW (fun r_805 L_803 h_804 H locs p_806 hW => ?_)
  case o27 => omega
  case o28 => omega
  obtain ⟨hr_807, hT, hs⟩ := p_806
  replace hT : hx_T T_tb L_803 h_804 := hT
  replace hs : hx_S T_tb [] L_796 h_797 L_803 h_804 := hs
  replace f_qa := (hs.o gx trivial rfl).2.trans f_qa
  replace f_qp := (hs.o gx trivial rfl).2.trans f_qp
  replace f_qc := (hs.o gx trivial rfl).2.trans f_qc
  replace f_qh := (hs.o gx trivial rfl).2.trans f_qh
  replace f_qw := (hs.o gx trivial rfl).2.trans f_qw
  replace f_ql := (hs.o g_qw trivial rfl).2.trans f_ql
  replace f_m_now := (hs.o gm trivial rfl).1.trans f_m_now
  replace f_m_persons := (hs.o gm trivial rfl).1.trans f_m_persons
  replace f_m_claims := (hs.o gm trivial rfl).1.trans f_m_claims
  replace f_m_taped := (hs.o gm trivial rfl).1.trans f_m_taped
  replace f_m_acts := (hs.o gm trivial rfl).1.trans f_m_acts
  replace f_m_heardMany := (hs.o gm trivial rfl).1.trans f_m_heardMany
  replace f_m_lines := (hs.o gm trivial rfl).1.trans f_m_lines
  replace f_m_listed := (hs.o gm trivial rfl).1.trans f_m_listed
  replace f_m_walkedMany := (hs.o gm trivial rfl).1.trans f_m_walkedMany
  replace f_m_payments := (hs.o gm trivial rfl).1.trans f_m_payments
  replace f_x_now := (hs.o gx trivial rfl).1.trans f_x_now
  replace f_x_personCount := (hs.o gx trivial rfl).1.trans f_x_personCount
  replace f_x_claimCount := (hs.o gx trivial rfl).1.trans f_x_claimCount
  replace f_x_tapeLength := (hs.o gx trivial rfl).1.trans f_x_tapeLength
  replace f_x_actCount := (hs.o gx trivial rfl).1.trans f_x_actCount
  replace f_x_heardCount := (hs.o gx trivial rfl).1.trans f_x_heardCount
  replace f_mw := (hs.o gm trivial rfl).2.trans f_mw
  replace f_mr := (hs.o gm trivial rfl).2.trans f_mr
  replace f_mp := (hs.o gm trivial rfl).2.trans f_mp
  replace f_mn := (hs.o gm trivial rfl).2.trans f_mn
  replace f_ml := (hs.o gm trivial rfl).2.trans f_ml
  replace f_mh := (hs.o gm trivial rfl).2.trans f_mh
  replace f_mt := (hs.o gm trivial rfl).2.trans f_mt
  replace f_m_fou := (hs.o gm trivial rfl).2.trans f_m_fou
  replace f_qo_ln := (hs.o gx trivial rfl).2.trans f_qo_ln
  replace f_o_ln := (hs.o g_qo_ln trivial rfl).1.trans f_o_ln
  replace f_o_lsd := (hs.o g_qw trivial rfl).1.trans f_o_lsd
  replace f_o_wkm := (hs.o g_qw trivial rfl).1.trans f_o_wkm
  replace f_qo_py := (hs.o gx trivial rfl).2.trans f_qo_py
  replace f_o_py := (hs.o g_qo_py trivial rfl).1.trans f_o_py
  replace f_b_of := (hs.o g_qo_ln trivial rfl).2.trans f_b_of
  replace f_m_of := (hs.o gm trivial rfl).2.trans f_m_of
  replace f_b_wf := (hs.o g_qo_ln trivial rfl).2.trans f_b_wf
  replace f_m_wf := (hs.o gm trivial rfl).2.trans f_m_wf
  replace f_b_df := (hs.o g_qo_ln trivial rfl).2.trans f_b_df
  replace f_m_df := (hs.o gm trivial rfl).2.trans f_m_df
  replace f_b_kf := (hs.o g_qo_ln trivial rfl).2.trans f_b_kf
  replace f_m_kf := (hs.o gm trivial rfl).2.trans f_m_kf
  replace f_b_sf := (hs.o g_qo_ln trivial rfl).2.trans f_b_sf
  replace f_m_sf := (hs.o gm trivial rfl).2.trans f_m_sf
  replace f_b_bf := (hs.o g_qo_ln trivial rfl).2.trans f_b_bf
  replace f_m_lst := (hs.o gm trivial rfl).2.trans f_m_lst
  replace f_qtp := (hs.o gx trivial rfl).2.trans f_qtp
  replace f_m_tp := (hs.o gm trivial rfl).2.trans f_m_tp
  replace f_m_dead := (hs.o gm trivial rfl).2.trans f_m_dead
  replace f_m_isj := (hs.o gm trivial rfl).2.trans f_m_isj
  replace f_m_dox := (hs.o gm trivial rfl).2.trans f_m_dox
  replace f_m_doy := (hs.o gm trivial rfl).2.trans f_m_doy
  replace f_qlt := (hs.o g_qw trivial rfl).2.trans f_qlt
  replace f_qlf := (hs.o g_qw trivial rfl).2.trans f_qlf
  replace f_m_wkd := (hs.o gm trivial rfl).2.trans f_m_wkd
  replace f_m_aga := (hs.o gm trivial rfl).2.trans f_m_aga
  replace f_qwo := (hs.o gx trivial rfl).2.trans f_qwo
  replace f_m_ad := (hs.o gm trivial rfl).2.trans f_m_ad
  replace f_m_by := (hs.o gm trivial rfl).2.trans f_m_by
  replace f_m_ho := (hs.o gm trivial rfl).2.trans f_m_ho
  replace f_m_fc := (hs.o gm trivial rfl).2.trans f_m_fc
  replace f_m_nt := (hs.o gm trivial rfl).2.trans f_m_nt
  replace f_m_wt := (hs.o gm trivial rfl).2.trans f_m_wt
  replace f_m_be := (hs.o gm trivial rfl).2.trans f_m_be
  replace f_m_bor := (hs.o gm trivial rfl).2.trans f_m_bor
  replace f_m_kin := (hs.o gm trivial rfl).2.trans f_m_kin
  replace f_m_sum := (hs.o gm trivial rfl).2.trans f_m_sum
  replace f_m_fro := (hs.o gm trivial rfl).2.trans f_m_fro
  replace f_m_fil := (hs.o gm trivial rfl).2.trans f_m_fil
  replace f_m_jud := (hs.o gm trivial rfl).2.trans f_m_jud
  replace f_m_ear := (hs.o gm trivial rfl).2.trans f_m_ear
  replace f_m_hds := (hs.o gm trivial rfl).2.trans f_m_hds
  replace f_m_ord := (hs.o gm trivial rfl).2.trans f_m_ord
  replace f_m_wkl := (hs.o gm trivial rfl).2.trans f_m_wkl
  replace f_m_owd := (hs.o gm trivial rfl).2.trans f_m_owd
  replace f_m_gds := (hs.o gm trivial rfl).2.trans f_m_gds
  replace f_m_szd := (hs.o gm trivial rfl).2.trans f_m_szd
  replace f_m_srv := (hs.o gm trivial rfl).2.trans f_m_srv
  replace f_y_p0 := (hs.o g_qo_py trivial rfl).2.trans f_y_p0
  replace f_m_p0 := (hs.o gm trivial rfl).2.trans f_m_p0
  replace f_y_p1 := (hs.o g_qo_py trivial rfl).2.trans f_y_p1
  replace f_m_p1 := (hs.o gm trivial rfl).2.trans f_m_p1
  replace f_y_p2 := (hs.o g_qo_py trivial rfl).2.trans f_y_p2
  replace f_m_p2 := (hs.o gm trivial rfl).2.trans f_m_p2
  replace f_y_p3 := (hs.o g_qo_py trivial rfl).2.trans f_y_p3
  replace f_m_p3 := (hs.o gm trivial rfl).2.trans f_m_p3
  replace f_y_p4 := (hs.o g_qo_py trivial rfl).2.trans f_y_p4
  replace f_m_p4 := (hs.o gm trivial rfl).2.trans f_m_p4
  replace f_qrg9 := (hs.o gx trivial rfl).2.trans f_qrg9
  replace f_y_ls := (hs.o g_qrg9 trivial rfl).2.trans f_y_ls
  replace f_m_rl := (hs.o gm trivial rfl).2.trans f_m_rl
  replace ffv_790 := (hs.o g_qrg9 trivial rfl).1.trans ffv_790
  replace ffv_791 := (hs.o gm trivial rfl).1.trans ffv_791
  replace ffv_792 := (hs.o gm trivial rfl).1.trans ffv_792
  replace pf_qa : ∀ j : Nat, (j : Int) < (h_804.2.1 ax 6).toInt → h_804.2.2 qa j ≠ none := by
    intro j hj; rw [(hs.o gx trivial rfl).1] at hj; rw [(hs.a g_qa rfl j).2]; exact pf_qa j hj
  replace pf_qp : ∀ j : Nat, (j : Int) < (h_804.2.1 ax 8).toInt → h_804.2.2 qp j ≠ none := by
    intro j hj; rw [(hs.o gx trivial rfl).1] at hj; rw [(hs.a g_qp rfl j).2]; exact pf_qp j hj
  replace pf_qc : ∀ j : Nat, (j : Int) < (h_804.2.1 ax 11).toInt → h_804.2.2 qc j ≠ none := by
    intro j hj; rw [(hs.o gx trivial rfl).1] at hj; rw [(hs.a g_qc rfl j).2]; exact pf_qc j hj
  replace pf_qh : ∀ j : Nat, (j : Int) < (h_804.2.1 ax 13).toInt → h_804.2.2 qh j ≠ none := by
    intro j hj; rw [(hs.o gx trivial rfl).1] at hj; rw [(hs.a g_qh rfl j).2]; exact pf_qh j hj
  replace pf_ql : ∀ j : Nat, (j : Int) < (h_804.2.1 qw 0).toInt → h_804.2.2 ql j ≠ none := by
    intro j hj; rw [(hs.o g_qw trivial rfl).1] at hj; rw [(hs.a g_ql rfl j).2]; exact pf_ql j hj
  replace cl_lst : hx_col 8 h_804 ql 0 = c_lst := (hx_col_S hs hTo g_ql tt_40 tt_2 rfl rfl).trans cl_lst
  replace cl_dead : hx_col 40 h_804 qp 7 = c_dead := (hx_col_S hs hTo g_qp tt_44 tt_4 rfl rfl).trans cl_dead
  replace cl_isj : hx_col 40 h_804 qp 8 = c_isj := (hx_col_S hs hTo g_qp tt_44 tt_4 rfl rfl).trans cl_isj
  replace cl_dox : hx_col 40 h_804 qp 5 = c_dox := (hx_col_S hs hTo g_qp tt_44 tt_4 rfl rfl).trans cl_dox
  replace cl_doy : hx_col 40 h_804 qp 6 = c_doy := (hx_col_S hs hTo g_qp tt_44 tt_4 rfl rfl).trans cl_doy
  replace cl_fou : hx_col 100 h_804 qc 10 = c_fou := (hx_col_S hs hTo g_qc tt_45 tt_2 rfl rfl).trans cl_fou
  replace cl_tri : hx_col 100 h_804 qc 9 = c_tri := (hx_col_S hs hTo g_qc tt_45 tt_2 rfl rfl).trans cl_tri
  replace cl_bor : hx_col 40 h_804 qp 1 = F_bor := (hx_col_S hs hTo g_qp tt_44 tt_4 rfl rfl).trans cl_bor
  replace cl_kin : hx_col 40 h_804 qp 2 = F_kin := (hx_col_S hs hTo g_qp tt_44 tt_4 rfl rfl).trans cl_kin
  replace cl_sum : hx_col 100 h_804 qc 6 = F_sum := (hx_col_S hs hTo g_qc tt_45 tt_2 rfl rfl).trans cl_sum
  replace cl_fro : hx_col 100 h_804 qc 7 = F_fro := (hx_col_S hs hTo g_qc tt_45 tt_2 rfl rfl).trans cl_fro
  replace cl_fil : hx_col 100 h_804 qc 8 = F_fil := (hx_col_S hs hTo g_qc tt_45 tt_2 rfl rfl).trans cl_fil
  replace cl_hea : hx_col 100 h_804 qc 11 = F_mh := (hx_col_S hs hTo g_qc tt_45 tt_2 rfl rfl).trans cl_hea
  replace cl_jud : hx_col 100 h_804 qc 12 = F_jud := (hx_col_S hs hTo g_qc tt_45 tt_2 rfl rfl).trans cl_jud
  replace cl_ear : hx_col 40 h_804 qp 3 = F_ear := (hx_col_S hs hTo g_qp tt_44 tt_4 rfl rfl).trans cl_ear
  replace cl_hds : hx_col 40 h_804 qp 4 = F_hds := (hx_col_S hs hTo g_qp tt_44 tt_4 rfl rfl).trans cl_hds
  replace cl_ord : hx_col 100 h_804 qc 13 = F_ord := (hx_col_S hs hTo g_qc tt_45 tt_2 rfl rfl).trans cl_ord
  replace cl_wkl : hx_col 100 h_804 qc 14 = F_wkl := (hx_col_S hs hTo g_qc tt_45 tt_2 rfl rfl).trans cl_wkl
  replace cl_owd : hx_col 100 h_804 qc 15 = F_owd := (hx_col_S hs hTo g_qc tt_45 tt_2 rfl rfl).trans cl_owd
  replace cl_gds : hx_col 100 h_804 qc 17 = F_gds := (hx_col_S hs hTo g_qc tt_45 tt_2 rfl rfl).trans cl_gds
  replace cl_szd : hx_col 100 h_804 qc 16 = F_szd := (hx_col_S hs hTo g_qc tt_45 tt_2 rfl rfl).trans cl_szd
  replace cl_srv : hx_col 100 h_804 qc 18 = F_srv := (hx_col_S hs hTo g_qc tt_45 tt_2 rfl rfl).trans cl_srv
  replace nu_qp : hx_num 40 h_804 qp 0 (np.toInt) := hx_num_S hs hTo g_qp tt_44 tt_4 rfl rfl nu_qp
  replace nu_qc : hx_num 100 h_804 qc 0 (c0.toInt) := hx_num_S hs hTo g_qc tt_45 tt_2 rfl rfl nu_qc
  replace sb_list : hx_LQ 8 100 h_804 ql qc := hx_LQ_S hs g_ql g_qc rfl rfl sb_list
  replace hDF : hw_DF h_804 qc qp 2 F_aga c0.toInt := hw_DF_S hs hTo g_qc g_qp tt_45 tt_2 rfl rfl rfl hDF
  replace hRA9 : hv_RA h_804 qa qwo a0.toInt A9 := hv_RA_S hs hTo g_qa g_qwo tt_43 tt_0 rfl rfl rfl rfl rfl rfl ?o29 hRA9
  case o29 => omega
  replace hDP : hw_DF h_804 qc qp 1 F_by c0.toInt := hw_DF_S hs hTo g_qc g_qp tt_45 tt_2 rfl rfl rfl hDP
  replace hAC9 : hv_AC h_804 qc F_ml c0.toInt A9 := hv_AC_S hs hTo g_qc tt_45 tt_2 rfl tt_0 rfl rfl rfl rfl rfl rfl rfl hAC9
  replace hFX : hv_FX 8 4 h_804 qc cF9L c0.toInt := hv_FX_S hs hTo g_qc tt_45 tt_2 rfl rfl rfl rfl hFX
  replace hBX : hv_FX 3 5 h_804 qc F_be c0.toInt := hv_FX_S hs hTo g_qc tt_45 tt_2 rfl rfl rfl rfl hBX
  replace hHL : hv_HL h_804 qh qc F_ho m0.toInt c0.toInt := hv_HL_S hs g_qh g_qc rfl rfl hHL
  replace n_mw : h_804.2.1 mw = F_mw := (funext fun j => (hs.a g_mw rfl j).1).trans n_mw
  replace n_mr : h_804.2.1 mr = F_mr := (funext fun j => (hs.a g_mr rfl j).1).trans n_mr
  replace n_mp : h_804.2.1 mp = F_mp := (funext fun j => (hs.a g_mp rfl j).1).trans n_mp
  replace n_mn : h_804.2.1 mn = F_mn := (funext fun j => (hs.a g_mn rfl j).1).trans n_mn
  replace n_ml : h_804.2.1 ml = F_ml := (funext fun j => (hs.a g_ml rfl j).1).trans n_ml
  replace n_mh : h_804.2.1 mh = F_mh := (funext fun j => (hs.a g_mh rfl j).1).trans n_mh
  replace n_mt : h_804.2.1 mt = F_mt := (funext fun j => (hs.a g_mt rfl j).1).trans n_mt
  replace n_m_fou : h_804.2.1 m_fou = F_m_fou := (funext fun j => (hs.a g_m_fou rfl j).1).trans n_m_fou
  replace n_b_of : h_804.2.1 b_of = B_of := (funext fun j => (hs.a g_b_of rfl j).1).trans n_b_of
  replace n_m_of : h_804.2.1 m_of = F_of := (funext fun j => (hs.a g_m_of rfl j).1).trans n_m_of
  replace n_b_wf : h_804.2.1 b_wf = B_wf := (funext fun j => (hs.a g_b_wf rfl j).1).trans n_b_wf
  replace n_m_wf : h_804.2.1 m_wf = F_wf := (funext fun j => (hs.a g_m_wf rfl j).1).trans n_m_wf
  replace n_b_df : h_804.2.1 b_df = B_df := (funext fun j => (hs.a g_b_df rfl j).1).trans n_b_df
  replace n_m_df : h_804.2.1 m_df = F_df := (funext fun j => (hs.a g_m_df rfl j).1).trans n_m_df
  replace n_b_kf : h_804.2.1 b_kf = B_kf := (funext fun j => (hs.a g_b_kf rfl j).1).trans n_b_kf
  replace n_m_kf : h_804.2.1 m_kf = F_kf := (funext fun j => (hs.a g_m_kf rfl j).1).trans n_m_kf
  replace n_b_sf : h_804.2.1 b_sf = B_sf := (funext fun j => (hs.a g_b_sf rfl j).1).trans n_b_sf
  replace n_m_sf : h_804.2.1 m_sf = F_sf := (funext fun j => (hs.a g_m_sf rfl j).1).trans n_m_sf
  replace n_b_bf : h_804.2.1 b_bf = bfL := (funext fun j => (hs.a g_b_bf rfl j).1).trans n_b_bf
  replace n_lst : h_804.2.1 m_lst = F_lst := (funext fun j => (hs.a g_m_lst rfl j).1).trans n_lst
  replace n_tp : h_804.2.1 m_tp = F_tp := (funext fun j => (hs.a g_m_tp rfl j).1).trans n_tp
  replace n_qtp : h_804.2.1 qtp = F_tp := (funext fun j => (hs.a g_qtp rfl j).1).trans n_qtp
  replace n_dead : h_804.2.1 m_dead = F_dead := (funext fun j => (hs.a g_m_dead rfl j).1).trans n_dead
  replace n_isj : h_804.2.1 m_isj = F_isj := (funext fun j => (hs.a g_m_isj rfl j).1).trans n_isj
  replace n_dox : h_804.2.1 m_dox = F_dox := (funext fun j => (hs.a g_m_dox rfl j).1).trans n_dox
  replace n_doy : h_804.2.1 m_doy = F_doy := (funext fun j => (hs.a g_m_doy rfl j).1).trans n_doy
  replace n_qlt : h_804.2.1 qlt = F_qlt := (funext fun j => (hs.a g_qlt rfl j).1).trans n_qlt
  replace n_m_wkd : h_804.2.1 m_wkd = F_m_wkd := (funext fun j => (hs.a g_m_wkd rfl j).1).trans n_m_wkd
  replace n_aga : h_804.2.1 m_aga = F_aga := (funext fun j => (hs.a g_m_aga rfl j).1).trans n_aga
  replace n_ad : h_804.2.1 m_ad = F_ad := (funext fun j => (hs.a g_m_ad rfl j).1).trans n_ad
  replace n_by : h_804.2.1 m_by = F_by := (funext fun j => (hs.a g_m_by rfl j).1).trans n_by
  replace n_ho : h_804.2.1 m_ho = F_ho := (funext fun j => (hs.a g_m_ho rfl j).1).trans n_ho
  replace n_fc : h_804.2.1 m_fc = F_fc := (funext fun j => (hs.a g_m_fc rfl j).1).trans n_fc
  replace n_nt : h_804.2.1 m_nt = F_nt := (funext fun j => (hs.a g_m_nt rfl j).1).trans n_nt
  replace n_wt : h_804.2.1 m_wt = F_wt := (funext fun j => (hs.a g_m_wt rfl j).1).trans n_wt
  replace n_be : h_804.2.1 m_be = F_be := (funext fun j => (hs.a g_m_be rfl j).1).trans n_be
  replace n_bor : h_804.2.1 m_bor = F_bor := (funext fun j => (hs.a g_m_bor rfl j).1).trans n_bor
  replace n_kin : h_804.2.1 m_kin = F_kin := (funext fun j => (hs.a g_m_kin rfl j).1).trans n_kin
  replace n_sum : h_804.2.1 m_sum = F_sum := (funext fun j => (hs.a g_m_sum rfl j).1).trans n_sum
  replace n_fro : h_804.2.1 m_fro = F_fro := (funext fun j => (hs.a g_m_fro rfl j).1).trans n_fro
  replace n_fil : h_804.2.1 m_fil = F_fil := (funext fun j => (hs.a g_m_fil rfl j).1).trans n_fil
  replace n_jud : h_804.2.1 m_jud = F_jud := (funext fun j => (hs.a g_m_jud rfl j).1).trans n_jud
  replace n_ear : h_804.2.1 m_ear = F_ear := (funext fun j => (hs.a g_m_ear rfl j).1).trans n_ear
  replace n_hds : h_804.2.1 m_hds = F_hds := (funext fun j => (hs.a g_m_hds rfl j).1).trans n_hds
  replace n_ord : h_804.2.1 m_ord = F_ord := (funext fun j => (hs.a g_m_ord rfl j).1).trans n_ord
  replace n_wkl : h_804.2.1 m_wkl = F_wkl := (funext fun j => (hs.a g_m_wkl rfl j).1).trans n_wkl
  replace n_owd : h_804.2.1 m_owd = F_owd := (funext fun j => (hs.a g_m_owd rfl j).1).trans n_owd
  replace n_gds : h_804.2.1 m_gds = F_gds := (funext fun j => (hs.a g_m_gds rfl j).1).trans n_gds
  replace n_szd : h_804.2.1 m_szd = F_szd := (funext fun j => (hs.a g_m_szd rfl j).1).trans n_szd
  replace n_srv : h_804.2.1 m_srv = F_srv := (funext fun j => (hs.a g_m_srv rfl j).1).trans n_srv
  replace n_p0 : h_804.2.1 m_p0 = F_p0 := (funext fun j => (hs.a g_m_p0 rfl j).1).trans n_p0
  replace n_y_p0 : h_804.2.1 y_p0 = F_p0 := (funext fun j => (hs.a g_y_p0 rfl j).1).trans n_y_p0
  replace n_p1 : h_804.2.1 m_p1 = F_p1 := (funext fun j => (hs.a g_m_p1 rfl j).1).trans n_p1
  replace n_y_p1 : h_804.2.1 y_p1 = F_p1 := (funext fun j => (hs.a g_y_p1 rfl j).1).trans n_y_p1
  replace n_p2 : h_804.2.1 m_p2 = F_p2 := (funext fun j => (hs.a g_m_p2 rfl j).1).trans n_p2
  replace n_y_p2 : h_804.2.1 y_p2 = F_p2 := (funext fun j => (hs.a g_y_p2 rfl j).1).trans n_y_p2
  replace n_p3 : h_804.2.1 m_p3 = F_p3 := (funext fun j => (hs.a g_m_p3 rfl j).1).trans n_p3
  replace n_y_p3 : h_804.2.1 y_p3 = F_p3 := (funext fun j => (hs.a g_y_p3 rfl j).1).trans n_y_p3
  replace n_p4 : h_804.2.1 m_p4 = F_p4 := (funext fun j => (hs.a g_m_p4 rfl j).1).trans n_p4
  replace n_y_p4 : h_804.2.1 y_p4 = F_p4 := (funext fun j => (hs.a g_y_p4 rfl j).1).trans n_y_p4
  replace n_y_ls : h_804.2.1 y_ls = F_y_ls := (funext fun j => (hs.a g_y_ls rfl j).1).trans n_y_ls
  replace n_m_rl : h_804.2.1 m_rl = F_m_rl := (funext fun j => (hs.a g_m_rl rfl j).1).trans n_m_rl
  replace gx := gx.S hs
  replace gm := gm.S hs
  replace g_qa := g_qa.S hs
  replace g_qp := g_qp.S hs
  replace g_qc := g_qc.S hs
  replace g_qh := g_qh.S hs
  replace g_qw := g_qw.S hs
  replace g_ql := g_ql.S hs
  replace g_mw := g_mw.S hs
  replace g_mr := g_mr.S hs
  replace g_mp := g_mp.S hs
  replace g_mn := g_mn.S hs
  replace g_ml := g_ml.S hs
  replace g_mh := g_mh.S hs
  replace g_mt := g_mt.S hs
  replace g_m_fou := g_m_fou.S hs
  replace g_qo_ln := g_qo_ln.S hs
  replace g_qo_py := g_qo_py.S hs
  replace g_b_of := g_b_of.S hs
  replace g_m_of := g_m_of.S hs
  replace g_b_wf := g_b_wf.S hs
  replace g_m_wf := g_m_wf.S hs
  replace g_b_df := g_b_df.S hs
  replace g_m_df := g_m_df.S hs
  replace g_b_kf := g_b_kf.S hs
  replace g_m_kf := g_m_kf.S hs
  replace g_b_sf := g_b_sf.S hs
  replace g_m_sf := g_m_sf.S hs
  replace g_b_bf := g_b_bf.S hs
  replace g_m_lst := g_m_lst.S hs
  replace g_qtp := g_qtp.S hs
  replace g_m_tp := g_m_tp.S hs
  replace g_m_dead := g_m_dead.S hs
  replace g_m_isj := g_m_isj.S hs
  replace g_m_dox := g_m_dox.S hs
  replace g_m_doy := g_m_doy.S hs
  replace g_qlt := g_qlt.S hs
  replace g_qlf := g_qlf.S hs
  replace g_m_wkd := g_m_wkd.S hs
  replace g_m_aga := g_m_aga.S hs
  replace g_qwo := g_qwo.S hs
  replace g_m_ad := g_m_ad.S hs
  replace g_m_by := g_m_by.S hs
  replace g_m_ho := g_m_ho.S hs
  replace g_m_fc := g_m_fc.S hs
  replace g_m_nt := g_m_nt.S hs
  replace g_m_wt := g_m_wt.S hs
  replace g_m_be := g_m_be.S hs
  replace g_m_bor := g_m_bor.S hs
  replace g_m_kin := g_m_kin.S hs
  replace g_m_sum := g_m_sum.S hs
  replace g_m_fro := g_m_fro.S hs
  replace g_m_fil := g_m_fil.S hs
  replace g_m_jud := g_m_jud.S hs
  replace g_m_ear := g_m_ear.S hs
  replace g_m_hds := g_m_hds.S hs
  replace g_m_ord := g_m_ord.S hs
  replace g_m_wkl := g_m_wkl.S hs
  replace g_m_owd := g_m_owd.S hs
  replace g_m_gds := g_m_gds.S hs
  replace g_m_szd := g_m_szd.S hs
  replace g_m_srv := g_m_srv.S hs
  replace g_y_p0 := g_y_p0.S hs
  replace g_m_p0 := g_m_p0.S hs
  replace g_y_p1 := g_y_p1.S hs
  replace g_m_p1 := g_m_p1.S hs
  replace g_y_p2 := g_y_p2.S hs
  replace g_m_p2 := g_m_p2.S hs
  replace g_y_p3 := g_y_p3.S hs
  replace g_m_p3 := g_m_p3.S hs
  replace g_y_p4 := g_y_p4.S hs
  replace g_m_p4 := g_m_p4.S hs
  replace g_qrg9 := g_qrg9.S hs
  replace g_y_ls := g_y_ls.S hs
  replace g_m_rl := g_m_rl.S hs
  refine lv_pop hx hb dL_law_1227 rfl ?_
  refine lv_goto (tgt := 1379) hx hb dL_law_1228 ?o30 ?_
  case o30 => decide
  have heq := hz_ND_f hr_800 hr_807 hNQ9 hRL9
  refine W.widen (k := CC + 3) (n := SS + 179) ?o31 ?o32 ?_
  case o31 => omega
  case o32 => omega
  refine kk L_803 h_804 H locs ls hW ⟨hT, gx, gm, ⟨f_x_now.trans f_m_now.symm, f_x_personCount.trans f_m_persons.symm, f_x_claimCount.trans f_m_claims.symm, f_x_tapeLength.trans f_m_taped.symm, f_x_actCount.trans f_m_acts.symm, f_x_heardCount.trans f_m_heardMany.symm, hx_ob f_qo_ln (f_o_ln.trans f_m_lines.symm), hx_ob f_qw (f_o_lsd.trans f_m_listed.symm), hx_ob f_qw (f_o_wkm.trans f_m_walkedMany.symm), hx_ob f_qo_py (f_o_py.trans f_m_payments.symm), hx_ob f_qp ?o33, hx_ob f_qc ?o34, (fun b a r hb ha hr => ?o35), (fun b a r hb ha hr => ?o36), (fun b a r hb ha hr => ?o37), (fun b a r hb ha hr => ?o38), (fun b a r hb ha hr => ?o39), (fun b a r hb ha hr => ?o40), (fun w q c hw hq hc => ?o41), (fun w q r hw hq hr => ?o42), (fun w q r hw hq hr => ?o43), (fun c q a hc hq ha => ?o44), (fun q r hq hr => ?o45), (fun q w a b c d e p hq hw ha hb hc hd he hp => ?o46), (fun c q a hc hq ha => ?o47), (fun q c a hq hc ha => ?o48), (fun a b ha hb => ?o49), (fun c a b d e f hc ha hb hd he hf => ?o50), (fun c a hc ha => ?o51), hx_ob2 f_qp f_m_bor (cl_bor.trans n_bor.symm), hx_ob2 f_qp f_m_kin (cl_kin.trans n_kin.symm), hx_ob2 f_qc f_m_sum (cl_sum.trans n_sum.symm), hx_ob2 f_qc f_m_fro (cl_fro.trans n_fro.symm), hx_ob2 f_qc f_m_fil (cl_fil.trans n_fil.symm), hx_ob2 f_qc f_mh (cl_hea.trans n_mh.symm), hx_ob2 f_qc f_m_jud (cl_jud.trans n_jud.symm), hx_ob2 f_qp f_m_ear (cl_ear.trans n_ear.symm), hx_ob2 f_qp f_m_hds (cl_hds.trans n_hds.symm), hx_ob2 f_qc f_m_ord (cl_ord.trans n_ord.symm), hx_ob2 f_qc f_m_wkl (cl_wkl.trans n_wkl.symm), hx_ob2 f_qc f_m_owd (cl_owd.trans n_owd.symm), hx_ob2 f_qc f_m_gds (cl_gds.trans n_gds.symm), hx_ob2 f_qc f_m_szd (cl_szd.trans n_szd.symm), hx_ob2 f_qc f_m_srv (cl_srv.trans n_srv.symm), (fun p q r hp hq hr => ?o52), (fun p q r hp hq hr => ?o53), (fun p q r hp hq hr => ?o54), (fun p q r hp hq hr => ?o55), (fun p q r hp hq hr => ?o56), (fun p hp => ?o57), (fun p q r hp hq hr => ?o58), hx_ob2 f_qp f_m_dead ?o59, hx_ob2 f_qp f_m_isj ?o60, hx_ob2 f_qp f_m_dox ?o61, hx_ob2 f_qp f_m_doy ?o62, hx_ob2 f_qc f_m_fou ?o63, hx_ob2 f_qc f_mt ?o64, trivial⟩, ⟨hx_ob f_qa pf_qa, hx_ob f_qp pf_qp, hx_ob f_qc pf_qc, hx_ob f_qh pf_qh, (fun w q hw hq => ?o65)⟩, ⟨hx_ob f_mw ?o66, hx_ob f_mr ?o67, hx_ob2 f_mp f_mn ?o68, hx_ob f_ml ?o69, hx_ob f_mh ?o70, hx_ob f_mt ?o71, hx_ob2 f_mh f_m_fou ?o73⟩⟩ hl
  case o33 =>
    rw [f_x_personCount]
    exact nu_qp
  case o34 =>
    rw [f_x_claimCount]
    exact nu_qc
  case o35 =>
    obtain rfl : qo_ln = b := Option.some.inj (f_qo_ln.symm.trans hb)
    obtain rfl : b_of = a := Option.some.inj (f_b_of.symm.trans ha)
    obtain rfl : m_of = r := Option.some.inj (f_m_of.symm.trans hr)
    rw [n_b_of, n_m_of, f_o_ln]
    exact eb_of
  case o36 =>
    obtain rfl : qo_ln = b := Option.some.inj (f_qo_ln.symm.trans hb)
    obtain rfl : b_wf = a := Option.some.inj (f_b_wf.symm.trans ha)
    obtain rfl : m_wf = r := Option.some.inj (f_m_wf.symm.trans hr)
    rw [n_b_wf, n_m_wf, f_o_ln]
    exact eb_wf
  case o37 =>
    obtain rfl : qo_ln = b := Option.some.inj (f_qo_ln.symm.trans hb)
    obtain rfl : b_df = a := Option.some.inj (f_b_df.symm.trans ha)
    obtain rfl : m_df = r := Option.some.inj (f_m_df.symm.trans hr)
    rw [n_b_df, n_m_df, f_o_ln]
    exact eb_df
  case o38 =>
    obtain rfl : qo_ln = b := Option.some.inj (f_qo_ln.symm.trans hb)
    obtain rfl : b_kf = a := Option.some.inj (f_b_kf.symm.trans ha)
    obtain rfl : m_kf = r := Option.some.inj (f_m_kf.symm.trans hr)
    rw [n_b_kf, n_m_kf, f_o_ln]
    exact eb_kf
  case o39 =>
    obtain rfl : qo_ln = b := Option.some.inj (f_qo_ln.symm.trans hb)
    obtain rfl : b_sf = a := Option.some.inj (f_b_sf.symm.trans ha)
    obtain rfl : m_sf = r := Option.some.inj (f_m_sf.symm.trans hr)
    rw [n_b_sf, n_m_sf, f_o_ln]
    exact eb_sf
  case o40 =>
    obtain rfl : qo_ln = b := Option.some.inj (f_qo_ln.symm.trans hb)
    obtain rfl : b_df = a := Option.some.inj (f_b_df.symm.trans ha)
    obtain rfl : b_bf = r := Option.some.inj (f_b_bf.symm.trans hr)
    rw [n_b_df, n_b_bf, f_o_ln]
    exact ⟨hBD, hDY⟩
  case o41 =>
    obtain rfl : qw = w := Option.some.inj (f_qw.symm.trans hw)
    obtain rfl : ql = q := Option.some.inj (f_ql.symm.trans hq)
    obtain rfl : qc = c := Option.some.inj (f_qc.symm.trans hc)
    exact sb_list
  case o42 =>
    obtain rfl : qw = w := Option.some.inj (f_qw.symm.trans hw)
    obtain rfl : ql = q := Option.some.inj (f_ql.symm.trans hq)
    obtain rfl : m_lst = r := Option.some.inj (f_m_lst.symm.trans hr)
    rw [cl_lst, n_lst]
    exact eq_lst
  case o43 =>
    obtain rfl : qw = w := Option.some.inj (f_qw.symm.trans hw)
    obtain rfl : qlt = q := Option.some.inj (f_qlt.symm.trans hq)
    obtain rfl : m_wkd = r := Option.some.inj (f_m_wkd.symm.trans hr)
    rw [n_qlt, n_m_wkd, f_o_wkm]
    exact eb_wkd
  case o44 =>
    obtain rfl : qc = c := Option.some.inj (f_qc.symm.trans hc)
    obtain rfl : qp = q := Option.some.inj (f_qp.symm.trans hq)
    obtain rfl : m_aga = a := Option.some.inj (f_m_aga.symm.trans ha)
    rw [n_aga, f_x_claimCount]
    exact hw_DF_e hDF rfl rfl
  case o45 =>
    obtain rfl : qtp = q := Option.some.inj (f_qtp.symm.trans hq)
    obtain rfl : m_tp = r := Option.some.inj (f_m_tp.symm.trans hr)
    exact n_qtp.trans n_tp.symm
  case o46 =>
    obtain rfl : qa = q := Option.some.inj (f_qa.symm.trans hq)
    obtain rfl : qwo = w := Option.some.inj (f_qwo.symm.trans hw)
    obtain rfl : m_ad = a := Option.some.inj (f_m_ad.symm.trans ha)
    obtain rfl : mr = b := Option.some.inj (f_mr.symm.trans hb)
    obtain rfl : mn = c := Option.some.inj (f_mn.symm.trans hc)
    obtain rfl : mp = d := Option.some.inj (f_mp.symm.trans hd)
    obtain rfl : qc = e := Option.some.inj (f_qc.symm.trans he)
    obtain rfl : ml = p := Option.some.inj (f_ml.symm.trans hp)
    exact ⟨_, by rw [f_x_actCount]; exact hRA9, by rw [f_x_actCount, n_ad, n_mr, n_mn, n_mp]; exact hCA9, by rw [n_ml, f_x_claimCount]; exact hv_AC_e hAC9 rfl rfl rfl, hAB⟩
  case o47 =>
    obtain rfl : qc = c := Option.some.inj (f_qc.symm.trans hc)
    obtain rfl : qp = q := Option.some.inj (f_qp.symm.trans hq)
    obtain rfl : m_by = a := Option.some.inj (f_m_by.symm.trans ha)
    rw [n_by, f_x_claimCount]
    exact hw_DF_e hDP rfl rfl
  case o48 =>
    obtain rfl : qh = q := Option.some.inj (f_qh.symm.trans hq)
    obtain rfl : qc = c := Option.some.inj (f_qc.symm.trans hc)
    obtain rfl : m_ho = a := Option.some.inj (f_m_ho.symm.trans ha)
    rw [n_ho, f_x_heardCount, f_x_claimCount]
    exact hv_HL_e hHL rfl rfl rfl
  case o49 =>
    obtain rfl : m_ho = a := Option.some.inj (f_m_ho.symm.trans ha)
    obtain rfl : mh = b := Option.some.inj (f_mh.symm.trans hb)
    rw [n_ho, n_mh, f_m_heardMany, f_m_claims]
    exact hHO9
  case o50 =>
    obtain rfl : qc = c := Option.some.inj (f_qc.symm.trans hc)
    obtain rfl : m_fc = a := Option.some.inj (f_m_fc.symm.trans ha)
    obtain rfl : m_nt = b := Option.some.inj (f_m_nt.symm.trans hb)
    obtain rfl : m_wt = d := Option.some.inj (f_m_wt.symm.trans hd)
    obtain rfl : m_sum = e := Option.some.inj (f_m_sum.symm.trans he)
    obtain rfl : mh = f := Option.some.inj (f_mh.symm.trans hf)
    exact ⟨cF9L, by rw [f_x_claimCount]; exact hFX, by rw [n_fc, n_nt, n_wt, n_sum, n_mh, f_x_claimCount]; exact hFR9⟩
  case o51 =>
    obtain rfl : qc = c := Option.some.inj (f_qc.symm.trans hc)
    obtain rfl : m_be = a := Option.some.inj (f_m_be.symm.trans ha)
    rw [n_be, f_x_claimCount]
    exact hv_FX_e hBX rfl rfl
  case o52 =>
    obtain rfl : qo_py = p := Option.some.inj (f_qo_py.symm.trans hp)
    obtain rfl : y_p0 = q := Option.some.inj (f_y_p0.symm.trans hq)
    obtain rfl : m_p0 = r := Option.some.inj (f_m_p0.symm.trans hr)
    exact n_y_p0.trans n_p0.symm
  case o53 =>
    obtain rfl : qo_py = p := Option.some.inj (f_qo_py.symm.trans hp)
    obtain rfl : y_p1 = q := Option.some.inj (f_y_p1.symm.trans hq)
    obtain rfl : m_p1 = r := Option.some.inj (f_m_p1.symm.trans hr)
    exact n_y_p1.trans n_p1.symm
  case o54 =>
    obtain rfl : qo_py = p := Option.some.inj (f_qo_py.symm.trans hp)
    obtain rfl : y_p2 = q := Option.some.inj (f_y_p2.symm.trans hq)
    obtain rfl : m_p2 = r := Option.some.inj (f_m_p2.symm.trans hr)
    exact n_y_p2.trans n_p2.symm
  case o55 =>
    obtain rfl : qo_py = p := Option.some.inj (f_qo_py.symm.trans hp)
    obtain rfl : y_p3 = q := Option.some.inj (f_y_p3.symm.trans hq)
    obtain rfl : m_p3 = r := Option.some.inj (f_m_p3.symm.trans hr)
    exact n_y_p3.trans n_p3.symm
  case o56 =>
    obtain rfl : qo_py = p := Option.some.inj (f_qo_py.symm.trans hp)
    obtain rfl : y_p4 = q := Option.some.inj (f_y_p4.symm.trans hq)
    obtain rfl : m_p4 = r := Option.some.inj (f_m_p4.symm.trans hr)
    exact n_y_p4.trans n_p4.symm
  case o57 =>
    obtain rfl : qrg9 = p := Option.some.inj (f_qrg9.symm.trans hp)
    rw [ffv_790, ffv_791, ffv_792]
    exact hNQ9
  case o58 =>
    obtain rfl : qrg9 = p := Option.some.inj (f_qrg9.symm.trans hp)
    obtain rfl : y_ls = q := Option.some.inj (f_y_ls.symm.trans hq)
    obtain rfl : m_rl = r := Option.some.inj (f_m_rl.symm.trans hr)
    rw [n_y_ls, n_m_rl, ffv_790]
    exact hRL9
  case o59 =>
    rw [cl_dead, n_dead]
    exact eq_dead
  case o60 =>
    rw [cl_isj, n_isj]
    exact eq_isj
  case o61 =>
    rw [cl_dox, n_dox]
    exact eq_dox
  case o62 =>
    rw [cl_doy, n_doy]
    exact eq_doy
  case o63 =>
    rw [cl_fou, n_m_fou]
    exact eq_fou
  case o64 =>
    rw [cl_tri, n_mt]
    exact eq_tri
  case o65 =>
    obtain rfl : qw = w := Option.some.inj (f_qw.symm.trans hw)
    obtain rfl : ql = q := Option.some.inj (f_ql.symm.trans hq)
    exact pf_ql
  case o66 =>
    rw [n_mw]
    exact hwd
  case o67 =>
    rw [n_mr, f_m_acts]
    exact hWK
  case o68 =>
    rw [n_mp, n_mn, f_m_acts]
    exact hRP
  case o69 =>
    rw [n_ml, f_m_claims, f_m_acts]
    exact hPL
  case o70 =>
    rw [n_mh, f_m_heardMany, f_m_claims]
    exact hHC
  case o71 =>
    rw [n_mt]
    refine (hx_TR_le hTR ?o72)
    case o72 => omega
  case o73 =>
    rw [n_mh, n_m_fou, f_m_claims]
    exact hHF

set_option maxHeartbeats 4000000 in
set_option maxRecDepth 100000 in
theorem law_case_25 {p : Program} {e : Env} {s : State} {m : MethodId} {below : List Frame} {meth : Method} {c : Code} (l : Launch) {b LN : Nat} {xs : Nat → Int32} (hx : p.tables.exec = Jvm.exec) (hb : c.code = code) (hr : meth.sig.returnType = ret) (hlocks : meth.locks = false) (hml : c.maxLocals = 4) (hown : s.vm.findClass "SmallCourtLaw" = some m.cls) (hts : ∀ w ∈ hx_all, w.before #[Value.ref b] s = true) (hX : va_X b LN xs s s.heap) (hbl : b < s.heap.size) (hbA : ¬ s.heap.size ≤ b) (hLN : LN ≤ 3584) (dC : Nat → ClassId) (dI : Nat → Nat → Nat) (dA : Nat → ClassId) (b0 : hx_z) (ax am : Nat) (T1 : Int) (hT0 : 0 ≤ T1) (hT1 : T1 ≤ 511) (i : Int32) (hi0 : 0 ≤ i.toInt) (hiL : i.toInt + 7 ≤ LN) (CC SS : Nat) (hCC : CC + 3 ≤ 600000) (hSS : SS + 179 ≤ 7302250) (L1 : List Nat) (hl1 : hx_h) (H : Heap) (locs : List Loc) (ls : Array Slot) (hW : hx_W T_tb (P_ty dA) (dC, dI) vwCl (fun q : Nat => s.heap.size ≤ q) s.heap L1 hl1 s H locs) (hZ : hx_Xt (fun q : Nat => s.heap.size ≤ q) b0 s) (hI : hx_IV T1 ax am L1 hl1) (hl : lv_has ls 4 [(3, .int i), (2, .ref am), (1, .ref ax), (0, .ref b)]) (kk : ∀ (L2 : List Nat) (h2 : hx_h) (H2 : Heap) (locs2 : List Loc) (ls2 : Array Slot), hx_W T_tb (P_ty dA) (dC, dI) vwCl (fun q : Nat => s.heap.size ≤ q) s.heap L2 h2 s H2 locs2 → hx_IV (T1 + 1) ax am L2 h2 → lv_has ls2 4 [(3, .int i), (2, .ref am), (1, .ref ax), (0, .ref b)] → W p l e room_1 s m #[Value.ref b] below meth c H2 locs2 (CC + 3) (SS + 179) (lw_Z below #[Value.ref b] s) (F0 m 1379 ls2 [])) : W p l e room_1 s m #[Value.ref b] below meth c H locs CC SS (lw_Z below #[Value.ref b] s) (F0 m 1231 ls []) := by
  have hI9 := hI
  have hT := hI9.1
  replace hI9 := hI9.2
  have gx := hI9.1
  replace hI9 := hI9.2
  have gm := hI9.1
  replace hI9 := hI9.2
  have zq0_3 := hI9.1
  have he_nw := zq0_3.1
  replace zq0_3 := zq0_3.2
  have he_np := zq0_3.1
  replace zq0_3 := zq0_3.2
  have he_c0 := zq0_3.1
  replace zq0_3 := zq0_3.2
  have he_tl := zq0_3.1
  replace zq0_3 := zq0_3.2
  have he_a0 := zq0_3.1
  replace zq0_3 := zq0_3.2
  have he_m0 := zq0_3.1
  replace zq0_3 := zq0_3.2
  have ho_ln := zq0_3.1
  replace zq0_3 := zq0_3.2
  have ho_lsd := zq0_3.1
  replace zq0_3 := zq0_3.2
  have ho_wkm := zq0_3.1
  replace zq0_3 := zq0_3.2
  have ho_py := zq0_3.1
  replace zq0_3 := zq0_3.2
  have hn_qp := zq0_3.1
  replace zq0_3 := zq0_3.2
  have hn_qc := zq0_3.1
  replace zq0_3 := zq0_3.2
  have hk_of := zq0_3.1
  replace zq0_3 := zq0_3.2
  have hk_wf := zq0_3.1
  replace zq0_3 := zq0_3.2
  have hk_df := zq0_3.1
  replace zq0_3 := zq0_3.2
  have hk_kf := zq0_3.1
  replace zq0_3 := zq0_3.2
  have hk_sf := zq0_3.1
  replace zq0_3 := zq0_3.2
  have hkBD := zq0_3.1
  replace zq0_3 := zq0_3.2
  have hLQ := zq0_3.1
  replace zq0_3 := zq0_3.2
  have hLE := zq0_3.1
  replace zq0_3 := zq0_3.2
  have hkWD := zq0_3.1
  replace zq0_3 := zq0_3.2
  have hkDF := zq0_3.1
  replace zq0_3 := zq0_3.2
  have hkTP := zq0_3.1
  replace zq0_3 := zq0_3.2
  have hkAC := zq0_3.1
  replace zq0_3 := zq0_3.2
  have hkDP := zq0_3.1
  replace zq0_3 := zq0_3.2
  have hkHL := zq0_3.1
  replace zq0_3 := zq0_3.2
  have hkHO := zq0_3.1
  replace zq0_3 := zq0_3.2
  have hkFX := zq0_3.1
  replace zq0_3 := zq0_3.2
  have hkBX := zq0_3.1
  replace zq0_3 := zq0_3.2
  have hf_bor := zq0_3.1
  replace zq0_3 := zq0_3.2
  have hf_kin := zq0_3.1
  replace zq0_3 := zq0_3.2
  have hf_sum := zq0_3.1
  replace zq0_3 := zq0_3.2
  have hf_fro := zq0_3.1
  replace zq0_3 := zq0_3.2
  have hf_fil := zq0_3.1
  replace zq0_3 := zq0_3.2
  have hf_hea := zq0_3.1
  replace zq0_3 := zq0_3.2
  have hf_jud := zq0_3.1
  replace zq0_3 := zq0_3.2
  have hf_ear := zq0_3.1
  replace zq0_3 := zq0_3.2
  have hf_hds := zq0_3.1
  replace zq0_3 := zq0_3.2
  have hf_ord := zq0_3.1
  replace zq0_3 := zq0_3.2
  have hf_wkl := zq0_3.1
  replace zq0_3 := zq0_3.2
  have hf_owd := zq0_3.1
  replace zq0_3 := zq0_3.2
  have hf_gds := zq0_3.1
  replace zq0_3 := zq0_3.2
  have hf_szd := zq0_3.1
  replace zq0_3 := zq0_3.2
  have hf_srv := zq0_3.1
  replace zq0_3 := zq0_3.2
  have hkP0 := zq0_3.1
  replace zq0_3 := zq0_3.2
  have hkP1 := zq0_3.1
  replace zq0_3 := zq0_3.2
  have hkP2 := zq0_3.1
  replace zq0_3 := zq0_3.2
  have hkP3 := zq0_3.1
  replace zq0_3 := zq0_3.2
  have hkP4 := zq0_3.1
  replace zq0_3 := zq0_3.2
  have hkNQ := zq0_3.1
  replace zq0_3 := zq0_3.2
  have hkRL := zq0_3.1
  replace zq0_3 := zq0_3.2
  have hc_dead := zq0_3.1
  replace zq0_3 := zq0_3.2
  have hc_isj := zq0_3.1
  replace zq0_3 := zq0_3.2
  have hc_dox := zq0_3.1
  replace zq0_3 := zq0_3.2
  have hc_doy := zq0_3.1
  replace zq0_3 := zq0_3.2
  have hc_fou := zq0_3.1
  replace zq0_3 := zq0_3.2
  have hc_tri := zq0_3.1
  replace zq0_3 := zq0_3.2
  replace hI9 := hI9.2
  have zq0_4 := hI9.1
  have ia := zq0_4.1
  replace zq0_4 := zq0_4.2
  have ip := zq0_4.1
  replace zq0_4 := zq0_4.2
  have ic := zq0_4.1
  replace zq0_4 := zq0_4.2
  have ih := zq0_4.1
  replace zq0_4 := zq0_4.2
  have il := zq0_4
  replace hI9 := hI9.2
  have zq0_5 := hI9
  have jw := zq0_5.1
  replace zq0_5 := zq0_5.2
  have jr := zq0_5.1
  replace zq0_5 := zq0_5.2
  have jp := zq0_5.1
  replace zq0_5 := zq0_5.2
  have jl := zq0_5.1
  replace zq0_5 := zq0_5.2
  have jh := zq0_5.1
  replace zq0_5 := zq0_5.2
  have jt := zq0_5.1
  replace zq0_5 := zq0_5.2
  have jf := zq0_5
  obtain ⟨qa, f_qa, g_qa⟩ := hx_rf hT gx tt_9 (k := 5) (u := 43) rfl
  have pf_qa := ia qa f_qa
  obtain ⟨qp, f_qp, g_qp⟩ := hx_rf hT gx tt_9 (k := 7) (u := 44) rfl
  have pf_qp := ip qp f_qp
  obtain ⟨qc, f_qc, g_qc⟩ := hx_rf hT gx tt_9 (k := 10) (u := 45) rfl
  have pf_qc := ic qc f_qc
  obtain ⟨qh, f_qh, g_qh⟩ := hx_rf hT gx tt_9 (k := 12) (u := 46) rfl
  have pf_qh := ih qh f_qh
  obtain ⟨qw, f_qw, g_qw⟩ := hx_rf hT gx tt_9 (k := 19) (u := 8) rfl
  obtain ⟨ql, f_ql, g_ql⟩ := hx_rf hT g_qw tt_8 (k := 3) (u := 40) rfl
  have pf_ql := il qw ql f_qw f_ql
  obtain ⟨nw, f_m_now⟩ : ∃ y : Int32, hl1.2.1 am 0 = y := ⟨_, rfl⟩
  have b_nw := hT.gi gm tt_10 (k := 0) rfl
  rw [f_m_now] at b_nw
  have b_nw : 0 ≤ nw.toInt ∧ nw.toInt ≤ 7999 := b_nw
  obtain ⟨np, f_m_persons⟩ : ∃ y : Int32, hl1.2.1 am 20 = y := ⟨_, rfl⟩
  have b_np := hT.gi gm tt_10 (k := 20) rfl
  rw [f_m_persons] at b_np
  have b_np : 0 ≤ np.toInt ∧ np.toInt ≤ 40 := b_np
  obtain ⟨c0, f_m_claims⟩ : ∃ y : Int32, hl1.2.1 am 36 = y := ⟨_, rfl⟩
  have b_c0 := hT.gi gm tt_10 (k := 36) rfl
  rw [f_m_claims] at b_c0
  have b_c0 : 0 ≤ c0.toInt ∧ c0.toInt ≤ 100 := b_c0
  obtain ⟨tl, f_m_taped⟩ : ∃ y : Int32, hl1.2.1 am 7 = y := ⟨_, rfl⟩
  have b_tl := hT.gi gm tt_10 (k := 7) rfl
  rw [f_m_taped] at b_tl
  have b_tl : 0 ≤ tl.toInt ∧ tl.toInt ≤ 400 := b_tl
  obtain ⟨a0, f_m_acts⟩ : ∃ y : Int32, hl1.2.1 am 1 = y := ⟨_, rfl⟩
  have b_a0 := hT.gi gm tt_10 (k := 1) rfl
  rw [f_m_acts] at b_a0
  have b_a0 : 0 ≤ a0.toInt ∧ a0.toInt ≤ 8 := b_a0
  obtain ⟨m0, f_m_heardMany⟩ : ∃ y : Int32, hl1.2.1 am 57 = y := ⟨_, rfl⟩
  have b_m0 := hT.gi gm tt_10 (k := 57) rfl
  rw [f_m_heardMany] at b_m0
  have b_m0 : 0 ≤ m0.toInt ∧ m0.toInt ≤ 100 := b_m0
  obtain ⟨ln, f_m_lines⟩ : ∃ y : Int32, hl1.2.1 am 29 = y := ⟨_, rfl⟩
  have b_ln := hT.gi gm tt_10 (k := 29) rfl
  rw [f_m_lines] at b_ln
  have b_ln : 0 ≤ ln.toInt ∧ ln.toInt ≤ 400 := b_ln
  obtain ⟨lsd, f_m_listed⟩ : ∃ y : Int32, hl1.2.1 am 90 = y := ⟨_, rfl⟩
  have b_lsd := hT.gi gm tt_10 (k := 90) rfl
  rw [f_m_listed] at b_lsd
  have b_lsd : 0 ≤ lsd.toInt ∧ lsd.toInt ≤ 8 := b_lsd
  obtain ⟨wkm, f_m_walkedMany⟩ : ∃ y : Int32, hl1.2.1 am 92 = y := ⟨_, rfl⟩
  have b_wkm := hT.gi gm tt_10 (k := 92) rfl
  rw [f_m_walkedMany] at b_wkm
  have b_wkm : 0 ≤ wkm.toInt ∧ wkm.toInt ≤ 8 := b_wkm
  obtain ⟨py, f_m_payments⟩ : ∃ y : Int32, hl1.2.1 am 59 = y := ⟨_, rfl⟩
  have b_py := hT.gi gm tt_10 (k := 59) rfl
  rw [f_m_payments] at b_py
  have b_py : 0 ≤ py.toInt ∧ py.toInt ≤ 600 := b_py
  have f_x_now : hl1.2.1 ax 2 = nw := he_nw.trans f_m_now
  have f_x_personCount : hl1.2.1 ax 8 = np := he_np.trans f_m_persons
  have f_x_claimCount : hl1.2.1 ax 11 = c0 := he_c0.trans f_m_claims
  have f_x_tapeLength : hl1.2.1 ax 1 = tl := he_tl.trans f_m_taped
  have f_x_actCount : hl1.2.1 ax 6 = a0 := he_a0.trans f_m_acts
  have f_x_heardCount : hl1.2.1 ax 13 = m0 := he_m0.trans f_m_heardMany
  obtain ⟨mw, f_mw, g_mw⟩ := hx_rf hT gm tt_10 (k := 19) (u := 57) rfl
  obtain ⟨F_mw, n_mw⟩ : ∃ g : Nat → Int32, hl1.2.1 mw = g := ⟨_, rfl⟩
  obtain ⟨mr, f_mr, g_mr⟩ := hx_rf hT gm tt_10 (k := 3) (u := 50) rfl
  obtain ⟨F_mr, n_mr⟩ : ∃ g : Nat → Int32, hl1.2.1 mr = g := ⟨_, rfl⟩
  obtain ⟨mp, f_mp, g_mp⟩ := hx_rf hT gm tt_10 (k := 5) (u := 52) rfl
  obtain ⟨F_mp, n_mp⟩ : ∃ g : Nat → Int32, hl1.2.1 mp = g := ⟨_, rfl⟩
  obtain ⟨mn, f_mn, g_mn⟩ := hx_rf hT gm tt_10 (k := 4) (u := 51) rfl
  obtain ⟨F_mn, n_mn⟩ : ∃ g : Nat → Int32, hl1.2.1 mn = g := ⟨_, rfl⟩
  obtain ⟨ml, f_ml, g_ml⟩ := hx_rf hT gm tt_10 (k := 44) (u := 79) rfl
  obtain ⟨F_ml, n_ml⟩ : ∃ g : Nat → Int32, hl1.2.1 ml = g := ⟨_, rfl⟩
  obtain ⟨mh, f_mh, g_mh⟩ := hx_rf hT gm tt_10 (k := 47) (u := 82) rfl
  obtain ⟨F_mh, n_mh⟩ : ∃ g : Nat → Int32, hl1.2.1 mh = g := ⟨_, rfl⟩
  obtain ⟨mt, f_mt, g_mt⟩ := hx_rf hT gm tt_10 (k := 45) (u := 80) rfl
  obtain ⟨F_mt, n_mt⟩ : ∃ g : Nat → Int32, hl1.2.1 mt = g := ⟨_, rfl⟩
  obtain ⟨m_fou, f_m_fou, g_m_fou⟩ := hx_rf hT gm tt_10 (k := 46) (u := 81) rfl
  obtain ⟨F_m_fou, n_m_fou⟩ : ∃ g : Nat → Int32, hl1.2.1 m_fou = g := ⟨_, rfl⟩
  obtain ⟨qo_ln, f_qo_ln, g_qo_ln⟩ := hx_rf hT gx tt_9 (k := 9) (u := 1) rfl
  have f_o_ln : hl1.2.1 qo_ln 0 = ln := (ho_ln qo_ln f_qo_ln).trans f_m_lines
  have f_o_lsd : hl1.2.1 qw 0 = lsd := (ho_lsd qw f_qw).trans f_m_listed
  have f_o_wkm : hl1.2.1 qw 1 = wkm := (ho_wkm qw f_qw).trans f_m_walkedMany
  obtain ⟨qo_py, f_qo_py, g_qo_py⟩ := hx_rf hT gx tt_9 (k := 14) (u := 3) rfl
  have f_o_py : hl1.2.1 qo_py 0 = py := (ho_py qo_py f_qo_py).trans f_m_payments
  have nu_qp := hn_qp qp f_qp; rw [f_x_personCount] at nu_qp
  have nu_qc := hn_qc qc f_qc; rw [f_x_claimCount] at nu_qc
  obtain ⟨b_of, f_b_of, g_b_of⟩ := hx_rf hT g_qo_ln tt_1 (k := 1) (u := 13) rfl
  obtain ⟨B_of, n_b_of⟩ : ∃ g : Nat → Int32, hl1.2.1 b_of = g := ⟨_, rfl⟩
  obtain ⟨m_of, f_m_of, g_m_of⟩ := hx_rf hT gm tt_10 (k := 30) (u := 66) rfl
  obtain ⟨F_of, n_m_of⟩ : ∃ g : Nat → Int32, hl1.2.1 m_of = g := ⟨_, rfl⟩
  have eb_of := hk_of qo_ln b_of m_of f_qo_ln f_b_of f_m_of; rw [n_b_of, n_m_of, f_o_ln] at eb_of
  obtain ⟨b_wf, f_b_wf, g_b_wf⟩ := hx_rf hT g_qo_ln tt_1 (k := 2) (u := 14) rfl
  obtain ⟨B_wf, n_b_wf⟩ : ∃ g : Nat → Int32, hl1.2.1 b_wf = g := ⟨_, rfl⟩
  obtain ⟨m_wf, f_m_wf, g_m_wf⟩ := hx_rf hT gm tt_10 (k := 31) (u := 67) rfl
  obtain ⟨F_wf, n_m_wf⟩ : ∃ g : Nat → Int32, hl1.2.1 m_wf = g := ⟨_, rfl⟩
  have eb_wf := hk_wf qo_ln b_wf m_wf f_qo_ln f_b_wf f_m_wf; rw [n_b_wf, n_m_wf, f_o_ln] at eb_wf
  obtain ⟨b_df, f_b_df, g_b_df⟩ := hx_rf hT g_qo_ln tt_1 (k := 3) (u := 15) rfl
  obtain ⟨B_df, n_b_df⟩ : ∃ g : Nat → Int32, hl1.2.1 b_df = g := ⟨_, rfl⟩
  obtain ⟨m_df, f_m_df, g_m_df⟩ := hx_rf hT gm tt_10 (k := 32) (u := 68) rfl
  obtain ⟨F_df, n_m_df⟩ : ∃ g : Nat → Int32, hl1.2.1 m_df = g := ⟨_, rfl⟩
  have eb_df := hk_df qo_ln b_df m_df f_qo_ln f_b_df f_m_df; rw [n_b_df, n_m_df, f_o_ln] at eb_df
  obtain ⟨b_kf, f_b_kf, g_b_kf⟩ := hx_rf hT g_qo_ln tt_1 (k := 4) (u := 16) rfl
  obtain ⟨B_kf, n_b_kf⟩ : ∃ g : Nat → Int32, hl1.2.1 b_kf = g := ⟨_, rfl⟩
  obtain ⟨m_kf, f_m_kf, g_m_kf⟩ := hx_rf hT gm tt_10 (k := 33) (u := 69) rfl
  obtain ⟨F_kf, n_m_kf⟩ : ∃ g : Nat → Int32, hl1.2.1 m_kf = g := ⟨_, rfl⟩
  have eb_kf := hk_kf qo_ln b_kf m_kf f_qo_ln f_b_kf f_m_kf; rw [n_b_kf, n_m_kf, f_o_ln] at eb_kf
  obtain ⟨b_sf, f_b_sf, g_b_sf⟩ := hx_rf hT g_qo_ln tt_1 (k := 5) (u := 17) rfl
  obtain ⟨B_sf, n_b_sf⟩ : ∃ g : Nat → Int32, hl1.2.1 b_sf = g := ⟨_, rfl⟩
  obtain ⟨m_sf, f_m_sf, g_m_sf⟩ := hx_rf hT gm tt_10 (k := 34) (u := 70) rfl
  obtain ⟨F_sf, n_m_sf⟩ : ∃ g : Nat → Int32, hl1.2.1 m_sf = g := ⟨_, rfl⟩
  have eb_sf := hk_sf qo_ln b_sf m_sf f_qo_ln f_b_sf f_m_sf; rw [n_b_sf, n_m_sf, f_o_ln] at eb_sf
  obtain ⟨b_bf, f_b_bf, g_b_bf⟩ := hx_rf hT g_qo_ln tt_1 (k := 6) (u := 18) rfl
  obtain ⟨bfL, n_b_bf⟩ : ∃ g : Nat → Int32, hl1.2.1 b_bf = g := ⟨_, rfl⟩
  obtain ⟨hBD, hDY⟩ := hkBD qo_ln b_df b_bf f_qo_ln f_b_df f_b_bf; rw [n_b_df, n_b_bf, f_o_ln] at hBD; rw [n_b_df, f_o_ln] at hDY
  have hBDm := hy_BD_c eb_df hBD
  have hDYm : hy_DY F_df ln.toInt.toNat := fun x hx => by rw [← eb_df x hx]; exact hDY x hx
  have sb_list := hLQ qw ql qc f_qw f_ql f_qc
  obtain ⟨m_lst, f_m_lst, g_m_lst⟩ := hx_rf hT gm tt_10 (k := 91) (u := 112) rfl
  obtain ⟨F_lst, n_lst⟩ : ∃ g : Nat → Int32, hl1.2.1 m_lst = g := ⟨_, rfl⟩
  obtain ⟨c_lst, cl_lst⟩ : ∃ g : Nat → Int32, hx_col 8 hl1 ql 0 = g := ⟨_, rfl⟩
  have eq_lst := hLE qw ql m_lst f_qw f_ql f_m_lst; rw [cl_lst, n_lst] at eq_lst
  obtain ⟨qtp, f_qtp, g_qtp⟩ := hx_rf hT gx tt_9 (k := 0) (u := 42) rfl
  obtain ⟨m_tp, f_m_tp, g_m_tp⟩ := hx_rf hT gm tt_10 (k := 6) (u := 53) rfl
  obtain ⟨F_tp, n_tp⟩ : ∃ g : Nat → Int32, hl1.2.1 m_tp = g := ⟨_, rfl⟩
  have n_qtp : hl1.2.1 qtp = F_tp := (hkTP qtp m_tp f_qtp f_m_tp).trans n_tp
  obtain ⟨c_dead, cl_dead⟩ : ∃ g : Nat → Int32, hx_col 40 hl1 qp 7 = g := ⟨_, rfl⟩
  obtain ⟨m_dead, f_m_dead, g_m_dead⟩ := hx_rf hT gm tt_10 (k := 27) (u := 64) rfl
  obtain ⟨F_dead, n_dead⟩ : ∃ g : Nat → Int32, hl1.2.1 m_dead = g := ⟨_, rfl⟩
  have eq_dead := hc_dead qp m_dead f_qp f_m_dead; rw [cl_dead, n_dead] at eq_dead
  have z_dead : np.toInt.toNat < 40 → c_dead np.toInt.toNat = 0 := fun hj => hx_num_z nu_qp cl_dead hj ?o0
  case o0 => omega
  obtain ⟨c_isj, cl_isj⟩ : ∃ g : Nat → Int32, hx_col 40 hl1 qp 8 = g := ⟨_, rfl⟩
  obtain ⟨m_isj, f_m_isj, g_m_isj⟩ := hx_rf hT gm tt_10 (k := 28) (u := 65) rfl
  obtain ⟨F_isj, n_isj⟩ : ∃ g : Nat → Int32, hl1.2.1 m_isj = g := ⟨_, rfl⟩
  have eq_isj := hc_isj qp m_isj f_qp f_m_isj; rw [cl_isj, n_isj] at eq_isj
  have z_isj : np.toInt.toNat < 40 → c_isj np.toInt.toNat = 0 := fun hj => hx_num_z nu_qp cl_isj hj ?o1
  case o1 => omega
  obtain ⟨c_dox, cl_dox⟩ : ∃ g : Nat → Int32, hx_col 40 hl1 qp 5 = g := ⟨_, rfl⟩
  obtain ⟨m_dox, f_m_dox, g_m_dox⟩ := hx_rf hT gm tt_10 (k := 24) (u := 61) rfl
  obtain ⟨F_dox, n_dox⟩ : ∃ g : Nat → Int32, hl1.2.1 m_dox = g := ⟨_, rfl⟩
  have eq_dox := hc_dox qp m_dox f_qp f_m_dox; rw [cl_dox, n_dox] at eq_dox
  have z_dox : np.toInt.toNat < 40 → c_dox np.toInt.toNat = 0 := fun hj => hx_num_z nu_qp cl_dox hj ?o2
  case o2 => omega
  obtain ⟨c_doy, cl_doy⟩ : ∃ g : Nat → Int32, hx_col 40 hl1 qp 6 = g := ⟨_, rfl⟩
  obtain ⟨m_doy, f_m_doy, g_m_doy⟩ := hx_rf hT gm tt_10 (k := 25) (u := 62) rfl
  obtain ⟨F_doy, n_doy⟩ : ∃ g : Nat → Int32, hl1.2.1 m_doy = g := ⟨_, rfl⟩
  have eq_doy := hc_doy qp m_doy f_qp f_m_doy; rw [cl_doy, n_doy] at eq_doy
  have z_doy : np.toInt.toNat < 40 → c_doy np.toInt.toNat = 0 := fun hj => hx_num_z nu_qp cl_doy hj ?o3
  case o3 => omega
  obtain ⟨c_fou, cl_fou⟩ : ∃ g : Nat → Int32, hx_col 100 hl1 qc 10 = g := ⟨_, rfl⟩
  have eq_fou := hc_fou qc m_fou f_qc f_m_fou; rw [cl_fou, n_m_fou] at eq_fou
  have z_fou : c0.toInt.toNat < 100 → c_fou c0.toInt.toNat = 0 := fun hj => hx_num_z nu_qc cl_fou hj ?o4
  case o4 => omega
  obtain ⟨c_tri, cl_tri⟩ : ∃ g : Nat → Int32, hx_col 100 hl1 qc 9 = g := ⟨_, rfl⟩
  have eq_tri := hc_tri qc mt f_qc f_mt; rw [cl_tri, n_mt] at eq_tri
  have z_tri : c0.toInt.toNat < 100 → c_tri c0.toInt.toNat = 0 := fun hj => hx_num_z nu_qc cl_tri hj ?o5
  case o5 => omega
  obtain ⟨qlt, f_qlt, g_qlt⟩ := hx_rf hT g_qw tt_8 (k := 2) (u := 39) rfl
  obtain ⟨qlf, f_qlf, g_qlf⟩ := hx_rf hT g_qw tt_8 (k := 4) (u := 41) rfl
  obtain ⟨m_wkd, f_m_wkd, g_m_wkd⟩ := hx_rf hT gm tt_10 (k := 93) (u := 113) rfl
  obtain ⟨F_qlt, n_qlt⟩ : ∃ g : Nat → Int32, hl1.2.1 qlt = g := ⟨_, rfl⟩
  obtain ⟨F_m_wkd, n_m_wkd⟩ : ∃ g : Nat → Int32, hl1.2.1 m_wkd = g := ⟨_, rfl⟩
  have eb_wkd := hkWD qw qlt m_wkd f_qw f_qlt f_m_wkd; rw [n_qlt, n_m_wkd, f_o_wkm] at eb_wkd
  obtain ⟨m_aga, f_m_aga, g_m_aga⟩ := hx_rf hT gm tt_10 (k := 38) (u := 73) rfl
  obtain ⟨F_aga, n_aga⟩ : ∃ g : Nat → Int32, hl1.2.1 m_aga = g := ⟨_, rfl⟩
  have hDF := hkDF qc qp m_aga f_qc f_qp f_m_aga; rw [n_aga, f_x_claimCount] at hDF
  obtain ⟨qwo, f_qwo, g_qwo⟩ := hx_rf hT gx tt_9 (k := 4) (u := 0) rfl
  obtain ⟨m_ad, f_m_ad, g_m_ad⟩ := hx_rf hT gm tt_10 (k := 2) (u := 49) rfl
  obtain ⟨F_ad, n_ad⟩ : ∃ g : Nat → Int32, hl1.2.1 m_ad = g := ⟨_, rfl⟩
  obtain ⟨A9, hRA9, hCA9, hAC9, hAB⟩ := hkAC qa qwo m_ad mr mn mp qc ml f_qa f_qwo f_m_ad f_mr f_mn f_mp f_qc f_ml
  rw [f_x_actCount] at hRA9; rw [f_x_actCount, n_ad, n_mr, n_mn, n_mp] at hCA9
  obtain ⟨m_by, f_m_by, g_m_by⟩ := hx_rf hT gm tt_10 (k := 37) (u := 72) rfl
  obtain ⟨F_by, n_by⟩ : ∃ g : Nat → Int32, hl1.2.1 m_by = g := ⟨_, rfl⟩
  obtain ⟨m_ho, f_m_ho, g_m_ho⟩ := hx_rf hT gm tt_10 (k := 58) (u := 92) rfl
  obtain ⟨F_ho, n_ho⟩ : ∃ g : Nat → Int32, hl1.2.1 m_ho = g := ⟨_, rfl⟩
  obtain ⟨m_fc, f_m_fc, g_m_fc⟩ := hx_rf hT gm tt_10 (k := 53) (u := 88) rfl
  obtain ⟨F_fc, n_fc⟩ : ∃ g : Nat → Int32, hl1.2.1 m_fc = g := ⟨_, rfl⟩
  obtain ⟨m_nt, f_m_nt, g_m_nt⟩ := hx_rf hT gm tt_10 (k := 41) (u := 76) rfl
  obtain ⟨F_nt, n_nt⟩ : ∃ g : Nat → Int32, hl1.2.1 m_nt = g := ⟨_, rfl⟩
  obtain ⟨m_wt, f_m_wt, g_m_wt⟩ := hx_rf hT gm tt_10 (k := 42) (u := 77) rfl
  obtain ⟨F_wt, n_wt⟩ : ∃ g : Nat → Int32, hl1.2.1 m_wt = g := ⟨_, rfl⟩
  obtain ⟨m_be, f_m_be, g_m_be⟩ := hx_rf hT gm tt_10 (k := 52) (u := 87) rfl
  obtain ⟨F_be, n_be⟩ : ∃ g : Nat → Int32, hl1.2.1 m_be = g := ⟨_, rfl⟩
  obtain ⟨m_bor, f_m_bor, g_m_bor⟩ := hx_rf hT gm tt_10 (k := 21) (u := 58) rfl
  obtain ⟨F_bor, n_bor⟩ : ∃ g : Nat → Int32, hl1.2.1 m_bor = g := ⟨_, rfl⟩
  obtain ⟨m_kin, f_m_kin, g_m_kin⟩ := hx_rf hT gm tt_10 (k := 26) (u := 63) rfl
  obtain ⟨F_kin, n_kin⟩ : ∃ g : Nat → Int32, hl1.2.1 m_kin = g := ⟨_, rfl⟩
  obtain ⟨m_sum, f_m_sum, g_m_sum⟩ := hx_rf hT gm tt_10 (k := 39) (u := 74) rfl
  obtain ⟨F_sum, n_sum⟩ : ∃ g : Nat → Int32, hl1.2.1 m_sum = g := ⟨_, rfl⟩
  obtain ⟨m_fro, f_m_fro, g_m_fro⟩ := hx_rf hT gm tt_10 (k := 40) (u := 75) rfl
  obtain ⟨F_fro, n_fro⟩ : ∃ g : Nat → Int32, hl1.2.1 m_fro = g := ⟨_, rfl⟩
  obtain ⟨m_fil, f_m_fil, g_m_fil⟩ := hx_rf hT gm tt_10 (k := 43) (u := 78) rfl
  obtain ⟨F_fil, n_fil⟩ : ∃ g : Nat → Int32, hl1.2.1 m_fil = g := ⟨_, rfl⟩
  obtain ⟨m_jud, f_m_jud, g_m_jud⟩ := hx_rf hT gm tt_10 (k := 51) (u := 86) rfl
  obtain ⟨F_jud, n_jud⟩ : ∃ g : Nat → Int32, hl1.2.1 m_jud = g := ⟨_, rfl⟩
  obtain ⟨m_ear, f_m_ear, g_m_ear⟩ := hx_rf hT gm tt_10 (k := 22) (u := 59) rfl
  obtain ⟨F_ear, n_ear⟩ : ∃ g : Nat → Int32, hl1.2.1 m_ear = g := ⟨_, rfl⟩
  obtain ⟨m_hds, f_m_hds, g_m_hds⟩ := hx_rf hT gm tt_10 (k := 23) (u := 60) rfl
  obtain ⟨F_hds, n_hds⟩ : ∃ g : Nat → Int32, hl1.2.1 m_hds = g := ⟨_, rfl⟩
  obtain ⟨m_ord, f_m_ord, g_m_ord⟩ := hx_rf hT gm tt_10 (k := 48) (u := 83) rfl
  obtain ⟨F_ord, n_ord⟩ : ∃ g : Nat → Int32, hl1.2.1 m_ord = g := ⟨_, rfl⟩
  obtain ⟨m_wkl, f_m_wkl, g_m_wkl⟩ := hx_rf hT gm tt_10 (k := 54) (u := 89) rfl
  obtain ⟨F_wkl, n_wkl⟩ : ∃ g : Nat → Int32, hl1.2.1 m_wkl = g := ⟨_, rfl⟩
  obtain ⟨m_owd, f_m_owd, g_m_owd⟩ := hx_rf hT gm tt_10 (k := 55) (u := 90) rfl
  obtain ⟨F_owd, n_owd⟩ : ∃ g : Nat → Int32, hl1.2.1 m_owd = g := ⟨_, rfl⟩
  obtain ⟨m_gds, f_m_gds, g_m_gds⟩ := hx_rf hT gm tt_10 (k := 56) (u := 91) rfl
  obtain ⟨F_gds, n_gds⟩ : ∃ g : Nat → Int32, hl1.2.1 m_gds = g := ⟨_, rfl⟩
  obtain ⟨m_szd, f_m_szd, g_m_szd⟩ := hx_rf hT gm tt_10 (k := 49) (u := 84) rfl
  obtain ⟨F_szd, n_szd⟩ : ∃ g : Nat → Int32, hl1.2.1 m_szd = g := ⟨_, rfl⟩
  obtain ⟨m_srv, f_m_srv, g_m_srv⟩ := hx_rf hT gm tt_10 (k := 50) (u := 85) rfl
  obtain ⟨F_srv, n_srv⟩ : ∃ g : Nat → Int32, hl1.2.1 m_srv = g := ⟨_, rfl⟩
  have cl_bor : hx_col 40 hl1 qp 1 = F_bor := (hf_bor qp m_bor f_qp f_m_bor).trans n_bor
  have cl_kin : hx_col 40 hl1 qp 2 = F_kin := (hf_kin qp m_kin f_qp f_m_kin).trans n_kin
  have cl_sum : hx_col 100 hl1 qc 6 = F_sum := (hf_sum qc m_sum f_qc f_m_sum).trans n_sum
  have cl_fro : hx_col 100 hl1 qc 7 = F_fro := (hf_fro qc m_fro f_qc f_m_fro).trans n_fro
  have cl_fil : hx_col 100 hl1 qc 8 = F_fil := (hf_fil qc m_fil f_qc f_m_fil).trans n_fil
  have cl_hea : hx_col 100 hl1 qc 11 = F_mh := (hf_hea qc mh f_qc f_mh).trans n_mh
  have cl_jud : hx_col 100 hl1 qc 12 = F_jud := (hf_jud qc m_jud f_qc f_m_jud).trans n_jud
  have cl_ear : hx_col 40 hl1 qp 3 = F_ear := (hf_ear qp m_ear f_qp f_m_ear).trans n_ear
  have cl_hds : hx_col 40 hl1 qp 4 = F_hds := (hf_hds qp m_hds f_qp f_m_hds).trans n_hds
  have cl_ord : hx_col 100 hl1 qc 13 = F_ord := (hf_ord qc m_ord f_qc f_m_ord).trans n_ord
  have cl_wkl : hx_col 100 hl1 qc 14 = F_wkl := (hf_wkl qc m_wkl f_qc f_m_wkl).trans n_wkl
  have cl_owd : hx_col 100 hl1 qc 15 = F_owd := (hf_owd qc m_owd f_qc f_m_owd).trans n_owd
  have cl_gds : hx_col 100 hl1 qc 17 = F_gds := (hf_gds qc m_gds f_qc f_m_gds).trans n_gds
  have cl_szd : hx_col 100 hl1 qc 16 = F_szd := (hf_szd qc m_szd f_qc f_m_szd).trans n_szd
  have cl_srv : hx_col 100 hl1 qc 18 = F_srv := (hf_srv qc m_srv f_qc f_m_srv).trans n_srv
  have htb9 : ∀ c, c < 100 → 0 ≤ (c_tri c).toInt ∧ (c_tri c).toInt ≤ 512 := fun c hc => by rw [eq_tri c hc]; have w := hT.ei g_mt tt_80 (k := c) hc; rw [n_mt] at w; exact w
  have z_jud : F_jud c0.toInt.toNat = 0 := hx_num_z2 nu_qc cl_jud ?o6
  case o6 => omega
  have hDP := hkDP qc qp m_by f_qc f_qp f_m_by; rw [n_by, f_x_claimCount] at hDP
  have hHL := hkHL qh qc m_ho f_qh f_qc f_m_ho; rw [n_ho, f_x_heardCount, f_x_claimCount] at hHL
  have hHO9 := hkHO m_ho mh f_m_ho f_mh; rw [n_ho, n_mh, f_m_heardMany, f_m_claims] at hHO9
  obtain ⟨cF9L, hFX, hFR9⟩ := hkFX qc m_fc m_nt m_wt m_sum mh f_qc f_m_fc f_m_nt f_m_wt f_m_sum f_mh; rw [f_x_claimCount] at hFX; rw [n_fc, n_nt, n_wt, n_sum, n_mh, f_x_claimCount] at hFR9
  have hBX := hkBX qc m_be f_qc f_m_be; rw [n_be, f_x_claimCount] at hBX
  rw [n_ml, f_x_claimCount] at hAC9
  obtain ⟨y_p0, f_y_p0, g_y_p0⟩ := hx_rf hT g_qo_py tt_3 (k := 2) (u := 23) rfl
  obtain ⟨m_p0, f_m_p0, g_m_p0⟩ := hx_rf hT gm tt_10 (k := 60) (u := 93) rfl
  obtain ⟨F_p0, n_p0⟩ : ∃ g : Nat → Int32, hl1.2.1 m_p0 = g := ⟨_, rfl⟩
  have n_y_p0 : hl1.2.1 y_p0 = F_p0 := (hkP0 qo_py y_p0 m_p0 f_qo_py f_y_p0 f_m_p0).trans n_p0
  obtain ⟨y_p1, f_y_p1, g_y_p1⟩ := hx_rf hT g_qo_py tt_3 (k := 3) (u := 24) rfl
  obtain ⟨m_p1, f_m_p1, g_m_p1⟩ := hx_rf hT gm tt_10 (k := 61) (u := 94) rfl
  obtain ⟨F_p1, n_p1⟩ : ∃ g : Nat → Int32, hl1.2.1 m_p1 = g := ⟨_, rfl⟩
  have n_y_p1 : hl1.2.1 y_p1 = F_p1 := (hkP1 qo_py y_p1 m_p1 f_qo_py f_y_p1 f_m_p1).trans n_p1
  obtain ⟨y_p2, f_y_p2, g_y_p2⟩ := hx_rf hT g_qo_py tt_3 (k := 5) (u := 26) rfl
  obtain ⟨m_p2, f_m_p2, g_m_p2⟩ := hx_rf hT gm tt_10 (k := 62) (u := 95) rfl
  obtain ⟨F_p2, n_p2⟩ : ∃ g : Nat → Int32, hl1.2.1 m_p2 = g := ⟨_, rfl⟩
  have n_y_p2 : hl1.2.1 y_p2 = F_p2 := (hkP2 qo_py y_p2 m_p2 f_qo_py f_y_p2 f_m_p2).trans n_p2
  obtain ⟨y_p3, f_y_p3, g_y_p3⟩ := hx_rf hT g_qo_py tt_3 (k := 4) (u := 25) rfl
  obtain ⟨m_p3, f_m_p3, g_m_p3⟩ := hx_rf hT gm tt_10 (k := 63) (u := 96) rfl
  obtain ⟨F_p3, n_p3⟩ : ∃ g : Nat → Int32, hl1.2.1 m_p3 = g := ⟨_, rfl⟩
  have n_y_p3 : hl1.2.1 y_p3 = F_p3 := (hkP3 qo_py y_p3 m_p3 f_qo_py f_y_p3 f_m_p3).trans n_p3
  obtain ⟨y_p4, f_y_p4, g_y_p4⟩ := hx_rf hT g_qo_py tt_3 (k := 1) (u := 22) rfl
  obtain ⟨m_p4, f_m_p4, g_m_p4⟩ := hx_rf hT gm tt_10 (k := 64) (u := 97) rfl
  obtain ⟨F_p4, n_p4⟩ : ∃ g : Nat → Int32, hl1.2.1 m_p4 = g := ⟨_, rfl⟩
  have n_y_p4 : hl1.2.1 y_p4 = F_p4 := (hkP4 qo_py y_p4 m_p4 f_qo_py f_y_p4 f_m_p4).trans n_p4
  obtain ⟨qrg9, f_qrg9, g_qrg9⟩ := hx_rf hT gx tt_9 (k := 18) (u := 7) rfl
  obtain ⟨y_ls, f_y_ls, g_y_ls⟩ := hx_rf hT g_qrg9 tt_7 (k := 3) (u := 35) rfl
  obtain ⟨m_rl, f_m_rl, g_m_rl⟩ := hx_rf hT gm tt_10 (k := 85) (u := 109) rfl
  obtain ⟨F_y_ls, n_y_ls⟩ : ∃ g : Nat → Int32, hl1.2.1 y_ls = g := ⟨_, rfl⟩
  obtain ⟨F_m_rl, n_m_rl⟩ : ∃ g : Nat → Int32, hl1.2.1 m_rl = g := ⟨_, rfl⟩
  obtain ⟨fv_808, efv_808⟩ : ∃ y : Int32, y = hl1.2.1 qrg9 0 := ⟨_, rfl⟩
  have bfv_808 := hT.gi g_qrg9 tt_7 (k := 0) rfl
  rw [← efv_808] at bfv_808
  have bfv_808 : -1 ≤ fv_808.toInt ∧ fv_808.toInt ≤ 100 := bfv_808
  have ffv_808 := efv_808.symm
  obtain ⟨fv_809, efv_809⟩ : ∃ y : Int32, y = hl1.2.1 am 83 := ⟨_, rfl⟩
  have bfv_809 := hT.gi gm tt_10 (k := 83) rfl
  rw [← efv_809] at bfv_809
  have bfv_809 : 0 ≤ fv_809.toInt ∧ fv_809.toInt ≤ 1 := bfv_809
  have ffv_809 := efv_809.symm
  obtain ⟨fv_810, efv_810⟩ : ∃ y : Int32, y = hl1.2.1 am 84 := ⟨_, rfl⟩
  have bfv_810 := hT.gi gm tt_10 (k := 84) rfl
  rw [← efv_810] at bfv_810
  have bfv_810 : 0 ≤ fv_810.toInt ∧ fv_810.toInt ≤ 300 := bfv_810
  have ffv_810 := efv_810.symm
  have hNQ9 := hkNQ qrg9 f_qrg9; rw [ffv_808, ffv_809, ffv_810] at hNQ9
  have hRL9 := hkRL qrg9 y_ls m_rl f_qrg9 f_y_ls f_m_rl; rw [n_y_ls, n_m_rl, ffv_808] at hRL9
  have hCB : hz_CB F_ord F_wkl F_owd F_szd F_gds F_srv := fun c hc => ⟨by have w := hT.ei g_m_ord tt_83 (k := c) (by omega); rw [n_ord] at w; exact w, by have w := hT.ei g_m_wkl tt_89 (k := c) (by omega); rw [n_wkl] at w; exact w, by have w := hT.ei g_m_owd tt_90 (k := c) (by omega); rw [n_owd] at w; exact w, by have w := hT.ei g_m_szd tt_84 (k := c) (by omega); rw [n_szd] at w; exact w, by have w := hT.ei g_m_gds tt_91 (k := c) (by omega); rw [n_gds] at w; exact w, by have w := hT.ei g_m_srv tt_85 (k := c) (by omega); rw [n_srv] at w; exact w⟩
  have hps : ∀ j, j < 600 → 0 ≤ (F_p2 j).toInt ∧ (F_p2 j).toInt ≤ 610000 := fun j hj => by have w := hT.ei g_m_p2 tt_95 (k := j) (by omega); rw [n_p2] at w; exact w
  have hte9 : ∀ c : Nat, c < 100 → (0 ≤ (c_tri c).toInt ∧ (c_tri c).toInt ≤ 512) ∧ (0 ≤ (F_sum c).toInt ∧ (F_sum c).toInt ≤ 9999) := fun c hc => ⟨htb9 c hc, by have w := hT.ei g_m_sum tt_74 (k := c) (by omega); rw [n_sum] at w; exact w⟩
  have hee9 : ∀ c : Nat, c < 40 → (0 ≤ (F_ear c).toInt ∧ (F_ear c).toInt ≤ 9999) ∧ (0 ≤ (F_hds c).toInt ∧ (F_hds c).toInt ≤ 20) := fun c hc => ⟨by have w := hT.ei g_m_ear tt_59 (k := c) (by omega); rw [n_ear] at w; exact w, by have w := hT.ei g_m_hds tt_60 (k := c) (by omega); rw [n_hds] at w; exact w⟩
  have bAG9 : ∀ k, k < 100 → 0 ≤ (F_aga k).toInt ∧ (F_aga k).toInt ≤ 39 := fun k hk => by have w := hT.ei g_m_aga tt_73 (k := k) (by omega); rw [n_aga] at w; exact w
  have bBY9 : ∀ k, k < 100 → 0 ≤ (F_by k).toInt ∧ (F_by k).toInt ≤ 39 := fun k hk => by have w := hT.ei g_m_by tt_72 (k := k) (by omega); rw [n_by] at w; exact w
  have hag9 : ∀ c, c < c0.toInt.toNat → 0 ≤ (F_aga c).toInt ∧ (F_aga c).toInt < 40 ∧ 0 ≤ (F_by c).toInt ∧ (F_by c).toInt < 40 := fun c hc => by have a9 := bAG9 c (by omega); have b9 := bBY9 c (by omega); omega
  have z_wkl : F_wkl c0.toInt.toNat = 0 := hx_num_z2 nu_qc cl_wkl ?o7
  case o7 => omega
  have z_owd : F_owd c0.toInt.toNat = 0 := hx_num_z2 nu_qc cl_owd ?o8
  case o8 => omega
  have z_gds : F_gds c0.toInt.toNat = 0 := hx_num_z2 nu_qc cl_gds ?o9
  case o9 => omega
  have hwd := jw mw f_mw; rw [n_mw] at hwd
  have hWK := jr mr f_mr; rw [n_mr, f_m_acts] at hWK
  have hRP := jp mp mn f_mp f_mn; rw [n_mp, n_mn, f_m_acts] at hRP
  have hPL := jl ml f_ml; rw [n_ml, f_m_claims, f_m_acts] at hPL
  have hHC := jh mh f_mh; rw [n_mh, f_m_heardMany, f_m_claims] at hHC
  have hTR := jt mt f_mt; rw [n_mt] at hTR
  have hHF := jf mh m_fou f_mh f_m_fou; rw [n_mh, n_m_fou, f_m_claims] at hHF
  refine lv_aload_n hx hb dL_law_1231 rfl (lv_at hl 2 rfl) ?_
  refine lv_aload_n hx hb dL_law_1232 rfl (lv_at hl 3 rfl) ?_
  refine lv_iload_n hx hb dL_law_1233 rfl (lv_at hl 0 rfl) ?_
  refine lv_iconst (v := 1) hx hb dL_law_1234 ?o10 ?_
  case o10 => decide
  refine lv_iadd hx hb dL_law_1235 ?_
  have rg_811 := i32_r i
  refine lv_topi (fun x_812 ex_812 => ?_)
  have zx_812 : x_812.toInt = i.toInt + 1 := ?o11
  case o11 =>
    rw [ex_812]
    refine i32_add rfl ?o12 ?o13 ?o14
    case o12 => decide
    case o13 => omega
    case o14 => omega
  refine va_sld hx hb hX hbl hbA hW.2.2.2.1 (vp_in_iff.mpr ⟨?o15, ?o16⟩) dL_law_1236 ?_
  case o15 => omega
  case o16 => omega
  refine lv_topi (fun x_813 ex_813 => ?_)
  have hTo := hT
  refine hx_goi (hx_runV (As := [.int x_813]) (rest := []) ⟨hx, hb, hml, hown, hts⟩ hW gx tt_9 (T := TX9) (N := 20) rfl (t_X9_list_2 l dC dI dA L1 hl1 H.size ax x_813 hT gx qc g_qc f_qc qw g_qw f_qw ql g_ql f_ql c0 f_x_claimCount lsd f_o_lsd c_fou cl_fou c_lst cl_lst nu_qc sb_list pf_qc pf_ql) (cwV 1 hts (hx_gV kw_1039 kw_1036 kw_1037 kw_1038 kw_94) rfl rfl rfl (by decide +kernel) ⟨Nat.le_of_ble_eq_true rfl, Nat.le_of_ble_eq_true rfl⟩) rfl hl.1 rfl (Nat.le_of_ble_eq_true rfl) dL_law_1237 ⟨(show CC + 0 ≤ 600000 from ?o17), (show SS + 0 ≤ 7302250 from ?o18)⟩) hW (fun r_816 L_814 h_815 H locs p_817 hW => ?_)
  case o17 => omega
  case o18 => omega
  obtain ⟨⟨w_820, w_821, fw_820, fw_821, hr_818⟩, hT, hs, pf_819⟩ := p_817
  obtain ⟨sb_822, hr_818⟩ := hr_818
  replace hT : hx_T T_tb L_814 h_815 := hT
  replace hs : hx_S T_tb [(8, 0), (40, 0)] L1 hl1 L_814 h_815 := hs
  replace f_qa := (hs.o gx trivial rfl).2.trans f_qa
  replace f_qp := (hs.o gx trivial rfl).2.trans f_qp
  replace f_qc := (hs.o gx trivial rfl).2.trans f_qc
  replace f_qh := (hs.o gx trivial rfl).2.trans f_qh
  replace f_qw := (hs.o gx trivial rfl).2.trans f_qw
  replace f_ql := (hs.o g_qw trivial rfl).2.trans f_ql
  replace f_m_now := (hs.o gm trivial rfl).1.trans f_m_now
  replace f_m_persons := (hs.o gm trivial rfl).1.trans f_m_persons
  replace f_m_claims := (hs.o gm trivial rfl).1.trans f_m_claims
  replace f_m_taped := (hs.o gm trivial rfl).1.trans f_m_taped
  replace f_m_acts := (hs.o gm trivial rfl).1.trans f_m_acts
  replace f_m_heardMany := (hs.o gm trivial rfl).1.trans f_m_heardMany
  replace f_m_lines := (hs.o gm trivial rfl).1.trans f_m_lines
  replace f_m_listed := (hs.o gm trivial rfl).1.trans f_m_listed
  replace f_m_walkedMany := (hs.o gm trivial rfl).1.trans f_m_walkedMany
  replace f_m_payments := (hs.o gm trivial rfl).1.trans f_m_payments
  replace f_x_now := (hs.o gx trivial rfl).1.trans f_x_now
  replace f_x_personCount := (hs.o gx trivial rfl).1.trans f_x_personCount
  replace f_x_claimCount := (hs.o gx trivial rfl).1.trans f_x_claimCount
  replace f_x_tapeLength := (hs.o gx trivial rfl).1.trans f_x_tapeLength
  replace f_x_actCount := (hs.o gx trivial rfl).1.trans f_x_actCount
  replace f_x_heardCount := (hs.o gx trivial rfl).1.trans f_x_heardCount
  replace f_mw := (hs.o gm trivial rfl).2.trans f_mw
  replace f_mr := (hs.o gm trivial rfl).2.trans f_mr
  replace f_mp := (hs.o gm trivial rfl).2.trans f_mp
  replace f_mn := (hs.o gm trivial rfl).2.trans f_mn
  replace f_ml := (hs.o gm trivial rfl).2.trans f_ml
  replace f_mh := (hs.o gm trivial rfl).2.trans f_mh
  replace f_mt := (hs.o gm trivial rfl).2.trans f_mt
  replace f_m_fou := (hs.o gm trivial rfl).2.trans f_m_fou
  replace f_qo_ln := (hs.o gx trivial rfl).2.trans f_qo_ln
  replace f_o_ln := (hs.o g_qo_ln trivial rfl).1.trans f_o_ln
  replace f_o_wkm := (hs.o g_qw trivial rfl).1.trans f_o_wkm
  replace f_qo_py := (hs.o gx trivial rfl).2.trans f_qo_py
  replace f_o_py := (hs.o g_qo_py trivial rfl).1.trans f_o_py
  replace f_b_of := (hs.o g_qo_ln trivial rfl).2.trans f_b_of
  replace f_m_of := (hs.o gm trivial rfl).2.trans f_m_of
  replace f_b_wf := (hs.o g_qo_ln trivial rfl).2.trans f_b_wf
  replace f_m_wf := (hs.o gm trivial rfl).2.trans f_m_wf
  replace f_b_df := (hs.o g_qo_ln trivial rfl).2.trans f_b_df
  replace f_m_df := (hs.o gm trivial rfl).2.trans f_m_df
  replace f_b_kf := (hs.o g_qo_ln trivial rfl).2.trans f_b_kf
  replace f_m_kf := (hs.o gm trivial rfl).2.trans f_m_kf
  replace f_b_sf := (hs.o g_qo_ln trivial rfl).2.trans f_b_sf
  replace f_m_sf := (hs.o gm trivial rfl).2.trans f_m_sf
  replace f_b_bf := (hs.o g_qo_ln trivial rfl).2.trans f_b_bf
  replace f_m_lst := (hs.o gm trivial rfl).2.trans f_m_lst
  replace f_qtp := (hs.o gx trivial rfl).2.trans f_qtp
  replace f_m_tp := (hs.o gm trivial rfl).2.trans f_m_tp
  replace f_m_dead := (hs.o gm trivial rfl).2.trans f_m_dead
  replace f_m_isj := (hs.o gm trivial rfl).2.trans f_m_isj
  replace f_m_dox := (hs.o gm trivial rfl).2.trans f_m_dox
  replace f_m_doy := (hs.o gm trivial rfl).2.trans f_m_doy
  replace f_qlt := (hs.o g_qw trivial rfl).2.trans f_qlt
  replace f_qlf := (hs.o g_qw trivial rfl).2.trans f_qlf
  replace f_m_wkd := (hs.o gm trivial rfl).2.trans f_m_wkd
  replace f_m_aga := (hs.o gm trivial rfl).2.trans f_m_aga
  replace f_qwo := (hs.o gx trivial rfl).2.trans f_qwo
  replace f_m_ad := (hs.o gm trivial rfl).2.trans f_m_ad
  replace f_m_by := (hs.o gm trivial rfl).2.trans f_m_by
  replace f_m_ho := (hs.o gm trivial rfl).2.trans f_m_ho
  replace f_m_fc := (hs.o gm trivial rfl).2.trans f_m_fc
  replace f_m_nt := (hs.o gm trivial rfl).2.trans f_m_nt
  replace f_m_wt := (hs.o gm trivial rfl).2.trans f_m_wt
  replace f_m_be := (hs.o gm trivial rfl).2.trans f_m_be
  replace f_m_bor := (hs.o gm trivial rfl).2.trans f_m_bor
  replace f_m_kin := (hs.o gm trivial rfl).2.trans f_m_kin
  replace f_m_sum := (hs.o gm trivial rfl).2.trans f_m_sum
  replace f_m_fro := (hs.o gm trivial rfl).2.trans f_m_fro
  replace f_m_fil := (hs.o gm trivial rfl).2.trans f_m_fil
  replace f_m_jud := (hs.o gm trivial rfl).2.trans f_m_jud
  replace f_m_ear := (hs.o gm trivial rfl).2.trans f_m_ear
  replace f_m_hds := (hs.o gm trivial rfl).2.trans f_m_hds
  replace f_m_ord := (hs.o gm trivial rfl).2.trans f_m_ord
  replace f_m_wkl := (hs.o gm trivial rfl).2.trans f_m_wkl
  replace f_m_owd := (hs.o gm trivial rfl).2.trans f_m_owd
  replace f_m_gds := (hs.o gm trivial rfl).2.trans f_m_gds
  replace f_m_szd := (hs.o gm trivial rfl).2.trans f_m_szd
  replace f_m_srv := (hs.o gm trivial rfl).2.trans f_m_srv
  replace f_y_p0 := (hs.o g_qo_py trivial rfl).2.trans f_y_p0
  replace f_m_p0 := (hs.o gm trivial rfl).2.trans f_m_p0
  replace f_y_p1 := (hs.o g_qo_py trivial rfl).2.trans f_y_p1
  replace f_m_p1 := (hs.o gm trivial rfl).2.trans f_m_p1
  replace f_y_p2 := (hs.o g_qo_py trivial rfl).2.trans f_y_p2
  replace f_m_p2 := (hs.o gm trivial rfl).2.trans f_m_p2
  replace f_y_p3 := (hs.o g_qo_py trivial rfl).2.trans f_y_p3
  replace f_m_p3 := (hs.o gm trivial rfl).2.trans f_m_p3
  replace f_y_p4 := (hs.o g_qo_py trivial rfl).2.trans f_y_p4
  replace f_m_p4 := (hs.o gm trivial rfl).2.trans f_m_p4
  replace f_qrg9 := (hs.o gx trivial rfl).2.trans f_qrg9
  replace f_y_ls := (hs.o g_qrg9 trivial rfl).2.trans f_y_ls
  replace f_m_rl := (hs.o gm trivial rfl).2.trans f_m_rl
  replace ffv_808 := (hs.o g_qrg9 trivial rfl).1.trans ffv_808
  replace ffv_809 := (hs.o gm trivial rfl).1.trans ffv_809
  replace ffv_810 := (hs.o gm trivial rfl).1.trans ffv_810
  replace pf_qa : ∀ j : Nat, (j : Int) < (h_815.2.1 ax 6).toInt → h_815.2.2 qa j ≠ none := by
    intro j hj; rw [(hs.o gx trivial rfl).1] at hj; rw [(hs.a g_qa rfl j).2]; exact pf_qa j hj
  replace pf_qp : ∀ j : Nat, (j : Int) < (h_815.2.1 ax 8).toInt → h_815.2.2 qp j ≠ none := by
    intro j hj; rw [(hs.o gx trivial rfl).1] at hj; rw [(hs.a g_qp rfl j).2]; exact pf_qp j hj
  replace pf_qc : ∀ j : Nat, (j : Int) < (h_815.2.1 ax 11).toInt → h_815.2.2 qc j ≠ none := by
    intro j hj; rw [(hs.o gx trivial rfl).1] at hj; rw [(hs.a g_qc rfl j).2]; exact pf_qc j hj
  replace pf_qh : ∀ j : Nat, (j : Int) < (h_815.2.1 ax 13).toInt → h_815.2.2 qh j ≠ none := by
    intro j hj; rw [(hs.o gx trivial rfl).1] at hj; rw [(hs.a g_qh rfl j).2]; exact pf_qh j hj
  replace cl_dead : hx_col 40 h_815 qp 7 = c_dead := (hx_col_S hs hTo g_qp tt_44 tt_4 rfl rfl).trans cl_dead
  replace cl_isj : hx_col 40 h_815 qp 8 = c_isj := (hx_col_S hs hTo g_qp tt_44 tt_4 rfl rfl).trans cl_isj
  replace cl_dox : hx_col 40 h_815 qp 5 = c_dox := (hx_col_S hs hTo g_qp tt_44 tt_4 rfl rfl).trans cl_dox
  replace cl_doy : hx_col 40 h_815 qp 6 = c_doy := (hx_col_S hs hTo g_qp tt_44 tt_4 rfl rfl).trans cl_doy
  replace cl_fou : hx_col 100 h_815 qc 10 = c_fou := (hx_col_S hs hTo g_qc tt_45 tt_2 rfl rfl).trans cl_fou
  replace cl_tri : hx_col 100 h_815 qc 9 = c_tri := (hx_col_S hs hTo g_qc tt_45 tt_2 rfl rfl).trans cl_tri
  replace cl_bor : hx_col 40 h_815 qp 1 = F_bor := (hx_col_S hs hTo g_qp tt_44 tt_4 rfl rfl).trans cl_bor
  replace cl_kin : hx_col 40 h_815 qp 2 = F_kin := (hx_col_S hs hTo g_qp tt_44 tt_4 rfl rfl).trans cl_kin
  replace cl_sum : hx_col 100 h_815 qc 6 = F_sum := (hx_col_S hs hTo g_qc tt_45 tt_2 rfl rfl).trans cl_sum
  replace cl_fro : hx_col 100 h_815 qc 7 = F_fro := (hx_col_S hs hTo g_qc tt_45 tt_2 rfl rfl).trans cl_fro
  replace cl_fil : hx_col 100 h_815 qc 8 = F_fil := (hx_col_S hs hTo g_qc tt_45 tt_2 rfl rfl).trans cl_fil
  replace cl_hea : hx_col 100 h_815 qc 11 = F_mh := (hx_col_S hs hTo g_qc tt_45 tt_2 rfl rfl).trans cl_hea
  replace cl_jud : hx_col 100 h_815 qc 12 = F_jud := (hx_col_S hs hTo g_qc tt_45 tt_2 rfl rfl).trans cl_jud
  replace cl_ear : hx_col 40 h_815 qp 3 = F_ear := (hx_col_S hs hTo g_qp tt_44 tt_4 rfl rfl).trans cl_ear
  replace cl_hds : hx_col 40 h_815 qp 4 = F_hds := (hx_col_S hs hTo g_qp tt_44 tt_4 rfl rfl).trans cl_hds
  replace cl_ord : hx_col 100 h_815 qc 13 = F_ord := (hx_col_S hs hTo g_qc tt_45 tt_2 rfl rfl).trans cl_ord
  replace cl_wkl : hx_col 100 h_815 qc 14 = F_wkl := (hx_col_S hs hTo g_qc tt_45 tt_2 rfl rfl).trans cl_wkl
  replace cl_owd : hx_col 100 h_815 qc 15 = F_owd := (hx_col_S hs hTo g_qc tt_45 tt_2 rfl rfl).trans cl_owd
  replace cl_gds : hx_col 100 h_815 qc 17 = F_gds := (hx_col_S hs hTo g_qc tt_45 tt_2 rfl rfl).trans cl_gds
  replace cl_szd : hx_col 100 h_815 qc 16 = F_szd := (hx_col_S hs hTo g_qc tt_45 tt_2 rfl rfl).trans cl_szd
  replace cl_srv : hx_col 100 h_815 qc 18 = F_srv := (hx_col_S hs hTo g_qc tt_45 tt_2 rfl rfl).trans cl_srv
  replace nu_qp : hx_num 40 h_815 qp 0 (np.toInt) := hx_num_S hs hTo g_qp tt_44 tt_4 rfl rfl nu_qp
  replace nu_qc : hx_num 100 h_815 qc 0 (c0.toInt) := hx_num_S hs hTo g_qc tt_45 tt_2 rfl rfl nu_qc
  replace hDF : hw_DF h_815 qc qp 2 F_aga c0.toInt := hw_DF_S hs hTo g_qc g_qp tt_45 tt_2 rfl rfl rfl hDF
  replace hRA9 : hv_RA h_815 qa qwo a0.toInt A9 := hv_RA_S hs hTo g_qa g_qwo tt_43 tt_0 rfl rfl rfl rfl rfl rfl ?o19 hRA9
  case o19 => omega
  replace hDP : hw_DF h_815 qc qp 1 F_by c0.toInt := hw_DF_S hs hTo g_qc g_qp tt_45 tt_2 rfl rfl rfl hDP
  replace hAC9 : hv_AC h_815 qc F_ml c0.toInt A9 := hv_AC_S hs hTo g_qc tt_45 tt_2 rfl tt_0 rfl rfl rfl rfl rfl rfl rfl hAC9
  replace hFX : hv_FX 8 4 h_815 qc cF9L c0.toInt := hv_FX_S hs hTo g_qc tt_45 tt_2 rfl rfl rfl rfl hFX
  replace hBX : hv_FX 3 5 h_815 qc F_be c0.toInt := hv_FX_S hs hTo g_qc tt_45 tt_2 rfl rfl rfl rfl hBX
  replace hHL : hv_HL h_815 qh qc F_ho m0.toInt c0.toInt := hv_HL_S hs g_qh g_qc rfl rfl hHL
  replace n_mw : h_815.2.1 mw = F_mw := (funext fun j => (hs.a g_mw rfl j).1).trans n_mw
  replace n_mr : h_815.2.1 mr = F_mr := (funext fun j => (hs.a g_mr rfl j).1).trans n_mr
  replace n_mp : h_815.2.1 mp = F_mp := (funext fun j => (hs.a g_mp rfl j).1).trans n_mp
  replace n_mn : h_815.2.1 mn = F_mn := (funext fun j => (hs.a g_mn rfl j).1).trans n_mn
  replace n_ml : h_815.2.1 ml = F_ml := (funext fun j => (hs.a g_ml rfl j).1).trans n_ml
  replace n_mh : h_815.2.1 mh = F_mh := (funext fun j => (hs.a g_mh rfl j).1).trans n_mh
  replace n_mt : h_815.2.1 mt = F_mt := (funext fun j => (hs.a g_mt rfl j).1).trans n_mt
  replace n_m_fou : h_815.2.1 m_fou = F_m_fou := (funext fun j => (hs.a g_m_fou rfl j).1).trans n_m_fou
  replace n_b_of : h_815.2.1 b_of = B_of := (funext fun j => (hs.a g_b_of rfl j).1).trans n_b_of
  replace n_m_of : h_815.2.1 m_of = F_of := (funext fun j => (hs.a g_m_of rfl j).1).trans n_m_of
  replace n_b_wf : h_815.2.1 b_wf = B_wf := (funext fun j => (hs.a g_b_wf rfl j).1).trans n_b_wf
  replace n_m_wf : h_815.2.1 m_wf = F_wf := (funext fun j => (hs.a g_m_wf rfl j).1).trans n_m_wf
  replace n_b_df : h_815.2.1 b_df = B_df := (funext fun j => (hs.a g_b_df rfl j).1).trans n_b_df
  replace n_m_df : h_815.2.1 m_df = F_df := (funext fun j => (hs.a g_m_df rfl j).1).trans n_m_df
  replace n_b_kf : h_815.2.1 b_kf = B_kf := (funext fun j => (hs.a g_b_kf rfl j).1).trans n_b_kf
  replace n_m_kf : h_815.2.1 m_kf = F_kf := (funext fun j => (hs.a g_m_kf rfl j).1).trans n_m_kf
  replace n_b_sf : h_815.2.1 b_sf = B_sf := (funext fun j => (hs.a g_b_sf rfl j).1).trans n_b_sf
  replace n_m_sf : h_815.2.1 m_sf = F_sf := (funext fun j => (hs.a g_m_sf rfl j).1).trans n_m_sf
  replace n_b_bf : h_815.2.1 b_bf = bfL := (funext fun j => (hs.a g_b_bf rfl j).1).trans n_b_bf
  replace n_lst : h_815.2.1 m_lst = F_lst := (funext fun j => (hs.a g_m_lst rfl j).1).trans n_lst
  replace n_tp : h_815.2.1 m_tp = F_tp := (funext fun j => (hs.a g_m_tp rfl j).1).trans n_tp
  replace n_qtp : h_815.2.1 qtp = F_tp := (funext fun j => (hs.a g_qtp rfl j).1).trans n_qtp
  replace n_dead : h_815.2.1 m_dead = F_dead := (funext fun j => (hs.a g_m_dead rfl j).1).trans n_dead
  replace n_isj : h_815.2.1 m_isj = F_isj := (funext fun j => (hs.a g_m_isj rfl j).1).trans n_isj
  replace n_dox : h_815.2.1 m_dox = F_dox := (funext fun j => (hs.a g_m_dox rfl j).1).trans n_dox
  replace n_doy : h_815.2.1 m_doy = F_doy := (funext fun j => (hs.a g_m_doy rfl j).1).trans n_doy
  replace n_qlt : h_815.2.1 qlt = F_qlt := (funext fun j => (hs.a g_qlt rfl j).1).trans n_qlt
  replace n_m_wkd : h_815.2.1 m_wkd = F_m_wkd := (funext fun j => (hs.a g_m_wkd rfl j).1).trans n_m_wkd
  replace n_aga : h_815.2.1 m_aga = F_aga := (funext fun j => (hs.a g_m_aga rfl j).1).trans n_aga
  replace n_ad : h_815.2.1 m_ad = F_ad := (funext fun j => (hs.a g_m_ad rfl j).1).trans n_ad
  replace n_by : h_815.2.1 m_by = F_by := (funext fun j => (hs.a g_m_by rfl j).1).trans n_by
  replace n_ho : h_815.2.1 m_ho = F_ho := (funext fun j => (hs.a g_m_ho rfl j).1).trans n_ho
  replace n_fc : h_815.2.1 m_fc = F_fc := (funext fun j => (hs.a g_m_fc rfl j).1).trans n_fc
  replace n_nt : h_815.2.1 m_nt = F_nt := (funext fun j => (hs.a g_m_nt rfl j).1).trans n_nt
  replace n_wt : h_815.2.1 m_wt = F_wt := (funext fun j => (hs.a g_m_wt rfl j).1).trans n_wt
  replace n_be : h_815.2.1 m_be = F_be := (funext fun j => (hs.a g_m_be rfl j).1).trans n_be
  replace n_bor : h_815.2.1 m_bor = F_bor := (funext fun j => (hs.a g_m_bor rfl j).1).trans n_bor
  replace n_kin : h_815.2.1 m_kin = F_kin := (funext fun j => (hs.a g_m_kin rfl j).1).trans n_kin
  replace n_sum : h_815.2.1 m_sum = F_sum := (funext fun j => (hs.a g_m_sum rfl j).1).trans n_sum
  replace n_fro : h_815.2.1 m_fro = F_fro := (funext fun j => (hs.a g_m_fro rfl j).1).trans n_fro
  replace n_fil : h_815.2.1 m_fil = F_fil := (funext fun j => (hs.a g_m_fil rfl j).1).trans n_fil
  replace n_jud : h_815.2.1 m_jud = F_jud := (funext fun j => (hs.a g_m_jud rfl j).1).trans n_jud
  replace n_ear : h_815.2.1 m_ear = F_ear := (funext fun j => (hs.a g_m_ear rfl j).1).trans n_ear
  replace n_hds : h_815.2.1 m_hds = F_hds := (funext fun j => (hs.a g_m_hds rfl j).1).trans n_hds
  replace n_ord : h_815.2.1 m_ord = F_ord := (funext fun j => (hs.a g_m_ord rfl j).1).trans n_ord
  replace n_wkl : h_815.2.1 m_wkl = F_wkl := (funext fun j => (hs.a g_m_wkl rfl j).1).trans n_wkl
  replace n_owd : h_815.2.1 m_owd = F_owd := (funext fun j => (hs.a g_m_owd rfl j).1).trans n_owd
  replace n_gds : h_815.2.1 m_gds = F_gds := (funext fun j => (hs.a g_m_gds rfl j).1).trans n_gds
  replace n_szd : h_815.2.1 m_szd = F_szd := (funext fun j => (hs.a g_m_szd rfl j).1).trans n_szd
  replace n_srv : h_815.2.1 m_srv = F_srv := (funext fun j => (hs.a g_m_srv rfl j).1).trans n_srv
  replace n_p0 : h_815.2.1 m_p0 = F_p0 := (funext fun j => (hs.a g_m_p0 rfl j).1).trans n_p0
  replace n_y_p0 : h_815.2.1 y_p0 = F_p0 := (funext fun j => (hs.a g_y_p0 rfl j).1).trans n_y_p0
  replace n_p1 : h_815.2.1 m_p1 = F_p1 := (funext fun j => (hs.a g_m_p1 rfl j).1).trans n_p1
  replace n_y_p1 : h_815.2.1 y_p1 = F_p1 := (funext fun j => (hs.a g_y_p1 rfl j).1).trans n_y_p1
  replace n_p2 : h_815.2.1 m_p2 = F_p2 := (funext fun j => (hs.a g_m_p2 rfl j).1).trans n_p2
  replace n_y_p2 : h_815.2.1 y_p2 = F_p2 := (funext fun j => (hs.a g_y_p2 rfl j).1).trans n_y_p2
  replace n_p3 : h_815.2.1 m_p3 = F_p3 := (funext fun j => (hs.a g_m_p3 rfl j).1).trans n_p3
  replace n_y_p3 : h_815.2.1 y_p3 = F_p3 := (funext fun j => (hs.a g_y_p3 rfl j).1).trans n_y_p3
  replace n_p4 : h_815.2.1 m_p4 = F_p4 := (funext fun j => (hs.a g_m_p4 rfl j).1).trans n_p4
  replace n_y_p4 : h_815.2.1 y_p4 = F_p4 := (funext fun j => (hs.a g_y_p4 rfl j).1).trans n_y_p4
  replace n_y_ls : h_815.2.1 y_ls = F_y_ls := (funext fun j => (hs.a g_y_ls rfl j).1).trans n_y_ls
  replace n_m_rl : h_815.2.1 m_rl = F_m_rl := (funext fun j => (hs.a g_m_rl rfl j).1).trans n_m_rl
  replace gx := gx.S hs
  replace gm := gm.S hs
  replace g_qa := g_qa.S hs
  replace g_qp := g_qp.S hs
  replace g_qc := g_qc.S hs
  replace g_qh := g_qh.S hs
  replace g_qw := g_qw.S hs
  replace g_ql := g_ql.S hs
  replace g_mw := g_mw.S hs
  replace g_mr := g_mr.S hs
  replace g_mp := g_mp.S hs
  replace g_mn := g_mn.S hs
  replace g_ml := g_ml.S hs
  replace g_mh := g_mh.S hs
  replace g_mt := g_mt.S hs
  replace g_m_fou := g_m_fou.S hs
  replace g_qo_ln := g_qo_ln.S hs
  replace g_qo_py := g_qo_py.S hs
  replace g_b_of := g_b_of.S hs
  replace g_m_of := g_m_of.S hs
  replace g_b_wf := g_b_wf.S hs
  replace g_m_wf := g_m_wf.S hs
  replace g_b_df := g_b_df.S hs
  replace g_m_df := g_m_df.S hs
  replace g_b_kf := g_b_kf.S hs
  replace g_m_kf := g_m_kf.S hs
  replace g_b_sf := g_b_sf.S hs
  replace g_m_sf := g_m_sf.S hs
  replace g_b_bf := g_b_bf.S hs
  replace g_m_lst := g_m_lst.S hs
  replace g_qtp := g_qtp.S hs
  replace g_m_tp := g_m_tp.S hs
  replace g_m_dead := g_m_dead.S hs
  replace g_m_isj := g_m_isj.S hs
  replace g_m_dox := g_m_dox.S hs
  replace g_m_doy := g_m_doy.S hs
  replace g_qlt := g_qlt.S hs
  replace g_qlf := g_qlf.S hs
  replace g_m_wkd := g_m_wkd.S hs
  replace g_m_aga := g_m_aga.S hs
  replace g_qwo := g_qwo.S hs
  replace g_m_ad := g_m_ad.S hs
  replace g_m_by := g_m_by.S hs
  replace g_m_ho := g_m_ho.S hs
  replace g_m_fc := g_m_fc.S hs
  replace g_m_nt := g_m_nt.S hs
  replace g_m_wt := g_m_wt.S hs
  replace g_m_be := g_m_be.S hs
  replace g_m_bor := g_m_bor.S hs
  replace g_m_kin := g_m_kin.S hs
  replace g_m_sum := g_m_sum.S hs
  replace g_m_fro := g_m_fro.S hs
  replace g_m_fil := g_m_fil.S hs
  replace g_m_jud := g_m_jud.S hs
  replace g_m_ear := g_m_ear.S hs
  replace g_m_hds := g_m_hds.S hs
  replace g_m_ord := g_m_ord.S hs
  replace g_m_wkl := g_m_wkl.S hs
  replace g_m_owd := g_m_owd.S hs
  replace g_m_gds := g_m_gds.S hs
  replace g_m_szd := g_m_szd.S hs
  replace g_m_srv := g_m_srv.S hs
  replace g_y_p0 := g_y_p0.S hs
  replace g_m_p0 := g_m_p0.S hs
  replace g_y_p1 := g_y_p1.S hs
  replace g_m_p1 := g_m_p1.S hs
  replace g_y_p2 := g_y_p2.S hs
  replace g_m_p2 := g_m_p2.S hs
  replace g_y_p3 := g_y_p3.S hs
  replace g_m_p3 := g_m_p3.S hs
  replace g_y_p4 := g_y_p4.S hs
  replace g_m_p4 := g_m_p4.S hs
  replace g_qrg9 := g_qrg9.S hs
  replace g_y_ls := g_y_ls.S hs
  replace g_m_rl := g_m_rl.S hs
  have pf_819 : ∀ j : Nat, (j : Int) < (h_815.2.1 qw 0).toInt → h_815.2.2 ql j ≠ none := pf_819
  have sb_822 : hx_LQ 8 100 h_815 ql qc := sb_822
  have fw_820 : h_815.2.1 qw 0 = w_820 := fw_820
  have bw_820 := hT.gi g_qw tt_8 (k := 0) rfl
  rw [fw_820] at bw_820
  have bw_820 : 0 ≤ w_820.toInt ∧ w_820.toInt ≤ 8 := bw_820
  have fw_821 : hx_col 8 h_815 ql 0 = w_821 := fw_821
  refine lv_pop hx hb dL_law_1240 rfl ?_
  refine lv_aload_n hx hb dL_law_1241 rfl (lv_at hl 1 rfl) ?_
  refine lv_aload_n hx hb dL_law_1242 rfl (lv_at hl 3 rfl) ?_
  refine lv_iload_n hx hb dL_law_1243 rfl (lv_at hl 0 rfl) ?_
  refine lv_iconst (v := 1) hx hb dL_law_1244 ?o20 ?_
  case o20 => decide
  refine lv_iadd hx hb dL_law_1245 ?_
  refine lv_topi (fun x_823 ex_823 => ?_)
  have zx_823 : x_823.toInt = i.toInt + 1 := ?o21
  case o21 =>
    rw [ex_823]
    refine i32_add rfl ?o22 ?o23 ?o24
    case o22 => decide
    case o23 => omega
    case o24 => omega
  obtain rfl : x_812 = x_823 := ex_812.trans ex_823.symm
  refine va_sld hx hb hX hbl hbA hW.2.2.2.1 (vp_in_iff.mpr ⟨?o25, ?o26⟩) dL_law_1246 ?_
  case o25 => omega
  case o26 => omega
  refine lv_topi (fun x_824 ex_824 => ?_)
  obtain rfl : x_813 = x_824 := ex_813.trans ex_824.symm
  have hTo := hT
  refine hx_goi (hx_runV (As := [.int x_813]) (rest := []) ⟨hx, hb, hml, hown, hts⟩ hW gm tt_10 (T := TX10) (N := 98) rfl (t_X10_list_2 l dC dI dA L_814 h_815 H.size am x_813 hT gm m_fou g_m_fou f_m_fou mh g_mh f_mh m_lst g_m_lst f_m_lst F_m_fou n_m_fou F_mh n_mh F_lst n_lst c0 f_m_claims lsd f_m_listed hHF) (cwV 1 hts (hx_gV kw_1717 kw_1714 kw_1715 kw_1716 kw_103) rfl rfl rfl (by decide +kernel) ⟨Nat.le_of_ble_eq_true rfl, Nat.le_of_ble_eq_true rfl⟩) rfl hl.1 rfl (Nat.le_of_ble_eq_true rfl) dL_law_1247 ⟨(show CC + 0 + 0 ≤ 600000 from ?o27), (show SS + 0 + 0 ≤ 7302250 from ?o28)⟩) hW (fun r_827 L_825 h_826 H locs p_828 hW => ?_)
  case o27 => omega
  case o28 => omega
  obtain ⟨⟨w_830, w_831, fw_830, fw_831, hr_829⟩, hT, hs⟩ := p_828
  replace hT : hx_T T_tb L_825 h_826 := hT
  replace hs : hx_S T_tb [(10, 90), (112, 0)] L_814 h_815 L_825 h_826 := hs
  replace f_qa := (hs.o gx trivial rfl).2.trans f_qa
  replace f_qp := (hs.o gx trivial rfl).2.trans f_qp
  replace f_qc := (hs.o gx trivial rfl).2.trans f_qc
  replace f_qh := (hs.o gx trivial rfl).2.trans f_qh
  replace f_qw := (hs.o gx trivial rfl).2.trans f_qw
  replace f_ql := (hs.o g_qw trivial rfl).2.trans f_ql
  replace f_m_now := (hs.o gm trivial rfl).1.trans f_m_now
  replace f_m_persons := (hs.o gm trivial rfl).1.trans f_m_persons
  replace f_m_claims := (hs.o gm trivial rfl).1.trans f_m_claims
  replace f_m_taped := (hs.o gm trivial rfl).1.trans f_m_taped
  replace f_m_acts := (hs.o gm trivial rfl).1.trans f_m_acts
  replace f_m_heardMany := (hs.o gm trivial rfl).1.trans f_m_heardMany
  replace f_m_lines := (hs.o gm trivial rfl).1.trans f_m_lines
  replace f_m_walkedMany := (hs.o gm trivial rfl).1.trans f_m_walkedMany
  replace f_m_payments := (hs.o gm trivial rfl).1.trans f_m_payments
  replace f_x_now := (hs.o gx trivial rfl).1.trans f_x_now
  replace f_x_personCount := (hs.o gx trivial rfl).1.trans f_x_personCount
  replace f_x_claimCount := (hs.o gx trivial rfl).1.trans f_x_claimCount
  replace f_x_tapeLength := (hs.o gx trivial rfl).1.trans f_x_tapeLength
  replace f_x_actCount := (hs.o gx trivial rfl).1.trans f_x_actCount
  replace f_x_heardCount := (hs.o gx trivial rfl).1.trans f_x_heardCount
  replace f_mw := (hs.o gm trivial rfl).2.trans f_mw
  replace f_mr := (hs.o gm trivial rfl).2.trans f_mr
  replace f_mp := (hs.o gm trivial rfl).2.trans f_mp
  replace f_mn := (hs.o gm trivial rfl).2.trans f_mn
  replace f_ml := (hs.o gm trivial rfl).2.trans f_ml
  replace f_mh := (hs.o gm trivial rfl).2.trans f_mh
  replace f_mt := (hs.o gm trivial rfl).2.trans f_mt
  replace f_m_fou := (hs.o gm trivial rfl).2.trans f_m_fou
  replace f_qo_ln := (hs.o gx trivial rfl).2.trans f_qo_ln
  replace f_o_ln := (hs.o g_qo_ln trivial rfl).1.trans f_o_ln
  replace f_o_wkm := (hs.o g_qw trivial rfl).1.trans f_o_wkm
  replace f_qo_py := (hs.o gx trivial rfl).2.trans f_qo_py
  replace f_o_py := (hs.o g_qo_py trivial rfl).1.trans f_o_py
  replace f_b_of := (hs.o g_qo_ln trivial rfl).2.trans f_b_of
  replace f_m_of := (hs.o gm trivial rfl).2.trans f_m_of
  replace f_b_wf := (hs.o g_qo_ln trivial rfl).2.trans f_b_wf
  replace f_m_wf := (hs.o gm trivial rfl).2.trans f_m_wf
  replace f_b_df := (hs.o g_qo_ln trivial rfl).2.trans f_b_df
  replace f_m_df := (hs.o gm trivial rfl).2.trans f_m_df
  replace f_b_kf := (hs.o g_qo_ln trivial rfl).2.trans f_b_kf
  replace f_m_kf := (hs.o gm trivial rfl).2.trans f_m_kf
  replace f_b_sf := (hs.o g_qo_ln trivial rfl).2.trans f_b_sf
  replace f_m_sf := (hs.o gm trivial rfl).2.trans f_m_sf
  replace f_b_bf := (hs.o g_qo_ln trivial rfl).2.trans f_b_bf
  replace f_m_lst := (hs.o gm trivial rfl).2.trans f_m_lst
  replace f_qtp := (hs.o gx trivial rfl).2.trans f_qtp
  replace f_m_tp := (hs.o gm trivial rfl).2.trans f_m_tp
  replace f_m_dead := (hs.o gm trivial rfl).2.trans f_m_dead
  replace f_m_isj := (hs.o gm trivial rfl).2.trans f_m_isj
  replace f_m_dox := (hs.o gm trivial rfl).2.trans f_m_dox
  replace f_m_doy := (hs.o gm trivial rfl).2.trans f_m_doy
  replace f_qlt := (hs.o g_qw trivial rfl).2.trans f_qlt
  replace f_qlf := (hs.o g_qw trivial rfl).2.trans f_qlf
  replace f_m_wkd := (hs.o gm trivial rfl).2.trans f_m_wkd
  replace f_m_aga := (hs.o gm trivial rfl).2.trans f_m_aga
  replace f_qwo := (hs.o gx trivial rfl).2.trans f_qwo
  replace f_m_ad := (hs.o gm trivial rfl).2.trans f_m_ad
  replace f_m_by := (hs.o gm trivial rfl).2.trans f_m_by
  replace f_m_ho := (hs.o gm trivial rfl).2.trans f_m_ho
  replace f_m_fc := (hs.o gm trivial rfl).2.trans f_m_fc
  replace f_m_nt := (hs.o gm trivial rfl).2.trans f_m_nt
  replace f_m_wt := (hs.o gm trivial rfl).2.trans f_m_wt
  replace f_m_be := (hs.o gm trivial rfl).2.trans f_m_be
  replace f_m_bor := (hs.o gm trivial rfl).2.trans f_m_bor
  replace f_m_kin := (hs.o gm trivial rfl).2.trans f_m_kin
  replace f_m_sum := (hs.o gm trivial rfl).2.trans f_m_sum
  replace f_m_fro := (hs.o gm trivial rfl).2.trans f_m_fro
  replace f_m_fil := (hs.o gm trivial rfl).2.trans f_m_fil
  replace f_m_jud := (hs.o gm trivial rfl).2.trans f_m_jud
  replace f_m_ear := (hs.o gm trivial rfl).2.trans f_m_ear
  replace f_m_hds := (hs.o gm trivial rfl).2.trans f_m_hds
  replace f_m_ord := (hs.o gm trivial rfl).2.trans f_m_ord
  replace f_m_wkl := (hs.o gm trivial rfl).2.trans f_m_wkl
  replace f_m_owd := (hs.o gm trivial rfl).2.trans f_m_owd
  replace f_m_gds := (hs.o gm trivial rfl).2.trans f_m_gds
  replace f_m_szd := (hs.o gm trivial rfl).2.trans f_m_szd
  replace f_m_srv := (hs.o gm trivial rfl).2.trans f_m_srv
  replace f_y_p0 := (hs.o g_qo_py trivial rfl).2.trans f_y_p0
  replace f_m_p0 := (hs.o gm trivial rfl).2.trans f_m_p0
  replace f_y_p1 := (hs.o g_qo_py trivial rfl).2.trans f_y_p1
  replace f_m_p1 := (hs.o gm trivial rfl).2.trans f_m_p1
  replace f_y_p2 := (hs.o g_qo_py trivial rfl).2.trans f_y_p2
  replace f_m_p2 := (hs.o gm trivial rfl).2.trans f_m_p2
  replace f_y_p3 := (hs.o g_qo_py trivial rfl).2.trans f_y_p3
  replace f_m_p3 := (hs.o gm trivial rfl).2.trans f_m_p3
  replace f_y_p4 := (hs.o g_qo_py trivial rfl).2.trans f_y_p4
  replace f_m_p4 := (hs.o gm trivial rfl).2.trans f_m_p4
  replace f_qrg9 := (hs.o gx trivial rfl).2.trans f_qrg9
  replace f_y_ls := (hs.o g_qrg9 trivial rfl).2.trans f_y_ls
  replace f_m_rl := (hs.o gm trivial rfl).2.trans f_m_rl
  replace ffv_808 := (hs.o g_qrg9 trivial rfl).1.trans ffv_808
  replace ffv_809 := (hs.o gm trivial rfl).1.trans ffv_809
  replace ffv_810 := (hs.o gm trivial rfl).1.trans ffv_810
  replace fw_820 := (hs.o g_qw trivial rfl).1.trans fw_820
  replace pf_qa : ∀ j : Nat, (j : Int) < (h_826.2.1 ax 6).toInt → h_826.2.2 qa j ≠ none := by
    intro j hj; rw [(hs.o gx trivial rfl).1] at hj; rw [(hs.a g_qa rfl j).2]; exact pf_qa j hj
  replace pf_qp : ∀ j : Nat, (j : Int) < (h_826.2.1 ax 8).toInt → h_826.2.2 qp j ≠ none := by
    intro j hj; rw [(hs.o gx trivial rfl).1] at hj; rw [(hs.a g_qp rfl j).2]; exact pf_qp j hj
  replace pf_qc : ∀ j : Nat, (j : Int) < (h_826.2.1 ax 11).toInt → h_826.2.2 qc j ≠ none := by
    intro j hj; rw [(hs.o gx trivial rfl).1] at hj; rw [(hs.a g_qc rfl j).2]; exact pf_qc j hj
  replace pf_qh : ∀ j : Nat, (j : Int) < (h_826.2.1 ax 13).toInt → h_826.2.2 qh j ≠ none := by
    intro j hj; rw [(hs.o gx trivial rfl).1] at hj; rw [(hs.a g_qh rfl j).2]; exact pf_qh j hj
  replace pf_819 : ∀ j : Nat, (j : Int) < (h_826.2.1 qw 0).toInt → h_826.2.2 ql j ≠ none := by
    intro j hj; rw [(hs.o g_qw trivial rfl).1] at hj; rw [(hs.a g_ql rfl j).2]; exact pf_819 j hj
  replace cl_dead : hx_col 40 h_826 qp 7 = c_dead := (hx_col_S hs hTo g_qp tt_44 tt_4 rfl rfl).trans cl_dead
  replace cl_isj : hx_col 40 h_826 qp 8 = c_isj := (hx_col_S hs hTo g_qp tt_44 tt_4 rfl rfl).trans cl_isj
  replace cl_dox : hx_col 40 h_826 qp 5 = c_dox := (hx_col_S hs hTo g_qp tt_44 tt_4 rfl rfl).trans cl_dox
  replace cl_doy : hx_col 40 h_826 qp 6 = c_doy := (hx_col_S hs hTo g_qp tt_44 tt_4 rfl rfl).trans cl_doy
  replace cl_fou : hx_col 100 h_826 qc 10 = c_fou := (hx_col_S hs hTo g_qc tt_45 tt_2 rfl rfl).trans cl_fou
  replace cl_tri : hx_col 100 h_826 qc 9 = c_tri := (hx_col_S hs hTo g_qc tt_45 tt_2 rfl rfl).trans cl_tri
  replace cl_bor : hx_col 40 h_826 qp 1 = F_bor := (hx_col_S hs hTo g_qp tt_44 tt_4 rfl rfl).trans cl_bor
  replace cl_kin : hx_col 40 h_826 qp 2 = F_kin := (hx_col_S hs hTo g_qp tt_44 tt_4 rfl rfl).trans cl_kin
  replace cl_sum : hx_col 100 h_826 qc 6 = F_sum := (hx_col_S hs hTo g_qc tt_45 tt_2 rfl rfl).trans cl_sum
  replace cl_fro : hx_col 100 h_826 qc 7 = F_fro := (hx_col_S hs hTo g_qc tt_45 tt_2 rfl rfl).trans cl_fro
  replace cl_fil : hx_col 100 h_826 qc 8 = F_fil := (hx_col_S hs hTo g_qc tt_45 tt_2 rfl rfl).trans cl_fil
  replace cl_hea : hx_col 100 h_826 qc 11 = F_mh := (hx_col_S hs hTo g_qc tt_45 tt_2 rfl rfl).trans cl_hea
  replace cl_jud : hx_col 100 h_826 qc 12 = F_jud := (hx_col_S hs hTo g_qc tt_45 tt_2 rfl rfl).trans cl_jud
  replace cl_ear : hx_col 40 h_826 qp 3 = F_ear := (hx_col_S hs hTo g_qp tt_44 tt_4 rfl rfl).trans cl_ear
  replace cl_hds : hx_col 40 h_826 qp 4 = F_hds := (hx_col_S hs hTo g_qp tt_44 tt_4 rfl rfl).trans cl_hds
  replace cl_ord : hx_col 100 h_826 qc 13 = F_ord := (hx_col_S hs hTo g_qc tt_45 tt_2 rfl rfl).trans cl_ord
  replace cl_wkl : hx_col 100 h_826 qc 14 = F_wkl := (hx_col_S hs hTo g_qc tt_45 tt_2 rfl rfl).trans cl_wkl
  replace cl_owd : hx_col 100 h_826 qc 15 = F_owd := (hx_col_S hs hTo g_qc tt_45 tt_2 rfl rfl).trans cl_owd
  replace cl_gds : hx_col 100 h_826 qc 17 = F_gds := (hx_col_S hs hTo g_qc tt_45 tt_2 rfl rfl).trans cl_gds
  replace cl_szd : hx_col 100 h_826 qc 16 = F_szd := (hx_col_S hs hTo g_qc tt_45 tt_2 rfl rfl).trans cl_szd
  replace cl_srv : hx_col 100 h_826 qc 18 = F_srv := (hx_col_S hs hTo g_qc tt_45 tt_2 rfl rfl).trans cl_srv
  replace fw_821 : hx_col 8 h_826 ql 0 = w_821 := (hx_col_S hs hTo g_ql tt_40 tt_2 rfl rfl).trans fw_821
  replace nu_qp : hx_num 40 h_826 qp 0 (np.toInt) := hx_num_S hs hTo g_qp tt_44 tt_4 rfl rfl nu_qp
  replace nu_qc : hx_num 100 h_826 qc 0 (c0.toInt) := hx_num_S hs hTo g_qc tt_45 tt_2 rfl rfl nu_qc
  replace sb_822 : hx_LQ 8 100 h_826 ql qc := hx_LQ_S hs g_ql g_qc rfl rfl sb_822
  replace hDF : hw_DF h_826 qc qp 2 F_aga c0.toInt := hw_DF_S hs hTo g_qc g_qp tt_45 tt_2 rfl rfl rfl hDF
  replace hRA9 : hv_RA h_826 qa qwo a0.toInt A9 := hv_RA_S hs hTo g_qa g_qwo tt_43 tt_0 rfl rfl rfl rfl rfl rfl ?o29 hRA9
  case o29 => omega
  replace hDP : hw_DF h_826 qc qp 1 F_by c0.toInt := hw_DF_S hs hTo g_qc g_qp tt_45 tt_2 rfl rfl rfl hDP
  replace hAC9 : hv_AC h_826 qc F_ml c0.toInt A9 := hv_AC_S hs hTo g_qc tt_45 tt_2 rfl tt_0 rfl rfl rfl rfl rfl rfl rfl hAC9
  replace hFX : hv_FX 8 4 h_826 qc cF9L c0.toInt := hv_FX_S hs hTo g_qc tt_45 tt_2 rfl rfl rfl rfl hFX
  replace hBX : hv_FX 3 5 h_826 qc F_be c0.toInt := hv_FX_S hs hTo g_qc tt_45 tt_2 rfl rfl rfl rfl hBX
  replace hHL : hv_HL h_826 qh qc F_ho m0.toInt c0.toInt := hv_HL_S hs g_qh g_qc rfl rfl hHL
  replace n_mw : h_826.2.1 mw = F_mw := (funext fun j => (hs.a g_mw rfl j).1).trans n_mw
  replace n_mr : h_826.2.1 mr = F_mr := (funext fun j => (hs.a g_mr rfl j).1).trans n_mr
  replace n_mp : h_826.2.1 mp = F_mp := (funext fun j => (hs.a g_mp rfl j).1).trans n_mp
  replace n_mn : h_826.2.1 mn = F_mn := (funext fun j => (hs.a g_mn rfl j).1).trans n_mn
  replace n_ml : h_826.2.1 ml = F_ml := (funext fun j => (hs.a g_ml rfl j).1).trans n_ml
  replace n_mh : h_826.2.1 mh = F_mh := (funext fun j => (hs.a g_mh rfl j).1).trans n_mh
  replace n_mt : h_826.2.1 mt = F_mt := (funext fun j => (hs.a g_mt rfl j).1).trans n_mt
  replace n_m_fou : h_826.2.1 m_fou = F_m_fou := (funext fun j => (hs.a g_m_fou rfl j).1).trans n_m_fou
  replace n_b_of : h_826.2.1 b_of = B_of := (funext fun j => (hs.a g_b_of rfl j).1).trans n_b_of
  replace n_m_of : h_826.2.1 m_of = F_of := (funext fun j => (hs.a g_m_of rfl j).1).trans n_m_of
  replace n_b_wf : h_826.2.1 b_wf = B_wf := (funext fun j => (hs.a g_b_wf rfl j).1).trans n_b_wf
  replace n_m_wf : h_826.2.1 m_wf = F_wf := (funext fun j => (hs.a g_m_wf rfl j).1).trans n_m_wf
  replace n_b_df : h_826.2.1 b_df = B_df := (funext fun j => (hs.a g_b_df rfl j).1).trans n_b_df
  replace n_m_df : h_826.2.1 m_df = F_df := (funext fun j => (hs.a g_m_df rfl j).1).trans n_m_df
  replace n_b_kf : h_826.2.1 b_kf = B_kf := (funext fun j => (hs.a g_b_kf rfl j).1).trans n_b_kf
  replace n_m_kf : h_826.2.1 m_kf = F_kf := (funext fun j => (hs.a g_m_kf rfl j).1).trans n_m_kf
  replace n_b_sf : h_826.2.1 b_sf = B_sf := (funext fun j => (hs.a g_b_sf rfl j).1).trans n_b_sf
  replace n_m_sf : h_826.2.1 m_sf = F_sf := (funext fun j => (hs.a g_m_sf rfl j).1).trans n_m_sf
  replace n_b_bf : h_826.2.1 b_bf = bfL := (funext fun j => (hs.a g_b_bf rfl j).1).trans n_b_bf
  replace n_tp : h_826.2.1 m_tp = F_tp := (funext fun j => (hs.a g_m_tp rfl j).1).trans n_tp
  replace n_qtp : h_826.2.1 qtp = F_tp := (funext fun j => (hs.a g_qtp rfl j).1).trans n_qtp
  replace n_dead : h_826.2.1 m_dead = F_dead := (funext fun j => (hs.a g_m_dead rfl j).1).trans n_dead
  replace n_isj : h_826.2.1 m_isj = F_isj := (funext fun j => (hs.a g_m_isj rfl j).1).trans n_isj
  replace n_dox : h_826.2.1 m_dox = F_dox := (funext fun j => (hs.a g_m_dox rfl j).1).trans n_dox
  replace n_doy : h_826.2.1 m_doy = F_doy := (funext fun j => (hs.a g_m_doy rfl j).1).trans n_doy
  replace n_qlt : h_826.2.1 qlt = F_qlt := (funext fun j => (hs.a g_qlt rfl j).1).trans n_qlt
  replace n_m_wkd : h_826.2.1 m_wkd = F_m_wkd := (funext fun j => (hs.a g_m_wkd rfl j).1).trans n_m_wkd
  replace n_aga : h_826.2.1 m_aga = F_aga := (funext fun j => (hs.a g_m_aga rfl j).1).trans n_aga
  replace n_ad : h_826.2.1 m_ad = F_ad := (funext fun j => (hs.a g_m_ad rfl j).1).trans n_ad
  replace n_by : h_826.2.1 m_by = F_by := (funext fun j => (hs.a g_m_by rfl j).1).trans n_by
  replace n_ho : h_826.2.1 m_ho = F_ho := (funext fun j => (hs.a g_m_ho rfl j).1).trans n_ho
  replace n_fc : h_826.2.1 m_fc = F_fc := (funext fun j => (hs.a g_m_fc rfl j).1).trans n_fc
  replace n_nt : h_826.2.1 m_nt = F_nt := (funext fun j => (hs.a g_m_nt rfl j).1).trans n_nt
  replace n_wt : h_826.2.1 m_wt = F_wt := (funext fun j => (hs.a g_m_wt rfl j).1).trans n_wt
  replace n_be : h_826.2.1 m_be = F_be := (funext fun j => (hs.a g_m_be rfl j).1).trans n_be
  replace n_bor : h_826.2.1 m_bor = F_bor := (funext fun j => (hs.a g_m_bor rfl j).1).trans n_bor
  replace n_kin : h_826.2.1 m_kin = F_kin := (funext fun j => (hs.a g_m_kin rfl j).1).trans n_kin
  replace n_sum : h_826.2.1 m_sum = F_sum := (funext fun j => (hs.a g_m_sum rfl j).1).trans n_sum
  replace n_fro : h_826.2.1 m_fro = F_fro := (funext fun j => (hs.a g_m_fro rfl j).1).trans n_fro
  replace n_fil : h_826.2.1 m_fil = F_fil := (funext fun j => (hs.a g_m_fil rfl j).1).trans n_fil
  replace n_jud : h_826.2.1 m_jud = F_jud := (funext fun j => (hs.a g_m_jud rfl j).1).trans n_jud
  replace n_ear : h_826.2.1 m_ear = F_ear := (funext fun j => (hs.a g_m_ear rfl j).1).trans n_ear
  replace n_hds : h_826.2.1 m_hds = F_hds := (funext fun j => (hs.a g_m_hds rfl j).1).trans n_hds
  replace n_ord : h_826.2.1 m_ord = F_ord := (funext fun j => (hs.a g_m_ord rfl j).1).trans n_ord
  replace n_wkl : h_826.2.1 m_wkl = F_wkl := (funext fun j => (hs.a g_m_wkl rfl j).1).trans n_wkl
  replace n_owd : h_826.2.1 m_owd = F_owd := (funext fun j => (hs.a g_m_owd rfl j).1).trans n_owd
  replace n_gds : h_826.2.1 m_gds = F_gds := (funext fun j => (hs.a g_m_gds rfl j).1).trans n_gds
  replace n_szd : h_826.2.1 m_szd = F_szd := (funext fun j => (hs.a g_m_szd rfl j).1).trans n_szd
  replace n_srv : h_826.2.1 m_srv = F_srv := (funext fun j => (hs.a g_m_srv rfl j).1).trans n_srv
  replace n_p0 : h_826.2.1 m_p0 = F_p0 := (funext fun j => (hs.a g_m_p0 rfl j).1).trans n_p0
  replace n_y_p0 : h_826.2.1 y_p0 = F_p0 := (funext fun j => (hs.a g_y_p0 rfl j).1).trans n_y_p0
  replace n_p1 : h_826.2.1 m_p1 = F_p1 := (funext fun j => (hs.a g_m_p1 rfl j).1).trans n_p1
  replace n_y_p1 : h_826.2.1 y_p1 = F_p1 := (funext fun j => (hs.a g_y_p1 rfl j).1).trans n_y_p1
  replace n_p2 : h_826.2.1 m_p2 = F_p2 := (funext fun j => (hs.a g_m_p2 rfl j).1).trans n_p2
  replace n_y_p2 : h_826.2.1 y_p2 = F_p2 := (funext fun j => (hs.a g_y_p2 rfl j).1).trans n_y_p2
  replace n_p3 : h_826.2.1 m_p3 = F_p3 := (funext fun j => (hs.a g_m_p3 rfl j).1).trans n_p3
  replace n_y_p3 : h_826.2.1 y_p3 = F_p3 := (funext fun j => (hs.a g_y_p3 rfl j).1).trans n_y_p3
  replace n_p4 : h_826.2.1 m_p4 = F_p4 := (funext fun j => (hs.a g_m_p4 rfl j).1).trans n_p4
  replace n_y_p4 : h_826.2.1 y_p4 = F_p4 := (funext fun j => (hs.a g_y_p4 rfl j).1).trans n_y_p4
  replace n_y_ls : h_826.2.1 y_ls = F_y_ls := (funext fun j => (hs.a g_y_ls rfl j).1).trans n_y_ls
  replace n_m_rl : h_826.2.1 m_rl = F_m_rl := (funext fun j => (hs.a g_m_rl rfl j).1).trans n_m_rl
  replace gx := gx.S hs
  replace gm := gm.S hs
  replace g_qa := g_qa.S hs
  replace g_qp := g_qp.S hs
  replace g_qc := g_qc.S hs
  replace g_qh := g_qh.S hs
  replace g_qw := g_qw.S hs
  replace g_ql := g_ql.S hs
  replace g_mw := g_mw.S hs
  replace g_mr := g_mr.S hs
  replace g_mp := g_mp.S hs
  replace g_mn := g_mn.S hs
  replace g_ml := g_ml.S hs
  replace g_mh := g_mh.S hs
  replace g_mt := g_mt.S hs
  replace g_m_fou := g_m_fou.S hs
  replace g_qo_ln := g_qo_ln.S hs
  replace g_qo_py := g_qo_py.S hs
  replace g_b_of := g_b_of.S hs
  replace g_m_of := g_m_of.S hs
  replace g_b_wf := g_b_wf.S hs
  replace g_m_wf := g_m_wf.S hs
  replace g_b_df := g_b_df.S hs
  replace g_m_df := g_m_df.S hs
  replace g_b_kf := g_b_kf.S hs
  replace g_m_kf := g_m_kf.S hs
  replace g_b_sf := g_b_sf.S hs
  replace g_m_sf := g_m_sf.S hs
  replace g_b_bf := g_b_bf.S hs
  replace g_m_lst := g_m_lst.S hs
  replace g_qtp := g_qtp.S hs
  replace g_m_tp := g_m_tp.S hs
  replace g_m_dead := g_m_dead.S hs
  replace g_m_isj := g_m_isj.S hs
  replace g_m_dox := g_m_dox.S hs
  replace g_m_doy := g_m_doy.S hs
  replace g_qlt := g_qlt.S hs
  replace g_qlf := g_qlf.S hs
  replace g_m_wkd := g_m_wkd.S hs
  replace g_m_aga := g_m_aga.S hs
  replace g_qwo := g_qwo.S hs
  replace g_m_ad := g_m_ad.S hs
  replace g_m_by := g_m_by.S hs
  replace g_m_ho := g_m_ho.S hs
  replace g_m_fc := g_m_fc.S hs
  replace g_m_nt := g_m_nt.S hs
  replace g_m_wt := g_m_wt.S hs
  replace g_m_be := g_m_be.S hs
  replace g_m_bor := g_m_bor.S hs
  replace g_m_kin := g_m_kin.S hs
  replace g_m_sum := g_m_sum.S hs
  replace g_m_fro := g_m_fro.S hs
  replace g_m_fil := g_m_fil.S hs
  replace g_m_jud := g_m_jud.S hs
  replace g_m_ear := g_m_ear.S hs
  replace g_m_hds := g_m_hds.S hs
  replace g_m_ord := g_m_ord.S hs
  replace g_m_wkl := g_m_wkl.S hs
  replace g_m_owd := g_m_owd.S hs
  replace g_m_gds := g_m_gds.S hs
  replace g_m_szd := g_m_szd.S hs
  replace g_m_srv := g_m_srv.S hs
  replace g_y_p0 := g_y_p0.S hs
  replace g_m_p0 := g_m_p0.S hs
  replace g_y_p1 := g_y_p1.S hs
  replace g_m_p1 := g_m_p1.S hs
  replace g_y_p2 := g_y_p2.S hs
  replace g_m_p2 := g_m_p2.S hs
  replace g_y_p3 := g_y_p3.S hs
  replace g_m_p3 := g_m_p3.S hs
  replace g_y_p4 := g_y_p4.S hs
  replace g_m_p4 := g_m_p4.S hs
  replace g_qrg9 := g_qrg9.S hs
  replace g_y_ls := g_y_ls.S hs
  replace g_m_rl := g_m_rl.S hs
  have fw_830 : h_826.2.1 am 90 = w_830 := fw_830
  have bw_830 := hT.gi gm tt_10 (k := 90) rfl
  rw [fw_830] at bw_830
  have bw_830 : 0 ≤ w_830.toInt ∧ w_830.toInt ≤ 8 := bw_830
  have fw_831 : h_826.2.1 m_lst = w_831 := fw_831
  refine lv_pop hx hb dL_law_1250 rfl ?_
  refine lv_goto (tgt := 1379) hx hb dL_law_1251 ?o30 ?_
  case o30 => decide
  obtain ⟨heq, hq_lsd, hq_lst⟩ := hx_wk (by omega) (by omega) eq_fou eq_lst hr_818 hr_829
  refine W.widen (k := CC + 3) (n := SS + 179) ?o31 ?o32 ?_
  case o31 => omega
  case o32 => omega
  refine kk L_825 h_826 H locs ls hW ⟨hT, gx, gm, ⟨f_x_now.trans f_m_now.symm, f_x_personCount.trans f_m_persons.symm, f_x_claimCount.trans f_m_claims.symm, f_x_tapeLength.trans f_m_taped.symm, f_x_actCount.trans f_m_acts.symm, f_x_heardCount.trans f_m_heardMany.symm, hx_ob f_qo_ln (f_o_ln.trans f_m_lines.symm), hx_ob f_qw ((fw_820.trans hq_lsd).trans fw_830.symm), hx_ob f_qw (f_o_wkm.trans f_m_walkedMany.symm), hx_ob f_qo_py (f_o_py.trans f_m_payments.symm), hx_ob f_qp ?o33, hx_ob f_qc ?o34, (fun b a r hb ha hr => ?o35), (fun b a r hb ha hr => ?o36), (fun b a r hb ha hr => ?o37), (fun b a r hb ha hr => ?o38), (fun b a r hb ha hr => ?o39), (fun b a r hb ha hr => ?o40), (fun w q c hw hq hc => ?o41), (fun w q r hw hq hr => ?o42), (fun w q r hw hq hr => ?o43), (fun c q a hc hq ha => ?o44), (fun q r hq hr => ?o45), (fun q w a b c d e p hq hw ha hb hc hd he hp => ?o46), (fun c q a hc hq ha => ?o47), (fun q c a hq hc ha => ?o48), (fun a b ha hb => ?o49), (fun c a b d e f hc ha hb hd he hf => ?o50), (fun c a hc ha => ?o51), hx_ob2 f_qp f_m_bor (cl_bor.trans n_bor.symm), hx_ob2 f_qp f_m_kin (cl_kin.trans n_kin.symm), hx_ob2 f_qc f_m_sum (cl_sum.trans n_sum.symm), hx_ob2 f_qc f_m_fro (cl_fro.trans n_fro.symm), hx_ob2 f_qc f_m_fil (cl_fil.trans n_fil.symm), hx_ob2 f_qc f_mh (cl_hea.trans n_mh.symm), hx_ob2 f_qc f_m_jud (cl_jud.trans n_jud.symm), hx_ob2 f_qp f_m_ear (cl_ear.trans n_ear.symm), hx_ob2 f_qp f_m_hds (cl_hds.trans n_hds.symm), hx_ob2 f_qc f_m_ord (cl_ord.trans n_ord.symm), hx_ob2 f_qc f_m_wkl (cl_wkl.trans n_wkl.symm), hx_ob2 f_qc f_m_owd (cl_owd.trans n_owd.symm), hx_ob2 f_qc f_m_gds (cl_gds.trans n_gds.symm), hx_ob2 f_qc f_m_szd (cl_szd.trans n_szd.symm), hx_ob2 f_qc f_m_srv (cl_srv.trans n_srv.symm), (fun p q r hp hq hr => ?o52), (fun p q r hp hq hr => ?o53), (fun p q r hp hq hr => ?o54), (fun p q r hp hq hr => ?o55), (fun p q r hp hq hr => ?o56), (fun p hp => ?o57), (fun p q r hp hq hr => ?o58), hx_ob2 f_qp f_m_dead ?o59, hx_ob2 f_qp f_m_isj ?o60, hx_ob2 f_qp f_m_dox ?o61, hx_ob2 f_qp f_m_doy ?o62, hx_ob2 f_qc f_m_fou ?o63, hx_ob2 f_qc f_mt ?o64, trivial⟩, ⟨hx_ob f_qa pf_qa, hx_ob f_qp pf_qp, hx_ob f_qc pf_qc, hx_ob f_qh pf_qh, (fun w q hw hq => ?o65)⟩, ⟨hx_ob f_mw ?o66, hx_ob f_mr ?o67, hx_ob2 f_mp f_mn ?o68, hx_ob f_ml ?o69, hx_ob f_mh ?o70, hx_ob f_mt ?o71, hx_ob2 f_mh f_m_fou ?o73⟩⟩ hl
  case o33 =>
    rw [f_x_personCount]
    exact nu_qp
  case o34 =>
    rw [f_x_claimCount]
    exact nu_qc
  case o35 =>
    obtain rfl : qo_ln = b := Option.some.inj (f_qo_ln.symm.trans hb)
    obtain rfl : b_of = a := Option.some.inj (f_b_of.symm.trans ha)
    obtain rfl : m_of = r := Option.some.inj (f_m_of.symm.trans hr)
    rw [n_b_of, n_m_of, f_o_ln]
    exact eb_of
  case o36 =>
    obtain rfl : qo_ln = b := Option.some.inj (f_qo_ln.symm.trans hb)
    obtain rfl : b_wf = a := Option.some.inj (f_b_wf.symm.trans ha)
    obtain rfl : m_wf = r := Option.some.inj (f_m_wf.symm.trans hr)
    rw [n_b_wf, n_m_wf, f_o_ln]
    exact eb_wf
  case o37 =>
    obtain rfl : qo_ln = b := Option.some.inj (f_qo_ln.symm.trans hb)
    obtain rfl : b_df = a := Option.some.inj (f_b_df.symm.trans ha)
    obtain rfl : m_df = r := Option.some.inj (f_m_df.symm.trans hr)
    rw [n_b_df, n_m_df, f_o_ln]
    exact eb_df
  case o38 =>
    obtain rfl : qo_ln = b := Option.some.inj (f_qo_ln.symm.trans hb)
    obtain rfl : b_kf = a := Option.some.inj (f_b_kf.symm.trans ha)
    obtain rfl : m_kf = r := Option.some.inj (f_m_kf.symm.trans hr)
    rw [n_b_kf, n_m_kf, f_o_ln]
    exact eb_kf
  case o39 =>
    obtain rfl : qo_ln = b := Option.some.inj (f_qo_ln.symm.trans hb)
    obtain rfl : b_sf = a := Option.some.inj (f_b_sf.symm.trans ha)
    obtain rfl : m_sf = r := Option.some.inj (f_m_sf.symm.trans hr)
    rw [n_b_sf, n_m_sf, f_o_ln]
    exact eb_sf
  case o40 =>
    obtain rfl : qo_ln = b := Option.some.inj (f_qo_ln.symm.trans hb)
    obtain rfl : b_df = a := Option.some.inj (f_b_df.symm.trans ha)
    obtain rfl : b_bf = r := Option.some.inj (f_b_bf.symm.trans hr)
    rw [n_b_df, n_b_bf, f_o_ln]
    exact ⟨hBD, hDY⟩
  case o41 =>
    obtain rfl : qw = w := Option.some.inj (f_qw.symm.trans hw)
    obtain rfl : ql = q := Option.some.inj (f_ql.symm.trans hq)
    obtain rfl : qc = c := Option.some.inj (f_qc.symm.trans hc)
    exact sb_822
  case o42 =>
    obtain rfl : qw = w := Option.some.inj (f_qw.symm.trans hw)
    obtain rfl : ql = q := Option.some.inj (f_ql.symm.trans hq)
    obtain rfl : m_lst = r := Option.some.inj (f_m_lst.symm.trans hr)
    rw [fw_821, fw_831]
    exact hq_lst
  case o43 =>
    obtain rfl : qw = w := Option.some.inj (f_qw.symm.trans hw)
    obtain rfl : qlt = q := Option.some.inj (f_qlt.symm.trans hq)
    obtain rfl : m_wkd = r := Option.some.inj (f_m_wkd.symm.trans hr)
    rw [n_qlt, n_m_wkd, f_o_wkm]
    exact eb_wkd
  case o44 =>
    obtain rfl : qc = c := Option.some.inj (f_qc.symm.trans hc)
    obtain rfl : qp = q := Option.some.inj (f_qp.symm.trans hq)
    obtain rfl : m_aga = a := Option.some.inj (f_m_aga.symm.trans ha)
    rw [n_aga, f_x_claimCount]
    exact hw_DF_e hDF rfl rfl
  case o45 =>
    obtain rfl : qtp = q := Option.some.inj (f_qtp.symm.trans hq)
    obtain rfl : m_tp = r := Option.some.inj (f_m_tp.symm.trans hr)
    exact n_qtp.trans n_tp.symm
  case o46 =>
    obtain rfl : qa = q := Option.some.inj (f_qa.symm.trans hq)
    obtain rfl : qwo = w := Option.some.inj (f_qwo.symm.trans hw)
    obtain rfl : m_ad = a := Option.some.inj (f_m_ad.symm.trans ha)
    obtain rfl : mr = b := Option.some.inj (f_mr.symm.trans hb)
    obtain rfl : mn = c := Option.some.inj (f_mn.symm.trans hc)
    obtain rfl : mp = d := Option.some.inj (f_mp.symm.trans hd)
    obtain rfl : qc = e := Option.some.inj (f_qc.symm.trans he)
    obtain rfl : ml = p := Option.some.inj (f_ml.symm.trans hp)
    exact ⟨_, by rw [f_x_actCount]; exact hRA9, by rw [f_x_actCount, n_ad, n_mr, n_mn, n_mp]; exact hCA9, by rw [n_ml, f_x_claimCount]; exact hv_AC_e hAC9 rfl rfl rfl, hAB⟩
  case o47 =>
    obtain rfl : qc = c := Option.some.inj (f_qc.symm.trans hc)
    obtain rfl : qp = q := Option.some.inj (f_qp.symm.trans hq)
    obtain rfl : m_by = a := Option.some.inj (f_m_by.symm.trans ha)
    rw [n_by, f_x_claimCount]
    exact hw_DF_e hDP rfl rfl
  case o48 =>
    obtain rfl : qh = q := Option.some.inj (f_qh.symm.trans hq)
    obtain rfl : qc = c := Option.some.inj (f_qc.symm.trans hc)
    obtain rfl : m_ho = a := Option.some.inj (f_m_ho.symm.trans ha)
    rw [n_ho, f_x_heardCount, f_x_claimCount]
    exact hv_HL_e hHL rfl rfl rfl
  case o49 =>
    obtain rfl : m_ho = a := Option.some.inj (f_m_ho.symm.trans ha)
    obtain rfl : mh = b := Option.some.inj (f_mh.symm.trans hb)
    rw [n_ho, n_mh, f_m_heardMany, f_m_claims]
    exact hHO9
  case o50 =>
    obtain rfl : qc = c := Option.some.inj (f_qc.symm.trans hc)
    obtain rfl : m_fc = a := Option.some.inj (f_m_fc.symm.trans ha)
    obtain rfl : m_nt = b := Option.some.inj (f_m_nt.symm.trans hb)
    obtain rfl : m_wt = d := Option.some.inj (f_m_wt.symm.trans hd)
    obtain rfl : m_sum = e := Option.some.inj (f_m_sum.symm.trans he)
    obtain rfl : mh = f := Option.some.inj (f_mh.symm.trans hf)
    exact ⟨cF9L, by rw [f_x_claimCount]; exact hFX, by rw [n_fc, n_nt, n_wt, n_sum, n_mh, f_x_claimCount]; exact hFR9⟩
  case o51 =>
    obtain rfl : qc = c := Option.some.inj (f_qc.symm.trans hc)
    obtain rfl : m_be = a := Option.some.inj (f_m_be.symm.trans ha)
    rw [n_be, f_x_claimCount]
    exact hv_FX_e hBX rfl rfl
  case o52 =>
    obtain rfl : qo_py = p := Option.some.inj (f_qo_py.symm.trans hp)
    obtain rfl : y_p0 = q := Option.some.inj (f_y_p0.symm.trans hq)
    obtain rfl : m_p0 = r := Option.some.inj (f_m_p0.symm.trans hr)
    exact n_y_p0.trans n_p0.symm
  case o53 =>
    obtain rfl : qo_py = p := Option.some.inj (f_qo_py.symm.trans hp)
    obtain rfl : y_p1 = q := Option.some.inj (f_y_p1.symm.trans hq)
    obtain rfl : m_p1 = r := Option.some.inj (f_m_p1.symm.trans hr)
    exact n_y_p1.trans n_p1.symm
  case o54 =>
    obtain rfl : qo_py = p := Option.some.inj (f_qo_py.symm.trans hp)
    obtain rfl : y_p2 = q := Option.some.inj (f_y_p2.symm.trans hq)
    obtain rfl : m_p2 = r := Option.some.inj (f_m_p2.symm.trans hr)
    exact n_y_p2.trans n_p2.symm
  case o55 =>
    obtain rfl : qo_py = p := Option.some.inj (f_qo_py.symm.trans hp)
    obtain rfl : y_p3 = q := Option.some.inj (f_y_p3.symm.trans hq)
    obtain rfl : m_p3 = r := Option.some.inj (f_m_p3.symm.trans hr)
    exact n_y_p3.trans n_p3.symm
  case o56 =>
    obtain rfl : qo_py = p := Option.some.inj (f_qo_py.symm.trans hp)
    obtain rfl : y_p4 = q := Option.some.inj (f_y_p4.symm.trans hq)
    obtain rfl : m_p4 = r := Option.some.inj (f_m_p4.symm.trans hr)
    exact n_y_p4.trans n_p4.symm
  case o57 =>
    obtain rfl : qrg9 = p := Option.some.inj (f_qrg9.symm.trans hp)
    rw [ffv_808, ffv_809, ffv_810]
    exact hNQ9
  case o58 =>
    obtain rfl : qrg9 = p := Option.some.inj (f_qrg9.symm.trans hp)
    obtain rfl : y_ls = q := Option.some.inj (f_y_ls.symm.trans hq)
    obtain rfl : m_rl = r := Option.some.inj (f_m_rl.symm.trans hr)
    rw [n_y_ls, n_m_rl, ffv_808]
    exact hRL9
  case o59 =>
    rw [cl_dead, n_dead]
    exact eq_dead
  case o60 =>
    rw [cl_isj, n_isj]
    exact eq_isj
  case o61 =>
    rw [cl_dox, n_dox]
    exact eq_dox
  case o62 =>
    rw [cl_doy, n_doy]
    exact eq_doy
  case o63 =>
    rw [cl_fou, n_m_fou]
    exact eq_fou
  case o64 =>
    rw [cl_tri, n_mt]
    exact eq_tri
  case o65 =>
    obtain rfl : qw = w := Option.some.inj (f_qw.symm.trans hw)
    obtain rfl : ql = q := Option.some.inj (f_ql.symm.trans hq)
    exact pf_819
  case o66 =>
    rw [n_mw]
    exact hwd
  case o67 =>
    rw [n_mr, f_m_acts]
    exact hWK
  case o68 =>
    rw [n_mp, n_mn, f_m_acts]
    exact hRP
  case o69 =>
    rw [n_ml, f_m_claims, f_m_acts]
    exact hPL
  case o70 =>
    rw [n_mh, f_m_heardMany, f_m_claims]
    exact hHC
  case o71 =>
    rw [n_mt]
    refine (hx_TR_le hTR ?o72)
    case o72 => omega
  case o73 =>
    rw [n_mh, n_m_fou, f_m_claims]
    exact hHF

set_option maxHeartbeats 4000000 in
set_option maxRecDepth 100000 in
theorem law_case_26 {p : Program} {e : Env} {s : State} {m : MethodId} {below : List Frame} {meth : Method} {c : Code} (l : Launch) {b LN : Nat} {xs : Nat → Int32} (hx : p.tables.exec = Jvm.exec) (hb : c.code = code) (hr : meth.sig.returnType = ret) (hlocks : meth.locks = false) (hml : c.maxLocals = 4) (hown : s.vm.findClass "SmallCourtLaw" = some m.cls) (hts : ∀ w ∈ hx_all, w.before #[Value.ref b] s = true) (hX : va_X b LN xs s s.heap) (hbl : b < s.heap.size) (hbA : ¬ s.heap.size ≤ b) (hLN : LN ≤ 3584) (dC : Nat → ClassId) (dI : Nat → Nat → Nat) (dA : Nat → ClassId) (b0 : hx_z) (ax am : Nat) (T1 : Int) (hT0 : 0 ≤ T1) (hT1 : T1 ≤ 511) (i : Int32) (hi0 : 0 ≤ i.toInt) (hiL : i.toInt + 7 ≤ LN) (CC SS : Nat) (hCC : CC + 3 ≤ 600000) (hSS : SS + 179 ≤ 7302250) (L1 : List Nat) (hl1 : hx_h) (H : Heap) (locs : List Loc) (ls : Array Slot) (hW : hx_W T_tb (P_ty dA) (dC, dI) vwCl (fun q : Nat => s.heap.size ≤ q) s.heap L1 hl1 s H locs) (hZ : hx_Xt (fun q : Nat => s.heap.size ≤ q) b0 s) (hI : hx_IV T1 ax am L1 hl1) (hl : lv_has ls 4 [(3, .int i), (2, .ref am), (1, .ref ax), (0, .ref b)]) (kk : ∀ (L2 : List Nat) (h2 : hx_h) (H2 : Heap) (locs2 : List Loc) (ls2 : Array Slot), hx_W T_tb (P_ty dA) (dC, dI) vwCl (fun q : Nat => s.heap.size ≤ q) s.heap L2 h2 s H2 locs2 → hx_IV (T1 + 1) ax am L2 h2 → lv_has ls2 4 [(3, .int i), (2, .ref am), (1, .ref ax), (0, .ref b)] → W p l e room_1 s m #[Value.ref b] below meth c H2 locs2 (CC + 3) (SS + 179) (lw_Z below #[Value.ref b] s) (F0 m 1379 ls2 [])) : W p l e room_1 s m #[Value.ref b] below meth c H locs CC SS (lw_Z below #[Value.ref b] s) (F0 m 1254 ls []) := by
  have hI9 := hI
  have hT := hI9.1
  replace hI9 := hI9.2
  have gx := hI9.1
  replace hI9 := hI9.2
  have gm := hI9.1
  replace hI9 := hI9.2
  have zq0_3 := hI9.1
  have he_nw := zq0_3.1
  replace zq0_3 := zq0_3.2
  have he_np := zq0_3.1
  replace zq0_3 := zq0_3.2
  have he_c0 := zq0_3.1
  replace zq0_3 := zq0_3.2
  have he_tl := zq0_3.1
  replace zq0_3 := zq0_3.2
  have he_a0 := zq0_3.1
  replace zq0_3 := zq0_3.2
  have he_m0 := zq0_3.1
  replace zq0_3 := zq0_3.2
  have ho_ln := zq0_3.1
  replace zq0_3 := zq0_3.2
  have ho_lsd := zq0_3.1
  replace zq0_3 := zq0_3.2
  have ho_wkm := zq0_3.1
  replace zq0_3 := zq0_3.2
  have ho_py := zq0_3.1
  replace zq0_3 := zq0_3.2
  have hn_qp := zq0_3.1
  replace zq0_3 := zq0_3.2
  have hn_qc := zq0_3.1
  replace zq0_3 := zq0_3.2
  have hk_of := zq0_3.1
  replace zq0_3 := zq0_3.2
  have hk_wf := zq0_3.1
  replace zq0_3 := zq0_3.2
  have hk_df := zq0_3.1
  replace zq0_3 := zq0_3.2
  have hk_kf := zq0_3.1
  replace zq0_3 := zq0_3.2
  have hk_sf := zq0_3.1
  replace zq0_3 := zq0_3.2
  have hkBD := zq0_3.1
  replace zq0_3 := zq0_3.2
  have hLQ := zq0_3.1
  replace zq0_3 := zq0_3.2
  have hLE := zq0_3.1
  replace zq0_3 := zq0_3.2
  have hkWD := zq0_3.1
  replace zq0_3 := zq0_3.2
  have hkDF := zq0_3.1
  replace zq0_3 := zq0_3.2
  have hkTP := zq0_3.1
  replace zq0_3 := zq0_3.2
  have hkAC := zq0_3.1
  replace zq0_3 := zq0_3.2
  have hkDP := zq0_3.1
  replace zq0_3 := zq0_3.2
  have hkHL := zq0_3.1
  replace zq0_3 := zq0_3.2
  have hkHO := zq0_3.1
  replace zq0_3 := zq0_3.2
  have hkFX := zq0_3.1
  replace zq0_3 := zq0_3.2
  have hkBX := zq0_3.1
  replace zq0_3 := zq0_3.2
  have hf_bor := zq0_3.1
  replace zq0_3 := zq0_3.2
  have hf_kin := zq0_3.1
  replace zq0_3 := zq0_3.2
  have hf_sum := zq0_3.1
  replace zq0_3 := zq0_3.2
  have hf_fro := zq0_3.1
  replace zq0_3 := zq0_3.2
  have hf_fil := zq0_3.1
  replace zq0_3 := zq0_3.2
  have hf_hea := zq0_3.1
  replace zq0_3 := zq0_3.2
  have hf_jud := zq0_3.1
  replace zq0_3 := zq0_3.2
  have hf_ear := zq0_3.1
  replace zq0_3 := zq0_3.2
  have hf_hds := zq0_3.1
  replace zq0_3 := zq0_3.2
  have hf_ord := zq0_3.1
  replace zq0_3 := zq0_3.2
  have hf_wkl := zq0_3.1
  replace zq0_3 := zq0_3.2
  have hf_owd := zq0_3.1
  replace zq0_3 := zq0_3.2
  have hf_gds := zq0_3.1
  replace zq0_3 := zq0_3.2
  have hf_szd := zq0_3.1
  replace zq0_3 := zq0_3.2
  have hf_srv := zq0_3.1
  replace zq0_3 := zq0_3.2
  have hkP0 := zq0_3.1
  replace zq0_3 := zq0_3.2
  have hkP1 := zq0_3.1
  replace zq0_3 := zq0_3.2
  have hkP2 := zq0_3.1
  replace zq0_3 := zq0_3.2
  have hkP3 := zq0_3.1
  replace zq0_3 := zq0_3.2
  have hkP4 := zq0_3.1
  replace zq0_3 := zq0_3.2
  have hkNQ := zq0_3.1
  replace zq0_3 := zq0_3.2
  have hkRL := zq0_3.1
  replace zq0_3 := zq0_3.2
  have hc_dead := zq0_3.1
  replace zq0_3 := zq0_3.2
  have hc_isj := zq0_3.1
  replace zq0_3 := zq0_3.2
  have hc_dox := zq0_3.1
  replace zq0_3 := zq0_3.2
  have hc_doy := zq0_3.1
  replace zq0_3 := zq0_3.2
  have hc_fou := zq0_3.1
  replace zq0_3 := zq0_3.2
  have hc_tri := zq0_3.1
  replace zq0_3 := zq0_3.2
  replace hI9 := hI9.2
  have zq0_4 := hI9.1
  have ia := zq0_4.1
  replace zq0_4 := zq0_4.2
  have ip := zq0_4.1
  replace zq0_4 := zq0_4.2
  have ic := zq0_4.1
  replace zq0_4 := zq0_4.2
  have ih := zq0_4.1
  replace zq0_4 := zq0_4.2
  have il := zq0_4
  replace hI9 := hI9.2
  have zq0_5 := hI9
  have jw := zq0_5.1
  replace zq0_5 := zq0_5.2
  have jr := zq0_5.1
  replace zq0_5 := zq0_5.2
  have jp := zq0_5.1
  replace zq0_5 := zq0_5.2
  have jl := zq0_5.1
  replace zq0_5 := zq0_5.2
  have jh := zq0_5.1
  replace zq0_5 := zq0_5.2
  have jt := zq0_5.1
  replace zq0_5 := zq0_5.2
  have jf := zq0_5
  obtain ⟨qa, f_qa, g_qa⟩ := hx_rf hT gx tt_9 (k := 5) (u := 43) rfl
  have pf_qa := ia qa f_qa
  obtain ⟨qp, f_qp, g_qp⟩ := hx_rf hT gx tt_9 (k := 7) (u := 44) rfl
  have pf_qp := ip qp f_qp
  obtain ⟨qc, f_qc, g_qc⟩ := hx_rf hT gx tt_9 (k := 10) (u := 45) rfl
  have pf_qc := ic qc f_qc
  obtain ⟨qh, f_qh, g_qh⟩ := hx_rf hT gx tt_9 (k := 12) (u := 46) rfl
  have pf_qh := ih qh f_qh
  obtain ⟨qw, f_qw, g_qw⟩ := hx_rf hT gx tt_9 (k := 19) (u := 8) rfl
  obtain ⟨ql, f_ql, g_ql⟩ := hx_rf hT g_qw tt_8 (k := 3) (u := 40) rfl
  have pf_ql := il qw ql f_qw f_ql
  obtain ⟨nw, f_m_now⟩ : ∃ y : Int32, hl1.2.1 am 0 = y := ⟨_, rfl⟩
  have b_nw := hT.gi gm tt_10 (k := 0) rfl
  rw [f_m_now] at b_nw
  have b_nw : 0 ≤ nw.toInt ∧ nw.toInt ≤ 7999 := b_nw
  obtain ⟨np, f_m_persons⟩ : ∃ y : Int32, hl1.2.1 am 20 = y := ⟨_, rfl⟩
  have b_np := hT.gi gm tt_10 (k := 20) rfl
  rw [f_m_persons] at b_np
  have b_np : 0 ≤ np.toInt ∧ np.toInt ≤ 40 := b_np
  obtain ⟨c0, f_m_claims⟩ : ∃ y : Int32, hl1.2.1 am 36 = y := ⟨_, rfl⟩
  have b_c0 := hT.gi gm tt_10 (k := 36) rfl
  rw [f_m_claims] at b_c0
  have b_c0 : 0 ≤ c0.toInt ∧ c0.toInt ≤ 100 := b_c0
  obtain ⟨tl, f_m_taped⟩ : ∃ y : Int32, hl1.2.1 am 7 = y := ⟨_, rfl⟩
  have b_tl := hT.gi gm tt_10 (k := 7) rfl
  rw [f_m_taped] at b_tl
  have b_tl : 0 ≤ tl.toInt ∧ tl.toInt ≤ 400 := b_tl
  obtain ⟨a0, f_m_acts⟩ : ∃ y : Int32, hl1.2.1 am 1 = y := ⟨_, rfl⟩
  have b_a0 := hT.gi gm tt_10 (k := 1) rfl
  rw [f_m_acts] at b_a0
  have b_a0 : 0 ≤ a0.toInt ∧ a0.toInt ≤ 8 := b_a0
  obtain ⟨m0, f_m_heardMany⟩ : ∃ y : Int32, hl1.2.1 am 57 = y := ⟨_, rfl⟩
  have b_m0 := hT.gi gm tt_10 (k := 57) rfl
  rw [f_m_heardMany] at b_m0
  have b_m0 : 0 ≤ m0.toInt ∧ m0.toInt ≤ 100 := b_m0
  obtain ⟨ln, f_m_lines⟩ : ∃ y : Int32, hl1.2.1 am 29 = y := ⟨_, rfl⟩
  have b_ln := hT.gi gm tt_10 (k := 29) rfl
  rw [f_m_lines] at b_ln
  have b_ln : 0 ≤ ln.toInt ∧ ln.toInt ≤ 400 := b_ln
  obtain ⟨lsd, f_m_listed⟩ : ∃ y : Int32, hl1.2.1 am 90 = y := ⟨_, rfl⟩
  have b_lsd := hT.gi gm tt_10 (k := 90) rfl
  rw [f_m_listed] at b_lsd
  have b_lsd : 0 ≤ lsd.toInt ∧ lsd.toInt ≤ 8 := b_lsd
  obtain ⟨wkm, f_m_walkedMany⟩ : ∃ y : Int32, hl1.2.1 am 92 = y := ⟨_, rfl⟩
  have b_wkm := hT.gi gm tt_10 (k := 92) rfl
  rw [f_m_walkedMany] at b_wkm
  have b_wkm : 0 ≤ wkm.toInt ∧ wkm.toInt ≤ 8 := b_wkm
  obtain ⟨py, f_m_payments⟩ : ∃ y : Int32, hl1.2.1 am 59 = y := ⟨_, rfl⟩
  have b_py := hT.gi gm tt_10 (k := 59) rfl
  rw [f_m_payments] at b_py
  have b_py : 0 ≤ py.toInt ∧ py.toInt ≤ 600 := b_py
  have f_x_now : hl1.2.1 ax 2 = nw := he_nw.trans f_m_now
  have f_x_personCount : hl1.2.1 ax 8 = np := he_np.trans f_m_persons
  have f_x_claimCount : hl1.2.1 ax 11 = c0 := he_c0.trans f_m_claims
  have f_x_tapeLength : hl1.2.1 ax 1 = tl := he_tl.trans f_m_taped
  have f_x_actCount : hl1.2.1 ax 6 = a0 := he_a0.trans f_m_acts
  have f_x_heardCount : hl1.2.1 ax 13 = m0 := he_m0.trans f_m_heardMany
  obtain ⟨mw, f_mw, g_mw⟩ := hx_rf hT gm tt_10 (k := 19) (u := 57) rfl
  obtain ⟨F_mw, n_mw⟩ : ∃ g : Nat → Int32, hl1.2.1 mw = g := ⟨_, rfl⟩
  obtain ⟨mr, f_mr, g_mr⟩ := hx_rf hT gm tt_10 (k := 3) (u := 50) rfl
  obtain ⟨F_mr, n_mr⟩ : ∃ g : Nat → Int32, hl1.2.1 mr = g := ⟨_, rfl⟩
  obtain ⟨mp, f_mp, g_mp⟩ := hx_rf hT gm tt_10 (k := 5) (u := 52) rfl
  obtain ⟨F_mp, n_mp⟩ : ∃ g : Nat → Int32, hl1.2.1 mp = g := ⟨_, rfl⟩
  obtain ⟨mn, f_mn, g_mn⟩ := hx_rf hT gm tt_10 (k := 4) (u := 51) rfl
  obtain ⟨F_mn, n_mn⟩ : ∃ g : Nat → Int32, hl1.2.1 mn = g := ⟨_, rfl⟩
  obtain ⟨ml, f_ml, g_ml⟩ := hx_rf hT gm tt_10 (k := 44) (u := 79) rfl
  obtain ⟨F_ml, n_ml⟩ : ∃ g : Nat → Int32, hl1.2.1 ml = g := ⟨_, rfl⟩
  obtain ⟨mh, f_mh, g_mh⟩ := hx_rf hT gm tt_10 (k := 47) (u := 82) rfl
  obtain ⟨F_mh, n_mh⟩ : ∃ g : Nat → Int32, hl1.2.1 mh = g := ⟨_, rfl⟩
  obtain ⟨mt, f_mt, g_mt⟩ := hx_rf hT gm tt_10 (k := 45) (u := 80) rfl
  obtain ⟨F_mt, n_mt⟩ : ∃ g : Nat → Int32, hl1.2.1 mt = g := ⟨_, rfl⟩
  obtain ⟨m_fou, f_m_fou, g_m_fou⟩ := hx_rf hT gm tt_10 (k := 46) (u := 81) rfl
  obtain ⟨F_m_fou, n_m_fou⟩ : ∃ g : Nat → Int32, hl1.2.1 m_fou = g := ⟨_, rfl⟩
  obtain ⟨qo_ln, f_qo_ln, g_qo_ln⟩ := hx_rf hT gx tt_9 (k := 9) (u := 1) rfl
  have f_o_ln : hl1.2.1 qo_ln 0 = ln := (ho_ln qo_ln f_qo_ln).trans f_m_lines
  have f_o_lsd : hl1.2.1 qw 0 = lsd := (ho_lsd qw f_qw).trans f_m_listed
  have f_o_wkm : hl1.2.1 qw 1 = wkm := (ho_wkm qw f_qw).trans f_m_walkedMany
  obtain ⟨qo_py, f_qo_py, g_qo_py⟩ := hx_rf hT gx tt_9 (k := 14) (u := 3) rfl
  have f_o_py : hl1.2.1 qo_py 0 = py := (ho_py qo_py f_qo_py).trans f_m_payments
  have nu_qp := hn_qp qp f_qp; rw [f_x_personCount] at nu_qp
  have nu_qc := hn_qc qc f_qc; rw [f_x_claimCount] at nu_qc
  obtain ⟨b_of, f_b_of, g_b_of⟩ := hx_rf hT g_qo_ln tt_1 (k := 1) (u := 13) rfl
  obtain ⟨B_of, n_b_of⟩ : ∃ g : Nat → Int32, hl1.2.1 b_of = g := ⟨_, rfl⟩
  obtain ⟨m_of, f_m_of, g_m_of⟩ := hx_rf hT gm tt_10 (k := 30) (u := 66) rfl
  obtain ⟨F_of, n_m_of⟩ : ∃ g : Nat → Int32, hl1.2.1 m_of = g := ⟨_, rfl⟩
  have eb_of := hk_of qo_ln b_of m_of f_qo_ln f_b_of f_m_of; rw [n_b_of, n_m_of, f_o_ln] at eb_of
  obtain ⟨b_wf, f_b_wf, g_b_wf⟩ := hx_rf hT g_qo_ln tt_1 (k := 2) (u := 14) rfl
  obtain ⟨B_wf, n_b_wf⟩ : ∃ g : Nat → Int32, hl1.2.1 b_wf = g := ⟨_, rfl⟩
  obtain ⟨m_wf, f_m_wf, g_m_wf⟩ := hx_rf hT gm tt_10 (k := 31) (u := 67) rfl
  obtain ⟨F_wf, n_m_wf⟩ : ∃ g : Nat → Int32, hl1.2.1 m_wf = g := ⟨_, rfl⟩
  have eb_wf := hk_wf qo_ln b_wf m_wf f_qo_ln f_b_wf f_m_wf; rw [n_b_wf, n_m_wf, f_o_ln] at eb_wf
  obtain ⟨b_df, f_b_df, g_b_df⟩ := hx_rf hT g_qo_ln tt_1 (k := 3) (u := 15) rfl
  obtain ⟨B_df, n_b_df⟩ : ∃ g : Nat → Int32, hl1.2.1 b_df = g := ⟨_, rfl⟩
  obtain ⟨m_df, f_m_df, g_m_df⟩ := hx_rf hT gm tt_10 (k := 32) (u := 68) rfl
  obtain ⟨F_df, n_m_df⟩ : ∃ g : Nat → Int32, hl1.2.1 m_df = g := ⟨_, rfl⟩
  have eb_df := hk_df qo_ln b_df m_df f_qo_ln f_b_df f_m_df; rw [n_b_df, n_m_df, f_o_ln] at eb_df
  obtain ⟨b_kf, f_b_kf, g_b_kf⟩ := hx_rf hT g_qo_ln tt_1 (k := 4) (u := 16) rfl
  obtain ⟨B_kf, n_b_kf⟩ : ∃ g : Nat → Int32, hl1.2.1 b_kf = g := ⟨_, rfl⟩
  obtain ⟨m_kf, f_m_kf, g_m_kf⟩ := hx_rf hT gm tt_10 (k := 33) (u := 69) rfl
  obtain ⟨F_kf, n_m_kf⟩ : ∃ g : Nat → Int32, hl1.2.1 m_kf = g := ⟨_, rfl⟩
  have eb_kf := hk_kf qo_ln b_kf m_kf f_qo_ln f_b_kf f_m_kf; rw [n_b_kf, n_m_kf, f_o_ln] at eb_kf
  obtain ⟨b_sf, f_b_sf, g_b_sf⟩ := hx_rf hT g_qo_ln tt_1 (k := 5) (u := 17) rfl
  obtain ⟨B_sf, n_b_sf⟩ : ∃ g : Nat → Int32, hl1.2.1 b_sf = g := ⟨_, rfl⟩
  obtain ⟨m_sf, f_m_sf, g_m_sf⟩ := hx_rf hT gm tt_10 (k := 34) (u := 70) rfl
  obtain ⟨F_sf, n_m_sf⟩ : ∃ g : Nat → Int32, hl1.2.1 m_sf = g := ⟨_, rfl⟩
  have eb_sf := hk_sf qo_ln b_sf m_sf f_qo_ln f_b_sf f_m_sf; rw [n_b_sf, n_m_sf, f_o_ln] at eb_sf
  obtain ⟨b_bf, f_b_bf, g_b_bf⟩ := hx_rf hT g_qo_ln tt_1 (k := 6) (u := 18) rfl
  obtain ⟨bfL, n_b_bf⟩ : ∃ g : Nat → Int32, hl1.2.1 b_bf = g := ⟨_, rfl⟩
  obtain ⟨hBD, hDY⟩ := hkBD qo_ln b_df b_bf f_qo_ln f_b_df f_b_bf; rw [n_b_df, n_b_bf, f_o_ln] at hBD; rw [n_b_df, f_o_ln] at hDY
  have hBDm := hy_BD_c eb_df hBD
  have hDYm : hy_DY F_df ln.toInt.toNat := fun x hx => by rw [← eb_df x hx]; exact hDY x hx
  have sb_list := hLQ qw ql qc f_qw f_ql f_qc
  obtain ⟨m_lst, f_m_lst, g_m_lst⟩ := hx_rf hT gm tt_10 (k := 91) (u := 112) rfl
  obtain ⟨F_lst, n_lst⟩ : ∃ g : Nat → Int32, hl1.2.1 m_lst = g := ⟨_, rfl⟩
  obtain ⟨c_lst, cl_lst⟩ : ∃ g : Nat → Int32, hx_col 8 hl1 ql 0 = g := ⟨_, rfl⟩
  have eq_lst := hLE qw ql m_lst f_qw f_ql f_m_lst; rw [cl_lst, n_lst] at eq_lst
  obtain ⟨qtp, f_qtp, g_qtp⟩ := hx_rf hT gx tt_9 (k := 0) (u := 42) rfl
  obtain ⟨m_tp, f_m_tp, g_m_tp⟩ := hx_rf hT gm tt_10 (k := 6) (u := 53) rfl
  obtain ⟨F_tp, n_tp⟩ : ∃ g : Nat → Int32, hl1.2.1 m_tp = g := ⟨_, rfl⟩
  have n_qtp : hl1.2.1 qtp = F_tp := (hkTP qtp m_tp f_qtp f_m_tp).trans n_tp
  obtain ⟨c_dead, cl_dead⟩ : ∃ g : Nat → Int32, hx_col 40 hl1 qp 7 = g := ⟨_, rfl⟩
  obtain ⟨m_dead, f_m_dead, g_m_dead⟩ := hx_rf hT gm tt_10 (k := 27) (u := 64) rfl
  obtain ⟨F_dead, n_dead⟩ : ∃ g : Nat → Int32, hl1.2.1 m_dead = g := ⟨_, rfl⟩
  have eq_dead := hc_dead qp m_dead f_qp f_m_dead; rw [cl_dead, n_dead] at eq_dead
  have z_dead : np.toInt.toNat < 40 → c_dead np.toInt.toNat = 0 := fun hj => hx_num_z nu_qp cl_dead hj ?o0
  case o0 => omega
  obtain ⟨c_isj, cl_isj⟩ : ∃ g : Nat → Int32, hx_col 40 hl1 qp 8 = g := ⟨_, rfl⟩
  obtain ⟨m_isj, f_m_isj, g_m_isj⟩ := hx_rf hT gm tt_10 (k := 28) (u := 65) rfl
  obtain ⟨F_isj, n_isj⟩ : ∃ g : Nat → Int32, hl1.2.1 m_isj = g := ⟨_, rfl⟩
  have eq_isj := hc_isj qp m_isj f_qp f_m_isj; rw [cl_isj, n_isj] at eq_isj
  have z_isj : np.toInt.toNat < 40 → c_isj np.toInt.toNat = 0 := fun hj => hx_num_z nu_qp cl_isj hj ?o1
  case o1 => omega
  obtain ⟨c_dox, cl_dox⟩ : ∃ g : Nat → Int32, hx_col 40 hl1 qp 5 = g := ⟨_, rfl⟩
  obtain ⟨m_dox, f_m_dox, g_m_dox⟩ := hx_rf hT gm tt_10 (k := 24) (u := 61) rfl
  obtain ⟨F_dox, n_dox⟩ : ∃ g : Nat → Int32, hl1.2.1 m_dox = g := ⟨_, rfl⟩
  have eq_dox := hc_dox qp m_dox f_qp f_m_dox; rw [cl_dox, n_dox] at eq_dox
  have z_dox : np.toInt.toNat < 40 → c_dox np.toInt.toNat = 0 := fun hj => hx_num_z nu_qp cl_dox hj ?o2
  case o2 => omega
  obtain ⟨c_doy, cl_doy⟩ : ∃ g : Nat → Int32, hx_col 40 hl1 qp 6 = g := ⟨_, rfl⟩
  obtain ⟨m_doy, f_m_doy, g_m_doy⟩ := hx_rf hT gm tt_10 (k := 25) (u := 62) rfl
  obtain ⟨F_doy, n_doy⟩ : ∃ g : Nat → Int32, hl1.2.1 m_doy = g := ⟨_, rfl⟩
  have eq_doy := hc_doy qp m_doy f_qp f_m_doy; rw [cl_doy, n_doy] at eq_doy
  have z_doy : np.toInt.toNat < 40 → c_doy np.toInt.toNat = 0 := fun hj => hx_num_z nu_qp cl_doy hj ?o3
  case o3 => omega
  obtain ⟨c_fou, cl_fou⟩ : ∃ g : Nat → Int32, hx_col 100 hl1 qc 10 = g := ⟨_, rfl⟩
  have eq_fou := hc_fou qc m_fou f_qc f_m_fou; rw [cl_fou, n_m_fou] at eq_fou
  have z_fou : c0.toInt.toNat < 100 → c_fou c0.toInt.toNat = 0 := fun hj => hx_num_z nu_qc cl_fou hj ?o4
  case o4 => omega
  obtain ⟨c_tri, cl_tri⟩ : ∃ g : Nat → Int32, hx_col 100 hl1 qc 9 = g := ⟨_, rfl⟩
  have eq_tri := hc_tri qc mt f_qc f_mt; rw [cl_tri, n_mt] at eq_tri
  have z_tri : c0.toInt.toNat < 100 → c_tri c0.toInt.toNat = 0 := fun hj => hx_num_z nu_qc cl_tri hj ?o5
  case o5 => omega
  obtain ⟨qlt, f_qlt, g_qlt⟩ := hx_rf hT g_qw tt_8 (k := 2) (u := 39) rfl
  obtain ⟨qlf, f_qlf, g_qlf⟩ := hx_rf hT g_qw tt_8 (k := 4) (u := 41) rfl
  obtain ⟨m_wkd, f_m_wkd, g_m_wkd⟩ := hx_rf hT gm tt_10 (k := 93) (u := 113) rfl
  obtain ⟨F_qlt, n_qlt⟩ : ∃ g : Nat → Int32, hl1.2.1 qlt = g := ⟨_, rfl⟩
  obtain ⟨F_m_wkd, n_m_wkd⟩ : ∃ g : Nat → Int32, hl1.2.1 m_wkd = g := ⟨_, rfl⟩
  have eb_wkd := hkWD qw qlt m_wkd f_qw f_qlt f_m_wkd; rw [n_qlt, n_m_wkd, f_o_wkm] at eb_wkd
  obtain ⟨m_aga, f_m_aga, g_m_aga⟩ := hx_rf hT gm tt_10 (k := 38) (u := 73) rfl
  obtain ⟨F_aga, n_aga⟩ : ∃ g : Nat → Int32, hl1.2.1 m_aga = g := ⟨_, rfl⟩
  have hDF := hkDF qc qp m_aga f_qc f_qp f_m_aga; rw [n_aga, f_x_claimCount] at hDF
  obtain ⟨qwo, f_qwo, g_qwo⟩ := hx_rf hT gx tt_9 (k := 4) (u := 0) rfl
  obtain ⟨m_ad, f_m_ad, g_m_ad⟩ := hx_rf hT gm tt_10 (k := 2) (u := 49) rfl
  obtain ⟨F_ad, n_ad⟩ : ∃ g : Nat → Int32, hl1.2.1 m_ad = g := ⟨_, rfl⟩
  obtain ⟨A9, hRA9, hCA9, hAC9, hAB⟩ := hkAC qa qwo m_ad mr mn mp qc ml f_qa f_qwo f_m_ad f_mr f_mn f_mp f_qc f_ml
  rw [f_x_actCount] at hRA9; rw [f_x_actCount, n_ad, n_mr, n_mn, n_mp] at hCA9
  obtain ⟨m_by, f_m_by, g_m_by⟩ := hx_rf hT gm tt_10 (k := 37) (u := 72) rfl
  obtain ⟨F_by, n_by⟩ : ∃ g : Nat → Int32, hl1.2.1 m_by = g := ⟨_, rfl⟩
  obtain ⟨m_ho, f_m_ho, g_m_ho⟩ := hx_rf hT gm tt_10 (k := 58) (u := 92) rfl
  obtain ⟨F_ho, n_ho⟩ : ∃ g : Nat → Int32, hl1.2.1 m_ho = g := ⟨_, rfl⟩
  obtain ⟨m_fc, f_m_fc, g_m_fc⟩ := hx_rf hT gm tt_10 (k := 53) (u := 88) rfl
  obtain ⟨F_fc, n_fc⟩ : ∃ g : Nat → Int32, hl1.2.1 m_fc = g := ⟨_, rfl⟩
  obtain ⟨m_nt, f_m_nt, g_m_nt⟩ := hx_rf hT gm tt_10 (k := 41) (u := 76) rfl
  obtain ⟨F_nt, n_nt⟩ : ∃ g : Nat → Int32, hl1.2.1 m_nt = g := ⟨_, rfl⟩
  obtain ⟨m_wt, f_m_wt, g_m_wt⟩ := hx_rf hT gm tt_10 (k := 42) (u := 77) rfl
  obtain ⟨F_wt, n_wt⟩ : ∃ g : Nat → Int32, hl1.2.1 m_wt = g := ⟨_, rfl⟩
  obtain ⟨m_be, f_m_be, g_m_be⟩ := hx_rf hT gm tt_10 (k := 52) (u := 87) rfl
  obtain ⟨F_be, n_be⟩ : ∃ g : Nat → Int32, hl1.2.1 m_be = g := ⟨_, rfl⟩
  obtain ⟨m_bor, f_m_bor, g_m_bor⟩ := hx_rf hT gm tt_10 (k := 21) (u := 58) rfl
  obtain ⟨F_bor, n_bor⟩ : ∃ g : Nat → Int32, hl1.2.1 m_bor = g := ⟨_, rfl⟩
  obtain ⟨m_kin, f_m_kin, g_m_kin⟩ := hx_rf hT gm tt_10 (k := 26) (u := 63) rfl
  obtain ⟨F_kin, n_kin⟩ : ∃ g : Nat → Int32, hl1.2.1 m_kin = g := ⟨_, rfl⟩
  obtain ⟨m_sum, f_m_sum, g_m_sum⟩ := hx_rf hT gm tt_10 (k := 39) (u := 74) rfl
  obtain ⟨F_sum, n_sum⟩ : ∃ g : Nat → Int32, hl1.2.1 m_sum = g := ⟨_, rfl⟩
  obtain ⟨m_fro, f_m_fro, g_m_fro⟩ := hx_rf hT gm tt_10 (k := 40) (u := 75) rfl
  obtain ⟨F_fro, n_fro⟩ : ∃ g : Nat → Int32, hl1.2.1 m_fro = g := ⟨_, rfl⟩
  obtain ⟨m_fil, f_m_fil, g_m_fil⟩ := hx_rf hT gm tt_10 (k := 43) (u := 78) rfl
  obtain ⟨F_fil, n_fil⟩ : ∃ g : Nat → Int32, hl1.2.1 m_fil = g := ⟨_, rfl⟩
  obtain ⟨m_jud, f_m_jud, g_m_jud⟩ := hx_rf hT gm tt_10 (k := 51) (u := 86) rfl
  obtain ⟨F_jud, n_jud⟩ : ∃ g : Nat → Int32, hl1.2.1 m_jud = g := ⟨_, rfl⟩
  obtain ⟨m_ear, f_m_ear, g_m_ear⟩ := hx_rf hT gm tt_10 (k := 22) (u := 59) rfl
  obtain ⟨F_ear, n_ear⟩ : ∃ g : Nat → Int32, hl1.2.1 m_ear = g := ⟨_, rfl⟩
  obtain ⟨m_hds, f_m_hds, g_m_hds⟩ := hx_rf hT gm tt_10 (k := 23) (u := 60) rfl
  obtain ⟨F_hds, n_hds⟩ : ∃ g : Nat → Int32, hl1.2.1 m_hds = g := ⟨_, rfl⟩
  obtain ⟨m_ord, f_m_ord, g_m_ord⟩ := hx_rf hT gm tt_10 (k := 48) (u := 83) rfl
  obtain ⟨F_ord, n_ord⟩ : ∃ g : Nat → Int32, hl1.2.1 m_ord = g := ⟨_, rfl⟩
  obtain ⟨m_wkl, f_m_wkl, g_m_wkl⟩ := hx_rf hT gm tt_10 (k := 54) (u := 89) rfl
  obtain ⟨F_wkl, n_wkl⟩ : ∃ g : Nat → Int32, hl1.2.1 m_wkl = g := ⟨_, rfl⟩
  obtain ⟨m_owd, f_m_owd, g_m_owd⟩ := hx_rf hT gm tt_10 (k := 55) (u := 90) rfl
  obtain ⟨F_owd, n_owd⟩ : ∃ g : Nat → Int32, hl1.2.1 m_owd = g := ⟨_, rfl⟩
  obtain ⟨m_gds, f_m_gds, g_m_gds⟩ := hx_rf hT gm tt_10 (k := 56) (u := 91) rfl
  obtain ⟨F_gds, n_gds⟩ : ∃ g : Nat → Int32, hl1.2.1 m_gds = g := ⟨_, rfl⟩
  obtain ⟨m_szd, f_m_szd, g_m_szd⟩ := hx_rf hT gm tt_10 (k := 49) (u := 84) rfl
  obtain ⟨F_szd, n_szd⟩ : ∃ g : Nat → Int32, hl1.2.1 m_szd = g := ⟨_, rfl⟩
  obtain ⟨m_srv, f_m_srv, g_m_srv⟩ := hx_rf hT gm tt_10 (k := 50) (u := 85) rfl
  obtain ⟨F_srv, n_srv⟩ : ∃ g : Nat → Int32, hl1.2.1 m_srv = g := ⟨_, rfl⟩
  have cl_bor : hx_col 40 hl1 qp 1 = F_bor := (hf_bor qp m_bor f_qp f_m_bor).trans n_bor
  have cl_kin : hx_col 40 hl1 qp 2 = F_kin := (hf_kin qp m_kin f_qp f_m_kin).trans n_kin
  have cl_sum : hx_col 100 hl1 qc 6 = F_sum := (hf_sum qc m_sum f_qc f_m_sum).trans n_sum
  have cl_fro : hx_col 100 hl1 qc 7 = F_fro := (hf_fro qc m_fro f_qc f_m_fro).trans n_fro
  have cl_fil : hx_col 100 hl1 qc 8 = F_fil := (hf_fil qc m_fil f_qc f_m_fil).trans n_fil
  have cl_hea : hx_col 100 hl1 qc 11 = F_mh := (hf_hea qc mh f_qc f_mh).trans n_mh
  have cl_jud : hx_col 100 hl1 qc 12 = F_jud := (hf_jud qc m_jud f_qc f_m_jud).trans n_jud
  have cl_ear : hx_col 40 hl1 qp 3 = F_ear := (hf_ear qp m_ear f_qp f_m_ear).trans n_ear
  have cl_hds : hx_col 40 hl1 qp 4 = F_hds := (hf_hds qp m_hds f_qp f_m_hds).trans n_hds
  have cl_ord : hx_col 100 hl1 qc 13 = F_ord := (hf_ord qc m_ord f_qc f_m_ord).trans n_ord
  have cl_wkl : hx_col 100 hl1 qc 14 = F_wkl := (hf_wkl qc m_wkl f_qc f_m_wkl).trans n_wkl
  have cl_owd : hx_col 100 hl1 qc 15 = F_owd := (hf_owd qc m_owd f_qc f_m_owd).trans n_owd
  have cl_gds : hx_col 100 hl1 qc 17 = F_gds := (hf_gds qc m_gds f_qc f_m_gds).trans n_gds
  have cl_szd : hx_col 100 hl1 qc 16 = F_szd := (hf_szd qc m_szd f_qc f_m_szd).trans n_szd
  have cl_srv : hx_col 100 hl1 qc 18 = F_srv := (hf_srv qc m_srv f_qc f_m_srv).trans n_srv
  have htb9 : ∀ c, c < 100 → 0 ≤ (c_tri c).toInt ∧ (c_tri c).toInt ≤ 512 := fun c hc => by rw [eq_tri c hc]; have w := hT.ei g_mt tt_80 (k := c) hc; rw [n_mt] at w; exact w
  have z_jud : F_jud c0.toInt.toNat = 0 := hx_num_z2 nu_qc cl_jud ?o6
  case o6 => omega
  have hDP := hkDP qc qp m_by f_qc f_qp f_m_by; rw [n_by, f_x_claimCount] at hDP
  have hHL := hkHL qh qc m_ho f_qh f_qc f_m_ho; rw [n_ho, f_x_heardCount, f_x_claimCount] at hHL
  have hHO9 := hkHO m_ho mh f_m_ho f_mh; rw [n_ho, n_mh, f_m_heardMany, f_m_claims] at hHO9
  obtain ⟨cF9L, hFX, hFR9⟩ := hkFX qc m_fc m_nt m_wt m_sum mh f_qc f_m_fc f_m_nt f_m_wt f_m_sum f_mh; rw [f_x_claimCount] at hFX; rw [n_fc, n_nt, n_wt, n_sum, n_mh, f_x_claimCount] at hFR9
  have hBX := hkBX qc m_be f_qc f_m_be; rw [n_be, f_x_claimCount] at hBX
  rw [n_ml, f_x_claimCount] at hAC9
  obtain ⟨y_p0, f_y_p0, g_y_p0⟩ := hx_rf hT g_qo_py tt_3 (k := 2) (u := 23) rfl
  obtain ⟨m_p0, f_m_p0, g_m_p0⟩ := hx_rf hT gm tt_10 (k := 60) (u := 93) rfl
  obtain ⟨F_p0, n_p0⟩ : ∃ g : Nat → Int32, hl1.2.1 m_p0 = g := ⟨_, rfl⟩
  have n_y_p0 : hl1.2.1 y_p0 = F_p0 := (hkP0 qo_py y_p0 m_p0 f_qo_py f_y_p0 f_m_p0).trans n_p0
  obtain ⟨y_p1, f_y_p1, g_y_p1⟩ := hx_rf hT g_qo_py tt_3 (k := 3) (u := 24) rfl
  obtain ⟨m_p1, f_m_p1, g_m_p1⟩ := hx_rf hT gm tt_10 (k := 61) (u := 94) rfl
  obtain ⟨F_p1, n_p1⟩ : ∃ g : Nat → Int32, hl1.2.1 m_p1 = g := ⟨_, rfl⟩
  have n_y_p1 : hl1.2.1 y_p1 = F_p1 := (hkP1 qo_py y_p1 m_p1 f_qo_py f_y_p1 f_m_p1).trans n_p1
  obtain ⟨y_p2, f_y_p2, g_y_p2⟩ := hx_rf hT g_qo_py tt_3 (k := 5) (u := 26) rfl
  obtain ⟨m_p2, f_m_p2, g_m_p2⟩ := hx_rf hT gm tt_10 (k := 62) (u := 95) rfl
  obtain ⟨F_p2, n_p2⟩ : ∃ g : Nat → Int32, hl1.2.1 m_p2 = g := ⟨_, rfl⟩
  have n_y_p2 : hl1.2.1 y_p2 = F_p2 := (hkP2 qo_py y_p2 m_p2 f_qo_py f_y_p2 f_m_p2).trans n_p2
  obtain ⟨y_p3, f_y_p3, g_y_p3⟩ := hx_rf hT g_qo_py tt_3 (k := 4) (u := 25) rfl
  obtain ⟨m_p3, f_m_p3, g_m_p3⟩ := hx_rf hT gm tt_10 (k := 63) (u := 96) rfl
  obtain ⟨F_p3, n_p3⟩ : ∃ g : Nat → Int32, hl1.2.1 m_p3 = g := ⟨_, rfl⟩
  have n_y_p3 : hl1.2.1 y_p3 = F_p3 := (hkP3 qo_py y_p3 m_p3 f_qo_py f_y_p3 f_m_p3).trans n_p3
  obtain ⟨y_p4, f_y_p4, g_y_p4⟩ := hx_rf hT g_qo_py tt_3 (k := 1) (u := 22) rfl
  obtain ⟨m_p4, f_m_p4, g_m_p4⟩ := hx_rf hT gm tt_10 (k := 64) (u := 97) rfl
  obtain ⟨F_p4, n_p4⟩ : ∃ g : Nat → Int32, hl1.2.1 m_p4 = g := ⟨_, rfl⟩
  have n_y_p4 : hl1.2.1 y_p4 = F_p4 := (hkP4 qo_py y_p4 m_p4 f_qo_py f_y_p4 f_m_p4).trans n_p4
  obtain ⟨qrg9, f_qrg9, g_qrg9⟩ := hx_rf hT gx tt_9 (k := 18) (u := 7) rfl
  obtain ⟨y_ls, f_y_ls, g_y_ls⟩ := hx_rf hT g_qrg9 tt_7 (k := 3) (u := 35) rfl
  obtain ⟨m_rl, f_m_rl, g_m_rl⟩ := hx_rf hT gm tt_10 (k := 85) (u := 109) rfl
  obtain ⟨F_y_ls, n_y_ls⟩ : ∃ g : Nat → Int32, hl1.2.1 y_ls = g := ⟨_, rfl⟩
  obtain ⟨F_m_rl, n_m_rl⟩ : ∃ g : Nat → Int32, hl1.2.1 m_rl = g := ⟨_, rfl⟩
  obtain ⟨fv_832, efv_832⟩ : ∃ y : Int32, y = hl1.2.1 qrg9 0 := ⟨_, rfl⟩
  have bfv_832 := hT.gi g_qrg9 tt_7 (k := 0) rfl
  rw [← efv_832] at bfv_832
  have bfv_832 : -1 ≤ fv_832.toInt ∧ fv_832.toInt ≤ 100 := bfv_832
  have ffv_832 := efv_832.symm
  obtain ⟨fv_833, efv_833⟩ : ∃ y : Int32, y = hl1.2.1 am 83 := ⟨_, rfl⟩
  have bfv_833 := hT.gi gm tt_10 (k := 83) rfl
  rw [← efv_833] at bfv_833
  have bfv_833 : 0 ≤ fv_833.toInt ∧ fv_833.toInt ≤ 1 := bfv_833
  have ffv_833 := efv_833.symm
  obtain ⟨fv_834, efv_834⟩ : ∃ y : Int32, y = hl1.2.1 am 84 := ⟨_, rfl⟩
  have bfv_834 := hT.gi gm tt_10 (k := 84) rfl
  rw [← efv_834] at bfv_834
  have bfv_834 : 0 ≤ fv_834.toInt ∧ fv_834.toInt ≤ 300 := bfv_834
  have ffv_834 := efv_834.symm
  have hNQ9 := hkNQ qrg9 f_qrg9; rw [ffv_832, ffv_833, ffv_834] at hNQ9
  have hRL9 := hkRL qrg9 y_ls m_rl f_qrg9 f_y_ls f_m_rl; rw [n_y_ls, n_m_rl, ffv_832] at hRL9
  have hCB : hz_CB F_ord F_wkl F_owd F_szd F_gds F_srv := fun c hc => ⟨by have w := hT.ei g_m_ord tt_83 (k := c) (by omega); rw [n_ord] at w; exact w, by have w := hT.ei g_m_wkl tt_89 (k := c) (by omega); rw [n_wkl] at w; exact w, by have w := hT.ei g_m_owd tt_90 (k := c) (by omega); rw [n_owd] at w; exact w, by have w := hT.ei g_m_szd tt_84 (k := c) (by omega); rw [n_szd] at w; exact w, by have w := hT.ei g_m_gds tt_91 (k := c) (by omega); rw [n_gds] at w; exact w, by have w := hT.ei g_m_srv tt_85 (k := c) (by omega); rw [n_srv] at w; exact w⟩
  have hps : ∀ j, j < 600 → 0 ≤ (F_p2 j).toInt ∧ (F_p2 j).toInt ≤ 610000 := fun j hj => by have w := hT.ei g_m_p2 tt_95 (k := j) (by omega); rw [n_p2] at w; exact w
  have hte9 : ∀ c : Nat, c < 100 → (0 ≤ (c_tri c).toInt ∧ (c_tri c).toInt ≤ 512) ∧ (0 ≤ (F_sum c).toInt ∧ (F_sum c).toInt ≤ 9999) := fun c hc => ⟨htb9 c hc, by have w := hT.ei g_m_sum tt_74 (k := c) (by omega); rw [n_sum] at w; exact w⟩
  have hee9 : ∀ c : Nat, c < 40 → (0 ≤ (F_ear c).toInt ∧ (F_ear c).toInt ≤ 9999) ∧ (0 ≤ (F_hds c).toInt ∧ (F_hds c).toInt ≤ 20) := fun c hc => ⟨by have w := hT.ei g_m_ear tt_59 (k := c) (by omega); rw [n_ear] at w; exact w, by have w := hT.ei g_m_hds tt_60 (k := c) (by omega); rw [n_hds] at w; exact w⟩
  have bAG9 : ∀ k, k < 100 → 0 ≤ (F_aga k).toInt ∧ (F_aga k).toInt ≤ 39 := fun k hk => by have w := hT.ei g_m_aga tt_73 (k := k) (by omega); rw [n_aga] at w; exact w
  have bBY9 : ∀ k, k < 100 → 0 ≤ (F_by k).toInt ∧ (F_by k).toInt ≤ 39 := fun k hk => by have w := hT.ei g_m_by tt_72 (k := k) (by omega); rw [n_by] at w; exact w
  have hag9 : ∀ c, c < c0.toInt.toNat → 0 ≤ (F_aga c).toInt ∧ (F_aga c).toInt < 40 ∧ 0 ≤ (F_by c).toInt ∧ (F_by c).toInt < 40 := fun c hc => by have a9 := bAG9 c (by omega); have b9 := bBY9 c (by omega); omega
  have z_wkl : F_wkl c0.toInt.toNat = 0 := hx_num_z2 nu_qc cl_wkl ?o7
  case o7 => omega
  have z_owd : F_owd c0.toInt.toNat = 0 := hx_num_z2 nu_qc cl_owd ?o8
  case o8 => omega
  have z_gds : F_gds c0.toInt.toNat = 0 := hx_num_z2 nu_qc cl_gds ?o9
  case o9 => omega
  have hwd := jw mw f_mw; rw [n_mw] at hwd
  have hWK := jr mr f_mr; rw [n_mr, f_m_acts] at hWK
  have hRP := jp mp mn f_mp f_mn; rw [n_mp, n_mn, f_m_acts] at hRP
  have hPL := jl ml f_ml; rw [n_ml, f_m_claims, f_m_acts] at hPL
  have hHC := jh mh f_mh; rw [n_mh, f_m_heardMany, f_m_claims] at hHC
  have hTR := jt mt f_mt; rw [n_mt] at hTR
  have hHF := jf mh m_fou f_mh f_m_fou; rw [n_mh, n_m_fou, f_m_claims] at hHF
  refine lv_aload_n hx hb dL_law_1254 rfl (lv_at hl 2 rfl) ?_
  have hTo := hT
  have bL9 : ∀ k, k < 8 → 0 ≤ (F_lst k).toInt ∧ (F_lst k).toInt ≤ 99 := fun k hk => by have w := hT.ei g_m_lst tt_112 (k := k) hk; rw [n_lst] at w; exact w
  have bA9 : ∀ k, k < 100 → 0 ≤ (F_aga k).toInt ∧ (F_aga k).toInt ≤ 39 := fun k hk => by have w := hT.ei g_m_aga tt_73 (k := k) hk; rw [n_aga] at w; exact w
  have b9_dox : ∀ k, k < 40 → 0 ≤ (F_dox k).toInt ∧ (F_dox k).toInt ≤ 99 := fun k hk => by have w := hT.ei g_m_dox tt_61 (k := k) hk; rw [n_dox] at w; exact w
  have hGx := hw_dc_of (n := lsd.toInt) ?o10 nu_qc sb_list cl_lst eq_lst hDF cl_dox eq_dox
  case o10 => omega
  have hBx := hw_B (n := lsd.toInt) ?o11 bL9 bA9 b9_dox
  case o11 => omega
  have b9_doy : ∀ k, k < 40 → 0 ≤ (F_doy k).toInt ∧ (F_doy k).toInt ≤ 99 := fun k hk => by have w := hT.ei g_m_doy tt_62 (k := k) hk; rw [n_doy] at w; exact w
  have hGy := hw_dc_of (n := lsd.toInt) ?o12 nu_qc sb_list cl_lst eq_lst hDF cl_doy eq_doy
  case o12 => omega
  have hBy := hw_B (n := lsd.toInt) ?o13 bL9 bA9 b9_doy
  case o13 => omega
  refine hx_goi (hx_runV (As := []) (rest := []) ⟨hx, hb, hml, hown, hts⟩ hW gx tt_9 (T := TX9) (N := 20) rfl (t_X9_walk_2 l dC dI dA L1 hl1 H.size ax hT gx qw g_qw f_qw ql g_ql f_ql qlf g_qlf f_qlf qlt g_qlt f_qlt F_qlt n_qlt lsd f_o_lsd c_lst cl_lst (fun k => F_dox (F_aga (F_lst k).toInt.toNat).toInt.toNat) (fun k => F_doy (F_aga (F_lst k).toInt.toNat).toInt.toNat) hGx hGy hBx hBy pf_ql) (cwV 0 hts (hx_gV kw_1051 kw_1048 kw_1049 kw_1050 kw_94) rfl rfl rfl (by decide +kernel) ⟨Nat.le_of_ble_eq_true rfl, Nat.le_of_ble_eq_true rfl⟩) rfl hl.1 rfl (Nat.le_of_ble_eq_true rfl) dL_law_1255 ⟨(show CC + 0 ≤ 600000 from ?o14), (show SS + 0 ≤ 7302250 from ?o15)⟩) hW (fun r_837 L_835 h_836 H locs p_838 hW => ?_)
  case o14 => omega
  case o15 => omega
  obtain ⟨⟨w_840, w_841, w_842, fw_840, fw_841, fw_842, hr_839⟩, hT, hs⟩ := p_838
  replace hT : hx_T T_tb L_835 h_836 := hT
  replace hs : hx_S T_tb [(8, 0), (8, 1), (39, 0), (41, 0)] L1 hl1 L_835 h_836 := hs
  replace f_qa := (hs.o gx trivial rfl).2.trans f_qa
  replace f_qp := (hs.o gx trivial rfl).2.trans f_qp
  replace f_qc := (hs.o gx trivial rfl).2.trans f_qc
  replace f_qh := (hs.o gx trivial rfl).2.trans f_qh
  replace f_qw := (hs.o gx trivial rfl).2.trans f_qw
  replace f_ql := (hs.o g_qw trivial rfl).2.trans f_ql
  replace f_m_now := (hs.o gm trivial rfl).1.trans f_m_now
  replace f_m_persons := (hs.o gm trivial rfl).1.trans f_m_persons
  replace f_m_claims := (hs.o gm trivial rfl).1.trans f_m_claims
  replace f_m_taped := (hs.o gm trivial rfl).1.trans f_m_taped
  replace f_m_acts := (hs.o gm trivial rfl).1.trans f_m_acts
  replace f_m_heardMany := (hs.o gm trivial rfl).1.trans f_m_heardMany
  replace f_m_lines := (hs.o gm trivial rfl).1.trans f_m_lines
  replace f_m_listed := (hs.o gm trivial rfl).1.trans f_m_listed
  replace f_m_walkedMany := (hs.o gm trivial rfl).1.trans f_m_walkedMany
  replace f_m_payments := (hs.o gm trivial rfl).1.trans f_m_payments
  replace f_x_now := (hs.o gx trivial rfl).1.trans f_x_now
  replace f_x_personCount := (hs.o gx trivial rfl).1.trans f_x_personCount
  replace f_x_claimCount := (hs.o gx trivial rfl).1.trans f_x_claimCount
  replace f_x_tapeLength := (hs.o gx trivial rfl).1.trans f_x_tapeLength
  replace f_x_actCount := (hs.o gx trivial rfl).1.trans f_x_actCount
  replace f_x_heardCount := (hs.o gx trivial rfl).1.trans f_x_heardCount
  replace f_mw := (hs.o gm trivial rfl).2.trans f_mw
  replace f_mr := (hs.o gm trivial rfl).2.trans f_mr
  replace f_mp := (hs.o gm trivial rfl).2.trans f_mp
  replace f_mn := (hs.o gm trivial rfl).2.trans f_mn
  replace f_ml := (hs.o gm trivial rfl).2.trans f_ml
  replace f_mh := (hs.o gm trivial rfl).2.trans f_mh
  replace f_mt := (hs.o gm trivial rfl).2.trans f_mt
  replace f_m_fou := (hs.o gm trivial rfl).2.trans f_m_fou
  replace f_qo_ln := (hs.o gx trivial rfl).2.trans f_qo_ln
  replace f_o_ln := (hs.o g_qo_ln trivial rfl).1.trans f_o_ln
  replace f_qo_py := (hs.o gx trivial rfl).2.trans f_qo_py
  replace f_o_py := (hs.o g_qo_py trivial rfl).1.trans f_o_py
  replace f_b_of := (hs.o g_qo_ln trivial rfl).2.trans f_b_of
  replace f_m_of := (hs.o gm trivial rfl).2.trans f_m_of
  replace f_b_wf := (hs.o g_qo_ln trivial rfl).2.trans f_b_wf
  replace f_m_wf := (hs.o gm trivial rfl).2.trans f_m_wf
  replace f_b_df := (hs.o g_qo_ln trivial rfl).2.trans f_b_df
  replace f_m_df := (hs.o gm trivial rfl).2.trans f_m_df
  replace f_b_kf := (hs.o g_qo_ln trivial rfl).2.trans f_b_kf
  replace f_m_kf := (hs.o gm trivial rfl).2.trans f_m_kf
  replace f_b_sf := (hs.o g_qo_ln trivial rfl).2.trans f_b_sf
  replace f_m_sf := (hs.o gm trivial rfl).2.trans f_m_sf
  replace f_b_bf := (hs.o g_qo_ln trivial rfl).2.trans f_b_bf
  replace f_m_lst := (hs.o gm trivial rfl).2.trans f_m_lst
  replace f_qtp := (hs.o gx trivial rfl).2.trans f_qtp
  replace f_m_tp := (hs.o gm trivial rfl).2.trans f_m_tp
  replace f_m_dead := (hs.o gm trivial rfl).2.trans f_m_dead
  replace f_m_isj := (hs.o gm trivial rfl).2.trans f_m_isj
  replace f_m_dox := (hs.o gm trivial rfl).2.trans f_m_dox
  replace f_m_doy := (hs.o gm trivial rfl).2.trans f_m_doy
  replace f_qlt := (hs.o g_qw trivial rfl).2.trans f_qlt
  replace f_qlf := (hs.o g_qw trivial rfl).2.trans f_qlf
  replace f_m_wkd := (hs.o gm trivial rfl).2.trans f_m_wkd
  replace f_m_aga := (hs.o gm trivial rfl).2.trans f_m_aga
  replace f_qwo := (hs.o gx trivial rfl).2.trans f_qwo
  replace f_m_ad := (hs.o gm trivial rfl).2.trans f_m_ad
  replace f_m_by := (hs.o gm trivial rfl).2.trans f_m_by
  replace f_m_ho := (hs.o gm trivial rfl).2.trans f_m_ho
  replace f_m_fc := (hs.o gm trivial rfl).2.trans f_m_fc
  replace f_m_nt := (hs.o gm trivial rfl).2.trans f_m_nt
  replace f_m_wt := (hs.o gm trivial rfl).2.trans f_m_wt
  replace f_m_be := (hs.o gm trivial rfl).2.trans f_m_be
  replace f_m_bor := (hs.o gm trivial rfl).2.trans f_m_bor
  replace f_m_kin := (hs.o gm trivial rfl).2.trans f_m_kin
  replace f_m_sum := (hs.o gm trivial rfl).2.trans f_m_sum
  replace f_m_fro := (hs.o gm trivial rfl).2.trans f_m_fro
  replace f_m_fil := (hs.o gm trivial rfl).2.trans f_m_fil
  replace f_m_jud := (hs.o gm trivial rfl).2.trans f_m_jud
  replace f_m_ear := (hs.o gm trivial rfl).2.trans f_m_ear
  replace f_m_hds := (hs.o gm trivial rfl).2.trans f_m_hds
  replace f_m_ord := (hs.o gm trivial rfl).2.trans f_m_ord
  replace f_m_wkl := (hs.o gm trivial rfl).2.trans f_m_wkl
  replace f_m_owd := (hs.o gm trivial rfl).2.trans f_m_owd
  replace f_m_gds := (hs.o gm trivial rfl).2.trans f_m_gds
  replace f_m_szd := (hs.o gm trivial rfl).2.trans f_m_szd
  replace f_m_srv := (hs.o gm trivial rfl).2.trans f_m_srv
  replace f_y_p0 := (hs.o g_qo_py trivial rfl).2.trans f_y_p0
  replace f_m_p0 := (hs.o gm trivial rfl).2.trans f_m_p0
  replace f_y_p1 := (hs.o g_qo_py trivial rfl).2.trans f_y_p1
  replace f_m_p1 := (hs.o gm trivial rfl).2.trans f_m_p1
  replace f_y_p2 := (hs.o g_qo_py trivial rfl).2.trans f_y_p2
  replace f_m_p2 := (hs.o gm trivial rfl).2.trans f_m_p2
  replace f_y_p3 := (hs.o g_qo_py trivial rfl).2.trans f_y_p3
  replace f_m_p3 := (hs.o gm trivial rfl).2.trans f_m_p3
  replace f_y_p4 := (hs.o g_qo_py trivial rfl).2.trans f_y_p4
  replace f_m_p4 := (hs.o gm trivial rfl).2.trans f_m_p4
  replace f_qrg9 := (hs.o gx trivial rfl).2.trans f_qrg9
  replace f_y_ls := (hs.o g_qrg9 trivial rfl).2.trans f_y_ls
  replace f_m_rl := (hs.o gm trivial rfl).2.trans f_m_rl
  replace ffv_832 := (hs.o g_qrg9 trivial rfl).1.trans ffv_832
  replace ffv_833 := (hs.o gm trivial rfl).1.trans ffv_833
  replace ffv_834 := (hs.o gm trivial rfl).1.trans ffv_834
  replace pf_qa : ∀ j : Nat, (j : Int) < (h_836.2.1 ax 6).toInt → h_836.2.2 qa j ≠ none := by
    intro j hj; rw [(hs.o gx trivial rfl).1] at hj; rw [(hs.a g_qa rfl j).2]; exact pf_qa j hj
  replace pf_qp : ∀ j : Nat, (j : Int) < (h_836.2.1 ax 8).toInt → h_836.2.2 qp j ≠ none := by
    intro j hj; rw [(hs.o gx trivial rfl).1] at hj; rw [(hs.a g_qp rfl j).2]; exact pf_qp j hj
  replace pf_qc : ∀ j : Nat, (j : Int) < (h_836.2.1 ax 11).toInt → h_836.2.2 qc j ≠ none := by
    intro j hj; rw [(hs.o gx trivial rfl).1] at hj; rw [(hs.a g_qc rfl j).2]; exact pf_qc j hj
  replace pf_qh : ∀ j : Nat, (j : Int) < (h_836.2.1 ax 13).toInt → h_836.2.2 qh j ≠ none := by
    intro j hj; rw [(hs.o gx trivial rfl).1] at hj; rw [(hs.a g_qh rfl j).2]; exact pf_qh j hj
  replace cl_lst : hx_col 8 h_836 ql 0 = c_lst := (hx_col_S hs hTo g_ql tt_40 tt_2 rfl rfl).trans cl_lst
  replace cl_dead : hx_col 40 h_836 qp 7 = c_dead := (hx_col_S hs hTo g_qp tt_44 tt_4 rfl rfl).trans cl_dead
  replace cl_isj : hx_col 40 h_836 qp 8 = c_isj := (hx_col_S hs hTo g_qp tt_44 tt_4 rfl rfl).trans cl_isj
  replace cl_dox : hx_col 40 h_836 qp 5 = c_dox := (hx_col_S hs hTo g_qp tt_44 tt_4 rfl rfl).trans cl_dox
  replace cl_doy : hx_col 40 h_836 qp 6 = c_doy := (hx_col_S hs hTo g_qp tt_44 tt_4 rfl rfl).trans cl_doy
  replace cl_fou : hx_col 100 h_836 qc 10 = c_fou := (hx_col_S hs hTo g_qc tt_45 tt_2 rfl rfl).trans cl_fou
  replace cl_tri : hx_col 100 h_836 qc 9 = c_tri := (hx_col_S hs hTo g_qc tt_45 tt_2 rfl rfl).trans cl_tri
  replace cl_bor : hx_col 40 h_836 qp 1 = F_bor := (hx_col_S hs hTo g_qp tt_44 tt_4 rfl rfl).trans cl_bor
  replace cl_kin : hx_col 40 h_836 qp 2 = F_kin := (hx_col_S hs hTo g_qp tt_44 tt_4 rfl rfl).trans cl_kin
  replace cl_sum : hx_col 100 h_836 qc 6 = F_sum := (hx_col_S hs hTo g_qc tt_45 tt_2 rfl rfl).trans cl_sum
  replace cl_fro : hx_col 100 h_836 qc 7 = F_fro := (hx_col_S hs hTo g_qc tt_45 tt_2 rfl rfl).trans cl_fro
  replace cl_fil : hx_col 100 h_836 qc 8 = F_fil := (hx_col_S hs hTo g_qc tt_45 tt_2 rfl rfl).trans cl_fil
  replace cl_hea : hx_col 100 h_836 qc 11 = F_mh := (hx_col_S hs hTo g_qc tt_45 tt_2 rfl rfl).trans cl_hea
  replace cl_jud : hx_col 100 h_836 qc 12 = F_jud := (hx_col_S hs hTo g_qc tt_45 tt_2 rfl rfl).trans cl_jud
  replace cl_ear : hx_col 40 h_836 qp 3 = F_ear := (hx_col_S hs hTo g_qp tt_44 tt_4 rfl rfl).trans cl_ear
  replace cl_hds : hx_col 40 h_836 qp 4 = F_hds := (hx_col_S hs hTo g_qp tt_44 tt_4 rfl rfl).trans cl_hds
  replace cl_ord : hx_col 100 h_836 qc 13 = F_ord := (hx_col_S hs hTo g_qc tt_45 tt_2 rfl rfl).trans cl_ord
  replace cl_wkl : hx_col 100 h_836 qc 14 = F_wkl := (hx_col_S hs hTo g_qc tt_45 tt_2 rfl rfl).trans cl_wkl
  replace cl_owd : hx_col 100 h_836 qc 15 = F_owd := (hx_col_S hs hTo g_qc tt_45 tt_2 rfl rfl).trans cl_owd
  replace cl_gds : hx_col 100 h_836 qc 17 = F_gds := (hx_col_S hs hTo g_qc tt_45 tt_2 rfl rfl).trans cl_gds
  replace cl_szd : hx_col 100 h_836 qc 16 = F_szd := (hx_col_S hs hTo g_qc tt_45 tt_2 rfl rfl).trans cl_szd
  replace cl_srv : hx_col 100 h_836 qc 18 = F_srv := (hx_col_S hs hTo g_qc tt_45 tt_2 rfl rfl).trans cl_srv
  replace nu_qp : hx_num 40 h_836 qp 0 (np.toInt) := hx_num_S hs hTo g_qp tt_44 tt_4 rfl rfl nu_qp
  replace nu_qc : hx_num 100 h_836 qc 0 (c0.toInt) := hx_num_S hs hTo g_qc tt_45 tt_2 rfl rfl nu_qc
  replace sb_list : hx_LQ 8 100 h_836 ql qc := hx_LQ_S hs g_ql g_qc rfl rfl sb_list
  replace hDF : hw_DF h_836 qc qp 2 F_aga c0.toInt := hw_DF_S hs hTo g_qc g_qp tt_45 tt_2 rfl rfl rfl hDF
  replace hRA9 : hv_RA h_836 qa qwo a0.toInt A9 := hv_RA_S hs hTo g_qa g_qwo tt_43 tt_0 rfl rfl rfl rfl rfl rfl ?o16 hRA9
  case o16 => omega
  replace hDP : hw_DF h_836 qc qp 1 F_by c0.toInt := hw_DF_S hs hTo g_qc g_qp tt_45 tt_2 rfl rfl rfl hDP
  replace hAC9 : hv_AC h_836 qc F_ml c0.toInt A9 := hv_AC_S hs hTo g_qc tt_45 tt_2 rfl tt_0 rfl rfl rfl rfl rfl rfl rfl hAC9
  replace hFX : hv_FX 8 4 h_836 qc cF9L c0.toInt := hv_FX_S hs hTo g_qc tt_45 tt_2 rfl rfl rfl rfl hFX
  replace hBX : hv_FX 3 5 h_836 qc F_be c0.toInt := hv_FX_S hs hTo g_qc tt_45 tt_2 rfl rfl rfl rfl hBX
  replace hHL : hv_HL h_836 qh qc F_ho m0.toInt c0.toInt := hv_HL_S hs g_qh g_qc rfl rfl hHL
  replace n_mw : h_836.2.1 mw = F_mw := (funext fun j => (hs.a g_mw rfl j).1).trans n_mw
  replace n_mr : h_836.2.1 mr = F_mr := (funext fun j => (hs.a g_mr rfl j).1).trans n_mr
  replace n_mp : h_836.2.1 mp = F_mp := (funext fun j => (hs.a g_mp rfl j).1).trans n_mp
  replace n_mn : h_836.2.1 mn = F_mn := (funext fun j => (hs.a g_mn rfl j).1).trans n_mn
  replace n_ml : h_836.2.1 ml = F_ml := (funext fun j => (hs.a g_ml rfl j).1).trans n_ml
  replace n_mh : h_836.2.1 mh = F_mh := (funext fun j => (hs.a g_mh rfl j).1).trans n_mh
  replace n_mt : h_836.2.1 mt = F_mt := (funext fun j => (hs.a g_mt rfl j).1).trans n_mt
  replace n_m_fou : h_836.2.1 m_fou = F_m_fou := (funext fun j => (hs.a g_m_fou rfl j).1).trans n_m_fou
  replace n_b_of : h_836.2.1 b_of = B_of := (funext fun j => (hs.a g_b_of rfl j).1).trans n_b_of
  replace n_m_of : h_836.2.1 m_of = F_of := (funext fun j => (hs.a g_m_of rfl j).1).trans n_m_of
  replace n_b_wf : h_836.2.1 b_wf = B_wf := (funext fun j => (hs.a g_b_wf rfl j).1).trans n_b_wf
  replace n_m_wf : h_836.2.1 m_wf = F_wf := (funext fun j => (hs.a g_m_wf rfl j).1).trans n_m_wf
  replace n_b_df : h_836.2.1 b_df = B_df := (funext fun j => (hs.a g_b_df rfl j).1).trans n_b_df
  replace n_m_df : h_836.2.1 m_df = F_df := (funext fun j => (hs.a g_m_df rfl j).1).trans n_m_df
  replace n_b_kf : h_836.2.1 b_kf = B_kf := (funext fun j => (hs.a g_b_kf rfl j).1).trans n_b_kf
  replace n_m_kf : h_836.2.1 m_kf = F_kf := (funext fun j => (hs.a g_m_kf rfl j).1).trans n_m_kf
  replace n_b_sf : h_836.2.1 b_sf = B_sf := (funext fun j => (hs.a g_b_sf rfl j).1).trans n_b_sf
  replace n_m_sf : h_836.2.1 m_sf = F_sf := (funext fun j => (hs.a g_m_sf rfl j).1).trans n_m_sf
  replace n_b_bf : h_836.2.1 b_bf = bfL := (funext fun j => (hs.a g_b_bf rfl j).1).trans n_b_bf
  replace n_lst : h_836.2.1 m_lst = F_lst := (funext fun j => (hs.a g_m_lst rfl j).1).trans n_lst
  replace n_tp : h_836.2.1 m_tp = F_tp := (funext fun j => (hs.a g_m_tp rfl j).1).trans n_tp
  replace n_qtp : h_836.2.1 qtp = F_tp := (funext fun j => (hs.a g_qtp rfl j).1).trans n_qtp
  replace n_dead : h_836.2.1 m_dead = F_dead := (funext fun j => (hs.a g_m_dead rfl j).1).trans n_dead
  replace n_isj : h_836.2.1 m_isj = F_isj := (funext fun j => (hs.a g_m_isj rfl j).1).trans n_isj
  replace n_dox : h_836.2.1 m_dox = F_dox := (funext fun j => (hs.a g_m_dox rfl j).1).trans n_dox
  replace n_doy : h_836.2.1 m_doy = F_doy := (funext fun j => (hs.a g_m_doy rfl j).1).trans n_doy
  replace n_m_wkd : h_836.2.1 m_wkd = F_m_wkd := (funext fun j => (hs.a g_m_wkd rfl j).1).trans n_m_wkd
  replace n_aga : h_836.2.1 m_aga = F_aga := (funext fun j => (hs.a g_m_aga rfl j).1).trans n_aga
  replace n_ad : h_836.2.1 m_ad = F_ad := (funext fun j => (hs.a g_m_ad rfl j).1).trans n_ad
  replace n_by : h_836.2.1 m_by = F_by := (funext fun j => (hs.a g_m_by rfl j).1).trans n_by
  replace n_ho : h_836.2.1 m_ho = F_ho := (funext fun j => (hs.a g_m_ho rfl j).1).trans n_ho
  replace n_fc : h_836.2.1 m_fc = F_fc := (funext fun j => (hs.a g_m_fc rfl j).1).trans n_fc
  replace n_nt : h_836.2.1 m_nt = F_nt := (funext fun j => (hs.a g_m_nt rfl j).1).trans n_nt
  replace n_wt : h_836.2.1 m_wt = F_wt := (funext fun j => (hs.a g_m_wt rfl j).1).trans n_wt
  replace n_be : h_836.2.1 m_be = F_be := (funext fun j => (hs.a g_m_be rfl j).1).trans n_be
  replace n_bor : h_836.2.1 m_bor = F_bor := (funext fun j => (hs.a g_m_bor rfl j).1).trans n_bor
  replace n_kin : h_836.2.1 m_kin = F_kin := (funext fun j => (hs.a g_m_kin rfl j).1).trans n_kin
  replace n_sum : h_836.2.1 m_sum = F_sum := (funext fun j => (hs.a g_m_sum rfl j).1).trans n_sum
  replace n_fro : h_836.2.1 m_fro = F_fro := (funext fun j => (hs.a g_m_fro rfl j).1).trans n_fro
  replace n_fil : h_836.2.1 m_fil = F_fil := (funext fun j => (hs.a g_m_fil rfl j).1).trans n_fil
  replace n_jud : h_836.2.1 m_jud = F_jud := (funext fun j => (hs.a g_m_jud rfl j).1).trans n_jud
  replace n_ear : h_836.2.1 m_ear = F_ear := (funext fun j => (hs.a g_m_ear rfl j).1).trans n_ear
  replace n_hds : h_836.2.1 m_hds = F_hds := (funext fun j => (hs.a g_m_hds rfl j).1).trans n_hds
  replace n_ord : h_836.2.1 m_ord = F_ord := (funext fun j => (hs.a g_m_ord rfl j).1).trans n_ord
  replace n_wkl : h_836.2.1 m_wkl = F_wkl := (funext fun j => (hs.a g_m_wkl rfl j).1).trans n_wkl
  replace n_owd : h_836.2.1 m_owd = F_owd := (funext fun j => (hs.a g_m_owd rfl j).1).trans n_owd
  replace n_gds : h_836.2.1 m_gds = F_gds := (funext fun j => (hs.a g_m_gds rfl j).1).trans n_gds
  replace n_szd : h_836.2.1 m_szd = F_szd := (funext fun j => (hs.a g_m_szd rfl j).1).trans n_szd
  replace n_srv : h_836.2.1 m_srv = F_srv := (funext fun j => (hs.a g_m_srv rfl j).1).trans n_srv
  replace n_p0 : h_836.2.1 m_p0 = F_p0 := (funext fun j => (hs.a g_m_p0 rfl j).1).trans n_p0
  replace n_y_p0 : h_836.2.1 y_p0 = F_p0 := (funext fun j => (hs.a g_y_p0 rfl j).1).trans n_y_p0
  replace n_p1 : h_836.2.1 m_p1 = F_p1 := (funext fun j => (hs.a g_m_p1 rfl j).1).trans n_p1
  replace n_y_p1 : h_836.2.1 y_p1 = F_p1 := (funext fun j => (hs.a g_y_p1 rfl j).1).trans n_y_p1
  replace n_p2 : h_836.2.1 m_p2 = F_p2 := (funext fun j => (hs.a g_m_p2 rfl j).1).trans n_p2
  replace n_y_p2 : h_836.2.1 y_p2 = F_p2 := (funext fun j => (hs.a g_y_p2 rfl j).1).trans n_y_p2
  replace n_p3 : h_836.2.1 m_p3 = F_p3 := (funext fun j => (hs.a g_m_p3 rfl j).1).trans n_p3
  replace n_y_p3 : h_836.2.1 y_p3 = F_p3 := (funext fun j => (hs.a g_y_p3 rfl j).1).trans n_y_p3
  replace n_p4 : h_836.2.1 m_p4 = F_p4 := (funext fun j => (hs.a g_m_p4 rfl j).1).trans n_p4
  replace n_y_p4 : h_836.2.1 y_p4 = F_p4 := (funext fun j => (hs.a g_y_p4 rfl j).1).trans n_y_p4
  replace n_y_ls : h_836.2.1 y_ls = F_y_ls := (funext fun j => (hs.a g_y_ls rfl j).1).trans n_y_ls
  replace n_m_rl : h_836.2.1 m_rl = F_m_rl := (funext fun j => (hs.a g_m_rl rfl j).1).trans n_m_rl
  replace gx := gx.S hs
  replace gm := gm.S hs
  replace g_qa := g_qa.S hs
  replace g_qp := g_qp.S hs
  replace g_qc := g_qc.S hs
  replace g_qh := g_qh.S hs
  replace g_qw := g_qw.S hs
  replace g_ql := g_ql.S hs
  replace g_mw := g_mw.S hs
  replace g_mr := g_mr.S hs
  replace g_mp := g_mp.S hs
  replace g_mn := g_mn.S hs
  replace g_ml := g_ml.S hs
  replace g_mh := g_mh.S hs
  replace g_mt := g_mt.S hs
  replace g_m_fou := g_m_fou.S hs
  replace g_qo_ln := g_qo_ln.S hs
  replace g_qo_py := g_qo_py.S hs
  replace g_b_of := g_b_of.S hs
  replace g_m_of := g_m_of.S hs
  replace g_b_wf := g_b_wf.S hs
  replace g_m_wf := g_m_wf.S hs
  replace g_b_df := g_b_df.S hs
  replace g_m_df := g_m_df.S hs
  replace g_b_kf := g_b_kf.S hs
  replace g_m_kf := g_m_kf.S hs
  replace g_b_sf := g_b_sf.S hs
  replace g_m_sf := g_m_sf.S hs
  replace g_b_bf := g_b_bf.S hs
  replace g_m_lst := g_m_lst.S hs
  replace g_qtp := g_qtp.S hs
  replace g_m_tp := g_m_tp.S hs
  replace g_m_dead := g_m_dead.S hs
  replace g_m_isj := g_m_isj.S hs
  replace g_m_dox := g_m_dox.S hs
  replace g_m_doy := g_m_doy.S hs
  replace g_qlt := g_qlt.S hs
  replace g_qlf := g_qlf.S hs
  replace g_m_wkd := g_m_wkd.S hs
  replace g_m_aga := g_m_aga.S hs
  replace g_qwo := g_qwo.S hs
  replace g_m_ad := g_m_ad.S hs
  replace g_m_by := g_m_by.S hs
  replace g_m_ho := g_m_ho.S hs
  replace g_m_fc := g_m_fc.S hs
  replace g_m_nt := g_m_nt.S hs
  replace g_m_wt := g_m_wt.S hs
  replace g_m_be := g_m_be.S hs
  replace g_m_bor := g_m_bor.S hs
  replace g_m_kin := g_m_kin.S hs
  replace g_m_sum := g_m_sum.S hs
  replace g_m_fro := g_m_fro.S hs
  replace g_m_fil := g_m_fil.S hs
  replace g_m_jud := g_m_jud.S hs
  replace g_m_ear := g_m_ear.S hs
  replace g_m_hds := g_m_hds.S hs
  replace g_m_ord := g_m_ord.S hs
  replace g_m_wkl := g_m_wkl.S hs
  replace g_m_owd := g_m_owd.S hs
  replace g_m_gds := g_m_gds.S hs
  replace g_m_szd := g_m_szd.S hs
  replace g_m_srv := g_m_srv.S hs
  replace g_y_p0 := g_y_p0.S hs
  replace g_m_p0 := g_m_p0.S hs
  replace g_y_p1 := g_y_p1.S hs
  replace g_m_p1 := g_m_p1.S hs
  replace g_y_p2 := g_y_p2.S hs
  replace g_m_p2 := g_m_p2.S hs
  replace g_y_p3 := g_y_p3.S hs
  replace g_m_p3 := g_m_p3.S hs
  replace g_y_p4 := g_y_p4.S hs
  replace g_m_p4 := g_m_p4.S hs
  replace g_qrg9 := g_qrg9.S hs
  replace g_y_ls := g_y_ls.S hs
  replace g_m_rl := g_m_rl.S hs
  have fw_840 : h_836.2.1 qw 0 = w_840 := fw_840
  have bw_840 := hT.gi g_qw tt_8 (k := 0) rfl
  rw [fw_840] at bw_840
  have bw_840 : 0 ≤ w_840.toInt ∧ w_840.toInt ≤ 8 := bw_840
  have fw_841 : h_836.2.1 qw 1 = w_841 := fw_841
  have bw_841 := hT.gi g_qw tt_8 (k := 1) rfl
  rw [fw_841] at bw_841
  have bw_841 : 0 ≤ w_841.toInt ∧ w_841.toInt ≤ 8 := bw_841
  have fw_842 : h_836.2.1 qlt = w_842 := fw_842
  refine lv_pop hx hb dL_law_1258 rfl ?_
  refine lv_aload_n hx hb dL_law_1259 rfl (lv_at hl 1 rfl) ?_
  have hTo := hT
  obtain ⟨q_843, fq_843, gq_843⟩ := hx_rf hT gm tt_10 (k := 94) (u := 114) rfl
  obtain ⟨fa_844, nfa_844⟩ : ∃ g : Nat → Int32, h_836.2.1 q_843 = g := ⟨_, rfl⟩
  refine hx_goi (hx_runV (As := []) (rest := []) ⟨hx, hb, hml, hown, hts⟩ hW gm tt_10 (T := TX10) (N := 98) rfl (t_X10_walk l dC dI dA L_835 h_836 H.size am hT gm m_lst g_m_lst f_m_lst m_aga g_m_aga f_m_aga m_dox g_m_dox f_m_dox m_doy g_m_doy f_m_doy q_843 gq_843 fq_843 m_wkd g_m_wkd f_m_wkd F_lst n_lst F_aga n_aga F_dox n_dox F_doy n_doy fa_844 nfa_844 F_m_wkd n_m_wkd lsd f_m_listed) (cwV 0 hts (hx_gV kw_1721 kw_1718 kw_1719 kw_1720 kw_103) rfl rfl rfl (by decide +kernel) ⟨Nat.le_of_ble_eq_true rfl, Nat.le_of_ble_eq_true rfl⟩) rfl hl.1 rfl (Nat.le_of_ble_eq_true rfl) dL_law_1260 ⟨(show CC + 0 + 0 ≤ 600000 from ?o17), (show SS + 0 + 0 ≤ 7302250 from ?o18)⟩) hW (fun r_847 L_845 h_846 H locs p_848 hW => ?_)
  case o17 => omega
  case o18 => omega
  obtain ⟨⟨w_850, w_851, w_852, fw_850, fw_851, fw_852, hr_849⟩, hT, hs⟩ := p_848
  replace hT : hx_T T_tb L_845 h_846 := hT
  replace hs : hx_S T_tb [(10, 90), (10, 92), (113, 0), (114, 0)] L_835 h_836 L_845 h_846 := hs
  replace f_qa := (hs.o gx trivial rfl).2.trans f_qa
  replace f_qp := (hs.o gx trivial rfl).2.trans f_qp
  replace f_qc := (hs.o gx trivial rfl).2.trans f_qc
  replace f_qh := (hs.o gx trivial rfl).2.trans f_qh
  replace f_qw := (hs.o gx trivial rfl).2.trans f_qw
  replace f_ql := (hs.o g_qw trivial rfl).2.trans f_ql
  replace f_m_now := (hs.o gm trivial rfl).1.trans f_m_now
  replace f_m_persons := (hs.o gm trivial rfl).1.trans f_m_persons
  replace f_m_claims := (hs.o gm trivial rfl).1.trans f_m_claims
  replace f_m_taped := (hs.o gm trivial rfl).1.trans f_m_taped
  replace f_m_acts := (hs.o gm trivial rfl).1.trans f_m_acts
  replace f_m_heardMany := (hs.o gm trivial rfl).1.trans f_m_heardMany
  replace f_m_lines := (hs.o gm trivial rfl).1.trans f_m_lines
  replace f_m_payments := (hs.o gm trivial rfl).1.trans f_m_payments
  replace f_x_now := (hs.o gx trivial rfl).1.trans f_x_now
  replace f_x_personCount := (hs.o gx trivial rfl).1.trans f_x_personCount
  replace f_x_claimCount := (hs.o gx trivial rfl).1.trans f_x_claimCount
  replace f_x_tapeLength := (hs.o gx trivial rfl).1.trans f_x_tapeLength
  replace f_x_actCount := (hs.o gx trivial rfl).1.trans f_x_actCount
  replace f_x_heardCount := (hs.o gx trivial rfl).1.trans f_x_heardCount
  replace f_mw := (hs.o gm trivial rfl).2.trans f_mw
  replace f_mr := (hs.o gm trivial rfl).2.trans f_mr
  replace f_mp := (hs.o gm trivial rfl).2.trans f_mp
  replace f_mn := (hs.o gm trivial rfl).2.trans f_mn
  replace f_ml := (hs.o gm trivial rfl).2.trans f_ml
  replace f_mh := (hs.o gm trivial rfl).2.trans f_mh
  replace f_mt := (hs.o gm trivial rfl).2.trans f_mt
  replace f_m_fou := (hs.o gm trivial rfl).2.trans f_m_fou
  replace f_qo_ln := (hs.o gx trivial rfl).2.trans f_qo_ln
  replace f_o_ln := (hs.o g_qo_ln trivial rfl).1.trans f_o_ln
  replace f_qo_py := (hs.o gx trivial rfl).2.trans f_qo_py
  replace f_o_py := (hs.o g_qo_py trivial rfl).1.trans f_o_py
  replace f_b_of := (hs.o g_qo_ln trivial rfl).2.trans f_b_of
  replace f_m_of := (hs.o gm trivial rfl).2.trans f_m_of
  replace f_b_wf := (hs.o g_qo_ln trivial rfl).2.trans f_b_wf
  replace f_m_wf := (hs.o gm trivial rfl).2.trans f_m_wf
  replace f_b_df := (hs.o g_qo_ln trivial rfl).2.trans f_b_df
  replace f_m_df := (hs.o gm trivial rfl).2.trans f_m_df
  replace f_b_kf := (hs.o g_qo_ln trivial rfl).2.trans f_b_kf
  replace f_m_kf := (hs.o gm trivial rfl).2.trans f_m_kf
  replace f_b_sf := (hs.o g_qo_ln trivial rfl).2.trans f_b_sf
  replace f_m_sf := (hs.o gm trivial rfl).2.trans f_m_sf
  replace f_b_bf := (hs.o g_qo_ln trivial rfl).2.trans f_b_bf
  replace f_m_lst := (hs.o gm trivial rfl).2.trans f_m_lst
  replace f_qtp := (hs.o gx trivial rfl).2.trans f_qtp
  replace f_m_tp := (hs.o gm trivial rfl).2.trans f_m_tp
  replace f_m_dead := (hs.o gm trivial rfl).2.trans f_m_dead
  replace f_m_isj := (hs.o gm trivial rfl).2.trans f_m_isj
  replace f_m_dox := (hs.o gm trivial rfl).2.trans f_m_dox
  replace f_m_doy := (hs.o gm trivial rfl).2.trans f_m_doy
  replace f_qlt := (hs.o g_qw trivial rfl).2.trans f_qlt
  replace f_qlf := (hs.o g_qw trivial rfl).2.trans f_qlf
  replace f_m_wkd := (hs.o gm trivial rfl).2.trans f_m_wkd
  replace f_m_aga := (hs.o gm trivial rfl).2.trans f_m_aga
  replace f_qwo := (hs.o gx trivial rfl).2.trans f_qwo
  replace f_m_ad := (hs.o gm trivial rfl).2.trans f_m_ad
  replace f_m_by := (hs.o gm trivial rfl).2.trans f_m_by
  replace f_m_ho := (hs.o gm trivial rfl).2.trans f_m_ho
  replace f_m_fc := (hs.o gm trivial rfl).2.trans f_m_fc
  replace f_m_nt := (hs.o gm trivial rfl).2.trans f_m_nt
  replace f_m_wt := (hs.o gm trivial rfl).2.trans f_m_wt
  replace f_m_be := (hs.o gm trivial rfl).2.trans f_m_be
  replace f_m_bor := (hs.o gm trivial rfl).2.trans f_m_bor
  replace f_m_kin := (hs.o gm trivial rfl).2.trans f_m_kin
  replace f_m_sum := (hs.o gm trivial rfl).2.trans f_m_sum
  replace f_m_fro := (hs.o gm trivial rfl).2.trans f_m_fro
  replace f_m_fil := (hs.o gm trivial rfl).2.trans f_m_fil
  replace f_m_jud := (hs.o gm trivial rfl).2.trans f_m_jud
  replace f_m_ear := (hs.o gm trivial rfl).2.trans f_m_ear
  replace f_m_hds := (hs.o gm trivial rfl).2.trans f_m_hds
  replace f_m_ord := (hs.o gm trivial rfl).2.trans f_m_ord
  replace f_m_wkl := (hs.o gm trivial rfl).2.trans f_m_wkl
  replace f_m_owd := (hs.o gm trivial rfl).2.trans f_m_owd
  replace f_m_gds := (hs.o gm trivial rfl).2.trans f_m_gds
  replace f_m_szd := (hs.o gm trivial rfl).2.trans f_m_szd
  replace f_m_srv := (hs.o gm trivial rfl).2.trans f_m_srv
  replace f_y_p0 := (hs.o g_qo_py trivial rfl).2.trans f_y_p0
  replace f_m_p0 := (hs.o gm trivial rfl).2.trans f_m_p0
  replace f_y_p1 := (hs.o g_qo_py trivial rfl).2.trans f_y_p1
  replace f_m_p1 := (hs.o gm trivial rfl).2.trans f_m_p1
  replace f_y_p2 := (hs.o g_qo_py trivial rfl).2.trans f_y_p2
  replace f_m_p2 := (hs.o gm trivial rfl).2.trans f_m_p2
  replace f_y_p3 := (hs.o g_qo_py trivial rfl).2.trans f_y_p3
  replace f_m_p3 := (hs.o gm trivial rfl).2.trans f_m_p3
  replace f_y_p4 := (hs.o g_qo_py trivial rfl).2.trans f_y_p4
  replace f_m_p4 := (hs.o gm trivial rfl).2.trans f_m_p4
  replace f_qrg9 := (hs.o gx trivial rfl).2.trans f_qrg9
  replace f_y_ls := (hs.o g_qrg9 trivial rfl).2.trans f_y_ls
  replace f_m_rl := (hs.o gm trivial rfl).2.trans f_m_rl
  replace ffv_832 := (hs.o g_qrg9 trivial rfl).1.trans ffv_832
  replace ffv_833 := (hs.o gm trivial rfl).1.trans ffv_833
  replace ffv_834 := (hs.o gm trivial rfl).1.trans ffv_834
  replace fw_840 := (hs.o g_qw trivial rfl).1.trans fw_840
  replace fw_841 := (hs.o g_qw trivial rfl).1.trans fw_841
  replace fq_843 := (hs.o gm trivial rfl).2.trans fq_843
  replace pf_qa : ∀ j : Nat, (j : Int) < (h_846.2.1 ax 6).toInt → h_846.2.2 qa j ≠ none := by
    intro j hj; rw [(hs.o gx trivial rfl).1] at hj; rw [(hs.a g_qa rfl j).2]; exact pf_qa j hj
  replace pf_qp : ∀ j : Nat, (j : Int) < (h_846.2.1 ax 8).toInt → h_846.2.2 qp j ≠ none := by
    intro j hj; rw [(hs.o gx trivial rfl).1] at hj; rw [(hs.a g_qp rfl j).2]; exact pf_qp j hj
  replace pf_qc : ∀ j : Nat, (j : Int) < (h_846.2.1 ax 11).toInt → h_846.2.2 qc j ≠ none := by
    intro j hj; rw [(hs.o gx trivial rfl).1] at hj; rw [(hs.a g_qc rfl j).2]; exact pf_qc j hj
  replace pf_qh : ∀ j : Nat, (j : Int) < (h_846.2.1 ax 13).toInt → h_846.2.2 qh j ≠ none := by
    intro j hj; rw [(hs.o gx trivial rfl).1] at hj; rw [(hs.a g_qh rfl j).2]; exact pf_qh j hj
  replace cl_lst : hx_col 8 h_846 ql 0 = c_lst := (hx_col_S hs hTo g_ql tt_40 tt_2 rfl rfl).trans cl_lst
  replace cl_dead : hx_col 40 h_846 qp 7 = c_dead := (hx_col_S hs hTo g_qp tt_44 tt_4 rfl rfl).trans cl_dead
  replace cl_isj : hx_col 40 h_846 qp 8 = c_isj := (hx_col_S hs hTo g_qp tt_44 tt_4 rfl rfl).trans cl_isj
  replace cl_dox : hx_col 40 h_846 qp 5 = c_dox := (hx_col_S hs hTo g_qp tt_44 tt_4 rfl rfl).trans cl_dox
  replace cl_doy : hx_col 40 h_846 qp 6 = c_doy := (hx_col_S hs hTo g_qp tt_44 tt_4 rfl rfl).trans cl_doy
  replace cl_fou : hx_col 100 h_846 qc 10 = c_fou := (hx_col_S hs hTo g_qc tt_45 tt_2 rfl rfl).trans cl_fou
  replace cl_tri : hx_col 100 h_846 qc 9 = c_tri := (hx_col_S hs hTo g_qc tt_45 tt_2 rfl rfl).trans cl_tri
  replace cl_bor : hx_col 40 h_846 qp 1 = F_bor := (hx_col_S hs hTo g_qp tt_44 tt_4 rfl rfl).trans cl_bor
  replace cl_kin : hx_col 40 h_846 qp 2 = F_kin := (hx_col_S hs hTo g_qp tt_44 tt_4 rfl rfl).trans cl_kin
  replace cl_sum : hx_col 100 h_846 qc 6 = F_sum := (hx_col_S hs hTo g_qc tt_45 tt_2 rfl rfl).trans cl_sum
  replace cl_fro : hx_col 100 h_846 qc 7 = F_fro := (hx_col_S hs hTo g_qc tt_45 tt_2 rfl rfl).trans cl_fro
  replace cl_fil : hx_col 100 h_846 qc 8 = F_fil := (hx_col_S hs hTo g_qc tt_45 tt_2 rfl rfl).trans cl_fil
  replace cl_hea : hx_col 100 h_846 qc 11 = F_mh := (hx_col_S hs hTo g_qc tt_45 tt_2 rfl rfl).trans cl_hea
  replace cl_jud : hx_col 100 h_846 qc 12 = F_jud := (hx_col_S hs hTo g_qc tt_45 tt_2 rfl rfl).trans cl_jud
  replace cl_ear : hx_col 40 h_846 qp 3 = F_ear := (hx_col_S hs hTo g_qp tt_44 tt_4 rfl rfl).trans cl_ear
  replace cl_hds : hx_col 40 h_846 qp 4 = F_hds := (hx_col_S hs hTo g_qp tt_44 tt_4 rfl rfl).trans cl_hds
  replace cl_ord : hx_col 100 h_846 qc 13 = F_ord := (hx_col_S hs hTo g_qc tt_45 tt_2 rfl rfl).trans cl_ord
  replace cl_wkl : hx_col 100 h_846 qc 14 = F_wkl := (hx_col_S hs hTo g_qc tt_45 tt_2 rfl rfl).trans cl_wkl
  replace cl_owd : hx_col 100 h_846 qc 15 = F_owd := (hx_col_S hs hTo g_qc tt_45 tt_2 rfl rfl).trans cl_owd
  replace cl_gds : hx_col 100 h_846 qc 17 = F_gds := (hx_col_S hs hTo g_qc tt_45 tt_2 rfl rfl).trans cl_gds
  replace cl_szd : hx_col 100 h_846 qc 16 = F_szd := (hx_col_S hs hTo g_qc tt_45 tt_2 rfl rfl).trans cl_szd
  replace cl_srv : hx_col 100 h_846 qc 18 = F_srv := (hx_col_S hs hTo g_qc tt_45 tt_2 rfl rfl).trans cl_srv
  replace nu_qp : hx_num 40 h_846 qp 0 (np.toInt) := hx_num_S hs hTo g_qp tt_44 tt_4 rfl rfl nu_qp
  replace nu_qc : hx_num 100 h_846 qc 0 (c0.toInt) := hx_num_S hs hTo g_qc tt_45 tt_2 rfl rfl nu_qc
  replace sb_list : hx_LQ 8 100 h_846 ql qc := hx_LQ_S hs g_ql g_qc rfl rfl sb_list
  replace hDF : hw_DF h_846 qc qp 2 F_aga c0.toInt := hw_DF_S hs hTo g_qc g_qp tt_45 tt_2 rfl rfl rfl hDF
  replace hRA9 : hv_RA h_846 qa qwo a0.toInt A9 := hv_RA_S hs hTo g_qa g_qwo tt_43 tt_0 rfl rfl rfl rfl rfl rfl ?o19 hRA9
  case o19 => omega
  replace hDP : hw_DF h_846 qc qp 1 F_by c0.toInt := hw_DF_S hs hTo g_qc g_qp tt_45 tt_2 rfl rfl rfl hDP
  replace hAC9 : hv_AC h_846 qc F_ml c0.toInt A9 := hv_AC_S hs hTo g_qc tt_45 tt_2 rfl tt_0 rfl rfl rfl rfl rfl rfl rfl hAC9
  replace hFX : hv_FX 8 4 h_846 qc cF9L c0.toInt := hv_FX_S hs hTo g_qc tt_45 tt_2 rfl rfl rfl rfl hFX
  replace hBX : hv_FX 3 5 h_846 qc F_be c0.toInt := hv_FX_S hs hTo g_qc tt_45 tt_2 rfl rfl rfl rfl hBX
  replace hHL : hv_HL h_846 qh qc F_ho m0.toInt c0.toInt := hv_HL_S hs g_qh g_qc rfl rfl hHL
  replace n_mw : h_846.2.1 mw = F_mw := (funext fun j => (hs.a g_mw rfl j).1).trans n_mw
  replace n_mr : h_846.2.1 mr = F_mr := (funext fun j => (hs.a g_mr rfl j).1).trans n_mr
  replace n_mp : h_846.2.1 mp = F_mp := (funext fun j => (hs.a g_mp rfl j).1).trans n_mp
  replace n_mn : h_846.2.1 mn = F_mn := (funext fun j => (hs.a g_mn rfl j).1).trans n_mn
  replace n_ml : h_846.2.1 ml = F_ml := (funext fun j => (hs.a g_ml rfl j).1).trans n_ml
  replace n_mh : h_846.2.1 mh = F_mh := (funext fun j => (hs.a g_mh rfl j).1).trans n_mh
  replace n_mt : h_846.2.1 mt = F_mt := (funext fun j => (hs.a g_mt rfl j).1).trans n_mt
  replace n_m_fou : h_846.2.1 m_fou = F_m_fou := (funext fun j => (hs.a g_m_fou rfl j).1).trans n_m_fou
  replace n_b_of : h_846.2.1 b_of = B_of := (funext fun j => (hs.a g_b_of rfl j).1).trans n_b_of
  replace n_m_of : h_846.2.1 m_of = F_of := (funext fun j => (hs.a g_m_of rfl j).1).trans n_m_of
  replace n_b_wf : h_846.2.1 b_wf = B_wf := (funext fun j => (hs.a g_b_wf rfl j).1).trans n_b_wf
  replace n_m_wf : h_846.2.1 m_wf = F_wf := (funext fun j => (hs.a g_m_wf rfl j).1).trans n_m_wf
  replace n_b_df : h_846.2.1 b_df = B_df := (funext fun j => (hs.a g_b_df rfl j).1).trans n_b_df
  replace n_m_df : h_846.2.1 m_df = F_df := (funext fun j => (hs.a g_m_df rfl j).1).trans n_m_df
  replace n_b_kf : h_846.2.1 b_kf = B_kf := (funext fun j => (hs.a g_b_kf rfl j).1).trans n_b_kf
  replace n_m_kf : h_846.2.1 m_kf = F_kf := (funext fun j => (hs.a g_m_kf rfl j).1).trans n_m_kf
  replace n_b_sf : h_846.2.1 b_sf = B_sf := (funext fun j => (hs.a g_b_sf rfl j).1).trans n_b_sf
  replace n_m_sf : h_846.2.1 m_sf = F_sf := (funext fun j => (hs.a g_m_sf rfl j).1).trans n_m_sf
  replace n_b_bf : h_846.2.1 b_bf = bfL := (funext fun j => (hs.a g_b_bf rfl j).1).trans n_b_bf
  replace n_lst : h_846.2.1 m_lst = F_lst := (funext fun j => (hs.a g_m_lst rfl j).1).trans n_lst
  replace n_tp : h_846.2.1 m_tp = F_tp := (funext fun j => (hs.a g_m_tp rfl j).1).trans n_tp
  replace n_qtp : h_846.2.1 qtp = F_tp := (funext fun j => (hs.a g_qtp rfl j).1).trans n_qtp
  replace n_dead : h_846.2.1 m_dead = F_dead := (funext fun j => (hs.a g_m_dead rfl j).1).trans n_dead
  replace n_isj : h_846.2.1 m_isj = F_isj := (funext fun j => (hs.a g_m_isj rfl j).1).trans n_isj
  replace n_dox : h_846.2.1 m_dox = F_dox := (funext fun j => (hs.a g_m_dox rfl j).1).trans n_dox
  replace n_doy : h_846.2.1 m_doy = F_doy := (funext fun j => (hs.a g_m_doy rfl j).1).trans n_doy
  replace n_aga : h_846.2.1 m_aga = F_aga := (funext fun j => (hs.a g_m_aga rfl j).1).trans n_aga
  replace n_ad : h_846.2.1 m_ad = F_ad := (funext fun j => (hs.a g_m_ad rfl j).1).trans n_ad
  replace n_by : h_846.2.1 m_by = F_by := (funext fun j => (hs.a g_m_by rfl j).1).trans n_by
  replace n_ho : h_846.2.1 m_ho = F_ho := (funext fun j => (hs.a g_m_ho rfl j).1).trans n_ho
  replace n_fc : h_846.2.1 m_fc = F_fc := (funext fun j => (hs.a g_m_fc rfl j).1).trans n_fc
  replace n_nt : h_846.2.1 m_nt = F_nt := (funext fun j => (hs.a g_m_nt rfl j).1).trans n_nt
  replace n_wt : h_846.2.1 m_wt = F_wt := (funext fun j => (hs.a g_m_wt rfl j).1).trans n_wt
  replace n_be : h_846.2.1 m_be = F_be := (funext fun j => (hs.a g_m_be rfl j).1).trans n_be
  replace n_bor : h_846.2.1 m_bor = F_bor := (funext fun j => (hs.a g_m_bor rfl j).1).trans n_bor
  replace n_kin : h_846.2.1 m_kin = F_kin := (funext fun j => (hs.a g_m_kin rfl j).1).trans n_kin
  replace n_sum : h_846.2.1 m_sum = F_sum := (funext fun j => (hs.a g_m_sum rfl j).1).trans n_sum
  replace n_fro : h_846.2.1 m_fro = F_fro := (funext fun j => (hs.a g_m_fro rfl j).1).trans n_fro
  replace n_fil : h_846.2.1 m_fil = F_fil := (funext fun j => (hs.a g_m_fil rfl j).1).trans n_fil
  replace n_jud : h_846.2.1 m_jud = F_jud := (funext fun j => (hs.a g_m_jud rfl j).1).trans n_jud
  replace n_ear : h_846.2.1 m_ear = F_ear := (funext fun j => (hs.a g_m_ear rfl j).1).trans n_ear
  replace n_hds : h_846.2.1 m_hds = F_hds := (funext fun j => (hs.a g_m_hds rfl j).1).trans n_hds
  replace n_ord : h_846.2.1 m_ord = F_ord := (funext fun j => (hs.a g_m_ord rfl j).1).trans n_ord
  replace n_wkl : h_846.2.1 m_wkl = F_wkl := (funext fun j => (hs.a g_m_wkl rfl j).1).trans n_wkl
  replace n_owd : h_846.2.1 m_owd = F_owd := (funext fun j => (hs.a g_m_owd rfl j).1).trans n_owd
  replace n_gds : h_846.2.1 m_gds = F_gds := (funext fun j => (hs.a g_m_gds rfl j).1).trans n_gds
  replace n_szd : h_846.2.1 m_szd = F_szd := (funext fun j => (hs.a g_m_szd rfl j).1).trans n_szd
  replace n_srv : h_846.2.1 m_srv = F_srv := (funext fun j => (hs.a g_m_srv rfl j).1).trans n_srv
  replace n_p0 : h_846.2.1 m_p0 = F_p0 := (funext fun j => (hs.a g_m_p0 rfl j).1).trans n_p0
  replace n_y_p0 : h_846.2.1 y_p0 = F_p0 := (funext fun j => (hs.a g_y_p0 rfl j).1).trans n_y_p0
  replace n_p1 : h_846.2.1 m_p1 = F_p1 := (funext fun j => (hs.a g_m_p1 rfl j).1).trans n_p1
  replace n_y_p1 : h_846.2.1 y_p1 = F_p1 := (funext fun j => (hs.a g_y_p1 rfl j).1).trans n_y_p1
  replace n_p2 : h_846.2.1 m_p2 = F_p2 := (funext fun j => (hs.a g_m_p2 rfl j).1).trans n_p2
  replace n_y_p2 : h_846.2.1 y_p2 = F_p2 := (funext fun j => (hs.a g_y_p2 rfl j).1).trans n_y_p2
  replace n_p3 : h_846.2.1 m_p3 = F_p3 := (funext fun j => (hs.a g_m_p3 rfl j).1).trans n_p3
  replace n_y_p3 : h_846.2.1 y_p3 = F_p3 := (funext fun j => (hs.a g_y_p3 rfl j).1).trans n_y_p3
  replace n_p4 : h_846.2.1 m_p4 = F_p4 := (funext fun j => (hs.a g_m_p4 rfl j).1).trans n_p4
  replace n_y_p4 : h_846.2.1 y_p4 = F_p4 := (funext fun j => (hs.a g_y_p4 rfl j).1).trans n_y_p4
  replace n_y_ls : h_846.2.1 y_ls = F_y_ls := (funext fun j => (hs.a g_y_ls rfl j).1).trans n_y_ls
  replace n_m_rl : h_846.2.1 m_rl = F_m_rl := (funext fun j => (hs.a g_m_rl rfl j).1).trans n_m_rl
  replace fw_842 : h_846.2.1 qlt = w_842 := (funext fun j => (hs.a g_qlt rfl j).1).trans fw_842
  replace gx := gx.S hs
  replace gm := gm.S hs
  replace g_qa := g_qa.S hs
  replace g_qp := g_qp.S hs
  replace g_qc := g_qc.S hs
  replace g_qh := g_qh.S hs
  replace g_qw := g_qw.S hs
  replace g_ql := g_ql.S hs
  replace g_mw := g_mw.S hs
  replace g_mr := g_mr.S hs
  replace g_mp := g_mp.S hs
  replace g_mn := g_mn.S hs
  replace g_ml := g_ml.S hs
  replace g_mh := g_mh.S hs
  replace g_mt := g_mt.S hs
  replace g_m_fou := g_m_fou.S hs
  replace g_qo_ln := g_qo_ln.S hs
  replace g_qo_py := g_qo_py.S hs
  replace g_b_of := g_b_of.S hs
  replace g_m_of := g_m_of.S hs
  replace g_b_wf := g_b_wf.S hs
  replace g_m_wf := g_m_wf.S hs
  replace g_b_df := g_b_df.S hs
  replace g_m_df := g_m_df.S hs
  replace g_b_kf := g_b_kf.S hs
  replace g_m_kf := g_m_kf.S hs
  replace g_b_sf := g_b_sf.S hs
  replace g_m_sf := g_m_sf.S hs
  replace g_b_bf := g_b_bf.S hs
  replace g_m_lst := g_m_lst.S hs
  replace g_qtp := g_qtp.S hs
  replace g_m_tp := g_m_tp.S hs
  replace g_m_dead := g_m_dead.S hs
  replace g_m_isj := g_m_isj.S hs
  replace g_m_dox := g_m_dox.S hs
  replace g_m_doy := g_m_doy.S hs
  replace g_qlt := g_qlt.S hs
  replace g_qlf := g_qlf.S hs
  replace g_m_wkd := g_m_wkd.S hs
  replace g_m_aga := g_m_aga.S hs
  replace g_qwo := g_qwo.S hs
  replace g_m_ad := g_m_ad.S hs
  replace g_m_by := g_m_by.S hs
  replace g_m_ho := g_m_ho.S hs
  replace g_m_fc := g_m_fc.S hs
  replace g_m_nt := g_m_nt.S hs
  replace g_m_wt := g_m_wt.S hs
  replace g_m_be := g_m_be.S hs
  replace g_m_bor := g_m_bor.S hs
  replace g_m_kin := g_m_kin.S hs
  replace g_m_sum := g_m_sum.S hs
  replace g_m_fro := g_m_fro.S hs
  replace g_m_fil := g_m_fil.S hs
  replace g_m_jud := g_m_jud.S hs
  replace g_m_ear := g_m_ear.S hs
  replace g_m_hds := g_m_hds.S hs
  replace g_m_ord := g_m_ord.S hs
  replace g_m_wkl := g_m_wkl.S hs
  replace g_m_owd := g_m_owd.S hs
  replace g_m_gds := g_m_gds.S hs
  replace g_m_szd := g_m_szd.S hs
  replace g_m_srv := g_m_srv.S hs
  replace g_y_p0 := g_y_p0.S hs
  replace g_m_p0 := g_m_p0.S hs
  replace g_y_p1 := g_y_p1.S hs
  replace g_m_p1 := g_m_p1.S hs
  replace g_y_p2 := g_y_p2.S hs
  replace g_m_p2 := g_m_p2.S hs
  replace g_y_p3 := g_y_p3.S hs
  replace g_m_p3 := g_m_p3.S hs
  replace g_y_p4 := g_y_p4.S hs
  replace g_m_p4 := g_m_p4.S hs
  replace g_qrg9 := g_qrg9.S hs
  replace g_y_ls := g_y_ls.S hs
  replace g_m_rl := g_m_rl.S hs
  replace gq_843 := gq_843.S hs
  have fw_850 : h_846.2.1 am 90 = w_850 := fw_850
  have bw_850 := hT.gi gm tt_10 (k := 90) rfl
  rw [fw_850] at bw_850
  have bw_850 : 0 ≤ w_850.toInt ∧ w_850.toInt ≤ 8 := bw_850
  have fw_851 : h_846.2.1 am 92 = w_851 := fw_851
  have bw_851 := hT.gi gm tt_10 (k := 92) rfl
  rw [fw_851] at bw_851
  have bw_851 : 0 ≤ w_851.toInt ∧ w_851.toInt ≤ 8 := bw_851
  have fw_852 : h_846.2.1 m_wkd = w_852 := fw_852
  refine lv_pop hx hb dL_law_1263 rfl ?_
  refine lv_goto (tgt := 1379) hx hb dL_law_1264 ?o20 ?_
  case o20 => decide
  have pfw : ∀ j : Nat, (j : Int) < (h_846.2.1 qw 0).toInt → h_846.2.2 ql j ≠ none := hx_pf1 fw_840 hr_839.1
  have hq_lsd : w_840 = w_850 := Int32.toInt_inj.mp (hr_839.1.trans hr_849.1.symm)
  have hq_wkm : w_841 = w_851 := Int32.toInt_inj.mp (hr_839.2.1.trans hr_849.2.1.symm)
  obtain ⟨heq, hq_wk⟩ := hx_WA_u (by omega) (by omega) (fun _ _ _ _ _ _ => rfl) eq_lst hr_839.2.2 hr_849.2.2
  have hq_wkd : hx_eqN w_841.toInt.toNat w_842 w_852 := fun j hj => hq_wk j (by have := hr_839.2.1; omega)
  refine W.widen (k := CC + 3) (n := SS + 179) ?o21 ?o22 ?_
  case o21 => omega
  case o22 => omega
  refine kk L_845 h_846 H locs ls hW ⟨hT, gx, gm, ⟨f_x_now.trans f_m_now.symm, f_x_personCount.trans f_m_persons.symm, f_x_claimCount.trans f_m_claims.symm, f_x_tapeLength.trans f_m_taped.symm, f_x_actCount.trans f_m_acts.symm, f_x_heardCount.trans f_m_heardMany.symm, hx_ob f_qo_ln (f_o_ln.trans f_m_lines.symm), hx_ob f_qw ((fw_840.trans hq_lsd).trans fw_850.symm), hx_ob f_qw ((fw_841.trans hq_wkm).trans fw_851.symm), hx_ob f_qo_py (f_o_py.trans f_m_payments.symm), hx_ob f_qp ?o23, hx_ob f_qc ?o24, (fun b a r hb ha hr => ?o25), (fun b a r hb ha hr => ?o26), (fun b a r hb ha hr => ?o27), (fun b a r hb ha hr => ?o28), (fun b a r hb ha hr => ?o29), (fun b a r hb ha hr => ?o30), (fun w q c hw hq hc => ?o31), (fun w q r hw hq hr => ?o32), (fun w q r hw hq hr => ?o33), (fun c q a hc hq ha => ?o34), (fun q r hq hr => ?o35), (fun q w a b c d e p hq hw ha hb hc hd he hp => ?o36), (fun c q a hc hq ha => ?o37), (fun q c a hq hc ha => ?o38), (fun a b ha hb => ?o39), (fun c a b d e f hc ha hb hd he hf => ?o40), (fun c a hc ha => ?o41), hx_ob2 f_qp f_m_bor (cl_bor.trans n_bor.symm), hx_ob2 f_qp f_m_kin (cl_kin.trans n_kin.symm), hx_ob2 f_qc f_m_sum (cl_sum.trans n_sum.symm), hx_ob2 f_qc f_m_fro (cl_fro.trans n_fro.symm), hx_ob2 f_qc f_m_fil (cl_fil.trans n_fil.symm), hx_ob2 f_qc f_mh (cl_hea.trans n_mh.symm), hx_ob2 f_qc f_m_jud (cl_jud.trans n_jud.symm), hx_ob2 f_qp f_m_ear (cl_ear.trans n_ear.symm), hx_ob2 f_qp f_m_hds (cl_hds.trans n_hds.symm), hx_ob2 f_qc f_m_ord (cl_ord.trans n_ord.symm), hx_ob2 f_qc f_m_wkl (cl_wkl.trans n_wkl.symm), hx_ob2 f_qc f_m_owd (cl_owd.trans n_owd.symm), hx_ob2 f_qc f_m_gds (cl_gds.trans n_gds.symm), hx_ob2 f_qc f_m_szd (cl_szd.trans n_szd.symm), hx_ob2 f_qc f_m_srv (cl_srv.trans n_srv.symm), (fun p q r hp hq hr => ?o42), (fun p q r hp hq hr => ?o43), (fun p q r hp hq hr => ?o44), (fun p q r hp hq hr => ?o45), (fun p q r hp hq hr => ?o46), (fun p hp => ?o47), (fun p q r hp hq hr => ?o48), hx_ob2 f_qp f_m_dead ?o49, hx_ob2 f_qp f_m_isj ?o50, hx_ob2 f_qp f_m_dox ?o51, hx_ob2 f_qp f_m_doy ?o52, hx_ob2 f_qc f_m_fou ?o53, hx_ob2 f_qc f_mt ?o54, trivial⟩, ⟨hx_ob f_qa pf_qa, hx_ob f_qp pf_qp, hx_ob f_qc pf_qc, hx_ob f_qh pf_qh, (fun w q hw hq => ?o55)⟩, ⟨hx_ob f_mw ?o56, hx_ob f_mr ?o57, hx_ob2 f_mp f_mn ?o58, hx_ob f_ml ?o59, hx_ob f_mh ?o60, hx_ob f_mt ?o61, hx_ob2 f_mh f_m_fou ?o63⟩⟩ hl
  case o23 =>
    rw [f_x_personCount]
    exact nu_qp
  case o24 =>
    rw [f_x_claimCount]
    exact nu_qc
  case o25 =>
    obtain rfl : qo_ln = b := Option.some.inj (f_qo_ln.symm.trans hb)
    obtain rfl : b_of = a := Option.some.inj (f_b_of.symm.trans ha)
    obtain rfl : m_of = r := Option.some.inj (f_m_of.symm.trans hr)
    rw [n_b_of, n_m_of, f_o_ln]
    exact eb_of
  case o26 =>
    obtain rfl : qo_ln = b := Option.some.inj (f_qo_ln.symm.trans hb)
    obtain rfl : b_wf = a := Option.some.inj (f_b_wf.symm.trans ha)
    obtain rfl : m_wf = r := Option.some.inj (f_m_wf.symm.trans hr)
    rw [n_b_wf, n_m_wf, f_o_ln]
    exact eb_wf
  case o27 =>
    obtain rfl : qo_ln = b := Option.some.inj (f_qo_ln.symm.trans hb)
    obtain rfl : b_df = a := Option.some.inj (f_b_df.symm.trans ha)
    obtain rfl : m_df = r := Option.some.inj (f_m_df.symm.trans hr)
    rw [n_b_df, n_m_df, f_o_ln]
    exact eb_df
  case o28 =>
    obtain rfl : qo_ln = b := Option.some.inj (f_qo_ln.symm.trans hb)
    obtain rfl : b_kf = a := Option.some.inj (f_b_kf.symm.trans ha)
    obtain rfl : m_kf = r := Option.some.inj (f_m_kf.symm.trans hr)
    rw [n_b_kf, n_m_kf, f_o_ln]
    exact eb_kf
  case o29 =>
    obtain rfl : qo_ln = b := Option.some.inj (f_qo_ln.symm.trans hb)
    obtain rfl : b_sf = a := Option.some.inj (f_b_sf.symm.trans ha)
    obtain rfl : m_sf = r := Option.some.inj (f_m_sf.symm.trans hr)
    rw [n_b_sf, n_m_sf, f_o_ln]
    exact eb_sf
  case o30 =>
    obtain rfl : qo_ln = b := Option.some.inj (f_qo_ln.symm.trans hb)
    obtain rfl : b_df = a := Option.some.inj (f_b_df.symm.trans ha)
    obtain rfl : b_bf = r := Option.some.inj (f_b_bf.symm.trans hr)
    rw [n_b_df, n_b_bf, f_o_ln]
    exact ⟨hBD, hDY⟩
  case o31 =>
    obtain rfl : qw = w := Option.some.inj (f_qw.symm.trans hw)
    obtain rfl : ql = q := Option.some.inj (f_ql.symm.trans hq)
    obtain rfl : qc = c := Option.some.inj (f_qc.symm.trans hc)
    exact sb_list
  case o32 =>
    obtain rfl : qw = w := Option.some.inj (f_qw.symm.trans hw)
    obtain rfl : ql = q := Option.some.inj (f_ql.symm.trans hq)
    obtain rfl : m_lst = r := Option.some.inj (f_m_lst.symm.trans hr)
    rw [cl_lst, n_lst]
    exact eq_lst
  case o33 =>
    obtain rfl : qw = w := Option.some.inj (f_qw.symm.trans hw)
    obtain rfl : qlt = q := Option.some.inj (f_qlt.symm.trans hq)
    obtain rfl : m_wkd = r := Option.some.inj (f_m_wkd.symm.trans hr)
    rw [fw_842, fw_852, fw_841]
    exact hq_wkd
  case o34 =>
    obtain rfl : qc = c := Option.some.inj (f_qc.symm.trans hc)
    obtain rfl : qp = q := Option.some.inj (f_qp.symm.trans hq)
    obtain rfl : m_aga = a := Option.some.inj (f_m_aga.symm.trans ha)
    rw [n_aga, f_x_claimCount]
    exact hw_DF_e hDF rfl rfl
  case o35 =>
    obtain rfl : qtp = q := Option.some.inj (f_qtp.symm.trans hq)
    obtain rfl : m_tp = r := Option.some.inj (f_m_tp.symm.trans hr)
    exact n_qtp.trans n_tp.symm
  case o36 =>
    obtain rfl : qa = q := Option.some.inj (f_qa.symm.trans hq)
    obtain rfl : qwo = w := Option.some.inj (f_qwo.symm.trans hw)
    obtain rfl : m_ad = a := Option.some.inj (f_m_ad.symm.trans ha)
    obtain rfl : mr = b := Option.some.inj (f_mr.symm.trans hb)
    obtain rfl : mn = c := Option.some.inj (f_mn.symm.trans hc)
    obtain rfl : mp = d := Option.some.inj (f_mp.symm.trans hd)
    obtain rfl : qc = e := Option.some.inj (f_qc.symm.trans he)
    obtain rfl : ml = p := Option.some.inj (f_ml.symm.trans hp)
    exact ⟨_, by rw [f_x_actCount]; exact hRA9, by rw [f_x_actCount, n_ad, n_mr, n_mn, n_mp]; exact hCA9, by rw [n_ml, f_x_claimCount]; exact hv_AC_e hAC9 rfl rfl rfl, hAB⟩
  case o37 =>
    obtain rfl : qc = c := Option.some.inj (f_qc.symm.trans hc)
    obtain rfl : qp = q := Option.some.inj (f_qp.symm.trans hq)
    obtain rfl : m_by = a := Option.some.inj (f_m_by.symm.trans ha)
    rw [n_by, f_x_claimCount]
    exact hw_DF_e hDP rfl rfl
  case o38 =>
    obtain rfl : qh = q := Option.some.inj (f_qh.symm.trans hq)
    obtain rfl : qc = c := Option.some.inj (f_qc.symm.trans hc)
    obtain rfl : m_ho = a := Option.some.inj (f_m_ho.symm.trans ha)
    rw [n_ho, f_x_heardCount, f_x_claimCount]
    exact hv_HL_e hHL rfl rfl rfl
  case o39 =>
    obtain rfl : m_ho = a := Option.some.inj (f_m_ho.symm.trans ha)
    obtain rfl : mh = b := Option.some.inj (f_mh.symm.trans hb)
    rw [n_ho, n_mh, f_m_heardMany, f_m_claims]
    exact hHO9
  case o40 =>
    obtain rfl : qc = c := Option.some.inj (f_qc.symm.trans hc)
    obtain rfl : m_fc = a := Option.some.inj (f_m_fc.symm.trans ha)
    obtain rfl : m_nt = b := Option.some.inj (f_m_nt.symm.trans hb)
    obtain rfl : m_wt = d := Option.some.inj (f_m_wt.symm.trans hd)
    obtain rfl : m_sum = e := Option.some.inj (f_m_sum.symm.trans he)
    obtain rfl : mh = f := Option.some.inj (f_mh.symm.trans hf)
    exact ⟨cF9L, by rw [f_x_claimCount]; exact hFX, by rw [n_fc, n_nt, n_wt, n_sum, n_mh, f_x_claimCount]; exact hFR9⟩
  case o41 =>
    obtain rfl : qc = c := Option.some.inj (f_qc.symm.trans hc)
    obtain rfl : m_be = a := Option.some.inj (f_m_be.symm.trans ha)
    rw [n_be, f_x_claimCount]
    exact hv_FX_e hBX rfl rfl
  case o42 =>
    obtain rfl : qo_py = p := Option.some.inj (f_qo_py.symm.trans hp)
    obtain rfl : y_p0 = q := Option.some.inj (f_y_p0.symm.trans hq)
    obtain rfl : m_p0 = r := Option.some.inj (f_m_p0.symm.trans hr)
    exact n_y_p0.trans n_p0.symm
  case o43 =>
    obtain rfl : qo_py = p := Option.some.inj (f_qo_py.symm.trans hp)
    obtain rfl : y_p1 = q := Option.some.inj (f_y_p1.symm.trans hq)
    obtain rfl : m_p1 = r := Option.some.inj (f_m_p1.symm.trans hr)
    exact n_y_p1.trans n_p1.symm
  case o44 =>
    obtain rfl : qo_py = p := Option.some.inj (f_qo_py.symm.trans hp)
    obtain rfl : y_p2 = q := Option.some.inj (f_y_p2.symm.trans hq)
    obtain rfl : m_p2 = r := Option.some.inj (f_m_p2.symm.trans hr)
    exact n_y_p2.trans n_p2.symm
  case o45 =>
    obtain rfl : qo_py = p := Option.some.inj (f_qo_py.symm.trans hp)
    obtain rfl : y_p3 = q := Option.some.inj (f_y_p3.symm.trans hq)
    obtain rfl : m_p3 = r := Option.some.inj (f_m_p3.symm.trans hr)
    exact n_y_p3.trans n_p3.symm
  case o46 =>
    obtain rfl : qo_py = p := Option.some.inj (f_qo_py.symm.trans hp)
    obtain rfl : y_p4 = q := Option.some.inj (f_y_p4.symm.trans hq)
    obtain rfl : m_p4 = r := Option.some.inj (f_m_p4.symm.trans hr)
    exact n_y_p4.trans n_p4.symm
  case o47 =>
    obtain rfl : qrg9 = p := Option.some.inj (f_qrg9.symm.trans hp)
    rw [ffv_832, ffv_833, ffv_834]
    exact hNQ9
  case o48 =>
    obtain rfl : qrg9 = p := Option.some.inj (f_qrg9.symm.trans hp)
    obtain rfl : y_ls = q := Option.some.inj (f_y_ls.symm.trans hq)
    obtain rfl : m_rl = r := Option.some.inj (f_m_rl.symm.trans hr)
    rw [n_y_ls, n_m_rl, ffv_832]
    exact hRL9
  case o49 =>
    rw [cl_dead, n_dead]
    exact eq_dead
  case o50 =>
    rw [cl_isj, n_isj]
    exact eq_isj
  case o51 =>
    rw [cl_dox, n_dox]
    exact eq_dox
  case o52 =>
    rw [cl_doy, n_doy]
    exact eq_doy
  case o53 =>
    rw [cl_fou, n_m_fou]
    exact eq_fou
  case o54 =>
    rw [cl_tri, n_mt]
    exact eq_tri
  case o55 =>
    obtain rfl : qw = w := Option.some.inj (f_qw.symm.trans hw)
    obtain rfl : ql = q := Option.some.inj (f_ql.symm.trans hq)
    exact pfw
  case o56 =>
    rw [n_mw]
    exact hwd
  case o57 =>
    rw [n_mr, f_m_acts]
    exact hWK
  case o58 =>
    rw [n_mp, n_mn, f_m_acts]
    exact hRP
  case o59 =>
    rw [n_ml, f_m_claims, f_m_acts]
    exact hPL
  case o60 =>
    rw [n_mh, f_m_heardMany, f_m_claims]
    exact hHC
  case o61 =>
    rw [n_mt]
    refine (hx_TR_le hTR ?o62)
    case o62 => omega
  case o63 =>
    rw [n_mh, n_m_fou, f_m_claims]
    exact hHF

set_option maxHeartbeats 4000000 in
set_option maxRecDepth 100000 in
theorem law_case_27 {p : Program} {e : Env} {s : State} {m : MethodId} {below : List Frame} {meth : Method} {c : Code} (l : Launch) {b LN : Nat} {xs : Nat → Int32} (hx : p.tables.exec = Jvm.exec) (hb : c.code = code) (hr : meth.sig.returnType = ret) (hlocks : meth.locks = false) (hml : c.maxLocals = 4) (hown : s.vm.findClass "SmallCourtLaw" = some m.cls) (hts : ∀ w ∈ hx_all, w.before #[Value.ref b] s = true) (hX : va_X b LN xs s s.heap) (hbl : b < s.heap.size) (hbA : ¬ s.heap.size ≤ b) (hLN : LN ≤ 3584) (dC : Nat → ClassId) (dI : Nat → Nat → Nat) (dA : Nat → ClassId) (b0 : hx_z) (ax am : Nat) (T1 : Int) (hT0 : 0 ≤ T1) (hT1 : T1 ≤ 511) (i : Int32) (hi0 : 0 ≤ i.toInt) (hiL : i.toInt + 7 ≤ LN) (CC SS : Nat) (hCC : CC + 3 ≤ 600000) (hSS : SS + 179 ≤ 7302250) (L1 : List Nat) (hl1 : hx_h) (H : Heap) (locs : List Loc) (ls : Array Slot) (hW : hx_W T_tb (P_ty dA) (dC, dI) vwCl (fun q : Nat => s.heap.size ≤ q) s.heap L1 hl1 s H locs) (hZ : hx_Xt (fun q : Nat => s.heap.size ≤ q) b0 s) (hI : hx_IV T1 ax am L1 hl1) (hl : lv_has ls 4 [(3, .int i), (2, .ref am), (1, .ref ax), (0, .ref b)]) (kk : ∀ (L2 : List Nat) (h2 : hx_h) (H2 : Heap) (locs2 : List Loc) (ls2 : Array Slot), hx_W T_tb (P_ty dA) (dC, dI) vwCl (fun q : Nat => s.heap.size ≤ q) s.heap L2 h2 s H2 locs2 → hx_IV (T1 + 1) ax am L2 h2 → lv_has ls2 4 [(3, .int i), (2, .ref am), (1, .ref ax), (0, .ref b)] → W p l e room_1 s m #[Value.ref b] below meth c H2 locs2 (CC + 3) (SS + 179) (lw_Z below #[Value.ref b] s) (F0 m 1379 ls2 [])) : W p l e room_1 s m #[Value.ref b] below meth c H locs CC SS (lw_Z below #[Value.ref b] s) (F0 m 1267 ls []) := by
  have hI9 := hI
  have hT := hI9.1
  replace hI9 := hI9.2
  have gx := hI9.1
  replace hI9 := hI9.2
  have gm := hI9.1
  replace hI9 := hI9.2
  have zq0_3 := hI9.1
  have he_nw := zq0_3.1
  replace zq0_3 := zq0_3.2
  have he_np := zq0_3.1
  replace zq0_3 := zq0_3.2
  have he_c0 := zq0_3.1
  replace zq0_3 := zq0_3.2
  have he_tl := zq0_3.1
  replace zq0_3 := zq0_3.2
  have he_a0 := zq0_3.1
  replace zq0_3 := zq0_3.2
  have he_m0 := zq0_3.1
  replace zq0_3 := zq0_3.2
  have ho_ln := zq0_3.1
  replace zq0_3 := zq0_3.2
  have ho_lsd := zq0_3.1
  replace zq0_3 := zq0_3.2
  have ho_wkm := zq0_3.1
  replace zq0_3 := zq0_3.2
  have ho_py := zq0_3.1
  replace zq0_3 := zq0_3.2
  have hn_qp := zq0_3.1
  replace zq0_3 := zq0_3.2
  have hn_qc := zq0_3.1
  replace zq0_3 := zq0_3.2
  have hk_of := zq0_3.1
  replace zq0_3 := zq0_3.2
  have hk_wf := zq0_3.1
  replace zq0_3 := zq0_3.2
  have hk_df := zq0_3.1
  replace zq0_3 := zq0_3.2
  have hk_kf := zq0_3.1
  replace zq0_3 := zq0_3.2
  have hk_sf := zq0_3.1
  replace zq0_3 := zq0_3.2
  have hkBD := zq0_3.1
  replace zq0_3 := zq0_3.2
  have hLQ := zq0_3.1
  replace zq0_3 := zq0_3.2
  have hLE := zq0_3.1
  replace zq0_3 := zq0_3.2
  have hkWD := zq0_3.1
  replace zq0_3 := zq0_3.2
  have hkDF := zq0_3.1
  replace zq0_3 := zq0_3.2
  have hkTP := zq0_3.1
  replace zq0_3 := zq0_3.2
  have hkAC := zq0_3.1
  replace zq0_3 := zq0_3.2
  have hkDP := zq0_3.1
  replace zq0_3 := zq0_3.2
  have hkHL := zq0_3.1
  replace zq0_3 := zq0_3.2
  have hkHO := zq0_3.1
  replace zq0_3 := zq0_3.2
  have hkFX := zq0_3.1
  replace zq0_3 := zq0_3.2
  have hkBX := zq0_3.1
  replace zq0_3 := zq0_3.2
  have hf_bor := zq0_3.1
  replace zq0_3 := zq0_3.2
  have hf_kin := zq0_3.1
  replace zq0_3 := zq0_3.2
  have hf_sum := zq0_3.1
  replace zq0_3 := zq0_3.2
  have hf_fro := zq0_3.1
  replace zq0_3 := zq0_3.2
  have hf_fil := zq0_3.1
  replace zq0_3 := zq0_3.2
  have hf_hea := zq0_3.1
  replace zq0_3 := zq0_3.2
  have hf_jud := zq0_3.1
  replace zq0_3 := zq0_3.2
  have hf_ear := zq0_3.1
  replace zq0_3 := zq0_3.2
  have hf_hds := zq0_3.1
  replace zq0_3 := zq0_3.2
  have hf_ord := zq0_3.1
  replace zq0_3 := zq0_3.2
  have hf_wkl := zq0_3.1
  replace zq0_3 := zq0_3.2
  have hf_owd := zq0_3.1
  replace zq0_3 := zq0_3.2
  have hf_gds := zq0_3.1
  replace zq0_3 := zq0_3.2
  have hf_szd := zq0_3.1
  replace zq0_3 := zq0_3.2
  have hf_srv := zq0_3.1
  replace zq0_3 := zq0_3.2
  have hkP0 := zq0_3.1
  replace zq0_3 := zq0_3.2
  have hkP1 := zq0_3.1
  replace zq0_3 := zq0_3.2
  have hkP2 := zq0_3.1
  replace zq0_3 := zq0_3.2
  have hkP3 := zq0_3.1
  replace zq0_3 := zq0_3.2
  have hkP4 := zq0_3.1
  replace zq0_3 := zq0_3.2
  have hkNQ := zq0_3.1
  replace zq0_3 := zq0_3.2
  have hkRL := zq0_3.1
  replace zq0_3 := zq0_3.2
  have hc_dead := zq0_3.1
  replace zq0_3 := zq0_3.2
  have hc_isj := zq0_3.1
  replace zq0_3 := zq0_3.2
  have hc_dox := zq0_3.1
  replace zq0_3 := zq0_3.2
  have hc_doy := zq0_3.1
  replace zq0_3 := zq0_3.2
  have hc_fou := zq0_3.1
  replace zq0_3 := zq0_3.2
  have hc_tri := zq0_3.1
  replace zq0_3 := zq0_3.2
  replace hI9 := hI9.2
  have zq0_4 := hI9.1
  have ia := zq0_4.1
  replace zq0_4 := zq0_4.2
  have ip := zq0_4.1
  replace zq0_4 := zq0_4.2
  have ic := zq0_4.1
  replace zq0_4 := zq0_4.2
  have ih := zq0_4.1
  replace zq0_4 := zq0_4.2
  have il := zq0_4
  replace hI9 := hI9.2
  have zq0_5 := hI9
  have jw := zq0_5.1
  replace zq0_5 := zq0_5.2
  have jr := zq0_5.1
  replace zq0_5 := zq0_5.2
  have jp := zq0_5.1
  replace zq0_5 := zq0_5.2
  have jl := zq0_5.1
  replace zq0_5 := zq0_5.2
  have jh := zq0_5.1
  replace zq0_5 := zq0_5.2
  have jt := zq0_5.1
  replace zq0_5 := zq0_5.2
  have jf := zq0_5
  obtain ⟨qa, f_qa, g_qa⟩ := hx_rf hT gx tt_9 (k := 5) (u := 43) rfl
  have pf_qa := ia qa f_qa
  obtain ⟨qp, f_qp, g_qp⟩ := hx_rf hT gx tt_9 (k := 7) (u := 44) rfl
  have pf_qp := ip qp f_qp
  obtain ⟨qc, f_qc, g_qc⟩ := hx_rf hT gx tt_9 (k := 10) (u := 45) rfl
  have pf_qc := ic qc f_qc
  obtain ⟨qh, f_qh, g_qh⟩ := hx_rf hT gx tt_9 (k := 12) (u := 46) rfl
  have pf_qh := ih qh f_qh
  obtain ⟨qw, f_qw, g_qw⟩ := hx_rf hT gx tt_9 (k := 19) (u := 8) rfl
  obtain ⟨ql, f_ql, g_ql⟩ := hx_rf hT g_qw tt_8 (k := 3) (u := 40) rfl
  have pf_ql := il qw ql f_qw f_ql
  obtain ⟨nw, f_m_now⟩ : ∃ y : Int32, hl1.2.1 am 0 = y := ⟨_, rfl⟩
  have b_nw := hT.gi gm tt_10 (k := 0) rfl
  rw [f_m_now] at b_nw
  have b_nw : 0 ≤ nw.toInt ∧ nw.toInt ≤ 7999 := b_nw
  obtain ⟨np, f_m_persons⟩ : ∃ y : Int32, hl1.2.1 am 20 = y := ⟨_, rfl⟩
  have b_np := hT.gi gm tt_10 (k := 20) rfl
  rw [f_m_persons] at b_np
  have b_np : 0 ≤ np.toInt ∧ np.toInt ≤ 40 := b_np
  obtain ⟨c0, f_m_claims⟩ : ∃ y : Int32, hl1.2.1 am 36 = y := ⟨_, rfl⟩
  have b_c0 := hT.gi gm tt_10 (k := 36) rfl
  rw [f_m_claims] at b_c0
  have b_c0 : 0 ≤ c0.toInt ∧ c0.toInt ≤ 100 := b_c0
  obtain ⟨tl, f_m_taped⟩ : ∃ y : Int32, hl1.2.1 am 7 = y := ⟨_, rfl⟩
  have b_tl := hT.gi gm tt_10 (k := 7) rfl
  rw [f_m_taped] at b_tl
  have b_tl : 0 ≤ tl.toInt ∧ tl.toInt ≤ 400 := b_tl
  obtain ⟨a0, f_m_acts⟩ : ∃ y : Int32, hl1.2.1 am 1 = y := ⟨_, rfl⟩
  have b_a0 := hT.gi gm tt_10 (k := 1) rfl
  rw [f_m_acts] at b_a0
  have b_a0 : 0 ≤ a0.toInt ∧ a0.toInt ≤ 8 := b_a0
  obtain ⟨m0, f_m_heardMany⟩ : ∃ y : Int32, hl1.2.1 am 57 = y := ⟨_, rfl⟩
  have b_m0 := hT.gi gm tt_10 (k := 57) rfl
  rw [f_m_heardMany] at b_m0
  have b_m0 : 0 ≤ m0.toInt ∧ m0.toInt ≤ 100 := b_m0
  obtain ⟨ln, f_m_lines⟩ : ∃ y : Int32, hl1.2.1 am 29 = y := ⟨_, rfl⟩
  have b_ln := hT.gi gm tt_10 (k := 29) rfl
  rw [f_m_lines] at b_ln
  have b_ln : 0 ≤ ln.toInt ∧ ln.toInt ≤ 400 := b_ln
  obtain ⟨lsd, f_m_listed⟩ : ∃ y : Int32, hl1.2.1 am 90 = y := ⟨_, rfl⟩
  have b_lsd := hT.gi gm tt_10 (k := 90) rfl
  rw [f_m_listed] at b_lsd
  have b_lsd : 0 ≤ lsd.toInt ∧ lsd.toInt ≤ 8 := b_lsd
  obtain ⟨wkm, f_m_walkedMany⟩ : ∃ y : Int32, hl1.2.1 am 92 = y := ⟨_, rfl⟩
  have b_wkm := hT.gi gm tt_10 (k := 92) rfl
  rw [f_m_walkedMany] at b_wkm
  have b_wkm : 0 ≤ wkm.toInt ∧ wkm.toInt ≤ 8 := b_wkm
  obtain ⟨py, f_m_payments⟩ : ∃ y : Int32, hl1.2.1 am 59 = y := ⟨_, rfl⟩
  have b_py := hT.gi gm tt_10 (k := 59) rfl
  rw [f_m_payments] at b_py
  have b_py : 0 ≤ py.toInt ∧ py.toInt ≤ 600 := b_py
  have f_x_now : hl1.2.1 ax 2 = nw := he_nw.trans f_m_now
  have f_x_personCount : hl1.2.1 ax 8 = np := he_np.trans f_m_persons
  have f_x_claimCount : hl1.2.1 ax 11 = c0 := he_c0.trans f_m_claims
  have f_x_tapeLength : hl1.2.1 ax 1 = tl := he_tl.trans f_m_taped
  have f_x_actCount : hl1.2.1 ax 6 = a0 := he_a0.trans f_m_acts
  have f_x_heardCount : hl1.2.1 ax 13 = m0 := he_m0.trans f_m_heardMany
  obtain ⟨mw, f_mw, g_mw⟩ := hx_rf hT gm tt_10 (k := 19) (u := 57) rfl
  obtain ⟨F_mw, n_mw⟩ : ∃ g : Nat → Int32, hl1.2.1 mw = g := ⟨_, rfl⟩
  obtain ⟨mr, f_mr, g_mr⟩ := hx_rf hT gm tt_10 (k := 3) (u := 50) rfl
  obtain ⟨F_mr, n_mr⟩ : ∃ g : Nat → Int32, hl1.2.1 mr = g := ⟨_, rfl⟩
  obtain ⟨mp, f_mp, g_mp⟩ := hx_rf hT gm tt_10 (k := 5) (u := 52) rfl
  obtain ⟨F_mp, n_mp⟩ : ∃ g : Nat → Int32, hl1.2.1 mp = g := ⟨_, rfl⟩
  obtain ⟨mn, f_mn, g_mn⟩ := hx_rf hT gm tt_10 (k := 4) (u := 51) rfl
  obtain ⟨F_mn, n_mn⟩ : ∃ g : Nat → Int32, hl1.2.1 mn = g := ⟨_, rfl⟩
  obtain ⟨ml, f_ml, g_ml⟩ := hx_rf hT gm tt_10 (k := 44) (u := 79) rfl
  obtain ⟨F_ml, n_ml⟩ : ∃ g : Nat → Int32, hl1.2.1 ml = g := ⟨_, rfl⟩
  obtain ⟨mh, f_mh, g_mh⟩ := hx_rf hT gm tt_10 (k := 47) (u := 82) rfl
  obtain ⟨F_mh, n_mh⟩ : ∃ g : Nat → Int32, hl1.2.1 mh = g := ⟨_, rfl⟩
  obtain ⟨mt, f_mt, g_mt⟩ := hx_rf hT gm tt_10 (k := 45) (u := 80) rfl
  obtain ⟨F_mt, n_mt⟩ : ∃ g : Nat → Int32, hl1.2.1 mt = g := ⟨_, rfl⟩
  obtain ⟨m_fou, f_m_fou, g_m_fou⟩ := hx_rf hT gm tt_10 (k := 46) (u := 81) rfl
  obtain ⟨F_m_fou, n_m_fou⟩ : ∃ g : Nat → Int32, hl1.2.1 m_fou = g := ⟨_, rfl⟩
  obtain ⟨qo_ln, f_qo_ln, g_qo_ln⟩ := hx_rf hT gx tt_9 (k := 9) (u := 1) rfl
  have f_o_ln : hl1.2.1 qo_ln 0 = ln := (ho_ln qo_ln f_qo_ln).trans f_m_lines
  have f_o_lsd : hl1.2.1 qw 0 = lsd := (ho_lsd qw f_qw).trans f_m_listed
  have f_o_wkm : hl1.2.1 qw 1 = wkm := (ho_wkm qw f_qw).trans f_m_walkedMany
  obtain ⟨qo_py, f_qo_py, g_qo_py⟩ := hx_rf hT gx tt_9 (k := 14) (u := 3) rfl
  have f_o_py : hl1.2.1 qo_py 0 = py := (ho_py qo_py f_qo_py).trans f_m_payments
  have nu_qp := hn_qp qp f_qp; rw [f_x_personCount] at nu_qp
  have nu_qc := hn_qc qc f_qc; rw [f_x_claimCount] at nu_qc
  obtain ⟨b_of, f_b_of, g_b_of⟩ := hx_rf hT g_qo_ln tt_1 (k := 1) (u := 13) rfl
  obtain ⟨B_of, n_b_of⟩ : ∃ g : Nat → Int32, hl1.2.1 b_of = g := ⟨_, rfl⟩
  obtain ⟨m_of, f_m_of, g_m_of⟩ := hx_rf hT gm tt_10 (k := 30) (u := 66) rfl
  obtain ⟨F_of, n_m_of⟩ : ∃ g : Nat → Int32, hl1.2.1 m_of = g := ⟨_, rfl⟩
  have eb_of := hk_of qo_ln b_of m_of f_qo_ln f_b_of f_m_of; rw [n_b_of, n_m_of, f_o_ln] at eb_of
  obtain ⟨b_wf, f_b_wf, g_b_wf⟩ := hx_rf hT g_qo_ln tt_1 (k := 2) (u := 14) rfl
  obtain ⟨B_wf, n_b_wf⟩ : ∃ g : Nat → Int32, hl1.2.1 b_wf = g := ⟨_, rfl⟩
  obtain ⟨m_wf, f_m_wf, g_m_wf⟩ := hx_rf hT gm tt_10 (k := 31) (u := 67) rfl
  obtain ⟨F_wf, n_m_wf⟩ : ∃ g : Nat → Int32, hl1.2.1 m_wf = g := ⟨_, rfl⟩
  have eb_wf := hk_wf qo_ln b_wf m_wf f_qo_ln f_b_wf f_m_wf; rw [n_b_wf, n_m_wf, f_o_ln] at eb_wf
  obtain ⟨b_df, f_b_df, g_b_df⟩ := hx_rf hT g_qo_ln tt_1 (k := 3) (u := 15) rfl
  obtain ⟨B_df, n_b_df⟩ : ∃ g : Nat → Int32, hl1.2.1 b_df = g := ⟨_, rfl⟩
  obtain ⟨m_df, f_m_df, g_m_df⟩ := hx_rf hT gm tt_10 (k := 32) (u := 68) rfl
  obtain ⟨F_df, n_m_df⟩ : ∃ g : Nat → Int32, hl1.2.1 m_df = g := ⟨_, rfl⟩
  have eb_df := hk_df qo_ln b_df m_df f_qo_ln f_b_df f_m_df; rw [n_b_df, n_m_df, f_o_ln] at eb_df
  obtain ⟨b_kf, f_b_kf, g_b_kf⟩ := hx_rf hT g_qo_ln tt_1 (k := 4) (u := 16) rfl
  obtain ⟨B_kf, n_b_kf⟩ : ∃ g : Nat → Int32, hl1.2.1 b_kf = g := ⟨_, rfl⟩
  obtain ⟨m_kf, f_m_kf, g_m_kf⟩ := hx_rf hT gm tt_10 (k := 33) (u := 69) rfl
  obtain ⟨F_kf, n_m_kf⟩ : ∃ g : Nat → Int32, hl1.2.1 m_kf = g := ⟨_, rfl⟩
  have eb_kf := hk_kf qo_ln b_kf m_kf f_qo_ln f_b_kf f_m_kf; rw [n_b_kf, n_m_kf, f_o_ln] at eb_kf
  obtain ⟨b_sf, f_b_sf, g_b_sf⟩ := hx_rf hT g_qo_ln tt_1 (k := 5) (u := 17) rfl
  obtain ⟨B_sf, n_b_sf⟩ : ∃ g : Nat → Int32, hl1.2.1 b_sf = g := ⟨_, rfl⟩
  obtain ⟨m_sf, f_m_sf, g_m_sf⟩ := hx_rf hT gm tt_10 (k := 34) (u := 70) rfl
  obtain ⟨F_sf, n_m_sf⟩ : ∃ g : Nat → Int32, hl1.2.1 m_sf = g := ⟨_, rfl⟩
  have eb_sf := hk_sf qo_ln b_sf m_sf f_qo_ln f_b_sf f_m_sf; rw [n_b_sf, n_m_sf, f_o_ln] at eb_sf
  obtain ⟨b_bf, f_b_bf, g_b_bf⟩ := hx_rf hT g_qo_ln tt_1 (k := 6) (u := 18) rfl
  obtain ⟨bfL, n_b_bf⟩ : ∃ g : Nat → Int32, hl1.2.1 b_bf = g := ⟨_, rfl⟩
  obtain ⟨hBD, hDY⟩ := hkBD qo_ln b_df b_bf f_qo_ln f_b_df f_b_bf; rw [n_b_df, n_b_bf, f_o_ln] at hBD; rw [n_b_df, f_o_ln] at hDY
  have hBDm := hy_BD_c eb_df hBD
  have hDYm : hy_DY F_df ln.toInt.toNat := fun x hx => by rw [← eb_df x hx]; exact hDY x hx
  have sb_list := hLQ qw ql qc f_qw f_ql f_qc
  obtain ⟨m_lst, f_m_lst, g_m_lst⟩ := hx_rf hT gm tt_10 (k := 91) (u := 112) rfl
  obtain ⟨F_lst, n_lst⟩ : ∃ g : Nat → Int32, hl1.2.1 m_lst = g := ⟨_, rfl⟩
  obtain ⟨c_lst, cl_lst⟩ : ∃ g : Nat → Int32, hx_col 8 hl1 ql 0 = g := ⟨_, rfl⟩
  have eq_lst := hLE qw ql m_lst f_qw f_ql f_m_lst; rw [cl_lst, n_lst] at eq_lst
  obtain ⟨qtp, f_qtp, g_qtp⟩ := hx_rf hT gx tt_9 (k := 0) (u := 42) rfl
  obtain ⟨m_tp, f_m_tp, g_m_tp⟩ := hx_rf hT gm tt_10 (k := 6) (u := 53) rfl
  obtain ⟨F_tp, n_tp⟩ : ∃ g : Nat → Int32, hl1.2.1 m_tp = g := ⟨_, rfl⟩
  have n_qtp : hl1.2.1 qtp = F_tp := (hkTP qtp m_tp f_qtp f_m_tp).trans n_tp
  obtain ⟨c_dead, cl_dead⟩ : ∃ g : Nat → Int32, hx_col 40 hl1 qp 7 = g := ⟨_, rfl⟩
  obtain ⟨m_dead, f_m_dead, g_m_dead⟩ := hx_rf hT gm tt_10 (k := 27) (u := 64) rfl
  obtain ⟨F_dead, n_dead⟩ : ∃ g : Nat → Int32, hl1.2.1 m_dead = g := ⟨_, rfl⟩
  have eq_dead := hc_dead qp m_dead f_qp f_m_dead; rw [cl_dead, n_dead] at eq_dead
  have z_dead : np.toInt.toNat < 40 → c_dead np.toInt.toNat = 0 := fun hj => hx_num_z nu_qp cl_dead hj ?o0
  case o0 => omega
  obtain ⟨c_isj, cl_isj⟩ : ∃ g : Nat → Int32, hx_col 40 hl1 qp 8 = g := ⟨_, rfl⟩
  obtain ⟨m_isj, f_m_isj, g_m_isj⟩ := hx_rf hT gm tt_10 (k := 28) (u := 65) rfl
  obtain ⟨F_isj, n_isj⟩ : ∃ g : Nat → Int32, hl1.2.1 m_isj = g := ⟨_, rfl⟩
  have eq_isj := hc_isj qp m_isj f_qp f_m_isj; rw [cl_isj, n_isj] at eq_isj
  have z_isj : np.toInt.toNat < 40 → c_isj np.toInt.toNat = 0 := fun hj => hx_num_z nu_qp cl_isj hj ?o1
  case o1 => omega
  obtain ⟨c_dox, cl_dox⟩ : ∃ g : Nat → Int32, hx_col 40 hl1 qp 5 = g := ⟨_, rfl⟩
  obtain ⟨m_dox, f_m_dox, g_m_dox⟩ := hx_rf hT gm tt_10 (k := 24) (u := 61) rfl
  obtain ⟨F_dox, n_dox⟩ : ∃ g : Nat → Int32, hl1.2.1 m_dox = g := ⟨_, rfl⟩
  have eq_dox := hc_dox qp m_dox f_qp f_m_dox; rw [cl_dox, n_dox] at eq_dox
  have z_dox : np.toInt.toNat < 40 → c_dox np.toInt.toNat = 0 := fun hj => hx_num_z nu_qp cl_dox hj ?o2
  case o2 => omega
  obtain ⟨c_doy, cl_doy⟩ : ∃ g : Nat → Int32, hx_col 40 hl1 qp 6 = g := ⟨_, rfl⟩
  obtain ⟨m_doy, f_m_doy, g_m_doy⟩ := hx_rf hT gm tt_10 (k := 25) (u := 62) rfl
  obtain ⟨F_doy, n_doy⟩ : ∃ g : Nat → Int32, hl1.2.1 m_doy = g := ⟨_, rfl⟩
  have eq_doy := hc_doy qp m_doy f_qp f_m_doy; rw [cl_doy, n_doy] at eq_doy
  have z_doy : np.toInt.toNat < 40 → c_doy np.toInt.toNat = 0 := fun hj => hx_num_z nu_qp cl_doy hj ?o3
  case o3 => omega
  obtain ⟨c_fou, cl_fou⟩ : ∃ g : Nat → Int32, hx_col 100 hl1 qc 10 = g := ⟨_, rfl⟩
  have eq_fou := hc_fou qc m_fou f_qc f_m_fou; rw [cl_fou, n_m_fou] at eq_fou
  have z_fou : c0.toInt.toNat < 100 → c_fou c0.toInt.toNat = 0 := fun hj => hx_num_z nu_qc cl_fou hj ?o4
  case o4 => omega
  obtain ⟨c_tri, cl_tri⟩ : ∃ g : Nat → Int32, hx_col 100 hl1 qc 9 = g := ⟨_, rfl⟩
  have eq_tri := hc_tri qc mt f_qc f_mt; rw [cl_tri, n_mt] at eq_tri
  have z_tri : c0.toInt.toNat < 100 → c_tri c0.toInt.toNat = 0 := fun hj => hx_num_z nu_qc cl_tri hj ?o5
  case o5 => omega
  obtain ⟨qlt, f_qlt, g_qlt⟩ := hx_rf hT g_qw tt_8 (k := 2) (u := 39) rfl
  obtain ⟨qlf, f_qlf, g_qlf⟩ := hx_rf hT g_qw tt_8 (k := 4) (u := 41) rfl
  obtain ⟨m_wkd, f_m_wkd, g_m_wkd⟩ := hx_rf hT gm tt_10 (k := 93) (u := 113) rfl
  obtain ⟨F_qlt, n_qlt⟩ : ∃ g : Nat → Int32, hl1.2.1 qlt = g := ⟨_, rfl⟩
  obtain ⟨F_m_wkd, n_m_wkd⟩ : ∃ g : Nat → Int32, hl1.2.1 m_wkd = g := ⟨_, rfl⟩
  have eb_wkd := hkWD qw qlt m_wkd f_qw f_qlt f_m_wkd; rw [n_qlt, n_m_wkd, f_o_wkm] at eb_wkd
  obtain ⟨m_aga, f_m_aga, g_m_aga⟩ := hx_rf hT gm tt_10 (k := 38) (u := 73) rfl
  obtain ⟨F_aga, n_aga⟩ : ∃ g : Nat → Int32, hl1.2.1 m_aga = g := ⟨_, rfl⟩
  have hDF := hkDF qc qp m_aga f_qc f_qp f_m_aga; rw [n_aga, f_x_claimCount] at hDF
  obtain ⟨qwo, f_qwo, g_qwo⟩ := hx_rf hT gx tt_9 (k := 4) (u := 0) rfl
  obtain ⟨m_ad, f_m_ad, g_m_ad⟩ := hx_rf hT gm tt_10 (k := 2) (u := 49) rfl
  obtain ⟨F_ad, n_ad⟩ : ∃ g : Nat → Int32, hl1.2.1 m_ad = g := ⟨_, rfl⟩
  obtain ⟨A9, hRA9, hCA9, hAC9, hAB⟩ := hkAC qa qwo m_ad mr mn mp qc ml f_qa f_qwo f_m_ad f_mr f_mn f_mp f_qc f_ml
  rw [f_x_actCount] at hRA9; rw [f_x_actCount, n_ad, n_mr, n_mn, n_mp] at hCA9
  obtain ⟨m_by, f_m_by, g_m_by⟩ := hx_rf hT gm tt_10 (k := 37) (u := 72) rfl
  obtain ⟨F_by, n_by⟩ : ∃ g : Nat → Int32, hl1.2.1 m_by = g := ⟨_, rfl⟩
  obtain ⟨m_ho, f_m_ho, g_m_ho⟩ := hx_rf hT gm tt_10 (k := 58) (u := 92) rfl
  obtain ⟨F_ho, n_ho⟩ : ∃ g : Nat → Int32, hl1.2.1 m_ho = g := ⟨_, rfl⟩
  obtain ⟨m_fc, f_m_fc, g_m_fc⟩ := hx_rf hT gm tt_10 (k := 53) (u := 88) rfl
  obtain ⟨F_fc, n_fc⟩ : ∃ g : Nat → Int32, hl1.2.1 m_fc = g := ⟨_, rfl⟩
  obtain ⟨m_nt, f_m_nt, g_m_nt⟩ := hx_rf hT gm tt_10 (k := 41) (u := 76) rfl
  obtain ⟨F_nt, n_nt⟩ : ∃ g : Nat → Int32, hl1.2.1 m_nt = g := ⟨_, rfl⟩
  obtain ⟨m_wt, f_m_wt, g_m_wt⟩ := hx_rf hT gm tt_10 (k := 42) (u := 77) rfl
  obtain ⟨F_wt, n_wt⟩ : ∃ g : Nat → Int32, hl1.2.1 m_wt = g := ⟨_, rfl⟩
  obtain ⟨m_be, f_m_be, g_m_be⟩ := hx_rf hT gm tt_10 (k := 52) (u := 87) rfl
  obtain ⟨F_be, n_be⟩ : ∃ g : Nat → Int32, hl1.2.1 m_be = g := ⟨_, rfl⟩
  obtain ⟨m_bor, f_m_bor, g_m_bor⟩ := hx_rf hT gm tt_10 (k := 21) (u := 58) rfl
  obtain ⟨F_bor, n_bor⟩ : ∃ g : Nat → Int32, hl1.2.1 m_bor = g := ⟨_, rfl⟩
  obtain ⟨m_kin, f_m_kin, g_m_kin⟩ := hx_rf hT gm tt_10 (k := 26) (u := 63) rfl
  obtain ⟨F_kin, n_kin⟩ : ∃ g : Nat → Int32, hl1.2.1 m_kin = g := ⟨_, rfl⟩
  obtain ⟨m_sum, f_m_sum, g_m_sum⟩ := hx_rf hT gm tt_10 (k := 39) (u := 74) rfl
  obtain ⟨F_sum, n_sum⟩ : ∃ g : Nat → Int32, hl1.2.1 m_sum = g := ⟨_, rfl⟩
  obtain ⟨m_fro, f_m_fro, g_m_fro⟩ := hx_rf hT gm tt_10 (k := 40) (u := 75) rfl
  obtain ⟨F_fro, n_fro⟩ : ∃ g : Nat → Int32, hl1.2.1 m_fro = g := ⟨_, rfl⟩
  obtain ⟨m_fil, f_m_fil, g_m_fil⟩ := hx_rf hT gm tt_10 (k := 43) (u := 78) rfl
  obtain ⟨F_fil, n_fil⟩ : ∃ g : Nat → Int32, hl1.2.1 m_fil = g := ⟨_, rfl⟩
  obtain ⟨m_jud, f_m_jud, g_m_jud⟩ := hx_rf hT gm tt_10 (k := 51) (u := 86) rfl
  obtain ⟨F_jud, n_jud⟩ : ∃ g : Nat → Int32, hl1.2.1 m_jud = g := ⟨_, rfl⟩
  obtain ⟨m_ear, f_m_ear, g_m_ear⟩ := hx_rf hT gm tt_10 (k := 22) (u := 59) rfl
  obtain ⟨F_ear, n_ear⟩ : ∃ g : Nat → Int32, hl1.2.1 m_ear = g := ⟨_, rfl⟩
  obtain ⟨m_hds, f_m_hds, g_m_hds⟩ := hx_rf hT gm tt_10 (k := 23) (u := 60) rfl
  obtain ⟨F_hds, n_hds⟩ : ∃ g : Nat → Int32, hl1.2.1 m_hds = g := ⟨_, rfl⟩
  obtain ⟨m_ord, f_m_ord, g_m_ord⟩ := hx_rf hT gm tt_10 (k := 48) (u := 83) rfl
  obtain ⟨F_ord, n_ord⟩ : ∃ g : Nat → Int32, hl1.2.1 m_ord = g := ⟨_, rfl⟩
  obtain ⟨m_wkl, f_m_wkl, g_m_wkl⟩ := hx_rf hT gm tt_10 (k := 54) (u := 89) rfl
  obtain ⟨F_wkl, n_wkl⟩ : ∃ g : Nat → Int32, hl1.2.1 m_wkl = g := ⟨_, rfl⟩
  obtain ⟨m_owd, f_m_owd, g_m_owd⟩ := hx_rf hT gm tt_10 (k := 55) (u := 90) rfl
  obtain ⟨F_owd, n_owd⟩ : ∃ g : Nat → Int32, hl1.2.1 m_owd = g := ⟨_, rfl⟩
  obtain ⟨m_gds, f_m_gds, g_m_gds⟩ := hx_rf hT gm tt_10 (k := 56) (u := 91) rfl
  obtain ⟨F_gds, n_gds⟩ : ∃ g : Nat → Int32, hl1.2.1 m_gds = g := ⟨_, rfl⟩
  obtain ⟨m_szd, f_m_szd, g_m_szd⟩ := hx_rf hT gm tt_10 (k := 49) (u := 84) rfl
  obtain ⟨F_szd, n_szd⟩ : ∃ g : Nat → Int32, hl1.2.1 m_szd = g := ⟨_, rfl⟩
  obtain ⟨m_srv, f_m_srv, g_m_srv⟩ := hx_rf hT gm tt_10 (k := 50) (u := 85) rfl
  obtain ⟨F_srv, n_srv⟩ : ∃ g : Nat → Int32, hl1.2.1 m_srv = g := ⟨_, rfl⟩
  have cl_bor : hx_col 40 hl1 qp 1 = F_bor := (hf_bor qp m_bor f_qp f_m_bor).trans n_bor
  have cl_kin : hx_col 40 hl1 qp 2 = F_kin := (hf_kin qp m_kin f_qp f_m_kin).trans n_kin
  have cl_sum : hx_col 100 hl1 qc 6 = F_sum := (hf_sum qc m_sum f_qc f_m_sum).trans n_sum
  have cl_fro : hx_col 100 hl1 qc 7 = F_fro := (hf_fro qc m_fro f_qc f_m_fro).trans n_fro
  have cl_fil : hx_col 100 hl1 qc 8 = F_fil := (hf_fil qc m_fil f_qc f_m_fil).trans n_fil
  have cl_hea : hx_col 100 hl1 qc 11 = F_mh := (hf_hea qc mh f_qc f_mh).trans n_mh
  have cl_jud : hx_col 100 hl1 qc 12 = F_jud := (hf_jud qc m_jud f_qc f_m_jud).trans n_jud
  have cl_ear : hx_col 40 hl1 qp 3 = F_ear := (hf_ear qp m_ear f_qp f_m_ear).trans n_ear
  have cl_hds : hx_col 40 hl1 qp 4 = F_hds := (hf_hds qp m_hds f_qp f_m_hds).trans n_hds
  have cl_ord : hx_col 100 hl1 qc 13 = F_ord := (hf_ord qc m_ord f_qc f_m_ord).trans n_ord
  have cl_wkl : hx_col 100 hl1 qc 14 = F_wkl := (hf_wkl qc m_wkl f_qc f_m_wkl).trans n_wkl
  have cl_owd : hx_col 100 hl1 qc 15 = F_owd := (hf_owd qc m_owd f_qc f_m_owd).trans n_owd
  have cl_gds : hx_col 100 hl1 qc 17 = F_gds := (hf_gds qc m_gds f_qc f_m_gds).trans n_gds
  have cl_szd : hx_col 100 hl1 qc 16 = F_szd := (hf_szd qc m_szd f_qc f_m_szd).trans n_szd
  have cl_srv : hx_col 100 hl1 qc 18 = F_srv := (hf_srv qc m_srv f_qc f_m_srv).trans n_srv
  have htb9 : ∀ c, c < 100 → 0 ≤ (c_tri c).toInt ∧ (c_tri c).toInt ≤ 512 := fun c hc => by rw [eq_tri c hc]; have w := hT.ei g_mt tt_80 (k := c) hc; rw [n_mt] at w; exact w
  have z_jud : F_jud c0.toInt.toNat = 0 := hx_num_z2 nu_qc cl_jud ?o6
  case o6 => omega
  have hDP := hkDP qc qp m_by f_qc f_qp f_m_by; rw [n_by, f_x_claimCount] at hDP
  have hHL := hkHL qh qc m_ho f_qh f_qc f_m_ho; rw [n_ho, f_x_heardCount, f_x_claimCount] at hHL
  have hHO9 := hkHO m_ho mh f_m_ho f_mh; rw [n_ho, n_mh, f_m_heardMany, f_m_claims] at hHO9
  obtain ⟨cF9L, hFX, hFR9⟩ := hkFX qc m_fc m_nt m_wt m_sum mh f_qc f_m_fc f_m_nt f_m_wt f_m_sum f_mh; rw [f_x_claimCount] at hFX; rw [n_fc, n_nt, n_wt, n_sum, n_mh, f_x_claimCount] at hFR9
  have hBX := hkBX qc m_be f_qc f_m_be; rw [n_be, f_x_claimCount] at hBX
  rw [n_ml, f_x_claimCount] at hAC9
  obtain ⟨y_p0, f_y_p0, g_y_p0⟩ := hx_rf hT g_qo_py tt_3 (k := 2) (u := 23) rfl
  obtain ⟨m_p0, f_m_p0, g_m_p0⟩ := hx_rf hT gm tt_10 (k := 60) (u := 93) rfl
  obtain ⟨F_p0, n_p0⟩ : ∃ g : Nat → Int32, hl1.2.1 m_p0 = g := ⟨_, rfl⟩
  have n_y_p0 : hl1.2.1 y_p0 = F_p0 := (hkP0 qo_py y_p0 m_p0 f_qo_py f_y_p0 f_m_p0).trans n_p0
  obtain ⟨y_p1, f_y_p1, g_y_p1⟩ := hx_rf hT g_qo_py tt_3 (k := 3) (u := 24) rfl
  obtain ⟨m_p1, f_m_p1, g_m_p1⟩ := hx_rf hT gm tt_10 (k := 61) (u := 94) rfl
  obtain ⟨F_p1, n_p1⟩ : ∃ g : Nat → Int32, hl1.2.1 m_p1 = g := ⟨_, rfl⟩
  have n_y_p1 : hl1.2.1 y_p1 = F_p1 := (hkP1 qo_py y_p1 m_p1 f_qo_py f_y_p1 f_m_p1).trans n_p1
  obtain ⟨y_p2, f_y_p2, g_y_p2⟩ := hx_rf hT g_qo_py tt_3 (k := 5) (u := 26) rfl
  obtain ⟨m_p2, f_m_p2, g_m_p2⟩ := hx_rf hT gm tt_10 (k := 62) (u := 95) rfl
  obtain ⟨F_p2, n_p2⟩ : ∃ g : Nat → Int32, hl1.2.1 m_p2 = g := ⟨_, rfl⟩
  have n_y_p2 : hl1.2.1 y_p2 = F_p2 := (hkP2 qo_py y_p2 m_p2 f_qo_py f_y_p2 f_m_p2).trans n_p2
  obtain ⟨y_p3, f_y_p3, g_y_p3⟩ := hx_rf hT g_qo_py tt_3 (k := 4) (u := 25) rfl
  obtain ⟨m_p3, f_m_p3, g_m_p3⟩ := hx_rf hT gm tt_10 (k := 63) (u := 96) rfl
  obtain ⟨F_p3, n_p3⟩ : ∃ g : Nat → Int32, hl1.2.1 m_p3 = g := ⟨_, rfl⟩
  have n_y_p3 : hl1.2.1 y_p3 = F_p3 := (hkP3 qo_py y_p3 m_p3 f_qo_py f_y_p3 f_m_p3).trans n_p3
  obtain ⟨y_p4, f_y_p4, g_y_p4⟩ := hx_rf hT g_qo_py tt_3 (k := 1) (u := 22) rfl
  obtain ⟨m_p4, f_m_p4, g_m_p4⟩ := hx_rf hT gm tt_10 (k := 64) (u := 97) rfl
  obtain ⟨F_p4, n_p4⟩ : ∃ g : Nat → Int32, hl1.2.1 m_p4 = g := ⟨_, rfl⟩
  have n_y_p4 : hl1.2.1 y_p4 = F_p4 := (hkP4 qo_py y_p4 m_p4 f_qo_py f_y_p4 f_m_p4).trans n_p4
  obtain ⟨qrg9, f_qrg9, g_qrg9⟩ := hx_rf hT gx tt_9 (k := 18) (u := 7) rfl
  obtain ⟨y_ls, f_y_ls, g_y_ls⟩ := hx_rf hT g_qrg9 tt_7 (k := 3) (u := 35) rfl
  obtain ⟨m_rl, f_m_rl, g_m_rl⟩ := hx_rf hT gm tt_10 (k := 85) (u := 109) rfl
  obtain ⟨F_y_ls, n_y_ls⟩ : ∃ g : Nat → Int32, hl1.2.1 y_ls = g := ⟨_, rfl⟩
  obtain ⟨F_m_rl, n_m_rl⟩ : ∃ g : Nat → Int32, hl1.2.1 m_rl = g := ⟨_, rfl⟩
  obtain ⟨fv_853, efv_853⟩ : ∃ y : Int32, y = hl1.2.1 qrg9 0 := ⟨_, rfl⟩
  have bfv_853 := hT.gi g_qrg9 tt_7 (k := 0) rfl
  rw [← efv_853] at bfv_853
  have bfv_853 : -1 ≤ fv_853.toInt ∧ fv_853.toInt ≤ 100 := bfv_853
  have ffv_853 := efv_853.symm
  obtain ⟨fv_854, efv_854⟩ : ∃ y : Int32, y = hl1.2.1 am 83 := ⟨_, rfl⟩
  have bfv_854 := hT.gi gm tt_10 (k := 83) rfl
  rw [← efv_854] at bfv_854
  have bfv_854 : 0 ≤ fv_854.toInt ∧ fv_854.toInt ≤ 1 := bfv_854
  have ffv_854 := efv_854.symm
  obtain ⟨fv_855, efv_855⟩ : ∃ y : Int32, y = hl1.2.1 am 84 := ⟨_, rfl⟩
  have bfv_855 := hT.gi gm tt_10 (k := 84) rfl
  rw [← efv_855] at bfv_855
  have bfv_855 : 0 ≤ fv_855.toInt ∧ fv_855.toInt ≤ 300 := bfv_855
  have ffv_855 := efv_855.symm
  have hNQ9 := hkNQ qrg9 f_qrg9; rw [ffv_853, ffv_854, ffv_855] at hNQ9
  have hRL9 := hkRL qrg9 y_ls m_rl f_qrg9 f_y_ls f_m_rl; rw [n_y_ls, n_m_rl, ffv_853] at hRL9
  have hCB : hz_CB F_ord F_wkl F_owd F_szd F_gds F_srv := fun c hc => ⟨by have w := hT.ei g_m_ord tt_83 (k := c) (by omega); rw [n_ord] at w; exact w, by have w := hT.ei g_m_wkl tt_89 (k := c) (by omega); rw [n_wkl] at w; exact w, by have w := hT.ei g_m_owd tt_90 (k := c) (by omega); rw [n_owd] at w; exact w, by have w := hT.ei g_m_szd tt_84 (k := c) (by omega); rw [n_szd] at w; exact w, by have w := hT.ei g_m_gds tt_91 (k := c) (by omega); rw [n_gds] at w; exact w, by have w := hT.ei g_m_srv tt_85 (k := c) (by omega); rw [n_srv] at w; exact w⟩
  have hps : ∀ j, j < 600 → 0 ≤ (F_p2 j).toInt ∧ (F_p2 j).toInt ≤ 610000 := fun j hj => by have w := hT.ei g_m_p2 tt_95 (k := j) (by omega); rw [n_p2] at w; exact w
  have hte9 : ∀ c : Nat, c < 100 → (0 ≤ (c_tri c).toInt ∧ (c_tri c).toInt ≤ 512) ∧ (0 ≤ (F_sum c).toInt ∧ (F_sum c).toInt ≤ 9999) := fun c hc => ⟨htb9 c hc, by have w := hT.ei g_m_sum tt_74 (k := c) (by omega); rw [n_sum] at w; exact w⟩
  have hee9 : ∀ c : Nat, c < 40 → (0 ≤ (F_ear c).toInt ∧ (F_ear c).toInt ≤ 9999) ∧ (0 ≤ (F_hds c).toInt ∧ (F_hds c).toInt ≤ 20) := fun c hc => ⟨by have w := hT.ei g_m_ear tt_59 (k := c) (by omega); rw [n_ear] at w; exact w, by have w := hT.ei g_m_hds tt_60 (k := c) (by omega); rw [n_hds] at w; exact w⟩
  have bAG9 : ∀ k, k < 100 → 0 ≤ (F_aga k).toInt ∧ (F_aga k).toInt ≤ 39 := fun k hk => by have w := hT.ei g_m_aga tt_73 (k := k) (by omega); rw [n_aga] at w; exact w
  have bBY9 : ∀ k, k < 100 → 0 ≤ (F_by k).toInt ∧ (F_by k).toInt ≤ 39 := fun k hk => by have w := hT.ei g_m_by tt_72 (k := k) (by omega); rw [n_by] at w; exact w
  have hag9 : ∀ c, c < c0.toInt.toNat → 0 ≤ (F_aga c).toInt ∧ (F_aga c).toInt < 40 ∧ 0 ≤ (F_by c).toInt ∧ (F_by c).toInt < 40 := fun c hc => by have a9 := bAG9 c (by omega); have b9 := bBY9 c (by omega); omega
  have z_wkl : F_wkl c0.toInt.toNat = 0 := hx_num_z2 nu_qc cl_wkl ?o7
  case o7 => omega
  have z_owd : F_owd c0.toInt.toNat = 0 := hx_num_z2 nu_qc cl_owd ?o8
  case o8 => omega
  have z_gds : F_gds c0.toInt.toNat = 0 := hx_num_z2 nu_qc cl_gds ?o9
  case o9 => omega
  have hwd := jw mw f_mw; rw [n_mw] at hwd
  have hWK := jr mr f_mr; rw [n_mr, f_m_acts] at hWK
  have hRP := jp mp mn f_mp f_mn; rw [n_mp, n_mn, f_m_acts] at hRP
  have hPL := jl ml f_ml; rw [n_ml, f_m_claims, f_m_acts] at hPL
  have hHC := jh mh f_mh; rw [n_mh, f_m_heardMany, f_m_claims] at hHC
  have hTR := jt mt f_mt; rw [n_mt] at hTR
  have hHF := jf mh m_fou f_mh f_m_fou; rw [n_mh, n_m_fou, f_m_claims] at hHF
  refine lv_aload_n hx hb dL_law_1267 rfl (lv_at hl 2 rfl) ?_
  refine lv_aload_n hx hb dL_law_1268 rfl (lv_at hl 3 rfl) ?_
  refine lv_iload_n hx hb dL_law_1269 rfl (lv_at hl 0 rfl) ?_
  refine lv_iconst (v := 1) hx hb dL_law_1270 ?o10 ?_
  case o10 => decide
  refine lv_iadd hx hb dL_law_1271 ?_
  have rg_856 := i32_r i
  refine lv_topi (fun x_857 ex_857 => ?_)
  have zx_857 : x_857.toInt = i.toInt + 1 := ?o11
  case o11 =>
    rw [ex_857]
    refine i32_add rfl ?o12 ?o13 ?o14
    case o12 => decide
    case o13 => omega
    case o14 => omega
  refine va_sld hx hb hX hbl hbA hW.2.2.2.1 (vp_in_iff.mpr ⟨?o15, ?o16⟩) dL_law_1272 ?_
  case o15 => omega
  case o16 => omega
  refine lv_topi (fun x_858 ex_858 => ?_)
  have hTo := hT
  refine hx_goi (hx_runV (As := [.int x_858]) (rest := []) ⟨hx, hb, hml, hown, hts⟩ hW gx tt_9 (T := TX9) (N := 20) rfl (t_X9_walked_2 l dC dI dA L1 hl1 H.size ax x_858 hT gx qw g_qw f_qw qlt g_qlt f_qlt F_qlt n_qlt wkm f_o_wkm) (cwV 1 hts (hx_gV kw_1088 kw_1085 kw_1086 kw_1087 kw_94) rfl rfl rfl (by decide +kernel) ⟨Nat.le_of_ble_eq_true rfl, Nat.le_of_ble_eq_true rfl⟩) rfl hl.1 rfl (Nat.le_of_ble_eq_true rfl) dL_law_1273 ⟨(show CC + 0 ≤ 600000 from ?o17), (show SS + 0 ≤ 7302250 from ?o18)⟩) hW (fun r_861 L_859 h_860 H locs p_862 hW => ?_)
  case o17 => omega
  case o18 => omega
  obtain ⟨hr_863, hT, hs⟩ := p_862
  replace hT : hx_T T_tb L_859 h_860 := hT
  replace hs : hx_S T_tb [] L1 hl1 L_859 h_860 := hs
  replace f_qa := (hs.o gx trivial rfl).2.trans f_qa
  replace f_qp := (hs.o gx trivial rfl).2.trans f_qp
  replace f_qc := (hs.o gx trivial rfl).2.trans f_qc
  replace f_qh := (hs.o gx trivial rfl).2.trans f_qh
  replace f_qw := (hs.o gx trivial rfl).2.trans f_qw
  replace f_ql := (hs.o g_qw trivial rfl).2.trans f_ql
  replace f_m_now := (hs.o gm trivial rfl).1.trans f_m_now
  replace f_m_persons := (hs.o gm trivial rfl).1.trans f_m_persons
  replace f_m_claims := (hs.o gm trivial rfl).1.trans f_m_claims
  replace f_m_taped := (hs.o gm trivial rfl).1.trans f_m_taped
  replace f_m_acts := (hs.o gm trivial rfl).1.trans f_m_acts
  replace f_m_heardMany := (hs.o gm trivial rfl).1.trans f_m_heardMany
  replace f_m_lines := (hs.o gm trivial rfl).1.trans f_m_lines
  replace f_m_listed := (hs.o gm trivial rfl).1.trans f_m_listed
  replace f_m_walkedMany := (hs.o gm trivial rfl).1.trans f_m_walkedMany
  replace f_m_payments := (hs.o gm trivial rfl).1.trans f_m_payments
  replace f_x_now := (hs.o gx trivial rfl).1.trans f_x_now
  replace f_x_personCount := (hs.o gx trivial rfl).1.trans f_x_personCount
  replace f_x_claimCount := (hs.o gx trivial rfl).1.trans f_x_claimCount
  replace f_x_tapeLength := (hs.o gx trivial rfl).1.trans f_x_tapeLength
  replace f_x_actCount := (hs.o gx trivial rfl).1.trans f_x_actCount
  replace f_x_heardCount := (hs.o gx trivial rfl).1.trans f_x_heardCount
  replace f_mw := (hs.o gm trivial rfl).2.trans f_mw
  replace f_mr := (hs.o gm trivial rfl).2.trans f_mr
  replace f_mp := (hs.o gm trivial rfl).2.trans f_mp
  replace f_mn := (hs.o gm trivial rfl).2.trans f_mn
  replace f_ml := (hs.o gm trivial rfl).2.trans f_ml
  replace f_mh := (hs.o gm trivial rfl).2.trans f_mh
  replace f_mt := (hs.o gm trivial rfl).2.trans f_mt
  replace f_m_fou := (hs.o gm trivial rfl).2.trans f_m_fou
  replace f_qo_ln := (hs.o gx trivial rfl).2.trans f_qo_ln
  replace f_o_ln := (hs.o g_qo_ln trivial rfl).1.trans f_o_ln
  replace f_o_lsd := (hs.o g_qw trivial rfl).1.trans f_o_lsd
  replace f_o_wkm := (hs.o g_qw trivial rfl).1.trans f_o_wkm
  replace f_qo_py := (hs.o gx trivial rfl).2.trans f_qo_py
  replace f_o_py := (hs.o g_qo_py trivial rfl).1.trans f_o_py
  replace f_b_of := (hs.o g_qo_ln trivial rfl).2.trans f_b_of
  replace f_m_of := (hs.o gm trivial rfl).2.trans f_m_of
  replace f_b_wf := (hs.o g_qo_ln trivial rfl).2.trans f_b_wf
  replace f_m_wf := (hs.o gm trivial rfl).2.trans f_m_wf
  replace f_b_df := (hs.o g_qo_ln trivial rfl).2.trans f_b_df
  replace f_m_df := (hs.o gm trivial rfl).2.trans f_m_df
  replace f_b_kf := (hs.o g_qo_ln trivial rfl).2.trans f_b_kf
  replace f_m_kf := (hs.o gm trivial rfl).2.trans f_m_kf
  replace f_b_sf := (hs.o g_qo_ln trivial rfl).2.trans f_b_sf
  replace f_m_sf := (hs.o gm trivial rfl).2.trans f_m_sf
  replace f_b_bf := (hs.o g_qo_ln trivial rfl).2.trans f_b_bf
  replace f_m_lst := (hs.o gm trivial rfl).2.trans f_m_lst
  replace f_qtp := (hs.o gx trivial rfl).2.trans f_qtp
  replace f_m_tp := (hs.o gm trivial rfl).2.trans f_m_tp
  replace f_m_dead := (hs.o gm trivial rfl).2.trans f_m_dead
  replace f_m_isj := (hs.o gm trivial rfl).2.trans f_m_isj
  replace f_m_dox := (hs.o gm trivial rfl).2.trans f_m_dox
  replace f_m_doy := (hs.o gm trivial rfl).2.trans f_m_doy
  replace f_qlt := (hs.o g_qw trivial rfl).2.trans f_qlt
  replace f_qlf := (hs.o g_qw trivial rfl).2.trans f_qlf
  replace f_m_wkd := (hs.o gm trivial rfl).2.trans f_m_wkd
  replace f_m_aga := (hs.o gm trivial rfl).2.trans f_m_aga
  replace f_qwo := (hs.o gx trivial rfl).2.trans f_qwo
  replace f_m_ad := (hs.o gm trivial rfl).2.trans f_m_ad
  replace f_m_by := (hs.o gm trivial rfl).2.trans f_m_by
  replace f_m_ho := (hs.o gm trivial rfl).2.trans f_m_ho
  replace f_m_fc := (hs.o gm trivial rfl).2.trans f_m_fc
  replace f_m_nt := (hs.o gm trivial rfl).2.trans f_m_nt
  replace f_m_wt := (hs.o gm trivial rfl).2.trans f_m_wt
  replace f_m_be := (hs.o gm trivial rfl).2.trans f_m_be
  replace f_m_bor := (hs.o gm trivial rfl).2.trans f_m_bor
  replace f_m_kin := (hs.o gm trivial rfl).2.trans f_m_kin
  replace f_m_sum := (hs.o gm trivial rfl).2.trans f_m_sum
  replace f_m_fro := (hs.o gm trivial rfl).2.trans f_m_fro
  replace f_m_fil := (hs.o gm trivial rfl).2.trans f_m_fil
  replace f_m_jud := (hs.o gm trivial rfl).2.trans f_m_jud
  replace f_m_ear := (hs.o gm trivial rfl).2.trans f_m_ear
  replace f_m_hds := (hs.o gm trivial rfl).2.trans f_m_hds
  replace f_m_ord := (hs.o gm trivial rfl).2.trans f_m_ord
  replace f_m_wkl := (hs.o gm trivial rfl).2.trans f_m_wkl
  replace f_m_owd := (hs.o gm trivial rfl).2.trans f_m_owd
  replace f_m_gds := (hs.o gm trivial rfl).2.trans f_m_gds
  replace f_m_szd := (hs.o gm trivial rfl).2.trans f_m_szd
  replace f_m_srv := (hs.o gm trivial rfl).2.trans f_m_srv
  replace f_y_p0 := (hs.o g_qo_py trivial rfl).2.trans f_y_p0
  replace f_m_p0 := (hs.o gm trivial rfl).2.trans f_m_p0
  replace f_y_p1 := (hs.o g_qo_py trivial rfl).2.trans f_y_p1
  replace f_m_p1 := (hs.o gm trivial rfl).2.trans f_m_p1
  replace f_y_p2 := (hs.o g_qo_py trivial rfl).2.trans f_y_p2
  replace f_m_p2 := (hs.o gm trivial rfl).2.trans f_m_p2
  replace f_y_p3 := (hs.o g_qo_py trivial rfl).2.trans f_y_p3
  replace f_m_p3 := (hs.o gm trivial rfl).2.trans f_m_p3
  replace f_y_p4 := (hs.o g_qo_py trivial rfl).2.trans f_y_p4
  replace f_m_p4 := (hs.o gm trivial rfl).2.trans f_m_p4
  replace f_qrg9 := (hs.o gx trivial rfl).2.trans f_qrg9
  replace f_y_ls := (hs.o g_qrg9 trivial rfl).2.trans f_y_ls
  replace f_m_rl := (hs.o gm trivial rfl).2.trans f_m_rl
  replace ffv_853 := (hs.o g_qrg9 trivial rfl).1.trans ffv_853
  replace ffv_854 := (hs.o gm trivial rfl).1.trans ffv_854
  replace ffv_855 := (hs.o gm trivial rfl).1.trans ffv_855
  replace pf_qa : ∀ j : Nat, (j : Int) < (h_860.2.1 ax 6).toInt → h_860.2.2 qa j ≠ none := by
    intro j hj; rw [(hs.o gx trivial rfl).1] at hj; rw [(hs.a g_qa rfl j).2]; exact pf_qa j hj
  replace pf_qp : ∀ j : Nat, (j : Int) < (h_860.2.1 ax 8).toInt → h_860.2.2 qp j ≠ none := by
    intro j hj; rw [(hs.o gx trivial rfl).1] at hj; rw [(hs.a g_qp rfl j).2]; exact pf_qp j hj
  replace pf_qc : ∀ j : Nat, (j : Int) < (h_860.2.1 ax 11).toInt → h_860.2.2 qc j ≠ none := by
    intro j hj; rw [(hs.o gx trivial rfl).1] at hj; rw [(hs.a g_qc rfl j).2]; exact pf_qc j hj
  replace pf_qh : ∀ j : Nat, (j : Int) < (h_860.2.1 ax 13).toInt → h_860.2.2 qh j ≠ none := by
    intro j hj; rw [(hs.o gx trivial rfl).1] at hj; rw [(hs.a g_qh rfl j).2]; exact pf_qh j hj
  replace pf_ql : ∀ j : Nat, (j : Int) < (h_860.2.1 qw 0).toInt → h_860.2.2 ql j ≠ none := by
    intro j hj; rw [(hs.o g_qw trivial rfl).1] at hj; rw [(hs.a g_ql rfl j).2]; exact pf_ql j hj
  replace cl_lst : hx_col 8 h_860 ql 0 = c_lst := (hx_col_S hs hTo g_ql tt_40 tt_2 rfl rfl).trans cl_lst
  replace cl_dead : hx_col 40 h_860 qp 7 = c_dead := (hx_col_S hs hTo g_qp tt_44 tt_4 rfl rfl).trans cl_dead
  replace cl_isj : hx_col 40 h_860 qp 8 = c_isj := (hx_col_S hs hTo g_qp tt_44 tt_4 rfl rfl).trans cl_isj
  replace cl_dox : hx_col 40 h_860 qp 5 = c_dox := (hx_col_S hs hTo g_qp tt_44 tt_4 rfl rfl).trans cl_dox
  replace cl_doy : hx_col 40 h_860 qp 6 = c_doy := (hx_col_S hs hTo g_qp tt_44 tt_4 rfl rfl).trans cl_doy
  replace cl_fou : hx_col 100 h_860 qc 10 = c_fou := (hx_col_S hs hTo g_qc tt_45 tt_2 rfl rfl).trans cl_fou
  replace cl_tri : hx_col 100 h_860 qc 9 = c_tri := (hx_col_S hs hTo g_qc tt_45 tt_2 rfl rfl).trans cl_tri
  replace cl_bor : hx_col 40 h_860 qp 1 = F_bor := (hx_col_S hs hTo g_qp tt_44 tt_4 rfl rfl).trans cl_bor
  replace cl_kin : hx_col 40 h_860 qp 2 = F_kin := (hx_col_S hs hTo g_qp tt_44 tt_4 rfl rfl).trans cl_kin
  replace cl_sum : hx_col 100 h_860 qc 6 = F_sum := (hx_col_S hs hTo g_qc tt_45 tt_2 rfl rfl).trans cl_sum
  replace cl_fro : hx_col 100 h_860 qc 7 = F_fro := (hx_col_S hs hTo g_qc tt_45 tt_2 rfl rfl).trans cl_fro
  replace cl_fil : hx_col 100 h_860 qc 8 = F_fil := (hx_col_S hs hTo g_qc tt_45 tt_2 rfl rfl).trans cl_fil
  replace cl_hea : hx_col 100 h_860 qc 11 = F_mh := (hx_col_S hs hTo g_qc tt_45 tt_2 rfl rfl).trans cl_hea
  replace cl_jud : hx_col 100 h_860 qc 12 = F_jud := (hx_col_S hs hTo g_qc tt_45 tt_2 rfl rfl).trans cl_jud
  replace cl_ear : hx_col 40 h_860 qp 3 = F_ear := (hx_col_S hs hTo g_qp tt_44 tt_4 rfl rfl).trans cl_ear
  replace cl_hds : hx_col 40 h_860 qp 4 = F_hds := (hx_col_S hs hTo g_qp tt_44 tt_4 rfl rfl).trans cl_hds
  replace cl_ord : hx_col 100 h_860 qc 13 = F_ord := (hx_col_S hs hTo g_qc tt_45 tt_2 rfl rfl).trans cl_ord
  replace cl_wkl : hx_col 100 h_860 qc 14 = F_wkl := (hx_col_S hs hTo g_qc tt_45 tt_2 rfl rfl).trans cl_wkl
  replace cl_owd : hx_col 100 h_860 qc 15 = F_owd := (hx_col_S hs hTo g_qc tt_45 tt_2 rfl rfl).trans cl_owd
  replace cl_gds : hx_col 100 h_860 qc 17 = F_gds := (hx_col_S hs hTo g_qc tt_45 tt_2 rfl rfl).trans cl_gds
  replace cl_szd : hx_col 100 h_860 qc 16 = F_szd := (hx_col_S hs hTo g_qc tt_45 tt_2 rfl rfl).trans cl_szd
  replace cl_srv : hx_col 100 h_860 qc 18 = F_srv := (hx_col_S hs hTo g_qc tt_45 tt_2 rfl rfl).trans cl_srv
  replace nu_qp : hx_num 40 h_860 qp 0 (np.toInt) := hx_num_S hs hTo g_qp tt_44 tt_4 rfl rfl nu_qp
  replace nu_qc : hx_num 100 h_860 qc 0 (c0.toInt) := hx_num_S hs hTo g_qc tt_45 tt_2 rfl rfl nu_qc
  replace sb_list : hx_LQ 8 100 h_860 ql qc := hx_LQ_S hs g_ql g_qc rfl rfl sb_list
  replace hDF : hw_DF h_860 qc qp 2 F_aga c0.toInt := hw_DF_S hs hTo g_qc g_qp tt_45 tt_2 rfl rfl rfl hDF
  replace hRA9 : hv_RA h_860 qa qwo a0.toInt A9 := hv_RA_S hs hTo g_qa g_qwo tt_43 tt_0 rfl rfl rfl rfl rfl rfl ?o19 hRA9
  case o19 => omega
  replace hDP : hw_DF h_860 qc qp 1 F_by c0.toInt := hw_DF_S hs hTo g_qc g_qp tt_45 tt_2 rfl rfl rfl hDP
  replace hAC9 : hv_AC h_860 qc F_ml c0.toInt A9 := hv_AC_S hs hTo g_qc tt_45 tt_2 rfl tt_0 rfl rfl rfl rfl rfl rfl rfl hAC9
  replace hFX : hv_FX 8 4 h_860 qc cF9L c0.toInt := hv_FX_S hs hTo g_qc tt_45 tt_2 rfl rfl rfl rfl hFX
  replace hBX : hv_FX 3 5 h_860 qc F_be c0.toInt := hv_FX_S hs hTo g_qc tt_45 tt_2 rfl rfl rfl rfl hBX
  replace hHL : hv_HL h_860 qh qc F_ho m0.toInt c0.toInt := hv_HL_S hs g_qh g_qc rfl rfl hHL
  replace n_mw : h_860.2.1 mw = F_mw := (funext fun j => (hs.a g_mw rfl j).1).trans n_mw
  replace n_mr : h_860.2.1 mr = F_mr := (funext fun j => (hs.a g_mr rfl j).1).trans n_mr
  replace n_mp : h_860.2.1 mp = F_mp := (funext fun j => (hs.a g_mp rfl j).1).trans n_mp
  replace n_mn : h_860.2.1 mn = F_mn := (funext fun j => (hs.a g_mn rfl j).1).trans n_mn
  replace n_ml : h_860.2.1 ml = F_ml := (funext fun j => (hs.a g_ml rfl j).1).trans n_ml
  replace n_mh : h_860.2.1 mh = F_mh := (funext fun j => (hs.a g_mh rfl j).1).trans n_mh
  replace n_mt : h_860.2.1 mt = F_mt := (funext fun j => (hs.a g_mt rfl j).1).trans n_mt
  replace n_m_fou : h_860.2.1 m_fou = F_m_fou := (funext fun j => (hs.a g_m_fou rfl j).1).trans n_m_fou
  replace n_b_of : h_860.2.1 b_of = B_of := (funext fun j => (hs.a g_b_of rfl j).1).trans n_b_of
  replace n_m_of : h_860.2.1 m_of = F_of := (funext fun j => (hs.a g_m_of rfl j).1).trans n_m_of
  replace n_b_wf : h_860.2.1 b_wf = B_wf := (funext fun j => (hs.a g_b_wf rfl j).1).trans n_b_wf
  replace n_m_wf : h_860.2.1 m_wf = F_wf := (funext fun j => (hs.a g_m_wf rfl j).1).trans n_m_wf
  replace n_b_df : h_860.2.1 b_df = B_df := (funext fun j => (hs.a g_b_df rfl j).1).trans n_b_df
  replace n_m_df : h_860.2.1 m_df = F_df := (funext fun j => (hs.a g_m_df rfl j).1).trans n_m_df
  replace n_b_kf : h_860.2.1 b_kf = B_kf := (funext fun j => (hs.a g_b_kf rfl j).1).trans n_b_kf
  replace n_m_kf : h_860.2.1 m_kf = F_kf := (funext fun j => (hs.a g_m_kf rfl j).1).trans n_m_kf
  replace n_b_sf : h_860.2.1 b_sf = B_sf := (funext fun j => (hs.a g_b_sf rfl j).1).trans n_b_sf
  replace n_m_sf : h_860.2.1 m_sf = F_sf := (funext fun j => (hs.a g_m_sf rfl j).1).trans n_m_sf
  replace n_b_bf : h_860.2.1 b_bf = bfL := (funext fun j => (hs.a g_b_bf rfl j).1).trans n_b_bf
  replace n_lst : h_860.2.1 m_lst = F_lst := (funext fun j => (hs.a g_m_lst rfl j).1).trans n_lst
  replace n_tp : h_860.2.1 m_tp = F_tp := (funext fun j => (hs.a g_m_tp rfl j).1).trans n_tp
  replace n_qtp : h_860.2.1 qtp = F_tp := (funext fun j => (hs.a g_qtp rfl j).1).trans n_qtp
  replace n_dead : h_860.2.1 m_dead = F_dead := (funext fun j => (hs.a g_m_dead rfl j).1).trans n_dead
  replace n_isj : h_860.2.1 m_isj = F_isj := (funext fun j => (hs.a g_m_isj rfl j).1).trans n_isj
  replace n_dox : h_860.2.1 m_dox = F_dox := (funext fun j => (hs.a g_m_dox rfl j).1).trans n_dox
  replace n_doy : h_860.2.1 m_doy = F_doy := (funext fun j => (hs.a g_m_doy rfl j).1).trans n_doy
  replace n_qlt : h_860.2.1 qlt = F_qlt := (funext fun j => (hs.a g_qlt rfl j).1).trans n_qlt
  replace n_m_wkd : h_860.2.1 m_wkd = F_m_wkd := (funext fun j => (hs.a g_m_wkd rfl j).1).trans n_m_wkd
  replace n_aga : h_860.2.1 m_aga = F_aga := (funext fun j => (hs.a g_m_aga rfl j).1).trans n_aga
  replace n_ad : h_860.2.1 m_ad = F_ad := (funext fun j => (hs.a g_m_ad rfl j).1).trans n_ad
  replace n_by : h_860.2.1 m_by = F_by := (funext fun j => (hs.a g_m_by rfl j).1).trans n_by
  replace n_ho : h_860.2.1 m_ho = F_ho := (funext fun j => (hs.a g_m_ho rfl j).1).trans n_ho
  replace n_fc : h_860.2.1 m_fc = F_fc := (funext fun j => (hs.a g_m_fc rfl j).1).trans n_fc
  replace n_nt : h_860.2.1 m_nt = F_nt := (funext fun j => (hs.a g_m_nt rfl j).1).trans n_nt
  replace n_wt : h_860.2.1 m_wt = F_wt := (funext fun j => (hs.a g_m_wt rfl j).1).trans n_wt
  replace n_be : h_860.2.1 m_be = F_be := (funext fun j => (hs.a g_m_be rfl j).1).trans n_be
  replace n_bor : h_860.2.1 m_bor = F_bor := (funext fun j => (hs.a g_m_bor rfl j).1).trans n_bor
  replace n_kin : h_860.2.1 m_kin = F_kin := (funext fun j => (hs.a g_m_kin rfl j).1).trans n_kin
  replace n_sum : h_860.2.1 m_sum = F_sum := (funext fun j => (hs.a g_m_sum rfl j).1).trans n_sum
  replace n_fro : h_860.2.1 m_fro = F_fro := (funext fun j => (hs.a g_m_fro rfl j).1).trans n_fro
  replace n_fil : h_860.2.1 m_fil = F_fil := (funext fun j => (hs.a g_m_fil rfl j).1).trans n_fil
  replace n_jud : h_860.2.1 m_jud = F_jud := (funext fun j => (hs.a g_m_jud rfl j).1).trans n_jud
  replace n_ear : h_860.2.1 m_ear = F_ear := (funext fun j => (hs.a g_m_ear rfl j).1).trans n_ear
  replace n_hds : h_860.2.1 m_hds = F_hds := (funext fun j => (hs.a g_m_hds rfl j).1).trans n_hds
  replace n_ord : h_860.2.1 m_ord = F_ord := (funext fun j => (hs.a g_m_ord rfl j).1).trans n_ord
  replace n_wkl : h_860.2.1 m_wkl = F_wkl := (funext fun j => (hs.a g_m_wkl rfl j).1).trans n_wkl
  replace n_owd : h_860.2.1 m_owd = F_owd := (funext fun j => (hs.a g_m_owd rfl j).1).trans n_owd
  replace n_gds : h_860.2.1 m_gds = F_gds := (funext fun j => (hs.a g_m_gds rfl j).1).trans n_gds
  replace n_szd : h_860.2.1 m_szd = F_szd := (funext fun j => (hs.a g_m_szd rfl j).1).trans n_szd
  replace n_srv : h_860.2.1 m_srv = F_srv := (funext fun j => (hs.a g_m_srv rfl j).1).trans n_srv
  replace n_p0 : h_860.2.1 m_p0 = F_p0 := (funext fun j => (hs.a g_m_p0 rfl j).1).trans n_p0
  replace n_y_p0 : h_860.2.1 y_p0 = F_p0 := (funext fun j => (hs.a g_y_p0 rfl j).1).trans n_y_p0
  replace n_p1 : h_860.2.1 m_p1 = F_p1 := (funext fun j => (hs.a g_m_p1 rfl j).1).trans n_p1
  replace n_y_p1 : h_860.2.1 y_p1 = F_p1 := (funext fun j => (hs.a g_y_p1 rfl j).1).trans n_y_p1
  replace n_p2 : h_860.2.1 m_p2 = F_p2 := (funext fun j => (hs.a g_m_p2 rfl j).1).trans n_p2
  replace n_y_p2 : h_860.2.1 y_p2 = F_p2 := (funext fun j => (hs.a g_y_p2 rfl j).1).trans n_y_p2
  replace n_p3 : h_860.2.1 m_p3 = F_p3 := (funext fun j => (hs.a g_m_p3 rfl j).1).trans n_p3
  replace n_y_p3 : h_860.2.1 y_p3 = F_p3 := (funext fun j => (hs.a g_y_p3 rfl j).1).trans n_y_p3
  replace n_p4 : h_860.2.1 m_p4 = F_p4 := (funext fun j => (hs.a g_m_p4 rfl j).1).trans n_p4
  replace n_y_p4 : h_860.2.1 y_p4 = F_p4 := (funext fun j => (hs.a g_y_p4 rfl j).1).trans n_y_p4
  replace n_y_ls : h_860.2.1 y_ls = F_y_ls := (funext fun j => (hs.a g_y_ls rfl j).1).trans n_y_ls
  replace n_m_rl : h_860.2.1 m_rl = F_m_rl := (funext fun j => (hs.a g_m_rl rfl j).1).trans n_m_rl
  replace gx := gx.S hs
  replace gm := gm.S hs
  replace g_qa := g_qa.S hs
  replace g_qp := g_qp.S hs
  replace g_qc := g_qc.S hs
  replace g_qh := g_qh.S hs
  replace g_qw := g_qw.S hs
  replace g_ql := g_ql.S hs
  replace g_mw := g_mw.S hs
  replace g_mr := g_mr.S hs
  replace g_mp := g_mp.S hs
  replace g_mn := g_mn.S hs
  replace g_ml := g_ml.S hs
  replace g_mh := g_mh.S hs
  replace g_mt := g_mt.S hs
  replace g_m_fou := g_m_fou.S hs
  replace g_qo_ln := g_qo_ln.S hs
  replace g_qo_py := g_qo_py.S hs
  replace g_b_of := g_b_of.S hs
  replace g_m_of := g_m_of.S hs
  replace g_b_wf := g_b_wf.S hs
  replace g_m_wf := g_m_wf.S hs
  replace g_b_df := g_b_df.S hs
  replace g_m_df := g_m_df.S hs
  replace g_b_kf := g_b_kf.S hs
  replace g_m_kf := g_m_kf.S hs
  replace g_b_sf := g_b_sf.S hs
  replace g_m_sf := g_m_sf.S hs
  replace g_b_bf := g_b_bf.S hs
  replace g_m_lst := g_m_lst.S hs
  replace g_qtp := g_qtp.S hs
  replace g_m_tp := g_m_tp.S hs
  replace g_m_dead := g_m_dead.S hs
  replace g_m_isj := g_m_isj.S hs
  replace g_m_dox := g_m_dox.S hs
  replace g_m_doy := g_m_doy.S hs
  replace g_qlt := g_qlt.S hs
  replace g_qlf := g_qlf.S hs
  replace g_m_wkd := g_m_wkd.S hs
  replace g_m_aga := g_m_aga.S hs
  replace g_qwo := g_qwo.S hs
  replace g_m_ad := g_m_ad.S hs
  replace g_m_by := g_m_by.S hs
  replace g_m_ho := g_m_ho.S hs
  replace g_m_fc := g_m_fc.S hs
  replace g_m_nt := g_m_nt.S hs
  replace g_m_wt := g_m_wt.S hs
  replace g_m_be := g_m_be.S hs
  replace g_m_bor := g_m_bor.S hs
  replace g_m_kin := g_m_kin.S hs
  replace g_m_sum := g_m_sum.S hs
  replace g_m_fro := g_m_fro.S hs
  replace g_m_fil := g_m_fil.S hs
  replace g_m_jud := g_m_jud.S hs
  replace g_m_ear := g_m_ear.S hs
  replace g_m_hds := g_m_hds.S hs
  replace g_m_ord := g_m_ord.S hs
  replace g_m_wkl := g_m_wkl.S hs
  replace g_m_owd := g_m_owd.S hs
  replace g_m_gds := g_m_gds.S hs
  replace g_m_szd := g_m_szd.S hs
  replace g_m_srv := g_m_srv.S hs
  replace g_y_p0 := g_y_p0.S hs
  replace g_m_p0 := g_m_p0.S hs
  replace g_y_p1 := g_y_p1.S hs
  replace g_m_p1 := g_m_p1.S hs
  replace g_y_p2 := g_y_p2.S hs
  replace g_m_p2 := g_m_p2.S hs
  replace g_y_p3 := g_y_p3.S hs
  replace g_m_p3 := g_m_p3.S hs
  replace g_y_p4 := g_y_p4.S hs
  replace g_m_p4 := g_m_p4.S hs
  replace g_qrg9 := g_qrg9.S hs
  replace g_y_ls := g_y_ls.S hs
  replace g_m_rl := g_m_rl.S hs
  refine lv_pop hx hb dL_law_1276 rfl ?_
  refine lv_aload_n hx hb dL_law_1277 rfl (lv_at hl 1 rfl) ?_
  refine lv_aload_n hx hb dL_law_1278 rfl (lv_at hl 3 rfl) ?_
  refine lv_iload_n hx hb dL_law_1279 rfl (lv_at hl 0 rfl) ?_
  refine lv_iconst (v := 1) hx hb dL_law_1280 ?o20 ?_
  case o20 => decide
  refine lv_iadd hx hb dL_law_1281 ?_
  refine lv_topi (fun x_864 ex_864 => ?_)
  have zx_864 : x_864.toInt = i.toInt + 1 := ?o21
  case o21 =>
    rw [ex_864]
    refine i32_add rfl ?o22 ?o23 ?o24
    case o22 => decide
    case o23 => omega
    case o24 => omega
  obtain rfl : x_857 = x_864 := ex_857.trans ex_864.symm
  refine va_sld hx hb hX hbl hbA hW.2.2.2.1 (vp_in_iff.mpr ⟨?o25, ?o26⟩) dL_law_1282 ?_
  case o25 => omega
  case o26 => omega
  refine lv_topi (fun x_865 ex_865 => ?_)
  obtain rfl : x_858 = x_865 := ex_858.trans ex_865.symm
  have hTo := hT
  refine hx_goi (hx_runV (As := [.int x_858]) (rest := []) ⟨hx, hb, hml, hown, hts⟩ hW gm tt_10 (T := TX10) (N := 98) rfl (t_X10_walked_2 l dC dI dA L_859 h_860 H.size am x_858 hT gm m_wkd g_m_wkd f_m_wkd F_m_wkd n_m_wkd wkm f_m_walkedMany) (cwV 1 hts (hx_gV kw_1732 kw_1729 kw_1730 kw_1731 kw_103) rfl rfl rfl (by decide +kernel) ⟨Nat.le_of_ble_eq_true rfl, Nat.le_of_ble_eq_true rfl⟩) rfl hl.1 rfl (Nat.le_of_ble_eq_true rfl) dL_law_1283 ⟨(show CC + 0 + 0 ≤ 600000 from ?o27), (show SS + 0 + 0 ≤ 7302250 from ?o28)⟩) hW (fun r_868 L_866 h_867 H locs p_869 hW => ?_)
  case o27 => omega
  case o28 => omega
  obtain ⟨hr_870, hT, hs⟩ := p_869
  replace hT : hx_T T_tb L_866 h_867 := hT
  replace hs : hx_S T_tb [] L_859 h_860 L_866 h_867 := hs
  replace f_qa := (hs.o gx trivial rfl).2.trans f_qa
  replace f_qp := (hs.o gx trivial rfl).2.trans f_qp
  replace f_qc := (hs.o gx trivial rfl).2.trans f_qc
  replace f_qh := (hs.o gx trivial rfl).2.trans f_qh
  replace f_qw := (hs.o gx trivial rfl).2.trans f_qw
  replace f_ql := (hs.o g_qw trivial rfl).2.trans f_ql
  replace f_m_now := (hs.o gm trivial rfl).1.trans f_m_now
  replace f_m_persons := (hs.o gm trivial rfl).1.trans f_m_persons
  replace f_m_claims := (hs.o gm trivial rfl).1.trans f_m_claims
  replace f_m_taped := (hs.o gm trivial rfl).1.trans f_m_taped
  replace f_m_acts := (hs.o gm trivial rfl).1.trans f_m_acts
  replace f_m_heardMany := (hs.o gm trivial rfl).1.trans f_m_heardMany
  replace f_m_lines := (hs.o gm trivial rfl).1.trans f_m_lines
  replace f_m_listed := (hs.o gm trivial rfl).1.trans f_m_listed
  replace f_m_walkedMany := (hs.o gm trivial rfl).1.trans f_m_walkedMany
  replace f_m_payments := (hs.o gm trivial rfl).1.trans f_m_payments
  replace f_x_now := (hs.o gx trivial rfl).1.trans f_x_now
  replace f_x_personCount := (hs.o gx trivial rfl).1.trans f_x_personCount
  replace f_x_claimCount := (hs.o gx trivial rfl).1.trans f_x_claimCount
  replace f_x_tapeLength := (hs.o gx trivial rfl).1.trans f_x_tapeLength
  replace f_x_actCount := (hs.o gx trivial rfl).1.trans f_x_actCount
  replace f_x_heardCount := (hs.o gx trivial rfl).1.trans f_x_heardCount
  replace f_mw := (hs.o gm trivial rfl).2.trans f_mw
  replace f_mr := (hs.o gm trivial rfl).2.trans f_mr
  replace f_mp := (hs.o gm trivial rfl).2.trans f_mp
  replace f_mn := (hs.o gm trivial rfl).2.trans f_mn
  replace f_ml := (hs.o gm trivial rfl).2.trans f_ml
  replace f_mh := (hs.o gm trivial rfl).2.trans f_mh
  replace f_mt := (hs.o gm trivial rfl).2.trans f_mt
  replace f_m_fou := (hs.o gm trivial rfl).2.trans f_m_fou
  replace f_qo_ln := (hs.o gx trivial rfl).2.trans f_qo_ln
  replace f_o_ln := (hs.o g_qo_ln trivial rfl).1.trans f_o_ln
  replace f_o_lsd := (hs.o g_qw trivial rfl).1.trans f_o_lsd
  replace f_o_wkm := (hs.o g_qw trivial rfl).1.trans f_o_wkm
  replace f_qo_py := (hs.o gx trivial rfl).2.trans f_qo_py
  replace f_o_py := (hs.o g_qo_py trivial rfl).1.trans f_o_py
  replace f_b_of := (hs.o g_qo_ln trivial rfl).2.trans f_b_of
  replace f_m_of := (hs.o gm trivial rfl).2.trans f_m_of
  replace f_b_wf := (hs.o g_qo_ln trivial rfl).2.trans f_b_wf
  replace f_m_wf := (hs.o gm trivial rfl).2.trans f_m_wf
  replace f_b_df := (hs.o g_qo_ln trivial rfl).2.trans f_b_df
  replace f_m_df := (hs.o gm trivial rfl).2.trans f_m_df
  replace f_b_kf := (hs.o g_qo_ln trivial rfl).2.trans f_b_kf
  replace f_m_kf := (hs.o gm trivial rfl).2.trans f_m_kf
  replace f_b_sf := (hs.o g_qo_ln trivial rfl).2.trans f_b_sf
  replace f_m_sf := (hs.o gm trivial rfl).2.trans f_m_sf
  replace f_b_bf := (hs.o g_qo_ln trivial rfl).2.trans f_b_bf
  replace f_m_lst := (hs.o gm trivial rfl).2.trans f_m_lst
  replace f_qtp := (hs.o gx trivial rfl).2.trans f_qtp
  replace f_m_tp := (hs.o gm trivial rfl).2.trans f_m_tp
  replace f_m_dead := (hs.o gm trivial rfl).2.trans f_m_dead
  replace f_m_isj := (hs.o gm trivial rfl).2.trans f_m_isj
  replace f_m_dox := (hs.o gm trivial rfl).2.trans f_m_dox
  replace f_m_doy := (hs.o gm trivial rfl).2.trans f_m_doy
  replace f_qlt := (hs.o g_qw trivial rfl).2.trans f_qlt
  replace f_qlf := (hs.o g_qw trivial rfl).2.trans f_qlf
  replace f_m_wkd := (hs.o gm trivial rfl).2.trans f_m_wkd
  replace f_m_aga := (hs.o gm trivial rfl).2.trans f_m_aga
  replace f_qwo := (hs.o gx trivial rfl).2.trans f_qwo
  replace f_m_ad := (hs.o gm trivial rfl).2.trans f_m_ad
  replace f_m_by := (hs.o gm trivial rfl).2.trans f_m_by
  replace f_m_ho := (hs.o gm trivial rfl).2.trans f_m_ho
  replace f_m_fc := (hs.o gm trivial rfl).2.trans f_m_fc
  replace f_m_nt := (hs.o gm trivial rfl).2.trans f_m_nt
  replace f_m_wt := (hs.o gm trivial rfl).2.trans f_m_wt
  replace f_m_be := (hs.o gm trivial rfl).2.trans f_m_be
  replace f_m_bor := (hs.o gm trivial rfl).2.trans f_m_bor
  replace f_m_kin := (hs.o gm trivial rfl).2.trans f_m_kin
  replace f_m_sum := (hs.o gm trivial rfl).2.trans f_m_sum
  replace f_m_fro := (hs.o gm trivial rfl).2.trans f_m_fro
  replace f_m_fil := (hs.o gm trivial rfl).2.trans f_m_fil
  replace f_m_jud := (hs.o gm trivial rfl).2.trans f_m_jud
  replace f_m_ear := (hs.o gm trivial rfl).2.trans f_m_ear
  replace f_m_hds := (hs.o gm trivial rfl).2.trans f_m_hds
  replace f_m_ord := (hs.o gm trivial rfl).2.trans f_m_ord
  replace f_m_wkl := (hs.o gm trivial rfl).2.trans f_m_wkl
  replace f_m_owd := (hs.o gm trivial rfl).2.trans f_m_owd
  replace f_m_gds := (hs.o gm trivial rfl).2.trans f_m_gds
  replace f_m_szd := (hs.o gm trivial rfl).2.trans f_m_szd
  replace f_m_srv := (hs.o gm trivial rfl).2.trans f_m_srv
  replace f_y_p0 := (hs.o g_qo_py trivial rfl).2.trans f_y_p0
  replace f_m_p0 := (hs.o gm trivial rfl).2.trans f_m_p0
  replace f_y_p1 := (hs.o g_qo_py trivial rfl).2.trans f_y_p1
  replace f_m_p1 := (hs.o gm trivial rfl).2.trans f_m_p1
  replace f_y_p2 := (hs.o g_qo_py trivial rfl).2.trans f_y_p2
  replace f_m_p2 := (hs.o gm trivial rfl).2.trans f_m_p2
  replace f_y_p3 := (hs.o g_qo_py trivial rfl).2.trans f_y_p3
  replace f_m_p3 := (hs.o gm trivial rfl).2.trans f_m_p3
  replace f_y_p4 := (hs.o g_qo_py trivial rfl).2.trans f_y_p4
  replace f_m_p4 := (hs.o gm trivial rfl).2.trans f_m_p4
  replace f_qrg9 := (hs.o gx trivial rfl).2.trans f_qrg9
  replace f_y_ls := (hs.o g_qrg9 trivial rfl).2.trans f_y_ls
  replace f_m_rl := (hs.o gm trivial rfl).2.trans f_m_rl
  replace ffv_853 := (hs.o g_qrg9 trivial rfl).1.trans ffv_853
  replace ffv_854 := (hs.o gm trivial rfl).1.trans ffv_854
  replace ffv_855 := (hs.o gm trivial rfl).1.trans ffv_855
  replace pf_qa : ∀ j : Nat, (j : Int) < (h_867.2.1 ax 6).toInt → h_867.2.2 qa j ≠ none := by
    intro j hj; rw [(hs.o gx trivial rfl).1] at hj; rw [(hs.a g_qa rfl j).2]; exact pf_qa j hj
  replace pf_qp : ∀ j : Nat, (j : Int) < (h_867.2.1 ax 8).toInt → h_867.2.2 qp j ≠ none := by
    intro j hj; rw [(hs.o gx trivial rfl).1] at hj; rw [(hs.a g_qp rfl j).2]; exact pf_qp j hj
  replace pf_qc : ∀ j : Nat, (j : Int) < (h_867.2.1 ax 11).toInt → h_867.2.2 qc j ≠ none := by
    intro j hj; rw [(hs.o gx trivial rfl).1] at hj; rw [(hs.a g_qc rfl j).2]; exact pf_qc j hj
  replace pf_qh : ∀ j : Nat, (j : Int) < (h_867.2.1 ax 13).toInt → h_867.2.2 qh j ≠ none := by
    intro j hj; rw [(hs.o gx trivial rfl).1] at hj; rw [(hs.a g_qh rfl j).2]; exact pf_qh j hj
  replace pf_ql : ∀ j : Nat, (j : Int) < (h_867.2.1 qw 0).toInt → h_867.2.2 ql j ≠ none := by
    intro j hj; rw [(hs.o g_qw trivial rfl).1] at hj; rw [(hs.a g_ql rfl j).2]; exact pf_ql j hj
  replace cl_lst : hx_col 8 h_867 ql 0 = c_lst := (hx_col_S hs hTo g_ql tt_40 tt_2 rfl rfl).trans cl_lst
  replace cl_dead : hx_col 40 h_867 qp 7 = c_dead := (hx_col_S hs hTo g_qp tt_44 tt_4 rfl rfl).trans cl_dead
  replace cl_isj : hx_col 40 h_867 qp 8 = c_isj := (hx_col_S hs hTo g_qp tt_44 tt_4 rfl rfl).trans cl_isj
  replace cl_dox : hx_col 40 h_867 qp 5 = c_dox := (hx_col_S hs hTo g_qp tt_44 tt_4 rfl rfl).trans cl_dox
  replace cl_doy : hx_col 40 h_867 qp 6 = c_doy := (hx_col_S hs hTo g_qp tt_44 tt_4 rfl rfl).trans cl_doy
  replace cl_fou : hx_col 100 h_867 qc 10 = c_fou := (hx_col_S hs hTo g_qc tt_45 tt_2 rfl rfl).trans cl_fou
  replace cl_tri : hx_col 100 h_867 qc 9 = c_tri := (hx_col_S hs hTo g_qc tt_45 tt_2 rfl rfl).trans cl_tri
  replace cl_bor : hx_col 40 h_867 qp 1 = F_bor := (hx_col_S hs hTo g_qp tt_44 tt_4 rfl rfl).trans cl_bor
  replace cl_kin : hx_col 40 h_867 qp 2 = F_kin := (hx_col_S hs hTo g_qp tt_44 tt_4 rfl rfl).trans cl_kin
  replace cl_sum : hx_col 100 h_867 qc 6 = F_sum := (hx_col_S hs hTo g_qc tt_45 tt_2 rfl rfl).trans cl_sum
  replace cl_fro : hx_col 100 h_867 qc 7 = F_fro := (hx_col_S hs hTo g_qc tt_45 tt_2 rfl rfl).trans cl_fro
  replace cl_fil : hx_col 100 h_867 qc 8 = F_fil := (hx_col_S hs hTo g_qc tt_45 tt_2 rfl rfl).trans cl_fil
  replace cl_hea : hx_col 100 h_867 qc 11 = F_mh := (hx_col_S hs hTo g_qc tt_45 tt_2 rfl rfl).trans cl_hea
  replace cl_jud : hx_col 100 h_867 qc 12 = F_jud := (hx_col_S hs hTo g_qc tt_45 tt_2 rfl rfl).trans cl_jud
  replace cl_ear : hx_col 40 h_867 qp 3 = F_ear := (hx_col_S hs hTo g_qp tt_44 tt_4 rfl rfl).trans cl_ear
  replace cl_hds : hx_col 40 h_867 qp 4 = F_hds := (hx_col_S hs hTo g_qp tt_44 tt_4 rfl rfl).trans cl_hds
  replace cl_ord : hx_col 100 h_867 qc 13 = F_ord := (hx_col_S hs hTo g_qc tt_45 tt_2 rfl rfl).trans cl_ord
  replace cl_wkl : hx_col 100 h_867 qc 14 = F_wkl := (hx_col_S hs hTo g_qc tt_45 tt_2 rfl rfl).trans cl_wkl
  replace cl_owd : hx_col 100 h_867 qc 15 = F_owd := (hx_col_S hs hTo g_qc tt_45 tt_2 rfl rfl).trans cl_owd
  replace cl_gds : hx_col 100 h_867 qc 17 = F_gds := (hx_col_S hs hTo g_qc tt_45 tt_2 rfl rfl).trans cl_gds
  replace cl_szd : hx_col 100 h_867 qc 16 = F_szd := (hx_col_S hs hTo g_qc tt_45 tt_2 rfl rfl).trans cl_szd
  replace cl_srv : hx_col 100 h_867 qc 18 = F_srv := (hx_col_S hs hTo g_qc tt_45 tt_2 rfl rfl).trans cl_srv
  replace nu_qp : hx_num 40 h_867 qp 0 (np.toInt) := hx_num_S hs hTo g_qp tt_44 tt_4 rfl rfl nu_qp
  replace nu_qc : hx_num 100 h_867 qc 0 (c0.toInt) := hx_num_S hs hTo g_qc tt_45 tt_2 rfl rfl nu_qc
  replace sb_list : hx_LQ 8 100 h_867 ql qc := hx_LQ_S hs g_ql g_qc rfl rfl sb_list
  replace hDF : hw_DF h_867 qc qp 2 F_aga c0.toInt := hw_DF_S hs hTo g_qc g_qp tt_45 tt_2 rfl rfl rfl hDF
  replace hRA9 : hv_RA h_867 qa qwo a0.toInt A9 := hv_RA_S hs hTo g_qa g_qwo tt_43 tt_0 rfl rfl rfl rfl rfl rfl ?o29 hRA9
  case o29 => omega
  replace hDP : hw_DF h_867 qc qp 1 F_by c0.toInt := hw_DF_S hs hTo g_qc g_qp tt_45 tt_2 rfl rfl rfl hDP
  replace hAC9 : hv_AC h_867 qc F_ml c0.toInt A9 := hv_AC_S hs hTo g_qc tt_45 tt_2 rfl tt_0 rfl rfl rfl rfl rfl rfl rfl hAC9
  replace hFX : hv_FX 8 4 h_867 qc cF9L c0.toInt := hv_FX_S hs hTo g_qc tt_45 tt_2 rfl rfl rfl rfl hFX
  replace hBX : hv_FX 3 5 h_867 qc F_be c0.toInt := hv_FX_S hs hTo g_qc tt_45 tt_2 rfl rfl rfl rfl hBX
  replace hHL : hv_HL h_867 qh qc F_ho m0.toInt c0.toInt := hv_HL_S hs g_qh g_qc rfl rfl hHL
  replace n_mw : h_867.2.1 mw = F_mw := (funext fun j => (hs.a g_mw rfl j).1).trans n_mw
  replace n_mr : h_867.2.1 mr = F_mr := (funext fun j => (hs.a g_mr rfl j).1).trans n_mr
  replace n_mp : h_867.2.1 mp = F_mp := (funext fun j => (hs.a g_mp rfl j).1).trans n_mp
  replace n_mn : h_867.2.1 mn = F_mn := (funext fun j => (hs.a g_mn rfl j).1).trans n_mn
  replace n_ml : h_867.2.1 ml = F_ml := (funext fun j => (hs.a g_ml rfl j).1).trans n_ml
  replace n_mh : h_867.2.1 mh = F_mh := (funext fun j => (hs.a g_mh rfl j).1).trans n_mh
  replace n_mt : h_867.2.1 mt = F_mt := (funext fun j => (hs.a g_mt rfl j).1).trans n_mt
  replace n_m_fou : h_867.2.1 m_fou = F_m_fou := (funext fun j => (hs.a g_m_fou rfl j).1).trans n_m_fou
  replace n_b_of : h_867.2.1 b_of = B_of := (funext fun j => (hs.a g_b_of rfl j).1).trans n_b_of
  replace n_m_of : h_867.2.1 m_of = F_of := (funext fun j => (hs.a g_m_of rfl j).1).trans n_m_of
  replace n_b_wf : h_867.2.1 b_wf = B_wf := (funext fun j => (hs.a g_b_wf rfl j).1).trans n_b_wf
  replace n_m_wf : h_867.2.1 m_wf = F_wf := (funext fun j => (hs.a g_m_wf rfl j).1).trans n_m_wf
  replace n_b_df : h_867.2.1 b_df = B_df := (funext fun j => (hs.a g_b_df rfl j).1).trans n_b_df
  replace n_m_df : h_867.2.1 m_df = F_df := (funext fun j => (hs.a g_m_df rfl j).1).trans n_m_df
  replace n_b_kf : h_867.2.1 b_kf = B_kf := (funext fun j => (hs.a g_b_kf rfl j).1).trans n_b_kf
  replace n_m_kf : h_867.2.1 m_kf = F_kf := (funext fun j => (hs.a g_m_kf rfl j).1).trans n_m_kf
  replace n_b_sf : h_867.2.1 b_sf = B_sf := (funext fun j => (hs.a g_b_sf rfl j).1).trans n_b_sf
  replace n_m_sf : h_867.2.1 m_sf = F_sf := (funext fun j => (hs.a g_m_sf rfl j).1).trans n_m_sf
  replace n_b_bf : h_867.2.1 b_bf = bfL := (funext fun j => (hs.a g_b_bf rfl j).1).trans n_b_bf
  replace n_lst : h_867.2.1 m_lst = F_lst := (funext fun j => (hs.a g_m_lst rfl j).1).trans n_lst
  replace n_tp : h_867.2.1 m_tp = F_tp := (funext fun j => (hs.a g_m_tp rfl j).1).trans n_tp
  replace n_qtp : h_867.2.1 qtp = F_tp := (funext fun j => (hs.a g_qtp rfl j).1).trans n_qtp
  replace n_dead : h_867.2.1 m_dead = F_dead := (funext fun j => (hs.a g_m_dead rfl j).1).trans n_dead
  replace n_isj : h_867.2.1 m_isj = F_isj := (funext fun j => (hs.a g_m_isj rfl j).1).trans n_isj
  replace n_dox : h_867.2.1 m_dox = F_dox := (funext fun j => (hs.a g_m_dox rfl j).1).trans n_dox
  replace n_doy : h_867.2.1 m_doy = F_doy := (funext fun j => (hs.a g_m_doy rfl j).1).trans n_doy
  replace n_qlt : h_867.2.1 qlt = F_qlt := (funext fun j => (hs.a g_qlt rfl j).1).trans n_qlt
  replace n_m_wkd : h_867.2.1 m_wkd = F_m_wkd := (funext fun j => (hs.a g_m_wkd rfl j).1).trans n_m_wkd
  replace n_aga : h_867.2.1 m_aga = F_aga := (funext fun j => (hs.a g_m_aga rfl j).1).trans n_aga
  replace n_ad : h_867.2.1 m_ad = F_ad := (funext fun j => (hs.a g_m_ad rfl j).1).trans n_ad
  replace n_by : h_867.2.1 m_by = F_by := (funext fun j => (hs.a g_m_by rfl j).1).trans n_by
  replace n_ho : h_867.2.1 m_ho = F_ho := (funext fun j => (hs.a g_m_ho rfl j).1).trans n_ho
  replace n_fc : h_867.2.1 m_fc = F_fc := (funext fun j => (hs.a g_m_fc rfl j).1).trans n_fc
  replace n_nt : h_867.2.1 m_nt = F_nt := (funext fun j => (hs.a g_m_nt rfl j).1).trans n_nt
  replace n_wt : h_867.2.1 m_wt = F_wt := (funext fun j => (hs.a g_m_wt rfl j).1).trans n_wt
  replace n_be : h_867.2.1 m_be = F_be := (funext fun j => (hs.a g_m_be rfl j).1).trans n_be
  replace n_bor : h_867.2.1 m_bor = F_bor := (funext fun j => (hs.a g_m_bor rfl j).1).trans n_bor
  replace n_kin : h_867.2.1 m_kin = F_kin := (funext fun j => (hs.a g_m_kin rfl j).1).trans n_kin
  replace n_sum : h_867.2.1 m_sum = F_sum := (funext fun j => (hs.a g_m_sum rfl j).1).trans n_sum
  replace n_fro : h_867.2.1 m_fro = F_fro := (funext fun j => (hs.a g_m_fro rfl j).1).trans n_fro
  replace n_fil : h_867.2.1 m_fil = F_fil := (funext fun j => (hs.a g_m_fil rfl j).1).trans n_fil
  replace n_jud : h_867.2.1 m_jud = F_jud := (funext fun j => (hs.a g_m_jud rfl j).1).trans n_jud
  replace n_ear : h_867.2.1 m_ear = F_ear := (funext fun j => (hs.a g_m_ear rfl j).1).trans n_ear
  replace n_hds : h_867.2.1 m_hds = F_hds := (funext fun j => (hs.a g_m_hds rfl j).1).trans n_hds
  replace n_ord : h_867.2.1 m_ord = F_ord := (funext fun j => (hs.a g_m_ord rfl j).1).trans n_ord
  replace n_wkl : h_867.2.1 m_wkl = F_wkl := (funext fun j => (hs.a g_m_wkl rfl j).1).trans n_wkl
  replace n_owd : h_867.2.1 m_owd = F_owd := (funext fun j => (hs.a g_m_owd rfl j).1).trans n_owd
  replace n_gds : h_867.2.1 m_gds = F_gds := (funext fun j => (hs.a g_m_gds rfl j).1).trans n_gds
  replace n_szd : h_867.2.1 m_szd = F_szd := (funext fun j => (hs.a g_m_szd rfl j).1).trans n_szd
  replace n_srv : h_867.2.1 m_srv = F_srv := (funext fun j => (hs.a g_m_srv rfl j).1).trans n_srv
  replace n_p0 : h_867.2.1 m_p0 = F_p0 := (funext fun j => (hs.a g_m_p0 rfl j).1).trans n_p0
  replace n_y_p0 : h_867.2.1 y_p0 = F_p0 := (funext fun j => (hs.a g_y_p0 rfl j).1).trans n_y_p0
  replace n_p1 : h_867.2.1 m_p1 = F_p1 := (funext fun j => (hs.a g_m_p1 rfl j).1).trans n_p1
  replace n_y_p1 : h_867.2.1 y_p1 = F_p1 := (funext fun j => (hs.a g_y_p1 rfl j).1).trans n_y_p1
  replace n_p2 : h_867.2.1 m_p2 = F_p2 := (funext fun j => (hs.a g_m_p2 rfl j).1).trans n_p2
  replace n_y_p2 : h_867.2.1 y_p2 = F_p2 := (funext fun j => (hs.a g_y_p2 rfl j).1).trans n_y_p2
  replace n_p3 : h_867.2.1 m_p3 = F_p3 := (funext fun j => (hs.a g_m_p3 rfl j).1).trans n_p3
  replace n_y_p3 : h_867.2.1 y_p3 = F_p3 := (funext fun j => (hs.a g_y_p3 rfl j).1).trans n_y_p3
  replace n_p4 : h_867.2.1 m_p4 = F_p4 := (funext fun j => (hs.a g_m_p4 rfl j).1).trans n_p4
  replace n_y_p4 : h_867.2.1 y_p4 = F_p4 := (funext fun j => (hs.a g_y_p4 rfl j).1).trans n_y_p4
  replace n_y_ls : h_867.2.1 y_ls = F_y_ls := (funext fun j => (hs.a g_y_ls rfl j).1).trans n_y_ls
  replace n_m_rl : h_867.2.1 m_rl = F_m_rl := (funext fun j => (hs.a g_m_rl rfl j).1).trans n_m_rl
  replace gx := gx.S hs
  replace gm := gm.S hs
  replace g_qa := g_qa.S hs
  replace g_qp := g_qp.S hs
  replace g_qc := g_qc.S hs
  replace g_qh := g_qh.S hs
  replace g_qw := g_qw.S hs
  replace g_ql := g_ql.S hs
  replace g_mw := g_mw.S hs
  replace g_mr := g_mr.S hs
  replace g_mp := g_mp.S hs
  replace g_mn := g_mn.S hs
  replace g_ml := g_ml.S hs
  replace g_mh := g_mh.S hs
  replace g_mt := g_mt.S hs
  replace g_m_fou := g_m_fou.S hs
  replace g_qo_ln := g_qo_ln.S hs
  replace g_qo_py := g_qo_py.S hs
  replace g_b_of := g_b_of.S hs
  replace g_m_of := g_m_of.S hs
  replace g_b_wf := g_b_wf.S hs
  replace g_m_wf := g_m_wf.S hs
  replace g_b_df := g_b_df.S hs
  replace g_m_df := g_m_df.S hs
  replace g_b_kf := g_b_kf.S hs
  replace g_m_kf := g_m_kf.S hs
  replace g_b_sf := g_b_sf.S hs
  replace g_m_sf := g_m_sf.S hs
  replace g_b_bf := g_b_bf.S hs
  replace g_m_lst := g_m_lst.S hs
  replace g_qtp := g_qtp.S hs
  replace g_m_tp := g_m_tp.S hs
  replace g_m_dead := g_m_dead.S hs
  replace g_m_isj := g_m_isj.S hs
  replace g_m_dox := g_m_dox.S hs
  replace g_m_doy := g_m_doy.S hs
  replace g_qlt := g_qlt.S hs
  replace g_qlf := g_qlf.S hs
  replace g_m_wkd := g_m_wkd.S hs
  replace g_m_aga := g_m_aga.S hs
  replace g_qwo := g_qwo.S hs
  replace g_m_ad := g_m_ad.S hs
  replace g_m_by := g_m_by.S hs
  replace g_m_ho := g_m_ho.S hs
  replace g_m_fc := g_m_fc.S hs
  replace g_m_nt := g_m_nt.S hs
  replace g_m_wt := g_m_wt.S hs
  replace g_m_be := g_m_be.S hs
  replace g_m_bor := g_m_bor.S hs
  replace g_m_kin := g_m_kin.S hs
  replace g_m_sum := g_m_sum.S hs
  replace g_m_fro := g_m_fro.S hs
  replace g_m_fil := g_m_fil.S hs
  replace g_m_jud := g_m_jud.S hs
  replace g_m_ear := g_m_ear.S hs
  replace g_m_hds := g_m_hds.S hs
  replace g_m_ord := g_m_ord.S hs
  replace g_m_wkl := g_m_wkl.S hs
  replace g_m_owd := g_m_owd.S hs
  replace g_m_gds := g_m_gds.S hs
  replace g_m_szd := g_m_szd.S hs
  replace g_m_srv := g_m_srv.S hs
  replace g_y_p0 := g_y_p0.S hs
  replace g_m_p0 := g_m_p0.S hs
  replace g_y_p1 := g_y_p1.S hs
  replace g_m_p1 := g_m_p1.S hs
  replace g_y_p2 := g_y_p2.S hs
  replace g_m_p2 := g_m_p2.S hs
  replace g_y_p3 := g_y_p3.S hs
  replace g_m_p3 := g_m_p3.S hs
  replace g_y_p4 := g_y_p4.S hs
  replace g_m_p4 := g_m_p4.S hs
  replace g_qrg9 := g_qrg9.S hs
  replace g_y_ls := g_y_ls.S hs
  replace g_m_rl := g_m_rl.S hs
  refine lv_pop hx hb dL_law_1286 rfl ?_
  refine lv_goto (tgt := 1379) hx hb dL_law_1287 ?o30 ?_
  case o30 => decide
  have heq := hw_wd eb_wkd hr_863 hr_870
  refine W.widen (k := CC + 3) (n := SS + 179) ?o31 ?o32 ?_
  case o31 => omega
  case o32 => omega
  refine kk L_866 h_867 H locs ls hW ⟨hT, gx, gm, ⟨f_x_now.trans f_m_now.symm, f_x_personCount.trans f_m_persons.symm, f_x_claimCount.trans f_m_claims.symm, f_x_tapeLength.trans f_m_taped.symm, f_x_actCount.trans f_m_acts.symm, f_x_heardCount.trans f_m_heardMany.symm, hx_ob f_qo_ln (f_o_ln.trans f_m_lines.symm), hx_ob f_qw (f_o_lsd.trans f_m_listed.symm), hx_ob f_qw (f_o_wkm.trans f_m_walkedMany.symm), hx_ob f_qo_py (f_o_py.trans f_m_payments.symm), hx_ob f_qp ?o33, hx_ob f_qc ?o34, (fun b a r hb ha hr => ?o35), (fun b a r hb ha hr => ?o36), (fun b a r hb ha hr => ?o37), (fun b a r hb ha hr => ?o38), (fun b a r hb ha hr => ?o39), (fun b a r hb ha hr => ?o40), (fun w q c hw hq hc => ?o41), (fun w q r hw hq hr => ?o42), (fun w q r hw hq hr => ?o43), (fun c q a hc hq ha => ?o44), (fun q r hq hr => ?o45), (fun q w a b c d e p hq hw ha hb hc hd he hp => ?o46), (fun c q a hc hq ha => ?o47), (fun q c a hq hc ha => ?o48), (fun a b ha hb => ?o49), (fun c a b d e f hc ha hb hd he hf => ?o50), (fun c a hc ha => ?o51), hx_ob2 f_qp f_m_bor (cl_bor.trans n_bor.symm), hx_ob2 f_qp f_m_kin (cl_kin.trans n_kin.symm), hx_ob2 f_qc f_m_sum (cl_sum.trans n_sum.symm), hx_ob2 f_qc f_m_fro (cl_fro.trans n_fro.symm), hx_ob2 f_qc f_m_fil (cl_fil.trans n_fil.symm), hx_ob2 f_qc f_mh (cl_hea.trans n_mh.symm), hx_ob2 f_qc f_m_jud (cl_jud.trans n_jud.symm), hx_ob2 f_qp f_m_ear (cl_ear.trans n_ear.symm), hx_ob2 f_qp f_m_hds (cl_hds.trans n_hds.symm), hx_ob2 f_qc f_m_ord (cl_ord.trans n_ord.symm), hx_ob2 f_qc f_m_wkl (cl_wkl.trans n_wkl.symm), hx_ob2 f_qc f_m_owd (cl_owd.trans n_owd.symm), hx_ob2 f_qc f_m_gds (cl_gds.trans n_gds.symm), hx_ob2 f_qc f_m_szd (cl_szd.trans n_szd.symm), hx_ob2 f_qc f_m_srv (cl_srv.trans n_srv.symm), (fun p q r hp hq hr => ?o52), (fun p q r hp hq hr => ?o53), (fun p q r hp hq hr => ?o54), (fun p q r hp hq hr => ?o55), (fun p q r hp hq hr => ?o56), (fun p hp => ?o57), (fun p q r hp hq hr => ?o58), hx_ob2 f_qp f_m_dead ?o59, hx_ob2 f_qp f_m_isj ?o60, hx_ob2 f_qp f_m_dox ?o61, hx_ob2 f_qp f_m_doy ?o62, hx_ob2 f_qc f_m_fou ?o63, hx_ob2 f_qc f_mt ?o64, trivial⟩, ⟨hx_ob f_qa pf_qa, hx_ob f_qp pf_qp, hx_ob f_qc pf_qc, hx_ob f_qh pf_qh, (fun w q hw hq => ?o65)⟩, ⟨hx_ob f_mw ?o66, hx_ob f_mr ?o67, hx_ob2 f_mp f_mn ?o68, hx_ob f_ml ?o69, hx_ob f_mh ?o70, hx_ob f_mt ?o71, hx_ob2 f_mh f_m_fou ?o73⟩⟩ hl
  case o33 =>
    rw [f_x_personCount]
    exact nu_qp
  case o34 =>
    rw [f_x_claimCount]
    exact nu_qc
  case o35 =>
    obtain rfl : qo_ln = b := Option.some.inj (f_qo_ln.symm.trans hb)
    obtain rfl : b_of = a := Option.some.inj (f_b_of.symm.trans ha)
    obtain rfl : m_of = r := Option.some.inj (f_m_of.symm.trans hr)
    rw [n_b_of, n_m_of, f_o_ln]
    exact eb_of
  case o36 =>
    obtain rfl : qo_ln = b := Option.some.inj (f_qo_ln.symm.trans hb)
    obtain rfl : b_wf = a := Option.some.inj (f_b_wf.symm.trans ha)
    obtain rfl : m_wf = r := Option.some.inj (f_m_wf.symm.trans hr)
    rw [n_b_wf, n_m_wf, f_o_ln]
    exact eb_wf
  case o37 =>
    obtain rfl : qo_ln = b := Option.some.inj (f_qo_ln.symm.trans hb)
    obtain rfl : b_df = a := Option.some.inj (f_b_df.symm.trans ha)
    obtain rfl : m_df = r := Option.some.inj (f_m_df.symm.trans hr)
    rw [n_b_df, n_m_df, f_o_ln]
    exact eb_df
  case o38 =>
    obtain rfl : qo_ln = b := Option.some.inj (f_qo_ln.symm.trans hb)
    obtain rfl : b_kf = a := Option.some.inj (f_b_kf.symm.trans ha)
    obtain rfl : m_kf = r := Option.some.inj (f_m_kf.symm.trans hr)
    rw [n_b_kf, n_m_kf, f_o_ln]
    exact eb_kf
  case o39 =>
    obtain rfl : qo_ln = b := Option.some.inj (f_qo_ln.symm.trans hb)
    obtain rfl : b_sf = a := Option.some.inj (f_b_sf.symm.trans ha)
    obtain rfl : m_sf = r := Option.some.inj (f_m_sf.symm.trans hr)
    rw [n_b_sf, n_m_sf, f_o_ln]
    exact eb_sf
  case o40 =>
    obtain rfl : qo_ln = b := Option.some.inj (f_qo_ln.symm.trans hb)
    obtain rfl : b_df = a := Option.some.inj (f_b_df.symm.trans ha)
    obtain rfl : b_bf = r := Option.some.inj (f_b_bf.symm.trans hr)
    rw [n_b_df, n_b_bf, f_o_ln]
    exact ⟨hBD, hDY⟩
  case o41 =>
    obtain rfl : qw = w := Option.some.inj (f_qw.symm.trans hw)
    obtain rfl : ql = q := Option.some.inj (f_ql.symm.trans hq)
    obtain rfl : qc = c := Option.some.inj (f_qc.symm.trans hc)
    exact sb_list
  case o42 =>
    obtain rfl : qw = w := Option.some.inj (f_qw.symm.trans hw)
    obtain rfl : ql = q := Option.some.inj (f_ql.symm.trans hq)
    obtain rfl : m_lst = r := Option.some.inj (f_m_lst.symm.trans hr)
    rw [cl_lst, n_lst]
    exact eq_lst
  case o43 =>
    obtain rfl : qw = w := Option.some.inj (f_qw.symm.trans hw)
    obtain rfl : qlt = q := Option.some.inj (f_qlt.symm.trans hq)
    obtain rfl : m_wkd = r := Option.some.inj (f_m_wkd.symm.trans hr)
    rw [n_qlt, n_m_wkd, f_o_wkm]
    exact eb_wkd
  case o44 =>
    obtain rfl : qc = c := Option.some.inj (f_qc.symm.trans hc)
    obtain rfl : qp = q := Option.some.inj (f_qp.symm.trans hq)
    obtain rfl : m_aga = a := Option.some.inj (f_m_aga.symm.trans ha)
    rw [n_aga, f_x_claimCount]
    exact hw_DF_e hDF rfl rfl
  case o45 =>
    obtain rfl : qtp = q := Option.some.inj (f_qtp.symm.trans hq)
    obtain rfl : m_tp = r := Option.some.inj (f_m_tp.symm.trans hr)
    exact n_qtp.trans n_tp.symm
  case o46 =>
    obtain rfl : qa = q := Option.some.inj (f_qa.symm.trans hq)
    obtain rfl : qwo = w := Option.some.inj (f_qwo.symm.trans hw)
    obtain rfl : m_ad = a := Option.some.inj (f_m_ad.symm.trans ha)
    obtain rfl : mr = b := Option.some.inj (f_mr.symm.trans hb)
    obtain rfl : mn = c := Option.some.inj (f_mn.symm.trans hc)
    obtain rfl : mp = d := Option.some.inj (f_mp.symm.trans hd)
    obtain rfl : qc = e := Option.some.inj (f_qc.symm.trans he)
    obtain rfl : ml = p := Option.some.inj (f_ml.symm.trans hp)
    exact ⟨_, by rw [f_x_actCount]; exact hRA9, by rw [f_x_actCount, n_ad, n_mr, n_mn, n_mp]; exact hCA9, by rw [n_ml, f_x_claimCount]; exact hv_AC_e hAC9 rfl rfl rfl, hAB⟩
  case o47 =>
    obtain rfl : qc = c := Option.some.inj (f_qc.symm.trans hc)
    obtain rfl : qp = q := Option.some.inj (f_qp.symm.trans hq)
    obtain rfl : m_by = a := Option.some.inj (f_m_by.symm.trans ha)
    rw [n_by, f_x_claimCount]
    exact hw_DF_e hDP rfl rfl
  case o48 =>
    obtain rfl : qh = q := Option.some.inj (f_qh.symm.trans hq)
    obtain rfl : qc = c := Option.some.inj (f_qc.symm.trans hc)
    obtain rfl : m_ho = a := Option.some.inj (f_m_ho.symm.trans ha)
    rw [n_ho, f_x_heardCount, f_x_claimCount]
    exact hv_HL_e hHL rfl rfl rfl
  case o49 =>
    obtain rfl : m_ho = a := Option.some.inj (f_m_ho.symm.trans ha)
    obtain rfl : mh = b := Option.some.inj (f_mh.symm.trans hb)
    rw [n_ho, n_mh, f_m_heardMany, f_m_claims]
    exact hHO9
  case o50 =>
    obtain rfl : qc = c := Option.some.inj (f_qc.symm.trans hc)
    obtain rfl : m_fc = a := Option.some.inj (f_m_fc.symm.trans ha)
    obtain rfl : m_nt = b := Option.some.inj (f_m_nt.symm.trans hb)
    obtain rfl : m_wt = d := Option.some.inj (f_m_wt.symm.trans hd)
    obtain rfl : m_sum = e := Option.some.inj (f_m_sum.symm.trans he)
    obtain rfl : mh = f := Option.some.inj (f_mh.symm.trans hf)
    exact ⟨cF9L, by rw [f_x_claimCount]; exact hFX, by rw [n_fc, n_nt, n_wt, n_sum, n_mh, f_x_claimCount]; exact hFR9⟩
  case o51 =>
    obtain rfl : qc = c := Option.some.inj (f_qc.symm.trans hc)
    obtain rfl : m_be = a := Option.some.inj (f_m_be.symm.trans ha)
    rw [n_be, f_x_claimCount]
    exact hv_FX_e hBX rfl rfl
  case o52 =>
    obtain rfl : qo_py = p := Option.some.inj (f_qo_py.symm.trans hp)
    obtain rfl : y_p0 = q := Option.some.inj (f_y_p0.symm.trans hq)
    obtain rfl : m_p0 = r := Option.some.inj (f_m_p0.symm.trans hr)
    exact n_y_p0.trans n_p0.symm
  case o53 =>
    obtain rfl : qo_py = p := Option.some.inj (f_qo_py.symm.trans hp)
    obtain rfl : y_p1 = q := Option.some.inj (f_y_p1.symm.trans hq)
    obtain rfl : m_p1 = r := Option.some.inj (f_m_p1.symm.trans hr)
    exact n_y_p1.trans n_p1.symm
  case o54 =>
    obtain rfl : qo_py = p := Option.some.inj (f_qo_py.symm.trans hp)
    obtain rfl : y_p2 = q := Option.some.inj (f_y_p2.symm.trans hq)
    obtain rfl : m_p2 = r := Option.some.inj (f_m_p2.symm.trans hr)
    exact n_y_p2.trans n_p2.symm
  case o55 =>
    obtain rfl : qo_py = p := Option.some.inj (f_qo_py.symm.trans hp)
    obtain rfl : y_p3 = q := Option.some.inj (f_y_p3.symm.trans hq)
    obtain rfl : m_p3 = r := Option.some.inj (f_m_p3.symm.trans hr)
    exact n_y_p3.trans n_p3.symm
  case o56 =>
    obtain rfl : qo_py = p := Option.some.inj (f_qo_py.symm.trans hp)
    obtain rfl : y_p4 = q := Option.some.inj (f_y_p4.symm.trans hq)
    obtain rfl : m_p4 = r := Option.some.inj (f_m_p4.symm.trans hr)
    exact n_y_p4.trans n_p4.symm
  case o57 =>
    obtain rfl : qrg9 = p := Option.some.inj (f_qrg9.symm.trans hp)
    rw [ffv_853, ffv_854, ffv_855]
    exact hNQ9
  case o58 =>
    obtain rfl : qrg9 = p := Option.some.inj (f_qrg9.symm.trans hp)
    obtain rfl : y_ls = q := Option.some.inj (f_y_ls.symm.trans hq)
    obtain rfl : m_rl = r := Option.some.inj (f_m_rl.symm.trans hr)
    rw [n_y_ls, n_m_rl, ffv_853]
    exact hRL9
  case o59 =>
    rw [cl_dead, n_dead]
    exact eq_dead
  case o60 =>
    rw [cl_isj, n_isj]
    exact eq_isj
  case o61 =>
    rw [cl_dox, n_dox]
    exact eq_dox
  case o62 =>
    rw [cl_doy, n_doy]
    exact eq_doy
  case o63 =>
    rw [cl_fou, n_m_fou]
    exact eq_fou
  case o64 =>
    rw [cl_tri, n_mt]
    exact eq_tri
  case o65 =>
    obtain rfl : qw = w := Option.some.inj (f_qw.symm.trans hw)
    obtain rfl : ql = q := Option.some.inj (f_ql.symm.trans hq)
    exact pf_ql
  case o66 =>
    rw [n_mw]
    exact hwd
  case o67 =>
    rw [n_mr, f_m_acts]
    exact hWK
  case o68 =>
    rw [n_mp, n_mn, f_m_acts]
    exact hRP
  case o69 =>
    rw [n_ml, f_m_claims, f_m_acts]
    exact hPL
  case o70 =>
    rw [n_mh, f_m_heardMany, f_m_claims]
    exact hHC
  case o71 =>
    rw [n_mt]
    refine (hx_TR_le hTR ?o72)
    case o72 => omega
  case o73 =>
    rw [n_mh, n_m_fou, f_m_claims]
    exact hHF

set_option maxHeartbeats 4000000 in
set_option maxRecDepth 100000 in
theorem law_case_28 {p : Program} {e : Env} {s : State} {m : MethodId} {below : List Frame} {meth : Method} {c : Code} (l : Launch) {b LN : Nat} {xs : Nat → Int32} (hx : p.tables.exec = Jvm.exec) (hb : c.code = code) (hr : meth.sig.returnType = ret) (hlocks : meth.locks = false) (hml : c.maxLocals = 4) (hown : s.vm.findClass "SmallCourtLaw" = some m.cls) (hts : ∀ w ∈ hx_all, w.before #[Value.ref b] s = true) (hX : va_X b LN xs s s.heap) (hbl : b < s.heap.size) (hbA : ¬ s.heap.size ≤ b) (hLN : LN ≤ 3584) (dC : Nat → ClassId) (dI : Nat → Nat → Nat) (dA : Nat → ClassId) (b0 : hx_z) (ax am : Nat) (T1 : Int) (hT0 : 0 ≤ T1) (hT1 : T1 ≤ 511) (i : Int32) (hi0 : 0 ≤ i.toInt) (hiL : i.toInt + 7 ≤ LN) (CC SS : Nat) (hCC : CC + 3 ≤ 600000) (hSS : SS + 179 ≤ 7302250) (L1 : List Nat) (hl1 : hx_h) (H : Heap) (locs : List Loc) (ls : Array Slot) (hW : hx_W T_tb (P_ty dA) (dC, dI) vwCl (fun q : Nat => s.heap.size ≤ q) s.heap L1 hl1 s H locs) (hZ : hx_Xt (fun q : Nat => s.heap.size ≤ q) b0 s) (hI : hx_IV T1 ax am L1 hl1) (hl : lv_has ls 4 [(3, .int i), (2, .ref am), (1, .ref ax), (0, .ref b)]) (kk : ∀ (L2 : List Nat) (h2 : hx_h) (H2 : Heap) (locs2 : List Loc) (ls2 : Array Slot), hx_W T_tb (P_ty dA) (dC, dI) vwCl (fun q : Nat => s.heap.size ≤ q) s.heap L2 h2 s H2 locs2 → hx_IV (T1 + 1) ax am L2 h2 → lv_has ls2 4 [(3, .int i), (2, .ref am), (1, .ref ax), (0, .ref b)] → W p l e room_1 s m #[Value.ref b] below meth c H2 locs2 (CC + 3) (SS + 179) (lw_Z below #[Value.ref b] s) (F0 m 1379 ls2 [])) : W p l e room_1 s m #[Value.ref b] below meth c H locs CC SS (lw_Z below #[Value.ref b] s) (F0 m 1290 ls []) := by
  have hI9 := hI
  have hT := hI9.1
  replace hI9 := hI9.2
  have gx := hI9.1
  replace hI9 := hI9.2
  have gm := hI9.1
  replace hI9 := hI9.2
  have zq0_3 := hI9.1
  have he_nw := zq0_3.1
  replace zq0_3 := zq0_3.2
  have he_np := zq0_3.1
  replace zq0_3 := zq0_3.2
  have he_c0 := zq0_3.1
  replace zq0_3 := zq0_3.2
  have he_tl := zq0_3.1
  replace zq0_3 := zq0_3.2
  have he_a0 := zq0_3.1
  replace zq0_3 := zq0_3.2
  have he_m0 := zq0_3.1
  replace zq0_3 := zq0_3.2
  have ho_ln := zq0_3.1
  replace zq0_3 := zq0_3.2
  have ho_lsd := zq0_3.1
  replace zq0_3 := zq0_3.2
  have ho_wkm := zq0_3.1
  replace zq0_3 := zq0_3.2
  have ho_py := zq0_3.1
  replace zq0_3 := zq0_3.2
  have hn_qp := zq0_3.1
  replace zq0_3 := zq0_3.2
  have hn_qc := zq0_3.1
  replace zq0_3 := zq0_3.2
  have hk_of := zq0_3.1
  replace zq0_3 := zq0_3.2
  have hk_wf := zq0_3.1
  replace zq0_3 := zq0_3.2
  have hk_df := zq0_3.1
  replace zq0_3 := zq0_3.2
  have hk_kf := zq0_3.1
  replace zq0_3 := zq0_3.2
  have hk_sf := zq0_3.1
  replace zq0_3 := zq0_3.2
  have hkBD := zq0_3.1
  replace zq0_3 := zq0_3.2
  have hLQ := zq0_3.1
  replace zq0_3 := zq0_3.2
  have hLE := zq0_3.1
  replace zq0_3 := zq0_3.2
  have hkWD := zq0_3.1
  replace zq0_3 := zq0_3.2
  have hkDF := zq0_3.1
  replace zq0_3 := zq0_3.2
  have hkTP := zq0_3.1
  replace zq0_3 := zq0_3.2
  have hkAC := zq0_3.1
  replace zq0_3 := zq0_3.2
  have hkDP := zq0_3.1
  replace zq0_3 := zq0_3.2
  have hkHL := zq0_3.1
  replace zq0_3 := zq0_3.2
  have hkHO := zq0_3.1
  replace zq0_3 := zq0_3.2
  have hkFX := zq0_3.1
  replace zq0_3 := zq0_3.2
  have hkBX := zq0_3.1
  replace zq0_3 := zq0_3.2
  have hf_bor := zq0_3.1
  replace zq0_3 := zq0_3.2
  have hf_kin := zq0_3.1
  replace zq0_3 := zq0_3.2
  have hf_sum := zq0_3.1
  replace zq0_3 := zq0_3.2
  have hf_fro := zq0_3.1
  replace zq0_3 := zq0_3.2
  have hf_fil := zq0_3.1
  replace zq0_3 := zq0_3.2
  have hf_hea := zq0_3.1
  replace zq0_3 := zq0_3.2
  have hf_jud := zq0_3.1
  replace zq0_3 := zq0_3.2
  have hf_ear := zq0_3.1
  replace zq0_3 := zq0_3.2
  have hf_hds := zq0_3.1
  replace zq0_3 := zq0_3.2
  have hf_ord := zq0_3.1
  replace zq0_3 := zq0_3.2
  have hf_wkl := zq0_3.1
  replace zq0_3 := zq0_3.2
  have hf_owd := zq0_3.1
  replace zq0_3 := zq0_3.2
  have hf_gds := zq0_3.1
  replace zq0_3 := zq0_3.2
  have hf_szd := zq0_3.1
  replace zq0_3 := zq0_3.2
  have hf_srv := zq0_3.1
  replace zq0_3 := zq0_3.2
  have hkP0 := zq0_3.1
  replace zq0_3 := zq0_3.2
  have hkP1 := zq0_3.1
  replace zq0_3 := zq0_3.2
  have hkP2 := zq0_3.1
  replace zq0_3 := zq0_3.2
  have hkP3 := zq0_3.1
  replace zq0_3 := zq0_3.2
  have hkP4 := zq0_3.1
  replace zq0_3 := zq0_3.2
  have hkNQ := zq0_3.1
  replace zq0_3 := zq0_3.2
  have hkRL := zq0_3.1
  replace zq0_3 := zq0_3.2
  have hc_dead := zq0_3.1
  replace zq0_3 := zq0_3.2
  have hc_isj := zq0_3.1
  replace zq0_3 := zq0_3.2
  have hc_dox := zq0_3.1
  replace zq0_3 := zq0_3.2
  have hc_doy := zq0_3.1
  replace zq0_3 := zq0_3.2
  have hc_fou := zq0_3.1
  replace zq0_3 := zq0_3.2
  have hc_tri := zq0_3.1
  replace zq0_3 := zq0_3.2
  replace hI9 := hI9.2
  have zq0_4 := hI9.1
  have ia := zq0_4.1
  replace zq0_4 := zq0_4.2
  have ip := zq0_4.1
  replace zq0_4 := zq0_4.2
  have ic := zq0_4.1
  replace zq0_4 := zq0_4.2
  have ih := zq0_4.1
  replace zq0_4 := zq0_4.2
  have il := zq0_4
  replace hI9 := hI9.2
  have zq0_5 := hI9
  have jw := zq0_5.1
  replace zq0_5 := zq0_5.2
  have jr := zq0_5.1
  replace zq0_5 := zq0_5.2
  have jp := zq0_5.1
  replace zq0_5 := zq0_5.2
  have jl := zq0_5.1
  replace zq0_5 := zq0_5.2
  have jh := zq0_5.1
  replace zq0_5 := zq0_5.2
  have jt := zq0_5.1
  replace zq0_5 := zq0_5.2
  have jf := zq0_5
  obtain ⟨qa, f_qa, g_qa⟩ := hx_rf hT gx tt_9 (k := 5) (u := 43) rfl
  have pf_qa := ia qa f_qa
  obtain ⟨qp, f_qp, g_qp⟩ := hx_rf hT gx tt_9 (k := 7) (u := 44) rfl
  have pf_qp := ip qp f_qp
  obtain ⟨qc, f_qc, g_qc⟩ := hx_rf hT gx tt_9 (k := 10) (u := 45) rfl
  have pf_qc := ic qc f_qc
  obtain ⟨qh, f_qh, g_qh⟩ := hx_rf hT gx tt_9 (k := 12) (u := 46) rfl
  have pf_qh := ih qh f_qh
  obtain ⟨qw, f_qw, g_qw⟩ := hx_rf hT gx tt_9 (k := 19) (u := 8) rfl
  obtain ⟨ql, f_ql, g_ql⟩ := hx_rf hT g_qw tt_8 (k := 3) (u := 40) rfl
  have pf_ql := il qw ql f_qw f_ql
  obtain ⟨nw, f_m_now⟩ : ∃ y : Int32, hl1.2.1 am 0 = y := ⟨_, rfl⟩
  have b_nw := hT.gi gm tt_10 (k := 0) rfl
  rw [f_m_now] at b_nw
  have b_nw : 0 ≤ nw.toInt ∧ nw.toInt ≤ 7999 := b_nw
  obtain ⟨np, f_m_persons⟩ : ∃ y : Int32, hl1.2.1 am 20 = y := ⟨_, rfl⟩
  have b_np := hT.gi gm tt_10 (k := 20) rfl
  rw [f_m_persons] at b_np
  have b_np : 0 ≤ np.toInt ∧ np.toInt ≤ 40 := b_np
  obtain ⟨c0, f_m_claims⟩ : ∃ y : Int32, hl1.2.1 am 36 = y := ⟨_, rfl⟩
  have b_c0 := hT.gi gm tt_10 (k := 36) rfl
  rw [f_m_claims] at b_c0
  have b_c0 : 0 ≤ c0.toInt ∧ c0.toInt ≤ 100 := b_c0
  obtain ⟨tl, f_m_taped⟩ : ∃ y : Int32, hl1.2.1 am 7 = y := ⟨_, rfl⟩
  have b_tl := hT.gi gm tt_10 (k := 7) rfl
  rw [f_m_taped] at b_tl
  have b_tl : 0 ≤ tl.toInt ∧ tl.toInt ≤ 400 := b_tl
  obtain ⟨a0, f_m_acts⟩ : ∃ y : Int32, hl1.2.1 am 1 = y := ⟨_, rfl⟩
  have b_a0 := hT.gi gm tt_10 (k := 1) rfl
  rw [f_m_acts] at b_a0
  have b_a0 : 0 ≤ a0.toInt ∧ a0.toInt ≤ 8 := b_a0
  obtain ⟨m0, f_m_heardMany⟩ : ∃ y : Int32, hl1.2.1 am 57 = y := ⟨_, rfl⟩
  have b_m0 := hT.gi gm tt_10 (k := 57) rfl
  rw [f_m_heardMany] at b_m0
  have b_m0 : 0 ≤ m0.toInt ∧ m0.toInt ≤ 100 := b_m0
  obtain ⟨ln, f_m_lines⟩ : ∃ y : Int32, hl1.2.1 am 29 = y := ⟨_, rfl⟩
  have b_ln := hT.gi gm tt_10 (k := 29) rfl
  rw [f_m_lines] at b_ln
  have b_ln : 0 ≤ ln.toInt ∧ ln.toInt ≤ 400 := b_ln
  obtain ⟨lsd, f_m_listed⟩ : ∃ y : Int32, hl1.2.1 am 90 = y := ⟨_, rfl⟩
  have b_lsd := hT.gi gm tt_10 (k := 90) rfl
  rw [f_m_listed] at b_lsd
  have b_lsd : 0 ≤ lsd.toInt ∧ lsd.toInt ≤ 8 := b_lsd
  obtain ⟨wkm, f_m_walkedMany⟩ : ∃ y : Int32, hl1.2.1 am 92 = y := ⟨_, rfl⟩
  have b_wkm := hT.gi gm tt_10 (k := 92) rfl
  rw [f_m_walkedMany] at b_wkm
  have b_wkm : 0 ≤ wkm.toInt ∧ wkm.toInt ≤ 8 := b_wkm
  obtain ⟨py, f_m_payments⟩ : ∃ y : Int32, hl1.2.1 am 59 = y := ⟨_, rfl⟩
  have b_py := hT.gi gm tt_10 (k := 59) rfl
  rw [f_m_payments] at b_py
  have b_py : 0 ≤ py.toInt ∧ py.toInt ≤ 600 := b_py
  have f_x_now : hl1.2.1 ax 2 = nw := he_nw.trans f_m_now
  have f_x_personCount : hl1.2.1 ax 8 = np := he_np.trans f_m_persons
  have f_x_claimCount : hl1.2.1 ax 11 = c0 := he_c0.trans f_m_claims
  have f_x_tapeLength : hl1.2.1 ax 1 = tl := he_tl.trans f_m_taped
  have f_x_actCount : hl1.2.1 ax 6 = a0 := he_a0.trans f_m_acts
  have f_x_heardCount : hl1.2.1 ax 13 = m0 := he_m0.trans f_m_heardMany
  obtain ⟨mw, f_mw, g_mw⟩ := hx_rf hT gm tt_10 (k := 19) (u := 57) rfl
  obtain ⟨F_mw, n_mw⟩ : ∃ g : Nat → Int32, hl1.2.1 mw = g := ⟨_, rfl⟩
  obtain ⟨mr, f_mr, g_mr⟩ := hx_rf hT gm tt_10 (k := 3) (u := 50) rfl
  obtain ⟨F_mr, n_mr⟩ : ∃ g : Nat → Int32, hl1.2.1 mr = g := ⟨_, rfl⟩
  obtain ⟨mp, f_mp, g_mp⟩ := hx_rf hT gm tt_10 (k := 5) (u := 52) rfl
  obtain ⟨F_mp, n_mp⟩ : ∃ g : Nat → Int32, hl1.2.1 mp = g := ⟨_, rfl⟩
  obtain ⟨mn, f_mn, g_mn⟩ := hx_rf hT gm tt_10 (k := 4) (u := 51) rfl
  obtain ⟨F_mn, n_mn⟩ : ∃ g : Nat → Int32, hl1.2.1 mn = g := ⟨_, rfl⟩
  obtain ⟨ml, f_ml, g_ml⟩ := hx_rf hT gm tt_10 (k := 44) (u := 79) rfl
  obtain ⟨F_ml, n_ml⟩ : ∃ g : Nat → Int32, hl1.2.1 ml = g := ⟨_, rfl⟩
  obtain ⟨mh, f_mh, g_mh⟩ := hx_rf hT gm tt_10 (k := 47) (u := 82) rfl
  obtain ⟨F_mh, n_mh⟩ : ∃ g : Nat → Int32, hl1.2.1 mh = g := ⟨_, rfl⟩
  obtain ⟨mt, f_mt, g_mt⟩ := hx_rf hT gm tt_10 (k := 45) (u := 80) rfl
  obtain ⟨F_mt, n_mt⟩ : ∃ g : Nat → Int32, hl1.2.1 mt = g := ⟨_, rfl⟩
  obtain ⟨m_fou, f_m_fou, g_m_fou⟩ := hx_rf hT gm tt_10 (k := 46) (u := 81) rfl
  obtain ⟨F_m_fou, n_m_fou⟩ : ∃ g : Nat → Int32, hl1.2.1 m_fou = g := ⟨_, rfl⟩
  obtain ⟨qo_ln, f_qo_ln, g_qo_ln⟩ := hx_rf hT gx tt_9 (k := 9) (u := 1) rfl
  have f_o_ln : hl1.2.1 qo_ln 0 = ln := (ho_ln qo_ln f_qo_ln).trans f_m_lines
  have f_o_lsd : hl1.2.1 qw 0 = lsd := (ho_lsd qw f_qw).trans f_m_listed
  have f_o_wkm : hl1.2.1 qw 1 = wkm := (ho_wkm qw f_qw).trans f_m_walkedMany
  obtain ⟨qo_py, f_qo_py, g_qo_py⟩ := hx_rf hT gx tt_9 (k := 14) (u := 3) rfl
  have f_o_py : hl1.2.1 qo_py 0 = py := (ho_py qo_py f_qo_py).trans f_m_payments
  have nu_qp := hn_qp qp f_qp; rw [f_x_personCount] at nu_qp
  have nu_qc := hn_qc qc f_qc; rw [f_x_claimCount] at nu_qc
  obtain ⟨b_of, f_b_of, g_b_of⟩ := hx_rf hT g_qo_ln tt_1 (k := 1) (u := 13) rfl
  obtain ⟨B_of, n_b_of⟩ : ∃ g : Nat → Int32, hl1.2.1 b_of = g := ⟨_, rfl⟩
  obtain ⟨m_of, f_m_of, g_m_of⟩ := hx_rf hT gm tt_10 (k := 30) (u := 66) rfl
  obtain ⟨F_of, n_m_of⟩ : ∃ g : Nat → Int32, hl1.2.1 m_of = g := ⟨_, rfl⟩
  have eb_of := hk_of qo_ln b_of m_of f_qo_ln f_b_of f_m_of; rw [n_b_of, n_m_of, f_o_ln] at eb_of
  obtain ⟨b_wf, f_b_wf, g_b_wf⟩ := hx_rf hT g_qo_ln tt_1 (k := 2) (u := 14) rfl
  obtain ⟨B_wf, n_b_wf⟩ : ∃ g : Nat → Int32, hl1.2.1 b_wf = g := ⟨_, rfl⟩
  obtain ⟨m_wf, f_m_wf, g_m_wf⟩ := hx_rf hT gm tt_10 (k := 31) (u := 67) rfl
  obtain ⟨F_wf, n_m_wf⟩ : ∃ g : Nat → Int32, hl1.2.1 m_wf = g := ⟨_, rfl⟩
  have eb_wf := hk_wf qo_ln b_wf m_wf f_qo_ln f_b_wf f_m_wf; rw [n_b_wf, n_m_wf, f_o_ln] at eb_wf
  obtain ⟨b_df, f_b_df, g_b_df⟩ := hx_rf hT g_qo_ln tt_1 (k := 3) (u := 15) rfl
  obtain ⟨B_df, n_b_df⟩ : ∃ g : Nat → Int32, hl1.2.1 b_df = g := ⟨_, rfl⟩
  obtain ⟨m_df, f_m_df, g_m_df⟩ := hx_rf hT gm tt_10 (k := 32) (u := 68) rfl
  obtain ⟨F_df, n_m_df⟩ : ∃ g : Nat → Int32, hl1.2.1 m_df = g := ⟨_, rfl⟩
  have eb_df := hk_df qo_ln b_df m_df f_qo_ln f_b_df f_m_df; rw [n_b_df, n_m_df, f_o_ln] at eb_df
  obtain ⟨b_kf, f_b_kf, g_b_kf⟩ := hx_rf hT g_qo_ln tt_1 (k := 4) (u := 16) rfl
  obtain ⟨B_kf, n_b_kf⟩ : ∃ g : Nat → Int32, hl1.2.1 b_kf = g := ⟨_, rfl⟩
  obtain ⟨m_kf, f_m_kf, g_m_kf⟩ := hx_rf hT gm tt_10 (k := 33) (u := 69) rfl
  obtain ⟨F_kf, n_m_kf⟩ : ∃ g : Nat → Int32, hl1.2.1 m_kf = g := ⟨_, rfl⟩
  have eb_kf := hk_kf qo_ln b_kf m_kf f_qo_ln f_b_kf f_m_kf; rw [n_b_kf, n_m_kf, f_o_ln] at eb_kf
  obtain ⟨b_sf, f_b_sf, g_b_sf⟩ := hx_rf hT g_qo_ln tt_1 (k := 5) (u := 17) rfl
  obtain ⟨B_sf, n_b_sf⟩ : ∃ g : Nat → Int32, hl1.2.1 b_sf = g := ⟨_, rfl⟩
  obtain ⟨m_sf, f_m_sf, g_m_sf⟩ := hx_rf hT gm tt_10 (k := 34) (u := 70) rfl
  obtain ⟨F_sf, n_m_sf⟩ : ∃ g : Nat → Int32, hl1.2.1 m_sf = g := ⟨_, rfl⟩
  have eb_sf := hk_sf qo_ln b_sf m_sf f_qo_ln f_b_sf f_m_sf; rw [n_b_sf, n_m_sf, f_o_ln] at eb_sf
  obtain ⟨b_bf, f_b_bf, g_b_bf⟩ := hx_rf hT g_qo_ln tt_1 (k := 6) (u := 18) rfl
  obtain ⟨bfL, n_b_bf⟩ : ∃ g : Nat → Int32, hl1.2.1 b_bf = g := ⟨_, rfl⟩
  obtain ⟨hBD, hDY⟩ := hkBD qo_ln b_df b_bf f_qo_ln f_b_df f_b_bf; rw [n_b_df, n_b_bf, f_o_ln] at hBD; rw [n_b_df, f_o_ln] at hDY
  have hBDm := hy_BD_c eb_df hBD
  have hDYm : hy_DY F_df ln.toInt.toNat := fun x hx => by rw [← eb_df x hx]; exact hDY x hx
  have sb_list := hLQ qw ql qc f_qw f_ql f_qc
  obtain ⟨m_lst, f_m_lst, g_m_lst⟩ := hx_rf hT gm tt_10 (k := 91) (u := 112) rfl
  obtain ⟨F_lst, n_lst⟩ : ∃ g : Nat → Int32, hl1.2.1 m_lst = g := ⟨_, rfl⟩
  obtain ⟨c_lst, cl_lst⟩ : ∃ g : Nat → Int32, hx_col 8 hl1 ql 0 = g := ⟨_, rfl⟩
  have eq_lst := hLE qw ql m_lst f_qw f_ql f_m_lst; rw [cl_lst, n_lst] at eq_lst
  obtain ⟨qtp, f_qtp, g_qtp⟩ := hx_rf hT gx tt_9 (k := 0) (u := 42) rfl
  obtain ⟨m_tp, f_m_tp, g_m_tp⟩ := hx_rf hT gm tt_10 (k := 6) (u := 53) rfl
  obtain ⟨F_tp, n_tp⟩ : ∃ g : Nat → Int32, hl1.2.1 m_tp = g := ⟨_, rfl⟩
  have n_qtp : hl1.2.1 qtp = F_tp := (hkTP qtp m_tp f_qtp f_m_tp).trans n_tp
  obtain ⟨c_dead, cl_dead⟩ : ∃ g : Nat → Int32, hx_col 40 hl1 qp 7 = g := ⟨_, rfl⟩
  obtain ⟨m_dead, f_m_dead, g_m_dead⟩ := hx_rf hT gm tt_10 (k := 27) (u := 64) rfl
  obtain ⟨F_dead, n_dead⟩ : ∃ g : Nat → Int32, hl1.2.1 m_dead = g := ⟨_, rfl⟩
  have eq_dead := hc_dead qp m_dead f_qp f_m_dead; rw [cl_dead, n_dead] at eq_dead
  have z_dead : np.toInt.toNat < 40 → c_dead np.toInt.toNat = 0 := fun hj => hx_num_z nu_qp cl_dead hj ?o0
  case o0 => omega
  obtain ⟨c_isj, cl_isj⟩ : ∃ g : Nat → Int32, hx_col 40 hl1 qp 8 = g := ⟨_, rfl⟩
  obtain ⟨m_isj, f_m_isj, g_m_isj⟩ := hx_rf hT gm tt_10 (k := 28) (u := 65) rfl
  obtain ⟨F_isj, n_isj⟩ : ∃ g : Nat → Int32, hl1.2.1 m_isj = g := ⟨_, rfl⟩
  have eq_isj := hc_isj qp m_isj f_qp f_m_isj; rw [cl_isj, n_isj] at eq_isj
  have z_isj : np.toInt.toNat < 40 → c_isj np.toInt.toNat = 0 := fun hj => hx_num_z nu_qp cl_isj hj ?o1
  case o1 => omega
  obtain ⟨c_dox, cl_dox⟩ : ∃ g : Nat → Int32, hx_col 40 hl1 qp 5 = g := ⟨_, rfl⟩
  obtain ⟨m_dox, f_m_dox, g_m_dox⟩ := hx_rf hT gm tt_10 (k := 24) (u := 61) rfl
  obtain ⟨F_dox, n_dox⟩ : ∃ g : Nat → Int32, hl1.2.1 m_dox = g := ⟨_, rfl⟩
  have eq_dox := hc_dox qp m_dox f_qp f_m_dox; rw [cl_dox, n_dox] at eq_dox
  have z_dox : np.toInt.toNat < 40 → c_dox np.toInt.toNat = 0 := fun hj => hx_num_z nu_qp cl_dox hj ?o2
  case o2 => omega
  obtain ⟨c_doy, cl_doy⟩ : ∃ g : Nat → Int32, hx_col 40 hl1 qp 6 = g := ⟨_, rfl⟩
  obtain ⟨m_doy, f_m_doy, g_m_doy⟩ := hx_rf hT gm tt_10 (k := 25) (u := 62) rfl
  obtain ⟨F_doy, n_doy⟩ : ∃ g : Nat → Int32, hl1.2.1 m_doy = g := ⟨_, rfl⟩
  have eq_doy := hc_doy qp m_doy f_qp f_m_doy; rw [cl_doy, n_doy] at eq_doy
  have z_doy : np.toInt.toNat < 40 → c_doy np.toInt.toNat = 0 := fun hj => hx_num_z nu_qp cl_doy hj ?o3
  case o3 => omega
  obtain ⟨c_fou, cl_fou⟩ : ∃ g : Nat → Int32, hx_col 100 hl1 qc 10 = g := ⟨_, rfl⟩
  have eq_fou := hc_fou qc m_fou f_qc f_m_fou; rw [cl_fou, n_m_fou] at eq_fou
  have z_fou : c0.toInt.toNat < 100 → c_fou c0.toInt.toNat = 0 := fun hj => hx_num_z nu_qc cl_fou hj ?o4
  case o4 => omega
  obtain ⟨c_tri, cl_tri⟩ : ∃ g : Nat → Int32, hx_col 100 hl1 qc 9 = g := ⟨_, rfl⟩
  have eq_tri := hc_tri qc mt f_qc f_mt; rw [cl_tri, n_mt] at eq_tri
  have z_tri : c0.toInt.toNat < 100 → c_tri c0.toInt.toNat = 0 := fun hj => hx_num_z nu_qc cl_tri hj ?o5
  case o5 => omega
  obtain ⟨qlt, f_qlt, g_qlt⟩ := hx_rf hT g_qw tt_8 (k := 2) (u := 39) rfl
  obtain ⟨qlf, f_qlf, g_qlf⟩ := hx_rf hT g_qw tt_8 (k := 4) (u := 41) rfl
  obtain ⟨m_wkd, f_m_wkd, g_m_wkd⟩ := hx_rf hT gm tt_10 (k := 93) (u := 113) rfl
  obtain ⟨F_qlt, n_qlt⟩ : ∃ g : Nat → Int32, hl1.2.1 qlt = g := ⟨_, rfl⟩
  obtain ⟨F_m_wkd, n_m_wkd⟩ : ∃ g : Nat → Int32, hl1.2.1 m_wkd = g := ⟨_, rfl⟩
  have eb_wkd := hkWD qw qlt m_wkd f_qw f_qlt f_m_wkd; rw [n_qlt, n_m_wkd, f_o_wkm] at eb_wkd
  obtain ⟨m_aga, f_m_aga, g_m_aga⟩ := hx_rf hT gm tt_10 (k := 38) (u := 73) rfl
  obtain ⟨F_aga, n_aga⟩ : ∃ g : Nat → Int32, hl1.2.1 m_aga = g := ⟨_, rfl⟩
  have hDF := hkDF qc qp m_aga f_qc f_qp f_m_aga; rw [n_aga, f_x_claimCount] at hDF
  obtain ⟨qwo, f_qwo, g_qwo⟩ := hx_rf hT gx tt_9 (k := 4) (u := 0) rfl
  obtain ⟨m_ad, f_m_ad, g_m_ad⟩ := hx_rf hT gm tt_10 (k := 2) (u := 49) rfl
  obtain ⟨F_ad, n_ad⟩ : ∃ g : Nat → Int32, hl1.2.1 m_ad = g := ⟨_, rfl⟩
  obtain ⟨A9, hRA9, hCA9, hAC9, hAB⟩ := hkAC qa qwo m_ad mr mn mp qc ml f_qa f_qwo f_m_ad f_mr f_mn f_mp f_qc f_ml
  rw [f_x_actCount] at hRA9; rw [f_x_actCount, n_ad, n_mr, n_mn, n_mp] at hCA9
  obtain ⟨m_by, f_m_by, g_m_by⟩ := hx_rf hT gm tt_10 (k := 37) (u := 72) rfl
  obtain ⟨F_by, n_by⟩ : ∃ g : Nat → Int32, hl1.2.1 m_by = g := ⟨_, rfl⟩
  obtain ⟨m_ho, f_m_ho, g_m_ho⟩ := hx_rf hT gm tt_10 (k := 58) (u := 92) rfl
  obtain ⟨F_ho, n_ho⟩ : ∃ g : Nat → Int32, hl1.2.1 m_ho = g := ⟨_, rfl⟩
  obtain ⟨m_fc, f_m_fc, g_m_fc⟩ := hx_rf hT gm tt_10 (k := 53) (u := 88) rfl
  obtain ⟨F_fc, n_fc⟩ : ∃ g : Nat → Int32, hl1.2.1 m_fc = g := ⟨_, rfl⟩
  obtain ⟨m_nt, f_m_nt, g_m_nt⟩ := hx_rf hT gm tt_10 (k := 41) (u := 76) rfl
  obtain ⟨F_nt, n_nt⟩ : ∃ g : Nat → Int32, hl1.2.1 m_nt = g := ⟨_, rfl⟩
  obtain ⟨m_wt, f_m_wt, g_m_wt⟩ := hx_rf hT gm tt_10 (k := 42) (u := 77) rfl
  obtain ⟨F_wt, n_wt⟩ : ∃ g : Nat → Int32, hl1.2.1 m_wt = g := ⟨_, rfl⟩
  obtain ⟨m_be, f_m_be, g_m_be⟩ := hx_rf hT gm tt_10 (k := 52) (u := 87) rfl
  obtain ⟨F_be, n_be⟩ : ∃ g : Nat → Int32, hl1.2.1 m_be = g := ⟨_, rfl⟩
  obtain ⟨m_bor, f_m_bor, g_m_bor⟩ := hx_rf hT gm tt_10 (k := 21) (u := 58) rfl
  obtain ⟨F_bor, n_bor⟩ : ∃ g : Nat → Int32, hl1.2.1 m_bor = g := ⟨_, rfl⟩
  obtain ⟨m_kin, f_m_kin, g_m_kin⟩ := hx_rf hT gm tt_10 (k := 26) (u := 63) rfl
  obtain ⟨F_kin, n_kin⟩ : ∃ g : Nat → Int32, hl1.2.1 m_kin = g := ⟨_, rfl⟩
  obtain ⟨m_sum, f_m_sum, g_m_sum⟩ := hx_rf hT gm tt_10 (k := 39) (u := 74) rfl
  obtain ⟨F_sum, n_sum⟩ : ∃ g : Nat → Int32, hl1.2.1 m_sum = g := ⟨_, rfl⟩
  obtain ⟨m_fro, f_m_fro, g_m_fro⟩ := hx_rf hT gm tt_10 (k := 40) (u := 75) rfl
  obtain ⟨F_fro, n_fro⟩ : ∃ g : Nat → Int32, hl1.2.1 m_fro = g := ⟨_, rfl⟩
  obtain ⟨m_fil, f_m_fil, g_m_fil⟩ := hx_rf hT gm tt_10 (k := 43) (u := 78) rfl
  obtain ⟨F_fil, n_fil⟩ : ∃ g : Nat → Int32, hl1.2.1 m_fil = g := ⟨_, rfl⟩
  obtain ⟨m_jud, f_m_jud, g_m_jud⟩ := hx_rf hT gm tt_10 (k := 51) (u := 86) rfl
  obtain ⟨F_jud, n_jud⟩ : ∃ g : Nat → Int32, hl1.2.1 m_jud = g := ⟨_, rfl⟩
  obtain ⟨m_ear, f_m_ear, g_m_ear⟩ := hx_rf hT gm tt_10 (k := 22) (u := 59) rfl
  obtain ⟨F_ear, n_ear⟩ : ∃ g : Nat → Int32, hl1.2.1 m_ear = g := ⟨_, rfl⟩
  obtain ⟨m_hds, f_m_hds, g_m_hds⟩ := hx_rf hT gm tt_10 (k := 23) (u := 60) rfl
  obtain ⟨F_hds, n_hds⟩ : ∃ g : Nat → Int32, hl1.2.1 m_hds = g := ⟨_, rfl⟩
  obtain ⟨m_ord, f_m_ord, g_m_ord⟩ := hx_rf hT gm tt_10 (k := 48) (u := 83) rfl
  obtain ⟨F_ord, n_ord⟩ : ∃ g : Nat → Int32, hl1.2.1 m_ord = g := ⟨_, rfl⟩
  obtain ⟨m_wkl, f_m_wkl, g_m_wkl⟩ := hx_rf hT gm tt_10 (k := 54) (u := 89) rfl
  obtain ⟨F_wkl, n_wkl⟩ : ∃ g : Nat → Int32, hl1.2.1 m_wkl = g := ⟨_, rfl⟩
  obtain ⟨m_owd, f_m_owd, g_m_owd⟩ := hx_rf hT gm tt_10 (k := 55) (u := 90) rfl
  obtain ⟨F_owd, n_owd⟩ : ∃ g : Nat → Int32, hl1.2.1 m_owd = g := ⟨_, rfl⟩
  obtain ⟨m_gds, f_m_gds, g_m_gds⟩ := hx_rf hT gm tt_10 (k := 56) (u := 91) rfl
  obtain ⟨F_gds, n_gds⟩ : ∃ g : Nat → Int32, hl1.2.1 m_gds = g := ⟨_, rfl⟩
  obtain ⟨m_szd, f_m_szd, g_m_szd⟩ := hx_rf hT gm tt_10 (k := 49) (u := 84) rfl
  obtain ⟨F_szd, n_szd⟩ : ∃ g : Nat → Int32, hl1.2.1 m_szd = g := ⟨_, rfl⟩
  obtain ⟨m_srv, f_m_srv, g_m_srv⟩ := hx_rf hT gm tt_10 (k := 50) (u := 85) rfl
  obtain ⟨F_srv, n_srv⟩ : ∃ g : Nat → Int32, hl1.2.1 m_srv = g := ⟨_, rfl⟩
  have cl_bor : hx_col 40 hl1 qp 1 = F_bor := (hf_bor qp m_bor f_qp f_m_bor).trans n_bor
  have cl_kin : hx_col 40 hl1 qp 2 = F_kin := (hf_kin qp m_kin f_qp f_m_kin).trans n_kin
  have cl_sum : hx_col 100 hl1 qc 6 = F_sum := (hf_sum qc m_sum f_qc f_m_sum).trans n_sum
  have cl_fro : hx_col 100 hl1 qc 7 = F_fro := (hf_fro qc m_fro f_qc f_m_fro).trans n_fro
  have cl_fil : hx_col 100 hl1 qc 8 = F_fil := (hf_fil qc m_fil f_qc f_m_fil).trans n_fil
  have cl_hea : hx_col 100 hl1 qc 11 = F_mh := (hf_hea qc mh f_qc f_mh).trans n_mh
  have cl_jud : hx_col 100 hl1 qc 12 = F_jud := (hf_jud qc m_jud f_qc f_m_jud).trans n_jud
  have cl_ear : hx_col 40 hl1 qp 3 = F_ear := (hf_ear qp m_ear f_qp f_m_ear).trans n_ear
  have cl_hds : hx_col 40 hl1 qp 4 = F_hds := (hf_hds qp m_hds f_qp f_m_hds).trans n_hds
  have cl_ord : hx_col 100 hl1 qc 13 = F_ord := (hf_ord qc m_ord f_qc f_m_ord).trans n_ord
  have cl_wkl : hx_col 100 hl1 qc 14 = F_wkl := (hf_wkl qc m_wkl f_qc f_m_wkl).trans n_wkl
  have cl_owd : hx_col 100 hl1 qc 15 = F_owd := (hf_owd qc m_owd f_qc f_m_owd).trans n_owd
  have cl_gds : hx_col 100 hl1 qc 17 = F_gds := (hf_gds qc m_gds f_qc f_m_gds).trans n_gds
  have cl_szd : hx_col 100 hl1 qc 16 = F_szd := (hf_szd qc m_szd f_qc f_m_szd).trans n_szd
  have cl_srv : hx_col 100 hl1 qc 18 = F_srv := (hf_srv qc m_srv f_qc f_m_srv).trans n_srv
  have htb9 : ∀ c, c < 100 → 0 ≤ (c_tri c).toInt ∧ (c_tri c).toInt ≤ 512 := fun c hc => by rw [eq_tri c hc]; have w := hT.ei g_mt tt_80 (k := c) hc; rw [n_mt] at w; exact w
  have z_jud : F_jud c0.toInt.toNat = 0 := hx_num_z2 nu_qc cl_jud ?o6
  case o6 => omega
  have hDP := hkDP qc qp m_by f_qc f_qp f_m_by; rw [n_by, f_x_claimCount] at hDP
  have hHL := hkHL qh qc m_ho f_qh f_qc f_m_ho; rw [n_ho, f_x_heardCount, f_x_claimCount] at hHL
  have hHO9 := hkHO m_ho mh f_m_ho f_mh; rw [n_ho, n_mh, f_m_heardMany, f_m_claims] at hHO9
  obtain ⟨cF9L, hFX, hFR9⟩ := hkFX qc m_fc m_nt m_wt m_sum mh f_qc f_m_fc f_m_nt f_m_wt f_m_sum f_mh; rw [f_x_claimCount] at hFX; rw [n_fc, n_nt, n_wt, n_sum, n_mh, f_x_claimCount] at hFR9
  have hBX := hkBX qc m_be f_qc f_m_be; rw [n_be, f_x_claimCount] at hBX
  rw [n_ml, f_x_claimCount] at hAC9
  obtain ⟨y_p0, f_y_p0, g_y_p0⟩ := hx_rf hT g_qo_py tt_3 (k := 2) (u := 23) rfl
  obtain ⟨m_p0, f_m_p0, g_m_p0⟩ := hx_rf hT gm tt_10 (k := 60) (u := 93) rfl
  obtain ⟨F_p0, n_p0⟩ : ∃ g : Nat → Int32, hl1.2.1 m_p0 = g := ⟨_, rfl⟩
  have n_y_p0 : hl1.2.1 y_p0 = F_p0 := (hkP0 qo_py y_p0 m_p0 f_qo_py f_y_p0 f_m_p0).trans n_p0
  obtain ⟨y_p1, f_y_p1, g_y_p1⟩ := hx_rf hT g_qo_py tt_3 (k := 3) (u := 24) rfl
  obtain ⟨m_p1, f_m_p1, g_m_p1⟩ := hx_rf hT gm tt_10 (k := 61) (u := 94) rfl
  obtain ⟨F_p1, n_p1⟩ : ∃ g : Nat → Int32, hl1.2.1 m_p1 = g := ⟨_, rfl⟩
  have n_y_p1 : hl1.2.1 y_p1 = F_p1 := (hkP1 qo_py y_p1 m_p1 f_qo_py f_y_p1 f_m_p1).trans n_p1
  obtain ⟨y_p2, f_y_p2, g_y_p2⟩ := hx_rf hT g_qo_py tt_3 (k := 5) (u := 26) rfl
  obtain ⟨m_p2, f_m_p2, g_m_p2⟩ := hx_rf hT gm tt_10 (k := 62) (u := 95) rfl
  obtain ⟨F_p2, n_p2⟩ : ∃ g : Nat → Int32, hl1.2.1 m_p2 = g := ⟨_, rfl⟩
  have n_y_p2 : hl1.2.1 y_p2 = F_p2 := (hkP2 qo_py y_p2 m_p2 f_qo_py f_y_p2 f_m_p2).trans n_p2
  obtain ⟨y_p3, f_y_p3, g_y_p3⟩ := hx_rf hT g_qo_py tt_3 (k := 4) (u := 25) rfl
  obtain ⟨m_p3, f_m_p3, g_m_p3⟩ := hx_rf hT gm tt_10 (k := 63) (u := 96) rfl
  obtain ⟨F_p3, n_p3⟩ : ∃ g : Nat → Int32, hl1.2.1 m_p3 = g := ⟨_, rfl⟩
  have n_y_p3 : hl1.2.1 y_p3 = F_p3 := (hkP3 qo_py y_p3 m_p3 f_qo_py f_y_p3 f_m_p3).trans n_p3
  obtain ⟨y_p4, f_y_p4, g_y_p4⟩ := hx_rf hT g_qo_py tt_3 (k := 1) (u := 22) rfl
  obtain ⟨m_p4, f_m_p4, g_m_p4⟩ := hx_rf hT gm tt_10 (k := 64) (u := 97) rfl
  obtain ⟨F_p4, n_p4⟩ : ∃ g : Nat → Int32, hl1.2.1 m_p4 = g := ⟨_, rfl⟩
  have n_y_p4 : hl1.2.1 y_p4 = F_p4 := (hkP4 qo_py y_p4 m_p4 f_qo_py f_y_p4 f_m_p4).trans n_p4
  obtain ⟨qrg9, f_qrg9, g_qrg9⟩ := hx_rf hT gx tt_9 (k := 18) (u := 7) rfl
  obtain ⟨y_ls, f_y_ls, g_y_ls⟩ := hx_rf hT g_qrg9 tt_7 (k := 3) (u := 35) rfl
  obtain ⟨m_rl, f_m_rl, g_m_rl⟩ := hx_rf hT gm tt_10 (k := 85) (u := 109) rfl
  obtain ⟨F_y_ls, n_y_ls⟩ : ∃ g : Nat → Int32, hl1.2.1 y_ls = g := ⟨_, rfl⟩
  obtain ⟨F_m_rl, n_m_rl⟩ : ∃ g : Nat → Int32, hl1.2.1 m_rl = g := ⟨_, rfl⟩
  obtain ⟨fv_871, efv_871⟩ : ∃ y : Int32, y = hl1.2.1 qrg9 0 := ⟨_, rfl⟩
  have bfv_871 := hT.gi g_qrg9 tt_7 (k := 0) rfl
  rw [← efv_871] at bfv_871
  have bfv_871 : -1 ≤ fv_871.toInt ∧ fv_871.toInt ≤ 100 := bfv_871
  have ffv_871 := efv_871.symm
  obtain ⟨fv_872, efv_872⟩ : ∃ y : Int32, y = hl1.2.1 am 83 := ⟨_, rfl⟩
  have bfv_872 := hT.gi gm tt_10 (k := 83) rfl
  rw [← efv_872] at bfv_872
  have bfv_872 : 0 ≤ fv_872.toInt ∧ fv_872.toInt ≤ 1 := bfv_872
  have ffv_872 := efv_872.symm
  obtain ⟨fv_873, efv_873⟩ : ∃ y : Int32, y = hl1.2.1 am 84 := ⟨_, rfl⟩
  have bfv_873 := hT.gi gm tt_10 (k := 84) rfl
  rw [← efv_873] at bfv_873
  have bfv_873 : 0 ≤ fv_873.toInt ∧ fv_873.toInt ≤ 300 := bfv_873
  have ffv_873 := efv_873.symm
  have hNQ9 := hkNQ qrg9 f_qrg9; rw [ffv_871, ffv_872, ffv_873] at hNQ9
  have hRL9 := hkRL qrg9 y_ls m_rl f_qrg9 f_y_ls f_m_rl; rw [n_y_ls, n_m_rl, ffv_871] at hRL9
  have hCB : hz_CB F_ord F_wkl F_owd F_szd F_gds F_srv := fun c hc => ⟨by have w := hT.ei g_m_ord tt_83 (k := c) (by omega); rw [n_ord] at w; exact w, by have w := hT.ei g_m_wkl tt_89 (k := c) (by omega); rw [n_wkl] at w; exact w, by have w := hT.ei g_m_owd tt_90 (k := c) (by omega); rw [n_owd] at w; exact w, by have w := hT.ei g_m_szd tt_84 (k := c) (by omega); rw [n_szd] at w; exact w, by have w := hT.ei g_m_gds tt_91 (k := c) (by omega); rw [n_gds] at w; exact w, by have w := hT.ei g_m_srv tt_85 (k := c) (by omega); rw [n_srv] at w; exact w⟩
  have hps : ∀ j, j < 600 → 0 ≤ (F_p2 j).toInt ∧ (F_p2 j).toInt ≤ 610000 := fun j hj => by have w := hT.ei g_m_p2 tt_95 (k := j) (by omega); rw [n_p2] at w; exact w
  have hte9 : ∀ c : Nat, c < 100 → (0 ≤ (c_tri c).toInt ∧ (c_tri c).toInt ≤ 512) ∧ (0 ≤ (F_sum c).toInt ∧ (F_sum c).toInt ≤ 9999) := fun c hc => ⟨htb9 c hc, by have w := hT.ei g_m_sum tt_74 (k := c) (by omega); rw [n_sum] at w; exact w⟩
  have hee9 : ∀ c : Nat, c < 40 → (0 ≤ (F_ear c).toInt ∧ (F_ear c).toInt ≤ 9999) ∧ (0 ≤ (F_hds c).toInt ∧ (F_hds c).toInt ≤ 20) := fun c hc => ⟨by have w := hT.ei g_m_ear tt_59 (k := c) (by omega); rw [n_ear] at w; exact w, by have w := hT.ei g_m_hds tt_60 (k := c) (by omega); rw [n_hds] at w; exact w⟩
  have bAG9 : ∀ k, k < 100 → 0 ≤ (F_aga k).toInt ∧ (F_aga k).toInt ≤ 39 := fun k hk => by have w := hT.ei g_m_aga tt_73 (k := k) (by omega); rw [n_aga] at w; exact w
  have bBY9 : ∀ k, k < 100 → 0 ≤ (F_by k).toInt ∧ (F_by k).toInt ≤ 39 := fun k hk => by have w := hT.ei g_m_by tt_72 (k := k) (by omega); rw [n_by] at w; exact w
  have hag9 : ∀ c, c < c0.toInt.toNat → 0 ≤ (F_aga c).toInt ∧ (F_aga c).toInt < 40 ∧ 0 ≤ (F_by c).toInt ∧ (F_by c).toInt < 40 := fun c hc => by have a9 := bAG9 c (by omega); have b9 := bBY9 c (by omega); omega
  have z_wkl : F_wkl c0.toInt.toNat = 0 := hx_num_z2 nu_qc cl_wkl ?o7
  case o7 => omega
  have z_owd : F_owd c0.toInt.toNat = 0 := hx_num_z2 nu_qc cl_owd ?o8
  case o8 => omega
  have z_gds : F_gds c0.toInt.toNat = 0 := hx_num_z2 nu_qc cl_gds ?o9
  case o9 => omega
  have hwd := jw mw f_mw; rw [n_mw] at hwd
  have hWK := jr mr f_mr; rw [n_mr, f_m_acts] at hWK
  have hRP := jp mp mn f_mp f_mn; rw [n_mp, n_mn, f_m_acts] at hRP
  have hPL := jl ml f_ml; rw [n_ml, f_m_claims, f_m_acts] at hPL
  have hHC := jh mh f_mh; rw [n_mh, f_m_heardMany, f_m_claims] at hHC
  have hTR := jt mt f_mt; rw [n_mt] at hTR
  have hHF := jf mh m_fou f_mh f_m_fou; rw [n_mh, n_m_fou, f_m_claims] at hHF
  refine lv_aload_n hx hb dL_law_1290 rfl (lv_at hl 2 rfl) ?_
  refine lv_aload_n hx hb dL_law_1291 rfl (lv_at hl 3 rfl) ?_
  refine lv_iload_n hx hb dL_law_1292 rfl (lv_at hl 0 rfl) ?_
  refine lv_iconst (v := 1) hx hb dL_law_1293 ?o10 ?_
  case o10 => decide
  refine lv_iadd hx hb dL_law_1294 ?_
  have rg_874 := i32_r i
  refine lv_topi (fun x_875 ex_875 => ?_)
  have zx_875 : x_875.toInt = i.toInt + 1 := ?o11
  case o11 =>
    rw [ex_875]
    refine i32_add rfl ?o12 ?o13 ?o14
    case o12 => decide
    case o13 => omega
    case o14 => omega
  refine va_sld hx hb hX hbl hbA hW.2.2.2.1 (vp_in_iff.mpr ⟨?o15, ?o16⟩) dL_law_1295 ?_
  case o15 => omega
  case o16 => omega
  refine lv_topi (fun x_876 ex_876 => ?_)
  refine lv_aload_n hx hb dL_law_1296 rfl (lv_at hl 3 rfl) ?_
  refine lv_iload_n hx hb dL_law_1297 rfl (lv_at hl 0 rfl) ?_
  refine lv_iconst (v := 2) hx hb dL_law_1298 ?o17 ?_
  case o17 => decide
  refine lv_iadd hx hb dL_law_1299 ?_
  refine lv_topi (fun x_877 ex_877 => ?_)
  have zx_877 : x_877.toInt = i.toInt + 2 := ?o18
  case o18 =>
    rw [ex_877]
    refine i32_add rfl ?o19 ?o20 ?o21
    case o19 => decide
    case o20 => omega
    case o21 => omega
  refine va_sld hx hb hX hbl hbA hW.2.2.2.1 (vp_in_iff.mpr ⟨?o22, ?o23⟩) dL_law_1300 ?_
  case o22 => omega
  case o23 => omega
  refine lv_topi (fun x_878 ex_878 => ?_)
  have hTo := hT
  refine hx_goi (hx_runV (As := [.int x_876, .int x_878]) (rest := []) ⟨hx, hb, hml, hown, hts⟩ hW gx tt_9 (T := TX9) (N := 20) rfl (t_X9_habit l dC dI dA L1 hl1 H.size ax x_876 x_878 hT gx qp g_qp f_qp qh g_qh f_qh pf_qp pf_qh) (cwV 2 hts (hx_gV kw_1092 kw_1089 kw_1090 kw_1091 kw_94) rfl rfl rfl (by decide +kernel) ⟨Nat.le_of_ble_eq_true rfl, Nat.le_of_ble_eq_true rfl⟩) rfl hl.1 rfl (Nat.le_of_ble_eq_true rfl) dL_law_1301 ⟨(show CC + 0 ≤ 600000 from ?o24), (show SS + 0 ≤ 7302250 from ?o25)⟩) hW (fun r_881 L_879 h_880 H locs p_882 hW => ?_)
  case o24 => omega
  case o25 => omega
  obtain ⟨hr_883, hT, hs⟩ := p_882
  replace hT : hx_T T_tb L_879 h_880 := hT
  replace hs : hx_S T_tb [] L1 hl1 L_879 h_880 := hs
  replace f_qa := (hs.o gx trivial rfl).2.trans f_qa
  replace f_qp := (hs.o gx trivial rfl).2.trans f_qp
  replace f_qc := (hs.o gx trivial rfl).2.trans f_qc
  replace f_qh := (hs.o gx trivial rfl).2.trans f_qh
  replace f_qw := (hs.o gx trivial rfl).2.trans f_qw
  replace f_ql := (hs.o g_qw trivial rfl).2.trans f_ql
  replace f_m_now := (hs.o gm trivial rfl).1.trans f_m_now
  replace f_m_persons := (hs.o gm trivial rfl).1.trans f_m_persons
  replace f_m_claims := (hs.o gm trivial rfl).1.trans f_m_claims
  replace f_m_taped := (hs.o gm trivial rfl).1.trans f_m_taped
  replace f_m_acts := (hs.o gm trivial rfl).1.trans f_m_acts
  replace f_m_heardMany := (hs.o gm trivial rfl).1.trans f_m_heardMany
  replace f_m_lines := (hs.o gm trivial rfl).1.trans f_m_lines
  replace f_m_listed := (hs.o gm trivial rfl).1.trans f_m_listed
  replace f_m_walkedMany := (hs.o gm trivial rfl).1.trans f_m_walkedMany
  replace f_m_payments := (hs.o gm trivial rfl).1.trans f_m_payments
  replace f_x_now := (hs.o gx trivial rfl).1.trans f_x_now
  replace f_x_personCount := (hs.o gx trivial rfl).1.trans f_x_personCount
  replace f_x_claimCount := (hs.o gx trivial rfl).1.trans f_x_claimCount
  replace f_x_tapeLength := (hs.o gx trivial rfl).1.trans f_x_tapeLength
  replace f_x_actCount := (hs.o gx trivial rfl).1.trans f_x_actCount
  replace f_x_heardCount := (hs.o gx trivial rfl).1.trans f_x_heardCount
  replace f_mw := (hs.o gm trivial rfl).2.trans f_mw
  replace f_mr := (hs.o gm trivial rfl).2.trans f_mr
  replace f_mp := (hs.o gm trivial rfl).2.trans f_mp
  replace f_mn := (hs.o gm trivial rfl).2.trans f_mn
  replace f_ml := (hs.o gm trivial rfl).2.trans f_ml
  replace f_mh := (hs.o gm trivial rfl).2.trans f_mh
  replace f_mt := (hs.o gm trivial rfl).2.trans f_mt
  replace f_m_fou := (hs.o gm trivial rfl).2.trans f_m_fou
  replace f_qo_ln := (hs.o gx trivial rfl).2.trans f_qo_ln
  replace f_o_ln := (hs.o g_qo_ln trivial rfl).1.trans f_o_ln
  replace f_o_lsd := (hs.o g_qw trivial rfl).1.trans f_o_lsd
  replace f_o_wkm := (hs.o g_qw trivial rfl).1.trans f_o_wkm
  replace f_qo_py := (hs.o gx trivial rfl).2.trans f_qo_py
  replace f_o_py := (hs.o g_qo_py trivial rfl).1.trans f_o_py
  replace f_b_of := (hs.o g_qo_ln trivial rfl).2.trans f_b_of
  replace f_m_of := (hs.o gm trivial rfl).2.trans f_m_of
  replace f_b_wf := (hs.o g_qo_ln trivial rfl).2.trans f_b_wf
  replace f_m_wf := (hs.o gm trivial rfl).2.trans f_m_wf
  replace f_b_df := (hs.o g_qo_ln trivial rfl).2.trans f_b_df
  replace f_m_df := (hs.o gm trivial rfl).2.trans f_m_df
  replace f_b_kf := (hs.o g_qo_ln trivial rfl).2.trans f_b_kf
  replace f_m_kf := (hs.o gm trivial rfl).2.trans f_m_kf
  replace f_b_sf := (hs.o g_qo_ln trivial rfl).2.trans f_b_sf
  replace f_m_sf := (hs.o gm trivial rfl).2.trans f_m_sf
  replace f_b_bf := (hs.o g_qo_ln trivial rfl).2.trans f_b_bf
  replace f_m_lst := (hs.o gm trivial rfl).2.trans f_m_lst
  replace f_qtp := (hs.o gx trivial rfl).2.trans f_qtp
  replace f_m_tp := (hs.o gm trivial rfl).2.trans f_m_tp
  replace f_m_dead := (hs.o gm trivial rfl).2.trans f_m_dead
  replace f_m_isj := (hs.o gm trivial rfl).2.trans f_m_isj
  replace f_m_dox := (hs.o gm trivial rfl).2.trans f_m_dox
  replace f_m_doy := (hs.o gm trivial rfl).2.trans f_m_doy
  replace f_qlt := (hs.o g_qw trivial rfl).2.trans f_qlt
  replace f_qlf := (hs.o g_qw trivial rfl).2.trans f_qlf
  replace f_m_wkd := (hs.o gm trivial rfl).2.trans f_m_wkd
  replace f_m_aga := (hs.o gm trivial rfl).2.trans f_m_aga
  replace f_qwo := (hs.o gx trivial rfl).2.trans f_qwo
  replace f_m_ad := (hs.o gm trivial rfl).2.trans f_m_ad
  replace f_m_by := (hs.o gm trivial rfl).2.trans f_m_by
  replace f_m_ho := (hs.o gm trivial rfl).2.trans f_m_ho
  replace f_m_fc := (hs.o gm trivial rfl).2.trans f_m_fc
  replace f_m_nt := (hs.o gm trivial rfl).2.trans f_m_nt
  replace f_m_wt := (hs.o gm trivial rfl).2.trans f_m_wt
  replace f_m_be := (hs.o gm trivial rfl).2.trans f_m_be
  replace f_m_bor := (hs.o gm trivial rfl).2.trans f_m_bor
  replace f_m_kin := (hs.o gm trivial rfl).2.trans f_m_kin
  replace f_m_sum := (hs.o gm trivial rfl).2.trans f_m_sum
  replace f_m_fro := (hs.o gm trivial rfl).2.trans f_m_fro
  replace f_m_fil := (hs.o gm trivial rfl).2.trans f_m_fil
  replace f_m_jud := (hs.o gm trivial rfl).2.trans f_m_jud
  replace f_m_ear := (hs.o gm trivial rfl).2.trans f_m_ear
  replace f_m_hds := (hs.o gm trivial rfl).2.trans f_m_hds
  replace f_m_ord := (hs.o gm trivial rfl).2.trans f_m_ord
  replace f_m_wkl := (hs.o gm trivial rfl).2.trans f_m_wkl
  replace f_m_owd := (hs.o gm trivial rfl).2.trans f_m_owd
  replace f_m_gds := (hs.o gm trivial rfl).2.trans f_m_gds
  replace f_m_szd := (hs.o gm trivial rfl).2.trans f_m_szd
  replace f_m_srv := (hs.o gm trivial rfl).2.trans f_m_srv
  replace f_y_p0 := (hs.o g_qo_py trivial rfl).2.trans f_y_p0
  replace f_m_p0 := (hs.o gm trivial rfl).2.trans f_m_p0
  replace f_y_p1 := (hs.o g_qo_py trivial rfl).2.trans f_y_p1
  replace f_m_p1 := (hs.o gm trivial rfl).2.trans f_m_p1
  replace f_y_p2 := (hs.o g_qo_py trivial rfl).2.trans f_y_p2
  replace f_m_p2 := (hs.o gm trivial rfl).2.trans f_m_p2
  replace f_y_p3 := (hs.o g_qo_py trivial rfl).2.trans f_y_p3
  replace f_m_p3 := (hs.o gm trivial rfl).2.trans f_m_p3
  replace f_y_p4 := (hs.o g_qo_py trivial rfl).2.trans f_y_p4
  replace f_m_p4 := (hs.o gm trivial rfl).2.trans f_m_p4
  replace f_qrg9 := (hs.o gx trivial rfl).2.trans f_qrg9
  replace f_y_ls := (hs.o g_qrg9 trivial rfl).2.trans f_y_ls
  replace f_m_rl := (hs.o gm trivial rfl).2.trans f_m_rl
  replace ffv_871 := (hs.o g_qrg9 trivial rfl).1.trans ffv_871
  replace ffv_872 := (hs.o gm trivial rfl).1.trans ffv_872
  replace ffv_873 := (hs.o gm trivial rfl).1.trans ffv_873
  replace pf_qa : ∀ j : Nat, (j : Int) < (h_880.2.1 ax 6).toInt → h_880.2.2 qa j ≠ none := by
    intro j hj; rw [(hs.o gx trivial rfl).1] at hj; rw [(hs.a g_qa rfl j).2]; exact pf_qa j hj
  replace pf_qp : ∀ j : Nat, (j : Int) < (h_880.2.1 ax 8).toInt → h_880.2.2 qp j ≠ none := by
    intro j hj; rw [(hs.o gx trivial rfl).1] at hj; rw [(hs.a g_qp rfl j).2]; exact pf_qp j hj
  replace pf_qc : ∀ j : Nat, (j : Int) < (h_880.2.1 ax 11).toInt → h_880.2.2 qc j ≠ none := by
    intro j hj; rw [(hs.o gx trivial rfl).1] at hj; rw [(hs.a g_qc rfl j).2]; exact pf_qc j hj
  replace pf_qh : ∀ j : Nat, (j : Int) < (h_880.2.1 ax 13).toInt → h_880.2.2 qh j ≠ none := by
    intro j hj; rw [(hs.o gx trivial rfl).1] at hj; rw [(hs.a g_qh rfl j).2]; exact pf_qh j hj
  replace pf_ql : ∀ j : Nat, (j : Int) < (h_880.2.1 qw 0).toInt → h_880.2.2 ql j ≠ none := by
    intro j hj; rw [(hs.o g_qw trivial rfl).1] at hj; rw [(hs.a g_ql rfl j).2]; exact pf_ql j hj
  replace cl_lst : hx_col 8 h_880 ql 0 = c_lst := (hx_col_S hs hTo g_ql tt_40 tt_2 rfl rfl).trans cl_lst
  replace cl_dead : hx_col 40 h_880 qp 7 = c_dead := (hx_col_S hs hTo g_qp tt_44 tt_4 rfl rfl).trans cl_dead
  replace cl_isj : hx_col 40 h_880 qp 8 = c_isj := (hx_col_S hs hTo g_qp tt_44 tt_4 rfl rfl).trans cl_isj
  replace cl_dox : hx_col 40 h_880 qp 5 = c_dox := (hx_col_S hs hTo g_qp tt_44 tt_4 rfl rfl).trans cl_dox
  replace cl_doy : hx_col 40 h_880 qp 6 = c_doy := (hx_col_S hs hTo g_qp tt_44 tt_4 rfl rfl).trans cl_doy
  replace cl_fou : hx_col 100 h_880 qc 10 = c_fou := (hx_col_S hs hTo g_qc tt_45 tt_2 rfl rfl).trans cl_fou
  replace cl_tri : hx_col 100 h_880 qc 9 = c_tri := (hx_col_S hs hTo g_qc tt_45 tt_2 rfl rfl).trans cl_tri
  replace cl_bor : hx_col 40 h_880 qp 1 = F_bor := (hx_col_S hs hTo g_qp tt_44 tt_4 rfl rfl).trans cl_bor
  replace cl_kin : hx_col 40 h_880 qp 2 = F_kin := (hx_col_S hs hTo g_qp tt_44 tt_4 rfl rfl).trans cl_kin
  replace cl_sum : hx_col 100 h_880 qc 6 = F_sum := (hx_col_S hs hTo g_qc tt_45 tt_2 rfl rfl).trans cl_sum
  replace cl_fro : hx_col 100 h_880 qc 7 = F_fro := (hx_col_S hs hTo g_qc tt_45 tt_2 rfl rfl).trans cl_fro
  replace cl_fil : hx_col 100 h_880 qc 8 = F_fil := (hx_col_S hs hTo g_qc tt_45 tt_2 rfl rfl).trans cl_fil
  replace cl_hea : hx_col 100 h_880 qc 11 = F_mh := (hx_col_S hs hTo g_qc tt_45 tt_2 rfl rfl).trans cl_hea
  replace cl_jud : hx_col 100 h_880 qc 12 = F_jud := (hx_col_S hs hTo g_qc tt_45 tt_2 rfl rfl).trans cl_jud
  replace cl_ear : hx_col 40 h_880 qp 3 = F_ear := (hx_col_S hs hTo g_qp tt_44 tt_4 rfl rfl).trans cl_ear
  replace cl_hds : hx_col 40 h_880 qp 4 = F_hds := (hx_col_S hs hTo g_qp tt_44 tt_4 rfl rfl).trans cl_hds
  replace cl_ord : hx_col 100 h_880 qc 13 = F_ord := (hx_col_S hs hTo g_qc tt_45 tt_2 rfl rfl).trans cl_ord
  replace cl_wkl : hx_col 100 h_880 qc 14 = F_wkl := (hx_col_S hs hTo g_qc tt_45 tt_2 rfl rfl).trans cl_wkl
  replace cl_owd : hx_col 100 h_880 qc 15 = F_owd := (hx_col_S hs hTo g_qc tt_45 tt_2 rfl rfl).trans cl_owd
  replace cl_gds : hx_col 100 h_880 qc 17 = F_gds := (hx_col_S hs hTo g_qc tt_45 tt_2 rfl rfl).trans cl_gds
  replace cl_szd : hx_col 100 h_880 qc 16 = F_szd := (hx_col_S hs hTo g_qc tt_45 tt_2 rfl rfl).trans cl_szd
  replace cl_srv : hx_col 100 h_880 qc 18 = F_srv := (hx_col_S hs hTo g_qc tt_45 tt_2 rfl rfl).trans cl_srv
  replace nu_qp : hx_num 40 h_880 qp 0 (np.toInt) := hx_num_S hs hTo g_qp tt_44 tt_4 rfl rfl nu_qp
  replace nu_qc : hx_num 100 h_880 qc 0 (c0.toInt) := hx_num_S hs hTo g_qc tt_45 tt_2 rfl rfl nu_qc
  replace sb_list : hx_LQ 8 100 h_880 ql qc := hx_LQ_S hs g_ql g_qc rfl rfl sb_list
  replace hDF : hw_DF h_880 qc qp 2 F_aga c0.toInt := hw_DF_S hs hTo g_qc g_qp tt_45 tt_2 rfl rfl rfl hDF
  replace hRA9 : hv_RA h_880 qa qwo a0.toInt A9 := hv_RA_S hs hTo g_qa g_qwo tt_43 tt_0 rfl rfl rfl rfl rfl rfl ?o26 hRA9
  case o26 => omega
  replace hDP : hw_DF h_880 qc qp 1 F_by c0.toInt := hw_DF_S hs hTo g_qc g_qp tt_45 tt_2 rfl rfl rfl hDP
  replace hAC9 : hv_AC h_880 qc F_ml c0.toInt A9 := hv_AC_S hs hTo g_qc tt_45 tt_2 rfl tt_0 rfl rfl rfl rfl rfl rfl rfl hAC9
  replace hFX : hv_FX 8 4 h_880 qc cF9L c0.toInt := hv_FX_S hs hTo g_qc tt_45 tt_2 rfl rfl rfl rfl hFX
  replace hBX : hv_FX 3 5 h_880 qc F_be c0.toInt := hv_FX_S hs hTo g_qc tt_45 tt_2 rfl rfl rfl rfl hBX
  replace hHL : hv_HL h_880 qh qc F_ho m0.toInt c0.toInt := hv_HL_S hs g_qh g_qc rfl rfl hHL
  replace n_mw : h_880.2.1 mw = F_mw := (funext fun j => (hs.a g_mw rfl j).1).trans n_mw
  replace n_mr : h_880.2.1 mr = F_mr := (funext fun j => (hs.a g_mr rfl j).1).trans n_mr
  replace n_mp : h_880.2.1 mp = F_mp := (funext fun j => (hs.a g_mp rfl j).1).trans n_mp
  replace n_mn : h_880.2.1 mn = F_mn := (funext fun j => (hs.a g_mn rfl j).1).trans n_mn
  replace n_ml : h_880.2.1 ml = F_ml := (funext fun j => (hs.a g_ml rfl j).1).trans n_ml
  replace n_mh : h_880.2.1 mh = F_mh := (funext fun j => (hs.a g_mh rfl j).1).trans n_mh
  replace n_mt : h_880.2.1 mt = F_mt := (funext fun j => (hs.a g_mt rfl j).1).trans n_mt
  replace n_m_fou : h_880.2.1 m_fou = F_m_fou := (funext fun j => (hs.a g_m_fou rfl j).1).trans n_m_fou
  replace n_b_of : h_880.2.1 b_of = B_of := (funext fun j => (hs.a g_b_of rfl j).1).trans n_b_of
  replace n_m_of : h_880.2.1 m_of = F_of := (funext fun j => (hs.a g_m_of rfl j).1).trans n_m_of
  replace n_b_wf : h_880.2.1 b_wf = B_wf := (funext fun j => (hs.a g_b_wf rfl j).1).trans n_b_wf
  replace n_m_wf : h_880.2.1 m_wf = F_wf := (funext fun j => (hs.a g_m_wf rfl j).1).trans n_m_wf
  replace n_b_df : h_880.2.1 b_df = B_df := (funext fun j => (hs.a g_b_df rfl j).1).trans n_b_df
  replace n_m_df : h_880.2.1 m_df = F_df := (funext fun j => (hs.a g_m_df rfl j).1).trans n_m_df
  replace n_b_kf : h_880.2.1 b_kf = B_kf := (funext fun j => (hs.a g_b_kf rfl j).1).trans n_b_kf
  replace n_m_kf : h_880.2.1 m_kf = F_kf := (funext fun j => (hs.a g_m_kf rfl j).1).trans n_m_kf
  replace n_b_sf : h_880.2.1 b_sf = B_sf := (funext fun j => (hs.a g_b_sf rfl j).1).trans n_b_sf
  replace n_m_sf : h_880.2.1 m_sf = F_sf := (funext fun j => (hs.a g_m_sf rfl j).1).trans n_m_sf
  replace n_b_bf : h_880.2.1 b_bf = bfL := (funext fun j => (hs.a g_b_bf rfl j).1).trans n_b_bf
  replace n_lst : h_880.2.1 m_lst = F_lst := (funext fun j => (hs.a g_m_lst rfl j).1).trans n_lst
  replace n_tp : h_880.2.1 m_tp = F_tp := (funext fun j => (hs.a g_m_tp rfl j).1).trans n_tp
  replace n_qtp : h_880.2.1 qtp = F_tp := (funext fun j => (hs.a g_qtp rfl j).1).trans n_qtp
  replace n_dead : h_880.2.1 m_dead = F_dead := (funext fun j => (hs.a g_m_dead rfl j).1).trans n_dead
  replace n_isj : h_880.2.1 m_isj = F_isj := (funext fun j => (hs.a g_m_isj rfl j).1).trans n_isj
  replace n_dox : h_880.2.1 m_dox = F_dox := (funext fun j => (hs.a g_m_dox rfl j).1).trans n_dox
  replace n_doy : h_880.2.1 m_doy = F_doy := (funext fun j => (hs.a g_m_doy rfl j).1).trans n_doy
  replace n_qlt : h_880.2.1 qlt = F_qlt := (funext fun j => (hs.a g_qlt rfl j).1).trans n_qlt
  replace n_m_wkd : h_880.2.1 m_wkd = F_m_wkd := (funext fun j => (hs.a g_m_wkd rfl j).1).trans n_m_wkd
  replace n_aga : h_880.2.1 m_aga = F_aga := (funext fun j => (hs.a g_m_aga rfl j).1).trans n_aga
  replace n_ad : h_880.2.1 m_ad = F_ad := (funext fun j => (hs.a g_m_ad rfl j).1).trans n_ad
  replace n_by : h_880.2.1 m_by = F_by := (funext fun j => (hs.a g_m_by rfl j).1).trans n_by
  replace n_ho : h_880.2.1 m_ho = F_ho := (funext fun j => (hs.a g_m_ho rfl j).1).trans n_ho
  replace n_fc : h_880.2.1 m_fc = F_fc := (funext fun j => (hs.a g_m_fc rfl j).1).trans n_fc
  replace n_nt : h_880.2.1 m_nt = F_nt := (funext fun j => (hs.a g_m_nt rfl j).1).trans n_nt
  replace n_wt : h_880.2.1 m_wt = F_wt := (funext fun j => (hs.a g_m_wt rfl j).1).trans n_wt
  replace n_be : h_880.2.1 m_be = F_be := (funext fun j => (hs.a g_m_be rfl j).1).trans n_be
  replace n_bor : h_880.2.1 m_bor = F_bor := (funext fun j => (hs.a g_m_bor rfl j).1).trans n_bor
  replace n_kin : h_880.2.1 m_kin = F_kin := (funext fun j => (hs.a g_m_kin rfl j).1).trans n_kin
  replace n_sum : h_880.2.1 m_sum = F_sum := (funext fun j => (hs.a g_m_sum rfl j).1).trans n_sum
  replace n_fro : h_880.2.1 m_fro = F_fro := (funext fun j => (hs.a g_m_fro rfl j).1).trans n_fro
  replace n_fil : h_880.2.1 m_fil = F_fil := (funext fun j => (hs.a g_m_fil rfl j).1).trans n_fil
  replace n_jud : h_880.2.1 m_jud = F_jud := (funext fun j => (hs.a g_m_jud rfl j).1).trans n_jud
  replace n_ear : h_880.2.1 m_ear = F_ear := (funext fun j => (hs.a g_m_ear rfl j).1).trans n_ear
  replace n_hds : h_880.2.1 m_hds = F_hds := (funext fun j => (hs.a g_m_hds rfl j).1).trans n_hds
  replace n_ord : h_880.2.1 m_ord = F_ord := (funext fun j => (hs.a g_m_ord rfl j).1).trans n_ord
  replace n_wkl : h_880.2.1 m_wkl = F_wkl := (funext fun j => (hs.a g_m_wkl rfl j).1).trans n_wkl
  replace n_owd : h_880.2.1 m_owd = F_owd := (funext fun j => (hs.a g_m_owd rfl j).1).trans n_owd
  replace n_gds : h_880.2.1 m_gds = F_gds := (funext fun j => (hs.a g_m_gds rfl j).1).trans n_gds
  replace n_szd : h_880.2.1 m_szd = F_szd := (funext fun j => (hs.a g_m_szd rfl j).1).trans n_szd
  replace n_srv : h_880.2.1 m_srv = F_srv := (funext fun j => (hs.a g_m_srv rfl j).1).trans n_srv
  replace n_p0 : h_880.2.1 m_p0 = F_p0 := (funext fun j => (hs.a g_m_p0 rfl j).1).trans n_p0
  replace n_y_p0 : h_880.2.1 y_p0 = F_p0 := (funext fun j => (hs.a g_y_p0 rfl j).1).trans n_y_p0
  replace n_p1 : h_880.2.1 m_p1 = F_p1 := (funext fun j => (hs.a g_m_p1 rfl j).1).trans n_p1
  replace n_y_p1 : h_880.2.1 y_p1 = F_p1 := (funext fun j => (hs.a g_y_p1 rfl j).1).trans n_y_p1
  replace n_p2 : h_880.2.1 m_p2 = F_p2 := (funext fun j => (hs.a g_m_p2 rfl j).1).trans n_p2
  replace n_y_p2 : h_880.2.1 y_p2 = F_p2 := (funext fun j => (hs.a g_y_p2 rfl j).1).trans n_y_p2
  replace n_p3 : h_880.2.1 m_p3 = F_p3 := (funext fun j => (hs.a g_m_p3 rfl j).1).trans n_p3
  replace n_y_p3 : h_880.2.1 y_p3 = F_p3 := (funext fun j => (hs.a g_y_p3 rfl j).1).trans n_y_p3
  replace n_p4 : h_880.2.1 m_p4 = F_p4 := (funext fun j => (hs.a g_m_p4 rfl j).1).trans n_p4
  replace n_y_p4 : h_880.2.1 y_p4 = F_p4 := (funext fun j => (hs.a g_y_p4 rfl j).1).trans n_y_p4
  replace n_y_ls : h_880.2.1 y_ls = F_y_ls := (funext fun j => (hs.a g_y_ls rfl j).1).trans n_y_ls
  replace n_m_rl : h_880.2.1 m_rl = F_m_rl := (funext fun j => (hs.a g_m_rl rfl j).1).trans n_m_rl
  replace gx := gx.S hs
  replace gm := gm.S hs
  replace g_qa := g_qa.S hs
  replace g_qp := g_qp.S hs
  replace g_qc := g_qc.S hs
  replace g_qh := g_qh.S hs
  replace g_qw := g_qw.S hs
  replace g_ql := g_ql.S hs
  replace g_mw := g_mw.S hs
  replace g_mr := g_mr.S hs
  replace g_mp := g_mp.S hs
  replace g_mn := g_mn.S hs
  replace g_ml := g_ml.S hs
  replace g_mh := g_mh.S hs
  replace g_mt := g_mt.S hs
  replace g_m_fou := g_m_fou.S hs
  replace g_qo_ln := g_qo_ln.S hs
  replace g_qo_py := g_qo_py.S hs
  replace g_b_of := g_b_of.S hs
  replace g_m_of := g_m_of.S hs
  replace g_b_wf := g_b_wf.S hs
  replace g_m_wf := g_m_wf.S hs
  replace g_b_df := g_b_df.S hs
  replace g_m_df := g_m_df.S hs
  replace g_b_kf := g_b_kf.S hs
  replace g_m_kf := g_m_kf.S hs
  replace g_b_sf := g_b_sf.S hs
  replace g_m_sf := g_m_sf.S hs
  replace g_b_bf := g_b_bf.S hs
  replace g_m_lst := g_m_lst.S hs
  replace g_qtp := g_qtp.S hs
  replace g_m_tp := g_m_tp.S hs
  replace g_m_dead := g_m_dead.S hs
  replace g_m_isj := g_m_isj.S hs
  replace g_m_dox := g_m_dox.S hs
  replace g_m_doy := g_m_doy.S hs
  replace g_qlt := g_qlt.S hs
  replace g_qlf := g_qlf.S hs
  replace g_m_wkd := g_m_wkd.S hs
  replace g_m_aga := g_m_aga.S hs
  replace g_qwo := g_qwo.S hs
  replace g_m_ad := g_m_ad.S hs
  replace g_m_by := g_m_by.S hs
  replace g_m_ho := g_m_ho.S hs
  replace g_m_fc := g_m_fc.S hs
  replace g_m_nt := g_m_nt.S hs
  replace g_m_wt := g_m_wt.S hs
  replace g_m_be := g_m_be.S hs
  replace g_m_bor := g_m_bor.S hs
  replace g_m_kin := g_m_kin.S hs
  replace g_m_sum := g_m_sum.S hs
  replace g_m_fro := g_m_fro.S hs
  replace g_m_fil := g_m_fil.S hs
  replace g_m_jud := g_m_jud.S hs
  replace g_m_ear := g_m_ear.S hs
  replace g_m_hds := g_m_hds.S hs
  replace g_m_ord := g_m_ord.S hs
  replace g_m_wkl := g_m_wkl.S hs
  replace g_m_owd := g_m_owd.S hs
  replace g_m_gds := g_m_gds.S hs
  replace g_m_szd := g_m_szd.S hs
  replace g_m_srv := g_m_srv.S hs
  replace g_y_p0 := g_y_p0.S hs
  replace g_m_p0 := g_m_p0.S hs
  replace g_y_p1 := g_y_p1.S hs
  replace g_m_p1 := g_m_p1.S hs
  replace g_y_p2 := g_y_p2.S hs
  replace g_m_p2 := g_m_p2.S hs
  replace g_y_p3 := g_y_p3.S hs
  replace g_m_p3 := g_m_p3.S hs
  replace g_y_p4 := g_y_p4.S hs
  replace g_m_p4 := g_m_p4.S hs
  replace g_qrg9 := g_qrg9.S hs
  replace g_y_ls := g_y_ls.S hs
  replace g_m_rl := g_m_rl.S hs
  refine lv_pop hx hb dL_law_1304 rfl ?_
  refine lv_aload_n hx hb dL_law_1305 rfl (lv_at hl 1 rfl) ?_
  refine lv_aload_n hx hb dL_law_1306 rfl (lv_at hl 3 rfl) ?_
  refine lv_iload_n hx hb dL_law_1307 rfl (lv_at hl 0 rfl) ?_
  refine lv_iconst (v := 1) hx hb dL_law_1308 ?o27 ?_
  case o27 => decide
  refine lv_iadd hx hb dL_law_1309 ?_
  refine lv_topi (fun x_884 ex_884 => ?_)
  have zx_884 : x_884.toInt = i.toInt + 1 := ?o28
  case o28 =>
    rw [ex_884]
    refine i32_add rfl ?o29 ?o30 ?o31
    case o29 => decide
    case o30 => omega
    case o31 => omega
  obtain rfl : x_875 = x_884 := ex_875.trans ex_884.symm
  refine va_sld hx hb hX hbl hbA hW.2.2.2.1 (vp_in_iff.mpr ⟨?o32, ?o33⟩) dL_law_1310 ?_
  case o32 => omega
  case o33 => omega
  refine lv_topi (fun x_885 ex_885 => ?_)
  obtain rfl : x_876 = x_885 := ex_876.trans ex_885.symm
  refine lv_aload_n hx hb dL_law_1311 rfl (lv_at hl 3 rfl) ?_
  refine lv_iload_n hx hb dL_law_1312 rfl (lv_at hl 0 rfl) ?_
  refine lv_iconst (v := 2) hx hb dL_law_1313 ?o34 ?_
  case o34 => decide
  refine lv_iadd hx hb dL_law_1314 ?_
  refine lv_topi (fun x_886 ex_886 => ?_)
  have zx_886 : x_886.toInt = i.toInt + 2 := ?o35
  case o35 =>
    rw [ex_886]
    refine i32_add rfl ?o36 ?o37 ?o38
    case o36 => decide
    case o37 => omega
    case o38 => omega
  obtain rfl : x_877 = x_886 := ex_877.trans ex_886.symm
  refine va_sld hx hb hX hbl hbA hW.2.2.2.1 (vp_in_iff.mpr ⟨?o39, ?o40⟩) dL_law_1315 ?_
  case o39 => omega
  case o40 => omega
  refine lv_topi (fun x_887 ex_887 => ?_)
  obtain rfl : x_878 = x_887 := ex_878.trans ex_887.symm
  have hTo := hT
  refine hx_goi (hx_runV (As := [.int x_876, .int x_878]) (rest := []) ⟨hx, hb, hml, hown, hts⟩ hW gm tt_10 (T := TX10) (N := 98) rfl (t_X10_habit l dC dI dA L_879 h_880 H.size am x_876 x_878 hT gm) (cwV 2 hts (hx_gV kw_1736 kw_1733 kw_1734 kw_1735 kw_103) rfl rfl rfl (by decide +kernel) ⟨Nat.le_of_ble_eq_true rfl, Nat.le_of_ble_eq_true rfl⟩) rfl hl.1 rfl (Nat.le_of_ble_eq_true rfl) dL_law_1316 ⟨(show CC + 0 + 0 ≤ 600000 from ?o41), (show SS + 0 + 0 ≤ 7302250 from ?o42)⟩) hW (fun r_890 L_888 h_889 H locs p_891 hW => ?_)
  case o41 => omega
  case o42 => omega
  obtain ⟨hr_892, hT, hs⟩ := p_891
  replace hT : hx_T T_tb L_888 h_889 := hT
  replace hs : hx_S T_tb [(10, 95), (10, 96), (115, 0)] L_879 h_880 L_888 h_889 := hs
  replace f_qa := (hs.o gx trivial rfl).2.trans f_qa
  replace f_qp := (hs.o gx trivial rfl).2.trans f_qp
  replace f_qc := (hs.o gx trivial rfl).2.trans f_qc
  replace f_qh := (hs.o gx trivial rfl).2.trans f_qh
  replace f_qw := (hs.o gx trivial rfl).2.trans f_qw
  replace f_ql := (hs.o g_qw trivial rfl).2.trans f_ql
  replace f_m_now := (hs.o gm trivial rfl).1.trans f_m_now
  replace f_m_persons := (hs.o gm trivial rfl).1.trans f_m_persons
  replace f_m_claims := (hs.o gm trivial rfl).1.trans f_m_claims
  replace f_m_taped := (hs.o gm trivial rfl).1.trans f_m_taped
  replace f_m_acts := (hs.o gm trivial rfl).1.trans f_m_acts
  replace f_m_heardMany := (hs.o gm trivial rfl).1.trans f_m_heardMany
  replace f_m_lines := (hs.o gm trivial rfl).1.trans f_m_lines
  replace f_m_listed := (hs.o gm trivial rfl).1.trans f_m_listed
  replace f_m_walkedMany := (hs.o gm trivial rfl).1.trans f_m_walkedMany
  replace f_m_payments := (hs.o gm trivial rfl).1.trans f_m_payments
  replace f_x_now := (hs.o gx trivial rfl).1.trans f_x_now
  replace f_x_personCount := (hs.o gx trivial rfl).1.trans f_x_personCount
  replace f_x_claimCount := (hs.o gx trivial rfl).1.trans f_x_claimCount
  replace f_x_tapeLength := (hs.o gx trivial rfl).1.trans f_x_tapeLength
  replace f_x_actCount := (hs.o gx trivial rfl).1.trans f_x_actCount
  replace f_x_heardCount := (hs.o gx trivial rfl).1.trans f_x_heardCount
  replace f_mw := (hs.o gm trivial rfl).2.trans f_mw
  replace f_mr := (hs.o gm trivial rfl).2.trans f_mr
  replace f_mp := (hs.o gm trivial rfl).2.trans f_mp
  replace f_mn := (hs.o gm trivial rfl).2.trans f_mn
  replace f_ml := (hs.o gm trivial rfl).2.trans f_ml
  replace f_mh := (hs.o gm trivial rfl).2.trans f_mh
  replace f_mt := (hs.o gm trivial rfl).2.trans f_mt
  replace f_m_fou := (hs.o gm trivial rfl).2.trans f_m_fou
  replace f_qo_ln := (hs.o gx trivial rfl).2.trans f_qo_ln
  replace f_o_ln := (hs.o g_qo_ln trivial rfl).1.trans f_o_ln
  replace f_o_lsd := (hs.o g_qw trivial rfl).1.trans f_o_lsd
  replace f_o_wkm := (hs.o g_qw trivial rfl).1.trans f_o_wkm
  replace f_qo_py := (hs.o gx trivial rfl).2.trans f_qo_py
  replace f_o_py := (hs.o g_qo_py trivial rfl).1.trans f_o_py
  replace f_b_of := (hs.o g_qo_ln trivial rfl).2.trans f_b_of
  replace f_m_of := (hs.o gm trivial rfl).2.trans f_m_of
  replace f_b_wf := (hs.o g_qo_ln trivial rfl).2.trans f_b_wf
  replace f_m_wf := (hs.o gm trivial rfl).2.trans f_m_wf
  replace f_b_df := (hs.o g_qo_ln trivial rfl).2.trans f_b_df
  replace f_m_df := (hs.o gm trivial rfl).2.trans f_m_df
  replace f_b_kf := (hs.o g_qo_ln trivial rfl).2.trans f_b_kf
  replace f_m_kf := (hs.o gm trivial rfl).2.trans f_m_kf
  replace f_b_sf := (hs.o g_qo_ln trivial rfl).2.trans f_b_sf
  replace f_m_sf := (hs.o gm trivial rfl).2.trans f_m_sf
  replace f_b_bf := (hs.o g_qo_ln trivial rfl).2.trans f_b_bf
  replace f_m_lst := (hs.o gm trivial rfl).2.trans f_m_lst
  replace f_qtp := (hs.o gx trivial rfl).2.trans f_qtp
  replace f_m_tp := (hs.o gm trivial rfl).2.trans f_m_tp
  replace f_m_dead := (hs.o gm trivial rfl).2.trans f_m_dead
  replace f_m_isj := (hs.o gm trivial rfl).2.trans f_m_isj
  replace f_m_dox := (hs.o gm trivial rfl).2.trans f_m_dox
  replace f_m_doy := (hs.o gm trivial rfl).2.trans f_m_doy
  replace f_qlt := (hs.o g_qw trivial rfl).2.trans f_qlt
  replace f_qlf := (hs.o g_qw trivial rfl).2.trans f_qlf
  replace f_m_wkd := (hs.o gm trivial rfl).2.trans f_m_wkd
  replace f_m_aga := (hs.o gm trivial rfl).2.trans f_m_aga
  replace f_qwo := (hs.o gx trivial rfl).2.trans f_qwo
  replace f_m_ad := (hs.o gm trivial rfl).2.trans f_m_ad
  replace f_m_by := (hs.o gm trivial rfl).2.trans f_m_by
  replace f_m_ho := (hs.o gm trivial rfl).2.trans f_m_ho
  replace f_m_fc := (hs.o gm trivial rfl).2.trans f_m_fc
  replace f_m_nt := (hs.o gm trivial rfl).2.trans f_m_nt
  replace f_m_wt := (hs.o gm trivial rfl).2.trans f_m_wt
  replace f_m_be := (hs.o gm trivial rfl).2.trans f_m_be
  replace f_m_bor := (hs.o gm trivial rfl).2.trans f_m_bor
  replace f_m_kin := (hs.o gm trivial rfl).2.trans f_m_kin
  replace f_m_sum := (hs.o gm trivial rfl).2.trans f_m_sum
  replace f_m_fro := (hs.o gm trivial rfl).2.trans f_m_fro
  replace f_m_fil := (hs.o gm trivial rfl).2.trans f_m_fil
  replace f_m_jud := (hs.o gm trivial rfl).2.trans f_m_jud
  replace f_m_ear := (hs.o gm trivial rfl).2.trans f_m_ear
  replace f_m_hds := (hs.o gm trivial rfl).2.trans f_m_hds
  replace f_m_ord := (hs.o gm trivial rfl).2.trans f_m_ord
  replace f_m_wkl := (hs.o gm trivial rfl).2.trans f_m_wkl
  replace f_m_owd := (hs.o gm trivial rfl).2.trans f_m_owd
  replace f_m_gds := (hs.o gm trivial rfl).2.trans f_m_gds
  replace f_m_szd := (hs.o gm trivial rfl).2.trans f_m_szd
  replace f_m_srv := (hs.o gm trivial rfl).2.trans f_m_srv
  replace f_y_p0 := (hs.o g_qo_py trivial rfl).2.trans f_y_p0
  replace f_m_p0 := (hs.o gm trivial rfl).2.trans f_m_p0
  replace f_y_p1 := (hs.o g_qo_py trivial rfl).2.trans f_y_p1
  replace f_m_p1 := (hs.o gm trivial rfl).2.trans f_m_p1
  replace f_y_p2 := (hs.o g_qo_py trivial rfl).2.trans f_y_p2
  replace f_m_p2 := (hs.o gm trivial rfl).2.trans f_m_p2
  replace f_y_p3 := (hs.o g_qo_py trivial rfl).2.trans f_y_p3
  replace f_m_p3 := (hs.o gm trivial rfl).2.trans f_m_p3
  replace f_y_p4 := (hs.o g_qo_py trivial rfl).2.trans f_y_p4
  replace f_m_p4 := (hs.o gm trivial rfl).2.trans f_m_p4
  replace f_qrg9 := (hs.o gx trivial rfl).2.trans f_qrg9
  replace f_y_ls := (hs.o g_qrg9 trivial rfl).2.trans f_y_ls
  replace f_m_rl := (hs.o gm trivial rfl).2.trans f_m_rl
  replace ffv_871 := (hs.o g_qrg9 trivial rfl).1.trans ffv_871
  replace ffv_872 := (hs.o gm trivial rfl).1.trans ffv_872
  replace ffv_873 := (hs.o gm trivial rfl).1.trans ffv_873
  replace pf_qa : ∀ j : Nat, (j : Int) < (h_889.2.1 ax 6).toInt → h_889.2.2 qa j ≠ none := by
    intro j hj; rw [(hs.o gx trivial rfl).1] at hj; rw [(hs.a g_qa rfl j).2]; exact pf_qa j hj
  replace pf_qp : ∀ j : Nat, (j : Int) < (h_889.2.1 ax 8).toInt → h_889.2.2 qp j ≠ none := by
    intro j hj; rw [(hs.o gx trivial rfl).1] at hj; rw [(hs.a g_qp rfl j).2]; exact pf_qp j hj
  replace pf_qc : ∀ j : Nat, (j : Int) < (h_889.2.1 ax 11).toInt → h_889.2.2 qc j ≠ none := by
    intro j hj; rw [(hs.o gx trivial rfl).1] at hj; rw [(hs.a g_qc rfl j).2]; exact pf_qc j hj
  replace pf_qh : ∀ j : Nat, (j : Int) < (h_889.2.1 ax 13).toInt → h_889.2.2 qh j ≠ none := by
    intro j hj; rw [(hs.o gx trivial rfl).1] at hj; rw [(hs.a g_qh rfl j).2]; exact pf_qh j hj
  replace pf_ql : ∀ j : Nat, (j : Int) < (h_889.2.1 qw 0).toInt → h_889.2.2 ql j ≠ none := by
    intro j hj; rw [(hs.o g_qw trivial rfl).1] at hj; rw [(hs.a g_ql rfl j).2]; exact pf_ql j hj
  replace cl_lst : hx_col 8 h_889 ql 0 = c_lst := (hx_col_S hs hTo g_ql tt_40 tt_2 rfl rfl).trans cl_lst
  replace cl_dead : hx_col 40 h_889 qp 7 = c_dead := (hx_col_S hs hTo g_qp tt_44 tt_4 rfl rfl).trans cl_dead
  replace cl_isj : hx_col 40 h_889 qp 8 = c_isj := (hx_col_S hs hTo g_qp tt_44 tt_4 rfl rfl).trans cl_isj
  replace cl_dox : hx_col 40 h_889 qp 5 = c_dox := (hx_col_S hs hTo g_qp tt_44 tt_4 rfl rfl).trans cl_dox
  replace cl_doy : hx_col 40 h_889 qp 6 = c_doy := (hx_col_S hs hTo g_qp tt_44 tt_4 rfl rfl).trans cl_doy
  replace cl_fou : hx_col 100 h_889 qc 10 = c_fou := (hx_col_S hs hTo g_qc tt_45 tt_2 rfl rfl).trans cl_fou
  replace cl_tri : hx_col 100 h_889 qc 9 = c_tri := (hx_col_S hs hTo g_qc tt_45 tt_2 rfl rfl).trans cl_tri
  replace cl_bor : hx_col 40 h_889 qp 1 = F_bor := (hx_col_S hs hTo g_qp tt_44 tt_4 rfl rfl).trans cl_bor
  replace cl_kin : hx_col 40 h_889 qp 2 = F_kin := (hx_col_S hs hTo g_qp tt_44 tt_4 rfl rfl).trans cl_kin
  replace cl_sum : hx_col 100 h_889 qc 6 = F_sum := (hx_col_S hs hTo g_qc tt_45 tt_2 rfl rfl).trans cl_sum
  replace cl_fro : hx_col 100 h_889 qc 7 = F_fro := (hx_col_S hs hTo g_qc tt_45 tt_2 rfl rfl).trans cl_fro
  replace cl_fil : hx_col 100 h_889 qc 8 = F_fil := (hx_col_S hs hTo g_qc tt_45 tt_2 rfl rfl).trans cl_fil
  replace cl_hea : hx_col 100 h_889 qc 11 = F_mh := (hx_col_S hs hTo g_qc tt_45 tt_2 rfl rfl).trans cl_hea
  replace cl_jud : hx_col 100 h_889 qc 12 = F_jud := (hx_col_S hs hTo g_qc tt_45 tt_2 rfl rfl).trans cl_jud
  replace cl_ear : hx_col 40 h_889 qp 3 = F_ear := (hx_col_S hs hTo g_qp tt_44 tt_4 rfl rfl).trans cl_ear
  replace cl_hds : hx_col 40 h_889 qp 4 = F_hds := (hx_col_S hs hTo g_qp tt_44 tt_4 rfl rfl).trans cl_hds
  replace cl_ord : hx_col 100 h_889 qc 13 = F_ord := (hx_col_S hs hTo g_qc tt_45 tt_2 rfl rfl).trans cl_ord
  replace cl_wkl : hx_col 100 h_889 qc 14 = F_wkl := (hx_col_S hs hTo g_qc tt_45 tt_2 rfl rfl).trans cl_wkl
  replace cl_owd : hx_col 100 h_889 qc 15 = F_owd := (hx_col_S hs hTo g_qc tt_45 tt_2 rfl rfl).trans cl_owd
  replace cl_gds : hx_col 100 h_889 qc 17 = F_gds := (hx_col_S hs hTo g_qc tt_45 tt_2 rfl rfl).trans cl_gds
  replace cl_szd : hx_col 100 h_889 qc 16 = F_szd := (hx_col_S hs hTo g_qc tt_45 tt_2 rfl rfl).trans cl_szd
  replace cl_srv : hx_col 100 h_889 qc 18 = F_srv := (hx_col_S hs hTo g_qc tt_45 tt_2 rfl rfl).trans cl_srv
  replace nu_qp : hx_num 40 h_889 qp 0 (np.toInt) := hx_num_S hs hTo g_qp tt_44 tt_4 rfl rfl nu_qp
  replace nu_qc : hx_num 100 h_889 qc 0 (c0.toInt) := hx_num_S hs hTo g_qc tt_45 tt_2 rfl rfl nu_qc
  replace sb_list : hx_LQ 8 100 h_889 ql qc := hx_LQ_S hs g_ql g_qc rfl rfl sb_list
  replace hDF : hw_DF h_889 qc qp 2 F_aga c0.toInt := hw_DF_S hs hTo g_qc g_qp tt_45 tt_2 rfl rfl rfl hDF
  replace hRA9 : hv_RA h_889 qa qwo a0.toInt A9 := hv_RA_S hs hTo g_qa g_qwo tt_43 tt_0 rfl rfl rfl rfl rfl rfl ?o43 hRA9
  case o43 => omega
  replace hDP : hw_DF h_889 qc qp 1 F_by c0.toInt := hw_DF_S hs hTo g_qc g_qp tt_45 tt_2 rfl rfl rfl hDP
  replace hAC9 : hv_AC h_889 qc F_ml c0.toInt A9 := hv_AC_S hs hTo g_qc tt_45 tt_2 rfl tt_0 rfl rfl rfl rfl rfl rfl rfl hAC9
  replace hFX : hv_FX 8 4 h_889 qc cF9L c0.toInt := hv_FX_S hs hTo g_qc tt_45 tt_2 rfl rfl rfl rfl hFX
  replace hBX : hv_FX 3 5 h_889 qc F_be c0.toInt := hv_FX_S hs hTo g_qc tt_45 tt_2 rfl rfl rfl rfl hBX
  replace hHL : hv_HL h_889 qh qc F_ho m0.toInt c0.toInt := hv_HL_S hs g_qh g_qc rfl rfl hHL
  replace n_mw : h_889.2.1 mw = F_mw := (funext fun j => (hs.a g_mw rfl j).1).trans n_mw
  replace n_mr : h_889.2.1 mr = F_mr := (funext fun j => (hs.a g_mr rfl j).1).trans n_mr
  replace n_mp : h_889.2.1 mp = F_mp := (funext fun j => (hs.a g_mp rfl j).1).trans n_mp
  replace n_mn : h_889.2.1 mn = F_mn := (funext fun j => (hs.a g_mn rfl j).1).trans n_mn
  replace n_ml : h_889.2.1 ml = F_ml := (funext fun j => (hs.a g_ml rfl j).1).trans n_ml
  replace n_mh : h_889.2.1 mh = F_mh := (funext fun j => (hs.a g_mh rfl j).1).trans n_mh
  replace n_mt : h_889.2.1 mt = F_mt := (funext fun j => (hs.a g_mt rfl j).1).trans n_mt
  replace n_m_fou : h_889.2.1 m_fou = F_m_fou := (funext fun j => (hs.a g_m_fou rfl j).1).trans n_m_fou
  replace n_b_of : h_889.2.1 b_of = B_of := (funext fun j => (hs.a g_b_of rfl j).1).trans n_b_of
  replace n_m_of : h_889.2.1 m_of = F_of := (funext fun j => (hs.a g_m_of rfl j).1).trans n_m_of
  replace n_b_wf : h_889.2.1 b_wf = B_wf := (funext fun j => (hs.a g_b_wf rfl j).1).trans n_b_wf
  replace n_m_wf : h_889.2.1 m_wf = F_wf := (funext fun j => (hs.a g_m_wf rfl j).1).trans n_m_wf
  replace n_b_df : h_889.2.1 b_df = B_df := (funext fun j => (hs.a g_b_df rfl j).1).trans n_b_df
  replace n_m_df : h_889.2.1 m_df = F_df := (funext fun j => (hs.a g_m_df rfl j).1).trans n_m_df
  replace n_b_kf : h_889.2.1 b_kf = B_kf := (funext fun j => (hs.a g_b_kf rfl j).1).trans n_b_kf
  replace n_m_kf : h_889.2.1 m_kf = F_kf := (funext fun j => (hs.a g_m_kf rfl j).1).trans n_m_kf
  replace n_b_sf : h_889.2.1 b_sf = B_sf := (funext fun j => (hs.a g_b_sf rfl j).1).trans n_b_sf
  replace n_m_sf : h_889.2.1 m_sf = F_sf := (funext fun j => (hs.a g_m_sf rfl j).1).trans n_m_sf
  replace n_b_bf : h_889.2.1 b_bf = bfL := (funext fun j => (hs.a g_b_bf rfl j).1).trans n_b_bf
  replace n_lst : h_889.2.1 m_lst = F_lst := (funext fun j => (hs.a g_m_lst rfl j).1).trans n_lst
  replace n_tp : h_889.2.1 m_tp = F_tp := (funext fun j => (hs.a g_m_tp rfl j).1).trans n_tp
  replace n_qtp : h_889.2.1 qtp = F_tp := (funext fun j => (hs.a g_qtp rfl j).1).trans n_qtp
  replace n_dead : h_889.2.1 m_dead = F_dead := (funext fun j => (hs.a g_m_dead rfl j).1).trans n_dead
  replace n_isj : h_889.2.1 m_isj = F_isj := (funext fun j => (hs.a g_m_isj rfl j).1).trans n_isj
  replace n_dox : h_889.2.1 m_dox = F_dox := (funext fun j => (hs.a g_m_dox rfl j).1).trans n_dox
  replace n_doy : h_889.2.1 m_doy = F_doy := (funext fun j => (hs.a g_m_doy rfl j).1).trans n_doy
  replace n_qlt : h_889.2.1 qlt = F_qlt := (funext fun j => (hs.a g_qlt rfl j).1).trans n_qlt
  replace n_m_wkd : h_889.2.1 m_wkd = F_m_wkd := (funext fun j => (hs.a g_m_wkd rfl j).1).trans n_m_wkd
  replace n_aga : h_889.2.1 m_aga = F_aga := (funext fun j => (hs.a g_m_aga rfl j).1).trans n_aga
  replace n_ad : h_889.2.1 m_ad = F_ad := (funext fun j => (hs.a g_m_ad rfl j).1).trans n_ad
  replace n_by : h_889.2.1 m_by = F_by := (funext fun j => (hs.a g_m_by rfl j).1).trans n_by
  replace n_ho : h_889.2.1 m_ho = F_ho := (funext fun j => (hs.a g_m_ho rfl j).1).trans n_ho
  replace n_fc : h_889.2.1 m_fc = F_fc := (funext fun j => (hs.a g_m_fc rfl j).1).trans n_fc
  replace n_nt : h_889.2.1 m_nt = F_nt := (funext fun j => (hs.a g_m_nt rfl j).1).trans n_nt
  replace n_wt : h_889.2.1 m_wt = F_wt := (funext fun j => (hs.a g_m_wt rfl j).1).trans n_wt
  replace n_be : h_889.2.1 m_be = F_be := (funext fun j => (hs.a g_m_be rfl j).1).trans n_be
  replace n_bor : h_889.2.1 m_bor = F_bor := (funext fun j => (hs.a g_m_bor rfl j).1).trans n_bor
  replace n_kin : h_889.2.1 m_kin = F_kin := (funext fun j => (hs.a g_m_kin rfl j).1).trans n_kin
  replace n_sum : h_889.2.1 m_sum = F_sum := (funext fun j => (hs.a g_m_sum rfl j).1).trans n_sum
  replace n_fro : h_889.2.1 m_fro = F_fro := (funext fun j => (hs.a g_m_fro rfl j).1).trans n_fro
  replace n_fil : h_889.2.1 m_fil = F_fil := (funext fun j => (hs.a g_m_fil rfl j).1).trans n_fil
  replace n_jud : h_889.2.1 m_jud = F_jud := (funext fun j => (hs.a g_m_jud rfl j).1).trans n_jud
  replace n_ear : h_889.2.1 m_ear = F_ear := (funext fun j => (hs.a g_m_ear rfl j).1).trans n_ear
  replace n_hds : h_889.2.1 m_hds = F_hds := (funext fun j => (hs.a g_m_hds rfl j).1).trans n_hds
  replace n_ord : h_889.2.1 m_ord = F_ord := (funext fun j => (hs.a g_m_ord rfl j).1).trans n_ord
  replace n_wkl : h_889.2.1 m_wkl = F_wkl := (funext fun j => (hs.a g_m_wkl rfl j).1).trans n_wkl
  replace n_owd : h_889.2.1 m_owd = F_owd := (funext fun j => (hs.a g_m_owd rfl j).1).trans n_owd
  replace n_gds : h_889.2.1 m_gds = F_gds := (funext fun j => (hs.a g_m_gds rfl j).1).trans n_gds
  replace n_szd : h_889.2.1 m_szd = F_szd := (funext fun j => (hs.a g_m_szd rfl j).1).trans n_szd
  replace n_srv : h_889.2.1 m_srv = F_srv := (funext fun j => (hs.a g_m_srv rfl j).1).trans n_srv
  replace n_p0 : h_889.2.1 m_p0 = F_p0 := (funext fun j => (hs.a g_m_p0 rfl j).1).trans n_p0
  replace n_y_p0 : h_889.2.1 y_p0 = F_p0 := (funext fun j => (hs.a g_y_p0 rfl j).1).trans n_y_p0
  replace n_p1 : h_889.2.1 m_p1 = F_p1 := (funext fun j => (hs.a g_m_p1 rfl j).1).trans n_p1
  replace n_y_p1 : h_889.2.1 y_p1 = F_p1 := (funext fun j => (hs.a g_y_p1 rfl j).1).trans n_y_p1
  replace n_p2 : h_889.2.1 m_p2 = F_p2 := (funext fun j => (hs.a g_m_p2 rfl j).1).trans n_p2
  replace n_y_p2 : h_889.2.1 y_p2 = F_p2 := (funext fun j => (hs.a g_y_p2 rfl j).1).trans n_y_p2
  replace n_p3 : h_889.2.1 m_p3 = F_p3 := (funext fun j => (hs.a g_m_p3 rfl j).1).trans n_p3
  replace n_y_p3 : h_889.2.1 y_p3 = F_p3 := (funext fun j => (hs.a g_y_p3 rfl j).1).trans n_y_p3
  replace n_p4 : h_889.2.1 m_p4 = F_p4 := (funext fun j => (hs.a g_m_p4 rfl j).1).trans n_p4
  replace n_y_p4 : h_889.2.1 y_p4 = F_p4 := (funext fun j => (hs.a g_y_p4 rfl j).1).trans n_y_p4
  replace n_y_ls : h_889.2.1 y_ls = F_y_ls := (funext fun j => (hs.a g_y_ls rfl j).1).trans n_y_ls
  replace n_m_rl : h_889.2.1 m_rl = F_m_rl := (funext fun j => (hs.a g_m_rl rfl j).1).trans n_m_rl
  replace gx := gx.S hs
  replace gm := gm.S hs
  replace g_qa := g_qa.S hs
  replace g_qp := g_qp.S hs
  replace g_qc := g_qc.S hs
  replace g_qh := g_qh.S hs
  replace g_qw := g_qw.S hs
  replace g_ql := g_ql.S hs
  replace g_mw := g_mw.S hs
  replace g_mr := g_mr.S hs
  replace g_mp := g_mp.S hs
  replace g_mn := g_mn.S hs
  replace g_ml := g_ml.S hs
  replace g_mh := g_mh.S hs
  replace g_mt := g_mt.S hs
  replace g_m_fou := g_m_fou.S hs
  replace g_qo_ln := g_qo_ln.S hs
  replace g_qo_py := g_qo_py.S hs
  replace g_b_of := g_b_of.S hs
  replace g_m_of := g_m_of.S hs
  replace g_b_wf := g_b_wf.S hs
  replace g_m_wf := g_m_wf.S hs
  replace g_b_df := g_b_df.S hs
  replace g_m_df := g_m_df.S hs
  replace g_b_kf := g_b_kf.S hs
  replace g_m_kf := g_m_kf.S hs
  replace g_b_sf := g_b_sf.S hs
  replace g_m_sf := g_m_sf.S hs
  replace g_b_bf := g_b_bf.S hs
  replace g_m_lst := g_m_lst.S hs
  replace g_qtp := g_qtp.S hs
  replace g_m_tp := g_m_tp.S hs
  replace g_m_dead := g_m_dead.S hs
  replace g_m_isj := g_m_isj.S hs
  replace g_m_dox := g_m_dox.S hs
  replace g_m_doy := g_m_doy.S hs
  replace g_qlt := g_qlt.S hs
  replace g_qlf := g_qlf.S hs
  replace g_m_wkd := g_m_wkd.S hs
  replace g_m_aga := g_m_aga.S hs
  replace g_qwo := g_qwo.S hs
  replace g_m_ad := g_m_ad.S hs
  replace g_m_by := g_m_by.S hs
  replace g_m_ho := g_m_ho.S hs
  replace g_m_fc := g_m_fc.S hs
  replace g_m_nt := g_m_nt.S hs
  replace g_m_wt := g_m_wt.S hs
  replace g_m_be := g_m_be.S hs
  replace g_m_bor := g_m_bor.S hs
  replace g_m_kin := g_m_kin.S hs
  replace g_m_sum := g_m_sum.S hs
  replace g_m_fro := g_m_fro.S hs
  replace g_m_fil := g_m_fil.S hs
  replace g_m_jud := g_m_jud.S hs
  replace g_m_ear := g_m_ear.S hs
  replace g_m_hds := g_m_hds.S hs
  replace g_m_ord := g_m_ord.S hs
  replace g_m_wkl := g_m_wkl.S hs
  replace g_m_owd := g_m_owd.S hs
  replace g_m_gds := g_m_gds.S hs
  replace g_m_szd := g_m_szd.S hs
  replace g_m_srv := g_m_srv.S hs
  replace g_y_p0 := g_y_p0.S hs
  replace g_m_p0 := g_m_p0.S hs
  replace g_y_p1 := g_y_p1.S hs
  replace g_m_p1 := g_m_p1.S hs
  replace g_y_p2 := g_y_p2.S hs
  replace g_m_p2 := g_m_p2.S hs
  replace g_y_p3 := g_y_p3.S hs
  replace g_m_p3 := g_m_p3.S hs
  replace g_y_p4 := g_y_p4.S hs
  replace g_m_p4 := g_m_p4.S hs
  replace g_qrg9 := g_qrg9.S hs
  replace g_y_ls := g_y_ls.S hs
  replace g_m_rl := g_m_rl.S hs
  refine lv_pop hx hb dL_law_1319 rfl ?_
  refine lv_goto (tgt := 1379) hx hb dL_law_1320 ?o44 ?_
  case o44 => decide
  refine W.widen (k := CC + 3) (n := SS + 179) ?o45 ?o46 ?_
  case o45 => omega
  case o46 => omega
  refine kk L_888 h_889 H locs ls hW ⟨hT, gx, gm, ⟨f_x_now.trans f_m_now.symm, f_x_personCount.trans f_m_persons.symm, f_x_claimCount.trans f_m_claims.symm, f_x_tapeLength.trans f_m_taped.symm, f_x_actCount.trans f_m_acts.symm, f_x_heardCount.trans f_m_heardMany.symm, hx_ob f_qo_ln (f_o_ln.trans f_m_lines.symm), hx_ob f_qw (f_o_lsd.trans f_m_listed.symm), hx_ob f_qw (f_o_wkm.trans f_m_walkedMany.symm), hx_ob f_qo_py (f_o_py.trans f_m_payments.symm), hx_ob f_qp ?o47, hx_ob f_qc ?o48, (fun b a r hb ha hr => ?o49), (fun b a r hb ha hr => ?o50), (fun b a r hb ha hr => ?o51), (fun b a r hb ha hr => ?o52), (fun b a r hb ha hr => ?o53), (fun b a r hb ha hr => ?o54), (fun w q c hw hq hc => ?o55), (fun w q r hw hq hr => ?o56), (fun w q r hw hq hr => ?o57), (fun c q a hc hq ha => ?o58), (fun q r hq hr => ?o59), (fun q w a b c d e p hq hw ha hb hc hd he hp => ?o60), (fun c q a hc hq ha => ?o61), (fun q c a hq hc ha => ?o62), (fun a b ha hb => ?o63), (fun c a b d e f hc ha hb hd he hf => ?o64), (fun c a hc ha => ?o65), hx_ob2 f_qp f_m_bor (cl_bor.trans n_bor.symm), hx_ob2 f_qp f_m_kin (cl_kin.trans n_kin.symm), hx_ob2 f_qc f_m_sum (cl_sum.trans n_sum.symm), hx_ob2 f_qc f_m_fro (cl_fro.trans n_fro.symm), hx_ob2 f_qc f_m_fil (cl_fil.trans n_fil.symm), hx_ob2 f_qc f_mh (cl_hea.trans n_mh.symm), hx_ob2 f_qc f_m_jud (cl_jud.trans n_jud.symm), hx_ob2 f_qp f_m_ear (cl_ear.trans n_ear.symm), hx_ob2 f_qp f_m_hds (cl_hds.trans n_hds.symm), hx_ob2 f_qc f_m_ord (cl_ord.trans n_ord.symm), hx_ob2 f_qc f_m_wkl (cl_wkl.trans n_wkl.symm), hx_ob2 f_qc f_m_owd (cl_owd.trans n_owd.symm), hx_ob2 f_qc f_m_gds (cl_gds.trans n_gds.symm), hx_ob2 f_qc f_m_szd (cl_szd.trans n_szd.symm), hx_ob2 f_qc f_m_srv (cl_srv.trans n_srv.symm), (fun p q r hp hq hr => ?o66), (fun p q r hp hq hr => ?o67), (fun p q r hp hq hr => ?o68), (fun p q r hp hq hr => ?o69), (fun p q r hp hq hr => ?o70), (fun p hp => ?o71), (fun p q r hp hq hr => ?o72), hx_ob2 f_qp f_m_dead ?o73, hx_ob2 f_qp f_m_isj ?o74, hx_ob2 f_qp f_m_dox ?o75, hx_ob2 f_qp f_m_doy ?o76, hx_ob2 f_qc f_m_fou ?o77, hx_ob2 f_qc f_mt ?o78, trivial⟩, ⟨hx_ob f_qa pf_qa, hx_ob f_qp pf_qp, hx_ob f_qc pf_qc, hx_ob f_qh pf_qh, (fun w q hw hq => ?o79)⟩, ⟨hx_ob f_mw ?o80, hx_ob f_mr ?o81, hx_ob2 f_mp f_mn ?o82, hx_ob f_ml ?o83, hx_ob f_mh ?o84, hx_ob f_mt ?o85, hx_ob2 f_mh f_m_fou ?o87⟩⟩ hl
  case o47 =>
    rw [f_x_personCount]
    exact nu_qp
  case o48 =>
    rw [f_x_claimCount]
    exact nu_qc
  case o49 =>
    obtain rfl : qo_ln = b := Option.some.inj (f_qo_ln.symm.trans hb)
    obtain rfl : b_of = a := Option.some.inj (f_b_of.symm.trans ha)
    obtain rfl : m_of = r := Option.some.inj (f_m_of.symm.trans hr)
    rw [n_b_of, n_m_of, f_o_ln]
    exact eb_of
  case o50 =>
    obtain rfl : qo_ln = b := Option.some.inj (f_qo_ln.symm.trans hb)
    obtain rfl : b_wf = a := Option.some.inj (f_b_wf.symm.trans ha)
    obtain rfl : m_wf = r := Option.some.inj (f_m_wf.symm.trans hr)
    rw [n_b_wf, n_m_wf, f_o_ln]
    exact eb_wf
  case o51 =>
    obtain rfl : qo_ln = b := Option.some.inj (f_qo_ln.symm.trans hb)
    obtain rfl : b_df = a := Option.some.inj (f_b_df.symm.trans ha)
    obtain rfl : m_df = r := Option.some.inj (f_m_df.symm.trans hr)
    rw [n_b_df, n_m_df, f_o_ln]
    exact eb_df
  case o52 =>
    obtain rfl : qo_ln = b := Option.some.inj (f_qo_ln.symm.trans hb)
    obtain rfl : b_kf = a := Option.some.inj (f_b_kf.symm.trans ha)
    obtain rfl : m_kf = r := Option.some.inj (f_m_kf.symm.trans hr)
    rw [n_b_kf, n_m_kf, f_o_ln]
    exact eb_kf
  case o53 =>
    obtain rfl : qo_ln = b := Option.some.inj (f_qo_ln.symm.trans hb)
    obtain rfl : b_sf = a := Option.some.inj (f_b_sf.symm.trans ha)
    obtain rfl : m_sf = r := Option.some.inj (f_m_sf.symm.trans hr)
    rw [n_b_sf, n_m_sf, f_o_ln]
    exact eb_sf
  case o54 =>
    obtain rfl : qo_ln = b := Option.some.inj (f_qo_ln.symm.trans hb)
    obtain rfl : b_df = a := Option.some.inj (f_b_df.symm.trans ha)
    obtain rfl : b_bf = r := Option.some.inj (f_b_bf.symm.trans hr)
    rw [n_b_df, n_b_bf, f_o_ln]
    exact ⟨hBD, hDY⟩
  case o55 =>
    obtain rfl : qw = w := Option.some.inj (f_qw.symm.trans hw)
    obtain rfl : ql = q := Option.some.inj (f_ql.symm.trans hq)
    obtain rfl : qc = c := Option.some.inj (f_qc.symm.trans hc)
    exact sb_list
  case o56 =>
    obtain rfl : qw = w := Option.some.inj (f_qw.symm.trans hw)
    obtain rfl : ql = q := Option.some.inj (f_ql.symm.trans hq)
    obtain rfl : m_lst = r := Option.some.inj (f_m_lst.symm.trans hr)
    rw [cl_lst, n_lst]
    exact eq_lst
  case o57 =>
    obtain rfl : qw = w := Option.some.inj (f_qw.symm.trans hw)
    obtain rfl : qlt = q := Option.some.inj (f_qlt.symm.trans hq)
    obtain rfl : m_wkd = r := Option.some.inj (f_m_wkd.symm.trans hr)
    rw [n_qlt, n_m_wkd, f_o_wkm]
    exact eb_wkd
  case o58 =>
    obtain rfl : qc = c := Option.some.inj (f_qc.symm.trans hc)
    obtain rfl : qp = q := Option.some.inj (f_qp.symm.trans hq)
    obtain rfl : m_aga = a := Option.some.inj (f_m_aga.symm.trans ha)
    rw [n_aga, f_x_claimCount]
    exact hw_DF_e hDF rfl rfl
  case o59 =>
    obtain rfl : qtp = q := Option.some.inj (f_qtp.symm.trans hq)
    obtain rfl : m_tp = r := Option.some.inj (f_m_tp.symm.trans hr)
    exact n_qtp.trans n_tp.symm
  case o60 =>
    obtain rfl : qa = q := Option.some.inj (f_qa.symm.trans hq)
    obtain rfl : qwo = w := Option.some.inj (f_qwo.symm.trans hw)
    obtain rfl : m_ad = a := Option.some.inj (f_m_ad.symm.trans ha)
    obtain rfl : mr = b := Option.some.inj (f_mr.symm.trans hb)
    obtain rfl : mn = c := Option.some.inj (f_mn.symm.trans hc)
    obtain rfl : mp = d := Option.some.inj (f_mp.symm.trans hd)
    obtain rfl : qc = e := Option.some.inj (f_qc.symm.trans he)
    obtain rfl : ml = p := Option.some.inj (f_ml.symm.trans hp)
    exact ⟨_, by rw [f_x_actCount]; exact hRA9, by rw [f_x_actCount, n_ad, n_mr, n_mn, n_mp]; exact hCA9, by rw [n_ml, f_x_claimCount]; exact hv_AC_e hAC9 rfl rfl rfl, hAB⟩
  case o61 =>
    obtain rfl : qc = c := Option.some.inj (f_qc.symm.trans hc)
    obtain rfl : qp = q := Option.some.inj (f_qp.symm.trans hq)
    obtain rfl : m_by = a := Option.some.inj (f_m_by.symm.trans ha)
    rw [n_by, f_x_claimCount]
    exact hw_DF_e hDP rfl rfl
  case o62 =>
    obtain rfl : qh = q := Option.some.inj (f_qh.symm.trans hq)
    obtain rfl : qc = c := Option.some.inj (f_qc.symm.trans hc)
    obtain rfl : m_ho = a := Option.some.inj (f_m_ho.symm.trans ha)
    rw [n_ho, f_x_heardCount, f_x_claimCount]
    exact hv_HL_e hHL rfl rfl rfl
  case o63 =>
    obtain rfl : m_ho = a := Option.some.inj (f_m_ho.symm.trans ha)
    obtain rfl : mh = b := Option.some.inj (f_mh.symm.trans hb)
    rw [n_ho, n_mh, f_m_heardMany, f_m_claims]
    exact hHO9
  case o64 =>
    obtain rfl : qc = c := Option.some.inj (f_qc.symm.trans hc)
    obtain rfl : m_fc = a := Option.some.inj (f_m_fc.symm.trans ha)
    obtain rfl : m_nt = b := Option.some.inj (f_m_nt.symm.trans hb)
    obtain rfl : m_wt = d := Option.some.inj (f_m_wt.symm.trans hd)
    obtain rfl : m_sum = e := Option.some.inj (f_m_sum.symm.trans he)
    obtain rfl : mh = f := Option.some.inj (f_mh.symm.trans hf)
    exact ⟨cF9L, by rw [f_x_claimCount]; exact hFX, by rw [n_fc, n_nt, n_wt, n_sum, n_mh, f_x_claimCount]; exact hFR9⟩
  case o65 =>
    obtain rfl : qc = c := Option.some.inj (f_qc.symm.trans hc)
    obtain rfl : m_be = a := Option.some.inj (f_m_be.symm.trans ha)
    rw [n_be, f_x_claimCount]
    exact hv_FX_e hBX rfl rfl
  case o66 =>
    obtain rfl : qo_py = p := Option.some.inj (f_qo_py.symm.trans hp)
    obtain rfl : y_p0 = q := Option.some.inj (f_y_p0.symm.trans hq)
    obtain rfl : m_p0 = r := Option.some.inj (f_m_p0.symm.trans hr)
    exact n_y_p0.trans n_p0.symm
  case o67 =>
    obtain rfl : qo_py = p := Option.some.inj (f_qo_py.symm.trans hp)
    obtain rfl : y_p1 = q := Option.some.inj (f_y_p1.symm.trans hq)
    obtain rfl : m_p1 = r := Option.some.inj (f_m_p1.symm.trans hr)
    exact n_y_p1.trans n_p1.symm
  case o68 =>
    obtain rfl : qo_py = p := Option.some.inj (f_qo_py.symm.trans hp)
    obtain rfl : y_p2 = q := Option.some.inj (f_y_p2.symm.trans hq)
    obtain rfl : m_p2 = r := Option.some.inj (f_m_p2.symm.trans hr)
    exact n_y_p2.trans n_p2.symm
  case o69 =>
    obtain rfl : qo_py = p := Option.some.inj (f_qo_py.symm.trans hp)
    obtain rfl : y_p3 = q := Option.some.inj (f_y_p3.symm.trans hq)
    obtain rfl : m_p3 = r := Option.some.inj (f_m_p3.symm.trans hr)
    exact n_y_p3.trans n_p3.symm
  case o70 =>
    obtain rfl : qo_py = p := Option.some.inj (f_qo_py.symm.trans hp)
    obtain rfl : y_p4 = q := Option.some.inj (f_y_p4.symm.trans hq)
    obtain rfl : m_p4 = r := Option.some.inj (f_m_p4.symm.trans hr)
    exact n_y_p4.trans n_p4.symm
  case o71 =>
    obtain rfl : qrg9 = p := Option.some.inj (f_qrg9.symm.trans hp)
    rw [ffv_871, ffv_872, ffv_873]
    exact hNQ9
  case o72 =>
    obtain rfl : qrg9 = p := Option.some.inj (f_qrg9.symm.trans hp)
    obtain rfl : y_ls = q := Option.some.inj (f_y_ls.symm.trans hq)
    obtain rfl : m_rl = r := Option.some.inj (f_m_rl.symm.trans hr)
    rw [n_y_ls, n_m_rl, ffv_871]
    exact hRL9
  case o73 =>
    rw [cl_dead, n_dead]
    exact eq_dead
  case o74 =>
    rw [cl_isj, n_isj]
    exact eq_isj
  case o75 =>
    rw [cl_dox, n_dox]
    exact eq_dox
  case o76 =>
    rw [cl_doy, n_doy]
    exact eq_doy
  case o77 =>
    rw [cl_fou, n_m_fou]
    exact eq_fou
  case o78 =>
    rw [cl_tri, n_mt]
    exact eq_tri
  case o79 =>
    obtain rfl : qw = w := Option.some.inj (f_qw.symm.trans hw)
    obtain rfl : ql = q := Option.some.inj (f_ql.symm.trans hq)
    exact pf_ql
  case o80 =>
    rw [n_mw]
    exact hwd
  case o81 =>
    rw [n_mr, f_m_acts]
    exact hWK
  case o82 =>
    rw [n_mp, n_mn, f_m_acts]
    exact hRP
  case o83 =>
    rw [n_ml, f_m_claims, f_m_acts]
    exact hPL
  case o84 =>
    rw [n_mh, f_m_heardMany, f_m_claims]
    exact hHC
  case o85 =>
    rw [n_mt]
    refine (hx_TR_le hTR ?o86)
    case o86 => omega
  case o87 =>
    rw [n_mh, n_m_fou, f_m_claims]
    exact hHF

set_option maxHeartbeats 4000000 in
set_option maxRecDepth 100000 in
theorem law_case_29 {p : Program} {e : Env} {s : State} {m : MethodId} {below : List Frame} {meth : Method} {c : Code} (l : Launch) {b LN : Nat} {xs : Nat → Int32} (hx : p.tables.exec = Jvm.exec) (hb : c.code = code) (hr : meth.sig.returnType = ret) (hlocks : meth.locks = false) (hml : c.maxLocals = 4) (hown : s.vm.findClass "SmallCourtLaw" = some m.cls) (hts : ∀ w ∈ hx_all, w.before #[Value.ref b] s = true) (hX : va_X b LN xs s s.heap) (hbl : b < s.heap.size) (hbA : ¬ s.heap.size ≤ b) (hLN : LN ≤ 3584) (dC : Nat → ClassId) (dI : Nat → Nat → Nat) (dA : Nat → ClassId) (b0 : hx_z) (ax am : Nat) (T1 : Int) (hT0 : 0 ≤ T1) (hT1 : T1 ≤ 511) (i : Int32) (hi0 : 0 ≤ i.toInt) (hiL : i.toInt + 7 ≤ LN) (CC SS : Nat) (hCC : CC + 3 ≤ 600000) (hSS : SS + 179 ≤ 7302250) (L1 : List Nat) (hl1 : hx_h) (H : Heap) (locs : List Loc) (ls : Array Slot) (hW : hx_W T_tb (P_ty dA) (dC, dI) vwCl (fun q : Nat => s.heap.size ≤ q) s.heap L1 hl1 s H locs) (hZ : hx_Xt (fun q : Nat => s.heap.size ≤ q) b0 s) (hI : hx_IV T1 ax am L1 hl1) (hl : lv_has ls 4 [(3, .int i), (2, .ref am), (1, .ref ax), (0, .ref b)]) (kk : ∀ (L2 : List Nat) (h2 : hx_h) (H2 : Heap) (locs2 : List Loc) (ls2 : Array Slot), hx_W T_tb (P_ty dA) (dC, dI) vwCl (fun q : Nat => s.heap.size ≤ q) s.heap L2 h2 s H2 locs2 → hx_IV (T1 + 1) ax am L2 h2 → lv_has ls2 4 [(3, .int i), (2, .ref am), (1, .ref ax), (0, .ref b)] → W p l e room_1 s m #[Value.ref b] below meth c H2 locs2 (CC + 3) (SS + 179) (lw_Z below #[Value.ref b] s) (F0 m 1379 ls2 [])) : W p l e room_1 s m #[Value.ref b] below meth c H locs CC SS (lw_Z below #[Value.ref b] s) (F0 m 1323 ls []) := by
  have hI9 := hI
  have hT := hI9.1
  replace hI9 := hI9.2
  have gx := hI9.1
  replace hI9 := hI9.2
  have gm := hI9.1
  replace hI9 := hI9.2
  have zq0_3 := hI9.1
  have he_nw := zq0_3.1
  replace zq0_3 := zq0_3.2
  have he_np := zq0_3.1
  replace zq0_3 := zq0_3.2
  have he_c0 := zq0_3.1
  replace zq0_3 := zq0_3.2
  have he_tl := zq0_3.1
  replace zq0_3 := zq0_3.2
  have he_a0 := zq0_3.1
  replace zq0_3 := zq0_3.2
  have he_m0 := zq0_3.1
  replace zq0_3 := zq0_3.2
  have ho_ln := zq0_3.1
  replace zq0_3 := zq0_3.2
  have ho_lsd := zq0_3.1
  replace zq0_3 := zq0_3.2
  have ho_wkm := zq0_3.1
  replace zq0_3 := zq0_3.2
  have ho_py := zq0_3.1
  replace zq0_3 := zq0_3.2
  have hn_qp := zq0_3.1
  replace zq0_3 := zq0_3.2
  have hn_qc := zq0_3.1
  replace zq0_3 := zq0_3.2
  have hk_of := zq0_3.1
  replace zq0_3 := zq0_3.2
  have hk_wf := zq0_3.1
  replace zq0_3 := zq0_3.2
  have hk_df := zq0_3.1
  replace zq0_3 := zq0_3.2
  have hk_kf := zq0_3.1
  replace zq0_3 := zq0_3.2
  have hk_sf := zq0_3.1
  replace zq0_3 := zq0_3.2
  have hkBD := zq0_3.1
  replace zq0_3 := zq0_3.2
  have hLQ := zq0_3.1
  replace zq0_3 := zq0_3.2
  have hLE := zq0_3.1
  replace zq0_3 := zq0_3.2
  have hkWD := zq0_3.1
  replace zq0_3 := zq0_3.2
  have hkDF := zq0_3.1
  replace zq0_3 := zq0_3.2
  have hkTP := zq0_3.1
  replace zq0_3 := zq0_3.2
  have hkAC := zq0_3.1
  replace zq0_3 := zq0_3.2
  have hkDP := zq0_3.1
  replace zq0_3 := zq0_3.2
  have hkHL := zq0_3.1
  replace zq0_3 := zq0_3.2
  have hkHO := zq0_3.1
  replace zq0_3 := zq0_3.2
  have hkFX := zq0_3.1
  replace zq0_3 := zq0_3.2
  have hkBX := zq0_3.1
  replace zq0_3 := zq0_3.2
  have hf_bor := zq0_3.1
  replace zq0_3 := zq0_3.2
  have hf_kin := zq0_3.1
  replace zq0_3 := zq0_3.2
  have hf_sum := zq0_3.1
  replace zq0_3 := zq0_3.2
  have hf_fro := zq0_3.1
  replace zq0_3 := zq0_3.2
  have hf_fil := zq0_3.1
  replace zq0_3 := zq0_3.2
  have hf_hea := zq0_3.1
  replace zq0_3 := zq0_3.2
  have hf_jud := zq0_3.1
  replace zq0_3 := zq0_3.2
  have hf_ear := zq0_3.1
  replace zq0_3 := zq0_3.2
  have hf_hds := zq0_3.1
  replace zq0_3 := zq0_3.2
  have hf_ord := zq0_3.1
  replace zq0_3 := zq0_3.2
  have hf_wkl := zq0_3.1
  replace zq0_3 := zq0_3.2
  have hf_owd := zq0_3.1
  replace zq0_3 := zq0_3.2
  have hf_gds := zq0_3.1
  replace zq0_3 := zq0_3.2
  have hf_szd := zq0_3.1
  replace zq0_3 := zq0_3.2
  have hf_srv := zq0_3.1
  replace zq0_3 := zq0_3.2
  have hkP0 := zq0_3.1
  replace zq0_3 := zq0_3.2
  have hkP1 := zq0_3.1
  replace zq0_3 := zq0_3.2
  have hkP2 := zq0_3.1
  replace zq0_3 := zq0_3.2
  have hkP3 := zq0_3.1
  replace zq0_3 := zq0_3.2
  have hkP4 := zq0_3.1
  replace zq0_3 := zq0_3.2
  have hkNQ := zq0_3.1
  replace zq0_3 := zq0_3.2
  have hkRL := zq0_3.1
  replace zq0_3 := zq0_3.2
  have hc_dead := zq0_3.1
  replace zq0_3 := zq0_3.2
  have hc_isj := zq0_3.1
  replace zq0_3 := zq0_3.2
  have hc_dox := zq0_3.1
  replace zq0_3 := zq0_3.2
  have hc_doy := zq0_3.1
  replace zq0_3 := zq0_3.2
  have hc_fou := zq0_3.1
  replace zq0_3 := zq0_3.2
  have hc_tri := zq0_3.1
  replace zq0_3 := zq0_3.2
  replace hI9 := hI9.2
  have zq0_4 := hI9.1
  have ia := zq0_4.1
  replace zq0_4 := zq0_4.2
  have ip := zq0_4.1
  replace zq0_4 := zq0_4.2
  have ic := zq0_4.1
  replace zq0_4 := zq0_4.2
  have ih := zq0_4.1
  replace zq0_4 := zq0_4.2
  have il := zq0_4
  replace hI9 := hI9.2
  have zq0_5 := hI9
  have jw := zq0_5.1
  replace zq0_5 := zq0_5.2
  have jr := zq0_5.1
  replace zq0_5 := zq0_5.2
  have jp := zq0_5.1
  replace zq0_5 := zq0_5.2
  have jl := zq0_5.1
  replace zq0_5 := zq0_5.2
  have jh := zq0_5.1
  replace zq0_5 := zq0_5.2
  have jt := zq0_5.1
  replace zq0_5 := zq0_5.2
  have jf := zq0_5
  obtain ⟨qa, f_qa, g_qa⟩ := hx_rf hT gx tt_9 (k := 5) (u := 43) rfl
  have pf_qa := ia qa f_qa
  obtain ⟨qp, f_qp, g_qp⟩ := hx_rf hT gx tt_9 (k := 7) (u := 44) rfl
  have pf_qp := ip qp f_qp
  obtain ⟨qc, f_qc, g_qc⟩ := hx_rf hT gx tt_9 (k := 10) (u := 45) rfl
  have pf_qc := ic qc f_qc
  obtain ⟨qh, f_qh, g_qh⟩ := hx_rf hT gx tt_9 (k := 12) (u := 46) rfl
  have pf_qh := ih qh f_qh
  obtain ⟨qw, f_qw, g_qw⟩ := hx_rf hT gx tt_9 (k := 19) (u := 8) rfl
  obtain ⟨ql, f_ql, g_ql⟩ := hx_rf hT g_qw tt_8 (k := 3) (u := 40) rfl
  have pf_ql := il qw ql f_qw f_ql
  obtain ⟨nw, f_m_now⟩ : ∃ y : Int32, hl1.2.1 am 0 = y := ⟨_, rfl⟩
  have b_nw := hT.gi gm tt_10 (k := 0) rfl
  rw [f_m_now] at b_nw
  have b_nw : 0 ≤ nw.toInt ∧ nw.toInt ≤ 7999 := b_nw
  obtain ⟨np, f_m_persons⟩ : ∃ y : Int32, hl1.2.1 am 20 = y := ⟨_, rfl⟩
  have b_np := hT.gi gm tt_10 (k := 20) rfl
  rw [f_m_persons] at b_np
  have b_np : 0 ≤ np.toInt ∧ np.toInt ≤ 40 := b_np
  obtain ⟨c0, f_m_claims⟩ : ∃ y : Int32, hl1.2.1 am 36 = y := ⟨_, rfl⟩
  have b_c0 := hT.gi gm tt_10 (k := 36) rfl
  rw [f_m_claims] at b_c0
  have b_c0 : 0 ≤ c0.toInt ∧ c0.toInt ≤ 100 := b_c0
  obtain ⟨tl, f_m_taped⟩ : ∃ y : Int32, hl1.2.1 am 7 = y := ⟨_, rfl⟩
  have b_tl := hT.gi gm tt_10 (k := 7) rfl
  rw [f_m_taped] at b_tl
  have b_tl : 0 ≤ tl.toInt ∧ tl.toInt ≤ 400 := b_tl
  obtain ⟨a0, f_m_acts⟩ : ∃ y : Int32, hl1.2.1 am 1 = y := ⟨_, rfl⟩
  have b_a0 := hT.gi gm tt_10 (k := 1) rfl
  rw [f_m_acts] at b_a0
  have b_a0 : 0 ≤ a0.toInt ∧ a0.toInt ≤ 8 := b_a0
  obtain ⟨m0, f_m_heardMany⟩ : ∃ y : Int32, hl1.2.1 am 57 = y := ⟨_, rfl⟩
  have b_m0 := hT.gi gm tt_10 (k := 57) rfl
  rw [f_m_heardMany] at b_m0
  have b_m0 : 0 ≤ m0.toInt ∧ m0.toInt ≤ 100 := b_m0
  obtain ⟨ln, f_m_lines⟩ : ∃ y : Int32, hl1.2.1 am 29 = y := ⟨_, rfl⟩
  have b_ln := hT.gi gm tt_10 (k := 29) rfl
  rw [f_m_lines] at b_ln
  have b_ln : 0 ≤ ln.toInt ∧ ln.toInt ≤ 400 := b_ln
  obtain ⟨lsd, f_m_listed⟩ : ∃ y : Int32, hl1.2.1 am 90 = y := ⟨_, rfl⟩
  have b_lsd := hT.gi gm tt_10 (k := 90) rfl
  rw [f_m_listed] at b_lsd
  have b_lsd : 0 ≤ lsd.toInt ∧ lsd.toInt ≤ 8 := b_lsd
  obtain ⟨wkm, f_m_walkedMany⟩ : ∃ y : Int32, hl1.2.1 am 92 = y := ⟨_, rfl⟩
  have b_wkm := hT.gi gm tt_10 (k := 92) rfl
  rw [f_m_walkedMany] at b_wkm
  have b_wkm : 0 ≤ wkm.toInt ∧ wkm.toInt ≤ 8 := b_wkm
  obtain ⟨py, f_m_payments⟩ : ∃ y : Int32, hl1.2.1 am 59 = y := ⟨_, rfl⟩
  have b_py := hT.gi gm tt_10 (k := 59) rfl
  rw [f_m_payments] at b_py
  have b_py : 0 ≤ py.toInt ∧ py.toInt ≤ 600 := b_py
  have f_x_now : hl1.2.1 ax 2 = nw := he_nw.trans f_m_now
  have f_x_personCount : hl1.2.1 ax 8 = np := he_np.trans f_m_persons
  have f_x_claimCount : hl1.2.1 ax 11 = c0 := he_c0.trans f_m_claims
  have f_x_tapeLength : hl1.2.1 ax 1 = tl := he_tl.trans f_m_taped
  have f_x_actCount : hl1.2.1 ax 6 = a0 := he_a0.trans f_m_acts
  have f_x_heardCount : hl1.2.1 ax 13 = m0 := he_m0.trans f_m_heardMany
  obtain ⟨mw, f_mw, g_mw⟩ := hx_rf hT gm tt_10 (k := 19) (u := 57) rfl
  obtain ⟨F_mw, n_mw⟩ : ∃ g : Nat → Int32, hl1.2.1 mw = g := ⟨_, rfl⟩
  obtain ⟨mr, f_mr, g_mr⟩ := hx_rf hT gm tt_10 (k := 3) (u := 50) rfl
  obtain ⟨F_mr, n_mr⟩ : ∃ g : Nat → Int32, hl1.2.1 mr = g := ⟨_, rfl⟩
  obtain ⟨mp, f_mp, g_mp⟩ := hx_rf hT gm tt_10 (k := 5) (u := 52) rfl
  obtain ⟨F_mp, n_mp⟩ : ∃ g : Nat → Int32, hl1.2.1 mp = g := ⟨_, rfl⟩
  obtain ⟨mn, f_mn, g_mn⟩ := hx_rf hT gm tt_10 (k := 4) (u := 51) rfl
  obtain ⟨F_mn, n_mn⟩ : ∃ g : Nat → Int32, hl1.2.1 mn = g := ⟨_, rfl⟩
  obtain ⟨ml, f_ml, g_ml⟩ := hx_rf hT gm tt_10 (k := 44) (u := 79) rfl
  obtain ⟨F_ml, n_ml⟩ : ∃ g : Nat → Int32, hl1.2.1 ml = g := ⟨_, rfl⟩
  obtain ⟨mh, f_mh, g_mh⟩ := hx_rf hT gm tt_10 (k := 47) (u := 82) rfl
  obtain ⟨F_mh, n_mh⟩ : ∃ g : Nat → Int32, hl1.2.1 mh = g := ⟨_, rfl⟩
  obtain ⟨mt, f_mt, g_mt⟩ := hx_rf hT gm tt_10 (k := 45) (u := 80) rfl
  obtain ⟨F_mt, n_mt⟩ : ∃ g : Nat → Int32, hl1.2.1 mt = g := ⟨_, rfl⟩
  obtain ⟨m_fou, f_m_fou, g_m_fou⟩ := hx_rf hT gm tt_10 (k := 46) (u := 81) rfl
  obtain ⟨F_m_fou, n_m_fou⟩ : ∃ g : Nat → Int32, hl1.2.1 m_fou = g := ⟨_, rfl⟩
  obtain ⟨qo_ln, f_qo_ln, g_qo_ln⟩ := hx_rf hT gx tt_9 (k := 9) (u := 1) rfl
  have f_o_ln : hl1.2.1 qo_ln 0 = ln := (ho_ln qo_ln f_qo_ln).trans f_m_lines
  have f_o_lsd : hl1.2.1 qw 0 = lsd := (ho_lsd qw f_qw).trans f_m_listed
  have f_o_wkm : hl1.2.1 qw 1 = wkm := (ho_wkm qw f_qw).trans f_m_walkedMany
  obtain ⟨qo_py, f_qo_py, g_qo_py⟩ := hx_rf hT gx tt_9 (k := 14) (u := 3) rfl
  have f_o_py : hl1.2.1 qo_py 0 = py := (ho_py qo_py f_qo_py).trans f_m_payments
  have nu_qp := hn_qp qp f_qp; rw [f_x_personCount] at nu_qp
  have nu_qc := hn_qc qc f_qc; rw [f_x_claimCount] at nu_qc
  obtain ⟨b_of, f_b_of, g_b_of⟩ := hx_rf hT g_qo_ln tt_1 (k := 1) (u := 13) rfl
  obtain ⟨B_of, n_b_of⟩ : ∃ g : Nat → Int32, hl1.2.1 b_of = g := ⟨_, rfl⟩
  obtain ⟨m_of, f_m_of, g_m_of⟩ := hx_rf hT gm tt_10 (k := 30) (u := 66) rfl
  obtain ⟨F_of, n_m_of⟩ : ∃ g : Nat → Int32, hl1.2.1 m_of = g := ⟨_, rfl⟩
  have eb_of := hk_of qo_ln b_of m_of f_qo_ln f_b_of f_m_of; rw [n_b_of, n_m_of, f_o_ln] at eb_of
  obtain ⟨b_wf, f_b_wf, g_b_wf⟩ := hx_rf hT g_qo_ln tt_1 (k := 2) (u := 14) rfl
  obtain ⟨B_wf, n_b_wf⟩ : ∃ g : Nat → Int32, hl1.2.1 b_wf = g := ⟨_, rfl⟩
  obtain ⟨m_wf, f_m_wf, g_m_wf⟩ := hx_rf hT gm tt_10 (k := 31) (u := 67) rfl
  obtain ⟨F_wf, n_m_wf⟩ : ∃ g : Nat → Int32, hl1.2.1 m_wf = g := ⟨_, rfl⟩
  have eb_wf := hk_wf qo_ln b_wf m_wf f_qo_ln f_b_wf f_m_wf; rw [n_b_wf, n_m_wf, f_o_ln] at eb_wf
  obtain ⟨b_df, f_b_df, g_b_df⟩ := hx_rf hT g_qo_ln tt_1 (k := 3) (u := 15) rfl
  obtain ⟨B_df, n_b_df⟩ : ∃ g : Nat → Int32, hl1.2.1 b_df = g := ⟨_, rfl⟩
  obtain ⟨m_df, f_m_df, g_m_df⟩ := hx_rf hT gm tt_10 (k := 32) (u := 68) rfl
  obtain ⟨F_df, n_m_df⟩ : ∃ g : Nat → Int32, hl1.2.1 m_df = g := ⟨_, rfl⟩
  have eb_df := hk_df qo_ln b_df m_df f_qo_ln f_b_df f_m_df; rw [n_b_df, n_m_df, f_o_ln] at eb_df
  obtain ⟨b_kf, f_b_kf, g_b_kf⟩ := hx_rf hT g_qo_ln tt_1 (k := 4) (u := 16) rfl
  obtain ⟨B_kf, n_b_kf⟩ : ∃ g : Nat → Int32, hl1.2.1 b_kf = g := ⟨_, rfl⟩
  obtain ⟨m_kf, f_m_kf, g_m_kf⟩ := hx_rf hT gm tt_10 (k := 33) (u := 69) rfl
  obtain ⟨F_kf, n_m_kf⟩ : ∃ g : Nat → Int32, hl1.2.1 m_kf = g := ⟨_, rfl⟩
  have eb_kf := hk_kf qo_ln b_kf m_kf f_qo_ln f_b_kf f_m_kf; rw [n_b_kf, n_m_kf, f_o_ln] at eb_kf
  obtain ⟨b_sf, f_b_sf, g_b_sf⟩ := hx_rf hT g_qo_ln tt_1 (k := 5) (u := 17) rfl
  obtain ⟨B_sf, n_b_sf⟩ : ∃ g : Nat → Int32, hl1.2.1 b_sf = g := ⟨_, rfl⟩
  obtain ⟨m_sf, f_m_sf, g_m_sf⟩ := hx_rf hT gm tt_10 (k := 34) (u := 70) rfl
  obtain ⟨F_sf, n_m_sf⟩ : ∃ g : Nat → Int32, hl1.2.1 m_sf = g := ⟨_, rfl⟩
  have eb_sf := hk_sf qo_ln b_sf m_sf f_qo_ln f_b_sf f_m_sf; rw [n_b_sf, n_m_sf, f_o_ln] at eb_sf
  obtain ⟨b_bf, f_b_bf, g_b_bf⟩ := hx_rf hT g_qo_ln tt_1 (k := 6) (u := 18) rfl
  obtain ⟨bfL, n_b_bf⟩ : ∃ g : Nat → Int32, hl1.2.1 b_bf = g := ⟨_, rfl⟩
  obtain ⟨hBD, hDY⟩ := hkBD qo_ln b_df b_bf f_qo_ln f_b_df f_b_bf; rw [n_b_df, n_b_bf, f_o_ln] at hBD; rw [n_b_df, f_o_ln] at hDY
  have hBDm := hy_BD_c eb_df hBD
  have hDYm : hy_DY F_df ln.toInt.toNat := fun x hx => by rw [← eb_df x hx]; exact hDY x hx
  have sb_list := hLQ qw ql qc f_qw f_ql f_qc
  obtain ⟨m_lst, f_m_lst, g_m_lst⟩ := hx_rf hT gm tt_10 (k := 91) (u := 112) rfl
  obtain ⟨F_lst, n_lst⟩ : ∃ g : Nat → Int32, hl1.2.1 m_lst = g := ⟨_, rfl⟩
  obtain ⟨c_lst, cl_lst⟩ : ∃ g : Nat → Int32, hx_col 8 hl1 ql 0 = g := ⟨_, rfl⟩
  have eq_lst := hLE qw ql m_lst f_qw f_ql f_m_lst; rw [cl_lst, n_lst] at eq_lst
  obtain ⟨qtp, f_qtp, g_qtp⟩ := hx_rf hT gx tt_9 (k := 0) (u := 42) rfl
  obtain ⟨m_tp, f_m_tp, g_m_tp⟩ := hx_rf hT gm tt_10 (k := 6) (u := 53) rfl
  obtain ⟨F_tp, n_tp⟩ : ∃ g : Nat → Int32, hl1.2.1 m_tp = g := ⟨_, rfl⟩
  have n_qtp : hl1.2.1 qtp = F_tp := (hkTP qtp m_tp f_qtp f_m_tp).trans n_tp
  obtain ⟨c_dead, cl_dead⟩ : ∃ g : Nat → Int32, hx_col 40 hl1 qp 7 = g := ⟨_, rfl⟩
  obtain ⟨m_dead, f_m_dead, g_m_dead⟩ := hx_rf hT gm tt_10 (k := 27) (u := 64) rfl
  obtain ⟨F_dead, n_dead⟩ : ∃ g : Nat → Int32, hl1.2.1 m_dead = g := ⟨_, rfl⟩
  have eq_dead := hc_dead qp m_dead f_qp f_m_dead; rw [cl_dead, n_dead] at eq_dead
  have z_dead : np.toInt.toNat < 40 → c_dead np.toInt.toNat = 0 := fun hj => hx_num_z nu_qp cl_dead hj ?o0
  case o0 => omega
  obtain ⟨c_isj, cl_isj⟩ : ∃ g : Nat → Int32, hx_col 40 hl1 qp 8 = g := ⟨_, rfl⟩
  obtain ⟨m_isj, f_m_isj, g_m_isj⟩ := hx_rf hT gm tt_10 (k := 28) (u := 65) rfl
  obtain ⟨F_isj, n_isj⟩ : ∃ g : Nat → Int32, hl1.2.1 m_isj = g := ⟨_, rfl⟩
  have eq_isj := hc_isj qp m_isj f_qp f_m_isj; rw [cl_isj, n_isj] at eq_isj
  have z_isj : np.toInt.toNat < 40 → c_isj np.toInt.toNat = 0 := fun hj => hx_num_z nu_qp cl_isj hj ?o1
  case o1 => omega
  obtain ⟨c_dox, cl_dox⟩ : ∃ g : Nat → Int32, hx_col 40 hl1 qp 5 = g := ⟨_, rfl⟩
  obtain ⟨m_dox, f_m_dox, g_m_dox⟩ := hx_rf hT gm tt_10 (k := 24) (u := 61) rfl
  obtain ⟨F_dox, n_dox⟩ : ∃ g : Nat → Int32, hl1.2.1 m_dox = g := ⟨_, rfl⟩
  have eq_dox := hc_dox qp m_dox f_qp f_m_dox; rw [cl_dox, n_dox] at eq_dox
  have z_dox : np.toInt.toNat < 40 → c_dox np.toInt.toNat = 0 := fun hj => hx_num_z nu_qp cl_dox hj ?o2
  case o2 => omega
  obtain ⟨c_doy, cl_doy⟩ : ∃ g : Nat → Int32, hx_col 40 hl1 qp 6 = g := ⟨_, rfl⟩
  obtain ⟨m_doy, f_m_doy, g_m_doy⟩ := hx_rf hT gm tt_10 (k := 25) (u := 62) rfl
  obtain ⟨F_doy, n_doy⟩ : ∃ g : Nat → Int32, hl1.2.1 m_doy = g := ⟨_, rfl⟩
  have eq_doy := hc_doy qp m_doy f_qp f_m_doy; rw [cl_doy, n_doy] at eq_doy
  have z_doy : np.toInt.toNat < 40 → c_doy np.toInt.toNat = 0 := fun hj => hx_num_z nu_qp cl_doy hj ?o3
  case o3 => omega
  obtain ⟨c_fou, cl_fou⟩ : ∃ g : Nat → Int32, hx_col 100 hl1 qc 10 = g := ⟨_, rfl⟩
  have eq_fou := hc_fou qc m_fou f_qc f_m_fou; rw [cl_fou, n_m_fou] at eq_fou
  have z_fou : c0.toInt.toNat < 100 → c_fou c0.toInt.toNat = 0 := fun hj => hx_num_z nu_qc cl_fou hj ?o4
  case o4 => omega
  obtain ⟨c_tri, cl_tri⟩ : ∃ g : Nat → Int32, hx_col 100 hl1 qc 9 = g := ⟨_, rfl⟩
  have eq_tri := hc_tri qc mt f_qc f_mt; rw [cl_tri, n_mt] at eq_tri
  have z_tri : c0.toInt.toNat < 100 → c_tri c0.toInt.toNat = 0 := fun hj => hx_num_z nu_qc cl_tri hj ?o5
  case o5 => omega
  obtain ⟨qlt, f_qlt, g_qlt⟩ := hx_rf hT g_qw tt_8 (k := 2) (u := 39) rfl
  obtain ⟨qlf, f_qlf, g_qlf⟩ := hx_rf hT g_qw tt_8 (k := 4) (u := 41) rfl
  obtain ⟨m_wkd, f_m_wkd, g_m_wkd⟩ := hx_rf hT gm tt_10 (k := 93) (u := 113) rfl
  obtain ⟨F_qlt, n_qlt⟩ : ∃ g : Nat → Int32, hl1.2.1 qlt = g := ⟨_, rfl⟩
  obtain ⟨F_m_wkd, n_m_wkd⟩ : ∃ g : Nat → Int32, hl1.2.1 m_wkd = g := ⟨_, rfl⟩
  have eb_wkd := hkWD qw qlt m_wkd f_qw f_qlt f_m_wkd; rw [n_qlt, n_m_wkd, f_o_wkm] at eb_wkd
  obtain ⟨m_aga, f_m_aga, g_m_aga⟩ := hx_rf hT gm tt_10 (k := 38) (u := 73) rfl
  obtain ⟨F_aga, n_aga⟩ : ∃ g : Nat → Int32, hl1.2.1 m_aga = g := ⟨_, rfl⟩
  have hDF := hkDF qc qp m_aga f_qc f_qp f_m_aga; rw [n_aga, f_x_claimCount] at hDF
  obtain ⟨qwo, f_qwo, g_qwo⟩ := hx_rf hT gx tt_9 (k := 4) (u := 0) rfl
  obtain ⟨m_ad, f_m_ad, g_m_ad⟩ := hx_rf hT gm tt_10 (k := 2) (u := 49) rfl
  obtain ⟨F_ad, n_ad⟩ : ∃ g : Nat → Int32, hl1.2.1 m_ad = g := ⟨_, rfl⟩
  obtain ⟨A9, hRA9, hCA9, hAC9, hAB⟩ := hkAC qa qwo m_ad mr mn mp qc ml f_qa f_qwo f_m_ad f_mr f_mn f_mp f_qc f_ml
  rw [f_x_actCount] at hRA9; rw [f_x_actCount, n_ad, n_mr, n_mn, n_mp] at hCA9
  obtain ⟨m_by, f_m_by, g_m_by⟩ := hx_rf hT gm tt_10 (k := 37) (u := 72) rfl
  obtain ⟨F_by, n_by⟩ : ∃ g : Nat → Int32, hl1.2.1 m_by = g := ⟨_, rfl⟩
  obtain ⟨m_ho, f_m_ho, g_m_ho⟩ := hx_rf hT gm tt_10 (k := 58) (u := 92) rfl
  obtain ⟨F_ho, n_ho⟩ : ∃ g : Nat → Int32, hl1.2.1 m_ho = g := ⟨_, rfl⟩
  obtain ⟨m_fc, f_m_fc, g_m_fc⟩ := hx_rf hT gm tt_10 (k := 53) (u := 88) rfl
  obtain ⟨F_fc, n_fc⟩ : ∃ g : Nat → Int32, hl1.2.1 m_fc = g := ⟨_, rfl⟩
  obtain ⟨m_nt, f_m_nt, g_m_nt⟩ := hx_rf hT gm tt_10 (k := 41) (u := 76) rfl
  obtain ⟨F_nt, n_nt⟩ : ∃ g : Nat → Int32, hl1.2.1 m_nt = g := ⟨_, rfl⟩
  obtain ⟨m_wt, f_m_wt, g_m_wt⟩ := hx_rf hT gm tt_10 (k := 42) (u := 77) rfl
  obtain ⟨F_wt, n_wt⟩ : ∃ g : Nat → Int32, hl1.2.1 m_wt = g := ⟨_, rfl⟩
  obtain ⟨m_be, f_m_be, g_m_be⟩ := hx_rf hT gm tt_10 (k := 52) (u := 87) rfl
  obtain ⟨F_be, n_be⟩ : ∃ g : Nat → Int32, hl1.2.1 m_be = g := ⟨_, rfl⟩
  obtain ⟨m_bor, f_m_bor, g_m_bor⟩ := hx_rf hT gm tt_10 (k := 21) (u := 58) rfl
  obtain ⟨F_bor, n_bor⟩ : ∃ g : Nat → Int32, hl1.2.1 m_bor = g := ⟨_, rfl⟩
  obtain ⟨m_kin, f_m_kin, g_m_kin⟩ := hx_rf hT gm tt_10 (k := 26) (u := 63) rfl
  obtain ⟨F_kin, n_kin⟩ : ∃ g : Nat → Int32, hl1.2.1 m_kin = g := ⟨_, rfl⟩
  obtain ⟨m_sum, f_m_sum, g_m_sum⟩ := hx_rf hT gm tt_10 (k := 39) (u := 74) rfl
  obtain ⟨F_sum, n_sum⟩ : ∃ g : Nat → Int32, hl1.2.1 m_sum = g := ⟨_, rfl⟩
  obtain ⟨m_fro, f_m_fro, g_m_fro⟩ := hx_rf hT gm tt_10 (k := 40) (u := 75) rfl
  obtain ⟨F_fro, n_fro⟩ : ∃ g : Nat → Int32, hl1.2.1 m_fro = g := ⟨_, rfl⟩
  obtain ⟨m_fil, f_m_fil, g_m_fil⟩ := hx_rf hT gm tt_10 (k := 43) (u := 78) rfl
  obtain ⟨F_fil, n_fil⟩ : ∃ g : Nat → Int32, hl1.2.1 m_fil = g := ⟨_, rfl⟩
  obtain ⟨m_jud, f_m_jud, g_m_jud⟩ := hx_rf hT gm tt_10 (k := 51) (u := 86) rfl
  obtain ⟨F_jud, n_jud⟩ : ∃ g : Nat → Int32, hl1.2.1 m_jud = g := ⟨_, rfl⟩
  obtain ⟨m_ear, f_m_ear, g_m_ear⟩ := hx_rf hT gm tt_10 (k := 22) (u := 59) rfl
  obtain ⟨F_ear, n_ear⟩ : ∃ g : Nat → Int32, hl1.2.1 m_ear = g := ⟨_, rfl⟩
  obtain ⟨m_hds, f_m_hds, g_m_hds⟩ := hx_rf hT gm tt_10 (k := 23) (u := 60) rfl
  obtain ⟨F_hds, n_hds⟩ : ∃ g : Nat → Int32, hl1.2.1 m_hds = g := ⟨_, rfl⟩
  obtain ⟨m_ord, f_m_ord, g_m_ord⟩ := hx_rf hT gm tt_10 (k := 48) (u := 83) rfl
  obtain ⟨F_ord, n_ord⟩ : ∃ g : Nat → Int32, hl1.2.1 m_ord = g := ⟨_, rfl⟩
  obtain ⟨m_wkl, f_m_wkl, g_m_wkl⟩ := hx_rf hT gm tt_10 (k := 54) (u := 89) rfl
  obtain ⟨F_wkl, n_wkl⟩ : ∃ g : Nat → Int32, hl1.2.1 m_wkl = g := ⟨_, rfl⟩
  obtain ⟨m_owd, f_m_owd, g_m_owd⟩ := hx_rf hT gm tt_10 (k := 55) (u := 90) rfl
  obtain ⟨F_owd, n_owd⟩ : ∃ g : Nat → Int32, hl1.2.1 m_owd = g := ⟨_, rfl⟩
  obtain ⟨m_gds, f_m_gds, g_m_gds⟩ := hx_rf hT gm tt_10 (k := 56) (u := 91) rfl
  obtain ⟨F_gds, n_gds⟩ : ∃ g : Nat → Int32, hl1.2.1 m_gds = g := ⟨_, rfl⟩
  obtain ⟨m_szd, f_m_szd, g_m_szd⟩ := hx_rf hT gm tt_10 (k := 49) (u := 84) rfl
  obtain ⟨F_szd, n_szd⟩ : ∃ g : Nat → Int32, hl1.2.1 m_szd = g := ⟨_, rfl⟩
  obtain ⟨m_srv, f_m_srv, g_m_srv⟩ := hx_rf hT gm tt_10 (k := 50) (u := 85) rfl
  obtain ⟨F_srv, n_srv⟩ : ∃ g : Nat → Int32, hl1.2.1 m_srv = g := ⟨_, rfl⟩
  have cl_bor : hx_col 40 hl1 qp 1 = F_bor := (hf_bor qp m_bor f_qp f_m_bor).trans n_bor
  have cl_kin : hx_col 40 hl1 qp 2 = F_kin := (hf_kin qp m_kin f_qp f_m_kin).trans n_kin
  have cl_sum : hx_col 100 hl1 qc 6 = F_sum := (hf_sum qc m_sum f_qc f_m_sum).trans n_sum
  have cl_fro : hx_col 100 hl1 qc 7 = F_fro := (hf_fro qc m_fro f_qc f_m_fro).trans n_fro
  have cl_fil : hx_col 100 hl1 qc 8 = F_fil := (hf_fil qc m_fil f_qc f_m_fil).trans n_fil
  have cl_hea : hx_col 100 hl1 qc 11 = F_mh := (hf_hea qc mh f_qc f_mh).trans n_mh
  have cl_jud : hx_col 100 hl1 qc 12 = F_jud := (hf_jud qc m_jud f_qc f_m_jud).trans n_jud
  have cl_ear : hx_col 40 hl1 qp 3 = F_ear := (hf_ear qp m_ear f_qp f_m_ear).trans n_ear
  have cl_hds : hx_col 40 hl1 qp 4 = F_hds := (hf_hds qp m_hds f_qp f_m_hds).trans n_hds
  have cl_ord : hx_col 100 hl1 qc 13 = F_ord := (hf_ord qc m_ord f_qc f_m_ord).trans n_ord
  have cl_wkl : hx_col 100 hl1 qc 14 = F_wkl := (hf_wkl qc m_wkl f_qc f_m_wkl).trans n_wkl
  have cl_owd : hx_col 100 hl1 qc 15 = F_owd := (hf_owd qc m_owd f_qc f_m_owd).trans n_owd
  have cl_gds : hx_col 100 hl1 qc 17 = F_gds := (hf_gds qc m_gds f_qc f_m_gds).trans n_gds
  have cl_szd : hx_col 100 hl1 qc 16 = F_szd := (hf_szd qc m_szd f_qc f_m_szd).trans n_szd
  have cl_srv : hx_col 100 hl1 qc 18 = F_srv := (hf_srv qc m_srv f_qc f_m_srv).trans n_srv
  have htb9 : ∀ c, c < 100 → 0 ≤ (c_tri c).toInt ∧ (c_tri c).toInt ≤ 512 := fun c hc => by rw [eq_tri c hc]; have w := hT.ei g_mt tt_80 (k := c) hc; rw [n_mt] at w; exact w
  have z_jud : F_jud c0.toInt.toNat = 0 := hx_num_z2 nu_qc cl_jud ?o6
  case o6 => omega
  have hDP := hkDP qc qp m_by f_qc f_qp f_m_by; rw [n_by, f_x_claimCount] at hDP
  have hHL := hkHL qh qc m_ho f_qh f_qc f_m_ho; rw [n_ho, f_x_heardCount, f_x_claimCount] at hHL
  have hHO9 := hkHO m_ho mh f_m_ho f_mh; rw [n_ho, n_mh, f_m_heardMany, f_m_claims] at hHO9
  obtain ⟨cF9L, hFX, hFR9⟩ := hkFX qc m_fc m_nt m_wt m_sum mh f_qc f_m_fc f_m_nt f_m_wt f_m_sum f_mh; rw [f_x_claimCount] at hFX; rw [n_fc, n_nt, n_wt, n_sum, n_mh, f_x_claimCount] at hFR9
  have hBX := hkBX qc m_be f_qc f_m_be; rw [n_be, f_x_claimCount] at hBX
  rw [n_ml, f_x_claimCount] at hAC9
  obtain ⟨y_p0, f_y_p0, g_y_p0⟩ := hx_rf hT g_qo_py tt_3 (k := 2) (u := 23) rfl
  obtain ⟨m_p0, f_m_p0, g_m_p0⟩ := hx_rf hT gm tt_10 (k := 60) (u := 93) rfl
  obtain ⟨F_p0, n_p0⟩ : ∃ g : Nat → Int32, hl1.2.1 m_p0 = g := ⟨_, rfl⟩
  have n_y_p0 : hl1.2.1 y_p0 = F_p0 := (hkP0 qo_py y_p0 m_p0 f_qo_py f_y_p0 f_m_p0).trans n_p0
  obtain ⟨y_p1, f_y_p1, g_y_p1⟩ := hx_rf hT g_qo_py tt_3 (k := 3) (u := 24) rfl
  obtain ⟨m_p1, f_m_p1, g_m_p1⟩ := hx_rf hT gm tt_10 (k := 61) (u := 94) rfl
  obtain ⟨F_p1, n_p1⟩ : ∃ g : Nat → Int32, hl1.2.1 m_p1 = g := ⟨_, rfl⟩
  have n_y_p1 : hl1.2.1 y_p1 = F_p1 := (hkP1 qo_py y_p1 m_p1 f_qo_py f_y_p1 f_m_p1).trans n_p1
  obtain ⟨y_p2, f_y_p2, g_y_p2⟩ := hx_rf hT g_qo_py tt_3 (k := 5) (u := 26) rfl
  obtain ⟨m_p2, f_m_p2, g_m_p2⟩ := hx_rf hT gm tt_10 (k := 62) (u := 95) rfl
  obtain ⟨F_p2, n_p2⟩ : ∃ g : Nat → Int32, hl1.2.1 m_p2 = g := ⟨_, rfl⟩
  have n_y_p2 : hl1.2.1 y_p2 = F_p2 := (hkP2 qo_py y_p2 m_p2 f_qo_py f_y_p2 f_m_p2).trans n_p2
  obtain ⟨y_p3, f_y_p3, g_y_p3⟩ := hx_rf hT g_qo_py tt_3 (k := 4) (u := 25) rfl
  obtain ⟨m_p3, f_m_p3, g_m_p3⟩ := hx_rf hT gm tt_10 (k := 63) (u := 96) rfl
  obtain ⟨F_p3, n_p3⟩ : ∃ g : Nat → Int32, hl1.2.1 m_p3 = g := ⟨_, rfl⟩
  have n_y_p3 : hl1.2.1 y_p3 = F_p3 := (hkP3 qo_py y_p3 m_p3 f_qo_py f_y_p3 f_m_p3).trans n_p3
  obtain ⟨y_p4, f_y_p4, g_y_p4⟩ := hx_rf hT g_qo_py tt_3 (k := 1) (u := 22) rfl
  obtain ⟨m_p4, f_m_p4, g_m_p4⟩ := hx_rf hT gm tt_10 (k := 64) (u := 97) rfl
  obtain ⟨F_p4, n_p4⟩ : ∃ g : Nat → Int32, hl1.2.1 m_p4 = g := ⟨_, rfl⟩
  have n_y_p4 : hl1.2.1 y_p4 = F_p4 := (hkP4 qo_py y_p4 m_p4 f_qo_py f_y_p4 f_m_p4).trans n_p4
  obtain ⟨qrg9, f_qrg9, g_qrg9⟩ := hx_rf hT gx tt_9 (k := 18) (u := 7) rfl
  obtain ⟨y_ls, f_y_ls, g_y_ls⟩ := hx_rf hT g_qrg9 tt_7 (k := 3) (u := 35) rfl
  obtain ⟨m_rl, f_m_rl, g_m_rl⟩ := hx_rf hT gm tt_10 (k := 85) (u := 109) rfl
  obtain ⟨F_y_ls, n_y_ls⟩ : ∃ g : Nat → Int32, hl1.2.1 y_ls = g := ⟨_, rfl⟩
  obtain ⟨F_m_rl, n_m_rl⟩ : ∃ g : Nat → Int32, hl1.2.1 m_rl = g := ⟨_, rfl⟩
  obtain ⟨fv_893, efv_893⟩ : ∃ y : Int32, y = hl1.2.1 qrg9 0 := ⟨_, rfl⟩
  have bfv_893 := hT.gi g_qrg9 tt_7 (k := 0) rfl
  rw [← efv_893] at bfv_893
  have bfv_893 : -1 ≤ fv_893.toInt ∧ fv_893.toInt ≤ 100 := bfv_893
  have ffv_893 := efv_893.symm
  obtain ⟨fv_894, efv_894⟩ : ∃ y : Int32, y = hl1.2.1 am 83 := ⟨_, rfl⟩
  have bfv_894 := hT.gi gm tt_10 (k := 83) rfl
  rw [← efv_894] at bfv_894
  have bfv_894 : 0 ≤ fv_894.toInt ∧ fv_894.toInt ≤ 1 := bfv_894
  have ffv_894 := efv_894.symm
  obtain ⟨fv_895, efv_895⟩ : ∃ y : Int32, y = hl1.2.1 am 84 := ⟨_, rfl⟩
  have bfv_895 := hT.gi gm tt_10 (k := 84) rfl
  rw [← efv_895] at bfv_895
  have bfv_895 : 0 ≤ fv_895.toInt ∧ fv_895.toInt ≤ 300 := bfv_895
  have ffv_895 := efv_895.symm
  have hNQ9 := hkNQ qrg9 f_qrg9; rw [ffv_893, ffv_894, ffv_895] at hNQ9
  have hRL9 := hkRL qrg9 y_ls m_rl f_qrg9 f_y_ls f_m_rl; rw [n_y_ls, n_m_rl, ffv_893] at hRL9
  have hCB : hz_CB F_ord F_wkl F_owd F_szd F_gds F_srv := fun c hc => ⟨by have w := hT.ei g_m_ord tt_83 (k := c) (by omega); rw [n_ord] at w; exact w, by have w := hT.ei g_m_wkl tt_89 (k := c) (by omega); rw [n_wkl] at w; exact w, by have w := hT.ei g_m_owd tt_90 (k := c) (by omega); rw [n_owd] at w; exact w, by have w := hT.ei g_m_szd tt_84 (k := c) (by omega); rw [n_szd] at w; exact w, by have w := hT.ei g_m_gds tt_91 (k := c) (by omega); rw [n_gds] at w; exact w, by have w := hT.ei g_m_srv tt_85 (k := c) (by omega); rw [n_srv] at w; exact w⟩
  have hps : ∀ j, j < 600 → 0 ≤ (F_p2 j).toInt ∧ (F_p2 j).toInt ≤ 610000 := fun j hj => by have w := hT.ei g_m_p2 tt_95 (k := j) (by omega); rw [n_p2] at w; exact w
  have hte9 : ∀ c : Nat, c < 100 → (0 ≤ (c_tri c).toInt ∧ (c_tri c).toInt ≤ 512) ∧ (0 ≤ (F_sum c).toInt ∧ (F_sum c).toInt ≤ 9999) := fun c hc => ⟨htb9 c hc, by have w := hT.ei g_m_sum tt_74 (k := c) (by omega); rw [n_sum] at w; exact w⟩
  have hee9 : ∀ c : Nat, c < 40 → (0 ≤ (F_ear c).toInt ∧ (F_ear c).toInt ≤ 9999) ∧ (0 ≤ (F_hds c).toInt ∧ (F_hds c).toInt ≤ 20) := fun c hc => ⟨by have w := hT.ei g_m_ear tt_59 (k := c) (by omega); rw [n_ear] at w; exact w, by have w := hT.ei g_m_hds tt_60 (k := c) (by omega); rw [n_hds] at w; exact w⟩
  have bAG9 : ∀ k, k < 100 → 0 ≤ (F_aga k).toInt ∧ (F_aga k).toInt ≤ 39 := fun k hk => by have w := hT.ei g_m_aga tt_73 (k := k) (by omega); rw [n_aga] at w; exact w
  have bBY9 : ∀ k, k < 100 → 0 ≤ (F_by k).toInt ∧ (F_by k).toInt ≤ 39 := fun k hk => by have w := hT.ei g_m_by tt_72 (k := k) (by omega); rw [n_by] at w; exact w
  have hag9 : ∀ c, c < c0.toInt.toNat → 0 ≤ (F_aga c).toInt ∧ (F_aga c).toInt < 40 ∧ 0 ≤ (F_by c).toInt ∧ (F_by c).toInt < 40 := fun c hc => by have a9 := bAG9 c (by omega); have b9 := bBY9 c (by omega); omega
  have z_wkl : F_wkl c0.toInt.toNat = 0 := hx_num_z2 nu_qc cl_wkl ?o7
  case o7 => omega
  have z_owd : F_owd c0.toInt.toNat = 0 := hx_num_z2 nu_qc cl_owd ?o8
  case o8 => omega
  have z_gds : F_gds c0.toInt.toNat = 0 := hx_num_z2 nu_qc cl_gds ?o9
  case o9 => omega
  have hwd := jw mw f_mw; rw [n_mw] at hwd
  have hWK := jr mr f_mr; rw [n_mr, f_m_acts] at hWK
  have hRP := jp mp mn f_mp f_mn; rw [n_mp, n_mn, f_m_acts] at hRP
  have hPL := jl ml f_ml; rw [n_ml, f_m_claims, f_m_acts] at hPL
  have hHC := jh mh f_mh; rw [n_mh, f_m_heardMany, f_m_claims] at hHC
  have hTR := jt mt f_mt; rw [n_mt] at hTR
  have hHF := jf mh m_fou f_mh f_m_fou; rw [n_mh, n_m_fou, f_m_claims] at hHF
  refine lv_aload_n hx hb dL_law_1323 rfl (lv_at hl 2 rfl) ?_
  refine lv_aload_n hx hb dL_law_1324 rfl (lv_at hl 3 rfl) ?_
  refine lv_iload_n hx hb dL_law_1325 rfl (lv_at hl 0 rfl) ?_
  refine lv_iconst (v := 1) hx hb dL_law_1326 ?o10 ?_
  case o10 => decide
  refine lv_iadd hx hb dL_law_1327 ?_
  have rg_896 := i32_r i
  refine lv_topi (fun x_897 ex_897 => ?_)
  have zx_897 : x_897.toInt = i.toInt + 1 := ?o11
  case o11 =>
    rw [ex_897]
    refine i32_add rfl ?o12 ?o13 ?o14
    case o12 => decide
    case o13 => omega
    case o14 => omega
  refine va_sld hx hb hX hbl hbA hW.2.2.2.1 (vp_in_iff.mpr ⟨?o15, ?o16⟩) dL_law_1328 ?_
  case o15 => omega
  case o16 => omega
  refine lv_topi (fun x_898 ex_898 => ?_)
  refine lv_aload_n hx hb dL_law_1329 rfl (lv_at hl 3 rfl) ?_
  refine lv_iload_n hx hb dL_law_1330 rfl (lv_at hl 0 rfl) ?_
  refine lv_iconst (v := 2) hx hb dL_law_1331 ?o17 ?_
  case o17 => decide
  refine lv_iadd hx hb dL_law_1332 ?_
  refine lv_topi (fun x_899 ex_899 => ?_)
  have zx_899 : x_899.toInt = i.toInt + 2 := ?o18
  case o18 =>
    rw [ex_899]
    refine i32_add rfl ?o19 ?o20 ?o21
    case o19 => decide
    case o20 => omega
    case o21 => omega
  refine va_sld hx hb hX hbl hbA hW.2.2.2.1 (vp_in_iff.mpr ⟨?o22, ?o23⟩) dL_law_1333 ?_
  case o22 => omega
  case o23 => omega
  refine lv_topi (fun x_900 ex_900 => ?_)
  have hTo := hT
  refine hx_goi (hx_runV (As := [.int x_898, .int x_900]) (rest := []) ⟨hx, hb, hml, hown, hts⟩ hW gx tt_9 (T := TX9) (N := 20) rfl (t_X9_other_v l dC dI dA L1 hl1 H.size ax x_898 x_900 hT gx qa g_qa f_qa qwo g_qwo f_qwo qh g_qh f_qh qc g_qc f_qc qp g_qp f_qp c0 f_x_claimCount np f_x_personCount m0 f_x_heardCount a0 f_x_actCount F_bor cl_bor F_sum cl_sum F_fro cl_fro F_fil cl_fil c_tri cl_tri nu_qp nu_qc F_aga F_by hDF hDP F_ho cF9L A9 hRA9 hFX hHL hAB htb9 pf_qa pf_qh pf_qc pf_qp) (cwV 2 hts (hx_gV kw_1104 kw_1101 kw_1102 kw_1103 kw_94) rfl rfl rfl (by decide +kernel) ⟨Nat.le_of_ble_eq_true rfl, Nat.le_of_ble_eq_true rfl⟩) rfl hl.1 rfl (Nat.le_of_ble_eq_true rfl) dL_law_1334 ⟨(show CC + 0 ≤ 600000 from ?o24), (show SS + 0 ≤ 7302250 from ?o25)⟩) hW (fun r_903 L_901 h_902 H locs p_904 hW => ?_)
  case o24 => omega
  case o25 => omega
  obtain ⟨hr_905, hT, hs⟩ := p_904
  replace hT : hx_T T_tb L_901 h_902 := hT
  replace hs : hx_S T_tb [] L1 hl1 L_901 h_902 := hs
  replace f_qa := (hs.o gx trivial rfl).2.trans f_qa
  replace f_qp := (hs.o gx trivial rfl).2.trans f_qp
  replace f_qc := (hs.o gx trivial rfl).2.trans f_qc
  replace f_qh := (hs.o gx trivial rfl).2.trans f_qh
  replace f_qw := (hs.o gx trivial rfl).2.trans f_qw
  replace f_ql := (hs.o g_qw trivial rfl).2.trans f_ql
  replace f_m_now := (hs.o gm trivial rfl).1.trans f_m_now
  replace f_m_persons := (hs.o gm trivial rfl).1.trans f_m_persons
  replace f_m_claims := (hs.o gm trivial rfl).1.trans f_m_claims
  replace f_m_taped := (hs.o gm trivial rfl).1.trans f_m_taped
  replace f_m_acts := (hs.o gm trivial rfl).1.trans f_m_acts
  replace f_m_heardMany := (hs.o gm trivial rfl).1.trans f_m_heardMany
  replace f_m_lines := (hs.o gm trivial rfl).1.trans f_m_lines
  replace f_m_listed := (hs.o gm trivial rfl).1.trans f_m_listed
  replace f_m_walkedMany := (hs.o gm trivial rfl).1.trans f_m_walkedMany
  replace f_m_payments := (hs.o gm trivial rfl).1.trans f_m_payments
  replace f_x_now := (hs.o gx trivial rfl).1.trans f_x_now
  replace f_x_personCount := (hs.o gx trivial rfl).1.trans f_x_personCount
  replace f_x_claimCount := (hs.o gx trivial rfl).1.trans f_x_claimCount
  replace f_x_tapeLength := (hs.o gx trivial rfl).1.trans f_x_tapeLength
  replace f_x_actCount := (hs.o gx trivial rfl).1.trans f_x_actCount
  replace f_x_heardCount := (hs.o gx trivial rfl).1.trans f_x_heardCount
  replace f_mw := (hs.o gm trivial rfl).2.trans f_mw
  replace f_mr := (hs.o gm trivial rfl).2.trans f_mr
  replace f_mp := (hs.o gm trivial rfl).2.trans f_mp
  replace f_mn := (hs.o gm trivial rfl).2.trans f_mn
  replace f_ml := (hs.o gm trivial rfl).2.trans f_ml
  replace f_mh := (hs.o gm trivial rfl).2.trans f_mh
  replace f_mt := (hs.o gm trivial rfl).2.trans f_mt
  replace f_m_fou := (hs.o gm trivial rfl).2.trans f_m_fou
  replace f_qo_ln := (hs.o gx trivial rfl).2.trans f_qo_ln
  replace f_o_ln := (hs.o g_qo_ln trivial rfl).1.trans f_o_ln
  replace f_o_lsd := (hs.o g_qw trivial rfl).1.trans f_o_lsd
  replace f_o_wkm := (hs.o g_qw trivial rfl).1.trans f_o_wkm
  replace f_qo_py := (hs.o gx trivial rfl).2.trans f_qo_py
  replace f_o_py := (hs.o g_qo_py trivial rfl).1.trans f_o_py
  replace f_b_of := (hs.o g_qo_ln trivial rfl).2.trans f_b_of
  replace f_m_of := (hs.o gm trivial rfl).2.trans f_m_of
  replace f_b_wf := (hs.o g_qo_ln trivial rfl).2.trans f_b_wf
  replace f_m_wf := (hs.o gm trivial rfl).2.trans f_m_wf
  replace f_b_df := (hs.o g_qo_ln trivial rfl).2.trans f_b_df
  replace f_m_df := (hs.o gm trivial rfl).2.trans f_m_df
  replace f_b_kf := (hs.o g_qo_ln trivial rfl).2.trans f_b_kf
  replace f_m_kf := (hs.o gm trivial rfl).2.trans f_m_kf
  replace f_b_sf := (hs.o g_qo_ln trivial rfl).2.trans f_b_sf
  replace f_m_sf := (hs.o gm trivial rfl).2.trans f_m_sf
  replace f_b_bf := (hs.o g_qo_ln trivial rfl).2.trans f_b_bf
  replace f_m_lst := (hs.o gm trivial rfl).2.trans f_m_lst
  replace f_qtp := (hs.o gx trivial rfl).2.trans f_qtp
  replace f_m_tp := (hs.o gm trivial rfl).2.trans f_m_tp
  replace f_m_dead := (hs.o gm trivial rfl).2.trans f_m_dead
  replace f_m_isj := (hs.o gm trivial rfl).2.trans f_m_isj
  replace f_m_dox := (hs.o gm trivial rfl).2.trans f_m_dox
  replace f_m_doy := (hs.o gm trivial rfl).2.trans f_m_doy
  replace f_qlt := (hs.o g_qw trivial rfl).2.trans f_qlt
  replace f_qlf := (hs.o g_qw trivial rfl).2.trans f_qlf
  replace f_m_wkd := (hs.o gm trivial rfl).2.trans f_m_wkd
  replace f_m_aga := (hs.o gm trivial rfl).2.trans f_m_aga
  replace f_qwo := (hs.o gx trivial rfl).2.trans f_qwo
  replace f_m_ad := (hs.o gm trivial rfl).2.trans f_m_ad
  replace f_m_by := (hs.o gm trivial rfl).2.trans f_m_by
  replace f_m_ho := (hs.o gm trivial rfl).2.trans f_m_ho
  replace f_m_fc := (hs.o gm trivial rfl).2.trans f_m_fc
  replace f_m_nt := (hs.o gm trivial rfl).2.trans f_m_nt
  replace f_m_wt := (hs.o gm trivial rfl).2.trans f_m_wt
  replace f_m_be := (hs.o gm trivial rfl).2.trans f_m_be
  replace f_m_bor := (hs.o gm trivial rfl).2.trans f_m_bor
  replace f_m_kin := (hs.o gm trivial rfl).2.trans f_m_kin
  replace f_m_sum := (hs.o gm trivial rfl).2.trans f_m_sum
  replace f_m_fro := (hs.o gm trivial rfl).2.trans f_m_fro
  replace f_m_fil := (hs.o gm trivial rfl).2.trans f_m_fil
  replace f_m_jud := (hs.o gm trivial rfl).2.trans f_m_jud
  replace f_m_ear := (hs.o gm trivial rfl).2.trans f_m_ear
  replace f_m_hds := (hs.o gm trivial rfl).2.trans f_m_hds
  replace f_m_ord := (hs.o gm trivial rfl).2.trans f_m_ord
  replace f_m_wkl := (hs.o gm trivial rfl).2.trans f_m_wkl
  replace f_m_owd := (hs.o gm trivial rfl).2.trans f_m_owd
  replace f_m_gds := (hs.o gm trivial rfl).2.trans f_m_gds
  replace f_m_szd := (hs.o gm trivial rfl).2.trans f_m_szd
  replace f_m_srv := (hs.o gm trivial rfl).2.trans f_m_srv
  replace f_y_p0 := (hs.o g_qo_py trivial rfl).2.trans f_y_p0
  replace f_m_p0 := (hs.o gm trivial rfl).2.trans f_m_p0
  replace f_y_p1 := (hs.o g_qo_py trivial rfl).2.trans f_y_p1
  replace f_m_p1 := (hs.o gm trivial rfl).2.trans f_m_p1
  replace f_y_p2 := (hs.o g_qo_py trivial rfl).2.trans f_y_p2
  replace f_m_p2 := (hs.o gm trivial rfl).2.trans f_m_p2
  replace f_y_p3 := (hs.o g_qo_py trivial rfl).2.trans f_y_p3
  replace f_m_p3 := (hs.o gm trivial rfl).2.trans f_m_p3
  replace f_y_p4 := (hs.o g_qo_py trivial rfl).2.trans f_y_p4
  replace f_m_p4 := (hs.o gm trivial rfl).2.trans f_m_p4
  replace f_qrg9 := (hs.o gx trivial rfl).2.trans f_qrg9
  replace f_y_ls := (hs.o g_qrg9 trivial rfl).2.trans f_y_ls
  replace f_m_rl := (hs.o gm trivial rfl).2.trans f_m_rl
  replace ffv_893 := (hs.o g_qrg9 trivial rfl).1.trans ffv_893
  replace ffv_894 := (hs.o gm trivial rfl).1.trans ffv_894
  replace ffv_895 := (hs.o gm trivial rfl).1.trans ffv_895
  replace pf_qa : ∀ j : Nat, (j : Int) < (h_902.2.1 ax 6).toInt → h_902.2.2 qa j ≠ none := by
    intro j hj; rw [(hs.o gx trivial rfl).1] at hj; rw [(hs.a g_qa rfl j).2]; exact pf_qa j hj
  replace pf_qp : ∀ j : Nat, (j : Int) < (h_902.2.1 ax 8).toInt → h_902.2.2 qp j ≠ none := by
    intro j hj; rw [(hs.o gx trivial rfl).1] at hj; rw [(hs.a g_qp rfl j).2]; exact pf_qp j hj
  replace pf_qc : ∀ j : Nat, (j : Int) < (h_902.2.1 ax 11).toInt → h_902.2.2 qc j ≠ none := by
    intro j hj; rw [(hs.o gx trivial rfl).1] at hj; rw [(hs.a g_qc rfl j).2]; exact pf_qc j hj
  replace pf_qh : ∀ j : Nat, (j : Int) < (h_902.2.1 ax 13).toInt → h_902.2.2 qh j ≠ none := by
    intro j hj; rw [(hs.o gx trivial rfl).1] at hj; rw [(hs.a g_qh rfl j).2]; exact pf_qh j hj
  replace pf_ql : ∀ j : Nat, (j : Int) < (h_902.2.1 qw 0).toInt → h_902.2.2 ql j ≠ none := by
    intro j hj; rw [(hs.o g_qw trivial rfl).1] at hj; rw [(hs.a g_ql rfl j).2]; exact pf_ql j hj
  replace cl_lst : hx_col 8 h_902 ql 0 = c_lst := (hx_col_S hs hTo g_ql tt_40 tt_2 rfl rfl).trans cl_lst
  replace cl_dead : hx_col 40 h_902 qp 7 = c_dead := (hx_col_S hs hTo g_qp tt_44 tt_4 rfl rfl).trans cl_dead
  replace cl_isj : hx_col 40 h_902 qp 8 = c_isj := (hx_col_S hs hTo g_qp tt_44 tt_4 rfl rfl).trans cl_isj
  replace cl_dox : hx_col 40 h_902 qp 5 = c_dox := (hx_col_S hs hTo g_qp tt_44 tt_4 rfl rfl).trans cl_dox
  replace cl_doy : hx_col 40 h_902 qp 6 = c_doy := (hx_col_S hs hTo g_qp tt_44 tt_4 rfl rfl).trans cl_doy
  replace cl_fou : hx_col 100 h_902 qc 10 = c_fou := (hx_col_S hs hTo g_qc tt_45 tt_2 rfl rfl).trans cl_fou
  replace cl_tri : hx_col 100 h_902 qc 9 = c_tri := (hx_col_S hs hTo g_qc tt_45 tt_2 rfl rfl).trans cl_tri
  replace cl_bor : hx_col 40 h_902 qp 1 = F_bor := (hx_col_S hs hTo g_qp tt_44 tt_4 rfl rfl).trans cl_bor
  replace cl_kin : hx_col 40 h_902 qp 2 = F_kin := (hx_col_S hs hTo g_qp tt_44 tt_4 rfl rfl).trans cl_kin
  replace cl_sum : hx_col 100 h_902 qc 6 = F_sum := (hx_col_S hs hTo g_qc tt_45 tt_2 rfl rfl).trans cl_sum
  replace cl_fro : hx_col 100 h_902 qc 7 = F_fro := (hx_col_S hs hTo g_qc tt_45 tt_2 rfl rfl).trans cl_fro
  replace cl_fil : hx_col 100 h_902 qc 8 = F_fil := (hx_col_S hs hTo g_qc tt_45 tt_2 rfl rfl).trans cl_fil
  replace cl_hea : hx_col 100 h_902 qc 11 = F_mh := (hx_col_S hs hTo g_qc tt_45 tt_2 rfl rfl).trans cl_hea
  replace cl_jud : hx_col 100 h_902 qc 12 = F_jud := (hx_col_S hs hTo g_qc tt_45 tt_2 rfl rfl).trans cl_jud
  replace cl_ear : hx_col 40 h_902 qp 3 = F_ear := (hx_col_S hs hTo g_qp tt_44 tt_4 rfl rfl).trans cl_ear
  replace cl_hds : hx_col 40 h_902 qp 4 = F_hds := (hx_col_S hs hTo g_qp tt_44 tt_4 rfl rfl).trans cl_hds
  replace cl_ord : hx_col 100 h_902 qc 13 = F_ord := (hx_col_S hs hTo g_qc tt_45 tt_2 rfl rfl).trans cl_ord
  replace cl_wkl : hx_col 100 h_902 qc 14 = F_wkl := (hx_col_S hs hTo g_qc tt_45 tt_2 rfl rfl).trans cl_wkl
  replace cl_owd : hx_col 100 h_902 qc 15 = F_owd := (hx_col_S hs hTo g_qc tt_45 tt_2 rfl rfl).trans cl_owd
  replace cl_gds : hx_col 100 h_902 qc 17 = F_gds := (hx_col_S hs hTo g_qc tt_45 tt_2 rfl rfl).trans cl_gds
  replace cl_szd : hx_col 100 h_902 qc 16 = F_szd := (hx_col_S hs hTo g_qc tt_45 tt_2 rfl rfl).trans cl_szd
  replace cl_srv : hx_col 100 h_902 qc 18 = F_srv := (hx_col_S hs hTo g_qc tt_45 tt_2 rfl rfl).trans cl_srv
  replace nu_qp : hx_num 40 h_902 qp 0 (np.toInt) := hx_num_S hs hTo g_qp tt_44 tt_4 rfl rfl nu_qp
  replace nu_qc : hx_num 100 h_902 qc 0 (c0.toInt) := hx_num_S hs hTo g_qc tt_45 tt_2 rfl rfl nu_qc
  replace sb_list : hx_LQ 8 100 h_902 ql qc := hx_LQ_S hs g_ql g_qc rfl rfl sb_list
  replace hDF : hw_DF h_902 qc qp 2 F_aga c0.toInt := hw_DF_S hs hTo g_qc g_qp tt_45 tt_2 rfl rfl rfl hDF
  replace hRA9 : hv_RA h_902 qa qwo a0.toInt A9 := hv_RA_S hs hTo g_qa g_qwo tt_43 tt_0 rfl rfl rfl rfl rfl rfl ?o26 hRA9
  case o26 => omega
  replace hDP : hw_DF h_902 qc qp 1 F_by c0.toInt := hw_DF_S hs hTo g_qc g_qp tt_45 tt_2 rfl rfl rfl hDP
  replace hAC9 : hv_AC h_902 qc F_ml c0.toInt A9 := hv_AC_S hs hTo g_qc tt_45 tt_2 rfl tt_0 rfl rfl rfl rfl rfl rfl rfl hAC9
  replace hFX : hv_FX 8 4 h_902 qc cF9L c0.toInt := hv_FX_S hs hTo g_qc tt_45 tt_2 rfl rfl rfl rfl hFX
  replace hBX : hv_FX 3 5 h_902 qc F_be c0.toInt := hv_FX_S hs hTo g_qc tt_45 tt_2 rfl rfl rfl rfl hBX
  replace hHL : hv_HL h_902 qh qc F_ho m0.toInt c0.toInt := hv_HL_S hs g_qh g_qc rfl rfl hHL
  replace n_mw : h_902.2.1 mw = F_mw := (funext fun j => (hs.a g_mw rfl j).1).trans n_mw
  replace n_mr : h_902.2.1 mr = F_mr := (funext fun j => (hs.a g_mr rfl j).1).trans n_mr
  replace n_mp : h_902.2.1 mp = F_mp := (funext fun j => (hs.a g_mp rfl j).1).trans n_mp
  replace n_mn : h_902.2.1 mn = F_mn := (funext fun j => (hs.a g_mn rfl j).1).trans n_mn
  replace n_ml : h_902.2.1 ml = F_ml := (funext fun j => (hs.a g_ml rfl j).1).trans n_ml
  replace n_mh : h_902.2.1 mh = F_mh := (funext fun j => (hs.a g_mh rfl j).1).trans n_mh
  replace n_mt : h_902.2.1 mt = F_mt := (funext fun j => (hs.a g_mt rfl j).1).trans n_mt
  replace n_m_fou : h_902.2.1 m_fou = F_m_fou := (funext fun j => (hs.a g_m_fou rfl j).1).trans n_m_fou
  replace n_b_of : h_902.2.1 b_of = B_of := (funext fun j => (hs.a g_b_of rfl j).1).trans n_b_of
  replace n_m_of : h_902.2.1 m_of = F_of := (funext fun j => (hs.a g_m_of rfl j).1).trans n_m_of
  replace n_b_wf : h_902.2.1 b_wf = B_wf := (funext fun j => (hs.a g_b_wf rfl j).1).trans n_b_wf
  replace n_m_wf : h_902.2.1 m_wf = F_wf := (funext fun j => (hs.a g_m_wf rfl j).1).trans n_m_wf
  replace n_b_df : h_902.2.1 b_df = B_df := (funext fun j => (hs.a g_b_df rfl j).1).trans n_b_df
  replace n_m_df : h_902.2.1 m_df = F_df := (funext fun j => (hs.a g_m_df rfl j).1).trans n_m_df
  replace n_b_kf : h_902.2.1 b_kf = B_kf := (funext fun j => (hs.a g_b_kf rfl j).1).trans n_b_kf
  replace n_m_kf : h_902.2.1 m_kf = F_kf := (funext fun j => (hs.a g_m_kf rfl j).1).trans n_m_kf
  replace n_b_sf : h_902.2.1 b_sf = B_sf := (funext fun j => (hs.a g_b_sf rfl j).1).trans n_b_sf
  replace n_m_sf : h_902.2.1 m_sf = F_sf := (funext fun j => (hs.a g_m_sf rfl j).1).trans n_m_sf
  replace n_b_bf : h_902.2.1 b_bf = bfL := (funext fun j => (hs.a g_b_bf rfl j).1).trans n_b_bf
  replace n_lst : h_902.2.1 m_lst = F_lst := (funext fun j => (hs.a g_m_lst rfl j).1).trans n_lst
  replace n_tp : h_902.2.1 m_tp = F_tp := (funext fun j => (hs.a g_m_tp rfl j).1).trans n_tp
  replace n_qtp : h_902.2.1 qtp = F_tp := (funext fun j => (hs.a g_qtp rfl j).1).trans n_qtp
  replace n_dead : h_902.2.1 m_dead = F_dead := (funext fun j => (hs.a g_m_dead rfl j).1).trans n_dead
  replace n_isj : h_902.2.1 m_isj = F_isj := (funext fun j => (hs.a g_m_isj rfl j).1).trans n_isj
  replace n_dox : h_902.2.1 m_dox = F_dox := (funext fun j => (hs.a g_m_dox rfl j).1).trans n_dox
  replace n_doy : h_902.2.1 m_doy = F_doy := (funext fun j => (hs.a g_m_doy rfl j).1).trans n_doy
  replace n_qlt : h_902.2.1 qlt = F_qlt := (funext fun j => (hs.a g_qlt rfl j).1).trans n_qlt
  replace n_m_wkd : h_902.2.1 m_wkd = F_m_wkd := (funext fun j => (hs.a g_m_wkd rfl j).1).trans n_m_wkd
  replace n_aga : h_902.2.1 m_aga = F_aga := (funext fun j => (hs.a g_m_aga rfl j).1).trans n_aga
  replace n_ad : h_902.2.1 m_ad = F_ad := (funext fun j => (hs.a g_m_ad rfl j).1).trans n_ad
  replace n_by : h_902.2.1 m_by = F_by := (funext fun j => (hs.a g_m_by rfl j).1).trans n_by
  replace n_ho : h_902.2.1 m_ho = F_ho := (funext fun j => (hs.a g_m_ho rfl j).1).trans n_ho
  replace n_fc : h_902.2.1 m_fc = F_fc := (funext fun j => (hs.a g_m_fc rfl j).1).trans n_fc
  replace n_nt : h_902.2.1 m_nt = F_nt := (funext fun j => (hs.a g_m_nt rfl j).1).trans n_nt
  replace n_wt : h_902.2.1 m_wt = F_wt := (funext fun j => (hs.a g_m_wt rfl j).1).trans n_wt
  replace n_be : h_902.2.1 m_be = F_be := (funext fun j => (hs.a g_m_be rfl j).1).trans n_be
  replace n_bor : h_902.2.1 m_bor = F_bor := (funext fun j => (hs.a g_m_bor rfl j).1).trans n_bor
  replace n_kin : h_902.2.1 m_kin = F_kin := (funext fun j => (hs.a g_m_kin rfl j).1).trans n_kin
  replace n_sum : h_902.2.1 m_sum = F_sum := (funext fun j => (hs.a g_m_sum rfl j).1).trans n_sum
  replace n_fro : h_902.2.1 m_fro = F_fro := (funext fun j => (hs.a g_m_fro rfl j).1).trans n_fro
  replace n_fil : h_902.2.1 m_fil = F_fil := (funext fun j => (hs.a g_m_fil rfl j).1).trans n_fil
  replace n_jud : h_902.2.1 m_jud = F_jud := (funext fun j => (hs.a g_m_jud rfl j).1).trans n_jud
  replace n_ear : h_902.2.1 m_ear = F_ear := (funext fun j => (hs.a g_m_ear rfl j).1).trans n_ear
  replace n_hds : h_902.2.1 m_hds = F_hds := (funext fun j => (hs.a g_m_hds rfl j).1).trans n_hds
  replace n_ord : h_902.2.1 m_ord = F_ord := (funext fun j => (hs.a g_m_ord rfl j).1).trans n_ord
  replace n_wkl : h_902.2.1 m_wkl = F_wkl := (funext fun j => (hs.a g_m_wkl rfl j).1).trans n_wkl
  replace n_owd : h_902.2.1 m_owd = F_owd := (funext fun j => (hs.a g_m_owd rfl j).1).trans n_owd
  replace n_gds : h_902.2.1 m_gds = F_gds := (funext fun j => (hs.a g_m_gds rfl j).1).trans n_gds
  replace n_szd : h_902.2.1 m_szd = F_szd := (funext fun j => (hs.a g_m_szd rfl j).1).trans n_szd
  replace n_srv : h_902.2.1 m_srv = F_srv := (funext fun j => (hs.a g_m_srv rfl j).1).trans n_srv
  replace n_p0 : h_902.2.1 m_p0 = F_p0 := (funext fun j => (hs.a g_m_p0 rfl j).1).trans n_p0
  replace n_y_p0 : h_902.2.1 y_p0 = F_p0 := (funext fun j => (hs.a g_y_p0 rfl j).1).trans n_y_p0
  replace n_p1 : h_902.2.1 m_p1 = F_p1 := (funext fun j => (hs.a g_m_p1 rfl j).1).trans n_p1
  replace n_y_p1 : h_902.2.1 y_p1 = F_p1 := (funext fun j => (hs.a g_y_p1 rfl j).1).trans n_y_p1
  replace n_p2 : h_902.2.1 m_p2 = F_p2 := (funext fun j => (hs.a g_m_p2 rfl j).1).trans n_p2
  replace n_y_p2 : h_902.2.1 y_p2 = F_p2 := (funext fun j => (hs.a g_y_p2 rfl j).1).trans n_y_p2
  replace n_p3 : h_902.2.1 m_p3 = F_p3 := (funext fun j => (hs.a g_m_p3 rfl j).1).trans n_p3
  replace n_y_p3 : h_902.2.1 y_p3 = F_p3 := (funext fun j => (hs.a g_y_p3 rfl j).1).trans n_y_p3
  replace n_p4 : h_902.2.1 m_p4 = F_p4 := (funext fun j => (hs.a g_m_p4 rfl j).1).trans n_p4
  replace n_y_p4 : h_902.2.1 y_p4 = F_p4 := (funext fun j => (hs.a g_y_p4 rfl j).1).trans n_y_p4
  replace n_y_ls : h_902.2.1 y_ls = F_y_ls := (funext fun j => (hs.a g_y_ls rfl j).1).trans n_y_ls
  replace n_m_rl : h_902.2.1 m_rl = F_m_rl := (funext fun j => (hs.a g_m_rl rfl j).1).trans n_m_rl
  replace gx := gx.S hs
  replace gm := gm.S hs
  replace g_qa := g_qa.S hs
  replace g_qp := g_qp.S hs
  replace g_qc := g_qc.S hs
  replace g_qh := g_qh.S hs
  replace g_qw := g_qw.S hs
  replace g_ql := g_ql.S hs
  replace g_mw := g_mw.S hs
  replace g_mr := g_mr.S hs
  replace g_mp := g_mp.S hs
  replace g_mn := g_mn.S hs
  replace g_ml := g_ml.S hs
  replace g_mh := g_mh.S hs
  replace g_mt := g_mt.S hs
  replace g_m_fou := g_m_fou.S hs
  replace g_qo_ln := g_qo_ln.S hs
  replace g_qo_py := g_qo_py.S hs
  replace g_b_of := g_b_of.S hs
  replace g_m_of := g_m_of.S hs
  replace g_b_wf := g_b_wf.S hs
  replace g_m_wf := g_m_wf.S hs
  replace g_b_df := g_b_df.S hs
  replace g_m_df := g_m_df.S hs
  replace g_b_kf := g_b_kf.S hs
  replace g_m_kf := g_m_kf.S hs
  replace g_b_sf := g_b_sf.S hs
  replace g_m_sf := g_m_sf.S hs
  replace g_b_bf := g_b_bf.S hs
  replace g_m_lst := g_m_lst.S hs
  replace g_qtp := g_qtp.S hs
  replace g_m_tp := g_m_tp.S hs
  replace g_m_dead := g_m_dead.S hs
  replace g_m_isj := g_m_isj.S hs
  replace g_m_dox := g_m_dox.S hs
  replace g_m_doy := g_m_doy.S hs
  replace g_qlt := g_qlt.S hs
  replace g_qlf := g_qlf.S hs
  replace g_m_wkd := g_m_wkd.S hs
  replace g_m_aga := g_m_aga.S hs
  replace g_qwo := g_qwo.S hs
  replace g_m_ad := g_m_ad.S hs
  replace g_m_by := g_m_by.S hs
  replace g_m_ho := g_m_ho.S hs
  replace g_m_fc := g_m_fc.S hs
  replace g_m_nt := g_m_nt.S hs
  replace g_m_wt := g_m_wt.S hs
  replace g_m_be := g_m_be.S hs
  replace g_m_bor := g_m_bor.S hs
  replace g_m_kin := g_m_kin.S hs
  replace g_m_sum := g_m_sum.S hs
  replace g_m_fro := g_m_fro.S hs
  replace g_m_fil := g_m_fil.S hs
  replace g_m_jud := g_m_jud.S hs
  replace g_m_ear := g_m_ear.S hs
  replace g_m_hds := g_m_hds.S hs
  replace g_m_ord := g_m_ord.S hs
  replace g_m_wkl := g_m_wkl.S hs
  replace g_m_owd := g_m_owd.S hs
  replace g_m_gds := g_m_gds.S hs
  replace g_m_szd := g_m_szd.S hs
  replace g_m_srv := g_m_srv.S hs
  replace g_y_p0 := g_y_p0.S hs
  replace g_m_p0 := g_m_p0.S hs
  replace g_y_p1 := g_y_p1.S hs
  replace g_m_p1 := g_m_p1.S hs
  replace g_y_p2 := g_y_p2.S hs
  replace g_m_p2 := g_m_p2.S hs
  replace g_y_p3 := g_y_p3.S hs
  replace g_m_p3 := g_m_p3.S hs
  replace g_y_p4 := g_y_p4.S hs
  replace g_m_p4 := g_m_p4.S hs
  replace g_qrg9 := g_qrg9.S hs
  replace g_y_ls := g_y_ls.S hs
  replace g_m_rl := g_m_rl.S hs
  refine lv_pop hx hb dL_law_1337 rfl ?_
  refine lv_aload_n hx hb dL_law_1338 rfl (lv_at hl 1 rfl) ?_
  refine lv_aload_n hx hb dL_law_1339 rfl (lv_at hl 3 rfl) ?_
  refine lv_iload_n hx hb dL_law_1340 rfl (lv_at hl 0 rfl) ?_
  refine lv_iconst (v := 1) hx hb dL_law_1341 ?o27 ?_
  case o27 => decide
  refine lv_iadd hx hb dL_law_1342 ?_
  refine lv_topi (fun x_906 ex_906 => ?_)
  have zx_906 : x_906.toInt = i.toInt + 1 := ?o28
  case o28 =>
    rw [ex_906]
    refine i32_add rfl ?o29 ?o30 ?o31
    case o29 => decide
    case o30 => omega
    case o31 => omega
  obtain rfl : x_897 = x_906 := ex_897.trans ex_906.symm
  refine va_sld hx hb hX hbl hbA hW.2.2.2.1 (vp_in_iff.mpr ⟨?o32, ?o33⟩) dL_law_1343 ?_
  case o32 => omega
  case o33 => omega
  refine lv_topi (fun x_907 ex_907 => ?_)
  obtain rfl : x_898 = x_907 := ex_898.trans ex_907.symm
  refine lv_aload_n hx hb dL_law_1344 rfl (lv_at hl 3 rfl) ?_
  refine lv_iload_n hx hb dL_law_1345 rfl (lv_at hl 0 rfl) ?_
  refine lv_iconst (v := 2) hx hb dL_law_1346 ?o34 ?_
  case o34 => decide
  refine lv_iadd hx hb dL_law_1347 ?_
  refine lv_topi (fun x_908 ex_908 => ?_)
  have zx_908 : x_908.toInt = i.toInt + 2 := ?o35
  case o35 =>
    rw [ex_908]
    refine i32_add rfl ?o36 ?o37 ?o38
    case o36 => decide
    case o37 => omega
    case o38 => omega
  obtain rfl : x_899 = x_908 := ex_899.trans ex_908.symm
  refine va_sld hx hb hX hbl hbA hW.2.2.2.1 (vp_in_iff.mpr ⟨?o39, ?o40⟩) dL_law_1348 ?_
  case o39 => omega
  case o40 => omega
  refine lv_topi (fun x_909 ex_909 => ?_)
  obtain rfl : x_900 = x_909 := ex_900.trans ex_909.symm
  have hTo := hT
  obtain ⟨q_910, fq_910, gq_910⟩ := hx_rf hT gm tt_10 (k := 66) (u := 99) rfl
  obtain ⟨fa_911, nfa_911⟩ : ∃ g : Nat → Int32, h_902.2.1 q_910 = g := ⟨_, rfl⟩
  refine hx_goi (hx_runV (As := [.int x_898, .int x_900]) (rest := []) ⟨hx, hb, hml, hown, hts⟩ hW gm tt_10 (T := TX10) (N := 98) rfl (t_X10_other_v l dC dI dA L_901 h_902 H.size am x_898 x_900 hT gm m_by g_m_by f_m_by m_aga g_m_aga f_m_aga m_fil g_m_fil f_m_fil m_sum g_m_sum f_m_sum mr g_mr f_mr m_fro g_m_fro f_m_fro m_bor g_m_bor f_m_bor mn g_mn f_mn mp g_mp f_mp q_910 gq_910 fq_910 m_fc g_m_fc f_m_fc m_ho g_m_ho f_m_ho mt g_mt f_mt F_by n_by F_aga n_aga F_fil n_fil F_sum n_sum F_mr n_mr F_fro n_fro F_bor n_bor F_mn n_mn F_mp n_mp fa_911 nfa_911 F_fc n_fc F_ho n_ho F_mt n_mt c0 f_m_claims m0 f_m_heardMany a0 f_m_acts F_ad F_mh A9 hCA9 hAB hHO9) (cwV 2 hts (hx_gV kw_1749 kw_1746 kw_1747 kw_1748 kw_103) rfl rfl rfl (by decide +kernel) ⟨Nat.le_of_ble_eq_true rfl, Nat.le_of_ble_eq_true rfl⟩) rfl hl.1 rfl (Nat.le_of_ble_eq_true rfl) dL_law_1349 ⟨(show CC + 0 + 0 ≤ 600000 from ?o41), (show SS + 0 + 0 ≤ 7302250 from ?o42)⟩) hW (fun r_914 L_912 h_913 H locs p_915 hW => ?_)
  case o41 => omega
  case o42 => omega
  obtain ⟨hr_916, hT, hs⟩ := p_915
  replace hT : hx_T T_tb L_912 h_913 := hT
  replace hs : hx_S T_tb [(99, 0)] L_901 h_902 L_912 h_913 := hs
  replace f_qa := (hs.o gx trivial rfl).2.trans f_qa
  replace f_qp := (hs.o gx trivial rfl).2.trans f_qp
  replace f_qc := (hs.o gx trivial rfl).2.trans f_qc
  replace f_qh := (hs.o gx trivial rfl).2.trans f_qh
  replace f_qw := (hs.o gx trivial rfl).2.trans f_qw
  replace f_ql := (hs.o g_qw trivial rfl).2.trans f_ql
  replace f_m_now := (hs.o gm trivial rfl).1.trans f_m_now
  replace f_m_persons := (hs.o gm trivial rfl).1.trans f_m_persons
  replace f_m_claims := (hs.o gm trivial rfl).1.trans f_m_claims
  replace f_m_taped := (hs.o gm trivial rfl).1.trans f_m_taped
  replace f_m_acts := (hs.o gm trivial rfl).1.trans f_m_acts
  replace f_m_heardMany := (hs.o gm trivial rfl).1.trans f_m_heardMany
  replace f_m_lines := (hs.o gm trivial rfl).1.trans f_m_lines
  replace f_m_listed := (hs.o gm trivial rfl).1.trans f_m_listed
  replace f_m_walkedMany := (hs.o gm trivial rfl).1.trans f_m_walkedMany
  replace f_m_payments := (hs.o gm trivial rfl).1.trans f_m_payments
  replace f_x_now := (hs.o gx trivial rfl).1.trans f_x_now
  replace f_x_personCount := (hs.o gx trivial rfl).1.trans f_x_personCount
  replace f_x_claimCount := (hs.o gx trivial rfl).1.trans f_x_claimCount
  replace f_x_tapeLength := (hs.o gx trivial rfl).1.trans f_x_tapeLength
  replace f_x_actCount := (hs.o gx trivial rfl).1.trans f_x_actCount
  replace f_x_heardCount := (hs.o gx trivial rfl).1.trans f_x_heardCount
  replace f_mw := (hs.o gm trivial rfl).2.trans f_mw
  replace f_mr := (hs.o gm trivial rfl).2.trans f_mr
  replace f_mp := (hs.o gm trivial rfl).2.trans f_mp
  replace f_mn := (hs.o gm trivial rfl).2.trans f_mn
  replace f_ml := (hs.o gm trivial rfl).2.trans f_ml
  replace f_mh := (hs.o gm trivial rfl).2.trans f_mh
  replace f_mt := (hs.o gm trivial rfl).2.trans f_mt
  replace f_m_fou := (hs.o gm trivial rfl).2.trans f_m_fou
  replace f_qo_ln := (hs.o gx trivial rfl).2.trans f_qo_ln
  replace f_o_ln := (hs.o g_qo_ln trivial rfl).1.trans f_o_ln
  replace f_o_lsd := (hs.o g_qw trivial rfl).1.trans f_o_lsd
  replace f_o_wkm := (hs.o g_qw trivial rfl).1.trans f_o_wkm
  replace f_qo_py := (hs.o gx trivial rfl).2.trans f_qo_py
  replace f_o_py := (hs.o g_qo_py trivial rfl).1.trans f_o_py
  replace f_b_of := (hs.o g_qo_ln trivial rfl).2.trans f_b_of
  replace f_m_of := (hs.o gm trivial rfl).2.trans f_m_of
  replace f_b_wf := (hs.o g_qo_ln trivial rfl).2.trans f_b_wf
  replace f_m_wf := (hs.o gm trivial rfl).2.trans f_m_wf
  replace f_b_df := (hs.o g_qo_ln trivial rfl).2.trans f_b_df
  replace f_m_df := (hs.o gm trivial rfl).2.trans f_m_df
  replace f_b_kf := (hs.o g_qo_ln trivial rfl).2.trans f_b_kf
  replace f_m_kf := (hs.o gm trivial rfl).2.trans f_m_kf
  replace f_b_sf := (hs.o g_qo_ln trivial rfl).2.trans f_b_sf
  replace f_m_sf := (hs.o gm trivial rfl).2.trans f_m_sf
  replace f_b_bf := (hs.o g_qo_ln trivial rfl).2.trans f_b_bf
  replace f_m_lst := (hs.o gm trivial rfl).2.trans f_m_lst
  replace f_qtp := (hs.o gx trivial rfl).2.trans f_qtp
  replace f_m_tp := (hs.o gm trivial rfl).2.trans f_m_tp
  replace f_m_dead := (hs.o gm trivial rfl).2.trans f_m_dead
  replace f_m_isj := (hs.o gm trivial rfl).2.trans f_m_isj
  replace f_m_dox := (hs.o gm trivial rfl).2.trans f_m_dox
  replace f_m_doy := (hs.o gm trivial rfl).2.trans f_m_doy
  replace f_qlt := (hs.o g_qw trivial rfl).2.trans f_qlt
  replace f_qlf := (hs.o g_qw trivial rfl).2.trans f_qlf
  replace f_m_wkd := (hs.o gm trivial rfl).2.trans f_m_wkd
  replace f_m_aga := (hs.o gm trivial rfl).2.trans f_m_aga
  replace f_qwo := (hs.o gx trivial rfl).2.trans f_qwo
  replace f_m_ad := (hs.o gm trivial rfl).2.trans f_m_ad
  replace f_m_by := (hs.o gm trivial rfl).2.trans f_m_by
  replace f_m_ho := (hs.o gm trivial rfl).2.trans f_m_ho
  replace f_m_fc := (hs.o gm trivial rfl).2.trans f_m_fc
  replace f_m_nt := (hs.o gm trivial rfl).2.trans f_m_nt
  replace f_m_wt := (hs.o gm trivial rfl).2.trans f_m_wt
  replace f_m_be := (hs.o gm trivial rfl).2.trans f_m_be
  replace f_m_bor := (hs.o gm trivial rfl).2.trans f_m_bor
  replace f_m_kin := (hs.o gm trivial rfl).2.trans f_m_kin
  replace f_m_sum := (hs.o gm trivial rfl).2.trans f_m_sum
  replace f_m_fro := (hs.o gm trivial rfl).2.trans f_m_fro
  replace f_m_fil := (hs.o gm trivial rfl).2.trans f_m_fil
  replace f_m_jud := (hs.o gm trivial rfl).2.trans f_m_jud
  replace f_m_ear := (hs.o gm trivial rfl).2.trans f_m_ear
  replace f_m_hds := (hs.o gm trivial rfl).2.trans f_m_hds
  replace f_m_ord := (hs.o gm trivial rfl).2.trans f_m_ord
  replace f_m_wkl := (hs.o gm trivial rfl).2.trans f_m_wkl
  replace f_m_owd := (hs.o gm trivial rfl).2.trans f_m_owd
  replace f_m_gds := (hs.o gm trivial rfl).2.trans f_m_gds
  replace f_m_szd := (hs.o gm trivial rfl).2.trans f_m_szd
  replace f_m_srv := (hs.o gm trivial rfl).2.trans f_m_srv
  replace f_y_p0 := (hs.o g_qo_py trivial rfl).2.trans f_y_p0
  replace f_m_p0 := (hs.o gm trivial rfl).2.trans f_m_p0
  replace f_y_p1 := (hs.o g_qo_py trivial rfl).2.trans f_y_p1
  replace f_m_p1 := (hs.o gm trivial rfl).2.trans f_m_p1
  replace f_y_p2 := (hs.o g_qo_py trivial rfl).2.trans f_y_p2
  replace f_m_p2 := (hs.o gm trivial rfl).2.trans f_m_p2
  replace f_y_p3 := (hs.o g_qo_py trivial rfl).2.trans f_y_p3
  replace f_m_p3 := (hs.o gm trivial rfl).2.trans f_m_p3
  replace f_y_p4 := (hs.o g_qo_py trivial rfl).2.trans f_y_p4
  replace f_m_p4 := (hs.o gm trivial rfl).2.trans f_m_p4
  replace f_qrg9 := (hs.o gx trivial rfl).2.trans f_qrg9
  replace f_y_ls := (hs.o g_qrg9 trivial rfl).2.trans f_y_ls
  replace f_m_rl := (hs.o gm trivial rfl).2.trans f_m_rl
  replace ffv_893 := (hs.o g_qrg9 trivial rfl).1.trans ffv_893
  replace ffv_894 := (hs.o gm trivial rfl).1.trans ffv_894
  replace ffv_895 := (hs.o gm trivial rfl).1.trans ffv_895
  replace fq_910 := (hs.o gm trivial rfl).2.trans fq_910
  replace pf_qa : ∀ j : Nat, (j : Int) < (h_913.2.1 ax 6).toInt → h_913.2.2 qa j ≠ none := by
    intro j hj; rw [(hs.o gx trivial rfl).1] at hj; rw [(hs.a g_qa rfl j).2]; exact pf_qa j hj
  replace pf_qp : ∀ j : Nat, (j : Int) < (h_913.2.1 ax 8).toInt → h_913.2.2 qp j ≠ none := by
    intro j hj; rw [(hs.o gx trivial rfl).1] at hj; rw [(hs.a g_qp rfl j).2]; exact pf_qp j hj
  replace pf_qc : ∀ j : Nat, (j : Int) < (h_913.2.1 ax 11).toInt → h_913.2.2 qc j ≠ none := by
    intro j hj; rw [(hs.o gx trivial rfl).1] at hj; rw [(hs.a g_qc rfl j).2]; exact pf_qc j hj
  replace pf_qh : ∀ j : Nat, (j : Int) < (h_913.2.1 ax 13).toInt → h_913.2.2 qh j ≠ none := by
    intro j hj; rw [(hs.o gx trivial rfl).1] at hj; rw [(hs.a g_qh rfl j).2]; exact pf_qh j hj
  replace pf_ql : ∀ j : Nat, (j : Int) < (h_913.2.1 qw 0).toInt → h_913.2.2 ql j ≠ none := by
    intro j hj; rw [(hs.o g_qw trivial rfl).1] at hj; rw [(hs.a g_ql rfl j).2]; exact pf_ql j hj
  replace cl_lst : hx_col 8 h_913 ql 0 = c_lst := (hx_col_S hs hTo g_ql tt_40 tt_2 rfl rfl).trans cl_lst
  replace cl_dead : hx_col 40 h_913 qp 7 = c_dead := (hx_col_S hs hTo g_qp tt_44 tt_4 rfl rfl).trans cl_dead
  replace cl_isj : hx_col 40 h_913 qp 8 = c_isj := (hx_col_S hs hTo g_qp tt_44 tt_4 rfl rfl).trans cl_isj
  replace cl_dox : hx_col 40 h_913 qp 5 = c_dox := (hx_col_S hs hTo g_qp tt_44 tt_4 rfl rfl).trans cl_dox
  replace cl_doy : hx_col 40 h_913 qp 6 = c_doy := (hx_col_S hs hTo g_qp tt_44 tt_4 rfl rfl).trans cl_doy
  replace cl_fou : hx_col 100 h_913 qc 10 = c_fou := (hx_col_S hs hTo g_qc tt_45 tt_2 rfl rfl).trans cl_fou
  replace cl_tri : hx_col 100 h_913 qc 9 = c_tri := (hx_col_S hs hTo g_qc tt_45 tt_2 rfl rfl).trans cl_tri
  replace cl_bor : hx_col 40 h_913 qp 1 = F_bor := (hx_col_S hs hTo g_qp tt_44 tt_4 rfl rfl).trans cl_bor
  replace cl_kin : hx_col 40 h_913 qp 2 = F_kin := (hx_col_S hs hTo g_qp tt_44 tt_4 rfl rfl).trans cl_kin
  replace cl_sum : hx_col 100 h_913 qc 6 = F_sum := (hx_col_S hs hTo g_qc tt_45 tt_2 rfl rfl).trans cl_sum
  replace cl_fro : hx_col 100 h_913 qc 7 = F_fro := (hx_col_S hs hTo g_qc tt_45 tt_2 rfl rfl).trans cl_fro
  replace cl_fil : hx_col 100 h_913 qc 8 = F_fil := (hx_col_S hs hTo g_qc tt_45 tt_2 rfl rfl).trans cl_fil
  replace cl_hea : hx_col 100 h_913 qc 11 = F_mh := (hx_col_S hs hTo g_qc tt_45 tt_2 rfl rfl).trans cl_hea
  replace cl_jud : hx_col 100 h_913 qc 12 = F_jud := (hx_col_S hs hTo g_qc tt_45 tt_2 rfl rfl).trans cl_jud
  replace cl_ear : hx_col 40 h_913 qp 3 = F_ear := (hx_col_S hs hTo g_qp tt_44 tt_4 rfl rfl).trans cl_ear
  replace cl_hds : hx_col 40 h_913 qp 4 = F_hds := (hx_col_S hs hTo g_qp tt_44 tt_4 rfl rfl).trans cl_hds
  replace cl_ord : hx_col 100 h_913 qc 13 = F_ord := (hx_col_S hs hTo g_qc tt_45 tt_2 rfl rfl).trans cl_ord
  replace cl_wkl : hx_col 100 h_913 qc 14 = F_wkl := (hx_col_S hs hTo g_qc tt_45 tt_2 rfl rfl).trans cl_wkl
  replace cl_owd : hx_col 100 h_913 qc 15 = F_owd := (hx_col_S hs hTo g_qc tt_45 tt_2 rfl rfl).trans cl_owd
  replace cl_gds : hx_col 100 h_913 qc 17 = F_gds := (hx_col_S hs hTo g_qc tt_45 tt_2 rfl rfl).trans cl_gds
  replace cl_szd : hx_col 100 h_913 qc 16 = F_szd := (hx_col_S hs hTo g_qc tt_45 tt_2 rfl rfl).trans cl_szd
  replace cl_srv : hx_col 100 h_913 qc 18 = F_srv := (hx_col_S hs hTo g_qc tt_45 tt_2 rfl rfl).trans cl_srv
  replace nu_qp : hx_num 40 h_913 qp 0 (np.toInt) := hx_num_S hs hTo g_qp tt_44 tt_4 rfl rfl nu_qp
  replace nu_qc : hx_num 100 h_913 qc 0 (c0.toInt) := hx_num_S hs hTo g_qc tt_45 tt_2 rfl rfl nu_qc
  replace sb_list : hx_LQ 8 100 h_913 ql qc := hx_LQ_S hs g_ql g_qc rfl rfl sb_list
  replace hDF : hw_DF h_913 qc qp 2 F_aga c0.toInt := hw_DF_S hs hTo g_qc g_qp tt_45 tt_2 rfl rfl rfl hDF
  replace hRA9 : hv_RA h_913 qa qwo a0.toInt A9 := hv_RA_S hs hTo g_qa g_qwo tt_43 tt_0 rfl rfl rfl rfl rfl rfl ?o43 hRA9
  case o43 => omega
  replace hDP : hw_DF h_913 qc qp 1 F_by c0.toInt := hw_DF_S hs hTo g_qc g_qp tt_45 tt_2 rfl rfl rfl hDP
  replace hAC9 : hv_AC h_913 qc F_ml c0.toInt A9 := hv_AC_S hs hTo g_qc tt_45 tt_2 rfl tt_0 rfl rfl rfl rfl rfl rfl rfl hAC9
  replace hFX : hv_FX 8 4 h_913 qc cF9L c0.toInt := hv_FX_S hs hTo g_qc tt_45 tt_2 rfl rfl rfl rfl hFX
  replace hBX : hv_FX 3 5 h_913 qc F_be c0.toInt := hv_FX_S hs hTo g_qc tt_45 tt_2 rfl rfl rfl rfl hBX
  replace hHL : hv_HL h_913 qh qc F_ho m0.toInt c0.toInt := hv_HL_S hs g_qh g_qc rfl rfl hHL
  replace n_mw : h_913.2.1 mw = F_mw := (funext fun j => (hs.a g_mw rfl j).1).trans n_mw
  replace n_mr : h_913.2.1 mr = F_mr := (funext fun j => (hs.a g_mr rfl j).1).trans n_mr
  replace n_mp : h_913.2.1 mp = F_mp := (funext fun j => (hs.a g_mp rfl j).1).trans n_mp
  replace n_mn : h_913.2.1 mn = F_mn := (funext fun j => (hs.a g_mn rfl j).1).trans n_mn
  replace n_ml : h_913.2.1 ml = F_ml := (funext fun j => (hs.a g_ml rfl j).1).trans n_ml
  replace n_mh : h_913.2.1 mh = F_mh := (funext fun j => (hs.a g_mh rfl j).1).trans n_mh
  replace n_mt : h_913.2.1 mt = F_mt := (funext fun j => (hs.a g_mt rfl j).1).trans n_mt
  replace n_m_fou : h_913.2.1 m_fou = F_m_fou := (funext fun j => (hs.a g_m_fou rfl j).1).trans n_m_fou
  replace n_b_of : h_913.2.1 b_of = B_of := (funext fun j => (hs.a g_b_of rfl j).1).trans n_b_of
  replace n_m_of : h_913.2.1 m_of = F_of := (funext fun j => (hs.a g_m_of rfl j).1).trans n_m_of
  replace n_b_wf : h_913.2.1 b_wf = B_wf := (funext fun j => (hs.a g_b_wf rfl j).1).trans n_b_wf
  replace n_m_wf : h_913.2.1 m_wf = F_wf := (funext fun j => (hs.a g_m_wf rfl j).1).trans n_m_wf
  replace n_b_df : h_913.2.1 b_df = B_df := (funext fun j => (hs.a g_b_df rfl j).1).trans n_b_df
  replace n_m_df : h_913.2.1 m_df = F_df := (funext fun j => (hs.a g_m_df rfl j).1).trans n_m_df
  replace n_b_kf : h_913.2.1 b_kf = B_kf := (funext fun j => (hs.a g_b_kf rfl j).1).trans n_b_kf
  replace n_m_kf : h_913.2.1 m_kf = F_kf := (funext fun j => (hs.a g_m_kf rfl j).1).trans n_m_kf
  replace n_b_sf : h_913.2.1 b_sf = B_sf := (funext fun j => (hs.a g_b_sf rfl j).1).trans n_b_sf
  replace n_m_sf : h_913.2.1 m_sf = F_sf := (funext fun j => (hs.a g_m_sf rfl j).1).trans n_m_sf
  replace n_b_bf : h_913.2.1 b_bf = bfL := (funext fun j => (hs.a g_b_bf rfl j).1).trans n_b_bf
  replace n_lst : h_913.2.1 m_lst = F_lst := (funext fun j => (hs.a g_m_lst rfl j).1).trans n_lst
  replace n_tp : h_913.2.1 m_tp = F_tp := (funext fun j => (hs.a g_m_tp rfl j).1).trans n_tp
  replace n_qtp : h_913.2.1 qtp = F_tp := (funext fun j => (hs.a g_qtp rfl j).1).trans n_qtp
  replace n_dead : h_913.2.1 m_dead = F_dead := (funext fun j => (hs.a g_m_dead rfl j).1).trans n_dead
  replace n_isj : h_913.2.1 m_isj = F_isj := (funext fun j => (hs.a g_m_isj rfl j).1).trans n_isj
  replace n_dox : h_913.2.1 m_dox = F_dox := (funext fun j => (hs.a g_m_dox rfl j).1).trans n_dox
  replace n_doy : h_913.2.1 m_doy = F_doy := (funext fun j => (hs.a g_m_doy rfl j).1).trans n_doy
  replace n_qlt : h_913.2.1 qlt = F_qlt := (funext fun j => (hs.a g_qlt rfl j).1).trans n_qlt
  replace n_m_wkd : h_913.2.1 m_wkd = F_m_wkd := (funext fun j => (hs.a g_m_wkd rfl j).1).trans n_m_wkd
  replace n_aga : h_913.2.1 m_aga = F_aga := (funext fun j => (hs.a g_m_aga rfl j).1).trans n_aga
  replace n_ad : h_913.2.1 m_ad = F_ad := (funext fun j => (hs.a g_m_ad rfl j).1).trans n_ad
  replace n_by : h_913.2.1 m_by = F_by := (funext fun j => (hs.a g_m_by rfl j).1).trans n_by
  replace n_ho : h_913.2.1 m_ho = F_ho := (funext fun j => (hs.a g_m_ho rfl j).1).trans n_ho
  replace n_fc : h_913.2.1 m_fc = F_fc := (funext fun j => (hs.a g_m_fc rfl j).1).trans n_fc
  replace n_nt : h_913.2.1 m_nt = F_nt := (funext fun j => (hs.a g_m_nt rfl j).1).trans n_nt
  replace n_wt : h_913.2.1 m_wt = F_wt := (funext fun j => (hs.a g_m_wt rfl j).1).trans n_wt
  replace n_be : h_913.2.1 m_be = F_be := (funext fun j => (hs.a g_m_be rfl j).1).trans n_be
  replace n_bor : h_913.2.1 m_bor = F_bor := (funext fun j => (hs.a g_m_bor rfl j).1).trans n_bor
  replace n_kin : h_913.2.1 m_kin = F_kin := (funext fun j => (hs.a g_m_kin rfl j).1).trans n_kin
  replace n_sum : h_913.2.1 m_sum = F_sum := (funext fun j => (hs.a g_m_sum rfl j).1).trans n_sum
  replace n_fro : h_913.2.1 m_fro = F_fro := (funext fun j => (hs.a g_m_fro rfl j).1).trans n_fro
  replace n_fil : h_913.2.1 m_fil = F_fil := (funext fun j => (hs.a g_m_fil rfl j).1).trans n_fil
  replace n_jud : h_913.2.1 m_jud = F_jud := (funext fun j => (hs.a g_m_jud rfl j).1).trans n_jud
  replace n_ear : h_913.2.1 m_ear = F_ear := (funext fun j => (hs.a g_m_ear rfl j).1).trans n_ear
  replace n_hds : h_913.2.1 m_hds = F_hds := (funext fun j => (hs.a g_m_hds rfl j).1).trans n_hds
  replace n_ord : h_913.2.1 m_ord = F_ord := (funext fun j => (hs.a g_m_ord rfl j).1).trans n_ord
  replace n_wkl : h_913.2.1 m_wkl = F_wkl := (funext fun j => (hs.a g_m_wkl rfl j).1).trans n_wkl
  replace n_owd : h_913.2.1 m_owd = F_owd := (funext fun j => (hs.a g_m_owd rfl j).1).trans n_owd
  replace n_gds : h_913.2.1 m_gds = F_gds := (funext fun j => (hs.a g_m_gds rfl j).1).trans n_gds
  replace n_szd : h_913.2.1 m_szd = F_szd := (funext fun j => (hs.a g_m_szd rfl j).1).trans n_szd
  replace n_srv : h_913.2.1 m_srv = F_srv := (funext fun j => (hs.a g_m_srv rfl j).1).trans n_srv
  replace n_p0 : h_913.2.1 m_p0 = F_p0 := (funext fun j => (hs.a g_m_p0 rfl j).1).trans n_p0
  replace n_y_p0 : h_913.2.1 y_p0 = F_p0 := (funext fun j => (hs.a g_y_p0 rfl j).1).trans n_y_p0
  replace n_p1 : h_913.2.1 m_p1 = F_p1 := (funext fun j => (hs.a g_m_p1 rfl j).1).trans n_p1
  replace n_y_p1 : h_913.2.1 y_p1 = F_p1 := (funext fun j => (hs.a g_y_p1 rfl j).1).trans n_y_p1
  replace n_p2 : h_913.2.1 m_p2 = F_p2 := (funext fun j => (hs.a g_m_p2 rfl j).1).trans n_p2
  replace n_y_p2 : h_913.2.1 y_p2 = F_p2 := (funext fun j => (hs.a g_y_p2 rfl j).1).trans n_y_p2
  replace n_p3 : h_913.2.1 m_p3 = F_p3 := (funext fun j => (hs.a g_m_p3 rfl j).1).trans n_p3
  replace n_y_p3 : h_913.2.1 y_p3 = F_p3 := (funext fun j => (hs.a g_y_p3 rfl j).1).trans n_y_p3
  replace n_p4 : h_913.2.1 m_p4 = F_p4 := (funext fun j => (hs.a g_m_p4 rfl j).1).trans n_p4
  replace n_y_p4 : h_913.2.1 y_p4 = F_p4 := (funext fun j => (hs.a g_y_p4 rfl j).1).trans n_y_p4
  replace n_y_ls : h_913.2.1 y_ls = F_y_ls := (funext fun j => (hs.a g_y_ls rfl j).1).trans n_y_ls
  replace n_m_rl : h_913.2.1 m_rl = F_m_rl := (funext fun j => (hs.a g_m_rl rfl j).1).trans n_m_rl
  replace gx := gx.S hs
  replace gm := gm.S hs
  replace g_qa := g_qa.S hs
  replace g_qp := g_qp.S hs
  replace g_qc := g_qc.S hs
  replace g_qh := g_qh.S hs
  replace g_qw := g_qw.S hs
  replace g_ql := g_ql.S hs
  replace g_mw := g_mw.S hs
  replace g_mr := g_mr.S hs
  replace g_mp := g_mp.S hs
  replace g_mn := g_mn.S hs
  replace g_ml := g_ml.S hs
  replace g_mh := g_mh.S hs
  replace g_mt := g_mt.S hs
  replace g_m_fou := g_m_fou.S hs
  replace g_qo_ln := g_qo_ln.S hs
  replace g_qo_py := g_qo_py.S hs
  replace g_b_of := g_b_of.S hs
  replace g_m_of := g_m_of.S hs
  replace g_b_wf := g_b_wf.S hs
  replace g_m_wf := g_m_wf.S hs
  replace g_b_df := g_b_df.S hs
  replace g_m_df := g_m_df.S hs
  replace g_b_kf := g_b_kf.S hs
  replace g_m_kf := g_m_kf.S hs
  replace g_b_sf := g_b_sf.S hs
  replace g_m_sf := g_m_sf.S hs
  replace g_b_bf := g_b_bf.S hs
  replace g_m_lst := g_m_lst.S hs
  replace g_qtp := g_qtp.S hs
  replace g_m_tp := g_m_tp.S hs
  replace g_m_dead := g_m_dead.S hs
  replace g_m_isj := g_m_isj.S hs
  replace g_m_dox := g_m_dox.S hs
  replace g_m_doy := g_m_doy.S hs
  replace g_qlt := g_qlt.S hs
  replace g_qlf := g_qlf.S hs
  replace g_m_wkd := g_m_wkd.S hs
  replace g_m_aga := g_m_aga.S hs
  replace g_qwo := g_qwo.S hs
  replace g_m_ad := g_m_ad.S hs
  replace g_m_by := g_m_by.S hs
  replace g_m_ho := g_m_ho.S hs
  replace g_m_fc := g_m_fc.S hs
  replace g_m_nt := g_m_nt.S hs
  replace g_m_wt := g_m_wt.S hs
  replace g_m_be := g_m_be.S hs
  replace g_m_bor := g_m_bor.S hs
  replace g_m_kin := g_m_kin.S hs
  replace g_m_sum := g_m_sum.S hs
  replace g_m_fro := g_m_fro.S hs
  replace g_m_fil := g_m_fil.S hs
  replace g_m_jud := g_m_jud.S hs
  replace g_m_ear := g_m_ear.S hs
  replace g_m_hds := g_m_hds.S hs
  replace g_m_ord := g_m_ord.S hs
  replace g_m_wkl := g_m_wkl.S hs
  replace g_m_owd := g_m_owd.S hs
  replace g_m_gds := g_m_gds.S hs
  replace g_m_szd := g_m_szd.S hs
  replace g_m_srv := g_m_srv.S hs
  replace g_y_p0 := g_y_p0.S hs
  replace g_m_p0 := g_m_p0.S hs
  replace g_y_p1 := g_y_p1.S hs
  replace g_m_p1 := g_m_p1.S hs
  replace g_y_p2 := g_y_p2.S hs
  replace g_m_p2 := g_m_p2.S hs
  replace g_y_p3 := g_y_p3.S hs
  replace g_m_p3 := g_m_p3.S hs
  replace g_y_p4 := g_y_p4.S hs
  replace g_m_p4 := g_m_p4.S hs
  replace g_qrg9 := g_qrg9.S hs
  replace g_y_ls := g_y_ls.S hs
  replace g_m_rl := g_m_rl.S hs
  replace gq_910 := gq_910.S hs
  refine lv_pop hx hb dL_law_1352 rfl ?_
  refine lv_goto (tgt := 1379) hx hb dL_law_1353 ?o44 ?_
  case o44 => decide
  have heq := hv_OT_eq hr_905 hr_916 (fun j hj => hv_oJ_e hFR9 hHO9 (hAB _).2 j hj) (fun j hj => congrArg Int32.toInt (eq_tri _ (by have h9 := hHO9 j hj; unfold Int32.toNatClampNeg; omega)))
  refine W.widen (k := CC + 3) (n := SS + 179) ?o45 ?o46 ?_
  case o45 => omega
  case o46 => omega
  refine kk L_912 h_913 H locs ls hW ⟨hT, gx, gm, ⟨f_x_now.trans f_m_now.symm, f_x_personCount.trans f_m_persons.symm, f_x_claimCount.trans f_m_claims.symm, f_x_tapeLength.trans f_m_taped.symm, f_x_actCount.trans f_m_acts.symm, f_x_heardCount.trans f_m_heardMany.symm, hx_ob f_qo_ln (f_o_ln.trans f_m_lines.symm), hx_ob f_qw (f_o_lsd.trans f_m_listed.symm), hx_ob f_qw (f_o_wkm.trans f_m_walkedMany.symm), hx_ob f_qo_py (f_o_py.trans f_m_payments.symm), hx_ob f_qp ?o47, hx_ob f_qc ?o48, (fun b a r hb ha hr => ?o49), (fun b a r hb ha hr => ?o50), (fun b a r hb ha hr => ?o51), (fun b a r hb ha hr => ?o52), (fun b a r hb ha hr => ?o53), (fun b a r hb ha hr => ?o54), (fun w q c hw hq hc => ?o55), (fun w q r hw hq hr => ?o56), (fun w q r hw hq hr => ?o57), (fun c q a hc hq ha => ?o58), (fun q r hq hr => ?o59), (fun q w a b c d e p hq hw ha hb hc hd he hp => ?o60), (fun c q a hc hq ha => ?o61), (fun q c a hq hc ha => ?o62), (fun a b ha hb => ?o63), (fun c a b d e f hc ha hb hd he hf => ?o64), (fun c a hc ha => ?o65), hx_ob2 f_qp f_m_bor (cl_bor.trans n_bor.symm), hx_ob2 f_qp f_m_kin (cl_kin.trans n_kin.symm), hx_ob2 f_qc f_m_sum (cl_sum.trans n_sum.symm), hx_ob2 f_qc f_m_fro (cl_fro.trans n_fro.symm), hx_ob2 f_qc f_m_fil (cl_fil.trans n_fil.symm), hx_ob2 f_qc f_mh (cl_hea.trans n_mh.symm), hx_ob2 f_qc f_m_jud (cl_jud.trans n_jud.symm), hx_ob2 f_qp f_m_ear (cl_ear.trans n_ear.symm), hx_ob2 f_qp f_m_hds (cl_hds.trans n_hds.symm), hx_ob2 f_qc f_m_ord (cl_ord.trans n_ord.symm), hx_ob2 f_qc f_m_wkl (cl_wkl.trans n_wkl.symm), hx_ob2 f_qc f_m_owd (cl_owd.trans n_owd.symm), hx_ob2 f_qc f_m_gds (cl_gds.trans n_gds.symm), hx_ob2 f_qc f_m_szd (cl_szd.trans n_szd.symm), hx_ob2 f_qc f_m_srv (cl_srv.trans n_srv.symm), (fun p q r hp hq hr => ?o66), (fun p q r hp hq hr => ?o67), (fun p q r hp hq hr => ?o68), (fun p q r hp hq hr => ?o69), (fun p q r hp hq hr => ?o70), (fun p hp => ?o71), (fun p q r hp hq hr => ?o72), hx_ob2 f_qp f_m_dead ?o73, hx_ob2 f_qp f_m_isj ?o74, hx_ob2 f_qp f_m_dox ?o75, hx_ob2 f_qp f_m_doy ?o76, hx_ob2 f_qc f_m_fou ?o77, hx_ob2 f_qc f_mt ?o78, trivial⟩, ⟨hx_ob f_qa pf_qa, hx_ob f_qp pf_qp, hx_ob f_qc pf_qc, hx_ob f_qh pf_qh, (fun w q hw hq => ?o79)⟩, ⟨hx_ob f_mw ?o80, hx_ob f_mr ?o81, hx_ob2 f_mp f_mn ?o82, hx_ob f_ml ?o83, hx_ob f_mh ?o84, hx_ob f_mt ?o85, hx_ob2 f_mh f_m_fou ?o87⟩⟩ hl
  case o47 =>
    rw [f_x_personCount]
    exact nu_qp
  case o48 =>
    rw [f_x_claimCount]
    exact nu_qc
  case o49 =>
    obtain rfl : qo_ln = b := Option.some.inj (f_qo_ln.symm.trans hb)
    obtain rfl : b_of = a := Option.some.inj (f_b_of.symm.trans ha)
    obtain rfl : m_of = r := Option.some.inj (f_m_of.symm.trans hr)
    rw [n_b_of, n_m_of, f_o_ln]
    exact eb_of
  case o50 =>
    obtain rfl : qo_ln = b := Option.some.inj (f_qo_ln.symm.trans hb)
    obtain rfl : b_wf = a := Option.some.inj (f_b_wf.symm.trans ha)
    obtain rfl : m_wf = r := Option.some.inj (f_m_wf.symm.trans hr)
    rw [n_b_wf, n_m_wf, f_o_ln]
    exact eb_wf
  case o51 =>
    obtain rfl : qo_ln = b := Option.some.inj (f_qo_ln.symm.trans hb)
    obtain rfl : b_df = a := Option.some.inj (f_b_df.symm.trans ha)
    obtain rfl : m_df = r := Option.some.inj (f_m_df.symm.trans hr)
    rw [n_b_df, n_m_df, f_o_ln]
    exact eb_df
  case o52 =>
    obtain rfl : qo_ln = b := Option.some.inj (f_qo_ln.symm.trans hb)
    obtain rfl : b_kf = a := Option.some.inj (f_b_kf.symm.trans ha)
    obtain rfl : m_kf = r := Option.some.inj (f_m_kf.symm.trans hr)
    rw [n_b_kf, n_m_kf, f_o_ln]
    exact eb_kf
  case o53 =>
    obtain rfl : qo_ln = b := Option.some.inj (f_qo_ln.symm.trans hb)
    obtain rfl : b_sf = a := Option.some.inj (f_b_sf.symm.trans ha)
    obtain rfl : m_sf = r := Option.some.inj (f_m_sf.symm.trans hr)
    rw [n_b_sf, n_m_sf, f_o_ln]
    exact eb_sf
  case o54 =>
    obtain rfl : qo_ln = b := Option.some.inj (f_qo_ln.symm.trans hb)
    obtain rfl : b_df = a := Option.some.inj (f_b_df.symm.trans ha)
    obtain rfl : b_bf = r := Option.some.inj (f_b_bf.symm.trans hr)
    rw [n_b_df, n_b_bf, f_o_ln]
    exact ⟨hBD, hDY⟩
  case o55 =>
    obtain rfl : qw = w := Option.some.inj (f_qw.symm.trans hw)
    obtain rfl : ql = q := Option.some.inj (f_ql.symm.trans hq)
    obtain rfl : qc = c := Option.some.inj (f_qc.symm.trans hc)
    exact sb_list
  case o56 =>
    obtain rfl : qw = w := Option.some.inj (f_qw.symm.trans hw)
    obtain rfl : ql = q := Option.some.inj (f_ql.symm.trans hq)
    obtain rfl : m_lst = r := Option.some.inj (f_m_lst.symm.trans hr)
    rw [cl_lst, n_lst]
    exact eq_lst
  case o57 =>
    obtain rfl : qw = w := Option.some.inj (f_qw.symm.trans hw)
    obtain rfl : qlt = q := Option.some.inj (f_qlt.symm.trans hq)
    obtain rfl : m_wkd = r := Option.some.inj (f_m_wkd.symm.trans hr)
    rw [n_qlt, n_m_wkd, f_o_wkm]
    exact eb_wkd
  case o58 =>
    obtain rfl : qc = c := Option.some.inj (f_qc.symm.trans hc)
    obtain rfl : qp = q := Option.some.inj (f_qp.symm.trans hq)
    obtain rfl : m_aga = a := Option.some.inj (f_m_aga.symm.trans ha)
    rw [n_aga, f_x_claimCount]
    exact hw_DF_e hDF rfl rfl
  case o59 =>
    obtain rfl : qtp = q := Option.some.inj (f_qtp.symm.trans hq)
    obtain rfl : m_tp = r := Option.some.inj (f_m_tp.symm.trans hr)
    exact n_qtp.trans n_tp.symm
  case o60 =>
    obtain rfl : qa = q := Option.some.inj (f_qa.symm.trans hq)
    obtain rfl : qwo = w := Option.some.inj (f_qwo.symm.trans hw)
    obtain rfl : m_ad = a := Option.some.inj (f_m_ad.symm.trans ha)
    obtain rfl : mr = b := Option.some.inj (f_mr.symm.trans hb)
    obtain rfl : mn = c := Option.some.inj (f_mn.symm.trans hc)
    obtain rfl : mp = d := Option.some.inj (f_mp.symm.trans hd)
    obtain rfl : qc = e := Option.some.inj (f_qc.symm.trans he)
    obtain rfl : ml = p := Option.some.inj (f_ml.symm.trans hp)
    exact ⟨_, by rw [f_x_actCount]; exact hRA9, by rw [f_x_actCount, n_ad, n_mr, n_mn, n_mp]; exact hCA9, by rw [n_ml, f_x_claimCount]; exact hv_AC_e hAC9 rfl rfl rfl, hAB⟩
  case o61 =>
    obtain rfl : qc = c := Option.some.inj (f_qc.symm.trans hc)
    obtain rfl : qp = q := Option.some.inj (f_qp.symm.trans hq)
    obtain rfl : m_by = a := Option.some.inj (f_m_by.symm.trans ha)
    rw [n_by, f_x_claimCount]
    exact hw_DF_e hDP rfl rfl
  case o62 =>
    obtain rfl : qh = q := Option.some.inj (f_qh.symm.trans hq)
    obtain rfl : qc = c := Option.some.inj (f_qc.symm.trans hc)
    obtain rfl : m_ho = a := Option.some.inj (f_m_ho.symm.trans ha)
    rw [n_ho, f_x_heardCount, f_x_claimCount]
    exact hv_HL_e hHL rfl rfl rfl
  case o63 =>
    obtain rfl : m_ho = a := Option.some.inj (f_m_ho.symm.trans ha)
    obtain rfl : mh = b := Option.some.inj (f_mh.symm.trans hb)
    rw [n_ho, n_mh, f_m_heardMany, f_m_claims]
    exact hHO9
  case o64 =>
    obtain rfl : qc = c := Option.some.inj (f_qc.symm.trans hc)
    obtain rfl : m_fc = a := Option.some.inj (f_m_fc.symm.trans ha)
    obtain rfl : m_nt = b := Option.some.inj (f_m_nt.symm.trans hb)
    obtain rfl : m_wt = d := Option.some.inj (f_m_wt.symm.trans hd)
    obtain rfl : m_sum = e := Option.some.inj (f_m_sum.symm.trans he)
    obtain rfl : mh = f := Option.some.inj (f_mh.symm.trans hf)
    exact ⟨cF9L, by rw [f_x_claimCount]; exact hFX, by rw [n_fc, n_nt, n_wt, n_sum, n_mh, f_x_claimCount]; exact hFR9⟩
  case o65 =>
    obtain rfl : qc = c := Option.some.inj (f_qc.symm.trans hc)
    obtain rfl : m_be = a := Option.some.inj (f_m_be.symm.trans ha)
    rw [n_be, f_x_claimCount]
    exact hv_FX_e hBX rfl rfl
  case o66 =>
    obtain rfl : qo_py = p := Option.some.inj (f_qo_py.symm.trans hp)
    obtain rfl : y_p0 = q := Option.some.inj (f_y_p0.symm.trans hq)
    obtain rfl : m_p0 = r := Option.some.inj (f_m_p0.symm.trans hr)
    exact n_y_p0.trans n_p0.symm
  case o67 =>
    obtain rfl : qo_py = p := Option.some.inj (f_qo_py.symm.trans hp)
    obtain rfl : y_p1 = q := Option.some.inj (f_y_p1.symm.trans hq)
    obtain rfl : m_p1 = r := Option.some.inj (f_m_p1.symm.trans hr)
    exact n_y_p1.trans n_p1.symm
  case o68 =>
    obtain rfl : qo_py = p := Option.some.inj (f_qo_py.symm.trans hp)
    obtain rfl : y_p2 = q := Option.some.inj (f_y_p2.symm.trans hq)
    obtain rfl : m_p2 = r := Option.some.inj (f_m_p2.symm.trans hr)
    exact n_y_p2.trans n_p2.symm
  case o69 =>
    obtain rfl : qo_py = p := Option.some.inj (f_qo_py.symm.trans hp)
    obtain rfl : y_p3 = q := Option.some.inj (f_y_p3.symm.trans hq)
    obtain rfl : m_p3 = r := Option.some.inj (f_m_p3.symm.trans hr)
    exact n_y_p3.trans n_p3.symm
  case o70 =>
    obtain rfl : qo_py = p := Option.some.inj (f_qo_py.symm.trans hp)
    obtain rfl : y_p4 = q := Option.some.inj (f_y_p4.symm.trans hq)
    obtain rfl : m_p4 = r := Option.some.inj (f_m_p4.symm.trans hr)
    exact n_y_p4.trans n_p4.symm
  case o71 =>
    obtain rfl : qrg9 = p := Option.some.inj (f_qrg9.symm.trans hp)
    rw [ffv_893, ffv_894, ffv_895]
    exact hNQ9
  case o72 =>
    obtain rfl : qrg9 = p := Option.some.inj (f_qrg9.symm.trans hp)
    obtain rfl : y_ls = q := Option.some.inj (f_y_ls.symm.trans hq)
    obtain rfl : m_rl = r := Option.some.inj (f_m_rl.symm.trans hr)
    rw [n_y_ls, n_m_rl, ffv_893]
    exact hRL9
  case o73 =>
    rw [cl_dead, n_dead]
    exact eq_dead
  case o74 =>
    rw [cl_isj, n_isj]
    exact eq_isj
  case o75 =>
    rw [cl_dox, n_dox]
    exact eq_dox
  case o76 =>
    rw [cl_doy, n_doy]
    exact eq_doy
  case o77 =>
    rw [cl_fou, n_m_fou]
    exact eq_fou
  case o78 =>
    rw [cl_tri, n_mt]
    exact eq_tri
  case o79 =>
    obtain rfl : qw = w := Option.some.inj (f_qw.symm.trans hw)
    obtain rfl : ql = q := Option.some.inj (f_ql.symm.trans hq)
    exact pf_ql
  case o80 =>
    rw [n_mw]
    exact hwd
  case o81 =>
    rw [n_mr, f_m_acts]
    exact hWK
  case o82 =>
    rw [n_mp, n_mn, f_m_acts]
    exact hRP
  case o83 =>
    rw [n_ml, f_m_claims, f_m_acts]
    exact hPL
  case o84 =>
    rw [n_mh, f_m_heardMany, f_m_claims]
    exact hHC
  case o85 =>
    rw [n_mt]
    refine (hx_TR_le hTR ?o86)
    case o86 => omega
  case o87 =>
    rw [n_mh, n_m_fou, f_m_claims]
    exact hHF

set_option maxHeartbeats 4000000 in
set_option maxRecDepth 100000 in
theorem law_case_30 {p : Program} {e : Env} {s : State} {m : MethodId} {below : List Frame} {meth : Method} {c : Code} (l : Launch) {b LN : Nat} {xs : Nat → Int32} (hx : p.tables.exec = Jvm.exec) (hb : c.code = code) (hr : meth.sig.returnType = ret) (hlocks : meth.locks = false) (hml : c.maxLocals = 4) (hown : s.vm.findClass "SmallCourtLaw" = some m.cls) (hts : ∀ w ∈ hx_all, w.before #[Value.ref b] s = true) (hX : va_X b LN xs s s.heap) (hbl : b < s.heap.size) (hbA : ¬ s.heap.size ≤ b) (hLN : LN ≤ 3584) (dC : Nat → ClassId) (dI : Nat → Nat → Nat) (dA : Nat → ClassId) (b0 : hx_z) (ax am : Nat) (T1 : Int) (hT0 : 0 ≤ T1) (hT1 : T1 ≤ 511) (i : Int32) (hi0 : 0 ≤ i.toInt) (hiL : i.toInt + 7 ≤ LN) (CC SS : Nat) (hCC : CC + 3 ≤ 600000) (hSS : SS + 179 ≤ 7302250) (L1 : List Nat) (hl1 : hx_h) (H : Heap) (locs : List Loc) (ls : Array Slot) (hW : hx_W T_tb (P_ty dA) (dC, dI) vwCl (fun q : Nat => s.heap.size ≤ q) s.heap L1 hl1 s H locs) (hZ : hx_Xt (fun q : Nat => s.heap.size ≤ q) b0 s) (hI : hx_IV T1 ax am L1 hl1) (hl : lv_has ls 4 [(3, .int i), (2, .ref am), (1, .ref ax), (0, .ref b)]) (kk : ∀ (L2 : List Nat) (h2 : hx_h) (H2 : Heap) (locs2 : List Loc) (ls2 : Array Slot), hx_W T_tb (P_ty dA) (dC, dI) vwCl (fun q : Nat => s.heap.size ≤ q) s.heap L2 h2 s H2 locs2 → hx_IV (T1 + 1) ax am L2 h2 → lv_has ls2 4 [(3, .int i), (2, .ref am), (1, .ref ax), (0, .ref b)] → W p l e room_1 s m #[Value.ref b] below meth c H2 locs2 (CC + 3) (SS + 179) (lw_Z below #[Value.ref b] s) (F0 m 1379 ls2 [])) : W p l e room_1 s m #[Value.ref b] below meth c H locs CC SS (lw_Z below #[Value.ref b] s) (F0 m 1356 ls []) := by
  have hI9 := hI
  have hT := hI9.1
  replace hI9 := hI9.2
  have gx := hI9.1
  replace hI9 := hI9.2
  have gm := hI9.1
  replace hI9 := hI9.2
  have zq0_3 := hI9.1
  have he_nw := zq0_3.1
  replace zq0_3 := zq0_3.2
  have he_np := zq0_3.1
  replace zq0_3 := zq0_3.2
  have he_c0 := zq0_3.1
  replace zq0_3 := zq0_3.2
  have he_tl := zq0_3.1
  replace zq0_3 := zq0_3.2
  have he_a0 := zq0_3.1
  replace zq0_3 := zq0_3.2
  have he_m0 := zq0_3.1
  replace zq0_3 := zq0_3.2
  have ho_ln := zq0_3.1
  replace zq0_3 := zq0_3.2
  have ho_lsd := zq0_3.1
  replace zq0_3 := zq0_3.2
  have ho_wkm := zq0_3.1
  replace zq0_3 := zq0_3.2
  have ho_py := zq0_3.1
  replace zq0_3 := zq0_3.2
  have hn_qp := zq0_3.1
  replace zq0_3 := zq0_3.2
  have hn_qc := zq0_3.1
  replace zq0_3 := zq0_3.2
  have hk_of := zq0_3.1
  replace zq0_3 := zq0_3.2
  have hk_wf := zq0_3.1
  replace zq0_3 := zq0_3.2
  have hk_df := zq0_3.1
  replace zq0_3 := zq0_3.2
  have hk_kf := zq0_3.1
  replace zq0_3 := zq0_3.2
  have hk_sf := zq0_3.1
  replace zq0_3 := zq0_3.2
  have hkBD := zq0_3.1
  replace zq0_3 := zq0_3.2
  have hLQ := zq0_3.1
  replace zq0_3 := zq0_3.2
  have hLE := zq0_3.1
  replace zq0_3 := zq0_3.2
  have hkWD := zq0_3.1
  replace zq0_3 := zq0_3.2
  have hkDF := zq0_3.1
  replace zq0_3 := zq0_3.2
  have hkTP := zq0_3.1
  replace zq0_3 := zq0_3.2
  have hkAC := zq0_3.1
  replace zq0_3 := zq0_3.2
  have hkDP := zq0_3.1
  replace zq0_3 := zq0_3.2
  have hkHL := zq0_3.1
  replace zq0_3 := zq0_3.2
  have hkHO := zq0_3.1
  replace zq0_3 := zq0_3.2
  have hkFX := zq0_3.1
  replace zq0_3 := zq0_3.2
  have hkBX := zq0_3.1
  replace zq0_3 := zq0_3.2
  have hf_bor := zq0_3.1
  replace zq0_3 := zq0_3.2
  have hf_kin := zq0_3.1
  replace zq0_3 := zq0_3.2
  have hf_sum := zq0_3.1
  replace zq0_3 := zq0_3.2
  have hf_fro := zq0_3.1
  replace zq0_3 := zq0_3.2
  have hf_fil := zq0_3.1
  replace zq0_3 := zq0_3.2
  have hf_hea := zq0_3.1
  replace zq0_3 := zq0_3.2
  have hf_jud := zq0_3.1
  replace zq0_3 := zq0_3.2
  have hf_ear := zq0_3.1
  replace zq0_3 := zq0_3.2
  have hf_hds := zq0_3.1
  replace zq0_3 := zq0_3.2
  have hf_ord := zq0_3.1
  replace zq0_3 := zq0_3.2
  have hf_wkl := zq0_3.1
  replace zq0_3 := zq0_3.2
  have hf_owd := zq0_3.1
  replace zq0_3 := zq0_3.2
  have hf_gds := zq0_3.1
  replace zq0_3 := zq0_3.2
  have hf_szd := zq0_3.1
  replace zq0_3 := zq0_3.2
  have hf_srv := zq0_3.1
  replace zq0_3 := zq0_3.2
  have hkP0 := zq0_3.1
  replace zq0_3 := zq0_3.2
  have hkP1 := zq0_3.1
  replace zq0_3 := zq0_3.2
  have hkP2 := zq0_3.1
  replace zq0_3 := zq0_3.2
  have hkP3 := zq0_3.1
  replace zq0_3 := zq0_3.2
  have hkP4 := zq0_3.1
  replace zq0_3 := zq0_3.2
  have hkNQ := zq0_3.1
  replace zq0_3 := zq0_3.2
  have hkRL := zq0_3.1
  replace zq0_3 := zq0_3.2
  have hc_dead := zq0_3.1
  replace zq0_3 := zq0_3.2
  have hc_isj := zq0_3.1
  replace zq0_3 := zq0_3.2
  have hc_dox := zq0_3.1
  replace zq0_3 := zq0_3.2
  have hc_doy := zq0_3.1
  replace zq0_3 := zq0_3.2
  have hc_fou := zq0_3.1
  replace zq0_3 := zq0_3.2
  have hc_tri := zq0_3.1
  replace zq0_3 := zq0_3.2
  replace hI9 := hI9.2
  have zq0_4 := hI9.1
  have ia := zq0_4.1
  replace zq0_4 := zq0_4.2
  have ip := zq0_4.1
  replace zq0_4 := zq0_4.2
  have ic := zq0_4.1
  replace zq0_4 := zq0_4.2
  have ih := zq0_4.1
  replace zq0_4 := zq0_4.2
  have il := zq0_4
  replace hI9 := hI9.2
  have zq0_5 := hI9
  have jw := zq0_5.1
  replace zq0_5 := zq0_5.2
  have jr := zq0_5.1
  replace zq0_5 := zq0_5.2
  have jp := zq0_5.1
  replace zq0_5 := zq0_5.2
  have jl := zq0_5.1
  replace zq0_5 := zq0_5.2
  have jh := zq0_5.1
  replace zq0_5 := zq0_5.2
  have jt := zq0_5.1
  replace zq0_5 := zq0_5.2
  have jf := zq0_5
  obtain ⟨qa, f_qa, g_qa⟩ := hx_rf hT gx tt_9 (k := 5) (u := 43) rfl
  have pf_qa := ia qa f_qa
  obtain ⟨qp, f_qp, g_qp⟩ := hx_rf hT gx tt_9 (k := 7) (u := 44) rfl
  have pf_qp := ip qp f_qp
  obtain ⟨qc, f_qc, g_qc⟩ := hx_rf hT gx tt_9 (k := 10) (u := 45) rfl
  have pf_qc := ic qc f_qc
  obtain ⟨qh, f_qh, g_qh⟩ := hx_rf hT gx tt_9 (k := 12) (u := 46) rfl
  have pf_qh := ih qh f_qh
  obtain ⟨qw, f_qw, g_qw⟩ := hx_rf hT gx tt_9 (k := 19) (u := 8) rfl
  obtain ⟨ql, f_ql, g_ql⟩ := hx_rf hT g_qw tt_8 (k := 3) (u := 40) rfl
  have pf_ql := il qw ql f_qw f_ql
  obtain ⟨nw, f_m_now⟩ : ∃ y : Int32, hl1.2.1 am 0 = y := ⟨_, rfl⟩
  have b_nw := hT.gi gm tt_10 (k := 0) rfl
  rw [f_m_now] at b_nw
  have b_nw : 0 ≤ nw.toInt ∧ nw.toInt ≤ 7999 := b_nw
  obtain ⟨np, f_m_persons⟩ : ∃ y : Int32, hl1.2.1 am 20 = y := ⟨_, rfl⟩
  have b_np := hT.gi gm tt_10 (k := 20) rfl
  rw [f_m_persons] at b_np
  have b_np : 0 ≤ np.toInt ∧ np.toInt ≤ 40 := b_np
  obtain ⟨c0, f_m_claims⟩ : ∃ y : Int32, hl1.2.1 am 36 = y := ⟨_, rfl⟩
  have b_c0 := hT.gi gm tt_10 (k := 36) rfl
  rw [f_m_claims] at b_c0
  have b_c0 : 0 ≤ c0.toInt ∧ c0.toInt ≤ 100 := b_c0
  obtain ⟨tl, f_m_taped⟩ : ∃ y : Int32, hl1.2.1 am 7 = y := ⟨_, rfl⟩
  have b_tl := hT.gi gm tt_10 (k := 7) rfl
  rw [f_m_taped] at b_tl
  have b_tl : 0 ≤ tl.toInt ∧ tl.toInt ≤ 400 := b_tl
  obtain ⟨a0, f_m_acts⟩ : ∃ y : Int32, hl1.2.1 am 1 = y := ⟨_, rfl⟩
  have b_a0 := hT.gi gm tt_10 (k := 1) rfl
  rw [f_m_acts] at b_a0
  have b_a0 : 0 ≤ a0.toInt ∧ a0.toInt ≤ 8 := b_a0
  obtain ⟨m0, f_m_heardMany⟩ : ∃ y : Int32, hl1.2.1 am 57 = y := ⟨_, rfl⟩
  have b_m0 := hT.gi gm tt_10 (k := 57) rfl
  rw [f_m_heardMany] at b_m0
  have b_m0 : 0 ≤ m0.toInt ∧ m0.toInt ≤ 100 := b_m0
  obtain ⟨ln, f_m_lines⟩ : ∃ y : Int32, hl1.2.1 am 29 = y := ⟨_, rfl⟩
  have b_ln := hT.gi gm tt_10 (k := 29) rfl
  rw [f_m_lines] at b_ln
  have b_ln : 0 ≤ ln.toInt ∧ ln.toInt ≤ 400 := b_ln
  obtain ⟨lsd, f_m_listed⟩ : ∃ y : Int32, hl1.2.1 am 90 = y := ⟨_, rfl⟩
  have b_lsd := hT.gi gm tt_10 (k := 90) rfl
  rw [f_m_listed] at b_lsd
  have b_lsd : 0 ≤ lsd.toInt ∧ lsd.toInt ≤ 8 := b_lsd
  obtain ⟨wkm, f_m_walkedMany⟩ : ∃ y : Int32, hl1.2.1 am 92 = y := ⟨_, rfl⟩
  have b_wkm := hT.gi gm tt_10 (k := 92) rfl
  rw [f_m_walkedMany] at b_wkm
  have b_wkm : 0 ≤ wkm.toInt ∧ wkm.toInt ≤ 8 := b_wkm
  obtain ⟨py, f_m_payments⟩ : ∃ y : Int32, hl1.2.1 am 59 = y := ⟨_, rfl⟩
  have b_py := hT.gi gm tt_10 (k := 59) rfl
  rw [f_m_payments] at b_py
  have b_py : 0 ≤ py.toInt ∧ py.toInt ≤ 600 := b_py
  have f_x_now : hl1.2.1 ax 2 = nw := he_nw.trans f_m_now
  have f_x_personCount : hl1.2.1 ax 8 = np := he_np.trans f_m_persons
  have f_x_claimCount : hl1.2.1 ax 11 = c0 := he_c0.trans f_m_claims
  have f_x_tapeLength : hl1.2.1 ax 1 = tl := he_tl.trans f_m_taped
  have f_x_actCount : hl1.2.1 ax 6 = a0 := he_a0.trans f_m_acts
  have f_x_heardCount : hl1.2.1 ax 13 = m0 := he_m0.trans f_m_heardMany
  obtain ⟨mw, f_mw, g_mw⟩ := hx_rf hT gm tt_10 (k := 19) (u := 57) rfl
  obtain ⟨F_mw, n_mw⟩ : ∃ g : Nat → Int32, hl1.2.1 mw = g := ⟨_, rfl⟩
  obtain ⟨mr, f_mr, g_mr⟩ := hx_rf hT gm tt_10 (k := 3) (u := 50) rfl
  obtain ⟨F_mr, n_mr⟩ : ∃ g : Nat → Int32, hl1.2.1 mr = g := ⟨_, rfl⟩
  obtain ⟨mp, f_mp, g_mp⟩ := hx_rf hT gm tt_10 (k := 5) (u := 52) rfl
  obtain ⟨F_mp, n_mp⟩ : ∃ g : Nat → Int32, hl1.2.1 mp = g := ⟨_, rfl⟩
  obtain ⟨mn, f_mn, g_mn⟩ := hx_rf hT gm tt_10 (k := 4) (u := 51) rfl
  obtain ⟨F_mn, n_mn⟩ : ∃ g : Nat → Int32, hl1.2.1 mn = g := ⟨_, rfl⟩
  obtain ⟨ml, f_ml, g_ml⟩ := hx_rf hT gm tt_10 (k := 44) (u := 79) rfl
  obtain ⟨F_ml, n_ml⟩ : ∃ g : Nat → Int32, hl1.2.1 ml = g := ⟨_, rfl⟩
  obtain ⟨mh, f_mh, g_mh⟩ := hx_rf hT gm tt_10 (k := 47) (u := 82) rfl
  obtain ⟨F_mh, n_mh⟩ : ∃ g : Nat → Int32, hl1.2.1 mh = g := ⟨_, rfl⟩
  obtain ⟨mt, f_mt, g_mt⟩ := hx_rf hT gm tt_10 (k := 45) (u := 80) rfl
  obtain ⟨F_mt, n_mt⟩ : ∃ g : Nat → Int32, hl1.2.1 mt = g := ⟨_, rfl⟩
  obtain ⟨m_fou, f_m_fou, g_m_fou⟩ := hx_rf hT gm tt_10 (k := 46) (u := 81) rfl
  obtain ⟨F_m_fou, n_m_fou⟩ : ∃ g : Nat → Int32, hl1.2.1 m_fou = g := ⟨_, rfl⟩
  obtain ⟨qo_ln, f_qo_ln, g_qo_ln⟩ := hx_rf hT gx tt_9 (k := 9) (u := 1) rfl
  have f_o_ln : hl1.2.1 qo_ln 0 = ln := (ho_ln qo_ln f_qo_ln).trans f_m_lines
  have f_o_lsd : hl1.2.1 qw 0 = lsd := (ho_lsd qw f_qw).trans f_m_listed
  have f_o_wkm : hl1.2.1 qw 1 = wkm := (ho_wkm qw f_qw).trans f_m_walkedMany
  obtain ⟨qo_py, f_qo_py, g_qo_py⟩ := hx_rf hT gx tt_9 (k := 14) (u := 3) rfl
  have f_o_py : hl1.2.1 qo_py 0 = py := (ho_py qo_py f_qo_py).trans f_m_payments
  have nu_qp := hn_qp qp f_qp; rw [f_x_personCount] at nu_qp
  have nu_qc := hn_qc qc f_qc; rw [f_x_claimCount] at nu_qc
  obtain ⟨b_of, f_b_of, g_b_of⟩ := hx_rf hT g_qo_ln tt_1 (k := 1) (u := 13) rfl
  obtain ⟨B_of, n_b_of⟩ : ∃ g : Nat → Int32, hl1.2.1 b_of = g := ⟨_, rfl⟩
  obtain ⟨m_of, f_m_of, g_m_of⟩ := hx_rf hT gm tt_10 (k := 30) (u := 66) rfl
  obtain ⟨F_of, n_m_of⟩ : ∃ g : Nat → Int32, hl1.2.1 m_of = g := ⟨_, rfl⟩
  have eb_of := hk_of qo_ln b_of m_of f_qo_ln f_b_of f_m_of; rw [n_b_of, n_m_of, f_o_ln] at eb_of
  obtain ⟨b_wf, f_b_wf, g_b_wf⟩ := hx_rf hT g_qo_ln tt_1 (k := 2) (u := 14) rfl
  obtain ⟨B_wf, n_b_wf⟩ : ∃ g : Nat → Int32, hl1.2.1 b_wf = g := ⟨_, rfl⟩
  obtain ⟨m_wf, f_m_wf, g_m_wf⟩ := hx_rf hT gm tt_10 (k := 31) (u := 67) rfl
  obtain ⟨F_wf, n_m_wf⟩ : ∃ g : Nat → Int32, hl1.2.1 m_wf = g := ⟨_, rfl⟩
  have eb_wf := hk_wf qo_ln b_wf m_wf f_qo_ln f_b_wf f_m_wf; rw [n_b_wf, n_m_wf, f_o_ln] at eb_wf
  obtain ⟨b_df, f_b_df, g_b_df⟩ := hx_rf hT g_qo_ln tt_1 (k := 3) (u := 15) rfl
  obtain ⟨B_df, n_b_df⟩ : ∃ g : Nat → Int32, hl1.2.1 b_df = g := ⟨_, rfl⟩
  obtain ⟨m_df, f_m_df, g_m_df⟩ := hx_rf hT gm tt_10 (k := 32) (u := 68) rfl
  obtain ⟨F_df, n_m_df⟩ : ∃ g : Nat → Int32, hl1.2.1 m_df = g := ⟨_, rfl⟩
  have eb_df := hk_df qo_ln b_df m_df f_qo_ln f_b_df f_m_df; rw [n_b_df, n_m_df, f_o_ln] at eb_df
  obtain ⟨b_kf, f_b_kf, g_b_kf⟩ := hx_rf hT g_qo_ln tt_1 (k := 4) (u := 16) rfl
  obtain ⟨B_kf, n_b_kf⟩ : ∃ g : Nat → Int32, hl1.2.1 b_kf = g := ⟨_, rfl⟩
  obtain ⟨m_kf, f_m_kf, g_m_kf⟩ := hx_rf hT gm tt_10 (k := 33) (u := 69) rfl
  obtain ⟨F_kf, n_m_kf⟩ : ∃ g : Nat → Int32, hl1.2.1 m_kf = g := ⟨_, rfl⟩
  have eb_kf := hk_kf qo_ln b_kf m_kf f_qo_ln f_b_kf f_m_kf; rw [n_b_kf, n_m_kf, f_o_ln] at eb_kf
  obtain ⟨b_sf, f_b_sf, g_b_sf⟩ := hx_rf hT g_qo_ln tt_1 (k := 5) (u := 17) rfl
  obtain ⟨B_sf, n_b_sf⟩ : ∃ g : Nat → Int32, hl1.2.1 b_sf = g := ⟨_, rfl⟩
  obtain ⟨m_sf, f_m_sf, g_m_sf⟩ := hx_rf hT gm tt_10 (k := 34) (u := 70) rfl
  obtain ⟨F_sf, n_m_sf⟩ : ∃ g : Nat → Int32, hl1.2.1 m_sf = g := ⟨_, rfl⟩
  have eb_sf := hk_sf qo_ln b_sf m_sf f_qo_ln f_b_sf f_m_sf; rw [n_b_sf, n_m_sf, f_o_ln] at eb_sf
  obtain ⟨b_bf, f_b_bf, g_b_bf⟩ := hx_rf hT g_qo_ln tt_1 (k := 6) (u := 18) rfl
  obtain ⟨bfL, n_b_bf⟩ : ∃ g : Nat → Int32, hl1.2.1 b_bf = g := ⟨_, rfl⟩
  obtain ⟨hBD, hDY⟩ := hkBD qo_ln b_df b_bf f_qo_ln f_b_df f_b_bf; rw [n_b_df, n_b_bf, f_o_ln] at hBD; rw [n_b_df, f_o_ln] at hDY
  have hBDm := hy_BD_c eb_df hBD
  have hDYm : hy_DY F_df ln.toInt.toNat := fun x hx => by rw [← eb_df x hx]; exact hDY x hx
  have sb_list := hLQ qw ql qc f_qw f_ql f_qc
  obtain ⟨m_lst, f_m_lst, g_m_lst⟩ := hx_rf hT gm tt_10 (k := 91) (u := 112) rfl
  obtain ⟨F_lst, n_lst⟩ : ∃ g : Nat → Int32, hl1.2.1 m_lst = g := ⟨_, rfl⟩
  obtain ⟨c_lst, cl_lst⟩ : ∃ g : Nat → Int32, hx_col 8 hl1 ql 0 = g := ⟨_, rfl⟩
  have eq_lst := hLE qw ql m_lst f_qw f_ql f_m_lst; rw [cl_lst, n_lst] at eq_lst
  obtain ⟨qtp, f_qtp, g_qtp⟩ := hx_rf hT gx tt_9 (k := 0) (u := 42) rfl
  obtain ⟨m_tp, f_m_tp, g_m_tp⟩ := hx_rf hT gm tt_10 (k := 6) (u := 53) rfl
  obtain ⟨F_tp, n_tp⟩ : ∃ g : Nat → Int32, hl1.2.1 m_tp = g := ⟨_, rfl⟩
  have n_qtp : hl1.2.1 qtp = F_tp := (hkTP qtp m_tp f_qtp f_m_tp).trans n_tp
  obtain ⟨c_dead, cl_dead⟩ : ∃ g : Nat → Int32, hx_col 40 hl1 qp 7 = g := ⟨_, rfl⟩
  obtain ⟨m_dead, f_m_dead, g_m_dead⟩ := hx_rf hT gm tt_10 (k := 27) (u := 64) rfl
  obtain ⟨F_dead, n_dead⟩ : ∃ g : Nat → Int32, hl1.2.1 m_dead = g := ⟨_, rfl⟩
  have eq_dead := hc_dead qp m_dead f_qp f_m_dead; rw [cl_dead, n_dead] at eq_dead
  have z_dead : np.toInt.toNat < 40 → c_dead np.toInt.toNat = 0 := fun hj => hx_num_z nu_qp cl_dead hj ?o0
  case o0 => omega
  obtain ⟨c_isj, cl_isj⟩ : ∃ g : Nat → Int32, hx_col 40 hl1 qp 8 = g := ⟨_, rfl⟩
  obtain ⟨m_isj, f_m_isj, g_m_isj⟩ := hx_rf hT gm tt_10 (k := 28) (u := 65) rfl
  obtain ⟨F_isj, n_isj⟩ : ∃ g : Nat → Int32, hl1.2.1 m_isj = g := ⟨_, rfl⟩
  have eq_isj := hc_isj qp m_isj f_qp f_m_isj; rw [cl_isj, n_isj] at eq_isj
  have z_isj : np.toInt.toNat < 40 → c_isj np.toInt.toNat = 0 := fun hj => hx_num_z nu_qp cl_isj hj ?o1
  case o1 => omega
  obtain ⟨c_dox, cl_dox⟩ : ∃ g : Nat → Int32, hx_col 40 hl1 qp 5 = g := ⟨_, rfl⟩
  obtain ⟨m_dox, f_m_dox, g_m_dox⟩ := hx_rf hT gm tt_10 (k := 24) (u := 61) rfl
  obtain ⟨F_dox, n_dox⟩ : ∃ g : Nat → Int32, hl1.2.1 m_dox = g := ⟨_, rfl⟩
  have eq_dox := hc_dox qp m_dox f_qp f_m_dox; rw [cl_dox, n_dox] at eq_dox
  have z_dox : np.toInt.toNat < 40 → c_dox np.toInt.toNat = 0 := fun hj => hx_num_z nu_qp cl_dox hj ?o2
  case o2 => omega
  obtain ⟨c_doy, cl_doy⟩ : ∃ g : Nat → Int32, hx_col 40 hl1 qp 6 = g := ⟨_, rfl⟩
  obtain ⟨m_doy, f_m_doy, g_m_doy⟩ := hx_rf hT gm tt_10 (k := 25) (u := 62) rfl
  obtain ⟨F_doy, n_doy⟩ : ∃ g : Nat → Int32, hl1.2.1 m_doy = g := ⟨_, rfl⟩
  have eq_doy := hc_doy qp m_doy f_qp f_m_doy; rw [cl_doy, n_doy] at eq_doy
  have z_doy : np.toInt.toNat < 40 → c_doy np.toInt.toNat = 0 := fun hj => hx_num_z nu_qp cl_doy hj ?o3
  case o3 => omega
  obtain ⟨c_fou, cl_fou⟩ : ∃ g : Nat → Int32, hx_col 100 hl1 qc 10 = g := ⟨_, rfl⟩
  have eq_fou := hc_fou qc m_fou f_qc f_m_fou; rw [cl_fou, n_m_fou] at eq_fou
  have z_fou : c0.toInt.toNat < 100 → c_fou c0.toInt.toNat = 0 := fun hj => hx_num_z nu_qc cl_fou hj ?o4
  case o4 => omega
  obtain ⟨c_tri, cl_tri⟩ : ∃ g : Nat → Int32, hx_col 100 hl1 qc 9 = g := ⟨_, rfl⟩
  have eq_tri := hc_tri qc mt f_qc f_mt; rw [cl_tri, n_mt] at eq_tri
  have z_tri : c0.toInt.toNat < 100 → c_tri c0.toInt.toNat = 0 := fun hj => hx_num_z nu_qc cl_tri hj ?o5
  case o5 => omega
  obtain ⟨qlt, f_qlt, g_qlt⟩ := hx_rf hT g_qw tt_8 (k := 2) (u := 39) rfl
  obtain ⟨qlf, f_qlf, g_qlf⟩ := hx_rf hT g_qw tt_8 (k := 4) (u := 41) rfl
  obtain ⟨m_wkd, f_m_wkd, g_m_wkd⟩ := hx_rf hT gm tt_10 (k := 93) (u := 113) rfl
  obtain ⟨F_qlt, n_qlt⟩ : ∃ g : Nat → Int32, hl1.2.1 qlt = g := ⟨_, rfl⟩
  obtain ⟨F_m_wkd, n_m_wkd⟩ : ∃ g : Nat → Int32, hl1.2.1 m_wkd = g := ⟨_, rfl⟩
  have eb_wkd := hkWD qw qlt m_wkd f_qw f_qlt f_m_wkd; rw [n_qlt, n_m_wkd, f_o_wkm] at eb_wkd
  obtain ⟨m_aga, f_m_aga, g_m_aga⟩ := hx_rf hT gm tt_10 (k := 38) (u := 73) rfl
  obtain ⟨F_aga, n_aga⟩ : ∃ g : Nat → Int32, hl1.2.1 m_aga = g := ⟨_, rfl⟩
  have hDF := hkDF qc qp m_aga f_qc f_qp f_m_aga; rw [n_aga, f_x_claimCount] at hDF
  obtain ⟨qwo, f_qwo, g_qwo⟩ := hx_rf hT gx tt_9 (k := 4) (u := 0) rfl
  obtain ⟨m_ad, f_m_ad, g_m_ad⟩ := hx_rf hT gm tt_10 (k := 2) (u := 49) rfl
  obtain ⟨F_ad, n_ad⟩ : ∃ g : Nat → Int32, hl1.2.1 m_ad = g := ⟨_, rfl⟩
  obtain ⟨A9, hRA9, hCA9, hAC9, hAB⟩ := hkAC qa qwo m_ad mr mn mp qc ml f_qa f_qwo f_m_ad f_mr f_mn f_mp f_qc f_ml
  rw [f_x_actCount] at hRA9; rw [f_x_actCount, n_ad, n_mr, n_mn, n_mp] at hCA9
  obtain ⟨m_by, f_m_by, g_m_by⟩ := hx_rf hT gm tt_10 (k := 37) (u := 72) rfl
  obtain ⟨F_by, n_by⟩ : ∃ g : Nat → Int32, hl1.2.1 m_by = g := ⟨_, rfl⟩
  obtain ⟨m_ho, f_m_ho, g_m_ho⟩ := hx_rf hT gm tt_10 (k := 58) (u := 92) rfl
  obtain ⟨F_ho, n_ho⟩ : ∃ g : Nat → Int32, hl1.2.1 m_ho = g := ⟨_, rfl⟩
  obtain ⟨m_fc, f_m_fc, g_m_fc⟩ := hx_rf hT gm tt_10 (k := 53) (u := 88) rfl
  obtain ⟨F_fc, n_fc⟩ : ∃ g : Nat → Int32, hl1.2.1 m_fc = g := ⟨_, rfl⟩
  obtain ⟨m_nt, f_m_nt, g_m_nt⟩ := hx_rf hT gm tt_10 (k := 41) (u := 76) rfl
  obtain ⟨F_nt, n_nt⟩ : ∃ g : Nat → Int32, hl1.2.1 m_nt = g := ⟨_, rfl⟩
  obtain ⟨m_wt, f_m_wt, g_m_wt⟩ := hx_rf hT gm tt_10 (k := 42) (u := 77) rfl
  obtain ⟨F_wt, n_wt⟩ : ∃ g : Nat → Int32, hl1.2.1 m_wt = g := ⟨_, rfl⟩
  obtain ⟨m_be, f_m_be, g_m_be⟩ := hx_rf hT gm tt_10 (k := 52) (u := 87) rfl
  obtain ⟨F_be, n_be⟩ : ∃ g : Nat → Int32, hl1.2.1 m_be = g := ⟨_, rfl⟩
  obtain ⟨m_bor, f_m_bor, g_m_bor⟩ := hx_rf hT gm tt_10 (k := 21) (u := 58) rfl
  obtain ⟨F_bor, n_bor⟩ : ∃ g : Nat → Int32, hl1.2.1 m_bor = g := ⟨_, rfl⟩
  obtain ⟨m_kin, f_m_kin, g_m_kin⟩ := hx_rf hT gm tt_10 (k := 26) (u := 63) rfl
  obtain ⟨F_kin, n_kin⟩ : ∃ g : Nat → Int32, hl1.2.1 m_kin = g := ⟨_, rfl⟩
  obtain ⟨m_sum, f_m_sum, g_m_sum⟩ := hx_rf hT gm tt_10 (k := 39) (u := 74) rfl
  obtain ⟨F_sum, n_sum⟩ : ∃ g : Nat → Int32, hl1.2.1 m_sum = g := ⟨_, rfl⟩
  obtain ⟨m_fro, f_m_fro, g_m_fro⟩ := hx_rf hT gm tt_10 (k := 40) (u := 75) rfl
  obtain ⟨F_fro, n_fro⟩ : ∃ g : Nat → Int32, hl1.2.1 m_fro = g := ⟨_, rfl⟩
  obtain ⟨m_fil, f_m_fil, g_m_fil⟩ := hx_rf hT gm tt_10 (k := 43) (u := 78) rfl
  obtain ⟨F_fil, n_fil⟩ : ∃ g : Nat → Int32, hl1.2.1 m_fil = g := ⟨_, rfl⟩
  obtain ⟨m_jud, f_m_jud, g_m_jud⟩ := hx_rf hT gm tt_10 (k := 51) (u := 86) rfl
  obtain ⟨F_jud, n_jud⟩ : ∃ g : Nat → Int32, hl1.2.1 m_jud = g := ⟨_, rfl⟩
  obtain ⟨m_ear, f_m_ear, g_m_ear⟩ := hx_rf hT gm tt_10 (k := 22) (u := 59) rfl
  obtain ⟨F_ear, n_ear⟩ : ∃ g : Nat → Int32, hl1.2.1 m_ear = g := ⟨_, rfl⟩
  obtain ⟨m_hds, f_m_hds, g_m_hds⟩ := hx_rf hT gm tt_10 (k := 23) (u := 60) rfl
  obtain ⟨F_hds, n_hds⟩ : ∃ g : Nat → Int32, hl1.2.1 m_hds = g := ⟨_, rfl⟩
  obtain ⟨m_ord, f_m_ord, g_m_ord⟩ := hx_rf hT gm tt_10 (k := 48) (u := 83) rfl
  obtain ⟨F_ord, n_ord⟩ : ∃ g : Nat → Int32, hl1.2.1 m_ord = g := ⟨_, rfl⟩
  obtain ⟨m_wkl, f_m_wkl, g_m_wkl⟩ := hx_rf hT gm tt_10 (k := 54) (u := 89) rfl
  obtain ⟨F_wkl, n_wkl⟩ : ∃ g : Nat → Int32, hl1.2.1 m_wkl = g := ⟨_, rfl⟩
  obtain ⟨m_owd, f_m_owd, g_m_owd⟩ := hx_rf hT gm tt_10 (k := 55) (u := 90) rfl
  obtain ⟨F_owd, n_owd⟩ : ∃ g : Nat → Int32, hl1.2.1 m_owd = g := ⟨_, rfl⟩
  obtain ⟨m_gds, f_m_gds, g_m_gds⟩ := hx_rf hT gm tt_10 (k := 56) (u := 91) rfl
  obtain ⟨F_gds, n_gds⟩ : ∃ g : Nat → Int32, hl1.2.1 m_gds = g := ⟨_, rfl⟩
  obtain ⟨m_szd, f_m_szd, g_m_szd⟩ := hx_rf hT gm tt_10 (k := 49) (u := 84) rfl
  obtain ⟨F_szd, n_szd⟩ : ∃ g : Nat → Int32, hl1.2.1 m_szd = g := ⟨_, rfl⟩
  obtain ⟨m_srv, f_m_srv, g_m_srv⟩ := hx_rf hT gm tt_10 (k := 50) (u := 85) rfl
  obtain ⟨F_srv, n_srv⟩ : ∃ g : Nat → Int32, hl1.2.1 m_srv = g := ⟨_, rfl⟩
  have cl_bor : hx_col 40 hl1 qp 1 = F_bor := (hf_bor qp m_bor f_qp f_m_bor).trans n_bor
  have cl_kin : hx_col 40 hl1 qp 2 = F_kin := (hf_kin qp m_kin f_qp f_m_kin).trans n_kin
  have cl_sum : hx_col 100 hl1 qc 6 = F_sum := (hf_sum qc m_sum f_qc f_m_sum).trans n_sum
  have cl_fro : hx_col 100 hl1 qc 7 = F_fro := (hf_fro qc m_fro f_qc f_m_fro).trans n_fro
  have cl_fil : hx_col 100 hl1 qc 8 = F_fil := (hf_fil qc m_fil f_qc f_m_fil).trans n_fil
  have cl_hea : hx_col 100 hl1 qc 11 = F_mh := (hf_hea qc mh f_qc f_mh).trans n_mh
  have cl_jud : hx_col 100 hl1 qc 12 = F_jud := (hf_jud qc m_jud f_qc f_m_jud).trans n_jud
  have cl_ear : hx_col 40 hl1 qp 3 = F_ear := (hf_ear qp m_ear f_qp f_m_ear).trans n_ear
  have cl_hds : hx_col 40 hl1 qp 4 = F_hds := (hf_hds qp m_hds f_qp f_m_hds).trans n_hds
  have cl_ord : hx_col 100 hl1 qc 13 = F_ord := (hf_ord qc m_ord f_qc f_m_ord).trans n_ord
  have cl_wkl : hx_col 100 hl1 qc 14 = F_wkl := (hf_wkl qc m_wkl f_qc f_m_wkl).trans n_wkl
  have cl_owd : hx_col 100 hl1 qc 15 = F_owd := (hf_owd qc m_owd f_qc f_m_owd).trans n_owd
  have cl_gds : hx_col 100 hl1 qc 17 = F_gds := (hf_gds qc m_gds f_qc f_m_gds).trans n_gds
  have cl_szd : hx_col 100 hl1 qc 16 = F_szd := (hf_szd qc m_szd f_qc f_m_szd).trans n_szd
  have cl_srv : hx_col 100 hl1 qc 18 = F_srv := (hf_srv qc m_srv f_qc f_m_srv).trans n_srv
  have htb9 : ∀ c, c < 100 → 0 ≤ (c_tri c).toInt ∧ (c_tri c).toInt ≤ 512 := fun c hc => by rw [eq_tri c hc]; have w := hT.ei g_mt tt_80 (k := c) hc; rw [n_mt] at w; exact w
  have z_jud : F_jud c0.toInt.toNat = 0 := hx_num_z2 nu_qc cl_jud ?o6
  case o6 => omega
  have hDP := hkDP qc qp m_by f_qc f_qp f_m_by; rw [n_by, f_x_claimCount] at hDP
  have hHL := hkHL qh qc m_ho f_qh f_qc f_m_ho; rw [n_ho, f_x_heardCount, f_x_claimCount] at hHL
  have hHO9 := hkHO m_ho mh f_m_ho f_mh; rw [n_ho, n_mh, f_m_heardMany, f_m_claims] at hHO9
  obtain ⟨cF9L, hFX, hFR9⟩ := hkFX qc m_fc m_nt m_wt m_sum mh f_qc f_m_fc f_m_nt f_m_wt f_m_sum f_mh; rw [f_x_claimCount] at hFX; rw [n_fc, n_nt, n_wt, n_sum, n_mh, f_x_claimCount] at hFR9
  have hBX := hkBX qc m_be f_qc f_m_be; rw [n_be, f_x_claimCount] at hBX
  rw [n_ml, f_x_claimCount] at hAC9
  obtain ⟨y_p0, f_y_p0, g_y_p0⟩ := hx_rf hT g_qo_py tt_3 (k := 2) (u := 23) rfl
  obtain ⟨m_p0, f_m_p0, g_m_p0⟩ := hx_rf hT gm tt_10 (k := 60) (u := 93) rfl
  obtain ⟨F_p0, n_p0⟩ : ∃ g : Nat → Int32, hl1.2.1 m_p0 = g := ⟨_, rfl⟩
  have n_y_p0 : hl1.2.1 y_p0 = F_p0 := (hkP0 qo_py y_p0 m_p0 f_qo_py f_y_p0 f_m_p0).trans n_p0
  obtain ⟨y_p1, f_y_p1, g_y_p1⟩ := hx_rf hT g_qo_py tt_3 (k := 3) (u := 24) rfl
  obtain ⟨m_p1, f_m_p1, g_m_p1⟩ := hx_rf hT gm tt_10 (k := 61) (u := 94) rfl
  obtain ⟨F_p1, n_p1⟩ : ∃ g : Nat → Int32, hl1.2.1 m_p1 = g := ⟨_, rfl⟩
  have n_y_p1 : hl1.2.1 y_p1 = F_p1 := (hkP1 qo_py y_p1 m_p1 f_qo_py f_y_p1 f_m_p1).trans n_p1
  obtain ⟨y_p2, f_y_p2, g_y_p2⟩ := hx_rf hT g_qo_py tt_3 (k := 5) (u := 26) rfl
  obtain ⟨m_p2, f_m_p2, g_m_p2⟩ := hx_rf hT gm tt_10 (k := 62) (u := 95) rfl
  obtain ⟨F_p2, n_p2⟩ : ∃ g : Nat → Int32, hl1.2.1 m_p2 = g := ⟨_, rfl⟩
  have n_y_p2 : hl1.2.1 y_p2 = F_p2 := (hkP2 qo_py y_p2 m_p2 f_qo_py f_y_p2 f_m_p2).trans n_p2
  obtain ⟨y_p3, f_y_p3, g_y_p3⟩ := hx_rf hT g_qo_py tt_3 (k := 4) (u := 25) rfl
  obtain ⟨m_p3, f_m_p3, g_m_p3⟩ := hx_rf hT gm tt_10 (k := 63) (u := 96) rfl
  obtain ⟨F_p3, n_p3⟩ : ∃ g : Nat → Int32, hl1.2.1 m_p3 = g := ⟨_, rfl⟩
  have n_y_p3 : hl1.2.1 y_p3 = F_p3 := (hkP3 qo_py y_p3 m_p3 f_qo_py f_y_p3 f_m_p3).trans n_p3
  obtain ⟨y_p4, f_y_p4, g_y_p4⟩ := hx_rf hT g_qo_py tt_3 (k := 1) (u := 22) rfl
  obtain ⟨m_p4, f_m_p4, g_m_p4⟩ := hx_rf hT gm tt_10 (k := 64) (u := 97) rfl
  obtain ⟨F_p4, n_p4⟩ : ∃ g : Nat → Int32, hl1.2.1 m_p4 = g := ⟨_, rfl⟩
  have n_y_p4 : hl1.2.1 y_p4 = F_p4 := (hkP4 qo_py y_p4 m_p4 f_qo_py f_y_p4 f_m_p4).trans n_p4
  obtain ⟨qrg9, f_qrg9, g_qrg9⟩ := hx_rf hT gx tt_9 (k := 18) (u := 7) rfl
  obtain ⟨y_ls, f_y_ls, g_y_ls⟩ := hx_rf hT g_qrg9 tt_7 (k := 3) (u := 35) rfl
  obtain ⟨m_rl, f_m_rl, g_m_rl⟩ := hx_rf hT gm tt_10 (k := 85) (u := 109) rfl
  obtain ⟨F_y_ls, n_y_ls⟩ : ∃ g : Nat → Int32, hl1.2.1 y_ls = g := ⟨_, rfl⟩
  obtain ⟨F_m_rl, n_m_rl⟩ : ∃ g : Nat → Int32, hl1.2.1 m_rl = g := ⟨_, rfl⟩
  obtain ⟨fv_917, efv_917⟩ : ∃ y : Int32, y = hl1.2.1 qrg9 0 := ⟨_, rfl⟩
  have bfv_917 := hT.gi g_qrg9 tt_7 (k := 0) rfl
  rw [← efv_917] at bfv_917
  have bfv_917 : -1 ≤ fv_917.toInt ∧ fv_917.toInt ≤ 100 := bfv_917
  have ffv_917 := efv_917.symm
  obtain ⟨fv_918, efv_918⟩ : ∃ y : Int32, y = hl1.2.1 am 83 := ⟨_, rfl⟩
  have bfv_918 := hT.gi gm tt_10 (k := 83) rfl
  rw [← efv_918] at bfv_918
  have bfv_918 : 0 ≤ fv_918.toInt ∧ fv_918.toInt ≤ 1 := bfv_918
  have ffv_918 := efv_918.symm
  obtain ⟨fv_919, efv_919⟩ : ∃ y : Int32, y = hl1.2.1 am 84 := ⟨_, rfl⟩
  have bfv_919 := hT.gi gm tt_10 (k := 84) rfl
  rw [← efv_919] at bfv_919
  have bfv_919 : 0 ≤ fv_919.toInt ∧ fv_919.toInt ≤ 300 := bfv_919
  have ffv_919 := efv_919.symm
  have hNQ9 := hkNQ qrg9 f_qrg9; rw [ffv_917, ffv_918, ffv_919] at hNQ9
  have hRL9 := hkRL qrg9 y_ls m_rl f_qrg9 f_y_ls f_m_rl; rw [n_y_ls, n_m_rl, ffv_917] at hRL9
  have hCB : hz_CB F_ord F_wkl F_owd F_szd F_gds F_srv := fun c hc => ⟨by have w := hT.ei g_m_ord tt_83 (k := c) (by omega); rw [n_ord] at w; exact w, by have w := hT.ei g_m_wkl tt_89 (k := c) (by omega); rw [n_wkl] at w; exact w, by have w := hT.ei g_m_owd tt_90 (k := c) (by omega); rw [n_owd] at w; exact w, by have w := hT.ei g_m_szd tt_84 (k := c) (by omega); rw [n_szd] at w; exact w, by have w := hT.ei g_m_gds tt_91 (k := c) (by omega); rw [n_gds] at w; exact w, by have w := hT.ei g_m_srv tt_85 (k := c) (by omega); rw [n_srv] at w; exact w⟩
  have hps : ∀ j, j < 600 → 0 ≤ (F_p2 j).toInt ∧ (F_p2 j).toInt ≤ 610000 := fun j hj => by have w := hT.ei g_m_p2 tt_95 (k := j) (by omega); rw [n_p2] at w; exact w
  have hte9 : ∀ c : Nat, c < 100 → (0 ≤ (c_tri c).toInt ∧ (c_tri c).toInt ≤ 512) ∧ (0 ≤ (F_sum c).toInt ∧ (F_sum c).toInt ≤ 9999) := fun c hc => ⟨htb9 c hc, by have w := hT.ei g_m_sum tt_74 (k := c) (by omega); rw [n_sum] at w; exact w⟩
  have hee9 : ∀ c : Nat, c < 40 → (0 ≤ (F_ear c).toInt ∧ (F_ear c).toInt ≤ 9999) ∧ (0 ≤ (F_hds c).toInt ∧ (F_hds c).toInt ≤ 20) := fun c hc => ⟨by have w := hT.ei g_m_ear tt_59 (k := c) (by omega); rw [n_ear] at w; exact w, by have w := hT.ei g_m_hds tt_60 (k := c) (by omega); rw [n_hds] at w; exact w⟩
  have bAG9 : ∀ k, k < 100 → 0 ≤ (F_aga k).toInt ∧ (F_aga k).toInt ≤ 39 := fun k hk => by have w := hT.ei g_m_aga tt_73 (k := k) (by omega); rw [n_aga] at w; exact w
  have bBY9 : ∀ k, k < 100 → 0 ≤ (F_by k).toInt ∧ (F_by k).toInt ≤ 39 := fun k hk => by have w := hT.ei g_m_by tt_72 (k := k) (by omega); rw [n_by] at w; exact w
  have hag9 : ∀ c, c < c0.toInt.toNat → 0 ≤ (F_aga c).toInt ∧ (F_aga c).toInt < 40 ∧ 0 ≤ (F_by c).toInt ∧ (F_by c).toInt < 40 := fun c hc => by have a9 := bAG9 c (by omega); have b9 := bBY9 c (by omega); omega
  have z_wkl : F_wkl c0.toInt.toNat = 0 := hx_num_z2 nu_qc cl_wkl ?o7
  case o7 => omega
  have z_owd : F_owd c0.toInt.toNat = 0 := hx_num_z2 nu_qc cl_owd ?o8
  case o8 => omega
  have z_gds : F_gds c0.toInt.toNat = 0 := hx_num_z2 nu_qc cl_gds ?o9
  case o9 => omega
  have hwd := jw mw f_mw; rw [n_mw] at hwd
  have hWK := jr mr f_mr; rw [n_mr, f_m_acts] at hWK
  have hRP := jp mp mn f_mp f_mn; rw [n_mp, n_mn, f_m_acts] at hRP
  have hPL := jl ml f_ml; rw [n_ml, f_m_claims, f_m_acts] at hPL
  have hHC := jh mh f_mh; rw [n_mh, f_m_heardMany, f_m_claims] at hHC
  have hTR := jt mt f_mt; rw [n_mt] at hTR
  have hHF := jf mh m_fou f_mh f_m_fou; rw [n_mh, n_m_fou, f_m_claims] at hHF
  refine lv_aload_n hx hb dL_law_1356 rfl (lv_at hl 2 rfl) ?_
  refine lv_aload_n hx hb dL_law_1357 rfl (lv_at hl 3 rfl) ?_
  refine lv_iload_n hx hb dL_law_1358 rfl (lv_at hl 0 rfl) ?_
  refine lv_iconst (v := 1) hx hb dL_law_1359 ?o10 ?_
  case o10 => decide
  refine lv_iadd hx hb dL_law_1360 ?_
  have rg_920 := i32_r i
  refine lv_topi (fun x_921 ex_921 => ?_)
  have zx_921 : x_921.toInt = i.toInt + 1 := ?o11
  case o11 =>
    rw [ex_921]
    refine i32_add rfl ?o12 ?o13 ?o14
    case o12 => decide
    case o13 => omega
    case o14 => omega
  refine va_sld hx hb hX hbl hbA hW.2.2.2.1 (vp_in_iff.mpr ⟨?o15, ?o16⟩) dL_law_1361 ?_
  case o15 => omega
  case o16 => omega
  refine lv_topi (fun x_922 ex_922 => ?_)
  have hTo := hT
  refine hx_goi (hx_runV (As := [.int x_922]) (rest := []) ⟨hx, hb, hml, hown, hts⟩ hW gx tt_9 (T := TX9) (N := 20) rfl (t_X9_count_v l dC dI dA L1 hl1 H.size ax x_922 hT gx qp g_qp f_qp qc g_qc f_qc qo_ln g_qo_ln f_qo_ln qo_py g_qo_py f_qo_py qw g_qw f_qw c0 f_x_claimCount np f_x_personCount nw f_x_now a0 f_x_actCount ln f_o_ln py f_o_py tl f_x_tapeLength lsd f_o_lsd c_isj cl_isj c_dead cl_dead pf_qp pf_qc) (cwV 1 hts (hx_gV kw_1108 kw_1105 kw_1106 kw_1107 kw_94) rfl rfl rfl (by decide +kernel) ⟨Nat.le_of_ble_eq_true rfl, Nat.le_of_ble_eq_true rfl⟩) rfl hl.1 rfl (Nat.le_of_ble_eq_true rfl) dL_law_1362 ⟨(show CC + 0 ≤ 600000 from ?o17), (show SS + 0 ≤ 7302250 from ?o18)⟩) hW (fun r_925 L_923 h_924 H locs p_926 hW => ?_)
  case o17 => omega
  case o18 => omega
  obtain ⟨hr_927, hT, hs⟩ := p_926
  replace hT : hx_T T_tb L_923 h_924 := hT
  replace hs : hx_S T_tb [] L1 hl1 L_923 h_924 := hs
  replace f_qa := (hs.o gx trivial rfl).2.trans f_qa
  replace f_qp := (hs.o gx trivial rfl).2.trans f_qp
  replace f_qc := (hs.o gx trivial rfl).2.trans f_qc
  replace f_qh := (hs.o gx trivial rfl).2.trans f_qh
  replace f_qw := (hs.o gx trivial rfl).2.trans f_qw
  replace f_ql := (hs.o g_qw trivial rfl).2.trans f_ql
  replace f_m_now := (hs.o gm trivial rfl).1.trans f_m_now
  replace f_m_persons := (hs.o gm trivial rfl).1.trans f_m_persons
  replace f_m_claims := (hs.o gm trivial rfl).1.trans f_m_claims
  replace f_m_taped := (hs.o gm trivial rfl).1.trans f_m_taped
  replace f_m_acts := (hs.o gm trivial rfl).1.trans f_m_acts
  replace f_m_heardMany := (hs.o gm trivial rfl).1.trans f_m_heardMany
  replace f_m_lines := (hs.o gm trivial rfl).1.trans f_m_lines
  replace f_m_listed := (hs.o gm trivial rfl).1.trans f_m_listed
  replace f_m_walkedMany := (hs.o gm trivial rfl).1.trans f_m_walkedMany
  replace f_m_payments := (hs.o gm trivial rfl).1.trans f_m_payments
  replace f_x_now := (hs.o gx trivial rfl).1.trans f_x_now
  replace f_x_personCount := (hs.o gx trivial rfl).1.trans f_x_personCount
  replace f_x_claimCount := (hs.o gx trivial rfl).1.trans f_x_claimCount
  replace f_x_tapeLength := (hs.o gx trivial rfl).1.trans f_x_tapeLength
  replace f_x_actCount := (hs.o gx trivial rfl).1.trans f_x_actCount
  replace f_x_heardCount := (hs.o gx trivial rfl).1.trans f_x_heardCount
  replace f_mw := (hs.o gm trivial rfl).2.trans f_mw
  replace f_mr := (hs.o gm trivial rfl).2.trans f_mr
  replace f_mp := (hs.o gm trivial rfl).2.trans f_mp
  replace f_mn := (hs.o gm trivial rfl).2.trans f_mn
  replace f_ml := (hs.o gm trivial rfl).2.trans f_ml
  replace f_mh := (hs.o gm trivial rfl).2.trans f_mh
  replace f_mt := (hs.o gm trivial rfl).2.trans f_mt
  replace f_m_fou := (hs.o gm trivial rfl).2.trans f_m_fou
  replace f_qo_ln := (hs.o gx trivial rfl).2.trans f_qo_ln
  replace f_o_ln := (hs.o g_qo_ln trivial rfl).1.trans f_o_ln
  replace f_o_lsd := (hs.o g_qw trivial rfl).1.trans f_o_lsd
  replace f_o_wkm := (hs.o g_qw trivial rfl).1.trans f_o_wkm
  replace f_qo_py := (hs.o gx trivial rfl).2.trans f_qo_py
  replace f_o_py := (hs.o g_qo_py trivial rfl).1.trans f_o_py
  replace f_b_of := (hs.o g_qo_ln trivial rfl).2.trans f_b_of
  replace f_m_of := (hs.o gm trivial rfl).2.trans f_m_of
  replace f_b_wf := (hs.o g_qo_ln trivial rfl).2.trans f_b_wf
  replace f_m_wf := (hs.o gm trivial rfl).2.trans f_m_wf
  replace f_b_df := (hs.o g_qo_ln trivial rfl).2.trans f_b_df
  replace f_m_df := (hs.o gm trivial rfl).2.trans f_m_df
  replace f_b_kf := (hs.o g_qo_ln trivial rfl).2.trans f_b_kf
  replace f_m_kf := (hs.o gm trivial rfl).2.trans f_m_kf
  replace f_b_sf := (hs.o g_qo_ln trivial rfl).2.trans f_b_sf
  replace f_m_sf := (hs.o gm trivial rfl).2.trans f_m_sf
  replace f_b_bf := (hs.o g_qo_ln trivial rfl).2.trans f_b_bf
  replace f_m_lst := (hs.o gm trivial rfl).2.trans f_m_lst
  replace f_qtp := (hs.o gx trivial rfl).2.trans f_qtp
  replace f_m_tp := (hs.o gm trivial rfl).2.trans f_m_tp
  replace f_m_dead := (hs.o gm trivial rfl).2.trans f_m_dead
  replace f_m_isj := (hs.o gm trivial rfl).2.trans f_m_isj
  replace f_m_dox := (hs.o gm trivial rfl).2.trans f_m_dox
  replace f_m_doy := (hs.o gm trivial rfl).2.trans f_m_doy
  replace f_qlt := (hs.o g_qw trivial rfl).2.trans f_qlt
  replace f_qlf := (hs.o g_qw trivial rfl).2.trans f_qlf
  replace f_m_wkd := (hs.o gm trivial rfl).2.trans f_m_wkd
  replace f_m_aga := (hs.o gm trivial rfl).2.trans f_m_aga
  replace f_qwo := (hs.o gx trivial rfl).2.trans f_qwo
  replace f_m_ad := (hs.o gm trivial rfl).2.trans f_m_ad
  replace f_m_by := (hs.o gm trivial rfl).2.trans f_m_by
  replace f_m_ho := (hs.o gm trivial rfl).2.trans f_m_ho
  replace f_m_fc := (hs.o gm trivial rfl).2.trans f_m_fc
  replace f_m_nt := (hs.o gm trivial rfl).2.trans f_m_nt
  replace f_m_wt := (hs.o gm trivial rfl).2.trans f_m_wt
  replace f_m_be := (hs.o gm trivial rfl).2.trans f_m_be
  replace f_m_bor := (hs.o gm trivial rfl).2.trans f_m_bor
  replace f_m_kin := (hs.o gm trivial rfl).2.trans f_m_kin
  replace f_m_sum := (hs.o gm trivial rfl).2.trans f_m_sum
  replace f_m_fro := (hs.o gm trivial rfl).2.trans f_m_fro
  replace f_m_fil := (hs.o gm trivial rfl).2.trans f_m_fil
  replace f_m_jud := (hs.o gm trivial rfl).2.trans f_m_jud
  replace f_m_ear := (hs.o gm trivial rfl).2.trans f_m_ear
  replace f_m_hds := (hs.o gm trivial rfl).2.trans f_m_hds
  replace f_m_ord := (hs.o gm trivial rfl).2.trans f_m_ord
  replace f_m_wkl := (hs.o gm trivial rfl).2.trans f_m_wkl
  replace f_m_owd := (hs.o gm trivial rfl).2.trans f_m_owd
  replace f_m_gds := (hs.o gm trivial rfl).2.trans f_m_gds
  replace f_m_szd := (hs.o gm trivial rfl).2.trans f_m_szd
  replace f_m_srv := (hs.o gm trivial rfl).2.trans f_m_srv
  replace f_y_p0 := (hs.o g_qo_py trivial rfl).2.trans f_y_p0
  replace f_m_p0 := (hs.o gm trivial rfl).2.trans f_m_p0
  replace f_y_p1 := (hs.o g_qo_py trivial rfl).2.trans f_y_p1
  replace f_m_p1 := (hs.o gm trivial rfl).2.trans f_m_p1
  replace f_y_p2 := (hs.o g_qo_py trivial rfl).2.trans f_y_p2
  replace f_m_p2 := (hs.o gm trivial rfl).2.trans f_m_p2
  replace f_y_p3 := (hs.o g_qo_py trivial rfl).2.trans f_y_p3
  replace f_m_p3 := (hs.o gm trivial rfl).2.trans f_m_p3
  replace f_y_p4 := (hs.o g_qo_py trivial rfl).2.trans f_y_p4
  replace f_m_p4 := (hs.o gm trivial rfl).2.trans f_m_p4
  replace f_qrg9 := (hs.o gx trivial rfl).2.trans f_qrg9
  replace f_y_ls := (hs.o g_qrg9 trivial rfl).2.trans f_y_ls
  replace f_m_rl := (hs.o gm trivial rfl).2.trans f_m_rl
  replace ffv_917 := (hs.o g_qrg9 trivial rfl).1.trans ffv_917
  replace ffv_918 := (hs.o gm trivial rfl).1.trans ffv_918
  replace ffv_919 := (hs.o gm trivial rfl).1.trans ffv_919
  replace pf_qa : ∀ j : Nat, (j : Int) < (h_924.2.1 ax 6).toInt → h_924.2.2 qa j ≠ none := by
    intro j hj; rw [(hs.o gx trivial rfl).1] at hj; rw [(hs.a g_qa rfl j).2]; exact pf_qa j hj
  replace pf_qp : ∀ j : Nat, (j : Int) < (h_924.2.1 ax 8).toInt → h_924.2.2 qp j ≠ none := by
    intro j hj; rw [(hs.o gx trivial rfl).1] at hj; rw [(hs.a g_qp rfl j).2]; exact pf_qp j hj
  replace pf_qc : ∀ j : Nat, (j : Int) < (h_924.2.1 ax 11).toInt → h_924.2.2 qc j ≠ none := by
    intro j hj; rw [(hs.o gx trivial rfl).1] at hj; rw [(hs.a g_qc rfl j).2]; exact pf_qc j hj
  replace pf_qh : ∀ j : Nat, (j : Int) < (h_924.2.1 ax 13).toInt → h_924.2.2 qh j ≠ none := by
    intro j hj; rw [(hs.o gx trivial rfl).1] at hj; rw [(hs.a g_qh rfl j).2]; exact pf_qh j hj
  replace pf_ql : ∀ j : Nat, (j : Int) < (h_924.2.1 qw 0).toInt → h_924.2.2 ql j ≠ none := by
    intro j hj; rw [(hs.o g_qw trivial rfl).1] at hj; rw [(hs.a g_ql rfl j).2]; exact pf_ql j hj
  replace cl_lst : hx_col 8 h_924 ql 0 = c_lst := (hx_col_S hs hTo g_ql tt_40 tt_2 rfl rfl).trans cl_lst
  replace cl_dead : hx_col 40 h_924 qp 7 = c_dead := (hx_col_S hs hTo g_qp tt_44 tt_4 rfl rfl).trans cl_dead
  replace cl_isj : hx_col 40 h_924 qp 8 = c_isj := (hx_col_S hs hTo g_qp tt_44 tt_4 rfl rfl).trans cl_isj
  replace cl_dox : hx_col 40 h_924 qp 5 = c_dox := (hx_col_S hs hTo g_qp tt_44 tt_4 rfl rfl).trans cl_dox
  replace cl_doy : hx_col 40 h_924 qp 6 = c_doy := (hx_col_S hs hTo g_qp tt_44 tt_4 rfl rfl).trans cl_doy
  replace cl_fou : hx_col 100 h_924 qc 10 = c_fou := (hx_col_S hs hTo g_qc tt_45 tt_2 rfl rfl).trans cl_fou
  replace cl_tri : hx_col 100 h_924 qc 9 = c_tri := (hx_col_S hs hTo g_qc tt_45 tt_2 rfl rfl).trans cl_tri
  replace cl_bor : hx_col 40 h_924 qp 1 = F_bor := (hx_col_S hs hTo g_qp tt_44 tt_4 rfl rfl).trans cl_bor
  replace cl_kin : hx_col 40 h_924 qp 2 = F_kin := (hx_col_S hs hTo g_qp tt_44 tt_4 rfl rfl).trans cl_kin
  replace cl_sum : hx_col 100 h_924 qc 6 = F_sum := (hx_col_S hs hTo g_qc tt_45 tt_2 rfl rfl).trans cl_sum
  replace cl_fro : hx_col 100 h_924 qc 7 = F_fro := (hx_col_S hs hTo g_qc tt_45 tt_2 rfl rfl).trans cl_fro
  replace cl_fil : hx_col 100 h_924 qc 8 = F_fil := (hx_col_S hs hTo g_qc tt_45 tt_2 rfl rfl).trans cl_fil
  replace cl_hea : hx_col 100 h_924 qc 11 = F_mh := (hx_col_S hs hTo g_qc tt_45 tt_2 rfl rfl).trans cl_hea
  replace cl_jud : hx_col 100 h_924 qc 12 = F_jud := (hx_col_S hs hTo g_qc tt_45 tt_2 rfl rfl).trans cl_jud
  replace cl_ear : hx_col 40 h_924 qp 3 = F_ear := (hx_col_S hs hTo g_qp tt_44 tt_4 rfl rfl).trans cl_ear
  replace cl_hds : hx_col 40 h_924 qp 4 = F_hds := (hx_col_S hs hTo g_qp tt_44 tt_4 rfl rfl).trans cl_hds
  replace cl_ord : hx_col 100 h_924 qc 13 = F_ord := (hx_col_S hs hTo g_qc tt_45 tt_2 rfl rfl).trans cl_ord
  replace cl_wkl : hx_col 100 h_924 qc 14 = F_wkl := (hx_col_S hs hTo g_qc tt_45 tt_2 rfl rfl).trans cl_wkl
  replace cl_owd : hx_col 100 h_924 qc 15 = F_owd := (hx_col_S hs hTo g_qc tt_45 tt_2 rfl rfl).trans cl_owd
  replace cl_gds : hx_col 100 h_924 qc 17 = F_gds := (hx_col_S hs hTo g_qc tt_45 tt_2 rfl rfl).trans cl_gds
  replace cl_szd : hx_col 100 h_924 qc 16 = F_szd := (hx_col_S hs hTo g_qc tt_45 tt_2 rfl rfl).trans cl_szd
  replace cl_srv : hx_col 100 h_924 qc 18 = F_srv := (hx_col_S hs hTo g_qc tt_45 tt_2 rfl rfl).trans cl_srv
  replace nu_qp : hx_num 40 h_924 qp 0 (np.toInt) := hx_num_S hs hTo g_qp tt_44 tt_4 rfl rfl nu_qp
  replace nu_qc : hx_num 100 h_924 qc 0 (c0.toInt) := hx_num_S hs hTo g_qc tt_45 tt_2 rfl rfl nu_qc
  replace sb_list : hx_LQ 8 100 h_924 ql qc := hx_LQ_S hs g_ql g_qc rfl rfl sb_list
  replace hDF : hw_DF h_924 qc qp 2 F_aga c0.toInt := hw_DF_S hs hTo g_qc g_qp tt_45 tt_2 rfl rfl rfl hDF
  replace hRA9 : hv_RA h_924 qa qwo a0.toInt A9 := hv_RA_S hs hTo g_qa g_qwo tt_43 tt_0 rfl rfl rfl rfl rfl rfl ?o19 hRA9
  case o19 => omega
  replace hDP : hw_DF h_924 qc qp 1 F_by c0.toInt := hw_DF_S hs hTo g_qc g_qp tt_45 tt_2 rfl rfl rfl hDP
  replace hAC9 : hv_AC h_924 qc F_ml c0.toInt A9 := hv_AC_S hs hTo g_qc tt_45 tt_2 rfl tt_0 rfl rfl rfl rfl rfl rfl rfl hAC9
  replace hFX : hv_FX 8 4 h_924 qc cF9L c0.toInt := hv_FX_S hs hTo g_qc tt_45 tt_2 rfl rfl rfl rfl hFX
  replace hBX : hv_FX 3 5 h_924 qc F_be c0.toInt := hv_FX_S hs hTo g_qc tt_45 tt_2 rfl rfl rfl rfl hBX
  replace hHL : hv_HL h_924 qh qc F_ho m0.toInt c0.toInt := hv_HL_S hs g_qh g_qc rfl rfl hHL
  replace n_mw : h_924.2.1 mw = F_mw := (funext fun j => (hs.a g_mw rfl j).1).trans n_mw
  replace n_mr : h_924.2.1 mr = F_mr := (funext fun j => (hs.a g_mr rfl j).1).trans n_mr
  replace n_mp : h_924.2.1 mp = F_mp := (funext fun j => (hs.a g_mp rfl j).1).trans n_mp
  replace n_mn : h_924.2.1 mn = F_mn := (funext fun j => (hs.a g_mn rfl j).1).trans n_mn
  replace n_ml : h_924.2.1 ml = F_ml := (funext fun j => (hs.a g_ml rfl j).1).trans n_ml
  replace n_mh : h_924.2.1 mh = F_mh := (funext fun j => (hs.a g_mh rfl j).1).trans n_mh
  replace n_mt : h_924.2.1 mt = F_mt := (funext fun j => (hs.a g_mt rfl j).1).trans n_mt
  replace n_m_fou : h_924.2.1 m_fou = F_m_fou := (funext fun j => (hs.a g_m_fou rfl j).1).trans n_m_fou
  replace n_b_of : h_924.2.1 b_of = B_of := (funext fun j => (hs.a g_b_of rfl j).1).trans n_b_of
  replace n_m_of : h_924.2.1 m_of = F_of := (funext fun j => (hs.a g_m_of rfl j).1).trans n_m_of
  replace n_b_wf : h_924.2.1 b_wf = B_wf := (funext fun j => (hs.a g_b_wf rfl j).1).trans n_b_wf
  replace n_m_wf : h_924.2.1 m_wf = F_wf := (funext fun j => (hs.a g_m_wf rfl j).1).trans n_m_wf
  replace n_b_df : h_924.2.1 b_df = B_df := (funext fun j => (hs.a g_b_df rfl j).1).trans n_b_df
  replace n_m_df : h_924.2.1 m_df = F_df := (funext fun j => (hs.a g_m_df rfl j).1).trans n_m_df
  replace n_b_kf : h_924.2.1 b_kf = B_kf := (funext fun j => (hs.a g_b_kf rfl j).1).trans n_b_kf
  replace n_m_kf : h_924.2.1 m_kf = F_kf := (funext fun j => (hs.a g_m_kf rfl j).1).trans n_m_kf
  replace n_b_sf : h_924.2.1 b_sf = B_sf := (funext fun j => (hs.a g_b_sf rfl j).1).trans n_b_sf
  replace n_m_sf : h_924.2.1 m_sf = F_sf := (funext fun j => (hs.a g_m_sf rfl j).1).trans n_m_sf
  replace n_b_bf : h_924.2.1 b_bf = bfL := (funext fun j => (hs.a g_b_bf rfl j).1).trans n_b_bf
  replace n_lst : h_924.2.1 m_lst = F_lst := (funext fun j => (hs.a g_m_lst rfl j).1).trans n_lst
  replace n_tp : h_924.2.1 m_tp = F_tp := (funext fun j => (hs.a g_m_tp rfl j).1).trans n_tp
  replace n_qtp : h_924.2.1 qtp = F_tp := (funext fun j => (hs.a g_qtp rfl j).1).trans n_qtp
  replace n_dead : h_924.2.1 m_dead = F_dead := (funext fun j => (hs.a g_m_dead rfl j).1).trans n_dead
  replace n_isj : h_924.2.1 m_isj = F_isj := (funext fun j => (hs.a g_m_isj rfl j).1).trans n_isj
  replace n_dox : h_924.2.1 m_dox = F_dox := (funext fun j => (hs.a g_m_dox rfl j).1).trans n_dox
  replace n_doy : h_924.2.1 m_doy = F_doy := (funext fun j => (hs.a g_m_doy rfl j).1).trans n_doy
  replace n_qlt : h_924.2.1 qlt = F_qlt := (funext fun j => (hs.a g_qlt rfl j).1).trans n_qlt
  replace n_m_wkd : h_924.2.1 m_wkd = F_m_wkd := (funext fun j => (hs.a g_m_wkd rfl j).1).trans n_m_wkd
  replace n_aga : h_924.2.1 m_aga = F_aga := (funext fun j => (hs.a g_m_aga rfl j).1).trans n_aga
  replace n_ad : h_924.2.1 m_ad = F_ad := (funext fun j => (hs.a g_m_ad rfl j).1).trans n_ad
  replace n_by : h_924.2.1 m_by = F_by := (funext fun j => (hs.a g_m_by rfl j).1).trans n_by
  replace n_ho : h_924.2.1 m_ho = F_ho := (funext fun j => (hs.a g_m_ho rfl j).1).trans n_ho
  replace n_fc : h_924.2.1 m_fc = F_fc := (funext fun j => (hs.a g_m_fc rfl j).1).trans n_fc
  replace n_nt : h_924.2.1 m_nt = F_nt := (funext fun j => (hs.a g_m_nt rfl j).1).trans n_nt
  replace n_wt : h_924.2.1 m_wt = F_wt := (funext fun j => (hs.a g_m_wt rfl j).1).trans n_wt
  replace n_be : h_924.2.1 m_be = F_be := (funext fun j => (hs.a g_m_be rfl j).1).trans n_be
  replace n_bor : h_924.2.1 m_bor = F_bor := (funext fun j => (hs.a g_m_bor rfl j).1).trans n_bor
  replace n_kin : h_924.2.1 m_kin = F_kin := (funext fun j => (hs.a g_m_kin rfl j).1).trans n_kin
  replace n_sum : h_924.2.1 m_sum = F_sum := (funext fun j => (hs.a g_m_sum rfl j).1).trans n_sum
  replace n_fro : h_924.2.1 m_fro = F_fro := (funext fun j => (hs.a g_m_fro rfl j).1).trans n_fro
  replace n_fil : h_924.2.1 m_fil = F_fil := (funext fun j => (hs.a g_m_fil rfl j).1).trans n_fil
  replace n_jud : h_924.2.1 m_jud = F_jud := (funext fun j => (hs.a g_m_jud rfl j).1).trans n_jud
  replace n_ear : h_924.2.1 m_ear = F_ear := (funext fun j => (hs.a g_m_ear rfl j).1).trans n_ear
  replace n_hds : h_924.2.1 m_hds = F_hds := (funext fun j => (hs.a g_m_hds rfl j).1).trans n_hds
  replace n_ord : h_924.2.1 m_ord = F_ord := (funext fun j => (hs.a g_m_ord rfl j).1).trans n_ord
  replace n_wkl : h_924.2.1 m_wkl = F_wkl := (funext fun j => (hs.a g_m_wkl rfl j).1).trans n_wkl
  replace n_owd : h_924.2.1 m_owd = F_owd := (funext fun j => (hs.a g_m_owd rfl j).1).trans n_owd
  replace n_gds : h_924.2.1 m_gds = F_gds := (funext fun j => (hs.a g_m_gds rfl j).1).trans n_gds
  replace n_szd : h_924.2.1 m_szd = F_szd := (funext fun j => (hs.a g_m_szd rfl j).1).trans n_szd
  replace n_srv : h_924.2.1 m_srv = F_srv := (funext fun j => (hs.a g_m_srv rfl j).1).trans n_srv
  replace n_p0 : h_924.2.1 m_p0 = F_p0 := (funext fun j => (hs.a g_m_p0 rfl j).1).trans n_p0
  replace n_y_p0 : h_924.2.1 y_p0 = F_p0 := (funext fun j => (hs.a g_y_p0 rfl j).1).trans n_y_p0
  replace n_p1 : h_924.2.1 m_p1 = F_p1 := (funext fun j => (hs.a g_m_p1 rfl j).1).trans n_p1
  replace n_y_p1 : h_924.2.1 y_p1 = F_p1 := (funext fun j => (hs.a g_y_p1 rfl j).1).trans n_y_p1
  replace n_p2 : h_924.2.1 m_p2 = F_p2 := (funext fun j => (hs.a g_m_p2 rfl j).1).trans n_p2
  replace n_y_p2 : h_924.2.1 y_p2 = F_p2 := (funext fun j => (hs.a g_y_p2 rfl j).1).trans n_y_p2
  replace n_p3 : h_924.2.1 m_p3 = F_p3 := (funext fun j => (hs.a g_m_p3 rfl j).1).trans n_p3
  replace n_y_p3 : h_924.2.1 y_p3 = F_p3 := (funext fun j => (hs.a g_y_p3 rfl j).1).trans n_y_p3
  replace n_p4 : h_924.2.1 m_p4 = F_p4 := (funext fun j => (hs.a g_m_p4 rfl j).1).trans n_p4
  replace n_y_p4 : h_924.2.1 y_p4 = F_p4 := (funext fun j => (hs.a g_y_p4 rfl j).1).trans n_y_p4
  replace n_y_ls : h_924.2.1 y_ls = F_y_ls := (funext fun j => (hs.a g_y_ls rfl j).1).trans n_y_ls
  replace n_m_rl : h_924.2.1 m_rl = F_m_rl := (funext fun j => (hs.a g_m_rl rfl j).1).trans n_m_rl
  replace gx := gx.S hs
  replace gm := gm.S hs
  replace g_qa := g_qa.S hs
  replace g_qp := g_qp.S hs
  replace g_qc := g_qc.S hs
  replace g_qh := g_qh.S hs
  replace g_qw := g_qw.S hs
  replace g_ql := g_ql.S hs
  replace g_mw := g_mw.S hs
  replace g_mr := g_mr.S hs
  replace g_mp := g_mp.S hs
  replace g_mn := g_mn.S hs
  replace g_ml := g_ml.S hs
  replace g_mh := g_mh.S hs
  replace g_mt := g_mt.S hs
  replace g_m_fou := g_m_fou.S hs
  replace g_qo_ln := g_qo_ln.S hs
  replace g_qo_py := g_qo_py.S hs
  replace g_b_of := g_b_of.S hs
  replace g_m_of := g_m_of.S hs
  replace g_b_wf := g_b_wf.S hs
  replace g_m_wf := g_m_wf.S hs
  replace g_b_df := g_b_df.S hs
  replace g_m_df := g_m_df.S hs
  replace g_b_kf := g_b_kf.S hs
  replace g_m_kf := g_m_kf.S hs
  replace g_b_sf := g_b_sf.S hs
  replace g_m_sf := g_m_sf.S hs
  replace g_b_bf := g_b_bf.S hs
  replace g_m_lst := g_m_lst.S hs
  replace g_qtp := g_qtp.S hs
  replace g_m_tp := g_m_tp.S hs
  replace g_m_dead := g_m_dead.S hs
  replace g_m_isj := g_m_isj.S hs
  replace g_m_dox := g_m_dox.S hs
  replace g_m_doy := g_m_doy.S hs
  replace g_qlt := g_qlt.S hs
  replace g_qlf := g_qlf.S hs
  replace g_m_wkd := g_m_wkd.S hs
  replace g_m_aga := g_m_aga.S hs
  replace g_qwo := g_qwo.S hs
  replace g_m_ad := g_m_ad.S hs
  replace g_m_by := g_m_by.S hs
  replace g_m_ho := g_m_ho.S hs
  replace g_m_fc := g_m_fc.S hs
  replace g_m_nt := g_m_nt.S hs
  replace g_m_wt := g_m_wt.S hs
  replace g_m_be := g_m_be.S hs
  replace g_m_bor := g_m_bor.S hs
  replace g_m_kin := g_m_kin.S hs
  replace g_m_sum := g_m_sum.S hs
  replace g_m_fro := g_m_fro.S hs
  replace g_m_fil := g_m_fil.S hs
  replace g_m_jud := g_m_jud.S hs
  replace g_m_ear := g_m_ear.S hs
  replace g_m_hds := g_m_hds.S hs
  replace g_m_ord := g_m_ord.S hs
  replace g_m_wkl := g_m_wkl.S hs
  replace g_m_owd := g_m_owd.S hs
  replace g_m_gds := g_m_gds.S hs
  replace g_m_szd := g_m_szd.S hs
  replace g_m_srv := g_m_srv.S hs
  replace g_y_p0 := g_y_p0.S hs
  replace g_m_p0 := g_m_p0.S hs
  replace g_y_p1 := g_y_p1.S hs
  replace g_m_p1 := g_m_p1.S hs
  replace g_y_p2 := g_y_p2.S hs
  replace g_m_p2 := g_m_p2.S hs
  replace g_y_p3 := g_y_p3.S hs
  replace g_m_p3 := g_m_p3.S hs
  replace g_y_p4 := g_y_p4.S hs
  replace g_m_p4 := g_m_p4.S hs
  replace g_qrg9 := g_qrg9.S hs
  replace g_y_ls := g_y_ls.S hs
  replace g_m_rl := g_m_rl.S hs
  refine lv_aload_n hx hb dL_law_1365 rfl (lv_at hl 1 rfl) ?_
  refine lv_aload_n hx hb dL_law_1366 rfl (lv_at hl 3 rfl) ?_
  refine lv_iload_n hx hb dL_law_1367 rfl (lv_at hl 0 rfl) ?_
  refine lv_iconst (v := 1) hx hb dL_law_1368 ?o20 ?_
  case o20 => decide
  refine lv_iadd hx hb dL_law_1369 ?_
  refine lv_topi (fun x_928 ex_928 => ?_)
  have zx_928 : x_928.toInt = i.toInt + 1 := ?o21
  case o21 =>
    rw [ex_928]
    refine i32_add rfl ?o22 ?o23 ?o24
    case o22 => decide
    case o23 => omega
    case o24 => omega
  obtain rfl : x_921 = x_928 := ex_921.trans ex_928.symm
  refine va_sld hx hb hX hbl hbA hW.2.2.2.1 (vp_in_iff.mpr ⟨?o25, ?o26⟩) dL_law_1370 ?_
  case o25 => omega
  case o26 => omega
  refine lv_topi (fun x_929 ex_929 => ?_)
  obtain rfl : x_922 = x_929 := ex_922.trans ex_929.symm
  have hTo := hT
  refine hx_goi (hx_runV (As := [.int x_922]) (rest := [.int r_925]) ⟨hx, hb, hml, hown, hts⟩ hW gm tt_10 (T := TX10) (N := 98) rfl (t_X10_count_v l dC dI dA L_923 h_924 H.size am x_922 hT gm m_isj g_m_isj f_m_isj m_dead g_m_dead f_m_dead F_isj n_isj F_dead n_dead c0 f_m_claims a0 f_m_acts nw f_m_now py f_m_payments np f_m_persons ln f_m_lines tl f_m_taped lsd f_m_listed) (cwV 1 hts (hx_gV kw_1753 kw_1750 kw_1751 kw_1752 kw_103) rfl rfl rfl (by decide +kernel) ⟨Nat.le_of_ble_eq_true rfl, Nat.le_of_ble_eq_true rfl⟩) rfl hl.1 rfl (Nat.le_of_ble_eq_true rfl) dL_law_1371 ⟨(show CC + 0 + 0 ≤ 600000 from ?o27), (show SS + 0 + 0 ≤ 7302250 from ?o28)⟩) hW (fun r_932 L_930 h_931 H locs p_933 hW => ?_)
  case o27 => omega
  case o28 => omega
  obtain ⟨hr_934, hT, hs⟩ := p_933
  replace hT : hx_T T_tb L_930 h_931 := hT
  replace hs : hx_S T_tb [] L_923 h_924 L_930 h_931 := hs
  replace f_qa := (hs.o gx trivial rfl).2.trans f_qa
  replace f_qp := (hs.o gx trivial rfl).2.trans f_qp
  replace f_qc := (hs.o gx trivial rfl).2.trans f_qc
  replace f_qh := (hs.o gx trivial rfl).2.trans f_qh
  replace f_qw := (hs.o gx trivial rfl).2.trans f_qw
  replace f_ql := (hs.o g_qw trivial rfl).2.trans f_ql
  replace f_m_now := (hs.o gm trivial rfl).1.trans f_m_now
  replace f_m_persons := (hs.o gm trivial rfl).1.trans f_m_persons
  replace f_m_claims := (hs.o gm trivial rfl).1.trans f_m_claims
  replace f_m_taped := (hs.o gm trivial rfl).1.trans f_m_taped
  replace f_m_acts := (hs.o gm trivial rfl).1.trans f_m_acts
  replace f_m_heardMany := (hs.o gm trivial rfl).1.trans f_m_heardMany
  replace f_m_lines := (hs.o gm trivial rfl).1.trans f_m_lines
  replace f_m_listed := (hs.o gm trivial rfl).1.trans f_m_listed
  replace f_m_walkedMany := (hs.o gm trivial rfl).1.trans f_m_walkedMany
  replace f_m_payments := (hs.o gm trivial rfl).1.trans f_m_payments
  replace f_x_now := (hs.o gx trivial rfl).1.trans f_x_now
  replace f_x_personCount := (hs.o gx trivial rfl).1.trans f_x_personCount
  replace f_x_claimCount := (hs.o gx trivial rfl).1.trans f_x_claimCount
  replace f_x_tapeLength := (hs.o gx trivial rfl).1.trans f_x_tapeLength
  replace f_x_actCount := (hs.o gx trivial rfl).1.trans f_x_actCount
  replace f_x_heardCount := (hs.o gx trivial rfl).1.trans f_x_heardCount
  replace f_mw := (hs.o gm trivial rfl).2.trans f_mw
  replace f_mr := (hs.o gm trivial rfl).2.trans f_mr
  replace f_mp := (hs.o gm trivial rfl).2.trans f_mp
  replace f_mn := (hs.o gm trivial rfl).2.trans f_mn
  replace f_ml := (hs.o gm trivial rfl).2.trans f_ml
  replace f_mh := (hs.o gm trivial rfl).2.trans f_mh
  replace f_mt := (hs.o gm trivial rfl).2.trans f_mt
  replace f_m_fou := (hs.o gm trivial rfl).2.trans f_m_fou
  replace f_qo_ln := (hs.o gx trivial rfl).2.trans f_qo_ln
  replace f_o_ln := (hs.o g_qo_ln trivial rfl).1.trans f_o_ln
  replace f_o_lsd := (hs.o g_qw trivial rfl).1.trans f_o_lsd
  replace f_o_wkm := (hs.o g_qw trivial rfl).1.trans f_o_wkm
  replace f_qo_py := (hs.o gx trivial rfl).2.trans f_qo_py
  replace f_o_py := (hs.o g_qo_py trivial rfl).1.trans f_o_py
  replace f_b_of := (hs.o g_qo_ln trivial rfl).2.trans f_b_of
  replace f_m_of := (hs.o gm trivial rfl).2.trans f_m_of
  replace f_b_wf := (hs.o g_qo_ln trivial rfl).2.trans f_b_wf
  replace f_m_wf := (hs.o gm trivial rfl).2.trans f_m_wf
  replace f_b_df := (hs.o g_qo_ln trivial rfl).2.trans f_b_df
  replace f_m_df := (hs.o gm trivial rfl).2.trans f_m_df
  replace f_b_kf := (hs.o g_qo_ln trivial rfl).2.trans f_b_kf
  replace f_m_kf := (hs.o gm trivial rfl).2.trans f_m_kf
  replace f_b_sf := (hs.o g_qo_ln trivial rfl).2.trans f_b_sf
  replace f_m_sf := (hs.o gm trivial rfl).2.trans f_m_sf
  replace f_b_bf := (hs.o g_qo_ln trivial rfl).2.trans f_b_bf
  replace f_m_lst := (hs.o gm trivial rfl).2.trans f_m_lst
  replace f_qtp := (hs.o gx trivial rfl).2.trans f_qtp
  replace f_m_tp := (hs.o gm trivial rfl).2.trans f_m_tp
  replace f_m_dead := (hs.o gm trivial rfl).2.trans f_m_dead
  replace f_m_isj := (hs.o gm trivial rfl).2.trans f_m_isj
  replace f_m_dox := (hs.o gm trivial rfl).2.trans f_m_dox
  replace f_m_doy := (hs.o gm trivial rfl).2.trans f_m_doy
  replace f_qlt := (hs.o g_qw trivial rfl).2.trans f_qlt
  replace f_qlf := (hs.o g_qw trivial rfl).2.trans f_qlf
  replace f_m_wkd := (hs.o gm trivial rfl).2.trans f_m_wkd
  replace f_m_aga := (hs.o gm trivial rfl).2.trans f_m_aga
  replace f_qwo := (hs.o gx trivial rfl).2.trans f_qwo
  replace f_m_ad := (hs.o gm trivial rfl).2.trans f_m_ad
  replace f_m_by := (hs.o gm trivial rfl).2.trans f_m_by
  replace f_m_ho := (hs.o gm trivial rfl).2.trans f_m_ho
  replace f_m_fc := (hs.o gm trivial rfl).2.trans f_m_fc
  replace f_m_nt := (hs.o gm trivial rfl).2.trans f_m_nt
  replace f_m_wt := (hs.o gm trivial rfl).2.trans f_m_wt
  replace f_m_be := (hs.o gm trivial rfl).2.trans f_m_be
  replace f_m_bor := (hs.o gm trivial rfl).2.trans f_m_bor
  replace f_m_kin := (hs.o gm trivial rfl).2.trans f_m_kin
  replace f_m_sum := (hs.o gm trivial rfl).2.trans f_m_sum
  replace f_m_fro := (hs.o gm trivial rfl).2.trans f_m_fro
  replace f_m_fil := (hs.o gm trivial rfl).2.trans f_m_fil
  replace f_m_jud := (hs.o gm trivial rfl).2.trans f_m_jud
  replace f_m_ear := (hs.o gm trivial rfl).2.trans f_m_ear
  replace f_m_hds := (hs.o gm trivial rfl).2.trans f_m_hds
  replace f_m_ord := (hs.o gm trivial rfl).2.trans f_m_ord
  replace f_m_wkl := (hs.o gm trivial rfl).2.trans f_m_wkl
  replace f_m_owd := (hs.o gm trivial rfl).2.trans f_m_owd
  replace f_m_gds := (hs.o gm trivial rfl).2.trans f_m_gds
  replace f_m_szd := (hs.o gm trivial rfl).2.trans f_m_szd
  replace f_m_srv := (hs.o gm trivial rfl).2.trans f_m_srv
  replace f_y_p0 := (hs.o g_qo_py trivial rfl).2.trans f_y_p0
  replace f_m_p0 := (hs.o gm trivial rfl).2.trans f_m_p0
  replace f_y_p1 := (hs.o g_qo_py trivial rfl).2.trans f_y_p1
  replace f_m_p1 := (hs.o gm trivial rfl).2.trans f_m_p1
  replace f_y_p2 := (hs.o g_qo_py trivial rfl).2.trans f_y_p2
  replace f_m_p2 := (hs.o gm trivial rfl).2.trans f_m_p2
  replace f_y_p3 := (hs.o g_qo_py trivial rfl).2.trans f_y_p3
  replace f_m_p3 := (hs.o gm trivial rfl).2.trans f_m_p3
  replace f_y_p4 := (hs.o g_qo_py trivial rfl).2.trans f_y_p4
  replace f_m_p4 := (hs.o gm trivial rfl).2.trans f_m_p4
  replace f_qrg9 := (hs.o gx trivial rfl).2.trans f_qrg9
  replace f_y_ls := (hs.o g_qrg9 trivial rfl).2.trans f_y_ls
  replace f_m_rl := (hs.o gm trivial rfl).2.trans f_m_rl
  replace ffv_917 := (hs.o g_qrg9 trivial rfl).1.trans ffv_917
  replace ffv_918 := (hs.o gm trivial rfl).1.trans ffv_918
  replace ffv_919 := (hs.o gm trivial rfl).1.trans ffv_919
  replace pf_qa : ∀ j : Nat, (j : Int) < (h_931.2.1 ax 6).toInt → h_931.2.2 qa j ≠ none := by
    intro j hj; rw [(hs.o gx trivial rfl).1] at hj; rw [(hs.a g_qa rfl j).2]; exact pf_qa j hj
  replace pf_qp : ∀ j : Nat, (j : Int) < (h_931.2.1 ax 8).toInt → h_931.2.2 qp j ≠ none := by
    intro j hj; rw [(hs.o gx trivial rfl).1] at hj; rw [(hs.a g_qp rfl j).2]; exact pf_qp j hj
  replace pf_qc : ∀ j : Nat, (j : Int) < (h_931.2.1 ax 11).toInt → h_931.2.2 qc j ≠ none := by
    intro j hj; rw [(hs.o gx trivial rfl).1] at hj; rw [(hs.a g_qc rfl j).2]; exact pf_qc j hj
  replace pf_qh : ∀ j : Nat, (j : Int) < (h_931.2.1 ax 13).toInt → h_931.2.2 qh j ≠ none := by
    intro j hj; rw [(hs.o gx trivial rfl).1] at hj; rw [(hs.a g_qh rfl j).2]; exact pf_qh j hj
  replace pf_ql : ∀ j : Nat, (j : Int) < (h_931.2.1 qw 0).toInt → h_931.2.2 ql j ≠ none := by
    intro j hj; rw [(hs.o g_qw trivial rfl).1] at hj; rw [(hs.a g_ql rfl j).2]; exact pf_ql j hj
  replace cl_lst : hx_col 8 h_931 ql 0 = c_lst := (hx_col_S hs hTo g_ql tt_40 tt_2 rfl rfl).trans cl_lst
  replace cl_dead : hx_col 40 h_931 qp 7 = c_dead := (hx_col_S hs hTo g_qp tt_44 tt_4 rfl rfl).trans cl_dead
  replace cl_isj : hx_col 40 h_931 qp 8 = c_isj := (hx_col_S hs hTo g_qp tt_44 tt_4 rfl rfl).trans cl_isj
  replace cl_dox : hx_col 40 h_931 qp 5 = c_dox := (hx_col_S hs hTo g_qp tt_44 tt_4 rfl rfl).trans cl_dox
  replace cl_doy : hx_col 40 h_931 qp 6 = c_doy := (hx_col_S hs hTo g_qp tt_44 tt_4 rfl rfl).trans cl_doy
  replace cl_fou : hx_col 100 h_931 qc 10 = c_fou := (hx_col_S hs hTo g_qc tt_45 tt_2 rfl rfl).trans cl_fou
  replace cl_tri : hx_col 100 h_931 qc 9 = c_tri := (hx_col_S hs hTo g_qc tt_45 tt_2 rfl rfl).trans cl_tri
  replace cl_bor : hx_col 40 h_931 qp 1 = F_bor := (hx_col_S hs hTo g_qp tt_44 tt_4 rfl rfl).trans cl_bor
  replace cl_kin : hx_col 40 h_931 qp 2 = F_kin := (hx_col_S hs hTo g_qp tt_44 tt_4 rfl rfl).trans cl_kin
  replace cl_sum : hx_col 100 h_931 qc 6 = F_sum := (hx_col_S hs hTo g_qc tt_45 tt_2 rfl rfl).trans cl_sum
  replace cl_fro : hx_col 100 h_931 qc 7 = F_fro := (hx_col_S hs hTo g_qc tt_45 tt_2 rfl rfl).trans cl_fro
  replace cl_fil : hx_col 100 h_931 qc 8 = F_fil := (hx_col_S hs hTo g_qc tt_45 tt_2 rfl rfl).trans cl_fil
  replace cl_hea : hx_col 100 h_931 qc 11 = F_mh := (hx_col_S hs hTo g_qc tt_45 tt_2 rfl rfl).trans cl_hea
  replace cl_jud : hx_col 100 h_931 qc 12 = F_jud := (hx_col_S hs hTo g_qc tt_45 tt_2 rfl rfl).trans cl_jud
  replace cl_ear : hx_col 40 h_931 qp 3 = F_ear := (hx_col_S hs hTo g_qp tt_44 tt_4 rfl rfl).trans cl_ear
  replace cl_hds : hx_col 40 h_931 qp 4 = F_hds := (hx_col_S hs hTo g_qp tt_44 tt_4 rfl rfl).trans cl_hds
  replace cl_ord : hx_col 100 h_931 qc 13 = F_ord := (hx_col_S hs hTo g_qc tt_45 tt_2 rfl rfl).trans cl_ord
  replace cl_wkl : hx_col 100 h_931 qc 14 = F_wkl := (hx_col_S hs hTo g_qc tt_45 tt_2 rfl rfl).trans cl_wkl
  replace cl_owd : hx_col 100 h_931 qc 15 = F_owd := (hx_col_S hs hTo g_qc tt_45 tt_2 rfl rfl).trans cl_owd
  replace cl_gds : hx_col 100 h_931 qc 17 = F_gds := (hx_col_S hs hTo g_qc tt_45 tt_2 rfl rfl).trans cl_gds
  replace cl_szd : hx_col 100 h_931 qc 16 = F_szd := (hx_col_S hs hTo g_qc tt_45 tt_2 rfl rfl).trans cl_szd
  replace cl_srv : hx_col 100 h_931 qc 18 = F_srv := (hx_col_S hs hTo g_qc tt_45 tt_2 rfl rfl).trans cl_srv
  replace nu_qp : hx_num 40 h_931 qp 0 (np.toInt) := hx_num_S hs hTo g_qp tt_44 tt_4 rfl rfl nu_qp
  replace nu_qc : hx_num 100 h_931 qc 0 (c0.toInt) := hx_num_S hs hTo g_qc tt_45 tt_2 rfl rfl nu_qc
  replace sb_list : hx_LQ 8 100 h_931 ql qc := hx_LQ_S hs g_ql g_qc rfl rfl sb_list
  replace hDF : hw_DF h_931 qc qp 2 F_aga c0.toInt := hw_DF_S hs hTo g_qc g_qp tt_45 tt_2 rfl rfl rfl hDF
  replace hRA9 : hv_RA h_931 qa qwo a0.toInt A9 := hv_RA_S hs hTo g_qa g_qwo tt_43 tt_0 rfl rfl rfl rfl rfl rfl ?o29 hRA9
  case o29 => omega
  replace hDP : hw_DF h_931 qc qp 1 F_by c0.toInt := hw_DF_S hs hTo g_qc g_qp tt_45 tt_2 rfl rfl rfl hDP
  replace hAC9 : hv_AC h_931 qc F_ml c0.toInt A9 := hv_AC_S hs hTo g_qc tt_45 tt_2 rfl tt_0 rfl rfl rfl rfl rfl rfl rfl hAC9
  replace hFX : hv_FX 8 4 h_931 qc cF9L c0.toInt := hv_FX_S hs hTo g_qc tt_45 tt_2 rfl rfl rfl rfl hFX
  replace hBX : hv_FX 3 5 h_931 qc F_be c0.toInt := hv_FX_S hs hTo g_qc tt_45 tt_2 rfl rfl rfl rfl hBX
  replace hHL : hv_HL h_931 qh qc F_ho m0.toInt c0.toInt := hv_HL_S hs g_qh g_qc rfl rfl hHL
  replace n_mw : h_931.2.1 mw = F_mw := (funext fun j => (hs.a g_mw rfl j).1).trans n_mw
  replace n_mr : h_931.2.1 mr = F_mr := (funext fun j => (hs.a g_mr rfl j).1).trans n_mr
  replace n_mp : h_931.2.1 mp = F_mp := (funext fun j => (hs.a g_mp rfl j).1).trans n_mp
  replace n_mn : h_931.2.1 mn = F_mn := (funext fun j => (hs.a g_mn rfl j).1).trans n_mn
  replace n_ml : h_931.2.1 ml = F_ml := (funext fun j => (hs.a g_ml rfl j).1).trans n_ml
  replace n_mh : h_931.2.1 mh = F_mh := (funext fun j => (hs.a g_mh rfl j).1).trans n_mh
  replace n_mt : h_931.2.1 mt = F_mt := (funext fun j => (hs.a g_mt rfl j).1).trans n_mt
  replace n_m_fou : h_931.2.1 m_fou = F_m_fou := (funext fun j => (hs.a g_m_fou rfl j).1).trans n_m_fou
  replace n_b_of : h_931.2.1 b_of = B_of := (funext fun j => (hs.a g_b_of rfl j).1).trans n_b_of
  replace n_m_of : h_931.2.1 m_of = F_of := (funext fun j => (hs.a g_m_of rfl j).1).trans n_m_of
  replace n_b_wf : h_931.2.1 b_wf = B_wf := (funext fun j => (hs.a g_b_wf rfl j).1).trans n_b_wf
  replace n_m_wf : h_931.2.1 m_wf = F_wf := (funext fun j => (hs.a g_m_wf rfl j).1).trans n_m_wf
  replace n_b_df : h_931.2.1 b_df = B_df := (funext fun j => (hs.a g_b_df rfl j).1).trans n_b_df
  replace n_m_df : h_931.2.1 m_df = F_df := (funext fun j => (hs.a g_m_df rfl j).1).trans n_m_df
  replace n_b_kf : h_931.2.1 b_kf = B_kf := (funext fun j => (hs.a g_b_kf rfl j).1).trans n_b_kf
  replace n_m_kf : h_931.2.1 m_kf = F_kf := (funext fun j => (hs.a g_m_kf rfl j).1).trans n_m_kf
  replace n_b_sf : h_931.2.1 b_sf = B_sf := (funext fun j => (hs.a g_b_sf rfl j).1).trans n_b_sf
  replace n_m_sf : h_931.2.1 m_sf = F_sf := (funext fun j => (hs.a g_m_sf rfl j).1).trans n_m_sf
  replace n_b_bf : h_931.2.1 b_bf = bfL := (funext fun j => (hs.a g_b_bf rfl j).1).trans n_b_bf
  replace n_lst : h_931.2.1 m_lst = F_lst := (funext fun j => (hs.a g_m_lst rfl j).1).trans n_lst
  replace n_tp : h_931.2.1 m_tp = F_tp := (funext fun j => (hs.a g_m_tp rfl j).1).trans n_tp
  replace n_qtp : h_931.2.1 qtp = F_tp := (funext fun j => (hs.a g_qtp rfl j).1).trans n_qtp
  replace n_dead : h_931.2.1 m_dead = F_dead := (funext fun j => (hs.a g_m_dead rfl j).1).trans n_dead
  replace n_isj : h_931.2.1 m_isj = F_isj := (funext fun j => (hs.a g_m_isj rfl j).1).trans n_isj
  replace n_dox : h_931.2.1 m_dox = F_dox := (funext fun j => (hs.a g_m_dox rfl j).1).trans n_dox
  replace n_doy : h_931.2.1 m_doy = F_doy := (funext fun j => (hs.a g_m_doy rfl j).1).trans n_doy
  replace n_qlt : h_931.2.1 qlt = F_qlt := (funext fun j => (hs.a g_qlt rfl j).1).trans n_qlt
  replace n_m_wkd : h_931.2.1 m_wkd = F_m_wkd := (funext fun j => (hs.a g_m_wkd rfl j).1).trans n_m_wkd
  replace n_aga : h_931.2.1 m_aga = F_aga := (funext fun j => (hs.a g_m_aga rfl j).1).trans n_aga
  replace n_ad : h_931.2.1 m_ad = F_ad := (funext fun j => (hs.a g_m_ad rfl j).1).trans n_ad
  replace n_by : h_931.2.1 m_by = F_by := (funext fun j => (hs.a g_m_by rfl j).1).trans n_by
  replace n_ho : h_931.2.1 m_ho = F_ho := (funext fun j => (hs.a g_m_ho rfl j).1).trans n_ho
  replace n_fc : h_931.2.1 m_fc = F_fc := (funext fun j => (hs.a g_m_fc rfl j).1).trans n_fc
  replace n_nt : h_931.2.1 m_nt = F_nt := (funext fun j => (hs.a g_m_nt rfl j).1).trans n_nt
  replace n_wt : h_931.2.1 m_wt = F_wt := (funext fun j => (hs.a g_m_wt rfl j).1).trans n_wt
  replace n_be : h_931.2.1 m_be = F_be := (funext fun j => (hs.a g_m_be rfl j).1).trans n_be
  replace n_bor : h_931.2.1 m_bor = F_bor := (funext fun j => (hs.a g_m_bor rfl j).1).trans n_bor
  replace n_kin : h_931.2.1 m_kin = F_kin := (funext fun j => (hs.a g_m_kin rfl j).1).trans n_kin
  replace n_sum : h_931.2.1 m_sum = F_sum := (funext fun j => (hs.a g_m_sum rfl j).1).trans n_sum
  replace n_fro : h_931.2.1 m_fro = F_fro := (funext fun j => (hs.a g_m_fro rfl j).1).trans n_fro
  replace n_fil : h_931.2.1 m_fil = F_fil := (funext fun j => (hs.a g_m_fil rfl j).1).trans n_fil
  replace n_jud : h_931.2.1 m_jud = F_jud := (funext fun j => (hs.a g_m_jud rfl j).1).trans n_jud
  replace n_ear : h_931.2.1 m_ear = F_ear := (funext fun j => (hs.a g_m_ear rfl j).1).trans n_ear
  replace n_hds : h_931.2.1 m_hds = F_hds := (funext fun j => (hs.a g_m_hds rfl j).1).trans n_hds
  replace n_ord : h_931.2.1 m_ord = F_ord := (funext fun j => (hs.a g_m_ord rfl j).1).trans n_ord
  replace n_wkl : h_931.2.1 m_wkl = F_wkl := (funext fun j => (hs.a g_m_wkl rfl j).1).trans n_wkl
  replace n_owd : h_931.2.1 m_owd = F_owd := (funext fun j => (hs.a g_m_owd rfl j).1).trans n_owd
  replace n_gds : h_931.2.1 m_gds = F_gds := (funext fun j => (hs.a g_m_gds rfl j).1).trans n_gds
  replace n_szd : h_931.2.1 m_szd = F_szd := (funext fun j => (hs.a g_m_szd rfl j).1).trans n_szd
  replace n_srv : h_931.2.1 m_srv = F_srv := (funext fun j => (hs.a g_m_srv rfl j).1).trans n_srv
  replace n_p0 : h_931.2.1 m_p0 = F_p0 := (funext fun j => (hs.a g_m_p0 rfl j).1).trans n_p0
  replace n_y_p0 : h_931.2.1 y_p0 = F_p0 := (funext fun j => (hs.a g_y_p0 rfl j).1).trans n_y_p0
  replace n_p1 : h_931.2.1 m_p1 = F_p1 := (funext fun j => (hs.a g_m_p1 rfl j).1).trans n_p1
  replace n_y_p1 : h_931.2.1 y_p1 = F_p1 := (funext fun j => (hs.a g_y_p1 rfl j).1).trans n_y_p1
  replace n_p2 : h_931.2.1 m_p2 = F_p2 := (funext fun j => (hs.a g_m_p2 rfl j).1).trans n_p2
  replace n_y_p2 : h_931.2.1 y_p2 = F_p2 := (funext fun j => (hs.a g_y_p2 rfl j).1).trans n_y_p2
  replace n_p3 : h_931.2.1 m_p3 = F_p3 := (funext fun j => (hs.a g_m_p3 rfl j).1).trans n_p3
  replace n_y_p3 : h_931.2.1 y_p3 = F_p3 := (funext fun j => (hs.a g_y_p3 rfl j).1).trans n_y_p3
  replace n_p4 : h_931.2.1 m_p4 = F_p4 := (funext fun j => (hs.a g_m_p4 rfl j).1).trans n_p4
  replace n_y_p4 : h_931.2.1 y_p4 = F_p4 := (funext fun j => (hs.a g_y_p4 rfl j).1).trans n_y_p4
  replace n_y_ls : h_931.2.1 y_ls = F_y_ls := (funext fun j => (hs.a g_y_ls rfl j).1).trans n_y_ls
  replace n_m_rl : h_931.2.1 m_rl = F_m_rl := (funext fun j => (hs.a g_m_rl rfl j).1).trans n_m_rl
  replace gx := gx.S hs
  replace gm := gm.S hs
  replace g_qa := g_qa.S hs
  replace g_qp := g_qp.S hs
  replace g_qc := g_qc.S hs
  replace g_qh := g_qh.S hs
  replace g_qw := g_qw.S hs
  replace g_ql := g_ql.S hs
  replace g_mw := g_mw.S hs
  replace g_mr := g_mr.S hs
  replace g_mp := g_mp.S hs
  replace g_mn := g_mn.S hs
  replace g_ml := g_ml.S hs
  replace g_mh := g_mh.S hs
  replace g_mt := g_mt.S hs
  replace g_m_fou := g_m_fou.S hs
  replace g_qo_ln := g_qo_ln.S hs
  replace g_qo_py := g_qo_py.S hs
  replace g_b_of := g_b_of.S hs
  replace g_m_of := g_m_of.S hs
  replace g_b_wf := g_b_wf.S hs
  replace g_m_wf := g_m_wf.S hs
  replace g_b_df := g_b_df.S hs
  replace g_m_df := g_m_df.S hs
  replace g_b_kf := g_b_kf.S hs
  replace g_m_kf := g_m_kf.S hs
  replace g_b_sf := g_b_sf.S hs
  replace g_m_sf := g_m_sf.S hs
  replace g_b_bf := g_b_bf.S hs
  replace g_m_lst := g_m_lst.S hs
  replace g_qtp := g_qtp.S hs
  replace g_m_tp := g_m_tp.S hs
  replace g_m_dead := g_m_dead.S hs
  replace g_m_isj := g_m_isj.S hs
  replace g_m_dox := g_m_dox.S hs
  replace g_m_doy := g_m_doy.S hs
  replace g_qlt := g_qlt.S hs
  replace g_qlf := g_qlf.S hs
  replace g_m_wkd := g_m_wkd.S hs
  replace g_m_aga := g_m_aga.S hs
  replace g_qwo := g_qwo.S hs
  replace g_m_ad := g_m_ad.S hs
  replace g_m_by := g_m_by.S hs
  replace g_m_ho := g_m_ho.S hs
  replace g_m_fc := g_m_fc.S hs
  replace g_m_nt := g_m_nt.S hs
  replace g_m_wt := g_m_wt.S hs
  replace g_m_be := g_m_be.S hs
  replace g_m_bor := g_m_bor.S hs
  replace g_m_kin := g_m_kin.S hs
  replace g_m_sum := g_m_sum.S hs
  replace g_m_fro := g_m_fro.S hs
  replace g_m_fil := g_m_fil.S hs
  replace g_m_jud := g_m_jud.S hs
  replace g_m_ear := g_m_ear.S hs
  replace g_m_hds := g_m_hds.S hs
  replace g_m_ord := g_m_ord.S hs
  replace g_m_wkl := g_m_wkl.S hs
  replace g_m_owd := g_m_owd.S hs
  replace g_m_gds := g_m_gds.S hs
  replace g_m_szd := g_m_szd.S hs
  replace g_m_srv := g_m_srv.S hs
  replace g_y_p0 := g_y_p0.S hs
  replace g_m_p0 := g_m_p0.S hs
  replace g_y_p1 := g_y_p1.S hs
  replace g_m_p1 := g_m_p1.S hs
  replace g_y_p2 := g_y_p2.S hs
  replace g_m_p2 := g_m_p2.S hs
  replace g_y_p3 := g_y_p3.S hs
  replace g_m_p3 := g_m_p3.S hs
  replace g_y_p4 := g_y_p4.S hs
  replace g_m_p4 := g_m_p4.S hs
  replace g_qrg9 := g_qrg9.S hs
  replace g_y_ls := g_y_ls.S hs
  replace g_m_rl := g_m_rl.S hs
  have heq := hz_CT_eq hr_927 hr_934 (fun k hk => by rw [hz_lj_e eq_isj eq_dead _ (by omega)])
  have heq : r_925.toInt = r_932.toInt := heq
  refine hb_icmp_eq (zx := r_925.toInt) (zy := r_932.toInt) (tgt := 1379) hx hb rfl rfl dL_law_1374 ?o30 (fun c_935 => ?_) (fun c_935 => absurd heq c_935)
  case o30 => decide
  refine W.widen (k := CC + 3) (n := SS + 179) ?o31 ?o32 ?_
  case o31 => omega
  case o32 => omega
  refine kk L_930 h_931 H locs ls hW ⟨hT, gx, gm, ⟨f_x_now.trans f_m_now.symm, f_x_personCount.trans f_m_persons.symm, f_x_claimCount.trans f_m_claims.symm, f_x_tapeLength.trans f_m_taped.symm, f_x_actCount.trans f_m_acts.symm, f_x_heardCount.trans f_m_heardMany.symm, hx_ob f_qo_ln (f_o_ln.trans f_m_lines.symm), hx_ob f_qw (f_o_lsd.trans f_m_listed.symm), hx_ob f_qw (f_o_wkm.trans f_m_walkedMany.symm), hx_ob f_qo_py (f_o_py.trans f_m_payments.symm), hx_ob f_qp ?o33, hx_ob f_qc ?o34, (fun b a r hb ha hr => ?o35), (fun b a r hb ha hr => ?o36), (fun b a r hb ha hr => ?o37), (fun b a r hb ha hr => ?o38), (fun b a r hb ha hr => ?o39), (fun b a r hb ha hr => ?o40), (fun w q c hw hq hc => ?o41), (fun w q r hw hq hr => ?o42), (fun w q r hw hq hr => ?o43), (fun c q a hc hq ha => ?o44), (fun q r hq hr => ?o45), (fun q w a b c d e p hq hw ha hb hc hd he hp => ?o46), (fun c q a hc hq ha => ?o47), (fun q c a hq hc ha => ?o48), (fun a b ha hb => ?o49), (fun c a b d e f hc ha hb hd he hf => ?o50), (fun c a hc ha => ?o51), hx_ob2 f_qp f_m_bor (cl_bor.trans n_bor.symm), hx_ob2 f_qp f_m_kin (cl_kin.trans n_kin.symm), hx_ob2 f_qc f_m_sum (cl_sum.trans n_sum.symm), hx_ob2 f_qc f_m_fro (cl_fro.trans n_fro.symm), hx_ob2 f_qc f_m_fil (cl_fil.trans n_fil.symm), hx_ob2 f_qc f_mh (cl_hea.trans n_mh.symm), hx_ob2 f_qc f_m_jud (cl_jud.trans n_jud.symm), hx_ob2 f_qp f_m_ear (cl_ear.trans n_ear.symm), hx_ob2 f_qp f_m_hds (cl_hds.trans n_hds.symm), hx_ob2 f_qc f_m_ord (cl_ord.trans n_ord.symm), hx_ob2 f_qc f_m_wkl (cl_wkl.trans n_wkl.symm), hx_ob2 f_qc f_m_owd (cl_owd.trans n_owd.symm), hx_ob2 f_qc f_m_gds (cl_gds.trans n_gds.symm), hx_ob2 f_qc f_m_szd (cl_szd.trans n_szd.symm), hx_ob2 f_qc f_m_srv (cl_srv.trans n_srv.symm), (fun p q r hp hq hr => ?o52), (fun p q r hp hq hr => ?o53), (fun p q r hp hq hr => ?o54), (fun p q r hp hq hr => ?o55), (fun p q r hp hq hr => ?o56), (fun p hp => ?o57), (fun p q r hp hq hr => ?o58), hx_ob2 f_qp f_m_dead ?o59, hx_ob2 f_qp f_m_isj ?o60, hx_ob2 f_qp f_m_dox ?o61, hx_ob2 f_qp f_m_doy ?o62, hx_ob2 f_qc f_m_fou ?o63, hx_ob2 f_qc f_mt ?o64, trivial⟩, ⟨hx_ob f_qa pf_qa, hx_ob f_qp pf_qp, hx_ob f_qc pf_qc, hx_ob f_qh pf_qh, (fun w q hw hq => ?o65)⟩, ⟨hx_ob f_mw ?o66, hx_ob f_mr ?o67, hx_ob2 f_mp f_mn ?o68, hx_ob f_ml ?o69, hx_ob f_mh ?o70, hx_ob f_mt ?o71, hx_ob2 f_mh f_m_fou ?o73⟩⟩ hl
  case o33 =>
    rw [f_x_personCount]
    exact nu_qp
  case o34 =>
    rw [f_x_claimCount]
    exact nu_qc
  case o35 =>
    obtain rfl : qo_ln = b := Option.some.inj (f_qo_ln.symm.trans hb)
    obtain rfl : b_of = a := Option.some.inj (f_b_of.symm.trans ha)
    obtain rfl : m_of = r := Option.some.inj (f_m_of.symm.trans hr)
    rw [n_b_of, n_m_of, f_o_ln]
    exact eb_of
  case o36 =>
    obtain rfl : qo_ln = b := Option.some.inj (f_qo_ln.symm.trans hb)
    obtain rfl : b_wf = a := Option.some.inj (f_b_wf.symm.trans ha)
    obtain rfl : m_wf = r := Option.some.inj (f_m_wf.symm.trans hr)
    rw [n_b_wf, n_m_wf, f_o_ln]
    exact eb_wf
  case o37 =>
    obtain rfl : qo_ln = b := Option.some.inj (f_qo_ln.symm.trans hb)
    obtain rfl : b_df = a := Option.some.inj (f_b_df.symm.trans ha)
    obtain rfl : m_df = r := Option.some.inj (f_m_df.symm.trans hr)
    rw [n_b_df, n_m_df, f_o_ln]
    exact eb_df
  case o38 =>
    obtain rfl : qo_ln = b := Option.some.inj (f_qo_ln.symm.trans hb)
    obtain rfl : b_kf = a := Option.some.inj (f_b_kf.symm.trans ha)
    obtain rfl : m_kf = r := Option.some.inj (f_m_kf.symm.trans hr)
    rw [n_b_kf, n_m_kf, f_o_ln]
    exact eb_kf
  case o39 =>
    obtain rfl : qo_ln = b := Option.some.inj (f_qo_ln.symm.trans hb)
    obtain rfl : b_sf = a := Option.some.inj (f_b_sf.symm.trans ha)
    obtain rfl : m_sf = r := Option.some.inj (f_m_sf.symm.trans hr)
    rw [n_b_sf, n_m_sf, f_o_ln]
    exact eb_sf
  case o40 =>
    obtain rfl : qo_ln = b := Option.some.inj (f_qo_ln.symm.trans hb)
    obtain rfl : b_df = a := Option.some.inj (f_b_df.symm.trans ha)
    obtain rfl : b_bf = r := Option.some.inj (f_b_bf.symm.trans hr)
    rw [n_b_df, n_b_bf, f_o_ln]
    exact ⟨hBD, hDY⟩
  case o41 =>
    obtain rfl : qw = w := Option.some.inj (f_qw.symm.trans hw)
    obtain rfl : ql = q := Option.some.inj (f_ql.symm.trans hq)
    obtain rfl : qc = c := Option.some.inj (f_qc.symm.trans hc)
    exact sb_list
  case o42 =>
    obtain rfl : qw = w := Option.some.inj (f_qw.symm.trans hw)
    obtain rfl : ql = q := Option.some.inj (f_ql.symm.trans hq)
    obtain rfl : m_lst = r := Option.some.inj (f_m_lst.symm.trans hr)
    rw [cl_lst, n_lst]
    exact eq_lst
  case o43 =>
    obtain rfl : qw = w := Option.some.inj (f_qw.symm.trans hw)
    obtain rfl : qlt = q := Option.some.inj (f_qlt.symm.trans hq)
    obtain rfl : m_wkd = r := Option.some.inj (f_m_wkd.symm.trans hr)
    rw [n_qlt, n_m_wkd, f_o_wkm]
    exact eb_wkd
  case o44 =>
    obtain rfl : qc = c := Option.some.inj (f_qc.symm.trans hc)
    obtain rfl : qp = q := Option.some.inj (f_qp.symm.trans hq)
    obtain rfl : m_aga = a := Option.some.inj (f_m_aga.symm.trans ha)
    rw [n_aga, f_x_claimCount]
    exact hw_DF_e hDF rfl rfl
  case o45 =>
    obtain rfl : qtp = q := Option.some.inj (f_qtp.symm.trans hq)
    obtain rfl : m_tp = r := Option.some.inj (f_m_tp.symm.trans hr)
    exact n_qtp.trans n_tp.symm
  case o46 =>
    obtain rfl : qa = q := Option.some.inj (f_qa.symm.trans hq)
    obtain rfl : qwo = w := Option.some.inj (f_qwo.symm.trans hw)
    obtain rfl : m_ad = a := Option.some.inj (f_m_ad.symm.trans ha)
    obtain rfl : mr = b := Option.some.inj (f_mr.symm.trans hb)
    obtain rfl : mn = c := Option.some.inj (f_mn.symm.trans hc)
    obtain rfl : mp = d := Option.some.inj (f_mp.symm.trans hd)
    obtain rfl : qc = e := Option.some.inj (f_qc.symm.trans he)
    obtain rfl : ml = p := Option.some.inj (f_ml.symm.trans hp)
    exact ⟨_, by rw [f_x_actCount]; exact hRA9, by rw [f_x_actCount, n_ad, n_mr, n_mn, n_mp]; exact hCA9, by rw [n_ml, f_x_claimCount]; exact hv_AC_e hAC9 rfl rfl rfl, hAB⟩
  case o47 =>
    obtain rfl : qc = c := Option.some.inj (f_qc.symm.trans hc)
    obtain rfl : qp = q := Option.some.inj (f_qp.symm.trans hq)
    obtain rfl : m_by = a := Option.some.inj (f_m_by.symm.trans ha)
    rw [n_by, f_x_claimCount]
    exact hw_DF_e hDP rfl rfl
  case o48 =>
    obtain rfl : qh = q := Option.some.inj (f_qh.symm.trans hq)
    obtain rfl : qc = c := Option.some.inj (f_qc.symm.trans hc)
    obtain rfl : m_ho = a := Option.some.inj (f_m_ho.symm.trans ha)
    rw [n_ho, f_x_heardCount, f_x_claimCount]
    exact hv_HL_e hHL rfl rfl rfl
  case o49 =>
    obtain rfl : m_ho = a := Option.some.inj (f_m_ho.symm.trans ha)
    obtain rfl : mh = b := Option.some.inj (f_mh.symm.trans hb)
    rw [n_ho, n_mh, f_m_heardMany, f_m_claims]
    exact hHO9
  case o50 =>
    obtain rfl : qc = c := Option.some.inj (f_qc.symm.trans hc)
    obtain rfl : m_fc = a := Option.some.inj (f_m_fc.symm.trans ha)
    obtain rfl : m_nt = b := Option.some.inj (f_m_nt.symm.trans hb)
    obtain rfl : m_wt = d := Option.some.inj (f_m_wt.symm.trans hd)
    obtain rfl : m_sum = e := Option.some.inj (f_m_sum.symm.trans he)
    obtain rfl : mh = f := Option.some.inj (f_mh.symm.trans hf)
    exact ⟨cF9L, by rw [f_x_claimCount]; exact hFX, by rw [n_fc, n_nt, n_wt, n_sum, n_mh, f_x_claimCount]; exact hFR9⟩
  case o51 =>
    obtain rfl : qc = c := Option.some.inj (f_qc.symm.trans hc)
    obtain rfl : m_be = a := Option.some.inj (f_m_be.symm.trans ha)
    rw [n_be, f_x_claimCount]
    exact hv_FX_e hBX rfl rfl
  case o52 =>
    obtain rfl : qo_py = p := Option.some.inj (f_qo_py.symm.trans hp)
    obtain rfl : y_p0 = q := Option.some.inj (f_y_p0.symm.trans hq)
    obtain rfl : m_p0 = r := Option.some.inj (f_m_p0.symm.trans hr)
    exact n_y_p0.trans n_p0.symm
  case o53 =>
    obtain rfl : qo_py = p := Option.some.inj (f_qo_py.symm.trans hp)
    obtain rfl : y_p1 = q := Option.some.inj (f_y_p1.symm.trans hq)
    obtain rfl : m_p1 = r := Option.some.inj (f_m_p1.symm.trans hr)
    exact n_y_p1.trans n_p1.symm
  case o54 =>
    obtain rfl : qo_py = p := Option.some.inj (f_qo_py.symm.trans hp)
    obtain rfl : y_p2 = q := Option.some.inj (f_y_p2.symm.trans hq)
    obtain rfl : m_p2 = r := Option.some.inj (f_m_p2.symm.trans hr)
    exact n_y_p2.trans n_p2.symm
  case o55 =>
    obtain rfl : qo_py = p := Option.some.inj (f_qo_py.symm.trans hp)
    obtain rfl : y_p3 = q := Option.some.inj (f_y_p3.symm.trans hq)
    obtain rfl : m_p3 = r := Option.some.inj (f_m_p3.symm.trans hr)
    exact n_y_p3.trans n_p3.symm
  case o56 =>
    obtain rfl : qo_py = p := Option.some.inj (f_qo_py.symm.trans hp)
    obtain rfl : y_p4 = q := Option.some.inj (f_y_p4.symm.trans hq)
    obtain rfl : m_p4 = r := Option.some.inj (f_m_p4.symm.trans hr)
    exact n_y_p4.trans n_p4.symm
  case o57 =>
    obtain rfl : qrg9 = p := Option.some.inj (f_qrg9.symm.trans hp)
    rw [ffv_917, ffv_918, ffv_919]
    exact hNQ9
  case o58 =>
    obtain rfl : qrg9 = p := Option.some.inj (f_qrg9.symm.trans hp)
    obtain rfl : y_ls = q := Option.some.inj (f_y_ls.symm.trans hq)
    obtain rfl : m_rl = r := Option.some.inj (f_m_rl.symm.trans hr)
    rw [n_y_ls, n_m_rl, ffv_917]
    exact hRL9
  case o59 =>
    rw [cl_dead, n_dead]
    exact eq_dead
  case o60 =>
    rw [cl_isj, n_isj]
    exact eq_isj
  case o61 =>
    rw [cl_dox, n_dox]
    exact eq_dox
  case o62 =>
    rw [cl_doy, n_doy]
    exact eq_doy
  case o63 =>
    rw [cl_fou, n_m_fou]
    exact eq_fou
  case o64 =>
    rw [cl_tri, n_mt]
    exact eq_tri
  case o65 =>
    obtain rfl : qw = w := Option.some.inj (f_qw.symm.trans hw)
    obtain rfl : ql = q := Option.some.inj (f_ql.symm.trans hq)
    exact pf_ql
  case o66 =>
    rw [n_mw]
    exact hwd
  case o67 =>
    rw [n_mr, f_m_acts]
    exact hWK
  case o68 =>
    rw [n_mp, n_mn, f_m_acts]
    exact hRP
  case o69 =>
    rw [n_ml, f_m_claims, f_m_acts]
    exact hPL
  case o70 =>
    rw [n_mh, f_m_heardMany, f_m_claims]
    exact hHC
  case o71 =>
    rw [n_mt]
    refine (hx_TR_le hTR ?o72)
    case o72 => omega
  case o73 =>
    rw [n_mh, n_m_fou, f_m_claims]
    exact hHF
