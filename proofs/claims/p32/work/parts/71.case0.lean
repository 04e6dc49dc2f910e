set_option maxHeartbeats 4000000 in
set_option maxRecDepth 100000 in
theorem law_case_0 {p : Program} {e : Env} {s : State} {m : MethodId} {below : List Frame} {meth : Method} {c : Code} (l : Launch) {b LN : Nat} {xs : Nat → Int32} (hx : p.tables.exec = Jvm.exec) (hb : c.code = code) (hr : meth.sig.returnType = ret) (hlocks : meth.locks = false) (hml : c.maxLocals = 4) (hown : s.vm.findClass "SmallCourtLaw" = some m.cls) (hts : ∀ w ∈ hx_all, w.before #[Value.ref b] s = true) (hX : va_X b LN xs s s.heap) (hbl : b < s.heap.size) (hbA : ¬ s.heap.size ≤ b) (hLN : LN ≤ 3584) (dC : Nat → ClassId) (dI : Nat → Nat → Nat) (dA : Nat → ClassId) (b0 : hx_z) (ax am : Nat) (T1 : Int) (hT0 : 0 ≤ T1) (hT1 : T1 ≤ 511) (i : Int32) (hi0 : 0 ≤ i.toInt) (hiL : i.toInt + 7 ≤ LN) (CC SS : Nat) (hCC : CC + 3 ≤ 600000) (hSS : SS + 179 ≤ 7302250) (L1 : List Nat) (hl1 : hx_h) (H : Heap) (locs : List Loc) (ls : Array Slot) (hW : hx_W T_tb (P_ty dA) (dC, dI) vwCl (fun q : Nat => s.heap.size ≤ q) s.heap L1 hl1 s H locs) (hZ : hx_Xt (fun q : Nat => s.heap.size ≤ q) b0 s) (hI : hx_IV T1 ax am L1 hl1) (hl : lv_has ls 4 [(3, .int i), (2, .ref am), (1, .ref ax), (0, .ref b)]) (kk : ∀ (L2 : List Nat) (h2 : hx_h) (H2 : Heap) (locs2 : List Loc) (ls2 : Array Slot), hx_W T_tb (P_ty dA) (dC, dI) vwCl (fun q : Nat => s.heap.size ≤ q) s.heap L2 h2 s H2 locs2 → hx_IV (T1 + 1) ax am L2 h2 → lv_has ls2 4 [(3, .int i), (2, .ref am), (1, .ref ax), (0, .ref b)] → W p l e room_1 s m #[Value.ref b] below meth c H2 locs2 (CC + 3) (SS + 179) (lw_Z below #[Value.ref b] s) (F0 m 1379 ls2 [])) : W p l e room_1 s m #[Value.ref b] below meth c H locs CC SS (lw_Z below #[Value.ref b] s) (F0 m 172 ls []) := by
  have hI9 := hI
  have hT := hI9.1
  replace hI9 := hI9.2
  have gx := hI9.1
  replace hI9 := hI9.2
  have gm := hI9.1
  replace hI9 := hI9.2
  have zq0_3 := hI9.1
  have he_nw := zq0_3.1
  replace zq0_3 := zq0_3.2
  have he_np := zq0_3.1
  replace zq0_3 := zq0_3.2
  have he_c0 := zq0_3.1
  replace zq0_3 := zq0_3.2
  have he_tl := zq0_3.1
  replace zq0_3 := zq0_3.2
  have he_a0 := zq0_3.1
  replace zq0_3 := zq0_3.2
  have he_m0 := zq0_3.1
  replace zq0_3 := zq0_3.2
  have ho_ln := zq0_3.1
  replace zq0_3 := zq0_3.2
  have ho_lsd := zq0_3.1
  replace zq0_3 := zq0_3.2
  have ho_wkm := zq0_3.1
  replace zq0_3 := zq0_3.2
  have ho_py := zq0_3.1
  replace zq0_3 := zq0_3.2
  have hn_qp := zq0_3.1
  replace zq0_3 := zq0_3.2
  have hn_qc := zq0_3.1
  replace zq0_3 := zq0_3.2
  have hk_of := zq0_3.1
  replace zq0_3 := zq0_3.2
  have hk_wf := zq0_3.1
  replace zq0_3 := zq0_3.2
  have hk_df := zq0_3.1
  replace zq0_3 := zq0_3.2
  have hk_kf := zq0_3.1
  replace zq0_3 := zq0_3.2
  have hk_sf := zq0_3.1
  replace zq0_3 := zq0_3.2
  have hkBD := zq0_3.1
  replace zq0_3 := zq0_3.2
  have hLQ := zq0_3.1
  replace zq0_3 := zq0_3.2
  have hLE := zq0_3.1
  replace zq0_3 := zq0_3.2
  have hkWD := zq0_3.1
  replace zq0_3 := zq0_3.2
  have hkDF := zq0_3.1
  replace zq0_3 := zq0_3.2
  have hkTP := zq0_3.1
  replace zq0_3 := zq0_3.2
  have hkAC := zq0_3.1
  replace zq0_3 := zq0_3.2
  have hkDP := zq0_3.1
  replace zq0_3 := zq0_3.2
  have hkHL := zq0_3.1
  replace zq0_3 := zq0_3.2
  have hkHO := zq0_3.1
  replace zq0_3 := zq0_3.2
  have hkFX := zq0_3.1
  replace zq0_3 := zq0_3.2
  have hkBX := zq0_3.1
  replace zq0_3 := zq0_3.2
  have hf_bor := zq0_3.1
  replace zq0_3 := zq0_3.2
  have hf_kin := zq0_3.1
  replace zq0_3 := zq0_3.2
  have hf_sum := zq0_3.1
  replace zq0_3 := zq0_3.2
  have hf_fro := zq0_3.1
  replace zq0_3 := zq0_3.2
  have hf_fil := zq0_3.1
  replace zq0_3 := zq0_3.2
  have hf_hea := zq0_3.1
  replace zq0_3 := zq0_3.2
  have hf_jud := zq0_3.1
  replace zq0_3 := zq0_3.2
  have hf_ear := zq0_3.1
  replace zq0_3 := zq0_3.2
  have hf_hds := zq0_3.1
  replace zq0_3 := zq0_3.2
  have hf_ord := zq0_3.1
  replace zq0_3 := zq0_3.2
  have hf_wkl := zq0_3.1
  replace zq0_3 := zq0_3.2
  have hf_owd := zq0_3.1
  replace zq0_3 := zq0_3.2
  have hf_gds := zq0_3.1
  replace zq0_3 := zq0_3.2
  have hf_szd := zq0_3.1
  replace zq0_3 := zq0_3.2
  have hf_srv := zq0_3.1
  replace zq0_3 := zq0_3.2
  have hkP0 := zq0_3.1
  replace zq0_3 := zq0_3.2
  have hkP1 := zq0_3.1
  replace zq0_3 := zq0_3.2
  have hkP2 := zq0_3.1
  replace zq0_3 := zq0_3.2
  have hkP3 := zq0_3.1
  replace zq0_3 := zq0_3.2
  have hkP4 := zq0_3.1
  replace zq0_3 := zq0_3.2
  have hkNQ := zq0_3.1
  replace zq0_3 := zq0_3.2
  have hkRL := zq0_3.1
  replace zq0_3 := zq0_3.2
  have hc_dead := zq0_3.1
  replace zq0_3 := zq0_3.2
  have hc_isj := zq0_3.1
  replace zq0_3 := zq0_3.2
  have hc_dox := zq0_3.1
  replace zq0_3 := zq0_3.2
  have hc_doy := zq0_3.1
  replace zq0_3 := zq0_3.2
  have hc_fou := zq0_3.1
  replace zq0_3 := zq0_3.2
  have hc_tri := zq0_3.1
  replace zq0_3 := zq0_3.2
  replace hI9 := hI9.2
  have zq0_4 := hI9.1
  have ia := zq0_4.1
  replace zq0_4 := zq0_4.2
  have ip := zq0_4.1
  replace zq0_4 := zq0_4.2
  have ic := zq0_4.1
  replace zq0_4 := zq0_4.2
  have ih := zq0_4.1
  replace zq0_4 := zq0_4.2
  have il := zq0_4
  replace hI9 := hI9.2
  have zq0_5 := hI9
  have jw := zq0_5.1
  replace zq0_5 := zq0_5.2
  have jr := zq0_5.1
  replace zq0_5 := zq0_5.2
  have jp := zq0_5.1
  replace zq0_5 := zq0_5.2
  have jl := zq0_5.1
  replace zq0_5 := zq0_5.2
  have jh := zq0_5.1
  replace zq0_5 := zq0_5.2
  have jt := zq0_5.1
  replace zq0_5 := zq0_5.2
  have jf := zq0_5
  obtain ⟨qa, f_qa, g_qa⟩ := hx_rf hT gx tt_9 (k := 5) (u := 43) rfl
  have pf_qa := ia qa f_qa
  obtain ⟨qp, f_qp, g_qp⟩ := hx_rf hT gx tt_9 (k := 7) (u := 44) rfl
  have pf_qp := ip qp f_qp
  obtain ⟨qc, f_qc, g_qc⟩ := hx_rf hT gx tt_9 (k := 10) (u := 45) rfl
  have pf_qc := ic qc f_qc
  obtain ⟨qh, f_qh, g_qh⟩ := hx_rf hT gx tt_9 (k := 12) (u := 46) rfl
  have pf_qh := ih qh f_qh
  obtain ⟨qw, f_qw, g_qw⟩ := hx_rf hT gx tt_9 (k := 19) (u := 8) rfl
  obtain ⟨ql, f_ql, g_ql⟩ := hx_rf hT g_qw tt_8 (k := 3) (u := 40) rfl
  have pf_ql := il qw ql f_qw f_ql
  obtain ⟨nw, f_m_now⟩ : ∃ y : Int32, hl1.2.1 am 0 = y := ⟨_, rfl⟩
  have b_nw := hT.gi gm tt_10 (k := 0) rfl
  rw [f_m_now] at b_nw
  have b_nw : 0 ≤ nw.toInt ∧ nw.toInt ≤ 7999 := b_nw
  obtain ⟨np, f_m_persons⟩ : ∃ y : Int32, hl1.2.1 am 20 = y := ⟨_, rfl⟩
  have b_np := hT.gi gm tt_10 (k := 20) rfl
  rw [f_m_persons] at b_np
  have b_np : 0 ≤ np.toInt ∧ np.toInt ≤ 40 := b_np
  obtain ⟨c0, f_m_claims⟩ : ∃ y : Int32, hl1.2.1 am 36 = y := ⟨_, rfl⟩
  have b_c0 := hT.gi gm tt_10 (k := 36) rfl
  rw [f_m_claims] at b_c0
  have b_c0 : 0 ≤ c0.toInt ∧ c0.toInt ≤ 100 := b_c0
  obtain ⟨tl, f_m_taped⟩ : ∃ y : Int32, hl1.2.1 am 7 = y := ⟨_, rfl⟩
  have b_tl := hT.gi gm tt_10 (k := 7) rfl
  rw [f_m_taped] at b_tl
  have b_tl : 0 ≤ tl.toInt ∧ tl.toInt ≤ 400 := b_tl
  obtain ⟨a0, f_m_acts⟩ : ∃ y : Int32, hl1.2.1 am 1 = y := ⟨_, rfl⟩
  have b_a0 := hT.gi gm tt_10 (k := 1) rfl
  rw [f_m_acts] at b_a0
  have b_a0 : 0 ≤ a0.toInt ∧ a0.toInt ≤ 8 := b_a0
  obtain ⟨m0, f_m_heardMany⟩ : ∃ y : Int32, hl1.2.1 am 57 = y := ⟨_, rfl⟩
  have b_m0 := hT.gi gm tt_10 (k := 57) rfl
  rw [f_m_heardMany] at b_m0
  have b_m0 : 0 ≤ m0.toInt ∧ m0.toInt ≤ 100 := b_m0
  obtain ⟨ln, f_m_lines⟩ : ∃ y : Int32, hl1.2.1 am 29 = y := ⟨_, rfl⟩
  have b_ln := hT.gi gm tt_10 (k := 29) rfl
  rw [f_m_lines] at b_ln
  have b_ln : 0 ≤ ln.toInt ∧ ln.toInt ≤ 400 := b_ln
  obtain ⟨lsd, f_m_listed⟩ : ∃ y : Int32, hl1.2.1 am 90 = y := ⟨_, rfl⟩
  have b_lsd := hT.gi gm tt_10 (k := 90) rfl
  rw [f_m_listed] at b_lsd
  have b_lsd : 0 ≤ lsd.toInt ∧ lsd.toInt ≤ 8 := b_lsd
  obtain ⟨wkm, f_m_walkedMany⟩ : ∃ y : Int32, hl1.2.1 am 92 = y := ⟨_, rfl⟩
  have b_wkm := hT.gi gm tt_10 (k := 92) rfl
  rw [f_m_walkedMany] at b_wkm
  have b_wkm : 0 ≤ wkm.toInt ∧ wkm.toInt ≤ 8 := b_wkm
  obtain ⟨py, f_m_payments⟩ : ∃ y : Int32, hl1.2.1 am 59 = y := ⟨_, rfl⟩
  have b_py := hT.gi gm tt_10 (k := 59) rfl
  rw [f_m_payments] at b_py
  have b_py : 0 ≤ py.toInt ∧ py.toInt ≤ 600 := b_py
  have f_x_now : hl1.2.1 ax 2 = nw := he_nw.trans f_m_now
  have f_x_personCount : hl1.2.1 ax 8 = np := he_np.trans f_m_persons
  have f_x_claimCount : hl1.2.1 ax 11 = c0 := he_c0.trans f_m_claims
  have f_x_tapeLength : hl1.2.1 ax 1 = tl := he_tl.trans f_m_taped
  have f_x_actCount : hl1.2.1 ax 6 = a0 := he_a0.trans f_m_acts
  have f_x_heardCount : hl1.2.1 ax 13 = m0 := he_m0.trans f_m_heardMany
  obtain ⟨mw, f_mw, g_mw⟩ := hx_rf hT gm tt_10 (k := 19) (u := 57) rfl
  obtain ⟨F_mw, n_mw⟩ : ∃ g : Nat → Int32, hl1.2.1 mw = g := ⟨_, rfl⟩
  obtain ⟨mr, f_mr, g_mr⟩ := hx_rf hT gm tt_10 (k := 3) (u := 50) rfl
  obtain ⟨F_mr, n_mr⟩ : ∃ g : Nat → Int32, hl1.2.1 mr = g := ⟨_, rfl⟩
  obtain ⟨mp, f_mp, g_mp⟩ := hx_rf hT gm tt_10 (k := 5) (u := 52) rfl
  obtain ⟨F_mp, n_mp⟩ : ∃ g : Nat → Int32, hl1.2.1 mp = g := ⟨_, rfl⟩
  obtain ⟨mn, f_mn, g_mn⟩ := hx_rf hT gm tt_10 (k := 4) (u := 51) rfl
  obtain ⟨F_mn, n_mn⟩ : ∃ g : Nat → Int32, hl1.2.1 mn = g := ⟨_, rfl⟩
  obtain ⟨ml, f_ml, g_ml⟩ := hx_rf hT gm tt_10 (k := 44) (u := 79) rfl
  obtain ⟨F_ml, n_ml⟩ : ∃ g : Nat → Int32, hl1.2.1 ml = g := ⟨_, rfl⟩
  obtain ⟨mh, f_mh, g_mh⟩ := hx_rf hT gm tt_10 (k := 47) (u := 82) rfl
  obtain ⟨F_mh, n_mh⟩ : ∃ g : Nat → Int32, hl1.2.1 mh = g := ⟨_, rfl⟩
  obtain ⟨mt, f_mt, g_mt⟩ := hx_rf hT gm tt_10 (k := 45) (u := 80) rfl
  obtain ⟨F_mt, n_mt⟩ : ∃ g : Nat → Int32, hl1.2.1 mt = g := ⟨_, rfl⟩
  obtain ⟨m_fou, f_m_fou, g_m_fou⟩ := hx_rf hT gm tt_10 (k := 46) (u := 81) rfl
  obtain ⟨F_m_fou, n_m_fou⟩ : ∃ g : Nat → Int32, hl1.2.1 m_fou = g := ⟨_, rfl⟩
  obtain ⟨qo_ln, f_qo_ln, g_qo_ln⟩ := hx_rf hT gx tt_9 (k := 9) (u := 1) rfl
  have f_o_ln : hl1.2.1 qo_ln 0 = ln := (ho_ln qo_ln f_qo_ln).trans f_m_lines
  have f_o_lsd : hl1.2.1 qw 0 = lsd := (ho_lsd qw f_qw).trans f_m_listed
  have f_o_wkm : hl1.2.1 qw 1 = wkm := (ho_wkm qw f_qw).trans f_m_walkedMany
  obtain ⟨qo_py, f_qo_py, g_qo_py⟩ := hx_rf hT gx tt_9 (k := 14) (u := 3) rfl
  have f_o_py : hl1.2.1 qo_py 0 = py := (ho_py qo_py f_qo_py).trans f_m_payments
  have nu_qp := hn_qp qp f_qp; rw [f_x_personCount] at nu_qp
  have nu_qc := hn_qc qc f_qc; rw [f_x_claimCount] at nu_qc
  obtain ⟨b_of, f_b_of, g_b_of⟩ := hx_rf hT g_qo_ln tt_1 (k := 1) (u := 13) rfl
  obtain ⟨B_of, n_b_of⟩ : ∃ g : Nat → Int32, hl1.2.1 b_of = g := ⟨_, rfl⟩
  obtain ⟨m_of, f_m_of, g_m_of⟩ := hx_rf hT gm tt_10 (k := 30) (u := 66) rfl
  obtain ⟨F_of, n_m_of⟩ : ∃ g : Nat → Int32, hl1.2.1 m_of = g := ⟨_, rfl⟩
  have eb_of := hk_of qo_ln b_of m_of f_qo_ln f_b_of f_m_of; rw [n_b_of, n_m_of, f_o_ln] at eb_of
  obtain ⟨b_wf, f_b_wf, g_b_wf⟩ := hx_rf hT g_qo_ln tt_1 (k := 2) (u := 14) rfl
  obtain ⟨B_wf, n_b_wf⟩ : ∃ g : Nat → Int32, hl1.2.1 b_wf = g := ⟨_, rfl⟩
  obtain ⟨m_wf, f_m_wf, g_m_wf⟩ := hx_rf hT gm tt_10 (k := 31) (u := 67) rfl
  obtain ⟨F_wf, n_m_wf⟩ : ∃ g : Nat → Int32, hl1.2.1 m_wf = g := ⟨_, rfl⟩
  have eb_wf := hk_wf qo_ln b_wf m_wf f_qo_ln f_b_wf f_m_wf; rw [n_b_wf, n_m_wf, f_o_ln] at eb_wf
  obtain ⟨b_df, f_b_df, g_b_df⟩ := hx_rf hT g_qo_ln tt_1 (k := 3) (u := 15) rfl
  obtain ⟨B_df, n_b_df⟩ : ∃ g : Nat → Int32, hl1.2.1 b_df = g := ⟨_, rfl⟩
  obtain ⟨m_df, f_m_df, g_m_df⟩ := hx_rf hT gm tt_10 (k := 32) (u := 68) rfl
  obtain ⟨F_df, n_m_df⟩ : ∃ g : Nat → Int32, hl1.2.1 m_df = g := ⟨_, rfl⟩
  have eb_df := hk_df qo_ln b_df m_df f_qo_ln f_b_df f_m_df; rw [n_b_df, n_m_df, f_o_ln] at eb_df
  obtain ⟨b_kf, f_b_kf, g_b_kf⟩ := hx_rf hT g_qo_ln tt_1 (k := 4) (u := 16) rfl
  obtain ⟨B_kf, n_b_kf⟩ : ∃ g : Nat → Int32, hl1.2.1 b_kf = g := ⟨_, rfl⟩
  obtain ⟨m_kf, f_m_kf, g_m_kf⟩ := hx_rf hT gm tt_10 (k := 33) (u := 69) rfl
  obtain ⟨F_kf, n_m_kf⟩ : ∃ g : Nat → Int32, hl1.2.1 m_kf = g := ⟨_, rfl⟩
  have eb_kf := hk_kf qo_ln b_kf m_kf f_qo_ln f_b_kf f_m_kf; rw [n_b_kf, n_m_kf, f_o_ln] at eb_kf
  obtain ⟨b_sf, f_b_sf, g_b_sf⟩ := hx_rf hT g_qo_ln tt_1 (k := 5) (u := 17) rfl
  obtain ⟨B_sf, n_b_sf⟩ : ∃ g : Nat → Int32, hl1.2.1 b_sf = g := ⟨_, rfl⟩
  obtain ⟨m_sf, f_m_sf, g_m_sf⟩ := hx_rf hT gm tt_10 (k := 34) (u := 70) rfl
  obtain ⟨F_sf, n_m_sf⟩ : ∃ g : Nat → Int32, hl1.2.1 m_sf = g := ⟨_, rfl⟩
  have eb_sf := hk_sf qo_ln b_sf m_sf f_qo_ln f_b_sf f_m_sf; rw [n_b_sf, n_m_sf, f_o_ln] at eb_sf
  obtain ⟨b_bf, f_b_bf, g_b_bf⟩ := hx_rf hT g_qo_ln tt_1 (k := 6) (u := 18) rfl
  obtain ⟨bfL, n_b_bf⟩ : ∃ g : Nat → Int32, hl1.2.1 b_bf = g := ⟨_, rfl⟩
  obtain ⟨hBD, hDY⟩ := hkBD qo_ln b_df b_bf f_qo_ln f_b_df f_b_bf; rw [n_b_df, n_b_bf, f_o_ln] at hBD; rw [n_b_df, f_o_ln] at hDY
  have hBDm := hy_BD_c eb_df hBD
  have hDYm : hy_DY F_df ln.toInt.toNat := fun x hx => by rw [← eb_df x hx]; exact hDY x hx
  have sb_list := hLQ qw ql qc f_qw f_ql f_qc
  obtain ⟨m_lst, f_m_lst, g_m_lst⟩ := hx_rf hT gm tt_10 (k := 91) (u := 112) rfl
  obtain ⟨F_lst, n_lst⟩ : ∃ g : Nat → Int32, hl1.2.1 m_lst = g := ⟨_, rfl⟩
  obtain ⟨c_lst, cl_lst⟩ : ∃ g : Nat → Int32, hx_col 8 hl1 ql 0 = g := ⟨_, rfl⟩
  have eq_lst := hLE qw ql m_lst f_qw f_ql f_m_lst; rw [cl_lst, n_lst] at eq_lst
  obtain ⟨qtp, f_qtp, g_qtp⟩ := hx_rf hT gx tt_9 (k := 0) (u := 42) rfl
  obtain ⟨m_tp, f_m_tp, g_m_tp⟩ := hx_rf hT gm tt_10 (k := 6) (u := 53) rfl
  obtain ⟨F_tp, n_tp⟩ : ∃ g : Nat → Int32, hl1.2.1 m_tp = g := ⟨_, rfl⟩
  have n_qtp : hl1.2.1 qtp = F_tp := (hkTP qtp m_tp f_qtp f_m_tp).trans n_tp
  obtain ⟨c_dead, cl_dead⟩ : ∃ g : Nat → Int32, hx_col 40 hl1 qp 7 = g := ⟨_, rfl⟩
  obtain ⟨m_dead, f_m_dead, g_m_dead⟩ := hx_rf hT gm tt_10 (k := 27) (u := 64) rfl
  obtain ⟨F_dead, n_dead⟩ : ∃ g : Nat → Int32, hl1.2.1 m_dead = g := ⟨_, rfl⟩
  have eq_dead := hc_dead qp m_dead f_qp f_m_dead; rw [cl_dead, n_dead] at eq_dead
  have z_dead : np.toInt.toNat < 40 → c_dead np.toInt.toNat = 0 := fun hj => hx_num_z nu_qp cl_dead hj ?o0
  case o0 => omega
  obtain ⟨c_isj, cl_isj⟩ : ∃ g : Nat → Int32, hx_col 40 hl1 qp 8 = g := ⟨_, rfl⟩
  obtain ⟨m_isj, f_m_isj, g_m_isj⟩ := hx_rf hT gm tt_10 (k := 28) (u := 65) rfl
  obtain ⟨F_isj, n_isj⟩ : ∃ g : Nat → Int32, hl1.2.1 m_isj = g := ⟨_, rfl⟩
  have eq_isj := hc_isj qp m_isj f_qp f_m_isj; rw [cl_isj, n_isj] at eq_isj
  have z_isj : np.toInt.toNat < 40 → c_isj np.toInt.toNat = 0 := fun hj => hx_num_z nu_qp cl_isj hj ?o1
  case o1 => omega
  obtain ⟨c_dox, cl_dox⟩ : ∃ g : Nat → Int32, hx_col 40 hl1 qp 5 = g := ⟨_, rfl⟩
  obtain ⟨m_dox, f_m_dox, g_m_dox⟩ := hx_rf hT gm tt_10 (k := 24) (u := 61) rfl
  obtain ⟨F_dox, n_dox⟩ : ∃ g : Nat → Int32, hl1.2.1 m_dox = g := ⟨_, rfl⟩
  have eq_dox := hc_dox qp m_dox f_qp f_m_dox; rw [cl_dox, n_dox] at eq_dox
  have z_dox : np.toInt.toNat < 40 → c_dox np.toInt.toNat = 0 := fun hj => hx_num_z nu_qp cl_dox hj ?o2
  case o2 => omega
  obtain ⟨c_doy, cl_doy⟩ : ∃ g : Nat → Int32, hx_col 40 hl1 qp 6 = g := ⟨_, rfl⟩
  obtain ⟨m_doy, f_m_doy, g_m_doy⟩ := hx_rf hT gm tt_10 (k := 25) (u := 62) rfl
  obtain ⟨F_doy, n_doy⟩ : ∃ g : Nat → Int32, hl1.2.1 m_doy = g := ⟨_, rfl⟩
  have eq_doy := hc_doy qp m_doy f_qp f_m_doy; rw [cl_doy, n_doy] at eq_doy
  have z_doy : np.toInt.toNat < 40 → c_doy np.toInt.toNat = 0 := fun hj => hx_num_z nu_qp cl_doy hj ?o3
  case o3 => omega
  obtain ⟨c_fou, cl_fou⟩ : ∃ g : Nat → Int32, hx_col 100 hl1 qc 10 = g := ⟨_, rfl⟩
  have eq_fou := hc_fou qc m_fou f_qc f_m_fou; rw [cl_fou, n_m_fou] at eq_fou
  have z_fou : c0.toInt.toNat < 100 → c_fou c0.toInt.toNat = 0 := fun hj => hx_num_z nu_qc cl_fou hj ?o4
  case o4 => omega
  obtain ⟨c_tri, cl_tri⟩ : ∃ g : Nat → Int32, hx_col 100 hl1 qc 9 = g := ⟨_, rfl⟩
  have eq_tri := hc_tri qc mt f_qc f_mt; rw [cl_tri, n_mt] at eq_tri
  have z_tri : c0.toInt.toNat < 100 → c_tri c0.toInt.toNat = 0 := fun hj => hx_num_z nu_qc cl_tri hj ?o5
  case o5 => omega
  obtain ⟨qlt, f_qlt, g_qlt⟩ := hx_rf hT g_qw tt_8 (k := 2) (u := 39) rfl
  obtain ⟨qlf, f_qlf, g_qlf⟩ := hx_rf hT g_qw tt_8 (k := 4) (u := 41) rfl
  obtain ⟨m_wkd, f_m_wkd, g_m_wkd⟩ := hx_rf hT gm tt_10 (k := 93) (u := 113) rfl
  obtain ⟨F_qlt, n_qlt⟩ : ∃ g : Nat → Int32, hl1.2.1 qlt = g := ⟨_, rfl⟩
  obtain ⟨F_m_wkd, n_m_wkd⟩ : ∃ g : Nat → Int32, hl1.2.1 m_wkd = g := ⟨_, rfl⟩
  have eb_wkd := hkWD qw qlt m_wkd f_qw f_qlt f_m_wkd; rw [n_qlt, n_m_wkd, f_o_wkm] at eb_wkd
  obtain ⟨m_aga, f_m_aga, g_m_aga⟩ := hx_rf hT gm tt_10 (k := 38) (u := 73) rfl
  obtain ⟨F_aga, n_aga⟩ : ∃ g : Nat → Int32, hl1.2.1 m_aga = g := ⟨_, rfl⟩
  have hDF := hkDF qc qp m_aga f_qc f_qp f_m_aga; rw [n_aga, f_x_claimCount] at hDF
  obtain ⟨qwo, f_qwo, g_qwo⟩ := hx_rf hT gx tt_9 (k := 4) (u := 0) rfl
  obtain ⟨m_ad, f_m_ad, g_m_ad⟩ := hx_rf hT gm tt_10 (k := 2) (u := 49) rfl
  obtain ⟨F_ad, n_ad⟩ : ∃ g : Nat → Int32, hl1.2.1 m_ad = g := ⟨_, rfl⟩
  obtain ⟨A9, hRA9, hCA9, hAC9, hAB⟩ := hkAC qa qwo m_ad mr mn mp qc ml f_qa f_qwo f_m_ad f_mr f_mn f_mp f_qc f_ml
  rw [f_x_actCount] at hRA9; rw [f_x_actCount, n_ad, n_mr, n_mn, n_mp] at hCA9
  obtain ⟨m_by, f_m_by, g_m_by⟩ := hx_rf hT gm tt_10 (k := 37) (u := 72) rfl
  obtain ⟨F_by, n_by⟩ : ∃ g : Nat → Int32, hl1.2.1 m_by = g := ⟨_, rfl⟩
  obtain ⟨m_ho, f_m_ho, g_m_ho⟩ := hx_rf hT gm tt_10 (k := 58) (u := 92) rfl
  obtain ⟨F_ho, n_ho⟩ : ∃ g : Nat → Int32, hl1.2.1 m_ho = g := ⟨_, rfl⟩
  obtain ⟨m_fc, f_m_fc, g_m_fc⟩ := hx_rf hT gm tt_10 (k := 53) (u := 88) rfl
  obtain ⟨F_fc, n_fc⟩ : ∃ g : Nat → Int32, hl1.2.1 m_fc = g := ⟨_, rfl⟩
  obtain ⟨m_nt, f_m_nt, g_m_nt⟩ := hx_rf hT gm tt_10 (k := 41) (u := 76) rfl
  obtain ⟨F_nt, n_nt⟩ : ∃ g : Nat → Int32, hl1.2.1 m_nt = g := ⟨_, rfl⟩
  obtain ⟨m_wt, f_m_wt, g_m_wt⟩ := hx_rf hT gm tt_10 (k := 42) (u := 77) rfl
  obtain ⟨F_wt, n_wt⟩ : ∃ g : Nat → Int32, hl1.2.1 m_wt = g := ⟨_, rfl⟩
  obtain ⟨m_be, f_m_be, g_m_be⟩ := hx_rf hT gm tt_10 (k := 52) (u := 87) rfl
  obtain ⟨F_be, n_be⟩ : ∃ g : Nat → Int32, hl1.2.1 m_be = g := ⟨_, rfl⟩
  obtain ⟨m_bor, f_m_bor, g_m_bor⟩ := hx_rf hT gm tt_10 (k := 21) (u := 58) rfl
  obtain ⟨F_bor, n_bor⟩ : ∃ g : Nat → Int32, hl1.2.1 m_bor = g := ⟨_, rfl⟩
  obtain ⟨m_kin, f_m_kin, g_m_kin⟩ := hx_rf hT gm tt_10 (k := 26) (u := 63) rfl
  obtain ⟨F_kin, n_kin⟩ : ∃ g : Nat → Int32, hl1.2.1 m_kin = g := ⟨_, rfl⟩
  obtain ⟨m_sum, f_m_sum, g_m_sum⟩ := hx_rf hT gm tt_10 (k := 39) (u := 74) rfl
  obtain ⟨F_sum, n_sum⟩ : ∃ g : Nat → Int32, hl1.2.1 m_sum = g := ⟨_, rfl⟩
  obtain ⟨m_fro, f_m_fro, g_m_fro⟩ := hx_rf hT gm tt_10 (k := 40) (u := 75) rfl
  obtain ⟨F_fro, n_fro⟩ : ∃ g : Nat → Int32, hl1.2.1 m_fro = g := ⟨_, rfl⟩
  obtain ⟨m_fil, f_m_fil, g_m_fil⟩ := hx_rf hT gm tt_10 (k := 43) (u := 78) rfl
  obtain ⟨F_fil, n_fil⟩ : ∃ g : Nat → Int32, hl1.2.1 m_fil = g := ⟨_, rfl⟩
  obtain ⟨m_jud, f_m_jud, g_m_jud⟩ := hx_rf hT gm tt_10 (k := 51) (u := 86) rfl
  obtain ⟨F_jud, n_jud⟩ : ∃ g : Nat → Int32, hl1.2.1 m_jud = g := ⟨_, rfl⟩
  obtain ⟨m_ear, f_m_ear, g_m_ear⟩ := hx_rf hT gm tt_10 (k := 22) (u := 59) rfl
  obtain ⟨F_ear, n_ear⟩ : ∃ g : Nat → Int32, hl1.2.1 m_ear = g := ⟨_, rfl⟩
  obtain ⟨m_hds, f_m_hds, g_m_hds⟩ := hx_rf hT gm tt_10 (k := 23) (u := 60) rfl
  obtain ⟨F_hds, n_hds⟩ : ∃ g : Nat → Int32, hl1.2.1 m_hds = g := ⟨_, rfl⟩
  obtain ⟨m_ord, f_m_ord, g_m_ord⟩ := hx_rf hT gm tt_10 (k := 48) (u := 83) rfl
  obtain ⟨F_ord, n_ord⟩ : ∃ g : Nat → Int32, hl1.2.1 m_ord = g := ⟨_, rfl⟩
  obtain ⟨m_wkl, f_m_wkl, g_m_wkl⟩ := hx_rf hT gm tt_10 (k := 54) (u := 89) rfl
  obtain ⟨F_wkl, n_wkl⟩ : ∃ g : Nat → Int32, hl1.2.1 m_wkl = g := ⟨_, rfl⟩
  obtain ⟨m_owd, f_m_owd, g_m_owd⟩ := hx_rf hT gm tt_10 (k := 55) (u := 90) rfl
  obtain ⟨F_owd, n_owd⟩ : ∃ g : Nat → Int32, hl1.2.1 m_owd = g := ⟨_, rfl⟩
  obtain ⟨m_gds, f_m_gds, g_m_gds⟩ := hx_rf hT gm tt_10 (k := 56) (u := 91) rfl
  obtain ⟨F_gds, n_gds⟩ : ∃ g : Nat → Int32, hl1.2.1 m_gds = g := ⟨_, rfl⟩
  obtain ⟨m_szd, f_m_szd, g_m_szd⟩ := hx_rf hT gm tt_10 (k := 49) (u := 84) rfl
  obtain ⟨F_szd, n_szd⟩ : ∃ g : Nat → Int32, hl1.2.1 m_szd = g := ⟨_, rfl⟩
  obtain ⟨m_srv, f_m_srv, g_m_srv⟩ := hx_rf hT gm tt_10 (k := 50) (u := 85) rfl
  obtain ⟨F_srv, n_srv⟩ : ∃ g : Nat → Int32, hl1.2.1 m_srv = g := ⟨_, rfl⟩
  have cl_bor : hx_col 40 hl1 qp 1 = F_bor := (hf_bor qp m_bor f_qp f_m_bor).trans n_bor
  have cl_kin : hx_col 40 hl1 qp 2 = F_kin := (hf_kin qp m_kin f_qp f_m_kin).trans n_kin
  have cl_sum : hx_col 100 hl1 qc 6 = F_sum := (hf_sum qc m_sum f_qc f_m_sum).trans n_sum
  have cl_fro : hx_col 100 hl1 qc 7 = F_fro := (hf_fro qc m_fro f_qc f_m_fro).trans n_fro
  have cl_fil : hx_col 100 hl1 qc 8 = F_fil := (hf_fil qc m_fil f_qc f_m_fil).trans n_fil
  have cl_hea : hx_col 100 hl1 qc 11 = F_mh := (hf_hea qc mh f_qc f_mh).trans n_mh
  have cl_jud : hx_col 100 hl1 qc 12 = F_jud := (hf_jud qc m_jud f_qc f_m_jud).trans n_jud
  have cl_ear : hx_col 40 hl1 qp 3 = F_ear := (hf_ear qp m_ear f_qp f_m_ear).trans n_ear
  have cl_hds : hx_col 40 hl1 qp 4 = F_hds := (hf_hds qp m_hds f_qp f_m_hds).trans n_hds
  have cl_ord : hx_col 100 hl1 qc 13 = F_ord := (hf_ord qc m_ord f_qc f_m_ord).trans n_ord
  have cl_wkl : hx_col 100 hl1 qc 14 = F_wkl := (hf_wkl qc m_wkl f_qc f_m_wkl).trans n_wkl
  have cl_owd : hx_col 100 hl1 qc 15 = F_owd := (hf_owd qc m_owd f_qc f_m_owd).trans n_owd
  have cl_gds : hx_col 100 hl1 qc 17 = F_gds := (hf_gds qc m_gds f_qc f_m_gds).trans n_gds
  have cl_szd : hx_col 100 hl1 qc 16 = F_szd := (hf_szd qc m_szd f_qc f_m_szd).trans n_szd
  have cl_srv : hx_col 100 hl1 qc 18 = F_srv := (hf_srv qc m_srv f_qc f_m_srv).trans n_srv
  have htb9 : ∀ c, c < 100 → 0 ≤ (c_tri c).toInt ∧ (c_tri c).toInt ≤ 512 := fun c hc => by rw [eq_tri c hc]; have w := hT.ei g_mt tt_80 (k := c) hc; rw [n_mt] at w; exact w
  have z_jud : F_jud c0.toInt.toNat = 0 := hx_num_z2 nu_qc cl_jud ?o6
  case o6 => omega
  have hDP := hkDP qc qp m_by f_qc f_qp f_m_by; rw [n_by, f_x_claimCount] at hDP
  have hHL := hkHL qh qc m_ho f_qh f_qc f_m_ho; rw [n_ho, f_x_heardCount, f_x_claimCount] at hHL
  have hHO9 := hkHO m_ho mh f_m_ho f_mh; rw [n_ho, n_mh, f_m_heardMany, f_m_claims] at hHO9
  obtain ⟨cF9L, hFX, hFR9⟩ := hkFX qc m_fc m_nt m_wt m_sum mh f_qc f_m_fc f_m_nt f_m_wt f_m_sum f_mh; rw [f_x_claimCount] at hFX; rw [n_fc, n_nt, n_wt, n_sum, n_mh, f_x_claimCount] at hFR9
  have hBX := hkBX qc m_be f_qc f_m_be; rw [n_be, f_x_claimCount] at hBX
  rw [n_ml, f_x_claimCount] at hAC9
  obtain ⟨y_p0, f_y_p0, g_y_p0⟩ := hx_rf hT g_qo_py tt_3 (k := 2) (u := 23) rfl
  obtain ⟨m_p0, f_m_p0, g_m_p0⟩ := hx_rf hT gm tt_10 (k := 60) (u := 93) rfl
  obtain ⟨F_p0, n_p0⟩ : ∃ g : Nat → Int32, hl1.2.1 m_p0 = g := ⟨_, rfl⟩
  have n_y_p0 : hl1.2.1 y_p0 = F_p0 := (hkP0 qo_py y_p0 m_p0 f_qo_py f_y_p0 f_m_p0).trans n_p0
  obtain ⟨y_p1, f_y_p1, g_y_p1⟩ := hx_rf hT g_qo_py tt_3 (k := 3) (u := 24) rfl
  obtain ⟨m_p1, f_m_p1, g_m_p1⟩ := hx_rf hT gm tt_10 (k := 61) (u := 94) rfl
  obtain ⟨F_p1, n_p1⟩ : ∃ g : Nat → Int32, hl1.2.1 m_p1 = g := ⟨_, rfl⟩
  have n_y_p1 : hl1.2.1 y_p1 = F_p1 := (hkP1 qo_py y_p1 m_p1 f_qo_py f_y_p1 f_m_p1).trans n_p1
  obtain ⟨y_p2, f_y_p2, g_y_p2⟩ := hx_rf hT g_qo_py tt_3 (k := 5) (u := 26) rfl
  obtain ⟨m_p2, f_m_p2, g_m_p2⟩ := hx_rf hT gm tt_10 (k := 62) (u := 95) rfl
  obtain ⟨F_p2, n_p2⟩ : ∃ g : Nat → Int32, hl1.2.1 m_p2 = g := ⟨_, rfl⟩
  have n_y_p2 : hl1.2.1 y_p2 = F_p2 := (hkP2 qo_py y_p2 m_p2 f_qo_py f_y_p2 f_m_p2).trans n_p2
  obtain ⟨y_p3, f_y_p3, g_y_p3⟩ := hx_rf hT g_qo_py tt_3 (k := 4) (u := 25) rfl
  obtain ⟨m_p3, f_m_p3, g_m_p3⟩ := hx_rf hT gm tt_10 (k := 63) (u := 96) rfl
  obtain ⟨F_p3, n_p3⟩ : ∃ g : Nat → Int32, hl1.2.1 m_p3 = g := ⟨_, rfl⟩
  have n_y_p3 : hl1.2.1 y_p3 = F_p3 := (hkP3 qo_py y_p3 m_p3 f_qo_py f_y_p3 f_m_p3).trans n_p3
  obtain ⟨y_p4, f_y_p4, g_y_p4⟩ := hx_rf hT g_qo_py tt_3 (k := 1) (u := 22) rfl
  obtain ⟨m_p4, f_m_p4, g_m_p4⟩ := hx_rf hT gm tt_10 (k := 64) (u := 97) rfl
  obtain ⟨F_p4, n_p4⟩ : ∃ g : Nat → Int32, hl1.2.1 m_p4 = g := ⟨_, rfl⟩
  have n_y_p4 : hl1.2.1 y_p4 = F_p4 := (hkP4 qo_py y_p4 m_p4 f_qo_py f_y_p4 f_m_p4).trans n_p4
  obtain ⟨qrg9, f_qrg9, g_qrg9⟩ := hx_rf hT gx tt_9 (k := 18) (u := 7) rfl
  obtain ⟨y_ls, f_y_ls, g_y_ls⟩ := hx_rf hT g_qrg9 tt_7 (k := 3) (u := 35) rfl
  obtain ⟨m_rl, f_m_rl, g_m_rl⟩ := hx_rf hT gm tt_10 (k := 85) (u := 109) rfl
  obtain ⟨F_y_ls, n_y_ls⟩ : ∃ g : Nat → Int32, hl1.2.1 y_ls = g := ⟨_, rfl⟩
  obtain ⟨F_m_rl, n_m_rl⟩ : ∃ g : Nat → Int32, hl1.2.1 m_rl = g := ⟨_, rfl⟩
  obtain ⟨fv_1, efv_1⟩ : ∃ y : Int32, y = hl1.2.1 qrg9 0 := ⟨_, rfl⟩
  have bfv_1 := hT.gi g_qrg9 tt_7 (k := 0) rfl
  rw [← efv_1] at bfv_1
  have bfv_1 : -1 ≤ fv_1.toInt ∧ fv_1.toInt ≤ 100 := bfv_1
  have ffv_1 := efv_1.symm
  obtain ⟨fv_2, efv_2⟩ : ∃ y : Int32, y = hl1.2.1 am 83 := ⟨_, rfl⟩
  have bfv_2 := hT.gi gm tt_10 (k := 83) rfl
  rw [← efv_2] at bfv_2
  have bfv_2 : 0 ≤ fv_2.toInt ∧ fv_2.toInt ≤ 1 := bfv_2
  have ffv_2 := efv_2.symm
  obtain ⟨fv_3, efv_3⟩ : ∃ y : Int32, y = hl1.2.1 am 84 := ⟨_, rfl⟩
  have bfv_3 := hT.gi gm tt_10 (k := 84) rfl
  rw [← efv_3] at bfv_3
  have bfv_3 : 0 ≤ fv_3.toInt ∧ fv_3.toInt ≤ 300 := bfv_3
  have ffv_3 := efv_3.symm
  have hNQ9 := hkNQ qrg9 f_qrg9; rw [ffv_1, ffv_2, ffv_3] at hNQ9
  have hRL9 := hkRL qrg9 y_ls m_rl f_qrg9 f_y_ls f_m_rl; rw [n_y_ls, n_m_rl, ffv_1] at hRL9
  have hCB : hz_CB F_ord F_wkl F_owd F_szd F_gds F_srv := fun c hc => ⟨by have w := hT.ei g_m_ord tt_83 (k := c) (by omega); rw [n_ord] at w; exact w, by have w := hT.ei g_m_wkl tt_89 (k := c) (by omega); rw [n_wkl] at w; exact w, by have w := hT.ei g_m_owd tt_90 (k := c) (by omega); rw [n_owd] at w; exact w, by have w := hT.ei g_m_szd tt_84 (k := c) (by omega); rw [n_szd] at w; exact w, by have w := hT.ei g_m_gds tt_91 (k := c) (by omega); rw [n_gds] at w; exact w, by have w := hT.ei g_m_srv tt_85 (k := c) (by omega); rw [n_srv] at w; exact w⟩
  have hps : ∀ j, j < 600 → 0 ≤ (F_p2 j).toInt ∧ (F_p2 j).toInt ≤ 610000 := fun j hj => by have w := hT.ei g_m_p2 tt_95 (k := j) (by omega); rw [n_p2] at w; exact w
  have hte9 : ∀ c : Nat, c < 100 → (0 ≤ (c_tri c).toInt ∧ (c_tri c).toInt ≤ 512) ∧ (0 ≤ (F_sum c).toInt ∧ (F_sum c).toInt ≤ 9999) := fun c hc => ⟨htb9 c hc, by have w := hT.ei g_m_sum tt_74 (k := c) (by omega); rw [n_sum] at w; exact w⟩
  have hee9 : ∀ c : Nat, c < 40 → (0 ≤ (F_ear c).toInt ∧ (F_ear c).toInt ≤ 9999) ∧ (0 ≤ (F_hds c).toInt ∧ (F_hds c).toInt ≤ 20) := fun c hc => ⟨by have w := hT.ei g_m_ear tt_59 (k := c) (by omega); rw [n_ear] at w; exact w, by have w := hT.ei g_m_hds tt_60 (k := c) (by omega); rw [n_hds] at w; exact w⟩
  have bAG9 : ∀ k, k < 100 → 0 ≤ (F_aga k).toInt ∧ (F_aga k).toInt ≤ 39 := fun k hk => by have w := hT.ei g_m_aga tt_73 (k := k) (by omega); rw [n_aga] at w; exact w
  have bBY9 : ∀ k, k < 100 → 0 ≤ (F_by k).toInt ∧ (F_by k).toInt ≤ 39 := fun k hk => by have w := hT.ei g_m_by tt_72 (k := k) (by omega); rw [n_by] at w; exact w
  have hag9 : ∀ c, c < c0.toInt.toNat → 0 ≤ (F_aga c).toInt ∧ (F_aga c).toInt < 40 ∧ 0 ≤ (F_by c).toInt ∧ (F_by c).toInt < 40 := fun c hc => by have a9 := bAG9 c (by omega); have b9 := bBY9 c (by omega); omega
  have z_wkl : F_wkl c0.toInt.toNat = 0 := hx_num_z2 nu_qc cl_wkl ?o7
  case o7 => omega
  have z_owd : F_owd c0.toInt.toNat = 0 := hx_num_z2 nu_qc cl_owd ?o8
  case o8 => omega
  have z_gds : F_gds c0.toInt.toNat = 0 := hx_num_z2 nu_qc cl_gds ?o9
  case o9 => omega
  have hwd := jw mw f_mw; rw [n_mw] at hwd
  have hWK := jr mr f_mr; rw [n_mr, f_m_acts] at hWK
  have hRP := jp mp mn f_mp f_mn; rw [n_mp, n_mn, f_m_acts] at hRP
  have hPL := jl ml f_ml; rw [n_ml, f_m_claims, f_m_acts] at hPL
  have hHC := jh mh f_mh; rw [n_mh, f_m_heardMany, f_m_claims] at hHC
  have hTR := jt mt f_mt; rw [n_mt] at hTR
  have hHF := jf mh m_fou f_mh f_m_fou; rw [n_mh, n_m_fou, f_m_claims] at hHF
  refine lv_aload_n hx hb dL_law_172 rfl (lv_at hl 2 rfl) ?_
  refine lv_aload_n hx hb dL_law_173 rfl (lv_at hl 3 rfl) ?_
  refine lv_iload_n hx hb dL_law_174 rfl (lv_at hl 0 rfl) ?_
  refine lv_iconst (v := 1) hx hb dL_law_175 ?o10 ?_
  case o10 => decide
  refine lv_iadd hx hb dL_law_176 ?_
  have rg_4 := i32_r i
  refine lv_topi (fun x_5 ex_5 => ?_)
  have zx_5 : x_5.toInt = i.toInt + 1 := ?o11
  case o11 =>
    rw [ex_5]
    refine i32_add rfl ?o12 ?o13 ?o14
    case o12 => decide
    case o13 => omega
    case o14 => omega
  refine va_sld hx hb hX hbl hbA hW.2.2.2.1 (vp_in_iff.mpr ⟨?o15, ?o16⟩) dL_law_177 ?_
  case o15 => omega
  case o16 => omega
  refine lv_topi (fun x_6 ex_6 => ?_)
  have hTo := hT
  refine hx_goi (hx_runV (As := [.int x_6]) (rest := []) ⟨hx, hb, hml, hown, hts⟩ hW gx tt_9 (T := TX9) (N := 20) rfl (t_X9_clock l dC dI dA L1 hl1 H.size ax x_6 hT gx nw f_x_now) (cwV 1 hts (hx_gV kw_428 kw_425 kw_426 kw_427 kw_94) rfl rfl rfl (by decide +kernel) ⟨Nat.le_of_ble_eq_true rfl, Nat.le_of_ble_eq_true rfl⟩) rfl hl.1 rfl (Nat.le_of_ble_eq_true rfl) dL_law_178 ⟨(show CC + 0 ≤ 600000 from ?o17), (show SS + 0 ≤ 7302250 from ?o18)⟩) hW (fun r_9 L_7 h_8 H locs p_10 hW => ?_)
  case o17 => omega
  case o18 => omega
  obtain ⟨⟨w_12, fw_12, hr_11⟩, hT, hs⟩ := p_10
  replace hT : hx_T T_tb L_7 h_8 := hT
  replace hs : hx_S T_tb [(9, 2)] L1 hl1 L_7 h_8 := hs
  replace f_qa := (hs.o gx trivial rfl).2.trans f_qa
  replace f_qp := (hs.o gx trivial rfl).2.trans f_qp
  replace f_qc := (hs.o gx trivial rfl).2.trans f_qc
  replace f_qh := (hs.o gx trivial rfl).2.trans f_qh
  replace f_qw := (hs.o gx trivial rfl).2.trans f_qw
  replace f_ql := (hs.o g_qw trivial rfl).2.trans f_ql
  replace f_m_now := (hs.o gm trivial rfl).1.trans f_m_now
  replace f_m_persons := (hs.o gm trivial rfl).1.trans f_m_persons
  replace f_m_claims := (hs.o gm trivial rfl).1.trans f_m_claims
  replace f_m_taped := (hs.o gm trivial rfl).1.trans f_m_taped
  replace f_m_acts := (hs.o gm trivial rfl).1.trans f_m_acts
  replace f_m_heardMany := (hs.o gm trivial rfl).1.trans f_m_heardMany
  replace f_m_lines := (hs.o gm trivial rfl).1.trans f_m_lines
  replace f_m_listed := (hs.o gm trivial rfl).1.trans f_m_listed
  replace f_m_walkedMany := (hs.o gm trivial rfl).1.trans f_m_walkedMany
  replace f_m_payments := (hs.o gm trivial rfl).1.trans f_m_payments
  replace f_x_personCount := (hs.o gx trivial rfl).1.trans f_x_personCount
  replace f_x_claimCount := (hs.o gx trivial rfl).1.trans f_x_claimCount
  replace f_x_tapeLength := (hs.o gx trivial rfl).1.trans f_x_tapeLength
  replace f_x_actCount := (hs.o gx trivial rfl).1.trans f_x_actCount
  replace f_x_heardCount := (hs.o gx trivial rfl).1.trans f_x_heardCount
  replace f_mw := (hs.o gm trivial rfl).2.trans f_mw
  replace f_mr := (hs.o gm trivial rfl).2.trans f_mr
  replace f_mp := (hs.o gm trivial rfl).2.trans f_mp
  replace f_mn := (hs.o gm trivial rfl).2.trans f_mn
  replace f_ml := (hs.o gm trivial rfl).2.trans f_ml
  replace f_mh := (hs.o gm trivial rfl).2.trans f_mh
  replace f_mt := (hs.o gm trivial rfl).2.trans f_mt
  replace f_m_fou := (hs.o gm trivial rfl).2.trans f_m_fou
  replace f_qo_ln := (hs.o gx trivial rfl).2.trans f_qo_ln
  replace f_o_ln := (hs.o g_qo_ln trivial rfl).1.trans f_o_ln
  replace f_o_lsd := (hs.o g_qw trivial rfl).1.trans f_o_lsd
  replace f_o_wkm := (hs.o g_qw trivial rfl).1.trans f_o_wkm
  replace f_qo_py := (hs.o gx trivial rfl).2.trans f_qo_py
  replace f_o_py := (hs.o g_qo_py trivial rfl).1.trans f_o_py
  replace f_b_of := (hs.o g_qo_ln trivial rfl).2.trans f_b_of
  replace f_m_of := (hs.o gm trivial rfl).2.trans f_m_of
  replace f_b_wf := (hs.o g_qo_ln trivial rfl).2.trans f_b_wf
  replace f_m_wf := (hs.o gm trivial rfl).2.trans f_m_wf
  replace f_b_df := (hs.o g_qo_ln trivial rfl).2.trans f_b_df
  replace f_m_df := (hs.o gm trivial rfl).2.trans f_m_df
  replace f_b_kf := (hs.o g_qo_ln trivial rfl).2.trans f_b_kf
  replace f_m_kf := (hs.o gm trivial rfl).2.trans f_m_kf
  replace f_b_sf := (hs.o g_qo_ln trivial rfl).2.trans f_b_sf
  replace f_m_sf := (hs.o gm trivial rfl).2.trans f_m_sf
  replace f_b_bf := (hs.o g_qo_ln trivial rfl).2.trans f_b_bf
  replace f_m_lst := (hs.o gm trivial rfl).2.trans f_m_lst
  replace f_qtp := (hs.o gx trivial rfl).2.trans f_qtp
  replace f_m_tp := (hs.o gm trivial rfl).2.trans f_m_tp
  replace f_m_dead := (hs.o gm trivial rfl).2.trans f_m_dead
  replace f_m_isj := (hs.o gm trivial rfl).2.trans f_m_isj
  replace f_m_dox := (hs.o gm trivial rfl).2.trans f_m_dox
  replace f_m_doy := (hs.o gm trivial rfl).2.trans f_m_doy
  replace f_qlt := (hs.o g_qw trivial rfl).2.trans f_qlt
  replace f_qlf := (hs.o g_qw trivial rfl).2.trans f_qlf
  replace f_m_wkd := (hs.o gm trivial rfl).2.trans f_m_wkd
  replace f_m_aga := (hs.o gm trivial rfl).2.trans f_m_aga
  replace f_qwo := (hs.o gx trivial rfl).2.trans f_qwo
  replace f_m_ad := (hs.o gm trivial rfl).2.trans f_m_ad
  replace f_m_by := (hs.o gm trivial rfl).2.trans f_m_by
  replace f_m_ho := (hs.o gm trivial rfl).2.trans f_m_ho
  replace f_m_fc := (hs.o gm trivial rfl).2.trans f_m_fc
  replace f_m_nt := (hs.o gm trivial rfl).2.trans f_m_nt
  replace f_m_wt := (hs.o gm trivial rfl).2.trans f_m_wt
  replace f_m_be := (hs.o gm trivial rfl).2.trans f_m_be
  replace f_m_bor := (hs.o gm trivial rfl).2.trans f_m_bor
  replace f_m_kin := (hs.o gm trivial rfl).2.trans f_m_kin
  replace f_m_sum := (hs.o gm trivial rfl).2.trans f_m_sum
  replace f_m_fro := (hs.o gm trivial rfl).2.trans f_m_fro
  replace f_m_fil := (hs.o gm trivial rfl).2.trans f_m_fil
  replace f_m_jud := (hs.o gm trivial rfl).2.trans f_m_jud
  replace f_m_ear := (hs.o gm trivial rfl).2.trans f_m_ear
  replace f_m_hds := (hs.o gm trivial rfl).2.trans f_m_hds
  replace f_m_ord := (hs.o gm trivial rfl).2.trans f_m_ord
  replace f_m_wkl := (hs.o gm trivial rfl).2.trans f_m_wkl
  replace f_m_owd := (hs.o gm trivial rfl).2.trans f_m_owd
  replace f_m_gds := (hs.o gm trivial rfl).2.trans f_m_gds
  replace f_m_szd := (hs.o gm trivial rfl).2.trans f_m_szd
  replace f_m_srv := (hs.o gm trivial rfl).2.trans f_m_srv
  replace f_y_p0 := (hs.o g_qo_py trivial rfl).2.trans f_y_p0
  replace f_m_p0 := (hs.o gm trivial rfl).2.trans f_m_p0
  replace f_y_p1 := (hs.o g_qo_py trivial rfl).2.trans f_y_p1
  replace f_m_p1 := (hs.o gm trivial rfl).2.trans f_m_p1
  replace f_y_p2 := (hs.o g_qo_py trivial rfl).2.trans f_y_p2
  replace f_m_p2 := (hs.o gm trivial rfl).2.trans f_m_p2
  replace f_y_p3 := (hs.o g_qo_py trivial rfl).2.trans f_y_p3
  replace f_m_p3 := (hs.o gm trivial rfl).2.trans f_m_p3
  replace f_y_p4 := (hs.o g_qo_py trivial rfl).2.trans f_y_p4
  replace f_m_p4 := (hs.o gm trivial rfl).2.trans f_m_p4
  replace f_qrg9 := (hs.o gx trivial rfl).2.trans f_qrg9
  replace f_y_ls := (hs.o g_qrg9 trivial rfl).2.trans f_y_ls
  replace f_m_rl := (hs.o gm trivial rfl).2.trans f_m_rl
  replace ffv_1 := (hs.o g_qrg9 trivial rfl).1.trans ffv_1
  replace ffv_2 := (hs.o gm trivial rfl).1.trans ffv_2
  replace ffv_3 := (hs.o gm trivial rfl).1.trans ffv_3
  replace pf_qa : ∀ j : Nat, (j : Int) < (h_8.2.1 ax 6).toInt → h_8.2.2 qa j ≠ none := by
    intro j hj; rw [(hs.o gx trivial rfl).1] at hj; rw [(hs.a g_qa rfl j).2]; exact pf_qa j hj
  replace pf_qp : ∀ j : Nat, (j : Int) < (h_8.2.1 ax 8).toInt → h_8.2.2 qp j ≠ none := by
    intro j hj; rw [(hs.o gx trivial rfl).1] at hj; rw [(hs.a g_qp rfl j).2]; exact pf_qp j hj
  replace pf_qc : ∀ j : Nat, (j : Int) < (h_8.2.1 ax 11).toInt → h_8.2.2 qc j ≠ none := by
    intro j hj; rw [(hs.o gx trivial rfl).1] at hj; rw [(hs.a g_qc rfl j).2]; exact pf_qc j hj
  replace pf_qh : ∀ j : Nat, (j : Int) < (h_8.2.1 ax 13).toInt → h_8.2.2 qh j ≠ none := by
    intro j hj; rw [(hs.o gx trivial rfl).1] at hj; rw [(hs.a g_qh rfl j).2]; exact pf_qh j hj
  replace pf_ql : ∀ j : Nat, (j : Int) < (h_8.2.1 qw 0).toInt → h_8.2.2 ql j ≠ none := by
    intro j hj; rw [(hs.o g_qw trivial rfl).1] at hj; rw [(hs.a g_ql rfl j).2]; exact pf_ql j hj
  replace cl_lst : hx_col 8 h_8 ql 0 = c_lst := (hx_col_S hs hTo g_ql tt_40 tt_2 rfl rfl).trans cl_lst
  replace cl_dead : hx_col 40 h_8 qp 7 = c_dead := (hx_col_S hs hTo g_qp tt_44 tt_4 rfl rfl).trans cl_dead
  replace cl_isj : hx_col 40 h_8 qp 8 = c_isj := (hx_col_S hs hTo g_qp tt_44 tt_4 rfl rfl).trans cl_isj
  replace cl_dox : hx_col 40 h_8 qp 5 = c_dox := (hx_col_S hs hTo g_qp tt_44 tt_4 rfl rfl).trans cl_dox
  replace cl_doy : hx_col 40 h_8 qp 6 = c_doy := (hx_col_S hs hTo g_qp tt_44 tt_4 rfl rfl).trans cl_doy
  replace cl_fou : hx_col 100 h_8 qc 10 = c_fou := (hx_col_S hs hTo g_qc tt_45 tt_2 rfl rfl).trans cl_fou
  replace cl_tri : hx_col 100 h_8 qc 9 = c_tri := (hx_col_S hs hTo g_qc tt_45 tt_2 rfl rfl).trans cl_tri
  replace cl_bor : hx_col 40 h_8 qp 1 = F_bor := (hx_col_S hs hTo g_qp tt_44 tt_4 rfl rfl).trans cl_bor
  replace cl_kin : hx_col 40 h_8 qp 2 = F_kin := (hx_col_S hs hTo g_qp tt_44 tt_4 rfl rfl).trans cl_kin
  replace cl_sum : hx_col 100 h_8 qc 6 = F_sum := (hx_col_S hs hTo g_qc tt_45 tt_2 rfl rfl).trans cl_sum
  replace cl_fro : hx_col 100 h_8 qc 7 = F_fro := (hx_col_S hs hTo g_qc tt_45 tt_2 rfl rfl).trans cl_fro
  replace cl_fil : hx_col 100 h_8 qc 8 = F_fil := (hx_col_S hs hTo g_qc tt_45 tt_2 rfl rfl).trans cl_fil
  replace cl_hea : hx_col 100 h_8 qc 11 = F_mh := (hx_col_S hs hTo g_qc tt_45 tt_2 rfl rfl).trans cl_hea
  replace cl_jud : hx_col 100 h_8 qc 12 = F_jud := (hx_col_S hs hTo g_qc tt_45 tt_2 rfl rfl).trans cl_jud
  replace cl_ear : hx_col 40 h_8 qp 3 = F_ear := (hx_col_S hs hTo g_qp tt_44 tt_4 rfl rfl).trans cl_ear
  replace cl_hds : hx_col 40 h_8 qp 4 = F_hds := (hx_col_S hs hTo g_qp tt_44 tt_4 rfl rfl).trans cl_hds
  replace cl_ord : hx_col 100 h_8 qc 13 = F_ord := (hx_col_S hs hTo g_qc tt_45 tt_2 rfl rfl).trans cl_ord
  replace cl_wkl : hx_col 100 h_8 qc 14 = F_wkl := (hx_col_S hs hTo g_qc tt_45 tt_2 rfl rfl).trans cl_wkl
  replace cl_owd : hx_col 100 h_8 qc 15 = F_owd := (hx_col_S hs hTo g_qc tt_45 tt_2 rfl rfl).trans cl_owd
  replace cl_gds : hx_col 100 h_8 qc 17 = F_gds := (hx_col_S hs hTo g_qc tt_45 tt_2 rfl rfl).trans cl_gds
  replace cl_szd : hx_col 100 h_8 qc 16 = F_szd := (hx_col_S hs hTo g_qc tt_45 tt_2 rfl rfl).trans cl_szd
  replace cl_srv : hx_col 100 h_8 qc 18 = F_srv := (hx_col_S hs hTo g_qc tt_45 tt_2 rfl rfl).trans cl_srv
  replace nu_qp : hx_num 40 h_8 qp 0 (np.toInt) := hx_num_S hs hTo g_qp tt_44 tt_4 rfl rfl nu_qp
  replace nu_qc : hx_num 100 h_8 qc 0 (c0.toInt) := hx_num_S hs hTo g_qc tt_45 tt_2 rfl rfl nu_qc
  replace sb_list : hx_LQ 8 100 h_8 ql qc := hx_LQ_S hs g_ql g_qc rfl rfl sb_list
  replace hDF : hw_DF h_8 qc qp 2 F_aga c0.toInt := hw_DF_S hs hTo g_qc g_qp tt_45 tt_2 rfl rfl rfl hDF
  replace hRA9 : hv_RA h_8 qa qwo a0.toInt A9 := hv_RA_S hs hTo g_qa g_qwo tt_43 tt_0 rfl rfl rfl rfl rfl rfl ?o19 hRA9
  case o19 => omega
  replace hDP : hw_DF h_8 qc qp 1 F_by c0.toInt := hw_DF_S hs hTo g_qc g_qp tt_45 tt_2 rfl rfl rfl hDP
  replace hAC9 : hv_AC h_8 qc F_ml c0.toInt A9 := hv_AC_S hs hTo g_qc tt_45 tt_2 rfl tt_0 rfl rfl rfl rfl rfl rfl rfl hAC9
  replace hFX : hv_FX 8 4 h_8 qc cF9L c0.toInt := hv_FX_S hs hTo g_qc tt_45 tt_2 rfl rfl rfl rfl hFX
  replace hBX : hv_FX 3 5 h_8 qc F_be c0.toInt := hv_FX_S hs hTo g_qc tt_45 tt_2 rfl rfl rfl rfl hBX
  replace hHL : hv_HL h_8 qh qc F_ho m0.toInt c0.toInt := hv_HL_S hs g_qh g_qc rfl rfl hHL
  replace n_mw : h_8.2.1 mw = F_mw := (funext fun j => (hs.a g_mw rfl j).1).trans n_mw
  replace n_mr : h_8.2.1 mr = F_mr := (funext fun j => (hs.a g_mr rfl j).1).trans n_mr
  replace n_mp : h_8.2.1 mp = F_mp := (funext fun j => (hs.a g_mp rfl j).1).trans n_mp
  replace n_mn : h_8.2.1 mn = F_mn := (funext fun j => (hs.a g_mn rfl j).1).trans n_mn
  replace n_ml : h_8.2.1 ml = F_ml := (funext fun j => (hs.a g_ml rfl j).1).trans n_ml
  replace n_mh : h_8.2.1 mh = F_mh := (funext fun j => (hs.a g_mh rfl j).1).trans n_mh
  replace n_mt : h_8.2.1 mt = F_mt := (funext fun j => (hs.a g_mt rfl j).1).trans n_mt
  replace n_m_fou : h_8.2.1 m_fou = F_m_fou := (funext fun j => (hs.a g_m_fou rfl j).1).trans n_m_fou
  replace n_b_of : h_8.2.1 b_of = B_of := (funext fun j => (hs.a g_b_of rfl j).1).trans n_b_of
  replace n_m_of : h_8.2.1 m_of = F_of := (funext fun j => (hs.a g_m_of rfl j).1).trans n_m_of
  replace n_b_wf : h_8.2.1 b_wf = B_wf := (funext fun j => (hs.a g_b_wf rfl j).1).trans n_b_wf
  replace n_m_wf : h_8.2.1 m_wf = F_wf := (funext fun j => (hs.a g_m_wf rfl j).1).trans n_m_wf
  replace n_b_df : h_8.2.1 b_df = B_df := (funext fun j => (hs.a g_b_df rfl j).1).trans n_b_df
  replace n_m_df : h_8.2.1 m_df = F_df := (funext fun j => (hs.a g_m_df rfl j).1).trans n_m_df
  replace n_b_kf : h_8.2.1 b_kf = B_kf := (funext fun j => (hs.a g_b_kf rfl j).1).trans n_b_kf
  replace n_m_kf : h_8.2.1 m_kf = F_kf := (funext fun j => (hs.a g_m_kf rfl j).1).trans n_m_kf
  replace n_b_sf : h_8.2.1 b_sf = B_sf := (funext fun j => (hs.a g_b_sf rfl j).1).trans n_b_sf
  replace n_m_sf : h_8.2.1 m_sf = F_sf := (funext fun j => (hs.a g_m_sf rfl j).1).trans n_m_sf
  replace n_b_bf : h_8.2.1 b_bf = bfL := (funext fun j => (hs.a g_b_bf rfl j).1).trans n_b_bf
  replace n_lst : h_8.2.1 m_lst = F_lst := (funext fun j => (hs.a g_m_lst rfl j).1).trans n_lst
  replace n_tp : h_8.2.1 m_tp = F_tp := (funext fun j => (hs.a g_m_tp rfl j).1).trans n_tp
  replace n_qtp : h_8.2.1 qtp = F_tp := (funext fun j => (hs.a g_qtp rfl j).1).trans n_qtp
  replace n_dead : h_8.2.1 m_dead = F_dead := (funext fun j => (hs.a g_m_dead rfl j).1).trans n_dead
  replace n_isj : h_8.2.1 m_isj = F_isj := (funext fun j => (hs.a g_m_isj rfl j).1).trans n_isj
  replace n_dox : h_8.2.1 m_dox = F_dox := (funext fun j => (hs.a g_m_dox rfl j).1).trans n_dox
  replace n_doy : h_8.2.1 m_doy = F_doy := (funext fun j => (hs.a g_m_doy rfl j).1).trans n_doy
  replace n_qlt : h_8.2.1 qlt = F_qlt := (funext fun j => (hs.a g_qlt rfl j).1).trans n_qlt
  replace n_m_wkd : h_8.2.1 m_wkd = F_m_wkd := (funext fun j => (hs.a g_m_wkd rfl j).1).trans n_m_wkd
  replace n_aga : h_8.2.1 m_aga = F_aga := (funext fun j => (hs.a g_m_aga rfl j).1).trans n_aga
  replace n_ad : h_8.2.1 m_ad = F_ad := (funext fun j => (hs.a g_m_ad rfl j).1).trans n_ad
  replace n_by : h_8.2.1 m_by = F_by := (funext fun j => (hs.a g_m_by rfl j).1).trans n_by
  replace n_ho : h_8.2.1 m_ho = F_ho := (funext fun j => (hs.a g_m_ho rfl j).1).trans n_ho
  replace n_fc : h_8.2.1 m_fc = F_fc := (funext fun j => (hs.a g_m_fc rfl j).1).trans n_fc
  replace n_nt : h_8.2.1 m_nt = F_nt := (funext fun j => (hs.a g_m_nt rfl j).1).trans n_nt
  replace n_wt : h_8.2.1 m_wt = F_wt := (funext fun j => (hs.a g_m_wt rfl j).1).trans n_wt
  replace n_be : h_8.2.1 m_be = F_be := (funext fun j => (hs.a g_m_be rfl j).1).trans n_be
  replace n_bor : h_8.2.1 m_bor = F_bor := (funext fun j => (hs.a g_m_bor rfl j).1).trans n_bor
  replace n_kin : h_8.2.1 m_kin = F_kin := (funext fun j => (hs.a g_m_kin rfl j).1).trans n_kin
  replace n_sum : h_8.2.1 m_sum = F_sum := (funext fun j => (hs.a g_m_sum rfl j).1).trans n_sum
  replace n_fro : h_8.2.1 m_fro = F_fro := (funext fun j => (hs.a g_m_fro rfl j).1).trans n_fro
  replace n_fil : h_8.2.1 m_fil = F_fil := (funext fun j => (hs.a g_m_fil rfl j).1).trans n_fil
  replace n_jud : h_8.2.1 m_jud = F_jud := (funext fun j => (hs.a g_m_jud rfl j).1).trans n_jud
  replace n_ear : h_8.2.1 m_ear = F_ear := (funext fun j => (hs.a g_m_ear rfl j).1).trans n_ear
  replace n_hds : h_8.2.1 m_hds = F_hds := (funext fun j => (hs.a g_m_hds rfl j).1).trans n_hds
  replace n_ord : h_8.2.1 m_ord = F_ord := (funext fun j => (hs.a g_m_ord rfl j).1).trans n_ord
  replace n_wkl : h_8.2.1 m_wkl = F_wkl := (funext fun j => (hs.a g_m_wkl rfl j).1).trans n_wkl
  replace n_owd : h_8.2.1 m_owd = F_owd := (funext fun j => (hs.a g_m_owd rfl j).1).trans n_owd
  replace n_gds : h_8.2.1 m_gds = F_gds := (funext fun j => (hs.a g_m_gds rfl j).1).trans n_gds
  replace n_szd : h_8.2.1 m_szd = F_szd := (funext fun j => (hs.a g_m_szd rfl j).1).trans n_szd
  replace n_srv : h_8.2.1 m_srv = F_srv := (funext fun j => (hs.a g_m_srv rfl j).1).trans n_srv
  replace n_p0 : h_8.2.1 m_p0 = F_p0 := (funext fun j => (hs.a g_m_p0 rfl j).1).trans n_p0
  replace n_y_p0 : h_8.2.1 y_p0 = F_p0 := (funext fun j => (hs.a g_y_p0 rfl j).1).trans n_y_p0
  replace n_p1 : h_8.2.1 m_p1 = F_p1 := (funext fun j => (hs.a g_m_p1 rfl j).1).trans n_p1
  replace n_y_p1 : h_8.2.1 y_p1 = F_p1 := (funext fun j => (hs.a g_y_p1 rfl j).1).trans n_y_p1
  replace n_p2 : h_8.2.1 m_p2 = F_p2 := (funext fun j => (hs.a g_m_p2 rfl j).1).trans n_p2
  replace n_y_p2 : h_8.2.1 y_p2 = F_p2 := (funext fun j => (hs.a g_y_p2 rfl j).1).trans n_y_p2
  replace n_p3 : h_8.2.1 m_p3 = F_p3 := (funext fun j => (hs.a g_m_p3 rfl j).1).trans n_p3
  replace n_y_p3 : h_8.2.1 y_p3 = F_p3 := (funext fun j => (hs.a g_y_p3 rfl j).1).trans n_y_p3
  replace n_p4 : h_8.2.1 m_p4 = F_p4 := (funext fun j => (hs.a g_m_p4 rfl j).1).trans n_p4
  replace n_y_p4 : h_8.2.1 y_p4 = F_p4 := (funext fun j => (hs.a g_y_p4 rfl j).1).trans n_y_p4
  replace n_y_ls : h_8.2.1 y_ls = F_y_ls := (funext fun j => (hs.a g_y_ls rfl j).1).trans n_y_ls
  replace n_m_rl : h_8.2.1 m_rl = F_m_rl := (funext fun j => (hs.a g_m_rl rfl j).1).trans n_m_rl
  replace gx := gx.S hs
  replace gm := gm.S hs
  replace g_qa := g_qa.S hs
  replace g_qp := g_qp.S hs
  replace g_qc := g_qc.S hs
  replace g_qh := g_qh.S hs
  replace g_qw := g_qw.S hs
  replace g_ql := g_ql.S hs
  replace g_mw := g_mw.S hs
  replace g_mr := g_mr.S hs
  replace g_mp := g_mp.S hs
  replace g_mn := g_mn.S hs
  replace g_ml := g_ml.S hs
  replace g_mh := g_mh.S hs
  replace g_mt := g_mt.S hs
  replace g_m_fou := g_m_fou.S hs
  replace g_qo_ln := g_qo_ln.S hs
  replace g_qo_py := g_qo_py.S hs
  replace g_b_of := g_b_of.S hs
  replace g_m_of := g_m_of.S hs
  replace g_b_wf := g_b_wf.S hs
  replace g_m_wf := g_m_wf.S hs
  replace g_b_df := g_b_df.S hs
  replace g_m_df := g_m_df.S hs
  replace g_b_kf := g_b_kf.S hs
  replace g_m_kf := g_m_kf.S hs
  replace g_b_sf := g_b_sf.S hs
  replace g_m_sf := g_m_sf.S hs
  replace g_b_bf := g_b_bf.S hs
  replace g_m_lst := g_m_lst.S hs
  replace g_qtp := g_qtp.S hs
  replace g_m_tp := g_m_tp.S hs
  replace g_m_dead := g_m_dead.S hs
  replace g_m_isj := g_m_isj.S hs
  replace g_m_dox := g_m_dox.S hs
  replace g_m_doy := g_m_doy.S hs
  replace g_qlt := g_qlt.S hs
  replace g_qlf := g_qlf.S hs
  replace g_m_wkd := g_m_wkd.S hs
  replace g_m_aga := g_m_aga.S hs
  replace g_qwo := g_qwo.S hs
  replace g_m_ad := g_m_ad.S hs
  replace g_m_by := g_m_by.S hs
  replace g_m_ho := g_m_ho.S hs
  replace g_m_fc := g_m_fc.S hs
  replace g_m_nt := g_m_nt.S hs
  replace g_m_wt := g_m_wt.S hs
  replace g_m_be := g_m_be.S hs
  replace g_m_bor := g_m_bor.S hs
  replace g_m_kin := g_m_kin.S hs
  replace g_m_sum := g_m_sum.S hs
  replace g_m_fro := g_m_fro.S hs
  replace g_m_fil := g_m_fil.S hs
  replace g_m_jud := g_m_jud.S hs
  replace g_m_ear := g_m_ear.S hs
  replace g_m_hds := g_m_hds.S hs
  replace g_m_ord := g_m_ord.S hs
  replace g_m_wkl := g_m_wkl.S hs
  replace g_m_owd := g_m_owd.S hs
  replace g_m_gds := g_m_gds.S hs
  replace g_m_szd := g_m_szd.S hs
  replace g_m_srv := g_m_srv.S hs
  replace g_y_p0 := g_y_p0.S hs
  replace g_m_p0 := g_m_p0.S hs
  replace g_y_p1 := g_y_p1.S hs
  replace g_m_p1 := g_m_p1.S hs
  replace g_y_p2 := g_y_p2.S hs
  replace g_m_p2 := g_m_p2.S hs
  replace g_y_p3 := g_y_p3.S hs
  replace g_m_p3 := g_m_p3.S hs
  replace g_y_p4 := g_y_p4.S hs
  replace g_m_p4 := g_m_p4.S hs
  replace g_qrg9 := g_qrg9.S hs
  replace g_y_ls := g_y_ls.S hs
  replace g_m_rl := g_m_rl.S hs
  have fw_12 : h_8.2.1 ax 2 = w_12 := fw_12
  have bw_12 := hT.gi gx tt_9 (k := 2) rfl
  rw [fw_12] at bw_12
  have bw_12 : 0 ≤ w_12.toInt ∧ w_12.toInt ≤ 7999 := bw_12
  refine lv_pop hx hb dL_law_181 rfl ?_
  refine lv_aload_n hx hb dL_law_182 rfl (lv_at hl 1 rfl) ?_
  refine lv_aload_n hx hb dL_law_183 rfl (lv_at hl 3 rfl) ?_
  refine lv_iload_n hx hb dL_law_184 rfl (lv_at hl 0 rfl) ?_
  refine lv_iconst (v := 1) hx hb dL_law_185 ?o20 ?_
  case o20 => decide
  refine lv_iadd hx hb dL_law_186 ?_
  refine lv_topi (fun x_13 ex_13 => ?_)
  have zx_13 : x_13.toInt = i.toInt + 1 := ?o21
  case o21 =>
    rw [ex_13]
    refine i32_add rfl ?o22 ?o23 ?o24
    case o22 => decide
    case o23 => omega
    case o24 => omega
  obtain rfl : x_5 = x_13 := ex_5.trans ex_13.symm
  refine va_sld hx hb hX hbl hbA hW.2.2.2.1 (vp_in_iff.mpr ⟨?o25, ?o26⟩) dL_law_187 ?_
  case o25 => omega
  case o26 => omega
  refine lv_topi (fun x_14 ex_14 => ?_)
  obtain rfl : x_6 = x_14 := ex_6.trans ex_14.symm
  have hTo := hT
  refine hx_goi (hx_runV (As := [.int x_6]) (rest := []) ⟨hx, hb, hml, hown, hts⟩ hW gm tt_10 (T := TX10) (N := 98) rfl (t_X10_clock l dC dI dA L_7 h_8 H.size am x_6 hT gm nw f_m_now) (cwV 1 hts (hx_gV kw_1442 kw_1439 kw_1440 kw_1441 kw_103) rfl rfl rfl (by decide +kernel) ⟨Nat.le_of_ble_eq_true rfl, Nat.le_of_ble_eq_true rfl⟩) rfl hl.1 rfl (Nat.le_of_ble_eq_true rfl) dL_law_188 ⟨(show CC + 0 + 0 ≤ 600000 from ?o27), (show SS + 0 + 0 ≤ 7302250 from ?o28)⟩) hW (fun r_17 L_15 h_16 H locs p_18 hW => ?_)
  case o27 => omega
  case o28 => omega
  obtain ⟨⟨w_20, fw_20, hr_19⟩, hT, hs⟩ := p_18
  replace hT : hx_T T_tb L_15 h_16 := hT
  replace hs : hx_S T_tb [(10, 0)] L_7 h_8 L_15 h_16 := hs
  replace f_qa := (hs.o gx trivial rfl).2.trans f_qa
  replace f_qp := (hs.o gx trivial rfl).2.trans f_qp
  replace f_qc := (hs.o gx trivial rfl).2.trans f_qc
  replace f_qh := (hs.o gx trivial rfl).2.trans f_qh
  replace f_qw := (hs.o gx trivial rfl).2.trans f_qw
  replace f_ql := (hs.o g_qw trivial rfl).2.trans f_ql
  replace f_m_persons := (hs.o gm trivial rfl).1.trans f_m_persons
  replace f_m_claims := (hs.o gm trivial rfl).1.trans f_m_claims
  replace f_m_taped := (hs.o gm trivial rfl).1.trans f_m_taped
  replace f_m_acts := (hs.o gm trivial rfl).1.trans f_m_acts
  replace f_m_heardMany := (hs.o gm trivial rfl).1.trans f_m_heardMany
  replace f_m_lines := (hs.o gm trivial rfl).1.trans f_m_lines
  replace f_m_listed := (hs.o gm trivial rfl).1.trans f_m_listed
  replace f_m_walkedMany := (hs.o gm trivial rfl).1.trans f_m_walkedMany
  replace f_m_payments := (hs.o gm trivial rfl).1.trans f_m_payments
  replace f_x_personCount := (hs.o gx trivial rfl).1.trans f_x_personCount
  replace f_x_claimCount := (hs.o gx trivial rfl).1.trans f_x_claimCount
  replace f_x_tapeLength := (hs.o gx trivial rfl).1.trans f_x_tapeLength
  replace f_x_actCount := (hs.o gx trivial rfl).1.trans f_x_actCount
  replace f_x_heardCount := (hs.o gx trivial rfl).1.trans f_x_heardCount
  replace f_mw := (hs.o gm trivial rfl).2.trans f_mw
  replace f_mr := (hs.o gm trivial rfl).2.trans f_mr
  replace f_mp := (hs.o gm trivial rfl).2.trans f_mp
  replace f_mn := (hs.o gm trivial rfl).2.trans f_mn
  replace f_ml := (hs.o gm trivial rfl).2.trans f_ml
  replace f_mh := (hs.o gm trivial rfl).2.trans f_mh
  replace f_mt := (hs.o gm trivial rfl).2.trans f_mt
  replace f_m_fou := (hs.o gm trivial rfl).2.trans f_m_fou
  replace f_qo_ln := (hs.o gx trivial rfl).2.trans f_qo_ln
  replace f_o_ln := (hs.o g_qo_ln trivial rfl).1.trans f_o_ln
  replace f_o_lsd := (hs.o g_qw trivial rfl).1.trans f_o_lsd
  replace f_o_wkm := (hs.o g_qw trivial rfl).1.trans f_o_wkm
  replace f_qo_py := (hs.o gx trivial rfl).2.trans f_qo_py
  replace f_o_py := (hs.o g_qo_py trivial rfl).1.trans f_o_py
  replace f_b_of := (hs.o g_qo_ln trivial rfl).2.trans f_b_of
  replace f_m_of := (hs.o gm trivial rfl).2.trans f_m_of
  replace f_b_wf := (hs.o g_qo_ln trivial rfl).2.trans f_b_wf
  replace f_m_wf := (hs.o gm trivial rfl).2.trans f_m_wf
  replace f_b_df := (hs.o g_qo_ln trivial rfl).2.trans f_b_df
  replace f_m_df := (hs.o gm trivial rfl).2.trans f_m_df
  replace f_b_kf := (hs.o g_qo_ln trivial rfl).2.trans f_b_kf
  replace f_m_kf := (hs.o gm trivial rfl).2.trans f_m_kf
  replace f_b_sf := (hs.o g_qo_ln trivial rfl).2.trans f_b_sf
  replace f_m_sf := (hs.o gm trivial rfl).2.trans f_m_sf
  replace f_b_bf := (hs.o g_qo_ln trivial rfl).2.trans f_b_bf
  replace f_m_lst := (hs.o gm trivial rfl).2.trans f_m_lst
  replace f_qtp := (hs.o gx trivial rfl).2.trans f_qtp
  replace f_m_tp := (hs.o gm trivial rfl).2.trans f_m_tp
  replace f_m_dead := (hs.o gm trivial rfl).2.trans f_m_dead
  replace f_m_isj := (hs.o gm trivial rfl).2.trans f_m_isj
  replace f_m_dox := (hs.o gm trivial rfl).2.trans f_m_dox
  replace f_m_doy := (hs.o gm trivial rfl).2.trans f_m_doy
  replace f_qlt := (hs.o g_qw trivial rfl).2.trans f_qlt
  replace f_qlf := (hs.o g_qw trivial rfl).2.trans f_qlf
  replace f_m_wkd := (hs.o gm trivial rfl).2.trans f_m_wkd
  replace f_m_aga := (hs.o gm trivial rfl).2.trans f_m_aga
  replace f_qwo := (hs.o gx trivial rfl).2.trans f_qwo
  replace f_m_ad := (hs.o gm trivial rfl).2.trans f_m_ad
  replace f_m_by := (hs.o gm trivial rfl).2.trans f_m_by
  replace f_m_ho := (hs.o gm trivial rfl).2.trans f_m_ho
  replace f_m_fc := (hs.o gm trivial rfl).2.trans f_m_fc
  replace f_m_nt := (hs.o gm trivial rfl).2.trans f_m_nt
  replace f_m_wt := (hs.o gm trivial rfl).2.trans f_m_wt
  replace f_m_be := (hs.o gm trivial rfl).2.trans f_m_be
  replace f_m_bor := (hs.o gm trivial rfl).2.trans f_m_bor
  replace f_m_kin := (hs.o gm trivial rfl).2.trans f_m_kin
  replace f_m_sum := (hs.o gm trivial rfl).2.trans f_m_sum
  replace f_m_fro := (hs.o gm trivial rfl).2.trans f_m_fro
  replace f_m_fil := (hs.o gm trivial rfl).2.trans f_m_fil
  replace f_m_jud := (hs.o gm trivial rfl).2.trans f_m_jud
  replace f_m_ear := (hs.o gm trivial rfl).2.trans f_m_ear
  replace f_m_hds := (hs.o gm trivial rfl).2.trans f_m_hds
  replace f_m_ord := (hs.o gm trivial rfl).2.trans f_m_ord
  replace f_m_wkl := (hs.o gm trivial rfl).2.trans f_m_wkl
  replace f_m_owd := (hs.o gm trivial rfl).2.trans f_m_owd
  replace f_m_gds := (hs.o gm trivial rfl).2.trans f_m_gds
  replace f_m_szd := (hs.o gm trivial rfl).2.trans f_m_szd
  replace f_m_srv := (hs.o gm trivial rfl).2.trans f_m_srv
  replace f_y_p0 := (hs.o g_qo_py trivial rfl).2.trans f_y_p0
  replace f_m_p0 := (hs.o gm trivial rfl).2.trans f_m_p0
  replace f_y_p1 := (hs.o g_qo_py trivial rfl).2.trans f_y_p1
  replace f_m_p1 := (hs.o gm trivial rfl).2.trans f_m_p1
  replace f_y_p2 := (hs.o g_qo_py trivial rfl).2.trans f_y_p2
  replace f_m_p2 := (hs.o gm trivial rfl).2.trans f_m_p2
  replace f_y_p3 := (hs.o g_qo_py trivial rfl).2.trans f_y_p3
  replace f_m_p3 := (hs.o gm trivial rfl).2.trans f_m_p3
  replace f_y_p4 := (hs.o g_qo_py trivial rfl).2.trans f_y_p4
  replace f_m_p4 := (hs.o gm trivial rfl).2.trans f_m_p4
  replace f_qrg9 := (hs.o gx trivial rfl).2.trans f_qrg9
  replace f_y_ls := (hs.o g_qrg9 trivial rfl).2.trans f_y_ls
  replace f_m_rl := (hs.o gm trivial rfl).2.trans f_m_rl
  replace ffv_1 := (hs.o g_qrg9 trivial rfl).1.trans ffv_1
  replace ffv_2 := (hs.o gm trivial rfl).1.trans ffv_2
  replace ffv_3 := (hs.o gm trivial rfl).1.trans ffv_3
  replace fw_12 := (hs.o gx trivial rfl).1.trans fw_12
  replace pf_qa : ∀ j : Nat, (j : Int) < (h_16.2.1 ax 6).toInt → h_16.2.2 qa j ≠ none := by
    intro j hj; rw [(hs.o gx trivial rfl).1] at hj; rw [(hs.a g_qa rfl j).2]; exact pf_qa j hj
  replace pf_qp : ∀ j : Nat, (j : Int) < (h_16.2.1 ax 8).toInt → h_16.2.2 qp j ≠ none := by
    intro j hj; rw [(hs.o gx trivial rfl).1] at hj; rw [(hs.a g_qp rfl j).2]; exact pf_qp j hj
  replace pf_qc : ∀ j : Nat, (j : Int) < (h_16.2.1 ax 11).toInt → h_16.2.2 qc j ≠ none := by
    intro j hj; rw [(hs.o gx trivial rfl).1] at hj; rw [(hs.a g_qc rfl j).2]; exact pf_qc j hj
  replace pf_qh : ∀ j : Nat, (j : Int) < (h_16.2.1 ax 13).toInt → h_16.2.2 qh j ≠ none := by
    intro j hj; rw [(hs.o gx trivial rfl).1] at hj; rw [(hs.a g_qh rfl j).2]; exact pf_qh j hj
  replace pf_ql : ∀ j : Nat, (j : Int) < (h_16.2.1 qw 0).toInt → h_16.2.2 ql j ≠ none := by
    intro j hj; rw [(hs.o g_qw trivial rfl).1] at hj; rw [(hs.a g_ql rfl j).2]; exact pf_ql j hj
  replace cl_lst : hx_col 8 h_16 ql 0 = c_lst := (hx_col_S hs hTo g_ql tt_40 tt_2 rfl rfl).trans cl_lst
  replace cl_dead : hx_col 40 h_16 qp 7 = c_dead := (hx_col_S hs hTo g_qp tt_44 tt_4 rfl rfl).trans cl_dead
  replace cl_isj : hx_col 40 h_16 qp 8 = c_isj := (hx_col_S hs hTo g_qp tt_44 tt_4 rfl rfl).trans cl_isj
  replace cl_dox : hx_col 40 h_16 qp 5 = c_dox := (hx_col_S hs hTo g_qp tt_44 tt_4 rfl rfl).trans cl_dox
  replace cl_doy : hx_col 40 h_16 qp 6 = c_doy := (hx_col_S hs hTo g_qp tt_44 tt_4 rfl rfl).trans cl_doy
  replace cl_fou : hx_col 100 h_16 qc 10 = c_fou := (hx_col_S hs hTo g_qc tt_45 tt_2 rfl rfl).trans cl_fou
  replace cl_tri : hx_col 100 h_16 qc 9 = c_tri := (hx_col_S hs hTo g_qc tt_45 tt_2 rfl rfl).trans cl_tri
  replace cl_bor : hx_col 40 h_16 qp 1 = F_bor := (hx_col_S hs hTo g_qp tt_44 tt_4 rfl rfl).trans cl_bor
  replace cl_kin : hx_col 40 h_16 qp 2 = F_kin := (hx_col_S hs hTo g_qp tt_44 tt_4 rfl rfl).trans cl_kin
  replace cl_sum : hx_col 100 h_16 qc 6 = F_sum := (hx_col_S hs hTo g_qc tt_45 tt_2 rfl rfl).trans cl_sum
  replace cl_fro : hx_col 100 h_16 qc 7 = F_fro := (hx_col_S hs hTo g_qc tt_45 tt_2 rfl rfl).trans cl_fro
  replace cl_fil : hx_col 100 h_16 qc 8 = F_fil := (hx_col_S hs hTo g_qc tt_45 tt_2 rfl rfl).trans cl_fil
  replace cl_hea : hx_col 100 h_16 qc 11 = F_mh := (hx_col_S hs hTo g_qc tt_45 tt_2 rfl rfl).trans cl_hea
  replace cl_jud : hx_col 100 h_16 qc 12 = F_jud := (hx_col_S hs hTo g_qc tt_45 tt_2 rfl rfl).trans cl_jud
  replace cl_ear : hx_col 40 h_16 qp 3 = F_ear := (hx_col_S hs hTo g_qp tt_44 tt_4 rfl rfl).trans cl_ear
  replace cl_hds : hx_col 40 h_16 qp 4 = F_hds := (hx_col_S hs hTo g_qp tt_44 tt_4 rfl rfl).trans cl_hds
  replace cl_ord : hx_col 100 h_16 qc 13 = F_ord := (hx_col_S hs hTo g_qc tt_45 tt_2 rfl rfl).trans cl_ord
  replace cl_wkl : hx_col 100 h_16 qc 14 = F_wkl := (hx_col_S hs hTo g_qc tt_45 tt_2 rfl rfl).trans cl_wkl
  replace cl_owd : hx_col 100 h_16 qc 15 = F_owd := (hx_col_S hs hTo g_qc tt_45 tt_2 rfl rfl).trans cl_owd
  replace cl_gds : hx_col 100 h_16 qc 17 = F_gds := (hx_col_S hs hTo g_qc tt_45 tt_2 rfl rfl).trans cl_gds
  replace cl_szd : hx_col 100 h_16 qc 16 = F_szd := (hx_col_S hs hTo g_qc tt_45 tt_2 rfl rfl).trans cl_szd
  replace cl_srv : hx_col 100 h_16 qc 18 = F_srv := (hx_col_S hs hTo g_qc tt_45 tt_2 rfl rfl).trans cl_srv
  replace nu_qp : hx_num 40 h_16 qp 0 (np.toInt) := hx_num_S hs hTo g_qp tt_44 tt_4 rfl rfl nu_qp
  replace nu_qc : hx_num 100 h_16 qc 0 (c0.toInt) := hx_num_S hs hTo g_qc tt_45 tt_2 rfl rfl nu_qc
  replace sb_list : hx_LQ 8 100 h_16 ql qc := hx_LQ_S hs g_ql g_qc rfl rfl sb_list
  replace hDF : hw_DF h_16 qc qp 2 F_aga c0.toInt := hw_DF_S hs hTo g_qc g_qp tt_45 tt_2 rfl rfl rfl hDF
  replace hRA9 : hv_RA h_16 qa qwo a0.toInt A9 := hv_RA_S hs hTo g_qa g_qwo tt_43 tt_0 rfl rfl rfl rfl rfl rfl ?o29 hRA9
  case o29 => omega
  replace hDP : hw_DF h_16 qc qp 1 F_by c0.toInt := hw_DF_S hs hTo g_qc g_qp tt_45 tt_2 rfl rfl rfl hDP
  replace hAC9 : hv_AC h_16 qc F_ml c0.toInt A9 := hv_AC_S hs hTo g_qc tt_45 tt_2 rfl tt_0 rfl rfl rfl rfl rfl rfl rfl hAC9
  replace hFX : hv_FX 8 4 h_16 qc cF9L c0.toInt := hv_FX_S hs hTo g_qc tt_45 tt_2 rfl rfl rfl rfl hFX
  replace hBX : hv_FX 3 5 h_16 qc F_be c0.toInt := hv_FX_S hs hTo g_qc tt_45 tt_2 rfl rfl rfl rfl hBX
  replace hHL : hv_HL h_16 qh qc F_ho m0.toInt c0.toInt := hv_HL_S hs g_qh g_qc rfl rfl hHL
  replace n_mw : h_16.2.1 mw = F_mw := (funext fun j => (hs.a g_mw rfl j).1).trans n_mw
  replace n_mr : h_16.2.1 mr = F_mr := (funext fun j => (hs.a g_mr rfl j).1).trans n_mr
  replace n_mp : h_16.2.1 mp = F_mp := (funext fun j => (hs.a g_mp rfl j).1).trans n_mp
  replace n_mn : h_16.2.1 mn = F_mn := (funext fun j => (hs.a g_mn rfl j).1).trans n_mn
  replace n_ml : h_16.2.1 ml = F_ml := (funext fun j => (hs.a g_ml rfl j).1).trans n_ml
  replace n_mh : h_16.2.1 mh = F_mh := (funext fun j => (hs.a g_mh rfl j).1).trans n_mh
  replace n_mt : h_16.2.1 mt = F_mt := (funext fun j => (hs.a g_mt rfl j).1).trans n_mt
  replace n_m_fou : h_16.2.1 m_fou = F_m_fou := (funext fun j => (hs.a g_m_fou rfl j).1).trans n_m_fou
  replace n_b_of : h_16.2.1 b_of = B_of := (funext fun j => (hs.a g_b_of rfl j).1).trans n_b_of
  replace n_m_of : h_16.2.1 m_of = F_of := (funext fun j => (hs.a g_m_of rfl j).1).trans n_m_of
  replace n_b_wf : h_16.2.1 b_wf = B_wf := (funext fun j => (hs.a g_b_wf rfl j).1).trans n_b_wf
  replace n_m_wf : h_16.2.1 m_wf = F_wf := (funext fun j => (hs.a g_m_wf rfl j).1).trans n_m_wf
  replace n_b_df : h_16.2.1 b_df = B_df := (funext fun j => (hs.a g_b_df rfl j).1).trans n_b_df
  replace n_m_df : h_16.2.1 m_df = F_df := (funext fun j => (hs.a g_m_df rfl j).1).trans n_m_df
  replace n_b_kf : h_16.2.1 b_kf = B_kf := (funext fun j => (hs.a g_b_kf rfl j).1).trans n_b_kf
  replace n_m_kf : h_16.2.1 m_kf = F_kf := (funext fun j => (hs.a g_m_kf rfl j).1).trans n_m_kf
  replace n_b_sf : h_16.2.1 b_sf = B_sf := (funext fun j => (hs.a g_b_sf rfl j).1).trans n_b_sf
  replace n_m_sf : h_16.2.1 m_sf = F_sf := (funext fun j => (hs.a g_m_sf rfl j).1).trans n_m_sf
  replace n_b_bf : h_16.2.1 b_bf = bfL := (funext fun j => (hs.a g_b_bf rfl j).1).trans n_b_bf
  replace n_lst : h_16.2.1 m_lst = F_lst := (funext fun j => (hs.a g_m_lst rfl j).1).trans n_lst
  replace n_tp : h_16.2.1 m_tp = F_tp := (funext fun j => (hs.a g_m_tp rfl j).1).trans n_tp
  replace n_qtp : h_16.2.1 qtp = F_tp := (funext fun j => (hs.a g_qtp rfl j).1).trans n_qtp
  replace n_dead : h_16.2.1 m_dead = F_dead := (funext fun j => (hs.a g_m_dead rfl j).1).trans n_dead
  replace n_isj : h_16.2.1 m_isj = F_isj := (funext fun j => (hs.a g_m_isj rfl j).1).trans n_isj
  replace n_dox : h_16.2.1 m_dox = F_dox := (funext fun j => (hs.a g_m_dox rfl j).1).trans n_dox
  replace n_doy : h_16.2.1 m_doy = F_doy := (funext fun j => (hs.a g_m_doy rfl j).1).trans n_doy
  replace n_qlt : h_16.2.1 qlt = F_qlt := (funext fun j => (hs.a g_qlt rfl j).1).trans n_qlt
  replace n_m_wkd : h_16.2.1 m_wkd = F_m_wkd := (funext fun j => (hs.a g_m_wkd rfl j).1).trans n_m_wkd
  replace n_aga : h_16.2.1 m_aga = F_aga := (funext fun j => (hs.a g_m_aga rfl j).1).trans n_aga
  replace n_ad : h_16.2.1 m_ad = F_ad := (funext fun j => (hs.a g_m_ad rfl j).1).trans n_ad
  replace n_by : h_16.2.1 m_by = F_by := (funext fun j => (hs.a g_m_by rfl j).1).trans n_by
  replace n_ho : h_16.2.1 m_ho = F_ho := (funext fun j => (hs.a g_m_ho rfl j).1).trans n_ho
  replace n_fc : h_16.2.1 m_fc = F_fc := (funext fun j => (hs.a g_m_fc rfl j).1).trans n_fc
  replace n_nt : h_16.2.1 m_nt = F_nt := (funext fun j => (hs.a g_m_nt rfl j).1).trans n_nt
  replace n_wt : h_16.2.1 m_wt = F_wt := (funext fun j => (hs.a g_m_wt rfl j).1).trans n_wt
  replace n_be : h_16.2.1 m_be = F_be := (funext fun j => (hs.a g_m_be rfl j).1).trans n_be
  replace n_bor : h_16.2.1 m_bor = F_bor := (funext fun j => (hs.a g_m_bor rfl j).1).trans n_bor
  replace n_kin : h_16.2.1 m_kin = F_kin := (funext fun j => (hs.a g_m_kin rfl j).1).trans n_kin
  replace n_sum : h_16.2.1 m_sum = F_sum := (funext fun j => (hs.a g_m_sum rfl j).1).trans n_sum
  replace n_fro : h_16.2.1 m_fro = F_fro := (funext fun j => (hs.a g_m_fro rfl j).1).trans n_fro
  replace n_fil : h_16.2.1 m_fil = F_fil := (funext fun j => (hs.a g_m_fil rfl j).1).trans n_fil
  replace n_jud : h_16.2.1 m_jud = F_jud := (funext fun j => (hs.a g_m_jud rfl j).1).trans n_jud
  replace n_ear : h_16.2.1 m_ear = F_ear := (funext fun j => (hs.a g_m_ear rfl j).1).trans n_ear
  replace n_hds : h_16.2.1 m_hds = F_hds := (funext fun j => (hs.a g_m_hds rfl j).1).trans n_hds
  replace n_ord : h_16.2.1 m_ord = F_ord := (funext fun j => (hs.a g_m_ord rfl j).1).trans n_ord
  replace n_wkl : h_16.2.1 m_wkl = F_wkl := (funext fun j => (hs.a g_m_wkl rfl j).1).trans n_wkl
  replace n_owd : h_16.2.1 m_owd = F_owd := (funext fun j => (hs.a g_m_owd rfl j).1).trans n_owd
  replace n_gds : h_16.2.1 m_gds = F_gds := (funext fun j => (hs.a g_m_gds rfl j).1).trans n_gds
  replace n_szd : h_16.2.1 m_szd = F_szd := (funext fun j => (hs.a g_m_szd rfl j).1).trans n_szd
  replace n_srv : h_16.2.1 m_srv = F_srv := (funext fun j => (hs.a g_m_srv rfl j).1).trans n_srv
  replace n_p0 : h_16.2.1 m_p0 = F_p0 := (funext fun j => (hs.a g_m_p0 rfl j).1).trans n_p0
  replace n_y_p0 : h_16.2.1 y_p0 = F_p0 := (funext fun j => (hs.a g_y_p0 rfl j).1).trans n_y_p0
  replace n_p1 : h_16.2.1 m_p1 = F_p1 := (funext fun j => (hs.a g_m_p1 rfl j).1).trans n_p1
  replace n_y_p1 : h_16.2.1 y_p1 = F_p1 := (funext fun j => (hs.a g_y_p1 rfl j).1).trans n_y_p1
  replace n_p2 : h_16.2.1 m_p2 = F_p2 := (funext fun j => (hs.a g_m_p2 rfl j).1).trans n_p2
  replace n_y_p2 : h_16.2.1 y_p2 = F_p2 := (funext fun j => (hs.a g_y_p2 rfl j).1).trans n_y_p2
  replace n_p3 : h_16.2.1 m_p3 = F_p3 := (funext fun j => (hs.a g_m_p3 rfl j).1).trans n_p3
  replace n_y_p3 : h_16.2.1 y_p3 = F_p3 := (funext fun j => (hs.a g_y_p3 rfl j).1).trans n_y_p3
  replace n_p4 : h_16.2.1 m_p4 = F_p4 := (funext fun j => (hs.a g_m_p4 rfl j).1).trans n_p4
  replace n_y_p4 : h_16.2.1 y_p4 = F_p4 := (funext fun j => (hs.a g_y_p4 rfl j).1).trans n_y_p4
  replace n_y_ls : h_16.2.1 y_ls = F_y_ls := (funext fun j => (hs.a g_y_ls rfl j).1).trans n_y_ls
  replace n_m_rl : h_16.2.1 m_rl = F_m_rl := (funext fun j => (hs.a g_m_rl rfl j).1).trans n_m_rl
  replace gx := gx.S hs
  replace gm := gm.S hs
  replace g_qa := g_qa.S hs
  replace g_qp := g_qp.S hs
  replace g_qc := g_qc.S hs
  replace g_qh := g_qh.S hs
  replace g_qw := g_qw.S hs
  replace g_ql := g_ql.S hs
  replace g_mw := g_mw.S hs
  replace g_mr := g_mr.S hs
  replace g_mp := g_mp.S hs
  replace g_mn := g_mn.S hs
  replace g_ml := g_ml.S hs
  replace g_mh := g_mh.S hs
  replace g_mt := g_mt.S hs
  replace g_m_fou := g_m_fou.S hs
  replace g_qo_ln := g_qo_ln.S hs
  replace g_qo_py := g_qo_py.S hs
  replace g_b_of := g_b_of.S hs
  replace g_m_of := g_m_of.S hs
  replace g_b_wf := g_b_wf.S hs
  replace g_m_wf := g_m_wf.S hs
  replace g_b_df := g_b_df.S hs
  replace g_m_df := g_m_df.S hs
  replace g_b_kf := g_b_kf.S hs
  replace g_m_kf := g_m_kf.S hs
  replace g_b_sf := g_b_sf.S hs
  replace g_m_sf := g_m_sf.S hs
  replace g_b_bf := g_b_bf.S hs
  replace g_m_lst := g_m_lst.S hs
  replace g_qtp := g_qtp.S hs
  replace g_m_tp := g_m_tp.S hs
  replace g_m_dead := g_m_dead.S hs
  replace g_m_isj := g_m_isj.S hs
  replace g_m_dox := g_m_dox.S hs
  replace g_m_doy := g_m_doy.S hs
  replace g_qlt := g_qlt.S hs
  replace g_qlf := g_qlf.S hs
  replace g_m_wkd := g_m_wkd.S hs
  replace g_m_aga := g_m_aga.S hs
  replace g_qwo := g_qwo.S hs
  replace g_m_ad := g_m_ad.S hs
  replace g_m_by := g_m_by.S hs
  replace g_m_ho := g_m_ho.S hs
  replace g_m_fc := g_m_fc.S hs
  replace g_m_nt := g_m_nt.S hs
  replace g_m_wt := g_m_wt.S hs
  replace g_m_be := g_m_be.S hs
  replace g_m_bor := g_m_bor.S hs
  replace g_m_kin := g_m_kin.S hs
  replace g_m_sum := g_m_sum.S hs
  replace g_m_fro := g_m_fro.S hs
  replace g_m_fil := g_m_fil.S hs
  replace g_m_jud := g_m_jud.S hs
  replace g_m_ear := g_m_ear.S hs
  replace g_m_hds := g_m_hds.S hs
  replace g_m_ord := g_m_ord.S hs
  replace g_m_wkl := g_m_wkl.S hs
  replace g_m_owd := g_m_owd.S hs
  replace g_m_gds := g_m_gds.S hs
  replace g_m_szd := g_m_szd.S hs
  replace g_m_srv := g_m_srv.S hs
  replace g_y_p0 := g_y_p0.S hs
  replace g_m_p0 := g_m_p0.S hs
  replace g_y_p1 := g_y_p1.S hs
  replace g_m_p1 := g_m_p1.S hs
  replace g_y_p2 := g_y_p2.S hs
  replace g_m_p2 := g_m_p2.S hs
  replace g_y_p3 := g_y_p3.S hs
  replace g_m_p3 := g_m_p3.S hs
  replace g_y_p4 := g_y_p4.S hs
  replace g_m_p4 := g_m_p4.S hs
  replace g_qrg9 := g_qrg9.S hs
  replace g_y_ls := g_y_ls.S hs
  replace g_m_rl := g_m_rl.S hs
  have fw_20 : h_16.2.1 am 0 = w_20 := fw_20
  have bw_20 := hT.gi gm tt_10 (k := 0) rfl
  rw [fw_20] at bw_20
  have bw_20 : 0 ≤ w_20.toInt ∧ w_20.toInt ≤ 7999 := bw_20
  refine lv_pop hx hb dL_law_191 rfl ?_
  refine lv_goto (tgt := 1379) hx hb dL_law_192 ?o30 ?_
  case o30 => decide
  obtain ⟨heq, hq_nw⟩ := hx_ck hr_11 hr_19
  refine W.widen (k := CC + 3) (n := SS + 179) ?o31 ?o32 ?_
  case o31 => omega
  case o32 => omega
  refine kk L_15 h_16 H locs ls hW ⟨hT, gx, gm, ⟨(fw_12.trans hq_nw).trans fw_20.symm, f_x_personCount.trans f_m_persons.symm, f_x_claimCount.trans f_m_claims.symm, f_x_tapeLength.trans f_m_taped.symm, f_x_actCount.trans f_m_acts.symm, f_x_heardCount.trans f_m_heardMany.symm, hx_ob f_qo_ln (f_o_ln.trans f_m_lines.symm), hx_ob f_qw (f_o_lsd.trans f_m_listed.symm), hx_ob f_qw (f_o_wkm.trans f_m_walkedMany.symm), hx_ob f_qo_py (f_o_py.trans f_m_payments.symm), hx_ob f_qp ?o33, hx_ob f_qc ?o34, (fun b a r hb ha hr => ?o35), (fun b a r hb ha hr => ?o36), (fun b a r hb ha hr => ?o37), (fun b a r hb ha hr => ?o38), (fun b a r hb ha hr => ?o39), (fun b a r hb ha hr => ?o40), (fun w q c hw hq hc => ?o41), (fun w q r hw hq hr => ?o42), (fun w q r hw hq hr => ?o43), (fun c q a hc hq ha => ?o44), (fun q r hq hr => ?o45), (fun q w a b c d e p hq hw ha hb hc hd he hp => ?o46), (fun c q a hc hq ha => ?o47), (fun q c a hq hc ha => ?o48), (fun a b ha hb => ?o49), (fun c a b d e f hc ha hb hd he hf => ?o50), (fun c a hc ha => ?o51), hx_ob2 f_qp f_m_bor (cl_bor.trans n_bor.symm), hx_ob2 f_qp f_m_kin (cl_kin.trans n_kin.symm), hx_ob2 f_qc f_m_sum (cl_sum.trans n_sum.symm), hx_ob2 f_qc f_m_fro (cl_fro.trans n_fro.symm), hx_ob2 f_qc f_m_fil (cl_fil.trans n_fil.symm), hx_ob2 f_qc f_mh (cl_hea.trans n_mh.symm), hx_ob2 f_qc f_m_jud (cl_jud.trans n_jud.symm), hx_ob2 f_qp f_m_ear (cl_ear.trans n_ear.symm), hx_ob2 f_qp f_m_hds (cl_hds.trans n_hds.symm), hx_ob2 f_qc f_m_ord (cl_ord.trans n_ord.symm), hx_ob2 f_qc f_m_wkl (cl_wkl.trans n_wkl.symm), hx_ob2 f_qc f_m_owd (cl_owd.trans n_owd.symm), hx_ob2 f_qc f_m_gds (cl_gds.trans n_gds.symm), hx_ob2 f_qc f_m_szd (cl_szd.trans n_szd.symm), hx_ob2 f_qc f_m_srv (cl_srv.trans n_srv.symm), (fun p q r hp hq hr => ?o52), (fun p q r hp hq hr => ?o53), (fun p q r hp hq hr => ?o54), (fun p q r hp hq hr => ?o55), (fun p q r hp hq hr => ?o56), (fun p hp => ?o57), (fun p q r hp hq hr => ?o58), hx_ob2 f_qp f_m_dead ?o59, hx_ob2 f_qp f_m_isj ?o60, hx_ob2 f_qp f_m_dox ?o61, hx_ob2 f_qp f_m_doy ?o62, hx_ob2 f_qc f_m_fou ?o63, hx_ob2 f_qc f_mt ?o64, trivial⟩, ⟨hx_ob f_qa pf_qa, hx_ob f_qp pf_qp, hx_ob f_qc pf_qc, hx_ob f_qh pf_qh, (fun w q hw hq => ?o65)⟩, ⟨hx_ob f_mw ?o66, hx_ob f_mr ?o67, hx_ob2 f_mp f_mn ?o68, hx_ob f_ml ?o69, hx_ob f_mh ?o70, hx_ob f_mt ?o71, hx_ob2 f_mh f_m_fou ?o73⟩⟩ hl
  case o33 =>
    rw [f_x_personCount]
    exact nu_qp
  case o34 =>
    rw [f_x_claimCount]
    exact nu_qc
  case o35 =>
    obtain rfl : qo_ln = b := Option.some.inj (f_qo_ln.symm.trans hb)
    obtain rfl : b_of = a := Option.some.inj (f_b_of.symm.trans ha)
    obtain rfl : m_of = r := Option.some.inj (f_m_of.symm.trans hr)
    rw [n_b_of, n_m_of, f_o_ln]
    exact eb_of
  case o36 =>
    obtain rfl : qo_ln = b := Option.some.inj (f_qo_ln.symm.trans hb)
    obtain rfl : b_wf = a := Option.some.inj (f_b_wf.symm.trans ha)
    obtain rfl : m_wf = r := Option.some.inj (f_m_wf.symm.trans hr)
    rw [n_b_wf, n_m_wf, f_o_ln]
    exact eb_wf
  case o37 =>
    obtain rfl : qo_ln = b := Option.some.inj (f_qo_ln.symm.trans hb)
    obtain rfl : b_df = a := Option.some.inj (f_b_df.symm.trans ha)
    obtain rfl : m_df = r := Option.some.inj (f_m_df.symm.trans hr)
    rw [n_b_df, n_m_df, f_o_ln]
    exact eb_df
  case o38 =>
    obtain rfl : qo_ln = b := Option.some.inj (f_qo_ln.symm.trans hb)
    obtain rfl : b_kf = a := Option.some.inj (f_b_kf.symm.trans ha)
    obtain rfl : m_kf = r := Option.some.inj (f_m_kf.symm.trans hr)
    rw [n_b_kf, n_m_kf, f_o_ln]
    exact eb_kf
  case o39 =>
    obtain rfl : qo_ln = b := Option.some.inj (f_qo_ln.symm.trans hb)
    obtain rfl : b_sf = a := Option.some.inj (f_b_sf.symm.trans ha)
    obtain rfl : m_sf = r := Option.some.inj (f_m_sf.symm.trans hr)
    rw [n_b_sf, n_m_sf, f_o_ln]
    exact eb_sf
  case o40 =>
    obtain rfl : qo_ln = b := Option.some.inj (f_qo_ln.symm.trans hb)
    obtain rfl : b_df = a := Option.some.inj (f_b_df.symm.trans ha)
    obtain rfl : b_bf = r := Option.some.inj (f_b_bf.symm.trans hr)
    rw [n_b_df, n_b_bf, f_o_ln]
    exact ⟨hBD, hDY⟩
  case o41 =>
    obtain rfl : qw = w := Option.some.inj (f_qw.symm.trans hw)
    obtain rfl : ql = q := Option.some.inj (f_ql.symm.trans hq)
    obtain rfl : qc = c := Option.some.inj (f_qc.symm.trans hc)
    exact sb_list
  case o42 =>
    obtain rfl : qw = w := Option.some.inj (f_qw.symm.trans hw)
    obtain rfl : ql = q := Option.some.inj (f_ql.symm.trans hq)
    obtain rfl : m_lst = r := Option.some.inj (f_m_lst.symm.trans hr)
    rw [cl_lst, n_lst]
    exact eq_lst
  case o43 =>
    obtain rfl : qw = w := Option.some.inj (f_qw.symm.trans hw)
    obtain rfl : qlt = q := Option.some.inj (f_qlt.symm.trans hq)
    obtain rfl : m_wkd = r := Option.some.inj (f_m_wkd.symm.trans hr)
    rw [n_qlt, n_m_wkd, f_o_wkm]
    exact eb_wkd
  case o44 =>
    obtain rfl : qc = c := Option.some.inj (f_qc.symm.trans hc)
    obtain rfl : qp = q := Option.some.inj (f_qp.symm.trans hq)
    obtain rfl : m_aga = a := Option.some.inj (f_m_aga.symm.trans ha)
    rw [n_aga, f_x_claimCount]
    exact hw_DF_e hDF rfl rfl
  case o45 =>
    obtain rfl : qtp = q := Option.some.inj (f_qtp.symm.trans hq)
    obtain rfl : m_tp = r := Option.some.inj (f_m_tp.symm.trans hr)
    exact n_qtp.trans n_tp.symm
  case o46 =>
    obtain rfl : qa = q := Option.some.inj (f_qa.symm.trans hq)
    obtain rfl : qwo = w := Option.some.inj (f_qwo.symm.trans hw)
    obtain rfl : m_ad = a := Option.some.inj (f_m_ad.symm.trans ha)
    obtain rfl : mr = b := Option.some.inj (f_mr.symm.trans hb)
    obtain rfl : mn = c := Option.some.inj (f_mn.symm.trans hc)
    obtain rfl : mp = d := Option.some.inj (f_mp.symm.trans hd)
    obtain rfl : qc = e := Option.some.inj (f_qc.symm.trans he)
    obtain rfl : ml = p := Option.some.inj (f_ml.symm.trans hp)
    exact ⟨_, by rw [f_x_actCount]; exact hRA9, by rw [f_x_actCount, n_ad, n_mr, n_mn, n_mp]; exact hCA9, by rw [n_ml, f_x_claimCount]; exact hv_AC_e hAC9 rfl rfl rfl, hAB⟩
  case o47 =>
    obtain rfl : qc = c := Option.some.inj (f_qc.symm.trans hc)
    obtain rfl : qp = q := Option.some.inj (f_qp.symm.trans hq)
    obtain rfl : m_by = a := Option.some.inj (f_m_by.symm.trans ha)
    rw [n_by, f_x_claimCount]
    exact hw_DF_e hDP rfl rfl
  case o48 =>
    obtain rfl : qh = q := Option.some.inj (f_qh.symm.trans hq)
    obtain rfl : qc = c := Option.some.inj (f_qc.symm.trans hc)
    obtain rfl : m_ho = a := Option.some.inj (f_m_ho.symm.trans ha)
    rw [n_ho, f_x_heardCount, f_x_claimCount]
    exact hv_HL_e hHL rfl rfl rfl
  case o49 =>
    obtain rfl : m_ho = a := Option.some.inj (f_m_ho.symm.trans ha)
    obtain rfl : mh = b := Option.some.inj (f_mh.symm.trans hb)
    rw [n_ho, n_mh, f_m_heardMany, f_m_claims]
    exact hHO9
  case o50 =>
    obtain rfl : qc = c := Option.some.inj (f_qc.symm.trans hc)
    obtain rfl : m_fc = a := Option.some.inj (f_m_fc.symm.trans ha)
    obtain rfl : m_nt = b := Option.some.inj (f_m_nt.symm.trans hb)
    obtain rfl : m_wt = d := Option.some.inj (f_m_wt.symm.trans hd)
    obtain rfl : m_sum = e := Option.some.inj (f_m_sum.symm.trans he)
    obtain rfl : mh = f := Option.some.inj (f_mh.symm.trans hf)
    exact ⟨cF9L, by rw [f_x_claimCount]; exact hFX, by rw [n_fc, n_nt, n_wt, n_sum, n_mh, f_x_claimCount]; exact hFR9⟩
  case o51 =>
    obtain rfl : qc = c := Option.some.inj (f_qc.symm.trans hc)
    obtain rfl : m_be = a := Option.some.inj (f_m_be.symm.trans ha)
    rw [n_be, f_x_claimCount]
    exact hv_FX_e hBX rfl rfl
  case o52 =>
    obtain rfl : qo_py = p := Option.some.inj (f_qo_py.symm.trans hp)
    obtain rfl : y_p0 = q := Option.some.inj (f_y_p0.symm.trans hq)
    obtain rfl : m_p0 = r := Option.some.inj (f_m_p0.symm.trans hr)
    exact n_y_p0.trans n_p0.symm
  case o53 =>
    obtain rfl : qo_py = p := Option.some.inj (f_qo_py.symm.trans hp)
    obtain rfl : y_p1 = q := Option.some.inj (f_y_p1.symm.trans hq)
    obtain rfl : m_p1 = r := Option.some.inj (f_m_p1.symm.trans hr)
    exact n_y_p1.trans n_p1.symm
  case o54 =>
    obtain rfl : qo_py = p := Option.some.inj (f_qo_py.symm.trans hp)
    obtain rfl : y_p2 = q := Option.some.inj (f_y_p2.symm.trans hq)
    obtain rfl : m_p2 = r := Option.some.inj (f_m_p2.symm.trans hr)
    exact n_y_p2.trans n_p2.symm
  case o55 =>
    obtain rfl : qo_py = p := Option.some.inj (f_qo_py.symm.trans hp)
    obtain rfl : y_p3 = q := Option.some.inj (f_y_p3.symm.trans hq)
    obtain rfl : m_p3 = r := Option.some.inj (f_m_p3.symm.trans hr)
    exact n_y_p3.trans n_p3.symm
  case o56 =>
    obtain rfl : qo_py = p := Option.some.inj (f_qo_py.symm.trans hp)
    obtain rfl : y_p4 = q := Option.some.inj (f_y_p4.symm.trans hq)
    obtain rfl : m_p4 = r := Option.some.inj (f_m_p4.symm.trans hr)
    exact n_y_p4.trans n_p4.symm
  case o57 =>
    obtain rfl : qrg9 = p := Option.some.inj (f_qrg9.symm.trans hp)
    rw [ffv_1, ffv_2, ffv_3]
    exact hNQ9
  case o58 =>
    obtain rfl : qrg9 = p := Option.some.inj (f_qrg9.symm.trans hp)
    obtain rfl : y_ls = q := Option.some.inj (f_y_ls.symm.trans hq)
    obtain rfl : m_rl = r := Option.some.inj (f_m_rl.symm.trans hr)
    rw [n_y_ls, n_m_rl, ffv_1]
    exact hRL9
  case o59 =>
    rw [cl_dead, n_dead]
    exact eq_dead
  case o60 =>
    rw [cl_isj, n_isj]
    exact eq_isj
  case o61 =>
    rw [cl_dox, n_dox]
    exact eq_dox
  case o62 =>
    rw [cl_doy, n_doy]
    exact eq_doy
  case o63 =>
    rw [cl_fou, n_m_fou]
    exact eq_fou
  case o64 =>
    rw [cl_tri, n_mt]
    exact eq_tri
  case o65 =>
    obtain rfl : qw = w := Option.some.inj (f_qw.symm.trans hw)
    obtain rfl : ql = q := Option.some.inj (f_ql.symm.trans hq)
    exact pf_ql
  case o66 =>
    rw [n_mw]
    exact hwd
  case o67 =>
    rw [n_mr, f_m_acts]
    exact hWK
  case o68 =>
    rw [n_mp, n_mn, f_m_acts]
    exact hRP
  case o69 =>
    rw [n_ml, f_m_claims, f_m_acts]
    exact hPL
  case o70 =>
    rw [n_mh, f_m_heardMany, f_m_claims]
    exact hHC
  case o71 =>
    rw [n_mt]
    refine (hx_TR_le hTR ?o72)
    case o72 => omega
  case o73 =>
    rw [n_mh, n_m_fou, f_m_claims]
    exact hHF

set_option maxHeartbeats 4000000 in
set_option maxRecDepth 100000 in
theorem law_case_1 {p : Program} {e : Env} {s : State} {m : MethodId} {below : List Frame} {meth : Method} {c : Code} (l : Launch) {b LN : Nat} {xs : Nat → Int32} (hx : p.tables.exec = Jvm.exec) (hb : c.code = code) (hr : meth.sig.returnType = ret) (hlocks : meth.locks = false) (hml : c.maxLocals = 4) (hown : s.vm.findClass "SmallCourtLaw" = some m.cls) (hts : ∀ w ∈ hx_all, w.before #[Value.ref b] s = true) (hX : va_X b LN xs s s.heap) (hbl : b < s.heap.size) (hbA : ¬ s.heap.size ≤ b) (hLN : LN ≤ 3584) (dC : Nat → ClassId) (dI : Nat → Nat → Nat) (dA : Nat → ClassId) (b0 : hx_z) (ax am : Nat) (T1 : Int) (hT0 : 0 ≤ T1) (hT1 : T1 ≤ 511) (i : Int32) (hi0 : 0 ≤ i.toInt) (hiL : i.toInt + 7 ≤ LN) (CC SS : Nat) (hCC : CC + 3 ≤ 600000) (hSS : SS + 179 ≤ 7302250) (L1 : List Nat) (hl1 : hx_h) (H : Heap) (locs : List Loc) (ls : Array Slot) (hW : hx_W T_tb (P_ty dA) (dC, dI) vwCl (fun q : Nat => s.heap.size ≤ q) s.heap L1 hl1 s H locs) (hZ : hx_Xt (fun q : Nat => s.heap.size ≤ q) b0 s) (hI : hx_IV T1 ax am L1 hl1) (hl : lv_has ls 4 [(3, .int i), (2, .ref am), (1, .ref ax), (0, .ref b)]) (kk : ∀ (L2 : List Nat) (h2 : hx_h) (H2 : Heap) (locs2 : List Loc) (ls2 : Array Slot), hx_W T_tb (P_ty dA) (dC, dI) vwCl (fun q : Nat => s.heap.size ≤ q) s.heap L2 h2 s H2 locs2 → hx_IV (T1 + 1) ax am L2 h2 → lv_has ls2 4 [(3, .int i), (2, .ref am), (1, .ref ax), (0, .ref b)] → W p l e room_1 s m #[Value.ref b] below meth c H2 locs2 (CC + 3) (SS + 179) (lw_Z below #[Value.ref b] s) (F0 m 1379 ls2 [])) : W p l e room_1 s m #[Value.ref b] below meth c H locs CC SS (lw_Z below #[Value.ref b] s) (F0 m 195 ls []) := by
  have hI9 := hI
  have hT := hI9.1
  replace hI9 := hI9.2
  have gx := hI9.1
  replace hI9 := hI9.2
  have gm := hI9.1
  replace hI9 := hI9.2
  have zq0_3 := hI9.1
  have he_nw := zq0_3.1
  replace zq0_3 := zq0_3.2
  have he_np := zq0_3.1
  replace zq0_3 := zq0_3.2
  have he_c0 := zq0_3.1
  replace zq0_3 := zq0_3.2
  have he_tl := zq0_3.1
  replace zq0_3 := zq0_3.2
  have he_a0 := zq0_3.1
  replace zq0_3 := zq0_3.2
  have he_m0 := zq0_3.1
  replace zq0_3 := zq0_3.2
  have ho_ln := zq0_3.1
  replace zq0_3 := zq0_3.2
  have ho_lsd := zq0_3.1
  replace zq0_3 := zq0_3.2
  have ho_wkm := zq0_3.1
  replace zq0_3 := zq0_3.2
  have ho_py := zq0_3.1
  replace zq0_3 := zq0_3.2
  have hn_qp := zq0_3.1
  replace zq0_3 := zq0_3.2
  have hn_qc := zq0_3.1
  replace zq0_3 := zq0_3.2
  have hk_of := zq0_3.1
  replace zq0_3 := zq0_3.2
  have hk_wf := zq0_3.1
  replace zq0_3 := zq0_3.2
  have hk_df := zq0_3.1
  replace zq0_3 := zq0_3.2
  have hk_kf := zq0_3.1
  replace zq0_3 := zq0_3.2
  have hk_sf := zq0_3.1
  replace zq0_3 := zq0_3.2
  have hkBD := zq0_3.1
  replace zq0_3 := zq0_3.2
  have hLQ := zq0_3.1
  replace zq0_3 := zq0_3.2
  have hLE := zq0_3.1
  replace zq0_3 := zq0_3.2
  have hkWD := zq0_3.1
  replace zq0_3 := zq0_3.2
  have hkDF := zq0_3.1
  replace zq0_3 := zq0_3.2
  have hkTP := zq0_3.1
  replace zq0_3 := zq0_3.2
  have hkAC := zq0_3.1
  replace zq0_3 := zq0_3.2
  have hkDP := zq0_3.1
  replace zq0_3 := zq0_3.2
  have hkHL := zq0_3.1
  replace zq0_3 := zq0_3.2
  have hkHO := zq0_3.1
  replace zq0_3 := zq0_3.2
  have hkFX := zq0_3.1
  replace zq0_3 := zq0_3.2
  have hkBX := zq0_3.1
  replace zq0_3 := zq0_3.2
  have hf_bor := zq0_3.1
  replace zq0_3 := zq0_3.2
  have hf_kin := zq0_3.1
  replace zq0_3 := zq0_3.2
  have hf_sum := zq0_3.1
  replace zq0_3 := zq0_3.2
  have hf_fro := zq0_3.1
  replace zq0_3 := zq0_3.2
  have hf_fil := zq0_3.1
  replace zq0_3 := zq0_3.2
  have hf_hea := zq0_3.1
  replace zq0_3 := zq0_3.2
  have hf_jud := zq0_3.1
  replace zq0_3 := zq0_3.2
  have hf_ear := zq0_3.1
  replace zq0_3 := zq0_3.2
  have hf_hds := zq0_3.1
  replace zq0_3 := zq0_3.2
  have hf_ord := zq0_3.1
  replace zq0_3 := zq0_3.2
  have hf_wkl := zq0_3.1
  replace zq0_3 := zq0_3.2
  have hf_owd := zq0_3.1
  replace zq0_3 := zq0_3.2
  have hf_gds := zq0_3.1
  replace zq0_3 := zq0_3.2
  have hf_szd := zq0_3.1
  replace zq0_3 := zq0_3.2
  have hf_srv := zq0_3.1
  replace zq0_3 := zq0_3.2
  have hkP0 := zq0_3.1
  replace zq0_3 := zq0_3.2
  have hkP1 := zq0_3.1
  replace zq0_3 := zq0_3.2
  have hkP2 := zq0_3.1
  replace zq0_3 := zq0_3.2
  have hkP3 := zq0_3.1
  replace zq0_3 := zq0_3.2
  have hkP4 := zq0_3.1
  replace zq0_3 := zq0_3.2
  have hkNQ := zq0_3.1
  replace zq0_3 := zq0_3.2
  have hkRL := zq0_3.1
  replace zq0_3 := zq0_3.2
  have hc_dead := zq0_3.1
  replace zq0_3 := zq0_3.2
  have hc_isj := zq0_3.1
  replace zq0_3 := zq0_3.2
  have hc_dox := zq0_3.1
  replace zq0_3 := zq0_3.2
  have hc_doy := zq0_3.1
  replace zq0_3 := zq0_3.2
  have hc_fou := zq0_3.1
  replace zq0_3 := zq0_3.2
  have hc_tri := zq0_3.1
  replace zq0_3 := zq0_3.2
  replace hI9 := hI9.2
  have zq0_4 := hI9.1
  have ia := zq0_4.1
  replace zq0_4 := zq0_4.2
  have ip := zq0_4.1
  replace zq0_4 := zq0_4.2
  have ic := zq0_4.1
  replace zq0_4 := zq0_4.2
  have ih := zq0_4.1
  replace zq0_4 := zq0_4.2
  have il := zq0_4
  replace hI9 := hI9.2
  have zq0_5 := hI9
  have jw := zq0_5.1
  replace zq0_5 := zq0_5.2
  have jr := zq0_5.1
  replace zq0_5 := zq0_5.2
  have jp := zq0_5.1
  replace zq0_5 := zq0_5.2
  have jl := zq0_5.1
  replace zq0_5 := zq0_5.2
  have jh := zq0_5.1
  replace zq0_5 := zq0_5.2
  have jt := zq0_5.1
  replace zq0_5 := zq0_5.2
  have jf := zq0_5
  obtain ⟨qa, f_qa, g_qa⟩ := hx_rf hT gx tt_9 (k := 5) (u := 43) rfl
  have pf_qa := ia qa f_qa
  obtain ⟨qp, f_qp, g_qp⟩ := hx_rf hT gx tt_9 (k := 7) (u := 44) rfl
  have pf_qp := ip qp f_qp
  obtain ⟨qc, f_qc, g_qc⟩ := hx_rf hT gx tt_9 (k := 10) (u := 45) rfl
  have pf_qc := ic qc f_qc
  obtain ⟨qh, f_qh, g_qh⟩ := hx_rf hT gx tt_9 (k := 12) (u := 46) rfl
  have pf_qh := ih qh f_qh
  obtain ⟨qw, f_qw, g_qw⟩ := hx_rf hT gx tt_9 (k := 19) (u := 8) rfl
  obtain ⟨ql, f_ql, g_ql⟩ := hx_rf hT g_qw tt_8 (k := 3) (u := 40) rfl
  have pf_ql := il qw ql f_qw f_ql
  obtain ⟨nw, f_m_now⟩ : ∃ y : Int32, hl1.2.1 am 0 = y := ⟨_, rfl⟩
  have b_nw := hT.gi gm tt_10 (k := 0) rfl
  rw [f_m_now] at b_nw
  have b_nw : 0 ≤ nw.toInt ∧ nw.toInt ≤ 7999 := b_nw
  obtain ⟨np, f_m_persons⟩ : ∃ y : Int32, hl1.2.1 am 20 = y := ⟨_, rfl⟩
  have b_np := hT.gi gm tt_10 (k := 20) rfl
  rw [f_m_persons] at b_np
  have b_np : 0 ≤ np.toInt ∧ np.toInt ≤ 40 := b_np
  obtain ⟨c0, f_m_claims⟩ : ∃ y : Int32, hl1.2.1 am 36 = y := ⟨_, rfl⟩
  have b_c0 := hT.gi gm tt_10 (k := 36) rfl
  rw [f_m_claims] at b_c0
  have b_c0 : 0 ≤ c0.toInt ∧ c0.toInt ≤ 100 := b_c0
  obtain ⟨tl, f_m_taped⟩ : ∃ y : Int32, hl1.2.1 am 7 = y := ⟨_, rfl⟩
  have b_tl := hT.gi gm tt_10 (k := 7) rfl
  rw [f_m_taped] at b_tl
  have b_tl : 0 ≤ tl.toInt ∧ tl.toInt ≤ 400 := b_tl
  obtain ⟨a0, f_m_acts⟩ : ∃ y : Int32, hl1.2.1 am 1 = y := ⟨_, rfl⟩
  have b_a0 := hT.gi gm tt_10 (k := 1) rfl
  rw [f_m_acts] at b_a0
  have b_a0 : 0 ≤ a0.toInt ∧ a0.toInt ≤ 8 := b_a0
  obtain ⟨m0, f_m_heardMany⟩ : ∃ y : Int32, hl1.2.1 am 57 = y := ⟨_, rfl⟩
  have b_m0 := hT.gi gm tt_10 (k := 57) rfl
  rw [f_m_heardMany] at b_m0
  have b_m0 : 0 ≤ m0.toInt ∧ m0.toInt ≤ 100 := b_m0
  obtain ⟨ln, f_m_lines⟩ : ∃ y : Int32, hl1.2.1 am 29 = y := ⟨_, rfl⟩
  have b_ln := hT.gi gm tt_10 (k := 29) rfl
  rw [f_m_lines] at b_ln
  have b_ln : 0 ≤ ln.toInt ∧ ln.toInt ≤ 400 := b_ln
  obtain ⟨lsd, f_m_listed⟩ : ∃ y : Int32, hl1.2.1 am 90 = y := ⟨_, rfl⟩
  have b_lsd := hT.gi gm tt_10 (k := 90) rfl
  rw [f_m_listed] at b_lsd
  have b_lsd : 0 ≤ lsd.toInt ∧ lsd.toInt ≤ 8 := b_lsd
  obtain ⟨wkm, f_m_walkedMany⟩ : ∃ y : Int32, hl1.2.1 am 92 = y := ⟨_, rfl⟩
  have b_wkm := hT.gi gm tt_10 (k := 92) rfl
  rw [f_m_walkedMany] at b_wkm
  have b_wkm : 0 ≤ wkm.toInt ∧ wkm.toInt ≤ 8 := b_wkm
  obtain ⟨py, f_m_payments⟩ : ∃ y : Int32, hl1.2.1 am 59 = y := ⟨_, rfl⟩
  have b_py := hT.gi gm tt_10 (k := 59) rfl
  rw [f_m_payments] at b_py
  have b_py : 0 ≤ py.toInt ∧ py.toInt ≤ 600 := b_py
  have f_x_now : hl1.2.1 ax 2 = nw := he_nw.trans f_m_now
  have f_x_personCount : hl1.2.1 ax 8 = np := he_np.trans f_m_persons
  have f_x_claimCount : hl1.2.1 ax 11 = c0 := he_c0.trans f_m_claims
  have f_x_tapeLength : hl1.2.1 ax 1 = tl := he_tl.trans f_m_taped
  have f_x_actCount : hl1.2.1 ax 6 = a0 := he_a0.trans f_m_acts
  have f_x_heardCount : hl1.2.1 ax 13 = m0 := he_m0.trans f_m_heardMany
  obtain ⟨mw, f_mw, g_mw⟩ := hx_rf hT gm tt_10 (k := 19) (u := 57) rfl
  obtain ⟨F_mw, n_mw⟩ : ∃ g : Nat → Int32, hl1.2.1 mw = g := ⟨_, rfl⟩
  obtain ⟨mr, f_mr, g_mr⟩ := hx_rf hT gm tt_10 (k := 3) (u := 50) rfl
  obtain ⟨F_mr, n_mr⟩ : ∃ g : Nat → Int32, hl1.2.1 mr = g := ⟨_, rfl⟩
  obtain ⟨mp, f_mp, g_mp⟩ := hx_rf hT gm tt_10 (k := 5) (u := 52) rfl
  obtain ⟨F_mp, n_mp⟩ : ∃ g : Nat → Int32, hl1.2.1 mp = g := ⟨_, rfl⟩
  obtain ⟨mn, f_mn, g_mn⟩ := hx_rf hT gm tt_10 (k := 4) (u := 51) rfl
  obtain ⟨F_mn, n_mn⟩ : ∃ g : Nat → Int32, hl1.2.1 mn = g := ⟨_, rfl⟩
  obtain ⟨ml, f_ml, g_ml⟩ := hx_rf hT gm tt_10 (k := 44) (u := 79) rfl
  obtain ⟨F_ml, n_ml⟩ : ∃ g : Nat → Int32, hl1.2.1 ml = g := ⟨_, rfl⟩
  obtain ⟨mh, f_mh, g_mh⟩ := hx_rf hT gm tt_10 (k := 47) (u := 82) rfl
  obtain ⟨F_mh, n_mh⟩ : ∃ g : Nat → Int32, hl1.2.1 mh = g := ⟨_, rfl⟩
  obtain ⟨mt, f_mt, g_mt⟩ := hx_rf hT gm tt_10 (k := 45) (u := 80) rfl
  obtain ⟨F_mt, n_mt⟩ : ∃ g : Nat → Int32, hl1.2.1 mt = g := ⟨_, rfl⟩
  obtain ⟨m_fou, f_m_fou, g_m_fou⟩ := hx_rf hT gm tt_10 (k := 46) (u := 81) rfl
  obtain ⟨F_m_fou, n_m_fou⟩ : ∃ g : Nat → Int32, hl1.2.1 m_fou = g := ⟨_, rfl⟩
  obtain ⟨qo_ln, f_qo_ln, g_qo_ln⟩ := hx_rf hT gx tt_9 (k := 9) (u := 1) rfl
  have f_o_ln : hl1.2.1 qo_ln 0 = ln := (ho_ln qo_ln f_qo_ln).trans f_m_lines
  have f_o_lsd : hl1.2.1 qw 0 = lsd := (ho_lsd qw f_qw).trans f_m_listed
  have f_o_wkm : hl1.2.1 qw 1 = wkm := (ho_wkm qw f_qw).trans f_m_walkedMany
  obtain ⟨qo_py, f_qo_py, g_qo_py⟩ := hx_rf hT gx tt_9 (k := 14) (u := 3) rfl
  have f_o_py : hl1.2.1 qo_py 0 = py := (ho_py qo_py f_qo_py).trans f_m_payments
  have nu_qp := hn_qp qp f_qp; rw [f_x_personCount] at nu_qp
  have nu_qc := hn_qc qc f_qc; rw [f_x_claimCount] at nu_qc
  obtain ⟨b_of, f_b_of, g_b_of⟩ := hx_rf hT g_qo_ln tt_1 (k := 1) (u := 13) rfl
  obtain ⟨B_of, n_b_of⟩ : ∃ g : Nat → Int32, hl1.2.1 b_of = g := ⟨_, rfl⟩
  obtain ⟨m_of, f_m_of, g_m_of⟩ := hx_rf hT gm tt_10 (k := 30) (u := 66) rfl
  obtain ⟨F_of, n_m_of⟩ : ∃ g : Nat → Int32, hl1.2.1 m_of = g := ⟨_, rfl⟩
  have eb_of := hk_of qo_ln b_of m_of f_qo_ln f_b_of f_m_of; rw [n_b_of, n_m_of, f_o_ln] at eb_of
  obtain ⟨b_wf, f_b_wf, g_b_wf⟩ := hx_rf hT g_qo_ln tt_1 (k := 2) (u := 14) rfl
  obtain ⟨B_wf, n_b_wf⟩ : ∃ g : Nat → Int32, hl1.2.1 b_wf = g := ⟨_, rfl⟩
  obtain ⟨m_wf, f_m_wf, g_m_wf⟩ := hx_rf hT gm tt_10 (k := 31) (u := 67) rfl
  obtain ⟨F_wf, n_m_wf⟩ : ∃ g : Nat → Int32, hl1.2.1 m_wf = g := ⟨_, rfl⟩
  have eb_wf := hk_wf qo_ln b_wf m_wf f_qo_ln f_b_wf f_m_wf; rw [n_b_wf, n_m_wf, f_o_ln] at eb_wf
  obtain ⟨b_df, f_b_df, g_b_df⟩ := hx_rf hT g_qo_ln tt_1 (k := 3) (u := 15) rfl
  obtain ⟨B_df, n_b_df⟩ : ∃ g : Nat → Int32, hl1.2.1 b_df = g := ⟨_, rfl⟩
  obtain ⟨m_df, f_m_df, g_m_df⟩ := hx_rf hT gm tt_10 (k := 32) (u := 68) rfl
  obtain ⟨F_df, n_m_df⟩ : ∃ g : Nat → Int32, hl1.2.1 m_df = g := ⟨_, rfl⟩
  have eb_df := hk_df qo_ln b_df m_df f_qo_ln f_b_df f_m_df; rw [n_b_df, n_m_df, f_o_ln] at eb_df
  obtain ⟨b_kf, f_b_kf, g_b_kf⟩ := hx_rf hT g_qo_ln tt_1 (k := 4) (u := 16) rfl
  obtain ⟨B_kf, n_b_kf⟩ : ∃ g : Nat → Int32, hl1.2.1 b_kf = g := ⟨_, rfl⟩
  obtain ⟨m_kf, f_m_kf, g_m_kf⟩ := hx_rf hT gm tt_10 (k := 33) (u := 69) rfl
  obtain ⟨F_kf, n_m_kf⟩ : ∃ g : Nat → Int32, hl1.2.1 m_kf = g := ⟨_, rfl⟩
  have eb_kf := hk_kf qo_ln b_kf m_kf f_qo_ln f_b_kf f_m_kf; rw [n_b_kf, n_m_kf, f_o_ln] at eb_kf
  obtain ⟨b_sf, f_b_sf, g_b_sf⟩ := hx_rf hT g_qo_ln tt_1 (k := 5) (u := 17) rfl
  obtain ⟨B_sf, n_b_sf⟩ : ∃ g : Nat → Int32, hl1.2.1 b_sf = g := ⟨_, rfl⟩
  obtain ⟨m_sf, f_m_sf, g_m_sf⟩ := hx_rf hT gm tt_10 (k := 34) (u := 70) rfl
  obtain ⟨F_sf, n_m_sf⟩ : ∃ g : Nat → Int32, hl1.2.1 m_sf = g := ⟨_, rfl⟩
  have eb_sf := hk_sf qo_ln b_sf m_sf f_qo_ln f_b_sf f_m_sf; rw [n_b_sf, n_m_sf, f_o_ln] at eb_sf
  obtain ⟨b_bf, f_b_bf, g_b_bf⟩ := hx_rf hT g_qo_ln tt_1 (k := 6) (u := 18) rfl
  obtain ⟨bfL, n_b_bf⟩ : ∃ g : Nat → Int32, hl1.2.1 b_bf = g := ⟨_, rfl⟩
  obtain ⟨hBD, hDY⟩ := hkBD qo_ln b_df b_bf f_qo_ln f_b_df f_b_bf; rw [n_b_df, n_b_bf, f_o_ln] at hBD; rw [n_b_df, f_o_ln] at hDY
  have hBDm := hy_BD_c eb_df hBD
  have hDYm : hy_DY F_df ln.toInt.toNat := fun x hx => by rw [← eb_df x hx]; exact hDY x hx
  have sb_list := hLQ qw ql qc f_qw f_ql f_qc
  obtain ⟨m_lst, f_m_lst, g_m_lst⟩ := hx_rf hT gm tt_10 (k := 91) (u := 112) rfl
  obtain ⟨F_lst, n_lst⟩ : ∃ g : Nat → Int32, hl1.2.1 m_lst = g := ⟨_, rfl⟩
  obtain ⟨c_lst, cl_lst⟩ : ∃ g : Nat → Int32, hx_col 8 hl1 ql 0 = g := ⟨_, rfl⟩
  have eq_lst := hLE qw ql m_lst f_qw f_ql f_m_lst; rw [cl_lst, n_lst] at eq_lst
  obtain ⟨qtp, f_qtp, g_qtp⟩ := hx_rf hT gx tt_9 (k := 0) (u := 42) rfl
  obtain ⟨m_tp, f_m_tp, g_m_tp⟩ := hx_rf hT gm tt_10 (k := 6) (u := 53) rfl
  obtain ⟨F_tp, n_tp⟩ : ∃ g : Nat → Int32, hl1.2.1 m_tp = g := ⟨_, rfl⟩
  have n_qtp : hl1.2.1 qtp = F_tp := (hkTP qtp m_tp f_qtp f_m_tp).trans n_tp
  obtain ⟨c_dead, cl_dead⟩ : ∃ g : Nat → Int32, hx_col 40 hl1 qp 7 = g := ⟨_, rfl⟩
  obtain ⟨m_dead, f_m_dead, g_m_dead⟩ := hx_rf hT gm tt_10 (k := 27) (u := 64) rfl
  obtain ⟨F_dead, n_dead⟩ : ∃ g : Nat → Int32, hl1.2.1 m_dead = g := ⟨_, rfl⟩
  have eq_dead := hc_dead qp m_dead f_qp f_m_dead; rw [cl_dead, n_dead] at eq_dead
  have z_dead : np.toInt.toNat < 40 → c_dead np.toInt.toNat = 0 := fun hj => hx_num_z nu_qp cl_dead hj ?o0
  case o0 => omega
  obtain ⟨c_isj, cl_isj⟩ : ∃ g : Nat → Int32, hx_col 40 hl1 qp 8 = g := ⟨_, rfl⟩
  obtain ⟨m_isj, f_m_isj, g_m_isj⟩ := hx_rf hT gm tt_10 (k := 28) (u := 65) rfl
  obtain ⟨F_isj, n_isj⟩ : ∃ g : Nat → Int32, hl1.2.1 m_isj = g := ⟨_, rfl⟩
  have eq_isj := hc_isj qp m_isj f_qp f_m_isj; rw [cl_isj, n_isj] at eq_isj
  have z_isj : np.toInt.toNat < 40 → c_isj np.toInt.toNat = 0 := fun hj => hx_num_z nu_qp cl_isj hj ?o1
  case o1 => omega
  obtain ⟨c_dox, cl_dox⟩ : ∃ g : Nat → Int32, hx_col 40 hl1 qp 5 = g := ⟨_, rfl⟩
  obtain ⟨m_dox, f_m_dox, g_m_dox⟩ := hx_rf hT gm tt_10 (k := 24) (u := 61) rfl
  obtain ⟨F_dox, n_dox⟩ : ∃ g : Nat → Int32, hl1.2.1 m_dox = g := ⟨_, rfl⟩
  have eq_dox := hc_dox qp m_dox f_qp f_m_dox; rw [cl_dox, n_dox] at eq_dox
  have z_dox : np.toInt.toNat < 40 → c_dox np.toInt.toNat = 0 := fun hj => hx_num_z nu_qp cl_dox hj ?o2
  case o2 => omega
  obtain ⟨c_doy, cl_doy⟩ : ∃ g : Nat → Int32, hx_col 40 hl1 qp 6 = g := ⟨_, rfl⟩
  obtain ⟨m_doy, f_m_doy, g_m_doy⟩ := hx_rf hT gm tt_10 (k := 25) (u := 62) rfl
  obtain ⟨F_doy, n_doy⟩ : ∃ g : Nat → Int32, hl1.2.1 m_doy = g := ⟨_, rfl⟩
  have eq_doy := hc_doy qp m_doy f_qp f_m_doy; rw [cl_doy, n_doy] at eq_doy
  have z_doy : np.toInt.toNat < 40 → c_doy np.toInt.toNat = 0 := fun hj => hx_num_z nu_qp cl_doy hj ?o3
  case o3 => omega
  obtain ⟨c_fou, cl_fou⟩ : ∃ g : Nat → Int32, hx_col 100 hl1 qc 10 = g := ⟨_, rfl⟩
  have eq_fou := hc_fou qc m_fou f_qc f_m_fou; rw [cl_fou, n_m_fou] at eq_fou
  have z_fou : c0.toInt.toNat < 100 → c_fou c0.toInt.toNat = 0 := fun hj => hx_num_z nu_qc cl_fou hj ?o4
  case o4 => omega
  obtain ⟨c_tri, cl_tri⟩ : ∃ g : Nat → Int32, hx_col 100 hl1 qc 9 = g := ⟨_, rfl⟩
  have eq_tri := hc_tri qc mt f_qc f_mt; rw [cl_tri, n_mt] at eq_tri
  have z_tri : c0.toInt.toNat < 100 → c_tri c0.toInt.toNat = 0 := fun hj => hx_num_z nu_qc cl_tri hj ?o5
  case o5 => omega
  obtain ⟨qlt, f_qlt, g_qlt⟩ := hx_rf hT g_qw tt_8 (k := 2) (u := 39) rfl
  obtain ⟨qlf, f_qlf, g_qlf⟩ := hx_rf hT g_qw tt_8 (k := 4) (u := 41) rfl
  obtain ⟨m_wkd, f_m_wkd, g_m_wkd⟩ := hx_rf hT gm tt_10 (k := 93) (u := 113) rfl
  obtain ⟨F_qlt, n_qlt⟩ : ∃ g : Nat → Int32, hl1.2.1 qlt = g := ⟨_, rfl⟩
  obtain ⟨F_m_wkd, n_m_wkd⟩ : ∃ g : Nat → Int32, hl1.2.1 m_wkd = g := ⟨_, rfl⟩
  have eb_wkd := hkWD qw qlt m_wkd f_qw f_qlt f_m_wkd; rw [n_qlt, n_m_wkd, f_o_wkm] at eb_wkd
  obtain ⟨m_aga, f_m_aga, g_m_aga⟩ := hx_rf hT gm tt_10 (k := 38) (u := 73) rfl
  obtain ⟨F_aga, n_aga⟩ : ∃ g : Nat → Int32, hl1.2.1 m_aga = g := ⟨_, rfl⟩
  have hDF := hkDF qc qp m_aga f_qc f_qp f_m_aga; rw [n_aga, f_x_claimCount] at hDF
  obtain ⟨qwo, f_qwo, g_qwo⟩ := hx_rf hT gx tt_9 (k := 4) (u := 0) rfl
  obtain ⟨m_ad, f_m_ad, g_m_ad⟩ := hx_rf hT gm tt_10 (k := 2) (u := 49) rfl
  obtain ⟨F_ad, n_ad⟩ : ∃ g : Nat → Int32, hl1.2.1 m_ad = g := ⟨_, rfl⟩
  obtain ⟨A9, hRA9, hCA9, hAC9, hAB⟩ := hkAC qa qwo m_ad mr mn mp qc ml f_qa f_qwo f_m_ad f_mr f_mn f_mp f_qc f_ml
  rw [f_x_actCount] at hRA9; rw [f_x_actCount, n_ad, n_mr, n_mn, n_mp] at hCA9
  obtain ⟨m_by, f_m_by, g_m_by⟩ := hx_rf hT gm tt_10 (k := 37) (u := 72) rfl
  obtain ⟨F_by, n_by⟩ : ∃ g : Nat → Int32, hl1.2.1 m_by = g := ⟨_, rfl⟩
  obtain ⟨m_ho, f_m_ho, g_m_ho⟩ := hx_rf hT gm tt_10 (k := 58) (u := 92) rfl
  obtain ⟨F_ho, n_ho⟩ : ∃ g : Nat → Int32, hl1.2.1 m_ho = g := ⟨_, rfl⟩
  obtain ⟨m_fc, f_m_fc, g_m_fc⟩ := hx_rf hT gm tt_10 (k := 53) (u := 88) rfl
  obtain ⟨F_fc, n_fc⟩ : ∃ g : Nat → Int32, hl1.2.1 m_fc = g := ⟨_, rfl⟩
  obtain ⟨m_nt, f_m_nt, g_m_nt⟩ := hx_rf hT gm tt_10 (k := 41) (u := 76) rfl
  obtain ⟨F_nt, n_nt⟩ : ∃ g : Nat → Int32, hl1.2.1 m_nt = g := ⟨_, rfl⟩
  obtain ⟨m_wt, f_m_wt, g_m_wt⟩ := hx_rf hT gm tt_10 (k := 42) (u := 77) rfl
  obtain ⟨F_wt, n_wt⟩ : ∃ g : Nat → Int32, hl1.2.1 m_wt = g := ⟨_, rfl⟩
  obtain ⟨m_be, f_m_be, g_m_be⟩ := hx_rf hT gm tt_10 (k := 52) (u := 87) rfl
  obtain ⟨F_be, n_be⟩ : ∃ g : Nat → Int32, hl1.2.1 m_be = g := ⟨_, rfl⟩
  obtain ⟨m_bor, f_m_bor, g_m_bor⟩ := hx_rf hT gm tt_10 (k := 21) (u := 58) rfl
  obtain ⟨F_bor, n_bor⟩ : ∃ g : Nat → Int32, hl1.2.1 m_bor = g := ⟨_, rfl⟩
  obtain ⟨m_kin, f_m_kin, g_m_kin⟩ := hx_rf hT gm tt_10 (k := 26) (u := 63) rfl
  obtain ⟨F_kin, n_kin⟩ : ∃ g : Nat → Int32, hl1.2.1 m_kin = g := ⟨_, rfl⟩
  obtain ⟨m_sum, f_m_sum, g_m_sum⟩ := hx_rf hT gm tt_10 (k := 39) (u := 74) rfl
  obtain ⟨F_sum, n_sum⟩ : ∃ g : Nat → Int32, hl1.2.1 m_sum = g := ⟨_, rfl⟩
  obtain ⟨m_fro, f_m_fro, g_m_fro⟩ := hx_rf hT gm tt_10 (k := 40) (u := 75) rfl
  obtain ⟨F_fro, n_fro⟩ : ∃ g : Nat → Int32, hl1.2.1 m_fro = g := ⟨_, rfl⟩
  obtain ⟨m_fil, f_m_fil, g_m_fil⟩ := hx_rf hT gm tt_10 (k := 43) (u := 78) rfl
  obtain ⟨F_fil, n_fil⟩ : ∃ g : Nat → Int32, hl1.2.1 m_fil = g := ⟨_, rfl⟩
  obtain ⟨m_jud, f_m_jud, g_m_jud⟩ := hx_rf hT gm tt_10 (k := 51) (u := 86) rfl
  obtain ⟨F_jud, n_jud⟩ : ∃ g : Nat → Int32, hl1.2.1 m_jud = g := ⟨_, rfl⟩
  obtain ⟨m_ear, f_m_ear, g_m_ear⟩ := hx_rf hT gm tt_10 (k := 22) (u := 59) rfl
  obtain ⟨F_ear, n_ear⟩ : ∃ g : Nat → Int32, hl1.2.1 m_ear = g := ⟨_, rfl⟩
  obtain ⟨m_hds, f_m_hds, g_m_hds⟩ := hx_rf hT gm tt_10 (k := 23) (u := 60) rfl
  obtain ⟨F_hds, n_hds⟩ : ∃ g : Nat → Int32, hl1.2.1 m_hds = g := ⟨_, rfl⟩
  obtain ⟨m_ord, f_m_ord, g_m_ord⟩ := hx_rf hT gm tt_10 (k := 48) (u := 83) rfl
  obtain ⟨F_ord, n_ord⟩ : ∃ g : Nat → Int32, hl1.2.1 m_ord = g := ⟨_, rfl⟩
  obtain ⟨m_wkl, f_m_wkl, g_m_wkl⟩ := hx_rf hT gm tt_10 (k := 54) (u := 89) rfl
  obtain ⟨F_wkl, n_wkl⟩ : ∃ g : Nat → Int32, hl1.2.1 m_wkl = g := ⟨_, rfl⟩
  obtain ⟨m_owd, f_m_owd, g_m_owd⟩ := hx_rf hT gm tt_10 (k := 55) (u := 90) rfl
  obtain ⟨F_owd, n_owd⟩ : ∃ g : Nat → Int32, hl1.2.1 m_owd = g := ⟨_, rfl⟩
  obtain ⟨m_gds, f_m_gds, g_m_gds⟩ := hx_rf hT gm tt_10 (k := 56) (u := 91) rfl
  obtain ⟨F_gds, n_gds⟩ : ∃ g : Nat → Int32, hl1.2.1 m_gds = g := ⟨_, rfl⟩
  obtain ⟨m_szd, f_m_szd, g_m_szd⟩ := hx_rf hT gm tt_10 (k := 49) (u := 84) rfl
  obtain ⟨F_szd, n_szd⟩ : ∃ g : Nat → Int32, hl1.2.1 m_szd = g := ⟨_, rfl⟩
  obtain ⟨m_srv, f_m_srv, g_m_srv⟩ := hx_rf hT gm tt_10 (k := 50) (u := 85) rfl
  obtain ⟨F_srv, n_srv⟩ : ∃ g : Nat → Int32, hl1.2.1 m_srv = g := ⟨_, rfl⟩
  have cl_bor : hx_col 40 hl1 qp 1 = F_bor := (hf_bor qp m_bor f_qp f_m_bor).trans n_bor
  have cl_kin : hx_col 40 hl1 qp 2 = F_kin := (hf_kin qp m_kin f_qp f_m_kin).trans n_kin
  have cl_sum : hx_col 100 hl1 qc 6 = F_sum := (hf_sum qc m_sum f_qc f_m_sum).trans n_sum
  have cl_fro : hx_col 100 hl1 qc 7 = F_fro := (hf_fro qc m_fro f_qc f_m_fro).trans n_fro
  have cl_fil : hx_col 100 hl1 qc 8 = F_fil := (hf_fil qc m_fil f_qc f_m_fil).trans n_fil
  have cl_hea : hx_col 100 hl1 qc 11 = F_mh := (hf_hea qc mh f_qc f_mh).trans n_mh
  have cl_jud : hx_col 100 hl1 qc 12 = F_jud := (hf_jud qc m_jud f_qc f_m_jud).trans n_jud
  have cl_ear : hx_col 40 hl1 qp 3 = F_ear := (hf_ear qp m_ear f_qp f_m_ear).trans n_ear
  have cl_hds : hx_col 40 hl1 qp 4 = F_hds := (hf_hds qp m_hds f_qp f_m_hds).trans n_hds
  have cl_ord : hx_col 100 hl1 qc 13 = F_ord := (hf_ord qc m_ord f_qc f_m_ord).trans n_ord
  have cl_wkl : hx_col 100 hl1 qc 14 = F_wkl := (hf_wkl qc m_wkl f_qc f_m_wkl).trans n_wkl
  have cl_owd : hx_col 100 hl1 qc 15 = F_owd := (hf_owd qc m_owd f_qc f_m_owd).trans n_owd
  have cl_gds : hx_col 100 hl1 qc 17 = F_gds := (hf_gds qc m_gds f_qc f_m_gds).trans n_gds
  have cl_szd : hx_col 100 hl1 qc 16 = F_szd := (hf_szd qc m_szd f_qc f_m_szd).trans n_szd
  have cl_srv : hx_col 100 hl1 qc 18 = F_srv := (hf_srv qc m_srv f_qc f_m_srv).trans n_srv
  have htb9 : ∀ c, c < 100 → 0 ≤ (c_tri c).toInt ∧ (c_tri c).toInt ≤ 512 := fun c hc => by rw [eq_tri c hc]; have w := hT.ei g_mt tt_80 (k := c) hc; rw [n_mt] at w; exact w
  have z_jud : F_jud c0.toInt.toNat = 0 := hx_num_z2 nu_qc cl_jud ?o6
  case o6 => omega
  have hDP := hkDP qc qp m_by f_qc f_qp f_m_by; rw [n_by, f_x_claimCount] at hDP
  have hHL := hkHL qh qc m_ho f_qh f_qc f_m_ho; rw [n_ho, f_x_heardCount, f_x_claimCount] at hHL
  have hHO9 := hkHO m_ho mh f_m_ho f_mh; rw [n_ho, n_mh, f_m_heardMany, f_m_claims] at hHO9
  obtain ⟨cF9L, hFX, hFR9⟩ := hkFX qc m_fc m_nt m_wt m_sum mh f_qc f_m_fc f_m_nt f_m_wt f_m_sum f_mh; rw [f_x_claimCount] at hFX; rw [n_fc, n_nt, n_wt, n_sum, n_mh, f_x_claimCount] at hFR9
  have hBX := hkBX qc m_be f_qc f_m_be; rw [n_be, f_x_claimCount] at hBX
  rw [n_ml, f_x_claimCount] at hAC9
  obtain ⟨y_p0, f_y_p0, g_y_p0⟩ := hx_rf hT g_qo_py tt_3 (k := 2) (u := 23) rfl
  obtain ⟨m_p0, f_m_p0, g_m_p0⟩ := hx_rf hT gm tt_10 (k := 60) (u := 93) rfl
  obtain ⟨F_p0, n_p0⟩ : ∃ g : Nat → Int32, hl1.2.1 m_p0 = g := ⟨_, rfl⟩
  have n_y_p0 : hl1.2.1 y_p0 = F_p0 := (hkP0 qo_py y_p0 m_p0 f_qo_py f_y_p0 f_m_p0).trans n_p0
  obtain ⟨y_p1, f_y_p1, g_y_p1⟩ := hx_rf hT g_qo_py tt_3 (k := 3) (u := 24) rfl
  obtain ⟨m_p1, f_m_p1, g_m_p1⟩ := hx_rf hT gm tt_10 (k := 61) (u := 94) rfl
  obtain ⟨F_p1, n_p1⟩ : ∃ g : Nat → Int32, hl1.2.1 m_p1 = g := ⟨_, rfl⟩
  have n_y_p1 : hl1.2.1 y_p1 = F_p1 := (hkP1 qo_py y_p1 m_p1 f_qo_py f_y_p1 f_m_p1).trans n_p1
  obtain ⟨y_p2, f_y_p2, g_y_p2⟩ := hx_rf hT g_qo_py tt_3 (k := 5) (u := 26) rfl
  obtain ⟨m_p2, f_m_p2, g_m_p2⟩ := hx_rf hT gm tt_10 (k := 62) (u := 95) rfl
  obtain ⟨F_p2, n_p2⟩ : ∃ g : Nat → Int32, hl1.2.1 m_p2 = g := ⟨_, rfl⟩
  have n_y_p2 : hl1.2.1 y_p2 = F_p2 := (hkP2 qo_py y_p2 m_p2 f_qo_py f_y_p2 f_m_p2).trans n_p2
  obtain ⟨y_p3, f_y_p3, g_y_p3⟩ := hx_rf hT g_qo_py tt_3 (k := 4) (u := 25) rfl
  obtain ⟨m_p3, f_m_p3, g_m_p3⟩ := hx_rf hT gm tt_10 (k := 63) (u := 96) rfl
  obtain ⟨F_p3, n_p3⟩ : ∃ g : Nat → Int32, hl1.2.1 m_p3 = g := ⟨_, rfl⟩
  have n_y_p3 : hl1.2.1 y_p3 = F_p3 := (hkP3 qo_py y_p3 m_p3 f_qo_py f_y_p3 f_m_p3).trans n_p3
  obtain ⟨y_p4, f_y_p4, g_y_p4⟩ := hx_rf hT g_qo_py tt_3 (k := 1) (u := 22) rfl
  obtain ⟨m_p4, f_m_p4, g_m_p4⟩ := hx_rf hT gm tt_10 (k := 64) (u := 97) rfl
  obtain ⟨F_p4, n_p4⟩ : ∃ g : Nat → Int32, hl1.2.1 m_p4 = g := ⟨_, rfl⟩
  have n_y_p4 : hl1.2.1 y_p4 = F_p4 := (hkP4 qo_py y_p4 m_p4 f_qo_py f_y_p4 f_m_p4).trans n_p4
  obtain ⟨qrg9, f_qrg9, g_qrg9⟩ := hx_rf hT gx tt_9 (k := 18) (u := 7) rfl
  obtain ⟨y_ls, f_y_ls, g_y_ls⟩ := hx_rf hT g_qrg9 tt_7 (k := 3) (u := 35) rfl
  obtain ⟨m_rl, f_m_rl, g_m_rl⟩ := hx_rf hT gm tt_10 (k := 85) (u := 109) rfl
  obtain ⟨F_y_ls, n_y_ls⟩ : ∃ g : Nat → Int32, hl1.2.1 y_ls = g := ⟨_, rfl⟩
  obtain ⟨F_m_rl, n_m_rl⟩ : ∃ g : Nat → Int32, hl1.2.1 m_rl = g := ⟨_, rfl⟩
  obtain ⟨fv_21, efv_21⟩ : ∃ y : Int32, y = hl1.2.1 qrg9 0 := ⟨_, rfl⟩
  have bfv_21 := hT.gi g_qrg9 tt_7 (k := 0) rfl
  rw [← efv_21] at bfv_21
  have bfv_21 : -1 ≤ fv_21.toInt ∧ fv_21.toInt ≤ 100 := bfv_21
  have ffv_21 := efv_21.symm
  obtain ⟨fv_22, efv_22⟩ : ∃ y : Int32, y = hl1.2.1 am 83 := ⟨_, rfl⟩
  have bfv_22 := hT.gi gm tt_10 (k := 83) rfl
  rw [← efv_22] at bfv_22
  have bfv_22 : 0 ≤ fv_22.toInt ∧ fv_22.toInt ≤ 1 := bfv_22
  have ffv_22 := efv_22.symm
  obtain ⟨fv_23, efv_23⟩ : ∃ y : Int32, y = hl1.2.1 am 84 := ⟨_, rfl⟩
  have bfv_23 := hT.gi gm tt_10 (k := 84) rfl
  rw [← efv_23] at bfv_23
  have bfv_23 : 0 ≤ fv_23.toInt ∧ fv_23.toInt ≤ 300 := bfv_23
  have ffv_23 := efv_23.symm
  have hNQ9 := hkNQ qrg9 f_qrg9; rw [ffv_21, ffv_22, ffv_23] at hNQ9
  have hRL9 := hkRL qrg9 y_ls m_rl f_qrg9 f_y_ls f_m_rl; rw [n_y_ls, n_m_rl, ffv_21] at hRL9
  have hCB : hz_CB F_ord F_wkl F_owd F_szd F_gds F_srv := fun c hc => ⟨by have w := hT.ei g_m_ord tt_83 (k := c) (by omega); rw [n_ord] at w; exact w, by have w := hT.ei g_m_wkl tt_89 (k := c) (by omega); rw [n_wkl] at w; exact w, by have w := hT.ei g_m_owd tt_90 (k := c) (by omega); rw [n_owd] at w; exact w, by have w := hT.ei g_m_szd tt_84 (k := c) (by omega); rw [n_szd] at w; exact w, by have w := hT.ei g_m_gds tt_91 (k := c) (by omega); rw [n_gds] at w; exact w, by have w := hT.ei g_m_srv tt_85 (k := c) (by omega); rw [n_srv] at w; exact w⟩
  have hps : ∀ j, j < 600 → 0 ≤ (F_p2 j).toInt ∧ (F_p2 j).toInt ≤ 610000 := fun j hj => by have w := hT.ei g_m_p2 tt_95 (k := j) (by omega); rw [n_p2] at w; exact w
  have hte9 : ∀ c : Nat, c < 100 → (0 ≤ (c_tri c).toInt ∧ (c_tri c).toInt ≤ 512) ∧ (0 ≤ (F_sum c).toInt ∧ (F_sum c).toInt ≤ 9999) := fun c hc => ⟨htb9 c hc, by have w := hT.ei g_m_sum tt_74 (k := c) (by omega); rw [n_sum] at w; exact w⟩
  have hee9 : ∀ c : Nat, c < 40 → (0 ≤ (F_ear c).toInt ∧ (F_ear c).toInt ≤ 9999) ∧ (0 ≤ (F_hds c).toInt ∧ (F_hds c).toInt ≤ 20) := fun c hc => ⟨by have w := hT.ei g_m_ear tt_59 (k := c) (by omega); rw [n_ear] at w; exact w, by have w := hT.ei g_m_hds tt_60 (k := c) (by omega); rw [n_hds] at w; exact w⟩
  have bAG9 : ∀ k, k < 100 → 0 ≤ (F_aga k).toInt ∧ (F_aga k).toInt ≤ 39 := fun k hk => by have w := hT.ei g_m_aga tt_73 (k := k) (by omega); rw [n_aga] at w; exact w
  have bBY9 : ∀ k, k < 100 → 0 ≤ (F_by k).toInt ∧ (F_by k).toInt ≤ 39 := fun k hk => by have w := hT.ei g_m_by tt_72 (k := k) (by omega); rw [n_by] at w; exact w
  have hag9 : ∀ c, c < c0.toInt.toNat → 0 ≤ (F_aga c).toInt ∧ (F_aga c).toInt < 40 ∧ 0 ≤ (F_by c).toInt ∧ (F_by c).toInt < 40 := fun c hc => by have a9 := bAG9 c (by omega); have b9 := bBY9 c (by omega); omega
  have z_wkl : F_wkl c0.toInt.toNat = 0 := hx_num_z2 nu_qc cl_wkl ?o7
  case o7 => omega
  have z_owd : F_owd c0.toInt.toNat = 0 := hx_num_z2 nu_qc cl_owd ?o8
  case o8 => omega
  have z_gds : F_gds c0.toInt.toNat = 0 := hx_num_z2 nu_qc cl_gds ?o9
  case o9 => omega
  have hwd := jw mw f_mw; rw [n_mw] at hwd
  have hWK := jr mr f_mr; rw [n_mr, f_m_acts] at hWK
  have hRP := jp mp mn f_mp f_mn; rw [n_mp, n_mn, f_m_acts] at hRP
  have hPL := jl ml f_ml; rw [n_ml, f_m_claims, f_m_acts] at hPL
  have hHC := jh mh f_mh; rw [n_mh, f_m_heardMany, f_m_claims] at hHC
  have hTR := jt mt f_mt; rw [n_mt] at hTR
  have hHF := jf mh m_fou f_mh f_m_fou; rw [n_mh, n_m_fou, f_m_claims] at hHF
  refine lv_aload_n hx hb dL_law_195 rfl (lv_at hl 2 rfl) ?_
  refine lv_aload_n hx hb dL_law_196 rfl (lv_at hl 3 rfl) ?_
  refine lv_iload_n hx hb dL_law_197 rfl (lv_at hl 0 rfl) ?_
  refine lv_iconst (v := 1) hx hb dL_law_198 ?o10 ?_
  case o10 => decide
  refine lv_iadd hx hb dL_law_199 ?_
  have rg_24 := i32_r i
  refine lv_topi (fun x_25 ex_25 => ?_)
  have zx_25 : x_25.toInt = i.toInt + 1 := ?o11
  case o11 =>
    rw [ex_25]
    refine i32_add rfl ?o12 ?o13 ?o14
    case o12 => decide
    case o13 => omega
    case o14 => omega
  refine va_sld hx hb hX hbl hbA hW.2.2.2.1 (vp_in_iff.mpr ⟨?o15, ?o16⟩) dL_law_200 ?_
  case o15 => omega
  case o16 => omega
  refine lv_topi (fun x_26 ex_26 => ?_)
  refine lv_aload_n hx hb dL_law_201 rfl (lv_at hl 3 rfl) ?_
  refine lv_iload_n hx hb dL_law_202 rfl (lv_at hl 0 rfl) ?_
  refine lv_iconst (v := 2) hx hb dL_law_203 ?o17 ?_
  case o17 => decide
  refine lv_iadd hx hb dL_law_204 ?_
  refine lv_topi (fun x_27 ex_27 => ?_)
  have zx_27 : x_27.toInt = i.toInt + 2 := ?o18
  case o18 =>
    rw [ex_27]
    refine i32_add rfl ?o19 ?o20 ?o21
    case o19 => decide
    case o20 => omega
    case o21 => omega
  refine va_sld hx hb hX hbl hbA hW.2.2.2.1 (vp_in_iff.mpr ⟨?o22, ?o23⟩) dL_law_205 ?_
  case o22 => omega
  case o23 => omega
  refine lv_topi (fun x_28 ex_28 => ?_)
  refine lv_aload_n hx hb dL_law_206 rfl (lv_at hl 3 rfl) ?_
  refine lv_iload_n hx hb dL_law_207 rfl (lv_at hl 0 rfl) ?_
  refine lv_iconst (v := 3) hx hb dL_law_208 ?o24 ?_
  case o24 => decide
  refine lv_iadd hx hb dL_law_209 ?_
  refine lv_topi (fun x_29 ex_29 => ?_)
  have zx_29 : x_29.toInt = i.toInt + 3 := ?o25
  case o25 =>
    rw [ex_29]
    refine i32_add rfl ?o26 ?o27 ?o28
    case o26 => decide
    case o27 => omega
    case o28 => omega
  refine va_sld hx hb hX hbl hbA hW.2.2.2.1 (vp_in_iff.mpr ⟨?o29, ?o30⟩) dL_law_210 ?_
  case o29 => omega
  case o30 => omega
  refine lv_topi (fun x_30 ex_30 => ?_)
  refine lv_aload_n hx hb dL_law_211 rfl (lv_at hl 3 rfl) ?_
  refine lv_iload_n hx hb dL_law_212 rfl (lv_at hl 0 rfl) ?_
  refine lv_iconst (v := 4) hx hb dL_law_213 ?o31 ?_
  case o31 => decide
  refine lv_iadd hx hb dL_law_214 ?_
  refine lv_topi (fun x_31 ex_31 => ?_)
  have zx_31 : x_31.toInt = i.toInt + 4 := ?o32
  case o32 =>
    rw [ex_31]
    refine i32_add rfl ?o33 ?o34 ?o35
    case o33 => decide
    case o34 => omega
    case o35 => omega
  refine va_sld hx hb hX hbl hbA hW.2.2.2.1 (vp_in_iff.mpr ⟨?o36, ?o37⟩) dL_law_215 ?_
  case o36 => omega
  case o37 => omega
  refine lv_topi (fun x_32 ex_32 => ?_)
  refine lv_aload_n hx hb dL_law_216 rfl (lv_at hl 3 rfl) ?_
  refine lv_iload_n hx hb dL_law_217 rfl (lv_at hl 0 rfl) ?_
  refine lv_iconst (v := 5) hx hb dL_law_218 ?o38 ?_
  case o38 => decide
  refine lv_iadd hx hb dL_law_219 ?_
  refine lv_topi (fun x_33 ex_33 => ?_)
  have zx_33 : x_33.toInt = i.toInt + 5 := ?o39
  case o39 =>
    rw [ex_33]
    refine i32_add rfl ?o40 ?o41 ?o42
    case o40 => decide
    case o41 => omega
    case o42 => omega
  refine va_sld hx hb hX hbl hbA hW.2.2.2.1 (vp_in_iff.mpr ⟨?o43, ?o44⟩) dL_law_220 ?_
  case o43 => omega
  case o44 => omega
  refine lv_topi (fun x_34 ex_34 => ?_)
  have hTo := hT
  refine hx_goi (hx_runV (As := [.int x_26, .int x_28, .int x_30, .int x_32, .int x_34]) (rest := []) ⟨hx, hb, hml, hown, hts⟩ hW gx tt_9 (T := TX9) (N := 20) rfl (t_X9_feed_v l dC dI dA L1 hl1 H.size ax x_26 x_28 x_30 x_32 x_34 hT gx qtp g_qtp f_qtp F_tp n_qtp tl f_x_tapeLength) (cwV 5 hts (hx_gV kw_438 kw_435 kw_436 kw_437 kw_94) rfl rfl rfl (by decide +kernel) ⟨Nat.le_of_ble_eq_true rfl, Nat.le_of_ble_eq_true rfl⟩) rfl hl.1 rfl (Nat.le_of_ble_eq_true rfl) dL_law_221 ⟨(show CC + 0 ≤ 600000 from ?o45), (show SS + 0 ≤ 7302250 from ?o46)⟩) hW (fun r_37 L_35 h_36 H locs p_38 hW => ?_)
  case o45 => omega
  case o46 => omega
  obtain ⟨⟨w_40, w_41, fw_40, fw_41, hr_39⟩, hT, hs⟩ := p_38
  replace hT : hx_T T_tb L_35 h_36 := hT
  replace hs : hx_S T_tb [(9, 1), (42, 0)] L1 hl1 L_35 h_36 := hs
  replace f_qa := (hs.o gx trivial rfl).2.trans f_qa
  replace f_qp := (hs.o gx trivial rfl).2.trans f_qp
  replace f_qc := (hs.o gx trivial rfl).2.trans f_qc
  replace f_qh := (hs.o gx trivial rfl).2.trans f_qh
  replace f_qw := (hs.o gx trivial rfl).2.trans f_qw
  replace f_ql := (hs.o g_qw trivial rfl).2.trans f_ql
  replace f_m_now := (hs.o gm trivial rfl).1.trans f_m_now
  replace f_m_persons := (hs.o gm trivial rfl).1.trans f_m_persons
  replace f_m_claims := (hs.o gm trivial rfl).1.trans f_m_claims
  replace f_m_taped := (hs.o gm trivial rfl).1.trans f_m_taped
  replace f_m_acts := (hs.o gm trivial rfl).1.trans f_m_acts
  replace f_m_heardMany := (hs.o gm trivial rfl).1.trans f_m_heardMany
  replace f_m_lines := (hs.o gm trivial rfl).1.trans f_m_lines
  replace f_m_listed := (hs.o gm trivial rfl).1.trans f_m_listed
  replace f_m_walkedMany := (hs.o gm trivial rfl).1.trans f_m_walkedMany
  replace f_m_payments := (hs.o gm trivial rfl).1.trans f_m_payments
  replace f_x_now := (hs.o gx trivial rfl).1.trans f_x_now
  replace f_x_personCount := (hs.o gx trivial rfl).1.trans f_x_personCount
  replace f_x_claimCount := (hs.o gx trivial rfl).1.trans f_x_claimCount
  replace f_x_actCount := (hs.o gx trivial rfl).1.trans f_x_actCount
  replace f_x_heardCount := (hs.o gx trivial rfl).1.trans f_x_heardCount
  replace f_mw := (hs.o gm trivial rfl).2.trans f_mw
  replace f_mr := (hs.o gm trivial rfl).2.trans f_mr
  replace f_mp := (hs.o gm trivial rfl).2.trans f_mp
  replace f_mn := (hs.o gm trivial rfl).2.trans f_mn
  replace f_ml := (hs.o gm trivial rfl).2.trans f_ml
  replace f_mh := (hs.o gm trivial rfl).2.trans f_mh
  replace f_mt := (hs.o gm trivial rfl).2.trans f_mt
  replace f_m_fou := (hs.o gm trivial rfl).2.trans f_m_fou
  replace f_qo_ln := (hs.o gx trivial rfl).2.trans f_qo_ln
  replace f_o_ln := (hs.o g_qo_ln trivial rfl).1.trans f_o_ln
  replace f_o_lsd := (hs.o g_qw trivial rfl).1.trans f_o_lsd
  replace f_o_wkm := (hs.o g_qw trivial rfl).1.trans f_o_wkm
  replace f_qo_py := (hs.o gx trivial rfl).2.trans f_qo_py
  replace f_o_py := (hs.o g_qo_py trivial rfl).1.trans f_o_py
  replace f_b_of := (hs.o g_qo_ln trivial rfl).2.trans f_b_of
  replace f_m_of := (hs.o gm trivial rfl).2.trans f_m_of
  replace f_b_wf := (hs.o g_qo_ln trivial rfl).2.trans f_b_wf
  replace f_m_wf := (hs.o gm trivial rfl).2.trans f_m_wf
  replace f_b_df := (hs.o g_qo_ln trivial rfl).2.trans f_b_df
  replace f_m_df := (hs.o gm trivial rfl).2.trans f_m_df
  replace f_b_kf := (hs.o g_qo_ln trivial rfl).2.trans f_b_kf
  replace f_m_kf := (hs.o gm trivial rfl).2.trans f_m_kf
  replace f_b_sf := (hs.o g_qo_ln trivial rfl).2.trans f_b_sf
  replace f_m_sf := (hs.o gm trivial rfl).2.trans f_m_sf
  replace f_b_bf := (hs.o g_qo_ln trivial rfl).2.trans f_b_bf
  replace f_m_lst := (hs.o gm trivial rfl).2.trans f_m_lst
  replace f_qtp := (hs.o gx trivial rfl).2.trans f_qtp
  replace f_m_tp := (hs.o gm trivial rfl).2.trans f_m_tp
  replace f_m_dead := (hs.o gm trivial rfl).2.trans f_m_dead
  replace f_m_isj := (hs.o gm trivial rfl).2.trans f_m_isj
  replace f_m_dox := (hs.o gm trivial rfl).2.trans f_m_dox
  replace f_m_doy := (hs.o gm trivial rfl).2.trans f_m_doy
  replace f_qlt := (hs.o g_qw trivial rfl).2.trans f_qlt
  replace f_qlf := (hs.o g_qw trivial rfl).2.trans f_qlf
  replace f_m_wkd := (hs.o gm trivial rfl).2.trans f_m_wkd
  replace f_m_aga := (hs.o gm trivial rfl).2.trans f_m_aga
  replace f_qwo := (hs.o gx trivial rfl).2.trans f_qwo
  replace f_m_ad := (hs.o gm trivial rfl).2.trans f_m_ad
  replace f_m_by := (hs.o gm trivial rfl).2.trans f_m_by
  replace f_m_ho := (hs.o gm trivial rfl).2.trans f_m_ho
  replace f_m_fc := (hs.o gm trivial rfl).2.trans f_m_fc
  replace f_m_nt := (hs.o gm trivial rfl).2.trans f_m_nt
  replace f_m_wt := (hs.o gm trivial rfl).2.trans f_m_wt
  replace f_m_be := (hs.o gm trivial rfl).2.trans f_m_be
  replace f_m_bor := (hs.o gm trivial rfl).2.trans f_m_bor
  replace f_m_kin := (hs.o gm trivial rfl).2.trans f_m_kin
  replace f_m_sum := (hs.o gm trivial rfl).2.trans f_m_sum
  replace f_m_fro := (hs.o gm trivial rfl).2.trans f_m_fro
  replace f_m_fil := (hs.o gm trivial rfl).2.trans f_m_fil
  replace f_m_jud := (hs.o gm trivial rfl).2.trans f_m_jud
  replace f_m_ear := (hs.o gm trivial rfl).2.trans f_m_ear
  replace f_m_hds := (hs.o gm trivial rfl).2.trans f_m_hds
  replace f_m_ord := (hs.o gm trivial rfl).2.trans f_m_ord
  replace f_m_wkl := (hs.o gm trivial rfl).2.trans f_m_wkl
  replace f_m_owd := (hs.o gm trivial rfl).2.trans f_m_owd
  replace f_m_gds := (hs.o gm trivial rfl).2.trans f_m_gds
  replace f_m_szd := (hs.o gm trivial rfl).2.trans f_m_szd
  replace f_m_srv := (hs.o gm trivial rfl).2.trans f_m_srv
  replace f_y_p0 := (hs.o g_qo_py trivial rfl).2.trans f_y_p0
  replace f_m_p0 := (hs.o gm trivial rfl).2.trans f_m_p0
  replace f_y_p1 := (hs.o g_qo_py trivial rfl).2.trans f_y_p1
  replace f_m_p1 := (hs.o gm trivial rfl).2.trans f_m_p1
  replace f_y_p2 := (hs.o g_qo_py trivial rfl).2.trans f_y_p2
  replace f_m_p2 := (hs.o gm trivial rfl).2.trans f_m_p2
  replace f_y_p3 := (hs.o g_qo_py trivial rfl).2.trans f_y_p3
  replace f_m_p3 := (hs.o gm trivial rfl).2.trans f_m_p3
  replace f_y_p4 := (hs.o g_qo_py trivial rfl).2.trans f_y_p4
  replace f_m_p4 := (hs.o gm trivial rfl).2.trans f_m_p4
  replace f_qrg9 := (hs.o gx trivial rfl).2.trans f_qrg9
  replace f_y_ls := (hs.o g_qrg9 trivial rfl).2.trans f_y_ls
  replace f_m_rl := (hs.o gm trivial rfl).2.trans f_m_rl
  replace ffv_21 := (hs.o g_qrg9 trivial rfl).1.trans ffv_21
  replace ffv_22 := (hs.o gm trivial rfl).1.trans ffv_22
  replace ffv_23 := (hs.o gm trivial rfl).1.trans ffv_23
  replace pf_qa : ∀ j : Nat, (j : Int) < (h_36.2.1 ax 6).toInt → h_36.2.2 qa j ≠ none := by
    intro j hj; rw [(hs.o gx trivial rfl).1] at hj; rw [(hs.a g_qa rfl j).2]; exact pf_qa j hj
  replace pf_qp : ∀ j : Nat, (j : Int) < (h_36.2.1 ax 8).toInt → h_36.2.2 qp j ≠ none := by
    intro j hj; rw [(hs.o gx trivial rfl).1] at hj; rw [(hs.a g_qp rfl j).2]; exact pf_qp j hj
  replace pf_qc : ∀ j : Nat, (j : Int) < (h_36.2.1 ax 11).toInt → h_36.2.2 qc j ≠ none := by
    intro j hj; rw [(hs.o gx trivial rfl).1] at hj; rw [(hs.a g_qc rfl j).2]; exact pf_qc j hj
  replace pf_qh : ∀ j : Nat, (j : Int) < (h_36.2.1 ax 13).toInt → h_36.2.2 qh j ≠ none := by
    intro j hj; rw [(hs.o gx trivial rfl).1] at hj; rw [(hs.a g_qh rfl j).2]; exact pf_qh j hj
  replace pf_ql : ∀ j : Nat, (j : Int) < (h_36.2.1 qw 0).toInt → h_36.2.2 ql j ≠ none := by
    intro j hj; rw [(hs.o g_qw trivial rfl).1] at hj; rw [(hs.a g_ql rfl j).2]; exact pf_ql j hj
  replace cl_lst : hx_col 8 h_36 ql 0 = c_lst := (hx_col_S hs hTo g_ql tt_40 tt_2 rfl rfl).trans cl_lst
  replace cl_dead : hx_col 40 h_36 qp 7 = c_dead := (hx_col_S hs hTo g_qp tt_44 tt_4 rfl rfl).trans cl_dead
  replace cl_isj : hx_col 40 h_36 qp 8 = c_isj := (hx_col_S hs hTo g_qp tt_44 tt_4 rfl rfl).trans cl_isj
  replace cl_dox : hx_col 40 h_36 qp 5 = c_dox := (hx_col_S hs hTo g_qp tt_44 tt_4 rfl rfl).trans cl_dox
  replace cl_doy : hx_col 40 h_36 qp 6 = c_doy := (hx_col_S hs hTo g_qp tt_44 tt_4 rfl rfl).trans cl_doy
  replace cl_fou : hx_col 100 h_36 qc 10 = c_fou := (hx_col_S hs hTo g_qc tt_45 tt_2 rfl rfl).trans cl_fou
  replace cl_tri : hx_col 100 h_36 qc 9 = c_tri := (hx_col_S hs hTo g_qc tt_45 tt_2 rfl rfl).trans cl_tri
  replace cl_bor : hx_col 40 h_36 qp 1 = F_bor := (hx_col_S hs hTo g_qp tt_44 tt_4 rfl rfl).trans cl_bor
  replace cl_kin : hx_col 40 h_36 qp 2 = F_kin := (hx_col_S hs hTo g_qp tt_44 tt_4 rfl rfl).trans cl_kin
  replace cl_sum : hx_col 100 h_36 qc 6 = F_sum := (hx_col_S hs hTo g_qc tt_45 tt_2 rfl rfl).trans cl_sum
  replace cl_fro : hx_col 100 h_36 qc 7 = F_fro := (hx_col_S hs hTo g_qc tt_45 tt_2 rfl rfl).trans cl_fro
  replace cl_fil : hx_col 100 h_36 qc 8 = F_fil := (hx_col_S hs hTo g_qc tt_45 tt_2 rfl rfl).trans cl_fil
  replace cl_hea : hx_col 100 h_36 qc 11 = F_mh := (hx_col_S hs hTo g_qc tt_45 tt_2 rfl rfl).trans cl_hea
  replace cl_jud : hx_col 100 h_36 qc 12 = F_jud := (hx_col_S hs hTo g_qc tt_45 tt_2 rfl rfl).trans cl_jud
  replace cl_ear : hx_col 40 h_36 qp 3 = F_ear := (hx_col_S hs hTo g_qp tt_44 tt_4 rfl rfl).trans cl_ear
  replace cl_hds : hx_col 40 h_36 qp 4 = F_hds := (hx_col_S hs hTo g_qp tt_44 tt_4 rfl rfl).trans cl_hds
  replace cl_ord : hx_col 100 h_36 qc 13 = F_ord := (hx_col_S hs hTo g_qc tt_45 tt_2 rfl rfl).trans cl_ord
  replace cl_wkl : hx_col 100 h_36 qc 14 = F_wkl := (hx_col_S hs hTo g_qc tt_45 tt_2 rfl rfl).trans cl_wkl
  replace cl_owd : hx_col 100 h_36 qc 15 = F_owd := (hx_col_S hs hTo g_qc tt_45 tt_2 rfl rfl).trans cl_owd
  replace cl_gds : hx_col 100 h_36 qc 17 = F_gds := (hx_col_S hs hTo g_qc tt_45 tt_2 rfl rfl).trans cl_gds
  replace cl_szd : hx_col 100 h_36 qc 16 = F_szd := (hx_col_S hs hTo g_qc tt_45 tt_2 rfl rfl).trans cl_szd
  replace cl_srv : hx_col 100 h_36 qc 18 = F_srv := (hx_col_S hs hTo g_qc tt_45 tt_2 rfl rfl).trans cl_srv
  replace nu_qp : hx_num 40 h_36 qp 0 (np.toInt) := hx_num_S hs hTo g_qp tt_44 tt_4 rfl rfl nu_qp
  replace nu_qc : hx_num 100 h_36 qc 0 (c0.toInt) := hx_num_S hs hTo g_qc tt_45 tt_2 rfl rfl nu_qc
  replace sb_list : hx_LQ 8 100 h_36 ql qc := hx_LQ_S hs g_ql g_qc rfl rfl sb_list
  replace hDF : hw_DF h_36 qc qp 2 F_aga c0.toInt := hw_DF_S hs hTo g_qc g_qp tt_45 tt_2 rfl rfl rfl hDF
  replace hRA9 : hv_RA h_36 qa qwo a0.toInt A9 := hv_RA_S hs hTo g_qa g_qwo tt_43 tt_0 rfl rfl rfl rfl rfl rfl ?o47 hRA9
  case o47 => omega
  replace hDP : hw_DF h_36 qc qp 1 F_by c0.toInt := hw_DF_S hs hTo g_qc g_qp tt_45 tt_2 rfl rfl rfl hDP
  replace hAC9 : hv_AC h_36 qc F_ml c0.toInt A9 := hv_AC_S hs hTo g_qc tt_45 tt_2 rfl tt_0 rfl rfl rfl rfl rfl rfl rfl hAC9
  replace hFX : hv_FX 8 4 h_36 qc cF9L c0.toInt := hv_FX_S hs hTo g_qc tt_45 tt_2 rfl rfl rfl rfl hFX
  replace hBX : hv_FX 3 5 h_36 qc F_be c0.toInt := hv_FX_S hs hTo g_qc tt_45 tt_2 rfl rfl rfl rfl hBX
  replace hHL : hv_HL h_36 qh qc F_ho m0.toInt c0.toInt := hv_HL_S hs g_qh g_qc rfl rfl hHL
  replace n_mw : h_36.2.1 mw = F_mw := (funext fun j => (hs.a g_mw rfl j).1).trans n_mw
  replace n_mr : h_36.2.1 mr = F_mr := (funext fun j => (hs.a g_mr rfl j).1).trans n_mr
  replace n_mp : h_36.2.1 mp = F_mp := (funext fun j => (hs.a g_mp rfl j).1).trans n_mp
  replace n_mn : h_36.2.1 mn = F_mn := (funext fun j => (hs.a g_mn rfl j).1).trans n_mn
  replace n_ml : h_36.2.1 ml = F_ml := (funext fun j => (hs.a g_ml rfl j).1).trans n_ml
  replace n_mh : h_36.2.1 mh = F_mh := (funext fun j => (hs.a g_mh rfl j).1).trans n_mh
  replace n_mt : h_36.2.1 mt = F_mt := (funext fun j => (hs.a g_mt rfl j).1).trans n_mt
  replace n_m_fou : h_36.2.1 m_fou = F_m_fou := (funext fun j => (hs.a g_m_fou rfl j).1).trans n_m_fou
  replace n_b_of : h_36.2.1 b_of = B_of := (funext fun j => (hs.a g_b_of rfl j).1).trans n_b_of
  replace n_m_of : h_36.2.1 m_of = F_of := (funext fun j => (hs.a g_m_of rfl j).1).trans n_m_of
  replace n_b_wf : h_36.2.1 b_wf = B_wf := (funext fun j => (hs.a g_b_wf rfl j).1).trans n_b_wf
  replace n_m_wf : h_36.2.1 m_wf = F_wf := (funext fun j => (hs.a g_m_wf rfl j).1).trans n_m_wf
  replace n_b_df : h_36.2.1 b_df = B_df := (funext fun j => (hs.a g_b_df rfl j).1).trans n_b_df
  replace n_m_df : h_36.2.1 m_df = F_df := (funext fun j => (hs.a g_m_df rfl j).1).trans n_m_df
  replace n_b_kf : h_36.2.1 b_kf = B_kf := (funext fun j => (hs.a g_b_kf rfl j).1).trans n_b_kf
  replace n_m_kf : h_36.2.1 m_kf = F_kf := (funext fun j => (hs.a g_m_kf rfl j).1).trans n_m_kf
  replace n_b_sf : h_36.2.1 b_sf = B_sf := (funext fun j => (hs.a g_b_sf rfl j).1).trans n_b_sf
  replace n_m_sf : h_36.2.1 m_sf = F_sf := (funext fun j => (hs.a g_m_sf rfl j).1).trans n_m_sf
  replace n_b_bf : h_36.2.1 b_bf = bfL := (funext fun j => (hs.a g_b_bf rfl j).1).trans n_b_bf
  replace n_lst : h_36.2.1 m_lst = F_lst := (funext fun j => (hs.a g_m_lst rfl j).1).trans n_lst
  replace n_tp : h_36.2.1 m_tp = F_tp := (funext fun j => (hs.a g_m_tp rfl j).1).trans n_tp
  replace n_dead : h_36.2.1 m_dead = F_dead := (funext fun j => (hs.a g_m_dead rfl j).1).trans n_dead
  replace n_isj : h_36.2.1 m_isj = F_isj := (funext fun j => (hs.a g_m_isj rfl j).1).trans n_isj
  replace n_dox : h_36.2.1 m_dox = F_dox := (funext fun j => (hs.a g_m_dox rfl j).1).trans n_dox
  replace n_doy : h_36.2.1 m_doy = F_doy := (funext fun j => (hs.a g_m_doy rfl j).1).trans n_doy
  replace n_qlt : h_36.2.1 qlt = F_qlt := (funext fun j => (hs.a g_qlt rfl j).1).trans n_qlt
  replace n_m_wkd : h_36.2.1 m_wkd = F_m_wkd := (funext fun j => (hs.a g_m_wkd rfl j).1).trans n_m_wkd
  replace n_aga : h_36.2.1 m_aga = F_aga := (funext fun j => (hs.a g_m_aga rfl j).1).trans n_aga
  replace n_ad : h_36.2.1 m_ad = F_ad := (funext fun j => (hs.a g_m_ad rfl j).1).trans n_ad
  replace n_by : h_36.2.1 m_by = F_by := (funext fun j => (hs.a g_m_by rfl j).1).trans n_by
  replace n_ho : h_36.2.1 m_ho = F_ho := (funext fun j => (hs.a g_m_ho rfl j).1).trans n_ho
  replace n_fc : h_36.2.1 m_fc = F_fc := (funext fun j => (hs.a g_m_fc rfl j).1).trans n_fc
  replace n_nt : h_36.2.1 m_nt = F_nt := (funext fun j => (hs.a g_m_nt rfl j).1).trans n_nt
  replace n_wt : h_36.2.1 m_wt = F_wt := (funext fun j => (hs.a g_m_wt rfl j).1).trans n_wt
  replace n_be : h_36.2.1 m_be = F_be := (funext fun j => (hs.a g_m_be rfl j).1).trans n_be
  replace n_bor : h_36.2.1 m_bor = F_bor := (funext fun j => (hs.a g_m_bor rfl j).1).trans n_bor
  replace n_kin : h_36.2.1 m_kin = F_kin := (funext fun j => (hs.a g_m_kin rfl j).1).trans n_kin
  replace n_sum : h_36.2.1 m_sum = F_sum := (funext fun j => (hs.a g_m_sum rfl j).1).trans n_sum
  replace n_fro : h_36.2.1 m_fro = F_fro := (funext fun j => (hs.a g_m_fro rfl j).1).trans n_fro
  replace n_fil : h_36.2.1 m_fil = F_fil := (funext fun j => (hs.a g_m_fil rfl j).1).trans n_fil
  replace n_jud : h_36.2.1 m_jud = F_jud := (funext fun j => (hs.a g_m_jud rfl j).1).trans n_jud
  replace n_ear : h_36.2.1 m_ear = F_ear := (funext fun j => (hs.a g_m_ear rfl j).1).trans n_ear
  replace n_hds : h_36.2.1 m_hds = F_hds := (funext fun j => (hs.a g_m_hds rfl j).1).trans n_hds
  replace n_ord : h_36.2.1 m_ord = F_ord := (funext fun j => (hs.a g_m_ord rfl j).1).trans n_ord
  replace n_wkl : h_36.2.1 m_wkl = F_wkl := (funext fun j => (hs.a g_m_wkl rfl j).1).trans n_wkl
  replace n_owd : h_36.2.1 m_owd = F_owd := (funext fun j => (hs.a g_m_owd rfl j).1).trans n_owd
  replace n_gds : h_36.2.1 m_gds = F_gds := (funext fun j => (hs.a g_m_gds rfl j).1).trans n_gds
  replace n_szd : h_36.2.1 m_szd = F_szd := (funext fun j => (hs.a g_m_szd rfl j).1).trans n_szd
  replace n_srv : h_36.2.1 m_srv = F_srv := (funext fun j => (hs.a g_m_srv rfl j).1).trans n_srv
  replace n_p0 : h_36.2.1 m_p0 = F_p0 := (funext fun j => (hs.a g_m_p0 rfl j).1).trans n_p0
  replace n_y_p0 : h_36.2.1 y_p0 = F_p0 := (funext fun j => (hs.a g_y_p0 rfl j).1).trans n_y_p0
  replace n_p1 : h_36.2.1 m_p1 = F_p1 := (funext fun j => (hs.a g_m_p1 rfl j).1).trans n_p1
  replace n_y_p1 : h_36.2.1 y_p1 = F_p1 := (funext fun j => (hs.a g_y_p1 rfl j).1).trans n_y_p1
  replace n_p2 : h_36.2.1 m_p2 = F_p2 := (funext fun j => (hs.a g_m_p2 rfl j).1).trans n_p2
  replace n_y_p2 : h_36.2.1 y_p2 = F_p2 := (funext fun j => (hs.a g_y_p2 rfl j).1).trans n_y_p2
  replace n_p3 : h_36.2.1 m_p3 = F_p3 := (funext fun j => (hs.a g_m_p3 rfl j).1).trans n_p3
  replace n_y_p3 : h_36.2.1 y_p3 = F_p3 := (funext fun j => (hs.a g_y_p3 rfl j).1).trans n_y_p3
  replace n_p4 : h_36.2.1 m_p4 = F_p4 := (funext fun j => (hs.a g_m_p4 rfl j).1).trans n_p4
  replace n_y_p4 : h_36.2.1 y_p4 = F_p4 := (funext fun j => (hs.a g_y_p4 rfl j).1).trans n_y_p4
  replace n_y_ls : h_36.2.1 y_ls = F_y_ls := (funext fun j => (hs.a g_y_ls rfl j).1).trans n_y_ls
  replace n_m_rl : h_36.2.1 m_rl = F_m_rl := (funext fun j => (hs.a g_m_rl rfl j).1).trans n_m_rl
  replace gx := gx.S hs
  replace gm := gm.S hs
  replace g_qa := g_qa.S hs
  replace g_qp := g_qp.S hs
  replace g_qc := g_qc.S hs
  replace g_qh := g_qh.S hs
  replace g_qw := g_qw.S hs
  replace g_ql := g_ql.S hs
  replace g_mw := g_mw.S hs
  replace g_mr := g_mr.S hs
  replace g_mp := g_mp.S hs
  replace g_mn := g_mn.S hs
  replace g_ml := g_ml.S hs
  replace g_mh := g_mh.S hs
  replace g_mt := g_mt.S hs
  replace g_m_fou := g_m_fou.S hs
  replace g_qo_ln := g_qo_ln.S hs
  replace g_qo_py := g_qo_py.S hs
  replace g_b_of := g_b_of.S hs
  replace g_m_of := g_m_of.S hs
  replace g_b_wf := g_b_wf.S hs
  replace g_m_wf := g_m_wf.S hs
  replace g_b_df := g_b_df.S hs
  replace g_m_df := g_m_df.S hs
  replace g_b_kf := g_b_kf.S hs
  replace g_m_kf := g_m_kf.S hs
  replace g_b_sf := g_b_sf.S hs
  replace g_m_sf := g_m_sf.S hs
  replace g_b_bf := g_b_bf.S hs
  replace g_m_lst := g_m_lst.S hs
  replace g_qtp := g_qtp.S hs
  replace g_m_tp := g_m_tp.S hs
  replace g_m_dead := g_m_dead.S hs
  replace g_m_isj := g_m_isj.S hs
  replace g_m_dox := g_m_dox.S hs
  replace g_m_doy := g_m_doy.S hs
  replace g_qlt := g_qlt.S hs
  replace g_qlf := g_qlf.S hs
  replace g_m_wkd := g_m_wkd.S hs
  replace g_m_aga := g_m_aga.S hs
  replace g_qwo := g_qwo.S hs
  replace g_m_ad := g_m_ad.S hs
  replace g_m_by := g_m_by.S hs
  replace g_m_ho := g_m_ho.S hs
  replace g_m_fc := g_m_fc.S hs
  replace g_m_nt := g_m_nt.S hs
  replace g_m_wt := g_m_wt.S hs
  replace g_m_be := g_m_be.S hs
  replace g_m_bor := g_m_bor.S hs
  replace g_m_kin := g_m_kin.S hs
  replace g_m_sum := g_m_sum.S hs
  replace g_m_fro := g_m_fro.S hs
  replace g_m_fil := g_m_fil.S hs
  replace g_m_jud := g_m_jud.S hs
  replace g_m_ear := g_m_ear.S hs
  replace g_m_hds := g_m_hds.S hs
  replace g_m_ord := g_m_ord.S hs
  replace g_m_wkl := g_m_wkl.S hs
  replace g_m_owd := g_m_owd.S hs
  replace g_m_gds := g_m_gds.S hs
  replace g_m_szd := g_m_szd.S hs
  replace g_m_srv := g_m_srv.S hs
  replace g_y_p0 := g_y_p0.S hs
  replace g_m_p0 := g_m_p0.S hs
  replace g_y_p1 := g_y_p1.S hs
  replace g_m_p1 := g_m_p1.S hs
  replace g_y_p2 := g_y_p2.S hs
  replace g_m_p2 := g_m_p2.S hs
  replace g_y_p3 := g_y_p3.S hs
  replace g_m_p3 := g_m_p3.S hs
  replace g_y_p4 := g_y_p4.S hs
  replace g_m_p4 := g_m_p4.S hs
  replace g_qrg9 := g_qrg9.S hs
  replace g_y_ls := g_y_ls.S hs
  replace g_m_rl := g_m_rl.S hs
  have fw_40 : h_36.2.1 ax 1 = w_40 := fw_40
  have bw_40 := hT.gi gx tt_9 (k := 1) rfl
  rw [fw_40] at bw_40
  have bw_40 : 0 ≤ w_40.toInt ∧ w_40.toInt ≤ 400 := bw_40
  have fw_41 : h_36.2.1 qtp = w_41 := fw_41
  refine lv_pop hx hb dL_law_224 rfl ?_
  refine lv_aload_n hx hb dL_law_225 rfl (lv_at hl 1 rfl) ?_
  refine lv_aload_n hx hb dL_law_226 rfl (lv_at hl 3 rfl) ?_
  refine lv_iload_n hx hb dL_law_227 rfl (lv_at hl 0 rfl) ?_
  refine lv_iconst (v := 1) hx hb dL_law_228 ?o48 ?_
  case o48 => decide
  refine lv_iadd hx hb dL_law_229 ?_
  refine lv_topi (fun x_42 ex_42 => ?_)
  have zx_42 : x_42.toInt = i.toInt + 1 := ?o49
  case o49 =>
    rw [ex_42]
    refine i32_add rfl ?o50 ?o51 ?o52
    case o50 => decide
    case o51 => omega
    case o52 => omega
  obtain rfl : x_25 = x_42 := ex_25.trans ex_42.symm
  refine va_sld hx hb hX hbl hbA hW.2.2.2.1 (vp_in_iff.mpr ⟨?o53, ?o54⟩) dL_law_230 ?_
  case o53 => omega
  case o54 => omega
  refine lv_topi (fun x_43 ex_43 => ?_)
  obtain rfl : x_26 = x_43 := ex_26.trans ex_43.symm
  refine lv_aload_n hx hb dL_law_231 rfl (lv_at hl 3 rfl) ?_
  refine lv_iload_n hx hb dL_law_232 rfl (lv_at hl 0 rfl) ?_
  refine lv_iconst (v := 2) hx hb dL_law_233 ?o55 ?_
  case o55 => decide
  refine lv_iadd hx hb dL_law_234 ?_
  refine lv_topi (fun x_44 ex_44 => ?_)
  have zx_44 : x_44.toInt = i.toInt + 2 := ?o56
  case o56 =>
    rw [ex_44]
    refine i32_add rfl ?o57 ?o58 ?o59
    case o57 => decide
    case o58 => omega
    case o59 => omega
  obtain rfl : x_27 = x_44 := ex_27.trans ex_44.symm
  refine va_sld hx hb hX hbl hbA hW.2.2.2.1 (vp_in_iff.mpr ⟨?o60, ?o61⟩) dL_law_235 ?_
  case o60 => omega
  case o61 => omega
  refine lv_topi (fun x_45 ex_45 => ?_)
  obtain rfl : x_28 = x_45 := ex_28.trans ex_45.symm
  refine lv_aload_n hx hb dL_law_236 rfl (lv_at hl 3 rfl) ?_
  refine lv_iload_n hx hb dL_law_237 rfl (lv_at hl 0 rfl) ?_
  refine lv_iconst (v := 3) hx hb dL_law_238 ?o62 ?_
  case o62 => decide
  refine lv_iadd hx hb dL_law_239 ?_
  refine lv_topi (fun x_46 ex_46 => ?_)
  have zx_46 : x_46.toInt = i.toInt + 3 := ?o63
  case o63 =>
    rw [ex_46]
    refine i32_add rfl ?o64 ?o65 ?o66
    case o64 => decide
    case o65 => omega
    case o66 => omega
  obtain rfl : x_29 = x_46 := ex_29.trans ex_46.symm
  refine va_sld hx hb hX hbl hbA hW.2.2.2.1 (vp_in_iff.mpr ⟨?o67, ?o68⟩) dL_law_240 ?_
  case o67 => omega
  case o68 => omega
  refine lv_topi (fun x_47 ex_47 => ?_)
  obtain rfl : x_30 = x_47 := ex_30.trans ex_47.symm
  refine lv_aload_n hx hb dL_law_241 rfl (lv_at hl 3 rfl) ?_
  refine lv_iload_n hx hb dL_law_242 rfl (lv_at hl 0 rfl) ?_
  refine lv_iconst (v := 4) hx hb dL_law_243 ?o69 ?_
  case o69 => decide
  refine lv_iadd hx hb dL_law_244 ?_
  refine lv_topi (fun x_48 ex_48 => ?_)
  have zx_48 : x_48.toInt = i.toInt + 4 := ?o70
  case o70 =>
    rw [ex_48]
    refine i32_add rfl ?o71 ?o72 ?o73
    case o71 => decide
    case o72 => omega
    case o73 => omega
  obtain rfl : x_31 = x_48 := ex_31.trans ex_48.symm
  refine va_sld hx hb hX hbl hbA hW.2.2.2.1 (vp_in_iff.mpr ⟨?o74, ?o75⟩) dL_law_245 ?_
  case o74 => omega
  case o75 => omega
  refine lv_topi (fun x_49 ex_49 => ?_)
  obtain rfl : x_32 = x_49 := ex_32.trans ex_49.symm
  refine lv_aload_n hx hb dL_law_246 rfl (lv_at hl 3 rfl) ?_
  refine lv_iload_n hx hb dL_law_247 rfl (lv_at hl 0 rfl) ?_
  refine lv_iconst (v := 5) hx hb dL_law_248 ?o76 ?_
  case o76 => decide
  refine lv_iadd hx hb dL_law_249 ?_
  refine lv_topi (fun x_50 ex_50 => ?_)
  have zx_50 : x_50.toInt = i.toInt + 5 := ?o77
  case o77 =>
    rw [ex_50]
    refine i32_add rfl ?o78 ?o79 ?o80
    case o78 => decide
    case o79 => omega
    case o80 => omega
  obtain rfl : x_33 = x_50 := ex_33.trans ex_50.symm
  refine va_sld hx hb hX hbl hbA hW.2.2.2.1 (vp_in_iff.mpr ⟨?o81, ?o82⟩) dL_law_250 ?_
  case o81 => omega
  case o82 => omega
  refine lv_topi (fun x_51 ex_51 => ?_)
  obtain rfl : x_34 = x_51 := ex_34.trans ex_51.symm
  have hTo := hT
  refine hx_goi (hx_runV (As := [.int x_26, .int x_28, .int x_30, .int x_32, .int x_34]) (rest := []) ⟨hx, hb, hml, hown, hts⟩ hW gm tt_10 (T := TX10) (N := 98) rfl (t_X10_feed_v l dC dI dA L_35 h_36 H.size am x_26 x_28 x_30 x_32 x_34 hT gm m_tp g_m_tp f_m_tp F_tp n_tp tl f_m_taped) (cwV 5 hts (hx_gV kw_1449 kw_1446 kw_1447 kw_1448 kw_103) rfl rfl rfl (by decide +kernel) ⟨Nat.le_of_ble_eq_true rfl, Nat.le_of_ble_eq_true rfl⟩) rfl hl.1 rfl (Nat.le_of_ble_eq_true rfl) dL_law_251 ⟨(show CC + 0 + 0 ≤ 600000 from ?o83), (show SS + 0 + 0 ≤ 7302250 from ?o84)⟩) hW (fun r_54 L_52 h_53 H locs p_55 hW => ?_)
  case o83 => omega
  case o84 => omega
  obtain ⟨⟨w_57, w_58, fw_57, fw_58, hr_56⟩, hT, hs⟩ := p_55
  replace hT : hx_T T_tb L_52 h_53 := hT
  replace hs : hx_S T_tb [(10, 7), (53, 0)] L_35 h_36 L_52 h_53 := hs
  replace f_qa := (hs.o gx trivial rfl).2.trans f_qa
  replace f_qp := (hs.o gx trivial rfl).2.trans f_qp
  replace f_qc := (hs.o gx trivial rfl).2.trans f_qc
  replace f_qh := (hs.o gx trivial rfl).2.trans f_qh
  replace f_qw := (hs.o gx trivial rfl).2.trans f_qw
  replace f_ql := (hs.o g_qw trivial rfl).2.trans f_ql
  replace f_m_now := (hs.o gm trivial rfl).1.trans f_m_now
  replace f_m_persons := (hs.o gm trivial rfl).1.trans f_m_persons
  replace f_m_claims := (hs.o gm trivial rfl).1.trans f_m_claims
  replace f_m_acts := (hs.o gm trivial rfl).1.trans f_m_acts
  replace f_m_heardMany := (hs.o gm trivial rfl).1.trans f_m_heardMany
  replace f_m_lines := (hs.o gm trivial rfl).1.trans f_m_lines
  replace f_m_listed := (hs.o gm trivial rfl).1.trans f_m_listed
  replace f_m_walkedMany := (hs.o gm trivial rfl).1.trans f_m_walkedMany
  replace f_m_payments := (hs.o gm trivial rfl).1.trans f_m_payments
  replace f_x_now := (hs.o gx trivial rfl).1.trans f_x_now
  replace f_x_personCount := (hs.o gx trivial rfl).1.trans f_x_personCount
  replace f_x_claimCount := (hs.o gx trivial rfl).1.trans f_x_claimCount
  replace f_x_actCount := (hs.o gx trivial rfl).1.trans f_x_actCount
  replace f_x_heardCount := (hs.o gx trivial rfl).1.trans f_x_heardCount
  replace f_mw := (hs.o gm trivial rfl).2.trans f_mw
  replace f_mr := (hs.o gm trivial rfl).2.trans f_mr
  replace f_mp := (hs.o gm trivial rfl).2.trans f_mp
  replace f_mn := (hs.o gm trivial rfl).2.trans f_mn
  replace f_ml := (hs.o gm trivial rfl).2.trans f_ml
  replace f_mh := (hs.o gm trivial rfl).2.trans f_mh
  replace f_mt := (hs.o gm trivial rfl).2.trans f_mt
  replace f_m_fou := (hs.o gm trivial rfl).2.trans f_m_fou
  replace f_qo_ln := (hs.o gx trivial rfl).2.trans f_qo_ln
  replace f_o_ln := (hs.o g_qo_ln trivial rfl).1.trans f_o_ln
  replace f_o_lsd := (hs.o g_qw trivial rfl).1.trans f_o_lsd
  replace f_o_wkm := (hs.o g_qw trivial rfl).1.trans f_o_wkm
  replace f_qo_py := (hs.o gx trivial rfl).2.trans f_qo_py
  replace f_o_py := (hs.o g_qo_py trivial rfl).1.trans f_o_py
  replace f_b_of := (hs.o g_qo_ln trivial rfl).2.trans f_b_of
  replace f_m_of := (hs.o gm trivial rfl).2.trans f_m_of
  replace f_b_wf := (hs.o g_qo_ln trivial rfl).2.trans f_b_wf
  replace f_m_wf := (hs.o gm trivial rfl).2.trans f_m_wf
  replace f_b_df := (hs.o g_qo_ln trivial rfl).2.trans f_b_df
  replace f_m_df := (hs.o gm trivial rfl).2.trans f_m_df
  replace f_b_kf := (hs.o g_qo_ln trivial rfl).2.trans f_b_kf
  replace f_m_kf := (hs.o gm trivial rfl).2.trans f_m_kf
  replace f_b_sf := (hs.o g_qo_ln trivial rfl).2.trans f_b_sf
  replace f_m_sf := (hs.o gm trivial rfl).2.trans f_m_sf
  replace f_b_bf := (hs.o g_qo_ln trivial rfl).2.trans f_b_bf
  replace f_m_lst := (hs.o gm trivial rfl).2.trans f_m_lst
  replace f_qtp := (hs.o gx trivial rfl).2.trans f_qtp
  replace f_m_tp := (hs.o gm trivial rfl).2.trans f_m_tp
  replace f_m_dead := (hs.o gm trivial rfl).2.trans f_m_dead
  replace f_m_isj := (hs.o gm trivial rfl).2.trans f_m_isj
  replace f_m_dox := (hs.o gm trivial rfl).2.trans f_m_dox
  replace f_m_doy := (hs.o gm trivial rfl).2.trans f_m_doy
  replace f_qlt := (hs.o g_qw trivial rfl).2.trans f_qlt
  replace f_qlf := (hs.o g_qw trivial rfl).2.trans f_qlf
  replace f_m_wkd := (hs.o gm trivial rfl).2.trans f_m_wkd
  replace f_m_aga := (hs.o gm trivial rfl).2.trans f_m_aga
  replace f_qwo := (hs.o gx trivial rfl).2.trans f_qwo
  replace f_m_ad := (hs.o gm trivial rfl).2.trans f_m_ad
  replace f_m_by := (hs.o gm trivial rfl).2.trans f_m_by
  replace f_m_ho := (hs.o gm trivial rfl).2.trans f_m_ho
  replace f_m_fc := (hs.o gm trivial rfl).2.trans f_m_fc
  replace f_m_nt := (hs.o gm trivial rfl).2.trans f_m_nt
  replace f_m_wt := (hs.o gm trivial rfl).2.trans f_m_wt
  replace f_m_be := (hs.o gm trivial rfl).2.trans f_m_be
  replace f_m_bor := (hs.o gm trivial rfl).2.trans f_m_bor
  replace f_m_kin := (hs.o gm trivial rfl).2.trans f_m_kin
  replace f_m_sum := (hs.o gm trivial rfl).2.trans f_m_sum
  replace f_m_fro := (hs.o gm trivial rfl).2.trans f_m_fro
  replace f_m_fil := (hs.o gm trivial rfl).2.trans f_m_fil
  replace f_m_jud := (hs.o gm trivial rfl).2.trans f_m_jud
  replace f_m_ear := (hs.o gm trivial rfl).2.trans f_m_ear
  replace f_m_hds := (hs.o gm trivial rfl).2.trans f_m_hds
  replace f_m_ord := (hs.o gm trivial rfl).2.trans f_m_ord
  replace f_m_wkl := (hs.o gm trivial rfl).2.trans f_m_wkl
  replace f_m_owd := (hs.o gm trivial rfl).2.trans f_m_owd
  replace f_m_gds := (hs.o gm trivial rfl).2.trans f_m_gds
  replace f_m_szd := (hs.o gm trivial rfl).2.trans f_m_szd
  replace f_m_srv := (hs.o gm trivial rfl).2.trans f_m_srv
  replace f_y_p0 := (hs.o g_qo_py trivial rfl).2.trans f_y_p0
  replace f_m_p0 := (hs.o gm trivial rfl).2.trans f_m_p0
  replace f_y_p1 := (hs.o g_qo_py trivial rfl).2.trans f_y_p1
  replace f_m_p1 := (hs.o gm trivial rfl).2.trans f_m_p1
  replace f_y_p2 := (hs.o g_qo_py trivial rfl).2.trans f_y_p2
  replace f_m_p2 := (hs.o gm trivial rfl).2.trans f_m_p2
  replace f_y_p3 := (hs.o g_qo_py trivial rfl).2.trans f_y_p3
  replace f_m_p3 := (hs.o gm trivial rfl).2.trans f_m_p3
  replace f_y_p4 := (hs.o g_qo_py trivial rfl).2.trans f_y_p4
  replace f_m_p4 := (hs.o gm trivial rfl).2.trans f_m_p4
  replace f_qrg9 := (hs.o gx trivial rfl).2.trans f_qrg9
  replace f_y_ls := (hs.o g_qrg9 trivial rfl).2.trans f_y_ls
  replace f_m_rl := (hs.o gm trivial rfl).2.trans f_m_rl
  replace ffv_21 := (hs.o g_qrg9 trivial rfl).1.trans ffv_21
  replace ffv_22 := (hs.o gm trivial rfl).1.trans ffv_22
  replace ffv_23 := (hs.o gm trivial rfl).1.trans ffv_23
  replace fw_40 := (hs.o gx trivial rfl).1.trans fw_40
  replace pf_qa : ∀ j : Nat, (j : Int) < (h_53.2.1 ax 6).toInt → h_53.2.2 qa j ≠ none := by
    intro j hj; rw [(hs.o gx trivial rfl).1] at hj; rw [(hs.a g_qa rfl j).2]; exact pf_qa j hj
  replace pf_qp : ∀ j : Nat, (j : Int) < (h_53.2.1 ax 8).toInt → h_53.2.2 qp j ≠ none := by
    intro j hj; rw [(hs.o gx trivial rfl).1] at hj; rw [(hs.a g_qp rfl j).2]; exact pf_qp j hj
  replace pf_qc : ∀ j : Nat, (j : Int) < (h_53.2.1 ax 11).toInt → h_53.2.2 qc j ≠ none := by
    intro j hj; rw [(hs.o gx trivial rfl).1] at hj; rw [(hs.a g_qc rfl j).2]; exact pf_qc j hj
  replace pf_qh : ∀ j : Nat, (j : Int) < (h_53.2.1 ax 13).toInt → h_53.2.2 qh j ≠ none := by
    intro j hj; rw [(hs.o gx trivial rfl).1] at hj; rw [(hs.a g_qh rfl j).2]; exact pf_qh j hj
  replace pf_ql : ∀ j : Nat, (j : Int) < (h_53.2.1 qw 0).toInt → h_53.2.2 ql j ≠ none := by
    intro j hj; rw [(hs.o g_qw trivial rfl).1] at hj; rw [(hs.a g_ql rfl j).2]; exact pf_ql j hj
  replace cl_lst : hx_col 8 h_53 ql 0 = c_lst := (hx_col_S hs hTo g_ql tt_40 tt_2 rfl rfl).trans cl_lst
  replace cl_dead : hx_col 40 h_53 qp 7 = c_dead := (hx_col_S hs hTo g_qp tt_44 tt_4 rfl rfl).trans cl_dead
  replace cl_isj : hx_col 40 h_53 qp 8 = c_isj := (hx_col_S hs hTo g_qp tt_44 tt_4 rfl rfl).trans cl_isj
  replace cl_dox : hx_col 40 h_53 qp 5 = c_dox := (hx_col_S hs hTo g_qp tt_44 tt_4 rfl rfl).trans cl_dox
  replace cl_doy : hx_col 40 h_53 qp 6 = c_doy := (hx_col_S hs hTo g_qp tt_44 tt_4 rfl rfl).trans cl_doy
  replace cl_fou : hx_col 100 h_53 qc 10 = c_fou := (hx_col_S hs hTo g_qc tt_45 tt_2 rfl rfl).trans cl_fou
  replace cl_tri : hx_col 100 h_53 qc 9 = c_tri := (hx_col_S hs hTo g_qc tt_45 tt_2 rfl rfl).trans cl_tri
  replace cl_bor : hx_col 40 h_53 qp 1 = F_bor := (hx_col_S hs hTo g_qp tt_44 tt_4 rfl rfl).trans cl_bor
  replace cl_kin : hx_col 40 h_53 qp 2 = F_kin := (hx_col_S hs hTo g_qp tt_44 tt_4 rfl rfl).trans cl_kin
  replace cl_sum : hx_col 100 h_53 qc 6 = F_sum := (hx_col_S hs hTo g_qc tt_45 tt_2 rfl rfl).trans cl_sum
  replace cl_fro : hx_col 100 h_53 qc 7 = F_fro := (hx_col_S hs hTo g_qc tt_45 tt_2 rfl rfl).trans cl_fro
  replace cl_fil : hx_col 100 h_53 qc 8 = F_fil := (hx_col_S hs hTo g_qc tt_45 tt_2 rfl rfl).trans cl_fil
  replace cl_hea : hx_col 100 h_53 qc 11 = F_mh := (hx_col_S hs hTo g_qc tt_45 tt_2 rfl rfl).trans cl_hea
  replace cl_jud : hx_col 100 h_53 qc 12 = F_jud := (hx_col_S hs hTo g_qc tt_45 tt_2 rfl rfl).trans cl_jud
  replace cl_ear : hx_col 40 h_53 qp 3 = F_ear := (hx_col_S hs hTo g_qp tt_44 tt_4 rfl rfl).trans cl_ear
  replace cl_hds : hx_col 40 h_53 qp 4 = F_hds := (hx_col_S hs hTo g_qp tt_44 tt_4 rfl rfl).trans cl_hds
  replace cl_ord : hx_col 100 h_53 qc 13 = F_ord := (hx_col_S hs hTo g_qc tt_45 tt_2 rfl rfl).trans cl_ord
  replace cl_wkl : hx_col 100 h_53 qc 14 = F_wkl := (hx_col_S hs hTo g_qc tt_45 tt_2 rfl rfl).trans cl_wkl
  replace cl_owd : hx_col 100 h_53 qc 15 = F_owd := (hx_col_S hs hTo g_qc tt_45 tt_2 rfl rfl).trans cl_owd
  replace cl_gds : hx_col 100 h_53 qc 17 = F_gds := (hx_col_S hs hTo g_qc tt_45 tt_2 rfl rfl).trans cl_gds
  replace cl_szd : hx_col 100 h_53 qc 16 = F_szd := (hx_col_S hs hTo g_qc tt_45 tt_2 rfl rfl).trans cl_szd
  replace cl_srv : hx_col 100 h_53 qc 18 = F_srv := (hx_col_S hs hTo g_qc tt_45 tt_2 rfl rfl).trans cl_srv
  replace nu_qp : hx_num 40 h_53 qp 0 (np.toInt) := hx_num_S hs hTo g_qp tt_44 tt_4 rfl rfl nu_qp
  replace nu_qc : hx_num 100 h_53 qc 0 (c0.toInt) := hx_num_S hs hTo g_qc tt_45 tt_2 rfl rfl nu_qc
  replace sb_list : hx_LQ 8 100 h_53 ql qc := hx_LQ_S hs g_ql g_qc rfl rfl sb_list
  replace hDF : hw_DF h_53 qc qp 2 F_aga c0.toInt := hw_DF_S hs hTo g_qc g_qp tt_45 tt_2 rfl rfl rfl hDF
  replace hRA9 : hv_RA h_53 qa qwo a0.toInt A9 := hv_RA_S hs hTo g_qa g_qwo tt_43 tt_0 rfl rfl rfl rfl rfl rfl ?o85 hRA9
  case o85 => omega
  replace hDP : hw_DF h_53 qc qp 1 F_by c0.toInt := hw_DF_S hs hTo g_qc g_qp tt_45 tt_2 rfl rfl rfl hDP
  replace hAC9 : hv_AC h_53 qc F_ml c0.toInt A9 := hv_AC_S hs hTo g_qc tt_45 tt_2 rfl tt_0 rfl rfl rfl rfl rfl rfl rfl hAC9
  replace hFX : hv_FX 8 4 h_53 qc cF9L c0.toInt := hv_FX_S hs hTo g_qc tt_45 tt_2 rfl rfl rfl rfl hFX
  replace hBX : hv_FX 3 5 h_53 qc F_be c0.toInt := hv_FX_S hs hTo g_qc tt_45 tt_2 rfl rfl rfl rfl hBX
  replace hHL : hv_HL h_53 qh qc F_ho m0.toInt c0.toInt := hv_HL_S hs g_qh g_qc rfl rfl hHL
  replace n_mw : h_53.2.1 mw = F_mw := (funext fun j => (hs.a g_mw rfl j).1).trans n_mw
  replace n_mr : h_53.2.1 mr = F_mr := (funext fun j => (hs.a g_mr rfl j).1).trans n_mr
  replace n_mp : h_53.2.1 mp = F_mp := (funext fun j => (hs.a g_mp rfl j).1).trans n_mp
  replace n_mn : h_53.2.1 mn = F_mn := (funext fun j => (hs.a g_mn rfl j).1).trans n_mn
  replace n_ml : h_53.2.1 ml = F_ml := (funext fun j => (hs.a g_ml rfl j).1).trans n_ml
  replace n_mh : h_53.2.1 mh = F_mh := (funext fun j => (hs.a g_mh rfl j).1).trans n_mh
  replace n_mt : h_53.2.1 mt = F_mt := (funext fun j => (hs.a g_mt rfl j).1).trans n_mt
  replace n_m_fou : h_53.2.1 m_fou = F_m_fou := (funext fun j => (hs.a g_m_fou rfl j).1).trans n_m_fou
  replace n_b_of : h_53.2.1 b_of = B_of := (funext fun j => (hs.a g_b_of rfl j).1).trans n_b_of
  replace n_m_of : h_53.2.1 m_of = F_of := (funext fun j => (hs.a g_m_of rfl j).1).trans n_m_of
  replace n_b_wf : h_53.2.1 b_wf = B_wf := (funext fun j => (hs.a g_b_wf rfl j).1).trans n_b_wf
  replace n_m_wf : h_53.2.1 m_wf = F_wf := (funext fun j => (hs.a g_m_wf rfl j).1).trans n_m_wf
  replace n_b_df : h_53.2.1 b_df = B_df := (funext fun j => (hs.a g_b_df rfl j).1).trans n_b_df
  replace n_m_df : h_53.2.1 m_df = F_df := (funext fun j => (hs.a g_m_df rfl j).1).trans n_m_df
  replace n_b_kf : h_53.2.1 b_kf = B_kf := (funext fun j => (hs.a g_b_kf rfl j).1).trans n_b_kf
  replace n_m_kf : h_53.2.1 m_kf = F_kf := (funext fun j => (hs.a g_m_kf rfl j).1).trans n_m_kf
  replace n_b_sf : h_53.2.1 b_sf = B_sf := (funext fun j => (hs.a g_b_sf rfl j).1).trans n_b_sf
  replace n_m_sf : h_53.2.1 m_sf = F_sf := (funext fun j => (hs.a g_m_sf rfl j).1).trans n_m_sf
  replace n_b_bf : h_53.2.1 b_bf = bfL := (funext fun j => (hs.a g_b_bf rfl j).1).trans n_b_bf
  replace n_lst : h_53.2.1 m_lst = F_lst := (funext fun j => (hs.a g_m_lst rfl j).1).trans n_lst
  replace n_dead : h_53.2.1 m_dead = F_dead := (funext fun j => (hs.a g_m_dead rfl j).1).trans n_dead
  replace n_isj : h_53.2.1 m_isj = F_isj := (funext fun j => (hs.a g_m_isj rfl j).1).trans n_isj
  replace n_dox : h_53.2.1 m_dox = F_dox := (funext fun j => (hs.a g_m_dox rfl j).1).trans n_dox
  replace n_doy : h_53.2.1 m_doy = F_doy := (funext fun j => (hs.a g_m_doy rfl j).1).trans n_doy
  replace n_qlt : h_53.2.1 qlt = F_qlt := (funext fun j => (hs.a g_qlt rfl j).1).trans n_qlt
  replace n_m_wkd : h_53.2.1 m_wkd = F_m_wkd := (funext fun j => (hs.a g_m_wkd rfl j).1).trans n_m_wkd
  replace n_aga : h_53.2.1 m_aga = F_aga := (funext fun j => (hs.a g_m_aga rfl j).1).trans n_aga
  replace n_ad : h_53.2.1 m_ad = F_ad := (funext fun j => (hs.a g_m_ad rfl j).1).trans n_ad
  replace n_by : h_53.2.1 m_by = F_by := (funext fun j => (hs.a g_m_by rfl j).1).trans n_by
  replace n_ho : h_53.2.1 m_ho = F_ho := (funext fun j => (hs.a g_m_ho rfl j).1).trans n_ho
  replace n_fc : h_53.2.1 m_fc = F_fc := (funext fun j => (hs.a g_m_fc rfl j).1).trans n_fc
  replace n_nt : h_53.2.1 m_nt = F_nt := (funext fun j => (hs.a g_m_nt rfl j).1).trans n_nt
  replace n_wt : h_53.2.1 m_wt = F_wt := (funext fun j => (hs.a g_m_wt rfl j).1).trans n_wt
  replace n_be : h_53.2.1 m_be = F_be := (funext fun j => (hs.a g_m_be rfl j).1).trans n_be
  replace n_bor : h_53.2.1 m_bor = F_bor := (funext fun j => (hs.a g_m_bor rfl j).1).trans n_bor
  replace n_kin : h_53.2.1 m_kin = F_kin := (funext fun j => (hs.a g_m_kin rfl j).1).trans n_kin
  replace n_sum : h_53.2.1 m_sum = F_sum := (funext fun j => (hs.a g_m_sum rfl j).1).trans n_sum
  replace n_fro : h_53.2.1 m_fro = F_fro := (funext fun j => (hs.a g_m_fro rfl j).1).trans n_fro
  replace n_fil : h_53.2.1 m_fil = F_fil := (funext fun j => (hs.a g_m_fil rfl j).1).trans n_fil
  replace n_jud : h_53.2.1 m_jud = F_jud := (funext fun j => (hs.a g_m_jud rfl j).1).trans n_jud
  replace n_ear : h_53.2.1 m_ear = F_ear := (funext fun j => (hs.a g_m_ear rfl j).1).trans n_ear
  replace n_hds : h_53.2.1 m_hds = F_hds := (funext fun j => (hs.a g_m_hds rfl j).1).trans n_hds
  replace n_ord : h_53.2.1 m_ord = F_ord := (funext fun j => (hs.a g_m_ord rfl j).1).trans n_ord
  replace n_wkl : h_53.2.1 m_wkl = F_wkl := (funext fun j => (hs.a g_m_wkl rfl j).1).trans n_wkl
  replace n_owd : h_53.2.1 m_owd = F_owd := (funext fun j => (hs.a g_m_owd rfl j).1).trans n_owd
  replace n_gds : h_53.2.1 m_gds = F_gds := (funext fun j => (hs.a g_m_gds rfl j).1).trans n_gds
  replace n_szd : h_53.2.1 m_szd = F_szd := (funext fun j => (hs.a g_m_szd rfl j).1).trans n_szd
  replace n_srv : h_53.2.1 m_srv = F_srv := (funext fun j => (hs.a g_m_srv rfl j).1).trans n_srv
  replace n_p0 : h_53.2.1 m_p0 = F_p0 := (funext fun j => (hs.a g_m_p0 rfl j).1).trans n_p0
  replace n_y_p0 : h_53.2.1 y_p0 = F_p0 := (funext fun j => (hs.a g_y_p0 rfl j).1).trans n_y_p0
  replace n_p1 : h_53.2.1 m_p1 = F_p1 := (funext fun j => (hs.a g_m_p1 rfl j).1).trans n_p1
  replace n_y_p1 : h_53.2.1 y_p1 = F_p1 := (funext fun j => (hs.a g_y_p1 rfl j).1).trans n_y_p1
  replace n_p2 : h_53.2.1 m_p2 = F_p2 := (funext fun j => (hs.a g_m_p2 rfl j).1).trans n_p2
  replace n_y_p2 : h_53.2.1 y_p2 = F_p2 := (funext fun j => (hs.a g_y_p2 rfl j).1).trans n_y_p2
  replace n_p3 : h_53.2.1 m_p3 = F_p3 := (funext fun j => (hs.a g_m_p3 rfl j).1).trans n_p3
  replace n_y_p3 : h_53.2.1 y_p3 = F_p3 := (funext fun j => (hs.a g_y_p3 rfl j).1).trans n_y_p3
  replace n_p4 : h_53.2.1 m_p4 = F_p4 := (funext fun j => (hs.a g_m_p4 rfl j).1).trans n_p4
  replace n_y_p4 : h_53.2.1 y_p4 = F_p4 := (funext fun j => (hs.a g_y_p4 rfl j).1).trans n_y_p4
  replace n_y_ls : h_53.2.1 y_ls = F_y_ls := (funext fun j => (hs.a g_y_ls rfl j).1).trans n_y_ls
  replace n_m_rl : h_53.2.1 m_rl = F_m_rl := (funext fun j => (hs.a g_m_rl rfl j).1).trans n_m_rl
  replace fw_41 : h_53.2.1 qtp = w_41 := (funext fun j => (hs.a g_qtp rfl j).1).trans fw_41
  replace gx := gx.S hs
  replace gm := gm.S hs
  replace g_qa := g_qa.S hs
  replace g_qp := g_qp.S hs
  replace g_qc := g_qc.S hs
  replace g_qh := g_qh.S hs
  replace g_qw := g_qw.S hs
  replace g_ql := g_ql.S hs
  replace g_mw := g_mw.S hs
  replace g_mr := g_mr.S hs
  replace g_mp := g_mp.S hs
  replace g_mn := g_mn.S hs
  replace g_ml := g_ml.S hs
  replace g_mh := g_mh.S hs
  replace g_mt := g_mt.S hs
  replace g_m_fou := g_m_fou.S hs
  replace g_qo_ln := g_qo_ln.S hs
  replace g_qo_py := g_qo_py.S hs
  replace g_b_of := g_b_of.S hs
  replace g_m_of := g_m_of.S hs
  replace g_b_wf := g_b_wf.S hs
  replace g_m_wf := g_m_wf.S hs
  replace g_b_df := g_b_df.S hs
  replace g_m_df := g_m_df.S hs
  replace g_b_kf := g_b_kf.S hs
  replace g_m_kf := g_m_kf.S hs
  replace g_b_sf := g_b_sf.S hs
  replace g_m_sf := g_m_sf.S hs
  replace g_b_bf := g_b_bf.S hs
  replace g_m_lst := g_m_lst.S hs
  replace g_qtp := g_qtp.S hs
  replace g_m_tp := g_m_tp.S hs
  replace g_m_dead := g_m_dead.S hs
  replace g_m_isj := g_m_isj.S hs
  replace g_m_dox := g_m_dox.S hs
  replace g_m_doy := g_m_doy.S hs
  replace g_qlt := g_qlt.S hs
  replace g_qlf := g_qlf.S hs
  replace g_m_wkd := g_m_wkd.S hs
  replace g_m_aga := g_m_aga.S hs
  replace g_qwo := g_qwo.S hs
  replace g_m_ad := g_m_ad.S hs
  replace g_m_by := g_m_by.S hs
  replace g_m_ho := g_m_ho.S hs
  replace g_m_fc := g_m_fc.S hs
  replace g_m_nt := g_m_nt.S hs
  replace g_m_wt := g_m_wt.S hs
  replace g_m_be := g_m_be.S hs
  replace g_m_bor := g_m_bor.S hs
  replace g_m_kin := g_m_kin.S hs
  replace g_m_sum := g_m_sum.S hs
  replace g_m_fro := g_m_fro.S hs
  replace g_m_fil := g_m_fil.S hs
  replace g_m_jud := g_m_jud.S hs
  replace g_m_ear := g_m_ear.S hs
  replace g_m_hds := g_m_hds.S hs
  replace g_m_ord := g_m_ord.S hs
  replace g_m_wkl := g_m_wkl.S hs
  replace g_m_owd := g_m_owd.S hs
  replace g_m_gds := g_m_gds.S hs
  replace g_m_szd := g_m_szd.S hs
  replace g_m_srv := g_m_srv.S hs
  replace g_y_p0 := g_y_p0.S hs
  replace g_m_p0 := g_m_p0.S hs
  replace g_y_p1 := g_y_p1.S hs
  replace g_m_p1 := g_m_p1.S hs
  replace g_y_p2 := g_y_p2.S hs
  replace g_m_p2 := g_m_p2.S hs
  replace g_y_p3 := g_y_p3.S hs
  replace g_m_p3 := g_m_p3.S hs
  replace g_y_p4 := g_y_p4.S hs
  replace g_m_p4 := g_m_p4.S hs
  replace g_qrg9 := g_qrg9.S hs
  replace g_y_ls := g_y_ls.S hs
  replace g_m_rl := g_m_rl.S hs
  have fw_57 : h_53.2.1 am 7 = w_57 := fw_57
  have bw_57 := hT.gi gm tt_10 (k := 7) rfl
  rw [fw_57] at bw_57
  have bw_57 : 0 ≤ w_57.toInt ∧ w_57.toInt ≤ 400 := bw_57
  have fw_58 : h_53.2.1 m_tp = w_58 := fw_58
  refine lv_pop hx hb dL_law_254 rfl ?_
  refine lv_goto (tgt := 1379) hx hb dL_law_255 ?o86 ?_
  case o86 => decide
  obtain ⟨heqr, hq_tl, hq_tp⟩ := hv_FE_eq hr_39 hr_56; have heq := congrArg Int32.toInt heqr
  refine W.widen (k := CC + 3) (n := SS + 179) ?o87 ?o88 ?_
  case o87 => omega
  case o88 => omega
  refine kk L_52 h_53 H locs ls hW ⟨hT, gx, gm, ⟨f_x_now.trans f_m_now.symm, f_x_personCount.trans f_m_persons.symm, f_x_claimCount.trans f_m_claims.symm, (fw_40.trans hq_tl).trans fw_57.symm, f_x_actCount.trans f_m_acts.symm, f_x_heardCount.trans f_m_heardMany.symm, hx_ob f_qo_ln (f_o_ln.trans f_m_lines.symm), hx_ob f_qw (f_o_lsd.trans f_m_listed.symm), hx_ob f_qw (f_o_wkm.trans f_m_walkedMany.symm), hx_ob f_qo_py (f_o_py.trans f_m_payments.symm), hx_ob f_qp ?o89, hx_ob f_qc ?o90, (fun b a r hb ha hr => ?o91), (fun b a r hb ha hr => ?o92), (fun b a r hb ha hr => ?o93), (fun b a r hb ha hr => ?o94), (fun b a r hb ha hr => ?o95), (fun b a r hb ha hr => ?o96), (fun w q c hw hq hc => ?o97), (fun w q r hw hq hr => ?o98), (fun w q r hw hq hr => ?o99), (fun c q a hc hq ha => ?o100), (fun q r hq hr => ?o101), (fun q w a b c d e p hq hw ha hb hc hd he hp => ?o102), (fun c q a hc hq ha => ?o103), (fun q c a hq hc ha => ?o104), (fun a b ha hb => ?o105), (fun c a b d e f hc ha hb hd he hf => ?o106), (fun c a hc ha => ?o107), hx_ob2 f_qp f_m_bor (cl_bor.trans n_bor.symm), hx_ob2 f_qp f_m_kin (cl_kin.trans n_kin.symm), hx_ob2 f_qc f_m_sum (cl_sum.trans n_sum.symm), hx_ob2 f_qc f_m_fro (cl_fro.trans n_fro.symm), hx_ob2 f_qc f_m_fil (cl_fil.trans n_fil.symm), hx_ob2 f_qc f_mh (cl_hea.trans n_mh.symm), hx_ob2 f_qc f_m_jud (cl_jud.trans n_jud.symm), hx_ob2 f_qp f_m_ear (cl_ear.trans n_ear.symm), hx_ob2 f_qp f_m_hds (cl_hds.trans n_hds.symm), hx_ob2 f_qc f_m_ord (cl_ord.trans n_ord.symm), hx_ob2 f_qc f_m_wkl (cl_wkl.trans n_wkl.symm), hx_ob2 f_qc f_m_owd (cl_owd.trans n_owd.symm), hx_ob2 f_qc f_m_gds (cl_gds.trans n_gds.symm), hx_ob2 f_qc f_m_szd (cl_szd.trans n_szd.symm), hx_ob2 f_qc f_m_srv (cl_srv.trans n_srv.symm), (fun p q r hp hq hr => ?o108), (fun p q r hp hq hr => ?o109), (fun p q r hp hq hr => ?o110), (fun p q r hp hq hr => ?o111), (fun p q r hp hq hr => ?o112), (fun p hp => ?o113), (fun p q r hp hq hr => ?o114), hx_ob2 f_qp f_m_dead ?o115, hx_ob2 f_qp f_m_isj ?o116, hx_ob2 f_qp f_m_dox ?o117, hx_ob2 f_qp f_m_doy ?o118, hx_ob2 f_qc f_m_fou ?o119, hx_ob2 f_qc f_mt ?o120, trivial⟩, ⟨hx_ob f_qa pf_qa, hx_ob f_qp pf_qp, hx_ob f_qc pf_qc, hx_ob f_qh pf_qh, (fun w q hw hq => ?o121)⟩, ⟨hx_ob f_mw ?o122, hx_ob f_mr ?o123, hx_ob2 f_mp f_mn ?o124, hx_ob f_ml ?o125, hx_ob f_mh ?o126, hx_ob f_mt ?o127, hx_ob2 f_mh f_m_fou ?o129⟩⟩ hl
  case o89 =>
    rw [f_x_personCount]
    exact nu_qp
  case o90 =>
    rw [f_x_claimCount]
    exact nu_qc
  case o91 =>
    obtain rfl : qo_ln = b := Option.some.inj (f_qo_ln.symm.trans hb)
    obtain rfl : b_of = a := Option.some.inj (f_b_of.symm.trans ha)
    obtain rfl : m_of = r := Option.some.inj (f_m_of.symm.trans hr)
    rw [n_b_of, n_m_of, f_o_ln]
    exact eb_of
  case o92 =>
    obtain rfl : qo_ln = b := Option.some.inj (f_qo_ln.symm.trans hb)
    obtain rfl : b_wf = a := Option.some.inj (f_b_wf.symm.trans ha)
    obtain rfl : m_wf = r := Option.some.inj (f_m_wf.symm.trans hr)
    rw [n_b_wf, n_m_wf, f_o_ln]
    exact eb_wf
  case o93 =>
    obtain rfl : qo_ln = b := Option.some.inj (f_qo_ln.symm.trans hb)
    obtain rfl : b_df = a := Option.some.inj (f_b_df.symm.trans ha)
    obtain rfl : m_df = r := Option.some.inj (f_m_df.symm.trans hr)
    rw [n_b_df, n_m_df, f_o_ln]
    exact eb_df
  case o94 =>
    obtain rfl : qo_ln = b := Option.some.inj (f_qo_ln.symm.trans hb)
    obtain rfl : b_kf = a := Option.some.inj (f_b_kf.symm.trans ha)
    obtain rfl : m_kf = r := Option.some.inj (f_m_kf.symm.trans hr)
    rw [n_b_kf, n_m_kf, f_o_ln]
    exact eb_kf
  case o95 =>
    obtain rfl : qo_ln = b := Option.some.inj (f_qo_ln.symm.trans hb)
    obtain rfl : b_sf = a := Option.some.inj (f_b_sf.symm.trans ha)
    obtain rfl : m_sf = r := Option.some.inj (f_m_sf.symm.trans hr)
    rw [n_b_sf, n_m_sf, f_o_ln]
    exact eb_sf
  case o96 =>
    obtain rfl : qo_ln = b := Option.some.inj (f_qo_ln.symm.trans hb)
    obtain rfl : b_df = a := Option.some.inj (f_b_df.symm.trans ha)
    obtain rfl : b_bf = r := Option.some.inj (f_b_bf.symm.trans hr)
    rw [n_b_df, n_b_bf, f_o_ln]
    exact ⟨hBD, hDY⟩
  case o97 =>
    obtain rfl : qw = w := Option.some.inj (f_qw.symm.trans hw)
    obtain rfl : ql = q := Option.some.inj (f_ql.symm.trans hq)
    obtain rfl : qc = c := Option.some.inj (f_qc.symm.trans hc)
    exact sb_list
  case o98 =>
    obtain rfl : qw = w := Option.some.inj (f_qw.symm.trans hw)
    obtain rfl : ql = q := Option.some.inj (f_ql.symm.trans hq)
    obtain rfl : m_lst = r := Option.some.inj (f_m_lst.symm.trans hr)
    rw [cl_lst, n_lst]
    exact eq_lst
  case o99 =>
    obtain rfl : qw = w := Option.some.inj (f_qw.symm.trans hw)
    obtain rfl : qlt = q := Option.some.inj (f_qlt.symm.trans hq)
    obtain rfl : m_wkd = r := Option.some.inj (f_m_wkd.symm.trans hr)
    rw [n_qlt, n_m_wkd, f_o_wkm]
    exact eb_wkd
  case o100 =>
    obtain rfl : qc = c := Option.some.inj (f_qc.symm.trans hc)
    obtain rfl : qp = q := Option.some.inj (f_qp.symm.trans hq)
    obtain rfl : m_aga = a := Option.some.inj (f_m_aga.symm.trans ha)
    rw [n_aga, f_x_claimCount]
    exact hw_DF_e hDF rfl rfl
  case o101 =>
    obtain rfl : qtp = q := Option.some.inj (f_qtp.symm.trans hq)
    obtain rfl : m_tp = r := Option.some.inj (f_m_tp.symm.trans hr)
    exact (fw_41.trans hq_tp).trans fw_58.symm
  case o102 =>
    obtain rfl : qa = q := Option.some.inj (f_qa.symm.trans hq)
    obtain rfl : qwo = w := Option.some.inj (f_qwo.symm.trans hw)
    obtain rfl : m_ad = a := Option.some.inj (f_m_ad.symm.trans ha)
    obtain rfl : mr = b := Option.some.inj (f_mr.symm.trans hb)
    obtain rfl : mn = c := Option.some.inj (f_mn.symm.trans hc)
    obtain rfl : mp = d := Option.some.inj (f_mp.symm.trans hd)
    obtain rfl : qc = e := Option.some.inj (f_qc.symm.trans he)
    obtain rfl : ml = p := Option.some.inj (f_ml.symm.trans hp)
    exact ⟨_, by rw [f_x_actCount]; exact hRA9, by rw [f_x_actCount, n_ad, n_mr, n_mn, n_mp]; exact hCA9, by rw [n_ml, f_x_claimCount]; exact hv_AC_e hAC9 rfl rfl rfl, hAB⟩
  case o103 =>
    obtain rfl : qc = c := Option.some.inj (f_qc.symm.trans hc)
    obtain rfl : qp = q := Option.some.inj (f_qp.symm.trans hq)
    obtain rfl : m_by = a := Option.some.inj (f_m_by.symm.trans ha)
    rw [n_by, f_x_claimCount]
    exact hw_DF_e hDP rfl rfl
  case o104 =>
    obtain rfl : qh = q := Option.some.inj (f_qh.symm.trans hq)
    obtain rfl : qc = c := Option.some.inj (f_qc.symm.trans hc)
    obtain rfl : m_ho = a := Option.some.inj (f_m_ho.symm.trans ha)
    rw [n_ho, f_x_heardCount, f_x_claimCount]
    exact hv_HL_e hHL rfl rfl rfl
  case o105 =>
    obtain rfl : m_ho = a := Option.some.inj (f_m_ho.symm.trans ha)
    obtain rfl : mh = b := Option.some.inj (f_mh.symm.trans hb)
    rw [n_ho, n_mh, f_m_heardMany, f_m_claims]
    exact hHO9
  case o106 =>
    obtain rfl : qc = c := Option.some.inj (f_qc.symm.trans hc)
    obtain rfl : m_fc = a := Option.some.inj (f_m_fc.symm.trans ha)
    obtain rfl : m_nt = b := Option.some.inj (f_m_nt.symm.trans hb)
    obtain rfl : m_wt = d := Option.some.inj (f_m_wt.symm.trans hd)
    obtain rfl : m_sum = e := Option.some.inj (f_m_sum.symm.trans he)
    obtain rfl : mh = f := Option.some.inj (f_mh.symm.trans hf)
    exact ⟨cF9L, by rw [f_x_claimCount]; exact hFX, by rw [n_fc, n_nt, n_wt, n_sum, n_mh, f_x_claimCount]; exact hFR9⟩
  case o107 =>
    obtain rfl : qc = c := Option.some.inj (f_qc.symm.trans hc)
    obtain rfl : m_be = a := Option.some.inj (f_m_be.symm.trans ha)
    rw [n_be, f_x_claimCount]
    exact hv_FX_e hBX rfl rfl
  case o108 =>
    obtain rfl : qo_py = p := Option.some.inj (f_qo_py.symm.trans hp)
    obtain rfl : y_p0 = q := Option.some.inj (f_y_p0.symm.trans hq)
    obtain rfl : m_p0 = r := Option.some.inj (f_m_p0.symm.trans hr)
    exact n_y_p0.trans n_p0.symm
  case o109 =>
    obtain rfl : qo_py = p := Option.some.inj (f_qo_py.symm.trans hp)
    obtain rfl : y_p1 = q := Option.some.inj (f_y_p1.symm.trans hq)
    obtain rfl : m_p1 = r := Option.some.inj (f_m_p1.symm.trans hr)
    exact n_y_p1.trans n_p1.symm
  case o110 =>
    obtain rfl : qo_py = p := Option.some.inj (f_qo_py.symm.trans hp)
    obtain rfl : y_p2 = q := Option.some.inj (f_y_p2.symm.trans hq)
    obtain rfl : m_p2 = r := Option.some.inj (f_m_p2.symm.trans hr)
    exact n_y_p2.trans n_p2.symm
  case o111 =>
    obtain rfl : qo_py = p := Option.some.inj (f_qo_py.symm.trans hp)
    obtain rfl : y_p3 = q := Option.some.inj (f_y_p3.symm.trans hq)
    obtain rfl : m_p3 = r := Option.some.inj (f_m_p3.symm.trans hr)
    exact n_y_p3.trans n_p3.symm
  case o112 =>
    obtain rfl : qo_py = p := Option.some.inj (f_qo_py.symm.trans hp)
    obtain rfl : y_p4 = q := Option.some.inj (f_y_p4.symm.trans hq)
    obtain rfl : m_p4 = r := Option.some.inj (f_m_p4.symm.trans hr)
    exact n_y_p4.trans n_p4.symm
  case o113 =>
    obtain rfl : qrg9 = p := Option.some.inj (f_qrg9.symm.trans hp)
    rw [ffv_21, ffv_22, ffv_23]
    exact hNQ9
  case o114 =>
    obtain rfl : qrg9 = p := Option.some.inj (f_qrg9.symm.trans hp)
    obtain rfl : y_ls = q := Option.some.inj (f_y_ls.symm.trans hq)
    obtain rfl : m_rl = r := Option.some.inj (f_m_rl.symm.trans hr)
    rw [n_y_ls, n_m_rl, ffv_21]
    exact hRL9
  case o115 =>
    rw [cl_dead, n_dead]
    exact eq_dead
  case o116 =>
    rw [cl_isj, n_isj]
    exact eq_isj
  case o117 =>
    rw [cl_dox, n_dox]
    exact eq_dox
  case o118 =>
    rw [cl_doy, n_doy]
    exact eq_doy
  case o119 =>
    rw [cl_fou, n_m_fou]
    exact eq_fou
  case o120 =>
    rw [cl_tri, n_mt]
    exact eq_tri
  case o121 =>
    obtain rfl : qw = w := Option.some.inj (f_qw.symm.trans hw)
    obtain rfl : ql = q := Option.some.inj (f_ql.symm.trans hq)
    exact pf_ql
  case o122 =>
    rw [n_mw]
    exact hwd
  case o123 =>
    rw [n_mr, f_m_acts]
    exact hWK
  case o124 =>
    rw [n_mp, n_mn, f_m_acts]
    exact hRP
  case o125 =>
    rw [n_ml, f_m_claims, f_m_acts]
    exact hPL
  case o126 =>
    rw [n_mh, f_m_heardMany, f_m_claims]
    exact hHC
  case o127 =>
    rw [n_mt]
    refine (hx_TR_le hTR ?o128)
    case o128 => omega
  case o129 =>
    rw [n_mh, n_m_fou, f_m_claims]
    exact hHF

set_option maxHeartbeats 4000000 in
set_option maxRecDepth 100000 in
theorem law_case_2 {p : Program} {e : Env} {s : State} {m : MethodId} {below : List Frame} {meth : Method} {c : Code} (l : Launch) {b LN : Nat} {xs : Nat → Int32} (hx : p.tables.exec = Jvm.exec) (hb : c.code = code) (hr : meth.sig.returnType = ret) (hlocks : meth.locks = false) (hml : c.maxLocals = 4) (hown : s.vm.findClass "SmallCourtLaw" = some m.cls) (hts : ∀ w ∈ hx_all, w.before #[Value.ref b] s = true) (hX : va_X b LN xs s s.heap) (hbl : b < s.heap.size) (hbA : ¬ s.heap.size ≤ b) (hLN : LN ≤ 3584) (dC : Nat → ClassId) (dI : Nat → Nat → Nat) (dA : Nat → ClassId) (b0 : hx_z) (ax am : Nat) (T1 : Int) (hT0 : 0 ≤ T1) (hT1 : T1 ≤ 511) (i : Int32) (hi0 : 0 ≤ i.toInt) (hiL : i.toInt + 7 ≤ LN) (CC SS : Nat) (hCC : CC + 3 ≤ 600000) (hSS : SS + 179 ≤ 7302250) (L1 : List Nat) (hl1 : hx_h) (H : Heap) (locs : List Loc) (ls : Array Slot) (hW : hx_W T_tb (P_ty dA) (dC, dI) vwCl (fun q : Nat => s.heap.size ≤ q) s.heap L1 hl1 s H locs) (hZ : hx_Xt (fun q : Nat => s.heap.size ≤ q) b0 s) (hI : hx_IV T1 ax am L1 hl1) (hl : lv_has ls 4 [(3, .int i), (2, .ref am), (1, .ref ax), (0, .ref b)]) (kk : ∀ (L2 : List Nat) (h2 : hx_h) (H2 : Heap) (locs2 : List Loc) (ls2 : Array Slot), hx_W T_tb (P_ty dA) (dC, dI) vwCl (fun q : Nat => s.heap.size ≤ q) s.heap L2 h2 s H2 locs2 → hx_IV (T1 + 1) ax am L2 h2 → lv_has ls2 4 [(3, .int i), (2, .ref am), (1, .ref ax), (0, .ref b)] → W p l e room_1 s m #[Value.ref b] below meth c H2 locs2 (CC + 3) (SS + 179) (lw_Z below #[Value.ref b] s) (F0 m 1379 ls2 [])) : W p l e room_1 s m #[Value.ref b] below meth c H locs CC SS (lw_Z below #[Value.ref b] s) (F0 m 258 ls []) := by
  have hI9 := hI
  have hT := hI9.1
  replace hI9 := hI9.2
  have gx := hI9.1
  replace hI9 := hI9.2
  have gm := hI9.1
  replace hI9 := hI9.2
  have zq0_3 := hI9.1
  have he_nw := zq0_3.1
  replace zq0_3 := zq0_3.2
  have he_np := zq0_3.1
  replace zq0_3 := zq0_3.2
  have he_c0 := zq0_3.1
  replace zq0_3 := zq0_3.2
  have he_tl := zq0_3.1
  replace zq0_3 := zq0_3.2
  have he_a0 := zq0_3.1
  replace zq0_3 := zq0_3.2
  have he_m0 := zq0_3.1
  replace zq0_3 := zq0_3.2
  have ho_ln := zq0_3.1
  replace zq0_3 := zq0_3.2
  have ho_lsd := zq0_3.1
  replace zq0_3 := zq0_3.2
  have ho_wkm := zq0_3.1
  replace zq0_3 := zq0_3.2
  have ho_py := zq0_3.1
  replace zq0_3 := zq0_3.2
  have hn_qp := zq0_3.1
  replace zq0_3 := zq0_3.2
  have hn_qc := zq0_3.1
  replace zq0_3 := zq0_3.2
  have hk_of := zq0_3.1
  replace zq0_3 := zq0_3.2
  have hk_wf := zq0_3.1
  replace zq0_3 := zq0_3.2
  have hk_df := zq0_3.1
  replace zq0_3 := zq0_3.2
  have hk_kf := zq0_3.1
  replace zq0_3 := zq0_3.2
  have hk_sf := zq0_3.1
  replace zq0_3 := zq0_3.2
  have hkBD := zq0_3.1
  replace zq0_3 := zq0_3.2
  have hLQ := zq0_3.1
  replace zq0_3 := zq0_3.2
  have hLE := zq0_3.1
  replace zq0_3 := zq0_3.2
  have hkWD := zq0_3.1
  replace zq0_3 := zq0_3.2
  have hkDF := zq0_3.1
  replace zq0_3 := zq0_3.2
  have hkTP := zq0_3.1
  replace zq0_3 := zq0_3.2
  have hkAC := zq0_3.1
  replace zq0_3 := zq0_3.2
  have hkDP := zq0_3.1
  replace zq0_3 := zq0_3.2
  have hkHL := zq0_3.1
  replace zq0_3 := zq0_3.2
  have hkHO := zq0_3.1
  replace zq0_3 := zq0_3.2
  have hkFX := zq0_3.1
  replace zq0_3 := zq0_3.2
  have hkBX := zq0_3.1
  replace zq0_3 := zq0_3.2
  have hf_bor := zq0_3.1
  replace zq0_3 := zq0_3.2
  have hf_kin := zq0_3.1
  replace zq0_3 := zq0_3.2
  have hf_sum := zq0_3.1
  replace zq0_3 := zq0_3.2
  have hf_fro := zq0_3.1
  replace zq0_3 := zq0_3.2
  have hf_fil := zq0_3.1
  replace zq0_3 := zq0_3.2
  have hf_hea := zq0_3.1
  replace zq0_3 := zq0_3.2
  have hf_jud := zq0_3.1
  replace zq0_3 := zq0_3.2
  have hf_ear := zq0_3.1
  replace zq0_3 := zq0_3.2
  have hf_hds := zq0_3.1
  replace zq0_3 := zq0_3.2
  have hf_ord := zq0_3.1
  replace zq0_3 := zq0_3.2
  have hf_wkl := zq0_3.1
  replace zq0_3 := zq0_3.2
  have hf_owd := zq0_3.1
  replace zq0_3 := zq0_3.2
  have hf_gds := zq0_3.1
  replace zq0_3 := zq0_3.2
  have hf_szd := zq0_3.1
  replace zq0_3 := zq0_3.2
  have hf_srv := zq0_3.1
  replace zq0_3 := zq0_3.2
  have hkP0 := zq0_3.1
  replace zq0_3 := zq0_3.2
  have hkP1 := zq0_3.1
  replace zq0_3 := zq0_3.2
  have hkP2 := zq0_3.1
  replace zq0_3 := zq0_3.2
  have hkP3 := zq0_3.1
  replace zq0_3 := zq0_3.2
  have hkP4 := zq0_3.1
  replace zq0_3 := zq0_3.2
  have hkNQ := zq0_3.1
  replace zq0_3 := zq0_3.2
  have hkRL := zq0_3.1
  replace zq0_3 := zq0_3.2
  have hc_dead := zq0_3.1
  replace zq0_3 := zq0_3.2
  have hc_isj := zq0_3.1
  replace zq0_3 := zq0_3.2
  have hc_dox := zq0_3.1
  replace zq0_3 := zq0_3.2
  have hc_doy := zq0_3.1
  replace zq0_3 := zq0_3.2
  have hc_fou := zq0_3.1
  replace zq0_3 := zq0_3.2
  have hc_tri := zq0_3.1
  replace zq0_3 := zq0_3.2
  replace hI9 := hI9.2
  have zq0_4 := hI9.1
  have ia := zq0_4.1
  replace zq0_4 := zq0_4.2
  have ip := zq0_4.1
  replace zq0_4 := zq0_4.2
  have ic := zq0_4.1
  replace zq0_4 := zq0_4.2
  have ih := zq0_4.1
  replace zq0_4 := zq0_4.2
  have il := zq0_4
  replace hI9 := hI9.2
  have zq0_5 := hI9
  have jw := zq0_5.1
  replace zq0_5 := zq0_5.2
  have jr := zq0_5.1
  replace zq0_5 := zq0_5.2
  have jp := zq0_5.1
  replace zq0_5 := zq0_5.2
  have jl := zq0_5.1
  replace zq0_5 := zq0_5.2
  have jh := zq0_5.1
  replace zq0_5 := zq0_5.2
  have jt := zq0_5.1
  replace zq0_5 := zq0_5.2
  have jf := zq0_5
  obtain ⟨qa, f_qa, g_qa⟩ := hx_rf hT gx tt_9 (k := 5) (u := 43) rfl
  have pf_qa := ia qa f_qa
  obtain ⟨qp, f_qp, g_qp⟩ := hx_rf hT gx tt_9 (k := 7) (u := 44) rfl
  have pf_qp := ip qp f_qp
  obtain ⟨qc, f_qc, g_qc⟩ := hx_rf hT gx tt_9 (k := 10) (u := 45) rfl
  have pf_qc := ic qc f_qc
  obtain ⟨qh, f_qh, g_qh⟩ := hx_rf hT gx tt_9 (k := 12) (u := 46) rfl
  have pf_qh := ih qh f_qh
  obtain ⟨qw, f_qw, g_qw⟩ := hx_rf hT gx tt_9 (k := 19) (u := 8) rfl
  obtain ⟨ql, f_ql, g_ql⟩ := hx_rf hT g_qw tt_8 (k := 3) (u := 40) rfl
  have pf_ql := il qw ql f_qw f_ql
  obtain ⟨nw, f_m_now⟩ : ∃ y : Int32, hl1.2.1 am 0 = y := ⟨_, rfl⟩
  have b_nw := hT.gi gm tt_10 (k := 0) rfl
  rw [f_m_now] at b_nw
  have b_nw : 0 ≤ nw.toInt ∧ nw.toInt ≤ 7999 := b_nw
  obtain ⟨np, f_m_persons⟩ : ∃ y : Int32, hl1.2.1 am 20 = y := ⟨_, rfl⟩
  have b_np := hT.gi gm tt_10 (k := 20) rfl
  rw [f_m_persons] at b_np
  have b_np : 0 ≤ np.toInt ∧ np.toInt ≤ 40 := b_np
  obtain ⟨c0, f_m_claims⟩ : ∃ y : Int32, hl1.2.1 am 36 = y := ⟨_, rfl⟩
  have b_c0 := hT.gi gm tt_10 (k := 36) rfl
  rw [f_m_claims] at b_c0
  have b_c0 : 0 ≤ c0.toInt ∧ c0.toInt ≤ 100 := b_c0
  obtain ⟨tl, f_m_taped⟩ : ∃ y : Int32, hl1.2.1 am 7 = y := ⟨_, rfl⟩
  have b_tl := hT.gi gm tt_10 (k := 7) rfl
  rw [f_m_taped] at b_tl
  have b_tl : 0 ≤ tl.toInt ∧ tl.toInt ≤ 400 := b_tl
  obtain ⟨a0, f_m_acts⟩ : ∃ y : Int32, hl1.2.1 am 1 = y := ⟨_, rfl⟩
  have b_a0 := hT.gi gm tt_10 (k := 1) rfl
  rw [f_m_acts] at b_a0
  have b_a0 : 0 ≤ a0.toInt ∧ a0.toInt ≤ 8 := b_a0
  obtain ⟨m0, f_m_heardMany⟩ : ∃ y : Int32, hl1.2.1 am 57 = y := ⟨_, rfl⟩
  have b_m0 := hT.gi gm tt_10 (k := 57) rfl
  rw [f_m_heardMany] at b_m0
  have b_m0 : 0 ≤ m0.toInt ∧ m0.toInt ≤ 100 := b_m0
  obtain ⟨ln, f_m_lines⟩ : ∃ y : Int32, hl1.2.1 am 29 = y := ⟨_, rfl⟩
  have b_ln := hT.gi gm tt_10 (k := 29) rfl
  rw [f_m_lines] at b_ln
  have b_ln : 0 ≤ ln.toInt ∧ ln.toInt ≤ 400 := b_ln
  obtain ⟨lsd, f_m_listed⟩ : ∃ y : Int32, hl1.2.1 am 90 = y := ⟨_, rfl⟩
  have b_lsd := hT.gi gm tt_10 (k := 90) rfl
  rw [f_m_listed] at b_lsd
  have b_lsd : 0 ≤ lsd.toInt ∧ lsd.toInt ≤ 8 := b_lsd
  obtain ⟨wkm, f_m_walkedMany⟩ : ∃ y : Int32, hl1.2.1 am 92 = y := ⟨_, rfl⟩
  have b_wkm := hT.gi gm tt_10 (k := 92) rfl
  rw [f_m_walkedMany] at b_wkm
  have b_wkm : 0 ≤ wkm.toInt ∧ wkm.toInt ≤ 8 := b_wkm
  obtain ⟨py, f_m_payments⟩ : ∃ y : Int32, hl1.2.1 am 59 = y := ⟨_, rfl⟩
  have b_py := hT.gi gm tt_10 (k := 59) rfl
  rw [f_m_payments] at b_py
  have b_py : 0 ≤ py.toInt ∧ py.toInt ≤ 600 := b_py
  have f_x_now : hl1.2.1 ax 2 = nw := he_nw.trans f_m_now
  have f_x_personCount : hl1.2.1 ax 8 = np := he_np.trans f_m_persons
  have f_x_claimCount : hl1.2.1 ax 11 = c0 := he_c0.trans f_m_claims
  have f_x_tapeLength : hl1.2.1 ax 1 = tl := he_tl.trans f_m_taped
  have f_x_actCount : hl1.2.1 ax 6 = a0 := he_a0.trans f_m_acts
  have f_x_heardCount : hl1.2.1 ax 13 = m0 := he_m0.trans f_m_heardMany
  obtain ⟨mw, f_mw, g_mw⟩ := hx_rf hT gm tt_10 (k := 19) (u := 57) rfl
  obtain ⟨F_mw, n_mw⟩ : ∃ g : Nat → Int32, hl1.2.1 mw = g := ⟨_, rfl⟩
  obtain ⟨mr, f_mr, g_mr⟩ := hx_rf hT gm tt_10 (k := 3) (u := 50) rfl
  obtain ⟨F_mr, n_mr⟩ : ∃ g : Nat → Int32, hl1.2.1 mr = g := ⟨_, rfl⟩
  obtain ⟨mp, f_mp, g_mp⟩ := hx_rf hT gm tt_10 (k := 5) (u := 52) rfl
  obtain ⟨F_mp, n_mp⟩ : ∃ g : Nat → Int32, hl1.2.1 mp = g := ⟨_, rfl⟩
  obtain ⟨mn, f_mn, g_mn⟩ := hx_rf hT gm tt_10 (k := 4) (u := 51) rfl
  obtain ⟨F_mn, n_mn⟩ : ∃ g : Nat → Int32, hl1.2.1 mn = g := ⟨_, rfl⟩
  obtain ⟨ml, f_ml, g_ml⟩ := hx_rf hT gm tt_10 (k := 44) (u := 79) rfl
  obtain ⟨F_ml, n_ml⟩ : ∃ g : Nat → Int32, hl1.2.1 ml = g := ⟨_, rfl⟩
  obtain ⟨mh, f_mh, g_mh⟩ := hx_rf hT gm tt_10 (k := 47) (u := 82) rfl
  obtain ⟨F_mh, n_mh⟩ : ∃ g : Nat → Int32, hl1.2.1 mh = g := ⟨_, rfl⟩
  obtain ⟨mt, f_mt, g_mt⟩ := hx_rf hT gm tt_10 (k := 45) (u := 80) rfl
  obtain ⟨F_mt, n_mt⟩ : ∃ g : Nat → Int32, hl1.2.1 mt = g := ⟨_, rfl⟩
  obtain ⟨m_fou, f_m_fou, g_m_fou⟩ := hx_rf hT gm tt_10 (k := 46) (u := 81) rfl
  obtain ⟨F_m_fou, n_m_fou⟩ : ∃ g : Nat → Int32, hl1.2.1 m_fou = g := ⟨_, rfl⟩
  obtain ⟨qo_ln, f_qo_ln, g_qo_ln⟩ := hx_rf hT gx tt_9 (k := 9) (u := 1) rfl
  have f_o_ln : hl1.2.1 qo_ln 0 = ln := (ho_ln qo_ln f_qo_ln).trans f_m_lines
  have f_o_lsd : hl1.2.1 qw 0 = lsd := (ho_lsd qw f_qw).trans f_m_listed
  have f_o_wkm : hl1.2.1 qw 1 = wkm := (ho_wkm qw f_qw).trans f_m_walkedMany
  obtain ⟨qo_py, f_qo_py, g_qo_py⟩ := hx_rf hT gx tt_9 (k := 14) (u := 3) rfl
  have f_o_py : hl1.2.1 qo_py 0 = py := (ho_py qo_py f_qo_py).trans f_m_payments
  have nu_qp := hn_qp qp f_qp; rw [f_x_personCount] at nu_qp
  have nu_qc := hn_qc qc f_qc; rw [f_x_claimCount] at nu_qc
  obtain ⟨b_of, f_b_of, g_b_of⟩ := hx_rf hT g_qo_ln tt_1 (k := 1) (u := 13) rfl
  obtain ⟨B_of, n_b_of⟩ : ∃ g : Nat → Int32, hl1.2.1 b_of = g := ⟨_, rfl⟩
  obtain ⟨m_of, f_m_of, g_m_of⟩ := hx_rf hT gm tt_10 (k := 30) (u := 66) rfl
  obtain ⟨F_of, n_m_of⟩ : ∃ g : Nat → Int32, hl1.2.1 m_of = g := ⟨_, rfl⟩
  have eb_of := hk_of qo_ln b_of m_of f_qo_ln f_b_of f_m_of; rw [n_b_of, n_m_of, f_o_ln] at eb_of
  obtain ⟨b_wf, f_b_wf, g_b_wf⟩ := hx_rf hT g_qo_ln tt_1 (k := 2) (u := 14) rfl
  obtain ⟨B_wf, n_b_wf⟩ : ∃ g : Nat → Int32, hl1.2.1 b_wf = g := ⟨_, rfl⟩
  obtain ⟨m_wf, f_m_wf, g_m_wf⟩ := hx_rf hT gm tt_10 (k := 31) (u := 67) rfl
  obtain ⟨F_wf, n_m_wf⟩ : ∃ g : Nat → Int32, hl1.2.1 m_wf = g := ⟨_, rfl⟩
  have eb_wf := hk_wf qo_ln b_wf m_wf f_qo_ln f_b_wf f_m_wf; rw [n_b_wf, n_m_wf, f_o_ln] at eb_wf
  obtain ⟨b_df, f_b_df, g_b_df⟩ := hx_rf hT g_qo_ln tt_1 (k := 3) (u := 15) rfl
  obtain ⟨B_df, n_b_df⟩ : ∃ g : Nat → Int32, hl1.2.1 b_df = g := ⟨_, rfl⟩
  obtain ⟨m_df, f_m_df, g_m_df⟩ := hx_rf hT gm tt_10 (k := 32) (u := 68) rfl
  obtain ⟨F_df, n_m_df⟩ : ∃ g : Nat → Int32, hl1.2.1 m_df = g := ⟨_, rfl⟩
  have eb_df := hk_df qo_ln b_df m_df f_qo_ln f_b_df f_m_df; rw [n_b_df, n_m_df, f_o_ln] at eb_df
  obtain ⟨b_kf, f_b_kf, g_b_kf⟩ := hx_rf hT g_qo_ln tt_1 (k := 4) (u := 16) rfl
  obtain ⟨B_kf, n_b_kf⟩ : ∃ g : Nat → Int32, hl1.2.1 b_kf = g := ⟨_, rfl⟩
  obtain ⟨m_kf, f_m_kf, g_m_kf⟩ := hx_rf hT gm tt_10 (k := 33) (u := 69) rfl
  obtain ⟨F_kf, n_m_kf⟩ : ∃ g : Nat → Int32, hl1.2.1 m_kf = g := ⟨_, rfl⟩
  have eb_kf := hk_kf qo_ln b_kf m_kf f_qo_ln f_b_kf f_m_kf; rw [n_b_kf, n_m_kf, f_o_ln] at eb_kf
  obtain ⟨b_sf, f_b_sf, g_b_sf⟩ := hx_rf hT g_qo_ln tt_1 (k := 5) (u := 17) rfl
  obtain ⟨B_sf, n_b_sf⟩ : ∃ g : Nat → Int32, hl1.2.1 b_sf = g := ⟨_, rfl⟩
  obtain ⟨m_sf, f_m_sf, g_m_sf⟩ := hx_rf hT gm tt_10 (k := 34) (u := 70) rfl
  obtain ⟨F_sf, n_m_sf⟩ : ∃ g : Nat → Int32, hl1.2.1 m_sf = g := ⟨_, rfl⟩
  have eb_sf := hk_sf qo_ln b_sf m_sf f_qo_ln f_b_sf f_m_sf; rw [n_b_sf, n_m_sf, f_o_ln] at eb_sf
  obtain ⟨b_bf, f_b_bf, g_b_bf⟩ := hx_rf hT g_qo_ln tt_1 (k := 6) (u := 18) rfl
  obtain ⟨bfL, n_b_bf⟩ : ∃ g : Nat → Int32, hl1.2.1 b_bf = g := ⟨_, rfl⟩
  obtain ⟨hBD, hDY⟩ := hkBD qo_ln b_df b_bf f_qo_ln f_b_df f_b_bf; rw [n_b_df, n_b_bf, f_o_ln] at hBD; rw [n_b_df, f_o_ln] at hDY
  have hBDm := hy_BD_c eb_df hBD
  have hDYm : hy_DY F_df ln.toInt.toNat := fun x hx => by rw [← eb_df x hx]; exact hDY x hx
  have sb_list := hLQ qw ql qc f_qw f_ql f_qc
  obtain ⟨m_lst, f_m_lst, g_m_lst⟩ := hx_rf hT gm tt_10 (k := 91) (u := 112) rfl
  obtain ⟨F_lst, n_lst⟩ : ∃ g : Nat → Int32, hl1.2.1 m_lst = g := ⟨_, rfl⟩
  obtain ⟨c_lst, cl_lst⟩ : ∃ g : Nat → Int32, hx_col 8 hl1 ql 0 = g := ⟨_, rfl⟩
  have eq_lst := hLE qw ql m_lst f_qw f_ql f_m_lst; rw [cl_lst, n_lst] at eq_lst
  obtain ⟨qtp, f_qtp, g_qtp⟩ := hx_rf hT gx tt_9 (k := 0) (u := 42) rfl
  obtain ⟨m_tp, f_m_tp, g_m_tp⟩ := hx_rf hT gm tt_10 (k := 6) (u := 53) rfl
  obtain ⟨F_tp, n_tp⟩ : ∃ g : Nat → Int32, hl1.2.1 m_tp = g := ⟨_, rfl⟩
  have n_qtp : hl1.2.1 qtp = F_tp := (hkTP qtp m_tp f_qtp f_m_tp).trans n_tp
  obtain ⟨c_dead, cl_dead⟩ : ∃ g : Nat → Int32, hx_col 40 hl1 qp 7 = g := ⟨_, rfl⟩
  obtain ⟨m_dead, f_m_dead, g_m_dead⟩ := hx_rf hT gm tt_10 (k := 27) (u := 64) rfl
  obtain ⟨F_dead, n_dead⟩ : ∃ g : Nat → Int32, hl1.2.1 m_dead = g := ⟨_, rfl⟩
  have eq_dead := hc_dead qp m_dead f_qp f_m_dead; rw [cl_dead, n_dead] at eq_dead
  have z_dead : np.toInt.toNat < 40 → c_dead np.toInt.toNat = 0 := fun hj => hx_num_z nu_qp cl_dead hj ?o0
  case o0 => omega
  obtain ⟨c_isj, cl_isj⟩ : ∃ g : Nat → Int32, hx_col 40 hl1 qp 8 = g := ⟨_, rfl⟩
  obtain ⟨m_isj, f_m_isj, g_m_isj⟩ := hx_rf hT gm tt_10 (k := 28) (u := 65) rfl
  obtain ⟨F_isj, n_isj⟩ : ∃ g : Nat → Int32, hl1.2.1 m_isj = g := ⟨_, rfl⟩
  have eq_isj := hc_isj qp m_isj f_qp f_m_isj; rw [cl_isj, n_isj] at eq_isj
  have z_isj : np.toInt.toNat < 40 → c_isj np.toInt.toNat = 0 := fun hj => hx_num_z nu_qp cl_isj hj ?o1
  case o1 => omega
  obtain ⟨c_dox, cl_dox⟩ : ∃ g : Nat → Int32, hx_col 40 hl1 qp 5 = g := ⟨_, rfl⟩
  obtain ⟨m_dox, f_m_dox, g_m_dox⟩ := hx_rf hT gm tt_10 (k := 24) (u := 61) rfl
  obtain ⟨F_dox, n_dox⟩ : ∃ g : Nat → Int32, hl1.2.1 m_dox = g := ⟨_, rfl⟩
  have eq_dox := hc_dox qp m_dox f_qp f_m_dox; rw [cl_dox, n_dox] at eq_dox
  have z_dox : np.toInt.toNat < 40 → c_dox np.toInt.toNat = 0 := fun hj => hx_num_z nu_qp cl_dox hj ?o2
  case o2 => omega
  obtain ⟨c_doy, cl_doy⟩ : ∃ g : Nat → Int32, hx_col 40 hl1 qp 6 = g := ⟨_, rfl⟩
  obtain ⟨m_doy, f_m_doy, g_m_doy⟩ := hx_rf hT gm tt_10 (k := 25) (u := 62) rfl
  obtain ⟨F_doy, n_doy⟩ : ∃ g : Nat → Int32, hl1.2.1 m_doy = g := ⟨_, rfl⟩
  have eq_doy := hc_doy qp m_doy f_qp f_m_doy; rw [cl_doy, n_doy] at eq_doy
  have z_doy : np.toInt.toNat < 40 → c_doy np.toInt.toNat = 0 := fun hj => hx_num_z nu_qp cl_doy hj ?o3
  case o3 => omega
  obtain ⟨c_fou, cl_fou⟩ : ∃ g : Nat → Int32, hx_col 100 hl1 qc 10 = g := ⟨_, rfl⟩
  have eq_fou := hc_fou qc m_fou f_qc f_m_fou; rw [cl_fou, n_m_fou] at eq_fou
  have z_fou : c0.toInt.toNat < 100 → c_fou c0.toInt.toNat = 0 := fun hj => hx_num_z nu_qc cl_fou hj ?o4
  case o4 => omega
  obtain ⟨c_tri, cl_tri⟩ : ∃ g : Nat → Int32, hx_col 100 hl1 qc 9 = g := ⟨_, rfl⟩
  have eq_tri := hc_tri qc mt f_qc f_mt; rw [cl_tri, n_mt] at eq_tri
  have z_tri : c0.toInt.toNat < 100 → c_tri c0.toInt.toNat = 0 := fun hj => hx_num_z nu_qc cl_tri hj ?o5
  case o5 => omega
  obtain ⟨qlt, f_qlt, g_qlt⟩ := hx_rf hT g_qw tt_8 (k := 2) (u := 39) rfl
  obtain ⟨qlf, f_qlf, g_qlf⟩ := hx_rf hT g_qw tt_8 (k := 4) (u := 41) rfl
  obtain ⟨m_wkd, f_m_wkd, g_m_wkd⟩ := hx_rf hT gm tt_10 (k := 93) (u := 113) rfl
  obtain ⟨F_qlt, n_qlt⟩ : ∃ g : Nat → Int32, hl1.2.1 qlt = g := ⟨_, rfl⟩
  obtain ⟨F_m_wkd, n_m_wkd⟩ : ∃ g : Nat → Int32, hl1.2.1 m_wkd = g := ⟨_, rfl⟩
  have eb_wkd := hkWD qw qlt m_wkd f_qw f_qlt f_m_wkd; rw [n_qlt, n_m_wkd, f_o_wkm] at eb_wkd
  obtain ⟨m_aga, f_m_aga, g_m_aga⟩ := hx_rf hT gm tt_10 (k := 38) (u := 73) rfl
  obtain ⟨F_aga, n_aga⟩ : ∃ g : Nat → Int32, hl1.2.1 m_aga = g := ⟨_, rfl⟩
  have hDF := hkDF qc qp m_aga f_qc f_qp f_m_aga; rw [n_aga, f_x_claimCount] at hDF
  obtain ⟨qwo, f_qwo, g_qwo⟩ := hx_rf hT gx tt_9 (k := 4) (u := 0) rfl
  obtain ⟨m_ad, f_m_ad, g_m_ad⟩ := hx_rf hT gm tt_10 (k := 2) (u := 49) rfl
  obtain ⟨F_ad, n_ad⟩ : ∃ g : Nat → Int32, hl1.2.1 m_ad = g := ⟨_, rfl⟩
  obtain ⟨A9, hRA9, hCA9, hAC9, hAB⟩ := hkAC qa qwo m_ad mr mn mp qc ml f_qa f_qwo f_m_ad f_mr f_mn f_mp f_qc f_ml
  rw [f_x_actCount] at hRA9; rw [f_x_actCount, n_ad, n_mr, n_mn, n_mp] at hCA9
  obtain ⟨m_by, f_m_by, g_m_by⟩ := hx_rf hT gm tt_10 (k := 37) (u := 72) rfl
  obtain ⟨F_by, n_by⟩ : ∃ g : Nat → Int32, hl1.2.1 m_by = g := ⟨_, rfl⟩
  obtain ⟨m_ho, f_m_ho, g_m_ho⟩ := hx_rf hT gm tt_10 (k := 58) (u := 92) rfl
  obtain ⟨F_ho, n_ho⟩ : ∃ g : Nat → Int32, hl1.2.1 m_ho = g := ⟨_, rfl⟩
  obtain ⟨m_fc, f_m_fc, g_m_fc⟩ := hx_rf hT gm tt_10 (k := 53) (u := 88) rfl
  obtain ⟨F_fc, n_fc⟩ : ∃ g : Nat → Int32, hl1.2.1 m_fc = g := ⟨_, rfl⟩
  obtain ⟨m_nt, f_m_nt, g_m_nt⟩ := hx_rf hT gm tt_10 (k := 41) (u := 76) rfl
  obtain ⟨F_nt, n_nt⟩ : ∃ g : Nat → Int32, hl1.2.1 m_nt = g := ⟨_, rfl⟩
  obtain ⟨m_wt, f_m_wt, g_m_wt⟩ := hx_rf hT gm tt_10 (k := 42) (u := 77) rfl
  obtain ⟨F_wt, n_wt⟩ : ∃ g : Nat → Int32, hl1.2.1 m_wt = g := ⟨_, rfl⟩
  obtain ⟨m_be, f_m_be, g_m_be⟩ := hx_rf hT gm tt_10 (k := 52) (u := 87) rfl
  obtain ⟨F_be, n_be⟩ : ∃ g : Nat → Int32, hl1.2.1 m_be = g := ⟨_, rfl⟩
  obtain ⟨m_bor, f_m_bor, g_m_bor⟩ := hx_rf hT gm tt_10 (k := 21) (u := 58) rfl
  obtain ⟨F_bor, n_bor⟩ : ∃ g : Nat → Int32, hl1.2.1 m_bor = g := ⟨_, rfl⟩
  obtain ⟨m_kin, f_m_kin, g_m_kin⟩ := hx_rf hT gm tt_10 (k := 26) (u := 63) rfl
  obtain ⟨F_kin, n_kin⟩ : ∃ g : Nat → Int32, hl1.2.1 m_kin = g := ⟨_, rfl⟩
  obtain ⟨m_sum, f_m_sum, g_m_sum⟩ := hx_rf hT gm tt_10 (k := 39) (u := 74) rfl
  obtain ⟨F_sum, n_sum⟩ : ∃ g : Nat → Int32, hl1.2.1 m_sum = g := ⟨_, rfl⟩
  obtain ⟨m_fro, f_m_fro, g_m_fro⟩ := hx_rf hT gm tt_10 (k := 40) (u := 75) rfl
  obtain ⟨F_fro, n_fro⟩ : ∃ g : Nat → Int32, hl1.2.1 m_fro = g := ⟨_, rfl⟩
  obtain ⟨m_fil, f_m_fil, g_m_fil⟩ := hx_rf hT gm tt_10 (k := 43) (u := 78) rfl
  obtain ⟨F_fil, n_fil⟩ : ∃ g : Nat → Int32, hl1.2.1 m_fil = g := ⟨_, rfl⟩
  obtain ⟨m_jud, f_m_jud, g_m_jud⟩ := hx_rf hT gm tt_10 (k := 51) (u := 86) rfl
  obtain ⟨F_jud, n_jud⟩ : ∃ g : Nat → Int32, hl1.2.1 m_jud = g := ⟨_, rfl⟩
  obtain ⟨m_ear, f_m_ear, g_m_ear⟩ := hx_rf hT gm tt_10 (k := 22) (u := 59) rfl
  obtain ⟨F_ear, n_ear⟩ : ∃ g : Nat → Int32, hl1.2.1 m_ear = g := ⟨_, rfl⟩
  obtain ⟨m_hds, f_m_hds, g_m_hds⟩ := hx_rf hT gm tt_10 (k := 23) (u := 60) rfl
  obtain ⟨F_hds, n_hds⟩ : ∃ g : Nat → Int32, hl1.2.1 m_hds = g := ⟨_, rfl⟩
  obtain ⟨m_ord, f_m_ord, g_m_ord⟩ := hx_rf hT gm tt_10 (k := 48) (u := 83) rfl
  obtain ⟨F_ord, n_ord⟩ : ∃ g : Nat → Int32, hl1.2.1 m_ord = g := ⟨_, rfl⟩
  obtain ⟨m_wkl, f_m_wkl, g_m_wkl⟩ := hx_rf hT gm tt_10 (k := 54) (u := 89) rfl
  obtain ⟨F_wkl, n_wkl⟩ : ∃ g : Nat → Int32, hl1.2.1 m_wkl = g := ⟨_, rfl⟩
  obtain ⟨m_owd, f_m_owd, g_m_owd⟩ := hx_rf hT gm tt_10 (k := 55) (u := 90) rfl
  obtain ⟨F_owd, n_owd⟩ : ∃ g : Nat → Int32, hl1.2.1 m_owd = g := ⟨_, rfl⟩
  obtain ⟨m_gds, f_m_gds, g_m_gds⟩ := hx_rf hT gm tt_10 (k := 56) (u := 91) rfl
  obtain ⟨F_gds, n_gds⟩ : ∃ g : Nat → Int32, hl1.2.1 m_gds = g := ⟨_, rfl⟩
  obtain ⟨m_szd, f_m_szd, g_m_szd⟩ := hx_rf hT gm tt_10 (k := 49) (u := 84) rfl
  obtain ⟨F_szd, n_szd⟩ : ∃ g : Nat → Int32, hl1.2.1 m_szd = g := ⟨_, rfl⟩
  obtain ⟨m_srv, f_m_srv, g_m_srv⟩ := hx_rf hT gm tt_10 (k := 50) (u := 85) rfl
  obtain ⟨F_srv, n_srv⟩ : ∃ g : Nat → Int32, hl1.2.1 m_srv = g := ⟨_, rfl⟩
  have cl_bor : hx_col 40 hl1 qp 1 = F_bor := (hf_bor qp m_bor f_qp f_m_bor).trans n_bor
  have cl_kin : hx_col 40 hl1 qp 2 = F_kin := (hf_kin qp m_kin f_qp f_m_kin).trans n_kin
  have cl_sum : hx_col 100 hl1 qc 6 = F_sum := (hf_sum qc m_sum f_qc f_m_sum).trans n_sum
  have cl_fro : hx_col 100 hl1 qc 7 = F_fro := (hf_fro qc m_fro f_qc f_m_fro).trans n_fro
  have cl_fil : hx_col 100 hl1 qc 8 = F_fil := (hf_fil qc m_fil f_qc f_m_fil).trans n_fil
  have cl_hea : hx_col 100 hl1 qc 11 = F_mh := (hf_hea qc mh f_qc f_mh).trans n_mh
  have cl_jud : hx_col 100 hl1 qc 12 = F_jud := (hf_jud qc m_jud f_qc f_m_jud).trans n_jud
  have cl_ear : hx_col 40 hl1 qp 3 = F_ear := (hf_ear qp m_ear f_qp f_m_ear).trans n_ear
  have cl_hds : hx_col 40 hl1 qp 4 = F_hds := (hf_hds qp m_hds f_qp f_m_hds).trans n_hds
  have cl_ord : hx_col 100 hl1 qc 13 = F_ord := (hf_ord qc m_ord f_qc f_m_ord).trans n_ord
  have cl_wkl : hx_col 100 hl1 qc 14 = F_wkl := (hf_wkl qc m_wkl f_qc f_m_wkl).trans n_wkl
  have cl_owd : hx_col 100 hl1 qc 15 = F_owd := (hf_owd qc m_owd f_qc f_m_owd).trans n_owd
  have cl_gds : hx_col 100 hl1 qc 17 = F_gds := (hf_gds qc m_gds f_qc f_m_gds).trans n_gds
  have cl_szd : hx_col 100 hl1 qc 16 = F_szd := (hf_szd qc m_szd f_qc f_m_szd).trans n_szd
  have cl_srv : hx_col 100 hl1 qc 18 = F_srv := (hf_srv qc m_srv f_qc f_m_srv).trans n_srv
  have htb9 : ∀ c, c < 100 → 0 ≤ (c_tri c).toInt ∧ (c_tri c).toInt ≤ 512 := fun c hc => by rw [eq_tri c hc]; have w := hT.ei g_mt tt_80 (k := c) hc; rw [n_mt] at w; exact w
  have z_jud : F_jud c0.toInt.toNat = 0 := hx_num_z2 nu_qc cl_jud ?o6
  case o6 => omega
  have hDP := hkDP qc qp m_by f_qc f_qp f_m_by; rw [n_by, f_x_claimCount] at hDP
  have hHL := hkHL qh qc m_ho f_qh f_qc f_m_ho; rw [n_ho, f_x_heardCount, f_x_claimCount] at hHL
  have hHO9 := hkHO m_ho mh f_m_ho f_mh; rw [n_ho, n_mh, f_m_heardMany, f_m_claims] at hHO9
  obtain ⟨cF9L, hFX, hFR9⟩ := hkFX qc m_fc m_nt m_wt m_sum mh f_qc f_m_fc f_m_nt f_m_wt f_m_sum f_mh; rw [f_x_claimCount] at hFX; rw [n_fc, n_nt, n_wt, n_sum, n_mh, f_x_claimCount] at hFR9
  have hBX := hkBX qc m_be f_qc f_m_be; rw [n_be, f_x_claimCount] at hBX
  rw [n_ml, f_x_claimCount] at hAC9
  obtain ⟨y_p0, f_y_p0, g_y_p0⟩ := hx_rf hT g_qo_py tt_3 (k := 2) (u := 23) rfl
  obtain ⟨m_p0, f_m_p0, g_m_p0⟩ := hx_rf hT gm tt_10 (k := 60) (u := 93) rfl
  obtain ⟨F_p0, n_p0⟩ : ∃ g : Nat → Int32, hl1.2.1 m_p0 = g := ⟨_, rfl⟩
  have n_y_p0 : hl1.2.1 y_p0 = F_p0 := (hkP0 qo_py y_p0 m_p0 f_qo_py f_y_p0 f_m_p0).trans n_p0
  obtain ⟨y_p1, f_y_p1, g_y_p1⟩ := hx_rf hT g_qo_py tt_3 (k := 3) (u := 24) rfl
  obtain ⟨m_p1, f_m_p1, g_m_p1⟩ := hx_rf hT gm tt_10 (k := 61) (u := 94) rfl
  obtain ⟨F_p1, n_p1⟩ : ∃ g : Nat → Int32, hl1.2.1 m_p1 = g := ⟨_, rfl⟩
  have n_y_p1 : hl1.2.1 y_p1 = F_p1 := (hkP1 qo_py y_p1 m_p1 f_qo_py f_y_p1 f_m_p1).trans n_p1
  obtain ⟨y_p2, f_y_p2, g_y_p2⟩ := hx_rf hT g_qo_py tt_3 (k := 5) (u := 26) rfl
  obtain ⟨m_p2, f_m_p2, g_m_p2⟩ := hx_rf hT gm tt_10 (k := 62) (u := 95) rfl
  obtain ⟨F_p2, n_p2⟩ : ∃ g : Nat → Int32, hl1.2.1 m_p2 = g := ⟨_, rfl⟩
  have n_y_p2 : hl1.2.1 y_p2 = F_p2 := (hkP2 qo_py y_p2 m_p2 f_qo_py f_y_p2 f_m_p2).trans n_p2
  obtain ⟨y_p3, f_y_p3, g_y_p3⟩ := hx_rf hT g_qo_py tt_3 (k := 4) (u := 25) rfl
  obtain ⟨m_p3, f_m_p3, g_m_p3⟩ := hx_rf hT gm tt_10 (k := 63) (u := 96) rfl
  obtain ⟨F_p3, n_p3⟩ : ∃ g : Nat → Int32, hl1.2.1 m_p3 = g := ⟨_, rfl⟩
  have n_y_p3 : hl1.2.1 y_p3 = F_p3 := (hkP3 qo_py y_p3 m_p3 f_qo_py f_y_p3 f_m_p3).trans n_p3
  obtain ⟨y_p4, f_y_p4, g_y_p4⟩ := hx_rf hT g_qo_py tt_3 (k := 1) (u := 22) rfl
  obtain ⟨m_p4, f_m_p4, g_m_p4⟩ := hx_rf hT gm tt_10 (k := 64) (u := 97) rfl
  obtain ⟨F_p4, n_p4⟩ : ∃ g : Nat → Int32, hl1.2.1 m_p4 = g := ⟨_, rfl⟩
  have n_y_p4 : hl1.2.1 y_p4 = F_p4 := (hkP4 qo_py y_p4 m_p4 f_qo_py f_y_p4 f_m_p4).trans n_p4
  obtain ⟨qrg9, f_qrg9, g_qrg9⟩ := hx_rf hT gx tt_9 (k := 18) (u := 7) rfl
  obtain ⟨y_ls, f_y_ls, g_y_ls⟩ := hx_rf hT g_qrg9 tt_7 (k := 3) (u := 35) rfl
  obtain ⟨m_rl, f_m_rl, g_m_rl⟩ := hx_rf hT gm tt_10 (k := 85) (u := 109) rfl
  obtain ⟨F_y_ls, n_y_ls⟩ : ∃ g : Nat → Int32, hl1.2.1 y_ls = g := ⟨_, rfl⟩
  obtain ⟨F_m_rl, n_m_rl⟩ : ∃ g : Nat → Int32, hl1.2.1 m_rl = g := ⟨_, rfl⟩
  obtain ⟨fv_59, efv_59⟩ : ∃ y : Int32, y = hl1.2.1 qrg9 0 := ⟨_, rfl⟩
  have bfv_59 := hT.gi g_qrg9 tt_7 (k := 0) rfl
  rw [← efv_59] at bfv_59
  have bfv_59 : -1 ≤ fv_59.toInt ∧ fv_59.toInt ≤ 100 := bfv_59
  have ffv_59 := efv_59.symm
  obtain ⟨fv_60, efv_60⟩ : ∃ y : Int32, y = hl1.2.1 am 83 := ⟨_, rfl⟩
  have bfv_60 := hT.gi gm tt_10 (k := 83) rfl
  rw [← efv_60] at bfv_60
  have bfv_60 : 0 ≤ fv_60.toInt ∧ fv_60.toInt ≤ 1 := bfv_60
  have ffv_60 := efv_60.symm
  obtain ⟨fv_61, efv_61⟩ : ∃ y : Int32, y = hl1.2.1 am 84 := ⟨_, rfl⟩
  have bfv_61 := hT.gi gm tt_10 (k := 84) rfl
  rw [← efv_61] at bfv_61
  have bfv_61 : 0 ≤ fv_61.toInt ∧ fv_61.toInt ≤ 300 := bfv_61
  have ffv_61 := efv_61.symm
  have hNQ9 := hkNQ qrg9 f_qrg9; rw [ffv_59, ffv_60, ffv_61] at hNQ9
  have hRL9 := hkRL qrg9 y_ls m_rl f_qrg9 f_y_ls f_m_rl; rw [n_y_ls, n_m_rl, ffv_59] at hRL9
  have hCB : hz_CB F_ord F_wkl F_owd F_szd F_gds F_srv := fun c hc => ⟨by have w := hT.ei g_m_ord tt_83 (k := c) (by omega); rw [n_ord] at w; exact w, by have w := hT.ei g_m_wkl tt_89 (k := c) (by omega); rw [n_wkl] at w; exact w, by have w := hT.ei g_m_owd tt_90 (k := c) (by omega); rw [n_owd] at w; exact w, by have w := hT.ei g_m_szd tt_84 (k := c) (by omega); rw [n_szd] at w; exact w, by have w := hT.ei g_m_gds tt_91 (k := c) (by omega); rw [n_gds] at w; exact w, by have w := hT.ei g_m_srv tt_85 (k := c) (by omega); rw [n_srv] at w; exact w⟩
  have hps : ∀ j, j < 600 → 0 ≤ (F_p2 j).toInt ∧ (F_p2 j).toInt ≤ 610000 := fun j hj => by have w := hT.ei g_m_p2 tt_95 (k := j) (by omega); rw [n_p2] at w; exact w
  have hte9 : ∀ c : Nat, c < 100 → (0 ≤ (c_tri c).toInt ∧ (c_tri c).toInt ≤ 512) ∧ (0 ≤ (F_sum c).toInt ∧ (F_sum c).toInt ≤ 9999) := fun c hc => ⟨htb9 c hc, by have w := hT.ei g_m_sum tt_74 (k := c) (by omega); rw [n_sum] at w; exact w⟩
  have hee9 : ∀ c : Nat, c < 40 → (0 ≤ (F_ear c).toInt ∧ (F_ear c).toInt ≤ 9999) ∧ (0 ≤ (F_hds c).toInt ∧ (F_hds c).toInt ≤ 20) := fun c hc => ⟨by have w := hT.ei g_m_ear tt_59 (k := c) (by omega); rw [n_ear] at w; exact w, by have w := hT.ei g_m_hds tt_60 (k := c) (by omega); rw [n_hds] at w; exact w⟩
  have bAG9 : ∀ k, k < 100 → 0 ≤ (F_aga k).toInt ∧ (F_aga k).toInt ≤ 39 := fun k hk => by have w := hT.ei g_m_aga tt_73 (k := k) (by omega); rw [n_aga] at w; exact w
  have bBY9 : ∀ k, k < 100 → 0 ≤ (F_by k).toInt ∧ (F_by k).toInt ≤ 39 := fun k hk => by have w := hT.ei g_m_by tt_72 (k := k) (by omega); rw [n_by] at w; exact w
  have hag9 : ∀ c, c < c0.toInt.toNat → 0 ≤ (F_aga c).toInt ∧ (F_aga c).toInt < 40 ∧ 0 ≤ (F_by c).toInt ∧ (F_by c).toInt < 40 := fun c hc => by have a9 := bAG9 c (by omega); have b9 := bBY9 c (by omega); omega
  have z_wkl : F_wkl c0.toInt.toNat = 0 := hx_num_z2 nu_qc cl_wkl ?o7
  case o7 => omega
  have z_owd : F_owd c0.toInt.toNat = 0 := hx_num_z2 nu_qc cl_owd ?o8
  case o8 => omega
  have z_gds : F_gds c0.toInt.toNat = 0 := hx_num_z2 nu_qc cl_gds ?o9
  case o9 => omega
  have hwd := jw mw f_mw; rw [n_mw] at hwd
  have hWK := jr mr f_mr; rw [n_mr, f_m_acts] at hWK
  have hRP := jp mp mn f_mp f_mn; rw [n_mp, n_mn, f_m_acts] at hRP
  have hPL := jl ml f_ml; rw [n_ml, f_m_claims, f_m_acts] at hPL
  have hHC := jh mh f_mh; rw [n_mh, f_m_heardMany, f_m_claims] at hHC
  have hTR := jt mt f_mt; rw [n_mt] at hTR
  have hHF := jf mh m_fou f_mh f_m_fou; rw [n_mh, n_m_fou, f_m_claims] at hHF
  refine lv_aload_n hx hb dL_law_258 rfl (lv_at hl 2 rfl) ?_
  refine lv_aload_n hx hb dL_law_259 rfl (lv_at hl 3 rfl) ?_
  refine lv_iload_n hx hb dL_law_260 rfl (lv_at hl 0 rfl) ?_
  refine lv_iconst (v := 1) hx hb dL_law_261 ?o10 ?_
  case o10 => decide
  refine lv_iadd hx hb dL_law_262 ?_
  have rg_62 := i32_r i
  refine lv_topi (fun x_63 ex_63 => ?_)
  have zx_63 : x_63.toInt = i.toInt + 1 := ?o11
  case o11 =>
    rw [ex_63]
    refine i32_add rfl ?o12 ?o13 ?o14
    case o12 => decide
    case o13 => omega
    case o14 => omega
  refine va_sld hx hb hX hbl hbA hW.2.2.2.1 (vp_in_iff.mpr ⟨?o15, ?o16⟩) dL_law_263 ?_
  case o15 => omega
  case o16 => omega
  refine lv_topi (fun x_64 ex_64 => ?_)
  have hTo := hT
  refine hx_goi (hx_runV (As := [.int x_64]) (rest := []) ⟨hx, hb, hml, hown, hts⟩ hW gx tt_9 (T := TX9) (N := 20) rfl (t_X9_end_v l dC dI dA L1 hl1 H.size ax x_64 hT gx tl f_x_tapeLength) (cwV 1 hts (hx_gV kw_446 kw_443 kw_444 kw_445 kw_94) rfl rfl rfl (by decide +kernel) ⟨Nat.le_of_ble_eq_true rfl, Nat.le_of_ble_eq_true rfl⟩) rfl hl.1 rfl (Nat.le_of_ble_eq_true rfl) dL_law_264 ⟨(show CC + 0 ≤ 600000 from ?o17), (show SS + 0 ≤ 7302250 from ?o18)⟩) hW (fun r_67 L_65 h_66 H locs p_68 hW => ?_)
  case o17 => omega
  case o18 => omega
  obtain ⟨⟨w_70, fw_70, hr_69⟩, hT, hs⟩ := p_68
  replace hT : hx_T T_tb L_65 h_66 := hT
  replace hs : hx_S T_tb [(9, 1)] L1 hl1 L_65 h_66 := hs
  replace f_qa := (hs.o gx trivial rfl).2.trans f_qa
  replace f_qp := (hs.o gx trivial rfl).2.trans f_qp
  replace f_qc := (hs.o gx trivial rfl).2.trans f_qc
  replace f_qh := (hs.o gx trivial rfl).2.trans f_qh
  replace f_qw := (hs.o gx trivial rfl).2.trans f_qw
  replace f_ql := (hs.o g_qw trivial rfl).2.trans f_ql
  replace f_m_now := (hs.o gm trivial rfl).1.trans f_m_now
  replace f_m_persons := (hs.o gm trivial rfl).1.trans f_m_persons
  replace f_m_claims := (hs.o gm trivial rfl).1.trans f_m_claims
  replace f_m_taped := (hs.o gm trivial rfl).1.trans f_m_taped
  replace f_m_acts := (hs.o gm trivial rfl).1.trans f_m_acts
  replace f_m_heardMany := (hs.o gm trivial rfl).1.trans f_m_heardMany
  replace f_m_lines := (hs.o gm trivial rfl).1.trans f_m_lines
  replace f_m_listed := (hs.o gm trivial rfl).1.trans f_m_listed
  replace f_m_walkedMany := (hs.o gm trivial rfl).1.trans f_m_walkedMany
  replace f_m_payments := (hs.o gm trivial rfl).1.trans f_m_payments
  replace f_x_now := (hs.o gx trivial rfl).1.trans f_x_now
  replace f_x_personCount := (hs.o gx trivial rfl).1.trans f_x_personCount
  replace f_x_claimCount := (hs.o gx trivial rfl).1.trans f_x_claimCount
  replace f_x_actCount := (hs.o gx trivial rfl).1.trans f_x_actCount
  replace f_x_heardCount := (hs.o gx trivial rfl).1.trans f_x_heardCount
  replace f_mw := (hs.o gm trivial rfl).2.trans f_mw
  replace f_mr := (hs.o gm trivial rfl).2.trans f_mr
  replace f_mp := (hs.o gm trivial rfl).2.trans f_mp
  replace f_mn := (hs.o gm trivial rfl).2.trans f_mn
  replace f_ml := (hs.o gm trivial rfl).2.trans f_ml
  replace f_mh := (hs.o gm trivial rfl).2.trans f_mh
  replace f_mt := (hs.o gm trivial rfl).2.trans f_mt
  replace f_m_fou := (hs.o gm trivial rfl).2.trans f_m_fou
  replace f_qo_ln := (hs.o gx trivial rfl).2.trans f_qo_ln
  replace f_o_ln := (hs.o g_qo_ln trivial rfl).1.trans f_o_ln
  replace f_o_lsd := (hs.o g_qw trivial rfl).1.trans f_o_lsd
  replace f_o_wkm := (hs.o g_qw trivial rfl).1.trans f_o_wkm
  replace f_qo_py := (hs.o gx trivial rfl).2.trans f_qo_py
  replace f_o_py := (hs.o g_qo_py trivial rfl).1.trans f_o_py
  replace f_b_of := (hs.o g_qo_ln trivial rfl).2.trans f_b_of
  replace f_m_of := (hs.o gm trivial rfl).2.trans f_m_of
  replace f_b_wf := (hs.o g_qo_ln trivial rfl).2.trans f_b_wf
  replace f_m_wf := (hs.o gm trivial rfl).2.trans f_m_wf
  replace f_b_df := (hs.o g_qo_ln trivial rfl).2.trans f_b_df
  replace f_m_df := (hs.o gm trivial rfl).2.trans f_m_df
  replace f_b_kf := (hs.o g_qo_ln trivial rfl).2.trans f_b_kf
  replace f_m_kf := (hs.o gm trivial rfl).2.trans f_m_kf
  replace f_b_sf := (hs.o g_qo_ln trivial rfl).2.trans f_b_sf
  replace f_m_sf := (hs.o gm trivial rfl).2.trans f_m_sf
  replace f_b_bf := (hs.o g_qo_ln trivial rfl).2.trans f_b_bf
  replace f_m_lst := (hs.o gm trivial rfl).2.trans f_m_lst
  replace f_qtp := (hs.o gx trivial rfl).2.trans f_qtp
  replace f_m_tp := (hs.o gm trivial rfl).2.trans f_m_tp
  replace f_m_dead := (hs.o gm trivial rfl).2.trans f_m_dead
  replace f_m_isj := (hs.o gm trivial rfl).2.trans f_m_isj
  replace f_m_dox := (hs.o gm trivial rfl).2.trans f_m_dox
  replace f_m_doy := (hs.o gm trivial rfl).2.trans f_m_doy
  replace f_qlt := (hs.o g_qw trivial rfl).2.trans f_qlt
  replace f_qlf := (hs.o g_qw trivial rfl).2.trans f_qlf
  replace f_m_wkd := (hs.o gm trivial rfl).2.trans f_m_wkd
  replace f_m_aga := (hs.o gm trivial rfl).2.trans f_m_aga
  replace f_qwo := (hs.o gx trivial rfl).2.trans f_qwo
  replace f_m_ad := (hs.o gm trivial rfl).2.trans f_m_ad
  replace f_m_by := (hs.o gm trivial rfl).2.trans f_m_by
  replace f_m_ho := (hs.o gm trivial rfl).2.trans f_m_ho
  replace f_m_fc := (hs.o gm trivial rfl).2.trans f_m_fc
  replace f_m_nt := (hs.o gm trivial rfl).2.trans f_m_nt
  replace f_m_wt := (hs.o gm trivial rfl).2.trans f_m_wt
  replace f_m_be := (hs.o gm trivial rfl).2.trans f_m_be
  replace f_m_bor := (hs.o gm trivial rfl).2.trans f_m_bor
  replace f_m_kin := (hs.o gm trivial rfl).2.trans f_m_kin
  replace f_m_sum := (hs.o gm trivial rfl).2.trans f_m_sum
  replace f_m_fro := (hs.o gm trivial rfl).2.trans f_m_fro
  replace f_m_fil := (hs.o gm trivial rfl).2.trans f_m_fil
  replace f_m_jud := (hs.o gm trivial rfl).2.trans f_m_jud
  replace f_m_ear := (hs.o gm trivial rfl).2.trans f_m_ear
  replace f_m_hds := (hs.o gm trivial rfl).2.trans f_m_hds
  replace f_m_ord := (hs.o gm trivial rfl).2.trans f_m_ord
  replace f_m_wkl := (hs.o gm trivial rfl).2.trans f_m_wkl
  replace f_m_owd := (hs.o gm trivial rfl).2.trans f_m_owd
  replace f_m_gds := (hs.o gm trivial rfl).2.trans f_m_gds
  replace f_m_szd := (hs.o gm trivial rfl).2.trans f_m_szd
  replace f_m_srv := (hs.o gm trivial rfl).2.trans f_m_srv
  replace f_y_p0 := (hs.o g_qo_py trivial rfl).2.trans f_y_p0
  replace f_m_p0 := (hs.o gm trivial rfl).2.trans f_m_p0
  replace f_y_p1 := (hs.o g_qo_py trivial rfl).2.trans f_y_p1
  replace f_m_p1 := (hs.o gm trivial rfl).2.trans f_m_p1
  replace f_y_p2 := (hs.o g_qo_py trivial rfl).2.trans f_y_p2
  replace f_m_p2 := (hs.o gm trivial rfl).2.trans f_m_p2
  replace f_y_p3 := (hs.o g_qo_py trivial rfl).2.trans f_y_p3
  replace f_m_p3 := (hs.o gm trivial rfl).2.trans f_m_p3
  replace f_y_p4 := (hs.o g_qo_py trivial rfl).2.trans f_y_p4
  replace f_m_p4 := (hs.o gm trivial rfl).2.trans f_m_p4
  replace f_qrg9 := (hs.o gx trivial rfl).2.trans f_qrg9
  replace f_y_ls := (hs.o g_qrg9 trivial rfl).2.trans f_y_ls
  replace f_m_rl := (hs.o gm trivial rfl).2.trans f_m_rl
  replace ffv_59 := (hs.o g_qrg9 trivial rfl).1.trans ffv_59
  replace ffv_60 := (hs.o gm trivial rfl).1.trans ffv_60
  replace ffv_61 := (hs.o gm trivial rfl).1.trans ffv_61
  replace pf_qa : ∀ j : Nat, (j : Int) < (h_66.2.1 ax 6).toInt → h_66.2.2 qa j ≠ none := by
    intro j hj; rw [(hs.o gx trivial rfl).1] at hj; rw [(hs.a g_qa rfl j).2]; exact pf_qa j hj
  replace pf_qp : ∀ j : Nat, (j : Int) < (h_66.2.1 ax 8).toInt → h_66.2.2 qp j ≠ none := by
    intro j hj; rw [(hs.o gx trivial rfl).1] at hj; rw [(hs.a g_qp rfl j).2]; exact pf_qp j hj
  replace pf_qc : ∀ j : Nat, (j : Int) < (h_66.2.1 ax 11).toInt → h_66.2.2 qc j ≠ none := by
    intro j hj; rw [(hs.o gx trivial rfl).1] at hj; rw [(hs.a g_qc rfl j).2]; exact pf_qc j hj
  replace pf_qh : ∀ j : Nat, (j : Int) < (h_66.2.1 ax 13).toInt → h_66.2.2 qh j ≠ none := by
    intro j hj; rw [(hs.o gx trivial rfl).1] at hj; rw [(hs.a g_qh rfl j).2]; exact pf_qh j hj
  replace pf_ql : ∀ j : Nat, (j : Int) < (h_66.2.1 qw 0).toInt → h_66.2.2 ql j ≠ none := by
    intro j hj; rw [(hs.o g_qw trivial rfl).1] at hj; rw [(hs.a g_ql rfl j).2]; exact pf_ql j hj
  replace cl_lst : hx_col 8 h_66 ql 0 = c_lst := (hx_col_S hs hTo g_ql tt_40 tt_2 rfl rfl).trans cl_lst
  replace cl_dead : hx_col 40 h_66 qp 7 = c_dead := (hx_col_S hs hTo g_qp tt_44 tt_4 rfl rfl).trans cl_dead
  replace cl_isj : hx_col 40 h_66 qp 8 = c_isj := (hx_col_S hs hTo g_qp tt_44 tt_4 rfl rfl).trans cl_isj
  replace cl_dox : hx_col 40 h_66 qp 5 = c_dox := (hx_col_S hs hTo g_qp tt_44 tt_4 rfl rfl).trans cl_dox
  replace cl_doy : hx_col 40 h_66 qp 6 = c_doy := (hx_col_S hs hTo g_qp tt_44 tt_4 rfl rfl).trans cl_doy
  replace cl_fou : hx_col 100 h_66 qc 10 = c_fou := (hx_col_S hs hTo g_qc tt_45 tt_2 rfl rfl).trans cl_fou
  replace cl_tri : hx_col 100 h_66 qc 9 = c_tri := (hx_col_S hs hTo g_qc tt_45 tt_2 rfl rfl).trans cl_tri
  replace cl_bor : hx_col 40 h_66 qp 1 = F_bor := (hx_col_S hs hTo g_qp tt_44 tt_4 rfl rfl).trans cl_bor
  replace cl_kin : hx_col 40 h_66 qp 2 = F_kin := (hx_col_S hs hTo g_qp tt_44 tt_4 rfl rfl).trans cl_kin
  replace cl_sum : hx_col 100 h_66 qc 6 = F_sum := (hx_col_S hs hTo g_qc tt_45 tt_2 rfl rfl).trans cl_sum
  replace cl_fro : hx_col 100 h_66 qc 7 = F_fro := (hx_col_S hs hTo g_qc tt_45 tt_2 rfl rfl).trans cl_fro
  replace cl_fil : hx_col 100 h_66 qc 8 = F_fil := (hx_col_S hs hTo g_qc tt_45 tt_2 rfl rfl).trans cl_fil
  replace cl_hea : hx_col 100 h_66 qc 11 = F_mh := (hx_col_S hs hTo g_qc tt_45 tt_2 rfl rfl).trans cl_hea
  replace cl_jud : hx_col 100 h_66 qc 12 = F_jud := (hx_col_S hs hTo g_qc tt_45 tt_2 rfl rfl).trans cl_jud
  replace cl_ear : hx_col 40 h_66 qp 3 = F_ear := (hx_col_S hs hTo g_qp tt_44 tt_4 rfl rfl).trans cl_ear
  replace cl_hds : hx_col 40 h_66 qp 4 = F_hds := (hx_col_S hs hTo g_qp tt_44 tt_4 rfl rfl).trans cl_hds
  replace cl_ord : hx_col 100 h_66 qc 13 = F_ord := (hx_col_S hs hTo g_qc tt_45 tt_2 rfl rfl).trans cl_ord
  replace cl_wkl : hx_col 100 h_66 qc 14 = F_wkl := (hx_col_S hs hTo g_qc tt_45 tt_2 rfl rfl).trans cl_wkl
  replace cl_owd : hx_col 100 h_66 qc 15 = F_owd := (hx_col_S hs hTo g_qc tt_45 tt_2 rfl rfl).trans cl_owd
  replace cl_gds : hx_col 100 h_66 qc 17 = F_gds := (hx_col_S hs hTo g_qc tt_45 tt_2 rfl rfl).trans cl_gds
  replace cl_szd : hx_col 100 h_66 qc 16 = F_szd := (hx_col_S hs hTo g_qc tt_45 tt_2 rfl rfl).trans cl_szd
  replace cl_srv : hx_col 100 h_66 qc 18 = F_srv := (hx_col_S hs hTo g_qc tt_45 tt_2 rfl rfl).trans cl_srv
  replace nu_qp : hx_num 40 h_66 qp 0 (np.toInt) := hx_num_S hs hTo g_qp tt_44 tt_4 rfl rfl nu_qp
  replace nu_qc : hx_num 100 h_66 qc 0 (c0.toInt) := hx_num_S hs hTo g_qc tt_45 tt_2 rfl rfl nu_qc
  replace sb_list : hx_LQ 8 100 h_66 ql qc := hx_LQ_S hs g_ql g_qc rfl rfl sb_list
  replace hDF : hw_DF h_66 qc qp 2 F_aga c0.toInt := hw_DF_S hs hTo g_qc g_qp tt_45 tt_2 rfl rfl rfl hDF
  replace hRA9 : hv_RA h_66 qa qwo a0.toInt A9 := hv_RA_S hs hTo g_qa g_qwo tt_43 tt_0 rfl rfl rfl rfl rfl rfl ?o19 hRA9
  case o19 => omega
  replace hDP : hw_DF h_66 qc qp 1 F_by c0.toInt := hw_DF_S hs hTo g_qc g_qp tt_45 tt_2 rfl rfl rfl hDP
  replace hAC9 : hv_AC h_66 qc F_ml c0.toInt A9 := hv_AC_S hs hTo g_qc tt_45 tt_2 rfl tt_0 rfl rfl rfl rfl rfl rfl rfl hAC9
  replace hFX : hv_FX 8 4 h_66 qc cF9L c0.toInt := hv_FX_S hs hTo g_qc tt_45 tt_2 rfl rfl rfl rfl hFX
  replace hBX : hv_FX 3 5 h_66 qc F_be c0.toInt := hv_FX_S hs hTo g_qc tt_45 tt_2 rfl rfl rfl rfl hBX
  replace hHL : hv_HL h_66 qh qc F_ho m0.toInt c0.toInt := hv_HL_S hs g_qh g_qc rfl rfl hHL
  replace n_mw : h_66.2.1 mw = F_mw := (funext fun j => (hs.a g_mw rfl j).1).trans n_mw
  replace n_mr : h_66.2.1 mr = F_mr := (funext fun j => (hs.a g_mr rfl j).1).trans n_mr
  replace n_mp : h_66.2.1 mp = F_mp := (funext fun j => (hs.a g_mp rfl j).1).trans n_mp
  replace n_mn : h_66.2.1 mn = F_mn := (funext fun j => (hs.a g_mn rfl j).1).trans n_mn
  replace n_ml : h_66.2.1 ml = F_ml := (funext fun j => (hs.a g_ml rfl j).1).trans n_ml
  replace n_mh : h_66.2.1 mh = F_mh := (funext fun j => (hs.a g_mh rfl j).1).trans n_mh
  replace n_mt : h_66.2.1 mt = F_mt := (funext fun j => (hs.a g_mt rfl j).1).trans n_mt
  replace n_m_fou : h_66.2.1 m_fou = F_m_fou := (funext fun j => (hs.a g_m_fou rfl j).1).trans n_m_fou
  replace n_b_of : h_66.2.1 b_of = B_of := (funext fun j => (hs.a g_b_of rfl j).1).trans n_b_of
  replace n_m_of : h_66.2.1 m_of = F_of := (funext fun j => (hs.a g_m_of rfl j).1).trans n_m_of
  replace n_b_wf : h_66.2.1 b_wf = B_wf := (funext fun j => (hs.a g_b_wf rfl j).1).trans n_b_wf
  replace n_m_wf : h_66.2.1 m_wf = F_wf := (funext fun j => (hs.a g_m_wf rfl j).1).trans n_m_wf
  replace n_b_df : h_66.2.1 b_df = B_df := (funext fun j => (hs.a g_b_df rfl j).1).trans n_b_df
  replace n_m_df : h_66.2.1 m_df = F_df := (funext fun j => (hs.a g_m_df rfl j).1).trans n_m_df
  replace n_b_kf : h_66.2.1 b_kf = B_kf := (funext fun j => (hs.a g_b_kf rfl j).1).trans n_b_kf
  replace n_m_kf : h_66.2.1 m_kf = F_kf := (funext fun j => (hs.a g_m_kf rfl j).1).trans n_m_kf
  replace n_b_sf : h_66.2.1 b_sf = B_sf := (funext fun j => (hs.a g_b_sf rfl j).1).trans n_b_sf
  replace n_m_sf : h_66.2.1 m_sf = F_sf := (funext fun j => (hs.a g_m_sf rfl j).1).trans n_m_sf
  replace n_b_bf : h_66.2.1 b_bf = bfL := (funext fun j => (hs.a g_b_bf rfl j).1).trans n_b_bf
  replace n_lst : h_66.2.1 m_lst = F_lst := (funext fun j => (hs.a g_m_lst rfl j).1).trans n_lst
  replace n_tp : h_66.2.1 m_tp = F_tp := (funext fun j => (hs.a g_m_tp rfl j).1).trans n_tp
  replace n_qtp : h_66.2.1 qtp = F_tp := (funext fun j => (hs.a g_qtp rfl j).1).trans n_qtp
  replace n_dead : h_66.2.1 m_dead = F_dead := (funext fun j => (hs.a g_m_dead rfl j).1).trans n_dead
  replace n_isj : h_66.2.1 m_isj = F_isj := (funext fun j => (hs.a g_m_isj rfl j).1).trans n_isj
  replace n_dox : h_66.2.1 m_dox = F_dox := (funext fun j => (hs.a g_m_dox rfl j).1).trans n_dox
  replace n_doy : h_66.2.1 m_doy = F_doy := (funext fun j => (hs.a g_m_doy rfl j).1).trans n_doy
  replace n_qlt : h_66.2.1 qlt = F_qlt := (funext fun j => (hs.a g_qlt rfl j).1).trans n_qlt
  replace n_m_wkd : h_66.2.1 m_wkd = F_m_wkd := (funext fun j => (hs.a g_m_wkd rfl j).1).trans n_m_wkd
  replace n_aga : h_66.2.1 m_aga = F_aga := (funext fun j => (hs.a g_m_aga rfl j).1).trans n_aga
  replace n_ad : h_66.2.1 m_ad = F_ad := (funext fun j => (hs.a g_m_ad rfl j).1).trans n_ad
  replace n_by : h_66.2.1 m_by = F_by := (funext fun j => (hs.a g_m_by rfl j).1).trans n_by
  replace n_ho : h_66.2.1 m_ho = F_ho := (funext fun j => (hs.a g_m_ho rfl j).1).trans n_ho
  replace n_fc : h_66.2.1 m_fc = F_fc := (funext fun j => (hs.a g_m_fc rfl j).1).trans n_fc
  replace n_nt : h_66.2.1 m_nt = F_nt := (funext fun j => (hs.a g_m_nt rfl j).1).trans n_nt
  replace n_wt : h_66.2.1 m_wt = F_wt := (funext fun j => (hs.a g_m_wt rfl j).1).trans n_wt
  replace n_be : h_66.2.1 m_be = F_be := (funext fun j => (hs.a g_m_be rfl j).1).trans n_be
  replace n_bor : h_66.2.1 m_bor = F_bor := (funext fun j => (hs.a g_m_bor rfl j).1).trans n_bor
  replace n_kin : h_66.2.1 m_kin = F_kin := (funext fun j => (hs.a g_m_kin rfl j).1).trans n_kin
  replace n_sum : h_66.2.1 m_sum = F_sum := (funext fun j => (hs.a g_m_sum rfl j).1).trans n_sum
  replace n_fro : h_66.2.1 m_fro = F_fro := (funext fun j => (hs.a g_m_fro rfl j).1).trans n_fro
  replace n_fil : h_66.2.1 m_fil = F_fil := (funext fun j => (hs.a g_m_fil rfl j).1).trans n_fil
  replace n_jud : h_66.2.1 m_jud = F_jud := (funext fun j => (hs.a g_m_jud rfl j).1).trans n_jud
  replace n_ear : h_66.2.1 m_ear = F_ear := (funext fun j => (hs.a g_m_ear rfl j).1).trans n_ear
  replace n_hds : h_66.2.1 m_hds = F_hds := (funext fun j => (hs.a g_m_hds rfl j).1).trans n_hds
  replace n_ord : h_66.2.1 m_ord = F_ord := (funext fun j => (hs.a g_m_ord rfl j).1).trans n_ord
  replace n_wkl : h_66.2.1 m_wkl = F_wkl := (funext fun j => (hs.a g_m_wkl rfl j).1).trans n_wkl
  replace n_owd : h_66.2.1 m_owd = F_owd := (funext fun j => (hs.a g_m_owd rfl j).1).trans n_owd
  replace n_gds : h_66.2.1 m_gds = F_gds := (funext fun j => (hs.a g_m_gds rfl j).1).trans n_gds
  replace n_szd : h_66.2.1 m_szd = F_szd := (funext fun j => (hs.a g_m_szd rfl j).1).trans n_szd
  replace n_srv : h_66.2.1 m_srv = F_srv := (funext fun j => (hs.a g_m_srv rfl j).1).trans n_srv
  replace n_p0 : h_66.2.1 m_p0 = F_p0 := (funext fun j => (hs.a g_m_p0 rfl j).1).trans n_p0
  replace n_y_p0 : h_66.2.1 y_p0 = F_p0 := (funext fun j => (hs.a g_y_p0 rfl j).1).trans n_y_p0
  replace n_p1 : h_66.2.1 m_p1 = F_p1 := (funext fun j => (hs.a g_m_p1 rfl j).1).trans n_p1
  replace n_y_p1 : h_66.2.1 y_p1 = F_p1 := (funext fun j => (hs.a g_y_p1 rfl j).1).trans n_y_p1
  replace n_p2 : h_66.2.1 m_p2 = F_p2 := (funext fun j => (hs.a g_m_p2 rfl j).1).trans n_p2
  replace n_y_p2 : h_66.2.1 y_p2 = F_p2 := (funext fun j => (hs.a g_y_p2 rfl j).1).trans n_y_p2
  replace n_p3 : h_66.2.1 m_p3 = F_p3 := (funext fun j => (hs.a g_m_p3 rfl j).1).trans n_p3
  replace n_y_p3 : h_66.2.1 y_p3 = F_p3 := (funext fun j => (hs.a g_y_p3 rfl j).1).trans n_y_p3
  replace n_p4 : h_66.2.1 m_p4 = F_p4 := (funext fun j => (hs.a g_m_p4 rfl j).1).trans n_p4
  replace n_y_p4 : h_66.2.1 y_p4 = F_p4 := (funext fun j => (hs.a g_y_p4 rfl j).1).trans n_y_p4
  replace n_y_ls : h_66.2.1 y_ls = F_y_ls := (funext fun j => (hs.a g_y_ls rfl j).1).trans n_y_ls
  replace n_m_rl : h_66.2.1 m_rl = F_m_rl := (funext fun j => (hs.a g_m_rl rfl j).1).trans n_m_rl
  replace gx := gx.S hs
  replace gm := gm.S hs
  replace g_qa := g_qa.S hs
  replace g_qp := g_qp.S hs
  replace g_qc := g_qc.S hs
  replace g_qh := g_qh.S hs
  replace g_qw := g_qw.S hs
  replace g_ql := g_ql.S hs
  replace g_mw := g_mw.S hs
  replace g_mr := g_mr.S hs
  replace g_mp := g_mp.S hs
  replace g_mn := g_mn.S hs
  replace g_ml := g_ml.S hs
  replace g_mh := g_mh.S hs
  replace g_mt := g_mt.S hs
  replace g_m_fou := g_m_fou.S hs
  replace g_qo_ln := g_qo_ln.S hs
  replace g_qo_py := g_qo_py.S hs
  replace g_b_of := g_b_of.S hs
  replace g_m_of := g_m_of.S hs
  replace g_b_wf := g_b_wf.S hs
  replace g_m_wf := g_m_wf.S hs
  replace g_b_df := g_b_df.S hs
  replace g_m_df := g_m_df.S hs
  replace g_b_kf := g_b_kf.S hs
  replace g_m_kf := g_m_kf.S hs
  replace g_b_sf := g_b_sf.S hs
  replace g_m_sf := g_m_sf.S hs
  replace g_b_bf := g_b_bf.S hs
  replace g_m_lst := g_m_lst.S hs
  replace g_qtp := g_qtp.S hs
  replace g_m_tp := g_m_tp.S hs
  replace g_m_dead := g_m_dead.S hs
  replace g_m_isj := g_m_isj.S hs
  replace g_m_dox := g_m_dox.S hs
  replace g_m_doy := g_m_doy.S hs
  replace g_qlt := g_qlt.S hs
  replace g_qlf := g_qlf.S hs
  replace g_m_wkd := g_m_wkd.S hs
  replace g_m_aga := g_m_aga.S hs
  replace g_qwo := g_qwo.S hs
  replace g_m_ad := g_m_ad.S hs
  replace g_m_by := g_m_by.S hs
  replace g_m_ho := g_m_ho.S hs
  replace g_m_fc := g_m_fc.S hs
  replace g_m_nt := g_m_nt.S hs
  replace g_m_wt := g_m_wt.S hs
  replace g_m_be := g_m_be.S hs
  replace g_m_bor := g_m_bor.S hs
  replace g_m_kin := g_m_kin.S hs
  replace g_m_sum := g_m_sum.S hs
  replace g_m_fro := g_m_fro.S hs
  replace g_m_fil := g_m_fil.S hs
  replace g_m_jud := g_m_jud.S hs
  replace g_m_ear := g_m_ear.S hs
  replace g_m_hds := g_m_hds.S hs
  replace g_m_ord := g_m_ord.S hs
  replace g_m_wkl := g_m_wkl.S hs
  replace g_m_owd := g_m_owd.S hs
  replace g_m_gds := g_m_gds.S hs
  replace g_m_szd := g_m_szd.S hs
  replace g_m_srv := g_m_srv.S hs
  replace g_y_p0 := g_y_p0.S hs
  replace g_m_p0 := g_m_p0.S hs
  replace g_y_p1 := g_y_p1.S hs
  replace g_m_p1 := g_m_p1.S hs
  replace g_y_p2 := g_y_p2.S hs
  replace g_m_p2 := g_m_p2.S hs
  replace g_y_p3 := g_y_p3.S hs
  replace g_m_p3 := g_m_p3.S hs
  replace g_y_p4 := g_y_p4.S hs
  replace g_m_p4 := g_m_p4.S hs
  replace g_qrg9 := g_qrg9.S hs
  replace g_y_ls := g_y_ls.S hs
  replace g_m_rl := g_m_rl.S hs
  have fw_70 : h_66.2.1 ax 1 = w_70 := fw_70
  have bw_70 := hT.gi gx tt_9 (k := 1) rfl
  rw [fw_70] at bw_70
  have bw_70 : 0 ≤ w_70.toInt ∧ w_70.toInt ≤ 400 := bw_70
  refine lv_pop hx hb dL_law_267 rfl ?_
  refine lv_aload_n hx hb dL_law_268 rfl (lv_at hl 1 rfl) ?_
  refine lv_aload_n hx hb dL_law_269 rfl (lv_at hl 3 rfl) ?_
  refine lv_iload_n hx hb dL_law_270 rfl (lv_at hl 0 rfl) ?_
  refine lv_iconst (v := 1) hx hb dL_law_271 ?o20 ?_
  case o20 => decide
  refine lv_iadd hx hb dL_law_272 ?_
  refine lv_topi (fun x_71 ex_71 => ?_)
  have zx_71 : x_71.toInt = i.toInt + 1 := ?o21
  case o21 =>
    rw [ex_71]
    refine i32_add rfl ?o22 ?o23 ?o24
    case o22 => decide
    case o23 => omega
    case o24 => omega
  obtain rfl : x_63 = x_71 := ex_63.trans ex_71.symm
  refine va_sld hx hb hX hbl hbA hW.2.2.2.1 (vp_in_iff.mpr ⟨?o25, ?o26⟩) dL_law_273 ?_
  case o25 => omega
  case o26 => omega
  refine lv_topi (fun x_72 ex_72 => ?_)
  obtain rfl : x_64 = x_72 := ex_64.trans ex_72.symm
  have hTo := hT
  refine hx_goi (hx_runV (As := [.int x_64]) (rest := []) ⟨hx, hb, hml, hown, hts⟩ hW gm tt_10 (T := TX10) (N := 98) rfl (t_X10_end_v l dC dI dA L_65 h_66 H.size am x_64 hT gm tl f_m_taped) (cwV 1 hts (hx_gV kw_1457 kw_1454 kw_1455 kw_1456 kw_103) rfl rfl rfl (by decide +kernel) ⟨Nat.le_of_ble_eq_true rfl, Nat.le_of_ble_eq_true rfl⟩) rfl hl.1 rfl (Nat.le_of_ble_eq_true rfl) dL_law_274 ⟨(show CC + 0 + 0 ≤ 600000 from ?o27), (show SS + 0 + 0 ≤ 7302250 from ?o28)⟩) hW (fun r_75 L_73 h_74 H locs p_76 hW => ?_)
  case o27 => omega
  case o28 => omega
  obtain ⟨⟨w_78, fw_78, hr_77⟩, hT, hs⟩ := p_76
  replace hT : hx_T T_tb L_73 h_74 := hT
  replace hs : hx_S T_tb [(10, 7)] L_65 h_66 L_73 h_74 := hs
  replace f_qa := (hs.o gx trivial rfl).2.trans f_qa
  replace f_qp := (hs.o gx trivial rfl).2.trans f_qp
  replace f_qc := (hs.o gx trivial rfl).2.trans f_qc
  replace f_qh := (hs.o gx trivial rfl).2.trans f_qh
  replace f_qw := (hs.o gx trivial rfl).2.trans f_qw
  replace f_ql := (hs.o g_qw trivial rfl).2.trans f_ql
  replace f_m_now := (hs.o gm trivial rfl).1.trans f_m_now
  replace f_m_persons := (hs.o gm trivial rfl).1.trans f_m_persons
  replace f_m_claims := (hs.o gm trivial rfl).1.trans f_m_claims
  replace f_m_acts := (hs.o gm trivial rfl).1.trans f_m_acts
  replace f_m_heardMany := (hs.o gm trivial rfl).1.trans f_m_heardMany
  replace f_m_lines := (hs.o gm trivial rfl).1.trans f_m_lines
  replace f_m_listed := (hs.o gm trivial rfl).1.trans f_m_listed
  replace f_m_walkedMany := (hs.o gm trivial rfl).1.trans f_m_walkedMany
  replace f_m_payments := (hs.o gm trivial rfl).1.trans f_m_payments
  replace f_x_now := (hs.o gx trivial rfl).1.trans f_x_now
  replace f_x_personCount := (hs.o gx trivial rfl).1.trans f_x_personCount
  replace f_x_claimCount := (hs.o gx trivial rfl).1.trans f_x_claimCount
  replace f_x_actCount := (hs.o gx trivial rfl).1.trans f_x_actCount
  replace f_x_heardCount := (hs.o gx trivial rfl).1.trans f_x_heardCount
  replace f_mw := (hs.o gm trivial rfl).2.trans f_mw
  replace f_mr := (hs.o gm trivial rfl).2.trans f_mr
  replace f_mp := (hs.o gm trivial rfl).2.trans f_mp
  replace f_mn := (hs.o gm trivial rfl).2.trans f_mn
  replace f_ml := (hs.o gm trivial rfl).2.trans f_ml
  replace f_mh := (hs.o gm trivial rfl).2.trans f_mh
  replace f_mt := (hs.o gm trivial rfl).2.trans f_mt
  replace f_m_fou := (hs.o gm trivial rfl).2.trans f_m_fou
  replace f_qo_ln := (hs.o gx trivial rfl).2.trans f_qo_ln
  replace f_o_ln := (hs.o g_qo_ln trivial rfl).1.trans f_o_ln
  replace f_o_lsd := (hs.o g_qw trivial rfl).1.trans f_o_lsd
  replace f_o_wkm := (hs.o g_qw trivial rfl).1.trans f_o_wkm
  replace f_qo_py := (hs.o gx trivial rfl).2.trans f_qo_py
  replace f_o_py := (hs.o g_qo_py trivial rfl).1.trans f_o_py
  replace f_b_of := (hs.o g_qo_ln trivial rfl).2.trans f_b_of
  replace f_m_of := (hs.o gm trivial rfl).2.trans f_m_of
  replace f_b_wf := (hs.o g_qo_ln trivial rfl).2.trans f_b_wf
  replace f_m_wf := (hs.o gm trivial rfl).2.trans f_m_wf
  replace f_b_df := (hs.o g_qo_ln trivial rfl).2.trans f_b_df
  replace f_m_df := (hs.o gm trivial rfl).2.trans f_m_df
  replace f_b_kf := (hs.o g_qo_ln trivial rfl).2.trans f_b_kf
  replace f_m_kf := (hs.o gm trivial rfl).2.trans f_m_kf
  replace f_b_sf := (hs.o g_qo_ln trivial rfl).2.trans f_b_sf
  replace f_m_sf := (hs.o gm trivial rfl).2.trans f_m_sf
  replace f_b_bf := (hs.o g_qo_ln trivial rfl).2.trans f_b_bf
  replace f_m_lst := (hs.o gm trivial rfl).2.trans f_m_lst
  replace f_qtp := (hs.o gx trivial rfl).2.trans f_qtp
  replace f_m_tp := (hs.o gm trivial rfl).2.trans f_m_tp
  replace f_m_dead := (hs.o gm trivial rfl).2.trans f_m_dead
  replace f_m_isj := (hs.o gm trivial rfl).2.trans f_m_isj
  replace f_m_dox := (hs.o gm trivial rfl).2.trans f_m_dox
  replace f_m_doy := (hs.o gm trivial rfl).2.trans f_m_doy
  replace f_qlt := (hs.o g_qw trivial rfl).2.trans f_qlt
  replace f_qlf := (hs.o g_qw trivial rfl).2.trans f_qlf
  replace f_m_wkd := (hs.o gm trivial rfl).2.trans f_m_wkd
  replace f_m_aga := (hs.o gm trivial rfl).2.trans f_m_aga
  replace f_qwo := (hs.o gx trivial rfl).2.trans f_qwo
  replace f_m_ad := (hs.o gm trivial rfl).2.trans f_m_ad
  replace f_m_by := (hs.o gm trivial rfl).2.trans f_m_by
  replace f_m_ho := (hs.o gm trivial rfl).2.trans f_m_ho
  replace f_m_fc := (hs.o gm trivial rfl).2.trans f_m_fc
  replace f_m_nt := (hs.o gm trivial rfl).2.trans f_m_nt
  replace f_m_wt := (hs.o gm trivial rfl).2.trans f_m_wt
  replace f_m_be := (hs.o gm trivial rfl).2.trans f_m_be
  replace f_m_bor := (hs.o gm trivial rfl).2.trans f_m_bor
  replace f_m_kin := (hs.o gm trivial rfl).2.trans f_m_kin
  replace f_m_sum := (hs.o gm trivial rfl).2.trans f_m_sum
  replace f_m_fro := (hs.o gm trivial rfl).2.trans f_m_fro
  replace f_m_fil := (hs.o gm trivial rfl).2.trans f_m_fil
  replace f_m_jud := (hs.o gm trivial rfl).2.trans f_m_jud
  replace f_m_ear := (hs.o gm trivial rfl).2.trans f_m_ear
  replace f_m_hds := (hs.o gm trivial rfl).2.trans f_m_hds
  replace f_m_ord := (hs.o gm trivial rfl).2.trans f_m_ord
  replace f_m_wkl := (hs.o gm trivial rfl).2.trans f_m_wkl
  replace f_m_owd := (hs.o gm trivial rfl).2.trans f_m_owd
  replace f_m_gds := (hs.o gm trivial rfl).2.trans f_m_gds
  replace f_m_szd := (hs.o gm trivial rfl).2.trans f_m_szd
  replace f_m_srv := (hs.o gm trivial rfl).2.trans f_m_srv
  replace f_y_p0 := (hs.o g_qo_py trivial rfl).2.trans f_y_p0
  replace f_m_p0 := (hs.o gm trivial rfl).2.trans f_m_p0
  replace f_y_p1 := (hs.o g_qo_py trivial rfl).2.trans f_y_p1
  replace f_m_p1 := (hs.o gm trivial rfl).2.trans f_m_p1
  replace f_y_p2 := (hs.o g_qo_py trivial rfl).2.trans f_y_p2
  replace f_m_p2 := (hs.o gm trivial rfl).2.trans f_m_p2
  replace f_y_p3 := (hs.o g_qo_py trivial rfl).2.trans f_y_p3
  replace f_m_p3 := (hs.o gm trivial rfl).2.trans f_m_p3
  replace f_y_p4 := (hs.o g_qo_py trivial rfl).2.trans f_y_p4
  replace f_m_p4 := (hs.o gm trivial rfl).2.trans f_m_p4
  replace f_qrg9 := (hs.o gx trivial rfl).2.trans f_qrg9
  replace f_y_ls := (hs.o g_qrg9 trivial rfl).2.trans f_y_ls
  replace f_m_rl := (hs.o gm trivial rfl).2.trans f_m_rl
  replace ffv_59 := (hs.o g_qrg9 trivial rfl).1.trans ffv_59
  replace ffv_60 := (hs.o gm trivial rfl).1.trans ffv_60
  replace ffv_61 := (hs.o gm trivial rfl).1.trans ffv_61
  replace fw_70 := (hs.o gx trivial rfl).1.trans fw_70
  replace pf_qa : ∀ j : Nat, (j : Int) < (h_74.2.1 ax 6).toInt → h_74.2.2 qa j ≠ none := by
    intro j hj; rw [(hs.o gx trivial rfl).1] at hj; rw [(hs.a g_qa rfl j).2]; exact pf_qa j hj
  replace pf_qp : ∀ j : Nat, (j : Int) < (h_74.2.1 ax 8).toInt → h_74.2.2 qp j ≠ none := by
    intro j hj; rw [(hs.o gx trivial rfl).1] at hj; rw [(hs.a g_qp rfl j).2]; exact pf_qp j hj
  replace pf_qc : ∀ j : Nat, (j : Int) < (h_74.2.1 ax 11).toInt → h_74.2.2 qc j ≠ none := by
    intro j hj; rw [(hs.o gx trivial rfl).1] at hj; rw [(hs.a g_qc rfl j).2]; exact pf_qc j hj
  replace pf_qh : ∀ j : Nat, (j : Int) < (h_74.2.1 ax 13).toInt → h_74.2.2 qh j ≠ none := by
    intro j hj; rw [(hs.o gx trivial rfl).1] at hj; rw [(hs.a g_qh rfl j).2]; exact pf_qh j hj
  replace pf_ql : ∀ j : Nat, (j : Int) < (h_74.2.1 qw 0).toInt → h_74.2.2 ql j ≠ none := by
    intro j hj; rw [(hs.o g_qw trivial rfl).1] at hj; rw [(hs.a g_ql rfl j).2]; exact pf_ql j hj
  replace cl_lst : hx_col 8 h_74 ql 0 = c_lst := (hx_col_S hs hTo g_ql tt_40 tt_2 rfl rfl).trans cl_lst
  replace cl_dead : hx_col 40 h_74 qp 7 = c_dead := (hx_col_S hs hTo g_qp tt_44 tt_4 rfl rfl).trans cl_dead
  replace cl_isj : hx_col 40 h_74 qp 8 = c_isj := (hx_col_S hs hTo g_qp tt_44 tt_4 rfl rfl).trans cl_isj
  replace cl_dox : hx_col 40 h_74 qp 5 = c_dox := (hx_col_S hs hTo g_qp tt_44 tt_4 rfl rfl).trans cl_dox
  replace cl_doy : hx_col 40 h_74 qp 6 = c_doy := (hx_col_S hs hTo g_qp tt_44 tt_4 rfl rfl).trans cl_doy
  replace cl_fou : hx_col 100 h_74 qc 10 = c_fou := (hx_col_S hs hTo g_qc tt_45 tt_2 rfl rfl).trans cl_fou
  replace cl_tri : hx_col 100 h_74 qc 9 = c_tri := (hx_col_S hs hTo g_qc tt_45 tt_2 rfl rfl).trans cl_tri
  replace cl_bor : hx_col 40 h_74 qp 1 = F_bor := (hx_col_S hs hTo g_qp tt_44 tt_4 rfl rfl).trans cl_bor
  replace cl_kin : hx_col 40 h_74 qp 2 = F_kin := (hx_col_S hs hTo g_qp tt_44 tt_4 rfl rfl).trans cl_kin
  replace cl_sum : hx_col 100 h_74 qc 6 = F_sum := (hx_col_S hs hTo g_qc tt_45 tt_2 rfl rfl).trans cl_sum
  replace cl_fro : hx_col 100 h_74 qc 7 = F_fro := (hx_col_S hs hTo g_qc tt_45 tt_2 rfl rfl).trans cl_fro
  replace cl_fil : hx_col 100 h_74 qc 8 = F_fil := (hx_col_S hs hTo g_qc tt_45 tt_2 rfl rfl).trans cl_fil
  replace cl_hea : hx_col 100 h_74 qc 11 = F_mh := (hx_col_S hs hTo g_qc tt_45 tt_2 rfl rfl).trans cl_hea
  replace cl_jud : hx_col 100 h_74 qc 12 = F_jud := (hx_col_S hs hTo g_qc tt_45 tt_2 rfl rfl).trans cl_jud
  replace cl_ear : hx_col 40 h_74 qp 3 = F_ear := (hx_col_S hs hTo g_qp tt_44 tt_4 rfl rfl).trans cl_ear
  replace cl_hds : hx_col 40 h_74 qp 4 = F_hds := (hx_col_S hs hTo g_qp tt_44 tt_4 rfl rfl).trans cl_hds
  replace cl_ord : hx_col 100 h_74 qc 13 = F_ord := (hx_col_S hs hTo g_qc tt_45 tt_2 rfl rfl).trans cl_ord
  replace cl_wkl : hx_col 100 h_74 qc 14 = F_wkl := (hx_col_S hs hTo g_qc tt_45 tt_2 rfl rfl).trans cl_wkl
  replace cl_owd : hx_col 100 h_74 qc 15 = F_owd := (hx_col_S hs hTo g_qc tt_45 tt_2 rfl rfl).trans cl_owd
  replace cl_gds : hx_col 100 h_74 qc 17 = F_gds := (hx_col_S hs hTo g_qc tt_45 tt_2 rfl rfl).trans cl_gds
  replace cl_szd : hx_col 100 h_74 qc 16 = F_szd := (hx_col_S hs hTo g_qc tt_45 tt_2 rfl rfl).trans cl_szd
  replace cl_srv : hx_col 100 h_74 qc 18 = F_srv := (hx_col_S hs hTo g_qc tt_45 tt_2 rfl rfl).trans cl_srv
  replace nu_qp : hx_num 40 h_74 qp 0 (np.toInt) := hx_num_S hs hTo g_qp tt_44 tt_4 rfl rfl nu_qp
  replace nu_qc : hx_num 100 h_74 qc 0 (c0.toInt) := hx_num_S hs hTo g_qc tt_45 tt_2 rfl rfl nu_qc
  replace sb_list : hx_LQ 8 100 h_74 ql qc := hx_LQ_S hs g_ql g_qc rfl rfl sb_list
  replace hDF : hw_DF h_74 qc qp 2 F_aga c0.toInt := hw_DF_S hs hTo g_qc g_qp tt_45 tt_2 rfl rfl rfl hDF
  replace hRA9 : hv_RA h_74 qa qwo a0.toInt A9 := hv_RA_S hs hTo g_qa g_qwo tt_43 tt_0 rfl rfl rfl rfl rfl rfl ?o29 hRA9
  case o29 => omega
  replace hDP : hw_DF h_74 qc qp 1 F_by c0.toInt := hw_DF_S hs hTo g_qc g_qp tt_45 tt_2 rfl rfl rfl hDP
  replace hAC9 : hv_AC h_74 qc F_ml c0.toInt A9 := hv_AC_S hs hTo g_qc tt_45 tt_2 rfl tt_0 rfl rfl rfl rfl rfl rfl rfl hAC9
  replace hFX : hv_FX 8 4 h_74 qc cF9L c0.toInt := hv_FX_S hs hTo g_qc tt_45 tt_2 rfl rfl rfl rfl hFX
  replace hBX : hv_FX 3 5 h_74 qc F_be c0.toInt := hv_FX_S hs hTo g_qc tt_45 tt_2 rfl rfl rfl rfl hBX
  replace hHL : hv_HL h_74 qh qc F_ho m0.toInt c0.toInt := hv_HL_S hs g_qh g_qc rfl rfl hHL
  replace n_mw : h_74.2.1 mw = F_mw := (funext fun j => (hs.a g_mw rfl j).1).trans n_mw
  replace n_mr : h_74.2.1 mr = F_mr := (funext fun j => (hs.a g_mr rfl j).1).trans n_mr
  replace n_mp : h_74.2.1 mp = F_mp := (funext fun j => (hs.a g_mp rfl j).1).trans n_mp
  replace n_mn : h_74.2.1 mn = F_mn := (funext fun j => (hs.a g_mn rfl j).1).trans n_mn
  replace n_ml : h_74.2.1 ml = F_ml := (funext fun j => (hs.a g_ml rfl j).1).trans n_ml
  replace n_mh : h_74.2.1 mh = F_mh := (funext fun j => (hs.a g_mh rfl j).1).trans n_mh
  replace n_mt : h_74.2.1 mt = F_mt := (funext fun j => (hs.a g_mt rfl j).1).trans n_mt
  replace n_m_fou : h_74.2.1 m_fou = F_m_fou := (funext fun j => (hs.a g_m_fou rfl j).1).trans n_m_fou
  replace n_b_of : h_74.2.1 b_of = B_of := (funext fun j => (hs.a g_b_of rfl j).1).trans n_b_of
  replace n_m_of : h_74.2.1 m_of = F_of := (funext fun j => (hs.a g_m_of rfl j).1).trans n_m_of
  replace n_b_wf : h_74.2.1 b_wf = B_wf := (funext fun j => (hs.a g_b_wf rfl j).1).trans n_b_wf
  replace n_m_wf : h_74.2.1 m_wf = F_wf := (funext fun j => (hs.a g_m_wf rfl j).1).trans n_m_wf
  replace n_b_df : h_74.2.1 b_df = B_df := (funext fun j => (hs.a g_b_df rfl j).1).trans n_b_df
  replace n_m_df : h_74.2.1 m_df = F_df := (funext fun j => (hs.a g_m_df rfl j).1).trans n_m_df
  replace n_b_kf : h_74.2.1 b_kf = B_kf := (funext fun j => (hs.a g_b_kf rfl j).1).trans n_b_kf
  replace n_m_kf : h_74.2.1 m_kf = F_kf := (funext fun j => (hs.a g_m_kf rfl j).1).trans n_m_kf
  replace n_b_sf : h_74.2.1 b_sf = B_sf := (funext fun j => (hs.a g_b_sf rfl j).1).trans n_b_sf
  replace n_m_sf : h_74.2.1 m_sf = F_sf := (funext fun j => (hs.a g_m_sf rfl j).1).trans n_m_sf
  replace n_b_bf : h_74.2.1 b_bf = bfL := (funext fun j => (hs.a g_b_bf rfl j).1).trans n_b_bf
  replace n_lst : h_74.2.1 m_lst = F_lst := (funext fun j => (hs.a g_m_lst rfl j).1).trans n_lst
  replace n_tp : h_74.2.1 m_tp = F_tp := (funext fun j => (hs.a g_m_tp rfl j).1).trans n_tp
  replace n_qtp : h_74.2.1 qtp = F_tp := (funext fun j => (hs.a g_qtp rfl j).1).trans n_qtp
  replace n_dead : h_74.2.1 m_dead = F_dead := (funext fun j => (hs.a g_m_dead rfl j).1).trans n_dead
  replace n_isj : h_74.2.1 m_isj = F_isj := (funext fun j => (hs.a g_m_isj rfl j).1).trans n_isj
  replace n_dox : h_74.2.1 m_dox = F_dox := (funext fun j => (hs.a g_m_dox rfl j).1).trans n_dox
  replace n_doy : h_74.2.1 m_doy = F_doy := (funext fun j => (hs.a g_m_doy rfl j).1).trans n_doy
  replace n_qlt : h_74.2.1 qlt = F_qlt := (funext fun j => (hs.a g_qlt rfl j).1).trans n_qlt
  replace n_m_wkd : h_74.2.1 m_wkd = F_m_wkd := (funext fun j => (hs.a g_m_wkd rfl j).1).trans n_m_wkd
  replace n_aga : h_74.2.1 m_aga = F_aga := (funext fun j => (hs.a g_m_aga rfl j).1).trans n_aga
  replace n_ad : h_74.2.1 m_ad = F_ad := (funext fun j => (hs.a g_m_ad rfl j).1).trans n_ad
  replace n_by : h_74.2.1 m_by = F_by := (funext fun j => (hs.a g_m_by rfl j).1).trans n_by
  replace n_ho : h_74.2.1 m_ho = F_ho := (funext fun j => (hs.a g_m_ho rfl j).1).trans n_ho
  replace n_fc : h_74.2.1 m_fc = F_fc := (funext fun j => (hs.a g_m_fc rfl j).1).trans n_fc
  replace n_nt : h_74.2.1 m_nt = F_nt := (funext fun j => (hs.a g_m_nt rfl j).1).trans n_nt
  replace n_wt : h_74.2.1 m_wt = F_wt := (funext fun j => (hs.a g_m_wt rfl j).1).trans n_wt
  replace n_be : h_74.2.1 m_be = F_be := (funext fun j => (hs.a g_m_be rfl j).1).trans n_be
  replace n_bor : h_74.2.1 m_bor = F_bor := (funext fun j => (hs.a g_m_bor rfl j).1).trans n_bor
  replace n_kin : h_74.2.1 m_kin = F_kin := (funext fun j => (hs.a g_m_kin rfl j).1).trans n_kin
  replace n_sum : h_74.2.1 m_sum = F_sum := (funext fun j => (hs.a g_m_sum rfl j).1).trans n_sum
  replace n_fro : h_74.2.1 m_fro = F_fro := (funext fun j => (hs.a g_m_fro rfl j).1).trans n_fro
  replace n_fil : h_74.2.1 m_fil = F_fil := (funext fun j => (hs.a g_m_fil rfl j).1).trans n_fil
  replace n_jud : h_74.2.1 m_jud = F_jud := (funext fun j => (hs.a g_m_jud rfl j).1).trans n_jud
  replace n_ear : h_74.2.1 m_ear = F_ear := (funext fun j => (hs.a g_m_ear rfl j).1).trans n_ear
  replace n_hds : h_74.2.1 m_hds = F_hds := (funext fun j => (hs.a g_m_hds rfl j).1).trans n_hds
  replace n_ord : h_74.2.1 m_ord = F_ord := (funext fun j => (hs.a g_m_ord rfl j).1).trans n_ord
  replace n_wkl : h_74.2.1 m_wkl = F_wkl := (funext fun j => (hs.a g_m_wkl rfl j).1).trans n_wkl
  replace n_owd : h_74.2.1 m_owd = F_owd := (funext fun j => (hs.a g_m_owd rfl j).1).trans n_owd
  replace n_gds : h_74.2.1 m_gds = F_gds := (funext fun j => (hs.a g_m_gds rfl j).1).trans n_gds
  replace n_szd : h_74.2.1 m_szd = F_szd := (funext fun j => (hs.a g_m_szd rfl j).1).trans n_szd
  replace n_srv : h_74.2.1 m_srv = F_srv := (funext fun j => (hs.a g_m_srv rfl j).1).trans n_srv
  replace n_p0 : h_74.2.1 m_p0 = F_p0 := (funext fun j => (hs.a g_m_p0 rfl j).1).trans n_p0
  replace n_y_p0 : h_74.2.1 y_p0 = F_p0 := (funext fun j => (hs.a g_y_p0 rfl j).1).trans n_y_p0
  replace n_p1 : h_74.2.1 m_p1 = F_p1 := (funext fun j => (hs.a g_m_p1 rfl j).1).trans n_p1
  replace n_y_p1 : h_74.2.1 y_p1 = F_p1 := (funext fun j => (hs.a g_y_p1 rfl j).1).trans n_y_p1
  replace n_p2 : h_74.2.1 m_p2 = F_p2 := (funext fun j => (hs.a g_m_p2 rfl j).1).trans n_p2
  replace n_y_p2 : h_74.2.1 y_p2 = F_p2 := (funext fun j => (hs.a g_y_p2 rfl j).1).trans n_y_p2
  replace n_p3 : h_74.2.1 m_p3 = F_p3 := (funext fun j => (hs.a g_m_p3 rfl j).1).trans n_p3
  replace n_y_p3 : h_74.2.1 y_p3 = F_p3 := (funext fun j => (hs.a g_y_p3 rfl j).1).trans n_y_p3
  replace n_p4 : h_74.2.1 m_p4 = F_p4 := (funext fun j => (hs.a g_m_p4 rfl j).1).trans n_p4
  replace n_y_p4 : h_74.2.1 y_p4 = F_p4 := (funext fun j => (hs.a g_y_p4 rfl j).1).trans n_y_p4
  replace n_y_ls : h_74.2.1 y_ls = F_y_ls := (funext fun j => (hs.a g_y_ls rfl j).1).trans n_y_ls
  replace n_m_rl : h_74.2.1 m_rl = F_m_rl := (funext fun j => (hs.a g_m_rl rfl j).1).trans n_m_rl
  replace gx := gx.S hs
  replace gm := gm.S hs
  replace g_qa := g_qa.S hs
  replace g_qp := g_qp.S hs
  replace g_qc := g_qc.S hs
  replace g_qh := g_qh.S hs
  replace g_qw := g_qw.S hs
  replace g_ql := g_ql.S hs
  replace g_mw := g_mw.S hs
  replace g_mr := g_mr.S hs
  replace g_mp := g_mp.S hs
  replace g_mn := g_mn.S hs
  replace g_ml := g_ml.S hs
  replace g_mh := g_mh.S hs
  replace g_mt := g_mt.S hs
  replace g_m_fou := g_m_fou.S hs
  replace g_qo_ln := g_qo_ln.S hs
  replace g_qo_py := g_qo_py.S hs
  replace g_b_of := g_b_of.S hs
  replace g_m_of := g_m_of.S hs
  replace g_b_wf := g_b_wf.S hs
  replace g_m_wf := g_m_wf.S hs
  replace g_b_df := g_b_df.S hs
  replace g_m_df := g_m_df.S hs
  replace g_b_kf := g_b_kf.S hs
  replace g_m_kf := g_m_kf.S hs
  replace g_b_sf := g_b_sf.S hs
  replace g_m_sf := g_m_sf.S hs
  replace g_b_bf := g_b_bf.S hs
  replace g_m_lst := g_m_lst.S hs
  replace g_qtp := g_qtp.S hs
  replace g_m_tp := g_m_tp.S hs
  replace g_m_dead := g_m_dead.S hs
  replace g_m_isj := g_m_isj.S hs
  replace g_m_dox := g_m_dox.S hs
  replace g_m_doy := g_m_doy.S hs
  replace g_qlt := g_qlt.S hs
  replace g_qlf := g_qlf.S hs
  replace g_m_wkd := g_m_wkd.S hs
  replace g_m_aga := g_m_aga.S hs
  replace g_qwo := g_qwo.S hs
  replace g_m_ad := g_m_ad.S hs
  replace g_m_by := g_m_by.S hs
  replace g_m_ho := g_m_ho.S hs
  replace g_m_fc := g_m_fc.S hs
  replace g_m_nt := g_m_nt.S hs
  replace g_m_wt := g_m_wt.S hs
  replace g_m_be := g_m_be.S hs
  replace g_m_bor := g_m_bor.S hs
  replace g_m_kin := g_m_kin.S hs
  replace g_m_sum := g_m_sum.S hs
  replace g_m_fro := g_m_fro.S hs
  replace g_m_fil := g_m_fil.S hs
  replace g_m_jud := g_m_jud.S hs
  replace g_m_ear := g_m_ear.S hs
  replace g_m_hds := g_m_hds.S hs
  replace g_m_ord := g_m_ord.S hs
  replace g_m_wkl := g_m_wkl.S hs
  replace g_m_owd := g_m_owd.S hs
  replace g_m_gds := g_m_gds.S hs
  replace g_m_szd := g_m_szd.S hs
  replace g_m_srv := g_m_srv.S hs
  replace g_y_p0 := g_y_p0.S hs
  replace g_m_p0 := g_m_p0.S hs
  replace g_y_p1 := g_y_p1.S hs
  replace g_m_p1 := g_m_p1.S hs
  replace g_y_p2 := g_y_p2.S hs
  replace g_m_p2 := g_m_p2.S hs
  replace g_y_p3 := g_y_p3.S hs
  replace g_m_p3 := g_m_p3.S hs
  replace g_y_p4 := g_y_p4.S hs
  replace g_m_p4 := g_m_p4.S hs
  replace g_qrg9 := g_qrg9.S hs
  replace g_y_ls := g_y_ls.S hs
  replace g_m_rl := g_m_rl.S hs
  have fw_78 : h_74.2.1 am 7 = w_78 := fw_78
  have bw_78 := hT.gi gm tt_10 (k := 7) rfl
  rw [fw_78] at bw_78
  have bw_78 : 0 ≤ w_78.toInt ∧ w_78.toInt ≤ 400 := bw_78
  refine lv_pop hx hb dL_law_277 rfl ?_
  refine lv_goto (tgt := 1379) hx hb dL_law_278 ?o30 ?_
  case o30 => decide
  obtain ⟨heqr, hq_tl⟩ := hv_EN_eq hr_69 hr_77; have heq := congrArg Int32.toInt heqr
  refine W.widen (k := CC + 3) (n := SS + 179) ?o31 ?o32 ?_
  case o31 => omega
  case o32 => omega
  refine kk L_73 h_74 H locs ls hW ⟨hT, gx, gm, ⟨f_x_now.trans f_m_now.symm, f_x_personCount.trans f_m_persons.symm, f_x_claimCount.trans f_m_claims.symm, (fw_70.trans hq_tl).trans fw_78.symm, f_x_actCount.trans f_m_acts.symm, f_x_heardCount.trans f_m_heardMany.symm, hx_ob f_qo_ln (f_o_ln.trans f_m_lines.symm), hx_ob f_qw (f_o_lsd.trans f_m_listed.symm), hx_ob f_qw (f_o_wkm.trans f_m_walkedMany.symm), hx_ob f_qo_py (f_o_py.trans f_m_payments.symm), hx_ob f_qp ?o33, hx_ob f_qc ?o34, (fun b a r hb ha hr => ?o35), (fun b a r hb ha hr => ?o36), (fun b a r hb ha hr => ?o37), (fun b a r hb ha hr => ?o38), (fun b a r hb ha hr => ?o39), (fun b a r hb ha hr => ?o40), (fun w q c hw hq hc => ?o41), (fun w q r hw hq hr => ?o42), (fun w q r hw hq hr => ?o43), (fun c q a hc hq ha => ?o44), (fun q r hq hr => ?o45), (fun q w a b c d e p hq hw ha hb hc hd he hp => ?o46), (fun c q a hc hq ha => ?o47), (fun q c a hq hc ha => ?o48), (fun a b ha hb => ?o49), (fun c a b d e f hc ha hb hd he hf => ?o50), (fun c a hc ha => ?o51), hx_ob2 f_qp f_m_bor (cl_bor.trans n_bor.symm), hx_ob2 f_qp f_m_kin (cl_kin.trans n_kin.symm), hx_ob2 f_qc f_m_sum (cl_sum.trans n_sum.symm), hx_ob2 f_qc f_m_fro (cl_fro.trans n_fro.symm), hx_ob2 f_qc f_m_fil (cl_fil.trans n_fil.symm), hx_ob2 f_qc f_mh (cl_hea.trans n_mh.symm), hx_ob2 f_qc f_m_jud (cl_jud.trans n_jud.symm), hx_ob2 f_qp f_m_ear (cl_ear.trans n_ear.symm), hx_ob2 f_qp f_m_hds (cl_hds.trans n_hds.symm), hx_ob2 f_qc f_m_ord (cl_ord.trans n_ord.symm), hx_ob2 f_qc f_m_wkl (cl_wkl.trans n_wkl.symm), hx_ob2 f_qc f_m_owd (cl_owd.trans n_owd.symm), hx_ob2 f_qc f_m_gds (cl_gds.trans n_gds.symm), hx_ob2 f_qc f_m_szd (cl_szd.trans n_szd.symm), hx_ob2 f_qc f_m_srv (cl_srv.trans n_srv.symm), (fun p q r hp hq hr => ?o52), (fun p q r hp hq hr => ?o53), (fun p q r hp hq hr => ?o54), (fun p q r hp hq hr => ?o55), (fun p q r hp hq hr => ?o56), (fun p hp => ?o57), (fun p q r hp hq hr => ?o58), hx_ob2 f_qp f_m_dead ?o59, hx_ob2 f_qp f_m_isj ?o60, hx_ob2 f_qp f_m_dox ?o61, hx_ob2 f_qp f_m_doy ?o62, hx_ob2 f_qc f_m_fou ?o63, hx_ob2 f_qc f_mt ?o64, trivial⟩, ⟨hx_ob f_qa pf_qa, hx_ob f_qp pf_qp, hx_ob f_qc pf_qc, hx_ob f_qh pf_qh, (fun w q hw hq => ?o65)⟩, ⟨hx_ob f_mw ?o66, hx_ob f_mr ?o67, hx_ob2 f_mp f_mn ?o68, hx_ob f_ml ?o69, hx_ob f_mh ?o70, hx_ob f_mt ?o71, hx_ob2 f_mh f_m_fou ?o73⟩⟩ hl
  case o33 =>
    rw [f_x_personCount]
    exact nu_qp
  case o34 =>
    rw [f_x_claimCount]
    exact nu_qc
  case o35 =>
    obtain rfl : qo_ln = b := Option.some.inj (f_qo_ln.symm.trans hb)
    obtain rfl : b_of = a := Option.some.inj (f_b_of.symm.trans ha)
    obtain rfl : m_of = r := Option.some.inj (f_m_of.symm.trans hr)
    rw [n_b_of, n_m_of, f_o_ln]
    exact eb_of
  case o36 =>
    obtain rfl : qo_ln = b := Option.some.inj (f_qo_ln.symm.trans hb)
    obtain rfl : b_wf = a := Option.some.inj (f_b_wf.symm.trans ha)
    obtain rfl : m_wf = r := Option.some.inj (f_m_wf.symm.trans hr)
    rw [n_b_wf, n_m_wf, f_o_ln]
    exact eb_wf
  case o37 =>
    obtain rfl : qo_ln = b := Option.some.inj (f_qo_ln.symm.trans hb)
    obtain rfl : b_df = a := Option.some.inj (f_b_df.symm.trans ha)
    obtain rfl : m_df = r := Option.some.inj (f_m_df.symm.trans hr)
    rw [n_b_df, n_m_df, f_o_ln]
    exact eb_df
  case o38 =>
    obtain rfl : qo_ln = b := Option.some.inj (f_qo_ln.symm.trans hb)
    obtain rfl : b_kf = a := Option.some.inj (f_b_kf.symm.trans ha)
    obtain rfl : m_kf = r := Option.some.inj (f_m_kf.symm.trans hr)
    rw [n_b_kf, n_m_kf, f_o_ln]
    exact eb_kf
  case o39 =>
    obtain rfl : qo_ln = b := Option.some.inj (f_qo_ln.symm.trans hb)
    obtain rfl : b_sf = a := Option.some.inj (f_b_sf.symm.trans ha)
    obtain rfl : m_sf = r := Option.some.inj (f_m_sf.symm.trans hr)
    rw [n_b_sf, n_m_sf, f_o_ln]
    exact eb_sf
  case o40 =>
    obtain rfl : qo_ln = b := Option.some.inj (f_qo_ln.symm.trans hb)
    obtain rfl : b_df = a := Option.some.inj (f_b_df.symm.trans ha)
    obtain rfl : b_bf = r := Option.some.inj (f_b_bf.symm.trans hr)
    rw [n_b_df, n_b_bf, f_o_ln]
    exact ⟨hBD, hDY⟩
  case o41 =>
    obtain rfl : qw = w := Option.some.inj (f_qw.symm.trans hw)
    obtain rfl : ql = q := Option.some.inj (f_ql.symm.trans hq)
    obtain rfl : qc = c := Option.some.inj (f_qc.symm.trans hc)
    exact sb_list
  case o42 =>
    obtain rfl : qw = w := Option.some.inj (f_qw.symm.trans hw)
    obtain rfl : ql = q := Option.some.inj (f_ql.symm.trans hq)
    obtain rfl : m_lst = r := Option.some.inj (f_m_lst.symm.trans hr)
    rw [cl_lst, n_lst]
    exact eq_lst
  case o43 =>
    obtain rfl : qw = w := Option.some.inj (f_qw.symm.trans hw)
    obtain rfl : qlt = q := Option.some.inj (f_qlt.symm.trans hq)
    obtain rfl : m_wkd = r := Option.some.inj (f_m_wkd.symm.trans hr)
    rw [n_qlt, n_m_wkd, f_o_wkm]
    exact eb_wkd
  case o44 =>
    obtain rfl : qc = c := Option.some.inj (f_qc.symm.trans hc)
    obtain rfl : qp = q := Option.some.inj (f_qp.symm.trans hq)
    obtain rfl : m_aga = a := Option.some.inj (f_m_aga.symm.trans ha)
    rw [n_aga, f_x_claimCount]
    exact hw_DF_e hDF rfl rfl
  case o45 =>
    obtain rfl : qtp = q := Option.some.inj (f_qtp.symm.trans hq)
    obtain rfl : m_tp = r := Option.some.inj (f_m_tp.symm.trans hr)
    exact n_qtp.trans n_tp.symm
  case o46 =>
    obtain rfl : qa = q := Option.some.inj (f_qa.symm.trans hq)
    obtain rfl : qwo = w := Option.some.inj (f_qwo.symm.trans hw)
    obtain rfl : m_ad = a := Option.some.inj (f_m_ad.symm.trans ha)
    obtain rfl : mr = b := Option.some.inj (f_mr.symm.trans hb)
    obtain rfl : mn = c := Option.some.inj (f_mn.symm.trans hc)
    obtain rfl : mp = d := Option.some.inj (f_mp.symm.trans hd)
    obtain rfl : qc = e := Option.some.inj (f_qc.symm.trans he)
    obtain rfl : ml = p := Option.some.inj (f_ml.symm.trans hp)
    exact ⟨_, by rw [f_x_actCount]; exact hRA9, by rw [f_x_actCount, n_ad, n_mr, n_mn, n_mp]; exact hCA9, by rw [n_ml, f_x_claimCount]; exact hv_AC_e hAC9 rfl rfl rfl, hAB⟩
  case o47 =>
    obtain rfl : qc = c := Option.some.inj (f_qc.symm.trans hc)
    obtain rfl : qp = q := Option.some.inj (f_qp.symm.trans hq)
    obtain rfl : m_by = a := Option.some.inj (f_m_by.symm.trans ha)
    rw [n_by, f_x_claimCount]
    exact hw_DF_e hDP rfl rfl
  case o48 =>
    obtain rfl : qh = q := Option.some.inj (f_qh.symm.trans hq)
    obtain rfl : qc = c := Option.some.inj (f_qc.symm.trans hc)
    obtain rfl : m_ho = a := Option.some.inj (f_m_ho.symm.trans ha)
    rw [n_ho, f_x_heardCount, f_x_claimCount]
    exact hv_HL_e hHL rfl rfl rfl
  case o49 =>
    obtain rfl : m_ho = a := Option.some.inj (f_m_ho.symm.trans ha)
    obtain rfl : mh = b := Option.some.inj (f_mh.symm.trans hb)
    rw [n_ho, n_mh, f_m_heardMany, f_m_claims]
    exact hHO9
  case o50 =>
    obtain rfl : qc = c := Option.some.inj (f_qc.symm.trans hc)
    obtain rfl : m_fc = a := Option.some.inj (f_m_fc.symm.trans ha)
    obtain rfl : m_nt = b := Option.some.inj (f_m_nt.symm.trans hb)
    obtain rfl : m_wt = d := Option.some.inj (f_m_wt.symm.trans hd)
    obtain rfl : m_sum = e := Option.some.inj (f_m_sum.symm.trans he)
    obtain rfl : mh = f := Option.some.inj (f_mh.symm.trans hf)
    exact ⟨cF9L, by rw [f_x_claimCount]; exact hFX, by rw [n_fc, n_nt, n_wt, n_sum, n_mh, f_x_claimCount]; exact hFR9⟩
  case o51 =>
    obtain rfl : qc = c := Option.some.inj (f_qc.symm.trans hc)
    obtain rfl : m_be = a := Option.some.inj (f_m_be.symm.trans ha)
    rw [n_be, f_x_claimCount]
    exact hv_FX_e hBX rfl rfl
  case o52 =>
    obtain rfl : qo_py = p := Option.some.inj (f_qo_py.symm.trans hp)
    obtain rfl : y_p0 = q := Option.some.inj (f_y_p0.symm.trans hq)
    obtain rfl : m_p0 = r := Option.some.inj (f_m_p0.symm.trans hr)
    exact n_y_p0.trans n_p0.symm
  case o53 =>
    obtain rfl : qo_py = p := Option.some.inj (f_qo_py.symm.trans hp)
    obtain rfl : y_p1 = q := Option.some.inj (f_y_p1.symm.trans hq)
    obtain rfl : m_p1 = r := Option.some.inj (f_m_p1.symm.trans hr)
    exact n_y_p1.trans n_p1.symm
  case o54 =>
    obtain rfl : qo_py = p := Option.some.inj (f_qo_py.symm.trans hp)
    obtain rfl : y_p2 = q := Option.some.inj (f_y_p2.symm.trans hq)
    obtain rfl : m_p2 = r := Option.some.inj (f_m_p2.symm.trans hr)
    exact n_y_p2.trans n_p2.symm
  case o55 =>
    obtain rfl : qo_py = p := Option.some.inj (f_qo_py.symm.trans hp)
    obtain rfl : y_p3 = q := Option.some.inj (f_y_p3.symm.trans hq)
    obtain rfl : m_p3 = r := Option.some.inj (f_m_p3.symm.trans hr)
    exact n_y_p3.trans n_p3.symm
  case o56 =>
    obtain rfl : qo_py = p := Option.some.inj (f_qo_py.symm.trans hp)
    obtain rfl : y_p4 = q := Option.some.inj (f_y_p4.symm.trans hq)
    obtain rfl : m_p4 = r := Option.some.inj (f_m_p4.symm.trans hr)
    exact n_y_p4.trans n_p4.symm
  case o57 =>
    obtain rfl : qrg9 = p := Option.some.inj (f_qrg9.symm.trans hp)
    rw [ffv_59, ffv_60, ffv_61]
    exact hNQ9
  case o58 =>
    obtain rfl : qrg9 = p := Option.some.inj (f_qrg9.symm.trans hp)
    obtain rfl : y_ls = q := Option.some.inj (f_y_ls.symm.trans hq)
    obtain rfl : m_rl = r := Option.some.inj (f_m_rl.symm.trans hr)
    rw [n_y_ls, n_m_rl, ffv_59]
    exact hRL9
  case o59 =>
    rw [cl_dead, n_dead]
    exact eq_dead
  case o60 =>
    rw [cl_isj, n_isj]
    exact eq_isj
  case o61 =>
    rw [cl_dox, n_dox]
    exact eq_dox
  case o62 =>
    rw [cl_doy, n_doy]
    exact eq_doy
  case o63 =>
    rw [cl_fou, n_m_fou]
    exact eq_fou
  case o64 =>
    rw [cl_tri, n_mt]
    exact eq_tri
  case o65 =>
    obtain rfl : qw = w := Option.some.inj (f_qw.symm.trans hw)
    obtain rfl : ql = q := Option.some.inj (f_ql.symm.trans hq)
    exact pf_ql
  case o66 =>
    rw [n_mw]
    exact hwd
  case o67 =>
    rw [n_mr, f_m_acts]
    exact hWK
  case o68 =>
    rw [n_mp, n_mn, f_m_acts]
    exact hRP
  case o69 =>
    rw [n_ml, f_m_claims, f_m_acts]
    exact hPL
  case o70 =>
    rw [n_mh, f_m_heardMany, f_m_claims]
    exact hHC
  case o71 =>
    rw [n_mt]
    refine (hx_TR_le hTR ?o72)
    case o72 => omega
  case o73 =>
    rw [n_mh, n_m_fou, f_m_claims]
    exact hHF

set_option maxHeartbeats 4000000 in
set_option maxRecDepth 100000 in
theorem law_case_3 {p : Program} {e : Env} {s : State} {m : MethodId} {below : List Frame} {meth : Method} {c : Code} (l : Launch) {b LN : Nat} {xs : Nat → Int32} (hx : p.tables.exec = Jvm.exec) (hb : c.code = code) (hr : meth.sig.returnType = ret) (hlocks : meth.locks = false) (hml : c.maxLocals = 4) (hown : s.vm.findClass "SmallCourtLaw" = some m.cls) (hts : ∀ w ∈ hx_all, w.before #[Value.ref b] s = true) (hX : va_X b LN xs s s.heap) (hbl : b < s.heap.size) (hbA : ¬ s.heap.size ≤ b) (hLN : LN ≤ 3584) (dC : Nat → ClassId) (dI : Nat → Nat → Nat) (dA : Nat → ClassId) (b0 : hx_z) (ax am : Nat) (T1 : Int) (hT0 : 0 ≤ T1) (hT1 : T1 ≤ 511) (i : Int32) (hi0 : 0 ≤ i.toInt) (hiL : i.toInt + 7 ≤ LN) (CC SS : Nat) (hCC : CC + 3 ≤ 600000) (hSS : SS + 179 ≤ 7302250) (L1 : List Nat) (hl1 : hx_h) (H : Heap) (locs : List Loc) (ls : Array Slot) (hW : hx_W T_tb (P_ty dA) (dC, dI) vwCl (fun q : Nat => s.heap.size ≤ q) s.heap L1 hl1 s H locs) (hZ : hx_Xt (fun q : Nat => s.heap.size ≤ q) b0 s) (hI : hx_IV T1 ax am L1 hl1) (hl : lv_has ls 4 [(3, .int i), (2, .ref am), (1, .ref ax), (0, .ref b)]) (kk : ∀ (L2 : List Nat) (h2 : hx_h) (H2 : Heap) (locs2 : List Loc) (ls2 : Array Slot), hx_W T_tb (P_ty dA) (dC, dI) vwCl (fun q : Nat => s.heap.size ≤ q) s.heap L2 h2 s H2 locs2 → hx_IV (T1 + 1) ax am L2 h2 → lv_has ls2 4 [(3, .int i), (2, .ref am), (1, .ref ax), (0, .ref b)] → W p l e room_1 s m #[Value.ref b] below meth c H2 locs2 (CC + 3) (SS + 179) (lw_Z below #[Value.ref b] s) (F0 m 1379 ls2 [])) : W p l e room_1 s m #[Value.ref b] below meth c H locs CC SS (lw_Z below #[Value.ref b] s) (F0 m 281 ls []) := by
  have hI9 := hI
  have hT := hI9.1
  replace hI9 := hI9.2
  have gx := hI9.1
  replace hI9 := hI9.2
  have gm := hI9.1
  replace hI9 := hI9.2
  have zq0_3 := hI9.1
  have he_nw := zq0_3.1
  replace zq0_3 := zq0_3.2
  have he_np := zq0_3.1
  replace zq0_3 := zq0_3.2
  have he_c0 := zq0_3.1
  replace zq0_3 := zq0_3.2
  have he_tl := zq0_3.1
  replace zq0_3 := zq0_3.2
  have he_a0 := zq0_3.1
  replace zq0_3 := zq0_3.2
  have he_m0 := zq0_3.1
  replace zq0_3 := zq0_3.2
  have ho_ln := zq0_3.1
  replace zq0_3 := zq0_3.2
  have ho_lsd := zq0_3.1
  replace zq0_3 := zq0_3.2
  have ho_wkm := zq0_3.1
  replace zq0_3 := zq0_3.2
  have ho_py := zq0_3.1
  replace zq0_3 := zq0_3.2
  have hn_qp := zq0_3.1
  replace zq0_3 := zq0_3.2
  have hn_qc := zq0_3.1
  replace zq0_3 := zq0_3.2
  have hk_of := zq0_3.1
  replace zq0_3 := zq0_3.2
  have hk_wf := zq0_3.1
  replace zq0_3 := zq0_3.2
  have hk_df := zq0_3.1
  replace zq0_3 := zq0_3.2
  have hk_kf := zq0_3.1
  replace zq0_3 := zq0_3.2
  have hk_sf := zq0_3.1
  replace zq0_3 := zq0_3.2
  have hkBD := zq0_3.1
  replace zq0_3 := zq0_3.2
  have hLQ := zq0_3.1
  replace zq0_3 := zq0_3.2
  have hLE := zq0_3.1
  replace zq0_3 := zq0_3.2
  have hkWD := zq0_3.1
  replace zq0_3 := zq0_3.2
  have hkDF := zq0_3.1
  replace zq0_3 := zq0_3.2
  have hkTP := zq0_3.1
  replace zq0_3 := zq0_3.2
  have hkAC := zq0_3.1
  replace zq0_3 := zq0_3.2
  have hkDP := zq0_3.1
  replace zq0_3 := zq0_3.2
  have hkHL := zq0_3.1
  replace zq0_3 := zq0_3.2
  have hkHO := zq0_3.1
  replace zq0_3 := zq0_3.2
  have hkFX := zq0_3.1
  replace zq0_3 := zq0_3.2
  have hkBX := zq0_3.1
  replace zq0_3 := zq0_3.2
  have hf_bor := zq0_3.1
  replace zq0_3 := zq0_3.2
  have hf_kin := zq0_3.1
  replace zq0_3 := zq0_3.2
  have hf_sum := zq0_3.1
  replace zq0_3 := zq0_3.2
  have hf_fro := zq0_3.1
  replace zq0_3 := zq0_3.2
  have hf_fil := zq0_3.1
  replace zq0_3 := zq0_3.2
  have hf_hea := zq0_3.1
  replace zq0_3 := zq0_3.2
  have hf_jud := zq0_3.1
  replace zq0_3 := zq0_3.2
  have hf_ear := zq0_3.1
  replace zq0_3 := zq0_3.2
  have hf_hds := zq0_3.1
  replace zq0_3 := zq0_3.2
  have hf_ord := zq0_3.1
  replace zq0_3 := zq0_3.2
  have hf_wkl := zq0_3.1
  replace zq0_3 := zq0_3.2
  have hf_owd := zq0_3.1
  replace zq0_3 := zq0_3.2
  have hf_gds := zq0_3.1
  replace zq0_3 := zq0_3.2
  have hf_szd := zq0_3.1
  replace zq0_3 := zq0_3.2
  have hf_srv := zq0_3.1
  replace zq0_3 := zq0_3.2
  have hkP0 := zq0_3.1
  replace zq0_3 := zq0_3.2
  have hkP1 := zq0_3.1
  replace zq0_3 := zq0_3.2
  have hkP2 := zq0_3.1
  replace zq0_3 := zq0_3.2
  have hkP3 := zq0_3.1
  replace zq0_3 := zq0_3.2
  have hkP4 := zq0_3.1
  replace zq0_3 := zq0_3.2
  have hkNQ := zq0_3.1
  replace zq0_3 := zq0_3.2
  have hkRL := zq0_3.1
  replace zq0_3 := zq0_3.2
  have hc_dead := zq0_3.1
  replace zq0_3 := zq0_3.2
  have hc_isj := zq0_3.1
  replace zq0_3 := zq0_3.2
  have hc_dox := zq0_3.1
  replace zq0_3 := zq0_3.2
  have hc_doy := zq0_3.1
  replace zq0_3 := zq0_3.2
  have hc_fou := zq0_3.1
  replace zq0_3 := zq0_3.2
  have hc_tri := zq0_3.1
  replace zq0_3 := zq0_3.2
  replace hI9 := hI9.2
  have zq0_4 := hI9.1
  have ia := zq0_4.1
  replace zq0_4 := zq0_4.2
  have ip := zq0_4.1
  replace zq0_4 := zq0_4.2
  have ic := zq0_4.1
  replace zq0_4 := zq0_4.2
  have ih := zq0_4.1
  replace zq0_4 := zq0_4.2
  have il := zq0_4
  replace hI9 := hI9.2
  have zq0_5 := hI9
  have jw := zq0_5.1
  replace zq0_5 := zq0_5.2
  have jr := zq0_5.1
  replace zq0_5 := zq0_5.2
  have jp := zq0_5.1
  replace zq0_5 := zq0_5.2
  have jl := zq0_5.1
  replace zq0_5 := zq0_5.2
  have jh := zq0_5.1
  replace zq0_5 := zq0_5.2
  have jt := zq0_5.1
  replace zq0_5 := zq0_5.2
  have jf := zq0_5
  obtain ⟨qa, f_qa, g_qa⟩ := hx_rf hT gx tt_9 (k := 5) (u := 43) rfl
  have pf_qa := ia qa f_qa
  obtain ⟨qp, f_qp, g_qp⟩ := hx_rf hT gx tt_9 (k := 7) (u := 44) rfl
  have pf_qp := ip qp f_qp
  obtain ⟨qc, f_qc, g_qc⟩ := hx_rf hT gx tt_9 (k := 10) (u := 45) rfl
  have pf_qc := ic qc f_qc
  obtain ⟨qh, f_qh, g_qh⟩ := hx_rf hT gx tt_9 (k := 12) (u := 46) rfl
  have pf_qh := ih qh f_qh
  obtain ⟨qw, f_qw, g_qw⟩ := hx_rf hT gx tt_9 (k := 19) (u := 8) rfl
  obtain ⟨ql, f_ql, g_ql⟩ := hx_rf hT g_qw tt_8 (k := 3) (u := 40) rfl
  have pf_ql := il qw ql f_qw f_ql
  obtain ⟨nw, f_m_now⟩ : ∃ y : Int32, hl1.2.1 am 0 = y := ⟨_, rfl⟩
  have b_nw := hT.gi gm tt_10 (k := 0) rfl
  rw [f_m_now] at b_nw
  have b_nw : 0 ≤ nw.toInt ∧ nw.toInt ≤ 7999 := b_nw
  obtain ⟨np, f_m_persons⟩ : ∃ y : Int32, hl1.2.1 am 20 = y := ⟨_, rfl⟩
  have b_np := hT.gi gm tt_10 (k := 20) rfl
  rw [f_m_persons] at b_np
  have b_np : 0 ≤ np.toInt ∧ np.toInt ≤ 40 := b_np
  obtain ⟨c0, f_m_claims⟩ : ∃ y : Int32, hl1.2.1 am 36 = y := ⟨_, rfl⟩
  have b_c0 := hT.gi gm tt_10 (k := 36) rfl
  rw [f_m_claims] at b_c0
  have b_c0 : 0 ≤ c0.toInt ∧ c0.toInt ≤ 100 := b_c0
  obtain ⟨tl, f_m_taped⟩ : ∃ y : Int32, hl1.2.1 am 7 = y := ⟨_, rfl⟩
  have b_tl := hT.gi gm tt_10 (k := 7) rfl
  rw [f_m_taped] at b_tl
  have b_tl : 0 ≤ tl.toInt ∧ tl.toInt ≤ 400 := b_tl
  obtain ⟨a0, f_m_acts⟩ : ∃ y : Int32, hl1.2.1 am 1 = y := ⟨_, rfl⟩
  have b_a0 := hT.gi gm tt_10 (k := 1) rfl
  rw [f_m_acts] at b_a0
  have b_a0 : 0 ≤ a0.toInt ∧ a0.toInt ≤ 8 := b_a0
  obtain ⟨m0, f_m_heardMany⟩ : ∃ y : Int32, hl1.2.1 am 57 = y := ⟨_, rfl⟩
  have b_m0 := hT.gi gm tt_10 (k := 57) rfl
  rw [f_m_heardMany] at b_m0
  have b_m0 : 0 ≤ m0.toInt ∧ m0.toInt ≤ 100 := b_m0
  obtain ⟨ln, f_m_lines⟩ : ∃ y : Int32, hl1.2.1 am 29 = y := ⟨_, rfl⟩
  have b_ln := hT.gi gm tt_10 (k := 29) rfl
  rw [f_m_lines] at b_ln
  have b_ln : 0 ≤ ln.toInt ∧ ln.toInt ≤ 400 := b_ln
  obtain ⟨lsd, f_m_listed⟩ : ∃ y : Int32, hl1.2.1 am 90 = y := ⟨_, rfl⟩
  have b_lsd := hT.gi gm tt_10 (k := 90) rfl
  rw [f_m_listed] at b_lsd
  have b_lsd : 0 ≤ lsd.toInt ∧ lsd.toInt ≤ 8 := b_lsd
  obtain ⟨wkm, f_m_walkedMany⟩ : ∃ y : Int32, hl1.2.1 am 92 = y := ⟨_, rfl⟩
  have b_wkm := hT.gi gm tt_10 (k := 92) rfl
  rw [f_m_walkedMany] at b_wkm
  have b_wkm : 0 ≤ wkm.toInt ∧ wkm.toInt ≤ 8 := b_wkm
  obtain ⟨py, f_m_payments⟩ : ∃ y : Int32, hl1.2.1 am 59 = y := ⟨_, rfl⟩
  have b_py := hT.gi gm tt_10 (k := 59) rfl
  rw [f_m_payments] at b_py
  have b_py : 0 ≤ py.toInt ∧ py.toInt ≤ 600 := b_py
  have f_x_now : hl1.2.1 ax 2 = nw := he_nw.trans f_m_now
  have f_x_personCount : hl1.2.1 ax 8 = np := he_np.trans f_m_persons
  have f_x_claimCount : hl1.2.1 ax 11 = c0 := he_c0.trans f_m_claims
  have f_x_tapeLength : hl1.2.1 ax 1 = tl := he_tl.trans f_m_taped
  have f_x_actCount : hl1.2.1 ax 6 = a0 := he_a0.trans f_m_acts
  have f_x_heardCount : hl1.2.1 ax 13 = m0 := he_m0.trans f_m_heardMany
  obtain ⟨mw, f_mw, g_mw⟩ := hx_rf hT gm tt_10 (k := 19) (u := 57) rfl
  obtain ⟨F_mw, n_mw⟩ : ∃ g : Nat → Int32, hl1.2.1 mw = g := ⟨_, rfl⟩
  obtain ⟨mr, f_mr, g_mr⟩ := hx_rf hT gm tt_10 (k := 3) (u := 50) rfl
  obtain ⟨F_mr, n_mr⟩ : ∃ g : Nat → Int32, hl1.2.1 mr = g := ⟨_, rfl⟩
  obtain ⟨mp, f_mp, g_mp⟩ := hx_rf hT gm tt_10 (k := 5) (u := 52) rfl
  obtain ⟨F_mp, n_mp⟩ : ∃ g : Nat → Int32, hl1.2.1 mp = g := ⟨_, rfl⟩
  obtain ⟨mn, f_mn, g_mn⟩ := hx_rf hT gm tt_10 (k := 4) (u := 51) rfl
  obtain ⟨F_mn, n_mn⟩ : ∃ g : Nat → Int32, hl1.2.1 mn = g := ⟨_, rfl⟩
  obtain ⟨ml, f_ml, g_ml⟩ := hx_rf hT gm tt_10 (k := 44) (u := 79) rfl
  obtain ⟨F_ml, n_ml⟩ : ∃ g : Nat → Int32, hl1.2.1 ml = g := ⟨_, rfl⟩
  obtain ⟨mh, f_mh, g_mh⟩ := hx_rf hT gm tt_10 (k := 47) (u := 82) rfl
  obtain ⟨F_mh, n_mh⟩ : ∃ g : Nat → Int32, hl1.2.1 mh = g := ⟨_, rfl⟩
  obtain ⟨mt, f_mt, g_mt⟩ := hx_rf hT gm tt_10 (k := 45) (u := 80) rfl
  obtain ⟨F_mt, n_mt⟩ : ∃ g : Nat → Int32, hl1.2.1 mt = g := ⟨_, rfl⟩
  obtain ⟨m_fou, f_m_fou, g_m_fou⟩ := hx_rf hT gm tt_10 (k := 46) (u := 81) rfl
  obtain ⟨F_m_fou, n_m_fou⟩ : ∃ g : Nat → Int32, hl1.2.1 m_fou = g := ⟨_, rfl⟩
  obtain ⟨qo_ln, f_qo_ln, g_qo_ln⟩ := hx_rf hT gx tt_9 (k := 9) (u := 1) rfl
  have f_o_ln : hl1.2.1 qo_ln 0 = ln := (ho_ln qo_ln f_qo_ln).trans f_m_lines
  have f_o_lsd : hl1.2.1 qw 0 = lsd := (ho_lsd qw f_qw).trans f_m_listed
  have f_o_wkm : hl1.2.1 qw 1 = wkm := (ho_wkm qw f_qw).trans f_m_walkedMany
  obtain ⟨qo_py, f_qo_py, g_qo_py⟩ := hx_rf hT gx tt_9 (k := 14) (u := 3) rfl
  have f_o_py : hl1.2.1 qo_py 0 = py := (ho_py qo_py f_qo_py).trans f_m_payments
  have nu_qp := hn_qp qp f_qp; rw [f_x_personCount] at nu_qp
  have nu_qc := hn_qc qc f_qc; rw [f_x_claimCount] at nu_qc
  obtain ⟨b_of, f_b_of, g_b_of⟩ := hx_rf hT g_qo_ln tt_1 (k := 1) (u := 13) rfl
  obtain ⟨B_of, n_b_of⟩ : ∃ g : Nat → Int32, hl1.2.1 b_of = g := ⟨_, rfl⟩
  obtain ⟨m_of, f_m_of, g_m_of⟩ := hx_rf hT gm tt_10 (k := 30) (u := 66) rfl
  obtain ⟨F_of, n_m_of⟩ : ∃ g : Nat → Int32, hl1.2.1 m_of = g := ⟨_, rfl⟩
  have eb_of := hk_of qo_ln b_of m_of f_qo_ln f_b_of f_m_of; rw [n_b_of, n_m_of, f_o_ln] at eb_of
  obtain ⟨b_wf, f_b_wf, g_b_wf⟩ := hx_rf hT g_qo_ln tt_1 (k := 2) (u := 14) rfl
  obtain ⟨B_wf, n_b_wf⟩ : ∃ g : Nat → Int32, hl1.2.1 b_wf = g := ⟨_, rfl⟩
  obtain ⟨m_wf, f_m_wf, g_m_wf⟩ := hx_rf hT gm tt_10 (k := 31) (u := 67) rfl
  obtain ⟨F_wf, n_m_wf⟩ : ∃ g : Nat → Int32, hl1.2.1 m_wf = g := ⟨_, rfl⟩
  have eb_wf := hk_wf qo_ln b_wf m_wf f_qo_ln f_b_wf f_m_wf; rw [n_b_wf, n_m_wf, f_o_ln] at eb_wf
  obtain ⟨b_df, f_b_df, g_b_df⟩ := hx_rf hT g_qo_ln tt_1 (k := 3) (u := 15) rfl
  obtain ⟨B_df, n_b_df⟩ : ∃ g : Nat → Int32, hl1.2.1 b_df = g := ⟨_, rfl⟩
  obtain ⟨m_df, f_m_df, g_m_df⟩ := hx_rf hT gm tt_10 (k := 32) (u := 68) rfl
  obtain ⟨F_df, n_m_df⟩ : ∃ g : Nat → Int32, hl1.2.1 m_df = g := ⟨_, rfl⟩
  have eb_df := hk_df qo_ln b_df m_df f_qo_ln f_b_df f_m_df; rw [n_b_df, n_m_df, f_o_ln] at eb_df
  obtain ⟨b_kf, f_b_kf, g_b_kf⟩ := hx_rf hT g_qo_ln tt_1 (k := 4) (u := 16) rfl
  obtain ⟨B_kf, n_b_kf⟩ : ∃ g : Nat → Int32, hl1.2.1 b_kf = g := ⟨_, rfl⟩
  obtain ⟨m_kf, f_m_kf, g_m_kf⟩ := hx_rf hT gm tt_10 (k := 33) (u := 69) rfl
  obtain ⟨F_kf, n_m_kf⟩ : ∃ g : Nat → Int32, hl1.2.1 m_kf = g := ⟨_, rfl⟩
  have eb_kf := hk_kf qo_ln b_kf m_kf f_qo_ln f_b_kf f_m_kf; rw [n_b_kf, n_m_kf, f_o_ln] at eb_kf
  obtain ⟨b_sf, f_b_sf, g_b_sf⟩ := hx_rf hT g_qo_ln tt_1 (k := 5) (u := 17) rfl
  obtain ⟨B_sf, n_b_sf⟩ : ∃ g : Nat → Int32, hl1.2.1 b_sf = g := ⟨_, rfl⟩
  obtain ⟨m_sf, f_m_sf, g_m_sf⟩ := hx_rf hT gm tt_10 (k := 34) (u := 70) rfl
  obtain ⟨F_sf, n_m_sf⟩ : ∃ g : Nat → Int32, hl1.2.1 m_sf = g := ⟨_, rfl⟩
  have eb_sf := hk_sf qo_ln b_sf m_sf f_qo_ln f_b_sf f_m_sf; rw [n_b_sf, n_m_sf, f_o_ln] at eb_sf
  obtain ⟨b_bf, f_b_bf, g_b_bf⟩ := hx_rf hT g_qo_ln tt_1 (k := 6) (u := 18) rfl
  obtain ⟨bfL, n_b_bf⟩ : ∃ g : Nat → Int32, hl1.2.1 b_bf = g := ⟨_, rfl⟩
  obtain ⟨hBD, hDY⟩ := hkBD qo_ln b_df b_bf f_qo_ln f_b_df f_b_bf; rw [n_b_df, n_b_bf, f_o_ln] at hBD; rw [n_b_df, f_o_ln] at hDY
  have hBDm := hy_BD_c eb_df hBD
  have hDYm : hy_DY F_df ln.toInt.toNat := fun x hx => by rw [← eb_df x hx]; exact hDY x hx
  have sb_list := hLQ qw ql qc f_qw f_ql f_qc
  obtain ⟨m_lst, f_m_lst, g_m_lst⟩ := hx_rf hT gm tt_10 (k := 91) (u := 112) rfl
  obtain ⟨F_lst, n_lst⟩ : ∃ g : Nat → Int32, hl1.2.1 m_lst = g := ⟨_, rfl⟩
  obtain ⟨c_lst, cl_lst⟩ : ∃ g : Nat → Int32, hx_col 8 hl1 ql 0 = g := ⟨_, rfl⟩
  have eq_lst := hLE qw ql m_lst f_qw f_ql f_m_lst; rw [cl_lst, n_lst] at eq_lst
  obtain ⟨qtp, f_qtp, g_qtp⟩ := hx_rf hT gx tt_9 (k := 0) (u := 42) rfl
  obtain ⟨m_tp, f_m_tp, g_m_tp⟩ := hx_rf hT gm tt_10 (k := 6) (u := 53) rfl
  obtain ⟨F_tp, n_tp⟩ : ∃ g : Nat → Int32, hl1.2.1 m_tp = g := ⟨_, rfl⟩
  have n_qtp : hl1.2.1 qtp = F_tp := (hkTP qtp m_tp f_qtp f_m_tp).trans n_tp
  obtain ⟨c_dead, cl_dead⟩ : ∃ g : Nat → Int32, hx_col 40 hl1 qp 7 = g := ⟨_, rfl⟩
  obtain ⟨m_dead, f_m_dead, g_m_dead⟩ := hx_rf hT gm tt_10 (k := 27) (u := 64) rfl
  obtain ⟨F_dead, n_dead⟩ : ∃ g : Nat → Int32, hl1.2.1 m_dead = g := ⟨_, rfl⟩
  have eq_dead := hc_dead qp m_dead f_qp f_m_dead; rw [cl_dead, n_dead] at eq_dead
  have z_dead : np.toInt.toNat < 40 → c_dead np.toInt.toNat = 0 := fun hj => hx_num_z nu_qp cl_dead hj ?o0
  case o0 => omega
  obtain ⟨c_isj, cl_isj⟩ : ∃ g : Nat → Int32, hx_col 40 hl1 qp 8 = g := ⟨_, rfl⟩
  obtain ⟨m_isj, f_m_isj, g_m_isj⟩ := hx_rf hT gm tt_10 (k := 28) (u := 65) rfl
  obtain ⟨F_isj, n_isj⟩ : ∃ g : Nat → Int32, hl1.2.1 m_isj = g := ⟨_, rfl⟩
  have eq_isj := hc_isj qp m_isj f_qp f_m_isj; rw [cl_isj, n_isj] at eq_isj
  have z_isj : np.toInt.toNat < 40 → c_isj np.toInt.toNat = 0 := fun hj => hx_num_z nu_qp cl_isj hj ?o1
  case o1 => omega
  obtain ⟨c_dox, cl_dox⟩ : ∃ g : Nat → Int32, hx_col 40 hl1 qp 5 = g := ⟨_, rfl⟩
  obtain ⟨m_dox, f_m_dox, g_m_dox⟩ := hx_rf hT gm tt_10 (k := 24) (u := 61) rfl
  obtain ⟨F_dox, n_dox⟩ : ∃ g : Nat → Int32, hl1.2.1 m_dox = g := ⟨_, rfl⟩
  have eq_dox := hc_dox qp m_dox f_qp f_m_dox; rw [cl_dox, n_dox] at eq_dox
  have z_dox : np.toInt.toNat < 40 → c_dox np.toInt.toNat = 0 := fun hj => hx_num_z nu_qp cl_dox hj ?o2
  case o2 => omega
  obtain ⟨c_doy, cl_doy⟩ : ∃ g : Nat → Int32, hx_col 40 hl1 qp 6 = g := ⟨_, rfl⟩
  obtain ⟨m_doy, f_m_doy, g_m_doy⟩ := hx_rf hT gm tt_10 (k := 25) (u := 62) rfl
  obtain ⟨F_doy, n_doy⟩ : ∃ g : Nat → Int32, hl1.2.1 m_doy = g := ⟨_, rfl⟩
  have eq_doy := hc_doy qp m_doy f_qp f_m_doy; rw [cl_doy, n_doy] at eq_doy
  have z_doy : np.toInt.toNat < 40 → c_doy np.toInt.toNat = 0 := fun hj => hx_num_z nu_qp cl_doy hj ?o3
  case o3 => omega
  obtain ⟨c_fou, cl_fou⟩ : ∃ g : Nat → Int32, hx_col 100 hl1 qc 10 = g := ⟨_, rfl⟩
  have eq_fou := hc_fou qc m_fou f_qc f_m_fou; rw [cl_fou, n_m_fou] at eq_fou
  have z_fou : c0.toInt.toNat < 100 → c_fou c0.toInt.toNat = 0 := fun hj => hx_num_z nu_qc cl_fou hj ?o4
  case o4 => omega
  obtain ⟨c_tri, cl_tri⟩ : ∃ g : Nat → Int32, hx_col 100 hl1 qc 9 = g := ⟨_, rfl⟩
  have eq_tri := hc_tri qc mt f_qc f_mt; rw [cl_tri, n_mt] at eq_tri
  have z_tri : c0.toInt.toNat < 100 → c_tri c0.toInt.toNat = 0 := fun hj => hx_num_z nu_qc cl_tri hj ?o5
  case o5 => omega
  obtain ⟨qlt, f_qlt, g_qlt⟩ := hx_rf hT g_qw tt_8 (k := 2) (u := 39) rfl
  obtain ⟨qlf, f_qlf, g_qlf⟩ := hx_rf hT g_qw tt_8 (k := 4) (u := 41) rfl
  obtain ⟨m_wkd, f_m_wkd, g_m_wkd⟩ := hx_rf hT gm tt_10 (k := 93) (u := 113) rfl
  obtain ⟨F_qlt, n_qlt⟩ : ∃ g : Nat → Int32, hl1.2.1 qlt = g := ⟨_, rfl⟩
  obtain ⟨F_m_wkd, n_m_wkd⟩ : ∃ g : Nat → Int32, hl1.2.1 m_wkd = g := ⟨_, rfl⟩
  have eb_wkd := hkWD qw qlt m_wkd f_qw f_qlt f_m_wkd; rw [n_qlt, n_m_wkd, f_o_wkm] at eb_wkd
  obtain ⟨m_aga, f_m_aga, g_m_aga⟩ := hx_rf hT gm tt_10 (k := 38) (u := 73) rfl
  obtain ⟨F_aga, n_aga⟩ : ∃ g : Nat → Int32, hl1.2.1 m_aga = g := ⟨_, rfl⟩
  have hDF := hkDF qc qp m_aga f_qc f_qp f_m_aga; rw [n_aga, f_x_claimCount] at hDF
  obtain ⟨qwo, f_qwo, g_qwo⟩ := hx_rf hT gx tt_9 (k := 4) (u := 0) rfl
  obtain ⟨m_ad, f_m_ad, g_m_ad⟩ := hx_rf hT gm tt_10 (k := 2) (u := 49) rfl
  obtain ⟨F_ad, n_ad⟩ : ∃ g : Nat → Int32, hl1.2.1 m_ad = g := ⟨_, rfl⟩
  obtain ⟨A9, hRA9, hCA9, hAC9, hAB⟩ := hkAC qa qwo m_ad mr mn mp qc ml f_qa f_qwo f_m_ad f_mr f_mn f_mp f_qc f_ml
  rw [f_x_actCount] at hRA9; rw [f_x_actCount, n_ad, n_mr, n_mn, n_mp] at hCA9
  obtain ⟨m_by, f_m_by, g_m_by⟩ := hx_rf hT gm tt_10 (k := 37) (u := 72) rfl
  obtain ⟨F_by, n_by⟩ : ∃ g : Nat → Int32, hl1.2.1 m_by = g := ⟨_, rfl⟩
  obtain ⟨m_ho, f_m_ho, g_m_ho⟩ := hx_rf hT gm tt_10 (k := 58) (u := 92) rfl
  obtain ⟨F_ho, n_ho⟩ : ∃ g : Nat → Int32, hl1.2.1 m_ho = g := ⟨_, rfl⟩
  obtain ⟨m_fc, f_m_fc, g_m_fc⟩ := hx_rf hT gm tt_10 (k := 53) (u := 88) rfl
  obtain ⟨F_fc, n_fc⟩ : ∃ g : Nat → Int32, hl1.2.1 m_fc = g := ⟨_, rfl⟩
  obtain ⟨m_nt, f_m_nt, g_m_nt⟩ := hx_rf hT gm tt_10 (k := 41) (u := 76) rfl
  obtain ⟨F_nt, n_nt⟩ : ∃ g : Nat → Int32, hl1.2.1 m_nt = g := ⟨_, rfl⟩
  obtain ⟨m_wt, f_m_wt, g_m_wt⟩ := hx_rf hT gm tt_10 (k := 42) (u := 77) rfl
  obtain ⟨F_wt, n_wt⟩ : ∃ g : Nat → Int32, hl1.2.1 m_wt = g := ⟨_, rfl⟩
  obtain ⟨m_be, f_m_be, g_m_be⟩ := hx_rf hT gm tt_10 (k := 52) (u := 87) rfl
  obtain ⟨F_be, n_be⟩ : ∃ g : Nat → Int32, hl1.2.1 m_be = g := ⟨_, rfl⟩
  obtain ⟨m_bor, f_m_bor, g_m_bor⟩ := hx_rf hT gm tt_10 (k := 21) (u := 58) rfl
  obtain ⟨F_bor, n_bor⟩ : ∃ g : Nat → Int32, hl1.2.1 m_bor = g := ⟨_, rfl⟩
  obtain ⟨m_kin, f_m_kin, g_m_kin⟩ := hx_rf hT gm tt_10 (k := 26) (u := 63) rfl
  obtain ⟨F_kin, n_kin⟩ : ∃ g : Nat → Int32, hl1.2.1 m_kin = g := ⟨_, rfl⟩
  obtain ⟨m_sum, f_m_sum, g_m_sum⟩ := hx_rf hT gm tt_10 (k := 39) (u := 74) rfl
  obtain ⟨F_sum, n_sum⟩ : ∃ g : Nat → Int32, hl1.2.1 m_sum = g := ⟨_, rfl⟩
  obtain ⟨m_fro, f_m_fro, g_m_fro⟩ := hx_rf hT gm tt_10 (k := 40) (u := 75) rfl
  obtain ⟨F_fro, n_fro⟩ : ∃ g : Nat → Int32, hl1.2.1 m_fro = g := ⟨_, rfl⟩
  obtain ⟨m_fil, f_m_fil, g_m_fil⟩ := hx_rf hT gm tt_10 (k := 43) (u := 78) rfl
  obtain ⟨F_fil, n_fil⟩ : ∃ g : Nat → Int32, hl1.2.1 m_fil = g := ⟨_, rfl⟩
  obtain ⟨m_jud, f_m_jud, g_m_jud⟩ := hx_rf hT gm tt_10 (k := 51) (u := 86) rfl
  obtain ⟨F_jud, n_jud⟩ : ∃ g : Nat → Int32, hl1.2.1 m_jud = g := ⟨_, rfl⟩
  obtain ⟨m_ear, f_m_ear, g_m_ear⟩ := hx_rf hT gm tt_10 (k := 22) (u := 59) rfl
  obtain ⟨F_ear, n_ear⟩ : ∃ g : Nat → Int32, hl1.2.1 m_ear = g := ⟨_, rfl⟩
  obtain ⟨m_hds, f_m_hds, g_m_hds⟩ := hx_rf hT gm tt_10 (k := 23) (u := 60) rfl
  obtain ⟨F_hds, n_hds⟩ : ∃ g : Nat → Int32, hl1.2.1 m_hds = g := ⟨_, rfl⟩
  obtain ⟨m_ord, f_m_ord, g_m_ord⟩ := hx_rf hT gm tt_10 (k := 48) (u := 83) rfl
  obtain ⟨F_ord, n_ord⟩ : ∃ g : Nat → Int32, hl1.2.1 m_ord = g := ⟨_, rfl⟩
  obtain ⟨m_wkl, f_m_wkl, g_m_wkl⟩ := hx_rf hT gm tt_10 (k := 54) (u := 89) rfl
  obtain ⟨F_wkl, n_wkl⟩ : ∃ g : Nat → Int32, hl1.2.1 m_wkl = g := ⟨_, rfl⟩
  obtain ⟨m_owd, f_m_owd, g_m_owd⟩ := hx_rf hT gm tt_10 (k := 55) (u := 90) rfl
  obtain ⟨F_owd, n_owd⟩ : ∃ g : Nat → Int32, hl1.2.1 m_owd = g := ⟨_, rfl⟩
  obtain ⟨m_gds, f_m_gds, g_m_gds⟩ := hx_rf hT gm tt_10 (k := 56) (u := 91) rfl
  obtain ⟨F_gds, n_gds⟩ : ∃ g : Nat → Int32, hl1.2.1 m_gds = g := ⟨_, rfl⟩
  obtain ⟨m_szd, f_m_szd, g_m_szd⟩ := hx_rf hT gm tt_10 (k := 49) (u := 84) rfl
  obtain ⟨F_szd, n_szd⟩ : ∃ g : Nat → Int32, hl1.2.1 m_szd = g := ⟨_, rfl⟩
  obtain ⟨m_srv, f_m_srv, g_m_srv⟩ := hx_rf hT gm tt_10 (k := 50) (u := 85) rfl
  obtain ⟨F_srv, n_srv⟩ : ∃ g : Nat → Int32, hl1.2.1 m_srv = g := ⟨_, rfl⟩
  have cl_bor : hx_col 40 hl1 qp 1 = F_bor := (hf_bor qp m_bor f_qp f_m_bor).trans n_bor
  have cl_kin : hx_col 40 hl1 qp 2 = F_kin := (hf_kin qp m_kin f_qp f_m_kin).trans n_kin
  have cl_sum : hx_col 100 hl1 qc 6 = F_sum := (hf_sum qc m_sum f_qc f_m_sum).trans n_sum
  have cl_fro : hx_col 100 hl1 qc 7 = F_fro := (hf_fro qc m_fro f_qc f_m_fro).trans n_fro
  have cl_fil : hx_col 100 hl1 qc 8 = F_fil := (hf_fil qc m_fil f_qc f_m_fil).trans n_fil
  have cl_hea : hx_col 100 hl1 qc 11 = F_mh := (hf_hea qc mh f_qc f_mh).trans n_mh
  have cl_jud : hx_col 100 hl1 qc 12 = F_jud := (hf_jud qc m_jud f_qc f_m_jud).trans n_jud
  have cl_ear : hx_col 40 hl1 qp 3 = F_ear := (hf_ear qp m_ear f_qp f_m_ear).trans n_ear
  have cl_hds : hx_col 40 hl1 qp 4 = F_hds := (hf_hds qp m_hds f_qp f_m_hds).trans n_hds
  have cl_ord : hx_col 100 hl1 qc 13 = F_ord := (hf_ord qc m_ord f_qc f_m_ord).trans n_ord
  have cl_wkl : hx_col 100 hl1 qc 14 = F_wkl := (hf_wkl qc m_wkl f_qc f_m_wkl).trans n_wkl
  have cl_owd : hx_col 100 hl1 qc 15 = F_owd := (hf_owd qc m_owd f_qc f_m_owd).trans n_owd
  have cl_gds : hx_col 100 hl1 qc 17 = F_gds := (hf_gds qc m_gds f_qc f_m_gds).trans n_gds
  have cl_szd : hx_col 100 hl1 qc 16 = F_szd := (hf_szd qc m_szd f_qc f_m_szd).trans n_szd
  have cl_srv : hx_col 100 hl1 qc 18 = F_srv := (hf_srv qc m_srv f_qc f_m_srv).trans n_srv
  have htb9 : ∀ c, c < 100 → 0 ≤ (c_tri c).toInt ∧ (c_tri c).toInt ≤ 512 := fun c hc => by rw [eq_tri c hc]; have w := hT.ei g_mt tt_80 (k := c) hc; rw [n_mt] at w; exact w
  have z_jud : F_jud c0.toInt.toNat = 0 := hx_num_z2 nu_qc cl_jud ?o6
  case o6 => omega
  have hDP := hkDP qc qp m_by f_qc f_qp f_m_by; rw [n_by, f_x_claimCount] at hDP
  have hHL := hkHL qh qc m_ho f_qh f_qc f_m_ho; rw [n_ho, f_x_heardCount, f_x_claimCount] at hHL
  have hHO9 := hkHO m_ho mh f_m_ho f_mh; rw [n_ho, n_mh, f_m_heardMany, f_m_claims] at hHO9
  obtain ⟨cF9L, hFX, hFR9⟩ := hkFX qc m_fc m_nt m_wt m_sum mh f_qc f_m_fc f_m_nt f_m_wt f_m_sum f_mh; rw [f_x_claimCount] at hFX; rw [n_fc, n_nt, n_wt, n_sum, n_mh, f_x_claimCount] at hFR9
  have hBX := hkBX qc m_be f_qc f_m_be; rw [n_be, f_x_claimCount] at hBX
  rw [n_ml, f_x_claimCount] at hAC9
  obtain ⟨y_p0, f_y_p0, g_y_p0⟩ := hx_rf hT g_qo_py tt_3 (k := 2) (u := 23) rfl
  obtain ⟨m_p0, f_m_p0, g_m_p0⟩ := hx_rf hT gm tt_10 (k := 60) (u := 93) rfl
  obtain ⟨F_p0, n_p0⟩ : ∃ g : Nat → Int32, hl1.2.1 m_p0 = g := ⟨_, rfl⟩
  have n_y_p0 : hl1.2.1 y_p0 = F_p0 := (hkP0 qo_py y_p0 m_p0 f_qo_py f_y_p0 f_m_p0).trans n_p0
  obtain ⟨y_p1, f_y_p1, g_y_p1⟩ := hx_rf hT g_qo_py tt_3 (k := 3) (u := 24) rfl
  obtain ⟨m_p1, f_m_p1, g_m_p1⟩ := hx_rf hT gm tt_10 (k := 61) (u := 94) rfl
  obtain ⟨F_p1, n_p1⟩ : ∃ g : Nat → Int32, hl1.2.1 m_p1 = g := ⟨_, rfl⟩
  have n_y_p1 : hl1.2.1 y_p1 = F_p1 := (hkP1 qo_py y_p1 m_p1 f_qo_py f_y_p1 f_m_p1).trans n_p1
  obtain ⟨y_p2, f_y_p2, g_y_p2⟩ := hx_rf hT g_qo_py tt_3 (k := 5) (u := 26) rfl
  obtain ⟨m_p2, f_m_p2, g_m_p2⟩ := hx_rf hT gm tt_10 (k := 62) (u := 95) rfl
  obtain ⟨F_p2, n_p2⟩ : ∃ g : Nat → Int32, hl1.2.1 m_p2 = g := ⟨_, rfl⟩
  have n_y_p2 : hl1.2.1 y_p2 = F_p2 := (hkP2 qo_py y_p2 m_p2 f_qo_py f_y_p2 f_m_p2).trans n_p2
  obtain ⟨y_p3, f_y_p3, g_y_p3⟩ := hx_rf hT g_qo_py tt_3 (k := 4) (u := 25) rfl
  obtain ⟨m_p3, f_m_p3, g_m_p3⟩ := hx_rf hT gm tt_10 (k := 63) (u := 96) rfl
  obtain ⟨F_p3, n_p3⟩ : ∃ g : Nat → Int32, hl1.2.1 m_p3 = g := ⟨_, rfl⟩
  have n_y_p3 : hl1.2.1 y_p3 = F_p3 := (hkP3 qo_py y_p3 m_p3 f_qo_py f_y_p3 f_m_p3).trans n_p3
  obtain ⟨y_p4, f_y_p4, g_y_p4⟩ := hx_rf hT g_qo_py tt_3 (k := 1) (u := 22) rfl
  obtain ⟨m_p4, f_m_p4, g_m_p4⟩ := hx_rf hT gm tt_10 (k := 64) (u := 97) rfl
  obtain ⟨F_p4, n_p4⟩ : ∃ g : Nat → Int32, hl1.2.1 m_p4 = g := ⟨_, rfl⟩
  have n_y_p4 : hl1.2.1 y_p4 = F_p4 := (hkP4 qo_py y_p4 m_p4 f_qo_py f_y_p4 f_m_p4).trans n_p4
  obtain ⟨qrg9, f_qrg9, g_qrg9⟩ := hx_rf hT gx tt_9 (k := 18) (u := 7) rfl
  obtain ⟨y_ls, f_y_ls, g_y_ls⟩ := hx_rf hT g_qrg9 tt_7 (k := 3) (u := 35) rfl
  obtain ⟨m_rl, f_m_rl, g_m_rl⟩ := hx_rf hT gm tt_10 (k := 85) (u := 109) rfl
  obtain ⟨F_y_ls, n_y_ls⟩ : ∃ g : Nat → Int32, hl1.2.1 y_ls = g := ⟨_, rfl⟩
  obtain ⟨F_m_rl, n_m_rl⟩ : ∃ g : Nat → Int32, hl1.2.1 m_rl = g := ⟨_, rfl⟩
  obtain ⟨fv_79, efv_79⟩ : ∃ y : Int32, y = hl1.2.1 qrg9 0 := ⟨_, rfl⟩
  have bfv_79 := hT.gi g_qrg9 tt_7 (k := 0) rfl
  rw [← efv_79] at bfv_79
  have bfv_79 : -1 ≤ fv_79.toInt ∧ fv_79.toInt ≤ 100 := bfv_79
  have ffv_79 := efv_79.symm
  obtain ⟨fv_80, efv_80⟩ : ∃ y : Int32, y = hl1.2.1 am 83 := ⟨_, rfl⟩
  have bfv_80 := hT.gi gm tt_10 (k := 83) rfl
  rw [← efv_80] at bfv_80
  have bfv_80 : 0 ≤ fv_80.toInt ∧ fv_80.toInt ≤ 1 := bfv_80
  have ffv_80 := efv_80.symm
  obtain ⟨fv_81, efv_81⟩ : ∃ y : Int32, y = hl1.2.1 am 84 := ⟨_, rfl⟩
  have bfv_81 := hT.gi gm tt_10 (k := 84) rfl
  rw [← efv_81] at bfv_81
  have bfv_81 : 0 ≤ fv_81.toInt ∧ fv_81.toInt ≤ 300 := bfv_81
  have ffv_81 := efv_81.symm
  have hNQ9 := hkNQ qrg9 f_qrg9; rw [ffv_79, ffv_80, ffv_81] at hNQ9
  have hRL9 := hkRL qrg9 y_ls m_rl f_qrg9 f_y_ls f_m_rl; rw [n_y_ls, n_m_rl, ffv_79] at hRL9
  have hCB : hz_CB F_ord F_wkl F_owd F_szd F_gds F_srv := fun c hc => ⟨by have w := hT.ei g_m_ord tt_83 (k := c) (by omega); rw [n_ord] at w; exact w, by have w := hT.ei g_m_wkl tt_89 (k := c) (by omega); rw [n_wkl] at w; exact w, by have w := hT.ei g_m_owd tt_90 (k := c) (by omega); rw [n_owd] at w; exact w, by have w := hT.ei g_m_szd tt_84 (k := c) (by omega); rw [n_szd] at w; exact w, by have w := hT.ei g_m_gds tt_91 (k := c) (by omega); rw [n_gds] at w; exact w, by have w := hT.ei g_m_srv tt_85 (k := c) (by omega); rw [n_srv] at w; exact w⟩
  have hps : ∀ j, j < 600 → 0 ≤ (F_p2 j).toInt ∧ (F_p2 j).toInt ≤ 610000 := fun j hj => by have w := hT.ei g_m_p2 tt_95 (k := j) (by omega); rw [n_p2] at w; exact w
  have hte9 : ∀ c : Nat, c < 100 → (0 ≤ (c_tri c).toInt ∧ (c_tri c).toInt ≤ 512) ∧ (0 ≤ (F_sum c).toInt ∧ (F_sum c).toInt ≤ 9999) := fun c hc => ⟨htb9 c hc, by have w := hT.ei g_m_sum tt_74 (k := c) (by omega); rw [n_sum] at w; exact w⟩
  have hee9 : ∀ c : Nat, c < 40 → (0 ≤ (F_ear c).toInt ∧ (F_ear c).toInt ≤ 9999) ∧ (0 ≤ (F_hds c).toInt ∧ (F_hds c).toInt ≤ 20) := fun c hc => ⟨by have w := hT.ei g_m_ear tt_59 (k := c) (by omega); rw [n_ear] at w; exact w, by have w := hT.ei g_m_hds tt_60 (k := c) (by omega); rw [n_hds] at w; exact w⟩
  have bAG9 : ∀ k, k < 100 → 0 ≤ (F_aga k).toInt ∧ (F_aga k).toInt ≤ 39 := fun k hk => by have w := hT.ei g_m_aga tt_73 (k := k) (by omega); rw [n_aga] at w; exact w
  have bBY9 : ∀ k, k < 100 → 0 ≤ (F_by k).toInt ∧ (F_by k).toInt ≤ 39 := fun k hk => by have w := hT.ei g_m_by tt_72 (k := k) (by omega); rw [n_by] at w; exact w
  have hag9 : ∀ c, c < c0.toInt.toNat → 0 ≤ (F_aga c).toInt ∧ (F_aga c).toInt < 40 ∧ 0 ≤ (F_by c).toInt ∧ (F_by c).toInt < 40 := fun c hc => by have a9 := bAG9 c (by omega); have b9 := bBY9 c (by omega); omega
  have z_wkl : F_wkl c0.toInt.toNat = 0 := hx_num_z2 nu_qc cl_wkl ?o7
  case o7 => omega
  have z_owd : F_owd c0.toInt.toNat = 0 := hx_num_z2 nu_qc cl_owd ?o8
  case o8 => omega
  have z_gds : F_gds c0.toInt.toNat = 0 := hx_num_z2 nu_qc cl_gds ?o9
  case o9 => omega
  have hwd := jw mw f_mw; rw [n_mw] at hwd
  have hWK := jr mr f_mr; rw [n_mr, f_m_acts] at hWK
  have hRP := jp mp mn f_mp f_mn; rw [n_mp, n_mn, f_m_acts] at hRP
  have hPL := jl ml f_ml; rw [n_ml, f_m_claims, f_m_acts] at hPL
  have hHC := jh mh f_mh; rw [n_mh, f_m_heardMany, f_m_claims] at hHC
  have hTR := jt mt f_mt; rw [n_mt] at hTR
  have hHF := jf mh m_fou f_mh f_m_fou; rw [n_mh, n_m_fou, f_m_claims] at hHF
  refine lv_aload_n hx hb dL_law_281 rfl (lv_at hl 2 rfl) ?_
  refine lv_aload_n hx hb dL_law_282 rfl (lv_at hl 3 rfl) ?_
  refine lv_iload_n hx hb dL_law_283 rfl (lv_at hl 0 rfl) ?_
  refine lv_iconst (v := 1) hx hb dL_law_284 ?o10 ?_
  case o10 => decide
  refine lv_iadd hx hb dL_law_285 ?_
  have rg_82 := i32_r i
  refine lv_topi (fun x_83 ex_83 => ?_)
  have zx_83 : x_83.toInt = i.toInt + 1 := ?o11
  case o11 =>
    rw [ex_83]
    refine i32_add rfl ?o12 ?o13 ?o14
    case o12 => decide
    case o13 => omega
    case o14 => omega
  refine va_sld hx hb hX hbl hbA hW.2.2.2.1 (vp_in_iff.mpr ⟨?o15, ?o16⟩) dL_law_286 ?_
  case o15 => omega
  case o16 => omega
  refine lv_topi (fun x_84 ex_84 => ?_)
  have hTo := hT
  refine hx_goi (hx_runVX (As := [.int x_84]) (rest := []) ⟨hx, hb, hml, hown, hts⟩ hW gx tt_9 (T := TX9) (N := 20) rfl (t_X9_act_v l dC dI dA L1 hl1 H.size b0 ax x_84 hT gx qa g_qa f_qa qtp g_qtp f_qtp qwo g_qwo f_qwo F_tp n_qtp a0 f_x_actCount tl f_x_tapeLength A9 hRA9 pf_qa) hZ (cwV 1 hts (hx_gV kw_450 kw_447 kw_448 kw_449 kw_94) rfl rfl rfl (by decide +kernel) ⟨Nat.le_of_ble_eq_true rfl, Nat.le_of_ble_eq_true rfl⟩) rfl hl.1 rfl (Nat.le_of_ble_eq_true rfl) dL_law_287 ⟨(show CC + 3 ≤ 600000 from ?o17), (show SS + 179 ≤ 7302250 from ?o18)⟩) hW (fun r_87 L_85 h_86 H locs p_88 hW => ?_)
  case o17 => omega
  case o18 => omega
  obtain ⟨⟨w_91, w_92, fw_91, fw_92, hr_89⟩, hT, hs, pf_90⟩ := p_88
  replace hT : hx_T T_tb L_85 h_86 := hT
  replace hs : hx_S T_tb [(6, 0), (6, 1), (6, 2), (6, 3), (6, 4), (6, 5), (6, 6), (9, 1), (9, 6), (43, 0), (116, 0), (116, 1), (116, 2), (116, 3), (116, 4), (127, 0), (128, 0), (129, 4)] L1 hl1 L_85 h_86 := hs
  replace f_qa := (hs.o gx trivial rfl).2.trans f_qa
  replace f_qp := (hs.o gx trivial rfl).2.trans f_qp
  replace f_qc := (hs.o gx trivial rfl).2.trans f_qc
  replace f_qh := (hs.o gx trivial rfl).2.trans f_qh
  replace f_qw := (hs.o gx trivial rfl).2.trans f_qw
  replace f_ql := (hs.o g_qw trivial rfl).2.trans f_ql
  replace f_m_now := (hs.o gm trivial rfl).1.trans f_m_now
  replace f_m_persons := (hs.o gm trivial rfl).1.trans f_m_persons
  replace f_m_claims := (hs.o gm trivial rfl).1.trans f_m_claims
  replace f_m_taped := (hs.o gm trivial rfl).1.trans f_m_taped
  replace f_m_acts := (hs.o gm trivial rfl).1.trans f_m_acts
  replace f_m_heardMany := (hs.o gm trivial rfl).1.trans f_m_heardMany
  replace f_m_lines := (hs.o gm trivial rfl).1.trans f_m_lines
  replace f_m_listed := (hs.o gm trivial rfl).1.trans f_m_listed
  replace f_m_walkedMany := (hs.o gm trivial rfl).1.trans f_m_walkedMany
  replace f_m_payments := (hs.o gm trivial rfl).1.trans f_m_payments
  replace f_x_now := (hs.o gx trivial rfl).1.trans f_x_now
  replace f_x_personCount := (hs.o gx trivial rfl).1.trans f_x_personCount
  replace f_x_claimCount := (hs.o gx trivial rfl).1.trans f_x_claimCount
  replace f_x_heardCount := (hs.o gx trivial rfl).1.trans f_x_heardCount
  replace f_mw := (hs.o gm trivial rfl).2.trans f_mw
  replace f_mr := (hs.o gm trivial rfl).2.trans f_mr
  replace f_mp := (hs.o gm trivial rfl).2.trans f_mp
  replace f_mn := (hs.o gm trivial rfl).2.trans f_mn
  replace f_ml := (hs.o gm trivial rfl).2.trans f_ml
  replace f_mh := (hs.o gm trivial rfl).2.trans f_mh
  replace f_mt := (hs.o gm trivial rfl).2.trans f_mt
  replace f_m_fou := (hs.o gm trivial rfl).2.trans f_m_fou
  replace f_qo_ln := (hs.o gx trivial rfl).2.trans f_qo_ln
  replace f_o_ln := (hs.o g_qo_ln trivial rfl).1.trans f_o_ln
  replace f_o_lsd := (hs.o g_qw trivial rfl).1.trans f_o_lsd
  replace f_o_wkm := (hs.o g_qw trivial rfl).1.trans f_o_wkm
  replace f_qo_py := (hs.o gx trivial rfl).2.trans f_qo_py
  replace f_o_py := (hs.o g_qo_py trivial rfl).1.trans f_o_py
  replace f_b_of := (hs.o g_qo_ln trivial rfl).2.trans f_b_of
  replace f_m_of := (hs.o gm trivial rfl).2.trans f_m_of
  replace f_b_wf := (hs.o g_qo_ln trivial rfl).2.trans f_b_wf
  replace f_m_wf := (hs.o gm trivial rfl).2.trans f_m_wf
  replace f_b_df := (hs.o g_qo_ln trivial rfl).2.trans f_b_df
  replace f_m_df := (hs.o gm trivial rfl).2.trans f_m_df
  replace f_b_kf := (hs.o g_qo_ln trivial rfl).2.trans f_b_kf
  replace f_m_kf := (hs.o gm trivial rfl).2.trans f_m_kf
  replace f_b_sf := (hs.o g_qo_ln trivial rfl).2.trans f_b_sf
  replace f_m_sf := (hs.o gm trivial rfl).2.trans f_m_sf
  replace f_b_bf := (hs.o g_qo_ln trivial rfl).2.trans f_b_bf
  replace f_m_lst := (hs.o gm trivial rfl).2.trans f_m_lst
  replace f_qtp := (hs.o gx trivial rfl).2.trans f_qtp
  replace f_m_tp := (hs.o gm trivial rfl).2.trans f_m_tp
  replace f_m_dead := (hs.o gm trivial rfl).2.trans f_m_dead
  replace f_m_isj := (hs.o gm trivial rfl).2.trans f_m_isj
  replace f_m_dox := (hs.o gm trivial rfl).2.trans f_m_dox
  replace f_m_doy := (hs.o gm trivial rfl).2.trans f_m_doy
  replace f_qlt := (hs.o g_qw trivial rfl).2.trans f_qlt
  replace f_qlf := (hs.o g_qw trivial rfl).2.trans f_qlf
  replace f_m_wkd := (hs.o gm trivial rfl).2.trans f_m_wkd
  replace f_m_aga := (hs.o gm trivial rfl).2.trans f_m_aga
  replace f_qwo := (hs.o gx trivial rfl).2.trans f_qwo
  replace f_m_ad := (hs.o gm trivial rfl).2.trans f_m_ad
  replace f_m_by := (hs.o gm trivial rfl).2.trans f_m_by
  replace f_m_ho := (hs.o gm trivial rfl).2.trans f_m_ho
  replace f_m_fc := (hs.o gm trivial rfl).2.trans f_m_fc
  replace f_m_nt := (hs.o gm trivial rfl).2.trans f_m_nt
  replace f_m_wt := (hs.o gm trivial rfl).2.trans f_m_wt
  replace f_m_be := (hs.o gm trivial rfl).2.trans f_m_be
  replace f_m_bor := (hs.o gm trivial rfl).2.trans f_m_bor
  replace f_m_kin := (hs.o gm trivial rfl).2.trans f_m_kin
  replace f_m_sum := (hs.o gm trivial rfl).2.trans f_m_sum
  replace f_m_fro := (hs.o gm trivial rfl).2.trans f_m_fro
  replace f_m_fil := (hs.o gm trivial rfl).2.trans f_m_fil
  replace f_m_jud := (hs.o gm trivial rfl).2.trans f_m_jud
  replace f_m_ear := (hs.o gm trivial rfl).2.trans f_m_ear
  replace f_m_hds := (hs.o gm trivial rfl).2.trans f_m_hds
  replace f_m_ord := (hs.o gm trivial rfl).2.trans f_m_ord
  replace f_m_wkl := (hs.o gm trivial rfl).2.trans f_m_wkl
  replace f_m_owd := (hs.o gm trivial rfl).2.trans f_m_owd
  replace f_m_gds := (hs.o gm trivial rfl).2.trans f_m_gds
  replace f_m_szd := (hs.o gm trivial rfl).2.trans f_m_szd
  replace f_m_srv := (hs.o gm trivial rfl).2.trans f_m_srv
  replace f_y_p0 := (hs.o g_qo_py trivial rfl).2.trans f_y_p0
  replace f_m_p0 := (hs.o gm trivial rfl).2.trans f_m_p0
  replace f_y_p1 := (hs.o g_qo_py trivial rfl).2.trans f_y_p1
  replace f_m_p1 := (hs.o gm trivial rfl).2.trans f_m_p1
  replace f_y_p2 := (hs.o g_qo_py trivial rfl).2.trans f_y_p2
  replace f_m_p2 := (hs.o gm trivial rfl).2.trans f_m_p2
  replace f_y_p3 := (hs.o g_qo_py trivial rfl).2.trans f_y_p3
  replace f_m_p3 := (hs.o gm trivial rfl).2.trans f_m_p3
  replace f_y_p4 := (hs.o g_qo_py trivial rfl).2.trans f_y_p4
  replace f_m_p4 := (hs.o gm trivial rfl).2.trans f_m_p4
  replace f_qrg9 := (hs.o gx trivial rfl).2.trans f_qrg9
  replace f_y_ls := (hs.o g_qrg9 trivial rfl).2.trans f_y_ls
  replace f_m_rl := (hs.o gm trivial rfl).2.trans f_m_rl
  replace ffv_79 := (hs.o g_qrg9 trivial rfl).1.trans ffv_79
  replace ffv_80 := (hs.o gm trivial rfl).1.trans ffv_80
  replace ffv_81 := (hs.o gm trivial rfl).1.trans ffv_81
  replace pf_qp : ∀ j : Nat, (j : Int) < (h_86.2.1 ax 8).toInt → h_86.2.2 qp j ≠ none := by
    intro j hj; rw [(hs.o gx trivial rfl).1] at hj; rw [(hs.a g_qp rfl j).2]; exact pf_qp j hj
  replace pf_qc : ∀ j : Nat, (j : Int) < (h_86.2.1 ax 11).toInt → h_86.2.2 qc j ≠ none := by
    intro j hj; rw [(hs.o gx trivial rfl).1] at hj; rw [(hs.a g_qc rfl j).2]; exact pf_qc j hj
  replace pf_qh : ∀ j : Nat, (j : Int) < (h_86.2.1 ax 13).toInt → h_86.2.2 qh j ≠ none := by
    intro j hj; rw [(hs.o gx trivial rfl).1] at hj; rw [(hs.a g_qh rfl j).2]; exact pf_qh j hj
  replace pf_ql : ∀ j : Nat, (j : Int) < (h_86.2.1 qw 0).toInt → h_86.2.2 ql j ≠ none := by
    intro j hj; rw [(hs.o g_qw trivial rfl).1] at hj; rw [(hs.a g_ql rfl j).2]; exact pf_ql j hj
  replace cl_lst : hx_col 8 h_86 ql 0 = c_lst := (hx_col_S hs hTo g_ql tt_40 tt_2 rfl rfl).trans cl_lst
  replace cl_dead : hx_col 40 h_86 qp 7 = c_dead := (hx_col_S hs hTo g_qp tt_44 tt_4 rfl rfl).trans cl_dead
  replace cl_isj : hx_col 40 h_86 qp 8 = c_isj := (hx_col_S hs hTo g_qp tt_44 tt_4 rfl rfl).trans cl_isj
  replace cl_dox : hx_col 40 h_86 qp 5 = c_dox := (hx_col_S hs hTo g_qp tt_44 tt_4 rfl rfl).trans cl_dox
  replace cl_doy : hx_col 40 h_86 qp 6 = c_doy := (hx_col_S hs hTo g_qp tt_44 tt_4 rfl rfl).trans cl_doy
  replace cl_fou : hx_col 100 h_86 qc 10 = c_fou := (hx_col_S hs hTo g_qc tt_45 tt_2 rfl rfl).trans cl_fou
  replace cl_tri : hx_col 100 h_86 qc 9 = c_tri := (hx_col_S hs hTo g_qc tt_45 tt_2 rfl rfl).trans cl_tri
  replace cl_bor : hx_col 40 h_86 qp 1 = F_bor := (hx_col_S hs hTo g_qp tt_44 tt_4 rfl rfl).trans cl_bor
  replace cl_kin : hx_col 40 h_86 qp 2 = F_kin := (hx_col_S hs hTo g_qp tt_44 tt_4 rfl rfl).trans cl_kin
  replace cl_sum : hx_col 100 h_86 qc 6 = F_sum := (hx_col_S hs hTo g_qc tt_45 tt_2 rfl rfl).trans cl_sum
  replace cl_fro : hx_col 100 h_86 qc 7 = F_fro := (hx_col_S hs hTo g_qc tt_45 tt_2 rfl rfl).trans cl_fro
  replace cl_fil : hx_col 100 h_86 qc 8 = F_fil := (hx_col_S hs hTo g_qc tt_45 tt_2 rfl rfl).trans cl_fil
  replace cl_hea : hx_col 100 h_86 qc 11 = F_mh := (hx_col_S hs hTo g_qc tt_45 tt_2 rfl rfl).trans cl_hea
  replace cl_jud : hx_col 100 h_86 qc 12 = F_jud := (hx_col_S hs hTo g_qc tt_45 tt_2 rfl rfl).trans cl_jud
  replace cl_ear : hx_col 40 h_86 qp 3 = F_ear := (hx_col_S hs hTo g_qp tt_44 tt_4 rfl rfl).trans cl_ear
  replace cl_hds : hx_col 40 h_86 qp 4 = F_hds := (hx_col_S hs hTo g_qp tt_44 tt_4 rfl rfl).trans cl_hds
  replace cl_ord : hx_col 100 h_86 qc 13 = F_ord := (hx_col_S hs hTo g_qc tt_45 tt_2 rfl rfl).trans cl_ord
  replace cl_wkl : hx_col 100 h_86 qc 14 = F_wkl := (hx_col_S hs hTo g_qc tt_45 tt_2 rfl rfl).trans cl_wkl
  replace cl_owd : hx_col 100 h_86 qc 15 = F_owd := (hx_col_S hs hTo g_qc tt_45 tt_2 rfl rfl).trans cl_owd
  replace cl_gds : hx_col 100 h_86 qc 17 = F_gds := (hx_col_S hs hTo g_qc tt_45 tt_2 rfl rfl).trans cl_gds
  replace cl_szd : hx_col 100 h_86 qc 16 = F_szd := (hx_col_S hs hTo g_qc tt_45 tt_2 rfl rfl).trans cl_szd
  replace cl_srv : hx_col 100 h_86 qc 18 = F_srv := (hx_col_S hs hTo g_qc tt_45 tt_2 rfl rfl).trans cl_srv
  replace nu_qp : hx_num 40 h_86 qp 0 (np.toInt) := hx_num_S hs hTo g_qp tt_44 tt_4 rfl rfl nu_qp
  replace nu_qc : hx_num 100 h_86 qc 0 (c0.toInt) := hx_num_S hs hTo g_qc tt_45 tt_2 rfl rfl nu_qc
  replace sb_list : hx_LQ 8 100 h_86 ql qc := hx_LQ_S hs g_ql g_qc rfl rfl sb_list
  replace hDF : hw_DF h_86 qc qp 2 F_aga c0.toInt := hw_DF_S hs hTo g_qc g_qp tt_45 tt_2 rfl rfl rfl hDF
  replace hDP : hw_DF h_86 qc qp 1 F_by c0.toInt := hw_DF_S hs hTo g_qc g_qp tt_45 tt_2 rfl rfl rfl hDP
  replace hAC9 : hv_AC h_86 qc F_ml c0.toInt A9 := hv_AC_S hs hTo g_qc tt_45 tt_2 rfl tt_0 rfl rfl rfl rfl rfl rfl rfl hAC9
  replace hFX : hv_FX 8 4 h_86 qc cF9L c0.toInt := hv_FX_S hs hTo g_qc tt_45 tt_2 rfl rfl rfl rfl hFX
  replace hBX : hv_FX 3 5 h_86 qc F_be c0.toInt := hv_FX_S hs hTo g_qc tt_45 tt_2 rfl rfl rfl rfl hBX
  replace hHL : hv_HL h_86 qh qc F_ho m0.toInt c0.toInt := hv_HL_S hs g_qh g_qc rfl rfl hHL
  replace n_mw : h_86.2.1 mw = F_mw := (funext fun j => (hs.a g_mw rfl j).1).trans n_mw
  replace n_mr : h_86.2.1 mr = F_mr := (funext fun j => (hs.a g_mr rfl j).1).trans n_mr
  replace n_mp : h_86.2.1 mp = F_mp := (funext fun j => (hs.a g_mp rfl j).1).trans n_mp
  replace n_mn : h_86.2.1 mn = F_mn := (funext fun j => (hs.a g_mn rfl j).1).trans n_mn
  replace n_ml : h_86.2.1 ml = F_ml := (funext fun j => (hs.a g_ml rfl j).1).trans n_ml
  replace n_mh : h_86.2.1 mh = F_mh := (funext fun j => (hs.a g_mh rfl j).1).trans n_mh
  replace n_mt : h_86.2.1 mt = F_mt := (funext fun j => (hs.a g_mt rfl j).1).trans n_mt
  replace n_m_fou : h_86.2.1 m_fou = F_m_fou := (funext fun j => (hs.a g_m_fou rfl j).1).trans n_m_fou
  replace n_b_of : h_86.2.1 b_of = B_of := (funext fun j => (hs.a g_b_of rfl j).1).trans n_b_of
  replace n_m_of : h_86.2.1 m_of = F_of := (funext fun j => (hs.a g_m_of rfl j).1).trans n_m_of
  replace n_b_wf : h_86.2.1 b_wf = B_wf := (funext fun j => (hs.a g_b_wf rfl j).1).trans n_b_wf
  replace n_m_wf : h_86.2.1 m_wf = F_wf := (funext fun j => (hs.a g_m_wf rfl j).1).trans n_m_wf
  replace n_b_df : h_86.2.1 b_df = B_df := (funext fun j => (hs.a g_b_df rfl j).1).trans n_b_df
  replace n_m_df : h_86.2.1 m_df = F_df := (funext fun j => (hs.a g_m_df rfl j).1).trans n_m_df
  replace n_b_kf : h_86.2.1 b_kf = B_kf := (funext fun j => (hs.a g_b_kf rfl j).1).trans n_b_kf
  replace n_m_kf : h_86.2.1 m_kf = F_kf := (funext fun j => (hs.a g_m_kf rfl j).1).trans n_m_kf
  replace n_b_sf : h_86.2.1 b_sf = B_sf := (funext fun j => (hs.a g_b_sf rfl j).1).trans n_b_sf
  replace n_m_sf : h_86.2.1 m_sf = F_sf := (funext fun j => (hs.a g_m_sf rfl j).1).trans n_m_sf
  replace n_b_bf : h_86.2.1 b_bf = bfL := (funext fun j => (hs.a g_b_bf rfl j).1).trans n_b_bf
  replace n_lst : h_86.2.1 m_lst = F_lst := (funext fun j => (hs.a g_m_lst rfl j).1).trans n_lst
  replace n_tp : h_86.2.1 m_tp = F_tp := (funext fun j => (hs.a g_m_tp rfl j).1).trans n_tp
  replace n_qtp : h_86.2.1 qtp = F_tp := (funext fun j => (hs.a g_qtp rfl j).1).trans n_qtp
  replace n_dead : h_86.2.1 m_dead = F_dead := (funext fun j => (hs.a g_m_dead rfl j).1).trans n_dead
  replace n_isj : h_86.2.1 m_isj = F_isj := (funext fun j => (hs.a g_m_isj rfl j).1).trans n_isj
  replace n_dox : h_86.2.1 m_dox = F_dox := (funext fun j => (hs.a g_m_dox rfl j).1).trans n_dox
  replace n_doy : h_86.2.1 m_doy = F_doy := (funext fun j => (hs.a g_m_doy rfl j).1).trans n_doy
  replace n_qlt : h_86.2.1 qlt = F_qlt := (funext fun j => (hs.a g_qlt rfl j).1).trans n_qlt
  replace n_m_wkd : h_86.2.1 m_wkd = F_m_wkd := (funext fun j => (hs.a g_m_wkd rfl j).1).trans n_m_wkd
  replace n_aga : h_86.2.1 m_aga = F_aga := (funext fun j => (hs.a g_m_aga rfl j).1).trans n_aga
  replace n_ad : h_86.2.1 m_ad = F_ad := (funext fun j => (hs.a g_m_ad rfl j).1).trans n_ad
  replace n_by : h_86.2.1 m_by = F_by := (funext fun j => (hs.a g_m_by rfl j).1).trans n_by
  replace n_ho : h_86.2.1 m_ho = F_ho := (funext fun j => (hs.a g_m_ho rfl j).1).trans n_ho
  replace n_fc : h_86.2.1 m_fc = F_fc := (funext fun j => (hs.a g_m_fc rfl j).1).trans n_fc
  replace n_nt : h_86.2.1 m_nt = F_nt := (funext fun j => (hs.a g_m_nt rfl j).1).trans n_nt
  replace n_wt : h_86.2.1 m_wt = F_wt := (funext fun j => (hs.a g_m_wt rfl j).1).trans n_wt
  replace n_be : h_86.2.1 m_be = F_be := (funext fun j => (hs.a g_m_be rfl j).1).trans n_be
  replace n_bor : h_86.2.1 m_bor = F_bor := (funext fun j => (hs.a g_m_bor rfl j).1).trans n_bor
  replace n_kin : h_86.2.1 m_kin = F_kin := (funext fun j => (hs.a g_m_kin rfl j).1).trans n_kin
  replace n_sum : h_86.2.1 m_sum = F_sum := (funext fun j => (hs.a g_m_sum rfl j).1).trans n_sum
  replace n_fro : h_86.2.1 m_fro = F_fro := (funext fun j => (hs.a g_m_fro rfl j).1).trans n_fro
  replace n_fil : h_86.2.1 m_fil = F_fil := (funext fun j => (hs.a g_m_fil rfl j).1).trans n_fil
  replace n_jud : h_86.2.1 m_jud = F_jud := (funext fun j => (hs.a g_m_jud rfl j).1).trans n_jud
  replace n_ear : h_86.2.1 m_ear = F_ear := (funext fun j => (hs.a g_m_ear rfl j).1).trans n_ear
  replace n_hds : h_86.2.1 m_hds = F_hds := (funext fun j => (hs.a g_m_hds rfl j).1).trans n_hds
  replace n_ord : h_86.2.1 m_ord = F_ord := (funext fun j => (hs.a g_m_ord rfl j).1).trans n_ord
  replace n_wkl : h_86.2.1 m_wkl = F_wkl := (funext fun j => (hs.a g_m_wkl rfl j).1).trans n_wkl
  replace n_owd : h_86.2.1 m_owd = F_owd := (funext fun j => (hs.a g_m_owd rfl j).1).trans n_owd
  replace n_gds : h_86.2.1 m_gds = F_gds := (funext fun j => (hs.a g_m_gds rfl j).1).trans n_gds
  replace n_szd : h_86.2.1 m_szd = F_szd := (funext fun j => (hs.a g_m_szd rfl j).1).trans n_szd
  replace n_srv : h_86.2.1 m_srv = F_srv := (funext fun j => (hs.a g_m_srv rfl j).1).trans n_srv
  replace n_p0 : h_86.2.1 m_p0 = F_p0 := (funext fun j => (hs.a g_m_p0 rfl j).1).trans n_p0
  replace n_y_p0 : h_86.2.1 y_p0 = F_p0 := (funext fun j => (hs.a g_y_p0 rfl j).1).trans n_y_p0
  replace n_p1 : h_86.2.1 m_p1 = F_p1 := (funext fun j => (hs.a g_m_p1 rfl j).1).trans n_p1
  replace n_y_p1 : h_86.2.1 y_p1 = F_p1 := (funext fun j => (hs.a g_y_p1 rfl j).1).trans n_y_p1
  replace n_p2 : h_86.2.1 m_p2 = F_p2 := (funext fun j => (hs.a g_m_p2 rfl j).1).trans n_p2
  replace n_y_p2 : h_86.2.1 y_p2 = F_p2 := (funext fun j => (hs.a g_y_p2 rfl j).1).trans n_y_p2
  replace n_p3 : h_86.2.1 m_p3 = F_p3 := (funext fun j => (hs.a g_m_p3 rfl j).1).trans n_p3
  replace n_y_p3 : h_86.2.1 y_p3 = F_p3 := (funext fun j => (hs.a g_y_p3 rfl j).1).trans n_y_p3
  replace n_p4 : h_86.2.1 m_p4 = F_p4 := (funext fun j => (hs.a g_m_p4 rfl j).1).trans n_p4
  replace n_y_p4 : h_86.2.1 y_p4 = F_p4 := (funext fun j => (hs.a g_y_p4 rfl j).1).trans n_y_p4
  replace n_y_ls : h_86.2.1 y_ls = F_y_ls := (funext fun j => (hs.a g_y_ls rfl j).1).trans n_y_ls
  replace n_m_rl : h_86.2.1 m_rl = F_m_rl := (funext fun j => (hs.a g_m_rl rfl j).1).trans n_m_rl
  replace gx := gx.S hs
  replace gm := gm.S hs
  replace g_qa := g_qa.S hs
  replace g_qp := g_qp.S hs
  replace g_qc := g_qc.S hs
  replace g_qh := g_qh.S hs
  replace g_qw := g_qw.S hs
  replace g_ql := g_ql.S hs
  replace g_mw := g_mw.S hs
  replace g_mr := g_mr.S hs
  replace g_mp := g_mp.S hs
  replace g_mn := g_mn.S hs
  replace g_ml := g_ml.S hs
  replace g_mh := g_mh.S hs
  replace g_mt := g_mt.S hs
  replace g_m_fou := g_m_fou.S hs
  replace g_qo_ln := g_qo_ln.S hs
  replace g_qo_py := g_qo_py.S hs
  replace g_b_of := g_b_of.S hs
  replace g_m_of := g_m_of.S hs
  replace g_b_wf := g_b_wf.S hs
  replace g_m_wf := g_m_wf.S hs
  replace g_b_df := g_b_df.S hs
  replace g_m_df := g_m_df.S hs
  replace g_b_kf := g_b_kf.S hs
  replace g_m_kf := g_m_kf.S hs
  replace g_b_sf := g_b_sf.S hs
  replace g_m_sf := g_m_sf.S hs
  replace g_b_bf := g_b_bf.S hs
  replace g_m_lst := g_m_lst.S hs
  replace g_qtp := g_qtp.S hs
  replace g_m_tp := g_m_tp.S hs
  replace g_m_dead := g_m_dead.S hs
  replace g_m_isj := g_m_isj.S hs
  replace g_m_dox := g_m_dox.S hs
  replace g_m_doy := g_m_doy.S hs
  replace g_qlt := g_qlt.S hs
  replace g_qlf := g_qlf.S hs
  replace g_m_wkd := g_m_wkd.S hs
  replace g_m_aga := g_m_aga.S hs
  replace g_qwo := g_qwo.S hs
  replace g_m_ad := g_m_ad.S hs
  replace g_m_by := g_m_by.S hs
  replace g_m_ho := g_m_ho.S hs
  replace g_m_fc := g_m_fc.S hs
  replace g_m_nt := g_m_nt.S hs
  replace g_m_wt := g_m_wt.S hs
  replace g_m_be := g_m_be.S hs
  replace g_m_bor := g_m_bor.S hs
  replace g_m_kin := g_m_kin.S hs
  replace g_m_sum := g_m_sum.S hs
  replace g_m_fro := g_m_fro.S hs
  replace g_m_fil := g_m_fil.S hs
  replace g_m_jud := g_m_jud.S hs
  replace g_m_ear := g_m_ear.S hs
  replace g_m_hds := g_m_hds.S hs
  replace g_m_ord := g_m_ord.S hs
  replace g_m_wkl := g_m_wkl.S hs
  replace g_m_owd := g_m_owd.S hs
  replace g_m_gds := g_m_gds.S hs
  replace g_m_szd := g_m_szd.S hs
  replace g_m_srv := g_m_srv.S hs
  replace g_y_p0 := g_y_p0.S hs
  replace g_m_p0 := g_m_p0.S hs
  replace g_y_p1 := g_y_p1.S hs
  replace g_m_p1 := g_m_p1.S hs
  replace g_y_p2 := g_y_p2.S hs
  replace g_m_p2 := g_m_p2.S hs
  replace g_y_p3 := g_y_p3.S hs
  replace g_m_p3 := g_m_p3.S hs
  replace g_y_p4 := g_y_p4.S hs
  replace g_m_p4 := g_m_p4.S hs
  replace g_qrg9 := g_qrg9.S hs
  replace g_y_ls := g_y_ls.S hs
  replace g_m_rl := g_m_rl.S hs
  have pf_90 : ∀ j : Nat, (j : Int) < (h_86.2.1 ax 6).toInt → h_86.2.2 qa j ≠ none := pf_90
  have fw_91 : h_86.2.1 ax 6 = w_91 := fw_91
  have bw_91 := hT.gi gx tt_9 (k := 6) rfl
  rw [fw_91] at bw_91
  have bw_91 : 0 ≤ w_91.toInt ∧ w_91.toInt ≤ 8 := bw_91
  have fw_92 : h_86.2.1 ax 1 = w_92 := fw_92
  have bw_92 := hT.gi gx tt_9 (k := 1) rfl
  rw [fw_92] at bw_92
  have bw_92 : 0 ≤ w_92.toInt ∧ w_92.toInt ≤ 400 := bw_92
  obtain ⟨hr_89, A1_9, hAU9, hRA19⟩ := hr_89
  have hRA19 : hv_RA h_86 qa qwo w_91.toInt A1_9 := hRA19
  refine lv_pop hx hb dL_law_290 rfl ?_
  refine lv_aload_n hx hb dL_law_291 rfl (lv_at hl 1 rfl) ?_
  refine lv_aload_n hx hb dL_law_292 rfl (lv_at hl 3 rfl) ?_
  refine lv_iload_n hx hb dL_law_293 rfl (lv_at hl 0 rfl) ?_
  refine lv_iconst (v := 1) hx hb dL_law_294 ?o19 ?_
  case o19 => decide
  refine lv_iadd hx hb dL_law_295 ?_
  refine lv_topi (fun x_93 ex_93 => ?_)
  have zx_93 : x_93.toInt = i.toInt + 1 := ?o20
  case o20 =>
    rw [ex_93]
    refine i32_add rfl ?o21 ?o22 ?o23
    case o21 => decide
    case o22 => omega
    case o23 => omega
  obtain rfl : x_83 = x_93 := ex_83.trans ex_93.symm
  refine va_sld hx hb hX hbl hbA hW.2.2.2.1 (vp_in_iff.mpr ⟨?o24, ?o25⟩) dL_law_296 ?_
  case o24 => omega
  case o25 => omega
  refine lv_topi (fun x_94 ex_94 => ?_)
  obtain rfl : x_84 = x_94 := ex_84.trans ex_94.symm
  have hTo := hT
  obtain ⟨q_95, fq_95, gq_95⟩ := hx_rf hT gm tt_10 (k := 15) (u := 55) rfl
  obtain ⟨q_96, fq_96, gq_96⟩ := hx_rf hT gm tt_10 (k := 17) (u := 56) rfl
  obtain ⟨q_97, fq_97, gq_97⟩ := hx_rf hT gm tt_10 (k := 12) (u := 54) rfl
  obtain ⟨fa_98, nfa_98⟩ : ∃ g : Nat → Int32, h_86.2.1 q_95 = g := ⟨_, rfl⟩
  obtain ⟨fa_99, nfa_99⟩ : ∃ g : Nat → Int32, h_86.2.1 q_96 = g := ⟨_, rfl⟩
  obtain ⟨fa_100, nfa_100⟩ : ∃ g : Nat → Int32, h_86.2.1 q_97 = g := ⟨_, rfl⟩
  refine hx_goi (hx_runV (As := [.int x_84]) (rest := []) ⟨hx, hb, hml, hown, hts⟩ hW gm tt_10 (T := TX10) (N := 98) rfl (t_X10_act_v l dC dI dA L_85 h_86 H.size am x_84 hT gm q_95 gq_95 fq_95 q_96 gq_96 fq_96 m_tp g_m_tp f_m_tp mw g_mw f_mw q_97 gq_97 fq_97 mr g_mr f_mr mn g_mn f_mn mp g_mp f_mp m_ad g_m_ad f_m_ad fa_98 nfa_98 fa_99 nfa_99 F_tp n_tp F_mw n_mw fa_100 nfa_100 F_mr n_mr F_mn n_mn F_mp n_mp F_ad n_ad a0 f_m_acts tl f_m_taped hWK hRP hwd A9 hCA9) (cwV 1 hts (hx_gV kw_1461 kw_1458 kw_1459 kw_1460 kw_103) rfl rfl rfl (by decide +kernel) ⟨Nat.le_of_ble_eq_true rfl, Nat.le_of_ble_eq_true rfl⟩) rfl hl.1 rfl (Nat.le_of_ble_eq_true rfl) dL_law_297 ⟨(show CC + 3 + 0 ≤ 600000 from ?o26), (show SS + 179 + 0 ≤ 7302250 from ?o27)⟩) hW (fun r_103 L_101 h_102 H locs p_104 hW => ?_)
  case o26 => omega
  case o27 => omega
  obtain ⟨⟨w_106, w_107, w_108, w_109, w_110, w_111, fw_106, fw_107, fw_108, fw_109, fw_110, fw_111, hr_105⟩, hT, hs⟩ := p_104
  replace hT : hx_T T_tb L_101 h_102 := hT
  replace hs : hx_S T_tb [(10, 1), (10, 7), (10, 8), (10, 9), (10, 10), (10, 11), (10, 13), (10, 14), (10, 16), (10, 18), (49, 0), (50, 0), (51, 0), (52, 0), (54, 0), (55, 0), (56, 0)] L_85 h_86 L_101 h_102 := hs
  replace f_qa := (hs.o gx trivial rfl).2.trans f_qa
  replace f_qp := (hs.o gx trivial rfl).2.trans f_qp
  replace f_qc := (hs.o gx trivial rfl).2.trans f_qc
  replace f_qh := (hs.o gx trivial rfl).2.trans f_qh
  replace f_qw := (hs.o gx trivial rfl).2.trans f_qw
  replace f_ql := (hs.o g_qw trivial rfl).2.trans f_ql
  replace f_m_now := (hs.o gm trivial rfl).1.trans f_m_now
  replace f_m_persons := (hs.o gm trivial rfl).1.trans f_m_persons
  replace f_m_claims := (hs.o gm trivial rfl).1.trans f_m_claims
  replace f_m_heardMany := (hs.o gm trivial rfl).1.trans f_m_heardMany
  replace f_m_lines := (hs.o gm trivial rfl).1.trans f_m_lines
  replace f_m_listed := (hs.o gm trivial rfl).1.trans f_m_listed
  replace f_m_walkedMany := (hs.o gm trivial rfl).1.trans f_m_walkedMany
  replace f_m_payments := (hs.o gm trivial rfl).1.trans f_m_payments
  replace f_x_now := (hs.o gx trivial rfl).1.trans f_x_now
  replace f_x_personCount := (hs.o gx trivial rfl).1.trans f_x_personCount
  replace f_x_claimCount := (hs.o gx trivial rfl).1.trans f_x_claimCount
  replace f_x_heardCount := (hs.o gx trivial rfl).1.trans f_x_heardCount
  replace f_mw := (hs.o gm trivial rfl).2.trans f_mw
  replace f_mr := (hs.o gm trivial rfl).2.trans f_mr
  replace f_mp := (hs.o gm trivial rfl).2.trans f_mp
  replace f_mn := (hs.o gm trivial rfl).2.trans f_mn
  replace f_ml := (hs.o gm trivial rfl).2.trans f_ml
  replace f_mh := (hs.o gm trivial rfl).2.trans f_mh
  replace f_mt := (hs.o gm trivial rfl).2.trans f_mt
  replace f_m_fou := (hs.o gm trivial rfl).2.trans f_m_fou
  replace f_qo_ln := (hs.o gx trivial rfl).2.trans f_qo_ln
  replace f_o_ln := (hs.o g_qo_ln trivial rfl).1.trans f_o_ln
  replace f_o_lsd := (hs.o g_qw trivial rfl).1.trans f_o_lsd
  replace f_o_wkm := (hs.o g_qw trivial rfl).1.trans f_o_wkm
  replace f_qo_py := (hs.o gx trivial rfl).2.trans f_qo_py
  replace f_o_py := (hs.o g_qo_py trivial rfl).1.trans f_o_py
  replace f_b_of := (hs.o g_qo_ln trivial rfl).2.trans f_b_of
  replace f_m_of := (hs.o gm trivial rfl).2.trans f_m_of
  replace f_b_wf := (hs.o g_qo_ln trivial rfl).2.trans f_b_wf
  replace f_m_wf := (hs.o gm trivial rfl).2.trans f_m_wf
  replace f_b_df := (hs.o g_qo_ln trivial rfl).2.trans f_b_df
  replace f_m_df := (hs.o gm trivial rfl).2.trans f_m_df
  replace f_b_kf := (hs.o g_qo_ln trivial rfl).2.trans f_b_kf
  replace f_m_kf := (hs.o gm trivial rfl).2.trans f_m_kf
  replace f_b_sf := (hs.o g_qo_ln trivial rfl).2.trans f_b_sf
  replace f_m_sf := (hs.o gm trivial rfl).2.trans f_m_sf
  replace f_b_bf := (hs.o g_qo_ln trivial rfl).2.trans f_b_bf
  replace f_m_lst := (hs.o gm trivial rfl).2.trans f_m_lst
  replace f_qtp := (hs.o gx trivial rfl).2.trans f_qtp
  replace f_m_tp := (hs.o gm trivial rfl).2.trans f_m_tp
  replace f_m_dead := (hs.o gm trivial rfl).2.trans f_m_dead
  replace f_m_isj := (hs.o gm trivial rfl).2.trans f_m_isj
  replace f_m_dox := (hs.o gm trivial rfl).2.trans f_m_dox
  replace f_m_doy := (hs.o gm trivial rfl).2.trans f_m_doy
  replace f_qlt := (hs.o g_qw trivial rfl).2.trans f_qlt
  replace f_qlf := (hs.o g_qw trivial rfl).2.trans f_qlf
  replace f_m_wkd := (hs.o gm trivial rfl).2.trans f_m_wkd
  replace f_m_aga := (hs.o gm trivial rfl).2.trans f_m_aga
  replace f_qwo := (hs.o gx trivial rfl).2.trans f_qwo
  replace f_m_ad := (hs.o gm trivial rfl).2.trans f_m_ad
  replace f_m_by := (hs.o gm trivial rfl).2.trans f_m_by
  replace f_m_ho := (hs.o gm trivial rfl).2.trans f_m_ho
  replace f_m_fc := (hs.o gm trivial rfl).2.trans f_m_fc
  replace f_m_nt := (hs.o gm trivial rfl).2.trans f_m_nt
  replace f_m_wt := (hs.o gm trivial rfl).2.trans f_m_wt
  replace f_m_be := (hs.o gm trivial rfl).2.trans f_m_be
  replace f_m_bor := (hs.o gm trivial rfl).2.trans f_m_bor
  replace f_m_kin := (hs.o gm trivial rfl).2.trans f_m_kin
  replace f_m_sum := (hs.o gm trivial rfl).2.trans f_m_sum
  replace f_m_fro := (hs.o gm trivial rfl).2.trans f_m_fro
  replace f_m_fil := (hs.o gm trivial rfl).2.trans f_m_fil
  replace f_m_jud := (hs.o gm trivial rfl).2.trans f_m_jud
  replace f_m_ear := (hs.o gm trivial rfl).2.trans f_m_ear
  replace f_m_hds := (hs.o gm trivial rfl).2.trans f_m_hds
  replace f_m_ord := (hs.o gm trivial rfl).2.trans f_m_ord
  replace f_m_wkl := (hs.o gm trivial rfl).2.trans f_m_wkl
  replace f_m_owd := (hs.o gm trivial rfl).2.trans f_m_owd
  replace f_m_gds := (hs.o gm trivial rfl).2.trans f_m_gds
  replace f_m_szd := (hs.o gm trivial rfl).2.trans f_m_szd
  replace f_m_srv := (hs.o gm trivial rfl).2.trans f_m_srv
  replace f_y_p0 := (hs.o g_qo_py trivial rfl).2.trans f_y_p0
  replace f_m_p0 := (hs.o gm trivial rfl).2.trans f_m_p0
  replace f_y_p1 := (hs.o g_qo_py trivial rfl).2.trans f_y_p1
  replace f_m_p1 := (hs.o gm trivial rfl).2.trans f_m_p1
  replace f_y_p2 := (hs.o g_qo_py trivial rfl).2.trans f_y_p2
  replace f_m_p2 := (hs.o gm trivial rfl).2.trans f_m_p2
  replace f_y_p3 := (hs.o g_qo_py trivial rfl).2.trans f_y_p3
  replace f_m_p3 := (hs.o gm trivial rfl).2.trans f_m_p3
  replace f_y_p4 := (hs.o g_qo_py trivial rfl).2.trans f_y_p4
  replace f_m_p4 := (hs.o gm trivial rfl).2.trans f_m_p4
  replace f_qrg9 := (hs.o gx trivial rfl).2.trans f_qrg9
  replace f_y_ls := (hs.o g_qrg9 trivial rfl).2.trans f_y_ls
  replace f_m_rl := (hs.o gm trivial rfl).2.trans f_m_rl
  replace ffv_79 := (hs.o g_qrg9 trivial rfl).1.trans ffv_79
  replace ffv_80 := (hs.o gm trivial rfl).1.trans ffv_80
  replace ffv_81 := (hs.o gm trivial rfl).1.trans ffv_81
  replace fw_91 := (hs.o gx trivial rfl).1.trans fw_91
  replace fw_92 := (hs.o gx trivial rfl).1.trans fw_92
  replace fq_95 := (hs.o gm trivial rfl).2.trans fq_95
  replace fq_96 := (hs.o gm trivial rfl).2.trans fq_96
  replace fq_97 := (hs.o gm trivial rfl).2.trans fq_97
  replace pf_qp : ∀ j : Nat, (j : Int) < (h_102.2.1 ax 8).toInt → h_102.2.2 qp j ≠ none := by
    intro j hj; rw [(hs.o gx trivial rfl).1] at hj; rw [(hs.a g_qp rfl j).2]; exact pf_qp j hj
  replace pf_qc : ∀ j : Nat, (j : Int) < (h_102.2.1 ax 11).toInt → h_102.2.2 qc j ≠ none := by
    intro j hj; rw [(hs.o gx trivial rfl).1] at hj; rw [(hs.a g_qc rfl j).2]; exact pf_qc j hj
  replace pf_qh : ∀ j : Nat, (j : Int) < (h_102.2.1 ax 13).toInt → h_102.2.2 qh j ≠ none := by
    intro j hj; rw [(hs.o gx trivial rfl).1] at hj; rw [(hs.a g_qh rfl j).2]; exact pf_qh j hj
  replace pf_ql : ∀ j : Nat, (j : Int) < (h_102.2.1 qw 0).toInt → h_102.2.2 ql j ≠ none := by
    intro j hj; rw [(hs.o g_qw trivial rfl).1] at hj; rw [(hs.a g_ql rfl j).2]; exact pf_ql j hj
  replace pf_90 : ∀ j : Nat, (j : Int) < (h_102.2.1 ax 6).toInt → h_102.2.2 qa j ≠ none := by
    intro j hj; rw [(hs.o gx trivial rfl).1] at hj; rw [(hs.a g_qa rfl j).2]; exact pf_90 j hj
  replace cl_lst : hx_col 8 h_102 ql 0 = c_lst := (hx_col_S hs hTo g_ql tt_40 tt_2 rfl rfl).trans cl_lst
  replace cl_dead : hx_col 40 h_102 qp 7 = c_dead := (hx_col_S hs hTo g_qp tt_44 tt_4 rfl rfl).trans cl_dead
  replace cl_isj : hx_col 40 h_102 qp 8 = c_isj := (hx_col_S hs hTo g_qp tt_44 tt_4 rfl rfl).trans cl_isj
  replace cl_dox : hx_col 40 h_102 qp 5 = c_dox := (hx_col_S hs hTo g_qp tt_44 tt_4 rfl rfl).trans cl_dox
  replace cl_doy : hx_col 40 h_102 qp 6 = c_doy := (hx_col_S hs hTo g_qp tt_44 tt_4 rfl rfl).trans cl_doy
  replace cl_fou : hx_col 100 h_102 qc 10 = c_fou := (hx_col_S hs hTo g_qc tt_45 tt_2 rfl rfl).trans cl_fou
  replace cl_tri : hx_col 100 h_102 qc 9 = c_tri := (hx_col_S hs hTo g_qc tt_45 tt_2 rfl rfl).trans cl_tri
  replace cl_bor : hx_col 40 h_102 qp 1 = F_bor := (hx_col_S hs hTo g_qp tt_44 tt_4 rfl rfl).trans cl_bor
  replace cl_kin : hx_col 40 h_102 qp 2 = F_kin := (hx_col_S hs hTo g_qp tt_44 tt_4 rfl rfl).trans cl_kin
  replace cl_sum : hx_col 100 h_102 qc 6 = F_sum := (hx_col_S hs hTo g_qc tt_45 tt_2 rfl rfl).trans cl_sum
  replace cl_fro : hx_col 100 h_102 qc 7 = F_fro := (hx_col_S hs hTo g_qc tt_45 tt_2 rfl rfl).trans cl_fro
  replace cl_fil : hx_col 100 h_102 qc 8 = F_fil := (hx_col_S hs hTo g_qc tt_45 tt_2 rfl rfl).trans cl_fil
  replace cl_hea : hx_col 100 h_102 qc 11 = F_mh := (hx_col_S hs hTo g_qc tt_45 tt_2 rfl rfl).trans cl_hea
  replace cl_jud : hx_col 100 h_102 qc 12 = F_jud := (hx_col_S hs hTo g_qc tt_45 tt_2 rfl rfl).trans cl_jud
  replace cl_ear : hx_col 40 h_102 qp 3 = F_ear := (hx_col_S hs hTo g_qp tt_44 tt_4 rfl rfl).trans cl_ear
  replace cl_hds : hx_col 40 h_102 qp 4 = F_hds := (hx_col_S hs hTo g_qp tt_44 tt_4 rfl rfl).trans cl_hds
  replace cl_ord : hx_col 100 h_102 qc 13 = F_ord := (hx_col_S hs hTo g_qc tt_45 tt_2 rfl rfl).trans cl_ord
  replace cl_wkl : hx_col 100 h_102 qc 14 = F_wkl := (hx_col_S hs hTo g_qc tt_45 tt_2 rfl rfl).trans cl_wkl
  replace cl_owd : hx_col 100 h_102 qc 15 = F_owd := (hx_col_S hs hTo g_qc tt_45 tt_2 rfl rfl).trans cl_owd
  replace cl_gds : hx_col 100 h_102 qc 17 = F_gds := (hx_col_S hs hTo g_qc tt_45 tt_2 rfl rfl).trans cl_gds
  replace cl_szd : hx_col 100 h_102 qc 16 = F_szd := (hx_col_S hs hTo g_qc tt_45 tt_2 rfl rfl).trans cl_szd
  replace cl_srv : hx_col 100 h_102 qc 18 = F_srv := (hx_col_S hs hTo g_qc tt_45 tt_2 rfl rfl).trans cl_srv
  replace nu_qp : hx_num 40 h_102 qp 0 (np.toInt) := hx_num_S hs hTo g_qp tt_44 tt_4 rfl rfl nu_qp
  replace nu_qc : hx_num 100 h_102 qc 0 (c0.toInt) := hx_num_S hs hTo g_qc tt_45 tt_2 rfl rfl nu_qc
  replace sb_list : hx_LQ 8 100 h_102 ql qc := hx_LQ_S hs g_ql g_qc rfl rfl sb_list
  replace hDF : hw_DF h_102 qc qp 2 F_aga c0.toInt := hw_DF_S hs hTo g_qc g_qp tt_45 tt_2 rfl rfl rfl hDF
  replace hDP : hw_DF h_102 qc qp 1 F_by c0.toInt := hw_DF_S hs hTo g_qc g_qp tt_45 tt_2 rfl rfl rfl hDP
  replace hAC9 : hv_AC h_102 qc F_ml c0.toInt A9 := hv_AC_S hs hTo g_qc tt_45 tt_2 rfl tt_0 rfl rfl rfl rfl rfl rfl rfl hAC9
  replace hFX : hv_FX 8 4 h_102 qc cF9L c0.toInt := hv_FX_S hs hTo g_qc tt_45 tt_2 rfl rfl rfl rfl hFX
  replace hBX : hv_FX 3 5 h_102 qc F_be c0.toInt := hv_FX_S hs hTo g_qc tt_45 tt_2 rfl rfl rfl rfl hBX
  replace hHL : hv_HL h_102 qh qc F_ho m0.toInt c0.toInt := hv_HL_S hs g_qh g_qc rfl rfl hHL
  replace hRA19 : hv_RA h_102 qa qwo w_91.toInt A1_9 := hv_RA_S hs hTo g_qa g_qwo tt_43 tt_0 rfl rfl rfl rfl rfl rfl ?o28 hRA19
  case o28 => omega
  replace n_mw : h_102.2.1 mw = F_mw := (funext fun j => (hs.a g_mw rfl j).1).trans n_mw
  replace n_ml : h_102.2.1 ml = F_ml := (funext fun j => (hs.a g_ml rfl j).1).trans n_ml
  replace n_mh : h_102.2.1 mh = F_mh := (funext fun j => (hs.a g_mh rfl j).1).trans n_mh
  replace n_mt : h_102.2.1 mt = F_mt := (funext fun j => (hs.a g_mt rfl j).1).trans n_mt
  replace n_m_fou : h_102.2.1 m_fou = F_m_fou := (funext fun j => (hs.a g_m_fou rfl j).1).trans n_m_fou
  replace n_b_of : h_102.2.1 b_of = B_of := (funext fun j => (hs.a g_b_of rfl j).1).trans n_b_of
  replace n_m_of : h_102.2.1 m_of = F_of := (funext fun j => (hs.a g_m_of rfl j).1).trans n_m_of
  replace n_b_wf : h_102.2.1 b_wf = B_wf := (funext fun j => (hs.a g_b_wf rfl j).1).trans n_b_wf
  replace n_m_wf : h_102.2.1 m_wf = F_wf := (funext fun j => (hs.a g_m_wf rfl j).1).trans n_m_wf
  replace n_b_df : h_102.2.1 b_df = B_df := (funext fun j => (hs.a g_b_df rfl j).1).trans n_b_df
  replace n_m_df : h_102.2.1 m_df = F_df := (funext fun j => (hs.a g_m_df rfl j).1).trans n_m_df
  replace n_b_kf : h_102.2.1 b_kf = B_kf := (funext fun j => (hs.a g_b_kf rfl j).1).trans n_b_kf
  replace n_m_kf : h_102.2.1 m_kf = F_kf := (funext fun j => (hs.a g_m_kf rfl j).1).trans n_m_kf
  replace n_b_sf : h_102.2.1 b_sf = B_sf := (funext fun j => (hs.a g_b_sf rfl j).1).trans n_b_sf
  replace n_m_sf : h_102.2.1 m_sf = F_sf := (funext fun j => (hs.a g_m_sf rfl j).1).trans n_m_sf
  replace n_b_bf : h_102.2.1 b_bf = bfL := (funext fun j => (hs.a g_b_bf rfl j).1).trans n_b_bf
  replace n_lst : h_102.2.1 m_lst = F_lst := (funext fun j => (hs.a g_m_lst rfl j).1).trans n_lst
  replace n_tp : h_102.2.1 m_tp = F_tp := (funext fun j => (hs.a g_m_tp rfl j).1).trans n_tp
  replace n_qtp : h_102.2.1 qtp = F_tp := (funext fun j => (hs.a g_qtp rfl j).1).trans n_qtp
  replace n_dead : h_102.2.1 m_dead = F_dead := (funext fun j => (hs.a g_m_dead rfl j).1).trans n_dead
  replace n_isj : h_102.2.1 m_isj = F_isj := (funext fun j => (hs.a g_m_isj rfl j).1).trans n_isj
  replace n_dox : h_102.2.1 m_dox = F_dox := (funext fun j => (hs.a g_m_dox rfl j).1).trans n_dox
  replace n_doy : h_102.2.1 m_doy = F_doy := (funext fun j => (hs.a g_m_doy rfl j).1).trans n_doy
  replace n_qlt : h_102.2.1 qlt = F_qlt := (funext fun j => (hs.a g_qlt rfl j).1).trans n_qlt
  replace n_m_wkd : h_102.2.1 m_wkd = F_m_wkd := (funext fun j => (hs.a g_m_wkd rfl j).1).trans n_m_wkd
  replace n_aga : h_102.2.1 m_aga = F_aga := (funext fun j => (hs.a g_m_aga rfl j).1).trans n_aga
  replace n_by : h_102.2.1 m_by = F_by := (funext fun j => (hs.a g_m_by rfl j).1).trans n_by
  replace n_ho : h_102.2.1 m_ho = F_ho := (funext fun j => (hs.a g_m_ho rfl j).1).trans n_ho
  replace n_fc : h_102.2.1 m_fc = F_fc := (funext fun j => (hs.a g_m_fc rfl j).1).trans n_fc
  replace n_nt : h_102.2.1 m_nt = F_nt := (funext fun j => (hs.a g_m_nt rfl j).1).trans n_nt
  replace n_wt : h_102.2.1 m_wt = F_wt := (funext fun j => (hs.a g_m_wt rfl j).1).trans n_wt
  replace n_be : h_102.2.1 m_be = F_be := (funext fun j => (hs.a g_m_be rfl j).1).trans n_be
  replace n_bor : h_102.2.1 m_bor = F_bor := (funext fun j => (hs.a g_m_bor rfl j).1).trans n_bor
  replace n_kin : h_102.2.1 m_kin = F_kin := (funext fun j => (hs.a g_m_kin rfl j).1).trans n_kin
  replace n_sum : h_102.2.1 m_sum = F_sum := (funext fun j => (hs.a g_m_sum rfl j).1).trans n_sum
  replace n_fro : h_102.2.1 m_fro = F_fro := (funext fun j => (hs.a g_m_fro rfl j).1).trans n_fro
  replace n_fil : h_102.2.1 m_fil = F_fil := (funext fun j => (hs.a g_m_fil rfl j).1).trans n_fil
  replace n_jud : h_102.2.1 m_jud = F_jud := (funext fun j => (hs.a g_m_jud rfl j).1).trans n_jud
  replace n_ear : h_102.2.1 m_ear = F_ear := (funext fun j => (hs.a g_m_ear rfl j).1).trans n_ear
  replace n_hds : h_102.2.1 m_hds = F_hds := (funext fun j => (hs.a g_m_hds rfl j).1).trans n_hds
  replace n_ord : h_102.2.1 m_ord = F_ord := (funext fun j => (hs.a g_m_ord rfl j).1).trans n_ord
  replace n_wkl : h_102.2.1 m_wkl = F_wkl := (funext fun j => (hs.a g_m_wkl rfl j).1).trans n_wkl
  replace n_owd : h_102.2.1 m_owd = F_owd := (funext fun j => (hs.a g_m_owd rfl j).1).trans n_owd
  replace n_gds : h_102.2.1 m_gds = F_gds := (funext fun j => (hs.a g_m_gds rfl j).1).trans n_gds
  replace n_szd : h_102.2.1 m_szd = F_szd := (funext fun j => (hs.a g_m_szd rfl j).1).trans n_szd
  replace n_srv : h_102.2.1 m_srv = F_srv := (funext fun j => (hs.a g_m_srv rfl j).1).trans n_srv
  replace n_p0 : h_102.2.1 m_p0 = F_p0 := (funext fun j => (hs.a g_m_p0 rfl j).1).trans n_p0
  replace n_y_p0 : h_102.2.1 y_p0 = F_p0 := (funext fun j => (hs.a g_y_p0 rfl j).1).trans n_y_p0
  replace n_p1 : h_102.2.1 m_p1 = F_p1 := (funext fun j => (hs.a g_m_p1 rfl j).1).trans n_p1
  replace n_y_p1 : h_102.2.1 y_p1 = F_p1 := (funext fun j => (hs.a g_y_p1 rfl j).1).trans n_y_p1
  replace n_p2 : h_102.2.1 m_p2 = F_p2 := (funext fun j => (hs.a g_m_p2 rfl j).1).trans n_p2
  replace n_y_p2 : h_102.2.1 y_p2 = F_p2 := (funext fun j => (hs.a g_y_p2 rfl j).1).trans n_y_p2
  replace n_p3 : h_102.2.1 m_p3 = F_p3 := (funext fun j => (hs.a g_m_p3 rfl j).1).trans n_p3
  replace n_y_p3 : h_102.2.1 y_p3 = F_p3 := (funext fun j => (hs.a g_y_p3 rfl j).1).trans n_y_p3
  replace n_p4 : h_102.2.1 m_p4 = F_p4 := (funext fun j => (hs.a g_m_p4 rfl j).1).trans n_p4
  replace n_y_p4 : h_102.2.1 y_p4 = F_p4 := (funext fun j => (hs.a g_y_p4 rfl j).1).trans n_y_p4
  replace n_y_ls : h_102.2.1 y_ls = F_y_ls := (funext fun j => (hs.a g_y_ls rfl j).1).trans n_y_ls
  replace n_m_rl : h_102.2.1 m_rl = F_m_rl := (funext fun j => (hs.a g_m_rl rfl j).1).trans n_m_rl
  replace gx := gx.S hs
  replace gm := gm.S hs
  replace g_qa := g_qa.S hs
  replace g_qp := g_qp.S hs
  replace g_qc := g_qc.S hs
  replace g_qh := g_qh.S hs
  replace g_qw := g_qw.S hs
  replace g_ql := g_ql.S hs
  replace g_mw := g_mw.S hs
  replace g_mr := g_mr.S hs
  replace g_mp := g_mp.S hs
  replace g_mn := g_mn.S hs
  replace g_ml := g_ml.S hs
  replace g_mh := g_mh.S hs
  replace g_mt := g_mt.S hs
  replace g_m_fou := g_m_fou.S hs
  replace g_qo_ln := g_qo_ln.S hs
  replace g_qo_py := g_qo_py.S hs
  replace g_b_of := g_b_of.S hs
  replace g_m_of := g_m_of.S hs
  replace g_b_wf := g_b_wf.S hs
  replace g_m_wf := g_m_wf.S hs
  replace g_b_df := g_b_df.S hs
  replace g_m_df := g_m_df.S hs
  replace g_b_kf := g_b_kf.S hs
  replace g_m_kf := g_m_kf.S hs
  replace g_b_sf := g_b_sf.S hs
  replace g_m_sf := g_m_sf.S hs
  replace g_b_bf := g_b_bf.S hs
  replace g_m_lst := g_m_lst.S hs
  replace g_qtp := g_qtp.S hs
  replace g_m_tp := g_m_tp.S hs
  replace g_m_dead := g_m_dead.S hs
  replace g_m_isj := g_m_isj.S hs
  replace g_m_dox := g_m_dox.S hs
  replace g_m_doy := g_m_doy.S hs
  replace g_qlt := g_qlt.S hs
  replace g_qlf := g_qlf.S hs
  replace g_m_wkd := g_m_wkd.S hs
  replace g_m_aga := g_m_aga.S hs
  replace g_qwo := g_qwo.S hs
  replace g_m_ad := g_m_ad.S hs
  replace g_m_by := g_m_by.S hs
  replace g_m_ho := g_m_ho.S hs
  replace g_m_fc := g_m_fc.S hs
  replace g_m_nt := g_m_nt.S hs
  replace g_m_wt := g_m_wt.S hs
  replace g_m_be := g_m_be.S hs
  replace g_m_bor := g_m_bor.S hs
  replace g_m_kin := g_m_kin.S hs
  replace g_m_sum := g_m_sum.S hs
  replace g_m_fro := g_m_fro.S hs
  replace g_m_fil := g_m_fil.S hs
  replace g_m_jud := g_m_jud.S hs
  replace g_m_ear := g_m_ear.S hs
  replace g_m_hds := g_m_hds.S hs
  replace g_m_ord := g_m_ord.S hs
  replace g_m_wkl := g_m_wkl.S hs
  replace g_m_owd := g_m_owd.S hs
  replace g_m_gds := g_m_gds.S hs
  replace g_m_szd := g_m_szd.S hs
  replace g_m_srv := g_m_srv.S hs
  replace g_y_p0 := g_y_p0.S hs
  replace g_m_p0 := g_m_p0.S hs
  replace g_y_p1 := g_y_p1.S hs
  replace g_m_p1 := g_m_p1.S hs
  replace g_y_p2 := g_y_p2.S hs
  replace g_m_p2 := g_m_p2.S hs
  replace g_y_p3 := g_y_p3.S hs
  replace g_m_p3 := g_m_p3.S hs
  replace g_y_p4 := g_y_p4.S hs
  replace g_m_p4 := g_m_p4.S hs
  replace g_qrg9 := g_qrg9.S hs
  replace g_y_ls := g_y_ls.S hs
  replace g_m_rl := g_m_rl.S hs
  replace gq_95 := gq_95.S hs
  replace gq_96 := gq_96.S hs
  replace gq_97 := gq_97.S hs
  have fw_106 : h_102.2.1 am 1 = w_106 := fw_106
  have bw_106 := hT.gi gm tt_10 (k := 1) rfl
  rw [fw_106] at bw_106
  have bw_106 : 0 ≤ w_106.toInt ∧ w_106.toInt ≤ 8 := bw_106
  have fw_107 : h_102.2.1 am 7 = w_107 := fw_107
  have bw_107 := hT.gi gm tt_10 (k := 7) rfl
  rw [fw_107] at bw_107
  have bw_107 : 0 ≤ w_107.toInt ∧ w_107.toInt ≤ 400 := bw_107
  have fw_108 : h_102.2.1 mr = w_108 := fw_108
  have fw_109 : h_102.2.1 mn = w_109 := fw_109
  have fw_110 : h_102.2.1 mp = w_110 := fw_110
  have fw_111 : h_102.2.1 m_ad = w_111 := fw_111
  obtain ⟨A2_9, hAU29, hCA29⟩ := hr_105.2.2.2.2
  refine lv_pop hx hb dL_law_300 rfl ?_
  refine lv_goto (tgt := 1379) hx hb dL_law_301 ?o29 ?_
  case o29 => decide
  obtain ⟨heqr, zq_a0, zq_tl⟩ := hv_AN_eq hr_89 hr_105.2.2.2.1 Iff.rfl rfl rfl rfl; have heq := congrArg Int32.toInt heqr; have hq_a0 : w_91 = w_106 := Int32.toInt_inj.mp zq_a0; have hq_tl : w_92 = w_107 := Int32.toInt_inj.mp zq_tl
  have hAA := hv_AU_eq hAU9 (by rw [zq_a0]; exact hAU29); have hCA39 := hCA29; rw [← hAA, ← zq_a0] at hCA39
  have hbR9 : ∀ k, k < 117 → 0 ≤ (w_108 k).toInt ∧ (w_108 k).toInt ≤ 9999 := fun k hk => by have w := hT.ei g_mr tt_50 (k := k) hk; rw [fw_108] at w; exact w
  have hABn := hv_AB_u hAU9 (fun _ => hv_ACT_v) hAB hCA39 ?o30 ?o31 hbR9
  case o30 => omega
  case o31 => omega
  have hACa := hv_AC_a hAC9 (fun c hc => (hPL (c : Int) ?o32 hc).2) (hv_AU_o hAU9 ?o33)
  case o32 => omega
  case o33 => omega
  refine W.widen (k := CC + 3) (n := SS + 179) ?o34 ?o35 ?_
  case o34 => omega
  case o35 => omega
  refine kk L_101 h_102 H locs ls hW ⟨hT, gx, gm, ⟨f_x_now.trans f_m_now.symm, f_x_personCount.trans f_m_persons.symm, f_x_claimCount.trans f_m_claims.symm, (fw_92.trans hq_tl).trans fw_107.symm, (fw_91.trans hq_a0).trans fw_106.symm, f_x_heardCount.trans f_m_heardMany.symm, hx_ob f_qo_ln (f_o_ln.trans f_m_lines.symm), hx_ob f_qw (f_o_lsd.trans f_m_listed.symm), hx_ob f_qw (f_o_wkm.trans f_m_walkedMany.symm), hx_ob f_qo_py (f_o_py.trans f_m_payments.symm), hx_ob f_qp ?o36, hx_ob f_qc ?o37, (fun b a r hb ha hr => ?o38), (fun b a r hb ha hr => ?o39), (fun b a r hb ha hr => ?o40), (fun b a r hb ha hr => ?o41), (fun b a r hb ha hr => ?o42), (fun b a r hb ha hr => ?o43), (fun w q c hw hq hc => ?o44), (fun w q r hw hq hr => ?o45), (fun w q r hw hq hr => ?o46), (fun c q a hc hq ha => ?o47), (fun q r hq hr => ?o48), (fun q w a b c d e p hq hw ha hb hc hd he hp => ?o49), (fun c q a hc hq ha => ?o50), (fun q c a hq hc ha => ?o51), (fun a b ha hb => ?o52), (fun c a b d e f hc ha hb hd he hf => ?o53), (fun c a hc ha => ?o54), hx_ob2 f_qp f_m_bor (cl_bor.trans n_bor.symm), hx_ob2 f_qp f_m_kin (cl_kin.trans n_kin.symm), hx_ob2 f_qc f_m_sum (cl_sum.trans n_sum.symm), hx_ob2 f_qc f_m_fro (cl_fro.trans n_fro.symm), hx_ob2 f_qc f_m_fil (cl_fil.trans n_fil.symm), hx_ob2 f_qc f_mh (cl_hea.trans n_mh.symm), hx_ob2 f_qc f_m_jud (cl_jud.trans n_jud.symm), hx_ob2 f_qp f_m_ear (cl_ear.trans n_ear.symm), hx_ob2 f_qp f_m_hds (cl_hds.trans n_hds.symm), hx_ob2 f_qc f_m_ord (cl_ord.trans n_ord.symm), hx_ob2 f_qc f_m_wkl (cl_wkl.trans n_wkl.symm), hx_ob2 f_qc f_m_owd (cl_owd.trans n_owd.symm), hx_ob2 f_qc f_m_gds (cl_gds.trans n_gds.symm), hx_ob2 f_qc f_m_szd (cl_szd.trans n_szd.symm), hx_ob2 f_qc f_m_srv (cl_srv.trans n_srv.symm), (fun p q r hp hq hr => ?o55), (fun p q r hp hq hr => ?o56), (fun p q r hp hq hr => ?o57), (fun p q r hp hq hr => ?o58), (fun p q r hp hq hr => ?o59), (fun p hp => ?o60), (fun p q r hp hq hr => ?o61), hx_ob2 f_qp f_m_dead ?o62, hx_ob2 f_qp f_m_isj ?o63, hx_ob2 f_qp f_m_dox ?o64, hx_ob2 f_qp f_m_doy ?o65, hx_ob2 f_qc f_m_fou ?o66, hx_ob2 f_qc f_mt ?o67, trivial⟩, ⟨hx_ob f_qa pf_90, hx_ob f_qp pf_qp, hx_ob f_qc pf_qc, hx_ob f_qh pf_qh, (fun w q hw hq => ?o68)⟩, ⟨hx_ob f_mw ?o69, hx_ob f_mr ?o70, hx_ob2 f_mp f_mn ?o71, hx_ob f_ml ?o72, hx_ob f_mh ?o73, hx_ob f_mt ?o74, hx_ob2 f_mh f_m_fou ?o76⟩⟩ hl
  case o36 =>
    rw [f_x_personCount]
    exact nu_qp
  case o37 =>
    rw [f_x_claimCount]
    exact nu_qc
  case o38 =>
    obtain rfl : qo_ln = b := Option.some.inj (f_qo_ln.symm.trans hb)
    obtain rfl : b_of = a := Option.some.inj (f_b_of.symm.trans ha)
    obtain rfl : m_of = r := Option.some.inj (f_m_of.symm.trans hr)
    rw [n_b_of, n_m_of, f_o_ln]
    exact eb_of
  case o39 =>
    obtain rfl : qo_ln = b := Option.some.inj (f_qo_ln.symm.trans hb)
    obtain rfl : b_wf = a := Option.some.inj (f_b_wf.symm.trans ha)
    obtain rfl : m_wf = r := Option.some.inj (f_m_wf.symm.trans hr)
    rw [n_b_wf, n_m_wf, f_o_ln]
    exact eb_wf
  case o40 =>
    obtain rfl : qo_ln = b := Option.some.inj (f_qo_ln.symm.trans hb)
    obtain rfl : b_df = a := Option.some.inj (f_b_df.symm.trans ha)
    obtain rfl : m_df = r := Option.some.inj (f_m_df.symm.trans hr)
    rw [n_b_df, n_m_df, f_o_ln]
    exact eb_df
  case o41 =>
    obtain rfl : qo_ln = b := Option.some.inj (f_qo_ln.symm.trans hb)
    obtain rfl : b_kf = a := Option.some.inj (f_b_kf.symm.trans ha)
    obtain rfl : m_kf = r := Option.some.inj (f_m_kf.symm.trans hr)
    rw [n_b_kf, n_m_kf, f_o_ln]
    exact eb_kf
  case o42 =>
    obtain rfl : qo_ln = b := Option.some.inj (f_qo_ln.symm.trans hb)
    obtain rfl : b_sf = a := Option.some.inj (f_b_sf.symm.trans ha)
    obtain rfl : m_sf = r := Option.some.inj (f_m_sf.symm.trans hr)
    rw [n_b_sf, n_m_sf, f_o_ln]
    exact eb_sf
  case o43 =>
    obtain rfl : qo_ln = b := Option.some.inj (f_qo_ln.symm.trans hb)
    obtain rfl : b_df = a := Option.some.inj (f_b_df.symm.trans ha)
    obtain rfl : b_bf = r := Option.some.inj (f_b_bf.symm.trans hr)
    rw [n_b_df, n_b_bf, f_o_ln]
    exact ⟨hBD, hDY⟩
  case o44 =>
    obtain rfl : qw = w := Option.some.inj (f_qw.symm.trans hw)
    obtain rfl : ql = q := Option.some.inj (f_ql.symm.trans hq)
    obtain rfl : qc = c := Option.some.inj (f_qc.symm.trans hc)
    exact sb_list
  case o45 =>
    obtain rfl : qw = w := Option.some.inj (f_qw.symm.trans hw)
    obtain rfl : ql = q := Option.some.inj (f_ql.symm.trans hq)
    obtain rfl : m_lst = r := Option.some.inj (f_m_lst.symm.trans hr)
    rw [cl_lst, n_lst]
    exact eq_lst
  case o46 =>
    obtain rfl : qw = w := Option.some.inj (f_qw.symm.trans hw)
    obtain rfl : qlt = q := Option.some.inj (f_qlt.symm.trans hq)
    obtain rfl : m_wkd = r := Option.some.inj (f_m_wkd.symm.trans hr)
    rw [n_qlt, n_m_wkd, f_o_wkm]
    exact eb_wkd
  case o47 =>
    obtain rfl : qc = c := Option.some.inj (f_qc.symm.trans hc)
    obtain rfl : qp = q := Option.some.inj (f_qp.symm.trans hq)
    obtain rfl : m_aga = a := Option.some.inj (f_m_aga.symm.trans ha)
    rw [n_aga, f_x_claimCount]
    exact hw_DF_e hDF rfl rfl
  case o48 =>
    obtain rfl : qtp = q := Option.some.inj (f_qtp.symm.trans hq)
    obtain rfl : m_tp = r := Option.some.inj (f_m_tp.symm.trans hr)
    exact n_qtp.trans n_tp.symm
  case o49 =>
    obtain rfl : qa = q := Option.some.inj (f_qa.symm.trans hq)
    obtain rfl : qwo = w := Option.some.inj (f_qwo.symm.trans hw)
    obtain rfl : m_ad = a := Option.some.inj (f_m_ad.symm.trans ha)
    obtain rfl : mr = b := Option.some.inj (f_mr.symm.trans hb)
    obtain rfl : mn = c := Option.some.inj (f_mn.symm.trans hc)
    obtain rfl : mp = d := Option.some.inj (f_mp.symm.trans hd)
    obtain rfl : qc = e := Option.some.inj (f_qc.symm.trans he)
    obtain rfl : ml = p := Option.some.inj (f_ml.symm.trans hp)
    exact ⟨_, by rw [fw_91]; exact hRA19, by rw [fw_91, fw_111, fw_108, fw_109, fw_110]; exact hCA39, by rw [n_ml, f_x_claimCount]; exact hv_AC_e hACa rfl rfl rfl, hABn⟩
  case o50 =>
    obtain rfl : qc = c := Option.some.inj (f_qc.symm.trans hc)
    obtain rfl : qp = q := Option.some.inj (f_qp.symm.trans hq)
    obtain rfl : m_by = a := Option.some.inj (f_m_by.symm.trans ha)
    rw [n_by, f_x_claimCount]
    exact hw_DF_e hDP rfl rfl
  case o51 =>
    obtain rfl : qh = q := Option.some.inj (f_qh.symm.trans hq)
    obtain rfl : qc = c := Option.some.inj (f_qc.symm.trans hc)
    obtain rfl : m_ho = a := Option.some.inj (f_m_ho.symm.trans ha)
    rw [n_ho, f_x_heardCount, f_x_claimCount]
    exact hv_HL_e hHL rfl rfl rfl
  case o52 =>
    obtain rfl : m_ho = a := Option.some.inj (f_m_ho.symm.trans ha)
    obtain rfl : mh = b := Option.some.inj (f_mh.symm.trans hb)
    rw [n_ho, n_mh, f_m_heardMany, f_m_claims]
    exact hHO9
  case o53 =>
    obtain rfl : qc = c := Option.some.inj (f_qc.symm.trans hc)
    obtain rfl : m_fc = a := Option.some.inj (f_m_fc.symm.trans ha)
    obtain rfl : m_nt = b := Option.some.inj (f_m_nt.symm.trans hb)
    obtain rfl : m_wt = d := Option.some.inj (f_m_wt.symm.trans hd)
    obtain rfl : m_sum = e := Option.some.inj (f_m_sum.symm.trans he)
    obtain rfl : mh = f := Option.some.inj (f_mh.symm.trans hf)
    exact ⟨cF9L, by rw [f_x_claimCount]; exact hFX, by rw [n_fc, n_nt, n_wt, n_sum, n_mh, f_x_claimCount]; exact hFR9⟩
  case o54 =>
    obtain rfl : qc = c := Option.some.inj (f_qc.symm.trans hc)
    obtain rfl : m_be = a := Option.some.inj (f_m_be.symm.trans ha)
    rw [n_be, f_x_claimCount]
    exact hv_FX_e hBX rfl rfl
  case o55 =>
    obtain rfl : qo_py = p := Option.some.inj (f_qo_py.symm.trans hp)
    obtain rfl : y_p0 = q := Option.some.inj (f_y_p0.symm.trans hq)
    obtain rfl : m_p0 = r := Option.some.inj (f_m_p0.symm.trans hr)
    exact n_y_p0.trans n_p0.symm
  case o56 =>
    obtain rfl : qo_py = p := Option.some.inj (f_qo_py.symm.trans hp)
    obtain rfl : y_p1 = q := Option.some.inj (f_y_p1.symm.trans hq)
    obtain rfl : m_p1 = r := Option.some.inj (f_m_p1.symm.trans hr)
    exact n_y_p1.trans n_p1.symm
  case o57 =>
    obtain rfl : qo_py = p := Option.some.inj (f_qo_py.symm.trans hp)
    obtain rfl : y_p2 = q := Option.some.inj (f_y_p2.symm.trans hq)
    obtain rfl : m_p2 = r := Option.some.inj (f_m_p2.symm.trans hr)
    exact n_y_p2.trans n_p2.symm
  case o58 =>
    obtain rfl : qo_py = p := Option.some.inj (f_qo_py.symm.trans hp)
    obtain rfl : y_p3 = q := Option.some.inj (f_y_p3.symm.trans hq)
    obtain rfl : m_p3 = r := Option.some.inj (f_m_p3.symm.trans hr)
    exact n_y_p3.trans n_p3.symm
  case o59 =>
    obtain rfl : qo_py = p := Option.some.inj (f_qo_py.symm.trans hp)
    obtain rfl : y_p4 = q := Option.some.inj (f_y_p4.symm.trans hq)
    obtain rfl : m_p4 = r := Option.some.inj (f_m_p4.symm.trans hr)
    exact n_y_p4.trans n_p4.symm
  case o60 =>
    obtain rfl : qrg9 = p := Option.some.inj (f_qrg9.symm.trans hp)
    rw [ffv_79, ffv_80, ffv_81]
    exact hNQ9
  case o61 =>
    obtain rfl : qrg9 = p := Option.some.inj (f_qrg9.symm.trans hp)
    obtain rfl : y_ls = q := Option.some.inj (f_y_ls.symm.trans hq)
    obtain rfl : m_rl = r := Option.some.inj (f_m_rl.symm.trans hr)
    rw [n_y_ls, n_m_rl, ffv_79]
    exact hRL9
  case o62 =>
    rw [cl_dead, n_dead]
    exact eq_dead
  case o63 =>
    rw [cl_isj, n_isj]
    exact eq_isj
  case o64 =>
    rw [cl_dox, n_dox]
    exact eq_dox
  case o65 =>
    rw [cl_doy, n_doy]
    exact eq_doy
  case o66 =>
    rw [cl_fou, n_m_fou]
    exact eq_fou
  case o67 =>
    rw [cl_tri, n_mt]
    exact eq_tri
  case o68 =>
    obtain rfl : qw = w := Option.some.inj (f_qw.symm.trans hw)
    obtain rfl : ql = q := Option.some.inj (f_ql.symm.trans hq)
    exact pf_ql
  case o69 =>
    rw [n_mw]
    exact hwd
  case o70 =>
    rw [fw_108, fw_106]
    exact hr_105.2.1
  case o71 =>
    rw [fw_110, fw_109, fw_106]
    exact hr_105.2.2.1
  case o72 =>
    rw [n_ml, f_m_claims, fw_106]
    exact (hx_PL_le hPL hr_105.1)
  case o73 =>
    rw [n_mh, f_m_heardMany, f_m_claims]
    exact hHC
  case o74 =>
    rw [n_mt]
    refine (hx_TR_le hTR ?o75)
    case o75 => omega
  case o76 =>
    rw [n_mh, n_m_fou, f_m_claims]
    exact hHF

set_option maxHeartbeats 4000000 in
set_option maxRecDepth 100000 in
theorem law_case_4 {p : Program} {e : Env} {s : State} {m : MethodId} {below : List Frame} {meth : Method} {c : Code} (l : Launch) {b LN : Nat} {xs : Nat → Int32} (hx : p.tables.exec = Jvm.exec) (hb : c.code = code) (hr : meth.sig.returnType = ret) (hlocks : meth.locks = false) (hml : c.maxLocals = 4) (hown : s.vm.findClass "SmallCourtLaw" = some m.cls) (hts : ∀ w ∈ hx_all, w.before #[Value.ref b] s = true) (hX : va_X b LN xs s s.heap) (hbl : b < s.heap.size) (hbA : ¬ s.heap.size ≤ b) (hLN : LN ≤ 3584) (dC : Nat → ClassId) (dI : Nat → Nat → Nat) (dA : Nat → ClassId) (b0 : hx_z) (ax am : Nat) (T1 : Int) (hT0 : 0 ≤ T1) (hT1 : T1 ≤ 511) (i : Int32) (hi0 : 0 ≤ i.toInt) (hiL : i.toInt + 7 ≤ LN) (CC SS : Nat) (hCC : CC + 3 ≤ 600000) (hSS : SS + 179 ≤ 7302250) (L1 : List Nat) (hl1 : hx_h) (H : Heap) (locs : List Loc) (ls : Array Slot) (hW : hx_W T_tb (P_ty dA) (dC, dI) vwCl (fun q : Nat => s.heap.size ≤ q) s.heap L1 hl1 s H locs) (hZ : hx_Xt (fun q : Nat => s.heap.size ≤ q) b0 s) (hI : hx_IV T1 ax am L1 hl1) (hl : lv_has ls 4 [(3, .int i), (2, .ref am), (1, .ref ax), (0, .ref b)]) (kk : ∀ (L2 : List Nat) (h2 : hx_h) (H2 : Heap) (locs2 : List Loc) (ls2 : Array Slot), hx_W T_tb (P_ty dA) (dC, dI) vwCl (fun q : Nat => s.heap.size ≤ q) s.heap L2 h2 s H2 locs2 → hx_IV (T1 + 1) ax am L2 h2 → lv_has ls2 4 [(3, .int i), (2, .ref am), (1, .ref ax), (0, .ref b)] → W p l e room_1 s m #[Value.ref b] below meth c H2 locs2 (CC + 3) (SS + 179) (lw_Z below #[Value.ref b] s) (F0 m 1379 ls2 [])) : W p l e room_1 s m #[Value.ref b] below meth c H locs CC SS (lw_Z below #[Value.ref b] s) (F0 m 304 ls []) := by
  have hI9 := hI
  have hT := hI9.1
  replace hI9 := hI9.2
  have gx := hI9.1
  replace hI9 := hI9.2
  have gm := hI9.1
  replace hI9 := hI9.2
  have zq0_3 := hI9.1
  have he_nw := zq0_3.1
  replace zq0_3 := zq0_3.2
  have he_np := zq0_3.1
  replace zq0_3 := zq0_3.2
  have he_c0 := zq0_3.1
  replace zq0_3 := zq0_3.2
  have he_tl := zq0_3.1
  replace zq0_3 := zq0_3.2
  have he_a0 := zq0_3.1
  replace zq0_3 := zq0_3.2
  have he_m0 := zq0_3.1
  replace zq0_3 := zq0_3.2
  have ho_ln := zq0_3.1
  replace zq0_3 := zq0_3.2
  have ho_lsd := zq0_3.1
  replace zq0_3 := zq0_3.2
  have ho_wkm := zq0_3.1
  replace zq0_3 := zq0_3.2
  have ho_py := zq0_3.1
  replace zq0_3 := zq0_3.2
  have hn_qp := zq0_3.1
  replace zq0_3 := zq0_3.2
  have hn_qc := zq0_3.1
  replace zq0_3 := zq0_3.2
  have hk_of := zq0_3.1
  replace zq0_3 := zq0_3.2
  have hk_wf := zq0_3.1
  replace zq0_3 := zq0_3.2
  have hk_df := zq0_3.1
  replace zq0_3 := zq0_3.2
  have hk_kf := zq0_3.1
  replace zq0_3 := zq0_3.2
  have hk_sf := zq0_3.1
  replace zq0_3 := zq0_3.2
  have hkBD := zq0_3.1
  replace zq0_3 := zq0_3.2
  have hLQ := zq0_3.1
  replace zq0_3 := zq0_3.2
  have hLE := zq0_3.1
  replace zq0_3 := zq0_3.2
  have hkWD := zq0_3.1
  replace zq0_3 := zq0_3.2
  have hkDF := zq0_3.1
  replace zq0_3 := zq0_3.2
  have hkTP := zq0_3.1
  replace zq0_3 := zq0_3.2
  have hkAC := zq0_3.1
  replace zq0_3 := zq0_3.2
  have hkDP := zq0_3.1
  replace zq0_3 := zq0_3.2
  have hkHL := zq0_3.1
  replace zq0_3 := zq0_3.2
  have hkHO := zq0_3.1
  replace zq0_3 := zq0_3.2
  have hkFX := zq0_3.1
  replace zq0_3 := zq0_3.2
  have hkBX := zq0_3.1
  replace zq0_3 := zq0_3.2
  have hf_bor := zq0_3.1
  replace zq0_3 := zq0_3.2
  have hf_kin := zq0_3.1
  replace zq0_3 := zq0_3.2
  have hf_sum := zq0_3.1
  replace zq0_3 := zq0_3.2
  have hf_fro := zq0_3.1
  replace zq0_3 := zq0_3.2
  have hf_fil := zq0_3.1
  replace zq0_3 := zq0_3.2
  have hf_hea := zq0_3.1
  replace zq0_3 := zq0_3.2
  have hf_jud := zq0_3.1
  replace zq0_3 := zq0_3.2
  have hf_ear := zq0_3.1
  replace zq0_3 := zq0_3.2
  have hf_hds := zq0_3.1
  replace zq0_3 := zq0_3.2
  have hf_ord := zq0_3.1
  replace zq0_3 := zq0_3.2
  have hf_wkl := zq0_3.1
  replace zq0_3 := zq0_3.2
  have hf_owd := zq0_3.1
  replace zq0_3 := zq0_3.2
  have hf_gds := zq0_3.1
  replace zq0_3 := zq0_3.2
  have hf_szd := zq0_3.1
  replace zq0_3 := zq0_3.2
  have hf_srv := zq0_3.1
  replace zq0_3 := zq0_3.2
  have hkP0 := zq0_3.1
  replace zq0_3 := zq0_3.2
  have hkP1 := zq0_3.1
  replace zq0_3 := zq0_3.2
  have hkP2 := zq0_3.1
  replace zq0_3 := zq0_3.2
  have hkP3 := zq0_3.1
  replace zq0_3 := zq0_3.2
  have hkP4 := zq0_3.1
  replace zq0_3 := zq0_3.2
  have hkNQ := zq0_3.1
  replace zq0_3 := zq0_3.2
  have hkRL := zq0_3.1
  replace zq0_3 := zq0_3.2
  have hc_dead := zq0_3.1
  replace zq0_3 := zq0_3.2
  have hc_isj := zq0_3.1
  replace zq0_3 := zq0_3.2
  have hc_dox := zq0_3.1
  replace zq0_3 := zq0_3.2
  have hc_doy := zq0_3.1
  replace zq0_3 := zq0_3.2
  have hc_fou := zq0_3.1
  replace zq0_3 := zq0_3.2
  have hc_tri := zq0_3.1
  replace zq0_3 := zq0_3.2
  replace hI9 := hI9.2
  have zq0_4 := hI9.1
  have ia := zq0_4.1
  replace zq0_4 := zq0_4.2
  have ip := zq0_4.1
  replace zq0_4 := zq0_4.2
  have ic := zq0_4.1
  replace zq0_4 := zq0_4.2
  have ih := zq0_4.1
  replace zq0_4 := zq0_4.2
  have il := zq0_4
  replace hI9 := hI9.2
  have zq0_5 := hI9
  have jw := zq0_5.1
  replace zq0_5 := zq0_5.2
  have jr := zq0_5.1
  replace zq0_5 := zq0_5.2
  have jp := zq0_5.1
  replace zq0_5 := zq0_5.2
  have jl := zq0_5.1
  replace zq0_5 := zq0_5.2
  have jh := zq0_5.1
  replace zq0_5 := zq0_5.2
  have jt := zq0_5.1
  replace zq0_5 := zq0_5.2
  have jf := zq0_5
  obtain ⟨qa, f_qa, g_qa⟩ := hx_rf hT gx tt_9 (k := 5) (u := 43) rfl
  have pf_qa := ia qa f_qa
  obtain ⟨qp, f_qp, g_qp⟩ := hx_rf hT gx tt_9 (k := 7) (u := 44) rfl
  have pf_qp := ip qp f_qp
  obtain ⟨qc, f_qc, g_qc⟩ := hx_rf hT gx tt_9 (k := 10) (u := 45) rfl
  have pf_qc := ic qc f_qc
  obtain ⟨qh, f_qh, g_qh⟩ := hx_rf hT gx tt_9 (k := 12) (u := 46) rfl
  have pf_qh := ih qh f_qh
  obtain ⟨qw, f_qw, g_qw⟩ := hx_rf hT gx tt_9 (k := 19) (u := 8) rfl
  obtain ⟨ql, f_ql, g_ql⟩ := hx_rf hT g_qw tt_8 (k := 3) (u := 40) rfl
  have pf_ql := il qw ql f_qw f_ql
  obtain ⟨nw, f_m_now⟩ : ∃ y : Int32, hl1.2.1 am 0 = y := ⟨_, rfl⟩
  have b_nw := hT.gi gm tt_10 (k := 0) rfl
  rw [f_m_now] at b_nw
  have b_nw : 0 ≤ nw.toInt ∧ nw.toInt ≤ 7999 := b_nw
  obtain ⟨np, f_m_persons⟩ : ∃ y : Int32, hl1.2.1 am 20 = y := ⟨_, rfl⟩
  have b_np := hT.gi gm tt_10 (k := 20) rfl
  rw [f_m_persons] at b_np
  have b_np : 0 ≤ np.toInt ∧ np.toInt ≤ 40 := b_np
  obtain ⟨c0, f_m_claims⟩ : ∃ y : Int32, hl1.2.1 am 36 = y := ⟨_, rfl⟩
  have b_c0 := hT.gi gm tt_10 (k := 36) rfl
  rw [f_m_claims] at b_c0
  have b_c0 : 0 ≤ c0.toInt ∧ c0.toInt ≤ 100 := b_c0
  obtain ⟨tl, f_m_taped⟩ : ∃ y : Int32, hl1.2.1 am 7 = y := ⟨_, rfl⟩
  have b_tl := hT.gi gm tt_10 (k := 7) rfl
  rw [f_m_taped] at b_tl
  have b_tl : 0 ≤ tl.toInt ∧ tl.toInt ≤ 400 := b_tl
  obtain ⟨a0, f_m_acts⟩ : ∃ y : Int32, hl1.2.1 am 1 = y := ⟨_, rfl⟩
  have b_a0 := hT.gi gm tt_10 (k := 1) rfl
  rw [f_m_acts] at b_a0
  have b_a0 : 0 ≤ a0.toInt ∧ a0.toInt ≤ 8 := b_a0
  obtain ⟨m0, f_m_heardMany⟩ : ∃ y : Int32, hl1.2.1 am 57 = y := ⟨_, rfl⟩
  have b_m0 := hT.gi gm tt_10 (k := 57) rfl
  rw [f_m_heardMany] at b_m0
  have b_m0 : 0 ≤ m0.toInt ∧ m0.toInt ≤ 100 := b_m0
  obtain ⟨ln, f_m_lines⟩ : ∃ y : Int32, hl1.2.1 am 29 = y := ⟨_, rfl⟩
  have b_ln := hT.gi gm tt_10 (k := 29) rfl
  rw [f_m_lines] at b_ln
  have b_ln : 0 ≤ ln.toInt ∧ ln.toInt ≤ 400 := b_ln
  obtain ⟨lsd, f_m_listed⟩ : ∃ y : Int32, hl1.2.1 am 90 = y := ⟨_, rfl⟩
  have b_lsd := hT.gi gm tt_10 (k := 90) rfl
  rw [f_m_listed] at b_lsd
  have b_lsd : 0 ≤ lsd.toInt ∧ lsd.toInt ≤ 8 := b_lsd
  obtain ⟨wkm, f_m_walkedMany⟩ : ∃ y : Int32, hl1.2.1 am 92 = y := ⟨_, rfl⟩
  have b_wkm := hT.gi gm tt_10 (k := 92) rfl
  rw [f_m_walkedMany] at b_wkm
  have b_wkm : 0 ≤ wkm.toInt ∧ wkm.toInt ≤ 8 := b_wkm
  obtain ⟨py, f_m_payments⟩ : ∃ y : Int32, hl1.2.1 am 59 = y := ⟨_, rfl⟩
  have b_py := hT.gi gm tt_10 (k := 59) rfl
  rw [f_m_payments] at b_py
  have b_py : 0 ≤ py.toInt ∧ py.toInt ≤ 600 := b_py
  have f_x_now : hl1.2.1 ax 2 = nw := he_nw.trans f_m_now
  have f_x_personCount : hl1.2.1 ax 8 = np := he_np.trans f_m_persons
  have f_x_claimCount : hl1.2.1 ax 11 = c0 := he_c0.trans f_m_claims
  have f_x_tapeLength : hl1.2.1 ax 1 = tl := he_tl.trans f_m_taped
  have f_x_actCount : hl1.2.1 ax 6 = a0 := he_a0.trans f_m_acts
  have f_x_heardCount : hl1.2.1 ax 13 = m0 := he_m0.trans f_m_heardMany
  obtain ⟨mw, f_mw, g_mw⟩ := hx_rf hT gm tt_10 (k := 19) (u := 57) rfl
  obtain ⟨F_mw, n_mw⟩ : ∃ g : Nat → Int32, hl1.2.1 mw = g := ⟨_, rfl⟩
  obtain ⟨mr, f_mr, g_mr⟩ := hx_rf hT gm tt_10 (k := 3) (u := 50) rfl
  obtain ⟨F_mr, n_mr⟩ : ∃ g : Nat → Int32, hl1.2.1 mr = g := ⟨_, rfl⟩
  obtain ⟨mp, f_mp, g_mp⟩ := hx_rf hT gm tt_10 (k := 5) (u := 52) rfl
  obtain ⟨F_mp, n_mp⟩ : ∃ g : Nat → Int32, hl1.2.1 mp = g := ⟨_, rfl⟩
  obtain ⟨mn, f_mn, g_mn⟩ := hx_rf hT gm tt_10 (k := 4) (u := 51) rfl
  obtain ⟨F_mn, n_mn⟩ : ∃ g : Nat → Int32, hl1.2.1 mn = g := ⟨_, rfl⟩
  obtain ⟨ml, f_ml, g_ml⟩ := hx_rf hT gm tt_10 (k := 44) (u := 79) rfl
  obtain ⟨F_ml, n_ml⟩ : ∃ g : Nat → Int32, hl1.2.1 ml = g := ⟨_, rfl⟩
  obtain ⟨mh, f_mh, g_mh⟩ := hx_rf hT gm tt_10 (k := 47) (u := 82) rfl
  obtain ⟨F_mh, n_mh⟩ : ∃ g : Nat → Int32, hl1.2.1 mh = g := ⟨_, rfl⟩
  obtain ⟨mt, f_mt, g_mt⟩ := hx_rf hT gm tt_10 (k := 45) (u := 80) rfl
  obtain ⟨F_mt, n_mt⟩ : ∃ g : Nat → Int32, hl1.2.1 mt = g := ⟨_, rfl⟩
  obtain ⟨m_fou, f_m_fou, g_m_fou⟩ := hx_rf hT gm tt_10 (k := 46) (u := 81) rfl
  obtain ⟨F_m_fou, n_m_fou⟩ : ∃ g : Nat → Int32, hl1.2.1 m_fou = g := ⟨_, rfl⟩
  obtain ⟨qo_ln, f_qo_ln, g_qo_ln⟩ := hx_rf hT gx tt_9 (k := 9) (u := 1) rfl
  have f_o_ln : hl1.2.1 qo_ln 0 = ln := (ho_ln qo_ln f_qo_ln).trans f_m_lines
  have f_o_lsd : hl1.2.1 qw 0 = lsd := (ho_lsd qw f_qw).trans f_m_listed
  have f_o_wkm : hl1.2.1 qw 1 = wkm := (ho_wkm qw f_qw).trans f_m_walkedMany
  obtain ⟨qo_py, f_qo_py, g_qo_py⟩ := hx_rf hT gx tt_9 (k := 14) (u := 3) rfl
  have f_o_py : hl1.2.1 qo_py 0 = py := (ho_py qo_py f_qo_py).trans f_m_payments
  have nu_qp := hn_qp qp f_qp; rw [f_x_personCount] at nu_qp
  have nu_qc := hn_qc qc f_qc; rw [f_x_claimCount] at nu_qc
  obtain ⟨b_of, f_b_of, g_b_of⟩ := hx_rf hT g_qo_ln tt_1 (k := 1) (u := 13) rfl
  obtain ⟨B_of, n_b_of⟩ : ∃ g : Nat → Int32, hl1.2.1 b_of = g := ⟨_, rfl⟩
  obtain ⟨m_of, f_m_of, g_m_of⟩ := hx_rf hT gm tt_10 (k := 30) (u := 66) rfl
  obtain ⟨F_of, n_m_of⟩ : ∃ g : Nat → Int32, hl1.2.1 m_of = g := ⟨_, rfl⟩
  have eb_of := hk_of qo_ln b_of m_of f_qo_ln f_b_of f_m_of; rw [n_b_of, n_m_of, f_o_ln] at eb_of
  obtain ⟨b_wf, f_b_wf, g_b_wf⟩ := hx_rf hT g_qo_ln tt_1 (k := 2) (u := 14) rfl
  obtain ⟨B_wf, n_b_wf⟩ : ∃ g : Nat → Int32, hl1.2.1 b_wf = g := ⟨_, rfl⟩
  obtain ⟨m_wf, f_m_wf, g_m_wf⟩ := hx_rf hT gm tt_10 (k := 31) (u := 67) rfl
  obtain ⟨F_wf, n_m_wf⟩ : ∃ g : Nat → Int32, hl1.2.1 m_wf = g := ⟨_, rfl⟩
  have eb_wf := hk_wf qo_ln b_wf m_wf f_qo_ln f_b_wf f_m_wf; rw [n_b_wf, n_m_wf, f_o_ln] at eb_wf
  obtain ⟨b_df, f_b_df, g_b_df⟩ := hx_rf hT g_qo_ln tt_1 (k := 3) (u := 15) rfl
  obtain ⟨B_df, n_b_df⟩ : ∃ g : Nat → Int32, hl1.2.1 b_df = g := ⟨_, rfl⟩
  obtain ⟨m_df, f_m_df, g_m_df⟩ := hx_rf hT gm tt_10 (k := 32) (u := 68) rfl
  obtain ⟨F_df, n_m_df⟩ : ∃ g : Nat → Int32, hl1.2.1 m_df = g := ⟨_, rfl⟩
  have eb_df := hk_df qo_ln b_df m_df f_qo_ln f_b_df f_m_df; rw [n_b_df, n_m_df, f_o_ln] at eb_df
  obtain ⟨b_kf, f_b_kf, g_b_kf⟩ := hx_rf hT g_qo_ln tt_1 (k := 4) (u := 16) rfl
  obtain ⟨B_kf, n_b_kf⟩ : ∃ g : Nat → Int32, hl1.2.1 b_kf = g := ⟨_, rfl⟩
  obtain ⟨m_kf, f_m_kf, g_m_kf⟩ := hx_rf hT gm tt_10 (k := 33) (u := 69) rfl
  obtain ⟨F_kf, n_m_kf⟩ : ∃ g : Nat → Int32, hl1.2.1 m_kf = g := ⟨_, rfl⟩
  have eb_kf := hk_kf qo_ln b_kf m_kf f_qo_ln f_b_kf f_m_kf; rw [n_b_kf, n_m_kf, f_o_ln] at eb_kf
  obtain ⟨b_sf, f_b_sf, g_b_sf⟩ := hx_rf hT g_qo_ln tt_1 (k := 5) (u := 17) rfl
  obtain ⟨B_sf, n_b_sf⟩ : ∃ g : Nat → Int32, hl1.2.1 b_sf = g := ⟨_, rfl⟩
  obtain ⟨m_sf, f_m_sf, g_m_sf⟩ := hx_rf hT gm tt_10 (k := 34) (u := 70) rfl
  obtain ⟨F_sf, n_m_sf⟩ : ∃ g : Nat → Int32, hl1.2.1 m_sf = g := ⟨_, rfl⟩
  have eb_sf := hk_sf qo_ln b_sf m_sf f_qo_ln f_b_sf f_m_sf; rw [n_b_sf, n_m_sf, f_o_ln] at eb_sf
  obtain ⟨b_bf, f_b_bf, g_b_bf⟩ := hx_rf hT g_qo_ln tt_1 (k := 6) (u := 18) rfl
  obtain ⟨bfL, n_b_bf⟩ : ∃ g : Nat → Int32, hl1.2.1 b_bf = g := ⟨_, rfl⟩
  obtain ⟨hBD, hDY⟩ := hkBD qo_ln b_df b_bf f_qo_ln f_b_df f_b_bf; rw [n_b_df, n_b_bf, f_o_ln] at hBD; rw [n_b_df, f_o_ln] at hDY
  have hBDm := hy_BD_c eb_df hBD
  have hDYm : hy_DY F_df ln.toInt.toNat := fun x hx => by rw [← eb_df x hx]; exact hDY x hx
  have sb_list := hLQ qw ql qc f_qw f_ql f_qc
  obtain ⟨m_lst, f_m_lst, g_m_lst⟩ := hx_rf hT gm tt_10 (k := 91) (u := 112) rfl
  obtain ⟨F_lst, n_lst⟩ : ∃ g : Nat → Int32, hl1.2.1 m_lst = g := ⟨_, rfl⟩
  obtain ⟨c_lst, cl_lst⟩ : ∃ g : Nat → Int32, hx_col 8 hl1 ql 0 = g := ⟨_, rfl⟩
  have eq_lst := hLE qw ql m_lst f_qw f_ql f_m_lst; rw [cl_lst, n_lst] at eq_lst
  obtain ⟨qtp, f_qtp, g_qtp⟩ := hx_rf hT gx tt_9 (k := 0) (u := 42) rfl
  obtain ⟨m_tp, f_m_tp, g_m_tp⟩ := hx_rf hT gm tt_10 (k := 6) (u := 53) rfl
  obtain ⟨F_tp, n_tp⟩ : ∃ g : Nat → Int32, hl1.2.1 m_tp = g := ⟨_, rfl⟩
  have n_qtp : hl1.2.1 qtp = F_tp := (hkTP qtp m_tp f_qtp f_m_tp).trans n_tp
  obtain ⟨c_dead, cl_dead⟩ : ∃ g : Nat → Int32, hx_col 40 hl1 qp 7 = g := ⟨_, rfl⟩
  obtain ⟨m_dead, f_m_dead, g_m_dead⟩ := hx_rf hT gm tt_10 (k := 27) (u := 64) rfl
  obtain ⟨F_dead, n_dead⟩ : ∃ g : Nat → Int32, hl1.2.1 m_dead = g := ⟨_, rfl⟩
  have eq_dead := hc_dead qp m_dead f_qp f_m_dead; rw [cl_dead, n_dead] at eq_dead
  have z_dead : np.toInt.toNat < 40 → c_dead np.toInt.toNat = 0 := fun hj => hx_num_z nu_qp cl_dead hj ?o0
  case o0 => omega
  obtain ⟨c_isj, cl_isj⟩ : ∃ g : Nat → Int32, hx_col 40 hl1 qp 8 = g := ⟨_, rfl⟩
  obtain ⟨m_isj, f_m_isj, g_m_isj⟩ := hx_rf hT gm tt_10 (k := 28) (u := 65) rfl
  obtain ⟨F_isj, n_isj⟩ : ∃ g : Nat → Int32, hl1.2.1 m_isj = g := ⟨_, rfl⟩
  have eq_isj := hc_isj qp m_isj f_qp f_m_isj; rw [cl_isj, n_isj] at eq_isj
  have z_isj : np.toInt.toNat < 40 → c_isj np.toInt.toNat = 0 := fun hj => hx_num_z nu_qp cl_isj hj ?o1
  case o1 => omega
  obtain ⟨c_dox, cl_dox⟩ : ∃ g : Nat → Int32, hx_col 40 hl1 qp 5 = g := ⟨_, rfl⟩
  obtain ⟨m_dox, f_m_dox, g_m_dox⟩ := hx_rf hT gm tt_10 (k := 24) (u := 61) rfl
  obtain ⟨F_dox, n_dox⟩ : ∃ g : Nat → Int32, hl1.2.1 m_dox = g := ⟨_, rfl⟩
  have eq_dox := hc_dox qp m_dox f_qp f_m_dox; rw [cl_dox, n_dox] at eq_dox
  have z_dox : np.toInt.toNat < 40 → c_dox np.toInt.toNat = 0 := fun hj => hx_num_z nu_qp cl_dox hj ?o2
  case o2 => omega
  obtain ⟨c_doy, cl_doy⟩ : ∃ g : Nat → Int32, hx_col 40 hl1 qp 6 = g := ⟨_, rfl⟩
  obtain ⟨m_doy, f_m_doy, g_m_doy⟩ := hx_rf hT gm tt_10 (k := 25) (u := 62) rfl
  obtain ⟨F_doy, n_doy⟩ : ∃ g : Nat → Int32, hl1.2.1 m_doy = g := ⟨_, rfl⟩
  have eq_doy := hc_doy qp m_doy f_qp f_m_doy; rw [cl_doy, n_doy] at eq_doy
  have z_doy : np.toInt.toNat < 40 → c_doy np.toInt.toNat = 0 := fun hj => hx_num_z nu_qp cl_doy hj ?o3
  case o3 => omega
  obtain ⟨c_fou, cl_fou⟩ : ∃ g : Nat → Int32, hx_col 100 hl1 qc 10 = g := ⟨_, rfl⟩
  have eq_fou := hc_fou qc m_fou f_qc f_m_fou; rw [cl_fou, n_m_fou] at eq_fou
  have z_fou : c0.toInt.toNat < 100 → c_fou c0.toInt.toNat = 0 := fun hj => hx_num_z nu_qc cl_fou hj ?o4
  case o4 => omega
  obtain ⟨c_tri, cl_tri⟩ : ∃ g : Nat → Int32, hx_col 100 hl1 qc 9 = g := ⟨_, rfl⟩
  have eq_tri := hc_tri qc mt f_qc f_mt; rw [cl_tri, n_mt] at eq_tri
  have z_tri : c0.toInt.toNat < 100 → c_tri c0.toInt.toNat = 0 := fun hj => hx_num_z nu_qc cl_tri hj ?o5
  case o5 => omega
  obtain ⟨qlt, f_qlt, g_qlt⟩ := hx_rf hT g_qw tt_8 (k := 2) (u := 39) rfl
  obtain ⟨qlf, f_qlf, g_qlf⟩ := hx_rf hT g_qw tt_8 (k := 4) (u := 41) rfl
  obtain ⟨m_wkd, f_m_wkd, g_m_wkd⟩ := hx_rf hT gm tt_10 (k := 93) (u := 113) rfl
  obtain ⟨F_qlt, n_qlt⟩ : ∃ g : Nat → Int32, hl1.2.1 qlt = g := ⟨_, rfl⟩
  obtain ⟨F_m_wkd, n_m_wkd⟩ : ∃ g : Nat → Int32, hl1.2.1 m_wkd = g := ⟨_, rfl⟩
  have eb_wkd := hkWD qw qlt m_wkd f_qw f_qlt f_m_wkd; rw [n_qlt, n_m_wkd, f_o_wkm] at eb_wkd
  obtain ⟨m_aga, f_m_aga, g_m_aga⟩ := hx_rf hT gm tt_10 (k := 38) (u := 73) rfl
  obtain ⟨F_aga, n_aga⟩ : ∃ g : Nat → Int32, hl1.2.1 m_aga = g := ⟨_, rfl⟩
  have hDF := hkDF qc qp m_aga f_qc f_qp f_m_aga; rw [n_aga, f_x_claimCount] at hDF
  obtain ⟨qwo, f_qwo, g_qwo⟩ := hx_rf hT gx tt_9 (k := 4) (u := 0) rfl
  obtain ⟨m_ad, f_m_ad, g_m_ad⟩ := hx_rf hT gm tt_10 (k := 2) (u := 49) rfl
  obtain ⟨F_ad, n_ad⟩ : ∃ g : Nat → Int32, hl1.2.1 m_ad = g := ⟨_, rfl⟩
  obtain ⟨A9, hRA9, hCA9, hAC9, hAB⟩ := hkAC qa qwo m_ad mr mn mp qc ml f_qa f_qwo f_m_ad f_mr f_mn f_mp f_qc f_ml
  rw [f_x_actCount] at hRA9; rw [f_x_actCount, n_ad, n_mr, n_mn, n_mp] at hCA9
  obtain ⟨m_by, f_m_by, g_m_by⟩ := hx_rf hT gm tt_10 (k := 37) (u := 72) rfl
  obtain ⟨F_by, n_by⟩ : ∃ g : Nat → Int32, hl1.2.1 m_by = g := ⟨_, rfl⟩
  obtain ⟨m_ho, f_m_ho, g_m_ho⟩ := hx_rf hT gm tt_10 (k := 58) (u := 92) rfl
  obtain ⟨F_ho, n_ho⟩ : ∃ g : Nat → Int32, hl1.2.1 m_ho = g := ⟨_, rfl⟩
  obtain ⟨m_fc, f_m_fc, g_m_fc⟩ := hx_rf hT gm tt_10 (k := 53) (u := 88) rfl
  obtain ⟨F_fc, n_fc⟩ : ∃ g : Nat → Int32, hl1.2.1 m_fc = g := ⟨_, rfl⟩
  obtain ⟨m_nt, f_m_nt, g_m_nt⟩ := hx_rf hT gm tt_10 (k := 41) (u := 76) rfl
  obtain ⟨F_nt, n_nt⟩ : ∃ g : Nat → Int32, hl1.2.1 m_nt = g := ⟨_, rfl⟩
  obtain ⟨m_wt, f_m_wt, g_m_wt⟩ := hx_rf hT gm tt_10 (k := 42) (u := 77) rfl
  obtain ⟨F_wt, n_wt⟩ : ∃ g : Nat → Int32, hl1.2.1 m_wt = g := ⟨_, rfl⟩
  obtain ⟨m_be, f_m_be, g_m_be⟩ := hx_rf hT gm tt_10 (k := 52) (u := 87) rfl
  obtain ⟨F_be, n_be⟩ : ∃ g : Nat → Int32, hl1.2.1 m_be = g := ⟨_, rfl⟩
  obtain ⟨m_bor, f_m_bor, g_m_bor⟩ := hx_rf hT gm tt_10 (k := 21) (u := 58) rfl
  obtain ⟨F_bor, n_bor⟩ : ∃ g : Nat → Int32, hl1.2.1 m_bor = g := ⟨_, rfl⟩
  obtain ⟨m_kin, f_m_kin, g_m_kin⟩ := hx_rf hT gm tt_10 (k := 26) (u := 63) rfl
  obtain ⟨F_kin, n_kin⟩ : ∃ g : Nat → Int32, hl1.2.1 m_kin = g := ⟨_, rfl⟩
  obtain ⟨m_sum, f_m_sum, g_m_sum⟩ := hx_rf hT gm tt_10 (k := 39) (u := 74) rfl
  obtain ⟨F_sum, n_sum⟩ : ∃ g : Nat → Int32, hl1.2.1 m_sum = g := ⟨_, rfl⟩
  obtain ⟨m_fro, f_m_fro, g_m_fro⟩ := hx_rf hT gm tt_10 (k := 40) (u := 75) rfl
  obtain ⟨F_fro, n_fro⟩ : ∃ g : Nat → Int32, hl1.2.1 m_fro = g := ⟨_, rfl⟩
  obtain ⟨m_fil, f_m_fil, g_m_fil⟩ := hx_rf hT gm tt_10 (k := 43) (u := 78) rfl
  obtain ⟨F_fil, n_fil⟩ : ∃ g : Nat → Int32, hl1.2.1 m_fil = g := ⟨_, rfl⟩
  obtain ⟨m_jud, f_m_jud, g_m_jud⟩ := hx_rf hT gm tt_10 (k := 51) (u := 86) rfl
  obtain ⟨F_jud, n_jud⟩ : ∃ g : Nat → Int32, hl1.2.1 m_jud = g := ⟨_, rfl⟩
  obtain ⟨m_ear, f_m_ear, g_m_ear⟩ := hx_rf hT gm tt_10 (k := 22) (u := 59) rfl
  obtain ⟨F_ear, n_ear⟩ : ∃ g : Nat → Int32, hl1.2.1 m_ear = g := ⟨_, rfl⟩
  obtain ⟨m_hds, f_m_hds, g_m_hds⟩ := hx_rf hT gm tt_10 (k := 23) (u := 60) rfl
  obtain ⟨F_hds, n_hds⟩ : ∃ g : Nat → Int32, hl1.2.1 m_hds = g := ⟨_, rfl⟩
  obtain ⟨m_ord, f_m_ord, g_m_ord⟩ := hx_rf hT gm tt_10 (k := 48) (u := 83) rfl
  obtain ⟨F_ord, n_ord⟩ : ∃ g : Nat → Int32, hl1.2.1 m_ord = g := ⟨_, rfl⟩
  obtain ⟨m_wkl, f_m_wkl, g_m_wkl⟩ := hx_rf hT gm tt_10 (k := 54) (u := 89) rfl
  obtain ⟨F_wkl, n_wkl⟩ : ∃ g : Nat → Int32, hl1.2.1 m_wkl = g := ⟨_, rfl⟩
  obtain ⟨m_owd, f_m_owd, g_m_owd⟩ := hx_rf hT gm tt_10 (k := 55) (u := 90) rfl
  obtain ⟨F_owd, n_owd⟩ : ∃ g : Nat → Int32, hl1.2.1 m_owd = g := ⟨_, rfl⟩
  obtain ⟨m_gds, f_m_gds, g_m_gds⟩ := hx_rf hT gm tt_10 (k := 56) (u := 91) rfl
  obtain ⟨F_gds, n_gds⟩ : ∃ g : Nat → Int32, hl1.2.1 m_gds = g := ⟨_, rfl⟩
  obtain ⟨m_szd, f_m_szd, g_m_szd⟩ := hx_rf hT gm tt_10 (k := 49) (u := 84) rfl
  obtain ⟨F_szd, n_szd⟩ : ∃ g : Nat → Int32, hl1.2.1 m_szd = g := ⟨_, rfl⟩
  obtain ⟨m_srv, f_m_srv, g_m_srv⟩ := hx_rf hT gm tt_10 (k := 50) (u := 85) rfl
  obtain ⟨F_srv, n_srv⟩ : ∃ g : Nat → Int32, hl1.2.1 m_srv = g := ⟨_, rfl⟩
  have cl_bor : hx_col 40 hl1 qp 1 = F_bor := (hf_bor qp m_bor f_qp f_m_bor).trans n_bor
  have cl_kin : hx_col 40 hl1 qp 2 = F_kin := (hf_kin qp m_kin f_qp f_m_kin).trans n_kin
  have cl_sum : hx_col 100 hl1 qc 6 = F_sum := (hf_sum qc m_sum f_qc f_m_sum).trans n_sum
  have cl_fro : hx_col 100 hl1 qc 7 = F_fro := (hf_fro qc m_fro f_qc f_m_fro).trans n_fro
  have cl_fil : hx_col 100 hl1 qc 8 = F_fil := (hf_fil qc m_fil f_qc f_m_fil).trans n_fil
  have cl_hea : hx_col 100 hl1 qc 11 = F_mh := (hf_hea qc mh f_qc f_mh).trans n_mh
  have cl_jud : hx_col 100 hl1 qc 12 = F_jud := (hf_jud qc m_jud f_qc f_m_jud).trans n_jud
  have cl_ear : hx_col 40 hl1 qp 3 = F_ear := (hf_ear qp m_ear f_qp f_m_ear).trans n_ear
  have cl_hds : hx_col 40 hl1 qp 4 = F_hds := (hf_hds qp m_hds f_qp f_m_hds).trans n_hds
  have cl_ord : hx_col 100 hl1 qc 13 = F_ord := (hf_ord qc m_ord f_qc f_m_ord).trans n_ord
  have cl_wkl : hx_col 100 hl1 qc 14 = F_wkl := (hf_wkl qc m_wkl f_qc f_m_wkl).trans n_wkl
  have cl_owd : hx_col 100 hl1 qc 15 = F_owd := (hf_owd qc m_owd f_qc f_m_owd).trans n_owd
  have cl_gds : hx_col 100 hl1 qc 17 = F_gds := (hf_gds qc m_gds f_qc f_m_gds).trans n_gds
  have cl_szd : hx_col 100 hl1 qc 16 = F_szd := (hf_szd qc m_szd f_qc f_m_szd).trans n_szd
  have cl_srv : hx_col 100 hl1 qc 18 = F_srv := (hf_srv qc m_srv f_qc f_m_srv).trans n_srv
  have htb9 : ∀ c, c < 100 → 0 ≤ (c_tri c).toInt ∧ (c_tri c).toInt ≤ 512 := fun c hc => by rw [eq_tri c hc]; have w := hT.ei g_mt tt_80 (k := c) hc; rw [n_mt] at w; exact w
  have z_jud : F_jud c0.toInt.toNat = 0 := hx_num_z2 nu_qc cl_jud ?o6
  case o6 => omega
  have hDP := hkDP qc qp m_by f_qc f_qp f_m_by; rw [n_by, f_x_claimCount] at hDP
  have hHL := hkHL qh qc m_ho f_qh f_qc f_m_ho; rw [n_ho, f_x_heardCount, f_x_claimCount] at hHL
  have hHO9 := hkHO m_ho mh f_m_ho f_mh; rw [n_ho, n_mh, f_m_heardMany, f_m_claims] at hHO9
  obtain ⟨cF9L, hFX, hFR9⟩ := hkFX qc m_fc m_nt m_wt m_sum mh f_qc f_m_fc f_m_nt f_m_wt f_m_sum f_mh; rw [f_x_claimCount] at hFX; rw [n_fc, n_nt, n_wt, n_sum, n_mh, f_x_claimCount] at hFR9
  have hBX := hkBX qc m_be f_qc f_m_be; rw [n_be, f_x_claimCount] at hBX
  rw [n_ml, f_x_claimCount] at hAC9
  obtain ⟨y_p0, f_y_p0, g_y_p0⟩ := hx_rf hT g_qo_py tt_3 (k := 2) (u := 23) rfl
  obtain ⟨m_p0, f_m_p0, g_m_p0⟩ := hx_rf hT gm tt_10 (k := 60) (u := 93) rfl
  obtain ⟨F_p0, n_p0⟩ : ∃ g : Nat → Int32, hl1.2.1 m_p0 = g := ⟨_, rfl⟩
  have n_y_p0 : hl1.2.1 y_p0 = F_p0 := (hkP0 qo_py y_p0 m_p0 f_qo_py f_y_p0 f_m_p0).trans n_p0
  obtain ⟨y_p1, f_y_p1, g_y_p1⟩ := hx_rf hT g_qo_py tt_3 (k := 3) (u := 24) rfl
  obtain ⟨m_p1, f_m_p1, g_m_p1⟩ := hx_rf hT gm tt_10 (k := 61) (u := 94) rfl
  obtain ⟨F_p1, n_p1⟩ : ∃ g : Nat → Int32, hl1.2.1 m_p1 = g := ⟨_, rfl⟩
  have n_y_p1 : hl1.2.1 y_p1 = F_p1 := (hkP1 qo_py y_p1 m_p1 f_qo_py f_y_p1 f_m_p1).trans n_p1
  obtain ⟨y_p2, f_y_p2, g_y_p2⟩ := hx_rf hT g_qo_py tt_3 (k := 5) (u := 26) rfl
  obtain ⟨m_p2, f_m_p2, g_m_p2⟩ := hx_rf hT gm tt_10 (k := 62) (u := 95) rfl
  obtain ⟨F_p2, n_p2⟩ : ∃ g : Nat → Int32, hl1.2.1 m_p2 = g := ⟨_, rfl⟩
  have n_y_p2 : hl1.2.1 y_p2 = F_p2 := (hkP2 qo_py y_p2 m_p2 f_qo_py f_y_p2 f_m_p2).trans n_p2
  obtain ⟨y_p3, f_y_p3, g_y_p3⟩ := hx_rf hT g_qo_py tt_3 (k := 4) (u := 25) rfl
  obtain ⟨m_p3, f_m_p3, g_m_p3⟩ := hx_rf hT gm tt_10 (k := 63) (u := 96) rfl
  obtain ⟨F_p3, n_p3⟩ : ∃ g : Nat → Int32, hl1.2.1 m_p3 = g := ⟨_, rfl⟩
  have n_y_p3 : hl1.2.1 y_p3 = F_p3 := (hkP3 qo_py y_p3 m_p3 f_qo_py f_y_p3 f_m_p3).trans n_p3
  obtain ⟨y_p4, f_y_p4, g_y_p4⟩ := hx_rf hT g_qo_py tt_3 (k := 1) (u := 22) rfl
  obtain ⟨m_p4, f_m_p4, g_m_p4⟩ := hx_rf hT gm tt_10 (k := 64) (u := 97) rfl
  obtain ⟨F_p4, n_p4⟩ : ∃ g : Nat → Int32, hl1.2.1 m_p4 = g := ⟨_, rfl⟩
  have n_y_p4 : hl1.2.1 y_p4 = F_p4 := (hkP4 qo_py y_p4 m_p4 f_qo_py f_y_p4 f_m_p4).trans n_p4
  obtain ⟨qrg9, f_qrg9, g_qrg9⟩ := hx_rf hT gx tt_9 (k := 18) (u := 7) rfl
  obtain ⟨y_ls, f_y_ls, g_y_ls⟩ := hx_rf hT g_qrg9 tt_7 (k := 3) (u := 35) rfl
  obtain ⟨m_rl, f_m_rl, g_m_rl⟩ := hx_rf hT gm tt_10 (k := 85) (u := 109) rfl
  obtain ⟨F_y_ls, n_y_ls⟩ : ∃ g : Nat → Int32, hl1.2.1 y_ls = g := ⟨_, rfl⟩
  obtain ⟨F_m_rl, n_m_rl⟩ : ∃ g : Nat → Int32, hl1.2.1 m_rl = g := ⟨_, rfl⟩
  obtain ⟨fv_112, efv_112⟩ : ∃ y : Int32, y = hl1.2.1 qrg9 0 := ⟨_, rfl⟩
  have bfv_112 := hT.gi g_qrg9 tt_7 (k := 0) rfl
  rw [← efv_112] at bfv_112
  have bfv_112 : -1 ≤ fv_112.toInt ∧ fv_112.toInt ≤ 100 := bfv_112
  have ffv_112 := efv_112.symm
  obtain ⟨fv_113, efv_113⟩ : ∃ y : Int32, y = hl1.2.1 am 83 := ⟨_, rfl⟩
  have bfv_113 := hT.gi gm tt_10 (k := 83) rfl
  rw [← efv_113] at bfv_113
  have bfv_113 : 0 ≤ fv_113.toInt ∧ fv_113.toInt ≤ 1 := bfv_113
  have ffv_113 := efv_113.symm
  obtain ⟨fv_114, efv_114⟩ : ∃ y : Int32, y = hl1.2.1 am 84 := ⟨_, rfl⟩
  have bfv_114 := hT.gi gm tt_10 (k := 84) rfl
  rw [← efv_114] at bfv_114
  have bfv_114 : 0 ≤ fv_114.toInt ∧ fv_114.toInt ≤ 300 := bfv_114
  have ffv_114 := efv_114.symm
  have hNQ9 := hkNQ qrg9 f_qrg9; rw [ffv_112, ffv_113, ffv_114] at hNQ9
  have hRL9 := hkRL qrg9 y_ls m_rl f_qrg9 f_y_ls f_m_rl; rw [n_y_ls, n_m_rl, ffv_112] at hRL9
  have hCB : hz_CB F_ord F_wkl F_owd F_szd F_gds F_srv := fun c hc => ⟨by have w := hT.ei g_m_ord tt_83 (k := c) (by omega); rw [n_ord] at w; exact w, by have w := hT.ei g_m_wkl tt_89 (k := c) (by omega); rw [n_wkl] at w; exact w, by have w := hT.ei g_m_owd tt_90 (k := c) (by omega); rw [n_owd] at w; exact w, by have w := hT.ei g_m_szd tt_84 (k := c) (by omega); rw [n_szd] at w; exact w, by have w := hT.ei g_m_gds tt_91 (k := c) (by omega); rw [n_gds] at w; exact w, by have w := hT.ei g_m_srv tt_85 (k := c) (by omega); rw [n_srv] at w; exact w⟩
  have hps : ∀ j, j < 600 → 0 ≤ (F_p2 j).toInt ∧ (F_p2 j).toInt ≤ 610000 := fun j hj => by have w := hT.ei g_m_p2 tt_95 (k := j) (by omega); rw [n_p2] at w; exact w
  have hte9 : ∀ c : Nat, c < 100 → (0 ≤ (c_tri c).toInt ∧ (c_tri c).toInt ≤ 512) ∧ (0 ≤ (F_sum c).toInt ∧ (F_sum c).toInt ≤ 9999) := fun c hc => ⟨htb9 c hc, by have w := hT.ei g_m_sum tt_74 (k := c) (by omega); rw [n_sum] at w; exact w⟩
  have hee9 : ∀ c : Nat, c < 40 → (0 ≤ (F_ear c).toInt ∧ (F_ear c).toInt ≤ 9999) ∧ (0 ≤ (F_hds c).toInt ∧ (F_hds c).toInt ≤ 20) := fun c hc => ⟨by have w := hT.ei g_m_ear tt_59 (k := c) (by omega); rw [n_ear] at w; exact w, by have w := hT.ei g_m_hds tt_60 (k := c) (by omega); rw [n_hds] at w; exact w⟩
  have bAG9 : ∀ k, k < 100 → 0 ≤ (F_aga k).toInt ∧ (F_aga k).toInt ≤ 39 := fun k hk => by have w := hT.ei g_m_aga tt_73 (k := k) (by omega); rw [n_aga] at w; exact w
  have bBY9 : ∀ k, k < 100 → 0 ≤ (F_by k).toInt ∧ (F_by k).toInt ≤ 39 := fun k hk => by have w := hT.ei g_m_by tt_72 (k := k) (by omega); rw [n_by] at w; exact w
  have hag9 : ∀ c, c < c0.toInt.toNat → 0 ≤ (F_aga c).toInt ∧ (F_aga c).toInt < 40 ∧ 0 ≤ (F_by c).toInt ∧ (F_by c).toInt < 40 := fun c hc => by have a9 := bAG9 c (by omega); have b9 := bBY9 c (by omega); omega
  have z_wkl : F_wkl c0.toInt.toNat = 0 := hx_num_z2 nu_qc cl_wkl ?o7
  case o7 => omega
  have z_owd : F_owd c0.toInt.toNat = 0 := hx_num_z2 nu_qc cl_owd ?o8
  case o8 => omega
  have z_gds : F_gds c0.toInt.toNat = 0 := hx_num_z2 nu_qc cl_gds ?o9
  case o9 => omega
  have hwd := jw mw f_mw; rw [n_mw] at hwd
  have hWK := jr mr f_mr; rw [n_mr, f_m_acts] at hWK
  have hRP := jp mp mn f_mp f_mn; rw [n_mp, n_mn, f_m_acts] at hRP
  have hPL := jl ml f_ml; rw [n_ml, f_m_claims, f_m_acts] at hPL
  have hHC := jh mh f_mh; rw [n_mh, f_m_heardMany, f_m_claims] at hHC
  have hTR := jt mt f_mt; rw [n_mt] at hTR
  have hHF := jf mh m_fou f_mh f_m_fou; rw [n_mh, n_m_fou, f_m_claims] at hHF
  refine lv_aload_n hx hb dL_law_304 rfl (lv_at hl 2 rfl) ?_
  refine lv_aload_n hx hb dL_law_305 rfl (lv_at hl 3 rfl) ?_
  refine lv_iload_n hx hb dL_law_306 rfl (lv_at hl 0 rfl) ?_
  refine lv_iconst (v := 1) hx hb dL_law_307 ?o10 ?_
  case o10 => decide
  refine lv_iadd hx hb dL_law_308 ?_
  have rg_115 := i32_r i
  refine lv_topi (fun x_116 ex_116 => ?_)
  have zx_116 : x_116.toInt = i.toInt + 1 := ?o11
  case o11 =>
    rw [ex_116]
    refine i32_add rfl ?o12 ?o13 ?o14
    case o12 => decide
    case o13 => omega
    case o14 => omega
  refine va_sld hx hb hX hbl hbA hW.2.2.2.1 (vp_in_iff.mpr ⟨?o15, ?o16⟩) dL_law_309 ?_
  case o15 => omega
  case o16 => omega
  refine lv_topi (fun x_117 ex_117 => ?_)
  refine lv_aload_n hx hb dL_law_310 rfl (lv_at hl 3 rfl) ?_
  refine lv_iload_n hx hb dL_law_311 rfl (lv_at hl 0 rfl) ?_
  refine lv_iconst (v := 2) hx hb dL_law_312 ?o17 ?_
  case o17 => decide
  refine lv_iadd hx hb dL_law_313 ?_
  refine lv_topi (fun x_118 ex_118 => ?_)
  have zx_118 : x_118.toInt = i.toInt + 2 := ?o18
  case o18 =>
    rw [ex_118]
    refine i32_add rfl ?o19 ?o20 ?o21
    case o19 => decide
    case o20 => omega
    case o21 => omega
  refine va_sld hx hb hX hbl hbA hW.2.2.2.1 (vp_in_iff.mpr ⟨?o22, ?o23⟩) dL_law_314 ?_
  case o22 => omega
  case o23 => omega
  refine lv_topi (fun x_119 ex_119 => ?_)
  have hTo := hT
  refine hx_goi (hx_runV (As := [.int x_117, .int x_119]) (rest := []) ⟨hx, hb, hml, hown, hts⟩ hW gx tt_9 (T := TX9) (N := 20) rfl (t_X9_force_v l dC dI dA L1 hl1 H.size ax x_117 x_119 hT gx qa g_qa f_qa qwo g_qwo f_qwo a0 f_x_actCount A9 hRA9 pf_qa) (cwV 2 hts (hx_gV kw_593 kw_590 kw_591 kw_592 kw_94) rfl rfl rfl (by decide +kernel) ⟨Nat.le_of_ble_eq_true rfl, Nat.le_of_ble_eq_true rfl⟩) rfl hl.1 rfl (Nat.le_of_ble_eq_true rfl) dL_law_315 ⟨(show CC + 0 ≤ 600000 from ?o24), (show SS + 0 ≤ 7302250 from ?o25)⟩) hW (fun r_122 L_120 h_121 H locs p_123 hW => ?_)
  case o24 => omega
  case o25 => omega
  obtain ⟨hr_124, hT, hs⟩ := p_123
  replace hT : hx_T T_tb L_120 h_121 := hT
  replace hs : hx_S T_tb [] L1 hl1 L_120 h_121 := hs
  replace f_qa := (hs.o gx trivial rfl).2.trans f_qa
  replace f_qp := (hs.o gx trivial rfl).2.trans f_qp
  replace f_qc := (hs.o gx trivial rfl).2.trans f_qc
  replace f_qh := (hs.o gx trivial rfl).2.trans f_qh
  replace f_qw := (hs.o gx trivial rfl).2.trans f_qw
  replace f_ql := (hs.o g_qw trivial rfl).2.trans f_ql
  replace f_m_now := (hs.o gm trivial rfl).1.trans f_m_now
  replace f_m_persons := (hs.o gm trivial rfl).1.trans f_m_persons
  replace f_m_claims := (hs.o gm trivial rfl).1.trans f_m_claims
  replace f_m_taped := (hs.o gm trivial rfl).1.trans f_m_taped
  replace f_m_acts := (hs.o gm trivial rfl).1.trans f_m_acts
  replace f_m_heardMany := (hs.o gm trivial rfl).1.trans f_m_heardMany
  replace f_m_lines := (hs.o gm trivial rfl).1.trans f_m_lines
  replace f_m_listed := (hs.o gm trivial rfl).1.trans f_m_listed
  replace f_m_walkedMany := (hs.o gm trivial rfl).1.trans f_m_walkedMany
  replace f_m_payments := (hs.o gm trivial rfl).1.trans f_m_payments
  replace f_x_now := (hs.o gx trivial rfl).1.trans f_x_now
  replace f_x_personCount := (hs.o gx trivial rfl).1.trans f_x_personCount
  replace f_x_claimCount := (hs.o gx trivial rfl).1.trans f_x_claimCount
  replace f_x_tapeLength := (hs.o gx trivial rfl).1.trans f_x_tapeLength
  replace f_x_actCount := (hs.o gx trivial rfl).1.trans f_x_actCount
  replace f_x_heardCount := (hs.o gx trivial rfl).1.trans f_x_heardCount
  replace f_mw := (hs.o gm trivial rfl).2.trans f_mw
  replace f_mr := (hs.o gm trivial rfl).2.trans f_mr
  replace f_mp := (hs.o gm trivial rfl).2.trans f_mp
  replace f_mn := (hs.o gm trivial rfl).2.trans f_mn
  replace f_ml := (hs.o gm trivial rfl).2.trans f_ml
  replace f_mh := (hs.o gm trivial rfl).2.trans f_mh
  replace f_mt := (hs.o gm trivial rfl).2.trans f_mt
  replace f_m_fou := (hs.o gm trivial rfl).2.trans f_m_fou
  replace f_qo_ln := (hs.o gx trivial rfl).2.trans f_qo_ln
  replace f_o_ln := (hs.o g_qo_ln trivial rfl).1.trans f_o_ln
  replace f_o_lsd := (hs.o g_qw trivial rfl).1.trans f_o_lsd
  replace f_o_wkm := (hs.o g_qw trivial rfl).1.trans f_o_wkm
  replace f_qo_py := (hs.o gx trivial rfl).2.trans f_qo_py
  replace f_o_py := (hs.o g_qo_py trivial rfl).1.trans f_o_py
  replace f_b_of := (hs.o g_qo_ln trivial rfl).2.trans f_b_of
  replace f_m_of := (hs.o gm trivial rfl).2.trans f_m_of
  replace f_b_wf := (hs.o g_qo_ln trivial rfl).2.trans f_b_wf
  replace f_m_wf := (hs.o gm trivial rfl).2.trans f_m_wf
  replace f_b_df := (hs.o g_qo_ln trivial rfl).2.trans f_b_df
  replace f_m_df := (hs.o gm trivial rfl).2.trans f_m_df
  replace f_b_kf := (hs.o g_qo_ln trivial rfl).2.trans f_b_kf
  replace f_m_kf := (hs.o gm trivial rfl).2.trans f_m_kf
  replace f_b_sf := (hs.o g_qo_ln trivial rfl).2.trans f_b_sf
  replace f_m_sf := (hs.o gm trivial rfl).2.trans f_m_sf
  replace f_b_bf := (hs.o g_qo_ln trivial rfl).2.trans f_b_bf
  replace f_m_lst := (hs.o gm trivial rfl).2.trans f_m_lst
  replace f_qtp := (hs.o gx trivial rfl).2.trans f_qtp
  replace f_m_tp := (hs.o gm trivial rfl).2.trans f_m_tp
  replace f_m_dead := (hs.o gm trivial rfl).2.trans f_m_dead
  replace f_m_isj := (hs.o gm trivial rfl).2.trans f_m_isj
  replace f_m_dox := (hs.o gm trivial rfl).2.trans f_m_dox
  replace f_m_doy := (hs.o gm trivial rfl).2.trans f_m_doy
  replace f_qlt := (hs.o g_qw trivial rfl).2.trans f_qlt
  replace f_qlf := (hs.o g_qw trivial rfl).2.trans f_qlf
  replace f_m_wkd := (hs.o gm trivial rfl).2.trans f_m_wkd
  replace f_m_aga := (hs.o gm trivial rfl).2.trans f_m_aga
  replace f_qwo := (hs.o gx trivial rfl).2.trans f_qwo
  replace f_m_ad := (hs.o gm trivial rfl).2.trans f_m_ad
  replace f_m_by := (hs.o gm trivial rfl).2.trans f_m_by
  replace f_m_ho := (hs.o gm trivial rfl).2.trans f_m_ho
  replace f_m_fc := (hs.o gm trivial rfl).2.trans f_m_fc
  replace f_m_nt := (hs.o gm trivial rfl).2.trans f_m_nt
  replace f_m_wt := (hs.o gm trivial rfl).2.trans f_m_wt
  replace f_m_be := (hs.o gm trivial rfl).2.trans f_m_be
  replace f_m_bor := (hs.o gm trivial rfl).2.trans f_m_bor
  replace f_m_kin := (hs.o gm trivial rfl).2.trans f_m_kin
  replace f_m_sum := (hs.o gm trivial rfl).2.trans f_m_sum
  replace f_m_fro := (hs.o gm trivial rfl).2.trans f_m_fro
  replace f_m_fil := (hs.o gm trivial rfl).2.trans f_m_fil
  replace f_m_jud := (hs.o gm trivial rfl).2.trans f_m_jud
  replace f_m_ear := (hs.o gm trivial rfl).2.trans f_m_ear
  replace f_m_hds := (hs.o gm trivial rfl).2.trans f_m_hds
  replace f_m_ord := (hs.o gm trivial rfl).2.trans f_m_ord
  replace f_m_wkl := (hs.o gm trivial rfl).2.trans f_m_wkl
  replace f_m_owd := (hs.o gm trivial rfl).2.trans f_m_owd
  replace f_m_gds := (hs.o gm trivial rfl).2.trans f_m_gds
  replace f_m_szd := (hs.o gm trivial rfl).2.trans f_m_szd
  replace f_m_srv := (hs.o gm trivial rfl).2.trans f_m_srv
  replace f_y_p0 := (hs.o g_qo_py trivial rfl).2.trans f_y_p0
  replace f_m_p0 := (hs.o gm trivial rfl).2.trans f_m_p0
  replace f_y_p1 := (hs.o g_qo_py trivial rfl).2.trans f_y_p1
  replace f_m_p1 := (hs.o gm trivial rfl).2.trans f_m_p1
  replace f_y_p2 := (hs.o g_qo_py trivial rfl).2.trans f_y_p2
  replace f_m_p2 := (hs.o gm trivial rfl).2.trans f_m_p2
  replace f_y_p3 := (hs.o g_qo_py trivial rfl).2.trans f_y_p3
  replace f_m_p3 := (hs.o gm trivial rfl).2.trans f_m_p3
  replace f_y_p4 := (hs.o g_qo_py trivial rfl).2.trans f_y_p4
  replace f_m_p4 := (hs.o gm trivial rfl).2.trans f_m_p4
  replace f_qrg9 := (hs.o gx trivial rfl).2.trans f_qrg9
  replace f_y_ls := (hs.o g_qrg9 trivial rfl).2.trans f_y_ls
  replace f_m_rl := (hs.o gm trivial rfl).2.trans f_m_rl
  replace ffv_112 := (hs.o g_qrg9 trivial rfl).1.trans ffv_112
  replace ffv_113 := (hs.o gm trivial rfl).1.trans ffv_113
  replace ffv_114 := (hs.o gm trivial rfl).1.trans ffv_114
  replace pf_qa : ∀ j : Nat, (j : Int) < (h_121.2.1 ax 6).toInt → h_121.2.2 qa j ≠ none := by
    intro j hj; rw [(hs.o gx trivial rfl).1] at hj; rw [(hs.a g_qa rfl j).2]; exact pf_qa j hj
  replace pf_qp : ∀ j : Nat, (j : Int) < (h_121.2.1 ax 8).toInt → h_121.2.2 qp j ≠ none := by
    intro j hj; rw [(hs.o gx trivial rfl).1] at hj; rw [(hs.a g_qp rfl j).2]; exact pf_qp j hj
  replace pf_qc : ∀ j : Nat, (j : Int) < (h_121.2.1 ax 11).toInt → h_121.2.2 qc j ≠ none := by
    intro j hj; rw [(hs.o gx trivial rfl).1] at hj; rw [(hs.a g_qc rfl j).2]; exact pf_qc j hj
  replace pf_qh : ∀ j : Nat, (j : Int) < (h_121.2.1 ax 13).toInt → h_121.2.2 qh j ≠ none := by
    intro j hj; rw [(hs.o gx trivial rfl).1] at hj; rw [(hs.a g_qh rfl j).2]; exact pf_qh j hj
  replace pf_ql : ∀ j : Nat, (j : Int) < (h_121.2.1 qw 0).toInt → h_121.2.2 ql j ≠ none := by
    intro j hj; rw [(hs.o g_qw trivial rfl).1] at hj; rw [(hs.a g_ql rfl j).2]; exact pf_ql j hj
  replace cl_lst : hx_col 8 h_121 ql 0 = c_lst := (hx_col_S hs hTo g_ql tt_40 tt_2 rfl rfl).trans cl_lst
  replace cl_dead : hx_col 40 h_121 qp 7 = c_dead := (hx_col_S hs hTo g_qp tt_44 tt_4 rfl rfl).trans cl_dead
  replace cl_isj : hx_col 40 h_121 qp 8 = c_isj := (hx_col_S hs hTo g_qp tt_44 tt_4 rfl rfl).trans cl_isj
  replace cl_dox : hx_col 40 h_121 qp 5 = c_dox := (hx_col_S hs hTo g_qp tt_44 tt_4 rfl rfl).trans cl_dox
  replace cl_doy : hx_col 40 h_121 qp 6 = c_doy := (hx_col_S hs hTo g_qp tt_44 tt_4 rfl rfl).trans cl_doy
  replace cl_fou : hx_col 100 h_121 qc 10 = c_fou := (hx_col_S hs hTo g_qc tt_45 tt_2 rfl rfl).trans cl_fou
  replace cl_tri : hx_col 100 h_121 qc 9 = c_tri := (hx_col_S hs hTo g_qc tt_45 tt_2 rfl rfl).trans cl_tri
  replace cl_bor : hx_col 40 h_121 qp 1 = F_bor := (hx_col_S hs hTo g_qp tt_44 tt_4 rfl rfl).trans cl_bor
  replace cl_kin : hx_col 40 h_121 qp 2 = F_kin := (hx_col_S hs hTo g_qp tt_44 tt_4 rfl rfl).trans cl_kin
  replace cl_sum : hx_col 100 h_121 qc 6 = F_sum := (hx_col_S hs hTo g_qc tt_45 tt_2 rfl rfl).trans cl_sum
  replace cl_fro : hx_col 100 h_121 qc 7 = F_fro := (hx_col_S hs hTo g_qc tt_45 tt_2 rfl rfl).trans cl_fro
  replace cl_fil : hx_col 100 h_121 qc 8 = F_fil := (hx_col_S hs hTo g_qc tt_45 tt_2 rfl rfl).trans cl_fil
  replace cl_hea : hx_col 100 h_121 qc 11 = F_mh := (hx_col_S hs hTo g_qc tt_45 tt_2 rfl rfl).trans cl_hea
  replace cl_jud : hx_col 100 h_121 qc 12 = F_jud := (hx_col_S hs hTo g_qc tt_45 tt_2 rfl rfl).trans cl_jud
  replace cl_ear : hx_col 40 h_121 qp 3 = F_ear := (hx_col_S hs hTo g_qp tt_44 tt_4 rfl rfl).trans cl_ear
  replace cl_hds : hx_col 40 h_121 qp 4 = F_hds := (hx_col_S hs hTo g_qp tt_44 tt_4 rfl rfl).trans cl_hds
  replace cl_ord : hx_col 100 h_121 qc 13 = F_ord := (hx_col_S hs hTo g_qc tt_45 tt_2 rfl rfl).trans cl_ord
  replace cl_wkl : hx_col 100 h_121 qc 14 = F_wkl := (hx_col_S hs hTo g_qc tt_45 tt_2 rfl rfl).trans cl_wkl
  replace cl_owd : hx_col 100 h_121 qc 15 = F_owd := (hx_col_S hs hTo g_qc tt_45 tt_2 rfl rfl).trans cl_owd
  replace cl_gds : hx_col 100 h_121 qc 17 = F_gds := (hx_col_S hs hTo g_qc tt_45 tt_2 rfl rfl).trans cl_gds
  replace cl_szd : hx_col 100 h_121 qc 16 = F_szd := (hx_col_S hs hTo g_qc tt_45 tt_2 rfl rfl).trans cl_szd
  replace cl_srv : hx_col 100 h_121 qc 18 = F_srv := (hx_col_S hs hTo g_qc tt_45 tt_2 rfl rfl).trans cl_srv
  replace nu_qp : hx_num 40 h_121 qp 0 (np.toInt) := hx_num_S hs hTo g_qp tt_44 tt_4 rfl rfl nu_qp
  replace nu_qc : hx_num 100 h_121 qc 0 (c0.toInt) := hx_num_S hs hTo g_qc tt_45 tt_2 rfl rfl nu_qc
  replace sb_list : hx_LQ 8 100 h_121 ql qc := hx_LQ_S hs g_ql g_qc rfl rfl sb_list
  replace hDF : hw_DF h_121 qc qp 2 F_aga c0.toInt := hw_DF_S hs hTo g_qc g_qp tt_45 tt_2 rfl rfl rfl hDF
  replace hRA9 : hv_RA h_121 qa qwo a0.toInt A9 := hv_RA_S hs hTo g_qa g_qwo tt_43 tt_0 rfl rfl rfl rfl rfl rfl ?o26 hRA9
  case o26 => omega
  replace hDP : hw_DF h_121 qc qp 1 F_by c0.toInt := hw_DF_S hs hTo g_qc g_qp tt_45 tt_2 rfl rfl rfl hDP
  replace hAC9 : hv_AC h_121 qc F_ml c0.toInt A9 := hv_AC_S hs hTo g_qc tt_45 tt_2 rfl tt_0 rfl rfl rfl rfl rfl rfl rfl hAC9
  replace hFX : hv_FX 8 4 h_121 qc cF9L c0.toInt := hv_FX_S hs hTo g_qc tt_45 tt_2 rfl rfl rfl rfl hFX
  replace hBX : hv_FX 3 5 h_121 qc F_be c0.toInt := hv_FX_S hs hTo g_qc tt_45 tt_2 rfl rfl rfl rfl hBX
  replace hHL : hv_HL h_121 qh qc F_ho m0.toInt c0.toInt := hv_HL_S hs g_qh g_qc rfl rfl hHL
  replace n_mw : h_121.2.1 mw = F_mw := (funext fun j => (hs.a g_mw rfl j).1).trans n_mw
  replace n_mr : h_121.2.1 mr = F_mr := (funext fun j => (hs.a g_mr rfl j).1).trans n_mr
  replace n_mp : h_121.2.1 mp = F_mp := (funext fun j => (hs.a g_mp rfl j).1).trans n_mp
  replace n_mn : h_121.2.1 mn = F_mn := (funext fun j => (hs.a g_mn rfl j).1).trans n_mn
  replace n_ml : h_121.2.1 ml = F_ml := (funext fun j => (hs.a g_ml rfl j).1).trans n_ml
  replace n_mh : h_121.2.1 mh = F_mh := (funext fun j => (hs.a g_mh rfl j).1).trans n_mh
  replace n_mt : h_121.2.1 mt = F_mt := (funext fun j => (hs.a g_mt rfl j).1).trans n_mt
  replace n_m_fou : h_121.2.1 m_fou = F_m_fou := (funext fun j => (hs.a g_m_fou rfl j).1).trans n_m_fou
  replace n_b_of : h_121.2.1 b_of = B_of := (funext fun j => (hs.a g_b_of rfl j).1).trans n_b_of
  replace n_m_of : h_121.2.1 m_of = F_of := (funext fun j => (hs.a g_m_of rfl j).1).trans n_m_of
  replace n_b_wf : h_121.2.1 b_wf = B_wf := (funext fun j => (hs.a g_b_wf rfl j).1).trans n_b_wf
  replace n_m_wf : h_121.2.1 m_wf = F_wf := (funext fun j => (hs.a g_m_wf rfl j).1).trans n_m_wf
  replace n_b_df : h_121.2.1 b_df = B_df := (funext fun j => (hs.a g_b_df rfl j).1).trans n_b_df
  replace n_m_df : h_121.2.1 m_df = F_df := (funext fun j => (hs.a g_m_df rfl j).1).trans n_m_df
  replace n_b_kf : h_121.2.1 b_kf = B_kf := (funext fun j => (hs.a g_b_kf rfl j).1).trans n_b_kf
  replace n_m_kf : h_121.2.1 m_kf = F_kf := (funext fun j => (hs.a g_m_kf rfl j).1).trans n_m_kf
  replace n_b_sf : h_121.2.1 b_sf = B_sf := (funext fun j => (hs.a g_b_sf rfl j).1).trans n_b_sf
  replace n_m_sf : h_121.2.1 m_sf = F_sf := (funext fun j => (hs.a g_m_sf rfl j).1).trans n_m_sf
  replace n_b_bf : h_121.2.1 b_bf = bfL := (funext fun j => (hs.a g_b_bf rfl j).1).trans n_b_bf
  replace n_lst : h_121.2.1 m_lst = F_lst := (funext fun j => (hs.a g_m_lst rfl j).1).trans n_lst
  replace n_tp : h_121.2.1 m_tp = F_tp := (funext fun j => (hs.a g_m_tp rfl j).1).trans n_tp
  replace n_qtp : h_121.2.1 qtp = F_tp := (funext fun j => (hs.a g_qtp rfl j).1).trans n_qtp
  replace n_dead : h_121.2.1 m_dead = F_dead := (funext fun j => (hs.a g_m_dead rfl j).1).trans n_dead
  replace n_isj : h_121.2.1 m_isj = F_isj := (funext fun j => (hs.a g_m_isj rfl j).1).trans n_isj
  replace n_dox : h_121.2.1 m_dox = F_dox := (funext fun j => (hs.a g_m_dox rfl j).1).trans n_dox
  replace n_doy : h_121.2.1 m_doy = F_doy := (funext fun j => (hs.a g_m_doy rfl j).1).trans n_doy
  replace n_qlt : h_121.2.1 qlt = F_qlt := (funext fun j => (hs.a g_qlt rfl j).1).trans n_qlt
  replace n_m_wkd : h_121.2.1 m_wkd = F_m_wkd := (funext fun j => (hs.a g_m_wkd rfl j).1).trans n_m_wkd
  replace n_aga : h_121.2.1 m_aga = F_aga := (funext fun j => (hs.a g_m_aga rfl j).1).trans n_aga
  replace n_ad : h_121.2.1 m_ad = F_ad := (funext fun j => (hs.a g_m_ad rfl j).1).trans n_ad
  replace n_by : h_121.2.1 m_by = F_by := (funext fun j => (hs.a g_m_by rfl j).1).trans n_by
  replace n_ho : h_121.2.1 m_ho = F_ho := (funext fun j => (hs.a g_m_ho rfl j).1).trans n_ho
  replace n_fc : h_121.2.1 m_fc = F_fc := (funext fun j => (hs.a g_m_fc rfl j).1).trans n_fc
  replace n_nt : h_121.2.1 m_nt = F_nt := (funext fun j => (hs.a g_m_nt rfl j).1).trans n_nt
  replace n_wt : h_121.2.1 m_wt = F_wt := (funext fun j => (hs.a g_m_wt rfl j).1).trans n_wt
  replace n_be : h_121.2.1 m_be = F_be := (funext fun j => (hs.a g_m_be rfl j).1).trans n_be
  replace n_bor : h_121.2.1 m_bor = F_bor := (funext fun j => (hs.a g_m_bor rfl j).1).trans n_bor
  replace n_kin : h_121.2.1 m_kin = F_kin := (funext fun j => (hs.a g_m_kin rfl j).1).trans n_kin
  replace n_sum : h_121.2.1 m_sum = F_sum := (funext fun j => (hs.a g_m_sum rfl j).1).trans n_sum
  replace n_fro : h_121.2.1 m_fro = F_fro := (funext fun j => (hs.a g_m_fro rfl j).1).trans n_fro
  replace n_fil : h_121.2.1 m_fil = F_fil := (funext fun j => (hs.a g_m_fil rfl j).1).trans n_fil
  replace n_jud : h_121.2.1 m_jud = F_jud := (funext fun j => (hs.a g_m_jud rfl j).1).trans n_jud
  replace n_ear : h_121.2.1 m_ear = F_ear := (funext fun j => (hs.a g_m_ear rfl j).1).trans n_ear
  replace n_hds : h_121.2.1 m_hds = F_hds := (funext fun j => (hs.a g_m_hds rfl j).1).trans n_hds
  replace n_ord : h_121.2.1 m_ord = F_ord := (funext fun j => (hs.a g_m_ord rfl j).1).trans n_ord
  replace n_wkl : h_121.2.1 m_wkl = F_wkl := (funext fun j => (hs.a g_m_wkl rfl j).1).trans n_wkl
  replace n_owd : h_121.2.1 m_owd = F_owd := (funext fun j => (hs.a g_m_owd rfl j).1).trans n_owd
  replace n_gds : h_121.2.1 m_gds = F_gds := (funext fun j => (hs.a g_m_gds rfl j).1).trans n_gds
  replace n_szd : h_121.2.1 m_szd = F_szd := (funext fun j => (hs.a g_m_szd rfl j).1).trans n_szd
  replace n_srv : h_121.2.1 m_srv = F_srv := (funext fun j => (hs.a g_m_srv rfl j).1).trans n_srv
  replace n_p0 : h_121.2.1 m_p0 = F_p0 := (funext fun j => (hs.a g_m_p0 rfl j).1).trans n_p0
  replace n_y_p0 : h_121.2.1 y_p0 = F_p0 := (funext fun j => (hs.a g_y_p0 rfl j).1).trans n_y_p0
  replace n_p1 : h_121.2.1 m_p1 = F_p1 := (funext fun j => (hs.a g_m_p1 rfl j).1).trans n_p1
  replace n_y_p1 : h_121.2.1 y_p1 = F_p1 := (funext fun j => (hs.a g_y_p1 rfl j).1).trans n_y_p1
  replace n_p2 : h_121.2.1 m_p2 = F_p2 := (funext fun j => (hs.a g_m_p2 rfl j).1).trans n_p2
  replace n_y_p2 : h_121.2.1 y_p2 = F_p2 := (funext fun j => (hs.a g_y_p2 rfl j).1).trans n_y_p2
  replace n_p3 : h_121.2.1 m_p3 = F_p3 := (funext fun j => (hs.a g_m_p3 rfl j).1).trans n_p3
  replace n_y_p3 : h_121.2.1 y_p3 = F_p3 := (funext fun j => (hs.a g_y_p3 rfl j).1).trans n_y_p3
  replace n_p4 : h_121.2.1 m_p4 = F_p4 := (funext fun j => (hs.a g_m_p4 rfl j).1).trans n_p4
  replace n_y_p4 : h_121.2.1 y_p4 = F_p4 := (funext fun j => (hs.a g_y_p4 rfl j).1).trans n_y_p4
  replace n_y_ls : h_121.2.1 y_ls = F_y_ls := (funext fun j => (hs.a g_y_ls rfl j).1).trans n_y_ls
  replace n_m_rl : h_121.2.1 m_rl = F_m_rl := (funext fun j => (hs.a g_m_rl rfl j).1).trans n_m_rl
  replace gx := gx.S hs
  replace gm := gm.S hs
  replace g_qa := g_qa.S hs
  replace g_qp := g_qp.S hs
  replace g_qc := g_qc.S hs
  replace g_qh := g_qh.S hs
  replace g_qw := g_qw.S hs
  replace g_ql := g_ql.S hs
  replace g_mw := g_mw.S hs
  replace g_mr := g_mr.S hs
  replace g_mp := g_mp.S hs
  replace g_mn := g_mn.S hs
  replace g_ml := g_ml.S hs
  replace g_mh := g_mh.S hs
  replace g_mt := g_mt.S hs
  replace g_m_fou := g_m_fou.S hs
  replace g_qo_ln := g_qo_ln.S hs
  replace g_qo_py := g_qo_py.S hs
  replace g_b_of := g_b_of.S hs
  replace g_m_of := g_m_of.S hs
  replace g_b_wf := g_b_wf.S hs
  replace g_m_wf := g_m_wf.S hs
  replace g_b_df := g_b_df.S hs
  replace g_m_df := g_m_df.S hs
  replace g_b_kf := g_b_kf.S hs
  replace g_m_kf := g_m_kf.S hs
  replace g_b_sf := g_b_sf.S hs
  replace g_m_sf := g_m_sf.S hs
  replace g_b_bf := g_b_bf.S hs
  replace g_m_lst := g_m_lst.S hs
  replace g_qtp := g_qtp.S hs
  replace g_m_tp := g_m_tp.S hs
  replace g_m_dead := g_m_dead.S hs
  replace g_m_isj := g_m_isj.S hs
  replace g_m_dox := g_m_dox.S hs
  replace g_m_doy := g_m_doy.S hs
  replace g_qlt := g_qlt.S hs
  replace g_qlf := g_qlf.S hs
  replace g_m_wkd := g_m_wkd.S hs
  replace g_m_aga := g_m_aga.S hs
  replace g_qwo := g_qwo.S hs
  replace g_m_ad := g_m_ad.S hs
  replace g_m_by := g_m_by.S hs
  replace g_m_ho := g_m_ho.S hs
  replace g_m_fc := g_m_fc.S hs
  replace g_m_nt := g_m_nt.S hs
  replace g_m_wt := g_m_wt.S hs
  replace g_m_be := g_m_be.S hs
  replace g_m_bor := g_m_bor.S hs
  replace g_m_kin := g_m_kin.S hs
  replace g_m_sum := g_m_sum.S hs
  replace g_m_fro := g_m_fro.S hs
  replace g_m_fil := g_m_fil.S hs
  replace g_m_jud := g_m_jud.S hs
  replace g_m_ear := g_m_ear.S hs
  replace g_m_hds := g_m_hds.S hs
  replace g_m_ord := g_m_ord.S hs
  replace g_m_wkl := g_m_wkl.S hs
  replace g_m_owd := g_m_owd.S hs
  replace g_m_gds := g_m_gds.S hs
  replace g_m_szd := g_m_szd.S hs
  replace g_m_srv := g_m_srv.S hs
  replace g_y_p0 := g_y_p0.S hs
  replace g_m_p0 := g_m_p0.S hs
  replace g_y_p1 := g_y_p1.S hs
  replace g_m_p1 := g_m_p1.S hs
  replace g_y_p2 := g_y_p2.S hs
  replace g_m_p2 := g_m_p2.S hs
  replace g_y_p3 := g_y_p3.S hs
  replace g_m_p3 := g_m_p3.S hs
  replace g_y_p4 := g_y_p4.S hs
  replace g_m_p4 := g_m_p4.S hs
  replace g_qrg9 := g_qrg9.S hs
  replace g_y_ls := g_y_ls.S hs
  replace g_m_rl := g_m_rl.S hs
  refine lv_pop hx hb dL_law_318 rfl ?_
  refine lv_aload_n hx hb dL_law_319 rfl (lv_at hl 1 rfl) ?_
  refine lv_aload_n hx hb dL_law_320 rfl (lv_at hl 3 rfl) ?_
  refine lv_iload_n hx hb dL_law_321 rfl (lv_at hl 0 rfl) ?_
  refine lv_iconst (v := 1) hx hb dL_law_322 ?o27 ?_
  case o27 => decide
  refine lv_iadd hx hb dL_law_323 ?_
  refine lv_topi (fun x_125 ex_125 => ?_)
  have zx_125 : x_125.toInt = i.toInt + 1 := ?o28
  case o28 =>
    rw [ex_125]
    refine i32_add rfl ?o29 ?o30 ?o31
    case o29 => decide
    case o30 => omega
    case o31 => omega
  obtain rfl : x_116 = x_125 := ex_116.trans ex_125.symm
  refine va_sld hx hb hX hbl hbA hW.2.2.2.1 (vp_in_iff.mpr ⟨?o32, ?o33⟩) dL_law_324 ?_
  case o32 => omega
  case o33 => omega
  refine lv_topi (fun x_126 ex_126 => ?_)
  obtain rfl : x_117 = x_126 := ex_117.trans ex_126.symm
  refine lv_aload_n hx hb dL_law_325 rfl (lv_at hl 3 rfl) ?_
  refine lv_iload_n hx hb dL_law_326 rfl (lv_at hl 0 rfl) ?_
  refine lv_iconst (v := 2) hx hb dL_law_327 ?o34 ?_
  case o34 => decide
  refine lv_iadd hx hb dL_law_328 ?_
  refine lv_topi (fun x_127 ex_127 => ?_)
  have zx_127 : x_127.toInt = i.toInt + 2 := ?o35
  case o35 =>
    rw [ex_127]
    refine i32_add rfl ?o36 ?o37 ?o38
    case o36 => decide
    case o37 => omega
    case o38 => omega
  obtain rfl : x_118 = x_127 := ex_118.trans ex_127.symm
  refine va_sld hx hb hX hbl hbA hW.2.2.2.1 (vp_in_iff.mpr ⟨?o39, ?o40⟩) dL_law_329 ?_
  case o39 => omega
  case o40 => omega
  refine lv_topi (fun x_128 ex_128 => ?_)
  obtain rfl : x_119 = x_128 := ex_119.trans ex_128.symm
  have hTo := hT
  refine hx_goi (hx_runV (As := [.int x_117, .int x_119]) (rest := []) ⟨hx, hb, hml, hown, hts⟩ hW gm tt_10 (T := TX10) (N := 98) rfl (t_X10_force_v l dC dI dA L_120 h_121 H.size am x_117 x_119 hT gm m_ad g_m_ad f_m_ad mr g_mr f_mr mn g_mn f_mn mp g_mp f_mp F_ad n_ad F_mr n_mr F_mn n_mn F_mp n_mp a0 f_m_acts A9 hCA9) (cwV 2 hts (hx_gV kw_1525 kw_1522 kw_1523 kw_1524 kw_103) rfl rfl rfl (by decide +kernel) ⟨Nat.le_of_ble_eq_true rfl, Nat.le_of_ble_eq_true rfl⟩) rfl hl.1 rfl (Nat.le_of_ble_eq_true rfl) dL_law_330 ⟨(show CC + 0 + 0 ≤ 600000 from ?o41), (show SS + 0 + 0 ≤ 7302250 from ?o42)⟩) hW (fun r_131 L_129 h_130 H locs p_132 hW => ?_)
  case o41 => omega
  case o42 => omega
  obtain ⟨hr_133, hT, hs⟩ := p_132
  replace hT : hx_T T_tb L_129 h_130 := hT
  replace hs : hx_S T_tb [] L_120 h_121 L_129 h_130 := hs
  replace f_qa := (hs.o gx trivial rfl).2.trans f_qa
  replace f_qp := (hs.o gx trivial rfl).2.trans f_qp
  replace f_qc := (hs.o gx trivial rfl).2.trans f_qc
  replace f_qh := (hs.o gx trivial rfl).2.trans f_qh
  replace f_qw := (hs.o gx trivial rfl).2.trans f_qw
  replace f_ql := (hs.o g_qw trivial rfl).2.trans f_ql
  replace f_m_now := (hs.o gm trivial rfl).1.trans f_m_now
  replace f_m_persons := (hs.o gm trivial rfl).1.trans f_m_persons
  replace f_m_claims := (hs.o gm trivial rfl).1.trans f_m_claims
  replace f_m_taped := (hs.o gm trivial rfl).1.trans f_m_taped
  replace f_m_acts := (hs.o gm trivial rfl).1.trans f_m_acts
  replace f_m_heardMany := (hs.o gm trivial rfl).1.trans f_m_heardMany
  replace f_m_lines := (hs.o gm trivial rfl).1.trans f_m_lines
  replace f_m_listed := (hs.o gm trivial rfl).1.trans f_m_listed
  replace f_m_walkedMany := (hs.o gm trivial rfl).1.trans f_m_walkedMany
  replace f_m_payments := (hs.o gm trivial rfl).1.trans f_m_payments
  replace f_x_now := (hs.o gx trivial rfl).1.trans f_x_now
  replace f_x_personCount := (hs.o gx trivial rfl).1.trans f_x_personCount
  replace f_x_claimCount := (hs.o gx trivial rfl).1.trans f_x_claimCount
  replace f_x_tapeLength := (hs.o gx trivial rfl).1.trans f_x_tapeLength
  replace f_x_actCount := (hs.o gx trivial rfl).1.trans f_x_actCount
  replace f_x_heardCount := (hs.o gx trivial rfl).1.trans f_x_heardCount
  replace f_mw := (hs.o gm trivial rfl).2.trans f_mw
  replace f_mr := (hs.o gm trivial rfl).2.trans f_mr
  replace f_mp := (hs.o gm trivial rfl).2.trans f_mp
  replace f_mn := (hs.o gm trivial rfl).2.trans f_mn
  replace f_ml := (hs.o gm trivial rfl).2.trans f_ml
  replace f_mh := (hs.o gm trivial rfl).2.trans f_mh
  replace f_mt := (hs.o gm trivial rfl).2.trans f_mt
  replace f_m_fou := (hs.o gm trivial rfl).2.trans f_m_fou
  replace f_qo_ln := (hs.o gx trivial rfl).2.trans f_qo_ln
  replace f_o_ln := (hs.o g_qo_ln trivial rfl).1.trans f_o_ln
  replace f_o_lsd := (hs.o g_qw trivial rfl).1.trans f_o_lsd
  replace f_o_wkm := (hs.o g_qw trivial rfl).1.trans f_o_wkm
  replace f_qo_py := (hs.o gx trivial rfl).2.trans f_qo_py
  replace f_o_py := (hs.o g_qo_py trivial rfl).1.trans f_o_py
  replace f_b_of := (hs.o g_qo_ln trivial rfl).2.trans f_b_of
  replace f_m_of := (hs.o gm trivial rfl).2.trans f_m_of
  replace f_b_wf := (hs.o g_qo_ln trivial rfl).2.trans f_b_wf
  replace f_m_wf := (hs.o gm trivial rfl).2.trans f_m_wf
  replace f_b_df := (hs.o g_qo_ln trivial rfl).2.trans f_b_df
  replace f_m_df := (hs.o gm trivial rfl).2.trans f_m_df
  replace f_b_kf := (hs.o g_qo_ln trivial rfl).2.trans f_b_kf
  replace f_m_kf := (hs.o gm trivial rfl).2.trans f_m_kf
  replace f_b_sf := (hs.o g_qo_ln trivial rfl).2.trans f_b_sf
  replace f_m_sf := (hs.o gm trivial rfl).2.trans f_m_sf
  replace f_b_bf := (hs.o g_qo_ln trivial rfl).2.trans f_b_bf
  replace f_m_lst := (hs.o gm trivial rfl).2.trans f_m_lst
  replace f_qtp := (hs.o gx trivial rfl).2.trans f_qtp
  replace f_m_tp := (hs.o gm trivial rfl).2.trans f_m_tp
  replace f_m_dead := (hs.o gm trivial rfl).2.trans f_m_dead
  replace f_m_isj := (hs.o gm trivial rfl).2.trans f_m_isj
  replace f_m_dox := (hs.o gm trivial rfl).2.trans f_m_dox
  replace f_m_doy := (hs.o gm trivial rfl).2.trans f_m_doy
  replace f_qlt := (hs.o g_qw trivial rfl).2.trans f_qlt
  replace f_qlf := (hs.o g_qw trivial rfl).2.trans f_qlf
  replace f_m_wkd := (hs.o gm trivial rfl).2.trans f_m_wkd
  replace f_m_aga := (hs.o gm trivial rfl).2.trans f_m_aga
  replace f_qwo := (hs.o gx trivial rfl).2.trans f_qwo
  replace f_m_ad := (hs.o gm trivial rfl).2.trans f_m_ad
  replace f_m_by := (hs.o gm trivial rfl).2.trans f_m_by
  replace f_m_ho := (hs.o gm trivial rfl).2.trans f_m_ho
  replace f_m_fc := (hs.o gm trivial rfl).2.trans f_m_fc
  replace f_m_nt := (hs.o gm trivial rfl).2.trans f_m_nt
  replace f_m_wt := (hs.o gm trivial rfl).2.trans f_m_wt
  replace f_m_be := (hs.o gm trivial rfl).2.trans f_m_be
  replace f_m_bor := (hs.o gm trivial rfl).2.trans f_m_bor
  replace f_m_kin := (hs.o gm trivial rfl).2.trans f_m_kin
  replace f_m_sum := (hs.o gm trivial rfl).2.trans f_m_sum
  replace f_m_fro := (hs.o gm trivial rfl).2.trans f_m_fro
  replace f_m_fil := (hs.o gm trivial rfl).2.trans f_m_fil
  replace f_m_jud := (hs.o gm trivial rfl).2.trans f_m_jud
  replace f_m_ear := (hs.o gm trivial rfl).2.trans f_m_ear
  replace f_m_hds := (hs.o gm trivial rfl).2.trans f_m_hds
  replace f_m_ord := (hs.o gm trivial rfl).2.trans f_m_ord
  replace f_m_wkl := (hs.o gm trivial rfl).2.trans f_m_wkl
  replace f_m_owd := (hs.o gm trivial rfl).2.trans f_m_owd
  replace f_m_gds := (hs.o gm trivial rfl).2.trans f_m_gds
  replace f_m_szd := (hs.o gm trivial rfl).2.trans f_m_szd
  replace f_m_srv := (hs.o gm trivial rfl).2.trans f_m_srv
  replace f_y_p0 := (hs.o g_qo_py trivial rfl).2.trans f_y_p0
  replace f_m_p0 := (hs.o gm trivial rfl).2.trans f_m_p0
  replace f_y_p1 := (hs.o g_qo_py trivial rfl).2.trans f_y_p1
  replace f_m_p1 := (hs.o gm trivial rfl).2.trans f_m_p1
  replace f_y_p2 := (hs.o g_qo_py trivial rfl).2.trans f_y_p2
  replace f_m_p2 := (hs.o gm trivial rfl).2.trans f_m_p2
  replace f_y_p3 := (hs.o g_qo_py trivial rfl).2.trans f_y_p3
  replace f_m_p3 := (hs.o gm trivial rfl).2.trans f_m_p3
  replace f_y_p4 := (hs.o g_qo_py trivial rfl).2.trans f_y_p4
  replace f_m_p4 := (hs.o gm trivial rfl).2.trans f_m_p4
  replace f_qrg9 := (hs.o gx trivial rfl).2.trans f_qrg9
  replace f_y_ls := (hs.o g_qrg9 trivial rfl).2.trans f_y_ls
  replace f_m_rl := (hs.o gm trivial rfl).2.trans f_m_rl
  replace ffv_112 := (hs.o g_qrg9 trivial rfl).1.trans ffv_112
  replace ffv_113 := (hs.o gm trivial rfl).1.trans ffv_113
  replace ffv_114 := (hs.o gm trivial rfl).1.trans ffv_114
  replace pf_qa : ∀ j : Nat, (j : Int) < (h_130.2.1 ax 6).toInt → h_130.2.2 qa j ≠ none := by
    intro j hj; rw [(hs.o gx trivial rfl).1] at hj; rw [(hs.a g_qa rfl j).2]; exact pf_qa j hj
  replace pf_qp : ∀ j : Nat, (j : Int) < (h_130.2.1 ax 8).toInt → h_130.2.2 qp j ≠ none := by
    intro j hj; rw [(hs.o gx trivial rfl).1] at hj; rw [(hs.a g_qp rfl j).2]; exact pf_qp j hj
  replace pf_qc : ∀ j : Nat, (j : Int) < (h_130.2.1 ax 11).toInt → h_130.2.2 qc j ≠ none := by
    intro j hj; rw [(hs.o gx trivial rfl).1] at hj; rw [(hs.a g_qc rfl j).2]; exact pf_qc j hj
  replace pf_qh : ∀ j : Nat, (j : Int) < (h_130.2.1 ax 13).toInt → h_130.2.2 qh j ≠ none := by
    intro j hj; rw [(hs.o gx trivial rfl).1] at hj; rw [(hs.a g_qh rfl j).2]; exact pf_qh j hj
  replace pf_ql : ∀ j : Nat, (j : Int) < (h_130.2.1 qw 0).toInt → h_130.2.2 ql j ≠ none := by
    intro j hj; rw [(hs.o g_qw trivial rfl).1] at hj; rw [(hs.a g_ql rfl j).2]; exact pf_ql j hj
  replace cl_lst : hx_col 8 h_130 ql 0 = c_lst := (hx_col_S hs hTo g_ql tt_40 tt_2 rfl rfl).trans cl_lst
  replace cl_dead : hx_col 40 h_130 qp 7 = c_dead := (hx_col_S hs hTo g_qp tt_44 tt_4 rfl rfl).trans cl_dead
  replace cl_isj : hx_col 40 h_130 qp 8 = c_isj := (hx_col_S hs hTo g_qp tt_44 tt_4 rfl rfl).trans cl_isj
  replace cl_dox : hx_col 40 h_130 qp 5 = c_dox := (hx_col_S hs hTo g_qp tt_44 tt_4 rfl rfl).trans cl_dox
  replace cl_doy : hx_col 40 h_130 qp 6 = c_doy := (hx_col_S hs hTo g_qp tt_44 tt_4 rfl rfl).trans cl_doy
  replace cl_fou : hx_col 100 h_130 qc 10 = c_fou := (hx_col_S hs hTo g_qc tt_45 tt_2 rfl rfl).trans cl_fou
  replace cl_tri : hx_col 100 h_130 qc 9 = c_tri := (hx_col_S hs hTo g_qc tt_45 tt_2 rfl rfl).trans cl_tri
  replace cl_bor : hx_col 40 h_130 qp 1 = F_bor := (hx_col_S hs hTo g_qp tt_44 tt_4 rfl rfl).trans cl_bor
  replace cl_kin : hx_col 40 h_130 qp 2 = F_kin := (hx_col_S hs hTo g_qp tt_44 tt_4 rfl rfl).trans cl_kin
  replace cl_sum : hx_col 100 h_130 qc 6 = F_sum := (hx_col_S hs hTo g_qc tt_45 tt_2 rfl rfl).trans cl_sum
  replace cl_fro : hx_col 100 h_130 qc 7 = F_fro := (hx_col_S hs hTo g_qc tt_45 tt_2 rfl rfl).trans cl_fro
  replace cl_fil : hx_col 100 h_130 qc 8 = F_fil := (hx_col_S hs hTo g_qc tt_45 tt_2 rfl rfl).trans cl_fil
  replace cl_hea : hx_col 100 h_130 qc 11 = F_mh := (hx_col_S hs hTo g_qc tt_45 tt_2 rfl rfl).trans cl_hea
  replace cl_jud : hx_col 100 h_130 qc 12 = F_jud := (hx_col_S hs hTo g_qc tt_45 tt_2 rfl rfl).trans cl_jud
  replace cl_ear : hx_col 40 h_130 qp 3 = F_ear := (hx_col_S hs hTo g_qp tt_44 tt_4 rfl rfl).trans cl_ear
  replace cl_hds : hx_col 40 h_130 qp 4 = F_hds := (hx_col_S hs hTo g_qp tt_44 tt_4 rfl rfl).trans cl_hds
  replace cl_ord : hx_col 100 h_130 qc 13 = F_ord := (hx_col_S hs hTo g_qc tt_45 tt_2 rfl rfl).trans cl_ord
  replace cl_wkl : hx_col 100 h_130 qc 14 = F_wkl := (hx_col_S hs hTo g_qc tt_45 tt_2 rfl rfl).trans cl_wkl
  replace cl_owd : hx_col 100 h_130 qc 15 = F_owd := (hx_col_S hs hTo g_qc tt_45 tt_2 rfl rfl).trans cl_owd
  replace cl_gds : hx_col 100 h_130 qc 17 = F_gds := (hx_col_S hs hTo g_qc tt_45 tt_2 rfl rfl).trans cl_gds
  replace cl_szd : hx_col 100 h_130 qc 16 = F_szd := (hx_col_S hs hTo g_qc tt_45 tt_2 rfl rfl).trans cl_szd
  replace cl_srv : hx_col 100 h_130 qc 18 = F_srv := (hx_col_S hs hTo g_qc tt_45 tt_2 rfl rfl).trans cl_srv
  replace nu_qp : hx_num 40 h_130 qp 0 (np.toInt) := hx_num_S hs hTo g_qp tt_44 tt_4 rfl rfl nu_qp
  replace nu_qc : hx_num 100 h_130 qc 0 (c0.toInt) := hx_num_S hs hTo g_qc tt_45 tt_2 rfl rfl nu_qc
  replace sb_list : hx_LQ 8 100 h_130 ql qc := hx_LQ_S hs g_ql g_qc rfl rfl sb_list
  replace hDF : hw_DF h_130 qc qp 2 F_aga c0.toInt := hw_DF_S hs hTo g_qc g_qp tt_45 tt_2 rfl rfl rfl hDF
  replace hRA9 : hv_RA h_130 qa qwo a0.toInt A9 := hv_RA_S hs hTo g_qa g_qwo tt_43 tt_0 rfl rfl rfl rfl rfl rfl ?o43 hRA9
  case o43 => omega
  replace hDP : hw_DF h_130 qc qp 1 F_by c0.toInt := hw_DF_S hs hTo g_qc g_qp tt_45 tt_2 rfl rfl rfl hDP
  replace hAC9 : hv_AC h_130 qc F_ml c0.toInt A9 := hv_AC_S hs hTo g_qc tt_45 tt_2 rfl tt_0 rfl rfl rfl rfl rfl rfl rfl hAC9
  replace hFX : hv_FX 8 4 h_130 qc cF9L c0.toInt := hv_FX_S hs hTo g_qc tt_45 tt_2 rfl rfl rfl rfl hFX
  replace hBX : hv_FX 3 5 h_130 qc F_be c0.toInt := hv_FX_S hs hTo g_qc tt_45 tt_2 rfl rfl rfl rfl hBX
  replace hHL : hv_HL h_130 qh qc F_ho m0.toInt c0.toInt := hv_HL_S hs g_qh g_qc rfl rfl hHL
  replace n_mw : h_130.2.1 mw = F_mw := (funext fun j => (hs.a g_mw rfl j).1).trans n_mw
  replace n_mr : h_130.2.1 mr = F_mr := (funext fun j => (hs.a g_mr rfl j).1).trans n_mr
  replace n_mp : h_130.2.1 mp = F_mp := (funext fun j => (hs.a g_mp rfl j).1).trans n_mp
  replace n_mn : h_130.2.1 mn = F_mn := (funext fun j => (hs.a g_mn rfl j).1).trans n_mn
  replace n_ml : h_130.2.1 ml = F_ml := (funext fun j => (hs.a g_ml rfl j).1).trans n_ml
  replace n_mh : h_130.2.1 mh = F_mh := (funext fun j => (hs.a g_mh rfl j).1).trans n_mh
  replace n_mt : h_130.2.1 mt = F_mt := (funext fun j => (hs.a g_mt rfl j).1).trans n_mt
  replace n_m_fou : h_130.2.1 m_fou = F_m_fou := (funext fun j => (hs.a g_m_fou rfl j).1).trans n_m_fou
  replace n_b_of : h_130.2.1 b_of = B_of := (funext fun j => (hs.a g_b_of rfl j).1).trans n_b_of
  replace n_m_of : h_130.2.1 m_of = F_of := (funext fun j => (hs.a g_m_of rfl j).1).trans n_m_of
  replace n_b_wf : h_130.2.1 b_wf = B_wf := (funext fun j => (hs.a g_b_wf rfl j).1).trans n_b_wf
  replace n_m_wf : h_130.2.1 m_wf = F_wf := (funext fun j => (hs.a g_m_wf rfl j).1).trans n_m_wf
  replace n_b_df : h_130.2.1 b_df = B_df := (funext fun j => (hs.a g_b_df rfl j).1).trans n_b_df
  replace n_m_df : h_130.2.1 m_df = F_df := (funext fun j => (hs.a g_m_df rfl j).1).trans n_m_df
  replace n_b_kf : h_130.2.1 b_kf = B_kf := (funext fun j => (hs.a g_b_kf rfl j).1).trans n_b_kf
  replace n_m_kf : h_130.2.1 m_kf = F_kf := (funext fun j => (hs.a g_m_kf rfl j).1).trans n_m_kf
  replace n_b_sf : h_130.2.1 b_sf = B_sf := (funext fun j => (hs.a g_b_sf rfl j).1).trans n_b_sf
  replace n_m_sf : h_130.2.1 m_sf = F_sf := (funext fun j => (hs.a g_m_sf rfl j).1).trans n_m_sf
  replace n_b_bf : h_130.2.1 b_bf = bfL := (funext fun j => (hs.a g_b_bf rfl j).1).trans n_b_bf
  replace n_lst : h_130.2.1 m_lst = F_lst := (funext fun j => (hs.a g_m_lst rfl j).1).trans n_lst
  replace n_tp : h_130.2.1 m_tp = F_tp := (funext fun j => (hs.a g_m_tp rfl j).1).trans n_tp
  replace n_qtp : h_130.2.1 qtp = F_tp := (funext fun j => (hs.a g_qtp rfl j).1).trans n_qtp
  replace n_dead : h_130.2.1 m_dead = F_dead := (funext fun j => (hs.a g_m_dead rfl j).1).trans n_dead
  replace n_isj : h_130.2.1 m_isj = F_isj := (funext fun j => (hs.a g_m_isj rfl j).1).trans n_isj
  replace n_dox : h_130.2.1 m_dox = F_dox := (funext fun j => (hs.a g_m_dox rfl j).1).trans n_dox
  replace n_doy : h_130.2.1 m_doy = F_doy := (funext fun j => (hs.a g_m_doy rfl j).1).trans n_doy
  replace n_qlt : h_130.2.1 qlt = F_qlt := (funext fun j => (hs.a g_qlt rfl j).1).trans n_qlt
  replace n_m_wkd : h_130.2.1 m_wkd = F_m_wkd := (funext fun j => (hs.a g_m_wkd rfl j).1).trans n_m_wkd
  replace n_aga : h_130.2.1 m_aga = F_aga := (funext fun j => (hs.a g_m_aga rfl j).1).trans n_aga
  replace n_ad : h_130.2.1 m_ad = F_ad := (funext fun j => (hs.a g_m_ad rfl j).1).trans n_ad
  replace n_by : h_130.2.1 m_by = F_by := (funext fun j => (hs.a g_m_by rfl j).1).trans n_by
  replace n_ho : h_130.2.1 m_ho = F_ho := (funext fun j => (hs.a g_m_ho rfl j).1).trans n_ho
  replace n_fc : h_130.2.1 m_fc = F_fc := (funext fun j => (hs.a g_m_fc rfl j).1).trans n_fc
  replace n_nt : h_130.2.1 m_nt = F_nt := (funext fun j => (hs.a g_m_nt rfl j).1).trans n_nt
  replace n_wt : h_130.2.1 m_wt = F_wt := (funext fun j => (hs.a g_m_wt rfl j).1).trans n_wt
  replace n_be : h_130.2.1 m_be = F_be := (funext fun j => (hs.a g_m_be rfl j).1).trans n_be
  replace n_bor : h_130.2.1 m_bor = F_bor := (funext fun j => (hs.a g_m_bor rfl j).1).trans n_bor
  replace n_kin : h_130.2.1 m_kin = F_kin := (funext fun j => (hs.a g_m_kin rfl j).1).trans n_kin
  replace n_sum : h_130.2.1 m_sum = F_sum := (funext fun j => (hs.a g_m_sum rfl j).1).trans n_sum
  replace n_fro : h_130.2.1 m_fro = F_fro := (funext fun j => (hs.a g_m_fro rfl j).1).trans n_fro
  replace n_fil : h_130.2.1 m_fil = F_fil := (funext fun j => (hs.a g_m_fil rfl j).1).trans n_fil
  replace n_jud : h_130.2.1 m_jud = F_jud := (funext fun j => (hs.a g_m_jud rfl j).1).trans n_jud
  replace n_ear : h_130.2.1 m_ear = F_ear := (funext fun j => (hs.a g_m_ear rfl j).1).trans n_ear
  replace n_hds : h_130.2.1 m_hds = F_hds := (funext fun j => (hs.a g_m_hds rfl j).1).trans n_hds
  replace n_ord : h_130.2.1 m_ord = F_ord := (funext fun j => (hs.a g_m_ord rfl j).1).trans n_ord
  replace n_wkl : h_130.2.1 m_wkl = F_wkl := (funext fun j => (hs.a g_m_wkl rfl j).1).trans n_wkl
  replace n_owd : h_130.2.1 m_owd = F_owd := (funext fun j => (hs.a g_m_owd rfl j).1).trans n_owd
  replace n_gds : h_130.2.1 m_gds = F_gds := (funext fun j => (hs.a g_m_gds rfl j).1).trans n_gds
  replace n_szd : h_130.2.1 m_szd = F_szd := (funext fun j => (hs.a g_m_szd rfl j).1).trans n_szd
  replace n_srv : h_130.2.1 m_srv = F_srv := (funext fun j => (hs.a g_m_srv rfl j).1).trans n_srv
  replace n_p0 : h_130.2.1 m_p0 = F_p0 := (funext fun j => (hs.a g_m_p0 rfl j).1).trans n_p0
  replace n_y_p0 : h_130.2.1 y_p0 = F_p0 := (funext fun j => (hs.a g_y_p0 rfl j).1).trans n_y_p0
  replace n_p1 : h_130.2.1 m_p1 = F_p1 := (funext fun j => (hs.a g_m_p1 rfl j).1).trans n_p1
  replace n_y_p1 : h_130.2.1 y_p1 = F_p1 := (funext fun j => (hs.a g_y_p1 rfl j).1).trans n_y_p1
  replace n_p2 : h_130.2.1 m_p2 = F_p2 := (funext fun j => (hs.a g_m_p2 rfl j).1).trans n_p2
  replace n_y_p2 : h_130.2.1 y_p2 = F_p2 := (funext fun j => (hs.a g_y_p2 rfl j).1).trans n_y_p2
  replace n_p3 : h_130.2.1 m_p3 = F_p3 := (funext fun j => (hs.a g_m_p3 rfl j).1).trans n_p3
  replace n_y_p3 : h_130.2.1 y_p3 = F_p3 := (funext fun j => (hs.a g_y_p3 rfl j).1).trans n_y_p3
  replace n_p4 : h_130.2.1 m_p4 = F_p4 := (funext fun j => (hs.a g_m_p4 rfl j).1).trans n_p4
  replace n_y_p4 : h_130.2.1 y_p4 = F_p4 := (funext fun j => (hs.a g_y_p4 rfl j).1).trans n_y_p4
  replace n_y_ls : h_130.2.1 y_ls = F_y_ls := (funext fun j => (hs.a g_y_ls rfl j).1).trans n_y_ls
  replace n_m_rl : h_130.2.1 m_rl = F_m_rl := (funext fun j => (hs.a g_m_rl rfl j).1).trans n_m_rl
  replace gx := gx.S hs
  replace gm := gm.S hs
  replace g_qa := g_qa.S hs
  replace g_qp := g_qp.S hs
  replace g_qc := g_qc.S hs
  replace g_qh := g_qh.S hs
  replace g_qw := g_qw.S hs
  replace g_ql := g_ql.S hs
  replace g_mw := g_mw.S hs
  replace g_mr := g_mr.S hs
  replace g_mp := g_mp.S hs
  replace g_mn := g_mn.S hs
  replace g_ml := g_ml.S hs
  replace g_mh := g_mh.S hs
  replace g_mt := g_mt.S hs
  replace g_m_fou := g_m_fou.S hs
  replace g_qo_ln := g_qo_ln.S hs
  replace g_qo_py := g_qo_py.S hs
  replace g_b_of := g_b_of.S hs
  replace g_m_of := g_m_of.S hs
  replace g_b_wf := g_b_wf.S hs
  replace g_m_wf := g_m_wf.S hs
  replace g_b_df := g_b_df.S hs
  replace g_m_df := g_m_df.S hs
  replace g_b_kf := g_b_kf.S hs
  replace g_m_kf := g_m_kf.S hs
  replace g_b_sf := g_b_sf.S hs
  replace g_m_sf := g_m_sf.S hs
  replace g_b_bf := g_b_bf.S hs
  replace g_m_lst := g_m_lst.S hs
  replace g_qtp := g_qtp.S hs
  replace g_m_tp := g_m_tp.S hs
  replace g_m_dead := g_m_dead.S hs
  replace g_m_isj := g_m_isj.S hs
  replace g_m_dox := g_m_dox.S hs
  replace g_m_doy := g_m_doy.S hs
  replace g_qlt := g_qlt.S hs
  replace g_qlf := g_qlf.S hs
  replace g_m_wkd := g_m_wkd.S hs
  replace g_m_aga := g_m_aga.S hs
  replace g_qwo := g_qwo.S hs
  replace g_m_ad := g_m_ad.S hs
  replace g_m_by := g_m_by.S hs
  replace g_m_ho := g_m_ho.S hs
  replace g_m_fc := g_m_fc.S hs
  replace g_m_nt := g_m_nt.S hs
  replace g_m_wt := g_m_wt.S hs
  replace g_m_be := g_m_be.S hs
  replace g_m_bor := g_m_bor.S hs
  replace g_m_kin := g_m_kin.S hs
  replace g_m_sum := g_m_sum.S hs
  replace g_m_fro := g_m_fro.S hs
  replace g_m_fil := g_m_fil.S hs
  replace g_m_jud := g_m_jud.S hs
  replace g_m_ear := g_m_ear.S hs
  replace g_m_hds := g_m_hds.S hs
  replace g_m_ord := g_m_ord.S hs
  replace g_m_wkl := g_m_wkl.S hs
  replace g_m_owd := g_m_owd.S hs
  replace g_m_gds := g_m_gds.S hs
  replace g_m_szd := g_m_szd.S hs
  replace g_m_srv := g_m_srv.S hs
  replace g_y_p0 := g_y_p0.S hs
  replace g_m_p0 := g_m_p0.S hs
  replace g_y_p1 := g_y_p1.S hs
  replace g_m_p1 := g_m_p1.S hs
  replace g_y_p2 := g_y_p2.S hs
  replace g_m_p2 := g_m_p2.S hs
  replace g_y_p3 := g_y_p3.S hs
  replace g_m_p3 := g_m_p3.S hs
  replace g_y_p4 := g_y_p4.S hs
  replace g_m_p4 := g_m_p4.S hs
  replace g_qrg9 := g_qrg9.S hs
  replace g_y_ls := g_y_ls.S hs
  replace g_m_rl := g_m_rl.S hs
  refine lv_pop hx hb dL_law_333 rfl ?_
  refine lv_goto (tgt := 1379) hx hb dL_law_334 ?o44 ?_
  case o44 => decide
  have heq := hv_FO_eq hr_124 hr_133
  refine W.widen (k := CC + 3) (n := SS + 179) ?o45 ?o46 ?_
  case o45 => omega
  case o46 => omega
  refine kk L_129 h_130 H locs ls hW ⟨hT, gx, gm, ⟨f_x_now.trans f_m_now.symm, f_x_personCount.trans f_m_persons.symm, f_x_claimCount.trans f_m_claims.symm, f_x_tapeLength.trans f_m_taped.symm, f_x_actCount.trans f_m_acts.symm, f_x_heardCount.trans f_m_heardMany.symm, hx_ob f_qo_ln (f_o_ln.trans f_m_lines.symm), hx_ob f_qw (f_o_lsd.trans f_m_listed.symm), hx_ob f_qw (f_o_wkm.trans f_m_walkedMany.symm), hx_ob f_qo_py (f_o_py.trans f_m_payments.symm), hx_ob f_qp ?o47, hx_ob f_qc ?o48, (fun b a r hb ha hr => ?o49), (fun b a r hb ha hr => ?o50), (fun b a r hb ha hr => ?o51), (fun b a r hb ha hr => ?o52), (fun b a r hb ha hr => ?o53), (fun b a r hb ha hr => ?o54), (fun w q c hw hq hc => ?o55), (fun w q r hw hq hr => ?o56), (fun w q r hw hq hr => ?o57), (fun c q a hc hq ha => ?o58), (fun q r hq hr => ?o59), (fun q w a b c d e p hq hw ha hb hc hd he hp => ?o60), (fun c q a hc hq ha => ?o61), (fun q c a hq hc ha => ?o62), (fun a b ha hb => ?o63), (fun c a b d e f hc ha hb hd he hf => ?o64), (fun c a hc ha => ?o65), hx_ob2 f_qp f_m_bor (cl_bor.trans n_bor.symm), hx_ob2 f_qp f_m_kin (cl_kin.trans n_kin.symm), hx_ob2 f_qc f_m_sum (cl_sum.trans n_sum.symm), hx_ob2 f_qc f_m_fro (cl_fro.trans n_fro.symm), hx_ob2 f_qc f_m_fil (cl_fil.trans n_fil.symm), hx_ob2 f_qc f_mh (cl_hea.trans n_mh.symm), hx_ob2 f_qc f_m_jud (cl_jud.trans n_jud.symm), hx_ob2 f_qp f_m_ear (cl_ear.trans n_ear.symm), hx_ob2 f_qp f_m_hds (cl_hds.trans n_hds.symm), hx_ob2 f_qc f_m_ord (cl_ord.trans n_ord.symm), hx_ob2 f_qc f_m_wkl (cl_wkl.trans n_wkl.symm), hx_ob2 f_qc f_m_owd (cl_owd.trans n_owd.symm), hx_ob2 f_qc f_m_gds (cl_gds.trans n_gds.symm), hx_ob2 f_qc f_m_szd (cl_szd.trans n_szd.symm), hx_ob2 f_qc f_m_srv (cl_srv.trans n_srv.symm), (fun p q r hp hq hr => ?o66), (fun p q r hp hq hr => ?o67), (fun p q r hp hq hr => ?o68), (fun p q r hp hq hr => ?o69), (fun p q r hp hq hr => ?o70), (fun p hp => ?o71), (fun p q r hp hq hr => ?o72), hx_ob2 f_qp f_m_dead ?o73, hx_ob2 f_qp f_m_isj ?o74, hx_ob2 f_qp f_m_dox ?o75, hx_ob2 f_qp f_m_doy ?o76, hx_ob2 f_qc f_m_fou ?o77, hx_ob2 f_qc f_mt ?o78, trivial⟩, ⟨hx_ob f_qa pf_qa, hx_ob f_qp pf_qp, hx_ob f_qc pf_qc, hx_ob f_qh pf_qh, (fun w q hw hq => ?o79)⟩, ⟨hx_ob f_mw ?o80, hx_ob f_mr ?o81, hx_ob2 f_mp f_mn ?o82, hx_ob f_ml ?o83, hx_ob f_mh ?o84, hx_ob f_mt ?o85, hx_ob2 f_mh f_m_fou ?o87⟩⟩ hl
  case o47 =>
    rw [f_x_personCount]
    exact nu_qp
  case o48 =>
    rw [f_x_claimCount]
    exact nu_qc
  case o49 =>
    obtain rfl : qo_ln = b := Option.some.inj (f_qo_ln.symm.trans hb)
    obtain rfl : b_of = a := Option.some.inj (f_b_of.symm.trans ha)
    obtain rfl : m_of = r := Option.some.inj (f_m_of.symm.trans hr)
    rw [n_b_of, n_m_of, f_o_ln]
    exact eb_of
  case o50 =>
    obtain rfl : qo_ln = b := Option.some.inj (f_qo_ln.symm.trans hb)
    obtain rfl : b_wf = a := Option.some.inj (f_b_wf.symm.trans ha)
    obtain rfl : m_wf = r := Option.some.inj (f_m_wf.symm.trans hr)
    rw [n_b_wf, n_m_wf, f_o_ln]
    exact eb_wf
  case o51 =>
    obtain rfl : qo_ln = b := Option.some.inj (f_qo_ln.symm.trans hb)
    obtain rfl : b_df = a := Option.some.inj (f_b_df.symm.trans ha)
    obtain rfl : m_df = r := Option.some.inj (f_m_df.symm.trans hr)
    rw [n_b_df, n_m_df, f_o_ln]
    exact eb_df
  case o52 =>
    obtain rfl : qo_ln = b := Option.some.inj (f_qo_ln.symm.trans hb)
    obtain rfl : b_kf = a := Option.some.inj (f_b_kf.symm.trans ha)
    obtain rfl : m_kf = r := Option.some.inj (f_m_kf.symm.trans hr)
    rw [n_b_kf, n_m_kf, f_o_ln]
    exact eb_kf
  case o53 =>
    obtain rfl : qo_ln = b := Option.some.inj (f_qo_ln.symm.trans hb)
    obtain rfl : b_sf = a := Option.some.inj (f_b_sf.symm.trans ha)
    obtain rfl : m_sf = r := Option.some.inj (f_m_sf.symm.trans hr)
    rw [n_b_sf, n_m_sf, f_o_ln]
    exact eb_sf
  case o54 =>
    obtain rfl : qo_ln = b := Option.some.inj (f_qo_ln.symm.trans hb)
    obtain rfl : b_df = a := Option.some.inj (f_b_df.symm.trans ha)
    obtain rfl : b_bf = r := Option.some.inj (f_b_bf.symm.trans hr)
    rw [n_b_df, n_b_bf, f_o_ln]
    exact ⟨hBD, hDY⟩
  case o55 =>
    obtain rfl : qw = w := Option.some.inj (f_qw.symm.trans hw)
    obtain rfl : ql = q := Option.some.inj (f_ql.symm.trans hq)
    obtain rfl : qc = c := Option.some.inj (f_qc.symm.trans hc)
    exact sb_list
  case o56 =>
    obtain rfl : qw = w := Option.some.inj (f_qw.symm.trans hw)
    obtain rfl : ql = q := Option.some.inj (f_ql.symm.trans hq)
    obtain rfl : m_lst = r := Option.some.inj (f_m_lst.symm.trans hr)
    rw [cl_lst, n_lst]
    exact eq_lst
  case o57 =>
    obtain rfl : qw = w := Option.some.inj (f_qw.symm.trans hw)
    obtain rfl : qlt = q := Option.some.inj (f_qlt.symm.trans hq)
    obtain rfl : m_wkd = r := Option.some.inj (f_m_wkd.symm.trans hr)
    rw [n_qlt, n_m_wkd, f_o_wkm]
    exact eb_wkd
  case o58 =>
    obtain rfl : qc = c := Option.some.inj (f_qc.symm.trans hc)
    obtain rfl : qp = q := Option.some.inj (f_qp.symm.trans hq)
    obtain rfl : m_aga = a := Option.some.inj (f_m_aga.symm.trans ha)
    rw [n_aga, f_x_claimCount]
    exact hw_DF_e hDF rfl rfl
  case o59 =>
    obtain rfl : qtp = q := Option.some.inj (f_qtp.symm.trans hq)
    obtain rfl : m_tp = r := Option.some.inj (f_m_tp.symm.trans hr)
    exact n_qtp.trans n_tp.symm
  case o60 =>
    obtain rfl : qa = q := Option.some.inj (f_qa.symm.trans hq)
    obtain rfl : qwo = w := Option.some.inj (f_qwo.symm.trans hw)
    obtain rfl : m_ad = a := Option.some.inj (f_m_ad.symm.trans ha)
    obtain rfl : mr = b := Option.some.inj (f_mr.symm.trans hb)
    obtain rfl : mn = c := Option.some.inj (f_mn.symm.trans hc)
    obtain rfl : mp = d := Option.some.inj (f_mp.symm.trans hd)
    obtain rfl : qc = e := Option.some.inj (f_qc.symm.trans he)
    obtain rfl : ml = p := Option.some.inj (f_ml.symm.trans hp)
    exact ⟨_, by rw [f_x_actCount]; exact hRA9, by rw [f_x_actCount, n_ad, n_mr, n_mn, n_mp]; exact hCA9, by rw [n_ml, f_x_claimCount]; exact hv_AC_e hAC9 rfl rfl rfl, hAB⟩
  case o61 =>
    obtain rfl : qc = c := Option.some.inj (f_qc.symm.trans hc)
    obtain rfl : qp = q := Option.some.inj (f_qp.symm.trans hq)
    obtain rfl : m_by = a := Option.some.inj (f_m_by.symm.trans ha)
    rw [n_by, f_x_claimCount]
    exact hw_DF_e hDP rfl rfl
  case o62 =>
    obtain rfl : qh = q := Option.some.inj (f_qh.symm.trans hq)
    obtain rfl : qc = c := Option.some.inj (f_qc.symm.trans hc)
    obtain rfl : m_ho = a := Option.some.inj (f_m_ho.symm.trans ha)
    rw [n_ho, f_x_heardCount, f_x_claimCount]
    exact hv_HL_e hHL rfl rfl rfl
  case o63 =>
    obtain rfl : m_ho = a := Option.some.inj (f_m_ho.symm.trans ha)
    obtain rfl : mh = b := Option.some.inj (f_mh.symm.trans hb)
    rw [n_ho, n_mh, f_m_heardMany, f_m_claims]
    exact hHO9
  case o64 =>
    obtain rfl : qc = c := Option.some.inj (f_qc.symm.trans hc)
    obtain rfl : m_fc = a := Option.some.inj (f_m_fc.symm.trans ha)
    obtain rfl : m_nt = b := Option.some.inj (f_m_nt.symm.trans hb)
    obtain rfl : m_wt = d := Option.some.inj (f_m_wt.symm.trans hd)
    obtain rfl : m_sum = e := Option.some.inj (f_m_sum.symm.trans he)
    obtain rfl : mh = f := Option.some.inj (f_mh.symm.trans hf)
    exact ⟨cF9L, by rw [f_x_claimCount]; exact hFX, by rw [n_fc, n_nt, n_wt, n_sum, n_mh, f_x_claimCount]; exact hFR9⟩
  case o65 =>
    obtain rfl : qc = c := Option.some.inj (f_qc.symm.trans hc)
    obtain rfl : m_be = a := Option.some.inj (f_m_be.symm.trans ha)
    rw [n_be, f_x_claimCount]
    exact hv_FX_e hBX rfl rfl
  case o66 =>
    obtain rfl : qo_py = p := Option.some.inj (f_qo_py.symm.trans hp)
    obtain rfl : y_p0 = q := Option.some.inj (f_y_p0.symm.trans hq)
    obtain rfl : m_p0 = r := Option.some.inj (f_m_p0.symm.trans hr)
    exact n_y_p0.trans n_p0.symm
  case o67 =>
    obtain rfl : qo_py = p := Option.some.inj (f_qo_py.symm.trans hp)
    obtain rfl : y_p1 = q := Option.some.inj (f_y_p1.symm.trans hq)
    obtain rfl : m_p1 = r := Option.some.inj (f_m_p1.symm.trans hr)
    exact n_y_p1.trans n_p1.symm
  case o68 =>
    obtain rfl : qo_py = p := Option.some.inj (f_qo_py.symm.trans hp)
    obtain rfl : y_p2 = q := Option.some.inj (f_y_p2.symm.trans hq)
    obtain rfl : m_p2 = r := Option.some.inj (f_m_p2.symm.trans hr)
    exact n_y_p2.trans n_p2.symm
  case o69 =>
    obtain rfl : qo_py = p := Option.some.inj (f_qo_py.symm.trans hp)
    obtain rfl : y_p3 = q := Option.some.inj (f_y_p3.symm.trans hq)
    obtain rfl : m_p3 = r := Option.some.inj (f_m_p3.symm.trans hr)
    exact n_y_p3.trans n_p3.symm
  case o70 =>
    obtain rfl : qo_py = p := Option.some.inj (f_qo_py.symm.trans hp)
    obtain rfl : y_p4 = q := Option.some.inj (f_y_p4.symm.trans hq)
    obtain rfl : m_p4 = r := Option.some.inj (f_m_p4.symm.trans hr)
    exact n_y_p4.trans n_p4.symm
  case o71 =>
    obtain rfl : qrg9 = p := Option.some.inj (f_qrg9.symm.trans hp)
    rw [ffv_112, ffv_113, ffv_114]
    exact hNQ9
  case o72 =>
    obtain rfl : qrg9 = p := Option.some.inj (f_qrg9.symm.trans hp)
    obtain rfl : y_ls = q := Option.some.inj (f_y_ls.symm.trans hq)
    obtain rfl : m_rl = r := Option.some.inj (f_m_rl.symm.trans hr)
    rw [n_y_ls, n_m_rl, ffv_112]
    exact hRL9
  case o73 =>
    rw [cl_dead, n_dead]
    exact eq_dead
  case o74 =>
    rw [cl_isj, n_isj]
    exact eq_isj
  case o75 =>
    rw [cl_dox, n_dox]
    exact eq_dox
  case o76 =>
    rw [cl_doy, n_doy]
    exact eq_doy
  case o77 =>
    rw [cl_fou, n_m_fou]
    exact eq_fou
  case o78 =>
    rw [cl_tri, n_mt]
    exact eq_tri
  case o79 =>
    obtain rfl : qw = w := Option.some.inj (f_qw.symm.trans hw)
    obtain rfl : ql = q := Option.some.inj (f_ql.symm.trans hq)
    exact pf_ql
  case o80 =>
    rw [n_mw]
    exact hwd
  case o81 =>
    rw [n_mr, f_m_acts]
    exact hWK
  case o82 =>
    rw [n_mp, n_mn, f_m_acts]
    exact hRP
  case o83 =>
    rw [n_ml, f_m_claims, f_m_acts]
    exact hPL
  case o84 =>
    rw [n_mh, f_m_heardMany, f_m_claims]
    exact hHC
  case o85 =>
    rw [n_mt]
    refine (hx_TR_le hTR ?o86)
    case o86 => omega
  case o87 =>
    rw [n_mh, n_m_fou, f_m_claims]
    exact hHF

set_option maxHeartbeats 4000000 in
set_option maxRecDepth 100000 in
theorem law_case_5 {p : Program} {e : Env} {s : State} {m : MethodId} {below : List Frame} {meth : Method} {c : Code} (l : Launch) {b LN : Nat} {xs : Nat → Int32} (hx : p.tables.exec = Jvm.exec) (hb : c.code = code) (hr : meth.sig.returnType = ret) (hlocks : meth.locks = false) (hml : c.maxLocals = 4) (hown : s.vm.findClass "SmallCourtLaw" = some m.cls) (hts : ∀ w ∈ hx_all, w.before #[Value.ref b] s = true) (hX : va_X b LN xs s s.heap) (hbl : b < s.heap.size) (hbA : ¬ s.heap.size ≤ b) (hLN : LN ≤ 3584) (dC : Nat → ClassId) (dI : Nat → Nat → Nat) (dA : Nat → ClassId) (b0 : hx_z) (ax am : Nat) (T1 : Int) (hT0 : 0 ≤ T1) (hT1 : T1 ≤ 511) (i : Int32) (hi0 : 0 ≤ i.toInt) (hiL : i.toInt + 7 ≤ LN) (CC SS : Nat) (hCC : CC + 3 ≤ 600000) (hSS : SS + 179 ≤ 7302250) (L1 : List Nat) (hl1 : hx_h) (H : Heap) (locs : List Loc) (ls : Array Slot) (hW : hx_W T_tb (P_ty dA) (dC, dI) vwCl (fun q : Nat => s.heap.size ≤ q) s.heap L1 hl1 s H locs) (hZ : hx_Xt (fun q : Nat => s.heap.size ≤ q) b0 s) (hI : hx_IV T1 ax am L1 hl1) (hl : lv_has ls 4 [(3, .int i), (2, .ref am), (1, .ref ax), (0, .ref b)]) (kk : ∀ (L2 : List Nat) (h2 : hx_h) (H2 : Heap) (locs2 : List Loc) (ls2 : Array Slot), hx_W T_tb (P_ty dA) (dC, dI) vwCl (fun q : Nat => s.heap.size ≤ q) s.heap L2 h2 s H2 locs2 → hx_IV (T1 + 1) ax am L2 h2 → lv_has ls2 4 [(3, .int i), (2, .ref am), (1, .ref ax), (0, .ref b)] → W p l e room_1 s m #[Value.ref b] below meth c H2 locs2 (CC + 3) (SS + 179) (lw_Z below #[Value.ref b] s) (F0 m 1379 ls2 [])) : W p l e room_1 s m #[Value.ref b] below meth c H locs CC SS (lw_Z below #[Value.ref b] s) (F0 m 337 ls []) := by
  have hI9 := hI
  have hT := hI9.1
  replace hI9 := hI9.2
  have gx := hI9.1
  replace hI9 := hI9.2
  have gm := hI9.1
  replace hI9 := hI9.2
  have zq0_3 := hI9.1
  have he_nw := zq0_3.1
  replace zq0_3 := zq0_3.2
  have he_np := zq0_3.1
  replace zq0_3 := zq0_3.2
  have he_c0 := zq0_3.1
  replace zq0_3 := zq0_3.2
  have he_tl := zq0_3.1
  replace zq0_3 := zq0_3.2
  have he_a0 := zq0_3.1
  replace zq0_3 := zq0_3.2
  have he_m0 := zq0_3.1
  replace zq0_3 := zq0_3.2
  have ho_ln := zq0_3.1
  replace zq0_3 := zq0_3.2
  have ho_lsd := zq0_3.1
  replace zq0_3 := zq0_3.2
  have ho_wkm := zq0_3.1
  replace zq0_3 := zq0_3.2
  have ho_py := zq0_3.1
  replace zq0_3 := zq0_3.2
  have hn_qp := zq0_3.1
  replace zq0_3 := zq0_3.2
  have hn_qc := zq0_3.1
  replace zq0_3 := zq0_3.2
  have hk_of := zq0_3.1
  replace zq0_3 := zq0_3.2
  have hk_wf := zq0_3.1
  replace zq0_3 := zq0_3.2
  have hk_df := zq0_3.1
  replace zq0_3 := zq0_3.2
  have hk_kf := zq0_3.1
  replace zq0_3 := zq0_3.2
  have hk_sf := zq0_3.1
  replace zq0_3 := zq0_3.2
  have hkBD := zq0_3.1
  replace zq0_3 := zq0_3.2
  have hLQ := zq0_3.1
  replace zq0_3 := zq0_3.2
  have hLE := zq0_3.1
  replace zq0_3 := zq0_3.2
  have hkWD := zq0_3.1
  replace zq0_3 := zq0_3.2
  have hkDF := zq0_3.1
  replace zq0_3 := zq0_3.2
  have hkTP := zq0_3.1
  replace zq0_3 := zq0_3.2
  have hkAC := zq0_3.1
  replace zq0_3 := zq0_3.2
  have hkDP := zq0_3.1
  replace zq0_3 := zq0_3.2
  have hkHL := zq0_3.1
  replace zq0_3 := zq0_3.2
  have hkHO := zq0_3.1
  replace zq0_3 := zq0_3.2
  have hkFX := zq0_3.1
  replace zq0_3 := zq0_3.2
  have hkBX := zq0_3.1
  replace zq0_3 := zq0_3.2
  have hf_bor := zq0_3.1
  replace zq0_3 := zq0_3.2
  have hf_kin := zq0_3.1
  replace zq0_3 := zq0_3.2
  have hf_sum := zq0_3.1
  replace zq0_3 := zq0_3.2
  have hf_fro := zq0_3.1
  replace zq0_3 := zq0_3.2
  have hf_fil := zq0_3.1
  replace zq0_3 := zq0_3.2
  have hf_hea := zq0_3.1
  replace zq0_3 := zq0_3.2
  have hf_jud := zq0_3.1
  replace zq0_3 := zq0_3.2
  have hf_ear := zq0_3.1
  replace zq0_3 := zq0_3.2
  have hf_hds := zq0_3.1
  replace zq0_3 := zq0_3.2
  have hf_ord := zq0_3.1
  replace zq0_3 := zq0_3.2
  have hf_wkl := zq0_3.1
  replace zq0_3 := zq0_3.2
  have hf_owd := zq0_3.1
  replace zq0_3 := zq0_3.2
  have hf_gds := zq0_3.1
  replace zq0_3 := zq0_3.2
  have hf_szd := zq0_3.1
  replace zq0_3 := zq0_3.2
  have hf_srv := zq0_3.1
  replace zq0_3 := zq0_3.2
  have hkP0 := zq0_3.1
  replace zq0_3 := zq0_3.2
  have hkP1 := zq0_3.1
  replace zq0_3 := zq0_3.2
  have hkP2 := zq0_3.1
  replace zq0_3 := zq0_3.2
  have hkP3 := zq0_3.1
  replace zq0_3 := zq0_3.2
  have hkP4 := zq0_3.1
  replace zq0_3 := zq0_3.2
  have hkNQ := zq0_3.1
  replace zq0_3 := zq0_3.2
  have hkRL := zq0_3.1
  replace zq0_3 := zq0_3.2
  have hc_dead := zq0_3.1
  replace zq0_3 := zq0_3.2
  have hc_isj := zq0_3.1
  replace zq0_3 := zq0_3.2
  have hc_dox := zq0_3.1
  replace zq0_3 := zq0_3.2
  have hc_doy := zq0_3.1
  replace zq0_3 := zq0_3.2
  have hc_fou := zq0_3.1
  replace zq0_3 := zq0_3.2
  have hc_tri := zq0_3.1
  replace zq0_3 := zq0_3.2
  replace hI9 := hI9.2
  have zq0_4 := hI9.1
  have ia := zq0_4.1
  replace zq0_4 := zq0_4.2
  have ip := zq0_4.1
  replace zq0_4 := zq0_4.2
  have ic := zq0_4.1
  replace zq0_4 := zq0_4.2
  have ih := zq0_4.1
  replace zq0_4 := zq0_4.2
  have il := zq0_4
  replace hI9 := hI9.2
  have zq0_5 := hI9
  have jw := zq0_5.1
  replace zq0_5 := zq0_5.2
  have jr := zq0_5.1
  replace zq0_5 := zq0_5.2
  have jp := zq0_5.1
  replace zq0_5 := zq0_5.2
  have jl := zq0_5.1
  replace zq0_5 := zq0_5.2
  have jh := zq0_5.1
  replace zq0_5 := zq0_5.2
  have jt := zq0_5.1
  replace zq0_5 := zq0_5.2
  have jf := zq0_5
  obtain ⟨qa, f_qa, g_qa⟩ := hx_rf hT gx tt_9 (k := 5) (u := 43) rfl
  have pf_qa := ia qa f_qa
  obtain ⟨qp, f_qp, g_qp⟩ := hx_rf hT gx tt_9 (k := 7) (u := 44) rfl
  have pf_qp := ip qp f_qp
  obtain ⟨qc, f_qc, g_qc⟩ := hx_rf hT gx tt_9 (k := 10) (u := 45) rfl
  have pf_qc := ic qc f_qc
  obtain ⟨qh, f_qh, g_qh⟩ := hx_rf hT gx tt_9 (k := 12) (u := 46) rfl
  have pf_qh := ih qh f_qh
  obtain ⟨qw, f_qw, g_qw⟩ := hx_rf hT gx tt_9 (k := 19) (u := 8) rfl
  obtain ⟨ql, f_ql, g_ql⟩ := hx_rf hT g_qw tt_8 (k := 3) (u := 40) rfl
  have pf_ql := il qw ql f_qw f_ql
  obtain ⟨nw, f_m_now⟩ : ∃ y : Int32, hl1.2.1 am 0 = y := ⟨_, rfl⟩
  have b_nw := hT.gi gm tt_10 (k := 0) rfl
  rw [f_m_now] at b_nw
  have b_nw : 0 ≤ nw.toInt ∧ nw.toInt ≤ 7999 := b_nw
  obtain ⟨np, f_m_persons⟩ : ∃ y : Int32, hl1.2.1 am 20 = y := ⟨_, rfl⟩
  have b_np := hT.gi gm tt_10 (k := 20) rfl
  rw [f_m_persons] at b_np
  have b_np : 0 ≤ np.toInt ∧ np.toInt ≤ 40 := b_np
  obtain ⟨c0, f_m_claims⟩ : ∃ y : Int32, hl1.2.1 am 36 = y := ⟨_, rfl⟩
  have b_c0 := hT.gi gm tt_10 (k := 36) rfl
  rw [f_m_claims] at b_c0
  have b_c0 : 0 ≤ c0.toInt ∧ c0.toInt ≤ 100 := b_c0
  obtain ⟨tl, f_m_taped⟩ : ∃ y : Int32, hl1.2.1 am 7 = y := ⟨_, rfl⟩
  have b_tl := hT.gi gm tt_10 (k := 7) rfl
  rw [f_m_taped] at b_tl
  have b_tl : 0 ≤ tl.toInt ∧ tl.toInt ≤ 400 := b_tl
  obtain ⟨a0, f_m_acts⟩ : ∃ y : Int32, hl1.2.1 am 1 = y := ⟨_, rfl⟩
  have b_a0 := hT.gi gm tt_10 (k := 1) rfl
  rw [f_m_acts] at b_a0
  have b_a0 : 0 ≤ a0.toInt ∧ a0.toInt ≤ 8 := b_a0
  obtain ⟨m0, f_m_heardMany⟩ : ∃ y : Int32, hl1.2.1 am 57 = y := ⟨_, rfl⟩
  have b_m0 := hT.gi gm tt_10 (k := 57) rfl
  rw [f_m_heardMany] at b_m0
  have b_m0 : 0 ≤ m0.toInt ∧ m0.toInt ≤ 100 := b_m0
  obtain ⟨ln, f_m_lines⟩ : ∃ y : Int32, hl1.2.1 am 29 = y := ⟨_, rfl⟩
  have b_ln := hT.gi gm tt_10 (k := 29) rfl
  rw [f_m_lines] at b_ln
  have b_ln : 0 ≤ ln.toInt ∧ ln.toInt ≤ 400 := b_ln
  obtain ⟨lsd, f_m_listed⟩ : ∃ y : Int32, hl1.2.1 am 90 = y := ⟨_, rfl⟩
  have b_lsd := hT.gi gm tt_10 (k := 90) rfl
  rw [f_m_listed] at b_lsd
  have b_lsd : 0 ≤ lsd.toInt ∧ lsd.toInt ≤ 8 := b_lsd
  obtain ⟨wkm, f_m_walkedMany⟩ : ∃ y : Int32, hl1.2.1 am 92 = y := ⟨_, rfl⟩
  have b_wkm := hT.gi gm tt_10 (k := 92) rfl
  rw [f_m_walkedMany] at b_wkm
  have b_wkm : 0 ≤ wkm.toInt ∧ wkm.toInt ≤ 8 := b_wkm
  obtain ⟨py, f_m_payments⟩ : ∃ y : Int32, hl1.2.1 am 59 = y := ⟨_, rfl⟩
  have b_py := hT.gi gm tt_10 (k := 59) rfl
  rw [f_m_payments] at b_py
  have b_py : 0 ≤ py.toInt ∧ py.toInt ≤ 600 := b_py
  have f_x_now : hl1.2.1 ax 2 = nw := he_nw.trans f_m_now
  have f_x_personCount : hl1.2.1 ax 8 = np := he_np.trans f_m_persons
  have f_x_claimCount : hl1.2.1 ax 11 = c0 := he_c0.trans f_m_claims
  have f_x_tapeLength : hl1.2.1 ax 1 = tl := he_tl.trans f_m_taped
  have f_x_actCount : hl1.2.1 ax 6 = a0 := he_a0.trans f_m_acts
  have f_x_heardCount : hl1.2.1 ax 13 = m0 := he_m0.trans f_m_heardMany
  obtain ⟨mw, f_mw, g_mw⟩ := hx_rf hT gm tt_10 (k := 19) (u := 57) rfl
  obtain ⟨F_mw, n_mw⟩ : ∃ g : Nat → Int32, hl1.2.1 mw = g := ⟨_, rfl⟩
  obtain ⟨mr, f_mr, g_mr⟩ := hx_rf hT gm tt_10 (k := 3) (u := 50) rfl
  obtain ⟨F_mr, n_mr⟩ : ∃ g : Nat → Int32, hl1.2.1 mr = g := ⟨_, rfl⟩
  obtain ⟨mp, f_mp, g_mp⟩ := hx_rf hT gm tt_10 (k := 5) (u := 52) rfl
  obtain ⟨F_mp, n_mp⟩ : ∃ g : Nat → Int32, hl1.2.1 mp = g := ⟨_, rfl⟩
  obtain ⟨mn, f_mn, g_mn⟩ := hx_rf hT gm tt_10 (k := 4) (u := 51) rfl
  obtain ⟨F_mn, n_mn⟩ : ∃ g : Nat → Int32, hl1.2.1 mn = g := ⟨_, rfl⟩
  obtain ⟨ml, f_ml, g_ml⟩ := hx_rf hT gm tt_10 (k := 44) (u := 79) rfl
  obtain ⟨F_ml, n_ml⟩ : ∃ g : Nat → Int32, hl1.2.1 ml = g := ⟨_, rfl⟩
  obtain ⟨mh, f_mh, g_mh⟩ := hx_rf hT gm tt_10 (k := 47) (u := 82) rfl
  obtain ⟨F_mh, n_mh⟩ : ∃ g : Nat → Int32, hl1.2.1 mh = g := ⟨_, rfl⟩
  obtain ⟨mt, f_mt, g_mt⟩ := hx_rf hT gm tt_10 (k := 45) (u := 80) rfl
  obtain ⟨F_mt, n_mt⟩ : ∃ g : Nat → Int32, hl1.2.1 mt = g := ⟨_, rfl⟩
  obtain ⟨m_fou, f_m_fou, g_m_fou⟩ := hx_rf hT gm tt_10 (k := 46) (u := 81) rfl
  obtain ⟨F_m_fou, n_m_fou⟩ : ∃ g : Nat → Int32, hl1.2.1 m_fou = g := ⟨_, rfl⟩
  obtain ⟨qo_ln, f_qo_ln, g_qo_ln⟩ := hx_rf hT gx tt_9 (k := 9) (u := 1) rfl
  have f_o_ln : hl1.2.1 qo_ln 0 = ln := (ho_ln qo_ln f_qo_ln).trans f_m_lines
  have f_o_lsd : hl1.2.1 qw 0 = lsd := (ho_lsd qw f_qw).trans f_m_listed
  have f_o_wkm : hl1.2.1 qw 1 = wkm := (ho_wkm qw f_qw).trans f_m_walkedMany
  obtain ⟨qo_py, f_qo_py, g_qo_py⟩ := hx_rf hT gx tt_9 (k := 14) (u := 3) rfl
  have f_o_py : hl1.2.1 qo_py 0 = py := (ho_py qo_py f_qo_py).trans f_m_payments
  have nu_qp := hn_qp qp f_qp; rw [f_x_personCount] at nu_qp
  have nu_qc := hn_qc qc f_qc; rw [f_x_claimCount] at nu_qc
  obtain ⟨b_of, f_b_of, g_b_of⟩ := hx_rf hT g_qo_ln tt_1 (k := 1) (u := 13) rfl
  obtain ⟨B_of, n_b_of⟩ : ∃ g : Nat → Int32, hl1.2.1 b_of = g := ⟨_, rfl⟩
  obtain ⟨m_of, f_m_of, g_m_of⟩ := hx_rf hT gm tt_10 (k := 30) (u := 66) rfl
  obtain ⟨F_of, n_m_of⟩ : ∃ g : Nat → Int32, hl1.2.1 m_of = g := ⟨_, rfl⟩
  have eb_of := hk_of qo_ln b_of m_of f_qo_ln f_b_of f_m_of; rw [n_b_of, n_m_of, f_o_ln] at eb_of
  obtain ⟨b_wf, f_b_wf, g_b_wf⟩ := hx_rf hT g_qo_ln tt_1 (k := 2) (u := 14) rfl
  obtain ⟨B_wf, n_b_wf⟩ : ∃ g : Nat → Int32, hl1.2.1 b_wf = g := ⟨_, rfl⟩
  obtain ⟨m_wf, f_m_wf, g_m_wf⟩ := hx_rf hT gm tt_10 (k := 31) (u := 67) rfl
  obtain ⟨F_wf, n_m_wf⟩ : ∃ g : Nat → Int32, hl1.2.1 m_wf = g := ⟨_, rfl⟩
  have eb_wf := hk_wf qo_ln b_wf m_wf f_qo_ln f_b_wf f_m_wf; rw [n_b_wf, n_m_wf, f_o_ln] at eb_wf
  obtain ⟨b_df, f_b_df, g_b_df⟩ := hx_rf hT g_qo_ln tt_1 (k := 3) (u := 15) rfl
  obtain ⟨B_df, n_b_df⟩ : ∃ g : Nat → Int32, hl1.2.1 b_df = g := ⟨_, rfl⟩
  obtain ⟨m_df, f_m_df, g_m_df⟩ := hx_rf hT gm tt_10 (k := 32) (u := 68) rfl
  obtain ⟨F_df, n_m_df⟩ : ∃ g : Nat → Int32, hl1.2.1 m_df = g := ⟨_, rfl⟩
  have eb_df := hk_df qo_ln b_df m_df f_qo_ln f_b_df f_m_df; rw [n_b_df, n_m_df, f_o_ln] at eb_df
  obtain ⟨b_kf, f_b_kf, g_b_kf⟩ := hx_rf hT g_qo_ln tt_1 (k := 4) (u := 16) rfl
  obtain ⟨B_kf, n_b_kf⟩ : ∃ g : Nat → Int32, hl1.2.1 b_kf = g := ⟨_, rfl⟩
  obtain ⟨m_kf, f_m_kf, g_m_kf⟩ := hx_rf hT gm tt_10 (k := 33) (u := 69) rfl
  obtain ⟨F_kf, n_m_kf⟩ : ∃ g : Nat → Int32, hl1.2.1 m_kf = g := ⟨_, rfl⟩
  have eb_kf := hk_kf qo_ln b_kf m_kf f_qo_ln f_b_kf f_m_kf; rw [n_b_kf, n_m_kf, f_o_ln] at eb_kf
  obtain ⟨b_sf, f_b_sf, g_b_sf⟩ := hx_rf hT g_qo_ln tt_1 (k := 5) (u := 17) rfl
  obtain ⟨B_sf, n_b_sf⟩ : ∃ g : Nat → Int32, hl1.2.1 b_sf = g := ⟨_, rfl⟩
  obtain ⟨m_sf, f_m_sf, g_m_sf⟩ := hx_rf hT gm tt_10 (k := 34) (u := 70) rfl
  obtain ⟨F_sf, n_m_sf⟩ : ∃ g : Nat → Int32, hl1.2.1 m_sf = g := ⟨_, rfl⟩
  have eb_sf := hk_sf qo_ln b_sf m_sf f_qo_ln f_b_sf f_m_sf; rw [n_b_sf, n_m_sf, f_o_ln] at eb_sf
  obtain ⟨b_bf, f_b_bf, g_b_bf⟩ := hx_rf hT g_qo_ln tt_1 (k := 6) (u := 18) rfl
  obtain ⟨bfL, n_b_bf⟩ : ∃ g : Nat → Int32, hl1.2.1 b_bf = g := ⟨_, rfl⟩
  obtain ⟨hBD, hDY⟩ := hkBD qo_ln b_df b_bf f_qo_ln f_b_df f_b_bf; rw [n_b_df, n_b_bf, f_o_ln] at hBD; rw [n_b_df, f_o_ln] at hDY
  have hBDm := hy_BD_c eb_df hBD
  have hDYm : hy_DY F_df ln.toInt.toNat := fun x hx => by rw [← eb_df x hx]; exact hDY x hx
  have sb_list := hLQ qw ql qc f_qw f_ql f_qc
  obtain ⟨m_lst, f_m_lst, g_m_lst⟩ := hx_rf hT gm tt_10 (k := 91) (u := 112) rfl
  obtain ⟨F_lst, n_lst⟩ : ∃ g : Nat → Int32, hl1.2.1 m_lst = g := ⟨_, rfl⟩
  obtain ⟨c_lst, cl_lst⟩ : ∃ g : Nat → Int32, hx_col 8 hl1 ql 0 = g := ⟨_, rfl⟩
  have eq_lst := hLE qw ql m_lst f_qw f_ql f_m_lst; rw [cl_lst, n_lst] at eq_lst
  obtain ⟨qtp, f_qtp, g_qtp⟩ := hx_rf hT gx tt_9 (k := 0) (u := 42) rfl
  obtain ⟨m_tp, f_m_tp, g_m_tp⟩ := hx_rf hT gm tt_10 (k := 6) (u := 53) rfl
  obtain ⟨F_tp, n_tp⟩ : ∃ g : Nat → Int32, hl1.2.1 m_tp = g := ⟨_, rfl⟩
  have n_qtp : hl1.2.1 qtp = F_tp := (hkTP qtp m_tp f_qtp f_m_tp).trans n_tp
  obtain ⟨c_dead, cl_dead⟩ : ∃ g : Nat → Int32, hx_col 40 hl1 qp 7 = g := ⟨_, rfl⟩
  obtain ⟨m_dead, f_m_dead, g_m_dead⟩ := hx_rf hT gm tt_10 (k := 27) (u := 64) rfl
  obtain ⟨F_dead, n_dead⟩ : ∃ g : Nat → Int32, hl1.2.1 m_dead = g := ⟨_, rfl⟩
  have eq_dead := hc_dead qp m_dead f_qp f_m_dead; rw [cl_dead, n_dead] at eq_dead
  have z_dead : np.toInt.toNat < 40 → c_dead np.toInt.toNat = 0 := fun hj => hx_num_z nu_qp cl_dead hj ?o0
  case o0 => omega
  obtain ⟨c_isj, cl_isj⟩ : ∃ g : Nat → Int32, hx_col 40 hl1 qp 8 = g := ⟨_, rfl⟩
  obtain ⟨m_isj, f_m_isj, g_m_isj⟩ := hx_rf hT gm tt_10 (k := 28) (u := 65) rfl
  obtain ⟨F_isj, n_isj⟩ : ∃ g : Nat → Int32, hl1.2.1 m_isj = g := ⟨_, rfl⟩
  have eq_isj := hc_isj qp m_isj f_qp f_m_isj; rw [cl_isj, n_isj] at eq_isj
  have z_isj : np.toInt.toNat < 40 → c_isj np.toInt.toNat = 0 := fun hj => hx_num_z nu_qp cl_isj hj ?o1
  case o1 => omega
  obtain ⟨c_dox, cl_dox⟩ : ∃ g : Nat → Int32, hx_col 40 hl1 qp 5 = g := ⟨_, rfl⟩
  obtain ⟨m_dox, f_m_dox, g_m_dox⟩ := hx_rf hT gm tt_10 (k := 24) (u := 61) rfl
  obtain ⟨F_dox, n_dox⟩ : ∃ g : Nat → Int32, hl1.2.1 m_dox = g := ⟨_, rfl⟩
  have eq_dox := hc_dox qp m_dox f_qp f_m_dox; rw [cl_dox, n_dox] at eq_dox
  have z_dox : np.toInt.toNat < 40 → c_dox np.toInt.toNat = 0 := fun hj => hx_num_z nu_qp cl_dox hj ?o2
  case o2 => omega
  obtain ⟨c_doy, cl_doy⟩ : ∃ g : Nat → Int32, hx_col 40 hl1 qp 6 = g := ⟨_, rfl⟩
  obtain ⟨m_doy, f_m_doy, g_m_doy⟩ := hx_rf hT gm tt_10 (k := 25) (u := 62) rfl
  obtain ⟨F_doy, n_doy⟩ : ∃ g : Nat → Int32, hl1.2.1 m_doy = g := ⟨_, rfl⟩
  have eq_doy := hc_doy qp m_doy f_qp f_m_doy; rw [cl_doy, n_doy] at eq_doy
  have z_doy : np.toInt.toNat < 40 → c_doy np.toInt.toNat = 0 := fun hj => hx_num_z nu_qp cl_doy hj ?o3
  case o3 => omega
  obtain ⟨c_fou, cl_fou⟩ : ∃ g : Nat → Int32, hx_col 100 hl1 qc 10 = g := ⟨_, rfl⟩
  have eq_fou := hc_fou qc m_fou f_qc f_m_fou; rw [cl_fou, n_m_fou] at eq_fou
  have z_fou : c0.toInt.toNat < 100 → c_fou c0.toInt.toNat = 0 := fun hj => hx_num_z nu_qc cl_fou hj ?o4
  case o4 => omega
  obtain ⟨c_tri, cl_tri⟩ : ∃ g : Nat → Int32, hx_col 100 hl1 qc 9 = g := ⟨_, rfl⟩
  have eq_tri := hc_tri qc mt f_qc f_mt; rw [cl_tri, n_mt] at eq_tri
  have z_tri : c0.toInt.toNat < 100 → c_tri c0.toInt.toNat = 0 := fun hj => hx_num_z nu_qc cl_tri hj ?o5
  case o5 => omega
  obtain ⟨qlt, f_qlt, g_qlt⟩ := hx_rf hT g_qw tt_8 (k := 2) (u := 39) rfl
  obtain ⟨qlf, f_qlf, g_qlf⟩ := hx_rf hT g_qw tt_8 (k := 4) (u := 41) rfl
  obtain ⟨m_wkd, f_m_wkd, g_m_wkd⟩ := hx_rf hT gm tt_10 (k := 93) (u := 113) rfl
  obtain ⟨F_qlt, n_qlt⟩ : ∃ g : Nat → Int32, hl1.2.1 qlt = g := ⟨_, rfl⟩
  obtain ⟨F_m_wkd, n_m_wkd⟩ : ∃ g : Nat → Int32, hl1.2.1 m_wkd = g := ⟨_, rfl⟩
  have eb_wkd := hkWD qw qlt m_wkd f_qw f_qlt f_m_wkd; rw [n_qlt, n_m_wkd, f_o_wkm] at eb_wkd
  obtain ⟨m_aga, f_m_aga, g_m_aga⟩ := hx_rf hT gm tt_10 (k := 38) (u := 73) rfl
  obtain ⟨F_aga, n_aga⟩ : ∃ g : Nat → Int32, hl1.2.1 m_aga = g := ⟨_, rfl⟩
  have hDF := hkDF qc qp m_aga f_qc f_qp f_m_aga; rw [n_aga, f_x_claimCount] at hDF
  obtain ⟨qwo, f_qwo, g_qwo⟩ := hx_rf hT gx tt_9 (k := 4) (u := 0) rfl
  obtain ⟨m_ad, f_m_ad, g_m_ad⟩ := hx_rf hT gm tt_10 (k := 2) (u := 49) rfl
  obtain ⟨F_ad, n_ad⟩ : ∃ g : Nat → Int32, hl1.2.1 m_ad = g := ⟨_, rfl⟩
  obtain ⟨A9, hRA9, hCA9, hAC9, hAB⟩ := hkAC qa qwo m_ad mr mn mp qc ml f_qa f_qwo f_m_ad f_mr f_mn f_mp f_qc f_ml
  rw [f_x_actCount] at hRA9; rw [f_x_actCount, n_ad, n_mr, n_mn, n_mp] at hCA9
  obtain ⟨m_by, f_m_by, g_m_by⟩ := hx_rf hT gm tt_10 (k := 37) (u := 72) rfl
  obtain ⟨F_by, n_by⟩ : ∃ g : Nat → Int32, hl1.2.1 m_by = g := ⟨_, rfl⟩
  obtain ⟨m_ho, f_m_ho, g_m_ho⟩ := hx_rf hT gm tt_10 (k := 58) (u := 92) rfl
  obtain ⟨F_ho, n_ho⟩ : ∃ g : Nat → Int32, hl1.2.1 m_ho = g := ⟨_, rfl⟩
  obtain ⟨m_fc, f_m_fc, g_m_fc⟩ := hx_rf hT gm tt_10 (k := 53) (u := 88) rfl
  obtain ⟨F_fc, n_fc⟩ : ∃ g : Nat → Int32, hl1.2.1 m_fc = g := ⟨_, rfl⟩
  obtain ⟨m_nt, f_m_nt, g_m_nt⟩ := hx_rf hT gm tt_10 (k := 41) (u := 76) rfl
  obtain ⟨F_nt, n_nt⟩ : ∃ g : Nat → Int32, hl1.2.1 m_nt = g := ⟨_, rfl⟩
  obtain ⟨m_wt, f_m_wt, g_m_wt⟩ := hx_rf hT gm tt_10 (k := 42) (u := 77) rfl
  obtain ⟨F_wt, n_wt⟩ : ∃ g : Nat → Int32, hl1.2.1 m_wt = g := ⟨_, rfl⟩
  obtain ⟨m_be, f_m_be, g_m_be⟩ := hx_rf hT gm tt_10 (k := 52) (u := 87) rfl
  obtain ⟨F_be, n_be⟩ : ∃ g : Nat → Int32, hl1.2.1 m_be = g := ⟨_, rfl⟩
  obtain ⟨m_bor, f_m_bor, g_m_bor⟩ := hx_rf hT gm tt_10 (k := 21) (u := 58) rfl
  obtain ⟨F_bor, n_bor⟩ : ∃ g : Nat → Int32, hl1.2.1 m_bor = g := ⟨_, rfl⟩
  obtain ⟨m_kin, f_m_kin, g_m_kin⟩ := hx_rf hT gm tt_10 (k := 26) (u := 63) rfl
  obtain ⟨F_kin, n_kin⟩ : ∃ g : Nat → Int32, hl1.2.1 m_kin = g := ⟨_, rfl⟩
  obtain ⟨m_sum, f_m_sum, g_m_sum⟩ := hx_rf hT gm tt_10 (k := 39) (u := 74) rfl
  obtain ⟨F_sum, n_sum⟩ : ∃ g : Nat → Int32, hl1.2.1 m_sum = g := ⟨_, rfl⟩
  obtain ⟨m_fro, f_m_fro, g_m_fro⟩ := hx_rf hT gm tt_10 (k := 40) (u := 75) rfl
  obtain ⟨F_fro, n_fro⟩ : ∃ g : Nat → Int32, hl1.2.1 m_fro = g := ⟨_, rfl⟩
  obtain ⟨m_fil, f_m_fil, g_m_fil⟩ := hx_rf hT gm tt_10 (k := 43) (u := 78) rfl
  obtain ⟨F_fil, n_fil⟩ : ∃ g : Nat → Int32, hl1.2.1 m_fil = g := ⟨_, rfl⟩
  obtain ⟨m_jud, f_m_jud, g_m_jud⟩ := hx_rf hT gm tt_10 (k := 51) (u := 86) rfl
  obtain ⟨F_jud, n_jud⟩ : ∃ g : Nat → Int32, hl1.2.1 m_jud = g := ⟨_, rfl⟩
  obtain ⟨m_ear, f_m_ear, g_m_ear⟩ := hx_rf hT gm tt_10 (k := 22) (u := 59) rfl
  obtain ⟨F_ear, n_ear⟩ : ∃ g : Nat → Int32, hl1.2.1 m_ear = g := ⟨_, rfl⟩
  obtain ⟨m_hds, f_m_hds, g_m_hds⟩ := hx_rf hT gm tt_10 (k := 23) (u := 60) rfl
  obtain ⟨F_hds, n_hds⟩ : ∃ g : Nat → Int32, hl1.2.1 m_hds = g := ⟨_, rfl⟩
  obtain ⟨m_ord, f_m_ord, g_m_ord⟩ := hx_rf hT gm tt_10 (k := 48) (u := 83) rfl
  obtain ⟨F_ord, n_ord⟩ : ∃ g : Nat → Int32, hl1.2.1 m_ord = g := ⟨_, rfl⟩
  obtain ⟨m_wkl, f_m_wkl, g_m_wkl⟩ := hx_rf hT gm tt_10 (k := 54) (u := 89) rfl
  obtain ⟨F_wkl, n_wkl⟩ : ∃ g : Nat → Int32, hl1.2.1 m_wkl = g := ⟨_, rfl⟩
  obtain ⟨m_owd, f_m_owd, g_m_owd⟩ := hx_rf hT gm tt_10 (k := 55) (u := 90) rfl
  obtain ⟨F_owd, n_owd⟩ : ∃ g : Nat → Int32, hl1.2.1 m_owd = g := ⟨_, rfl⟩
  obtain ⟨m_gds, f_m_gds, g_m_gds⟩ := hx_rf hT gm tt_10 (k := 56) (u := 91) rfl
  obtain ⟨F_gds, n_gds⟩ : ∃ g : Nat → Int32, hl1.2.1 m_gds = g := ⟨_, rfl⟩
  obtain ⟨m_szd, f_m_szd, g_m_szd⟩ := hx_rf hT gm tt_10 (k := 49) (u := 84) rfl
  obtain ⟨F_szd, n_szd⟩ : ∃ g : Nat → Int32, hl1.2.1 m_szd = g := ⟨_, rfl⟩
  obtain ⟨m_srv, f_m_srv, g_m_srv⟩ := hx_rf hT gm tt_10 (k := 50) (u := 85) rfl
  obtain ⟨F_srv, n_srv⟩ : ∃ g : Nat → Int32, hl1.2.1 m_srv = g := ⟨_, rfl⟩
  have cl_bor : hx_col 40 hl1 qp 1 = F_bor := (hf_bor qp m_bor f_qp f_m_bor).trans n_bor
  have cl_kin : hx_col 40 hl1 qp 2 = F_kin := (hf_kin qp m_kin f_qp f_m_kin).trans n_kin
  have cl_sum : hx_col 100 hl1 qc 6 = F_sum := (hf_sum qc m_sum f_qc f_m_sum).trans n_sum
  have cl_fro : hx_col 100 hl1 qc 7 = F_fro := (hf_fro qc m_fro f_qc f_m_fro).trans n_fro
  have cl_fil : hx_col 100 hl1 qc 8 = F_fil := (hf_fil qc m_fil f_qc f_m_fil).trans n_fil
  have cl_hea : hx_col 100 hl1 qc 11 = F_mh := (hf_hea qc mh f_qc f_mh).trans n_mh
  have cl_jud : hx_col 100 hl1 qc 12 = F_jud := (hf_jud qc m_jud f_qc f_m_jud).trans n_jud
  have cl_ear : hx_col 40 hl1 qp 3 = F_ear := (hf_ear qp m_ear f_qp f_m_ear).trans n_ear
  have cl_hds : hx_col 40 hl1 qp 4 = F_hds := (hf_hds qp m_hds f_qp f_m_hds).trans n_hds
  have cl_ord : hx_col 100 hl1 qc 13 = F_ord := (hf_ord qc m_ord f_qc f_m_ord).trans n_ord
  have cl_wkl : hx_col 100 hl1 qc 14 = F_wkl := (hf_wkl qc m_wkl f_qc f_m_wkl).trans n_wkl
  have cl_owd : hx_col 100 hl1 qc 15 = F_owd := (hf_owd qc m_owd f_qc f_m_owd).trans n_owd
  have cl_gds : hx_col 100 hl1 qc 17 = F_gds := (hf_gds qc m_gds f_qc f_m_gds).trans n_gds
  have cl_szd : hx_col 100 hl1 qc 16 = F_szd := (hf_szd qc m_szd f_qc f_m_szd).trans n_szd
  have cl_srv : hx_col 100 hl1 qc 18 = F_srv := (hf_srv qc m_srv f_qc f_m_srv).trans n_srv
  have htb9 : ∀ c, c < 100 → 0 ≤ (c_tri c).toInt ∧ (c_tri c).toInt ≤ 512 := fun c hc => by rw [eq_tri c hc]; have w := hT.ei g_mt tt_80 (k := c) hc; rw [n_mt] at w; exact w
  have z_jud : F_jud c0.toInt.toNat = 0 := hx_num_z2 nu_qc cl_jud ?o6
  case o6 => omega
  have hDP := hkDP qc qp m_by f_qc f_qp f_m_by; rw [n_by, f_x_claimCount] at hDP
  have hHL := hkHL qh qc m_ho f_qh f_qc f_m_ho; rw [n_ho, f_x_heardCount, f_x_claimCount] at hHL
  have hHO9 := hkHO m_ho mh f_m_ho f_mh; rw [n_ho, n_mh, f_m_heardMany, f_m_claims] at hHO9
  obtain ⟨cF9L, hFX, hFR9⟩ := hkFX qc m_fc m_nt m_wt m_sum mh f_qc f_m_fc f_m_nt f_m_wt f_m_sum f_mh; rw [f_x_claimCount] at hFX; rw [n_fc, n_nt, n_wt, n_sum, n_mh, f_x_claimCount] at hFR9
  have hBX := hkBX qc m_be f_qc f_m_be; rw [n_be, f_x_claimCount] at hBX
  rw [n_ml, f_x_claimCount] at hAC9
  obtain ⟨y_p0, f_y_p0, g_y_p0⟩ := hx_rf hT g_qo_py tt_3 (k := 2) (u := 23) rfl
  obtain ⟨m_p0, f_m_p0, g_m_p0⟩ := hx_rf hT gm tt_10 (k := 60) (u := 93) rfl
  obtain ⟨F_p0, n_p0⟩ : ∃ g : Nat → Int32, hl1.2.1 m_p0 = g := ⟨_, rfl⟩
  have n_y_p0 : hl1.2.1 y_p0 = F_p0 := (hkP0 qo_py y_p0 m_p0 f_qo_py f_y_p0 f_m_p0).trans n_p0
  obtain ⟨y_p1, f_y_p1, g_y_p1⟩ := hx_rf hT g_qo_py tt_3 (k := 3) (u := 24) rfl
  obtain ⟨m_p1, f_m_p1, g_m_p1⟩ := hx_rf hT gm tt_10 (k := 61) (u := 94) rfl
  obtain ⟨F_p1, n_p1⟩ : ∃ g : Nat → Int32, hl1.2.1 m_p1 = g := ⟨_, rfl⟩
  have n_y_p1 : hl1.2.1 y_p1 = F_p1 := (hkP1 qo_py y_p1 m_p1 f_qo_py f_y_p1 f_m_p1).trans n_p1
  obtain ⟨y_p2, f_y_p2, g_y_p2⟩ := hx_rf hT g_qo_py tt_3 (k := 5) (u := 26) rfl
  obtain ⟨m_p2, f_m_p2, g_m_p2⟩ := hx_rf hT gm tt_10 (k := 62) (u := 95) rfl
  obtain ⟨F_p2, n_p2⟩ : ∃ g : Nat → Int32, hl1.2.1 m_p2 = g := ⟨_, rfl⟩
  have n_y_p2 : hl1.2.1 y_p2 = F_p2 := (hkP2 qo_py y_p2 m_p2 f_qo_py f_y_p2 f_m_p2).trans n_p2
  obtain ⟨y_p3, f_y_p3, g_y_p3⟩ := hx_rf hT g_qo_py tt_3 (k := 4) (u := 25) rfl
  obtain ⟨m_p3, f_m_p3, g_m_p3⟩ := hx_rf hT gm tt_10 (k := 63) (u := 96) rfl
  obtain ⟨F_p3, n_p3⟩ : ∃ g : Nat → Int32, hl1.2.1 m_p3 = g := ⟨_, rfl⟩
  have n_y_p3 : hl1.2.1 y_p3 = F_p3 := (hkP3 qo_py y_p3 m_p3 f_qo_py f_y_p3 f_m_p3).trans n_p3
  obtain ⟨y_p4, f_y_p4, g_y_p4⟩ := hx_rf hT g_qo_py tt_3 (k := 1) (u := 22) rfl
  obtain ⟨m_p4, f_m_p4, g_m_p4⟩ := hx_rf hT gm tt_10 (k := 64) (u := 97) rfl
  obtain ⟨F_p4, n_p4⟩ : ∃ g : Nat → Int32, hl1.2.1 m_p4 = g := ⟨_, rfl⟩
  have n_y_p4 : hl1.2.1 y_p4 = F_p4 := (hkP4 qo_py y_p4 m_p4 f_qo_py f_y_p4 f_m_p4).trans n_p4
  obtain ⟨qrg9, f_qrg9, g_qrg9⟩ := hx_rf hT gx tt_9 (k := 18) (u := 7) rfl
  obtain ⟨y_ls, f_y_ls, g_y_ls⟩ := hx_rf hT g_qrg9 tt_7 (k := 3) (u := 35) rfl
  obtain ⟨m_rl, f_m_rl, g_m_rl⟩ := hx_rf hT gm tt_10 (k := 85) (u := 109) rfl
  obtain ⟨F_y_ls, n_y_ls⟩ : ∃ g : Nat → Int32, hl1.2.1 y_ls = g := ⟨_, rfl⟩
  obtain ⟨F_m_rl, n_m_rl⟩ : ∃ g : Nat → Int32, hl1.2.1 m_rl = g := ⟨_, rfl⟩
  obtain ⟨fv_134, efv_134⟩ : ∃ y : Int32, y = hl1.2.1 qrg9 0 := ⟨_, rfl⟩
  have bfv_134 := hT.gi g_qrg9 tt_7 (k := 0) rfl
  rw [← efv_134] at bfv_134
  have bfv_134 : -1 ≤ fv_134.toInt ∧ fv_134.toInt ≤ 100 := bfv_134
  have ffv_134 := efv_134.symm
  obtain ⟨fv_135, efv_135⟩ : ∃ y : Int32, y = hl1.2.1 am 83 := ⟨_, rfl⟩
  have bfv_135 := hT.gi gm tt_10 (k := 83) rfl
  rw [← efv_135] at bfv_135
  have bfv_135 : 0 ≤ fv_135.toInt ∧ fv_135.toInt ≤ 1 := bfv_135
  have ffv_135 := efv_135.symm
  obtain ⟨fv_136, efv_136⟩ : ∃ y : Int32, y = hl1.2.1 am 84 := ⟨_, rfl⟩
  have bfv_136 := hT.gi gm tt_10 (k := 84) rfl
  rw [← efv_136] at bfv_136
  have bfv_136 : 0 ≤ fv_136.toInt ∧ fv_136.toInt ≤ 300 := bfv_136
  have ffv_136 := efv_136.symm
  have hNQ9 := hkNQ qrg9 f_qrg9; rw [ffv_134, ffv_135, ffv_136] at hNQ9
  have hRL9 := hkRL qrg9 y_ls m_rl f_qrg9 f_y_ls f_m_rl; rw [n_y_ls, n_m_rl, ffv_134] at hRL9
  have hCB : hz_CB F_ord F_wkl F_owd F_szd F_gds F_srv := fun c hc => ⟨by have w := hT.ei g_m_ord tt_83 (k := c) (by omega); rw [n_ord] at w; exact w, by have w := hT.ei g_m_wkl tt_89 (k := c) (by omega); rw [n_wkl] at w; exact w, by have w := hT.ei g_m_owd tt_90 (k := c) (by omega); rw [n_owd] at w; exact w, by have w := hT.ei g_m_szd tt_84 (k := c) (by omega); rw [n_szd] at w; exact w, by have w := hT.ei g_m_gds tt_91 (k := c) (by omega); rw [n_gds] at w; exact w, by have w := hT.ei g_m_srv tt_85 (k := c) (by omega); rw [n_srv] at w; exact w⟩
  have hps : ∀ j, j < 600 → 0 ≤ (F_p2 j).toInt ∧ (F_p2 j).toInt ≤ 610000 := fun j hj => by have w := hT.ei g_m_p2 tt_95 (k := j) (by omega); rw [n_p2] at w; exact w
  have hte9 : ∀ c : Nat, c < 100 → (0 ≤ (c_tri c).toInt ∧ (c_tri c).toInt ≤ 512) ∧ (0 ≤ (F_sum c).toInt ∧ (F_sum c).toInt ≤ 9999) := fun c hc => ⟨htb9 c hc, by have w := hT.ei g_m_sum tt_74 (k := c) (by omega); rw [n_sum] at w; exact w⟩
  have hee9 : ∀ c : Nat, c < 40 → (0 ≤ (F_ear c).toInt ∧ (F_ear c).toInt ≤ 9999) ∧ (0 ≤ (F_hds c).toInt ∧ (F_hds c).toInt ≤ 20) := fun c hc => ⟨by have w := hT.ei g_m_ear tt_59 (k := c) (by omega); rw [n_ear] at w; exact w, by have w := hT.ei g_m_hds tt_60 (k := c) (by omega); rw [n_hds] at w; exact w⟩
  have bAG9 : ∀ k, k < 100 → 0 ≤ (F_aga k).toInt ∧ (F_aga k).toInt ≤ 39 := fun k hk => by have w := hT.ei g_m_aga tt_73 (k := k) (by omega); rw [n_aga] at w; exact w
  have bBY9 : ∀ k, k < 100 → 0 ≤ (F_by k).toInt ∧ (F_by k).toInt ≤ 39 := fun k hk => by have w := hT.ei g_m_by tt_72 (k := k) (by omega); rw [n_by] at w; exact w
  have hag9 : ∀ c, c < c0.toInt.toNat → 0 ≤ (F_aga c).toInt ∧ (F_aga c).toInt < 40 ∧ 0 ≤ (F_by c).toInt ∧ (F_by c).toInt < 40 := fun c hc => by have a9 := bAG9 c (by omega); have b9 := bBY9 c (by omega); omega
  have z_wkl : F_wkl c0.toInt.toNat = 0 := hx_num_z2 nu_qc cl_wkl ?o7
  case o7 => omega
  have z_owd : F_owd c0.toInt.toNat = 0 := hx_num_z2 nu_qc cl_owd ?o8
  case o8 => omega
  have z_gds : F_gds c0.toInt.toNat = 0 := hx_num_z2 nu_qc cl_gds ?o9
  case o9 => omega
  have hwd := jw mw f_mw; rw [n_mw] at hwd
  have hWK := jr mr f_mr; rw [n_mr, f_m_acts] at hWK
  have hRP := jp mp mn f_mp f_mn; rw [n_mp, n_mn, f_m_acts] at hRP
  have hPL := jl ml f_ml; rw [n_ml, f_m_claims, f_m_acts] at hPL
  have hHC := jh mh f_mh; rw [n_mh, f_m_heardMany, f_m_claims] at hHC
  have hTR := jt mt f_mt; rw [n_mt] at hTR
  have hHF := jf mh m_fou f_mh f_m_fou; rw [n_mh, n_m_fou, f_m_claims] at hHF
  refine lv_aload_n hx hb dL_law_337 rfl (lv_at hl 2 rfl) ?_
  refine lv_aload_n hx hb dL_law_338 rfl (lv_at hl 3 rfl) ?_
  refine lv_iload_n hx hb dL_law_339 rfl (lv_at hl 0 rfl) ?_
  refine lv_iconst (v := 1) hx hb dL_law_340 ?o10 ?_
  case o10 => decide
  refine lv_iadd hx hb dL_law_341 ?_
  have rg_137 := i32_r i
  refine lv_topi (fun x_138 ex_138 => ?_)
  have zx_138 : x_138.toInt = i.toInt + 1 := ?o11
  case o11 =>
    rw [ex_138]
    refine i32_add rfl ?o12 ?o13 ?o14
    case o12 => decide
    case o13 => omega
    case o14 => omega
  refine va_sld hx hb hX hbl hbA hW.2.2.2.1 (vp_in_iff.mpr ⟨?o15, ?o16⟩) dL_law_342 ?_
  case o15 => omega
  case o16 => omega
  refine lv_topi (fun x_139 ex_139 => ?_)
  refine lv_aload_n hx hb dL_law_343 rfl (lv_at hl 3 rfl) ?_
  refine lv_iload_n hx hb dL_law_344 rfl (lv_at hl 0 rfl) ?_
  refine lv_iconst (v := 2) hx hb dL_law_345 ?o17 ?_
  case o17 => decide
  refine lv_iadd hx hb dL_law_346 ?_
  refine lv_topi (fun x_140 ex_140 => ?_)
  have zx_140 : x_140.toInt = i.toInt + 2 := ?o18
  case o18 =>
    rw [ex_140]
    refine i32_add rfl ?o19 ?o20 ?o21
    case o19 => decide
    case o20 => omega
    case o21 => omega
  refine va_sld hx hb hX hbl hbA hW.2.2.2.1 (vp_in_iff.mpr ⟨?o22, ?o23⟩) dL_law_347 ?_
  case o22 => omega
  case o23 => omega
  refine lv_topi (fun x_141 ex_141 => ?_)
  refine lv_aload_n hx hb dL_law_348 rfl (lv_at hl 3 rfl) ?_
  refine lv_iload_n hx hb dL_law_349 rfl (lv_at hl 0 rfl) ?_
  refine lv_iconst (v := 3) hx hb dL_law_350 ?o24 ?_
  case o24 => decide
  refine lv_iadd hx hb dL_law_351 ?_
  refine lv_topi (fun x_142 ex_142 => ?_)
  have zx_142 : x_142.toInt = i.toInt + 3 := ?o25
  case o25 =>
    rw [ex_142]
    refine i32_add rfl ?o26 ?o27 ?o28
    case o26 => decide
    case o27 => omega
    case o28 => omega
  refine va_sld hx hb hX hbl hbA hW.2.2.2.1 (vp_in_iff.mpr ⟨?o29, ?o30⟩) dL_law_352 ?_
  case o29 => omega
  case o30 => omega
  refine lv_topi (fun x_143 ex_143 => ?_)
  refine lv_aload_n hx hb dL_law_353 rfl (lv_at hl 3 rfl) ?_
  refine lv_iload_n hx hb dL_law_354 rfl (lv_at hl 0 rfl) ?_
  refine lv_iconst (v := 4) hx hb dL_law_355 ?o31 ?_
  case o31 => decide
  refine lv_iadd hx hb dL_law_356 ?_
  refine lv_topi (fun x_144 ex_144 => ?_)
  have zx_144 : x_144.toInt = i.toInt + 4 := ?o32
  case o32 =>
    rw [ex_144]
    refine i32_add rfl ?o33 ?o34 ?o35
    case o33 => decide
    case o34 => omega
    case o35 => omega
  refine va_sld hx hb hX hbl hbA hW.2.2.2.1 (vp_in_iff.mpr ⟨?o36, ?o37⟩) dL_law_357 ?_
  case o36 => omega
  case o37 => omega
  refine lv_topi (fun x_145 ex_145 => ?_)
  refine lv_aload_n hx hb dL_law_358 rfl (lv_at hl 3 rfl) ?_
  refine lv_iload_n hx hb dL_law_359 rfl (lv_at hl 0 rfl) ?_
  refine lv_iconst (v := 5) hx hb dL_law_360 ?o38 ?_
  case o38 => decide
  refine lv_iadd hx hb dL_law_361 ?_
  refine lv_topi (fun x_146 ex_146 => ?_)
  have zx_146 : x_146.toInt = i.toInt + 5 := ?o39
  case o39 =>
    rw [ex_146]
    refine i32_add rfl ?o40 ?o41 ?o42
    case o40 => decide
    case o41 => omega
    case o42 => omega
  refine va_sld hx hb hX hbl hbA hW.2.2.2.1 (vp_in_iff.mpr ⟨?o43, ?o44⟩) dL_law_362 ?_
  case o43 => omega
  case o44 => omega
  refine lv_topi (fun x_147 ex_147 => ?_)
  refine lv_aload_n hx hb dL_law_363 rfl (lv_at hl 3 rfl) ?_
  refine lv_iload_n hx hb dL_law_364 rfl (lv_at hl 0 rfl) ?_
  refine lv_bipush (v := 6) hx hb dL_law_365 ?o45 ?_
  case o45 => decide
  refine lv_iadd hx hb dL_law_367 ?_
  refine lv_topi (fun x_148 ex_148 => ?_)
  have zx_148 : x_148.toInt = i.toInt + 6 := ?o46
  case o46 =>
    rw [ex_148]
    refine i32_add rfl ?o47 ?o48 ?o49
    case o47 => decide
    case o48 => omega
    case o49 => omega
  refine va_sld hx hb hX hbl hbA hW.2.2.2.1 (vp_in_iff.mpr ⟨?o50, ?o51⟩) dL_law_368 ?_
  case o50 => omega
  case o51 => omega
  refine lv_topi (fun x_149 ex_149 => ?_)
  have hTo := hT
  refine hx_goi (hx_runV (As := [.int x_139, .int x_141, .int x_143, .int x_145, .int x_147, .int x_149]) (rest := []) ⟨hx, hb, hml, hown, hts⟩ hW gx tt_9 (T := TX9) (N := 20) rfl (t_X9_person_v l dC dI dA L1 hl1 H.size ax x_139 x_141 x_143 x_145 x_147 x_149 hT gx qp g_qp f_qp qc g_qc f_qc np f_x_personCount c0 f_x_claimCount c_dead cl_dead c_isj cl_isj c_dox cl_dox c_doy cl_doy F_bor cl_bor F_kin cl_kin F_ear cl_ear F_hds cl_hds nu_qp F_aga F_by hDF hDP pf_qp) (cwV 6 hts (hx_gV kw_601 kw_598 kw_599 kw_600 kw_94) rfl rfl rfl (by decide +kernel) ⟨Nat.le_of_ble_eq_true rfl, Nat.le_of_ble_eq_true rfl⟩) rfl hl.1 rfl (Nat.le_of_ble_eq_true rfl) dL_law_369 ⟨(show CC + 1 ≤ 600000 from ?o52), (show SS + 10 ≤ 7302250 from ?o53)⟩) hW (fun r_152 L_150 h_151 H locs p_153 hW => ?_)
  case o52 => omega
  case o53 => omega
  obtain ⟨⟨w_156, w_157, w_158, w_159, w_160, w_161, w_162, w_163, w_164, fw_156, fw_157, fw_158, fw_159, fw_160, fw_161, fw_162, fw_163, fw_164, hr_154⟩, hT, hs, pf_155⟩ := p_153
  obtain ⟨nu_165, hr_154⟩ := hr_154
  replace hT : hx_T T_tb L_150 h_151 := hT
  replace hs : hx_S T_tb [(4, 3), (4, 4), (4, 5), (4, 6), (9, 8), (44, 0), (120, 0), (120, 1), (120, 2)] L1 hl1 L_150 h_151 := hs
  replace f_qa := (hs.o gx trivial rfl).2.trans f_qa
  replace f_qp := (hs.o gx trivial rfl).2.trans f_qp
  replace f_qc := (hs.o gx trivial rfl).2.trans f_qc
  replace f_qh := (hs.o gx trivial rfl).2.trans f_qh
  replace f_qw := (hs.o gx trivial rfl).2.trans f_qw
  replace f_ql := (hs.o g_qw trivial rfl).2.trans f_ql
  replace f_m_now := (hs.o gm trivial rfl).1.trans f_m_now
  replace f_m_persons := (hs.o gm trivial rfl).1.trans f_m_persons
  replace f_m_claims := (hs.o gm trivial rfl).1.trans f_m_claims
  replace f_m_taped := (hs.o gm trivial rfl).1.trans f_m_taped
  replace f_m_acts := (hs.o gm trivial rfl).1.trans f_m_acts
  replace f_m_heardMany := (hs.o gm trivial rfl).1.trans f_m_heardMany
  replace f_m_lines := (hs.o gm trivial rfl).1.trans f_m_lines
  replace f_m_listed := (hs.o gm trivial rfl).1.trans f_m_listed
  replace f_m_walkedMany := (hs.o gm trivial rfl).1.trans f_m_walkedMany
  replace f_m_payments := (hs.o gm trivial rfl).1.trans f_m_payments
  replace f_x_now := (hs.o gx trivial rfl).1.trans f_x_now
  replace f_x_claimCount := (hs.o gx trivial rfl).1.trans f_x_claimCount
  replace f_x_tapeLength := (hs.o gx trivial rfl).1.trans f_x_tapeLength
  replace f_x_actCount := (hs.o gx trivial rfl).1.trans f_x_actCount
  replace f_x_heardCount := (hs.o gx trivial rfl).1.trans f_x_heardCount
  replace f_mw := (hs.o gm trivial rfl).2.trans f_mw
  replace f_mr := (hs.o gm trivial rfl).2.trans f_mr
  replace f_mp := (hs.o gm trivial rfl).2.trans f_mp
  replace f_mn := (hs.o gm trivial rfl).2.trans f_mn
  replace f_ml := (hs.o gm trivial rfl).2.trans f_ml
  replace f_mh := (hs.o gm trivial rfl).2.trans f_mh
  replace f_mt := (hs.o gm trivial rfl).2.trans f_mt
  replace f_m_fou := (hs.o gm trivial rfl).2.trans f_m_fou
  replace f_qo_ln := (hs.o gx trivial rfl).2.trans f_qo_ln
  replace f_o_ln := (hs.o g_qo_ln trivial rfl).1.trans f_o_ln
  replace f_o_lsd := (hs.o g_qw trivial rfl).1.trans f_o_lsd
  replace f_o_wkm := (hs.o g_qw trivial rfl).1.trans f_o_wkm
  replace f_qo_py := (hs.o gx trivial rfl).2.trans f_qo_py
  replace f_o_py := (hs.o g_qo_py trivial rfl).1.trans f_o_py
  replace f_b_of := (hs.o g_qo_ln trivial rfl).2.trans f_b_of
  replace f_m_of := (hs.o gm trivial rfl).2.trans f_m_of
  replace f_b_wf := (hs.o g_qo_ln trivial rfl).2.trans f_b_wf
  replace f_m_wf := (hs.o gm trivial rfl).2.trans f_m_wf
  replace f_b_df := (hs.o g_qo_ln trivial rfl).2.trans f_b_df
  replace f_m_df := (hs.o gm trivial rfl).2.trans f_m_df
  replace f_b_kf := (hs.o g_qo_ln trivial rfl).2.trans f_b_kf
  replace f_m_kf := (hs.o gm trivial rfl).2.trans f_m_kf
  replace f_b_sf := (hs.o g_qo_ln trivial rfl).2.trans f_b_sf
  replace f_m_sf := (hs.o gm trivial rfl).2.trans f_m_sf
  replace f_b_bf := (hs.o g_qo_ln trivial rfl).2.trans f_b_bf
  replace f_m_lst := (hs.o gm trivial rfl).2.trans f_m_lst
  replace f_qtp := (hs.o gx trivial rfl).2.trans f_qtp
  replace f_m_tp := (hs.o gm trivial rfl).2.trans f_m_tp
  replace f_m_dead := (hs.o gm trivial rfl).2.trans f_m_dead
  replace f_m_isj := (hs.o gm trivial rfl).2.trans f_m_isj
  replace f_m_dox := (hs.o gm trivial rfl).2.trans f_m_dox
  replace f_m_doy := (hs.o gm trivial rfl).2.trans f_m_doy
  replace f_qlt := (hs.o g_qw trivial rfl).2.trans f_qlt
  replace f_qlf := (hs.o g_qw trivial rfl).2.trans f_qlf
  replace f_m_wkd := (hs.o gm trivial rfl).2.trans f_m_wkd
  replace f_m_aga := (hs.o gm trivial rfl).2.trans f_m_aga
  replace f_qwo := (hs.o gx trivial rfl).2.trans f_qwo
  replace f_m_ad := (hs.o gm trivial rfl).2.trans f_m_ad
  replace f_m_by := (hs.o gm trivial rfl).2.trans f_m_by
  replace f_m_ho := (hs.o gm trivial rfl).2.trans f_m_ho
  replace f_m_fc := (hs.o gm trivial rfl).2.trans f_m_fc
  replace f_m_nt := (hs.o gm trivial rfl).2.trans f_m_nt
  replace f_m_wt := (hs.o gm trivial rfl).2.trans f_m_wt
  replace f_m_be := (hs.o gm trivial rfl).2.trans f_m_be
  replace f_m_bor := (hs.o gm trivial rfl).2.trans f_m_bor
  replace f_m_kin := (hs.o gm trivial rfl).2.trans f_m_kin
  replace f_m_sum := (hs.o gm trivial rfl).2.trans f_m_sum
  replace f_m_fro := (hs.o gm trivial rfl).2.trans f_m_fro
  replace f_m_fil := (hs.o gm trivial rfl).2.trans f_m_fil
  replace f_m_jud := (hs.o gm trivial rfl).2.trans f_m_jud
  replace f_m_ear := (hs.o gm trivial rfl).2.trans f_m_ear
  replace f_m_hds := (hs.o gm trivial rfl).2.trans f_m_hds
  replace f_m_ord := (hs.o gm trivial rfl).2.trans f_m_ord
  replace f_m_wkl := (hs.o gm trivial rfl).2.trans f_m_wkl
  replace f_m_owd := (hs.o gm trivial rfl).2.trans f_m_owd
  replace f_m_gds := (hs.o gm trivial rfl).2.trans f_m_gds
  replace f_m_szd := (hs.o gm trivial rfl).2.trans f_m_szd
  replace f_m_srv := (hs.o gm trivial rfl).2.trans f_m_srv
  replace f_y_p0 := (hs.o g_qo_py trivial rfl).2.trans f_y_p0
  replace f_m_p0 := (hs.o gm trivial rfl).2.trans f_m_p0
  replace f_y_p1 := (hs.o g_qo_py trivial rfl).2.trans f_y_p1
  replace f_m_p1 := (hs.o gm trivial rfl).2.trans f_m_p1
  replace f_y_p2 := (hs.o g_qo_py trivial rfl).2.trans f_y_p2
  replace f_m_p2 := (hs.o gm trivial rfl).2.trans f_m_p2
  replace f_y_p3 := (hs.o g_qo_py trivial rfl).2.trans f_y_p3
  replace f_m_p3 := (hs.o gm trivial rfl).2.trans f_m_p3
  replace f_y_p4 := (hs.o g_qo_py trivial rfl).2.trans f_y_p4
  replace f_m_p4 := (hs.o gm trivial rfl).2.trans f_m_p4
  replace f_qrg9 := (hs.o gx trivial rfl).2.trans f_qrg9
  replace f_y_ls := (hs.o g_qrg9 trivial rfl).2.trans f_y_ls
  replace f_m_rl := (hs.o gm trivial rfl).2.trans f_m_rl
  replace ffv_134 := (hs.o g_qrg9 trivial rfl).1.trans ffv_134
  replace ffv_135 := (hs.o gm trivial rfl).1.trans ffv_135
  replace ffv_136 := (hs.o gm trivial rfl).1.trans ffv_136
  replace pf_qa : ∀ j : Nat, (j : Int) < (h_151.2.1 ax 6).toInt → h_151.2.2 qa j ≠ none := by
    intro j hj; rw [(hs.o gx trivial rfl).1] at hj; rw [(hs.a g_qa rfl j).2]; exact pf_qa j hj
  replace pf_qc : ∀ j : Nat, (j : Int) < (h_151.2.1 ax 11).toInt → h_151.2.2 qc j ≠ none := by
    intro j hj; rw [(hs.o gx trivial rfl).1] at hj; rw [(hs.a g_qc rfl j).2]; exact pf_qc j hj
  replace pf_qh : ∀ j : Nat, (j : Int) < (h_151.2.1 ax 13).toInt → h_151.2.2 qh j ≠ none := by
    intro j hj; rw [(hs.o gx trivial rfl).1] at hj; rw [(hs.a g_qh rfl j).2]; exact pf_qh j hj
  replace pf_ql : ∀ j : Nat, (j : Int) < (h_151.2.1 qw 0).toInt → h_151.2.2 ql j ≠ none := by
    intro j hj; rw [(hs.o g_qw trivial rfl).1] at hj; rw [(hs.a g_ql rfl j).2]; exact pf_ql j hj
  replace cl_lst : hx_col 8 h_151 ql 0 = c_lst := (hx_col_S hs hTo g_ql tt_40 tt_2 rfl rfl).trans cl_lst
  replace cl_fou : hx_col 100 h_151 qc 10 = c_fou := (hx_col_S hs hTo g_qc tt_45 tt_2 rfl rfl).trans cl_fou
  replace cl_tri : hx_col 100 h_151 qc 9 = c_tri := (hx_col_S hs hTo g_qc tt_45 tt_2 rfl rfl).trans cl_tri
  replace cl_sum : hx_col 100 h_151 qc 6 = F_sum := (hx_col_S hs hTo g_qc tt_45 tt_2 rfl rfl).trans cl_sum
  replace cl_fro : hx_col 100 h_151 qc 7 = F_fro := (hx_col_S hs hTo g_qc tt_45 tt_2 rfl rfl).trans cl_fro
  replace cl_fil : hx_col 100 h_151 qc 8 = F_fil := (hx_col_S hs hTo g_qc tt_45 tt_2 rfl rfl).trans cl_fil
  replace cl_hea : hx_col 100 h_151 qc 11 = F_mh := (hx_col_S hs hTo g_qc tt_45 tt_2 rfl rfl).trans cl_hea
  replace cl_jud : hx_col 100 h_151 qc 12 = F_jud := (hx_col_S hs hTo g_qc tt_45 tt_2 rfl rfl).trans cl_jud
  replace cl_ord : hx_col 100 h_151 qc 13 = F_ord := (hx_col_S hs hTo g_qc tt_45 tt_2 rfl rfl).trans cl_ord
  replace cl_wkl : hx_col 100 h_151 qc 14 = F_wkl := (hx_col_S hs hTo g_qc tt_45 tt_2 rfl rfl).trans cl_wkl
  replace cl_owd : hx_col 100 h_151 qc 15 = F_owd := (hx_col_S hs hTo g_qc tt_45 tt_2 rfl rfl).trans cl_owd
  replace cl_gds : hx_col 100 h_151 qc 17 = F_gds := (hx_col_S hs hTo g_qc tt_45 tt_2 rfl rfl).trans cl_gds
  replace cl_szd : hx_col 100 h_151 qc 16 = F_szd := (hx_col_S hs hTo g_qc tt_45 tt_2 rfl rfl).trans cl_szd
  replace cl_srv : hx_col 100 h_151 qc 18 = F_srv := (hx_col_S hs hTo g_qc tt_45 tt_2 rfl rfl).trans cl_srv
  replace nu_qc : hx_num 100 h_151 qc 0 (c0.toInt) := hx_num_S hs hTo g_qc tt_45 tt_2 rfl rfl nu_qc
  replace sb_list : hx_LQ 8 100 h_151 ql qc := hx_LQ_S hs g_ql g_qc rfl rfl sb_list
  replace hRA9 : hv_RA h_151 qa qwo a0.toInt A9 := hv_RA_S hs hTo g_qa g_qwo tt_43 tt_0 rfl rfl rfl rfl rfl rfl ?o54 hRA9
  case o54 => omega
  replace hAC9 : hv_AC h_151 qc F_ml c0.toInt A9 := hv_AC_S hs hTo g_qc tt_45 tt_2 rfl tt_0 rfl rfl rfl rfl rfl rfl rfl hAC9
  replace hFX : hv_FX 8 4 h_151 qc cF9L c0.toInt := hv_FX_S hs hTo g_qc tt_45 tt_2 rfl rfl rfl rfl hFX
  replace hBX : hv_FX 3 5 h_151 qc F_be c0.toInt := hv_FX_S hs hTo g_qc tt_45 tt_2 rfl rfl rfl rfl hBX
  replace hHL : hv_HL h_151 qh qc F_ho m0.toInt c0.toInt := hv_HL_S hs g_qh g_qc rfl rfl hHL
  replace n_mw : h_151.2.1 mw = F_mw := (funext fun j => (hs.a g_mw rfl j).1).trans n_mw
  replace n_mr : h_151.2.1 mr = F_mr := (funext fun j => (hs.a g_mr rfl j).1).trans n_mr
  replace n_mp : h_151.2.1 mp = F_mp := (funext fun j => (hs.a g_mp rfl j).1).trans n_mp
  replace n_mn : h_151.2.1 mn = F_mn := (funext fun j => (hs.a g_mn rfl j).1).trans n_mn
  replace n_ml : h_151.2.1 ml = F_ml := (funext fun j => (hs.a g_ml rfl j).1).trans n_ml
  replace n_mh : h_151.2.1 mh = F_mh := (funext fun j => (hs.a g_mh rfl j).1).trans n_mh
  replace n_mt : h_151.2.1 mt = F_mt := (funext fun j => (hs.a g_mt rfl j).1).trans n_mt
  replace n_m_fou : h_151.2.1 m_fou = F_m_fou := (funext fun j => (hs.a g_m_fou rfl j).1).trans n_m_fou
  replace n_b_of : h_151.2.1 b_of = B_of := (funext fun j => (hs.a g_b_of rfl j).1).trans n_b_of
  replace n_m_of : h_151.2.1 m_of = F_of := (funext fun j => (hs.a g_m_of rfl j).1).trans n_m_of
  replace n_b_wf : h_151.2.1 b_wf = B_wf := (funext fun j => (hs.a g_b_wf rfl j).1).trans n_b_wf
  replace n_m_wf : h_151.2.1 m_wf = F_wf := (funext fun j => (hs.a g_m_wf rfl j).1).trans n_m_wf
  replace n_b_df : h_151.2.1 b_df = B_df := (funext fun j => (hs.a g_b_df rfl j).1).trans n_b_df
  replace n_m_df : h_151.2.1 m_df = F_df := (funext fun j => (hs.a g_m_df rfl j).1).trans n_m_df
  replace n_b_kf : h_151.2.1 b_kf = B_kf := (funext fun j => (hs.a g_b_kf rfl j).1).trans n_b_kf
  replace n_m_kf : h_151.2.1 m_kf = F_kf := (funext fun j => (hs.a g_m_kf rfl j).1).trans n_m_kf
  replace n_b_sf : h_151.2.1 b_sf = B_sf := (funext fun j => (hs.a g_b_sf rfl j).1).trans n_b_sf
  replace n_m_sf : h_151.2.1 m_sf = F_sf := (funext fun j => (hs.a g_m_sf rfl j).1).trans n_m_sf
  replace n_b_bf : h_151.2.1 b_bf = bfL := (funext fun j => (hs.a g_b_bf rfl j).1).trans n_b_bf
  replace n_lst : h_151.2.1 m_lst = F_lst := (funext fun j => (hs.a g_m_lst rfl j).1).trans n_lst
  replace n_tp : h_151.2.1 m_tp = F_tp := (funext fun j => (hs.a g_m_tp rfl j).1).trans n_tp
  replace n_qtp : h_151.2.1 qtp = F_tp := (funext fun j => (hs.a g_qtp rfl j).1).trans n_qtp
  replace n_dead : h_151.2.1 m_dead = F_dead := (funext fun j => (hs.a g_m_dead rfl j).1).trans n_dead
  replace n_isj : h_151.2.1 m_isj = F_isj := (funext fun j => (hs.a g_m_isj rfl j).1).trans n_isj
  replace n_dox : h_151.2.1 m_dox = F_dox := (funext fun j => (hs.a g_m_dox rfl j).1).trans n_dox
  replace n_doy : h_151.2.1 m_doy = F_doy := (funext fun j => (hs.a g_m_doy rfl j).1).trans n_doy
  replace n_qlt : h_151.2.1 qlt = F_qlt := (funext fun j => (hs.a g_qlt rfl j).1).trans n_qlt
  replace n_m_wkd : h_151.2.1 m_wkd = F_m_wkd := (funext fun j => (hs.a g_m_wkd rfl j).1).trans n_m_wkd
  replace n_aga : h_151.2.1 m_aga = F_aga := (funext fun j => (hs.a g_m_aga rfl j).1).trans n_aga
  replace n_ad : h_151.2.1 m_ad = F_ad := (funext fun j => (hs.a g_m_ad rfl j).1).trans n_ad
  replace n_by : h_151.2.1 m_by = F_by := (funext fun j => (hs.a g_m_by rfl j).1).trans n_by
  replace n_ho : h_151.2.1 m_ho = F_ho := (funext fun j => (hs.a g_m_ho rfl j).1).trans n_ho
  replace n_fc : h_151.2.1 m_fc = F_fc := (funext fun j => (hs.a g_m_fc rfl j).1).trans n_fc
  replace n_nt : h_151.2.1 m_nt = F_nt := (funext fun j => (hs.a g_m_nt rfl j).1).trans n_nt
  replace n_wt : h_151.2.1 m_wt = F_wt := (funext fun j => (hs.a g_m_wt rfl j).1).trans n_wt
  replace n_be : h_151.2.1 m_be = F_be := (funext fun j => (hs.a g_m_be rfl j).1).trans n_be
  replace n_bor : h_151.2.1 m_bor = F_bor := (funext fun j => (hs.a g_m_bor rfl j).1).trans n_bor
  replace n_kin : h_151.2.1 m_kin = F_kin := (funext fun j => (hs.a g_m_kin rfl j).1).trans n_kin
  replace n_sum : h_151.2.1 m_sum = F_sum := (funext fun j => (hs.a g_m_sum rfl j).1).trans n_sum
  replace n_fro : h_151.2.1 m_fro = F_fro := (funext fun j => (hs.a g_m_fro rfl j).1).trans n_fro
  replace n_fil : h_151.2.1 m_fil = F_fil := (funext fun j => (hs.a g_m_fil rfl j).1).trans n_fil
  replace n_jud : h_151.2.1 m_jud = F_jud := (funext fun j => (hs.a g_m_jud rfl j).1).trans n_jud
  replace n_ear : h_151.2.1 m_ear = F_ear := (funext fun j => (hs.a g_m_ear rfl j).1).trans n_ear
  replace n_hds : h_151.2.1 m_hds = F_hds := (funext fun j => (hs.a g_m_hds rfl j).1).trans n_hds
  replace n_ord : h_151.2.1 m_ord = F_ord := (funext fun j => (hs.a g_m_ord rfl j).1).trans n_ord
  replace n_wkl : h_151.2.1 m_wkl = F_wkl := (funext fun j => (hs.a g_m_wkl rfl j).1).trans n_wkl
  replace n_owd : h_151.2.1 m_owd = F_owd := (funext fun j => (hs.a g_m_owd rfl j).1).trans n_owd
  replace n_gds : h_151.2.1 m_gds = F_gds := (funext fun j => (hs.a g_m_gds rfl j).1).trans n_gds
  replace n_szd : h_151.2.1 m_szd = F_szd := (funext fun j => (hs.a g_m_szd rfl j).1).trans n_szd
  replace n_srv : h_151.2.1 m_srv = F_srv := (funext fun j => (hs.a g_m_srv rfl j).1).trans n_srv
  replace n_p0 : h_151.2.1 m_p0 = F_p0 := (funext fun j => (hs.a g_m_p0 rfl j).1).trans n_p0
  replace n_y_p0 : h_151.2.1 y_p0 = F_p0 := (funext fun j => (hs.a g_y_p0 rfl j).1).trans n_y_p0
  replace n_p1 : h_151.2.1 m_p1 = F_p1 := (funext fun j => (hs.a g_m_p1 rfl j).1).trans n_p1
  replace n_y_p1 : h_151.2.1 y_p1 = F_p1 := (funext fun j => (hs.a g_y_p1 rfl j).1).trans n_y_p1
  replace n_p2 : h_151.2.1 m_p2 = F_p2 := (funext fun j => (hs.a g_m_p2 rfl j).1).trans n_p2
  replace n_y_p2 : h_151.2.1 y_p2 = F_p2 := (funext fun j => (hs.a g_y_p2 rfl j).1).trans n_y_p2
  replace n_p3 : h_151.2.1 m_p3 = F_p3 := (funext fun j => (hs.a g_m_p3 rfl j).1).trans n_p3
  replace n_y_p3 : h_151.2.1 y_p3 = F_p3 := (funext fun j => (hs.a g_y_p3 rfl j).1).trans n_y_p3
  replace n_p4 : h_151.2.1 m_p4 = F_p4 := (funext fun j => (hs.a g_m_p4 rfl j).1).trans n_p4
  replace n_y_p4 : h_151.2.1 y_p4 = F_p4 := (funext fun j => (hs.a g_y_p4 rfl j).1).trans n_y_p4
  replace n_y_ls : h_151.2.1 y_ls = F_y_ls := (funext fun j => (hs.a g_y_ls rfl j).1).trans n_y_ls
  replace n_m_rl : h_151.2.1 m_rl = F_m_rl := (funext fun j => (hs.a g_m_rl rfl j).1).trans n_m_rl
  replace gx := gx.S hs
  replace gm := gm.S hs
  replace g_qa := g_qa.S hs
  replace g_qp := g_qp.S hs
  replace g_qc := g_qc.S hs
  replace g_qh := g_qh.S hs
  replace g_qw := g_qw.S hs
  replace g_ql := g_ql.S hs
  replace g_mw := g_mw.S hs
  replace g_mr := g_mr.S hs
  replace g_mp := g_mp.S hs
  replace g_mn := g_mn.S hs
  replace g_ml := g_ml.S hs
  replace g_mh := g_mh.S hs
  replace g_mt := g_mt.S hs
  replace g_m_fou := g_m_fou.S hs
  replace g_qo_ln := g_qo_ln.S hs
  replace g_qo_py := g_qo_py.S hs
  replace g_b_of := g_b_of.S hs
  replace g_m_of := g_m_of.S hs
  replace g_b_wf := g_b_wf.S hs
  replace g_m_wf := g_m_wf.S hs
  replace g_b_df := g_b_df.S hs
  replace g_m_df := g_m_df.S hs
  replace g_b_kf := g_b_kf.S hs
  replace g_m_kf := g_m_kf.S hs
  replace g_b_sf := g_b_sf.S hs
  replace g_m_sf := g_m_sf.S hs
  replace g_b_bf := g_b_bf.S hs
  replace g_m_lst := g_m_lst.S hs
  replace g_qtp := g_qtp.S hs
  replace g_m_tp := g_m_tp.S hs
  replace g_m_dead := g_m_dead.S hs
  replace g_m_isj := g_m_isj.S hs
  replace g_m_dox := g_m_dox.S hs
  replace g_m_doy := g_m_doy.S hs
  replace g_qlt := g_qlt.S hs
  replace g_qlf := g_qlf.S hs
  replace g_m_wkd := g_m_wkd.S hs
  replace g_m_aga := g_m_aga.S hs
  replace g_qwo := g_qwo.S hs
  replace g_m_ad := g_m_ad.S hs
  replace g_m_by := g_m_by.S hs
  replace g_m_ho := g_m_ho.S hs
  replace g_m_fc := g_m_fc.S hs
  replace g_m_nt := g_m_nt.S hs
  replace g_m_wt := g_m_wt.S hs
  replace g_m_be := g_m_be.S hs
  replace g_m_bor := g_m_bor.S hs
  replace g_m_kin := g_m_kin.S hs
  replace g_m_sum := g_m_sum.S hs
  replace g_m_fro := g_m_fro.S hs
  replace g_m_fil := g_m_fil.S hs
  replace g_m_jud := g_m_jud.S hs
  replace g_m_ear := g_m_ear.S hs
  replace g_m_hds := g_m_hds.S hs
  replace g_m_ord := g_m_ord.S hs
  replace g_m_wkl := g_m_wkl.S hs
  replace g_m_owd := g_m_owd.S hs
  replace g_m_gds := g_m_gds.S hs
  replace g_m_szd := g_m_szd.S hs
  replace g_m_srv := g_m_srv.S hs
  replace g_y_p0 := g_y_p0.S hs
  replace g_m_p0 := g_m_p0.S hs
  replace g_y_p1 := g_y_p1.S hs
  replace g_m_p1 := g_m_p1.S hs
  replace g_y_p2 := g_y_p2.S hs
  replace g_m_p2 := g_m_p2.S hs
  replace g_y_p3 := g_y_p3.S hs
  replace g_m_p3 := g_m_p3.S hs
  replace g_y_p4 := g_y_p4.S hs
  replace g_m_p4 := g_m_p4.S hs
  replace g_qrg9 := g_qrg9.S hs
  replace g_y_ls := g_y_ls.S hs
  replace g_m_rl := g_m_rl.S hs
  have pf_155 : ∀ j : Nat, (j : Int) < (h_151.2.1 ax 8).toInt → h_151.2.2 qp j ≠ none := pf_155
  have nu_165 : hx_num 40 h_151 qp 0 (w_156.toInt) := nu_165
  have fw_156 : h_151.2.1 ax 8 = w_156 := fw_156
  have bw_156 := hT.gi gx tt_9 (k := 8) rfl
  rw [fw_156] at bw_156
  have bw_156 : 0 ≤ w_156.toInt ∧ w_156.toInt ≤ 40 := bw_156
  have fw_157 : hx_col 40 h_151 qp 7 = w_157 := fw_157
  have fw_158 : hx_col 40 h_151 qp 8 = w_158 := fw_158
  have fw_159 : hx_col 40 h_151 qp 5 = w_159 := fw_159
  have fw_160 : hx_col 40 h_151 qp 6 = w_160 := fw_160
  have fw_161 : hx_col 40 h_151 qp 1 = w_161 := fw_161
  have fw_162 : hx_col 40 h_151 qp 2 = w_162 := fw_162
  have fw_163 : hx_col 40 h_151 qp 3 = w_163 := fw_163
  have fw_164 : hx_col 40 h_151 qp 4 = w_164 := fw_164
  obtain ⟨hr_154a, hr_154b⟩ := hr_154
  have hDFp : hw_DF h_151 qc qp 2 F_aga c0.toInt := hr_154a.2.2.2.2.2.2.2.1
  have hDPp : hw_DF h_151 qc qp 1 F_by c0.toInt := hr_154a.2.2.2.2.2.2.2.2
  refine lv_pop hx hb dL_law_372 rfl ?_
  refine lv_aload_n hx hb dL_law_373 rfl (lv_at hl 1 rfl) ?_
  refine lv_aload_n hx hb dL_law_374 rfl (lv_at hl 3 rfl) ?_
  refine lv_iload_n hx hb dL_law_375 rfl (lv_at hl 0 rfl) ?_
  refine lv_iconst (v := 1) hx hb dL_law_376 ?o55 ?_
  case o55 => decide
  refine lv_iadd hx hb dL_law_377 ?_
  refine lv_topi (fun x_166 ex_166 => ?_)
  have zx_166 : x_166.toInt = i.toInt + 1 := ?o56
  case o56 =>
    rw [ex_166]
    refine i32_add rfl ?o57 ?o58 ?o59
    case o57 => decide
    case o58 => omega
    case o59 => omega
  obtain rfl : x_138 = x_166 := ex_138.trans ex_166.symm
  refine va_sld hx hb hX hbl hbA hW.2.2.2.1 (vp_in_iff.mpr ⟨?o60, ?o61⟩) dL_law_378 ?_
  case o60 => omega
  case o61 => omega
  refine lv_topi (fun x_167 ex_167 => ?_)
  obtain rfl : x_139 = x_167 := ex_139.trans ex_167.symm
  refine lv_aload_n hx hb dL_law_379 rfl (lv_at hl 3 rfl) ?_
  refine lv_iload_n hx hb dL_law_380 rfl (lv_at hl 0 rfl) ?_
  refine lv_iconst (v := 2) hx hb dL_law_381 ?o62 ?_
  case o62 => decide
  refine lv_iadd hx hb dL_law_382 ?_
  refine lv_topi (fun x_168 ex_168 => ?_)
  have zx_168 : x_168.toInt = i.toInt + 2 := ?o63
  case o63 =>
    rw [ex_168]
    refine i32_add rfl ?o64 ?o65 ?o66
    case o64 => decide
    case o65 => omega
    case o66 => omega
  obtain rfl : x_140 = x_168 := ex_140.trans ex_168.symm
  refine va_sld hx hb hX hbl hbA hW.2.2.2.1 (vp_in_iff.mpr ⟨?o67, ?o68⟩) dL_law_383 ?_
  case o67 => omega
  case o68 => omega
  refine lv_topi (fun x_169 ex_169 => ?_)
  obtain rfl : x_141 = x_169 := ex_141.trans ex_169.symm
  refine lv_aload_n hx hb dL_law_384 rfl (lv_at hl 3 rfl) ?_
  refine lv_iload_n hx hb dL_law_385 rfl (lv_at hl 0 rfl) ?_
  refine lv_iconst (v := 3) hx hb dL_law_386 ?o69 ?_
  case o69 => decide
  refine lv_iadd hx hb dL_law_387 ?_
  refine lv_topi (fun x_170 ex_170 => ?_)
  have zx_170 : x_170.toInt = i.toInt + 3 := ?o70
  case o70 =>
    rw [ex_170]
    refine i32_add rfl ?o71 ?o72 ?o73
    case o71 => decide
    case o72 => omega
    case o73 => omega
  obtain rfl : x_142 = x_170 := ex_142.trans ex_170.symm
  refine va_sld hx hb hX hbl hbA hW.2.2.2.1 (vp_in_iff.mpr ⟨?o74, ?o75⟩) dL_law_388 ?_
  case o74 => omega
  case o75 => omega
  refine lv_topi (fun x_171 ex_171 => ?_)
  obtain rfl : x_143 = x_171 := ex_143.trans ex_171.symm
  refine lv_aload_n hx hb dL_law_389 rfl (lv_at hl 3 rfl) ?_
  refine lv_iload_n hx hb dL_law_390 rfl (lv_at hl 0 rfl) ?_
  refine lv_iconst (v := 4) hx hb dL_law_391 ?o76 ?_
  case o76 => decide
  refine lv_iadd hx hb dL_law_392 ?_
  refine lv_topi (fun x_172 ex_172 => ?_)
  have zx_172 : x_172.toInt = i.toInt + 4 := ?o77
  case o77 =>
    rw [ex_172]
    refine i32_add rfl ?o78 ?o79 ?o80
    case o78 => decide
    case o79 => omega
    case o80 => omega
  obtain rfl : x_144 = x_172 := ex_144.trans ex_172.symm
  refine va_sld hx hb hX hbl hbA hW.2.2.2.1 (vp_in_iff.mpr ⟨?o81, ?o82⟩) dL_law_393 ?_
  case o81 => omega
  case o82 => omega
  refine lv_topi (fun x_173 ex_173 => ?_)
  obtain rfl : x_145 = x_173 := ex_145.trans ex_173.symm
  refine lv_aload_n hx hb dL_law_394 rfl (lv_at hl 3 rfl) ?_
  refine lv_iload_n hx hb dL_law_395 rfl (lv_at hl 0 rfl) ?_
  refine lv_iconst (v := 5) hx hb dL_law_396 ?o83 ?_
  case o83 => decide
  refine lv_iadd hx hb dL_law_397 ?_
  refine lv_topi (fun x_174 ex_174 => ?_)
  have zx_174 : x_174.toInt = i.toInt + 5 := ?o84
  case o84 =>
    rw [ex_174]
    refine i32_add rfl ?o85 ?o86 ?o87
    case o85 => decide
    case o86 => omega
    case o87 => omega
  obtain rfl : x_146 = x_174 := ex_146.trans ex_174.symm
  refine va_sld hx hb hX hbl hbA hW.2.2.2.1 (vp_in_iff.mpr ⟨?o88, ?o89⟩) dL_law_398 ?_
  case o88 => omega
  case o89 => omega
  refine lv_topi (fun x_175 ex_175 => ?_)
  obtain rfl : x_147 = x_175 := ex_147.trans ex_175.symm
  refine lv_aload_n hx hb dL_law_399 rfl (lv_at hl 3 rfl) ?_
  refine lv_iload_n hx hb dL_law_400 rfl (lv_at hl 0 rfl) ?_
  refine lv_bipush (v := 6) hx hb dL_law_401 ?o90 ?_
  case o90 => decide
  refine lv_iadd hx hb dL_law_403 ?_
  refine lv_topi (fun x_176 ex_176 => ?_)
  have zx_176 : x_176.toInt = i.toInt + 6 := ?o91
  case o91 =>
    rw [ex_176]
    refine i32_add rfl ?o92 ?o93 ?o94
    case o92 => decide
    case o93 => omega
    case o94 => omega
  obtain rfl : x_148 = x_176 := ex_148.trans ex_176.symm
  refine va_sld hx hb hX hbl hbA hW.2.2.2.1 (vp_in_iff.mpr ⟨?o95, ?o96⟩) dL_law_404 ?_
  case o95 => omega
  case o96 => omega
  refine lv_topi (fun x_177 ex_177 => ?_)
  obtain rfl : x_149 = x_177 := ex_149.trans ex_177.symm
  have hTo := hT
  refine hx_goi (hx_runV (As := [.int x_139, .int x_141, .int x_143, .int x_145, .int x_147, .int x_149]) (rest := []) ⟨hx, hb, hml, hown, hts⟩ hW gm tt_10 (T := TX10) (N := 98) rfl (t_X10_person_v l dC dI dA L_150 h_151 H.size am x_139 x_141 x_143 x_145 x_147 x_149 hT gm m_dox g_m_dox f_m_dox m_doy g_m_doy f_m_doy m_bor g_m_bor f_m_bor m_kin g_m_kin f_m_kin m_ear g_m_ear f_m_ear m_hds g_m_hds f_m_hds F_dox n_dox F_doy n_doy F_bor n_bor F_kin n_kin F_ear n_ear F_hds n_hds np f_m_persons) (cwV 6 hts (hx_gV kw_1537 kw_1534 kw_1535 kw_1536 kw_103) rfl rfl rfl (by decide +kernel) ⟨Nat.le_of_ble_eq_true rfl, Nat.le_of_ble_eq_true rfl⟩) rfl hl.1 rfl (Nat.le_of_ble_eq_true rfl) dL_law_405 ⟨(show CC + 1 + 0 ≤ 600000 from ?o97), (show SS + 10 + 0 ≤ 7302250 from ?o98)⟩) hW (fun r_180 L_178 h_179 H locs p_181 hW => ?_)
  case o97 => omega
  case o98 => omega
  obtain ⟨⟨w_183, w_184, w_185, w_186, w_187, w_188, w_189, fw_183, fw_184, fw_185, fw_186, fw_187, fw_188, fw_189, hr_182⟩, hT, hs⟩ := p_181
  replace hT : hx_T T_tb L_178 h_179 := hT
  replace hs : hx_S T_tb [(10, 20), (58, 0), (59, 0), (60, 0), (61, 0), (62, 0), (63, 0)] L_150 h_151 L_178 h_179 := hs
  replace f_qa := (hs.o gx trivial rfl).2.trans f_qa
  replace f_qp := (hs.o gx trivial rfl).2.trans f_qp
  replace f_qc := (hs.o gx trivial rfl).2.trans f_qc
  replace f_qh := (hs.o gx trivial rfl).2.trans f_qh
  replace f_qw := (hs.o gx trivial rfl).2.trans f_qw
  replace f_ql := (hs.o g_qw trivial rfl).2.trans f_ql
  replace f_m_now := (hs.o gm trivial rfl).1.trans f_m_now
  replace f_m_claims := (hs.o gm trivial rfl).1.trans f_m_claims
  replace f_m_taped := (hs.o gm trivial rfl).1.trans f_m_taped
  replace f_m_acts := (hs.o gm trivial rfl).1.trans f_m_acts
  replace f_m_heardMany := (hs.o gm trivial rfl).1.trans f_m_heardMany
  replace f_m_lines := (hs.o gm trivial rfl).1.trans f_m_lines
  replace f_m_listed := (hs.o gm trivial rfl).1.trans f_m_listed
  replace f_m_walkedMany := (hs.o gm trivial rfl).1.trans f_m_walkedMany
  replace f_m_payments := (hs.o gm trivial rfl).1.trans f_m_payments
  replace f_x_now := (hs.o gx trivial rfl).1.trans f_x_now
  replace f_x_claimCount := (hs.o gx trivial rfl).1.trans f_x_claimCount
  replace f_x_tapeLength := (hs.o gx trivial rfl).1.trans f_x_tapeLength
  replace f_x_actCount := (hs.o gx trivial rfl).1.trans f_x_actCount
  replace f_x_heardCount := (hs.o gx trivial rfl).1.trans f_x_heardCount
  replace f_mw := (hs.o gm trivial rfl).2.trans f_mw
  replace f_mr := (hs.o gm trivial rfl).2.trans f_mr
  replace f_mp := (hs.o gm trivial rfl).2.trans f_mp
  replace f_mn := (hs.o gm trivial rfl).2.trans f_mn
  replace f_ml := (hs.o gm trivial rfl).2.trans f_ml
  replace f_mh := (hs.o gm trivial rfl).2.trans f_mh
  replace f_mt := (hs.o gm trivial rfl).2.trans f_mt
  replace f_m_fou := (hs.o gm trivial rfl).2.trans f_m_fou
  replace f_qo_ln := (hs.o gx trivial rfl).2.trans f_qo_ln
  replace f_o_ln := (hs.o g_qo_ln trivial rfl).1.trans f_o_ln
  replace f_o_lsd := (hs.o g_qw trivial rfl).1.trans f_o_lsd
  replace f_o_wkm := (hs.o g_qw trivial rfl).1.trans f_o_wkm
  replace f_qo_py := (hs.o gx trivial rfl).2.trans f_qo_py
  replace f_o_py := (hs.o g_qo_py trivial rfl).1.trans f_o_py
  replace f_b_of := (hs.o g_qo_ln trivial rfl).2.trans f_b_of
  replace f_m_of := (hs.o gm trivial rfl).2.trans f_m_of
  replace f_b_wf := (hs.o g_qo_ln trivial rfl).2.trans f_b_wf
  replace f_m_wf := (hs.o gm trivial rfl).2.trans f_m_wf
  replace f_b_df := (hs.o g_qo_ln trivial rfl).2.trans f_b_df
  replace f_m_df := (hs.o gm trivial rfl).2.trans f_m_df
  replace f_b_kf := (hs.o g_qo_ln trivial rfl).2.trans f_b_kf
  replace f_m_kf := (hs.o gm trivial rfl).2.trans f_m_kf
  replace f_b_sf := (hs.o g_qo_ln trivial rfl).2.trans f_b_sf
  replace f_m_sf := (hs.o gm trivial rfl).2.trans f_m_sf
  replace f_b_bf := (hs.o g_qo_ln trivial rfl).2.trans f_b_bf
  replace f_m_lst := (hs.o gm trivial rfl).2.trans f_m_lst
  replace f_qtp := (hs.o gx trivial rfl).2.trans f_qtp
  replace f_m_tp := (hs.o gm trivial rfl).2.trans f_m_tp
  replace f_m_dead := (hs.o gm trivial rfl).2.trans f_m_dead
  replace f_m_isj := (hs.o gm trivial rfl).2.trans f_m_isj
  replace f_m_dox := (hs.o gm trivial rfl).2.trans f_m_dox
  replace f_m_doy := (hs.o gm trivial rfl).2.trans f_m_doy
  replace f_qlt := (hs.o g_qw trivial rfl).2.trans f_qlt
  replace f_qlf := (hs.o g_qw trivial rfl).2.trans f_qlf
  replace f_m_wkd := (hs.o gm trivial rfl).2.trans f_m_wkd
  replace f_m_aga := (hs.o gm trivial rfl).2.trans f_m_aga
  replace f_qwo := (hs.o gx trivial rfl).2.trans f_qwo
  replace f_m_ad := (hs.o gm trivial rfl).2.trans f_m_ad
  replace f_m_by := (hs.o gm trivial rfl).2.trans f_m_by
  replace f_m_ho := (hs.o gm trivial rfl).2.trans f_m_ho
  replace f_m_fc := (hs.o gm trivial rfl).2.trans f_m_fc
  replace f_m_nt := (hs.o gm trivial rfl).2.trans f_m_nt
  replace f_m_wt := (hs.o gm trivial rfl).2.trans f_m_wt
  replace f_m_be := (hs.o gm trivial rfl).2.trans f_m_be
  replace f_m_bor := (hs.o gm trivial rfl).2.trans f_m_bor
  replace f_m_kin := (hs.o gm trivial rfl).2.trans f_m_kin
  replace f_m_sum := (hs.o gm trivial rfl).2.trans f_m_sum
  replace f_m_fro := (hs.o gm trivial rfl).2.trans f_m_fro
  replace f_m_fil := (hs.o gm trivial rfl).2.trans f_m_fil
  replace f_m_jud := (hs.o gm trivial rfl).2.trans f_m_jud
  replace f_m_ear := (hs.o gm trivial rfl).2.trans f_m_ear
  replace f_m_hds := (hs.o gm trivial rfl).2.trans f_m_hds
  replace f_m_ord := (hs.o gm trivial rfl).2.trans f_m_ord
  replace f_m_wkl := (hs.o gm trivial rfl).2.trans f_m_wkl
  replace f_m_owd := (hs.o gm trivial rfl).2.trans f_m_owd
  replace f_m_gds := (hs.o gm trivial rfl).2.trans f_m_gds
  replace f_m_szd := (hs.o gm trivial rfl).2.trans f_m_szd
  replace f_m_srv := (hs.o gm trivial rfl).2.trans f_m_srv
  replace f_y_p0 := (hs.o g_qo_py trivial rfl).2.trans f_y_p0
  replace f_m_p0 := (hs.o gm trivial rfl).2.trans f_m_p0
  replace f_y_p1 := (hs.o g_qo_py trivial rfl).2.trans f_y_p1
  replace f_m_p1 := (hs.o gm trivial rfl).2.trans f_m_p1
  replace f_y_p2 := (hs.o g_qo_py trivial rfl).2.trans f_y_p2
  replace f_m_p2 := (hs.o gm trivial rfl).2.trans f_m_p2
  replace f_y_p3 := (hs.o g_qo_py trivial rfl).2.trans f_y_p3
  replace f_m_p3 := (hs.o gm trivial rfl).2.trans f_m_p3
  replace f_y_p4 := (hs.o g_qo_py trivial rfl).2.trans f_y_p4
  replace f_m_p4 := (hs.o gm trivial rfl).2.trans f_m_p4
  replace f_qrg9 := (hs.o gx trivial rfl).2.trans f_qrg9
  replace f_y_ls := (hs.o g_qrg9 trivial rfl).2.trans f_y_ls
  replace f_m_rl := (hs.o gm trivial rfl).2.trans f_m_rl
  replace ffv_134 := (hs.o g_qrg9 trivial rfl).1.trans ffv_134
  replace ffv_135 := (hs.o gm trivial rfl).1.trans ffv_135
  replace ffv_136 := (hs.o gm trivial rfl).1.trans ffv_136
  replace fw_156 := (hs.o gx trivial rfl).1.trans fw_156
  replace pf_qa : ∀ j : Nat, (j : Int) < (h_179.2.1 ax 6).toInt → h_179.2.2 qa j ≠ none := by
    intro j hj; rw [(hs.o gx trivial rfl).1] at hj; rw [(hs.a g_qa rfl j).2]; exact pf_qa j hj
  replace pf_qc : ∀ j : Nat, (j : Int) < (h_179.2.1 ax 11).toInt → h_179.2.2 qc j ≠ none := by
    intro j hj; rw [(hs.o gx trivial rfl).1] at hj; rw [(hs.a g_qc rfl j).2]; exact pf_qc j hj
  replace pf_qh : ∀ j : Nat, (j : Int) < (h_179.2.1 ax 13).toInt → h_179.2.2 qh j ≠ none := by
    intro j hj; rw [(hs.o gx trivial rfl).1] at hj; rw [(hs.a g_qh rfl j).2]; exact pf_qh j hj
  replace pf_ql : ∀ j : Nat, (j : Int) < (h_179.2.1 qw 0).toInt → h_179.2.2 ql j ≠ none := by
    intro j hj; rw [(hs.o g_qw trivial rfl).1] at hj; rw [(hs.a g_ql rfl j).2]; exact pf_ql j hj
  replace pf_155 : ∀ j : Nat, (j : Int) < (h_179.2.1 ax 8).toInt → h_179.2.2 qp j ≠ none := by
    intro j hj; rw [(hs.o gx trivial rfl).1] at hj; rw [(hs.a g_qp rfl j).2]; exact pf_155 j hj
  replace cl_lst : hx_col 8 h_179 ql 0 = c_lst := (hx_col_S hs hTo g_ql tt_40 tt_2 rfl rfl).trans cl_lst
  replace cl_fou : hx_col 100 h_179 qc 10 = c_fou := (hx_col_S hs hTo g_qc tt_45 tt_2 rfl rfl).trans cl_fou
  replace cl_tri : hx_col 100 h_179 qc 9 = c_tri := (hx_col_S hs hTo g_qc tt_45 tt_2 rfl rfl).trans cl_tri
  replace cl_sum : hx_col 100 h_179 qc 6 = F_sum := (hx_col_S hs hTo g_qc tt_45 tt_2 rfl rfl).trans cl_sum
  replace cl_fro : hx_col 100 h_179 qc 7 = F_fro := (hx_col_S hs hTo g_qc tt_45 tt_2 rfl rfl).trans cl_fro
  replace cl_fil : hx_col 100 h_179 qc 8 = F_fil := (hx_col_S hs hTo g_qc tt_45 tt_2 rfl rfl).trans cl_fil
  replace cl_hea : hx_col 100 h_179 qc 11 = F_mh := (hx_col_S hs hTo g_qc tt_45 tt_2 rfl rfl).trans cl_hea
  replace cl_jud : hx_col 100 h_179 qc 12 = F_jud := (hx_col_S hs hTo g_qc tt_45 tt_2 rfl rfl).trans cl_jud
  replace cl_ord : hx_col 100 h_179 qc 13 = F_ord := (hx_col_S hs hTo g_qc tt_45 tt_2 rfl rfl).trans cl_ord
  replace cl_wkl : hx_col 100 h_179 qc 14 = F_wkl := (hx_col_S hs hTo g_qc tt_45 tt_2 rfl rfl).trans cl_wkl
  replace cl_owd : hx_col 100 h_179 qc 15 = F_owd := (hx_col_S hs hTo g_qc tt_45 tt_2 rfl rfl).trans cl_owd
  replace cl_gds : hx_col 100 h_179 qc 17 = F_gds := (hx_col_S hs hTo g_qc tt_45 tt_2 rfl rfl).trans cl_gds
  replace cl_szd : hx_col 100 h_179 qc 16 = F_szd := (hx_col_S hs hTo g_qc tt_45 tt_2 rfl rfl).trans cl_szd
  replace cl_srv : hx_col 100 h_179 qc 18 = F_srv := (hx_col_S hs hTo g_qc tt_45 tt_2 rfl rfl).trans cl_srv
  replace fw_157 : hx_col 40 h_179 qp 7 = w_157 := (hx_col_S hs hTo g_qp tt_44 tt_4 rfl rfl).trans fw_157
  replace fw_158 : hx_col 40 h_179 qp 8 = w_158 := (hx_col_S hs hTo g_qp tt_44 tt_4 rfl rfl).trans fw_158
  replace fw_159 : hx_col 40 h_179 qp 5 = w_159 := (hx_col_S hs hTo g_qp tt_44 tt_4 rfl rfl).trans fw_159
  replace fw_160 : hx_col 40 h_179 qp 6 = w_160 := (hx_col_S hs hTo g_qp tt_44 tt_4 rfl rfl).trans fw_160
  replace fw_161 : hx_col 40 h_179 qp 1 = w_161 := (hx_col_S hs hTo g_qp tt_44 tt_4 rfl rfl).trans fw_161
  replace fw_162 : hx_col 40 h_179 qp 2 = w_162 := (hx_col_S hs hTo g_qp tt_44 tt_4 rfl rfl).trans fw_162
  replace fw_163 : hx_col 40 h_179 qp 3 = w_163 := (hx_col_S hs hTo g_qp tt_44 tt_4 rfl rfl).trans fw_163
  replace fw_164 : hx_col 40 h_179 qp 4 = w_164 := (hx_col_S hs hTo g_qp tt_44 tt_4 rfl rfl).trans fw_164
  replace nu_qc : hx_num 100 h_179 qc 0 (c0.toInt) := hx_num_S hs hTo g_qc tt_45 tt_2 rfl rfl nu_qc
  replace nu_165 : hx_num 40 h_179 qp 0 (w_156.toInt) := hx_num_S hs hTo g_qp tt_44 tt_4 rfl rfl nu_165
  replace sb_list : hx_LQ 8 100 h_179 ql qc := hx_LQ_S hs g_ql g_qc rfl rfl sb_list
  replace hRA9 : hv_RA h_179 qa qwo a0.toInt A9 := hv_RA_S hs hTo g_qa g_qwo tt_43 tt_0 rfl rfl rfl rfl rfl rfl ?o99 hRA9
  case o99 => omega
  replace hAC9 : hv_AC h_179 qc F_ml c0.toInt A9 := hv_AC_S hs hTo g_qc tt_45 tt_2 rfl tt_0 rfl rfl rfl rfl rfl rfl rfl hAC9
  replace hFX : hv_FX 8 4 h_179 qc cF9L c0.toInt := hv_FX_S hs hTo g_qc tt_45 tt_2 rfl rfl rfl rfl hFX
  replace hBX : hv_FX 3 5 h_179 qc F_be c0.toInt := hv_FX_S hs hTo g_qc tt_45 tt_2 rfl rfl rfl rfl hBX
  replace hHL : hv_HL h_179 qh qc F_ho m0.toInt c0.toInt := hv_HL_S hs g_qh g_qc rfl rfl hHL
  replace hDFp : hw_DF h_179 qc qp 2 F_aga c0.toInt := hw_DF_S hs hTo g_qc g_qp tt_45 tt_2 rfl rfl rfl hDFp
  replace hDPp : hw_DF h_179 qc qp 1 F_by c0.toInt := hw_DF_S hs hTo g_qc g_qp tt_45 tt_2 rfl rfl rfl hDPp
  replace n_mw : h_179.2.1 mw = F_mw := (funext fun j => (hs.a g_mw rfl j).1).trans n_mw
  replace n_mr : h_179.2.1 mr = F_mr := (funext fun j => (hs.a g_mr rfl j).1).trans n_mr
  replace n_mp : h_179.2.1 mp = F_mp := (funext fun j => (hs.a g_mp rfl j).1).trans n_mp
  replace n_mn : h_179.2.1 mn = F_mn := (funext fun j => (hs.a g_mn rfl j).1).trans n_mn
  replace n_ml : h_179.2.1 ml = F_ml := (funext fun j => (hs.a g_ml rfl j).1).trans n_ml
  replace n_mh : h_179.2.1 mh = F_mh := (funext fun j => (hs.a g_mh rfl j).1).trans n_mh
  replace n_mt : h_179.2.1 mt = F_mt := (funext fun j => (hs.a g_mt rfl j).1).trans n_mt
  replace n_m_fou : h_179.2.1 m_fou = F_m_fou := (funext fun j => (hs.a g_m_fou rfl j).1).trans n_m_fou
  replace n_b_of : h_179.2.1 b_of = B_of := (funext fun j => (hs.a g_b_of rfl j).1).trans n_b_of
  replace n_m_of : h_179.2.1 m_of = F_of := (funext fun j => (hs.a g_m_of rfl j).1).trans n_m_of
  replace n_b_wf : h_179.2.1 b_wf = B_wf := (funext fun j => (hs.a g_b_wf rfl j).1).trans n_b_wf
  replace n_m_wf : h_179.2.1 m_wf = F_wf := (funext fun j => (hs.a g_m_wf rfl j).1).trans n_m_wf
  replace n_b_df : h_179.2.1 b_df = B_df := (funext fun j => (hs.a g_b_df rfl j).1).trans n_b_df
  replace n_m_df : h_179.2.1 m_df = F_df := (funext fun j => (hs.a g_m_df rfl j).1).trans n_m_df
  replace n_b_kf : h_179.2.1 b_kf = B_kf := (funext fun j => (hs.a g_b_kf rfl j).1).trans n_b_kf
  replace n_m_kf : h_179.2.1 m_kf = F_kf := (funext fun j => (hs.a g_m_kf rfl j).1).trans n_m_kf
  replace n_b_sf : h_179.2.1 b_sf = B_sf := (funext fun j => (hs.a g_b_sf rfl j).1).trans n_b_sf
  replace n_m_sf : h_179.2.1 m_sf = F_sf := (funext fun j => (hs.a g_m_sf rfl j).1).trans n_m_sf
  replace n_b_bf : h_179.2.1 b_bf = bfL := (funext fun j => (hs.a g_b_bf rfl j).1).trans n_b_bf
  replace n_lst : h_179.2.1 m_lst = F_lst := (funext fun j => (hs.a g_m_lst rfl j).1).trans n_lst
  replace n_tp : h_179.2.1 m_tp = F_tp := (funext fun j => (hs.a g_m_tp rfl j).1).trans n_tp
  replace n_qtp : h_179.2.1 qtp = F_tp := (funext fun j => (hs.a g_qtp rfl j).1).trans n_qtp
  replace n_dead : h_179.2.1 m_dead = F_dead := (funext fun j => (hs.a g_m_dead rfl j).1).trans n_dead
  replace n_isj : h_179.2.1 m_isj = F_isj := (funext fun j => (hs.a g_m_isj rfl j).1).trans n_isj
  replace n_qlt : h_179.2.1 qlt = F_qlt := (funext fun j => (hs.a g_qlt rfl j).1).trans n_qlt
  replace n_m_wkd : h_179.2.1 m_wkd = F_m_wkd := (funext fun j => (hs.a g_m_wkd rfl j).1).trans n_m_wkd
  replace n_aga : h_179.2.1 m_aga = F_aga := (funext fun j => (hs.a g_m_aga rfl j).1).trans n_aga
  replace n_ad : h_179.2.1 m_ad = F_ad := (funext fun j => (hs.a g_m_ad rfl j).1).trans n_ad
  replace n_by : h_179.2.1 m_by = F_by := (funext fun j => (hs.a g_m_by rfl j).1).trans n_by
  replace n_ho : h_179.2.1 m_ho = F_ho := (funext fun j => (hs.a g_m_ho rfl j).1).trans n_ho
  replace n_fc : h_179.2.1 m_fc = F_fc := (funext fun j => (hs.a g_m_fc rfl j).1).trans n_fc
  replace n_nt : h_179.2.1 m_nt = F_nt := (funext fun j => (hs.a g_m_nt rfl j).1).trans n_nt
  replace n_wt : h_179.2.1 m_wt = F_wt := (funext fun j => (hs.a g_m_wt rfl j).1).trans n_wt
  replace n_be : h_179.2.1 m_be = F_be := (funext fun j => (hs.a g_m_be rfl j).1).trans n_be
  replace n_sum : h_179.2.1 m_sum = F_sum := (funext fun j => (hs.a g_m_sum rfl j).1).trans n_sum
  replace n_fro : h_179.2.1 m_fro = F_fro := (funext fun j => (hs.a g_m_fro rfl j).1).trans n_fro
  replace n_fil : h_179.2.1 m_fil = F_fil := (funext fun j => (hs.a g_m_fil rfl j).1).trans n_fil
  replace n_jud : h_179.2.1 m_jud = F_jud := (funext fun j => (hs.a g_m_jud rfl j).1).trans n_jud
  replace n_ord : h_179.2.1 m_ord = F_ord := (funext fun j => (hs.a g_m_ord rfl j).1).trans n_ord
  replace n_wkl : h_179.2.1 m_wkl = F_wkl := (funext fun j => (hs.a g_m_wkl rfl j).1).trans n_wkl
  replace n_owd : h_179.2.1 m_owd = F_owd := (funext fun j => (hs.a g_m_owd rfl j).1).trans n_owd
  replace n_gds : h_179.2.1 m_gds = F_gds := (funext fun j => (hs.a g_m_gds rfl j).1).trans n_gds
  replace n_szd : h_179.2.1 m_szd = F_szd := (funext fun j => (hs.a g_m_szd rfl j).1).trans n_szd
  replace n_srv : h_179.2.1 m_srv = F_srv := (funext fun j => (hs.a g_m_srv rfl j).1).trans n_srv
  replace n_p0 : h_179.2.1 m_p0 = F_p0 := (funext fun j => (hs.a g_m_p0 rfl j).1).trans n_p0
  replace n_y_p0 : h_179.2.1 y_p0 = F_p0 := (funext fun j => (hs.a g_y_p0 rfl j).1).trans n_y_p0
  replace n_p1 : h_179.2.1 m_p1 = F_p1 := (funext fun j => (hs.a g_m_p1 rfl j).1).trans n_p1
  replace n_y_p1 : h_179.2.1 y_p1 = F_p1 := (funext fun j => (hs.a g_y_p1 rfl j).1).trans n_y_p1
  replace n_p2 : h_179.2.1 m_p2 = F_p2 := (funext fun j => (hs.a g_m_p2 rfl j).1).trans n_p2
  replace n_y_p2 : h_179.2.1 y_p2 = F_p2 := (funext fun j => (hs.a g_y_p2 rfl j).1).trans n_y_p2
  replace n_p3 : h_179.2.1 m_p3 = F_p3 := (funext fun j => (hs.a g_m_p3 rfl j).1).trans n_p3
  replace n_y_p3 : h_179.2.1 y_p3 = F_p3 := (funext fun j => (hs.a g_y_p3 rfl j).1).trans n_y_p3
  replace n_p4 : h_179.2.1 m_p4 = F_p4 := (funext fun j => (hs.a g_m_p4 rfl j).1).trans n_p4
  replace n_y_p4 : h_179.2.1 y_p4 = F_p4 := (funext fun j => (hs.a g_y_p4 rfl j).1).trans n_y_p4
  replace n_y_ls : h_179.2.1 y_ls = F_y_ls := (funext fun j => (hs.a g_y_ls rfl j).1).trans n_y_ls
  replace n_m_rl : h_179.2.1 m_rl = F_m_rl := (funext fun j => (hs.a g_m_rl rfl j).1).trans n_m_rl
  replace gx := gx.S hs
  replace gm := gm.S hs
  replace g_qa := g_qa.S hs
  replace g_qp := g_qp.S hs
  replace g_qc := g_qc.S hs
  replace g_qh := g_qh.S hs
  replace g_qw := g_qw.S hs
  replace g_ql := g_ql.S hs
  replace g_mw := g_mw.S hs
  replace g_mr := g_mr.S hs
  replace g_mp := g_mp.S hs
  replace g_mn := g_mn.S hs
  replace g_ml := g_ml.S hs
  replace g_mh := g_mh.S hs
  replace g_mt := g_mt.S hs
  replace g_m_fou := g_m_fou.S hs
  replace g_qo_ln := g_qo_ln.S hs
  replace g_qo_py := g_qo_py.S hs
  replace g_b_of := g_b_of.S hs
  replace g_m_of := g_m_of.S hs
  replace g_b_wf := g_b_wf.S hs
  replace g_m_wf := g_m_wf.S hs
  replace g_b_df := g_b_df.S hs
  replace g_m_df := g_m_df.S hs
  replace g_b_kf := g_b_kf.S hs
  replace g_m_kf := g_m_kf.S hs
  replace g_b_sf := g_b_sf.S hs
  replace g_m_sf := g_m_sf.S hs
  replace g_b_bf := g_b_bf.S hs
  replace g_m_lst := g_m_lst.S hs
  replace g_qtp := g_qtp.S hs
  replace g_m_tp := g_m_tp.S hs
  replace g_m_dead := g_m_dead.S hs
  replace g_m_isj := g_m_isj.S hs
  replace g_m_dox := g_m_dox.S hs
  replace g_m_doy := g_m_doy.S hs
  replace g_qlt := g_qlt.S hs
  replace g_qlf := g_qlf.S hs
  replace g_m_wkd := g_m_wkd.S hs
  replace g_m_aga := g_m_aga.S hs
  replace g_qwo := g_qwo.S hs
  replace g_m_ad := g_m_ad.S hs
  replace g_m_by := g_m_by.S hs
  replace g_m_ho := g_m_ho.S hs
  replace g_m_fc := g_m_fc.S hs
  replace g_m_nt := g_m_nt.S hs
  replace g_m_wt := g_m_wt.S hs
  replace g_m_be := g_m_be.S hs
  replace g_m_bor := g_m_bor.S hs
  replace g_m_kin := g_m_kin.S hs
  replace g_m_sum := g_m_sum.S hs
  replace g_m_fro := g_m_fro.S hs
  replace g_m_fil := g_m_fil.S hs
  replace g_m_jud := g_m_jud.S hs
  replace g_m_ear := g_m_ear.S hs
  replace g_m_hds := g_m_hds.S hs
  replace g_m_ord := g_m_ord.S hs
  replace g_m_wkl := g_m_wkl.S hs
  replace g_m_owd := g_m_owd.S hs
  replace g_m_gds := g_m_gds.S hs
  replace g_m_szd := g_m_szd.S hs
  replace g_m_srv := g_m_srv.S hs
  replace g_y_p0 := g_y_p0.S hs
  replace g_m_p0 := g_m_p0.S hs
  replace g_y_p1 := g_y_p1.S hs
  replace g_m_p1 := g_m_p1.S hs
  replace g_y_p2 := g_y_p2.S hs
  replace g_m_p2 := g_m_p2.S hs
  replace g_y_p3 := g_y_p3.S hs
  replace g_m_p3 := g_m_p3.S hs
  replace g_y_p4 := g_y_p4.S hs
  replace g_m_p4 := g_m_p4.S hs
  replace g_qrg9 := g_qrg9.S hs
  replace g_y_ls := g_y_ls.S hs
  replace g_m_rl := g_m_rl.S hs
  have fw_183 : h_179.2.1 am 20 = w_183 := fw_183
  have bw_183 := hT.gi gm tt_10 (k := 20) rfl
  rw [fw_183] at bw_183
  have bw_183 : 0 ≤ w_183.toInt ∧ w_183.toInt ≤ 40 := bw_183
  have fw_184 : h_179.2.1 m_dox = w_184 := fw_184
  have fw_185 : h_179.2.1 m_doy = w_185 := fw_185
  have fw_186 : h_179.2.1 m_bor = w_186 := fw_186
  have fw_187 : h_179.2.1 m_kin = w_187 := fw_187
  have fw_188 : h_179.2.1 m_ear = w_188 := fw_188
  have fw_189 : h_179.2.1 m_hds = w_189 := fw_189
  obtain ⟨hr_182a, hr_182b⟩ := hr_182
  refine lv_pop hx hb dL_law_408 rfl ?_
  refine lv_goto (tgt := 1379) hx hb dL_law_409 ?o100 ?_
  case o100 => decide
  obtain ⟨heq, hq_np⟩ := hx_pk hr_154a.1 hr_182a.1
  have hq_dox := hx_cdk heq hr_154a.2.2.2.1 hr_182a.2.1 eq_dox; have hq_doy := hx_cdk heq hr_154a.2.2.2.2.1 hr_182a.2.2.1 eq_doy
  have hq_dead := hx_pdk hr_154a.2.1 eq_dead z_dead
  have hq_isj := hx_pdk hr_154a.2.2.1 eq_isj z_isj
  have hq_bor := hv_cdf heq hr_154a.2.2.2.2.2.1 hr_182a.2.2.2.1; have hq_kin := hv_cdf heq hr_154a.2.2.2.2.2.2.1 hr_182a.2.2.2.2
  have hq_ear := hv_cdf heq hr_154b.1 hr_182b.1; have hq_hds := hv_cdf heq hr_154b.2 hr_182b.2
  refine W.widen (k := CC + 3) (n := SS + 179) ?o101 ?o102 ?_
  case o101 => omega
  case o102 => omega
  refine kk L_178 h_179 H locs ls hW ⟨hT, gx, gm, ⟨f_x_now.trans f_m_now.symm, (fw_156.trans hq_np).trans fw_183.symm, f_x_claimCount.trans f_m_claims.symm, f_x_tapeLength.trans f_m_taped.symm, f_x_actCount.trans f_m_acts.symm, f_x_heardCount.trans f_m_heardMany.symm, hx_ob f_qo_ln (f_o_ln.trans f_m_lines.symm), hx_ob f_qw (f_o_lsd.trans f_m_listed.symm), hx_ob f_qw (f_o_wkm.trans f_m_walkedMany.symm), hx_ob f_qo_py (f_o_py.trans f_m_payments.symm), hx_ob f_qp ?o103, hx_ob f_qc ?o104, (fun b a r hb ha hr => ?o105), (fun b a r hb ha hr => ?o106), (fun b a r hb ha hr => ?o107), (fun b a r hb ha hr => ?o108), (fun b a r hb ha hr => ?o109), (fun b a r hb ha hr => ?o110), (fun w q c hw hq hc => ?o111), (fun w q r hw hq hr => ?o112), (fun w q r hw hq hr => ?o113), (fun c q a hc hq ha => ?o114), (fun q r hq hr => ?o115), (fun q w a b c d e p hq hw ha hb hc hd he hp => ?o116), (fun c q a hc hq ha => ?o117), (fun q c a hq hc ha => ?o118), (fun a b ha hb => ?o119), (fun c a b d e f hc ha hb hd he hf => ?o120), (fun c a hc ha => ?o121), hx_ob2 f_qp f_m_bor ((fw_161.trans hq_bor).trans fw_186.symm), hx_ob2 f_qp f_m_kin ((fw_162.trans hq_kin).trans fw_187.symm), hx_ob2 f_qc f_m_sum (cl_sum.trans n_sum.symm), hx_ob2 f_qc f_m_fro (cl_fro.trans n_fro.symm), hx_ob2 f_qc f_m_fil (cl_fil.trans n_fil.symm), hx_ob2 f_qc f_mh (cl_hea.trans n_mh.symm), hx_ob2 f_qc f_m_jud (cl_jud.trans n_jud.symm), hx_ob2 f_qp f_m_ear ((fw_163.trans hq_ear).trans fw_188.symm), hx_ob2 f_qp f_m_hds ((fw_164.trans hq_hds).trans fw_189.symm), hx_ob2 f_qc f_m_ord (cl_ord.trans n_ord.symm), hx_ob2 f_qc f_m_wkl (cl_wkl.trans n_wkl.symm), hx_ob2 f_qc f_m_owd (cl_owd.trans n_owd.symm), hx_ob2 f_qc f_m_gds (cl_gds.trans n_gds.symm), hx_ob2 f_qc f_m_szd (cl_szd.trans n_szd.symm), hx_ob2 f_qc f_m_srv (cl_srv.trans n_srv.symm), (fun p q r hp hq hr => ?o122), (fun p q r hp hq hr => ?o123), (fun p q r hp hq hr => ?o124), (fun p q r hp hq hr => ?o125), (fun p q r hp hq hr => ?o126), (fun p hp => ?o127), (fun p q r hp hq hr => ?o128), hx_ob2 f_qp f_m_dead ?o129, hx_ob2 f_qp f_m_isj ?o130, hx_ob2 f_qp f_m_dox ?o131, hx_ob2 f_qp f_m_doy ?o132, hx_ob2 f_qc f_m_fou ?o133, hx_ob2 f_qc f_mt ?o134, trivial⟩, ⟨hx_ob f_qa pf_qa, hx_ob f_qp pf_155, hx_ob f_qc pf_qc, hx_ob f_qh pf_qh, (fun w q hw hq => ?o135)⟩, ⟨hx_ob f_mw ?o136, hx_ob f_mr ?o137, hx_ob2 f_mp f_mn ?o138, hx_ob f_ml ?o139, hx_ob f_mh ?o140, hx_ob f_mt ?o141, hx_ob2 f_mh f_m_fou ?o143⟩⟩ hl
  case o103 =>
    rw [fw_156]
    exact nu_165
  case o104 =>
    rw [f_x_claimCount]
    exact nu_qc
  case o105 =>
    obtain rfl : qo_ln = b := Option.some.inj (f_qo_ln.symm.trans hb)
    obtain rfl : b_of = a := Option.some.inj (f_b_of.symm.trans ha)
    obtain rfl : m_of = r := Option.some.inj (f_m_of.symm.trans hr)
    rw [n_b_of, n_m_of, f_o_ln]
    exact eb_of
  case o106 =>
    obtain rfl : qo_ln = b := Option.some.inj (f_qo_ln.symm.trans hb)
    obtain rfl : b_wf = a := Option.some.inj (f_b_wf.symm.trans ha)
    obtain rfl : m_wf = r := Option.some.inj (f_m_wf.symm.trans hr)
    rw [n_b_wf, n_m_wf, f_o_ln]
    exact eb_wf
  case o107 =>
    obtain rfl : qo_ln = b := Option.some.inj (f_qo_ln.symm.trans hb)
    obtain rfl : b_df = a := Option.some.inj (f_b_df.symm.trans ha)
    obtain rfl : m_df = r := Option.some.inj (f_m_df.symm.trans hr)
    rw [n_b_df, n_m_df, f_o_ln]
    exact eb_df
  case o108 =>
    obtain rfl : qo_ln = b := Option.some.inj (f_qo_ln.symm.trans hb)
    obtain rfl : b_kf = a := Option.some.inj (f_b_kf.symm.trans ha)
    obtain rfl : m_kf = r := Option.some.inj (f_m_kf.symm.trans hr)
    rw [n_b_kf, n_m_kf, f_o_ln]
    exact eb_kf
  case o109 =>
    obtain rfl : qo_ln = b := Option.some.inj (f_qo_ln.symm.trans hb)
    obtain rfl : b_sf = a := Option.some.inj (f_b_sf.symm.trans ha)
    obtain rfl : m_sf = r := Option.some.inj (f_m_sf.symm.trans hr)
    rw [n_b_sf, n_m_sf, f_o_ln]
    exact eb_sf
  case o110 =>
    obtain rfl : qo_ln = b := Option.some.inj (f_qo_ln.symm.trans hb)
    obtain rfl : b_df = a := Option.some.inj (f_b_df.symm.trans ha)
    obtain rfl : b_bf = r := Option.some.inj (f_b_bf.symm.trans hr)
    rw [n_b_df, n_b_bf, f_o_ln]
    exact ⟨hBD, hDY⟩
  case o111 =>
    obtain rfl : qw = w := Option.some.inj (f_qw.symm.trans hw)
    obtain rfl : ql = q := Option.some.inj (f_ql.symm.trans hq)
    obtain rfl : qc = c := Option.some.inj (f_qc.symm.trans hc)
    exact sb_list
  case o112 =>
    obtain rfl : qw = w := Option.some.inj (f_qw.symm.trans hw)
    obtain rfl : ql = q := Option.some.inj (f_ql.symm.trans hq)
    obtain rfl : m_lst = r := Option.some.inj (f_m_lst.symm.trans hr)
    rw [cl_lst, n_lst]
    exact eq_lst
  case o113 =>
    obtain rfl : qw = w := Option.some.inj (f_qw.symm.trans hw)
    obtain rfl : qlt = q := Option.some.inj (f_qlt.symm.trans hq)
    obtain rfl : m_wkd = r := Option.some.inj (f_m_wkd.symm.trans hr)
    rw [n_qlt, n_m_wkd, f_o_wkm]
    exact eb_wkd
  case o114 =>
    obtain rfl : qc = c := Option.some.inj (f_qc.symm.trans hc)
    obtain rfl : qp = q := Option.some.inj (f_qp.symm.trans hq)
    obtain rfl : m_aga = a := Option.some.inj (f_m_aga.symm.trans ha)
    rw [n_aga, f_x_claimCount]
    exact hw_DF_e hDFp rfl rfl
  case o115 =>
    obtain rfl : qtp = q := Option.some.inj (f_qtp.symm.trans hq)
    obtain rfl : m_tp = r := Option.some.inj (f_m_tp.symm.trans hr)
    exact n_qtp.trans n_tp.symm
  case o116 =>
    obtain rfl : qa = q := Option.some.inj (f_qa.symm.trans hq)
    obtain rfl : qwo = w := Option.some.inj (f_qwo.symm.trans hw)
    obtain rfl : m_ad = a := Option.some.inj (f_m_ad.symm.trans ha)
    obtain rfl : mr = b := Option.some.inj (f_mr.symm.trans hb)
    obtain rfl : mn = c := Option.some.inj (f_mn.symm.trans hc)
    obtain rfl : mp = d := Option.some.inj (f_mp.symm.trans hd)
    obtain rfl : qc = e := Option.some.inj (f_qc.symm.trans he)
    obtain rfl : ml = p := Option.some.inj (f_ml.symm.trans hp)
    exact ⟨_, by rw [f_x_actCount]; exact hRA9, by rw [f_x_actCount, n_ad, n_mr, n_mn, n_mp]; exact hCA9, by rw [n_ml, f_x_claimCount]; exact hv_AC_e hAC9 rfl rfl rfl, hAB⟩
  case o117 =>
    obtain rfl : qc = c := Option.some.inj (f_qc.symm.trans hc)
    obtain rfl : qp = q := Option.some.inj (f_qp.symm.trans hq)
    obtain rfl : m_by = a := Option.some.inj (f_m_by.symm.trans ha)
    rw [n_by, f_x_claimCount]
    exact hw_DF_e hDPp rfl rfl
  case o118 =>
    obtain rfl : qh = q := Option.some.inj (f_qh.symm.trans hq)
    obtain rfl : qc = c := Option.some.inj (f_qc.symm.trans hc)
    obtain rfl : m_ho = a := Option.some.inj (f_m_ho.symm.trans ha)
    rw [n_ho, f_x_heardCount, f_x_claimCount]
    exact hv_HL_e hHL rfl rfl rfl
  case o119 =>
    obtain rfl : m_ho = a := Option.some.inj (f_m_ho.symm.trans ha)
    obtain rfl : mh = b := Option.some.inj (f_mh.symm.trans hb)
    rw [n_ho, n_mh, f_m_heardMany, f_m_claims]
    exact hHO9
  case o120 =>
    obtain rfl : qc = c := Option.some.inj (f_qc.symm.trans hc)
    obtain rfl : m_fc = a := Option.some.inj (f_m_fc.symm.trans ha)
    obtain rfl : m_nt = b := Option.some.inj (f_m_nt.symm.trans hb)
    obtain rfl : m_wt = d := Option.some.inj (f_m_wt.symm.trans hd)
    obtain rfl : m_sum = e := Option.some.inj (f_m_sum.symm.trans he)
    obtain rfl : mh = f := Option.some.inj (f_mh.symm.trans hf)
    exact ⟨cF9L, by rw [f_x_claimCount]; exact hFX, by rw [n_fc, n_nt, n_wt, n_sum, n_mh, f_x_claimCount]; exact hFR9⟩
  case o121 =>
    obtain rfl : qc = c := Option.some.inj (f_qc.symm.trans hc)
    obtain rfl : m_be = a := Option.some.inj (f_m_be.symm.trans ha)
    rw [n_be, f_x_claimCount]
    exact hv_FX_e hBX rfl rfl
  case o122 =>
    obtain rfl : qo_py = p := Option.some.inj (f_qo_py.symm.trans hp)
    obtain rfl : y_p0 = q := Option.some.inj (f_y_p0.symm.trans hq)
    obtain rfl : m_p0 = r := Option.some.inj (f_m_p0.symm.trans hr)
    exact n_y_p0.trans n_p0.symm
  case o123 =>
    obtain rfl : qo_py = p := Option.some.inj (f_qo_py.symm.trans hp)
    obtain rfl : y_p1 = q := Option.some.inj (f_y_p1.symm.trans hq)
    obtain rfl : m_p1 = r := Option.some.inj (f_m_p1.symm.trans hr)
    exact n_y_p1.trans n_p1.symm
  case o124 =>
    obtain rfl : qo_py = p := Option.some.inj (f_qo_py.symm.trans hp)
    obtain rfl : y_p2 = q := Option.some.inj (f_y_p2.symm.trans hq)
    obtain rfl : m_p2 = r := Option.some.inj (f_m_p2.symm.trans hr)
    exact n_y_p2.trans n_p2.symm
  case o125 =>
    obtain rfl : qo_py = p := Option.some.inj (f_qo_py.symm.trans hp)
    obtain rfl : y_p3 = q := Option.some.inj (f_y_p3.symm.trans hq)
    obtain rfl : m_p3 = r := Option.some.inj (f_m_p3.symm.trans hr)
    exact n_y_p3.trans n_p3.symm
  case o126 =>
    obtain rfl : qo_py = p := Option.some.inj (f_qo_py.symm.trans hp)
    obtain rfl : y_p4 = q := Option.some.inj (f_y_p4.symm.trans hq)
    obtain rfl : m_p4 = r := Option.some.inj (f_m_p4.symm.trans hr)
    exact n_y_p4.trans n_p4.symm
  case o127 =>
    obtain rfl : qrg9 = p := Option.some.inj (f_qrg9.symm.trans hp)
    rw [ffv_134, ffv_135, ffv_136]
    exact hNQ9
  case o128 =>
    obtain rfl : qrg9 = p := Option.some.inj (f_qrg9.symm.trans hp)
    obtain rfl : y_ls = q := Option.some.inj (f_y_ls.symm.trans hq)
    obtain rfl : m_rl = r := Option.some.inj (f_m_rl.symm.trans hr)
    rw [n_y_ls, n_m_rl, ffv_134]
    exact hRL9
  case o129 =>
    rw [fw_157, n_dead]
    exact hq_dead
  case o130 =>
    rw [fw_158, n_isj]
    exact hq_isj
  case o131 =>
    rw [fw_159, fw_184]
    exact hq_dox
  case o132 =>
    rw [fw_160, fw_185]
    exact hq_doy
  case o133 =>
    rw [cl_fou, n_m_fou]
    exact eq_fou
  case o134 =>
    rw [cl_tri, n_mt]
    exact eq_tri
  case o135 =>
    obtain rfl : qw = w := Option.some.inj (f_qw.symm.trans hw)
    obtain rfl : ql = q := Option.some.inj (f_ql.symm.trans hq)
    exact pf_ql
  case o136 =>
    rw [n_mw]
    exact hwd
  case o137 =>
    rw [n_mr, f_m_acts]
    exact hWK
  case o138 =>
    rw [n_mp, n_mn, f_m_acts]
    exact hRP
  case o139 =>
    rw [n_ml, f_m_claims, f_m_acts]
    exact hPL
  case o140 =>
    rw [n_mh, f_m_heardMany, f_m_claims]
    exact hHC
  case o141 =>
    rw [n_mt]
    refine (hx_TR_le hTR ?o142)
    case o142 => omega
  case o143 =>
    rw [n_mh, n_m_fou, f_m_claims]
    exact hHF

set_option maxHeartbeats 4000000 in
set_option maxRecDepth 100000 in
theorem law_case_6 {p : Program} {e : Env} {s : State} {m : MethodId} {below : List Frame} {meth : Method} {c : Code} (l : Launch) {b LN : Nat} {xs : Nat → Int32} (hx : p.tables.exec = Jvm.exec) (hb : c.code = code) (hr : meth.sig.returnType = ret) (hlocks : meth.locks = false) (hml : c.maxLocals = 4) (hown : s.vm.findClass "SmallCourtLaw" = some m.cls) (hts : ∀ w ∈ hx_all, w.before #[Value.ref b] s = true) (hX : va_X b LN xs s s.heap) (hbl : b < s.heap.size) (hbA : ¬ s.heap.size ≤ b) (hLN : LN ≤ 3584) (dC : Nat → ClassId) (dI : Nat → Nat → Nat) (dA : Nat → ClassId) (b0 : hx_z) (ax am : Nat) (T1 : Int) (hT0 : 0 ≤ T1) (hT1 : T1 ≤ 511) (i : Int32) (hi0 : 0 ≤ i.toInt) (hiL : i.toInt + 7 ≤ LN) (CC SS : Nat) (hCC : CC + 3 ≤ 600000) (hSS : SS + 179 ≤ 7302250) (L1 : List Nat) (hl1 : hx_h) (H : Heap) (locs : List Loc) (ls : Array Slot) (hW : hx_W T_tb (P_ty dA) (dC, dI) vwCl (fun q : Nat => s.heap.size ≤ q) s.heap L1 hl1 s H locs) (hZ : hx_Xt (fun q : Nat => s.heap.size ≤ q) b0 s) (hI : hx_IV T1 ax am L1 hl1) (hl : lv_has ls 4 [(3, .int i), (2, .ref am), (1, .ref ax), (0, .ref b)]) (kk : ∀ (L2 : List Nat) (h2 : hx_h) (H2 : Heap) (locs2 : List Loc) (ls2 : Array Slot), hx_W T_tb (P_ty dA) (dC, dI) vwCl (fun q : Nat => s.heap.size ≤ q) s.heap L2 h2 s H2 locs2 → hx_IV (T1 + 1) ax am L2 h2 → lv_has ls2 4 [(3, .int i), (2, .ref am), (1, .ref ax), (0, .ref b)] → W p l e room_1 s m #[Value.ref b] below meth c H2 locs2 (CC + 3) (SS + 179) (lw_Z below #[Value.ref b] s) (F0 m 1379 ls2 [])) : W p l e room_1 s m #[Value.ref b] below meth c H locs CC SS (lw_Z below #[Value.ref b] s) (F0 m 412 ls []) := by
  have hI9 := hI
  have hT := hI9.1
  replace hI9 := hI9.2
  have gx := hI9.1
  replace hI9 := hI9.2
  have gm := hI9.1
  replace hI9 := hI9.2
  have zq0_3 := hI9.1
  have he_nw := zq0_3.1
  replace zq0_3 := zq0_3.2
  have he_np := zq0_3.1
  replace zq0_3 := zq0_3.2
  have he_c0 := zq0_3.1
  replace zq0_3 := zq0_3.2
  have he_tl := zq0_3.1
  replace zq0_3 := zq0_3.2
  have he_a0 := zq0_3.1
  replace zq0_3 := zq0_3.2
  have he_m0 := zq0_3.1
  replace zq0_3 := zq0_3.2
  have ho_ln := zq0_3.1
  replace zq0_3 := zq0_3.2
  have ho_lsd := zq0_3.1
  replace zq0_3 := zq0_3.2
  have ho_wkm := zq0_3.1
  replace zq0_3 := zq0_3.2
  have ho_py := zq0_3.1
  replace zq0_3 := zq0_3.2
  have hn_qp := zq0_3.1
  replace zq0_3 := zq0_3.2
  have hn_qc := zq0_3.1
  replace zq0_3 := zq0_3.2
  have hk_of := zq0_3.1
  replace zq0_3 := zq0_3.2
  have hk_wf := zq0_3.1
  replace zq0_3 := zq0_3.2
  have hk_df := zq0_3.1
  replace zq0_3 := zq0_3.2
  have hk_kf := zq0_3.1
  replace zq0_3 := zq0_3.2
  have hk_sf := zq0_3.1
  replace zq0_3 := zq0_3.2
  have hkBD := zq0_3.1
  replace zq0_3 := zq0_3.2
  have hLQ := zq0_3.1
  replace zq0_3 := zq0_3.2
  have hLE := zq0_3.1
  replace zq0_3 := zq0_3.2
  have hkWD := zq0_3.1
  replace zq0_3 := zq0_3.2
  have hkDF := zq0_3.1
  replace zq0_3 := zq0_3.2
  have hkTP := zq0_3.1
  replace zq0_3 := zq0_3.2
  have hkAC := zq0_3.1
  replace zq0_3 := zq0_3.2
  have hkDP := zq0_3.1
  replace zq0_3 := zq0_3.2
  have hkHL := zq0_3.1
  replace zq0_3 := zq0_3.2
  have hkHO := zq0_3.1
  replace zq0_3 := zq0_3.2
  have hkFX := zq0_3.1
  replace zq0_3 := zq0_3.2
  have hkBX := zq0_3.1
  replace zq0_3 := zq0_3.2
  have hf_bor := zq0_3.1
  replace zq0_3 := zq0_3.2
  have hf_kin := zq0_3.1
  replace zq0_3 := zq0_3.2
  have hf_sum := zq0_3.1
  replace zq0_3 := zq0_3.2
  have hf_fro := zq0_3.1
  replace zq0_3 := zq0_3.2
  have hf_fil := zq0_3.1
  replace zq0_3 := zq0_3.2
  have hf_hea := zq0_3.1
  replace zq0_3 := zq0_3.2
  have hf_jud := zq0_3.1
  replace zq0_3 := zq0_3.2
  have hf_ear := zq0_3.1
  replace zq0_3 := zq0_3.2
  have hf_hds := zq0_3.1
  replace zq0_3 := zq0_3.2
  have hf_ord := zq0_3.1
  replace zq0_3 := zq0_3.2
  have hf_wkl := zq0_3.1
  replace zq0_3 := zq0_3.2
  have hf_owd := zq0_3.1
  replace zq0_3 := zq0_3.2
  have hf_gds := zq0_3.1
  replace zq0_3 := zq0_3.2
  have hf_szd := zq0_3.1
  replace zq0_3 := zq0_3.2
  have hf_srv := zq0_3.1
  replace zq0_3 := zq0_3.2
  have hkP0 := zq0_3.1
  replace zq0_3 := zq0_3.2
  have hkP1 := zq0_3.1
  replace zq0_3 := zq0_3.2
  have hkP2 := zq0_3.1
  replace zq0_3 := zq0_3.2
  have hkP3 := zq0_3.1
  replace zq0_3 := zq0_3.2
  have hkP4 := zq0_3.1
  replace zq0_3 := zq0_3.2
  have hkNQ := zq0_3.1
  replace zq0_3 := zq0_3.2
  have hkRL := zq0_3.1
  replace zq0_3 := zq0_3.2
  have hc_dead := zq0_3.1
  replace zq0_3 := zq0_3.2
  have hc_isj := zq0_3.1
  replace zq0_3 := zq0_3.2
  have hc_dox := zq0_3.1
  replace zq0_3 := zq0_3.2
  have hc_doy := zq0_3.1
  replace zq0_3 := zq0_3.2
  have hc_fou := zq0_3.1
  replace zq0_3 := zq0_3.2
  have hc_tri := zq0_3.1
  replace zq0_3 := zq0_3.2
  replace hI9 := hI9.2
  have zq0_4 := hI9.1
  have ia := zq0_4.1
  replace zq0_4 := zq0_4.2
  have ip := zq0_4.1
  replace zq0_4 := zq0_4.2
  have ic := zq0_4.1
  replace zq0_4 := zq0_4.2
  have ih := zq0_4.1
  replace zq0_4 := zq0_4.2
  have il := zq0_4
  replace hI9 := hI9.2
  have zq0_5 := hI9
  have jw := zq0_5.1
  replace zq0_5 := zq0_5.2
  have jr := zq0_5.1
  replace zq0_5 := zq0_5.2
  have jp := zq0_5.1
  replace zq0_5 := zq0_5.2
  have jl := zq0_5.1
  replace zq0_5 := zq0_5.2
  have jh := zq0_5.1
  replace zq0_5 := zq0_5.2
  have jt := zq0_5.1
  replace zq0_5 := zq0_5.2
  have jf := zq0_5
  obtain ⟨qa, f_qa, g_qa⟩ := hx_rf hT gx tt_9 (k := 5) (u := 43) rfl
  have pf_qa := ia qa f_qa
  obtain ⟨qp, f_qp, g_qp⟩ := hx_rf hT gx tt_9 (k := 7) (u := 44) rfl
  have pf_qp := ip qp f_qp
  obtain ⟨qc, f_qc, g_qc⟩ := hx_rf hT gx tt_9 (k := 10) (u := 45) rfl
  have pf_qc := ic qc f_qc
  obtain ⟨qh, f_qh, g_qh⟩ := hx_rf hT gx tt_9 (k := 12) (u := 46) rfl
  have pf_qh := ih qh f_qh
  obtain ⟨qw, f_qw, g_qw⟩ := hx_rf hT gx tt_9 (k := 19) (u := 8) rfl
  obtain ⟨ql, f_ql, g_ql⟩ := hx_rf hT g_qw tt_8 (k := 3) (u := 40) rfl
  have pf_ql := il qw ql f_qw f_ql
  obtain ⟨nw, f_m_now⟩ : ∃ y : Int32, hl1.2.1 am 0 = y := ⟨_, rfl⟩
  have b_nw := hT.gi gm tt_10 (k := 0) rfl
  rw [f_m_now] at b_nw
  have b_nw : 0 ≤ nw.toInt ∧ nw.toInt ≤ 7999 := b_nw
  obtain ⟨np, f_m_persons⟩ : ∃ y : Int32, hl1.2.1 am 20 = y := ⟨_, rfl⟩
  have b_np := hT.gi gm tt_10 (k := 20) rfl
  rw [f_m_persons] at b_np
  have b_np : 0 ≤ np.toInt ∧ np.toInt ≤ 40 := b_np
  obtain ⟨c0, f_m_claims⟩ : ∃ y : Int32, hl1.2.1 am 36 = y := ⟨_, rfl⟩
  have b_c0 := hT.gi gm tt_10 (k := 36) rfl
  rw [f_m_claims] at b_c0
  have b_c0 : 0 ≤ c0.toInt ∧ c0.toInt ≤ 100 := b_c0
  obtain ⟨tl, f_m_taped⟩ : ∃ y : Int32, hl1.2.1 am 7 = y := ⟨_, rfl⟩
  have b_tl := hT.gi gm tt_10 (k := 7) rfl
  rw [f_m_taped] at b_tl
  have b_tl : 0 ≤ tl.toInt ∧ tl.toInt ≤ 400 := b_tl
  obtain ⟨a0, f_m_acts⟩ : ∃ y : Int32, hl1.2.1 am 1 = y := ⟨_, rfl⟩
  have b_a0 := hT.gi gm tt_10 (k := 1) rfl
  rw [f_m_acts] at b_a0
  have b_a0 : 0 ≤ a0.toInt ∧ a0.toInt ≤ 8 := b_a0
  obtain ⟨m0, f_m_heardMany⟩ : ∃ y : Int32, hl1.2.1 am 57 = y := ⟨_, rfl⟩
  have b_m0 := hT.gi gm tt_10 (k := 57) rfl
  rw [f_m_heardMany] at b_m0
  have b_m0 : 0 ≤ m0.toInt ∧ m0.toInt ≤ 100 := b_m0
  obtain ⟨ln, f_m_lines⟩ : ∃ y : Int32, hl1.2.1 am 29 = y := ⟨_, rfl⟩
  have b_ln := hT.gi gm tt_10 (k := 29) rfl
  rw [f_m_lines] at b_ln
  have b_ln : 0 ≤ ln.toInt ∧ ln.toInt ≤ 400 := b_ln
  obtain ⟨lsd, f_m_listed⟩ : ∃ y : Int32, hl1.2.1 am 90 = y := ⟨_, rfl⟩
  have b_lsd := hT.gi gm tt_10 (k := 90) rfl
  rw [f_m_listed] at b_lsd
  have b_lsd : 0 ≤ lsd.toInt ∧ lsd.toInt ≤ 8 := b_lsd
  obtain ⟨wkm, f_m_walkedMany⟩ : ∃ y : Int32, hl1.2.1 am 92 = y := ⟨_, rfl⟩
  have b_wkm := hT.gi gm tt_10 (k := 92) rfl
  rw [f_m_walkedMany] at b_wkm
  have b_wkm : 0 ≤ wkm.toInt ∧ wkm.toInt ≤ 8 := b_wkm
  obtain ⟨py, f_m_payments⟩ : ∃ y : Int32, hl1.2.1 am 59 = y := ⟨_, rfl⟩
  have b_py := hT.gi gm tt_10 (k := 59) rfl
  rw [f_m_payments] at b_py
  have b_py : 0 ≤ py.toInt ∧ py.toInt ≤ 600 := b_py
  have f_x_now : hl1.2.1 ax 2 = nw := he_nw.trans f_m_now
  have f_x_personCount : hl1.2.1 ax 8 = np := he_np.trans f_m_persons
  have f_x_claimCount : hl1.2.1 ax 11 = c0 := he_c0.trans f_m_claims
  have f_x_tapeLength : hl1.2.1 ax 1 = tl := he_tl.trans f_m_taped
  have f_x_actCount : hl1.2.1 ax 6 = a0 := he_a0.trans f_m_acts
  have f_x_heardCount : hl1.2.1 ax 13 = m0 := he_m0.trans f_m_heardMany
  obtain ⟨mw, f_mw, g_mw⟩ := hx_rf hT gm tt_10 (k := 19) (u := 57) rfl
  obtain ⟨F_mw, n_mw⟩ : ∃ g : Nat → Int32, hl1.2.1 mw = g := ⟨_, rfl⟩
  obtain ⟨mr, f_mr, g_mr⟩ := hx_rf hT gm tt_10 (k := 3) (u := 50) rfl
  obtain ⟨F_mr, n_mr⟩ : ∃ g : Nat → Int32, hl1.2.1 mr = g := ⟨_, rfl⟩
  obtain ⟨mp, f_mp, g_mp⟩ := hx_rf hT gm tt_10 (k := 5) (u := 52) rfl
  obtain ⟨F_mp, n_mp⟩ : ∃ g : Nat → Int32, hl1.2.1 mp = g := ⟨_, rfl⟩
  obtain ⟨mn, f_mn, g_mn⟩ := hx_rf hT gm tt_10 (k := 4) (u := 51) rfl
  obtain ⟨F_mn, n_mn⟩ : ∃ g : Nat → Int32, hl1.2.1 mn = g := ⟨_, rfl⟩
  obtain ⟨ml, f_ml, g_ml⟩ := hx_rf hT gm tt_10 (k := 44) (u := 79) rfl
  obtain ⟨F_ml, n_ml⟩ : ∃ g : Nat → Int32, hl1.2.1 ml = g := ⟨_, rfl⟩
  obtain ⟨mh, f_mh, g_mh⟩ := hx_rf hT gm tt_10 (k := 47) (u := 82) rfl
  obtain ⟨F_mh, n_mh⟩ : ∃ g : Nat → Int32, hl1.2.1 mh = g := ⟨_, rfl⟩
  obtain ⟨mt, f_mt, g_mt⟩ := hx_rf hT gm tt_10 (k := 45) (u := 80) rfl
  obtain ⟨F_mt, n_mt⟩ : ∃ g : Nat → Int32, hl1.2.1 mt = g := ⟨_, rfl⟩
  obtain ⟨m_fou, f_m_fou, g_m_fou⟩ := hx_rf hT gm tt_10 (k := 46) (u := 81) rfl
  obtain ⟨F_m_fou, n_m_fou⟩ : ∃ g : Nat → Int32, hl1.2.1 m_fou = g := ⟨_, rfl⟩
  obtain ⟨qo_ln, f_qo_ln, g_qo_ln⟩ := hx_rf hT gx tt_9 (k := 9) (u := 1) rfl
  have f_o_ln : hl1.2.1 qo_ln 0 = ln := (ho_ln qo_ln f_qo_ln).trans f_m_lines
  have f_o_lsd : hl1.2.1 qw 0 = lsd := (ho_lsd qw f_qw).trans f_m_listed
  have f_o_wkm : hl1.2.1 qw 1 = wkm := (ho_wkm qw f_qw).trans f_m_walkedMany
  obtain ⟨qo_py, f_qo_py, g_qo_py⟩ := hx_rf hT gx tt_9 (k := 14) (u := 3) rfl
  have f_o_py : hl1.2.1 qo_py 0 = py := (ho_py qo_py f_qo_py).trans f_m_payments
  have nu_qp := hn_qp qp f_qp; rw [f_x_personCount] at nu_qp
  have nu_qc := hn_qc qc f_qc; rw [f_x_claimCount] at nu_qc
  obtain ⟨b_of, f_b_of, g_b_of⟩ := hx_rf hT g_qo_ln tt_1 (k := 1) (u := 13) rfl
  obtain ⟨B_of, n_b_of⟩ : ∃ g : Nat → Int32, hl1.2.1 b_of = g := ⟨_, rfl⟩
  obtain ⟨m_of, f_m_of, g_m_of⟩ := hx_rf hT gm tt_10 (k := 30) (u := 66) rfl
  obtain ⟨F_of, n_m_of⟩ : ∃ g : Nat → Int32, hl1.2.1 m_of = g := ⟨_, rfl⟩
  have eb_of := hk_of qo_ln b_of m_of f_qo_ln f_b_of f_m_of; rw [n_b_of, n_m_of, f_o_ln] at eb_of
  obtain ⟨b_wf, f_b_wf, g_b_wf⟩ := hx_rf hT g_qo_ln tt_1 (k := 2) (u := 14) rfl
  obtain ⟨B_wf, n_b_wf⟩ : ∃ g : Nat → Int32, hl1.2.1 b_wf = g := ⟨_, rfl⟩
  obtain ⟨m_wf, f_m_wf, g_m_wf⟩ := hx_rf hT gm tt_10 (k := 31) (u := 67) rfl
  obtain ⟨F_wf, n_m_wf⟩ : ∃ g : Nat → Int32, hl1.2.1 m_wf = g := ⟨_, rfl⟩
  have eb_wf := hk_wf qo_ln b_wf m_wf f_qo_ln f_b_wf f_m_wf; rw [n_b_wf, n_m_wf, f_o_ln] at eb_wf
  obtain ⟨b_df, f_b_df, g_b_df⟩ := hx_rf hT g_qo_ln tt_1 (k := 3) (u := 15) rfl
  obtain ⟨B_df, n_b_df⟩ : ∃ g : Nat → Int32, hl1.2.1 b_df = g := ⟨_, rfl⟩
  obtain ⟨m_df, f_m_df, g_m_df⟩ := hx_rf hT gm tt_10 (k := 32) (u := 68) rfl
  obtain ⟨F_df, n_m_df⟩ : ∃ g : Nat → Int32, hl1.2.1 m_df = g := ⟨_, rfl⟩
  have eb_df := hk_df qo_ln b_df m_df f_qo_ln f_b_df f_m_df; rw [n_b_df, n_m_df, f_o_ln] at eb_df
  obtain ⟨b_kf, f_b_kf, g_b_kf⟩ := hx_rf hT g_qo_ln tt_1 (k := 4) (u := 16) rfl
  obtain ⟨B_kf, n_b_kf⟩ : ∃ g : Nat → Int32, hl1.2.1 b_kf = g := ⟨_, rfl⟩
  obtain ⟨m_kf, f_m_kf, g_m_kf⟩ := hx_rf hT gm tt_10 (k := 33) (u := 69) rfl
  obtain ⟨F_kf, n_m_kf⟩ : ∃ g : Nat → Int32, hl1.2.1 m_kf = g := ⟨_, rfl⟩
  have eb_kf := hk_kf qo_ln b_kf m_kf f_qo_ln f_b_kf f_m_kf; rw [n_b_kf, n_m_kf, f_o_ln] at eb_kf
  obtain ⟨b_sf, f_b_sf, g_b_sf⟩ := hx_rf hT g_qo_ln tt_1 (k := 5) (u := 17) rfl
  obtain ⟨B_sf, n_b_sf⟩ : ∃ g : Nat → Int32, hl1.2.1 b_sf = g := ⟨_, rfl⟩
  obtain ⟨m_sf, f_m_sf, g_m_sf⟩ := hx_rf hT gm tt_10 (k := 34) (u := 70) rfl
  obtain ⟨F_sf, n_m_sf⟩ : ∃ g : Nat → Int32, hl1.2.1 m_sf = g := ⟨_, rfl⟩
  have eb_sf := hk_sf qo_ln b_sf m_sf f_qo_ln f_b_sf f_m_sf; rw [n_b_sf, n_m_sf, f_o_ln] at eb_sf
  obtain ⟨b_bf, f_b_bf, g_b_bf⟩ := hx_rf hT g_qo_ln tt_1 (k := 6) (u := 18) rfl
  obtain ⟨bfL, n_b_bf⟩ : ∃ g : Nat → Int32, hl1.2.1 b_bf = g := ⟨_, rfl⟩
  obtain ⟨hBD, hDY⟩ := hkBD qo_ln b_df b_bf f_qo_ln f_b_df f_b_bf; rw [n_b_df, n_b_bf, f_o_ln] at hBD; rw [n_b_df, f_o_ln] at hDY
  have hBDm := hy_BD_c eb_df hBD
  have hDYm : hy_DY F_df ln.toInt.toNat := fun x hx => by rw [← eb_df x hx]; exact hDY x hx
  have sb_list := hLQ qw ql qc f_qw f_ql f_qc
  obtain ⟨m_lst, f_m_lst, g_m_lst⟩ := hx_rf hT gm tt_10 (k := 91) (u := 112) rfl
  obtain ⟨F_lst, n_lst⟩ : ∃ g : Nat → Int32, hl1.2.1 m_lst = g := ⟨_, rfl⟩
  obtain ⟨c_lst, cl_lst⟩ : ∃ g : Nat → Int32, hx_col 8 hl1 ql 0 = g := ⟨_, rfl⟩
  have eq_lst := hLE qw ql m_lst f_qw f_ql f_m_lst; rw [cl_lst, n_lst] at eq_lst
  obtain ⟨qtp, f_qtp, g_qtp⟩ := hx_rf hT gx tt_9 (k := 0) (u := 42) rfl
  obtain ⟨m_tp, f_m_tp, g_m_tp⟩ := hx_rf hT gm tt_10 (k := 6) (u := 53) rfl
  obtain ⟨F_tp, n_tp⟩ : ∃ g : Nat → Int32, hl1.2.1 m_tp = g := ⟨_, rfl⟩
  have n_qtp : hl1.2.1 qtp = F_tp := (hkTP qtp m_tp f_qtp f_m_tp).trans n_tp
  obtain ⟨c_dead, cl_dead⟩ : ∃ g : Nat → Int32, hx_col 40 hl1 qp 7 = g := ⟨_, rfl⟩
  obtain ⟨m_dead, f_m_dead, g_m_dead⟩ := hx_rf hT gm tt_10 (k := 27) (u := 64) rfl
  obtain ⟨F_dead, n_dead⟩ : ∃ g : Nat → Int32, hl1.2.1 m_dead = g := ⟨_, rfl⟩
  have eq_dead := hc_dead qp m_dead f_qp f_m_dead; rw [cl_dead, n_dead] at eq_dead
  have z_dead : np.toInt.toNat < 40 → c_dead np.toInt.toNat = 0 := fun hj => hx_num_z nu_qp cl_dead hj ?o0
  case o0 => omega
  obtain ⟨c_isj, cl_isj⟩ : ∃ g : Nat → Int32, hx_col 40 hl1 qp 8 = g := ⟨_, rfl⟩
  obtain ⟨m_isj, f_m_isj, g_m_isj⟩ := hx_rf hT gm tt_10 (k := 28) (u := 65) rfl
  obtain ⟨F_isj, n_isj⟩ : ∃ g : Nat → Int32, hl1.2.1 m_isj = g := ⟨_, rfl⟩
  have eq_isj := hc_isj qp m_isj f_qp f_m_isj; rw [cl_isj, n_isj] at eq_isj
  have z_isj : np.toInt.toNat < 40 → c_isj np.toInt.toNat = 0 := fun hj => hx_num_z nu_qp cl_isj hj ?o1
  case o1 => omega
  obtain ⟨c_dox, cl_dox⟩ : ∃ g : Nat → Int32, hx_col 40 hl1 qp 5 = g := ⟨_, rfl⟩
  obtain ⟨m_dox, f_m_dox, g_m_dox⟩ := hx_rf hT gm tt_10 (k := 24) (u := 61) rfl
  obtain ⟨F_dox, n_dox⟩ : ∃ g : Nat → Int32, hl1.2.1 m_dox = g := ⟨_, rfl⟩
  have eq_dox := hc_dox qp m_dox f_qp f_m_dox; rw [cl_dox, n_dox] at eq_dox
  have z_dox : np.toInt.toNat < 40 → c_dox np.toInt.toNat = 0 := fun hj => hx_num_z nu_qp cl_dox hj ?o2
  case o2 => omega
  obtain ⟨c_doy, cl_doy⟩ : ∃ g : Nat → Int32, hx_col 40 hl1 qp 6 = g := ⟨_, rfl⟩
  obtain ⟨m_doy, f_m_doy, g_m_doy⟩ := hx_rf hT gm tt_10 (k := 25) (u := 62) rfl
  obtain ⟨F_doy, n_doy⟩ : ∃ g : Nat → Int32, hl1.2.1 m_doy = g := ⟨_, rfl⟩
  have eq_doy := hc_doy qp m_doy f_qp f_m_doy; rw [cl_doy, n_doy] at eq_doy
  have z_doy : np.toInt.toNat < 40 → c_doy np.toInt.toNat = 0 := fun hj => hx_num_z nu_qp cl_doy hj ?o3
  case o3 => omega
  obtain ⟨c_fou, cl_fou⟩ : ∃ g : Nat → Int32, hx_col 100 hl1 qc 10 = g := ⟨_, rfl⟩
  have eq_fou := hc_fou qc m_fou f_qc f_m_fou; rw [cl_fou, n_m_fou] at eq_fou
  have z_fou : c0.toInt.toNat < 100 → c_fou c0.toInt.toNat = 0 := fun hj => hx_num_z nu_qc cl_fou hj ?o4
  case o4 => omega
  obtain ⟨c_tri, cl_tri⟩ : ∃ g : Nat → Int32, hx_col 100 hl1 qc 9 = g := ⟨_, rfl⟩
  have eq_tri := hc_tri qc mt f_qc f_mt; rw [cl_tri, n_mt] at eq_tri
  have z_tri : c0.toInt.toNat < 100 → c_tri c0.toInt.toNat = 0 := fun hj => hx_num_z nu_qc cl_tri hj ?o5
  case o5 => omega
  obtain ⟨qlt, f_qlt, g_qlt⟩ := hx_rf hT g_qw tt_8 (k := 2) (u := 39) rfl
  obtain ⟨qlf, f_qlf, g_qlf⟩ := hx_rf hT g_qw tt_8 (k := 4) (u := 41) rfl
  obtain ⟨m_wkd, f_m_wkd, g_m_wkd⟩ := hx_rf hT gm tt_10 (k := 93) (u := 113) rfl
  obtain ⟨F_qlt, n_qlt⟩ : ∃ g : Nat → Int32, hl1.2.1 qlt = g := ⟨_, rfl⟩
  obtain ⟨F_m_wkd, n_m_wkd⟩ : ∃ g : Nat → Int32, hl1.2.1 m_wkd = g := ⟨_, rfl⟩
  have eb_wkd := hkWD qw qlt m_wkd f_qw f_qlt f_m_wkd; rw [n_qlt, n_m_wkd, f_o_wkm] at eb_wkd
  obtain ⟨m_aga, f_m_aga, g_m_aga⟩ := hx_rf hT gm tt_10 (k := 38) (u := 73) rfl
  obtain ⟨F_aga, n_aga⟩ : ∃ g : Nat → Int32, hl1.2.1 m_aga = g := ⟨_, rfl⟩
  have hDF := hkDF qc qp m_aga f_qc f_qp f_m_aga; rw [n_aga, f_x_claimCount] at hDF
  obtain ⟨qwo, f_qwo, g_qwo⟩ := hx_rf hT gx tt_9 (k := 4) (u := 0) rfl
  obtain ⟨m_ad, f_m_ad, g_m_ad⟩ := hx_rf hT gm tt_10 (k := 2) (u := 49) rfl
  obtain ⟨F_ad, n_ad⟩ : ∃ g : Nat → Int32, hl1.2.1 m_ad = g := ⟨_, rfl⟩
  obtain ⟨A9, hRA9, hCA9, hAC9, hAB⟩ := hkAC qa qwo m_ad mr mn mp qc ml f_qa f_qwo f_m_ad f_mr f_mn f_mp f_qc f_ml
  rw [f_x_actCount] at hRA9; rw [f_x_actCount, n_ad, n_mr, n_mn, n_mp] at hCA9
  obtain ⟨m_by, f_m_by, g_m_by⟩ := hx_rf hT gm tt_10 (k := 37) (u := 72) rfl
  obtain ⟨F_by, n_by⟩ : ∃ g : Nat → Int32, hl1.2.1 m_by = g := ⟨_, rfl⟩
  obtain ⟨m_ho, f_m_ho, g_m_ho⟩ := hx_rf hT gm tt_10 (k := 58) (u := 92) rfl
  obtain ⟨F_ho, n_ho⟩ : ∃ g : Nat → Int32, hl1.2.1 m_ho = g := ⟨_, rfl⟩
  obtain ⟨m_fc, f_m_fc, g_m_fc⟩ := hx_rf hT gm tt_10 (k := 53) (u := 88) rfl
  obtain ⟨F_fc, n_fc⟩ : ∃ g : Nat → Int32, hl1.2.1 m_fc = g := ⟨_, rfl⟩
  obtain ⟨m_nt, f_m_nt, g_m_nt⟩ := hx_rf hT gm tt_10 (k := 41) (u := 76) rfl
  obtain ⟨F_nt, n_nt⟩ : ∃ g : Nat → Int32, hl1.2.1 m_nt = g := ⟨_, rfl⟩
  obtain ⟨m_wt, f_m_wt, g_m_wt⟩ := hx_rf hT gm tt_10 (k := 42) (u := 77) rfl
  obtain ⟨F_wt, n_wt⟩ : ∃ g : Nat → Int32, hl1.2.1 m_wt = g := ⟨_, rfl⟩
  obtain ⟨m_be, f_m_be, g_m_be⟩ := hx_rf hT gm tt_10 (k := 52) (u := 87) rfl
  obtain ⟨F_be, n_be⟩ : ∃ g : Nat → Int32, hl1.2.1 m_be = g := ⟨_, rfl⟩
  obtain ⟨m_bor, f_m_bor, g_m_bor⟩ := hx_rf hT gm tt_10 (k := 21) (u := 58) rfl
  obtain ⟨F_bor, n_bor⟩ : ∃ g : Nat → Int32, hl1.2.1 m_bor = g := ⟨_, rfl⟩
  obtain ⟨m_kin, f_m_kin, g_m_kin⟩ := hx_rf hT gm tt_10 (k := 26) (u := 63) rfl
  obtain ⟨F_kin, n_kin⟩ : ∃ g : Nat → Int32, hl1.2.1 m_kin = g := ⟨_, rfl⟩
  obtain ⟨m_sum, f_m_sum, g_m_sum⟩ := hx_rf hT gm tt_10 (k := 39) (u := 74) rfl
  obtain ⟨F_sum, n_sum⟩ : ∃ g : Nat → Int32, hl1.2.1 m_sum = g := ⟨_, rfl⟩
  obtain ⟨m_fro, f_m_fro, g_m_fro⟩ := hx_rf hT gm tt_10 (k := 40) (u := 75) rfl
  obtain ⟨F_fro, n_fro⟩ : ∃ g : Nat → Int32, hl1.2.1 m_fro = g := ⟨_, rfl⟩
  obtain ⟨m_fil, f_m_fil, g_m_fil⟩ := hx_rf hT gm tt_10 (k := 43) (u := 78) rfl
  obtain ⟨F_fil, n_fil⟩ : ∃ g : Nat → Int32, hl1.2.1 m_fil = g := ⟨_, rfl⟩
  obtain ⟨m_jud, f_m_jud, g_m_jud⟩ := hx_rf hT gm tt_10 (k := 51) (u := 86) rfl
  obtain ⟨F_jud, n_jud⟩ : ∃ g : Nat → Int32, hl1.2.1 m_jud = g := ⟨_, rfl⟩
  obtain ⟨m_ear, f_m_ear, g_m_ear⟩ := hx_rf hT gm tt_10 (k := 22) (u := 59) rfl
  obtain ⟨F_ear, n_ear⟩ : ∃ g : Nat → Int32, hl1.2.1 m_ear = g := ⟨_, rfl⟩
  obtain ⟨m_hds, f_m_hds, g_m_hds⟩ := hx_rf hT gm tt_10 (k := 23) (u := 60) rfl
  obtain ⟨F_hds, n_hds⟩ : ∃ g : Nat → Int32, hl1.2.1 m_hds = g := ⟨_, rfl⟩
  obtain ⟨m_ord, f_m_ord, g_m_ord⟩ := hx_rf hT gm tt_10 (k := 48) (u := 83) rfl
  obtain ⟨F_ord, n_ord⟩ : ∃ g : Nat → Int32, hl1.2.1 m_ord = g := ⟨_, rfl⟩
  obtain ⟨m_wkl, f_m_wkl, g_m_wkl⟩ := hx_rf hT gm tt_10 (k := 54) (u := 89) rfl
  obtain ⟨F_wkl, n_wkl⟩ : ∃ g : Nat → Int32, hl1.2.1 m_wkl = g := ⟨_, rfl⟩
  obtain ⟨m_owd, f_m_owd, g_m_owd⟩ := hx_rf hT gm tt_10 (k := 55) (u := 90) rfl
  obtain ⟨F_owd, n_owd⟩ : ∃ g : Nat → Int32, hl1.2.1 m_owd = g := ⟨_, rfl⟩
  obtain ⟨m_gds, f_m_gds, g_m_gds⟩ := hx_rf hT gm tt_10 (k := 56) (u := 91) rfl
  obtain ⟨F_gds, n_gds⟩ : ∃ g : Nat → Int32, hl1.2.1 m_gds = g := ⟨_, rfl⟩
  obtain ⟨m_szd, f_m_szd, g_m_szd⟩ := hx_rf hT gm tt_10 (k := 49) (u := 84) rfl
  obtain ⟨F_szd, n_szd⟩ : ∃ g : Nat → Int32, hl1.2.1 m_szd = g := ⟨_, rfl⟩
  obtain ⟨m_srv, f_m_srv, g_m_srv⟩ := hx_rf hT gm tt_10 (k := 50) (u := 85) rfl
  obtain ⟨F_srv, n_srv⟩ : ∃ g : Nat → Int32, hl1.2.1 m_srv = g := ⟨_, rfl⟩
  have cl_bor : hx_col 40 hl1 qp 1 = F_bor := (hf_bor qp m_bor f_qp f_m_bor).trans n_bor
  have cl_kin : hx_col 40 hl1 qp 2 = F_kin := (hf_kin qp m_kin f_qp f_m_kin).trans n_kin
  have cl_sum : hx_col 100 hl1 qc 6 = F_sum := (hf_sum qc m_sum f_qc f_m_sum).trans n_sum
  have cl_fro : hx_col 100 hl1 qc 7 = F_fro := (hf_fro qc m_fro f_qc f_m_fro).trans n_fro
  have cl_fil : hx_col 100 hl1 qc 8 = F_fil := (hf_fil qc m_fil f_qc f_m_fil).trans n_fil
  have cl_hea : hx_col 100 hl1 qc 11 = F_mh := (hf_hea qc mh f_qc f_mh).trans n_mh
  have cl_jud : hx_col 100 hl1 qc 12 = F_jud := (hf_jud qc m_jud f_qc f_m_jud).trans n_jud
  have cl_ear : hx_col 40 hl1 qp 3 = F_ear := (hf_ear qp m_ear f_qp f_m_ear).trans n_ear
  have cl_hds : hx_col 40 hl1 qp 4 = F_hds := (hf_hds qp m_hds f_qp f_m_hds).trans n_hds
  have cl_ord : hx_col 100 hl1 qc 13 = F_ord := (hf_ord qc m_ord f_qc f_m_ord).trans n_ord
  have cl_wkl : hx_col 100 hl1 qc 14 = F_wkl := (hf_wkl qc m_wkl f_qc f_m_wkl).trans n_wkl
  have cl_owd : hx_col 100 hl1 qc 15 = F_owd := (hf_owd qc m_owd f_qc f_m_owd).trans n_owd
  have cl_gds : hx_col 100 hl1 qc 17 = F_gds := (hf_gds qc m_gds f_qc f_m_gds).trans n_gds
  have cl_szd : hx_col 100 hl1 qc 16 = F_szd := (hf_szd qc m_szd f_qc f_m_szd).trans n_szd
  have cl_srv : hx_col 100 hl1 qc 18 = F_srv := (hf_srv qc m_srv f_qc f_m_srv).trans n_srv
  have htb9 : ∀ c, c < 100 → 0 ≤ (c_tri c).toInt ∧ (c_tri c).toInt ≤ 512 := fun c hc => by rw [eq_tri c hc]; have w := hT.ei g_mt tt_80 (k := c) hc; rw [n_mt] at w; exact w
  have z_jud : F_jud c0.toInt.toNat = 0 := hx_num_z2 nu_qc cl_jud ?o6
  case o6 => omega
  have hDP := hkDP qc qp m_by f_qc f_qp f_m_by; rw [n_by, f_x_claimCount] at hDP
  have hHL := hkHL qh qc m_ho f_qh f_qc f_m_ho; rw [n_ho, f_x_heardCount, f_x_claimCount] at hHL
  have hHO9 := hkHO m_ho mh f_m_ho f_mh; rw [n_ho, n_mh, f_m_heardMany, f_m_claims] at hHO9
  obtain ⟨cF9L, hFX, hFR9⟩ := hkFX qc m_fc m_nt m_wt m_sum mh f_qc f_m_fc f_m_nt f_m_wt f_m_sum f_mh; rw [f_x_claimCount] at hFX; rw [n_fc, n_nt, n_wt, n_sum, n_mh, f_x_claimCount] at hFR9
  have hBX := hkBX qc m_be f_qc f_m_be; rw [n_be, f_x_claimCount] at hBX
  rw [n_ml, f_x_claimCount] at hAC9
  obtain ⟨y_p0, f_y_p0, g_y_p0⟩ := hx_rf hT g_qo_py tt_3 (k := 2) (u := 23) rfl
  obtain ⟨m_p0, f_m_p0, g_m_p0⟩ := hx_rf hT gm tt_10 (k := 60) (u := 93) rfl
  obtain ⟨F_p0, n_p0⟩ : ∃ g : Nat → Int32, hl1.2.1 m_p0 = g := ⟨_, rfl⟩
  have n_y_p0 : hl1.2.1 y_p0 = F_p0 := (hkP0 qo_py y_p0 m_p0 f_qo_py f_y_p0 f_m_p0).trans n_p0
  obtain ⟨y_p1, f_y_p1, g_y_p1⟩ := hx_rf hT g_qo_py tt_3 (k := 3) (u := 24) rfl
  obtain ⟨m_p1, f_m_p1, g_m_p1⟩ := hx_rf hT gm tt_10 (k := 61) (u := 94) rfl
  obtain ⟨F_p1, n_p1⟩ : ∃ g : Nat → Int32, hl1.2.1 m_p1 = g := ⟨_, rfl⟩
  have n_y_p1 : hl1.2.1 y_p1 = F_p1 := (hkP1 qo_py y_p1 m_p1 f_qo_py f_y_p1 f_m_p1).trans n_p1
  obtain ⟨y_p2, f_y_p2, g_y_p2⟩ := hx_rf hT g_qo_py tt_3 (k := 5) (u := 26) rfl
  obtain ⟨m_p2, f_m_p2, g_m_p2⟩ := hx_rf hT gm tt_10 (k := 62) (u := 95) rfl
  obtain ⟨F_p2, n_p2⟩ : ∃ g : Nat → Int32, hl1.2.1 m_p2 = g := ⟨_, rfl⟩
  have n_y_p2 : hl1.2.1 y_p2 = F_p2 := (hkP2 qo_py y_p2 m_p2 f_qo_py f_y_p2 f_m_p2).trans n_p2
  obtain ⟨y_p3, f_y_p3, g_y_p3⟩ := hx_rf hT g_qo_py tt_3 (k := 4) (u := 25) rfl
  obtain ⟨m_p3, f_m_p3, g_m_p3⟩ := hx_rf hT gm tt_10 (k := 63) (u := 96) rfl
  obtain ⟨F_p3, n_p3⟩ : ∃ g : Nat → Int32, hl1.2.1 m_p3 = g := ⟨_, rfl⟩
  have n_y_p3 : hl1.2.1 y_p3 = F_p3 := (hkP3 qo_py y_p3 m_p3 f_qo_py f_y_p3 f_m_p3).trans n_p3
  obtain ⟨y_p4, f_y_p4, g_y_p4⟩ := hx_rf hT g_qo_py tt_3 (k := 1) (u := 22) rfl
  obtain ⟨m_p4, f_m_p4, g_m_p4⟩ := hx_rf hT gm tt_10 (k := 64) (u := 97) rfl
  obtain ⟨F_p4, n_p4⟩ : ∃ g : Nat → Int32, hl1.2.1 m_p4 = g := ⟨_, rfl⟩
  have n_y_p4 : hl1.2.1 y_p4 = F_p4 := (hkP4 qo_py y_p4 m_p4 f_qo_py f_y_p4 f_m_p4).trans n_p4
  obtain ⟨qrg9, f_qrg9, g_qrg9⟩ := hx_rf hT gx tt_9 (k := 18) (u := 7) rfl
  obtain ⟨y_ls, f_y_ls, g_y_ls⟩ := hx_rf hT g_qrg9 tt_7 (k := 3) (u := 35) rfl
  obtain ⟨m_rl, f_m_rl, g_m_rl⟩ := hx_rf hT gm tt_10 (k := 85) (u := 109) rfl
  obtain ⟨F_y_ls, n_y_ls⟩ : ∃ g : Nat → Int32, hl1.2.1 y_ls = g := ⟨_, rfl⟩
  obtain ⟨F_m_rl, n_m_rl⟩ : ∃ g : Nat → Int32, hl1.2.1 m_rl = g := ⟨_, rfl⟩
  obtain ⟨fv_190, efv_190⟩ : ∃ y : Int32, y = hl1.2.1 qrg9 0 := ⟨_, rfl⟩
  have bfv_190 := hT.gi g_qrg9 tt_7 (k := 0) rfl
  rw [← efv_190] at bfv_190
  have bfv_190 : -1 ≤ fv_190.toInt ∧ fv_190.toInt ≤ 100 := bfv_190
  have ffv_190 := efv_190.symm
  obtain ⟨fv_191, efv_191⟩ : ∃ y : Int32, y = hl1.2.1 am 83 := ⟨_, rfl⟩
  have bfv_191 := hT.gi gm tt_10 (k := 83) rfl
  rw [← efv_191] at bfv_191
  have bfv_191 : 0 ≤ fv_191.toInt ∧ fv_191.toInt ≤ 1 := bfv_191
  have ffv_191 := efv_191.symm
  obtain ⟨fv_192, efv_192⟩ : ∃ y : Int32, y = hl1.2.1 am 84 := ⟨_, rfl⟩
  have bfv_192 := hT.gi gm tt_10 (k := 84) rfl
  rw [← efv_192] at bfv_192
  have bfv_192 : 0 ≤ fv_192.toInt ∧ fv_192.toInt ≤ 300 := bfv_192
  have ffv_192 := efv_192.symm
  have hNQ9 := hkNQ qrg9 f_qrg9; rw [ffv_190, ffv_191, ffv_192] at hNQ9
  have hRL9 := hkRL qrg9 y_ls m_rl f_qrg9 f_y_ls f_m_rl; rw [n_y_ls, n_m_rl, ffv_190] at hRL9
  have hCB : hz_CB F_ord F_wkl F_owd F_szd F_gds F_srv := fun c hc => ⟨by have w := hT.ei g_m_ord tt_83 (k := c) (by omega); rw [n_ord] at w; exact w, by have w := hT.ei g_m_wkl tt_89 (k := c) (by omega); rw [n_wkl] at w; exact w, by have w := hT.ei g_m_owd tt_90 (k := c) (by omega); rw [n_owd] at w; exact w, by have w := hT.ei g_m_szd tt_84 (k := c) (by omega); rw [n_szd] at w; exact w, by have w := hT.ei g_m_gds tt_91 (k := c) (by omega); rw [n_gds] at w; exact w, by have w := hT.ei g_m_srv tt_85 (k := c) (by omega); rw [n_srv] at w; exact w⟩
  have hps : ∀ j, j < 600 → 0 ≤ (F_p2 j).toInt ∧ (F_p2 j).toInt ≤ 610000 := fun j hj => by have w := hT.ei g_m_p2 tt_95 (k := j) (by omega); rw [n_p2] at w; exact w
  have hte9 : ∀ c : Nat, c < 100 → (0 ≤ (c_tri c).toInt ∧ (c_tri c).toInt ≤ 512) ∧ (0 ≤ (F_sum c).toInt ∧ (F_sum c).toInt ≤ 9999) := fun c hc => ⟨htb9 c hc, by have w := hT.ei g_m_sum tt_74 (k := c) (by omega); rw [n_sum] at w; exact w⟩
  have hee9 : ∀ c : Nat, c < 40 → (0 ≤ (F_ear c).toInt ∧ (F_ear c).toInt ≤ 9999) ∧ (0 ≤ (F_hds c).toInt ∧ (F_hds c).toInt ≤ 20) := fun c hc => ⟨by have w := hT.ei g_m_ear tt_59 (k := c) (by omega); rw [n_ear] at w; exact w, by have w := hT.ei g_m_hds tt_60 (k := c) (by omega); rw [n_hds] at w; exact w⟩
  have bAG9 : ∀ k, k < 100 → 0 ≤ (F_aga k).toInt ∧ (F_aga k).toInt ≤ 39 := fun k hk => by have w := hT.ei g_m_aga tt_73 (k := k) (by omega); rw [n_aga] at w; exact w
  have bBY9 : ∀ k, k < 100 → 0 ≤ (F_by k).toInt ∧ (F_by k).toInt ≤ 39 := fun k hk => by have w := hT.ei g_m_by tt_72 (k := k) (by omega); rw [n_by] at w; exact w
  have hag9 : ∀ c, c < c0.toInt.toNat → 0 ≤ (F_aga c).toInt ∧ (F_aga c).toInt < 40 ∧ 0 ≤ (F_by c).toInt ∧ (F_by c).toInt < 40 := fun c hc => by have a9 := bAG9 c (by omega); have b9 := bBY9 c (by omega); omega
  have z_wkl : F_wkl c0.toInt.toNat = 0 := hx_num_z2 nu_qc cl_wkl ?o7
  case o7 => omega
  have z_owd : F_owd c0.toInt.toNat = 0 := hx_num_z2 nu_qc cl_owd ?o8
  case o8 => omega
  have z_gds : F_gds c0.toInt.toNat = 0 := hx_num_z2 nu_qc cl_gds ?o9
  case o9 => omega
  have hwd := jw mw f_mw; rw [n_mw] at hwd
  have hWK := jr mr f_mr; rw [n_mr, f_m_acts] at hWK
  have hRP := jp mp mn f_mp f_mn; rw [n_mp, n_mn, f_m_acts] at hRP
  have hPL := jl ml f_ml; rw [n_ml, f_m_claims, f_m_acts] at hPL
  have hHC := jh mh f_mh; rw [n_mh, f_m_heardMany, f_m_claims] at hHC
  have hTR := jt mt f_mt; rw [n_mt] at hTR
  have hHF := jf mh m_fou f_mh f_m_fou; rw [n_mh, n_m_fou, f_m_claims] at hHF
  refine lv_aload_n hx hb dL_law_412 rfl (lv_at hl 2 rfl) ?_
  refine lv_aload_n hx hb dL_law_413 rfl (lv_at hl 3 rfl) ?_
  refine lv_iload_n hx hb dL_law_414 rfl (lv_at hl 0 rfl) ?_
  refine lv_iconst (v := 1) hx hb dL_law_415 ?o10 ?_
  case o10 => decide
  refine lv_iadd hx hb dL_law_416 ?_
  have rg_193 := i32_r i
  refine lv_topi (fun x_194 ex_194 => ?_)
  have zx_194 : x_194.toInt = i.toInt + 1 := ?o11
  case o11 =>
    rw [ex_194]
    refine i32_add rfl ?o12 ?o13 ?o14
    case o12 => decide
    case o13 => omega
    case o14 => omega
  refine va_sld hx hb hX hbl hbA hW.2.2.2.1 (vp_in_iff.mpr ⟨?o15, ?o16⟩) dL_law_417 ?_
  case o15 => omega
  case o16 => omega
  refine lv_topi (fun x_195 ex_195 => ?_)
  refine lv_aload_n hx hb dL_law_418 rfl (lv_at hl 3 rfl) ?_
  refine lv_iload_n hx hb dL_law_419 rfl (lv_at hl 0 rfl) ?_
  refine lv_iconst (v := 2) hx hb dL_law_420 ?o17 ?_
  case o17 => decide
  refine lv_iadd hx hb dL_law_421 ?_
  refine lv_topi (fun x_196 ex_196 => ?_)
  have zx_196 : x_196.toInt = i.toInt + 2 := ?o18
  case o18 =>
    rw [ex_196]
    refine i32_add rfl ?o19 ?o20 ?o21
    case o19 => decide
    case o20 => omega
    case o21 => omega
  refine va_sld hx hb hX hbl hbA hW.2.2.2.1 (vp_in_iff.mpr ⟨?o22, ?o23⟩) dL_law_422 ?_
  case o22 => omega
  case o23 => omega
  refine lv_topi (fun x_197 ex_197 => ?_)
  refine lv_aload_n hx hb dL_law_423 rfl (lv_at hl 3 rfl) ?_
  refine lv_iload_n hx hb dL_law_424 rfl (lv_at hl 0 rfl) ?_
  refine lv_iconst (v := 3) hx hb dL_law_425 ?o24 ?_
  case o24 => decide
  refine lv_iadd hx hb dL_law_426 ?_
  refine lv_topi (fun x_198 ex_198 => ?_)
  have zx_198 : x_198.toInt = i.toInt + 3 := ?o25
  case o25 =>
    rw [ex_198]
    refine i32_add rfl ?o26 ?o27 ?o28
    case o26 => decide
    case o27 => omega
    case o28 => omega
  refine va_sld hx hb hX hbl hbA hW.2.2.2.1 (vp_in_iff.mpr ⟨?o29, ?o30⟩) dL_law_427 ?_
  case o29 => omega
  case o30 => omega
  refine lv_topi (fun x_199 ex_199 => ?_)
  refine lv_aload_n hx hb dL_law_428 rfl (lv_at hl 3 rfl) ?_
  refine lv_iload_n hx hb dL_law_429 rfl (lv_at hl 0 rfl) ?_
  refine lv_iconst (v := 4) hx hb dL_law_430 ?o31 ?_
  case o31 => decide
  refine lv_iadd hx hb dL_law_431 ?_
  refine lv_topi (fun x_200 ex_200 => ?_)
  have zx_200 : x_200.toInt = i.toInt + 4 := ?o32
  case o32 =>
    rw [ex_200]
    refine i32_add rfl ?o33 ?o34 ?o35
    case o33 => decide
    case o34 => omega
    case o35 => omega
  refine va_sld hx hb hX hbl hbA hW.2.2.2.1 (vp_in_iff.mpr ⟨?o36, ?o37⟩) dL_law_432 ?_
  case o36 => omega
  case o37 => omega
  refine lv_topi (fun x_201 ex_201 => ?_)
  refine lv_aload_n hx hb dL_law_433 rfl (lv_at hl 3 rfl) ?_
  refine lv_iload_n hx hb dL_law_434 rfl (lv_at hl 0 rfl) ?_
  refine lv_iconst (v := 5) hx hb dL_law_435 ?o38 ?_
  case o38 => decide
  refine lv_iadd hx hb dL_law_436 ?_
  refine lv_topi (fun x_202 ex_202 => ?_)
  have zx_202 : x_202.toInt = i.toInt + 5 := ?o39
  case o39 =>
    rw [ex_202]
    refine i32_add rfl ?o40 ?o41 ?o42
    case o40 => decide
    case o41 => omega
    case o42 => omega
  refine va_sld hx hb hX hbl hbA hW.2.2.2.1 (vp_in_iff.mpr ⟨?o43, ?o44⟩) dL_law_437 ?_
  case o43 => omega
  case o44 => omega
  refine lv_topi (fun x_203 ex_203 => ?_)
  have hTo := hT
  refine hx_goi (hx_runV (As := [.int x_195, .int x_197, .int x_199, .int x_201, .int x_203]) (rest := []) ⟨hx, hb, hml, hown, hts⟩ hW gx tt_9 (T := TX9) (N := 20) rfl (t_X9_anew_2 l dC dI dA L1 hl1 H.size ax x_195 x_197 x_199 x_201 x_203 hT gx np f_x_personCount qp g_qp f_qp pf_qp c_dead cl_dead c_dox cl_dox c_doy cl_doy F_ear cl_ear F_hds cl_hds nu_qp) (cwV 5 hts (hx_gV kw_655 kw_652 kw_653 kw_654 kw_94) rfl rfl rfl (by decide +kernel) ⟨Nat.le_of_ble_eq_true rfl, Nat.le_of_ble_eq_true rfl⟩) rfl hl.1 rfl (Nat.le_of_ble_eq_true rfl) dL_law_438 ⟨(show CC + 0 ≤ 600000 from ?o45), (show SS + 0 ≤ 7302250 from ?o46)⟩) hW (fun r_206 L_204 h_205 H locs p_207 hW => ?_)
  case o45 => omega
  case o46 => omega
  obtain ⟨⟨w_209, w_210, w_211, w_212, fw_209, fw_210, fw_211, fw_212, hr_208⟩, hT, hs⟩ := p_207
  replace hT : hx_T T_tb L_204 h_205 := hT
  replace hs : hx_S T_tb [(4, 3), (4, 4), (4, 5), (4, 6)] L1 hl1 L_204 h_205 := hs
  replace f_qa := (hs.o gx trivial rfl).2.trans f_qa
  replace f_qp := (hs.o gx trivial rfl).2.trans f_qp
  replace f_qc := (hs.o gx trivial rfl).2.trans f_qc
  replace f_qh := (hs.o gx trivial rfl).2.trans f_qh
  replace f_qw := (hs.o gx trivial rfl).2.trans f_qw
  replace f_ql := (hs.o g_qw trivial rfl).2.trans f_ql
  replace f_m_now := (hs.o gm trivial rfl).1.trans f_m_now
  replace f_m_persons := (hs.o gm trivial rfl).1.trans f_m_persons
  replace f_m_claims := (hs.o gm trivial rfl).1.trans f_m_claims
  replace f_m_taped := (hs.o gm trivial rfl).1.trans f_m_taped
  replace f_m_acts := (hs.o gm trivial rfl).1.trans f_m_acts
  replace f_m_heardMany := (hs.o gm trivial rfl).1.trans f_m_heardMany
  replace f_m_lines := (hs.o gm trivial rfl).1.trans f_m_lines
  replace f_m_listed := (hs.o gm trivial rfl).1.trans f_m_listed
  replace f_m_walkedMany := (hs.o gm trivial rfl).1.trans f_m_walkedMany
  replace f_m_payments := (hs.o gm trivial rfl).1.trans f_m_payments
  replace f_x_now := (hs.o gx trivial rfl).1.trans f_x_now
  replace f_x_personCount := (hs.o gx trivial rfl).1.trans f_x_personCount
  replace f_x_claimCount := (hs.o gx trivial rfl).1.trans f_x_claimCount
  replace f_x_tapeLength := (hs.o gx trivial rfl).1.trans f_x_tapeLength
  replace f_x_actCount := (hs.o gx trivial rfl).1.trans f_x_actCount
  replace f_x_heardCount := (hs.o gx trivial rfl).1.trans f_x_heardCount
  replace f_mw := (hs.o gm trivial rfl).2.trans f_mw
  replace f_mr := (hs.o gm trivial rfl).2.trans f_mr
  replace f_mp := (hs.o gm trivial rfl).2.trans f_mp
  replace f_mn := (hs.o gm trivial rfl).2.trans f_mn
  replace f_ml := (hs.o gm trivial rfl).2.trans f_ml
  replace f_mh := (hs.o gm trivial rfl).2.trans f_mh
  replace f_mt := (hs.o gm trivial rfl).2.trans f_mt
  replace f_m_fou := (hs.o gm trivial rfl).2.trans f_m_fou
  replace f_qo_ln := (hs.o gx trivial rfl).2.trans f_qo_ln
  replace f_o_ln := (hs.o g_qo_ln trivial rfl).1.trans f_o_ln
  replace f_o_lsd := (hs.o g_qw trivial rfl).1.trans f_o_lsd
  replace f_o_wkm := (hs.o g_qw trivial rfl).1.trans f_o_wkm
  replace f_qo_py := (hs.o gx trivial rfl).2.trans f_qo_py
  replace f_o_py := (hs.o g_qo_py trivial rfl).1.trans f_o_py
  replace f_b_of := (hs.o g_qo_ln trivial rfl).2.trans f_b_of
  replace f_m_of := (hs.o gm trivial rfl).2.trans f_m_of
  replace f_b_wf := (hs.o g_qo_ln trivial rfl).2.trans f_b_wf
  replace f_m_wf := (hs.o gm trivial rfl).2.trans f_m_wf
  replace f_b_df := (hs.o g_qo_ln trivial rfl).2.trans f_b_df
  replace f_m_df := (hs.o gm trivial rfl).2.trans f_m_df
  replace f_b_kf := (hs.o g_qo_ln trivial rfl).2.trans f_b_kf
  replace f_m_kf := (hs.o gm trivial rfl).2.trans f_m_kf
  replace f_b_sf := (hs.o g_qo_ln trivial rfl).2.trans f_b_sf
  replace f_m_sf := (hs.o gm trivial rfl).2.trans f_m_sf
  replace f_b_bf := (hs.o g_qo_ln trivial rfl).2.trans f_b_bf
  replace f_m_lst := (hs.o gm trivial rfl).2.trans f_m_lst
  replace f_qtp := (hs.o gx trivial rfl).2.trans f_qtp
  replace f_m_tp := (hs.o gm trivial rfl).2.trans f_m_tp
  replace f_m_dead := (hs.o gm trivial rfl).2.trans f_m_dead
  replace f_m_isj := (hs.o gm trivial rfl).2.trans f_m_isj
  replace f_m_dox := (hs.o gm trivial rfl).2.trans f_m_dox
  replace f_m_doy := (hs.o gm trivial rfl).2.trans f_m_doy
  replace f_qlt := (hs.o g_qw trivial rfl).2.trans f_qlt
  replace f_qlf := (hs.o g_qw trivial rfl).2.trans f_qlf
  replace f_m_wkd := (hs.o gm trivial rfl).2.trans f_m_wkd
  replace f_m_aga := (hs.o gm trivial rfl).2.trans f_m_aga
  replace f_qwo := (hs.o gx trivial rfl).2.trans f_qwo
  replace f_m_ad := (hs.o gm trivial rfl).2.trans f_m_ad
  replace f_m_by := (hs.o gm trivial rfl).2.trans f_m_by
  replace f_m_ho := (hs.o gm trivial rfl).2.trans f_m_ho
  replace f_m_fc := (hs.o gm trivial rfl).2.trans f_m_fc
  replace f_m_nt := (hs.o gm trivial rfl).2.trans f_m_nt
  replace f_m_wt := (hs.o gm trivial rfl).2.trans f_m_wt
  replace f_m_be := (hs.o gm trivial rfl).2.trans f_m_be
  replace f_m_bor := (hs.o gm trivial rfl).2.trans f_m_bor
  replace f_m_kin := (hs.o gm trivial rfl).2.trans f_m_kin
  replace f_m_sum := (hs.o gm trivial rfl).2.trans f_m_sum
  replace f_m_fro := (hs.o gm trivial rfl).2.trans f_m_fro
  replace f_m_fil := (hs.o gm trivial rfl).2.trans f_m_fil
  replace f_m_jud := (hs.o gm trivial rfl).2.trans f_m_jud
  replace f_m_ear := (hs.o gm trivial rfl).2.trans f_m_ear
  replace f_m_hds := (hs.o gm trivial rfl).2.trans f_m_hds
  replace f_m_ord := (hs.o gm trivial rfl).2.trans f_m_ord
  replace f_m_wkl := (hs.o gm trivial rfl).2.trans f_m_wkl
  replace f_m_owd := (hs.o gm trivial rfl).2.trans f_m_owd
  replace f_m_gds := (hs.o gm trivial rfl).2.trans f_m_gds
  replace f_m_szd := (hs.o gm trivial rfl).2.trans f_m_szd
  replace f_m_srv := (hs.o gm trivial rfl).2.trans f_m_srv
  replace f_y_p0 := (hs.o g_qo_py trivial rfl).2.trans f_y_p0
  replace f_m_p0 := (hs.o gm trivial rfl).2.trans f_m_p0
  replace f_y_p1 := (hs.o g_qo_py trivial rfl).2.trans f_y_p1
  replace f_m_p1 := (hs.o gm trivial rfl).2.trans f_m_p1
  replace f_y_p2 := (hs.o g_qo_py trivial rfl).2.trans f_y_p2
  replace f_m_p2 := (hs.o gm trivial rfl).2.trans f_m_p2
  replace f_y_p3 := (hs.o g_qo_py trivial rfl).2.trans f_y_p3
  replace f_m_p3 := (hs.o gm trivial rfl).2.trans f_m_p3
  replace f_y_p4 := (hs.o g_qo_py trivial rfl).2.trans f_y_p4
  replace f_m_p4 := (hs.o gm trivial rfl).2.trans f_m_p4
  replace f_qrg9 := (hs.o gx trivial rfl).2.trans f_qrg9
  replace f_y_ls := (hs.o g_qrg9 trivial rfl).2.trans f_y_ls
  replace f_m_rl := (hs.o gm trivial rfl).2.trans f_m_rl
  replace ffv_190 := (hs.o g_qrg9 trivial rfl).1.trans ffv_190
  replace ffv_191 := (hs.o gm trivial rfl).1.trans ffv_191
  replace ffv_192 := (hs.o gm trivial rfl).1.trans ffv_192
  replace pf_qa : ∀ j : Nat, (j : Int) < (h_205.2.1 ax 6).toInt → h_205.2.2 qa j ≠ none := by
    intro j hj; rw [(hs.o gx trivial rfl).1] at hj; rw [(hs.a g_qa rfl j).2]; exact pf_qa j hj
  replace pf_qp : ∀ j : Nat, (j : Int) < (h_205.2.1 ax 8).toInt → h_205.2.2 qp j ≠ none := by
    intro j hj; rw [(hs.o gx trivial rfl).1] at hj; rw [(hs.a g_qp rfl j).2]; exact pf_qp j hj
  replace pf_qc : ∀ j : Nat, (j : Int) < (h_205.2.1 ax 11).toInt → h_205.2.2 qc j ≠ none := by
    intro j hj; rw [(hs.o gx trivial rfl).1] at hj; rw [(hs.a g_qc rfl j).2]; exact pf_qc j hj
  replace pf_qh : ∀ j : Nat, (j : Int) < (h_205.2.1 ax 13).toInt → h_205.2.2 qh j ≠ none := by
    intro j hj; rw [(hs.o gx trivial rfl).1] at hj; rw [(hs.a g_qh rfl j).2]; exact pf_qh j hj
  replace pf_ql : ∀ j : Nat, (j : Int) < (h_205.2.1 qw 0).toInt → h_205.2.2 ql j ≠ none := by
    intro j hj; rw [(hs.o g_qw trivial rfl).1] at hj; rw [(hs.a g_ql rfl j).2]; exact pf_ql j hj
  replace cl_lst : hx_col 8 h_205 ql 0 = c_lst := (hx_col_S hs hTo g_ql tt_40 tt_2 rfl rfl).trans cl_lst
  replace cl_dead : hx_col 40 h_205 qp 7 = c_dead := (hx_col_S hs hTo g_qp tt_44 tt_4 rfl rfl).trans cl_dead
  replace cl_isj : hx_col 40 h_205 qp 8 = c_isj := (hx_col_S hs hTo g_qp tt_44 tt_4 rfl rfl).trans cl_isj
  replace cl_fou : hx_col 100 h_205 qc 10 = c_fou := (hx_col_S hs hTo g_qc tt_45 tt_2 rfl rfl).trans cl_fou
  replace cl_tri : hx_col 100 h_205 qc 9 = c_tri := (hx_col_S hs hTo g_qc tt_45 tt_2 rfl rfl).trans cl_tri
  replace cl_bor : hx_col 40 h_205 qp 1 = F_bor := (hx_col_S hs hTo g_qp tt_44 tt_4 rfl rfl).trans cl_bor
  replace cl_kin : hx_col 40 h_205 qp 2 = F_kin := (hx_col_S hs hTo g_qp tt_44 tt_4 rfl rfl).trans cl_kin
  replace cl_sum : hx_col 100 h_205 qc 6 = F_sum := (hx_col_S hs hTo g_qc tt_45 tt_2 rfl rfl).trans cl_sum
  replace cl_fro : hx_col 100 h_205 qc 7 = F_fro := (hx_col_S hs hTo g_qc tt_45 tt_2 rfl rfl).trans cl_fro
  replace cl_fil : hx_col 100 h_205 qc 8 = F_fil := (hx_col_S hs hTo g_qc tt_45 tt_2 rfl rfl).trans cl_fil
  replace cl_hea : hx_col 100 h_205 qc 11 = F_mh := (hx_col_S hs hTo g_qc tt_45 tt_2 rfl rfl).trans cl_hea
  replace cl_jud : hx_col 100 h_205 qc 12 = F_jud := (hx_col_S hs hTo g_qc tt_45 tt_2 rfl rfl).trans cl_jud
  replace cl_ord : hx_col 100 h_205 qc 13 = F_ord := (hx_col_S hs hTo g_qc tt_45 tt_2 rfl rfl).trans cl_ord
  replace cl_wkl : hx_col 100 h_205 qc 14 = F_wkl := (hx_col_S hs hTo g_qc tt_45 tt_2 rfl rfl).trans cl_wkl
  replace cl_owd : hx_col 100 h_205 qc 15 = F_owd := (hx_col_S hs hTo g_qc tt_45 tt_2 rfl rfl).trans cl_owd
  replace cl_gds : hx_col 100 h_205 qc 17 = F_gds := (hx_col_S hs hTo g_qc tt_45 tt_2 rfl rfl).trans cl_gds
  replace cl_szd : hx_col 100 h_205 qc 16 = F_szd := (hx_col_S hs hTo g_qc tt_45 tt_2 rfl rfl).trans cl_szd
  replace cl_srv : hx_col 100 h_205 qc 18 = F_srv := (hx_col_S hs hTo g_qc tt_45 tt_2 rfl rfl).trans cl_srv
  replace nu_qp : hx_num 40 h_205 qp 0 (np.toInt) := hx_num_S hs hTo g_qp tt_44 tt_4 rfl rfl nu_qp
  replace nu_qc : hx_num 100 h_205 qc 0 (c0.toInt) := hx_num_S hs hTo g_qc tt_45 tt_2 rfl rfl nu_qc
  replace sb_list : hx_LQ 8 100 h_205 ql qc := hx_LQ_S hs g_ql g_qc rfl rfl sb_list
  replace hDF : hw_DF h_205 qc qp 2 F_aga c0.toInt := hw_DF_S hs hTo g_qc g_qp tt_45 tt_2 rfl rfl rfl hDF
  replace hRA9 : hv_RA h_205 qa qwo a0.toInt A9 := hv_RA_S hs hTo g_qa g_qwo tt_43 tt_0 rfl rfl rfl rfl rfl rfl ?o47 hRA9
  case o47 => omega
  replace hDP : hw_DF h_205 qc qp 1 F_by c0.toInt := hw_DF_S hs hTo g_qc g_qp tt_45 tt_2 rfl rfl rfl hDP
  replace hAC9 : hv_AC h_205 qc F_ml c0.toInt A9 := hv_AC_S hs hTo g_qc tt_45 tt_2 rfl tt_0 rfl rfl rfl rfl rfl rfl rfl hAC9
  replace hFX : hv_FX 8 4 h_205 qc cF9L c0.toInt := hv_FX_S hs hTo g_qc tt_45 tt_2 rfl rfl rfl rfl hFX
  replace hBX : hv_FX 3 5 h_205 qc F_be c0.toInt := hv_FX_S hs hTo g_qc tt_45 tt_2 rfl rfl rfl rfl hBX
  replace hHL : hv_HL h_205 qh qc F_ho m0.toInt c0.toInt := hv_HL_S hs g_qh g_qc rfl rfl hHL
  replace n_mw : h_205.2.1 mw = F_mw := (funext fun j => (hs.a g_mw rfl j).1).trans n_mw
  replace n_mr : h_205.2.1 mr = F_mr := (funext fun j => (hs.a g_mr rfl j).1).trans n_mr
  replace n_mp : h_205.2.1 mp = F_mp := (funext fun j => (hs.a g_mp rfl j).1).trans n_mp
  replace n_mn : h_205.2.1 mn = F_mn := (funext fun j => (hs.a g_mn rfl j).1).trans n_mn
  replace n_ml : h_205.2.1 ml = F_ml := (funext fun j => (hs.a g_ml rfl j).1).trans n_ml
  replace n_mh : h_205.2.1 mh = F_mh := (funext fun j => (hs.a g_mh rfl j).1).trans n_mh
  replace n_mt : h_205.2.1 mt = F_mt := (funext fun j => (hs.a g_mt rfl j).1).trans n_mt
  replace n_m_fou : h_205.2.1 m_fou = F_m_fou := (funext fun j => (hs.a g_m_fou rfl j).1).trans n_m_fou
  replace n_b_of : h_205.2.1 b_of = B_of := (funext fun j => (hs.a g_b_of rfl j).1).trans n_b_of
  replace n_m_of : h_205.2.1 m_of = F_of := (funext fun j => (hs.a g_m_of rfl j).1).trans n_m_of
  replace n_b_wf : h_205.2.1 b_wf = B_wf := (funext fun j => (hs.a g_b_wf rfl j).1).trans n_b_wf
  replace n_m_wf : h_205.2.1 m_wf = F_wf := (funext fun j => (hs.a g_m_wf rfl j).1).trans n_m_wf
  replace n_b_df : h_205.2.1 b_df = B_df := (funext fun j => (hs.a g_b_df rfl j).1).trans n_b_df
  replace n_m_df : h_205.2.1 m_df = F_df := (funext fun j => (hs.a g_m_df rfl j).1).trans n_m_df
  replace n_b_kf : h_205.2.1 b_kf = B_kf := (funext fun j => (hs.a g_b_kf rfl j).1).trans n_b_kf
  replace n_m_kf : h_205.2.1 m_kf = F_kf := (funext fun j => (hs.a g_m_kf rfl j).1).trans n_m_kf
  replace n_b_sf : h_205.2.1 b_sf = B_sf := (funext fun j => (hs.a g_b_sf rfl j).1).trans n_b_sf
  replace n_m_sf : h_205.2.1 m_sf = F_sf := (funext fun j => (hs.a g_m_sf rfl j).1).trans n_m_sf
  replace n_b_bf : h_205.2.1 b_bf = bfL := (funext fun j => (hs.a g_b_bf rfl j).1).trans n_b_bf
  replace n_lst : h_205.2.1 m_lst = F_lst := (funext fun j => (hs.a g_m_lst rfl j).1).trans n_lst
  replace n_tp : h_205.2.1 m_tp = F_tp := (funext fun j => (hs.a g_m_tp rfl j).1).trans n_tp
  replace n_qtp : h_205.2.1 qtp = F_tp := (funext fun j => (hs.a g_qtp rfl j).1).trans n_qtp
  replace n_dead : h_205.2.1 m_dead = F_dead := (funext fun j => (hs.a g_m_dead rfl j).1).trans n_dead
  replace n_isj : h_205.2.1 m_isj = F_isj := (funext fun j => (hs.a g_m_isj rfl j).1).trans n_isj
  replace n_dox : h_205.2.1 m_dox = F_dox := (funext fun j => (hs.a g_m_dox rfl j).1).trans n_dox
  replace n_doy : h_205.2.1 m_doy = F_doy := (funext fun j => (hs.a g_m_doy rfl j).1).trans n_doy
  replace n_qlt : h_205.2.1 qlt = F_qlt := (funext fun j => (hs.a g_qlt rfl j).1).trans n_qlt
  replace n_m_wkd : h_205.2.1 m_wkd = F_m_wkd := (funext fun j => (hs.a g_m_wkd rfl j).1).trans n_m_wkd
  replace n_aga : h_205.2.1 m_aga = F_aga := (funext fun j => (hs.a g_m_aga rfl j).1).trans n_aga
  replace n_ad : h_205.2.1 m_ad = F_ad := (funext fun j => (hs.a g_m_ad rfl j).1).trans n_ad
  replace n_by : h_205.2.1 m_by = F_by := (funext fun j => (hs.a g_m_by rfl j).1).trans n_by
  replace n_ho : h_205.2.1 m_ho = F_ho := (funext fun j => (hs.a g_m_ho rfl j).1).trans n_ho
  replace n_fc : h_205.2.1 m_fc = F_fc := (funext fun j => (hs.a g_m_fc rfl j).1).trans n_fc
  replace n_nt : h_205.2.1 m_nt = F_nt := (funext fun j => (hs.a g_m_nt rfl j).1).trans n_nt
  replace n_wt : h_205.2.1 m_wt = F_wt := (funext fun j => (hs.a g_m_wt rfl j).1).trans n_wt
  replace n_be : h_205.2.1 m_be = F_be := (funext fun j => (hs.a g_m_be rfl j).1).trans n_be
  replace n_bor : h_205.2.1 m_bor = F_bor := (funext fun j => (hs.a g_m_bor rfl j).1).trans n_bor
  replace n_kin : h_205.2.1 m_kin = F_kin := (funext fun j => (hs.a g_m_kin rfl j).1).trans n_kin
  replace n_sum : h_205.2.1 m_sum = F_sum := (funext fun j => (hs.a g_m_sum rfl j).1).trans n_sum
  replace n_fro : h_205.2.1 m_fro = F_fro := (funext fun j => (hs.a g_m_fro rfl j).1).trans n_fro
  replace n_fil : h_205.2.1 m_fil = F_fil := (funext fun j => (hs.a g_m_fil rfl j).1).trans n_fil
  replace n_jud : h_205.2.1 m_jud = F_jud := (funext fun j => (hs.a g_m_jud rfl j).1).trans n_jud
  replace n_ear : h_205.2.1 m_ear = F_ear := (funext fun j => (hs.a g_m_ear rfl j).1).trans n_ear
  replace n_hds : h_205.2.1 m_hds = F_hds := (funext fun j => (hs.a g_m_hds rfl j).1).trans n_hds
  replace n_ord : h_205.2.1 m_ord = F_ord := (funext fun j => (hs.a g_m_ord rfl j).1).trans n_ord
  replace n_wkl : h_205.2.1 m_wkl = F_wkl := (funext fun j => (hs.a g_m_wkl rfl j).1).trans n_wkl
  replace n_owd : h_205.2.1 m_owd = F_owd := (funext fun j => (hs.a g_m_owd rfl j).1).trans n_owd
  replace n_gds : h_205.2.1 m_gds = F_gds := (funext fun j => (hs.a g_m_gds rfl j).1).trans n_gds
  replace n_szd : h_205.2.1 m_szd = F_szd := (funext fun j => (hs.a g_m_szd rfl j).1).trans n_szd
  replace n_srv : h_205.2.1 m_srv = F_srv := (funext fun j => (hs.a g_m_srv rfl j).1).trans n_srv
  replace n_p0 : h_205.2.1 m_p0 = F_p0 := (funext fun j => (hs.a g_m_p0 rfl j).1).trans n_p0
  replace n_y_p0 : h_205.2.1 y_p0 = F_p0 := (funext fun j => (hs.a g_y_p0 rfl j).1).trans n_y_p0
  replace n_p1 : h_205.2.1 m_p1 = F_p1 := (funext fun j => (hs.a g_m_p1 rfl j).1).trans n_p1
  replace n_y_p1 : h_205.2.1 y_p1 = F_p1 := (funext fun j => (hs.a g_y_p1 rfl j).1).trans n_y_p1
  replace n_p2 : h_205.2.1 m_p2 = F_p2 := (funext fun j => (hs.a g_m_p2 rfl j).1).trans n_p2
  replace n_y_p2 : h_205.2.1 y_p2 = F_p2 := (funext fun j => (hs.a g_y_p2 rfl j).1).trans n_y_p2
  replace n_p3 : h_205.2.1 m_p3 = F_p3 := (funext fun j => (hs.a g_m_p3 rfl j).1).trans n_p3
  replace n_y_p3 : h_205.2.1 y_p3 = F_p3 := (funext fun j => (hs.a g_y_p3 rfl j).1).trans n_y_p3
  replace n_p4 : h_205.2.1 m_p4 = F_p4 := (funext fun j => (hs.a g_m_p4 rfl j).1).trans n_p4
  replace n_y_p4 : h_205.2.1 y_p4 = F_p4 := (funext fun j => (hs.a g_y_p4 rfl j).1).trans n_y_p4
  replace n_y_ls : h_205.2.1 y_ls = F_y_ls := (funext fun j => (hs.a g_y_ls rfl j).1).trans n_y_ls
  replace n_m_rl : h_205.2.1 m_rl = F_m_rl := (funext fun j => (hs.a g_m_rl rfl j).1).trans n_m_rl
  replace gx := gx.S hs
  replace gm := gm.S hs
  replace g_qa := g_qa.S hs
  replace g_qp := g_qp.S hs
  replace g_qc := g_qc.S hs
  replace g_qh := g_qh.S hs
  replace g_qw := g_qw.S hs
  replace g_ql := g_ql.S hs
  replace g_mw := g_mw.S hs
  replace g_mr := g_mr.S hs
  replace g_mp := g_mp.S hs
  replace g_mn := g_mn.S hs
  replace g_ml := g_ml.S hs
  replace g_mh := g_mh.S hs
  replace g_mt := g_mt.S hs
  replace g_m_fou := g_m_fou.S hs
  replace g_qo_ln := g_qo_ln.S hs
  replace g_qo_py := g_qo_py.S hs
  replace g_b_of := g_b_of.S hs
  replace g_m_of := g_m_of.S hs
  replace g_b_wf := g_b_wf.S hs
  replace g_m_wf := g_m_wf.S hs
  replace g_b_df := g_b_df.S hs
  replace g_m_df := g_m_df.S hs
  replace g_b_kf := g_b_kf.S hs
  replace g_m_kf := g_m_kf.S hs
  replace g_b_sf := g_b_sf.S hs
  replace g_m_sf := g_m_sf.S hs
  replace g_b_bf := g_b_bf.S hs
  replace g_m_lst := g_m_lst.S hs
  replace g_qtp := g_qtp.S hs
  replace g_m_tp := g_m_tp.S hs
  replace g_m_dead := g_m_dead.S hs
  replace g_m_isj := g_m_isj.S hs
  replace g_m_dox := g_m_dox.S hs
  replace g_m_doy := g_m_doy.S hs
  replace g_qlt := g_qlt.S hs
  replace g_qlf := g_qlf.S hs
  replace g_m_wkd := g_m_wkd.S hs
  replace g_m_aga := g_m_aga.S hs
  replace g_qwo := g_qwo.S hs
  replace g_m_ad := g_m_ad.S hs
  replace g_m_by := g_m_by.S hs
  replace g_m_ho := g_m_ho.S hs
  replace g_m_fc := g_m_fc.S hs
  replace g_m_nt := g_m_nt.S hs
  replace g_m_wt := g_m_wt.S hs
  replace g_m_be := g_m_be.S hs
  replace g_m_bor := g_m_bor.S hs
  replace g_m_kin := g_m_kin.S hs
  replace g_m_sum := g_m_sum.S hs
  replace g_m_fro := g_m_fro.S hs
  replace g_m_fil := g_m_fil.S hs
  replace g_m_jud := g_m_jud.S hs
  replace g_m_ear := g_m_ear.S hs
  replace g_m_hds := g_m_hds.S hs
  replace g_m_ord := g_m_ord.S hs
  replace g_m_wkl := g_m_wkl.S hs
  replace g_m_owd := g_m_owd.S hs
  replace g_m_gds := g_m_gds.S hs
  replace g_m_szd := g_m_szd.S hs
  replace g_m_srv := g_m_srv.S hs
  replace g_y_p0 := g_y_p0.S hs
  replace g_m_p0 := g_m_p0.S hs
  replace g_y_p1 := g_y_p1.S hs
  replace g_m_p1 := g_m_p1.S hs
  replace g_y_p2 := g_y_p2.S hs
  replace g_m_p2 := g_m_p2.S hs
  replace g_y_p3 := g_y_p3.S hs
  replace g_m_p3 := g_m_p3.S hs
  replace g_y_p4 := g_y_p4.S hs
  replace g_m_p4 := g_m_p4.S hs
  replace g_qrg9 := g_qrg9.S hs
  replace g_y_ls := g_y_ls.S hs
  replace g_m_rl := g_m_rl.S hs
  have fw_209 : hx_col 40 h_205 qp 5 = w_209 := fw_209
  have fw_210 : hx_col 40 h_205 qp 6 = w_210 := fw_210
  have fw_211 : hx_col 40 h_205 qp 3 = w_211 := fw_211
  have fw_212 : hx_col 40 h_205 qp 4 = w_212 := fw_212
  obtain ⟨hr_208a, hr_208b⟩ := hr_208
  refine lv_pop hx hb dL_law_441 rfl ?_
  refine lv_aload_n hx hb dL_law_442 rfl (lv_at hl 1 rfl) ?_
  refine lv_aload_n hx hb dL_law_443 rfl (lv_at hl 3 rfl) ?_
  refine lv_iload_n hx hb dL_law_444 rfl (lv_at hl 0 rfl) ?_
  refine lv_iconst (v := 1) hx hb dL_law_445 ?o48 ?_
  case o48 => decide
  refine lv_iadd hx hb dL_law_446 ?_
  refine lv_topi (fun x_213 ex_213 => ?_)
  have zx_213 : x_213.toInt = i.toInt + 1 := ?o49
  case o49 =>
    rw [ex_213]
    refine i32_add rfl ?o50 ?o51 ?o52
    case o50 => decide
    case o51 => omega
    case o52 => omega
  obtain rfl : x_194 = x_213 := ex_194.trans ex_213.symm
  refine va_sld hx hb hX hbl hbA hW.2.2.2.1 (vp_in_iff.mpr ⟨?o53, ?o54⟩) dL_law_447 ?_
  case o53 => omega
  case o54 => omega
  refine lv_topi (fun x_214 ex_214 => ?_)
  obtain rfl : x_195 = x_214 := ex_195.trans ex_214.symm
  refine lv_aload_n hx hb dL_law_448 rfl (lv_at hl 3 rfl) ?_
  refine lv_iload_n hx hb dL_law_449 rfl (lv_at hl 0 rfl) ?_
  refine lv_iconst (v := 2) hx hb dL_law_450 ?o55 ?_
  case o55 => decide
  refine lv_iadd hx hb dL_law_451 ?_
  refine lv_topi (fun x_215 ex_215 => ?_)
  have zx_215 : x_215.toInt = i.toInt + 2 := ?o56
  case o56 =>
    rw [ex_215]
    refine i32_add rfl ?o57 ?o58 ?o59
    case o57 => decide
    case o58 => omega
    case o59 => omega
  obtain rfl : x_196 = x_215 := ex_196.trans ex_215.symm
  refine va_sld hx hb hX hbl hbA hW.2.2.2.1 (vp_in_iff.mpr ⟨?o60, ?o61⟩) dL_law_452 ?_
  case o60 => omega
  case o61 => omega
  refine lv_topi (fun x_216 ex_216 => ?_)
  obtain rfl : x_197 = x_216 := ex_197.trans ex_216.symm
  refine lv_aload_n hx hb dL_law_453 rfl (lv_at hl 3 rfl) ?_
  refine lv_iload_n hx hb dL_law_454 rfl (lv_at hl 0 rfl) ?_
  refine lv_iconst (v := 3) hx hb dL_law_455 ?o62 ?_
  case o62 => decide
  refine lv_iadd hx hb dL_law_456 ?_
  refine lv_topi (fun x_217 ex_217 => ?_)
  have zx_217 : x_217.toInt = i.toInt + 3 := ?o63
  case o63 =>
    rw [ex_217]
    refine i32_add rfl ?o64 ?o65 ?o66
    case o64 => decide
    case o65 => omega
    case o66 => omega
  obtain rfl : x_198 = x_217 := ex_198.trans ex_217.symm
  refine va_sld hx hb hX hbl hbA hW.2.2.2.1 (vp_in_iff.mpr ⟨?o67, ?o68⟩) dL_law_457 ?_
  case o67 => omega
  case o68 => omega
  refine lv_topi (fun x_218 ex_218 => ?_)
  obtain rfl : x_199 = x_218 := ex_199.trans ex_218.symm
  refine lv_aload_n hx hb dL_law_458 rfl (lv_at hl 3 rfl) ?_
  refine lv_iload_n hx hb dL_law_459 rfl (lv_at hl 0 rfl) ?_
  refine lv_iconst (v := 4) hx hb dL_law_460 ?o69 ?_
  case o69 => decide
  refine lv_iadd hx hb dL_law_461 ?_
  refine lv_topi (fun x_219 ex_219 => ?_)
  have zx_219 : x_219.toInt = i.toInt + 4 := ?o70
  case o70 =>
    rw [ex_219]
    refine i32_add rfl ?o71 ?o72 ?o73
    case o71 => decide
    case o72 => omega
    case o73 => omega
  obtain rfl : x_200 = x_219 := ex_200.trans ex_219.symm
  refine va_sld hx hb hX hbl hbA hW.2.2.2.1 (vp_in_iff.mpr ⟨?o74, ?o75⟩) dL_law_462 ?_
  case o74 => omega
  case o75 => omega
  refine lv_topi (fun x_220 ex_220 => ?_)
  obtain rfl : x_201 = x_220 := ex_201.trans ex_220.symm
  refine lv_aload_n hx hb dL_law_463 rfl (lv_at hl 3 rfl) ?_
  refine lv_iload_n hx hb dL_law_464 rfl (lv_at hl 0 rfl) ?_
  refine lv_iconst (v := 5) hx hb dL_law_465 ?o76 ?_
  case o76 => decide
  refine lv_iadd hx hb dL_law_466 ?_
  refine lv_topi (fun x_221 ex_221 => ?_)
  have zx_221 : x_221.toInt = i.toInt + 5 := ?o77
  case o77 =>
    rw [ex_221]
    refine i32_add rfl ?o78 ?o79 ?o80
    case o78 => decide
    case o79 => omega
    case o80 => omega
  obtain rfl : x_202 = x_221 := ex_202.trans ex_221.symm
  refine va_sld hx hb hX hbl hbA hW.2.2.2.1 (vp_in_iff.mpr ⟨?o81, ?o82⟩) dL_law_467 ?_
  case o81 => omega
  case o82 => omega
  refine lv_topi (fun x_222 ex_222 => ?_)
  obtain rfl : x_203 = x_222 := ex_203.trans ex_222.symm
  have hTo := hT
  refine hx_goi (hx_runV (As := [.int x_195, .int x_197, .int x_199, .int x_201, .int x_203]) (rest := []) ⟨hx, hb, hml, hown, hts⟩ hW gm tt_10 (T := TX10) (N := 98) rfl (t_X10_anew_2 l dC dI dA L_204 h_205 H.size am x_195 x_197 x_199 x_201 x_203 hT gm m_dead g_m_dead f_m_dead m_dox g_m_dox f_m_dox m_doy g_m_doy f_m_doy m_ear g_m_ear f_m_ear m_hds g_m_hds f_m_hds F_dead n_dead F_dox n_dox F_doy n_doy F_ear n_ear F_hds n_hds np f_m_persons) (cwV 5 hts (hx_gV kw_1548 kw_1545 kw_1546 kw_1547 kw_103) rfl rfl rfl (by decide +kernel) ⟨Nat.le_of_ble_eq_true rfl, Nat.le_of_ble_eq_true rfl⟩) rfl hl.1 rfl (Nat.le_of_ble_eq_true rfl) dL_law_468 ⟨(show CC + 0 + 0 ≤ 600000 from ?o83), (show SS + 0 + 0 ≤ 7302250 from ?o84)⟩) hW (fun r_225 L_223 h_224 H locs p_226 hW => ?_)
  case o83 => omega
  case o84 => omega
  obtain ⟨⟨w_228, w_229, w_230, w_231, fw_228, fw_229, fw_230, fw_231, hr_227⟩, hT, hs⟩ := p_226
  replace hT : hx_T T_tb L_223 h_224 := hT
  replace hs : hx_S T_tb [(59, 0), (60, 0), (61, 0), (62, 0)] L_204 h_205 L_223 h_224 := hs
  replace f_qa := (hs.o gx trivial rfl).2.trans f_qa
  replace f_qp := (hs.o gx trivial rfl).2.trans f_qp
  replace f_qc := (hs.o gx trivial rfl).2.trans f_qc
  replace f_qh := (hs.o gx trivial rfl).2.trans f_qh
  replace f_qw := (hs.o gx trivial rfl).2.trans f_qw
  replace f_ql := (hs.o g_qw trivial rfl).2.trans f_ql
  replace f_m_now := (hs.o gm trivial rfl).1.trans f_m_now
  replace f_m_persons := (hs.o gm trivial rfl).1.trans f_m_persons
  replace f_m_claims := (hs.o gm trivial rfl).1.trans f_m_claims
  replace f_m_taped := (hs.o gm trivial rfl).1.trans f_m_taped
  replace f_m_acts := (hs.o gm trivial rfl).1.trans f_m_acts
  replace f_m_heardMany := (hs.o gm trivial rfl).1.trans f_m_heardMany
  replace f_m_lines := (hs.o gm trivial rfl).1.trans f_m_lines
  replace f_m_listed := (hs.o gm trivial rfl).1.trans f_m_listed
  replace f_m_walkedMany := (hs.o gm trivial rfl).1.trans f_m_walkedMany
  replace f_m_payments := (hs.o gm trivial rfl).1.trans f_m_payments
  replace f_x_now := (hs.o gx trivial rfl).1.trans f_x_now
  replace f_x_personCount := (hs.o gx trivial rfl).1.trans f_x_personCount
  replace f_x_claimCount := (hs.o gx trivial rfl).1.trans f_x_claimCount
  replace f_x_tapeLength := (hs.o gx trivial rfl).1.trans f_x_tapeLength
  replace f_x_actCount := (hs.o gx trivial rfl).1.trans f_x_actCount
  replace f_x_heardCount := (hs.o gx trivial rfl).1.trans f_x_heardCount
  replace f_mw := (hs.o gm trivial rfl).2.trans f_mw
  replace f_mr := (hs.o gm trivial rfl).2.trans f_mr
  replace f_mp := (hs.o gm trivial rfl).2.trans f_mp
  replace f_mn := (hs.o gm trivial rfl).2.trans f_mn
  replace f_ml := (hs.o gm trivial rfl).2.trans f_ml
  replace f_mh := (hs.o gm trivial rfl).2.trans f_mh
  replace f_mt := (hs.o gm trivial rfl).2.trans f_mt
  replace f_m_fou := (hs.o gm trivial rfl).2.trans f_m_fou
  replace f_qo_ln := (hs.o gx trivial rfl).2.trans f_qo_ln
  replace f_o_ln := (hs.o g_qo_ln trivial rfl).1.trans f_o_ln
  replace f_o_lsd := (hs.o g_qw trivial rfl).1.trans f_o_lsd
  replace f_o_wkm := (hs.o g_qw trivial rfl).1.trans f_o_wkm
  replace f_qo_py := (hs.o gx trivial rfl).2.trans f_qo_py
  replace f_o_py := (hs.o g_qo_py trivial rfl).1.trans f_o_py
  replace f_b_of := (hs.o g_qo_ln trivial rfl).2.trans f_b_of
  replace f_m_of := (hs.o gm trivial rfl).2.trans f_m_of
  replace f_b_wf := (hs.o g_qo_ln trivial rfl).2.trans f_b_wf
  replace f_m_wf := (hs.o gm trivial rfl).2.trans f_m_wf
  replace f_b_df := (hs.o g_qo_ln trivial rfl).2.trans f_b_df
  replace f_m_df := (hs.o gm trivial rfl).2.trans f_m_df
  replace f_b_kf := (hs.o g_qo_ln trivial rfl).2.trans f_b_kf
  replace f_m_kf := (hs.o gm trivial rfl).2.trans f_m_kf
  replace f_b_sf := (hs.o g_qo_ln trivial rfl).2.trans f_b_sf
  replace f_m_sf := (hs.o gm trivial rfl).2.trans f_m_sf
  replace f_b_bf := (hs.o g_qo_ln trivial rfl).2.trans f_b_bf
  replace f_m_lst := (hs.o gm trivial rfl).2.trans f_m_lst
  replace f_qtp := (hs.o gx trivial rfl).2.trans f_qtp
  replace f_m_tp := (hs.o gm trivial rfl).2.trans f_m_tp
  replace f_m_dead := (hs.o gm trivial rfl).2.trans f_m_dead
  replace f_m_isj := (hs.o gm trivial rfl).2.trans f_m_isj
  replace f_m_dox := (hs.o gm trivial rfl).2.trans f_m_dox
  replace f_m_doy := (hs.o gm trivial rfl).2.trans f_m_doy
  replace f_qlt := (hs.o g_qw trivial rfl).2.trans f_qlt
  replace f_qlf := (hs.o g_qw trivial rfl).2.trans f_qlf
  replace f_m_wkd := (hs.o gm trivial rfl).2.trans f_m_wkd
  replace f_m_aga := (hs.o gm trivial rfl).2.trans f_m_aga
  replace f_qwo := (hs.o gx trivial rfl).2.trans f_qwo
  replace f_m_ad := (hs.o gm trivial rfl).2.trans f_m_ad
  replace f_m_by := (hs.o gm trivial rfl).2.trans f_m_by
  replace f_m_ho := (hs.o gm trivial rfl).2.trans f_m_ho
  replace f_m_fc := (hs.o gm trivial rfl).2.trans f_m_fc
  replace f_m_nt := (hs.o gm trivial rfl).2.trans f_m_nt
  replace f_m_wt := (hs.o gm trivial rfl).2.trans f_m_wt
  replace f_m_be := (hs.o gm trivial rfl).2.trans f_m_be
  replace f_m_bor := (hs.o gm trivial rfl).2.trans f_m_bor
  replace f_m_kin := (hs.o gm trivial rfl).2.trans f_m_kin
  replace f_m_sum := (hs.o gm trivial rfl).2.trans f_m_sum
  replace f_m_fro := (hs.o gm trivial rfl).2.trans f_m_fro
  replace f_m_fil := (hs.o gm trivial rfl).2.trans f_m_fil
  replace f_m_jud := (hs.o gm trivial rfl).2.trans f_m_jud
  replace f_m_ear := (hs.o gm trivial rfl).2.trans f_m_ear
  replace f_m_hds := (hs.o gm trivial rfl).2.trans f_m_hds
  replace f_m_ord := (hs.o gm trivial rfl).2.trans f_m_ord
  replace f_m_wkl := (hs.o gm trivial rfl).2.trans f_m_wkl
  replace f_m_owd := (hs.o gm trivial rfl).2.trans f_m_owd
  replace f_m_gds := (hs.o gm trivial rfl).2.trans f_m_gds
  replace f_m_szd := (hs.o gm trivial rfl).2.trans f_m_szd
  replace f_m_srv := (hs.o gm trivial rfl).2.trans f_m_srv
  replace f_y_p0 := (hs.o g_qo_py trivial rfl).2.trans f_y_p0
  replace f_m_p0 := (hs.o gm trivial rfl).2.trans f_m_p0
  replace f_y_p1 := (hs.o g_qo_py trivial rfl).2.trans f_y_p1
  replace f_m_p1 := (hs.o gm trivial rfl).2.trans f_m_p1
  replace f_y_p2 := (hs.o g_qo_py trivial rfl).2.trans f_y_p2
  replace f_m_p2 := (hs.o gm trivial rfl).2.trans f_m_p2
  replace f_y_p3 := (hs.o g_qo_py trivial rfl).2.trans f_y_p3
  replace f_m_p3 := (hs.o gm trivial rfl).2.trans f_m_p3
  replace f_y_p4 := (hs.o g_qo_py trivial rfl).2.trans f_y_p4
  replace f_m_p4 := (hs.o gm trivial rfl).2.trans f_m_p4
  replace f_qrg9 := (hs.o gx trivial rfl).2.trans f_qrg9
  replace f_y_ls := (hs.o g_qrg9 trivial rfl).2.trans f_y_ls
  replace f_m_rl := (hs.o gm trivial rfl).2.trans f_m_rl
  replace ffv_190 := (hs.o g_qrg9 trivial rfl).1.trans ffv_190
  replace ffv_191 := (hs.o gm trivial rfl).1.trans ffv_191
  replace ffv_192 := (hs.o gm trivial rfl).1.trans ffv_192
  replace pf_qa : ∀ j : Nat, (j : Int) < (h_224.2.1 ax 6).toInt → h_224.2.2 qa j ≠ none := by
    intro j hj; rw [(hs.o gx trivial rfl).1] at hj; rw [(hs.a g_qa rfl j).2]; exact pf_qa j hj
  replace pf_qp : ∀ j : Nat, (j : Int) < (h_224.2.1 ax 8).toInt → h_224.2.2 qp j ≠ none := by
    intro j hj; rw [(hs.o gx trivial rfl).1] at hj; rw [(hs.a g_qp rfl j).2]; exact pf_qp j hj
  replace pf_qc : ∀ j : Nat, (j : Int) < (h_224.2.1 ax 11).toInt → h_224.2.2 qc j ≠ none := by
    intro j hj; rw [(hs.o gx trivial rfl).1] at hj; rw [(hs.a g_qc rfl j).2]; exact pf_qc j hj
  replace pf_qh : ∀ j : Nat, (j : Int) < (h_224.2.1 ax 13).toInt → h_224.2.2 qh j ≠ none := by
    intro j hj; rw [(hs.o gx trivial rfl).1] at hj; rw [(hs.a g_qh rfl j).2]; exact pf_qh j hj
  replace pf_ql : ∀ j : Nat, (j : Int) < (h_224.2.1 qw 0).toInt → h_224.2.2 ql j ≠ none := by
    intro j hj; rw [(hs.o g_qw trivial rfl).1] at hj; rw [(hs.a g_ql rfl j).2]; exact pf_ql j hj
  replace cl_lst : hx_col 8 h_224 ql 0 = c_lst := (hx_col_S hs hTo g_ql tt_40 tt_2 rfl rfl).trans cl_lst
  replace cl_dead : hx_col 40 h_224 qp 7 = c_dead := (hx_col_S hs hTo g_qp tt_44 tt_4 rfl rfl).trans cl_dead
  replace cl_isj : hx_col 40 h_224 qp 8 = c_isj := (hx_col_S hs hTo g_qp tt_44 tt_4 rfl rfl).trans cl_isj
  replace cl_fou : hx_col 100 h_224 qc 10 = c_fou := (hx_col_S hs hTo g_qc tt_45 tt_2 rfl rfl).trans cl_fou
  replace cl_tri : hx_col 100 h_224 qc 9 = c_tri := (hx_col_S hs hTo g_qc tt_45 tt_2 rfl rfl).trans cl_tri
  replace cl_bor : hx_col 40 h_224 qp 1 = F_bor := (hx_col_S hs hTo g_qp tt_44 tt_4 rfl rfl).trans cl_bor
  replace cl_kin : hx_col 40 h_224 qp 2 = F_kin := (hx_col_S hs hTo g_qp tt_44 tt_4 rfl rfl).trans cl_kin
  replace cl_sum : hx_col 100 h_224 qc 6 = F_sum := (hx_col_S hs hTo g_qc tt_45 tt_2 rfl rfl).trans cl_sum
  replace cl_fro : hx_col 100 h_224 qc 7 = F_fro := (hx_col_S hs hTo g_qc tt_45 tt_2 rfl rfl).trans cl_fro
  replace cl_fil : hx_col 100 h_224 qc 8 = F_fil := (hx_col_S hs hTo g_qc tt_45 tt_2 rfl rfl).trans cl_fil
  replace cl_hea : hx_col 100 h_224 qc 11 = F_mh := (hx_col_S hs hTo g_qc tt_45 tt_2 rfl rfl).trans cl_hea
  replace cl_jud : hx_col 100 h_224 qc 12 = F_jud := (hx_col_S hs hTo g_qc tt_45 tt_2 rfl rfl).trans cl_jud
  replace cl_ord : hx_col 100 h_224 qc 13 = F_ord := (hx_col_S hs hTo g_qc tt_45 tt_2 rfl rfl).trans cl_ord
  replace cl_wkl : hx_col 100 h_224 qc 14 = F_wkl := (hx_col_S hs hTo g_qc tt_45 tt_2 rfl rfl).trans cl_wkl
  replace cl_owd : hx_col 100 h_224 qc 15 = F_owd := (hx_col_S hs hTo g_qc tt_45 tt_2 rfl rfl).trans cl_owd
  replace cl_gds : hx_col 100 h_224 qc 17 = F_gds := (hx_col_S hs hTo g_qc tt_45 tt_2 rfl rfl).trans cl_gds
  replace cl_szd : hx_col 100 h_224 qc 16 = F_szd := (hx_col_S hs hTo g_qc tt_45 tt_2 rfl rfl).trans cl_szd
  replace cl_srv : hx_col 100 h_224 qc 18 = F_srv := (hx_col_S hs hTo g_qc tt_45 tt_2 rfl rfl).trans cl_srv
  replace fw_209 : hx_col 40 h_224 qp 5 = w_209 := (hx_col_S hs hTo g_qp tt_44 tt_4 rfl rfl).trans fw_209
  replace fw_210 : hx_col 40 h_224 qp 6 = w_210 := (hx_col_S hs hTo g_qp tt_44 tt_4 rfl rfl).trans fw_210
  replace fw_211 : hx_col 40 h_224 qp 3 = w_211 := (hx_col_S hs hTo g_qp tt_44 tt_4 rfl rfl).trans fw_211
  replace fw_212 : hx_col 40 h_224 qp 4 = w_212 := (hx_col_S hs hTo g_qp tt_44 tt_4 rfl rfl).trans fw_212
  replace nu_qp : hx_num 40 h_224 qp 0 (np.toInt) := hx_num_S hs hTo g_qp tt_44 tt_4 rfl rfl nu_qp
  replace nu_qc : hx_num 100 h_224 qc 0 (c0.toInt) := hx_num_S hs hTo g_qc tt_45 tt_2 rfl rfl nu_qc
  replace sb_list : hx_LQ 8 100 h_224 ql qc := hx_LQ_S hs g_ql g_qc rfl rfl sb_list
  replace hDF : hw_DF h_224 qc qp 2 F_aga c0.toInt := hw_DF_S hs hTo g_qc g_qp tt_45 tt_2 rfl rfl rfl hDF
  replace hRA9 : hv_RA h_224 qa qwo a0.toInt A9 := hv_RA_S hs hTo g_qa g_qwo tt_43 tt_0 rfl rfl rfl rfl rfl rfl ?o85 hRA9
  case o85 => omega
  replace hDP : hw_DF h_224 qc qp 1 F_by c0.toInt := hw_DF_S hs hTo g_qc g_qp tt_45 tt_2 rfl rfl rfl hDP
  replace hAC9 : hv_AC h_224 qc F_ml c0.toInt A9 := hv_AC_S hs hTo g_qc tt_45 tt_2 rfl tt_0 rfl rfl rfl rfl rfl rfl rfl hAC9
  replace hFX : hv_FX 8 4 h_224 qc cF9L c0.toInt := hv_FX_S hs hTo g_qc tt_45 tt_2 rfl rfl rfl rfl hFX
  replace hBX : hv_FX 3 5 h_224 qc F_be c0.toInt := hv_FX_S hs hTo g_qc tt_45 tt_2 rfl rfl rfl rfl hBX
  replace hHL : hv_HL h_224 qh qc F_ho m0.toInt c0.toInt := hv_HL_S hs g_qh g_qc rfl rfl hHL
  replace n_mw : h_224.2.1 mw = F_mw := (funext fun j => (hs.a g_mw rfl j).1).trans n_mw
  replace n_mr : h_224.2.1 mr = F_mr := (funext fun j => (hs.a g_mr rfl j).1).trans n_mr
  replace n_mp : h_224.2.1 mp = F_mp := (funext fun j => (hs.a g_mp rfl j).1).trans n_mp
  replace n_mn : h_224.2.1 mn = F_mn := (funext fun j => (hs.a g_mn rfl j).1).trans n_mn
  replace n_ml : h_224.2.1 ml = F_ml := (funext fun j => (hs.a g_ml rfl j).1).trans n_ml
  replace n_mh : h_224.2.1 mh = F_mh := (funext fun j => (hs.a g_mh rfl j).1).trans n_mh
  replace n_mt : h_224.2.1 mt = F_mt := (funext fun j => (hs.a g_mt rfl j).1).trans n_mt
  replace n_m_fou : h_224.2.1 m_fou = F_m_fou := (funext fun j => (hs.a g_m_fou rfl j).1).trans n_m_fou
  replace n_b_of : h_224.2.1 b_of = B_of := (funext fun j => (hs.a g_b_of rfl j).1).trans n_b_of
  replace n_m_of : h_224.2.1 m_of = F_of := (funext fun j => (hs.a g_m_of rfl j).1).trans n_m_of
  replace n_b_wf : h_224.2.1 b_wf = B_wf := (funext fun j => (hs.a g_b_wf rfl j).1).trans n_b_wf
  replace n_m_wf : h_224.2.1 m_wf = F_wf := (funext fun j => (hs.a g_m_wf rfl j).1).trans n_m_wf
  replace n_b_df : h_224.2.1 b_df = B_df := (funext fun j => (hs.a g_b_df rfl j).1).trans n_b_df
  replace n_m_df : h_224.2.1 m_df = F_df := (funext fun j => (hs.a g_m_df rfl j).1).trans n_m_df
  replace n_b_kf : h_224.2.1 b_kf = B_kf := (funext fun j => (hs.a g_b_kf rfl j).1).trans n_b_kf
  replace n_m_kf : h_224.2.1 m_kf = F_kf := (funext fun j => (hs.a g_m_kf rfl j).1).trans n_m_kf
  replace n_b_sf : h_224.2.1 b_sf = B_sf := (funext fun j => (hs.a g_b_sf rfl j).1).trans n_b_sf
  replace n_m_sf : h_224.2.1 m_sf = F_sf := (funext fun j => (hs.a g_m_sf rfl j).1).trans n_m_sf
  replace n_b_bf : h_224.2.1 b_bf = bfL := (funext fun j => (hs.a g_b_bf rfl j).1).trans n_b_bf
  replace n_lst : h_224.2.1 m_lst = F_lst := (funext fun j => (hs.a g_m_lst rfl j).1).trans n_lst
  replace n_tp : h_224.2.1 m_tp = F_tp := (funext fun j => (hs.a g_m_tp rfl j).1).trans n_tp
  replace n_qtp : h_224.2.1 qtp = F_tp := (funext fun j => (hs.a g_qtp rfl j).1).trans n_qtp
  replace n_dead : h_224.2.1 m_dead = F_dead := (funext fun j => (hs.a g_m_dead rfl j).1).trans n_dead
  replace n_isj : h_224.2.1 m_isj = F_isj := (funext fun j => (hs.a g_m_isj rfl j).1).trans n_isj
  replace n_qlt : h_224.2.1 qlt = F_qlt := (funext fun j => (hs.a g_qlt rfl j).1).trans n_qlt
  replace n_m_wkd : h_224.2.1 m_wkd = F_m_wkd := (funext fun j => (hs.a g_m_wkd rfl j).1).trans n_m_wkd
  replace n_aga : h_224.2.1 m_aga = F_aga := (funext fun j => (hs.a g_m_aga rfl j).1).trans n_aga
  replace n_ad : h_224.2.1 m_ad = F_ad := (funext fun j => (hs.a g_m_ad rfl j).1).trans n_ad
  replace n_by : h_224.2.1 m_by = F_by := (funext fun j => (hs.a g_m_by rfl j).1).trans n_by
  replace n_ho : h_224.2.1 m_ho = F_ho := (funext fun j => (hs.a g_m_ho rfl j).1).trans n_ho
  replace n_fc : h_224.2.1 m_fc = F_fc := (funext fun j => (hs.a g_m_fc rfl j).1).trans n_fc
  replace n_nt : h_224.2.1 m_nt = F_nt := (funext fun j => (hs.a g_m_nt rfl j).1).trans n_nt
  replace n_wt : h_224.2.1 m_wt = F_wt := (funext fun j => (hs.a g_m_wt rfl j).1).trans n_wt
  replace n_be : h_224.2.1 m_be = F_be := (funext fun j => (hs.a g_m_be rfl j).1).trans n_be
  replace n_bor : h_224.2.1 m_bor = F_bor := (funext fun j => (hs.a g_m_bor rfl j).1).trans n_bor
  replace n_kin : h_224.2.1 m_kin = F_kin := (funext fun j => (hs.a g_m_kin rfl j).1).trans n_kin
  replace n_sum : h_224.2.1 m_sum = F_sum := (funext fun j => (hs.a g_m_sum rfl j).1).trans n_sum
  replace n_fro : h_224.2.1 m_fro = F_fro := (funext fun j => (hs.a g_m_fro rfl j).1).trans n_fro
  replace n_fil : h_224.2.1 m_fil = F_fil := (funext fun j => (hs.a g_m_fil rfl j).1).trans n_fil
  replace n_jud : h_224.2.1 m_jud = F_jud := (funext fun j => (hs.a g_m_jud rfl j).1).trans n_jud
  replace n_ord : h_224.2.1 m_ord = F_ord := (funext fun j => (hs.a g_m_ord rfl j).1).trans n_ord
  replace n_wkl : h_224.2.1 m_wkl = F_wkl := (funext fun j => (hs.a g_m_wkl rfl j).1).trans n_wkl
  replace n_owd : h_224.2.1 m_owd = F_owd := (funext fun j => (hs.a g_m_owd rfl j).1).trans n_owd
  replace n_gds : h_224.2.1 m_gds = F_gds := (funext fun j => (hs.a g_m_gds rfl j).1).trans n_gds
  replace n_szd : h_224.2.1 m_szd = F_szd := (funext fun j => (hs.a g_m_szd rfl j).1).trans n_szd
  replace n_srv : h_224.2.1 m_srv = F_srv := (funext fun j => (hs.a g_m_srv rfl j).1).trans n_srv
  replace n_p0 : h_224.2.1 m_p0 = F_p0 := (funext fun j => (hs.a g_m_p0 rfl j).1).trans n_p0
  replace n_y_p0 : h_224.2.1 y_p0 = F_p0 := (funext fun j => (hs.a g_y_p0 rfl j).1).trans n_y_p0
  replace n_p1 : h_224.2.1 m_p1 = F_p1 := (funext fun j => (hs.a g_m_p1 rfl j).1).trans n_p1
  replace n_y_p1 : h_224.2.1 y_p1 = F_p1 := (funext fun j => (hs.a g_y_p1 rfl j).1).trans n_y_p1
  replace n_p2 : h_224.2.1 m_p2 = F_p2 := (funext fun j => (hs.a g_m_p2 rfl j).1).trans n_p2
  replace n_y_p2 : h_224.2.1 y_p2 = F_p2 := (funext fun j => (hs.a g_y_p2 rfl j).1).trans n_y_p2
  replace n_p3 : h_224.2.1 m_p3 = F_p3 := (funext fun j => (hs.a g_m_p3 rfl j).1).trans n_p3
  replace n_y_p3 : h_224.2.1 y_p3 = F_p3 := (funext fun j => (hs.a g_y_p3 rfl j).1).trans n_y_p3
  replace n_p4 : h_224.2.1 m_p4 = F_p4 := (funext fun j => (hs.a g_m_p4 rfl j).1).trans n_p4
  replace n_y_p4 : h_224.2.1 y_p4 = F_p4 := (funext fun j => (hs.a g_y_p4 rfl j).1).trans n_y_p4
  replace n_y_ls : h_224.2.1 y_ls = F_y_ls := (funext fun j => (hs.a g_y_ls rfl j).1).trans n_y_ls
  replace n_m_rl : h_224.2.1 m_rl = F_m_rl := (funext fun j => (hs.a g_m_rl rfl j).1).trans n_m_rl
  replace gx := gx.S hs
  replace gm := gm.S hs
  replace g_qa := g_qa.S hs
  replace g_qp := g_qp.S hs
  replace g_qc := g_qc.S hs
  replace g_qh := g_qh.S hs
  replace g_qw := g_qw.S hs
  replace g_ql := g_ql.S hs
  replace g_mw := g_mw.S hs
  replace g_mr := g_mr.S hs
  replace g_mp := g_mp.S hs
  replace g_mn := g_mn.S hs
  replace g_ml := g_ml.S hs
  replace g_mh := g_mh.S hs
  replace g_mt := g_mt.S hs
  replace g_m_fou := g_m_fou.S hs
  replace g_qo_ln := g_qo_ln.S hs
  replace g_qo_py := g_qo_py.S hs
  replace g_b_of := g_b_of.S hs
  replace g_m_of := g_m_of.S hs
  replace g_b_wf := g_b_wf.S hs
  replace g_m_wf := g_m_wf.S hs
  replace g_b_df := g_b_df.S hs
  replace g_m_df := g_m_df.S hs
  replace g_b_kf := g_b_kf.S hs
  replace g_m_kf := g_m_kf.S hs
  replace g_b_sf := g_b_sf.S hs
  replace g_m_sf := g_m_sf.S hs
  replace g_b_bf := g_b_bf.S hs
  replace g_m_lst := g_m_lst.S hs
  replace g_qtp := g_qtp.S hs
  replace g_m_tp := g_m_tp.S hs
  replace g_m_dead := g_m_dead.S hs
  replace g_m_isj := g_m_isj.S hs
  replace g_m_dox := g_m_dox.S hs
  replace g_m_doy := g_m_doy.S hs
  replace g_qlt := g_qlt.S hs
  replace g_qlf := g_qlf.S hs
  replace g_m_wkd := g_m_wkd.S hs
  replace g_m_aga := g_m_aga.S hs
  replace g_qwo := g_qwo.S hs
  replace g_m_ad := g_m_ad.S hs
  replace g_m_by := g_m_by.S hs
  replace g_m_ho := g_m_ho.S hs
  replace g_m_fc := g_m_fc.S hs
  replace g_m_nt := g_m_nt.S hs
  replace g_m_wt := g_m_wt.S hs
  replace g_m_be := g_m_be.S hs
  replace g_m_bor := g_m_bor.S hs
  replace g_m_kin := g_m_kin.S hs
  replace g_m_sum := g_m_sum.S hs
  replace g_m_fro := g_m_fro.S hs
  replace g_m_fil := g_m_fil.S hs
  replace g_m_jud := g_m_jud.S hs
  replace g_m_ear := g_m_ear.S hs
  replace g_m_hds := g_m_hds.S hs
  replace g_m_ord := g_m_ord.S hs
  replace g_m_wkl := g_m_wkl.S hs
  replace g_m_owd := g_m_owd.S hs
  replace g_m_gds := g_m_gds.S hs
  replace g_m_szd := g_m_szd.S hs
  replace g_m_srv := g_m_srv.S hs
  replace g_y_p0 := g_y_p0.S hs
  replace g_m_p0 := g_m_p0.S hs
  replace g_y_p1 := g_y_p1.S hs
  replace g_m_p1 := g_m_p1.S hs
  replace g_y_p2 := g_y_p2.S hs
  replace g_m_p2 := g_m_p2.S hs
  replace g_y_p3 := g_y_p3.S hs
  replace g_m_p3 := g_m_p3.S hs
  replace g_y_p4 := g_y_p4.S hs
  replace g_m_p4 := g_m_p4.S hs
  replace g_qrg9 := g_qrg9.S hs
  replace g_y_ls := g_y_ls.S hs
  replace g_m_rl := g_m_rl.S hs
  have fw_228 : h_224.2.1 m_dox = w_228 := fw_228
  have fw_229 : h_224.2.1 m_doy = w_229 := fw_229
  have fw_230 : h_224.2.1 m_ear = w_230 := fw_230
  have fw_231 : h_224.2.1 m_hds = w_231 := fw_231
  obtain ⟨hr_227a, hr_227b⟩ := hr_227
  refine lv_pop hx hb dL_law_471 rfl ?_
  refine lv_goto (tgt := 1379) hx hb dL_law_472 ?o86 ?_
  case o86 => decide
  have heq := hx_ak ?o87 eq_dead hr_208a.1 hr_227a.1
  case o87 => omega
  have hq_dox := hw_adk heq eq_dox hr_208a.2.1 hr_227a.2.1; have hq_doy := hw_adk heq eq_doy hr_208a.2.2 hr_227a.2.2
  have hq_ear := hz_adf heq hr_208b.1 hr_227b.1; have hq_hds := hz_adf heq hr_208b.2 hr_227b.2
  refine W.widen (k := CC + 3) (n := SS + 179) ?o88 ?o89 ?_
  case o88 => omega
  case o89 => omega
  refine kk L_223 h_224 H locs ls hW ⟨hT, gx, gm, ⟨f_x_now.trans f_m_now.symm, f_x_personCount.trans f_m_persons.symm, f_x_claimCount.trans f_m_claims.symm, f_x_tapeLength.trans f_m_taped.symm, f_x_actCount.trans f_m_acts.symm, f_x_heardCount.trans f_m_heardMany.symm, hx_ob f_qo_ln (f_o_ln.trans f_m_lines.symm), hx_ob f_qw (f_o_lsd.trans f_m_listed.symm), hx_ob f_qw (f_o_wkm.trans f_m_walkedMany.symm), hx_ob f_qo_py (f_o_py.trans f_m_payments.symm), hx_ob f_qp ?o90, hx_ob f_qc ?o91, (fun b a r hb ha hr => ?o92), (fun b a r hb ha hr => ?o93), (fun b a r hb ha hr => ?o94), (fun b a r hb ha hr => ?o95), (fun b a r hb ha hr => ?o96), (fun b a r hb ha hr => ?o97), (fun w q c hw hq hc => ?o98), (fun w q r hw hq hr => ?o99), (fun w q r hw hq hr => ?o100), (fun c q a hc hq ha => ?o101), (fun q r hq hr => ?o102), (fun q w a b c d e p hq hw ha hb hc hd he hp => ?o103), (fun c q a hc hq ha => ?o104), (fun q c a hq hc ha => ?o105), (fun a b ha hb => ?o106), (fun c a b d e f hc ha hb hd he hf => ?o107), (fun c a hc ha => ?o108), hx_ob2 f_qp f_m_bor (cl_bor.trans n_bor.symm), hx_ob2 f_qp f_m_kin (cl_kin.trans n_kin.symm), hx_ob2 f_qc f_m_sum (cl_sum.trans n_sum.symm), hx_ob2 f_qc f_m_fro (cl_fro.trans n_fro.symm), hx_ob2 f_qc f_m_fil (cl_fil.trans n_fil.symm), hx_ob2 f_qc f_mh (cl_hea.trans n_mh.symm), hx_ob2 f_qc f_m_jud (cl_jud.trans n_jud.symm), hx_ob2 f_qp f_m_ear ((fw_211.trans hq_ear).trans fw_230.symm), hx_ob2 f_qp f_m_hds ((fw_212.trans hq_hds).trans fw_231.symm), hx_ob2 f_qc f_m_ord (cl_ord.trans n_ord.symm), hx_ob2 f_qc f_m_wkl (cl_wkl.trans n_wkl.symm), hx_ob2 f_qc f_m_owd (cl_owd.trans n_owd.symm), hx_ob2 f_qc f_m_gds (cl_gds.trans n_gds.symm), hx_ob2 f_qc f_m_szd (cl_szd.trans n_szd.symm), hx_ob2 f_qc f_m_srv (cl_srv.trans n_srv.symm), (fun p q r hp hq hr => ?o109), (fun p q r hp hq hr => ?o110), (fun p q r hp hq hr => ?o111), (fun p q r hp hq hr => ?o112), (fun p q r hp hq hr => ?o113), (fun p hp => ?o114), (fun p q r hp hq hr => ?o115), hx_ob2 f_qp f_m_dead ?o116, hx_ob2 f_qp f_m_isj ?o117, hx_ob2 f_qp f_m_dox ?o118, hx_ob2 f_qp f_m_doy ?o119, hx_ob2 f_qc f_m_fou ?o120, hx_ob2 f_qc f_mt ?o121, trivial⟩, ⟨hx_ob f_qa pf_qa, hx_ob f_qp pf_qp, hx_ob f_qc pf_qc, hx_ob f_qh pf_qh, (fun w q hw hq => ?o122)⟩, ⟨hx_ob f_mw ?o123, hx_ob f_mr ?o124, hx_ob2 f_mp f_mn ?o125, hx_ob f_ml ?o126, hx_ob f_mh ?o127, hx_ob f_mt ?o128, hx_ob2 f_mh f_m_fou ?o130⟩⟩ hl
  case o90 =>
    rw [f_x_personCount]
    exact nu_qp
  case o91 =>
    rw [f_x_claimCount]
    exact nu_qc
  case o92 =>
    obtain rfl : qo_ln = b := Option.some.inj (f_qo_ln.symm.trans hb)
    obtain rfl : b_of = a := Option.some.inj (f_b_of.symm.trans ha)
    obtain rfl : m_of = r := Option.some.inj (f_m_of.symm.trans hr)
    rw [n_b_of, n_m_of, f_o_ln]
    exact eb_of
  case o93 =>
    obtain rfl : qo_ln = b := Option.some.inj (f_qo_ln.symm.trans hb)
    obtain rfl : b_wf = a := Option.some.inj (f_b_wf.symm.trans ha)
    obtain rfl : m_wf = r := Option.some.inj (f_m_wf.symm.trans hr)
    rw [n_b_wf, n_m_wf, f_o_ln]
    exact eb_wf
  case o94 =>
    obtain rfl : qo_ln = b := Option.some.inj (f_qo_ln.symm.trans hb)
    obtain rfl : b_df = a := Option.some.inj (f_b_df.symm.trans ha)
    obtain rfl : m_df = r := Option.some.inj (f_m_df.symm.trans hr)
    rw [n_b_df, n_m_df, f_o_ln]
    exact eb_df
  case o95 =>
    obtain rfl : qo_ln = b := Option.some.inj (f_qo_ln.symm.trans hb)
    obtain rfl : b_kf = a := Option.some.inj (f_b_kf.symm.trans ha)
    obtain rfl : m_kf = r := Option.some.inj (f_m_kf.symm.trans hr)
    rw [n_b_kf, n_m_kf, f_o_ln]
    exact eb_kf
  case o96 =>
    obtain rfl : qo_ln = b := Option.some.inj (f_qo_ln.symm.trans hb)
    obtain rfl : b_sf = a := Option.some.inj (f_b_sf.symm.trans ha)
    obtain rfl : m_sf = r := Option.some.inj (f_m_sf.symm.trans hr)
    rw [n_b_sf, n_m_sf, f_o_ln]
    exact eb_sf
  case o97 =>
    obtain rfl : qo_ln = b := Option.some.inj (f_qo_ln.symm.trans hb)
    obtain rfl : b_df = a := Option.some.inj (f_b_df.symm.trans ha)
    obtain rfl : b_bf = r := Option.some.inj (f_b_bf.symm.trans hr)
    rw [n_b_df, n_b_bf, f_o_ln]
    exact ⟨hBD, hDY⟩
  case o98 =>
    obtain rfl : qw = w := Option.some.inj (f_qw.symm.trans hw)
    obtain rfl : ql = q := Option.some.inj (f_ql.symm.trans hq)
    obtain rfl : qc = c := Option.some.inj (f_qc.symm.trans hc)
    exact sb_list
  case o99 =>
    obtain rfl : qw = w := Option.some.inj (f_qw.symm.trans hw)
    obtain rfl : ql = q := Option.some.inj (f_ql.symm.trans hq)
    obtain rfl : m_lst = r := Option.some.inj (f_m_lst.symm.trans hr)
    rw [cl_lst, n_lst]
    exact eq_lst
  case o100 =>
    obtain rfl : qw = w := Option.some.inj (f_qw.symm.trans hw)
    obtain rfl : qlt = q := Option.some.inj (f_qlt.symm.trans hq)
    obtain rfl : m_wkd = r := Option.some.inj (f_m_wkd.symm.trans hr)
    rw [n_qlt, n_m_wkd, f_o_wkm]
    exact eb_wkd
  case o101 =>
    obtain rfl : qc = c := Option.some.inj (f_qc.symm.trans hc)
    obtain rfl : qp = q := Option.some.inj (f_qp.symm.trans hq)
    obtain rfl : m_aga = a := Option.some.inj (f_m_aga.symm.trans ha)
    rw [n_aga, f_x_claimCount]
    exact hw_DF_e hDF rfl rfl
  case o102 =>
    obtain rfl : qtp = q := Option.some.inj (f_qtp.symm.trans hq)
    obtain rfl : m_tp = r := Option.some.inj (f_m_tp.symm.trans hr)
    exact n_qtp.trans n_tp.symm
  case o103 =>
    obtain rfl : qa = q := Option.some.inj (f_qa.symm.trans hq)
    obtain rfl : qwo = w := Option.some.inj (f_qwo.symm.trans hw)
    obtain rfl : m_ad = a := Option.some.inj (f_m_ad.symm.trans ha)
    obtain rfl : mr = b := Option.some.inj (f_mr.symm.trans hb)
    obtain rfl : mn = c := Option.some.inj (f_mn.symm.trans hc)
    obtain rfl : mp = d := Option.some.inj (f_mp.symm.trans hd)
    obtain rfl : qc = e := Option.some.inj (f_qc.symm.trans he)
    obtain rfl : ml = p := Option.some.inj (f_ml.symm.trans hp)
    exact ⟨_, by rw [f_x_actCount]; exact hRA9, by rw [f_x_actCount, n_ad, n_mr, n_mn, n_mp]; exact hCA9, by rw [n_ml, f_x_claimCount]; exact hv_AC_e hAC9 rfl rfl rfl, hAB⟩
  case o104 =>
    obtain rfl : qc = c := Option.some.inj (f_qc.symm.trans hc)
    obtain rfl : qp = q := Option.some.inj (f_qp.symm.trans hq)
    obtain rfl : m_by = a := Option.some.inj (f_m_by.symm.trans ha)
    rw [n_by, f_x_claimCount]
    exact hw_DF_e hDP rfl rfl
  case o105 =>
    obtain rfl : qh = q := Option.some.inj (f_qh.symm.trans hq)
    obtain rfl : qc = c := Option.some.inj (f_qc.symm.trans hc)
    obtain rfl : m_ho = a := Option.some.inj (f_m_ho.symm.trans ha)
    rw [n_ho, f_x_heardCount, f_x_claimCount]
    exact hv_HL_e hHL rfl rfl rfl
  case o106 =>
    obtain rfl : m_ho = a := Option.some.inj (f_m_ho.symm.trans ha)
    obtain rfl : mh = b := Option.some.inj (f_mh.symm.trans hb)
    rw [n_ho, n_mh, f_m_heardMany, f_m_claims]
    exact hHO9
  case o107 =>
    obtain rfl : qc = c := Option.some.inj (f_qc.symm.trans hc)
    obtain rfl : m_fc = a := Option.some.inj (f_m_fc.symm.trans ha)
    obtain rfl : m_nt = b := Option.some.inj (f_m_nt.symm.trans hb)
    obtain rfl : m_wt = d := Option.some.inj (f_m_wt.symm.trans hd)
    obtain rfl : m_sum = e := Option.some.inj (f_m_sum.symm.trans he)
    obtain rfl : mh = f := Option.some.inj (f_mh.symm.trans hf)
    exact ⟨cF9L, by rw [f_x_claimCount]; exact hFX, by rw [n_fc, n_nt, n_wt, n_sum, n_mh, f_x_claimCount]; exact hFR9⟩
  case o108 =>
    obtain rfl : qc = c := Option.some.inj (f_qc.symm.trans hc)
    obtain rfl : m_be = a := Option.some.inj (f_m_be.symm.trans ha)
    rw [n_be, f_x_claimCount]
    exact hv_FX_e hBX rfl rfl
  case o109 =>
    obtain rfl : qo_py = p := Option.some.inj (f_qo_py.symm.trans hp)
    obtain rfl : y_p0 = q := Option.some.inj (f_y_p0.symm.trans hq)
    obtain rfl : m_p0 = r := Option.some.inj (f_m_p0.symm.trans hr)
    exact n_y_p0.trans n_p0.symm
  case o110 =>
    obtain rfl : qo_py = p := Option.some.inj (f_qo_py.symm.trans hp)
    obtain rfl : y_p1 = q := Option.some.inj (f_y_p1.symm.trans hq)
    obtain rfl : m_p1 = r := Option.some.inj (f_m_p1.symm.trans hr)
    exact n_y_p1.trans n_p1.symm
  case o111 =>
    obtain rfl : qo_py = p := Option.some.inj (f_qo_py.symm.trans hp)
    obtain rfl : y_p2 = q := Option.some.inj (f_y_p2.symm.trans hq)
    obtain rfl : m_p2 = r := Option.some.inj (f_m_p2.symm.trans hr)
    exact n_y_p2.trans n_p2.symm
  case o112 =>
    obtain rfl : qo_py = p := Option.some.inj (f_qo_py.symm.trans hp)
    obtain rfl : y_p3 = q := Option.some.inj (f_y_p3.symm.trans hq)
    obtain rfl : m_p3 = r := Option.some.inj (f_m_p3.symm.trans hr)
    exact n_y_p3.trans n_p3.symm
  case o113 =>
    obtain rfl : qo_py = p := Option.some.inj (f_qo_py.symm.trans hp)
    obtain rfl : y_p4 = q := Option.some.inj (f_y_p4.symm.trans hq)
    obtain rfl : m_p4 = r := Option.some.inj (f_m_p4.symm.trans hr)
    exact n_y_p4.trans n_p4.symm
  case o114 =>
    obtain rfl : qrg9 = p := Option.some.inj (f_qrg9.symm.trans hp)
    rw [ffv_190, ffv_191, ffv_192]
    exact hNQ9
  case o115 =>
    obtain rfl : qrg9 = p := Option.some.inj (f_qrg9.symm.trans hp)
    obtain rfl : y_ls = q := Option.some.inj (f_y_ls.symm.trans hq)
    obtain rfl : m_rl = r := Option.some.inj (f_m_rl.symm.trans hr)
    rw [n_y_ls, n_m_rl, ffv_190]
    exact hRL9
  case o116 =>
    rw [cl_dead, n_dead]
    exact eq_dead
  case o117 =>
    rw [cl_isj, n_isj]
    exact eq_isj
  case o118 =>
    rw [fw_209, fw_228]
    exact hq_dox
  case o119 =>
    rw [fw_210, fw_229]
    exact hq_doy
  case o120 =>
    rw [cl_fou, n_m_fou]
    exact eq_fou
  case o121 =>
    rw [cl_tri, n_mt]
    exact eq_tri
  case o122 =>
    obtain rfl : qw = w := Option.some.inj (f_qw.symm.trans hw)
    obtain rfl : ql = q := Option.some.inj (f_ql.symm.trans hq)
    exact pf_ql
  case o123 =>
    rw [n_mw]
    exact hwd
  case o124 =>
    rw [n_mr, f_m_acts]
    exact hWK
  case o125 =>
    rw [n_mp, n_mn, f_m_acts]
    exact hRP
  case o126 =>
    rw [n_ml, f_m_claims, f_m_acts]
    exact hPL
  case o127 =>
    rw [n_mh, f_m_heardMany, f_m_claims]
    exact hHC
  case o128 =>
    rw [n_mt]
    refine (hx_TR_le hTR ?o129)
    case o129 => omega
  case o130 =>
    rw [n_mh, n_m_fou, f_m_claims]
    exact hHF

set_option maxHeartbeats 4000000 in
set_option maxRecDepth 100000 in
theorem law_case_7 {p : Program} {e : Env} {s : State} {m : MethodId} {below : List Frame} {meth : Method} {c : Code} (l : Launch) {b LN : Nat} {xs : Nat → Int32} (hx : p.tables.exec = Jvm.exec) (hb : c.code = code) (hr : meth.sig.returnType = ret) (hlocks : meth.locks = false) (hml : c.maxLocals = 4) (hown : s.vm.findClass "SmallCourtLaw" = some m.cls) (hts : ∀ w ∈ hx_all, w.before #[Value.ref b] s = true) (hX : va_X b LN xs s s.heap) (hbl : b < s.heap.size) (hbA : ¬ s.heap.size ≤ b) (hLN : LN ≤ 3584) (dC : Nat → ClassId) (dI : Nat → Nat → Nat) (dA : Nat → ClassId) (b0 : hx_z) (ax am : Nat) (T1 : Int) (hT0 : 0 ≤ T1) (hT1 : T1 ≤ 511) (i : Int32) (hi0 : 0 ≤ i.toInt) (hiL : i.toInt + 7 ≤ LN) (CC SS : Nat) (hCC : CC + 3 ≤ 600000) (hSS : SS + 179 ≤ 7302250) (L1 : List Nat) (hl1 : hx_h) (H : Heap) (locs : List Loc) (ls : Array Slot) (hW : hx_W T_tb (P_ty dA) (dC, dI) vwCl (fun q : Nat => s.heap.size ≤ q) s.heap L1 hl1 s H locs) (hZ : hx_Xt (fun q : Nat => s.heap.size ≤ q) b0 s) (hI : hx_IV T1 ax am L1 hl1) (hl : lv_has ls 4 [(3, .int i), (2, .ref am), (1, .ref ax), (0, .ref b)]) (kk : ∀ (L2 : List Nat) (h2 : hx_h) (H2 : Heap) (locs2 : List Loc) (ls2 : Array Slot), hx_W T_tb (P_ty dA) (dC, dI) vwCl (fun q : Nat => s.heap.size ≤ q) s.heap L2 h2 s H2 locs2 → hx_IV (T1 + 1) ax am L2 h2 → lv_has ls2 4 [(3, .int i), (2, .ref am), (1, .ref ax), (0, .ref b)] → W p l e room_1 s m #[Value.ref b] below meth c H2 locs2 (CC + 3) (SS + 179) (lw_Z below #[Value.ref b] s) (F0 m 1379 ls2 [])) : W p l e room_1 s m #[Value.ref b] below meth c H locs CC SS (lw_Z below #[Value.ref b] s) (F0 m 475 ls []) := by
  have hI9 := hI
  have hT := hI9.1
  replace hI9 := hI9.2
  have gx := hI9.1
  replace hI9 := hI9.2
  have gm := hI9.1
  replace hI9 := hI9.2
  have zq0_3 := hI9.1
  have he_nw := zq0_3.1
  replace zq0_3 := zq0_3.2
  have he_np := zq0_3.1
  replace zq0_3 := zq0_3.2
  have he_c0 := zq0_3.1
  replace zq0_3 := zq0_3.2
  have he_tl := zq0_3.1
  replace zq0_3 := zq0_3.2
  have he_a0 := zq0_3.1
  replace zq0_3 := zq0_3.2
  have he_m0 := zq0_3.1
  replace zq0_3 := zq0_3.2
  have ho_ln := zq0_3.1
  replace zq0_3 := zq0_3.2
  have ho_lsd := zq0_3.1
  replace zq0_3 := zq0_3.2
  have ho_wkm := zq0_3.1
  replace zq0_3 := zq0_3.2
  have ho_py := zq0_3.1
  replace zq0_3 := zq0_3.2
  have hn_qp := zq0_3.1
  replace zq0_3 := zq0_3.2
  have hn_qc := zq0_3.1
  replace zq0_3 := zq0_3.2
  have hk_of := zq0_3.1
  replace zq0_3 := zq0_3.2
  have hk_wf := zq0_3.1
  replace zq0_3 := zq0_3.2
  have hk_df := zq0_3.1
  replace zq0_3 := zq0_3.2
  have hk_kf := zq0_3.1
  replace zq0_3 := zq0_3.2
  have hk_sf := zq0_3.1
  replace zq0_3 := zq0_3.2
  have hkBD := zq0_3.1
  replace zq0_3 := zq0_3.2
  have hLQ := zq0_3.1
  replace zq0_3 := zq0_3.2
  have hLE := zq0_3.1
  replace zq0_3 := zq0_3.2
  have hkWD := zq0_3.1
  replace zq0_3 := zq0_3.2
  have hkDF := zq0_3.1
  replace zq0_3 := zq0_3.2
  have hkTP := zq0_3.1
  replace zq0_3 := zq0_3.2
  have hkAC := zq0_3.1
  replace zq0_3 := zq0_3.2
  have hkDP := zq0_3.1
  replace zq0_3 := zq0_3.2
  have hkHL := zq0_3.1
  replace zq0_3 := zq0_3.2
  have hkHO := zq0_3.1
  replace zq0_3 := zq0_3.2
  have hkFX := zq0_3.1
  replace zq0_3 := zq0_3.2
  have hkBX := zq0_3.1
  replace zq0_3 := zq0_3.2
  have hf_bor := zq0_3.1
  replace zq0_3 := zq0_3.2
  have hf_kin := zq0_3.1
  replace zq0_3 := zq0_3.2
  have hf_sum := zq0_3.1
  replace zq0_3 := zq0_3.2
  have hf_fro := zq0_3.1
  replace zq0_3 := zq0_3.2
  have hf_fil := zq0_3.1
  replace zq0_3 := zq0_3.2
  have hf_hea := zq0_3.1
  replace zq0_3 := zq0_3.2
  have hf_jud := zq0_3.1
  replace zq0_3 := zq0_3.2
  have hf_ear := zq0_3.1
  replace zq0_3 := zq0_3.2
  have hf_hds := zq0_3.1
  replace zq0_3 := zq0_3.2
  have hf_ord := zq0_3.1
  replace zq0_3 := zq0_3.2
  have hf_wkl := zq0_3.1
  replace zq0_3 := zq0_3.2
  have hf_owd := zq0_3.1
  replace zq0_3 := zq0_3.2
  have hf_gds := zq0_3.1
  replace zq0_3 := zq0_3.2
  have hf_szd := zq0_3.1
  replace zq0_3 := zq0_3.2
  have hf_srv := zq0_3.1
  replace zq0_3 := zq0_3.2
  have hkP0 := zq0_3.1
  replace zq0_3 := zq0_3.2
  have hkP1 := zq0_3.1
  replace zq0_3 := zq0_3.2
  have hkP2 := zq0_3.1
  replace zq0_3 := zq0_3.2
  have hkP3 := zq0_3.1
  replace zq0_3 := zq0_3.2
  have hkP4 := zq0_3.1
  replace zq0_3 := zq0_3.2
  have hkNQ := zq0_3.1
  replace zq0_3 := zq0_3.2
  have hkRL := zq0_3.1
  replace zq0_3 := zq0_3.2
  have hc_dead := zq0_3.1
  replace zq0_3 := zq0_3.2
  have hc_isj := zq0_3.1
  replace zq0_3 := zq0_3.2
  have hc_dox := zq0_3.1
  replace zq0_3 := zq0_3.2
  have hc_doy := zq0_3.1
  replace zq0_3 := zq0_3.2
  have hc_fou := zq0_3.1
  replace zq0_3 := zq0_3.2
  have hc_tri := zq0_3.1
  replace zq0_3 := zq0_3.2
  replace hI9 := hI9.2
  have zq0_4 := hI9.1
  have ia := zq0_4.1
  replace zq0_4 := zq0_4.2
  have ip := zq0_4.1
  replace zq0_4 := zq0_4.2
  have ic := zq0_4.1
  replace zq0_4 := zq0_4.2
  have ih := zq0_4.1
  replace zq0_4 := zq0_4.2
  have il := zq0_4
  replace hI9 := hI9.2
  have zq0_5 := hI9
  have jw := zq0_5.1
  replace zq0_5 := zq0_5.2
  have jr := zq0_5.1
  replace zq0_5 := zq0_5.2
  have jp := zq0_5.1
  replace zq0_5 := zq0_5.2
  have jl := zq0_5.1
  replace zq0_5 := zq0_5.2
  have jh := zq0_5.1
  replace zq0_5 := zq0_5.2
  have jt := zq0_5.1
  replace zq0_5 := zq0_5.2
  have jf := zq0_5
  obtain ⟨qa, f_qa, g_qa⟩ := hx_rf hT gx tt_9 (k := 5) (u := 43) rfl
  have pf_qa := ia qa f_qa
  obtain ⟨qp, f_qp, g_qp⟩ := hx_rf hT gx tt_9 (k := 7) (u := 44) rfl
  have pf_qp := ip qp f_qp
  obtain ⟨qc, f_qc, g_qc⟩ := hx_rf hT gx tt_9 (k := 10) (u := 45) rfl
  have pf_qc := ic qc f_qc
  obtain ⟨qh, f_qh, g_qh⟩ := hx_rf hT gx tt_9 (k := 12) (u := 46) rfl
  have pf_qh := ih qh f_qh
  obtain ⟨qw, f_qw, g_qw⟩ := hx_rf hT gx tt_9 (k := 19) (u := 8) rfl
  obtain ⟨ql, f_ql, g_ql⟩ := hx_rf hT g_qw tt_8 (k := 3) (u := 40) rfl
  have pf_ql := il qw ql f_qw f_ql
  obtain ⟨nw, f_m_now⟩ : ∃ y : Int32, hl1.2.1 am 0 = y := ⟨_, rfl⟩
  have b_nw := hT.gi gm tt_10 (k := 0) rfl
  rw [f_m_now] at b_nw
  have b_nw : 0 ≤ nw.toInt ∧ nw.toInt ≤ 7999 := b_nw
  obtain ⟨np, f_m_persons⟩ : ∃ y : Int32, hl1.2.1 am 20 = y := ⟨_, rfl⟩
  have b_np := hT.gi gm tt_10 (k := 20) rfl
  rw [f_m_persons] at b_np
  have b_np : 0 ≤ np.toInt ∧ np.toInt ≤ 40 := b_np
  obtain ⟨c0, f_m_claims⟩ : ∃ y : Int32, hl1.2.1 am 36 = y := ⟨_, rfl⟩
  have b_c0 := hT.gi gm tt_10 (k := 36) rfl
  rw [f_m_claims] at b_c0
  have b_c0 : 0 ≤ c0.toInt ∧ c0.toInt ≤ 100 := b_c0
  obtain ⟨tl, f_m_taped⟩ : ∃ y : Int32, hl1.2.1 am 7 = y := ⟨_, rfl⟩
  have b_tl := hT.gi gm tt_10 (k := 7) rfl
  rw [f_m_taped] at b_tl
  have b_tl : 0 ≤ tl.toInt ∧ tl.toInt ≤ 400 := b_tl
  obtain ⟨a0, f_m_acts⟩ : ∃ y : Int32, hl1.2.1 am 1 = y := ⟨_, rfl⟩
  have b_a0 := hT.gi gm tt_10 (k := 1) rfl
  rw [f_m_acts] at b_a0
  have b_a0 : 0 ≤ a0.toInt ∧ a0.toInt ≤ 8 := b_a0
  obtain ⟨m0, f_m_heardMany⟩ : ∃ y : Int32, hl1.2.1 am 57 = y := ⟨_, rfl⟩
  have b_m0 := hT.gi gm tt_10 (k := 57) rfl
  rw [f_m_heardMany] at b_m0
  have b_m0 : 0 ≤ m0.toInt ∧ m0.toInt ≤ 100 := b_m0
  obtain ⟨ln, f_m_lines⟩ : ∃ y : Int32, hl1.2.1 am 29 = y := ⟨_, rfl⟩
  have b_ln := hT.gi gm tt_10 (k := 29) rfl
  rw [f_m_lines] at b_ln
  have b_ln : 0 ≤ ln.toInt ∧ ln.toInt ≤ 400 := b_ln
  obtain ⟨lsd, f_m_listed⟩ : ∃ y : Int32, hl1.2.1 am 90 = y := ⟨_, rfl⟩
  have b_lsd := hT.gi gm tt_10 (k := 90) rfl
  rw [f_m_listed] at b_lsd
  have b_lsd : 0 ≤ lsd.toInt ∧ lsd.toInt ≤ 8 := b_lsd
  obtain ⟨wkm, f_m_walkedMany⟩ : ∃ y : Int32, hl1.2.1 am 92 = y := ⟨_, rfl⟩
  have b_wkm := hT.gi gm tt_10 (k := 92) rfl
  rw [f_m_walkedMany] at b_wkm
  have b_wkm : 0 ≤ wkm.toInt ∧ wkm.toInt ≤ 8 := b_wkm
  obtain ⟨py, f_m_payments⟩ : ∃ y : Int32, hl1.2.1 am 59 = y := ⟨_, rfl⟩
  have b_py := hT.gi gm tt_10 (k := 59) rfl
  rw [f_m_payments] at b_py
  have b_py : 0 ≤ py.toInt ∧ py.toInt ≤ 600 := b_py
  have f_x_now : hl1.2.1 ax 2 = nw := he_nw.trans f_m_now
  have f_x_personCount : hl1.2.1 ax 8 = np := he_np.trans f_m_persons
  have f_x_claimCount : hl1.2.1 ax 11 = c0 := he_c0.trans f_m_claims
  have f_x_tapeLength : hl1.2.1 ax 1 = tl := he_tl.trans f_m_taped
  have f_x_actCount : hl1.2.1 ax 6 = a0 := he_a0.trans f_m_acts
  have f_x_heardCount : hl1.2.1 ax 13 = m0 := he_m0.trans f_m_heardMany
  obtain ⟨mw, f_mw, g_mw⟩ := hx_rf hT gm tt_10 (k := 19) (u := 57) rfl
  obtain ⟨F_mw, n_mw⟩ : ∃ g : Nat → Int32, hl1.2.1 mw = g := ⟨_, rfl⟩
  obtain ⟨mr, f_mr, g_mr⟩ := hx_rf hT gm tt_10 (k := 3) (u := 50) rfl
  obtain ⟨F_mr, n_mr⟩ : ∃ g : Nat → Int32, hl1.2.1 mr = g := ⟨_, rfl⟩
  obtain ⟨mp, f_mp, g_mp⟩ := hx_rf hT gm tt_10 (k := 5) (u := 52) rfl
  obtain ⟨F_mp, n_mp⟩ : ∃ g : Nat → Int32, hl1.2.1 mp = g := ⟨_, rfl⟩
  obtain ⟨mn, f_mn, g_mn⟩ := hx_rf hT gm tt_10 (k := 4) (u := 51) rfl
  obtain ⟨F_mn, n_mn⟩ : ∃ g : Nat → Int32, hl1.2.1 mn = g := ⟨_, rfl⟩
  obtain ⟨ml, f_ml, g_ml⟩ := hx_rf hT gm tt_10 (k := 44) (u := 79) rfl
  obtain ⟨F_ml, n_ml⟩ : ∃ g : Nat → Int32, hl1.2.1 ml = g := ⟨_, rfl⟩
  obtain ⟨mh, f_mh, g_mh⟩ := hx_rf hT gm tt_10 (k := 47) (u := 82) rfl
  obtain ⟨F_mh, n_mh⟩ : ∃ g : Nat → Int32, hl1.2.1 mh = g := ⟨_, rfl⟩
  obtain ⟨mt, f_mt, g_mt⟩ := hx_rf hT gm tt_10 (k := 45) (u := 80) rfl
  obtain ⟨F_mt, n_mt⟩ : ∃ g : Nat → Int32, hl1.2.1 mt = g := ⟨_, rfl⟩
  obtain ⟨m_fou, f_m_fou, g_m_fou⟩ := hx_rf hT gm tt_10 (k := 46) (u := 81) rfl
  obtain ⟨F_m_fou, n_m_fou⟩ : ∃ g : Nat → Int32, hl1.2.1 m_fou = g := ⟨_, rfl⟩
  obtain ⟨qo_ln, f_qo_ln, g_qo_ln⟩ := hx_rf hT gx tt_9 (k := 9) (u := 1) rfl
  have f_o_ln : hl1.2.1 qo_ln 0 = ln := (ho_ln qo_ln f_qo_ln).trans f_m_lines
  have f_o_lsd : hl1.2.1 qw 0 = lsd := (ho_lsd qw f_qw).trans f_m_listed
  have f_o_wkm : hl1.2.1 qw 1 = wkm := (ho_wkm qw f_qw).trans f_m_walkedMany
  obtain ⟨qo_py, f_qo_py, g_qo_py⟩ := hx_rf hT gx tt_9 (k := 14) (u := 3) rfl
  have f_o_py : hl1.2.1 qo_py 0 = py := (ho_py qo_py f_qo_py).trans f_m_payments
  have nu_qp := hn_qp qp f_qp; rw [f_x_personCount] at nu_qp
  have nu_qc := hn_qc qc f_qc; rw [f_x_claimCount] at nu_qc
  obtain ⟨b_of, f_b_of, g_b_of⟩ := hx_rf hT g_qo_ln tt_1 (k := 1) (u := 13) rfl
  obtain ⟨B_of, n_b_of⟩ : ∃ g : Nat → Int32, hl1.2.1 b_of = g := ⟨_, rfl⟩
  obtain ⟨m_of, f_m_of, g_m_of⟩ := hx_rf hT gm tt_10 (k := 30) (u := 66) rfl
  obtain ⟨F_of, n_m_of⟩ : ∃ g : Nat → Int32, hl1.2.1 m_of = g := ⟨_, rfl⟩
  have eb_of := hk_of qo_ln b_of m_of f_qo_ln f_b_of f_m_of; rw [n_b_of, n_m_of, f_o_ln] at eb_of
  obtain ⟨b_wf, f_b_wf, g_b_wf⟩ := hx_rf hT g_qo_ln tt_1 (k := 2) (u := 14) rfl
  obtain ⟨B_wf, n_b_wf⟩ : ∃ g : Nat → Int32, hl1.2.1 b_wf = g := ⟨_, rfl⟩
  obtain ⟨m_wf, f_m_wf, g_m_wf⟩ := hx_rf hT gm tt_10 (k := 31) (u := 67) rfl
  obtain ⟨F_wf, n_m_wf⟩ : ∃ g : Nat → Int32, hl1.2.1 m_wf = g := ⟨_, rfl⟩
  have eb_wf := hk_wf qo_ln b_wf m_wf f_qo_ln f_b_wf f_m_wf; rw [n_b_wf, n_m_wf, f_o_ln] at eb_wf
  obtain ⟨b_df, f_b_df, g_b_df⟩ := hx_rf hT g_qo_ln tt_1 (k := 3) (u := 15) rfl
  obtain ⟨B_df, n_b_df⟩ : ∃ g : Nat → Int32, hl1.2.1 b_df = g := ⟨_, rfl⟩
  obtain ⟨m_df, f_m_df, g_m_df⟩ := hx_rf hT gm tt_10 (k := 32) (u := 68) rfl
  obtain ⟨F_df, n_m_df⟩ : ∃ g : Nat → Int32, hl1.2.1 m_df = g := ⟨_, rfl⟩
  have eb_df := hk_df qo_ln b_df m_df f_qo_ln f_b_df f_m_df; rw [n_b_df, n_m_df, f_o_ln] at eb_df
  obtain ⟨b_kf, f_b_kf, g_b_kf⟩ := hx_rf hT g_qo_ln tt_1 (k := 4) (u := 16) rfl
  obtain ⟨B_kf, n_b_kf⟩ : ∃ g : Nat → Int32, hl1.2.1 b_kf = g := ⟨_, rfl⟩
  obtain ⟨m_kf, f_m_kf, g_m_kf⟩ := hx_rf hT gm tt_10 (k := 33) (u := 69) rfl
  obtain ⟨F_kf, n_m_kf⟩ : ∃ g : Nat → Int32, hl1.2.1 m_kf = g := ⟨_, rfl⟩
  have eb_kf := hk_kf qo_ln b_kf m_kf f_qo_ln f_b_kf f_m_kf; rw [n_b_kf, n_m_kf, f_o_ln] at eb_kf
  obtain ⟨b_sf, f_b_sf, g_b_sf⟩ := hx_rf hT g_qo_ln tt_1 (k := 5) (u := 17) rfl
  obtain ⟨B_sf, n_b_sf⟩ : ∃ g : Nat → Int32, hl1.2.1 b_sf = g := ⟨_, rfl⟩
  obtain ⟨m_sf, f_m_sf, g_m_sf⟩ := hx_rf hT gm tt_10 (k := 34) (u := 70) rfl
  obtain ⟨F_sf, n_m_sf⟩ : ∃ g : Nat → Int32, hl1.2.1 m_sf = g := ⟨_, rfl⟩
  have eb_sf := hk_sf qo_ln b_sf m_sf f_qo_ln f_b_sf f_m_sf; rw [n_b_sf, n_m_sf, f_o_ln] at eb_sf
  obtain ⟨b_bf, f_b_bf, g_b_bf⟩ := hx_rf hT g_qo_ln tt_1 (k := 6) (u := 18) rfl
  obtain ⟨bfL, n_b_bf⟩ : ∃ g : Nat → Int32, hl1.2.1 b_bf = g := ⟨_, rfl⟩
  obtain ⟨hBD, hDY⟩ := hkBD qo_ln b_df b_bf f_qo_ln f_b_df f_b_bf; rw [n_b_df, n_b_bf, f_o_ln] at hBD; rw [n_b_df, f_o_ln] at hDY
  have hBDm := hy_BD_c eb_df hBD
  have hDYm : hy_DY F_df ln.toInt.toNat := fun x hx => by rw [← eb_df x hx]; exact hDY x hx
  have sb_list := hLQ qw ql qc f_qw f_ql f_qc
  obtain ⟨m_lst, f_m_lst, g_m_lst⟩ := hx_rf hT gm tt_10 (k := 91) (u := 112) rfl
  obtain ⟨F_lst, n_lst⟩ : ∃ g : Nat → Int32, hl1.2.1 m_lst = g := ⟨_, rfl⟩
  obtain ⟨c_lst, cl_lst⟩ : ∃ g : Nat → Int32, hx_col 8 hl1 ql 0 = g := ⟨_, rfl⟩
  have eq_lst := hLE qw ql m_lst f_qw f_ql f_m_lst; rw [cl_lst, n_lst] at eq_lst
  obtain ⟨qtp, f_qtp, g_qtp⟩ := hx_rf hT gx tt_9 (k := 0) (u := 42) rfl
  obtain ⟨m_tp, f_m_tp, g_m_tp⟩ := hx_rf hT gm tt_10 (k := 6) (u := 53) rfl
  obtain ⟨F_tp, n_tp⟩ : ∃ g : Nat → Int32, hl1.2.1 m_tp = g := ⟨_, rfl⟩
  have n_qtp : hl1.2.1 qtp = F_tp := (hkTP qtp m_tp f_qtp f_m_tp).trans n_tp
  obtain ⟨c_dead, cl_dead⟩ : ∃ g : Nat → Int32, hx_col 40 hl1 qp 7 = g := ⟨_, rfl⟩
  obtain ⟨m_dead, f_m_dead, g_m_dead⟩ := hx_rf hT gm tt_10 (k := 27) (u := 64) rfl
  obtain ⟨F_dead, n_dead⟩ : ∃ g : Nat → Int32, hl1.2.1 m_dead = g := ⟨_, rfl⟩
  have eq_dead := hc_dead qp m_dead f_qp f_m_dead; rw [cl_dead, n_dead] at eq_dead
  have z_dead : np.toInt.toNat < 40 → c_dead np.toInt.toNat = 0 := fun hj => hx_num_z nu_qp cl_dead hj ?o0
  case o0 => omega
  obtain ⟨c_isj, cl_isj⟩ : ∃ g : Nat → Int32, hx_col 40 hl1 qp 8 = g := ⟨_, rfl⟩
  obtain ⟨m_isj, f_m_isj, g_m_isj⟩ := hx_rf hT gm tt_10 (k := 28) (u := 65) rfl
  obtain ⟨F_isj, n_isj⟩ : ∃ g : Nat → Int32, hl1.2.1 m_isj = g := ⟨_, rfl⟩
  have eq_isj := hc_isj qp m_isj f_qp f_m_isj; rw [cl_isj, n_isj] at eq_isj
  have z_isj : np.toInt.toNat < 40 → c_isj np.toInt.toNat = 0 := fun hj => hx_num_z nu_qp cl_isj hj ?o1
  case o1 => omega
  obtain ⟨c_dox, cl_dox⟩ : ∃ g : Nat → Int32, hx_col 40 hl1 qp 5 = g := ⟨_, rfl⟩
  obtain ⟨m_dox, f_m_dox, g_m_dox⟩ := hx_rf hT gm tt_10 (k := 24) (u := 61) rfl
  obtain ⟨F_dox, n_dox⟩ : ∃ g : Nat → Int32, hl1.2.1 m_dox = g := ⟨_, rfl⟩
  have eq_dox := hc_dox qp m_dox f_qp f_m_dox; rw [cl_dox, n_dox] at eq_dox
  have z_dox : np.toInt.toNat < 40 → c_dox np.toInt.toNat = 0 := fun hj => hx_num_z nu_qp cl_dox hj ?o2
  case o2 => omega
  obtain ⟨c_doy, cl_doy⟩ : ∃ g : Nat → Int32, hx_col 40 hl1 qp 6 = g := ⟨_, rfl⟩
  obtain ⟨m_doy, f_m_doy, g_m_doy⟩ := hx_rf hT gm tt_10 (k := 25) (u := 62) rfl
  obtain ⟨F_doy, n_doy⟩ : ∃ g : Nat → Int32, hl1.2.1 m_doy = g := ⟨_, rfl⟩
  have eq_doy := hc_doy qp m_doy f_qp f_m_doy; rw [cl_doy, n_doy] at eq_doy
  have z_doy : np.toInt.toNat < 40 → c_doy np.toInt.toNat = 0 := fun hj => hx_num_z nu_qp cl_doy hj ?o3
  case o3 => omega
  obtain ⟨c_fou, cl_fou⟩ : ∃ g : Nat → Int32, hx_col 100 hl1 qc 10 = g := ⟨_, rfl⟩
  have eq_fou := hc_fou qc m_fou f_qc f_m_fou; rw [cl_fou, n_m_fou] at eq_fou
  have z_fou : c0.toInt.toNat < 100 → c_fou c0.toInt.toNat = 0 := fun hj => hx_num_z nu_qc cl_fou hj ?o4
  case o4 => omega
  obtain ⟨c_tri, cl_tri⟩ : ∃ g : Nat → Int32, hx_col 100 hl1 qc 9 = g := ⟨_, rfl⟩
  have eq_tri := hc_tri qc mt f_qc f_mt; rw [cl_tri, n_mt] at eq_tri
  have z_tri : c0.toInt.toNat < 100 → c_tri c0.toInt.toNat = 0 := fun hj => hx_num_z nu_qc cl_tri hj ?o5
  case o5 => omega
  obtain ⟨qlt, f_qlt, g_qlt⟩ := hx_rf hT g_qw tt_8 (k := 2) (u := 39) rfl
  obtain ⟨qlf, f_qlf, g_qlf⟩ := hx_rf hT g_qw tt_8 (k := 4) (u := 41) rfl
  obtain ⟨m_wkd, f_m_wkd, g_m_wkd⟩ := hx_rf hT gm tt_10 (k := 93) (u := 113) rfl
  obtain ⟨F_qlt, n_qlt⟩ : ∃ g : Nat → Int32, hl1.2.1 qlt = g := ⟨_, rfl⟩
  obtain ⟨F_m_wkd, n_m_wkd⟩ : ∃ g : Nat → Int32, hl1.2.1 m_wkd = g := ⟨_, rfl⟩
  have eb_wkd := hkWD qw qlt m_wkd f_qw f_qlt f_m_wkd; rw [n_qlt, n_m_wkd, f_o_wkm] at eb_wkd
  obtain ⟨m_aga, f_m_aga, g_m_aga⟩ := hx_rf hT gm tt_10 (k := 38) (u := 73) rfl
  obtain ⟨F_aga, n_aga⟩ : ∃ g : Nat → Int32, hl1.2.1 m_aga = g := ⟨_, rfl⟩
  have hDF := hkDF qc qp m_aga f_qc f_qp f_m_aga; rw [n_aga, f_x_claimCount] at hDF
  obtain ⟨qwo, f_qwo, g_qwo⟩ := hx_rf hT gx tt_9 (k := 4) (u := 0) rfl
  obtain ⟨m_ad, f_m_ad, g_m_ad⟩ := hx_rf hT gm tt_10 (k := 2) (u := 49) rfl
  obtain ⟨F_ad, n_ad⟩ : ∃ g : Nat → Int32, hl1.2.1 m_ad = g := ⟨_, rfl⟩
  obtain ⟨A9, hRA9, hCA9, hAC9, hAB⟩ := hkAC qa qwo m_ad mr mn mp qc ml f_qa f_qwo f_m_ad f_mr f_mn f_mp f_qc f_ml
  rw [f_x_actCount] at hRA9; rw [f_x_actCount, n_ad, n_mr, n_mn, n_mp] at hCA9
  obtain ⟨m_by, f_m_by, g_m_by⟩ := hx_rf hT gm tt_10 (k := 37) (u := 72) rfl
  obtain ⟨F_by, n_by⟩ : ∃ g : Nat → Int32, hl1.2.1 m_by = g := ⟨_, rfl⟩
  obtain ⟨m_ho, f_m_ho, g_m_ho⟩ := hx_rf hT gm tt_10 (k := 58) (u := 92) rfl
  obtain ⟨F_ho, n_ho⟩ : ∃ g : Nat → Int32, hl1.2.1 m_ho = g := ⟨_, rfl⟩
  obtain ⟨m_fc, f_m_fc, g_m_fc⟩ := hx_rf hT gm tt_10 (k := 53) (u := 88) rfl
  obtain ⟨F_fc, n_fc⟩ : ∃ g : Nat → Int32, hl1.2.1 m_fc = g := ⟨_, rfl⟩
  obtain ⟨m_nt, f_m_nt, g_m_nt⟩ := hx_rf hT gm tt_10 (k := 41) (u := 76) rfl
  obtain ⟨F_nt, n_nt⟩ : ∃ g : Nat → Int32, hl1.2.1 m_nt = g := ⟨_, rfl⟩
  obtain ⟨m_wt, f_m_wt, g_m_wt⟩ := hx_rf hT gm tt_10 (k := 42) (u := 77) rfl
  obtain ⟨F_wt, n_wt⟩ : ∃ g : Nat → Int32, hl1.2.1 m_wt = g := ⟨_, rfl⟩
  obtain ⟨m_be, f_m_be, g_m_be⟩ := hx_rf hT gm tt_10 (k := 52) (u := 87) rfl
  obtain ⟨F_be, n_be⟩ : ∃ g : Nat → Int32, hl1.2.1 m_be = g := ⟨_, rfl⟩
  obtain ⟨m_bor, f_m_bor, g_m_bor⟩ := hx_rf hT gm tt_10 (k := 21) (u := 58) rfl
  obtain ⟨F_bor, n_bor⟩ : ∃ g : Nat → Int32, hl1.2.1 m_bor = g := ⟨_, rfl⟩
  obtain ⟨m_kin, f_m_kin, g_m_kin⟩ := hx_rf hT gm tt_10 (k := 26) (u := 63) rfl
  obtain ⟨F_kin, n_kin⟩ : ∃ g : Nat → Int32, hl1.2.1 m_kin = g := ⟨_, rfl⟩
  obtain ⟨m_sum, f_m_sum, g_m_sum⟩ := hx_rf hT gm tt_10 (k := 39) (u := 74) rfl
  obtain ⟨F_sum, n_sum⟩ : ∃ g : Nat → Int32, hl1.2.1 m_sum = g := ⟨_, rfl⟩
  obtain ⟨m_fro, f_m_fro, g_m_fro⟩ := hx_rf hT gm tt_10 (k := 40) (u := 75) rfl
  obtain ⟨F_fro, n_fro⟩ : ∃ g : Nat → Int32, hl1.2.1 m_fro = g := ⟨_, rfl⟩
  obtain ⟨m_fil, f_m_fil, g_m_fil⟩ := hx_rf hT gm tt_10 (k := 43) (u := 78) rfl
  obtain ⟨F_fil, n_fil⟩ : ∃ g : Nat → Int32, hl1.2.1 m_fil = g := ⟨_, rfl⟩
  obtain ⟨m_jud, f_m_jud, g_m_jud⟩ := hx_rf hT gm tt_10 (k := 51) (u := 86) rfl
  obtain ⟨F_jud, n_jud⟩ : ∃ g : Nat → Int32, hl1.2.1 m_jud = g := ⟨_, rfl⟩
  obtain ⟨m_ear, f_m_ear, g_m_ear⟩ := hx_rf hT gm tt_10 (k := 22) (u := 59) rfl
  obtain ⟨F_ear, n_ear⟩ : ∃ g : Nat → Int32, hl1.2.1 m_ear = g := ⟨_, rfl⟩
  obtain ⟨m_hds, f_m_hds, g_m_hds⟩ := hx_rf hT gm tt_10 (k := 23) (u := 60) rfl
  obtain ⟨F_hds, n_hds⟩ : ∃ g : Nat → Int32, hl1.2.1 m_hds = g := ⟨_, rfl⟩
  obtain ⟨m_ord, f_m_ord, g_m_ord⟩ := hx_rf hT gm tt_10 (k := 48) (u := 83) rfl
  obtain ⟨F_ord, n_ord⟩ : ∃ g : Nat → Int32, hl1.2.1 m_ord = g := ⟨_, rfl⟩
  obtain ⟨m_wkl, f_m_wkl, g_m_wkl⟩ := hx_rf hT gm tt_10 (k := 54) (u := 89) rfl
  obtain ⟨F_wkl, n_wkl⟩ : ∃ g : Nat → Int32, hl1.2.1 m_wkl = g := ⟨_, rfl⟩
  obtain ⟨m_owd, f_m_owd, g_m_owd⟩ := hx_rf hT gm tt_10 (k := 55) (u := 90) rfl
  obtain ⟨F_owd, n_owd⟩ : ∃ g : Nat → Int32, hl1.2.1 m_owd = g := ⟨_, rfl⟩
  obtain ⟨m_gds, f_m_gds, g_m_gds⟩ := hx_rf hT gm tt_10 (k := 56) (u := 91) rfl
  obtain ⟨F_gds, n_gds⟩ : ∃ g : Nat → Int32, hl1.2.1 m_gds = g := ⟨_, rfl⟩
  obtain ⟨m_szd, f_m_szd, g_m_szd⟩ := hx_rf hT gm tt_10 (k := 49) (u := 84) rfl
  obtain ⟨F_szd, n_szd⟩ : ∃ g : Nat → Int32, hl1.2.1 m_szd = g := ⟨_, rfl⟩
  obtain ⟨m_srv, f_m_srv, g_m_srv⟩ := hx_rf hT gm tt_10 (k := 50) (u := 85) rfl
  obtain ⟨F_srv, n_srv⟩ : ∃ g : Nat → Int32, hl1.2.1 m_srv = g := ⟨_, rfl⟩
  have cl_bor : hx_col 40 hl1 qp 1 = F_bor := (hf_bor qp m_bor f_qp f_m_bor).trans n_bor
  have cl_kin : hx_col 40 hl1 qp 2 = F_kin := (hf_kin qp m_kin f_qp f_m_kin).trans n_kin
  have cl_sum : hx_col 100 hl1 qc 6 = F_sum := (hf_sum qc m_sum f_qc f_m_sum).trans n_sum
  have cl_fro : hx_col 100 hl1 qc 7 = F_fro := (hf_fro qc m_fro f_qc f_m_fro).trans n_fro
  have cl_fil : hx_col 100 hl1 qc 8 = F_fil := (hf_fil qc m_fil f_qc f_m_fil).trans n_fil
  have cl_hea : hx_col 100 hl1 qc 11 = F_mh := (hf_hea qc mh f_qc f_mh).trans n_mh
  have cl_jud : hx_col 100 hl1 qc 12 = F_jud := (hf_jud qc m_jud f_qc f_m_jud).trans n_jud
  have cl_ear : hx_col 40 hl1 qp 3 = F_ear := (hf_ear qp m_ear f_qp f_m_ear).trans n_ear
  have cl_hds : hx_col 40 hl1 qp 4 = F_hds := (hf_hds qp m_hds f_qp f_m_hds).trans n_hds
  have cl_ord : hx_col 100 hl1 qc 13 = F_ord := (hf_ord qc m_ord f_qc f_m_ord).trans n_ord
  have cl_wkl : hx_col 100 hl1 qc 14 = F_wkl := (hf_wkl qc m_wkl f_qc f_m_wkl).trans n_wkl
  have cl_owd : hx_col 100 hl1 qc 15 = F_owd := (hf_owd qc m_owd f_qc f_m_owd).trans n_owd
  have cl_gds : hx_col 100 hl1 qc 17 = F_gds := (hf_gds qc m_gds f_qc f_m_gds).trans n_gds
  have cl_szd : hx_col 100 hl1 qc 16 = F_szd := (hf_szd qc m_szd f_qc f_m_szd).trans n_szd
  have cl_srv : hx_col 100 hl1 qc 18 = F_srv := (hf_srv qc m_srv f_qc f_m_srv).trans n_srv
  have htb9 : ∀ c, c < 100 → 0 ≤ (c_tri c).toInt ∧ (c_tri c).toInt ≤ 512 := fun c hc => by rw [eq_tri c hc]; have w := hT.ei g_mt tt_80 (k := c) hc; rw [n_mt] at w; exact w
  have z_jud : F_jud c0.toInt.toNat = 0 := hx_num_z2 nu_qc cl_jud ?o6
  case o6 => omega
  have hDP := hkDP qc qp m_by f_qc f_qp f_m_by; rw [n_by, f_x_claimCount] at hDP
  have hHL := hkHL qh qc m_ho f_qh f_qc f_m_ho; rw [n_ho, f_x_heardCount, f_x_claimCount] at hHL
  have hHO9 := hkHO m_ho mh f_m_ho f_mh; rw [n_ho, n_mh, f_m_heardMany, f_m_claims] at hHO9
  obtain ⟨cF9L, hFX, hFR9⟩ := hkFX qc m_fc m_nt m_wt m_sum mh f_qc f_m_fc f_m_nt f_m_wt f_m_sum f_mh; rw [f_x_claimCount] at hFX; rw [n_fc, n_nt, n_wt, n_sum, n_mh, f_x_claimCount] at hFR9
  have hBX := hkBX qc m_be f_qc f_m_be; rw [n_be, f_x_claimCount] at hBX
  rw [n_ml, f_x_claimCount] at hAC9
  obtain ⟨y_p0, f_y_p0, g_y_p0⟩ := hx_rf hT g_qo_py tt_3 (k := 2) (u := 23) rfl
  obtain ⟨m_p0, f_m_p0, g_m_p0⟩ := hx_rf hT gm tt_10 (k := 60) (u := 93) rfl
  obtain ⟨F_p0, n_p0⟩ : ∃ g : Nat → Int32, hl1.2.1 m_p0 = g := ⟨_, rfl⟩
  have n_y_p0 : hl1.2.1 y_p0 = F_p0 := (hkP0 qo_py y_p0 m_p0 f_qo_py f_y_p0 f_m_p0).trans n_p0
  obtain ⟨y_p1, f_y_p1, g_y_p1⟩ := hx_rf hT g_qo_py tt_3 (k := 3) (u := 24) rfl
  obtain ⟨m_p1, f_m_p1, g_m_p1⟩ := hx_rf hT gm tt_10 (k := 61) (u := 94) rfl
  obtain ⟨F_p1, n_p1⟩ : ∃ g : Nat → Int32, hl1.2.1 m_p1 = g := ⟨_, rfl⟩
  have n_y_p1 : hl1.2.1 y_p1 = F_p1 := (hkP1 qo_py y_p1 m_p1 f_qo_py f_y_p1 f_m_p1).trans n_p1
  obtain ⟨y_p2, f_y_p2, g_y_p2⟩ := hx_rf hT g_qo_py tt_3 (k := 5) (u := 26) rfl
  obtain ⟨m_p2, f_m_p2, g_m_p2⟩ := hx_rf hT gm tt_10 (k := 62) (u := 95) rfl
  obtain ⟨F_p2, n_p2⟩ : ∃ g : Nat → Int32, hl1.2.1 m_p2 = g := ⟨_, rfl⟩
  have n_y_p2 : hl1.2.1 y_p2 = F_p2 := (hkP2 qo_py y_p2 m_p2 f_qo_py f_y_p2 f_m_p2).trans n_p2
  obtain ⟨y_p3, f_y_p3, g_y_p3⟩ := hx_rf hT g_qo_py tt_3 (k := 4) (u := 25) rfl
  obtain ⟨m_p3, f_m_p3, g_m_p3⟩ := hx_rf hT gm tt_10 (k := 63) (u := 96) rfl
  obtain ⟨F_p3, n_p3⟩ : ∃ g : Nat → Int32, hl1.2.1 m_p3 = g := ⟨_, rfl⟩
  have n_y_p3 : hl1.2.1 y_p3 = F_p3 := (hkP3 qo_py y_p3 m_p3 f_qo_py f_y_p3 f_m_p3).trans n_p3
  obtain ⟨y_p4, f_y_p4, g_y_p4⟩ := hx_rf hT g_qo_py tt_3 (k := 1) (u := 22) rfl
  obtain ⟨m_p4, f_m_p4, g_m_p4⟩ := hx_rf hT gm tt_10 (k := 64) (u := 97) rfl
  obtain ⟨F_p4, n_p4⟩ : ∃ g : Nat → Int32, hl1.2.1 m_p4 = g := ⟨_, rfl⟩
  have n_y_p4 : hl1.2.1 y_p4 = F_p4 := (hkP4 qo_py y_p4 m_p4 f_qo_py f_y_p4 f_m_p4).trans n_p4
  obtain ⟨qrg9, f_qrg9, g_qrg9⟩ := hx_rf hT gx tt_9 (k := 18) (u := 7) rfl
  obtain ⟨y_ls, f_y_ls, g_y_ls⟩ := hx_rf hT g_qrg9 tt_7 (k := 3) (u := 35) rfl
  obtain ⟨m_rl, f_m_rl, g_m_rl⟩ := hx_rf hT gm tt_10 (k := 85) (u := 109) rfl
  obtain ⟨F_y_ls, n_y_ls⟩ : ∃ g : Nat → Int32, hl1.2.1 y_ls = g := ⟨_, rfl⟩
  obtain ⟨F_m_rl, n_m_rl⟩ : ∃ g : Nat → Int32, hl1.2.1 m_rl = g := ⟨_, rfl⟩
  obtain ⟨fv_232, efv_232⟩ : ∃ y : Int32, y = hl1.2.1 qrg9 0 := ⟨_, rfl⟩
  have bfv_232 := hT.gi g_qrg9 tt_7 (k := 0) rfl
  rw [← efv_232] at bfv_232
  have bfv_232 : -1 ≤ fv_232.toInt ∧ fv_232.toInt ≤ 100 := bfv_232
  have ffv_232 := efv_232.symm
  obtain ⟨fv_233, efv_233⟩ : ∃ y : Int32, y = hl1.2.1 am 83 := ⟨_, rfl⟩
  have bfv_233 := hT.gi gm tt_10 (k := 83) rfl
  rw [← efv_233] at bfv_233
  have bfv_233 : 0 ≤ fv_233.toInt ∧ fv_233.toInt ≤ 1 := bfv_233
  have ffv_233 := efv_233.symm
  obtain ⟨fv_234, efv_234⟩ : ∃ y : Int32, y = hl1.2.1 am 84 := ⟨_, rfl⟩
  have bfv_234 := hT.gi gm tt_10 (k := 84) rfl
  rw [← efv_234] at bfv_234
  have bfv_234 : 0 ≤ fv_234.toInt ∧ fv_234.toInt ≤ 300 := bfv_234
  have ffv_234 := efv_234.symm
  have hNQ9 := hkNQ qrg9 f_qrg9; rw [ffv_232, ffv_233, ffv_234] at hNQ9
  have hRL9 := hkRL qrg9 y_ls m_rl f_qrg9 f_y_ls f_m_rl; rw [n_y_ls, n_m_rl, ffv_232] at hRL9
  have hCB : hz_CB F_ord F_wkl F_owd F_szd F_gds F_srv := fun c hc => ⟨by have w := hT.ei g_m_ord tt_83 (k := c) (by omega); rw [n_ord] at w; exact w, by have w := hT.ei g_m_wkl tt_89 (k := c) (by omega); rw [n_wkl] at w; exact w, by have w := hT.ei g_m_owd tt_90 (k := c) (by omega); rw [n_owd] at w; exact w, by have w := hT.ei g_m_szd tt_84 (k := c) (by omega); rw [n_szd] at w; exact w, by have w := hT.ei g_m_gds tt_91 (k := c) (by omega); rw [n_gds] at w; exact w, by have w := hT.ei g_m_srv tt_85 (k := c) (by omega); rw [n_srv] at w; exact w⟩
  have hps : ∀ j, j < 600 → 0 ≤ (F_p2 j).toInt ∧ (F_p2 j).toInt ≤ 610000 := fun j hj => by have w := hT.ei g_m_p2 tt_95 (k := j) (by omega); rw [n_p2] at w; exact w
  have hte9 : ∀ c : Nat, c < 100 → (0 ≤ (c_tri c).toInt ∧ (c_tri c).toInt ≤ 512) ∧ (0 ≤ (F_sum c).toInt ∧ (F_sum c).toInt ≤ 9999) := fun c hc => ⟨htb9 c hc, by have w := hT.ei g_m_sum tt_74 (k := c) (by omega); rw [n_sum] at w; exact w⟩
  have hee9 : ∀ c : Nat, c < 40 → (0 ≤ (F_ear c).toInt ∧ (F_ear c).toInt ≤ 9999) ∧ (0 ≤ (F_hds c).toInt ∧ (F_hds c).toInt ≤ 20) := fun c hc => ⟨by have w := hT.ei g_m_ear tt_59 (k := c) (by omega); rw [n_ear] at w; exact w, by have w := hT.ei g_m_hds tt_60 (k := c) (by omega); rw [n_hds] at w; exact w⟩
  have bAG9 : ∀ k, k < 100 → 0 ≤ (F_aga k).toInt ∧ (F_aga k).toInt ≤ 39 := fun k hk => by have w := hT.ei g_m_aga tt_73 (k := k) (by omega); rw [n_aga] at w; exact w
  have bBY9 : ∀ k, k < 100 → 0 ≤ (F_by k).toInt ∧ (F_by k).toInt ≤ 39 := fun k hk => by have w := hT.ei g_m_by tt_72 (k := k) (by omega); rw [n_by] at w; exact w
  have hag9 : ∀ c, c < c0.toInt.toNat → 0 ≤ (F_aga c).toInt ∧ (F_aga c).toInt < 40 ∧ 0 ≤ (F_by c).toInt ∧ (F_by c).toInt < 40 := fun c hc => by have a9 := bAG9 c (by omega); have b9 := bBY9 c (by omega); omega
  have z_wkl : F_wkl c0.toInt.toNat = 0 := hx_num_z2 nu_qc cl_wkl ?o7
  case o7 => omega
  have z_owd : F_owd c0.toInt.toNat = 0 := hx_num_z2 nu_qc cl_owd ?o8
  case o8 => omega
  have z_gds : F_gds c0.toInt.toNat = 0 := hx_num_z2 nu_qc cl_gds ?o9
  case o9 => omega
  have hwd := jw mw f_mw; rw [n_mw] at hwd
  have hWK := jr mr f_mr; rw [n_mr, f_m_acts] at hWK
  have hRP := jp mp mn f_mp f_mn; rw [n_mp, n_mn, f_m_acts] at hRP
  have hPL := jl ml f_ml; rw [n_ml, f_m_claims, f_m_acts] at hPL
  have hHC := jh mh f_mh; rw [n_mh, f_m_heardMany, f_m_claims] at hHC
  have hTR := jt mt f_mt; rw [n_mt] at hTR
  have hHF := jf mh m_fou f_mh f_m_fou; rw [n_mh, n_m_fou, f_m_claims] at hHF
  refine lv_aload_n hx hb dL_law_475 rfl (lv_at hl 2 rfl) ?_
  refine lv_aload_n hx hb dL_law_476 rfl (lv_at hl 3 rfl) ?_
  refine lv_iload_n hx hb dL_law_477 rfl (lv_at hl 0 rfl) ?_
  refine lv_iconst (v := 1) hx hb dL_law_478 ?o10 ?_
  case o10 => decide
  refine lv_iadd hx hb dL_law_479 ?_
  have rg_235 := i32_r i
  refine lv_topi (fun x_236 ex_236 => ?_)
  have zx_236 : x_236.toInt = i.toInt + 1 := ?o11
  case o11 =>
    rw [ex_236]
    refine i32_add rfl ?o12 ?o13 ?o14
    case o12 => decide
    case o13 => omega
    case o14 => omega
  refine va_sld hx hb hX hbl hbA hW.2.2.2.1 (vp_in_iff.mpr ⟨?o15, ?o16⟩) dL_law_480 ?_
  case o15 => omega
  case o16 => omega
  refine lv_topi (fun x_237 ex_237 => ?_)
  have hTo := hT
  refine hx_goi (hx_runV (As := [.int x_237]) (rest := []) ⟨hx, hb, hml, hown, hts⟩ hW gx tt_9 (T := TX9) (N := 20) rfl (t_X9_dies_2 l dC dI dA L1 hl1 H.size ax x_237 hT gx np f_x_personCount qp g_qp f_qp pf_qp c_dead cl_dead nu_qp) (cwV 1 hts (hx_gV kw_663 kw_660 kw_661 kw_662 kw_94) rfl rfl rfl (by decide +kernel) ⟨Nat.le_of_ble_eq_true rfl, Nat.le_of_ble_eq_true rfl⟩) rfl hl.1 rfl (Nat.le_of_ble_eq_true rfl) dL_law_481 ⟨(show CC + 0 ≤ 600000 from ?o17), (show SS + 0 ≤ 7302250 from ?o18)⟩) hW (fun r_240 L_238 h_239 H locs p_241 hW => ?_)
  case o17 => omega
  case o18 => omega
  obtain ⟨⟨w_243, fw_243, hr_242⟩, hT, hs⟩ := p_241
  replace hT : hx_T T_tb L_238 h_239 := hT
  replace hs : hx_S T_tb [(4, 7)] L1 hl1 L_238 h_239 := hs
  replace f_qa := (hs.o gx trivial rfl).2.trans f_qa
  replace f_qp := (hs.o gx trivial rfl).2.trans f_qp
  replace f_qc := (hs.o gx trivial rfl).2.trans f_qc
  replace f_qh := (hs.o gx trivial rfl).2.trans f_qh
  replace f_qw := (hs.o gx trivial rfl).2.trans f_qw
  replace f_ql := (hs.o g_qw trivial rfl).2.trans f_ql
  replace f_m_now := (hs.o gm trivial rfl).1.trans f_m_now
  replace f_m_persons := (hs.o gm trivial rfl).1.trans f_m_persons
  replace f_m_claims := (hs.o gm trivial rfl).1.trans f_m_claims
  replace f_m_taped := (hs.o gm trivial rfl).1.trans f_m_taped
  replace f_m_acts := (hs.o gm trivial rfl).1.trans f_m_acts
  replace f_m_heardMany := (hs.o gm trivial rfl).1.trans f_m_heardMany
  replace f_m_lines := (hs.o gm trivial rfl).1.trans f_m_lines
  replace f_m_listed := (hs.o gm trivial rfl).1.trans f_m_listed
  replace f_m_walkedMany := (hs.o gm trivial rfl).1.trans f_m_walkedMany
  replace f_m_payments := (hs.o gm trivial rfl).1.trans f_m_payments
  replace f_x_now := (hs.o gx trivial rfl).1.trans f_x_now
  replace f_x_personCount := (hs.o gx trivial rfl).1.trans f_x_personCount
  replace f_x_claimCount := (hs.o gx trivial rfl).1.trans f_x_claimCount
  replace f_x_tapeLength := (hs.o gx trivial rfl).1.trans f_x_tapeLength
  replace f_x_actCount := (hs.o gx trivial rfl).1.trans f_x_actCount
  replace f_x_heardCount := (hs.o gx trivial rfl).1.trans f_x_heardCount
  replace f_mw := (hs.o gm trivial rfl).2.trans f_mw
  replace f_mr := (hs.o gm trivial rfl).2.trans f_mr
  replace f_mp := (hs.o gm trivial rfl).2.trans f_mp
  replace f_mn := (hs.o gm trivial rfl).2.trans f_mn
  replace f_ml := (hs.o gm trivial rfl).2.trans f_ml
  replace f_mh := (hs.o gm trivial rfl).2.trans f_mh
  replace f_mt := (hs.o gm trivial rfl).2.trans f_mt
  replace f_m_fou := (hs.o gm trivial rfl).2.trans f_m_fou
  replace f_qo_ln := (hs.o gx trivial rfl).2.trans f_qo_ln
  replace f_o_ln := (hs.o g_qo_ln trivial rfl).1.trans f_o_ln
  replace f_o_lsd := (hs.o g_qw trivial rfl).1.trans f_o_lsd
  replace f_o_wkm := (hs.o g_qw trivial rfl).1.trans f_o_wkm
  replace f_qo_py := (hs.o gx trivial rfl).2.trans f_qo_py
  replace f_o_py := (hs.o g_qo_py trivial rfl).1.trans f_o_py
  replace f_b_of := (hs.o g_qo_ln trivial rfl).2.trans f_b_of
  replace f_m_of := (hs.o gm trivial rfl).2.trans f_m_of
  replace f_b_wf := (hs.o g_qo_ln trivial rfl).2.trans f_b_wf
  replace f_m_wf := (hs.o gm trivial rfl).2.trans f_m_wf
  replace f_b_df := (hs.o g_qo_ln trivial rfl).2.trans f_b_df
  replace f_m_df := (hs.o gm trivial rfl).2.trans f_m_df
  replace f_b_kf := (hs.o g_qo_ln trivial rfl).2.trans f_b_kf
  replace f_m_kf := (hs.o gm trivial rfl).2.trans f_m_kf
  replace f_b_sf := (hs.o g_qo_ln trivial rfl).2.trans f_b_sf
  replace f_m_sf := (hs.o gm trivial rfl).2.trans f_m_sf
  replace f_b_bf := (hs.o g_qo_ln trivial rfl).2.trans f_b_bf
  replace f_m_lst := (hs.o gm trivial rfl).2.trans f_m_lst
  replace f_qtp := (hs.o gx trivial rfl).2.trans f_qtp
  replace f_m_tp := (hs.o gm trivial rfl).2.trans f_m_tp
  replace f_m_dead := (hs.o gm trivial rfl).2.trans f_m_dead
  replace f_m_isj := (hs.o gm trivial rfl).2.trans f_m_isj
  replace f_m_dox := (hs.o gm trivial rfl).2.trans f_m_dox
  replace f_m_doy := (hs.o gm trivial rfl).2.trans f_m_doy
  replace f_qlt := (hs.o g_qw trivial rfl).2.trans f_qlt
  replace f_qlf := (hs.o g_qw trivial rfl).2.trans f_qlf
  replace f_m_wkd := (hs.o gm trivial rfl).2.trans f_m_wkd
  replace f_m_aga := (hs.o gm trivial rfl).2.trans f_m_aga
  replace f_qwo := (hs.o gx trivial rfl).2.trans f_qwo
  replace f_m_ad := (hs.o gm trivial rfl).2.trans f_m_ad
  replace f_m_by := (hs.o gm trivial rfl).2.trans f_m_by
  replace f_m_ho := (hs.o gm trivial rfl).2.trans f_m_ho
  replace f_m_fc := (hs.o gm trivial rfl).2.trans f_m_fc
  replace f_m_nt := (hs.o gm trivial rfl).2.trans f_m_nt
  replace f_m_wt := (hs.o gm trivial rfl).2.trans f_m_wt
  replace f_m_be := (hs.o gm trivial rfl).2.trans f_m_be
  replace f_m_bor := (hs.o gm trivial rfl).2.trans f_m_bor
  replace f_m_kin := (hs.o gm trivial rfl).2.trans f_m_kin
  replace f_m_sum := (hs.o gm trivial rfl).2.trans f_m_sum
  replace f_m_fro := (hs.o gm trivial rfl).2.trans f_m_fro
  replace f_m_fil := (hs.o gm trivial rfl).2.trans f_m_fil
  replace f_m_jud := (hs.o gm trivial rfl).2.trans f_m_jud
  replace f_m_ear := (hs.o gm trivial rfl).2.trans f_m_ear
  replace f_m_hds := (hs.o gm trivial rfl).2.trans f_m_hds
  replace f_m_ord := (hs.o gm trivial rfl).2.trans f_m_ord
  replace f_m_wkl := (hs.o gm trivial rfl).2.trans f_m_wkl
  replace f_m_owd := (hs.o gm trivial rfl).2.trans f_m_owd
  replace f_m_gds := (hs.o gm trivial rfl).2.trans f_m_gds
  replace f_m_szd := (hs.o gm trivial rfl).2.trans f_m_szd
  replace f_m_srv := (hs.o gm trivial rfl).2.trans f_m_srv
  replace f_y_p0 := (hs.o g_qo_py trivial rfl).2.trans f_y_p0
  replace f_m_p0 := (hs.o gm trivial rfl).2.trans f_m_p0
  replace f_y_p1 := (hs.o g_qo_py trivial rfl).2.trans f_y_p1
  replace f_m_p1 := (hs.o gm trivial rfl).2.trans f_m_p1
  replace f_y_p2 := (hs.o g_qo_py trivial rfl).2.trans f_y_p2
  replace f_m_p2 := (hs.o gm trivial rfl).2.trans f_m_p2
  replace f_y_p3 := (hs.o g_qo_py trivial rfl).2.trans f_y_p3
  replace f_m_p3 := (hs.o gm trivial rfl).2.trans f_m_p3
  replace f_y_p4 := (hs.o g_qo_py trivial rfl).2.trans f_y_p4
  replace f_m_p4 := (hs.o gm trivial rfl).2.trans f_m_p4
  replace f_qrg9 := (hs.o gx trivial rfl).2.trans f_qrg9
  replace f_y_ls := (hs.o g_qrg9 trivial rfl).2.trans f_y_ls
  replace f_m_rl := (hs.o gm trivial rfl).2.trans f_m_rl
  replace ffv_232 := (hs.o g_qrg9 trivial rfl).1.trans ffv_232
  replace ffv_233 := (hs.o gm trivial rfl).1.trans ffv_233
  replace ffv_234 := (hs.o gm trivial rfl).1.trans ffv_234
  replace pf_qa : ∀ j : Nat, (j : Int) < (h_239.2.1 ax 6).toInt → h_239.2.2 qa j ≠ none := by
    intro j hj; rw [(hs.o gx trivial rfl).1] at hj; rw [(hs.a g_qa rfl j).2]; exact pf_qa j hj
  replace pf_qp : ∀ j : Nat, (j : Int) < (h_239.2.1 ax 8).toInt → h_239.2.2 qp j ≠ none := by
    intro j hj; rw [(hs.o gx trivial rfl).1] at hj; rw [(hs.a g_qp rfl j).2]; exact pf_qp j hj
  replace pf_qc : ∀ j : Nat, (j : Int) < (h_239.2.1 ax 11).toInt → h_239.2.2 qc j ≠ none := by
    intro j hj; rw [(hs.o gx trivial rfl).1] at hj; rw [(hs.a g_qc rfl j).2]; exact pf_qc j hj
  replace pf_qh : ∀ j : Nat, (j : Int) < (h_239.2.1 ax 13).toInt → h_239.2.2 qh j ≠ none := by
    intro j hj; rw [(hs.o gx trivial rfl).1] at hj; rw [(hs.a g_qh rfl j).2]; exact pf_qh j hj
  replace pf_ql : ∀ j : Nat, (j : Int) < (h_239.2.1 qw 0).toInt → h_239.2.2 ql j ≠ none := by
    intro j hj; rw [(hs.o g_qw trivial rfl).1] at hj; rw [(hs.a g_ql rfl j).2]; exact pf_ql j hj
  replace cl_lst : hx_col 8 h_239 ql 0 = c_lst := (hx_col_S hs hTo g_ql tt_40 tt_2 rfl rfl).trans cl_lst
  replace cl_isj : hx_col 40 h_239 qp 8 = c_isj := (hx_col_S hs hTo g_qp tt_44 tt_4 rfl rfl).trans cl_isj
  replace cl_dox : hx_col 40 h_239 qp 5 = c_dox := (hx_col_S hs hTo g_qp tt_44 tt_4 rfl rfl).trans cl_dox
  replace cl_doy : hx_col 40 h_239 qp 6 = c_doy := (hx_col_S hs hTo g_qp tt_44 tt_4 rfl rfl).trans cl_doy
  replace cl_fou : hx_col 100 h_239 qc 10 = c_fou := (hx_col_S hs hTo g_qc tt_45 tt_2 rfl rfl).trans cl_fou
  replace cl_tri : hx_col 100 h_239 qc 9 = c_tri := (hx_col_S hs hTo g_qc tt_45 tt_2 rfl rfl).trans cl_tri
  replace cl_bor : hx_col 40 h_239 qp 1 = F_bor := (hx_col_S hs hTo g_qp tt_44 tt_4 rfl rfl).trans cl_bor
  replace cl_kin : hx_col 40 h_239 qp 2 = F_kin := (hx_col_S hs hTo g_qp tt_44 tt_4 rfl rfl).trans cl_kin
  replace cl_sum : hx_col 100 h_239 qc 6 = F_sum := (hx_col_S hs hTo g_qc tt_45 tt_2 rfl rfl).trans cl_sum
  replace cl_fro : hx_col 100 h_239 qc 7 = F_fro := (hx_col_S hs hTo g_qc tt_45 tt_2 rfl rfl).trans cl_fro
  replace cl_fil : hx_col 100 h_239 qc 8 = F_fil := (hx_col_S hs hTo g_qc tt_45 tt_2 rfl rfl).trans cl_fil
  replace cl_hea : hx_col 100 h_239 qc 11 = F_mh := (hx_col_S hs hTo g_qc tt_45 tt_2 rfl rfl).trans cl_hea
  replace cl_jud : hx_col 100 h_239 qc 12 = F_jud := (hx_col_S hs hTo g_qc tt_45 tt_2 rfl rfl).trans cl_jud
  replace cl_ear : hx_col 40 h_239 qp 3 = F_ear := (hx_col_S hs hTo g_qp tt_44 tt_4 rfl rfl).trans cl_ear
  replace cl_hds : hx_col 40 h_239 qp 4 = F_hds := (hx_col_S hs hTo g_qp tt_44 tt_4 rfl rfl).trans cl_hds
  replace cl_ord : hx_col 100 h_239 qc 13 = F_ord := (hx_col_S hs hTo g_qc tt_45 tt_2 rfl rfl).trans cl_ord
  replace cl_wkl : hx_col 100 h_239 qc 14 = F_wkl := (hx_col_S hs hTo g_qc tt_45 tt_2 rfl rfl).trans cl_wkl
  replace cl_owd : hx_col 100 h_239 qc 15 = F_owd := (hx_col_S hs hTo g_qc tt_45 tt_2 rfl rfl).trans cl_owd
  replace cl_gds : hx_col 100 h_239 qc 17 = F_gds := (hx_col_S hs hTo g_qc tt_45 tt_2 rfl rfl).trans cl_gds
  replace cl_szd : hx_col 100 h_239 qc 16 = F_szd := (hx_col_S hs hTo g_qc tt_45 tt_2 rfl rfl).trans cl_szd
  replace cl_srv : hx_col 100 h_239 qc 18 = F_srv := (hx_col_S hs hTo g_qc tt_45 tt_2 rfl rfl).trans cl_srv
  replace nu_qp : hx_num 40 h_239 qp 0 (np.toInt) := hx_num_S hs hTo g_qp tt_44 tt_4 rfl rfl nu_qp
  replace nu_qc : hx_num 100 h_239 qc 0 (c0.toInt) := hx_num_S hs hTo g_qc tt_45 tt_2 rfl rfl nu_qc
  replace sb_list : hx_LQ 8 100 h_239 ql qc := hx_LQ_S hs g_ql g_qc rfl rfl sb_list
  replace hDF : hw_DF h_239 qc qp 2 F_aga c0.toInt := hw_DF_S hs hTo g_qc g_qp tt_45 tt_2 rfl rfl rfl hDF
  replace hRA9 : hv_RA h_239 qa qwo a0.toInt A9 := hv_RA_S hs hTo g_qa g_qwo tt_43 tt_0 rfl rfl rfl rfl rfl rfl ?o19 hRA9
  case o19 => omega
  replace hDP : hw_DF h_239 qc qp 1 F_by c0.toInt := hw_DF_S hs hTo g_qc g_qp tt_45 tt_2 rfl rfl rfl hDP
  replace hAC9 : hv_AC h_239 qc F_ml c0.toInt A9 := hv_AC_S hs hTo g_qc tt_45 tt_2 rfl tt_0 rfl rfl rfl rfl rfl rfl rfl hAC9
  replace hFX : hv_FX 8 4 h_239 qc cF9L c0.toInt := hv_FX_S hs hTo g_qc tt_45 tt_2 rfl rfl rfl rfl hFX
  replace hBX : hv_FX 3 5 h_239 qc F_be c0.toInt := hv_FX_S hs hTo g_qc tt_45 tt_2 rfl rfl rfl rfl hBX
  replace hHL : hv_HL h_239 qh qc F_ho m0.toInt c0.toInt := hv_HL_S hs g_qh g_qc rfl rfl hHL
  replace n_mw : h_239.2.1 mw = F_mw := (funext fun j => (hs.a g_mw rfl j).1).trans n_mw
  replace n_mr : h_239.2.1 mr = F_mr := (funext fun j => (hs.a g_mr rfl j).1).trans n_mr
  replace n_mp : h_239.2.1 mp = F_mp := (funext fun j => (hs.a g_mp rfl j).1).trans n_mp
  replace n_mn : h_239.2.1 mn = F_mn := (funext fun j => (hs.a g_mn rfl j).1).trans n_mn
  replace n_ml : h_239.2.1 ml = F_ml := (funext fun j => (hs.a g_ml rfl j).1).trans n_ml
  replace n_mh : h_239.2.1 mh = F_mh := (funext fun j => (hs.a g_mh rfl j).1).trans n_mh
  replace n_mt : h_239.2.1 mt = F_mt := (funext fun j => (hs.a g_mt rfl j).1).trans n_mt
  replace n_m_fou : h_239.2.1 m_fou = F_m_fou := (funext fun j => (hs.a g_m_fou rfl j).1).trans n_m_fou
  replace n_b_of : h_239.2.1 b_of = B_of := (funext fun j => (hs.a g_b_of rfl j).1).trans n_b_of
  replace n_m_of : h_239.2.1 m_of = F_of := (funext fun j => (hs.a g_m_of rfl j).1).trans n_m_of
  replace n_b_wf : h_239.2.1 b_wf = B_wf := (funext fun j => (hs.a g_b_wf rfl j).1).trans n_b_wf
  replace n_m_wf : h_239.2.1 m_wf = F_wf := (funext fun j => (hs.a g_m_wf rfl j).1).trans n_m_wf
  replace n_b_df : h_239.2.1 b_df = B_df := (funext fun j => (hs.a g_b_df rfl j).1).trans n_b_df
  replace n_m_df : h_239.2.1 m_df = F_df := (funext fun j => (hs.a g_m_df rfl j).1).trans n_m_df
  replace n_b_kf : h_239.2.1 b_kf = B_kf := (funext fun j => (hs.a g_b_kf rfl j).1).trans n_b_kf
  replace n_m_kf : h_239.2.1 m_kf = F_kf := (funext fun j => (hs.a g_m_kf rfl j).1).trans n_m_kf
  replace n_b_sf : h_239.2.1 b_sf = B_sf := (funext fun j => (hs.a g_b_sf rfl j).1).trans n_b_sf
  replace n_m_sf : h_239.2.1 m_sf = F_sf := (funext fun j => (hs.a g_m_sf rfl j).1).trans n_m_sf
  replace n_b_bf : h_239.2.1 b_bf = bfL := (funext fun j => (hs.a g_b_bf rfl j).1).trans n_b_bf
  replace n_lst : h_239.2.1 m_lst = F_lst := (funext fun j => (hs.a g_m_lst rfl j).1).trans n_lst
  replace n_tp : h_239.2.1 m_tp = F_tp := (funext fun j => (hs.a g_m_tp rfl j).1).trans n_tp
  replace n_qtp : h_239.2.1 qtp = F_tp := (funext fun j => (hs.a g_qtp rfl j).1).trans n_qtp
  replace n_dead : h_239.2.1 m_dead = F_dead := (funext fun j => (hs.a g_m_dead rfl j).1).trans n_dead
  replace n_isj : h_239.2.1 m_isj = F_isj := (funext fun j => (hs.a g_m_isj rfl j).1).trans n_isj
  replace n_dox : h_239.2.1 m_dox = F_dox := (funext fun j => (hs.a g_m_dox rfl j).1).trans n_dox
  replace n_doy : h_239.2.1 m_doy = F_doy := (funext fun j => (hs.a g_m_doy rfl j).1).trans n_doy
  replace n_qlt : h_239.2.1 qlt = F_qlt := (funext fun j => (hs.a g_qlt rfl j).1).trans n_qlt
  replace n_m_wkd : h_239.2.1 m_wkd = F_m_wkd := (funext fun j => (hs.a g_m_wkd rfl j).1).trans n_m_wkd
  replace n_aga : h_239.2.1 m_aga = F_aga := (funext fun j => (hs.a g_m_aga rfl j).1).trans n_aga
  replace n_ad : h_239.2.1 m_ad = F_ad := (funext fun j => (hs.a g_m_ad rfl j).1).trans n_ad
  replace n_by : h_239.2.1 m_by = F_by := (funext fun j => (hs.a g_m_by rfl j).1).trans n_by
  replace n_ho : h_239.2.1 m_ho = F_ho := (funext fun j => (hs.a g_m_ho rfl j).1).trans n_ho
  replace n_fc : h_239.2.1 m_fc = F_fc := (funext fun j => (hs.a g_m_fc rfl j).1).trans n_fc
  replace n_nt : h_239.2.1 m_nt = F_nt := (funext fun j => (hs.a g_m_nt rfl j).1).trans n_nt
  replace n_wt : h_239.2.1 m_wt = F_wt := (funext fun j => (hs.a g_m_wt rfl j).1).trans n_wt
  replace n_be : h_239.2.1 m_be = F_be := (funext fun j => (hs.a g_m_be rfl j).1).trans n_be
  replace n_bor : h_239.2.1 m_bor = F_bor := (funext fun j => (hs.a g_m_bor rfl j).1).trans n_bor
  replace n_kin : h_239.2.1 m_kin = F_kin := (funext fun j => (hs.a g_m_kin rfl j).1).trans n_kin
  replace n_sum : h_239.2.1 m_sum = F_sum := (funext fun j => (hs.a g_m_sum rfl j).1).trans n_sum
  replace n_fro : h_239.2.1 m_fro = F_fro := (funext fun j => (hs.a g_m_fro rfl j).1).trans n_fro
  replace n_fil : h_239.2.1 m_fil = F_fil := (funext fun j => (hs.a g_m_fil rfl j).1).trans n_fil
  replace n_jud : h_239.2.1 m_jud = F_jud := (funext fun j => (hs.a g_m_jud rfl j).1).trans n_jud
  replace n_ear : h_239.2.1 m_ear = F_ear := (funext fun j => (hs.a g_m_ear rfl j).1).trans n_ear
  replace n_hds : h_239.2.1 m_hds = F_hds := (funext fun j => (hs.a g_m_hds rfl j).1).trans n_hds
  replace n_ord : h_239.2.1 m_ord = F_ord := (funext fun j => (hs.a g_m_ord rfl j).1).trans n_ord
  replace n_wkl : h_239.2.1 m_wkl = F_wkl := (funext fun j => (hs.a g_m_wkl rfl j).1).trans n_wkl
  replace n_owd : h_239.2.1 m_owd = F_owd := (funext fun j => (hs.a g_m_owd rfl j).1).trans n_owd
  replace n_gds : h_239.2.1 m_gds = F_gds := (funext fun j => (hs.a g_m_gds rfl j).1).trans n_gds
  replace n_szd : h_239.2.1 m_szd = F_szd := (funext fun j => (hs.a g_m_szd rfl j).1).trans n_szd
  replace n_srv : h_239.2.1 m_srv = F_srv := (funext fun j => (hs.a g_m_srv rfl j).1).trans n_srv
  replace n_p0 : h_239.2.1 m_p0 = F_p0 := (funext fun j => (hs.a g_m_p0 rfl j).1).trans n_p0
  replace n_y_p0 : h_239.2.1 y_p0 = F_p0 := (funext fun j => (hs.a g_y_p0 rfl j).1).trans n_y_p0
  replace n_p1 : h_239.2.1 m_p1 = F_p1 := (funext fun j => (hs.a g_m_p1 rfl j).1).trans n_p1
  replace n_y_p1 : h_239.2.1 y_p1 = F_p1 := (funext fun j => (hs.a g_y_p1 rfl j).1).trans n_y_p1
  replace n_p2 : h_239.2.1 m_p2 = F_p2 := (funext fun j => (hs.a g_m_p2 rfl j).1).trans n_p2
  replace n_y_p2 : h_239.2.1 y_p2 = F_p2 := (funext fun j => (hs.a g_y_p2 rfl j).1).trans n_y_p2
  replace n_p3 : h_239.2.1 m_p3 = F_p3 := (funext fun j => (hs.a g_m_p3 rfl j).1).trans n_p3
  replace n_y_p3 : h_239.2.1 y_p3 = F_p3 := (funext fun j => (hs.a g_y_p3 rfl j).1).trans n_y_p3
  replace n_p4 : h_239.2.1 m_p4 = F_p4 := (funext fun j => (hs.a g_m_p4 rfl j).1).trans n_p4
  replace n_y_p4 : h_239.2.1 y_p4 = F_p4 := (funext fun j => (hs.a g_y_p4 rfl j).1).trans n_y_p4
  replace n_y_ls : h_239.2.1 y_ls = F_y_ls := (funext fun j => (hs.a g_y_ls rfl j).1).trans n_y_ls
  replace n_m_rl : h_239.2.1 m_rl = F_m_rl := (funext fun j => (hs.a g_m_rl rfl j).1).trans n_m_rl
  replace gx := gx.S hs
  replace gm := gm.S hs
  replace g_qa := g_qa.S hs
  replace g_qp := g_qp.S hs
  replace g_qc := g_qc.S hs
  replace g_qh := g_qh.S hs
  replace g_qw := g_qw.S hs
  replace g_ql := g_ql.S hs
  replace g_mw := g_mw.S hs
  replace g_mr := g_mr.S hs
  replace g_mp := g_mp.S hs
  replace g_mn := g_mn.S hs
  replace g_ml := g_ml.S hs
  replace g_mh := g_mh.S hs
  replace g_mt := g_mt.S hs
  replace g_m_fou := g_m_fou.S hs
  replace g_qo_ln := g_qo_ln.S hs
  replace g_qo_py := g_qo_py.S hs
  replace g_b_of := g_b_of.S hs
  replace g_m_of := g_m_of.S hs
  replace g_b_wf := g_b_wf.S hs
  replace g_m_wf := g_m_wf.S hs
  replace g_b_df := g_b_df.S hs
  replace g_m_df := g_m_df.S hs
  replace g_b_kf := g_b_kf.S hs
  replace g_m_kf := g_m_kf.S hs
  replace g_b_sf := g_b_sf.S hs
  replace g_m_sf := g_m_sf.S hs
  replace g_b_bf := g_b_bf.S hs
  replace g_m_lst := g_m_lst.S hs
  replace g_qtp := g_qtp.S hs
  replace g_m_tp := g_m_tp.S hs
  replace g_m_dead := g_m_dead.S hs
  replace g_m_isj := g_m_isj.S hs
  replace g_m_dox := g_m_dox.S hs
  replace g_m_doy := g_m_doy.S hs
  replace g_qlt := g_qlt.S hs
  replace g_qlf := g_qlf.S hs
  replace g_m_wkd := g_m_wkd.S hs
  replace g_m_aga := g_m_aga.S hs
  replace g_qwo := g_qwo.S hs
  replace g_m_ad := g_m_ad.S hs
  replace g_m_by := g_m_by.S hs
  replace g_m_ho := g_m_ho.S hs
  replace g_m_fc := g_m_fc.S hs
  replace g_m_nt := g_m_nt.S hs
  replace g_m_wt := g_m_wt.S hs
  replace g_m_be := g_m_be.S hs
  replace g_m_bor := g_m_bor.S hs
  replace g_m_kin := g_m_kin.S hs
  replace g_m_sum := g_m_sum.S hs
  replace g_m_fro := g_m_fro.S hs
  replace g_m_fil := g_m_fil.S hs
  replace g_m_jud := g_m_jud.S hs
  replace g_m_ear := g_m_ear.S hs
  replace g_m_hds := g_m_hds.S hs
  replace g_m_ord := g_m_ord.S hs
  replace g_m_wkl := g_m_wkl.S hs
  replace g_m_owd := g_m_owd.S hs
  replace g_m_gds := g_m_gds.S hs
  replace g_m_szd := g_m_szd.S hs
  replace g_m_srv := g_m_srv.S hs
  replace g_y_p0 := g_y_p0.S hs
  replace g_m_p0 := g_m_p0.S hs
  replace g_y_p1 := g_y_p1.S hs
  replace g_m_p1 := g_m_p1.S hs
  replace g_y_p2 := g_y_p2.S hs
  replace g_m_p2 := g_m_p2.S hs
  replace g_y_p3 := g_y_p3.S hs
  replace g_m_p3 := g_m_p3.S hs
  replace g_y_p4 := g_y_p4.S hs
  replace g_m_p4 := g_m_p4.S hs
  replace g_qrg9 := g_qrg9.S hs
  replace g_y_ls := g_y_ls.S hs
  replace g_m_rl := g_m_rl.S hs
  have fw_243 : hx_col 40 h_239 qp 7 = w_243 := fw_243
  refine lv_pop hx hb dL_law_484 rfl ?_
  refine lv_aload_n hx hb dL_law_485 rfl (lv_at hl 1 rfl) ?_
  refine lv_aload_n hx hb dL_law_486 rfl (lv_at hl 3 rfl) ?_
  refine lv_iload_n hx hb dL_law_487 rfl (lv_at hl 0 rfl) ?_
  refine lv_iconst (v := 1) hx hb dL_law_488 ?o20 ?_
  case o20 => decide
  refine lv_iadd hx hb dL_law_489 ?_
  refine lv_topi (fun x_244 ex_244 => ?_)
  have zx_244 : x_244.toInt = i.toInt + 1 := ?o21
  case o21 =>
    rw [ex_244]
    refine i32_add rfl ?o22 ?o23 ?o24
    case o22 => decide
    case o23 => omega
    case o24 => omega
  obtain rfl : x_236 = x_244 := ex_236.trans ex_244.symm
  refine va_sld hx hb hX hbl hbA hW.2.2.2.1 (vp_in_iff.mpr ⟨?o25, ?o26⟩) dL_law_490 ?_
  case o25 => omega
  case o26 => omega
  refine lv_topi (fun x_245 ex_245 => ?_)
  obtain rfl : x_237 = x_245 := ex_237.trans ex_245.symm
  have hTo := hT
  refine hx_goi (hx_runV (As := [.int x_237]) (rest := []) ⟨hx, hb, hml, hown, hts⟩ hW gm tt_10 (T := TX10) (N := 98) rfl (t_X10_dies_2 l dC dI dA L_238 h_239 H.size am x_237 hT gm m_dead g_m_dead f_m_dead F_dead n_dead np f_m_persons) (cwV 1 hts (hx_gV kw_1556 kw_1553 kw_1554 kw_1555 kw_103) rfl rfl rfl (by decide +kernel) ⟨Nat.le_of_ble_eq_true rfl, Nat.le_of_ble_eq_true rfl⟩) rfl hl.1 rfl (Nat.le_of_ble_eq_true rfl) dL_law_491 ⟨(show CC + 0 + 0 ≤ 600000 from ?o27), (show SS + 0 + 0 ≤ 7302250 from ?o28)⟩) hW (fun r_248 L_246 h_247 H locs p_249 hW => ?_)
  case o27 => omega
  case o28 => omega
  obtain ⟨⟨w_251, fw_251, hr_250⟩, hT, hs⟩ := p_249
  replace hT : hx_T T_tb L_246 h_247 := hT
  replace hs : hx_S T_tb [(64, 0)] L_238 h_239 L_246 h_247 := hs
  replace f_qa := (hs.o gx trivial rfl).2.trans f_qa
  replace f_qp := (hs.o gx trivial rfl).2.trans f_qp
  replace f_qc := (hs.o gx trivial rfl).2.trans f_qc
  replace f_qh := (hs.o gx trivial rfl).2.trans f_qh
  replace f_qw := (hs.o gx trivial rfl).2.trans f_qw
  replace f_ql := (hs.o g_qw trivial rfl).2.trans f_ql
  replace f_m_now := (hs.o gm trivial rfl).1.trans f_m_now
  replace f_m_persons := (hs.o gm trivial rfl).1.trans f_m_persons
  replace f_m_claims := (hs.o gm trivial rfl).1.trans f_m_claims
  replace f_m_taped := (hs.o gm trivial rfl).1.trans f_m_taped
  replace f_m_acts := (hs.o gm trivial rfl).1.trans f_m_acts
  replace f_m_heardMany := (hs.o gm trivial rfl).1.trans f_m_heardMany
  replace f_m_lines := (hs.o gm trivial rfl).1.trans f_m_lines
  replace f_m_listed := (hs.o gm trivial rfl).1.trans f_m_listed
  replace f_m_walkedMany := (hs.o gm trivial rfl).1.trans f_m_walkedMany
  replace f_m_payments := (hs.o gm trivial rfl).1.trans f_m_payments
  replace f_x_now := (hs.o gx trivial rfl).1.trans f_x_now
  replace f_x_personCount := (hs.o gx trivial rfl).1.trans f_x_personCount
  replace f_x_claimCount := (hs.o gx trivial rfl).1.trans f_x_claimCount
  replace f_x_tapeLength := (hs.o gx trivial rfl).1.trans f_x_tapeLength
  replace f_x_actCount := (hs.o gx trivial rfl).1.trans f_x_actCount
  replace f_x_heardCount := (hs.o gx trivial rfl).1.trans f_x_heardCount
  replace f_mw := (hs.o gm trivial rfl).2.trans f_mw
  replace f_mr := (hs.o gm trivial rfl).2.trans f_mr
  replace f_mp := (hs.o gm trivial rfl).2.trans f_mp
  replace f_mn := (hs.o gm trivial rfl).2.trans f_mn
  replace f_ml := (hs.o gm trivial rfl).2.trans f_ml
  replace f_mh := (hs.o gm trivial rfl).2.trans f_mh
  replace f_mt := (hs.o gm trivial rfl).2.trans f_mt
  replace f_m_fou := (hs.o gm trivial rfl).2.trans f_m_fou
  replace f_qo_ln := (hs.o gx trivial rfl).2.trans f_qo_ln
  replace f_o_ln := (hs.o g_qo_ln trivial rfl).1.trans f_o_ln
  replace f_o_lsd := (hs.o g_qw trivial rfl).1.trans f_o_lsd
  replace f_o_wkm := (hs.o g_qw trivial rfl).1.trans f_o_wkm
  replace f_qo_py := (hs.o gx trivial rfl).2.trans f_qo_py
  replace f_o_py := (hs.o g_qo_py trivial rfl).1.trans f_o_py
  replace f_b_of := (hs.o g_qo_ln trivial rfl).2.trans f_b_of
  replace f_m_of := (hs.o gm trivial rfl).2.trans f_m_of
  replace f_b_wf := (hs.o g_qo_ln trivial rfl).2.trans f_b_wf
  replace f_m_wf := (hs.o gm trivial rfl).2.trans f_m_wf
  replace f_b_df := (hs.o g_qo_ln trivial rfl).2.trans f_b_df
  replace f_m_df := (hs.o gm trivial rfl).2.trans f_m_df
  replace f_b_kf := (hs.o g_qo_ln trivial rfl).2.trans f_b_kf
  replace f_m_kf := (hs.o gm trivial rfl).2.trans f_m_kf
  replace f_b_sf := (hs.o g_qo_ln trivial rfl).2.trans f_b_sf
  replace f_m_sf := (hs.o gm trivial rfl).2.trans f_m_sf
  replace f_b_bf := (hs.o g_qo_ln trivial rfl).2.trans f_b_bf
  replace f_m_lst := (hs.o gm trivial rfl).2.trans f_m_lst
  replace f_qtp := (hs.o gx trivial rfl).2.trans f_qtp
  replace f_m_tp := (hs.o gm trivial rfl).2.trans f_m_tp
  replace f_m_dead := (hs.o gm trivial rfl).2.trans f_m_dead
  replace f_m_isj := (hs.o gm trivial rfl).2.trans f_m_isj
  replace f_m_dox := (hs.o gm trivial rfl).2.trans f_m_dox
  replace f_m_doy := (hs.o gm trivial rfl).2.trans f_m_doy
  replace f_qlt := (hs.o g_qw trivial rfl).2.trans f_qlt
  replace f_qlf := (hs.o g_qw trivial rfl).2.trans f_qlf
  replace f_m_wkd := (hs.o gm trivial rfl).2.trans f_m_wkd
  replace f_m_aga := (hs.o gm trivial rfl).2.trans f_m_aga
  replace f_qwo := (hs.o gx trivial rfl).2.trans f_qwo
  replace f_m_ad := (hs.o gm trivial rfl).2.trans f_m_ad
  replace f_m_by := (hs.o gm trivial rfl).2.trans f_m_by
  replace f_m_ho := (hs.o gm trivial rfl).2.trans f_m_ho
  replace f_m_fc := (hs.o gm trivial rfl).2.trans f_m_fc
  replace f_m_nt := (hs.o gm trivial rfl).2.trans f_m_nt
  replace f_m_wt := (hs.o gm trivial rfl).2.trans f_m_wt
  replace f_m_be := (hs.o gm trivial rfl).2.trans f_m_be
  replace f_m_bor := (hs.o gm trivial rfl).2.trans f_m_bor
  replace f_m_kin := (hs.o gm trivial rfl).2.trans f_m_kin
  replace f_m_sum := (hs.o gm trivial rfl).2.trans f_m_sum
  replace f_m_fro := (hs.o gm trivial rfl).2.trans f_m_fro
  replace f_m_fil := (hs.o gm trivial rfl).2.trans f_m_fil
  replace f_m_jud := (hs.o gm trivial rfl).2.trans f_m_jud
  replace f_m_ear := (hs.o gm trivial rfl).2.trans f_m_ear
  replace f_m_hds := (hs.o gm trivial rfl).2.trans f_m_hds
  replace f_m_ord := (hs.o gm trivial rfl).2.trans f_m_ord
  replace f_m_wkl := (hs.o gm trivial rfl).2.trans f_m_wkl
  replace f_m_owd := (hs.o gm trivial rfl).2.trans f_m_owd
  replace f_m_gds := (hs.o gm trivial rfl).2.trans f_m_gds
  replace f_m_szd := (hs.o gm trivial rfl).2.trans f_m_szd
  replace f_m_srv := (hs.o gm trivial rfl).2.trans f_m_srv
  replace f_y_p0 := (hs.o g_qo_py trivial rfl).2.trans f_y_p0
  replace f_m_p0 := (hs.o gm trivial rfl).2.trans f_m_p0
  replace f_y_p1 := (hs.o g_qo_py trivial rfl).2.trans f_y_p1
  replace f_m_p1 := (hs.o gm trivial rfl).2.trans f_m_p1
  replace f_y_p2 := (hs.o g_qo_py trivial rfl).2.trans f_y_p2
  replace f_m_p2 := (hs.o gm trivial rfl).2.trans f_m_p2
  replace f_y_p3 := (hs.o g_qo_py trivial rfl).2.trans f_y_p3
  replace f_m_p3 := (hs.o gm trivial rfl).2.trans f_m_p3
  replace f_y_p4 := (hs.o g_qo_py trivial rfl).2.trans f_y_p4
  replace f_m_p4 := (hs.o gm trivial rfl).2.trans f_m_p4
  replace f_qrg9 := (hs.o gx trivial rfl).2.trans f_qrg9
  replace f_y_ls := (hs.o g_qrg9 trivial rfl).2.trans f_y_ls
  replace f_m_rl := (hs.o gm trivial rfl).2.trans f_m_rl
  replace ffv_232 := (hs.o g_qrg9 trivial rfl).1.trans ffv_232
  replace ffv_233 := (hs.o gm trivial rfl).1.trans ffv_233
  replace ffv_234 := (hs.o gm trivial rfl).1.trans ffv_234
  replace pf_qa : ∀ j : Nat, (j : Int) < (h_247.2.1 ax 6).toInt → h_247.2.2 qa j ≠ none := by
    intro j hj; rw [(hs.o gx trivial rfl).1] at hj; rw [(hs.a g_qa rfl j).2]; exact pf_qa j hj
  replace pf_qp : ∀ j : Nat, (j : Int) < (h_247.2.1 ax 8).toInt → h_247.2.2 qp j ≠ none := by
    intro j hj; rw [(hs.o gx trivial rfl).1] at hj; rw [(hs.a g_qp rfl j).2]; exact pf_qp j hj
  replace pf_qc : ∀ j : Nat, (j : Int) < (h_247.2.1 ax 11).toInt → h_247.2.2 qc j ≠ none := by
    intro j hj; rw [(hs.o gx trivial rfl).1] at hj; rw [(hs.a g_qc rfl j).2]; exact pf_qc j hj
  replace pf_qh : ∀ j : Nat, (j : Int) < (h_247.2.1 ax 13).toInt → h_247.2.2 qh j ≠ none := by
    intro j hj; rw [(hs.o gx trivial rfl).1] at hj; rw [(hs.a g_qh rfl j).2]; exact pf_qh j hj
  replace pf_ql : ∀ j : Nat, (j : Int) < (h_247.2.1 qw 0).toInt → h_247.2.2 ql j ≠ none := by
    intro j hj; rw [(hs.o g_qw trivial rfl).1] at hj; rw [(hs.a g_ql rfl j).2]; exact pf_ql j hj
  replace cl_lst : hx_col 8 h_247 ql 0 = c_lst := (hx_col_S hs hTo g_ql tt_40 tt_2 rfl rfl).trans cl_lst
  replace cl_isj : hx_col 40 h_247 qp 8 = c_isj := (hx_col_S hs hTo g_qp tt_44 tt_4 rfl rfl).trans cl_isj
  replace cl_dox : hx_col 40 h_247 qp 5 = c_dox := (hx_col_S hs hTo g_qp tt_44 tt_4 rfl rfl).trans cl_dox
  replace cl_doy : hx_col 40 h_247 qp 6 = c_doy := (hx_col_S hs hTo g_qp tt_44 tt_4 rfl rfl).trans cl_doy
  replace cl_fou : hx_col 100 h_247 qc 10 = c_fou := (hx_col_S hs hTo g_qc tt_45 tt_2 rfl rfl).trans cl_fou
  replace cl_tri : hx_col 100 h_247 qc 9 = c_tri := (hx_col_S hs hTo g_qc tt_45 tt_2 rfl rfl).trans cl_tri
  replace cl_bor : hx_col 40 h_247 qp 1 = F_bor := (hx_col_S hs hTo g_qp tt_44 tt_4 rfl rfl).trans cl_bor
  replace cl_kin : hx_col 40 h_247 qp 2 = F_kin := (hx_col_S hs hTo g_qp tt_44 tt_4 rfl rfl).trans cl_kin
  replace cl_sum : hx_col 100 h_247 qc 6 = F_sum := (hx_col_S hs hTo g_qc tt_45 tt_2 rfl rfl).trans cl_sum
  replace cl_fro : hx_col 100 h_247 qc 7 = F_fro := (hx_col_S hs hTo g_qc tt_45 tt_2 rfl rfl).trans cl_fro
  replace cl_fil : hx_col 100 h_247 qc 8 = F_fil := (hx_col_S hs hTo g_qc tt_45 tt_2 rfl rfl).trans cl_fil
  replace cl_hea : hx_col 100 h_247 qc 11 = F_mh := (hx_col_S hs hTo g_qc tt_45 tt_2 rfl rfl).trans cl_hea
  replace cl_jud : hx_col 100 h_247 qc 12 = F_jud := (hx_col_S hs hTo g_qc tt_45 tt_2 rfl rfl).trans cl_jud
  replace cl_ear : hx_col 40 h_247 qp 3 = F_ear := (hx_col_S hs hTo g_qp tt_44 tt_4 rfl rfl).trans cl_ear
  replace cl_hds : hx_col 40 h_247 qp 4 = F_hds := (hx_col_S hs hTo g_qp tt_44 tt_4 rfl rfl).trans cl_hds
  replace cl_ord : hx_col 100 h_247 qc 13 = F_ord := (hx_col_S hs hTo g_qc tt_45 tt_2 rfl rfl).trans cl_ord
  replace cl_wkl : hx_col 100 h_247 qc 14 = F_wkl := (hx_col_S hs hTo g_qc tt_45 tt_2 rfl rfl).trans cl_wkl
  replace cl_owd : hx_col 100 h_247 qc 15 = F_owd := (hx_col_S hs hTo g_qc tt_45 tt_2 rfl rfl).trans cl_owd
  replace cl_gds : hx_col 100 h_247 qc 17 = F_gds := (hx_col_S hs hTo g_qc tt_45 tt_2 rfl rfl).trans cl_gds
  replace cl_szd : hx_col 100 h_247 qc 16 = F_szd := (hx_col_S hs hTo g_qc tt_45 tt_2 rfl rfl).trans cl_szd
  replace cl_srv : hx_col 100 h_247 qc 18 = F_srv := (hx_col_S hs hTo g_qc tt_45 tt_2 rfl rfl).trans cl_srv
  replace fw_243 : hx_col 40 h_247 qp 7 = w_243 := (hx_col_S hs hTo g_qp tt_44 tt_4 rfl rfl).trans fw_243
  replace nu_qp : hx_num 40 h_247 qp 0 (np.toInt) := hx_num_S hs hTo g_qp tt_44 tt_4 rfl rfl nu_qp
  replace nu_qc : hx_num 100 h_247 qc 0 (c0.toInt) := hx_num_S hs hTo g_qc tt_45 tt_2 rfl rfl nu_qc
  replace sb_list : hx_LQ 8 100 h_247 ql qc := hx_LQ_S hs g_ql g_qc rfl rfl sb_list
  replace hDF : hw_DF h_247 qc qp 2 F_aga c0.toInt := hw_DF_S hs hTo g_qc g_qp tt_45 tt_2 rfl rfl rfl hDF
  replace hRA9 : hv_RA h_247 qa qwo a0.toInt A9 := hv_RA_S hs hTo g_qa g_qwo tt_43 tt_0 rfl rfl rfl rfl rfl rfl ?o29 hRA9
  case o29 => omega
  replace hDP : hw_DF h_247 qc qp 1 F_by c0.toInt := hw_DF_S hs hTo g_qc g_qp tt_45 tt_2 rfl rfl rfl hDP
  replace hAC9 : hv_AC h_247 qc F_ml c0.toInt A9 := hv_AC_S hs hTo g_qc tt_45 tt_2 rfl tt_0 rfl rfl rfl rfl rfl rfl rfl hAC9
  replace hFX : hv_FX 8 4 h_247 qc cF9L c0.toInt := hv_FX_S hs hTo g_qc tt_45 tt_2 rfl rfl rfl rfl hFX
  replace hBX : hv_FX 3 5 h_247 qc F_be c0.toInt := hv_FX_S hs hTo g_qc tt_45 tt_2 rfl rfl rfl rfl hBX
  replace hHL : hv_HL h_247 qh qc F_ho m0.toInt c0.toInt := hv_HL_S hs g_qh g_qc rfl rfl hHL
  replace n_mw : h_247.2.1 mw = F_mw := (funext fun j => (hs.a g_mw rfl j).1).trans n_mw
  replace n_mr : h_247.2.1 mr = F_mr := (funext fun j => (hs.a g_mr rfl j).1).trans n_mr
  replace n_mp : h_247.2.1 mp = F_mp := (funext fun j => (hs.a g_mp rfl j).1).trans n_mp
  replace n_mn : h_247.2.1 mn = F_mn := (funext fun j => (hs.a g_mn rfl j).1).trans n_mn
  replace n_ml : h_247.2.1 ml = F_ml := (funext fun j => (hs.a g_ml rfl j).1).trans n_ml
  replace n_mh : h_247.2.1 mh = F_mh := (funext fun j => (hs.a g_mh rfl j).1).trans n_mh
  replace n_mt : h_247.2.1 mt = F_mt := (funext fun j => (hs.a g_mt rfl j).1).trans n_mt
  replace n_m_fou : h_247.2.1 m_fou = F_m_fou := (funext fun j => (hs.a g_m_fou rfl j).1).trans n_m_fou
  replace n_b_of : h_247.2.1 b_of = B_of := (funext fun j => (hs.a g_b_of rfl j).1).trans n_b_of
  replace n_m_of : h_247.2.1 m_of = F_of := (funext fun j => (hs.a g_m_of rfl j).1).trans n_m_of
  replace n_b_wf : h_247.2.1 b_wf = B_wf := (funext fun j => (hs.a g_b_wf rfl j).1).trans n_b_wf
  replace n_m_wf : h_247.2.1 m_wf = F_wf := (funext fun j => (hs.a g_m_wf rfl j).1).trans n_m_wf
  replace n_b_df : h_247.2.1 b_df = B_df := (funext fun j => (hs.a g_b_df rfl j).1).trans n_b_df
  replace n_m_df : h_247.2.1 m_df = F_df := (funext fun j => (hs.a g_m_df rfl j).1).trans n_m_df
  replace n_b_kf : h_247.2.1 b_kf = B_kf := (funext fun j => (hs.a g_b_kf rfl j).1).trans n_b_kf
  replace n_m_kf : h_247.2.1 m_kf = F_kf := (funext fun j => (hs.a g_m_kf rfl j).1).trans n_m_kf
  replace n_b_sf : h_247.2.1 b_sf = B_sf := (funext fun j => (hs.a g_b_sf rfl j).1).trans n_b_sf
  replace n_m_sf : h_247.2.1 m_sf = F_sf := (funext fun j => (hs.a g_m_sf rfl j).1).trans n_m_sf
  replace n_b_bf : h_247.2.1 b_bf = bfL := (funext fun j => (hs.a g_b_bf rfl j).1).trans n_b_bf
  replace n_lst : h_247.2.1 m_lst = F_lst := (funext fun j => (hs.a g_m_lst rfl j).1).trans n_lst
  replace n_tp : h_247.2.1 m_tp = F_tp := (funext fun j => (hs.a g_m_tp rfl j).1).trans n_tp
  replace n_qtp : h_247.2.1 qtp = F_tp := (funext fun j => (hs.a g_qtp rfl j).1).trans n_qtp
  replace n_isj : h_247.2.1 m_isj = F_isj := (funext fun j => (hs.a g_m_isj rfl j).1).trans n_isj
  replace n_dox : h_247.2.1 m_dox = F_dox := (funext fun j => (hs.a g_m_dox rfl j).1).trans n_dox
  replace n_doy : h_247.2.1 m_doy = F_doy := (funext fun j => (hs.a g_m_doy rfl j).1).trans n_doy
  replace n_qlt : h_247.2.1 qlt = F_qlt := (funext fun j => (hs.a g_qlt rfl j).1).trans n_qlt
  replace n_m_wkd : h_247.2.1 m_wkd = F_m_wkd := (funext fun j => (hs.a g_m_wkd rfl j).1).trans n_m_wkd
  replace n_aga : h_247.2.1 m_aga = F_aga := (funext fun j => (hs.a g_m_aga rfl j).1).trans n_aga
  replace n_ad : h_247.2.1 m_ad = F_ad := (funext fun j => (hs.a g_m_ad rfl j).1).trans n_ad
  replace n_by : h_247.2.1 m_by = F_by := (funext fun j => (hs.a g_m_by rfl j).1).trans n_by
  replace n_ho : h_247.2.1 m_ho = F_ho := (funext fun j => (hs.a g_m_ho rfl j).1).trans n_ho
  replace n_fc : h_247.2.1 m_fc = F_fc := (funext fun j => (hs.a g_m_fc rfl j).1).trans n_fc
  replace n_nt : h_247.2.1 m_nt = F_nt := (funext fun j => (hs.a g_m_nt rfl j).1).trans n_nt
  replace n_wt : h_247.2.1 m_wt = F_wt := (funext fun j => (hs.a g_m_wt rfl j).1).trans n_wt
  replace n_be : h_247.2.1 m_be = F_be := (funext fun j => (hs.a g_m_be rfl j).1).trans n_be
  replace n_bor : h_247.2.1 m_bor = F_bor := (funext fun j => (hs.a g_m_bor rfl j).1).trans n_bor
  replace n_kin : h_247.2.1 m_kin = F_kin := (funext fun j => (hs.a g_m_kin rfl j).1).trans n_kin
  replace n_sum : h_247.2.1 m_sum = F_sum := (funext fun j => (hs.a g_m_sum rfl j).1).trans n_sum
  replace n_fro : h_247.2.1 m_fro = F_fro := (funext fun j => (hs.a g_m_fro rfl j).1).trans n_fro
  replace n_fil : h_247.2.1 m_fil = F_fil := (funext fun j => (hs.a g_m_fil rfl j).1).trans n_fil
  replace n_jud : h_247.2.1 m_jud = F_jud := (funext fun j => (hs.a g_m_jud rfl j).1).trans n_jud
  replace n_ear : h_247.2.1 m_ear = F_ear := (funext fun j => (hs.a g_m_ear rfl j).1).trans n_ear
  replace n_hds : h_247.2.1 m_hds = F_hds := (funext fun j => (hs.a g_m_hds rfl j).1).trans n_hds
  replace n_ord : h_247.2.1 m_ord = F_ord := (funext fun j => (hs.a g_m_ord rfl j).1).trans n_ord
  replace n_wkl : h_247.2.1 m_wkl = F_wkl := (funext fun j => (hs.a g_m_wkl rfl j).1).trans n_wkl
  replace n_owd : h_247.2.1 m_owd = F_owd := (funext fun j => (hs.a g_m_owd rfl j).1).trans n_owd
  replace n_gds : h_247.2.1 m_gds = F_gds := (funext fun j => (hs.a g_m_gds rfl j).1).trans n_gds
  replace n_szd : h_247.2.1 m_szd = F_szd := (funext fun j => (hs.a g_m_szd rfl j).1).trans n_szd
  replace n_srv : h_247.2.1 m_srv = F_srv := (funext fun j => (hs.a g_m_srv rfl j).1).trans n_srv
  replace n_p0 : h_247.2.1 m_p0 = F_p0 := (funext fun j => (hs.a g_m_p0 rfl j).1).trans n_p0
  replace n_y_p0 : h_247.2.1 y_p0 = F_p0 := (funext fun j => (hs.a g_y_p0 rfl j).1).trans n_y_p0
  replace n_p1 : h_247.2.1 m_p1 = F_p1 := (funext fun j => (hs.a g_m_p1 rfl j).1).trans n_p1
  replace n_y_p1 : h_247.2.1 y_p1 = F_p1 := (funext fun j => (hs.a g_y_p1 rfl j).1).trans n_y_p1
  replace n_p2 : h_247.2.1 m_p2 = F_p2 := (funext fun j => (hs.a g_m_p2 rfl j).1).trans n_p2
  replace n_y_p2 : h_247.2.1 y_p2 = F_p2 := (funext fun j => (hs.a g_y_p2 rfl j).1).trans n_y_p2
  replace n_p3 : h_247.2.1 m_p3 = F_p3 := (funext fun j => (hs.a g_m_p3 rfl j).1).trans n_p3
  replace n_y_p3 : h_247.2.1 y_p3 = F_p3 := (funext fun j => (hs.a g_y_p3 rfl j).1).trans n_y_p3
  replace n_p4 : h_247.2.1 m_p4 = F_p4 := (funext fun j => (hs.a g_m_p4 rfl j).1).trans n_p4
  replace n_y_p4 : h_247.2.1 y_p4 = F_p4 := (funext fun j => (hs.a g_y_p4 rfl j).1).trans n_y_p4
  replace n_y_ls : h_247.2.1 y_ls = F_y_ls := (funext fun j => (hs.a g_y_ls rfl j).1).trans n_y_ls
  replace n_m_rl : h_247.2.1 m_rl = F_m_rl := (funext fun j => (hs.a g_m_rl rfl j).1).trans n_m_rl
  replace gx := gx.S hs
  replace gm := gm.S hs
  replace g_qa := g_qa.S hs
  replace g_qp := g_qp.S hs
  replace g_qc := g_qc.S hs
  replace g_qh := g_qh.S hs
  replace g_qw := g_qw.S hs
  replace g_ql := g_ql.S hs
  replace g_mw := g_mw.S hs
  replace g_mr := g_mr.S hs
  replace g_mp := g_mp.S hs
  replace g_mn := g_mn.S hs
  replace g_ml := g_ml.S hs
  replace g_mh := g_mh.S hs
  replace g_mt := g_mt.S hs
  replace g_m_fou := g_m_fou.S hs
  replace g_qo_ln := g_qo_ln.S hs
  replace g_qo_py := g_qo_py.S hs
  replace g_b_of := g_b_of.S hs
  replace g_m_of := g_m_of.S hs
  replace g_b_wf := g_b_wf.S hs
  replace g_m_wf := g_m_wf.S hs
  replace g_b_df := g_b_df.S hs
  replace g_m_df := g_m_df.S hs
  replace g_b_kf := g_b_kf.S hs
  replace g_m_kf := g_m_kf.S hs
  replace g_b_sf := g_b_sf.S hs
  replace g_m_sf := g_m_sf.S hs
  replace g_b_bf := g_b_bf.S hs
  replace g_m_lst := g_m_lst.S hs
  replace g_qtp := g_qtp.S hs
  replace g_m_tp := g_m_tp.S hs
  replace g_m_dead := g_m_dead.S hs
  replace g_m_isj := g_m_isj.S hs
  replace g_m_dox := g_m_dox.S hs
  replace g_m_doy := g_m_doy.S hs
  replace g_qlt := g_qlt.S hs
  replace g_qlf := g_qlf.S hs
  replace g_m_wkd := g_m_wkd.S hs
  replace g_m_aga := g_m_aga.S hs
  replace g_qwo := g_qwo.S hs
  replace g_m_ad := g_m_ad.S hs
  replace g_m_by := g_m_by.S hs
  replace g_m_ho := g_m_ho.S hs
  replace g_m_fc := g_m_fc.S hs
  replace g_m_nt := g_m_nt.S hs
  replace g_m_wt := g_m_wt.S hs
  replace g_m_be := g_m_be.S hs
  replace g_m_bor := g_m_bor.S hs
  replace g_m_kin := g_m_kin.S hs
  replace g_m_sum := g_m_sum.S hs
  replace g_m_fro := g_m_fro.S hs
  replace g_m_fil := g_m_fil.S hs
  replace g_m_jud := g_m_jud.S hs
  replace g_m_ear := g_m_ear.S hs
  replace g_m_hds := g_m_hds.S hs
  replace g_m_ord := g_m_ord.S hs
  replace g_m_wkl := g_m_wkl.S hs
  replace g_m_owd := g_m_owd.S hs
  replace g_m_gds := g_m_gds.S hs
  replace g_m_szd := g_m_szd.S hs
  replace g_m_srv := g_m_srv.S hs
  replace g_y_p0 := g_y_p0.S hs
  replace g_m_p0 := g_m_p0.S hs
  replace g_y_p1 := g_y_p1.S hs
  replace g_m_p1 := g_m_p1.S hs
  replace g_y_p2 := g_y_p2.S hs
  replace g_m_p2 := g_m_p2.S hs
  replace g_y_p3 := g_y_p3.S hs
  replace g_m_p3 := g_m_p3.S hs
  replace g_y_p4 := g_y_p4.S hs
  replace g_m_p4 := g_m_p4.S hs
  replace g_qrg9 := g_qrg9.S hs
  replace g_y_ls := g_y_ls.S hs
  replace g_m_rl := g_m_rl.S hs
  have fw_251 : h_247.2.1 m_dead = w_251 := fw_251
  refine lv_pop hx hb dL_law_494 rfl ?_
  refine lv_goto (tgt := 1379) hx hb dL_law_495 ?o30 ?_
  case o30 => decide
  obtain ⟨heq, hq_dead⟩ := hx_jk (by omega) eq_dead hr_242 hr_250
  refine W.widen (k := CC + 3) (n := SS + 179) ?o31 ?o32 ?_
  case o31 => omega
  case o32 => omega
  refine kk L_246 h_247 H locs ls hW ⟨hT, gx, gm, ⟨f_x_now.trans f_m_now.symm, f_x_personCount.trans f_m_persons.symm, f_x_claimCount.trans f_m_claims.symm, f_x_tapeLength.trans f_m_taped.symm, f_x_actCount.trans f_m_acts.symm, f_x_heardCount.trans f_m_heardMany.symm, hx_ob f_qo_ln (f_o_ln.trans f_m_lines.symm), hx_ob f_qw (f_o_lsd.trans f_m_listed.symm), hx_ob f_qw (f_o_wkm.trans f_m_walkedMany.symm), hx_ob f_qo_py (f_o_py.trans f_m_payments.symm), hx_ob f_qp ?o33, hx_ob f_qc ?o34, (fun b a r hb ha hr => ?o35), (fun b a r hb ha hr => ?o36), (fun b a r hb ha hr => ?o37), (fun b a r hb ha hr => ?o38), (fun b a r hb ha hr => ?o39), (fun b a r hb ha hr => ?o40), (fun w q c hw hq hc => ?o41), (fun w q r hw hq hr => ?o42), (fun w q r hw hq hr => ?o43), (fun c q a hc hq ha => ?o44), (fun q r hq hr => ?o45), (fun q w a b c d e p hq hw ha hb hc hd he hp => ?o46), (fun c q a hc hq ha => ?o47), (fun q c a hq hc ha => ?o48), (fun a b ha hb => ?o49), (fun c a b d e f hc ha hb hd he hf => ?o50), (fun c a hc ha => ?o51), hx_ob2 f_qp f_m_bor (cl_bor.trans n_bor.symm), hx_ob2 f_qp f_m_kin (cl_kin.trans n_kin.symm), hx_ob2 f_qc f_m_sum (cl_sum.trans n_sum.symm), hx_ob2 f_qc f_m_fro (cl_fro.trans n_fro.symm), hx_ob2 f_qc f_m_fil (cl_fil.trans n_fil.symm), hx_ob2 f_qc f_mh (cl_hea.trans n_mh.symm), hx_ob2 f_qc f_m_jud (cl_jud.trans n_jud.symm), hx_ob2 f_qp f_m_ear (cl_ear.trans n_ear.symm), hx_ob2 f_qp f_m_hds (cl_hds.trans n_hds.symm), hx_ob2 f_qc f_m_ord (cl_ord.trans n_ord.symm), hx_ob2 f_qc f_m_wkl (cl_wkl.trans n_wkl.symm), hx_ob2 f_qc f_m_owd (cl_owd.trans n_owd.symm), hx_ob2 f_qc f_m_gds (cl_gds.trans n_gds.symm), hx_ob2 f_qc f_m_szd (cl_szd.trans n_szd.symm), hx_ob2 f_qc f_m_srv (cl_srv.trans n_srv.symm), (fun p q r hp hq hr => ?o52), (fun p q r hp hq hr => ?o53), (fun p q r hp hq hr => ?o54), (fun p q r hp hq hr => ?o55), (fun p q r hp hq hr => ?o56), (fun p hp => ?o57), (fun p q r hp hq hr => ?o58), hx_ob2 f_qp f_m_dead ?o59, hx_ob2 f_qp f_m_isj ?o60, hx_ob2 f_qp f_m_dox ?o61, hx_ob2 f_qp f_m_doy ?o62, hx_ob2 f_qc f_m_fou ?o63, hx_ob2 f_qc f_mt ?o64, trivial⟩, ⟨hx_ob f_qa pf_qa, hx_ob f_qp pf_qp, hx_ob f_qc pf_qc, hx_ob f_qh pf_qh, (fun w q hw hq => ?o65)⟩, ⟨hx_ob f_mw ?o66, hx_ob f_mr ?o67, hx_ob2 f_mp f_mn ?o68, hx_ob f_ml ?o69, hx_ob f_mh ?o70, hx_ob f_mt ?o71, hx_ob2 f_mh f_m_fou ?o73⟩⟩ hl
  case o33 =>
    rw [f_x_personCount]
    exact nu_qp
  case o34 =>
    rw [f_x_claimCount]
    exact nu_qc
  case o35 =>
    obtain rfl : qo_ln = b := Option.some.inj (f_qo_ln.symm.trans hb)
    obtain rfl : b_of = a := Option.some.inj (f_b_of.symm.trans ha)
    obtain rfl : m_of = r := Option.some.inj (f_m_of.symm.trans hr)
    rw [n_b_of, n_m_of, f_o_ln]
    exact eb_of
  case o36 =>
    obtain rfl : qo_ln = b := Option.some.inj (f_qo_ln.symm.trans hb)
    obtain rfl : b_wf = a := Option.some.inj (f_b_wf.symm.trans ha)
    obtain rfl : m_wf = r := Option.some.inj (f_m_wf.symm.trans hr)
    rw [n_b_wf, n_m_wf, f_o_ln]
    exact eb_wf
  case o37 =>
    obtain rfl : qo_ln = b := Option.some.inj (f_qo_ln.symm.trans hb)
    obtain rfl : b_df = a := Option.some.inj (f_b_df.symm.trans ha)
    obtain rfl : m_df = r := Option.some.inj (f_m_df.symm.trans hr)
    rw [n_b_df, n_m_df, f_o_ln]
    exact eb_df
  case o38 =>
    obtain rfl : qo_ln = b := Option.some.inj (f_qo_ln.symm.trans hb)
    obtain rfl : b_kf = a := Option.some.inj (f_b_kf.symm.trans ha)
    obtain rfl : m_kf = r := Option.some.inj (f_m_kf.symm.trans hr)
    rw [n_b_kf, n_m_kf, f_o_ln]
    exact eb_kf
  case o39 =>
    obtain rfl : qo_ln = b := Option.some.inj (f_qo_ln.symm.trans hb)
    obtain rfl : b_sf = a := Option.some.inj (f_b_sf.symm.trans ha)
    obtain rfl : m_sf = r := Option.some.inj (f_m_sf.symm.trans hr)
    rw [n_b_sf, n_m_sf, f_o_ln]
    exact eb_sf
  case o40 =>
    obtain rfl : qo_ln = b := Option.some.inj (f_qo_ln.symm.trans hb)
    obtain rfl : b_df = a := Option.some.inj (f_b_df.symm.trans ha)
    obtain rfl : b_bf = r := Option.some.inj (f_b_bf.symm.trans hr)
    rw [n_b_df, n_b_bf, f_o_ln]
    exact ⟨hBD, hDY⟩
  case o41 =>
    obtain rfl : qw = w := Option.some.inj (f_qw.symm.trans hw)
    obtain rfl : ql = q := Option.some.inj (f_ql.symm.trans hq)
    obtain rfl : qc = c := Option.some.inj (f_qc.symm.trans hc)
    exact sb_list
  case o42 =>
    obtain rfl : qw = w := Option.some.inj (f_qw.symm.trans hw)
    obtain rfl : ql = q := Option.some.inj (f_ql.symm.trans hq)
    obtain rfl : m_lst = r := Option.some.inj (f_m_lst.symm.trans hr)
    rw [cl_lst, n_lst]
    exact eq_lst
  case o43 =>
    obtain rfl : qw = w := Option.some.inj (f_qw.symm.trans hw)
    obtain rfl : qlt = q := Option.some.inj (f_qlt.symm.trans hq)
    obtain rfl : m_wkd = r := Option.some.inj (f_m_wkd.symm.trans hr)
    rw [n_qlt, n_m_wkd, f_o_wkm]
    exact eb_wkd
  case o44 =>
    obtain rfl : qc = c := Option.some.inj (f_qc.symm.trans hc)
    obtain rfl : qp = q := Option.some.inj (f_qp.symm.trans hq)
    obtain rfl : m_aga = a := Option.some.inj (f_m_aga.symm.trans ha)
    rw [n_aga, f_x_claimCount]
    exact hw_DF_e hDF rfl rfl
  case o45 =>
    obtain rfl : qtp = q := Option.some.inj (f_qtp.symm.trans hq)
    obtain rfl : m_tp = r := Option.some.inj (f_m_tp.symm.trans hr)
    exact n_qtp.trans n_tp.symm
  case o46 =>
    obtain rfl : qa = q := Option.some.inj (f_qa.symm.trans hq)
    obtain rfl : qwo = w := Option.some.inj (f_qwo.symm.trans hw)
    obtain rfl : m_ad = a := Option.some.inj (f_m_ad.symm.trans ha)
    obtain rfl : mr = b := Option.some.inj (f_mr.symm.trans hb)
    obtain rfl : mn = c := Option.some.inj (f_mn.symm.trans hc)
    obtain rfl : mp = d := Option.some.inj (f_mp.symm.trans hd)
    obtain rfl : qc = e := Option.some.inj (f_qc.symm.trans he)
    obtain rfl : ml = p := Option.some.inj (f_ml.symm.trans hp)
    exact ⟨_, by rw [f_x_actCount]; exact hRA9, by rw [f_x_actCount, n_ad, n_mr, n_mn, n_mp]; exact hCA9, by rw [n_ml, f_x_claimCount]; exact hv_AC_e hAC9 rfl rfl rfl, hAB⟩
  case o47 =>
    obtain rfl : qc = c := Option.some.inj (f_qc.symm.trans hc)
    obtain rfl : qp = q := Option.some.inj (f_qp.symm.trans hq)
    obtain rfl : m_by = a := Option.some.inj (f_m_by.symm.trans ha)
    rw [n_by, f_x_claimCount]
    exact hw_DF_e hDP rfl rfl
  case o48 =>
    obtain rfl : qh = q := Option.some.inj (f_qh.symm.trans hq)
    obtain rfl : qc = c := Option.some.inj (f_qc.symm.trans hc)
    obtain rfl : m_ho = a := Option.some.inj (f_m_ho.symm.trans ha)
    rw [n_ho, f_x_heardCount, f_x_claimCount]
    exact hv_HL_e hHL rfl rfl rfl
  case o49 =>
    obtain rfl : m_ho = a := Option.some.inj (f_m_ho.symm.trans ha)
    obtain rfl : mh = b := Option.some.inj (f_mh.symm.trans hb)
    rw [n_ho, n_mh, f_m_heardMany, f_m_claims]
    exact hHO9
  case o50 =>
    obtain rfl : qc = c := Option.some.inj (f_qc.symm.trans hc)
    obtain rfl : m_fc = a := Option.some.inj (f_m_fc.symm.trans ha)
    obtain rfl : m_nt = b := Option.some.inj (f_m_nt.symm.trans hb)
    obtain rfl : m_wt = d := Option.some.inj (f_m_wt.symm.trans hd)
    obtain rfl : m_sum = e := Option.some.inj (f_m_sum.symm.trans he)
    obtain rfl : mh = f := Option.some.inj (f_mh.symm.trans hf)
    exact ⟨cF9L, by rw [f_x_claimCount]; exact hFX, by rw [n_fc, n_nt, n_wt, n_sum, n_mh, f_x_claimCount]; exact hFR9⟩
  case o51 =>
    obtain rfl : qc = c := Option.some.inj (f_qc.symm.trans hc)
    obtain rfl : m_be = a := Option.some.inj (f_m_be.symm.trans ha)
    rw [n_be, f_x_claimCount]
    exact hv_FX_e hBX rfl rfl
  case o52 =>
    obtain rfl : qo_py = p := Option.some.inj (f_qo_py.symm.trans hp)
    obtain rfl : y_p0 = q := Option.some.inj (f_y_p0.symm.trans hq)
    obtain rfl : m_p0 = r := Option.some.inj (f_m_p0.symm.trans hr)
    exact n_y_p0.trans n_p0.symm
  case o53 =>
    obtain rfl : qo_py = p := Option.some.inj (f_qo_py.symm.trans hp)
    obtain rfl : y_p1 = q := Option.some.inj (f_y_p1.symm.trans hq)
    obtain rfl : m_p1 = r := Option.some.inj (f_m_p1.symm.trans hr)
    exact n_y_p1.trans n_p1.symm
  case o54 =>
    obtain rfl : qo_py = p := Option.some.inj (f_qo_py.symm.trans hp)
    obtain rfl : y_p2 = q := Option.some.inj (f_y_p2.symm.trans hq)
    obtain rfl : m_p2 = r := Option.some.inj (f_m_p2.symm.trans hr)
    exact n_y_p2.trans n_p2.symm
  case o55 =>
    obtain rfl : qo_py = p := Option.some.inj (f_qo_py.symm.trans hp)
    obtain rfl : y_p3 = q := Option.some.inj (f_y_p3.symm.trans hq)
    obtain rfl : m_p3 = r := Option.some.inj (f_m_p3.symm.trans hr)
    exact n_y_p3.trans n_p3.symm
  case o56 =>
    obtain rfl : qo_py = p := Option.some.inj (f_qo_py.symm.trans hp)
    obtain rfl : y_p4 = q := Option.some.inj (f_y_p4.symm.trans hq)
    obtain rfl : m_p4 = r := Option.some.inj (f_m_p4.symm.trans hr)
    exact n_y_p4.trans n_p4.symm
  case o57 =>
    obtain rfl : qrg9 = p := Option.some.inj (f_qrg9.symm.trans hp)
    rw [ffv_232, ffv_233, ffv_234]
    exact hNQ9
  case o58 =>
    obtain rfl : qrg9 = p := Option.some.inj (f_qrg9.symm.trans hp)
    obtain rfl : y_ls = q := Option.some.inj (f_y_ls.symm.trans hq)
    obtain rfl : m_rl = r := Option.some.inj (f_m_rl.symm.trans hr)
    rw [n_y_ls, n_m_rl, ffv_232]
    exact hRL9
  case o59 =>
    rw [fw_243, fw_251]
    exact hq_dead
  case o60 =>
    rw [cl_isj, n_isj]
    exact eq_isj
  case o61 =>
    rw [cl_dox, n_dox]
    exact eq_dox
  case o62 =>
    rw [cl_doy, n_doy]
    exact eq_doy
  case o63 =>
    rw [cl_fou, n_m_fou]
    exact eq_fou
  case o64 =>
    rw [cl_tri, n_mt]
    exact eq_tri
  case o65 =>
    obtain rfl : qw = w := Option.some.inj (f_qw.symm.trans hw)
    obtain rfl : ql = q := Option.some.inj (f_ql.symm.trans hq)
    exact pf_ql
  case o66 =>
    rw [n_mw]
    exact hwd
  case o67 =>
    rw [n_mr, f_m_acts]
    exact hWK
  case o68 =>
    rw [n_mp, n_mn, f_m_acts]
    exact hRP
  case o69 =>
    rw [n_ml, f_m_claims, f_m_acts]
    exact hPL
  case o70 =>
    rw [n_mh, f_m_heardMany, f_m_claims]
    exact hHC
  case o71 =>
    rw [n_mt]
    refine (hx_TR_le hTR ?o72)
    case o72 => omega
  case o73 =>
    rw [n_mh, n_m_fou, f_m_claims]
    exact hHF
