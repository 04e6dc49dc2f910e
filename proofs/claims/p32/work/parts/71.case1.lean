set_option maxHeartbeats 4000000 in
set_option maxRecDepth 100000 in
theorem law_case_8 {p : Program} {e : Env} {s : State} {m : MethodId} {below : List Frame} {meth : Method} {c : Code} (l : Launch) {b LN : Nat} {xs : Nat → Int32} (hx : p.tables.exec = Jvm.exec) (hb : c.code = code) (hr : meth.sig.returnType = ret) (hlocks : meth.locks = false) (hml : c.maxLocals = 4) (hown : s.vm.findClass "SmallCourtLaw" = some m.cls) (hts : ∀ w ∈ hx_all, w.before #[Value.ref b] s = true) (hX : va_X b LN xs s s.heap) (hbl : b < s.heap.size) (hbA : ¬ s.heap.size ≤ b) (hLN : LN ≤ 3584) (dC : Nat → ClassId) (dI : Nat → Nat → Nat) (dA : Nat → ClassId) (b0 : hx_z) (ax am : Nat) (T1 : Int) (hT0 : 0 ≤ T1) (hT1 : T1 ≤ 511) (i : Int32) (hi0 : 0 ≤ i.toInt) (hiL : i.toInt + 7 ≤ LN) (CC SS : Nat) (hCC : CC + 3 ≤ 600000) (hSS : SS + 179 ≤ 7302250) (L1 : List Nat) (hl1 : hx_h) (H : Heap) (locs : List Loc) (ls : Array Slot) (hW : hx_W T_tb (P_ty dA) (dC, dI) vwCl (fun q : Nat => s.heap.size ≤ q) s.heap L1 hl1 s H locs) (hZ : hx_Xt (fun q : Nat => s.heap.size ≤ q) b0 s) (hI : hx_IV T1 ax am L1 hl1) (hl : lv_has ls 4 [(3, .int i), (2, .ref am), (1, .ref ax), (0, .ref b)]) (kk : ∀ (L2 : List Nat) (h2 : hx_h) (H2 : Heap) (locs2 : List Loc) (ls2 : Array Slot), hx_W T_tb (P_ty dA) (dC, dI) vwCl (fun q : Nat => s.heap.size ≤ q) s.heap L2 h2 s H2 locs2 → hx_IV (T1 + 1) ax am L2 h2 → lv_has ls2 4 [(3, .int i), (2, .ref am), (1, .ref ax), (0, .ref b)] → W p l e room_1 s m #[Value.ref b] below meth c H2 locs2 (CC + 3) (SS + 179) (lw_Z below #[Value.ref b] s) (F0 m 1379 ls2 [])) : W p l e room_1 s m #[Value.ref b] below meth c H locs CC SS (lw_Z below #[Value.ref b] s) (F0 m 498 ls []) := by
  have hI9 := hI
  have hT := hI9.1
  replace hI9 := hI9.2
  have gx := hI9.1
  replace hI9 := hI9.2
  have gm := hI9.1
  replace hI9 := hI9.2
  have zq0_3 := hI9.1
  have he_nw := zq0_3.1
  replace zq0_3 := zq0_3.2
  have he_np := zq0_3.1
  replace zq0_3 := zq0_3.2
  have he_c0 := zq0_3.1
  replace zq0_3 := zq0_3.2
  have he_tl := zq0_3.1
  replace zq0_3 := zq0_3.2
  have he_a0 := zq0_3.1
  replace zq0_3 := zq0_3.2
  have he_m0 := zq0_3.1
  replace zq0_3 := zq0_3.2
  have ho_ln := zq0_3.1
  replace zq0_3 := zq0_3.2
  have ho_lsd := zq0_3.1
  replace zq0_3 := zq0_3.2
  have ho_wkm := zq0_3.1
  replace zq0_3 := zq0_3.2
  have ho_py := zq0_3.1
  replace zq0_3 := zq0_3.2
  have hn_qp := zq0_3.1
  replace zq0_3 := zq0_3.2
  have hn_qc := zq0_3.1
  replace zq0_3 := zq0_3.2
  have hk_of := zq0_3.1
  replace zq0_3 := zq0_3.2
  have hk_wf := zq0_3.1
  replace zq0_3 := zq0_3.2
  have hk_df := zq0_3.1
  replace zq0_3 := zq0_3.2
  have hk_kf := zq0_3.1
  replace zq0_3 := zq0_3.2
  have hk_sf := zq0_3.1
  replace zq0_3 := zq0_3.2
  have hkBD := zq0_3.1
  replace zq0_3 := zq0_3.2
  have hLQ := zq0_3.1
  replace zq0_3 := zq0_3.2
  have hLE := zq0_3.1
  replace zq0_3 := zq0_3.2
  have hkWD := zq0_3.1
  replace zq0_3 := zq0_3.2
  have hkDF := zq0_3.1
  replace zq0_3 := zq0_3.2
  have hkTP := zq0_3.1
  replace zq0_3 := zq0_3.2
  have hkAC := zq0_3.1
  replace zq0_3 := zq0_3.2
  have hkDP := zq0_3.1
  replace zq0_3 := zq0_3.2
  have hkHL := zq0_3.1
  replace zq0_3 := zq0_3.2
  have hkHO := zq0_3.1
  replace zq0_3 := zq0_3.2
  have hkFX := zq0_3.1
  replace zq0_3 := zq0_3.2
  have hkBX := zq0_3.1
  replace zq0_3 := zq0_3.2
  have hf_bor := zq0_3.1
  replace zq0_3 := zq0_3.2
  have hf_kin := zq0_3.1
  replace zq0_3 := zq0_3.2
  have hf_sum := zq0_3.1
  replace zq0_3 := zq0_3.2
  have hf_fro := zq0_3.1
  replace zq0_3 := zq0_3.2
  have hf_fil := zq0_3.1
  replace zq0_3 := zq0_3.2
  have hf_hea := zq0_3.1
  replace zq0_3 := zq0_3.2
  have hf_jud := zq0_3.1
  replace zq0_3 := zq0_3.2
  have hf_ear := zq0_3.1
  replace zq0_3 := zq0_3.2
  have hf_hds := zq0_3.1
  replace zq0_3 := zq0_3.2
  have hf_ord := zq0_3.1
  replace zq0_3 := zq0_3.2
  have hf_wkl := zq0_3.1
  replace zq0_3 := zq0_3.2
  have hf_owd := zq0_3.1
  replace zq0_3 := zq0_3.2
  have hf_gds := zq0_3.1
  replace zq0_3 := zq0_3.2
  have hf_szd := zq0_3.1
  replace zq0_3 := zq0_3.2
  have hf_srv := zq0_3.1
  replace zq0_3 := zq0_3.2
  have hkP0 := zq0_3.1
  replace zq0_3 := zq0_3.2
  have hkP1 := zq0_3.1
  replace zq0_3 := zq0_3.2
  have hkP2 := zq0_3.1
  replace zq0_3 := zq0_3.2
  have hkP3 := zq0_3.1
  replace zq0_3 := zq0_3.2
  have hkP4 := zq0_3.1
  replace zq0_3 := zq0_3.2
  have hkNQ := zq0_3.1
  replace zq0_3 := zq0_3.2
  have hkRL := zq0_3.1
  replace zq0_3 := zq0_3.2
  have hc_dead := zq0_3.1
  replace zq0_3 := zq0_3.2
  have hc_isj := zq0_3.1
  replace zq0_3 := zq0_3.2
  have hc_dox := zq0_3.1
  replace zq0_3 := zq0_3.2
  have hc_doy := zq0_3.1
  replace zq0_3 := zq0_3.2
  have hc_fou := zq0_3.1
  replace zq0_3 := zq0_3.2
  have hc_tri := zq0_3.1
  replace zq0_3 := zq0_3.2
  replace hI9 := hI9.2
  have zq0_4 := hI9.1
  have ia := zq0_4.1
  replace zq0_4 := zq0_4.2
  have ip := zq0_4.1
  replace zq0_4 := zq0_4.2
  have ic := zq0_4.1
  replace zq0_4 := zq0_4.2
  have ih := zq0_4.1
  replace zq0_4 := zq0_4.2
  have il := zq0_4
  replace hI9 := hI9.2
  have zq0_5 := hI9
  have jw := zq0_5.1
  replace zq0_5 := zq0_5.2
  have jr := zq0_5.1
  replace zq0_5 := zq0_5.2
  have jp := zq0_5.1
  replace zq0_5 := zq0_5.2
  have jl := zq0_5.1
  replace zq0_5 := zq0_5.2
  have jh := zq0_5.1
  replace zq0_5 := zq0_5.2
  have jt := zq0_5.1
  replace zq0_5 := zq0_5.2
  have jf := zq0_5
  obtain ⟨qa, f_qa, g_qa⟩ := hx_rf hT gx tt_9 (k := 5) (u := 43) rfl
  have pf_qa := ia qa f_qa
  obtain ⟨qp, f_qp, g_qp⟩ := hx_rf hT gx tt_9 (k := 7) (u := 44) rfl
  have pf_qp := ip qp f_qp
  obtain ⟨qc, f_qc, g_qc⟩ := hx_rf hT gx tt_9 (k := 10) (u := 45) rfl
  have pf_qc := ic qc f_qc
  obtain ⟨qh, f_qh, g_qh⟩ := hx_rf hT gx tt_9 (k := 12) (u := 46) rfl
  have pf_qh := ih qh f_qh
  obtain ⟨qw, f_qw, g_qw⟩ := hx_rf hT gx tt_9 (k := 19) (u := 8) rfl
  obtain ⟨ql, f_ql, g_ql⟩ := hx_rf hT g_qw tt_8 (k := 3) (u := 40) rfl
  have pf_ql := il qw ql f_qw f_ql
  obtain ⟨nw, f_m_now⟩ : ∃ y : Int32, hl1.2.1 am 0 = y := ⟨_, rfl⟩
  have b_nw := hT.gi gm tt_10 (k := 0) rfl
  rw [f_m_now] at b_nw
  have b_nw : 0 ≤ nw.toInt ∧ nw.toInt ≤ 7999 := b_nw
  obtain ⟨np, f_m_persons⟩ : ∃ y : Int32, hl1.2.1 am 20 = y := ⟨_, rfl⟩
  have b_np := hT.gi gm tt_10 (k := 20) rfl
  rw [f_m_persons] at b_np
  have b_np : 0 ≤ np.toInt ∧ np.toInt ≤ 40 := b_np
  obtain ⟨c0, f_m_claims⟩ : ∃ y : Int32, hl1.2.1 am 36 = y := ⟨_, rfl⟩
  have b_c0 := hT.gi gm tt_10 (k := 36) rfl
  rw [f_m_claims] at b_c0
  have b_c0 : 0 ≤ c0.toInt ∧ c0.toInt ≤ 100 := b_c0
  obtain ⟨tl, f_m_taped⟩ : ∃ y : Int32, hl1.2.1 am 7 = y := ⟨_, rfl⟩
  have b_tl := hT.gi gm tt_10 (k := 7) rfl
  rw [f_m_taped] at b_tl
  have b_tl : 0 ≤ tl.toInt ∧ tl.toInt ≤ 400 := b_tl
  obtain ⟨a0, f_m_acts⟩ : ∃ y : Int32, hl1.2.1 am 1 = y := ⟨_, rfl⟩
  have b_a0 := hT.gi gm tt_10 (k := 1) rfl
  rw [f_m_acts] at b_a0
  have b_a0 : 0 ≤ a0.toInt ∧ a0.toInt ≤ 8 := b_a0
  obtain ⟨m0, f_m_heardMany⟩ : ∃ y : Int32, hl1.2.1 am 57 = y := ⟨_, rfl⟩
  have b_m0 := hT.gi gm tt_10 (k := 57) rfl
  rw [f_m_heardMany] at b_m0
  have b_m0 : 0 ≤ m0.toInt ∧ m0.toInt ≤ 100 := b_m0
  obtain ⟨ln, f_m_lines⟩ : ∃ y : Int32, hl1.2.1 am 29 = y := ⟨_, rfl⟩
  have b_ln := hT.gi gm tt_10 (k := 29) rfl
  rw [f_m_lines] at b_ln
  have b_ln : 0 ≤ ln.toInt ∧ ln.toInt ≤ 400 := b_ln
  obtain ⟨lsd, f_m_listed⟩ : ∃ y : Int32, hl1.2.1 am 90 = y := ⟨_, rfl⟩
  have b_lsd := hT.gi gm tt_10 (k := 90) rfl
  rw [f_m_listed] at b_lsd
  have b_lsd : 0 ≤ lsd.toInt ∧ lsd.toInt ≤ 8 := b_lsd
  obtain ⟨wkm, f_m_walkedMany⟩ : ∃ y : Int32, hl1.2.1 am 92 = y := ⟨_, rfl⟩
  have b_wkm := hT.gi gm tt_10 (k := 92) rfl
  rw [f_m_walkedMany] at b_wkm
  have b_wkm : 0 ≤ wkm.toInt ∧ wkm.toInt ≤ 8 := b_wkm
  obtain ⟨py, f_m_payments⟩ : ∃ y : Int32, hl1.2.1 am 59 = y := ⟨_, rfl⟩
  have b_py := hT.gi gm tt_10 (k := 59) rfl
  rw [f_m_payments] at b_py
  have b_py : 0 ≤ py.toInt ∧ py.toInt ≤ 600 := b_py
  have f_x_now : hl1.2.1 ax 2 = nw := he_nw.trans f_m_now
  have f_x_personCount : hl1.2.1 ax 8 = np := he_np.trans f_m_persons
  have f_x_claimCount : hl1.2.1 ax 11 = c0 := he_c0.trans f_m_claims
  have f_x_tapeLength : hl1.2.1 ax 1 = tl := he_tl.trans f_m_taped
  have f_x_actCount : hl1.2.1 ax 6 = a0 := he_a0.trans f_m_acts
  have f_x_heardCount : hl1.2.1 ax 13 = m0 := he_m0.trans f_m_heardMany
  obtain ⟨mw, f_mw, g_mw⟩ := hx_rf hT gm tt_10 (k := 19) (u := 57) rfl
  obtain ⟨F_mw, n_mw⟩ : ∃ g : Nat → Int32, hl1.2.1 mw = g := ⟨_, rfl⟩
  obtain ⟨mr, f_mr, g_mr⟩ := hx_rf hT gm tt_10 (k := 3) (u := 50) rfl
  obtain ⟨F_mr, n_mr⟩ : ∃ g : Nat → Int32, hl1.2.1 mr = g := ⟨_, rfl⟩
  obtain ⟨mp, f_mp, g_mp⟩ := hx_rf hT gm tt_10 (k := 5) (u := 52) rfl
  obtain ⟨F_mp, n_mp⟩ : ∃ g : Nat → Int32, hl1.2.1 mp = g := ⟨_, rfl⟩
  obtain ⟨mn, f_mn, g_mn⟩ := hx_rf hT gm tt_10 (k := 4) (u := 51) rfl
  obtain ⟨F_mn, n_mn⟩ : ∃ g : Nat → Int32, hl1.2.1 mn = g := ⟨_, rfl⟩
  obtain ⟨ml, f_ml, g_ml⟩ := hx_rf hT gm tt_10 (k := 44) (u := 79) rfl
  obtain ⟨F_ml, n_ml⟩ : ∃ g : Nat → Int32, hl1.2.1 ml = g := ⟨_, rfl⟩
  obtain ⟨mh, f_mh, g_mh⟩ := hx_rf hT gm tt_10 (k := 47) (u := 82) rfl
  obtain ⟨F_mh, n_mh⟩ : ∃ g : Nat → Int32, hl1.2.1 mh = g := ⟨_, rfl⟩
  obtain ⟨mt, f_mt, g_mt⟩ := hx_rf hT gm tt_10 (k := 45) (u := 80) rfl
  obtain ⟨F_mt, n_mt⟩ : ∃ g : Nat → Int32, hl1.2.1 mt = g := ⟨_, rfl⟩
  obtain ⟨m_fou, f_m_fou, g_m_fou⟩ := hx_rf hT gm tt_10 (k := 46) (u := 81) rfl
  obtain ⟨F_m_fou, n_m_fou⟩ : ∃ g : Nat → Int32, hl1.2.1 m_fou = g := ⟨_, rfl⟩
  obtain ⟨qo_ln, f_qo_ln, g_qo_ln⟩ := hx_rf hT gx tt_9 (k := 9) (u := 1) rfl
  have f_o_ln : hl1.2.1 qo_ln 0 = ln := (ho_ln qo_ln f_qo_ln).trans f_m_lines
  have f_o_lsd : hl1.2.1 qw 0 = lsd := (ho_lsd qw f_qw).trans f_m_listed
  have f_o_wkm : hl1.2.1 qw 1 = wkm := (ho_wkm qw f_qw).trans f_m_walkedMany
  obtain ⟨qo_py, f_qo_py, g_qo_py⟩ := hx_rf hT gx tt_9 (k := 14) (u := 3) rfl
  have f_o_py : hl1.2.1 qo_py 0 = py := (ho_py qo_py f_qo_py).trans f_m_payments
  have nu_qp := hn_qp qp f_qp; rw [f_x_personCount] at nu_qp
  have nu_qc := hn_qc qc f_qc; rw [f_x_claimCount] at nu_qc
  obtain ⟨b_of, f_b_of, g_b_of⟩ := hx_rf hT g_qo_ln tt_1 (k := 1) (u := 13) rfl
  obtain ⟨B_of, n_b_of⟩ : ∃ g : Nat → Int32, hl1.2.1 b_of = g := ⟨_, rfl⟩
  obtain ⟨m_of, f_m_of, g_m_of⟩ := hx_rf hT gm tt_10 (k := 30) (u := 66) rfl
  obtain ⟨F_of, n_m_of⟩ : ∃ g : Nat → Int32, hl1.2.1 m_of = g := ⟨_, rfl⟩
  have eb_of := hk_of qo_ln b_of m_of f_qo_ln f_b_of f_m_of; rw [n_b_of, n_m_of, f_o_ln] at eb_of
  obtain ⟨b_wf, f_b_wf, g_b_wf⟩ := hx_rf hT g_qo_ln tt_1 (k := 2) (u := 14) rfl
  obtain ⟨B_wf, n_b_wf⟩ : ∃ g : Nat → Int32, hl1.2.1 b_wf = g := ⟨_, rfl⟩
  obtain ⟨m_wf, f_m_wf, g_m_wf⟩ := hx_rf hT gm tt_10 (k := 31) (u := 67) rfl
  obtain ⟨F_wf, n_m_wf⟩ : ∃ g : Nat → Int32, hl1.2.1 m_wf = g := ⟨_, rfl⟩
  have eb_wf := hk_wf qo_ln b_wf m_wf f_qo_ln f_b_wf f_m_wf; rw [n_b_wf, n_m_wf, f_o_ln] at eb_wf
  obtain ⟨b_df, f_b_df, g_b_df⟩ := hx_rf hT g_qo_ln tt_1 (k := 3) (u := 15) rfl
  obtain ⟨B_df, n_b_df⟩ : ∃ g : Nat → Int32, hl1.2.1 b_df = g := ⟨_, rfl⟩
  obtain ⟨m_df, f_m_df, g_m_df⟩ := hx_rf hT gm tt_10 (k := 32) (u := 68) rfl
  obtain ⟨F_df, n_m_df⟩ : ∃ g : Nat → Int32, hl1.2.1 m_df = g := ⟨_, rfl⟩
  have eb_df := hk_df qo_ln b_df m_df f_qo_ln f_b_df f_m_df; rw [n_b_df, n_m_df, f_o_ln] at eb_df
  obtain ⟨b_kf, f_b_kf, g_b_kf⟩ := hx_rf hT g_qo_ln tt_1 (k := 4) (u := 16) rfl
  obtain ⟨B_kf, n_b_kf⟩ : ∃ g : Nat → Int32, hl1.2.1 b_kf = g := ⟨_, rfl⟩
  obtain ⟨m_kf, f_m_kf, g_m_kf⟩ := hx_rf hT gm tt_10 (k := 33) (u := 69) rfl
  obtain ⟨F_kf, n_m_kf⟩ : ∃ g : Nat → Int32, hl1.2.1 m_kf = g := ⟨_, rfl⟩
  have eb_kf := hk_kf qo_ln b_kf m_kf f_qo_ln f_b_kf f_m_kf; rw [n_b_kf, n_m_kf, f_o_ln] at eb_kf
  obtain ⟨b_sf, f_b_sf, g_b_sf⟩ := hx_rf hT g_qo_ln tt_1 (k := 5) (u := 17) rfl
  obtain ⟨B_sf, n_b_sf⟩ : ∃ g : Nat → Int32, hl1.2.1 b_sf = g := ⟨_, rfl⟩
  obtain ⟨m_sf, f_m_sf, g_m_sf⟩ := hx_rf hT gm tt_10 (k := 34) (u := 70) rfl
  obtain ⟨F_sf, n_m_sf⟩ : ∃ g : Nat → Int32, hl1.2.1 m_sf = g := ⟨_, rfl⟩
  have eb_sf := hk_sf qo_ln b_sf m_sf f_qo_ln f_b_sf f_m_sf; rw [n_b_sf, n_m_sf, f_o_ln] at eb_sf
  obtain ⟨b_bf, f_b_bf, g_b_bf⟩ := hx_rf hT g_qo_ln tt_1 (k := 6) (u := 18) rfl
  obtain ⟨bfL, n_b_bf⟩ : ∃ g : Nat → Int32, hl1.2.1 b_bf = g := ⟨_, rfl⟩
  obtain ⟨hBD, hDY⟩ := hkBD qo_ln b_df b_bf f_qo_ln f_b_df f_b_bf; rw [n_b_df, n_b_bf, f_o_ln] at hBD; rw [n_b_df, f_o_ln] at hDY
  have hBDm := hy_BD_c eb_df hBD
  have hDYm : hy_DY F_df ln.toInt.toNat := fun x hx => by rw [← eb_df x hx]; exact hDY x hx
  have sb_list := hLQ qw ql qc f_qw f_ql f_qc
  obtain ⟨m_lst, f_m_lst, g_m_lst⟩ := hx_rf hT gm tt_10 (k := 91) (u := 112) rfl
  obtain ⟨F_lst, n_lst⟩ : ∃ g : Nat → Int32, hl1.2.1 m_lst = g := ⟨_, rfl⟩
  obtain ⟨c_lst, cl_lst⟩ : ∃ g : Nat → Int32, hx_col 8 hl1 ql 0 = g := ⟨_, rfl⟩
  have eq_lst := hLE qw ql m_lst f_qw f_ql f_m_lst; rw [cl_lst, n_lst] at eq_lst
  obtain ⟨qtp, f_qtp, g_qtp⟩ := hx_rf hT gx tt_9 (k := 0) (u := 42) rfl
  obtain ⟨m_tp, f_m_tp, g_m_tp⟩ := hx_rf hT gm tt_10 (k := 6) (u := 53) rfl
  obtain ⟨F_tp, n_tp⟩ : ∃ g : Nat → Int32, hl1.2.1 m_tp = g := ⟨_, rfl⟩
  have n_qtp : hl1.2.1 qtp = F_tp := (hkTP qtp m_tp f_qtp f_m_tp).trans n_tp
  obtain ⟨c_dead, cl_dead⟩ : ∃ g : Nat → Int32, hx_col 40 hl1 qp 7 = g := ⟨_, rfl⟩
  obtain ⟨m_dead, f_m_dead, g_m_dead⟩ := hx_rf hT gm tt_10 (k := 27) (u := 64) rfl
  obtain ⟨F_dead, n_dead⟩ : ∃ g : Nat → Int32, hl1.2.1 m_dead = g := ⟨_, rfl⟩
  have eq_dead := hc_dead qp m_dead f_qp f_m_dead; rw [cl_dead, n_dead] at eq_dead
  have z_dead : np.toInt.toNat < 40 → c_dead np.toInt.toNat = 0 := fun hj => hx_num_z nu_qp cl_dead hj ?o0
  case o0 => omega
  obtain ⟨c_isj, cl_isj⟩ : ∃ g : Nat → Int32, hx_col 40 hl1 qp 8 = g := ⟨_, rfl⟩
  obtain ⟨m_isj, f_m_isj, g_m_isj⟩ := hx_rf hT gm tt_10 (k := 28) (u := 65) rfl
  obtain ⟨F_isj, n_isj⟩ : ∃ g : Nat → Int32, hl1.2.1 m_isj = g := ⟨_, rfl⟩
  have eq_isj := hc_isj qp m_isj f_qp f_m_isj; rw [cl_isj, n_isj] at eq_isj
  have z_isj : np.toInt.toNat < 40 → c_isj np.toInt.toNat = 0 := fun hj => hx_num_z nu_qp cl_isj hj ?o1
  case o1 => omega
  obtain ⟨c_dox, cl_dox⟩ : ∃ g : Nat → Int32, hx_col 40 hl1 qp 5 = g := ⟨_, rfl⟩
  obtain ⟨m_dox, f_m_dox, g_m_dox⟩ := hx_rf hT gm tt_10 (k := 24) (u := 61) rfl
  obtain ⟨F_dox, n_dox⟩ : ∃ g : Nat → Int32, hl1.2.1 m_dox = g := ⟨_, rfl⟩
  have eq_dox := hc_dox qp m_dox f_qp f_m_dox; rw [cl_dox, n_dox] at eq_dox
  have z_dox : np.toInt.toNat < 40 → c_dox np.toInt.toNat = 0 := fun hj => hx_num_z nu_qp cl_dox hj ?o2
  case o2 => omega
  obtain ⟨c_doy, cl_doy⟩ : ∃ g : Nat → Int32, hx_col 40 hl1 qp 6 = g := ⟨_, rfl⟩
  obtain ⟨m_doy, f_m_doy, g_m_doy⟩ := hx_rf hT gm tt_10 (k := 25) (u := 62) rfl
  obtain ⟨F_doy, n_doy⟩ : ∃ g : Nat → Int32, hl1.2.1 m_doy = g := ⟨_, rfl⟩
  have eq_doy := hc_doy qp m_doy f_qp f_m_doy; rw [cl_doy, n_doy] at eq_doy
  have z_doy : np.toInt.toNat < 40 → c_doy np.toInt.toNat = 0 := fun hj => hx_num_z nu_qp cl_doy hj ?o3
  case o3 => omega
  obtain ⟨c_fou, cl_fou⟩ : ∃ g : Nat → Int32, hx_col 100 hl1 qc 10 = g := ⟨_, rfl⟩
  have eq_fou := hc_fou qc m_fou f_qc f_m_fou; rw [cl_fou, n_m_fou] at eq_fou
  have z_fou : c0.toInt.toNat < 100 → c_fou c0.toInt.toNat = 0 := fun hj => hx_num_z nu_qc cl_fou hj ?o4
  case o4 => omega
  obtain ⟨c_tri, cl_tri⟩ : ∃ g : Nat → Int32, hx_col 100 hl1 qc 9 = g := ⟨_, rfl⟩
  have eq_tri := hc_tri qc mt f_qc f_mt; rw [cl_tri, n_mt] at eq_tri
  have z_tri : c0.toInt.toNat < 100 → c_tri c0.toInt.toNat = 0 := fun hj => hx_num_z nu_qc cl_tri hj ?o5
  case o5 => omega
  obtain ⟨qlt, f_qlt, g_qlt⟩ := hx_rf hT g_qw tt_8 (k := 2) (u := 39) rfl
  obtain ⟨qlf, f_qlf, g_qlf⟩ := hx_rf hT g_qw tt_8 (k := 4) (u := 41) rfl
  obtain ⟨m_wkd, f_m_wkd, g_m_wkd⟩ := hx_rf hT gm tt_10 (k := 93) (u := 113) rfl
  obtain ⟨F_qlt, n_qlt⟩ : ∃ g : Nat → Int32, hl1.2.1 qlt = g := ⟨_, rfl⟩
  obtain ⟨F_m_wkd, n_m_wkd⟩ : ∃ g : Nat → Int32, hl1.2.1 m_wkd = g := ⟨_, rfl⟩
  have eb_wkd := hkWD qw qlt m_wkd f_qw f_qlt f_m_wkd; rw [n_qlt, n_m_wkd, f_o_wkm] at eb_wkd
  obtain ⟨m_aga, f_m_aga, g_m_aga⟩ := hx_rf hT gm tt_10 (k := 38) (u := 73) rfl
  obtain ⟨F_aga, n_aga⟩ : ∃ g : Nat → Int32, hl1.2.1 m_aga = g := ⟨_, rfl⟩
  have hDF := hkDF qc qp m_aga f_qc f_qp f_m_aga; rw [n_aga, f_x_claimCount] at hDF
  obtain ⟨qwo, f_qwo, g_qwo⟩ := hx_rf hT gx tt_9 (k := 4) (u := 0) rfl
  obtain ⟨m_ad, f_m_ad, g_m_ad⟩ := hx_rf hT gm tt_10 (k := 2) (u := 49) rfl
  obtain ⟨F_ad, n_ad⟩ : ∃ g : Nat → Int32, hl1.2.1 m_ad = g := ⟨_, rfl⟩
  obtain ⟨A9, hRA9, hCA9, hAC9, hAB⟩ := hkAC qa qwo m_ad mr mn mp qc ml f_qa f_qwo f_m_ad f_mr f_mn f_mp f_qc f_ml
  rw [f_x_actCount] at hRA9; rw [f_x_actCount, n_ad, n_mr, n_mn, n_mp] at hCA9
  obtain ⟨m_by, f_m_by, g_m_by⟩ := hx_rf hT gm tt_10 (k := 37) (u := 72) rfl
  obtain ⟨F_by, n_by⟩ : ∃ g : Nat → Int32, hl1.2.1 m_by = g := ⟨_, rfl⟩
  obtain ⟨m_ho, f_m_ho, g_m_ho⟩ := hx_rf hT gm tt_10 (k := 58) (u := 92) rfl
  obtain ⟨F_ho, n_ho⟩ : ∃ g : Nat → Int32, hl1.2.1 m_ho = g := ⟨_, rfl⟩
  obtain ⟨m_fc, f_m_fc, g_m_fc⟩ := hx_rf hT gm tt_10 (k := 53) (u := 88) rfl
  obtain ⟨F_fc, n_fc⟩ : ∃ g : Nat → Int32, hl1.2.1 m_fc = g := ⟨_, rfl⟩
  obtain ⟨m_nt, f_m_nt, g_m_nt⟩ := hx_rf hT gm tt_10 (k := 41) (u := 76) rfl
  obtain ⟨F_nt, n_nt⟩ : ∃ g : Nat → Int32, hl1.2.1 m_nt = g := ⟨_, rfl⟩
  obtain ⟨m_wt, f_m_wt, g_m_wt⟩ := hx_rf hT gm tt_10 (k := 42) (u := 77) rfl
  obtain ⟨F_wt, n_wt⟩ : ∃ g : Nat → Int32, hl1.2.1 m_wt = g := ⟨_, rfl⟩
  obtain ⟨m_be, f_m_be, g_m_be⟩ := hx_rf hT gm tt_10 (k := 52) (u := 87) rfl
  obtain ⟨F_be, n_be⟩ : ∃ g : Nat → Int32, hl1.2.1 m_be = g := ⟨_, rfl⟩
  obtain ⟨m_bor, f_m_bor, g_m_bor⟩ := hx_rf hT gm tt_10 (k := 21) (u := 58) rfl
  obtain ⟨F_bor, n_bor⟩ : ∃ g : Nat → Int32, hl1.2.1 m_bor = g := ⟨_, rfl⟩
  obtain ⟨m_kin, f_m_kin, g_m_kin⟩ := hx_rf hT gm tt_10 (k := 26) (u := 63) rfl
  obtain ⟨F_kin, n_kin⟩ : ∃ g : Nat → Int32, hl1.2.1 m_kin = g := ⟨_, rfl⟩
  obtain ⟨m_sum, f_m_sum, g_m_sum⟩ := hx_rf hT gm tt_10 (k := 39) (u := 74) rfl
  obtain ⟨F_sum, n_sum⟩ : ∃ g : Nat → Int32, hl1.2.1 m_sum = g := ⟨_, rfl⟩
  obtain ⟨m_fro, f_m_fro, g_m_fro⟩ := hx_rf hT gm tt_10 (k := 40) (u := 75) rfl
  obtain ⟨F_fro, n_fro⟩ : ∃ g : Nat → Int32, hl1.2.1 m_fro = g := ⟨_, rfl⟩
  obtain ⟨m_fil, f_m_fil, g_m_fil⟩ := hx_rf hT gm tt_10 (k := 43) (u := 78) rfl
  obtain ⟨F_fil, n_fil⟩ : ∃ g : Nat → Int32, hl1.2.1 m_fil = g := ⟨_, rfl⟩
  obtain ⟨m_jud, f_m_jud, g_m_jud⟩ := hx_rf hT gm tt_10 (k := 51) (u := 86) rfl
  obtain ⟨F_jud, n_jud⟩ : ∃ g : Nat → Int32, hl1.2.1 m_jud = g := ⟨_, rfl⟩
  obtain ⟨m_ear, f_m_ear, g_m_ear⟩ := hx_rf hT gm tt_10 (k := 22) (u := 59) rfl
  obtain ⟨F_ear, n_ear⟩ : ∃ g : Nat → Int32, hl1.2.1 m_ear = g := ⟨_, rfl⟩
  obtain ⟨m_hds, f_m_hds, g_m_hds⟩ := hx_rf hT gm tt_10 (k := 23) (u := 60) rfl
  obtain ⟨F_hds, n_hds⟩ : ∃ g : Nat → Int32, hl1.2.1 m_hds = g := ⟨_, rfl⟩
  obtain ⟨m_ord, f_m_ord, g_m_ord⟩ := hx_rf hT gm tt_10 (k := 48) (u := 83) rfl
  obtain ⟨F_ord, n_ord⟩ : ∃ g : Nat → Int32, hl1.2.1 m_ord = g := ⟨_, rfl⟩
  obtain ⟨m_wkl, f_m_wkl, g_m_wkl⟩ := hx_rf hT gm tt_10 (k := 54) (u := 89) rfl
  obtain ⟨F_wkl, n_wkl⟩ : ∃ g : Nat → Int32, hl1.2.1 m_wkl = g := ⟨_, rfl⟩
  obtain ⟨m_owd, f_m_owd, g_m_owd⟩ := hx_rf hT gm tt_10 (k := 55) (u := 90) rfl
  obtain ⟨F_owd, n_owd⟩ : ∃ g : Nat → Int32, hl1.2.1 m_owd = g := ⟨_, rfl⟩
  obtain ⟨m_gds, f_m_gds, g_m_gds⟩ := hx_rf hT gm tt_10 (k := 56) (u := 91) rfl
  obtain ⟨F_gds, n_gds⟩ : ∃ g : Nat → Int32, hl1.2.1 m_gds = g := ⟨_, rfl⟩
  obtain ⟨m_szd, f_m_szd, g_m_szd⟩ := hx_rf hT gm tt_10 (k := 49) (u := 84) rfl
  obtain ⟨F_szd, n_szd⟩ : ∃ g : Nat → Int32, hl1.2.1 m_szd = g := ⟨_, rfl⟩
  obtain ⟨m_srv, f_m_srv, g_m_srv⟩ := hx_rf hT gm tt_10 (k := 50) (u := 85) rfl
  obtain ⟨F_srv, n_srv⟩ : ∃ g : Nat → Int32, hl1.2.1 m_srv = g := ⟨_, rfl⟩
  have cl_bor : hx_col 40 hl1 qp 1 = F_bor := (hf_bor qp m_bor f_qp f_m_bor).trans n_bor
  have cl_kin : hx_col 40 hl1 qp 2 = F_kin := (hf_kin qp m_kin f_qp f_m_kin).trans n_kin
  have cl_sum : hx_col 100 hl1 qc 6 = F_sum := (hf_sum qc m_sum f_qc f_m_sum).trans n_sum
  have cl_fro : hx_col 100 hl1 qc 7 = F_fro := (hf_fro qc m_fro f_qc f_m_fro).trans n_fro
  have cl_fil : hx_col 100 hl1 qc 8 = F_fil := (hf_fil qc m_fil f_qc f_m_fil).trans n_fil
  have cl_hea : hx_col 100 hl1 qc 11 = F_mh := (hf_hea qc mh f_qc f_mh).trans n_mh
  have cl_jud : hx_col 100 hl1 qc 12 = F_jud := (hf_jud qc m_jud f_qc f_m_jud).trans n_jud
  have cl_ear : hx_col 40 hl1 qp 3 = F_ear := (hf_ear qp m_ear f_qp f_m_ear).trans n_ear
  have cl_hds : hx_col 40 hl1 qp 4 = F_hds := (hf_hds qp m_hds f_qp f_m_hds).trans n_hds
  have cl_ord : hx_col 100 hl1 qc 13 = F_ord := (hf_ord qc m_ord f_qc f_m_ord).trans n_ord
  have cl_wkl : hx_col 100 hl1 qc 14 = F_wkl := (hf_wkl qc m_wkl f_qc f_m_wkl).trans n_wkl
  have cl_owd : hx_col 100 hl1 qc 15 = F_owd := (hf_owd qc m_owd f_qc f_m_owd).trans n_owd
  have cl_gds : hx_col 100 hl1 qc 17 = F_gds := (hf_gds qc m_gds f_qc f_m_gds).trans n_gds
  have cl_szd : hx_col 100 hl1 qc 16 = F_szd := (hf_szd qc m_szd f_qc f_m_szd).trans n_szd
  have cl_srv : hx_col 100 hl1 qc 18 = F_srv := (hf_srv qc m_srv f_qc f_m_srv).trans n_srv
  have htb9 : ∀ c, c < 100 → 0 ≤ (c_tri c).toInt ∧ (c_tri c).toInt ≤ 512 := fun c hc => by rw [eq_tri c hc]; have w := hT.ei g_mt tt_80 (k := c) hc; rw [n_mt] at w; exact w
  have z_jud : F_jud c0.toInt.toNat = 0 := hx_num_z2 nu_qc cl_jud ?o6
  case o6 => omega
  have hDP := hkDP qc qp m_by f_qc f_qp f_m_by; rw [n_by, f_x_claimCount] at hDP
  have hHL := hkHL qh qc m_ho f_qh f_qc f_m_ho; rw [n_ho, f_x_heardCount, f_x_claimCount] at hHL
  have hHO9 := hkHO m_ho mh f_m_ho f_mh; rw [n_ho, n_mh, f_m_heardMany, f_m_claims] at hHO9
  obtain ⟨cF9L, hFX, hFR9⟩ := hkFX qc m_fc m_nt m_wt m_sum mh f_qc f_m_fc f_m_nt f_m_wt f_m_sum f_mh; rw [f_x_claimCount] at hFX; rw [n_fc, n_nt, n_wt, n_sum, n_mh, f_x_claimCount] at hFR9
  have hBX := hkBX qc m_be f_qc f_m_be; rw [n_be, f_x_claimCount] at hBX
  rw [n_ml, f_x_claimCount] at hAC9
  obtain ⟨y_p0, f_y_p0, g_y_p0⟩ := hx_rf hT g_qo_py tt_3 (k := 2) (u := 23) rfl
  obtain ⟨m_p0, f_m_p0, g_m_p0⟩ := hx_rf hT gm tt_10 (k := 60) (u := 93) rfl
  obtain ⟨F_p0, n_p0⟩ : ∃ g : Nat → Int32, hl1.2.1 m_p0 = g := ⟨_, rfl⟩
  have n_y_p0 : hl1.2.1 y_p0 = F_p0 := (hkP0 qo_py y_p0 m_p0 f_qo_py f_y_p0 f_m_p0).trans n_p0
  obtain ⟨y_p1, f_y_p1, g_y_p1⟩ := hx_rf hT g_qo_py tt_3 (k := 3) (u := 24) rfl
  obtain ⟨m_p1, f_m_p1, g_m_p1⟩ := hx_rf hT gm tt_10 (k := 61) (u := 94) rfl
  obtain ⟨F_p1, n_p1⟩ : ∃ g : Nat → Int32, hl1.2.1 m_p1 = g := ⟨_, rfl⟩
  have n_y_p1 : hl1.2.1 y_p1 = F_p1 := (hkP1 qo_py y_p1 m_p1 f_qo_py f_y_p1 f_m_p1).trans n_p1
  obtain ⟨y_p2, f_y_p2, g_y_p2⟩ := hx_rf hT g_qo_py tt_3 (k := 5) (u := 26) rfl
  obtain ⟨m_p2, f_m_p2, g_m_p2⟩ := hx_rf hT gm tt_10 (k := 62) (u := 95) rfl
  obtain ⟨F_p2, n_p2⟩ : ∃ g : Nat → Int32, hl1.2.1 m_p2 = g := ⟨_, rfl⟩
  have n_y_p2 : hl1.2.1 y_p2 = F_p2 := (hkP2 qo_py y_p2 m_p2 f_qo_py f_y_p2 f_m_p2).trans n_p2
  obtain ⟨y_p3, f_y_p3, g_y_p3⟩ := hx_rf hT g_qo_py tt_3 (k := 4) (u := 25) rfl
  obtain ⟨m_p3, f_m_p3, g_m_p3⟩ := hx_rf hT gm tt_10 (k := 63) (u := 96) rfl
  obtain ⟨F_p3, n_p3⟩ : ∃ g : Nat → Int32, hl1.2.1 m_p3 = g := ⟨_, rfl⟩
  have n_y_p3 : hl1.2.1 y_p3 = F_p3 := (hkP3 qo_py y_p3 m_p3 f_qo_py f_y_p3 f_m_p3).trans n_p3
  obtain ⟨y_p4, f_y_p4, g_y_p4⟩ := hx_rf hT g_qo_py tt_3 (k := 1) (u := 22) rfl
  obtain ⟨m_p4, f_m_p4, g_m_p4⟩ := hx_rf hT gm tt_10 (k := 64) (u := 97) rfl
  obtain ⟨F_p4, n_p4⟩ : ∃ g : Nat → Int32, hl1.2.1 m_p4 = g := ⟨_, rfl⟩
  have n_y_p4 : hl1.2.1 y_p4 = F_p4 := (hkP4 qo_py y_p4 m_p4 f_qo_py f_y_p4 f_m_p4).trans n_p4
  obtain ⟨qrg9, f_qrg9, g_qrg9⟩ := hx_rf hT gx tt_9 (k := 18) (u := 7) rfl
  obtain ⟨y_ls, f_y_ls, g_y_ls⟩ := hx_rf hT g_qrg9 tt_7 (k := 3) (u := 35) rfl
  obtain ⟨m_rl, f_m_rl, g_m_rl⟩ := hx_rf hT gm tt_10 (k := 85) (u := 109) rfl
  obtain ⟨F_y_ls, n_y_ls⟩ : ∃ g : Nat → Int32, hl1.2.1 y_ls = g := ⟨_, rfl⟩
  obtain ⟨F_m_rl, n_m_rl⟩ : ∃ g : Nat → Int32, hl1.2.1 m_rl = g := ⟨_, rfl⟩
  obtain ⟨fv_252, efv_252⟩ : ∃ y : Int32, y = hl1.2.1 qrg9 0 := ⟨_, rfl⟩
  have bfv_252 := hT.gi g_qrg9 tt_7 (k := 0) rfl
  rw [← efv_252] at bfv_252
  have bfv_252 : -1 ≤ fv_252.toInt ∧ fv_252.toInt ≤ 100 := bfv_252
  have ffv_252 := efv_252.symm
  obtain ⟨fv_253, efv_253⟩ : ∃ y : Int32, y = hl1.2.1 am 83 := ⟨_, rfl⟩
  have bfv_253 := hT.gi gm tt_10 (k := 83) rfl
  rw [← efv_253] at bfv_253
  have bfv_253 : 0 ≤ fv_253.toInt ∧ fv_253.toInt ≤ 1 := bfv_253
  have ffv_253 := efv_253.symm
  obtain ⟨fv_254, efv_254⟩ : ∃ y : Int32, y = hl1.2.1 am 84 := ⟨_, rfl⟩
  have bfv_254 := hT.gi gm tt_10 (k := 84) rfl
  rw [← efv_254] at bfv_254
  have bfv_254 : 0 ≤ fv_254.toInt ∧ fv_254.toInt ≤ 300 := bfv_254
  have ffv_254 := efv_254.symm
  have hNQ9 := hkNQ qrg9 f_qrg9; rw [ffv_252, ffv_253, ffv_254] at hNQ9
  have hRL9 := hkRL qrg9 y_ls m_rl f_qrg9 f_y_ls f_m_rl; rw [n_y_ls, n_m_rl, ffv_252] at hRL9
  have hCB : hz_CB F_ord F_wkl F_owd F_szd F_gds F_srv := fun c hc => ⟨by have w := hT.ei g_m_ord tt_83 (k := c) (by omega); rw [n_ord] at w; exact w, by have w := hT.ei g_m_wkl tt_89 (k := c) (by omega); rw [n_wkl] at w; exact w, by have w := hT.ei g_m_owd tt_90 (k := c) (by omega); rw [n_owd] at w; exact w, by have w := hT.ei g_m_szd tt_84 (k := c) (by omega); rw [n_szd] at w; exact w, by have w := hT.ei g_m_gds tt_91 (k := c) (by omega); rw [n_gds] at w; exact w, by have w := hT.ei g_m_srv tt_85 (k := c) (by omega); rw [n_srv] at w; exact w⟩
  have hps : ∀ j, j < 600 → 0 ≤ (F_p2 j).toInt ∧ (F_p2 j).toInt ≤ 610000 := fun j hj => by have w := hT.ei g_m_p2 tt_95 (k := j) (by omega); rw [n_p2] at w; exact w
  have hte9 : ∀ c : Nat, c < 100 → (0 ≤ (c_tri c).toInt ∧ (c_tri c).toInt ≤ 512) ∧ (0 ≤ (F_sum c).toInt ∧ (F_sum c).toInt ≤ 9999) := fun c hc => ⟨htb9 c hc, by have w := hT.ei g_m_sum tt_74 (k := c) (by omega); rw [n_sum] at w; exact w⟩
  have hee9 : ∀ c : Nat, c < 40 → (0 ≤ (F_ear c).toInt ∧ (F_ear c).toInt ≤ 9999) ∧ (0 ≤ (F_hds c).toInt ∧ (F_hds c).toInt ≤ 20) := fun c hc => ⟨by have w := hT.ei g_m_ear tt_59 (k := c) (by omega); rw [n_ear] at w; exact w, by have w := hT.ei g_m_hds tt_60 (k := c) (by omega); rw [n_hds] at w; exact w⟩
  have bAG9 : ∀ k, k < 100 → 0 ≤ (F_aga k).toInt ∧ (F_aga k).toInt ≤ 39 := fun k hk => by have w := hT.ei g_m_aga tt_73 (k := k) (by omega); rw [n_aga] at w; exact w
  have bBY9 : ∀ k, k < 100 → 0 ≤ (F_by k).toInt ∧ (F_by k).toInt ≤ 39 := fun k hk => by have w := hT.ei g_m_by tt_72 (k := k) (by omega); rw [n_by] at w; exact w
  have hag9 : ∀ c, c < c0.toInt.toNat → 0 ≤ (F_aga c).toInt ∧ (F_aga c).toInt < 40 ∧ 0 ≤ (F_by c).toInt ∧ (F_by c).toInt < 40 := fun c hc => by have a9 := bAG9 c (by omega); have b9 := bBY9 c (by omega); omega
  have z_wkl : F_wkl c0.toInt.toNat = 0 := hx_num_z2 nu_qc cl_wkl ?o7
  case o7 => omega
  have z_owd : F_owd c0.toInt.toNat = 0 := hx_num_z2 nu_qc cl_owd ?o8
  case o8 => omega
  have z_gds : F_gds c0.toInt.toNat = 0 := hx_num_z2 nu_qc cl_gds ?o9
  case o9 => omega
  have hwd := jw mw f_mw; rw [n_mw] at hwd
  have hWK := jr mr f_mr; rw [n_mr, f_m_acts] at hWK
  have hRP := jp mp mn f_mp f_mn; rw [n_mp, n_mn, f_m_acts] at hRP
  have hPL := jl ml f_ml; rw [n_ml, f_m_claims, f_m_acts] at hPL
  have hHC := jh mh f_mh; rw [n_mh, f_m_heardMany, f_m_claims] at hHC
  have hTR := jt mt f_mt; rw [n_mt] at hTR
  have hHF := jf mh m_fou f_mh f_m_fou; rw [n_mh, n_m_fou, f_m_claims] at hHF
  refine lv_aload_n hx hb dL_law_498 rfl (lv_at hl 2 rfl) ?_
  refine lv_aload_n hx hb dL_law_499 rfl (lv_at hl 3 rfl) ?_
  refine lv_iload_n hx hb dL_law_500 rfl (lv_at hl 0 rfl) ?_
  refine lv_iconst (v := 1) hx hb dL_law_501 ?o10 ?_
  case o10 => decide
  refine lv_iadd hx hb dL_law_502 ?_
  have rg_255 := i32_r i
  refine lv_topi (fun x_256 ex_256 => ?_)
  have zx_256 : x_256.toInt = i.toInt + 1 := ?o11
  case o11 =>
    rw [ex_256]
    refine i32_add rfl ?o12 ?o13 ?o14
    case o12 => decide
    case o13 => omega
    case o14 => omega
  refine va_sld hx hb hX hbl hbA hW.2.2.2.1 (vp_in_iff.mpr ⟨?o15, ?o16⟩) dL_law_503 ?_
  case o15 => omega
  case o16 => omega
  refine lv_topi (fun x_257 ex_257 => ?_)
  refine lv_aload_n hx hb dL_law_504 rfl (lv_at hl 3 rfl) ?_
  refine lv_iload_n hx hb dL_law_505 rfl (lv_at hl 0 rfl) ?_
  refine lv_iconst (v := 2) hx hb dL_law_506 ?o17 ?_
  case o17 => decide
  refine lv_iadd hx hb dL_law_507 ?_
  refine lv_topi (fun x_258 ex_258 => ?_)
  have zx_258 : x_258.toInt = i.toInt + 2 := ?o18
  case o18 =>
    rw [ex_258]
    refine i32_add rfl ?o19 ?o20 ?o21
    case o19 => decide
    case o20 => omega
    case o21 => omega
  refine va_sld hx hb hX hbl hbA hW.2.2.2.1 (vp_in_iff.mpr ⟨?o22, ?o23⟩) dL_law_508 ?_
  case o22 => omega
  case o23 => omega
  refine lv_topi (fun x_259 ex_259 => ?_)
  have jn_517 : ∀ (xj_260 : Int32) (ls : Array Slot), 0 ≤ xj_260.toInt → xj_260.toInt ≤ 1 → (x_259.toInt = 0 ∧ xj_260.toInt = 0) ∨ (x_259.toInt ≠ 0 ∧ xj_260.toInt = 1) → lv_has ls 4 [(3, .int i), (2, .ref am), (1, .ref ax), (0, .ref b)] → W p l e room_1 s m #[Value.ref b] below meth c H locs (CC) (SS) (lw_Z below #[Value.ref b] s) (F0 m 517 ls [.int xj_260, .int x_257, .ref ax]) := by
    intro xj_260 ls blxj_260 buxj_260 jcxj_260 hl
    have hTo := hT
    refine hx_goi (hx_runV (As := [.int x_257, .int xj_260]) (rest := []) ⟨hx, hb, hml, hown, hts⟩ hW gx tt_9 (T := TX9) (N := 20) rfl (t_X9_judge_2 l dC dI dA L1 hl1 H.size ax x_257 xj_260 hT gx np f_x_personCount ?o24 qp g_qp f_qp pf_qp c_isj cl_isj nu_qp) (cwV 2 hts (hx_gV kw_667 kw_664 kw_665 kw_666 kw_94) rfl rfl rfl (by decide +kernel) ⟨Nat.le_of_ble_eq_true rfl, Nat.le_of_ble_eq_true rfl⟩) rfl hl.1 rfl (Nat.le_of_ble_eq_true rfl) dL_law_517 ⟨(show CC + 0 ≤ 600000 from ?o25), (show SS + 0 ≤ 7302250 from ?o26)⟩) hW (fun r_263 L_261 h_262 H locs p_264 hW => ?_)
    case o24 => omega
    case o25 => omega
    case o26 => omega
    obtain ⟨⟨w_266, fw_266, hr_265⟩, hT, hs⟩ := p_264
    replace hT : hx_T T_tb L_261 h_262 := hT
    replace hs : hx_S T_tb [(4, 8), (4, 9)] L1 hl1 L_261 h_262 := hs
    replace f_qa := (hs.o gx trivial rfl).2.trans f_qa
    replace f_qp := (hs.o gx trivial rfl).2.trans f_qp
    replace f_qc := (hs.o gx trivial rfl).2.trans f_qc
    replace f_qh := (hs.o gx trivial rfl).2.trans f_qh
    replace f_qw := (hs.o gx trivial rfl).2.trans f_qw
    replace f_ql := (hs.o g_qw trivial rfl).2.trans f_ql
    replace f_m_now := (hs.o gm trivial rfl).1.trans f_m_now
    replace f_m_persons := (hs.o gm trivial rfl).1.trans f_m_persons
    replace f_m_claims := (hs.o gm trivial rfl).1.trans f_m_claims
    replace f_m_taped := (hs.o gm trivial rfl).1.trans f_m_taped
    replace f_m_acts := (hs.o gm trivial rfl).1.trans f_m_acts
    replace f_m_heardMany := (hs.o gm trivial rfl).1.trans f_m_heardMany
    replace f_m_lines := (hs.o gm trivial rfl).1.trans f_m_lines
    replace f_m_listed := (hs.o gm trivial rfl).1.trans f_m_listed
    replace f_m_walkedMany := (hs.o gm trivial rfl).1.trans f_m_walkedMany
    replace f_m_payments := (hs.o gm trivial rfl).1.trans f_m_payments
    replace f_x_now := (hs.o gx trivial rfl).1.trans f_x_now
    replace f_x_personCount := (hs.o gx trivial rfl).1.trans f_x_personCount
    replace f_x_claimCount := (hs.o gx trivial rfl).1.trans f_x_claimCount
    replace f_x_tapeLength := (hs.o gx trivial rfl).1.trans f_x_tapeLength
    replace f_x_actCount := (hs.o gx trivial rfl).1.trans f_x_actCount
    replace f_x_heardCount := (hs.o gx trivial rfl).1.trans f_x_heardCount
    replace f_mw := (hs.o gm trivial rfl).2.trans f_mw
    replace f_mr := (hs.o gm trivial rfl).2.trans f_mr
    replace f_mp := (hs.o gm trivial rfl).2.trans f_mp
    replace f_mn := (hs.o gm trivial rfl).2.trans f_mn
    replace f_ml := (hs.o gm trivial rfl).2.trans f_ml
    replace f_mh := (hs.o gm trivial rfl).2.trans f_mh
    replace f_mt := (hs.o gm trivial rfl).2.trans f_mt
    replace f_m_fou := (hs.o gm trivial rfl).2.trans f_m_fou
    replace f_qo_ln := (hs.o gx trivial rfl).2.trans f_qo_ln
    replace f_o_ln := (hs.o g_qo_ln trivial rfl).1.trans f_o_ln
    replace f_o_lsd := (hs.o g_qw trivial rfl).1.trans f_o_lsd
    replace f_o_wkm := (hs.o g_qw trivial rfl).1.trans f_o_wkm
    replace f_qo_py := (hs.o gx trivial rfl).2.trans f_qo_py
    replace f_o_py := (hs.o g_qo_py trivial rfl).1.trans f_o_py
    replace f_b_of := (hs.o g_qo_ln trivial rfl).2.trans f_b_of
    replace f_m_of := (hs.o gm trivial rfl).2.trans f_m_of
    replace f_b_wf := (hs.o g_qo_ln trivial rfl).2.trans f_b_wf
    replace f_m_wf := (hs.o gm trivial rfl).2.trans f_m_wf
    replace f_b_df := (hs.o g_qo_ln trivial rfl).2.trans f_b_df
    replace f_m_df := (hs.o gm trivial rfl).2.trans f_m_df
    replace f_b_kf := (hs.o g_qo_ln trivial rfl).2.trans f_b_kf
    replace f_m_kf := (hs.o gm trivial rfl).2.trans f_m_kf
    replace f_b_sf := (hs.o g_qo_ln trivial rfl).2.trans f_b_sf
    replace f_m_sf := (hs.o gm trivial rfl).2.trans f_m_sf
    replace f_b_bf := (hs.o g_qo_ln trivial rfl).2.trans f_b_bf
    replace f_m_lst := (hs.o gm trivial rfl).2.trans f_m_lst
    replace f_qtp := (hs.o gx trivial rfl).2.trans f_qtp
    replace f_m_tp := (hs.o gm trivial rfl).2.trans f_m_tp
    replace f_m_dead := (hs.o gm trivial rfl).2.trans f_m_dead
    replace f_m_isj := (hs.o gm trivial rfl).2.trans f_m_isj
    replace f_m_dox := (hs.o gm trivial rfl).2.trans f_m_dox
    replace f_m_doy := (hs.o gm trivial rfl).2.trans f_m_doy
    replace f_qlt := (hs.o g_qw trivial rfl).2.trans f_qlt
    replace f_qlf := (hs.o g_qw trivial rfl).2.trans f_qlf
    replace f_m_wkd := (hs.o gm trivial rfl).2.trans f_m_wkd
    replace f_m_aga := (hs.o gm trivial rfl).2.trans f_m_aga
    replace f_qwo := (hs.o gx trivial rfl).2.trans f_qwo
    replace f_m_ad := (hs.o gm trivial rfl).2.trans f_m_ad
    replace f_m_by := (hs.o gm trivial rfl).2.trans f_m_by
    replace f_m_ho := (hs.o gm trivial rfl).2.trans f_m_ho
    replace f_m_fc := (hs.o gm trivial rfl).2.trans f_m_fc
    replace f_m_nt := (hs.o gm trivial rfl).2.trans f_m_nt
    replace f_m_wt := (hs.o gm trivial rfl).2.trans f_m_wt
    replace f_m_be := (hs.o gm trivial rfl).2.trans f_m_be
    replace f_m_bor := (hs.o gm trivial rfl).2.trans f_m_bor
    replace f_m_kin := (hs.o gm trivial rfl).2.trans f_m_kin
    replace f_m_sum := (hs.o gm trivial rfl).2.trans f_m_sum
    replace f_m_fro := (hs.o gm trivial rfl).2.trans f_m_fro
    replace f_m_fil := (hs.o gm trivial rfl).2.trans f_m_fil
    replace f_m_jud := (hs.o gm trivial rfl).2.trans f_m_jud
    replace f_m_ear := (hs.o gm trivial rfl).2.trans f_m_ear
    replace f_m_hds := (hs.o gm trivial rfl).2.trans f_m_hds
    replace f_m_ord := (hs.o gm trivial rfl).2.trans f_m_ord
    replace f_m_wkl := (hs.o gm trivial rfl).2.trans f_m_wkl
    replace f_m_owd := (hs.o gm trivial rfl).2.trans f_m_owd
    replace f_m_gds := (hs.o gm trivial rfl).2.trans f_m_gds
    replace f_m_szd := (hs.o gm trivial rfl).2.trans f_m_szd
    replace f_m_srv := (hs.o gm trivial rfl).2.trans f_m_srv
    replace f_y_p0 := (hs.o g_qo_py trivial rfl).2.trans f_y_p0
    replace f_m_p0 := (hs.o gm trivial rfl).2.trans f_m_p0
    replace f_y_p1 := (hs.o g_qo_py trivial rfl).2.trans f_y_p1
    replace f_m_p1 := (hs.o gm trivial rfl).2.trans f_m_p1
    replace f_y_p2 := (hs.o g_qo_py trivial rfl).2.trans f_y_p2
    replace f_m_p2 := (hs.o gm trivial rfl).2.trans f_m_p2
    replace f_y_p3 := (hs.o g_qo_py trivial rfl).2.trans f_y_p3
    replace f_m_p3 := (hs.o gm trivial rfl).2.trans f_m_p3
    replace f_y_p4 := (hs.o g_qo_py trivial rfl).2.trans f_y_p4
    replace f_m_p4 := (hs.o gm trivial rfl).2.trans f_m_p4
    replace f_qrg9 := (hs.o gx trivial rfl).2.trans f_qrg9
    replace f_y_ls := (hs.o g_qrg9 trivial rfl).2.trans f_y_ls
    replace f_m_rl := (hs.o gm trivial rfl).2.trans f_m_rl
    replace ffv_252 := (hs.o g_qrg9 trivial rfl).1.trans ffv_252
    replace ffv_253 := (hs.o gm trivial rfl).1.trans ffv_253
    replace ffv_254 := (hs.o gm trivial rfl).1.trans ffv_254
    replace pf_qa : ∀ j : Nat, (j : Int) < (h_262.2.1 ax 6).toInt → h_262.2.2 qa j ≠ none := by
      intro j hj; rw [(hs.o gx trivial rfl).1] at hj; rw [(hs.a g_qa rfl j).2]; exact pf_qa j hj
    replace pf_qp : ∀ j : Nat, (j : Int) < (h_262.2.1 ax 8).toInt → h_262.2.2 qp j ≠ none := by
      intro j hj; rw [(hs.o gx trivial rfl).1] at hj; rw [(hs.a g_qp rfl j).2]; exact pf_qp j hj
    replace pf_qc : ∀ j : Nat, (j : Int) < (h_262.2.1 ax 11).toInt → h_262.2.2 qc j ≠ none := by
      intro j hj; rw [(hs.o gx trivial rfl).1] at hj; rw [(hs.a g_qc rfl j).2]; exact pf_qc j hj
    replace pf_qh : ∀ j : Nat, (j : Int) < (h_262.2.1 ax 13).toInt → h_262.2.2 qh j ≠ none := by
      intro j hj; rw [(hs.o gx trivial rfl).1] at hj; rw [(hs.a g_qh rfl j).2]; exact pf_qh j hj
    replace pf_ql : ∀ j : Nat, (j : Int) < (h_262.2.1 qw 0).toInt → h_262.2.2 ql j ≠ none := by
      intro j hj; rw [(hs.o g_qw trivial rfl).1] at hj; rw [(hs.a g_ql rfl j).2]; exact pf_ql j hj
    replace cl_lst : hx_col 8 h_262 ql 0 = c_lst := (hx_col_S hs hTo g_ql tt_40 tt_2 rfl rfl).trans cl_lst
    replace cl_dead : hx_col 40 h_262 qp 7 = c_dead := (hx_col_S hs hTo g_qp tt_44 tt_4 rfl rfl).trans cl_dead
    replace cl_dox : hx_col 40 h_262 qp 5 = c_dox := (hx_col_S hs hTo g_qp tt_44 tt_4 rfl rfl).trans cl_dox
    replace cl_doy : hx_col 40 h_262 qp 6 = c_doy := (hx_col_S hs hTo g_qp tt_44 tt_4 rfl rfl).trans cl_doy
    replace cl_fou : hx_col 100 h_262 qc 10 = c_fou := (hx_col_S hs hTo g_qc tt_45 tt_2 rfl rfl).trans cl_fou
    replace cl_tri : hx_col 100 h_262 qc 9 = c_tri := (hx_col_S hs hTo g_qc tt_45 tt_2 rfl rfl).trans cl_tri
    replace cl_bor : hx_col 40 h_262 qp 1 = F_bor := (hx_col_S hs hTo g_qp tt_44 tt_4 rfl rfl).trans cl_bor
    replace cl_kin : hx_col 40 h_262 qp 2 = F_kin := (hx_col_S hs hTo g_qp tt_44 tt_4 rfl rfl).trans cl_kin
    replace cl_sum : hx_col 100 h_262 qc 6 = F_sum := (hx_col_S hs hTo g_qc tt_45 tt_2 rfl rfl).trans cl_sum
    replace cl_fro : hx_col 100 h_262 qc 7 = F_fro := (hx_col_S hs hTo g_qc tt_45 tt_2 rfl rfl).trans cl_fro
    replace cl_fil : hx_col 100 h_262 qc 8 = F_fil := (hx_col_S hs hTo g_qc tt_45 tt_2 rfl rfl).trans cl_fil
    replace cl_hea : hx_col 100 h_262 qc 11 = F_mh := (hx_col_S hs hTo g_qc tt_45 tt_2 rfl rfl).trans cl_hea
    replace cl_jud : hx_col 100 h_262 qc 12 = F_jud := (hx_col_S hs hTo g_qc tt_45 tt_2 rfl rfl).trans cl_jud
    replace cl_ear : hx_col 40 h_262 qp 3 = F_ear := (hx_col_S hs hTo g_qp tt_44 tt_4 rfl rfl).trans cl_ear
    replace cl_hds : hx_col 40 h_262 qp 4 = F_hds := (hx_col_S hs hTo g_qp tt_44 tt_4 rfl rfl).trans cl_hds
    replace cl_ord : hx_col 100 h_262 qc 13 = F_ord := (hx_col_S hs hTo g_qc tt_45 tt_2 rfl rfl).trans cl_ord
    replace cl_wkl : hx_col 100 h_262 qc 14 = F_wkl := (hx_col_S hs hTo g_qc tt_45 tt_2 rfl rfl).trans cl_wkl
    replace cl_owd : hx_col 100 h_262 qc 15 = F_owd := (hx_col_S hs hTo g_qc tt_45 tt_2 rfl rfl).trans cl_owd
    replace cl_gds : hx_col 100 h_262 qc 17 = F_gds := (hx_col_S hs hTo g_qc tt_45 tt_2 rfl rfl).trans cl_gds
    replace cl_szd : hx_col 100 h_262 qc 16 = F_szd := (hx_col_S hs hTo g_qc tt_45 tt_2 rfl rfl).trans cl_szd
    replace cl_srv : hx_col 100 h_262 qc 18 = F_srv := (hx_col_S hs hTo g_qc tt_45 tt_2 rfl rfl).trans cl_srv
    replace nu_qp : hx_num 40 h_262 qp 0 (np.toInt) := hx_num_S hs hTo g_qp tt_44 tt_4 rfl rfl nu_qp
    replace nu_qc : hx_num 100 h_262 qc 0 (c0.toInt) := hx_num_S hs hTo g_qc tt_45 tt_2 rfl rfl nu_qc
    replace sb_list : hx_LQ 8 100 h_262 ql qc := hx_LQ_S hs g_ql g_qc rfl rfl sb_list
    replace hDF : hw_DF h_262 qc qp 2 F_aga c0.toInt := hw_DF_S hs hTo g_qc g_qp tt_45 tt_2 rfl rfl rfl hDF
    replace hRA9 : hv_RA h_262 qa qwo a0.toInt A9 := hv_RA_S hs hTo g_qa g_qwo tt_43 tt_0 rfl rfl rfl rfl rfl rfl ?o27 hRA9
    case o27 => omega
    replace hDP : hw_DF h_262 qc qp 1 F_by c0.toInt := hw_DF_S hs hTo g_qc g_qp tt_45 tt_2 rfl rfl rfl hDP
    replace hAC9 : hv_AC h_262 qc F_ml c0.toInt A9 := hv_AC_S hs hTo g_qc tt_45 tt_2 rfl tt_0 rfl rfl rfl rfl rfl rfl rfl hAC9
    replace hFX : hv_FX 8 4 h_262 qc cF9L c0.toInt := hv_FX_S hs hTo g_qc tt_45 tt_2 rfl rfl rfl rfl hFX
    replace hBX : hv_FX 3 5 h_262 qc F_be c0.toInt := hv_FX_S hs hTo g_qc tt_45 tt_2 rfl rfl rfl rfl hBX
    replace hHL : hv_HL h_262 qh qc F_ho m0.toInt c0.toInt := hv_HL_S hs g_qh g_qc rfl rfl hHL
    replace n_mw : h_262.2.1 mw = F_mw := (funext fun j => (hs.a g_mw rfl j).1).trans n_mw
    replace n_mr : h_262.2.1 mr = F_mr := (funext fun j => (hs.a g_mr rfl j).1).trans n_mr
    replace n_mp : h_262.2.1 mp = F_mp := (funext fun j => (hs.a g_mp rfl j).1).trans n_mp
    replace n_mn : h_262.2.1 mn = F_mn := (funext fun j => (hs.a g_mn rfl j).1).trans n_mn
    replace n_ml : h_262.2.1 ml = F_ml := (funext fun j => (hs.a g_ml rfl j).1).trans n_ml
    replace n_mh : h_262.2.1 mh = F_mh := (funext fun j => (hs.a g_mh rfl j).1).trans n_mh
    replace n_mt : h_262.2.1 mt = F_mt := (funext fun j => (hs.a g_mt rfl j).1).trans n_mt
    replace n_m_fou : h_262.2.1 m_fou = F_m_fou := (funext fun j => (hs.a g_m_fou rfl j).1).trans n_m_fou
    replace n_b_of : h_262.2.1 b_of = B_of := (funext fun j => (hs.a g_b_of rfl j).1).trans n_b_of
    replace n_m_of : h_262.2.1 m_of = F_of := (funext fun j => (hs.a g_m_of rfl j).1).trans n_m_of
    replace n_b_wf : h_262.2.1 b_wf = B_wf := (funext fun j => (hs.a g_b_wf rfl j).1).trans n_b_wf
    replace n_m_wf : h_262.2.1 m_wf = F_wf := (funext fun j => (hs.a g_m_wf rfl j).1).trans n_m_wf
    replace n_b_df : h_262.2.1 b_df = B_df := (funext fun j => (hs.a g_b_df rfl j).1).trans n_b_df
    replace n_m_df : h_262.2.1 m_df = F_df := (funext fun j => (hs.a g_m_df rfl j).1).trans n_m_df
    replace n_b_kf : h_262.2.1 b_kf = B_kf := (funext fun j => (hs.a g_b_kf rfl j).1).trans n_b_kf
    replace n_m_kf : h_262.2.1 m_kf = F_kf := (funext fun j => (hs.a g_m_kf rfl j).1).trans n_m_kf
    replace n_b_sf : h_262.2.1 b_sf = B_sf := (funext fun j => (hs.a g_b_sf rfl j).1).trans n_b_sf
    replace n_m_sf : h_262.2.1 m_sf = F_sf := (funext fun j => (hs.a g_m_sf rfl j).1).trans n_m_sf
    replace n_b_bf : h_262.2.1 b_bf = bfL := (funext fun j => (hs.a g_b_bf rfl j).1).trans n_b_bf
    replace n_lst : h_262.2.1 m_lst = F_lst := (funext fun j => (hs.a g_m_lst rfl j).1).trans n_lst
    replace n_tp : h_262.2.1 m_tp = F_tp := (funext fun j => (hs.a g_m_tp rfl j).1).trans n_tp
    replace n_qtp : h_262.2.1 qtp = F_tp := (funext fun j => (hs.a g_qtp rfl j).1).trans n_qtp
    replace n_dead : h_262.2.1 m_dead = F_dead := (funext fun j => (hs.a g_m_dead rfl j).1).trans n_dead
    replace n_isj : h_262.2.1 m_isj = F_isj := (funext fun j => (hs.a g_m_isj rfl j).1).trans n_isj
    replace n_dox : h_262.2.1 m_dox = F_dox := (funext fun j => (hs.a g_m_dox rfl j).1).trans n_dox
    replace n_doy : h_262.2.1 m_doy = F_doy := (funext fun j => (hs.a g_m_doy rfl j).1).trans n_doy
    replace n_qlt : h_262.2.1 qlt = F_qlt := (funext fun j => (hs.a g_qlt rfl j).1).trans n_qlt
    replace n_m_wkd : h_262.2.1 m_wkd = F_m_wkd := (funext fun j => (hs.a g_m_wkd rfl j).1).trans n_m_wkd
    replace n_aga : h_262.2.1 m_aga = F_aga := (funext fun j => (hs.a g_m_aga rfl j).1).trans n_aga
    replace n_ad : h_262.2.1 m_ad = F_ad := (funext fun j => (hs.a g_m_ad rfl j).1).trans n_ad
    replace n_by : h_262.2.1 m_by = F_by := (funext fun j => (hs.a g_m_by rfl j).1).trans n_by
    replace n_ho : h_262.2.1 m_ho = F_ho := (funext fun j => (hs.a g_m_ho rfl j).1).trans n_ho
    replace n_fc : h_262.2.1 m_fc = F_fc := (funext fun j => (hs.a g_m_fc rfl j).1).trans n_fc
    replace n_nt : h_262.2.1 m_nt = F_nt := (funext fun j => (hs.a g_m_nt rfl j).1).trans n_nt
    replace n_wt : h_262.2.1 m_wt = F_wt := (funext fun j => (hs.a g_m_wt rfl j).1).trans n_wt
    replace n_be : h_262.2.1 m_be = F_be := (funext fun j => (hs.a g_m_be rfl j).1).trans n_be
    replace n_bor : h_262.2.1 m_bor = F_bor := (funext fun j => (hs.a g_m_bor rfl j).1).trans n_bor
    replace n_kin : h_262.2.1 m_kin = F_kin := (funext fun j => (hs.a g_m_kin rfl j).1).trans n_kin
    replace n_sum : h_262.2.1 m_sum = F_sum := (funext fun j => (hs.a g_m_sum rfl j).1).trans n_sum
    replace n_fro : h_262.2.1 m_fro = F_fro := (funext fun j => (hs.a g_m_fro rfl j).1).trans n_fro
    replace n_fil : h_262.2.1 m_fil = F_fil := (funext fun j => (hs.a g_m_fil rfl j).1).trans n_fil
    replace n_jud : h_262.2.1 m_jud = F_jud := (funext fun j => (hs.a g_m_jud rfl j).1).trans n_jud
    replace n_ear : h_262.2.1 m_ear = F_ear := (funext fun j => (hs.a g_m_ear rfl j).1).trans n_ear
    replace n_hds : h_262.2.1 m_hds = F_hds := (funext fun j => (hs.a g_m_hds rfl j).1).trans n_hds
    replace n_ord : h_262.2.1 m_ord = F_ord := (funext fun j => (hs.a g_m_ord rfl j).1).trans n_ord
    replace n_wkl : h_262.2.1 m_wkl = F_wkl := (funext fun j => (hs.a g_m_wkl rfl j).1).trans n_wkl
    replace n_owd : h_262.2.1 m_owd = F_owd := (funext fun j => (hs.a g_m_owd rfl j).1).trans n_owd
    replace n_gds : h_262.2.1 m_gds = F_gds := (funext fun j => (hs.a g_m_gds rfl j).1).trans n_gds
    replace n_szd : h_262.2.1 m_szd = F_szd := (funext fun j => (hs.a g_m_szd rfl j).1).trans n_szd
    replace n_srv : h_262.2.1 m_srv = F_srv := (funext fun j => (hs.a g_m_srv rfl j).1).trans n_srv
    replace n_p0 : h_262.2.1 m_p0 = F_p0 := (funext fun j => (hs.a g_m_p0 rfl j).1).trans n_p0
    replace n_y_p0 : h_262.2.1 y_p0 = F_p0 := (funext fun j => (hs.a g_y_p0 rfl j).1).trans n_y_p0
    replace n_p1 : h_262.2.1 m_p1 = F_p1 := (funext fun j => (hs.a g_m_p1 rfl j).1).trans n_p1
    replace n_y_p1 : h_262.2.1 y_p1 = F_p1 := (funext fun j => (hs.a g_y_p1 rfl j).1).trans n_y_p1
    replace n_p2 : h_262.2.1 m_p2 = F_p2 := (funext fun j => (hs.a g_m_p2 rfl j).1).trans n_p2
    replace n_y_p2 : h_262.2.1 y_p2 = F_p2 := (funext fun j => (hs.a g_y_p2 rfl j).1).trans n_y_p2
    replace n_p3 : h_262.2.1 m_p3 = F_p3 := (funext fun j => (hs.a g_m_p3 rfl j).1).trans n_p3
    replace n_y_p3 : h_262.2.1 y_p3 = F_p3 := (funext fun j => (hs.a g_y_p3 rfl j).1).trans n_y_p3
    replace n_p4 : h_262.2.1 m_p4 = F_p4 := (funext fun j => (hs.a g_m_p4 rfl j).1).trans n_p4
    replace n_y_p4 : h_262.2.1 y_p4 = F_p4 := (funext fun j => (hs.a g_y_p4 rfl j).1).trans n_y_p4
    replace n_y_ls : h_262.2.1 y_ls = F_y_ls := (funext fun j => (hs.a g_y_ls rfl j).1).trans n_y_ls
    replace n_m_rl : h_262.2.1 m_rl = F_m_rl := (funext fun j => (hs.a g_m_rl rfl j).1).trans n_m_rl
    replace gx := gx.S hs
    replace gm := gm.S hs
    replace g_qa := g_qa.S hs
    replace g_qp := g_qp.S hs
    replace g_qc := g_qc.S hs
    replace g_qh := g_qh.S hs
    replace g_qw := g_qw.S hs
    replace g_ql := g_ql.S hs
    replace g_mw := g_mw.S hs
    replace g_mr := g_mr.S hs
    replace g_mp := g_mp.S hs
    replace g_mn := g_mn.S hs
    replace g_ml := g_ml.S hs
    replace g_mh := g_mh.S hs
    replace g_mt := g_mt.S hs
    replace g_m_fou := g_m_fou.S hs
    replace g_qo_ln := g_qo_ln.S hs
    replace g_qo_py := g_qo_py.S hs
    replace g_b_of := g_b_of.S hs
    replace g_m_of := g_m_of.S hs
    replace g_b_wf := g_b_wf.S hs
    replace g_m_wf := g_m_wf.S hs
    replace g_b_df := g_b_df.S hs
    replace g_m_df := g_m_df.S hs
    replace g_b_kf := g_b_kf.S hs
    replace g_m_kf := g_m_kf.S hs
    replace g_b_sf := g_b_sf.S hs
    replace g_m_sf := g_m_sf.S hs
    replace g_b_bf := g_b_bf.S hs
    replace g_m_lst := g_m_lst.S hs
    replace g_qtp := g_qtp.S hs
    replace g_m_tp := g_m_tp.S hs
    replace g_m_dead := g_m_dead.S hs
    replace g_m_isj := g_m_isj.S hs
    replace g_m_dox := g_m_dox.S hs
    replace g_m_doy := g_m_doy.S hs
    replace g_qlt := g_qlt.S hs
    replace g_qlf := g_qlf.S hs
    replace g_m_wkd := g_m_wkd.S hs
    replace g_m_aga := g_m_aga.S hs
    replace g_qwo := g_qwo.S hs
    replace g_m_ad := g_m_ad.S hs
    replace g_m_by := g_m_by.S hs
    replace g_m_ho := g_m_ho.S hs
    replace g_m_fc := g_m_fc.S hs
    replace g_m_nt := g_m_nt.S hs
    replace g_m_wt := g_m_wt.S hs
    replace g_m_be := g_m_be.S hs
    replace g_m_bor := g_m_bor.S hs
    replace g_m_kin := g_m_kin.S hs
    replace g_m_sum := g_m_sum.S hs
    replace g_m_fro := g_m_fro.S hs
    replace g_m_fil := g_m_fil.S hs
    replace g_m_jud := g_m_jud.S hs
    replace g_m_ear := g_m_ear.S hs
    replace g_m_hds := g_m_hds.S hs
    replace g_m_ord := g_m_ord.S hs
    replace g_m_wkl := g_m_wkl.S hs
    replace g_m_owd := g_m_owd.S hs
    replace g_m_gds := g_m_gds.S hs
    replace g_m_szd := g_m_szd.S hs
    replace g_m_srv := g_m_srv.S hs
    replace g_y_p0 := g_y_p0.S hs
    replace g_m_p0 := g_m_p0.S hs
    replace g_y_p1 := g_y_p1.S hs
    replace g_m_p1 := g_m_p1.S hs
    replace g_y_p2 := g_y_p2.S hs
    replace g_m_p2 := g_m_p2.S hs
    replace g_y_p3 := g_y_p3.S hs
    replace g_m_p3 := g_m_p3.S hs
    replace g_y_p4 := g_y_p4.S hs
    replace g_m_p4 := g_m_p4.S hs
    replace g_qrg9 := g_qrg9.S hs
    replace g_y_ls := g_y_ls.S hs
    replace g_m_rl := g_m_rl.S hs
    have fw_266 : hx_col 40 h_262 qp 8 = w_266 := fw_266
    refine lv_pop hx hb dL_law_520 rfl ?_
    refine lv_aload_n hx hb dL_law_521 rfl (lv_at hl 1 rfl) ?_
    refine lv_aload_n hx hb dL_law_522 rfl (lv_at hl 3 rfl) ?_
    refine lv_iload_n hx hb dL_law_523 rfl (lv_at hl 0 rfl) ?_
    refine lv_iconst (v := 1) hx hb dL_law_524 ?o28 ?_
    case o28 => decide
    refine lv_iadd hx hb dL_law_525 ?_
    refine lv_topi (fun x_267 ex_267 => ?_)
    have zx_267 : x_267.toInt = i.toInt + 1 := ?o29
    case o29 =>
      rw [ex_267]
      refine i32_add rfl ?o30 ?o31 ?o32
      case o30 => decide
      case o31 => omega
      case o32 => omega
    obtain rfl : x_256 = x_267 := ex_256.trans ex_267.symm
    refine va_sld hx hb hX hbl hbA hW.2.2.2.1 (vp_in_iff.mpr ⟨?o33, ?o34⟩) dL_law_526 ?_
    case o33 => omega
    case o34 => omega
    refine lv_topi (fun x_268 ex_268 => ?_)
    obtain rfl : x_257 = x_268 := ex_257.trans ex_268.symm
    refine lv_aload_n hx hb dL_law_527 rfl (lv_at hl 3 rfl) ?_
    refine lv_iload_n hx hb dL_law_528 rfl (lv_at hl 0 rfl) ?_
    refine lv_iconst (v := 2) hx hb dL_law_529 ?o35 ?_
    case o35 => decide
    refine lv_iadd hx hb dL_law_530 ?_
    refine lv_topi (fun x_269 ex_269 => ?_)
    have zx_269 : x_269.toInt = i.toInt + 2 := ?o36
    case o36 =>
      rw [ex_269]
      refine i32_add rfl ?o37 ?o38 ?o39
      case o37 => decide
      case o38 => omega
      case o39 => omega
    obtain rfl : x_258 = x_269 := ex_258.trans ex_269.symm
    refine va_sld hx hb hX hbl hbA hW.2.2.2.1 (vp_in_iff.mpr ⟨?o40, ?o41⟩) dL_law_531 ?_
    case o40 => omega
    case o41 => omega
    refine lv_topi (fun x_270 ex_270 => ?_)
    obtain rfl : x_259 = x_270 := ex_259.trans ex_270.symm
    have jn_540 : ∀ (xj_271 : Int32) (ls : Array Slot), 0 ≤ xj_271.toInt → xj_271.toInt ≤ 1 → (x_259.toInt = 0 ∧ xj_271.toInt = 0) ∨ (x_259.toInt ≠ 0 ∧ xj_271.toInt = 1) → lv_has ls 4 [(3, .int i), (2, .ref am), (1, .ref ax), (0, .ref b)] → W p l e room_1 s m #[Value.ref b] below meth c H locs (CC + 0) (SS + 0) (lw_Z below #[Value.ref b] s) (F0 m 540 ls [.int xj_271, .int x_257, .ref am]) := by
      intro xj_271 ls blxj_271 buxj_271 jcxj_271 hl
      obtain rfl : xj_260 = xj_271 := Int32.toInt_inj.mp (by omega)
      have hTo := hT
      refine hx_goi (hx_runV (As := [.int x_257, .int xj_260]) (rest := []) ⟨hx, hb, hml, hown, hts⟩ hW gm tt_10 (T := TX10) (N := 98) rfl (t_X10_judge_2 l dC dI dA L_261 h_262 H.size am x_257 xj_260 hT gm m_isj g_m_isj f_m_isj F_isj n_isj np f_m_persons ?o42) (cwV 2 hts (hx_gV kw_1560 kw_1557 kw_1558 kw_1559 kw_103) rfl rfl rfl (by decide +kernel) ⟨Nat.le_of_ble_eq_true rfl, Nat.le_of_ble_eq_true rfl⟩) rfl hl.1 rfl (Nat.le_of_ble_eq_true rfl) dL_law_540 ⟨(show CC + 0 + 0 ≤ 600000 from ?o43), (show SS + 0 + 0 ≤ 7302250 from ?o44)⟩) hW (fun r_274 L_272 h_273 H locs p_275 hW => ?_)
      case o42 => omega
      case o43 => omega
      case o44 => omega
      obtain ⟨⟨w_277, fw_277, hr_276⟩, hT, hs⟩ := p_275
      replace hT : hx_T T_tb L_272 h_273 := hT
      replace hs : hx_S T_tb [(65, 0)] L_261 h_262 L_272 h_273 := hs
      replace f_qa := (hs.o gx trivial rfl).2.trans f_qa
      replace f_qp := (hs.o gx trivial rfl).2.trans f_qp
      replace f_qc := (hs.o gx trivial rfl).2.trans f_qc
      replace f_qh := (hs.o gx trivial rfl).2.trans f_qh
      replace f_qw := (hs.o gx trivial rfl).2.trans f_qw
      replace f_ql := (hs.o g_qw trivial rfl).2.trans f_ql
      replace f_m_now := (hs.o gm trivial rfl).1.trans f_m_now
      replace f_m_persons := (hs.o gm trivial rfl).1.trans f_m_persons
      replace f_m_claims := (hs.o gm trivial rfl).1.trans f_m_claims
      replace f_m_taped := (hs.o gm trivial rfl).1.trans f_m_taped
      replace f_m_acts := (hs.o gm trivial rfl).1.trans f_m_acts
      replace f_m_heardMany := (hs.o gm trivial rfl).1.trans f_m_heardMany
      replace f_m_lines := (hs.o gm trivial rfl).1.trans f_m_lines
      replace f_m_listed := (hs.o gm trivial rfl).1.trans f_m_listed
      replace f_m_walkedMany := (hs.o gm trivial rfl).1.trans f_m_walkedMany
      replace f_m_payments := (hs.o gm trivial rfl).1.trans f_m_payments
      replace f_x_now := (hs.o gx trivial rfl).1.trans f_x_now
      replace f_x_personCount := (hs.o gx trivial rfl).1.trans f_x_personCount
      replace f_x_claimCount := (hs.o gx trivial rfl).1.trans f_x_claimCount
      replace f_x_tapeLength := (hs.o gx trivial rfl).1.trans f_x_tapeLength
      replace f_x_actCount := (hs.o gx trivial rfl).1.trans f_x_actCount
      replace f_x_heardCount := (hs.o gx trivial rfl).1.trans f_x_heardCount
      replace f_mw := (hs.o gm trivial rfl).2.trans f_mw
      replace f_mr := (hs.o gm trivial rfl).2.trans f_mr
      replace f_mp := (hs.o gm trivial rfl).2.trans f_mp
      replace f_mn := (hs.o gm trivial rfl).2.trans f_mn
      replace f_ml := (hs.o gm trivial rfl).2.trans f_ml
      replace f_mh := (hs.o gm trivial rfl).2.trans f_mh
      replace f_mt := (hs.o gm trivial rfl).2.trans f_mt
      replace f_m_fou := (hs.o gm trivial rfl).2.trans f_m_fou
      replace f_qo_ln := (hs.o gx trivial rfl).2.trans f_qo_ln
      replace f_o_ln := (hs.o g_qo_ln trivial rfl).1.trans f_o_ln
      replace f_o_lsd := (hs.o g_qw trivial rfl).1.trans f_o_lsd
      replace f_o_wkm := (hs.o g_qw trivial rfl).1.trans f_o_wkm
      replace f_qo_py := (hs.o gx trivial rfl).2.trans f_qo_py
      replace f_o_py := (hs.o g_qo_py trivial rfl).1.trans f_o_py
      replace f_b_of := (hs.o g_qo_ln trivial rfl).2.trans f_b_of
      replace f_m_of := (hs.o gm trivial rfl).2.trans f_m_of
      replace f_b_wf := (hs.o g_qo_ln trivial rfl).2.trans f_b_wf
      replace f_m_wf := (hs.o gm trivial rfl).2.trans f_m_wf
      replace f_b_df := (hs.o g_qo_ln trivial rfl).2.trans f_b_df
      replace f_m_df := (hs.o gm trivial rfl).2.trans f_m_df
      replace f_b_kf := (hs.o g_qo_ln trivial rfl).2.trans f_b_kf
      replace f_m_kf := (hs.o gm trivial rfl).2.trans f_m_kf
      replace f_b_sf := (hs.o g_qo_ln trivial rfl).2.trans f_b_sf
      replace f_m_sf := (hs.o gm trivial rfl).2.trans f_m_sf
      replace f_b_bf := (hs.o g_qo_ln trivial rfl).2.trans f_b_bf
      replace f_m_lst := (hs.o gm trivial rfl).2.trans f_m_lst
      replace f_qtp := (hs.o gx trivial rfl).2.trans f_qtp
      replace f_m_tp := (hs.o gm trivial rfl).2.trans f_m_tp
      replace f_m_dead := (hs.o gm trivial rfl).2.trans f_m_dead
      replace f_m_isj := (hs.o gm trivial rfl).2.trans f_m_isj
      replace f_m_dox := (hs.o gm trivial rfl).2.trans f_m_dox
      replace f_m_doy := (hs.o gm trivial rfl).2.trans f_m_doy
      replace f_qlt := (hs.o g_qw trivial rfl).2.trans f_qlt
      replace f_qlf := (hs.o g_qw trivial rfl).2.trans f_qlf
      replace f_m_wkd := (hs.o gm trivial rfl).2.trans f_m_wkd
      replace f_m_aga := (hs.o gm trivial rfl).2.trans f_m_aga
      replace f_qwo := (hs.o gx trivial rfl).2.trans f_qwo
      replace f_m_ad := (hs.o gm trivial rfl).2.trans f_m_ad
      replace f_m_by := (hs.o gm trivial rfl).2.trans f_m_by
      replace f_m_ho := (hs.o gm trivial rfl).2.trans f_m_ho
      replace f_m_fc := (hs.o gm trivial rfl).2.trans f_m_fc
      replace f_m_nt := (hs.o gm trivial rfl).2.trans f_m_nt
      replace f_m_wt := (hs.o gm trivial rfl).2.trans f_m_wt
      replace f_m_be := (hs.o gm trivial rfl).2.trans f_m_be
      replace f_m_bor := (hs.o gm trivial rfl).2.trans f_m_bor
      replace f_m_kin := (hs.o gm trivial rfl).2.trans f_m_kin
      replace f_m_sum := (hs.o gm trivial rfl).2.trans f_m_sum
      replace f_m_fro := (hs.o gm trivial rfl).2.trans f_m_fro
      replace f_m_fil := (hs.o gm trivial rfl).2.trans f_m_fil
      replace f_m_jud := (hs.o gm trivial rfl).2.trans f_m_jud
      replace f_m_ear := (hs.o gm trivial rfl).2.trans f_m_ear
      replace f_m_hds := (hs.o gm trivial rfl).2.trans f_m_hds
      replace f_m_ord := (hs.o gm trivial rfl).2.trans f_m_ord
      replace f_m_wkl := (hs.o gm trivial rfl).2.trans f_m_wkl
      replace f_m_owd := (hs.o gm trivial rfl).2.trans f_m_owd
      replace f_m_gds := (hs.o gm trivial rfl).2.trans f_m_gds
      replace f_m_szd := (hs.o gm trivial rfl).2.trans f_m_szd
      replace f_m_srv := (hs.o gm trivial rfl).2.trans f_m_srv
      replace f_y_p0 := (hs.o g_qo_py trivial rfl).2.trans f_y_p0
      replace f_m_p0 := (hs.o gm trivial rfl).2.trans f_m_p0
      replace f_y_p1 := (hs.o g_qo_py trivial rfl).2.trans f_y_p1
      replace f_m_p1 := (hs.o gm trivial rfl).2.trans f_m_p1
      replace f_y_p2 := (hs.o g_qo_py trivial rfl).2.trans f_y_p2
      replace f_m_p2 := (hs.o gm trivial rfl).2.trans f_m_p2
      replace f_y_p3 := (hs.o g_qo_py trivial rfl).2.trans f_y_p3
      replace f_m_p3 := (hs.o gm trivial rfl).2.trans f_m_p3
      replace f_y_p4 := (hs.o g_qo_py trivial rfl).2.trans f_y_p4
      replace f_m_p4 := (hs.o gm trivial rfl).2.trans f_m_p4
      replace f_qrg9 := (hs.o gx trivial rfl).2.trans f_qrg9
      replace f_y_ls := (hs.o g_qrg9 trivial rfl).2.trans f_y_ls
      replace f_m_rl := (hs.o gm trivial rfl).2.trans f_m_rl
      replace ffv_252 := (hs.o g_qrg9 trivial rfl).1.trans ffv_252
      replace ffv_253 := (hs.o gm trivial rfl).1.trans ffv_253
      replace ffv_254 := (hs.o gm trivial rfl).1.trans ffv_254
      replace pf_qa : ∀ j : Nat, (j : Int) < (h_273.2.1 ax 6).toInt → h_273.2.2 qa j ≠ none := by
        intro j hj; rw [(hs.o gx trivial rfl).1] at hj; rw [(hs.a g_qa rfl j).2]; exact pf_qa j hj
      replace pf_qp : ∀ j : Nat, (j : Int) < (h_273.2.1 ax 8).toInt → h_273.2.2 qp j ≠ none := by
        intro j hj; rw [(hs.o gx trivial rfl).1] at hj; rw [(hs.a g_qp rfl j).2]; exact pf_qp j hj
      replace pf_qc : ∀ j : Nat, (j : Int) < (h_273.2.1 ax 11).toInt → h_273.2.2 qc j ≠ none := by
        intro j hj; rw [(hs.o gx trivial rfl).1] at hj; rw [(hs.a g_qc rfl j).2]; exact pf_qc j hj
      replace pf_qh : ∀ j : Nat, (j : Int) < (h_273.2.1 ax 13).toInt → h_273.2.2 qh j ≠ none := by
        intro j hj; rw [(hs.o gx trivial rfl).1] at hj; rw [(hs.a g_qh rfl j).2]; exact pf_qh j hj
      replace pf_ql : ∀ j : Nat, (j : Int) < (h_273.2.1 qw 0).toInt → h_273.2.2 ql j ≠ none := by
        intro j hj; rw [(hs.o g_qw trivial rfl).1] at hj; rw [(hs.a g_ql rfl j).2]; exact pf_ql j hj
      replace cl_lst : hx_col 8 h_273 ql 0 = c_lst := (hx_col_S hs hTo g_ql tt_40 tt_2 rfl rfl).trans cl_lst
      replace cl_dead : hx_col 40 h_273 qp 7 = c_dead := (hx_col_S hs hTo g_qp tt_44 tt_4 rfl rfl).trans cl_dead
      replace cl_dox : hx_col 40 h_273 qp 5 = c_dox := (hx_col_S hs hTo g_qp tt_44 tt_4 rfl rfl).trans cl_dox
      replace cl_doy : hx_col 40 h_273 qp 6 = c_doy := (hx_col_S hs hTo g_qp tt_44 tt_4 rfl rfl).trans cl_doy
      replace cl_fou : hx_col 100 h_273 qc 10 = c_fou := (hx_col_S hs hTo g_qc tt_45 tt_2 rfl rfl).trans cl_fou
      replace cl_tri : hx_col 100 h_273 qc 9 = c_tri := (hx_col_S hs hTo g_qc tt_45 tt_2 rfl rfl).trans cl_tri
      replace cl_bor : hx_col 40 h_273 qp 1 = F_bor := (hx_col_S hs hTo g_qp tt_44 tt_4 rfl rfl).trans cl_bor
      replace cl_kin : hx_col 40 h_273 qp 2 = F_kin := (hx_col_S hs hTo g_qp tt_44 tt_4 rfl rfl).trans cl_kin
      replace cl_sum : hx_col 100 h_273 qc 6 = F_sum := (hx_col_S hs hTo g_qc tt_45 tt_2 rfl rfl).trans cl_sum
      replace cl_fro : hx_col 100 h_273 qc 7 = F_fro := (hx_col_S hs hTo g_qc tt_45 tt_2 rfl rfl).trans cl_fro
      replace cl_fil : hx_col 100 h_273 qc 8 = F_fil := (hx_col_S hs hTo g_qc tt_45 tt_2 rfl rfl).trans cl_fil
      replace cl_hea : hx_col 100 h_273 qc 11 = F_mh := (hx_col_S hs hTo g_qc tt_45 tt_2 rfl rfl).trans cl_hea
      replace cl_jud : hx_col 100 h_273 qc 12 = F_jud := (hx_col_S hs hTo g_qc tt_45 tt_2 rfl rfl).trans cl_jud
      replace cl_ear : hx_col 40 h_273 qp 3 = F_ear := (hx_col_S hs hTo g_qp tt_44 tt_4 rfl rfl).trans cl_ear
      replace cl_hds : hx_col 40 h_273 qp 4 = F_hds := (hx_col_S hs hTo g_qp tt_44 tt_4 rfl rfl).trans cl_hds
      replace cl_ord : hx_col 100 h_273 qc 13 = F_ord := (hx_col_S hs hTo g_qc tt_45 tt_2 rfl rfl).trans cl_ord
      replace cl_wkl : hx_col 100 h_273 qc 14 = F_wkl := (hx_col_S hs hTo g_qc tt_45 tt_2 rfl rfl).trans cl_wkl
      replace cl_owd : hx_col 100 h_273 qc 15 = F_owd := (hx_col_S hs hTo g_qc tt_45 tt_2 rfl rfl).trans cl_owd
      replace cl_gds : hx_col 100 h_273 qc 17 = F_gds := (hx_col_S hs hTo g_qc tt_45 tt_2 rfl rfl).trans cl_gds
      replace cl_szd : hx_col 100 h_273 qc 16 = F_szd := (hx_col_S hs hTo g_qc tt_45 tt_2 rfl rfl).trans cl_szd
      replace cl_srv : hx_col 100 h_273 qc 18 = F_srv := (hx_col_S hs hTo g_qc tt_45 tt_2 rfl rfl).trans cl_srv
      replace fw_266 : hx_col 40 h_273 qp 8 = w_266 := (hx_col_S hs hTo g_qp tt_44 tt_4 rfl rfl).trans fw_266
      replace nu_qp : hx_num 40 h_273 qp 0 (np.toInt) := hx_num_S hs hTo g_qp tt_44 tt_4 rfl rfl nu_qp
      replace nu_qc : hx_num 100 h_273 qc 0 (c0.toInt) := hx_num_S hs hTo g_qc tt_45 tt_2 rfl rfl nu_qc
      replace sb_list : hx_LQ 8 100 h_273 ql qc := hx_LQ_S hs g_ql g_qc rfl rfl sb_list
      replace hDF : hw_DF h_273 qc qp 2 F_aga c0.toInt := hw_DF_S hs hTo g_qc g_qp tt_45 tt_2 rfl rfl rfl hDF
      replace hRA9 : hv_RA h_273 qa qwo a0.toInt A9 := hv_RA_S hs hTo g_qa g_qwo tt_43 tt_0 rfl rfl rfl rfl rfl rfl ?o45 hRA9
      case o45 => omega
      replace hDP : hw_DF h_273 qc qp 1 F_by c0.toInt := hw_DF_S hs hTo g_qc g_qp tt_45 tt_2 rfl rfl rfl hDP
      replace hAC9 : hv_AC h_273 qc F_ml c0.toInt A9 := hv_AC_S hs hTo g_qc tt_45 tt_2 rfl tt_0 rfl rfl rfl rfl rfl rfl rfl hAC9
      replace hFX : hv_FX 8 4 h_273 qc cF9L c0.toInt := hv_FX_S hs hTo g_qc tt_45 tt_2 rfl rfl rfl rfl hFX
      replace hBX : hv_FX 3 5 h_273 qc F_be c0.toInt := hv_FX_S hs hTo g_qc tt_45 tt_2 rfl rfl rfl rfl hBX
      replace hHL : hv_HL h_273 qh qc F_ho m0.toInt c0.toInt := hv_HL_S hs g_qh g_qc rfl rfl hHL
      replace n_mw : h_273.2.1 mw = F_mw := (funext fun j => (hs.a g_mw rfl j).1).trans n_mw
      replace n_mr : h_273.2.1 mr = F_mr := (funext fun j => (hs.a g_mr rfl j).1).trans n_mr
      replace n_mp : h_273.2.1 mp = F_mp := (funext fun j => (hs.a g_mp rfl j).1).trans n_mp
      replace n_mn : h_273.2.1 mn = F_mn := (funext fun j => (hs.a g_mn rfl j).1).trans n_mn
      replace n_ml : h_273.2.1 ml = F_ml := (funext fun j => (hs.a g_ml rfl j).1).trans n_ml
      replace n_mh : h_273.2.1 mh = F_mh := (funext fun j => (hs.a g_mh rfl j).1).trans n_mh
      replace n_mt : h_273.2.1 mt = F_mt := (funext fun j => (hs.a g_mt rfl j).1).trans n_mt
      replace n_m_fou : h_273.2.1 m_fou = F_m_fou := (funext fun j => (hs.a g_m_fou rfl j).1).trans n_m_fou
      replace n_b_of : h_273.2.1 b_of = B_of := (funext fun j => (hs.a g_b_of rfl j).1).trans n_b_of
      replace n_m_of : h_273.2.1 m_of = F_of := (funext fun j => (hs.a g_m_of rfl j).1).trans n_m_of
      replace n_b_wf : h_273.2.1 b_wf = B_wf := (funext fun j => (hs.a g_b_wf rfl j).1).trans n_b_wf
      replace n_m_wf : h_273.2.1 m_wf = F_wf := (funext fun j => (hs.a g_m_wf rfl j).1).trans n_m_wf
      replace n_b_df : h_273.2.1 b_df = B_df := (funext fun j => (hs.a g_b_df rfl j).1).trans n_b_df
      replace n_m_df : h_273.2.1 m_df = F_df := (funext fun j => (hs.a g_m_df rfl j).1).trans n_m_df
      replace n_b_kf : h_273.2.1 b_kf = B_kf := (funext fun j => (hs.a g_b_kf rfl j).1).trans n_b_kf
      replace n_m_kf : h_273.2.1 m_kf = F_kf := (funext fun j => (hs.a g_m_kf rfl j).1).trans n_m_kf
      replace n_b_sf : h_273.2.1 b_sf = B_sf := (funext fun j => (hs.a g_b_sf rfl j).1).trans n_b_sf
      replace n_m_sf : h_273.2.1 m_sf = F_sf := (funext fun j => (hs.a g_m_sf rfl j).1).trans n_m_sf
      replace n_b_bf : h_273.2.1 b_bf = bfL := (funext fun j => (hs.a g_b_bf rfl j).1).trans n_b_bf
      replace n_lst : h_273.2.1 m_lst = F_lst := (funext fun j => (hs.a g_m_lst rfl j).1).trans n_lst
      replace n_tp : h_273.2.1 m_tp = F_tp := (funext fun j => (hs.a g_m_tp rfl j).1).trans n_tp
      replace n_qtp : h_273.2.1 qtp = F_tp := (funext fun j => (hs.a g_qtp rfl j).1).trans n_qtp
      replace n_dead : h_273.2.1 m_dead = F_dead := (funext fun j => (hs.a g_m_dead rfl j).1).trans n_dead
      replace n_dox : h_273.2.1 m_dox = F_dox := (funext fun j => (hs.a g_m_dox rfl j).1).trans n_dox
      replace n_doy : h_273.2.1 m_doy = F_doy := (funext fun j => (hs.a g_m_doy rfl j).1).trans n_doy
      replace n_qlt : h_273.2.1 qlt = F_qlt := (funext fun j => (hs.a g_qlt rfl j).1).trans n_qlt
      replace n_m_wkd : h_273.2.1 m_wkd = F_m_wkd := (funext fun j => (hs.a g_m_wkd rfl j).1).trans n_m_wkd
      replace n_aga : h_273.2.1 m_aga = F_aga := (funext fun j => (hs.a g_m_aga rfl j).1).trans n_aga
      replace n_ad : h_273.2.1 m_ad = F_ad := (funext fun j => (hs.a g_m_ad rfl j).1).trans n_ad
      replace n_by : h_273.2.1 m_by = F_by := (funext fun j => (hs.a g_m_by rfl j).1).trans n_by
      replace n_ho : h_273.2.1 m_ho = F_ho := (funext fun j => (hs.a g_m_ho rfl j).1).trans n_ho
      replace n_fc : h_273.2.1 m_fc = F_fc := (funext fun j => (hs.a g_m_fc rfl j).1).trans n_fc
      replace n_nt : h_273.2.1 m_nt = F_nt := (funext fun j => (hs.a g_m_nt rfl j).1).trans n_nt
      replace n_wt : h_273.2.1 m_wt = F_wt := (funext fun j => (hs.a g_m_wt rfl j).1).trans n_wt
      replace n_be : h_273.2.1 m_be = F_be := (funext fun j => (hs.a g_m_be rfl j).1).trans n_be
      replace n_bor : h_273.2.1 m_bor = F_bor := (funext fun j => (hs.a g_m_bor rfl j).1).trans n_bor
      replace n_kin : h_273.2.1 m_kin = F_kin := (funext fun j => (hs.a g_m_kin rfl j).1).trans n_kin
      replace n_sum : h_273.2.1 m_sum = F_sum := (funext fun j => (hs.a g_m_sum rfl j).1).trans n_sum
      replace n_fro : h_273.2.1 m_fro = F_fro := (funext fun j => (hs.a g_m_fro rfl j).1).trans n_fro
      replace n_fil : h_273.2.1 m_fil = F_fil := (funext fun j => (hs.a g_m_fil rfl j).1).trans n_fil
      replace n_jud : h_273.2.1 m_jud = F_jud := (funext fun j => (hs.a g_m_jud rfl j).1).trans n_jud
      replace n_ear : h_273.2.1 m_ear = F_ear := (funext fun j => (hs.a g_m_ear rfl j).1).trans n_ear
      replace n_hds : h_273.2.1 m_hds = F_hds := (funext fun j => (hs.a g_m_hds rfl j).1).trans n_hds
      replace n_ord : h_273.2.1 m_ord = F_ord := (funext fun j => (hs.a g_m_ord rfl j).1).trans n_ord
      replace n_wkl : h_273.2.1 m_wkl = F_wkl := (funext fun j => (hs.a g_m_wkl rfl j).1).trans n_wkl
      replace n_owd : h_273.2.1 m_owd = F_owd := (funext fun j => (hs.a g_m_owd rfl j).1).trans n_owd
      replace n_gds : h_273.2.1 m_gds = F_gds := (funext fun j => (hs.a g_m_gds rfl j).1).trans n_gds
      replace n_szd : h_273.2.1 m_szd = F_szd := (funext fun j => (hs.a g_m_szd rfl j).1).trans n_szd
      replace n_srv : h_273.2.1 m_srv = F_srv := (funext fun j => (hs.a g_m_srv rfl j).1).trans n_srv
      replace n_p0 : h_273.2.1 m_p0 = F_p0 := (funext fun j => (hs.a g_m_p0 rfl j).1).trans n_p0
      replace n_y_p0 : h_273.2.1 y_p0 = F_p0 := (funext fun j => (hs.a g_y_p0 rfl j).1).trans n_y_p0
      replace n_p1 : h_273.2.1 m_p1 = F_p1 := (funext fun j => (hs.a g_m_p1 rfl j).1).trans n_p1
      replace n_y_p1 : h_273.2.1 y_p1 = F_p1 := (funext fun j => (hs.a g_y_p1 rfl j).1).trans n_y_p1
      replace n_p2 : h_273.2.1 m_p2 = F_p2 := (funext fun j => (hs.a g_m_p2 rfl j).1).trans n_p2
      replace n_y_p2 : h_273.2.1 y_p2 = F_p2 := (funext fun j => (hs.a g_y_p2 rfl j).1).trans n_y_p2
      replace n_p3 : h_273.2.1 m_p3 = F_p3 := (funext fun j => (hs.a g_m_p3 rfl j).1).trans n_p3
      replace n_y_p3 : h_273.2.1 y_p3 = F_p3 := (funext fun j => (hs.a g_y_p3 rfl j).1).trans n_y_p3
      replace n_p4 : h_273.2.1 m_p4 = F_p4 := (funext fun j => (hs.a g_m_p4 rfl j).1).trans n_p4
      replace n_y_p4 : h_273.2.1 y_p4 = F_p4 := (funext fun j => (hs.a g_y_p4 rfl j).1).trans n_y_p4
      replace n_y_ls : h_273.2.1 y_ls = F_y_ls := (funext fun j => (hs.a g_y_ls rfl j).1).trans n_y_ls
      replace n_m_rl : h_273.2.1 m_rl = F_m_rl := (funext fun j => (hs.a g_m_rl rfl j).1).trans n_m_rl
      replace gx := gx.S hs
      replace gm := gm.S hs
      replace g_qa := g_qa.S hs
      replace g_qp := g_qp.S hs
      replace g_qc := g_qc.S hs
      replace g_qh := g_qh.S hs
      replace g_qw := g_qw.S hs
      replace g_ql := g_ql.S hs
      replace g_mw := g_mw.S hs
      replace g_mr := g_mr.S hs
      replace g_mp := g_mp.S hs
      replace g_mn := g_mn.S hs
      replace g_ml := g_ml.S hs
      replace g_mh := g_mh.S hs
      replace g_mt := g_mt.S hs
      replace g_m_fou := g_m_fou.S hs
      replace g_qo_ln := g_qo_ln.S hs
      replace g_qo_py := g_qo_py.S hs
      replace g_b_of := g_b_of.S hs
      replace g_m_of := g_m_of.S hs
      replace g_b_wf := g_b_wf.S hs
      replace g_m_wf := g_m_wf.S hs
      replace g_b_df := g_b_df.S hs
      replace g_m_df := g_m_df.S hs
      replace g_b_kf := g_b_kf.S hs
      replace g_m_kf := g_m_kf.S hs
      replace g_b_sf := g_b_sf.S hs
      replace g_m_sf := g_m_sf.S hs
      replace g_b_bf := g_b_bf.S hs
      replace g_m_lst := g_m_lst.S hs
      replace g_qtp := g_qtp.S hs
      replace g_m_tp := g_m_tp.S hs
      replace g_m_dead := g_m_dead.S hs
      replace g_m_isj := g_m_isj.S hs
      replace g_m_dox := g_m_dox.S hs
      replace g_m_doy := g_m_doy.S hs
      replace g_qlt := g_qlt.S hs
      replace g_qlf := g_qlf.S hs
      replace g_m_wkd := g_m_wkd.S hs
      replace g_m_aga := g_m_aga.S hs
      replace g_qwo := g_qwo.S hs
      replace g_m_ad := g_m_ad.S hs
      replace g_m_by := g_m_by.S hs
      replace g_m_ho := g_m_ho.S hs
      replace g_m_fc := g_m_fc.S hs
      replace g_m_nt := g_m_nt.S hs
      replace g_m_wt := g_m_wt.S hs
      replace g_m_be := g_m_be.S hs
      replace g_m_bor := g_m_bor.S hs
      replace g_m_kin := g_m_kin.S hs
      replace g_m_sum := g_m_sum.S hs
      replace g_m_fro := g_m_fro.S hs
      replace g_m_fil := g_m_fil.S hs
      replace g_m_jud := g_m_jud.S hs
      replace g_m_ear := g_m_ear.S hs
      replace g_m_hds := g_m_hds.S hs
      replace g_m_ord := g_m_ord.S hs
      replace g_m_wkl := g_m_wkl.S hs
      replace g_m_owd := g_m_owd.S hs
      replace g_m_gds := g_m_gds.S hs
      replace g_m_szd := g_m_szd.S hs
      replace g_m_srv := g_m_srv.S hs
      replace g_y_p0 := g_y_p0.S hs
      replace g_m_p0 := g_m_p0.S hs
      replace g_y_p1 := g_y_p1.S hs
      replace g_m_p1 := g_m_p1.S hs
      replace g_y_p2 := g_y_p2.S hs
      replace g_m_p2 := g_m_p2.S hs
      replace g_y_p3 := g_y_p3.S hs
      replace g_m_p3 := g_m_p3.S hs
      replace g_y_p4 := g_y_p4.S hs
      replace g_m_p4 := g_m_p4.S hs
      replace g_qrg9 := g_qrg9.S hs
      replace g_y_ls := g_y_ls.S hs
      replace g_m_rl := g_m_rl.S hs
      have fw_277 : h_273.2.1 m_isj = w_277 := fw_277
      refine lv_pop hx hb dL_law_543 rfl ?_
      refine lv_goto (tgt := 1379) hx hb dL_law_544 ?o46 ?_
      case o46 => decide
      obtain ⟨heq, hq_isj⟩ := hx_jk (by omega) eq_isj hr_265 hr_276
      refine W.widen (k := CC + 3) (n := SS + 179) ?o47 ?o48 ?_
      case o47 => omega
      case o48 => omega
      refine kk L_272 h_273 H locs ls hW ⟨hT, gx, gm, ⟨f_x_now.trans f_m_now.symm, f_x_personCount.trans f_m_persons.symm, f_x_claimCount.trans f_m_claims.symm, f_x_tapeLength.trans f_m_taped.symm, f_x_actCount.trans f_m_acts.symm, f_x_heardCount.trans f_m_heardMany.symm, hx_ob f_qo_ln (f_o_ln.trans f_m_lines.symm), hx_ob f_qw (f_o_lsd.trans f_m_listed.symm), hx_ob f_qw (f_o_wkm.trans f_m_walkedMany.symm), hx_ob f_qo_py (f_o_py.trans f_m_payments.symm), hx_ob f_qp ?o49, hx_ob f_qc ?o50, (fun b a r hb ha hr => ?o51), (fun b a r hb ha hr => ?o52), (fun b a r hb ha hr => ?o53), (fun b a r hb ha hr => ?o54), (fun b a r hb ha hr => ?o55), (fun b a r hb ha hr => ?o56), (fun w q c hw hq hc => ?o57), (fun w q r hw hq hr => ?o58), (fun w q r hw hq hr => ?o59), (fun c q a hc hq ha => ?o60), (fun q r hq hr => ?o61), (fun q w a b c d e p hq hw ha hb hc hd he hp => ?o62), (fun c q a hc hq ha => ?o63), (fun q c a hq hc ha => ?o64), (fun a b ha hb => ?o65), (fun c a b d e f hc ha hb hd he hf => ?o66), (fun c a hc ha => ?o67), hx_ob2 f_qp f_m_bor (cl_bor.trans n_bor.symm), hx_ob2 f_qp f_m_kin (cl_kin.trans n_kin.symm), hx_ob2 f_qc f_m_sum (cl_sum.trans n_sum.symm), hx_ob2 f_qc f_m_fro (cl_fro.trans n_fro.symm), hx_ob2 f_qc f_m_fil (cl_fil.trans n_fil.symm), hx_ob2 f_qc f_mh (cl_hea.trans n_mh.symm), hx_ob2 f_qc f_m_jud (cl_jud.trans n_jud.symm), hx_ob2 f_qp f_m_ear (cl_ear.trans n_ear.symm), hx_ob2 f_qp f_m_hds (cl_hds.trans n_hds.symm), hx_ob2 f_qc f_m_ord (cl_ord.trans n_ord.symm), hx_ob2 f_qc f_m_wkl (cl_wkl.trans n_wkl.symm), hx_ob2 f_qc f_m_owd (cl_owd.trans n_owd.symm), hx_ob2 f_qc f_m_gds (cl_gds.trans n_gds.symm), hx_ob2 f_qc f_m_szd (cl_szd.trans n_szd.symm), hx_ob2 f_qc f_m_srv (cl_srv.trans n_srv.symm), (fun p q r hp hq hr => ?o68), (fun p q r hp hq hr => ?o69), (fun p q r hp hq hr => ?o70), (fun p q r hp hq hr => ?o71), (fun p q r hp hq hr => ?o72), (fun p hp => ?o73), (fun p q r hp hq hr => ?o74), hx_ob2 f_qp f_m_dead ?o75, hx_ob2 f_qp f_m_isj ?o76, hx_ob2 f_qp f_m_dox ?o77, hx_ob2 f_qp f_m_doy ?o78, hx_ob2 f_qc f_m_fou ?o79, hx_ob2 f_qc f_mt ?o80, trivial⟩, ⟨hx_ob f_qa pf_qa, hx_ob f_qp pf_qp, hx_ob f_qc pf_qc, hx_ob f_qh pf_qh, (fun w q hw hq => ?o81)⟩, ⟨hx_ob f_mw ?o82, hx_ob f_mr ?o83, hx_ob2 f_mp f_mn ?o84, hx_ob f_ml ?o85, hx_ob f_mh ?o86, hx_ob f_mt ?o87, hx_ob2 f_mh f_m_fou ?o89⟩⟩ hl
      case o49 =>
        rw [f_x_personCount]
        exact nu_qp
      case o50 =>
        rw [f_x_claimCount]
        exact nu_qc
      case o51 =>
        obtain rfl : qo_ln = b := Option.some.inj (f_qo_ln.symm.trans hb)
        obtain rfl : b_of = a := Option.some.inj (f_b_of.symm.trans ha)
        obtain rfl : m_of = r := Option.some.inj (f_m_of.symm.trans hr)
        rw [n_b_of, n_m_of, f_o_ln]
        exact eb_of
      case o52 =>
        obtain rfl : qo_ln = b := Option.some.inj (f_qo_ln.symm.trans hb)
        obtain rfl : b_wf = a := Option.some.inj (f_b_wf.symm.trans ha)
        obtain rfl : m_wf = r := Option.some.inj (f_m_wf.symm.trans hr)
        rw [n_b_wf, n_m_wf, f_o_ln]
        exact eb_wf
      case o53 =>
        obtain rfl : qo_ln = b := Option.some.inj (f_qo_ln.symm.trans hb)
        obtain rfl : b_df = a := Option.some.inj (f_b_df.symm.trans ha)
        obtain rfl : m_df = r := Option.some.inj (f_m_df.symm.trans hr)
        rw [n_b_df, n_m_df, f_o_ln]
        exact eb_df
      case o54 =>
        obtain rfl : qo_ln = b := Option.some.inj (f_qo_ln.symm.trans hb)
        obtain rfl : b_kf = a := Option.some.inj (f_b_kf.symm.trans ha)
        obtain rfl : m_kf = r := Option.some.inj (f_m_kf.symm.trans hr)
        rw [n_b_kf, n_m_kf, f_o_ln]
        exact eb_kf
      case o55 =>
        obtain rfl : qo_ln = b := Option.some.inj (f_qo_ln.symm.trans hb)
        obtain rfl : b_sf = a := Option.some.inj (f_b_sf.symm.trans ha)
        obtain rfl : m_sf = r := Option.some.inj (f_m_sf.symm.trans hr)
        rw [n_b_sf, n_m_sf, f_o_ln]
        exact eb_sf
      case o56 =>
        obtain rfl : qo_ln = b := Option.some.inj (f_qo_ln.symm.trans hb)
        obtain rfl : b_df = a := Option.some.inj (f_b_df.symm.trans ha)
        obtain rfl : b_bf = r := Option.some.inj (f_b_bf.symm.trans hr)
        rw [n_b_df, n_b_bf, f_o_ln]
        exact ⟨hBD, hDY⟩
      case o57 =>
        obtain rfl : qw = w := Option.some.inj (f_qw.symm.trans hw)
        obtain rfl : ql = q := Option.some.inj (f_ql.symm.trans hq)
        obtain rfl : qc = c := Option.some.inj (f_qc.symm.trans hc)
        exact sb_list
      case o58 =>
        obtain rfl : qw = w := Option.some.inj (f_qw.symm.trans hw)
        obtain rfl : ql = q := Option.some.inj (f_ql.symm.trans hq)
        obtain rfl : m_lst = r := Option.some.inj (f_m_lst.symm.trans hr)
        rw [cl_lst, n_lst]
        exact eq_lst
      case o59 =>
        obtain rfl : qw = w := Option.some.inj (f_qw.symm.trans hw)
        obtain rfl : qlt = q := Option.some.inj (f_qlt.symm.trans hq)
        obtain rfl : m_wkd = r := Option.some.inj (f_m_wkd.symm.trans hr)
        rw [n_qlt, n_m_wkd, f_o_wkm]
        exact eb_wkd
      case o60 =>
        obtain rfl : qc = c := Option.some.inj (f_qc.symm.trans hc)
        obtain rfl : qp = q := Option.some.inj (f_qp.symm.trans hq)
        obtain rfl : m_aga = a := Option.some.inj (f_m_aga.symm.trans ha)
        rw [n_aga, f_x_claimCount]
        exact hw_DF_e hDF rfl rfl
      case o61 =>
        obtain rfl : qtp = q := Option.some.inj (f_qtp.symm.trans hq)
        obtain rfl : m_tp = r := Option.some.inj (f_m_tp.symm.trans hr)
        exact n_qtp.trans n_tp.symm
      case o62 =>
        obtain rfl : qa = q := Option.some.inj (f_qa.symm.trans hq)
        obtain rfl : qwo = w := Option.some.inj (f_qwo.symm.trans hw)
        obtain rfl : m_ad = a := Option.some.inj (f_m_ad.symm.trans ha)
        obtain rfl : mr = b := Option.some.inj (f_mr.symm.trans hb)
        obtain rfl : mn = c := Option.some.inj (f_mn.symm.trans hc)
        obtain rfl : mp = d := Option.some.inj (f_mp.symm.trans hd)
        obtain rfl : qc = e := Option.some.inj (f_qc.symm.trans he)
        obtain rfl : ml = p := Option.some.inj (f_ml.symm.trans hp)
        exact ⟨_, by rw [f_x_actCount]; exact hRA9, by rw [f_x_actCount, n_ad, n_mr, n_mn, n_mp]; exact hCA9, by rw [n_ml, f_x_claimCount]; exact hv_AC_e hAC9 rfl rfl rfl, hAB⟩
      case o63 =>
        obtain rfl : qc = c := Option.some.inj (f_qc.symm.trans hc)
        obtain rfl : qp = q := Option.some.inj (f_qp.symm.trans hq)
        obtain rfl : m_by = a := Option.some.inj (f_m_by.symm.trans ha)
        rw [n_by, f_x_claimCount]
        exact hw_DF_e hDP rfl rfl
      case o64 =>
        obtain rfl : qh = q := Option.some.inj (f_qh.symm.trans hq)
        obtain rfl : qc = c := Option.some.inj (f_qc.symm.trans hc)
        obtain rfl : m_ho = a := Option.some.inj (f_m_ho.symm.trans ha)
        rw [n_ho, f_x_heardCount, f_x_claimCount]
        exact hv_HL_e hHL rfl rfl rfl
      case o65 =>
        obtain rfl : m_ho = a := Option.some.inj (f_m_ho.symm.trans ha)
        obtain rfl : mh = b := Option.some.inj (f_mh.symm.trans hb)
        rw [n_ho, n_mh, f_m_heardMany, f_m_claims]
        exact hHO9
      case o66 =>
        obtain rfl : qc = c := Option.some.inj (f_qc.symm.trans hc)
        obtain rfl : m_fc = a := Option.some.inj (f_m_fc.symm.trans ha)
        obtain rfl : m_nt = b := Option.some.inj (f_m_nt.symm.trans hb)
        obtain rfl : m_wt = d := Option.some.inj (f_m_wt.symm.trans hd)
        obtain rfl : m_sum = e := Option.some.inj (f_m_sum.symm.trans he)
        obtain rfl : mh = f := Option.some.inj (f_mh.symm.trans hf)
        exact ⟨cF9L, by rw [f_x_claimCount]; exact hFX, by rw [n_fc, n_nt, n_wt, n_sum, n_mh, f_x_claimCount]; exact hFR9⟩
      case o67 =>
        obtain rfl : qc = c := Option.some.inj (f_qc.symm.trans hc)
        obtain rfl : m_be = a := Option.some.inj (f_m_be.symm.trans ha)
        rw [n_be, f_x_claimCount]
        exact hv_FX_e hBX rfl rfl
      case o68 =>
        obtain rfl : qo_py = p := Option.some.inj (f_qo_py.symm.trans hp)
        obtain rfl : y_p0 = q := Option.some.inj (f_y_p0.symm.trans hq)
        obtain rfl : m_p0 = r := Option.some.inj (f_m_p0.symm.trans hr)
        exact n_y_p0.trans n_p0.symm
      case o69 =>
        obtain rfl : qo_py = p := Option.some.inj (f_qo_py.symm.trans hp)
        obtain rfl : y_p1 = q := Option.some.inj (f_y_p1.symm.trans hq)
        obtain rfl : m_p1 = r := Option.some.inj (f_m_p1.symm.trans hr)
        exact n_y_p1.trans n_p1.symm
      case o70 =>
        obtain rfl : qo_py = p := Option.some.inj (f_qo_py.symm.trans hp)
        obtain rfl : y_p2 = q := Option.some.inj (f_y_p2.symm.trans hq)
        obtain rfl : m_p2 = r := Option.some.inj (f_m_p2.symm.trans hr)
        exact n_y_p2.trans n_p2.symm
      case o71 =>
        obtain rfl : qo_py = p := Option.some.inj (f_qo_py.symm.trans hp)
        obtain rfl : y_p3 = q := Option.some.inj (f_y_p3.symm.trans hq)
        obtain rfl : m_p3 = r := Option.some.inj (f_m_p3.symm.trans hr)
        exact n_y_p3.trans n_p3.symm
      case o72 =>
        obtain rfl : qo_py = p := Option.some.inj (f_qo_py.symm.trans hp)
        obtain rfl : y_p4 = q := Option.some.inj (f_y_p4.symm.trans hq)
        obtain rfl : m_p4 = r := Option.some.inj (f_m_p4.symm.trans hr)
        exact n_y_p4.trans n_p4.symm
      case o73 =>
        obtain rfl : qrg9 = p := Option.some.inj (f_qrg9.symm.trans hp)
        rw [ffv_252, ffv_253, ffv_254]
        exact hNQ9
      case o74 =>
        obtain rfl : qrg9 = p := Option.some.inj (f_qrg9.symm.trans hp)
        obtain rfl : y_ls = q := Option.some.inj (f_y_ls.symm.trans hq)
        obtain rfl : m_rl = r := Option.some.inj (f_m_rl.symm.trans hr)
        rw [n_y_ls, n_m_rl, ffv_252]
        exact hRL9
      case o75 =>
        rw [cl_dead, n_dead]
        exact eq_dead
      case o76 =>
        rw [fw_266, fw_277]
        exact hq_isj
      case o77 =>
        rw [cl_dox, n_dox]
        exact eq_dox
      case o78 =>
        rw [cl_doy, n_doy]
        exact eq_doy
      case o79 =>
        rw [cl_fou, n_m_fou]
        exact eq_fou
      case o80 =>
        rw [cl_tri, n_mt]
        exact eq_tri
      case o81 =>
        obtain rfl : qw = w := Option.some.inj (f_qw.symm.trans hw)
        obtain rfl : ql = q := Option.some.inj (f_ql.symm.trans hq)
        exact pf_ql
      case o82 =>
        rw [n_mw]
        exact hwd
      case o83 =>
        rw [n_mr, f_m_acts]
        exact hWK
      case o84 =>
        rw [n_mp, n_mn, f_m_acts]
        exact hRP
      case o85 =>
        rw [n_ml, f_m_claims, f_m_acts]
        exact hPL
      case o86 =>
        rw [n_mh, f_m_heardMany, f_m_claims]
        exact hHC
      case o87 =>
        rw [n_mt]
        refine (hx_TR_le hTR ?o88)
        case o88 => omega
      case o89 =>
        rw [n_mh, n_m_fou, f_m_claims]
        exact hHF
    refine hb_if_eq (zx := x_259.toInt) (tgt := 539) hx hb rfl dL_law_532 ?o90 (fun c_278 => ?_) (fun c_278 => ?_)
    case o90 => decide
    · skip
      refine lv_iconst (v := 0) hx hb dL_law_539 ?o91 ?_
      case o91 => decide
      have zj_540 : (0 : Int32).toInt = 0 := ?o92
      case o92 => decide
      refine jn_540 (0 : Int32) ls ?o93 ?o94 ?o95 hl
      case o93 => decide
      case o94 => decide
      case o95 => omega
    · skip
      refine lv_iconst (v := 1) hx hb dL_law_535 ?o96 ?_
      case o96 => decide
      refine lv_goto (tgt := 540) hx hb dL_law_536 ?o97 ?_
      case o97 => decide
      have zj_540 : (1 : Int32).toInt = 1 := ?o98
      case o98 => decide
      refine jn_540 (1 : Int32) ls ?o99 ?o100 ?o101 hl
      case o99 => decide
      case o100 => decide
      case o101 => omega
  refine hb_if_eq (zx := x_259.toInt) (tgt := 516) hx hb rfl dL_law_509 ?o102 (fun c_279 => ?_) (fun c_279 => ?_)
  case o102 => decide
  · skip
    refine lv_iconst (v := 0) hx hb dL_law_516 ?o103 ?_
    case o103 => decide
    have zj_517 : (0 : Int32).toInt = 0 := ?o104
    case o104 => decide
    refine jn_517 (0 : Int32) ls ?o105 ?o106 ?o107 hl
    case o105 => decide
    case o106 => decide
    case o107 => omega
  · skip
    refine lv_iconst (v := 1) hx hb dL_law_512 ?o108 ?_
    case o108 => decide
    refine lv_goto (tgt := 517) hx hb dL_law_513 ?o109 ?_
    case o109 => decide
    have zj_517 : (1 : Int32).toInt = 1 := ?o110
    case o110 => decide
    refine jn_517 (1 : Int32) ls ?o111 ?o112 ?o113 hl
    case o111 => decide
    case o112 => decide
    case o113 => omega

set_option maxHeartbeats 4000000 in
set_option maxRecDepth 100000 in
theorem law_case_9 {p : Program} {e : Env} {s : State} {m : MethodId} {below : List Frame} {meth : Method} {c : Code} (l : Launch) {b LN : Nat} {xs : Nat → Int32} (hx : p.tables.exec = Jvm.exec) (hb : c.code = code) (hr : meth.sig.returnType = ret) (hlocks : meth.locks = false) (hml : c.maxLocals = 4) (hown : s.vm.findClass "SmallCourtLaw" = some m.cls) (hts : ∀ w ∈ hx_all, w.before #[Value.ref b] s = true) (hX : va_X b LN xs s s.heap) (hbl : b < s.heap.size) (hbA : ¬ s.heap.size ≤ b) (hLN : LN ≤ 3584) (dC : Nat → ClassId) (dI : Nat → Nat → Nat) (dA : Nat → ClassId) (b0 : hx_z) (ax am : Nat) (T1 : Int) (hT0 : 0 ≤ T1) (hT1 : T1 ≤ 511) (i : Int32) (hi0 : 0 ≤ i.toInt) (hiL : i.toInt + 7 ≤ LN) (CC SS : Nat) (hCC : CC + 3 ≤ 600000) (hSS : SS + 179 ≤ 7302250) (L1 : List Nat) (hl1 : hx_h) (H : Heap) (locs : List Loc) (ls : Array Slot) (hW : hx_W T_tb (P_ty dA) (dC, dI) vwCl (fun q : Nat => s.heap.size ≤ q) s.heap L1 hl1 s H locs) (hZ : hx_Xt (fun q : Nat => s.heap.size ≤ q) b0 s) (hI : hx_IV T1 ax am L1 hl1) (hl : lv_has ls 4 [(3, .int i), (2, .ref am), (1, .ref ax), (0, .ref b)]) (kk : ∀ (L2 : List Nat) (h2 : hx_h) (H2 : Heap) (locs2 : List Loc) (ls2 : Array Slot), hx_W T_tb (P_ty dA) (dC, dI) vwCl (fun q : Nat => s.heap.size ≤ q) s.heap L2 h2 s H2 locs2 → hx_IV (T1 + 1) ax am L2 h2 → lv_has ls2 4 [(3, .int i), (2, .ref am), (1, .ref ax), (0, .ref b)] → W p l e room_1 s m #[Value.ref b] below meth c H2 locs2 (CC + 3) (SS + 179) (lw_Z below #[Value.ref b] s) (F0 m 1379 ls2 [])) : W p l e room_1 s m #[Value.ref b] below meth c H locs CC SS (lw_Z below #[Value.ref b] s) (F0 m 547 ls []) := by
  have hI9 := hI
  have hT := hI9.1
  replace hI9 := hI9.2
  have gx := hI9.1
  replace hI9 := hI9.2
  have gm := hI9.1
  replace hI9 := hI9.2
  have zq0_3 := hI9.1
  have he_nw := zq0_3.1
  replace zq0_3 := zq0_3.2
  have he_np := zq0_3.1
  replace zq0_3 := zq0_3.2
  have he_c0 := zq0_3.1
  replace zq0_3 := zq0_3.2
  have he_tl := zq0_3.1
  replace zq0_3 := zq0_3.2
  have he_a0 := zq0_3.1
  replace zq0_3 := zq0_3.2
  have he_m0 := zq0_3.1
  replace zq0_3 := zq0_3.2
  have ho_ln := zq0_3.1
  replace zq0_3 := zq0_3.2
  have ho_lsd := zq0_3.1
  replace zq0_3 := zq0_3.2
  have ho_wkm := zq0_3.1
  replace zq0_3 := zq0_3.2
  have ho_py := zq0_3.1
  replace zq0_3 := zq0_3.2
  have hn_qp := zq0_3.1
  replace zq0_3 := zq0_3.2
  have hn_qc := zq0_3.1
  replace zq0_3 := zq0_3.2
  have hk_of := zq0_3.1
  replace zq0_3 := zq0_3.2
  have hk_wf := zq0_3.1
  replace zq0_3 := zq0_3.2
  have hk_df := zq0_3.1
  replace zq0_3 := zq0_3.2
  have hk_kf := zq0_3.1
  replace zq0_3 := zq0_3.2
  have hk_sf := zq0_3.1
  replace zq0_3 := zq0_3.2
  have hkBD := zq0_3.1
  replace zq0_3 := zq0_3.2
  have hLQ := zq0_3.1
  replace zq0_3 := zq0_3.2
  have hLE := zq0_3.1
  replace zq0_3 := zq0_3.2
  have hkWD := zq0_3.1
  replace zq0_3 := zq0_3.2
  have hkDF := zq0_3.1
  replace zq0_3 := zq0_3.2
  have hkTP := zq0_3.1
  replace zq0_3 := zq0_3.2
  have hkAC := zq0_3.1
  replace zq0_3 := zq0_3.2
  have hkDP := zq0_3.1
  replace zq0_3 := zq0_3.2
  have hkHL := zq0_3.1
  replace zq0_3 := zq0_3.2
  have hkHO := zq0_3.1
  replace zq0_3 := zq0_3.2
  have hkFX := zq0_3.1
  replace zq0_3 := zq0_3.2
  have hkBX := zq0_3.1
  replace zq0_3 := zq0_3.2
  have hf_bor := zq0_3.1
  replace zq0_3 := zq0_3.2
  have hf_kin := zq0_3.1
  replace zq0_3 := zq0_3.2
  have hf_sum := zq0_3.1
  replace zq0_3 := zq0_3.2
  have hf_fro := zq0_3.1
  replace zq0_3 := zq0_3.2
  have hf_fil := zq0_3.1
  replace zq0_3 := zq0_3.2
  have hf_hea := zq0_3.1
  replace zq0_3 := zq0_3.2
  have hf_jud := zq0_3.1
  replace zq0_3 := zq0_3.2
  have hf_ear := zq0_3.1
  replace zq0_3 := zq0_3.2
  have hf_hds := zq0_3.1
  replace zq0_3 := zq0_3.2
  have hf_ord := zq0_3.1
  replace zq0_3 := zq0_3.2
  have hf_wkl := zq0_3.1
  replace zq0_3 := zq0_3.2
  have hf_owd := zq0_3.1
  replace zq0_3 := zq0_3.2
  have hf_gds := zq0_3.1
  replace zq0_3 := zq0_3.2
  have hf_szd := zq0_3.1
  replace zq0_3 := zq0_3.2
  have hf_srv := zq0_3.1
  replace zq0_3 := zq0_3.2
  have hkP0 := zq0_3.1
  replace zq0_3 := zq0_3.2
  have hkP1 := zq0_3.1
  replace zq0_3 := zq0_3.2
  have hkP2 := zq0_3.1
  replace zq0_3 := zq0_3.2
  have hkP3 := zq0_3.1
  replace zq0_3 := zq0_3.2
  have hkP4 := zq0_3.1
  replace zq0_3 := zq0_3.2
  have hkNQ := zq0_3.1
  replace zq0_3 := zq0_3.2
  have hkRL := zq0_3.1
  replace zq0_3 := zq0_3.2
  have hc_dead := zq0_3.1
  replace zq0_3 := zq0_3.2
  have hc_isj := zq0_3.1
  replace zq0_3 := zq0_3.2
  have hc_dox := zq0_3.1
  replace zq0_3 := zq0_3.2
  have hc_doy := zq0_3.1
  replace zq0_3 := zq0_3.2
  have hc_fou := zq0_3.1
  replace zq0_3 := zq0_3.2
  have hc_tri := zq0_3.1
  replace zq0_3 := zq0_3.2
  replace hI9 := hI9.2
  have zq0_4 := hI9.1
  have ia := zq0_4.1
  replace zq0_4 := zq0_4.2
  have ip := zq0_4.1
  replace zq0_4 := zq0_4.2
  have ic := zq0_4.1
  replace zq0_4 := zq0_4.2
  have ih := zq0_4.1
  replace zq0_4 := zq0_4.2
  have il := zq0_4
  replace hI9 := hI9.2
  have zq0_5 := hI9
  have jw := zq0_5.1
  replace zq0_5 := zq0_5.2
  have jr := zq0_5.1
  replace zq0_5 := zq0_5.2
  have jp := zq0_5.1
  replace zq0_5 := zq0_5.2
  have jl := zq0_5.1
  replace zq0_5 := zq0_5.2
  have jh := zq0_5.1
  replace zq0_5 := zq0_5.2
  have jt := zq0_5.1
  replace zq0_5 := zq0_5.2
  have jf := zq0_5
  obtain ⟨qa, f_qa, g_qa⟩ := hx_rf hT gx tt_9 (k := 5) (u := 43) rfl
  have pf_qa := ia qa f_qa
  obtain ⟨qp, f_qp, g_qp⟩ := hx_rf hT gx tt_9 (k := 7) (u := 44) rfl
  have pf_qp := ip qp f_qp
  obtain ⟨qc, f_qc, g_qc⟩ := hx_rf hT gx tt_9 (k := 10) (u := 45) rfl
  have pf_qc := ic qc f_qc
  obtain ⟨qh, f_qh, g_qh⟩ := hx_rf hT gx tt_9 (k := 12) (u := 46) rfl
  have pf_qh := ih qh f_qh
  obtain ⟨qw, f_qw, g_qw⟩ := hx_rf hT gx tt_9 (k := 19) (u := 8) rfl
  obtain ⟨ql, f_ql, g_ql⟩ := hx_rf hT g_qw tt_8 (k := 3) (u := 40) rfl
  have pf_ql := il qw ql f_qw f_ql
  obtain ⟨nw, f_m_now⟩ : ∃ y : Int32, hl1.2.1 am 0 = y := ⟨_, rfl⟩
  have b_nw := hT.gi gm tt_10 (k := 0) rfl
  rw [f_m_now] at b_nw
  have b_nw : 0 ≤ nw.toInt ∧ nw.toInt ≤ 7999 := b_nw
  obtain ⟨np, f_m_persons⟩ : ∃ y : Int32, hl1.2.1 am 20 = y := ⟨_, rfl⟩
  have b_np := hT.gi gm tt_10 (k := 20) rfl
  rw [f_m_persons] at b_np
  have b_np : 0 ≤ np.toInt ∧ np.toInt ≤ 40 := b_np
  obtain ⟨c0, f_m_claims⟩ : ∃ y : Int32, hl1.2.1 am 36 = y := ⟨_, rfl⟩
  have b_c0 := hT.gi gm tt_10 (k := 36) rfl
  rw [f_m_claims] at b_c0
  have b_c0 : 0 ≤ c0.toInt ∧ c0.toInt ≤ 100 := b_c0
  obtain ⟨tl, f_m_taped⟩ : ∃ y : Int32, hl1.2.1 am 7 = y := ⟨_, rfl⟩
  have b_tl := hT.gi gm tt_10 (k := 7) rfl
  rw [f_m_taped] at b_tl
  have b_tl : 0 ≤ tl.toInt ∧ tl.toInt ≤ 400 := b_tl
  obtain ⟨a0, f_m_acts⟩ : ∃ y : Int32, hl1.2.1 am 1 = y := ⟨_, rfl⟩
  have b_a0 := hT.gi gm tt_10 (k := 1) rfl
  rw [f_m_acts] at b_a0
  have b_a0 : 0 ≤ a0.toInt ∧ a0.toInt ≤ 8 := b_a0
  obtain ⟨m0, f_m_heardMany⟩ : ∃ y : Int32, hl1.2.1 am 57 = y := ⟨_, rfl⟩
  have b_m0 := hT.gi gm tt_10 (k := 57) rfl
  rw [f_m_heardMany] at b_m0
  have b_m0 : 0 ≤ m0.toInt ∧ m0.toInt ≤ 100 := b_m0
  obtain ⟨ln, f_m_lines⟩ : ∃ y : Int32, hl1.2.1 am 29 = y := ⟨_, rfl⟩
  have b_ln := hT.gi gm tt_10 (k := 29) rfl
  rw [f_m_lines] at b_ln
  have b_ln : 0 ≤ ln.toInt ∧ ln.toInt ≤ 400 := b_ln
  obtain ⟨lsd, f_m_listed⟩ : ∃ y : Int32, hl1.2.1 am 90 = y := ⟨_, rfl⟩
  have b_lsd := hT.gi gm tt_10 (k := 90) rfl
  rw [f_m_listed] at b_lsd
  have b_lsd : 0 ≤ lsd.toInt ∧ lsd.toInt ≤ 8 := b_lsd
  obtain ⟨wkm, f_m_walkedMany⟩ : ∃ y : Int32, hl1.2.1 am 92 = y := ⟨_, rfl⟩
  have b_wkm := hT.gi gm tt_10 (k := 92) rfl
  rw [f_m_walkedMany] at b_wkm
  have b_wkm : 0 ≤ wkm.toInt ∧ wkm.toInt ≤ 8 := b_wkm
  obtain ⟨py, f_m_payments⟩ : ∃ y : Int32, hl1.2.1 am 59 = y := ⟨_, rfl⟩
  have b_py := hT.gi gm tt_10 (k := 59) rfl
  rw [f_m_payments] at b_py
  have b_py : 0 ≤ py.toInt ∧ py.toInt ≤ 600 := b_py
  have f_x_now : hl1.2.1 ax 2 = nw := he_nw.trans f_m_now
  have f_x_personCount : hl1.2.1 ax 8 = np := he_np.trans f_m_persons
  have f_x_claimCount : hl1.2.1 ax 11 = c0 := he_c0.trans f_m_claims
  have f_x_tapeLength : hl1.2.1 ax 1 = tl := he_tl.trans f_m_taped
  have f_x_actCount : hl1.2.1 ax 6 = a0 := he_a0.trans f_m_acts
  have f_x_heardCount : hl1.2.1 ax 13 = m0 := he_m0.trans f_m_heardMany
  obtain ⟨mw, f_mw, g_mw⟩ := hx_rf hT gm tt_10 (k := 19) (u := 57) rfl
  obtain ⟨F_mw, n_mw⟩ : ∃ g : Nat → Int32, hl1.2.1 mw = g := ⟨_, rfl⟩
  obtain ⟨mr, f_mr, g_mr⟩ := hx_rf hT gm tt_10 (k := 3) (u := 50) rfl
  obtain ⟨F_mr, n_mr⟩ : ∃ g : Nat → Int32, hl1.2.1 mr = g := ⟨_, rfl⟩
  obtain ⟨mp, f_mp, g_mp⟩ := hx_rf hT gm tt_10 (k := 5) (u := 52) rfl
  obtain ⟨F_mp, n_mp⟩ : ∃ g : Nat → Int32, hl1.2.1 mp = g := ⟨_, rfl⟩
  obtain ⟨mn, f_mn, g_mn⟩ := hx_rf hT gm tt_10 (k := 4) (u := 51) rfl
  obtain ⟨F_mn, n_mn⟩ : ∃ g : Nat → Int32, hl1.2.1 mn = g := ⟨_, rfl⟩
  obtain ⟨ml, f_ml, g_ml⟩ := hx_rf hT gm tt_10 (k := 44) (u := 79) rfl
  obtain ⟨F_ml, n_ml⟩ : ∃ g : Nat → Int32, hl1.2.1 ml = g := ⟨_, rfl⟩
  obtain ⟨mh, f_mh, g_mh⟩ := hx_rf hT gm tt_10 (k := 47) (u := 82) rfl
  obtain ⟨F_mh, n_mh⟩ : ∃ g : Nat → Int32, hl1.2.1 mh = g := ⟨_, rfl⟩
  obtain ⟨mt, f_mt, g_mt⟩ := hx_rf hT gm tt_10 (k := 45) (u := 80) rfl
  obtain ⟨F_mt, n_mt⟩ : ∃ g : Nat → Int32, hl1.2.1 mt = g := ⟨_, rfl⟩
  obtain ⟨m_fou, f_m_fou, g_m_fou⟩ := hx_rf hT gm tt_10 (k := 46) (u := 81) rfl
  obtain ⟨F_m_fou, n_m_fou⟩ : ∃ g : Nat → Int32, hl1.2.1 m_fou = g := ⟨_, rfl⟩
  obtain ⟨qo_ln, f_qo_ln, g_qo_ln⟩ := hx_rf hT gx tt_9 (k := 9) (u := 1) rfl
  have f_o_ln : hl1.2.1 qo_ln 0 = ln := (ho_ln qo_ln f_qo_ln).trans f_m_lines
  have f_o_lsd : hl1.2.1 qw 0 = lsd := (ho_lsd qw f_qw).trans f_m_listed
  have f_o_wkm : hl1.2.1 qw 1 = wkm := (ho_wkm qw f_qw).trans f_m_walkedMany
  obtain ⟨qo_py, f_qo_py, g_qo_py⟩ := hx_rf hT gx tt_9 (k := 14) (u := 3) rfl
  have f_o_py : hl1.2.1 qo_py 0 = py := (ho_py qo_py f_qo_py).trans f_m_payments
  have nu_qp := hn_qp qp f_qp; rw [f_x_personCount] at nu_qp
  have nu_qc := hn_qc qc f_qc; rw [f_x_claimCount] at nu_qc
  obtain ⟨b_of, f_b_of, g_b_of⟩ := hx_rf hT g_qo_ln tt_1 (k := 1) (u := 13) rfl
  obtain ⟨B_of, n_b_of⟩ : ∃ g : Nat → Int32, hl1.2.1 b_of = g := ⟨_, rfl⟩
  obtain ⟨m_of, f_m_of, g_m_of⟩ := hx_rf hT gm tt_10 (k := 30) (u := 66) rfl
  obtain ⟨F_of, n_m_of⟩ : ∃ g : Nat → Int32, hl1.2.1 m_of = g := ⟨_, rfl⟩
  have eb_of := hk_of qo_ln b_of m_of f_qo_ln f_b_of f_m_of; rw [n_b_of, n_m_of, f_o_ln] at eb_of
  obtain ⟨b_wf, f_b_wf, g_b_wf⟩ := hx_rf hT g_qo_ln tt_1 (k := 2) (u := 14) rfl
  obtain ⟨B_wf, n_b_wf⟩ : ∃ g : Nat → Int32, hl1.2.1 b_wf = g := ⟨_, rfl⟩
  obtain ⟨m_wf, f_m_wf, g_m_wf⟩ := hx_rf hT gm tt_10 (k := 31) (u := 67) rfl
  obtain ⟨F_wf, n_m_wf⟩ : ∃ g : Nat → Int32, hl1.2.1 m_wf = g := ⟨_, rfl⟩
  have eb_wf := hk_wf qo_ln b_wf m_wf f_qo_ln f_b_wf f_m_wf; rw [n_b_wf, n_m_wf, f_o_ln] at eb_wf
  obtain ⟨b_df, f_b_df, g_b_df⟩ := hx_rf hT g_qo_ln tt_1 (k := 3) (u := 15) rfl
  obtain ⟨B_df, n_b_df⟩ : ∃ g : Nat → Int32, hl1.2.1 b_df = g := ⟨_, rfl⟩
  obtain ⟨m_df, f_m_df, g_m_df⟩ := hx_rf hT gm tt_10 (k := 32) (u := 68) rfl
  obtain ⟨F_df, n_m_df⟩ : ∃ g : Nat → Int32, hl1.2.1 m_df = g := ⟨_, rfl⟩
  have eb_df := hk_df qo_ln b_df m_df f_qo_ln f_b_df f_m_df; rw [n_b_df, n_m_df, f_o_ln] at eb_df
  obtain ⟨b_kf, f_b_kf, g_b_kf⟩ := hx_rf hT g_qo_ln tt_1 (k := 4) (u := 16) rfl
  obtain ⟨B_kf, n_b_kf⟩ : ∃ g : Nat → Int32, hl1.2.1 b_kf = g := ⟨_, rfl⟩
  obtain ⟨m_kf, f_m_kf, g_m_kf⟩ := hx_rf hT gm tt_10 (k := 33) (u := 69) rfl
  obtain ⟨F_kf, n_m_kf⟩ : ∃ g : Nat → Int32, hl1.2.1 m_kf = g := ⟨_, rfl⟩
  have eb_kf := hk_kf qo_ln b_kf m_kf f_qo_ln f_b_kf f_m_kf; rw [n_b_kf, n_m_kf, f_o_ln] at eb_kf
  obtain ⟨b_sf, f_b_sf, g_b_sf⟩ := hx_rf hT g_qo_ln tt_1 (k := 5) (u := 17) rfl
  obtain ⟨B_sf, n_b_sf⟩ : ∃ g : Nat → Int32, hl1.2.1 b_sf = g := ⟨_, rfl⟩
  obtain ⟨m_sf, f_m_sf, g_m_sf⟩ := hx_rf hT gm tt_10 (k := 34) (u := 70) rfl
  obtain ⟨F_sf, n_m_sf⟩ : ∃ g : Nat → Int32, hl1.2.1 m_sf = g := ⟨_, rfl⟩
  have eb_sf := hk_sf qo_ln b_sf m_sf f_qo_ln f_b_sf f_m_sf; rw [n_b_sf, n_m_sf, f_o_ln] at eb_sf
  obtain ⟨b_bf, f_b_bf, g_b_bf⟩ := hx_rf hT g_qo_ln tt_1 (k := 6) (u := 18) rfl
  obtain ⟨bfL, n_b_bf⟩ : ∃ g : Nat → Int32, hl1.2.1 b_bf = g := ⟨_, rfl⟩
  obtain ⟨hBD, hDY⟩ := hkBD qo_ln b_df b_bf f_qo_ln f_b_df f_b_bf; rw [n_b_df, n_b_bf, f_o_ln] at hBD; rw [n_b_df, f_o_ln] at hDY
  have hBDm := hy_BD_c eb_df hBD
  have hDYm : hy_DY F_df ln.toInt.toNat := fun x hx => by rw [← eb_df x hx]; exact hDY x hx
  have sb_list := hLQ qw ql qc f_qw f_ql f_qc
  obtain ⟨m_lst, f_m_lst, g_m_lst⟩ := hx_rf hT gm tt_10 (k := 91) (u := 112) rfl
  obtain ⟨F_lst, n_lst⟩ : ∃ g : Nat → Int32, hl1.2.1 m_lst = g := ⟨_, rfl⟩
  obtain ⟨c_lst, cl_lst⟩ : ∃ g : Nat → Int32, hx_col 8 hl1 ql 0 = g := ⟨_, rfl⟩
  have eq_lst := hLE qw ql m_lst f_qw f_ql f_m_lst; rw [cl_lst, n_lst] at eq_lst
  obtain ⟨qtp, f_qtp, g_qtp⟩ := hx_rf hT gx tt_9 (k := 0) (u := 42) rfl
  obtain ⟨m_tp, f_m_tp, g_m_tp⟩ := hx_rf hT gm tt_10 (k := 6) (u := 53) rfl
  obtain ⟨F_tp, n_tp⟩ : ∃ g : Nat → Int32, hl1.2.1 m_tp = g := ⟨_, rfl⟩
  have n_qtp : hl1.2.1 qtp = F_tp := (hkTP qtp m_tp f_qtp f_m_tp).trans n_tp
  obtain ⟨c_dead, cl_dead⟩ : ∃ g : Nat → Int32, hx_col 40 hl1 qp 7 = g := ⟨_, rfl⟩
  obtain ⟨m_dead, f_m_dead, g_m_dead⟩ := hx_rf hT gm tt_10 (k := 27) (u := 64) rfl
  obtain ⟨F_dead, n_dead⟩ : ∃ g : Nat → Int32, hl1.2.1 m_dead = g := ⟨_, rfl⟩
  have eq_dead := hc_dead qp m_dead f_qp f_m_dead; rw [cl_dead, n_dead] at eq_dead
  have z_dead : np.toInt.toNat < 40 → c_dead np.toInt.toNat = 0 := fun hj => hx_num_z nu_qp cl_dead hj ?o0
  case o0 => omega
  obtain ⟨c_isj, cl_isj⟩ : ∃ g : Nat → Int32, hx_col 40 hl1 qp 8 = g := ⟨_, rfl⟩
  obtain ⟨m_isj, f_m_isj, g_m_isj⟩ := hx_rf hT gm tt_10 (k := 28) (u := 65) rfl
  obtain ⟨F_isj, n_isj⟩ : ∃ g : Nat → Int32, hl1.2.1 m_isj = g := ⟨_, rfl⟩
  have eq_isj := hc_isj qp m_isj f_qp f_m_isj; rw [cl_isj, n_isj] at eq_isj
  have z_isj : np.toInt.toNat < 40 → c_isj np.toInt.toNat = 0 := fun hj => hx_num_z nu_qp cl_isj hj ?o1
  case o1 => omega
  obtain ⟨c_dox, cl_dox⟩ : ∃ g : Nat → Int32, hx_col 40 hl1 qp 5 = g := ⟨_, rfl⟩
  obtain ⟨m_dox, f_m_dox, g_m_dox⟩ := hx_rf hT gm tt_10 (k := 24) (u := 61) rfl
  obtain ⟨F_dox, n_dox⟩ : ∃ g : Nat → Int32, hl1.2.1 m_dox = g := ⟨_, rfl⟩
  have eq_dox := hc_dox qp m_dox f_qp f_m_dox; rw [cl_dox, n_dox] at eq_dox
  have z_dox : np.toInt.toNat < 40 → c_dox np.toInt.toNat = 0 := fun hj => hx_num_z nu_qp cl_dox hj ?o2
  case o2 => omega
  obtain ⟨c_doy, cl_doy⟩ : ∃ g : Nat → Int32, hx_col 40 hl1 qp 6 = g := ⟨_, rfl⟩
  obtain ⟨m_doy, f_m_doy, g_m_doy⟩ := hx_rf hT gm tt_10 (k := 25) (u := 62) rfl
  obtain ⟨F_doy, n_doy⟩ : ∃ g : Nat → Int32, hl1.2.1 m_doy = g := ⟨_, rfl⟩
  have eq_doy := hc_doy qp m_doy f_qp f_m_doy; rw [cl_doy, n_doy] at eq_doy
  have z_doy : np.toInt.toNat < 40 → c_doy np.toInt.toNat = 0 := fun hj => hx_num_z nu_qp cl_doy hj ?o3
  case o3 => omega
  obtain ⟨c_fou, cl_fou⟩ : ∃ g : Nat → Int32, hx_col 100 hl1 qc 10 = g := ⟨_, rfl⟩
  have eq_fou := hc_fou qc m_fou f_qc f_m_fou; rw [cl_fou, n_m_fou] at eq_fou
  have z_fou : c0.toInt.toNat < 100 → c_fou c0.toInt.toNat = 0 := fun hj => hx_num_z nu_qc cl_fou hj ?o4
  case o4 => omega
  obtain ⟨c_tri, cl_tri⟩ : ∃ g : Nat → Int32, hx_col 100 hl1 qc 9 = g := ⟨_, rfl⟩
  have eq_tri := hc_tri qc mt f_qc f_mt; rw [cl_tri, n_mt] at eq_tri
  have z_tri : c0.toInt.toNat < 100 → c_tri c0.toInt.toNat = 0 := fun hj => hx_num_z nu_qc cl_tri hj ?o5
  case o5 => omega
  obtain ⟨qlt, f_qlt, g_qlt⟩ := hx_rf hT g_qw tt_8 (k := 2) (u := 39) rfl
  obtain ⟨qlf, f_qlf, g_qlf⟩ := hx_rf hT g_qw tt_8 (k := 4) (u := 41) rfl
  obtain ⟨m_wkd, f_m_wkd, g_m_wkd⟩ := hx_rf hT gm tt_10 (k := 93) (u := 113) rfl
  obtain ⟨F_qlt, n_qlt⟩ : ∃ g : Nat → Int32, hl1.2.1 qlt = g := ⟨_, rfl⟩
  obtain ⟨F_m_wkd, n_m_wkd⟩ : ∃ g : Nat → Int32, hl1.2.1 m_wkd = g := ⟨_, rfl⟩
  have eb_wkd := hkWD qw qlt m_wkd f_qw f_qlt f_m_wkd; rw [n_qlt, n_m_wkd, f_o_wkm] at eb_wkd
  obtain ⟨m_aga, f_m_aga, g_m_aga⟩ := hx_rf hT gm tt_10 (k := 38) (u := 73) rfl
  obtain ⟨F_aga, n_aga⟩ : ∃ g : Nat → Int32, hl1.2.1 m_aga = g := ⟨_, rfl⟩
  have hDF := hkDF qc qp m_aga f_qc f_qp f_m_aga; rw [n_aga, f_x_claimCount] at hDF
  obtain ⟨qwo, f_qwo, g_qwo⟩ := hx_rf hT gx tt_9 (k := 4) (u := 0) rfl
  obtain ⟨m_ad, f_m_ad, g_m_ad⟩ := hx_rf hT gm tt_10 (k := 2) (u := 49) rfl
  obtain ⟨F_ad, n_ad⟩ : ∃ g : Nat → Int32, hl1.2.1 m_ad = g := ⟨_, rfl⟩
  obtain ⟨A9, hRA9, hCA9, hAC9, hAB⟩ := hkAC qa qwo m_ad mr mn mp qc ml f_qa f_qwo f_m_ad f_mr f_mn f_mp f_qc f_ml
  rw [f_x_actCount] at hRA9; rw [f_x_actCount, n_ad, n_mr, n_mn, n_mp] at hCA9
  obtain ⟨m_by, f_m_by, g_m_by⟩ := hx_rf hT gm tt_10 (k := 37) (u := 72) rfl
  obtain ⟨F_by, n_by⟩ : ∃ g : Nat → Int32, hl1.2.1 m_by = g := ⟨_, rfl⟩
  obtain ⟨m_ho, f_m_ho, g_m_ho⟩ := hx_rf hT gm tt_10 (k := 58) (u := 92) rfl
  obtain ⟨F_ho, n_ho⟩ : ∃ g : Nat → Int32, hl1.2.1 m_ho = g := ⟨_, rfl⟩
  obtain ⟨m_fc, f_m_fc, g_m_fc⟩ := hx_rf hT gm tt_10 (k := 53) (u := 88) rfl
  obtain ⟨F_fc, n_fc⟩ : ∃ g : Nat → Int32, hl1.2.1 m_fc = g := ⟨_, rfl⟩
  obtain ⟨m_nt, f_m_nt, g_m_nt⟩ := hx_rf hT gm tt_10 (k := 41) (u := 76) rfl
  obtain ⟨F_nt, n_nt⟩ : ∃ g : Nat → Int32, hl1.2.1 m_nt = g := ⟨_, rfl⟩
  obtain ⟨m_wt, f_m_wt, g_m_wt⟩ := hx_rf hT gm tt_10 (k := 42) (u := 77) rfl
  obtain ⟨F_wt, n_wt⟩ : ∃ g : Nat → Int32, hl1.2.1 m_wt = g := ⟨_, rfl⟩
  obtain ⟨m_be, f_m_be, g_m_be⟩ := hx_rf hT gm tt_10 (k := 52) (u := 87) rfl
  obtain ⟨F_be, n_be⟩ : ∃ g : Nat → Int32, hl1.2.1 m_be = g := ⟨_, rfl⟩
  obtain ⟨m_bor, f_m_bor, g_m_bor⟩ := hx_rf hT gm tt_10 (k := 21) (u := 58) rfl
  obtain ⟨F_bor, n_bor⟩ : ∃ g : Nat → Int32, hl1.2.1 m_bor = g := ⟨_, rfl⟩
  obtain ⟨m_kin, f_m_kin, g_m_kin⟩ := hx_rf hT gm tt_10 (k := 26) (u := 63) rfl
  obtain ⟨F_kin, n_kin⟩ : ∃ g : Nat → Int32, hl1.2.1 m_kin = g := ⟨_, rfl⟩
  obtain ⟨m_sum, f_m_sum, g_m_sum⟩ := hx_rf hT gm tt_10 (k := 39) (u := 74) rfl
  obtain ⟨F_sum, n_sum⟩ : ∃ g : Nat → Int32, hl1.2.1 m_sum = g := ⟨_, rfl⟩
  obtain ⟨m_fro, f_m_fro, g_m_fro⟩ := hx_rf hT gm tt_10 (k := 40) (u := 75) rfl
  obtain ⟨F_fro, n_fro⟩ : ∃ g : Nat → Int32, hl1.2.1 m_fro = g := ⟨_, rfl⟩
  obtain ⟨m_fil, f_m_fil, g_m_fil⟩ := hx_rf hT gm tt_10 (k := 43) (u := 78) rfl
  obtain ⟨F_fil, n_fil⟩ : ∃ g : Nat → Int32, hl1.2.1 m_fil = g := ⟨_, rfl⟩
  obtain ⟨m_jud, f_m_jud, g_m_jud⟩ := hx_rf hT gm tt_10 (k := 51) (u := 86) rfl
  obtain ⟨F_jud, n_jud⟩ : ∃ g : Nat → Int32, hl1.2.1 m_jud = g := ⟨_, rfl⟩
  obtain ⟨m_ear, f_m_ear, g_m_ear⟩ := hx_rf hT gm tt_10 (k := 22) (u := 59) rfl
  obtain ⟨F_ear, n_ear⟩ : ∃ g : Nat → Int32, hl1.2.1 m_ear = g := ⟨_, rfl⟩
  obtain ⟨m_hds, f_m_hds, g_m_hds⟩ := hx_rf hT gm tt_10 (k := 23) (u := 60) rfl
  obtain ⟨F_hds, n_hds⟩ : ∃ g : Nat → Int32, hl1.2.1 m_hds = g := ⟨_, rfl⟩
  obtain ⟨m_ord, f_m_ord, g_m_ord⟩ := hx_rf hT gm tt_10 (k := 48) (u := 83) rfl
  obtain ⟨F_ord, n_ord⟩ : ∃ g : Nat → Int32, hl1.2.1 m_ord = g := ⟨_, rfl⟩
  obtain ⟨m_wkl, f_m_wkl, g_m_wkl⟩ := hx_rf hT gm tt_10 (k := 54) (u := 89) rfl
  obtain ⟨F_wkl, n_wkl⟩ : ∃ g : Nat → Int32, hl1.2.1 m_wkl = g := ⟨_, rfl⟩
  obtain ⟨m_owd, f_m_owd, g_m_owd⟩ := hx_rf hT gm tt_10 (k := 55) (u := 90) rfl
  obtain ⟨F_owd, n_owd⟩ : ∃ g : Nat → Int32, hl1.2.1 m_owd = g := ⟨_, rfl⟩
  obtain ⟨m_gds, f_m_gds, g_m_gds⟩ := hx_rf hT gm tt_10 (k := 56) (u := 91) rfl
  obtain ⟨F_gds, n_gds⟩ : ∃ g : Nat → Int32, hl1.2.1 m_gds = g := ⟨_, rfl⟩
  obtain ⟨m_szd, f_m_szd, g_m_szd⟩ := hx_rf hT gm tt_10 (k := 49) (u := 84) rfl
  obtain ⟨F_szd, n_szd⟩ : ∃ g : Nat → Int32, hl1.2.1 m_szd = g := ⟨_, rfl⟩
  obtain ⟨m_srv, f_m_srv, g_m_srv⟩ := hx_rf hT gm tt_10 (k := 50) (u := 85) rfl
  obtain ⟨F_srv, n_srv⟩ : ∃ g : Nat → Int32, hl1.2.1 m_srv = g := ⟨_, rfl⟩
  have cl_bor : hx_col 40 hl1 qp 1 = F_bor := (hf_bor qp m_bor f_qp f_m_bor).trans n_bor
  have cl_kin : hx_col 40 hl1 qp 2 = F_kin := (hf_kin qp m_kin f_qp f_m_kin).trans n_kin
  have cl_sum : hx_col 100 hl1 qc 6 = F_sum := (hf_sum qc m_sum f_qc f_m_sum).trans n_sum
  have cl_fro : hx_col 100 hl1 qc 7 = F_fro := (hf_fro qc m_fro f_qc f_m_fro).trans n_fro
  have cl_fil : hx_col 100 hl1 qc 8 = F_fil := (hf_fil qc m_fil f_qc f_m_fil).trans n_fil
  have cl_hea : hx_col 100 hl1 qc 11 = F_mh := (hf_hea qc mh f_qc f_mh).trans n_mh
  have cl_jud : hx_col 100 hl1 qc 12 = F_jud := (hf_jud qc m_jud f_qc f_m_jud).trans n_jud
  have cl_ear : hx_col 40 hl1 qp 3 = F_ear := (hf_ear qp m_ear f_qp f_m_ear).trans n_ear
  have cl_hds : hx_col 40 hl1 qp 4 = F_hds := (hf_hds qp m_hds f_qp f_m_hds).trans n_hds
  have cl_ord : hx_col 100 hl1 qc 13 = F_ord := (hf_ord qc m_ord f_qc f_m_ord).trans n_ord
  have cl_wkl : hx_col 100 hl1 qc 14 = F_wkl := (hf_wkl qc m_wkl f_qc f_m_wkl).trans n_wkl
  have cl_owd : hx_col 100 hl1 qc 15 = F_owd := (hf_owd qc m_owd f_qc f_m_owd).trans n_owd
  have cl_gds : hx_col 100 hl1 qc 17 = F_gds := (hf_gds qc m_gds f_qc f_m_gds).trans n_gds
  have cl_szd : hx_col 100 hl1 qc 16 = F_szd := (hf_szd qc m_szd f_qc f_m_szd).trans n_szd
  have cl_srv : hx_col 100 hl1 qc 18 = F_srv := (hf_srv qc m_srv f_qc f_m_srv).trans n_srv
  have htb9 : ∀ c, c < 100 → 0 ≤ (c_tri c).toInt ∧ (c_tri c).toInt ≤ 512 := fun c hc => by rw [eq_tri c hc]; have w := hT.ei g_mt tt_80 (k := c) hc; rw [n_mt] at w; exact w
  have z_jud : F_jud c0.toInt.toNat = 0 := hx_num_z2 nu_qc cl_jud ?o6
  case o6 => omega
  have hDP := hkDP qc qp m_by f_qc f_qp f_m_by; rw [n_by, f_x_claimCount] at hDP
  have hHL := hkHL qh qc m_ho f_qh f_qc f_m_ho; rw [n_ho, f_x_heardCount, f_x_claimCount] at hHL
  have hHO9 := hkHO m_ho mh f_m_ho f_mh; rw [n_ho, n_mh, f_m_heardMany, f_m_claims] at hHO9
  obtain ⟨cF9L, hFX, hFR9⟩ := hkFX qc m_fc m_nt m_wt m_sum mh f_qc f_m_fc f_m_nt f_m_wt f_m_sum f_mh; rw [f_x_claimCount] at hFX; rw [n_fc, n_nt, n_wt, n_sum, n_mh, f_x_claimCount] at hFR9
  have hBX := hkBX qc m_be f_qc f_m_be; rw [n_be, f_x_claimCount] at hBX
  rw [n_ml, f_x_claimCount] at hAC9
  obtain ⟨y_p0, f_y_p0, g_y_p0⟩ := hx_rf hT g_qo_py tt_3 (k := 2) (u := 23) rfl
  obtain ⟨m_p0, f_m_p0, g_m_p0⟩ := hx_rf hT gm tt_10 (k := 60) (u := 93) rfl
  obtain ⟨F_p0, n_p0⟩ : ∃ g : Nat → Int32, hl1.2.1 m_p0 = g := ⟨_, rfl⟩
  have n_y_p0 : hl1.2.1 y_p0 = F_p0 := (hkP0 qo_py y_p0 m_p0 f_qo_py f_y_p0 f_m_p0).trans n_p0
  obtain ⟨y_p1, f_y_p1, g_y_p1⟩ := hx_rf hT g_qo_py tt_3 (k := 3) (u := 24) rfl
  obtain ⟨m_p1, f_m_p1, g_m_p1⟩ := hx_rf hT gm tt_10 (k := 61) (u := 94) rfl
  obtain ⟨F_p1, n_p1⟩ : ∃ g : Nat → Int32, hl1.2.1 m_p1 = g := ⟨_, rfl⟩
  have n_y_p1 : hl1.2.1 y_p1 = F_p1 := (hkP1 qo_py y_p1 m_p1 f_qo_py f_y_p1 f_m_p1).trans n_p1
  obtain ⟨y_p2, f_y_p2, g_y_p2⟩ := hx_rf hT g_qo_py tt_3 (k := 5) (u := 26) rfl
  obtain ⟨m_p2, f_m_p2, g_m_p2⟩ := hx_rf hT gm tt_10 (k := 62) (u := 95) rfl
  obtain ⟨F_p2, n_p2⟩ : ∃ g : Nat → Int32, hl1.2.1 m_p2 = g := ⟨_, rfl⟩
  have n_y_p2 : hl1.2.1 y_p2 = F_p2 := (hkP2 qo_py y_p2 m_p2 f_qo_py f_y_p2 f_m_p2).trans n_p2
  obtain ⟨y_p3, f_y_p3, g_y_p3⟩ := hx_rf hT g_qo_py tt_3 (k := 4) (u := 25) rfl
  obtain ⟨m_p3, f_m_p3, g_m_p3⟩ := hx_rf hT gm tt_10 (k := 63) (u := 96) rfl
  obtain ⟨F_p3, n_p3⟩ : ∃ g : Nat → Int32, hl1.2.1 m_p3 = g := ⟨_, rfl⟩
  have n_y_p3 : hl1.2.1 y_p3 = F_p3 := (hkP3 qo_py y_p3 m_p3 f_qo_py f_y_p3 f_m_p3).trans n_p3
  obtain ⟨y_p4, f_y_p4, g_y_p4⟩ := hx_rf hT g_qo_py tt_3 (k := 1) (u := 22) rfl
  obtain ⟨m_p4, f_m_p4, g_m_p4⟩ := hx_rf hT gm tt_10 (k := 64) (u := 97) rfl
  obtain ⟨F_p4, n_p4⟩ : ∃ g : Nat → Int32, hl1.2.1 m_p4 = g := ⟨_, rfl⟩
  have n_y_p4 : hl1.2.1 y_p4 = F_p4 := (hkP4 qo_py y_p4 m_p4 f_qo_py f_y_p4 f_m_p4).trans n_p4
  obtain ⟨qrg9, f_qrg9, g_qrg9⟩ := hx_rf hT gx tt_9 (k := 18) (u := 7) rfl
  obtain ⟨y_ls, f_y_ls, g_y_ls⟩ := hx_rf hT g_qrg9 tt_7 (k := 3) (u := 35) rfl
  obtain ⟨m_rl, f_m_rl, g_m_rl⟩ := hx_rf hT gm tt_10 (k := 85) (u := 109) rfl
  obtain ⟨F_y_ls, n_y_ls⟩ : ∃ g : Nat → Int32, hl1.2.1 y_ls = g := ⟨_, rfl⟩
  obtain ⟨F_m_rl, n_m_rl⟩ : ∃ g : Nat → Int32, hl1.2.1 m_rl = g := ⟨_, rfl⟩
  obtain ⟨fv_280, efv_280⟩ : ∃ y : Int32, y = hl1.2.1 qrg9 0 := ⟨_, rfl⟩
  have bfv_280 := hT.gi g_qrg9 tt_7 (k := 0) rfl
  rw [← efv_280] at bfv_280
  have bfv_280 : -1 ≤ fv_280.toInt ∧ fv_280.toInt ≤ 100 := bfv_280
  have ffv_280 := efv_280.symm
  obtain ⟨fv_281, efv_281⟩ : ∃ y : Int32, y = hl1.2.1 am 83 := ⟨_, rfl⟩
  have bfv_281 := hT.gi gm tt_10 (k := 83) rfl
  rw [← efv_281] at bfv_281
  have bfv_281 : 0 ≤ fv_281.toInt ∧ fv_281.toInt ≤ 1 := bfv_281
  have ffv_281 := efv_281.symm
  obtain ⟨fv_282, efv_282⟩ : ∃ y : Int32, y = hl1.2.1 am 84 := ⟨_, rfl⟩
  have bfv_282 := hT.gi gm tt_10 (k := 84) rfl
  rw [← efv_282] at bfv_282
  have bfv_282 : 0 ≤ fv_282.toInt ∧ fv_282.toInt ≤ 300 := bfv_282
  have ffv_282 := efv_282.symm
  have hNQ9 := hkNQ qrg9 f_qrg9; rw [ffv_280, ffv_281, ffv_282] at hNQ9
  have hRL9 := hkRL qrg9 y_ls m_rl f_qrg9 f_y_ls f_m_rl; rw [n_y_ls, n_m_rl, ffv_280] at hRL9
  have hCB : hz_CB F_ord F_wkl F_owd F_szd F_gds F_srv := fun c hc => ⟨by have w := hT.ei g_m_ord tt_83 (k := c) (by omega); rw [n_ord] at w; exact w, by have w := hT.ei g_m_wkl tt_89 (k := c) (by omega); rw [n_wkl] at w; exact w, by have w := hT.ei g_m_owd tt_90 (k := c) (by omega); rw [n_owd] at w; exact w, by have w := hT.ei g_m_szd tt_84 (k := c) (by omega); rw [n_szd] at w; exact w, by have w := hT.ei g_m_gds tt_91 (k := c) (by omega); rw [n_gds] at w; exact w, by have w := hT.ei g_m_srv tt_85 (k := c) (by omega); rw [n_srv] at w; exact w⟩
  have hps : ∀ j, j < 600 → 0 ≤ (F_p2 j).toInt ∧ (F_p2 j).toInt ≤ 610000 := fun j hj => by have w := hT.ei g_m_p2 tt_95 (k := j) (by omega); rw [n_p2] at w; exact w
  have hte9 : ∀ c : Nat, c < 100 → (0 ≤ (c_tri c).toInt ∧ (c_tri c).toInt ≤ 512) ∧ (0 ≤ (F_sum c).toInt ∧ (F_sum c).toInt ≤ 9999) := fun c hc => ⟨htb9 c hc, by have w := hT.ei g_m_sum tt_74 (k := c) (by omega); rw [n_sum] at w; exact w⟩
  have hee9 : ∀ c : Nat, c < 40 → (0 ≤ (F_ear c).toInt ∧ (F_ear c).toInt ≤ 9999) ∧ (0 ≤ (F_hds c).toInt ∧ (F_hds c).toInt ≤ 20) := fun c hc => ⟨by have w := hT.ei g_m_ear tt_59 (k := c) (by omega); rw [n_ear] at w; exact w, by have w := hT.ei g_m_hds tt_60 (k := c) (by omega); rw [n_hds] at w; exact w⟩
  have bAG9 : ∀ k, k < 100 → 0 ≤ (F_aga k).toInt ∧ (F_aga k).toInt ≤ 39 := fun k hk => by have w := hT.ei g_m_aga tt_73 (k := k) (by omega); rw [n_aga] at w; exact w
  have bBY9 : ∀ k, k < 100 → 0 ≤ (F_by k).toInt ∧ (F_by k).toInt ≤ 39 := fun k hk => by have w := hT.ei g_m_by tt_72 (k := k) (by omega); rw [n_by] at w; exact w
  have hag9 : ∀ c, c < c0.toInt.toNat → 0 ≤ (F_aga c).toInt ∧ (F_aga c).toInt < 40 ∧ 0 ≤ (F_by c).toInt ∧ (F_by c).toInt < 40 := fun c hc => by have a9 := bAG9 c (by omega); have b9 := bBY9 c (by omega); omega
  have z_wkl : F_wkl c0.toInt.toNat = 0 := hx_num_z2 nu_qc cl_wkl ?o7
  case o7 => omega
  have z_owd : F_owd c0.toInt.toNat = 0 := hx_num_z2 nu_qc cl_owd ?o8
  case o8 => omega
  have z_gds : F_gds c0.toInt.toNat = 0 := hx_num_z2 nu_qc cl_gds ?o9
  case o9 => omega
  have hwd := jw mw f_mw; rw [n_mw] at hwd
  have hWK := jr mr f_mr; rw [n_mr, f_m_acts] at hWK
  have hRP := jp mp mn f_mp f_mn; rw [n_mp, n_mn, f_m_acts] at hRP
  have hPL := jl ml f_ml; rw [n_ml, f_m_claims, f_m_acts] at hPL
  have hHC := jh mh f_mh; rw [n_mh, f_m_heardMany, f_m_claims] at hHC
  have hTR := jt mt f_mt; rw [n_mt] at hTR
  have hHF := jf mh m_fou f_mh f_m_fou; rw [n_mh, n_m_fou, f_m_claims] at hHF
  refine lv_aload_n hx hb dL_law_547 rfl (lv_at hl 2 rfl) ?_
  refine lv_aload_n hx hb dL_law_548 rfl (lv_at hl 3 rfl) ?_
  refine lv_iload_n hx hb dL_law_549 rfl (lv_at hl 0 rfl) ?_
  refine lv_iconst (v := 1) hx hb dL_law_550 ?o10 ?_
  case o10 => decide
  refine lv_iadd hx hb dL_law_551 ?_
  have rg_283 := i32_r i
  refine lv_topi (fun x_284 ex_284 => ?_)
  have zx_284 : x_284.toInt = i.toInt + 1 := ?o11
  case o11 =>
    rw [ex_284]
    refine i32_add rfl ?o12 ?o13 ?o14
    case o12 => decide
    case o13 => omega
    case o14 => omega
  refine va_sld hx hb hX hbl hbA hW.2.2.2.1 (vp_in_iff.mpr ⟨?o15, ?o16⟩) dL_law_552 ?_
  case o15 => omega
  case o16 => omega
  refine lv_topi (fun x_285 ex_285 => ?_)
  refine lv_aload_n hx hb dL_law_553 rfl (lv_at hl 3 rfl) ?_
  refine lv_iload_n hx hb dL_law_554 rfl (lv_at hl 0 rfl) ?_
  refine lv_iconst (v := 2) hx hb dL_law_555 ?o17 ?_
  case o17 => decide
  refine lv_iadd hx hb dL_law_556 ?_
  refine lv_topi (fun x_286 ex_286 => ?_)
  have zx_286 : x_286.toInt = i.toInt + 2 := ?o18
  case o18 =>
    rw [ex_286]
    refine i32_add rfl ?o19 ?o20 ?o21
    case o19 => decide
    case o20 => omega
    case o21 => omega
  refine va_sld hx hb hX hbl hbA hW.2.2.2.1 (vp_in_iff.mpr ⟨?o22, ?o23⟩) dL_law_557 ?_
  case o22 => omega
  case o23 => omega
  refine lv_topi (fun x_287 ex_287 => ?_)
  refine lv_aload_n hx hb dL_law_558 rfl (lv_at hl 3 rfl) ?_
  refine lv_iload_n hx hb dL_law_559 rfl (lv_at hl 0 rfl) ?_
  refine lv_iconst (v := 3) hx hb dL_law_560 ?o24 ?_
  case o24 => decide
  refine lv_iadd hx hb dL_law_561 ?_
  refine lv_topi (fun x_288 ex_288 => ?_)
  have zx_288 : x_288.toInt = i.toInt + 3 := ?o25
  case o25 =>
    rw [ex_288]
    refine i32_add rfl ?o26 ?o27 ?o28
    case o26 => decide
    case o27 => omega
    case o28 => omega
  refine va_sld hx hb hX hbl hbA hW.2.2.2.1 (vp_in_iff.mpr ⟨?o29, ?o30⟩) dL_law_562 ?_
  case o29 => omega
  case o30 => omega
  refine lv_topi (fun x_289 ex_289 => ?_)
  refine lv_aload_n hx hb dL_law_563 rfl (lv_at hl 3 rfl) ?_
  refine lv_iload_n hx hb dL_law_564 rfl (lv_at hl 0 rfl) ?_
  refine lv_iconst (v := 4) hx hb dL_law_565 ?o31 ?_
  case o31 => decide
  refine lv_iadd hx hb dL_law_566 ?_
  refine lv_topi (fun x_290 ex_290 => ?_)
  have zx_290 : x_290.toInt = i.toInt + 4 := ?o32
  case o32 =>
    rw [ex_290]
    refine i32_add rfl ?o33 ?o34 ?o35
    case o33 => decide
    case o34 => omega
    case o35 => omega
  refine va_sld hx hb hX hbl hbA hW.2.2.2.1 (vp_in_iff.mpr ⟨?o36, ?o37⟩) dL_law_567 ?_
  case o36 => omega
  case o37 => omega
  refine lv_topi (fun x_291 ex_291 => ?_)
  refine lv_aload_n hx hb dL_law_568 rfl (lv_at hl 3 rfl) ?_
  refine lv_iload_n hx hb dL_law_569 rfl (lv_at hl 0 rfl) ?_
  refine lv_iconst (v := 5) hx hb dL_law_570 ?o38 ?_
  case o38 => decide
  refine lv_iadd hx hb dL_law_571 ?_
  refine lv_topi (fun x_292 ex_292 => ?_)
  have zx_292 : x_292.toInt = i.toInt + 5 := ?o39
  case o39 =>
    rw [ex_292]
    refine i32_add rfl ?o40 ?o41 ?o42
    case o40 => decide
    case o41 => omega
    case o42 => omega
  refine va_sld hx hb hX hbl hbA hW.2.2.2.1 (vp_in_iff.mpr ⟨?o43, ?o44⟩) dL_law_572 ?_
  case o43 => omega
  case o44 => omega
  refine lv_topi (fun x_293 ex_293 => ?_)
  have hTo := hT
  refine hx_goi (hx_runV (As := [.int x_285, .int x_287, .int x_289, .int x_291, .int x_293]) (rest := []) ⟨hx, hb, hml, hown, hts⟩ hW gx tt_9 (T := TX9) (N := 20) rfl (t_X9_line_3 l dC dI dA L1 hl1 H.size ax x_285 x_287 x_289 x_291 x_293 hT gx qp g_qp f_qp qo_ln g_qo_ln f_qo_ln b_of g_b_of f_b_of b_wf g_b_wf f_b_wf b_df g_b_df f_b_df b_kf g_b_kf f_b_kf b_sf g_b_sf f_b_sf b_bf g_b_bf f_b_bf B_of n_b_of B_wf n_b_wf B_df n_b_df B_kf n_b_kf B_sf n_b_sf bfL n_b_bf ln f_o_ln np f_x_personCount nw f_x_now hBD pf_qp) (cwV 5 hts (hx_gV kw_671 kw_668 kw_669 kw_670 kw_94) rfl rfl rfl (by decide +kernel) ⟨Nat.le_of_ble_eq_true rfl, Nat.le_of_ble_eq_true rfl⟩) rfl hl.1 rfl (Nat.le_of_ble_eq_true rfl) dL_law_573 ⟨(show CC + 0 ≤ 600000 from ?o45), (show SS + 0 ≤ 7302250 from ?o46)⟩) hW (fun r_296 L_294 h_295 H locs p_297 hW => ?_)
  case o45 => omega
  case o46 => omega
  obtain ⟨⟨w_299, w_300, w_301, w_302, w_303, w_304, w_305, fw_299, fw_300, fw_301, fw_302, fw_303, fw_304, fw_305, hr_298⟩, hT, hs⟩ := p_297
  replace hT : hx_T T_tb L_294 h_295 := hT
  replace hs : hx_S T_tb [(1, 0), (13, 0), (14, 0), (15, 0), (16, 0), (17, 0), (18, 0)] L1 hl1 L_294 h_295 := hs
  replace f_qa := (hs.o gx trivial rfl).2.trans f_qa
  replace f_qp := (hs.o gx trivial rfl).2.trans f_qp
  replace f_qc := (hs.o gx trivial rfl).2.trans f_qc
  replace f_qh := (hs.o gx trivial rfl).2.trans f_qh
  replace f_qw := (hs.o gx trivial rfl).2.trans f_qw
  replace f_ql := (hs.o g_qw trivial rfl).2.trans f_ql
  replace f_m_now := (hs.o gm trivial rfl).1.trans f_m_now
  replace f_m_persons := (hs.o gm trivial rfl).1.trans f_m_persons
  replace f_m_claims := (hs.o gm trivial rfl).1.trans f_m_claims
  replace f_m_taped := (hs.o gm trivial rfl).1.trans f_m_taped
  replace f_m_acts := (hs.o gm trivial rfl).1.trans f_m_acts
  replace f_m_heardMany := (hs.o gm trivial rfl).1.trans f_m_heardMany
  replace f_m_lines := (hs.o gm trivial rfl).1.trans f_m_lines
  replace f_m_listed := (hs.o gm trivial rfl).1.trans f_m_listed
  replace f_m_walkedMany := (hs.o gm trivial rfl).1.trans f_m_walkedMany
  replace f_m_payments := (hs.o gm trivial rfl).1.trans f_m_payments
  replace f_x_now := (hs.o gx trivial rfl).1.trans f_x_now
  replace f_x_personCount := (hs.o gx trivial rfl).1.trans f_x_personCount
  replace f_x_claimCount := (hs.o gx trivial rfl).1.trans f_x_claimCount
  replace f_x_tapeLength := (hs.o gx trivial rfl).1.trans f_x_tapeLength
  replace f_x_actCount := (hs.o gx trivial rfl).1.trans f_x_actCount
  replace f_x_heardCount := (hs.o gx trivial rfl).1.trans f_x_heardCount
  replace f_mw := (hs.o gm trivial rfl).2.trans f_mw
  replace f_mr := (hs.o gm trivial rfl).2.trans f_mr
  replace f_mp := (hs.o gm trivial rfl).2.trans f_mp
  replace f_mn := (hs.o gm trivial rfl).2.trans f_mn
  replace f_ml := (hs.o gm trivial rfl).2.trans f_ml
  replace f_mh := (hs.o gm trivial rfl).2.trans f_mh
  replace f_mt := (hs.o gm trivial rfl).2.trans f_mt
  replace f_m_fou := (hs.o gm trivial rfl).2.trans f_m_fou
  replace f_qo_ln := (hs.o gx trivial rfl).2.trans f_qo_ln
  replace f_o_lsd := (hs.o g_qw trivial rfl).1.trans f_o_lsd
  replace f_o_wkm := (hs.o g_qw trivial rfl).1.trans f_o_wkm
  replace f_qo_py := (hs.o gx trivial rfl).2.trans f_qo_py
  replace f_o_py := (hs.o g_qo_py trivial rfl).1.trans f_o_py
  replace f_b_of := (hs.o g_qo_ln trivial rfl).2.trans f_b_of
  replace f_m_of := (hs.o gm trivial rfl).2.trans f_m_of
  replace f_b_wf := (hs.o g_qo_ln trivial rfl).2.trans f_b_wf
  replace f_m_wf := (hs.o gm trivial rfl).2.trans f_m_wf
  replace f_b_df := (hs.o g_qo_ln trivial rfl).2.trans f_b_df
  replace f_m_df := (hs.o gm trivial rfl).2.trans f_m_df
  replace f_b_kf := (hs.o g_qo_ln trivial rfl).2.trans f_b_kf
  replace f_m_kf := (hs.o gm trivial rfl).2.trans f_m_kf
  replace f_b_sf := (hs.o g_qo_ln trivial rfl).2.trans f_b_sf
  replace f_m_sf := (hs.o gm trivial rfl).2.trans f_m_sf
  replace f_b_bf := (hs.o g_qo_ln trivial rfl).2.trans f_b_bf
  replace f_m_lst := (hs.o gm trivial rfl).2.trans f_m_lst
  replace f_qtp := (hs.o gx trivial rfl).2.trans f_qtp
  replace f_m_tp := (hs.o gm trivial rfl).2.trans f_m_tp
  replace f_m_dead := (hs.o gm trivial rfl).2.trans f_m_dead
  replace f_m_isj := (hs.o gm trivial rfl).2.trans f_m_isj
  replace f_m_dox := (hs.o gm trivial rfl).2.trans f_m_dox
  replace f_m_doy := (hs.o gm trivial rfl).2.trans f_m_doy
  replace f_qlt := (hs.o g_qw trivial rfl).2.trans f_qlt
  replace f_qlf := (hs.o g_qw trivial rfl).2.trans f_qlf
  replace f_m_wkd := (hs.o gm trivial rfl).2.trans f_m_wkd
  replace f_m_aga := (hs.o gm trivial rfl).2.trans f_m_aga
  replace f_qwo := (hs.o gx trivial rfl).2.trans f_qwo
  replace f_m_ad := (hs.o gm trivial rfl).2.trans f_m_ad
  replace f_m_by := (hs.o gm trivial rfl).2.trans f_m_by
  replace f_m_ho := (hs.o gm trivial rfl).2.trans f_m_ho
  replace f_m_fc := (hs.o gm trivial rfl).2.trans f_m_fc
  replace f_m_nt := (hs.o gm trivial rfl).2.trans f_m_nt
  replace f_m_wt := (hs.o gm trivial rfl).2.trans f_m_wt
  replace f_m_be := (hs.o gm trivial rfl).2.trans f_m_be
  replace f_m_bor := (hs.o gm trivial rfl).2.trans f_m_bor
  replace f_m_kin := (hs.o gm trivial rfl).2.trans f_m_kin
  replace f_m_sum := (hs.o gm trivial rfl).2.trans f_m_sum
  replace f_m_fro := (hs.o gm trivial rfl).2.trans f_m_fro
  replace f_m_fil := (hs.o gm trivial rfl).2.trans f_m_fil
  replace f_m_jud := (hs.o gm trivial rfl).2.trans f_m_jud
  replace f_m_ear := (hs.o gm trivial rfl).2.trans f_m_ear
  replace f_m_hds := (hs.o gm trivial rfl).2.trans f_m_hds
  replace f_m_ord := (hs.o gm trivial rfl).2.trans f_m_ord
  replace f_m_wkl := (hs.o gm trivial rfl).2.trans f_m_wkl
  replace f_m_owd := (hs.o gm trivial rfl).2.trans f_m_owd
  replace f_m_gds := (hs.o gm trivial rfl).2.trans f_m_gds
  replace f_m_szd := (hs.o gm trivial rfl).2.trans f_m_szd
  replace f_m_srv := (hs.o gm trivial rfl).2.trans f_m_srv
  replace f_y_p0 := (hs.o g_qo_py trivial rfl).2.trans f_y_p0
  replace f_m_p0 := (hs.o gm trivial rfl).2.trans f_m_p0
  replace f_y_p1 := (hs.o g_qo_py trivial rfl).2.trans f_y_p1
  replace f_m_p1 := (hs.o gm trivial rfl).2.trans f_m_p1
  replace f_y_p2 := (hs.o g_qo_py trivial rfl).2.trans f_y_p2
  replace f_m_p2 := (hs.o gm trivial rfl).2.trans f_m_p2
  replace f_y_p3 := (hs.o g_qo_py trivial rfl).2.trans f_y_p3
  replace f_m_p3 := (hs.o gm trivial rfl).2.trans f_m_p3
  replace f_y_p4 := (hs.o g_qo_py trivial rfl).2.trans f_y_p4
  replace f_m_p4 := (hs.o gm trivial rfl).2.trans f_m_p4
  replace f_qrg9 := (hs.o gx trivial rfl).2.trans f_qrg9
  replace f_y_ls := (hs.o g_qrg9 trivial rfl).2.trans f_y_ls
  replace f_m_rl := (hs.o gm trivial rfl).2.trans f_m_rl
  replace ffv_280 := (hs.o g_qrg9 trivial rfl).1.trans ffv_280
  replace ffv_281 := (hs.o gm trivial rfl).1.trans ffv_281
  replace ffv_282 := (hs.o gm trivial rfl).1.trans ffv_282
  replace pf_qa : ∀ j : Nat, (j : Int) < (h_295.2.1 ax 6).toInt → h_295.2.2 qa j ≠ none := by
    intro j hj; rw [(hs.o gx trivial rfl).1] at hj; rw [(hs.a g_qa rfl j).2]; exact pf_qa j hj
  replace pf_qp : ∀ j : Nat, (j : Int) < (h_295.2.1 ax 8).toInt → h_295.2.2 qp j ≠ none := by
    intro j hj; rw [(hs.o gx trivial rfl).1] at hj; rw [(hs.a g_qp rfl j).2]; exact pf_qp j hj
  replace pf_qc : ∀ j : Nat, (j : Int) < (h_295.2.1 ax 11).toInt → h_295.2.2 qc j ≠ none := by
    intro j hj; rw [(hs.o gx trivial rfl).1] at hj; rw [(hs.a g_qc rfl j).2]; exact pf_qc j hj
  replace pf_qh : ∀ j : Nat, (j : Int) < (h_295.2.1 ax 13).toInt → h_295.2.2 qh j ≠ none := by
    intro j hj; rw [(hs.o gx trivial rfl).1] at hj; rw [(hs.a g_qh rfl j).2]; exact pf_qh j hj
  replace pf_ql : ∀ j : Nat, (j : Int) < (h_295.2.1 qw 0).toInt → h_295.2.2 ql j ≠ none := by
    intro j hj; rw [(hs.o g_qw trivial rfl).1] at hj; rw [(hs.a g_ql rfl j).2]; exact pf_ql j hj
  replace cl_lst : hx_col 8 h_295 ql 0 = c_lst := (hx_col_S hs hTo g_ql tt_40 tt_2 rfl rfl).trans cl_lst
  replace cl_dead : hx_col 40 h_295 qp 7 = c_dead := (hx_col_S hs hTo g_qp tt_44 tt_4 rfl rfl).trans cl_dead
  replace cl_isj : hx_col 40 h_295 qp 8 = c_isj := (hx_col_S hs hTo g_qp tt_44 tt_4 rfl rfl).trans cl_isj
  replace cl_dox : hx_col 40 h_295 qp 5 = c_dox := (hx_col_S hs hTo g_qp tt_44 tt_4 rfl rfl).trans cl_dox
  replace cl_doy : hx_col 40 h_295 qp 6 = c_doy := (hx_col_S hs hTo g_qp tt_44 tt_4 rfl rfl).trans cl_doy
  replace cl_fou : hx_col 100 h_295 qc 10 = c_fou := (hx_col_S hs hTo g_qc tt_45 tt_2 rfl rfl).trans cl_fou
  replace cl_tri : hx_col 100 h_295 qc 9 = c_tri := (hx_col_S hs hTo g_qc tt_45 tt_2 rfl rfl).trans cl_tri
  replace cl_bor : hx_col 40 h_295 qp 1 = F_bor := (hx_col_S hs hTo g_qp tt_44 tt_4 rfl rfl).trans cl_bor
  replace cl_kin : hx_col 40 h_295 qp 2 = F_kin := (hx_col_S hs hTo g_qp tt_44 tt_4 rfl rfl).trans cl_kin
  replace cl_sum : hx_col 100 h_295 qc 6 = F_sum := (hx_col_S hs hTo g_qc tt_45 tt_2 rfl rfl).trans cl_sum
  replace cl_fro : hx_col 100 h_295 qc 7 = F_fro := (hx_col_S hs hTo g_qc tt_45 tt_2 rfl rfl).trans cl_fro
  replace cl_fil : hx_col 100 h_295 qc 8 = F_fil := (hx_col_S hs hTo g_qc tt_45 tt_2 rfl rfl).trans cl_fil
  replace cl_hea : hx_col 100 h_295 qc 11 = F_mh := (hx_col_S hs hTo g_qc tt_45 tt_2 rfl rfl).trans cl_hea
  replace cl_jud : hx_col 100 h_295 qc 12 = F_jud := (hx_col_S hs hTo g_qc tt_45 tt_2 rfl rfl).trans cl_jud
  replace cl_ear : hx_col 40 h_295 qp 3 = F_ear := (hx_col_S hs hTo g_qp tt_44 tt_4 rfl rfl).trans cl_ear
  replace cl_hds : hx_col 40 h_295 qp 4 = F_hds := (hx_col_S hs hTo g_qp tt_44 tt_4 rfl rfl).trans cl_hds
  replace cl_ord : hx_col 100 h_295 qc 13 = F_ord := (hx_col_S hs hTo g_qc tt_45 tt_2 rfl rfl).trans cl_ord
  replace cl_wkl : hx_col 100 h_295 qc 14 = F_wkl := (hx_col_S hs hTo g_qc tt_45 tt_2 rfl rfl).trans cl_wkl
  replace cl_owd : hx_col 100 h_295 qc 15 = F_owd := (hx_col_S hs hTo g_qc tt_45 tt_2 rfl rfl).trans cl_owd
  replace cl_gds : hx_col 100 h_295 qc 17 = F_gds := (hx_col_S hs hTo g_qc tt_45 tt_2 rfl rfl).trans cl_gds
  replace cl_szd : hx_col 100 h_295 qc 16 = F_szd := (hx_col_S hs hTo g_qc tt_45 tt_2 rfl rfl).trans cl_szd
  replace cl_srv : hx_col 100 h_295 qc 18 = F_srv := (hx_col_S hs hTo g_qc tt_45 tt_2 rfl rfl).trans cl_srv
  replace nu_qp : hx_num 40 h_295 qp 0 (np.toInt) := hx_num_S hs hTo g_qp tt_44 tt_4 rfl rfl nu_qp
  replace nu_qc : hx_num 100 h_295 qc 0 (c0.toInt) := hx_num_S hs hTo g_qc tt_45 tt_2 rfl rfl nu_qc
  replace sb_list : hx_LQ 8 100 h_295 ql qc := hx_LQ_S hs g_ql g_qc rfl rfl sb_list
  replace hDF : hw_DF h_295 qc qp 2 F_aga c0.toInt := hw_DF_S hs hTo g_qc g_qp tt_45 tt_2 rfl rfl rfl hDF
  replace hRA9 : hv_RA h_295 qa qwo a0.toInt A9 := hv_RA_S hs hTo g_qa g_qwo tt_43 tt_0 rfl rfl rfl rfl rfl rfl ?o47 hRA9
  case o47 => omega
  replace hDP : hw_DF h_295 qc qp 1 F_by c0.toInt := hw_DF_S hs hTo g_qc g_qp tt_45 tt_2 rfl rfl rfl hDP
  replace hAC9 : hv_AC h_295 qc F_ml c0.toInt A9 := hv_AC_S hs hTo g_qc tt_45 tt_2 rfl tt_0 rfl rfl rfl rfl rfl rfl rfl hAC9
  replace hFX : hv_FX 8 4 h_295 qc cF9L c0.toInt := hv_FX_S hs hTo g_qc tt_45 tt_2 rfl rfl rfl rfl hFX
  replace hBX : hv_FX 3 5 h_295 qc F_be c0.toInt := hv_FX_S hs hTo g_qc tt_45 tt_2 rfl rfl rfl rfl hBX
  replace hHL : hv_HL h_295 qh qc F_ho m0.toInt c0.toInt := hv_HL_S hs g_qh g_qc rfl rfl hHL
  replace n_mw : h_295.2.1 mw = F_mw := (funext fun j => (hs.a g_mw rfl j).1).trans n_mw
  replace n_mr : h_295.2.1 mr = F_mr := (funext fun j => (hs.a g_mr rfl j).1).trans n_mr
  replace n_mp : h_295.2.1 mp = F_mp := (funext fun j => (hs.a g_mp rfl j).1).trans n_mp
  replace n_mn : h_295.2.1 mn = F_mn := (funext fun j => (hs.a g_mn rfl j).1).trans n_mn
  replace n_ml : h_295.2.1 ml = F_ml := (funext fun j => (hs.a g_ml rfl j).1).trans n_ml
  replace n_mh : h_295.2.1 mh = F_mh := (funext fun j => (hs.a g_mh rfl j).1).trans n_mh
  replace n_mt : h_295.2.1 mt = F_mt := (funext fun j => (hs.a g_mt rfl j).1).trans n_mt
  replace n_m_fou : h_295.2.1 m_fou = F_m_fou := (funext fun j => (hs.a g_m_fou rfl j).1).trans n_m_fou
  replace n_m_of : h_295.2.1 m_of = F_of := (funext fun j => (hs.a g_m_of rfl j).1).trans n_m_of
  replace n_m_wf : h_295.2.1 m_wf = F_wf := (funext fun j => (hs.a g_m_wf rfl j).1).trans n_m_wf
  replace n_m_df : h_295.2.1 m_df = F_df := (funext fun j => (hs.a g_m_df rfl j).1).trans n_m_df
  replace n_m_kf : h_295.2.1 m_kf = F_kf := (funext fun j => (hs.a g_m_kf rfl j).1).trans n_m_kf
  replace n_m_sf : h_295.2.1 m_sf = F_sf := (funext fun j => (hs.a g_m_sf rfl j).1).trans n_m_sf
  replace n_lst : h_295.2.1 m_lst = F_lst := (funext fun j => (hs.a g_m_lst rfl j).1).trans n_lst
  replace n_tp : h_295.2.1 m_tp = F_tp := (funext fun j => (hs.a g_m_tp rfl j).1).trans n_tp
  replace n_qtp : h_295.2.1 qtp = F_tp := (funext fun j => (hs.a g_qtp rfl j).1).trans n_qtp
  replace n_dead : h_295.2.1 m_dead = F_dead := (funext fun j => (hs.a g_m_dead rfl j).1).trans n_dead
  replace n_isj : h_295.2.1 m_isj = F_isj := (funext fun j => (hs.a g_m_isj rfl j).1).trans n_isj
  replace n_dox : h_295.2.1 m_dox = F_dox := (funext fun j => (hs.a g_m_dox rfl j).1).trans n_dox
  replace n_doy : h_295.2.1 m_doy = F_doy := (funext fun j => (hs.a g_m_doy rfl j).1).trans n_doy
  replace n_qlt : h_295.2.1 qlt = F_qlt := (funext fun j => (hs.a g_qlt rfl j).1).trans n_qlt
  replace n_m_wkd : h_295.2.1 m_wkd = F_m_wkd := (funext fun j => (hs.a g_m_wkd rfl j).1).trans n_m_wkd
  replace n_aga : h_295.2.1 m_aga = F_aga := (funext fun j => (hs.a g_m_aga rfl j).1).trans n_aga
  replace n_ad : h_295.2.1 m_ad = F_ad := (funext fun j => (hs.a g_m_ad rfl j).1).trans n_ad
  replace n_by : h_295.2.1 m_by = F_by := (funext fun j => (hs.a g_m_by rfl j).1).trans n_by
  replace n_ho : h_295.2.1 m_ho = F_ho := (funext fun j => (hs.a g_m_ho rfl j).1).trans n_ho
  replace n_fc : h_295.2.1 m_fc = F_fc := (funext fun j => (hs.a g_m_fc rfl j).1).trans n_fc
  replace n_nt : h_295.2.1 m_nt = F_nt := (funext fun j => (hs.a g_m_nt rfl j).1).trans n_nt
  replace n_wt : h_295.2.1 m_wt = F_wt := (funext fun j => (hs.a g_m_wt rfl j).1).trans n_wt
  replace n_be : h_295.2.1 m_be = F_be := (funext fun j => (hs.a g_m_be rfl j).1).trans n_be
  replace n_bor : h_295.2.1 m_bor = F_bor := (funext fun j => (hs.a g_m_bor rfl j).1).trans n_bor
  replace n_kin : h_295.2.1 m_kin = F_kin := (funext fun j => (hs.a g_m_kin rfl j).1).trans n_kin
  replace n_sum : h_295.2.1 m_sum = F_sum := (funext fun j => (hs.a g_m_sum rfl j).1).trans n_sum
  replace n_fro : h_295.2.1 m_fro = F_fro := (funext fun j => (hs.a g_m_fro rfl j).1).trans n_fro
  replace n_fil : h_295.2.1 m_fil = F_fil := (funext fun j => (hs.a g_m_fil rfl j).1).trans n_fil
  replace n_jud : h_295.2.1 m_jud = F_jud := (funext fun j => (hs.a g_m_jud rfl j).1).trans n_jud
  replace n_ear : h_295.2.1 m_ear = F_ear := (funext fun j => (hs.a g_m_ear rfl j).1).trans n_ear
  replace n_hds : h_295.2.1 m_hds = F_hds := (funext fun j => (hs.a g_m_hds rfl j).1).trans n_hds
  replace n_ord : h_295.2.1 m_ord = F_ord := (funext fun j => (hs.a g_m_ord rfl j).1).trans n_ord
  replace n_wkl : h_295.2.1 m_wkl = F_wkl := (funext fun j => (hs.a g_m_wkl rfl j).1).trans n_wkl
  replace n_owd : h_295.2.1 m_owd = F_owd := (funext fun j => (hs.a g_m_owd rfl j).1).trans n_owd
  replace n_gds : h_295.2.1 m_gds = F_gds := (funext fun j => (hs.a g_m_gds rfl j).1).trans n_gds
  replace n_szd : h_295.2.1 m_szd = F_szd := (funext fun j => (hs.a g_m_szd rfl j).1).trans n_szd
  replace n_srv : h_295.2.1 m_srv = F_srv := (funext fun j => (hs.a g_m_srv rfl j).1).trans n_srv
  replace n_p0 : h_295.2.1 m_p0 = F_p0 := (funext fun j => (hs.a g_m_p0 rfl j).1).trans n_p0
  replace n_y_p0 : h_295.2.1 y_p0 = F_p0 := (funext fun j => (hs.a g_y_p0 rfl j).1).trans n_y_p0
  replace n_p1 : h_295.2.1 m_p1 = F_p1 := (funext fun j => (hs.a g_m_p1 rfl j).1).trans n_p1
  replace n_y_p1 : h_295.2.1 y_p1 = F_p1 := (funext fun j => (hs.a g_y_p1 rfl j).1).trans n_y_p1
  replace n_p2 : h_295.2.1 m_p2 = F_p2 := (funext fun j => (hs.a g_m_p2 rfl j).1).trans n_p2
  replace n_y_p2 : h_295.2.1 y_p2 = F_p2 := (funext fun j => (hs.a g_y_p2 rfl j).1).trans n_y_p2
  replace n_p3 : h_295.2.1 m_p3 = F_p3 := (funext fun j => (hs.a g_m_p3 rfl j).1).trans n_p3
  replace n_y_p3 : h_295.2.1 y_p3 = F_p3 := (funext fun j => (hs.a g_y_p3 rfl j).1).trans n_y_p3
  replace n_p4 : h_295.2.1 m_p4 = F_p4 := (funext fun j => (hs.a g_m_p4 rfl j).1).trans n_p4
  replace n_y_p4 : h_295.2.1 y_p4 = F_p4 := (funext fun j => (hs.a g_y_p4 rfl j).1).trans n_y_p4
  replace n_y_ls : h_295.2.1 y_ls = F_y_ls := (funext fun j => (hs.a g_y_ls rfl j).1).trans n_y_ls
  replace n_m_rl : h_295.2.1 m_rl = F_m_rl := (funext fun j => (hs.a g_m_rl rfl j).1).trans n_m_rl
  replace gx := gx.S hs
  replace gm := gm.S hs
  replace g_qa := g_qa.S hs
  replace g_qp := g_qp.S hs
  replace g_qc := g_qc.S hs
  replace g_qh := g_qh.S hs
  replace g_qw := g_qw.S hs
  replace g_ql := g_ql.S hs
  replace g_mw := g_mw.S hs
  replace g_mr := g_mr.S hs
  replace g_mp := g_mp.S hs
  replace g_mn := g_mn.S hs
  replace g_ml := g_ml.S hs
  replace g_mh := g_mh.S hs
  replace g_mt := g_mt.S hs
  replace g_m_fou := g_m_fou.S hs
  replace g_qo_ln := g_qo_ln.S hs
  replace g_qo_py := g_qo_py.S hs
  replace g_b_of := g_b_of.S hs
  replace g_m_of := g_m_of.S hs
  replace g_b_wf := g_b_wf.S hs
  replace g_m_wf := g_m_wf.S hs
  replace g_b_df := g_b_df.S hs
  replace g_m_df := g_m_df.S hs
  replace g_b_kf := g_b_kf.S hs
  replace g_m_kf := g_m_kf.S hs
  replace g_b_sf := g_b_sf.S hs
  replace g_m_sf := g_m_sf.S hs
  replace g_b_bf := g_b_bf.S hs
  replace g_m_lst := g_m_lst.S hs
  replace g_qtp := g_qtp.S hs
  replace g_m_tp := g_m_tp.S hs
  replace g_m_dead := g_m_dead.S hs
  replace g_m_isj := g_m_isj.S hs
  replace g_m_dox := g_m_dox.S hs
  replace g_m_doy := g_m_doy.S hs
  replace g_qlt := g_qlt.S hs
  replace g_qlf := g_qlf.S hs
  replace g_m_wkd := g_m_wkd.S hs
  replace g_m_aga := g_m_aga.S hs
  replace g_qwo := g_qwo.S hs
  replace g_m_ad := g_m_ad.S hs
  replace g_m_by := g_m_by.S hs
  replace g_m_ho := g_m_ho.S hs
  replace g_m_fc := g_m_fc.S hs
  replace g_m_nt := g_m_nt.S hs
  replace g_m_wt := g_m_wt.S hs
  replace g_m_be := g_m_be.S hs
  replace g_m_bor := g_m_bor.S hs
  replace g_m_kin := g_m_kin.S hs
  replace g_m_sum := g_m_sum.S hs
  replace g_m_fro := g_m_fro.S hs
  replace g_m_fil := g_m_fil.S hs
  replace g_m_jud := g_m_jud.S hs
  replace g_m_ear := g_m_ear.S hs
  replace g_m_hds := g_m_hds.S hs
  replace g_m_ord := g_m_ord.S hs
  replace g_m_wkl := g_m_wkl.S hs
  replace g_m_owd := g_m_owd.S hs
  replace g_m_gds := g_m_gds.S hs
  replace g_m_szd := g_m_szd.S hs
  replace g_m_srv := g_m_srv.S hs
  replace g_y_p0 := g_y_p0.S hs
  replace g_m_p0 := g_m_p0.S hs
  replace g_y_p1 := g_y_p1.S hs
  replace g_m_p1 := g_m_p1.S hs
  replace g_y_p2 := g_y_p2.S hs
  replace g_m_p2 := g_m_p2.S hs
  replace g_y_p3 := g_y_p3.S hs
  replace g_m_p3 := g_m_p3.S hs
  replace g_y_p4 := g_y_p4.S hs
  replace g_m_p4 := g_m_p4.S hs
  replace g_qrg9 := g_qrg9.S hs
  replace g_y_ls := g_y_ls.S hs
  replace g_m_rl := g_m_rl.S hs
  have fw_299 : h_295.2.1 qo_ln 0 = w_299 := fw_299
  have bw_299 := hT.gi g_qo_ln tt_1 (k := 0) rfl
  rw [fw_299] at bw_299
  have bw_299 : 0 ≤ w_299.toInt ∧ w_299.toInt ≤ 400 := bw_299
  have fw_300 : h_295.2.1 b_of = w_300 := fw_300
  have fw_301 : h_295.2.1 b_wf = w_301 := fw_301
  have fw_302 : h_295.2.1 b_df = w_302 := fw_302
  have fw_303 : h_295.2.1 b_kf = w_303 := fw_303
  have fw_304 : h_295.2.1 b_sf = w_304 := fw_304
  have fw_305 : h_295.2.1 b_bf = w_305 := fw_305
  refine lv_pop hx hb dL_law_576 rfl ?_
  refine lv_aload_n hx hb dL_law_577 rfl (lv_at hl 1 rfl) ?_
  refine lv_aload_n hx hb dL_law_578 rfl (lv_at hl 3 rfl) ?_
  refine lv_iload_n hx hb dL_law_579 rfl (lv_at hl 0 rfl) ?_
  refine lv_iconst (v := 1) hx hb dL_law_580 ?o48 ?_
  case o48 => decide
  refine lv_iadd hx hb dL_law_581 ?_
  refine lv_topi (fun x_306 ex_306 => ?_)
  have zx_306 : x_306.toInt = i.toInt + 1 := ?o49
  case o49 =>
    rw [ex_306]
    refine i32_add rfl ?o50 ?o51 ?o52
    case o50 => decide
    case o51 => omega
    case o52 => omega
  obtain rfl : x_284 = x_306 := ex_284.trans ex_306.symm
  refine va_sld hx hb hX hbl hbA hW.2.2.2.1 (vp_in_iff.mpr ⟨?o53, ?o54⟩) dL_law_582 ?_
  case o53 => omega
  case o54 => omega
  refine lv_topi (fun x_307 ex_307 => ?_)
  obtain rfl : x_285 = x_307 := ex_285.trans ex_307.symm
  refine lv_aload_n hx hb dL_law_583 rfl (lv_at hl 3 rfl) ?_
  refine lv_iload_n hx hb dL_law_584 rfl (lv_at hl 0 rfl) ?_
  refine lv_iconst (v := 2) hx hb dL_law_585 ?o55 ?_
  case o55 => decide
  refine lv_iadd hx hb dL_law_586 ?_
  refine lv_topi (fun x_308 ex_308 => ?_)
  have zx_308 : x_308.toInt = i.toInt + 2 := ?o56
  case o56 =>
    rw [ex_308]
    refine i32_add rfl ?o57 ?o58 ?o59
    case o57 => decide
    case o58 => omega
    case o59 => omega
  obtain rfl : x_286 = x_308 := ex_286.trans ex_308.symm
  refine va_sld hx hb hX hbl hbA hW.2.2.2.1 (vp_in_iff.mpr ⟨?o60, ?o61⟩) dL_law_587 ?_
  case o60 => omega
  case o61 => omega
  refine lv_topi (fun x_309 ex_309 => ?_)
  obtain rfl : x_287 = x_309 := ex_287.trans ex_309.symm
  refine lv_aload_n hx hb dL_law_588 rfl (lv_at hl 3 rfl) ?_
  refine lv_iload_n hx hb dL_law_589 rfl (lv_at hl 0 rfl) ?_
  refine lv_iconst (v := 3) hx hb dL_law_590 ?o62 ?_
  case o62 => decide
  refine lv_iadd hx hb dL_law_591 ?_
  refine lv_topi (fun x_310 ex_310 => ?_)
  have zx_310 : x_310.toInt = i.toInt + 3 := ?o63
  case o63 =>
    rw [ex_310]
    refine i32_add rfl ?o64 ?o65 ?o66
    case o64 => decide
    case o65 => omega
    case o66 => omega
  obtain rfl : x_288 = x_310 := ex_288.trans ex_310.symm
  refine va_sld hx hb hX hbl hbA hW.2.2.2.1 (vp_in_iff.mpr ⟨?o67, ?o68⟩) dL_law_592 ?_
  case o67 => omega
  case o68 => omega
  refine lv_topi (fun x_311 ex_311 => ?_)
  obtain rfl : x_289 = x_311 := ex_289.trans ex_311.symm
  refine lv_aload_n hx hb dL_law_593 rfl (lv_at hl 3 rfl) ?_
  refine lv_iload_n hx hb dL_law_594 rfl (lv_at hl 0 rfl) ?_
  refine lv_iconst (v := 4) hx hb dL_law_595 ?o69 ?_
  case o69 => decide
  refine lv_iadd hx hb dL_law_596 ?_
  refine lv_topi (fun x_312 ex_312 => ?_)
  have zx_312 : x_312.toInt = i.toInt + 4 := ?o70
  case o70 =>
    rw [ex_312]
    refine i32_add rfl ?o71 ?o72 ?o73
    case o71 => decide
    case o72 => omega
    case o73 => omega
  obtain rfl : x_290 = x_312 := ex_290.trans ex_312.symm
  refine va_sld hx hb hX hbl hbA hW.2.2.2.1 (vp_in_iff.mpr ⟨?o74, ?o75⟩) dL_law_597 ?_
  case o74 => omega
  case o75 => omega
  refine lv_topi (fun x_313 ex_313 => ?_)
  obtain rfl : x_291 = x_313 := ex_291.trans ex_313.symm
  refine lv_aload_n hx hb dL_law_598 rfl (lv_at hl 3 rfl) ?_
  refine lv_iload_n hx hb dL_law_599 rfl (lv_at hl 0 rfl) ?_
  refine lv_iconst (v := 5) hx hb dL_law_600 ?o76 ?_
  case o76 => decide
  refine lv_iadd hx hb dL_law_601 ?_
  refine lv_topi (fun x_314 ex_314 => ?_)
  have zx_314 : x_314.toInt = i.toInt + 5 := ?o77
  case o77 =>
    rw [ex_314]
    refine i32_add rfl ?o78 ?o79 ?o80
    case o78 => decide
    case o79 => omega
    case o80 => omega
  obtain rfl : x_292 = x_314 := ex_292.trans ex_314.symm
  refine va_sld hx hb hX hbl hbA hW.2.2.2.1 (vp_in_iff.mpr ⟨?o81, ?o82⟩) dL_law_602 ?_
  case o81 => omega
  case o82 => omega
  refine lv_topi (fun x_315 ex_315 => ?_)
  obtain rfl : x_293 = x_315 := ex_293.trans ex_315.symm
  have hTo := hT
  refine hx_goi (hx_runV (As := [.int x_285, .int x_287, .int x_289, .int x_291, .int x_293]) (rest := []) ⟨hx, hb, hml, hown, hts⟩ hW gm tt_10 (T := TX10) (N := 98) rfl (t_X10_line_3 l dC dI dA L_294 h_295 H.size am x_285 x_287 x_289 x_291 x_293 hT gm m_of g_m_of f_m_of m_wf g_m_wf f_m_wf m_df g_m_df f_m_df m_kf g_m_kf f_m_kf m_sf g_m_sf f_m_sf F_of n_m_of F_wf n_m_wf F_df n_m_df F_kf n_m_kf F_sf n_m_sf ln f_m_lines np f_m_persons nw f_m_now) (cwV 5 hts (hx_gV kw_1564 kw_1561 kw_1562 kw_1563 kw_103) rfl rfl rfl (by decide +kernel) ⟨Nat.le_of_ble_eq_true rfl, Nat.le_of_ble_eq_true rfl⟩) rfl hl.1 rfl (Nat.le_of_ble_eq_true rfl) dL_law_603 ⟨(show CC + 0 + 0 ≤ 600000 from ?o83), (show SS + 0 + 0 ≤ 7302250 from ?o84)⟩) hW (fun r_318 L_316 h_317 H locs p_319 hW => ?_)
  case o83 => omega
  case o84 => omega
  obtain ⟨⟨w_321, w_322, w_323, w_324, w_325, w_326, fw_321, fw_322, fw_323, fw_324, fw_325, fw_326, hr_320⟩, hT, hs⟩ := p_319
  replace hT : hx_T T_tb L_316 h_317 := hT
  replace hs : hx_S T_tb [(10, 29), (66, 0), (67, 0), (68, 0), (69, 0), (70, 0)] L_294 h_295 L_316 h_317 := hs
  replace f_qa := (hs.o gx trivial rfl).2.trans f_qa
  replace f_qp := (hs.o gx trivial rfl).2.trans f_qp
  replace f_qc := (hs.o gx trivial rfl).2.trans f_qc
  replace f_qh := (hs.o gx trivial rfl).2.trans f_qh
  replace f_qw := (hs.o gx trivial rfl).2.trans f_qw
  replace f_ql := (hs.o g_qw trivial rfl).2.trans f_ql
  replace f_m_now := (hs.o gm trivial rfl).1.trans f_m_now
  replace f_m_persons := (hs.o gm trivial rfl).1.trans f_m_persons
  replace f_m_claims := (hs.o gm trivial rfl).1.trans f_m_claims
  replace f_m_taped := (hs.o gm trivial rfl).1.trans f_m_taped
  replace f_m_acts := (hs.o gm trivial rfl).1.trans f_m_acts
  replace f_m_heardMany := (hs.o gm trivial rfl).1.trans f_m_heardMany
  replace f_m_listed := (hs.o gm trivial rfl).1.trans f_m_listed
  replace f_m_walkedMany := (hs.o gm trivial rfl).1.trans f_m_walkedMany
  replace f_m_payments := (hs.o gm trivial rfl).1.trans f_m_payments
  replace f_x_now := (hs.o gx trivial rfl).1.trans f_x_now
  replace f_x_personCount := (hs.o gx trivial rfl).1.trans f_x_personCount
  replace f_x_claimCount := (hs.o gx trivial rfl).1.trans f_x_claimCount
  replace f_x_tapeLength := (hs.o gx trivial rfl).1.trans f_x_tapeLength
  replace f_x_actCount := (hs.o gx trivial rfl).1.trans f_x_actCount
  replace f_x_heardCount := (hs.o gx trivial rfl).1.trans f_x_heardCount
  replace f_mw := (hs.o gm trivial rfl).2.trans f_mw
  replace f_mr := (hs.o gm trivial rfl).2.trans f_mr
  replace f_mp := (hs.o gm trivial rfl).2.trans f_mp
  replace f_mn := (hs.o gm trivial rfl).2.trans f_mn
  replace f_ml := (hs.o gm trivial rfl).2.trans f_ml
  replace f_mh := (hs.o gm trivial rfl).2.trans f_mh
  replace f_mt := (hs.o gm trivial rfl).2.trans f_mt
  replace f_m_fou := (hs.o gm trivial rfl).2.trans f_m_fou
  replace f_qo_ln := (hs.o gx trivial rfl).2.trans f_qo_ln
  replace f_o_lsd := (hs.o g_qw trivial rfl).1.trans f_o_lsd
  replace f_o_wkm := (hs.o g_qw trivial rfl).1.trans f_o_wkm
  replace f_qo_py := (hs.o gx trivial rfl).2.trans f_qo_py
  replace f_o_py := (hs.o g_qo_py trivial rfl).1.trans f_o_py
  replace f_b_of := (hs.o g_qo_ln trivial rfl).2.trans f_b_of
  replace f_m_of := (hs.o gm trivial rfl).2.trans f_m_of
  replace f_b_wf := (hs.o g_qo_ln trivial rfl).2.trans f_b_wf
  replace f_m_wf := (hs.o gm trivial rfl).2.trans f_m_wf
  replace f_b_df := (hs.o g_qo_ln trivial rfl).2.trans f_b_df
  replace f_m_df := (hs.o gm trivial rfl).2.trans f_m_df
  replace f_b_kf := (hs.o g_qo_ln trivial rfl).2.trans f_b_kf
  replace f_m_kf := (hs.o gm trivial rfl).2.trans f_m_kf
  replace f_b_sf := (hs.o g_qo_ln trivial rfl).2.trans f_b_sf
  replace f_m_sf := (hs.o gm trivial rfl).2.trans f_m_sf
  replace f_b_bf := (hs.o g_qo_ln trivial rfl).2.trans f_b_bf
  replace f_m_lst := (hs.o gm trivial rfl).2.trans f_m_lst
  replace f_qtp := (hs.o gx trivial rfl).2.trans f_qtp
  replace f_m_tp := (hs.o gm trivial rfl).2.trans f_m_tp
  replace f_m_dead := (hs.o gm trivial rfl).2.trans f_m_dead
  replace f_m_isj := (hs.o gm trivial rfl).2.trans f_m_isj
  replace f_m_dox := (hs.o gm trivial rfl).2.trans f_m_dox
  replace f_m_doy := (hs.o gm trivial rfl).2.trans f_m_doy
  replace f_qlt := (hs.o g_qw trivial rfl).2.trans f_qlt
  replace f_qlf := (hs.o g_qw trivial rfl).2.trans f_qlf
  replace f_m_wkd := (hs.o gm trivial rfl).2.trans f_m_wkd
  replace f_m_aga := (hs.o gm trivial rfl).2.trans f_m_aga
  replace f_qwo := (hs.o gx trivial rfl).2.trans f_qwo
  replace f_m_ad := (hs.o gm trivial rfl).2.trans f_m_ad
  replace f_m_by := (hs.o gm trivial rfl).2.trans f_m_by
  replace f_m_ho := (hs.o gm trivial rfl).2.trans f_m_ho
  replace f_m_fc := (hs.o gm trivial rfl).2.trans f_m_fc
  replace f_m_nt := (hs.o gm trivial rfl).2.trans f_m_nt
  replace f_m_wt := (hs.o gm trivial rfl).2.trans f_m_wt
  replace f_m_be := (hs.o gm trivial rfl).2.trans f_m_be
  replace f_m_bor := (hs.o gm trivial rfl).2.trans f_m_bor
  replace f_m_kin := (hs.o gm trivial rfl).2.trans f_m_kin
  replace f_m_sum := (hs.o gm trivial rfl).2.trans f_m_sum
  replace f_m_fro := (hs.o gm trivial rfl).2.trans f_m_fro
  replace f_m_fil := (hs.o gm trivial rfl).2.trans f_m_fil
  replace f_m_jud := (hs.o gm trivial rfl).2.trans f_m_jud
  replace f_m_ear := (hs.o gm trivial rfl).2.trans f_m_ear
  replace f_m_hds := (hs.o gm trivial rfl).2.trans f_m_hds
  replace f_m_ord := (hs.o gm trivial rfl).2.trans f_m_ord
  replace f_m_wkl := (hs.o gm trivial rfl).2.trans f_m_wkl
  replace f_m_owd := (hs.o gm trivial rfl).2.trans f_m_owd
  replace f_m_gds := (hs.o gm trivial rfl).2.trans f_m_gds
  replace f_m_szd := (hs.o gm trivial rfl).2.trans f_m_szd
  replace f_m_srv := (hs.o gm trivial rfl).2.trans f_m_srv
  replace f_y_p0 := (hs.o g_qo_py trivial rfl).2.trans f_y_p0
  replace f_m_p0 := (hs.o gm trivial rfl).2.trans f_m_p0
  replace f_y_p1 := (hs.o g_qo_py trivial rfl).2.trans f_y_p1
  replace f_m_p1 := (hs.o gm trivial rfl).2.trans f_m_p1
  replace f_y_p2 := (hs.o g_qo_py trivial rfl).2.trans f_y_p2
  replace f_m_p2 := (hs.o gm trivial rfl).2.trans f_m_p2
  replace f_y_p3 := (hs.o g_qo_py trivial rfl).2.trans f_y_p3
  replace f_m_p3 := (hs.o gm trivial rfl).2.trans f_m_p3
  replace f_y_p4 := (hs.o g_qo_py trivial rfl).2.trans f_y_p4
  replace f_m_p4 := (hs.o gm trivial rfl).2.trans f_m_p4
  replace f_qrg9 := (hs.o gx trivial rfl).2.trans f_qrg9
  replace f_y_ls := (hs.o g_qrg9 trivial rfl).2.trans f_y_ls
  replace f_m_rl := (hs.o gm trivial rfl).2.trans f_m_rl
  replace ffv_280 := (hs.o g_qrg9 trivial rfl).1.trans ffv_280
  replace ffv_281 := (hs.o gm trivial rfl).1.trans ffv_281
  replace ffv_282 := (hs.o gm trivial rfl).1.trans ffv_282
  replace fw_299 := (hs.o g_qo_ln trivial rfl).1.trans fw_299
  replace pf_qa : ∀ j : Nat, (j : Int) < (h_317.2.1 ax 6).toInt → h_317.2.2 qa j ≠ none := by
    intro j hj; rw [(hs.o gx trivial rfl).1] at hj; rw [(hs.a g_qa rfl j).2]; exact pf_qa j hj
  replace pf_qp : ∀ j : Nat, (j : Int) < (h_317.2.1 ax 8).toInt → h_317.2.2 qp j ≠ none := by
    intro j hj; rw [(hs.o gx trivial rfl).1] at hj; rw [(hs.a g_qp rfl j).2]; exact pf_qp j hj
  replace pf_qc : ∀ j : Nat, (j : Int) < (h_317.2.1 ax 11).toInt → h_317.2.2 qc j ≠ none := by
    intro j hj; rw [(hs.o gx trivial rfl).1] at hj; rw [(hs.a g_qc rfl j).2]; exact pf_qc j hj
  replace pf_qh : ∀ j : Nat, (j : Int) < (h_317.2.1 ax 13).toInt → h_317.2.2 qh j ≠ none := by
    intro j hj; rw [(hs.o gx trivial rfl).1] at hj; rw [(hs.a g_qh rfl j).2]; exact pf_qh j hj
  replace pf_ql : ∀ j : Nat, (j : Int) < (h_317.2.1 qw 0).toInt → h_317.2.2 ql j ≠ none := by
    intro j hj; rw [(hs.o g_qw trivial rfl).1] at hj; rw [(hs.a g_ql rfl j).2]; exact pf_ql j hj
  replace cl_lst : hx_col 8 h_317 ql 0 = c_lst := (hx_col_S hs hTo g_ql tt_40 tt_2 rfl rfl).trans cl_lst
  replace cl_dead : hx_col 40 h_317 qp 7 = c_dead := (hx_col_S hs hTo g_qp tt_44 tt_4 rfl rfl).trans cl_dead
  replace cl_isj : hx_col 40 h_317 qp 8 = c_isj := (hx_col_S hs hTo g_qp tt_44 tt_4 rfl rfl).trans cl_isj
  replace cl_dox : hx_col 40 h_317 qp 5 = c_dox := (hx_col_S hs hTo g_qp tt_44 tt_4 rfl rfl).trans cl_dox
  replace cl_doy : hx_col 40 h_317 qp 6 = c_doy := (hx_col_S hs hTo g_qp tt_44 tt_4 rfl rfl).trans cl_doy
  replace cl_fou : hx_col 100 h_317 qc 10 = c_fou := (hx_col_S hs hTo g_qc tt_45 tt_2 rfl rfl).trans cl_fou
  replace cl_tri : hx_col 100 h_317 qc 9 = c_tri := (hx_col_S hs hTo g_qc tt_45 tt_2 rfl rfl).trans cl_tri
  replace cl_bor : hx_col 40 h_317 qp 1 = F_bor := (hx_col_S hs hTo g_qp tt_44 tt_4 rfl rfl).trans cl_bor
  replace cl_kin : hx_col 40 h_317 qp 2 = F_kin := (hx_col_S hs hTo g_qp tt_44 tt_4 rfl rfl).trans cl_kin
  replace cl_sum : hx_col 100 h_317 qc 6 = F_sum := (hx_col_S hs hTo g_qc tt_45 tt_2 rfl rfl).trans cl_sum
  replace cl_fro : hx_col 100 h_317 qc 7 = F_fro := (hx_col_S hs hTo g_qc tt_45 tt_2 rfl rfl).trans cl_fro
  replace cl_fil : hx_col 100 h_317 qc 8 = F_fil := (hx_col_S hs hTo g_qc tt_45 tt_2 rfl rfl).trans cl_fil
  replace cl_hea : hx_col 100 h_317 qc 11 = F_mh := (hx_col_S hs hTo g_qc tt_45 tt_2 rfl rfl).trans cl_hea
  replace cl_jud : hx_col 100 h_317 qc 12 = F_jud := (hx_col_S hs hTo g_qc tt_45 tt_2 rfl rfl).trans cl_jud
  replace cl_ear : hx_col 40 h_317 qp 3 = F_ear := (hx_col_S hs hTo g_qp tt_44 tt_4 rfl rfl).trans cl_ear
  replace cl_hds : hx_col 40 h_317 qp 4 = F_hds := (hx_col_S hs hTo g_qp tt_44 tt_4 rfl rfl).trans cl_hds
  replace cl_ord : hx_col 100 h_317 qc 13 = F_ord := (hx_col_S hs hTo g_qc tt_45 tt_2 rfl rfl).trans cl_ord
  replace cl_wkl : hx_col 100 h_317 qc 14 = F_wkl := (hx_col_S hs hTo g_qc tt_45 tt_2 rfl rfl).trans cl_wkl
  replace cl_owd : hx_col 100 h_317 qc 15 = F_owd := (hx_col_S hs hTo g_qc tt_45 tt_2 rfl rfl).trans cl_owd
  replace cl_gds : hx_col 100 h_317 qc 17 = F_gds := (hx_col_S hs hTo g_qc tt_45 tt_2 rfl rfl).trans cl_gds
  replace cl_szd : hx_col 100 h_317 qc 16 = F_szd := (hx_col_S hs hTo g_qc tt_45 tt_2 rfl rfl).trans cl_szd
  replace cl_srv : hx_col 100 h_317 qc 18 = F_srv := (hx_col_S hs hTo g_qc tt_45 tt_2 rfl rfl).trans cl_srv
  replace nu_qp : hx_num 40 h_317 qp 0 (np.toInt) := hx_num_S hs hTo g_qp tt_44 tt_4 rfl rfl nu_qp
  replace nu_qc : hx_num 100 h_317 qc 0 (c0.toInt) := hx_num_S hs hTo g_qc tt_45 tt_2 rfl rfl nu_qc
  replace sb_list : hx_LQ 8 100 h_317 ql qc := hx_LQ_S hs g_ql g_qc rfl rfl sb_list
  replace hDF : hw_DF h_317 qc qp 2 F_aga c0.toInt := hw_DF_S hs hTo g_qc g_qp tt_45 tt_2 rfl rfl rfl hDF
  replace hRA9 : hv_RA h_317 qa qwo a0.toInt A9 := hv_RA_S hs hTo g_qa g_qwo tt_43 tt_0 rfl rfl rfl rfl rfl rfl ?o85 hRA9
  case o85 => omega
  replace hDP : hw_DF h_317 qc qp 1 F_by c0.toInt := hw_DF_S hs hTo g_qc g_qp tt_45 tt_2 rfl rfl rfl hDP
  replace hAC9 : hv_AC h_317 qc F_ml c0.toInt A9 := hv_AC_S hs hTo g_qc tt_45 tt_2 rfl tt_0 rfl rfl rfl rfl rfl rfl rfl hAC9
  replace hFX : hv_FX 8 4 h_317 qc cF9L c0.toInt := hv_FX_S hs hTo g_qc tt_45 tt_2 rfl rfl rfl rfl hFX
  replace hBX : hv_FX 3 5 h_317 qc F_be c0.toInt := hv_FX_S hs hTo g_qc tt_45 tt_2 rfl rfl rfl rfl hBX
  replace hHL : hv_HL h_317 qh qc F_ho m0.toInt c0.toInt := hv_HL_S hs g_qh g_qc rfl rfl hHL
  replace n_mw : h_317.2.1 mw = F_mw := (funext fun j => (hs.a g_mw rfl j).1).trans n_mw
  replace n_mr : h_317.2.1 mr = F_mr := (funext fun j => (hs.a g_mr rfl j).1).trans n_mr
  replace n_mp : h_317.2.1 mp = F_mp := (funext fun j => (hs.a g_mp rfl j).1).trans n_mp
  replace n_mn : h_317.2.1 mn = F_mn := (funext fun j => (hs.a g_mn rfl j).1).trans n_mn
  replace n_ml : h_317.2.1 ml = F_ml := (funext fun j => (hs.a g_ml rfl j).1).trans n_ml
  replace n_mh : h_317.2.1 mh = F_mh := (funext fun j => (hs.a g_mh rfl j).1).trans n_mh
  replace n_mt : h_317.2.1 mt = F_mt := (funext fun j => (hs.a g_mt rfl j).1).trans n_mt
  replace n_m_fou : h_317.2.1 m_fou = F_m_fou := (funext fun j => (hs.a g_m_fou rfl j).1).trans n_m_fou
  replace n_lst : h_317.2.1 m_lst = F_lst := (funext fun j => (hs.a g_m_lst rfl j).1).trans n_lst
  replace n_tp : h_317.2.1 m_tp = F_tp := (funext fun j => (hs.a g_m_tp rfl j).1).trans n_tp
  replace n_qtp : h_317.2.1 qtp = F_tp := (funext fun j => (hs.a g_qtp rfl j).1).trans n_qtp
  replace n_dead : h_317.2.1 m_dead = F_dead := (funext fun j => (hs.a g_m_dead rfl j).1).trans n_dead
  replace n_isj : h_317.2.1 m_isj = F_isj := (funext fun j => (hs.a g_m_isj rfl j).1).trans n_isj
  replace n_dox : h_317.2.1 m_dox = F_dox := (funext fun j => (hs.a g_m_dox rfl j).1).trans n_dox
  replace n_doy : h_317.2.1 m_doy = F_doy := (funext fun j => (hs.a g_m_doy rfl j).1).trans n_doy
  replace n_qlt : h_317.2.1 qlt = F_qlt := (funext fun j => (hs.a g_qlt rfl j).1).trans n_qlt
  replace n_m_wkd : h_317.2.1 m_wkd = F_m_wkd := (funext fun j => (hs.a g_m_wkd rfl j).1).trans n_m_wkd
  replace n_aga : h_317.2.1 m_aga = F_aga := (funext fun j => (hs.a g_m_aga rfl j).1).trans n_aga
  replace n_ad : h_317.2.1 m_ad = F_ad := (funext fun j => (hs.a g_m_ad rfl j).1).trans n_ad
  replace n_by : h_317.2.1 m_by = F_by := (funext fun j => (hs.a g_m_by rfl j).1).trans n_by
  replace n_ho : h_317.2.1 m_ho = F_ho := (funext fun j => (hs.a g_m_ho rfl j).1).trans n_ho
  replace n_fc : h_317.2.1 m_fc = F_fc := (funext fun j => (hs.a g_m_fc rfl j).1).trans n_fc
  replace n_nt : h_317.2.1 m_nt = F_nt := (funext fun j => (hs.a g_m_nt rfl j).1).trans n_nt
  replace n_wt : h_317.2.1 m_wt = F_wt := (funext fun j => (hs.a g_m_wt rfl j).1).trans n_wt
  replace n_be : h_317.2.1 m_be = F_be := (funext fun j => (hs.a g_m_be rfl j).1).trans n_be
  replace n_bor : h_317.2.1 m_bor = F_bor := (funext fun j => (hs.a g_m_bor rfl j).1).trans n_bor
  replace n_kin : h_317.2.1 m_kin = F_kin := (funext fun j => (hs.a g_m_kin rfl j).1).trans n_kin
  replace n_sum : h_317.2.1 m_sum = F_sum := (funext fun j => (hs.a g_m_sum rfl j).1).trans n_sum
  replace n_fro : h_317.2.1 m_fro = F_fro := (funext fun j => (hs.a g_m_fro rfl j).1).trans n_fro
  replace n_fil : h_317.2.1 m_fil = F_fil := (funext fun j => (hs.a g_m_fil rfl j).1).trans n_fil
  replace n_jud : h_317.2.1 m_jud = F_jud := (funext fun j => (hs.a g_m_jud rfl j).1).trans n_jud
  replace n_ear : h_317.2.1 m_ear = F_ear := (funext fun j => (hs.a g_m_ear rfl j).1).trans n_ear
  replace n_hds : h_317.2.1 m_hds = F_hds := (funext fun j => (hs.a g_m_hds rfl j).1).trans n_hds
  replace n_ord : h_317.2.1 m_ord = F_ord := (funext fun j => (hs.a g_m_ord rfl j).1).trans n_ord
  replace n_wkl : h_317.2.1 m_wkl = F_wkl := (funext fun j => (hs.a g_m_wkl rfl j).1).trans n_wkl
  replace n_owd : h_317.2.1 m_owd = F_owd := (funext fun j => (hs.a g_m_owd rfl j).1).trans n_owd
  replace n_gds : h_317.2.1 m_gds = F_gds := (funext fun j => (hs.a g_m_gds rfl j).1).trans n_gds
  replace n_szd : h_317.2.1 m_szd = F_szd := (funext fun j => (hs.a g_m_szd rfl j).1).trans n_szd
  replace n_srv : h_317.2.1 m_srv = F_srv := (funext fun j => (hs.a g_m_srv rfl j).1).trans n_srv
  replace n_p0 : h_317.2.1 m_p0 = F_p0 := (funext fun j => (hs.a g_m_p0 rfl j).1).trans n_p0
  replace n_y_p0 : h_317.2.1 y_p0 = F_p0 := (funext fun j => (hs.a g_y_p0 rfl j).1).trans n_y_p0
  replace n_p1 : h_317.2.1 m_p1 = F_p1 := (funext fun j => (hs.a g_m_p1 rfl j).1).trans n_p1
  replace n_y_p1 : h_317.2.1 y_p1 = F_p1 := (funext fun j => (hs.a g_y_p1 rfl j).1).trans n_y_p1
  replace n_p2 : h_317.2.1 m_p2 = F_p2 := (funext fun j => (hs.a g_m_p2 rfl j).1).trans n_p2
  replace n_y_p2 : h_317.2.1 y_p2 = F_p2 := (funext fun j => (hs.a g_y_p2 rfl j).1).trans n_y_p2
  replace n_p3 : h_317.2.1 m_p3 = F_p3 := (funext fun j => (hs.a g_m_p3 rfl j).1).trans n_p3
  replace n_y_p3 : h_317.2.1 y_p3 = F_p3 := (funext fun j => (hs.a g_y_p3 rfl j).1).trans n_y_p3
  replace n_p4 : h_317.2.1 m_p4 = F_p4 := (funext fun j => (hs.a g_m_p4 rfl j).1).trans n_p4
  replace n_y_p4 : h_317.2.1 y_p4 = F_p4 := (funext fun j => (hs.a g_y_p4 rfl j).1).trans n_y_p4
  replace n_y_ls : h_317.2.1 y_ls = F_y_ls := (funext fun j => (hs.a g_y_ls rfl j).1).trans n_y_ls
  replace n_m_rl : h_317.2.1 m_rl = F_m_rl := (funext fun j => (hs.a g_m_rl rfl j).1).trans n_m_rl
  replace fw_300 : h_317.2.1 b_of = w_300 := (funext fun j => (hs.a g_b_of rfl j).1).trans fw_300
  replace fw_301 : h_317.2.1 b_wf = w_301 := (funext fun j => (hs.a g_b_wf rfl j).1).trans fw_301
  replace fw_302 : h_317.2.1 b_df = w_302 := (funext fun j => (hs.a g_b_df rfl j).1).trans fw_302
  replace fw_303 : h_317.2.1 b_kf = w_303 := (funext fun j => (hs.a g_b_kf rfl j).1).trans fw_303
  replace fw_304 : h_317.2.1 b_sf = w_304 := (funext fun j => (hs.a g_b_sf rfl j).1).trans fw_304
  replace fw_305 : h_317.2.1 b_bf = w_305 := (funext fun j => (hs.a g_b_bf rfl j).1).trans fw_305
  replace gx := gx.S hs
  replace gm := gm.S hs
  replace g_qa := g_qa.S hs
  replace g_qp := g_qp.S hs
  replace g_qc := g_qc.S hs
  replace g_qh := g_qh.S hs
  replace g_qw := g_qw.S hs
  replace g_ql := g_ql.S hs
  replace g_mw := g_mw.S hs
  replace g_mr := g_mr.S hs
  replace g_mp := g_mp.S hs
  replace g_mn := g_mn.S hs
  replace g_ml := g_ml.S hs
  replace g_mh := g_mh.S hs
  replace g_mt := g_mt.S hs
  replace g_m_fou := g_m_fou.S hs
  replace g_qo_ln := g_qo_ln.S hs
  replace g_qo_py := g_qo_py.S hs
  replace g_b_of := g_b_of.S hs
  replace g_m_of := g_m_of.S hs
  replace g_b_wf := g_b_wf.S hs
  replace g_m_wf := g_m_wf.S hs
  replace g_b_df := g_b_df.S hs
  replace g_m_df := g_m_df.S hs
  replace g_b_kf := g_b_kf.S hs
  replace g_m_kf := g_m_kf.S hs
  replace g_b_sf := g_b_sf.S hs
  replace g_m_sf := g_m_sf.S hs
  replace g_b_bf := g_b_bf.S hs
  replace g_m_lst := g_m_lst.S hs
  replace g_qtp := g_qtp.S hs
  replace g_m_tp := g_m_tp.S hs
  replace g_m_dead := g_m_dead.S hs
  replace g_m_isj := g_m_isj.S hs
  replace g_m_dox := g_m_dox.S hs
  replace g_m_doy := g_m_doy.S hs
  replace g_qlt := g_qlt.S hs
  replace g_qlf := g_qlf.S hs
  replace g_m_wkd := g_m_wkd.S hs
  replace g_m_aga := g_m_aga.S hs
  replace g_qwo := g_qwo.S hs
  replace g_m_ad := g_m_ad.S hs
  replace g_m_by := g_m_by.S hs
  replace g_m_ho := g_m_ho.S hs
  replace g_m_fc := g_m_fc.S hs
  replace g_m_nt := g_m_nt.S hs
  replace g_m_wt := g_m_wt.S hs
  replace g_m_be := g_m_be.S hs
  replace g_m_bor := g_m_bor.S hs
  replace g_m_kin := g_m_kin.S hs
  replace g_m_sum := g_m_sum.S hs
  replace g_m_fro := g_m_fro.S hs
  replace g_m_fil := g_m_fil.S hs
  replace g_m_jud := g_m_jud.S hs
  replace g_m_ear := g_m_ear.S hs
  replace g_m_hds := g_m_hds.S hs
  replace g_m_ord := g_m_ord.S hs
  replace g_m_wkl := g_m_wkl.S hs
  replace g_m_owd := g_m_owd.S hs
  replace g_m_gds := g_m_gds.S hs
  replace g_m_szd := g_m_szd.S hs
  replace g_m_srv := g_m_srv.S hs
  replace g_y_p0 := g_y_p0.S hs
  replace g_m_p0 := g_m_p0.S hs
  replace g_y_p1 := g_y_p1.S hs
  replace g_m_p1 := g_m_p1.S hs
  replace g_y_p2 := g_y_p2.S hs
  replace g_m_p2 := g_m_p2.S hs
  replace g_y_p3 := g_y_p3.S hs
  replace g_m_p3 := g_m_p3.S hs
  replace g_y_p4 := g_y_p4.S hs
  replace g_m_p4 := g_m_p4.S hs
  replace g_qrg9 := g_qrg9.S hs
  replace g_y_ls := g_y_ls.S hs
  replace g_m_rl := g_m_rl.S hs
  have fw_321 : h_317.2.1 am 29 = w_321 := fw_321
  have bw_321 := hT.gi gm tt_10 (k := 29) rfl
  rw [fw_321] at bw_321
  have bw_321 : 0 ≤ w_321.toInt ∧ w_321.toInt ≤ 400 := bw_321
  have fw_322 : h_317.2.1 m_of = w_322 := fw_322
  have fw_323 : h_317.2.1 m_wf = w_323 := fw_323
  have fw_324 : h_317.2.1 m_df = w_324 := fw_324
  have fw_325 : h_317.2.1 m_kf = w_325 := fw_325
  have fw_326 : h_317.2.1 m_sf = w_326 := fw_326
  refine lv_pop hx hb dL_law_606 rfl ?_
  refine lv_goto (tgt := 1379) hx hb dL_law_607 ?o86 ?_
  case o86 => decide
  obtain ⟨heq, hq_ln⟩ := hx_lk hr_298.1 hr_320.1
  have hq_b_of := hx_lak heq (by rcases hr_298.1 with ⟨z, w, _⟩ | ⟨z, w, _⟩; exact Or.inl ⟨z, w⟩; exact Or.inr ⟨z, w⟩) hr_298.2.1 hr_320.2.1 eb_of
  have hq_b_wf := hx_lak heq (by rcases hr_298.1 with ⟨z, w, _⟩ | ⟨z, w, _⟩; exact Or.inl ⟨z, w⟩; exact Or.inr ⟨z, w⟩) hr_298.2.2.1 hr_320.2.2.1 eb_wf
  have hq_b_df := hx_lak heq (by rcases hr_298.1 with ⟨z, w, _⟩ | ⟨z, w, _⟩; exact Or.inl ⟨z, w⟩; exact Or.inr ⟨z, w⟩) hr_298.2.2.2.1 hr_320.2.2.2.1 eb_df
  have hq_b_kf := hx_lak heq (by rcases hr_298.1 with ⟨z, w, _⟩ | ⟨z, w, _⟩; exact Or.inl ⟨z, w⟩; exact Or.inr ⟨z, w⟩) hr_298.2.2.2.2.1 hr_320.2.2.2.2.1 eb_kf
  have hq_b_sf := hx_lak heq (by rcases hr_298.1 with ⟨z, w, _⟩ | ⟨z, w, _⟩; exact Or.inl ⟨z, w⟩; exact Or.inr ⟨z, w⟩) hr_298.2.2.2.2.2.1 hr_320.2.2.2.2.2 eb_sf
  have hq_DY := hy_DY_s hDY (by rcases hr_298.1 with ⟨z, w, _⟩ | ⟨z, w, y⟩; exact Or.inl ⟨z, w⟩; exact Or.inr ⟨z, w, by have := y.2.2.2.2.1; omega, by have := y.2.2.2.2.1; omega⟩) ?o87 hr_298.2.2.2.1
  case o87 => omega
  refine W.widen (k := CC + 3) (n := SS + 179) ?o88 ?o89 ?_
  case o88 => omega
  case o89 => omega
  refine kk L_316 h_317 H locs ls hW ⟨hT, gx, gm, ⟨f_x_now.trans f_m_now.symm, f_x_personCount.trans f_m_persons.symm, f_x_claimCount.trans f_m_claims.symm, f_x_tapeLength.trans f_m_taped.symm, f_x_actCount.trans f_m_acts.symm, f_x_heardCount.trans f_m_heardMany.symm, hx_ob f_qo_ln ((fw_299.trans hq_ln).trans fw_321.symm), hx_ob f_qw (f_o_lsd.trans f_m_listed.symm), hx_ob f_qw (f_o_wkm.trans f_m_walkedMany.symm), hx_ob f_qo_py (f_o_py.trans f_m_payments.symm), hx_ob f_qp ?o90, hx_ob f_qc ?o91, (fun b a r hb ha hr => ?o92), (fun b a r hb ha hr => ?o93), (fun b a r hb ha hr => ?o94), (fun b a r hb ha hr => ?o95), (fun b a r hb ha hr => ?o96), (fun b a r hb ha hr => ?o97), (fun w q c hw hq hc => ?o98), (fun w q r hw hq hr => ?o99), (fun w q r hw hq hr => ?o100), (fun c q a hc hq ha => ?o101), (fun q r hq hr => ?o102), (fun q w a b c d e p hq hw ha hb hc hd he hp => ?o103), (fun c q a hc hq ha => ?o104), (fun q c a hq hc ha => ?o105), (fun a b ha hb => ?o106), (fun c a b d e f hc ha hb hd he hf => ?o107), (fun c a hc ha => ?o108), hx_ob2 f_qp f_m_bor (cl_bor.trans n_bor.symm), hx_ob2 f_qp f_m_kin (cl_kin.trans n_kin.symm), hx_ob2 f_qc f_m_sum (cl_sum.trans n_sum.symm), hx_ob2 f_qc f_m_fro (cl_fro.trans n_fro.symm), hx_ob2 f_qc f_m_fil (cl_fil.trans n_fil.symm), hx_ob2 f_qc f_mh (cl_hea.trans n_mh.symm), hx_ob2 f_qc f_m_jud (cl_jud.trans n_jud.symm), hx_ob2 f_qp f_m_ear (cl_ear.trans n_ear.symm), hx_ob2 f_qp f_m_hds (cl_hds.trans n_hds.symm), hx_ob2 f_qc f_m_ord (cl_ord.trans n_ord.symm), hx_ob2 f_qc f_m_wkl (cl_wkl.trans n_wkl.symm), hx_ob2 f_qc f_m_owd (cl_owd.trans n_owd.symm), hx_ob2 f_qc f_m_gds (cl_gds.trans n_gds.symm), hx_ob2 f_qc f_m_szd (cl_szd.trans n_szd.symm), hx_ob2 f_qc f_m_srv (cl_srv.trans n_srv.symm), (fun p q r hp hq hr => ?o109), (fun p q r hp hq hr => ?o110), (fun p q r hp hq hr => ?o111), (fun p q r hp hq hr => ?o112), (fun p q r hp hq hr => ?o113), (fun p hp => ?o114), (fun p q r hp hq hr => ?o115), hx_ob2 f_qp f_m_dead ?o116, hx_ob2 f_qp f_m_isj ?o117, hx_ob2 f_qp f_m_dox ?o118, hx_ob2 f_qp f_m_doy ?o119, hx_ob2 f_qc f_m_fou ?o120, hx_ob2 f_qc f_mt ?o121, trivial⟩, ⟨hx_ob f_qa pf_qa, hx_ob f_qp pf_qp, hx_ob f_qc pf_qc, hx_ob f_qh pf_qh, (fun w q hw hq => ?o122)⟩, ⟨hx_ob f_mw ?o123, hx_ob f_mr ?o124, hx_ob2 f_mp f_mn ?o125, hx_ob f_ml ?o126, hx_ob f_mh ?o127, hx_ob f_mt ?o128, hx_ob2 f_mh f_m_fou ?o130⟩⟩ hl
  case o90 =>
    rw [f_x_personCount]
    exact nu_qp
  case o91 =>
    rw [f_x_claimCount]
    exact nu_qc
  case o92 =>
    obtain rfl : qo_ln = b := Option.some.inj (f_qo_ln.symm.trans hb)
    obtain rfl : b_of = a := Option.some.inj (f_b_of.symm.trans ha)
    obtain rfl : m_of = r := Option.some.inj (f_m_of.symm.trans hr)
    rw [fw_300, fw_322, fw_299]
    exact hq_b_of
  case o93 =>
    obtain rfl : qo_ln = b := Option.some.inj (f_qo_ln.symm.trans hb)
    obtain rfl : b_wf = a := Option.some.inj (f_b_wf.symm.trans ha)
    obtain rfl : m_wf = r := Option.some.inj (f_m_wf.symm.trans hr)
    rw [fw_301, fw_323, fw_299]
    exact hq_b_wf
  case o94 =>
    obtain rfl : qo_ln = b := Option.some.inj (f_qo_ln.symm.trans hb)
    obtain rfl : b_df = a := Option.some.inj (f_b_df.symm.trans ha)
    obtain rfl : m_df = r := Option.some.inj (f_m_df.symm.trans hr)
    rw [fw_302, fw_324, fw_299]
    exact hq_b_df
  case o95 =>
    obtain rfl : qo_ln = b := Option.some.inj (f_qo_ln.symm.trans hb)
    obtain rfl : b_kf = a := Option.some.inj (f_b_kf.symm.trans ha)
    obtain rfl : m_kf = r := Option.some.inj (f_m_kf.symm.trans hr)
    rw [fw_303, fw_325, fw_299]
    exact hq_b_kf
  case o96 =>
    obtain rfl : qo_ln = b := Option.some.inj (f_qo_ln.symm.trans hb)
    obtain rfl : b_sf = a := Option.some.inj (f_b_sf.symm.trans ha)
    obtain rfl : m_sf = r := Option.some.inj (f_m_sf.symm.trans hr)
    rw [fw_304, fw_326, fw_299]
    exact hq_b_sf
  case o97 =>
    obtain rfl : qo_ln = b := Option.some.inj (f_qo_ln.symm.trans hb)
    obtain rfl : b_df = a := Option.some.inj (f_b_df.symm.trans ha)
    obtain rfl : b_bf = r := Option.some.inj (f_b_bf.symm.trans hr)
    rw [fw_302, fw_305, fw_299]
    exact ⟨hr_298.2.2.2.2.2.2, hq_DY⟩
  case o98 =>
    obtain rfl : qw = w := Option.some.inj (f_qw.symm.trans hw)
    obtain rfl : ql = q := Option.some.inj (f_ql.symm.trans hq)
    obtain rfl : qc = c := Option.some.inj (f_qc.symm.trans hc)
    exact sb_list
  case o99 =>
    obtain rfl : qw = w := Option.some.inj (f_qw.symm.trans hw)
    obtain rfl : ql = q := Option.some.inj (f_ql.symm.trans hq)
    obtain rfl : m_lst = r := Option.some.inj (f_m_lst.symm.trans hr)
    rw [cl_lst, n_lst]
    exact eq_lst
  case o100 =>
    obtain rfl : qw = w := Option.some.inj (f_qw.symm.trans hw)
    obtain rfl : qlt = q := Option.some.inj (f_qlt.symm.trans hq)
    obtain rfl : m_wkd = r := Option.some.inj (f_m_wkd.symm.trans hr)
    rw [n_qlt, n_m_wkd, f_o_wkm]
    exact eb_wkd
  case o101 =>
    obtain rfl : qc = c := Option.some.inj (f_qc.symm.trans hc)
    obtain rfl : qp = q := Option.some.inj (f_qp.symm.trans hq)
    obtain rfl : m_aga = a := Option.some.inj (f_m_aga.symm.trans ha)
    rw [n_aga, f_x_claimCount]
    exact hw_DF_e hDF rfl rfl
  case o102 =>
    obtain rfl : qtp = q := Option.some.inj (f_qtp.symm.trans hq)
    obtain rfl : m_tp = r := Option.some.inj (f_m_tp.symm.trans hr)
    exact n_qtp.trans n_tp.symm
  case o103 =>
    obtain rfl : qa = q := Option.some.inj (f_qa.symm.trans hq)
    obtain rfl : qwo = w := Option.some.inj (f_qwo.symm.trans hw)
    obtain rfl : m_ad = a := Option.some.inj (f_m_ad.symm.trans ha)
    obtain rfl : mr = b := Option.some.inj (f_mr.symm.trans hb)
    obtain rfl : mn = c := Option.some.inj (f_mn.symm.trans hc)
    obtain rfl : mp = d := Option.some.inj (f_mp.symm.trans hd)
    obtain rfl : qc = e := Option.some.inj (f_qc.symm.trans he)
    obtain rfl : ml = p := Option.some.inj (f_ml.symm.trans hp)
    exact ⟨_, by rw [f_x_actCount]; exact hRA9, by rw [f_x_actCount, n_ad, n_mr, n_mn, n_mp]; exact hCA9, by rw [n_ml, f_x_claimCount]; exact hv_AC_e hAC9 rfl rfl rfl, hAB⟩
  case o104 =>
    obtain rfl : qc = c := Option.some.inj (f_qc.symm.trans hc)
    obtain rfl : qp = q := Option.some.inj (f_qp.symm.trans hq)
    obtain rfl : m_by = a := Option.some.inj (f_m_by.symm.trans ha)
    rw [n_by, f_x_claimCount]
    exact hw_DF_e hDP rfl rfl
  case o105 =>
    obtain rfl : qh = q := Option.some.inj (f_qh.symm.trans hq)
    obtain rfl : qc = c := Option.some.inj (f_qc.symm.trans hc)
    obtain rfl : m_ho = a := Option.some.inj (f_m_ho.symm.trans ha)
    rw [n_ho, f_x_heardCount, f_x_claimCount]
    exact hv_HL_e hHL rfl rfl rfl
  case o106 =>
    obtain rfl : m_ho = a := Option.some.inj (f_m_ho.symm.trans ha)
    obtain rfl : mh = b := Option.some.inj (f_mh.symm.trans hb)
    rw [n_ho, n_mh, f_m_heardMany, f_m_claims]
    exact hHO9
  case o107 =>
    obtain rfl : qc = c := Option.some.inj (f_qc.symm.trans hc)
    obtain rfl : m_fc = a := Option.some.inj (f_m_fc.symm.trans ha)
    obtain rfl : m_nt = b := Option.some.inj (f_m_nt.symm.trans hb)
    obtain rfl : m_wt = d := Option.some.inj (f_m_wt.symm.trans hd)
    obtain rfl : m_sum = e := Option.some.inj (f_m_sum.symm.trans he)
    obtain rfl : mh = f := Option.some.inj (f_mh.symm.trans hf)
    exact ⟨cF9L, by rw [f_x_claimCount]; exact hFX, by rw [n_fc, n_nt, n_wt, n_sum, n_mh, f_x_claimCount]; exact hFR9⟩
  case o108 =>
    obtain rfl : qc = c := Option.some.inj (f_qc.symm.trans hc)
    obtain rfl : m_be = a := Option.some.inj (f_m_be.symm.trans ha)
    rw [n_be, f_x_claimCount]
    exact hv_FX_e hBX rfl rfl
  case o109 =>
    obtain rfl : qo_py = p := Option.some.inj (f_qo_py.symm.trans hp)
    obtain rfl : y_p0 = q := Option.some.inj (f_y_p0.symm.trans hq)
    obtain rfl : m_p0 = r := Option.some.inj (f_m_p0.symm.trans hr)
    exact n_y_p0.trans n_p0.symm
  case o110 =>
    obtain rfl : qo_py = p := Option.some.inj (f_qo_py.symm.trans hp)
    obtain rfl : y_p1 = q := Option.some.inj (f_y_p1.symm.trans hq)
    obtain rfl : m_p1 = r := Option.some.inj (f_m_p1.symm.trans hr)
    exact n_y_p1.trans n_p1.symm
  case o111 =>
    obtain rfl : qo_py = p := Option.some.inj (f_qo_py.symm.trans hp)
    obtain rfl : y_p2 = q := Option.some.inj (f_y_p2.symm.trans hq)
    obtain rfl : m_p2 = r := Option.some.inj (f_m_p2.symm.trans hr)
    exact n_y_p2.trans n_p2.symm
  case o112 =>
    obtain rfl : qo_py = p := Option.some.inj (f_qo_py.symm.trans hp)
    obtain rfl : y_p3 = q := Option.some.inj (f_y_p3.symm.trans hq)
    obtain rfl : m_p3 = r := Option.some.inj (f_m_p3.symm.trans hr)
    exact n_y_p3.trans n_p3.symm
  case o113 =>
    obtain rfl : qo_py = p := Option.some.inj (f_qo_py.symm.trans hp)
    obtain rfl : y_p4 = q := Option.some.inj (f_y_p4.symm.trans hq)
    obtain rfl : m_p4 = r := Option.some.inj (f_m_p4.symm.trans hr)
    exact n_y_p4.trans n_p4.symm
  case o114 =>
    obtain rfl : qrg9 = p := Option.some.inj (f_qrg9.symm.trans hp)
    rw [ffv_280, ffv_281, ffv_282]
    exact hNQ9
  case o115 =>
    obtain rfl : qrg9 = p := Option.some.inj (f_qrg9.symm.trans hp)
    obtain rfl : y_ls = q := Option.some.inj (f_y_ls.symm.trans hq)
    obtain rfl : m_rl = r := Option.some.inj (f_m_rl.symm.trans hr)
    rw [n_y_ls, n_m_rl, ffv_280]
    exact hRL9
  case o116 =>
    rw [cl_dead, n_dead]
    exact eq_dead
  case o117 =>
    rw [cl_isj, n_isj]
    exact eq_isj
  case o118 =>
    rw [cl_dox, n_dox]
    exact eq_dox
  case o119 =>
    rw [cl_doy, n_doy]
    exact eq_doy
  case o120 =>
    rw [cl_fou, n_m_fou]
    exact eq_fou
  case o121 =>
    rw [cl_tri, n_mt]
    exact eq_tri
  case o122 =>
    obtain rfl : qw = w := Option.some.inj (f_qw.symm.trans hw)
    obtain rfl : ql = q := Option.some.inj (f_ql.symm.trans hq)
    exact pf_ql
  case o123 =>
    rw [n_mw]
    exact hwd
  case o124 =>
    rw [n_mr, f_m_acts]
    exact hWK
  case o125 =>
    rw [n_mp, n_mn, f_m_acts]
    exact hRP
  case o126 =>
    rw [n_ml, f_m_claims, f_m_acts]
    exact hPL
  case o127 =>
    rw [n_mh, f_m_heardMany, f_m_claims]
    exact hHC
  case o128 =>
    rw [n_mt]
    refine (hx_TR_le hTR ?o129)
    case o129 => omega
  case o130 =>
    rw [n_mh, n_m_fou, f_m_claims]
    exact hHF

set_option maxHeartbeats 4000000 in
set_option maxRecDepth 100000 in
theorem law_case_10 {p : Program} {e : Env} {s : State} {m : MethodId} {below : List Frame} {meth : Method} {c : Code} (l : Launch) {b LN : Nat} {xs : Nat → Int32} (hx : p.tables.exec = Jvm.exec) (hb : c.code = code) (hr : meth.sig.returnType = ret) (hlocks : meth.locks = false) (hml : c.maxLocals = 4) (hown : s.vm.findClass "SmallCourtLaw" = some m.cls) (hts : ∀ w ∈ hx_all, w.before #[Value.ref b] s = true) (hX : va_X b LN xs s s.heap) (hbl : b < s.heap.size) (hbA : ¬ s.heap.size ≤ b) (hLN : LN ≤ 3584) (dC : Nat → ClassId) (dI : Nat → Nat → Nat) (dA : Nat → ClassId) (b0 : hx_z) (ax am : Nat) (T1 : Int) (hT0 : 0 ≤ T1) (hT1 : T1 ≤ 511) (i : Int32) (hi0 : 0 ≤ i.toInt) (hiL : i.toInt + 7 ≤ LN) (CC SS : Nat) (hCC : CC + 3 ≤ 600000) (hSS : SS + 179 ≤ 7302250) (L1 : List Nat) (hl1 : hx_h) (H : Heap) (locs : List Loc) (ls : Array Slot) (hW : hx_W T_tb (P_ty dA) (dC, dI) vwCl (fun q : Nat => s.heap.size ≤ q) s.heap L1 hl1 s H locs) (hZ : hx_Xt (fun q : Nat => s.heap.size ≤ q) b0 s) (hI : hx_IV T1 ax am L1 hl1) (hl : lv_has ls 4 [(3, .int i), (2, .ref am), (1, .ref ax), (0, .ref b)]) (kk : ∀ (L2 : List Nat) (h2 : hx_h) (H2 : Heap) (locs2 : List Loc) (ls2 : Array Slot), hx_W T_tb (P_ty dA) (dC, dI) vwCl (fun q : Nat => s.heap.size ≤ q) s.heap L2 h2 s H2 locs2 → hx_IV (T1 + 1) ax am L2 h2 → lv_has ls2 4 [(3, .int i), (2, .ref am), (1, .ref ax), (0, .ref b)] → W p l e room_1 s m #[Value.ref b] below meth c H2 locs2 (CC + 3) (SS + 179) (lw_Z below #[Value.ref b] s) (F0 m 1379 ls2 [])) : W p l e room_1 s m #[Value.ref b] below meth c H locs CC SS (lw_Z below #[Value.ref b] s) (F0 m 610 ls []) := by
  have hI9 := hI
  have hT := hI9.1
  replace hI9 := hI9.2
  have gx := hI9.1
  replace hI9 := hI9.2
  have gm := hI9.1
  replace hI9 := hI9.2
  have zq0_3 := hI9.1
  have he_nw := zq0_3.1
  replace zq0_3 := zq0_3.2
  have he_np := zq0_3.1
  replace zq0_3 := zq0_3.2
  have he_c0 := zq0_3.1
  replace zq0_3 := zq0_3.2
  have he_tl := zq0_3.1
  replace zq0_3 := zq0_3.2
  have he_a0 := zq0_3.1
  replace zq0_3 := zq0_3.2
  have he_m0 := zq0_3.1
  replace zq0_3 := zq0_3.2
  have ho_ln := zq0_3.1
  replace zq0_3 := zq0_3.2
  have ho_lsd := zq0_3.1
  replace zq0_3 := zq0_3.2
  have ho_wkm := zq0_3.1
  replace zq0_3 := zq0_3.2
  have ho_py := zq0_3.1
  replace zq0_3 := zq0_3.2
  have hn_qp := zq0_3.1
  replace zq0_3 := zq0_3.2
  have hn_qc := zq0_3.1
  replace zq0_3 := zq0_3.2
  have hk_of := zq0_3.1
  replace zq0_3 := zq0_3.2
  have hk_wf := zq0_3.1
  replace zq0_3 := zq0_3.2
  have hk_df := zq0_3.1
  replace zq0_3 := zq0_3.2
  have hk_kf := zq0_3.1
  replace zq0_3 := zq0_3.2
  have hk_sf := zq0_3.1
  replace zq0_3 := zq0_3.2
  have hkBD := zq0_3.1
  replace zq0_3 := zq0_3.2
  have hLQ := zq0_3.1
  replace zq0_3 := zq0_3.2
  have hLE := zq0_3.1
  replace zq0_3 := zq0_3.2
  have hkWD := zq0_3.1
  replace zq0_3 := zq0_3.2
  have hkDF := zq0_3.1
  replace zq0_3 := zq0_3.2
  have hkTP := zq0_3.1
  replace zq0_3 := zq0_3.2
  have hkAC := zq0_3.1
  replace zq0_3 := zq0_3.2
  have hkDP := zq0_3.1
  replace zq0_3 := zq0_3.2
  have hkHL := zq0_3.1
  replace zq0_3 := zq0_3.2
  have hkHO := zq0_3.1
  replace zq0_3 := zq0_3.2
  have hkFX := zq0_3.1
  replace zq0_3 := zq0_3.2
  have hkBX := zq0_3.1
  replace zq0_3 := zq0_3.2
  have hf_bor := zq0_3.1
  replace zq0_3 := zq0_3.2
  have hf_kin := zq0_3.1
  replace zq0_3 := zq0_3.2
  have hf_sum := zq0_3.1
  replace zq0_3 := zq0_3.2
  have hf_fro := zq0_3.1
  replace zq0_3 := zq0_3.2
  have hf_fil := zq0_3.1
  replace zq0_3 := zq0_3.2
  have hf_hea := zq0_3.1
  replace zq0_3 := zq0_3.2
  have hf_jud := zq0_3.1
  replace zq0_3 := zq0_3.2
  have hf_ear := zq0_3.1
  replace zq0_3 := zq0_3.2
  have hf_hds := zq0_3.1
  replace zq0_3 := zq0_3.2
  have hf_ord := zq0_3.1
  replace zq0_3 := zq0_3.2
  have hf_wkl := zq0_3.1
  replace zq0_3 := zq0_3.2
  have hf_owd := zq0_3.1
  replace zq0_3 := zq0_3.2
  have hf_gds := zq0_3.1
  replace zq0_3 := zq0_3.2
  have hf_szd := zq0_3.1
  replace zq0_3 := zq0_3.2
  have hf_srv := zq0_3.1
  replace zq0_3 := zq0_3.2
  have hkP0 := zq0_3.1
  replace zq0_3 := zq0_3.2
  have hkP1 := zq0_3.1
  replace zq0_3 := zq0_3.2
  have hkP2 := zq0_3.1
  replace zq0_3 := zq0_3.2
  have hkP3 := zq0_3.1
  replace zq0_3 := zq0_3.2
  have hkP4 := zq0_3.1
  replace zq0_3 := zq0_3.2
  have hkNQ := zq0_3.1
  replace zq0_3 := zq0_3.2
  have hkRL := zq0_3.1
  replace zq0_3 := zq0_3.2
  have hc_dead := zq0_3.1
  replace zq0_3 := zq0_3.2
  have hc_isj := zq0_3.1
  replace zq0_3 := zq0_3.2
  have hc_dox := zq0_3.1
  replace zq0_3 := zq0_3.2
  have hc_doy := zq0_3.1
  replace zq0_3 := zq0_3.2
  have hc_fou := zq0_3.1
  replace zq0_3 := zq0_3.2
  have hc_tri := zq0_3.1
  replace zq0_3 := zq0_3.2
  replace hI9 := hI9.2
  have zq0_4 := hI9.1
  have ia := zq0_4.1
  replace zq0_4 := zq0_4.2
  have ip := zq0_4.1
  replace zq0_4 := zq0_4.2
  have ic := zq0_4.1
  replace zq0_4 := zq0_4.2
  have ih := zq0_4.1
  replace zq0_4 := zq0_4.2
  have il := zq0_4
  replace hI9 := hI9.2
  have zq0_5 := hI9
  have jw := zq0_5.1
  replace zq0_5 := zq0_5.2
  have jr := zq0_5.1
  replace zq0_5 := zq0_5.2
  have jp := zq0_5.1
  replace zq0_5 := zq0_5.2
  have jl := zq0_5.1
  replace zq0_5 := zq0_5.2
  have jh := zq0_5.1
  replace zq0_5 := zq0_5.2
  have jt := zq0_5.1
  replace zq0_5 := zq0_5.2
  have jf := zq0_5
  obtain ⟨qa, f_qa, g_qa⟩ := hx_rf hT gx tt_9 (k := 5) (u := 43) rfl
  have pf_qa := ia qa f_qa
  obtain ⟨qp, f_qp, g_qp⟩ := hx_rf hT gx tt_9 (k := 7) (u := 44) rfl
  have pf_qp := ip qp f_qp
  obtain ⟨qc, f_qc, g_qc⟩ := hx_rf hT gx tt_9 (k := 10) (u := 45) rfl
  have pf_qc := ic qc f_qc
  obtain ⟨qh, f_qh, g_qh⟩ := hx_rf hT gx tt_9 (k := 12) (u := 46) rfl
  have pf_qh := ih qh f_qh
  obtain ⟨qw, f_qw, g_qw⟩ := hx_rf hT gx tt_9 (k := 19) (u := 8) rfl
  obtain ⟨ql, f_ql, g_ql⟩ := hx_rf hT g_qw tt_8 (k := 3) (u := 40) rfl
  have pf_ql := il qw ql f_qw f_ql
  obtain ⟨nw, f_m_now⟩ : ∃ y : Int32, hl1.2.1 am 0 = y := ⟨_, rfl⟩
  have b_nw := hT.gi gm tt_10 (k := 0) rfl
  rw [f_m_now] at b_nw
  have b_nw : 0 ≤ nw.toInt ∧ nw.toInt ≤ 7999 := b_nw
  obtain ⟨np, f_m_persons⟩ : ∃ y : Int32, hl1.2.1 am 20 = y := ⟨_, rfl⟩
  have b_np := hT.gi gm tt_10 (k := 20) rfl
  rw [f_m_persons] at b_np
  have b_np : 0 ≤ np.toInt ∧ np.toInt ≤ 40 := b_np
  obtain ⟨c0, f_m_claims⟩ : ∃ y : Int32, hl1.2.1 am 36 = y := ⟨_, rfl⟩
  have b_c0 := hT.gi gm tt_10 (k := 36) rfl
  rw [f_m_claims] at b_c0
  have b_c0 : 0 ≤ c0.toInt ∧ c0.toInt ≤ 100 := b_c0
  obtain ⟨tl, f_m_taped⟩ : ∃ y : Int32, hl1.2.1 am 7 = y := ⟨_, rfl⟩
  have b_tl := hT.gi gm tt_10 (k := 7) rfl
  rw [f_m_taped] at b_tl
  have b_tl : 0 ≤ tl.toInt ∧ tl.toInt ≤ 400 := b_tl
  obtain ⟨a0, f_m_acts⟩ : ∃ y : Int32, hl1.2.1 am 1 = y := ⟨_, rfl⟩
  have b_a0 := hT.gi gm tt_10 (k := 1) rfl
  rw [f_m_acts] at b_a0
  have b_a0 : 0 ≤ a0.toInt ∧ a0.toInt ≤ 8 := b_a0
  obtain ⟨m0, f_m_heardMany⟩ : ∃ y : Int32, hl1.2.1 am 57 = y := ⟨_, rfl⟩
  have b_m0 := hT.gi gm tt_10 (k := 57) rfl
  rw [f_m_heardMany] at b_m0
  have b_m0 : 0 ≤ m0.toInt ∧ m0.toInt ≤ 100 := b_m0
  obtain ⟨ln, f_m_lines⟩ : ∃ y : Int32, hl1.2.1 am 29 = y := ⟨_, rfl⟩
  have b_ln := hT.gi gm tt_10 (k := 29) rfl
  rw [f_m_lines] at b_ln
  have b_ln : 0 ≤ ln.toInt ∧ ln.toInt ≤ 400 := b_ln
  obtain ⟨lsd, f_m_listed⟩ : ∃ y : Int32, hl1.2.1 am 90 = y := ⟨_, rfl⟩
  have b_lsd := hT.gi gm tt_10 (k := 90) rfl
  rw [f_m_listed] at b_lsd
  have b_lsd : 0 ≤ lsd.toInt ∧ lsd.toInt ≤ 8 := b_lsd
  obtain ⟨wkm, f_m_walkedMany⟩ : ∃ y : Int32, hl1.2.1 am 92 = y := ⟨_, rfl⟩
  have b_wkm := hT.gi gm tt_10 (k := 92) rfl
  rw [f_m_walkedMany] at b_wkm
  have b_wkm : 0 ≤ wkm.toInt ∧ wkm.toInt ≤ 8 := b_wkm
  obtain ⟨py, f_m_payments⟩ : ∃ y : Int32, hl1.2.1 am 59 = y := ⟨_, rfl⟩
  have b_py := hT.gi gm tt_10 (k := 59) rfl
  rw [f_m_payments] at b_py
  have b_py : 0 ≤ py.toInt ∧ py.toInt ≤ 600 := b_py
  have f_x_now : hl1.2.1 ax 2 = nw := he_nw.trans f_m_now
  have f_x_personCount : hl1.2.1 ax 8 = np := he_np.trans f_m_persons
  have f_x_claimCount : hl1.2.1 ax 11 = c0 := he_c0.trans f_m_claims
  have f_x_tapeLength : hl1.2.1 ax 1 = tl := he_tl.trans f_m_taped
  have f_x_actCount : hl1.2.1 ax 6 = a0 := he_a0.trans f_m_acts
  have f_x_heardCount : hl1.2.1 ax 13 = m0 := he_m0.trans f_m_heardMany
  obtain ⟨mw, f_mw, g_mw⟩ := hx_rf hT gm tt_10 (k := 19) (u := 57) rfl
  obtain ⟨F_mw, n_mw⟩ : ∃ g : Nat → Int32, hl1.2.1 mw = g := ⟨_, rfl⟩
  obtain ⟨mr, f_mr, g_mr⟩ := hx_rf hT gm tt_10 (k := 3) (u := 50) rfl
  obtain ⟨F_mr, n_mr⟩ : ∃ g : Nat → Int32, hl1.2.1 mr = g := ⟨_, rfl⟩
  obtain ⟨mp, f_mp, g_mp⟩ := hx_rf hT gm tt_10 (k := 5) (u := 52) rfl
  obtain ⟨F_mp, n_mp⟩ : ∃ g : Nat → Int32, hl1.2.1 mp = g := ⟨_, rfl⟩
  obtain ⟨mn, f_mn, g_mn⟩ := hx_rf hT gm tt_10 (k := 4) (u := 51) rfl
  obtain ⟨F_mn, n_mn⟩ : ∃ g : Nat → Int32, hl1.2.1 mn = g := ⟨_, rfl⟩
  obtain ⟨ml, f_ml, g_ml⟩ := hx_rf hT gm tt_10 (k := 44) (u := 79) rfl
  obtain ⟨F_ml, n_ml⟩ : ∃ g : Nat → Int32, hl1.2.1 ml = g := ⟨_, rfl⟩
  obtain ⟨mh, f_mh, g_mh⟩ := hx_rf hT gm tt_10 (k := 47) (u := 82) rfl
  obtain ⟨F_mh, n_mh⟩ : ∃ g : Nat → Int32, hl1.2.1 mh = g := ⟨_, rfl⟩
  obtain ⟨mt, f_mt, g_mt⟩ := hx_rf hT gm tt_10 (k := 45) (u := 80) rfl
  obtain ⟨F_mt, n_mt⟩ : ∃ g : Nat → Int32, hl1.2.1 mt = g := ⟨_, rfl⟩
  obtain ⟨m_fou, f_m_fou, g_m_fou⟩ := hx_rf hT gm tt_10 (k := 46) (u := 81) rfl
  obtain ⟨F_m_fou, n_m_fou⟩ : ∃ g : Nat → Int32, hl1.2.1 m_fou = g := ⟨_, rfl⟩
  obtain ⟨qo_ln, f_qo_ln, g_qo_ln⟩ := hx_rf hT gx tt_9 (k := 9) (u := 1) rfl
  have f_o_ln : hl1.2.1 qo_ln 0 = ln := (ho_ln qo_ln f_qo_ln).trans f_m_lines
  have f_o_lsd : hl1.2.1 qw 0 = lsd := (ho_lsd qw f_qw).trans f_m_listed
  have f_o_wkm : hl1.2.1 qw 1 = wkm := (ho_wkm qw f_qw).trans f_m_walkedMany
  obtain ⟨qo_py, f_qo_py, g_qo_py⟩ := hx_rf hT gx tt_9 (k := 14) (u := 3) rfl
  have f_o_py : hl1.2.1 qo_py 0 = py := (ho_py qo_py f_qo_py).trans f_m_payments
  have nu_qp := hn_qp qp f_qp; rw [f_x_personCount] at nu_qp
  have nu_qc := hn_qc qc f_qc; rw [f_x_claimCount] at nu_qc
  obtain ⟨b_of, f_b_of, g_b_of⟩ := hx_rf hT g_qo_ln tt_1 (k := 1) (u := 13) rfl
  obtain ⟨B_of, n_b_of⟩ : ∃ g : Nat → Int32, hl1.2.1 b_of = g := ⟨_, rfl⟩
  obtain ⟨m_of, f_m_of, g_m_of⟩ := hx_rf hT gm tt_10 (k := 30) (u := 66) rfl
  obtain ⟨F_of, n_m_of⟩ : ∃ g : Nat → Int32, hl1.2.1 m_of = g := ⟨_, rfl⟩
  have eb_of := hk_of qo_ln b_of m_of f_qo_ln f_b_of f_m_of; rw [n_b_of, n_m_of, f_o_ln] at eb_of
  obtain ⟨b_wf, f_b_wf, g_b_wf⟩ := hx_rf hT g_qo_ln tt_1 (k := 2) (u := 14) rfl
  obtain ⟨B_wf, n_b_wf⟩ : ∃ g : Nat → Int32, hl1.2.1 b_wf = g := ⟨_, rfl⟩
  obtain ⟨m_wf, f_m_wf, g_m_wf⟩ := hx_rf hT gm tt_10 (k := 31) (u := 67) rfl
  obtain ⟨F_wf, n_m_wf⟩ : ∃ g : Nat → Int32, hl1.2.1 m_wf = g := ⟨_, rfl⟩
  have eb_wf := hk_wf qo_ln b_wf m_wf f_qo_ln f_b_wf f_m_wf; rw [n_b_wf, n_m_wf, f_o_ln] at eb_wf
  obtain ⟨b_df, f_b_df, g_b_df⟩ := hx_rf hT g_qo_ln tt_1 (k := 3) (u := 15) rfl
  obtain ⟨B_df, n_b_df⟩ : ∃ g : Nat → Int32, hl1.2.1 b_df = g := ⟨_, rfl⟩
  obtain ⟨m_df, f_m_df, g_m_df⟩ := hx_rf hT gm tt_10 (k := 32) (u := 68) rfl
  obtain ⟨F_df, n_m_df⟩ : ∃ g : Nat → Int32, hl1.2.1 m_df = g := ⟨_, rfl⟩
  have eb_df := hk_df qo_ln b_df m_df f_qo_ln f_b_df f_m_df; rw [n_b_df, n_m_df, f_o_ln] at eb_df
  obtain ⟨b_kf, f_b_kf, g_b_kf⟩ := hx_rf hT g_qo_ln tt_1 (k := 4) (u := 16) rfl
  obtain ⟨B_kf, n_b_kf⟩ : ∃ g : Nat → Int32, hl1.2.1 b_kf = g := ⟨_, rfl⟩
  obtain ⟨m_kf, f_m_kf, g_m_kf⟩ := hx_rf hT gm tt_10 (k := 33) (u := 69) rfl
  obtain ⟨F_kf, n_m_kf⟩ : ∃ g : Nat → Int32, hl1.2.1 m_kf = g := ⟨_, rfl⟩
  have eb_kf := hk_kf qo_ln b_kf m_kf f_qo_ln f_b_kf f_m_kf; rw [n_b_kf, n_m_kf, f_o_ln] at eb_kf
  obtain ⟨b_sf, f_b_sf, g_b_sf⟩ := hx_rf hT g_qo_ln tt_1 (k := 5) (u := 17) rfl
  obtain ⟨B_sf, n_b_sf⟩ : ∃ g : Nat → Int32, hl1.2.1 b_sf = g := ⟨_, rfl⟩
  obtain ⟨m_sf, f_m_sf, g_m_sf⟩ := hx_rf hT gm tt_10 (k := 34) (u := 70) rfl
  obtain ⟨F_sf, n_m_sf⟩ : ∃ g : Nat → Int32, hl1.2.1 m_sf = g := ⟨_, rfl⟩
  have eb_sf := hk_sf qo_ln b_sf m_sf f_qo_ln f_b_sf f_m_sf; rw [n_b_sf, n_m_sf, f_o_ln] at eb_sf
  obtain ⟨b_bf, f_b_bf, g_b_bf⟩ := hx_rf hT g_qo_ln tt_1 (k := 6) (u := 18) rfl
  obtain ⟨bfL, n_b_bf⟩ : ∃ g : Nat → Int32, hl1.2.1 b_bf = g := ⟨_, rfl⟩
  obtain ⟨hBD, hDY⟩ := hkBD qo_ln b_df b_bf f_qo_ln f_b_df f_b_bf; rw [n_b_df, n_b_bf, f_o_ln] at hBD; rw [n_b_df, f_o_ln] at hDY
  have hBDm := hy_BD_c eb_df hBD
  have hDYm : hy_DY F_df ln.toInt.toNat := fun x hx => by rw [← eb_df x hx]; exact hDY x hx
  have sb_list := hLQ qw ql qc f_qw f_ql f_qc
  obtain ⟨m_lst, f_m_lst, g_m_lst⟩ := hx_rf hT gm tt_10 (k := 91) (u := 112) rfl
  obtain ⟨F_lst, n_lst⟩ : ∃ g : Nat → Int32, hl1.2.1 m_lst = g := ⟨_, rfl⟩
  obtain ⟨c_lst, cl_lst⟩ : ∃ g : Nat → Int32, hx_col 8 hl1 ql 0 = g := ⟨_, rfl⟩
  have eq_lst := hLE qw ql m_lst f_qw f_ql f_m_lst; rw [cl_lst, n_lst] at eq_lst
  obtain ⟨qtp, f_qtp, g_qtp⟩ := hx_rf hT gx tt_9 (k := 0) (u := 42) rfl
  obtain ⟨m_tp, f_m_tp, g_m_tp⟩ := hx_rf hT gm tt_10 (k := 6) (u := 53) rfl
  obtain ⟨F_tp, n_tp⟩ : ∃ g : Nat → Int32, hl1.2.1 m_tp = g := ⟨_, rfl⟩
  have n_qtp : hl1.2.1 qtp = F_tp := (hkTP qtp m_tp f_qtp f_m_tp).trans n_tp
  obtain ⟨c_dead, cl_dead⟩ : ∃ g : Nat → Int32, hx_col 40 hl1 qp 7 = g := ⟨_, rfl⟩
  obtain ⟨m_dead, f_m_dead, g_m_dead⟩ := hx_rf hT gm tt_10 (k := 27) (u := 64) rfl
  obtain ⟨F_dead, n_dead⟩ : ∃ g : Nat → Int32, hl1.2.1 m_dead = g := ⟨_, rfl⟩
  have eq_dead := hc_dead qp m_dead f_qp f_m_dead; rw [cl_dead, n_dead] at eq_dead
  have z_dead : np.toInt.toNat < 40 → c_dead np.toInt.toNat = 0 := fun hj => hx_num_z nu_qp cl_dead hj ?o0
  case o0 => omega
  obtain ⟨c_isj, cl_isj⟩ : ∃ g : Nat → Int32, hx_col 40 hl1 qp 8 = g := ⟨_, rfl⟩
  obtain ⟨m_isj, f_m_isj, g_m_isj⟩ := hx_rf hT gm tt_10 (k := 28) (u := 65) rfl
  obtain ⟨F_isj, n_isj⟩ : ∃ g : Nat → Int32, hl1.2.1 m_isj = g := ⟨_, rfl⟩
  have eq_isj := hc_isj qp m_isj f_qp f_m_isj; rw [cl_isj, n_isj] at eq_isj
  have z_isj : np.toInt.toNat < 40 → c_isj np.toInt.toNat = 0 := fun hj => hx_num_z nu_qp cl_isj hj ?o1
  case o1 => omega
  obtain ⟨c_dox, cl_dox⟩ : ∃ g : Nat → Int32, hx_col 40 hl1 qp 5 = g := ⟨_, rfl⟩
  obtain ⟨m_dox, f_m_dox, g_m_dox⟩ := hx_rf hT gm tt_10 (k := 24) (u := 61) rfl
  obtain ⟨F_dox, n_dox⟩ : ∃ g : Nat → Int32, hl1.2.1 m_dox = g := ⟨_, rfl⟩
  have eq_dox := hc_dox qp m_dox f_qp f_m_dox; rw [cl_dox, n_dox] at eq_dox
  have z_dox : np.toInt.toNat < 40 → c_dox np.toInt.toNat = 0 := fun hj => hx_num_z nu_qp cl_dox hj ?o2
  case o2 => omega
  obtain ⟨c_doy, cl_doy⟩ : ∃ g : Nat → Int32, hx_col 40 hl1 qp 6 = g := ⟨_, rfl⟩
  obtain ⟨m_doy, f_m_doy, g_m_doy⟩ := hx_rf hT gm tt_10 (k := 25) (u := 62) rfl
  obtain ⟨F_doy, n_doy⟩ : ∃ g : Nat → Int32, hl1.2.1 m_doy = g := ⟨_, rfl⟩
  have eq_doy := hc_doy qp m_doy f_qp f_m_doy; rw [cl_doy, n_doy] at eq_doy
  have z_doy : np.toInt.toNat < 40 → c_doy np.toInt.toNat = 0 := fun hj => hx_num_z nu_qp cl_doy hj ?o3
  case o3 => omega
  obtain ⟨c_fou, cl_fou⟩ : ∃ g : Nat → Int32, hx_col 100 hl1 qc 10 = g := ⟨_, rfl⟩
  have eq_fou := hc_fou qc m_fou f_qc f_m_fou; rw [cl_fou, n_m_fou] at eq_fou
  have z_fou : c0.toInt.toNat < 100 → c_fou c0.toInt.toNat = 0 := fun hj => hx_num_z nu_qc cl_fou hj ?o4
  case o4 => omega
  obtain ⟨c_tri, cl_tri⟩ : ∃ g : Nat → Int32, hx_col 100 hl1 qc 9 = g := ⟨_, rfl⟩
  have eq_tri := hc_tri qc mt f_qc f_mt; rw [cl_tri, n_mt] at eq_tri
  have z_tri : c0.toInt.toNat < 100 → c_tri c0.toInt.toNat = 0 := fun hj => hx_num_z nu_qc cl_tri hj ?o5
  case o5 => omega
  obtain ⟨qlt, f_qlt, g_qlt⟩ := hx_rf hT g_qw tt_8 (k := 2) (u := 39) rfl
  obtain ⟨qlf, f_qlf, g_qlf⟩ := hx_rf hT g_qw tt_8 (k := 4) (u := 41) rfl
  obtain ⟨m_wkd, f_m_wkd, g_m_wkd⟩ := hx_rf hT gm tt_10 (k := 93) (u := 113) rfl
  obtain ⟨F_qlt, n_qlt⟩ : ∃ g : Nat → Int32, hl1.2.1 qlt = g := ⟨_, rfl⟩
  obtain ⟨F_m_wkd, n_m_wkd⟩ : ∃ g : Nat → Int32, hl1.2.1 m_wkd = g := ⟨_, rfl⟩
  have eb_wkd := hkWD qw qlt m_wkd f_qw f_qlt f_m_wkd; rw [n_qlt, n_m_wkd, f_o_wkm] at eb_wkd
  obtain ⟨m_aga, f_m_aga, g_m_aga⟩ := hx_rf hT gm tt_10 (k := 38) (u := 73) rfl
  obtain ⟨F_aga, n_aga⟩ : ∃ g : Nat → Int32, hl1.2.1 m_aga = g := ⟨_, rfl⟩
  have hDF := hkDF qc qp m_aga f_qc f_qp f_m_aga; rw [n_aga, f_x_claimCount] at hDF
  obtain ⟨qwo, f_qwo, g_qwo⟩ := hx_rf hT gx tt_9 (k := 4) (u := 0) rfl
  obtain ⟨m_ad, f_m_ad, g_m_ad⟩ := hx_rf hT gm tt_10 (k := 2) (u := 49) rfl
  obtain ⟨F_ad, n_ad⟩ : ∃ g : Nat → Int32, hl1.2.1 m_ad = g := ⟨_, rfl⟩
  obtain ⟨A9, hRA9, hCA9, hAC9, hAB⟩ := hkAC qa qwo m_ad mr mn mp qc ml f_qa f_qwo f_m_ad f_mr f_mn f_mp f_qc f_ml
  rw [f_x_actCount] at hRA9; rw [f_x_actCount, n_ad, n_mr, n_mn, n_mp] at hCA9
  obtain ⟨m_by, f_m_by, g_m_by⟩ := hx_rf hT gm tt_10 (k := 37) (u := 72) rfl
  obtain ⟨F_by, n_by⟩ : ∃ g : Nat → Int32, hl1.2.1 m_by = g := ⟨_, rfl⟩
  obtain ⟨m_ho, f_m_ho, g_m_ho⟩ := hx_rf hT gm tt_10 (k := 58) (u := 92) rfl
  obtain ⟨F_ho, n_ho⟩ : ∃ g : Nat → Int32, hl1.2.1 m_ho = g := ⟨_, rfl⟩
  obtain ⟨m_fc, f_m_fc, g_m_fc⟩ := hx_rf hT gm tt_10 (k := 53) (u := 88) rfl
  obtain ⟨F_fc, n_fc⟩ : ∃ g : Nat → Int32, hl1.2.1 m_fc = g := ⟨_, rfl⟩
  obtain ⟨m_nt, f_m_nt, g_m_nt⟩ := hx_rf hT gm tt_10 (k := 41) (u := 76) rfl
  obtain ⟨F_nt, n_nt⟩ : ∃ g : Nat → Int32, hl1.2.1 m_nt = g := ⟨_, rfl⟩
  obtain ⟨m_wt, f_m_wt, g_m_wt⟩ := hx_rf hT gm tt_10 (k := 42) (u := 77) rfl
  obtain ⟨F_wt, n_wt⟩ : ∃ g : Nat → Int32, hl1.2.1 m_wt = g := ⟨_, rfl⟩
  obtain ⟨m_be, f_m_be, g_m_be⟩ := hx_rf hT gm tt_10 (k := 52) (u := 87) rfl
  obtain ⟨F_be, n_be⟩ : ∃ g : Nat → Int32, hl1.2.1 m_be = g := ⟨_, rfl⟩
  obtain ⟨m_bor, f_m_bor, g_m_bor⟩ := hx_rf hT gm tt_10 (k := 21) (u := 58) rfl
  obtain ⟨F_bor, n_bor⟩ : ∃ g : Nat → Int32, hl1.2.1 m_bor = g := ⟨_, rfl⟩
  obtain ⟨m_kin, f_m_kin, g_m_kin⟩ := hx_rf hT gm tt_10 (k := 26) (u := 63) rfl
  obtain ⟨F_kin, n_kin⟩ : ∃ g : Nat → Int32, hl1.2.1 m_kin = g := ⟨_, rfl⟩
  obtain ⟨m_sum, f_m_sum, g_m_sum⟩ := hx_rf hT gm tt_10 (k := 39) (u := 74) rfl
  obtain ⟨F_sum, n_sum⟩ : ∃ g : Nat → Int32, hl1.2.1 m_sum = g := ⟨_, rfl⟩
  obtain ⟨m_fro, f_m_fro, g_m_fro⟩ := hx_rf hT gm tt_10 (k := 40) (u := 75) rfl
  obtain ⟨F_fro, n_fro⟩ : ∃ g : Nat → Int32, hl1.2.1 m_fro = g := ⟨_, rfl⟩
  obtain ⟨m_fil, f_m_fil, g_m_fil⟩ := hx_rf hT gm tt_10 (k := 43) (u := 78) rfl
  obtain ⟨F_fil, n_fil⟩ : ∃ g : Nat → Int32, hl1.2.1 m_fil = g := ⟨_, rfl⟩
  obtain ⟨m_jud, f_m_jud, g_m_jud⟩ := hx_rf hT gm tt_10 (k := 51) (u := 86) rfl
  obtain ⟨F_jud, n_jud⟩ : ∃ g : Nat → Int32, hl1.2.1 m_jud = g := ⟨_, rfl⟩
  obtain ⟨m_ear, f_m_ear, g_m_ear⟩ := hx_rf hT gm tt_10 (k := 22) (u := 59) rfl
  obtain ⟨F_ear, n_ear⟩ : ∃ g : Nat → Int32, hl1.2.1 m_ear = g := ⟨_, rfl⟩
  obtain ⟨m_hds, f_m_hds, g_m_hds⟩ := hx_rf hT gm tt_10 (k := 23) (u := 60) rfl
  obtain ⟨F_hds, n_hds⟩ : ∃ g : Nat → Int32, hl1.2.1 m_hds = g := ⟨_, rfl⟩
  obtain ⟨m_ord, f_m_ord, g_m_ord⟩ := hx_rf hT gm tt_10 (k := 48) (u := 83) rfl
  obtain ⟨F_ord, n_ord⟩ : ∃ g : Nat → Int32, hl1.2.1 m_ord = g := ⟨_, rfl⟩
  obtain ⟨m_wkl, f_m_wkl, g_m_wkl⟩ := hx_rf hT gm tt_10 (k := 54) (u := 89) rfl
  obtain ⟨F_wkl, n_wkl⟩ : ∃ g : Nat → Int32, hl1.2.1 m_wkl = g := ⟨_, rfl⟩
  obtain ⟨m_owd, f_m_owd, g_m_owd⟩ := hx_rf hT gm tt_10 (k := 55) (u := 90) rfl
  obtain ⟨F_owd, n_owd⟩ : ∃ g : Nat → Int32, hl1.2.1 m_owd = g := ⟨_, rfl⟩
  obtain ⟨m_gds, f_m_gds, g_m_gds⟩ := hx_rf hT gm tt_10 (k := 56) (u := 91) rfl
  obtain ⟨F_gds, n_gds⟩ : ∃ g : Nat → Int32, hl1.2.1 m_gds = g := ⟨_, rfl⟩
  obtain ⟨m_szd, f_m_szd, g_m_szd⟩ := hx_rf hT gm tt_10 (k := 49) (u := 84) rfl
  obtain ⟨F_szd, n_szd⟩ : ∃ g : Nat → Int32, hl1.2.1 m_szd = g := ⟨_, rfl⟩
  obtain ⟨m_srv, f_m_srv, g_m_srv⟩ := hx_rf hT gm tt_10 (k := 50) (u := 85) rfl
  obtain ⟨F_srv, n_srv⟩ : ∃ g : Nat → Int32, hl1.2.1 m_srv = g := ⟨_, rfl⟩
  have cl_bor : hx_col 40 hl1 qp 1 = F_bor := (hf_bor qp m_bor f_qp f_m_bor).trans n_bor
  have cl_kin : hx_col 40 hl1 qp 2 = F_kin := (hf_kin qp m_kin f_qp f_m_kin).trans n_kin
  have cl_sum : hx_col 100 hl1 qc 6 = F_sum := (hf_sum qc m_sum f_qc f_m_sum).trans n_sum
  have cl_fro : hx_col 100 hl1 qc 7 = F_fro := (hf_fro qc m_fro f_qc f_m_fro).trans n_fro
  have cl_fil : hx_col 100 hl1 qc 8 = F_fil := (hf_fil qc m_fil f_qc f_m_fil).trans n_fil
  have cl_hea : hx_col 100 hl1 qc 11 = F_mh := (hf_hea qc mh f_qc f_mh).trans n_mh
  have cl_jud : hx_col 100 hl1 qc 12 = F_jud := (hf_jud qc m_jud f_qc f_m_jud).trans n_jud
  have cl_ear : hx_col 40 hl1 qp 3 = F_ear := (hf_ear qp m_ear f_qp f_m_ear).trans n_ear
  have cl_hds : hx_col 40 hl1 qp 4 = F_hds := (hf_hds qp m_hds f_qp f_m_hds).trans n_hds
  have cl_ord : hx_col 100 hl1 qc 13 = F_ord := (hf_ord qc m_ord f_qc f_m_ord).trans n_ord
  have cl_wkl : hx_col 100 hl1 qc 14 = F_wkl := (hf_wkl qc m_wkl f_qc f_m_wkl).trans n_wkl
  have cl_owd : hx_col 100 hl1 qc 15 = F_owd := (hf_owd qc m_owd f_qc f_m_owd).trans n_owd
  have cl_gds : hx_col 100 hl1 qc 17 = F_gds := (hf_gds qc m_gds f_qc f_m_gds).trans n_gds
  have cl_szd : hx_col 100 hl1 qc 16 = F_szd := (hf_szd qc m_szd f_qc f_m_szd).trans n_szd
  have cl_srv : hx_col 100 hl1 qc 18 = F_srv := (hf_srv qc m_srv f_qc f_m_srv).trans n_srv
  have htb9 : ∀ c, c < 100 → 0 ≤ (c_tri c).toInt ∧ (c_tri c).toInt ≤ 512 := fun c hc => by rw [eq_tri c hc]; have w := hT.ei g_mt tt_80 (k := c) hc; rw [n_mt] at w; exact w
  have z_jud : F_jud c0.toInt.toNat = 0 := hx_num_z2 nu_qc cl_jud ?o6
  case o6 => omega
  have hDP := hkDP qc qp m_by f_qc f_qp f_m_by; rw [n_by, f_x_claimCount] at hDP
  have hHL := hkHL qh qc m_ho f_qh f_qc f_m_ho; rw [n_ho, f_x_heardCount, f_x_claimCount] at hHL
  have hHO9 := hkHO m_ho mh f_m_ho f_mh; rw [n_ho, n_mh, f_m_heardMany, f_m_claims] at hHO9
  obtain ⟨cF9L, hFX, hFR9⟩ := hkFX qc m_fc m_nt m_wt m_sum mh f_qc f_m_fc f_m_nt f_m_wt f_m_sum f_mh; rw [f_x_claimCount] at hFX; rw [n_fc, n_nt, n_wt, n_sum, n_mh, f_x_claimCount] at hFR9
  have hBX := hkBX qc m_be f_qc f_m_be; rw [n_be, f_x_claimCount] at hBX
  rw [n_ml, f_x_claimCount] at hAC9
  obtain ⟨y_p0, f_y_p0, g_y_p0⟩ := hx_rf hT g_qo_py tt_3 (k := 2) (u := 23) rfl
  obtain ⟨m_p0, f_m_p0, g_m_p0⟩ := hx_rf hT gm tt_10 (k := 60) (u := 93) rfl
  obtain ⟨F_p0, n_p0⟩ : ∃ g : Nat → Int32, hl1.2.1 m_p0 = g := ⟨_, rfl⟩
  have n_y_p0 : hl1.2.1 y_p0 = F_p0 := (hkP0 qo_py y_p0 m_p0 f_qo_py f_y_p0 f_m_p0).trans n_p0
  obtain ⟨y_p1, f_y_p1, g_y_p1⟩ := hx_rf hT g_qo_py tt_3 (k := 3) (u := 24) rfl
  obtain ⟨m_p1, f_m_p1, g_m_p1⟩ := hx_rf hT gm tt_10 (k := 61) (u := 94) rfl
  obtain ⟨F_p1, n_p1⟩ : ∃ g : Nat → Int32, hl1.2.1 m_p1 = g := ⟨_, rfl⟩
  have n_y_p1 : hl1.2.1 y_p1 = F_p1 := (hkP1 qo_py y_p1 m_p1 f_qo_py f_y_p1 f_m_p1).trans n_p1
  obtain ⟨y_p2, f_y_p2, g_y_p2⟩ := hx_rf hT g_qo_py tt_3 (k := 5) (u := 26) rfl
  obtain ⟨m_p2, f_m_p2, g_m_p2⟩ := hx_rf hT gm tt_10 (k := 62) (u := 95) rfl
  obtain ⟨F_p2, n_p2⟩ : ∃ g : Nat → Int32, hl1.2.1 m_p2 = g := ⟨_, rfl⟩
  have n_y_p2 : hl1.2.1 y_p2 = F_p2 := (hkP2 qo_py y_p2 m_p2 f_qo_py f_y_p2 f_m_p2).trans n_p2
  obtain ⟨y_p3, f_y_p3, g_y_p3⟩ := hx_rf hT g_qo_py tt_3 (k := 4) (u := 25) rfl
  obtain ⟨m_p3, f_m_p3, g_m_p3⟩ := hx_rf hT gm tt_10 (k := 63) (u := 96) rfl
  obtain ⟨F_p3, n_p3⟩ : ∃ g : Nat → Int32, hl1.2.1 m_p3 = g := ⟨_, rfl⟩
  have n_y_p3 : hl1.2.1 y_p3 = F_p3 := (hkP3 qo_py y_p3 m_p3 f_qo_py f_y_p3 f_m_p3).trans n_p3
  obtain ⟨y_p4, f_y_p4, g_y_p4⟩ := hx_rf hT g_qo_py tt_3 (k := 1) (u := 22) rfl
  obtain ⟨m_p4, f_m_p4, g_m_p4⟩ := hx_rf hT gm tt_10 (k := 64) (u := 97) rfl
  obtain ⟨F_p4, n_p4⟩ : ∃ g : Nat → Int32, hl1.2.1 m_p4 = g := ⟨_, rfl⟩
  have n_y_p4 : hl1.2.1 y_p4 = F_p4 := (hkP4 qo_py y_p4 m_p4 f_qo_py f_y_p4 f_m_p4).trans n_p4
  obtain ⟨qrg9, f_qrg9, g_qrg9⟩ := hx_rf hT gx tt_9 (k := 18) (u := 7) rfl
  obtain ⟨y_ls, f_y_ls, g_y_ls⟩ := hx_rf hT g_qrg9 tt_7 (k := 3) (u := 35) rfl
  obtain ⟨m_rl, f_m_rl, g_m_rl⟩ := hx_rf hT gm tt_10 (k := 85) (u := 109) rfl
  obtain ⟨F_y_ls, n_y_ls⟩ : ∃ g : Nat → Int32, hl1.2.1 y_ls = g := ⟨_, rfl⟩
  obtain ⟨F_m_rl, n_m_rl⟩ : ∃ g : Nat → Int32, hl1.2.1 m_rl = g := ⟨_, rfl⟩
  obtain ⟨fv_327, efv_327⟩ : ∃ y : Int32, y = hl1.2.1 qrg9 0 := ⟨_, rfl⟩
  have bfv_327 := hT.gi g_qrg9 tt_7 (k := 0) rfl
  rw [← efv_327] at bfv_327
  have bfv_327 : -1 ≤ fv_327.toInt ∧ fv_327.toInt ≤ 100 := bfv_327
  have ffv_327 := efv_327.symm
  obtain ⟨fv_328, efv_328⟩ : ∃ y : Int32, y = hl1.2.1 am 83 := ⟨_, rfl⟩
  have bfv_328 := hT.gi gm tt_10 (k := 83) rfl
  rw [← efv_328] at bfv_328
  have bfv_328 : 0 ≤ fv_328.toInt ∧ fv_328.toInt ≤ 1 := bfv_328
  have ffv_328 := efv_328.symm
  obtain ⟨fv_329, efv_329⟩ : ∃ y : Int32, y = hl1.2.1 am 84 := ⟨_, rfl⟩
  have bfv_329 := hT.gi gm tt_10 (k := 84) rfl
  rw [← efv_329] at bfv_329
  have bfv_329 : 0 ≤ fv_329.toInt ∧ fv_329.toInt ≤ 300 := bfv_329
  have ffv_329 := efv_329.symm
  have hNQ9 := hkNQ qrg9 f_qrg9; rw [ffv_327, ffv_328, ffv_329] at hNQ9
  have hRL9 := hkRL qrg9 y_ls m_rl f_qrg9 f_y_ls f_m_rl; rw [n_y_ls, n_m_rl, ffv_327] at hRL9
  have hCB : hz_CB F_ord F_wkl F_owd F_szd F_gds F_srv := fun c hc => ⟨by have w := hT.ei g_m_ord tt_83 (k := c) (by omega); rw [n_ord] at w; exact w, by have w := hT.ei g_m_wkl tt_89 (k := c) (by omega); rw [n_wkl] at w; exact w, by have w := hT.ei g_m_owd tt_90 (k := c) (by omega); rw [n_owd] at w; exact w, by have w := hT.ei g_m_szd tt_84 (k := c) (by omega); rw [n_szd] at w; exact w, by have w := hT.ei g_m_gds tt_91 (k := c) (by omega); rw [n_gds] at w; exact w, by have w := hT.ei g_m_srv tt_85 (k := c) (by omega); rw [n_srv] at w; exact w⟩
  have hps : ∀ j, j < 600 → 0 ≤ (F_p2 j).toInt ∧ (F_p2 j).toInt ≤ 610000 := fun j hj => by have w := hT.ei g_m_p2 tt_95 (k := j) (by omega); rw [n_p2] at w; exact w
  have hte9 : ∀ c : Nat, c < 100 → (0 ≤ (c_tri c).toInt ∧ (c_tri c).toInt ≤ 512) ∧ (0 ≤ (F_sum c).toInt ∧ (F_sum c).toInt ≤ 9999) := fun c hc => ⟨htb9 c hc, by have w := hT.ei g_m_sum tt_74 (k := c) (by omega); rw [n_sum] at w; exact w⟩
  have hee9 : ∀ c : Nat, c < 40 → (0 ≤ (F_ear c).toInt ∧ (F_ear c).toInt ≤ 9999) ∧ (0 ≤ (F_hds c).toInt ∧ (F_hds c).toInt ≤ 20) := fun c hc => ⟨by have w := hT.ei g_m_ear tt_59 (k := c) (by omega); rw [n_ear] at w; exact w, by have w := hT.ei g_m_hds tt_60 (k := c) (by omega); rw [n_hds] at w; exact w⟩
  have bAG9 : ∀ k, k < 100 → 0 ≤ (F_aga k).toInt ∧ (F_aga k).toInt ≤ 39 := fun k hk => by have w := hT.ei g_m_aga tt_73 (k := k) (by omega); rw [n_aga] at w; exact w
  have bBY9 : ∀ k, k < 100 → 0 ≤ (F_by k).toInt ∧ (F_by k).toInt ≤ 39 := fun k hk => by have w := hT.ei g_m_by tt_72 (k := k) (by omega); rw [n_by] at w; exact w
  have hag9 : ∀ c, c < c0.toInt.toNat → 0 ≤ (F_aga c).toInt ∧ (F_aga c).toInt < 40 ∧ 0 ≤ (F_by c).toInt ∧ (F_by c).toInt < 40 := fun c hc => by have a9 := bAG9 c (by omega); have b9 := bBY9 c (by omega); omega
  have z_wkl : F_wkl c0.toInt.toNat = 0 := hx_num_z2 nu_qc cl_wkl ?o7
  case o7 => omega
  have z_owd : F_owd c0.toInt.toNat = 0 := hx_num_z2 nu_qc cl_owd ?o8
  case o8 => omega
  have z_gds : F_gds c0.toInt.toNat = 0 := hx_num_z2 nu_qc cl_gds ?o9
  case o9 => omega
  have hwd := jw mw f_mw; rw [n_mw] at hwd
  have hWK := jr mr f_mr; rw [n_mr, f_m_acts] at hWK
  have hRP := jp mp mn f_mp f_mn; rw [n_mp, n_mn, f_m_acts] at hRP
  have hPL := jl ml f_ml; rw [n_ml, f_m_claims, f_m_acts] at hPL
  have hHC := jh mh f_mh; rw [n_mh, f_m_heardMany, f_m_claims] at hHC
  have hTR := jt mt f_mt; rw [n_mt] at hTR
  have hHF := jf mh m_fou f_mh f_m_fou; rw [n_mh, n_m_fou, f_m_claims] at hHF
  refine lv_aload_n hx hb dL_law_610 rfl (lv_at hl 2 rfl) ?_
  refine lv_aload_n hx hb dL_law_611 rfl (lv_at hl 3 rfl) ?_
  refine lv_iload_n hx hb dL_law_612 rfl (lv_at hl 0 rfl) ?_
  refine lv_iconst (v := 1) hx hb dL_law_613 ?o10 ?_
  case o10 => decide
  refine lv_iadd hx hb dL_law_614 ?_
  have rg_330 := i32_r i
  refine lv_topi (fun x_331 ex_331 => ?_)
  have zx_331 : x_331.toInt = i.toInt + 1 := ?o11
  case o11 =>
    rw [ex_331]
    refine i32_add rfl ?o12 ?o13 ?o14
    case o12 => decide
    case o13 => omega
    case o14 => omega
  refine va_sld hx hb hX hbl hbA hW.2.2.2.1 (vp_in_iff.mpr ⟨?o15, ?o16⟩) dL_law_615 ?_
  case o15 => omega
  case o16 => omega
  refine lv_topi (fun x_332 ex_332 => ?_)
  refine lv_aload_n hx hb dL_law_616 rfl (lv_at hl 3 rfl) ?_
  refine lv_iload_n hx hb dL_law_617 rfl (lv_at hl 0 rfl) ?_
  refine lv_iconst (v := 2) hx hb dL_law_618 ?o17 ?_
  case o17 => decide
  refine lv_iadd hx hb dL_law_619 ?_
  refine lv_topi (fun x_333 ex_333 => ?_)
  have zx_333 : x_333.toInt = i.toInt + 2 := ?o18
  case o18 =>
    rw [ex_333]
    refine i32_add rfl ?o19 ?o20 ?o21
    case o19 => decide
    case o20 => omega
    case o21 => omega
  refine va_sld hx hb hX hbl hbA hW.2.2.2.1 (vp_in_iff.mpr ⟨?o22, ?o23⟩) dL_law_620 ?_
  case o22 => omega
  case o23 => omega
  refine lv_topi (fun x_334 ex_334 => ?_)
  refine lv_aload_n hx hb dL_law_621 rfl (lv_at hl 3 rfl) ?_
  refine lv_iload_n hx hb dL_law_622 rfl (lv_at hl 0 rfl) ?_
  refine lv_iconst (v := 3) hx hb dL_law_623 ?o24 ?_
  case o24 => decide
  refine lv_iadd hx hb dL_law_624 ?_
  refine lv_topi (fun x_335 ex_335 => ?_)
  have zx_335 : x_335.toInt = i.toInt + 3 := ?o25
  case o25 =>
    rw [ex_335]
    refine i32_add rfl ?o26 ?o27 ?o28
    case o26 => decide
    case o27 => omega
    case o28 => omega
  refine va_sld hx hb hX hbl hbA hW.2.2.2.1 (vp_in_iff.mpr ⟨?o29, ?o30⟩) dL_law_625 ?_
  case o29 => omega
  case o30 => omega
  refine lv_topi (fun x_336 ex_336 => ?_)
  refine lv_aload_n hx hb dL_law_626 rfl (lv_at hl 3 rfl) ?_
  refine lv_iload_n hx hb dL_law_627 rfl (lv_at hl 0 rfl) ?_
  refine lv_iconst (v := 4) hx hb dL_law_628 ?o31 ?_
  case o31 => decide
  refine lv_iadd hx hb dL_law_629 ?_
  refine lv_topi (fun x_337 ex_337 => ?_)
  have zx_337 : x_337.toInt = i.toInt + 4 := ?o32
  case o32 =>
    rw [ex_337]
    refine i32_add rfl ?o33 ?o34 ?o35
    case o33 => decide
    case o34 => omega
    case o35 => omega
  refine va_sld hx hb hX hbl hbA hW.2.2.2.1 (vp_in_iff.mpr ⟨?o36, ?o37⟩) dL_law_630 ?_
  case o36 => omega
  case o37 => omega
  refine lv_topi (fun x_338 ex_338 => ?_)
  have hTo := hT
  obtain ⟨q_339, fq_339, gq_339⟩ := hx_rf hT g_qo_ln tt_1 (k := 7) (u := 19) rfl
  obtain ⟨fa_340, nfa_340⟩ : ∃ g : Nat → Int32, hl1.2.1 q_339 = g := ⟨_, rfl⟩
  refine hx_goi (hx_runV (As := [.int x_332, .int x_334, .int x_336, .int x_338]) (rest := []) ⟨hx, hb, hml, hown, hts⟩ hW gx tt_9 (T := TX9) (N := 20) rfl (t_X9_book_2 l dC dI dA L1 hl1 H.size ax x_332 x_334 x_336 x_338 hT gx qp g_qp f_qp qo_ln g_qo_ln f_qo_ln b_of g_b_of f_b_of b_wf g_b_wf f_b_wf b_df g_b_df f_b_df b_kf g_b_kf f_b_kf b_sf g_b_sf f_b_sf b_bf g_b_bf f_b_bf q_339 gq_339 fq_339 B_of n_b_of B_wf n_b_wf B_df n_b_df B_kf n_b_kf B_sf n_b_sf bfL n_b_bf fa_340 nfa_340 ln f_o_ln np f_x_personCount hBD hDY pf_qp) (cwV 4 hts (hx_gV kw_683 kw_680 kw_681 kw_682 kw_94) rfl rfl rfl (by decide +kernel) ⟨Nat.le_of_ble_eq_true rfl, Nat.le_of_ble_eq_true rfl⟩) rfl hl.1 rfl (Nat.le_of_ble_eq_true rfl) dL_law_631 ⟨(show CC + 0 ≤ 600000 from ?o38), (show SS + 0 ≤ 7302250 from ?o39)⟩) hW (fun r_343 L_341 h_342 H locs p_344 hW => ?_)
  case o38 => omega
  case o39 => omega
  obtain ⟨hr_345, hT, hs⟩ := p_344
  replace hT : hx_T T_tb L_341 h_342 := hT
  replace hs : hx_S T_tb [(19, 0)] L1 hl1 L_341 h_342 := hs
  replace f_qa := (hs.o gx trivial rfl).2.trans f_qa
  replace f_qp := (hs.o gx trivial rfl).2.trans f_qp
  replace f_qc := (hs.o gx trivial rfl).2.trans f_qc
  replace f_qh := (hs.o gx trivial rfl).2.trans f_qh
  replace f_qw := (hs.o gx trivial rfl).2.trans f_qw
  replace f_ql := (hs.o g_qw trivial rfl).2.trans f_ql
  replace f_m_now := (hs.o gm trivial rfl).1.trans f_m_now
  replace f_m_persons := (hs.o gm trivial rfl).1.trans f_m_persons
  replace f_m_claims := (hs.o gm trivial rfl).1.trans f_m_claims
  replace f_m_taped := (hs.o gm trivial rfl).1.trans f_m_taped
  replace f_m_acts := (hs.o gm trivial rfl).1.trans f_m_acts
  replace f_m_heardMany := (hs.o gm trivial rfl).1.trans f_m_heardMany
  replace f_m_lines := (hs.o gm trivial rfl).1.trans f_m_lines
  replace f_m_listed := (hs.o gm trivial rfl).1.trans f_m_listed
  replace f_m_walkedMany := (hs.o gm trivial rfl).1.trans f_m_walkedMany
  replace f_m_payments := (hs.o gm trivial rfl).1.trans f_m_payments
  replace f_x_now := (hs.o gx trivial rfl).1.trans f_x_now
  replace f_x_personCount := (hs.o gx trivial rfl).1.trans f_x_personCount
  replace f_x_claimCount := (hs.o gx trivial rfl).1.trans f_x_claimCount
  replace f_x_tapeLength := (hs.o gx trivial rfl).1.trans f_x_tapeLength
  replace f_x_actCount := (hs.o gx trivial rfl).1.trans f_x_actCount
  replace f_x_heardCount := (hs.o gx trivial rfl).1.trans f_x_heardCount
  replace f_mw := (hs.o gm trivial rfl).2.trans f_mw
  replace f_mr := (hs.o gm trivial rfl).2.trans f_mr
  replace f_mp := (hs.o gm trivial rfl).2.trans f_mp
  replace f_mn := (hs.o gm trivial rfl).2.trans f_mn
  replace f_ml := (hs.o gm trivial rfl).2.trans f_ml
  replace f_mh := (hs.o gm trivial rfl).2.trans f_mh
  replace f_mt := (hs.o gm trivial rfl).2.trans f_mt
  replace f_m_fou := (hs.o gm trivial rfl).2.trans f_m_fou
  replace f_qo_ln := (hs.o gx trivial rfl).2.trans f_qo_ln
  replace f_o_ln := (hs.o g_qo_ln trivial rfl).1.trans f_o_ln
  replace f_o_lsd := (hs.o g_qw trivial rfl).1.trans f_o_lsd
  replace f_o_wkm := (hs.o g_qw trivial rfl).1.trans f_o_wkm
  replace f_qo_py := (hs.o gx trivial rfl).2.trans f_qo_py
  replace f_o_py := (hs.o g_qo_py trivial rfl).1.trans f_o_py
  replace f_b_of := (hs.o g_qo_ln trivial rfl).2.trans f_b_of
  replace f_m_of := (hs.o gm trivial rfl).2.trans f_m_of
  replace f_b_wf := (hs.o g_qo_ln trivial rfl).2.trans f_b_wf
  replace f_m_wf := (hs.o gm trivial rfl).2.trans f_m_wf
  replace f_b_df := (hs.o g_qo_ln trivial rfl).2.trans f_b_df
  replace f_m_df := (hs.o gm trivial rfl).2.trans f_m_df
  replace f_b_kf := (hs.o g_qo_ln trivial rfl).2.trans f_b_kf
  replace f_m_kf := (hs.o gm trivial rfl).2.trans f_m_kf
  replace f_b_sf := (hs.o g_qo_ln trivial rfl).2.trans f_b_sf
  replace f_m_sf := (hs.o gm trivial rfl).2.trans f_m_sf
  replace f_b_bf := (hs.o g_qo_ln trivial rfl).2.trans f_b_bf
  replace f_m_lst := (hs.o gm trivial rfl).2.trans f_m_lst
  replace f_qtp := (hs.o gx trivial rfl).2.trans f_qtp
  replace f_m_tp := (hs.o gm trivial rfl).2.trans f_m_tp
  replace f_m_dead := (hs.o gm trivial rfl).2.trans f_m_dead
  replace f_m_isj := (hs.o gm trivial rfl).2.trans f_m_isj
  replace f_m_dox := (hs.o gm trivial rfl).2.trans f_m_dox
  replace f_m_doy := (hs.o gm trivial rfl).2.trans f_m_doy
  replace f_qlt := (hs.o g_qw trivial rfl).2.trans f_qlt
  replace f_qlf := (hs.o g_qw trivial rfl).2.trans f_qlf
  replace f_m_wkd := (hs.o gm trivial rfl).2.trans f_m_wkd
  replace f_m_aga := (hs.o gm trivial rfl).2.trans f_m_aga
  replace f_qwo := (hs.o gx trivial rfl).2.trans f_qwo
  replace f_m_ad := (hs.o gm trivial rfl).2.trans f_m_ad
  replace f_m_by := (hs.o gm trivial rfl).2.trans f_m_by
  replace f_m_ho := (hs.o gm trivial rfl).2.trans f_m_ho
  replace f_m_fc := (hs.o gm trivial rfl).2.trans f_m_fc
  replace f_m_nt := (hs.o gm trivial rfl).2.trans f_m_nt
  replace f_m_wt := (hs.o gm trivial rfl).2.trans f_m_wt
  replace f_m_be := (hs.o gm trivial rfl).2.trans f_m_be
  replace f_m_bor := (hs.o gm trivial rfl).2.trans f_m_bor
  replace f_m_kin := (hs.o gm trivial rfl).2.trans f_m_kin
  replace f_m_sum := (hs.o gm trivial rfl).2.trans f_m_sum
  replace f_m_fro := (hs.o gm trivial rfl).2.trans f_m_fro
  replace f_m_fil := (hs.o gm trivial rfl).2.trans f_m_fil
  replace f_m_jud := (hs.o gm trivial rfl).2.trans f_m_jud
  replace f_m_ear := (hs.o gm trivial rfl).2.trans f_m_ear
  replace f_m_hds := (hs.o gm trivial rfl).2.trans f_m_hds
  replace f_m_ord := (hs.o gm trivial rfl).2.trans f_m_ord
  replace f_m_wkl := (hs.o gm trivial rfl).2.trans f_m_wkl
  replace f_m_owd := (hs.o gm trivial rfl).2.trans f_m_owd
  replace f_m_gds := (hs.o gm trivial rfl).2.trans f_m_gds
  replace f_m_szd := (hs.o gm trivial rfl).2.trans f_m_szd
  replace f_m_srv := (hs.o gm trivial rfl).2.trans f_m_srv
  replace f_y_p0 := (hs.o g_qo_py trivial rfl).2.trans f_y_p0
  replace f_m_p0 := (hs.o gm trivial rfl).2.trans f_m_p0
  replace f_y_p1 := (hs.o g_qo_py trivial rfl).2.trans f_y_p1
  replace f_m_p1 := (hs.o gm trivial rfl).2.trans f_m_p1
  replace f_y_p2 := (hs.o g_qo_py trivial rfl).2.trans f_y_p2
  replace f_m_p2 := (hs.o gm trivial rfl).2.trans f_m_p2
  replace f_y_p3 := (hs.o g_qo_py trivial rfl).2.trans f_y_p3
  replace f_m_p3 := (hs.o gm trivial rfl).2.trans f_m_p3
  replace f_y_p4 := (hs.o g_qo_py trivial rfl).2.trans f_y_p4
  replace f_m_p4 := (hs.o gm trivial rfl).2.trans f_m_p4
  replace f_qrg9 := (hs.o gx trivial rfl).2.trans f_qrg9
  replace f_y_ls := (hs.o g_qrg9 trivial rfl).2.trans f_y_ls
  replace f_m_rl := (hs.o gm trivial rfl).2.trans f_m_rl
  replace ffv_327 := (hs.o g_qrg9 trivial rfl).1.trans ffv_327
  replace ffv_328 := (hs.o gm trivial rfl).1.trans ffv_328
  replace ffv_329 := (hs.o gm trivial rfl).1.trans ffv_329
  replace fq_339 := (hs.o g_qo_ln trivial rfl).2.trans fq_339
  replace pf_qa : ∀ j : Nat, (j : Int) < (h_342.2.1 ax 6).toInt → h_342.2.2 qa j ≠ none := by
    intro j hj; rw [(hs.o gx trivial rfl).1] at hj; rw [(hs.a g_qa rfl j).2]; exact pf_qa j hj
  replace pf_qp : ∀ j : Nat, (j : Int) < (h_342.2.1 ax 8).toInt → h_342.2.2 qp j ≠ none := by
    intro j hj; rw [(hs.o gx trivial rfl).1] at hj; rw [(hs.a g_qp rfl j).2]; exact pf_qp j hj
  replace pf_qc : ∀ j : Nat, (j : Int) < (h_342.2.1 ax 11).toInt → h_342.2.2 qc j ≠ none := by
    intro j hj; rw [(hs.o gx trivial rfl).1] at hj; rw [(hs.a g_qc rfl j).2]; exact pf_qc j hj
  replace pf_qh : ∀ j : Nat, (j : Int) < (h_342.2.1 ax 13).toInt → h_342.2.2 qh j ≠ none := by
    intro j hj; rw [(hs.o gx trivial rfl).1] at hj; rw [(hs.a g_qh rfl j).2]; exact pf_qh j hj
  replace pf_ql : ∀ j : Nat, (j : Int) < (h_342.2.1 qw 0).toInt → h_342.2.2 ql j ≠ none := by
    intro j hj; rw [(hs.o g_qw trivial rfl).1] at hj; rw [(hs.a g_ql rfl j).2]; exact pf_ql j hj
  replace cl_lst : hx_col 8 h_342 ql 0 = c_lst := (hx_col_S hs hTo g_ql tt_40 tt_2 rfl rfl).trans cl_lst
  replace cl_dead : hx_col 40 h_342 qp 7 = c_dead := (hx_col_S hs hTo g_qp tt_44 tt_4 rfl rfl).trans cl_dead
  replace cl_isj : hx_col 40 h_342 qp 8 = c_isj := (hx_col_S hs hTo g_qp tt_44 tt_4 rfl rfl).trans cl_isj
  replace cl_dox : hx_col 40 h_342 qp 5 = c_dox := (hx_col_S hs hTo g_qp tt_44 tt_4 rfl rfl).trans cl_dox
  replace cl_doy : hx_col 40 h_342 qp 6 = c_doy := (hx_col_S hs hTo g_qp tt_44 tt_4 rfl rfl).trans cl_doy
  replace cl_fou : hx_col 100 h_342 qc 10 = c_fou := (hx_col_S hs hTo g_qc tt_45 tt_2 rfl rfl).trans cl_fou
  replace cl_tri : hx_col 100 h_342 qc 9 = c_tri := (hx_col_S hs hTo g_qc tt_45 tt_2 rfl rfl).trans cl_tri
  replace cl_bor : hx_col 40 h_342 qp 1 = F_bor := (hx_col_S hs hTo g_qp tt_44 tt_4 rfl rfl).trans cl_bor
  replace cl_kin : hx_col 40 h_342 qp 2 = F_kin := (hx_col_S hs hTo g_qp tt_44 tt_4 rfl rfl).trans cl_kin
  replace cl_sum : hx_col 100 h_342 qc 6 = F_sum := (hx_col_S hs hTo g_qc tt_45 tt_2 rfl rfl).trans cl_sum
  replace cl_fro : hx_col 100 h_342 qc 7 = F_fro := (hx_col_S hs hTo g_qc tt_45 tt_2 rfl rfl).trans cl_fro
  replace cl_fil : hx_col 100 h_342 qc 8 = F_fil := (hx_col_S hs hTo g_qc tt_45 tt_2 rfl rfl).trans cl_fil
  replace cl_hea : hx_col 100 h_342 qc 11 = F_mh := (hx_col_S hs hTo g_qc tt_45 tt_2 rfl rfl).trans cl_hea
  replace cl_jud : hx_col 100 h_342 qc 12 = F_jud := (hx_col_S hs hTo g_qc tt_45 tt_2 rfl rfl).trans cl_jud
  replace cl_ear : hx_col 40 h_342 qp 3 = F_ear := (hx_col_S hs hTo g_qp tt_44 tt_4 rfl rfl).trans cl_ear
  replace cl_hds : hx_col 40 h_342 qp 4 = F_hds := (hx_col_S hs hTo g_qp tt_44 tt_4 rfl rfl).trans cl_hds
  replace cl_ord : hx_col 100 h_342 qc 13 = F_ord := (hx_col_S hs hTo g_qc tt_45 tt_2 rfl rfl).trans cl_ord
  replace cl_wkl : hx_col 100 h_342 qc 14 = F_wkl := (hx_col_S hs hTo g_qc tt_45 tt_2 rfl rfl).trans cl_wkl
  replace cl_owd : hx_col 100 h_342 qc 15 = F_owd := (hx_col_S hs hTo g_qc tt_45 tt_2 rfl rfl).trans cl_owd
  replace cl_gds : hx_col 100 h_342 qc 17 = F_gds := (hx_col_S hs hTo g_qc tt_45 tt_2 rfl rfl).trans cl_gds
  replace cl_szd : hx_col 100 h_342 qc 16 = F_szd := (hx_col_S hs hTo g_qc tt_45 tt_2 rfl rfl).trans cl_szd
  replace cl_srv : hx_col 100 h_342 qc 18 = F_srv := (hx_col_S hs hTo g_qc tt_45 tt_2 rfl rfl).trans cl_srv
  replace nu_qp : hx_num 40 h_342 qp 0 (np.toInt) := hx_num_S hs hTo g_qp tt_44 tt_4 rfl rfl nu_qp
  replace nu_qc : hx_num 100 h_342 qc 0 (c0.toInt) := hx_num_S hs hTo g_qc tt_45 tt_2 rfl rfl nu_qc
  replace sb_list : hx_LQ 8 100 h_342 ql qc := hx_LQ_S hs g_ql g_qc rfl rfl sb_list
  replace hDF : hw_DF h_342 qc qp 2 F_aga c0.toInt := hw_DF_S hs hTo g_qc g_qp tt_45 tt_2 rfl rfl rfl hDF
  replace hRA9 : hv_RA h_342 qa qwo a0.toInt A9 := hv_RA_S hs hTo g_qa g_qwo tt_43 tt_0 rfl rfl rfl rfl rfl rfl ?o40 hRA9
  case o40 => omega
  replace hDP : hw_DF h_342 qc qp 1 F_by c0.toInt := hw_DF_S hs hTo g_qc g_qp tt_45 tt_2 rfl rfl rfl hDP
  replace hAC9 : hv_AC h_342 qc F_ml c0.toInt A9 := hv_AC_S hs hTo g_qc tt_45 tt_2 rfl tt_0 rfl rfl rfl rfl rfl rfl rfl hAC9
  replace hFX : hv_FX 8 4 h_342 qc cF9L c0.toInt := hv_FX_S hs hTo g_qc tt_45 tt_2 rfl rfl rfl rfl hFX
  replace hBX : hv_FX 3 5 h_342 qc F_be c0.toInt := hv_FX_S hs hTo g_qc tt_45 tt_2 rfl rfl rfl rfl hBX
  replace hHL : hv_HL h_342 qh qc F_ho m0.toInt c0.toInt := hv_HL_S hs g_qh g_qc rfl rfl hHL
  replace n_mw : h_342.2.1 mw = F_mw := (funext fun j => (hs.a g_mw rfl j).1).trans n_mw
  replace n_mr : h_342.2.1 mr = F_mr := (funext fun j => (hs.a g_mr rfl j).1).trans n_mr
  replace n_mp : h_342.2.1 mp = F_mp := (funext fun j => (hs.a g_mp rfl j).1).trans n_mp
  replace n_mn : h_342.2.1 mn = F_mn := (funext fun j => (hs.a g_mn rfl j).1).trans n_mn
  replace n_ml : h_342.2.1 ml = F_ml := (funext fun j => (hs.a g_ml rfl j).1).trans n_ml
  replace n_mh : h_342.2.1 mh = F_mh := (funext fun j => (hs.a g_mh rfl j).1).trans n_mh
  replace n_mt : h_342.2.1 mt = F_mt := (funext fun j => (hs.a g_mt rfl j).1).trans n_mt
  replace n_m_fou : h_342.2.1 m_fou = F_m_fou := (funext fun j => (hs.a g_m_fou rfl j).1).trans n_m_fou
  replace n_b_of : h_342.2.1 b_of = B_of := (funext fun j => (hs.a g_b_of rfl j).1).trans n_b_of
  replace n_m_of : h_342.2.1 m_of = F_of := (funext fun j => (hs.a g_m_of rfl j).1).trans n_m_of
  replace n_b_wf : h_342.2.1 b_wf = B_wf := (funext fun j => (hs.a g_b_wf rfl j).1).trans n_b_wf
  replace n_m_wf : h_342.2.1 m_wf = F_wf := (funext fun j => (hs.a g_m_wf rfl j).1).trans n_m_wf
  replace n_b_df : h_342.2.1 b_df = B_df := (funext fun j => (hs.a g_b_df rfl j).1).trans n_b_df
  replace n_m_df : h_342.2.1 m_df = F_df := (funext fun j => (hs.a g_m_df rfl j).1).trans n_m_df
  replace n_b_kf : h_342.2.1 b_kf = B_kf := (funext fun j => (hs.a g_b_kf rfl j).1).trans n_b_kf
  replace n_m_kf : h_342.2.1 m_kf = F_kf := (funext fun j => (hs.a g_m_kf rfl j).1).trans n_m_kf
  replace n_b_sf : h_342.2.1 b_sf = B_sf := (funext fun j => (hs.a g_b_sf rfl j).1).trans n_b_sf
  replace n_m_sf : h_342.2.1 m_sf = F_sf := (funext fun j => (hs.a g_m_sf rfl j).1).trans n_m_sf
  replace n_b_bf : h_342.2.1 b_bf = bfL := (funext fun j => (hs.a g_b_bf rfl j).1).trans n_b_bf
  replace n_lst : h_342.2.1 m_lst = F_lst := (funext fun j => (hs.a g_m_lst rfl j).1).trans n_lst
  replace n_tp : h_342.2.1 m_tp = F_tp := (funext fun j => (hs.a g_m_tp rfl j).1).trans n_tp
  replace n_qtp : h_342.2.1 qtp = F_tp := (funext fun j => (hs.a g_qtp rfl j).1).trans n_qtp
  replace n_dead : h_342.2.1 m_dead = F_dead := (funext fun j => (hs.a g_m_dead rfl j).1).trans n_dead
  replace n_isj : h_342.2.1 m_isj = F_isj := (funext fun j => (hs.a g_m_isj rfl j).1).trans n_isj
  replace n_dox : h_342.2.1 m_dox = F_dox := (funext fun j => (hs.a g_m_dox rfl j).1).trans n_dox
  replace n_doy : h_342.2.1 m_doy = F_doy := (funext fun j => (hs.a g_m_doy rfl j).1).trans n_doy
  replace n_qlt : h_342.2.1 qlt = F_qlt := (funext fun j => (hs.a g_qlt rfl j).1).trans n_qlt
  replace n_m_wkd : h_342.2.1 m_wkd = F_m_wkd := (funext fun j => (hs.a g_m_wkd rfl j).1).trans n_m_wkd
  replace n_aga : h_342.2.1 m_aga = F_aga := (funext fun j => (hs.a g_m_aga rfl j).1).trans n_aga
  replace n_ad : h_342.2.1 m_ad = F_ad := (funext fun j => (hs.a g_m_ad rfl j).1).trans n_ad
  replace n_by : h_342.2.1 m_by = F_by := (funext fun j => (hs.a g_m_by rfl j).1).trans n_by
  replace n_ho : h_342.2.1 m_ho = F_ho := (funext fun j => (hs.a g_m_ho rfl j).1).trans n_ho
  replace n_fc : h_342.2.1 m_fc = F_fc := (funext fun j => (hs.a g_m_fc rfl j).1).trans n_fc
  replace n_nt : h_342.2.1 m_nt = F_nt := (funext fun j => (hs.a g_m_nt rfl j).1).trans n_nt
  replace n_wt : h_342.2.1 m_wt = F_wt := (funext fun j => (hs.a g_m_wt rfl j).1).trans n_wt
  replace n_be : h_342.2.1 m_be = F_be := (funext fun j => (hs.a g_m_be rfl j).1).trans n_be
  replace n_bor : h_342.2.1 m_bor = F_bor := (funext fun j => (hs.a g_m_bor rfl j).1).trans n_bor
  replace n_kin : h_342.2.1 m_kin = F_kin := (funext fun j => (hs.a g_m_kin rfl j).1).trans n_kin
  replace n_sum : h_342.2.1 m_sum = F_sum := (funext fun j => (hs.a g_m_sum rfl j).1).trans n_sum
  replace n_fro : h_342.2.1 m_fro = F_fro := (funext fun j => (hs.a g_m_fro rfl j).1).trans n_fro
  replace n_fil : h_342.2.1 m_fil = F_fil := (funext fun j => (hs.a g_m_fil rfl j).1).trans n_fil
  replace n_jud : h_342.2.1 m_jud = F_jud := (funext fun j => (hs.a g_m_jud rfl j).1).trans n_jud
  replace n_ear : h_342.2.1 m_ear = F_ear := (funext fun j => (hs.a g_m_ear rfl j).1).trans n_ear
  replace n_hds : h_342.2.1 m_hds = F_hds := (funext fun j => (hs.a g_m_hds rfl j).1).trans n_hds
  replace n_ord : h_342.2.1 m_ord = F_ord := (funext fun j => (hs.a g_m_ord rfl j).1).trans n_ord
  replace n_wkl : h_342.2.1 m_wkl = F_wkl := (funext fun j => (hs.a g_m_wkl rfl j).1).trans n_wkl
  replace n_owd : h_342.2.1 m_owd = F_owd := (funext fun j => (hs.a g_m_owd rfl j).1).trans n_owd
  replace n_gds : h_342.2.1 m_gds = F_gds := (funext fun j => (hs.a g_m_gds rfl j).1).trans n_gds
  replace n_szd : h_342.2.1 m_szd = F_szd := (funext fun j => (hs.a g_m_szd rfl j).1).trans n_szd
  replace n_srv : h_342.2.1 m_srv = F_srv := (funext fun j => (hs.a g_m_srv rfl j).1).trans n_srv
  replace n_p0 : h_342.2.1 m_p0 = F_p0 := (funext fun j => (hs.a g_m_p0 rfl j).1).trans n_p0
  replace n_y_p0 : h_342.2.1 y_p0 = F_p0 := (funext fun j => (hs.a g_y_p0 rfl j).1).trans n_y_p0
  replace n_p1 : h_342.2.1 m_p1 = F_p1 := (funext fun j => (hs.a g_m_p1 rfl j).1).trans n_p1
  replace n_y_p1 : h_342.2.1 y_p1 = F_p1 := (funext fun j => (hs.a g_y_p1 rfl j).1).trans n_y_p1
  replace n_p2 : h_342.2.1 m_p2 = F_p2 := (funext fun j => (hs.a g_m_p2 rfl j).1).trans n_p2
  replace n_y_p2 : h_342.2.1 y_p2 = F_p2 := (funext fun j => (hs.a g_y_p2 rfl j).1).trans n_y_p2
  replace n_p3 : h_342.2.1 m_p3 = F_p3 := (funext fun j => (hs.a g_m_p3 rfl j).1).trans n_p3
  replace n_y_p3 : h_342.2.1 y_p3 = F_p3 := (funext fun j => (hs.a g_y_p3 rfl j).1).trans n_y_p3
  replace n_p4 : h_342.2.1 m_p4 = F_p4 := (funext fun j => (hs.a g_m_p4 rfl j).1).trans n_p4
  replace n_y_p4 : h_342.2.1 y_p4 = F_p4 := (funext fun j => (hs.a g_y_p4 rfl j).1).trans n_y_p4
  replace n_y_ls : h_342.2.1 y_ls = F_y_ls := (funext fun j => (hs.a g_y_ls rfl j).1).trans n_y_ls
  replace n_m_rl : h_342.2.1 m_rl = F_m_rl := (funext fun j => (hs.a g_m_rl rfl j).1).trans n_m_rl
  replace gx := gx.S hs
  replace gm := gm.S hs
  replace g_qa := g_qa.S hs
  replace g_qp := g_qp.S hs
  replace g_qc := g_qc.S hs
  replace g_qh := g_qh.S hs
  replace g_qw := g_qw.S hs
  replace g_ql := g_ql.S hs
  replace g_mw := g_mw.S hs
  replace g_mr := g_mr.S hs
  replace g_mp := g_mp.S hs
  replace g_mn := g_mn.S hs
  replace g_ml := g_ml.S hs
  replace g_mh := g_mh.S hs
  replace g_mt := g_mt.S hs
  replace g_m_fou := g_m_fou.S hs
  replace g_qo_ln := g_qo_ln.S hs
  replace g_qo_py := g_qo_py.S hs
  replace g_b_of := g_b_of.S hs
  replace g_m_of := g_m_of.S hs
  replace g_b_wf := g_b_wf.S hs
  replace g_m_wf := g_m_wf.S hs
  replace g_b_df := g_b_df.S hs
  replace g_m_df := g_m_df.S hs
  replace g_b_kf := g_b_kf.S hs
  replace g_m_kf := g_m_kf.S hs
  replace g_b_sf := g_b_sf.S hs
  replace g_m_sf := g_m_sf.S hs
  replace g_b_bf := g_b_bf.S hs
  replace g_m_lst := g_m_lst.S hs
  replace g_qtp := g_qtp.S hs
  replace g_m_tp := g_m_tp.S hs
  replace g_m_dead := g_m_dead.S hs
  replace g_m_isj := g_m_isj.S hs
  replace g_m_dox := g_m_dox.S hs
  replace g_m_doy := g_m_doy.S hs
  replace g_qlt := g_qlt.S hs
  replace g_qlf := g_qlf.S hs
  replace g_m_wkd := g_m_wkd.S hs
  replace g_m_aga := g_m_aga.S hs
  replace g_qwo := g_qwo.S hs
  replace g_m_ad := g_m_ad.S hs
  replace g_m_by := g_m_by.S hs
  replace g_m_ho := g_m_ho.S hs
  replace g_m_fc := g_m_fc.S hs
  replace g_m_nt := g_m_nt.S hs
  replace g_m_wt := g_m_wt.S hs
  replace g_m_be := g_m_be.S hs
  replace g_m_bor := g_m_bor.S hs
  replace g_m_kin := g_m_kin.S hs
  replace g_m_sum := g_m_sum.S hs
  replace g_m_fro := g_m_fro.S hs
  replace g_m_fil := g_m_fil.S hs
  replace g_m_jud := g_m_jud.S hs
  replace g_m_ear := g_m_ear.S hs
  replace g_m_hds := g_m_hds.S hs
  replace g_m_ord := g_m_ord.S hs
  replace g_m_wkl := g_m_wkl.S hs
  replace g_m_owd := g_m_owd.S hs
  replace g_m_gds := g_m_gds.S hs
  replace g_m_szd := g_m_szd.S hs
  replace g_m_srv := g_m_srv.S hs
  replace g_y_p0 := g_y_p0.S hs
  replace g_m_p0 := g_m_p0.S hs
  replace g_y_p1 := g_y_p1.S hs
  replace g_m_p1 := g_m_p1.S hs
  replace g_y_p2 := g_y_p2.S hs
  replace g_m_p2 := g_m_p2.S hs
  replace g_y_p3 := g_y_p3.S hs
  replace g_m_p3 := g_m_p3.S hs
  replace g_y_p4 := g_y_p4.S hs
  replace g_m_p4 := g_m_p4.S hs
  replace g_qrg9 := g_qrg9.S hs
  replace g_y_ls := g_y_ls.S hs
  replace g_m_rl := g_m_rl.S hs
  replace gq_339 := gq_339.S hs
  refine lv_pop hx hb dL_law_634 rfl ?_
  refine lv_aload_n hx hb dL_law_635 rfl (lv_at hl 1 rfl) ?_
  refine lv_aload_n hx hb dL_law_636 rfl (lv_at hl 3 rfl) ?_
  refine lv_iload_n hx hb dL_law_637 rfl (lv_at hl 0 rfl) ?_
  refine lv_iconst (v := 1) hx hb dL_law_638 ?o41 ?_
  case o41 => decide
  refine lv_iadd hx hb dL_law_639 ?_
  refine lv_topi (fun x_346 ex_346 => ?_)
  have zx_346 : x_346.toInt = i.toInt + 1 := ?o42
  case o42 =>
    rw [ex_346]
    refine i32_add rfl ?o43 ?o44 ?o45
    case o43 => decide
    case o44 => omega
    case o45 => omega
  obtain rfl : x_331 = x_346 := ex_331.trans ex_346.symm
  refine va_sld hx hb hX hbl hbA hW.2.2.2.1 (vp_in_iff.mpr ⟨?o46, ?o47⟩) dL_law_640 ?_
  case o46 => omega
  case o47 => omega
  refine lv_topi (fun x_347 ex_347 => ?_)
  obtain rfl : x_332 = x_347 := ex_332.trans ex_347.symm
  refine lv_aload_n hx hb dL_law_641 rfl (lv_at hl 3 rfl) ?_
  refine lv_iload_n hx hb dL_law_642 rfl (lv_at hl 0 rfl) ?_
  refine lv_iconst (v := 2) hx hb dL_law_643 ?o48 ?_
  case o48 => decide
  refine lv_iadd hx hb dL_law_644 ?_
  refine lv_topi (fun x_348 ex_348 => ?_)
  have zx_348 : x_348.toInt = i.toInt + 2 := ?o49
  case o49 =>
    rw [ex_348]
    refine i32_add rfl ?o50 ?o51 ?o52
    case o50 => decide
    case o51 => omega
    case o52 => omega
  obtain rfl : x_333 = x_348 := ex_333.trans ex_348.symm
  refine va_sld hx hb hX hbl hbA hW.2.2.2.1 (vp_in_iff.mpr ⟨?o53, ?o54⟩) dL_law_645 ?_
  case o53 => omega
  case o54 => omega
  refine lv_topi (fun x_349 ex_349 => ?_)
  obtain rfl : x_334 = x_349 := ex_334.trans ex_349.symm
  refine lv_aload_n hx hb dL_law_646 rfl (lv_at hl 3 rfl) ?_
  refine lv_iload_n hx hb dL_law_647 rfl (lv_at hl 0 rfl) ?_
  refine lv_iconst (v := 3) hx hb dL_law_648 ?o55 ?_
  case o55 => decide
  refine lv_iadd hx hb dL_law_649 ?_
  refine lv_topi (fun x_350 ex_350 => ?_)
  have zx_350 : x_350.toInt = i.toInt + 3 := ?o56
  case o56 =>
    rw [ex_350]
    refine i32_add rfl ?o57 ?o58 ?o59
    case o57 => decide
    case o58 => omega
    case o59 => omega
  obtain rfl : x_335 = x_350 := ex_335.trans ex_350.symm
  refine va_sld hx hb hX hbl hbA hW.2.2.2.1 (vp_in_iff.mpr ⟨?o60, ?o61⟩) dL_law_650 ?_
  case o60 => omega
  case o61 => omega
  refine lv_topi (fun x_351 ex_351 => ?_)
  obtain rfl : x_336 = x_351 := ex_336.trans ex_351.symm
  refine lv_aload_n hx hb dL_law_651 rfl (lv_at hl 3 rfl) ?_
  refine lv_iload_n hx hb dL_law_652 rfl (lv_at hl 0 rfl) ?_
  refine lv_iconst (v := 4) hx hb dL_law_653 ?o62 ?_
  case o62 => decide
  refine lv_iadd hx hb dL_law_654 ?_
  refine lv_topi (fun x_352 ex_352 => ?_)
  have zx_352 : x_352.toInt = i.toInt + 4 := ?o63
  case o63 =>
    rw [ex_352]
    refine i32_add rfl ?o64 ?o65 ?o66
    case o64 => decide
    case o65 => omega
    case o66 => omega
  obtain rfl : x_337 = x_352 := ex_337.trans ex_352.symm
  refine va_sld hx hb hX hbl hbA hW.2.2.2.1 (vp_in_iff.mpr ⟨?o67, ?o68⟩) dL_law_655 ?_
  case o67 => omega
  case o68 => omega
  refine lv_topi (fun x_353 ex_353 => ?_)
  obtain rfl : x_338 = x_353 := ex_338.trans ex_353.symm
  have hTo := hT
  obtain ⟨q_354, fq_354, gq_354⟩ := hx_rf hT gm tt_10 (k := 35) (u := 71) rfl
  obtain ⟨fa_355, nfa_355⟩ : ∃ g : Nat → Int32, h_342.2.1 q_354 = g := ⟨_, rfl⟩
  refine hx_goi (hx_runV (As := [.int x_332, .int x_334, .int x_336, .int x_338]) (rest := []) ⟨hx, hb, hml, hown, hts⟩ hW gm tt_10 (T := TX10) (N := 98) rfl (t_X10_book_2 l dC dI dA L_341 h_342 H.size am x_332 x_334 x_336 x_338 hT gm m_of g_m_of f_m_of m_wf g_m_wf f_m_wf m_df g_m_df f_m_df m_kf g_m_kf f_m_kf m_sf g_m_sf f_m_sf q_354 gq_354 fq_354 F_of n_m_of F_wf n_m_wf F_df n_m_df F_kf n_m_kf F_sf n_m_sf fa_355 nfa_355 ln f_m_lines np f_m_persons bfL hBDm hDYm) (cwV 4 hts (hx_gV kw_1568 kw_1565 kw_1566 kw_1567 kw_103) rfl rfl rfl (by decide +kernel) ⟨Nat.le_of_ble_eq_true rfl, Nat.le_of_ble_eq_true rfl⟩) rfl hl.1 rfl (Nat.le_of_ble_eq_true rfl) dL_law_656 ⟨(show CC + 0 + 0 ≤ 600000 from ?o69), (show SS + 0 + 0 ≤ 7302250 from ?o70)⟩) hW (fun r_358 L_356 h_357 H locs p_359 hW => ?_)
  case o69 => omega
  case o70 => omega
  obtain ⟨hr_360, hT, hs⟩ := p_359
  replace hT : hx_T T_tb L_356 h_357 := hT
  replace hs : hx_S T_tb [(71, 0)] L_341 h_342 L_356 h_357 := hs
  replace f_qa := (hs.o gx trivial rfl).2.trans f_qa
  replace f_qp := (hs.o gx trivial rfl).2.trans f_qp
  replace f_qc := (hs.o gx trivial rfl).2.trans f_qc
  replace f_qh := (hs.o gx trivial rfl).2.trans f_qh
  replace f_qw := (hs.o gx trivial rfl).2.trans f_qw
  replace f_ql := (hs.o g_qw trivial rfl).2.trans f_ql
  replace f_m_now := (hs.o gm trivial rfl).1.trans f_m_now
  replace f_m_persons := (hs.o gm trivial rfl).1.trans f_m_persons
  replace f_m_claims := (hs.o gm trivial rfl).1.trans f_m_claims
  replace f_m_taped := (hs.o gm trivial rfl).1.trans f_m_taped
  replace f_m_acts := (hs.o gm trivial rfl).1.trans f_m_acts
  replace f_m_heardMany := (hs.o gm trivial rfl).1.trans f_m_heardMany
  replace f_m_lines := (hs.o gm trivial rfl).1.trans f_m_lines
  replace f_m_listed := (hs.o gm trivial rfl).1.trans f_m_listed
  replace f_m_walkedMany := (hs.o gm trivial rfl).1.trans f_m_walkedMany
  replace f_m_payments := (hs.o gm trivial rfl).1.trans f_m_payments
  replace f_x_now := (hs.o gx trivial rfl).1.trans f_x_now
  replace f_x_personCount := (hs.o gx trivial rfl).1.trans f_x_personCount
  replace f_x_claimCount := (hs.o gx trivial rfl).1.trans f_x_claimCount
  replace f_x_tapeLength := (hs.o gx trivial rfl).1.trans f_x_tapeLength
  replace f_x_actCount := (hs.o gx trivial rfl).1.trans f_x_actCount
  replace f_x_heardCount := (hs.o gx trivial rfl).1.trans f_x_heardCount
  replace f_mw := (hs.o gm trivial rfl).2.trans f_mw
  replace f_mr := (hs.o gm trivial rfl).2.trans f_mr
  replace f_mp := (hs.o gm trivial rfl).2.trans f_mp
  replace f_mn := (hs.o gm trivial rfl).2.trans f_mn
  replace f_ml := (hs.o gm trivial rfl).2.trans f_ml
  replace f_mh := (hs.o gm trivial rfl).2.trans f_mh
  replace f_mt := (hs.o gm trivial rfl).2.trans f_mt
  replace f_m_fou := (hs.o gm trivial rfl).2.trans f_m_fou
  replace f_qo_ln := (hs.o gx trivial rfl).2.trans f_qo_ln
  replace f_o_ln := (hs.o g_qo_ln trivial rfl).1.trans f_o_ln
  replace f_o_lsd := (hs.o g_qw trivial rfl).1.trans f_o_lsd
  replace f_o_wkm := (hs.o g_qw trivial rfl).1.trans f_o_wkm
  replace f_qo_py := (hs.o gx trivial rfl).2.trans f_qo_py
  replace f_o_py := (hs.o g_qo_py trivial rfl).1.trans f_o_py
  replace f_b_of := (hs.o g_qo_ln trivial rfl).2.trans f_b_of
  replace f_m_of := (hs.o gm trivial rfl).2.trans f_m_of
  replace f_b_wf := (hs.o g_qo_ln trivial rfl).2.trans f_b_wf
  replace f_m_wf := (hs.o gm trivial rfl).2.trans f_m_wf
  replace f_b_df := (hs.o g_qo_ln trivial rfl).2.trans f_b_df
  replace f_m_df := (hs.o gm trivial rfl).2.trans f_m_df
  replace f_b_kf := (hs.o g_qo_ln trivial rfl).2.trans f_b_kf
  replace f_m_kf := (hs.o gm trivial rfl).2.trans f_m_kf
  replace f_b_sf := (hs.o g_qo_ln trivial rfl).2.trans f_b_sf
  replace f_m_sf := (hs.o gm trivial rfl).2.trans f_m_sf
  replace f_b_bf := (hs.o g_qo_ln trivial rfl).2.trans f_b_bf
  replace f_m_lst := (hs.o gm trivial rfl).2.trans f_m_lst
  replace f_qtp := (hs.o gx trivial rfl).2.trans f_qtp
  replace f_m_tp := (hs.o gm trivial rfl).2.trans f_m_tp
  replace f_m_dead := (hs.o gm trivial rfl).2.trans f_m_dead
  replace f_m_isj := (hs.o gm trivial rfl).2.trans f_m_isj
  replace f_m_dox := (hs.o gm trivial rfl).2.trans f_m_dox
  replace f_m_doy := (hs.o gm trivial rfl).2.trans f_m_doy
  replace f_qlt := (hs.o g_qw trivial rfl).2.trans f_qlt
  replace f_qlf := (hs.o g_qw trivial rfl).2.trans f_qlf
  replace f_m_wkd := (hs.o gm trivial rfl).2.trans f_m_wkd
  replace f_m_aga := (hs.o gm trivial rfl).2.trans f_m_aga
  replace f_qwo := (hs.o gx trivial rfl).2.trans f_qwo
  replace f_m_ad := (hs.o gm trivial rfl).2.trans f_m_ad
  replace f_m_by := (hs.o gm trivial rfl).2.trans f_m_by
  replace f_m_ho := (hs.o gm trivial rfl).2.trans f_m_ho
  replace f_m_fc := (hs.o gm trivial rfl).2.trans f_m_fc
  replace f_m_nt := (hs.o gm trivial rfl).2.trans f_m_nt
  replace f_m_wt := (hs.o gm trivial rfl).2.trans f_m_wt
  replace f_m_be := (hs.o gm trivial rfl).2.trans f_m_be
  replace f_m_bor := (hs.o gm trivial rfl).2.trans f_m_bor
  replace f_m_kin := (hs.o gm trivial rfl).2.trans f_m_kin
  replace f_m_sum := (hs.o gm trivial rfl).2.trans f_m_sum
  replace f_m_fro := (hs.o gm trivial rfl).2.trans f_m_fro
  replace f_m_fil := (hs.o gm trivial rfl).2.trans f_m_fil
  replace f_m_jud := (hs.o gm trivial rfl).2.trans f_m_jud
  replace f_m_ear := (hs.o gm trivial rfl).2.trans f_m_ear
  replace f_m_hds := (hs.o gm trivial rfl).2.trans f_m_hds
  replace f_m_ord := (hs.o gm trivial rfl).2.trans f_m_ord
  replace f_m_wkl := (hs.o gm trivial rfl).2.trans f_m_wkl
  replace f_m_owd := (hs.o gm trivial rfl).2.trans f_m_owd
  replace f_m_gds := (hs.o gm trivial rfl).2.trans f_m_gds
  replace f_m_szd := (hs.o gm trivial rfl).2.trans f_m_szd
  replace f_m_srv := (hs.o gm trivial rfl).2.trans f_m_srv
  replace f_y_p0 := (hs.o g_qo_py trivial rfl).2.trans f_y_p0
  replace f_m_p0 := (hs.o gm trivial rfl).2.trans f_m_p0
  replace f_y_p1 := (hs.o g_qo_py trivial rfl).2.trans f_y_p1
  replace f_m_p1 := (hs.o gm trivial rfl).2.trans f_m_p1
  replace f_y_p2 := (hs.o g_qo_py trivial rfl).2.trans f_y_p2
  replace f_m_p2 := (hs.o gm trivial rfl).2.trans f_m_p2
  replace f_y_p3 := (hs.o g_qo_py trivial rfl).2.trans f_y_p3
  replace f_m_p3 := (hs.o gm trivial rfl).2.trans f_m_p3
  replace f_y_p4 := (hs.o g_qo_py trivial rfl).2.trans f_y_p4
  replace f_m_p4 := (hs.o gm trivial rfl).2.trans f_m_p4
  replace f_qrg9 := (hs.o gx trivial rfl).2.trans f_qrg9
  replace f_y_ls := (hs.o g_qrg9 trivial rfl).2.trans f_y_ls
  replace f_m_rl := (hs.o gm trivial rfl).2.trans f_m_rl
  replace ffv_327 := (hs.o g_qrg9 trivial rfl).1.trans ffv_327
  replace ffv_328 := (hs.o gm trivial rfl).1.trans ffv_328
  replace ffv_329 := (hs.o gm trivial rfl).1.trans ffv_329
  replace fq_339 := (hs.o g_qo_ln trivial rfl).2.trans fq_339
  replace fq_354 := (hs.o gm trivial rfl).2.trans fq_354
  replace pf_qa : ∀ j : Nat, (j : Int) < (h_357.2.1 ax 6).toInt → h_357.2.2 qa j ≠ none := by
    intro j hj; rw [(hs.o gx trivial rfl).1] at hj; rw [(hs.a g_qa rfl j).2]; exact pf_qa j hj
  replace pf_qp : ∀ j : Nat, (j : Int) < (h_357.2.1 ax 8).toInt → h_357.2.2 qp j ≠ none := by
    intro j hj; rw [(hs.o gx trivial rfl).1] at hj; rw [(hs.a g_qp rfl j).2]; exact pf_qp j hj
  replace pf_qc : ∀ j : Nat, (j : Int) < (h_357.2.1 ax 11).toInt → h_357.2.2 qc j ≠ none := by
    intro j hj; rw [(hs.o gx trivial rfl).1] at hj; rw [(hs.a g_qc rfl j).2]; exact pf_qc j hj
  replace pf_qh : ∀ j : Nat, (j : Int) < (h_357.2.1 ax 13).toInt → h_357.2.2 qh j ≠ none := by
    intro j hj; rw [(hs.o gx trivial rfl).1] at hj; rw [(hs.a g_qh rfl j).2]; exact pf_qh j hj
  replace pf_ql : ∀ j : Nat, (j : Int) < (h_357.2.1 qw 0).toInt → h_357.2.2 ql j ≠ none := by
    intro j hj; rw [(hs.o g_qw trivial rfl).1] at hj; rw [(hs.a g_ql rfl j).2]; exact pf_ql j hj
  replace cl_lst : hx_col 8 h_357 ql 0 = c_lst := (hx_col_S hs hTo g_ql tt_40 tt_2 rfl rfl).trans cl_lst
  replace cl_dead : hx_col 40 h_357 qp 7 = c_dead := (hx_col_S hs hTo g_qp tt_44 tt_4 rfl rfl).trans cl_dead
  replace cl_isj : hx_col 40 h_357 qp 8 = c_isj := (hx_col_S hs hTo g_qp tt_44 tt_4 rfl rfl).trans cl_isj
  replace cl_dox : hx_col 40 h_357 qp 5 = c_dox := (hx_col_S hs hTo g_qp tt_44 tt_4 rfl rfl).trans cl_dox
  replace cl_doy : hx_col 40 h_357 qp 6 = c_doy := (hx_col_S hs hTo g_qp tt_44 tt_4 rfl rfl).trans cl_doy
  replace cl_fou : hx_col 100 h_357 qc 10 = c_fou := (hx_col_S hs hTo g_qc tt_45 tt_2 rfl rfl).trans cl_fou
  replace cl_tri : hx_col 100 h_357 qc 9 = c_tri := (hx_col_S hs hTo g_qc tt_45 tt_2 rfl rfl).trans cl_tri
  replace cl_bor : hx_col 40 h_357 qp 1 = F_bor := (hx_col_S hs hTo g_qp tt_44 tt_4 rfl rfl).trans cl_bor
  replace cl_kin : hx_col 40 h_357 qp 2 = F_kin := (hx_col_S hs hTo g_qp tt_44 tt_4 rfl rfl).trans cl_kin
  replace cl_sum : hx_col 100 h_357 qc 6 = F_sum := (hx_col_S hs hTo g_qc tt_45 tt_2 rfl rfl).trans cl_sum
  replace cl_fro : hx_col 100 h_357 qc 7 = F_fro := (hx_col_S hs hTo g_qc tt_45 tt_2 rfl rfl).trans cl_fro
  replace cl_fil : hx_col 100 h_357 qc 8 = F_fil := (hx_col_S hs hTo g_qc tt_45 tt_2 rfl rfl).trans cl_fil
  replace cl_hea : hx_col 100 h_357 qc 11 = F_mh := (hx_col_S hs hTo g_qc tt_45 tt_2 rfl rfl).trans cl_hea
  replace cl_jud : hx_col 100 h_357 qc 12 = F_jud := (hx_col_S hs hTo g_qc tt_45 tt_2 rfl rfl).trans cl_jud
  replace cl_ear : hx_col 40 h_357 qp 3 = F_ear := (hx_col_S hs hTo g_qp tt_44 tt_4 rfl rfl).trans cl_ear
  replace cl_hds : hx_col 40 h_357 qp 4 = F_hds := (hx_col_S hs hTo g_qp tt_44 tt_4 rfl rfl).trans cl_hds
  replace cl_ord : hx_col 100 h_357 qc 13 = F_ord := (hx_col_S hs hTo g_qc tt_45 tt_2 rfl rfl).trans cl_ord
  replace cl_wkl : hx_col 100 h_357 qc 14 = F_wkl := (hx_col_S hs hTo g_qc tt_45 tt_2 rfl rfl).trans cl_wkl
  replace cl_owd : hx_col 100 h_357 qc 15 = F_owd := (hx_col_S hs hTo g_qc tt_45 tt_2 rfl rfl).trans cl_owd
  replace cl_gds : hx_col 100 h_357 qc 17 = F_gds := (hx_col_S hs hTo g_qc tt_45 tt_2 rfl rfl).trans cl_gds
  replace cl_szd : hx_col 100 h_357 qc 16 = F_szd := (hx_col_S hs hTo g_qc tt_45 tt_2 rfl rfl).trans cl_szd
  replace cl_srv : hx_col 100 h_357 qc 18 = F_srv := (hx_col_S hs hTo g_qc tt_45 tt_2 rfl rfl).trans cl_srv
  replace nu_qp : hx_num 40 h_357 qp 0 (np.toInt) := hx_num_S hs hTo g_qp tt_44 tt_4 rfl rfl nu_qp
  replace nu_qc : hx_num 100 h_357 qc 0 (c0.toInt) := hx_num_S hs hTo g_qc tt_45 tt_2 rfl rfl nu_qc
  replace sb_list : hx_LQ 8 100 h_357 ql qc := hx_LQ_S hs g_ql g_qc rfl rfl sb_list
  replace hDF : hw_DF h_357 qc qp 2 F_aga c0.toInt := hw_DF_S hs hTo g_qc g_qp tt_45 tt_2 rfl rfl rfl hDF
  replace hRA9 : hv_RA h_357 qa qwo a0.toInt A9 := hv_RA_S hs hTo g_qa g_qwo tt_43 tt_0 rfl rfl rfl rfl rfl rfl ?o71 hRA9
  case o71 => omega
  replace hDP : hw_DF h_357 qc qp 1 F_by c0.toInt := hw_DF_S hs hTo g_qc g_qp tt_45 tt_2 rfl rfl rfl hDP
  replace hAC9 : hv_AC h_357 qc F_ml c0.toInt A9 := hv_AC_S hs hTo g_qc tt_45 tt_2 rfl tt_0 rfl rfl rfl rfl rfl rfl rfl hAC9
  replace hFX : hv_FX 8 4 h_357 qc cF9L c0.toInt := hv_FX_S hs hTo g_qc tt_45 tt_2 rfl rfl rfl rfl hFX
  replace hBX : hv_FX 3 5 h_357 qc F_be c0.toInt := hv_FX_S hs hTo g_qc tt_45 tt_2 rfl rfl rfl rfl hBX
  replace hHL : hv_HL h_357 qh qc F_ho m0.toInt c0.toInt := hv_HL_S hs g_qh g_qc rfl rfl hHL
  replace n_mw : h_357.2.1 mw = F_mw := (funext fun j => (hs.a g_mw rfl j).1).trans n_mw
  replace n_mr : h_357.2.1 mr = F_mr := (funext fun j => (hs.a g_mr rfl j).1).trans n_mr
  replace n_mp : h_357.2.1 mp = F_mp := (funext fun j => (hs.a g_mp rfl j).1).trans n_mp
  replace n_mn : h_357.2.1 mn = F_mn := (funext fun j => (hs.a g_mn rfl j).1).trans n_mn
  replace n_ml : h_357.2.1 ml = F_ml := (funext fun j => (hs.a g_ml rfl j).1).trans n_ml
  replace n_mh : h_357.2.1 mh = F_mh := (funext fun j => (hs.a g_mh rfl j).1).trans n_mh
  replace n_mt : h_357.2.1 mt = F_mt := (funext fun j => (hs.a g_mt rfl j).1).trans n_mt
  replace n_m_fou : h_357.2.1 m_fou = F_m_fou := (funext fun j => (hs.a g_m_fou rfl j).1).trans n_m_fou
  replace n_b_of : h_357.2.1 b_of = B_of := (funext fun j => (hs.a g_b_of rfl j).1).trans n_b_of
  replace n_m_of : h_357.2.1 m_of = F_of := (funext fun j => (hs.a g_m_of rfl j).1).trans n_m_of
  replace n_b_wf : h_357.2.1 b_wf = B_wf := (funext fun j => (hs.a g_b_wf rfl j).1).trans n_b_wf
  replace n_m_wf : h_357.2.1 m_wf = F_wf := (funext fun j => (hs.a g_m_wf rfl j).1).trans n_m_wf
  replace n_b_df : h_357.2.1 b_df = B_df := (funext fun j => (hs.a g_b_df rfl j).1).trans n_b_df
  replace n_m_df : h_357.2.1 m_df = F_df := (funext fun j => (hs.a g_m_df rfl j).1).trans n_m_df
  replace n_b_kf : h_357.2.1 b_kf = B_kf := (funext fun j => (hs.a g_b_kf rfl j).1).trans n_b_kf
  replace n_m_kf : h_357.2.1 m_kf = F_kf := (funext fun j => (hs.a g_m_kf rfl j).1).trans n_m_kf
  replace n_b_sf : h_357.2.1 b_sf = B_sf := (funext fun j => (hs.a g_b_sf rfl j).1).trans n_b_sf
  replace n_m_sf : h_357.2.1 m_sf = F_sf := (funext fun j => (hs.a g_m_sf rfl j).1).trans n_m_sf
  replace n_b_bf : h_357.2.1 b_bf = bfL := (funext fun j => (hs.a g_b_bf rfl j).1).trans n_b_bf
  replace n_lst : h_357.2.1 m_lst = F_lst := (funext fun j => (hs.a g_m_lst rfl j).1).trans n_lst
  replace n_tp : h_357.2.1 m_tp = F_tp := (funext fun j => (hs.a g_m_tp rfl j).1).trans n_tp
  replace n_qtp : h_357.2.1 qtp = F_tp := (funext fun j => (hs.a g_qtp rfl j).1).trans n_qtp
  replace n_dead : h_357.2.1 m_dead = F_dead := (funext fun j => (hs.a g_m_dead rfl j).1).trans n_dead
  replace n_isj : h_357.2.1 m_isj = F_isj := (funext fun j => (hs.a g_m_isj rfl j).1).trans n_isj
  replace n_dox : h_357.2.1 m_dox = F_dox := (funext fun j => (hs.a g_m_dox rfl j).1).trans n_dox
  replace n_doy : h_357.2.1 m_doy = F_doy := (funext fun j => (hs.a g_m_doy rfl j).1).trans n_doy
  replace n_qlt : h_357.2.1 qlt = F_qlt := (funext fun j => (hs.a g_qlt rfl j).1).trans n_qlt
  replace n_m_wkd : h_357.2.1 m_wkd = F_m_wkd := (funext fun j => (hs.a g_m_wkd rfl j).1).trans n_m_wkd
  replace n_aga : h_357.2.1 m_aga = F_aga := (funext fun j => (hs.a g_m_aga rfl j).1).trans n_aga
  replace n_ad : h_357.2.1 m_ad = F_ad := (funext fun j => (hs.a g_m_ad rfl j).1).trans n_ad
  replace n_by : h_357.2.1 m_by = F_by := (funext fun j => (hs.a g_m_by rfl j).1).trans n_by
  replace n_ho : h_357.2.1 m_ho = F_ho := (funext fun j => (hs.a g_m_ho rfl j).1).trans n_ho
  replace n_fc : h_357.2.1 m_fc = F_fc := (funext fun j => (hs.a g_m_fc rfl j).1).trans n_fc
  replace n_nt : h_357.2.1 m_nt = F_nt := (funext fun j => (hs.a g_m_nt rfl j).1).trans n_nt
  replace n_wt : h_357.2.1 m_wt = F_wt := (funext fun j => (hs.a g_m_wt rfl j).1).trans n_wt
  replace n_be : h_357.2.1 m_be = F_be := (funext fun j => (hs.a g_m_be rfl j).1).trans n_be
  replace n_bor : h_357.2.1 m_bor = F_bor := (funext fun j => (hs.a g_m_bor rfl j).1).trans n_bor
  replace n_kin : h_357.2.1 m_kin = F_kin := (funext fun j => (hs.a g_m_kin rfl j).1).trans n_kin
  replace n_sum : h_357.2.1 m_sum = F_sum := (funext fun j => (hs.a g_m_sum rfl j).1).trans n_sum
  replace n_fro : h_357.2.1 m_fro = F_fro := (funext fun j => (hs.a g_m_fro rfl j).1).trans n_fro
  replace n_fil : h_357.2.1 m_fil = F_fil := (funext fun j => (hs.a g_m_fil rfl j).1).trans n_fil
  replace n_jud : h_357.2.1 m_jud = F_jud := (funext fun j => (hs.a g_m_jud rfl j).1).trans n_jud
  replace n_ear : h_357.2.1 m_ear = F_ear := (funext fun j => (hs.a g_m_ear rfl j).1).trans n_ear
  replace n_hds : h_357.2.1 m_hds = F_hds := (funext fun j => (hs.a g_m_hds rfl j).1).trans n_hds
  replace n_ord : h_357.2.1 m_ord = F_ord := (funext fun j => (hs.a g_m_ord rfl j).1).trans n_ord
  replace n_wkl : h_357.2.1 m_wkl = F_wkl := (funext fun j => (hs.a g_m_wkl rfl j).1).trans n_wkl
  replace n_owd : h_357.2.1 m_owd = F_owd := (funext fun j => (hs.a g_m_owd rfl j).1).trans n_owd
  replace n_gds : h_357.2.1 m_gds = F_gds := (funext fun j => (hs.a g_m_gds rfl j).1).trans n_gds
  replace n_szd : h_357.2.1 m_szd = F_szd := (funext fun j => (hs.a g_m_szd rfl j).1).trans n_szd
  replace n_srv : h_357.2.1 m_srv = F_srv := (funext fun j => (hs.a g_m_srv rfl j).1).trans n_srv
  replace n_p0 : h_357.2.1 m_p0 = F_p0 := (funext fun j => (hs.a g_m_p0 rfl j).1).trans n_p0
  replace n_y_p0 : h_357.2.1 y_p0 = F_p0 := (funext fun j => (hs.a g_y_p0 rfl j).1).trans n_y_p0
  replace n_p1 : h_357.2.1 m_p1 = F_p1 := (funext fun j => (hs.a g_m_p1 rfl j).1).trans n_p1
  replace n_y_p1 : h_357.2.1 y_p1 = F_p1 := (funext fun j => (hs.a g_y_p1 rfl j).1).trans n_y_p1
  replace n_p2 : h_357.2.1 m_p2 = F_p2 := (funext fun j => (hs.a g_m_p2 rfl j).1).trans n_p2
  replace n_y_p2 : h_357.2.1 y_p2 = F_p2 := (funext fun j => (hs.a g_y_p2 rfl j).1).trans n_y_p2
  replace n_p3 : h_357.2.1 m_p3 = F_p3 := (funext fun j => (hs.a g_m_p3 rfl j).1).trans n_p3
  replace n_y_p3 : h_357.2.1 y_p3 = F_p3 := (funext fun j => (hs.a g_y_p3 rfl j).1).trans n_y_p3
  replace n_p4 : h_357.2.1 m_p4 = F_p4 := (funext fun j => (hs.a g_m_p4 rfl j).1).trans n_p4
  replace n_y_p4 : h_357.2.1 y_p4 = F_p4 := (funext fun j => (hs.a g_y_p4 rfl j).1).trans n_y_p4
  replace n_y_ls : h_357.2.1 y_ls = F_y_ls := (funext fun j => (hs.a g_y_ls rfl j).1).trans n_y_ls
  replace n_m_rl : h_357.2.1 m_rl = F_m_rl := (funext fun j => (hs.a g_m_rl rfl j).1).trans n_m_rl
  replace gx := gx.S hs
  replace gm := gm.S hs
  replace g_qa := g_qa.S hs
  replace g_qp := g_qp.S hs
  replace g_qc := g_qc.S hs
  replace g_qh := g_qh.S hs
  replace g_qw := g_qw.S hs
  replace g_ql := g_ql.S hs
  replace g_mw := g_mw.S hs
  replace g_mr := g_mr.S hs
  replace g_mp := g_mp.S hs
  replace g_mn := g_mn.S hs
  replace g_ml := g_ml.S hs
  replace g_mh := g_mh.S hs
  replace g_mt := g_mt.S hs
  replace g_m_fou := g_m_fou.S hs
  replace g_qo_ln := g_qo_ln.S hs
  replace g_qo_py := g_qo_py.S hs
  replace g_b_of := g_b_of.S hs
  replace g_m_of := g_m_of.S hs
  replace g_b_wf := g_b_wf.S hs
  replace g_m_wf := g_m_wf.S hs
  replace g_b_df := g_b_df.S hs
  replace g_m_df := g_m_df.S hs
  replace g_b_kf := g_b_kf.S hs
  replace g_m_kf := g_m_kf.S hs
  replace g_b_sf := g_b_sf.S hs
  replace g_m_sf := g_m_sf.S hs
  replace g_b_bf := g_b_bf.S hs
  replace g_m_lst := g_m_lst.S hs
  replace g_qtp := g_qtp.S hs
  replace g_m_tp := g_m_tp.S hs
  replace g_m_dead := g_m_dead.S hs
  replace g_m_isj := g_m_isj.S hs
  replace g_m_dox := g_m_dox.S hs
  replace g_m_doy := g_m_doy.S hs
  replace g_qlt := g_qlt.S hs
  replace g_qlf := g_qlf.S hs
  replace g_m_wkd := g_m_wkd.S hs
  replace g_m_aga := g_m_aga.S hs
  replace g_qwo := g_qwo.S hs
  replace g_m_ad := g_m_ad.S hs
  replace g_m_by := g_m_by.S hs
  replace g_m_ho := g_m_ho.S hs
  replace g_m_fc := g_m_fc.S hs
  replace g_m_nt := g_m_nt.S hs
  replace g_m_wt := g_m_wt.S hs
  replace g_m_be := g_m_be.S hs
  replace g_m_bor := g_m_bor.S hs
  replace g_m_kin := g_m_kin.S hs
  replace g_m_sum := g_m_sum.S hs
  replace g_m_fro := g_m_fro.S hs
  replace g_m_fil := g_m_fil.S hs
  replace g_m_jud := g_m_jud.S hs
  replace g_m_ear := g_m_ear.S hs
  replace g_m_hds := g_m_hds.S hs
  replace g_m_ord := g_m_ord.S hs
  replace g_m_wkl := g_m_wkl.S hs
  replace g_m_owd := g_m_owd.S hs
  replace g_m_gds := g_m_gds.S hs
  replace g_m_szd := g_m_szd.S hs
  replace g_m_srv := g_m_srv.S hs
  replace g_y_p0 := g_y_p0.S hs
  replace g_m_p0 := g_m_p0.S hs
  replace g_y_p1 := g_y_p1.S hs
  replace g_m_p1 := g_m_p1.S hs
  replace g_y_p2 := g_y_p2.S hs
  replace g_m_p2 := g_m_p2.S hs
  replace g_y_p3 := g_y_p3.S hs
  replace g_m_p3 := g_m_p3.S hs
  replace g_y_p4 := g_y_p4.S hs
  replace g_m_p4 := g_m_p4.S hs
  replace g_qrg9 := g_qrg9.S hs
  replace g_y_ls := g_y_ls.S hs
  replace g_m_rl := g_m_rl.S hs
  replace gq_339 := gq_339.S hs
  replace gq_354 := gq_354.S hs
  refine lv_pop hx hb dL_law_659 rfl ?_
  refine lv_goto (tgt := 1379) hx hb dL_law_660 ?o72 ?_
  case o72 => decide
  have heq := hy_bk (congrArg Int32.toInt (hy_bs_c eb_of eb_wf eb_df eb_kf eb_sf _ (Nat.le_refl _))) (congrArg Prod.snd (hy_G_c hBD eb_of eb_wf eb_df eb_kf eb_sf _ (Nat.le_refl _))) (hy_dr_c eb_of eb_df (fun x hx => (hDY x hx).1) _ (Nat.le_refl _)).1 hr_345 hr_360
  refine W.widen (k := CC + 3) (n := SS + 179) ?o73 ?o74 ?_
  case o73 => omega
  case o74 => omega
  refine kk L_356 h_357 H locs ls hW ⟨hT, gx, gm, ⟨f_x_now.trans f_m_now.symm, f_x_personCount.trans f_m_persons.symm, f_x_claimCount.trans f_m_claims.symm, f_x_tapeLength.trans f_m_taped.symm, f_x_actCount.trans f_m_acts.symm, f_x_heardCount.trans f_m_heardMany.symm, hx_ob f_qo_ln (f_o_ln.trans f_m_lines.symm), hx_ob f_qw (f_o_lsd.trans f_m_listed.symm), hx_ob f_qw (f_o_wkm.trans f_m_walkedMany.symm), hx_ob f_qo_py (f_o_py.trans f_m_payments.symm), hx_ob f_qp ?o75, hx_ob f_qc ?o76, (fun b a r hb ha hr => ?o77), (fun b a r hb ha hr => ?o78), (fun b a r hb ha hr => ?o79), (fun b a r hb ha hr => ?o80), (fun b a r hb ha hr => ?o81), (fun b a r hb ha hr => ?o82), (fun w q c hw hq hc => ?o83), (fun w q r hw hq hr => ?o84), (fun w q r hw hq hr => ?o85), (fun c q a hc hq ha => ?o86), (fun q r hq hr => ?o87), (fun q w a b c d e p hq hw ha hb hc hd he hp => ?o88), (fun c q a hc hq ha => ?o89), (fun q c a hq hc ha => ?o90), (fun a b ha hb => ?o91), (fun c a b d e f hc ha hb hd he hf => ?o92), (fun c a hc ha => ?o93), hx_ob2 f_qp f_m_bor (cl_bor.trans n_bor.symm), hx_ob2 f_qp f_m_kin (cl_kin.trans n_kin.symm), hx_ob2 f_qc f_m_sum (cl_sum.trans n_sum.symm), hx_ob2 f_qc f_m_fro (cl_fro.trans n_fro.symm), hx_ob2 f_qc f_m_fil (cl_fil.trans n_fil.symm), hx_ob2 f_qc f_mh (cl_hea.trans n_mh.symm), hx_ob2 f_qc f_m_jud (cl_jud.trans n_jud.symm), hx_ob2 f_qp f_m_ear (cl_ear.trans n_ear.symm), hx_ob2 f_qp f_m_hds (cl_hds.trans n_hds.symm), hx_ob2 f_qc f_m_ord (cl_ord.trans n_ord.symm), hx_ob2 f_qc f_m_wkl (cl_wkl.trans n_wkl.symm), hx_ob2 f_qc f_m_owd (cl_owd.trans n_owd.symm), hx_ob2 f_qc f_m_gds (cl_gds.trans n_gds.symm), hx_ob2 f_qc f_m_szd (cl_szd.trans n_szd.symm), hx_ob2 f_qc f_m_srv (cl_srv.trans n_srv.symm), (fun p q r hp hq hr => ?o94), (fun p q r hp hq hr => ?o95), (fun p q r hp hq hr => ?o96), (fun p q r hp hq hr => ?o97), (fun p q r hp hq hr => ?o98), (fun p hp => ?o99), (fun p q r hp hq hr => ?o100), hx_ob2 f_qp f_m_dead ?o101, hx_ob2 f_qp f_m_isj ?o102, hx_ob2 f_qp f_m_dox ?o103, hx_ob2 f_qp f_m_doy ?o104, hx_ob2 f_qc f_m_fou ?o105, hx_ob2 f_qc f_mt ?o106, trivial⟩, ⟨hx_ob f_qa pf_qa, hx_ob f_qp pf_qp, hx_ob f_qc pf_qc, hx_ob f_qh pf_qh, (fun w q hw hq => ?o107)⟩, ⟨hx_ob f_mw ?o108, hx_ob f_mr ?o109, hx_ob2 f_mp f_mn ?o110, hx_ob f_ml ?o111, hx_ob f_mh ?o112, hx_ob f_mt ?o113, hx_ob2 f_mh f_m_fou ?o115⟩⟩ hl
  case o75 =>
    rw [f_x_personCount]
    exact nu_qp
  case o76 =>
    rw [f_x_claimCount]
    exact nu_qc
  case o77 =>
    obtain rfl : qo_ln = b := Option.some.inj (f_qo_ln.symm.trans hb)
    obtain rfl : b_of = a := Option.some.inj (f_b_of.symm.trans ha)
    obtain rfl : m_of = r := Option.some.inj (f_m_of.symm.trans hr)
    rw [n_b_of, n_m_of, f_o_ln]
    exact eb_of
  case o78 =>
    obtain rfl : qo_ln = b := Option.some.inj (f_qo_ln.symm.trans hb)
    obtain rfl : b_wf = a := Option.some.inj (f_b_wf.symm.trans ha)
    obtain rfl : m_wf = r := Option.some.inj (f_m_wf.symm.trans hr)
    rw [n_b_wf, n_m_wf, f_o_ln]
    exact eb_wf
  case o79 =>
    obtain rfl : qo_ln = b := Option.some.inj (f_qo_ln.symm.trans hb)
    obtain rfl : b_df = a := Option.some.inj (f_b_df.symm.trans ha)
    obtain rfl : m_df = r := Option.some.inj (f_m_df.symm.trans hr)
    rw [n_b_df, n_m_df, f_o_ln]
    exact eb_df
  case o80 =>
    obtain rfl : qo_ln = b := Option.some.inj (f_qo_ln.symm.trans hb)
    obtain rfl : b_kf = a := Option.some.inj (f_b_kf.symm.trans ha)
    obtain rfl : m_kf = r := Option.some.inj (f_m_kf.symm.trans hr)
    rw [n_b_kf, n_m_kf, f_o_ln]
    exact eb_kf
  case o81 =>
    obtain rfl : qo_ln = b := Option.some.inj (f_qo_ln.symm.trans hb)
    obtain rfl : b_sf = a := Option.some.inj (f_b_sf.symm.trans ha)
    obtain rfl : m_sf = r := Option.some.inj (f_m_sf.symm.trans hr)
    rw [n_b_sf, n_m_sf, f_o_ln]
    exact eb_sf
  case o82 =>
    obtain rfl : qo_ln = b := Option.some.inj (f_qo_ln.symm.trans hb)
    obtain rfl : b_df = a := Option.some.inj (f_b_df.symm.trans ha)
    obtain rfl : b_bf = r := Option.some.inj (f_b_bf.symm.trans hr)
    rw [n_b_df, n_b_bf, f_o_ln]
    exact ⟨hBD, hDY⟩
  case o83 =>
    obtain rfl : qw = w := Option.some.inj (f_qw.symm.trans hw)
    obtain rfl : ql = q := Option.some.inj (f_ql.symm.trans hq)
    obtain rfl : qc = c := Option.some.inj (f_qc.symm.trans hc)
    exact sb_list
  case o84 =>
    obtain rfl : qw = w := Option.some.inj (f_qw.symm.trans hw)
    obtain rfl : ql = q := Option.some.inj (f_ql.symm.trans hq)
    obtain rfl : m_lst = r := Option.some.inj (f_m_lst.symm.trans hr)
    rw [cl_lst, n_lst]
    exact eq_lst
  case o85 =>
    obtain rfl : qw = w := Option.some.inj (f_qw.symm.trans hw)
    obtain rfl : qlt = q := Option.some.inj (f_qlt.symm.trans hq)
    obtain rfl : m_wkd = r := Option.some.inj (f_m_wkd.symm.trans hr)
    rw [n_qlt, n_m_wkd, f_o_wkm]
    exact eb_wkd
  case o86 =>
    obtain rfl : qc = c := Option.some.inj (f_qc.symm.trans hc)
    obtain rfl : qp = q := Option.some.inj (f_qp.symm.trans hq)
    obtain rfl : m_aga = a := Option.some.inj (f_m_aga.symm.trans ha)
    rw [n_aga, f_x_claimCount]
    exact hw_DF_e hDF rfl rfl
  case o87 =>
    obtain rfl : qtp = q := Option.some.inj (f_qtp.symm.trans hq)
    obtain rfl : m_tp = r := Option.some.inj (f_m_tp.symm.trans hr)
    exact n_qtp.trans n_tp.symm
  case o88 =>
    obtain rfl : qa = q := Option.some.inj (f_qa.symm.trans hq)
    obtain rfl : qwo = w := Option.some.inj (f_qwo.symm.trans hw)
    obtain rfl : m_ad = a := Option.some.inj (f_m_ad.symm.trans ha)
    obtain rfl : mr = b := Option.some.inj (f_mr.symm.trans hb)
    obtain rfl : mn = c := Option.some.inj (f_mn.symm.trans hc)
    obtain rfl : mp = d := Option.some.inj (f_mp.symm.trans hd)
    obtain rfl : qc = e := Option.some.inj (f_qc.symm.trans he)
    obtain rfl : ml = p := Option.some.inj (f_ml.symm.trans hp)
    exact ⟨_, by rw [f_x_actCount]; exact hRA9, by rw [f_x_actCount, n_ad, n_mr, n_mn, n_mp]; exact hCA9, by rw [n_ml, f_x_claimCount]; exact hv_AC_e hAC9 rfl rfl rfl, hAB⟩
  case o89 =>
    obtain rfl : qc = c := Option.some.inj (f_qc.symm.trans hc)
    obtain rfl : qp = q := Option.some.inj (f_qp.symm.trans hq)
    obtain rfl : m_by = a := Option.some.inj (f_m_by.symm.trans ha)
    rw [n_by, f_x_claimCount]
    exact hw_DF_e hDP rfl rfl
  case o90 =>
    obtain rfl : qh = q := Option.some.inj (f_qh.symm.trans hq)
    obtain rfl : qc = c := Option.some.inj (f_qc.symm.trans hc)
    obtain rfl : m_ho = a := Option.some.inj (f_m_ho.symm.trans ha)
    rw [n_ho, f_x_heardCount, f_x_claimCount]
    exact hv_HL_e hHL rfl rfl rfl
  case o91 =>
    obtain rfl : m_ho = a := Option.some.inj (f_m_ho.symm.trans ha)
    obtain rfl : mh = b := Option.some.inj (f_mh.symm.trans hb)
    rw [n_ho, n_mh, f_m_heardMany, f_m_claims]
    exact hHO9
  case o92 =>
    obtain rfl : qc = c := Option.some.inj (f_qc.symm.trans hc)
    obtain rfl : m_fc = a := Option.some.inj (f_m_fc.symm.trans ha)
    obtain rfl : m_nt = b := Option.some.inj (f_m_nt.symm.trans hb)
    obtain rfl : m_wt = d := Option.some.inj (f_m_wt.symm.trans hd)
    obtain rfl : m_sum = e := Option.some.inj (f_m_sum.symm.trans he)
    obtain rfl : mh = f := Option.some.inj (f_mh.symm.trans hf)
    exact ⟨cF9L, by rw [f_x_claimCount]; exact hFX, by rw [n_fc, n_nt, n_wt, n_sum, n_mh, f_x_claimCount]; exact hFR9⟩
  case o93 =>
    obtain rfl : qc = c := Option.some.inj (f_qc.symm.trans hc)
    obtain rfl : m_be = a := Option.some.inj (f_m_be.symm.trans ha)
    rw [n_be, f_x_claimCount]
    exact hv_FX_e hBX rfl rfl
  case o94 =>
    obtain rfl : qo_py = p := Option.some.inj (f_qo_py.symm.trans hp)
    obtain rfl : y_p0 = q := Option.some.inj (f_y_p0.symm.trans hq)
    obtain rfl : m_p0 = r := Option.some.inj (f_m_p0.symm.trans hr)
    exact n_y_p0.trans n_p0.symm
  case o95 =>
    obtain rfl : qo_py = p := Option.some.inj (f_qo_py.symm.trans hp)
    obtain rfl : y_p1 = q := Option.some.inj (f_y_p1.symm.trans hq)
    obtain rfl : m_p1 = r := Option.some.inj (f_m_p1.symm.trans hr)
    exact n_y_p1.trans n_p1.symm
  case o96 =>
    obtain rfl : qo_py = p := Option.some.inj (f_qo_py.symm.trans hp)
    obtain rfl : y_p2 = q := Option.some.inj (f_y_p2.symm.trans hq)
    obtain rfl : m_p2 = r := Option.some.inj (f_m_p2.symm.trans hr)
    exact n_y_p2.trans n_p2.symm
  case o97 =>
    obtain rfl : qo_py = p := Option.some.inj (f_qo_py.symm.trans hp)
    obtain rfl : y_p3 = q := Option.some.inj (f_y_p3.symm.trans hq)
    obtain rfl : m_p3 = r := Option.some.inj (f_m_p3.symm.trans hr)
    exact n_y_p3.trans n_p3.symm
  case o98 =>
    obtain rfl : qo_py = p := Option.some.inj (f_qo_py.symm.trans hp)
    obtain rfl : y_p4 = q := Option.some.inj (f_y_p4.symm.trans hq)
    obtain rfl : m_p4 = r := Option.some.inj (f_m_p4.symm.trans hr)
    exact n_y_p4.trans n_p4.symm
  case o99 =>
    obtain rfl : qrg9 = p := Option.some.inj (f_qrg9.symm.trans hp)
    rw [ffv_327, ffv_328, ffv_329]
    exact hNQ9
  case o100 =>
    obtain rfl : qrg9 = p := Option.some.inj (f_qrg9.symm.trans hp)
    obtain rfl : y_ls = q := Option.some.inj (f_y_ls.symm.trans hq)
    obtain rfl : m_rl = r := Option.some.inj (f_m_rl.symm.trans hr)
    rw [n_y_ls, n_m_rl, ffv_327]
    exact hRL9
  case o101 =>
    rw [cl_dead, n_dead]
    exact eq_dead
  case o102 =>
    rw [cl_isj, n_isj]
    exact eq_isj
  case o103 =>
    rw [cl_dox, n_dox]
    exact eq_dox
  case o104 =>
    rw [cl_doy, n_doy]
    exact eq_doy
  case o105 =>
    rw [cl_fou, n_m_fou]
    exact eq_fou
  case o106 =>
    rw [cl_tri, n_mt]
    exact eq_tri
  case o107 =>
    obtain rfl : qw = w := Option.some.inj (f_qw.symm.trans hw)
    obtain rfl : ql = q := Option.some.inj (f_ql.symm.trans hq)
    exact pf_ql
  case o108 =>
    rw [n_mw]
    exact hwd
  case o109 =>
    rw [n_mr, f_m_acts]
    exact hWK
  case o110 =>
    rw [n_mp, n_mn, f_m_acts]
    exact hRP
  case o111 =>
    rw [n_ml, f_m_claims, f_m_acts]
    exact hPL
  case o112 =>
    rw [n_mh, f_m_heardMany, f_m_claims]
    exact hHC
  case o113 =>
    rw [n_mt]
    refine (hx_TR_le hTR ?o114)
    case o114 => omega
  case o115 =>
    rw [n_mh, n_m_fou, f_m_claims]
    exact hHF

set_option maxHeartbeats 4000000 in
set_option maxRecDepth 100000 in
theorem law_case_11 {p : Program} {e : Env} {s : State} {m : MethodId} {below : List Frame} {meth : Method} {c : Code} (l : Launch) {b LN : Nat} {xs : Nat → Int32} (hx : p.tables.exec = Jvm.exec) (hb : c.code = code) (hr : meth.sig.returnType = ret) (hlocks : meth.locks = false) (hml : c.maxLocals = 4) (hown : s.vm.findClass "SmallCourtLaw" = some m.cls) (hts : ∀ w ∈ hx_all, w.before #[Value.ref b] s = true) (hX : va_X b LN xs s s.heap) (hbl : b < s.heap.size) (hbA : ¬ s.heap.size ≤ b) (hLN : LN ≤ 3584) (dC : Nat → ClassId) (dI : Nat → Nat → Nat) (dA : Nat → ClassId) (b0 : hx_z) (ax am : Nat) (T1 : Int) (hT0 : 0 ≤ T1) (hT1 : T1 ≤ 511) (i : Int32) (hi0 : 0 ≤ i.toInt) (hiL : i.toInt + 7 ≤ LN) (CC SS : Nat) (hCC : CC + 3 ≤ 600000) (hSS : SS + 179 ≤ 7302250) (L1 : List Nat) (hl1 : hx_h) (H : Heap) (locs : List Loc) (ls : Array Slot) (hW : hx_W T_tb (P_ty dA) (dC, dI) vwCl (fun q : Nat => s.heap.size ≤ q) s.heap L1 hl1 s H locs) (hZ : hx_Xt (fun q : Nat => s.heap.size ≤ q) b0 s) (hI : hx_IV T1 ax am L1 hl1) (hl : lv_has ls 4 [(3, .int i), (2, .ref am), (1, .ref ax), (0, .ref b)]) (kk : ∀ (L2 : List Nat) (h2 : hx_h) (H2 : Heap) (locs2 : List Loc) (ls2 : Array Slot), hx_W T_tb (P_ty dA) (dC, dI) vwCl (fun q : Nat => s.heap.size ≤ q) s.heap L2 h2 s H2 locs2 → hx_IV (T1 + 1) ax am L2 h2 → lv_has ls2 4 [(3, .int i), (2, .ref am), (1, .ref ax), (0, .ref b)] → W p l e room_1 s m #[Value.ref b] below meth c H2 locs2 (CC + 3) (SS + 179) (lw_Z below #[Value.ref b] s) (F0 m 1379 ls2 [])) : W p l e room_1 s m #[Value.ref b] below meth c H locs CC SS (lw_Z below #[Value.ref b] s) (F0 m 663 ls []) := by
  have hI9 := hI
  have hT := hI9.1
  replace hI9 := hI9.2
  have gx := hI9.1
  replace hI9 := hI9.2
  have gm := hI9.1
  replace hI9 := hI9.2
  have zq0_3 := hI9.1
  have he_nw := zq0_3.1
  replace zq0_3 := zq0_3.2
  have he_np := zq0_3.1
  replace zq0_3 := zq0_3.2
  have he_c0 := zq0_3.1
  replace zq0_3 := zq0_3.2
  have he_tl := zq0_3.1
  replace zq0_3 := zq0_3.2
  have he_a0 := zq0_3.1
  replace zq0_3 := zq0_3.2
  have he_m0 := zq0_3.1
  replace zq0_3 := zq0_3.2
  have ho_ln := zq0_3.1
  replace zq0_3 := zq0_3.2
  have ho_lsd := zq0_3.1
  replace zq0_3 := zq0_3.2
  have ho_wkm := zq0_3.1
  replace zq0_3 := zq0_3.2
  have ho_py := zq0_3.1
  replace zq0_3 := zq0_3.2
  have hn_qp := zq0_3.1
  replace zq0_3 := zq0_3.2
  have hn_qc := zq0_3.1
  replace zq0_3 := zq0_3.2
  have hk_of := zq0_3.1
  replace zq0_3 := zq0_3.2
  have hk_wf := zq0_3.1
  replace zq0_3 := zq0_3.2
  have hk_df := zq0_3.1
  replace zq0_3 := zq0_3.2
  have hk_kf := zq0_3.1
  replace zq0_3 := zq0_3.2
  have hk_sf := zq0_3.1
  replace zq0_3 := zq0_3.2
  have hkBD := zq0_3.1
  replace zq0_3 := zq0_3.2
  have hLQ := zq0_3.1
  replace zq0_3 := zq0_3.2
  have hLE := zq0_3.1
  replace zq0_3 := zq0_3.2
  have hkWD := zq0_3.1
  replace zq0_3 := zq0_3.2
  have hkDF := zq0_3.1
  replace zq0_3 := zq0_3.2
  have hkTP := zq0_3.1
  replace zq0_3 := zq0_3.2
  have hkAC := zq0_3.1
  replace zq0_3 := zq0_3.2
  have hkDP := zq0_3.1
  replace zq0_3 := zq0_3.2
  have hkHL := zq0_3.1
  replace zq0_3 := zq0_3.2
  have hkHO := zq0_3.1
  replace zq0_3 := zq0_3.2
  have hkFX := zq0_3.1
  replace zq0_3 := zq0_3.2
  have hkBX := zq0_3.1
  replace zq0_3 := zq0_3.2
  have hf_bor := zq0_3.1
  replace zq0_3 := zq0_3.2
  have hf_kin := zq0_3.1
  replace zq0_3 := zq0_3.2
  have hf_sum := zq0_3.1
  replace zq0_3 := zq0_3.2
  have hf_fro := zq0_3.1
  replace zq0_3 := zq0_3.2
  have hf_fil := zq0_3.1
  replace zq0_3 := zq0_3.2
  have hf_hea := zq0_3.1
  replace zq0_3 := zq0_3.2
  have hf_jud := zq0_3.1
  replace zq0_3 := zq0_3.2
  have hf_ear := zq0_3.1
  replace zq0_3 := zq0_3.2
  have hf_hds := zq0_3.1
  replace zq0_3 := zq0_3.2
  have hf_ord := zq0_3.1
  replace zq0_3 := zq0_3.2
  have hf_wkl := zq0_3.1
  replace zq0_3 := zq0_3.2
  have hf_owd := zq0_3.1
  replace zq0_3 := zq0_3.2
  have hf_gds := zq0_3.1
  replace zq0_3 := zq0_3.2
  have hf_szd := zq0_3.1
  replace zq0_3 := zq0_3.2
  have hf_srv := zq0_3.1
  replace zq0_3 := zq0_3.2
  have hkP0 := zq0_3.1
  replace zq0_3 := zq0_3.2
  have hkP1 := zq0_3.1
  replace zq0_3 := zq0_3.2
  have hkP2 := zq0_3.1
  replace zq0_3 := zq0_3.2
  have hkP3 := zq0_3.1
  replace zq0_3 := zq0_3.2
  have hkP4 := zq0_3.1
  replace zq0_3 := zq0_3.2
  have hkNQ := zq0_3.1
  replace zq0_3 := zq0_3.2
  have hkRL := zq0_3.1
  replace zq0_3 := zq0_3.2
  have hc_dead := zq0_3.1
  replace zq0_3 := zq0_3.2
  have hc_isj := zq0_3.1
  replace zq0_3 := zq0_3.2
  have hc_dox := zq0_3.1
  replace zq0_3 := zq0_3.2
  have hc_doy := zq0_3.1
  replace zq0_3 := zq0_3.2
  have hc_fou := zq0_3.1
  replace zq0_3 := zq0_3.2
  have hc_tri := zq0_3.1
  replace zq0_3 := zq0_3.2
  replace hI9 := hI9.2
  have zq0_4 := hI9.1
  have ia := zq0_4.1
  replace zq0_4 := zq0_4.2
  have ip := zq0_4.1
  replace zq0_4 := zq0_4.2
  have ic := zq0_4.1
  replace zq0_4 := zq0_4.2
  have ih := zq0_4.1
  replace zq0_4 := zq0_4.2
  have il := zq0_4
  replace hI9 := hI9.2
  have zq0_5 := hI9
  have jw := zq0_5.1
  replace zq0_5 := zq0_5.2
  have jr := zq0_5.1
  replace zq0_5 := zq0_5.2
  have jp := zq0_5.1
  replace zq0_5 := zq0_5.2
  have jl := zq0_5.1
  replace zq0_5 := zq0_5.2
  have jh := zq0_5.1
  replace zq0_5 := zq0_5.2
  have jt := zq0_5.1
  replace zq0_5 := zq0_5.2
  have jf := zq0_5
  obtain ⟨qa, f_qa, g_qa⟩ := hx_rf hT gx tt_9 (k := 5) (u := 43) rfl
  have pf_qa := ia qa f_qa
  obtain ⟨qp, f_qp, g_qp⟩ := hx_rf hT gx tt_9 (k := 7) (u := 44) rfl
  have pf_qp := ip qp f_qp
  obtain ⟨qc, f_qc, g_qc⟩ := hx_rf hT gx tt_9 (k := 10) (u := 45) rfl
  have pf_qc := ic qc f_qc
  obtain ⟨qh, f_qh, g_qh⟩ := hx_rf hT gx tt_9 (k := 12) (u := 46) rfl
  have pf_qh := ih qh f_qh
  obtain ⟨qw, f_qw, g_qw⟩ := hx_rf hT gx tt_9 (k := 19) (u := 8) rfl
  obtain ⟨ql, f_ql, g_ql⟩ := hx_rf hT g_qw tt_8 (k := 3) (u := 40) rfl
  have pf_ql := il qw ql f_qw f_ql
  obtain ⟨nw, f_m_now⟩ : ∃ y : Int32, hl1.2.1 am 0 = y := ⟨_, rfl⟩
  have b_nw := hT.gi gm tt_10 (k := 0) rfl
  rw [f_m_now] at b_nw
  have b_nw : 0 ≤ nw.toInt ∧ nw.toInt ≤ 7999 := b_nw
  obtain ⟨np, f_m_persons⟩ : ∃ y : Int32, hl1.2.1 am 20 = y := ⟨_, rfl⟩
  have b_np := hT.gi gm tt_10 (k := 20) rfl
  rw [f_m_persons] at b_np
  have b_np : 0 ≤ np.toInt ∧ np.toInt ≤ 40 := b_np
  obtain ⟨c0, f_m_claims⟩ : ∃ y : Int32, hl1.2.1 am 36 = y := ⟨_, rfl⟩
  have b_c0 := hT.gi gm tt_10 (k := 36) rfl
  rw [f_m_claims] at b_c0
  have b_c0 : 0 ≤ c0.toInt ∧ c0.toInt ≤ 100 := b_c0
  obtain ⟨tl, f_m_taped⟩ : ∃ y : Int32, hl1.2.1 am 7 = y := ⟨_, rfl⟩
  have b_tl := hT.gi gm tt_10 (k := 7) rfl
  rw [f_m_taped] at b_tl
  have b_tl : 0 ≤ tl.toInt ∧ tl.toInt ≤ 400 := b_tl
  obtain ⟨a0, f_m_acts⟩ : ∃ y : Int32, hl1.2.1 am 1 = y := ⟨_, rfl⟩
  have b_a0 := hT.gi gm tt_10 (k := 1) rfl
  rw [f_m_acts] at b_a0
  have b_a0 : 0 ≤ a0.toInt ∧ a0.toInt ≤ 8 := b_a0
  obtain ⟨m0, f_m_heardMany⟩ : ∃ y : Int32, hl1.2.1 am 57 = y := ⟨_, rfl⟩
  have b_m0 := hT.gi gm tt_10 (k := 57) rfl
  rw [f_m_heardMany] at b_m0
  have b_m0 : 0 ≤ m0.toInt ∧ m0.toInt ≤ 100 := b_m0
  obtain ⟨ln, f_m_lines⟩ : ∃ y : Int32, hl1.2.1 am 29 = y := ⟨_, rfl⟩
  have b_ln := hT.gi gm tt_10 (k := 29) rfl
  rw [f_m_lines] at b_ln
  have b_ln : 0 ≤ ln.toInt ∧ ln.toInt ≤ 400 := b_ln
  obtain ⟨lsd, f_m_listed⟩ : ∃ y : Int32, hl1.2.1 am 90 = y := ⟨_, rfl⟩
  have b_lsd := hT.gi gm tt_10 (k := 90) rfl
  rw [f_m_listed] at b_lsd
  have b_lsd : 0 ≤ lsd.toInt ∧ lsd.toInt ≤ 8 := b_lsd
  obtain ⟨wkm, f_m_walkedMany⟩ : ∃ y : Int32, hl1.2.1 am 92 = y := ⟨_, rfl⟩
  have b_wkm := hT.gi gm tt_10 (k := 92) rfl
  rw [f_m_walkedMany] at b_wkm
  have b_wkm : 0 ≤ wkm.toInt ∧ wkm.toInt ≤ 8 := b_wkm
  obtain ⟨py, f_m_payments⟩ : ∃ y : Int32, hl1.2.1 am 59 = y := ⟨_, rfl⟩
  have b_py := hT.gi gm tt_10 (k := 59) rfl
  rw [f_m_payments] at b_py
  have b_py : 0 ≤ py.toInt ∧ py.toInt ≤ 600 := b_py
  have f_x_now : hl1.2.1 ax 2 = nw := he_nw.trans f_m_now
  have f_x_personCount : hl1.2.1 ax 8 = np := he_np.trans f_m_persons
  have f_x_claimCount : hl1.2.1 ax 11 = c0 := he_c0.trans f_m_claims
  have f_x_tapeLength : hl1.2.1 ax 1 = tl := he_tl.trans f_m_taped
  have f_x_actCount : hl1.2.1 ax 6 = a0 := he_a0.trans f_m_acts
  have f_x_heardCount : hl1.2.1 ax 13 = m0 := he_m0.trans f_m_heardMany
  obtain ⟨mw, f_mw, g_mw⟩ := hx_rf hT gm tt_10 (k := 19) (u := 57) rfl
  obtain ⟨F_mw, n_mw⟩ : ∃ g : Nat → Int32, hl1.2.1 mw = g := ⟨_, rfl⟩
  obtain ⟨mr, f_mr, g_mr⟩ := hx_rf hT gm tt_10 (k := 3) (u := 50) rfl
  obtain ⟨F_mr, n_mr⟩ : ∃ g : Nat → Int32, hl1.2.1 mr = g := ⟨_, rfl⟩
  obtain ⟨mp, f_mp, g_mp⟩ := hx_rf hT gm tt_10 (k := 5) (u := 52) rfl
  obtain ⟨F_mp, n_mp⟩ : ∃ g : Nat → Int32, hl1.2.1 mp = g := ⟨_, rfl⟩
  obtain ⟨mn, f_mn, g_mn⟩ := hx_rf hT gm tt_10 (k := 4) (u := 51) rfl
  obtain ⟨F_mn, n_mn⟩ : ∃ g : Nat → Int32, hl1.2.1 mn = g := ⟨_, rfl⟩
  obtain ⟨ml, f_ml, g_ml⟩ := hx_rf hT gm tt_10 (k := 44) (u := 79) rfl
  obtain ⟨F_ml, n_ml⟩ : ∃ g : Nat → Int32, hl1.2.1 ml = g := ⟨_, rfl⟩
  obtain ⟨mh, f_mh, g_mh⟩ := hx_rf hT gm tt_10 (k := 47) (u := 82) rfl
  obtain ⟨F_mh, n_mh⟩ : ∃ g : Nat → Int32, hl1.2.1 mh = g := ⟨_, rfl⟩
  obtain ⟨mt, f_mt, g_mt⟩ := hx_rf hT gm tt_10 (k := 45) (u := 80) rfl
  obtain ⟨F_mt, n_mt⟩ : ∃ g : Nat → Int32, hl1.2.1 mt = g := ⟨_, rfl⟩
  obtain ⟨m_fou, f_m_fou, g_m_fou⟩ := hx_rf hT gm tt_10 (k := 46) (u := 81) rfl
  obtain ⟨F_m_fou, n_m_fou⟩ : ∃ g : Nat → Int32, hl1.2.1 m_fou = g := ⟨_, rfl⟩
  obtain ⟨qo_ln, f_qo_ln, g_qo_ln⟩ := hx_rf hT gx tt_9 (k := 9) (u := 1) rfl
  have f_o_ln : hl1.2.1 qo_ln 0 = ln := (ho_ln qo_ln f_qo_ln).trans f_m_lines
  have f_o_lsd : hl1.2.1 qw 0 = lsd := (ho_lsd qw f_qw).trans f_m_listed
  have f_o_wkm : hl1.2.1 qw 1 = wkm := (ho_wkm qw f_qw).trans f_m_walkedMany
  obtain ⟨qo_py, f_qo_py, g_qo_py⟩ := hx_rf hT gx tt_9 (k := 14) (u := 3) rfl
  have f_o_py : hl1.2.1 qo_py 0 = py := (ho_py qo_py f_qo_py).trans f_m_payments
  have nu_qp := hn_qp qp f_qp; rw [f_x_personCount] at nu_qp
  have nu_qc := hn_qc qc f_qc; rw [f_x_claimCount] at nu_qc
  obtain ⟨b_of, f_b_of, g_b_of⟩ := hx_rf hT g_qo_ln tt_1 (k := 1) (u := 13) rfl
  obtain ⟨B_of, n_b_of⟩ : ∃ g : Nat → Int32, hl1.2.1 b_of = g := ⟨_, rfl⟩
  obtain ⟨m_of, f_m_of, g_m_of⟩ := hx_rf hT gm tt_10 (k := 30) (u := 66) rfl
  obtain ⟨F_of, n_m_of⟩ : ∃ g : Nat → Int32, hl1.2.1 m_of = g := ⟨_, rfl⟩
  have eb_of := hk_of qo_ln b_of m_of f_qo_ln f_b_of f_m_of; rw [n_b_of, n_m_of, f_o_ln] at eb_of
  obtain ⟨b_wf, f_b_wf, g_b_wf⟩ := hx_rf hT g_qo_ln tt_1 (k := 2) (u := 14) rfl
  obtain ⟨B_wf, n_b_wf⟩ : ∃ g : Nat → Int32, hl1.2.1 b_wf = g := ⟨_, rfl⟩
  obtain ⟨m_wf, f_m_wf, g_m_wf⟩ := hx_rf hT gm tt_10 (k := 31) (u := 67) rfl
  obtain ⟨F_wf, n_m_wf⟩ : ∃ g : Nat → Int32, hl1.2.1 m_wf = g := ⟨_, rfl⟩
  have eb_wf := hk_wf qo_ln b_wf m_wf f_qo_ln f_b_wf f_m_wf; rw [n_b_wf, n_m_wf, f_o_ln] at eb_wf
  obtain ⟨b_df, f_b_df, g_b_df⟩ := hx_rf hT g_qo_ln tt_1 (k := 3) (u := 15) rfl
  obtain ⟨B_df, n_b_df⟩ : ∃ g : Nat → Int32, hl1.2.1 b_df = g := ⟨_, rfl⟩
  obtain ⟨m_df, f_m_df, g_m_df⟩ := hx_rf hT gm tt_10 (k := 32) (u := 68) rfl
  obtain ⟨F_df, n_m_df⟩ : ∃ g : Nat → Int32, hl1.2.1 m_df = g := ⟨_, rfl⟩
  have eb_df := hk_df qo_ln b_df m_df f_qo_ln f_b_df f_m_df; rw [n_b_df, n_m_df, f_o_ln] at eb_df
  obtain ⟨b_kf, f_b_kf, g_b_kf⟩ := hx_rf hT g_qo_ln tt_1 (k := 4) (u := 16) rfl
  obtain ⟨B_kf, n_b_kf⟩ : ∃ g : Nat → Int32, hl1.2.1 b_kf = g := ⟨_, rfl⟩
  obtain ⟨m_kf, f_m_kf, g_m_kf⟩ := hx_rf hT gm tt_10 (k := 33) (u := 69) rfl
  obtain ⟨F_kf, n_m_kf⟩ : ∃ g : Nat → Int32, hl1.2.1 m_kf = g := ⟨_, rfl⟩
  have eb_kf := hk_kf qo_ln b_kf m_kf f_qo_ln f_b_kf f_m_kf; rw [n_b_kf, n_m_kf, f_o_ln] at eb_kf
  obtain ⟨b_sf, f_b_sf, g_b_sf⟩ := hx_rf hT g_qo_ln tt_1 (k := 5) (u := 17) rfl
  obtain ⟨B_sf, n_b_sf⟩ : ∃ g : Nat → Int32, hl1.2.1 b_sf = g := ⟨_, rfl⟩
  obtain ⟨m_sf, f_m_sf, g_m_sf⟩ := hx_rf hT gm tt_10 (k := 34) (u := 70) rfl
  obtain ⟨F_sf, n_m_sf⟩ : ∃ g : Nat → Int32, hl1.2.1 m_sf = g := ⟨_, rfl⟩
  have eb_sf := hk_sf qo_ln b_sf m_sf f_qo_ln f_b_sf f_m_sf; rw [n_b_sf, n_m_sf, f_o_ln] at eb_sf
  obtain ⟨b_bf, f_b_bf, g_b_bf⟩ := hx_rf hT g_qo_ln tt_1 (k := 6) (u := 18) rfl
  obtain ⟨bfL, n_b_bf⟩ : ∃ g : Nat → Int32, hl1.2.1 b_bf = g := ⟨_, rfl⟩
  obtain ⟨hBD, hDY⟩ := hkBD qo_ln b_df b_bf f_qo_ln f_b_df f_b_bf; rw [n_b_df, n_b_bf, f_o_ln] at hBD; rw [n_b_df, f_o_ln] at hDY
  have hBDm := hy_BD_c eb_df hBD
  have hDYm : hy_DY F_df ln.toInt.toNat := fun x hx => by rw [← eb_df x hx]; exact hDY x hx
  have sb_list := hLQ qw ql qc f_qw f_ql f_qc
  obtain ⟨m_lst, f_m_lst, g_m_lst⟩ := hx_rf hT gm tt_10 (k := 91) (u := 112) rfl
  obtain ⟨F_lst, n_lst⟩ : ∃ g : Nat → Int32, hl1.2.1 m_lst = g := ⟨_, rfl⟩
  obtain ⟨c_lst, cl_lst⟩ : ∃ g : Nat → Int32, hx_col 8 hl1 ql 0 = g := ⟨_, rfl⟩
  have eq_lst := hLE qw ql m_lst f_qw f_ql f_m_lst; rw [cl_lst, n_lst] at eq_lst
  obtain ⟨qtp, f_qtp, g_qtp⟩ := hx_rf hT gx tt_9 (k := 0) (u := 42) rfl
  obtain ⟨m_tp, f_m_tp, g_m_tp⟩ := hx_rf hT gm tt_10 (k := 6) (u := 53) rfl
  obtain ⟨F_tp, n_tp⟩ : ∃ g : Nat → Int32, hl1.2.1 m_tp = g := ⟨_, rfl⟩
  have n_qtp : hl1.2.1 qtp = F_tp := (hkTP qtp m_tp f_qtp f_m_tp).trans n_tp
  obtain ⟨c_dead, cl_dead⟩ : ∃ g : Nat → Int32, hx_col 40 hl1 qp 7 = g := ⟨_, rfl⟩
  obtain ⟨m_dead, f_m_dead, g_m_dead⟩ := hx_rf hT gm tt_10 (k := 27) (u := 64) rfl
  obtain ⟨F_dead, n_dead⟩ : ∃ g : Nat → Int32, hl1.2.1 m_dead = g := ⟨_, rfl⟩
  have eq_dead := hc_dead qp m_dead f_qp f_m_dead; rw [cl_dead, n_dead] at eq_dead
  have z_dead : np.toInt.toNat < 40 → c_dead np.toInt.toNat = 0 := fun hj => hx_num_z nu_qp cl_dead hj ?o0
  case o0 => omega
  obtain ⟨c_isj, cl_isj⟩ : ∃ g : Nat → Int32, hx_col 40 hl1 qp 8 = g := ⟨_, rfl⟩
  obtain ⟨m_isj, f_m_isj, g_m_isj⟩ := hx_rf hT gm tt_10 (k := 28) (u := 65) rfl
  obtain ⟨F_isj, n_isj⟩ : ∃ g : Nat → Int32, hl1.2.1 m_isj = g := ⟨_, rfl⟩
  have eq_isj := hc_isj qp m_isj f_qp f_m_isj; rw [cl_isj, n_isj] at eq_isj
  have z_isj : np.toInt.toNat < 40 → c_isj np.toInt.toNat = 0 := fun hj => hx_num_z nu_qp cl_isj hj ?o1
  case o1 => omega
  obtain ⟨c_dox, cl_dox⟩ : ∃ g : Nat → Int32, hx_col 40 hl1 qp 5 = g := ⟨_, rfl⟩
  obtain ⟨m_dox, f_m_dox, g_m_dox⟩ := hx_rf hT gm tt_10 (k := 24) (u := 61) rfl
  obtain ⟨F_dox, n_dox⟩ : ∃ g : Nat → Int32, hl1.2.1 m_dox = g := ⟨_, rfl⟩
  have eq_dox := hc_dox qp m_dox f_qp f_m_dox; rw [cl_dox, n_dox] at eq_dox
  have z_dox : np.toInt.toNat < 40 → c_dox np.toInt.toNat = 0 := fun hj => hx_num_z nu_qp cl_dox hj ?o2
  case o2 => omega
  obtain ⟨c_doy, cl_doy⟩ : ∃ g : Nat → Int32, hx_col 40 hl1 qp 6 = g := ⟨_, rfl⟩
  obtain ⟨m_doy, f_m_doy, g_m_doy⟩ := hx_rf hT gm tt_10 (k := 25) (u := 62) rfl
  obtain ⟨F_doy, n_doy⟩ : ∃ g : Nat → Int32, hl1.2.1 m_doy = g := ⟨_, rfl⟩
  have eq_doy := hc_doy qp m_doy f_qp f_m_doy; rw [cl_doy, n_doy] at eq_doy
  have z_doy : np.toInt.toNat < 40 → c_doy np.toInt.toNat = 0 := fun hj => hx_num_z nu_qp cl_doy hj ?o3
  case o3 => omega
  obtain ⟨c_fou, cl_fou⟩ : ∃ g : Nat → Int32, hx_col 100 hl1 qc 10 = g := ⟨_, rfl⟩
  have eq_fou := hc_fou qc m_fou f_qc f_m_fou; rw [cl_fou, n_m_fou] at eq_fou
  have z_fou : c0.toInt.toNat < 100 → c_fou c0.toInt.toNat = 0 := fun hj => hx_num_z nu_qc cl_fou hj ?o4
  case o4 => omega
  obtain ⟨c_tri, cl_tri⟩ : ∃ g : Nat → Int32, hx_col 100 hl1 qc 9 = g := ⟨_, rfl⟩
  have eq_tri := hc_tri qc mt f_qc f_mt; rw [cl_tri, n_mt] at eq_tri
  have z_tri : c0.toInt.toNat < 100 → c_tri c0.toInt.toNat = 0 := fun hj => hx_num_z nu_qc cl_tri hj ?o5
  case o5 => omega
  obtain ⟨qlt, f_qlt, g_qlt⟩ := hx_rf hT g_qw tt_8 (k := 2) (u := 39) rfl
  obtain ⟨qlf, f_qlf, g_qlf⟩ := hx_rf hT g_qw tt_8 (k := 4) (u := 41) rfl
  obtain ⟨m_wkd, f_m_wkd, g_m_wkd⟩ := hx_rf hT gm tt_10 (k := 93) (u := 113) rfl
  obtain ⟨F_qlt, n_qlt⟩ : ∃ g : Nat → Int32, hl1.2.1 qlt = g := ⟨_, rfl⟩
  obtain ⟨F_m_wkd, n_m_wkd⟩ : ∃ g : Nat → Int32, hl1.2.1 m_wkd = g := ⟨_, rfl⟩
  have eb_wkd := hkWD qw qlt m_wkd f_qw f_qlt f_m_wkd; rw [n_qlt, n_m_wkd, f_o_wkm] at eb_wkd
  obtain ⟨m_aga, f_m_aga, g_m_aga⟩ := hx_rf hT gm tt_10 (k := 38) (u := 73) rfl
  obtain ⟨F_aga, n_aga⟩ : ∃ g : Nat → Int32, hl1.2.1 m_aga = g := ⟨_, rfl⟩
  have hDF := hkDF qc qp m_aga f_qc f_qp f_m_aga; rw [n_aga, f_x_claimCount] at hDF
  obtain ⟨qwo, f_qwo, g_qwo⟩ := hx_rf hT gx tt_9 (k := 4) (u := 0) rfl
  obtain ⟨m_ad, f_m_ad, g_m_ad⟩ := hx_rf hT gm tt_10 (k := 2) (u := 49) rfl
  obtain ⟨F_ad, n_ad⟩ : ∃ g : Nat → Int32, hl1.2.1 m_ad = g := ⟨_, rfl⟩
  obtain ⟨A9, hRA9, hCA9, hAC9, hAB⟩ := hkAC qa qwo m_ad mr mn mp qc ml f_qa f_qwo f_m_ad f_mr f_mn f_mp f_qc f_ml
  rw [f_x_actCount] at hRA9; rw [f_x_actCount, n_ad, n_mr, n_mn, n_mp] at hCA9
  obtain ⟨m_by, f_m_by, g_m_by⟩ := hx_rf hT gm tt_10 (k := 37) (u := 72) rfl
  obtain ⟨F_by, n_by⟩ : ∃ g : Nat → Int32, hl1.2.1 m_by = g := ⟨_, rfl⟩
  obtain ⟨m_ho, f_m_ho, g_m_ho⟩ := hx_rf hT gm tt_10 (k := 58) (u := 92) rfl
  obtain ⟨F_ho, n_ho⟩ : ∃ g : Nat → Int32, hl1.2.1 m_ho = g := ⟨_, rfl⟩
  obtain ⟨m_fc, f_m_fc, g_m_fc⟩ := hx_rf hT gm tt_10 (k := 53) (u := 88) rfl
  obtain ⟨F_fc, n_fc⟩ : ∃ g : Nat → Int32, hl1.2.1 m_fc = g := ⟨_, rfl⟩
  obtain ⟨m_nt, f_m_nt, g_m_nt⟩ := hx_rf hT gm tt_10 (k := 41) (u := 76) rfl
  obtain ⟨F_nt, n_nt⟩ : ∃ g : Nat → Int32, hl1.2.1 m_nt = g := ⟨_, rfl⟩
  obtain ⟨m_wt, f_m_wt, g_m_wt⟩ := hx_rf hT gm tt_10 (k := 42) (u := 77) rfl
  obtain ⟨F_wt, n_wt⟩ : ∃ g : Nat → Int32, hl1.2.1 m_wt = g := ⟨_, rfl⟩
  obtain ⟨m_be, f_m_be, g_m_be⟩ := hx_rf hT gm tt_10 (k := 52) (u := 87) rfl
  obtain ⟨F_be, n_be⟩ : ∃ g : Nat → Int32, hl1.2.1 m_be = g := ⟨_, rfl⟩
  obtain ⟨m_bor, f_m_bor, g_m_bor⟩ := hx_rf hT gm tt_10 (k := 21) (u := 58) rfl
  obtain ⟨F_bor, n_bor⟩ : ∃ g : Nat → Int32, hl1.2.1 m_bor = g := ⟨_, rfl⟩
  obtain ⟨m_kin, f_m_kin, g_m_kin⟩ := hx_rf hT gm tt_10 (k := 26) (u := 63) rfl
  obtain ⟨F_kin, n_kin⟩ : ∃ g : Nat → Int32, hl1.2.1 m_kin = g := ⟨_, rfl⟩
  obtain ⟨m_sum, f_m_sum, g_m_sum⟩ := hx_rf hT gm tt_10 (k := 39) (u := 74) rfl
  obtain ⟨F_sum, n_sum⟩ : ∃ g : Nat → Int32, hl1.2.1 m_sum = g := ⟨_, rfl⟩
  obtain ⟨m_fro, f_m_fro, g_m_fro⟩ := hx_rf hT gm tt_10 (k := 40) (u := 75) rfl
  obtain ⟨F_fro, n_fro⟩ : ∃ g : Nat → Int32, hl1.2.1 m_fro = g := ⟨_, rfl⟩
  obtain ⟨m_fil, f_m_fil, g_m_fil⟩ := hx_rf hT gm tt_10 (k := 43) (u := 78) rfl
  obtain ⟨F_fil, n_fil⟩ : ∃ g : Nat → Int32, hl1.2.1 m_fil = g := ⟨_, rfl⟩
  obtain ⟨m_jud, f_m_jud, g_m_jud⟩ := hx_rf hT gm tt_10 (k := 51) (u := 86) rfl
  obtain ⟨F_jud, n_jud⟩ : ∃ g : Nat → Int32, hl1.2.1 m_jud = g := ⟨_, rfl⟩
  obtain ⟨m_ear, f_m_ear, g_m_ear⟩ := hx_rf hT gm tt_10 (k := 22) (u := 59) rfl
  obtain ⟨F_ear, n_ear⟩ : ∃ g : Nat → Int32, hl1.2.1 m_ear = g := ⟨_, rfl⟩
  obtain ⟨m_hds, f_m_hds, g_m_hds⟩ := hx_rf hT gm tt_10 (k := 23) (u := 60) rfl
  obtain ⟨F_hds, n_hds⟩ : ∃ g : Nat → Int32, hl1.2.1 m_hds = g := ⟨_, rfl⟩
  obtain ⟨m_ord, f_m_ord, g_m_ord⟩ := hx_rf hT gm tt_10 (k := 48) (u := 83) rfl
  obtain ⟨F_ord, n_ord⟩ : ∃ g : Nat → Int32, hl1.2.1 m_ord = g := ⟨_, rfl⟩
  obtain ⟨m_wkl, f_m_wkl, g_m_wkl⟩ := hx_rf hT gm tt_10 (k := 54) (u := 89) rfl
  obtain ⟨F_wkl, n_wkl⟩ : ∃ g : Nat → Int32, hl1.2.1 m_wkl = g := ⟨_, rfl⟩
  obtain ⟨m_owd, f_m_owd, g_m_owd⟩ := hx_rf hT gm tt_10 (k := 55) (u := 90) rfl
  obtain ⟨F_owd, n_owd⟩ : ∃ g : Nat → Int32, hl1.2.1 m_owd = g := ⟨_, rfl⟩
  obtain ⟨m_gds, f_m_gds, g_m_gds⟩ := hx_rf hT gm tt_10 (k := 56) (u := 91) rfl
  obtain ⟨F_gds, n_gds⟩ : ∃ g : Nat → Int32, hl1.2.1 m_gds = g := ⟨_, rfl⟩
  obtain ⟨m_szd, f_m_szd, g_m_szd⟩ := hx_rf hT gm tt_10 (k := 49) (u := 84) rfl
  obtain ⟨F_szd, n_szd⟩ : ∃ g : Nat → Int32, hl1.2.1 m_szd = g := ⟨_, rfl⟩
  obtain ⟨m_srv, f_m_srv, g_m_srv⟩ := hx_rf hT gm tt_10 (k := 50) (u := 85) rfl
  obtain ⟨F_srv, n_srv⟩ : ∃ g : Nat → Int32, hl1.2.1 m_srv = g := ⟨_, rfl⟩
  have cl_bor : hx_col 40 hl1 qp 1 = F_bor := (hf_bor qp m_bor f_qp f_m_bor).trans n_bor
  have cl_kin : hx_col 40 hl1 qp 2 = F_kin := (hf_kin qp m_kin f_qp f_m_kin).trans n_kin
  have cl_sum : hx_col 100 hl1 qc 6 = F_sum := (hf_sum qc m_sum f_qc f_m_sum).trans n_sum
  have cl_fro : hx_col 100 hl1 qc 7 = F_fro := (hf_fro qc m_fro f_qc f_m_fro).trans n_fro
  have cl_fil : hx_col 100 hl1 qc 8 = F_fil := (hf_fil qc m_fil f_qc f_m_fil).trans n_fil
  have cl_hea : hx_col 100 hl1 qc 11 = F_mh := (hf_hea qc mh f_qc f_mh).trans n_mh
  have cl_jud : hx_col 100 hl1 qc 12 = F_jud := (hf_jud qc m_jud f_qc f_m_jud).trans n_jud
  have cl_ear : hx_col 40 hl1 qp 3 = F_ear := (hf_ear qp m_ear f_qp f_m_ear).trans n_ear
  have cl_hds : hx_col 40 hl1 qp 4 = F_hds := (hf_hds qp m_hds f_qp f_m_hds).trans n_hds
  have cl_ord : hx_col 100 hl1 qc 13 = F_ord := (hf_ord qc m_ord f_qc f_m_ord).trans n_ord
  have cl_wkl : hx_col 100 hl1 qc 14 = F_wkl := (hf_wkl qc m_wkl f_qc f_m_wkl).trans n_wkl
  have cl_owd : hx_col 100 hl1 qc 15 = F_owd := (hf_owd qc m_owd f_qc f_m_owd).trans n_owd
  have cl_gds : hx_col 100 hl1 qc 17 = F_gds := (hf_gds qc m_gds f_qc f_m_gds).trans n_gds
  have cl_szd : hx_col 100 hl1 qc 16 = F_szd := (hf_szd qc m_szd f_qc f_m_szd).trans n_szd
  have cl_srv : hx_col 100 hl1 qc 18 = F_srv := (hf_srv qc m_srv f_qc f_m_srv).trans n_srv
  have htb9 : ∀ c, c < 100 → 0 ≤ (c_tri c).toInt ∧ (c_tri c).toInt ≤ 512 := fun c hc => by rw [eq_tri c hc]; have w := hT.ei g_mt tt_80 (k := c) hc; rw [n_mt] at w; exact w
  have z_jud : F_jud c0.toInt.toNat = 0 := hx_num_z2 nu_qc cl_jud ?o6
  case o6 => omega
  have hDP := hkDP qc qp m_by f_qc f_qp f_m_by; rw [n_by, f_x_claimCount] at hDP
  have hHL := hkHL qh qc m_ho f_qh f_qc f_m_ho; rw [n_ho, f_x_heardCount, f_x_claimCount] at hHL
  have hHO9 := hkHO m_ho mh f_m_ho f_mh; rw [n_ho, n_mh, f_m_heardMany, f_m_claims] at hHO9
  obtain ⟨cF9L, hFX, hFR9⟩ := hkFX qc m_fc m_nt m_wt m_sum mh f_qc f_m_fc f_m_nt f_m_wt f_m_sum f_mh; rw [f_x_claimCount] at hFX; rw [n_fc, n_nt, n_wt, n_sum, n_mh, f_x_claimCount] at hFR9
  have hBX := hkBX qc m_be f_qc f_m_be; rw [n_be, f_x_claimCount] at hBX
  rw [n_ml, f_x_claimCount] at hAC9
  obtain ⟨y_p0, f_y_p0, g_y_p0⟩ := hx_rf hT g_qo_py tt_3 (k := 2) (u := 23) rfl
  obtain ⟨m_p0, f_m_p0, g_m_p0⟩ := hx_rf hT gm tt_10 (k := 60) (u := 93) rfl
  obtain ⟨F_p0, n_p0⟩ : ∃ g : Nat → Int32, hl1.2.1 m_p0 = g := ⟨_, rfl⟩
  have n_y_p0 : hl1.2.1 y_p0 = F_p0 := (hkP0 qo_py y_p0 m_p0 f_qo_py f_y_p0 f_m_p0).trans n_p0
  obtain ⟨y_p1, f_y_p1, g_y_p1⟩ := hx_rf hT g_qo_py tt_3 (k := 3) (u := 24) rfl
  obtain ⟨m_p1, f_m_p1, g_m_p1⟩ := hx_rf hT gm tt_10 (k := 61) (u := 94) rfl
  obtain ⟨F_p1, n_p1⟩ : ∃ g : Nat → Int32, hl1.2.1 m_p1 = g := ⟨_, rfl⟩
  have n_y_p1 : hl1.2.1 y_p1 = F_p1 := (hkP1 qo_py y_p1 m_p1 f_qo_py f_y_p1 f_m_p1).trans n_p1
  obtain ⟨y_p2, f_y_p2, g_y_p2⟩ := hx_rf hT g_qo_py tt_3 (k := 5) (u := 26) rfl
  obtain ⟨m_p2, f_m_p2, g_m_p2⟩ := hx_rf hT gm tt_10 (k := 62) (u := 95) rfl
  obtain ⟨F_p2, n_p2⟩ : ∃ g : Nat → Int32, hl1.2.1 m_p2 = g := ⟨_, rfl⟩
  have n_y_p2 : hl1.2.1 y_p2 = F_p2 := (hkP2 qo_py y_p2 m_p2 f_qo_py f_y_p2 f_m_p2).trans n_p2
  obtain ⟨y_p3, f_y_p3, g_y_p3⟩ := hx_rf hT g_qo_py tt_3 (k := 4) (u := 25) rfl
  obtain ⟨m_p3, f_m_p3, g_m_p3⟩ := hx_rf hT gm tt_10 (k := 63) (u := 96) rfl
  obtain ⟨F_p3, n_p3⟩ : ∃ g : Nat → Int32, hl1.2.1 m_p3 = g := ⟨_, rfl⟩
  have n_y_p3 : hl1.2.1 y_p3 = F_p3 := (hkP3 qo_py y_p3 m_p3 f_qo_py f_y_p3 f_m_p3).trans n_p3
  obtain ⟨y_p4, f_y_p4, g_y_p4⟩ := hx_rf hT g_qo_py tt_3 (k := 1) (u := 22) rfl
  obtain ⟨m_p4, f_m_p4, g_m_p4⟩ := hx_rf hT gm tt_10 (k := 64) (u := 97) rfl
  obtain ⟨F_p4, n_p4⟩ : ∃ g : Nat → Int32, hl1.2.1 m_p4 = g := ⟨_, rfl⟩
  have n_y_p4 : hl1.2.1 y_p4 = F_p4 := (hkP4 qo_py y_p4 m_p4 f_qo_py f_y_p4 f_m_p4).trans n_p4
  obtain ⟨qrg9, f_qrg9, g_qrg9⟩ := hx_rf hT gx tt_9 (k := 18) (u := 7) rfl
  obtain ⟨y_ls, f_y_ls, g_y_ls⟩ := hx_rf hT g_qrg9 tt_7 (k := 3) (u := 35) rfl
  obtain ⟨m_rl, f_m_rl, g_m_rl⟩ := hx_rf hT gm tt_10 (k := 85) (u := 109) rfl
  obtain ⟨F_y_ls, n_y_ls⟩ : ∃ g : Nat → Int32, hl1.2.1 y_ls = g := ⟨_, rfl⟩
  obtain ⟨F_m_rl, n_m_rl⟩ : ∃ g : Nat → Int32, hl1.2.1 m_rl = g := ⟨_, rfl⟩
  obtain ⟨fv_361, efv_361⟩ : ∃ y : Int32, y = hl1.2.1 qrg9 0 := ⟨_, rfl⟩
  have bfv_361 := hT.gi g_qrg9 tt_7 (k := 0) rfl
  rw [← efv_361] at bfv_361
  have bfv_361 : -1 ≤ fv_361.toInt ∧ fv_361.toInt ≤ 100 := bfv_361
  have ffv_361 := efv_361.symm
  obtain ⟨fv_362, efv_362⟩ : ∃ y : Int32, y = hl1.2.1 am 83 := ⟨_, rfl⟩
  have bfv_362 := hT.gi gm tt_10 (k := 83) rfl
  rw [← efv_362] at bfv_362
  have bfv_362 : 0 ≤ fv_362.toInt ∧ fv_362.toInt ≤ 1 := bfv_362
  have ffv_362 := efv_362.symm
  obtain ⟨fv_363, efv_363⟩ : ∃ y : Int32, y = hl1.2.1 am 84 := ⟨_, rfl⟩
  have bfv_363 := hT.gi gm tt_10 (k := 84) rfl
  rw [← efv_363] at bfv_363
  have bfv_363 : 0 ≤ fv_363.toInt ∧ fv_363.toInt ≤ 300 := bfv_363
  have ffv_363 := efv_363.symm
  have hNQ9 := hkNQ qrg9 f_qrg9; rw [ffv_361, ffv_362, ffv_363] at hNQ9
  have hRL9 := hkRL qrg9 y_ls m_rl f_qrg9 f_y_ls f_m_rl; rw [n_y_ls, n_m_rl, ffv_361] at hRL9
  have hCB : hz_CB F_ord F_wkl F_owd F_szd F_gds F_srv := fun c hc => ⟨by have w := hT.ei g_m_ord tt_83 (k := c) (by omega); rw [n_ord] at w; exact w, by have w := hT.ei g_m_wkl tt_89 (k := c) (by omega); rw [n_wkl] at w; exact w, by have w := hT.ei g_m_owd tt_90 (k := c) (by omega); rw [n_owd] at w; exact w, by have w := hT.ei g_m_szd tt_84 (k := c) (by omega); rw [n_szd] at w; exact w, by have w := hT.ei g_m_gds tt_91 (k := c) (by omega); rw [n_gds] at w; exact w, by have w := hT.ei g_m_srv tt_85 (k := c) (by omega); rw [n_srv] at w; exact w⟩
  have hps : ∀ j, j < 600 → 0 ≤ (F_p2 j).toInt ∧ (F_p2 j).toInt ≤ 610000 := fun j hj => by have w := hT.ei g_m_p2 tt_95 (k := j) (by omega); rw [n_p2] at w; exact w
  have hte9 : ∀ c : Nat, c < 100 → (0 ≤ (c_tri c).toInt ∧ (c_tri c).toInt ≤ 512) ∧ (0 ≤ (F_sum c).toInt ∧ (F_sum c).toInt ≤ 9999) := fun c hc => ⟨htb9 c hc, by have w := hT.ei g_m_sum tt_74 (k := c) (by omega); rw [n_sum] at w; exact w⟩
  have hee9 : ∀ c : Nat, c < 40 → (0 ≤ (F_ear c).toInt ∧ (F_ear c).toInt ≤ 9999) ∧ (0 ≤ (F_hds c).toInt ∧ (F_hds c).toInt ≤ 20) := fun c hc => ⟨by have w := hT.ei g_m_ear tt_59 (k := c) (by omega); rw [n_ear] at w; exact w, by have w := hT.ei g_m_hds tt_60 (k := c) (by omega); rw [n_hds] at w; exact w⟩
  have bAG9 : ∀ k, k < 100 → 0 ≤ (F_aga k).toInt ∧ (F_aga k).toInt ≤ 39 := fun k hk => by have w := hT.ei g_m_aga tt_73 (k := k) (by omega); rw [n_aga] at w; exact w
  have bBY9 : ∀ k, k < 100 → 0 ≤ (F_by k).toInt ∧ (F_by k).toInt ≤ 39 := fun k hk => by have w := hT.ei g_m_by tt_72 (k := k) (by omega); rw [n_by] at w; exact w
  have hag9 : ∀ c, c < c0.toInt.toNat → 0 ≤ (F_aga c).toInt ∧ (F_aga c).toInt < 40 ∧ 0 ≤ (F_by c).toInt ∧ (F_by c).toInt < 40 := fun c hc => by have a9 := bAG9 c (by omega); have b9 := bBY9 c (by omega); omega
  have z_wkl : F_wkl c0.toInt.toNat = 0 := hx_num_z2 nu_qc cl_wkl ?o7
  case o7 => omega
  have z_owd : F_owd c0.toInt.toNat = 0 := hx_num_z2 nu_qc cl_owd ?o8
  case o8 => omega
  have z_gds : F_gds c0.toInt.toNat = 0 := hx_num_z2 nu_qc cl_gds ?o9
  case o9 => omega
  have hwd := jw mw f_mw; rw [n_mw] at hwd
  have hWK := jr mr f_mr; rw [n_mr, f_m_acts] at hWK
  have hRP := jp mp mn f_mp f_mn; rw [n_mp, n_mn, f_m_acts] at hRP
  have hPL := jl ml f_ml; rw [n_ml, f_m_claims, f_m_acts] at hPL
  have hHC := jh mh f_mh; rw [n_mh, f_m_heardMany, f_m_claims] at hHC
  have hTR := jt mt f_mt; rw [n_mt] at hTR
  have hHF := jf mh m_fou f_mh f_m_fou; rw [n_mh, n_m_fou, f_m_claims] at hHF
  refine lv_aload_n hx hb dL_law_663 rfl (lv_at hl 2 rfl) ?_
  refine lv_aload_n hx hb dL_law_664 rfl (lv_at hl 3 rfl) ?_
  refine lv_iload_n hx hb dL_law_665 rfl (lv_at hl 0 rfl) ?_
  refine lv_iconst (v := 1) hx hb dL_law_666 ?o10 ?_
  case o10 => decide
  refine lv_iadd hx hb dL_law_667 ?_
  have rg_364 := i32_r i
  refine lv_topi (fun x_365 ex_365 => ?_)
  have zx_365 : x_365.toInt = i.toInt + 1 := ?o11
  case o11 =>
    rw [ex_365]
    refine i32_add rfl ?o12 ?o13 ?o14
    case o12 => decide
    case o13 => omega
    case o14 => omega
  refine va_sld hx hb hX hbl hbA hW.2.2.2.1 (vp_in_iff.mpr ⟨?o15, ?o16⟩) dL_law_668 ?_
  case o15 => omega
  case o16 => omega
  refine lv_topi (fun x_366 ex_366 => ?_)
  refine lv_aload_n hx hb dL_law_669 rfl (lv_at hl 3 rfl) ?_
  refine lv_iload_n hx hb dL_law_670 rfl (lv_at hl 0 rfl) ?_
  refine lv_iconst (v := 2) hx hb dL_law_671 ?o17 ?_
  case o17 => decide
  refine lv_iadd hx hb dL_law_672 ?_
  refine lv_topi (fun x_367 ex_367 => ?_)
  have zx_367 : x_367.toInt = i.toInt + 2 := ?o18
  case o18 =>
    rw [ex_367]
    refine i32_add rfl ?o19 ?o20 ?o21
    case o19 => decide
    case o20 => omega
    case o21 => omega
  refine va_sld hx hb hX hbl hbA hW.2.2.2.1 (vp_in_iff.mpr ⟨?o22, ?o23⟩) dL_law_673 ?_
  case o22 => omega
  case o23 => omega
  refine lv_topi (fun x_368 ex_368 => ?_)
  refine lv_aload_n hx hb dL_law_674 rfl (lv_at hl 3 rfl) ?_
  refine lv_iload_n hx hb dL_law_675 rfl (lv_at hl 0 rfl) ?_
  refine lv_iconst (v := 3) hx hb dL_law_676 ?o24 ?_
  case o24 => decide
  refine lv_iadd hx hb dL_law_677 ?_
  refine lv_topi (fun x_369 ex_369 => ?_)
  have zx_369 : x_369.toInt = i.toInt + 3 := ?o25
  case o25 =>
    rw [ex_369]
    refine i32_add rfl ?o26 ?o27 ?o28
    case o26 => decide
    case o27 => omega
    case o28 => omega
  refine va_sld hx hb hX hbl hbA hW.2.2.2.1 (vp_in_iff.mpr ⟨?o29, ?o30⟩) dL_law_678 ?_
  case o29 => omega
  case o30 => omega
  refine lv_topi (fun x_370 ex_370 => ?_)
  refine lv_aload_n hx hb dL_law_679 rfl (lv_at hl 3 rfl) ?_
  refine lv_iload_n hx hb dL_law_680 rfl (lv_at hl 0 rfl) ?_
  refine lv_iconst (v := 4) hx hb dL_law_681 ?o31 ?_
  case o31 => decide
  refine lv_iadd hx hb dL_law_682 ?_
  refine lv_topi (fun x_371 ex_371 => ?_)
  have zx_371 : x_371.toInt = i.toInt + 4 := ?o32
  case o32 =>
    rw [ex_371]
    refine i32_add rfl ?o33 ?o34 ?o35
    case o33 => decide
    case o34 => omega
    case o35 => omega
  refine va_sld hx hb hX hbl hbA hW.2.2.2.1 (vp_in_iff.mpr ⟨?o36, ?o37⟩) dL_law_683 ?_
  case o36 => omega
  case o37 => omega
  refine lv_topi (fun x_372 ex_372 => ?_)
  refine lv_aload_n hx hb dL_law_684 rfl (lv_at hl 3 rfl) ?_
  refine lv_iload_n hx hb dL_law_685 rfl (lv_at hl 0 rfl) ?_
  refine lv_iconst (v := 5) hx hb dL_law_686 ?o38 ?_
  case o38 => decide
  refine lv_iadd hx hb dL_law_687 ?_
  refine lv_topi (fun x_373 ex_373 => ?_)
  have zx_373 : x_373.toInt = i.toInt + 5 := ?o39
  case o39 =>
    rw [ex_373]
    refine i32_add rfl ?o40 ?o41 ?o42
    case o40 => decide
    case o41 => omega
    case o42 => omega
  refine va_sld hx hb hX hbl hbA hW.2.2.2.1 (vp_in_iff.mpr ⟨?o43, ?o44⟩) dL_law_688 ?_
  case o43 => omega
  case o44 => omega
  refine lv_topi (fun x_374 ex_374 => ?_)
  have jn_697 : ∀ (xj_375 : Int32) (ls : Array Slot), 0 ≤ xj_375.toInt → xj_375.toInt ≤ 1 → (x_374.toInt = 0 ∧ xj_375.toInt = 0) ∨ (x_374.toInt ≠ 0 ∧ xj_375.toInt = 1) → lv_has ls 4 [(3, .int i), (2, .ref am), (1, .ref ax), (0, .ref b)] → W p l e room_1 s m #[Value.ref b] below meth c H locs (CC) (SS) (lw_Z below #[Value.ref b] s) (F0 m 697 ls [.int xj_375, .int x_372, .int x_370, .int x_368, .int x_366, .ref ax]) := by
    intro xj_375 ls blxj_375 buxj_375 jcxj_375 hl
    refine lv_aload_n hx hb dL_law_697 rfl (lv_at hl 3 rfl) ?_
    refine lv_iload_n hx hb dL_law_698 rfl (lv_at hl 0 rfl) ?_
    refine lv_bipush (v := 6) hx hb dL_law_699 ?o45 ?_
    case o45 => decide
    refine lv_iadd hx hb dL_law_701 ?_
    refine lv_topi (fun x_376 ex_376 => ?_)
    have zx_376 : x_376.toInt = i.toInt + 6 := ?o46
    case o46 =>
      rw [ex_376]
      refine i32_add rfl ?o47 ?o48 ?o49
      case o47 => decide
      case o48 => omega
      case o49 => omega
    refine va_sld hx hb hX hbl hbA hW.2.2.2.1 (vp_in_iff.mpr ⟨?o50, ?o51⟩) dL_law_702 ?_
    case o50 => omega
    case o51 => omega
    refine lv_topi (fun x_377 ex_377 => ?_)
    have hTo := hT
    refine hx_goi (hx_runV (As := [.int x_366, .int x_368, .int x_370, .int x_372, .int xj_375, .int x_377]) (rest := []) ⟨hx, hb, hml, hown, hts⟩ hW gx tt_9 (T := TX9) (N := 20) rfl (t_X9_file_v l dC dI dA L1 hl1 H.size ax x_366 x_368 x_370 x_372 xj_375 x_377 hT gx qp g_qp f_qp qc g_qc f_qc qa g_qa f_qa qwo g_qwo f_qwo qw g_qw f_qw ql g_ql f_ql qh g_qh f_qh c0 f_x_claimCount np f_x_personCount nw f_x_now a0 f_x_actCount m0 f_x_heardCount c_dead cl_dead c_fou cl_fou c_tri cl_tri F_sum cl_sum F_fro cl_fro F_fil cl_fil F_mh cl_hea F_jud cl_jud F_ord cl_ord F_wkl cl_wkl F_owd cl_owd F_szd cl_szd F_gds cl_gds F_srv cl_srv nu_qc sb_list F_aga F_by hDF hDP F_ml F_ho cF9L F_be A9 hRA9 hAC9 hFX hBX hHL ⟨?o52, ?o53⟩ pf_qp pf_qc pf_qa) (cwV 6 hts (hx_gV kw_715 kw_712 kw_713 kw_714 kw_94) rfl rfl rfl (by decide +kernel) ⟨Nat.le_of_ble_eq_true rfl, Nat.le_of_ble_eq_true rfl⟩) rfl hl.1 rfl (Nat.le_of_ble_eq_true rfl) dL_law_703 ⟨(show CC + 3 ≤ 600000 from ?o54), (show SS + 30 ≤ 7302250 from ?o55)⟩) hW (fun r_380 L_378 h_379 H locs p_381 hW => ?_)
    case o52 => omega
    case o53 => omega
    case o54 => omega
    case o55 => omega
    obtain ⟨⟨w_384, w_385, w_386, w_387, w_388, w_389, w_390, w_391, w_392, w_393, w_394, w_395, w_396, w_397, fw_384, fw_385, fw_386, fw_387, fw_388, fw_389, fw_390, fw_391, fw_392, fw_393, fw_394, fw_395, fw_396, fw_397, hr_382⟩, hT, hs, pf_383⟩ := p_381
    obtain ⟨nu_398, hr_382⟩ := hr_382
    obtain ⟨sb_399, hr_382⟩ := hr_382
    replace hT : hx_T T_tb L_378 h_379 := hT
    replace hs : hx_S T_tb [(2, 6), (2, 7), (2, 8), (9, 11), (20, 0), (45, 0), (118, 0), (118, 1), (118, 2), (118, 3), (118, 4), (118, 5), (118, 10), (118, 11), (118, 13), (118, 16), (118, 18)] L1 hl1 L_378 h_379 := hs
    replace f_qa := (hs.o gx trivial rfl).2.trans f_qa
    replace f_qp := (hs.o gx trivial rfl).2.trans f_qp
    replace f_qc := (hs.o gx trivial rfl).2.trans f_qc
    replace f_qh := (hs.o gx trivial rfl).2.trans f_qh
    replace f_qw := (hs.o gx trivial rfl).2.trans f_qw
    replace f_ql := (hs.o g_qw trivial rfl).2.trans f_ql
    replace f_m_now := (hs.o gm trivial rfl).1.trans f_m_now
    replace f_m_persons := (hs.o gm trivial rfl).1.trans f_m_persons
    replace f_m_claims := (hs.o gm trivial rfl).1.trans f_m_claims
    replace f_m_taped := (hs.o gm trivial rfl).1.trans f_m_taped
    replace f_m_acts := (hs.o gm trivial rfl).1.trans f_m_acts
    replace f_m_heardMany := (hs.o gm trivial rfl).1.trans f_m_heardMany
    replace f_m_lines := (hs.o gm trivial rfl).1.trans f_m_lines
    replace f_m_listed := (hs.o gm trivial rfl).1.trans f_m_listed
    replace f_m_walkedMany := (hs.o gm trivial rfl).1.trans f_m_walkedMany
    replace f_m_payments := (hs.o gm trivial rfl).1.trans f_m_payments
    replace f_x_now := (hs.o gx trivial rfl).1.trans f_x_now
    replace f_x_personCount := (hs.o gx trivial rfl).1.trans f_x_personCount
    replace f_x_tapeLength := (hs.o gx trivial rfl).1.trans f_x_tapeLength
    replace f_x_actCount := (hs.o gx trivial rfl).1.trans f_x_actCount
    replace f_x_heardCount := (hs.o gx trivial rfl).1.trans f_x_heardCount
    replace f_mw := (hs.o gm trivial rfl).2.trans f_mw
    replace f_mr := (hs.o gm trivial rfl).2.trans f_mr
    replace f_mp := (hs.o gm trivial rfl).2.trans f_mp
    replace f_mn := (hs.o gm trivial rfl).2.trans f_mn
    replace f_ml := (hs.o gm trivial rfl).2.trans f_ml
    replace f_mh := (hs.o gm trivial rfl).2.trans f_mh
    replace f_mt := (hs.o gm trivial rfl).2.trans f_mt
    replace f_m_fou := (hs.o gm trivial rfl).2.trans f_m_fou
    replace f_qo_ln := (hs.o gx trivial rfl).2.trans f_qo_ln
    replace f_o_ln := (hs.o g_qo_ln trivial rfl).1.trans f_o_ln
    replace f_o_lsd := (hs.o g_qw trivial rfl).1.trans f_o_lsd
    replace f_o_wkm := (hs.o g_qw trivial rfl).1.trans f_o_wkm
    replace f_qo_py := (hs.o gx trivial rfl).2.trans f_qo_py
    replace f_o_py := (hs.o g_qo_py trivial rfl).1.trans f_o_py
    replace f_b_of := (hs.o g_qo_ln trivial rfl).2.trans f_b_of
    replace f_m_of := (hs.o gm trivial rfl).2.trans f_m_of
    replace f_b_wf := (hs.o g_qo_ln trivial rfl).2.trans f_b_wf
    replace f_m_wf := (hs.o gm trivial rfl).2.trans f_m_wf
    replace f_b_df := (hs.o g_qo_ln trivial rfl).2.trans f_b_df
    replace f_m_df := (hs.o gm trivial rfl).2.trans f_m_df
    replace f_b_kf := (hs.o g_qo_ln trivial rfl).2.trans f_b_kf
    replace f_m_kf := (hs.o gm trivial rfl).2.trans f_m_kf
    replace f_b_sf := (hs.o g_qo_ln trivial rfl).2.trans f_b_sf
    replace f_m_sf := (hs.o gm trivial rfl).2.trans f_m_sf
    replace f_b_bf := (hs.o g_qo_ln trivial rfl).2.trans f_b_bf
    replace f_m_lst := (hs.o gm trivial rfl).2.trans f_m_lst
    replace f_qtp := (hs.o gx trivial rfl).2.trans f_qtp
    replace f_m_tp := (hs.o gm trivial rfl).2.trans f_m_tp
    replace f_m_dead := (hs.o gm trivial rfl).2.trans f_m_dead
    replace f_m_isj := (hs.o gm trivial rfl).2.trans f_m_isj
    replace f_m_dox := (hs.o gm trivial rfl).2.trans f_m_dox
    replace f_m_doy := (hs.o gm trivial rfl).2.trans f_m_doy
    replace f_qlt := (hs.o g_qw trivial rfl).2.trans f_qlt
    replace f_qlf := (hs.o g_qw trivial rfl).2.trans f_qlf
    replace f_m_wkd := (hs.o gm trivial rfl).2.trans f_m_wkd
    replace f_m_aga := (hs.o gm trivial rfl).2.trans f_m_aga
    replace f_qwo := (hs.o gx trivial rfl).2.trans f_qwo
    replace f_m_ad := (hs.o gm trivial rfl).2.trans f_m_ad
    replace f_m_by := (hs.o gm trivial rfl).2.trans f_m_by
    replace f_m_ho := (hs.o gm trivial rfl).2.trans f_m_ho
    replace f_m_fc := (hs.o gm trivial rfl).2.trans f_m_fc
    replace f_m_nt := (hs.o gm trivial rfl).2.trans f_m_nt
    replace f_m_wt := (hs.o gm trivial rfl).2.trans f_m_wt
    replace f_m_be := (hs.o gm trivial rfl).2.trans f_m_be
    replace f_m_bor := (hs.o gm trivial rfl).2.trans f_m_bor
    replace f_m_kin := (hs.o gm trivial rfl).2.trans f_m_kin
    replace f_m_sum := (hs.o gm trivial rfl).2.trans f_m_sum
    replace f_m_fro := (hs.o gm trivial rfl).2.trans f_m_fro
    replace f_m_fil := (hs.o gm trivial rfl).2.trans f_m_fil
    replace f_m_jud := (hs.o gm trivial rfl).2.trans f_m_jud
    replace f_m_ear := (hs.o gm trivial rfl).2.trans f_m_ear
    replace f_m_hds := (hs.o gm trivial rfl).2.trans f_m_hds
    replace f_m_ord := (hs.o gm trivial rfl).2.trans f_m_ord
    replace f_m_wkl := (hs.o gm trivial rfl).2.trans f_m_wkl
    replace f_m_owd := (hs.o gm trivial rfl).2.trans f_m_owd
    replace f_m_gds := (hs.o gm trivial rfl).2.trans f_m_gds
    replace f_m_szd := (hs.o gm trivial rfl).2.trans f_m_szd
    replace f_m_srv := (hs.o gm trivial rfl).2.trans f_m_srv
    replace f_y_p0 := (hs.o g_qo_py trivial rfl).2.trans f_y_p0
    replace f_m_p0 := (hs.o gm trivial rfl).2.trans f_m_p0
    replace f_y_p1 := (hs.o g_qo_py trivial rfl).2.trans f_y_p1
    replace f_m_p1 := (hs.o gm trivial rfl).2.trans f_m_p1
    replace f_y_p2 := (hs.o g_qo_py trivial rfl).2.trans f_y_p2
    replace f_m_p2 := (hs.o gm trivial rfl).2.trans f_m_p2
    replace f_y_p3 := (hs.o g_qo_py trivial rfl).2.trans f_y_p3
    replace f_m_p3 := (hs.o gm trivial rfl).2.trans f_m_p3
    replace f_y_p4 := (hs.o g_qo_py trivial rfl).2.trans f_y_p4
    replace f_m_p4 := (hs.o gm trivial rfl).2.trans f_m_p4
    replace f_qrg9 := (hs.o gx trivial rfl).2.trans f_qrg9
    replace f_y_ls := (hs.o g_qrg9 trivial rfl).2.trans f_y_ls
    replace f_m_rl := (hs.o gm trivial rfl).2.trans f_m_rl
    replace ffv_361 := (hs.o g_qrg9 trivial rfl).1.trans ffv_361
    replace ffv_362 := (hs.o gm trivial rfl).1.trans ffv_362
    replace ffv_363 := (hs.o gm trivial rfl).1.trans ffv_363
    replace pf_qa : ∀ j : Nat, (j : Int) < (h_379.2.1 ax 6).toInt → h_379.2.2 qa j ≠ none := by
      intro j hj; rw [(hs.o gx trivial rfl).1] at hj; rw [(hs.a g_qa rfl j).2]; exact pf_qa j hj
    replace pf_qp : ∀ j : Nat, (j : Int) < (h_379.2.1 ax 8).toInt → h_379.2.2 qp j ≠ none := by
      intro j hj; rw [(hs.o gx trivial rfl).1] at hj; rw [(hs.a g_qp rfl j).2]; exact pf_qp j hj
    replace pf_qh : ∀ j : Nat, (j : Int) < (h_379.2.1 ax 13).toInt → h_379.2.2 qh j ≠ none := by
      intro j hj; rw [(hs.o gx trivial rfl).1] at hj; rw [(hs.a g_qh rfl j).2]; exact pf_qh j hj
    replace pf_ql : ∀ j : Nat, (j : Int) < (h_379.2.1 qw 0).toInt → h_379.2.2 ql j ≠ none := by
      intro j hj; rw [(hs.o g_qw trivial rfl).1] at hj; rw [(hs.a g_ql rfl j).2]; exact pf_ql j hj
    replace cl_lst : hx_col 8 h_379 ql 0 = c_lst := (hx_col_S hs hTo g_ql tt_40 tt_2 rfl rfl).trans cl_lst
    replace cl_dead : hx_col 40 h_379 qp 7 = c_dead := (hx_col_S hs hTo g_qp tt_44 tt_4 rfl rfl).trans cl_dead
    replace cl_isj : hx_col 40 h_379 qp 8 = c_isj := (hx_col_S hs hTo g_qp tt_44 tt_4 rfl rfl).trans cl_isj
    replace cl_dox : hx_col 40 h_379 qp 5 = c_dox := (hx_col_S hs hTo g_qp tt_44 tt_4 rfl rfl).trans cl_dox
    replace cl_doy : hx_col 40 h_379 qp 6 = c_doy := (hx_col_S hs hTo g_qp tt_44 tt_4 rfl rfl).trans cl_doy
    replace cl_bor : hx_col 40 h_379 qp 1 = F_bor := (hx_col_S hs hTo g_qp tt_44 tt_4 rfl rfl).trans cl_bor
    replace cl_kin : hx_col 40 h_379 qp 2 = F_kin := (hx_col_S hs hTo g_qp tt_44 tt_4 rfl rfl).trans cl_kin
    replace cl_ear : hx_col 40 h_379 qp 3 = F_ear := (hx_col_S hs hTo g_qp tt_44 tt_4 rfl rfl).trans cl_ear
    replace cl_hds : hx_col 40 h_379 qp 4 = F_hds := (hx_col_S hs hTo g_qp tt_44 tt_4 rfl rfl).trans cl_hds
    replace nu_qp : hx_num 40 h_379 qp 0 (np.toInt) := hx_num_S hs hTo g_qp tt_44 tt_4 rfl rfl nu_qp
    replace hRA9 : hv_RA h_379 qa qwo a0.toInt A9 := hv_RA_S hs hTo g_qa g_qwo tt_43 tt_0 rfl rfl rfl rfl rfl rfl ?o56 hRA9
    case o56 => omega
    replace n_mw : h_379.2.1 mw = F_mw := (funext fun j => (hs.a g_mw rfl j).1).trans n_mw
    replace n_mr : h_379.2.1 mr = F_mr := (funext fun j => (hs.a g_mr rfl j).1).trans n_mr
    replace n_mp : h_379.2.1 mp = F_mp := (funext fun j => (hs.a g_mp rfl j).1).trans n_mp
    replace n_mn : h_379.2.1 mn = F_mn := (funext fun j => (hs.a g_mn rfl j).1).trans n_mn
    replace n_ml : h_379.2.1 ml = F_ml := (funext fun j => (hs.a g_ml rfl j).1).trans n_ml
    replace n_mh : h_379.2.1 mh = F_mh := (funext fun j => (hs.a g_mh rfl j).1).trans n_mh
    replace n_mt : h_379.2.1 mt = F_mt := (funext fun j => (hs.a g_mt rfl j).1).trans n_mt
    replace n_m_fou : h_379.2.1 m_fou = F_m_fou := (funext fun j => (hs.a g_m_fou rfl j).1).trans n_m_fou
    replace n_b_of : h_379.2.1 b_of = B_of := (funext fun j => (hs.a g_b_of rfl j).1).trans n_b_of
    replace n_m_of : h_379.2.1 m_of = F_of := (funext fun j => (hs.a g_m_of rfl j).1).trans n_m_of
    replace n_b_wf : h_379.2.1 b_wf = B_wf := (funext fun j => (hs.a g_b_wf rfl j).1).trans n_b_wf
    replace n_m_wf : h_379.2.1 m_wf = F_wf := (funext fun j => (hs.a g_m_wf rfl j).1).trans n_m_wf
    replace n_b_df : h_379.2.1 b_df = B_df := (funext fun j => (hs.a g_b_df rfl j).1).trans n_b_df
    replace n_m_df : h_379.2.1 m_df = F_df := (funext fun j => (hs.a g_m_df rfl j).1).trans n_m_df
    replace n_b_kf : h_379.2.1 b_kf = B_kf := (funext fun j => (hs.a g_b_kf rfl j).1).trans n_b_kf
    replace n_m_kf : h_379.2.1 m_kf = F_kf := (funext fun j => (hs.a g_m_kf rfl j).1).trans n_m_kf
    replace n_b_sf : h_379.2.1 b_sf = B_sf := (funext fun j => (hs.a g_b_sf rfl j).1).trans n_b_sf
    replace n_m_sf : h_379.2.1 m_sf = F_sf := (funext fun j => (hs.a g_m_sf rfl j).1).trans n_m_sf
    replace n_b_bf : h_379.2.1 b_bf = bfL := (funext fun j => (hs.a g_b_bf rfl j).1).trans n_b_bf
    replace n_lst : h_379.2.1 m_lst = F_lst := (funext fun j => (hs.a g_m_lst rfl j).1).trans n_lst
    replace n_tp : h_379.2.1 m_tp = F_tp := (funext fun j => (hs.a g_m_tp rfl j).1).trans n_tp
    replace n_qtp : h_379.2.1 qtp = F_tp := (funext fun j => (hs.a g_qtp rfl j).1).trans n_qtp
    replace n_dead : h_379.2.1 m_dead = F_dead := (funext fun j => (hs.a g_m_dead rfl j).1).trans n_dead
    replace n_isj : h_379.2.1 m_isj = F_isj := (funext fun j => (hs.a g_m_isj rfl j).1).trans n_isj
    replace n_dox : h_379.2.1 m_dox = F_dox := (funext fun j => (hs.a g_m_dox rfl j).1).trans n_dox
    replace n_doy : h_379.2.1 m_doy = F_doy := (funext fun j => (hs.a g_m_doy rfl j).1).trans n_doy
    replace n_qlt : h_379.2.1 qlt = F_qlt := (funext fun j => (hs.a g_qlt rfl j).1).trans n_qlt
    replace n_m_wkd : h_379.2.1 m_wkd = F_m_wkd := (funext fun j => (hs.a g_m_wkd rfl j).1).trans n_m_wkd
    replace n_aga : h_379.2.1 m_aga = F_aga := (funext fun j => (hs.a g_m_aga rfl j).1).trans n_aga
    replace n_ad : h_379.2.1 m_ad = F_ad := (funext fun j => (hs.a g_m_ad rfl j).1).trans n_ad
    replace n_by : h_379.2.1 m_by = F_by := (funext fun j => (hs.a g_m_by rfl j).1).trans n_by
    replace n_ho : h_379.2.1 m_ho = F_ho := (funext fun j => (hs.a g_m_ho rfl j).1).trans n_ho
    replace n_fc : h_379.2.1 m_fc = F_fc := (funext fun j => (hs.a g_m_fc rfl j).1).trans n_fc
    replace n_nt : h_379.2.1 m_nt = F_nt := (funext fun j => (hs.a g_m_nt rfl j).1).trans n_nt
    replace n_wt : h_379.2.1 m_wt = F_wt := (funext fun j => (hs.a g_m_wt rfl j).1).trans n_wt
    replace n_be : h_379.2.1 m_be = F_be := (funext fun j => (hs.a g_m_be rfl j).1).trans n_be
    replace n_bor : h_379.2.1 m_bor = F_bor := (funext fun j => (hs.a g_m_bor rfl j).1).trans n_bor
    replace n_kin : h_379.2.1 m_kin = F_kin := (funext fun j => (hs.a g_m_kin rfl j).1).trans n_kin
    replace n_sum : h_379.2.1 m_sum = F_sum := (funext fun j => (hs.a g_m_sum rfl j).1).trans n_sum
    replace n_fro : h_379.2.1 m_fro = F_fro := (funext fun j => (hs.a g_m_fro rfl j).1).trans n_fro
    replace n_fil : h_379.2.1 m_fil = F_fil := (funext fun j => (hs.a g_m_fil rfl j).1).trans n_fil
    replace n_jud : h_379.2.1 m_jud = F_jud := (funext fun j => (hs.a g_m_jud rfl j).1).trans n_jud
    replace n_ear : h_379.2.1 m_ear = F_ear := (funext fun j => (hs.a g_m_ear rfl j).1).trans n_ear
    replace n_hds : h_379.2.1 m_hds = F_hds := (funext fun j => (hs.a g_m_hds rfl j).1).trans n_hds
    replace n_ord : h_379.2.1 m_ord = F_ord := (funext fun j => (hs.a g_m_ord rfl j).1).trans n_ord
    replace n_wkl : h_379.2.1 m_wkl = F_wkl := (funext fun j => (hs.a g_m_wkl rfl j).1).trans n_wkl
    replace n_owd : h_379.2.1 m_owd = F_owd := (funext fun j => (hs.a g_m_owd rfl j).1).trans n_owd
    replace n_gds : h_379.2.1 m_gds = F_gds := (funext fun j => (hs.a g_m_gds rfl j).1).trans n_gds
    replace n_szd : h_379.2.1 m_szd = F_szd := (funext fun j => (hs.a g_m_szd rfl j).1).trans n_szd
    replace n_srv : h_379.2.1 m_srv = F_srv := (funext fun j => (hs.a g_m_srv rfl j).1).trans n_srv
    replace n_p0 : h_379.2.1 m_p0 = F_p0 := (funext fun j => (hs.a g_m_p0 rfl j).1).trans n_p0
    replace n_y_p0 : h_379.2.1 y_p0 = F_p0 := (funext fun j => (hs.a g_y_p0 rfl j).1).trans n_y_p0
    replace n_p1 : h_379.2.1 m_p1 = F_p1 := (funext fun j => (hs.a g_m_p1 rfl j).1).trans n_p1
    replace n_y_p1 : h_379.2.1 y_p1 = F_p1 := (funext fun j => (hs.a g_y_p1 rfl j).1).trans n_y_p1
    replace n_p2 : h_379.2.1 m_p2 = F_p2 := (funext fun j => (hs.a g_m_p2 rfl j).1).trans n_p2
    replace n_y_p2 : h_379.2.1 y_p2 = F_p2 := (funext fun j => (hs.a g_y_p2 rfl j).1).trans n_y_p2
    replace n_p3 : h_379.2.1 m_p3 = F_p3 := (funext fun j => (hs.a g_m_p3 rfl j).1).trans n_p3
    replace n_y_p3 : h_379.2.1 y_p3 = F_p3 := (funext fun j => (hs.a g_y_p3 rfl j).1).trans n_y_p3
    replace n_p4 : h_379.2.1 m_p4 = F_p4 := (funext fun j => (hs.a g_m_p4 rfl j).1).trans n_p4
    replace n_y_p4 : h_379.2.1 y_p4 = F_p4 := (funext fun j => (hs.a g_y_p4 rfl j).1).trans n_y_p4
    replace n_y_ls : h_379.2.1 y_ls = F_y_ls := (funext fun j => (hs.a g_y_ls rfl j).1).trans n_y_ls
    replace n_m_rl : h_379.2.1 m_rl = F_m_rl := (funext fun j => (hs.a g_m_rl rfl j).1).trans n_m_rl
    replace gx := gx.S hs
    replace gm := gm.S hs
    replace g_qa := g_qa.S hs
    replace g_qp := g_qp.S hs
    replace g_qc := g_qc.S hs
    replace g_qh := g_qh.S hs
    replace g_qw := g_qw.S hs
    replace g_ql := g_ql.S hs
    replace g_mw := g_mw.S hs
    replace g_mr := g_mr.S hs
    replace g_mp := g_mp.S hs
    replace g_mn := g_mn.S hs
    replace g_ml := g_ml.S hs
    replace g_mh := g_mh.S hs
    replace g_mt := g_mt.S hs
    replace g_m_fou := g_m_fou.S hs
    replace g_qo_ln := g_qo_ln.S hs
    replace g_qo_py := g_qo_py.S hs
    replace g_b_of := g_b_of.S hs
    replace g_m_of := g_m_of.S hs
    replace g_b_wf := g_b_wf.S hs
    replace g_m_wf := g_m_wf.S hs
    replace g_b_df := g_b_df.S hs
    replace g_m_df := g_m_df.S hs
    replace g_b_kf := g_b_kf.S hs
    replace g_m_kf := g_m_kf.S hs
    replace g_b_sf := g_b_sf.S hs
    replace g_m_sf := g_m_sf.S hs
    replace g_b_bf := g_b_bf.S hs
    replace g_m_lst := g_m_lst.S hs
    replace g_qtp := g_qtp.S hs
    replace g_m_tp := g_m_tp.S hs
    replace g_m_dead := g_m_dead.S hs
    replace g_m_isj := g_m_isj.S hs
    replace g_m_dox := g_m_dox.S hs
    replace g_m_doy := g_m_doy.S hs
    replace g_qlt := g_qlt.S hs
    replace g_qlf := g_qlf.S hs
    replace g_m_wkd := g_m_wkd.S hs
    replace g_m_aga := g_m_aga.S hs
    replace g_qwo := g_qwo.S hs
    replace g_m_ad := g_m_ad.S hs
    replace g_m_by := g_m_by.S hs
    replace g_m_ho := g_m_ho.S hs
    replace g_m_fc := g_m_fc.S hs
    replace g_m_nt := g_m_nt.S hs
    replace g_m_wt := g_m_wt.S hs
    replace g_m_be := g_m_be.S hs
    replace g_m_bor := g_m_bor.S hs
    replace g_m_kin := g_m_kin.S hs
    replace g_m_sum := g_m_sum.S hs
    replace g_m_fro := g_m_fro.S hs
    replace g_m_fil := g_m_fil.S hs
    replace g_m_jud := g_m_jud.S hs
    replace g_m_ear := g_m_ear.S hs
    replace g_m_hds := g_m_hds.S hs
    replace g_m_ord := g_m_ord.S hs
    replace g_m_wkl := g_m_wkl.S hs
    replace g_m_owd := g_m_owd.S hs
    replace g_m_gds := g_m_gds.S hs
    replace g_m_szd := g_m_szd.S hs
    replace g_m_srv := g_m_srv.S hs
    replace g_y_p0 := g_y_p0.S hs
    replace g_m_p0 := g_m_p0.S hs
    replace g_y_p1 := g_y_p1.S hs
    replace g_m_p1 := g_m_p1.S hs
    replace g_y_p2 := g_y_p2.S hs
    replace g_m_p2 := g_m_p2.S hs
    replace g_y_p3 := g_y_p3.S hs
    replace g_m_p3 := g_m_p3.S hs
    replace g_y_p4 := g_y_p4.S hs
    replace g_m_p4 := g_m_p4.S hs
    replace g_qrg9 := g_qrg9.S hs
    replace g_y_ls := g_y_ls.S hs
    replace g_m_rl := g_m_rl.S hs
    have pf_383 : ∀ j : Nat, (j : Int) < (h_379.2.1 ax 11).toInt → h_379.2.2 qc j ≠ none := pf_383
    have sb_399 : hx_LQ 8 100 h_379 ql qc := sb_399
    have nu_398 : hx_num 100 h_379 qc 0 (w_384.toInt) := nu_398
    have fw_384 : h_379.2.1 ax 11 = w_384 := fw_384
    have bw_384 := hT.gi gx tt_9 (k := 11) rfl
    rw [fw_384] at bw_384
    have bw_384 : 0 ≤ w_384.toInt ∧ w_384.toInt ≤ 100 := bw_384
    have fw_385 : hx_col 100 h_379 qc 10 = w_385 := fw_385
    have fw_386 : hx_col 100 h_379 qc 9 = w_386 := fw_386
    have fw_387 : hx_col 100 h_379 qc 6 = w_387 := fw_387
    have fw_388 : hx_col 100 h_379 qc 7 = w_388 := fw_388
    have fw_389 : hx_col 100 h_379 qc 8 = w_389 := fw_389
    have fw_390 : hx_col 100 h_379 qc 11 = w_390 := fw_390
    have fw_391 : hx_col 100 h_379 qc 12 = w_391 := fw_391
    have fw_392 : hx_col 100 h_379 qc 13 = w_392 := fw_392
    have fw_393 : hx_col 100 h_379 qc 14 = w_393 := fw_393
    have fw_394 : hx_col 100 h_379 qc 15 = w_394 := fw_394
    have fw_395 : hx_col 100 h_379 qc 16 = w_395 := fw_395
    have fw_396 : hx_col 100 h_379 qc 17 = w_396 := fw_396
    have fw_397 : hx_col 100 h_379 qc 18 = w_397 := fw_397
    obtain ⟨hr_382a, hr_382b⟩ := hr_382
    obtain ⟨agN, byN, plN, cFN, bFN, pvN, hagN, hbyN, ⟨hpvN, hplN⟩, hFUN, hBUN, hDFN, hDPN, hACN, hFXN, hBXN, hHLN⟩ := hr_382a.2.2.2.2.2.2.2.2
    have hDFN : hw_DF h_379 qc qp 2 agN w_384.toInt := hDFN
    have hDPN : hw_DF h_379 qc qp 1 byN w_384.toInt := hDPN
    have hACN : hv_AC h_379 qc plN w_384.toInt A9 := hACN
    have hFXN : hv_FX 8 4 h_379 qc cFN w_384.toInt := hFXN
    have hBXN : hv_FX 3 5 h_379 qc bFN w_384.toInt := hBXN
    have hHLN : hv_HL h_379 qh qc F_ho m0.toInt w_384.toInt := hHLN
    refine lv_pop hx hb dL_law_706 rfl ?_
    refine lv_aload_n hx hb dL_law_707 rfl (lv_at hl 1 rfl) ?_
    refine lv_aload_n hx hb dL_law_708 rfl (lv_at hl 3 rfl) ?_
    refine lv_iload_n hx hb dL_law_709 rfl (lv_at hl 0 rfl) ?_
    refine lv_iconst (v := 1) hx hb dL_law_710 ?o57 ?_
    case o57 => decide
    refine lv_iadd hx hb dL_law_711 ?_
    refine lv_topi (fun x_400 ex_400 => ?_)
    have zx_400 : x_400.toInt = i.toInt + 1 := ?o58
    case o58 =>
      rw [ex_400]
      refine i32_add rfl ?o59 ?o60 ?o61
      case o59 => decide
      case o60 => omega
      case o61 => omega
    obtain rfl : x_365 = x_400 := ex_365.trans ex_400.symm
    refine va_sld hx hb hX hbl hbA hW.2.2.2.1 (vp_in_iff.mpr ⟨?o62, ?o63⟩) dL_law_712 ?_
    case o62 => omega
    case o63 => omega
    refine lv_topi (fun x_401 ex_401 => ?_)
    obtain rfl : x_366 = x_401 := ex_366.trans ex_401.symm
    refine lv_aload_n hx hb dL_law_713 rfl (lv_at hl 3 rfl) ?_
    refine lv_iload_n hx hb dL_law_714 rfl (lv_at hl 0 rfl) ?_
    refine lv_iconst (v := 2) hx hb dL_law_715 ?o64 ?_
    case o64 => decide
    refine lv_iadd hx hb dL_law_716 ?_
    refine lv_topi (fun x_402 ex_402 => ?_)
    have zx_402 : x_402.toInt = i.toInt + 2 := ?o65
    case o65 =>
      rw [ex_402]
      refine i32_add rfl ?o66 ?o67 ?o68
      case o66 => decide
      case o67 => omega
      case o68 => omega
    obtain rfl : x_367 = x_402 := ex_367.trans ex_402.symm
    refine va_sld hx hb hX hbl hbA hW.2.2.2.1 (vp_in_iff.mpr ⟨?o69, ?o70⟩) dL_law_717 ?_
    case o69 => omega
    case o70 => omega
    refine lv_topi (fun x_403 ex_403 => ?_)
    obtain rfl : x_368 = x_403 := ex_368.trans ex_403.symm
    refine lv_aload_n hx hb dL_law_718 rfl (lv_at hl 3 rfl) ?_
    refine lv_iload_n hx hb dL_law_719 rfl (lv_at hl 0 rfl) ?_
    refine lv_iconst (v := 3) hx hb dL_law_720 ?o71 ?_
    case o71 => decide
    refine lv_iadd hx hb dL_law_721 ?_
    refine lv_topi (fun x_404 ex_404 => ?_)
    have zx_404 : x_404.toInt = i.toInt + 3 := ?o72
    case o72 =>
      rw [ex_404]
      refine i32_add rfl ?o73 ?o74 ?o75
      case o73 => decide
      case o74 => omega
      case o75 => omega
    obtain rfl : x_369 = x_404 := ex_369.trans ex_404.symm
    refine va_sld hx hb hX hbl hbA hW.2.2.2.1 (vp_in_iff.mpr ⟨?o76, ?o77⟩) dL_law_722 ?_
    case o76 => omega
    case o77 => omega
    refine lv_topi (fun x_405 ex_405 => ?_)
    obtain rfl : x_370 = x_405 := ex_370.trans ex_405.symm
    refine lv_aload_n hx hb dL_law_723 rfl (lv_at hl 3 rfl) ?_
    refine lv_iload_n hx hb dL_law_724 rfl (lv_at hl 0 rfl) ?_
    refine lv_iconst (v := 4) hx hb dL_law_725 ?o78 ?_
    case o78 => decide
    refine lv_iadd hx hb dL_law_726 ?_
    refine lv_topi (fun x_406 ex_406 => ?_)
    have zx_406 : x_406.toInt = i.toInt + 4 := ?o79
    case o79 =>
      rw [ex_406]
      refine i32_add rfl ?o80 ?o81 ?o82
      case o80 => decide
      case o81 => omega
      case o82 => omega
    obtain rfl : x_371 = x_406 := ex_371.trans ex_406.symm
    refine va_sld hx hb hX hbl hbA hW.2.2.2.1 (vp_in_iff.mpr ⟨?o83, ?o84⟩) dL_law_727 ?_
    case o83 => omega
    case o84 => omega
    refine lv_topi (fun x_407 ex_407 => ?_)
    obtain rfl : x_372 = x_407 := ex_372.trans ex_407.symm
    refine lv_aload_n hx hb dL_law_728 rfl (lv_at hl 3 rfl) ?_
    refine lv_iload_n hx hb dL_law_729 rfl (lv_at hl 0 rfl) ?_
    refine lv_iconst (v := 5) hx hb dL_law_730 ?o85 ?_
    case o85 => decide
    refine lv_iadd hx hb dL_law_731 ?_
    refine lv_topi (fun x_408 ex_408 => ?_)
    have zx_408 : x_408.toInt = i.toInt + 5 := ?o86
    case o86 =>
      rw [ex_408]
      refine i32_add rfl ?o87 ?o88 ?o89
      case o87 => decide
      case o88 => omega
      case o89 => omega
    obtain rfl : x_373 = x_408 := ex_373.trans ex_408.symm
    refine va_sld hx hb hX hbl hbA hW.2.2.2.1 (vp_in_iff.mpr ⟨?o90, ?o91⟩) dL_law_732 ?_
    case o90 => omega
    case o91 => omega
    refine lv_topi (fun x_409 ex_409 => ?_)
    obtain rfl : x_374 = x_409 := ex_374.trans ex_409.symm
    have jn_741 : ∀ (xj_410 : Int32) (ls : Array Slot), 0 ≤ xj_410.toInt → xj_410.toInt ≤ 1 → (x_374.toInt = 0 ∧ xj_410.toInt = 0) ∨ (x_374.toInt ≠ 0 ∧ xj_410.toInt = 1) → lv_has ls 4 [(3, .int i), (2, .ref am), (1, .ref ax), (0, .ref b)] → W p l e room_1 s m #[Value.ref b] below meth c H locs (CC + 3) (SS + 30) (lw_Z below #[Value.ref b] s) (F0 m 741 ls [.int xj_410, .int x_372, .int x_370, .int x_368, .int x_366, .ref am]) := by
      intro xj_410 ls blxj_410 buxj_410 jcxj_410 hl
      obtain rfl : xj_375 = xj_410 := Int32.toInt_inj.mp (by omega)
      refine lv_aload_n hx hb dL_law_741 rfl (lv_at hl 3 rfl) ?_
      refine lv_iload_n hx hb dL_law_742 rfl (lv_at hl 0 rfl) ?_
      refine lv_bipush (v := 6) hx hb dL_law_743 ?o92 ?_
      case o92 => decide
      refine lv_iadd hx hb dL_law_745 ?_
      refine lv_topi (fun x_411 ex_411 => ?_)
      have zx_411 : x_411.toInt = i.toInt + 6 := ?o93
      case o93 =>
        rw [ex_411]
        refine i32_add rfl ?o94 ?o95 ?o96
        case o94 => decide
        case o95 => omega
        case o96 => omega
      obtain rfl : x_376 = x_411 := ex_376.trans ex_411.symm
      refine va_sld hx hb hX hbl hbA hW.2.2.2.1 (vp_in_iff.mpr ⟨?o97, ?o98⟩) dL_law_746 ?_
      case o97 => omega
      case o98 => omega
      refine lv_topi (fun x_412 ex_412 => ?_)
      obtain rfl : x_377 = x_412 := ex_377.trans ex_412.symm
      have hTo := hT
      refine hx_goi (hx_runV (As := [.int x_366, .int x_368, .int x_370, .int x_372, .int xj_375, .int x_377]) (rest := []) ⟨hx, hb, hml, hown, hts⟩ hW gm tt_10 (T := TX10) (N := 98) rfl (t_X10_file_v l dC dI dA L_378 h_379 H.size am x_366 x_368 x_370 x_372 xj_375 x_377 hT gm mh g_mh f_mh ml g_ml f_ml m_dead g_m_dead f_m_dead m_fou g_m_fou f_m_fou m_aga g_m_aga f_m_aga m_by g_m_by f_m_by m_sum g_m_sum f_m_sum m_fro g_m_fro f_m_fro m_fil g_m_fil f_m_fil m_nt g_m_nt f_m_nt m_wt g_m_wt f_m_wt m_be g_m_be f_m_be m_ad g_m_ad f_m_ad mr g_mr f_mr mn g_mn f_mn mp g_mp f_mp m_ord g_m_ord f_m_ord m_szd g_m_szd f_m_szd m_srv g_m_srv f_m_srv F_mh n_mh F_ml n_ml F_dead n_dead F_m_fou n_m_fou F_aga n_aga F_by n_by F_sum n_sum F_fro n_fro F_fil n_fil F_nt n_nt F_wt n_wt F_be n_be F_ad n_ad F_mr n_mr F_mn n_mn F_mp n_mp F_ord n_ord F_szd n_szd F_srv n_srv a0 f_m_acts c0 f_m_claims m0 f_m_heardMany np f_m_persons nw f_m_now A9 hCA9 hPL hHC ⟨?o99, ?o100⟩) (cwV 6 hts (hx_gV kw_1589 kw_1586 kw_1587 kw_1588 kw_103) rfl rfl rfl (by decide +kernel) ⟨Nat.le_of_ble_eq_true rfl, Nat.le_of_ble_eq_true rfl⟩) rfl hl.1 rfl (Nat.le_of_ble_eq_true rfl) dL_law_747 ⟨(show CC + 3 + 0 ≤ 600000 from ?o101), (show SS + 30 + 0 ≤ 7302250 from ?o102)⟩) hW (fun r_415 L_413 h_414 H locs p_416 hW => ?_)
      case o99 => omega
      case o100 => omega
      case o101 => omega
      case o102 => omega
      obtain ⟨⟨w_418, w_419, w_420, w_421, w_422, w_423, w_424, w_425, w_426, w_427, w_428, w_429, w_430, w_431, w_432, fw_418, fw_419, fw_420, fw_421, fw_422, fw_423, fw_424, fw_425, fw_426, fw_427, fw_428, fw_429, fw_430, fw_431, fw_432, hr_417⟩, hT, hs⟩ := p_416
      replace hT : hx_T T_tb L_413 h_414 := hT
      replace hs : hx_S T_tb [(10, 36), (72, 0), (73, 0), (74, 0), (75, 0), (76, 0), (77, 0), (78, 0), (79, 0), (81, 0), (82, 0), (83, 0), (84, 0), (85, 0), (87, 0)] L_378 h_379 L_413 h_414 := hs
      replace f_qa := (hs.o gx trivial rfl).2.trans f_qa
      replace f_qp := (hs.o gx trivial rfl).2.trans f_qp
      replace f_qc := (hs.o gx trivial rfl).2.trans f_qc
      replace f_qh := (hs.o gx trivial rfl).2.trans f_qh
      replace f_qw := (hs.o gx trivial rfl).2.trans f_qw
      replace f_ql := (hs.o g_qw trivial rfl).2.trans f_ql
      replace f_m_now := (hs.o gm trivial rfl).1.trans f_m_now
      replace f_m_persons := (hs.o gm trivial rfl).1.trans f_m_persons
      replace f_m_taped := (hs.o gm trivial rfl).1.trans f_m_taped
      replace f_m_acts := (hs.o gm trivial rfl).1.trans f_m_acts
      replace f_m_heardMany := (hs.o gm trivial rfl).1.trans f_m_heardMany
      replace f_m_lines := (hs.o gm trivial rfl).1.trans f_m_lines
      replace f_m_listed := (hs.o gm trivial rfl).1.trans f_m_listed
      replace f_m_walkedMany := (hs.o gm trivial rfl).1.trans f_m_walkedMany
      replace f_m_payments := (hs.o gm trivial rfl).1.trans f_m_payments
      replace f_x_now := (hs.o gx trivial rfl).1.trans f_x_now
      replace f_x_personCount := (hs.o gx trivial rfl).1.trans f_x_personCount
      replace f_x_tapeLength := (hs.o gx trivial rfl).1.trans f_x_tapeLength
      replace f_x_actCount := (hs.o gx trivial rfl).1.trans f_x_actCount
      replace f_x_heardCount := (hs.o gx trivial rfl).1.trans f_x_heardCount
      replace f_mw := (hs.o gm trivial rfl).2.trans f_mw
      replace f_mr := (hs.o gm trivial rfl).2.trans f_mr
      replace f_mp := (hs.o gm trivial rfl).2.trans f_mp
      replace f_mn := (hs.o gm trivial rfl).2.trans f_mn
      replace f_ml := (hs.o gm trivial rfl).2.trans f_ml
      replace f_mh := (hs.o gm trivial rfl).2.trans f_mh
      replace f_mt := (hs.o gm trivial rfl).2.trans f_mt
      replace f_m_fou := (hs.o gm trivial rfl).2.trans f_m_fou
      replace f_qo_ln := (hs.o gx trivial rfl).2.trans f_qo_ln
      replace f_o_ln := (hs.o g_qo_ln trivial rfl).1.trans f_o_ln
      replace f_o_lsd := (hs.o g_qw trivial rfl).1.trans f_o_lsd
      replace f_o_wkm := (hs.o g_qw trivial rfl).1.trans f_o_wkm
      replace f_qo_py := (hs.o gx trivial rfl).2.trans f_qo_py
      replace f_o_py := (hs.o g_qo_py trivial rfl).1.trans f_o_py
      replace f_b_of := (hs.o g_qo_ln trivial rfl).2.trans f_b_of
      replace f_m_of := (hs.o gm trivial rfl).2.trans f_m_of
      replace f_b_wf := (hs.o g_qo_ln trivial rfl).2.trans f_b_wf
      replace f_m_wf := (hs.o gm trivial rfl).2.trans f_m_wf
      replace f_b_df := (hs.o g_qo_ln trivial rfl).2.trans f_b_df
      replace f_m_df := (hs.o gm trivial rfl).2.trans f_m_df
      replace f_b_kf := (hs.o g_qo_ln trivial rfl).2.trans f_b_kf
      replace f_m_kf := (hs.o gm trivial rfl).2.trans f_m_kf
      replace f_b_sf := (hs.o g_qo_ln trivial rfl).2.trans f_b_sf
      replace f_m_sf := (hs.o gm trivial rfl).2.trans f_m_sf
      replace f_b_bf := (hs.o g_qo_ln trivial rfl).2.trans f_b_bf
      replace f_m_lst := (hs.o gm trivial rfl).2.trans f_m_lst
      replace f_qtp := (hs.o gx trivial rfl).2.trans f_qtp
      replace f_m_tp := (hs.o gm trivial rfl).2.trans f_m_tp
      replace f_m_dead := (hs.o gm trivial rfl).2.trans f_m_dead
      replace f_m_isj := (hs.o gm trivial rfl).2.trans f_m_isj
      replace f_m_dox := (hs.o gm trivial rfl).2.trans f_m_dox
      replace f_m_doy := (hs.o gm trivial rfl).2.trans f_m_doy
      replace f_qlt := (hs.o g_qw trivial rfl).2.trans f_qlt
      replace f_qlf := (hs.o g_qw trivial rfl).2.trans f_qlf
      replace f_m_wkd := (hs.o gm trivial rfl).2.trans f_m_wkd
      replace f_m_aga := (hs.o gm trivial rfl).2.trans f_m_aga
      replace f_qwo := (hs.o gx trivial rfl).2.trans f_qwo
      replace f_m_ad := (hs.o gm trivial rfl).2.trans f_m_ad
      replace f_m_by := (hs.o gm trivial rfl).2.trans f_m_by
      replace f_m_ho := (hs.o gm trivial rfl).2.trans f_m_ho
      replace f_m_fc := (hs.o gm trivial rfl).2.trans f_m_fc
      replace f_m_nt := (hs.o gm trivial rfl).2.trans f_m_nt
      replace f_m_wt := (hs.o gm trivial rfl).2.trans f_m_wt
      replace f_m_be := (hs.o gm trivial rfl).2.trans f_m_be
      replace f_m_bor := (hs.o gm trivial rfl).2.trans f_m_bor
      replace f_m_kin := (hs.o gm trivial rfl).2.trans f_m_kin
      replace f_m_sum := (hs.o gm trivial rfl).2.trans f_m_sum
      replace f_m_fro := (hs.o gm trivial rfl).2.trans f_m_fro
      replace f_m_fil := (hs.o gm trivial rfl).2.trans f_m_fil
      replace f_m_jud := (hs.o gm trivial rfl).2.trans f_m_jud
      replace f_m_ear := (hs.o gm trivial rfl).2.trans f_m_ear
      replace f_m_hds := (hs.o gm trivial rfl).2.trans f_m_hds
      replace f_m_ord := (hs.o gm trivial rfl).2.trans f_m_ord
      replace f_m_wkl := (hs.o gm trivial rfl).2.trans f_m_wkl
      replace f_m_owd := (hs.o gm trivial rfl).2.trans f_m_owd
      replace f_m_gds := (hs.o gm trivial rfl).2.trans f_m_gds
      replace f_m_szd := (hs.o gm trivial rfl).2.trans f_m_szd
      replace f_m_srv := (hs.o gm trivial rfl).2.trans f_m_srv
      replace f_y_p0 := (hs.o g_qo_py trivial rfl).2.trans f_y_p0
      replace f_m_p0 := (hs.o gm trivial rfl).2.trans f_m_p0
      replace f_y_p1 := (hs.o g_qo_py trivial rfl).2.trans f_y_p1
      replace f_m_p1 := (hs.o gm trivial rfl).2.trans f_m_p1
      replace f_y_p2 := (hs.o g_qo_py trivial rfl).2.trans f_y_p2
      replace f_m_p2 := (hs.o gm trivial rfl).2.trans f_m_p2
      replace f_y_p3 := (hs.o g_qo_py trivial rfl).2.trans f_y_p3
      replace f_m_p3 := (hs.o gm trivial rfl).2.trans f_m_p3
      replace f_y_p4 := (hs.o g_qo_py trivial rfl).2.trans f_y_p4
      replace f_m_p4 := (hs.o gm trivial rfl).2.trans f_m_p4
      replace f_qrg9 := (hs.o gx trivial rfl).2.trans f_qrg9
      replace f_y_ls := (hs.o g_qrg9 trivial rfl).2.trans f_y_ls
      replace f_m_rl := (hs.o gm trivial rfl).2.trans f_m_rl
      replace ffv_361 := (hs.o g_qrg9 trivial rfl).1.trans ffv_361
      replace ffv_362 := (hs.o gm trivial rfl).1.trans ffv_362
      replace ffv_363 := (hs.o gm trivial rfl).1.trans ffv_363
      replace fw_384 := (hs.o gx trivial rfl).1.trans fw_384
      replace pf_qa : ∀ j : Nat, (j : Int) < (h_414.2.1 ax 6).toInt → h_414.2.2 qa j ≠ none := by
        intro j hj; rw [(hs.o gx trivial rfl).1] at hj; rw [(hs.a g_qa rfl j).2]; exact pf_qa j hj
      replace pf_qp : ∀ j : Nat, (j : Int) < (h_414.2.1 ax 8).toInt → h_414.2.2 qp j ≠ none := by
        intro j hj; rw [(hs.o gx trivial rfl).1] at hj; rw [(hs.a g_qp rfl j).2]; exact pf_qp j hj
      replace pf_qh : ∀ j : Nat, (j : Int) < (h_414.2.1 ax 13).toInt → h_414.2.2 qh j ≠ none := by
        intro j hj; rw [(hs.o gx trivial rfl).1] at hj; rw [(hs.a g_qh rfl j).2]; exact pf_qh j hj
      replace pf_ql : ∀ j : Nat, (j : Int) < (h_414.2.1 qw 0).toInt → h_414.2.2 ql j ≠ none := by
        intro j hj; rw [(hs.o g_qw trivial rfl).1] at hj; rw [(hs.a g_ql rfl j).2]; exact pf_ql j hj
      replace pf_383 : ∀ j : Nat, (j : Int) < (h_414.2.1 ax 11).toInt → h_414.2.2 qc j ≠ none := by
        intro j hj; rw [(hs.o gx trivial rfl).1] at hj; rw [(hs.a g_qc rfl j).2]; exact pf_383 j hj
      replace cl_lst : hx_col 8 h_414 ql 0 = c_lst := (hx_col_S hs hTo g_ql tt_40 tt_2 rfl rfl).trans cl_lst
      replace cl_dead : hx_col 40 h_414 qp 7 = c_dead := (hx_col_S hs hTo g_qp tt_44 tt_4 rfl rfl).trans cl_dead
      replace cl_isj : hx_col 40 h_414 qp 8 = c_isj := (hx_col_S hs hTo g_qp tt_44 tt_4 rfl rfl).trans cl_isj
      replace cl_dox : hx_col 40 h_414 qp 5 = c_dox := (hx_col_S hs hTo g_qp tt_44 tt_4 rfl rfl).trans cl_dox
      replace cl_doy : hx_col 40 h_414 qp 6 = c_doy := (hx_col_S hs hTo g_qp tt_44 tt_4 rfl rfl).trans cl_doy
      replace cl_bor : hx_col 40 h_414 qp 1 = F_bor := (hx_col_S hs hTo g_qp tt_44 tt_4 rfl rfl).trans cl_bor
      replace cl_kin : hx_col 40 h_414 qp 2 = F_kin := (hx_col_S hs hTo g_qp tt_44 tt_4 rfl rfl).trans cl_kin
      replace cl_ear : hx_col 40 h_414 qp 3 = F_ear := (hx_col_S hs hTo g_qp tt_44 tt_4 rfl rfl).trans cl_ear
      replace cl_hds : hx_col 40 h_414 qp 4 = F_hds := (hx_col_S hs hTo g_qp tt_44 tt_4 rfl rfl).trans cl_hds
      replace fw_385 : hx_col 100 h_414 qc 10 = w_385 := (hx_col_S hs hTo g_qc tt_45 tt_2 rfl rfl).trans fw_385
      replace fw_386 : hx_col 100 h_414 qc 9 = w_386 := (hx_col_S hs hTo g_qc tt_45 tt_2 rfl rfl).trans fw_386
      replace fw_387 : hx_col 100 h_414 qc 6 = w_387 := (hx_col_S hs hTo g_qc tt_45 tt_2 rfl rfl).trans fw_387
      replace fw_388 : hx_col 100 h_414 qc 7 = w_388 := (hx_col_S hs hTo g_qc tt_45 tt_2 rfl rfl).trans fw_388
      replace fw_389 : hx_col 100 h_414 qc 8 = w_389 := (hx_col_S hs hTo g_qc tt_45 tt_2 rfl rfl).trans fw_389
      replace fw_390 : hx_col 100 h_414 qc 11 = w_390 := (hx_col_S hs hTo g_qc tt_45 tt_2 rfl rfl).trans fw_390
      replace fw_391 : hx_col 100 h_414 qc 12 = w_391 := (hx_col_S hs hTo g_qc tt_45 tt_2 rfl rfl).trans fw_391
      replace fw_392 : hx_col 100 h_414 qc 13 = w_392 := (hx_col_S hs hTo g_qc tt_45 tt_2 rfl rfl).trans fw_392
      replace fw_393 : hx_col 100 h_414 qc 14 = w_393 := (hx_col_S hs hTo g_qc tt_45 tt_2 rfl rfl).trans fw_393
      replace fw_394 : hx_col 100 h_414 qc 15 = w_394 := (hx_col_S hs hTo g_qc tt_45 tt_2 rfl rfl).trans fw_394
      replace fw_395 : hx_col 100 h_414 qc 16 = w_395 := (hx_col_S hs hTo g_qc tt_45 tt_2 rfl rfl).trans fw_395
      replace fw_396 : hx_col 100 h_414 qc 17 = w_396 := (hx_col_S hs hTo g_qc tt_45 tt_2 rfl rfl).trans fw_396
      replace fw_397 : hx_col 100 h_414 qc 18 = w_397 := (hx_col_S hs hTo g_qc tt_45 tt_2 rfl rfl).trans fw_397
      replace nu_qp : hx_num 40 h_414 qp 0 (np.toInt) := hx_num_S hs hTo g_qp tt_44 tt_4 rfl rfl nu_qp
      replace nu_398 : hx_num 100 h_414 qc 0 (w_384.toInt) := hx_num_S hs hTo g_qc tt_45 tt_2 rfl rfl nu_398
      replace sb_399 : hx_LQ 8 100 h_414 ql qc := hx_LQ_S hs g_ql g_qc rfl rfl sb_399
      replace hRA9 : hv_RA h_414 qa qwo a0.toInt A9 := hv_RA_S hs hTo g_qa g_qwo tt_43 tt_0 rfl rfl rfl rfl rfl rfl ?o103 hRA9
      case o103 => omega
      replace hDFN : hw_DF h_414 qc qp 2 agN w_384.toInt := hw_DF_S hs hTo g_qc g_qp tt_45 tt_2 rfl rfl rfl hDFN
      replace hDPN : hw_DF h_414 qc qp 1 byN w_384.toInt := hw_DF_S hs hTo g_qc g_qp tt_45 tt_2 rfl rfl rfl hDPN
      replace hACN : hv_AC h_414 qc plN w_384.toInt A9 := hv_AC_S hs hTo g_qc tt_45 tt_2 rfl tt_0 rfl rfl rfl rfl rfl rfl rfl hACN
      replace hFXN : hv_FX 8 4 h_414 qc cFN w_384.toInt := hv_FX_S hs hTo g_qc tt_45 tt_2 rfl rfl rfl rfl hFXN
      replace hBXN : hv_FX 3 5 h_414 qc bFN w_384.toInt := hv_FX_S hs hTo g_qc tt_45 tt_2 rfl rfl rfl rfl hBXN
      replace hHLN : hv_HL h_414 qh qc F_ho m0.toInt w_384.toInt := hv_HL_S hs g_qh g_qc rfl rfl hHLN
      replace n_mw : h_414.2.1 mw = F_mw := (funext fun j => (hs.a g_mw rfl j).1).trans n_mw
      replace n_mr : h_414.2.1 mr = F_mr := (funext fun j => (hs.a g_mr rfl j).1).trans n_mr
      replace n_mp : h_414.2.1 mp = F_mp := (funext fun j => (hs.a g_mp rfl j).1).trans n_mp
      replace n_mn : h_414.2.1 mn = F_mn := (funext fun j => (hs.a g_mn rfl j).1).trans n_mn
      replace n_mt : h_414.2.1 mt = F_mt := (funext fun j => (hs.a g_mt rfl j).1).trans n_mt
      replace n_b_of : h_414.2.1 b_of = B_of := (funext fun j => (hs.a g_b_of rfl j).1).trans n_b_of
      replace n_m_of : h_414.2.1 m_of = F_of := (funext fun j => (hs.a g_m_of rfl j).1).trans n_m_of
      replace n_b_wf : h_414.2.1 b_wf = B_wf := (funext fun j => (hs.a g_b_wf rfl j).1).trans n_b_wf
      replace n_m_wf : h_414.2.1 m_wf = F_wf := (funext fun j => (hs.a g_m_wf rfl j).1).trans n_m_wf
      replace n_b_df : h_414.2.1 b_df = B_df := (funext fun j => (hs.a g_b_df rfl j).1).trans n_b_df
      replace n_m_df : h_414.2.1 m_df = F_df := (funext fun j => (hs.a g_m_df rfl j).1).trans n_m_df
      replace n_b_kf : h_414.2.1 b_kf = B_kf := (funext fun j => (hs.a g_b_kf rfl j).1).trans n_b_kf
      replace n_m_kf : h_414.2.1 m_kf = F_kf := (funext fun j => (hs.a g_m_kf rfl j).1).trans n_m_kf
      replace n_b_sf : h_414.2.1 b_sf = B_sf := (funext fun j => (hs.a g_b_sf rfl j).1).trans n_b_sf
      replace n_m_sf : h_414.2.1 m_sf = F_sf := (funext fun j => (hs.a g_m_sf rfl j).1).trans n_m_sf
      replace n_b_bf : h_414.2.1 b_bf = bfL := (funext fun j => (hs.a g_b_bf rfl j).1).trans n_b_bf
      replace n_lst : h_414.2.1 m_lst = F_lst := (funext fun j => (hs.a g_m_lst rfl j).1).trans n_lst
      replace n_tp : h_414.2.1 m_tp = F_tp := (funext fun j => (hs.a g_m_tp rfl j).1).trans n_tp
      replace n_qtp : h_414.2.1 qtp = F_tp := (funext fun j => (hs.a g_qtp rfl j).1).trans n_qtp
      replace n_dead : h_414.2.1 m_dead = F_dead := (funext fun j => (hs.a g_m_dead rfl j).1).trans n_dead
      replace n_isj : h_414.2.1 m_isj = F_isj := (funext fun j => (hs.a g_m_isj rfl j).1).trans n_isj
      replace n_dox : h_414.2.1 m_dox = F_dox := (funext fun j => (hs.a g_m_dox rfl j).1).trans n_dox
      replace n_doy : h_414.2.1 m_doy = F_doy := (funext fun j => (hs.a g_m_doy rfl j).1).trans n_doy
      replace n_qlt : h_414.2.1 qlt = F_qlt := (funext fun j => (hs.a g_qlt rfl j).1).trans n_qlt
      replace n_m_wkd : h_414.2.1 m_wkd = F_m_wkd := (funext fun j => (hs.a g_m_wkd rfl j).1).trans n_m_wkd
      replace n_ad : h_414.2.1 m_ad = F_ad := (funext fun j => (hs.a g_m_ad rfl j).1).trans n_ad
      replace n_ho : h_414.2.1 m_ho = F_ho := (funext fun j => (hs.a g_m_ho rfl j).1).trans n_ho
      replace n_fc : h_414.2.1 m_fc = F_fc := (funext fun j => (hs.a g_m_fc rfl j).1).trans n_fc
      replace n_bor : h_414.2.1 m_bor = F_bor := (funext fun j => (hs.a g_m_bor rfl j).1).trans n_bor
      replace n_kin : h_414.2.1 m_kin = F_kin := (funext fun j => (hs.a g_m_kin rfl j).1).trans n_kin
      replace n_jud : h_414.2.1 m_jud = F_jud := (funext fun j => (hs.a g_m_jud rfl j).1).trans n_jud
      replace n_ear : h_414.2.1 m_ear = F_ear := (funext fun j => (hs.a g_m_ear rfl j).1).trans n_ear
      replace n_hds : h_414.2.1 m_hds = F_hds := (funext fun j => (hs.a g_m_hds rfl j).1).trans n_hds
      replace n_wkl : h_414.2.1 m_wkl = F_wkl := (funext fun j => (hs.a g_m_wkl rfl j).1).trans n_wkl
      replace n_owd : h_414.2.1 m_owd = F_owd := (funext fun j => (hs.a g_m_owd rfl j).1).trans n_owd
      replace n_gds : h_414.2.1 m_gds = F_gds := (funext fun j => (hs.a g_m_gds rfl j).1).trans n_gds
      replace n_p0 : h_414.2.1 m_p0 = F_p0 := (funext fun j => (hs.a g_m_p0 rfl j).1).trans n_p0
      replace n_y_p0 : h_414.2.1 y_p0 = F_p0 := (funext fun j => (hs.a g_y_p0 rfl j).1).trans n_y_p0
      replace n_p1 : h_414.2.1 m_p1 = F_p1 := (funext fun j => (hs.a g_m_p1 rfl j).1).trans n_p1
      replace n_y_p1 : h_414.2.1 y_p1 = F_p1 := (funext fun j => (hs.a g_y_p1 rfl j).1).trans n_y_p1
      replace n_p2 : h_414.2.1 m_p2 = F_p2 := (funext fun j => (hs.a g_m_p2 rfl j).1).trans n_p2
      replace n_y_p2 : h_414.2.1 y_p2 = F_p2 := (funext fun j => (hs.a g_y_p2 rfl j).1).trans n_y_p2
      replace n_p3 : h_414.2.1 m_p3 = F_p3 := (funext fun j => (hs.a g_m_p3 rfl j).1).trans n_p3
      replace n_y_p3 : h_414.2.1 y_p3 = F_p3 := (funext fun j => (hs.a g_y_p3 rfl j).1).trans n_y_p3
      replace n_p4 : h_414.2.1 m_p4 = F_p4 := (funext fun j => (hs.a g_m_p4 rfl j).1).trans n_p4
      replace n_y_p4 : h_414.2.1 y_p4 = F_p4 := (funext fun j => (hs.a g_y_p4 rfl j).1).trans n_y_p4
      replace n_y_ls : h_414.2.1 y_ls = F_y_ls := (funext fun j => (hs.a g_y_ls rfl j).1).trans n_y_ls
      replace n_m_rl : h_414.2.1 m_rl = F_m_rl := (funext fun j => (hs.a g_m_rl rfl j).1).trans n_m_rl
      replace gx := gx.S hs
      replace gm := gm.S hs
      replace g_qa := g_qa.S hs
      replace g_qp := g_qp.S hs
      replace g_qc := g_qc.S hs
      replace g_qh := g_qh.S hs
      replace g_qw := g_qw.S hs
      replace g_ql := g_ql.S hs
      replace g_mw := g_mw.S hs
      replace g_mr := g_mr.S hs
      replace g_mp := g_mp.S hs
      replace g_mn := g_mn.S hs
      replace g_ml := g_ml.S hs
      replace g_mh := g_mh.S hs
      replace g_mt := g_mt.S hs
      replace g_m_fou := g_m_fou.S hs
      replace g_qo_ln := g_qo_ln.S hs
      replace g_qo_py := g_qo_py.S hs
      replace g_b_of := g_b_of.S hs
      replace g_m_of := g_m_of.S hs
      replace g_b_wf := g_b_wf.S hs
      replace g_m_wf := g_m_wf.S hs
      replace g_b_df := g_b_df.S hs
      replace g_m_df := g_m_df.S hs
      replace g_b_kf := g_b_kf.S hs
      replace g_m_kf := g_m_kf.S hs
      replace g_b_sf := g_b_sf.S hs
      replace g_m_sf := g_m_sf.S hs
      replace g_b_bf := g_b_bf.S hs
      replace g_m_lst := g_m_lst.S hs
      replace g_qtp := g_qtp.S hs
      replace g_m_tp := g_m_tp.S hs
      replace g_m_dead := g_m_dead.S hs
      replace g_m_isj := g_m_isj.S hs
      replace g_m_dox := g_m_dox.S hs
      replace g_m_doy := g_m_doy.S hs
      replace g_qlt := g_qlt.S hs
      replace g_qlf := g_qlf.S hs
      replace g_m_wkd := g_m_wkd.S hs
      replace g_m_aga := g_m_aga.S hs
      replace g_qwo := g_qwo.S hs
      replace g_m_ad := g_m_ad.S hs
      replace g_m_by := g_m_by.S hs
      replace g_m_ho := g_m_ho.S hs
      replace g_m_fc := g_m_fc.S hs
      replace g_m_nt := g_m_nt.S hs
      replace g_m_wt := g_m_wt.S hs
      replace g_m_be := g_m_be.S hs
      replace g_m_bor := g_m_bor.S hs
      replace g_m_kin := g_m_kin.S hs
      replace g_m_sum := g_m_sum.S hs
      replace g_m_fro := g_m_fro.S hs
      replace g_m_fil := g_m_fil.S hs
      replace g_m_jud := g_m_jud.S hs
      replace g_m_ear := g_m_ear.S hs
      replace g_m_hds := g_m_hds.S hs
      replace g_m_ord := g_m_ord.S hs
      replace g_m_wkl := g_m_wkl.S hs
      replace g_m_owd := g_m_owd.S hs
      replace g_m_gds := g_m_gds.S hs
      replace g_m_szd := g_m_szd.S hs
      replace g_m_srv := g_m_srv.S hs
      replace g_y_p0 := g_y_p0.S hs
      replace g_m_p0 := g_m_p0.S hs
      replace g_y_p1 := g_y_p1.S hs
      replace g_m_p1 := g_m_p1.S hs
      replace g_y_p2 := g_y_p2.S hs
      replace g_m_p2 := g_m_p2.S hs
      replace g_y_p3 := g_y_p3.S hs
      replace g_m_p3 := g_m_p3.S hs
      replace g_y_p4 := g_y_p4.S hs
      replace g_m_p4 := g_m_p4.S hs
      replace g_qrg9 := g_qrg9.S hs
      replace g_y_ls := g_y_ls.S hs
      replace g_m_rl := g_m_rl.S hs
      have fw_418 : h_414.2.1 am 36 = w_418 := fw_418
      have bw_418 := hT.gi gm tt_10 (k := 36) rfl
      rw [fw_418] at bw_418
      have bw_418 : 0 ≤ w_418.toInt ∧ w_418.toInt ≤ 100 := bw_418
      have fw_419 : h_414.2.1 mh = w_419 := fw_419
      have fw_420 : h_414.2.1 ml = w_420 := fw_420
      have fw_421 : h_414.2.1 m_fou = w_421 := fw_421
      have fw_422 : h_414.2.1 m_aga = w_422 := fw_422
      have fw_423 : h_414.2.1 m_by = w_423 := fw_423
      have fw_424 : h_414.2.1 m_sum = w_424 := fw_424
      have fw_425 : h_414.2.1 m_fro = w_425 := fw_425
      have fw_426 : h_414.2.1 m_fil = w_426 := fw_426
      have fw_427 : h_414.2.1 m_nt = w_427 := fw_427
      have fw_428 : h_414.2.1 m_wt = w_428 := fw_428
      have fw_429 : h_414.2.1 m_be = w_429 := fw_429
      have fw_430 : h_414.2.1 m_ord = w_430 := fw_430
      have fw_431 : h_414.2.1 m_szd = w_431 := fw_431
      have fw_432 : h_414.2.1 m_srv = w_432 := fw_432
      obtain ⟨hr_417a, hr_417b⟩ := hr_417
      refine lv_pop hx hb dL_law_750 rfl ?_
      refine lv_goto (tgt := 1379) hx hb dL_law_751 ?o104 ?_
      case o104 => decide
      obtain ⟨heq, hq_c0⟩ := hx_fk (by omega) eq_dead hr_382a.1 hr_417a.2.2.1
      have hq_fou := hx_cdk heq hr_382a.2.1 hr_417a.2.2.2.1 eq_fou
      have hq_tri := hx_cdz hr_382a.2.2.1 eq_tri z_tri
      have hq_sum := hv_cdf heq hr_382a.2.2.2.1 hr_417a.2.2.2.2.2.2.2.2.1
      have hq_fro := hv_cdf heq hr_382a.2.2.2.2.1 hr_417a.2.2.2.2.2.2.2.2.2.1
      have hq_fil := hv_cdf heq hr_382a.2.2.2.2.2.1 hr_417a.2.2.2.2.2.2.2.2.2.2.1
      have hq_hea := hv_cdf heq hr_382a.2.2.2.2.2.2.1 hr_417a.2.2.2.2.2.2.1
      have hq_jud := hv_cdfz hr_382a.2.2.2.2.2.2.2.1 z_jud
      obtain ⟨pvM, hpvM, hplM⟩ := hr_417a.2.2.2.2.2.2.2.2.2.2.2.2.2.1; obtain rfl : pvN = pvM := Int32.toInt_inj.mp (hpvN.trans hpvM.symm); have hq_pl := hw_UP_u heq hplN hplM
      have hFRn := hv_FR_f hFR9 ?o105 heq hFUN hr_417a.2.2.2.2.2.2.2.2.2.2.2.1 hr_417a.2.2.2.2.2.2.2.2.2.2.2.2.1 hr_417a.2.2.2.2.2.2.2.2.1 hr_417a.2.2.2.2.2.2.1 (n1 := w_384.toInt) (by rw [← heq]; rcases hr_382a.1 with ⟨z, w, _⟩ | ⟨z, w, _⟩; exact Or.inl ⟨z, w⟩; exact Or.inr ⟨z, w⟩)
      case o105 => omega
      have hHOn := hv_HO_c hHO9 ?o106 (n1 := w_418.toInt) (by rcases hr_417a.2.2.2.2.1 with ⟨z, w, _⟩ | ⟨z, w, _⟩; exact Or.inl ⟨z, w⟩; exact Or.inr ⟨z, w⟩)
      case o106 => omega
      have hq_ord := hv_cdf heq hr_382b.1 hr_417b.1
      have hq_szd := hv_cdf heq hr_382b.2.2.2.1 hr_417b.2.1
      have hq_srv := hv_cdf heq hr_382b.2.2.2.2.2 hr_417b.2.2
      have hq_wkl := hv_cdfz hr_382b.2.1 z_wkl
      have hq_owd := hv_cdfz hr_382b.2.2.1 z_owd
      have hq_gds := hv_cdfz hr_382b.2.2.2.2.1 z_gds
      refine W.widen (k := CC + 3) (n := SS + 179) ?o107 ?o108 ?_
      case o107 => omega
      case o108 => omega
      refine kk L_413 h_414 H locs ls hW ⟨hT, gx, gm, ⟨f_x_now.trans f_m_now.symm, f_x_personCount.trans f_m_persons.symm, (fw_384.trans hq_c0).trans fw_418.symm, f_x_tapeLength.trans f_m_taped.symm, f_x_actCount.trans f_m_acts.symm, f_x_heardCount.trans f_m_heardMany.symm, hx_ob f_qo_ln (f_o_ln.trans f_m_lines.symm), hx_ob f_qw (f_o_lsd.trans f_m_listed.symm), hx_ob f_qw (f_o_wkm.trans f_m_walkedMany.symm), hx_ob f_qo_py (f_o_py.trans f_m_payments.symm), hx_ob f_qp ?o109, hx_ob f_qc ?o110, (fun b a r hb ha hr => ?o111), (fun b a r hb ha hr => ?o112), (fun b a r hb ha hr => ?o113), (fun b a r hb ha hr => ?o114), (fun b a r hb ha hr => ?o115), (fun b a r hb ha hr => ?o116), (fun w q c hw hq hc => ?o117), (fun w q r hw hq hr => ?o118), (fun w q r hw hq hr => ?o119), (fun c q a hc hq ha => ?o120), (fun q r hq hr => ?o121), (fun q w a b c d e p hq hw ha hb hc hd he hp => ?o122), (fun c q a hc hq ha => ?o123), (fun q c a hq hc ha => ?o124), (fun a b ha hb => ?o125), (fun c a b d e f hc ha hb hd he hf => ?o126), (fun c a hc ha => ?o127), hx_ob2 f_qp f_m_bor (cl_bor.trans n_bor.symm), hx_ob2 f_qp f_m_kin (cl_kin.trans n_kin.symm), hx_ob2 f_qc f_m_sum ((fw_387.trans hq_sum).trans fw_424.symm), hx_ob2 f_qc f_m_fro ((fw_388.trans hq_fro).trans fw_425.symm), hx_ob2 f_qc f_m_fil ((fw_389.trans hq_fil).trans fw_426.symm), hx_ob2 f_qc f_mh ((fw_390.trans hq_hea).trans fw_419.symm), hx_ob2 f_qc f_m_jud ((fw_391.trans hq_jud).trans n_jud.symm), hx_ob2 f_qp f_m_ear (cl_ear.trans n_ear.symm), hx_ob2 f_qp f_m_hds (cl_hds.trans n_hds.symm), hx_ob2 f_qc f_m_ord ((fw_392.trans hq_ord).trans fw_430.symm), hx_ob2 f_qc f_m_wkl ((fw_393.trans hq_wkl).trans n_wkl.symm), hx_ob2 f_qc f_m_owd ((fw_394.trans hq_owd).trans n_owd.symm), hx_ob2 f_qc f_m_gds ((fw_396.trans hq_gds).trans n_gds.symm), hx_ob2 f_qc f_m_szd ((fw_395.trans hq_szd).trans fw_431.symm), hx_ob2 f_qc f_m_srv ((fw_397.trans hq_srv).trans fw_432.symm), (fun p q r hp hq hr => ?o128), (fun p q r hp hq hr => ?o129), (fun p q r hp hq hr => ?o130), (fun p q r hp hq hr => ?o131), (fun p q r hp hq hr => ?o132), (fun p hp => ?o133), (fun p q r hp hq hr => ?o134), hx_ob2 f_qp f_m_dead ?o135, hx_ob2 f_qp f_m_isj ?o136, hx_ob2 f_qp f_m_dox ?o137, hx_ob2 f_qp f_m_doy ?o138, hx_ob2 f_qc f_m_fou ?o139, hx_ob2 f_qc f_mt ?o140, trivial⟩, ⟨hx_ob f_qa pf_qa, hx_ob f_qp pf_qp, hx_ob f_qc pf_383, hx_ob f_qh pf_qh, (fun w q hw hq => ?o141)⟩, ⟨hx_ob f_mw ?o142, hx_ob f_mr ?o143, hx_ob2 f_mp f_mn ?o144, hx_ob f_ml ?o145, hx_ob f_mh ?o146, hx_ob f_mt ?o147, hx_ob2 f_mh f_m_fou ?o149⟩⟩ hl
      case o109 =>
        rw [f_x_personCount]
        exact nu_qp
      case o110 =>
        rw [fw_384]
        exact nu_398
      case o111 =>
        obtain rfl : qo_ln = b := Option.some.inj (f_qo_ln.symm.trans hb)
        obtain rfl : b_of = a := Option.some.inj (f_b_of.symm.trans ha)
        obtain rfl : m_of = r := Option.some.inj (f_m_of.symm.trans hr)
        rw [n_b_of, n_m_of, f_o_ln]
        exact eb_of
      case o112 =>
        obtain rfl : qo_ln = b := Option.some.inj (f_qo_ln.symm.trans hb)
        obtain rfl : b_wf = a := Option.some.inj (f_b_wf.symm.trans ha)
        obtain rfl : m_wf = r := Option.some.inj (f_m_wf.symm.trans hr)
        rw [n_b_wf, n_m_wf, f_o_ln]
        exact eb_wf
      case o113 =>
        obtain rfl : qo_ln = b := Option.some.inj (f_qo_ln.symm.trans hb)
        obtain rfl : b_df = a := Option.some.inj (f_b_df.symm.trans ha)
        obtain rfl : m_df = r := Option.some.inj (f_m_df.symm.trans hr)
        rw [n_b_df, n_m_df, f_o_ln]
        exact eb_df
      case o114 =>
        obtain rfl : qo_ln = b := Option.some.inj (f_qo_ln.symm.trans hb)
        obtain rfl : b_kf = a := Option.some.inj (f_b_kf.symm.trans ha)
        obtain rfl : m_kf = r := Option.some.inj (f_m_kf.symm.trans hr)
        rw [n_b_kf, n_m_kf, f_o_ln]
        exact eb_kf
      case o115 =>
        obtain rfl : qo_ln = b := Option.some.inj (f_qo_ln.symm.trans hb)
        obtain rfl : b_sf = a := Option.some.inj (f_b_sf.symm.trans ha)
        obtain rfl : m_sf = r := Option.some.inj (f_m_sf.symm.trans hr)
        rw [n_b_sf, n_m_sf, f_o_ln]
        exact eb_sf
      case o116 =>
        obtain rfl : qo_ln = b := Option.some.inj (f_qo_ln.symm.trans hb)
        obtain rfl : b_df = a := Option.some.inj (f_b_df.symm.trans ha)
        obtain rfl : b_bf = r := Option.some.inj (f_b_bf.symm.trans hr)
        rw [n_b_df, n_b_bf, f_o_ln]
        exact ⟨hBD, hDY⟩
      case o117 =>
        obtain rfl : qw = w := Option.some.inj (f_qw.symm.trans hw)
        obtain rfl : ql = q := Option.some.inj (f_ql.symm.trans hq)
        obtain rfl : qc = c := Option.some.inj (f_qc.symm.trans hc)
        exact sb_399
      case o118 =>
        obtain rfl : qw = w := Option.some.inj (f_qw.symm.trans hw)
        obtain rfl : ql = q := Option.some.inj (f_ql.symm.trans hq)
        obtain rfl : m_lst = r := Option.some.inj (f_m_lst.symm.trans hr)
        rw [cl_lst, n_lst]
        exact eq_lst
      case o119 =>
        obtain rfl : qw = w := Option.some.inj (f_qw.symm.trans hw)
        obtain rfl : qlt = q := Option.some.inj (f_qlt.symm.trans hq)
        obtain rfl : m_wkd = r := Option.some.inj (f_m_wkd.symm.trans hr)
        rw [n_qlt, n_m_wkd, f_o_wkm]
        exact eb_wkd
      case o120 =>
        obtain rfl : qc = c := Option.some.inj (f_qc.symm.trans hc)
        obtain rfl : qp = q := Option.some.inj (f_qp.symm.trans hq)
        obtain rfl : m_aga = a := Option.some.inj (f_m_aga.symm.trans ha)
        rw [fw_422, fw_384]
        exact hw_DF_e hDFN (hw_UP_u heq hagN hr_417a.2.2.2.2.2.1) rfl
      case o121 =>
        obtain rfl : qtp = q := Option.some.inj (f_qtp.symm.trans hq)
        obtain rfl : m_tp = r := Option.some.inj (f_m_tp.symm.trans hr)
        exact n_qtp.trans n_tp.symm
      case o122 =>
        obtain rfl : qa = q := Option.some.inj (f_qa.symm.trans hq)
        obtain rfl : qwo = w := Option.some.inj (f_qwo.symm.trans hw)
        obtain rfl : m_ad = a := Option.some.inj (f_m_ad.symm.trans ha)
        obtain rfl : mr = b := Option.some.inj (f_mr.symm.trans hb)
        obtain rfl : mn = c := Option.some.inj (f_mn.symm.trans hc)
        obtain rfl : mp = d := Option.some.inj (f_mp.symm.trans hd)
        obtain rfl : qc = e := Option.some.inj (f_qc.symm.trans he)
        obtain rfl : ml = p := Option.some.inj (f_ml.symm.trans hp)
        exact ⟨_, by rw [f_x_actCount]; exact hRA9, by rw [f_x_actCount, n_ad, n_mr, n_mn, n_mp]; exact hCA9, by rw [fw_420, fw_384]; exact hv_AC_e hACN hq_pl rfl rfl, hAB⟩
      case o123 =>
        obtain rfl : qc = c := Option.some.inj (f_qc.symm.trans hc)
        obtain rfl : qp = q := Option.some.inj (f_qp.symm.trans hq)
        obtain rfl : m_by = a := Option.some.inj (f_m_by.symm.trans ha)
        rw [fw_423, fw_384]
        exact hw_DF_e hDPN (hw_UP_u heq hbyN hr_417a.2.2.2.2.2.2.2.1) rfl
      case o124 =>
        obtain rfl : qh = q := Option.some.inj (f_qh.symm.trans hq)
        obtain rfl : qc = c := Option.some.inj (f_qc.symm.trans hc)
        obtain rfl : m_ho = a := Option.some.inj (f_m_ho.symm.trans ha)
        rw [n_ho, f_x_heardCount, fw_384]
        exact hv_HL_e hHLN rfl rfl rfl
      case o125 =>
        obtain rfl : m_ho = a := Option.some.inj (f_m_ho.symm.trans ha)
        obtain rfl : mh = b := Option.some.inj (f_mh.symm.trans hb)
        rw [n_ho, fw_419, f_m_heardMany, fw_418]
        exact hHOn
      case o126 =>
        obtain rfl : qc = c := Option.some.inj (f_qc.symm.trans hc)
        obtain rfl : m_fc = a := Option.some.inj (f_m_fc.symm.trans ha)
        obtain rfl : m_nt = b := Option.some.inj (f_m_nt.symm.trans hb)
        obtain rfl : m_wt = d := Option.some.inj (f_m_wt.symm.trans hd)
        obtain rfl : m_sum = e := Option.some.inj (f_m_sum.symm.trans he)
        obtain rfl : mh = f := Option.some.inj (f_mh.symm.trans hf)
        exact ⟨cFN, by rw [fw_384]; exact hFXN, by rw [n_fc, fw_427, fw_428, fw_424, fw_419, fw_384]; exact hFRn⟩
      case o127 =>
        obtain rfl : qc = c := Option.some.inj (f_qc.symm.trans hc)
        obtain rfl : m_be = a := Option.some.inj (f_m_be.symm.trans ha)
        rw [fw_429, fw_384]
        exact hv_FX_e hBXN (hv_BU_u heq hBUN hr_417a.2.2.2.2.2.2.2.2.2.2.2.2.2.2) rfl
      case o128 =>
        obtain rfl : qo_py = p := Option.some.inj (f_qo_py.symm.trans hp)
        obtain rfl : y_p0 = q := Option.some.inj (f_y_p0.symm.trans hq)
        obtain rfl : m_p0 = r := Option.some.inj (f_m_p0.symm.trans hr)
        exact n_y_p0.trans n_p0.symm
      case o129 =>
        obtain rfl : qo_py = p := Option.some.inj (f_qo_py.symm.trans hp)
        obtain rfl : y_p1 = q := Option.some.inj (f_y_p1.symm.trans hq)
        obtain rfl : m_p1 = r := Option.some.inj (f_m_p1.symm.trans hr)
        exact n_y_p1.trans n_p1.symm
      case o130 =>
        obtain rfl : qo_py = p := Option.some.inj (f_qo_py.symm.trans hp)
        obtain rfl : y_p2 = q := Option.some.inj (f_y_p2.symm.trans hq)
        obtain rfl : m_p2 = r := Option.some.inj (f_m_p2.symm.trans hr)
        exact n_y_p2.trans n_p2.symm
      case o131 =>
        obtain rfl : qo_py = p := Option.some.inj (f_qo_py.symm.trans hp)
        obtain rfl : y_p3 = q := Option.some.inj (f_y_p3.symm.trans hq)
        obtain rfl : m_p3 = r := Option.some.inj (f_m_p3.symm.trans hr)
        exact n_y_p3.trans n_p3.symm
      case o132 =>
        obtain rfl : qo_py = p := Option.some.inj (f_qo_py.symm.trans hp)
        obtain rfl : y_p4 = q := Option.some.inj (f_y_p4.symm.trans hq)
        obtain rfl : m_p4 = r := Option.some.inj (f_m_p4.symm.trans hr)
        exact n_y_p4.trans n_p4.symm
      case o133 =>
        obtain rfl : qrg9 = p := Option.some.inj (f_qrg9.symm.trans hp)
        rw [ffv_361, ffv_362, ffv_363]
        exact hNQ9
      case o134 =>
        obtain rfl : qrg9 = p := Option.some.inj (f_qrg9.symm.trans hp)
        obtain rfl : y_ls = q := Option.some.inj (f_y_ls.symm.trans hq)
        obtain rfl : m_rl = r := Option.some.inj (f_m_rl.symm.trans hr)
        rw [n_y_ls, n_m_rl, ffv_361]
        exact hRL9
      case o135 =>
        rw [cl_dead, n_dead]
        exact eq_dead
      case o136 =>
        rw [cl_isj, n_isj]
        exact eq_isj
      case o137 =>
        rw [cl_dox, n_dox]
        exact eq_dox
      case o138 =>
        rw [cl_doy, n_doy]
        exact eq_doy
      case o139 =>
        rw [fw_385, fw_421]
        exact hq_fou
      case o140 =>
        rw [fw_386, n_mt]
        exact hq_tri
      case o141 =>
        obtain rfl : qw = w := Option.some.inj (f_qw.symm.trans hw)
        obtain rfl : ql = q := Option.some.inj (f_ql.symm.trans hq)
        exact pf_ql
      case o142 =>
        rw [n_mw]
        exact hwd
      case o143 =>
        rw [n_mr, f_m_acts]
        exact hWK
      case o144 =>
        rw [n_mp, n_mn, f_m_acts]
        exact hRP
      case o145 =>
        rw [fw_420, fw_418, f_m_acts]
        exact hr_417a.2.1
      case o146 =>
        rw [fw_419, f_m_heardMany, fw_418]
        exact hr_417a.1
      case o147 =>
        rw [n_mt]
        refine (hx_TR_le hTR ?o148)
        case o148 => omega
      case o149 =>
        rw [fw_419, fw_421, fw_418]
        refine (hx_HF_f hHF ?o150 hr_417a.2.2.2.2.1)
        case o150 => omega
    refine hb_if_eq (zx := x_374.toInt) (tgt := 740) hx hb rfl dL_law_733 ?o151 (fun c_433 => ?_) (fun c_433 => ?_)
    case o151 => decide
    · skip
      refine lv_iconst (v := 0) hx hb dL_law_740 ?o152 ?_
      case o152 => decide
      have zj_741 : (0 : Int32).toInt = 0 := ?o153
      case o153 => decide
      refine jn_741 (0 : Int32) ls ?o154 ?o155 ?o156 hl
      case o154 => decide
      case o155 => decide
      case o156 => omega
    · skip
      refine lv_iconst (v := 1) hx hb dL_law_736 ?o157 ?_
      case o157 => decide
      refine lv_goto (tgt := 741) hx hb dL_law_737 ?o158 ?_
      case o158 => decide
      have zj_741 : (1 : Int32).toInt = 1 := ?o159
      case o159 => decide
      refine jn_741 (1 : Int32) ls ?o160 ?o161 ?o162 hl
      case o160 => decide
      case o161 => decide
      case o162 => omega
  refine hb_if_eq (zx := x_374.toInt) (tgt := 696) hx hb rfl dL_law_689 ?o163 (fun c_434 => ?_) (fun c_434 => ?_)
  case o163 => decide
  · skip
    refine lv_iconst (v := 0) hx hb dL_law_696 ?o164 ?_
    case o164 => decide
    have zj_697 : (0 : Int32).toInt = 0 := ?o165
    case o165 => decide
    refine jn_697 (0 : Int32) ls ?o166 ?o167 ?o168 hl
    case o166 => decide
    case o167 => decide
    case o168 => omega
  · skip
    refine lv_iconst (v := 1) hx hb dL_law_692 ?o169 ?_
    case o169 => decide
    refine lv_goto (tgt := 697) hx hb dL_law_693 ?o170 ?_
    case o170 => decide
    have zj_697 : (1 : Int32).toInt = 1 := ?o171
    case o171 => decide
    refine jn_697 (1 : Int32) ls ?o172 ?o173 ?o174 hl
    case o172 => decide
    case o173 => decide
    case o174 => omega

set_option maxHeartbeats 4000000 in
set_option maxRecDepth 100000 in
theorem law_case_12 {p : Program} {e : Env} {s : State} {m : MethodId} {below : List Frame} {meth : Method} {c : Code} (l : Launch) {b LN : Nat} {xs : Nat → Int32} (hx : p.tables.exec = Jvm.exec) (hb : c.code = code) (hr : meth.sig.returnType = ret) (hlocks : meth.locks = false) (hml : c.maxLocals = 4) (hown : s.vm.findClass "SmallCourtLaw" = some m.cls) (hts : ∀ w ∈ hx_all, w.before #[Value.ref b] s = true) (hX : va_X b LN xs s s.heap) (hbl : b < s.heap.size) (hbA : ¬ s.heap.size ≤ b) (hLN : LN ≤ 3584) (dC : Nat → ClassId) (dI : Nat → Nat → Nat) (dA : Nat → ClassId) (b0 : hx_z) (ax am : Nat) (T1 : Int) (hT0 : 0 ≤ T1) (hT1 : T1 ≤ 511) (i : Int32) (hi0 : 0 ≤ i.toInt) (hiL : i.toInt + 7 ≤ LN) (CC SS : Nat) (hCC : CC + 3 ≤ 600000) (hSS : SS + 179 ≤ 7302250) (L1 : List Nat) (hl1 : hx_h) (H : Heap) (locs : List Loc) (ls : Array Slot) (hW : hx_W T_tb (P_ty dA) (dC, dI) vwCl (fun q : Nat => s.heap.size ≤ q) s.heap L1 hl1 s H locs) (hZ : hx_Xt (fun q : Nat => s.heap.size ≤ q) b0 s) (hI : hx_IV T1 ax am L1 hl1) (hl : lv_has ls 4 [(3, .int i), (2, .ref am), (1, .ref ax), (0, .ref b)]) (kk : ∀ (L2 : List Nat) (h2 : hx_h) (H2 : Heap) (locs2 : List Loc) (ls2 : Array Slot), hx_W T_tb (P_ty dA) (dC, dI) vwCl (fun q : Nat => s.heap.size ≤ q) s.heap L2 h2 s H2 locs2 → hx_IV (T1 + 1) ax am L2 h2 → lv_has ls2 4 [(3, .int i), (2, .ref am), (1, .ref ax), (0, .ref b)] → W p l e room_1 s m #[Value.ref b] below meth c H2 locs2 (CC + 3) (SS + 179) (lw_Z below #[Value.ref b] s) (F0 m 1379 ls2 [])) : W p l e room_1 s m #[Value.ref b] below meth c H locs CC SS (lw_Z below #[Value.ref b] s) (F0 m 754 ls []) := by
  have hI9 := hI
  have hT := hI9.1
  replace hI9 := hI9.2
  have gx := hI9.1
  replace hI9 := hI9.2
  have gm := hI9.1
  replace hI9 := hI9.2
  have zq0_3 := hI9.1
  have he_nw := zq0_3.1
  replace zq0_3 := zq0_3.2
  have he_np := zq0_3.1
  replace zq0_3 := zq0_3.2
  have he_c0 := zq0_3.1
  replace zq0_3 := zq0_3.2
  have he_tl := zq0_3.1
  replace zq0_3 := zq0_3.2
  have he_a0 := zq0_3.1
  replace zq0_3 := zq0_3.2
  have he_m0 := zq0_3.1
  replace zq0_3 := zq0_3.2
  have ho_ln := zq0_3.1
  replace zq0_3 := zq0_3.2
  have ho_lsd := zq0_3.1
  replace zq0_3 := zq0_3.2
  have ho_wkm := zq0_3.1
  replace zq0_3 := zq0_3.2
  have ho_py := zq0_3.1
  replace zq0_3 := zq0_3.2
  have hn_qp := zq0_3.1
  replace zq0_3 := zq0_3.2
  have hn_qc := zq0_3.1
  replace zq0_3 := zq0_3.2
  have hk_of := zq0_3.1
  replace zq0_3 := zq0_3.2
  have hk_wf := zq0_3.1
  replace zq0_3 := zq0_3.2
  have hk_df := zq0_3.1
  replace zq0_3 := zq0_3.2
  have hk_kf := zq0_3.1
  replace zq0_3 := zq0_3.2
  have hk_sf := zq0_3.1
  replace zq0_3 := zq0_3.2
  have hkBD := zq0_3.1
  replace zq0_3 := zq0_3.2
  have hLQ := zq0_3.1
  replace zq0_3 := zq0_3.2
  have hLE := zq0_3.1
  replace zq0_3 := zq0_3.2
  have hkWD := zq0_3.1
  replace zq0_3 := zq0_3.2
  have hkDF := zq0_3.1
  replace zq0_3 := zq0_3.2
  have hkTP := zq0_3.1
  replace zq0_3 := zq0_3.2
  have hkAC := zq0_3.1
  replace zq0_3 := zq0_3.2
  have hkDP := zq0_3.1
  replace zq0_3 := zq0_3.2
  have hkHL := zq0_3.1
  replace zq0_3 := zq0_3.2
  have hkHO := zq0_3.1
  replace zq0_3 := zq0_3.2
  have hkFX := zq0_3.1
  replace zq0_3 := zq0_3.2
  have hkBX := zq0_3.1
  replace zq0_3 := zq0_3.2
  have hf_bor := zq0_3.1
  replace zq0_3 := zq0_3.2
  have hf_kin := zq0_3.1
  replace zq0_3 := zq0_3.2
  have hf_sum := zq0_3.1
  replace zq0_3 := zq0_3.2
  have hf_fro := zq0_3.1
  replace zq0_3 := zq0_3.2
  have hf_fil := zq0_3.1
  replace zq0_3 := zq0_3.2
  have hf_hea := zq0_3.1
  replace zq0_3 := zq0_3.2
  have hf_jud := zq0_3.1
  replace zq0_3 := zq0_3.2
  have hf_ear := zq0_3.1
  replace zq0_3 := zq0_3.2
  have hf_hds := zq0_3.1
  replace zq0_3 := zq0_3.2
  have hf_ord := zq0_3.1
  replace zq0_3 := zq0_3.2
  have hf_wkl := zq0_3.1
  replace zq0_3 := zq0_3.2
  have hf_owd := zq0_3.1
  replace zq0_3 := zq0_3.2
  have hf_gds := zq0_3.1
  replace zq0_3 := zq0_3.2
  have hf_szd := zq0_3.1
  replace zq0_3 := zq0_3.2
  have hf_srv := zq0_3.1
  replace zq0_3 := zq0_3.2
  have hkP0 := zq0_3.1
  replace zq0_3 := zq0_3.2
  have hkP1 := zq0_3.1
  replace zq0_3 := zq0_3.2
  have hkP2 := zq0_3.1
  replace zq0_3 := zq0_3.2
  have hkP3 := zq0_3.1
  replace zq0_3 := zq0_3.2
  have hkP4 := zq0_3.1
  replace zq0_3 := zq0_3.2
  have hkNQ := zq0_3.1
  replace zq0_3 := zq0_3.2
  have hkRL := zq0_3.1
  replace zq0_3 := zq0_3.2
  have hc_dead := zq0_3.1
  replace zq0_3 := zq0_3.2
  have hc_isj := zq0_3.1
  replace zq0_3 := zq0_3.2
  have hc_dox := zq0_3.1
  replace zq0_3 := zq0_3.2
  have hc_doy := zq0_3.1
  replace zq0_3 := zq0_3.2
  have hc_fou := zq0_3.1
  replace zq0_3 := zq0_3.2
  have hc_tri := zq0_3.1
  replace zq0_3 := zq0_3.2
  replace hI9 := hI9.2
  have zq0_4 := hI9.1
  have ia := zq0_4.1
  replace zq0_4 := zq0_4.2
  have ip := zq0_4.1
  replace zq0_4 := zq0_4.2
  have ic := zq0_4.1
  replace zq0_4 := zq0_4.2
  have ih := zq0_4.1
  replace zq0_4 := zq0_4.2
  have il := zq0_4
  replace hI9 := hI9.2
  have zq0_5 := hI9
  have jw := zq0_5.1
  replace zq0_5 := zq0_5.2
  have jr := zq0_5.1
  replace zq0_5 := zq0_5.2
  have jp := zq0_5.1
  replace zq0_5 := zq0_5.2
  have jl := zq0_5.1
  replace zq0_5 := zq0_5.2
  have jh := zq0_5.1
  replace zq0_5 := zq0_5.2
  have jt := zq0_5.1
  replace zq0_5 := zq0_5.2
  have jf := zq0_5
  obtain ⟨qa, f_qa, g_qa⟩ := hx_rf hT gx tt_9 (k := 5) (u := 43) rfl
  have pf_qa := ia qa f_qa
  obtain ⟨qp, f_qp, g_qp⟩ := hx_rf hT gx tt_9 (k := 7) (u := 44) rfl
  have pf_qp := ip qp f_qp
  obtain ⟨qc, f_qc, g_qc⟩ := hx_rf hT gx tt_9 (k := 10) (u := 45) rfl
  have pf_qc := ic qc f_qc
  obtain ⟨qh, f_qh, g_qh⟩ := hx_rf hT gx tt_9 (k := 12) (u := 46) rfl
  have pf_qh := ih qh f_qh
  obtain ⟨qw, f_qw, g_qw⟩ := hx_rf hT gx tt_9 (k := 19) (u := 8) rfl
  obtain ⟨ql, f_ql, g_ql⟩ := hx_rf hT g_qw tt_8 (k := 3) (u := 40) rfl
  have pf_ql := il qw ql f_qw f_ql
  obtain ⟨nw, f_m_now⟩ : ∃ y : Int32, hl1.2.1 am 0 = y := ⟨_, rfl⟩
  have b_nw := hT.gi gm tt_10 (k := 0) rfl
  rw [f_m_now] at b_nw
  have b_nw : 0 ≤ nw.toInt ∧ nw.toInt ≤ 7999 := b_nw
  obtain ⟨np, f_m_persons⟩ : ∃ y : Int32, hl1.2.1 am 20 = y := ⟨_, rfl⟩
  have b_np := hT.gi gm tt_10 (k := 20) rfl
  rw [f_m_persons] at b_np
  have b_np : 0 ≤ np.toInt ∧ np.toInt ≤ 40 := b_np
  obtain ⟨c0, f_m_claims⟩ : ∃ y : Int32, hl1.2.1 am 36 = y := ⟨_, rfl⟩
  have b_c0 := hT.gi gm tt_10 (k := 36) rfl
  rw [f_m_claims] at b_c0
  have b_c0 : 0 ≤ c0.toInt ∧ c0.toInt ≤ 100 := b_c0
  obtain ⟨tl, f_m_taped⟩ : ∃ y : Int32, hl1.2.1 am 7 = y := ⟨_, rfl⟩
  have b_tl := hT.gi gm tt_10 (k := 7) rfl
  rw [f_m_taped] at b_tl
  have b_tl : 0 ≤ tl.toInt ∧ tl.toInt ≤ 400 := b_tl
  obtain ⟨a0, f_m_acts⟩ : ∃ y : Int32, hl1.2.1 am 1 = y := ⟨_, rfl⟩
  have b_a0 := hT.gi gm tt_10 (k := 1) rfl
  rw [f_m_acts] at b_a0
  have b_a0 : 0 ≤ a0.toInt ∧ a0.toInt ≤ 8 := b_a0
  obtain ⟨m0, f_m_heardMany⟩ : ∃ y : Int32, hl1.2.1 am 57 = y := ⟨_, rfl⟩
  have b_m0 := hT.gi gm tt_10 (k := 57) rfl
  rw [f_m_heardMany] at b_m0
  have b_m0 : 0 ≤ m0.toInt ∧ m0.toInt ≤ 100 := b_m0
  obtain ⟨ln, f_m_lines⟩ : ∃ y : Int32, hl1.2.1 am 29 = y := ⟨_, rfl⟩
  have b_ln := hT.gi gm tt_10 (k := 29) rfl
  rw [f_m_lines] at b_ln
  have b_ln : 0 ≤ ln.toInt ∧ ln.toInt ≤ 400 := b_ln
  obtain ⟨lsd, f_m_listed⟩ : ∃ y : Int32, hl1.2.1 am 90 = y := ⟨_, rfl⟩
  have b_lsd := hT.gi gm tt_10 (k := 90) rfl
  rw [f_m_listed] at b_lsd
  have b_lsd : 0 ≤ lsd.toInt ∧ lsd.toInt ≤ 8 := b_lsd
  obtain ⟨wkm, f_m_walkedMany⟩ : ∃ y : Int32, hl1.2.1 am 92 = y := ⟨_, rfl⟩
  have b_wkm := hT.gi gm tt_10 (k := 92) rfl
  rw [f_m_walkedMany] at b_wkm
  have b_wkm : 0 ≤ wkm.toInt ∧ wkm.toInt ≤ 8 := b_wkm
  obtain ⟨py, f_m_payments⟩ : ∃ y : Int32, hl1.2.1 am 59 = y := ⟨_, rfl⟩
  have b_py := hT.gi gm tt_10 (k := 59) rfl
  rw [f_m_payments] at b_py
  have b_py : 0 ≤ py.toInt ∧ py.toInt ≤ 600 := b_py
  have f_x_now : hl1.2.1 ax 2 = nw := he_nw.trans f_m_now
  have f_x_personCount : hl1.2.1 ax 8 = np := he_np.trans f_m_persons
  have f_x_claimCount : hl1.2.1 ax 11 = c0 := he_c0.trans f_m_claims
  have f_x_tapeLength : hl1.2.1 ax 1 = tl := he_tl.trans f_m_taped
  have f_x_actCount : hl1.2.1 ax 6 = a0 := he_a0.trans f_m_acts
  have f_x_heardCount : hl1.2.1 ax 13 = m0 := he_m0.trans f_m_heardMany
  obtain ⟨mw, f_mw, g_mw⟩ := hx_rf hT gm tt_10 (k := 19) (u := 57) rfl
  obtain ⟨F_mw, n_mw⟩ : ∃ g : Nat → Int32, hl1.2.1 mw = g := ⟨_, rfl⟩
  obtain ⟨mr, f_mr, g_mr⟩ := hx_rf hT gm tt_10 (k := 3) (u := 50) rfl
  obtain ⟨F_mr, n_mr⟩ : ∃ g : Nat → Int32, hl1.2.1 mr = g := ⟨_, rfl⟩
  obtain ⟨mp, f_mp, g_mp⟩ := hx_rf hT gm tt_10 (k := 5) (u := 52) rfl
  obtain ⟨F_mp, n_mp⟩ : ∃ g : Nat → Int32, hl1.2.1 mp = g := ⟨_, rfl⟩
  obtain ⟨mn, f_mn, g_mn⟩ := hx_rf hT gm tt_10 (k := 4) (u := 51) rfl
  obtain ⟨F_mn, n_mn⟩ : ∃ g : Nat → Int32, hl1.2.1 mn = g := ⟨_, rfl⟩
  obtain ⟨ml, f_ml, g_ml⟩ := hx_rf hT gm tt_10 (k := 44) (u := 79) rfl
  obtain ⟨F_ml, n_ml⟩ : ∃ g : Nat → Int32, hl1.2.1 ml = g := ⟨_, rfl⟩
  obtain ⟨mh, f_mh, g_mh⟩ := hx_rf hT gm tt_10 (k := 47) (u := 82) rfl
  obtain ⟨F_mh, n_mh⟩ : ∃ g : Nat → Int32, hl1.2.1 mh = g := ⟨_, rfl⟩
  obtain ⟨mt, f_mt, g_mt⟩ := hx_rf hT gm tt_10 (k := 45) (u := 80) rfl
  obtain ⟨F_mt, n_mt⟩ : ∃ g : Nat → Int32, hl1.2.1 mt = g := ⟨_, rfl⟩
  obtain ⟨m_fou, f_m_fou, g_m_fou⟩ := hx_rf hT gm tt_10 (k := 46) (u := 81) rfl
  obtain ⟨F_m_fou, n_m_fou⟩ : ∃ g : Nat → Int32, hl1.2.1 m_fou = g := ⟨_, rfl⟩
  obtain ⟨qo_ln, f_qo_ln, g_qo_ln⟩ := hx_rf hT gx tt_9 (k := 9) (u := 1) rfl
  have f_o_ln : hl1.2.1 qo_ln 0 = ln := (ho_ln qo_ln f_qo_ln).trans f_m_lines
  have f_o_lsd : hl1.2.1 qw 0 = lsd := (ho_lsd qw f_qw).trans f_m_listed
  have f_o_wkm : hl1.2.1 qw 1 = wkm := (ho_wkm qw f_qw).trans f_m_walkedMany
  obtain ⟨qo_py, f_qo_py, g_qo_py⟩ := hx_rf hT gx tt_9 (k := 14) (u := 3) rfl
  have f_o_py : hl1.2.1 qo_py 0 = py := (ho_py qo_py f_qo_py).trans f_m_payments
  have nu_qp := hn_qp qp f_qp; rw [f_x_personCount] at nu_qp
  have nu_qc := hn_qc qc f_qc; rw [f_x_claimCount] at nu_qc
  obtain ⟨b_of, f_b_of, g_b_of⟩ := hx_rf hT g_qo_ln tt_1 (k := 1) (u := 13) rfl
  obtain ⟨B_of, n_b_of⟩ : ∃ g : Nat → Int32, hl1.2.1 b_of = g := ⟨_, rfl⟩
  obtain ⟨m_of, f_m_of, g_m_of⟩ := hx_rf hT gm tt_10 (k := 30) (u := 66) rfl
  obtain ⟨F_of, n_m_of⟩ : ∃ g : Nat → Int32, hl1.2.1 m_of = g := ⟨_, rfl⟩
  have eb_of := hk_of qo_ln b_of m_of f_qo_ln f_b_of f_m_of; rw [n_b_of, n_m_of, f_o_ln] at eb_of
  obtain ⟨b_wf, f_b_wf, g_b_wf⟩ := hx_rf hT g_qo_ln tt_1 (k := 2) (u := 14) rfl
  obtain ⟨B_wf, n_b_wf⟩ : ∃ g : Nat → Int32, hl1.2.1 b_wf = g := ⟨_, rfl⟩
  obtain ⟨m_wf, f_m_wf, g_m_wf⟩ := hx_rf hT gm tt_10 (k := 31) (u := 67) rfl
  obtain ⟨F_wf, n_m_wf⟩ : ∃ g : Nat → Int32, hl1.2.1 m_wf = g := ⟨_, rfl⟩
  have eb_wf := hk_wf qo_ln b_wf m_wf f_qo_ln f_b_wf f_m_wf; rw [n_b_wf, n_m_wf, f_o_ln] at eb_wf
  obtain ⟨b_df, f_b_df, g_b_df⟩ := hx_rf hT g_qo_ln tt_1 (k := 3) (u := 15) rfl
  obtain ⟨B_df, n_b_df⟩ : ∃ g : Nat → Int32, hl1.2.1 b_df = g := ⟨_, rfl⟩
  obtain ⟨m_df, f_m_df, g_m_df⟩ := hx_rf hT gm tt_10 (k := 32) (u := 68) rfl
  obtain ⟨F_df, n_m_df⟩ : ∃ g : Nat → Int32, hl1.2.1 m_df = g := ⟨_, rfl⟩
  have eb_df := hk_df qo_ln b_df m_df f_qo_ln f_b_df f_m_df; rw [n_b_df, n_m_df, f_o_ln] at eb_df
  obtain ⟨b_kf, f_b_kf, g_b_kf⟩ := hx_rf hT g_qo_ln tt_1 (k := 4) (u := 16) rfl
  obtain ⟨B_kf, n_b_kf⟩ : ∃ g : Nat → Int32, hl1.2.1 b_kf = g := ⟨_, rfl⟩
  obtain ⟨m_kf, f_m_kf, g_m_kf⟩ := hx_rf hT gm tt_10 (k := 33) (u := 69) rfl
  obtain ⟨F_kf, n_m_kf⟩ : ∃ g : Nat → Int32, hl1.2.1 m_kf = g := ⟨_, rfl⟩
  have eb_kf := hk_kf qo_ln b_kf m_kf f_qo_ln f_b_kf f_m_kf; rw [n_b_kf, n_m_kf, f_o_ln] at eb_kf
  obtain ⟨b_sf, f_b_sf, g_b_sf⟩ := hx_rf hT g_qo_ln tt_1 (k := 5) (u := 17) rfl
  obtain ⟨B_sf, n_b_sf⟩ : ∃ g : Nat → Int32, hl1.2.1 b_sf = g := ⟨_, rfl⟩
  obtain ⟨m_sf, f_m_sf, g_m_sf⟩ := hx_rf hT gm tt_10 (k := 34) (u := 70) rfl
  obtain ⟨F_sf, n_m_sf⟩ : ∃ g : Nat → Int32, hl1.2.1 m_sf = g := ⟨_, rfl⟩
  have eb_sf := hk_sf qo_ln b_sf m_sf f_qo_ln f_b_sf f_m_sf; rw [n_b_sf, n_m_sf, f_o_ln] at eb_sf
  obtain ⟨b_bf, f_b_bf, g_b_bf⟩ := hx_rf hT g_qo_ln tt_1 (k := 6) (u := 18) rfl
  obtain ⟨bfL, n_b_bf⟩ : ∃ g : Nat → Int32, hl1.2.1 b_bf = g := ⟨_, rfl⟩
  obtain ⟨hBD, hDY⟩ := hkBD qo_ln b_df b_bf f_qo_ln f_b_df f_b_bf; rw [n_b_df, n_b_bf, f_o_ln] at hBD; rw [n_b_df, f_o_ln] at hDY
  have hBDm := hy_BD_c eb_df hBD
  have hDYm : hy_DY F_df ln.toInt.toNat := fun x hx => by rw [← eb_df x hx]; exact hDY x hx
  have sb_list := hLQ qw ql qc f_qw f_ql f_qc
  obtain ⟨m_lst, f_m_lst, g_m_lst⟩ := hx_rf hT gm tt_10 (k := 91) (u := 112) rfl
  obtain ⟨F_lst, n_lst⟩ : ∃ g : Nat → Int32, hl1.2.1 m_lst = g := ⟨_, rfl⟩
  obtain ⟨c_lst, cl_lst⟩ : ∃ g : Nat → Int32, hx_col 8 hl1 ql 0 = g := ⟨_, rfl⟩
  have eq_lst := hLE qw ql m_lst f_qw f_ql f_m_lst; rw [cl_lst, n_lst] at eq_lst
  obtain ⟨qtp, f_qtp, g_qtp⟩ := hx_rf hT gx tt_9 (k := 0) (u := 42) rfl
  obtain ⟨m_tp, f_m_tp, g_m_tp⟩ := hx_rf hT gm tt_10 (k := 6) (u := 53) rfl
  obtain ⟨F_tp, n_tp⟩ : ∃ g : Nat → Int32, hl1.2.1 m_tp = g := ⟨_, rfl⟩
  have n_qtp : hl1.2.1 qtp = F_tp := (hkTP qtp m_tp f_qtp f_m_tp).trans n_tp
  obtain ⟨c_dead, cl_dead⟩ : ∃ g : Nat → Int32, hx_col 40 hl1 qp 7 = g := ⟨_, rfl⟩
  obtain ⟨m_dead, f_m_dead, g_m_dead⟩ := hx_rf hT gm tt_10 (k := 27) (u := 64) rfl
  obtain ⟨F_dead, n_dead⟩ : ∃ g : Nat → Int32, hl1.2.1 m_dead = g := ⟨_, rfl⟩
  have eq_dead := hc_dead qp m_dead f_qp f_m_dead; rw [cl_dead, n_dead] at eq_dead
  have z_dead : np.toInt.toNat < 40 → c_dead np.toInt.toNat = 0 := fun hj => hx_num_z nu_qp cl_dead hj ?o0
  case o0 => omega
  obtain ⟨c_isj, cl_isj⟩ : ∃ g : Nat → Int32, hx_col 40 hl1 qp 8 = g := ⟨_, rfl⟩
  obtain ⟨m_isj, f_m_isj, g_m_isj⟩ := hx_rf hT gm tt_10 (k := 28) (u := 65) rfl
  obtain ⟨F_isj, n_isj⟩ : ∃ g : Nat → Int32, hl1.2.1 m_isj = g := ⟨_, rfl⟩
  have eq_isj := hc_isj qp m_isj f_qp f_m_isj; rw [cl_isj, n_isj] at eq_isj
  have z_isj : np.toInt.toNat < 40 → c_isj np.toInt.toNat = 0 := fun hj => hx_num_z nu_qp cl_isj hj ?o1
  case o1 => omega
  obtain ⟨c_dox, cl_dox⟩ : ∃ g : Nat → Int32, hx_col 40 hl1 qp 5 = g := ⟨_, rfl⟩
  obtain ⟨m_dox, f_m_dox, g_m_dox⟩ := hx_rf hT gm tt_10 (k := 24) (u := 61) rfl
  obtain ⟨F_dox, n_dox⟩ : ∃ g : Nat → Int32, hl1.2.1 m_dox = g := ⟨_, rfl⟩
  have eq_dox := hc_dox qp m_dox f_qp f_m_dox; rw [cl_dox, n_dox] at eq_dox
  have z_dox : np.toInt.toNat < 40 → c_dox np.toInt.toNat = 0 := fun hj => hx_num_z nu_qp cl_dox hj ?o2
  case o2 => omega
  obtain ⟨c_doy, cl_doy⟩ : ∃ g : Nat → Int32, hx_col 40 hl1 qp 6 = g := ⟨_, rfl⟩
  obtain ⟨m_doy, f_m_doy, g_m_doy⟩ := hx_rf hT gm tt_10 (k := 25) (u := 62) rfl
  obtain ⟨F_doy, n_doy⟩ : ∃ g : Nat → Int32, hl1.2.1 m_doy = g := ⟨_, rfl⟩
  have eq_doy := hc_doy qp m_doy f_qp f_m_doy; rw [cl_doy, n_doy] at eq_doy
  have z_doy : np.toInt.toNat < 40 → c_doy np.toInt.toNat = 0 := fun hj => hx_num_z nu_qp cl_doy hj ?o3
  case o3 => omega
  obtain ⟨c_fou, cl_fou⟩ : ∃ g : Nat → Int32, hx_col 100 hl1 qc 10 = g := ⟨_, rfl⟩
  have eq_fou := hc_fou qc m_fou f_qc f_m_fou; rw [cl_fou, n_m_fou] at eq_fou
  have z_fou : c0.toInt.toNat < 100 → c_fou c0.toInt.toNat = 0 := fun hj => hx_num_z nu_qc cl_fou hj ?o4
  case o4 => omega
  obtain ⟨c_tri, cl_tri⟩ : ∃ g : Nat → Int32, hx_col 100 hl1 qc 9 = g := ⟨_, rfl⟩
  have eq_tri := hc_tri qc mt f_qc f_mt; rw [cl_tri, n_mt] at eq_tri
  have z_tri : c0.toInt.toNat < 100 → c_tri c0.toInt.toNat = 0 := fun hj => hx_num_z nu_qc cl_tri hj ?o5
  case o5 => omega
  obtain ⟨qlt, f_qlt, g_qlt⟩ := hx_rf hT g_qw tt_8 (k := 2) (u := 39) rfl
  obtain ⟨qlf, f_qlf, g_qlf⟩ := hx_rf hT g_qw tt_8 (k := 4) (u := 41) rfl
  obtain ⟨m_wkd, f_m_wkd, g_m_wkd⟩ := hx_rf hT gm tt_10 (k := 93) (u := 113) rfl
  obtain ⟨F_qlt, n_qlt⟩ : ∃ g : Nat → Int32, hl1.2.1 qlt = g := ⟨_, rfl⟩
  obtain ⟨F_m_wkd, n_m_wkd⟩ : ∃ g : Nat → Int32, hl1.2.1 m_wkd = g := ⟨_, rfl⟩
  have eb_wkd := hkWD qw qlt m_wkd f_qw f_qlt f_m_wkd; rw [n_qlt, n_m_wkd, f_o_wkm] at eb_wkd
  obtain ⟨m_aga, f_m_aga, g_m_aga⟩ := hx_rf hT gm tt_10 (k := 38) (u := 73) rfl
  obtain ⟨F_aga, n_aga⟩ : ∃ g : Nat → Int32, hl1.2.1 m_aga = g := ⟨_, rfl⟩
  have hDF := hkDF qc qp m_aga f_qc f_qp f_m_aga; rw [n_aga, f_x_claimCount] at hDF
  obtain ⟨qwo, f_qwo, g_qwo⟩ := hx_rf hT gx tt_9 (k := 4) (u := 0) rfl
  obtain ⟨m_ad, f_m_ad, g_m_ad⟩ := hx_rf hT gm tt_10 (k := 2) (u := 49) rfl
  obtain ⟨F_ad, n_ad⟩ : ∃ g : Nat → Int32, hl1.2.1 m_ad = g := ⟨_, rfl⟩
  obtain ⟨A9, hRA9, hCA9, hAC9, hAB⟩ := hkAC qa qwo m_ad mr mn mp qc ml f_qa f_qwo f_m_ad f_mr f_mn f_mp f_qc f_ml
  rw [f_x_actCount] at hRA9; rw [f_x_actCount, n_ad, n_mr, n_mn, n_mp] at hCA9
  obtain ⟨m_by, f_m_by, g_m_by⟩ := hx_rf hT gm tt_10 (k := 37) (u := 72) rfl
  obtain ⟨F_by, n_by⟩ : ∃ g : Nat → Int32, hl1.2.1 m_by = g := ⟨_, rfl⟩
  obtain ⟨m_ho, f_m_ho, g_m_ho⟩ := hx_rf hT gm tt_10 (k := 58) (u := 92) rfl
  obtain ⟨F_ho, n_ho⟩ : ∃ g : Nat → Int32, hl1.2.1 m_ho = g := ⟨_, rfl⟩
  obtain ⟨m_fc, f_m_fc, g_m_fc⟩ := hx_rf hT gm tt_10 (k := 53) (u := 88) rfl
  obtain ⟨F_fc, n_fc⟩ : ∃ g : Nat → Int32, hl1.2.1 m_fc = g := ⟨_, rfl⟩
  obtain ⟨m_nt, f_m_nt, g_m_nt⟩ := hx_rf hT gm tt_10 (k := 41) (u := 76) rfl
  obtain ⟨F_nt, n_nt⟩ : ∃ g : Nat → Int32, hl1.2.1 m_nt = g := ⟨_, rfl⟩
  obtain ⟨m_wt, f_m_wt, g_m_wt⟩ := hx_rf hT gm tt_10 (k := 42) (u := 77) rfl
  obtain ⟨F_wt, n_wt⟩ : ∃ g : Nat → Int32, hl1.2.1 m_wt = g := ⟨_, rfl⟩
  obtain ⟨m_be, f_m_be, g_m_be⟩ := hx_rf hT gm tt_10 (k := 52) (u := 87) rfl
  obtain ⟨F_be, n_be⟩ : ∃ g : Nat → Int32, hl1.2.1 m_be = g := ⟨_, rfl⟩
  obtain ⟨m_bor, f_m_bor, g_m_bor⟩ := hx_rf hT gm tt_10 (k := 21) (u := 58) rfl
  obtain ⟨F_bor, n_bor⟩ : ∃ g : Nat → Int32, hl1.2.1 m_bor = g := ⟨_, rfl⟩
  obtain ⟨m_kin, f_m_kin, g_m_kin⟩ := hx_rf hT gm tt_10 (k := 26) (u := 63) rfl
  obtain ⟨F_kin, n_kin⟩ : ∃ g : Nat → Int32, hl1.2.1 m_kin = g := ⟨_, rfl⟩
  obtain ⟨m_sum, f_m_sum, g_m_sum⟩ := hx_rf hT gm tt_10 (k := 39) (u := 74) rfl
  obtain ⟨F_sum, n_sum⟩ : ∃ g : Nat → Int32, hl1.2.1 m_sum = g := ⟨_, rfl⟩
  obtain ⟨m_fro, f_m_fro, g_m_fro⟩ := hx_rf hT gm tt_10 (k := 40) (u := 75) rfl
  obtain ⟨F_fro, n_fro⟩ : ∃ g : Nat → Int32, hl1.2.1 m_fro = g := ⟨_, rfl⟩
  obtain ⟨m_fil, f_m_fil, g_m_fil⟩ := hx_rf hT gm tt_10 (k := 43) (u := 78) rfl
  obtain ⟨F_fil, n_fil⟩ : ∃ g : Nat → Int32, hl1.2.1 m_fil = g := ⟨_, rfl⟩
  obtain ⟨m_jud, f_m_jud, g_m_jud⟩ := hx_rf hT gm tt_10 (k := 51) (u := 86) rfl
  obtain ⟨F_jud, n_jud⟩ : ∃ g : Nat → Int32, hl1.2.1 m_jud = g := ⟨_, rfl⟩
  obtain ⟨m_ear, f_m_ear, g_m_ear⟩ := hx_rf hT gm tt_10 (k := 22) (u := 59) rfl
  obtain ⟨F_ear, n_ear⟩ : ∃ g : Nat → Int32, hl1.2.1 m_ear = g := ⟨_, rfl⟩
  obtain ⟨m_hds, f_m_hds, g_m_hds⟩ := hx_rf hT gm tt_10 (k := 23) (u := 60) rfl
  obtain ⟨F_hds, n_hds⟩ : ∃ g : Nat → Int32, hl1.2.1 m_hds = g := ⟨_, rfl⟩
  obtain ⟨m_ord, f_m_ord, g_m_ord⟩ := hx_rf hT gm tt_10 (k := 48) (u := 83) rfl
  obtain ⟨F_ord, n_ord⟩ : ∃ g : Nat → Int32, hl1.2.1 m_ord = g := ⟨_, rfl⟩
  obtain ⟨m_wkl, f_m_wkl, g_m_wkl⟩ := hx_rf hT gm tt_10 (k := 54) (u := 89) rfl
  obtain ⟨F_wkl, n_wkl⟩ : ∃ g : Nat → Int32, hl1.2.1 m_wkl = g := ⟨_, rfl⟩
  obtain ⟨m_owd, f_m_owd, g_m_owd⟩ := hx_rf hT gm tt_10 (k := 55) (u := 90) rfl
  obtain ⟨F_owd, n_owd⟩ : ∃ g : Nat → Int32, hl1.2.1 m_owd = g := ⟨_, rfl⟩
  obtain ⟨m_gds, f_m_gds, g_m_gds⟩ := hx_rf hT gm tt_10 (k := 56) (u := 91) rfl
  obtain ⟨F_gds, n_gds⟩ : ∃ g : Nat → Int32, hl1.2.1 m_gds = g := ⟨_, rfl⟩
  obtain ⟨m_szd, f_m_szd, g_m_szd⟩ := hx_rf hT gm tt_10 (k := 49) (u := 84) rfl
  obtain ⟨F_szd, n_szd⟩ : ∃ g : Nat → Int32, hl1.2.1 m_szd = g := ⟨_, rfl⟩
  obtain ⟨m_srv, f_m_srv, g_m_srv⟩ := hx_rf hT gm tt_10 (k := 50) (u := 85) rfl
  obtain ⟨F_srv, n_srv⟩ : ∃ g : Nat → Int32, hl1.2.1 m_srv = g := ⟨_, rfl⟩
  have cl_bor : hx_col 40 hl1 qp 1 = F_bor := (hf_bor qp m_bor f_qp f_m_bor).trans n_bor
  have cl_kin : hx_col 40 hl1 qp 2 = F_kin := (hf_kin qp m_kin f_qp f_m_kin).trans n_kin
  have cl_sum : hx_col 100 hl1 qc 6 = F_sum := (hf_sum qc m_sum f_qc f_m_sum).trans n_sum
  have cl_fro : hx_col 100 hl1 qc 7 = F_fro := (hf_fro qc m_fro f_qc f_m_fro).trans n_fro
  have cl_fil : hx_col 100 hl1 qc 8 = F_fil := (hf_fil qc m_fil f_qc f_m_fil).trans n_fil
  have cl_hea : hx_col 100 hl1 qc 11 = F_mh := (hf_hea qc mh f_qc f_mh).trans n_mh
  have cl_jud : hx_col 100 hl1 qc 12 = F_jud := (hf_jud qc m_jud f_qc f_m_jud).trans n_jud
  have cl_ear : hx_col 40 hl1 qp 3 = F_ear := (hf_ear qp m_ear f_qp f_m_ear).trans n_ear
  have cl_hds : hx_col 40 hl1 qp 4 = F_hds := (hf_hds qp m_hds f_qp f_m_hds).trans n_hds
  have cl_ord : hx_col 100 hl1 qc 13 = F_ord := (hf_ord qc m_ord f_qc f_m_ord).trans n_ord
  have cl_wkl : hx_col 100 hl1 qc 14 = F_wkl := (hf_wkl qc m_wkl f_qc f_m_wkl).trans n_wkl
  have cl_owd : hx_col 100 hl1 qc 15 = F_owd := (hf_owd qc m_owd f_qc f_m_owd).trans n_owd
  have cl_gds : hx_col 100 hl1 qc 17 = F_gds := (hf_gds qc m_gds f_qc f_m_gds).trans n_gds
  have cl_szd : hx_col 100 hl1 qc 16 = F_szd := (hf_szd qc m_szd f_qc f_m_szd).trans n_szd
  have cl_srv : hx_col 100 hl1 qc 18 = F_srv := (hf_srv qc m_srv f_qc f_m_srv).trans n_srv
  have htb9 : ∀ c, c < 100 → 0 ≤ (c_tri c).toInt ∧ (c_tri c).toInt ≤ 512 := fun c hc => by rw [eq_tri c hc]; have w := hT.ei g_mt tt_80 (k := c) hc; rw [n_mt] at w; exact w
  have z_jud : F_jud c0.toInt.toNat = 0 := hx_num_z2 nu_qc cl_jud ?o6
  case o6 => omega
  have hDP := hkDP qc qp m_by f_qc f_qp f_m_by; rw [n_by, f_x_claimCount] at hDP
  have hHL := hkHL qh qc m_ho f_qh f_qc f_m_ho; rw [n_ho, f_x_heardCount, f_x_claimCount] at hHL
  have hHO9 := hkHO m_ho mh f_m_ho f_mh; rw [n_ho, n_mh, f_m_heardMany, f_m_claims] at hHO9
  obtain ⟨cF9L, hFX, hFR9⟩ := hkFX qc m_fc m_nt m_wt m_sum mh f_qc f_m_fc f_m_nt f_m_wt f_m_sum f_mh; rw [f_x_claimCount] at hFX; rw [n_fc, n_nt, n_wt, n_sum, n_mh, f_x_claimCount] at hFR9
  have hBX := hkBX qc m_be f_qc f_m_be; rw [n_be, f_x_claimCount] at hBX
  rw [n_ml, f_x_claimCount] at hAC9
  obtain ⟨y_p0, f_y_p0, g_y_p0⟩ := hx_rf hT g_qo_py tt_3 (k := 2) (u := 23) rfl
  obtain ⟨m_p0, f_m_p0, g_m_p0⟩ := hx_rf hT gm tt_10 (k := 60) (u := 93) rfl
  obtain ⟨F_p0, n_p0⟩ : ∃ g : Nat → Int32, hl1.2.1 m_p0 = g := ⟨_, rfl⟩
  have n_y_p0 : hl1.2.1 y_p0 = F_p0 := (hkP0 qo_py y_p0 m_p0 f_qo_py f_y_p0 f_m_p0).trans n_p0
  obtain ⟨y_p1, f_y_p1, g_y_p1⟩ := hx_rf hT g_qo_py tt_3 (k := 3) (u := 24) rfl
  obtain ⟨m_p1, f_m_p1, g_m_p1⟩ := hx_rf hT gm tt_10 (k := 61) (u := 94) rfl
  obtain ⟨F_p1, n_p1⟩ : ∃ g : Nat → Int32, hl1.2.1 m_p1 = g := ⟨_, rfl⟩
  have n_y_p1 : hl1.2.1 y_p1 = F_p1 := (hkP1 qo_py y_p1 m_p1 f_qo_py f_y_p1 f_m_p1).trans n_p1
  obtain ⟨y_p2, f_y_p2, g_y_p2⟩ := hx_rf hT g_qo_py tt_3 (k := 5) (u := 26) rfl
  obtain ⟨m_p2, f_m_p2, g_m_p2⟩ := hx_rf hT gm tt_10 (k := 62) (u := 95) rfl
  obtain ⟨F_p2, n_p2⟩ : ∃ g : Nat → Int32, hl1.2.1 m_p2 = g := ⟨_, rfl⟩
  have n_y_p2 : hl1.2.1 y_p2 = F_p2 := (hkP2 qo_py y_p2 m_p2 f_qo_py f_y_p2 f_m_p2).trans n_p2
  obtain ⟨y_p3, f_y_p3, g_y_p3⟩ := hx_rf hT g_qo_py tt_3 (k := 4) (u := 25) rfl
  obtain ⟨m_p3, f_m_p3, g_m_p3⟩ := hx_rf hT gm tt_10 (k := 63) (u := 96) rfl
  obtain ⟨F_p3, n_p3⟩ : ∃ g : Nat → Int32, hl1.2.1 m_p3 = g := ⟨_, rfl⟩
  have n_y_p3 : hl1.2.1 y_p3 = F_p3 := (hkP3 qo_py y_p3 m_p3 f_qo_py f_y_p3 f_m_p3).trans n_p3
  obtain ⟨y_p4, f_y_p4, g_y_p4⟩ := hx_rf hT g_qo_py tt_3 (k := 1) (u := 22) rfl
  obtain ⟨m_p4, f_m_p4, g_m_p4⟩ := hx_rf hT gm tt_10 (k := 64) (u := 97) rfl
  obtain ⟨F_p4, n_p4⟩ : ∃ g : Nat → Int32, hl1.2.1 m_p4 = g := ⟨_, rfl⟩
  have n_y_p4 : hl1.2.1 y_p4 = F_p4 := (hkP4 qo_py y_p4 m_p4 f_qo_py f_y_p4 f_m_p4).trans n_p4
  obtain ⟨qrg9, f_qrg9, g_qrg9⟩ := hx_rf hT gx tt_9 (k := 18) (u := 7) rfl
  obtain ⟨y_ls, f_y_ls, g_y_ls⟩ := hx_rf hT g_qrg9 tt_7 (k := 3) (u := 35) rfl
  obtain ⟨m_rl, f_m_rl, g_m_rl⟩ := hx_rf hT gm tt_10 (k := 85) (u := 109) rfl
  obtain ⟨F_y_ls, n_y_ls⟩ : ∃ g : Nat → Int32, hl1.2.1 y_ls = g := ⟨_, rfl⟩
  obtain ⟨F_m_rl, n_m_rl⟩ : ∃ g : Nat → Int32, hl1.2.1 m_rl = g := ⟨_, rfl⟩
  obtain ⟨fv_435, efv_435⟩ : ∃ y : Int32, y = hl1.2.1 qrg9 0 := ⟨_, rfl⟩
  have bfv_435 := hT.gi g_qrg9 tt_7 (k := 0) rfl
  rw [← efv_435] at bfv_435
  have bfv_435 : -1 ≤ fv_435.toInt ∧ fv_435.toInt ≤ 100 := bfv_435
  have ffv_435 := efv_435.symm
  obtain ⟨fv_436, efv_436⟩ : ∃ y : Int32, y = hl1.2.1 am 83 := ⟨_, rfl⟩
  have bfv_436 := hT.gi gm tt_10 (k := 83) rfl
  rw [← efv_436] at bfv_436
  have bfv_436 : 0 ≤ fv_436.toInt ∧ fv_436.toInt ≤ 1 := bfv_436
  have ffv_436 := efv_436.symm
  obtain ⟨fv_437, efv_437⟩ : ∃ y : Int32, y = hl1.2.1 am 84 := ⟨_, rfl⟩
  have bfv_437 := hT.gi gm tt_10 (k := 84) rfl
  rw [← efv_437] at bfv_437
  have bfv_437 : 0 ≤ fv_437.toInt ∧ fv_437.toInt ≤ 300 := bfv_437
  have ffv_437 := efv_437.symm
  have hNQ9 := hkNQ qrg9 f_qrg9; rw [ffv_435, ffv_436, ffv_437] at hNQ9
  have hRL9 := hkRL qrg9 y_ls m_rl f_qrg9 f_y_ls f_m_rl; rw [n_y_ls, n_m_rl, ffv_435] at hRL9
  have hCB : hz_CB F_ord F_wkl F_owd F_szd F_gds F_srv := fun c hc => ⟨by have w := hT.ei g_m_ord tt_83 (k := c) (by omega); rw [n_ord] at w; exact w, by have w := hT.ei g_m_wkl tt_89 (k := c) (by omega); rw [n_wkl] at w; exact w, by have w := hT.ei g_m_owd tt_90 (k := c) (by omega); rw [n_owd] at w; exact w, by have w := hT.ei g_m_szd tt_84 (k := c) (by omega); rw [n_szd] at w; exact w, by have w := hT.ei g_m_gds tt_91 (k := c) (by omega); rw [n_gds] at w; exact w, by have w := hT.ei g_m_srv tt_85 (k := c) (by omega); rw [n_srv] at w; exact w⟩
  have hps : ∀ j, j < 600 → 0 ≤ (F_p2 j).toInt ∧ (F_p2 j).toInt ≤ 610000 := fun j hj => by have w := hT.ei g_m_p2 tt_95 (k := j) (by omega); rw [n_p2] at w; exact w
  have hte9 : ∀ c : Nat, c < 100 → (0 ≤ (c_tri c).toInt ∧ (c_tri c).toInt ≤ 512) ∧ (0 ≤ (F_sum c).toInt ∧ (F_sum c).toInt ≤ 9999) := fun c hc => ⟨htb9 c hc, by have w := hT.ei g_m_sum tt_74 (k := c) (by omega); rw [n_sum] at w; exact w⟩
  have hee9 : ∀ c : Nat, c < 40 → (0 ≤ (F_ear c).toInt ∧ (F_ear c).toInt ≤ 9999) ∧ (0 ≤ (F_hds c).toInt ∧ (F_hds c).toInt ≤ 20) := fun c hc => ⟨by have w := hT.ei g_m_ear tt_59 (k := c) (by omega); rw [n_ear] at w; exact w, by have w := hT.ei g_m_hds tt_60 (k := c) (by omega); rw [n_hds] at w; exact w⟩
  have bAG9 : ∀ k, k < 100 → 0 ≤ (F_aga k).toInt ∧ (F_aga k).toInt ≤ 39 := fun k hk => by have w := hT.ei g_m_aga tt_73 (k := k) (by omega); rw [n_aga] at w; exact w
  have bBY9 : ∀ k, k < 100 → 0 ≤ (F_by k).toInt ∧ (F_by k).toInt ≤ 39 := fun k hk => by have w := hT.ei g_m_by tt_72 (k := k) (by omega); rw [n_by] at w; exact w
  have hag9 : ∀ c, c < c0.toInt.toNat → 0 ≤ (F_aga c).toInt ∧ (F_aga c).toInt < 40 ∧ 0 ≤ (F_by c).toInt ∧ (F_by c).toInt < 40 := fun c hc => by have a9 := bAG9 c (by omega); have b9 := bBY9 c (by omega); omega
  have z_wkl : F_wkl c0.toInt.toNat = 0 := hx_num_z2 nu_qc cl_wkl ?o7
  case o7 => omega
  have z_owd : F_owd c0.toInt.toNat = 0 := hx_num_z2 nu_qc cl_owd ?o8
  case o8 => omega
  have z_gds : F_gds c0.toInt.toNat = 0 := hx_num_z2 nu_qc cl_gds ?o9
  case o9 => omega
  have hwd := jw mw f_mw; rw [n_mw] at hwd
  have hWK := jr mr f_mr; rw [n_mr, f_m_acts] at hWK
  have hRP := jp mp mn f_mp f_mn; rw [n_mp, n_mn, f_m_acts] at hRP
  have hPL := jl ml f_ml; rw [n_ml, f_m_claims, f_m_acts] at hPL
  have hHC := jh mh f_mh; rw [n_mh, f_m_heardMany, f_m_claims] at hHC
  have hTR := jt mt f_mt; rw [n_mt] at hTR
  have hHF := jf mh m_fou f_mh f_m_fou; rw [n_mh, n_m_fou, f_m_claims] at hHF
  refine lv_aload_n hx hb dL_law_754 rfl (lv_at hl 2 rfl) ?_
  refine lv_aload_n hx hb dL_law_755 rfl (lv_at hl 3 rfl) ?_
  refine lv_iload_n hx hb dL_law_756 rfl (lv_at hl 0 rfl) ?_
  refine lv_iconst (v := 1) hx hb dL_law_757 ?o10 ?_
  case o10 => decide
  refine lv_iadd hx hb dL_law_758 ?_
  have rg_438 := i32_r i
  refine lv_topi (fun x_439 ex_439 => ?_)
  have zx_439 : x_439.toInt = i.toInt + 1 := ?o11
  case o11 =>
    rw [ex_439]
    refine i32_add rfl ?o12 ?o13 ?o14
    case o12 => decide
    case o13 => omega
    case o14 => omega
  refine va_sld hx hb hX hbl hbA hW.2.2.2.1 (vp_in_iff.mpr ⟨?o15, ?o16⟩) dL_law_759 ?_
  case o15 => omega
  case o16 => omega
  refine lv_topi (fun x_440 ex_440 => ?_)
  refine lv_aload_n hx hb dL_law_760 rfl (lv_at hl 3 rfl) ?_
  refine lv_iload_n hx hb dL_law_761 rfl (lv_at hl 0 rfl) ?_
  refine lv_iconst (v := 2) hx hb dL_law_762 ?o17 ?_
  case o17 => decide
  refine lv_iadd hx hb dL_law_763 ?_
  refine lv_topi (fun x_441 ex_441 => ?_)
  have zx_441 : x_441.toInt = i.toInt + 2 := ?o18
  case o18 =>
    rw [ex_441]
    refine i32_add rfl ?o19 ?o20 ?o21
    case o19 => decide
    case o20 => omega
    case o21 => omega
  refine va_sld hx hb hX hbl hbA hW.2.2.2.1 (vp_in_iff.mpr ⟨?o22, ?o23⟩) dL_law_764 ?_
  case o22 => omega
  case o23 => omega
  refine lv_topi (fun x_442 ex_442 => ?_)
  have jn_773 : ∀ (xj_443 : Int32) (ls : Array Slot), 0 ≤ xj_443.toInt → xj_443.toInt ≤ 1 → (x_442.toInt = 0 ∧ xj_443.toInt = 0) ∨ (x_442.toInt ≠ 0 ∧ xj_443.toInt = 1) → lv_has ls 4 [(3, .int i), (2, .ref am), (1, .ref ax), (0, .ref b)] → W p l e room_1 s m #[Value.ref b] below meth c H locs (CC) (SS) (lw_Z below #[Value.ref b] s) (F0 m 773 ls [.int xj_443, .int x_440, .ref ax]) := by
    intro xj_443 ls blxj_443 buxj_443 jcxj_443 hl
    have hTo := hT
    refine hx_goi (hx_runV (As := [.int x_440, .int xj_443]) (rest := []) ⟨hx, hb, hml, hown, hts⟩ hW gx tt_9 (T := TX9) (N := 20) rfl (t_X9_summons_2 l dC dI dA L1 hl1 H.size ax x_440 xj_443 hT gx c0 f_x_claimCount nw f_x_now qc g_qc f_qc pf_qc c_fou cl_fou c_tri cl_tri nu_qc) (cwV 2 hts (hx_gV kw_806 kw_803 kw_804 kw_805 kw_94) rfl rfl rfl (by decide +kernel) ⟨Nat.le_of_ble_eq_true rfl, Nat.le_of_ble_eq_true rfl⟩) rfl hl.1 rfl (Nat.le_of_ble_eq_true rfl) dL_law_773 ⟨(show CC + 0 ≤ 600000 from ?o24), (show SS + 0 ≤ 7302250 from ?o25)⟩) hW (fun r_446 L_444 h_445 H locs p_447 hW => ?_)
    case o24 => omega
    case o25 => omega
    obtain ⟨⟨w_449, w_450, fw_449, fw_450, hr_448⟩, hT, hs⟩ := p_447
    replace hT : hx_T T_tb L_444 h_445 := hT
    replace hs : hx_S T_tb [(2, 9), (2, 10)] L1 hl1 L_444 h_445 := hs
    replace f_qa := (hs.o gx trivial rfl).2.trans f_qa
    replace f_qp := (hs.o gx trivial rfl).2.trans f_qp
    replace f_qc := (hs.o gx trivial rfl).2.trans f_qc
    replace f_qh := (hs.o gx trivial rfl).2.trans f_qh
    replace f_qw := (hs.o gx trivial rfl).2.trans f_qw
    replace f_ql := (hs.o g_qw trivial rfl).2.trans f_ql
    replace f_m_now := (hs.o gm trivial rfl).1.trans f_m_now
    replace f_m_persons := (hs.o gm trivial rfl).1.trans f_m_persons
    replace f_m_claims := (hs.o gm trivial rfl).1.trans f_m_claims
    replace f_m_taped := (hs.o gm trivial rfl).1.trans f_m_taped
    replace f_m_acts := (hs.o gm trivial rfl).1.trans f_m_acts
    replace f_m_heardMany := (hs.o gm trivial rfl).1.trans f_m_heardMany
    replace f_m_lines := (hs.o gm trivial rfl).1.trans f_m_lines
    replace f_m_listed := (hs.o gm trivial rfl).1.trans f_m_listed
    replace f_m_walkedMany := (hs.o gm trivial rfl).1.trans f_m_walkedMany
    replace f_m_payments := (hs.o gm trivial rfl).1.trans f_m_payments
    replace f_x_now := (hs.o gx trivial rfl).1.trans f_x_now
    replace f_x_personCount := (hs.o gx trivial rfl).1.trans f_x_personCount
    replace f_x_claimCount := (hs.o gx trivial rfl).1.trans f_x_claimCount
    replace f_x_tapeLength := (hs.o gx trivial rfl).1.trans f_x_tapeLength
    replace f_x_actCount := (hs.o gx trivial rfl).1.trans f_x_actCount
    replace f_x_heardCount := (hs.o gx trivial rfl).1.trans f_x_heardCount
    replace f_mw := (hs.o gm trivial rfl).2.trans f_mw
    replace f_mr := (hs.o gm trivial rfl).2.trans f_mr
    replace f_mp := (hs.o gm trivial rfl).2.trans f_mp
    replace f_mn := (hs.o gm trivial rfl).2.trans f_mn
    replace f_ml := (hs.o gm trivial rfl).2.trans f_ml
    replace f_mh := (hs.o gm trivial rfl).2.trans f_mh
    replace f_mt := (hs.o gm trivial rfl).2.trans f_mt
    replace f_m_fou := (hs.o gm trivial rfl).2.trans f_m_fou
    replace f_qo_ln := (hs.o gx trivial rfl).2.trans f_qo_ln
    replace f_o_ln := (hs.o g_qo_ln trivial rfl).1.trans f_o_ln
    replace f_o_lsd := (hs.o g_qw trivial rfl).1.trans f_o_lsd
    replace f_o_wkm := (hs.o g_qw trivial rfl).1.trans f_o_wkm
    replace f_qo_py := (hs.o gx trivial rfl).2.trans f_qo_py
    replace f_o_py := (hs.o g_qo_py trivial rfl).1.trans f_o_py
    replace f_b_of := (hs.o g_qo_ln trivial rfl).2.trans f_b_of
    replace f_m_of := (hs.o gm trivial rfl).2.trans f_m_of
    replace f_b_wf := (hs.o g_qo_ln trivial rfl).2.trans f_b_wf
    replace f_m_wf := (hs.o gm trivial rfl).2.trans f_m_wf
    replace f_b_df := (hs.o g_qo_ln trivial rfl).2.trans f_b_df
    replace f_m_df := (hs.o gm trivial rfl).2.trans f_m_df
    replace f_b_kf := (hs.o g_qo_ln trivial rfl).2.trans f_b_kf
    replace f_m_kf := (hs.o gm trivial rfl).2.trans f_m_kf
    replace f_b_sf := (hs.o g_qo_ln trivial rfl).2.trans f_b_sf
    replace f_m_sf := (hs.o gm trivial rfl).2.trans f_m_sf
    replace f_b_bf := (hs.o g_qo_ln trivial rfl).2.trans f_b_bf
    replace f_m_lst := (hs.o gm trivial rfl).2.trans f_m_lst
    replace f_qtp := (hs.o gx trivial rfl).2.trans f_qtp
    replace f_m_tp := (hs.o gm trivial rfl).2.trans f_m_tp
    replace f_m_dead := (hs.o gm trivial rfl).2.trans f_m_dead
    replace f_m_isj := (hs.o gm trivial rfl).2.trans f_m_isj
    replace f_m_dox := (hs.o gm trivial rfl).2.trans f_m_dox
    replace f_m_doy := (hs.o gm trivial rfl).2.trans f_m_doy
    replace f_qlt := (hs.o g_qw trivial rfl).2.trans f_qlt
    replace f_qlf := (hs.o g_qw trivial rfl).2.trans f_qlf
    replace f_m_wkd := (hs.o gm trivial rfl).2.trans f_m_wkd
    replace f_m_aga := (hs.o gm trivial rfl).2.trans f_m_aga
    replace f_qwo := (hs.o gx trivial rfl).2.trans f_qwo
    replace f_m_ad := (hs.o gm trivial rfl).2.trans f_m_ad
    replace f_m_by := (hs.o gm trivial rfl).2.trans f_m_by
    replace f_m_ho := (hs.o gm trivial rfl).2.trans f_m_ho
    replace f_m_fc := (hs.o gm trivial rfl).2.trans f_m_fc
    replace f_m_nt := (hs.o gm trivial rfl).2.trans f_m_nt
    replace f_m_wt := (hs.o gm trivial rfl).2.trans f_m_wt
    replace f_m_be := (hs.o gm trivial rfl).2.trans f_m_be
    replace f_m_bor := (hs.o gm trivial rfl).2.trans f_m_bor
    replace f_m_kin := (hs.o gm trivial rfl).2.trans f_m_kin
    replace f_m_sum := (hs.o gm trivial rfl).2.trans f_m_sum
    replace f_m_fro := (hs.o gm trivial rfl).2.trans f_m_fro
    replace f_m_fil := (hs.o gm trivial rfl).2.trans f_m_fil
    replace f_m_jud := (hs.o gm trivial rfl).2.trans f_m_jud
    replace f_m_ear := (hs.o gm trivial rfl).2.trans f_m_ear
    replace f_m_hds := (hs.o gm trivial rfl).2.trans f_m_hds
    replace f_m_ord := (hs.o gm trivial rfl).2.trans f_m_ord
    replace f_m_wkl := (hs.o gm trivial rfl).2.trans f_m_wkl
    replace f_m_owd := (hs.o gm trivial rfl).2.trans f_m_owd
    replace f_m_gds := (hs.o gm trivial rfl).2.trans f_m_gds
    replace f_m_szd := (hs.o gm trivial rfl).2.trans f_m_szd
    replace f_m_srv := (hs.o gm trivial rfl).2.trans f_m_srv
    replace f_y_p0 := (hs.o g_qo_py trivial rfl).2.trans f_y_p0
    replace f_m_p0 := (hs.o gm trivial rfl).2.trans f_m_p0
    replace f_y_p1 := (hs.o g_qo_py trivial rfl).2.trans f_y_p1
    replace f_m_p1 := (hs.o gm trivial rfl).2.trans f_m_p1
    replace f_y_p2 := (hs.o g_qo_py trivial rfl).2.trans f_y_p2
    replace f_m_p2 := (hs.o gm trivial rfl).2.trans f_m_p2
    replace f_y_p3 := (hs.o g_qo_py trivial rfl).2.trans f_y_p3
    replace f_m_p3 := (hs.o gm trivial rfl).2.trans f_m_p3
    replace f_y_p4 := (hs.o g_qo_py trivial rfl).2.trans f_y_p4
    replace f_m_p4 := (hs.o gm trivial rfl).2.trans f_m_p4
    replace f_qrg9 := (hs.o gx trivial rfl).2.trans f_qrg9
    replace f_y_ls := (hs.o g_qrg9 trivial rfl).2.trans f_y_ls
    replace f_m_rl := (hs.o gm trivial rfl).2.trans f_m_rl
    replace ffv_435 := (hs.o g_qrg9 trivial rfl).1.trans ffv_435
    replace ffv_436 := (hs.o gm trivial rfl).1.trans ffv_436
    replace ffv_437 := (hs.o gm trivial rfl).1.trans ffv_437
    replace pf_qa : ∀ j : Nat, (j : Int) < (h_445.2.1 ax 6).toInt → h_445.2.2 qa j ≠ none := by
      intro j hj; rw [(hs.o gx trivial rfl).1] at hj; rw [(hs.a g_qa rfl j).2]; exact pf_qa j hj
    replace pf_qp : ∀ j : Nat, (j : Int) < (h_445.2.1 ax 8).toInt → h_445.2.2 qp j ≠ none := by
      intro j hj; rw [(hs.o gx trivial rfl).1] at hj; rw [(hs.a g_qp rfl j).2]; exact pf_qp j hj
    replace pf_qc : ∀ j : Nat, (j : Int) < (h_445.2.1 ax 11).toInt → h_445.2.2 qc j ≠ none := by
      intro j hj; rw [(hs.o gx trivial rfl).1] at hj; rw [(hs.a g_qc rfl j).2]; exact pf_qc j hj
    replace pf_qh : ∀ j : Nat, (j : Int) < (h_445.2.1 ax 13).toInt → h_445.2.2 qh j ≠ none := by
      intro j hj; rw [(hs.o gx trivial rfl).1] at hj; rw [(hs.a g_qh rfl j).2]; exact pf_qh j hj
    replace pf_ql : ∀ j : Nat, (j : Int) < (h_445.2.1 qw 0).toInt → h_445.2.2 ql j ≠ none := by
      intro j hj; rw [(hs.o g_qw trivial rfl).1] at hj; rw [(hs.a g_ql rfl j).2]; exact pf_ql j hj
    replace cl_lst : hx_col 8 h_445 ql 0 = c_lst := (hx_col_S hs hTo g_ql tt_40 tt_2 rfl rfl).trans cl_lst
    replace cl_dead : hx_col 40 h_445 qp 7 = c_dead := (hx_col_S hs hTo g_qp tt_44 tt_4 rfl rfl).trans cl_dead
    replace cl_isj : hx_col 40 h_445 qp 8 = c_isj := (hx_col_S hs hTo g_qp tt_44 tt_4 rfl rfl).trans cl_isj
    replace cl_dox : hx_col 40 h_445 qp 5 = c_dox := (hx_col_S hs hTo g_qp tt_44 tt_4 rfl rfl).trans cl_dox
    replace cl_doy : hx_col 40 h_445 qp 6 = c_doy := (hx_col_S hs hTo g_qp tt_44 tt_4 rfl rfl).trans cl_doy
    replace cl_bor : hx_col 40 h_445 qp 1 = F_bor := (hx_col_S hs hTo g_qp tt_44 tt_4 rfl rfl).trans cl_bor
    replace cl_kin : hx_col 40 h_445 qp 2 = F_kin := (hx_col_S hs hTo g_qp tt_44 tt_4 rfl rfl).trans cl_kin
    replace cl_sum : hx_col 100 h_445 qc 6 = F_sum := (hx_col_S hs hTo g_qc tt_45 tt_2 rfl rfl).trans cl_sum
    replace cl_fro : hx_col 100 h_445 qc 7 = F_fro := (hx_col_S hs hTo g_qc tt_45 tt_2 rfl rfl).trans cl_fro
    replace cl_fil : hx_col 100 h_445 qc 8 = F_fil := (hx_col_S hs hTo g_qc tt_45 tt_2 rfl rfl).trans cl_fil
    replace cl_hea : hx_col 100 h_445 qc 11 = F_mh := (hx_col_S hs hTo g_qc tt_45 tt_2 rfl rfl).trans cl_hea
    replace cl_jud : hx_col 100 h_445 qc 12 = F_jud := (hx_col_S hs hTo g_qc tt_45 tt_2 rfl rfl).trans cl_jud
    replace cl_ear : hx_col 40 h_445 qp 3 = F_ear := (hx_col_S hs hTo g_qp tt_44 tt_4 rfl rfl).trans cl_ear
    replace cl_hds : hx_col 40 h_445 qp 4 = F_hds := (hx_col_S hs hTo g_qp tt_44 tt_4 rfl rfl).trans cl_hds
    replace cl_ord : hx_col 100 h_445 qc 13 = F_ord := (hx_col_S hs hTo g_qc tt_45 tt_2 rfl rfl).trans cl_ord
    replace cl_wkl : hx_col 100 h_445 qc 14 = F_wkl := (hx_col_S hs hTo g_qc tt_45 tt_2 rfl rfl).trans cl_wkl
    replace cl_owd : hx_col 100 h_445 qc 15 = F_owd := (hx_col_S hs hTo g_qc tt_45 tt_2 rfl rfl).trans cl_owd
    replace cl_gds : hx_col 100 h_445 qc 17 = F_gds := (hx_col_S hs hTo g_qc tt_45 tt_2 rfl rfl).trans cl_gds
    replace cl_szd : hx_col 100 h_445 qc 16 = F_szd := (hx_col_S hs hTo g_qc tt_45 tt_2 rfl rfl).trans cl_szd
    replace cl_srv : hx_col 100 h_445 qc 18 = F_srv := (hx_col_S hs hTo g_qc tt_45 tt_2 rfl rfl).trans cl_srv
    replace nu_qp : hx_num 40 h_445 qp 0 (np.toInt) := hx_num_S hs hTo g_qp tt_44 tt_4 rfl rfl nu_qp
    replace nu_qc : hx_num 100 h_445 qc 0 (c0.toInt) := hx_num_S hs hTo g_qc tt_45 tt_2 rfl rfl nu_qc
    replace sb_list : hx_LQ 8 100 h_445 ql qc := hx_LQ_S hs g_ql g_qc rfl rfl sb_list
    replace hDF : hw_DF h_445 qc qp 2 F_aga c0.toInt := hw_DF_S hs hTo g_qc g_qp tt_45 tt_2 rfl rfl rfl hDF
    replace hRA9 : hv_RA h_445 qa qwo a0.toInt A9 := hv_RA_S hs hTo g_qa g_qwo tt_43 tt_0 rfl rfl rfl rfl rfl rfl ?o26 hRA9
    case o26 => omega
    replace hDP : hw_DF h_445 qc qp 1 F_by c0.toInt := hw_DF_S hs hTo g_qc g_qp tt_45 tt_2 rfl rfl rfl hDP
    replace hAC9 : hv_AC h_445 qc F_ml c0.toInt A9 := hv_AC_S hs hTo g_qc tt_45 tt_2 rfl tt_0 rfl rfl rfl rfl rfl rfl rfl hAC9
    replace hFX : hv_FX 8 4 h_445 qc cF9L c0.toInt := hv_FX_S hs hTo g_qc tt_45 tt_2 rfl rfl rfl rfl hFX
    replace hBX : hv_FX 3 5 h_445 qc F_be c0.toInt := hv_FX_S hs hTo g_qc tt_45 tt_2 rfl rfl rfl rfl hBX
    replace hHL : hv_HL h_445 qh qc F_ho m0.toInt c0.toInt := hv_HL_S hs g_qh g_qc rfl rfl hHL
    replace n_mw : h_445.2.1 mw = F_mw := (funext fun j => (hs.a g_mw rfl j).1).trans n_mw
    replace n_mr : h_445.2.1 mr = F_mr := (funext fun j => (hs.a g_mr rfl j).1).trans n_mr
    replace n_mp : h_445.2.1 mp = F_mp := (funext fun j => (hs.a g_mp rfl j).1).trans n_mp
    replace n_mn : h_445.2.1 mn = F_mn := (funext fun j => (hs.a g_mn rfl j).1).trans n_mn
    replace n_ml : h_445.2.1 ml = F_ml := (funext fun j => (hs.a g_ml rfl j).1).trans n_ml
    replace n_mh : h_445.2.1 mh = F_mh := (funext fun j => (hs.a g_mh rfl j).1).trans n_mh
    replace n_mt : h_445.2.1 mt = F_mt := (funext fun j => (hs.a g_mt rfl j).1).trans n_mt
    replace n_m_fou : h_445.2.1 m_fou = F_m_fou := (funext fun j => (hs.a g_m_fou rfl j).1).trans n_m_fou
    replace n_b_of : h_445.2.1 b_of = B_of := (funext fun j => (hs.a g_b_of rfl j).1).trans n_b_of
    replace n_m_of : h_445.2.1 m_of = F_of := (funext fun j => (hs.a g_m_of rfl j).1).trans n_m_of
    replace n_b_wf : h_445.2.1 b_wf = B_wf := (funext fun j => (hs.a g_b_wf rfl j).1).trans n_b_wf
    replace n_m_wf : h_445.2.1 m_wf = F_wf := (funext fun j => (hs.a g_m_wf rfl j).1).trans n_m_wf
    replace n_b_df : h_445.2.1 b_df = B_df := (funext fun j => (hs.a g_b_df rfl j).1).trans n_b_df
    replace n_m_df : h_445.2.1 m_df = F_df := (funext fun j => (hs.a g_m_df rfl j).1).trans n_m_df
    replace n_b_kf : h_445.2.1 b_kf = B_kf := (funext fun j => (hs.a g_b_kf rfl j).1).trans n_b_kf
    replace n_m_kf : h_445.2.1 m_kf = F_kf := (funext fun j => (hs.a g_m_kf rfl j).1).trans n_m_kf
    replace n_b_sf : h_445.2.1 b_sf = B_sf := (funext fun j => (hs.a g_b_sf rfl j).1).trans n_b_sf
    replace n_m_sf : h_445.2.1 m_sf = F_sf := (funext fun j => (hs.a g_m_sf rfl j).1).trans n_m_sf
    replace n_b_bf : h_445.2.1 b_bf = bfL := (funext fun j => (hs.a g_b_bf rfl j).1).trans n_b_bf
    replace n_lst : h_445.2.1 m_lst = F_lst := (funext fun j => (hs.a g_m_lst rfl j).1).trans n_lst
    replace n_tp : h_445.2.1 m_tp = F_tp := (funext fun j => (hs.a g_m_tp rfl j).1).trans n_tp
    replace n_qtp : h_445.2.1 qtp = F_tp := (funext fun j => (hs.a g_qtp rfl j).1).trans n_qtp
    replace n_dead : h_445.2.1 m_dead = F_dead := (funext fun j => (hs.a g_m_dead rfl j).1).trans n_dead
    replace n_isj : h_445.2.1 m_isj = F_isj := (funext fun j => (hs.a g_m_isj rfl j).1).trans n_isj
    replace n_dox : h_445.2.1 m_dox = F_dox := (funext fun j => (hs.a g_m_dox rfl j).1).trans n_dox
    replace n_doy : h_445.2.1 m_doy = F_doy := (funext fun j => (hs.a g_m_doy rfl j).1).trans n_doy
    replace n_qlt : h_445.2.1 qlt = F_qlt := (funext fun j => (hs.a g_qlt rfl j).1).trans n_qlt
    replace n_m_wkd : h_445.2.1 m_wkd = F_m_wkd := (funext fun j => (hs.a g_m_wkd rfl j).1).trans n_m_wkd
    replace n_aga : h_445.2.1 m_aga = F_aga := (funext fun j => (hs.a g_m_aga rfl j).1).trans n_aga
    replace n_ad : h_445.2.1 m_ad = F_ad := (funext fun j => (hs.a g_m_ad rfl j).1).trans n_ad
    replace n_by : h_445.2.1 m_by = F_by := (funext fun j => (hs.a g_m_by rfl j).1).trans n_by
    replace n_ho : h_445.2.1 m_ho = F_ho := (funext fun j => (hs.a g_m_ho rfl j).1).trans n_ho
    replace n_fc : h_445.2.1 m_fc = F_fc := (funext fun j => (hs.a g_m_fc rfl j).1).trans n_fc
    replace n_nt : h_445.2.1 m_nt = F_nt := (funext fun j => (hs.a g_m_nt rfl j).1).trans n_nt
    replace n_wt : h_445.2.1 m_wt = F_wt := (funext fun j => (hs.a g_m_wt rfl j).1).trans n_wt
    replace n_be : h_445.2.1 m_be = F_be := (funext fun j => (hs.a g_m_be rfl j).1).trans n_be
    replace n_bor : h_445.2.1 m_bor = F_bor := (funext fun j => (hs.a g_m_bor rfl j).1).trans n_bor
    replace n_kin : h_445.2.1 m_kin = F_kin := (funext fun j => (hs.a g_m_kin rfl j).1).trans n_kin
    replace n_sum : h_445.2.1 m_sum = F_sum := (funext fun j => (hs.a g_m_sum rfl j).1).trans n_sum
    replace n_fro : h_445.2.1 m_fro = F_fro := (funext fun j => (hs.a g_m_fro rfl j).1).trans n_fro
    replace n_fil : h_445.2.1 m_fil = F_fil := (funext fun j => (hs.a g_m_fil rfl j).1).trans n_fil
    replace n_jud : h_445.2.1 m_jud = F_jud := (funext fun j => (hs.a g_m_jud rfl j).1).trans n_jud
    replace n_ear : h_445.2.1 m_ear = F_ear := (funext fun j => (hs.a g_m_ear rfl j).1).trans n_ear
    replace n_hds : h_445.2.1 m_hds = F_hds := (funext fun j => (hs.a g_m_hds rfl j).1).trans n_hds
    replace n_ord : h_445.2.1 m_ord = F_ord := (funext fun j => (hs.a g_m_ord rfl j).1).trans n_ord
    replace n_wkl : h_445.2.1 m_wkl = F_wkl := (funext fun j => (hs.a g_m_wkl rfl j).1).trans n_wkl
    replace n_owd : h_445.2.1 m_owd = F_owd := (funext fun j => (hs.a g_m_owd rfl j).1).trans n_owd
    replace n_gds : h_445.2.1 m_gds = F_gds := (funext fun j => (hs.a g_m_gds rfl j).1).trans n_gds
    replace n_szd : h_445.2.1 m_szd = F_szd := (funext fun j => (hs.a g_m_szd rfl j).1).trans n_szd
    replace n_srv : h_445.2.1 m_srv = F_srv := (funext fun j => (hs.a g_m_srv rfl j).1).trans n_srv
    replace n_p0 : h_445.2.1 m_p0 = F_p0 := (funext fun j => (hs.a g_m_p0 rfl j).1).trans n_p0
    replace n_y_p0 : h_445.2.1 y_p0 = F_p0 := (funext fun j => (hs.a g_y_p0 rfl j).1).trans n_y_p0
    replace n_p1 : h_445.2.1 m_p1 = F_p1 := (funext fun j => (hs.a g_m_p1 rfl j).1).trans n_p1
    replace n_y_p1 : h_445.2.1 y_p1 = F_p1 := (funext fun j => (hs.a g_y_p1 rfl j).1).trans n_y_p1
    replace n_p2 : h_445.2.1 m_p2 = F_p2 := (funext fun j => (hs.a g_m_p2 rfl j).1).trans n_p2
    replace n_y_p2 : h_445.2.1 y_p2 = F_p2 := (funext fun j => (hs.a g_y_p2 rfl j).1).trans n_y_p2
    replace n_p3 : h_445.2.1 m_p3 = F_p3 := (funext fun j => (hs.a g_m_p3 rfl j).1).trans n_p3
    replace n_y_p3 : h_445.2.1 y_p3 = F_p3 := (funext fun j => (hs.a g_y_p3 rfl j).1).trans n_y_p3
    replace n_p4 : h_445.2.1 m_p4 = F_p4 := (funext fun j => (hs.a g_m_p4 rfl j).1).trans n_p4
    replace n_y_p4 : h_445.2.1 y_p4 = F_p4 := (funext fun j => (hs.a g_y_p4 rfl j).1).trans n_y_p4
    replace n_y_ls : h_445.2.1 y_ls = F_y_ls := (funext fun j => (hs.a g_y_ls rfl j).1).trans n_y_ls
    replace n_m_rl : h_445.2.1 m_rl = F_m_rl := (funext fun j => (hs.a g_m_rl rfl j).1).trans n_m_rl
    replace gx := gx.S hs
    replace gm := gm.S hs
    replace g_qa := g_qa.S hs
    replace g_qp := g_qp.S hs
    replace g_qc := g_qc.S hs
    replace g_qh := g_qh.S hs
    replace g_qw := g_qw.S hs
    replace g_ql := g_ql.S hs
    replace g_mw := g_mw.S hs
    replace g_mr := g_mr.S hs
    replace g_mp := g_mp.S hs
    replace g_mn := g_mn.S hs
    replace g_ml := g_ml.S hs
    replace g_mh := g_mh.S hs
    replace g_mt := g_mt.S hs
    replace g_m_fou := g_m_fou.S hs
    replace g_qo_ln := g_qo_ln.S hs
    replace g_qo_py := g_qo_py.S hs
    replace g_b_of := g_b_of.S hs
    replace g_m_of := g_m_of.S hs
    replace g_b_wf := g_b_wf.S hs
    replace g_m_wf := g_m_wf.S hs
    replace g_b_df := g_b_df.S hs
    replace g_m_df := g_m_df.S hs
    replace g_b_kf := g_b_kf.S hs
    replace g_m_kf := g_m_kf.S hs
    replace g_b_sf := g_b_sf.S hs
    replace g_m_sf := g_m_sf.S hs
    replace g_b_bf := g_b_bf.S hs
    replace g_m_lst := g_m_lst.S hs
    replace g_qtp := g_qtp.S hs
    replace g_m_tp := g_m_tp.S hs
    replace g_m_dead := g_m_dead.S hs
    replace g_m_isj := g_m_isj.S hs
    replace g_m_dox := g_m_dox.S hs
    replace g_m_doy := g_m_doy.S hs
    replace g_qlt := g_qlt.S hs
    replace g_qlf := g_qlf.S hs
    replace g_m_wkd := g_m_wkd.S hs
    replace g_m_aga := g_m_aga.S hs
    replace g_qwo := g_qwo.S hs
    replace g_m_ad := g_m_ad.S hs
    replace g_m_by := g_m_by.S hs
    replace g_m_ho := g_m_ho.S hs
    replace g_m_fc := g_m_fc.S hs
    replace g_m_nt := g_m_nt.S hs
    replace g_m_wt := g_m_wt.S hs
    replace g_m_be := g_m_be.S hs
    replace g_m_bor := g_m_bor.S hs
    replace g_m_kin := g_m_kin.S hs
    replace g_m_sum := g_m_sum.S hs
    replace g_m_fro := g_m_fro.S hs
    replace g_m_fil := g_m_fil.S hs
    replace g_m_jud := g_m_jud.S hs
    replace g_m_ear := g_m_ear.S hs
    replace g_m_hds := g_m_hds.S hs
    replace g_m_ord := g_m_ord.S hs
    replace g_m_wkl := g_m_wkl.S hs
    replace g_m_owd := g_m_owd.S hs
    replace g_m_gds := g_m_gds.S hs
    replace g_m_szd := g_m_szd.S hs
    replace g_m_srv := g_m_srv.S hs
    replace g_y_p0 := g_y_p0.S hs
    replace g_m_p0 := g_m_p0.S hs
    replace g_y_p1 := g_y_p1.S hs
    replace g_m_p1 := g_m_p1.S hs
    replace g_y_p2 := g_y_p2.S hs
    replace g_m_p2 := g_m_p2.S hs
    replace g_y_p3 := g_y_p3.S hs
    replace g_m_p3 := g_m_p3.S hs
    replace g_y_p4 := g_y_p4.S hs
    replace g_m_p4 := g_m_p4.S hs
    replace g_qrg9 := g_qrg9.S hs
    replace g_y_ls := g_y_ls.S hs
    replace g_m_rl := g_m_rl.S hs
    have fw_449 : hx_col 100 h_445 qc 10 = w_449 := fw_449
    have fw_450 : hx_col 100 h_445 qc 9 = w_450 := fw_450
    refine lv_pop hx hb dL_law_776 rfl ?_
    refine lv_aload_n hx hb dL_law_777 rfl (lv_at hl 1 rfl) ?_
    refine lv_aload_n hx hb dL_law_778 rfl (lv_at hl 3 rfl) ?_
    refine lv_iload_n hx hb dL_law_779 rfl (lv_at hl 0 rfl) ?_
    refine lv_iconst (v := 1) hx hb dL_law_780 ?o27 ?_
    case o27 => decide
    refine lv_iadd hx hb dL_law_781 ?_
    refine lv_topi (fun x_451 ex_451 => ?_)
    have zx_451 : x_451.toInt = i.toInt + 1 := ?o28
    case o28 =>
      rw [ex_451]
      refine i32_add rfl ?o29 ?o30 ?o31
      case o29 => decide
      case o30 => omega
      case o31 => omega
    obtain rfl : x_439 = x_451 := ex_439.trans ex_451.symm
    refine va_sld hx hb hX hbl hbA hW.2.2.2.1 (vp_in_iff.mpr ⟨?o32, ?o33⟩) dL_law_782 ?_
    case o32 => omega
    case o33 => omega
    refine lv_topi (fun x_452 ex_452 => ?_)
    obtain rfl : x_440 = x_452 := ex_440.trans ex_452.symm
    refine lv_aload_n hx hb dL_law_783 rfl (lv_at hl 3 rfl) ?_
    refine lv_iload_n hx hb dL_law_784 rfl (lv_at hl 0 rfl) ?_
    refine lv_iconst (v := 2) hx hb dL_law_785 ?o34 ?_
    case o34 => decide
    refine lv_iadd hx hb dL_law_786 ?_
    refine lv_topi (fun x_453 ex_453 => ?_)
    have zx_453 : x_453.toInt = i.toInt + 2 := ?o35
    case o35 =>
      rw [ex_453]
      refine i32_add rfl ?o36 ?o37 ?o38
      case o36 => decide
      case o37 => omega
      case o38 => omega
    obtain rfl : x_441 = x_453 := ex_441.trans ex_453.symm
    refine va_sld hx hb hX hbl hbA hW.2.2.2.1 (vp_in_iff.mpr ⟨?o39, ?o40⟩) dL_law_787 ?_
    case o39 => omega
    case o40 => omega
    refine lv_topi (fun x_454 ex_454 => ?_)
    obtain rfl : x_442 = x_454 := ex_442.trans ex_454.symm
    have jn_796 : ∀ (xj_455 : Int32) (ls : Array Slot), 0 ≤ xj_455.toInt → xj_455.toInt ≤ 1 → (x_442.toInt = 0 ∧ xj_455.toInt = 0) ∨ (x_442.toInt ≠ 0 ∧ xj_455.toInt = 1) → lv_has ls 4 [(3, .int i), (2, .ref am), (1, .ref ax), (0, .ref b)] → W p l e room_1 s m #[Value.ref b] below meth c H locs (CC + 0) (SS + 0) (lw_Z below #[Value.ref b] s) (F0 m 796 ls [.int xj_455, .int x_440, .ref am]) := by
      intro xj_455 ls blxj_455 buxj_455 jcxj_455 hl
      obtain rfl : xj_443 = xj_455 := Int32.toInt_inj.mp (by omega)
      have hTo := hT
      refine hx_goi (hx_runV (As := [.int x_440, .int xj_443]) (rest := []) ⟨hx, hb, hml, hown, hts⟩ hW gm tt_10 (T := TX10) (N := 98) rfl (t_X10_summons_2 l dC dI dA L_444 h_445 H.size am x_440 xj_443 hT gm mt g_mt f_mt m_fou g_m_fou f_m_fou mh g_mh f_mh F_mt n_mt F_m_fou n_m_fou F_mh n_mh c0 f_m_claims nw f_m_now T1 hT1 hTR hHF) (cwV 2 hts (hx_gV kw_1593 kw_1590 kw_1591 kw_1592 kw_103) rfl rfl rfl (by decide +kernel) ⟨Nat.le_of_ble_eq_true rfl, Nat.le_of_ble_eq_true rfl⟩) rfl hl.1 rfl (Nat.le_of_ble_eq_true rfl) dL_law_796 ⟨(show CC + 0 + 0 ≤ 600000 from ?o41), (show SS + 0 + 0 ≤ 7302250 from ?o42)⟩) hW (fun r_458 L_456 h_457 H locs p_459 hW => ?_)
      case o41 => omega
      case o42 => omega
      obtain ⟨⟨w_461, w_462, fw_461, fw_462, hr_460⟩, hT, hs⟩ := p_459
      replace hT : hx_T T_tb L_456 h_457 := hT
      replace hs : hx_S T_tb [(80, 0), (81, 0)] L_444 h_445 L_456 h_457 := hs
      replace f_qa := (hs.o gx trivial rfl).2.trans f_qa
      replace f_qp := (hs.o gx trivial rfl).2.trans f_qp
      replace f_qc := (hs.o gx trivial rfl).2.trans f_qc
      replace f_qh := (hs.o gx trivial rfl).2.trans f_qh
      replace f_qw := (hs.o gx trivial rfl).2.trans f_qw
      replace f_ql := (hs.o g_qw trivial rfl).2.trans f_ql
      replace f_m_now := (hs.o gm trivial rfl).1.trans f_m_now
      replace f_m_persons := (hs.o gm trivial rfl).1.trans f_m_persons
      replace f_m_claims := (hs.o gm trivial rfl).1.trans f_m_claims
      replace f_m_taped := (hs.o gm trivial rfl).1.trans f_m_taped
      replace f_m_acts := (hs.o gm trivial rfl).1.trans f_m_acts
      replace f_m_heardMany := (hs.o gm trivial rfl).1.trans f_m_heardMany
      replace f_m_lines := (hs.o gm trivial rfl).1.trans f_m_lines
      replace f_m_listed := (hs.o gm trivial rfl).1.trans f_m_listed
      replace f_m_walkedMany := (hs.o gm trivial rfl).1.trans f_m_walkedMany
      replace f_m_payments := (hs.o gm trivial rfl).1.trans f_m_payments
      replace f_x_now := (hs.o gx trivial rfl).1.trans f_x_now
      replace f_x_personCount := (hs.o gx trivial rfl).1.trans f_x_personCount
      replace f_x_claimCount := (hs.o gx trivial rfl).1.trans f_x_claimCount
      replace f_x_tapeLength := (hs.o gx trivial rfl).1.trans f_x_tapeLength
      replace f_x_actCount := (hs.o gx trivial rfl).1.trans f_x_actCount
      replace f_x_heardCount := (hs.o gx trivial rfl).1.trans f_x_heardCount
      replace f_mw := (hs.o gm trivial rfl).2.trans f_mw
      replace f_mr := (hs.o gm trivial rfl).2.trans f_mr
      replace f_mp := (hs.o gm trivial rfl).2.trans f_mp
      replace f_mn := (hs.o gm trivial rfl).2.trans f_mn
      replace f_ml := (hs.o gm trivial rfl).2.trans f_ml
      replace f_mh := (hs.o gm trivial rfl).2.trans f_mh
      replace f_mt := (hs.o gm trivial rfl).2.trans f_mt
      replace f_m_fou := (hs.o gm trivial rfl).2.trans f_m_fou
      replace f_qo_ln := (hs.o gx trivial rfl).2.trans f_qo_ln
      replace f_o_ln := (hs.o g_qo_ln trivial rfl).1.trans f_o_ln
      replace f_o_lsd := (hs.o g_qw trivial rfl).1.trans f_o_lsd
      replace f_o_wkm := (hs.o g_qw trivial rfl).1.trans f_o_wkm
      replace f_qo_py := (hs.o gx trivial rfl).2.trans f_qo_py
      replace f_o_py := (hs.o g_qo_py trivial rfl).1.trans f_o_py
      replace f_b_of := (hs.o g_qo_ln trivial rfl).2.trans f_b_of
      replace f_m_of := (hs.o gm trivial rfl).2.trans f_m_of
      replace f_b_wf := (hs.o g_qo_ln trivial rfl).2.trans f_b_wf
      replace f_m_wf := (hs.o gm trivial rfl).2.trans f_m_wf
      replace f_b_df := (hs.o g_qo_ln trivial rfl).2.trans f_b_df
      replace f_m_df := (hs.o gm trivial rfl).2.trans f_m_df
      replace f_b_kf := (hs.o g_qo_ln trivial rfl).2.trans f_b_kf
      replace f_m_kf := (hs.o gm trivial rfl).2.trans f_m_kf
      replace f_b_sf := (hs.o g_qo_ln trivial rfl).2.trans f_b_sf
      replace f_m_sf := (hs.o gm trivial rfl).2.trans f_m_sf
      replace f_b_bf := (hs.o g_qo_ln trivial rfl).2.trans f_b_bf
      replace f_m_lst := (hs.o gm trivial rfl).2.trans f_m_lst
      replace f_qtp := (hs.o gx trivial rfl).2.trans f_qtp
      replace f_m_tp := (hs.o gm trivial rfl).2.trans f_m_tp
      replace f_m_dead := (hs.o gm trivial rfl).2.trans f_m_dead
      replace f_m_isj := (hs.o gm trivial rfl).2.trans f_m_isj
      replace f_m_dox := (hs.o gm trivial rfl).2.trans f_m_dox
      replace f_m_doy := (hs.o gm trivial rfl).2.trans f_m_doy
      replace f_qlt := (hs.o g_qw trivial rfl).2.trans f_qlt
      replace f_qlf := (hs.o g_qw trivial rfl).2.trans f_qlf
      replace f_m_wkd := (hs.o gm trivial rfl).2.trans f_m_wkd
      replace f_m_aga := (hs.o gm trivial rfl).2.trans f_m_aga
      replace f_qwo := (hs.o gx trivial rfl).2.trans f_qwo
      replace f_m_ad := (hs.o gm trivial rfl).2.trans f_m_ad
      replace f_m_by := (hs.o gm trivial rfl).2.trans f_m_by
      replace f_m_ho := (hs.o gm trivial rfl).2.trans f_m_ho
      replace f_m_fc := (hs.o gm trivial rfl).2.trans f_m_fc
      replace f_m_nt := (hs.o gm trivial rfl).2.trans f_m_nt
      replace f_m_wt := (hs.o gm trivial rfl).2.trans f_m_wt
      replace f_m_be := (hs.o gm trivial rfl).2.trans f_m_be
      replace f_m_bor := (hs.o gm trivial rfl).2.trans f_m_bor
      replace f_m_kin := (hs.o gm trivial rfl).2.trans f_m_kin
      replace f_m_sum := (hs.o gm trivial rfl).2.trans f_m_sum
      replace f_m_fro := (hs.o gm trivial rfl).2.trans f_m_fro
      replace f_m_fil := (hs.o gm trivial rfl).2.trans f_m_fil
      replace f_m_jud := (hs.o gm trivial rfl).2.trans f_m_jud
      replace f_m_ear := (hs.o gm trivial rfl).2.trans f_m_ear
      replace f_m_hds := (hs.o gm trivial rfl).2.trans f_m_hds
      replace f_m_ord := (hs.o gm trivial rfl).2.trans f_m_ord
      replace f_m_wkl := (hs.o gm trivial rfl).2.trans f_m_wkl
      replace f_m_owd := (hs.o gm trivial rfl).2.trans f_m_owd
      replace f_m_gds := (hs.o gm trivial rfl).2.trans f_m_gds
      replace f_m_szd := (hs.o gm trivial rfl).2.trans f_m_szd
      replace f_m_srv := (hs.o gm trivial rfl).2.trans f_m_srv
      replace f_y_p0 := (hs.o g_qo_py trivial rfl).2.trans f_y_p0
      replace f_m_p0 := (hs.o gm trivial rfl).2.trans f_m_p0
      replace f_y_p1 := (hs.o g_qo_py trivial rfl).2.trans f_y_p1
      replace f_m_p1 := (hs.o gm trivial rfl).2.trans f_m_p1
      replace f_y_p2 := (hs.o g_qo_py trivial rfl).2.trans f_y_p2
      replace f_m_p2 := (hs.o gm trivial rfl).2.trans f_m_p2
      replace f_y_p3 := (hs.o g_qo_py trivial rfl).2.trans f_y_p3
      replace f_m_p3 := (hs.o gm trivial rfl).2.trans f_m_p3
      replace f_y_p4 := (hs.o g_qo_py trivial rfl).2.trans f_y_p4
      replace f_m_p4 := (hs.o gm trivial rfl).2.trans f_m_p4
      replace f_qrg9 := (hs.o gx trivial rfl).2.trans f_qrg9
      replace f_y_ls := (hs.o g_qrg9 trivial rfl).2.trans f_y_ls
      replace f_m_rl := (hs.o gm trivial rfl).2.trans f_m_rl
      replace ffv_435 := (hs.o g_qrg9 trivial rfl).1.trans ffv_435
      replace ffv_436 := (hs.o gm trivial rfl).1.trans ffv_436
      replace ffv_437 := (hs.o gm trivial rfl).1.trans ffv_437
      replace pf_qa : ∀ j : Nat, (j : Int) < (h_457.2.1 ax 6).toInt → h_457.2.2 qa j ≠ none := by
        intro j hj; rw [(hs.o gx trivial rfl).1] at hj; rw [(hs.a g_qa rfl j).2]; exact pf_qa j hj
      replace pf_qp : ∀ j : Nat, (j : Int) < (h_457.2.1 ax 8).toInt → h_457.2.2 qp j ≠ none := by
        intro j hj; rw [(hs.o gx trivial rfl).1] at hj; rw [(hs.a g_qp rfl j).2]; exact pf_qp j hj
      replace pf_qc : ∀ j : Nat, (j : Int) < (h_457.2.1 ax 11).toInt → h_457.2.2 qc j ≠ none := by
        intro j hj; rw [(hs.o gx trivial rfl).1] at hj; rw [(hs.a g_qc rfl j).2]; exact pf_qc j hj
      replace pf_qh : ∀ j : Nat, (j : Int) < (h_457.2.1 ax 13).toInt → h_457.2.2 qh j ≠ none := by
        intro j hj; rw [(hs.o gx trivial rfl).1] at hj; rw [(hs.a g_qh rfl j).2]; exact pf_qh j hj
      replace pf_ql : ∀ j : Nat, (j : Int) < (h_457.2.1 qw 0).toInt → h_457.2.2 ql j ≠ none := by
        intro j hj; rw [(hs.o g_qw trivial rfl).1] at hj; rw [(hs.a g_ql rfl j).2]; exact pf_ql j hj
      replace cl_lst : hx_col 8 h_457 ql 0 = c_lst := (hx_col_S hs hTo g_ql tt_40 tt_2 rfl rfl).trans cl_lst
      replace cl_dead : hx_col 40 h_457 qp 7 = c_dead := (hx_col_S hs hTo g_qp tt_44 tt_4 rfl rfl).trans cl_dead
      replace cl_isj : hx_col 40 h_457 qp 8 = c_isj := (hx_col_S hs hTo g_qp tt_44 tt_4 rfl rfl).trans cl_isj
      replace cl_dox : hx_col 40 h_457 qp 5 = c_dox := (hx_col_S hs hTo g_qp tt_44 tt_4 rfl rfl).trans cl_dox
      replace cl_doy : hx_col 40 h_457 qp 6 = c_doy := (hx_col_S hs hTo g_qp tt_44 tt_4 rfl rfl).trans cl_doy
      replace cl_bor : hx_col 40 h_457 qp 1 = F_bor := (hx_col_S hs hTo g_qp tt_44 tt_4 rfl rfl).trans cl_bor
      replace cl_kin : hx_col 40 h_457 qp 2 = F_kin := (hx_col_S hs hTo g_qp tt_44 tt_4 rfl rfl).trans cl_kin
      replace cl_sum : hx_col 100 h_457 qc 6 = F_sum := (hx_col_S hs hTo g_qc tt_45 tt_2 rfl rfl).trans cl_sum
      replace cl_fro : hx_col 100 h_457 qc 7 = F_fro := (hx_col_S hs hTo g_qc tt_45 tt_2 rfl rfl).trans cl_fro
      replace cl_fil : hx_col 100 h_457 qc 8 = F_fil := (hx_col_S hs hTo g_qc tt_45 tt_2 rfl rfl).trans cl_fil
      replace cl_hea : hx_col 100 h_457 qc 11 = F_mh := (hx_col_S hs hTo g_qc tt_45 tt_2 rfl rfl).trans cl_hea
      replace cl_jud : hx_col 100 h_457 qc 12 = F_jud := (hx_col_S hs hTo g_qc tt_45 tt_2 rfl rfl).trans cl_jud
      replace cl_ear : hx_col 40 h_457 qp 3 = F_ear := (hx_col_S hs hTo g_qp tt_44 tt_4 rfl rfl).trans cl_ear
      replace cl_hds : hx_col 40 h_457 qp 4 = F_hds := (hx_col_S hs hTo g_qp tt_44 tt_4 rfl rfl).trans cl_hds
      replace cl_ord : hx_col 100 h_457 qc 13 = F_ord := (hx_col_S hs hTo g_qc tt_45 tt_2 rfl rfl).trans cl_ord
      replace cl_wkl : hx_col 100 h_457 qc 14 = F_wkl := (hx_col_S hs hTo g_qc tt_45 tt_2 rfl rfl).trans cl_wkl
      replace cl_owd : hx_col 100 h_457 qc 15 = F_owd := (hx_col_S hs hTo g_qc tt_45 tt_2 rfl rfl).trans cl_owd
      replace cl_gds : hx_col 100 h_457 qc 17 = F_gds := (hx_col_S hs hTo g_qc tt_45 tt_2 rfl rfl).trans cl_gds
      replace cl_szd : hx_col 100 h_457 qc 16 = F_szd := (hx_col_S hs hTo g_qc tt_45 tt_2 rfl rfl).trans cl_szd
      replace cl_srv : hx_col 100 h_457 qc 18 = F_srv := (hx_col_S hs hTo g_qc tt_45 tt_2 rfl rfl).trans cl_srv
      replace fw_449 : hx_col 100 h_457 qc 10 = w_449 := (hx_col_S hs hTo g_qc tt_45 tt_2 rfl rfl).trans fw_449
      replace fw_450 : hx_col 100 h_457 qc 9 = w_450 := (hx_col_S hs hTo g_qc tt_45 tt_2 rfl rfl).trans fw_450
      replace nu_qp : hx_num 40 h_457 qp 0 (np.toInt) := hx_num_S hs hTo g_qp tt_44 tt_4 rfl rfl nu_qp
      replace nu_qc : hx_num 100 h_457 qc 0 (c0.toInt) := hx_num_S hs hTo g_qc tt_45 tt_2 rfl rfl nu_qc
      replace sb_list : hx_LQ 8 100 h_457 ql qc := hx_LQ_S hs g_ql g_qc rfl rfl sb_list
      replace hDF : hw_DF h_457 qc qp 2 F_aga c0.toInt := hw_DF_S hs hTo g_qc g_qp tt_45 tt_2 rfl rfl rfl hDF
      replace hRA9 : hv_RA h_457 qa qwo a0.toInt A9 := hv_RA_S hs hTo g_qa g_qwo tt_43 tt_0 rfl rfl rfl rfl rfl rfl ?o43 hRA9
      case o43 => omega
      replace hDP : hw_DF h_457 qc qp 1 F_by c0.toInt := hw_DF_S hs hTo g_qc g_qp tt_45 tt_2 rfl rfl rfl hDP
      replace hAC9 : hv_AC h_457 qc F_ml c0.toInt A9 := hv_AC_S hs hTo g_qc tt_45 tt_2 rfl tt_0 rfl rfl rfl rfl rfl rfl rfl hAC9
      replace hFX : hv_FX 8 4 h_457 qc cF9L c0.toInt := hv_FX_S hs hTo g_qc tt_45 tt_2 rfl rfl rfl rfl hFX
      replace hBX : hv_FX 3 5 h_457 qc F_be c0.toInt := hv_FX_S hs hTo g_qc tt_45 tt_2 rfl rfl rfl rfl hBX
      replace hHL : hv_HL h_457 qh qc F_ho m0.toInt c0.toInt := hv_HL_S hs g_qh g_qc rfl rfl hHL
      replace n_mw : h_457.2.1 mw = F_mw := (funext fun j => (hs.a g_mw rfl j).1).trans n_mw
      replace n_mr : h_457.2.1 mr = F_mr := (funext fun j => (hs.a g_mr rfl j).1).trans n_mr
      replace n_mp : h_457.2.1 mp = F_mp := (funext fun j => (hs.a g_mp rfl j).1).trans n_mp
      replace n_mn : h_457.2.1 mn = F_mn := (funext fun j => (hs.a g_mn rfl j).1).trans n_mn
      replace n_ml : h_457.2.1 ml = F_ml := (funext fun j => (hs.a g_ml rfl j).1).trans n_ml
      replace n_mh : h_457.2.1 mh = F_mh := (funext fun j => (hs.a g_mh rfl j).1).trans n_mh
      replace n_b_of : h_457.2.1 b_of = B_of := (funext fun j => (hs.a g_b_of rfl j).1).trans n_b_of
      replace n_m_of : h_457.2.1 m_of = F_of := (funext fun j => (hs.a g_m_of rfl j).1).trans n_m_of
      replace n_b_wf : h_457.2.1 b_wf = B_wf := (funext fun j => (hs.a g_b_wf rfl j).1).trans n_b_wf
      replace n_m_wf : h_457.2.1 m_wf = F_wf := (funext fun j => (hs.a g_m_wf rfl j).1).trans n_m_wf
      replace n_b_df : h_457.2.1 b_df = B_df := (funext fun j => (hs.a g_b_df rfl j).1).trans n_b_df
      replace n_m_df : h_457.2.1 m_df = F_df := (funext fun j => (hs.a g_m_df rfl j).1).trans n_m_df
      replace n_b_kf : h_457.2.1 b_kf = B_kf := (funext fun j => (hs.a g_b_kf rfl j).1).trans n_b_kf
      replace n_m_kf : h_457.2.1 m_kf = F_kf := (funext fun j => (hs.a g_m_kf rfl j).1).trans n_m_kf
      replace n_b_sf : h_457.2.1 b_sf = B_sf := (funext fun j => (hs.a g_b_sf rfl j).1).trans n_b_sf
      replace n_m_sf : h_457.2.1 m_sf = F_sf := (funext fun j => (hs.a g_m_sf rfl j).1).trans n_m_sf
      replace n_b_bf : h_457.2.1 b_bf = bfL := (funext fun j => (hs.a g_b_bf rfl j).1).trans n_b_bf
      replace n_lst : h_457.2.1 m_lst = F_lst := (funext fun j => (hs.a g_m_lst rfl j).1).trans n_lst
      replace n_tp : h_457.2.1 m_tp = F_tp := (funext fun j => (hs.a g_m_tp rfl j).1).trans n_tp
      replace n_qtp : h_457.2.1 qtp = F_tp := (funext fun j => (hs.a g_qtp rfl j).1).trans n_qtp
      replace n_dead : h_457.2.1 m_dead = F_dead := (funext fun j => (hs.a g_m_dead rfl j).1).trans n_dead
      replace n_isj : h_457.2.1 m_isj = F_isj := (funext fun j => (hs.a g_m_isj rfl j).1).trans n_isj
      replace n_dox : h_457.2.1 m_dox = F_dox := (funext fun j => (hs.a g_m_dox rfl j).1).trans n_dox
      replace n_doy : h_457.2.1 m_doy = F_doy := (funext fun j => (hs.a g_m_doy rfl j).1).trans n_doy
      replace n_qlt : h_457.2.1 qlt = F_qlt := (funext fun j => (hs.a g_qlt rfl j).1).trans n_qlt
      replace n_m_wkd : h_457.2.1 m_wkd = F_m_wkd := (funext fun j => (hs.a g_m_wkd rfl j).1).trans n_m_wkd
      replace n_aga : h_457.2.1 m_aga = F_aga := (funext fun j => (hs.a g_m_aga rfl j).1).trans n_aga
      replace n_ad : h_457.2.1 m_ad = F_ad := (funext fun j => (hs.a g_m_ad rfl j).1).trans n_ad
      replace n_by : h_457.2.1 m_by = F_by := (funext fun j => (hs.a g_m_by rfl j).1).trans n_by
      replace n_ho : h_457.2.1 m_ho = F_ho := (funext fun j => (hs.a g_m_ho rfl j).1).trans n_ho
      replace n_fc : h_457.2.1 m_fc = F_fc := (funext fun j => (hs.a g_m_fc rfl j).1).trans n_fc
      replace n_nt : h_457.2.1 m_nt = F_nt := (funext fun j => (hs.a g_m_nt rfl j).1).trans n_nt
      replace n_wt : h_457.2.1 m_wt = F_wt := (funext fun j => (hs.a g_m_wt rfl j).1).trans n_wt
      replace n_be : h_457.2.1 m_be = F_be := (funext fun j => (hs.a g_m_be rfl j).1).trans n_be
      replace n_bor : h_457.2.1 m_bor = F_bor := (funext fun j => (hs.a g_m_bor rfl j).1).trans n_bor
      replace n_kin : h_457.2.1 m_kin = F_kin := (funext fun j => (hs.a g_m_kin rfl j).1).trans n_kin
      replace n_sum : h_457.2.1 m_sum = F_sum := (funext fun j => (hs.a g_m_sum rfl j).1).trans n_sum
      replace n_fro : h_457.2.1 m_fro = F_fro := (funext fun j => (hs.a g_m_fro rfl j).1).trans n_fro
      replace n_fil : h_457.2.1 m_fil = F_fil := (funext fun j => (hs.a g_m_fil rfl j).1).trans n_fil
      replace n_jud : h_457.2.1 m_jud = F_jud := (funext fun j => (hs.a g_m_jud rfl j).1).trans n_jud
      replace n_ear : h_457.2.1 m_ear = F_ear := (funext fun j => (hs.a g_m_ear rfl j).1).trans n_ear
      replace n_hds : h_457.2.1 m_hds = F_hds := (funext fun j => (hs.a g_m_hds rfl j).1).trans n_hds
      replace n_ord : h_457.2.1 m_ord = F_ord := (funext fun j => (hs.a g_m_ord rfl j).1).trans n_ord
      replace n_wkl : h_457.2.1 m_wkl = F_wkl := (funext fun j => (hs.a g_m_wkl rfl j).1).trans n_wkl
      replace n_owd : h_457.2.1 m_owd = F_owd := (funext fun j => (hs.a g_m_owd rfl j).1).trans n_owd
      replace n_gds : h_457.2.1 m_gds = F_gds := (funext fun j => (hs.a g_m_gds rfl j).1).trans n_gds
      replace n_szd : h_457.2.1 m_szd = F_szd := (funext fun j => (hs.a g_m_szd rfl j).1).trans n_szd
      replace n_srv : h_457.2.1 m_srv = F_srv := (funext fun j => (hs.a g_m_srv rfl j).1).trans n_srv
      replace n_p0 : h_457.2.1 m_p0 = F_p0 := (funext fun j => (hs.a g_m_p0 rfl j).1).trans n_p0
      replace n_y_p0 : h_457.2.1 y_p0 = F_p0 := (funext fun j => (hs.a g_y_p0 rfl j).1).trans n_y_p0
      replace n_p1 : h_457.2.1 m_p1 = F_p1 := (funext fun j => (hs.a g_m_p1 rfl j).1).trans n_p1
      replace n_y_p1 : h_457.2.1 y_p1 = F_p1 := (funext fun j => (hs.a g_y_p1 rfl j).1).trans n_y_p1
      replace n_p2 : h_457.2.1 m_p2 = F_p2 := (funext fun j => (hs.a g_m_p2 rfl j).1).trans n_p2
      replace n_y_p2 : h_457.2.1 y_p2 = F_p2 := (funext fun j => (hs.a g_y_p2 rfl j).1).trans n_y_p2
      replace n_p3 : h_457.2.1 m_p3 = F_p3 := (funext fun j => (hs.a g_m_p3 rfl j).1).trans n_p3
      replace n_y_p3 : h_457.2.1 y_p3 = F_p3 := (funext fun j => (hs.a g_y_p3 rfl j).1).trans n_y_p3
      replace n_p4 : h_457.2.1 m_p4 = F_p4 := (funext fun j => (hs.a g_m_p4 rfl j).1).trans n_p4
      replace n_y_p4 : h_457.2.1 y_p4 = F_p4 := (funext fun j => (hs.a g_y_p4 rfl j).1).trans n_y_p4
      replace n_y_ls : h_457.2.1 y_ls = F_y_ls := (funext fun j => (hs.a g_y_ls rfl j).1).trans n_y_ls
      replace n_m_rl : h_457.2.1 m_rl = F_m_rl := (funext fun j => (hs.a g_m_rl rfl j).1).trans n_m_rl
      replace gx := gx.S hs
      replace gm := gm.S hs
      replace g_qa := g_qa.S hs
      replace g_qp := g_qp.S hs
      replace g_qc := g_qc.S hs
      replace g_qh := g_qh.S hs
      replace g_qw := g_qw.S hs
      replace g_ql := g_ql.S hs
      replace g_mw := g_mw.S hs
      replace g_mr := g_mr.S hs
      replace g_mp := g_mp.S hs
      replace g_mn := g_mn.S hs
      replace g_ml := g_ml.S hs
      replace g_mh := g_mh.S hs
      replace g_mt := g_mt.S hs
      replace g_m_fou := g_m_fou.S hs
      replace g_qo_ln := g_qo_ln.S hs
      replace g_qo_py := g_qo_py.S hs
      replace g_b_of := g_b_of.S hs
      replace g_m_of := g_m_of.S hs
      replace g_b_wf := g_b_wf.S hs
      replace g_m_wf := g_m_wf.S hs
      replace g_b_df := g_b_df.S hs
      replace g_m_df := g_m_df.S hs
      replace g_b_kf := g_b_kf.S hs
      replace g_m_kf := g_m_kf.S hs
      replace g_b_sf := g_b_sf.S hs
      replace g_m_sf := g_m_sf.S hs
      replace g_b_bf := g_b_bf.S hs
      replace g_m_lst := g_m_lst.S hs
      replace g_qtp := g_qtp.S hs
      replace g_m_tp := g_m_tp.S hs
      replace g_m_dead := g_m_dead.S hs
      replace g_m_isj := g_m_isj.S hs
      replace g_m_dox := g_m_dox.S hs
      replace g_m_doy := g_m_doy.S hs
      replace g_qlt := g_qlt.S hs
      replace g_qlf := g_qlf.S hs
      replace g_m_wkd := g_m_wkd.S hs
      replace g_m_aga := g_m_aga.S hs
      replace g_qwo := g_qwo.S hs
      replace g_m_ad := g_m_ad.S hs
      replace g_m_by := g_m_by.S hs
      replace g_m_ho := g_m_ho.S hs
      replace g_m_fc := g_m_fc.S hs
      replace g_m_nt := g_m_nt.S hs
      replace g_m_wt := g_m_wt.S hs
      replace g_m_be := g_m_be.S hs
      replace g_m_bor := g_m_bor.S hs
      replace g_m_kin := g_m_kin.S hs
      replace g_m_sum := g_m_sum.S hs
      replace g_m_fro := g_m_fro.S hs
      replace g_m_fil := g_m_fil.S hs
      replace g_m_jud := g_m_jud.S hs
      replace g_m_ear := g_m_ear.S hs
      replace g_m_hds := g_m_hds.S hs
      replace g_m_ord := g_m_ord.S hs
      replace g_m_wkl := g_m_wkl.S hs
      replace g_m_owd := g_m_owd.S hs
      replace g_m_gds := g_m_gds.S hs
      replace g_m_szd := g_m_szd.S hs
      replace g_m_srv := g_m_srv.S hs
      replace g_y_p0 := g_y_p0.S hs
      replace g_m_p0 := g_m_p0.S hs
      replace g_y_p1 := g_y_p1.S hs
      replace g_m_p1 := g_m_p1.S hs
      replace g_y_p2 := g_y_p2.S hs
      replace g_m_p2 := g_m_p2.S hs
      replace g_y_p3 := g_y_p3.S hs
      replace g_m_p3 := g_m_p3.S hs
      replace g_y_p4 := g_y_p4.S hs
      replace g_m_p4 := g_m_p4.S hs
      replace g_qrg9 := g_qrg9.S hs
      replace g_y_ls := g_y_ls.S hs
      replace g_m_rl := g_m_rl.S hs
      have fw_461 : h_457.2.1 mt = w_461 := fw_461
      have fw_462 : h_457.2.1 m_fou = w_462 := fw_462
      refine lv_pop hx hb dL_law_799 rfl ?_
      refine lv_goto (tgt := 1379) hx hb dL_law_800 ?o44 ?_
      case o44 => decide
      obtain ⟨heq, hq_fou, hq_tri⟩ := hx_sk (by omega) eq_fou eq_tri hr_448 hr_460.2
      refine W.widen (k := CC + 3) (n := SS + 179) ?o45 ?o46 ?_
      case o45 => omega
      case o46 => omega
      refine kk L_456 h_457 H locs ls hW ⟨hT, gx, gm, ⟨f_x_now.trans f_m_now.symm, f_x_personCount.trans f_m_persons.symm, f_x_claimCount.trans f_m_claims.symm, f_x_tapeLength.trans f_m_taped.symm, f_x_actCount.trans f_m_acts.symm, f_x_heardCount.trans f_m_heardMany.symm, hx_ob f_qo_ln (f_o_ln.trans f_m_lines.symm), hx_ob f_qw (f_o_lsd.trans f_m_listed.symm), hx_ob f_qw (f_o_wkm.trans f_m_walkedMany.symm), hx_ob f_qo_py (f_o_py.trans f_m_payments.symm), hx_ob f_qp ?o47, hx_ob f_qc ?o48, (fun b a r hb ha hr => ?o49), (fun b a r hb ha hr => ?o50), (fun b a r hb ha hr => ?o51), (fun b a r hb ha hr => ?o52), (fun b a r hb ha hr => ?o53), (fun b a r hb ha hr => ?o54), (fun w q c hw hq hc => ?o55), (fun w q r hw hq hr => ?o56), (fun w q r hw hq hr => ?o57), (fun c q a hc hq ha => ?o58), (fun q r hq hr => ?o59), (fun q w a b c d e p hq hw ha hb hc hd he hp => ?o60), (fun c q a hc hq ha => ?o61), (fun q c a hq hc ha => ?o62), (fun a b ha hb => ?o63), (fun c a b d e f hc ha hb hd he hf => ?o64), (fun c a hc ha => ?o65), hx_ob2 f_qp f_m_bor (cl_bor.trans n_bor.symm), hx_ob2 f_qp f_m_kin (cl_kin.trans n_kin.symm), hx_ob2 f_qc f_m_sum (cl_sum.trans n_sum.symm), hx_ob2 f_qc f_m_fro (cl_fro.trans n_fro.symm), hx_ob2 f_qc f_m_fil (cl_fil.trans n_fil.symm), hx_ob2 f_qc f_mh (cl_hea.trans n_mh.symm), hx_ob2 f_qc f_m_jud (cl_jud.trans n_jud.symm), hx_ob2 f_qp f_m_ear (cl_ear.trans n_ear.symm), hx_ob2 f_qp f_m_hds (cl_hds.trans n_hds.symm), hx_ob2 f_qc f_m_ord (cl_ord.trans n_ord.symm), hx_ob2 f_qc f_m_wkl (cl_wkl.trans n_wkl.symm), hx_ob2 f_qc f_m_owd (cl_owd.trans n_owd.symm), hx_ob2 f_qc f_m_gds (cl_gds.trans n_gds.symm), hx_ob2 f_qc f_m_szd (cl_szd.trans n_szd.symm), hx_ob2 f_qc f_m_srv (cl_srv.trans n_srv.symm), (fun p q r hp hq hr => ?o66), (fun p q r hp hq hr => ?o67), (fun p q r hp hq hr => ?o68), (fun p q r hp hq hr => ?o69), (fun p q r hp hq hr => ?o70), (fun p hp => ?o71), (fun p q r hp hq hr => ?o72), hx_ob2 f_qp f_m_dead ?o73, hx_ob2 f_qp f_m_isj ?o74, hx_ob2 f_qp f_m_dox ?o75, hx_ob2 f_qp f_m_doy ?o76, hx_ob2 f_qc f_m_fou ?o77, hx_ob2 f_qc f_mt ?o78, trivial⟩, ⟨hx_ob f_qa pf_qa, hx_ob f_qp pf_qp, hx_ob f_qc pf_qc, hx_ob f_qh pf_qh, (fun w q hw hq => ?o79)⟩, ⟨hx_ob f_mw ?o80, hx_ob f_mr ?o81, hx_ob2 f_mp f_mn ?o82, hx_ob f_ml ?o83, hx_ob f_mh ?o84, hx_ob f_mt ?o85, hx_ob2 f_mh f_m_fou ?o86⟩⟩ hl
      case o47 =>
        rw [f_x_personCount]
        exact nu_qp
      case o48 =>
        rw [f_x_claimCount]
        exact nu_qc
      case o49 =>
        obtain rfl : qo_ln = b := Option.some.inj (f_qo_ln.symm.trans hb)
        obtain rfl : b_of = a := Option.some.inj (f_b_of.symm.trans ha)
        obtain rfl : m_of = r := Option.some.inj (f_m_of.symm.trans hr)
        rw [n_b_of, n_m_of, f_o_ln]
        exact eb_of
      case o50 =>
        obtain rfl : qo_ln = b := Option.some.inj (f_qo_ln.symm.trans hb)
        obtain rfl : b_wf = a := Option.some.inj (f_b_wf.symm.trans ha)
        obtain rfl : m_wf = r := Option.some.inj (f_m_wf.symm.trans hr)
        rw [n_b_wf, n_m_wf, f_o_ln]
        exact eb_wf
      case o51 =>
        obtain rfl : qo_ln = b := Option.some.inj (f_qo_ln.symm.trans hb)
        obtain rfl : b_df = a := Option.some.inj (f_b_df.symm.trans ha)
        obtain rfl : m_df = r := Option.some.inj (f_m_df.symm.trans hr)
        rw [n_b_df, n_m_df, f_o_ln]
        exact eb_df
      case o52 =>
        obtain rfl : qo_ln = b := Option.some.inj (f_qo_ln.symm.trans hb)
        obtain rfl : b_kf = a := Option.some.inj (f_b_kf.symm.trans ha)
        obtain rfl : m_kf = r := Option.some.inj (f_m_kf.symm.trans hr)
        rw [n_b_kf, n_m_kf, f_o_ln]
        exact eb_kf
      case o53 =>
        obtain rfl : qo_ln = b := Option.some.inj (f_qo_ln.symm.trans hb)
        obtain rfl : b_sf = a := Option.some.inj (f_b_sf.symm.trans ha)
        obtain rfl : m_sf = r := Option.some.inj (f_m_sf.symm.trans hr)
        rw [n_b_sf, n_m_sf, f_o_ln]
        exact eb_sf
      case o54 =>
        obtain rfl : qo_ln = b := Option.some.inj (f_qo_ln.symm.trans hb)
        obtain rfl : b_df = a := Option.some.inj (f_b_df.symm.trans ha)
        obtain rfl : b_bf = r := Option.some.inj (f_b_bf.symm.trans hr)
        rw [n_b_df, n_b_bf, f_o_ln]
        exact ⟨hBD, hDY⟩
      case o55 =>
        obtain rfl : qw = w := Option.some.inj (f_qw.symm.trans hw)
        obtain rfl : ql = q := Option.some.inj (f_ql.symm.trans hq)
        obtain rfl : qc = c := Option.some.inj (f_qc.symm.trans hc)
        exact sb_list
      case o56 =>
        obtain rfl : qw = w := Option.some.inj (f_qw.symm.trans hw)
        obtain rfl : ql = q := Option.some.inj (f_ql.symm.trans hq)
        obtain rfl : m_lst = r := Option.some.inj (f_m_lst.symm.trans hr)
        rw [cl_lst, n_lst]
        exact eq_lst
      case o57 =>
        obtain rfl : qw = w := Option.some.inj (f_qw.symm.trans hw)
        obtain rfl : qlt = q := Option.some.inj (f_qlt.symm.trans hq)
        obtain rfl : m_wkd = r := Option.some.inj (f_m_wkd.symm.trans hr)
        rw [n_qlt, n_m_wkd, f_o_wkm]
        exact eb_wkd
      case o58 =>
        obtain rfl : qc = c := Option.some.inj (f_qc.symm.trans hc)
        obtain rfl : qp = q := Option.some.inj (f_qp.symm.trans hq)
        obtain rfl : m_aga = a := Option.some.inj (f_m_aga.symm.trans ha)
        rw [n_aga, f_x_claimCount]
        exact hw_DF_e hDF rfl rfl
      case o59 =>
        obtain rfl : qtp = q := Option.some.inj (f_qtp.symm.trans hq)
        obtain rfl : m_tp = r := Option.some.inj (f_m_tp.symm.trans hr)
        exact n_qtp.trans n_tp.symm
      case o60 =>
        obtain rfl : qa = q := Option.some.inj (f_qa.symm.trans hq)
        obtain rfl : qwo = w := Option.some.inj (f_qwo.symm.trans hw)
        obtain rfl : m_ad = a := Option.some.inj (f_m_ad.symm.trans ha)
        obtain rfl : mr = b := Option.some.inj (f_mr.symm.trans hb)
        obtain rfl : mn = c := Option.some.inj (f_mn.symm.trans hc)
        obtain rfl : mp = d := Option.some.inj (f_mp.symm.trans hd)
        obtain rfl : qc = e := Option.some.inj (f_qc.symm.trans he)
        obtain rfl : ml = p := Option.some.inj (f_ml.symm.trans hp)
        exact ⟨_, by rw [f_x_actCount]; exact hRA9, by rw [f_x_actCount, n_ad, n_mr, n_mn, n_mp]; exact hCA9, by rw [n_ml, f_x_claimCount]; exact hv_AC_e hAC9 rfl rfl rfl, hAB⟩
      case o61 =>
        obtain rfl : qc = c := Option.some.inj (f_qc.symm.trans hc)
        obtain rfl : qp = q := Option.some.inj (f_qp.symm.trans hq)
        obtain rfl : m_by = a := Option.some.inj (f_m_by.symm.trans ha)
        rw [n_by, f_x_claimCount]
        exact hw_DF_e hDP rfl rfl
      case o62 =>
        obtain rfl : qh = q := Option.some.inj (f_qh.symm.trans hq)
        obtain rfl : qc = c := Option.some.inj (f_qc.symm.trans hc)
        obtain rfl : m_ho = a := Option.some.inj (f_m_ho.symm.trans ha)
        rw [n_ho, f_x_heardCount, f_x_claimCount]
        exact hv_HL_e hHL rfl rfl rfl
      case o63 =>
        obtain rfl : m_ho = a := Option.some.inj (f_m_ho.symm.trans ha)
        obtain rfl : mh = b := Option.some.inj (f_mh.symm.trans hb)
        rw [n_ho, n_mh, f_m_heardMany, f_m_claims]
        exact hHO9
      case o64 =>
        obtain rfl : qc = c := Option.some.inj (f_qc.symm.trans hc)
        obtain rfl : m_fc = a := Option.some.inj (f_m_fc.symm.trans ha)
        obtain rfl : m_nt = b := Option.some.inj (f_m_nt.symm.trans hb)
        obtain rfl : m_wt = d := Option.some.inj (f_m_wt.symm.trans hd)
        obtain rfl : m_sum = e := Option.some.inj (f_m_sum.symm.trans he)
        obtain rfl : mh = f := Option.some.inj (f_mh.symm.trans hf)
        exact ⟨cF9L, by rw [f_x_claimCount]; exact hFX, by rw [n_fc, n_nt, n_wt, n_sum, n_mh, f_x_claimCount]; exact hFR9⟩
      case o65 =>
        obtain rfl : qc = c := Option.some.inj (f_qc.symm.trans hc)
        obtain rfl : m_be = a := Option.some.inj (f_m_be.symm.trans ha)
        rw [n_be, f_x_claimCount]
        exact hv_FX_e hBX rfl rfl
      case o66 =>
        obtain rfl : qo_py = p := Option.some.inj (f_qo_py.symm.trans hp)
        obtain rfl : y_p0 = q := Option.some.inj (f_y_p0.symm.trans hq)
        obtain rfl : m_p0 = r := Option.some.inj (f_m_p0.symm.trans hr)
        exact n_y_p0.trans n_p0.symm
      case o67 =>
        obtain rfl : qo_py = p := Option.some.inj (f_qo_py.symm.trans hp)
        obtain rfl : y_p1 = q := Option.some.inj (f_y_p1.symm.trans hq)
        obtain rfl : m_p1 = r := Option.some.inj (f_m_p1.symm.trans hr)
        exact n_y_p1.trans n_p1.symm
      case o68 =>
        obtain rfl : qo_py = p := Option.some.inj (f_qo_py.symm.trans hp)
        obtain rfl : y_p2 = q := Option.some.inj (f_y_p2.symm.trans hq)
        obtain rfl : m_p2 = r := Option.some.inj (f_m_p2.symm.trans hr)
        exact n_y_p2.trans n_p2.symm
      case o69 =>
        obtain rfl : qo_py = p := Option.some.inj (f_qo_py.symm.trans hp)
        obtain rfl : y_p3 = q := Option.some.inj (f_y_p3.symm.trans hq)
        obtain rfl : m_p3 = r := Option.some.inj (f_m_p3.symm.trans hr)
        exact n_y_p3.trans n_p3.symm
      case o70 =>
        obtain rfl : qo_py = p := Option.some.inj (f_qo_py.symm.trans hp)
        obtain rfl : y_p4 = q := Option.some.inj (f_y_p4.symm.trans hq)
        obtain rfl : m_p4 = r := Option.some.inj (f_m_p4.symm.trans hr)
        exact n_y_p4.trans n_p4.symm
      case o71 =>
        obtain rfl : qrg9 = p := Option.some.inj (f_qrg9.symm.trans hp)
        rw [ffv_435, ffv_436, ffv_437]
        exact hNQ9
      case o72 =>
        obtain rfl : qrg9 = p := Option.some.inj (f_qrg9.symm.trans hp)
        obtain rfl : y_ls = q := Option.some.inj (f_y_ls.symm.trans hq)
        obtain rfl : m_rl = r := Option.some.inj (f_m_rl.symm.trans hr)
        rw [n_y_ls, n_m_rl, ffv_435]
        exact hRL9
      case o73 =>
        rw [cl_dead, n_dead]
        exact eq_dead
      case o74 =>
        rw [cl_isj, n_isj]
        exact eq_isj
      case o75 =>
        rw [cl_dox, n_dox]
        exact eq_dox
      case o76 =>
        rw [cl_doy, n_doy]
        exact eq_doy
      case o77 =>
        rw [fw_449, fw_462]
        exact hq_fou
      case o78 =>
        rw [fw_450, fw_461]
        exact hq_tri
      case o79 =>
        obtain rfl : qw = w := Option.some.inj (f_qw.symm.trans hw)
        obtain rfl : ql = q := Option.some.inj (f_ql.symm.trans hq)
        exact pf_ql
      case o80 =>
        rw [n_mw]
        exact hwd
      case o81 =>
        rw [n_mr, f_m_acts]
        exact hWK
      case o82 =>
        rw [n_mp, n_mn, f_m_acts]
        exact hRP
      case o83 =>
        rw [n_ml, f_m_claims, f_m_acts]
        exact hPL
      case o84 =>
        rw [n_mh, f_m_heardMany, f_m_claims]
        exact hHC
      case o85 =>
        rw [fw_461]
        exact hr_460.1
      case o86 =>
        rw [n_mh, fw_462, f_m_claims]
        refine (hx_HF_s hHF ?o87 hr_460.2)
        case o87 => omega
    refine hb_if_eq (zx := x_442.toInt) (tgt := 795) hx hb rfl dL_law_788 ?o88 (fun c_463 => ?_) (fun c_463 => ?_)
    case o88 => decide
    · skip
      refine lv_iconst (v := 0) hx hb dL_law_795 ?o89 ?_
      case o89 => decide
      have zj_796 : (0 : Int32).toInt = 0 := ?o90
      case o90 => decide
      refine jn_796 (0 : Int32) ls ?o91 ?o92 ?o93 hl
      case o91 => decide
      case o92 => decide
      case o93 => omega
    · skip
      refine lv_iconst (v := 1) hx hb dL_law_791 ?o94 ?_
      case o94 => decide
      refine lv_goto (tgt := 796) hx hb dL_law_792 ?o95 ?_
      case o95 => decide
      have zj_796 : (1 : Int32).toInt = 1 := ?o96
      case o96 => decide
      refine jn_796 (1 : Int32) ls ?o97 ?o98 ?o99 hl
      case o97 => decide
      case o98 => decide
      case o99 => omega
  refine hb_if_eq (zx := x_442.toInt) (tgt := 772) hx hb rfl dL_law_765 ?o100 (fun c_464 => ?_) (fun c_464 => ?_)
  case o100 => decide
  · skip
    refine lv_iconst (v := 0) hx hb dL_law_772 ?o101 ?_
    case o101 => decide
    have zj_773 : (0 : Int32).toInt = 0 := ?o102
    case o102 => decide
    refine jn_773 (0 : Int32) ls ?o103 ?o104 ?o105 hl
    case o103 => decide
    case o104 => decide
    case o105 => omega
  · skip
    refine lv_iconst (v := 1) hx hb dL_law_768 ?o106 ?_
    case o106 => decide
    refine lv_goto (tgt := 773) hx hb dL_law_769 ?o107 ?_
    case o107 => decide
    have zj_773 : (1 : Int32).toInt = 1 := ?o108
    case o108 => decide
    refine jn_773 (1 : Int32) ls ?o109 ?o110 ?o111 hl
    case o109 => decide
    case o110 => decide
    case o111 => omega

set_option maxHeartbeats 4000000 in
set_option maxRecDepth 100000 in
theorem law_case_13 {p : Program} {e : Env} {s : State} {m : MethodId} {below : List Frame} {meth : Method} {c : Code} (l : Launch) {b LN : Nat} {xs : Nat → Int32} (hx : p.tables.exec = Jvm.exec) (hb : c.code = code) (hr : meth.sig.returnType = ret) (hlocks : meth.locks = false) (hml : c.maxLocals = 4) (hown : s.vm.findClass "SmallCourtLaw" = some m.cls) (hts : ∀ w ∈ hx_all, w.before #[Value.ref b] s = true) (hX : va_X b LN xs s s.heap) (hbl : b < s.heap.size) (hbA : ¬ s.heap.size ≤ b) (hLN : LN ≤ 3584) (dC : Nat → ClassId) (dI : Nat → Nat → Nat) (dA : Nat → ClassId) (b0 : hx_z) (ax am : Nat) (T1 : Int) (hT0 : 0 ≤ T1) (hT1 : T1 ≤ 511) (i : Int32) (hi0 : 0 ≤ i.toInt) (hiL : i.toInt + 7 ≤ LN) (CC SS : Nat) (hCC : CC + 3 ≤ 600000) (hSS : SS + 179 ≤ 7302250) (L1 : List Nat) (hl1 : hx_h) (H : Heap) (locs : List Loc) (ls : Array Slot) (hW : hx_W T_tb (P_ty dA) (dC, dI) vwCl (fun q : Nat => s.heap.size ≤ q) s.heap L1 hl1 s H locs) (hZ : hx_Xt (fun q : Nat => s.heap.size ≤ q) b0 s) (hI : hx_IV T1 ax am L1 hl1) (hl : lv_has ls 4 [(3, .int i), (2, .ref am), (1, .ref ax), (0, .ref b)]) (kk : ∀ (L2 : List Nat) (h2 : hx_h) (H2 : Heap) (locs2 : List Loc) (ls2 : Array Slot), hx_W T_tb (P_ty dA) (dC, dI) vwCl (fun q : Nat => s.heap.size ≤ q) s.heap L2 h2 s H2 locs2 → hx_IV (T1 + 1) ax am L2 h2 → lv_has ls2 4 [(3, .int i), (2, .ref am), (1, .ref ax), (0, .ref b)] → W p l e room_1 s m #[Value.ref b] below meth c H2 locs2 (CC + 3) (SS + 179) (lw_Z below #[Value.ref b] s) (F0 m 1379 ls2 [])) : W p l e room_1 s m #[Value.ref b] below meth c H locs CC SS (lw_Z below #[Value.ref b] s) (F0 m 803 ls []) := by
  have hI9 := hI
  have hT := hI9.1
  replace hI9 := hI9.2
  have gx := hI9.1
  replace hI9 := hI9.2
  have gm := hI9.1
  replace hI9 := hI9.2
  have zq0_3 := hI9.1
  have he_nw := zq0_3.1
  replace zq0_3 := zq0_3.2
  have he_np := zq0_3.1
  replace zq0_3 := zq0_3.2
  have he_c0 := zq0_3.1
  replace zq0_3 := zq0_3.2
  have he_tl := zq0_3.1
  replace zq0_3 := zq0_3.2
  have he_a0 := zq0_3.1
  replace zq0_3 := zq0_3.2
  have he_m0 := zq0_3.1
  replace zq0_3 := zq0_3.2
  have ho_ln := zq0_3.1
  replace zq0_3 := zq0_3.2
  have ho_lsd := zq0_3.1
  replace zq0_3 := zq0_3.2
  have ho_wkm := zq0_3.1
  replace zq0_3 := zq0_3.2
  have ho_py := zq0_3.1
  replace zq0_3 := zq0_3.2
  have hn_qp := zq0_3.1
  replace zq0_3 := zq0_3.2
  have hn_qc := zq0_3.1
  replace zq0_3 := zq0_3.2
  have hk_of := zq0_3.1
  replace zq0_3 := zq0_3.2
  have hk_wf := zq0_3.1
  replace zq0_3 := zq0_3.2
  have hk_df := zq0_3.1
  replace zq0_3 := zq0_3.2
  have hk_kf := zq0_3.1
  replace zq0_3 := zq0_3.2
  have hk_sf := zq0_3.1
  replace zq0_3 := zq0_3.2
  have hkBD := zq0_3.1
  replace zq0_3 := zq0_3.2
  have hLQ := zq0_3.1
  replace zq0_3 := zq0_3.2
  have hLE := zq0_3.1
  replace zq0_3 := zq0_3.2
  have hkWD := zq0_3.1
  replace zq0_3 := zq0_3.2
  have hkDF := zq0_3.1
  replace zq0_3 := zq0_3.2
  have hkTP := zq0_3.1
  replace zq0_3 := zq0_3.2
  have hkAC := zq0_3.1
  replace zq0_3 := zq0_3.2
  have hkDP := zq0_3.1
  replace zq0_3 := zq0_3.2
  have hkHL := zq0_3.1
  replace zq0_3 := zq0_3.2
  have hkHO := zq0_3.1
  replace zq0_3 := zq0_3.2
  have hkFX := zq0_3.1
  replace zq0_3 := zq0_3.2
  have hkBX := zq0_3.1
  replace zq0_3 := zq0_3.2
  have hf_bor := zq0_3.1
  replace zq0_3 := zq0_3.2
  have hf_kin := zq0_3.1
  replace zq0_3 := zq0_3.2
  have hf_sum := zq0_3.1
  replace zq0_3 := zq0_3.2
  have hf_fro := zq0_3.1
  replace zq0_3 := zq0_3.2
  have hf_fil := zq0_3.1
  replace zq0_3 := zq0_3.2
  have hf_hea := zq0_3.1
  replace zq0_3 := zq0_3.2
  have hf_jud := zq0_3.1
  replace zq0_3 := zq0_3.2
  have hf_ear := zq0_3.1
  replace zq0_3 := zq0_3.2
  have hf_hds := zq0_3.1
  replace zq0_3 := zq0_3.2
  have hf_ord := zq0_3.1
  replace zq0_3 := zq0_3.2
  have hf_wkl := zq0_3.1
  replace zq0_3 := zq0_3.2
  have hf_owd := zq0_3.1
  replace zq0_3 := zq0_3.2
  have hf_gds := zq0_3.1
  replace zq0_3 := zq0_3.2
  have hf_szd := zq0_3.1
  replace zq0_3 := zq0_3.2
  have hf_srv := zq0_3.1
  replace zq0_3 := zq0_3.2
  have hkP0 := zq0_3.1
  replace zq0_3 := zq0_3.2
  have hkP1 := zq0_3.1
  replace zq0_3 := zq0_3.2
  have hkP2 := zq0_3.1
  replace zq0_3 := zq0_3.2
  have hkP3 := zq0_3.1
  replace zq0_3 := zq0_3.2
  have hkP4 := zq0_3.1
  replace zq0_3 := zq0_3.2
  have hkNQ := zq0_3.1
  replace zq0_3 := zq0_3.2
  have hkRL := zq0_3.1
  replace zq0_3 := zq0_3.2
  have hc_dead := zq0_3.1
  replace zq0_3 := zq0_3.2
  have hc_isj := zq0_3.1
  replace zq0_3 := zq0_3.2
  have hc_dox := zq0_3.1
  replace zq0_3 := zq0_3.2
  have hc_doy := zq0_3.1
  replace zq0_3 := zq0_3.2
  have hc_fou := zq0_3.1
  replace zq0_3 := zq0_3.2
  have hc_tri := zq0_3.1
  replace zq0_3 := zq0_3.2
  replace hI9 := hI9.2
  have zq0_4 := hI9.1
  have ia := zq0_4.1
  replace zq0_4 := zq0_4.2
  have ip := zq0_4.1
  replace zq0_4 := zq0_4.2
  have ic := zq0_4.1
  replace zq0_4 := zq0_4.2
  have ih := zq0_4.1
  replace zq0_4 := zq0_4.2
  have il := zq0_4
  replace hI9 := hI9.2
  have zq0_5 := hI9
  have jw := zq0_5.1
  replace zq0_5 := zq0_5.2
  have jr := zq0_5.1
  replace zq0_5 := zq0_5.2
  have jp := zq0_5.1
  replace zq0_5 := zq0_5.2
  have jl := zq0_5.1
  replace zq0_5 := zq0_5.2
  have jh := zq0_5.1
  replace zq0_5 := zq0_5.2
  have jt := zq0_5.1
  replace zq0_5 := zq0_5.2
  have jf := zq0_5
  obtain ⟨qa, f_qa, g_qa⟩ := hx_rf hT gx tt_9 (k := 5) (u := 43) rfl
  have pf_qa := ia qa f_qa
  obtain ⟨qp, f_qp, g_qp⟩ := hx_rf hT gx tt_9 (k := 7) (u := 44) rfl
  have pf_qp := ip qp f_qp
  obtain ⟨qc, f_qc, g_qc⟩ := hx_rf hT gx tt_9 (k := 10) (u := 45) rfl
  have pf_qc := ic qc f_qc
  obtain ⟨qh, f_qh, g_qh⟩ := hx_rf hT gx tt_9 (k := 12) (u := 46) rfl
  have pf_qh := ih qh f_qh
  obtain ⟨qw, f_qw, g_qw⟩ := hx_rf hT gx tt_9 (k := 19) (u := 8) rfl
  obtain ⟨ql, f_ql, g_ql⟩ := hx_rf hT g_qw tt_8 (k := 3) (u := 40) rfl
  have pf_ql := il qw ql f_qw f_ql
  obtain ⟨nw, f_m_now⟩ : ∃ y : Int32, hl1.2.1 am 0 = y := ⟨_, rfl⟩
  have b_nw := hT.gi gm tt_10 (k := 0) rfl
  rw [f_m_now] at b_nw
  have b_nw : 0 ≤ nw.toInt ∧ nw.toInt ≤ 7999 := b_nw
  obtain ⟨np, f_m_persons⟩ : ∃ y : Int32, hl1.2.1 am 20 = y := ⟨_, rfl⟩
  have b_np := hT.gi gm tt_10 (k := 20) rfl
  rw [f_m_persons] at b_np
  have b_np : 0 ≤ np.toInt ∧ np.toInt ≤ 40 := b_np
  obtain ⟨c0, f_m_claims⟩ : ∃ y : Int32, hl1.2.1 am 36 = y := ⟨_, rfl⟩
  have b_c0 := hT.gi gm tt_10 (k := 36) rfl
  rw [f_m_claims] at b_c0
  have b_c0 : 0 ≤ c0.toInt ∧ c0.toInt ≤ 100 := b_c0
  obtain ⟨tl, f_m_taped⟩ : ∃ y : Int32, hl1.2.1 am 7 = y := ⟨_, rfl⟩
  have b_tl := hT.gi gm tt_10 (k := 7) rfl
  rw [f_m_taped] at b_tl
  have b_tl : 0 ≤ tl.toInt ∧ tl.toInt ≤ 400 := b_tl
  obtain ⟨a0, f_m_acts⟩ : ∃ y : Int32, hl1.2.1 am 1 = y := ⟨_, rfl⟩
  have b_a0 := hT.gi gm tt_10 (k := 1) rfl
  rw [f_m_acts] at b_a0
  have b_a0 : 0 ≤ a0.toInt ∧ a0.toInt ≤ 8 := b_a0
  obtain ⟨m0, f_m_heardMany⟩ : ∃ y : Int32, hl1.2.1 am 57 = y := ⟨_, rfl⟩
  have b_m0 := hT.gi gm tt_10 (k := 57) rfl
  rw [f_m_heardMany] at b_m0
  have b_m0 : 0 ≤ m0.toInt ∧ m0.toInt ≤ 100 := b_m0
  obtain ⟨ln, f_m_lines⟩ : ∃ y : Int32, hl1.2.1 am 29 = y := ⟨_, rfl⟩
  have b_ln := hT.gi gm tt_10 (k := 29) rfl
  rw [f_m_lines] at b_ln
  have b_ln : 0 ≤ ln.toInt ∧ ln.toInt ≤ 400 := b_ln
  obtain ⟨lsd, f_m_listed⟩ : ∃ y : Int32, hl1.2.1 am 90 = y := ⟨_, rfl⟩
  have b_lsd := hT.gi gm tt_10 (k := 90) rfl
  rw [f_m_listed] at b_lsd
  have b_lsd : 0 ≤ lsd.toInt ∧ lsd.toInt ≤ 8 := b_lsd
  obtain ⟨wkm, f_m_walkedMany⟩ : ∃ y : Int32, hl1.2.1 am 92 = y := ⟨_, rfl⟩
  have b_wkm := hT.gi gm tt_10 (k := 92) rfl
  rw [f_m_walkedMany] at b_wkm
  have b_wkm : 0 ≤ wkm.toInt ∧ wkm.toInt ≤ 8 := b_wkm
  obtain ⟨py, f_m_payments⟩ : ∃ y : Int32, hl1.2.1 am 59 = y := ⟨_, rfl⟩
  have b_py := hT.gi gm tt_10 (k := 59) rfl
  rw [f_m_payments] at b_py
  have b_py : 0 ≤ py.toInt ∧ py.toInt ≤ 600 := b_py
  have f_x_now : hl1.2.1 ax 2 = nw := he_nw.trans f_m_now
  have f_x_personCount : hl1.2.1 ax 8 = np := he_np.trans f_m_persons
  have f_x_claimCount : hl1.2.1 ax 11 = c0 := he_c0.trans f_m_claims
  have f_x_tapeLength : hl1.2.1 ax 1 = tl := he_tl.trans f_m_taped
  have f_x_actCount : hl1.2.1 ax 6 = a0 := he_a0.trans f_m_acts
  have f_x_heardCount : hl1.2.1 ax 13 = m0 := he_m0.trans f_m_heardMany
  obtain ⟨mw, f_mw, g_mw⟩ := hx_rf hT gm tt_10 (k := 19) (u := 57) rfl
  obtain ⟨F_mw, n_mw⟩ : ∃ g : Nat → Int32, hl1.2.1 mw = g := ⟨_, rfl⟩
  obtain ⟨mr, f_mr, g_mr⟩ := hx_rf hT gm tt_10 (k := 3) (u := 50) rfl
  obtain ⟨F_mr, n_mr⟩ : ∃ g : Nat → Int32, hl1.2.1 mr = g := ⟨_, rfl⟩
  obtain ⟨mp, f_mp, g_mp⟩ := hx_rf hT gm tt_10 (k := 5) (u := 52) rfl
  obtain ⟨F_mp, n_mp⟩ : ∃ g : Nat → Int32, hl1.2.1 mp = g := ⟨_, rfl⟩
  obtain ⟨mn, f_mn, g_mn⟩ := hx_rf hT gm tt_10 (k := 4) (u := 51) rfl
  obtain ⟨F_mn, n_mn⟩ : ∃ g : Nat → Int32, hl1.2.1 mn = g := ⟨_, rfl⟩
  obtain ⟨ml, f_ml, g_ml⟩ := hx_rf hT gm tt_10 (k := 44) (u := 79) rfl
  obtain ⟨F_ml, n_ml⟩ : ∃ g : Nat → Int32, hl1.2.1 ml = g := ⟨_, rfl⟩
  obtain ⟨mh, f_mh, g_mh⟩ := hx_rf hT gm tt_10 (k := 47) (u := 82) rfl
  obtain ⟨F_mh, n_mh⟩ : ∃ g : Nat → Int32, hl1.2.1 mh = g := ⟨_, rfl⟩
  obtain ⟨mt, f_mt, g_mt⟩ := hx_rf hT gm tt_10 (k := 45) (u := 80) rfl
  obtain ⟨F_mt, n_mt⟩ : ∃ g : Nat → Int32, hl1.2.1 mt = g := ⟨_, rfl⟩
  obtain ⟨m_fou, f_m_fou, g_m_fou⟩ := hx_rf hT gm tt_10 (k := 46) (u := 81) rfl
  obtain ⟨F_m_fou, n_m_fou⟩ : ∃ g : Nat → Int32, hl1.2.1 m_fou = g := ⟨_, rfl⟩
  obtain ⟨qo_ln, f_qo_ln, g_qo_ln⟩ := hx_rf hT gx tt_9 (k := 9) (u := 1) rfl
  have f_o_ln : hl1.2.1 qo_ln 0 = ln := (ho_ln qo_ln f_qo_ln).trans f_m_lines
  have f_o_lsd : hl1.2.1 qw 0 = lsd := (ho_lsd qw f_qw).trans f_m_listed
  have f_o_wkm : hl1.2.1 qw 1 = wkm := (ho_wkm qw f_qw).trans f_m_walkedMany
  obtain ⟨qo_py, f_qo_py, g_qo_py⟩ := hx_rf hT gx tt_9 (k := 14) (u := 3) rfl
  have f_o_py : hl1.2.1 qo_py 0 = py := (ho_py qo_py f_qo_py).trans f_m_payments
  have nu_qp := hn_qp qp f_qp; rw [f_x_personCount] at nu_qp
  have nu_qc := hn_qc qc f_qc; rw [f_x_claimCount] at nu_qc
  obtain ⟨b_of, f_b_of, g_b_of⟩ := hx_rf hT g_qo_ln tt_1 (k := 1) (u := 13) rfl
  obtain ⟨B_of, n_b_of⟩ : ∃ g : Nat → Int32, hl1.2.1 b_of = g := ⟨_, rfl⟩
  obtain ⟨m_of, f_m_of, g_m_of⟩ := hx_rf hT gm tt_10 (k := 30) (u := 66) rfl
  obtain ⟨F_of, n_m_of⟩ : ∃ g : Nat → Int32, hl1.2.1 m_of = g := ⟨_, rfl⟩
  have eb_of := hk_of qo_ln b_of m_of f_qo_ln f_b_of f_m_of; rw [n_b_of, n_m_of, f_o_ln] at eb_of
  obtain ⟨b_wf, f_b_wf, g_b_wf⟩ := hx_rf hT g_qo_ln tt_1 (k := 2) (u := 14) rfl
  obtain ⟨B_wf, n_b_wf⟩ : ∃ g : Nat → Int32, hl1.2.1 b_wf = g := ⟨_, rfl⟩
  obtain ⟨m_wf, f_m_wf, g_m_wf⟩ := hx_rf hT gm tt_10 (k := 31) (u := 67) rfl
  obtain ⟨F_wf, n_m_wf⟩ : ∃ g : Nat → Int32, hl1.2.1 m_wf = g := ⟨_, rfl⟩
  have eb_wf := hk_wf qo_ln b_wf m_wf f_qo_ln f_b_wf f_m_wf; rw [n_b_wf, n_m_wf, f_o_ln] at eb_wf
  obtain ⟨b_df, f_b_df, g_b_df⟩ := hx_rf hT g_qo_ln tt_1 (k := 3) (u := 15) rfl
  obtain ⟨B_df, n_b_df⟩ : ∃ g : Nat → Int32, hl1.2.1 b_df = g := ⟨_, rfl⟩
  obtain ⟨m_df, f_m_df, g_m_df⟩ := hx_rf hT gm tt_10 (k := 32) (u := 68) rfl
  obtain ⟨F_df, n_m_df⟩ : ∃ g : Nat → Int32, hl1.2.1 m_df = g := ⟨_, rfl⟩
  have eb_df := hk_df qo_ln b_df m_df f_qo_ln f_b_df f_m_df; rw [n_b_df, n_m_df, f_o_ln] at eb_df
  obtain ⟨b_kf, f_b_kf, g_b_kf⟩ := hx_rf hT g_qo_ln tt_1 (k := 4) (u := 16) rfl
  obtain ⟨B_kf, n_b_kf⟩ : ∃ g : Nat → Int32, hl1.2.1 b_kf = g := ⟨_, rfl⟩
  obtain ⟨m_kf, f_m_kf, g_m_kf⟩ := hx_rf hT gm tt_10 (k := 33) (u := 69) rfl
  obtain ⟨F_kf, n_m_kf⟩ : ∃ g : Nat → Int32, hl1.2.1 m_kf = g := ⟨_, rfl⟩
  have eb_kf := hk_kf qo_ln b_kf m_kf f_qo_ln f_b_kf f_m_kf; rw [n_b_kf, n_m_kf, f_o_ln] at eb_kf
  obtain ⟨b_sf, f_b_sf, g_b_sf⟩ := hx_rf hT g_qo_ln tt_1 (k := 5) (u := 17) rfl
  obtain ⟨B_sf, n_b_sf⟩ : ∃ g : Nat → Int32, hl1.2.1 b_sf = g := ⟨_, rfl⟩
  obtain ⟨m_sf, f_m_sf, g_m_sf⟩ := hx_rf hT gm tt_10 (k := 34) (u := 70) rfl
  obtain ⟨F_sf, n_m_sf⟩ : ∃ g : Nat → Int32, hl1.2.1 m_sf = g := ⟨_, rfl⟩
  have eb_sf := hk_sf qo_ln b_sf m_sf f_qo_ln f_b_sf f_m_sf; rw [n_b_sf, n_m_sf, f_o_ln] at eb_sf
  obtain ⟨b_bf, f_b_bf, g_b_bf⟩ := hx_rf hT g_qo_ln tt_1 (k := 6) (u := 18) rfl
  obtain ⟨bfL, n_b_bf⟩ : ∃ g : Nat → Int32, hl1.2.1 b_bf = g := ⟨_, rfl⟩
  obtain ⟨hBD, hDY⟩ := hkBD qo_ln b_df b_bf f_qo_ln f_b_df f_b_bf; rw [n_b_df, n_b_bf, f_o_ln] at hBD; rw [n_b_df, f_o_ln] at hDY
  have hBDm := hy_BD_c eb_df hBD
  have hDYm : hy_DY F_df ln.toInt.toNat := fun x hx => by rw [← eb_df x hx]; exact hDY x hx
  have sb_list := hLQ qw ql qc f_qw f_ql f_qc
  obtain ⟨m_lst, f_m_lst, g_m_lst⟩ := hx_rf hT gm tt_10 (k := 91) (u := 112) rfl
  obtain ⟨F_lst, n_lst⟩ : ∃ g : Nat → Int32, hl1.2.1 m_lst = g := ⟨_, rfl⟩
  obtain ⟨c_lst, cl_lst⟩ : ∃ g : Nat → Int32, hx_col 8 hl1 ql 0 = g := ⟨_, rfl⟩
  have eq_lst := hLE qw ql m_lst f_qw f_ql f_m_lst; rw [cl_lst, n_lst] at eq_lst
  obtain ⟨qtp, f_qtp, g_qtp⟩ := hx_rf hT gx tt_9 (k := 0) (u := 42) rfl
  obtain ⟨m_tp, f_m_tp, g_m_tp⟩ := hx_rf hT gm tt_10 (k := 6) (u := 53) rfl
  obtain ⟨F_tp, n_tp⟩ : ∃ g : Nat → Int32, hl1.2.1 m_tp = g := ⟨_, rfl⟩
  have n_qtp : hl1.2.1 qtp = F_tp := (hkTP qtp m_tp f_qtp f_m_tp).trans n_tp
  obtain ⟨c_dead, cl_dead⟩ : ∃ g : Nat → Int32, hx_col 40 hl1 qp 7 = g := ⟨_, rfl⟩
  obtain ⟨m_dead, f_m_dead, g_m_dead⟩ := hx_rf hT gm tt_10 (k := 27) (u := 64) rfl
  obtain ⟨F_dead, n_dead⟩ : ∃ g : Nat → Int32, hl1.2.1 m_dead = g := ⟨_, rfl⟩
  have eq_dead := hc_dead qp m_dead f_qp f_m_dead; rw [cl_dead, n_dead] at eq_dead
  have z_dead : np.toInt.toNat < 40 → c_dead np.toInt.toNat = 0 := fun hj => hx_num_z nu_qp cl_dead hj ?o0
  case o0 => omega
  obtain ⟨c_isj, cl_isj⟩ : ∃ g : Nat → Int32, hx_col 40 hl1 qp 8 = g := ⟨_, rfl⟩
  obtain ⟨m_isj, f_m_isj, g_m_isj⟩ := hx_rf hT gm tt_10 (k := 28) (u := 65) rfl
  obtain ⟨F_isj, n_isj⟩ : ∃ g : Nat → Int32, hl1.2.1 m_isj = g := ⟨_, rfl⟩
  have eq_isj := hc_isj qp m_isj f_qp f_m_isj; rw [cl_isj, n_isj] at eq_isj
  have z_isj : np.toInt.toNat < 40 → c_isj np.toInt.toNat = 0 := fun hj => hx_num_z nu_qp cl_isj hj ?o1
  case o1 => omega
  obtain ⟨c_dox, cl_dox⟩ : ∃ g : Nat → Int32, hx_col 40 hl1 qp 5 = g := ⟨_, rfl⟩
  obtain ⟨m_dox, f_m_dox, g_m_dox⟩ := hx_rf hT gm tt_10 (k := 24) (u := 61) rfl
  obtain ⟨F_dox, n_dox⟩ : ∃ g : Nat → Int32, hl1.2.1 m_dox = g := ⟨_, rfl⟩
  have eq_dox := hc_dox qp m_dox f_qp f_m_dox; rw [cl_dox, n_dox] at eq_dox
  have z_dox : np.toInt.toNat < 40 → c_dox np.toInt.toNat = 0 := fun hj => hx_num_z nu_qp cl_dox hj ?o2
  case o2 => omega
  obtain ⟨c_doy, cl_doy⟩ : ∃ g : Nat → Int32, hx_col 40 hl1 qp 6 = g := ⟨_, rfl⟩
  obtain ⟨m_doy, f_m_doy, g_m_doy⟩ := hx_rf hT gm tt_10 (k := 25) (u := 62) rfl
  obtain ⟨F_doy, n_doy⟩ : ∃ g : Nat → Int32, hl1.2.1 m_doy = g := ⟨_, rfl⟩
  have eq_doy := hc_doy qp m_doy f_qp f_m_doy; rw [cl_doy, n_doy] at eq_doy
  have z_doy : np.toInt.toNat < 40 → c_doy np.toInt.toNat = 0 := fun hj => hx_num_z nu_qp cl_doy hj ?o3
  case o3 => omega
  obtain ⟨c_fou, cl_fou⟩ : ∃ g : Nat → Int32, hx_col 100 hl1 qc 10 = g := ⟨_, rfl⟩
  have eq_fou := hc_fou qc m_fou f_qc f_m_fou; rw [cl_fou, n_m_fou] at eq_fou
  have z_fou : c0.toInt.toNat < 100 → c_fou c0.toInt.toNat = 0 := fun hj => hx_num_z nu_qc cl_fou hj ?o4
  case o4 => omega
  obtain ⟨c_tri, cl_tri⟩ : ∃ g : Nat → Int32, hx_col 100 hl1 qc 9 = g := ⟨_, rfl⟩
  have eq_tri := hc_tri qc mt f_qc f_mt; rw [cl_tri, n_mt] at eq_tri
  have z_tri : c0.toInt.toNat < 100 → c_tri c0.toInt.toNat = 0 := fun hj => hx_num_z nu_qc cl_tri hj ?o5
  case o5 => omega
  obtain ⟨qlt, f_qlt, g_qlt⟩ := hx_rf hT g_qw tt_8 (k := 2) (u := 39) rfl
  obtain ⟨qlf, f_qlf, g_qlf⟩ := hx_rf hT g_qw tt_8 (k := 4) (u := 41) rfl
  obtain ⟨m_wkd, f_m_wkd, g_m_wkd⟩ := hx_rf hT gm tt_10 (k := 93) (u := 113) rfl
  obtain ⟨F_qlt, n_qlt⟩ : ∃ g : Nat → Int32, hl1.2.1 qlt = g := ⟨_, rfl⟩
  obtain ⟨F_m_wkd, n_m_wkd⟩ : ∃ g : Nat → Int32, hl1.2.1 m_wkd = g := ⟨_, rfl⟩
  have eb_wkd := hkWD qw qlt m_wkd f_qw f_qlt f_m_wkd; rw [n_qlt, n_m_wkd, f_o_wkm] at eb_wkd
  obtain ⟨m_aga, f_m_aga, g_m_aga⟩ := hx_rf hT gm tt_10 (k := 38) (u := 73) rfl
  obtain ⟨F_aga, n_aga⟩ : ∃ g : Nat → Int32, hl1.2.1 m_aga = g := ⟨_, rfl⟩
  have hDF := hkDF qc qp m_aga f_qc f_qp f_m_aga; rw [n_aga, f_x_claimCount] at hDF
  obtain ⟨qwo, f_qwo, g_qwo⟩ := hx_rf hT gx tt_9 (k := 4) (u := 0) rfl
  obtain ⟨m_ad, f_m_ad, g_m_ad⟩ := hx_rf hT gm tt_10 (k := 2) (u := 49) rfl
  obtain ⟨F_ad, n_ad⟩ : ∃ g : Nat → Int32, hl1.2.1 m_ad = g := ⟨_, rfl⟩
  obtain ⟨A9, hRA9, hCA9, hAC9, hAB⟩ := hkAC qa qwo m_ad mr mn mp qc ml f_qa f_qwo f_m_ad f_mr f_mn f_mp f_qc f_ml
  rw [f_x_actCount] at hRA9; rw [f_x_actCount, n_ad, n_mr, n_mn, n_mp] at hCA9
  obtain ⟨m_by, f_m_by, g_m_by⟩ := hx_rf hT gm tt_10 (k := 37) (u := 72) rfl
  obtain ⟨F_by, n_by⟩ : ∃ g : Nat → Int32, hl1.2.1 m_by = g := ⟨_, rfl⟩
  obtain ⟨m_ho, f_m_ho, g_m_ho⟩ := hx_rf hT gm tt_10 (k := 58) (u := 92) rfl
  obtain ⟨F_ho, n_ho⟩ : ∃ g : Nat → Int32, hl1.2.1 m_ho = g := ⟨_, rfl⟩
  obtain ⟨m_fc, f_m_fc, g_m_fc⟩ := hx_rf hT gm tt_10 (k := 53) (u := 88) rfl
  obtain ⟨F_fc, n_fc⟩ : ∃ g : Nat → Int32, hl1.2.1 m_fc = g := ⟨_, rfl⟩
  obtain ⟨m_nt, f_m_nt, g_m_nt⟩ := hx_rf hT gm tt_10 (k := 41) (u := 76) rfl
  obtain ⟨F_nt, n_nt⟩ : ∃ g : Nat → Int32, hl1.2.1 m_nt = g := ⟨_, rfl⟩
  obtain ⟨m_wt, f_m_wt, g_m_wt⟩ := hx_rf hT gm tt_10 (k := 42) (u := 77) rfl
  obtain ⟨F_wt, n_wt⟩ : ∃ g : Nat → Int32, hl1.2.1 m_wt = g := ⟨_, rfl⟩
  obtain ⟨m_be, f_m_be, g_m_be⟩ := hx_rf hT gm tt_10 (k := 52) (u := 87) rfl
  obtain ⟨F_be, n_be⟩ : ∃ g : Nat → Int32, hl1.2.1 m_be = g := ⟨_, rfl⟩
  obtain ⟨m_bor, f_m_bor, g_m_bor⟩ := hx_rf hT gm tt_10 (k := 21) (u := 58) rfl
  obtain ⟨F_bor, n_bor⟩ : ∃ g : Nat → Int32, hl1.2.1 m_bor = g := ⟨_, rfl⟩
  obtain ⟨m_kin, f_m_kin, g_m_kin⟩ := hx_rf hT gm tt_10 (k := 26) (u := 63) rfl
  obtain ⟨F_kin, n_kin⟩ : ∃ g : Nat → Int32, hl1.2.1 m_kin = g := ⟨_, rfl⟩
  obtain ⟨m_sum, f_m_sum, g_m_sum⟩ := hx_rf hT gm tt_10 (k := 39) (u := 74) rfl
  obtain ⟨F_sum, n_sum⟩ : ∃ g : Nat → Int32, hl1.2.1 m_sum = g := ⟨_, rfl⟩
  obtain ⟨m_fro, f_m_fro, g_m_fro⟩ := hx_rf hT gm tt_10 (k := 40) (u := 75) rfl
  obtain ⟨F_fro, n_fro⟩ : ∃ g : Nat → Int32, hl1.2.1 m_fro = g := ⟨_, rfl⟩
  obtain ⟨m_fil, f_m_fil, g_m_fil⟩ := hx_rf hT gm tt_10 (k := 43) (u := 78) rfl
  obtain ⟨F_fil, n_fil⟩ : ∃ g : Nat → Int32, hl1.2.1 m_fil = g := ⟨_, rfl⟩
  obtain ⟨m_jud, f_m_jud, g_m_jud⟩ := hx_rf hT gm tt_10 (k := 51) (u := 86) rfl
  obtain ⟨F_jud, n_jud⟩ : ∃ g : Nat → Int32, hl1.2.1 m_jud = g := ⟨_, rfl⟩
  obtain ⟨m_ear, f_m_ear, g_m_ear⟩ := hx_rf hT gm tt_10 (k := 22) (u := 59) rfl
  obtain ⟨F_ear, n_ear⟩ : ∃ g : Nat → Int32, hl1.2.1 m_ear = g := ⟨_, rfl⟩
  obtain ⟨m_hds, f_m_hds, g_m_hds⟩ := hx_rf hT gm tt_10 (k := 23) (u := 60) rfl
  obtain ⟨F_hds, n_hds⟩ : ∃ g : Nat → Int32, hl1.2.1 m_hds = g := ⟨_, rfl⟩
  obtain ⟨m_ord, f_m_ord, g_m_ord⟩ := hx_rf hT gm tt_10 (k := 48) (u := 83) rfl
  obtain ⟨F_ord, n_ord⟩ : ∃ g : Nat → Int32, hl1.2.1 m_ord = g := ⟨_, rfl⟩
  obtain ⟨m_wkl, f_m_wkl, g_m_wkl⟩ := hx_rf hT gm tt_10 (k := 54) (u := 89) rfl
  obtain ⟨F_wkl, n_wkl⟩ : ∃ g : Nat → Int32, hl1.2.1 m_wkl = g := ⟨_, rfl⟩
  obtain ⟨m_owd, f_m_owd, g_m_owd⟩ := hx_rf hT gm tt_10 (k := 55) (u := 90) rfl
  obtain ⟨F_owd, n_owd⟩ : ∃ g : Nat → Int32, hl1.2.1 m_owd = g := ⟨_, rfl⟩
  obtain ⟨m_gds, f_m_gds, g_m_gds⟩ := hx_rf hT gm tt_10 (k := 56) (u := 91) rfl
  obtain ⟨F_gds, n_gds⟩ : ∃ g : Nat → Int32, hl1.2.1 m_gds = g := ⟨_, rfl⟩
  obtain ⟨m_szd, f_m_szd, g_m_szd⟩ := hx_rf hT gm tt_10 (k := 49) (u := 84) rfl
  obtain ⟨F_szd, n_szd⟩ : ∃ g : Nat → Int32, hl1.2.1 m_szd = g := ⟨_, rfl⟩
  obtain ⟨m_srv, f_m_srv, g_m_srv⟩ := hx_rf hT gm tt_10 (k := 50) (u := 85) rfl
  obtain ⟨F_srv, n_srv⟩ : ∃ g : Nat → Int32, hl1.2.1 m_srv = g := ⟨_, rfl⟩
  have cl_bor : hx_col 40 hl1 qp 1 = F_bor := (hf_bor qp m_bor f_qp f_m_bor).trans n_bor
  have cl_kin : hx_col 40 hl1 qp 2 = F_kin := (hf_kin qp m_kin f_qp f_m_kin).trans n_kin
  have cl_sum : hx_col 100 hl1 qc 6 = F_sum := (hf_sum qc m_sum f_qc f_m_sum).trans n_sum
  have cl_fro : hx_col 100 hl1 qc 7 = F_fro := (hf_fro qc m_fro f_qc f_m_fro).trans n_fro
  have cl_fil : hx_col 100 hl1 qc 8 = F_fil := (hf_fil qc m_fil f_qc f_m_fil).trans n_fil
  have cl_hea : hx_col 100 hl1 qc 11 = F_mh := (hf_hea qc mh f_qc f_mh).trans n_mh
  have cl_jud : hx_col 100 hl1 qc 12 = F_jud := (hf_jud qc m_jud f_qc f_m_jud).trans n_jud
  have cl_ear : hx_col 40 hl1 qp 3 = F_ear := (hf_ear qp m_ear f_qp f_m_ear).trans n_ear
  have cl_hds : hx_col 40 hl1 qp 4 = F_hds := (hf_hds qp m_hds f_qp f_m_hds).trans n_hds
  have cl_ord : hx_col 100 hl1 qc 13 = F_ord := (hf_ord qc m_ord f_qc f_m_ord).trans n_ord
  have cl_wkl : hx_col 100 hl1 qc 14 = F_wkl := (hf_wkl qc m_wkl f_qc f_m_wkl).trans n_wkl
  have cl_owd : hx_col 100 hl1 qc 15 = F_owd := (hf_owd qc m_owd f_qc f_m_owd).trans n_owd
  have cl_gds : hx_col 100 hl1 qc 17 = F_gds := (hf_gds qc m_gds f_qc f_m_gds).trans n_gds
  have cl_szd : hx_col 100 hl1 qc 16 = F_szd := (hf_szd qc m_szd f_qc f_m_szd).trans n_szd
  have cl_srv : hx_col 100 hl1 qc 18 = F_srv := (hf_srv qc m_srv f_qc f_m_srv).trans n_srv
  have htb9 : ∀ c, c < 100 → 0 ≤ (c_tri c).toInt ∧ (c_tri c).toInt ≤ 512 := fun c hc => by rw [eq_tri c hc]; have w := hT.ei g_mt tt_80 (k := c) hc; rw [n_mt] at w; exact w
  have z_jud : F_jud c0.toInt.toNat = 0 := hx_num_z2 nu_qc cl_jud ?o6
  case o6 => omega
  have hDP := hkDP qc qp m_by f_qc f_qp f_m_by; rw [n_by, f_x_claimCount] at hDP
  have hHL := hkHL qh qc m_ho f_qh f_qc f_m_ho; rw [n_ho, f_x_heardCount, f_x_claimCount] at hHL
  have hHO9 := hkHO m_ho mh f_m_ho f_mh; rw [n_ho, n_mh, f_m_heardMany, f_m_claims] at hHO9
  obtain ⟨cF9L, hFX, hFR9⟩ := hkFX qc m_fc m_nt m_wt m_sum mh f_qc f_m_fc f_m_nt f_m_wt f_m_sum f_mh; rw [f_x_claimCount] at hFX; rw [n_fc, n_nt, n_wt, n_sum, n_mh, f_x_claimCount] at hFR9
  have hBX := hkBX qc m_be f_qc f_m_be; rw [n_be, f_x_claimCount] at hBX
  rw [n_ml, f_x_claimCount] at hAC9
  obtain ⟨y_p0, f_y_p0, g_y_p0⟩ := hx_rf hT g_qo_py tt_3 (k := 2) (u := 23) rfl
  obtain ⟨m_p0, f_m_p0, g_m_p0⟩ := hx_rf hT gm tt_10 (k := 60) (u := 93) rfl
  obtain ⟨F_p0, n_p0⟩ : ∃ g : Nat → Int32, hl1.2.1 m_p0 = g := ⟨_, rfl⟩
  have n_y_p0 : hl1.2.1 y_p0 = F_p0 := (hkP0 qo_py y_p0 m_p0 f_qo_py f_y_p0 f_m_p0).trans n_p0
  obtain ⟨y_p1, f_y_p1, g_y_p1⟩ := hx_rf hT g_qo_py tt_3 (k := 3) (u := 24) rfl
  obtain ⟨m_p1, f_m_p1, g_m_p1⟩ := hx_rf hT gm tt_10 (k := 61) (u := 94) rfl
  obtain ⟨F_p1, n_p1⟩ : ∃ g : Nat → Int32, hl1.2.1 m_p1 = g := ⟨_, rfl⟩
  have n_y_p1 : hl1.2.1 y_p1 = F_p1 := (hkP1 qo_py y_p1 m_p1 f_qo_py f_y_p1 f_m_p1).trans n_p1
  obtain ⟨y_p2, f_y_p2, g_y_p2⟩ := hx_rf hT g_qo_py tt_3 (k := 5) (u := 26) rfl
  obtain ⟨m_p2, f_m_p2, g_m_p2⟩ := hx_rf hT gm tt_10 (k := 62) (u := 95) rfl
  obtain ⟨F_p2, n_p2⟩ : ∃ g : Nat → Int32, hl1.2.1 m_p2 = g := ⟨_, rfl⟩
  have n_y_p2 : hl1.2.1 y_p2 = F_p2 := (hkP2 qo_py y_p2 m_p2 f_qo_py f_y_p2 f_m_p2).trans n_p2
  obtain ⟨y_p3, f_y_p3, g_y_p3⟩ := hx_rf hT g_qo_py tt_3 (k := 4) (u := 25) rfl
  obtain ⟨m_p3, f_m_p3, g_m_p3⟩ := hx_rf hT gm tt_10 (k := 63) (u := 96) rfl
  obtain ⟨F_p3, n_p3⟩ : ∃ g : Nat → Int32, hl1.2.1 m_p3 = g := ⟨_, rfl⟩
  have n_y_p3 : hl1.2.1 y_p3 = F_p3 := (hkP3 qo_py y_p3 m_p3 f_qo_py f_y_p3 f_m_p3).trans n_p3
  obtain ⟨y_p4, f_y_p4, g_y_p4⟩ := hx_rf hT g_qo_py tt_3 (k := 1) (u := 22) rfl
  obtain ⟨m_p4, f_m_p4, g_m_p4⟩ := hx_rf hT gm tt_10 (k := 64) (u := 97) rfl
  obtain ⟨F_p4, n_p4⟩ : ∃ g : Nat → Int32, hl1.2.1 m_p4 = g := ⟨_, rfl⟩
  have n_y_p4 : hl1.2.1 y_p4 = F_p4 := (hkP4 qo_py y_p4 m_p4 f_qo_py f_y_p4 f_m_p4).trans n_p4
  obtain ⟨qrg9, f_qrg9, g_qrg9⟩ := hx_rf hT gx tt_9 (k := 18) (u := 7) rfl
  obtain ⟨y_ls, f_y_ls, g_y_ls⟩ := hx_rf hT g_qrg9 tt_7 (k := 3) (u := 35) rfl
  obtain ⟨m_rl, f_m_rl, g_m_rl⟩ := hx_rf hT gm tt_10 (k := 85) (u := 109) rfl
  obtain ⟨F_y_ls, n_y_ls⟩ : ∃ g : Nat → Int32, hl1.2.1 y_ls = g := ⟨_, rfl⟩
  obtain ⟨F_m_rl, n_m_rl⟩ : ∃ g : Nat → Int32, hl1.2.1 m_rl = g := ⟨_, rfl⟩
  obtain ⟨fv_465, efv_465⟩ : ∃ y : Int32, y = hl1.2.1 qrg9 0 := ⟨_, rfl⟩
  have bfv_465 := hT.gi g_qrg9 tt_7 (k := 0) rfl
  rw [← efv_465] at bfv_465
  have bfv_465 : -1 ≤ fv_465.toInt ∧ fv_465.toInt ≤ 100 := bfv_465
  have ffv_465 := efv_465.symm
  obtain ⟨fv_466, efv_466⟩ : ∃ y : Int32, y = hl1.2.1 am 83 := ⟨_, rfl⟩
  have bfv_466 := hT.gi gm tt_10 (k := 83) rfl
  rw [← efv_466] at bfv_466
  have bfv_466 : 0 ≤ fv_466.toInt ∧ fv_466.toInt ≤ 1 := bfv_466
  have ffv_466 := efv_466.symm
  obtain ⟨fv_467, efv_467⟩ : ∃ y : Int32, y = hl1.2.1 am 84 := ⟨_, rfl⟩
  have bfv_467 := hT.gi gm tt_10 (k := 84) rfl
  rw [← efv_467] at bfv_467
  have bfv_467 : 0 ≤ fv_467.toInt ∧ fv_467.toInt ≤ 300 := bfv_467
  have ffv_467 := efv_467.symm
  have hNQ9 := hkNQ qrg9 f_qrg9; rw [ffv_465, ffv_466, ffv_467] at hNQ9
  have hRL9 := hkRL qrg9 y_ls m_rl f_qrg9 f_y_ls f_m_rl; rw [n_y_ls, n_m_rl, ffv_465] at hRL9
  have hCB : hz_CB F_ord F_wkl F_owd F_szd F_gds F_srv := fun c hc => ⟨by have w := hT.ei g_m_ord tt_83 (k := c) (by omega); rw [n_ord] at w; exact w, by have w := hT.ei g_m_wkl tt_89 (k := c) (by omega); rw [n_wkl] at w; exact w, by have w := hT.ei g_m_owd tt_90 (k := c) (by omega); rw [n_owd] at w; exact w, by have w := hT.ei g_m_szd tt_84 (k := c) (by omega); rw [n_szd] at w; exact w, by have w := hT.ei g_m_gds tt_91 (k := c) (by omega); rw [n_gds] at w; exact w, by have w := hT.ei g_m_srv tt_85 (k := c) (by omega); rw [n_srv] at w; exact w⟩
  have hps : ∀ j, j < 600 → 0 ≤ (F_p2 j).toInt ∧ (F_p2 j).toInt ≤ 610000 := fun j hj => by have w := hT.ei g_m_p2 tt_95 (k := j) (by omega); rw [n_p2] at w; exact w
  have hte9 : ∀ c : Nat, c < 100 → (0 ≤ (c_tri c).toInt ∧ (c_tri c).toInt ≤ 512) ∧ (0 ≤ (F_sum c).toInt ∧ (F_sum c).toInt ≤ 9999) := fun c hc => ⟨htb9 c hc, by have w := hT.ei g_m_sum tt_74 (k := c) (by omega); rw [n_sum] at w; exact w⟩
  have hee9 : ∀ c : Nat, c < 40 → (0 ≤ (F_ear c).toInt ∧ (F_ear c).toInt ≤ 9999) ∧ (0 ≤ (F_hds c).toInt ∧ (F_hds c).toInt ≤ 20) := fun c hc => ⟨by have w := hT.ei g_m_ear tt_59 (k := c) (by omega); rw [n_ear] at w; exact w, by have w := hT.ei g_m_hds tt_60 (k := c) (by omega); rw [n_hds] at w; exact w⟩
  have bAG9 : ∀ k, k < 100 → 0 ≤ (F_aga k).toInt ∧ (F_aga k).toInt ≤ 39 := fun k hk => by have w := hT.ei g_m_aga tt_73 (k := k) (by omega); rw [n_aga] at w; exact w
  have bBY9 : ∀ k, k < 100 → 0 ≤ (F_by k).toInt ∧ (F_by k).toInt ≤ 39 := fun k hk => by have w := hT.ei g_m_by tt_72 (k := k) (by omega); rw [n_by] at w; exact w
  have hag9 : ∀ c, c < c0.toInt.toNat → 0 ≤ (F_aga c).toInt ∧ (F_aga c).toInt < 40 ∧ 0 ≤ (F_by c).toInt ∧ (F_by c).toInt < 40 := fun c hc => by have a9 := bAG9 c (by omega); have b9 := bBY9 c (by omega); omega
  have z_wkl : F_wkl c0.toInt.toNat = 0 := hx_num_z2 nu_qc cl_wkl ?o7
  case o7 => omega
  have z_owd : F_owd c0.toInt.toNat = 0 := hx_num_z2 nu_qc cl_owd ?o8
  case o8 => omega
  have z_gds : F_gds c0.toInt.toNat = 0 := hx_num_z2 nu_qc cl_gds ?o9
  case o9 => omega
  have hwd := jw mw f_mw; rw [n_mw] at hwd
  have hWK := jr mr f_mr; rw [n_mr, f_m_acts] at hWK
  have hRP := jp mp mn f_mp f_mn; rw [n_mp, n_mn, f_m_acts] at hRP
  have hPL := jl ml f_ml; rw [n_ml, f_m_claims, f_m_acts] at hPL
  have hHC := jh mh f_mh; rw [n_mh, f_m_heardMany, f_m_claims] at hHC
  have hTR := jt mt f_mt; rw [n_mt] at hTR
  have hHF := jf mh m_fou f_mh f_m_fou; rw [n_mh, n_m_fou, f_m_claims] at hHF
  refine lv_aload_n hx hb dL_law_803 rfl (lv_at hl 2 rfl) ?_
  refine lv_aload_n hx hb dL_law_804 rfl (lv_at hl 3 rfl) ?_
  refine lv_iload_n hx hb dL_law_805 rfl (lv_at hl 0 rfl) ?_
  refine lv_iconst (v := 1) hx hb dL_law_806 ?o10 ?_
  case o10 => decide
  refine lv_iadd hx hb dL_law_807 ?_
  have rg_468 := i32_r i
  refine lv_topi (fun x_469 ex_469 => ?_)
  have zx_469 : x_469.toInt = i.toInt + 1 := ?o11
  case o11 =>
    rw [ex_469]
    refine i32_add rfl ?o12 ?o13 ?o14
    case o12 => decide
    case o13 => omega
    case o14 => omega
  refine va_sld hx hb hX hbl hbA hW.2.2.2.1 (vp_in_iff.mpr ⟨?o15, ?o16⟩) dL_law_808 ?_
  case o15 => omega
  case o16 => omega
  refine lv_topi (fun x_470 ex_470 => ?_)
  refine lv_aload_n hx hb dL_law_809 rfl (lv_at hl 3 rfl) ?_
  refine lv_iload_n hx hb dL_law_810 rfl (lv_at hl 0 rfl) ?_
  refine lv_iconst (v := 2) hx hb dL_law_811 ?o17 ?_
  case o17 => decide
  refine lv_iadd hx hb dL_law_812 ?_
  refine lv_topi (fun x_471 ex_471 => ?_)
  have zx_471 : x_471.toInt = i.toInt + 2 := ?o18
  case o18 =>
    rw [ex_471]
    refine i32_add rfl ?o19 ?o20 ?o21
    case o19 => decide
    case o20 => omega
    case o21 => omega
  refine va_sld hx hb hX hbl hbA hW.2.2.2.1 (vp_in_iff.mpr ⟨?o22, ?o23⟩) dL_law_813 ?_
  case o22 => omega
  case o23 => omega
  refine lv_topi (fun x_472 ex_472 => ?_)
  have jn_822 : ∀ (xj_473 : Int32) (ls : Array Slot), 0 ≤ xj_473.toInt → xj_473.toInt ≤ 1 → (x_472.toInt = 0 ∧ xj_473.toInt = 0) ∨ (x_472.toInt ≠ 0 ∧ xj_473.toInt = 1) → lv_has ls 4 [(3, .int i), (2, .ref am), (1, .ref ax), (0, .ref b)] → W p l e room_1 s m #[Value.ref b] below meth c H locs (CC) (SS) (lw_Z below #[Value.ref b] s) (F0 m 822 ls [.int xj_473, .int x_470, .ref ax]) := by
    intro xj_473 ls blxj_473 buxj_473 jcxj_473 hl
    refine lv_aload_n hx hb dL_law_822 rfl (lv_at hl 3 rfl) ?_
    refine lv_iload_n hx hb dL_law_823 rfl (lv_at hl 0 rfl) ?_
    refine lv_iconst (v := 3) hx hb dL_law_824 ?o24 ?_
    case o24 => decide
    refine lv_iadd hx hb dL_law_825 ?_
    refine lv_topi (fun x_474 ex_474 => ?_)
    have zx_474 : x_474.toInt = i.toInt + 3 := ?o25
    case o25 =>
      rw [ex_474]
      refine i32_add rfl ?o26 ?o27 ?o28
      case o26 => decide
      case o27 => omega
      case o28 => omega
    refine va_sld hx hb hX hbl hbA hW.2.2.2.1 (vp_in_iff.mpr ⟨?o29, ?o30⟩) dL_law_826 ?_
    case o29 => omega
    case o30 => omega
    refine lv_topi (fun x_475 ex_475 => ?_)
    have jn_835 : ∀ (xj_476 : Int32) (ls : Array Slot), 0 ≤ xj_476.toInt → xj_476.toInt ≤ 1 → (x_475.toInt = 0 ∧ xj_476.toInt = 0) ∨ (x_475.toInt ≠ 0 ∧ xj_476.toInt = 1) → lv_has ls 4 [(3, .int i), (2, .ref am), (1, .ref ax), (0, .ref b)] → W p l e room_1 s m #[Value.ref b] below meth c H locs (CC) (SS) (lw_Z below #[Value.ref b] s) (F0 m 835 ls [.int xj_476, .int xj_473, .int x_470, .ref ax]) := by
      intro xj_476 ls blxj_476 buxj_476 jcxj_476 hl
      refine lv_aload_n hx hb dL_law_835 rfl (lv_at hl 3 rfl) ?_
      refine lv_iload_n hx hb dL_law_836 rfl (lv_at hl 0 rfl) ?_
      refine lv_iconst (v := 4) hx hb dL_law_837 ?o31 ?_
      case o31 => decide
      refine lv_iadd hx hb dL_law_838 ?_
      refine lv_topi (fun x_477 ex_477 => ?_)
      have zx_477 : x_477.toInt = i.toInt + 4 := ?o32
      case o32 =>
        rw [ex_477]
        refine i32_add rfl ?o33 ?o34 ?o35
        case o33 => decide
        case o34 => omega
        case o35 => omega
      refine va_sld hx hb hX hbl hbA hW.2.2.2.1 (vp_in_iff.mpr ⟨?o36, ?o37⟩) dL_law_839 ?_
      case o36 => omega
      case o37 => omega
      refine lv_topi (fun x_478 ex_478 => ?_)
      have hTo := hT
      obtain ⟨q_479, fq_479, gq_479⟩ := hx_rf hT g_qo_ln tt_1 (k := 7) (u := 19) rfl
      obtain ⟨q_480, fq_480, gq_480⟩ := hx_rf hT gx tt_9 (k := 15) (u := 47) rfl
      obtain ⟨fa_481, nfa_481⟩ : ∃ g : Nat → Int32, hl1.2.1 q_479 = g := ⟨_, rfl⟩
      obtain ⟨fa_482, nfa_482⟩ : ∃ g : Nat → Int32, hl1.2.1 q_480 = g := ⟨_, rfl⟩
      refine hx_goi (hx_runV (As := [.int x_470, .int xj_473, .int xj_476, .int x_478]) (rest := []) ⟨hx, hb, hml, hown, hts⟩ hW gx tt_9 (T := TX9) (N := 20) rfl (t_X9_hear_v l dC dI dA L1 hl1 H.size ax x_470 xj_473 xj_476 x_478 hT gx qp g_qp f_qp qc g_qc f_qc qh g_qh f_qh qo_ln g_qo_ln f_qo_ln b_of g_b_of f_b_of b_wf g_b_wf f_b_wf b_df g_b_df f_b_df b_kf g_b_kf f_b_kf b_sf g_b_sf f_b_sf b_bf g_b_bf f_b_bf q_479 gq_479 fq_479 q_480 gq_480 fq_480 B_of n_b_of B_wf n_b_wf B_df n_b_df B_kf n_b_kf B_sf n_b_sf bfL n_b_bf fa_481 nfa_481 fa_482 nfa_482 c0 f_x_claimCount np f_x_personCount m0 f_x_heardCount nw f_x_now ln f_o_ln c_dead cl_dead c_isj cl_isj F_kin cl_kin F_bor cl_bor c_fou cl_fou F_mh cl_hea F_jud cl_jud F_sum cl_sum F_fro cl_fro F_fil cl_fil nu_qp nu_qc ⟨?o38, ?o39⟩ ⟨?o40, ?o41⟩ F_aga F_by F_ml F_ho cF9L F_be A9 hDF hDP hAC9 hAB hFX hBX hHL hHC hBD hDY pf_qp pf_qc pf_qh) (cwV 4 hts (hx_gV kw_814 kw_811 kw_812 kw_813 kw_94) rfl rfl rfl (by decide +kernel) ⟨Nat.le_of_ble_eq_true rfl, Nat.le_of_ble_eq_true rfl⟩) rfl hl.1 rfl (Nat.le_of_ble_eq_true rfl) dL_law_840 ⟨(show CC + 0 ≤ 600000 from ?o42), (show SS + 0 ≤ 7302250 from ?o43)⟩) hW (fun r_485 L_483 h_484 H locs p_486 hW => ?_)
      case o38 => omega
      case o39 => omega
      case o40 => omega
      case o41 => omega
      case o42 => omega
      case o43 => omega
      obtain ⟨⟨w_489, w_490, w_491, fw_489, fw_490, fw_491, hr_487⟩, hT, hs, pf_488⟩ := p_486
      replace hT : hx_T T_tb L_483 h_484 := hT
      replace hs : hx_S T_tb [(2, 11), (2, 12), (9, 13), (19, 0), (20, 0), (21, 0), (46, 0), (47, 0)] L1 hl1 L_483 h_484 := hs
      replace f_qa := (hs.o gx trivial rfl).2.trans f_qa
      replace f_qp := (hs.o gx trivial rfl).2.trans f_qp
      replace f_qc := (hs.o gx trivial rfl).2.trans f_qc
      replace f_qh := (hs.o gx trivial rfl).2.trans f_qh
      replace f_qw := (hs.o gx trivial rfl).2.trans f_qw
      replace f_ql := (hs.o g_qw trivial rfl).2.trans f_ql
      replace f_m_now := (hs.o gm trivial rfl).1.trans f_m_now
      replace f_m_persons := (hs.o gm trivial rfl).1.trans f_m_persons
      replace f_m_claims := (hs.o gm trivial rfl).1.trans f_m_claims
      replace f_m_taped := (hs.o gm trivial rfl).1.trans f_m_taped
      replace f_m_acts := (hs.o gm trivial rfl).1.trans f_m_acts
      replace f_m_heardMany := (hs.o gm trivial rfl).1.trans f_m_heardMany
      replace f_m_lines := (hs.o gm trivial rfl).1.trans f_m_lines
      replace f_m_listed := (hs.o gm trivial rfl).1.trans f_m_listed
      replace f_m_walkedMany := (hs.o gm trivial rfl).1.trans f_m_walkedMany
      replace f_m_payments := (hs.o gm trivial rfl).1.trans f_m_payments
      replace f_x_now := (hs.o gx trivial rfl).1.trans f_x_now
      replace f_x_personCount := (hs.o gx trivial rfl).1.trans f_x_personCount
      replace f_x_claimCount := (hs.o gx trivial rfl).1.trans f_x_claimCount
      replace f_x_tapeLength := (hs.o gx trivial rfl).1.trans f_x_tapeLength
      replace f_x_actCount := (hs.o gx trivial rfl).1.trans f_x_actCount
      replace f_mw := (hs.o gm trivial rfl).2.trans f_mw
      replace f_mr := (hs.o gm trivial rfl).2.trans f_mr
      replace f_mp := (hs.o gm trivial rfl).2.trans f_mp
      replace f_mn := (hs.o gm trivial rfl).2.trans f_mn
      replace f_ml := (hs.o gm trivial rfl).2.trans f_ml
      replace f_mh := (hs.o gm trivial rfl).2.trans f_mh
      replace f_mt := (hs.o gm trivial rfl).2.trans f_mt
      replace f_m_fou := (hs.o gm trivial rfl).2.trans f_m_fou
      replace f_qo_ln := (hs.o gx trivial rfl).2.trans f_qo_ln
      replace f_o_ln := (hs.o g_qo_ln trivial rfl).1.trans f_o_ln
      replace f_o_lsd := (hs.o g_qw trivial rfl).1.trans f_o_lsd
      replace f_o_wkm := (hs.o g_qw trivial rfl).1.trans f_o_wkm
      replace f_qo_py := (hs.o gx trivial rfl).2.trans f_qo_py
      replace f_o_py := (hs.o g_qo_py trivial rfl).1.trans f_o_py
      replace f_b_of := (hs.o g_qo_ln trivial rfl).2.trans f_b_of
      replace f_m_of := (hs.o gm trivial rfl).2.trans f_m_of
      replace f_b_wf := (hs.o g_qo_ln trivial rfl).2.trans f_b_wf
      replace f_m_wf := (hs.o gm trivial rfl).2.trans f_m_wf
      replace f_b_df := (hs.o g_qo_ln trivial rfl).2.trans f_b_df
      replace f_m_df := (hs.o gm trivial rfl).2.trans f_m_df
      replace f_b_kf := (hs.o g_qo_ln trivial rfl).2.trans f_b_kf
      replace f_m_kf := (hs.o gm trivial rfl).2.trans f_m_kf
      replace f_b_sf := (hs.o g_qo_ln trivial rfl).2.trans f_b_sf
      replace f_m_sf := (hs.o gm trivial rfl).2.trans f_m_sf
      replace f_b_bf := (hs.o g_qo_ln trivial rfl).2.trans f_b_bf
      replace f_m_lst := (hs.o gm trivial rfl).2.trans f_m_lst
      replace f_qtp := (hs.o gx trivial rfl).2.trans f_qtp
      replace f_m_tp := (hs.o gm trivial rfl).2.trans f_m_tp
      replace f_m_dead := (hs.o gm trivial rfl).2.trans f_m_dead
      replace f_m_isj := (hs.o gm trivial rfl).2.trans f_m_isj
      replace f_m_dox := (hs.o gm trivial rfl).2.trans f_m_dox
      replace f_m_doy := (hs.o gm trivial rfl).2.trans f_m_doy
      replace f_qlt := (hs.o g_qw trivial rfl).2.trans f_qlt
      replace f_qlf := (hs.o g_qw trivial rfl).2.trans f_qlf
      replace f_m_wkd := (hs.o gm trivial rfl).2.trans f_m_wkd
      replace f_m_aga := (hs.o gm trivial rfl).2.trans f_m_aga
      replace f_qwo := (hs.o gx trivial rfl).2.trans f_qwo
      replace f_m_ad := (hs.o gm trivial rfl).2.trans f_m_ad
      replace f_m_by := (hs.o gm trivial rfl).2.trans f_m_by
      replace f_m_ho := (hs.o gm trivial rfl).2.trans f_m_ho
      replace f_m_fc := (hs.o gm trivial rfl).2.trans f_m_fc
      replace f_m_nt := (hs.o gm trivial rfl).2.trans f_m_nt
      replace f_m_wt := (hs.o gm trivial rfl).2.trans f_m_wt
      replace f_m_be := (hs.o gm trivial rfl).2.trans f_m_be
      replace f_m_bor := (hs.o gm trivial rfl).2.trans f_m_bor
      replace f_m_kin := (hs.o gm trivial rfl).2.trans f_m_kin
      replace f_m_sum := (hs.o gm trivial rfl).2.trans f_m_sum
      replace f_m_fro := (hs.o gm trivial rfl).2.trans f_m_fro
      replace f_m_fil := (hs.o gm trivial rfl).2.trans f_m_fil
      replace f_m_jud := (hs.o gm trivial rfl).2.trans f_m_jud
      replace f_m_ear := (hs.o gm trivial rfl).2.trans f_m_ear
      replace f_m_hds := (hs.o gm trivial rfl).2.trans f_m_hds
      replace f_m_ord := (hs.o gm trivial rfl).2.trans f_m_ord
      replace f_m_wkl := (hs.o gm trivial rfl).2.trans f_m_wkl
      replace f_m_owd := (hs.o gm trivial rfl).2.trans f_m_owd
      replace f_m_gds := (hs.o gm trivial rfl).2.trans f_m_gds
      replace f_m_szd := (hs.o gm trivial rfl).2.trans f_m_szd
      replace f_m_srv := (hs.o gm trivial rfl).2.trans f_m_srv
      replace f_y_p0 := (hs.o g_qo_py trivial rfl).2.trans f_y_p0
      replace f_m_p0 := (hs.o gm trivial rfl).2.trans f_m_p0
      replace f_y_p1 := (hs.o g_qo_py trivial rfl).2.trans f_y_p1
      replace f_m_p1 := (hs.o gm trivial rfl).2.trans f_m_p1
      replace f_y_p2 := (hs.o g_qo_py trivial rfl).2.trans f_y_p2
      replace f_m_p2 := (hs.o gm trivial rfl).2.trans f_m_p2
      replace f_y_p3 := (hs.o g_qo_py trivial rfl).2.trans f_y_p3
      replace f_m_p3 := (hs.o gm trivial rfl).2.trans f_m_p3
      replace f_y_p4 := (hs.o g_qo_py trivial rfl).2.trans f_y_p4
      replace f_m_p4 := (hs.o gm trivial rfl).2.trans f_m_p4
      replace f_qrg9 := (hs.o gx trivial rfl).2.trans f_qrg9
      replace f_y_ls := (hs.o g_qrg9 trivial rfl).2.trans f_y_ls
      replace f_m_rl := (hs.o gm trivial rfl).2.trans f_m_rl
      replace ffv_465 := (hs.o g_qrg9 trivial rfl).1.trans ffv_465
      replace ffv_466 := (hs.o gm trivial rfl).1.trans ffv_466
      replace ffv_467 := (hs.o gm trivial rfl).1.trans ffv_467
      replace fq_479 := (hs.o g_qo_ln trivial rfl).2.trans fq_479
      replace fq_480 := (hs.o gx trivial rfl).2.trans fq_480
      replace pf_qa : ∀ j : Nat, (j : Int) < (h_484.2.1 ax 6).toInt → h_484.2.2 qa j ≠ none := by
        intro j hj; rw [(hs.o gx trivial rfl).1] at hj; rw [(hs.a g_qa rfl j).2]; exact pf_qa j hj
      replace pf_qp : ∀ j : Nat, (j : Int) < (h_484.2.1 ax 8).toInt → h_484.2.2 qp j ≠ none := by
        intro j hj; rw [(hs.o gx trivial rfl).1] at hj; rw [(hs.a g_qp rfl j).2]; exact pf_qp j hj
      replace pf_qc : ∀ j : Nat, (j : Int) < (h_484.2.1 ax 11).toInt → h_484.2.2 qc j ≠ none := by
        intro j hj; rw [(hs.o gx trivial rfl).1] at hj; rw [(hs.a g_qc rfl j).2]; exact pf_qc j hj
      replace pf_ql : ∀ j : Nat, (j : Int) < (h_484.2.1 qw 0).toInt → h_484.2.2 ql j ≠ none := by
        intro j hj; rw [(hs.o g_qw trivial rfl).1] at hj; rw [(hs.a g_ql rfl j).2]; exact pf_ql j hj
      replace cl_lst : hx_col 8 h_484 ql 0 = c_lst := (hx_col_S hs hTo g_ql tt_40 tt_2 rfl rfl).trans cl_lst
      replace cl_dead : hx_col 40 h_484 qp 7 = c_dead := (hx_col_S hs hTo g_qp tt_44 tt_4 rfl rfl).trans cl_dead
      replace cl_isj : hx_col 40 h_484 qp 8 = c_isj := (hx_col_S hs hTo g_qp tt_44 tt_4 rfl rfl).trans cl_isj
      replace cl_dox : hx_col 40 h_484 qp 5 = c_dox := (hx_col_S hs hTo g_qp tt_44 tt_4 rfl rfl).trans cl_dox
      replace cl_doy : hx_col 40 h_484 qp 6 = c_doy := (hx_col_S hs hTo g_qp tt_44 tt_4 rfl rfl).trans cl_doy
      replace cl_fou : hx_col 100 h_484 qc 10 = c_fou := (hx_col_S hs hTo g_qc tt_45 tt_2 rfl rfl).trans cl_fou
      replace cl_tri : hx_col 100 h_484 qc 9 = c_tri := (hx_col_S hs hTo g_qc tt_45 tt_2 rfl rfl).trans cl_tri
      replace cl_bor : hx_col 40 h_484 qp 1 = F_bor := (hx_col_S hs hTo g_qp tt_44 tt_4 rfl rfl).trans cl_bor
      replace cl_kin : hx_col 40 h_484 qp 2 = F_kin := (hx_col_S hs hTo g_qp tt_44 tt_4 rfl rfl).trans cl_kin
      replace cl_sum : hx_col 100 h_484 qc 6 = F_sum := (hx_col_S hs hTo g_qc tt_45 tt_2 rfl rfl).trans cl_sum
      replace cl_fro : hx_col 100 h_484 qc 7 = F_fro := (hx_col_S hs hTo g_qc tt_45 tt_2 rfl rfl).trans cl_fro
      replace cl_fil : hx_col 100 h_484 qc 8 = F_fil := (hx_col_S hs hTo g_qc tt_45 tt_2 rfl rfl).trans cl_fil
      replace cl_ear : hx_col 40 h_484 qp 3 = F_ear := (hx_col_S hs hTo g_qp tt_44 tt_4 rfl rfl).trans cl_ear
      replace cl_hds : hx_col 40 h_484 qp 4 = F_hds := (hx_col_S hs hTo g_qp tt_44 tt_4 rfl rfl).trans cl_hds
      replace cl_ord : hx_col 100 h_484 qc 13 = F_ord := (hx_col_S hs hTo g_qc tt_45 tt_2 rfl rfl).trans cl_ord
      replace cl_wkl : hx_col 100 h_484 qc 14 = F_wkl := (hx_col_S hs hTo g_qc tt_45 tt_2 rfl rfl).trans cl_wkl
      replace cl_owd : hx_col 100 h_484 qc 15 = F_owd := (hx_col_S hs hTo g_qc tt_45 tt_2 rfl rfl).trans cl_owd
      replace cl_gds : hx_col 100 h_484 qc 17 = F_gds := (hx_col_S hs hTo g_qc tt_45 tt_2 rfl rfl).trans cl_gds
      replace cl_szd : hx_col 100 h_484 qc 16 = F_szd := (hx_col_S hs hTo g_qc tt_45 tt_2 rfl rfl).trans cl_szd
      replace cl_srv : hx_col 100 h_484 qc 18 = F_srv := (hx_col_S hs hTo g_qc tt_45 tt_2 rfl rfl).trans cl_srv
      replace nu_qp : hx_num 40 h_484 qp 0 (np.toInt) := hx_num_S hs hTo g_qp tt_44 tt_4 rfl rfl nu_qp
      replace nu_qc : hx_num 100 h_484 qc 0 (c0.toInt) := hx_num_S hs hTo g_qc tt_45 tt_2 rfl rfl nu_qc
      replace sb_list : hx_LQ 8 100 h_484 ql qc := hx_LQ_S hs g_ql g_qc rfl rfl sb_list
      replace hDF : hw_DF h_484 qc qp 2 F_aga c0.toInt := hw_DF_S hs hTo g_qc g_qp tt_45 tt_2 rfl rfl rfl hDF
      replace hRA9 : hv_RA h_484 qa qwo a0.toInt A9 := hv_RA_S hs hTo g_qa g_qwo tt_43 tt_0 rfl rfl rfl rfl rfl rfl ?o44 hRA9
      case o44 => omega
      replace hDP : hw_DF h_484 qc qp 1 F_by c0.toInt := hw_DF_S hs hTo g_qc g_qp tt_45 tt_2 rfl rfl rfl hDP
      replace hAC9 : hv_AC h_484 qc F_ml c0.toInt A9 := hv_AC_S hs hTo g_qc tt_45 tt_2 rfl tt_0 rfl rfl rfl rfl rfl rfl rfl hAC9
      replace n_mw : h_484.2.1 mw = F_mw := (funext fun j => (hs.a g_mw rfl j).1).trans n_mw
      replace n_mr : h_484.2.1 mr = F_mr := (funext fun j => (hs.a g_mr rfl j).1).trans n_mr
      replace n_mp : h_484.2.1 mp = F_mp := (funext fun j => (hs.a g_mp rfl j).1).trans n_mp
      replace n_mn : h_484.2.1 mn = F_mn := (funext fun j => (hs.a g_mn rfl j).1).trans n_mn
      replace n_ml : h_484.2.1 ml = F_ml := (funext fun j => (hs.a g_ml rfl j).1).trans n_ml
      replace n_mh : h_484.2.1 mh = F_mh := (funext fun j => (hs.a g_mh rfl j).1).trans n_mh
      replace n_mt : h_484.2.1 mt = F_mt := (funext fun j => (hs.a g_mt rfl j).1).trans n_mt
      replace n_m_fou : h_484.2.1 m_fou = F_m_fou := (funext fun j => (hs.a g_m_fou rfl j).1).trans n_m_fou
      replace n_b_of : h_484.2.1 b_of = B_of := (funext fun j => (hs.a g_b_of rfl j).1).trans n_b_of
      replace n_m_of : h_484.2.1 m_of = F_of := (funext fun j => (hs.a g_m_of rfl j).1).trans n_m_of
      replace n_b_wf : h_484.2.1 b_wf = B_wf := (funext fun j => (hs.a g_b_wf rfl j).1).trans n_b_wf
      replace n_m_wf : h_484.2.1 m_wf = F_wf := (funext fun j => (hs.a g_m_wf rfl j).1).trans n_m_wf
      replace n_b_df : h_484.2.1 b_df = B_df := (funext fun j => (hs.a g_b_df rfl j).1).trans n_b_df
      replace n_m_df : h_484.2.1 m_df = F_df := (funext fun j => (hs.a g_m_df rfl j).1).trans n_m_df
      replace n_b_kf : h_484.2.1 b_kf = B_kf := (funext fun j => (hs.a g_b_kf rfl j).1).trans n_b_kf
      replace n_m_kf : h_484.2.1 m_kf = F_kf := (funext fun j => (hs.a g_m_kf rfl j).1).trans n_m_kf
      replace n_b_sf : h_484.2.1 b_sf = B_sf := (funext fun j => (hs.a g_b_sf rfl j).1).trans n_b_sf
      replace n_m_sf : h_484.2.1 m_sf = F_sf := (funext fun j => (hs.a g_m_sf rfl j).1).trans n_m_sf
      replace n_b_bf : h_484.2.1 b_bf = bfL := (funext fun j => (hs.a g_b_bf rfl j).1).trans n_b_bf
      replace n_lst : h_484.2.1 m_lst = F_lst := (funext fun j => (hs.a g_m_lst rfl j).1).trans n_lst
      replace n_tp : h_484.2.1 m_tp = F_tp := (funext fun j => (hs.a g_m_tp rfl j).1).trans n_tp
      replace n_qtp : h_484.2.1 qtp = F_tp := (funext fun j => (hs.a g_qtp rfl j).1).trans n_qtp
      replace n_dead : h_484.2.1 m_dead = F_dead := (funext fun j => (hs.a g_m_dead rfl j).1).trans n_dead
      replace n_isj : h_484.2.1 m_isj = F_isj := (funext fun j => (hs.a g_m_isj rfl j).1).trans n_isj
      replace n_dox : h_484.2.1 m_dox = F_dox := (funext fun j => (hs.a g_m_dox rfl j).1).trans n_dox
      replace n_doy : h_484.2.1 m_doy = F_doy := (funext fun j => (hs.a g_m_doy rfl j).1).trans n_doy
      replace n_qlt : h_484.2.1 qlt = F_qlt := (funext fun j => (hs.a g_qlt rfl j).1).trans n_qlt
      replace n_m_wkd : h_484.2.1 m_wkd = F_m_wkd := (funext fun j => (hs.a g_m_wkd rfl j).1).trans n_m_wkd
      replace n_aga : h_484.2.1 m_aga = F_aga := (funext fun j => (hs.a g_m_aga rfl j).1).trans n_aga
      replace n_ad : h_484.2.1 m_ad = F_ad := (funext fun j => (hs.a g_m_ad rfl j).1).trans n_ad
      replace n_by : h_484.2.1 m_by = F_by := (funext fun j => (hs.a g_m_by rfl j).1).trans n_by
      replace n_ho : h_484.2.1 m_ho = F_ho := (funext fun j => (hs.a g_m_ho rfl j).1).trans n_ho
      replace n_fc : h_484.2.1 m_fc = F_fc := (funext fun j => (hs.a g_m_fc rfl j).1).trans n_fc
      replace n_nt : h_484.2.1 m_nt = F_nt := (funext fun j => (hs.a g_m_nt rfl j).1).trans n_nt
      replace n_wt : h_484.2.1 m_wt = F_wt := (funext fun j => (hs.a g_m_wt rfl j).1).trans n_wt
      replace n_be : h_484.2.1 m_be = F_be := (funext fun j => (hs.a g_m_be rfl j).1).trans n_be
      replace n_bor : h_484.2.1 m_bor = F_bor := (funext fun j => (hs.a g_m_bor rfl j).1).trans n_bor
      replace n_kin : h_484.2.1 m_kin = F_kin := (funext fun j => (hs.a g_m_kin rfl j).1).trans n_kin
      replace n_sum : h_484.2.1 m_sum = F_sum := (funext fun j => (hs.a g_m_sum rfl j).1).trans n_sum
      replace n_fro : h_484.2.1 m_fro = F_fro := (funext fun j => (hs.a g_m_fro rfl j).1).trans n_fro
      replace n_fil : h_484.2.1 m_fil = F_fil := (funext fun j => (hs.a g_m_fil rfl j).1).trans n_fil
      replace n_jud : h_484.2.1 m_jud = F_jud := (funext fun j => (hs.a g_m_jud rfl j).1).trans n_jud
      replace n_ear : h_484.2.1 m_ear = F_ear := (funext fun j => (hs.a g_m_ear rfl j).1).trans n_ear
      replace n_hds : h_484.2.1 m_hds = F_hds := (funext fun j => (hs.a g_m_hds rfl j).1).trans n_hds
      replace n_ord : h_484.2.1 m_ord = F_ord := (funext fun j => (hs.a g_m_ord rfl j).1).trans n_ord
      replace n_wkl : h_484.2.1 m_wkl = F_wkl := (funext fun j => (hs.a g_m_wkl rfl j).1).trans n_wkl
      replace n_owd : h_484.2.1 m_owd = F_owd := (funext fun j => (hs.a g_m_owd rfl j).1).trans n_owd
      replace n_gds : h_484.2.1 m_gds = F_gds := (funext fun j => (hs.a g_m_gds rfl j).1).trans n_gds
      replace n_szd : h_484.2.1 m_szd = F_szd := (funext fun j => (hs.a g_m_szd rfl j).1).trans n_szd
      replace n_srv : h_484.2.1 m_srv = F_srv := (funext fun j => (hs.a g_m_srv rfl j).1).trans n_srv
      replace n_p0 : h_484.2.1 m_p0 = F_p0 := (funext fun j => (hs.a g_m_p0 rfl j).1).trans n_p0
      replace n_y_p0 : h_484.2.1 y_p0 = F_p0 := (funext fun j => (hs.a g_y_p0 rfl j).1).trans n_y_p0
      replace n_p1 : h_484.2.1 m_p1 = F_p1 := (funext fun j => (hs.a g_m_p1 rfl j).1).trans n_p1
      replace n_y_p1 : h_484.2.1 y_p1 = F_p1 := (funext fun j => (hs.a g_y_p1 rfl j).1).trans n_y_p1
      replace n_p2 : h_484.2.1 m_p2 = F_p2 := (funext fun j => (hs.a g_m_p2 rfl j).1).trans n_p2
      replace n_y_p2 : h_484.2.1 y_p2 = F_p2 := (funext fun j => (hs.a g_y_p2 rfl j).1).trans n_y_p2
      replace n_p3 : h_484.2.1 m_p3 = F_p3 := (funext fun j => (hs.a g_m_p3 rfl j).1).trans n_p3
      replace n_y_p3 : h_484.2.1 y_p3 = F_p3 := (funext fun j => (hs.a g_y_p3 rfl j).1).trans n_y_p3
      replace n_p4 : h_484.2.1 m_p4 = F_p4 := (funext fun j => (hs.a g_m_p4 rfl j).1).trans n_p4
      replace n_y_p4 : h_484.2.1 y_p4 = F_p4 := (funext fun j => (hs.a g_y_p4 rfl j).1).trans n_y_p4
      replace n_y_ls : h_484.2.1 y_ls = F_y_ls := (funext fun j => (hs.a g_y_ls rfl j).1).trans n_y_ls
      replace n_m_rl : h_484.2.1 m_rl = F_m_rl := (funext fun j => (hs.a g_m_rl rfl j).1).trans n_m_rl
      replace gx := gx.S hs
      replace gm := gm.S hs
      replace g_qa := g_qa.S hs
      replace g_qp := g_qp.S hs
      replace g_qc := g_qc.S hs
      replace g_qh := g_qh.S hs
      replace g_qw := g_qw.S hs
      replace g_ql := g_ql.S hs
      replace g_mw := g_mw.S hs
      replace g_mr := g_mr.S hs
      replace g_mp := g_mp.S hs
      replace g_mn := g_mn.S hs
      replace g_ml := g_ml.S hs
      replace g_mh := g_mh.S hs
      replace g_mt := g_mt.S hs
      replace g_m_fou := g_m_fou.S hs
      replace g_qo_ln := g_qo_ln.S hs
      replace g_qo_py := g_qo_py.S hs
      replace g_b_of := g_b_of.S hs
      replace g_m_of := g_m_of.S hs
      replace g_b_wf := g_b_wf.S hs
      replace g_m_wf := g_m_wf.S hs
      replace g_b_df := g_b_df.S hs
      replace g_m_df := g_m_df.S hs
      replace g_b_kf := g_b_kf.S hs
      replace g_m_kf := g_m_kf.S hs
      replace g_b_sf := g_b_sf.S hs
      replace g_m_sf := g_m_sf.S hs
      replace g_b_bf := g_b_bf.S hs
      replace g_m_lst := g_m_lst.S hs
      replace g_qtp := g_qtp.S hs
      replace g_m_tp := g_m_tp.S hs
      replace g_m_dead := g_m_dead.S hs
      replace g_m_isj := g_m_isj.S hs
      replace g_m_dox := g_m_dox.S hs
      replace g_m_doy := g_m_doy.S hs
      replace g_qlt := g_qlt.S hs
      replace g_qlf := g_qlf.S hs
      replace g_m_wkd := g_m_wkd.S hs
      replace g_m_aga := g_m_aga.S hs
      replace g_qwo := g_qwo.S hs
      replace g_m_ad := g_m_ad.S hs
      replace g_m_by := g_m_by.S hs
      replace g_m_ho := g_m_ho.S hs
      replace g_m_fc := g_m_fc.S hs
      replace g_m_nt := g_m_nt.S hs
      replace g_m_wt := g_m_wt.S hs
      replace g_m_be := g_m_be.S hs
      replace g_m_bor := g_m_bor.S hs
      replace g_m_kin := g_m_kin.S hs
      replace g_m_sum := g_m_sum.S hs
      replace g_m_fro := g_m_fro.S hs
      replace g_m_fil := g_m_fil.S hs
      replace g_m_jud := g_m_jud.S hs
      replace g_m_ear := g_m_ear.S hs
      replace g_m_hds := g_m_hds.S hs
      replace g_m_ord := g_m_ord.S hs
      replace g_m_wkl := g_m_wkl.S hs
      replace g_m_owd := g_m_owd.S hs
      replace g_m_gds := g_m_gds.S hs
      replace g_m_szd := g_m_szd.S hs
      replace g_m_srv := g_m_srv.S hs
      replace g_y_p0 := g_y_p0.S hs
      replace g_m_p0 := g_m_p0.S hs
      replace g_y_p1 := g_y_p1.S hs
      replace g_m_p1 := g_m_p1.S hs
      replace g_y_p2 := g_y_p2.S hs
      replace g_m_p2 := g_m_p2.S hs
      replace g_y_p3 := g_y_p3.S hs
      replace g_m_p3 := g_m_p3.S hs
      replace g_y_p4 := g_y_p4.S hs
      replace g_m_p4 := g_m_p4.S hs
      replace g_qrg9 := g_qrg9.S hs
      replace g_y_ls := g_y_ls.S hs
      replace g_m_rl := g_m_rl.S hs
      replace gq_479 := gq_479.S hs
      replace gq_480 := gq_480.S hs
      have pf_488 : ∀ j : Nat, (j : Int) < (h_484.2.1 ax 13).toInt → h_484.2.2 qh j ≠ none := pf_488
      have fw_489 : h_484.2.1 ax 13 = w_489 := fw_489
      have bw_489 := hT.gi gx tt_9 (k := 13) rfl
      rw [fw_489] at bw_489
      have bw_489 : 0 ≤ w_489.toInt ∧ w_489.toInt ≤ 100 := bw_489
      have fw_490 : hx_col 100 h_484 qc 11 = w_490 := fw_490
      have fw_491 : hx_col 100 h_484 qc 12 = w_491 := fw_491
      obtain ⟨cF9, bFn9, hofn9, hHS9, hFXn9, hBXn9, hHLn9, hCB9⟩ := hr_487
      have hFXn9 : hv_FX 8 4 h_484 qc cF9 c0.toInt := hFXn9
      have hBXn9 : hv_FX 3 5 h_484 qc bFn9 c0.toInt := hBXn9
      have hHLn9 : hv_HL h_484 qh qc hofn9 w_489.toInt c0.toInt := hHLn9
      refine lv_pop hx hb dL_law_843 rfl ?_
      refine lv_aload_n hx hb dL_law_844 rfl (lv_at hl 1 rfl) ?_
      refine lv_aload_n hx hb dL_law_845 rfl (lv_at hl 3 rfl) ?_
      refine lv_iload_n hx hb dL_law_846 rfl (lv_at hl 0 rfl) ?_
      refine lv_iconst (v := 1) hx hb dL_law_847 ?o45 ?_
      case o45 => decide
      refine lv_iadd hx hb dL_law_848 ?_
      refine lv_topi (fun x_492 ex_492 => ?_)
      have zx_492 : x_492.toInt = i.toInt + 1 := ?o46
      case o46 =>
        rw [ex_492]
        refine i32_add rfl ?o47 ?o48 ?o49
        case o47 => decide
        case o48 => omega
        case o49 => omega
      obtain rfl : x_469 = x_492 := ex_469.trans ex_492.symm
      refine va_sld hx hb hX hbl hbA hW.2.2.2.1 (vp_in_iff.mpr ⟨?o50, ?o51⟩) dL_law_849 ?_
      case o50 => omega
      case o51 => omega
      refine lv_topi (fun x_493 ex_493 => ?_)
      obtain rfl : x_470 = x_493 := ex_470.trans ex_493.symm
      refine lv_aload_n hx hb dL_law_850 rfl (lv_at hl 3 rfl) ?_
      refine lv_iload_n hx hb dL_law_851 rfl (lv_at hl 0 rfl) ?_
      refine lv_iconst (v := 2) hx hb dL_law_852 ?o52 ?_
      case o52 => decide
      refine lv_iadd hx hb dL_law_853 ?_
      refine lv_topi (fun x_494 ex_494 => ?_)
      have zx_494 : x_494.toInt = i.toInt + 2 := ?o53
      case o53 =>
        rw [ex_494]
        refine i32_add rfl ?o54 ?o55 ?o56
        case o54 => decide
        case o55 => omega
        case o56 => omega
      obtain rfl : x_471 = x_494 := ex_471.trans ex_494.symm
      refine va_sld hx hb hX hbl hbA hW.2.2.2.1 (vp_in_iff.mpr ⟨?o57, ?o58⟩) dL_law_854 ?_
      case o57 => omega
      case o58 => omega
      refine lv_topi (fun x_495 ex_495 => ?_)
      obtain rfl : x_472 = x_495 := ex_472.trans ex_495.symm
      have jn_863 : ∀ (xj_496 : Int32) (ls : Array Slot), 0 ≤ xj_496.toInt → xj_496.toInt ≤ 1 → (x_472.toInt = 0 ∧ xj_496.toInt = 0) ∨ (x_472.toInt ≠ 0 ∧ xj_496.toInt = 1) → lv_has ls 4 [(3, .int i), (2, .ref am), (1, .ref ax), (0, .ref b)] → W p l e room_1 s m #[Value.ref b] below meth c H locs (CC + 0) (SS + 0) (lw_Z below #[Value.ref b] s) (F0 m 863 ls [.int xj_496, .int x_470, .ref am]) := by
        intro xj_496 ls blxj_496 buxj_496 jcxj_496 hl
        obtain rfl : xj_473 = xj_496 := Int32.toInt_inj.mp (by omega)
        refine lv_aload_n hx hb dL_law_863 rfl (lv_at hl 3 rfl) ?_
        refine lv_iload_n hx hb dL_law_864 rfl (lv_at hl 0 rfl) ?_
        refine lv_iconst (v := 3) hx hb dL_law_865 ?o59 ?_
        case o59 => decide
        refine lv_iadd hx hb dL_law_866 ?_
        refine lv_topi (fun x_497 ex_497 => ?_)
        have zx_497 : x_497.toInt = i.toInt + 3 := ?o60
        case o60 =>
          rw [ex_497]
          refine i32_add rfl ?o61 ?o62 ?o63
          case o61 => decide
          case o62 => omega
          case o63 => omega
        obtain rfl : x_474 = x_497 := ex_474.trans ex_497.symm
        refine va_sld hx hb hX hbl hbA hW.2.2.2.1 (vp_in_iff.mpr ⟨?o64, ?o65⟩) dL_law_867 ?_
        case o64 => omega
        case o65 => omega
        refine lv_topi (fun x_498 ex_498 => ?_)
        obtain rfl : x_475 = x_498 := ex_475.trans ex_498.symm
        have jn_876 : ∀ (xj_499 : Int32) (ls : Array Slot), 0 ≤ xj_499.toInt → xj_499.toInt ≤ 1 → (x_475.toInt = 0 ∧ xj_499.toInt = 0) ∨ (x_475.toInt ≠ 0 ∧ xj_499.toInt = 1) → lv_has ls 4 [(3, .int i), (2, .ref am), (1, .ref ax), (0, .ref b)] → W p l e room_1 s m #[Value.ref b] below meth c H locs (CC + 0) (SS + 0) (lw_Z below #[Value.ref b] s) (F0 m 876 ls [.int xj_499, .int xj_473, .int x_470, .ref am]) := by
          intro xj_499 ls blxj_499 buxj_499 jcxj_499 hl
          obtain rfl : xj_476 = xj_499 := Int32.toInt_inj.mp (by omega)
          refine lv_aload_n hx hb dL_law_876 rfl (lv_at hl 3 rfl) ?_
          refine lv_iload_n hx hb dL_law_877 rfl (lv_at hl 0 rfl) ?_
          refine lv_iconst (v := 4) hx hb dL_law_878 ?o66 ?_
          case o66 => decide
          refine lv_iadd hx hb dL_law_879 ?_
          refine lv_topi (fun x_500 ex_500 => ?_)
          have zx_500 : x_500.toInt = i.toInt + 4 := ?o67
          case o67 =>
            rw [ex_500]
            refine i32_add rfl ?o68 ?o69 ?o70
            case o68 => decide
            case o69 => omega
            case o70 => omega
          obtain rfl : x_477 = x_500 := ex_477.trans ex_500.symm
          refine va_sld hx hb hX hbl hbA hW.2.2.2.1 (vp_in_iff.mpr ⟨?o71, ?o72⟩) dL_law_880 ?_
          case o71 => omega
          case o72 => omega
          refine lv_topi (fun x_501 ex_501 => ?_)
          obtain rfl : x_478 = x_501 := ex_478.trans ex_501.symm
          have hTo := hT
          obtain ⟨q_502, fq_502, gq_502⟩ := hx_rf hT gm tt_10 (k := 66) (u := 99) rfl
          obtain ⟨q_503, fq_503, gq_503⟩ := hx_rf hT gm tt_10 (k := 65) (u := 98) rfl
          obtain ⟨q_504, fq_504, gq_504⟩ := hx_rf hT gm tt_10 (k := 35) (u := 71) rfl
          obtain ⟨fa_505, nfa_505⟩ : ∃ g : Nat → Int32, h_484.2.1 q_502 = g := ⟨_, rfl⟩
          obtain ⟨fa_506, nfa_506⟩ : ∃ g : Nat → Int32, h_484.2.1 q_503 = g := ⟨_, rfl⟩
          obtain ⟨fa_507, nfa_507⟩ : ∃ g : Nat → Int32, h_484.2.1 q_504 = g := ⟨_, rfl⟩
          refine hx_goi (hx_runV (As := [.int x_470, .int xj_473, .int xj_476, .int x_478]) (rest := []) ⟨hx, hb, hml, hown, hts⟩ hW gm tt_10 (T := TX10) (N := 98) rfl (t_X10_hear_v l dC dI dA L_483 h_484 H.size am x_470 xj_473 xj_476 x_478 hT gm m_by g_m_by f_m_by m_aga g_m_aga f_m_aga m_fil g_m_fil f_m_fil m_sum g_m_sum f_m_sum mr g_mr f_mr m_fro g_m_fro f_m_fro m_bor g_m_bor f_m_bor mn g_mn f_mn mp g_mp f_mp q_502 gq_502 fq_502 m_fc g_m_fc f_m_fc mh g_mh f_mh m_fou g_m_fou f_m_fou m_dead g_m_dead f_m_dead m_isj g_m_isj f_m_isj m_kin g_m_kin f_m_kin q_503 gq_503 fq_503 m_be g_m_be f_m_be m_ho g_m_ho f_m_ho m_nt g_m_nt f_m_nt m_wt g_m_wt f_m_wt m_jud g_m_jud f_m_jud ml g_ml f_ml m_of g_m_of f_m_of m_wf g_m_wf f_m_wf m_df g_m_df f_m_df m_kf g_m_kf f_m_kf m_sf g_m_sf f_m_sf q_504 gq_504 fq_504 F_by n_by F_aga n_aga F_fil n_fil F_sum n_sum F_mr n_mr F_fro n_fro F_bor n_bor F_mn n_mn F_mp n_mp fa_505 nfa_505 F_fc n_fc F_mh n_mh F_m_fou n_m_fou F_dead n_dead F_isj n_isj F_kin n_kin fa_506 nfa_506 F_be n_be F_ho n_ho F_nt n_nt F_wt n_wt F_jud n_jud F_ml n_ml F_of n_m_of F_wf n_m_wf F_df n_m_df F_kf n_m_kf F_sf n_m_sf fa_507 nfa_507 c0 f_m_claims m0 f_m_heardMany a0 f_m_acts np f_m_persons nw f_m_now ln f_m_lines ⟨?o73, ?o74⟩ ⟨?o75, ?o76⟩ F_ad A9 hCA9 hAB hPL hHC bfL hBDm hDYm) (cwV 4 hts (hx_gV kw_1601 kw_1598 kw_1599 kw_1600 kw_103) rfl rfl rfl (by decide +kernel) ⟨Nat.le_of_ble_eq_true rfl, Nat.le_of_ble_eq_true rfl⟩) rfl hl.1 rfl (Nat.le_of_ble_eq_true rfl) dL_law_881 ⟨(show CC + 0 + 0 ≤ 600000 from ?o77), (show SS + 0 + 0 ≤ 7302250 from ?o78)⟩) hW (fun r_510 L_508 h_509 H locs p_511 hW => ?_)
          case o73 => omega
          case o74 => omega
          case o75 => omega
          case o76 => omega
          case o77 => omega
          case o78 => omega
          obtain ⟨⟨w_513, w_514, w_515, w_516, w_517, w_518, fw_513, fw_514, fw_515, fw_516, fw_517, fw_518, hr_512⟩, hT, hs⟩ := p_511
          replace hT : hx_T T_tb L_508 h_509 := hT
          replace hs : hx_S T_tb [(10, 57), (71, 0), (82, 0), (86, 0), (87, 0), (88, 0), (92, 0), (98, 0), (99, 0)] L_483 h_484 L_508 h_509 := hs
          replace f_qa := (hs.o gx trivial rfl).2.trans f_qa
          replace f_qp := (hs.o gx trivial rfl).2.trans f_qp
          replace f_qc := (hs.o gx trivial rfl).2.trans f_qc
          replace f_qh := (hs.o gx trivial rfl).2.trans f_qh
          replace f_qw := (hs.o gx trivial rfl).2.trans f_qw
          replace f_ql := (hs.o g_qw trivial rfl).2.trans f_ql
          replace f_m_now := (hs.o gm trivial rfl).1.trans f_m_now
          replace f_m_persons := (hs.o gm trivial rfl).1.trans f_m_persons
          replace f_m_claims := (hs.o gm trivial rfl).1.trans f_m_claims
          replace f_m_taped := (hs.o gm trivial rfl).1.trans f_m_taped
          replace f_m_acts := (hs.o gm trivial rfl).1.trans f_m_acts
          replace f_m_lines := (hs.o gm trivial rfl).1.trans f_m_lines
          replace f_m_listed := (hs.o gm trivial rfl).1.trans f_m_listed
          replace f_m_walkedMany := (hs.o gm trivial rfl).1.trans f_m_walkedMany
          replace f_m_payments := (hs.o gm trivial rfl).1.trans f_m_payments
          replace f_x_now := (hs.o gx trivial rfl).1.trans f_x_now
          replace f_x_personCount := (hs.o gx trivial rfl).1.trans f_x_personCount
          replace f_x_claimCount := (hs.o gx trivial rfl).1.trans f_x_claimCount
          replace f_x_tapeLength := (hs.o gx trivial rfl).1.trans f_x_tapeLength
          replace f_x_actCount := (hs.o gx trivial rfl).1.trans f_x_actCount
          replace f_mw := (hs.o gm trivial rfl).2.trans f_mw
          replace f_mr := (hs.o gm trivial rfl).2.trans f_mr
          replace f_mp := (hs.o gm trivial rfl).2.trans f_mp
          replace f_mn := (hs.o gm trivial rfl).2.trans f_mn
          replace f_ml := (hs.o gm trivial rfl).2.trans f_ml
          replace f_mh := (hs.o gm trivial rfl).2.trans f_mh
          replace f_mt := (hs.o gm trivial rfl).2.trans f_mt
          replace f_m_fou := (hs.o gm trivial rfl).2.trans f_m_fou
          replace f_qo_ln := (hs.o gx trivial rfl).2.trans f_qo_ln
          replace f_o_ln := (hs.o g_qo_ln trivial rfl).1.trans f_o_ln
          replace f_o_lsd := (hs.o g_qw trivial rfl).1.trans f_o_lsd
          replace f_o_wkm := (hs.o g_qw trivial rfl).1.trans f_o_wkm
          replace f_qo_py := (hs.o gx trivial rfl).2.trans f_qo_py
          replace f_o_py := (hs.o g_qo_py trivial rfl).1.trans f_o_py
          replace f_b_of := (hs.o g_qo_ln trivial rfl).2.trans f_b_of
          replace f_m_of := (hs.o gm trivial rfl).2.trans f_m_of
          replace f_b_wf := (hs.o g_qo_ln trivial rfl).2.trans f_b_wf
          replace f_m_wf := (hs.o gm trivial rfl).2.trans f_m_wf
          replace f_b_df := (hs.o g_qo_ln trivial rfl).2.trans f_b_df
          replace f_m_df := (hs.o gm trivial rfl).2.trans f_m_df
          replace f_b_kf := (hs.o g_qo_ln trivial rfl).2.trans f_b_kf
          replace f_m_kf := (hs.o gm trivial rfl).2.trans f_m_kf
          replace f_b_sf := (hs.o g_qo_ln trivial rfl).2.trans f_b_sf
          replace f_m_sf := (hs.o gm trivial rfl).2.trans f_m_sf
          replace f_b_bf := (hs.o g_qo_ln trivial rfl).2.trans f_b_bf
          replace f_m_lst := (hs.o gm trivial rfl).2.trans f_m_lst
          replace f_qtp := (hs.o gx trivial rfl).2.trans f_qtp
          replace f_m_tp := (hs.o gm trivial rfl).2.trans f_m_tp
          replace f_m_dead := (hs.o gm trivial rfl).2.trans f_m_dead
          replace f_m_isj := (hs.o gm trivial rfl).2.trans f_m_isj
          replace f_m_dox := (hs.o gm trivial rfl).2.trans f_m_dox
          replace f_m_doy := (hs.o gm trivial rfl).2.trans f_m_doy
          replace f_qlt := (hs.o g_qw trivial rfl).2.trans f_qlt
          replace f_qlf := (hs.o g_qw trivial rfl).2.trans f_qlf
          replace f_m_wkd := (hs.o gm trivial rfl).2.trans f_m_wkd
          replace f_m_aga := (hs.o gm trivial rfl).2.trans f_m_aga
          replace f_qwo := (hs.o gx trivial rfl).2.trans f_qwo
          replace f_m_ad := (hs.o gm trivial rfl).2.trans f_m_ad
          replace f_m_by := (hs.o gm trivial rfl).2.trans f_m_by
          replace f_m_ho := (hs.o gm trivial rfl).2.trans f_m_ho
          replace f_m_fc := (hs.o gm trivial rfl).2.trans f_m_fc
          replace f_m_nt := (hs.o gm trivial rfl).2.trans f_m_nt
          replace f_m_wt := (hs.o gm trivial rfl).2.trans f_m_wt
          replace f_m_be := (hs.o gm trivial rfl).2.trans f_m_be
          replace f_m_bor := (hs.o gm trivial rfl).2.trans f_m_bor
          replace f_m_kin := (hs.o gm trivial rfl).2.trans f_m_kin
          replace f_m_sum := (hs.o gm trivial rfl).2.trans f_m_sum
          replace f_m_fro := (hs.o gm trivial rfl).2.trans f_m_fro
          replace f_m_fil := (hs.o gm trivial rfl).2.trans f_m_fil
          replace f_m_jud := (hs.o gm trivial rfl).2.trans f_m_jud
          replace f_m_ear := (hs.o gm trivial rfl).2.trans f_m_ear
          replace f_m_hds := (hs.o gm trivial rfl).2.trans f_m_hds
          replace f_m_ord := (hs.o gm trivial rfl).2.trans f_m_ord
          replace f_m_wkl := (hs.o gm trivial rfl).2.trans f_m_wkl
          replace f_m_owd := (hs.o gm trivial rfl).2.trans f_m_owd
          replace f_m_gds := (hs.o gm trivial rfl).2.trans f_m_gds
          replace f_m_szd := (hs.o gm trivial rfl).2.trans f_m_szd
          replace f_m_srv := (hs.o gm trivial rfl).2.trans f_m_srv
          replace f_y_p0 := (hs.o g_qo_py trivial rfl).2.trans f_y_p0
          replace f_m_p0 := (hs.o gm trivial rfl).2.trans f_m_p0
          replace f_y_p1 := (hs.o g_qo_py trivial rfl).2.trans f_y_p1
          replace f_m_p1 := (hs.o gm trivial rfl).2.trans f_m_p1
          replace f_y_p2 := (hs.o g_qo_py trivial rfl).2.trans f_y_p2
          replace f_m_p2 := (hs.o gm trivial rfl).2.trans f_m_p2
          replace f_y_p3 := (hs.o g_qo_py trivial rfl).2.trans f_y_p3
          replace f_m_p3 := (hs.o gm trivial rfl).2.trans f_m_p3
          replace f_y_p4 := (hs.o g_qo_py trivial rfl).2.trans f_y_p4
          replace f_m_p4 := (hs.o gm trivial rfl).2.trans f_m_p4
          replace f_qrg9 := (hs.o gx trivial rfl).2.trans f_qrg9
          replace f_y_ls := (hs.o g_qrg9 trivial rfl).2.trans f_y_ls
          replace f_m_rl := (hs.o gm trivial rfl).2.trans f_m_rl
          replace ffv_465 := (hs.o g_qrg9 trivial rfl).1.trans ffv_465
          replace ffv_466 := (hs.o gm trivial rfl).1.trans ffv_466
          replace ffv_467 := (hs.o gm trivial rfl).1.trans ffv_467
          replace fq_479 := (hs.o g_qo_ln trivial rfl).2.trans fq_479
          replace fq_480 := (hs.o gx trivial rfl).2.trans fq_480
          replace fw_489 := (hs.o gx trivial rfl).1.trans fw_489
          replace fq_502 := (hs.o gm trivial rfl).2.trans fq_502
          replace fq_503 := (hs.o gm trivial rfl).2.trans fq_503
          replace fq_504 := (hs.o gm trivial rfl).2.trans fq_504
          replace pf_qa : ∀ j : Nat, (j : Int) < (h_509.2.1 ax 6).toInt → h_509.2.2 qa j ≠ none := by
            intro j hj; rw [(hs.o gx trivial rfl).1] at hj; rw [(hs.a g_qa rfl j).2]; exact pf_qa j hj
          replace pf_qp : ∀ j : Nat, (j : Int) < (h_509.2.1 ax 8).toInt → h_509.2.2 qp j ≠ none := by
            intro j hj; rw [(hs.o gx trivial rfl).1] at hj; rw [(hs.a g_qp rfl j).2]; exact pf_qp j hj
          replace pf_qc : ∀ j : Nat, (j : Int) < (h_509.2.1 ax 11).toInt → h_509.2.2 qc j ≠ none := by
            intro j hj; rw [(hs.o gx trivial rfl).1] at hj; rw [(hs.a g_qc rfl j).2]; exact pf_qc j hj
          replace pf_ql : ∀ j : Nat, (j : Int) < (h_509.2.1 qw 0).toInt → h_509.2.2 ql j ≠ none := by
            intro j hj; rw [(hs.o g_qw trivial rfl).1] at hj; rw [(hs.a g_ql rfl j).2]; exact pf_ql j hj
          replace pf_488 : ∀ j : Nat, (j : Int) < (h_509.2.1 ax 13).toInt → h_509.2.2 qh j ≠ none := by
            intro j hj; rw [(hs.o gx trivial rfl).1] at hj; rw [(hs.a g_qh rfl j).2]; exact pf_488 j hj
          replace cl_lst : hx_col 8 h_509 ql 0 = c_lst := (hx_col_S hs hTo g_ql tt_40 tt_2 rfl rfl).trans cl_lst
          replace cl_dead : hx_col 40 h_509 qp 7 = c_dead := (hx_col_S hs hTo g_qp tt_44 tt_4 rfl rfl).trans cl_dead
          replace cl_isj : hx_col 40 h_509 qp 8 = c_isj := (hx_col_S hs hTo g_qp tt_44 tt_4 rfl rfl).trans cl_isj
          replace cl_dox : hx_col 40 h_509 qp 5 = c_dox := (hx_col_S hs hTo g_qp tt_44 tt_4 rfl rfl).trans cl_dox
          replace cl_doy : hx_col 40 h_509 qp 6 = c_doy := (hx_col_S hs hTo g_qp tt_44 tt_4 rfl rfl).trans cl_doy
          replace cl_fou : hx_col 100 h_509 qc 10 = c_fou := (hx_col_S hs hTo g_qc tt_45 tt_2 rfl rfl).trans cl_fou
          replace cl_tri : hx_col 100 h_509 qc 9 = c_tri := (hx_col_S hs hTo g_qc tt_45 tt_2 rfl rfl).trans cl_tri
          replace cl_bor : hx_col 40 h_509 qp 1 = F_bor := (hx_col_S hs hTo g_qp tt_44 tt_4 rfl rfl).trans cl_bor
          replace cl_kin : hx_col 40 h_509 qp 2 = F_kin := (hx_col_S hs hTo g_qp tt_44 tt_4 rfl rfl).trans cl_kin
          replace cl_sum : hx_col 100 h_509 qc 6 = F_sum := (hx_col_S hs hTo g_qc tt_45 tt_2 rfl rfl).trans cl_sum
          replace cl_fro : hx_col 100 h_509 qc 7 = F_fro := (hx_col_S hs hTo g_qc tt_45 tt_2 rfl rfl).trans cl_fro
          replace cl_fil : hx_col 100 h_509 qc 8 = F_fil := (hx_col_S hs hTo g_qc tt_45 tt_2 rfl rfl).trans cl_fil
          replace cl_ear : hx_col 40 h_509 qp 3 = F_ear := (hx_col_S hs hTo g_qp tt_44 tt_4 rfl rfl).trans cl_ear
          replace cl_hds : hx_col 40 h_509 qp 4 = F_hds := (hx_col_S hs hTo g_qp tt_44 tt_4 rfl rfl).trans cl_hds
          replace cl_ord : hx_col 100 h_509 qc 13 = F_ord := (hx_col_S hs hTo g_qc tt_45 tt_2 rfl rfl).trans cl_ord
          replace cl_wkl : hx_col 100 h_509 qc 14 = F_wkl := (hx_col_S hs hTo g_qc tt_45 tt_2 rfl rfl).trans cl_wkl
          replace cl_owd : hx_col 100 h_509 qc 15 = F_owd := (hx_col_S hs hTo g_qc tt_45 tt_2 rfl rfl).trans cl_owd
          replace cl_gds : hx_col 100 h_509 qc 17 = F_gds := (hx_col_S hs hTo g_qc tt_45 tt_2 rfl rfl).trans cl_gds
          replace cl_szd : hx_col 100 h_509 qc 16 = F_szd := (hx_col_S hs hTo g_qc tt_45 tt_2 rfl rfl).trans cl_szd
          replace cl_srv : hx_col 100 h_509 qc 18 = F_srv := (hx_col_S hs hTo g_qc tt_45 tt_2 rfl rfl).trans cl_srv
          replace fw_490 : hx_col 100 h_509 qc 11 = w_490 := (hx_col_S hs hTo g_qc tt_45 tt_2 rfl rfl).trans fw_490
          replace fw_491 : hx_col 100 h_509 qc 12 = w_491 := (hx_col_S hs hTo g_qc tt_45 tt_2 rfl rfl).trans fw_491
          replace nu_qp : hx_num 40 h_509 qp 0 (np.toInt) := hx_num_S hs hTo g_qp tt_44 tt_4 rfl rfl nu_qp
          replace nu_qc : hx_num 100 h_509 qc 0 (c0.toInt) := hx_num_S hs hTo g_qc tt_45 tt_2 rfl rfl nu_qc
          replace sb_list : hx_LQ 8 100 h_509 ql qc := hx_LQ_S hs g_ql g_qc rfl rfl sb_list
          replace hDF : hw_DF h_509 qc qp 2 F_aga c0.toInt := hw_DF_S hs hTo g_qc g_qp tt_45 tt_2 rfl rfl rfl hDF
          replace hRA9 : hv_RA h_509 qa qwo a0.toInt A9 := hv_RA_S hs hTo g_qa g_qwo tt_43 tt_0 rfl rfl rfl rfl rfl rfl ?o79 hRA9
          case o79 => omega
          replace hDP : hw_DF h_509 qc qp 1 F_by c0.toInt := hw_DF_S hs hTo g_qc g_qp tt_45 tt_2 rfl rfl rfl hDP
          replace hAC9 : hv_AC h_509 qc F_ml c0.toInt A9 := hv_AC_S hs hTo g_qc tt_45 tt_2 rfl tt_0 rfl rfl rfl rfl rfl rfl rfl hAC9
          replace hFXn9 : hv_FX 8 4 h_509 qc cF9 c0.toInt := hv_FX_S hs hTo g_qc tt_45 tt_2 rfl rfl rfl rfl hFXn9
          replace hBXn9 : hv_FX 3 5 h_509 qc bFn9 c0.toInt := hv_FX_S hs hTo g_qc tt_45 tt_2 rfl rfl rfl rfl hBXn9
          replace hHLn9 : hv_HL h_509 qh qc hofn9 w_489.toInt c0.toInt := hv_HL_S hs g_qh g_qc rfl rfl hHLn9
          replace n_mw : h_509.2.1 mw = F_mw := (funext fun j => (hs.a g_mw rfl j).1).trans n_mw
          replace n_mr : h_509.2.1 mr = F_mr := (funext fun j => (hs.a g_mr rfl j).1).trans n_mr
          replace n_mp : h_509.2.1 mp = F_mp := (funext fun j => (hs.a g_mp rfl j).1).trans n_mp
          replace n_mn : h_509.2.1 mn = F_mn := (funext fun j => (hs.a g_mn rfl j).1).trans n_mn
          replace n_ml : h_509.2.1 ml = F_ml := (funext fun j => (hs.a g_ml rfl j).1).trans n_ml
          replace n_mt : h_509.2.1 mt = F_mt := (funext fun j => (hs.a g_mt rfl j).1).trans n_mt
          replace n_m_fou : h_509.2.1 m_fou = F_m_fou := (funext fun j => (hs.a g_m_fou rfl j).1).trans n_m_fou
          replace n_b_of : h_509.2.1 b_of = B_of := (funext fun j => (hs.a g_b_of rfl j).1).trans n_b_of
          replace n_m_of : h_509.2.1 m_of = F_of := (funext fun j => (hs.a g_m_of rfl j).1).trans n_m_of
          replace n_b_wf : h_509.2.1 b_wf = B_wf := (funext fun j => (hs.a g_b_wf rfl j).1).trans n_b_wf
          replace n_m_wf : h_509.2.1 m_wf = F_wf := (funext fun j => (hs.a g_m_wf rfl j).1).trans n_m_wf
          replace n_b_df : h_509.2.1 b_df = B_df := (funext fun j => (hs.a g_b_df rfl j).1).trans n_b_df
          replace n_m_df : h_509.2.1 m_df = F_df := (funext fun j => (hs.a g_m_df rfl j).1).trans n_m_df
          replace n_b_kf : h_509.2.1 b_kf = B_kf := (funext fun j => (hs.a g_b_kf rfl j).1).trans n_b_kf
          replace n_m_kf : h_509.2.1 m_kf = F_kf := (funext fun j => (hs.a g_m_kf rfl j).1).trans n_m_kf
          replace n_b_sf : h_509.2.1 b_sf = B_sf := (funext fun j => (hs.a g_b_sf rfl j).1).trans n_b_sf
          replace n_m_sf : h_509.2.1 m_sf = F_sf := (funext fun j => (hs.a g_m_sf rfl j).1).trans n_m_sf
          replace n_b_bf : h_509.2.1 b_bf = bfL := (funext fun j => (hs.a g_b_bf rfl j).1).trans n_b_bf
          replace n_lst : h_509.2.1 m_lst = F_lst := (funext fun j => (hs.a g_m_lst rfl j).1).trans n_lst
          replace n_tp : h_509.2.1 m_tp = F_tp := (funext fun j => (hs.a g_m_tp rfl j).1).trans n_tp
          replace n_qtp : h_509.2.1 qtp = F_tp := (funext fun j => (hs.a g_qtp rfl j).1).trans n_qtp
          replace n_dead : h_509.2.1 m_dead = F_dead := (funext fun j => (hs.a g_m_dead rfl j).1).trans n_dead
          replace n_isj : h_509.2.1 m_isj = F_isj := (funext fun j => (hs.a g_m_isj rfl j).1).trans n_isj
          replace n_dox : h_509.2.1 m_dox = F_dox := (funext fun j => (hs.a g_m_dox rfl j).1).trans n_dox
          replace n_doy : h_509.2.1 m_doy = F_doy := (funext fun j => (hs.a g_m_doy rfl j).1).trans n_doy
          replace n_qlt : h_509.2.1 qlt = F_qlt := (funext fun j => (hs.a g_qlt rfl j).1).trans n_qlt
          replace n_m_wkd : h_509.2.1 m_wkd = F_m_wkd := (funext fun j => (hs.a g_m_wkd rfl j).1).trans n_m_wkd
          replace n_aga : h_509.2.1 m_aga = F_aga := (funext fun j => (hs.a g_m_aga rfl j).1).trans n_aga
          replace n_ad : h_509.2.1 m_ad = F_ad := (funext fun j => (hs.a g_m_ad rfl j).1).trans n_ad
          replace n_by : h_509.2.1 m_by = F_by := (funext fun j => (hs.a g_m_by rfl j).1).trans n_by
          replace n_nt : h_509.2.1 m_nt = F_nt := (funext fun j => (hs.a g_m_nt rfl j).1).trans n_nt
          replace n_wt : h_509.2.1 m_wt = F_wt := (funext fun j => (hs.a g_m_wt rfl j).1).trans n_wt
          replace n_bor : h_509.2.1 m_bor = F_bor := (funext fun j => (hs.a g_m_bor rfl j).1).trans n_bor
          replace n_kin : h_509.2.1 m_kin = F_kin := (funext fun j => (hs.a g_m_kin rfl j).1).trans n_kin
          replace n_sum : h_509.2.1 m_sum = F_sum := (funext fun j => (hs.a g_m_sum rfl j).1).trans n_sum
          replace n_fro : h_509.2.1 m_fro = F_fro := (funext fun j => (hs.a g_m_fro rfl j).1).trans n_fro
          replace n_fil : h_509.2.1 m_fil = F_fil := (funext fun j => (hs.a g_m_fil rfl j).1).trans n_fil
          replace n_ear : h_509.2.1 m_ear = F_ear := (funext fun j => (hs.a g_m_ear rfl j).1).trans n_ear
          replace n_hds : h_509.2.1 m_hds = F_hds := (funext fun j => (hs.a g_m_hds rfl j).1).trans n_hds
          replace n_ord : h_509.2.1 m_ord = F_ord := (funext fun j => (hs.a g_m_ord rfl j).1).trans n_ord
          replace n_wkl : h_509.2.1 m_wkl = F_wkl := (funext fun j => (hs.a g_m_wkl rfl j).1).trans n_wkl
          replace n_owd : h_509.2.1 m_owd = F_owd := (funext fun j => (hs.a g_m_owd rfl j).1).trans n_owd
          replace n_gds : h_509.2.1 m_gds = F_gds := (funext fun j => (hs.a g_m_gds rfl j).1).trans n_gds
          replace n_szd : h_509.2.1 m_szd = F_szd := (funext fun j => (hs.a g_m_szd rfl j).1).trans n_szd
          replace n_srv : h_509.2.1 m_srv = F_srv := (funext fun j => (hs.a g_m_srv rfl j).1).trans n_srv
          replace n_p0 : h_509.2.1 m_p0 = F_p0 := (funext fun j => (hs.a g_m_p0 rfl j).1).trans n_p0
          replace n_y_p0 : h_509.2.1 y_p0 = F_p0 := (funext fun j => (hs.a g_y_p0 rfl j).1).trans n_y_p0
          replace n_p1 : h_509.2.1 m_p1 = F_p1 := (funext fun j => (hs.a g_m_p1 rfl j).1).trans n_p1
          replace n_y_p1 : h_509.2.1 y_p1 = F_p1 := (funext fun j => (hs.a g_y_p1 rfl j).1).trans n_y_p1
          replace n_p2 : h_509.2.1 m_p2 = F_p2 := (funext fun j => (hs.a g_m_p2 rfl j).1).trans n_p2
          replace n_y_p2 : h_509.2.1 y_p2 = F_p2 := (funext fun j => (hs.a g_y_p2 rfl j).1).trans n_y_p2
          replace n_p3 : h_509.2.1 m_p3 = F_p3 := (funext fun j => (hs.a g_m_p3 rfl j).1).trans n_p3
          replace n_y_p3 : h_509.2.1 y_p3 = F_p3 := (funext fun j => (hs.a g_y_p3 rfl j).1).trans n_y_p3
          replace n_p4 : h_509.2.1 m_p4 = F_p4 := (funext fun j => (hs.a g_m_p4 rfl j).1).trans n_p4
          replace n_y_p4 : h_509.2.1 y_p4 = F_p4 := (funext fun j => (hs.a g_y_p4 rfl j).1).trans n_y_p4
          replace n_y_ls : h_509.2.1 y_ls = F_y_ls := (funext fun j => (hs.a g_y_ls rfl j).1).trans n_y_ls
          replace n_m_rl : h_509.2.1 m_rl = F_m_rl := (funext fun j => (hs.a g_m_rl rfl j).1).trans n_m_rl
          replace gx := gx.S hs
          replace gm := gm.S hs
          replace g_qa := g_qa.S hs
          replace g_qp := g_qp.S hs
          replace g_qc := g_qc.S hs
          replace g_qh := g_qh.S hs
          replace g_qw := g_qw.S hs
          replace g_ql := g_ql.S hs
          replace g_mw := g_mw.S hs
          replace g_mr := g_mr.S hs
          replace g_mp := g_mp.S hs
          replace g_mn := g_mn.S hs
          replace g_ml := g_ml.S hs
          replace g_mh := g_mh.S hs
          replace g_mt := g_mt.S hs
          replace g_m_fou := g_m_fou.S hs
          replace g_qo_ln := g_qo_ln.S hs
          replace g_qo_py := g_qo_py.S hs
          replace g_b_of := g_b_of.S hs
          replace g_m_of := g_m_of.S hs
          replace g_b_wf := g_b_wf.S hs
          replace g_m_wf := g_m_wf.S hs
          replace g_b_df := g_b_df.S hs
          replace g_m_df := g_m_df.S hs
          replace g_b_kf := g_b_kf.S hs
          replace g_m_kf := g_m_kf.S hs
          replace g_b_sf := g_b_sf.S hs
          replace g_m_sf := g_m_sf.S hs
          replace g_b_bf := g_b_bf.S hs
          replace g_m_lst := g_m_lst.S hs
          replace g_qtp := g_qtp.S hs
          replace g_m_tp := g_m_tp.S hs
          replace g_m_dead := g_m_dead.S hs
          replace g_m_isj := g_m_isj.S hs
          replace g_m_dox := g_m_dox.S hs
          replace g_m_doy := g_m_doy.S hs
          replace g_qlt := g_qlt.S hs
          replace g_qlf := g_qlf.S hs
          replace g_m_wkd := g_m_wkd.S hs
          replace g_m_aga := g_m_aga.S hs
          replace g_qwo := g_qwo.S hs
          replace g_m_ad := g_m_ad.S hs
          replace g_m_by := g_m_by.S hs
          replace g_m_ho := g_m_ho.S hs
          replace g_m_fc := g_m_fc.S hs
          replace g_m_nt := g_m_nt.S hs
          replace g_m_wt := g_m_wt.S hs
          replace g_m_be := g_m_be.S hs
          replace g_m_bor := g_m_bor.S hs
          replace g_m_kin := g_m_kin.S hs
          replace g_m_sum := g_m_sum.S hs
          replace g_m_fro := g_m_fro.S hs
          replace g_m_fil := g_m_fil.S hs
          replace g_m_jud := g_m_jud.S hs
          replace g_m_ear := g_m_ear.S hs
          replace g_m_hds := g_m_hds.S hs
          replace g_m_ord := g_m_ord.S hs
          replace g_m_wkl := g_m_wkl.S hs
          replace g_m_owd := g_m_owd.S hs
          replace g_m_gds := g_m_gds.S hs
          replace g_m_szd := g_m_szd.S hs
          replace g_m_srv := g_m_srv.S hs
          replace g_y_p0 := g_y_p0.S hs
          replace g_m_p0 := g_m_p0.S hs
          replace g_y_p1 := g_y_p1.S hs
          replace g_m_p1 := g_m_p1.S hs
          replace g_y_p2 := g_y_p2.S hs
          replace g_m_p2 := g_m_p2.S hs
          replace g_y_p3 := g_y_p3.S hs
          replace g_m_p3 := g_m_p3.S hs
          replace g_y_p4 := g_y_p4.S hs
          replace g_m_p4 := g_m_p4.S hs
          replace g_qrg9 := g_qrg9.S hs
          replace g_y_ls := g_y_ls.S hs
          replace g_m_rl := g_m_rl.S hs
          replace gq_479 := gq_479.S hs
          replace gq_480 := gq_480.S hs
          replace gq_502 := gq_502.S hs
          replace gq_503 := gq_503.S hs
          replace gq_504 := gq_504.S hs
          have fw_513 : h_509.2.1 am 57 = w_513 := fw_513
          have bw_513 := hT.gi gm tt_10 (k := 57) rfl
          rw [fw_513] at bw_513
          have bw_513 : 0 ≤ w_513.toInt ∧ w_513.toInt ≤ 100 := bw_513
          have fw_514 : h_509.2.1 mh = w_514 := fw_514
          have fw_515 : h_509.2.1 m_jud = w_515 := fw_515
          have fw_516 : h_509.2.1 m_ho = w_516 := fw_516
          have fw_517 : h_509.2.1 m_fc = w_517 := fw_517
          have fw_518 : h_509.2.1 m_be = w_518 := fw_518
          refine lv_pop hx hb dL_law_884 rfl ?_
          refine lv_goto (tgt := 1379) hx hb dL_law_885 ?o80 ?_
          case o80 => decide
          obtain ⟨hHM9, hMB9⟩ := hr_512
          have bA9 : ∀ k, k < 100 → 0 ≤ (F_aga k).toInt ∧ (F_aga k).toInt ≤ 39 := fun k hk => by have w := hT.ei g_m_aga tt_73 (k := k) hk; rw [n_aga] at w; exact w
          have esl := hv_fs_e (kf := F_kin) (p := (F_by x_470.toNatClampNeg).toNatClampNeg) (q := (F_aga x_470.toNatClampNeg).toNatClampNeg) eq_isj eq_dead np.toInt.toNat ?o81
          case o81 => omega
          have hCB8 := hCB9; rw [hy_bs_c eb_of eb_wf eb_df eb_kf eb_sf _ (Nat.le_refl _), hy_bs_c eb_of eb_wf eb_df eb_kf eb_sf _ (Nat.le_refl _), hy_G_c hBD eb_of eb_wf eb_df eb_kf eb_sf _ (Nat.le_refl _)] at hCB8
          obtain ⟨⟨heqr, hq_hm, hq_hea, hq_jud, hq_ho⟩, hFRn⟩ := hv_HR hFR9 (by omega) hHS9 hHM9 (hv_HC_e eq_fou eq_dead bA9 (by omega) (congrArg (fun l => ((List.length l : Nat) : Int)) esl)) (hAB _).2 (fun hc => ⟨by have h9 := hc.1; unfold Int32.toNatClampNeg; omega, hc.2.2.1⟩) hCB8 hMB9
          have heq := congrArg Int32.toInt heqr
          have hq_be := hv_BB heqr esl (congrArg (fun l => x_478.toInt % hv_T3 (List.length l)) esl) hCB9 hMB9
          obtain ⟨hHCn9, hHFn9⟩ := hv_HS_hc hHM9 (by omega) hHC; have hHOn := hv_HO_h hHO9 hHM9 (by omega) (by omega)
          refine W.widen (k := CC + 3) (n := SS + 179) ?o82 ?o83 ?_
          case o82 => omega
          case o83 => omega
          refine kk L_508 h_509 H locs ls hW ⟨hT, gx, gm, ⟨f_x_now.trans f_m_now.symm, f_x_personCount.trans f_m_persons.symm, f_x_claimCount.trans f_m_claims.symm, f_x_tapeLength.trans f_m_taped.symm, f_x_actCount.trans f_m_acts.symm, (fw_489.trans hq_hm).trans fw_513.symm, hx_ob f_qo_ln (f_o_ln.trans f_m_lines.symm), hx_ob f_qw (f_o_lsd.trans f_m_listed.symm), hx_ob f_qw (f_o_wkm.trans f_m_walkedMany.symm), hx_ob f_qo_py (f_o_py.trans f_m_payments.symm), hx_ob f_qp ?o84, hx_ob f_qc ?o85, (fun b a r hb ha hr => ?o86), (fun b a r hb ha hr => ?o87), (fun b a r hb ha hr => ?o88), (fun b a r hb ha hr => ?o89), (fun b a r hb ha hr => ?o90), (fun b a r hb ha hr => ?o91), (fun w q c hw hq hc => ?o92), (fun w q r hw hq hr => ?o93), (fun w q r hw hq hr => ?o94), (fun c q a hc hq ha => ?o95), (fun q r hq hr => ?o96), (fun q w a b c d e p hq hw ha hb hc hd he hp => ?o97), (fun c q a hc hq ha => ?o98), (fun q c a hq hc ha => ?o99), (fun a b ha hb => ?o100), (fun c a b d e f hc ha hb hd he hf => ?o101), (fun c a hc ha => ?o102), hx_ob2 f_qp f_m_bor (cl_bor.trans n_bor.symm), hx_ob2 f_qp f_m_kin (cl_kin.trans n_kin.symm), hx_ob2 f_qc f_m_sum (cl_sum.trans n_sum.symm), hx_ob2 f_qc f_m_fro (cl_fro.trans n_fro.symm), hx_ob2 f_qc f_m_fil (cl_fil.trans n_fil.symm), hx_ob2 f_qc f_mh ((fw_490.trans hq_hea).trans fw_514.symm), hx_ob2 f_qc f_m_jud ((fw_491.trans hq_jud).trans fw_515.symm), hx_ob2 f_qp f_m_ear (cl_ear.trans n_ear.symm), hx_ob2 f_qp f_m_hds (cl_hds.trans n_hds.symm), hx_ob2 f_qc f_m_ord (cl_ord.trans n_ord.symm), hx_ob2 f_qc f_m_wkl (cl_wkl.trans n_wkl.symm), hx_ob2 f_qc f_m_owd (cl_owd.trans n_owd.symm), hx_ob2 f_qc f_m_gds (cl_gds.trans n_gds.symm), hx_ob2 f_qc f_m_szd (cl_szd.trans n_szd.symm), hx_ob2 f_qc f_m_srv (cl_srv.trans n_srv.symm), (fun p q r hp hq hr => ?o103), (fun p q r hp hq hr => ?o104), (fun p q r hp hq hr => ?o105), (fun p q r hp hq hr => ?o106), (fun p q r hp hq hr => ?o107), (fun p hp => ?o108), (fun p q r hp hq hr => ?o109), hx_ob2 f_qp f_m_dead ?o110, hx_ob2 f_qp f_m_isj ?o111, hx_ob2 f_qp f_m_dox ?o112, hx_ob2 f_qp f_m_doy ?o113, hx_ob2 f_qc f_m_fou ?o114, hx_ob2 f_qc f_mt ?o115, trivial⟩, ⟨hx_ob f_qa pf_qa, hx_ob f_qp pf_qp, hx_ob f_qc pf_qc, hx_ob f_qh pf_488, (fun w q hw hq => ?o116)⟩, ⟨hx_ob f_mw ?o117, hx_ob f_mr ?o118, hx_ob2 f_mp f_mn ?o119, hx_ob f_ml ?o120, hx_ob f_mh ?o121, hx_ob f_mt ?o122, hx_ob2 f_mh f_m_fou ?o124⟩⟩ hl
          case o84 =>
            rw [f_x_personCount]
            exact nu_qp
          case o85 =>
            rw [f_x_claimCount]
            exact nu_qc
          case o86 =>
            obtain rfl : qo_ln = b := Option.some.inj (f_qo_ln.symm.trans hb)
            obtain rfl : b_of = a := Option.some.inj (f_b_of.symm.trans ha)
            obtain rfl : m_of = r := Option.some.inj (f_m_of.symm.trans hr)
            rw [n_b_of, n_m_of, f_o_ln]
            exact eb_of
          case o87 =>
            obtain rfl : qo_ln = b := Option.some.inj (f_qo_ln.symm.trans hb)
            obtain rfl : b_wf = a := Option.some.inj (f_b_wf.symm.trans ha)
            obtain rfl : m_wf = r := Option.some.inj (f_m_wf.symm.trans hr)
            rw [n_b_wf, n_m_wf, f_o_ln]
            exact eb_wf
          case o88 =>
            obtain rfl : qo_ln = b := Option.some.inj (f_qo_ln.symm.trans hb)
            obtain rfl : b_df = a := Option.some.inj (f_b_df.symm.trans ha)
            obtain rfl : m_df = r := Option.some.inj (f_m_df.symm.trans hr)
            rw [n_b_df, n_m_df, f_o_ln]
            exact eb_df
          case o89 =>
            obtain rfl : qo_ln = b := Option.some.inj (f_qo_ln.symm.trans hb)
            obtain rfl : b_kf = a := Option.some.inj (f_b_kf.symm.trans ha)
            obtain rfl : m_kf = r := Option.some.inj (f_m_kf.symm.trans hr)
            rw [n_b_kf, n_m_kf, f_o_ln]
            exact eb_kf
          case o90 =>
            obtain rfl : qo_ln = b := Option.some.inj (f_qo_ln.symm.trans hb)
            obtain rfl : b_sf = a := Option.some.inj (f_b_sf.symm.trans ha)
            obtain rfl : m_sf = r := Option.some.inj (f_m_sf.symm.trans hr)
            rw [n_b_sf, n_m_sf, f_o_ln]
            exact eb_sf
          case o91 =>
            obtain rfl : qo_ln = b := Option.some.inj (f_qo_ln.symm.trans hb)
            obtain rfl : b_df = a := Option.some.inj (f_b_df.symm.trans ha)
            obtain rfl : b_bf = r := Option.some.inj (f_b_bf.symm.trans hr)
            rw [n_b_df, n_b_bf, f_o_ln]
            exact ⟨hBD, hDY⟩
          case o92 =>
            obtain rfl : qw = w := Option.some.inj (f_qw.symm.trans hw)
            obtain rfl : ql = q := Option.some.inj (f_ql.symm.trans hq)
            obtain rfl : qc = c := Option.some.inj (f_qc.symm.trans hc)
            exact sb_list
          case o93 =>
            obtain rfl : qw = w := Option.some.inj (f_qw.symm.trans hw)
            obtain rfl : ql = q := Option.some.inj (f_ql.symm.trans hq)
            obtain rfl : m_lst = r := Option.some.inj (f_m_lst.symm.trans hr)
            rw [cl_lst, n_lst]
            exact eq_lst
          case o94 =>
            obtain rfl : qw = w := Option.some.inj (f_qw.symm.trans hw)
            obtain rfl : qlt = q := Option.some.inj (f_qlt.symm.trans hq)
            obtain rfl : m_wkd = r := Option.some.inj (f_m_wkd.symm.trans hr)
            rw [n_qlt, n_m_wkd, f_o_wkm]
            exact eb_wkd
          case o95 =>
            obtain rfl : qc = c := Option.some.inj (f_qc.symm.trans hc)
            obtain rfl : qp = q := Option.some.inj (f_qp.symm.trans hq)
            obtain rfl : m_aga = a := Option.some.inj (f_m_aga.symm.trans ha)
            rw [n_aga, f_x_claimCount]
            exact hw_DF_e hDF rfl rfl
          case o96 =>
            obtain rfl : qtp = q := Option.some.inj (f_qtp.symm.trans hq)
            obtain rfl : m_tp = r := Option.some.inj (f_m_tp.symm.trans hr)
            exact n_qtp.trans n_tp.symm
          case o97 =>
            obtain rfl : qa = q := Option.some.inj (f_qa.symm.trans hq)
            obtain rfl : qwo = w := Option.some.inj (f_qwo.symm.trans hw)
            obtain rfl : m_ad = a := Option.some.inj (f_m_ad.symm.trans ha)
            obtain rfl : mr = b := Option.some.inj (f_mr.symm.trans hb)
            obtain rfl : mn = c := Option.some.inj (f_mn.symm.trans hc)
            obtain rfl : mp = d := Option.some.inj (f_mp.symm.trans hd)
            obtain rfl : qc = e := Option.some.inj (f_qc.symm.trans he)
            obtain rfl : ml = p := Option.some.inj (f_ml.symm.trans hp)
            exact ⟨_, by rw [f_x_actCount]; exact hRA9, by rw [f_x_actCount, n_ad, n_mr, n_mn, n_mp]; exact hCA9, by rw [n_ml, f_x_claimCount]; exact hv_AC_e hAC9 rfl rfl rfl, hAB⟩
          case o98 =>
            obtain rfl : qc = c := Option.some.inj (f_qc.symm.trans hc)
            obtain rfl : qp = q := Option.some.inj (f_qp.symm.trans hq)
            obtain rfl : m_by = a := Option.some.inj (f_m_by.symm.trans ha)
            rw [n_by, f_x_claimCount]
            exact hw_DF_e hDP rfl rfl
          case o99 =>
            obtain rfl : qh = q := Option.some.inj (f_qh.symm.trans hq)
            obtain rfl : qc = c := Option.some.inj (f_qc.symm.trans hc)
            obtain rfl : m_ho = a := Option.some.inj (f_m_ho.symm.trans ha)
            rw [fw_516, fw_489, f_x_claimCount]
            exact hv_HL_e hHLn9 hq_ho rfl rfl
          case o100 =>
            obtain rfl : m_ho = a := Option.some.inj (f_m_ho.symm.trans ha)
            obtain rfl : mh = b := Option.some.inj (f_mh.symm.trans hb)
            rw [fw_516, fw_514, fw_513, f_m_claims]
            exact hHOn
          case o101 =>
            obtain rfl : qc = c := Option.some.inj (f_qc.symm.trans hc)
            obtain rfl : m_fc = a := Option.some.inj (f_m_fc.symm.trans ha)
            obtain rfl : m_nt = b := Option.some.inj (f_m_nt.symm.trans hb)
            obtain rfl : m_wt = d := Option.some.inj (f_m_wt.symm.trans hd)
            obtain rfl : m_sum = e := Option.some.inj (f_m_sum.symm.trans he)
            obtain rfl : mh = f := Option.some.inj (f_mh.symm.trans hf)
            exact ⟨cF9, by rw [f_x_claimCount]; exact hFXn9, by rw [fw_517, n_nt, n_wt, n_sum, fw_514, f_x_claimCount]; exact hFRn⟩
          case o102 =>
            obtain rfl : qc = c := Option.some.inj (f_qc.symm.trans hc)
            obtain rfl : m_be = a := Option.some.inj (f_m_be.symm.trans ha)
            rw [fw_518, f_x_claimCount]
            exact hv_FX_e hBXn9 hq_be rfl
          case o103 =>
            obtain rfl : qo_py = p := Option.some.inj (f_qo_py.symm.trans hp)
            obtain rfl : y_p0 = q := Option.some.inj (f_y_p0.symm.trans hq)
            obtain rfl : m_p0 = r := Option.some.inj (f_m_p0.symm.trans hr)
            exact n_y_p0.trans n_p0.symm
          case o104 =>
            obtain rfl : qo_py = p := Option.some.inj (f_qo_py.symm.trans hp)
            obtain rfl : y_p1 = q := Option.some.inj (f_y_p1.symm.trans hq)
            obtain rfl : m_p1 = r := Option.some.inj (f_m_p1.symm.trans hr)
            exact n_y_p1.trans n_p1.symm
          case o105 =>
            obtain rfl : qo_py = p := Option.some.inj (f_qo_py.symm.trans hp)
            obtain rfl : y_p2 = q := Option.some.inj (f_y_p2.symm.trans hq)
            obtain rfl : m_p2 = r := Option.some.inj (f_m_p2.symm.trans hr)
            exact n_y_p2.trans n_p2.symm
          case o106 =>
            obtain rfl : qo_py = p := Option.some.inj (f_qo_py.symm.trans hp)
            obtain rfl : y_p3 = q := Option.some.inj (f_y_p3.symm.trans hq)
            obtain rfl : m_p3 = r := Option.some.inj (f_m_p3.symm.trans hr)
            exact n_y_p3.trans n_p3.symm
          case o107 =>
            obtain rfl : qo_py = p := Option.some.inj (f_qo_py.symm.trans hp)
            obtain rfl : y_p4 = q := Option.some.inj (f_y_p4.symm.trans hq)
            obtain rfl : m_p4 = r := Option.some.inj (f_m_p4.symm.trans hr)
            exact n_y_p4.trans n_p4.symm
          case o108 =>
            obtain rfl : qrg9 = p := Option.some.inj (f_qrg9.symm.trans hp)
            rw [ffv_465, ffv_466, ffv_467]
            exact hNQ9
          case o109 =>
            obtain rfl : qrg9 = p := Option.some.inj (f_qrg9.symm.trans hp)
            obtain rfl : y_ls = q := Option.some.inj (f_y_ls.symm.trans hq)
            obtain rfl : m_rl = r := Option.some.inj (f_m_rl.symm.trans hr)
            rw [n_y_ls, n_m_rl, ffv_465]
            exact hRL9
          case o110 =>
            rw [cl_dead, n_dead]
            exact eq_dead
          case o111 =>
            rw [cl_isj, n_isj]
            exact eq_isj
          case o112 =>
            rw [cl_dox, n_dox]
            exact eq_dox
          case o113 =>
            rw [cl_doy, n_doy]
            exact eq_doy
          case o114 =>
            rw [cl_fou, n_m_fou]
            exact eq_fou
          case o115 =>
            rw [cl_tri, n_mt]
            exact eq_tri
          case o116 =>
            obtain rfl : qw = w := Option.some.inj (f_qw.symm.trans hw)
            obtain rfl : ql = q := Option.some.inj (f_ql.symm.trans hq)
            exact pf_ql
          case o117 =>
            rw [n_mw]
            exact hwd
          case o118 =>
            rw [n_mr, f_m_acts]
            exact hWK
          case o119 =>
            rw [n_mp, n_mn, f_m_acts]
            exact hRP
          case o120 =>
            rw [n_ml, f_m_claims, f_m_acts]
            exact hPL
          case o121 =>
            rw [fw_514, fw_513, f_m_claims]
            exact hHCn9
          case o122 =>
            rw [n_mt]
            refine (hx_TR_le hTR ?o123)
            case o123 => omega
          case o124 =>
            rw [fw_514, n_m_fou, f_m_claims]
            exact (hx_HF_h hHF hHFn9)
        refine hb_if_eq (zx := x_475.toInt) (tgt := 875) hx hb rfl dL_law_868 ?o125 (fun c_519 => ?_) (fun c_519 => ?_)
        case o125 => decide
        · skip
          refine lv_iconst (v := 0) hx hb dL_law_875 ?o126 ?_
          case o126 => decide
          have zj_876 : (0 : Int32).toInt = 0 := ?o127
          case o127 => decide
          refine jn_876 (0 : Int32) ls ?o128 ?o129 ?o130 hl
          case o128 => decide
          case o129 => decide
          case o130 => omega
        · skip
          refine lv_iconst (v := 1) hx hb dL_law_871 ?o131 ?_
          case o131 => decide
          refine lv_goto (tgt := 876) hx hb dL_law_872 ?o132 ?_
          case o132 => decide
          have zj_876 : (1 : Int32).toInt = 1 := ?o133
          case o133 => decide
          refine jn_876 (1 : Int32) ls ?o134 ?o135 ?o136 hl
          case o134 => decide
          case o135 => decide
          case o136 => omega
      refine hb_if_eq (zx := x_472.toInt) (tgt := 862) hx hb rfl dL_law_855 ?o137 (fun c_520 => ?_) (fun c_520 => ?_)
      case o137 => decide
      · skip
        refine lv_iconst (v := 0) hx hb dL_law_862 ?o138 ?_
        case o138 => decide
        have zj_863 : (0 : Int32).toInt = 0 := ?o139
        case o139 => decide
        refine jn_863 (0 : Int32) ls ?o140 ?o141 ?o142 hl
        case o140 => decide
        case o141 => decide
        case o142 => omega
      · skip
        refine lv_iconst (v := 1) hx hb dL_law_858 ?o143 ?_
        case o143 => decide
        refine lv_goto (tgt := 863) hx hb dL_law_859 ?o144 ?_
        case o144 => decide
        have zj_863 : (1 : Int32).toInt = 1 := ?o145
        case o145 => decide
        refine jn_863 (1 : Int32) ls ?o146 ?o147 ?o148 hl
        case o146 => decide
        case o147 => decide
        case o148 => omega
    refine hb_if_eq (zx := x_475.toInt) (tgt := 834) hx hb rfl dL_law_827 ?o149 (fun c_521 => ?_) (fun c_521 => ?_)
    case o149 => decide
    · skip
      refine lv_iconst (v := 0) hx hb dL_law_834 ?o150 ?_
      case o150 => decide
      have zj_835 : (0 : Int32).toInt = 0 := ?o151
      case o151 => decide
      refine jn_835 (0 : Int32) ls ?o152 ?o153 ?o154 hl
      case o152 => decide
      case o153 => decide
      case o154 => omega
    · skip
      refine lv_iconst (v := 1) hx hb dL_law_830 ?o155 ?_
      case o155 => decide
      refine lv_goto (tgt := 835) hx hb dL_law_831 ?o156 ?_
      case o156 => decide
      have zj_835 : (1 : Int32).toInt = 1 := ?o157
      case o157 => decide
      refine jn_835 (1 : Int32) ls ?o158 ?o159 ?o160 hl
      case o158 => decide
      case o159 => decide
      case o160 => omega
  refine hb_if_eq (zx := x_472.toInt) (tgt := 821) hx hb rfl dL_law_814 ?o161 (fun c_522 => ?_) (fun c_522 => ?_)
  case o161 => decide
  · skip
    refine lv_iconst (v := 0) hx hb dL_law_821 ?o162 ?_
    case o162 => decide
    have zj_822 : (0 : Int32).toInt = 0 := ?o163
    case o163 => decide
    refine jn_822 (0 : Int32) ls ?o164 ?o165 ?o166 hl
    case o164 => decide
    case o165 => decide
    case o166 => omega
  · skip
    refine lv_iconst (v := 1) hx hb dL_law_817 ?o167 ?_
    case o167 => decide
    refine lv_goto (tgt := 822) hx hb dL_law_818 ?o168 ?_
    case o168 => decide
    have zj_822 : (1 : Int32).toInt = 1 := ?o169
    case o169 => decide
    refine jn_822 (1 : Int32) ls ?o170 ?o171 ?o172 hl
    case o170 => decide
    case o171 => decide
    case o172 => omega

set_option maxHeartbeats 4000000 in
set_option maxRecDepth 100000 in
theorem law_case_14 {p : Program} {e : Env} {s : State} {m : MethodId} {below : List Frame} {meth : Method} {c : Code} (l : Launch) {b LN : Nat} {xs : Nat → Int32} (hx : p.tables.exec = Jvm.exec) (hb : c.code = code) (hr : meth.sig.returnType = ret) (hlocks : meth.locks = false) (hml : c.maxLocals = 4) (hown : s.vm.findClass "SmallCourtLaw" = some m.cls) (hts : ∀ w ∈ hx_all, w.before #[Value.ref b] s = true) (hX : va_X b LN xs s s.heap) (hbl : b < s.heap.size) (hbA : ¬ s.heap.size ≤ b) (hLN : LN ≤ 3584) (dC : Nat → ClassId) (dI : Nat → Nat → Nat) (dA : Nat → ClassId) (b0 : hx_z) (ax am : Nat) (T1 : Int) (hT0 : 0 ≤ T1) (hT1 : T1 ≤ 511) (i : Int32) (hi0 : 0 ≤ i.toInt) (hiL : i.toInt + 7 ≤ LN) (CC SS : Nat) (hCC : CC + 3 ≤ 600000) (hSS : SS + 179 ≤ 7302250) (L1 : List Nat) (hl1 : hx_h) (H : Heap) (locs : List Loc) (ls : Array Slot) (hW : hx_W T_tb (P_ty dA) (dC, dI) vwCl (fun q : Nat => s.heap.size ≤ q) s.heap L1 hl1 s H locs) (hZ : hx_Xt (fun q : Nat => s.heap.size ≤ q) b0 s) (hI : hx_IV T1 ax am L1 hl1) (hl : lv_has ls 4 [(3, .int i), (2, .ref am), (1, .ref ax), (0, .ref b)]) (kk : ∀ (L2 : List Nat) (h2 : hx_h) (H2 : Heap) (locs2 : List Loc) (ls2 : Array Slot), hx_W T_tb (P_ty dA) (dC, dI) vwCl (fun q : Nat => s.heap.size ≤ q) s.heap L2 h2 s H2 locs2 → hx_IV (T1 + 1) ax am L2 h2 → lv_has ls2 4 [(3, .int i), (2, .ref am), (1, .ref ax), (0, .ref b)] → W p l e room_1 s m #[Value.ref b] below meth c H2 locs2 (CC + 3) (SS + 179) (lw_Z below #[Value.ref b] s) (F0 m 1379 ls2 [])) : W p l e room_1 s m #[Value.ref b] below meth c H locs CC SS (lw_Z below #[Value.ref b] s) (F0 m 888 ls []) := by
  have hI9 := hI
  have hT := hI9.1
  replace hI9 := hI9.2
  have gx := hI9.1
  replace hI9 := hI9.2
  have gm := hI9.1
  replace hI9 := hI9.2
  have zq0_3 := hI9.1
  have he_nw := zq0_3.1
  replace zq0_3 := zq0_3.2
  have he_np := zq0_3.1
  replace zq0_3 := zq0_3.2
  have he_c0 := zq0_3.1
  replace zq0_3 := zq0_3.2
  have he_tl := zq0_3.1
  replace zq0_3 := zq0_3.2
  have he_a0 := zq0_3.1
  replace zq0_3 := zq0_3.2
  have he_m0 := zq0_3.1
  replace zq0_3 := zq0_3.2
  have ho_ln := zq0_3.1
  replace zq0_3 := zq0_3.2
  have ho_lsd := zq0_3.1
  replace zq0_3 := zq0_3.2
  have ho_wkm := zq0_3.1
  replace zq0_3 := zq0_3.2
  have ho_py := zq0_3.1
  replace zq0_3 := zq0_3.2
  have hn_qp := zq0_3.1
  replace zq0_3 := zq0_3.2
  have hn_qc := zq0_3.1
  replace zq0_3 := zq0_3.2
  have hk_of := zq0_3.1
  replace zq0_3 := zq0_3.2
  have hk_wf := zq0_3.1
  replace zq0_3 := zq0_3.2
  have hk_df := zq0_3.1
  replace zq0_3 := zq0_3.2
  have hk_kf := zq0_3.1
  replace zq0_3 := zq0_3.2
  have hk_sf := zq0_3.1
  replace zq0_3 := zq0_3.2
  have hkBD := zq0_3.1
  replace zq0_3 := zq0_3.2
  have hLQ := zq0_3.1
  replace zq0_3 := zq0_3.2
  have hLE := zq0_3.1
  replace zq0_3 := zq0_3.2
  have hkWD := zq0_3.1
  replace zq0_3 := zq0_3.2
  have hkDF := zq0_3.1
  replace zq0_3 := zq0_3.2
  have hkTP := zq0_3.1
  replace zq0_3 := zq0_3.2
  have hkAC := zq0_3.1
  replace zq0_3 := zq0_3.2
  have hkDP := zq0_3.1
  replace zq0_3 := zq0_3.2
  have hkHL := zq0_3.1
  replace zq0_3 := zq0_3.2
  have hkHO := zq0_3.1
  replace zq0_3 := zq0_3.2
  have hkFX := zq0_3.1
  replace zq0_3 := zq0_3.2
  have hkBX := zq0_3.1
  replace zq0_3 := zq0_3.2
  have hf_bor := zq0_3.1
  replace zq0_3 := zq0_3.2
  have hf_kin := zq0_3.1
  replace zq0_3 := zq0_3.2
  have hf_sum := zq0_3.1
  replace zq0_3 := zq0_3.2
  have hf_fro := zq0_3.1
  replace zq0_3 := zq0_3.2
  have hf_fil := zq0_3.1
  replace zq0_3 := zq0_3.2
  have hf_hea := zq0_3.1
  replace zq0_3 := zq0_3.2
  have hf_jud := zq0_3.1
  replace zq0_3 := zq0_3.2
  have hf_ear := zq0_3.1
  replace zq0_3 := zq0_3.2
  have hf_hds := zq0_3.1
  replace zq0_3 := zq0_3.2
  have hf_ord := zq0_3.1
  replace zq0_3 := zq0_3.2
  have hf_wkl := zq0_3.1
  replace zq0_3 := zq0_3.2
  have hf_owd := zq0_3.1
  replace zq0_3 := zq0_3.2
  have hf_gds := zq0_3.1
  replace zq0_3 := zq0_3.2
  have hf_szd := zq0_3.1
  replace zq0_3 := zq0_3.2
  have hf_srv := zq0_3.1
  replace zq0_3 := zq0_3.2
  have hkP0 := zq0_3.1
  replace zq0_3 := zq0_3.2
  have hkP1 := zq0_3.1
  replace zq0_3 := zq0_3.2
  have hkP2 := zq0_3.1
  replace zq0_3 := zq0_3.2
  have hkP3 := zq0_3.1
  replace zq0_3 := zq0_3.2
  have hkP4 := zq0_3.1
  replace zq0_3 := zq0_3.2
  have hkNQ := zq0_3.1
  replace zq0_3 := zq0_3.2
  have hkRL := zq0_3.1
  replace zq0_3 := zq0_3.2
  have hc_dead := zq0_3.1
  replace zq0_3 := zq0_3.2
  have hc_isj := zq0_3.1
  replace zq0_3 := zq0_3.2
  have hc_dox := zq0_3.1
  replace zq0_3 := zq0_3.2
  have hc_doy := zq0_3.1
  replace zq0_3 := zq0_3.2
  have hc_fou := zq0_3.1
  replace zq0_3 := zq0_3.2
  have hc_tri := zq0_3.1
  replace zq0_3 := zq0_3.2
  replace hI9 := hI9.2
  have zq0_4 := hI9.1
  have ia := zq0_4.1
  replace zq0_4 := zq0_4.2
  have ip := zq0_4.1
  replace zq0_4 := zq0_4.2
  have ic := zq0_4.1
  replace zq0_4 := zq0_4.2
  have ih := zq0_4.1
  replace zq0_4 := zq0_4.2
  have il := zq0_4
  replace hI9 := hI9.2
  have zq0_5 := hI9
  have jw := zq0_5.1
  replace zq0_5 := zq0_5.2
  have jr := zq0_5.1
  replace zq0_5 := zq0_5.2
  have jp := zq0_5.1
  replace zq0_5 := zq0_5.2
  have jl := zq0_5.1
  replace zq0_5 := zq0_5.2
  have jh := zq0_5.1
  replace zq0_5 := zq0_5.2
  have jt := zq0_5.1
  replace zq0_5 := zq0_5.2
  have jf := zq0_5
  obtain ⟨qa, f_qa, g_qa⟩ := hx_rf hT gx tt_9 (k := 5) (u := 43) rfl
  have pf_qa := ia qa f_qa
  obtain ⟨qp, f_qp, g_qp⟩ := hx_rf hT gx tt_9 (k := 7) (u := 44) rfl
  have pf_qp := ip qp f_qp
  obtain ⟨qc, f_qc, g_qc⟩ := hx_rf hT gx tt_9 (k := 10) (u := 45) rfl
  have pf_qc := ic qc f_qc
  obtain ⟨qh, f_qh, g_qh⟩ := hx_rf hT gx tt_9 (k := 12) (u := 46) rfl
  have pf_qh := ih qh f_qh
  obtain ⟨qw, f_qw, g_qw⟩ := hx_rf hT gx tt_9 (k := 19) (u := 8) rfl
  obtain ⟨ql, f_ql, g_ql⟩ := hx_rf hT g_qw tt_8 (k := 3) (u := 40) rfl
  have pf_ql := il qw ql f_qw f_ql
  obtain ⟨nw, f_m_now⟩ : ∃ y : Int32, hl1.2.1 am 0 = y := ⟨_, rfl⟩
  have b_nw := hT.gi gm tt_10 (k := 0) rfl
  rw [f_m_now] at b_nw
  have b_nw : 0 ≤ nw.toInt ∧ nw.toInt ≤ 7999 := b_nw
  obtain ⟨np, f_m_persons⟩ : ∃ y : Int32, hl1.2.1 am 20 = y := ⟨_, rfl⟩
  have b_np := hT.gi gm tt_10 (k := 20) rfl
  rw [f_m_persons] at b_np
  have b_np : 0 ≤ np.toInt ∧ np.toInt ≤ 40 := b_np
  obtain ⟨c0, f_m_claims⟩ : ∃ y : Int32, hl1.2.1 am 36 = y := ⟨_, rfl⟩
  have b_c0 := hT.gi gm tt_10 (k := 36) rfl
  rw [f_m_claims] at b_c0
  have b_c0 : 0 ≤ c0.toInt ∧ c0.toInt ≤ 100 := b_c0
  obtain ⟨tl, f_m_taped⟩ : ∃ y : Int32, hl1.2.1 am 7 = y := ⟨_, rfl⟩
  have b_tl := hT.gi gm tt_10 (k := 7) rfl
  rw [f_m_taped] at b_tl
  have b_tl : 0 ≤ tl.toInt ∧ tl.toInt ≤ 400 := b_tl
  obtain ⟨a0, f_m_acts⟩ : ∃ y : Int32, hl1.2.1 am 1 = y := ⟨_, rfl⟩
  have b_a0 := hT.gi gm tt_10 (k := 1) rfl
  rw [f_m_acts] at b_a0
  have b_a0 : 0 ≤ a0.toInt ∧ a0.toInt ≤ 8 := b_a0
  obtain ⟨m0, f_m_heardMany⟩ : ∃ y : Int32, hl1.2.1 am 57 = y := ⟨_, rfl⟩
  have b_m0 := hT.gi gm tt_10 (k := 57) rfl
  rw [f_m_heardMany] at b_m0
  have b_m0 : 0 ≤ m0.toInt ∧ m0.toInt ≤ 100 := b_m0
  obtain ⟨ln, f_m_lines⟩ : ∃ y : Int32, hl1.2.1 am 29 = y := ⟨_, rfl⟩
  have b_ln := hT.gi gm tt_10 (k := 29) rfl
  rw [f_m_lines] at b_ln
  have b_ln : 0 ≤ ln.toInt ∧ ln.toInt ≤ 400 := b_ln
  obtain ⟨lsd, f_m_listed⟩ : ∃ y : Int32, hl1.2.1 am 90 = y := ⟨_, rfl⟩
  have b_lsd := hT.gi gm tt_10 (k := 90) rfl
  rw [f_m_listed] at b_lsd
  have b_lsd : 0 ≤ lsd.toInt ∧ lsd.toInt ≤ 8 := b_lsd
  obtain ⟨wkm, f_m_walkedMany⟩ : ∃ y : Int32, hl1.2.1 am 92 = y := ⟨_, rfl⟩
  have b_wkm := hT.gi gm tt_10 (k := 92) rfl
  rw [f_m_walkedMany] at b_wkm
  have b_wkm : 0 ≤ wkm.toInt ∧ wkm.toInt ≤ 8 := b_wkm
  obtain ⟨py, f_m_payments⟩ : ∃ y : Int32, hl1.2.1 am 59 = y := ⟨_, rfl⟩
  have b_py := hT.gi gm tt_10 (k := 59) rfl
  rw [f_m_payments] at b_py
  have b_py : 0 ≤ py.toInt ∧ py.toInt ≤ 600 := b_py
  have f_x_now : hl1.2.1 ax 2 = nw := he_nw.trans f_m_now
  have f_x_personCount : hl1.2.1 ax 8 = np := he_np.trans f_m_persons
  have f_x_claimCount : hl1.2.1 ax 11 = c0 := he_c0.trans f_m_claims
  have f_x_tapeLength : hl1.2.1 ax 1 = tl := he_tl.trans f_m_taped
  have f_x_actCount : hl1.2.1 ax 6 = a0 := he_a0.trans f_m_acts
  have f_x_heardCount : hl1.2.1 ax 13 = m0 := he_m0.trans f_m_heardMany
  obtain ⟨mw, f_mw, g_mw⟩ := hx_rf hT gm tt_10 (k := 19) (u := 57) rfl
  obtain ⟨F_mw, n_mw⟩ : ∃ g : Nat → Int32, hl1.2.1 mw = g := ⟨_, rfl⟩
  obtain ⟨mr, f_mr, g_mr⟩ := hx_rf hT gm tt_10 (k := 3) (u := 50) rfl
  obtain ⟨F_mr, n_mr⟩ : ∃ g : Nat → Int32, hl1.2.1 mr = g := ⟨_, rfl⟩
  obtain ⟨mp, f_mp, g_mp⟩ := hx_rf hT gm tt_10 (k := 5) (u := 52) rfl
  obtain ⟨F_mp, n_mp⟩ : ∃ g : Nat → Int32, hl1.2.1 mp = g := ⟨_, rfl⟩
  obtain ⟨mn, f_mn, g_mn⟩ := hx_rf hT gm tt_10 (k := 4) (u := 51) rfl
  obtain ⟨F_mn, n_mn⟩ : ∃ g : Nat → Int32, hl1.2.1 mn = g := ⟨_, rfl⟩
  obtain ⟨ml, f_ml, g_ml⟩ := hx_rf hT gm tt_10 (k := 44) (u := 79) rfl
  obtain ⟨F_ml, n_ml⟩ : ∃ g : Nat → Int32, hl1.2.1 ml = g := ⟨_, rfl⟩
  obtain ⟨mh, f_mh, g_mh⟩ := hx_rf hT gm tt_10 (k := 47) (u := 82) rfl
  obtain ⟨F_mh, n_mh⟩ : ∃ g : Nat → Int32, hl1.2.1 mh = g := ⟨_, rfl⟩
  obtain ⟨mt, f_mt, g_mt⟩ := hx_rf hT gm tt_10 (k := 45) (u := 80) rfl
  obtain ⟨F_mt, n_mt⟩ : ∃ g : Nat → Int32, hl1.2.1 mt = g := ⟨_, rfl⟩
  obtain ⟨m_fou, f_m_fou, g_m_fou⟩ := hx_rf hT gm tt_10 (k := 46) (u := 81) rfl
  obtain ⟨F_m_fou, n_m_fou⟩ : ∃ g : Nat → Int32, hl1.2.1 m_fou = g := ⟨_, rfl⟩
  obtain ⟨qo_ln, f_qo_ln, g_qo_ln⟩ := hx_rf hT gx tt_9 (k := 9) (u := 1) rfl
  have f_o_ln : hl1.2.1 qo_ln 0 = ln := (ho_ln qo_ln f_qo_ln).trans f_m_lines
  have f_o_lsd : hl1.2.1 qw 0 = lsd := (ho_lsd qw f_qw).trans f_m_listed
  have f_o_wkm : hl1.2.1 qw 1 = wkm := (ho_wkm qw f_qw).trans f_m_walkedMany
  obtain ⟨qo_py, f_qo_py, g_qo_py⟩ := hx_rf hT gx tt_9 (k := 14) (u := 3) rfl
  have f_o_py : hl1.2.1 qo_py 0 = py := (ho_py qo_py f_qo_py).trans f_m_payments
  have nu_qp := hn_qp qp f_qp; rw [f_x_personCount] at nu_qp
  have nu_qc := hn_qc qc f_qc; rw [f_x_claimCount] at nu_qc
  obtain ⟨b_of, f_b_of, g_b_of⟩ := hx_rf hT g_qo_ln tt_1 (k := 1) (u := 13) rfl
  obtain ⟨B_of, n_b_of⟩ : ∃ g : Nat → Int32, hl1.2.1 b_of = g := ⟨_, rfl⟩
  obtain ⟨m_of, f_m_of, g_m_of⟩ := hx_rf hT gm tt_10 (k := 30) (u := 66) rfl
  obtain ⟨F_of, n_m_of⟩ : ∃ g : Nat → Int32, hl1.2.1 m_of = g := ⟨_, rfl⟩
  have eb_of := hk_of qo_ln b_of m_of f_qo_ln f_b_of f_m_of; rw [n_b_of, n_m_of, f_o_ln] at eb_of
  obtain ⟨b_wf, f_b_wf, g_b_wf⟩ := hx_rf hT g_qo_ln tt_1 (k := 2) (u := 14) rfl
  obtain ⟨B_wf, n_b_wf⟩ : ∃ g : Nat → Int32, hl1.2.1 b_wf = g := ⟨_, rfl⟩
  obtain ⟨m_wf, f_m_wf, g_m_wf⟩ := hx_rf hT gm tt_10 (k := 31) (u := 67) rfl
  obtain ⟨F_wf, n_m_wf⟩ : ∃ g : Nat → Int32, hl1.2.1 m_wf = g := ⟨_, rfl⟩
  have eb_wf := hk_wf qo_ln b_wf m_wf f_qo_ln f_b_wf f_m_wf; rw [n_b_wf, n_m_wf, f_o_ln] at eb_wf
  obtain ⟨b_df, f_b_df, g_b_df⟩ := hx_rf hT g_qo_ln tt_1 (k := 3) (u := 15) rfl
  obtain ⟨B_df, n_b_df⟩ : ∃ g : Nat → Int32, hl1.2.1 b_df = g := ⟨_, rfl⟩
  obtain ⟨m_df, f_m_df, g_m_df⟩ := hx_rf hT gm tt_10 (k := 32) (u := 68) rfl
  obtain ⟨F_df, n_m_df⟩ : ∃ g : Nat → Int32, hl1.2.1 m_df = g := ⟨_, rfl⟩
  have eb_df := hk_df qo_ln b_df m_df f_qo_ln f_b_df f_m_df; rw [n_b_df, n_m_df, f_o_ln] at eb_df
  obtain ⟨b_kf, f_b_kf, g_b_kf⟩ := hx_rf hT g_qo_ln tt_1 (k := 4) (u := 16) rfl
  obtain ⟨B_kf, n_b_kf⟩ : ∃ g : Nat → Int32, hl1.2.1 b_kf = g := ⟨_, rfl⟩
  obtain ⟨m_kf, f_m_kf, g_m_kf⟩ := hx_rf hT gm tt_10 (k := 33) (u := 69) rfl
  obtain ⟨F_kf, n_m_kf⟩ : ∃ g : Nat → Int32, hl1.2.1 m_kf = g := ⟨_, rfl⟩
  have eb_kf := hk_kf qo_ln b_kf m_kf f_qo_ln f_b_kf f_m_kf; rw [n_b_kf, n_m_kf, f_o_ln] at eb_kf
  obtain ⟨b_sf, f_b_sf, g_b_sf⟩ := hx_rf hT g_qo_ln tt_1 (k := 5) (u := 17) rfl
  obtain ⟨B_sf, n_b_sf⟩ : ∃ g : Nat → Int32, hl1.2.1 b_sf = g := ⟨_, rfl⟩
  obtain ⟨m_sf, f_m_sf, g_m_sf⟩ := hx_rf hT gm tt_10 (k := 34) (u := 70) rfl
  obtain ⟨F_sf, n_m_sf⟩ : ∃ g : Nat → Int32, hl1.2.1 m_sf = g := ⟨_, rfl⟩
  have eb_sf := hk_sf qo_ln b_sf m_sf f_qo_ln f_b_sf f_m_sf; rw [n_b_sf, n_m_sf, f_o_ln] at eb_sf
  obtain ⟨b_bf, f_b_bf, g_b_bf⟩ := hx_rf hT g_qo_ln tt_1 (k := 6) (u := 18) rfl
  obtain ⟨bfL, n_b_bf⟩ : ∃ g : Nat → Int32, hl1.2.1 b_bf = g := ⟨_, rfl⟩
  obtain ⟨hBD, hDY⟩ := hkBD qo_ln b_df b_bf f_qo_ln f_b_df f_b_bf; rw [n_b_df, n_b_bf, f_o_ln] at hBD; rw [n_b_df, f_o_ln] at hDY
  have hBDm := hy_BD_c eb_df hBD
  have hDYm : hy_DY F_df ln.toInt.toNat := fun x hx => by rw [← eb_df x hx]; exact hDY x hx
  have sb_list := hLQ qw ql qc f_qw f_ql f_qc
  obtain ⟨m_lst, f_m_lst, g_m_lst⟩ := hx_rf hT gm tt_10 (k := 91) (u := 112) rfl
  obtain ⟨F_lst, n_lst⟩ : ∃ g : Nat → Int32, hl1.2.1 m_lst = g := ⟨_, rfl⟩
  obtain ⟨c_lst, cl_lst⟩ : ∃ g : Nat → Int32, hx_col 8 hl1 ql 0 = g := ⟨_, rfl⟩
  have eq_lst := hLE qw ql m_lst f_qw f_ql f_m_lst; rw [cl_lst, n_lst] at eq_lst
  obtain ⟨qtp, f_qtp, g_qtp⟩ := hx_rf hT gx tt_9 (k := 0) (u := 42) rfl
  obtain ⟨m_tp, f_m_tp, g_m_tp⟩ := hx_rf hT gm tt_10 (k := 6) (u := 53) rfl
  obtain ⟨F_tp, n_tp⟩ : ∃ g : Nat → Int32, hl1.2.1 m_tp = g := ⟨_, rfl⟩
  have n_qtp : hl1.2.1 qtp = F_tp := (hkTP qtp m_tp f_qtp f_m_tp).trans n_tp
  obtain ⟨c_dead, cl_dead⟩ : ∃ g : Nat → Int32, hx_col 40 hl1 qp 7 = g := ⟨_, rfl⟩
  obtain ⟨m_dead, f_m_dead, g_m_dead⟩ := hx_rf hT gm tt_10 (k := 27) (u := 64) rfl
  obtain ⟨F_dead, n_dead⟩ : ∃ g : Nat → Int32, hl1.2.1 m_dead = g := ⟨_, rfl⟩
  have eq_dead := hc_dead qp m_dead f_qp f_m_dead; rw [cl_dead, n_dead] at eq_dead
  have z_dead : np.toInt.toNat < 40 → c_dead np.toInt.toNat = 0 := fun hj => hx_num_z nu_qp cl_dead hj ?o0
  case o0 => omega
  obtain ⟨c_isj, cl_isj⟩ : ∃ g : Nat → Int32, hx_col 40 hl1 qp 8 = g := ⟨_, rfl⟩
  obtain ⟨m_isj, f_m_isj, g_m_isj⟩ := hx_rf hT gm tt_10 (k := 28) (u := 65) rfl
  obtain ⟨F_isj, n_isj⟩ : ∃ g : Nat → Int32, hl1.2.1 m_isj = g := ⟨_, rfl⟩
  have eq_isj := hc_isj qp m_isj f_qp f_m_isj; rw [cl_isj, n_isj] at eq_isj
  have z_isj : np.toInt.toNat < 40 → c_isj np.toInt.toNat = 0 := fun hj => hx_num_z nu_qp cl_isj hj ?o1
  case o1 => omega
  obtain ⟨c_dox, cl_dox⟩ : ∃ g : Nat → Int32, hx_col 40 hl1 qp 5 = g := ⟨_, rfl⟩
  obtain ⟨m_dox, f_m_dox, g_m_dox⟩ := hx_rf hT gm tt_10 (k := 24) (u := 61) rfl
  obtain ⟨F_dox, n_dox⟩ : ∃ g : Nat → Int32, hl1.2.1 m_dox = g := ⟨_, rfl⟩
  have eq_dox := hc_dox qp m_dox f_qp f_m_dox; rw [cl_dox, n_dox] at eq_dox
  have z_dox : np.toInt.toNat < 40 → c_dox np.toInt.toNat = 0 := fun hj => hx_num_z nu_qp cl_dox hj ?o2
  case o2 => omega
  obtain ⟨c_doy, cl_doy⟩ : ∃ g : Nat → Int32, hx_col 40 hl1 qp 6 = g := ⟨_, rfl⟩
  obtain ⟨m_doy, f_m_doy, g_m_doy⟩ := hx_rf hT gm tt_10 (k := 25) (u := 62) rfl
  obtain ⟨F_doy, n_doy⟩ : ∃ g : Nat → Int32, hl1.2.1 m_doy = g := ⟨_, rfl⟩
  have eq_doy := hc_doy qp m_doy f_qp f_m_doy; rw [cl_doy, n_doy] at eq_doy
  have z_doy : np.toInt.toNat < 40 → c_doy np.toInt.toNat = 0 := fun hj => hx_num_z nu_qp cl_doy hj ?o3
  case o3 => omega
  obtain ⟨c_fou, cl_fou⟩ : ∃ g : Nat → Int32, hx_col 100 hl1 qc 10 = g := ⟨_, rfl⟩
  have eq_fou := hc_fou qc m_fou f_qc f_m_fou; rw [cl_fou, n_m_fou] at eq_fou
  have z_fou : c0.toInt.toNat < 100 → c_fou c0.toInt.toNat = 0 := fun hj => hx_num_z nu_qc cl_fou hj ?o4
  case o4 => omega
  obtain ⟨c_tri, cl_tri⟩ : ∃ g : Nat → Int32, hx_col 100 hl1 qc 9 = g := ⟨_, rfl⟩
  have eq_tri := hc_tri qc mt f_qc f_mt; rw [cl_tri, n_mt] at eq_tri
  have z_tri : c0.toInt.toNat < 100 → c_tri c0.toInt.toNat = 0 := fun hj => hx_num_z nu_qc cl_tri hj ?o5
  case o5 => omega
  obtain ⟨qlt, f_qlt, g_qlt⟩ := hx_rf hT g_qw tt_8 (k := 2) (u := 39) rfl
  obtain ⟨qlf, f_qlf, g_qlf⟩ := hx_rf hT g_qw tt_8 (k := 4) (u := 41) rfl
  obtain ⟨m_wkd, f_m_wkd, g_m_wkd⟩ := hx_rf hT gm tt_10 (k := 93) (u := 113) rfl
  obtain ⟨F_qlt, n_qlt⟩ : ∃ g : Nat → Int32, hl1.2.1 qlt = g := ⟨_, rfl⟩
  obtain ⟨F_m_wkd, n_m_wkd⟩ : ∃ g : Nat → Int32, hl1.2.1 m_wkd = g := ⟨_, rfl⟩
  have eb_wkd := hkWD qw qlt m_wkd f_qw f_qlt f_m_wkd; rw [n_qlt, n_m_wkd, f_o_wkm] at eb_wkd
  obtain ⟨m_aga, f_m_aga, g_m_aga⟩ := hx_rf hT gm tt_10 (k := 38) (u := 73) rfl
  obtain ⟨F_aga, n_aga⟩ : ∃ g : Nat → Int32, hl1.2.1 m_aga = g := ⟨_, rfl⟩
  have hDF := hkDF qc qp m_aga f_qc f_qp f_m_aga; rw [n_aga, f_x_claimCount] at hDF
  obtain ⟨qwo, f_qwo, g_qwo⟩ := hx_rf hT gx tt_9 (k := 4) (u := 0) rfl
  obtain ⟨m_ad, f_m_ad, g_m_ad⟩ := hx_rf hT gm tt_10 (k := 2) (u := 49) rfl
  obtain ⟨F_ad, n_ad⟩ : ∃ g : Nat → Int32, hl1.2.1 m_ad = g := ⟨_, rfl⟩
  obtain ⟨A9, hRA9, hCA9, hAC9, hAB⟩ := hkAC qa qwo m_ad mr mn mp qc ml f_qa f_qwo f_m_ad f_mr f_mn f_mp f_qc f_ml
  rw [f_x_actCount] at hRA9; rw [f_x_actCount, n_ad, n_mr, n_mn, n_mp] at hCA9
  obtain ⟨m_by, f_m_by, g_m_by⟩ := hx_rf hT gm tt_10 (k := 37) (u := 72) rfl
  obtain ⟨F_by, n_by⟩ : ∃ g : Nat → Int32, hl1.2.1 m_by = g := ⟨_, rfl⟩
  obtain ⟨m_ho, f_m_ho, g_m_ho⟩ := hx_rf hT gm tt_10 (k := 58) (u := 92) rfl
  obtain ⟨F_ho, n_ho⟩ : ∃ g : Nat → Int32, hl1.2.1 m_ho = g := ⟨_, rfl⟩
  obtain ⟨m_fc, f_m_fc, g_m_fc⟩ := hx_rf hT gm tt_10 (k := 53) (u := 88) rfl
  obtain ⟨F_fc, n_fc⟩ : ∃ g : Nat → Int32, hl1.2.1 m_fc = g := ⟨_, rfl⟩
  obtain ⟨m_nt, f_m_nt, g_m_nt⟩ := hx_rf hT gm tt_10 (k := 41) (u := 76) rfl
  obtain ⟨F_nt, n_nt⟩ : ∃ g : Nat → Int32, hl1.2.1 m_nt = g := ⟨_, rfl⟩
  obtain ⟨m_wt, f_m_wt, g_m_wt⟩ := hx_rf hT gm tt_10 (k := 42) (u := 77) rfl
  obtain ⟨F_wt, n_wt⟩ : ∃ g : Nat → Int32, hl1.2.1 m_wt = g := ⟨_, rfl⟩
  obtain ⟨m_be, f_m_be, g_m_be⟩ := hx_rf hT gm tt_10 (k := 52) (u := 87) rfl
  obtain ⟨F_be, n_be⟩ : ∃ g : Nat → Int32, hl1.2.1 m_be = g := ⟨_, rfl⟩
  obtain ⟨m_bor, f_m_bor, g_m_bor⟩ := hx_rf hT gm tt_10 (k := 21) (u := 58) rfl
  obtain ⟨F_bor, n_bor⟩ : ∃ g : Nat → Int32, hl1.2.1 m_bor = g := ⟨_, rfl⟩
  obtain ⟨m_kin, f_m_kin, g_m_kin⟩ := hx_rf hT gm tt_10 (k := 26) (u := 63) rfl
  obtain ⟨F_kin, n_kin⟩ : ∃ g : Nat → Int32, hl1.2.1 m_kin = g := ⟨_, rfl⟩
  obtain ⟨m_sum, f_m_sum, g_m_sum⟩ := hx_rf hT gm tt_10 (k := 39) (u := 74) rfl
  obtain ⟨F_sum, n_sum⟩ : ∃ g : Nat → Int32, hl1.2.1 m_sum = g := ⟨_, rfl⟩
  obtain ⟨m_fro, f_m_fro, g_m_fro⟩ := hx_rf hT gm tt_10 (k := 40) (u := 75) rfl
  obtain ⟨F_fro, n_fro⟩ : ∃ g : Nat → Int32, hl1.2.1 m_fro = g := ⟨_, rfl⟩
  obtain ⟨m_fil, f_m_fil, g_m_fil⟩ := hx_rf hT gm tt_10 (k := 43) (u := 78) rfl
  obtain ⟨F_fil, n_fil⟩ : ∃ g : Nat → Int32, hl1.2.1 m_fil = g := ⟨_, rfl⟩
  obtain ⟨m_jud, f_m_jud, g_m_jud⟩ := hx_rf hT gm tt_10 (k := 51) (u := 86) rfl
  obtain ⟨F_jud, n_jud⟩ : ∃ g : Nat → Int32, hl1.2.1 m_jud = g := ⟨_, rfl⟩
  obtain ⟨m_ear, f_m_ear, g_m_ear⟩ := hx_rf hT gm tt_10 (k := 22) (u := 59) rfl
  obtain ⟨F_ear, n_ear⟩ : ∃ g : Nat → Int32, hl1.2.1 m_ear = g := ⟨_, rfl⟩
  obtain ⟨m_hds, f_m_hds, g_m_hds⟩ := hx_rf hT gm tt_10 (k := 23) (u := 60) rfl
  obtain ⟨F_hds, n_hds⟩ : ∃ g : Nat → Int32, hl1.2.1 m_hds = g := ⟨_, rfl⟩
  obtain ⟨m_ord, f_m_ord, g_m_ord⟩ := hx_rf hT gm tt_10 (k := 48) (u := 83) rfl
  obtain ⟨F_ord, n_ord⟩ : ∃ g : Nat → Int32, hl1.2.1 m_ord = g := ⟨_, rfl⟩
  obtain ⟨m_wkl, f_m_wkl, g_m_wkl⟩ := hx_rf hT gm tt_10 (k := 54) (u := 89) rfl
  obtain ⟨F_wkl, n_wkl⟩ : ∃ g : Nat → Int32, hl1.2.1 m_wkl = g := ⟨_, rfl⟩
  obtain ⟨m_owd, f_m_owd, g_m_owd⟩ := hx_rf hT gm tt_10 (k := 55) (u := 90) rfl
  obtain ⟨F_owd, n_owd⟩ : ∃ g : Nat → Int32, hl1.2.1 m_owd = g := ⟨_, rfl⟩
  obtain ⟨m_gds, f_m_gds, g_m_gds⟩ := hx_rf hT gm tt_10 (k := 56) (u := 91) rfl
  obtain ⟨F_gds, n_gds⟩ : ∃ g : Nat → Int32, hl1.2.1 m_gds = g := ⟨_, rfl⟩
  obtain ⟨m_szd, f_m_szd, g_m_szd⟩ := hx_rf hT gm tt_10 (k := 49) (u := 84) rfl
  obtain ⟨F_szd, n_szd⟩ : ∃ g : Nat → Int32, hl1.2.1 m_szd = g := ⟨_, rfl⟩
  obtain ⟨m_srv, f_m_srv, g_m_srv⟩ := hx_rf hT gm tt_10 (k := 50) (u := 85) rfl
  obtain ⟨F_srv, n_srv⟩ : ∃ g : Nat → Int32, hl1.2.1 m_srv = g := ⟨_, rfl⟩
  have cl_bor : hx_col 40 hl1 qp 1 = F_bor := (hf_bor qp m_bor f_qp f_m_bor).trans n_bor
  have cl_kin : hx_col 40 hl1 qp 2 = F_kin := (hf_kin qp m_kin f_qp f_m_kin).trans n_kin
  have cl_sum : hx_col 100 hl1 qc 6 = F_sum := (hf_sum qc m_sum f_qc f_m_sum).trans n_sum
  have cl_fro : hx_col 100 hl1 qc 7 = F_fro := (hf_fro qc m_fro f_qc f_m_fro).trans n_fro
  have cl_fil : hx_col 100 hl1 qc 8 = F_fil := (hf_fil qc m_fil f_qc f_m_fil).trans n_fil
  have cl_hea : hx_col 100 hl1 qc 11 = F_mh := (hf_hea qc mh f_qc f_mh).trans n_mh
  have cl_jud : hx_col 100 hl1 qc 12 = F_jud := (hf_jud qc m_jud f_qc f_m_jud).trans n_jud
  have cl_ear : hx_col 40 hl1 qp 3 = F_ear := (hf_ear qp m_ear f_qp f_m_ear).trans n_ear
  have cl_hds : hx_col 40 hl1 qp 4 = F_hds := (hf_hds qp m_hds f_qp f_m_hds).trans n_hds
  have cl_ord : hx_col 100 hl1 qc 13 = F_ord := (hf_ord qc m_ord f_qc f_m_ord).trans n_ord
  have cl_wkl : hx_col 100 hl1 qc 14 = F_wkl := (hf_wkl qc m_wkl f_qc f_m_wkl).trans n_wkl
  have cl_owd : hx_col 100 hl1 qc 15 = F_owd := (hf_owd qc m_owd f_qc f_m_owd).trans n_owd
  have cl_gds : hx_col 100 hl1 qc 17 = F_gds := (hf_gds qc m_gds f_qc f_m_gds).trans n_gds
  have cl_szd : hx_col 100 hl1 qc 16 = F_szd := (hf_szd qc m_szd f_qc f_m_szd).trans n_szd
  have cl_srv : hx_col 100 hl1 qc 18 = F_srv := (hf_srv qc m_srv f_qc f_m_srv).trans n_srv
  have htb9 : ∀ c, c < 100 → 0 ≤ (c_tri c).toInt ∧ (c_tri c).toInt ≤ 512 := fun c hc => by rw [eq_tri c hc]; have w := hT.ei g_mt tt_80 (k := c) hc; rw [n_mt] at w; exact w
  have z_jud : F_jud c0.toInt.toNat = 0 := hx_num_z2 nu_qc cl_jud ?o6
  case o6 => omega
  have hDP := hkDP qc qp m_by f_qc f_qp f_m_by; rw [n_by, f_x_claimCount] at hDP
  have hHL := hkHL qh qc m_ho f_qh f_qc f_m_ho; rw [n_ho, f_x_heardCount, f_x_claimCount] at hHL
  have hHO9 := hkHO m_ho mh f_m_ho f_mh; rw [n_ho, n_mh, f_m_heardMany, f_m_claims] at hHO9
  obtain ⟨cF9L, hFX, hFR9⟩ := hkFX qc m_fc m_nt m_wt m_sum mh f_qc f_m_fc f_m_nt f_m_wt f_m_sum f_mh; rw [f_x_claimCount] at hFX; rw [n_fc, n_nt, n_wt, n_sum, n_mh, f_x_claimCount] at hFR9
  have hBX := hkBX qc m_be f_qc f_m_be; rw [n_be, f_x_claimCount] at hBX
  rw [n_ml, f_x_claimCount] at hAC9
  obtain ⟨y_p0, f_y_p0, g_y_p0⟩ := hx_rf hT g_qo_py tt_3 (k := 2) (u := 23) rfl
  obtain ⟨m_p0, f_m_p0, g_m_p0⟩ := hx_rf hT gm tt_10 (k := 60) (u := 93) rfl
  obtain ⟨F_p0, n_p0⟩ : ∃ g : Nat → Int32, hl1.2.1 m_p0 = g := ⟨_, rfl⟩
  have n_y_p0 : hl1.2.1 y_p0 = F_p0 := (hkP0 qo_py y_p0 m_p0 f_qo_py f_y_p0 f_m_p0).trans n_p0
  obtain ⟨y_p1, f_y_p1, g_y_p1⟩ := hx_rf hT g_qo_py tt_3 (k := 3) (u := 24) rfl
  obtain ⟨m_p1, f_m_p1, g_m_p1⟩ := hx_rf hT gm tt_10 (k := 61) (u := 94) rfl
  obtain ⟨F_p1, n_p1⟩ : ∃ g : Nat → Int32, hl1.2.1 m_p1 = g := ⟨_, rfl⟩
  have n_y_p1 : hl1.2.1 y_p1 = F_p1 := (hkP1 qo_py y_p1 m_p1 f_qo_py f_y_p1 f_m_p1).trans n_p1
  obtain ⟨y_p2, f_y_p2, g_y_p2⟩ := hx_rf hT g_qo_py tt_3 (k := 5) (u := 26) rfl
  obtain ⟨m_p2, f_m_p2, g_m_p2⟩ := hx_rf hT gm tt_10 (k := 62) (u := 95) rfl
  obtain ⟨F_p2, n_p2⟩ : ∃ g : Nat → Int32, hl1.2.1 m_p2 = g := ⟨_, rfl⟩
  have n_y_p2 : hl1.2.1 y_p2 = F_p2 := (hkP2 qo_py y_p2 m_p2 f_qo_py f_y_p2 f_m_p2).trans n_p2
  obtain ⟨y_p3, f_y_p3, g_y_p3⟩ := hx_rf hT g_qo_py tt_3 (k := 4) (u := 25) rfl
  obtain ⟨m_p3, f_m_p3, g_m_p3⟩ := hx_rf hT gm tt_10 (k := 63) (u := 96) rfl
  obtain ⟨F_p3, n_p3⟩ : ∃ g : Nat → Int32, hl1.2.1 m_p3 = g := ⟨_, rfl⟩
  have n_y_p3 : hl1.2.1 y_p3 = F_p3 := (hkP3 qo_py y_p3 m_p3 f_qo_py f_y_p3 f_m_p3).trans n_p3
  obtain ⟨y_p4, f_y_p4, g_y_p4⟩ := hx_rf hT g_qo_py tt_3 (k := 1) (u := 22) rfl
  obtain ⟨m_p4, f_m_p4, g_m_p4⟩ := hx_rf hT gm tt_10 (k := 64) (u := 97) rfl
  obtain ⟨F_p4, n_p4⟩ : ∃ g : Nat → Int32, hl1.2.1 m_p4 = g := ⟨_, rfl⟩
  have n_y_p4 : hl1.2.1 y_p4 = F_p4 := (hkP4 qo_py y_p4 m_p4 f_qo_py f_y_p4 f_m_p4).trans n_p4
  obtain ⟨qrg9, f_qrg9, g_qrg9⟩ := hx_rf hT gx tt_9 (k := 18) (u := 7) rfl
  obtain ⟨y_ls, f_y_ls, g_y_ls⟩ := hx_rf hT g_qrg9 tt_7 (k := 3) (u := 35) rfl
  obtain ⟨m_rl, f_m_rl, g_m_rl⟩ := hx_rf hT gm tt_10 (k := 85) (u := 109) rfl
  obtain ⟨F_y_ls, n_y_ls⟩ : ∃ g : Nat → Int32, hl1.2.1 y_ls = g := ⟨_, rfl⟩
  obtain ⟨F_m_rl, n_m_rl⟩ : ∃ g : Nat → Int32, hl1.2.1 m_rl = g := ⟨_, rfl⟩
  obtain ⟨fv_523, efv_523⟩ : ∃ y : Int32, y = hl1.2.1 qrg9 0 := ⟨_, rfl⟩
  have bfv_523 := hT.gi g_qrg9 tt_7 (k := 0) rfl
  rw [← efv_523] at bfv_523
  have bfv_523 : -1 ≤ fv_523.toInt ∧ fv_523.toInt ≤ 100 := bfv_523
  have ffv_523 := efv_523.symm
  obtain ⟨fv_524, efv_524⟩ : ∃ y : Int32, y = hl1.2.1 am 83 := ⟨_, rfl⟩
  have bfv_524 := hT.gi gm tt_10 (k := 83) rfl
  rw [← efv_524] at bfv_524
  have bfv_524 : 0 ≤ fv_524.toInt ∧ fv_524.toInt ≤ 1 := bfv_524
  have ffv_524 := efv_524.symm
  obtain ⟨fv_525, efv_525⟩ : ∃ y : Int32, y = hl1.2.1 am 84 := ⟨_, rfl⟩
  have bfv_525 := hT.gi gm tt_10 (k := 84) rfl
  rw [← efv_525] at bfv_525
  have bfv_525 : 0 ≤ fv_525.toInt ∧ fv_525.toInt ≤ 300 := bfv_525
  have ffv_525 := efv_525.symm
  have hNQ9 := hkNQ qrg9 f_qrg9; rw [ffv_523, ffv_524, ffv_525] at hNQ9
  have hRL9 := hkRL qrg9 y_ls m_rl f_qrg9 f_y_ls f_m_rl; rw [n_y_ls, n_m_rl, ffv_523] at hRL9
  have hCB : hz_CB F_ord F_wkl F_owd F_szd F_gds F_srv := fun c hc => ⟨by have w := hT.ei g_m_ord tt_83 (k := c) (by omega); rw [n_ord] at w; exact w, by have w := hT.ei g_m_wkl tt_89 (k := c) (by omega); rw [n_wkl] at w; exact w, by have w := hT.ei g_m_owd tt_90 (k := c) (by omega); rw [n_owd] at w; exact w, by have w := hT.ei g_m_szd tt_84 (k := c) (by omega); rw [n_szd] at w; exact w, by have w := hT.ei g_m_gds tt_91 (k := c) (by omega); rw [n_gds] at w; exact w, by have w := hT.ei g_m_srv tt_85 (k := c) (by omega); rw [n_srv] at w; exact w⟩
  have hps : ∀ j, j < 600 → 0 ≤ (F_p2 j).toInt ∧ (F_p2 j).toInt ≤ 610000 := fun j hj => by have w := hT.ei g_m_p2 tt_95 (k := j) (by omega); rw [n_p2] at w; exact w
  have hte9 : ∀ c : Nat, c < 100 → (0 ≤ (c_tri c).toInt ∧ (c_tri c).toInt ≤ 512) ∧ (0 ≤ (F_sum c).toInt ∧ (F_sum c).toInt ≤ 9999) := fun c hc => ⟨htb9 c hc, by have w := hT.ei g_m_sum tt_74 (k := c) (by omega); rw [n_sum] at w; exact w⟩
  have hee9 : ∀ c : Nat, c < 40 → (0 ≤ (F_ear c).toInt ∧ (F_ear c).toInt ≤ 9999) ∧ (0 ≤ (F_hds c).toInt ∧ (F_hds c).toInt ≤ 20) := fun c hc => ⟨by have w := hT.ei g_m_ear tt_59 (k := c) (by omega); rw [n_ear] at w; exact w, by have w := hT.ei g_m_hds tt_60 (k := c) (by omega); rw [n_hds] at w; exact w⟩
  have bAG9 : ∀ k, k < 100 → 0 ≤ (F_aga k).toInt ∧ (F_aga k).toInt ≤ 39 := fun k hk => by have w := hT.ei g_m_aga tt_73 (k := k) (by omega); rw [n_aga] at w; exact w
  have bBY9 : ∀ k, k < 100 → 0 ≤ (F_by k).toInt ∧ (F_by k).toInt ≤ 39 := fun k hk => by have w := hT.ei g_m_by tt_72 (k := k) (by omega); rw [n_by] at w; exact w
  have hag9 : ∀ c, c < c0.toInt.toNat → 0 ≤ (F_aga c).toInt ∧ (F_aga c).toInt < 40 ∧ 0 ≤ (F_by c).toInt ∧ (F_by c).toInt < 40 := fun c hc => by have a9 := bAG9 c (by omega); have b9 := bBY9 c (by omega); omega
  have z_wkl : F_wkl c0.toInt.toNat = 0 := hx_num_z2 nu_qc cl_wkl ?o7
  case o7 => omega
  have z_owd : F_owd c0.toInt.toNat = 0 := hx_num_z2 nu_qc cl_owd ?o8
  case o8 => omega
  have z_gds : F_gds c0.toInt.toNat = 0 := hx_num_z2 nu_qc cl_gds ?o9
  case o9 => omega
  have hwd := jw mw f_mw; rw [n_mw] at hwd
  have hWK := jr mr f_mr; rw [n_mr, f_m_acts] at hWK
  have hRP := jp mp mn f_mp f_mn; rw [n_mp, n_mn, f_m_acts] at hRP
  have hPL := jl ml f_ml; rw [n_ml, f_m_claims, f_m_acts] at hPL
  have hHC := jh mh f_mh; rw [n_mh, f_m_heardMany, f_m_claims] at hHC
  have hTR := jt mt f_mt; rw [n_mt] at hTR
  have hHF := jf mh m_fou f_mh f_m_fou; rw [n_mh, n_m_fou, f_m_claims] at hHF
  refine lv_aload_n hx hb dL_law_888 rfl (lv_at hl 2 rfl) ?_
  refine lv_aload_n hx hb dL_law_889 rfl (lv_at hl 3 rfl) ?_
  refine lv_iload_n hx hb dL_law_890 rfl (lv_at hl 0 rfl) ?_
  refine lv_iconst (v := 1) hx hb dL_law_891 ?o10 ?_
  case o10 => decide
  refine lv_iadd hx hb dL_law_892 ?_
  have rg_526 := i32_r i
  refine lv_topi (fun x_527 ex_527 => ?_)
  have zx_527 : x_527.toInt = i.toInt + 1 := ?o11
  case o11 =>
    rw [ex_527]
    refine i32_add rfl ?o12 ?o13 ?o14
    case o12 => decide
    case o13 => omega
    case o14 => omega
  refine va_sld hx hb hX hbl hbA hW.2.2.2.1 (vp_in_iff.mpr ⟨?o15, ?o16⟩) dL_law_893 ?_
  case o15 => omega
  case o16 => omega
  refine lv_topi (fun x_528 ex_528 => ?_)
  refine lv_aload_n hx hb dL_law_894 rfl (lv_at hl 3 rfl) ?_
  refine lv_iload_n hx hb dL_law_895 rfl (lv_at hl 0 rfl) ?_
  refine lv_iconst (v := 2) hx hb dL_law_896 ?o17 ?_
  case o17 => decide
  refine lv_iadd hx hb dL_law_897 ?_
  refine lv_topi (fun x_529 ex_529 => ?_)
  have zx_529 : x_529.toInt = i.toInt + 2 := ?o18
  case o18 =>
    rw [ex_529]
    refine i32_add rfl ?o19 ?o20 ?o21
    case o19 => decide
    case o20 => omega
    case o21 => omega
  refine va_sld hx hb hX hbl hbA hW.2.2.2.1 (vp_in_iff.mpr ⟨?o22, ?o23⟩) dL_law_898 ?_
  case o22 => omega
  case o23 => omega
  refine lv_topi (fun x_530 ex_530 => ?_)
  have hTo := hT
  refine hx_goi (hx_runV (As := [.int x_528, .int x_530]) (rest := []) ⟨hx, hb, hml, hown, hts⟩ hW gx tt_9 (T := TX9) (N := 20) rfl (t_X9_order_v l dC dI dA L1 hl1 H.size ax x_528 x_530 hT gx qp g_qp f_qp qc g_qc f_qc qo_py g_qo_py f_qo_py y_p0 g_y_p0 f_y_p0 y_p1 g_y_p1 f_y_p1 y_p2 g_y_p2 f_y_p2 y_p3 g_y_p3 f_y_p3 y_p4 g_y_p4 f_y_p4 F_p0 n_y_p0 F_p1 n_y_p1 F_p2 n_y_p2 F_p3 n_y_p3 F_p4 n_y_p4 c0 f_x_claimCount nw f_x_now py f_o_py np f_x_personCount F_ord cl_ord F_wkl cl_wkl F_owd cl_owd F_szd cl_szd F_gds cl_gds F_srv cl_srv c_tri cl_tri F_sum cl_sum F_jud cl_jud c_dead cl_dead F_ear cl_ear F_hds cl_hds nu_qp nu_qc F_aga F_ml A9 hDF hAC9 hAB hCB hps hte9 hee9 pf_qp pf_qc) (cwV 2 hts (hx_gV kw_845 kw_842 kw_843 kw_844 kw_94) rfl rfl rfl (by decide +kernel) ⟨Nat.le_of_ble_eq_true rfl, Nat.le_of_ble_eq_true rfl⟩) rfl hl.1 rfl (Nat.le_of_ble_eq_true rfl) dL_law_899 ⟨(show CC + 0 ≤ 600000 from ?o24), (show SS + 0 ≤ 7302250 from ?o25)⟩) hW (fun r_533 L_531 h_532 H locs p_534 hW => ?_)
  case o24 => omega
  case o25 => omega
  obtain ⟨⟨w_536, w_537, w_538, fw_536, fw_537, fw_538, hr_535⟩, hT, hs⟩ := p_534
  replace hT : hx_T T_tb L_531 h_532 := hT
  replace hs : hx_S T_tb [(2, 13), (2, 14), (2, 15)] L1 hl1 L_531 h_532 := hs
  replace f_qa := (hs.o gx trivial rfl).2.trans f_qa
  replace f_qp := (hs.o gx trivial rfl).2.trans f_qp
  replace f_qc := (hs.o gx trivial rfl).2.trans f_qc
  replace f_qh := (hs.o gx trivial rfl).2.trans f_qh
  replace f_qw := (hs.o gx trivial rfl).2.trans f_qw
  replace f_ql := (hs.o g_qw trivial rfl).2.trans f_ql
  replace f_m_now := (hs.o gm trivial rfl).1.trans f_m_now
  replace f_m_persons := (hs.o gm trivial rfl).1.trans f_m_persons
  replace f_m_claims := (hs.o gm trivial rfl).1.trans f_m_claims
  replace f_m_taped := (hs.o gm trivial rfl).1.trans f_m_taped
  replace f_m_acts := (hs.o gm trivial rfl).1.trans f_m_acts
  replace f_m_heardMany := (hs.o gm trivial rfl).1.trans f_m_heardMany
  replace f_m_lines := (hs.o gm trivial rfl).1.trans f_m_lines
  replace f_m_listed := (hs.o gm trivial rfl).1.trans f_m_listed
  replace f_m_walkedMany := (hs.o gm trivial rfl).1.trans f_m_walkedMany
  replace f_m_payments := (hs.o gm trivial rfl).1.trans f_m_payments
  replace f_x_now := (hs.o gx trivial rfl).1.trans f_x_now
  replace f_x_personCount := (hs.o gx trivial rfl).1.trans f_x_personCount
  replace f_x_claimCount := (hs.o gx trivial rfl).1.trans f_x_claimCount
  replace f_x_tapeLength := (hs.o gx trivial rfl).1.trans f_x_tapeLength
  replace f_x_actCount := (hs.o gx trivial rfl).1.trans f_x_actCount
  replace f_x_heardCount := (hs.o gx trivial rfl).1.trans f_x_heardCount
  replace f_mw := (hs.o gm trivial rfl).2.trans f_mw
  replace f_mr := (hs.o gm trivial rfl).2.trans f_mr
  replace f_mp := (hs.o gm trivial rfl).2.trans f_mp
  replace f_mn := (hs.o gm trivial rfl).2.trans f_mn
  replace f_ml := (hs.o gm trivial rfl).2.trans f_ml
  replace f_mh := (hs.o gm trivial rfl).2.trans f_mh
  replace f_mt := (hs.o gm trivial rfl).2.trans f_mt
  replace f_m_fou := (hs.o gm trivial rfl).2.trans f_m_fou
  replace f_qo_ln := (hs.o gx trivial rfl).2.trans f_qo_ln
  replace f_o_ln := (hs.o g_qo_ln trivial rfl).1.trans f_o_ln
  replace f_o_lsd := (hs.o g_qw trivial rfl).1.trans f_o_lsd
  replace f_o_wkm := (hs.o g_qw trivial rfl).1.trans f_o_wkm
  replace f_qo_py := (hs.o gx trivial rfl).2.trans f_qo_py
  replace f_o_py := (hs.o g_qo_py trivial rfl).1.trans f_o_py
  replace f_b_of := (hs.o g_qo_ln trivial rfl).2.trans f_b_of
  replace f_m_of := (hs.o gm trivial rfl).2.trans f_m_of
  replace f_b_wf := (hs.o g_qo_ln trivial rfl).2.trans f_b_wf
  replace f_m_wf := (hs.o gm trivial rfl).2.trans f_m_wf
  replace f_b_df := (hs.o g_qo_ln trivial rfl).2.trans f_b_df
  replace f_m_df := (hs.o gm trivial rfl).2.trans f_m_df
  replace f_b_kf := (hs.o g_qo_ln trivial rfl).2.trans f_b_kf
  replace f_m_kf := (hs.o gm trivial rfl).2.trans f_m_kf
  replace f_b_sf := (hs.o g_qo_ln trivial rfl).2.trans f_b_sf
  replace f_m_sf := (hs.o gm trivial rfl).2.trans f_m_sf
  replace f_b_bf := (hs.o g_qo_ln trivial rfl).2.trans f_b_bf
  replace f_m_lst := (hs.o gm trivial rfl).2.trans f_m_lst
  replace f_qtp := (hs.o gx trivial rfl).2.trans f_qtp
  replace f_m_tp := (hs.o gm trivial rfl).2.trans f_m_tp
  replace f_m_dead := (hs.o gm trivial rfl).2.trans f_m_dead
  replace f_m_isj := (hs.o gm trivial rfl).2.trans f_m_isj
  replace f_m_dox := (hs.o gm trivial rfl).2.trans f_m_dox
  replace f_m_doy := (hs.o gm trivial rfl).2.trans f_m_doy
  replace f_qlt := (hs.o g_qw trivial rfl).2.trans f_qlt
  replace f_qlf := (hs.o g_qw trivial rfl).2.trans f_qlf
  replace f_m_wkd := (hs.o gm trivial rfl).2.trans f_m_wkd
  replace f_m_aga := (hs.o gm trivial rfl).2.trans f_m_aga
  replace f_qwo := (hs.o gx trivial rfl).2.trans f_qwo
  replace f_m_ad := (hs.o gm trivial rfl).2.trans f_m_ad
  replace f_m_by := (hs.o gm trivial rfl).2.trans f_m_by
  replace f_m_ho := (hs.o gm trivial rfl).2.trans f_m_ho
  replace f_m_fc := (hs.o gm trivial rfl).2.trans f_m_fc
  replace f_m_nt := (hs.o gm trivial rfl).2.trans f_m_nt
  replace f_m_wt := (hs.o gm trivial rfl).2.trans f_m_wt
  replace f_m_be := (hs.o gm trivial rfl).2.trans f_m_be
  replace f_m_bor := (hs.o gm trivial rfl).2.trans f_m_bor
  replace f_m_kin := (hs.o gm trivial rfl).2.trans f_m_kin
  replace f_m_sum := (hs.o gm trivial rfl).2.trans f_m_sum
  replace f_m_fro := (hs.o gm trivial rfl).2.trans f_m_fro
  replace f_m_fil := (hs.o gm trivial rfl).2.trans f_m_fil
  replace f_m_jud := (hs.o gm trivial rfl).2.trans f_m_jud
  replace f_m_ear := (hs.o gm trivial rfl).2.trans f_m_ear
  replace f_m_hds := (hs.o gm trivial rfl).2.trans f_m_hds
  replace f_m_ord := (hs.o gm trivial rfl).2.trans f_m_ord
  replace f_m_wkl := (hs.o gm trivial rfl).2.trans f_m_wkl
  replace f_m_owd := (hs.o gm trivial rfl).2.trans f_m_owd
  replace f_m_gds := (hs.o gm trivial rfl).2.trans f_m_gds
  replace f_m_szd := (hs.o gm trivial rfl).2.trans f_m_szd
  replace f_m_srv := (hs.o gm trivial rfl).2.trans f_m_srv
  replace f_y_p0 := (hs.o g_qo_py trivial rfl).2.trans f_y_p0
  replace f_m_p0 := (hs.o gm trivial rfl).2.trans f_m_p0
  replace f_y_p1 := (hs.o g_qo_py trivial rfl).2.trans f_y_p1
  replace f_m_p1 := (hs.o gm trivial rfl).2.trans f_m_p1
  replace f_y_p2 := (hs.o g_qo_py trivial rfl).2.trans f_y_p2
  replace f_m_p2 := (hs.o gm trivial rfl).2.trans f_m_p2
  replace f_y_p3 := (hs.o g_qo_py trivial rfl).2.trans f_y_p3
  replace f_m_p3 := (hs.o gm trivial rfl).2.trans f_m_p3
  replace f_y_p4 := (hs.o g_qo_py trivial rfl).2.trans f_y_p4
  replace f_m_p4 := (hs.o gm trivial rfl).2.trans f_m_p4
  replace f_qrg9 := (hs.o gx trivial rfl).2.trans f_qrg9
  replace f_y_ls := (hs.o g_qrg9 trivial rfl).2.trans f_y_ls
  replace f_m_rl := (hs.o gm trivial rfl).2.trans f_m_rl
  replace ffv_523 := (hs.o g_qrg9 trivial rfl).1.trans ffv_523
  replace ffv_524 := (hs.o gm trivial rfl).1.trans ffv_524
  replace ffv_525 := (hs.o gm trivial rfl).1.trans ffv_525
  replace pf_qa : ∀ j : Nat, (j : Int) < (h_532.2.1 ax 6).toInt → h_532.2.2 qa j ≠ none := by
    intro j hj; rw [(hs.o gx trivial rfl).1] at hj; rw [(hs.a g_qa rfl j).2]; exact pf_qa j hj
  replace pf_qp : ∀ j : Nat, (j : Int) < (h_532.2.1 ax 8).toInt → h_532.2.2 qp j ≠ none := by
    intro j hj; rw [(hs.o gx trivial rfl).1] at hj; rw [(hs.a g_qp rfl j).2]; exact pf_qp j hj
  replace pf_qc : ∀ j : Nat, (j : Int) < (h_532.2.1 ax 11).toInt → h_532.2.2 qc j ≠ none := by
    intro j hj; rw [(hs.o gx trivial rfl).1] at hj; rw [(hs.a g_qc rfl j).2]; exact pf_qc j hj
  replace pf_qh : ∀ j : Nat, (j : Int) < (h_532.2.1 ax 13).toInt → h_532.2.2 qh j ≠ none := by
    intro j hj; rw [(hs.o gx trivial rfl).1] at hj; rw [(hs.a g_qh rfl j).2]; exact pf_qh j hj
  replace pf_ql : ∀ j : Nat, (j : Int) < (h_532.2.1 qw 0).toInt → h_532.2.2 ql j ≠ none := by
    intro j hj; rw [(hs.o g_qw trivial rfl).1] at hj; rw [(hs.a g_ql rfl j).2]; exact pf_ql j hj
  replace cl_lst : hx_col 8 h_532 ql 0 = c_lst := (hx_col_S hs hTo g_ql tt_40 tt_2 rfl rfl).trans cl_lst
  replace cl_dead : hx_col 40 h_532 qp 7 = c_dead := (hx_col_S hs hTo g_qp tt_44 tt_4 rfl rfl).trans cl_dead
  replace cl_isj : hx_col 40 h_532 qp 8 = c_isj := (hx_col_S hs hTo g_qp tt_44 tt_4 rfl rfl).trans cl_isj
  replace cl_dox : hx_col 40 h_532 qp 5 = c_dox := (hx_col_S hs hTo g_qp tt_44 tt_4 rfl rfl).trans cl_dox
  replace cl_doy : hx_col 40 h_532 qp 6 = c_doy := (hx_col_S hs hTo g_qp tt_44 tt_4 rfl rfl).trans cl_doy
  replace cl_fou : hx_col 100 h_532 qc 10 = c_fou := (hx_col_S hs hTo g_qc tt_45 tt_2 rfl rfl).trans cl_fou
  replace cl_tri : hx_col 100 h_532 qc 9 = c_tri := (hx_col_S hs hTo g_qc tt_45 tt_2 rfl rfl).trans cl_tri
  replace cl_bor : hx_col 40 h_532 qp 1 = F_bor := (hx_col_S hs hTo g_qp tt_44 tt_4 rfl rfl).trans cl_bor
  replace cl_kin : hx_col 40 h_532 qp 2 = F_kin := (hx_col_S hs hTo g_qp tt_44 tt_4 rfl rfl).trans cl_kin
  replace cl_sum : hx_col 100 h_532 qc 6 = F_sum := (hx_col_S hs hTo g_qc tt_45 tt_2 rfl rfl).trans cl_sum
  replace cl_fro : hx_col 100 h_532 qc 7 = F_fro := (hx_col_S hs hTo g_qc tt_45 tt_2 rfl rfl).trans cl_fro
  replace cl_fil : hx_col 100 h_532 qc 8 = F_fil := (hx_col_S hs hTo g_qc tt_45 tt_2 rfl rfl).trans cl_fil
  replace cl_hea : hx_col 100 h_532 qc 11 = F_mh := (hx_col_S hs hTo g_qc tt_45 tt_2 rfl rfl).trans cl_hea
  replace cl_jud : hx_col 100 h_532 qc 12 = F_jud := (hx_col_S hs hTo g_qc tt_45 tt_2 rfl rfl).trans cl_jud
  replace cl_ear : hx_col 40 h_532 qp 3 = F_ear := (hx_col_S hs hTo g_qp tt_44 tt_4 rfl rfl).trans cl_ear
  replace cl_hds : hx_col 40 h_532 qp 4 = F_hds := (hx_col_S hs hTo g_qp tt_44 tt_4 rfl rfl).trans cl_hds
  replace cl_gds : hx_col 100 h_532 qc 17 = F_gds := (hx_col_S hs hTo g_qc tt_45 tt_2 rfl rfl).trans cl_gds
  replace cl_szd : hx_col 100 h_532 qc 16 = F_szd := (hx_col_S hs hTo g_qc tt_45 tt_2 rfl rfl).trans cl_szd
  replace cl_srv : hx_col 100 h_532 qc 18 = F_srv := (hx_col_S hs hTo g_qc tt_45 tt_2 rfl rfl).trans cl_srv
  replace nu_qp : hx_num 40 h_532 qp 0 (np.toInt) := hx_num_S hs hTo g_qp tt_44 tt_4 rfl rfl nu_qp
  replace nu_qc : hx_num 100 h_532 qc 0 (c0.toInt) := hx_num_S hs hTo g_qc tt_45 tt_2 rfl rfl nu_qc
  replace sb_list : hx_LQ 8 100 h_532 ql qc := hx_LQ_S hs g_ql g_qc rfl rfl sb_list
  replace hDF : hw_DF h_532 qc qp 2 F_aga c0.toInt := hw_DF_S hs hTo g_qc g_qp tt_45 tt_2 rfl rfl rfl hDF
  replace hRA9 : hv_RA h_532 qa qwo a0.toInt A9 := hv_RA_S hs hTo g_qa g_qwo tt_43 tt_0 rfl rfl rfl rfl rfl rfl ?o26 hRA9
  case o26 => omega
  replace hDP : hw_DF h_532 qc qp 1 F_by c0.toInt := hw_DF_S hs hTo g_qc g_qp tt_45 tt_2 rfl rfl rfl hDP
  replace hAC9 : hv_AC h_532 qc F_ml c0.toInt A9 := hv_AC_S hs hTo g_qc tt_45 tt_2 rfl tt_0 rfl rfl rfl rfl rfl rfl rfl hAC9
  replace hFX : hv_FX 8 4 h_532 qc cF9L c0.toInt := hv_FX_S hs hTo g_qc tt_45 tt_2 rfl rfl rfl rfl hFX
  replace hBX : hv_FX 3 5 h_532 qc F_be c0.toInt := hv_FX_S hs hTo g_qc tt_45 tt_2 rfl rfl rfl rfl hBX
  replace hHL : hv_HL h_532 qh qc F_ho m0.toInt c0.toInt := hv_HL_S hs g_qh g_qc rfl rfl hHL
  replace n_mw : h_532.2.1 mw = F_mw := (funext fun j => (hs.a g_mw rfl j).1).trans n_mw
  replace n_mr : h_532.2.1 mr = F_mr := (funext fun j => (hs.a g_mr rfl j).1).trans n_mr
  replace n_mp : h_532.2.1 mp = F_mp := (funext fun j => (hs.a g_mp rfl j).1).trans n_mp
  replace n_mn : h_532.2.1 mn = F_mn := (funext fun j => (hs.a g_mn rfl j).1).trans n_mn
  replace n_ml : h_532.2.1 ml = F_ml := (funext fun j => (hs.a g_ml rfl j).1).trans n_ml
  replace n_mh : h_532.2.1 mh = F_mh := (funext fun j => (hs.a g_mh rfl j).1).trans n_mh
  replace n_mt : h_532.2.1 mt = F_mt := (funext fun j => (hs.a g_mt rfl j).1).trans n_mt
  replace n_m_fou : h_532.2.1 m_fou = F_m_fou := (funext fun j => (hs.a g_m_fou rfl j).1).trans n_m_fou
  replace n_b_of : h_532.2.1 b_of = B_of := (funext fun j => (hs.a g_b_of rfl j).1).trans n_b_of
  replace n_m_of : h_532.2.1 m_of = F_of := (funext fun j => (hs.a g_m_of rfl j).1).trans n_m_of
  replace n_b_wf : h_532.2.1 b_wf = B_wf := (funext fun j => (hs.a g_b_wf rfl j).1).trans n_b_wf
  replace n_m_wf : h_532.2.1 m_wf = F_wf := (funext fun j => (hs.a g_m_wf rfl j).1).trans n_m_wf
  replace n_b_df : h_532.2.1 b_df = B_df := (funext fun j => (hs.a g_b_df rfl j).1).trans n_b_df
  replace n_m_df : h_532.2.1 m_df = F_df := (funext fun j => (hs.a g_m_df rfl j).1).trans n_m_df
  replace n_b_kf : h_532.2.1 b_kf = B_kf := (funext fun j => (hs.a g_b_kf rfl j).1).trans n_b_kf
  replace n_m_kf : h_532.2.1 m_kf = F_kf := (funext fun j => (hs.a g_m_kf rfl j).1).trans n_m_kf
  replace n_b_sf : h_532.2.1 b_sf = B_sf := (funext fun j => (hs.a g_b_sf rfl j).1).trans n_b_sf
  replace n_m_sf : h_532.2.1 m_sf = F_sf := (funext fun j => (hs.a g_m_sf rfl j).1).trans n_m_sf
  replace n_b_bf : h_532.2.1 b_bf = bfL := (funext fun j => (hs.a g_b_bf rfl j).1).trans n_b_bf
  replace n_lst : h_532.2.1 m_lst = F_lst := (funext fun j => (hs.a g_m_lst rfl j).1).trans n_lst
  replace n_tp : h_532.2.1 m_tp = F_tp := (funext fun j => (hs.a g_m_tp rfl j).1).trans n_tp
  replace n_qtp : h_532.2.1 qtp = F_tp := (funext fun j => (hs.a g_qtp rfl j).1).trans n_qtp
  replace n_dead : h_532.2.1 m_dead = F_dead := (funext fun j => (hs.a g_m_dead rfl j).1).trans n_dead
  replace n_isj : h_532.2.1 m_isj = F_isj := (funext fun j => (hs.a g_m_isj rfl j).1).trans n_isj
  replace n_dox : h_532.2.1 m_dox = F_dox := (funext fun j => (hs.a g_m_dox rfl j).1).trans n_dox
  replace n_doy : h_532.2.1 m_doy = F_doy := (funext fun j => (hs.a g_m_doy rfl j).1).trans n_doy
  replace n_qlt : h_532.2.1 qlt = F_qlt := (funext fun j => (hs.a g_qlt rfl j).1).trans n_qlt
  replace n_m_wkd : h_532.2.1 m_wkd = F_m_wkd := (funext fun j => (hs.a g_m_wkd rfl j).1).trans n_m_wkd
  replace n_aga : h_532.2.1 m_aga = F_aga := (funext fun j => (hs.a g_m_aga rfl j).1).trans n_aga
  replace n_ad : h_532.2.1 m_ad = F_ad := (funext fun j => (hs.a g_m_ad rfl j).1).trans n_ad
  replace n_by : h_532.2.1 m_by = F_by := (funext fun j => (hs.a g_m_by rfl j).1).trans n_by
  replace n_ho : h_532.2.1 m_ho = F_ho := (funext fun j => (hs.a g_m_ho rfl j).1).trans n_ho
  replace n_fc : h_532.2.1 m_fc = F_fc := (funext fun j => (hs.a g_m_fc rfl j).1).trans n_fc
  replace n_nt : h_532.2.1 m_nt = F_nt := (funext fun j => (hs.a g_m_nt rfl j).1).trans n_nt
  replace n_wt : h_532.2.1 m_wt = F_wt := (funext fun j => (hs.a g_m_wt rfl j).1).trans n_wt
  replace n_be : h_532.2.1 m_be = F_be := (funext fun j => (hs.a g_m_be rfl j).1).trans n_be
  replace n_bor : h_532.2.1 m_bor = F_bor := (funext fun j => (hs.a g_m_bor rfl j).1).trans n_bor
  replace n_kin : h_532.2.1 m_kin = F_kin := (funext fun j => (hs.a g_m_kin rfl j).1).trans n_kin
  replace n_sum : h_532.2.1 m_sum = F_sum := (funext fun j => (hs.a g_m_sum rfl j).1).trans n_sum
  replace n_fro : h_532.2.1 m_fro = F_fro := (funext fun j => (hs.a g_m_fro rfl j).1).trans n_fro
  replace n_fil : h_532.2.1 m_fil = F_fil := (funext fun j => (hs.a g_m_fil rfl j).1).trans n_fil
  replace n_jud : h_532.2.1 m_jud = F_jud := (funext fun j => (hs.a g_m_jud rfl j).1).trans n_jud
  replace n_ear : h_532.2.1 m_ear = F_ear := (funext fun j => (hs.a g_m_ear rfl j).1).trans n_ear
  replace n_hds : h_532.2.1 m_hds = F_hds := (funext fun j => (hs.a g_m_hds rfl j).1).trans n_hds
  replace n_ord : h_532.2.1 m_ord = F_ord := (funext fun j => (hs.a g_m_ord rfl j).1).trans n_ord
  replace n_wkl : h_532.2.1 m_wkl = F_wkl := (funext fun j => (hs.a g_m_wkl rfl j).1).trans n_wkl
  replace n_owd : h_532.2.1 m_owd = F_owd := (funext fun j => (hs.a g_m_owd rfl j).1).trans n_owd
  replace n_gds : h_532.2.1 m_gds = F_gds := (funext fun j => (hs.a g_m_gds rfl j).1).trans n_gds
  replace n_szd : h_532.2.1 m_szd = F_szd := (funext fun j => (hs.a g_m_szd rfl j).1).trans n_szd
  replace n_srv : h_532.2.1 m_srv = F_srv := (funext fun j => (hs.a g_m_srv rfl j).1).trans n_srv
  replace n_p0 : h_532.2.1 m_p0 = F_p0 := (funext fun j => (hs.a g_m_p0 rfl j).1).trans n_p0
  replace n_y_p0 : h_532.2.1 y_p0 = F_p0 := (funext fun j => (hs.a g_y_p0 rfl j).1).trans n_y_p0
  replace n_p1 : h_532.2.1 m_p1 = F_p1 := (funext fun j => (hs.a g_m_p1 rfl j).1).trans n_p1
  replace n_y_p1 : h_532.2.1 y_p1 = F_p1 := (funext fun j => (hs.a g_y_p1 rfl j).1).trans n_y_p1
  replace n_p2 : h_532.2.1 m_p2 = F_p2 := (funext fun j => (hs.a g_m_p2 rfl j).1).trans n_p2
  replace n_y_p2 : h_532.2.1 y_p2 = F_p2 := (funext fun j => (hs.a g_y_p2 rfl j).1).trans n_y_p2
  replace n_p3 : h_532.2.1 m_p3 = F_p3 := (funext fun j => (hs.a g_m_p3 rfl j).1).trans n_p3
  replace n_y_p3 : h_532.2.1 y_p3 = F_p3 := (funext fun j => (hs.a g_y_p3 rfl j).1).trans n_y_p3
  replace n_p4 : h_532.2.1 m_p4 = F_p4 := (funext fun j => (hs.a g_m_p4 rfl j).1).trans n_p4
  replace n_y_p4 : h_532.2.1 y_p4 = F_p4 := (funext fun j => (hs.a g_y_p4 rfl j).1).trans n_y_p4
  replace n_y_ls : h_532.2.1 y_ls = F_y_ls := (funext fun j => (hs.a g_y_ls rfl j).1).trans n_y_ls
  replace n_m_rl : h_532.2.1 m_rl = F_m_rl := (funext fun j => (hs.a g_m_rl rfl j).1).trans n_m_rl
  replace gx := gx.S hs
  replace gm := gm.S hs
  replace g_qa := g_qa.S hs
  replace g_qp := g_qp.S hs
  replace g_qc := g_qc.S hs
  replace g_qh := g_qh.S hs
  replace g_qw := g_qw.S hs
  replace g_ql := g_ql.S hs
  replace g_mw := g_mw.S hs
  replace g_mr := g_mr.S hs
  replace g_mp := g_mp.S hs
  replace g_mn := g_mn.S hs
  replace g_ml := g_ml.S hs
  replace g_mh := g_mh.S hs
  replace g_mt := g_mt.S hs
  replace g_m_fou := g_m_fou.S hs
  replace g_qo_ln := g_qo_ln.S hs
  replace g_qo_py := g_qo_py.S hs
  replace g_b_of := g_b_of.S hs
  replace g_m_of := g_m_of.S hs
  replace g_b_wf := g_b_wf.S hs
  replace g_m_wf := g_m_wf.S hs
  replace g_b_df := g_b_df.S hs
  replace g_m_df := g_m_df.S hs
  replace g_b_kf := g_b_kf.S hs
  replace g_m_kf := g_m_kf.S hs
  replace g_b_sf := g_b_sf.S hs
  replace g_m_sf := g_m_sf.S hs
  replace g_b_bf := g_b_bf.S hs
  replace g_m_lst := g_m_lst.S hs
  replace g_qtp := g_qtp.S hs
  replace g_m_tp := g_m_tp.S hs
  replace g_m_dead := g_m_dead.S hs
  replace g_m_isj := g_m_isj.S hs
  replace g_m_dox := g_m_dox.S hs
  replace g_m_doy := g_m_doy.S hs
  replace g_qlt := g_qlt.S hs
  replace g_qlf := g_qlf.S hs
  replace g_m_wkd := g_m_wkd.S hs
  replace g_m_aga := g_m_aga.S hs
  replace g_qwo := g_qwo.S hs
  replace g_m_ad := g_m_ad.S hs
  replace g_m_by := g_m_by.S hs
  replace g_m_ho := g_m_ho.S hs
  replace g_m_fc := g_m_fc.S hs
  replace g_m_nt := g_m_nt.S hs
  replace g_m_wt := g_m_wt.S hs
  replace g_m_be := g_m_be.S hs
  replace g_m_bor := g_m_bor.S hs
  replace g_m_kin := g_m_kin.S hs
  replace g_m_sum := g_m_sum.S hs
  replace g_m_fro := g_m_fro.S hs
  replace g_m_fil := g_m_fil.S hs
  replace g_m_jud := g_m_jud.S hs
  replace g_m_ear := g_m_ear.S hs
  replace g_m_hds := g_m_hds.S hs
  replace g_m_ord := g_m_ord.S hs
  replace g_m_wkl := g_m_wkl.S hs
  replace g_m_owd := g_m_owd.S hs
  replace g_m_gds := g_m_gds.S hs
  replace g_m_szd := g_m_szd.S hs
  replace g_m_srv := g_m_srv.S hs
  replace g_y_p0 := g_y_p0.S hs
  replace g_m_p0 := g_m_p0.S hs
  replace g_y_p1 := g_y_p1.S hs
  replace g_m_p1 := g_m_p1.S hs
  replace g_y_p2 := g_y_p2.S hs
  replace g_m_p2 := g_m_p2.S hs
  replace g_y_p3 := g_y_p3.S hs
  replace g_m_p3 := g_m_p3.S hs
  replace g_y_p4 := g_y_p4.S hs
  replace g_m_p4 := g_m_p4.S hs
  replace g_qrg9 := g_qrg9.S hs
  replace g_y_ls := g_y_ls.S hs
  replace g_m_rl := g_m_rl.S hs
  have fw_536 : hx_col 100 h_532 qc 13 = w_536 := fw_536
  have fw_537 : hx_col 100 h_532 qc 14 = w_537 := fw_537
  have fw_538 : hx_col 100 h_532 qc 15 = w_538 := fw_538
  refine lv_pop hx hb dL_law_902 rfl ?_
  refine lv_aload_n hx hb dL_law_903 rfl (lv_at hl 1 rfl) ?_
  refine lv_aload_n hx hb dL_law_904 rfl (lv_at hl 3 rfl) ?_
  refine lv_iload_n hx hb dL_law_905 rfl (lv_at hl 0 rfl) ?_
  refine lv_iconst (v := 1) hx hb dL_law_906 ?o27 ?_
  case o27 => decide
  refine lv_iadd hx hb dL_law_907 ?_
  refine lv_topi (fun x_539 ex_539 => ?_)
  have zx_539 : x_539.toInt = i.toInt + 1 := ?o28
  case o28 =>
    rw [ex_539]
    refine i32_add rfl ?o29 ?o30 ?o31
    case o29 => decide
    case o30 => omega
    case o31 => omega
  obtain rfl : x_527 = x_539 := ex_527.trans ex_539.symm
  refine va_sld hx hb hX hbl hbA hW.2.2.2.1 (vp_in_iff.mpr ⟨?o32, ?o33⟩) dL_law_908 ?_
  case o32 => omega
  case o33 => omega
  refine lv_topi (fun x_540 ex_540 => ?_)
  obtain rfl : x_528 = x_540 := ex_528.trans ex_540.symm
  refine lv_aload_n hx hb dL_law_909 rfl (lv_at hl 3 rfl) ?_
  refine lv_iload_n hx hb dL_law_910 rfl (lv_at hl 0 rfl) ?_
  refine lv_iconst (v := 2) hx hb dL_law_911 ?o34 ?_
  case o34 => decide
  refine lv_iadd hx hb dL_law_912 ?_
  refine lv_topi (fun x_541 ex_541 => ?_)
  have zx_541 : x_541.toInt = i.toInt + 2 := ?o35
  case o35 =>
    rw [ex_541]
    refine i32_add rfl ?o36 ?o37 ?o38
    case o36 => decide
    case o37 => omega
    case o38 => omega
  obtain rfl : x_529 = x_541 := ex_529.trans ex_541.symm
  refine va_sld hx hb hX hbl hbA hW.2.2.2.1 (vp_in_iff.mpr ⟨?o39, ?o40⟩) dL_law_913 ?_
  case o39 => omega
  case o40 => omega
  refine lv_topi (fun x_542 ex_542 => ?_)
  obtain rfl : x_530 = x_542 := ex_530.trans ex_542.symm
  have hTo := hT
  refine hx_goi (hx_runV (As := [.int x_528, .int x_530]) (rest := []) ⟨hx, hb, hml, hown, hts⟩ hW gm tt_10 (T := TX10) (N := 98) rfl (t_X10_order_v l dC dI dA L_531 h_532 H.size am x_528 x_530 hT gm m_fou g_m_fou f_m_fou mh g_mh f_mh m_jud g_m_jud f_m_jud m_ord g_m_ord f_m_ord m_srv g_m_srv f_m_srv m_szd g_m_szd f_m_szd m_gds g_m_gds f_m_gds m_owd g_m_owd f_m_owd m_wkl g_m_wkl f_m_wkl ml g_ml f_ml mr g_mr f_mr m_p0 g_m_p0 f_m_p0 m_p1 g_m_p1 f_m_p1 m_p2 g_m_p2 f_m_p2 m_p3 g_m_p3 f_m_p3 m_p4 g_m_p4 f_m_p4 m_dead g_m_dead f_m_dead m_aga g_m_aga f_m_aga m_sum g_m_sum f_m_sum mt g_mt f_mt m_ear g_m_ear f_m_ear m_hds g_m_hds f_m_hds F_m_fou n_m_fou F_mh n_mh F_jud n_jud F_ord n_ord F_srv n_srv F_szd n_szd F_gds n_gds F_owd n_owd F_wkl n_wkl F_ml n_ml F_mr n_mr F_p0 n_p0 F_p1 n_p1 F_p2 n_p2 F_p3 n_p3 F_p4 n_p4 F_dead n_dead F_aga n_aga F_sum n_sum F_mt n_mt F_ear n_ear F_hds n_hds c0 f_m_claims a0 f_m_acts nw f_m_now py f_m_payments F_ad F_mn F_mp A9 hCA9 hPL hWK) (cwV 2 hts (hx_gV kw_1633 kw_1630 kw_1631 kw_1632 kw_103) rfl rfl rfl (by decide +kernel) ⟨Nat.le_of_ble_eq_true rfl, Nat.le_of_ble_eq_true rfl⟩) rfl hl.1 rfl (Nat.le_of_ble_eq_true rfl) dL_law_914 ⟨(show CC + 0 + 0 ≤ 600000 from ?o41), (show SS + 0 + 0 ≤ 7302250 from ?o42)⟩) hW (fun r_545 L_543 h_544 H locs p_546 hW => ?_)
  case o41 => omega
  case o42 => omega
  obtain ⟨⟨w_548, w_549, w_550, fw_548, fw_549, fw_550, hr_547⟩, hT, hs⟩ := p_546
  replace hT : hx_T T_tb L_543 h_544 := hT
  replace hs : hx_S T_tb [(10, 67), (10, 68), (10, 69), (10, 70), (10, 71), (83, 0), (89, 0), (90, 0)] L_531 h_532 L_543 h_544 := hs
  replace f_qa := (hs.o gx trivial rfl).2.trans f_qa
  replace f_qp := (hs.o gx trivial rfl).2.trans f_qp
  replace f_qc := (hs.o gx trivial rfl).2.trans f_qc
  replace f_qh := (hs.o gx trivial rfl).2.trans f_qh
  replace f_qw := (hs.o gx trivial rfl).2.trans f_qw
  replace f_ql := (hs.o g_qw trivial rfl).2.trans f_ql
  replace f_m_now := (hs.o gm trivial rfl).1.trans f_m_now
  replace f_m_persons := (hs.o gm trivial rfl).1.trans f_m_persons
  replace f_m_claims := (hs.o gm trivial rfl).1.trans f_m_claims
  replace f_m_taped := (hs.o gm trivial rfl).1.trans f_m_taped
  replace f_m_acts := (hs.o gm trivial rfl).1.trans f_m_acts
  replace f_m_heardMany := (hs.o gm trivial rfl).1.trans f_m_heardMany
  replace f_m_lines := (hs.o gm trivial rfl).1.trans f_m_lines
  replace f_m_listed := (hs.o gm trivial rfl).1.trans f_m_listed
  replace f_m_walkedMany := (hs.o gm trivial rfl).1.trans f_m_walkedMany
  replace f_m_payments := (hs.o gm trivial rfl).1.trans f_m_payments
  replace f_x_now := (hs.o gx trivial rfl).1.trans f_x_now
  replace f_x_personCount := (hs.o gx trivial rfl).1.trans f_x_personCount
  replace f_x_claimCount := (hs.o gx trivial rfl).1.trans f_x_claimCount
  replace f_x_tapeLength := (hs.o gx trivial rfl).1.trans f_x_tapeLength
  replace f_x_actCount := (hs.o gx trivial rfl).1.trans f_x_actCount
  replace f_x_heardCount := (hs.o gx trivial rfl).1.trans f_x_heardCount
  replace f_mw := (hs.o gm trivial rfl).2.trans f_mw
  replace f_mr := (hs.o gm trivial rfl).2.trans f_mr
  replace f_mp := (hs.o gm trivial rfl).2.trans f_mp
  replace f_mn := (hs.o gm trivial rfl).2.trans f_mn
  replace f_ml := (hs.o gm trivial rfl).2.trans f_ml
  replace f_mh := (hs.o gm trivial rfl).2.trans f_mh
  replace f_mt := (hs.o gm trivial rfl).2.trans f_mt
  replace f_m_fou := (hs.o gm trivial rfl).2.trans f_m_fou
  replace f_qo_ln := (hs.o gx trivial rfl).2.trans f_qo_ln
  replace f_o_ln := (hs.o g_qo_ln trivial rfl).1.trans f_o_ln
  replace f_o_lsd := (hs.o g_qw trivial rfl).1.trans f_o_lsd
  replace f_o_wkm := (hs.o g_qw trivial rfl).1.trans f_o_wkm
  replace f_qo_py := (hs.o gx trivial rfl).2.trans f_qo_py
  replace f_o_py := (hs.o g_qo_py trivial rfl).1.trans f_o_py
  replace f_b_of := (hs.o g_qo_ln trivial rfl).2.trans f_b_of
  replace f_m_of := (hs.o gm trivial rfl).2.trans f_m_of
  replace f_b_wf := (hs.o g_qo_ln trivial rfl).2.trans f_b_wf
  replace f_m_wf := (hs.o gm trivial rfl).2.trans f_m_wf
  replace f_b_df := (hs.o g_qo_ln trivial rfl).2.trans f_b_df
  replace f_m_df := (hs.o gm trivial rfl).2.trans f_m_df
  replace f_b_kf := (hs.o g_qo_ln trivial rfl).2.trans f_b_kf
  replace f_m_kf := (hs.o gm trivial rfl).2.trans f_m_kf
  replace f_b_sf := (hs.o g_qo_ln trivial rfl).2.trans f_b_sf
  replace f_m_sf := (hs.o gm trivial rfl).2.trans f_m_sf
  replace f_b_bf := (hs.o g_qo_ln trivial rfl).2.trans f_b_bf
  replace f_m_lst := (hs.o gm trivial rfl).2.trans f_m_lst
  replace f_qtp := (hs.o gx trivial rfl).2.trans f_qtp
  replace f_m_tp := (hs.o gm trivial rfl).2.trans f_m_tp
  replace f_m_dead := (hs.o gm trivial rfl).2.trans f_m_dead
  replace f_m_isj := (hs.o gm trivial rfl).2.trans f_m_isj
  replace f_m_dox := (hs.o gm trivial rfl).2.trans f_m_dox
  replace f_m_doy := (hs.o gm trivial rfl).2.trans f_m_doy
  replace f_qlt := (hs.o g_qw trivial rfl).2.trans f_qlt
  replace f_qlf := (hs.o g_qw trivial rfl).2.trans f_qlf
  replace f_m_wkd := (hs.o gm trivial rfl).2.trans f_m_wkd
  replace f_m_aga := (hs.o gm trivial rfl).2.trans f_m_aga
  replace f_qwo := (hs.o gx trivial rfl).2.trans f_qwo
  replace f_m_ad := (hs.o gm trivial rfl).2.trans f_m_ad
  replace f_m_by := (hs.o gm trivial rfl).2.trans f_m_by
  replace f_m_ho := (hs.o gm trivial rfl).2.trans f_m_ho
  replace f_m_fc := (hs.o gm trivial rfl).2.trans f_m_fc
  replace f_m_nt := (hs.o gm trivial rfl).2.trans f_m_nt
  replace f_m_wt := (hs.o gm trivial rfl).2.trans f_m_wt
  replace f_m_be := (hs.o gm trivial rfl).2.trans f_m_be
  replace f_m_bor := (hs.o gm trivial rfl).2.trans f_m_bor
  replace f_m_kin := (hs.o gm trivial rfl).2.trans f_m_kin
  replace f_m_sum := (hs.o gm trivial rfl).2.trans f_m_sum
  replace f_m_fro := (hs.o gm trivial rfl).2.trans f_m_fro
  replace f_m_fil := (hs.o gm trivial rfl).2.trans f_m_fil
  replace f_m_jud := (hs.o gm trivial rfl).2.trans f_m_jud
  replace f_m_ear := (hs.o gm trivial rfl).2.trans f_m_ear
  replace f_m_hds := (hs.o gm trivial rfl).2.trans f_m_hds
  replace f_m_ord := (hs.o gm trivial rfl).2.trans f_m_ord
  replace f_m_wkl := (hs.o gm trivial rfl).2.trans f_m_wkl
  replace f_m_owd := (hs.o gm trivial rfl).2.trans f_m_owd
  replace f_m_gds := (hs.o gm trivial rfl).2.trans f_m_gds
  replace f_m_szd := (hs.o gm trivial rfl).2.trans f_m_szd
  replace f_m_srv := (hs.o gm trivial rfl).2.trans f_m_srv
  replace f_y_p0 := (hs.o g_qo_py trivial rfl).2.trans f_y_p0
  replace f_m_p0 := (hs.o gm trivial rfl).2.trans f_m_p0
  replace f_y_p1 := (hs.o g_qo_py trivial rfl).2.trans f_y_p1
  replace f_m_p1 := (hs.o gm trivial rfl).2.trans f_m_p1
  replace f_y_p2 := (hs.o g_qo_py trivial rfl).2.trans f_y_p2
  replace f_m_p2 := (hs.o gm trivial rfl).2.trans f_m_p2
  replace f_y_p3 := (hs.o g_qo_py trivial rfl).2.trans f_y_p3
  replace f_m_p3 := (hs.o gm trivial rfl).2.trans f_m_p3
  replace f_y_p4 := (hs.o g_qo_py trivial rfl).2.trans f_y_p4
  replace f_m_p4 := (hs.o gm trivial rfl).2.trans f_m_p4
  replace f_qrg9 := (hs.o gx trivial rfl).2.trans f_qrg9
  replace f_y_ls := (hs.o g_qrg9 trivial rfl).2.trans f_y_ls
  replace f_m_rl := (hs.o gm trivial rfl).2.trans f_m_rl
  replace ffv_523 := (hs.o g_qrg9 trivial rfl).1.trans ffv_523
  replace ffv_524 := (hs.o gm trivial rfl).1.trans ffv_524
  replace ffv_525 := (hs.o gm trivial rfl).1.trans ffv_525
  replace pf_qa : ∀ j : Nat, (j : Int) < (h_544.2.1 ax 6).toInt → h_544.2.2 qa j ≠ none := by
    intro j hj; rw [(hs.o gx trivial rfl).1] at hj; rw [(hs.a g_qa rfl j).2]; exact pf_qa j hj
  replace pf_qp : ∀ j : Nat, (j : Int) < (h_544.2.1 ax 8).toInt → h_544.2.2 qp j ≠ none := by
    intro j hj; rw [(hs.o gx trivial rfl).1] at hj; rw [(hs.a g_qp rfl j).2]; exact pf_qp j hj
  replace pf_qc : ∀ j : Nat, (j : Int) < (h_544.2.1 ax 11).toInt → h_544.2.2 qc j ≠ none := by
    intro j hj; rw [(hs.o gx trivial rfl).1] at hj; rw [(hs.a g_qc rfl j).2]; exact pf_qc j hj
  replace pf_qh : ∀ j : Nat, (j : Int) < (h_544.2.1 ax 13).toInt → h_544.2.2 qh j ≠ none := by
    intro j hj; rw [(hs.o gx trivial rfl).1] at hj; rw [(hs.a g_qh rfl j).2]; exact pf_qh j hj
  replace pf_ql : ∀ j : Nat, (j : Int) < (h_544.2.1 qw 0).toInt → h_544.2.2 ql j ≠ none := by
    intro j hj; rw [(hs.o g_qw trivial rfl).1] at hj; rw [(hs.a g_ql rfl j).2]; exact pf_ql j hj
  replace cl_lst : hx_col 8 h_544 ql 0 = c_lst := (hx_col_S hs hTo g_ql tt_40 tt_2 rfl rfl).trans cl_lst
  replace cl_dead : hx_col 40 h_544 qp 7 = c_dead := (hx_col_S hs hTo g_qp tt_44 tt_4 rfl rfl).trans cl_dead
  replace cl_isj : hx_col 40 h_544 qp 8 = c_isj := (hx_col_S hs hTo g_qp tt_44 tt_4 rfl rfl).trans cl_isj
  replace cl_dox : hx_col 40 h_544 qp 5 = c_dox := (hx_col_S hs hTo g_qp tt_44 tt_4 rfl rfl).trans cl_dox
  replace cl_doy : hx_col 40 h_544 qp 6 = c_doy := (hx_col_S hs hTo g_qp tt_44 tt_4 rfl rfl).trans cl_doy
  replace cl_fou : hx_col 100 h_544 qc 10 = c_fou := (hx_col_S hs hTo g_qc tt_45 tt_2 rfl rfl).trans cl_fou
  replace cl_tri : hx_col 100 h_544 qc 9 = c_tri := (hx_col_S hs hTo g_qc tt_45 tt_2 rfl rfl).trans cl_tri
  replace cl_bor : hx_col 40 h_544 qp 1 = F_bor := (hx_col_S hs hTo g_qp tt_44 tt_4 rfl rfl).trans cl_bor
  replace cl_kin : hx_col 40 h_544 qp 2 = F_kin := (hx_col_S hs hTo g_qp tt_44 tt_4 rfl rfl).trans cl_kin
  replace cl_sum : hx_col 100 h_544 qc 6 = F_sum := (hx_col_S hs hTo g_qc tt_45 tt_2 rfl rfl).trans cl_sum
  replace cl_fro : hx_col 100 h_544 qc 7 = F_fro := (hx_col_S hs hTo g_qc tt_45 tt_2 rfl rfl).trans cl_fro
  replace cl_fil : hx_col 100 h_544 qc 8 = F_fil := (hx_col_S hs hTo g_qc tt_45 tt_2 rfl rfl).trans cl_fil
  replace cl_hea : hx_col 100 h_544 qc 11 = F_mh := (hx_col_S hs hTo g_qc tt_45 tt_2 rfl rfl).trans cl_hea
  replace cl_jud : hx_col 100 h_544 qc 12 = F_jud := (hx_col_S hs hTo g_qc tt_45 tt_2 rfl rfl).trans cl_jud
  replace cl_ear : hx_col 40 h_544 qp 3 = F_ear := (hx_col_S hs hTo g_qp tt_44 tt_4 rfl rfl).trans cl_ear
  replace cl_hds : hx_col 40 h_544 qp 4 = F_hds := (hx_col_S hs hTo g_qp tt_44 tt_4 rfl rfl).trans cl_hds
  replace cl_gds : hx_col 100 h_544 qc 17 = F_gds := (hx_col_S hs hTo g_qc tt_45 tt_2 rfl rfl).trans cl_gds
  replace cl_szd : hx_col 100 h_544 qc 16 = F_szd := (hx_col_S hs hTo g_qc tt_45 tt_2 rfl rfl).trans cl_szd
  replace cl_srv : hx_col 100 h_544 qc 18 = F_srv := (hx_col_S hs hTo g_qc tt_45 tt_2 rfl rfl).trans cl_srv
  replace fw_536 : hx_col 100 h_544 qc 13 = w_536 := (hx_col_S hs hTo g_qc tt_45 tt_2 rfl rfl).trans fw_536
  replace fw_537 : hx_col 100 h_544 qc 14 = w_537 := (hx_col_S hs hTo g_qc tt_45 tt_2 rfl rfl).trans fw_537
  replace fw_538 : hx_col 100 h_544 qc 15 = w_538 := (hx_col_S hs hTo g_qc tt_45 tt_2 rfl rfl).trans fw_538
  replace nu_qp : hx_num 40 h_544 qp 0 (np.toInt) := hx_num_S hs hTo g_qp tt_44 tt_4 rfl rfl nu_qp
  replace nu_qc : hx_num 100 h_544 qc 0 (c0.toInt) := hx_num_S hs hTo g_qc tt_45 tt_2 rfl rfl nu_qc
  replace sb_list : hx_LQ 8 100 h_544 ql qc := hx_LQ_S hs g_ql g_qc rfl rfl sb_list
  replace hDF : hw_DF h_544 qc qp 2 F_aga c0.toInt := hw_DF_S hs hTo g_qc g_qp tt_45 tt_2 rfl rfl rfl hDF
  replace hRA9 : hv_RA h_544 qa qwo a0.toInt A9 := hv_RA_S hs hTo g_qa g_qwo tt_43 tt_0 rfl rfl rfl rfl rfl rfl ?o43 hRA9
  case o43 => omega
  replace hDP : hw_DF h_544 qc qp 1 F_by c0.toInt := hw_DF_S hs hTo g_qc g_qp tt_45 tt_2 rfl rfl rfl hDP
  replace hAC9 : hv_AC h_544 qc F_ml c0.toInt A9 := hv_AC_S hs hTo g_qc tt_45 tt_2 rfl tt_0 rfl rfl rfl rfl rfl rfl rfl hAC9
  replace hFX : hv_FX 8 4 h_544 qc cF9L c0.toInt := hv_FX_S hs hTo g_qc tt_45 tt_2 rfl rfl rfl rfl hFX
  replace hBX : hv_FX 3 5 h_544 qc F_be c0.toInt := hv_FX_S hs hTo g_qc tt_45 tt_2 rfl rfl rfl rfl hBX
  replace hHL : hv_HL h_544 qh qc F_ho m0.toInt c0.toInt := hv_HL_S hs g_qh g_qc rfl rfl hHL
  replace n_mw : h_544.2.1 mw = F_mw := (funext fun j => (hs.a g_mw rfl j).1).trans n_mw
  replace n_mr : h_544.2.1 mr = F_mr := (funext fun j => (hs.a g_mr rfl j).1).trans n_mr
  replace n_mp : h_544.2.1 mp = F_mp := (funext fun j => (hs.a g_mp rfl j).1).trans n_mp
  replace n_mn : h_544.2.1 mn = F_mn := (funext fun j => (hs.a g_mn rfl j).1).trans n_mn
  replace n_ml : h_544.2.1 ml = F_ml := (funext fun j => (hs.a g_ml rfl j).1).trans n_ml
  replace n_mh : h_544.2.1 mh = F_mh := (funext fun j => (hs.a g_mh rfl j).1).trans n_mh
  replace n_mt : h_544.2.1 mt = F_mt := (funext fun j => (hs.a g_mt rfl j).1).trans n_mt
  replace n_m_fou : h_544.2.1 m_fou = F_m_fou := (funext fun j => (hs.a g_m_fou rfl j).1).trans n_m_fou
  replace n_b_of : h_544.2.1 b_of = B_of := (funext fun j => (hs.a g_b_of rfl j).1).trans n_b_of
  replace n_m_of : h_544.2.1 m_of = F_of := (funext fun j => (hs.a g_m_of rfl j).1).trans n_m_of
  replace n_b_wf : h_544.2.1 b_wf = B_wf := (funext fun j => (hs.a g_b_wf rfl j).1).trans n_b_wf
  replace n_m_wf : h_544.2.1 m_wf = F_wf := (funext fun j => (hs.a g_m_wf rfl j).1).trans n_m_wf
  replace n_b_df : h_544.2.1 b_df = B_df := (funext fun j => (hs.a g_b_df rfl j).1).trans n_b_df
  replace n_m_df : h_544.2.1 m_df = F_df := (funext fun j => (hs.a g_m_df rfl j).1).trans n_m_df
  replace n_b_kf : h_544.2.1 b_kf = B_kf := (funext fun j => (hs.a g_b_kf rfl j).1).trans n_b_kf
  replace n_m_kf : h_544.2.1 m_kf = F_kf := (funext fun j => (hs.a g_m_kf rfl j).1).trans n_m_kf
  replace n_b_sf : h_544.2.1 b_sf = B_sf := (funext fun j => (hs.a g_b_sf rfl j).1).trans n_b_sf
  replace n_m_sf : h_544.2.1 m_sf = F_sf := (funext fun j => (hs.a g_m_sf rfl j).1).trans n_m_sf
  replace n_b_bf : h_544.2.1 b_bf = bfL := (funext fun j => (hs.a g_b_bf rfl j).1).trans n_b_bf
  replace n_lst : h_544.2.1 m_lst = F_lst := (funext fun j => (hs.a g_m_lst rfl j).1).trans n_lst
  replace n_tp : h_544.2.1 m_tp = F_tp := (funext fun j => (hs.a g_m_tp rfl j).1).trans n_tp
  replace n_qtp : h_544.2.1 qtp = F_tp := (funext fun j => (hs.a g_qtp rfl j).1).trans n_qtp
  replace n_dead : h_544.2.1 m_dead = F_dead := (funext fun j => (hs.a g_m_dead rfl j).1).trans n_dead
  replace n_isj : h_544.2.1 m_isj = F_isj := (funext fun j => (hs.a g_m_isj rfl j).1).trans n_isj
  replace n_dox : h_544.2.1 m_dox = F_dox := (funext fun j => (hs.a g_m_dox rfl j).1).trans n_dox
  replace n_doy : h_544.2.1 m_doy = F_doy := (funext fun j => (hs.a g_m_doy rfl j).1).trans n_doy
  replace n_qlt : h_544.2.1 qlt = F_qlt := (funext fun j => (hs.a g_qlt rfl j).1).trans n_qlt
  replace n_m_wkd : h_544.2.1 m_wkd = F_m_wkd := (funext fun j => (hs.a g_m_wkd rfl j).1).trans n_m_wkd
  replace n_aga : h_544.2.1 m_aga = F_aga := (funext fun j => (hs.a g_m_aga rfl j).1).trans n_aga
  replace n_ad : h_544.2.1 m_ad = F_ad := (funext fun j => (hs.a g_m_ad rfl j).1).trans n_ad
  replace n_by : h_544.2.1 m_by = F_by := (funext fun j => (hs.a g_m_by rfl j).1).trans n_by
  replace n_ho : h_544.2.1 m_ho = F_ho := (funext fun j => (hs.a g_m_ho rfl j).1).trans n_ho
  replace n_fc : h_544.2.1 m_fc = F_fc := (funext fun j => (hs.a g_m_fc rfl j).1).trans n_fc
  replace n_nt : h_544.2.1 m_nt = F_nt := (funext fun j => (hs.a g_m_nt rfl j).1).trans n_nt
  replace n_wt : h_544.2.1 m_wt = F_wt := (funext fun j => (hs.a g_m_wt rfl j).1).trans n_wt
  replace n_be : h_544.2.1 m_be = F_be := (funext fun j => (hs.a g_m_be rfl j).1).trans n_be
  replace n_bor : h_544.2.1 m_bor = F_bor := (funext fun j => (hs.a g_m_bor rfl j).1).trans n_bor
  replace n_kin : h_544.2.1 m_kin = F_kin := (funext fun j => (hs.a g_m_kin rfl j).1).trans n_kin
  replace n_sum : h_544.2.1 m_sum = F_sum := (funext fun j => (hs.a g_m_sum rfl j).1).trans n_sum
  replace n_fro : h_544.2.1 m_fro = F_fro := (funext fun j => (hs.a g_m_fro rfl j).1).trans n_fro
  replace n_fil : h_544.2.1 m_fil = F_fil := (funext fun j => (hs.a g_m_fil rfl j).1).trans n_fil
  replace n_jud : h_544.2.1 m_jud = F_jud := (funext fun j => (hs.a g_m_jud rfl j).1).trans n_jud
  replace n_ear : h_544.2.1 m_ear = F_ear := (funext fun j => (hs.a g_m_ear rfl j).1).trans n_ear
  replace n_hds : h_544.2.1 m_hds = F_hds := (funext fun j => (hs.a g_m_hds rfl j).1).trans n_hds
  replace n_gds : h_544.2.1 m_gds = F_gds := (funext fun j => (hs.a g_m_gds rfl j).1).trans n_gds
  replace n_szd : h_544.2.1 m_szd = F_szd := (funext fun j => (hs.a g_m_szd rfl j).1).trans n_szd
  replace n_srv : h_544.2.1 m_srv = F_srv := (funext fun j => (hs.a g_m_srv rfl j).1).trans n_srv
  replace n_p0 : h_544.2.1 m_p0 = F_p0 := (funext fun j => (hs.a g_m_p0 rfl j).1).trans n_p0
  replace n_y_p0 : h_544.2.1 y_p0 = F_p0 := (funext fun j => (hs.a g_y_p0 rfl j).1).trans n_y_p0
  replace n_p1 : h_544.2.1 m_p1 = F_p1 := (funext fun j => (hs.a g_m_p1 rfl j).1).trans n_p1
  replace n_y_p1 : h_544.2.1 y_p1 = F_p1 := (funext fun j => (hs.a g_y_p1 rfl j).1).trans n_y_p1
  replace n_p2 : h_544.2.1 m_p2 = F_p2 := (funext fun j => (hs.a g_m_p2 rfl j).1).trans n_p2
  replace n_y_p2 : h_544.2.1 y_p2 = F_p2 := (funext fun j => (hs.a g_y_p2 rfl j).1).trans n_y_p2
  replace n_p3 : h_544.2.1 m_p3 = F_p3 := (funext fun j => (hs.a g_m_p3 rfl j).1).trans n_p3
  replace n_y_p3 : h_544.2.1 y_p3 = F_p3 := (funext fun j => (hs.a g_y_p3 rfl j).1).trans n_y_p3
  replace n_p4 : h_544.2.1 m_p4 = F_p4 := (funext fun j => (hs.a g_m_p4 rfl j).1).trans n_p4
  replace n_y_p4 : h_544.2.1 y_p4 = F_p4 := (funext fun j => (hs.a g_y_p4 rfl j).1).trans n_y_p4
  replace n_y_ls : h_544.2.1 y_ls = F_y_ls := (funext fun j => (hs.a g_y_ls rfl j).1).trans n_y_ls
  replace n_m_rl : h_544.2.1 m_rl = F_m_rl := (funext fun j => (hs.a g_m_rl rfl j).1).trans n_m_rl
  replace gx := gx.S hs
  replace gm := gm.S hs
  replace g_qa := g_qa.S hs
  replace g_qp := g_qp.S hs
  replace g_qc := g_qc.S hs
  replace g_qh := g_qh.S hs
  replace g_qw := g_qw.S hs
  replace g_ql := g_ql.S hs
  replace g_mw := g_mw.S hs
  replace g_mr := g_mr.S hs
  replace g_mp := g_mp.S hs
  replace g_mn := g_mn.S hs
  replace g_ml := g_ml.S hs
  replace g_mh := g_mh.S hs
  replace g_mt := g_mt.S hs
  replace g_m_fou := g_m_fou.S hs
  replace g_qo_ln := g_qo_ln.S hs
  replace g_qo_py := g_qo_py.S hs
  replace g_b_of := g_b_of.S hs
  replace g_m_of := g_m_of.S hs
  replace g_b_wf := g_b_wf.S hs
  replace g_m_wf := g_m_wf.S hs
  replace g_b_df := g_b_df.S hs
  replace g_m_df := g_m_df.S hs
  replace g_b_kf := g_b_kf.S hs
  replace g_m_kf := g_m_kf.S hs
  replace g_b_sf := g_b_sf.S hs
  replace g_m_sf := g_m_sf.S hs
  replace g_b_bf := g_b_bf.S hs
  replace g_m_lst := g_m_lst.S hs
  replace g_qtp := g_qtp.S hs
  replace g_m_tp := g_m_tp.S hs
  replace g_m_dead := g_m_dead.S hs
  replace g_m_isj := g_m_isj.S hs
  replace g_m_dox := g_m_dox.S hs
  replace g_m_doy := g_m_doy.S hs
  replace g_qlt := g_qlt.S hs
  replace g_qlf := g_qlf.S hs
  replace g_m_wkd := g_m_wkd.S hs
  replace g_m_aga := g_m_aga.S hs
  replace g_qwo := g_qwo.S hs
  replace g_m_ad := g_m_ad.S hs
  replace g_m_by := g_m_by.S hs
  replace g_m_ho := g_m_ho.S hs
  replace g_m_fc := g_m_fc.S hs
  replace g_m_nt := g_m_nt.S hs
  replace g_m_wt := g_m_wt.S hs
  replace g_m_be := g_m_be.S hs
  replace g_m_bor := g_m_bor.S hs
  replace g_m_kin := g_m_kin.S hs
  replace g_m_sum := g_m_sum.S hs
  replace g_m_fro := g_m_fro.S hs
  replace g_m_fil := g_m_fil.S hs
  replace g_m_jud := g_m_jud.S hs
  replace g_m_ear := g_m_ear.S hs
  replace g_m_hds := g_m_hds.S hs
  replace g_m_ord := g_m_ord.S hs
  replace g_m_wkl := g_m_wkl.S hs
  replace g_m_owd := g_m_owd.S hs
  replace g_m_gds := g_m_gds.S hs
  replace g_m_szd := g_m_szd.S hs
  replace g_m_srv := g_m_srv.S hs
  replace g_y_p0 := g_y_p0.S hs
  replace g_m_p0 := g_m_p0.S hs
  replace g_y_p1 := g_y_p1.S hs
  replace g_m_p1 := g_m_p1.S hs
  replace g_y_p2 := g_y_p2.S hs
  replace g_m_p2 := g_m_p2.S hs
  replace g_y_p3 := g_y_p3.S hs
  replace g_m_p3 := g_m_p3.S hs
  replace g_y_p4 := g_y_p4.S hs
  replace g_m_p4 := g_m_p4.S hs
  replace g_qrg9 := g_qrg9.S hs
  replace g_y_ls := g_y_ls.S hs
  replace g_m_rl := g_m_rl.S hs
  have fw_548 : h_544.2.1 m_ord = w_548 := fw_548
  have fw_549 : h_544.2.1 m_wkl = w_549 := fw_549
  have fw_550 : h_544.2.1 m_owd = w_550 := fw_550
  refine lv_pop hx hb dL_law_917 rfl ?_
  refine lv_goto (tgt := 1379) hx hb dL_law_918 ?o44 ?_
  case o44 => decide
  obtain ⟨heq, hq_ord, hq_wkl, hq_owd⟩ := hz_OS_eq hr_535 hr_547 (hz_OC_i (fun h0 h1 => congrArg Int32.toInt (eq_dead _ (hz_ix bAG9 h0 h1 (by omega))))) (fun hc => by rw [eq_tri _ (hz_i100 hc.1.1 hc.1.2 (by omega))]) (fun _ => rfl)
  refine W.widen (k := CC + 3) (n := SS + 179) ?o45 ?o46 ?_
  case o45 => omega
  case o46 => omega
  refine kk L_543 h_544 H locs ls hW ⟨hT, gx, gm, ⟨f_x_now.trans f_m_now.symm, f_x_personCount.trans f_m_persons.symm, f_x_claimCount.trans f_m_claims.symm, f_x_tapeLength.trans f_m_taped.symm, f_x_actCount.trans f_m_acts.symm, f_x_heardCount.trans f_m_heardMany.symm, hx_ob f_qo_ln (f_o_ln.trans f_m_lines.symm), hx_ob f_qw (f_o_lsd.trans f_m_listed.symm), hx_ob f_qw (f_o_wkm.trans f_m_walkedMany.symm), hx_ob f_qo_py (f_o_py.trans f_m_payments.symm), hx_ob f_qp ?o47, hx_ob f_qc ?o48, (fun b a r hb ha hr => ?o49), (fun b a r hb ha hr => ?o50), (fun b a r hb ha hr => ?o51), (fun b a r hb ha hr => ?o52), (fun b a r hb ha hr => ?o53), (fun b a r hb ha hr => ?o54), (fun w q c hw hq hc => ?o55), (fun w q r hw hq hr => ?o56), (fun w q r hw hq hr => ?o57), (fun c q a hc hq ha => ?o58), (fun q r hq hr => ?o59), (fun q w a b c d e p hq hw ha hb hc hd he hp => ?o60), (fun c q a hc hq ha => ?o61), (fun q c a hq hc ha => ?o62), (fun a b ha hb => ?o63), (fun c a b d e f hc ha hb hd he hf => ?o64), (fun c a hc ha => ?o65), hx_ob2 f_qp f_m_bor (cl_bor.trans n_bor.symm), hx_ob2 f_qp f_m_kin (cl_kin.trans n_kin.symm), hx_ob2 f_qc f_m_sum (cl_sum.trans n_sum.symm), hx_ob2 f_qc f_m_fro (cl_fro.trans n_fro.symm), hx_ob2 f_qc f_m_fil (cl_fil.trans n_fil.symm), hx_ob2 f_qc f_mh (cl_hea.trans n_mh.symm), hx_ob2 f_qc f_m_jud (cl_jud.trans n_jud.symm), hx_ob2 f_qp f_m_ear (cl_ear.trans n_ear.symm), hx_ob2 f_qp f_m_hds (cl_hds.trans n_hds.symm), hx_ob2 f_qc f_m_ord ((fw_536.trans hq_ord).trans fw_548.symm), hx_ob2 f_qc f_m_wkl ((fw_537.trans hq_wkl).trans fw_549.symm), hx_ob2 f_qc f_m_owd ((fw_538.trans hq_owd).trans fw_550.symm), hx_ob2 f_qc f_m_gds (cl_gds.trans n_gds.symm), hx_ob2 f_qc f_m_szd (cl_szd.trans n_szd.symm), hx_ob2 f_qc f_m_srv (cl_srv.trans n_srv.symm), (fun p q r hp hq hr => ?o66), (fun p q r hp hq hr => ?o67), (fun p q r hp hq hr => ?o68), (fun p q r hp hq hr => ?o69), (fun p q r hp hq hr => ?o70), (fun p hp => ?o71), (fun p q r hp hq hr => ?o72), hx_ob2 f_qp f_m_dead ?o73, hx_ob2 f_qp f_m_isj ?o74, hx_ob2 f_qp f_m_dox ?o75, hx_ob2 f_qp f_m_doy ?o76, hx_ob2 f_qc f_m_fou ?o77, hx_ob2 f_qc f_mt ?o78, trivial⟩, ⟨hx_ob f_qa pf_qa, hx_ob f_qp pf_qp, hx_ob f_qc pf_qc, hx_ob f_qh pf_qh, (fun w q hw hq => ?o79)⟩, ⟨hx_ob f_mw ?o80, hx_ob f_mr ?o81, hx_ob2 f_mp f_mn ?o82, hx_ob f_ml ?o83, hx_ob f_mh ?o84, hx_ob f_mt ?o85, hx_ob2 f_mh f_m_fou ?o87⟩⟩ hl
  case o47 =>
    rw [f_x_personCount]
    exact nu_qp
  case o48 =>
    rw [f_x_claimCount]
    exact nu_qc
  case o49 =>
    obtain rfl : qo_ln = b := Option.some.inj (f_qo_ln.symm.trans hb)
    obtain rfl : b_of = a := Option.some.inj (f_b_of.symm.trans ha)
    obtain rfl : m_of = r := Option.some.inj (f_m_of.symm.trans hr)
    rw [n_b_of, n_m_of, f_o_ln]
    exact eb_of
  case o50 =>
    obtain rfl : qo_ln = b := Option.some.inj (f_qo_ln.symm.trans hb)
    obtain rfl : b_wf = a := Option.some.inj (f_b_wf.symm.trans ha)
    obtain rfl : m_wf = r := Option.some.inj (f_m_wf.symm.trans hr)
    rw [n_b_wf, n_m_wf, f_o_ln]
    exact eb_wf
  case o51 =>
    obtain rfl : qo_ln = b := Option.some.inj (f_qo_ln.symm.trans hb)
    obtain rfl : b_df = a := Option.some.inj (f_b_df.symm.trans ha)
    obtain rfl : m_df = r := Option.some.inj (f_m_df.symm.trans hr)
    rw [n_b_df, n_m_df, f_o_ln]
    exact eb_df
  case o52 =>
    obtain rfl : qo_ln = b := Option.some.inj (f_qo_ln.symm.trans hb)
    obtain rfl : b_kf = a := Option.some.inj (f_b_kf.symm.trans ha)
    obtain rfl : m_kf = r := Option.some.inj (f_m_kf.symm.trans hr)
    rw [n_b_kf, n_m_kf, f_o_ln]
    exact eb_kf
  case o53 =>
    obtain rfl : qo_ln = b := Option.some.inj (f_qo_ln.symm.trans hb)
    obtain rfl : b_sf = a := Option.some.inj (f_b_sf.symm.trans ha)
    obtain rfl : m_sf = r := Option.some.inj (f_m_sf.symm.trans hr)
    rw [n_b_sf, n_m_sf, f_o_ln]
    exact eb_sf
  case o54 =>
    obtain rfl : qo_ln = b := Option.some.inj (f_qo_ln.symm.trans hb)
    obtain rfl : b_df = a := Option.some.inj (f_b_df.symm.trans ha)
    obtain rfl : b_bf = r := Option.some.inj (f_b_bf.symm.trans hr)
    rw [n_b_df, n_b_bf, f_o_ln]
    exact ⟨hBD, hDY⟩
  case o55 =>
    obtain rfl : qw = w := Option.some.inj (f_qw.symm.trans hw)
    obtain rfl : ql = q := Option.some.inj (f_ql.symm.trans hq)
    obtain rfl : qc = c := Option.some.inj (f_qc.symm.trans hc)
    exact sb_list
  case o56 =>
    obtain rfl : qw = w := Option.some.inj (f_qw.symm.trans hw)
    obtain rfl : ql = q := Option.some.inj (f_ql.symm.trans hq)
    obtain rfl : m_lst = r := Option.some.inj (f_m_lst.symm.trans hr)
    rw [cl_lst, n_lst]
    exact eq_lst
  case o57 =>
    obtain rfl : qw = w := Option.some.inj (f_qw.symm.trans hw)
    obtain rfl : qlt = q := Option.some.inj (f_qlt.symm.trans hq)
    obtain rfl : m_wkd = r := Option.some.inj (f_m_wkd.symm.trans hr)
    rw [n_qlt, n_m_wkd, f_o_wkm]
    exact eb_wkd
  case o58 =>
    obtain rfl : qc = c := Option.some.inj (f_qc.symm.trans hc)
    obtain rfl : qp = q := Option.some.inj (f_qp.symm.trans hq)
    obtain rfl : m_aga = a := Option.some.inj (f_m_aga.symm.trans ha)
    rw [n_aga, f_x_claimCount]
    exact hw_DF_e hDF rfl rfl
  case o59 =>
    obtain rfl : qtp = q := Option.some.inj (f_qtp.symm.trans hq)
    obtain rfl : m_tp = r := Option.some.inj (f_m_tp.symm.trans hr)
    exact n_qtp.trans n_tp.symm
  case o60 =>
    obtain rfl : qa = q := Option.some.inj (f_qa.symm.trans hq)
    obtain rfl : qwo = w := Option.some.inj (f_qwo.symm.trans hw)
    obtain rfl : m_ad = a := Option.some.inj (f_m_ad.symm.trans ha)
    obtain rfl : mr = b := Option.some.inj (f_mr.symm.trans hb)
    obtain rfl : mn = c := Option.some.inj (f_mn.symm.trans hc)
    obtain rfl : mp = d := Option.some.inj (f_mp.symm.trans hd)
    obtain rfl : qc = e := Option.some.inj (f_qc.symm.trans he)
    obtain rfl : ml = p := Option.some.inj (f_ml.symm.trans hp)
    exact ⟨_, by rw [f_x_actCount]; exact hRA9, by rw [f_x_actCount, n_ad, n_mr, n_mn, n_mp]; exact hCA9, by rw [n_ml, f_x_claimCount]; exact hv_AC_e hAC9 rfl rfl rfl, hAB⟩
  case o61 =>
    obtain rfl : qc = c := Option.some.inj (f_qc.symm.trans hc)
    obtain rfl : qp = q := Option.some.inj (f_qp.symm.trans hq)
    obtain rfl : m_by = a := Option.some.inj (f_m_by.symm.trans ha)
    rw [n_by, f_x_claimCount]
    exact hw_DF_e hDP rfl rfl
  case o62 =>
    obtain rfl : qh = q := Option.some.inj (f_qh.symm.trans hq)
    obtain rfl : qc = c := Option.some.inj (f_qc.symm.trans hc)
    obtain rfl : m_ho = a := Option.some.inj (f_m_ho.symm.trans ha)
    rw [n_ho, f_x_heardCount, f_x_claimCount]
    exact hv_HL_e hHL rfl rfl rfl
  case o63 =>
    obtain rfl : m_ho = a := Option.some.inj (f_m_ho.symm.trans ha)
    obtain rfl : mh = b := Option.some.inj (f_mh.symm.trans hb)
    rw [n_ho, n_mh, f_m_heardMany, f_m_claims]
    exact hHO9
  case o64 =>
    obtain rfl : qc = c := Option.some.inj (f_qc.symm.trans hc)
    obtain rfl : m_fc = a := Option.some.inj (f_m_fc.symm.trans ha)
    obtain rfl : m_nt = b := Option.some.inj (f_m_nt.symm.trans hb)
    obtain rfl : m_wt = d := Option.some.inj (f_m_wt.symm.trans hd)
    obtain rfl : m_sum = e := Option.some.inj (f_m_sum.symm.trans he)
    obtain rfl : mh = f := Option.some.inj (f_mh.symm.trans hf)
    exact ⟨cF9L, by rw [f_x_claimCount]; exact hFX, by rw [n_fc, n_nt, n_wt, n_sum, n_mh, f_x_claimCount]; exact hFR9⟩
  case o65 =>
    obtain rfl : qc = c := Option.some.inj (f_qc.symm.trans hc)
    obtain rfl : m_be = a := Option.some.inj (f_m_be.symm.trans ha)
    rw [n_be, f_x_claimCount]
    exact hv_FX_e hBX rfl rfl
  case o66 =>
    obtain rfl : qo_py = p := Option.some.inj (f_qo_py.symm.trans hp)
    obtain rfl : y_p0 = q := Option.some.inj (f_y_p0.symm.trans hq)
    obtain rfl : m_p0 = r := Option.some.inj (f_m_p0.symm.trans hr)
    exact n_y_p0.trans n_p0.symm
  case o67 =>
    obtain rfl : qo_py = p := Option.some.inj (f_qo_py.symm.trans hp)
    obtain rfl : y_p1 = q := Option.some.inj (f_y_p1.symm.trans hq)
    obtain rfl : m_p1 = r := Option.some.inj (f_m_p1.symm.trans hr)
    exact n_y_p1.trans n_p1.symm
  case o68 =>
    obtain rfl : qo_py = p := Option.some.inj (f_qo_py.symm.trans hp)
    obtain rfl : y_p2 = q := Option.some.inj (f_y_p2.symm.trans hq)
    obtain rfl : m_p2 = r := Option.some.inj (f_m_p2.symm.trans hr)
    exact n_y_p2.trans n_p2.symm
  case o69 =>
    obtain rfl : qo_py = p := Option.some.inj (f_qo_py.symm.trans hp)
    obtain rfl : y_p3 = q := Option.some.inj (f_y_p3.symm.trans hq)
    obtain rfl : m_p3 = r := Option.some.inj (f_m_p3.symm.trans hr)
    exact n_y_p3.trans n_p3.symm
  case o70 =>
    obtain rfl : qo_py = p := Option.some.inj (f_qo_py.symm.trans hp)
    obtain rfl : y_p4 = q := Option.some.inj (f_y_p4.symm.trans hq)
    obtain rfl : m_p4 = r := Option.some.inj (f_m_p4.symm.trans hr)
    exact n_y_p4.trans n_p4.symm
  case o71 =>
    obtain rfl : qrg9 = p := Option.some.inj (f_qrg9.symm.trans hp)
    rw [ffv_523, ffv_524, ffv_525]
    exact hNQ9
  case o72 =>
    obtain rfl : qrg9 = p := Option.some.inj (f_qrg9.symm.trans hp)
    obtain rfl : y_ls = q := Option.some.inj (f_y_ls.symm.trans hq)
    obtain rfl : m_rl = r := Option.some.inj (f_m_rl.symm.trans hr)
    rw [n_y_ls, n_m_rl, ffv_523]
    exact hRL9
  case o73 =>
    rw [cl_dead, n_dead]
    exact eq_dead
  case o74 =>
    rw [cl_isj, n_isj]
    exact eq_isj
  case o75 =>
    rw [cl_dox, n_dox]
    exact eq_dox
  case o76 =>
    rw [cl_doy, n_doy]
    exact eq_doy
  case o77 =>
    rw [cl_fou, n_m_fou]
    exact eq_fou
  case o78 =>
    rw [cl_tri, n_mt]
    exact eq_tri
  case o79 =>
    obtain rfl : qw = w := Option.some.inj (f_qw.symm.trans hw)
    obtain rfl : ql = q := Option.some.inj (f_ql.symm.trans hq)
    exact pf_ql
  case o80 =>
    rw [n_mw]
    exact hwd
  case o81 =>
    rw [n_mr, f_m_acts]
    exact hWK
  case o82 =>
    rw [n_mp, n_mn, f_m_acts]
    exact hRP
  case o83 =>
    rw [n_ml, f_m_claims, f_m_acts]
    exact hPL
  case o84 =>
    rw [n_mh, f_m_heardMany, f_m_claims]
    exact hHC
  case o85 =>
    rw [n_mt]
    refine (hx_TR_le hTR ?o86)
    case o86 => omega
  case o87 =>
    rw [n_mh, n_m_fou, f_m_claims]
    exact hHF

set_option maxHeartbeats 4000000 in
set_option maxRecDepth 100000 in
theorem law_case_15 {p : Program} {e : Env} {s : State} {m : MethodId} {below : List Frame} {meth : Method} {c : Code} (l : Launch) {b LN : Nat} {xs : Nat → Int32} (hx : p.tables.exec = Jvm.exec) (hb : c.code = code) (hr : meth.sig.returnType = ret) (hlocks : meth.locks = false) (hml : c.maxLocals = 4) (hown : s.vm.findClass "SmallCourtLaw" = some m.cls) (hts : ∀ w ∈ hx_all, w.before #[Value.ref b] s = true) (hX : va_X b LN xs s s.heap) (hbl : b < s.heap.size) (hbA : ¬ s.heap.size ≤ b) (hLN : LN ≤ 3584) (dC : Nat → ClassId) (dI : Nat → Nat → Nat) (dA : Nat → ClassId) (b0 : hx_z) (ax am : Nat) (T1 : Int) (hT0 : 0 ≤ T1) (hT1 : T1 ≤ 511) (i : Int32) (hi0 : 0 ≤ i.toInt) (hiL : i.toInt + 7 ≤ LN) (CC SS : Nat) (hCC : CC + 3 ≤ 600000) (hSS : SS + 179 ≤ 7302250) (L1 : List Nat) (hl1 : hx_h) (H : Heap) (locs : List Loc) (ls : Array Slot) (hW : hx_W T_tb (P_ty dA) (dC, dI) vwCl (fun q : Nat => s.heap.size ≤ q) s.heap L1 hl1 s H locs) (hZ : hx_Xt (fun q : Nat => s.heap.size ≤ q) b0 s) (hI : hx_IV T1 ax am L1 hl1) (hl : lv_has ls 4 [(3, .int i), (2, .ref am), (1, .ref ax), (0, .ref b)]) (kk : ∀ (L2 : List Nat) (h2 : hx_h) (H2 : Heap) (locs2 : List Loc) (ls2 : Array Slot), hx_W T_tb (P_ty dA) (dC, dI) vwCl (fun q : Nat => s.heap.size ≤ q) s.heap L2 h2 s H2 locs2 → hx_IV (T1 + 1) ax am L2 h2 → lv_has ls2 4 [(3, .int i), (2, .ref am), (1, .ref ax), (0, .ref b)] → W p l e room_1 s m #[Value.ref b] below meth c H2 locs2 (CC + 3) (SS + 179) (lw_Z below #[Value.ref b] s) (F0 m 1379 ls2 [])) : W p l e room_1 s m #[Value.ref b] below meth c H locs CC SS (lw_Z below #[Value.ref b] s) (F0 m 921 ls []) := by
  have hI9 := hI
  have hT := hI9.1
  replace hI9 := hI9.2
  have gx := hI9.1
  replace hI9 := hI9.2
  have gm := hI9.1
  replace hI9 := hI9.2
  have zq0_3 := hI9.1
  have he_nw := zq0_3.1
  replace zq0_3 := zq0_3.2
  have he_np := zq0_3.1
  replace zq0_3 := zq0_3.2
  have he_c0 := zq0_3.1
  replace zq0_3 := zq0_3.2
  have he_tl := zq0_3.1
  replace zq0_3 := zq0_3.2
  have he_a0 := zq0_3.1
  replace zq0_3 := zq0_3.2
  have he_m0 := zq0_3.1
  replace zq0_3 := zq0_3.2
  have ho_ln := zq0_3.1
  replace zq0_3 := zq0_3.2
  have ho_lsd := zq0_3.1
  replace zq0_3 := zq0_3.2
  have ho_wkm := zq0_3.1
  replace zq0_3 := zq0_3.2
  have ho_py := zq0_3.1
  replace zq0_3 := zq0_3.2
  have hn_qp := zq0_3.1
  replace zq0_3 := zq0_3.2
  have hn_qc := zq0_3.1
  replace zq0_3 := zq0_3.2
  have hk_of := zq0_3.1
  replace zq0_3 := zq0_3.2
  have hk_wf := zq0_3.1
  replace zq0_3 := zq0_3.2
  have hk_df := zq0_3.1
  replace zq0_3 := zq0_3.2
  have hk_kf := zq0_3.1
  replace zq0_3 := zq0_3.2
  have hk_sf := zq0_3.1
  replace zq0_3 := zq0_3.2
  have hkBD := zq0_3.1
  replace zq0_3 := zq0_3.2
  have hLQ := zq0_3.1
  replace zq0_3 := zq0_3.2
  have hLE := zq0_3.1
  replace zq0_3 := zq0_3.2
  have hkWD := zq0_3.1
  replace zq0_3 := zq0_3.2
  have hkDF := zq0_3.1
  replace zq0_3 := zq0_3.2
  have hkTP := zq0_3.1
  replace zq0_3 := zq0_3.2
  have hkAC := zq0_3.1
  replace zq0_3 := zq0_3.2
  have hkDP := zq0_3.1
  replace zq0_3 := zq0_3.2
  have hkHL := zq0_3.1
  replace zq0_3 := zq0_3.2
  have hkHO := zq0_3.1
  replace zq0_3 := zq0_3.2
  have hkFX := zq0_3.1
  replace zq0_3 := zq0_3.2
  have hkBX := zq0_3.1
  replace zq0_3 := zq0_3.2
  have hf_bor := zq0_3.1
  replace zq0_3 := zq0_3.2
  have hf_kin := zq0_3.1
  replace zq0_3 := zq0_3.2
  have hf_sum := zq0_3.1
  replace zq0_3 := zq0_3.2
  have hf_fro := zq0_3.1
  replace zq0_3 := zq0_3.2
  have hf_fil := zq0_3.1
  replace zq0_3 := zq0_3.2
  have hf_hea := zq0_3.1
  replace zq0_3 := zq0_3.2
  have hf_jud := zq0_3.1
  replace zq0_3 := zq0_3.2
  have hf_ear := zq0_3.1
  replace zq0_3 := zq0_3.2
  have hf_hds := zq0_3.1
  replace zq0_3 := zq0_3.2
  have hf_ord := zq0_3.1
  replace zq0_3 := zq0_3.2
  have hf_wkl := zq0_3.1
  replace zq0_3 := zq0_3.2
  have hf_owd := zq0_3.1
  replace zq0_3 := zq0_3.2
  have hf_gds := zq0_3.1
  replace zq0_3 := zq0_3.2
  have hf_szd := zq0_3.1
  replace zq0_3 := zq0_3.2
  have hf_srv := zq0_3.1
  replace zq0_3 := zq0_3.2
  have hkP0 := zq0_3.1
  replace zq0_3 := zq0_3.2
  have hkP1 := zq0_3.1
  replace zq0_3 := zq0_3.2
  have hkP2 := zq0_3.1
  replace zq0_3 := zq0_3.2
  have hkP3 := zq0_3.1
  replace zq0_3 := zq0_3.2
  have hkP4 := zq0_3.1
  replace zq0_3 := zq0_3.2
  have hkNQ := zq0_3.1
  replace zq0_3 := zq0_3.2
  have hkRL := zq0_3.1
  replace zq0_3 := zq0_3.2
  have hc_dead := zq0_3.1
  replace zq0_3 := zq0_3.2
  have hc_isj := zq0_3.1
  replace zq0_3 := zq0_3.2
  have hc_dox := zq0_3.1
  replace zq0_3 := zq0_3.2
  have hc_doy := zq0_3.1
  replace zq0_3 := zq0_3.2
  have hc_fou := zq0_3.1
  replace zq0_3 := zq0_3.2
  have hc_tri := zq0_3.1
  replace zq0_3 := zq0_3.2
  replace hI9 := hI9.2
  have zq0_4 := hI9.1
  have ia := zq0_4.1
  replace zq0_4 := zq0_4.2
  have ip := zq0_4.1
  replace zq0_4 := zq0_4.2
  have ic := zq0_4.1
  replace zq0_4 := zq0_4.2
  have ih := zq0_4.1
  replace zq0_4 := zq0_4.2
  have il := zq0_4
  replace hI9 := hI9.2
  have zq0_5 := hI9
  have jw := zq0_5.1
  replace zq0_5 := zq0_5.2
  have jr := zq0_5.1
  replace zq0_5 := zq0_5.2
  have jp := zq0_5.1
  replace zq0_5 := zq0_5.2
  have jl := zq0_5.1
  replace zq0_5 := zq0_5.2
  have jh := zq0_5.1
  replace zq0_5 := zq0_5.2
  have jt := zq0_5.1
  replace zq0_5 := zq0_5.2
  have jf := zq0_5
  obtain ⟨qa, f_qa, g_qa⟩ := hx_rf hT gx tt_9 (k := 5) (u := 43) rfl
  have pf_qa := ia qa f_qa
  obtain ⟨qp, f_qp, g_qp⟩ := hx_rf hT gx tt_9 (k := 7) (u := 44) rfl
  have pf_qp := ip qp f_qp
  obtain ⟨qc, f_qc, g_qc⟩ := hx_rf hT gx tt_9 (k := 10) (u := 45) rfl
  have pf_qc := ic qc f_qc
  obtain ⟨qh, f_qh, g_qh⟩ := hx_rf hT gx tt_9 (k := 12) (u := 46) rfl
  have pf_qh := ih qh f_qh
  obtain ⟨qw, f_qw, g_qw⟩ := hx_rf hT gx tt_9 (k := 19) (u := 8) rfl
  obtain ⟨ql, f_ql, g_ql⟩ := hx_rf hT g_qw tt_8 (k := 3) (u := 40) rfl
  have pf_ql := il qw ql f_qw f_ql
  obtain ⟨nw, f_m_now⟩ : ∃ y : Int32, hl1.2.1 am 0 = y := ⟨_, rfl⟩
  have b_nw := hT.gi gm tt_10 (k := 0) rfl
  rw [f_m_now] at b_nw
  have b_nw : 0 ≤ nw.toInt ∧ nw.toInt ≤ 7999 := b_nw
  obtain ⟨np, f_m_persons⟩ : ∃ y : Int32, hl1.2.1 am 20 = y := ⟨_, rfl⟩
  have b_np := hT.gi gm tt_10 (k := 20) rfl
  rw [f_m_persons] at b_np
  have b_np : 0 ≤ np.toInt ∧ np.toInt ≤ 40 := b_np
  obtain ⟨c0, f_m_claims⟩ : ∃ y : Int32, hl1.2.1 am 36 = y := ⟨_, rfl⟩
  have b_c0 := hT.gi gm tt_10 (k := 36) rfl
  rw [f_m_claims] at b_c0
  have b_c0 : 0 ≤ c0.toInt ∧ c0.toInt ≤ 100 := b_c0
  obtain ⟨tl, f_m_taped⟩ : ∃ y : Int32, hl1.2.1 am 7 = y := ⟨_, rfl⟩
  have b_tl := hT.gi gm tt_10 (k := 7) rfl
  rw [f_m_taped] at b_tl
  have b_tl : 0 ≤ tl.toInt ∧ tl.toInt ≤ 400 := b_tl
  obtain ⟨a0, f_m_acts⟩ : ∃ y : Int32, hl1.2.1 am 1 = y := ⟨_, rfl⟩
  have b_a0 := hT.gi gm tt_10 (k := 1) rfl
  rw [f_m_acts] at b_a0
  have b_a0 : 0 ≤ a0.toInt ∧ a0.toInt ≤ 8 := b_a0
  obtain ⟨m0, f_m_heardMany⟩ : ∃ y : Int32, hl1.2.1 am 57 = y := ⟨_, rfl⟩
  have b_m0 := hT.gi gm tt_10 (k := 57) rfl
  rw [f_m_heardMany] at b_m0
  have b_m0 : 0 ≤ m0.toInt ∧ m0.toInt ≤ 100 := b_m0
  obtain ⟨ln, f_m_lines⟩ : ∃ y : Int32, hl1.2.1 am 29 = y := ⟨_, rfl⟩
  have b_ln := hT.gi gm tt_10 (k := 29) rfl
  rw [f_m_lines] at b_ln
  have b_ln : 0 ≤ ln.toInt ∧ ln.toInt ≤ 400 := b_ln
  obtain ⟨lsd, f_m_listed⟩ : ∃ y : Int32, hl1.2.1 am 90 = y := ⟨_, rfl⟩
  have b_lsd := hT.gi gm tt_10 (k := 90) rfl
  rw [f_m_listed] at b_lsd
  have b_lsd : 0 ≤ lsd.toInt ∧ lsd.toInt ≤ 8 := b_lsd
  obtain ⟨wkm, f_m_walkedMany⟩ : ∃ y : Int32, hl1.2.1 am 92 = y := ⟨_, rfl⟩
  have b_wkm := hT.gi gm tt_10 (k := 92) rfl
  rw [f_m_walkedMany] at b_wkm
  have b_wkm : 0 ≤ wkm.toInt ∧ wkm.toInt ≤ 8 := b_wkm
  obtain ⟨py, f_m_payments⟩ : ∃ y : Int32, hl1.2.1 am 59 = y := ⟨_, rfl⟩
  have b_py := hT.gi gm tt_10 (k := 59) rfl
  rw [f_m_payments] at b_py
  have b_py : 0 ≤ py.toInt ∧ py.toInt ≤ 600 := b_py
  have f_x_now : hl1.2.1 ax 2 = nw := he_nw.trans f_m_now
  have f_x_personCount : hl1.2.1 ax 8 = np := he_np.trans f_m_persons
  have f_x_claimCount : hl1.2.1 ax 11 = c0 := he_c0.trans f_m_claims
  have f_x_tapeLength : hl1.2.1 ax 1 = tl := he_tl.trans f_m_taped
  have f_x_actCount : hl1.2.1 ax 6 = a0 := he_a0.trans f_m_acts
  have f_x_heardCount : hl1.2.1 ax 13 = m0 := he_m0.trans f_m_heardMany
  obtain ⟨mw, f_mw, g_mw⟩ := hx_rf hT gm tt_10 (k := 19) (u := 57) rfl
  obtain ⟨F_mw, n_mw⟩ : ∃ g : Nat → Int32, hl1.2.1 mw = g := ⟨_, rfl⟩
  obtain ⟨mr, f_mr, g_mr⟩ := hx_rf hT gm tt_10 (k := 3) (u := 50) rfl
  obtain ⟨F_mr, n_mr⟩ : ∃ g : Nat → Int32, hl1.2.1 mr = g := ⟨_, rfl⟩
  obtain ⟨mp, f_mp, g_mp⟩ := hx_rf hT gm tt_10 (k := 5) (u := 52) rfl
  obtain ⟨F_mp, n_mp⟩ : ∃ g : Nat → Int32, hl1.2.1 mp = g := ⟨_, rfl⟩
  obtain ⟨mn, f_mn, g_mn⟩ := hx_rf hT gm tt_10 (k := 4) (u := 51) rfl
  obtain ⟨F_mn, n_mn⟩ : ∃ g : Nat → Int32, hl1.2.1 mn = g := ⟨_, rfl⟩
  obtain ⟨ml, f_ml, g_ml⟩ := hx_rf hT gm tt_10 (k := 44) (u := 79) rfl
  obtain ⟨F_ml, n_ml⟩ : ∃ g : Nat → Int32, hl1.2.1 ml = g := ⟨_, rfl⟩
  obtain ⟨mh, f_mh, g_mh⟩ := hx_rf hT gm tt_10 (k := 47) (u := 82) rfl
  obtain ⟨F_mh, n_mh⟩ : ∃ g : Nat → Int32, hl1.2.1 mh = g := ⟨_, rfl⟩
  obtain ⟨mt, f_mt, g_mt⟩ := hx_rf hT gm tt_10 (k := 45) (u := 80) rfl
  obtain ⟨F_mt, n_mt⟩ : ∃ g : Nat → Int32, hl1.2.1 mt = g := ⟨_, rfl⟩
  obtain ⟨m_fou, f_m_fou, g_m_fou⟩ := hx_rf hT gm tt_10 (k := 46) (u := 81) rfl
  obtain ⟨F_m_fou, n_m_fou⟩ : ∃ g : Nat → Int32, hl1.2.1 m_fou = g := ⟨_, rfl⟩
  obtain ⟨qo_ln, f_qo_ln, g_qo_ln⟩ := hx_rf hT gx tt_9 (k := 9) (u := 1) rfl
  have f_o_ln : hl1.2.1 qo_ln 0 = ln := (ho_ln qo_ln f_qo_ln).trans f_m_lines
  have f_o_lsd : hl1.2.1 qw 0 = lsd := (ho_lsd qw f_qw).trans f_m_listed
  have f_o_wkm : hl1.2.1 qw 1 = wkm := (ho_wkm qw f_qw).trans f_m_walkedMany
  obtain ⟨qo_py, f_qo_py, g_qo_py⟩ := hx_rf hT gx tt_9 (k := 14) (u := 3) rfl
  have f_o_py : hl1.2.1 qo_py 0 = py := (ho_py qo_py f_qo_py).trans f_m_payments
  have nu_qp := hn_qp qp f_qp; rw [f_x_personCount] at nu_qp
  have nu_qc := hn_qc qc f_qc; rw [f_x_claimCount] at nu_qc
  obtain ⟨b_of, f_b_of, g_b_of⟩ := hx_rf hT g_qo_ln tt_1 (k := 1) (u := 13) rfl
  obtain ⟨B_of, n_b_of⟩ : ∃ g : Nat → Int32, hl1.2.1 b_of = g := ⟨_, rfl⟩
  obtain ⟨m_of, f_m_of, g_m_of⟩ := hx_rf hT gm tt_10 (k := 30) (u := 66) rfl
  obtain ⟨F_of, n_m_of⟩ : ∃ g : Nat → Int32, hl1.2.1 m_of = g := ⟨_, rfl⟩
  have eb_of := hk_of qo_ln b_of m_of f_qo_ln f_b_of f_m_of; rw [n_b_of, n_m_of, f_o_ln] at eb_of
  obtain ⟨b_wf, f_b_wf, g_b_wf⟩ := hx_rf hT g_qo_ln tt_1 (k := 2) (u := 14) rfl
  obtain ⟨B_wf, n_b_wf⟩ : ∃ g : Nat → Int32, hl1.2.1 b_wf = g := ⟨_, rfl⟩
  obtain ⟨m_wf, f_m_wf, g_m_wf⟩ := hx_rf hT gm tt_10 (k := 31) (u := 67) rfl
  obtain ⟨F_wf, n_m_wf⟩ : ∃ g : Nat → Int32, hl1.2.1 m_wf = g := ⟨_, rfl⟩
  have eb_wf := hk_wf qo_ln b_wf m_wf f_qo_ln f_b_wf f_m_wf; rw [n_b_wf, n_m_wf, f_o_ln] at eb_wf
  obtain ⟨b_df, f_b_df, g_b_df⟩ := hx_rf hT g_qo_ln tt_1 (k := 3) (u := 15) rfl
  obtain ⟨B_df, n_b_df⟩ : ∃ g : Nat → Int32, hl1.2.1 b_df = g := ⟨_, rfl⟩
  obtain ⟨m_df, f_m_df, g_m_df⟩ := hx_rf hT gm tt_10 (k := 32) (u := 68) rfl
  obtain ⟨F_df, n_m_df⟩ : ∃ g : Nat → Int32, hl1.2.1 m_df = g := ⟨_, rfl⟩
  have eb_df := hk_df qo_ln b_df m_df f_qo_ln f_b_df f_m_df; rw [n_b_df, n_m_df, f_o_ln] at eb_df
  obtain ⟨b_kf, f_b_kf, g_b_kf⟩ := hx_rf hT g_qo_ln tt_1 (k := 4) (u := 16) rfl
  obtain ⟨B_kf, n_b_kf⟩ : ∃ g : Nat → Int32, hl1.2.1 b_kf = g := ⟨_, rfl⟩
  obtain ⟨m_kf, f_m_kf, g_m_kf⟩ := hx_rf hT gm tt_10 (k := 33) (u := 69) rfl
  obtain ⟨F_kf, n_m_kf⟩ : ∃ g : Nat → Int32, hl1.2.1 m_kf = g := ⟨_, rfl⟩
  have eb_kf := hk_kf qo_ln b_kf m_kf f_qo_ln f_b_kf f_m_kf; rw [n_b_kf, n_m_kf, f_o_ln] at eb_kf
  obtain ⟨b_sf, f_b_sf, g_b_sf⟩ := hx_rf hT g_qo_ln tt_1 (k := 5) (u := 17) rfl
  obtain ⟨B_sf, n_b_sf⟩ : ∃ g : Nat → Int32, hl1.2.1 b_sf = g := ⟨_, rfl⟩
  obtain ⟨m_sf, f_m_sf, g_m_sf⟩ := hx_rf hT gm tt_10 (k := 34) (u := 70) rfl
  obtain ⟨F_sf, n_m_sf⟩ : ∃ g : Nat → Int32, hl1.2.1 m_sf = g := ⟨_, rfl⟩
  have eb_sf := hk_sf qo_ln b_sf m_sf f_qo_ln f_b_sf f_m_sf; rw [n_b_sf, n_m_sf, f_o_ln] at eb_sf
  obtain ⟨b_bf, f_b_bf, g_b_bf⟩ := hx_rf hT g_qo_ln tt_1 (k := 6) (u := 18) rfl
  obtain ⟨bfL, n_b_bf⟩ : ∃ g : Nat → Int32, hl1.2.1 b_bf = g := ⟨_, rfl⟩
  obtain ⟨hBD, hDY⟩ := hkBD qo_ln b_df b_bf f_qo_ln f_b_df f_b_bf; rw [n_b_df, n_b_bf, f_o_ln] at hBD; rw [n_b_df, f_o_ln] at hDY
  have hBDm := hy_BD_c eb_df hBD
  have hDYm : hy_DY F_df ln.toInt.toNat := fun x hx => by rw [← eb_df x hx]; exact hDY x hx
  have sb_list := hLQ qw ql qc f_qw f_ql f_qc
  obtain ⟨m_lst, f_m_lst, g_m_lst⟩ := hx_rf hT gm tt_10 (k := 91) (u := 112) rfl
  obtain ⟨F_lst, n_lst⟩ : ∃ g : Nat → Int32, hl1.2.1 m_lst = g := ⟨_, rfl⟩
  obtain ⟨c_lst, cl_lst⟩ : ∃ g : Nat → Int32, hx_col 8 hl1 ql 0 = g := ⟨_, rfl⟩
  have eq_lst := hLE qw ql m_lst f_qw f_ql f_m_lst; rw [cl_lst, n_lst] at eq_lst
  obtain ⟨qtp, f_qtp, g_qtp⟩ := hx_rf hT gx tt_9 (k := 0) (u := 42) rfl
  obtain ⟨m_tp, f_m_tp, g_m_tp⟩ := hx_rf hT gm tt_10 (k := 6) (u := 53) rfl
  obtain ⟨F_tp, n_tp⟩ : ∃ g : Nat → Int32, hl1.2.1 m_tp = g := ⟨_, rfl⟩
  have n_qtp : hl1.2.1 qtp = F_tp := (hkTP qtp m_tp f_qtp f_m_tp).trans n_tp
  obtain ⟨c_dead, cl_dead⟩ : ∃ g : Nat → Int32, hx_col 40 hl1 qp 7 = g := ⟨_, rfl⟩
  obtain ⟨m_dead, f_m_dead, g_m_dead⟩ := hx_rf hT gm tt_10 (k := 27) (u := 64) rfl
  obtain ⟨F_dead, n_dead⟩ : ∃ g : Nat → Int32, hl1.2.1 m_dead = g := ⟨_, rfl⟩
  have eq_dead := hc_dead qp m_dead f_qp f_m_dead; rw [cl_dead, n_dead] at eq_dead
  have z_dead : np.toInt.toNat < 40 → c_dead np.toInt.toNat = 0 := fun hj => hx_num_z nu_qp cl_dead hj ?o0
  case o0 => omega
  obtain ⟨c_isj, cl_isj⟩ : ∃ g : Nat → Int32, hx_col 40 hl1 qp 8 = g := ⟨_, rfl⟩
  obtain ⟨m_isj, f_m_isj, g_m_isj⟩ := hx_rf hT gm tt_10 (k := 28) (u := 65) rfl
  obtain ⟨F_isj, n_isj⟩ : ∃ g : Nat → Int32, hl1.2.1 m_isj = g := ⟨_, rfl⟩
  have eq_isj := hc_isj qp m_isj f_qp f_m_isj; rw [cl_isj, n_isj] at eq_isj
  have z_isj : np.toInt.toNat < 40 → c_isj np.toInt.toNat = 0 := fun hj => hx_num_z nu_qp cl_isj hj ?o1
  case o1 => omega
  obtain ⟨c_dox, cl_dox⟩ : ∃ g : Nat → Int32, hx_col 40 hl1 qp 5 = g := ⟨_, rfl⟩
  obtain ⟨m_dox, f_m_dox, g_m_dox⟩ := hx_rf hT gm tt_10 (k := 24) (u := 61) rfl
  obtain ⟨F_dox, n_dox⟩ : ∃ g : Nat → Int32, hl1.2.1 m_dox = g := ⟨_, rfl⟩
  have eq_dox := hc_dox qp m_dox f_qp f_m_dox; rw [cl_dox, n_dox] at eq_dox
  have z_dox : np.toInt.toNat < 40 → c_dox np.toInt.toNat = 0 := fun hj => hx_num_z nu_qp cl_dox hj ?o2
  case o2 => omega
  obtain ⟨c_doy, cl_doy⟩ : ∃ g : Nat → Int32, hx_col 40 hl1 qp 6 = g := ⟨_, rfl⟩
  obtain ⟨m_doy, f_m_doy, g_m_doy⟩ := hx_rf hT gm tt_10 (k := 25) (u := 62) rfl
  obtain ⟨F_doy, n_doy⟩ : ∃ g : Nat → Int32, hl1.2.1 m_doy = g := ⟨_, rfl⟩
  have eq_doy := hc_doy qp m_doy f_qp f_m_doy; rw [cl_doy, n_doy] at eq_doy
  have z_doy : np.toInt.toNat < 40 → c_doy np.toInt.toNat = 0 := fun hj => hx_num_z nu_qp cl_doy hj ?o3
  case o3 => omega
  obtain ⟨c_fou, cl_fou⟩ : ∃ g : Nat → Int32, hx_col 100 hl1 qc 10 = g := ⟨_, rfl⟩
  have eq_fou := hc_fou qc m_fou f_qc f_m_fou; rw [cl_fou, n_m_fou] at eq_fou
  have z_fou : c0.toInt.toNat < 100 → c_fou c0.toInt.toNat = 0 := fun hj => hx_num_z nu_qc cl_fou hj ?o4
  case o4 => omega
  obtain ⟨c_tri, cl_tri⟩ : ∃ g : Nat → Int32, hx_col 100 hl1 qc 9 = g := ⟨_, rfl⟩
  have eq_tri := hc_tri qc mt f_qc f_mt; rw [cl_tri, n_mt] at eq_tri
  have z_tri : c0.toInt.toNat < 100 → c_tri c0.toInt.toNat = 0 := fun hj => hx_num_z nu_qc cl_tri hj ?o5
  case o5 => omega
  obtain ⟨qlt, f_qlt, g_qlt⟩ := hx_rf hT g_qw tt_8 (k := 2) (u := 39) rfl
  obtain ⟨qlf, f_qlf, g_qlf⟩ := hx_rf hT g_qw tt_8 (k := 4) (u := 41) rfl
  obtain ⟨m_wkd, f_m_wkd, g_m_wkd⟩ := hx_rf hT gm tt_10 (k := 93) (u := 113) rfl
  obtain ⟨F_qlt, n_qlt⟩ : ∃ g : Nat → Int32, hl1.2.1 qlt = g := ⟨_, rfl⟩
  obtain ⟨F_m_wkd, n_m_wkd⟩ : ∃ g : Nat → Int32, hl1.2.1 m_wkd = g := ⟨_, rfl⟩
  have eb_wkd := hkWD qw qlt m_wkd f_qw f_qlt f_m_wkd; rw [n_qlt, n_m_wkd, f_o_wkm] at eb_wkd
  obtain ⟨m_aga, f_m_aga, g_m_aga⟩ := hx_rf hT gm tt_10 (k := 38) (u := 73) rfl
  obtain ⟨F_aga, n_aga⟩ : ∃ g : Nat → Int32, hl1.2.1 m_aga = g := ⟨_, rfl⟩
  have hDF := hkDF qc qp m_aga f_qc f_qp f_m_aga; rw [n_aga, f_x_claimCount] at hDF
  obtain ⟨qwo, f_qwo, g_qwo⟩ := hx_rf hT gx tt_9 (k := 4) (u := 0) rfl
  obtain ⟨m_ad, f_m_ad, g_m_ad⟩ := hx_rf hT gm tt_10 (k := 2) (u := 49) rfl
  obtain ⟨F_ad, n_ad⟩ : ∃ g : Nat → Int32, hl1.2.1 m_ad = g := ⟨_, rfl⟩
  obtain ⟨A9, hRA9, hCA9, hAC9, hAB⟩ := hkAC qa qwo m_ad mr mn mp qc ml f_qa f_qwo f_m_ad f_mr f_mn f_mp f_qc f_ml
  rw [f_x_actCount] at hRA9; rw [f_x_actCount, n_ad, n_mr, n_mn, n_mp] at hCA9
  obtain ⟨m_by, f_m_by, g_m_by⟩ := hx_rf hT gm tt_10 (k := 37) (u := 72) rfl
  obtain ⟨F_by, n_by⟩ : ∃ g : Nat → Int32, hl1.2.1 m_by = g := ⟨_, rfl⟩
  obtain ⟨m_ho, f_m_ho, g_m_ho⟩ := hx_rf hT gm tt_10 (k := 58) (u := 92) rfl
  obtain ⟨F_ho, n_ho⟩ : ∃ g : Nat → Int32, hl1.2.1 m_ho = g := ⟨_, rfl⟩
  obtain ⟨m_fc, f_m_fc, g_m_fc⟩ := hx_rf hT gm tt_10 (k := 53) (u := 88) rfl
  obtain ⟨F_fc, n_fc⟩ : ∃ g : Nat → Int32, hl1.2.1 m_fc = g := ⟨_, rfl⟩
  obtain ⟨m_nt, f_m_nt, g_m_nt⟩ := hx_rf hT gm tt_10 (k := 41) (u := 76) rfl
  obtain ⟨F_nt, n_nt⟩ : ∃ g : Nat → Int32, hl1.2.1 m_nt = g := ⟨_, rfl⟩
  obtain ⟨m_wt, f_m_wt, g_m_wt⟩ := hx_rf hT gm tt_10 (k := 42) (u := 77) rfl
  obtain ⟨F_wt, n_wt⟩ : ∃ g : Nat → Int32, hl1.2.1 m_wt = g := ⟨_, rfl⟩
  obtain ⟨m_be, f_m_be, g_m_be⟩ := hx_rf hT gm tt_10 (k := 52) (u := 87) rfl
  obtain ⟨F_be, n_be⟩ : ∃ g : Nat → Int32, hl1.2.1 m_be = g := ⟨_, rfl⟩
  obtain ⟨m_bor, f_m_bor, g_m_bor⟩ := hx_rf hT gm tt_10 (k := 21) (u := 58) rfl
  obtain ⟨F_bor, n_bor⟩ : ∃ g : Nat → Int32, hl1.2.1 m_bor = g := ⟨_, rfl⟩
  obtain ⟨m_kin, f_m_kin, g_m_kin⟩ := hx_rf hT gm tt_10 (k := 26) (u := 63) rfl
  obtain ⟨F_kin, n_kin⟩ : ∃ g : Nat → Int32, hl1.2.1 m_kin = g := ⟨_, rfl⟩
  obtain ⟨m_sum, f_m_sum, g_m_sum⟩ := hx_rf hT gm tt_10 (k := 39) (u := 74) rfl
  obtain ⟨F_sum, n_sum⟩ : ∃ g : Nat → Int32, hl1.2.1 m_sum = g := ⟨_, rfl⟩
  obtain ⟨m_fro, f_m_fro, g_m_fro⟩ := hx_rf hT gm tt_10 (k := 40) (u := 75) rfl
  obtain ⟨F_fro, n_fro⟩ : ∃ g : Nat → Int32, hl1.2.1 m_fro = g := ⟨_, rfl⟩
  obtain ⟨m_fil, f_m_fil, g_m_fil⟩ := hx_rf hT gm tt_10 (k := 43) (u := 78) rfl
  obtain ⟨F_fil, n_fil⟩ : ∃ g : Nat → Int32, hl1.2.1 m_fil = g := ⟨_, rfl⟩
  obtain ⟨m_jud, f_m_jud, g_m_jud⟩ := hx_rf hT gm tt_10 (k := 51) (u := 86) rfl
  obtain ⟨F_jud, n_jud⟩ : ∃ g : Nat → Int32, hl1.2.1 m_jud = g := ⟨_, rfl⟩
  obtain ⟨m_ear, f_m_ear, g_m_ear⟩ := hx_rf hT gm tt_10 (k := 22) (u := 59) rfl
  obtain ⟨F_ear, n_ear⟩ : ∃ g : Nat → Int32, hl1.2.1 m_ear = g := ⟨_, rfl⟩
  obtain ⟨m_hds, f_m_hds, g_m_hds⟩ := hx_rf hT gm tt_10 (k := 23) (u := 60) rfl
  obtain ⟨F_hds, n_hds⟩ : ∃ g : Nat → Int32, hl1.2.1 m_hds = g := ⟨_, rfl⟩
  obtain ⟨m_ord, f_m_ord, g_m_ord⟩ := hx_rf hT gm tt_10 (k := 48) (u := 83) rfl
  obtain ⟨F_ord, n_ord⟩ : ∃ g : Nat → Int32, hl1.2.1 m_ord = g := ⟨_, rfl⟩
  obtain ⟨m_wkl, f_m_wkl, g_m_wkl⟩ := hx_rf hT gm tt_10 (k := 54) (u := 89) rfl
  obtain ⟨F_wkl, n_wkl⟩ : ∃ g : Nat → Int32, hl1.2.1 m_wkl = g := ⟨_, rfl⟩
  obtain ⟨m_owd, f_m_owd, g_m_owd⟩ := hx_rf hT gm tt_10 (k := 55) (u := 90) rfl
  obtain ⟨F_owd, n_owd⟩ : ∃ g : Nat → Int32, hl1.2.1 m_owd = g := ⟨_, rfl⟩
  obtain ⟨m_gds, f_m_gds, g_m_gds⟩ := hx_rf hT gm tt_10 (k := 56) (u := 91) rfl
  obtain ⟨F_gds, n_gds⟩ : ∃ g : Nat → Int32, hl1.2.1 m_gds = g := ⟨_, rfl⟩
  obtain ⟨m_szd, f_m_szd, g_m_szd⟩ := hx_rf hT gm tt_10 (k := 49) (u := 84) rfl
  obtain ⟨F_szd, n_szd⟩ : ∃ g : Nat → Int32, hl1.2.1 m_szd = g := ⟨_, rfl⟩
  obtain ⟨m_srv, f_m_srv, g_m_srv⟩ := hx_rf hT gm tt_10 (k := 50) (u := 85) rfl
  obtain ⟨F_srv, n_srv⟩ : ∃ g : Nat → Int32, hl1.2.1 m_srv = g := ⟨_, rfl⟩
  have cl_bor : hx_col 40 hl1 qp 1 = F_bor := (hf_bor qp m_bor f_qp f_m_bor).trans n_bor
  have cl_kin : hx_col 40 hl1 qp 2 = F_kin := (hf_kin qp m_kin f_qp f_m_kin).trans n_kin
  have cl_sum : hx_col 100 hl1 qc 6 = F_sum := (hf_sum qc m_sum f_qc f_m_sum).trans n_sum
  have cl_fro : hx_col 100 hl1 qc 7 = F_fro := (hf_fro qc m_fro f_qc f_m_fro).trans n_fro
  have cl_fil : hx_col 100 hl1 qc 8 = F_fil := (hf_fil qc m_fil f_qc f_m_fil).trans n_fil
  have cl_hea : hx_col 100 hl1 qc 11 = F_mh := (hf_hea qc mh f_qc f_mh).trans n_mh
  have cl_jud : hx_col 100 hl1 qc 12 = F_jud := (hf_jud qc m_jud f_qc f_m_jud).trans n_jud
  have cl_ear : hx_col 40 hl1 qp 3 = F_ear := (hf_ear qp m_ear f_qp f_m_ear).trans n_ear
  have cl_hds : hx_col 40 hl1 qp 4 = F_hds := (hf_hds qp m_hds f_qp f_m_hds).trans n_hds
  have cl_ord : hx_col 100 hl1 qc 13 = F_ord := (hf_ord qc m_ord f_qc f_m_ord).trans n_ord
  have cl_wkl : hx_col 100 hl1 qc 14 = F_wkl := (hf_wkl qc m_wkl f_qc f_m_wkl).trans n_wkl
  have cl_owd : hx_col 100 hl1 qc 15 = F_owd := (hf_owd qc m_owd f_qc f_m_owd).trans n_owd
  have cl_gds : hx_col 100 hl1 qc 17 = F_gds := (hf_gds qc m_gds f_qc f_m_gds).trans n_gds
  have cl_szd : hx_col 100 hl1 qc 16 = F_szd := (hf_szd qc m_szd f_qc f_m_szd).trans n_szd
  have cl_srv : hx_col 100 hl1 qc 18 = F_srv := (hf_srv qc m_srv f_qc f_m_srv).trans n_srv
  have htb9 : ∀ c, c < 100 → 0 ≤ (c_tri c).toInt ∧ (c_tri c).toInt ≤ 512 := fun c hc => by rw [eq_tri c hc]; have w := hT.ei g_mt tt_80 (k := c) hc; rw [n_mt] at w; exact w
  have z_jud : F_jud c0.toInt.toNat = 0 := hx_num_z2 nu_qc cl_jud ?o6
  case o6 => omega
  have hDP := hkDP qc qp m_by f_qc f_qp f_m_by; rw [n_by, f_x_claimCount] at hDP
  have hHL := hkHL qh qc m_ho f_qh f_qc f_m_ho; rw [n_ho, f_x_heardCount, f_x_claimCount] at hHL
  have hHO9 := hkHO m_ho mh f_m_ho f_mh; rw [n_ho, n_mh, f_m_heardMany, f_m_claims] at hHO9
  obtain ⟨cF9L, hFX, hFR9⟩ := hkFX qc m_fc m_nt m_wt m_sum mh f_qc f_m_fc f_m_nt f_m_wt f_m_sum f_mh; rw [f_x_claimCount] at hFX; rw [n_fc, n_nt, n_wt, n_sum, n_mh, f_x_claimCount] at hFR9
  have hBX := hkBX qc m_be f_qc f_m_be; rw [n_be, f_x_claimCount] at hBX
  rw [n_ml, f_x_claimCount] at hAC9
  obtain ⟨y_p0, f_y_p0, g_y_p0⟩ := hx_rf hT g_qo_py tt_3 (k := 2) (u := 23) rfl
  obtain ⟨m_p0, f_m_p0, g_m_p0⟩ := hx_rf hT gm tt_10 (k := 60) (u := 93) rfl
  obtain ⟨F_p0, n_p0⟩ : ∃ g : Nat → Int32, hl1.2.1 m_p0 = g := ⟨_, rfl⟩
  have n_y_p0 : hl1.2.1 y_p0 = F_p0 := (hkP0 qo_py y_p0 m_p0 f_qo_py f_y_p0 f_m_p0).trans n_p0
  obtain ⟨y_p1, f_y_p1, g_y_p1⟩ := hx_rf hT g_qo_py tt_3 (k := 3) (u := 24) rfl
  obtain ⟨m_p1, f_m_p1, g_m_p1⟩ := hx_rf hT gm tt_10 (k := 61) (u := 94) rfl
  obtain ⟨F_p1, n_p1⟩ : ∃ g : Nat → Int32, hl1.2.1 m_p1 = g := ⟨_, rfl⟩
  have n_y_p1 : hl1.2.1 y_p1 = F_p1 := (hkP1 qo_py y_p1 m_p1 f_qo_py f_y_p1 f_m_p1).trans n_p1
  obtain ⟨y_p2, f_y_p2, g_y_p2⟩ := hx_rf hT g_qo_py tt_3 (k := 5) (u := 26) rfl
  obtain ⟨m_p2, f_m_p2, g_m_p2⟩ := hx_rf hT gm tt_10 (k := 62) (u := 95) rfl
  obtain ⟨F_p2, n_p2⟩ : ∃ g : Nat → Int32, hl1.2.1 m_p2 = g := ⟨_, rfl⟩
  have n_y_p2 : hl1.2.1 y_p2 = F_p2 := (hkP2 qo_py y_p2 m_p2 f_qo_py f_y_p2 f_m_p2).trans n_p2
  obtain ⟨y_p3, f_y_p3, g_y_p3⟩ := hx_rf hT g_qo_py tt_3 (k := 4) (u := 25) rfl
  obtain ⟨m_p3, f_m_p3, g_m_p3⟩ := hx_rf hT gm tt_10 (k := 63) (u := 96) rfl
  obtain ⟨F_p3, n_p3⟩ : ∃ g : Nat → Int32, hl1.2.1 m_p3 = g := ⟨_, rfl⟩
  have n_y_p3 : hl1.2.1 y_p3 = F_p3 := (hkP3 qo_py y_p3 m_p3 f_qo_py f_y_p3 f_m_p3).trans n_p3
  obtain ⟨y_p4, f_y_p4, g_y_p4⟩ := hx_rf hT g_qo_py tt_3 (k := 1) (u := 22) rfl
  obtain ⟨m_p4, f_m_p4, g_m_p4⟩ := hx_rf hT gm tt_10 (k := 64) (u := 97) rfl
  obtain ⟨F_p4, n_p4⟩ : ∃ g : Nat → Int32, hl1.2.1 m_p4 = g := ⟨_, rfl⟩
  have n_y_p4 : hl1.2.1 y_p4 = F_p4 := (hkP4 qo_py y_p4 m_p4 f_qo_py f_y_p4 f_m_p4).trans n_p4
  obtain ⟨qrg9, f_qrg9, g_qrg9⟩ := hx_rf hT gx tt_9 (k := 18) (u := 7) rfl
  obtain ⟨y_ls, f_y_ls, g_y_ls⟩ := hx_rf hT g_qrg9 tt_7 (k := 3) (u := 35) rfl
  obtain ⟨m_rl, f_m_rl, g_m_rl⟩ := hx_rf hT gm tt_10 (k := 85) (u := 109) rfl
  obtain ⟨F_y_ls, n_y_ls⟩ : ∃ g : Nat → Int32, hl1.2.1 y_ls = g := ⟨_, rfl⟩
  obtain ⟨F_m_rl, n_m_rl⟩ : ∃ g : Nat → Int32, hl1.2.1 m_rl = g := ⟨_, rfl⟩
  obtain ⟨fv_551, efv_551⟩ : ∃ y : Int32, y = hl1.2.1 qrg9 0 := ⟨_, rfl⟩
  have bfv_551 := hT.gi g_qrg9 tt_7 (k := 0) rfl
  rw [← efv_551] at bfv_551
  have bfv_551 : -1 ≤ fv_551.toInt ∧ fv_551.toInt ≤ 100 := bfv_551
  have ffv_551 := efv_551.symm
  obtain ⟨fv_552, efv_552⟩ : ∃ y : Int32, y = hl1.2.1 am 83 := ⟨_, rfl⟩
  have bfv_552 := hT.gi gm tt_10 (k := 83) rfl
  rw [← efv_552] at bfv_552
  have bfv_552 : 0 ≤ fv_552.toInt ∧ fv_552.toInt ≤ 1 := bfv_552
  have ffv_552 := efv_552.symm
  obtain ⟨fv_553, efv_553⟩ : ∃ y : Int32, y = hl1.2.1 am 84 := ⟨_, rfl⟩
  have bfv_553 := hT.gi gm tt_10 (k := 84) rfl
  rw [← efv_553] at bfv_553
  have bfv_553 : 0 ≤ fv_553.toInt ∧ fv_553.toInt ≤ 300 := bfv_553
  have ffv_553 := efv_553.symm
  have hNQ9 := hkNQ qrg9 f_qrg9; rw [ffv_551, ffv_552, ffv_553] at hNQ9
  have hRL9 := hkRL qrg9 y_ls m_rl f_qrg9 f_y_ls f_m_rl; rw [n_y_ls, n_m_rl, ffv_551] at hRL9
  have hCB : hz_CB F_ord F_wkl F_owd F_szd F_gds F_srv := fun c hc => ⟨by have w := hT.ei g_m_ord tt_83 (k := c) (by omega); rw [n_ord] at w; exact w, by have w := hT.ei g_m_wkl tt_89 (k := c) (by omega); rw [n_wkl] at w; exact w, by have w := hT.ei g_m_owd tt_90 (k := c) (by omega); rw [n_owd] at w; exact w, by have w := hT.ei g_m_szd tt_84 (k := c) (by omega); rw [n_szd] at w; exact w, by have w := hT.ei g_m_gds tt_91 (k := c) (by omega); rw [n_gds] at w; exact w, by have w := hT.ei g_m_srv tt_85 (k := c) (by omega); rw [n_srv] at w; exact w⟩
  have hps : ∀ j, j < 600 → 0 ≤ (F_p2 j).toInt ∧ (F_p2 j).toInt ≤ 610000 := fun j hj => by have w := hT.ei g_m_p2 tt_95 (k := j) (by omega); rw [n_p2] at w; exact w
  have hte9 : ∀ c : Nat, c < 100 → (0 ≤ (c_tri c).toInt ∧ (c_tri c).toInt ≤ 512) ∧ (0 ≤ (F_sum c).toInt ∧ (F_sum c).toInt ≤ 9999) := fun c hc => ⟨htb9 c hc, by have w := hT.ei g_m_sum tt_74 (k := c) (by omega); rw [n_sum] at w; exact w⟩
  have hee9 : ∀ c : Nat, c < 40 → (0 ≤ (F_ear c).toInt ∧ (F_ear c).toInt ≤ 9999) ∧ (0 ≤ (F_hds c).toInt ∧ (F_hds c).toInt ≤ 20) := fun c hc => ⟨by have w := hT.ei g_m_ear tt_59 (k := c) (by omega); rw [n_ear] at w; exact w, by have w := hT.ei g_m_hds tt_60 (k := c) (by omega); rw [n_hds] at w; exact w⟩
  have bAG9 : ∀ k, k < 100 → 0 ≤ (F_aga k).toInt ∧ (F_aga k).toInt ≤ 39 := fun k hk => by have w := hT.ei g_m_aga tt_73 (k := k) (by omega); rw [n_aga] at w; exact w
  have bBY9 : ∀ k, k < 100 → 0 ≤ (F_by k).toInt ∧ (F_by k).toInt ≤ 39 := fun k hk => by have w := hT.ei g_m_by tt_72 (k := k) (by omega); rw [n_by] at w; exact w
  have hag9 : ∀ c, c < c0.toInt.toNat → 0 ≤ (F_aga c).toInt ∧ (F_aga c).toInt < 40 ∧ 0 ≤ (F_by c).toInt ∧ (F_by c).toInt < 40 := fun c hc => by have a9 := bAG9 c (by omega); have b9 := bBY9 c (by omega); omega
  have z_wkl : F_wkl c0.toInt.toNat = 0 := hx_num_z2 nu_qc cl_wkl ?o7
  case o7 => omega
  have z_owd : F_owd c0.toInt.toNat = 0 := hx_num_z2 nu_qc cl_owd ?o8
  case o8 => omega
  have z_gds : F_gds c0.toInt.toNat = 0 := hx_num_z2 nu_qc cl_gds ?o9
  case o9 => omega
  have hwd := jw mw f_mw; rw [n_mw] at hwd
  have hWK := jr mr f_mr; rw [n_mr, f_m_acts] at hWK
  have hRP := jp mp mn f_mp f_mn; rw [n_mp, n_mn, f_m_acts] at hRP
  have hPL := jl ml f_ml; rw [n_ml, f_m_claims, f_m_acts] at hPL
  have hHC := jh mh f_mh; rw [n_mh, f_m_heardMany, f_m_claims] at hHC
  have hTR := jt mt f_mt; rw [n_mt] at hTR
  have hHF := jf mh m_fou f_mh f_m_fou; rw [n_mh, n_m_fou, f_m_claims] at hHF
  refine lv_aload_n hx hb dL_law_921 rfl (lv_at hl 2 rfl) ?_
  refine lv_aload_n hx hb dL_law_922 rfl (lv_at hl 3 rfl) ?_
  refine lv_iload_n hx hb dL_law_923 rfl (lv_at hl 0 rfl) ?_
  refine lv_iconst (v := 1) hx hb dL_law_924 ?o10 ?_
  case o10 => decide
  refine lv_iadd hx hb dL_law_925 ?_
  have rg_554 := i32_r i
  refine lv_topi (fun x_555 ex_555 => ?_)
  have zx_555 : x_555.toInt = i.toInt + 1 := ?o11
  case o11 =>
    rw [ex_555]
    refine i32_add rfl ?o12 ?o13 ?o14
    case o12 => decide
    case o13 => omega
    case o14 => omega
  refine va_sld hx hb hX hbl hbA hW.2.2.2.1 (vp_in_iff.mpr ⟨?o15, ?o16⟩) dL_law_926 ?_
  case o15 => omega
  case o16 => omega
  refine lv_topi (fun x_556 ex_556 => ?_)
  refine lv_aload_n hx hb dL_law_927 rfl (lv_at hl 3 rfl) ?_
  refine lv_iload_n hx hb dL_law_928 rfl (lv_at hl 0 rfl) ?_
  refine lv_iconst (v := 2) hx hb dL_law_929 ?o17 ?_
  case o17 => decide
  refine lv_iadd hx hb dL_law_930 ?_
  refine lv_topi (fun x_557 ex_557 => ?_)
  have zx_557 : x_557.toInt = i.toInt + 2 := ?o18
  case o18 =>
    rw [ex_557]
    refine i32_add rfl ?o19 ?o20 ?o21
    case o19 => decide
    case o20 => omega
    case o21 => omega
  refine va_sld hx hb hX hbl hbA hW.2.2.2.1 (vp_in_iff.mpr ⟨?o22, ?o23⟩) dL_law_931 ?_
  case o22 => omega
  case o23 => omega
  refine lv_topi (fun x_558 ex_558 => ?_)
  refine lv_aload_n hx hb dL_law_932 rfl (lv_at hl 3 rfl) ?_
  refine lv_iload_n hx hb dL_law_933 rfl (lv_at hl 0 rfl) ?_
  refine lv_iconst (v := 3) hx hb dL_law_934 ?o24 ?_
  case o24 => decide
  refine lv_iadd hx hb dL_law_935 ?_
  refine lv_topi (fun x_559 ex_559 => ?_)
  have zx_559 : x_559.toInt = i.toInt + 3 := ?o25
  case o25 =>
    rw [ex_559]
    refine i32_add rfl ?o26 ?o27 ?o28
    case o26 => decide
    case o27 => omega
    case o28 => omega
  refine va_sld hx hb hX hbl hbA hW.2.2.2.1 (vp_in_iff.mpr ⟨?o29, ?o30⟩) dL_law_936 ?_
  case o29 => omega
  case o30 => omega
  refine lv_topi (fun x_560 ex_560 => ?_)
  have hTo := hT
  refine hx_goi (hx_runV (As := [.int x_556, .int x_558, .int x_560]) (rest := []) ⟨hx, hb, hml, hown, hts⟩ hW gx tt_9 (T := TX9) (N := 20) rfl (t_X9_pay_v l dC dI dA L1 hl1 H.size ax x_556 x_558 x_560 hT gx qc g_qc f_qc qo_py g_qo_py f_qo_py y_p0 g_y_p0 f_y_p0 y_p1 g_y_p1 f_y_p1 y_p2 g_y_p2 f_y_p2 y_p3 g_y_p3 f_y_p3 y_p4 g_y_p4 f_y_p4 F_p0 n_y_p0 F_p1 n_y_p1 F_p2 n_y_p2 F_p3 n_y_p3 F_p4 n_y_p4 c0 f_x_claimCount nw f_x_now py f_o_py F_ord cl_ord F_srv cl_srv nu_qc pf_qc) (cwV 3 hts (hx_gV kw_891 kw_888 kw_889 kw_890 kw_94) rfl rfl rfl (by decide +kernel) ⟨Nat.le_of_ble_eq_true rfl, Nat.le_of_ble_eq_true rfl⟩) rfl hl.1 rfl (Nat.le_of_ble_eq_true rfl) dL_law_937 ⟨(show CC + 0 ≤ 600000 from ?o31), (show SS + 0 ≤ 7302250 from ?o32)⟩) hW (fun r_563 L_561 h_562 H locs p_564 hW => ?_)
  case o31 => omega
  case o32 => omega
  obtain ⟨⟨w_566, w_567, w_568, w_569, w_570, w_571, fw_566, fw_567, fw_568, fw_569, fw_570, fw_571, hr_565⟩, hT, hs⟩ := p_564
  replace hT : hx_T T_tb L_561 h_562 := hT
  replace hs : hx_S T_tb [(3, 0), (22, 0), (23, 0), (24, 0), (25, 0), (26, 0)] L1 hl1 L_561 h_562 := hs
  replace f_qa := (hs.o gx trivial rfl).2.trans f_qa
  replace f_qp := (hs.o gx trivial rfl).2.trans f_qp
  replace f_qc := (hs.o gx trivial rfl).2.trans f_qc
  replace f_qh := (hs.o gx trivial rfl).2.trans f_qh
  replace f_qw := (hs.o gx trivial rfl).2.trans f_qw
  replace f_ql := (hs.o g_qw trivial rfl).2.trans f_ql
  replace f_m_now := (hs.o gm trivial rfl).1.trans f_m_now
  replace f_m_persons := (hs.o gm trivial rfl).1.trans f_m_persons
  replace f_m_claims := (hs.o gm trivial rfl).1.trans f_m_claims
  replace f_m_taped := (hs.o gm trivial rfl).1.trans f_m_taped
  replace f_m_acts := (hs.o gm trivial rfl).1.trans f_m_acts
  replace f_m_heardMany := (hs.o gm trivial rfl).1.trans f_m_heardMany
  replace f_m_lines := (hs.o gm trivial rfl).1.trans f_m_lines
  replace f_m_listed := (hs.o gm trivial rfl).1.trans f_m_listed
  replace f_m_walkedMany := (hs.o gm trivial rfl).1.trans f_m_walkedMany
  replace f_m_payments := (hs.o gm trivial rfl).1.trans f_m_payments
  replace f_x_now := (hs.o gx trivial rfl).1.trans f_x_now
  replace f_x_personCount := (hs.o gx trivial rfl).1.trans f_x_personCount
  replace f_x_claimCount := (hs.o gx trivial rfl).1.trans f_x_claimCount
  replace f_x_tapeLength := (hs.o gx trivial rfl).1.trans f_x_tapeLength
  replace f_x_actCount := (hs.o gx trivial rfl).1.trans f_x_actCount
  replace f_x_heardCount := (hs.o gx trivial rfl).1.trans f_x_heardCount
  replace f_mw := (hs.o gm trivial rfl).2.trans f_mw
  replace f_mr := (hs.o gm trivial rfl).2.trans f_mr
  replace f_mp := (hs.o gm trivial rfl).2.trans f_mp
  replace f_mn := (hs.o gm trivial rfl).2.trans f_mn
  replace f_ml := (hs.o gm trivial rfl).2.trans f_ml
  replace f_mh := (hs.o gm trivial rfl).2.trans f_mh
  replace f_mt := (hs.o gm trivial rfl).2.trans f_mt
  replace f_m_fou := (hs.o gm trivial rfl).2.trans f_m_fou
  replace f_qo_ln := (hs.o gx trivial rfl).2.trans f_qo_ln
  replace f_o_ln := (hs.o g_qo_ln trivial rfl).1.trans f_o_ln
  replace f_o_lsd := (hs.o g_qw trivial rfl).1.trans f_o_lsd
  replace f_o_wkm := (hs.o g_qw trivial rfl).1.trans f_o_wkm
  replace f_qo_py := (hs.o gx trivial rfl).2.trans f_qo_py
  replace f_b_of := (hs.o g_qo_ln trivial rfl).2.trans f_b_of
  replace f_m_of := (hs.o gm trivial rfl).2.trans f_m_of
  replace f_b_wf := (hs.o g_qo_ln trivial rfl).2.trans f_b_wf
  replace f_m_wf := (hs.o gm trivial rfl).2.trans f_m_wf
  replace f_b_df := (hs.o g_qo_ln trivial rfl).2.trans f_b_df
  replace f_m_df := (hs.o gm trivial rfl).2.trans f_m_df
  replace f_b_kf := (hs.o g_qo_ln trivial rfl).2.trans f_b_kf
  replace f_m_kf := (hs.o gm trivial rfl).2.trans f_m_kf
  replace f_b_sf := (hs.o g_qo_ln trivial rfl).2.trans f_b_sf
  replace f_m_sf := (hs.o gm trivial rfl).2.trans f_m_sf
  replace f_b_bf := (hs.o g_qo_ln trivial rfl).2.trans f_b_bf
  replace f_m_lst := (hs.o gm trivial rfl).2.trans f_m_lst
  replace f_qtp := (hs.o gx trivial rfl).2.trans f_qtp
  replace f_m_tp := (hs.o gm trivial rfl).2.trans f_m_tp
  replace f_m_dead := (hs.o gm trivial rfl).2.trans f_m_dead
  replace f_m_isj := (hs.o gm trivial rfl).2.trans f_m_isj
  replace f_m_dox := (hs.o gm trivial rfl).2.trans f_m_dox
  replace f_m_doy := (hs.o gm trivial rfl).2.trans f_m_doy
  replace f_qlt := (hs.o g_qw trivial rfl).2.trans f_qlt
  replace f_qlf := (hs.o g_qw trivial rfl).2.trans f_qlf
  replace f_m_wkd := (hs.o gm trivial rfl).2.trans f_m_wkd
  replace f_m_aga := (hs.o gm trivial rfl).2.trans f_m_aga
  replace f_qwo := (hs.o gx trivial rfl).2.trans f_qwo
  replace f_m_ad := (hs.o gm trivial rfl).2.trans f_m_ad
  replace f_m_by := (hs.o gm trivial rfl).2.trans f_m_by
  replace f_m_ho := (hs.o gm trivial rfl).2.trans f_m_ho
  replace f_m_fc := (hs.o gm trivial rfl).2.trans f_m_fc
  replace f_m_nt := (hs.o gm trivial rfl).2.trans f_m_nt
  replace f_m_wt := (hs.o gm trivial rfl).2.trans f_m_wt
  replace f_m_be := (hs.o gm trivial rfl).2.trans f_m_be
  replace f_m_bor := (hs.o gm trivial rfl).2.trans f_m_bor
  replace f_m_kin := (hs.o gm trivial rfl).2.trans f_m_kin
  replace f_m_sum := (hs.o gm trivial rfl).2.trans f_m_sum
  replace f_m_fro := (hs.o gm trivial rfl).2.trans f_m_fro
  replace f_m_fil := (hs.o gm trivial rfl).2.trans f_m_fil
  replace f_m_jud := (hs.o gm trivial rfl).2.trans f_m_jud
  replace f_m_ear := (hs.o gm trivial rfl).2.trans f_m_ear
  replace f_m_hds := (hs.o gm trivial rfl).2.trans f_m_hds
  replace f_m_ord := (hs.o gm trivial rfl).2.trans f_m_ord
  replace f_m_wkl := (hs.o gm trivial rfl).2.trans f_m_wkl
  replace f_m_owd := (hs.o gm trivial rfl).2.trans f_m_owd
  replace f_m_gds := (hs.o gm trivial rfl).2.trans f_m_gds
  replace f_m_szd := (hs.o gm trivial rfl).2.trans f_m_szd
  replace f_m_srv := (hs.o gm trivial rfl).2.trans f_m_srv
  replace f_y_p0 := (hs.o g_qo_py trivial rfl).2.trans f_y_p0
  replace f_m_p0 := (hs.o gm trivial rfl).2.trans f_m_p0
  replace f_y_p1 := (hs.o g_qo_py trivial rfl).2.trans f_y_p1
  replace f_m_p1 := (hs.o gm trivial rfl).2.trans f_m_p1
  replace f_y_p2 := (hs.o g_qo_py trivial rfl).2.trans f_y_p2
  replace f_m_p2 := (hs.o gm trivial rfl).2.trans f_m_p2
  replace f_y_p3 := (hs.o g_qo_py trivial rfl).2.trans f_y_p3
  replace f_m_p3 := (hs.o gm trivial rfl).2.trans f_m_p3
  replace f_y_p4 := (hs.o g_qo_py trivial rfl).2.trans f_y_p4
  replace f_m_p4 := (hs.o gm trivial rfl).2.trans f_m_p4
  replace f_qrg9 := (hs.o gx trivial rfl).2.trans f_qrg9
  replace f_y_ls := (hs.o g_qrg9 trivial rfl).2.trans f_y_ls
  replace f_m_rl := (hs.o gm trivial rfl).2.trans f_m_rl
  replace ffv_551 := (hs.o g_qrg9 trivial rfl).1.trans ffv_551
  replace ffv_552 := (hs.o gm trivial rfl).1.trans ffv_552
  replace ffv_553 := (hs.o gm trivial rfl).1.trans ffv_553
  replace pf_qa : ∀ j : Nat, (j : Int) < (h_562.2.1 ax 6).toInt → h_562.2.2 qa j ≠ none := by
    intro j hj; rw [(hs.o gx trivial rfl).1] at hj; rw [(hs.a g_qa rfl j).2]; exact pf_qa j hj
  replace pf_qp : ∀ j : Nat, (j : Int) < (h_562.2.1 ax 8).toInt → h_562.2.2 qp j ≠ none := by
    intro j hj; rw [(hs.o gx trivial rfl).1] at hj; rw [(hs.a g_qp rfl j).2]; exact pf_qp j hj
  replace pf_qc : ∀ j : Nat, (j : Int) < (h_562.2.1 ax 11).toInt → h_562.2.2 qc j ≠ none := by
    intro j hj; rw [(hs.o gx trivial rfl).1] at hj; rw [(hs.a g_qc rfl j).2]; exact pf_qc j hj
  replace pf_qh : ∀ j : Nat, (j : Int) < (h_562.2.1 ax 13).toInt → h_562.2.2 qh j ≠ none := by
    intro j hj; rw [(hs.o gx trivial rfl).1] at hj; rw [(hs.a g_qh rfl j).2]; exact pf_qh j hj
  replace pf_ql : ∀ j : Nat, (j : Int) < (h_562.2.1 qw 0).toInt → h_562.2.2 ql j ≠ none := by
    intro j hj; rw [(hs.o g_qw trivial rfl).1] at hj; rw [(hs.a g_ql rfl j).2]; exact pf_ql j hj
  replace cl_lst : hx_col 8 h_562 ql 0 = c_lst := (hx_col_S hs hTo g_ql tt_40 tt_2 rfl rfl).trans cl_lst
  replace cl_dead : hx_col 40 h_562 qp 7 = c_dead := (hx_col_S hs hTo g_qp tt_44 tt_4 rfl rfl).trans cl_dead
  replace cl_isj : hx_col 40 h_562 qp 8 = c_isj := (hx_col_S hs hTo g_qp tt_44 tt_4 rfl rfl).trans cl_isj
  replace cl_dox : hx_col 40 h_562 qp 5 = c_dox := (hx_col_S hs hTo g_qp tt_44 tt_4 rfl rfl).trans cl_dox
  replace cl_doy : hx_col 40 h_562 qp 6 = c_doy := (hx_col_S hs hTo g_qp tt_44 tt_4 rfl rfl).trans cl_doy
  replace cl_fou : hx_col 100 h_562 qc 10 = c_fou := (hx_col_S hs hTo g_qc tt_45 tt_2 rfl rfl).trans cl_fou
  replace cl_tri : hx_col 100 h_562 qc 9 = c_tri := (hx_col_S hs hTo g_qc tt_45 tt_2 rfl rfl).trans cl_tri
  replace cl_bor : hx_col 40 h_562 qp 1 = F_bor := (hx_col_S hs hTo g_qp tt_44 tt_4 rfl rfl).trans cl_bor
  replace cl_kin : hx_col 40 h_562 qp 2 = F_kin := (hx_col_S hs hTo g_qp tt_44 tt_4 rfl rfl).trans cl_kin
  replace cl_sum : hx_col 100 h_562 qc 6 = F_sum := (hx_col_S hs hTo g_qc tt_45 tt_2 rfl rfl).trans cl_sum
  replace cl_fro : hx_col 100 h_562 qc 7 = F_fro := (hx_col_S hs hTo g_qc tt_45 tt_2 rfl rfl).trans cl_fro
  replace cl_fil : hx_col 100 h_562 qc 8 = F_fil := (hx_col_S hs hTo g_qc tt_45 tt_2 rfl rfl).trans cl_fil
  replace cl_hea : hx_col 100 h_562 qc 11 = F_mh := (hx_col_S hs hTo g_qc tt_45 tt_2 rfl rfl).trans cl_hea
  replace cl_jud : hx_col 100 h_562 qc 12 = F_jud := (hx_col_S hs hTo g_qc tt_45 tt_2 rfl rfl).trans cl_jud
  replace cl_ear : hx_col 40 h_562 qp 3 = F_ear := (hx_col_S hs hTo g_qp tt_44 tt_4 rfl rfl).trans cl_ear
  replace cl_hds : hx_col 40 h_562 qp 4 = F_hds := (hx_col_S hs hTo g_qp tt_44 tt_4 rfl rfl).trans cl_hds
  replace cl_ord : hx_col 100 h_562 qc 13 = F_ord := (hx_col_S hs hTo g_qc tt_45 tt_2 rfl rfl).trans cl_ord
  replace cl_wkl : hx_col 100 h_562 qc 14 = F_wkl := (hx_col_S hs hTo g_qc tt_45 tt_2 rfl rfl).trans cl_wkl
  replace cl_owd : hx_col 100 h_562 qc 15 = F_owd := (hx_col_S hs hTo g_qc tt_45 tt_2 rfl rfl).trans cl_owd
  replace cl_gds : hx_col 100 h_562 qc 17 = F_gds := (hx_col_S hs hTo g_qc tt_45 tt_2 rfl rfl).trans cl_gds
  replace cl_szd : hx_col 100 h_562 qc 16 = F_szd := (hx_col_S hs hTo g_qc tt_45 tt_2 rfl rfl).trans cl_szd
  replace cl_srv : hx_col 100 h_562 qc 18 = F_srv := (hx_col_S hs hTo g_qc tt_45 tt_2 rfl rfl).trans cl_srv
  replace nu_qp : hx_num 40 h_562 qp 0 (np.toInt) := hx_num_S hs hTo g_qp tt_44 tt_4 rfl rfl nu_qp
  replace nu_qc : hx_num 100 h_562 qc 0 (c0.toInt) := hx_num_S hs hTo g_qc tt_45 tt_2 rfl rfl nu_qc
  replace sb_list : hx_LQ 8 100 h_562 ql qc := hx_LQ_S hs g_ql g_qc rfl rfl sb_list
  replace hDF : hw_DF h_562 qc qp 2 F_aga c0.toInt := hw_DF_S hs hTo g_qc g_qp tt_45 tt_2 rfl rfl rfl hDF
  replace hRA9 : hv_RA h_562 qa qwo a0.toInt A9 := hv_RA_S hs hTo g_qa g_qwo tt_43 tt_0 rfl rfl rfl rfl rfl rfl ?o33 hRA9
  case o33 => omega
  replace hDP : hw_DF h_562 qc qp 1 F_by c0.toInt := hw_DF_S hs hTo g_qc g_qp tt_45 tt_2 rfl rfl rfl hDP
  replace hAC9 : hv_AC h_562 qc F_ml c0.toInt A9 := hv_AC_S hs hTo g_qc tt_45 tt_2 rfl tt_0 rfl rfl rfl rfl rfl rfl rfl hAC9
  replace hFX : hv_FX 8 4 h_562 qc cF9L c0.toInt := hv_FX_S hs hTo g_qc tt_45 tt_2 rfl rfl rfl rfl hFX
  replace hBX : hv_FX 3 5 h_562 qc F_be c0.toInt := hv_FX_S hs hTo g_qc tt_45 tt_2 rfl rfl rfl rfl hBX
  replace hHL : hv_HL h_562 qh qc F_ho m0.toInt c0.toInt := hv_HL_S hs g_qh g_qc rfl rfl hHL
  replace n_mw : h_562.2.1 mw = F_mw := (funext fun j => (hs.a g_mw rfl j).1).trans n_mw
  replace n_mr : h_562.2.1 mr = F_mr := (funext fun j => (hs.a g_mr rfl j).1).trans n_mr
  replace n_mp : h_562.2.1 mp = F_mp := (funext fun j => (hs.a g_mp rfl j).1).trans n_mp
  replace n_mn : h_562.2.1 mn = F_mn := (funext fun j => (hs.a g_mn rfl j).1).trans n_mn
  replace n_ml : h_562.2.1 ml = F_ml := (funext fun j => (hs.a g_ml rfl j).1).trans n_ml
  replace n_mh : h_562.2.1 mh = F_mh := (funext fun j => (hs.a g_mh rfl j).1).trans n_mh
  replace n_mt : h_562.2.1 mt = F_mt := (funext fun j => (hs.a g_mt rfl j).1).trans n_mt
  replace n_m_fou : h_562.2.1 m_fou = F_m_fou := (funext fun j => (hs.a g_m_fou rfl j).1).trans n_m_fou
  replace n_b_of : h_562.2.1 b_of = B_of := (funext fun j => (hs.a g_b_of rfl j).1).trans n_b_of
  replace n_m_of : h_562.2.1 m_of = F_of := (funext fun j => (hs.a g_m_of rfl j).1).trans n_m_of
  replace n_b_wf : h_562.2.1 b_wf = B_wf := (funext fun j => (hs.a g_b_wf rfl j).1).trans n_b_wf
  replace n_m_wf : h_562.2.1 m_wf = F_wf := (funext fun j => (hs.a g_m_wf rfl j).1).trans n_m_wf
  replace n_b_df : h_562.2.1 b_df = B_df := (funext fun j => (hs.a g_b_df rfl j).1).trans n_b_df
  replace n_m_df : h_562.2.1 m_df = F_df := (funext fun j => (hs.a g_m_df rfl j).1).trans n_m_df
  replace n_b_kf : h_562.2.1 b_kf = B_kf := (funext fun j => (hs.a g_b_kf rfl j).1).trans n_b_kf
  replace n_m_kf : h_562.2.1 m_kf = F_kf := (funext fun j => (hs.a g_m_kf rfl j).1).trans n_m_kf
  replace n_b_sf : h_562.2.1 b_sf = B_sf := (funext fun j => (hs.a g_b_sf rfl j).1).trans n_b_sf
  replace n_m_sf : h_562.2.1 m_sf = F_sf := (funext fun j => (hs.a g_m_sf rfl j).1).trans n_m_sf
  replace n_b_bf : h_562.2.1 b_bf = bfL := (funext fun j => (hs.a g_b_bf rfl j).1).trans n_b_bf
  replace n_lst : h_562.2.1 m_lst = F_lst := (funext fun j => (hs.a g_m_lst rfl j).1).trans n_lst
  replace n_tp : h_562.2.1 m_tp = F_tp := (funext fun j => (hs.a g_m_tp rfl j).1).trans n_tp
  replace n_qtp : h_562.2.1 qtp = F_tp := (funext fun j => (hs.a g_qtp rfl j).1).trans n_qtp
  replace n_dead : h_562.2.1 m_dead = F_dead := (funext fun j => (hs.a g_m_dead rfl j).1).trans n_dead
  replace n_isj : h_562.2.1 m_isj = F_isj := (funext fun j => (hs.a g_m_isj rfl j).1).trans n_isj
  replace n_dox : h_562.2.1 m_dox = F_dox := (funext fun j => (hs.a g_m_dox rfl j).1).trans n_dox
  replace n_doy : h_562.2.1 m_doy = F_doy := (funext fun j => (hs.a g_m_doy rfl j).1).trans n_doy
  replace n_qlt : h_562.2.1 qlt = F_qlt := (funext fun j => (hs.a g_qlt rfl j).1).trans n_qlt
  replace n_m_wkd : h_562.2.1 m_wkd = F_m_wkd := (funext fun j => (hs.a g_m_wkd rfl j).1).trans n_m_wkd
  replace n_aga : h_562.2.1 m_aga = F_aga := (funext fun j => (hs.a g_m_aga rfl j).1).trans n_aga
  replace n_ad : h_562.2.1 m_ad = F_ad := (funext fun j => (hs.a g_m_ad rfl j).1).trans n_ad
  replace n_by : h_562.2.1 m_by = F_by := (funext fun j => (hs.a g_m_by rfl j).1).trans n_by
  replace n_ho : h_562.2.1 m_ho = F_ho := (funext fun j => (hs.a g_m_ho rfl j).1).trans n_ho
  replace n_fc : h_562.2.1 m_fc = F_fc := (funext fun j => (hs.a g_m_fc rfl j).1).trans n_fc
  replace n_nt : h_562.2.1 m_nt = F_nt := (funext fun j => (hs.a g_m_nt rfl j).1).trans n_nt
  replace n_wt : h_562.2.1 m_wt = F_wt := (funext fun j => (hs.a g_m_wt rfl j).1).trans n_wt
  replace n_be : h_562.2.1 m_be = F_be := (funext fun j => (hs.a g_m_be rfl j).1).trans n_be
  replace n_bor : h_562.2.1 m_bor = F_bor := (funext fun j => (hs.a g_m_bor rfl j).1).trans n_bor
  replace n_kin : h_562.2.1 m_kin = F_kin := (funext fun j => (hs.a g_m_kin rfl j).1).trans n_kin
  replace n_sum : h_562.2.1 m_sum = F_sum := (funext fun j => (hs.a g_m_sum rfl j).1).trans n_sum
  replace n_fro : h_562.2.1 m_fro = F_fro := (funext fun j => (hs.a g_m_fro rfl j).1).trans n_fro
  replace n_fil : h_562.2.1 m_fil = F_fil := (funext fun j => (hs.a g_m_fil rfl j).1).trans n_fil
  replace n_jud : h_562.2.1 m_jud = F_jud := (funext fun j => (hs.a g_m_jud rfl j).1).trans n_jud
  replace n_ear : h_562.2.1 m_ear = F_ear := (funext fun j => (hs.a g_m_ear rfl j).1).trans n_ear
  replace n_hds : h_562.2.1 m_hds = F_hds := (funext fun j => (hs.a g_m_hds rfl j).1).trans n_hds
  replace n_ord : h_562.2.1 m_ord = F_ord := (funext fun j => (hs.a g_m_ord rfl j).1).trans n_ord
  replace n_wkl : h_562.2.1 m_wkl = F_wkl := (funext fun j => (hs.a g_m_wkl rfl j).1).trans n_wkl
  replace n_owd : h_562.2.1 m_owd = F_owd := (funext fun j => (hs.a g_m_owd rfl j).1).trans n_owd
  replace n_gds : h_562.2.1 m_gds = F_gds := (funext fun j => (hs.a g_m_gds rfl j).1).trans n_gds
  replace n_szd : h_562.2.1 m_szd = F_szd := (funext fun j => (hs.a g_m_szd rfl j).1).trans n_szd
  replace n_srv : h_562.2.1 m_srv = F_srv := (funext fun j => (hs.a g_m_srv rfl j).1).trans n_srv
  replace n_p0 : h_562.2.1 m_p0 = F_p0 := (funext fun j => (hs.a g_m_p0 rfl j).1).trans n_p0
  replace n_p1 : h_562.2.1 m_p1 = F_p1 := (funext fun j => (hs.a g_m_p1 rfl j).1).trans n_p1
  replace n_p2 : h_562.2.1 m_p2 = F_p2 := (funext fun j => (hs.a g_m_p2 rfl j).1).trans n_p2
  replace n_p3 : h_562.2.1 m_p3 = F_p3 := (funext fun j => (hs.a g_m_p3 rfl j).1).trans n_p3
  replace n_p4 : h_562.2.1 m_p4 = F_p4 := (funext fun j => (hs.a g_m_p4 rfl j).1).trans n_p4
  replace n_y_ls : h_562.2.1 y_ls = F_y_ls := (funext fun j => (hs.a g_y_ls rfl j).1).trans n_y_ls
  replace n_m_rl : h_562.2.1 m_rl = F_m_rl := (funext fun j => (hs.a g_m_rl rfl j).1).trans n_m_rl
  replace gx := gx.S hs
  replace gm := gm.S hs
  replace g_qa := g_qa.S hs
  replace g_qp := g_qp.S hs
  replace g_qc := g_qc.S hs
  replace g_qh := g_qh.S hs
  replace g_qw := g_qw.S hs
  replace g_ql := g_ql.S hs
  replace g_mw := g_mw.S hs
  replace g_mr := g_mr.S hs
  replace g_mp := g_mp.S hs
  replace g_mn := g_mn.S hs
  replace g_ml := g_ml.S hs
  replace g_mh := g_mh.S hs
  replace g_mt := g_mt.S hs
  replace g_m_fou := g_m_fou.S hs
  replace g_qo_ln := g_qo_ln.S hs
  replace g_qo_py := g_qo_py.S hs
  replace g_b_of := g_b_of.S hs
  replace g_m_of := g_m_of.S hs
  replace g_b_wf := g_b_wf.S hs
  replace g_m_wf := g_m_wf.S hs
  replace g_b_df := g_b_df.S hs
  replace g_m_df := g_m_df.S hs
  replace g_b_kf := g_b_kf.S hs
  replace g_m_kf := g_m_kf.S hs
  replace g_b_sf := g_b_sf.S hs
  replace g_m_sf := g_m_sf.S hs
  replace g_b_bf := g_b_bf.S hs
  replace g_m_lst := g_m_lst.S hs
  replace g_qtp := g_qtp.S hs
  replace g_m_tp := g_m_tp.S hs
  replace g_m_dead := g_m_dead.S hs
  replace g_m_isj := g_m_isj.S hs
  replace g_m_dox := g_m_dox.S hs
  replace g_m_doy := g_m_doy.S hs
  replace g_qlt := g_qlt.S hs
  replace g_qlf := g_qlf.S hs
  replace g_m_wkd := g_m_wkd.S hs
  replace g_m_aga := g_m_aga.S hs
  replace g_qwo := g_qwo.S hs
  replace g_m_ad := g_m_ad.S hs
  replace g_m_by := g_m_by.S hs
  replace g_m_ho := g_m_ho.S hs
  replace g_m_fc := g_m_fc.S hs
  replace g_m_nt := g_m_nt.S hs
  replace g_m_wt := g_m_wt.S hs
  replace g_m_be := g_m_be.S hs
  replace g_m_bor := g_m_bor.S hs
  replace g_m_kin := g_m_kin.S hs
  replace g_m_sum := g_m_sum.S hs
  replace g_m_fro := g_m_fro.S hs
  replace g_m_fil := g_m_fil.S hs
  replace g_m_jud := g_m_jud.S hs
  replace g_m_ear := g_m_ear.S hs
  replace g_m_hds := g_m_hds.S hs
  replace g_m_ord := g_m_ord.S hs
  replace g_m_wkl := g_m_wkl.S hs
  replace g_m_owd := g_m_owd.S hs
  replace g_m_gds := g_m_gds.S hs
  replace g_m_szd := g_m_szd.S hs
  replace g_m_srv := g_m_srv.S hs
  replace g_y_p0 := g_y_p0.S hs
  replace g_m_p0 := g_m_p0.S hs
  replace g_y_p1 := g_y_p1.S hs
  replace g_m_p1 := g_m_p1.S hs
  replace g_y_p2 := g_y_p2.S hs
  replace g_m_p2 := g_m_p2.S hs
  replace g_y_p3 := g_y_p3.S hs
  replace g_m_p3 := g_m_p3.S hs
  replace g_y_p4 := g_y_p4.S hs
  replace g_m_p4 := g_m_p4.S hs
  replace g_qrg9 := g_qrg9.S hs
  replace g_y_ls := g_y_ls.S hs
  replace g_m_rl := g_m_rl.S hs
  have fw_566 : h_562.2.1 qo_py 0 = w_566 := fw_566
  have bw_566 := hT.gi g_qo_py tt_3 (k := 0) rfl
  rw [fw_566] at bw_566
  have bw_566 : 0 ≤ w_566.toInt ∧ w_566.toInt ≤ 600 := bw_566
  have fw_567 : h_562.2.1 y_p0 = w_567 := fw_567
  have fw_568 : h_562.2.1 y_p1 = w_568 := fw_568
  have fw_569 : h_562.2.1 y_p2 = w_569 := fw_569
  have fw_570 : h_562.2.1 y_p3 = w_570 := fw_570
  have fw_571 : h_562.2.1 y_p4 = w_571 := fw_571
  refine lv_pop hx hb dL_law_940 rfl ?_
  refine lv_aload_n hx hb dL_law_941 rfl (lv_at hl 1 rfl) ?_
  refine lv_aload_n hx hb dL_law_942 rfl (lv_at hl 3 rfl) ?_
  refine lv_iload_n hx hb dL_law_943 rfl (lv_at hl 0 rfl) ?_
  refine lv_iconst (v := 1) hx hb dL_law_944 ?o34 ?_
  case o34 => decide
  refine lv_iadd hx hb dL_law_945 ?_
  refine lv_topi (fun x_572 ex_572 => ?_)
  have zx_572 : x_572.toInt = i.toInt + 1 := ?o35
  case o35 =>
    rw [ex_572]
    refine i32_add rfl ?o36 ?o37 ?o38
    case o36 => decide
    case o37 => omega
    case o38 => omega
  obtain rfl : x_555 = x_572 := ex_555.trans ex_572.symm
  refine va_sld hx hb hX hbl hbA hW.2.2.2.1 (vp_in_iff.mpr ⟨?o39, ?o40⟩) dL_law_946 ?_
  case o39 => omega
  case o40 => omega
  refine lv_topi (fun x_573 ex_573 => ?_)
  obtain rfl : x_556 = x_573 := ex_556.trans ex_573.symm
  refine lv_aload_n hx hb dL_law_947 rfl (lv_at hl 3 rfl) ?_
  refine lv_iload_n hx hb dL_law_948 rfl (lv_at hl 0 rfl) ?_
  refine lv_iconst (v := 2) hx hb dL_law_949 ?o41 ?_
  case o41 => decide
  refine lv_iadd hx hb dL_law_950 ?_
  refine lv_topi (fun x_574 ex_574 => ?_)
  have zx_574 : x_574.toInt = i.toInt + 2 := ?o42
  case o42 =>
    rw [ex_574]
    refine i32_add rfl ?o43 ?o44 ?o45
    case o43 => decide
    case o44 => omega
    case o45 => omega
  obtain rfl : x_557 = x_574 := ex_557.trans ex_574.symm
  refine va_sld hx hb hX hbl hbA hW.2.2.2.1 (vp_in_iff.mpr ⟨?o46, ?o47⟩) dL_law_951 ?_
  case o46 => omega
  case o47 => omega
  refine lv_topi (fun x_575 ex_575 => ?_)
  obtain rfl : x_558 = x_575 := ex_558.trans ex_575.symm
  refine lv_aload_n hx hb dL_law_952 rfl (lv_at hl 3 rfl) ?_
  refine lv_iload_n hx hb dL_law_953 rfl (lv_at hl 0 rfl) ?_
  refine lv_iconst (v := 3) hx hb dL_law_954 ?o48 ?_
  case o48 => decide
  refine lv_iadd hx hb dL_law_955 ?_
  refine lv_topi (fun x_576 ex_576 => ?_)
  have zx_576 : x_576.toInt = i.toInt + 3 := ?o49
  case o49 =>
    rw [ex_576]
    refine i32_add rfl ?o50 ?o51 ?o52
    case o50 => decide
    case o51 => omega
    case o52 => omega
  obtain rfl : x_559 = x_576 := ex_559.trans ex_576.symm
  refine va_sld hx hb hX hbl hbA hW.2.2.2.1 (vp_in_iff.mpr ⟨?o53, ?o54⟩) dL_law_956 ?_
  case o53 => omega
  case o54 => omega
  refine lv_topi (fun x_577 ex_577 => ?_)
  obtain rfl : x_560 = x_577 := ex_560.trans ex_577.symm
  have hTo := hT
  refine hx_goi (hx_runV (As := [.int x_556, .int x_558, .int x_560]) (rest := []) ⟨hx, hb, hml, hown, hts⟩ hW gm tt_10 (T := TX10) (N := 98) rfl (t_X10_pay_v l dC dI dA L_561 h_562 H.size am x_556 x_558 x_560 hT gm m_ord g_m_ord f_m_ord m_srv g_m_srv f_m_srv m_p0 g_m_p0 f_m_p0 m_p1 g_m_p1 f_m_p1 m_p2 g_m_p2 f_m_p2 m_p3 g_m_p3 f_m_p3 m_p4 g_m_p4 f_m_p4 F_ord n_ord F_srv n_srv F_p0 n_p0 F_p1 n_p1 F_p2 n_p2 F_p3 n_p3 F_p4 n_p4 c0 f_m_claims nw f_m_now py f_m_payments) (cwV 3 hts (hx_gV kw_1649 kw_1646 kw_1647 kw_1648 kw_103) rfl rfl rfl (by decide +kernel) ⟨Nat.le_of_ble_eq_true rfl, Nat.le_of_ble_eq_true rfl⟩) rfl hl.1 rfl (Nat.le_of_ble_eq_true rfl) dL_law_957 ⟨(show CC + 0 + 0 ≤ 600000 from ?o55), (show SS + 0 + 0 ≤ 7302250 from ?o56)⟩) hW (fun r_580 L_578 h_579 H locs p_581 hW => ?_)
  case o55 => omega
  case o56 => omega
  obtain ⟨⟨w_583, w_584, w_585, w_586, w_587, w_588, fw_583, fw_584, fw_585, fw_586, fw_587, fw_588, hr_582⟩, hT, hs⟩ := p_581
  replace hT : hx_T T_tb L_578 h_579 := hT
  replace hs : hx_S T_tb [(10, 59), (93, 0), (94, 0), (95, 0), (96, 0), (97, 0)] L_561 h_562 L_578 h_579 := hs
  replace f_qa := (hs.o gx trivial rfl).2.trans f_qa
  replace f_qp := (hs.o gx trivial rfl).2.trans f_qp
  replace f_qc := (hs.o gx trivial rfl).2.trans f_qc
  replace f_qh := (hs.o gx trivial rfl).2.trans f_qh
  replace f_qw := (hs.o gx trivial rfl).2.trans f_qw
  replace f_ql := (hs.o g_qw trivial rfl).2.trans f_ql
  replace f_m_now := (hs.o gm trivial rfl).1.trans f_m_now
  replace f_m_persons := (hs.o gm trivial rfl).1.trans f_m_persons
  replace f_m_claims := (hs.o gm trivial rfl).1.trans f_m_claims
  replace f_m_taped := (hs.o gm trivial rfl).1.trans f_m_taped
  replace f_m_acts := (hs.o gm trivial rfl).1.trans f_m_acts
  replace f_m_heardMany := (hs.o gm trivial rfl).1.trans f_m_heardMany
  replace f_m_lines := (hs.o gm trivial rfl).1.trans f_m_lines
  replace f_m_listed := (hs.o gm trivial rfl).1.trans f_m_listed
  replace f_m_walkedMany := (hs.o gm trivial rfl).1.trans f_m_walkedMany
  replace f_x_now := (hs.o gx trivial rfl).1.trans f_x_now
  replace f_x_personCount := (hs.o gx trivial rfl).1.trans f_x_personCount
  replace f_x_claimCount := (hs.o gx trivial rfl).1.trans f_x_claimCount
  replace f_x_tapeLength := (hs.o gx trivial rfl).1.trans f_x_tapeLength
  replace f_x_actCount := (hs.o gx trivial rfl).1.trans f_x_actCount
  replace f_x_heardCount := (hs.o gx trivial rfl).1.trans f_x_heardCount
  replace f_mw := (hs.o gm trivial rfl).2.trans f_mw
  replace f_mr := (hs.o gm trivial rfl).2.trans f_mr
  replace f_mp := (hs.o gm trivial rfl).2.trans f_mp
  replace f_mn := (hs.o gm trivial rfl).2.trans f_mn
  replace f_ml := (hs.o gm trivial rfl).2.trans f_ml
  replace f_mh := (hs.o gm trivial rfl).2.trans f_mh
  replace f_mt := (hs.o gm trivial rfl).2.trans f_mt
  replace f_m_fou := (hs.o gm trivial rfl).2.trans f_m_fou
  replace f_qo_ln := (hs.o gx trivial rfl).2.trans f_qo_ln
  replace f_o_ln := (hs.o g_qo_ln trivial rfl).1.trans f_o_ln
  replace f_o_lsd := (hs.o g_qw trivial rfl).1.trans f_o_lsd
  replace f_o_wkm := (hs.o g_qw trivial rfl).1.trans f_o_wkm
  replace f_qo_py := (hs.o gx trivial rfl).2.trans f_qo_py
  replace f_b_of := (hs.o g_qo_ln trivial rfl).2.trans f_b_of
  replace f_m_of := (hs.o gm trivial rfl).2.trans f_m_of
  replace f_b_wf := (hs.o g_qo_ln trivial rfl).2.trans f_b_wf
  replace f_m_wf := (hs.o gm trivial rfl).2.trans f_m_wf
  replace f_b_df := (hs.o g_qo_ln trivial rfl).2.trans f_b_df
  replace f_m_df := (hs.o gm trivial rfl).2.trans f_m_df
  replace f_b_kf := (hs.o g_qo_ln trivial rfl).2.trans f_b_kf
  replace f_m_kf := (hs.o gm trivial rfl).2.trans f_m_kf
  replace f_b_sf := (hs.o g_qo_ln trivial rfl).2.trans f_b_sf
  replace f_m_sf := (hs.o gm trivial rfl).2.trans f_m_sf
  replace f_b_bf := (hs.o g_qo_ln trivial rfl).2.trans f_b_bf
  replace f_m_lst := (hs.o gm trivial rfl).2.trans f_m_lst
  replace f_qtp := (hs.o gx trivial rfl).2.trans f_qtp
  replace f_m_tp := (hs.o gm trivial rfl).2.trans f_m_tp
  replace f_m_dead := (hs.o gm trivial rfl).2.trans f_m_dead
  replace f_m_isj := (hs.o gm trivial rfl).2.trans f_m_isj
  replace f_m_dox := (hs.o gm trivial rfl).2.trans f_m_dox
  replace f_m_doy := (hs.o gm trivial rfl).2.trans f_m_doy
  replace f_qlt := (hs.o g_qw trivial rfl).2.trans f_qlt
  replace f_qlf := (hs.o g_qw trivial rfl).2.trans f_qlf
  replace f_m_wkd := (hs.o gm trivial rfl).2.trans f_m_wkd
  replace f_m_aga := (hs.o gm trivial rfl).2.trans f_m_aga
  replace f_qwo := (hs.o gx trivial rfl).2.trans f_qwo
  replace f_m_ad := (hs.o gm trivial rfl).2.trans f_m_ad
  replace f_m_by := (hs.o gm trivial rfl).2.trans f_m_by
  replace f_m_ho := (hs.o gm trivial rfl).2.trans f_m_ho
  replace f_m_fc := (hs.o gm trivial rfl).2.trans f_m_fc
  replace f_m_nt := (hs.o gm trivial rfl).2.trans f_m_nt
  replace f_m_wt := (hs.o gm trivial rfl).2.trans f_m_wt
  replace f_m_be := (hs.o gm trivial rfl).2.trans f_m_be
  replace f_m_bor := (hs.o gm trivial rfl).2.trans f_m_bor
  replace f_m_kin := (hs.o gm trivial rfl).2.trans f_m_kin
  replace f_m_sum := (hs.o gm trivial rfl).2.trans f_m_sum
  replace f_m_fro := (hs.o gm trivial rfl).2.trans f_m_fro
  replace f_m_fil := (hs.o gm trivial rfl).2.trans f_m_fil
  replace f_m_jud := (hs.o gm trivial rfl).2.trans f_m_jud
  replace f_m_ear := (hs.o gm trivial rfl).2.trans f_m_ear
  replace f_m_hds := (hs.o gm trivial rfl).2.trans f_m_hds
  replace f_m_ord := (hs.o gm trivial rfl).2.trans f_m_ord
  replace f_m_wkl := (hs.o gm trivial rfl).2.trans f_m_wkl
  replace f_m_owd := (hs.o gm trivial rfl).2.trans f_m_owd
  replace f_m_gds := (hs.o gm trivial rfl).2.trans f_m_gds
  replace f_m_szd := (hs.o gm trivial rfl).2.trans f_m_szd
  replace f_m_srv := (hs.o gm trivial rfl).2.trans f_m_srv
  replace f_y_p0 := (hs.o g_qo_py trivial rfl).2.trans f_y_p0
  replace f_m_p0 := (hs.o gm trivial rfl).2.trans f_m_p0
  replace f_y_p1 := (hs.o g_qo_py trivial rfl).2.trans f_y_p1
  replace f_m_p1 := (hs.o gm trivial rfl).2.trans f_m_p1
  replace f_y_p2 := (hs.o g_qo_py trivial rfl).2.trans f_y_p2
  replace f_m_p2 := (hs.o gm trivial rfl).2.trans f_m_p2
  replace f_y_p3 := (hs.o g_qo_py trivial rfl).2.trans f_y_p3
  replace f_m_p3 := (hs.o gm trivial rfl).2.trans f_m_p3
  replace f_y_p4 := (hs.o g_qo_py trivial rfl).2.trans f_y_p4
  replace f_m_p4 := (hs.o gm trivial rfl).2.trans f_m_p4
  replace f_qrg9 := (hs.o gx trivial rfl).2.trans f_qrg9
  replace f_y_ls := (hs.o g_qrg9 trivial rfl).2.trans f_y_ls
  replace f_m_rl := (hs.o gm trivial rfl).2.trans f_m_rl
  replace ffv_551 := (hs.o g_qrg9 trivial rfl).1.trans ffv_551
  replace ffv_552 := (hs.o gm trivial rfl).1.trans ffv_552
  replace ffv_553 := (hs.o gm trivial rfl).1.trans ffv_553
  replace fw_566 := (hs.o g_qo_py trivial rfl).1.trans fw_566
  replace pf_qa : ∀ j : Nat, (j : Int) < (h_579.2.1 ax 6).toInt → h_579.2.2 qa j ≠ none := by
    intro j hj; rw [(hs.o gx trivial rfl).1] at hj; rw [(hs.a g_qa rfl j).2]; exact pf_qa j hj
  replace pf_qp : ∀ j : Nat, (j : Int) < (h_579.2.1 ax 8).toInt → h_579.2.2 qp j ≠ none := by
    intro j hj; rw [(hs.o gx trivial rfl).1] at hj; rw [(hs.a g_qp rfl j).2]; exact pf_qp j hj
  replace pf_qc : ∀ j : Nat, (j : Int) < (h_579.2.1 ax 11).toInt → h_579.2.2 qc j ≠ none := by
    intro j hj; rw [(hs.o gx trivial rfl).1] at hj; rw [(hs.a g_qc rfl j).2]; exact pf_qc j hj
  replace pf_qh : ∀ j : Nat, (j : Int) < (h_579.2.1 ax 13).toInt → h_579.2.2 qh j ≠ none := by
    intro j hj; rw [(hs.o gx trivial rfl).1] at hj; rw [(hs.a g_qh rfl j).2]; exact pf_qh j hj
  replace pf_ql : ∀ j : Nat, (j : Int) < (h_579.2.1 qw 0).toInt → h_579.2.2 ql j ≠ none := by
    intro j hj; rw [(hs.o g_qw trivial rfl).1] at hj; rw [(hs.a g_ql rfl j).2]; exact pf_ql j hj
  replace cl_lst : hx_col 8 h_579 ql 0 = c_lst := (hx_col_S hs hTo g_ql tt_40 tt_2 rfl rfl).trans cl_lst
  replace cl_dead : hx_col 40 h_579 qp 7 = c_dead := (hx_col_S hs hTo g_qp tt_44 tt_4 rfl rfl).trans cl_dead
  replace cl_isj : hx_col 40 h_579 qp 8 = c_isj := (hx_col_S hs hTo g_qp tt_44 tt_4 rfl rfl).trans cl_isj
  replace cl_dox : hx_col 40 h_579 qp 5 = c_dox := (hx_col_S hs hTo g_qp tt_44 tt_4 rfl rfl).trans cl_dox
  replace cl_doy : hx_col 40 h_579 qp 6 = c_doy := (hx_col_S hs hTo g_qp tt_44 tt_4 rfl rfl).trans cl_doy
  replace cl_fou : hx_col 100 h_579 qc 10 = c_fou := (hx_col_S hs hTo g_qc tt_45 tt_2 rfl rfl).trans cl_fou
  replace cl_tri : hx_col 100 h_579 qc 9 = c_tri := (hx_col_S hs hTo g_qc tt_45 tt_2 rfl rfl).trans cl_tri
  replace cl_bor : hx_col 40 h_579 qp 1 = F_bor := (hx_col_S hs hTo g_qp tt_44 tt_4 rfl rfl).trans cl_bor
  replace cl_kin : hx_col 40 h_579 qp 2 = F_kin := (hx_col_S hs hTo g_qp tt_44 tt_4 rfl rfl).trans cl_kin
  replace cl_sum : hx_col 100 h_579 qc 6 = F_sum := (hx_col_S hs hTo g_qc tt_45 tt_2 rfl rfl).trans cl_sum
  replace cl_fro : hx_col 100 h_579 qc 7 = F_fro := (hx_col_S hs hTo g_qc tt_45 tt_2 rfl rfl).trans cl_fro
  replace cl_fil : hx_col 100 h_579 qc 8 = F_fil := (hx_col_S hs hTo g_qc tt_45 tt_2 rfl rfl).trans cl_fil
  replace cl_hea : hx_col 100 h_579 qc 11 = F_mh := (hx_col_S hs hTo g_qc tt_45 tt_2 rfl rfl).trans cl_hea
  replace cl_jud : hx_col 100 h_579 qc 12 = F_jud := (hx_col_S hs hTo g_qc tt_45 tt_2 rfl rfl).trans cl_jud
  replace cl_ear : hx_col 40 h_579 qp 3 = F_ear := (hx_col_S hs hTo g_qp tt_44 tt_4 rfl rfl).trans cl_ear
  replace cl_hds : hx_col 40 h_579 qp 4 = F_hds := (hx_col_S hs hTo g_qp tt_44 tt_4 rfl rfl).trans cl_hds
  replace cl_ord : hx_col 100 h_579 qc 13 = F_ord := (hx_col_S hs hTo g_qc tt_45 tt_2 rfl rfl).trans cl_ord
  replace cl_wkl : hx_col 100 h_579 qc 14 = F_wkl := (hx_col_S hs hTo g_qc tt_45 tt_2 rfl rfl).trans cl_wkl
  replace cl_owd : hx_col 100 h_579 qc 15 = F_owd := (hx_col_S hs hTo g_qc tt_45 tt_2 rfl rfl).trans cl_owd
  replace cl_gds : hx_col 100 h_579 qc 17 = F_gds := (hx_col_S hs hTo g_qc tt_45 tt_2 rfl rfl).trans cl_gds
  replace cl_szd : hx_col 100 h_579 qc 16 = F_szd := (hx_col_S hs hTo g_qc tt_45 tt_2 rfl rfl).trans cl_szd
  replace cl_srv : hx_col 100 h_579 qc 18 = F_srv := (hx_col_S hs hTo g_qc tt_45 tt_2 rfl rfl).trans cl_srv
  replace nu_qp : hx_num 40 h_579 qp 0 (np.toInt) := hx_num_S hs hTo g_qp tt_44 tt_4 rfl rfl nu_qp
  replace nu_qc : hx_num 100 h_579 qc 0 (c0.toInt) := hx_num_S hs hTo g_qc tt_45 tt_2 rfl rfl nu_qc
  replace sb_list : hx_LQ 8 100 h_579 ql qc := hx_LQ_S hs g_ql g_qc rfl rfl sb_list
  replace hDF : hw_DF h_579 qc qp 2 F_aga c0.toInt := hw_DF_S hs hTo g_qc g_qp tt_45 tt_2 rfl rfl rfl hDF
  replace hRA9 : hv_RA h_579 qa qwo a0.toInt A9 := hv_RA_S hs hTo g_qa g_qwo tt_43 tt_0 rfl rfl rfl rfl rfl rfl ?o57 hRA9
  case o57 => omega
  replace hDP : hw_DF h_579 qc qp 1 F_by c0.toInt := hw_DF_S hs hTo g_qc g_qp tt_45 tt_2 rfl rfl rfl hDP
  replace hAC9 : hv_AC h_579 qc F_ml c0.toInt A9 := hv_AC_S hs hTo g_qc tt_45 tt_2 rfl tt_0 rfl rfl rfl rfl rfl rfl rfl hAC9
  replace hFX : hv_FX 8 4 h_579 qc cF9L c0.toInt := hv_FX_S hs hTo g_qc tt_45 tt_2 rfl rfl rfl rfl hFX
  replace hBX : hv_FX 3 5 h_579 qc F_be c0.toInt := hv_FX_S hs hTo g_qc tt_45 tt_2 rfl rfl rfl rfl hBX
  replace hHL : hv_HL h_579 qh qc F_ho m0.toInt c0.toInt := hv_HL_S hs g_qh g_qc rfl rfl hHL
  replace n_mw : h_579.2.1 mw = F_mw := (funext fun j => (hs.a g_mw rfl j).1).trans n_mw
  replace n_mr : h_579.2.1 mr = F_mr := (funext fun j => (hs.a g_mr rfl j).1).trans n_mr
  replace n_mp : h_579.2.1 mp = F_mp := (funext fun j => (hs.a g_mp rfl j).1).trans n_mp
  replace n_mn : h_579.2.1 mn = F_mn := (funext fun j => (hs.a g_mn rfl j).1).trans n_mn
  replace n_ml : h_579.2.1 ml = F_ml := (funext fun j => (hs.a g_ml rfl j).1).trans n_ml
  replace n_mh : h_579.2.1 mh = F_mh := (funext fun j => (hs.a g_mh rfl j).1).trans n_mh
  replace n_mt : h_579.2.1 mt = F_mt := (funext fun j => (hs.a g_mt rfl j).1).trans n_mt
  replace n_m_fou : h_579.2.1 m_fou = F_m_fou := (funext fun j => (hs.a g_m_fou rfl j).1).trans n_m_fou
  replace n_b_of : h_579.2.1 b_of = B_of := (funext fun j => (hs.a g_b_of rfl j).1).trans n_b_of
  replace n_m_of : h_579.2.1 m_of = F_of := (funext fun j => (hs.a g_m_of rfl j).1).trans n_m_of
  replace n_b_wf : h_579.2.1 b_wf = B_wf := (funext fun j => (hs.a g_b_wf rfl j).1).trans n_b_wf
  replace n_m_wf : h_579.2.1 m_wf = F_wf := (funext fun j => (hs.a g_m_wf rfl j).1).trans n_m_wf
  replace n_b_df : h_579.2.1 b_df = B_df := (funext fun j => (hs.a g_b_df rfl j).1).trans n_b_df
  replace n_m_df : h_579.2.1 m_df = F_df := (funext fun j => (hs.a g_m_df rfl j).1).trans n_m_df
  replace n_b_kf : h_579.2.1 b_kf = B_kf := (funext fun j => (hs.a g_b_kf rfl j).1).trans n_b_kf
  replace n_m_kf : h_579.2.1 m_kf = F_kf := (funext fun j => (hs.a g_m_kf rfl j).1).trans n_m_kf
  replace n_b_sf : h_579.2.1 b_sf = B_sf := (funext fun j => (hs.a g_b_sf rfl j).1).trans n_b_sf
  replace n_m_sf : h_579.2.1 m_sf = F_sf := (funext fun j => (hs.a g_m_sf rfl j).1).trans n_m_sf
  replace n_b_bf : h_579.2.1 b_bf = bfL := (funext fun j => (hs.a g_b_bf rfl j).1).trans n_b_bf
  replace n_lst : h_579.2.1 m_lst = F_lst := (funext fun j => (hs.a g_m_lst rfl j).1).trans n_lst
  replace n_tp : h_579.2.1 m_tp = F_tp := (funext fun j => (hs.a g_m_tp rfl j).1).trans n_tp
  replace n_qtp : h_579.2.1 qtp = F_tp := (funext fun j => (hs.a g_qtp rfl j).1).trans n_qtp
  replace n_dead : h_579.2.1 m_dead = F_dead := (funext fun j => (hs.a g_m_dead rfl j).1).trans n_dead
  replace n_isj : h_579.2.1 m_isj = F_isj := (funext fun j => (hs.a g_m_isj rfl j).1).trans n_isj
  replace n_dox : h_579.2.1 m_dox = F_dox := (funext fun j => (hs.a g_m_dox rfl j).1).trans n_dox
  replace n_doy : h_579.2.1 m_doy = F_doy := (funext fun j => (hs.a g_m_doy rfl j).1).trans n_doy
  replace n_qlt : h_579.2.1 qlt = F_qlt := (funext fun j => (hs.a g_qlt rfl j).1).trans n_qlt
  replace n_m_wkd : h_579.2.1 m_wkd = F_m_wkd := (funext fun j => (hs.a g_m_wkd rfl j).1).trans n_m_wkd
  replace n_aga : h_579.2.1 m_aga = F_aga := (funext fun j => (hs.a g_m_aga rfl j).1).trans n_aga
  replace n_ad : h_579.2.1 m_ad = F_ad := (funext fun j => (hs.a g_m_ad rfl j).1).trans n_ad
  replace n_by : h_579.2.1 m_by = F_by := (funext fun j => (hs.a g_m_by rfl j).1).trans n_by
  replace n_ho : h_579.2.1 m_ho = F_ho := (funext fun j => (hs.a g_m_ho rfl j).1).trans n_ho
  replace n_fc : h_579.2.1 m_fc = F_fc := (funext fun j => (hs.a g_m_fc rfl j).1).trans n_fc
  replace n_nt : h_579.2.1 m_nt = F_nt := (funext fun j => (hs.a g_m_nt rfl j).1).trans n_nt
  replace n_wt : h_579.2.1 m_wt = F_wt := (funext fun j => (hs.a g_m_wt rfl j).1).trans n_wt
  replace n_be : h_579.2.1 m_be = F_be := (funext fun j => (hs.a g_m_be rfl j).1).trans n_be
  replace n_bor : h_579.2.1 m_bor = F_bor := (funext fun j => (hs.a g_m_bor rfl j).1).trans n_bor
  replace n_kin : h_579.2.1 m_kin = F_kin := (funext fun j => (hs.a g_m_kin rfl j).1).trans n_kin
  replace n_sum : h_579.2.1 m_sum = F_sum := (funext fun j => (hs.a g_m_sum rfl j).1).trans n_sum
  replace n_fro : h_579.2.1 m_fro = F_fro := (funext fun j => (hs.a g_m_fro rfl j).1).trans n_fro
  replace n_fil : h_579.2.1 m_fil = F_fil := (funext fun j => (hs.a g_m_fil rfl j).1).trans n_fil
  replace n_jud : h_579.2.1 m_jud = F_jud := (funext fun j => (hs.a g_m_jud rfl j).1).trans n_jud
  replace n_ear : h_579.2.1 m_ear = F_ear := (funext fun j => (hs.a g_m_ear rfl j).1).trans n_ear
  replace n_hds : h_579.2.1 m_hds = F_hds := (funext fun j => (hs.a g_m_hds rfl j).1).trans n_hds
  replace n_ord : h_579.2.1 m_ord = F_ord := (funext fun j => (hs.a g_m_ord rfl j).1).trans n_ord
  replace n_wkl : h_579.2.1 m_wkl = F_wkl := (funext fun j => (hs.a g_m_wkl rfl j).1).trans n_wkl
  replace n_owd : h_579.2.1 m_owd = F_owd := (funext fun j => (hs.a g_m_owd rfl j).1).trans n_owd
  replace n_gds : h_579.2.1 m_gds = F_gds := (funext fun j => (hs.a g_m_gds rfl j).1).trans n_gds
  replace n_szd : h_579.2.1 m_szd = F_szd := (funext fun j => (hs.a g_m_szd rfl j).1).trans n_szd
  replace n_srv : h_579.2.1 m_srv = F_srv := (funext fun j => (hs.a g_m_srv rfl j).1).trans n_srv
  replace n_y_ls : h_579.2.1 y_ls = F_y_ls := (funext fun j => (hs.a g_y_ls rfl j).1).trans n_y_ls
  replace n_m_rl : h_579.2.1 m_rl = F_m_rl := (funext fun j => (hs.a g_m_rl rfl j).1).trans n_m_rl
  replace fw_567 : h_579.2.1 y_p0 = w_567 := (funext fun j => (hs.a g_y_p0 rfl j).1).trans fw_567
  replace fw_568 : h_579.2.1 y_p1 = w_568 := (funext fun j => (hs.a g_y_p1 rfl j).1).trans fw_568
  replace fw_569 : h_579.2.1 y_p2 = w_569 := (funext fun j => (hs.a g_y_p2 rfl j).1).trans fw_569
  replace fw_570 : h_579.2.1 y_p3 = w_570 := (funext fun j => (hs.a g_y_p3 rfl j).1).trans fw_570
  replace fw_571 : h_579.2.1 y_p4 = w_571 := (funext fun j => (hs.a g_y_p4 rfl j).1).trans fw_571
  replace gx := gx.S hs
  replace gm := gm.S hs
  replace g_qa := g_qa.S hs
  replace g_qp := g_qp.S hs
  replace g_qc := g_qc.S hs
  replace g_qh := g_qh.S hs
  replace g_qw := g_qw.S hs
  replace g_ql := g_ql.S hs
  replace g_mw := g_mw.S hs
  replace g_mr := g_mr.S hs
  replace g_mp := g_mp.S hs
  replace g_mn := g_mn.S hs
  replace g_ml := g_ml.S hs
  replace g_mh := g_mh.S hs
  replace g_mt := g_mt.S hs
  replace g_m_fou := g_m_fou.S hs
  replace g_qo_ln := g_qo_ln.S hs
  replace g_qo_py := g_qo_py.S hs
  replace g_b_of := g_b_of.S hs
  replace g_m_of := g_m_of.S hs
  replace g_b_wf := g_b_wf.S hs
  replace g_m_wf := g_m_wf.S hs
  replace g_b_df := g_b_df.S hs
  replace g_m_df := g_m_df.S hs
  replace g_b_kf := g_b_kf.S hs
  replace g_m_kf := g_m_kf.S hs
  replace g_b_sf := g_b_sf.S hs
  replace g_m_sf := g_m_sf.S hs
  replace g_b_bf := g_b_bf.S hs
  replace g_m_lst := g_m_lst.S hs
  replace g_qtp := g_qtp.S hs
  replace g_m_tp := g_m_tp.S hs
  replace g_m_dead := g_m_dead.S hs
  replace g_m_isj := g_m_isj.S hs
  replace g_m_dox := g_m_dox.S hs
  replace g_m_doy := g_m_doy.S hs
  replace g_qlt := g_qlt.S hs
  replace g_qlf := g_qlf.S hs
  replace g_m_wkd := g_m_wkd.S hs
  replace g_m_aga := g_m_aga.S hs
  replace g_qwo := g_qwo.S hs
  replace g_m_ad := g_m_ad.S hs
  replace g_m_by := g_m_by.S hs
  replace g_m_ho := g_m_ho.S hs
  replace g_m_fc := g_m_fc.S hs
  replace g_m_nt := g_m_nt.S hs
  replace g_m_wt := g_m_wt.S hs
  replace g_m_be := g_m_be.S hs
  replace g_m_bor := g_m_bor.S hs
  replace g_m_kin := g_m_kin.S hs
  replace g_m_sum := g_m_sum.S hs
  replace g_m_fro := g_m_fro.S hs
  replace g_m_fil := g_m_fil.S hs
  replace g_m_jud := g_m_jud.S hs
  replace g_m_ear := g_m_ear.S hs
  replace g_m_hds := g_m_hds.S hs
  replace g_m_ord := g_m_ord.S hs
  replace g_m_wkl := g_m_wkl.S hs
  replace g_m_owd := g_m_owd.S hs
  replace g_m_gds := g_m_gds.S hs
  replace g_m_szd := g_m_szd.S hs
  replace g_m_srv := g_m_srv.S hs
  replace g_y_p0 := g_y_p0.S hs
  replace g_m_p0 := g_m_p0.S hs
  replace g_y_p1 := g_y_p1.S hs
  replace g_m_p1 := g_m_p1.S hs
  replace g_y_p2 := g_y_p2.S hs
  replace g_m_p2 := g_m_p2.S hs
  replace g_y_p3 := g_y_p3.S hs
  replace g_m_p3 := g_m_p3.S hs
  replace g_y_p4 := g_y_p4.S hs
  replace g_m_p4 := g_m_p4.S hs
  replace g_qrg9 := g_qrg9.S hs
  replace g_y_ls := g_y_ls.S hs
  replace g_m_rl := g_m_rl.S hs
  have fw_583 : h_579.2.1 am 59 = w_583 := fw_583
  have bw_583 := hT.gi gm tt_10 (k := 59) rfl
  rw [fw_583] at bw_583
  have bw_583 : 0 ≤ w_583.toInt ∧ w_583.toInt ≤ 600 := bw_583
  have fw_584 : h_579.2.1 m_p0 = w_584 := fw_584
  have fw_585 : h_579.2.1 m_p1 = w_585 := fw_585
  have fw_586 : h_579.2.1 m_p2 = w_586 := fw_586
  have fw_587 : h_579.2.1 m_p3 = w_587 := fw_587
  have fw_588 : h_579.2.1 m_p4 = w_588 := fw_588
  refine lv_pop hx hb dL_law_960 rfl ?_
  refine lv_goto (tgt := 1379) hx hb dL_law_961 ?o58 ?_
  case o58 => decide
  obtain ⟨heq, hq_py, hq_p0, hq_p1, hq_p2, hq_p3, hq_p4⟩ := hz_PS_eq hr_565 hr_582
  refine W.widen (k := CC + 3) (n := SS + 179) ?o59 ?o60 ?_
  case o59 => omega
  case o60 => omega
  refine kk L_578 h_579 H locs ls hW ⟨hT, gx, gm, ⟨f_x_now.trans f_m_now.symm, f_x_personCount.trans f_m_persons.symm, f_x_claimCount.trans f_m_claims.symm, f_x_tapeLength.trans f_m_taped.symm, f_x_actCount.trans f_m_acts.symm, f_x_heardCount.trans f_m_heardMany.symm, hx_ob f_qo_ln (f_o_ln.trans f_m_lines.symm), hx_ob f_qw (f_o_lsd.trans f_m_listed.symm), hx_ob f_qw (f_o_wkm.trans f_m_walkedMany.symm), hx_ob f_qo_py ((fw_566.trans hq_py).trans fw_583.symm), hx_ob f_qp ?o61, hx_ob f_qc ?o62, (fun b a r hb ha hr => ?o63), (fun b a r hb ha hr => ?o64), (fun b a r hb ha hr => ?o65), (fun b a r hb ha hr => ?o66), (fun b a r hb ha hr => ?o67), (fun b a r hb ha hr => ?o68), (fun w q c hw hq hc => ?o69), (fun w q r hw hq hr => ?o70), (fun w q r hw hq hr => ?o71), (fun c q a hc hq ha => ?o72), (fun q r hq hr => ?o73), (fun q w a b c d e p hq hw ha hb hc hd he hp => ?o74), (fun c q a hc hq ha => ?o75), (fun q c a hq hc ha => ?o76), (fun a b ha hb => ?o77), (fun c a b d e f hc ha hb hd he hf => ?o78), (fun c a hc ha => ?o79), hx_ob2 f_qp f_m_bor (cl_bor.trans n_bor.symm), hx_ob2 f_qp f_m_kin (cl_kin.trans n_kin.symm), hx_ob2 f_qc f_m_sum (cl_sum.trans n_sum.symm), hx_ob2 f_qc f_m_fro (cl_fro.trans n_fro.symm), hx_ob2 f_qc f_m_fil (cl_fil.trans n_fil.symm), hx_ob2 f_qc f_mh (cl_hea.trans n_mh.symm), hx_ob2 f_qc f_m_jud (cl_jud.trans n_jud.symm), hx_ob2 f_qp f_m_ear (cl_ear.trans n_ear.symm), hx_ob2 f_qp f_m_hds (cl_hds.trans n_hds.symm), hx_ob2 f_qc f_m_ord (cl_ord.trans n_ord.symm), hx_ob2 f_qc f_m_wkl (cl_wkl.trans n_wkl.symm), hx_ob2 f_qc f_m_owd (cl_owd.trans n_owd.symm), hx_ob2 f_qc f_m_gds (cl_gds.trans n_gds.symm), hx_ob2 f_qc f_m_szd (cl_szd.trans n_szd.symm), hx_ob2 f_qc f_m_srv (cl_srv.trans n_srv.symm), (fun p q r hp hq hr => ?o80), (fun p q r hp hq hr => ?o81), (fun p q r hp hq hr => ?o82), (fun p q r hp hq hr => ?o83), (fun p q r hp hq hr => ?o84), (fun p hp => ?o85), (fun p q r hp hq hr => ?o86), hx_ob2 f_qp f_m_dead ?o87, hx_ob2 f_qp f_m_isj ?o88, hx_ob2 f_qp f_m_dox ?o89, hx_ob2 f_qp f_m_doy ?o90, hx_ob2 f_qc f_m_fou ?o91, hx_ob2 f_qc f_mt ?o92, trivial⟩, ⟨hx_ob f_qa pf_qa, hx_ob f_qp pf_qp, hx_ob f_qc pf_qc, hx_ob f_qh pf_qh, (fun w q hw hq => ?o93)⟩, ⟨hx_ob f_mw ?o94, hx_ob f_mr ?o95, hx_ob2 f_mp f_mn ?o96, hx_ob f_ml ?o97, hx_ob f_mh ?o98, hx_ob f_mt ?o99, hx_ob2 f_mh f_m_fou ?o101⟩⟩ hl
  case o61 =>
    rw [f_x_personCount]
    exact nu_qp
  case o62 =>
    rw [f_x_claimCount]
    exact nu_qc
  case o63 =>
    obtain rfl : qo_ln = b := Option.some.inj (f_qo_ln.symm.trans hb)
    obtain rfl : b_of = a := Option.some.inj (f_b_of.symm.trans ha)
    obtain rfl : m_of = r := Option.some.inj (f_m_of.symm.trans hr)
    rw [n_b_of, n_m_of, f_o_ln]
    exact eb_of
  case o64 =>
    obtain rfl : qo_ln = b := Option.some.inj (f_qo_ln.symm.trans hb)
    obtain rfl : b_wf = a := Option.some.inj (f_b_wf.symm.trans ha)
    obtain rfl : m_wf = r := Option.some.inj (f_m_wf.symm.trans hr)
    rw [n_b_wf, n_m_wf, f_o_ln]
    exact eb_wf
  case o65 =>
    obtain rfl : qo_ln = b := Option.some.inj (f_qo_ln.symm.trans hb)
    obtain rfl : b_df = a := Option.some.inj (f_b_df.symm.trans ha)
    obtain rfl : m_df = r := Option.some.inj (f_m_df.symm.trans hr)
    rw [n_b_df, n_m_df, f_o_ln]
    exact eb_df
  case o66 =>
    obtain rfl : qo_ln = b := Option.some.inj (f_qo_ln.symm.trans hb)
    obtain rfl : b_kf = a := Option.some.inj (f_b_kf.symm.trans ha)
    obtain rfl : m_kf = r := Option.some.inj (f_m_kf.symm.trans hr)
    rw [n_b_kf, n_m_kf, f_o_ln]
    exact eb_kf
  case o67 =>
    obtain rfl : qo_ln = b := Option.some.inj (f_qo_ln.symm.trans hb)
    obtain rfl : b_sf = a := Option.some.inj (f_b_sf.symm.trans ha)
    obtain rfl : m_sf = r := Option.some.inj (f_m_sf.symm.trans hr)
    rw [n_b_sf, n_m_sf, f_o_ln]
    exact eb_sf
  case o68 =>
    obtain rfl : qo_ln = b := Option.some.inj (f_qo_ln.symm.trans hb)
    obtain rfl : b_df = a := Option.some.inj (f_b_df.symm.trans ha)
    obtain rfl : b_bf = r := Option.some.inj (f_b_bf.symm.trans hr)
    rw [n_b_df, n_b_bf, f_o_ln]
    exact ⟨hBD, hDY⟩
  case o69 =>
    obtain rfl : qw = w := Option.some.inj (f_qw.symm.trans hw)
    obtain rfl : ql = q := Option.some.inj (f_ql.symm.trans hq)
    obtain rfl : qc = c := Option.some.inj (f_qc.symm.trans hc)
    exact sb_list
  case o70 =>
    obtain rfl : qw = w := Option.some.inj (f_qw.symm.trans hw)
    obtain rfl : ql = q := Option.some.inj (f_ql.symm.trans hq)
    obtain rfl : m_lst = r := Option.some.inj (f_m_lst.symm.trans hr)
    rw [cl_lst, n_lst]
    exact eq_lst
  case o71 =>
    obtain rfl : qw = w := Option.some.inj (f_qw.symm.trans hw)
    obtain rfl : qlt = q := Option.some.inj (f_qlt.symm.trans hq)
    obtain rfl : m_wkd = r := Option.some.inj (f_m_wkd.symm.trans hr)
    rw [n_qlt, n_m_wkd, f_o_wkm]
    exact eb_wkd
  case o72 =>
    obtain rfl : qc = c := Option.some.inj (f_qc.symm.trans hc)
    obtain rfl : qp = q := Option.some.inj (f_qp.symm.trans hq)
    obtain rfl : m_aga = a := Option.some.inj (f_m_aga.symm.trans ha)
    rw [n_aga, f_x_claimCount]
    exact hw_DF_e hDF rfl rfl
  case o73 =>
    obtain rfl : qtp = q := Option.some.inj (f_qtp.symm.trans hq)
    obtain rfl : m_tp = r := Option.some.inj (f_m_tp.symm.trans hr)
    exact n_qtp.trans n_tp.symm
  case o74 =>
    obtain rfl : qa = q := Option.some.inj (f_qa.symm.trans hq)
    obtain rfl : qwo = w := Option.some.inj (f_qwo.symm.trans hw)
    obtain rfl : m_ad = a := Option.some.inj (f_m_ad.symm.trans ha)
    obtain rfl : mr = b := Option.some.inj (f_mr.symm.trans hb)
    obtain rfl : mn = c := Option.some.inj (f_mn.symm.trans hc)
    obtain rfl : mp = d := Option.some.inj (f_mp.symm.trans hd)
    obtain rfl : qc = e := Option.some.inj (f_qc.symm.trans he)
    obtain rfl : ml = p := Option.some.inj (f_ml.symm.trans hp)
    exact ⟨_, by rw [f_x_actCount]; exact hRA9, by rw [f_x_actCount, n_ad, n_mr, n_mn, n_mp]; exact hCA9, by rw [n_ml, f_x_claimCount]; exact hv_AC_e hAC9 rfl rfl rfl, hAB⟩
  case o75 =>
    obtain rfl : qc = c := Option.some.inj (f_qc.symm.trans hc)
    obtain rfl : qp = q := Option.some.inj (f_qp.symm.trans hq)
    obtain rfl : m_by = a := Option.some.inj (f_m_by.symm.trans ha)
    rw [n_by, f_x_claimCount]
    exact hw_DF_e hDP rfl rfl
  case o76 =>
    obtain rfl : qh = q := Option.some.inj (f_qh.symm.trans hq)
    obtain rfl : qc = c := Option.some.inj (f_qc.symm.trans hc)
    obtain rfl : m_ho = a := Option.some.inj (f_m_ho.symm.trans ha)
    rw [n_ho, f_x_heardCount, f_x_claimCount]
    exact hv_HL_e hHL rfl rfl rfl
  case o77 =>
    obtain rfl : m_ho = a := Option.some.inj (f_m_ho.symm.trans ha)
    obtain rfl : mh = b := Option.some.inj (f_mh.symm.trans hb)
    rw [n_ho, n_mh, f_m_heardMany, f_m_claims]
    exact hHO9
  case o78 =>
    obtain rfl : qc = c := Option.some.inj (f_qc.symm.trans hc)
    obtain rfl : m_fc = a := Option.some.inj (f_m_fc.symm.trans ha)
    obtain rfl : m_nt = b := Option.some.inj (f_m_nt.symm.trans hb)
    obtain rfl : m_wt = d := Option.some.inj (f_m_wt.symm.trans hd)
    obtain rfl : m_sum = e := Option.some.inj (f_m_sum.symm.trans he)
    obtain rfl : mh = f := Option.some.inj (f_mh.symm.trans hf)
    exact ⟨cF9L, by rw [f_x_claimCount]; exact hFX, by rw [n_fc, n_nt, n_wt, n_sum, n_mh, f_x_claimCount]; exact hFR9⟩
  case o79 =>
    obtain rfl : qc = c := Option.some.inj (f_qc.symm.trans hc)
    obtain rfl : m_be = a := Option.some.inj (f_m_be.symm.trans ha)
    rw [n_be, f_x_claimCount]
    exact hv_FX_e hBX rfl rfl
  case o80 =>
    obtain rfl : qo_py = p := Option.some.inj (f_qo_py.symm.trans hp)
    obtain rfl : y_p0 = q := Option.some.inj (f_y_p0.symm.trans hq)
    obtain rfl : m_p0 = r := Option.some.inj (f_m_p0.symm.trans hr)
    exact (fw_567.trans hq_p0).trans fw_584.symm
  case o81 =>
    obtain rfl : qo_py = p := Option.some.inj (f_qo_py.symm.trans hp)
    obtain rfl : y_p1 = q := Option.some.inj (f_y_p1.symm.trans hq)
    obtain rfl : m_p1 = r := Option.some.inj (f_m_p1.symm.trans hr)
    exact (fw_568.trans hq_p1).trans fw_585.symm
  case o82 =>
    obtain rfl : qo_py = p := Option.some.inj (f_qo_py.symm.trans hp)
    obtain rfl : y_p2 = q := Option.some.inj (f_y_p2.symm.trans hq)
    obtain rfl : m_p2 = r := Option.some.inj (f_m_p2.symm.trans hr)
    exact (fw_569.trans hq_p2).trans fw_586.symm
  case o83 =>
    obtain rfl : qo_py = p := Option.some.inj (f_qo_py.symm.trans hp)
    obtain rfl : y_p3 = q := Option.some.inj (f_y_p3.symm.trans hq)
    obtain rfl : m_p3 = r := Option.some.inj (f_m_p3.symm.trans hr)
    exact (fw_570.trans hq_p3).trans fw_587.symm
  case o84 =>
    obtain rfl : qo_py = p := Option.some.inj (f_qo_py.symm.trans hp)
    obtain rfl : y_p4 = q := Option.some.inj (f_y_p4.symm.trans hq)
    obtain rfl : m_p4 = r := Option.some.inj (f_m_p4.symm.trans hr)
    exact (fw_571.trans hq_p4).trans fw_588.symm
  case o85 =>
    obtain rfl : qrg9 = p := Option.some.inj (f_qrg9.symm.trans hp)
    rw [ffv_551, ffv_552, ffv_553]
    exact hNQ9
  case o86 =>
    obtain rfl : qrg9 = p := Option.some.inj (f_qrg9.symm.trans hp)
    obtain rfl : y_ls = q := Option.some.inj (f_y_ls.symm.trans hq)
    obtain rfl : m_rl = r := Option.some.inj (f_m_rl.symm.trans hr)
    rw [n_y_ls, n_m_rl, ffv_551]
    exact hRL9
  case o87 =>
    rw [cl_dead, n_dead]
    exact eq_dead
  case o88 =>
    rw [cl_isj, n_isj]
    exact eq_isj
  case o89 =>
    rw [cl_dox, n_dox]
    exact eq_dox
  case o90 =>
    rw [cl_doy, n_doy]
    exact eq_doy
  case o91 =>
    rw [cl_fou, n_m_fou]
    exact eq_fou
  case o92 =>
    rw [cl_tri, n_mt]
    exact eq_tri
  case o93 =>
    obtain rfl : qw = w := Option.some.inj (f_qw.symm.trans hw)
    obtain rfl : ql = q := Option.some.inj (f_ql.symm.trans hq)
    exact pf_ql
  case o94 =>
    rw [n_mw]
    exact hwd
  case o95 =>
    rw [n_mr, f_m_acts]
    exact hWK
  case o96 =>
    rw [n_mp, n_mn, f_m_acts]
    exact hRP
  case o97 =>
    rw [n_ml, f_m_claims, f_m_acts]
    exact hPL
  case o98 =>
    rw [n_mh, f_m_heardMany, f_m_claims]
    exact hHC
  case o99 =>
    rw [n_mt]
    refine (hx_TR_le hTR ?o100)
    case o100 => omega
  case o101 =>
    rw [n_mh, n_m_fou, f_m_claims]
    exact hHF
