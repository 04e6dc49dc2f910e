set_option maxHeartbeats 4000000 in
set_option maxRecDepth 100000 in
theorem law_case_16 {p : Program} {e : Env} {s : State} {m : MethodId} {below : List Frame} {meth : Method} {c : Code} (l : Launch) {b LN : Nat} {xs : Nat → Int32} (hx : p.tables.exec = Jvm.exec) (hb : c.code = code) (hr : meth.sig.returnType = ret) (hlocks : meth.locks = false) (hml : c.maxLocals = 4) (hown : s.vm.findClass "SmallCourtLaw" = some m.cls) (hts : ∀ w ∈ hx_all, w.before #[Value.ref b] s = true) (hX : va_X b LN xs s s.heap) (hbl : b < s.heap.size) (hbA : ¬ s.heap.size ≤ b) (hLN : LN ≤ 3584) (dC : Nat → ClassId) (dI : Nat → Nat → Nat) (dA : Nat → ClassId) (b0 : hx_z) (ax am : Nat) (T1 : Int) (hT0 : 0 ≤ T1) (hT1 : T1 ≤ 511) (i : Int32) (hi0 : 0 ≤ i.toInt) (hiL : i.toInt + 7 ≤ LN) (CC SS : Nat) (hCC : CC + 3 ≤ 600000) (hSS : SS + 179 ≤ 7302250) (L1 : List Nat) (hl1 : hx_h) (H : Heap) (locs : List Loc) (ls : Array Slot) (hW : hx_W T_tb (P_ty dA) (dC, dI) vwCl (fun q : Nat => s.heap.size ≤ q) s.heap L1 hl1 s H locs) (hZ : hx_Xt (fun q : Nat => s.heap.size ≤ q) b0 s) (hI : hx_IV T1 ax am L1 hl1) (hl : lv_has ls 4 [(3, .int i), (2, .ref am), (1, .ref ax), (0, .ref b)]) (kk : ∀ (L2 : List Nat) (h2 : hx_h) (H2 : Heap) (locs2 : List Loc) (ls2 : Array Slot), hx_W T_tb (P_ty dA) (dC, dI) vwCl (fun q : Nat => s.heap.size ≤ q) s.heap L2 h2 s H2 locs2 → hx_IV (T1 + 1) ax am L2 h2 → lv_has ls2 4 [(3, .int i), (2, .ref am), (1, .ref ax), (0, .ref b)] → W p l e room_1 s m #[Value.ref b] below meth c H2 locs2 (CC + 3) (SS + 179) (lw_Z below #[Value.ref b] s) (F0 m 1379 ls2 [])) : W p l e room_1 s m #[Value.ref b] below meth c H locs CC SS (lw_Z below #[Value.ref b] s) (F0 m 964 ls []) := by
  have hI9 := hI
  have hT := hI9.1
  replace hI9 := hI9.2
  have gx := hI9.1
  replace hI9 := hI9.2
  have gm := hI9.1
  replace hI9 := hI9.2
  have zq0_3 := hI9.1
  have he_nw := zq0_3.1
  replace zq0_3 := zq0_3.2
  have he_np := zq0_3.1
  replace zq0_3 := zq0_3.2
  have he_c0 := zq0_3.1
  replace zq0_3 := zq0_3.2
  have he_tl := zq0_3.1
  replace zq0_3 := zq0_3.2
  have he_a0 := zq0_3.1
  replace zq0_3 := zq0_3.2
  have he_m0 := zq0_3.1
  replace zq0_3 := zq0_3.2
  have ho_ln := zq0_3.1
  replace zq0_3 := zq0_3.2
  have ho_lsd := zq0_3.1
  replace zq0_3 := zq0_3.2
  have ho_wkm := zq0_3.1
  replace zq0_3 := zq0_3.2
  have ho_py := zq0_3.1
  replace zq0_3 := zq0_3.2
  have hn_qp := zq0_3.1
  replace zq0_3 := zq0_3.2
  have hn_qc := zq0_3.1
  replace zq0_3 := zq0_3.2
  have hk_of := zq0_3.1
  replace zq0_3 := zq0_3.2
  have hk_wf := zq0_3.1
  replace zq0_3 := zq0_3.2
  have hk_df := zq0_3.1
  replace zq0_3 := zq0_3.2
  have hk_kf := zq0_3.1
  replace zq0_3 := zq0_3.2
  have hk_sf := zq0_3.1
  replace zq0_3 := zq0_3.2
  have hkBD := zq0_3.1
  replace zq0_3 := zq0_3.2
  have hLQ := zq0_3.1
  replace zq0_3 := zq0_3.2
  have hLE := zq0_3.1
  replace zq0_3 := zq0_3.2
  have hkWD := zq0_3.1
  replace zq0_3 := zq0_3.2
  have hkDF := zq0_3.1
  replace zq0_3 := zq0_3.2
  have hkTP := zq0_3.1
  replace zq0_3 := zq0_3.2
  have hkAC := zq0_3.1
  replace zq0_3 := zq0_3.2
  have hkDP := zq0_3.1
  replace zq0_3 := zq0_3.2
  have hkHL := zq0_3.1
  replace zq0_3 := zq0_3.2
  have hkHO := zq0_3.1
  replace zq0_3 := zq0_3.2
  have hkFX := zq0_3.1
  replace zq0_3 := zq0_3.2
  have hkBX := zq0_3.1
  replace zq0_3 := zq0_3.2
  have hf_bor := zq0_3.1
  replace zq0_3 := zq0_3.2
  have hf_kin := zq0_3.1
  replace zq0_3 := zq0_3.2
  have hf_sum := zq0_3.1
  replace zq0_3 := zq0_3.2
  have hf_fro := zq0_3.1
  replace zq0_3 := zq0_3.2
  have hf_fil := zq0_3.1
  replace zq0_3 := zq0_3.2
  have hf_hea := zq0_3.1
  replace zq0_3 := zq0_3.2
  have hf_jud := zq0_3.1
  replace zq0_3 := zq0_3.2
  have hf_ear := zq0_3.1
  replace zq0_3 := zq0_3.2
  have hf_hds := zq0_3.1
  replace zq0_3 := zq0_3.2
  have hf_ord := zq0_3.1
  replace zq0_3 := zq0_3.2
  have hf_wkl := zq0_3.1
  replace zq0_3 := zq0_3.2
  have hf_owd := zq0_3.1
  replace zq0_3 := zq0_3.2
  have hf_gds := zq0_3.1
  replace zq0_3 := zq0_3.2
  have hf_szd := zq0_3.1
  replace zq0_3 := zq0_3.2
  have hf_srv := zq0_3.1
  replace zq0_3 := zq0_3.2
  have hkP0 := zq0_3.1
  replace zq0_3 := zq0_3.2
  have hkP1 := zq0_3.1
  replace zq0_3 := zq0_3.2
  have hkP2 := zq0_3.1
  replace zq0_3 := zq0_3.2
  have hkP3 := zq0_3.1
  replace zq0_3 := zq0_3.2
  have hkP4 := zq0_3.1
  replace zq0_3 := zq0_3.2
  have hkNQ := zq0_3.1
  replace zq0_3 := zq0_3.2
  have hkRL := zq0_3.1
  replace zq0_3 := zq0_3.2
  have hc_dead := zq0_3.1
  replace zq0_3 := zq0_3.2
  have hc_isj := zq0_3.1
  replace zq0_3 := zq0_3.2
  have hc_dox := zq0_3.1
  replace zq0_3 := zq0_3.2
  have hc_doy := zq0_3.1
  replace zq0_3 := zq0_3.2
  have hc_fou := zq0_3.1
  replace zq0_3 := zq0_3.2
  have hc_tri := zq0_3.1
  replace zq0_3 := zq0_3.2
  replace hI9 := hI9.2
  have zq0_4 := hI9.1
  have ia := zq0_4.1
  replace zq0_4 := zq0_4.2
  have ip := zq0_4.1
  replace zq0_4 := zq0_4.2
  have ic := zq0_4.1
  replace zq0_4 := zq0_4.2
  have ih := zq0_4.1
  replace zq0_4 := zq0_4.2
  have il := zq0_4
  replace hI9 := hI9.2
  have zq0_5 := hI9
  have jw := zq0_5.1
  replace zq0_5 := zq0_5.2
  have jr := zq0_5.1
  replace zq0_5 := zq0_5.2
  have jp := zq0_5.1
  replace zq0_5 := zq0_5.2
  have jl := zq0_5.1
  replace zq0_5 := zq0_5.2
  have jh := zq0_5.1
  replace zq0_5 := zq0_5.2
  have jt := zq0_5.1
  replace zq0_5 := zq0_5.2
  have jf := zq0_5
  obtain ⟨qa, f_qa, g_qa⟩ := hx_rf hT gx tt_9 (k := 5) (u := 43) rfl
  have pf_qa := ia qa f_qa
  obtain ⟨qp, f_qp, g_qp⟩ := hx_rf hT gx tt_9 (k := 7) (u := 44) rfl
  have pf_qp := ip qp f_qp
  obtain ⟨qc, f_qc, g_qc⟩ := hx_rf hT gx tt_9 (k := 10) (u := 45) rfl
  have pf_qc := ic qc f_qc
  obtain ⟨qh, f_qh, g_qh⟩ := hx_rf hT gx tt_9 (k := 12) (u := 46) rfl
  have pf_qh := ih qh f_qh
  obtain ⟨qw, f_qw, g_qw⟩ := hx_rf hT gx tt_9 (k := 19) (u := 8) rfl
  obtain ⟨ql, f_ql, g_ql⟩ := hx_rf hT g_qw tt_8 (k := 3) (u := 40) rfl
  have pf_ql := il qw ql f_qw f_ql
  obtain ⟨nw, f_m_now⟩ : ∃ y : Int32, hl1.2.1 am 0 = y := ⟨_, rfl⟩
  have b_nw := hT.gi gm tt_10 (k := 0) rfl
  rw [f_m_now] at b_nw
  have b_nw : 0 ≤ nw.toInt ∧ nw.toInt ≤ 7999 := b_nw
  obtain ⟨np, f_m_persons⟩ : ∃ y : Int32, hl1.2.1 am 20 = y := ⟨_, rfl⟩
  have b_np := hT.gi gm tt_10 (k := 20) rfl
  rw [f_m_persons] at b_np
  have b_np : 0 ≤ np.toInt ∧ np.toInt ≤ 40 := b_np
  obtain ⟨c0, f_m_claims⟩ : ∃ y : Int32, hl1.2.1 am 36 = y := ⟨_, rfl⟩
  have b_c0 := hT.gi gm tt_10 (k := 36) rfl
  rw [f_m_claims] at b_c0
  have b_c0 : 0 ≤ c0.toInt ∧ c0.toInt ≤ 100 := b_c0
  obtain ⟨tl, f_m_taped⟩ : ∃ y : Int32, hl1.2.1 am 7 = y := ⟨_, rfl⟩
  have b_tl := hT.gi gm tt_10 (k := 7) rfl
  rw [f_m_taped] at b_tl
  have b_tl : 0 ≤ tl.toInt ∧ tl.toInt ≤ 400 := b_tl
  obtain ⟨a0, f_m_acts⟩ : ∃ y : Int32, hl1.2.1 am 1 = y := ⟨_, rfl⟩
  have b_a0 := hT.gi gm tt_10 (k := 1) rfl
  rw [f_m_acts] at b_a0
  have b_a0 : 0 ≤ a0.toInt ∧ a0.toInt ≤ 8 := b_a0
  obtain ⟨m0, f_m_heardMany⟩ : ∃ y : Int32, hl1.2.1 am 57 = y := ⟨_, rfl⟩
  have b_m0 := hT.gi gm tt_10 (k := 57) rfl
  rw [f_m_heardMany] at b_m0
  have b_m0 : 0 ≤ m0.toInt ∧ m0.toInt ≤ 100 := b_m0
  obtain ⟨ln, f_m_lines⟩ : ∃ y : Int32, hl1.2.1 am 29 = y := ⟨_, rfl⟩
  have b_ln := hT.gi gm tt_10 (k := 29) rfl
  rw [f_m_lines] at b_ln
  have b_ln : 0 ≤ ln.toInt ∧ ln.toInt ≤ 400 := b_ln
  obtain ⟨lsd, f_m_listed⟩ : ∃ y : Int32, hl1.2.1 am 90 = y := ⟨_, rfl⟩
  have b_lsd := hT.gi gm tt_10 (k := 90) rfl
  rw [f_m_listed] at b_lsd
  have b_lsd : 0 ≤ lsd.toInt ∧ lsd.toInt ≤ 8 := b_lsd
  obtain ⟨wkm, f_m_walkedMany⟩ : ∃ y : Int32, hl1.2.1 am 92 = y := ⟨_, rfl⟩
  have b_wkm := hT.gi gm tt_10 (k := 92) rfl
  rw [f_m_walkedMany] at b_wkm
  have b_wkm : 0 ≤ wkm.toInt ∧ wkm.toInt ≤ 8 := b_wkm
  obtain ⟨py, f_m_payments⟩ : ∃ y : Int32, hl1.2.1 am 59 = y := ⟨_, rfl⟩
  have b_py := hT.gi gm tt_10 (k := 59) rfl
  rw [f_m_payments] at b_py
  have b_py : 0 ≤ py.toInt ∧ py.toInt ≤ 600 := b_py
  have f_x_now : hl1.2.1 ax 2 = nw := he_nw.trans f_m_now
  have f_x_personCount : hl1.2.1 ax 8 = np := he_np.trans f_m_persons
  have f_x_claimCount : hl1.2.1 ax 11 = c0 := he_c0.trans f_m_claims
  have f_x_tapeLength : hl1.2.1 ax 1 = tl := he_tl.trans f_m_taped
  have f_x_actCount : hl1.2.1 ax 6 = a0 := he_a0.trans f_m_acts
  have f_x_heardCount : hl1.2.1 ax 13 = m0 := he_m0.trans f_m_heardMany
  obtain ⟨mw, f_mw, g_mw⟩ := hx_rf hT gm tt_10 (k := 19) (u := 57) rfl
  obtain ⟨F_mw, n_mw⟩ : ∃ g : Nat → Int32, hl1.2.1 mw = g := ⟨_, rfl⟩
  obtain ⟨mr, f_mr, g_mr⟩ := hx_rf hT gm tt_10 (k := 3) (u := 50) rfl
  obtain ⟨F_mr, n_mr⟩ : ∃ g : Nat → Int32, hl1.2.1 mr = g := ⟨_, rfl⟩
  obtain ⟨mp, f_mp, g_mp⟩ := hx_rf hT gm tt_10 (k := 5) (u := 52) rfl
  obtain ⟨F_mp, n_mp⟩ : ∃ g : Nat → Int32, hl1.2.1 mp = g := ⟨_, rfl⟩
  obtain ⟨mn, f_mn, g_mn⟩ := hx_rf hT gm tt_10 (k := 4) (u := 51) rfl
  obtain ⟨F_mn, n_mn⟩ : ∃ g : Nat → Int32, hl1.2.1 mn = g := ⟨_, rfl⟩
  obtain ⟨ml, f_ml, g_ml⟩ := hx_rf hT gm tt_10 (k := 44) (u := 79) rfl
  obtain ⟨F_ml, n_ml⟩ : ∃ g : Nat → Int32, hl1.2.1 ml = g := ⟨_, rfl⟩
  obtain ⟨mh, f_mh, g_mh⟩ := hx_rf hT gm tt_10 (k := 47) (u := 82) rfl
  obtain ⟨F_mh, n_mh⟩ : ∃ g : Nat → Int32, hl1.2.1 mh = g := ⟨_, rfl⟩
  obtain ⟨mt, f_mt, g_mt⟩ := hx_rf hT gm tt_10 (k := 45) (u := 80) rfl
  obtain ⟨F_mt, n_mt⟩ : ∃ g : Nat → Int32, hl1.2.1 mt = g := ⟨_, rfl⟩
  obtain ⟨m_fou, f_m_fou, g_m_fou⟩ := hx_rf hT gm tt_10 (k := 46) (u := 81) rfl
  obtain ⟨F_m_fou, n_m_fou⟩ : ∃ g : Nat → Int32, hl1.2.1 m_fou = g := ⟨_, rfl⟩
  obtain ⟨qo_ln, f_qo_ln, g_qo_ln⟩ := hx_rf hT gx tt_9 (k := 9) (u := 1) rfl
  have f_o_ln : hl1.2.1 qo_ln 0 = ln := (ho_ln qo_ln f_qo_ln).trans f_m_lines
  have f_o_lsd : hl1.2.1 qw 0 = lsd := (ho_lsd qw f_qw).trans f_m_listed
  have f_o_wkm : hl1.2.1 qw 1 = wkm := (ho_wkm qw f_qw).trans f_m_walkedMany
  obtain ⟨qo_py, f_qo_py, g_qo_py⟩ := hx_rf hT gx tt_9 (k := 14) (u := 3) rfl
  have f_o_py : hl1.2.1 qo_py 0 = py := (ho_py qo_py f_qo_py).trans f_m_payments
  have nu_qp := hn_qp qp f_qp; rw [f_x_personCount] at nu_qp
  have nu_qc := hn_qc qc f_qc; rw [f_x_claimCount] at nu_qc
  obtain ⟨b_of, f_b_of, g_b_of⟩ := hx_rf hT g_qo_ln tt_1 (k := 1) (u := 13) rfl
  obtain ⟨B_of, n_b_of⟩ : ∃ g : Nat → Int32, hl1.2.1 b_of = g := ⟨_, rfl⟩
  obtain ⟨m_of, f_m_of, g_m_of⟩ := hx_rf hT gm tt_10 (k := 30) (u := 66) rfl
  obtain ⟨F_of, n_m_of⟩ : ∃ g : Nat → Int32, hl1.2.1 m_of = g := ⟨_, rfl⟩
  have eb_of := hk_of qo_ln b_of m_of f_qo_ln f_b_of f_m_of; rw [n_b_of, n_m_of, f_o_ln] at eb_of
  obtain ⟨b_wf, f_b_wf, g_b_wf⟩ := hx_rf hT g_qo_ln tt_1 (k := 2) (u := 14) rfl
  obtain ⟨B_wf, n_b_wf⟩ : ∃ g : Nat → Int32, hl1.2.1 b_wf = g := ⟨_, rfl⟩
  obtain ⟨m_wf, f_m_wf, g_m_wf⟩ := hx_rf hT gm tt_10 (k := 31) (u := 67) rfl
  obtain ⟨F_wf, n_m_wf⟩ : ∃ g : Nat → Int32, hl1.2.1 m_wf = g := ⟨_, rfl⟩
  have eb_wf := hk_wf qo_ln b_wf m_wf f_qo_ln f_b_wf f_m_wf; rw [n_b_wf, n_m_wf, f_o_ln] at eb_wf
  obtain ⟨b_df, f_b_df, g_b_df⟩ := hx_rf hT g_qo_ln tt_1 (k := 3) (u := 15) rfl
  obtain ⟨B_df, n_b_df⟩ : ∃ g : Nat → Int32, hl1.2.1 b_df = g := ⟨_, rfl⟩
  obtain ⟨m_df, f_m_df, g_m_df⟩ := hx_rf hT gm tt_10 (k := 32) (u := 68) rfl
  obtain ⟨F_df, n_m_df⟩ : ∃ g : Nat → Int32, hl1.2.1 m_df = g := ⟨_, rfl⟩
  have eb_df := hk_df qo_ln b_df m_df f_qo_ln f_b_df f_m_df; rw [n_b_df, n_m_df, f_o_ln] at eb_df
  obtain ⟨b_kf, f_b_kf, g_b_kf⟩ := hx_rf hT g_qo_ln tt_1 (k := 4) (u := 16) rfl
  obtain ⟨B_kf, n_b_kf⟩ : ∃ g : Nat → Int32, hl1.2.1 b_kf = g := ⟨_, rfl⟩
  obtain ⟨m_kf, f_m_kf, g_m_kf⟩ := hx_rf hT gm tt_10 (k := 33) (u := 69) rfl
  obtain ⟨F_kf, n_m_kf⟩ : ∃ g : Nat → Int32, hl1.2.1 m_kf = g := ⟨_, rfl⟩
  have eb_kf := hk_kf qo_ln b_kf m_kf f_qo_ln f_b_kf f_m_kf; rw [n_b_kf, n_m_kf, f_o_ln] at eb_kf
  obtain ⟨b_sf, f_b_sf, g_b_sf⟩ := hx_rf hT g_qo_ln tt_1 (k := 5) (u := 17) rfl
  obtain ⟨B_sf, n_b_sf⟩ : ∃ g : Nat → Int32, hl1.2.1 b_sf = g := ⟨_, rfl⟩
  obtain ⟨m_sf, f_m_sf, g_m_sf⟩ := hx_rf hT gm tt_10 (k := 34) (u := 70) rfl
  obtain ⟨F_sf, n_m_sf⟩ : ∃ g : Nat → Int32, hl1.2.1 m_sf = g := ⟨_, rfl⟩
  have eb_sf := hk_sf qo_ln b_sf m_sf f_qo_ln f_b_sf f_m_sf; rw [n_b_sf, n_m_sf, f_o_ln] at eb_sf
  obtain ⟨b_bf, f_b_bf, g_b_bf⟩ := hx_rf hT g_qo_ln tt_1 (k := 6) (u := 18) rfl
  obtain ⟨bfL, n_b_bf⟩ : ∃ g : Nat → Int32, hl1.2.1 b_bf = g := ⟨_, rfl⟩
  obtain ⟨hBD, hDY⟩ := hkBD qo_ln b_df b_bf f_qo_ln f_b_df f_b_bf; rw [n_b_df, n_b_bf, f_o_ln] at hBD; rw [n_b_df, f_o_ln] at hDY
  have hBDm := hy_BD_c eb_df hBD
  have hDYm : hy_DY F_df ln.toInt.toNat := fun x hx => by rw [← eb_df x hx]; exact hDY x hx
  have sb_list := hLQ qw ql qc f_qw f_ql f_qc
  obtain ⟨m_lst, f_m_lst, g_m_lst⟩ := hx_rf hT gm tt_10 (k := 91) (u := 112) rfl
  obtain ⟨F_lst, n_lst⟩ : ∃ g : Nat → Int32, hl1.2.1 m_lst = g := ⟨_, rfl⟩
  obtain ⟨c_lst, cl_lst⟩ : ∃ g : Nat → Int32, hx_col 8 hl1 ql 0 = g := ⟨_, rfl⟩
  have eq_lst := hLE qw ql m_lst f_qw f_ql f_m_lst; rw [cl_lst, n_lst] at eq_lst
  obtain ⟨qtp, f_qtp, g_qtp⟩ := hx_rf hT gx tt_9 (k := 0) (u := 42) rfl
  obtain ⟨m_tp, f_m_tp, g_m_tp⟩ := hx_rf hT gm tt_10 (k := 6) (u := 53) rfl
  obtain ⟨F_tp, n_tp⟩ : ∃ g : Nat → Int32, hl1.2.1 m_tp = g := ⟨_, rfl⟩
  have n_qtp : hl1.2.1 qtp = F_tp := (hkTP qtp m_tp f_qtp f_m_tp).trans n_tp
  obtain ⟨c_dead, cl_dead⟩ : ∃ g : Nat → Int32, hx_col 40 hl1 qp 7 = g := ⟨_, rfl⟩
  obtain ⟨m_dead, f_m_dead, g_m_dead⟩ := hx_rf hT gm tt_10 (k := 27) (u := 64) rfl
  obtain ⟨F_dead, n_dead⟩ : ∃ g : Nat → Int32, hl1.2.1 m_dead = g := ⟨_, rfl⟩
  have eq_dead := hc_dead qp m_dead f_qp f_m_dead; rw [cl_dead, n_dead] at eq_dead
  have z_dead : np.toInt.toNat < 40 → c_dead np.toInt.toNat = 0 := fun hj => hx_num_z nu_qp cl_dead hj ?o0
  case o0 => omega
  obtain ⟨c_isj, cl_isj⟩ : ∃ g : Nat → Int32, hx_col 40 hl1 qp 8 = g := ⟨_, rfl⟩
  obtain ⟨m_isj, f_m_isj, g_m_isj⟩ := hx_rf hT gm tt_10 (k := 28) (u := 65) rfl
  obtain ⟨F_isj, n_isj⟩ : ∃ g : Nat → Int32, hl1.2.1 m_isj = g := ⟨_, rfl⟩
  have eq_isj := hc_isj qp m_isj f_qp f_m_isj; rw [cl_isj, n_isj] at eq_isj
  have z_isj : np.toInt.toNat < 40 → c_isj np.toInt.toNat = 0 := fun hj => hx_num_z nu_qp cl_isj hj ?o1
  case o1 => omega
  obtain ⟨c_dox, cl_dox⟩ : ∃ g : Nat → Int32, hx_col 40 hl1 qp 5 = g := ⟨_, rfl⟩
  obtain ⟨m_dox, f_m_dox, g_m_dox⟩ := hx_rf hT gm tt_10 (k := 24) (u := 61) rfl
  obtain ⟨F_dox, n_dox⟩ : ∃ g : Nat → Int32, hl1.2.1 m_dox = g := ⟨_, rfl⟩
  have eq_dox := hc_dox qp m_dox f_qp f_m_dox; rw [cl_dox, n_dox] at eq_dox
  have z_dox : np.toInt.toNat < 40 → c_dox np.toInt.toNat = 0 := fun hj => hx_num_z nu_qp cl_dox hj ?o2
  case o2 => omega
  obtain ⟨c_doy, cl_doy⟩ : ∃ g : Nat → Int32, hx_col 40 hl1 qp 6 = g := ⟨_, rfl⟩
  obtain ⟨m_doy, f_m_doy, g_m_doy⟩ := hx_rf hT gm tt_10 (k := 25) (u := 62) rfl
  obtain ⟨F_doy, n_doy⟩ : ∃ g : Nat → Int32, hl1.2.1 m_doy = g := ⟨_, rfl⟩
  have eq_doy := hc_doy qp m_doy f_qp f_m_doy; rw [cl_doy, n_doy] at eq_doy
  have z_doy : np.toInt.toNat < 40 → c_doy np.toInt.toNat = 0 := fun hj => hx_num_z nu_qp cl_doy hj ?o3
  case o3 => omega
  obtain ⟨c_fou, cl_fou⟩ : ∃ g : Nat → Int32, hx_col 100 hl1 qc 10 = g := ⟨_, rfl⟩
  have eq_fou := hc_fou qc m_fou f_qc f_m_fou; rw [cl_fou, n_m_fou] at eq_fou
  have z_fou : c0.toInt.toNat < 100 → c_fou c0.toInt.toNat = 0 := fun hj => hx_num_z nu_qc cl_fou hj ?o4
  case o4 => omega
  obtain ⟨c_tri, cl_tri⟩ : ∃ g : Nat → Int32, hx_col 100 hl1 qc 9 = g := ⟨_, rfl⟩
  have eq_tri := hc_tri qc mt f_qc f_mt; rw [cl_tri, n_mt] at eq_tri
  have z_tri : c0.toInt.toNat < 100 → c_tri c0.toInt.toNat = 0 := fun hj => hx_num_z nu_qc cl_tri hj ?o5
  case o5 => omega
  obtain ⟨qlt, f_qlt, g_qlt⟩ := hx_rf hT g_qw tt_8 (k := 2) (u := 39) rfl
  obtain ⟨qlf, f_qlf, g_qlf⟩ := hx_rf hT g_qw tt_8 (k := 4) (u := 41) rfl
  obtain ⟨m_wkd, f_m_wkd, g_m_wkd⟩ := hx_rf hT gm tt_10 (k := 93) (u := 113) rfl
  obtain ⟨F_qlt, n_qlt⟩ : ∃ g : Nat → Int32, hl1.2.1 qlt = g := ⟨_, rfl⟩
  obtain ⟨F_m_wkd, n_m_wkd⟩ : ∃ g : Nat → Int32, hl1.2.1 m_wkd = g := ⟨_, rfl⟩
  have eb_wkd := hkWD qw qlt m_wkd f_qw f_qlt f_m_wkd; rw [n_qlt, n_m_wkd, f_o_wkm] at eb_wkd
  obtain ⟨m_aga, f_m_aga, g_m_aga⟩ := hx_rf hT gm tt_10 (k := 38) (u := 73) rfl
  obtain ⟨F_aga, n_aga⟩ : ∃ g : Nat → Int32, hl1.2.1 m_aga = g := ⟨_, rfl⟩
  have hDF := hkDF qc qp m_aga f_qc f_qp f_m_aga; rw [n_aga, f_x_claimCount] at hDF
  obtain ⟨qwo, f_qwo, g_qwo⟩ := hx_rf hT gx tt_9 (k := 4) (u := 0) rfl
  obtain ⟨m_ad, f_m_ad, g_m_ad⟩ := hx_rf hT gm tt_10 (k := 2) (u := 49) rfl
  obtain ⟨F_ad, n_ad⟩ : ∃ g : Nat → Int32, hl1.2.1 m_ad = g := ⟨_, rfl⟩
  obtain ⟨A9, hRA9, hCA9, hAC9, hAB⟩ := hkAC qa qwo m_ad mr mn mp qc ml f_qa f_qwo f_m_ad f_mr f_mn f_mp f_qc f_ml
  rw [f_x_actCount] at hRA9; rw [f_x_actCount, n_ad, n_mr, n_mn, n_mp] at hCA9
  obtain ⟨m_by, f_m_by, g_m_by⟩ := hx_rf hT gm tt_10 (k := 37) (u := 72) rfl
  obtain ⟨F_by, n_by⟩ : ∃ g : Nat → Int32, hl1.2.1 m_by = g := ⟨_, rfl⟩
  obtain ⟨m_ho, f_m_ho, g_m_ho⟩ := hx_rf hT gm tt_10 (k := 58) (u := 92) rfl
  obtain ⟨F_ho, n_ho⟩ : ∃ g : Nat → Int32, hl1.2.1 m_ho = g := ⟨_, rfl⟩
  obtain ⟨m_fc, f_m_fc, g_m_fc⟩ := hx_rf hT gm tt_10 (k := 53) (u := 88) rfl
  obtain ⟨F_fc, n_fc⟩ : ∃ g : Nat → Int32, hl1.2.1 m_fc = g := ⟨_, rfl⟩
  obtain ⟨m_nt, f_m_nt, g_m_nt⟩ := hx_rf hT gm tt_10 (k := 41) (u := 76) rfl
  obtain ⟨F_nt, n_nt⟩ : ∃ g : Nat → Int32, hl1.2.1 m_nt = g := ⟨_, rfl⟩
  obtain ⟨m_wt, f_m_wt, g_m_wt⟩ := hx_rf hT gm tt_10 (k := 42) (u := 77) rfl
  obtain ⟨F_wt, n_wt⟩ : ∃ g : Nat → Int32, hl1.2.1 m_wt = g := ⟨_, rfl⟩
  obtain ⟨m_be, f_m_be, g_m_be⟩ := hx_rf hT gm tt_10 (k := 52) (u := 87) rfl
  obtain ⟨F_be, n_be⟩ : ∃ g : Nat → Int32, hl1.2.1 m_be = g := ⟨_, rfl⟩
  obtain ⟨m_bor, f_m_bor, g_m_bor⟩ := hx_rf hT gm tt_10 (k := 21) (u := 58) rfl
  obtain ⟨F_bor, n_bor⟩ : ∃ g : Nat → Int32, hl1.2.1 m_bor = g := ⟨_, rfl⟩
  obtain ⟨m_kin, f_m_kin, g_m_kin⟩ := hx_rf hT gm tt_10 (k := 26) (u := 63) rfl
  obtain ⟨F_kin, n_kin⟩ : ∃ g : Nat → Int32, hl1.2.1 m_kin = g := ⟨_, rfl⟩
  obtain ⟨m_sum, f_m_sum, g_m_sum⟩ := hx_rf hT gm tt_10 (k := 39) (u := 74) rfl
  obtain ⟨F_sum, n_sum⟩ : ∃ g : Nat → Int32, hl1.2.1 m_sum = g := ⟨_, rfl⟩
  obtain ⟨m_fro, f_m_fro, g_m_fro⟩ := hx_rf hT gm tt_10 (k := 40) (u := 75) rfl
  obtain ⟨F_fro, n_fro⟩ : ∃ g : Nat → Int32, hl1.2.1 m_fro = g := ⟨_, rfl⟩
  obtain ⟨m_fil, f_m_fil, g_m_fil⟩ := hx_rf hT gm tt_10 (k := 43) (u := 78) rfl
  obtain ⟨F_fil, n_fil⟩ : ∃ g : Nat → Int32, hl1.2.1 m_fil = g := ⟨_, rfl⟩
  obtain ⟨m_jud, f_m_jud, g_m_jud⟩ := hx_rf hT gm tt_10 (k := 51) (u := 86) rfl
  obtain ⟨F_jud, n_jud⟩ : ∃ g : Nat → Int32, hl1.2.1 m_jud = g := ⟨_, rfl⟩
  obtain ⟨m_ear, f_m_ear, g_m_ear⟩ := hx_rf hT gm tt_10 (k := 22) (u := 59) rfl
  obtain ⟨F_ear, n_ear⟩ : ∃ g : Nat → Int32, hl1.2.1 m_ear = g := ⟨_, rfl⟩
  obtain ⟨m_hds, f_m_hds, g_m_hds⟩ := hx_rf hT gm tt_10 (k := 23) (u := 60) rfl
  obtain ⟨F_hds, n_hds⟩ : ∃ g : Nat → Int32, hl1.2.1 m_hds = g := ⟨_, rfl⟩
  obtain ⟨m_ord, f_m_ord, g_m_ord⟩ := hx_rf hT gm tt_10 (k := 48) (u := 83) rfl
  obtain ⟨F_ord, n_ord⟩ : ∃ g : Nat → Int32, hl1.2.1 m_ord = g := ⟨_, rfl⟩
  obtain ⟨m_wkl, f_m_wkl, g_m_wkl⟩ := hx_rf hT gm tt_10 (k := 54) (u := 89) rfl
  obtain ⟨F_wkl, n_wkl⟩ : ∃ g : Nat → Int32, hl1.2.1 m_wkl = g := ⟨_, rfl⟩
  obtain ⟨m_owd, f_m_owd, g_m_owd⟩ := hx_rf hT gm tt_10 (k := 55) (u := 90) rfl
  obtain ⟨F_owd, n_owd⟩ : ∃ g : Nat → Int32, hl1.2.1 m_owd = g := ⟨_, rfl⟩
  obtain ⟨m_gds, f_m_gds, g_m_gds⟩ := hx_rf hT gm tt_10 (k := 56) (u := 91) rfl
  obtain ⟨F_gds, n_gds⟩ : ∃ g : Nat → Int32, hl1.2.1 m_gds = g := ⟨_, rfl⟩
  obtain ⟨m_szd, f_m_szd, g_m_szd⟩ := hx_rf hT gm tt_10 (k := 49) (u := 84) rfl
  obtain ⟨F_szd, n_szd⟩ : ∃ g : Nat → Int32, hl1.2.1 m_szd = g := ⟨_, rfl⟩
  obtain ⟨m_srv, f_m_srv, g_m_srv⟩ := hx_rf hT gm tt_10 (k := 50) (u := 85) rfl
  obtain ⟨F_srv, n_srv⟩ : ∃ g : Nat → Int32, hl1.2.1 m_srv = g := ⟨_, rfl⟩
  have cl_bor : hx_col 40 hl1 qp 1 = F_bor := (hf_bor qp m_bor f_qp f_m_bor).trans n_bor
  have cl_kin : hx_col 40 hl1 qp 2 = F_kin := (hf_kin qp m_kin f_qp f_m_kin).trans n_kin
  have cl_sum : hx_col 100 hl1 qc 6 = F_sum := (hf_sum qc m_sum f_qc f_m_sum).trans n_sum
  have cl_fro : hx_col 100 hl1 qc 7 = F_fro := (hf_fro qc m_fro f_qc f_m_fro).trans n_fro
  have cl_fil : hx_col 100 hl1 qc 8 = F_fil := (hf_fil qc m_fil f_qc f_m_fil).trans n_fil
  have cl_hea : hx_col 100 hl1 qc 11 = F_mh := (hf_hea qc mh f_qc f_mh).trans n_mh
  have cl_jud : hx_col 100 hl1 qc 12 = F_jud := (hf_jud qc m_jud f_qc f_m_jud).trans n_jud
  have cl_ear : hx_col 40 hl1 qp 3 = F_ear := (hf_ear qp m_ear f_qp f_m_ear).trans n_ear
  have cl_hds : hx_col 40 hl1 qp 4 = F_hds := (hf_hds qp m_hds f_qp f_m_hds).trans n_hds
  have cl_ord : hx_col 100 hl1 qc 13 = F_ord := (hf_ord qc m_ord f_qc f_m_ord).trans n_ord
  have cl_wkl : hx_col 100 hl1 qc 14 = F_wkl := (hf_wkl qc m_wkl f_qc f_m_wkl).trans n_wkl
  have cl_owd : hx_col 100 hl1 qc 15 = F_owd := (hf_owd qc m_owd f_qc f_m_owd).trans n_owd
  have cl_gds : hx_col 100 hl1 qc 17 = F_gds := (hf_gds qc m_gds f_qc f_m_gds).trans n_gds
  have cl_szd : hx_col 100 hl1 qc 16 = F_szd := (hf_szd qc m_szd f_qc f_m_szd).trans n_szd
  have cl_srv : hx_col 100 hl1 qc 18 = F_srv := (hf_srv qc m_srv f_qc f_m_srv).trans n_srv
  have htb9 : ∀ c, c < 100 → 0 ≤ (c_tri c).toInt ∧ (c_tri c).toInt ≤ 512 := fun c hc => by rw [eq_tri c hc]; have w := hT.ei g_mt tt_80 (k := c) hc; rw [n_mt] at w; exact w
  have z_jud : F_jud c0.toInt.toNat = 0 := hx_num_z2 nu_qc cl_jud ?o6
  case o6 => omega
  have hDP := hkDP qc qp m_by f_qc f_qp f_m_by; rw [n_by, f_x_claimCount] at hDP
  have hHL := hkHL qh qc m_ho f_qh f_qc f_m_ho; rw [n_ho, f_x_heardCount, f_x_claimCount] at hHL
  have hHO9 := hkHO m_ho mh f_m_ho f_mh; rw [n_ho, n_mh, f_m_heardMany, f_m_claims] at hHO9
  obtain ⟨cF9L, hFX, hFR9⟩ := hkFX qc m_fc m_nt m_wt m_sum mh f_qc f_m_fc f_m_nt f_m_wt f_m_sum f_mh; rw [f_x_claimCount] at hFX; rw [n_fc, n_nt, n_wt, n_sum, n_mh, f_x_claimCount] at hFR9
  have hBX := hkBX qc m_be f_qc f_m_be; rw [n_be, f_x_claimCount] at hBX
  rw [n_ml, f_x_claimCount] at hAC9
  obtain ⟨y_p0, f_y_p0, g_y_p0⟩ := hx_rf hT g_qo_py tt_3 (k := 2) (u := 23) rfl
  obtain ⟨m_p0, f_m_p0, g_m_p0⟩ := hx_rf hT gm tt_10 (k := 60) (u := 93) rfl
  obtain ⟨F_p0, n_p0⟩ : ∃ g : Nat → Int32, hl1.2.1 m_p0 = g := ⟨_, rfl⟩
  have n_y_p0 : hl1.2.1 y_p0 = F_p0 := (hkP0 qo_py y_p0 m_p0 f_qo_py f_y_p0 f_m_p0).trans n_p0
  obtain ⟨y_p1, f_y_p1, g_y_p1⟩ := hx_rf hT g_qo_py tt_3 (k := 3) (u := 24) rfl
  obtain ⟨m_p1, f_m_p1, g_m_p1⟩ := hx_rf hT gm tt_10 (k := 61) (u := 94) rfl
  obtain ⟨F_p1, n_p1⟩ : ∃ g : Nat → Int32, hl1.2.1 m_p1 = g := ⟨_, rfl⟩
  have n_y_p1 : hl1.2.1 y_p1 = F_p1 := (hkP1 qo_py y_p1 m_p1 f_qo_py f_y_p1 f_m_p1).trans n_p1
  obtain ⟨y_p2, f_y_p2, g_y_p2⟩ := hx_rf hT g_qo_py tt_3 (k := 5) (u := 26) rfl
  obtain ⟨m_p2, f_m_p2, g_m_p2⟩ := hx_rf hT gm tt_10 (k := 62) (u := 95) rfl
  obtain ⟨F_p2, n_p2⟩ : ∃ g : Nat → Int32, hl1.2.1 m_p2 = g := ⟨_, rfl⟩
  have n_y_p2 : hl1.2.1 y_p2 = F_p2 := (hkP2 qo_py y_p2 m_p2 f_qo_py f_y_p2 f_m_p2).trans n_p2
  obtain ⟨y_p3, f_y_p3, g_y_p3⟩ := hx_rf hT g_qo_py tt_3 (k := 4) (u := 25) rfl
  obtain ⟨m_p3, f_m_p3, g_m_p3⟩ := hx_rf hT gm tt_10 (k := 63) (u := 96) rfl
  obtain ⟨F_p3, n_p3⟩ : ∃ g : Nat → Int32, hl1.2.1 m_p3 = g := ⟨_, rfl⟩
  have n_y_p3 : hl1.2.1 y_p3 = F_p3 := (hkP3 qo_py y_p3 m_p3 f_qo_py f_y_p3 f_m_p3).trans n_p3
  obtain ⟨y_p4, f_y_p4, g_y_p4⟩ := hx_rf hT g_qo_py tt_3 (k := 1) (u := 22) rfl
  obtain ⟨m_p4, f_m_p4, g_m_p4⟩ := hx_rf hT gm tt_10 (k := 64) (u := 97) rfl
  obtain ⟨F_p4, n_p4⟩ : ∃ g : Nat → Int32, hl1.2.1 m_p4 = g := ⟨_, rfl⟩
  have n_y_p4 : hl1.2.1 y_p4 = F_p4 := (hkP4 qo_py y_p4 m_p4 f_qo_py f_y_p4 f_m_p4).trans n_p4
  obtain ⟨qrg9, f_qrg9, g_qrg9⟩ := hx_rf hT gx tt_9 (k := 18) (u := 7) rfl
  obtain ⟨y_ls, f_y_ls, g_y_ls⟩ := hx_rf hT g_qrg9 tt_7 (k := 3) (u := 35) rfl
  obtain ⟨m_rl, f_m_rl, g_m_rl⟩ := hx_rf hT gm tt_10 (k := 85) (u := 109) rfl
  obtain ⟨F_y_ls, n_y_ls⟩ : ∃ g : Nat → Int32, hl1.2.1 y_ls = g := ⟨_, rfl⟩
  obtain ⟨F_m_rl, n_m_rl⟩ : ∃ g : Nat → Int32, hl1.2.1 m_rl = g := ⟨_, rfl⟩
  obtain ⟨fv_589, efv_589⟩ : ∃ y : Int32, y = hl1.2.1 qrg9 0 := ⟨_, rfl⟩
  have bfv_589 := hT.gi g_qrg9 tt_7 (k := 0) rfl
  rw [← efv_589] at bfv_589
  have bfv_589 : -1 ≤ fv_589.toInt ∧ fv_589.toInt ≤ 100 := bfv_589
  have ffv_589 := efv_589.symm
  obtain ⟨fv_590, efv_590⟩ : ∃ y : Int32, y = hl1.2.1 am 83 := ⟨_, rfl⟩
  have bfv_590 := hT.gi gm tt_10 (k := 83) rfl
  rw [← efv_590] at bfv_590
  have bfv_590 : 0 ≤ fv_590.toInt ∧ fv_590.toInt ≤ 1 := bfv_590
  have ffv_590 := efv_590.symm
  obtain ⟨fv_591, efv_591⟩ : ∃ y : Int32, y = hl1.2.1 am 84 := ⟨_, rfl⟩
  have bfv_591 := hT.gi gm tt_10 (k := 84) rfl
  rw [← efv_591] at bfv_591
  have bfv_591 : 0 ≤ fv_591.toInt ∧ fv_591.toInt ≤ 300 := bfv_591
  have ffv_591 := efv_591.symm
  have hNQ9 := hkNQ qrg9 f_qrg9; rw [ffv_589, ffv_590, ffv_591] at hNQ9
  have hRL9 := hkRL qrg9 y_ls m_rl f_qrg9 f_y_ls f_m_rl; rw [n_y_ls, n_m_rl, ffv_589] at hRL9
  have hCB : hz_CB F_ord F_wkl F_owd F_szd F_gds F_srv := fun c hc => ⟨by have w := hT.ei g_m_ord tt_83 (k := c) (by omega); rw [n_ord] at w; exact w, by have w := hT.ei g_m_wkl tt_89 (k := c) (by omega); rw [n_wkl] at w; exact w, by have w := hT.ei g_m_owd tt_90 (k := c) (by omega); rw [n_owd] at w; exact w, by have w := hT.ei g_m_szd tt_84 (k := c) (by omega); rw [n_szd] at w; exact w, by have w := hT.ei g_m_gds tt_91 (k := c) (by omega); rw [n_gds] at w; exact w, by have w := hT.ei g_m_srv tt_85 (k := c) (by omega); rw [n_srv] at w; exact w⟩
  have hps : ∀ j, j < 600 → 0 ≤ (F_p2 j).toInt ∧ (F_p2 j).toInt ≤ 610000 := fun j hj => by have w := hT.ei g_m_p2 tt_95 (k := j) (by omega); rw [n_p2] at w; exact w
  have hte9 : ∀ c : Nat, c < 100 → (0 ≤ (c_tri c).toInt ∧ (c_tri c).toInt ≤ 512) ∧ (0 ≤ (F_sum c).toInt ∧ (F_sum c).toInt ≤ 9999) := fun c hc => ⟨htb9 c hc, by have w := hT.ei g_m_sum tt_74 (k := c) (by omega); rw [n_sum] at w; exact w⟩
  have hee9 : ∀ c : Nat, c < 40 → (0 ≤ (F_ear c).toInt ∧ (F_ear c).toInt ≤ 9999) ∧ (0 ≤ (F_hds c).toInt ∧ (F_hds c).toInt ≤ 20) := fun c hc => ⟨by have w := hT.ei g_m_ear tt_59 (k := c) (by omega); rw [n_ear] at w; exact w, by have w := hT.ei g_m_hds tt_60 (k := c) (by omega); rw [n_hds] at w; exact w⟩
  have bAG9 : ∀ k, k < 100 → 0 ≤ (F_aga k).toInt ∧ (F_aga k).toInt ≤ 39 := fun k hk => by have w := hT.ei g_m_aga tt_73 (k := k) (by omega); rw [n_aga] at w; exact w
  have bBY9 : ∀ k, k < 100 → 0 ≤ (F_by k).toInt ∧ (F_by k).toInt ≤ 39 := fun k hk => by have w := hT.ei g_m_by tt_72 (k := k) (by omega); rw [n_by] at w; exact w
  have hag9 : ∀ c, c < c0.toInt.toNat → 0 ≤ (F_aga c).toInt ∧ (F_aga c).toInt < 40 ∧ 0 ≤ (F_by c).toInt ∧ (F_by c).toInt < 40 := fun c hc => by have a9 := bAG9 c (by omega); have b9 := bBY9 c (by omega); omega
  have z_wkl : F_wkl c0.toInt.toNat = 0 := hx_num_z2 nu_qc cl_wkl ?o7
  case o7 => omega
  have z_owd : F_owd c0.toInt.toNat = 0 := hx_num_z2 nu_qc cl_owd ?o8
  case o8 => omega
  have z_gds : F_gds c0.toInt.toNat = 0 := hx_num_z2 nu_qc cl_gds ?o9
  case o9 => omega
  have hwd := jw mw f_mw; rw [n_mw] at hwd
  have hWK := jr mr f_mr; rw [n_mr, f_m_acts] at hWK
  have hRP := jp mp mn f_mp f_mn; rw [n_mp, n_mn, f_m_acts] at hRP
  have hPL := jl ml f_ml; rw [n_ml, f_m_claims, f_m_acts] at hPL
  have hHC := jh mh f_mh; rw [n_mh, f_m_heardMany, f_m_claims] at hHC
  have hTR := jt mt f_mt; rw [n_mt] at hTR
  have hHF := jf mh m_fou f_mh f_m_fou; rw [n_mh, n_m_fou, f_m_claims] at hHF
  refine lv_aload_n hx hb dL_law_964 rfl (lv_at hl 2 rfl) ?_
  refine lv_aload_n hx hb dL_law_965 rfl (lv_at hl 3 rfl) ?_
  refine lv_iload_n hx hb dL_law_966 rfl (lv_at hl 0 rfl) ?_
  refine lv_iconst (v := 1) hx hb dL_law_967 ?o10 ?_
  case o10 => decide
  refine lv_iadd hx hb dL_law_968 ?_
  have rg_592 := i32_r i
  refine lv_topi (fun x_593 ex_593 => ?_)
  have zx_593 : x_593.toInt = i.toInt + 1 := ?o11
  case o11 =>
    rw [ex_593]
    refine i32_add rfl ?o12 ?o13 ?o14
    case o12 => decide
    case o13 => omega
    case o14 => omega
  refine va_sld hx hb hX hbl hbA hW.2.2.2.1 (vp_in_iff.mpr ⟨?o15, ?o16⟩) dL_law_969 ?_
  case o15 => omega
  case o16 => omega
  refine lv_topi (fun x_594 ex_594 => ?_)
  have hTo := hT
  refine hx_goi (hx_runV (As := [.int x_594]) (rest := []) ⟨hx, hb, hml, hown, hts⟩ hW gx tt_9 (T := TX9) (N := 20) rfl (t_X9_strike_v l dC dI dA L1 hl1 H.size ax x_594 hT gx qo_py g_qo_py f_qo_py y_p4 g_y_p4 f_y_p4 F_p4 n_y_p4 nw f_x_now py f_o_py) (cwV 1 hts (hx_gV kw_899 kw_896 kw_897 kw_898 kw_94) rfl rfl rfl (by decide +kernel) ⟨Nat.le_of_ble_eq_true rfl, Nat.le_of_ble_eq_true rfl⟩) rfl hl.1 rfl (Nat.le_of_ble_eq_true rfl) dL_law_970 ⟨(show CC + 0 ≤ 600000 from ?o17), (show SS + 0 ≤ 7302250 from ?o18)⟩) hW (fun r_597 L_595 h_596 H locs p_598 hW => ?_)
  case o17 => omega
  case o18 => omega
  obtain ⟨⟨w_600, fw_600, hr_599⟩, hT, hs⟩ := p_598
  replace hT : hx_T T_tb L_595 h_596 := hT
  replace hs : hx_S T_tb [(22, 0)] L1 hl1 L_595 h_596 := hs
  replace f_qa := (hs.o gx trivial rfl).2.trans f_qa
  replace f_qp := (hs.o gx trivial rfl).2.trans f_qp
  replace f_qc := (hs.o gx trivial rfl).2.trans f_qc
  replace f_qh := (hs.o gx trivial rfl).2.trans f_qh
  replace f_qw := (hs.o gx trivial rfl).2.trans f_qw
  replace f_ql := (hs.o g_qw trivial rfl).2.trans f_ql
  replace f_m_now := (hs.o gm trivial rfl).1.trans f_m_now
  replace f_m_persons := (hs.o gm trivial rfl).1.trans f_m_persons
  replace f_m_claims := (hs.o gm trivial rfl).1.trans f_m_claims
  replace f_m_taped := (hs.o gm trivial rfl).1.trans f_m_taped
  replace f_m_acts := (hs.o gm trivial rfl).1.trans f_m_acts
  replace f_m_heardMany := (hs.o gm trivial rfl).1.trans f_m_heardMany
  replace f_m_lines := (hs.o gm trivial rfl).1.trans f_m_lines
  replace f_m_listed := (hs.o gm trivial rfl).1.trans f_m_listed
  replace f_m_walkedMany := (hs.o gm trivial rfl).1.trans f_m_walkedMany
  replace f_m_payments := (hs.o gm trivial rfl).1.trans f_m_payments
  replace f_x_now := (hs.o gx trivial rfl).1.trans f_x_now
  replace f_x_personCount := (hs.o gx trivial rfl).1.trans f_x_personCount
  replace f_x_claimCount := (hs.o gx trivial rfl).1.trans f_x_claimCount
  replace f_x_tapeLength := (hs.o gx trivial rfl).1.trans f_x_tapeLength
  replace f_x_actCount := (hs.o gx trivial rfl).1.trans f_x_actCount
  replace f_x_heardCount := (hs.o gx trivial rfl).1.trans f_x_heardCount
  replace f_mw := (hs.o gm trivial rfl).2.trans f_mw
  replace f_mr := (hs.o gm trivial rfl).2.trans f_mr
  replace f_mp := (hs.o gm trivial rfl).2.trans f_mp
  replace f_mn := (hs.o gm trivial rfl).2.trans f_mn
  replace f_ml := (hs.o gm trivial rfl).2.trans f_ml
  replace f_mh := (hs.o gm trivial rfl).2.trans f_mh
  replace f_mt := (hs.o gm trivial rfl).2.trans f_mt
  replace f_m_fou := (hs.o gm trivial rfl).2.trans f_m_fou
  replace f_qo_ln := (hs.o gx trivial rfl).2.trans f_qo_ln
  replace f_o_ln := (hs.o g_qo_ln trivial rfl).1.trans f_o_ln
  replace f_o_lsd := (hs.o g_qw trivial rfl).1.trans f_o_lsd
  replace f_o_wkm := (hs.o g_qw trivial rfl).1.trans f_o_wkm
  replace f_qo_py := (hs.o gx trivial rfl).2.trans f_qo_py
  replace f_o_py := (hs.o g_qo_py trivial rfl).1.trans f_o_py
  replace f_b_of := (hs.o g_qo_ln trivial rfl).2.trans f_b_of
  replace f_m_of := (hs.o gm trivial rfl).2.trans f_m_of
  replace f_b_wf := (hs.o g_qo_ln trivial rfl).2.trans f_b_wf
  replace f_m_wf := (hs.o gm trivial rfl).2.trans f_m_wf
  replace f_b_df := (hs.o g_qo_ln trivial rfl).2.trans f_b_df
  replace f_m_df := (hs.o gm trivial rfl).2.trans f_m_df
  replace f_b_kf := (hs.o g_qo_ln trivial rfl).2.trans f_b_kf
  replace f_m_kf := (hs.o gm trivial rfl).2.trans f_m_kf
  replace f_b_sf := (hs.o g_qo_ln trivial rfl).2.trans f_b_sf
  replace f_m_sf := (hs.o gm trivial rfl).2.trans f_m_sf
  replace f_b_bf := (hs.o g_qo_ln trivial rfl).2.trans f_b_bf
  replace f_m_lst := (hs.o gm trivial rfl).2.trans f_m_lst
  replace f_qtp := (hs.o gx trivial rfl).2.trans f_qtp
  replace f_m_tp := (hs.o gm trivial rfl).2.trans f_m_tp
  replace f_m_dead := (hs.o gm trivial rfl).2.trans f_m_dead
  replace f_m_isj := (hs.o gm trivial rfl).2.trans f_m_isj
  replace f_m_dox := (hs.o gm trivial rfl).2.trans f_m_dox
  replace f_m_doy := (hs.o gm trivial rfl).2.trans f_m_doy
  replace f_qlt := (hs.o g_qw trivial rfl).2.trans f_qlt
  replace f_qlf := (hs.o g_qw trivial rfl).2.trans f_qlf
  replace f_m_wkd := (hs.o gm trivial rfl).2.trans f_m_wkd
  replace f_m_aga := (hs.o gm trivial rfl).2.trans f_m_aga
  replace f_qwo := (hs.o gx trivial rfl).2.trans f_qwo
  replace f_m_ad := (hs.o gm trivial rfl).2.trans f_m_ad
  replace f_m_by := (hs.o gm trivial rfl).2.trans f_m_by
  replace f_m_ho := (hs.o gm trivial rfl).2.trans f_m_ho
  replace f_m_fc := (hs.o gm trivial rfl).2.trans f_m_fc
  replace f_m_nt := (hs.o gm trivial rfl).2.trans f_m_nt
  replace f_m_wt := (hs.o gm trivial rfl).2.trans f_m_wt
  replace f_m_be := (hs.o gm trivial rfl).2.trans f_m_be
  replace f_m_bor := (hs.o gm trivial rfl).2.trans f_m_bor
  replace f_m_kin := (hs.o gm trivial rfl).2.trans f_m_kin
  replace f_m_sum := (hs.o gm trivial rfl).2.trans f_m_sum
  replace f_m_fro := (hs.o gm trivial rfl).2.trans f_m_fro
  replace f_m_fil := (hs.o gm trivial rfl).2.trans f_m_fil
  replace f_m_jud := (hs.o gm trivial rfl).2.trans f_m_jud
  replace f_m_ear := (hs.o gm trivial rfl).2.trans f_m_ear
  replace f_m_hds := (hs.o gm trivial rfl).2.trans f_m_hds
  replace f_m_ord := (hs.o gm trivial rfl).2.trans f_m_ord
  replace f_m_wkl := (hs.o gm trivial rfl).2.trans f_m_wkl
  replace f_m_owd := (hs.o gm trivial rfl).2.trans f_m_owd
  replace f_m_gds := (hs.o gm trivial rfl).2.trans f_m_gds
  replace f_m_szd := (hs.o gm trivial rfl).2.trans f_m_szd
  replace f_m_srv := (hs.o gm trivial rfl).2.trans f_m_srv
  replace f_y_p0 := (hs.o g_qo_py trivial rfl).2.trans f_y_p0
  replace f_m_p0 := (hs.o gm trivial rfl).2.trans f_m_p0
  replace f_y_p1 := (hs.o g_qo_py trivial rfl).2.trans f_y_p1
  replace f_m_p1 := (hs.o gm trivial rfl).2.trans f_m_p1
  replace f_y_p2 := (hs.o g_qo_py trivial rfl).2.trans f_y_p2
  replace f_m_p2 := (hs.o gm trivial rfl).2.trans f_m_p2
  replace f_y_p3 := (hs.o g_qo_py trivial rfl).2.trans f_y_p3
  replace f_m_p3 := (hs.o gm trivial rfl).2.trans f_m_p3
  replace f_y_p4 := (hs.o g_qo_py trivial rfl).2.trans f_y_p4
  replace f_m_p4 := (hs.o gm trivial rfl).2.trans f_m_p4
  replace f_qrg9 := (hs.o gx trivial rfl).2.trans f_qrg9
  replace f_y_ls := (hs.o g_qrg9 trivial rfl).2.trans f_y_ls
  replace f_m_rl := (hs.o gm trivial rfl).2.trans f_m_rl
  replace ffv_589 := (hs.o g_qrg9 trivial rfl).1.trans ffv_589
  replace ffv_590 := (hs.o gm trivial rfl).1.trans ffv_590
  replace ffv_591 := (hs.o gm trivial rfl).1.trans ffv_591
  replace pf_qa : ∀ j : Nat, (j : Int) < (h_596.2.1 ax 6).toInt → h_596.2.2 qa j ≠ none := by
    intro j hj; rw [(hs.o gx trivial rfl).1] at hj; rw [(hs.a g_qa rfl j).2]; exact pf_qa j hj
  replace pf_qp : ∀ j : Nat, (j : Int) < (h_596.2.1 ax 8).toInt → h_596.2.2 qp j ≠ none := by
    intro j hj; rw [(hs.o gx trivial rfl).1] at hj; rw [(hs.a g_qp rfl j).2]; exact pf_qp j hj
  replace pf_qc : ∀ j : Nat, (j : Int) < (h_596.2.1 ax 11).toInt → h_596.2.2 qc j ≠ none := by
    intro j hj; rw [(hs.o gx trivial rfl).1] at hj; rw [(hs.a g_qc rfl j).2]; exact pf_qc j hj
  replace pf_qh : ∀ j : Nat, (j : Int) < (h_596.2.1 ax 13).toInt → h_596.2.2 qh j ≠ none := by
    intro j hj; rw [(hs.o gx trivial rfl).1] at hj; rw [(hs.a g_qh rfl j).2]; exact pf_qh j hj
  replace pf_ql : ∀ j : Nat, (j : Int) < (h_596.2.1 qw 0).toInt → h_596.2.2 ql j ≠ none := by
    intro j hj; rw [(hs.o g_qw trivial rfl).1] at hj; rw [(hs.a g_ql rfl j).2]; exact pf_ql j hj
  replace cl_lst : hx_col 8 h_596 ql 0 = c_lst := (hx_col_S hs hTo g_ql tt_40 tt_2 rfl rfl).trans cl_lst
  replace cl_dead : hx_col 40 h_596 qp 7 = c_dead := (hx_col_S hs hTo g_qp tt_44 tt_4 rfl rfl).trans cl_dead
  replace cl_isj : hx_col 40 h_596 qp 8 = c_isj := (hx_col_S hs hTo g_qp tt_44 tt_4 rfl rfl).trans cl_isj
  replace cl_dox : hx_col 40 h_596 qp 5 = c_dox := (hx_col_S hs hTo g_qp tt_44 tt_4 rfl rfl).trans cl_dox
  replace cl_doy : hx_col 40 h_596 qp 6 = c_doy := (hx_col_S hs hTo g_qp tt_44 tt_4 rfl rfl).trans cl_doy
  replace cl_fou : hx_col 100 h_596 qc 10 = c_fou := (hx_col_S hs hTo g_qc tt_45 tt_2 rfl rfl).trans cl_fou
  replace cl_tri : hx_col 100 h_596 qc 9 = c_tri := (hx_col_S hs hTo g_qc tt_45 tt_2 rfl rfl).trans cl_tri
  replace cl_bor : hx_col 40 h_596 qp 1 = F_bor := (hx_col_S hs hTo g_qp tt_44 tt_4 rfl rfl).trans cl_bor
  replace cl_kin : hx_col 40 h_596 qp 2 = F_kin := (hx_col_S hs hTo g_qp tt_44 tt_4 rfl rfl).trans cl_kin
  replace cl_sum : hx_col 100 h_596 qc 6 = F_sum := (hx_col_S hs hTo g_qc tt_45 tt_2 rfl rfl).trans cl_sum
  replace cl_fro : hx_col 100 h_596 qc 7 = F_fro := (hx_col_S hs hTo g_qc tt_45 tt_2 rfl rfl).trans cl_fro
  replace cl_fil : hx_col 100 h_596 qc 8 = F_fil := (hx_col_S hs hTo g_qc tt_45 tt_2 rfl rfl).trans cl_fil
  replace cl_hea : hx_col 100 h_596 qc 11 = F_mh := (hx_col_S hs hTo g_qc tt_45 tt_2 rfl rfl).trans cl_hea
  replace cl_jud : hx_col 100 h_596 qc 12 = F_jud := (hx_col_S hs hTo g_qc tt_45 tt_2 rfl rfl).trans cl_jud
  replace cl_ear : hx_col 40 h_596 qp 3 = F_ear := (hx_col_S hs hTo g_qp tt_44 tt_4 rfl rfl).trans cl_ear
  replace cl_hds : hx_col 40 h_596 qp 4 = F_hds := (hx_col_S hs hTo g_qp tt_44 tt_4 rfl rfl).trans cl_hds
  replace cl_ord : hx_col 100 h_596 qc 13 = F_ord := (hx_col_S hs hTo g_qc tt_45 tt_2 rfl rfl).trans cl_ord
  replace cl_wkl : hx_col 100 h_596 qc 14 = F_wkl := (hx_col_S hs hTo g_qc tt_45 tt_2 rfl rfl).trans cl_wkl
  replace cl_owd : hx_col 100 h_596 qc 15 = F_owd := (hx_col_S hs hTo g_qc tt_45 tt_2 rfl rfl).trans cl_owd
  replace cl_gds : hx_col 100 h_596 qc 17 = F_gds := (hx_col_S hs hTo g_qc tt_45 tt_2 rfl rfl).trans cl_gds
  replace cl_szd : hx_col 100 h_596 qc 16 = F_szd := (hx_col_S hs hTo g_qc tt_45 tt_2 rfl rfl).trans cl_szd
  replace cl_srv : hx_col 100 h_596 qc 18 = F_srv := (hx_col_S hs hTo g_qc tt_45 tt_2 rfl rfl).trans cl_srv
  replace nu_qp : hx_num 40 h_596 qp 0 (np.toInt) := hx_num_S hs hTo g_qp tt_44 tt_4 rfl rfl nu_qp
  replace nu_qc : hx_num 100 h_596 qc 0 (c0.toInt) := hx_num_S hs hTo g_qc tt_45 tt_2 rfl rfl nu_qc
  replace sb_list : hx_LQ 8 100 h_596 ql qc := hx_LQ_S hs g_ql g_qc rfl rfl sb_list
  replace hDF : hw_DF h_596 qc qp 2 F_aga c0.toInt := hw_DF_S hs hTo g_qc g_qp tt_45 tt_2 rfl rfl rfl hDF
  replace hRA9 : hv_RA h_596 qa qwo a0.toInt A9 := hv_RA_S hs hTo g_qa g_qwo tt_43 tt_0 rfl rfl rfl rfl rfl rfl ?o19 hRA9
  case o19 => omega
  replace hDP : hw_DF h_596 qc qp 1 F_by c0.toInt := hw_DF_S hs hTo g_qc g_qp tt_45 tt_2 rfl rfl rfl hDP
  replace hAC9 : hv_AC h_596 qc F_ml c0.toInt A9 := hv_AC_S hs hTo g_qc tt_45 tt_2 rfl tt_0 rfl rfl rfl rfl rfl rfl rfl hAC9
  replace hFX : hv_FX 8 4 h_596 qc cF9L c0.toInt := hv_FX_S hs hTo g_qc tt_45 tt_2 rfl rfl rfl rfl hFX
  replace hBX : hv_FX 3 5 h_596 qc F_be c0.toInt := hv_FX_S hs hTo g_qc tt_45 tt_2 rfl rfl rfl rfl hBX
  replace hHL : hv_HL h_596 qh qc F_ho m0.toInt c0.toInt := hv_HL_S hs g_qh g_qc rfl rfl hHL
  replace n_mw : h_596.2.1 mw = F_mw := (funext fun j => (hs.a g_mw rfl j).1).trans n_mw
  replace n_mr : h_596.2.1 mr = F_mr := (funext fun j => (hs.a g_mr rfl j).1).trans n_mr
  replace n_mp : h_596.2.1 mp = F_mp := (funext fun j => (hs.a g_mp rfl j).1).trans n_mp
  replace n_mn : h_596.2.1 mn = F_mn := (funext fun j => (hs.a g_mn rfl j).1).trans n_mn
  replace n_ml : h_596.2.1 ml = F_ml := (funext fun j => (hs.a g_ml rfl j).1).trans n_ml
  replace n_mh : h_596.2.1 mh = F_mh := (funext fun j => (hs.a g_mh rfl j).1).trans n_mh
  replace n_mt : h_596.2.1 mt = F_mt := (funext fun j => (hs.a g_mt rfl j).1).trans n_mt
  replace n_m_fou : h_596.2.1 m_fou = F_m_fou := (funext fun j => (hs.a g_m_fou rfl j).1).trans n_m_fou
  replace n_b_of : h_596.2.1 b_of = B_of := (funext fun j => (hs.a g_b_of rfl j).1).trans n_b_of
  replace n_m_of : h_596.2.1 m_of = F_of := (funext fun j => (hs.a g_m_of rfl j).1).trans n_m_of
  replace n_b_wf : h_596.2.1 b_wf = B_wf := (funext fun j => (hs.a g_b_wf rfl j).1).trans n_b_wf
  replace n_m_wf : h_596.2.1 m_wf = F_wf := (funext fun j => (hs.a g_m_wf rfl j).1).trans n_m_wf
  replace n_b_df : h_596.2.1 b_df = B_df := (funext fun j => (hs.a g_b_df rfl j).1).trans n_b_df
  replace n_m_df : h_596.2.1 m_df = F_df := (funext fun j => (hs.a g_m_df rfl j).1).trans n_m_df
  replace n_b_kf : h_596.2.1 b_kf = B_kf := (funext fun j => (hs.a g_b_kf rfl j).1).trans n_b_kf
  replace n_m_kf : h_596.2.1 m_kf = F_kf := (funext fun j => (hs.a g_m_kf rfl j).1).trans n_m_kf
  replace n_b_sf : h_596.2.1 b_sf = B_sf := (funext fun j => (hs.a g_b_sf rfl j).1).trans n_b_sf
  replace n_m_sf : h_596.2.1 m_sf = F_sf := (funext fun j => (hs.a g_m_sf rfl j).1).trans n_m_sf
  replace n_b_bf : h_596.2.1 b_bf = bfL := (funext fun j => (hs.a g_b_bf rfl j).1).trans n_b_bf
  replace n_lst : h_596.2.1 m_lst = F_lst := (funext fun j => (hs.a g_m_lst rfl j).1).trans n_lst
  replace n_tp : h_596.2.1 m_tp = F_tp := (funext fun j => (hs.a g_m_tp rfl j).1).trans n_tp
  replace n_qtp : h_596.2.1 qtp = F_tp := (funext fun j => (hs.a g_qtp rfl j).1).trans n_qtp
  replace n_dead : h_596.2.1 m_dead = F_dead := (funext fun j => (hs.a g_m_dead rfl j).1).trans n_dead
  replace n_isj : h_596.2.1 m_isj = F_isj := (funext fun j => (hs.a g_m_isj rfl j).1).trans n_isj
  replace n_dox : h_596.2.1 m_dox = F_dox := (funext fun j => (hs.a g_m_dox rfl j).1).trans n_dox
  replace n_doy : h_596.2.1 m_doy = F_doy := (funext fun j => (hs.a g_m_doy rfl j).1).trans n_doy
  replace n_qlt : h_596.2.1 qlt = F_qlt := (funext fun j => (hs.a g_qlt rfl j).1).trans n_qlt
  replace n_m_wkd : h_596.2.1 m_wkd = F_m_wkd := (funext fun j => (hs.a g_m_wkd rfl j).1).trans n_m_wkd
  replace n_aga : h_596.2.1 m_aga = F_aga := (funext fun j => (hs.a g_m_aga rfl j).1).trans n_aga
  replace n_ad : h_596.2.1 m_ad = F_ad := (funext fun j => (hs.a g_m_ad rfl j).1).trans n_ad
  replace n_by : h_596.2.1 m_by = F_by := (funext fun j => (hs.a g_m_by rfl j).1).trans n_by
  replace n_ho : h_596.2.1 m_ho = F_ho := (funext fun j => (hs.a g_m_ho rfl j).1).trans n_ho
  replace n_fc : h_596.2.1 m_fc = F_fc := (funext fun j => (hs.a g_m_fc rfl j).1).trans n_fc
  replace n_nt : h_596.2.1 m_nt = F_nt := (funext fun j => (hs.a g_m_nt rfl j).1).trans n_nt
  replace n_wt : h_596.2.1 m_wt = F_wt := (funext fun j => (hs.a g_m_wt rfl j).1).trans n_wt
  replace n_be : h_596.2.1 m_be = F_be := (funext fun j => (hs.a g_m_be rfl j).1).trans n_be
  replace n_bor : h_596.2.1 m_bor = F_bor := (funext fun j => (hs.a g_m_bor rfl j).1).trans n_bor
  replace n_kin : h_596.2.1 m_kin = F_kin := (funext fun j => (hs.a g_m_kin rfl j).1).trans n_kin
  replace n_sum : h_596.2.1 m_sum = F_sum := (funext fun j => (hs.a g_m_sum rfl j).1).trans n_sum
  replace n_fro : h_596.2.1 m_fro = F_fro := (funext fun j => (hs.a g_m_fro rfl j).1).trans n_fro
  replace n_fil : h_596.2.1 m_fil = F_fil := (funext fun j => (hs.a g_m_fil rfl j).1).trans n_fil
  replace n_jud : h_596.2.1 m_jud = F_jud := (funext fun j => (hs.a g_m_jud rfl j).1).trans n_jud
  replace n_ear : h_596.2.1 m_ear = F_ear := (funext fun j => (hs.a g_m_ear rfl j).1).trans n_ear
  replace n_hds : h_596.2.1 m_hds = F_hds := (funext fun j => (hs.a g_m_hds rfl j).1).trans n_hds
  replace n_ord : h_596.2.1 m_ord = F_ord := (funext fun j => (hs.a g_m_ord rfl j).1).trans n_ord
  replace n_wkl : h_596.2.1 m_wkl = F_wkl := (funext fun j => (hs.a g_m_wkl rfl j).1).trans n_wkl
  replace n_owd : h_596.2.1 m_owd = F_owd := (funext fun j => (hs.a g_m_owd rfl j).1).trans n_owd
  replace n_gds : h_596.2.1 m_gds = F_gds := (funext fun j => (hs.a g_m_gds rfl j).1).trans n_gds
  replace n_szd : h_596.2.1 m_szd = F_szd := (funext fun j => (hs.a g_m_szd rfl j).1).trans n_szd
  replace n_srv : h_596.2.1 m_srv = F_srv := (funext fun j => (hs.a g_m_srv rfl j).1).trans n_srv
  replace n_p0 : h_596.2.1 m_p0 = F_p0 := (funext fun j => (hs.a g_m_p0 rfl j).1).trans n_p0
  replace n_y_p0 : h_596.2.1 y_p0 = F_p0 := (funext fun j => (hs.a g_y_p0 rfl j).1).trans n_y_p0
  replace n_p1 : h_596.2.1 m_p1 = F_p1 := (funext fun j => (hs.a g_m_p1 rfl j).1).trans n_p1
  replace n_y_p1 : h_596.2.1 y_p1 = F_p1 := (funext fun j => (hs.a g_y_p1 rfl j).1).trans n_y_p1
  replace n_p2 : h_596.2.1 m_p2 = F_p2 := (funext fun j => (hs.a g_m_p2 rfl j).1).trans n_p2
  replace n_y_p2 : h_596.2.1 y_p2 = F_p2 := (funext fun j => (hs.a g_y_p2 rfl j).1).trans n_y_p2
  replace n_p3 : h_596.2.1 m_p3 = F_p3 := (funext fun j => (hs.a g_m_p3 rfl j).1).trans n_p3
  replace n_y_p3 : h_596.2.1 y_p3 = F_p3 := (funext fun j => (hs.a g_y_p3 rfl j).1).trans n_y_p3
  replace n_p4 : h_596.2.1 m_p4 = F_p4 := (funext fun j => (hs.a g_m_p4 rfl j).1).trans n_p4
  replace n_y_ls : h_596.2.1 y_ls = F_y_ls := (funext fun j => (hs.a g_y_ls rfl j).1).trans n_y_ls
  replace n_m_rl : h_596.2.1 m_rl = F_m_rl := (funext fun j => (hs.a g_m_rl rfl j).1).trans n_m_rl
  replace gx := gx.S hs
  replace gm := gm.S hs
  replace g_qa := g_qa.S hs
  replace g_qp := g_qp.S hs
  replace g_qc := g_qc.S hs
  replace g_qh := g_qh.S hs
  replace g_qw := g_qw.S hs
  replace g_ql := g_ql.S hs
  replace g_mw := g_mw.S hs
  replace g_mr := g_mr.S hs
  replace g_mp := g_mp.S hs
  replace g_mn := g_mn.S hs
  replace g_ml := g_ml.S hs
  replace g_mh := g_mh.S hs
  replace g_mt := g_mt.S hs
  replace g_m_fou := g_m_fou.S hs
  replace g_qo_ln := g_qo_ln.S hs
  replace g_qo_py := g_qo_py.S hs
  replace g_b_of := g_b_of.S hs
  replace g_m_of := g_m_of.S hs
  replace g_b_wf := g_b_wf.S hs
  replace g_m_wf := g_m_wf.S hs
  replace g_b_df := g_b_df.S hs
  replace g_m_df := g_m_df.S hs
  replace g_b_kf := g_b_kf.S hs
  replace g_m_kf := g_m_kf.S hs
  replace g_b_sf := g_b_sf.S hs
  replace g_m_sf := g_m_sf.S hs
  replace g_b_bf := g_b_bf.S hs
  replace g_m_lst := g_m_lst.S hs
  replace g_qtp := g_qtp.S hs
  replace g_m_tp := g_m_tp.S hs
  replace g_m_dead := g_m_dead.S hs
  replace g_m_isj := g_m_isj.S hs
  replace g_m_dox := g_m_dox.S hs
  replace g_m_doy := g_m_doy.S hs
  replace g_qlt := g_qlt.S hs
  replace g_qlf := g_qlf.S hs
  replace g_m_wkd := g_m_wkd.S hs
  replace g_m_aga := g_m_aga.S hs
  replace g_qwo := g_qwo.S hs
  replace g_m_ad := g_m_ad.S hs
  replace g_m_by := g_m_by.S hs
  replace g_m_ho := g_m_ho.S hs
  replace g_m_fc := g_m_fc.S hs
  replace g_m_nt := g_m_nt.S hs
  replace g_m_wt := g_m_wt.S hs
  replace g_m_be := g_m_be.S hs
  replace g_m_bor := g_m_bor.S hs
  replace g_m_kin := g_m_kin.S hs
  replace g_m_sum := g_m_sum.S hs
  replace g_m_fro := g_m_fro.S hs
  replace g_m_fil := g_m_fil.S hs
  replace g_m_jud := g_m_jud.S hs
  replace g_m_ear := g_m_ear.S hs
  replace g_m_hds := g_m_hds.S hs
  replace g_m_ord := g_m_ord.S hs
  replace g_m_wkl := g_m_wkl.S hs
  replace g_m_owd := g_m_owd.S hs
  replace g_m_gds := g_m_gds.S hs
  replace g_m_szd := g_m_szd.S hs
  replace g_m_srv := g_m_srv.S hs
  replace g_y_p0 := g_y_p0.S hs
  replace g_m_p0 := g_m_p0.S hs
  replace g_y_p1 := g_y_p1.S hs
  replace g_m_p1 := g_m_p1.S hs
  replace g_y_p2 := g_y_p2.S hs
  replace g_m_p2 := g_m_p2.S hs
  replace g_y_p3 := g_y_p3.S hs
  replace g_m_p3 := g_m_p3.S hs
  replace g_y_p4 := g_y_p4.S hs
  replace g_m_p4 := g_m_p4.S hs
  replace g_qrg9 := g_qrg9.S hs
  replace g_y_ls := g_y_ls.S hs
  replace g_m_rl := g_m_rl.S hs
  have fw_600 : h_596.2.1 y_p4 = w_600 := fw_600
  refine lv_pop hx hb dL_law_973 rfl ?_
  refine lv_aload_n hx hb dL_law_974 rfl (lv_at hl 1 rfl) ?_
  refine lv_aload_n hx hb dL_law_975 rfl (lv_at hl 3 rfl) ?_
  refine lv_iload_n hx hb dL_law_976 rfl (lv_at hl 0 rfl) ?_
  refine lv_iconst (v := 1) hx hb dL_law_977 ?o20 ?_
  case o20 => decide
  refine lv_iadd hx hb dL_law_978 ?_
  refine lv_topi (fun x_601 ex_601 => ?_)
  have zx_601 : x_601.toInt = i.toInt + 1 := ?o21
  case o21 =>
    rw [ex_601]
    refine i32_add rfl ?o22 ?o23 ?o24
    case o22 => decide
    case o23 => omega
    case o24 => omega
  obtain rfl : x_593 = x_601 := ex_593.trans ex_601.symm
  refine va_sld hx hb hX hbl hbA hW.2.2.2.1 (vp_in_iff.mpr ⟨?o25, ?o26⟩) dL_law_979 ?_
  case o25 => omega
  case o26 => omega
  refine lv_topi (fun x_602 ex_602 => ?_)
  obtain rfl : x_594 = x_602 := ex_594.trans ex_602.symm
  have hTo := hT
  refine hx_goi (hx_runV (As := [.int x_594]) (rest := []) ⟨hx, hb, hml, hown, hts⟩ hW gm tt_10 (T := TX10) (N := 98) rfl (t_X10_strike_v l dC dI dA L_595 h_596 H.size am x_594 hT gm m_p4 g_m_p4 f_m_p4 F_p4 n_p4 nw f_m_now py f_m_payments) (cwV 1 hts (hx_gV kw_1657 kw_1654 kw_1655 kw_1656 kw_103) rfl rfl rfl (by decide +kernel) ⟨Nat.le_of_ble_eq_true rfl, Nat.le_of_ble_eq_true rfl⟩) rfl hl.1 rfl (Nat.le_of_ble_eq_true rfl) dL_law_980 ⟨(show CC + 0 + 0 ≤ 600000 from ?o27), (show SS + 0 + 0 ≤ 7302250 from ?o28)⟩) hW (fun r_605 L_603 h_604 H locs p_606 hW => ?_)
  case o27 => omega
  case o28 => omega
  obtain ⟨⟨w_608, fw_608, hr_607⟩, hT, hs⟩ := p_606
  replace hT : hx_T T_tb L_603 h_604 := hT
  replace hs : hx_S T_tb [(97, 0)] L_595 h_596 L_603 h_604 := hs
  replace f_qa := (hs.o gx trivial rfl).2.trans f_qa
  replace f_qp := (hs.o gx trivial rfl).2.trans f_qp
  replace f_qc := (hs.o gx trivial rfl).2.trans f_qc
  replace f_qh := (hs.o gx trivial rfl).2.trans f_qh
  replace f_qw := (hs.o gx trivial rfl).2.trans f_qw
  replace f_ql := (hs.o g_qw trivial rfl).2.trans f_ql
  replace f_m_now := (hs.o gm trivial rfl).1.trans f_m_now
  replace f_m_persons := (hs.o gm trivial rfl).1.trans f_m_persons
  replace f_m_claims := (hs.o gm trivial rfl).1.trans f_m_claims
  replace f_m_taped := (hs.o gm trivial rfl).1.trans f_m_taped
  replace f_m_acts := (hs.o gm trivial rfl).1.trans f_m_acts
  replace f_m_heardMany := (hs.o gm trivial rfl).1.trans f_m_heardMany
  replace f_m_lines := (hs.o gm trivial rfl).1.trans f_m_lines
  replace f_m_listed := (hs.o gm trivial rfl).1.trans f_m_listed
  replace f_m_walkedMany := (hs.o gm trivial rfl).1.trans f_m_walkedMany
  replace f_m_payments := (hs.o gm trivial rfl).1.trans f_m_payments
  replace f_x_now := (hs.o gx trivial rfl).1.trans f_x_now
  replace f_x_personCount := (hs.o gx trivial rfl).1.trans f_x_personCount
  replace f_x_claimCount := (hs.o gx trivial rfl).1.trans f_x_claimCount
  replace f_x_tapeLength := (hs.o gx trivial rfl).1.trans f_x_tapeLength
  replace f_x_actCount := (hs.o gx trivial rfl).1.trans f_x_actCount
  replace f_x_heardCount := (hs.o gx trivial rfl).1.trans f_x_heardCount
  replace f_mw := (hs.o gm trivial rfl).2.trans f_mw
  replace f_mr := (hs.o gm trivial rfl).2.trans f_mr
  replace f_mp := (hs.o gm trivial rfl).2.trans f_mp
  replace f_mn := (hs.o gm trivial rfl).2.trans f_mn
  replace f_ml := (hs.o gm trivial rfl).2.trans f_ml
  replace f_mh := (hs.o gm trivial rfl).2.trans f_mh
  replace f_mt := (hs.o gm trivial rfl).2.trans f_mt
  replace f_m_fou := (hs.o gm trivial rfl).2.trans f_m_fou
  replace f_qo_ln := (hs.o gx trivial rfl).2.trans f_qo_ln
  replace f_o_ln := (hs.o g_qo_ln trivial rfl).1.trans f_o_ln
  replace f_o_lsd := (hs.o g_qw trivial rfl).1.trans f_o_lsd
  replace f_o_wkm := (hs.o g_qw trivial rfl).1.trans f_o_wkm
  replace f_qo_py := (hs.o gx trivial rfl).2.trans f_qo_py
  replace f_o_py := (hs.o g_qo_py trivial rfl).1.trans f_o_py
  replace f_b_of := (hs.o g_qo_ln trivial rfl).2.trans f_b_of
  replace f_m_of := (hs.o gm trivial rfl).2.trans f_m_of
  replace f_b_wf := (hs.o g_qo_ln trivial rfl).2.trans f_b_wf
  replace f_m_wf := (hs.o gm trivial rfl).2.trans f_m_wf
  replace f_b_df := (hs.o g_qo_ln trivial rfl).2.trans f_b_df
  replace f_m_df := (hs.o gm trivial rfl).2.trans f_m_df
  replace f_b_kf := (hs.o g_qo_ln trivial rfl).2.trans f_b_kf
  replace f_m_kf := (hs.o gm trivial rfl).2.trans f_m_kf
  replace f_b_sf := (hs.o g_qo_ln trivial rfl).2.trans f_b_sf
  replace f_m_sf := (hs.o gm trivial rfl).2.trans f_m_sf
  replace f_b_bf := (hs.o g_qo_ln trivial rfl).2.trans f_b_bf
  replace f_m_lst := (hs.o gm trivial rfl).2.trans f_m_lst
  replace f_qtp := (hs.o gx trivial rfl).2.trans f_qtp
  replace f_m_tp := (hs.o gm trivial rfl).2.trans f_m_tp
  replace f_m_dead := (hs.o gm trivial rfl).2.trans f_m_dead
  replace f_m_isj := (hs.o gm trivial rfl).2.trans f_m_isj
  replace f_m_dox := (hs.o gm trivial rfl).2.trans f_m_dox
  replace f_m_doy := (hs.o gm trivial rfl).2.trans f_m_doy
  replace f_qlt := (hs.o g_qw trivial rfl).2.trans f_qlt
  replace f_qlf := (hs.o g_qw trivial rfl).2.trans f_qlf
  replace f_m_wkd := (hs.o gm trivial rfl).2.trans f_m_wkd
  replace f_m_aga := (hs.o gm trivial rfl).2.trans f_m_aga
  replace f_qwo := (hs.o gx trivial rfl).2.trans f_qwo
  replace f_m_ad := (hs.o gm trivial rfl).2.trans f_m_ad
  replace f_m_by := (hs.o gm trivial rfl).2.trans f_m_by
  replace f_m_ho := (hs.o gm trivial rfl).2.trans f_m_ho
  replace f_m_fc := (hs.o gm trivial rfl).2.trans f_m_fc
  replace f_m_nt := (hs.o gm trivial rfl).2.trans f_m_nt
  replace f_m_wt := (hs.o gm trivial rfl).2.trans f_m_wt
  replace f_m_be := (hs.o gm trivial rfl).2.trans f_m_be
  replace f_m_bor := (hs.o gm trivial rfl).2.trans f_m_bor
  replace f_m_kin := (hs.o gm trivial rfl).2.trans f_m_kin
  replace f_m_sum := (hs.o gm trivial rfl).2.trans f_m_sum
  replace f_m_fro := (hs.o gm trivial rfl).2.trans f_m_fro
  replace f_m_fil := (hs.o gm trivial rfl).2.trans f_m_fil
  replace f_m_jud := (hs.o gm trivial rfl).2.trans f_m_jud
  replace f_m_ear := (hs.o gm trivial rfl).2.trans f_m_ear
  replace f_m_hds := (hs.o gm trivial rfl).2.trans f_m_hds
  replace f_m_ord := (hs.o gm trivial rfl).2.trans f_m_ord
  replace f_m_wkl := (hs.o gm trivial rfl).2.trans f_m_wkl
  replace f_m_owd := (hs.o gm trivial rfl).2.trans f_m_owd
  replace f_m_gds := (hs.o gm trivial rfl).2.trans f_m_gds
  replace f_m_szd := (hs.o gm trivial rfl).2.trans f_m_szd
  replace f_m_srv := (hs.o gm trivial rfl).2.trans f_m_srv
  replace f_y_p0 := (hs.o g_qo_py trivial rfl).2.trans f_y_p0
  replace f_m_p0 := (hs.o gm trivial rfl).2.trans f_m_p0
  replace f_y_p1 := (hs.o g_qo_py trivial rfl).2.trans f_y_p1
  replace f_m_p1 := (hs.o gm trivial rfl).2.trans f_m_p1
  replace f_y_p2 := (hs.o g_qo_py trivial rfl).2.trans f_y_p2
  replace f_m_p2 := (hs.o gm trivial rfl).2.trans f_m_p2
  replace f_y_p3 := (hs.o g_qo_py trivial rfl).2.trans f_y_p3
  replace f_m_p3 := (hs.o gm trivial rfl).2.trans f_m_p3
  replace f_y_p4 := (hs.o g_qo_py trivial rfl).2.trans f_y_p4
  replace f_m_p4 := (hs.o gm trivial rfl).2.trans f_m_p4
  replace f_qrg9 := (hs.o gx trivial rfl).2.trans f_qrg9
  replace f_y_ls := (hs.o g_qrg9 trivial rfl).2.trans f_y_ls
  replace f_m_rl := (hs.o gm trivial rfl).2.trans f_m_rl
  replace ffv_589 := (hs.o g_qrg9 trivial rfl).1.trans ffv_589
  replace ffv_590 := (hs.o gm trivial rfl).1.trans ffv_590
  replace ffv_591 := (hs.o gm trivial rfl).1.trans ffv_591
  replace pf_qa : ∀ j : Nat, (j : Int) < (h_604.2.1 ax 6).toInt → h_604.2.2 qa j ≠ none := by
    intro j hj; rw [(hs.o gx trivial rfl).1] at hj; rw [(hs.a g_qa rfl j).2]; exact pf_qa j hj
  replace pf_qp : ∀ j : Nat, (j : Int) < (h_604.2.1 ax 8).toInt → h_604.2.2 qp j ≠ none := by
    intro j hj; rw [(hs.o gx trivial rfl).1] at hj; rw [(hs.a g_qp rfl j).2]; exact pf_qp j hj
  replace pf_qc : ∀ j : Nat, (j : Int) < (h_604.2.1 ax 11).toInt → h_604.2.2 qc j ≠ none := by
    intro j hj; rw [(hs.o gx trivial rfl).1] at hj; rw [(hs.a g_qc rfl j).2]; exact pf_qc j hj
  replace pf_qh : ∀ j : Nat, (j : Int) < (h_604.2.1 ax 13).toInt → h_604.2.2 qh j ≠ none := by
    intro j hj; rw [(hs.o gx trivial rfl).1] at hj; rw [(hs.a g_qh rfl j).2]; exact pf_qh j hj
  replace pf_ql : ∀ j : Nat, (j : Int) < (h_604.2.1 qw 0).toInt → h_604.2.2 ql j ≠ none := by
    intro j hj; rw [(hs.o g_qw trivial rfl).1] at hj; rw [(hs.a g_ql rfl j).2]; exact pf_ql j hj
  replace cl_lst : hx_col 8 h_604 ql 0 = c_lst := (hx_col_S hs hTo g_ql tt_40 tt_2 rfl rfl).trans cl_lst
  replace cl_dead : hx_col 40 h_604 qp 7 = c_dead := (hx_col_S hs hTo g_qp tt_44 tt_4 rfl rfl).trans cl_dead
  replace cl_isj : hx_col 40 h_604 qp 8 = c_isj := (hx_col_S hs hTo g_qp tt_44 tt_4 rfl rfl).trans cl_isj
  replace cl_dox : hx_col 40 h_604 qp 5 = c_dox := (hx_col_S hs hTo g_qp tt_44 tt_4 rfl rfl).trans cl_dox
  replace cl_doy : hx_col 40 h_604 qp 6 = c_doy := (hx_col_S hs hTo g_qp tt_44 tt_4 rfl rfl).trans cl_doy
  replace cl_fou : hx_col 100 h_604 qc 10 = c_fou := (hx_col_S hs hTo g_qc tt_45 tt_2 rfl rfl).trans cl_fou
  replace cl_tri : hx_col 100 h_604 qc 9 = c_tri := (hx_col_S hs hTo g_qc tt_45 tt_2 rfl rfl).trans cl_tri
  replace cl_bor : hx_col 40 h_604 qp 1 = F_bor := (hx_col_S hs hTo g_qp tt_44 tt_4 rfl rfl).trans cl_bor
  replace cl_kin : hx_col 40 h_604 qp 2 = F_kin := (hx_col_S hs hTo g_qp tt_44 tt_4 rfl rfl).trans cl_kin
  replace cl_sum : hx_col 100 h_604 qc 6 = F_sum := (hx_col_S hs hTo g_qc tt_45 tt_2 rfl rfl).trans cl_sum
  replace cl_fro : hx_col 100 h_604 qc 7 = F_fro := (hx_col_S hs hTo g_qc tt_45 tt_2 rfl rfl).trans cl_fro
  replace cl_fil : hx_col 100 h_604 qc 8 = F_fil := (hx_col_S hs hTo g_qc tt_45 tt_2 rfl rfl).trans cl_fil
  replace cl_hea : hx_col 100 h_604 qc 11 = F_mh := (hx_col_S hs hTo g_qc tt_45 tt_2 rfl rfl).trans cl_hea
  replace cl_jud : hx_col 100 h_604 qc 12 = F_jud := (hx_col_S hs hTo g_qc tt_45 tt_2 rfl rfl).trans cl_jud
  replace cl_ear : hx_col 40 h_604 qp 3 = F_ear := (hx_col_S hs hTo g_qp tt_44 tt_4 rfl rfl).trans cl_ear
  replace cl_hds : hx_col 40 h_604 qp 4 = F_hds := (hx_col_S hs hTo g_qp tt_44 tt_4 rfl rfl).trans cl_hds
  replace cl_ord : hx_col 100 h_604 qc 13 = F_ord := (hx_col_S hs hTo g_qc tt_45 tt_2 rfl rfl).trans cl_ord
  replace cl_wkl : hx_col 100 h_604 qc 14 = F_wkl := (hx_col_S hs hTo g_qc tt_45 tt_2 rfl rfl).trans cl_wkl
  replace cl_owd : hx_col 100 h_604 qc 15 = F_owd := (hx_col_S hs hTo g_qc tt_45 tt_2 rfl rfl).trans cl_owd
  replace cl_gds : hx_col 100 h_604 qc 17 = F_gds := (hx_col_S hs hTo g_qc tt_45 tt_2 rfl rfl).trans cl_gds
  replace cl_szd : hx_col 100 h_604 qc 16 = F_szd := (hx_col_S hs hTo g_qc tt_45 tt_2 rfl rfl).trans cl_szd
  replace cl_srv : hx_col 100 h_604 qc 18 = F_srv := (hx_col_S hs hTo g_qc tt_45 tt_2 rfl rfl).trans cl_srv
  replace nu_qp : hx_num 40 h_604 qp 0 (np.toInt) := hx_num_S hs hTo g_qp tt_44 tt_4 rfl rfl nu_qp
  replace nu_qc : hx_num 100 h_604 qc 0 (c0.toInt) := hx_num_S hs hTo g_qc tt_45 tt_2 rfl rfl nu_qc
  replace sb_list : hx_LQ 8 100 h_604 ql qc := hx_LQ_S hs g_ql g_qc rfl rfl sb_list
  replace hDF : hw_DF h_604 qc qp 2 F_aga c0.toInt := hw_DF_S hs hTo g_qc g_qp tt_45 tt_2 rfl rfl rfl hDF
  replace hRA9 : hv_RA h_604 qa qwo a0.toInt A9 := hv_RA_S hs hTo g_qa g_qwo tt_43 tt_0 rfl rfl rfl rfl rfl rfl ?o29 hRA9
  case o29 => omega
  replace hDP : hw_DF h_604 qc qp 1 F_by c0.toInt := hw_DF_S hs hTo g_qc g_qp tt_45 tt_2 rfl rfl rfl hDP
  replace hAC9 : hv_AC h_604 qc F_ml c0.toInt A9 := hv_AC_S hs hTo g_qc tt_45 tt_2 rfl tt_0 rfl rfl rfl rfl rfl rfl rfl hAC9
  replace hFX : hv_FX 8 4 h_604 qc cF9L c0.toInt := hv_FX_S hs hTo g_qc tt_45 tt_2 rfl rfl rfl rfl hFX
  replace hBX : hv_FX 3 5 h_604 qc F_be c0.toInt := hv_FX_S hs hTo g_qc tt_45 tt_2 rfl rfl rfl rfl hBX
  replace hHL : hv_HL h_604 qh qc F_ho m0.toInt c0.toInt := hv_HL_S hs g_qh g_qc rfl rfl hHL
  replace n_mw : h_604.2.1 mw = F_mw := (funext fun j => (hs.a g_mw rfl j).1).trans n_mw
  replace n_mr : h_604.2.1 mr = F_mr := (funext fun j => (hs.a g_mr rfl j).1).trans n_mr
  replace n_mp : h_604.2.1 mp = F_mp := (funext fun j => (hs.a g_mp rfl j).1).trans n_mp
  replace n_mn : h_604.2.1 mn = F_mn := (funext fun j => (hs.a g_mn rfl j).1).trans n_mn
  replace n_ml : h_604.2.1 ml = F_ml := (funext fun j => (hs.a g_ml rfl j).1).trans n_ml
  replace n_mh : h_604.2.1 mh = F_mh := (funext fun j => (hs.a g_mh rfl j).1).trans n_mh
  replace n_mt : h_604.2.1 mt = F_mt := (funext fun j => (hs.a g_mt rfl j).1).trans n_mt
  replace n_m_fou : h_604.2.1 m_fou = F_m_fou := (funext fun j => (hs.a g_m_fou rfl j).1).trans n_m_fou
  replace n_b_of : h_604.2.1 b_of = B_of := (funext fun j => (hs.a g_b_of rfl j).1).trans n_b_of
  replace n_m_of : h_604.2.1 m_of = F_of := (funext fun j => (hs.a g_m_of rfl j).1).trans n_m_of
  replace n_b_wf : h_604.2.1 b_wf = B_wf := (funext fun j => (hs.a g_b_wf rfl j).1).trans n_b_wf
  replace n_m_wf : h_604.2.1 m_wf = F_wf := (funext fun j => (hs.a g_m_wf rfl j).1).trans n_m_wf
  replace n_b_df : h_604.2.1 b_df = B_df := (funext fun j => (hs.a g_b_df rfl j).1).trans n_b_df
  replace n_m_df : h_604.2.1 m_df = F_df := (funext fun j => (hs.a g_m_df rfl j).1).trans n_m_df
  replace n_b_kf : h_604.2.1 b_kf = B_kf := (funext fun j => (hs.a g_b_kf rfl j).1).trans n_b_kf
  replace n_m_kf : h_604.2.1 m_kf = F_kf := (funext fun j => (hs.a g_m_kf rfl j).1).trans n_m_kf
  replace n_b_sf : h_604.2.1 b_sf = B_sf := (funext fun j => (hs.a g_b_sf rfl j).1).trans n_b_sf
  replace n_m_sf : h_604.2.1 m_sf = F_sf := (funext fun j => (hs.a g_m_sf rfl j).1).trans n_m_sf
  replace n_b_bf : h_604.2.1 b_bf = bfL := (funext fun j => (hs.a g_b_bf rfl j).1).trans n_b_bf
  replace n_lst : h_604.2.1 m_lst = F_lst := (funext fun j => (hs.a g_m_lst rfl j).1).trans n_lst
  replace n_tp : h_604.2.1 m_tp = F_tp := (funext fun j => (hs.a g_m_tp rfl j).1).trans n_tp
  replace n_qtp : h_604.2.1 qtp = F_tp := (funext fun j => (hs.a g_qtp rfl j).1).trans n_qtp
  replace n_dead : h_604.2.1 m_dead = F_dead := (funext fun j => (hs.a g_m_dead rfl j).1).trans n_dead
  replace n_isj : h_604.2.1 m_isj = F_isj := (funext fun j => (hs.a g_m_isj rfl j).1).trans n_isj
  replace n_dox : h_604.2.1 m_dox = F_dox := (funext fun j => (hs.a g_m_dox rfl j).1).trans n_dox
  replace n_doy : h_604.2.1 m_doy = F_doy := (funext fun j => (hs.a g_m_doy rfl j).1).trans n_doy
  replace n_qlt : h_604.2.1 qlt = F_qlt := (funext fun j => (hs.a g_qlt rfl j).1).trans n_qlt
  replace n_m_wkd : h_604.2.1 m_wkd = F_m_wkd := (funext fun j => (hs.a g_m_wkd rfl j).1).trans n_m_wkd
  replace n_aga : h_604.2.1 m_aga = F_aga := (funext fun j => (hs.a g_m_aga rfl j).1).trans n_aga
  replace n_ad : h_604.2.1 m_ad = F_ad := (funext fun j => (hs.a g_m_ad rfl j).1).trans n_ad
  replace n_by : h_604.2.1 m_by = F_by := (funext fun j => (hs.a g_m_by rfl j).1).trans n_by
  replace n_ho : h_604.2.1 m_ho = F_ho := (funext fun j => (hs.a g_m_ho rfl j).1).trans n_ho
  replace n_fc : h_604.2.1 m_fc = F_fc := (funext fun j => (hs.a g_m_fc rfl j).1).trans n_fc
  replace n_nt : h_604.2.1 m_nt = F_nt := (funext fun j => (hs.a g_m_nt rfl j).1).trans n_nt
  replace n_wt : h_604.2.1 m_wt = F_wt := (funext fun j => (hs.a g_m_wt rfl j).1).trans n_wt
  replace n_be : h_604.2.1 m_be = F_be := (funext fun j => (hs.a g_m_be rfl j).1).trans n_be
  replace n_bor : h_604.2.1 m_bor = F_bor := (funext fun j => (hs.a g_m_bor rfl j).1).trans n_bor
  replace n_kin : h_604.2.1 m_kin = F_kin := (funext fun j => (hs.a g_m_kin rfl j).1).trans n_kin
  replace n_sum : h_604.2.1 m_sum = F_sum := (funext fun j => (hs.a g_m_sum rfl j).1).trans n_sum
  replace n_fro : h_604.2.1 m_fro = F_fro := (funext fun j => (hs.a g_m_fro rfl j).1).trans n_fro
  replace n_fil : h_604.2.1 m_fil = F_fil := (funext fun j => (hs.a g_m_fil rfl j).1).trans n_fil
  replace n_jud : h_604.2.1 m_jud = F_jud := (funext fun j => (hs.a g_m_jud rfl j).1).trans n_jud
  replace n_ear : h_604.2.1 m_ear = F_ear := (funext fun j => (hs.a g_m_ear rfl j).1).trans n_ear
  replace n_hds : h_604.2.1 m_hds = F_hds := (funext fun j => (hs.a g_m_hds rfl j).1).trans n_hds
  replace n_ord : h_604.2.1 m_ord = F_ord := (funext fun j => (hs.a g_m_ord rfl j).1).trans n_ord
  replace n_wkl : h_604.2.1 m_wkl = F_wkl := (funext fun j => (hs.a g_m_wkl rfl j).1).trans n_wkl
  replace n_owd : h_604.2.1 m_owd = F_owd := (funext fun j => (hs.a g_m_owd rfl j).1).trans n_owd
  replace n_gds : h_604.2.1 m_gds = F_gds := (funext fun j => (hs.a g_m_gds rfl j).1).trans n_gds
  replace n_szd : h_604.2.1 m_szd = F_szd := (funext fun j => (hs.a g_m_szd rfl j).1).trans n_szd
  replace n_srv : h_604.2.1 m_srv = F_srv := (funext fun j => (hs.a g_m_srv rfl j).1).trans n_srv
  replace n_p0 : h_604.2.1 m_p0 = F_p0 := (funext fun j => (hs.a g_m_p0 rfl j).1).trans n_p0
  replace n_y_p0 : h_604.2.1 y_p0 = F_p0 := (funext fun j => (hs.a g_y_p0 rfl j).1).trans n_y_p0
  replace n_p1 : h_604.2.1 m_p1 = F_p1 := (funext fun j => (hs.a g_m_p1 rfl j).1).trans n_p1
  replace n_y_p1 : h_604.2.1 y_p1 = F_p1 := (funext fun j => (hs.a g_y_p1 rfl j).1).trans n_y_p1
  replace n_p2 : h_604.2.1 m_p2 = F_p2 := (funext fun j => (hs.a g_m_p2 rfl j).1).trans n_p2
  replace n_y_p2 : h_604.2.1 y_p2 = F_p2 := (funext fun j => (hs.a g_y_p2 rfl j).1).trans n_y_p2
  replace n_p3 : h_604.2.1 m_p3 = F_p3 := (funext fun j => (hs.a g_m_p3 rfl j).1).trans n_p3
  replace n_y_p3 : h_604.2.1 y_p3 = F_p3 := (funext fun j => (hs.a g_y_p3 rfl j).1).trans n_y_p3
  replace n_y_ls : h_604.2.1 y_ls = F_y_ls := (funext fun j => (hs.a g_y_ls rfl j).1).trans n_y_ls
  replace n_m_rl : h_604.2.1 m_rl = F_m_rl := (funext fun j => (hs.a g_m_rl rfl j).1).trans n_m_rl
  replace fw_600 : h_604.2.1 y_p4 = w_600 := (funext fun j => (hs.a g_y_p4 rfl j).1).trans fw_600
  replace gx := gx.S hs
  replace gm := gm.S hs
  replace g_qa := g_qa.S hs
  replace g_qp := g_qp.S hs
  replace g_qc := g_qc.S hs
  replace g_qh := g_qh.S hs
  replace g_qw := g_qw.S hs
  replace g_ql := g_ql.S hs
  replace g_mw := g_mw.S hs
  replace g_mr := g_mr.S hs
  replace g_mp := g_mp.S hs
  replace g_mn := g_mn.S hs
  replace g_ml := g_ml.S hs
  replace g_mh := g_mh.S hs
  replace g_mt := g_mt.S hs
  replace g_m_fou := g_m_fou.S hs
  replace g_qo_ln := g_qo_ln.S hs
  replace g_qo_py := g_qo_py.S hs
  replace g_b_of := g_b_of.S hs
  replace g_m_of := g_m_of.S hs
  replace g_b_wf := g_b_wf.S hs
  replace g_m_wf := g_m_wf.S hs
  replace g_b_df := g_b_df.S hs
  replace g_m_df := g_m_df.S hs
  replace g_b_kf := g_b_kf.S hs
  replace g_m_kf := g_m_kf.S hs
  replace g_b_sf := g_b_sf.S hs
  replace g_m_sf := g_m_sf.S hs
  replace g_b_bf := g_b_bf.S hs
  replace g_m_lst := g_m_lst.S hs
  replace g_qtp := g_qtp.S hs
  replace g_m_tp := g_m_tp.S hs
  replace g_m_dead := g_m_dead.S hs
  replace g_m_isj := g_m_isj.S hs
  replace g_m_dox := g_m_dox.S hs
  replace g_m_doy := g_m_doy.S hs
  replace g_qlt := g_qlt.S hs
  replace g_qlf := g_qlf.S hs
  replace g_m_wkd := g_m_wkd.S hs
  replace g_m_aga := g_m_aga.S hs
  replace g_qwo := g_qwo.S hs
  replace g_m_ad := g_m_ad.S hs
  replace g_m_by := g_m_by.S hs
  replace g_m_ho := g_m_ho.S hs
  replace g_m_fc := g_m_fc.S hs
  replace g_m_nt := g_m_nt.S hs
  replace g_m_wt := g_m_wt.S hs
  replace g_m_be := g_m_be.S hs
  replace g_m_bor := g_m_bor.S hs
  replace g_m_kin := g_m_kin.S hs
  replace g_m_sum := g_m_sum.S hs
  replace g_m_fro := g_m_fro.S hs
  replace g_m_fil := g_m_fil.S hs
  replace g_m_jud := g_m_jud.S hs
  replace g_m_ear := g_m_ear.S hs
  replace g_m_hds := g_m_hds.S hs
  replace g_m_ord := g_m_ord.S hs
  replace g_m_wkl := g_m_wkl.S hs
  replace g_m_owd := g_m_owd.S hs
  replace g_m_gds := g_m_gds.S hs
  replace g_m_szd := g_m_szd.S hs
  replace g_m_srv := g_m_srv.S hs
  replace g_y_p0 := g_y_p0.S hs
  replace g_m_p0 := g_m_p0.S hs
  replace g_y_p1 := g_y_p1.S hs
  replace g_m_p1 := g_m_p1.S hs
  replace g_y_p2 := g_y_p2.S hs
  replace g_m_p2 := g_m_p2.S hs
  replace g_y_p3 := g_y_p3.S hs
  replace g_m_p3 := g_m_p3.S hs
  replace g_y_p4 := g_y_p4.S hs
  replace g_m_p4 := g_m_p4.S hs
  replace g_qrg9 := g_qrg9.S hs
  replace g_y_ls := g_y_ls.S hs
  replace g_m_rl := g_m_rl.S hs
  have fw_608 : h_604.2.1 m_p4 = w_608 := fw_608
  refine lv_pop hx hb dL_law_983 rfl ?_
  refine lv_goto (tgt := 1379) hx hb dL_law_984 ?o30 ?_
  case o30 => decide
  obtain ⟨heq, hq_p4⟩ := hz_KS_eq hr_599 hr_607
  refine W.widen (k := CC + 3) (n := SS + 179) ?o31 ?o32 ?_
  case o31 => omega
  case o32 => omega
  refine kk L_603 h_604 H locs ls hW ⟨hT, gx, gm, ⟨f_x_now.trans f_m_now.symm, f_x_personCount.trans f_m_persons.symm, f_x_claimCount.trans f_m_claims.symm, f_x_tapeLength.trans f_m_taped.symm, f_x_actCount.trans f_m_acts.symm, f_x_heardCount.trans f_m_heardMany.symm, hx_ob f_qo_ln (f_o_ln.trans f_m_lines.symm), hx_ob f_qw (f_o_lsd.trans f_m_listed.symm), hx_ob f_qw (f_o_wkm.trans f_m_walkedMany.symm), hx_ob f_qo_py (f_o_py.trans f_m_payments.symm), hx_ob f_qp ?o33, hx_ob f_qc ?o34, (fun b a r hb ha hr => ?o35), (fun b a r hb ha hr => ?o36), (fun b a r hb ha hr => ?o37), (fun b a r hb ha hr => ?o38), (fun b a r hb ha hr => ?o39), (fun b a r hb ha hr => ?o40), (fun w q c hw hq hc => ?o41), (fun w q r hw hq hr => ?o42), (fun w q r hw hq hr => ?o43), (fun c q a hc hq ha => ?o44), (fun q r hq hr => ?o45), (fun q w a b c d e p hq hw ha hb hc hd he hp => ?o46), (fun c q a hc hq ha => ?o47), (fun q c a hq hc ha => ?o48), (fun a b ha hb => ?o49), (fun c a b d e f hc ha hb hd he hf => ?o50), (fun c a hc ha => ?o51), hx_ob2 f_qp f_m_bor (cl_bor.trans n_bor.symm), hx_ob2 f_qp f_m_kin (cl_kin.trans n_kin.symm), hx_ob2 f_qc f_m_sum (cl_sum.trans n_sum.symm), hx_ob2 f_qc f_m_fro (cl_fro.trans n_fro.symm), hx_ob2 f_qc f_m_fil (cl_fil.trans n_fil.symm), hx_ob2 f_qc f_mh (cl_hea.trans n_mh.symm), hx_ob2 f_qc f_m_jud (cl_jud.trans n_jud.symm), hx_ob2 f_qp f_m_ear (cl_ear.trans n_ear.symm), hx_ob2 f_qp f_m_hds (cl_hds.trans n_hds.symm), hx_ob2 f_qc f_m_ord (cl_ord.trans n_ord.symm), hx_ob2 f_qc f_m_wkl (cl_wkl.trans n_wkl.symm), hx_ob2 f_qc f_m_owd (cl_owd.trans n_owd.symm), hx_ob2 f_qc f_m_gds (cl_gds.trans n_gds.symm), hx_ob2 f_qc f_m_szd (cl_szd.trans n_szd.symm), hx_ob2 f_qc f_m_srv (cl_srv.trans n_srv.symm), (fun p q r hp hq hr => ?o52), (fun p q r hp hq hr => ?o53), (fun p q r hp hq hr => ?o54), (fun p q r hp hq hr => ?o55), (fun p q r hp hq hr => ?o56), (fun p hp => ?o57), (fun p q r hp hq hr => ?o58), hx_ob2 f_qp f_m_dead ?o59, hx_ob2 f_qp f_m_isj ?o60, hx_ob2 f_qp f_m_dox ?o61, hx_ob2 f_qp f_m_doy ?o62, hx_ob2 f_qc f_m_fou ?o63, hx_ob2 f_qc f_mt ?o64, trivial⟩, ⟨hx_ob f_qa pf_qa, hx_ob f_qp pf_qp, hx_ob f_qc pf_qc, hx_ob f_qh pf_qh, (fun w q hw hq => ?o65)⟩, ⟨hx_ob f_mw ?o66, hx_ob f_mr ?o67, hx_ob2 f_mp f_mn ?o68, hx_ob f_ml ?o69, hx_ob f_mh ?o70, hx_ob f_mt ?o71, hx_ob2 f_mh f_m_fou ?o73⟩⟩ hl
  case o33 =>
    rw [f_x_personCount]
    exact nu_qp
  case o34 =>
    rw [f_x_claimCount]
    exact nu_qc
  case o35 =>
    obtain rfl : qo_ln = b := Option.some.inj (f_qo_ln.symm.trans hb)
    obtain rfl : b_of = a := Option.some.inj (f_b_of.symm.trans ha)
    obtain rfl : m_of = r := Option.some.inj (f_m_of.symm.trans hr)
    rw [n_b_of, n_m_of, f_o_ln]
    exact eb_of
  case o36 =>
    obtain rfl : qo_ln = b := Option.some.inj (f_qo_ln.symm.trans hb)
    obtain rfl : b_wf = a := Option.some.inj (f_b_wf.symm.trans ha)
    obtain rfl : m_wf = r := Option.some.inj (f_m_wf.symm.trans hr)
    rw [n_b_wf, n_m_wf, f_o_ln]
    exact eb_wf
  case o37 =>
    obtain rfl : qo_ln = b := Option.some.inj (f_qo_ln.symm.trans hb)
    obtain rfl : b_df = a := Option.some.inj (f_b_df.symm.trans ha)
    obtain rfl : m_df = r := Option.some.inj (f_m_df.symm.trans hr)
    rw [n_b_df, n_m_df, f_o_ln]
    exact eb_df
  case o38 =>
    obtain rfl : qo_ln = b := Option.some.inj (f_qo_ln.symm.trans hb)
    obtain rfl : b_kf = a := Option.some.inj (f_b_kf.symm.trans ha)
    obtain rfl : m_kf = r := Option.some.inj (f_m_kf.symm.trans hr)
    rw [n_b_kf, n_m_kf, f_o_ln]
    exact eb_kf
  case o39 =>
    obtain rfl : qo_ln = b := Option.some.inj (f_qo_ln.symm.trans hb)
    obtain rfl : b_sf = a := Option.some.inj (f_b_sf.symm.trans ha)
    obtain rfl : m_sf = r := Option.some.inj (f_m_sf.symm.trans hr)
    rw [n_b_sf, n_m_sf, f_o_ln]
    exact eb_sf
  case o40 =>
    obtain rfl : qo_ln = b := Option.some.inj (f_qo_ln.symm.trans hb)
    obtain rfl : b_df = a := Option.some.inj (f_b_df.symm.trans ha)
    obtain rfl : b_bf = r := Option.some.inj (f_b_bf.symm.trans hr)
    rw [n_b_df, n_b_bf, f_o_ln]
    exact ⟨hBD, hDY⟩
  case o41 =>
    obtain rfl : qw = w := Option.some.inj (f_qw.symm.trans hw)
    obtain rfl : ql = q := Option.some.inj (f_ql.symm.trans hq)
    obtain rfl : qc = c := Option.some.inj (f_qc.symm.trans hc)
    exact sb_list
  case o42 =>
    obtain rfl : qw = w := Option.some.inj (f_qw.symm.trans hw)
    obtain rfl : ql = q := Option.some.inj (f_ql.symm.trans hq)
    obtain rfl : m_lst = r := Option.some.inj (f_m_lst.symm.trans hr)
    rw [cl_lst, n_lst]
    exact eq_lst
  case o43 =>
    obtain rfl : qw = w := Option.some.inj (f_qw.symm.trans hw)
    obtain rfl : qlt = q := Option.some.inj (f_qlt.symm.trans hq)
    obtain rfl : m_wkd = r := Option.some.inj (f_m_wkd.symm.trans hr)
    rw [n_qlt, n_m_wkd, f_o_wkm]
    exact eb_wkd
  case o44 =>
    obtain rfl : qc = c := Option.some.inj (f_qc.symm.trans hc)
    obtain rfl : qp = q := Option.some.inj (f_qp.symm.trans hq)
    obtain rfl : m_aga = a := Option.some.inj (f_m_aga.symm.trans ha)
    rw [n_aga, f_x_claimCount]
    exact hw_DF_e hDF rfl rfl
  case o45 =>
    obtain rfl : qtp = q := Option.some.inj (f_qtp.symm.trans hq)
    obtain rfl : m_tp = r := Option.some.inj (f_m_tp.symm.trans hr)
    exact n_qtp.trans n_tp.symm
  case o46 =>
    obtain rfl : qa = q := Option.some.inj (f_qa.symm.trans hq)
    obtain rfl : qwo = w := Option.some.inj (f_qwo.symm.trans hw)
    obtain rfl : m_ad = a := Option.some.inj (f_m_ad.symm.trans ha)
    obtain rfl : mr = b := Option.some.inj (f_mr.symm.trans hb)
    obtain rfl : mn = c := Option.some.inj (f_mn.symm.trans hc)
    obtain rfl : mp = d := Option.some.inj (f_mp.symm.trans hd)
    obtain rfl : qc = e := Option.some.inj (f_qc.symm.trans he)
    obtain rfl : ml = p := Option.some.inj (f_ml.symm.trans hp)
    exact ⟨_, by rw [f_x_actCount]; exact hRA9, by rw [f_x_actCount, n_ad, n_mr, n_mn, n_mp]; exact hCA9, by rw [n_ml, f_x_claimCount]; exact hv_AC_e hAC9 rfl rfl rfl, hAB⟩
  case o47 =>
    obtain rfl : qc = c := Option.some.inj (f_qc.symm.trans hc)
    obtain rfl : qp = q := Option.some.inj (f_qp.symm.trans hq)
    obtain rfl : m_by = a := Option.some.inj (f_m_by.symm.trans ha)
    rw [n_by, f_x_claimCount]
    exact hw_DF_e hDP rfl rfl
  case o48 =>
    obtain rfl : qh = q := Option.some.inj (f_qh.symm.trans hq)
    obtain rfl : qc = c := Option.some.inj (f_qc.symm.trans hc)
    obtain rfl : m_ho = a := Option.some.inj (f_m_ho.symm.trans ha)
    rw [n_ho, f_x_heardCount, f_x_claimCount]
    exact hv_HL_e hHL rfl rfl rfl
  case o49 =>
    obtain rfl : m_ho = a := Option.some.inj (f_m_ho.symm.trans ha)
    obtain rfl : mh = b := Option.some.inj (f_mh.symm.trans hb)
    rw [n_ho, n_mh, f_m_heardMany, f_m_claims]
    exact hHO9
  case o50 =>
    obtain rfl : qc = c := Option.some.inj (f_qc.symm.trans hc)
    obtain rfl : m_fc = a := Option.some.inj (f_m_fc.symm.trans ha)
    obtain rfl : m_nt = b := Option.some.inj (f_m_nt.symm.trans hb)
    obtain rfl : m_wt = d := Option.some.inj (f_m_wt.symm.trans hd)
    obtain rfl : m_sum = e := Option.some.inj (f_m_sum.symm.trans he)
    obtain rfl : mh = f := Option.some.inj (f_mh.symm.trans hf)
    exact ⟨cF9L, by rw [f_x_claimCount]; exact hFX, by rw [n_fc, n_nt, n_wt, n_sum, n_mh, f_x_claimCount]; exact hFR9⟩
  case o51 =>
    obtain rfl : qc = c := Option.some.inj (f_qc.symm.trans hc)
    obtain rfl : m_be = a := Option.some.inj (f_m_be.symm.trans ha)
    rw [n_be, f_x_claimCount]
    exact hv_FX_e hBX rfl rfl
  case o52 =>
    obtain rfl : qo_py = p := Option.some.inj (f_qo_py.symm.trans hp)
    obtain rfl : y_p0 = q := Option.some.inj (f_y_p0.symm.trans hq)
    obtain rfl : m_p0 = r := Option.some.inj (f_m_p0.symm.trans hr)
    exact n_y_p0.trans n_p0.symm
  case o53 =>
    obtain rfl : qo_py = p := Option.some.inj (f_qo_py.symm.trans hp)
    obtain rfl : y_p1 = q := Option.some.inj (f_y_p1.symm.trans hq)
    obtain rfl : m_p1 = r := Option.some.inj (f_m_p1.symm.trans hr)
    exact n_y_p1.trans n_p1.symm
  case o54 =>
    obtain rfl : qo_py = p := Option.some.inj (f_qo_py.symm.trans hp)
    obtain rfl : y_p2 = q := Option.some.inj (f_y_p2.symm.trans hq)
    obtain rfl : m_p2 = r := Option.some.inj (f_m_p2.symm.trans hr)
    exact n_y_p2.trans n_p2.symm
  case o55 =>
    obtain rfl : qo_py = p := Option.some.inj (f_qo_py.symm.trans hp)
    obtain rfl : y_p3 = q := Option.some.inj (f_y_p3.symm.trans hq)
    obtain rfl : m_p3 = r := Option.some.inj (f_m_p3.symm.trans hr)
    exact n_y_p3.trans n_p3.symm
  case o56 =>
    obtain rfl : qo_py = p := Option.some.inj (f_qo_py.symm.trans hp)
    obtain rfl : y_p4 = q := Option.some.inj (f_y_p4.symm.trans hq)
    obtain rfl : m_p4 = r := Option.some.inj (f_m_p4.symm.trans hr)
    exact (fw_600.trans hq_p4).trans fw_608.symm
  case o57 =>
    obtain rfl : qrg9 = p := Option.some.inj (f_qrg9.symm.trans hp)
    rw [ffv_589, ffv_590, ffv_591]
    exact hNQ9
  case o58 =>
    obtain rfl : qrg9 = p := Option.some.inj (f_qrg9.symm.trans hp)
    obtain rfl : y_ls = q := Option.some.inj (f_y_ls.symm.trans hq)
    obtain rfl : m_rl = r := Option.some.inj (f_m_rl.symm.trans hr)
    rw [n_y_ls, n_m_rl, ffv_589]
    exact hRL9
  case o59 =>
    rw [cl_dead, n_dead]
    exact eq_dead
  case o60 =>
    rw [cl_isj, n_isj]
    exact eq_isj
  case o61 =>
    rw [cl_dox, n_dox]
    exact eq_dox
  case o62 =>
    rw [cl_doy, n_doy]
    exact eq_doy
  case o63 =>
    rw [cl_fou, n_m_fou]
    exact eq_fou
  case o64 =>
    rw [cl_tri, n_mt]
    exact eq_tri
  case o65 =>
    obtain rfl : qw = w := Option.some.inj (f_qw.symm.trans hw)
    obtain rfl : ql = q := Option.some.inj (f_ql.symm.trans hq)
    exact pf_ql
  case o66 =>
    rw [n_mw]
    exact hwd
  case o67 =>
    rw [n_mr, f_m_acts]
    exact hWK
  case o68 =>
    rw [n_mp, n_mn, f_m_acts]
    exact hRP
  case o69 =>
    rw [n_ml, f_m_claims, f_m_acts]
    exact hPL
  case o70 =>
    rw [n_mh, f_m_heardMany, f_m_claims]
    exact hHC
  case o71 =>
    rw [n_mt]
    refine (hx_TR_le hTR ?o72)
    case o72 => omega
  case o73 =>
    rw [n_mh, n_m_fou, f_m_claims]
    exact hHF

set_option maxHeartbeats 4000000 in
set_option maxRecDepth 100000 in
theorem law_case_17 {p : Program} {e : Env} {s : State} {m : MethodId} {below : List Frame} {meth : Method} {c : Code} (l : Launch) {b LN : Nat} {xs : Nat → Int32} (hx : p.tables.exec = Jvm.exec) (hb : c.code = code) (hr : meth.sig.returnType = ret) (hlocks : meth.locks = false) (hml : c.maxLocals = 4) (hown : s.vm.findClass "SmallCourtLaw" = some m.cls) (hts : ∀ w ∈ hx_all, w.before #[Value.ref b] s = true) (hX : va_X b LN xs s s.heap) (hbl : b < s.heap.size) (hbA : ¬ s.heap.size ≤ b) (hLN : LN ≤ 3584) (dC : Nat → ClassId) (dI : Nat → Nat → Nat) (dA : Nat → ClassId) (b0 : hx_z) (ax am : Nat) (T1 : Int) (hT0 : 0 ≤ T1) (hT1 : T1 ≤ 511) (i : Int32) (hi0 : 0 ≤ i.toInt) (hiL : i.toInt + 7 ≤ LN) (CC SS : Nat) (hCC : CC + 3 ≤ 600000) (hSS : SS + 179 ≤ 7302250) (L1 : List Nat) (hl1 : hx_h) (H : Heap) (locs : List Loc) (ls : Array Slot) (hW : hx_W T_tb (P_ty dA) (dC, dI) vwCl (fun q : Nat => s.heap.size ≤ q) s.heap L1 hl1 s H locs) (hZ : hx_Xt (fun q : Nat => s.heap.size ≤ q) b0 s) (hI : hx_IV T1 ax am L1 hl1) (hl : lv_has ls 4 [(3, .int i), (2, .ref am), (1, .ref ax), (0, .ref b)]) (kk : ∀ (L2 : List Nat) (h2 : hx_h) (H2 : Heap) (locs2 : List Loc) (ls2 : Array Slot), hx_W T_tb (P_ty dA) (dC, dI) vwCl (fun q : Nat => s.heap.size ≤ q) s.heap L2 h2 s H2 locs2 → hx_IV (T1 + 1) ax am L2 h2 → lv_has ls2 4 [(3, .int i), (2, .ref am), (1, .ref ax), (0, .ref b)] → W p l e room_1 s m #[Value.ref b] below meth c H2 locs2 (CC + 3) (SS + 179) (lw_Z below #[Value.ref b] s) (F0 m 1379 ls2 [])) : W p l e room_1 s m #[Value.ref b] below meth c H locs CC SS (lw_Z below #[Value.ref b] s) (F0 m 987 ls []) := by
  have hI9 := hI
  have hT := hI9.1
  replace hI9 := hI9.2
  have gx := hI9.1
  replace hI9 := hI9.2
  have gm := hI9.1
  replace hI9 := hI9.2
  have zq0_3 := hI9.1
  have he_nw := zq0_3.1
  replace zq0_3 := zq0_3.2
  have he_np := zq0_3.1
  replace zq0_3 := zq0_3.2
  have he_c0 := zq0_3.1
  replace zq0_3 := zq0_3.2
  have he_tl := zq0_3.1
  replace zq0_3 := zq0_3.2
  have he_a0 := zq0_3.1
  replace zq0_3 := zq0_3.2
  have he_m0 := zq0_3.1
  replace zq0_3 := zq0_3.2
  have ho_ln := zq0_3.1
  replace zq0_3 := zq0_3.2
  have ho_lsd := zq0_3.1
  replace zq0_3 := zq0_3.2
  have ho_wkm := zq0_3.1
  replace zq0_3 := zq0_3.2
  have ho_py := zq0_3.1
  replace zq0_3 := zq0_3.2
  have hn_qp := zq0_3.1
  replace zq0_3 := zq0_3.2
  have hn_qc := zq0_3.1
  replace zq0_3 := zq0_3.2
  have hk_of := zq0_3.1
  replace zq0_3 := zq0_3.2
  have hk_wf := zq0_3.1
  replace zq0_3 := zq0_3.2
  have hk_df := zq0_3.1
  replace zq0_3 := zq0_3.2
  have hk_kf := zq0_3.1
  replace zq0_3 := zq0_3.2
  have hk_sf := zq0_3.1
  replace zq0_3 := zq0_3.2
  have hkBD := zq0_3.1
  replace zq0_3 := zq0_3.2
  have hLQ := zq0_3.1
  replace zq0_3 := zq0_3.2
  have hLE := zq0_3.1
  replace zq0_3 := zq0_3.2
  have hkWD := zq0_3.1
  replace zq0_3 := zq0_3.2
  have hkDF := zq0_3.1
  replace zq0_3 := zq0_3.2
  have hkTP := zq0_3.1
  replace zq0_3 := zq0_3.2
  have hkAC := zq0_3.1
  replace zq0_3 := zq0_3.2
  have hkDP := zq0_3.1
  replace zq0_3 := zq0_3.2
  have hkHL := zq0_3.1
  replace zq0_3 := zq0_3.2
  have hkHO := zq0_3.1
  replace zq0_3 := zq0_3.2
  have hkFX := zq0_3.1
  replace zq0_3 := zq0_3.2
  have hkBX := zq0_3.1
  replace zq0_3 := zq0_3.2
  have hf_bor := zq0_3.1
  replace zq0_3 := zq0_3.2
  have hf_kin := zq0_3.1
  replace zq0_3 := zq0_3.2
  have hf_sum := zq0_3.1
  replace zq0_3 := zq0_3.2
  have hf_fro := zq0_3.1
  replace zq0_3 := zq0_3.2
  have hf_fil := zq0_3.1
  replace zq0_3 := zq0_3.2
  have hf_hea := zq0_3.1
  replace zq0_3 := zq0_3.2
  have hf_jud := zq0_3.1
  replace zq0_3 := zq0_3.2
  have hf_ear := zq0_3.1
  replace zq0_3 := zq0_3.2
  have hf_hds := zq0_3.1
  replace zq0_3 := zq0_3.2
  have hf_ord := zq0_3.1
  replace zq0_3 := zq0_3.2
  have hf_wkl := zq0_3.1
  replace zq0_3 := zq0_3.2
  have hf_owd := zq0_3.1
  replace zq0_3 := zq0_3.2
  have hf_gds := zq0_3.1
  replace zq0_3 := zq0_3.2
  have hf_szd := zq0_3.1
  replace zq0_3 := zq0_3.2
  have hf_srv := zq0_3.1
  replace zq0_3 := zq0_3.2
  have hkP0 := zq0_3.1
  replace zq0_3 := zq0_3.2
  have hkP1 := zq0_3.1
  replace zq0_3 := zq0_3.2
  have hkP2 := zq0_3.1
  replace zq0_3 := zq0_3.2
  have hkP3 := zq0_3.1
  replace zq0_3 := zq0_3.2
  have hkP4 := zq0_3.1
  replace zq0_3 := zq0_3.2
  have hkNQ := zq0_3.1
  replace zq0_3 := zq0_3.2
  have hkRL := zq0_3.1
  replace zq0_3 := zq0_3.2
  have hc_dead := zq0_3.1
  replace zq0_3 := zq0_3.2
  have hc_isj := zq0_3.1
  replace zq0_3 := zq0_3.2
  have hc_dox := zq0_3.1
  replace zq0_3 := zq0_3.2
  have hc_doy := zq0_3.1
  replace zq0_3 := zq0_3.2
  have hc_fou := zq0_3.1
  replace zq0_3 := zq0_3.2
  have hc_tri := zq0_3.1
  replace zq0_3 := zq0_3.2
  replace hI9 := hI9.2
  have zq0_4 := hI9.1
  have ia := zq0_4.1
  replace zq0_4 := zq0_4.2
  have ip := zq0_4.1
  replace zq0_4 := zq0_4.2
  have ic := zq0_4.1
  replace zq0_4 := zq0_4.2
  have ih := zq0_4.1
  replace zq0_4 := zq0_4.2
  have il := zq0_4
  replace hI9 := hI9.2
  have zq0_5 := hI9
  have jw := zq0_5.1
  replace zq0_5 := zq0_5.2
  have jr := zq0_5.1
  replace zq0_5 := zq0_5.2
  have jp := zq0_5.1
  replace zq0_5 := zq0_5.2
  have jl := zq0_5.1
  replace zq0_5 := zq0_5.2
  have jh := zq0_5.1
  replace zq0_5 := zq0_5.2
  have jt := zq0_5.1
  replace zq0_5 := zq0_5.2
  have jf := zq0_5
  obtain ⟨qa, f_qa, g_qa⟩ := hx_rf hT gx tt_9 (k := 5) (u := 43) rfl
  have pf_qa := ia qa f_qa
  obtain ⟨qp, f_qp, g_qp⟩ := hx_rf hT gx tt_9 (k := 7) (u := 44) rfl
  have pf_qp := ip qp f_qp
  obtain ⟨qc, f_qc, g_qc⟩ := hx_rf hT gx tt_9 (k := 10) (u := 45) rfl
  have pf_qc := ic qc f_qc
  obtain ⟨qh, f_qh, g_qh⟩ := hx_rf hT gx tt_9 (k := 12) (u := 46) rfl
  have pf_qh := ih qh f_qh
  obtain ⟨qw, f_qw, g_qw⟩ := hx_rf hT gx tt_9 (k := 19) (u := 8) rfl
  obtain ⟨ql, f_ql, g_ql⟩ := hx_rf hT g_qw tt_8 (k := 3) (u := 40) rfl
  have pf_ql := il qw ql f_qw f_ql
  obtain ⟨nw, f_m_now⟩ : ∃ y : Int32, hl1.2.1 am 0 = y := ⟨_, rfl⟩
  have b_nw := hT.gi gm tt_10 (k := 0) rfl
  rw [f_m_now] at b_nw
  have b_nw : 0 ≤ nw.toInt ∧ nw.toInt ≤ 7999 := b_nw
  obtain ⟨np, f_m_persons⟩ : ∃ y : Int32, hl1.2.1 am 20 = y := ⟨_, rfl⟩
  have b_np := hT.gi gm tt_10 (k := 20) rfl
  rw [f_m_persons] at b_np
  have b_np : 0 ≤ np.toInt ∧ np.toInt ≤ 40 := b_np
  obtain ⟨c0, f_m_claims⟩ : ∃ y : Int32, hl1.2.1 am 36 = y := ⟨_, rfl⟩
  have b_c0 := hT.gi gm tt_10 (k := 36) rfl
  rw [f_m_claims] at b_c0
  have b_c0 : 0 ≤ c0.toInt ∧ c0.toInt ≤ 100 := b_c0
  obtain ⟨tl, f_m_taped⟩ : ∃ y : Int32, hl1.2.1 am 7 = y := ⟨_, rfl⟩
  have b_tl := hT.gi gm tt_10 (k := 7) rfl
  rw [f_m_taped] at b_tl
  have b_tl : 0 ≤ tl.toInt ∧ tl.toInt ≤ 400 := b_tl
  obtain ⟨a0, f_m_acts⟩ : ∃ y : Int32, hl1.2.1 am 1 = y := ⟨_, rfl⟩
  have b_a0 := hT.gi gm tt_10 (k := 1) rfl
  rw [f_m_acts] at b_a0
  have b_a0 : 0 ≤ a0.toInt ∧ a0.toInt ≤ 8 := b_a0
  obtain ⟨m0, f_m_heardMany⟩ : ∃ y : Int32, hl1.2.1 am 57 = y := ⟨_, rfl⟩
  have b_m0 := hT.gi gm tt_10 (k := 57) rfl
  rw [f_m_heardMany] at b_m0
  have b_m0 : 0 ≤ m0.toInt ∧ m0.toInt ≤ 100 := b_m0
  obtain ⟨ln, f_m_lines⟩ : ∃ y : Int32, hl1.2.1 am 29 = y := ⟨_, rfl⟩
  have b_ln := hT.gi gm tt_10 (k := 29) rfl
  rw [f_m_lines] at b_ln
  have b_ln : 0 ≤ ln.toInt ∧ ln.toInt ≤ 400 := b_ln
  obtain ⟨lsd, f_m_listed⟩ : ∃ y : Int32, hl1.2.1 am 90 = y := ⟨_, rfl⟩
  have b_lsd := hT.gi gm tt_10 (k := 90) rfl
  rw [f_m_listed] at b_lsd
  have b_lsd : 0 ≤ lsd.toInt ∧ lsd.toInt ≤ 8 := b_lsd
  obtain ⟨wkm, f_m_walkedMany⟩ : ∃ y : Int32, hl1.2.1 am 92 = y := ⟨_, rfl⟩
  have b_wkm := hT.gi gm tt_10 (k := 92) rfl
  rw [f_m_walkedMany] at b_wkm
  have b_wkm : 0 ≤ wkm.toInt ∧ wkm.toInt ≤ 8 := b_wkm
  obtain ⟨py, f_m_payments⟩ : ∃ y : Int32, hl1.2.1 am 59 = y := ⟨_, rfl⟩
  have b_py := hT.gi gm tt_10 (k := 59) rfl
  rw [f_m_payments] at b_py
  have b_py : 0 ≤ py.toInt ∧ py.toInt ≤ 600 := b_py
  have f_x_now : hl1.2.1 ax 2 = nw := he_nw.trans f_m_now
  have f_x_personCount : hl1.2.1 ax 8 = np := he_np.trans f_m_persons
  have f_x_claimCount : hl1.2.1 ax 11 = c0 := he_c0.trans f_m_claims
  have f_x_tapeLength : hl1.2.1 ax 1 = tl := he_tl.trans f_m_taped
  have f_x_actCount : hl1.2.1 ax 6 = a0 := he_a0.trans f_m_acts
  have f_x_heardCount : hl1.2.1 ax 13 = m0 := he_m0.trans f_m_heardMany
  obtain ⟨mw, f_mw, g_mw⟩ := hx_rf hT gm tt_10 (k := 19) (u := 57) rfl
  obtain ⟨F_mw, n_mw⟩ : ∃ g : Nat → Int32, hl1.2.1 mw = g := ⟨_, rfl⟩
  obtain ⟨mr, f_mr, g_mr⟩ := hx_rf hT gm tt_10 (k := 3) (u := 50) rfl
  obtain ⟨F_mr, n_mr⟩ : ∃ g : Nat → Int32, hl1.2.1 mr = g := ⟨_, rfl⟩
  obtain ⟨mp, f_mp, g_mp⟩ := hx_rf hT gm tt_10 (k := 5) (u := 52) rfl
  obtain ⟨F_mp, n_mp⟩ : ∃ g : Nat → Int32, hl1.2.1 mp = g := ⟨_, rfl⟩
  obtain ⟨mn, f_mn, g_mn⟩ := hx_rf hT gm tt_10 (k := 4) (u := 51) rfl
  obtain ⟨F_mn, n_mn⟩ : ∃ g : Nat → Int32, hl1.2.1 mn = g := ⟨_, rfl⟩
  obtain ⟨ml, f_ml, g_ml⟩ := hx_rf hT gm tt_10 (k := 44) (u := 79) rfl
  obtain ⟨F_ml, n_ml⟩ : ∃ g : Nat → Int32, hl1.2.1 ml = g := ⟨_, rfl⟩
  obtain ⟨mh, f_mh, g_mh⟩ := hx_rf hT gm tt_10 (k := 47) (u := 82) rfl
  obtain ⟨F_mh, n_mh⟩ : ∃ g : Nat → Int32, hl1.2.1 mh = g := ⟨_, rfl⟩
  obtain ⟨mt, f_mt, g_mt⟩ := hx_rf hT gm tt_10 (k := 45) (u := 80) rfl
  obtain ⟨F_mt, n_mt⟩ : ∃ g : Nat → Int32, hl1.2.1 mt = g := ⟨_, rfl⟩
  obtain ⟨m_fou, f_m_fou, g_m_fou⟩ := hx_rf hT gm tt_10 (k := 46) (u := 81) rfl
  obtain ⟨F_m_fou, n_m_fou⟩ : ∃ g : Nat → Int32, hl1.2.1 m_fou = g := ⟨_, rfl⟩
  obtain ⟨qo_ln, f_qo_ln, g_qo_ln⟩ := hx_rf hT gx tt_9 (k := 9) (u := 1) rfl
  have f_o_ln : hl1.2.1 qo_ln 0 = ln := (ho_ln qo_ln f_qo_ln).trans f_m_lines
  have f_o_lsd : hl1.2.1 qw 0 = lsd := (ho_lsd qw f_qw).trans f_m_listed
  have f_o_wkm : hl1.2.1 qw 1 = wkm := (ho_wkm qw f_qw).trans f_m_walkedMany
  obtain ⟨qo_py, f_qo_py, g_qo_py⟩ := hx_rf hT gx tt_9 (k := 14) (u := 3) rfl
  have f_o_py : hl1.2.1 qo_py 0 = py := (ho_py qo_py f_qo_py).trans f_m_payments
  have nu_qp := hn_qp qp f_qp; rw [f_x_personCount] at nu_qp
  have nu_qc := hn_qc qc f_qc; rw [f_x_claimCount] at nu_qc
  obtain ⟨b_of, f_b_of, g_b_of⟩ := hx_rf hT g_qo_ln tt_1 (k := 1) (u := 13) rfl
  obtain ⟨B_of, n_b_of⟩ : ∃ g : Nat → Int32, hl1.2.1 b_of = g := ⟨_, rfl⟩
  obtain ⟨m_of, f_m_of, g_m_of⟩ := hx_rf hT gm tt_10 (k := 30) (u := 66) rfl
  obtain ⟨F_of, n_m_of⟩ : ∃ g : Nat → Int32, hl1.2.1 m_of = g := ⟨_, rfl⟩
  have eb_of := hk_of qo_ln b_of m_of f_qo_ln f_b_of f_m_of; rw [n_b_of, n_m_of, f_o_ln] at eb_of
  obtain ⟨b_wf, f_b_wf, g_b_wf⟩ := hx_rf hT g_qo_ln tt_1 (k := 2) (u := 14) rfl
  obtain ⟨B_wf, n_b_wf⟩ : ∃ g : Nat → Int32, hl1.2.1 b_wf = g := ⟨_, rfl⟩
  obtain ⟨m_wf, f_m_wf, g_m_wf⟩ := hx_rf hT gm tt_10 (k := 31) (u := 67) rfl
  obtain ⟨F_wf, n_m_wf⟩ : ∃ g : Nat → Int32, hl1.2.1 m_wf = g := ⟨_, rfl⟩
  have eb_wf := hk_wf qo_ln b_wf m_wf f_qo_ln f_b_wf f_m_wf; rw [n_b_wf, n_m_wf, f_o_ln] at eb_wf
  obtain ⟨b_df, f_b_df, g_b_df⟩ := hx_rf hT g_qo_ln tt_1 (k := 3) (u := 15) rfl
  obtain ⟨B_df, n_b_df⟩ : ∃ g : Nat → Int32, hl1.2.1 b_df = g := ⟨_, rfl⟩
  obtain ⟨m_df, f_m_df, g_m_df⟩ := hx_rf hT gm tt_10 (k := 32) (u := 68) rfl
  obtain ⟨F_df, n_m_df⟩ : ∃ g : Nat → Int32, hl1.2.1 m_df = g := ⟨_, rfl⟩
  have eb_df := hk_df qo_ln b_df m_df f_qo_ln f_b_df f_m_df; rw [n_b_df, n_m_df, f_o_ln] at eb_df
  obtain ⟨b_kf, f_b_kf, g_b_kf⟩ := hx_rf hT g_qo_ln tt_1 (k := 4) (u := 16) rfl
  obtain ⟨B_kf, n_b_kf⟩ : ∃ g : Nat → Int32, hl1.2.1 b_kf = g := ⟨_, rfl⟩
  obtain ⟨m_kf, f_m_kf, g_m_kf⟩ := hx_rf hT gm tt_10 (k := 33) (u := 69) rfl
  obtain ⟨F_kf, n_m_kf⟩ : ∃ g : Nat → Int32, hl1.2.1 m_kf = g := ⟨_, rfl⟩
  have eb_kf := hk_kf qo_ln b_kf m_kf f_qo_ln f_b_kf f_m_kf; rw [n_b_kf, n_m_kf, f_o_ln] at eb_kf
  obtain ⟨b_sf, f_b_sf, g_b_sf⟩ := hx_rf hT g_qo_ln tt_1 (k := 5) (u := 17) rfl
  obtain ⟨B_sf, n_b_sf⟩ : ∃ g : Nat → Int32, hl1.2.1 b_sf = g := ⟨_, rfl⟩
  obtain ⟨m_sf, f_m_sf, g_m_sf⟩ := hx_rf hT gm tt_10 (k := 34) (u := 70) rfl
  obtain ⟨F_sf, n_m_sf⟩ : ∃ g : Nat → Int32, hl1.2.1 m_sf = g := ⟨_, rfl⟩
  have eb_sf := hk_sf qo_ln b_sf m_sf f_qo_ln f_b_sf f_m_sf; rw [n_b_sf, n_m_sf, f_o_ln] at eb_sf
  obtain ⟨b_bf, f_b_bf, g_b_bf⟩ := hx_rf hT g_qo_ln tt_1 (k := 6) (u := 18) rfl
  obtain ⟨bfL, n_b_bf⟩ : ∃ g : Nat → Int32, hl1.2.1 b_bf = g := ⟨_, rfl⟩
  obtain ⟨hBD, hDY⟩ := hkBD qo_ln b_df b_bf f_qo_ln f_b_df f_b_bf; rw [n_b_df, n_b_bf, f_o_ln] at hBD; rw [n_b_df, f_o_ln] at hDY
  have hBDm := hy_BD_c eb_df hBD
  have hDYm : hy_DY F_df ln.toInt.toNat := fun x hx => by rw [← eb_df x hx]; exact hDY x hx
  have sb_list := hLQ qw ql qc f_qw f_ql f_qc
  obtain ⟨m_lst, f_m_lst, g_m_lst⟩ := hx_rf hT gm tt_10 (k := 91) (u := 112) rfl
  obtain ⟨F_lst, n_lst⟩ : ∃ g : Nat → Int32, hl1.2.1 m_lst = g := ⟨_, rfl⟩
  obtain ⟨c_lst, cl_lst⟩ : ∃ g : Nat → Int32, hx_col 8 hl1 ql 0 = g := ⟨_, rfl⟩
  have eq_lst := hLE qw ql m_lst f_qw f_ql f_m_lst; rw [cl_lst, n_lst] at eq_lst
  obtain ⟨qtp, f_qtp, g_qtp⟩ := hx_rf hT gx tt_9 (k := 0) (u := 42) rfl
  obtain ⟨m_tp, f_m_tp, g_m_tp⟩ := hx_rf hT gm tt_10 (k := 6) (u := 53) rfl
  obtain ⟨F_tp, n_tp⟩ : ∃ g : Nat → Int32, hl1.2.1 m_tp = g := ⟨_, rfl⟩
  have n_qtp : hl1.2.1 qtp = F_tp := (hkTP qtp m_tp f_qtp f_m_tp).trans n_tp
  obtain ⟨c_dead, cl_dead⟩ : ∃ g : Nat → Int32, hx_col 40 hl1 qp 7 = g := ⟨_, rfl⟩
  obtain ⟨m_dead, f_m_dead, g_m_dead⟩ := hx_rf hT gm tt_10 (k := 27) (u := 64) rfl
  obtain ⟨F_dead, n_dead⟩ : ∃ g : Nat → Int32, hl1.2.1 m_dead = g := ⟨_, rfl⟩
  have eq_dead := hc_dead qp m_dead f_qp f_m_dead; rw [cl_dead, n_dead] at eq_dead
  have z_dead : np.toInt.toNat < 40 → c_dead np.toInt.toNat = 0 := fun hj => hx_num_z nu_qp cl_dead hj ?o0
  case o0 => omega
  obtain ⟨c_isj, cl_isj⟩ : ∃ g : Nat → Int32, hx_col 40 hl1 qp 8 = g := ⟨_, rfl⟩
  obtain ⟨m_isj, f_m_isj, g_m_isj⟩ := hx_rf hT gm tt_10 (k := 28) (u := 65) rfl
  obtain ⟨F_isj, n_isj⟩ : ∃ g : Nat → Int32, hl1.2.1 m_isj = g := ⟨_, rfl⟩
  have eq_isj := hc_isj qp m_isj f_qp f_m_isj; rw [cl_isj, n_isj] at eq_isj
  have z_isj : np.toInt.toNat < 40 → c_isj np.toInt.toNat = 0 := fun hj => hx_num_z nu_qp cl_isj hj ?o1
  case o1 => omega
  obtain ⟨c_dox, cl_dox⟩ : ∃ g : Nat → Int32, hx_col 40 hl1 qp 5 = g := ⟨_, rfl⟩
  obtain ⟨m_dox, f_m_dox, g_m_dox⟩ := hx_rf hT gm tt_10 (k := 24) (u := 61) rfl
  obtain ⟨F_dox, n_dox⟩ : ∃ g : Nat → Int32, hl1.2.1 m_dox = g := ⟨_, rfl⟩
  have eq_dox := hc_dox qp m_dox f_qp f_m_dox; rw [cl_dox, n_dox] at eq_dox
  have z_dox : np.toInt.toNat < 40 → c_dox np.toInt.toNat = 0 := fun hj => hx_num_z nu_qp cl_dox hj ?o2
  case o2 => omega
  obtain ⟨c_doy, cl_doy⟩ : ∃ g : Nat → Int32, hx_col 40 hl1 qp 6 = g := ⟨_, rfl⟩
  obtain ⟨m_doy, f_m_doy, g_m_doy⟩ := hx_rf hT gm tt_10 (k := 25) (u := 62) rfl
  obtain ⟨F_doy, n_doy⟩ : ∃ g : Nat → Int32, hl1.2.1 m_doy = g := ⟨_, rfl⟩
  have eq_doy := hc_doy qp m_doy f_qp f_m_doy; rw [cl_doy, n_doy] at eq_doy
  have z_doy : np.toInt.toNat < 40 → c_doy np.toInt.toNat = 0 := fun hj => hx_num_z nu_qp cl_doy hj ?o3
  case o3 => omega
  obtain ⟨c_fou, cl_fou⟩ : ∃ g : Nat → Int32, hx_col 100 hl1 qc 10 = g := ⟨_, rfl⟩
  have eq_fou := hc_fou qc m_fou f_qc f_m_fou; rw [cl_fou, n_m_fou] at eq_fou
  have z_fou : c0.toInt.toNat < 100 → c_fou c0.toInt.toNat = 0 := fun hj => hx_num_z nu_qc cl_fou hj ?o4
  case o4 => omega
  obtain ⟨c_tri, cl_tri⟩ : ∃ g : Nat → Int32, hx_col 100 hl1 qc 9 = g := ⟨_, rfl⟩
  have eq_tri := hc_tri qc mt f_qc f_mt; rw [cl_tri, n_mt] at eq_tri
  have z_tri : c0.toInt.toNat < 100 → c_tri c0.toInt.toNat = 0 := fun hj => hx_num_z nu_qc cl_tri hj ?o5
  case o5 => omega
  obtain ⟨qlt, f_qlt, g_qlt⟩ := hx_rf hT g_qw tt_8 (k := 2) (u := 39) rfl
  obtain ⟨qlf, f_qlf, g_qlf⟩ := hx_rf hT g_qw tt_8 (k := 4) (u := 41) rfl
  obtain ⟨m_wkd, f_m_wkd, g_m_wkd⟩ := hx_rf hT gm tt_10 (k := 93) (u := 113) rfl
  obtain ⟨F_qlt, n_qlt⟩ : ∃ g : Nat → Int32, hl1.2.1 qlt = g := ⟨_, rfl⟩
  obtain ⟨F_m_wkd, n_m_wkd⟩ : ∃ g : Nat → Int32, hl1.2.1 m_wkd = g := ⟨_, rfl⟩
  have eb_wkd := hkWD qw qlt m_wkd f_qw f_qlt f_m_wkd; rw [n_qlt, n_m_wkd, f_o_wkm] at eb_wkd
  obtain ⟨m_aga, f_m_aga, g_m_aga⟩ := hx_rf hT gm tt_10 (k := 38) (u := 73) rfl
  obtain ⟨F_aga, n_aga⟩ : ∃ g : Nat → Int32, hl1.2.1 m_aga = g := ⟨_, rfl⟩
  have hDF := hkDF qc qp m_aga f_qc f_qp f_m_aga; rw [n_aga, f_x_claimCount] at hDF
  obtain ⟨qwo, f_qwo, g_qwo⟩ := hx_rf hT gx tt_9 (k := 4) (u := 0) rfl
  obtain ⟨m_ad, f_m_ad, g_m_ad⟩ := hx_rf hT gm tt_10 (k := 2) (u := 49) rfl
  obtain ⟨F_ad, n_ad⟩ : ∃ g : Nat → Int32, hl1.2.1 m_ad = g := ⟨_, rfl⟩
  obtain ⟨A9, hRA9, hCA9, hAC9, hAB⟩ := hkAC qa qwo m_ad mr mn mp qc ml f_qa f_qwo f_m_ad f_mr f_mn f_mp f_qc f_ml
  rw [f_x_actCount] at hRA9; rw [f_x_actCount, n_ad, n_mr, n_mn, n_mp] at hCA9
  obtain ⟨m_by, f_m_by, g_m_by⟩ := hx_rf hT gm tt_10 (k := 37) (u := 72) rfl
  obtain ⟨F_by, n_by⟩ : ∃ g : Nat → Int32, hl1.2.1 m_by = g := ⟨_, rfl⟩
  obtain ⟨m_ho, f_m_ho, g_m_ho⟩ := hx_rf hT gm tt_10 (k := 58) (u := 92) rfl
  obtain ⟨F_ho, n_ho⟩ : ∃ g : Nat → Int32, hl1.2.1 m_ho = g := ⟨_, rfl⟩
  obtain ⟨m_fc, f_m_fc, g_m_fc⟩ := hx_rf hT gm tt_10 (k := 53) (u := 88) rfl
  obtain ⟨F_fc, n_fc⟩ : ∃ g : Nat → Int32, hl1.2.1 m_fc = g := ⟨_, rfl⟩
  obtain ⟨m_nt, f_m_nt, g_m_nt⟩ := hx_rf hT gm tt_10 (k := 41) (u := 76) rfl
  obtain ⟨F_nt, n_nt⟩ : ∃ g : Nat → Int32, hl1.2.1 m_nt = g := ⟨_, rfl⟩
  obtain ⟨m_wt, f_m_wt, g_m_wt⟩ := hx_rf hT gm tt_10 (k := 42) (u := 77) rfl
  obtain ⟨F_wt, n_wt⟩ : ∃ g : Nat → Int32, hl1.2.1 m_wt = g := ⟨_, rfl⟩
  obtain ⟨m_be, f_m_be, g_m_be⟩ := hx_rf hT gm tt_10 (k := 52) (u := 87) rfl
  obtain ⟨F_be, n_be⟩ : ∃ g : Nat → Int32, hl1.2.1 m_be = g := ⟨_, rfl⟩
  obtain ⟨m_bor, f_m_bor, g_m_bor⟩ := hx_rf hT gm tt_10 (k := 21) (u := 58) rfl
  obtain ⟨F_bor, n_bor⟩ : ∃ g : Nat → Int32, hl1.2.1 m_bor = g := ⟨_, rfl⟩
  obtain ⟨m_kin, f_m_kin, g_m_kin⟩ := hx_rf hT gm tt_10 (k := 26) (u := 63) rfl
  obtain ⟨F_kin, n_kin⟩ : ∃ g : Nat → Int32, hl1.2.1 m_kin = g := ⟨_, rfl⟩
  obtain ⟨m_sum, f_m_sum, g_m_sum⟩ := hx_rf hT gm tt_10 (k := 39) (u := 74) rfl
  obtain ⟨F_sum, n_sum⟩ : ∃ g : Nat → Int32, hl1.2.1 m_sum = g := ⟨_, rfl⟩
  obtain ⟨m_fro, f_m_fro, g_m_fro⟩ := hx_rf hT gm tt_10 (k := 40) (u := 75) rfl
  obtain ⟨F_fro, n_fro⟩ : ∃ g : Nat → Int32, hl1.2.1 m_fro = g := ⟨_, rfl⟩
  obtain ⟨m_fil, f_m_fil, g_m_fil⟩ := hx_rf hT gm tt_10 (k := 43) (u := 78) rfl
  obtain ⟨F_fil, n_fil⟩ : ∃ g : Nat → Int32, hl1.2.1 m_fil = g := ⟨_, rfl⟩
  obtain ⟨m_jud, f_m_jud, g_m_jud⟩ := hx_rf hT gm tt_10 (k := 51) (u := 86) rfl
  obtain ⟨F_jud, n_jud⟩ : ∃ g : Nat → Int32, hl1.2.1 m_jud = g := ⟨_, rfl⟩
  obtain ⟨m_ear, f_m_ear, g_m_ear⟩ := hx_rf hT gm tt_10 (k := 22) (u := 59) rfl
  obtain ⟨F_ear, n_ear⟩ : ∃ g : Nat → Int32, hl1.2.1 m_ear = g := ⟨_, rfl⟩
  obtain ⟨m_hds, f_m_hds, g_m_hds⟩ := hx_rf hT gm tt_10 (k := 23) (u := 60) rfl
  obtain ⟨F_hds, n_hds⟩ : ∃ g : Nat → Int32, hl1.2.1 m_hds = g := ⟨_, rfl⟩
  obtain ⟨m_ord, f_m_ord, g_m_ord⟩ := hx_rf hT gm tt_10 (k := 48) (u := 83) rfl
  obtain ⟨F_ord, n_ord⟩ : ∃ g : Nat → Int32, hl1.2.1 m_ord = g := ⟨_, rfl⟩
  obtain ⟨m_wkl, f_m_wkl, g_m_wkl⟩ := hx_rf hT gm tt_10 (k := 54) (u := 89) rfl
  obtain ⟨F_wkl, n_wkl⟩ : ∃ g : Nat → Int32, hl1.2.1 m_wkl = g := ⟨_, rfl⟩
  obtain ⟨m_owd, f_m_owd, g_m_owd⟩ := hx_rf hT gm tt_10 (k := 55) (u := 90) rfl
  obtain ⟨F_owd, n_owd⟩ : ∃ g : Nat → Int32, hl1.2.1 m_owd = g := ⟨_, rfl⟩
  obtain ⟨m_gds, f_m_gds, g_m_gds⟩ := hx_rf hT gm tt_10 (k := 56) (u := 91) rfl
  obtain ⟨F_gds, n_gds⟩ : ∃ g : Nat → Int32, hl1.2.1 m_gds = g := ⟨_, rfl⟩
  obtain ⟨m_szd, f_m_szd, g_m_szd⟩ := hx_rf hT gm tt_10 (k := 49) (u := 84) rfl
  obtain ⟨F_szd, n_szd⟩ : ∃ g : Nat → Int32, hl1.2.1 m_szd = g := ⟨_, rfl⟩
  obtain ⟨m_srv, f_m_srv, g_m_srv⟩ := hx_rf hT gm tt_10 (k := 50) (u := 85) rfl
  obtain ⟨F_srv, n_srv⟩ : ∃ g : Nat → Int32, hl1.2.1 m_srv = g := ⟨_, rfl⟩
  have cl_bor : hx_col 40 hl1 qp 1 = F_bor := (hf_bor qp m_bor f_qp f_m_bor).trans n_bor
  have cl_kin : hx_col 40 hl1 qp 2 = F_kin := (hf_kin qp m_kin f_qp f_m_kin).trans n_kin
  have cl_sum : hx_col 100 hl1 qc 6 = F_sum := (hf_sum qc m_sum f_qc f_m_sum).trans n_sum
  have cl_fro : hx_col 100 hl1 qc 7 = F_fro := (hf_fro qc m_fro f_qc f_m_fro).trans n_fro
  have cl_fil : hx_col 100 hl1 qc 8 = F_fil := (hf_fil qc m_fil f_qc f_m_fil).trans n_fil
  have cl_hea : hx_col 100 hl1 qc 11 = F_mh := (hf_hea qc mh f_qc f_mh).trans n_mh
  have cl_jud : hx_col 100 hl1 qc 12 = F_jud := (hf_jud qc m_jud f_qc f_m_jud).trans n_jud
  have cl_ear : hx_col 40 hl1 qp 3 = F_ear := (hf_ear qp m_ear f_qp f_m_ear).trans n_ear
  have cl_hds : hx_col 40 hl1 qp 4 = F_hds := (hf_hds qp m_hds f_qp f_m_hds).trans n_hds
  have cl_ord : hx_col 100 hl1 qc 13 = F_ord := (hf_ord qc m_ord f_qc f_m_ord).trans n_ord
  have cl_wkl : hx_col 100 hl1 qc 14 = F_wkl := (hf_wkl qc m_wkl f_qc f_m_wkl).trans n_wkl
  have cl_owd : hx_col 100 hl1 qc 15 = F_owd := (hf_owd qc m_owd f_qc f_m_owd).trans n_owd
  have cl_gds : hx_col 100 hl1 qc 17 = F_gds := (hf_gds qc m_gds f_qc f_m_gds).trans n_gds
  have cl_szd : hx_col 100 hl1 qc 16 = F_szd := (hf_szd qc m_szd f_qc f_m_szd).trans n_szd
  have cl_srv : hx_col 100 hl1 qc 18 = F_srv := (hf_srv qc m_srv f_qc f_m_srv).trans n_srv
  have htb9 : ∀ c, c < 100 → 0 ≤ (c_tri c).toInt ∧ (c_tri c).toInt ≤ 512 := fun c hc => by rw [eq_tri c hc]; have w := hT.ei g_mt tt_80 (k := c) hc; rw [n_mt] at w; exact w
  have z_jud : F_jud c0.toInt.toNat = 0 := hx_num_z2 nu_qc cl_jud ?o6
  case o6 => omega
  have hDP := hkDP qc qp m_by f_qc f_qp f_m_by; rw [n_by, f_x_claimCount] at hDP
  have hHL := hkHL qh qc m_ho f_qh f_qc f_m_ho; rw [n_ho, f_x_heardCount, f_x_claimCount] at hHL
  have hHO9 := hkHO m_ho mh f_m_ho f_mh; rw [n_ho, n_mh, f_m_heardMany, f_m_claims] at hHO9
  obtain ⟨cF9L, hFX, hFR9⟩ := hkFX qc m_fc m_nt m_wt m_sum mh f_qc f_m_fc f_m_nt f_m_wt f_m_sum f_mh; rw [f_x_claimCount] at hFX; rw [n_fc, n_nt, n_wt, n_sum, n_mh, f_x_claimCount] at hFR9
  have hBX := hkBX qc m_be f_qc f_m_be; rw [n_be, f_x_claimCount] at hBX
  rw [n_ml, f_x_claimCount] at hAC9
  obtain ⟨y_p0, f_y_p0, g_y_p0⟩ := hx_rf hT g_qo_py tt_3 (k := 2) (u := 23) rfl
  obtain ⟨m_p0, f_m_p0, g_m_p0⟩ := hx_rf hT gm tt_10 (k := 60) (u := 93) rfl
  obtain ⟨F_p0, n_p0⟩ : ∃ g : Nat → Int32, hl1.2.1 m_p0 = g := ⟨_, rfl⟩
  have n_y_p0 : hl1.2.1 y_p0 = F_p0 := (hkP0 qo_py y_p0 m_p0 f_qo_py f_y_p0 f_m_p0).trans n_p0
  obtain ⟨y_p1, f_y_p1, g_y_p1⟩ := hx_rf hT g_qo_py tt_3 (k := 3) (u := 24) rfl
  obtain ⟨m_p1, f_m_p1, g_m_p1⟩ := hx_rf hT gm tt_10 (k := 61) (u := 94) rfl
  obtain ⟨F_p1, n_p1⟩ : ∃ g : Nat → Int32, hl1.2.1 m_p1 = g := ⟨_, rfl⟩
  have n_y_p1 : hl1.2.1 y_p1 = F_p1 := (hkP1 qo_py y_p1 m_p1 f_qo_py f_y_p1 f_m_p1).trans n_p1
  obtain ⟨y_p2, f_y_p2, g_y_p2⟩ := hx_rf hT g_qo_py tt_3 (k := 5) (u := 26) rfl
  obtain ⟨m_p2, f_m_p2, g_m_p2⟩ := hx_rf hT gm tt_10 (k := 62) (u := 95) rfl
  obtain ⟨F_p2, n_p2⟩ : ∃ g : Nat → Int32, hl1.2.1 m_p2 = g := ⟨_, rfl⟩
  have n_y_p2 : hl1.2.1 y_p2 = F_p2 := (hkP2 qo_py y_p2 m_p2 f_qo_py f_y_p2 f_m_p2).trans n_p2
  obtain ⟨y_p3, f_y_p3, g_y_p3⟩ := hx_rf hT g_qo_py tt_3 (k := 4) (u := 25) rfl
  obtain ⟨m_p3, f_m_p3, g_m_p3⟩ := hx_rf hT gm tt_10 (k := 63) (u := 96) rfl
  obtain ⟨F_p3, n_p3⟩ : ∃ g : Nat → Int32, hl1.2.1 m_p3 = g := ⟨_, rfl⟩
  have n_y_p3 : hl1.2.1 y_p3 = F_p3 := (hkP3 qo_py y_p3 m_p3 f_qo_py f_y_p3 f_m_p3).trans n_p3
  obtain ⟨y_p4, f_y_p4, g_y_p4⟩ := hx_rf hT g_qo_py tt_3 (k := 1) (u := 22) rfl
  obtain ⟨m_p4, f_m_p4, g_m_p4⟩ := hx_rf hT gm tt_10 (k := 64) (u := 97) rfl
  obtain ⟨F_p4, n_p4⟩ : ∃ g : Nat → Int32, hl1.2.1 m_p4 = g := ⟨_, rfl⟩
  have n_y_p4 : hl1.2.1 y_p4 = F_p4 := (hkP4 qo_py y_p4 m_p4 f_qo_py f_y_p4 f_m_p4).trans n_p4
  obtain ⟨qrg9, f_qrg9, g_qrg9⟩ := hx_rf hT gx tt_9 (k := 18) (u := 7) rfl
  obtain ⟨y_ls, f_y_ls, g_y_ls⟩ := hx_rf hT g_qrg9 tt_7 (k := 3) (u := 35) rfl
  obtain ⟨m_rl, f_m_rl, g_m_rl⟩ := hx_rf hT gm tt_10 (k := 85) (u := 109) rfl
  obtain ⟨F_y_ls, n_y_ls⟩ : ∃ g : Nat → Int32, hl1.2.1 y_ls = g := ⟨_, rfl⟩
  obtain ⟨F_m_rl, n_m_rl⟩ : ∃ g : Nat → Int32, hl1.2.1 m_rl = g := ⟨_, rfl⟩
  obtain ⟨fv_609, efv_609⟩ : ∃ y : Int32, y = hl1.2.1 qrg9 0 := ⟨_, rfl⟩
  have bfv_609 := hT.gi g_qrg9 tt_7 (k := 0) rfl
  rw [← efv_609] at bfv_609
  have bfv_609 : -1 ≤ fv_609.toInt ∧ fv_609.toInt ≤ 100 := bfv_609
  have ffv_609 := efv_609.symm
  obtain ⟨fv_610, efv_610⟩ : ∃ y : Int32, y = hl1.2.1 am 83 := ⟨_, rfl⟩
  have bfv_610 := hT.gi gm tt_10 (k := 83) rfl
  rw [← efv_610] at bfv_610
  have bfv_610 : 0 ≤ fv_610.toInt ∧ fv_610.toInt ≤ 1 := bfv_610
  have ffv_610 := efv_610.symm
  obtain ⟨fv_611, efv_611⟩ : ∃ y : Int32, y = hl1.2.1 am 84 := ⟨_, rfl⟩
  have bfv_611 := hT.gi gm tt_10 (k := 84) rfl
  rw [← efv_611] at bfv_611
  have bfv_611 : 0 ≤ fv_611.toInt ∧ fv_611.toInt ≤ 300 := bfv_611
  have ffv_611 := efv_611.symm
  have hNQ9 := hkNQ qrg9 f_qrg9; rw [ffv_609, ffv_610, ffv_611] at hNQ9
  have hRL9 := hkRL qrg9 y_ls m_rl f_qrg9 f_y_ls f_m_rl; rw [n_y_ls, n_m_rl, ffv_609] at hRL9
  have hCB : hz_CB F_ord F_wkl F_owd F_szd F_gds F_srv := fun c hc => ⟨by have w := hT.ei g_m_ord tt_83 (k := c) (by omega); rw [n_ord] at w; exact w, by have w := hT.ei g_m_wkl tt_89 (k := c) (by omega); rw [n_wkl] at w; exact w, by have w := hT.ei g_m_owd tt_90 (k := c) (by omega); rw [n_owd] at w; exact w, by have w := hT.ei g_m_szd tt_84 (k := c) (by omega); rw [n_szd] at w; exact w, by have w := hT.ei g_m_gds tt_91 (k := c) (by omega); rw [n_gds] at w; exact w, by have w := hT.ei g_m_srv tt_85 (k := c) (by omega); rw [n_srv] at w; exact w⟩
  have hps : ∀ j, j < 600 → 0 ≤ (F_p2 j).toInt ∧ (F_p2 j).toInt ≤ 610000 := fun j hj => by have w := hT.ei g_m_p2 tt_95 (k := j) (by omega); rw [n_p2] at w; exact w
  have hte9 : ∀ c : Nat, c < 100 → (0 ≤ (c_tri c).toInt ∧ (c_tri c).toInt ≤ 512) ∧ (0 ≤ (F_sum c).toInt ∧ (F_sum c).toInt ≤ 9999) := fun c hc => ⟨htb9 c hc, by have w := hT.ei g_m_sum tt_74 (k := c) (by omega); rw [n_sum] at w; exact w⟩
  have hee9 : ∀ c : Nat, c < 40 → (0 ≤ (F_ear c).toInt ∧ (F_ear c).toInt ≤ 9999) ∧ (0 ≤ (F_hds c).toInt ∧ (F_hds c).toInt ≤ 20) := fun c hc => ⟨by have w := hT.ei g_m_ear tt_59 (k := c) (by omega); rw [n_ear] at w; exact w, by have w := hT.ei g_m_hds tt_60 (k := c) (by omega); rw [n_hds] at w; exact w⟩
  have bAG9 : ∀ k, k < 100 → 0 ≤ (F_aga k).toInt ∧ (F_aga k).toInt ≤ 39 := fun k hk => by have w := hT.ei g_m_aga tt_73 (k := k) (by omega); rw [n_aga] at w; exact w
  have bBY9 : ∀ k, k < 100 → 0 ≤ (F_by k).toInt ∧ (F_by k).toInt ≤ 39 := fun k hk => by have w := hT.ei g_m_by tt_72 (k := k) (by omega); rw [n_by] at w; exact w
  have hag9 : ∀ c, c < c0.toInt.toNat → 0 ≤ (F_aga c).toInt ∧ (F_aga c).toInt < 40 ∧ 0 ≤ (F_by c).toInt ∧ (F_by c).toInt < 40 := fun c hc => by have a9 := bAG9 c (by omega); have b9 := bBY9 c (by omega); omega
  have z_wkl : F_wkl c0.toInt.toNat = 0 := hx_num_z2 nu_qc cl_wkl ?o7
  case o7 => omega
  have z_owd : F_owd c0.toInt.toNat = 0 := hx_num_z2 nu_qc cl_owd ?o8
  case o8 => omega
  have z_gds : F_gds c0.toInt.toNat = 0 := hx_num_z2 nu_qc cl_gds ?o9
  case o9 => omega
  have hwd := jw mw f_mw; rw [n_mw] at hwd
  have hWK := jr mr f_mr; rw [n_mr, f_m_acts] at hWK
  have hRP := jp mp mn f_mp f_mn; rw [n_mp, n_mn, f_m_acts] at hRP
  have hPL := jl ml f_ml; rw [n_ml, f_m_claims, f_m_acts] at hPL
  have hHC := jh mh f_mh; rw [n_mh, f_m_heardMany, f_m_claims] at hHC
  have hTR := jt mt f_mt; rw [n_mt] at hTR
  have hHF := jf mh m_fou f_mh f_m_fou; rw [n_mh, n_m_fou, f_m_claims] at hHF
  refine lv_aload_n hx hb dL_law_987 rfl (lv_at hl 2 rfl) ?_
  refine lv_aload_n hx hb dL_law_988 rfl (lv_at hl 3 rfl) ?_
  refine lv_iload_n hx hb dL_law_989 rfl (lv_at hl 0 rfl) ?_
  refine lv_iconst (v := 1) hx hb dL_law_990 ?o10 ?_
  case o10 => decide
  refine lv_iadd hx hb dL_law_991 ?_
  have rg_612 := i32_r i
  refine lv_topi (fun x_613 ex_613 => ?_)
  have zx_613 : x_613.toInt = i.toInt + 1 := ?o11
  case o11 =>
    rw [ex_613]
    refine i32_add rfl ?o12 ?o13 ?o14
    case o12 => decide
    case o13 => omega
    case o14 => omega
  refine va_sld hx hb hX hbl hbA hW.2.2.2.1 (vp_in_iff.mpr ⟨?o15, ?o16⟩) dL_law_992 ?_
  case o15 => omega
  case o16 => omega
  refine lv_topi (fun x_614 ex_614 => ?_)
  refine lv_aload_n hx hb dL_law_993 rfl (lv_at hl 3 rfl) ?_
  refine lv_iload_n hx hb dL_law_994 rfl (lv_at hl 0 rfl) ?_
  refine lv_iconst (v := 2) hx hb dL_law_995 ?o17 ?_
  case o17 => decide
  refine lv_iadd hx hb dL_law_996 ?_
  refine lv_topi (fun x_615 ex_615 => ?_)
  have zx_615 : x_615.toInt = i.toInt + 2 := ?o18
  case o18 =>
    rw [ex_615]
    refine i32_add rfl ?o19 ?o20 ?o21
    case o19 => decide
    case o20 => omega
    case o21 => omega
  refine va_sld hx hb hX hbl hbA hW.2.2.2.1 (vp_in_iff.mpr ⟨?o22, ?o23⟩) dL_law_997 ?_
  case o22 => omega
  case o23 => omega
  refine lv_topi (fun x_616 ex_616 => ?_)
  have hTo := hT
  refine hx_goi (hx_runVX (As := [.int x_614, .int x_616]) (rest := []) ⟨hx, hb, hml, hown, hts⟩ hW gx tt_9 (T := TX9) (N := 20) rfl (t_X9_seize_v l dC dI dA L1 hl1 H.size b0 ax x_614 x_616 hT gx qc g_qc f_qc qo_py g_qo_py f_qo_py y_p0 g_y_p0 f_y_p0 y_p1 g_y_p1 f_y_p1 y_p2 g_y_p2 f_y_p2 y_p3 g_y_p3 f_y_p3 y_p4 g_y_p4 f_y_p4 F_p0 n_y_p0 F_p1 n_y_p1 F_p2 n_y_p2 F_p3 n_y_p3 F_p4 n_y_p4 c0 f_x_claimCount nw f_x_now py f_o_py F_ord cl_ord F_wkl cl_wkl F_owd cl_owd F_szd cl_szd F_gds cl_gds F_srv cl_srv c_fou cl_fou F_mh cl_hea F_jud cl_jud nu_qc F_ml A9 hAC9 hAB hCB hps pf_qc) hZ (cwV 2 hts (hx_gV kw_903 kw_900 kw_901 kw_902 kw_94) rfl rfl rfl (by decide +kernel) ⟨Nat.le_of_ble_eq_true rfl, Nat.le_of_ble_eq_true rfl⟩) rfl hl.1 rfl (Nat.le_of_ble_eq_true rfl) dL_law_998 ⟨(show CC + 0 ≤ 600000 from ?o24), (show SS + 0 ≤ 7302250 from ?o25)⟩) hW (fun r_619 L_617 h_618 H locs p_620 hW => ?_)
  case o24 => omega
  case o25 => omega
  obtain ⟨⟨w_622, w_623, fw_622, fw_623, hr_621⟩, hT, hs⟩ := p_620
  replace hT : hx_T T_tb L_617 h_618 := hT
  replace hs : hx_S T_tb [(2, 16), (2, 17)] L1 hl1 L_617 h_618 := hs
  replace f_qa := (hs.o gx trivial rfl).2.trans f_qa
  replace f_qp := (hs.o gx trivial rfl).2.trans f_qp
  replace f_qc := (hs.o gx trivial rfl).2.trans f_qc
  replace f_qh := (hs.o gx trivial rfl).2.trans f_qh
  replace f_qw := (hs.o gx trivial rfl).2.trans f_qw
  replace f_ql := (hs.o g_qw trivial rfl).2.trans f_ql
  replace f_m_now := (hs.o gm trivial rfl).1.trans f_m_now
  replace f_m_persons := (hs.o gm trivial rfl).1.trans f_m_persons
  replace f_m_claims := (hs.o gm trivial rfl).1.trans f_m_claims
  replace f_m_taped := (hs.o gm trivial rfl).1.trans f_m_taped
  replace f_m_acts := (hs.o gm trivial rfl).1.trans f_m_acts
  replace f_m_heardMany := (hs.o gm trivial rfl).1.trans f_m_heardMany
  replace f_m_lines := (hs.o gm trivial rfl).1.trans f_m_lines
  replace f_m_listed := (hs.o gm trivial rfl).1.trans f_m_listed
  replace f_m_walkedMany := (hs.o gm trivial rfl).1.trans f_m_walkedMany
  replace f_m_payments := (hs.o gm trivial rfl).1.trans f_m_payments
  replace f_x_now := (hs.o gx trivial rfl).1.trans f_x_now
  replace f_x_personCount := (hs.o gx trivial rfl).1.trans f_x_personCount
  replace f_x_claimCount := (hs.o gx trivial rfl).1.trans f_x_claimCount
  replace f_x_tapeLength := (hs.o gx trivial rfl).1.trans f_x_tapeLength
  replace f_x_actCount := (hs.o gx trivial rfl).1.trans f_x_actCount
  replace f_x_heardCount := (hs.o gx trivial rfl).1.trans f_x_heardCount
  replace f_mw := (hs.o gm trivial rfl).2.trans f_mw
  replace f_mr := (hs.o gm trivial rfl).2.trans f_mr
  replace f_mp := (hs.o gm trivial rfl).2.trans f_mp
  replace f_mn := (hs.o gm trivial rfl).2.trans f_mn
  replace f_ml := (hs.o gm trivial rfl).2.trans f_ml
  replace f_mh := (hs.o gm trivial rfl).2.trans f_mh
  replace f_mt := (hs.o gm trivial rfl).2.trans f_mt
  replace f_m_fou := (hs.o gm trivial rfl).2.trans f_m_fou
  replace f_qo_ln := (hs.o gx trivial rfl).2.trans f_qo_ln
  replace f_o_ln := (hs.o g_qo_ln trivial rfl).1.trans f_o_ln
  replace f_o_lsd := (hs.o g_qw trivial rfl).1.trans f_o_lsd
  replace f_o_wkm := (hs.o g_qw trivial rfl).1.trans f_o_wkm
  replace f_qo_py := (hs.o gx trivial rfl).2.trans f_qo_py
  replace f_o_py := (hs.o g_qo_py trivial rfl).1.trans f_o_py
  replace f_b_of := (hs.o g_qo_ln trivial rfl).2.trans f_b_of
  replace f_m_of := (hs.o gm trivial rfl).2.trans f_m_of
  replace f_b_wf := (hs.o g_qo_ln trivial rfl).2.trans f_b_wf
  replace f_m_wf := (hs.o gm trivial rfl).2.trans f_m_wf
  replace f_b_df := (hs.o g_qo_ln trivial rfl).2.trans f_b_df
  replace f_m_df := (hs.o gm trivial rfl).2.trans f_m_df
  replace f_b_kf := (hs.o g_qo_ln trivial rfl).2.trans f_b_kf
  replace f_m_kf := (hs.o gm trivial rfl).2.trans f_m_kf
  replace f_b_sf := (hs.o g_qo_ln trivial rfl).2.trans f_b_sf
  replace f_m_sf := (hs.o gm trivial rfl).2.trans f_m_sf
  replace f_b_bf := (hs.o g_qo_ln trivial rfl).2.trans f_b_bf
  replace f_m_lst := (hs.o gm trivial rfl).2.trans f_m_lst
  replace f_qtp := (hs.o gx trivial rfl).2.trans f_qtp
  replace f_m_tp := (hs.o gm trivial rfl).2.trans f_m_tp
  replace f_m_dead := (hs.o gm trivial rfl).2.trans f_m_dead
  replace f_m_isj := (hs.o gm trivial rfl).2.trans f_m_isj
  replace f_m_dox := (hs.o gm trivial rfl).2.trans f_m_dox
  replace f_m_doy := (hs.o gm trivial rfl).2.trans f_m_doy
  replace f_qlt := (hs.o g_qw trivial rfl).2.trans f_qlt
  replace f_qlf := (hs.o g_qw trivial rfl).2.trans f_qlf
  replace f_m_wkd := (hs.o gm trivial rfl).2.trans f_m_wkd
  replace f_m_aga := (hs.o gm trivial rfl).2.trans f_m_aga
  replace f_qwo := (hs.o gx trivial rfl).2.trans f_qwo
  replace f_m_ad := (hs.o gm trivial rfl).2.trans f_m_ad
  replace f_m_by := (hs.o gm trivial rfl).2.trans f_m_by
  replace f_m_ho := (hs.o gm trivial rfl).2.trans f_m_ho
  replace f_m_fc := (hs.o gm trivial rfl).2.trans f_m_fc
  replace f_m_nt := (hs.o gm trivial rfl).2.trans f_m_nt
  replace f_m_wt := (hs.o gm trivial rfl).2.trans f_m_wt
  replace f_m_be := (hs.o gm trivial rfl).2.trans f_m_be
  replace f_m_bor := (hs.o gm trivial rfl).2.trans f_m_bor
  replace f_m_kin := (hs.o gm trivial rfl).2.trans f_m_kin
  replace f_m_sum := (hs.o gm trivial rfl).2.trans f_m_sum
  replace f_m_fro := (hs.o gm trivial rfl).2.trans f_m_fro
  replace f_m_fil := (hs.o gm trivial rfl).2.trans f_m_fil
  replace f_m_jud := (hs.o gm trivial rfl).2.trans f_m_jud
  replace f_m_ear := (hs.o gm trivial rfl).2.trans f_m_ear
  replace f_m_hds := (hs.o gm trivial rfl).2.trans f_m_hds
  replace f_m_ord := (hs.o gm trivial rfl).2.trans f_m_ord
  replace f_m_wkl := (hs.o gm trivial rfl).2.trans f_m_wkl
  replace f_m_owd := (hs.o gm trivial rfl).2.trans f_m_owd
  replace f_m_gds := (hs.o gm trivial rfl).2.trans f_m_gds
  replace f_m_szd := (hs.o gm trivial rfl).2.trans f_m_szd
  replace f_m_srv := (hs.o gm trivial rfl).2.trans f_m_srv
  replace f_y_p0 := (hs.o g_qo_py trivial rfl).2.trans f_y_p0
  replace f_m_p0 := (hs.o gm trivial rfl).2.trans f_m_p0
  replace f_y_p1 := (hs.o g_qo_py trivial rfl).2.trans f_y_p1
  replace f_m_p1 := (hs.o gm trivial rfl).2.trans f_m_p1
  replace f_y_p2 := (hs.o g_qo_py trivial rfl).2.trans f_y_p2
  replace f_m_p2 := (hs.o gm trivial rfl).2.trans f_m_p2
  replace f_y_p3 := (hs.o g_qo_py trivial rfl).2.trans f_y_p3
  replace f_m_p3 := (hs.o gm trivial rfl).2.trans f_m_p3
  replace f_y_p4 := (hs.o g_qo_py trivial rfl).2.trans f_y_p4
  replace f_m_p4 := (hs.o gm trivial rfl).2.trans f_m_p4
  replace f_qrg9 := (hs.o gx trivial rfl).2.trans f_qrg9
  replace f_y_ls := (hs.o g_qrg9 trivial rfl).2.trans f_y_ls
  replace f_m_rl := (hs.o gm trivial rfl).2.trans f_m_rl
  replace ffv_609 := (hs.o g_qrg9 trivial rfl).1.trans ffv_609
  replace ffv_610 := (hs.o gm trivial rfl).1.trans ffv_610
  replace ffv_611 := (hs.o gm trivial rfl).1.trans ffv_611
  replace pf_qa : ∀ j : Nat, (j : Int) < (h_618.2.1 ax 6).toInt → h_618.2.2 qa j ≠ none := by
    intro j hj; rw [(hs.o gx trivial rfl).1] at hj; rw [(hs.a g_qa rfl j).2]; exact pf_qa j hj
  replace pf_qp : ∀ j : Nat, (j : Int) < (h_618.2.1 ax 8).toInt → h_618.2.2 qp j ≠ none := by
    intro j hj; rw [(hs.o gx trivial rfl).1] at hj; rw [(hs.a g_qp rfl j).2]; exact pf_qp j hj
  replace pf_qc : ∀ j : Nat, (j : Int) < (h_618.2.1 ax 11).toInt → h_618.2.2 qc j ≠ none := by
    intro j hj; rw [(hs.o gx trivial rfl).1] at hj; rw [(hs.a g_qc rfl j).2]; exact pf_qc j hj
  replace pf_qh : ∀ j : Nat, (j : Int) < (h_618.2.1 ax 13).toInt → h_618.2.2 qh j ≠ none := by
    intro j hj; rw [(hs.o gx trivial rfl).1] at hj; rw [(hs.a g_qh rfl j).2]; exact pf_qh j hj
  replace pf_ql : ∀ j : Nat, (j : Int) < (h_618.2.1 qw 0).toInt → h_618.2.2 ql j ≠ none := by
    intro j hj; rw [(hs.o g_qw trivial rfl).1] at hj; rw [(hs.a g_ql rfl j).2]; exact pf_ql j hj
  replace cl_lst : hx_col 8 h_618 ql 0 = c_lst := (hx_col_S hs hTo g_ql tt_40 tt_2 rfl rfl).trans cl_lst
  replace cl_dead : hx_col 40 h_618 qp 7 = c_dead := (hx_col_S hs hTo g_qp tt_44 tt_4 rfl rfl).trans cl_dead
  replace cl_isj : hx_col 40 h_618 qp 8 = c_isj := (hx_col_S hs hTo g_qp tt_44 tt_4 rfl rfl).trans cl_isj
  replace cl_dox : hx_col 40 h_618 qp 5 = c_dox := (hx_col_S hs hTo g_qp tt_44 tt_4 rfl rfl).trans cl_dox
  replace cl_doy : hx_col 40 h_618 qp 6 = c_doy := (hx_col_S hs hTo g_qp tt_44 tt_4 rfl rfl).trans cl_doy
  replace cl_fou : hx_col 100 h_618 qc 10 = c_fou := (hx_col_S hs hTo g_qc tt_45 tt_2 rfl rfl).trans cl_fou
  replace cl_tri : hx_col 100 h_618 qc 9 = c_tri := (hx_col_S hs hTo g_qc tt_45 tt_2 rfl rfl).trans cl_tri
  replace cl_bor : hx_col 40 h_618 qp 1 = F_bor := (hx_col_S hs hTo g_qp tt_44 tt_4 rfl rfl).trans cl_bor
  replace cl_kin : hx_col 40 h_618 qp 2 = F_kin := (hx_col_S hs hTo g_qp tt_44 tt_4 rfl rfl).trans cl_kin
  replace cl_sum : hx_col 100 h_618 qc 6 = F_sum := (hx_col_S hs hTo g_qc tt_45 tt_2 rfl rfl).trans cl_sum
  replace cl_fro : hx_col 100 h_618 qc 7 = F_fro := (hx_col_S hs hTo g_qc tt_45 tt_2 rfl rfl).trans cl_fro
  replace cl_fil : hx_col 100 h_618 qc 8 = F_fil := (hx_col_S hs hTo g_qc tt_45 tt_2 rfl rfl).trans cl_fil
  replace cl_hea : hx_col 100 h_618 qc 11 = F_mh := (hx_col_S hs hTo g_qc tt_45 tt_2 rfl rfl).trans cl_hea
  replace cl_jud : hx_col 100 h_618 qc 12 = F_jud := (hx_col_S hs hTo g_qc tt_45 tt_2 rfl rfl).trans cl_jud
  replace cl_ear : hx_col 40 h_618 qp 3 = F_ear := (hx_col_S hs hTo g_qp tt_44 tt_4 rfl rfl).trans cl_ear
  replace cl_hds : hx_col 40 h_618 qp 4 = F_hds := (hx_col_S hs hTo g_qp tt_44 tt_4 rfl rfl).trans cl_hds
  replace cl_ord : hx_col 100 h_618 qc 13 = F_ord := (hx_col_S hs hTo g_qc tt_45 tt_2 rfl rfl).trans cl_ord
  replace cl_wkl : hx_col 100 h_618 qc 14 = F_wkl := (hx_col_S hs hTo g_qc tt_45 tt_2 rfl rfl).trans cl_wkl
  replace cl_owd : hx_col 100 h_618 qc 15 = F_owd := (hx_col_S hs hTo g_qc tt_45 tt_2 rfl rfl).trans cl_owd
  replace cl_srv : hx_col 100 h_618 qc 18 = F_srv := (hx_col_S hs hTo g_qc tt_45 tt_2 rfl rfl).trans cl_srv
  replace nu_qp : hx_num 40 h_618 qp 0 (np.toInt) := hx_num_S hs hTo g_qp tt_44 tt_4 rfl rfl nu_qp
  replace nu_qc : hx_num 100 h_618 qc 0 (c0.toInt) := hx_num_S hs hTo g_qc tt_45 tt_2 rfl rfl nu_qc
  replace sb_list : hx_LQ 8 100 h_618 ql qc := hx_LQ_S hs g_ql g_qc rfl rfl sb_list
  replace hDF : hw_DF h_618 qc qp 2 F_aga c0.toInt := hw_DF_S hs hTo g_qc g_qp tt_45 tt_2 rfl rfl rfl hDF
  replace hRA9 : hv_RA h_618 qa qwo a0.toInt A9 := hv_RA_S hs hTo g_qa g_qwo tt_43 tt_0 rfl rfl rfl rfl rfl rfl ?o26 hRA9
  case o26 => omega
  replace hDP : hw_DF h_618 qc qp 1 F_by c0.toInt := hw_DF_S hs hTo g_qc g_qp tt_45 tt_2 rfl rfl rfl hDP
  replace hAC9 : hv_AC h_618 qc F_ml c0.toInt A9 := hv_AC_S hs hTo g_qc tt_45 tt_2 rfl tt_0 rfl rfl rfl rfl rfl rfl rfl hAC9
  replace hFX : hv_FX 8 4 h_618 qc cF9L c0.toInt := hv_FX_S hs hTo g_qc tt_45 tt_2 rfl rfl rfl rfl hFX
  replace hBX : hv_FX 3 5 h_618 qc F_be c0.toInt := hv_FX_S hs hTo g_qc tt_45 tt_2 rfl rfl rfl rfl hBX
  replace hHL : hv_HL h_618 qh qc F_ho m0.toInt c0.toInt := hv_HL_S hs g_qh g_qc rfl rfl hHL
  replace n_mw : h_618.2.1 mw = F_mw := (funext fun j => (hs.a g_mw rfl j).1).trans n_mw
  replace n_mr : h_618.2.1 mr = F_mr := (funext fun j => (hs.a g_mr rfl j).1).trans n_mr
  replace n_mp : h_618.2.1 mp = F_mp := (funext fun j => (hs.a g_mp rfl j).1).trans n_mp
  replace n_mn : h_618.2.1 mn = F_mn := (funext fun j => (hs.a g_mn rfl j).1).trans n_mn
  replace n_ml : h_618.2.1 ml = F_ml := (funext fun j => (hs.a g_ml rfl j).1).trans n_ml
  replace n_mh : h_618.2.1 mh = F_mh := (funext fun j => (hs.a g_mh rfl j).1).trans n_mh
  replace n_mt : h_618.2.1 mt = F_mt := (funext fun j => (hs.a g_mt rfl j).1).trans n_mt
  replace n_m_fou : h_618.2.1 m_fou = F_m_fou := (funext fun j => (hs.a g_m_fou rfl j).1).trans n_m_fou
  replace n_b_of : h_618.2.1 b_of = B_of := (funext fun j => (hs.a g_b_of rfl j).1).trans n_b_of
  replace n_m_of : h_618.2.1 m_of = F_of := (funext fun j => (hs.a g_m_of rfl j).1).trans n_m_of
  replace n_b_wf : h_618.2.1 b_wf = B_wf := (funext fun j => (hs.a g_b_wf rfl j).1).trans n_b_wf
  replace n_m_wf : h_618.2.1 m_wf = F_wf := (funext fun j => (hs.a g_m_wf rfl j).1).trans n_m_wf
  replace n_b_df : h_618.2.1 b_df = B_df := (funext fun j => (hs.a g_b_df rfl j).1).trans n_b_df
  replace n_m_df : h_618.2.1 m_df = F_df := (funext fun j => (hs.a g_m_df rfl j).1).trans n_m_df
  replace n_b_kf : h_618.2.1 b_kf = B_kf := (funext fun j => (hs.a g_b_kf rfl j).1).trans n_b_kf
  replace n_m_kf : h_618.2.1 m_kf = F_kf := (funext fun j => (hs.a g_m_kf rfl j).1).trans n_m_kf
  replace n_b_sf : h_618.2.1 b_sf = B_sf := (funext fun j => (hs.a g_b_sf rfl j).1).trans n_b_sf
  replace n_m_sf : h_618.2.1 m_sf = F_sf := (funext fun j => (hs.a g_m_sf rfl j).1).trans n_m_sf
  replace n_b_bf : h_618.2.1 b_bf = bfL := (funext fun j => (hs.a g_b_bf rfl j).1).trans n_b_bf
  replace n_lst : h_618.2.1 m_lst = F_lst := (funext fun j => (hs.a g_m_lst rfl j).1).trans n_lst
  replace n_tp : h_618.2.1 m_tp = F_tp := (funext fun j => (hs.a g_m_tp rfl j).1).trans n_tp
  replace n_qtp : h_618.2.1 qtp = F_tp := (funext fun j => (hs.a g_qtp rfl j).1).trans n_qtp
  replace n_dead : h_618.2.1 m_dead = F_dead := (funext fun j => (hs.a g_m_dead rfl j).1).trans n_dead
  replace n_isj : h_618.2.1 m_isj = F_isj := (funext fun j => (hs.a g_m_isj rfl j).1).trans n_isj
  replace n_dox : h_618.2.1 m_dox = F_dox := (funext fun j => (hs.a g_m_dox rfl j).1).trans n_dox
  replace n_doy : h_618.2.1 m_doy = F_doy := (funext fun j => (hs.a g_m_doy rfl j).1).trans n_doy
  replace n_qlt : h_618.2.1 qlt = F_qlt := (funext fun j => (hs.a g_qlt rfl j).1).trans n_qlt
  replace n_m_wkd : h_618.2.1 m_wkd = F_m_wkd := (funext fun j => (hs.a g_m_wkd rfl j).1).trans n_m_wkd
  replace n_aga : h_618.2.1 m_aga = F_aga := (funext fun j => (hs.a g_m_aga rfl j).1).trans n_aga
  replace n_ad : h_618.2.1 m_ad = F_ad := (funext fun j => (hs.a g_m_ad rfl j).1).trans n_ad
  replace n_by : h_618.2.1 m_by = F_by := (funext fun j => (hs.a g_m_by rfl j).1).trans n_by
  replace n_ho : h_618.2.1 m_ho = F_ho := (funext fun j => (hs.a g_m_ho rfl j).1).trans n_ho
  replace n_fc : h_618.2.1 m_fc = F_fc := (funext fun j => (hs.a g_m_fc rfl j).1).trans n_fc
  replace n_nt : h_618.2.1 m_nt = F_nt := (funext fun j => (hs.a g_m_nt rfl j).1).trans n_nt
  replace n_wt : h_618.2.1 m_wt = F_wt := (funext fun j => (hs.a g_m_wt rfl j).1).trans n_wt
  replace n_be : h_618.2.1 m_be = F_be := (funext fun j => (hs.a g_m_be rfl j).1).trans n_be
  replace n_bor : h_618.2.1 m_bor = F_bor := (funext fun j => (hs.a g_m_bor rfl j).1).trans n_bor
  replace n_kin : h_618.2.1 m_kin = F_kin := (funext fun j => (hs.a g_m_kin rfl j).1).trans n_kin
  replace n_sum : h_618.2.1 m_sum = F_sum := (funext fun j => (hs.a g_m_sum rfl j).1).trans n_sum
  replace n_fro : h_618.2.1 m_fro = F_fro := (funext fun j => (hs.a g_m_fro rfl j).1).trans n_fro
  replace n_fil : h_618.2.1 m_fil = F_fil := (funext fun j => (hs.a g_m_fil rfl j).1).trans n_fil
  replace n_jud : h_618.2.1 m_jud = F_jud := (funext fun j => (hs.a g_m_jud rfl j).1).trans n_jud
  replace n_ear : h_618.2.1 m_ear = F_ear := (funext fun j => (hs.a g_m_ear rfl j).1).trans n_ear
  replace n_hds : h_618.2.1 m_hds = F_hds := (funext fun j => (hs.a g_m_hds rfl j).1).trans n_hds
  replace n_ord : h_618.2.1 m_ord = F_ord := (funext fun j => (hs.a g_m_ord rfl j).1).trans n_ord
  replace n_wkl : h_618.2.1 m_wkl = F_wkl := (funext fun j => (hs.a g_m_wkl rfl j).1).trans n_wkl
  replace n_owd : h_618.2.1 m_owd = F_owd := (funext fun j => (hs.a g_m_owd rfl j).1).trans n_owd
  replace n_gds : h_618.2.1 m_gds = F_gds := (funext fun j => (hs.a g_m_gds rfl j).1).trans n_gds
  replace n_szd : h_618.2.1 m_szd = F_szd := (funext fun j => (hs.a g_m_szd rfl j).1).trans n_szd
  replace n_srv : h_618.2.1 m_srv = F_srv := (funext fun j => (hs.a g_m_srv rfl j).1).trans n_srv
  replace n_p0 : h_618.2.1 m_p0 = F_p0 := (funext fun j => (hs.a g_m_p0 rfl j).1).trans n_p0
  replace n_y_p0 : h_618.2.1 y_p0 = F_p0 := (funext fun j => (hs.a g_y_p0 rfl j).1).trans n_y_p0
  replace n_p1 : h_618.2.1 m_p1 = F_p1 := (funext fun j => (hs.a g_m_p1 rfl j).1).trans n_p1
  replace n_y_p1 : h_618.2.1 y_p1 = F_p1 := (funext fun j => (hs.a g_y_p1 rfl j).1).trans n_y_p1
  replace n_p2 : h_618.2.1 m_p2 = F_p2 := (funext fun j => (hs.a g_m_p2 rfl j).1).trans n_p2
  replace n_y_p2 : h_618.2.1 y_p2 = F_p2 := (funext fun j => (hs.a g_y_p2 rfl j).1).trans n_y_p2
  replace n_p3 : h_618.2.1 m_p3 = F_p3 := (funext fun j => (hs.a g_m_p3 rfl j).1).trans n_p3
  replace n_y_p3 : h_618.2.1 y_p3 = F_p3 := (funext fun j => (hs.a g_y_p3 rfl j).1).trans n_y_p3
  replace n_p4 : h_618.2.1 m_p4 = F_p4 := (funext fun j => (hs.a g_m_p4 rfl j).1).trans n_p4
  replace n_y_p4 : h_618.2.1 y_p4 = F_p4 := (funext fun j => (hs.a g_y_p4 rfl j).1).trans n_y_p4
  replace n_y_ls : h_618.2.1 y_ls = F_y_ls := (funext fun j => (hs.a g_y_ls rfl j).1).trans n_y_ls
  replace n_m_rl : h_618.2.1 m_rl = F_m_rl := (funext fun j => (hs.a g_m_rl rfl j).1).trans n_m_rl
  replace gx := gx.S hs
  replace gm := gm.S hs
  replace g_qa := g_qa.S hs
  replace g_qp := g_qp.S hs
  replace g_qc := g_qc.S hs
  replace g_qh := g_qh.S hs
  replace g_qw := g_qw.S hs
  replace g_ql := g_ql.S hs
  replace g_mw := g_mw.S hs
  replace g_mr := g_mr.S hs
  replace g_mp := g_mp.S hs
  replace g_mn := g_mn.S hs
  replace g_ml := g_ml.S hs
  replace g_mh := g_mh.S hs
  replace g_mt := g_mt.S hs
  replace g_m_fou := g_m_fou.S hs
  replace g_qo_ln := g_qo_ln.S hs
  replace g_qo_py := g_qo_py.S hs
  replace g_b_of := g_b_of.S hs
  replace g_m_of := g_m_of.S hs
  replace g_b_wf := g_b_wf.S hs
  replace g_m_wf := g_m_wf.S hs
  replace g_b_df := g_b_df.S hs
  replace g_m_df := g_m_df.S hs
  replace g_b_kf := g_b_kf.S hs
  replace g_m_kf := g_m_kf.S hs
  replace g_b_sf := g_b_sf.S hs
  replace g_m_sf := g_m_sf.S hs
  replace g_b_bf := g_b_bf.S hs
  replace g_m_lst := g_m_lst.S hs
  replace g_qtp := g_qtp.S hs
  replace g_m_tp := g_m_tp.S hs
  replace g_m_dead := g_m_dead.S hs
  replace g_m_isj := g_m_isj.S hs
  replace g_m_dox := g_m_dox.S hs
  replace g_m_doy := g_m_doy.S hs
  replace g_qlt := g_qlt.S hs
  replace g_qlf := g_qlf.S hs
  replace g_m_wkd := g_m_wkd.S hs
  replace g_m_aga := g_m_aga.S hs
  replace g_qwo := g_qwo.S hs
  replace g_m_ad := g_m_ad.S hs
  replace g_m_by := g_m_by.S hs
  replace g_m_ho := g_m_ho.S hs
  replace g_m_fc := g_m_fc.S hs
  replace g_m_nt := g_m_nt.S hs
  replace g_m_wt := g_m_wt.S hs
  replace g_m_be := g_m_be.S hs
  replace g_m_bor := g_m_bor.S hs
  replace g_m_kin := g_m_kin.S hs
  replace g_m_sum := g_m_sum.S hs
  replace g_m_fro := g_m_fro.S hs
  replace g_m_fil := g_m_fil.S hs
  replace g_m_jud := g_m_jud.S hs
  replace g_m_ear := g_m_ear.S hs
  replace g_m_hds := g_m_hds.S hs
  replace g_m_ord := g_m_ord.S hs
  replace g_m_wkl := g_m_wkl.S hs
  replace g_m_owd := g_m_owd.S hs
  replace g_m_gds := g_m_gds.S hs
  replace g_m_szd := g_m_szd.S hs
  replace g_m_srv := g_m_srv.S hs
  replace g_y_p0 := g_y_p0.S hs
  replace g_m_p0 := g_m_p0.S hs
  replace g_y_p1 := g_y_p1.S hs
  replace g_m_p1 := g_m_p1.S hs
  replace g_y_p2 := g_y_p2.S hs
  replace g_m_p2 := g_m_p2.S hs
  replace g_y_p3 := g_y_p3.S hs
  replace g_m_p3 := g_m_p3.S hs
  replace g_y_p4 := g_y_p4.S hs
  replace g_m_p4 := g_m_p4.S hs
  replace g_qrg9 := g_qrg9.S hs
  replace g_y_ls := g_y_ls.S hs
  replace g_m_rl := g_m_rl.S hs
  have fw_622 : hx_col 100 h_618 qc 16 = w_622 := fw_622
  have fw_623 : hx_col 100 h_618 qc 17 = w_623 := fw_623
  refine lv_pop hx hb dL_law_1001 rfl ?_
  refine lv_aload_n hx hb dL_law_1002 rfl (lv_at hl 1 rfl) ?_
  refine lv_aload_n hx hb dL_law_1003 rfl (lv_at hl 3 rfl) ?_
  refine lv_iload_n hx hb dL_law_1004 rfl (lv_at hl 0 rfl) ?_
  refine lv_iconst (v := 1) hx hb dL_law_1005 ?o27 ?_
  case o27 => decide
  refine lv_iadd hx hb dL_law_1006 ?_
  refine lv_topi (fun x_624 ex_624 => ?_)
  have zx_624 : x_624.toInt = i.toInt + 1 := ?o28
  case o28 =>
    rw [ex_624]
    refine i32_add rfl ?o29 ?o30 ?o31
    case o29 => decide
    case o30 => omega
    case o31 => omega
  obtain rfl : x_613 = x_624 := ex_613.trans ex_624.symm
  refine va_sld hx hb hX hbl hbA hW.2.2.2.1 (vp_in_iff.mpr ⟨?o32, ?o33⟩) dL_law_1007 ?_
  case o32 => omega
  case o33 => omega
  refine lv_topi (fun x_625 ex_625 => ?_)
  obtain rfl : x_614 = x_625 := ex_614.trans ex_625.symm
  refine lv_aload_n hx hb dL_law_1008 rfl (lv_at hl 3 rfl) ?_
  refine lv_iload_n hx hb dL_law_1009 rfl (lv_at hl 0 rfl) ?_
  refine lv_iconst (v := 2) hx hb dL_law_1010 ?o34 ?_
  case o34 => decide
  refine lv_iadd hx hb dL_law_1011 ?_
  refine lv_topi (fun x_626 ex_626 => ?_)
  have zx_626 : x_626.toInt = i.toInt + 2 := ?o35
  case o35 =>
    rw [ex_626]
    refine i32_add rfl ?o36 ?o37 ?o38
    case o36 => decide
    case o37 => omega
    case o38 => omega
  obtain rfl : x_615 = x_626 := ex_615.trans ex_626.symm
  refine va_sld hx hb hX hbl hbA hW.2.2.2.1 (vp_in_iff.mpr ⟨?o39, ?o40⟩) dL_law_1012 ?_
  case o39 => omega
  case o40 => omega
  refine lv_topi (fun x_627 ex_627 => ?_)
  obtain rfl : x_616 = x_627 := ex_616.trans ex_627.symm
  have hTo := hT
  refine hx_goi (hx_runV (As := [.int x_614, .int x_616]) (rest := []) ⟨hx, hb, hml, hown, hts⟩ hW gm tt_10 (T := TX10) (N := 98) rfl (t_X10_seize_v l dC dI dA L_617 h_618 H.size am x_614 x_616 hT gm m_fou g_m_fou f_m_fou mh g_mh f_mh m_jud g_m_jud f_m_jud m_ord g_m_ord f_m_ord m_srv g_m_srv f_m_srv m_szd g_m_szd f_m_szd m_gds g_m_gds f_m_gds m_owd g_m_owd f_m_owd m_wkl g_m_wkl f_m_wkl ml g_ml f_ml mr g_mr f_mr m_p0 g_m_p0 f_m_p0 m_p1 g_m_p1 f_m_p1 m_p2 g_m_p2 f_m_p2 m_p3 g_m_p3 f_m_p3 m_p4 g_m_p4 f_m_p4 F_m_fou n_m_fou F_mh n_mh F_jud n_jud F_ord n_ord F_srv n_srv F_szd n_szd F_gds n_gds F_owd n_owd F_wkl n_wkl F_ml n_ml F_mr n_mr F_p0 n_p0 F_p1 n_p1 F_p2 n_p2 F_p3 n_p3 F_p4 n_p4 c0 f_m_claims a0 f_m_acts nw f_m_now py f_m_payments F_ad F_mn F_mp A9 hCA9 hPL) (cwV 2 hts (hx_gV kw_1661 kw_1658 kw_1659 kw_1660 kw_103) rfl rfl rfl (by decide +kernel) ⟨Nat.le_of_ble_eq_true rfl, Nat.le_of_ble_eq_true rfl⟩) rfl hl.1 rfl (Nat.le_of_ble_eq_true rfl) dL_law_1013 ⟨(show CC + 0 + 0 ≤ 600000 from ?o41), (show SS + 0 + 0 ≤ 7302250 from ?o42)⟩) hW (fun r_630 L_628 h_629 H locs p_631 hW => ?_)
  case o41 => omega
  case o42 => omega
  obtain ⟨⟨w_633, w_634, fw_633, fw_634, hr_632⟩, hT, hs⟩ := p_631
  replace hT : hx_T T_tb L_628 h_629 := hT
  replace hs : hx_S T_tb [(10, 67), (10, 68), (10, 69), (10, 70), (10, 71), (84, 0), (91, 0)] L_617 h_618 L_628 h_629 := hs
  replace f_qa := (hs.o gx trivial rfl).2.trans f_qa
  replace f_qp := (hs.o gx trivial rfl).2.trans f_qp
  replace f_qc := (hs.o gx trivial rfl).2.trans f_qc
  replace f_qh := (hs.o gx trivial rfl).2.trans f_qh
  replace f_qw := (hs.o gx trivial rfl).2.trans f_qw
  replace f_ql := (hs.o g_qw trivial rfl).2.trans f_ql
  replace f_m_now := (hs.o gm trivial rfl).1.trans f_m_now
  replace f_m_persons := (hs.o gm trivial rfl).1.trans f_m_persons
  replace f_m_claims := (hs.o gm trivial rfl).1.trans f_m_claims
  replace f_m_taped := (hs.o gm trivial rfl).1.trans f_m_taped
  replace f_m_acts := (hs.o gm trivial rfl).1.trans f_m_acts
  replace f_m_heardMany := (hs.o gm trivial rfl).1.trans f_m_heardMany
  replace f_m_lines := (hs.o gm trivial rfl).1.trans f_m_lines
  replace f_m_listed := (hs.o gm trivial rfl).1.trans f_m_listed
  replace f_m_walkedMany := (hs.o gm trivial rfl).1.trans f_m_walkedMany
  replace f_m_payments := (hs.o gm trivial rfl).1.trans f_m_payments
  replace f_x_now := (hs.o gx trivial rfl).1.trans f_x_now
  replace f_x_personCount := (hs.o gx trivial rfl).1.trans f_x_personCount
  replace f_x_claimCount := (hs.o gx trivial rfl).1.trans f_x_claimCount
  replace f_x_tapeLength := (hs.o gx trivial rfl).1.trans f_x_tapeLength
  replace f_x_actCount := (hs.o gx trivial rfl).1.trans f_x_actCount
  replace f_x_heardCount := (hs.o gx trivial rfl).1.trans f_x_heardCount
  replace f_mw := (hs.o gm trivial rfl).2.trans f_mw
  replace f_mr := (hs.o gm trivial rfl).2.trans f_mr
  replace f_mp := (hs.o gm trivial rfl).2.trans f_mp
  replace f_mn := (hs.o gm trivial rfl).2.trans f_mn
  replace f_ml := (hs.o gm trivial rfl).2.trans f_ml
  replace f_mh := (hs.o gm trivial rfl).2.trans f_mh
  replace f_mt := (hs.o gm trivial rfl).2.trans f_mt
  replace f_m_fou := (hs.o gm trivial rfl).2.trans f_m_fou
  replace f_qo_ln := (hs.o gx trivial rfl).2.trans f_qo_ln
  replace f_o_ln := (hs.o g_qo_ln trivial rfl).1.trans f_o_ln
  replace f_o_lsd := (hs.o g_qw trivial rfl).1.trans f_o_lsd
  replace f_o_wkm := (hs.o g_qw trivial rfl).1.trans f_o_wkm
  replace f_qo_py := (hs.o gx trivial rfl).2.trans f_qo_py
  replace f_o_py := (hs.o g_qo_py trivial rfl).1.trans f_o_py
  replace f_b_of := (hs.o g_qo_ln trivial rfl).2.trans f_b_of
  replace f_m_of := (hs.o gm trivial rfl).2.trans f_m_of
  replace f_b_wf := (hs.o g_qo_ln trivial rfl).2.trans f_b_wf
  replace f_m_wf := (hs.o gm trivial rfl).2.trans f_m_wf
  replace f_b_df := (hs.o g_qo_ln trivial rfl).2.trans f_b_df
  replace f_m_df := (hs.o gm trivial rfl).2.trans f_m_df
  replace f_b_kf := (hs.o g_qo_ln trivial rfl).2.trans f_b_kf
  replace f_m_kf := (hs.o gm trivial rfl).2.trans f_m_kf
  replace f_b_sf := (hs.o g_qo_ln trivial rfl).2.trans f_b_sf
  replace f_m_sf := (hs.o gm trivial rfl).2.trans f_m_sf
  replace f_b_bf := (hs.o g_qo_ln trivial rfl).2.trans f_b_bf
  replace f_m_lst := (hs.o gm trivial rfl).2.trans f_m_lst
  replace f_qtp := (hs.o gx trivial rfl).2.trans f_qtp
  replace f_m_tp := (hs.o gm trivial rfl).2.trans f_m_tp
  replace f_m_dead := (hs.o gm trivial rfl).2.trans f_m_dead
  replace f_m_isj := (hs.o gm trivial rfl).2.trans f_m_isj
  replace f_m_dox := (hs.o gm trivial rfl).2.trans f_m_dox
  replace f_m_doy := (hs.o gm trivial rfl).2.trans f_m_doy
  replace f_qlt := (hs.o g_qw trivial rfl).2.trans f_qlt
  replace f_qlf := (hs.o g_qw trivial rfl).2.trans f_qlf
  replace f_m_wkd := (hs.o gm trivial rfl).2.trans f_m_wkd
  replace f_m_aga := (hs.o gm trivial rfl).2.trans f_m_aga
  replace f_qwo := (hs.o gx trivial rfl).2.trans f_qwo
  replace f_m_ad := (hs.o gm trivial rfl).2.trans f_m_ad
  replace f_m_by := (hs.o gm trivial rfl).2.trans f_m_by
  replace f_m_ho := (hs.o gm trivial rfl).2.trans f_m_ho
  replace f_m_fc := (hs.o gm trivial rfl).2.trans f_m_fc
  replace f_m_nt := (hs.o gm trivial rfl).2.trans f_m_nt
  replace f_m_wt := (hs.o gm trivial rfl).2.trans f_m_wt
  replace f_m_be := (hs.o gm trivial rfl).2.trans f_m_be
  replace f_m_bor := (hs.o gm trivial rfl).2.trans f_m_bor
  replace f_m_kin := (hs.o gm trivial rfl).2.trans f_m_kin
  replace f_m_sum := (hs.o gm trivial rfl).2.trans f_m_sum
  replace f_m_fro := (hs.o gm trivial rfl).2.trans f_m_fro
  replace f_m_fil := (hs.o gm trivial rfl).2.trans f_m_fil
  replace f_m_jud := (hs.o gm trivial rfl).2.trans f_m_jud
  replace f_m_ear := (hs.o gm trivial rfl).2.trans f_m_ear
  replace f_m_hds := (hs.o gm trivial rfl).2.trans f_m_hds
  replace f_m_ord := (hs.o gm trivial rfl).2.trans f_m_ord
  replace f_m_wkl := (hs.o gm trivial rfl).2.trans f_m_wkl
  replace f_m_owd := (hs.o gm trivial rfl).2.trans f_m_owd
  replace f_m_gds := (hs.o gm trivial rfl).2.trans f_m_gds
  replace f_m_szd := (hs.o gm trivial rfl).2.trans f_m_szd
  replace f_m_srv := (hs.o gm trivial rfl).2.trans f_m_srv
  replace f_y_p0 := (hs.o g_qo_py trivial rfl).2.trans f_y_p0
  replace f_m_p0 := (hs.o gm trivial rfl).2.trans f_m_p0
  replace f_y_p1 := (hs.o g_qo_py trivial rfl).2.trans f_y_p1
  replace f_m_p1 := (hs.o gm trivial rfl).2.trans f_m_p1
  replace f_y_p2 := (hs.o g_qo_py trivial rfl).2.trans f_y_p2
  replace f_m_p2 := (hs.o gm trivial rfl).2.trans f_m_p2
  replace f_y_p3 := (hs.o g_qo_py trivial rfl).2.trans f_y_p3
  replace f_m_p3 := (hs.o gm trivial rfl).2.trans f_m_p3
  replace f_y_p4 := (hs.o g_qo_py trivial rfl).2.trans f_y_p4
  replace f_m_p4 := (hs.o gm trivial rfl).2.trans f_m_p4
  replace f_qrg9 := (hs.o gx trivial rfl).2.trans f_qrg9
  replace f_y_ls := (hs.o g_qrg9 trivial rfl).2.trans f_y_ls
  replace f_m_rl := (hs.o gm trivial rfl).2.trans f_m_rl
  replace ffv_609 := (hs.o g_qrg9 trivial rfl).1.trans ffv_609
  replace ffv_610 := (hs.o gm trivial rfl).1.trans ffv_610
  replace ffv_611 := (hs.o gm trivial rfl).1.trans ffv_611
  replace pf_qa : ∀ j : Nat, (j : Int) < (h_629.2.1 ax 6).toInt → h_629.2.2 qa j ≠ none := by
    intro j hj; rw [(hs.o gx trivial rfl).1] at hj; rw [(hs.a g_qa rfl j).2]; exact pf_qa j hj
  replace pf_qp : ∀ j : Nat, (j : Int) < (h_629.2.1 ax 8).toInt → h_629.2.2 qp j ≠ none := by
    intro j hj; rw [(hs.o gx trivial rfl).1] at hj; rw [(hs.a g_qp rfl j).2]; exact pf_qp j hj
  replace pf_qc : ∀ j : Nat, (j : Int) < (h_629.2.1 ax 11).toInt → h_629.2.2 qc j ≠ none := by
    intro j hj; rw [(hs.o gx trivial rfl).1] at hj; rw [(hs.a g_qc rfl j).2]; exact pf_qc j hj
  replace pf_qh : ∀ j : Nat, (j : Int) < (h_629.2.1 ax 13).toInt → h_629.2.2 qh j ≠ none := by
    intro j hj; rw [(hs.o gx trivial rfl).1] at hj; rw [(hs.a g_qh rfl j).2]; exact pf_qh j hj
  replace pf_ql : ∀ j : Nat, (j : Int) < (h_629.2.1 qw 0).toInt → h_629.2.2 ql j ≠ none := by
    intro j hj; rw [(hs.o g_qw trivial rfl).1] at hj; rw [(hs.a g_ql rfl j).2]; exact pf_ql j hj
  replace cl_lst : hx_col 8 h_629 ql 0 = c_lst := (hx_col_S hs hTo g_ql tt_40 tt_2 rfl rfl).trans cl_lst
  replace cl_dead : hx_col 40 h_629 qp 7 = c_dead := (hx_col_S hs hTo g_qp tt_44 tt_4 rfl rfl).trans cl_dead
  replace cl_isj : hx_col 40 h_629 qp 8 = c_isj := (hx_col_S hs hTo g_qp tt_44 tt_4 rfl rfl).trans cl_isj
  replace cl_dox : hx_col 40 h_629 qp 5 = c_dox := (hx_col_S hs hTo g_qp tt_44 tt_4 rfl rfl).trans cl_dox
  replace cl_doy : hx_col 40 h_629 qp 6 = c_doy := (hx_col_S hs hTo g_qp tt_44 tt_4 rfl rfl).trans cl_doy
  replace cl_fou : hx_col 100 h_629 qc 10 = c_fou := (hx_col_S hs hTo g_qc tt_45 tt_2 rfl rfl).trans cl_fou
  replace cl_tri : hx_col 100 h_629 qc 9 = c_tri := (hx_col_S hs hTo g_qc tt_45 tt_2 rfl rfl).trans cl_tri
  replace cl_bor : hx_col 40 h_629 qp 1 = F_bor := (hx_col_S hs hTo g_qp tt_44 tt_4 rfl rfl).trans cl_bor
  replace cl_kin : hx_col 40 h_629 qp 2 = F_kin := (hx_col_S hs hTo g_qp tt_44 tt_4 rfl rfl).trans cl_kin
  replace cl_sum : hx_col 100 h_629 qc 6 = F_sum := (hx_col_S hs hTo g_qc tt_45 tt_2 rfl rfl).trans cl_sum
  replace cl_fro : hx_col 100 h_629 qc 7 = F_fro := (hx_col_S hs hTo g_qc tt_45 tt_2 rfl rfl).trans cl_fro
  replace cl_fil : hx_col 100 h_629 qc 8 = F_fil := (hx_col_S hs hTo g_qc tt_45 tt_2 rfl rfl).trans cl_fil
  replace cl_hea : hx_col 100 h_629 qc 11 = F_mh := (hx_col_S hs hTo g_qc tt_45 tt_2 rfl rfl).trans cl_hea
  replace cl_jud : hx_col 100 h_629 qc 12 = F_jud := (hx_col_S hs hTo g_qc tt_45 tt_2 rfl rfl).trans cl_jud
  replace cl_ear : hx_col 40 h_629 qp 3 = F_ear := (hx_col_S hs hTo g_qp tt_44 tt_4 rfl rfl).trans cl_ear
  replace cl_hds : hx_col 40 h_629 qp 4 = F_hds := (hx_col_S hs hTo g_qp tt_44 tt_4 rfl rfl).trans cl_hds
  replace cl_ord : hx_col 100 h_629 qc 13 = F_ord := (hx_col_S hs hTo g_qc tt_45 tt_2 rfl rfl).trans cl_ord
  replace cl_wkl : hx_col 100 h_629 qc 14 = F_wkl := (hx_col_S hs hTo g_qc tt_45 tt_2 rfl rfl).trans cl_wkl
  replace cl_owd : hx_col 100 h_629 qc 15 = F_owd := (hx_col_S hs hTo g_qc tt_45 tt_2 rfl rfl).trans cl_owd
  replace cl_srv : hx_col 100 h_629 qc 18 = F_srv := (hx_col_S hs hTo g_qc tt_45 tt_2 rfl rfl).trans cl_srv
  replace fw_622 : hx_col 100 h_629 qc 16 = w_622 := (hx_col_S hs hTo g_qc tt_45 tt_2 rfl rfl).trans fw_622
  replace fw_623 : hx_col 100 h_629 qc 17 = w_623 := (hx_col_S hs hTo g_qc tt_45 tt_2 rfl rfl).trans fw_623
  replace nu_qp : hx_num 40 h_629 qp 0 (np.toInt) := hx_num_S hs hTo g_qp tt_44 tt_4 rfl rfl nu_qp
  replace nu_qc : hx_num 100 h_629 qc 0 (c0.toInt) := hx_num_S hs hTo g_qc tt_45 tt_2 rfl rfl nu_qc
  replace sb_list : hx_LQ 8 100 h_629 ql qc := hx_LQ_S hs g_ql g_qc rfl rfl sb_list
  replace hDF : hw_DF h_629 qc qp 2 F_aga c0.toInt := hw_DF_S hs hTo g_qc g_qp tt_45 tt_2 rfl rfl rfl hDF
  replace hRA9 : hv_RA h_629 qa qwo a0.toInt A9 := hv_RA_S hs hTo g_qa g_qwo tt_43 tt_0 rfl rfl rfl rfl rfl rfl ?o43 hRA9
  case o43 => omega
  replace hDP : hw_DF h_629 qc qp 1 F_by c0.toInt := hw_DF_S hs hTo g_qc g_qp tt_45 tt_2 rfl rfl rfl hDP
  replace hAC9 : hv_AC h_629 qc F_ml c0.toInt A9 := hv_AC_S hs hTo g_qc tt_45 tt_2 rfl tt_0 rfl rfl rfl rfl rfl rfl rfl hAC9
  replace hFX : hv_FX 8 4 h_629 qc cF9L c0.toInt := hv_FX_S hs hTo g_qc tt_45 tt_2 rfl rfl rfl rfl hFX
  replace hBX : hv_FX 3 5 h_629 qc F_be c0.toInt := hv_FX_S hs hTo g_qc tt_45 tt_2 rfl rfl rfl rfl hBX
  replace hHL : hv_HL h_629 qh qc F_ho m0.toInt c0.toInt := hv_HL_S hs g_qh g_qc rfl rfl hHL
  replace n_mw : h_629.2.1 mw = F_mw := (funext fun j => (hs.a g_mw rfl j).1).trans n_mw
  replace n_mr : h_629.2.1 mr = F_mr := (funext fun j => (hs.a g_mr rfl j).1).trans n_mr
  replace n_mp : h_629.2.1 mp = F_mp := (funext fun j => (hs.a g_mp rfl j).1).trans n_mp
  replace n_mn : h_629.2.1 mn = F_mn := (funext fun j => (hs.a g_mn rfl j).1).trans n_mn
  replace n_ml : h_629.2.1 ml = F_ml := (funext fun j => (hs.a g_ml rfl j).1).trans n_ml
  replace n_mh : h_629.2.1 mh = F_mh := (funext fun j => (hs.a g_mh rfl j).1).trans n_mh
  replace n_mt : h_629.2.1 mt = F_mt := (funext fun j => (hs.a g_mt rfl j).1).trans n_mt
  replace n_m_fou : h_629.2.1 m_fou = F_m_fou := (funext fun j => (hs.a g_m_fou rfl j).1).trans n_m_fou
  replace n_b_of : h_629.2.1 b_of = B_of := (funext fun j => (hs.a g_b_of rfl j).1).trans n_b_of
  replace n_m_of : h_629.2.1 m_of = F_of := (funext fun j => (hs.a g_m_of rfl j).1).trans n_m_of
  replace n_b_wf : h_629.2.1 b_wf = B_wf := (funext fun j => (hs.a g_b_wf rfl j).1).trans n_b_wf
  replace n_m_wf : h_629.2.1 m_wf = F_wf := (funext fun j => (hs.a g_m_wf rfl j).1).trans n_m_wf
  replace n_b_df : h_629.2.1 b_df = B_df := (funext fun j => (hs.a g_b_df rfl j).1).trans n_b_df
  replace n_m_df : h_629.2.1 m_df = F_df := (funext fun j => (hs.a g_m_df rfl j).1).trans n_m_df
  replace n_b_kf : h_629.2.1 b_kf = B_kf := (funext fun j => (hs.a g_b_kf rfl j).1).trans n_b_kf
  replace n_m_kf : h_629.2.1 m_kf = F_kf := (funext fun j => (hs.a g_m_kf rfl j).1).trans n_m_kf
  replace n_b_sf : h_629.2.1 b_sf = B_sf := (funext fun j => (hs.a g_b_sf rfl j).1).trans n_b_sf
  replace n_m_sf : h_629.2.1 m_sf = F_sf := (funext fun j => (hs.a g_m_sf rfl j).1).trans n_m_sf
  replace n_b_bf : h_629.2.1 b_bf = bfL := (funext fun j => (hs.a g_b_bf rfl j).1).trans n_b_bf
  replace n_lst : h_629.2.1 m_lst = F_lst := (funext fun j => (hs.a g_m_lst rfl j).1).trans n_lst
  replace n_tp : h_629.2.1 m_tp = F_tp := (funext fun j => (hs.a g_m_tp rfl j).1).trans n_tp
  replace n_qtp : h_629.2.1 qtp = F_tp := (funext fun j => (hs.a g_qtp rfl j).1).trans n_qtp
  replace n_dead : h_629.2.1 m_dead = F_dead := (funext fun j => (hs.a g_m_dead rfl j).1).trans n_dead
  replace n_isj : h_629.2.1 m_isj = F_isj := (funext fun j => (hs.a g_m_isj rfl j).1).trans n_isj
  replace n_dox : h_629.2.1 m_dox = F_dox := (funext fun j => (hs.a g_m_dox rfl j).1).trans n_dox
  replace n_doy : h_629.2.1 m_doy = F_doy := (funext fun j => (hs.a g_m_doy rfl j).1).trans n_doy
  replace n_qlt : h_629.2.1 qlt = F_qlt := (funext fun j => (hs.a g_qlt rfl j).1).trans n_qlt
  replace n_m_wkd : h_629.2.1 m_wkd = F_m_wkd := (funext fun j => (hs.a g_m_wkd rfl j).1).trans n_m_wkd
  replace n_aga : h_629.2.1 m_aga = F_aga := (funext fun j => (hs.a g_m_aga rfl j).1).trans n_aga
  replace n_ad : h_629.2.1 m_ad = F_ad := (funext fun j => (hs.a g_m_ad rfl j).1).trans n_ad
  replace n_by : h_629.2.1 m_by = F_by := (funext fun j => (hs.a g_m_by rfl j).1).trans n_by
  replace n_ho : h_629.2.1 m_ho = F_ho := (funext fun j => (hs.a g_m_ho rfl j).1).trans n_ho
  replace n_fc : h_629.2.1 m_fc = F_fc := (funext fun j => (hs.a g_m_fc rfl j).1).trans n_fc
  replace n_nt : h_629.2.1 m_nt = F_nt := (funext fun j => (hs.a g_m_nt rfl j).1).trans n_nt
  replace n_wt : h_629.2.1 m_wt = F_wt := (funext fun j => (hs.a g_m_wt rfl j).1).trans n_wt
  replace n_be : h_629.2.1 m_be = F_be := (funext fun j => (hs.a g_m_be rfl j).1).trans n_be
  replace n_bor : h_629.2.1 m_bor = F_bor := (funext fun j => (hs.a g_m_bor rfl j).1).trans n_bor
  replace n_kin : h_629.2.1 m_kin = F_kin := (funext fun j => (hs.a g_m_kin rfl j).1).trans n_kin
  replace n_sum : h_629.2.1 m_sum = F_sum := (funext fun j => (hs.a g_m_sum rfl j).1).trans n_sum
  replace n_fro : h_629.2.1 m_fro = F_fro := (funext fun j => (hs.a g_m_fro rfl j).1).trans n_fro
  replace n_fil : h_629.2.1 m_fil = F_fil := (funext fun j => (hs.a g_m_fil rfl j).1).trans n_fil
  replace n_jud : h_629.2.1 m_jud = F_jud := (funext fun j => (hs.a g_m_jud rfl j).1).trans n_jud
  replace n_ear : h_629.2.1 m_ear = F_ear := (funext fun j => (hs.a g_m_ear rfl j).1).trans n_ear
  replace n_hds : h_629.2.1 m_hds = F_hds := (funext fun j => (hs.a g_m_hds rfl j).1).trans n_hds
  replace n_ord : h_629.2.1 m_ord = F_ord := (funext fun j => (hs.a g_m_ord rfl j).1).trans n_ord
  replace n_wkl : h_629.2.1 m_wkl = F_wkl := (funext fun j => (hs.a g_m_wkl rfl j).1).trans n_wkl
  replace n_owd : h_629.2.1 m_owd = F_owd := (funext fun j => (hs.a g_m_owd rfl j).1).trans n_owd
  replace n_srv : h_629.2.1 m_srv = F_srv := (funext fun j => (hs.a g_m_srv rfl j).1).trans n_srv
  replace n_p0 : h_629.2.1 m_p0 = F_p0 := (funext fun j => (hs.a g_m_p0 rfl j).1).trans n_p0
  replace n_y_p0 : h_629.2.1 y_p0 = F_p0 := (funext fun j => (hs.a g_y_p0 rfl j).1).trans n_y_p0
  replace n_p1 : h_629.2.1 m_p1 = F_p1 := (funext fun j => (hs.a g_m_p1 rfl j).1).trans n_p1
  replace n_y_p1 : h_629.2.1 y_p1 = F_p1 := (funext fun j => (hs.a g_y_p1 rfl j).1).trans n_y_p1
  replace n_p2 : h_629.2.1 m_p2 = F_p2 := (funext fun j => (hs.a g_m_p2 rfl j).1).trans n_p2
  replace n_y_p2 : h_629.2.1 y_p2 = F_p2 := (funext fun j => (hs.a g_y_p2 rfl j).1).trans n_y_p2
  replace n_p3 : h_629.2.1 m_p3 = F_p3 := (funext fun j => (hs.a g_m_p3 rfl j).1).trans n_p3
  replace n_y_p3 : h_629.2.1 y_p3 = F_p3 := (funext fun j => (hs.a g_y_p3 rfl j).1).trans n_y_p3
  replace n_p4 : h_629.2.1 m_p4 = F_p4 := (funext fun j => (hs.a g_m_p4 rfl j).1).trans n_p4
  replace n_y_p4 : h_629.2.1 y_p4 = F_p4 := (funext fun j => (hs.a g_y_p4 rfl j).1).trans n_y_p4
  replace n_y_ls : h_629.2.1 y_ls = F_y_ls := (funext fun j => (hs.a g_y_ls rfl j).1).trans n_y_ls
  replace n_m_rl : h_629.2.1 m_rl = F_m_rl := (funext fun j => (hs.a g_m_rl rfl j).1).trans n_m_rl
  replace gx := gx.S hs
  replace gm := gm.S hs
  replace g_qa := g_qa.S hs
  replace g_qp := g_qp.S hs
  replace g_qc := g_qc.S hs
  replace g_qh := g_qh.S hs
  replace g_qw := g_qw.S hs
  replace g_ql := g_ql.S hs
  replace g_mw := g_mw.S hs
  replace g_mr := g_mr.S hs
  replace g_mp := g_mp.S hs
  replace g_mn := g_mn.S hs
  replace g_ml := g_ml.S hs
  replace g_mh := g_mh.S hs
  replace g_mt := g_mt.S hs
  replace g_m_fou := g_m_fou.S hs
  replace g_qo_ln := g_qo_ln.S hs
  replace g_qo_py := g_qo_py.S hs
  replace g_b_of := g_b_of.S hs
  replace g_m_of := g_m_of.S hs
  replace g_b_wf := g_b_wf.S hs
  replace g_m_wf := g_m_wf.S hs
  replace g_b_df := g_b_df.S hs
  replace g_m_df := g_m_df.S hs
  replace g_b_kf := g_b_kf.S hs
  replace g_m_kf := g_m_kf.S hs
  replace g_b_sf := g_b_sf.S hs
  replace g_m_sf := g_m_sf.S hs
  replace g_b_bf := g_b_bf.S hs
  replace g_m_lst := g_m_lst.S hs
  replace g_qtp := g_qtp.S hs
  replace g_m_tp := g_m_tp.S hs
  replace g_m_dead := g_m_dead.S hs
  replace g_m_isj := g_m_isj.S hs
  replace g_m_dox := g_m_dox.S hs
  replace g_m_doy := g_m_doy.S hs
  replace g_qlt := g_qlt.S hs
  replace g_qlf := g_qlf.S hs
  replace g_m_wkd := g_m_wkd.S hs
  replace g_m_aga := g_m_aga.S hs
  replace g_qwo := g_qwo.S hs
  replace g_m_ad := g_m_ad.S hs
  replace g_m_by := g_m_by.S hs
  replace g_m_ho := g_m_ho.S hs
  replace g_m_fc := g_m_fc.S hs
  replace g_m_nt := g_m_nt.S hs
  replace g_m_wt := g_m_wt.S hs
  replace g_m_be := g_m_be.S hs
  replace g_m_bor := g_m_bor.S hs
  replace g_m_kin := g_m_kin.S hs
  replace g_m_sum := g_m_sum.S hs
  replace g_m_fro := g_m_fro.S hs
  replace g_m_fil := g_m_fil.S hs
  replace g_m_jud := g_m_jud.S hs
  replace g_m_ear := g_m_ear.S hs
  replace g_m_hds := g_m_hds.S hs
  replace g_m_ord := g_m_ord.S hs
  replace g_m_wkl := g_m_wkl.S hs
  replace g_m_owd := g_m_owd.S hs
  replace g_m_gds := g_m_gds.S hs
  replace g_m_szd := g_m_szd.S hs
  replace g_m_srv := g_m_srv.S hs
  replace g_y_p0 := g_y_p0.S hs
  replace g_m_p0 := g_m_p0.S hs
  replace g_y_p1 := g_y_p1.S hs
  replace g_m_p1 := g_m_p1.S hs
  replace g_y_p2 := g_y_p2.S hs
  replace g_m_p2 := g_m_p2.S hs
  replace g_y_p3 := g_y_p3.S hs
  replace g_m_p3 := g_m_p3.S hs
  replace g_y_p4 := g_y_p4.S hs
  replace g_m_p4 := g_m_p4.S hs
  replace g_qrg9 := g_qrg9.S hs
  replace g_y_ls := g_y_ls.S hs
  replace g_m_rl := g_m_rl.S hs
  have fw_633 : h_629.2.1 m_szd = w_633 := fw_633
  have fw_634 : h_629.2.1 m_gds = w_634 := fw_634
  refine lv_pop hx hb dL_law_1016 rfl ?_
  refine lv_goto (tgt := 1379) hx hb dL_law_1017 ?o44 ?_
  case o44 => decide
  obtain ⟨heq, hq_szd, hq_gds⟩ := hz_ZS_eq hr_621 hr_632 (hz_ZC_i (fun h0 h1 => by rw [eq_fou _ (hz_i100 h0 h1 (by omega))])) (fun _ => rfl)
  refine W.widen (k := CC + 3) (n := SS + 179) ?o45 ?o46 ?_
  case o45 => omega
  case o46 => omega
  refine kk L_628 h_629 H locs ls hW ⟨hT, gx, gm, ⟨f_x_now.trans f_m_now.symm, f_x_personCount.trans f_m_persons.symm, f_x_claimCount.trans f_m_claims.symm, f_x_tapeLength.trans f_m_taped.symm, f_x_actCount.trans f_m_acts.symm, f_x_heardCount.trans f_m_heardMany.symm, hx_ob f_qo_ln (f_o_ln.trans f_m_lines.symm), hx_ob f_qw (f_o_lsd.trans f_m_listed.symm), hx_ob f_qw (f_o_wkm.trans f_m_walkedMany.symm), hx_ob f_qo_py (f_o_py.trans f_m_payments.symm), hx_ob f_qp ?o47, hx_ob f_qc ?o48, (fun b a r hb ha hr => ?o49), (fun b a r hb ha hr => ?o50), (fun b a r hb ha hr => ?o51), (fun b a r hb ha hr => ?o52), (fun b a r hb ha hr => ?o53), (fun b a r hb ha hr => ?o54), (fun w q c hw hq hc => ?o55), (fun w q r hw hq hr => ?o56), (fun w q r hw hq hr => ?o57), (fun c q a hc hq ha => ?o58), (fun q r hq hr => ?o59), (fun q w a b c d e p hq hw ha hb hc hd he hp => ?o60), (fun c q a hc hq ha => ?o61), (fun q c a hq hc ha => ?o62), (fun a b ha hb => ?o63), (fun c a b d e f hc ha hb hd he hf => ?o64), (fun c a hc ha => ?o65), hx_ob2 f_qp f_m_bor (cl_bor.trans n_bor.symm), hx_ob2 f_qp f_m_kin (cl_kin.trans n_kin.symm), hx_ob2 f_qc f_m_sum (cl_sum.trans n_sum.symm), hx_ob2 f_qc f_m_fro (cl_fro.trans n_fro.symm), hx_ob2 f_qc f_m_fil (cl_fil.trans n_fil.symm), hx_ob2 f_qc f_mh (cl_hea.trans n_mh.symm), hx_ob2 f_qc f_m_jud (cl_jud.trans n_jud.symm), hx_ob2 f_qp f_m_ear (cl_ear.trans n_ear.symm), hx_ob2 f_qp f_m_hds (cl_hds.trans n_hds.symm), hx_ob2 f_qc f_m_ord (cl_ord.trans n_ord.symm), hx_ob2 f_qc f_m_wkl (cl_wkl.trans n_wkl.symm), hx_ob2 f_qc f_m_owd (cl_owd.trans n_owd.symm), hx_ob2 f_qc f_m_gds ((fw_623.trans hq_gds).trans fw_634.symm), hx_ob2 f_qc f_m_szd ((fw_622.trans hq_szd).trans fw_633.symm), hx_ob2 f_qc f_m_srv (cl_srv.trans n_srv.symm), (fun p q r hp hq hr => ?o66), (fun p q r hp hq hr => ?o67), (fun p q r hp hq hr => ?o68), (fun p q r hp hq hr => ?o69), (fun p q r hp hq hr => ?o70), (fun p hp => ?o71), (fun p q r hp hq hr => ?o72), hx_ob2 f_qp f_m_dead ?o73, hx_ob2 f_qp f_m_isj ?o74, hx_ob2 f_qp f_m_dox ?o75, hx_ob2 f_qp f_m_doy ?o76, hx_ob2 f_qc f_m_fou ?o77, hx_ob2 f_qc f_mt ?o78, trivial⟩, ⟨hx_ob f_qa pf_qa, hx_ob f_qp pf_qp, hx_ob f_qc pf_qc, hx_ob f_qh pf_qh, (fun w q hw hq => ?o79)⟩, ⟨hx_ob f_mw ?o80, hx_ob f_mr ?o81, hx_ob2 f_mp f_mn ?o82, hx_ob f_ml ?o83, hx_ob f_mh ?o84, hx_ob f_mt ?o85, hx_ob2 f_mh f_m_fou ?o87⟩⟩ hl
  case o47 =>
    rw [f_x_personCount]
    exact nu_qp
  case o48 =>
    rw [f_x_claimCount]
    exact nu_qc
  case o49 =>
    obtain rfl : qo_ln = b := Option.some.inj (f_qo_ln.symm.trans hb)
    obtain rfl : b_of = a := Option.some.inj (f_b_of.symm.trans ha)
    obtain rfl : m_of = r := Option.some.inj (f_m_of.symm.trans hr)
    rw [n_b_of, n_m_of, f_o_ln]
    exact eb_of
  case o50 =>
    obtain rfl : qo_ln = b := Option.some.inj (f_qo_ln.symm.trans hb)
    obtain rfl : b_wf = a := Option.some.inj (f_b_wf.symm.trans ha)
    obtain rfl : m_wf = r := Option.some.inj (f_m_wf.symm.trans hr)
    rw [n_b_wf, n_m_wf, f_o_ln]
    exact eb_wf
  case o51 =>
    obtain rfl : qo_ln = b := Option.some.inj (f_qo_ln.symm.trans hb)
    obtain rfl : b_df = a := Option.some.inj (f_b_df.symm.trans ha)
    obtain rfl : m_df = r := Option.some.inj (f_m_df.symm.trans hr)
    rw [n_b_df, n_m_df, f_o_ln]
    exact eb_df
  case o52 =>
    obtain rfl : qo_ln = b := Option.some.inj (f_qo_ln.symm.trans hb)
    obtain rfl : b_kf = a := Option.some.inj (f_b_kf.symm.trans ha)
    obtain rfl : m_kf = r := Option.some.inj (f_m_kf.symm.trans hr)
    rw [n_b_kf, n_m_kf, f_o_ln]
    exact eb_kf
  case o53 =>
    obtain rfl : qo_ln = b := Option.some.inj (f_qo_ln.symm.trans hb)
    obtain rfl : b_sf = a := Option.some.inj (f_b_sf.symm.trans ha)
    obtain rfl : m_sf = r := Option.some.inj (f_m_sf.symm.trans hr)
    rw [n_b_sf, n_m_sf, f_o_ln]
    exact eb_sf
  case o54 =>
    obtain rfl : qo_ln = b := Option.some.inj (f_qo_ln.symm.trans hb)
    obtain rfl : b_df = a := Option.some.inj (f_b_df.symm.trans ha)
    obtain rfl : b_bf = r := Option.some.inj (f_b_bf.symm.trans hr)
    rw [n_b_df, n_b_bf, f_o_ln]
    exact ⟨hBD, hDY⟩
  case o55 =>
    obtain rfl : qw = w := Option.some.inj (f_qw.symm.trans hw)
    obtain rfl : ql = q := Option.some.inj (f_ql.symm.trans hq)
    obtain rfl : qc = c := Option.some.inj (f_qc.symm.trans hc)
    exact sb_list
  case o56 =>
    obtain rfl : qw = w := Option.some.inj (f_qw.symm.trans hw)
    obtain rfl : ql = q := Option.some.inj (f_ql.symm.trans hq)
    obtain rfl : m_lst = r := Option.some.inj (f_m_lst.symm.trans hr)
    rw [cl_lst, n_lst]
    exact eq_lst
  case o57 =>
    obtain rfl : qw = w := Option.some.inj (f_qw.symm.trans hw)
    obtain rfl : qlt = q := Option.some.inj (f_qlt.symm.trans hq)
    obtain rfl : m_wkd = r := Option.some.inj (f_m_wkd.symm.trans hr)
    rw [n_qlt, n_m_wkd, f_o_wkm]
    exact eb_wkd
  case o58 =>
    obtain rfl : qc = c := Option.some.inj (f_qc.symm.trans hc)
    obtain rfl : qp = q := Option.some.inj (f_qp.symm.trans hq)
    obtain rfl : m_aga = a := Option.some.inj (f_m_aga.symm.trans ha)
    rw [n_aga, f_x_claimCount]
    exact hw_DF_e hDF rfl rfl
  case o59 =>
    obtain rfl : qtp = q := Option.some.inj (f_qtp.symm.trans hq)
    obtain rfl : m_tp = r := Option.some.inj (f_m_tp.symm.trans hr)
    exact n_qtp.trans n_tp.symm
  case o60 =>
    obtain rfl : qa = q := Option.some.inj (f_qa.symm.trans hq)
    obtain rfl : qwo = w := Option.some.inj (f_qwo.symm.trans hw)
    obtain rfl : m_ad = a := Option.some.inj (f_m_ad.symm.trans ha)
    obtain rfl : mr = b := Option.some.inj (f_mr.symm.trans hb)
    obtain rfl : mn = c := Option.some.inj (f_mn.symm.trans hc)
    obtain rfl : mp = d := Option.some.inj (f_mp.symm.trans hd)
    obtain rfl : qc = e := Option.some.inj (f_qc.symm.trans he)
    obtain rfl : ml = p := Option.some.inj (f_ml.symm.trans hp)
    exact ⟨_, by rw [f_x_actCount]; exact hRA9, by rw [f_x_actCount, n_ad, n_mr, n_mn, n_mp]; exact hCA9, by rw [n_ml, f_x_claimCount]; exact hv_AC_e hAC9 rfl rfl rfl, hAB⟩
  case o61 =>
    obtain rfl : qc = c := Option.some.inj (f_qc.symm.trans hc)
    obtain rfl : qp = q := Option.some.inj (f_qp.symm.trans hq)
    obtain rfl : m_by = a := Option.some.inj (f_m_by.symm.trans ha)
    rw [n_by, f_x_claimCount]
    exact hw_DF_e hDP rfl rfl
  case o62 =>
    obtain rfl : qh = q := Option.some.inj (f_qh.symm.trans hq)
    obtain rfl : qc = c := Option.some.inj (f_qc.symm.trans hc)
    obtain rfl : m_ho = a := Option.some.inj (f_m_ho.symm.trans ha)
    rw [n_ho, f_x_heardCount, f_x_claimCount]
    exact hv_HL_e hHL rfl rfl rfl
  case o63 =>
    obtain rfl : m_ho = a := Option.some.inj (f_m_ho.symm.trans ha)
    obtain rfl : mh = b := Option.some.inj (f_mh.symm.trans hb)
    rw [n_ho, n_mh, f_m_heardMany, f_m_claims]
    exact hHO9
  case o64 =>
    obtain rfl : qc = c := Option.some.inj (f_qc.symm.trans hc)
    obtain rfl : m_fc = a := Option.some.inj (f_m_fc.symm.trans ha)
    obtain rfl : m_nt = b := Option.some.inj (f_m_nt.symm.trans hb)
    obtain rfl : m_wt = d := Option.some.inj (f_m_wt.symm.trans hd)
    obtain rfl : m_sum = e := Option.some.inj (f_m_sum.symm.trans he)
    obtain rfl : mh = f := Option.some.inj (f_mh.symm.trans hf)
    exact ⟨cF9L, by rw [f_x_claimCount]; exact hFX, by rw [n_fc, n_nt, n_wt, n_sum, n_mh, f_x_claimCount]; exact hFR9⟩
  case o65 =>
    obtain rfl : qc = c := Option.some.inj (f_qc.symm.trans hc)
    obtain rfl : m_be = a := Option.some.inj (f_m_be.symm.trans ha)
    rw [n_be, f_x_claimCount]
    exact hv_FX_e hBX rfl rfl
  case o66 =>
    obtain rfl : qo_py = p := Option.some.inj (f_qo_py.symm.trans hp)
    obtain rfl : y_p0 = q := Option.some.inj (f_y_p0.symm.trans hq)
    obtain rfl : m_p0 = r := Option.some.inj (f_m_p0.symm.trans hr)
    exact n_y_p0.trans n_p0.symm
  case o67 =>
    obtain rfl : qo_py = p := Option.some.inj (f_qo_py.symm.trans hp)
    obtain rfl : y_p1 = q := Option.some.inj (f_y_p1.symm.trans hq)
    obtain rfl : m_p1 = r := Option.some.inj (f_m_p1.symm.trans hr)
    exact n_y_p1.trans n_p1.symm
  case o68 =>
    obtain rfl : qo_py = p := Option.some.inj (f_qo_py.symm.trans hp)
    obtain rfl : y_p2 = q := Option.some.inj (f_y_p2.symm.trans hq)
    obtain rfl : m_p2 = r := Option.some.inj (f_m_p2.symm.trans hr)
    exact n_y_p2.trans n_p2.symm
  case o69 =>
    obtain rfl : qo_py = p := Option.some.inj (f_qo_py.symm.trans hp)
    obtain rfl : y_p3 = q := Option.some.inj (f_y_p3.symm.trans hq)
    obtain rfl : m_p3 = r := Option.some.inj (f_m_p3.symm.trans hr)
    exact n_y_p3.trans n_p3.symm
  case o70 =>
    obtain rfl : qo_py = p := Option.some.inj (f_qo_py.symm.trans hp)
    obtain rfl : y_p4 = q := Option.some.inj (f_y_p4.symm.trans hq)
    obtain rfl : m_p4 = r := Option.some.inj (f_m_p4.symm.trans hr)
    exact n_y_p4.trans n_p4.symm
  case o71 =>
    obtain rfl : qrg9 = p := Option.some.inj (f_qrg9.symm.trans hp)
    rw [ffv_609, ffv_610, ffv_611]
    exact hNQ9
  case o72 =>
    obtain rfl : qrg9 = p := Option.some.inj (f_qrg9.symm.trans hp)
    obtain rfl : y_ls = q := Option.some.inj (f_y_ls.symm.trans hq)
    obtain rfl : m_rl = r := Option.some.inj (f_m_rl.symm.trans hr)
    rw [n_y_ls, n_m_rl, ffv_609]
    exact hRL9
  case o73 =>
    rw [cl_dead, n_dead]
    exact eq_dead
  case o74 =>
    rw [cl_isj, n_isj]
    exact eq_isj
  case o75 =>
    rw [cl_dox, n_dox]
    exact eq_dox
  case o76 =>
    rw [cl_doy, n_doy]
    exact eq_doy
  case o77 =>
    rw [cl_fou, n_m_fou]
    exact eq_fou
  case o78 =>
    rw [cl_tri, n_mt]
    exact eq_tri
  case o79 =>
    obtain rfl : qw = w := Option.some.inj (f_qw.symm.trans hw)
    obtain rfl : ql = q := Option.some.inj (f_ql.symm.trans hq)
    exact pf_ql
  case o80 =>
    rw [n_mw]
    exact hwd
  case o81 =>
    rw [n_mr, f_m_acts]
    exact hWK
  case o82 =>
    rw [n_mp, n_mn, f_m_acts]
    exact hRP
  case o83 =>
    rw [n_ml, f_m_claims, f_m_acts]
    exact hPL
  case o84 =>
    rw [n_mh, f_m_heardMany, f_m_claims]
    exact hHC
  case o85 =>
    rw [n_mt]
    refine (hx_TR_le hTR ?o86)
    case o86 => omega
  case o87 =>
    rw [n_mh, n_m_fou, f_m_claims]
    exact hHF

set_option maxHeartbeats 4000000 in
set_option maxRecDepth 100000 in
theorem law_case_18 {p : Program} {e : Env} {s : State} {m : MethodId} {below : List Frame} {meth : Method} {c : Code} (l : Launch) {b LN : Nat} {xs : Nat → Int32} (hx : p.tables.exec = Jvm.exec) (hb : c.code = code) (hr : meth.sig.returnType = ret) (hlocks : meth.locks = false) (hml : c.maxLocals = 4) (hown : s.vm.findClass "SmallCourtLaw" = some m.cls) (hts : ∀ w ∈ hx_all, w.before #[Value.ref b] s = true) (hX : va_X b LN xs s s.heap) (hbl : b < s.heap.size) (hbA : ¬ s.heap.size ≤ b) (hLN : LN ≤ 3584) (dC : Nat → ClassId) (dI : Nat → Nat → Nat) (dA : Nat → ClassId) (b0 : hx_z) (ax am : Nat) (T1 : Int) (hT0 : 0 ≤ T1) (hT1 : T1 ≤ 511) (i : Int32) (hi0 : 0 ≤ i.toInt) (hiL : i.toInt + 7 ≤ LN) (CC SS : Nat) (hCC : CC + 3 ≤ 600000) (hSS : SS + 179 ≤ 7302250) (L1 : List Nat) (hl1 : hx_h) (H : Heap) (locs : List Loc) (ls : Array Slot) (hW : hx_W T_tb (P_ty dA) (dC, dI) vwCl (fun q : Nat => s.heap.size ≤ q) s.heap L1 hl1 s H locs) (hZ : hx_Xt (fun q : Nat => s.heap.size ≤ q) b0 s) (hI : hx_IV T1 ax am L1 hl1) (hl : lv_has ls 4 [(3, .int i), (2, .ref am), (1, .ref ax), (0, .ref b)]) (kk : ∀ (L2 : List Nat) (h2 : hx_h) (H2 : Heap) (locs2 : List Loc) (ls2 : Array Slot), hx_W T_tb (P_ty dA) (dC, dI) vwCl (fun q : Nat => s.heap.size ≤ q) s.heap L2 h2 s H2 locs2 → hx_IV (T1 + 1) ax am L2 h2 → lv_has ls2 4 [(3, .int i), (2, .ref am), (1, .ref ax), (0, .ref b)] → W p l e room_1 s m #[Value.ref b] below meth c H2 locs2 (CC + 3) (SS + 179) (lw_Z below #[Value.ref b] s) (F0 m 1379 ls2 [])) : W p l e room_1 s m #[Value.ref b] below meth c H locs CC SS (lw_Z below #[Value.ref b] s) (F0 m 1020 ls []) := by
  have hI9 := hI
  have hT := hI9.1
  replace hI9 := hI9.2
  have gx := hI9.1
  replace hI9 := hI9.2
  have gm := hI9.1
  replace hI9 := hI9.2
  have zq0_3 := hI9.1
  have he_nw := zq0_3.1
  replace zq0_3 := zq0_3.2
  have he_np := zq0_3.1
  replace zq0_3 := zq0_3.2
  have he_c0 := zq0_3.1
  replace zq0_3 := zq0_3.2
  have he_tl := zq0_3.1
  replace zq0_3 := zq0_3.2
  have he_a0 := zq0_3.1
  replace zq0_3 := zq0_3.2
  have he_m0 := zq0_3.1
  replace zq0_3 := zq0_3.2
  have ho_ln := zq0_3.1
  replace zq0_3 := zq0_3.2
  have ho_lsd := zq0_3.1
  replace zq0_3 := zq0_3.2
  have ho_wkm := zq0_3.1
  replace zq0_3 := zq0_3.2
  have ho_py := zq0_3.1
  replace zq0_3 := zq0_3.2
  have hn_qp := zq0_3.1
  replace zq0_3 := zq0_3.2
  have hn_qc := zq0_3.1
  replace zq0_3 := zq0_3.2
  have hk_of := zq0_3.1
  replace zq0_3 := zq0_3.2
  have hk_wf := zq0_3.1
  replace zq0_3 := zq0_3.2
  have hk_df := zq0_3.1
  replace zq0_3 := zq0_3.2
  have hk_kf := zq0_3.1
  replace zq0_3 := zq0_3.2
  have hk_sf := zq0_3.1
  replace zq0_3 := zq0_3.2
  have hkBD := zq0_3.1
  replace zq0_3 := zq0_3.2
  have hLQ := zq0_3.1
  replace zq0_3 := zq0_3.2
  have hLE := zq0_3.1
  replace zq0_3 := zq0_3.2
  have hkWD := zq0_3.1
  replace zq0_3 := zq0_3.2
  have hkDF := zq0_3.1
  replace zq0_3 := zq0_3.2
  have hkTP := zq0_3.1
  replace zq0_3 := zq0_3.2
  have hkAC := zq0_3.1
  replace zq0_3 := zq0_3.2
  have hkDP := zq0_3.1
  replace zq0_3 := zq0_3.2
  have hkHL := zq0_3.1
  replace zq0_3 := zq0_3.2
  have hkHO := zq0_3.1
  replace zq0_3 := zq0_3.2
  have hkFX := zq0_3.1
  replace zq0_3 := zq0_3.2
  have hkBX := zq0_3.1
  replace zq0_3 := zq0_3.2
  have hf_bor := zq0_3.1
  replace zq0_3 := zq0_3.2
  have hf_kin := zq0_3.1
  replace zq0_3 := zq0_3.2
  have hf_sum := zq0_3.1
  replace zq0_3 := zq0_3.2
  have hf_fro := zq0_3.1
  replace zq0_3 := zq0_3.2
  have hf_fil := zq0_3.1
  replace zq0_3 := zq0_3.2
  have hf_hea := zq0_3.1
  replace zq0_3 := zq0_3.2
  have hf_jud := zq0_3.1
  replace zq0_3 := zq0_3.2
  have hf_ear := zq0_3.1
  replace zq0_3 := zq0_3.2
  have hf_hds := zq0_3.1
  replace zq0_3 := zq0_3.2
  have hf_ord := zq0_3.1
  replace zq0_3 := zq0_3.2
  have hf_wkl := zq0_3.1
  replace zq0_3 := zq0_3.2
  have hf_owd := zq0_3.1
  replace zq0_3 := zq0_3.2
  have hf_gds := zq0_3.1
  replace zq0_3 := zq0_3.2
  have hf_szd := zq0_3.1
  replace zq0_3 := zq0_3.2
  have hf_srv := zq0_3.1
  replace zq0_3 := zq0_3.2
  have hkP0 := zq0_3.1
  replace zq0_3 := zq0_3.2
  have hkP1 := zq0_3.1
  replace zq0_3 := zq0_3.2
  have hkP2 := zq0_3.1
  replace zq0_3 := zq0_3.2
  have hkP3 := zq0_3.1
  replace zq0_3 := zq0_3.2
  have hkP4 := zq0_3.1
  replace zq0_3 := zq0_3.2
  have hkNQ := zq0_3.1
  replace zq0_3 := zq0_3.2
  have hkRL := zq0_3.1
  replace zq0_3 := zq0_3.2
  have hc_dead := zq0_3.1
  replace zq0_3 := zq0_3.2
  have hc_isj := zq0_3.1
  replace zq0_3 := zq0_3.2
  have hc_dox := zq0_3.1
  replace zq0_3 := zq0_3.2
  have hc_doy := zq0_3.1
  replace zq0_3 := zq0_3.2
  have hc_fou := zq0_3.1
  replace zq0_3 := zq0_3.2
  have hc_tri := zq0_3.1
  replace zq0_3 := zq0_3.2
  replace hI9 := hI9.2
  have zq0_4 := hI9.1
  have ia := zq0_4.1
  replace zq0_4 := zq0_4.2
  have ip := zq0_4.1
  replace zq0_4 := zq0_4.2
  have ic := zq0_4.1
  replace zq0_4 := zq0_4.2
  have ih := zq0_4.1
  replace zq0_4 := zq0_4.2
  have il := zq0_4
  replace hI9 := hI9.2
  have zq0_5 := hI9
  have jw := zq0_5.1
  replace zq0_5 := zq0_5.2
  have jr := zq0_5.1
  replace zq0_5 := zq0_5.2
  have jp := zq0_5.1
  replace zq0_5 := zq0_5.2
  have jl := zq0_5.1
  replace zq0_5 := zq0_5.2
  have jh := zq0_5.1
  replace zq0_5 := zq0_5.2
  have jt := zq0_5.1
  replace zq0_5 := zq0_5.2
  have jf := zq0_5
  obtain ⟨qa, f_qa, g_qa⟩ := hx_rf hT gx tt_9 (k := 5) (u := 43) rfl
  have pf_qa := ia qa f_qa
  obtain ⟨qp, f_qp, g_qp⟩ := hx_rf hT gx tt_9 (k := 7) (u := 44) rfl
  have pf_qp := ip qp f_qp
  obtain ⟨qc, f_qc, g_qc⟩ := hx_rf hT gx tt_9 (k := 10) (u := 45) rfl
  have pf_qc := ic qc f_qc
  obtain ⟨qh, f_qh, g_qh⟩ := hx_rf hT gx tt_9 (k := 12) (u := 46) rfl
  have pf_qh := ih qh f_qh
  obtain ⟨qw, f_qw, g_qw⟩ := hx_rf hT gx tt_9 (k := 19) (u := 8) rfl
  obtain ⟨ql, f_ql, g_ql⟩ := hx_rf hT g_qw tt_8 (k := 3) (u := 40) rfl
  have pf_ql := il qw ql f_qw f_ql
  obtain ⟨nw, f_m_now⟩ : ∃ y : Int32, hl1.2.1 am 0 = y := ⟨_, rfl⟩
  have b_nw := hT.gi gm tt_10 (k := 0) rfl
  rw [f_m_now] at b_nw
  have b_nw : 0 ≤ nw.toInt ∧ nw.toInt ≤ 7999 := b_nw
  obtain ⟨np, f_m_persons⟩ : ∃ y : Int32, hl1.2.1 am 20 = y := ⟨_, rfl⟩
  have b_np := hT.gi gm tt_10 (k := 20) rfl
  rw [f_m_persons] at b_np
  have b_np : 0 ≤ np.toInt ∧ np.toInt ≤ 40 := b_np
  obtain ⟨c0, f_m_claims⟩ : ∃ y : Int32, hl1.2.1 am 36 = y := ⟨_, rfl⟩
  have b_c0 := hT.gi gm tt_10 (k := 36) rfl
  rw [f_m_claims] at b_c0
  have b_c0 : 0 ≤ c0.toInt ∧ c0.toInt ≤ 100 := b_c0
  obtain ⟨tl, f_m_taped⟩ : ∃ y : Int32, hl1.2.1 am 7 = y := ⟨_, rfl⟩
  have b_tl := hT.gi gm tt_10 (k := 7) rfl
  rw [f_m_taped] at b_tl
  have b_tl : 0 ≤ tl.toInt ∧ tl.toInt ≤ 400 := b_tl
  obtain ⟨a0, f_m_acts⟩ : ∃ y : Int32, hl1.2.1 am 1 = y := ⟨_, rfl⟩
  have b_a0 := hT.gi gm tt_10 (k := 1) rfl
  rw [f_m_acts] at b_a0
  have b_a0 : 0 ≤ a0.toInt ∧ a0.toInt ≤ 8 := b_a0
  obtain ⟨m0, f_m_heardMany⟩ : ∃ y : Int32, hl1.2.1 am 57 = y := ⟨_, rfl⟩
  have b_m0 := hT.gi gm tt_10 (k := 57) rfl
  rw [f_m_heardMany] at b_m0
  have b_m0 : 0 ≤ m0.toInt ∧ m0.toInt ≤ 100 := b_m0
  obtain ⟨ln, f_m_lines⟩ : ∃ y : Int32, hl1.2.1 am 29 = y := ⟨_, rfl⟩
  have b_ln := hT.gi gm tt_10 (k := 29) rfl
  rw [f_m_lines] at b_ln
  have b_ln : 0 ≤ ln.toInt ∧ ln.toInt ≤ 400 := b_ln
  obtain ⟨lsd, f_m_listed⟩ : ∃ y : Int32, hl1.2.1 am 90 = y := ⟨_, rfl⟩
  have b_lsd := hT.gi gm tt_10 (k := 90) rfl
  rw [f_m_listed] at b_lsd
  have b_lsd : 0 ≤ lsd.toInt ∧ lsd.toInt ≤ 8 := b_lsd
  obtain ⟨wkm, f_m_walkedMany⟩ : ∃ y : Int32, hl1.2.1 am 92 = y := ⟨_, rfl⟩
  have b_wkm := hT.gi gm tt_10 (k := 92) rfl
  rw [f_m_walkedMany] at b_wkm
  have b_wkm : 0 ≤ wkm.toInt ∧ wkm.toInt ≤ 8 := b_wkm
  obtain ⟨py, f_m_payments⟩ : ∃ y : Int32, hl1.2.1 am 59 = y := ⟨_, rfl⟩
  have b_py := hT.gi gm tt_10 (k := 59) rfl
  rw [f_m_payments] at b_py
  have b_py : 0 ≤ py.toInt ∧ py.toInt ≤ 600 := b_py
  have f_x_now : hl1.2.1 ax 2 = nw := he_nw.trans f_m_now
  have f_x_personCount : hl1.2.1 ax 8 = np := he_np.trans f_m_persons
  have f_x_claimCount : hl1.2.1 ax 11 = c0 := he_c0.trans f_m_claims
  have f_x_tapeLength : hl1.2.1 ax 1 = tl := he_tl.trans f_m_taped
  have f_x_actCount : hl1.2.1 ax 6 = a0 := he_a0.trans f_m_acts
  have f_x_heardCount : hl1.2.1 ax 13 = m0 := he_m0.trans f_m_heardMany
  obtain ⟨mw, f_mw, g_mw⟩ := hx_rf hT gm tt_10 (k := 19) (u := 57) rfl
  obtain ⟨F_mw, n_mw⟩ : ∃ g : Nat → Int32, hl1.2.1 mw = g := ⟨_, rfl⟩
  obtain ⟨mr, f_mr, g_mr⟩ := hx_rf hT gm tt_10 (k := 3) (u := 50) rfl
  obtain ⟨F_mr, n_mr⟩ : ∃ g : Nat → Int32, hl1.2.1 mr = g := ⟨_, rfl⟩
  obtain ⟨mp, f_mp, g_mp⟩ := hx_rf hT gm tt_10 (k := 5) (u := 52) rfl
  obtain ⟨F_mp, n_mp⟩ : ∃ g : Nat → Int32, hl1.2.1 mp = g := ⟨_, rfl⟩
  obtain ⟨mn, f_mn, g_mn⟩ := hx_rf hT gm tt_10 (k := 4) (u := 51) rfl
  obtain ⟨F_mn, n_mn⟩ : ∃ g : Nat → Int32, hl1.2.1 mn = g := ⟨_, rfl⟩
  obtain ⟨ml, f_ml, g_ml⟩ := hx_rf hT gm tt_10 (k := 44) (u := 79) rfl
  obtain ⟨F_ml, n_ml⟩ : ∃ g : Nat → Int32, hl1.2.1 ml = g := ⟨_, rfl⟩
  obtain ⟨mh, f_mh, g_mh⟩ := hx_rf hT gm tt_10 (k := 47) (u := 82) rfl
  obtain ⟨F_mh, n_mh⟩ : ∃ g : Nat → Int32, hl1.2.1 mh = g := ⟨_, rfl⟩
  obtain ⟨mt, f_mt, g_mt⟩ := hx_rf hT gm tt_10 (k := 45) (u := 80) rfl
  obtain ⟨F_mt, n_mt⟩ : ∃ g : Nat → Int32, hl1.2.1 mt = g := ⟨_, rfl⟩
  obtain ⟨m_fou, f_m_fou, g_m_fou⟩ := hx_rf hT gm tt_10 (k := 46) (u := 81) rfl
  obtain ⟨F_m_fou, n_m_fou⟩ : ∃ g : Nat → Int32, hl1.2.1 m_fou = g := ⟨_, rfl⟩
  obtain ⟨qo_ln, f_qo_ln, g_qo_ln⟩ := hx_rf hT gx tt_9 (k := 9) (u := 1) rfl
  have f_o_ln : hl1.2.1 qo_ln 0 = ln := (ho_ln qo_ln f_qo_ln).trans f_m_lines
  have f_o_lsd : hl1.2.1 qw 0 = lsd := (ho_lsd qw f_qw).trans f_m_listed
  have f_o_wkm : hl1.2.1 qw 1 = wkm := (ho_wkm qw f_qw).trans f_m_walkedMany
  obtain ⟨qo_py, f_qo_py, g_qo_py⟩ := hx_rf hT gx tt_9 (k := 14) (u := 3) rfl
  have f_o_py : hl1.2.1 qo_py 0 = py := (ho_py qo_py f_qo_py).trans f_m_payments
  have nu_qp := hn_qp qp f_qp; rw [f_x_personCount] at nu_qp
  have nu_qc := hn_qc qc f_qc; rw [f_x_claimCount] at nu_qc
  obtain ⟨b_of, f_b_of, g_b_of⟩ := hx_rf hT g_qo_ln tt_1 (k := 1) (u := 13) rfl
  obtain ⟨B_of, n_b_of⟩ : ∃ g : Nat → Int32, hl1.2.1 b_of = g := ⟨_, rfl⟩
  obtain ⟨m_of, f_m_of, g_m_of⟩ := hx_rf hT gm tt_10 (k := 30) (u := 66) rfl
  obtain ⟨F_of, n_m_of⟩ : ∃ g : Nat → Int32, hl1.2.1 m_of = g := ⟨_, rfl⟩
  have eb_of := hk_of qo_ln b_of m_of f_qo_ln f_b_of f_m_of; rw [n_b_of, n_m_of, f_o_ln] at eb_of
  obtain ⟨b_wf, f_b_wf, g_b_wf⟩ := hx_rf hT g_qo_ln tt_1 (k := 2) (u := 14) rfl
  obtain ⟨B_wf, n_b_wf⟩ : ∃ g : Nat → Int32, hl1.2.1 b_wf = g := ⟨_, rfl⟩
  obtain ⟨m_wf, f_m_wf, g_m_wf⟩ := hx_rf hT gm tt_10 (k := 31) (u := 67) rfl
  obtain ⟨F_wf, n_m_wf⟩ : ∃ g : Nat → Int32, hl1.2.1 m_wf = g := ⟨_, rfl⟩
  have eb_wf := hk_wf qo_ln b_wf m_wf f_qo_ln f_b_wf f_m_wf; rw [n_b_wf, n_m_wf, f_o_ln] at eb_wf
  obtain ⟨b_df, f_b_df, g_b_df⟩ := hx_rf hT g_qo_ln tt_1 (k := 3) (u := 15) rfl
  obtain ⟨B_df, n_b_df⟩ : ∃ g : Nat → Int32, hl1.2.1 b_df = g := ⟨_, rfl⟩
  obtain ⟨m_df, f_m_df, g_m_df⟩ := hx_rf hT gm tt_10 (k := 32) (u := 68) rfl
  obtain ⟨F_df, n_m_df⟩ : ∃ g : Nat → Int32, hl1.2.1 m_df = g := ⟨_, rfl⟩
  have eb_df := hk_df qo_ln b_df m_df f_qo_ln f_b_df f_m_df; rw [n_b_df, n_m_df, f_o_ln] at eb_df
  obtain ⟨b_kf, f_b_kf, g_b_kf⟩ := hx_rf hT g_qo_ln tt_1 (k := 4) (u := 16) rfl
  obtain ⟨B_kf, n_b_kf⟩ : ∃ g : Nat → Int32, hl1.2.1 b_kf = g := ⟨_, rfl⟩
  obtain ⟨m_kf, f_m_kf, g_m_kf⟩ := hx_rf hT gm tt_10 (k := 33) (u := 69) rfl
  obtain ⟨F_kf, n_m_kf⟩ : ∃ g : Nat → Int32, hl1.2.1 m_kf = g := ⟨_, rfl⟩
  have eb_kf := hk_kf qo_ln b_kf m_kf f_qo_ln f_b_kf f_m_kf; rw [n_b_kf, n_m_kf, f_o_ln] at eb_kf
  obtain ⟨b_sf, f_b_sf, g_b_sf⟩ := hx_rf hT g_qo_ln tt_1 (k := 5) (u := 17) rfl
  obtain ⟨B_sf, n_b_sf⟩ : ∃ g : Nat → Int32, hl1.2.1 b_sf = g := ⟨_, rfl⟩
  obtain ⟨m_sf, f_m_sf, g_m_sf⟩ := hx_rf hT gm tt_10 (k := 34) (u := 70) rfl
  obtain ⟨F_sf, n_m_sf⟩ : ∃ g : Nat → Int32, hl1.2.1 m_sf = g := ⟨_, rfl⟩
  have eb_sf := hk_sf qo_ln b_sf m_sf f_qo_ln f_b_sf f_m_sf; rw [n_b_sf, n_m_sf, f_o_ln] at eb_sf
  obtain ⟨b_bf, f_b_bf, g_b_bf⟩ := hx_rf hT g_qo_ln tt_1 (k := 6) (u := 18) rfl
  obtain ⟨bfL, n_b_bf⟩ : ∃ g : Nat → Int32, hl1.2.1 b_bf = g := ⟨_, rfl⟩
  obtain ⟨hBD, hDY⟩ := hkBD qo_ln b_df b_bf f_qo_ln f_b_df f_b_bf; rw [n_b_df, n_b_bf, f_o_ln] at hBD; rw [n_b_df, f_o_ln] at hDY
  have hBDm := hy_BD_c eb_df hBD
  have hDYm : hy_DY F_df ln.toInt.toNat := fun x hx => by rw [← eb_df x hx]; exact hDY x hx
  have sb_list := hLQ qw ql qc f_qw f_ql f_qc
  obtain ⟨m_lst, f_m_lst, g_m_lst⟩ := hx_rf hT gm tt_10 (k := 91) (u := 112) rfl
  obtain ⟨F_lst, n_lst⟩ : ∃ g : Nat → Int32, hl1.2.1 m_lst = g := ⟨_, rfl⟩
  obtain ⟨c_lst, cl_lst⟩ : ∃ g : Nat → Int32, hx_col 8 hl1 ql 0 = g := ⟨_, rfl⟩
  have eq_lst := hLE qw ql m_lst f_qw f_ql f_m_lst; rw [cl_lst, n_lst] at eq_lst
  obtain ⟨qtp, f_qtp, g_qtp⟩ := hx_rf hT gx tt_9 (k := 0) (u := 42) rfl
  obtain ⟨m_tp, f_m_tp, g_m_tp⟩ := hx_rf hT gm tt_10 (k := 6) (u := 53) rfl
  obtain ⟨F_tp, n_tp⟩ : ∃ g : Nat → Int32, hl1.2.1 m_tp = g := ⟨_, rfl⟩
  have n_qtp : hl1.2.1 qtp = F_tp := (hkTP qtp m_tp f_qtp f_m_tp).trans n_tp
  obtain ⟨c_dead, cl_dead⟩ : ∃ g : Nat → Int32, hx_col 40 hl1 qp 7 = g := ⟨_, rfl⟩
  obtain ⟨m_dead, f_m_dead, g_m_dead⟩ := hx_rf hT gm tt_10 (k := 27) (u := 64) rfl
  obtain ⟨F_dead, n_dead⟩ : ∃ g : Nat → Int32, hl1.2.1 m_dead = g := ⟨_, rfl⟩
  have eq_dead := hc_dead qp m_dead f_qp f_m_dead; rw [cl_dead, n_dead] at eq_dead
  have z_dead : np.toInt.toNat < 40 → c_dead np.toInt.toNat = 0 := fun hj => hx_num_z nu_qp cl_dead hj ?o0
  case o0 => omega
  obtain ⟨c_isj, cl_isj⟩ : ∃ g : Nat → Int32, hx_col 40 hl1 qp 8 = g := ⟨_, rfl⟩
  obtain ⟨m_isj, f_m_isj, g_m_isj⟩ := hx_rf hT gm tt_10 (k := 28) (u := 65) rfl
  obtain ⟨F_isj, n_isj⟩ : ∃ g : Nat → Int32, hl1.2.1 m_isj = g := ⟨_, rfl⟩
  have eq_isj := hc_isj qp m_isj f_qp f_m_isj; rw [cl_isj, n_isj] at eq_isj
  have z_isj : np.toInt.toNat < 40 → c_isj np.toInt.toNat = 0 := fun hj => hx_num_z nu_qp cl_isj hj ?o1
  case o1 => omega
  obtain ⟨c_dox, cl_dox⟩ : ∃ g : Nat → Int32, hx_col 40 hl1 qp 5 = g := ⟨_, rfl⟩
  obtain ⟨m_dox, f_m_dox, g_m_dox⟩ := hx_rf hT gm tt_10 (k := 24) (u := 61) rfl
  obtain ⟨F_dox, n_dox⟩ : ∃ g : Nat → Int32, hl1.2.1 m_dox = g := ⟨_, rfl⟩
  have eq_dox := hc_dox qp m_dox f_qp f_m_dox; rw [cl_dox, n_dox] at eq_dox
  have z_dox : np.toInt.toNat < 40 → c_dox np.toInt.toNat = 0 := fun hj => hx_num_z nu_qp cl_dox hj ?o2
  case o2 => omega
  obtain ⟨c_doy, cl_doy⟩ : ∃ g : Nat → Int32, hx_col 40 hl1 qp 6 = g := ⟨_, rfl⟩
  obtain ⟨m_doy, f_m_doy, g_m_doy⟩ := hx_rf hT gm tt_10 (k := 25) (u := 62) rfl
  obtain ⟨F_doy, n_doy⟩ : ∃ g : Nat → Int32, hl1.2.1 m_doy = g := ⟨_, rfl⟩
  have eq_doy := hc_doy qp m_doy f_qp f_m_doy; rw [cl_doy, n_doy] at eq_doy
  have z_doy : np.toInt.toNat < 40 → c_doy np.toInt.toNat = 0 := fun hj => hx_num_z nu_qp cl_doy hj ?o3
  case o3 => omega
  obtain ⟨c_fou, cl_fou⟩ : ∃ g : Nat → Int32, hx_col 100 hl1 qc 10 = g := ⟨_, rfl⟩
  have eq_fou := hc_fou qc m_fou f_qc f_m_fou; rw [cl_fou, n_m_fou] at eq_fou
  have z_fou : c0.toInt.toNat < 100 → c_fou c0.toInt.toNat = 0 := fun hj => hx_num_z nu_qc cl_fou hj ?o4
  case o4 => omega
  obtain ⟨c_tri, cl_tri⟩ : ∃ g : Nat → Int32, hx_col 100 hl1 qc 9 = g := ⟨_, rfl⟩
  have eq_tri := hc_tri qc mt f_qc f_mt; rw [cl_tri, n_mt] at eq_tri
  have z_tri : c0.toInt.toNat < 100 → c_tri c0.toInt.toNat = 0 := fun hj => hx_num_z nu_qc cl_tri hj ?o5
  case o5 => omega
  obtain ⟨qlt, f_qlt, g_qlt⟩ := hx_rf hT g_qw tt_8 (k := 2) (u := 39) rfl
  obtain ⟨qlf, f_qlf, g_qlf⟩ := hx_rf hT g_qw tt_8 (k := 4) (u := 41) rfl
  obtain ⟨m_wkd, f_m_wkd, g_m_wkd⟩ := hx_rf hT gm tt_10 (k := 93) (u := 113) rfl
  obtain ⟨F_qlt, n_qlt⟩ : ∃ g : Nat → Int32, hl1.2.1 qlt = g := ⟨_, rfl⟩
  obtain ⟨F_m_wkd, n_m_wkd⟩ : ∃ g : Nat → Int32, hl1.2.1 m_wkd = g := ⟨_, rfl⟩
  have eb_wkd := hkWD qw qlt m_wkd f_qw f_qlt f_m_wkd; rw [n_qlt, n_m_wkd, f_o_wkm] at eb_wkd
  obtain ⟨m_aga, f_m_aga, g_m_aga⟩ := hx_rf hT gm tt_10 (k := 38) (u := 73) rfl
  obtain ⟨F_aga, n_aga⟩ : ∃ g : Nat → Int32, hl1.2.1 m_aga = g := ⟨_, rfl⟩
  have hDF := hkDF qc qp m_aga f_qc f_qp f_m_aga; rw [n_aga, f_x_claimCount] at hDF
  obtain ⟨qwo, f_qwo, g_qwo⟩ := hx_rf hT gx tt_9 (k := 4) (u := 0) rfl
  obtain ⟨m_ad, f_m_ad, g_m_ad⟩ := hx_rf hT gm tt_10 (k := 2) (u := 49) rfl
  obtain ⟨F_ad, n_ad⟩ : ∃ g : Nat → Int32, hl1.2.1 m_ad = g := ⟨_, rfl⟩
  obtain ⟨A9, hRA9, hCA9, hAC9, hAB⟩ := hkAC qa qwo m_ad mr mn mp qc ml f_qa f_qwo f_m_ad f_mr f_mn f_mp f_qc f_ml
  rw [f_x_actCount] at hRA9; rw [f_x_actCount, n_ad, n_mr, n_mn, n_mp] at hCA9
  obtain ⟨m_by, f_m_by, g_m_by⟩ := hx_rf hT gm tt_10 (k := 37) (u := 72) rfl
  obtain ⟨F_by, n_by⟩ : ∃ g : Nat → Int32, hl1.2.1 m_by = g := ⟨_, rfl⟩
  obtain ⟨m_ho, f_m_ho, g_m_ho⟩ := hx_rf hT gm tt_10 (k := 58) (u := 92) rfl
  obtain ⟨F_ho, n_ho⟩ : ∃ g : Nat → Int32, hl1.2.1 m_ho = g := ⟨_, rfl⟩
  obtain ⟨m_fc, f_m_fc, g_m_fc⟩ := hx_rf hT gm tt_10 (k := 53) (u := 88) rfl
  obtain ⟨F_fc, n_fc⟩ : ∃ g : Nat → Int32, hl1.2.1 m_fc = g := ⟨_, rfl⟩
  obtain ⟨m_nt, f_m_nt, g_m_nt⟩ := hx_rf hT gm tt_10 (k := 41) (u := 76) rfl
  obtain ⟨F_nt, n_nt⟩ : ∃ g : Nat → Int32, hl1.2.1 m_nt = g := ⟨_, rfl⟩
  obtain ⟨m_wt, f_m_wt, g_m_wt⟩ := hx_rf hT gm tt_10 (k := 42) (u := 77) rfl
  obtain ⟨F_wt, n_wt⟩ : ∃ g : Nat → Int32, hl1.2.1 m_wt = g := ⟨_, rfl⟩
  obtain ⟨m_be, f_m_be, g_m_be⟩ := hx_rf hT gm tt_10 (k := 52) (u := 87) rfl
  obtain ⟨F_be, n_be⟩ : ∃ g : Nat → Int32, hl1.2.1 m_be = g := ⟨_, rfl⟩
  obtain ⟨m_bor, f_m_bor, g_m_bor⟩ := hx_rf hT gm tt_10 (k := 21) (u := 58) rfl
  obtain ⟨F_bor, n_bor⟩ : ∃ g : Nat → Int32, hl1.2.1 m_bor = g := ⟨_, rfl⟩
  obtain ⟨m_kin, f_m_kin, g_m_kin⟩ := hx_rf hT gm tt_10 (k := 26) (u := 63) rfl
  obtain ⟨F_kin, n_kin⟩ : ∃ g : Nat → Int32, hl1.2.1 m_kin = g := ⟨_, rfl⟩
  obtain ⟨m_sum, f_m_sum, g_m_sum⟩ := hx_rf hT gm tt_10 (k := 39) (u := 74) rfl
  obtain ⟨F_sum, n_sum⟩ : ∃ g : Nat → Int32, hl1.2.1 m_sum = g := ⟨_, rfl⟩
  obtain ⟨m_fro, f_m_fro, g_m_fro⟩ := hx_rf hT gm tt_10 (k := 40) (u := 75) rfl
  obtain ⟨F_fro, n_fro⟩ : ∃ g : Nat → Int32, hl1.2.1 m_fro = g := ⟨_, rfl⟩
  obtain ⟨m_fil, f_m_fil, g_m_fil⟩ := hx_rf hT gm tt_10 (k := 43) (u := 78) rfl
  obtain ⟨F_fil, n_fil⟩ : ∃ g : Nat → Int32, hl1.2.1 m_fil = g := ⟨_, rfl⟩
  obtain ⟨m_jud, f_m_jud, g_m_jud⟩ := hx_rf hT gm tt_10 (k := 51) (u := 86) rfl
  obtain ⟨F_jud, n_jud⟩ : ∃ g : Nat → Int32, hl1.2.1 m_jud = g := ⟨_, rfl⟩
  obtain ⟨m_ear, f_m_ear, g_m_ear⟩ := hx_rf hT gm tt_10 (k := 22) (u := 59) rfl
  obtain ⟨F_ear, n_ear⟩ : ∃ g : Nat → Int32, hl1.2.1 m_ear = g := ⟨_, rfl⟩
  obtain ⟨m_hds, f_m_hds, g_m_hds⟩ := hx_rf hT gm tt_10 (k := 23) (u := 60) rfl
  obtain ⟨F_hds, n_hds⟩ : ∃ g : Nat → Int32, hl1.2.1 m_hds = g := ⟨_, rfl⟩
  obtain ⟨m_ord, f_m_ord, g_m_ord⟩ := hx_rf hT gm tt_10 (k := 48) (u := 83) rfl
  obtain ⟨F_ord, n_ord⟩ : ∃ g : Nat → Int32, hl1.2.1 m_ord = g := ⟨_, rfl⟩
  obtain ⟨m_wkl, f_m_wkl, g_m_wkl⟩ := hx_rf hT gm tt_10 (k := 54) (u := 89) rfl
  obtain ⟨F_wkl, n_wkl⟩ : ∃ g : Nat → Int32, hl1.2.1 m_wkl = g := ⟨_, rfl⟩
  obtain ⟨m_owd, f_m_owd, g_m_owd⟩ := hx_rf hT gm tt_10 (k := 55) (u := 90) rfl
  obtain ⟨F_owd, n_owd⟩ : ∃ g : Nat → Int32, hl1.2.1 m_owd = g := ⟨_, rfl⟩
  obtain ⟨m_gds, f_m_gds, g_m_gds⟩ := hx_rf hT gm tt_10 (k := 56) (u := 91) rfl
  obtain ⟨F_gds, n_gds⟩ : ∃ g : Nat → Int32, hl1.2.1 m_gds = g := ⟨_, rfl⟩
  obtain ⟨m_szd, f_m_szd, g_m_szd⟩ := hx_rf hT gm tt_10 (k := 49) (u := 84) rfl
  obtain ⟨F_szd, n_szd⟩ : ∃ g : Nat → Int32, hl1.2.1 m_szd = g := ⟨_, rfl⟩
  obtain ⟨m_srv, f_m_srv, g_m_srv⟩ := hx_rf hT gm tt_10 (k := 50) (u := 85) rfl
  obtain ⟨F_srv, n_srv⟩ : ∃ g : Nat → Int32, hl1.2.1 m_srv = g := ⟨_, rfl⟩
  have cl_bor : hx_col 40 hl1 qp 1 = F_bor := (hf_bor qp m_bor f_qp f_m_bor).trans n_bor
  have cl_kin : hx_col 40 hl1 qp 2 = F_kin := (hf_kin qp m_kin f_qp f_m_kin).trans n_kin
  have cl_sum : hx_col 100 hl1 qc 6 = F_sum := (hf_sum qc m_sum f_qc f_m_sum).trans n_sum
  have cl_fro : hx_col 100 hl1 qc 7 = F_fro := (hf_fro qc m_fro f_qc f_m_fro).trans n_fro
  have cl_fil : hx_col 100 hl1 qc 8 = F_fil := (hf_fil qc m_fil f_qc f_m_fil).trans n_fil
  have cl_hea : hx_col 100 hl1 qc 11 = F_mh := (hf_hea qc mh f_qc f_mh).trans n_mh
  have cl_jud : hx_col 100 hl1 qc 12 = F_jud := (hf_jud qc m_jud f_qc f_m_jud).trans n_jud
  have cl_ear : hx_col 40 hl1 qp 3 = F_ear := (hf_ear qp m_ear f_qp f_m_ear).trans n_ear
  have cl_hds : hx_col 40 hl1 qp 4 = F_hds := (hf_hds qp m_hds f_qp f_m_hds).trans n_hds
  have cl_ord : hx_col 100 hl1 qc 13 = F_ord := (hf_ord qc m_ord f_qc f_m_ord).trans n_ord
  have cl_wkl : hx_col 100 hl1 qc 14 = F_wkl := (hf_wkl qc m_wkl f_qc f_m_wkl).trans n_wkl
  have cl_owd : hx_col 100 hl1 qc 15 = F_owd := (hf_owd qc m_owd f_qc f_m_owd).trans n_owd
  have cl_gds : hx_col 100 hl1 qc 17 = F_gds := (hf_gds qc m_gds f_qc f_m_gds).trans n_gds
  have cl_szd : hx_col 100 hl1 qc 16 = F_szd := (hf_szd qc m_szd f_qc f_m_szd).trans n_szd
  have cl_srv : hx_col 100 hl1 qc 18 = F_srv := (hf_srv qc m_srv f_qc f_m_srv).trans n_srv
  have htb9 : ∀ c, c < 100 → 0 ≤ (c_tri c).toInt ∧ (c_tri c).toInt ≤ 512 := fun c hc => by rw [eq_tri c hc]; have w := hT.ei g_mt tt_80 (k := c) hc; rw [n_mt] at w; exact w
  have z_jud : F_jud c0.toInt.toNat = 0 := hx_num_z2 nu_qc cl_jud ?o6
  case o6 => omega
  have hDP := hkDP qc qp m_by f_qc f_qp f_m_by; rw [n_by, f_x_claimCount] at hDP
  have hHL := hkHL qh qc m_ho f_qh f_qc f_m_ho; rw [n_ho, f_x_heardCount, f_x_claimCount] at hHL
  have hHO9 := hkHO m_ho mh f_m_ho f_mh; rw [n_ho, n_mh, f_m_heardMany, f_m_claims] at hHO9
  obtain ⟨cF9L, hFX, hFR9⟩ := hkFX qc m_fc m_nt m_wt m_sum mh f_qc f_m_fc f_m_nt f_m_wt f_m_sum f_mh; rw [f_x_claimCount] at hFX; rw [n_fc, n_nt, n_wt, n_sum, n_mh, f_x_claimCount] at hFR9
  have hBX := hkBX qc m_be f_qc f_m_be; rw [n_be, f_x_claimCount] at hBX
  rw [n_ml, f_x_claimCount] at hAC9
  obtain ⟨y_p0, f_y_p0, g_y_p0⟩ := hx_rf hT g_qo_py tt_3 (k := 2) (u := 23) rfl
  obtain ⟨m_p0, f_m_p0, g_m_p0⟩ := hx_rf hT gm tt_10 (k := 60) (u := 93) rfl
  obtain ⟨F_p0, n_p0⟩ : ∃ g : Nat → Int32, hl1.2.1 m_p0 = g := ⟨_, rfl⟩
  have n_y_p0 : hl1.2.1 y_p0 = F_p0 := (hkP0 qo_py y_p0 m_p0 f_qo_py f_y_p0 f_m_p0).trans n_p0
  obtain ⟨y_p1, f_y_p1, g_y_p1⟩ := hx_rf hT g_qo_py tt_3 (k := 3) (u := 24) rfl
  obtain ⟨m_p1, f_m_p1, g_m_p1⟩ := hx_rf hT gm tt_10 (k := 61) (u := 94) rfl
  obtain ⟨F_p1, n_p1⟩ : ∃ g : Nat → Int32, hl1.2.1 m_p1 = g := ⟨_, rfl⟩
  have n_y_p1 : hl1.2.1 y_p1 = F_p1 := (hkP1 qo_py y_p1 m_p1 f_qo_py f_y_p1 f_m_p1).trans n_p1
  obtain ⟨y_p2, f_y_p2, g_y_p2⟩ := hx_rf hT g_qo_py tt_3 (k := 5) (u := 26) rfl
  obtain ⟨m_p2, f_m_p2, g_m_p2⟩ := hx_rf hT gm tt_10 (k := 62) (u := 95) rfl
  obtain ⟨F_p2, n_p2⟩ : ∃ g : Nat → Int32, hl1.2.1 m_p2 = g := ⟨_, rfl⟩
  have n_y_p2 : hl1.2.1 y_p2 = F_p2 := (hkP2 qo_py y_p2 m_p2 f_qo_py f_y_p2 f_m_p2).trans n_p2
  obtain ⟨y_p3, f_y_p3, g_y_p3⟩ := hx_rf hT g_qo_py tt_3 (k := 4) (u := 25) rfl
  obtain ⟨m_p3, f_m_p3, g_m_p3⟩ := hx_rf hT gm tt_10 (k := 63) (u := 96) rfl
  obtain ⟨F_p3, n_p3⟩ : ∃ g : Nat → Int32, hl1.2.1 m_p3 = g := ⟨_, rfl⟩
  have n_y_p3 : hl1.2.1 y_p3 = F_p3 := (hkP3 qo_py y_p3 m_p3 f_qo_py f_y_p3 f_m_p3).trans n_p3
  obtain ⟨y_p4, f_y_p4, g_y_p4⟩ := hx_rf hT g_qo_py tt_3 (k := 1) (u := 22) rfl
  obtain ⟨m_p4, f_m_p4, g_m_p4⟩ := hx_rf hT gm tt_10 (k := 64) (u := 97) rfl
  obtain ⟨F_p4, n_p4⟩ : ∃ g : Nat → Int32, hl1.2.1 m_p4 = g := ⟨_, rfl⟩
  have n_y_p4 : hl1.2.1 y_p4 = F_p4 := (hkP4 qo_py y_p4 m_p4 f_qo_py f_y_p4 f_m_p4).trans n_p4
  obtain ⟨qrg9, f_qrg9, g_qrg9⟩ := hx_rf hT gx tt_9 (k := 18) (u := 7) rfl
  obtain ⟨y_ls, f_y_ls, g_y_ls⟩ := hx_rf hT g_qrg9 tt_7 (k := 3) (u := 35) rfl
  obtain ⟨m_rl, f_m_rl, g_m_rl⟩ := hx_rf hT gm tt_10 (k := 85) (u := 109) rfl
  obtain ⟨F_y_ls, n_y_ls⟩ : ∃ g : Nat → Int32, hl1.2.1 y_ls = g := ⟨_, rfl⟩
  obtain ⟨F_m_rl, n_m_rl⟩ : ∃ g : Nat → Int32, hl1.2.1 m_rl = g := ⟨_, rfl⟩
  obtain ⟨fv_635, efv_635⟩ : ∃ y : Int32, y = hl1.2.1 qrg9 0 := ⟨_, rfl⟩
  have bfv_635 := hT.gi g_qrg9 tt_7 (k := 0) rfl
  rw [← efv_635] at bfv_635
  have bfv_635 : -1 ≤ fv_635.toInt ∧ fv_635.toInt ≤ 100 := bfv_635
  have ffv_635 := efv_635.symm
  obtain ⟨fv_636, efv_636⟩ : ∃ y : Int32, y = hl1.2.1 am 83 := ⟨_, rfl⟩
  have bfv_636 := hT.gi gm tt_10 (k := 83) rfl
  rw [← efv_636] at bfv_636
  have bfv_636 : 0 ≤ fv_636.toInt ∧ fv_636.toInt ≤ 1 := bfv_636
  have ffv_636 := efv_636.symm
  obtain ⟨fv_637, efv_637⟩ : ∃ y : Int32, y = hl1.2.1 am 84 := ⟨_, rfl⟩
  have bfv_637 := hT.gi gm tt_10 (k := 84) rfl
  rw [← efv_637] at bfv_637
  have bfv_637 : 0 ≤ fv_637.toInt ∧ fv_637.toInt ≤ 300 := bfv_637
  have ffv_637 := efv_637.symm
  have hNQ9 := hkNQ qrg9 f_qrg9; rw [ffv_635, ffv_636, ffv_637] at hNQ9
  have hRL9 := hkRL qrg9 y_ls m_rl f_qrg9 f_y_ls f_m_rl; rw [n_y_ls, n_m_rl, ffv_635] at hRL9
  have hCB : hz_CB F_ord F_wkl F_owd F_szd F_gds F_srv := fun c hc => ⟨by have w := hT.ei g_m_ord tt_83 (k := c) (by omega); rw [n_ord] at w; exact w, by have w := hT.ei g_m_wkl tt_89 (k := c) (by omega); rw [n_wkl] at w; exact w, by have w := hT.ei g_m_owd tt_90 (k := c) (by omega); rw [n_owd] at w; exact w, by have w := hT.ei g_m_szd tt_84 (k := c) (by omega); rw [n_szd] at w; exact w, by have w := hT.ei g_m_gds tt_91 (k := c) (by omega); rw [n_gds] at w; exact w, by have w := hT.ei g_m_srv tt_85 (k := c) (by omega); rw [n_srv] at w; exact w⟩
  have hps : ∀ j, j < 600 → 0 ≤ (F_p2 j).toInt ∧ (F_p2 j).toInt ≤ 610000 := fun j hj => by have w := hT.ei g_m_p2 tt_95 (k := j) (by omega); rw [n_p2] at w; exact w
  have hte9 : ∀ c : Nat, c < 100 → (0 ≤ (c_tri c).toInt ∧ (c_tri c).toInt ≤ 512) ∧ (0 ≤ (F_sum c).toInt ∧ (F_sum c).toInt ≤ 9999) := fun c hc => ⟨htb9 c hc, by have w := hT.ei g_m_sum tt_74 (k := c) (by omega); rw [n_sum] at w; exact w⟩
  have hee9 : ∀ c : Nat, c < 40 → (0 ≤ (F_ear c).toInt ∧ (F_ear c).toInt ≤ 9999) ∧ (0 ≤ (F_hds c).toInt ∧ (F_hds c).toInt ≤ 20) := fun c hc => ⟨by have w := hT.ei g_m_ear tt_59 (k := c) (by omega); rw [n_ear] at w; exact w, by have w := hT.ei g_m_hds tt_60 (k := c) (by omega); rw [n_hds] at w; exact w⟩
  have bAG9 : ∀ k, k < 100 → 0 ≤ (F_aga k).toInt ∧ (F_aga k).toInt ≤ 39 := fun k hk => by have w := hT.ei g_m_aga tt_73 (k := k) (by omega); rw [n_aga] at w; exact w
  have bBY9 : ∀ k, k < 100 → 0 ≤ (F_by k).toInt ∧ (F_by k).toInt ≤ 39 := fun k hk => by have w := hT.ei g_m_by tt_72 (k := k) (by omega); rw [n_by] at w; exact w
  have hag9 : ∀ c, c < c0.toInt.toNat → 0 ≤ (F_aga c).toInt ∧ (F_aga c).toInt < 40 ∧ 0 ≤ (F_by c).toInt ∧ (F_by c).toInt < 40 := fun c hc => by have a9 := bAG9 c (by omega); have b9 := bBY9 c (by omega); omega
  have z_wkl : F_wkl c0.toInt.toNat = 0 := hx_num_z2 nu_qc cl_wkl ?o7
  case o7 => omega
  have z_owd : F_owd c0.toInt.toNat = 0 := hx_num_z2 nu_qc cl_owd ?o8
  case o8 => omega
  have z_gds : F_gds c0.toInt.toNat = 0 := hx_num_z2 nu_qc cl_gds ?o9
  case o9 => omega
  have hwd := jw mw f_mw; rw [n_mw] at hwd
  have hWK := jr mr f_mr; rw [n_mr, f_m_acts] at hWK
  have hRP := jp mp mn f_mp f_mn; rw [n_mp, n_mn, f_m_acts] at hRP
  have hPL := jl ml f_ml; rw [n_ml, f_m_claims, f_m_acts] at hPL
  have hHC := jh mh f_mh; rw [n_mh, f_m_heardMany, f_m_claims] at hHC
  have hTR := jt mt f_mt; rw [n_mt] at hTR
  have hHF := jf mh m_fou f_mh f_m_fou; rw [n_mh, n_m_fou, f_m_claims] at hHF
  refine lv_aload_n hx hb dL_law_1020 rfl (lv_at hl 2 rfl) ?_
  refine lv_aload_n hx hb dL_law_1021 rfl (lv_at hl 3 rfl) ?_
  refine lv_iload_n hx hb dL_law_1022 rfl (lv_at hl 0 rfl) ?_
  refine lv_iconst (v := 1) hx hb dL_law_1023 ?o10 ?_
  case o10 => decide
  refine lv_iadd hx hb dL_law_1024 ?_
  have rg_638 := i32_r i
  refine lv_topi (fun x_639 ex_639 => ?_)
  have zx_639 : x_639.toInt = i.toInt + 1 := ?o11
  case o11 =>
    rw [ex_639]
    refine i32_add rfl ?o12 ?o13 ?o14
    case o12 => decide
    case o13 => omega
    case o14 => omega
  refine va_sld hx hb hX hbl hbA hW.2.2.2.1 (vp_in_iff.mpr ⟨?o15, ?o16⟩) dL_law_1025 ?_
  case o15 => omega
  case o16 => omega
  refine lv_topi (fun x_640 ex_640 => ?_)
  have hTo := hT
  refine hx_goi (hx_runVX (As := [.int x_640]) (rest := []) ⟨hx, hb, hml, hown, hts⟩ hW gx tt_9 (T := TX9) (N := 20) rfl (t_X9_gaol_v l dC dI dA L1 hl1 H.size b0 ax x_640 hT gx qp g_qp f_qp qc g_qc f_qc qo_py g_qo_py f_qo_py y_p0 g_y_p0 f_y_p0 y_p1 g_y_p1 f_y_p1 y_p2 g_y_p2 f_y_p2 y_p3 g_y_p3 f_y_p3 y_p4 g_y_p4 f_y_p4 F_p0 n_y_p0 F_p1 n_y_p1 F_p2 n_y_p2 F_p3 n_y_p3 F_p4 n_y_p4 c0 f_x_claimCount nw f_x_now py f_o_py np f_x_personCount F_ord cl_ord F_wkl cl_wkl F_owd cl_owd F_szd cl_szd F_gds cl_gds F_srv cl_srv c_fou cl_fou F_mh cl_hea F_jud cl_jud c_dead cl_dead nu_qp nu_qc F_aga F_ml A9 hDF hAC9 hAB hCB hps pf_qp pf_qc) hZ (cwV 1 hts (hx_gV kw_926 kw_923 kw_924 kw_925 kw_94) rfl rfl rfl (by decide +kernel) ⟨Nat.le_of_ble_eq_true rfl, Nat.le_of_ble_eq_true rfl⟩) rfl hl.1 rfl (Nat.le_of_ble_eq_true rfl) dL_law_1026 ⟨(show CC + 0 ≤ 600000 from ?o17), (show SS + 0 ≤ 7302250 from ?o18)⟩) hW (fun r_643 L_641 h_642 H locs p_644 hW => ?_)
  case o17 => omega
  case o18 => omega
  obtain ⟨⟨w_646, fw_646, hr_645⟩, hT, hs⟩ := p_644
  replace hT : hx_T T_tb L_641 h_642 := hT
  replace hs : hx_S T_tb [(2, 18)] L1 hl1 L_641 h_642 := hs
  replace f_qa := (hs.o gx trivial rfl).2.trans f_qa
  replace f_qp := (hs.o gx trivial rfl).2.trans f_qp
  replace f_qc := (hs.o gx trivial rfl).2.trans f_qc
  replace f_qh := (hs.o gx trivial rfl).2.trans f_qh
  replace f_qw := (hs.o gx trivial rfl).2.trans f_qw
  replace f_ql := (hs.o g_qw trivial rfl).2.trans f_ql
  replace f_m_now := (hs.o gm trivial rfl).1.trans f_m_now
  replace f_m_persons := (hs.o gm trivial rfl).1.trans f_m_persons
  replace f_m_claims := (hs.o gm trivial rfl).1.trans f_m_claims
  replace f_m_taped := (hs.o gm trivial rfl).1.trans f_m_taped
  replace f_m_acts := (hs.o gm trivial rfl).1.trans f_m_acts
  replace f_m_heardMany := (hs.o gm trivial rfl).1.trans f_m_heardMany
  replace f_m_lines := (hs.o gm trivial rfl).1.trans f_m_lines
  replace f_m_listed := (hs.o gm trivial rfl).1.trans f_m_listed
  replace f_m_walkedMany := (hs.o gm trivial rfl).1.trans f_m_walkedMany
  replace f_m_payments := (hs.o gm trivial rfl).1.trans f_m_payments
  replace f_x_now := (hs.o gx trivial rfl).1.trans f_x_now
  replace f_x_personCount := (hs.o gx trivial rfl).1.trans f_x_personCount
  replace f_x_claimCount := (hs.o gx trivial rfl).1.trans f_x_claimCount
  replace f_x_tapeLength := (hs.o gx trivial rfl).1.trans f_x_tapeLength
  replace f_x_actCount := (hs.o gx trivial rfl).1.trans f_x_actCount
  replace f_x_heardCount := (hs.o gx trivial rfl).1.trans f_x_heardCount
  replace f_mw := (hs.o gm trivial rfl).2.trans f_mw
  replace f_mr := (hs.o gm trivial rfl).2.trans f_mr
  replace f_mp := (hs.o gm trivial rfl).2.trans f_mp
  replace f_mn := (hs.o gm trivial rfl).2.trans f_mn
  replace f_ml := (hs.o gm trivial rfl).2.trans f_ml
  replace f_mh := (hs.o gm trivial rfl).2.trans f_mh
  replace f_mt := (hs.o gm trivial rfl).2.trans f_mt
  replace f_m_fou := (hs.o gm trivial rfl).2.trans f_m_fou
  replace f_qo_ln := (hs.o gx trivial rfl).2.trans f_qo_ln
  replace f_o_ln := (hs.o g_qo_ln trivial rfl).1.trans f_o_ln
  replace f_o_lsd := (hs.o g_qw trivial rfl).1.trans f_o_lsd
  replace f_o_wkm := (hs.o g_qw trivial rfl).1.trans f_o_wkm
  replace f_qo_py := (hs.o gx trivial rfl).2.trans f_qo_py
  replace f_o_py := (hs.o g_qo_py trivial rfl).1.trans f_o_py
  replace f_b_of := (hs.o g_qo_ln trivial rfl).2.trans f_b_of
  replace f_m_of := (hs.o gm trivial rfl).2.trans f_m_of
  replace f_b_wf := (hs.o g_qo_ln trivial rfl).2.trans f_b_wf
  replace f_m_wf := (hs.o gm trivial rfl).2.trans f_m_wf
  replace f_b_df := (hs.o g_qo_ln trivial rfl).2.trans f_b_df
  replace f_m_df := (hs.o gm trivial rfl).2.trans f_m_df
  replace f_b_kf := (hs.o g_qo_ln trivial rfl).2.trans f_b_kf
  replace f_m_kf := (hs.o gm trivial rfl).2.trans f_m_kf
  replace f_b_sf := (hs.o g_qo_ln trivial rfl).2.trans f_b_sf
  replace f_m_sf := (hs.o gm trivial rfl).2.trans f_m_sf
  replace f_b_bf := (hs.o g_qo_ln trivial rfl).2.trans f_b_bf
  replace f_m_lst := (hs.o gm trivial rfl).2.trans f_m_lst
  replace f_qtp := (hs.o gx trivial rfl).2.trans f_qtp
  replace f_m_tp := (hs.o gm trivial rfl).2.trans f_m_tp
  replace f_m_dead := (hs.o gm trivial rfl).2.trans f_m_dead
  replace f_m_isj := (hs.o gm trivial rfl).2.trans f_m_isj
  replace f_m_dox := (hs.o gm trivial rfl).2.trans f_m_dox
  replace f_m_doy := (hs.o gm trivial rfl).2.trans f_m_doy
  replace f_qlt := (hs.o g_qw trivial rfl).2.trans f_qlt
  replace f_qlf := (hs.o g_qw trivial rfl).2.trans f_qlf
  replace f_m_wkd := (hs.o gm trivial rfl).2.trans f_m_wkd
  replace f_m_aga := (hs.o gm trivial rfl).2.trans f_m_aga
  replace f_qwo := (hs.o gx trivial rfl).2.trans f_qwo
  replace f_m_ad := (hs.o gm trivial rfl).2.trans f_m_ad
  replace f_m_by := (hs.o gm trivial rfl).2.trans f_m_by
  replace f_m_ho := (hs.o gm trivial rfl).2.trans f_m_ho
  replace f_m_fc := (hs.o gm trivial rfl).2.trans f_m_fc
  replace f_m_nt := (hs.o gm trivial rfl).2.trans f_m_nt
  replace f_m_wt := (hs.o gm trivial rfl).2.trans f_m_wt
  replace f_m_be := (hs.o gm trivial rfl).2.trans f_m_be
  replace f_m_bor := (hs.o gm trivial rfl).2.trans f_m_bor
  replace f_m_kin := (hs.o gm trivial rfl).2.trans f_m_kin
  replace f_m_sum := (hs.o gm trivial rfl).2.trans f_m_sum
  replace f_m_fro := (hs.o gm trivial rfl).2.trans f_m_fro
  replace f_m_fil := (hs.o gm trivial rfl).2.trans f_m_fil
  replace f_m_jud := (hs.o gm trivial rfl).2.trans f_m_jud
  replace f_m_ear := (hs.o gm trivial rfl).2.trans f_m_ear
  replace f_m_hds := (hs.o gm trivial rfl).2.trans f_m_hds
  replace f_m_ord := (hs.o gm trivial rfl).2.trans f_m_ord
  replace f_m_wkl := (hs.o gm trivial rfl).2.trans f_m_wkl
  replace f_m_owd := (hs.o gm trivial rfl).2.trans f_m_owd
  replace f_m_gds := (hs.o gm trivial rfl).2.trans f_m_gds
  replace f_m_szd := (hs.o gm trivial rfl).2.trans f_m_szd
  replace f_m_srv := (hs.o gm trivial rfl).2.trans f_m_srv
  replace f_y_p0 := (hs.o g_qo_py trivial rfl).2.trans f_y_p0
  replace f_m_p0 := (hs.o gm trivial rfl).2.trans f_m_p0
  replace f_y_p1 := (hs.o g_qo_py trivial rfl).2.trans f_y_p1
  replace f_m_p1 := (hs.o gm trivial rfl).2.trans f_m_p1
  replace f_y_p2 := (hs.o g_qo_py trivial rfl).2.trans f_y_p2
  replace f_m_p2 := (hs.o gm trivial rfl).2.trans f_m_p2
  replace f_y_p3 := (hs.o g_qo_py trivial rfl).2.trans f_y_p3
  replace f_m_p3 := (hs.o gm trivial rfl).2.trans f_m_p3
  replace f_y_p4 := (hs.o g_qo_py trivial rfl).2.trans f_y_p4
  replace f_m_p4 := (hs.o gm trivial rfl).2.trans f_m_p4
  replace f_qrg9 := (hs.o gx trivial rfl).2.trans f_qrg9
  replace f_y_ls := (hs.o g_qrg9 trivial rfl).2.trans f_y_ls
  replace f_m_rl := (hs.o gm trivial rfl).2.trans f_m_rl
  replace ffv_635 := (hs.o g_qrg9 trivial rfl).1.trans ffv_635
  replace ffv_636 := (hs.o gm trivial rfl).1.trans ffv_636
  replace ffv_637 := (hs.o gm trivial rfl).1.trans ffv_637
  replace pf_qa : ∀ j : Nat, (j : Int) < (h_642.2.1 ax 6).toInt → h_642.2.2 qa j ≠ none := by
    intro j hj; rw [(hs.o gx trivial rfl).1] at hj; rw [(hs.a g_qa rfl j).2]; exact pf_qa j hj
  replace pf_qp : ∀ j : Nat, (j : Int) < (h_642.2.1 ax 8).toInt → h_642.2.2 qp j ≠ none := by
    intro j hj; rw [(hs.o gx trivial rfl).1] at hj; rw [(hs.a g_qp rfl j).2]; exact pf_qp j hj
  replace pf_qc : ∀ j : Nat, (j : Int) < (h_642.2.1 ax 11).toInt → h_642.2.2 qc j ≠ none := by
    intro j hj; rw [(hs.o gx trivial rfl).1] at hj; rw [(hs.a g_qc rfl j).2]; exact pf_qc j hj
  replace pf_qh : ∀ j : Nat, (j : Int) < (h_642.2.1 ax 13).toInt → h_642.2.2 qh j ≠ none := by
    intro j hj; rw [(hs.o gx trivial rfl).1] at hj; rw [(hs.a g_qh rfl j).2]; exact pf_qh j hj
  replace pf_ql : ∀ j : Nat, (j : Int) < (h_642.2.1 qw 0).toInt → h_642.2.2 ql j ≠ none := by
    intro j hj; rw [(hs.o g_qw trivial rfl).1] at hj; rw [(hs.a g_ql rfl j).2]; exact pf_ql j hj
  replace cl_lst : hx_col 8 h_642 ql 0 = c_lst := (hx_col_S hs hTo g_ql tt_40 tt_2 rfl rfl).trans cl_lst
  replace cl_dead : hx_col 40 h_642 qp 7 = c_dead := (hx_col_S hs hTo g_qp tt_44 tt_4 rfl rfl).trans cl_dead
  replace cl_isj : hx_col 40 h_642 qp 8 = c_isj := (hx_col_S hs hTo g_qp tt_44 tt_4 rfl rfl).trans cl_isj
  replace cl_dox : hx_col 40 h_642 qp 5 = c_dox := (hx_col_S hs hTo g_qp tt_44 tt_4 rfl rfl).trans cl_dox
  replace cl_doy : hx_col 40 h_642 qp 6 = c_doy := (hx_col_S hs hTo g_qp tt_44 tt_4 rfl rfl).trans cl_doy
  replace cl_fou : hx_col 100 h_642 qc 10 = c_fou := (hx_col_S hs hTo g_qc tt_45 tt_2 rfl rfl).trans cl_fou
  replace cl_tri : hx_col 100 h_642 qc 9 = c_tri := (hx_col_S hs hTo g_qc tt_45 tt_2 rfl rfl).trans cl_tri
  replace cl_bor : hx_col 40 h_642 qp 1 = F_bor := (hx_col_S hs hTo g_qp tt_44 tt_4 rfl rfl).trans cl_bor
  replace cl_kin : hx_col 40 h_642 qp 2 = F_kin := (hx_col_S hs hTo g_qp tt_44 tt_4 rfl rfl).trans cl_kin
  replace cl_sum : hx_col 100 h_642 qc 6 = F_sum := (hx_col_S hs hTo g_qc tt_45 tt_2 rfl rfl).trans cl_sum
  replace cl_fro : hx_col 100 h_642 qc 7 = F_fro := (hx_col_S hs hTo g_qc tt_45 tt_2 rfl rfl).trans cl_fro
  replace cl_fil : hx_col 100 h_642 qc 8 = F_fil := (hx_col_S hs hTo g_qc tt_45 tt_2 rfl rfl).trans cl_fil
  replace cl_hea : hx_col 100 h_642 qc 11 = F_mh := (hx_col_S hs hTo g_qc tt_45 tt_2 rfl rfl).trans cl_hea
  replace cl_jud : hx_col 100 h_642 qc 12 = F_jud := (hx_col_S hs hTo g_qc tt_45 tt_2 rfl rfl).trans cl_jud
  replace cl_ear : hx_col 40 h_642 qp 3 = F_ear := (hx_col_S hs hTo g_qp tt_44 tt_4 rfl rfl).trans cl_ear
  replace cl_hds : hx_col 40 h_642 qp 4 = F_hds := (hx_col_S hs hTo g_qp tt_44 tt_4 rfl rfl).trans cl_hds
  replace cl_ord : hx_col 100 h_642 qc 13 = F_ord := (hx_col_S hs hTo g_qc tt_45 tt_2 rfl rfl).trans cl_ord
  replace cl_wkl : hx_col 100 h_642 qc 14 = F_wkl := (hx_col_S hs hTo g_qc tt_45 tt_2 rfl rfl).trans cl_wkl
  replace cl_owd : hx_col 100 h_642 qc 15 = F_owd := (hx_col_S hs hTo g_qc tt_45 tt_2 rfl rfl).trans cl_owd
  replace cl_gds : hx_col 100 h_642 qc 17 = F_gds := (hx_col_S hs hTo g_qc tt_45 tt_2 rfl rfl).trans cl_gds
  replace cl_szd : hx_col 100 h_642 qc 16 = F_szd := (hx_col_S hs hTo g_qc tt_45 tt_2 rfl rfl).trans cl_szd
  replace nu_qp : hx_num 40 h_642 qp 0 (np.toInt) := hx_num_S hs hTo g_qp tt_44 tt_4 rfl rfl nu_qp
  replace nu_qc : hx_num 100 h_642 qc 0 (c0.toInt) := hx_num_S hs hTo g_qc tt_45 tt_2 rfl rfl nu_qc
  replace sb_list : hx_LQ 8 100 h_642 ql qc := hx_LQ_S hs g_ql g_qc rfl rfl sb_list
  replace hDF : hw_DF h_642 qc qp 2 F_aga c0.toInt := hw_DF_S hs hTo g_qc g_qp tt_45 tt_2 rfl rfl rfl hDF
  replace hRA9 : hv_RA h_642 qa qwo a0.toInt A9 := hv_RA_S hs hTo g_qa g_qwo tt_43 tt_0 rfl rfl rfl rfl rfl rfl ?o19 hRA9
  case o19 => omega
  replace hDP : hw_DF h_642 qc qp 1 F_by c0.toInt := hw_DF_S hs hTo g_qc g_qp tt_45 tt_2 rfl rfl rfl hDP
  replace hAC9 : hv_AC h_642 qc F_ml c0.toInt A9 := hv_AC_S hs hTo g_qc tt_45 tt_2 rfl tt_0 rfl rfl rfl rfl rfl rfl rfl hAC9
  replace hFX : hv_FX 8 4 h_642 qc cF9L c0.toInt := hv_FX_S hs hTo g_qc tt_45 tt_2 rfl rfl rfl rfl hFX
  replace hBX : hv_FX 3 5 h_642 qc F_be c0.toInt := hv_FX_S hs hTo g_qc tt_45 tt_2 rfl rfl rfl rfl hBX
  replace hHL : hv_HL h_642 qh qc F_ho m0.toInt c0.toInt := hv_HL_S hs g_qh g_qc rfl rfl hHL
  replace n_mw : h_642.2.1 mw = F_mw := (funext fun j => (hs.a g_mw rfl j).1).trans n_mw
  replace n_mr : h_642.2.1 mr = F_mr := (funext fun j => (hs.a g_mr rfl j).1).trans n_mr
  replace n_mp : h_642.2.1 mp = F_mp := (funext fun j => (hs.a g_mp rfl j).1).trans n_mp
  replace n_mn : h_642.2.1 mn = F_mn := (funext fun j => (hs.a g_mn rfl j).1).trans n_mn
  replace n_ml : h_642.2.1 ml = F_ml := (funext fun j => (hs.a g_ml rfl j).1).trans n_ml
  replace n_mh : h_642.2.1 mh = F_mh := (funext fun j => (hs.a g_mh rfl j).1).trans n_mh
  replace n_mt : h_642.2.1 mt = F_mt := (funext fun j => (hs.a g_mt rfl j).1).trans n_mt
  replace n_m_fou : h_642.2.1 m_fou = F_m_fou := (funext fun j => (hs.a g_m_fou rfl j).1).trans n_m_fou
  replace n_b_of : h_642.2.1 b_of = B_of := (funext fun j => (hs.a g_b_of rfl j).1).trans n_b_of
  replace n_m_of : h_642.2.1 m_of = F_of := (funext fun j => (hs.a g_m_of rfl j).1).trans n_m_of
  replace n_b_wf : h_642.2.1 b_wf = B_wf := (funext fun j => (hs.a g_b_wf rfl j).1).trans n_b_wf
  replace n_m_wf : h_642.2.1 m_wf = F_wf := (funext fun j => (hs.a g_m_wf rfl j).1).trans n_m_wf
  replace n_b_df : h_642.2.1 b_df = B_df := (funext fun j => (hs.a g_b_df rfl j).1).trans n_b_df
  replace n_m_df : h_642.2.1 m_df = F_df := (funext fun j => (hs.a g_m_df rfl j).1).trans n_m_df
  replace n_b_kf : h_642.2.1 b_kf = B_kf := (funext fun j => (hs.a g_b_kf rfl j).1).trans n_b_kf
  replace n_m_kf : h_642.2.1 m_kf = F_kf := (funext fun j => (hs.a g_m_kf rfl j).1).trans n_m_kf
  replace n_b_sf : h_642.2.1 b_sf = B_sf := (funext fun j => (hs.a g_b_sf rfl j).1).trans n_b_sf
  replace n_m_sf : h_642.2.1 m_sf = F_sf := (funext fun j => (hs.a g_m_sf rfl j).1).trans n_m_sf
  replace n_b_bf : h_642.2.1 b_bf = bfL := (funext fun j => (hs.a g_b_bf rfl j).1).trans n_b_bf
  replace n_lst : h_642.2.1 m_lst = F_lst := (funext fun j => (hs.a g_m_lst rfl j).1).trans n_lst
  replace n_tp : h_642.2.1 m_tp = F_tp := (funext fun j => (hs.a g_m_tp rfl j).1).trans n_tp
  replace n_qtp : h_642.2.1 qtp = F_tp := (funext fun j => (hs.a g_qtp rfl j).1).trans n_qtp
  replace n_dead : h_642.2.1 m_dead = F_dead := (funext fun j => (hs.a g_m_dead rfl j).1).trans n_dead
  replace n_isj : h_642.2.1 m_isj = F_isj := (funext fun j => (hs.a g_m_isj rfl j).1).trans n_isj
  replace n_dox : h_642.2.1 m_dox = F_dox := (funext fun j => (hs.a g_m_dox rfl j).1).trans n_dox
  replace n_doy : h_642.2.1 m_doy = F_doy := (funext fun j => (hs.a g_m_doy rfl j).1).trans n_doy
  replace n_qlt : h_642.2.1 qlt = F_qlt := (funext fun j => (hs.a g_qlt rfl j).1).trans n_qlt
  replace n_m_wkd : h_642.2.1 m_wkd = F_m_wkd := (funext fun j => (hs.a g_m_wkd rfl j).1).trans n_m_wkd
  replace n_aga : h_642.2.1 m_aga = F_aga := (funext fun j => (hs.a g_m_aga rfl j).1).trans n_aga
  replace n_ad : h_642.2.1 m_ad = F_ad := (funext fun j => (hs.a g_m_ad rfl j).1).trans n_ad
  replace n_by : h_642.2.1 m_by = F_by := (funext fun j => (hs.a g_m_by rfl j).1).trans n_by
  replace n_ho : h_642.2.1 m_ho = F_ho := (funext fun j => (hs.a g_m_ho rfl j).1).trans n_ho
  replace n_fc : h_642.2.1 m_fc = F_fc := (funext fun j => (hs.a g_m_fc rfl j).1).trans n_fc
  replace n_nt : h_642.2.1 m_nt = F_nt := (funext fun j => (hs.a g_m_nt rfl j).1).trans n_nt
  replace n_wt : h_642.2.1 m_wt = F_wt := (funext fun j => (hs.a g_m_wt rfl j).1).trans n_wt
  replace n_be : h_642.2.1 m_be = F_be := (funext fun j => (hs.a g_m_be rfl j).1).trans n_be
  replace n_bor : h_642.2.1 m_bor = F_bor := (funext fun j => (hs.a g_m_bor rfl j).1).trans n_bor
  replace n_kin : h_642.2.1 m_kin = F_kin := (funext fun j => (hs.a g_m_kin rfl j).1).trans n_kin
  replace n_sum : h_642.2.1 m_sum = F_sum := (funext fun j => (hs.a g_m_sum rfl j).1).trans n_sum
  replace n_fro : h_642.2.1 m_fro = F_fro := (funext fun j => (hs.a g_m_fro rfl j).1).trans n_fro
  replace n_fil : h_642.2.1 m_fil = F_fil := (funext fun j => (hs.a g_m_fil rfl j).1).trans n_fil
  replace n_jud : h_642.2.1 m_jud = F_jud := (funext fun j => (hs.a g_m_jud rfl j).1).trans n_jud
  replace n_ear : h_642.2.1 m_ear = F_ear := (funext fun j => (hs.a g_m_ear rfl j).1).trans n_ear
  replace n_hds : h_642.2.1 m_hds = F_hds := (funext fun j => (hs.a g_m_hds rfl j).1).trans n_hds
  replace n_ord : h_642.2.1 m_ord = F_ord := (funext fun j => (hs.a g_m_ord rfl j).1).trans n_ord
  replace n_wkl : h_642.2.1 m_wkl = F_wkl := (funext fun j => (hs.a g_m_wkl rfl j).1).trans n_wkl
  replace n_owd : h_642.2.1 m_owd = F_owd := (funext fun j => (hs.a g_m_owd rfl j).1).trans n_owd
  replace n_gds : h_642.2.1 m_gds = F_gds := (funext fun j => (hs.a g_m_gds rfl j).1).trans n_gds
  replace n_szd : h_642.2.1 m_szd = F_szd := (funext fun j => (hs.a g_m_szd rfl j).1).trans n_szd
  replace n_srv : h_642.2.1 m_srv = F_srv := (funext fun j => (hs.a g_m_srv rfl j).1).trans n_srv
  replace n_p0 : h_642.2.1 m_p0 = F_p0 := (funext fun j => (hs.a g_m_p0 rfl j).1).trans n_p0
  replace n_y_p0 : h_642.2.1 y_p0 = F_p0 := (funext fun j => (hs.a g_y_p0 rfl j).1).trans n_y_p0
  replace n_p1 : h_642.2.1 m_p1 = F_p1 := (funext fun j => (hs.a g_m_p1 rfl j).1).trans n_p1
  replace n_y_p1 : h_642.2.1 y_p1 = F_p1 := (funext fun j => (hs.a g_y_p1 rfl j).1).trans n_y_p1
  replace n_p2 : h_642.2.1 m_p2 = F_p2 := (funext fun j => (hs.a g_m_p2 rfl j).1).trans n_p2
  replace n_y_p2 : h_642.2.1 y_p2 = F_p2 := (funext fun j => (hs.a g_y_p2 rfl j).1).trans n_y_p2
  replace n_p3 : h_642.2.1 m_p3 = F_p3 := (funext fun j => (hs.a g_m_p3 rfl j).1).trans n_p3
  replace n_y_p3 : h_642.2.1 y_p3 = F_p3 := (funext fun j => (hs.a g_y_p3 rfl j).1).trans n_y_p3
  replace n_p4 : h_642.2.1 m_p4 = F_p4 := (funext fun j => (hs.a g_m_p4 rfl j).1).trans n_p4
  replace n_y_p4 : h_642.2.1 y_p4 = F_p4 := (funext fun j => (hs.a g_y_p4 rfl j).1).trans n_y_p4
  replace n_y_ls : h_642.2.1 y_ls = F_y_ls := (funext fun j => (hs.a g_y_ls rfl j).1).trans n_y_ls
  replace n_m_rl : h_642.2.1 m_rl = F_m_rl := (funext fun j => (hs.a g_m_rl rfl j).1).trans n_m_rl
  replace gx := gx.S hs
  replace gm := gm.S hs
  replace g_qa := g_qa.S hs
  replace g_qp := g_qp.S hs
  replace g_qc := g_qc.S hs
  replace g_qh := g_qh.S hs
  replace g_qw := g_qw.S hs
  replace g_ql := g_ql.S hs
  replace g_mw := g_mw.S hs
  replace g_mr := g_mr.S hs
  replace g_mp := g_mp.S hs
  replace g_mn := g_mn.S hs
  replace g_ml := g_ml.S hs
  replace g_mh := g_mh.S hs
  replace g_mt := g_mt.S hs
  replace g_m_fou := g_m_fou.S hs
  replace g_qo_ln := g_qo_ln.S hs
  replace g_qo_py := g_qo_py.S hs
  replace g_b_of := g_b_of.S hs
  replace g_m_of := g_m_of.S hs
  replace g_b_wf := g_b_wf.S hs
  replace g_m_wf := g_m_wf.S hs
  replace g_b_df := g_b_df.S hs
  replace g_m_df := g_m_df.S hs
  replace g_b_kf := g_b_kf.S hs
  replace g_m_kf := g_m_kf.S hs
  replace g_b_sf := g_b_sf.S hs
  replace g_m_sf := g_m_sf.S hs
  replace g_b_bf := g_b_bf.S hs
  replace g_m_lst := g_m_lst.S hs
  replace g_qtp := g_qtp.S hs
  replace g_m_tp := g_m_tp.S hs
  replace g_m_dead := g_m_dead.S hs
  replace g_m_isj := g_m_isj.S hs
  replace g_m_dox := g_m_dox.S hs
  replace g_m_doy := g_m_doy.S hs
  replace g_qlt := g_qlt.S hs
  replace g_qlf := g_qlf.S hs
  replace g_m_wkd := g_m_wkd.S hs
  replace g_m_aga := g_m_aga.S hs
  replace g_qwo := g_qwo.S hs
  replace g_m_ad := g_m_ad.S hs
  replace g_m_by := g_m_by.S hs
  replace g_m_ho := g_m_ho.S hs
  replace g_m_fc := g_m_fc.S hs
  replace g_m_nt := g_m_nt.S hs
  replace g_m_wt := g_m_wt.S hs
  replace g_m_be := g_m_be.S hs
  replace g_m_bor := g_m_bor.S hs
  replace g_m_kin := g_m_kin.S hs
  replace g_m_sum := g_m_sum.S hs
  replace g_m_fro := g_m_fro.S hs
  replace g_m_fil := g_m_fil.S hs
  replace g_m_jud := g_m_jud.S hs
  replace g_m_ear := g_m_ear.S hs
  replace g_m_hds := g_m_hds.S hs
  replace g_m_ord := g_m_ord.S hs
  replace g_m_wkl := g_m_wkl.S hs
  replace g_m_owd := g_m_owd.S hs
  replace g_m_gds := g_m_gds.S hs
  replace g_m_szd := g_m_szd.S hs
  replace g_m_srv := g_m_srv.S hs
  replace g_y_p0 := g_y_p0.S hs
  replace g_m_p0 := g_m_p0.S hs
  replace g_y_p1 := g_y_p1.S hs
  replace g_m_p1 := g_m_p1.S hs
  replace g_y_p2 := g_y_p2.S hs
  replace g_m_p2 := g_m_p2.S hs
  replace g_y_p3 := g_y_p3.S hs
  replace g_m_p3 := g_m_p3.S hs
  replace g_y_p4 := g_y_p4.S hs
  replace g_m_p4 := g_m_p4.S hs
  replace g_qrg9 := g_qrg9.S hs
  replace g_y_ls := g_y_ls.S hs
  replace g_m_rl := g_m_rl.S hs
  have fw_646 : hx_col 100 h_642 qc 18 = w_646 := fw_646
  refine lv_pop hx hb dL_law_1029 rfl ?_
  refine lv_aload_n hx hb dL_law_1030 rfl (lv_at hl 1 rfl) ?_
  refine lv_aload_n hx hb dL_law_1031 rfl (lv_at hl 3 rfl) ?_
  refine lv_iload_n hx hb dL_law_1032 rfl (lv_at hl 0 rfl) ?_
  refine lv_iconst (v := 1) hx hb dL_law_1033 ?o20 ?_
  case o20 => decide
  refine lv_iadd hx hb dL_law_1034 ?_
  refine lv_topi (fun x_647 ex_647 => ?_)
  have zx_647 : x_647.toInt = i.toInt + 1 := ?o21
  case o21 =>
    rw [ex_647]
    refine i32_add rfl ?o22 ?o23 ?o24
    case o22 => decide
    case o23 => omega
    case o24 => omega
  obtain rfl : x_639 = x_647 := ex_639.trans ex_647.symm
  refine va_sld hx hb hX hbl hbA hW.2.2.2.1 (vp_in_iff.mpr ⟨?o25, ?o26⟩) dL_law_1035 ?_
  case o25 => omega
  case o26 => omega
  refine lv_topi (fun x_648 ex_648 => ?_)
  obtain rfl : x_640 = x_648 := ex_640.trans ex_648.symm
  have hTo := hT
  refine hx_goi (hx_runV (As := [.int x_640]) (rest := []) ⟨hx, hb, hml, hown, hts⟩ hW gm tt_10 (T := TX10) (N := 98) rfl (t_X10_gaol_v l dC dI dA L_641 h_642 H.size am x_640 hT gm m_fou g_m_fou f_m_fou mh g_mh f_mh m_jud g_m_jud f_m_jud m_ord g_m_ord f_m_ord m_srv g_m_srv f_m_srv m_szd g_m_szd f_m_szd m_gds g_m_gds f_m_gds m_owd g_m_owd f_m_owd m_wkl g_m_wkl f_m_wkl ml g_ml f_ml mr g_mr f_mr m_p0 g_m_p0 f_m_p0 m_p1 g_m_p1 f_m_p1 m_p2 g_m_p2 f_m_p2 m_p3 g_m_p3 f_m_p3 m_p4 g_m_p4 f_m_p4 m_dead g_m_dead f_m_dead m_aga g_m_aga f_m_aga F_m_fou n_m_fou F_mh n_mh F_jud n_jud F_ord n_ord F_srv n_srv F_szd n_szd F_gds n_gds F_owd n_owd F_wkl n_wkl F_ml n_ml F_mr n_mr F_p0 n_p0 F_p1 n_p1 F_p2 n_p2 F_p3 n_p3 F_p4 n_p4 F_dead n_dead F_aga n_aga c0 f_m_claims a0 f_m_acts nw f_m_now py f_m_payments F_ad F_mn F_mp A9 hCA9 hPL) (cwV 1 hts (hx_gV kw_1665 kw_1662 kw_1663 kw_1664 kw_103) rfl rfl rfl (by decide +kernel) ⟨Nat.le_of_ble_eq_true rfl, Nat.le_of_ble_eq_true rfl⟩) rfl hl.1 rfl (Nat.le_of_ble_eq_true rfl) dL_law_1036 ⟨(show CC + 0 + 0 ≤ 600000 from ?o27), (show SS + 0 + 0 ≤ 7302250 from ?o28)⟩) hW (fun r_651 L_649 h_650 H locs p_652 hW => ?_)
  case o27 => omega
  case o28 => omega
  obtain ⟨⟨w_654, fw_654, hr_653⟩, hT, hs⟩ := p_652
  replace hT : hx_T T_tb L_649 h_650 := hT
  replace hs : hx_S T_tb [(10, 67), (10, 68), (10, 69), (10, 70), (10, 71), (85, 0)] L_641 h_642 L_649 h_650 := hs
  replace f_qa := (hs.o gx trivial rfl).2.trans f_qa
  replace f_qp := (hs.o gx trivial rfl).2.trans f_qp
  replace f_qc := (hs.o gx trivial rfl).2.trans f_qc
  replace f_qh := (hs.o gx trivial rfl).2.trans f_qh
  replace f_qw := (hs.o gx trivial rfl).2.trans f_qw
  replace f_ql := (hs.o g_qw trivial rfl).2.trans f_ql
  replace f_m_now := (hs.o gm trivial rfl).1.trans f_m_now
  replace f_m_persons := (hs.o gm trivial rfl).1.trans f_m_persons
  replace f_m_claims := (hs.o gm trivial rfl).1.trans f_m_claims
  replace f_m_taped := (hs.o gm trivial rfl).1.trans f_m_taped
  replace f_m_acts := (hs.o gm trivial rfl).1.trans f_m_acts
  replace f_m_heardMany := (hs.o gm trivial rfl).1.trans f_m_heardMany
  replace f_m_lines := (hs.o gm trivial rfl).1.trans f_m_lines
  replace f_m_listed := (hs.o gm trivial rfl).1.trans f_m_listed
  replace f_m_walkedMany := (hs.o gm trivial rfl).1.trans f_m_walkedMany
  replace f_m_payments := (hs.o gm trivial rfl).1.trans f_m_payments
  replace f_x_now := (hs.o gx trivial rfl).1.trans f_x_now
  replace f_x_personCount := (hs.o gx trivial rfl).1.trans f_x_personCount
  replace f_x_claimCount := (hs.o gx trivial rfl).1.trans f_x_claimCount
  replace f_x_tapeLength := (hs.o gx trivial rfl).1.trans f_x_tapeLength
  replace f_x_actCount := (hs.o gx trivial rfl).1.trans f_x_actCount
  replace f_x_heardCount := (hs.o gx trivial rfl).1.trans f_x_heardCount
  replace f_mw := (hs.o gm trivial rfl).2.trans f_mw
  replace f_mr := (hs.o gm trivial rfl).2.trans f_mr
  replace f_mp := (hs.o gm trivial rfl).2.trans f_mp
  replace f_mn := (hs.o gm trivial rfl).2.trans f_mn
  replace f_ml := (hs.o gm trivial rfl).2.trans f_ml
  replace f_mh := (hs.o gm trivial rfl).2.trans f_mh
  replace f_mt := (hs.o gm trivial rfl).2.trans f_mt
  replace f_m_fou := (hs.o gm trivial rfl).2.trans f_m_fou
  replace f_qo_ln := (hs.o gx trivial rfl).2.trans f_qo_ln
  replace f_o_ln := (hs.o g_qo_ln trivial rfl).1.trans f_o_ln
  replace f_o_lsd := (hs.o g_qw trivial rfl).1.trans f_o_lsd
  replace f_o_wkm := (hs.o g_qw trivial rfl).1.trans f_o_wkm
  replace f_qo_py := (hs.o gx trivial rfl).2.trans f_qo_py
  replace f_o_py := (hs.o g_qo_py trivial rfl).1.trans f_o_py
  replace f_b_of := (hs.o g_qo_ln trivial rfl).2.trans f_b_of
  replace f_m_of := (hs.o gm trivial rfl).2.trans f_m_of
  replace f_b_wf := (hs.o g_qo_ln trivial rfl).2.trans f_b_wf
  replace f_m_wf := (hs.o gm trivial rfl).2.trans f_m_wf
  replace f_b_df := (hs.o g_qo_ln trivial rfl).2.trans f_b_df
  replace f_m_df := (hs.o gm trivial rfl).2.trans f_m_df
  replace f_b_kf := (hs.o g_qo_ln trivial rfl).2.trans f_b_kf
  replace f_m_kf := (hs.o gm trivial rfl).2.trans f_m_kf
  replace f_b_sf := (hs.o g_qo_ln trivial rfl).2.trans f_b_sf
  replace f_m_sf := (hs.o gm trivial rfl).2.trans f_m_sf
  replace f_b_bf := (hs.o g_qo_ln trivial rfl).2.trans f_b_bf
  replace f_m_lst := (hs.o gm trivial rfl).2.trans f_m_lst
  replace f_qtp := (hs.o gx trivial rfl).2.trans f_qtp
  replace f_m_tp := (hs.o gm trivial rfl).2.trans f_m_tp
  replace f_m_dead := (hs.o gm trivial rfl).2.trans f_m_dead
  replace f_m_isj := (hs.o gm trivial rfl).2.trans f_m_isj
  replace f_m_dox := (hs.o gm trivial rfl).2.trans f_m_dox
  replace f_m_doy := (hs.o gm trivial rfl).2.trans f_m_doy
  replace f_qlt := (hs.o g_qw trivial rfl).2.trans f_qlt
  replace f_qlf := (hs.o g_qw trivial rfl).2.trans f_qlf
  replace f_m_wkd := (hs.o gm trivial rfl).2.trans f_m_wkd
  replace f_m_aga := (hs.o gm trivial rfl).2.trans f_m_aga
  replace f_qwo := (hs.o gx trivial rfl).2.trans f_qwo
  replace f_m_ad := (hs.o gm trivial rfl).2.trans f_m_ad
  replace f_m_by := (hs.o gm trivial rfl).2.trans f_m_by
  replace f_m_ho := (hs.o gm trivial rfl).2.trans f_m_ho
  replace f_m_fc := (hs.o gm trivial rfl).2.trans f_m_fc
  replace f_m_nt := (hs.o gm trivial rfl).2.trans f_m_nt
  replace f_m_wt := (hs.o gm trivial rfl).2.trans f_m_wt
  replace f_m_be := (hs.o gm trivial rfl).2.trans f_m_be
  replace f_m_bor := (hs.o gm trivial rfl).2.trans f_m_bor
  replace f_m_kin := (hs.o gm trivial rfl).2.trans f_m_kin
  replace f_m_sum := (hs.o gm trivial rfl).2.trans f_m_sum
  replace f_m_fro := (hs.o gm trivial rfl).2.trans f_m_fro
  replace f_m_fil := (hs.o gm trivial rfl).2.trans f_m_fil
  replace f_m_jud := (hs.o gm trivial rfl).2.trans f_m_jud
  replace f_m_ear := (hs.o gm trivial rfl).2.trans f_m_ear
  replace f_m_hds := (hs.o gm trivial rfl).2.trans f_m_hds
  replace f_m_ord := (hs.o gm trivial rfl).2.trans f_m_ord
  replace f_m_wkl := (hs.o gm trivial rfl).2.trans f_m_wkl
  replace f_m_owd := (hs.o gm trivial rfl).2.trans f_m_owd
  replace f_m_gds := (hs.o gm trivial rfl).2.trans f_m_gds
  replace f_m_szd := (hs.o gm trivial rfl).2.trans f_m_szd
  replace f_m_srv := (hs.o gm trivial rfl).2.trans f_m_srv
  replace f_y_p0 := (hs.o g_qo_py trivial rfl).2.trans f_y_p0
  replace f_m_p0 := (hs.o gm trivial rfl).2.trans f_m_p0
  replace f_y_p1 := (hs.o g_qo_py trivial rfl).2.trans f_y_p1
  replace f_m_p1 := (hs.o gm trivial rfl).2.trans f_m_p1
  replace f_y_p2 := (hs.o g_qo_py trivial rfl).2.trans f_y_p2
  replace f_m_p2 := (hs.o gm trivial rfl).2.trans f_m_p2
  replace f_y_p3 := (hs.o g_qo_py trivial rfl).2.trans f_y_p3
  replace f_m_p3 := (hs.o gm trivial rfl).2.trans f_m_p3
  replace f_y_p4 := (hs.o g_qo_py trivial rfl).2.trans f_y_p4
  replace f_m_p4 := (hs.o gm trivial rfl).2.trans f_m_p4
  replace f_qrg9 := (hs.o gx trivial rfl).2.trans f_qrg9
  replace f_y_ls := (hs.o g_qrg9 trivial rfl).2.trans f_y_ls
  replace f_m_rl := (hs.o gm trivial rfl).2.trans f_m_rl
  replace ffv_635 := (hs.o g_qrg9 trivial rfl).1.trans ffv_635
  replace ffv_636 := (hs.o gm trivial rfl).1.trans ffv_636
  replace ffv_637 := (hs.o gm trivial rfl).1.trans ffv_637
  replace pf_qa : ∀ j : Nat, (j : Int) < (h_650.2.1 ax 6).toInt → h_650.2.2 qa j ≠ none := by
    intro j hj; rw [(hs.o gx trivial rfl).1] at hj; rw [(hs.a g_qa rfl j).2]; exact pf_qa j hj
  replace pf_qp : ∀ j : Nat, (j : Int) < (h_650.2.1 ax 8).toInt → h_650.2.2 qp j ≠ none := by
    intro j hj; rw [(hs.o gx trivial rfl).1] at hj; rw [(hs.a g_qp rfl j).2]; exact pf_qp j hj
  replace pf_qc : ∀ j : Nat, (j : Int) < (h_650.2.1 ax 11).toInt → h_650.2.2 qc j ≠ none := by
    intro j hj; rw [(hs.o gx trivial rfl).1] at hj; rw [(hs.a g_qc rfl j).2]; exact pf_qc j hj
  replace pf_qh : ∀ j : Nat, (j : Int) < (h_650.2.1 ax 13).toInt → h_650.2.2 qh j ≠ none := by
    intro j hj; rw [(hs.o gx trivial rfl).1] at hj; rw [(hs.a g_qh rfl j).2]; exact pf_qh j hj
  replace pf_ql : ∀ j : Nat, (j : Int) < (h_650.2.1 qw 0).toInt → h_650.2.2 ql j ≠ none := by
    intro j hj; rw [(hs.o g_qw trivial rfl).1] at hj; rw [(hs.a g_ql rfl j).2]; exact pf_ql j hj
  replace cl_lst : hx_col 8 h_650 ql 0 = c_lst := (hx_col_S hs hTo g_ql tt_40 tt_2 rfl rfl).trans cl_lst
  replace cl_dead : hx_col 40 h_650 qp 7 = c_dead := (hx_col_S hs hTo g_qp tt_44 tt_4 rfl rfl).trans cl_dead
  replace cl_isj : hx_col 40 h_650 qp 8 = c_isj := (hx_col_S hs hTo g_qp tt_44 tt_4 rfl rfl).trans cl_isj
  replace cl_dox : hx_col 40 h_650 qp 5 = c_dox := (hx_col_S hs hTo g_qp tt_44 tt_4 rfl rfl).trans cl_dox
  replace cl_doy : hx_col 40 h_650 qp 6 = c_doy := (hx_col_S hs hTo g_qp tt_44 tt_4 rfl rfl).trans cl_doy
  replace cl_fou : hx_col 100 h_650 qc 10 = c_fou := (hx_col_S hs hTo g_qc tt_45 tt_2 rfl rfl).trans cl_fou
  replace cl_tri : hx_col 100 h_650 qc 9 = c_tri := (hx_col_S hs hTo g_qc tt_45 tt_2 rfl rfl).trans cl_tri
  replace cl_bor : hx_col 40 h_650 qp 1 = F_bor := (hx_col_S hs hTo g_qp tt_44 tt_4 rfl rfl).trans cl_bor
  replace cl_kin : hx_col 40 h_650 qp 2 = F_kin := (hx_col_S hs hTo g_qp tt_44 tt_4 rfl rfl).trans cl_kin
  replace cl_sum : hx_col 100 h_650 qc 6 = F_sum := (hx_col_S hs hTo g_qc tt_45 tt_2 rfl rfl).trans cl_sum
  replace cl_fro : hx_col 100 h_650 qc 7 = F_fro := (hx_col_S hs hTo g_qc tt_45 tt_2 rfl rfl).trans cl_fro
  replace cl_fil : hx_col 100 h_650 qc 8 = F_fil := (hx_col_S hs hTo g_qc tt_45 tt_2 rfl rfl).trans cl_fil
  replace cl_hea : hx_col 100 h_650 qc 11 = F_mh := (hx_col_S hs hTo g_qc tt_45 tt_2 rfl rfl).trans cl_hea
  replace cl_jud : hx_col 100 h_650 qc 12 = F_jud := (hx_col_S hs hTo g_qc tt_45 tt_2 rfl rfl).trans cl_jud
  replace cl_ear : hx_col 40 h_650 qp 3 = F_ear := (hx_col_S hs hTo g_qp tt_44 tt_4 rfl rfl).trans cl_ear
  replace cl_hds : hx_col 40 h_650 qp 4 = F_hds := (hx_col_S hs hTo g_qp tt_44 tt_4 rfl rfl).trans cl_hds
  replace cl_ord : hx_col 100 h_650 qc 13 = F_ord := (hx_col_S hs hTo g_qc tt_45 tt_2 rfl rfl).trans cl_ord
  replace cl_wkl : hx_col 100 h_650 qc 14 = F_wkl := (hx_col_S hs hTo g_qc tt_45 tt_2 rfl rfl).trans cl_wkl
  replace cl_owd : hx_col 100 h_650 qc 15 = F_owd := (hx_col_S hs hTo g_qc tt_45 tt_2 rfl rfl).trans cl_owd
  replace cl_gds : hx_col 100 h_650 qc 17 = F_gds := (hx_col_S hs hTo g_qc tt_45 tt_2 rfl rfl).trans cl_gds
  replace cl_szd : hx_col 100 h_650 qc 16 = F_szd := (hx_col_S hs hTo g_qc tt_45 tt_2 rfl rfl).trans cl_szd
  replace fw_646 : hx_col 100 h_650 qc 18 = w_646 := (hx_col_S hs hTo g_qc tt_45 tt_2 rfl rfl).trans fw_646
  replace nu_qp : hx_num 40 h_650 qp 0 (np.toInt) := hx_num_S hs hTo g_qp tt_44 tt_4 rfl rfl nu_qp
  replace nu_qc : hx_num 100 h_650 qc 0 (c0.toInt) := hx_num_S hs hTo g_qc tt_45 tt_2 rfl rfl nu_qc
  replace sb_list : hx_LQ 8 100 h_650 ql qc := hx_LQ_S hs g_ql g_qc rfl rfl sb_list
  replace hDF : hw_DF h_650 qc qp 2 F_aga c0.toInt := hw_DF_S hs hTo g_qc g_qp tt_45 tt_2 rfl rfl rfl hDF
  replace hRA9 : hv_RA h_650 qa qwo a0.toInt A9 := hv_RA_S hs hTo g_qa g_qwo tt_43 tt_0 rfl rfl rfl rfl rfl rfl ?o29 hRA9
  case o29 => omega
  replace hDP : hw_DF h_650 qc qp 1 F_by c0.toInt := hw_DF_S hs hTo g_qc g_qp tt_45 tt_2 rfl rfl rfl hDP
  replace hAC9 : hv_AC h_650 qc F_ml c0.toInt A9 := hv_AC_S hs hTo g_qc tt_45 tt_2 rfl tt_0 rfl rfl rfl rfl rfl rfl rfl hAC9
  replace hFX : hv_FX 8 4 h_650 qc cF9L c0.toInt := hv_FX_S hs hTo g_qc tt_45 tt_2 rfl rfl rfl rfl hFX
  replace hBX : hv_FX 3 5 h_650 qc F_be c0.toInt := hv_FX_S hs hTo g_qc tt_45 tt_2 rfl rfl rfl rfl hBX
  replace hHL : hv_HL h_650 qh qc F_ho m0.toInt c0.toInt := hv_HL_S hs g_qh g_qc rfl rfl hHL
  replace n_mw : h_650.2.1 mw = F_mw := (funext fun j => (hs.a g_mw rfl j).1).trans n_mw
  replace n_mr : h_650.2.1 mr = F_mr := (funext fun j => (hs.a g_mr rfl j).1).trans n_mr
  replace n_mp : h_650.2.1 mp = F_mp := (funext fun j => (hs.a g_mp rfl j).1).trans n_mp
  replace n_mn : h_650.2.1 mn = F_mn := (funext fun j => (hs.a g_mn rfl j).1).trans n_mn
  replace n_ml : h_650.2.1 ml = F_ml := (funext fun j => (hs.a g_ml rfl j).1).trans n_ml
  replace n_mh : h_650.2.1 mh = F_mh := (funext fun j => (hs.a g_mh rfl j).1).trans n_mh
  replace n_mt : h_650.2.1 mt = F_mt := (funext fun j => (hs.a g_mt rfl j).1).trans n_mt
  replace n_m_fou : h_650.2.1 m_fou = F_m_fou := (funext fun j => (hs.a g_m_fou rfl j).1).trans n_m_fou
  replace n_b_of : h_650.2.1 b_of = B_of := (funext fun j => (hs.a g_b_of rfl j).1).trans n_b_of
  replace n_m_of : h_650.2.1 m_of = F_of := (funext fun j => (hs.a g_m_of rfl j).1).trans n_m_of
  replace n_b_wf : h_650.2.1 b_wf = B_wf := (funext fun j => (hs.a g_b_wf rfl j).1).trans n_b_wf
  replace n_m_wf : h_650.2.1 m_wf = F_wf := (funext fun j => (hs.a g_m_wf rfl j).1).trans n_m_wf
  replace n_b_df : h_650.2.1 b_df = B_df := (funext fun j => (hs.a g_b_df rfl j).1).trans n_b_df
  replace n_m_df : h_650.2.1 m_df = F_df := (funext fun j => (hs.a g_m_df rfl j).1).trans n_m_df
  replace n_b_kf : h_650.2.1 b_kf = B_kf := (funext fun j => (hs.a g_b_kf rfl j).1).trans n_b_kf
  replace n_m_kf : h_650.2.1 m_kf = F_kf := (funext fun j => (hs.a g_m_kf rfl j).1).trans n_m_kf
  replace n_b_sf : h_650.2.1 b_sf = B_sf := (funext fun j => (hs.a g_b_sf rfl j).1).trans n_b_sf
  replace n_m_sf : h_650.2.1 m_sf = F_sf := (funext fun j => (hs.a g_m_sf rfl j).1).trans n_m_sf
  replace n_b_bf : h_650.2.1 b_bf = bfL := (funext fun j => (hs.a g_b_bf rfl j).1).trans n_b_bf
  replace n_lst : h_650.2.1 m_lst = F_lst := (funext fun j => (hs.a g_m_lst rfl j).1).trans n_lst
  replace n_tp : h_650.2.1 m_tp = F_tp := (funext fun j => (hs.a g_m_tp rfl j).1).trans n_tp
  replace n_qtp : h_650.2.1 qtp = F_tp := (funext fun j => (hs.a g_qtp rfl j).1).trans n_qtp
  replace n_dead : h_650.2.1 m_dead = F_dead := (funext fun j => (hs.a g_m_dead rfl j).1).trans n_dead
  replace n_isj : h_650.2.1 m_isj = F_isj := (funext fun j => (hs.a g_m_isj rfl j).1).trans n_isj
  replace n_dox : h_650.2.1 m_dox = F_dox := (funext fun j => (hs.a g_m_dox rfl j).1).trans n_dox
  replace n_doy : h_650.2.1 m_doy = F_doy := (funext fun j => (hs.a g_m_doy rfl j).1).trans n_doy
  replace n_qlt : h_650.2.1 qlt = F_qlt := (funext fun j => (hs.a g_qlt rfl j).1).trans n_qlt
  replace n_m_wkd : h_650.2.1 m_wkd = F_m_wkd := (funext fun j => (hs.a g_m_wkd rfl j).1).trans n_m_wkd
  replace n_aga : h_650.2.1 m_aga = F_aga := (funext fun j => (hs.a g_m_aga rfl j).1).trans n_aga
  replace n_ad : h_650.2.1 m_ad = F_ad := (funext fun j => (hs.a g_m_ad rfl j).1).trans n_ad
  replace n_by : h_650.2.1 m_by = F_by := (funext fun j => (hs.a g_m_by rfl j).1).trans n_by
  replace n_ho : h_650.2.1 m_ho = F_ho := (funext fun j => (hs.a g_m_ho rfl j).1).trans n_ho
  replace n_fc : h_650.2.1 m_fc = F_fc := (funext fun j => (hs.a g_m_fc rfl j).1).trans n_fc
  replace n_nt : h_650.2.1 m_nt = F_nt := (funext fun j => (hs.a g_m_nt rfl j).1).trans n_nt
  replace n_wt : h_650.2.1 m_wt = F_wt := (funext fun j => (hs.a g_m_wt rfl j).1).trans n_wt
  replace n_be : h_650.2.1 m_be = F_be := (funext fun j => (hs.a g_m_be rfl j).1).trans n_be
  replace n_bor : h_650.2.1 m_bor = F_bor := (funext fun j => (hs.a g_m_bor rfl j).1).trans n_bor
  replace n_kin : h_650.2.1 m_kin = F_kin := (funext fun j => (hs.a g_m_kin rfl j).1).trans n_kin
  replace n_sum : h_650.2.1 m_sum = F_sum := (funext fun j => (hs.a g_m_sum rfl j).1).trans n_sum
  replace n_fro : h_650.2.1 m_fro = F_fro := (funext fun j => (hs.a g_m_fro rfl j).1).trans n_fro
  replace n_fil : h_650.2.1 m_fil = F_fil := (funext fun j => (hs.a g_m_fil rfl j).1).trans n_fil
  replace n_jud : h_650.2.1 m_jud = F_jud := (funext fun j => (hs.a g_m_jud rfl j).1).trans n_jud
  replace n_ear : h_650.2.1 m_ear = F_ear := (funext fun j => (hs.a g_m_ear rfl j).1).trans n_ear
  replace n_hds : h_650.2.1 m_hds = F_hds := (funext fun j => (hs.a g_m_hds rfl j).1).trans n_hds
  replace n_ord : h_650.2.1 m_ord = F_ord := (funext fun j => (hs.a g_m_ord rfl j).1).trans n_ord
  replace n_wkl : h_650.2.1 m_wkl = F_wkl := (funext fun j => (hs.a g_m_wkl rfl j).1).trans n_wkl
  replace n_owd : h_650.2.1 m_owd = F_owd := (funext fun j => (hs.a g_m_owd rfl j).1).trans n_owd
  replace n_gds : h_650.2.1 m_gds = F_gds := (funext fun j => (hs.a g_m_gds rfl j).1).trans n_gds
  replace n_szd : h_650.2.1 m_szd = F_szd := (funext fun j => (hs.a g_m_szd rfl j).1).trans n_szd
  replace n_p0 : h_650.2.1 m_p0 = F_p0 := (funext fun j => (hs.a g_m_p0 rfl j).1).trans n_p0
  replace n_y_p0 : h_650.2.1 y_p0 = F_p0 := (funext fun j => (hs.a g_y_p0 rfl j).1).trans n_y_p0
  replace n_p1 : h_650.2.1 m_p1 = F_p1 := (funext fun j => (hs.a g_m_p1 rfl j).1).trans n_p1
  replace n_y_p1 : h_650.2.1 y_p1 = F_p1 := (funext fun j => (hs.a g_y_p1 rfl j).1).trans n_y_p1
  replace n_p2 : h_650.2.1 m_p2 = F_p2 := (funext fun j => (hs.a g_m_p2 rfl j).1).trans n_p2
  replace n_y_p2 : h_650.2.1 y_p2 = F_p2 := (funext fun j => (hs.a g_y_p2 rfl j).1).trans n_y_p2
  replace n_p3 : h_650.2.1 m_p3 = F_p3 := (funext fun j => (hs.a g_m_p3 rfl j).1).trans n_p3
  replace n_y_p3 : h_650.2.1 y_p3 = F_p3 := (funext fun j => (hs.a g_y_p3 rfl j).1).trans n_y_p3
  replace n_p4 : h_650.2.1 m_p4 = F_p4 := (funext fun j => (hs.a g_m_p4 rfl j).1).trans n_p4
  replace n_y_p4 : h_650.2.1 y_p4 = F_p4 := (funext fun j => (hs.a g_y_p4 rfl j).1).trans n_y_p4
  replace n_y_ls : h_650.2.1 y_ls = F_y_ls := (funext fun j => (hs.a g_y_ls rfl j).1).trans n_y_ls
  replace n_m_rl : h_650.2.1 m_rl = F_m_rl := (funext fun j => (hs.a g_m_rl rfl j).1).trans n_m_rl
  replace gx := gx.S hs
  replace gm := gm.S hs
  replace g_qa := g_qa.S hs
  replace g_qp := g_qp.S hs
  replace g_qc := g_qc.S hs
  replace g_qh := g_qh.S hs
  replace g_qw := g_qw.S hs
  replace g_ql := g_ql.S hs
  replace g_mw := g_mw.S hs
  replace g_mr := g_mr.S hs
  replace g_mp := g_mp.S hs
  replace g_mn := g_mn.S hs
  replace g_ml := g_ml.S hs
  replace g_mh := g_mh.S hs
  replace g_mt := g_mt.S hs
  replace g_m_fou := g_m_fou.S hs
  replace g_qo_ln := g_qo_ln.S hs
  replace g_qo_py := g_qo_py.S hs
  replace g_b_of := g_b_of.S hs
  replace g_m_of := g_m_of.S hs
  replace g_b_wf := g_b_wf.S hs
  replace g_m_wf := g_m_wf.S hs
  replace g_b_df := g_b_df.S hs
  replace g_m_df := g_m_df.S hs
  replace g_b_kf := g_b_kf.S hs
  replace g_m_kf := g_m_kf.S hs
  replace g_b_sf := g_b_sf.S hs
  replace g_m_sf := g_m_sf.S hs
  replace g_b_bf := g_b_bf.S hs
  replace g_m_lst := g_m_lst.S hs
  replace g_qtp := g_qtp.S hs
  replace g_m_tp := g_m_tp.S hs
  replace g_m_dead := g_m_dead.S hs
  replace g_m_isj := g_m_isj.S hs
  replace g_m_dox := g_m_dox.S hs
  replace g_m_doy := g_m_doy.S hs
  replace g_qlt := g_qlt.S hs
  replace g_qlf := g_qlf.S hs
  replace g_m_wkd := g_m_wkd.S hs
  replace g_m_aga := g_m_aga.S hs
  replace g_qwo := g_qwo.S hs
  replace g_m_ad := g_m_ad.S hs
  replace g_m_by := g_m_by.S hs
  replace g_m_ho := g_m_ho.S hs
  replace g_m_fc := g_m_fc.S hs
  replace g_m_nt := g_m_nt.S hs
  replace g_m_wt := g_m_wt.S hs
  replace g_m_be := g_m_be.S hs
  replace g_m_bor := g_m_bor.S hs
  replace g_m_kin := g_m_kin.S hs
  replace g_m_sum := g_m_sum.S hs
  replace g_m_fro := g_m_fro.S hs
  replace g_m_fil := g_m_fil.S hs
  replace g_m_jud := g_m_jud.S hs
  replace g_m_ear := g_m_ear.S hs
  replace g_m_hds := g_m_hds.S hs
  replace g_m_ord := g_m_ord.S hs
  replace g_m_wkl := g_m_wkl.S hs
  replace g_m_owd := g_m_owd.S hs
  replace g_m_gds := g_m_gds.S hs
  replace g_m_szd := g_m_szd.S hs
  replace g_m_srv := g_m_srv.S hs
  replace g_y_p0 := g_y_p0.S hs
  replace g_m_p0 := g_m_p0.S hs
  replace g_y_p1 := g_y_p1.S hs
  replace g_m_p1 := g_m_p1.S hs
  replace g_y_p2 := g_y_p2.S hs
  replace g_m_p2 := g_m_p2.S hs
  replace g_y_p3 := g_y_p3.S hs
  replace g_m_p3 := g_m_p3.S hs
  replace g_y_p4 := g_y_p4.S hs
  replace g_m_p4 := g_m_p4.S hs
  replace g_qrg9 := g_qrg9.S hs
  replace g_y_ls := g_y_ls.S hs
  replace g_m_rl := g_m_rl.S hs
  have fw_654 : h_650.2.1 m_srv = w_654 := fw_654
  refine lv_pop hx hb dL_law_1039 rfl ?_
  refine lv_goto (tgt := 1379) hx hb dL_law_1040 ?o30 ?_
  case o30 => decide
  obtain ⟨heq, hq_srv⟩ := hz_GS_eq hr_645 hr_653 (hz_GC_i (fun h0 h1 => ⟨congrArg Int32.toInt (eq_dead _ (hz_ix bAG9 h0 h1 (by omega))), by rw [eq_fou _ (hz_i100 h0 h1 (by omega))]⟩)) (fun _ => rfl)
  refine W.widen (k := CC + 3) (n := SS + 179) ?o31 ?o32 ?_
  case o31 => omega
  case o32 => omega
  refine kk L_649 h_650 H locs ls hW ⟨hT, gx, gm, ⟨f_x_now.trans f_m_now.symm, f_x_personCount.trans f_m_persons.symm, f_x_claimCount.trans f_m_claims.symm, f_x_tapeLength.trans f_m_taped.symm, f_x_actCount.trans f_m_acts.symm, f_x_heardCount.trans f_m_heardMany.symm, hx_ob f_qo_ln (f_o_ln.trans f_m_lines.symm), hx_ob f_qw (f_o_lsd.trans f_m_listed.symm), hx_ob f_qw (f_o_wkm.trans f_m_walkedMany.symm), hx_ob f_qo_py (f_o_py.trans f_m_payments.symm), hx_ob f_qp ?o33, hx_ob f_qc ?o34, (fun b a r hb ha hr => ?o35), (fun b a r hb ha hr => ?o36), (fun b a r hb ha hr => ?o37), (fun b a r hb ha hr => ?o38), (fun b a r hb ha hr => ?o39), (fun b a r hb ha hr => ?o40), (fun w q c hw hq hc => ?o41), (fun w q r hw hq hr => ?o42), (fun w q r hw hq hr => ?o43), (fun c q a hc hq ha => ?o44), (fun q r hq hr => ?o45), (fun q w a b c d e p hq hw ha hb hc hd he hp => ?o46), (fun c q a hc hq ha => ?o47), (fun q c a hq hc ha => ?o48), (fun a b ha hb => ?o49), (fun c a b d e f hc ha hb hd he hf => ?o50), (fun c a hc ha => ?o51), hx_ob2 f_qp f_m_bor (cl_bor.trans n_bor.symm), hx_ob2 f_qp f_m_kin (cl_kin.trans n_kin.symm), hx_ob2 f_qc f_m_sum (cl_sum.trans n_sum.symm), hx_ob2 f_qc f_m_fro (cl_fro.trans n_fro.symm), hx_ob2 f_qc f_m_fil (cl_fil.trans n_fil.symm), hx_ob2 f_qc f_mh (cl_hea.trans n_mh.symm), hx_ob2 f_qc f_m_jud (cl_jud.trans n_jud.symm), hx_ob2 f_qp f_m_ear (cl_ear.trans n_ear.symm), hx_ob2 f_qp f_m_hds (cl_hds.trans n_hds.symm), hx_ob2 f_qc f_m_ord (cl_ord.trans n_ord.symm), hx_ob2 f_qc f_m_wkl (cl_wkl.trans n_wkl.symm), hx_ob2 f_qc f_m_owd (cl_owd.trans n_owd.symm), hx_ob2 f_qc f_m_gds (cl_gds.trans n_gds.symm), hx_ob2 f_qc f_m_szd (cl_szd.trans n_szd.symm), hx_ob2 f_qc f_m_srv ((fw_646.trans hq_srv).trans fw_654.symm), (fun p q r hp hq hr => ?o52), (fun p q r hp hq hr => ?o53), (fun p q r hp hq hr => ?o54), (fun p q r hp hq hr => ?o55), (fun p q r hp hq hr => ?o56), (fun p hp => ?o57), (fun p q r hp hq hr => ?o58), hx_ob2 f_qp f_m_dead ?o59, hx_ob2 f_qp f_m_isj ?o60, hx_ob2 f_qp f_m_dox ?o61, hx_ob2 f_qp f_m_doy ?o62, hx_ob2 f_qc f_m_fou ?o63, hx_ob2 f_qc f_mt ?o64, trivial⟩, ⟨hx_ob f_qa pf_qa, hx_ob f_qp pf_qp, hx_ob f_qc pf_qc, hx_ob f_qh pf_qh, (fun w q hw hq => ?o65)⟩, ⟨hx_ob f_mw ?o66, hx_ob f_mr ?o67, hx_ob2 f_mp f_mn ?o68, hx_ob f_ml ?o69, hx_ob f_mh ?o70, hx_ob f_mt ?o71, hx_ob2 f_mh f_m_fou ?o73⟩⟩ hl
  case o33 =>
    rw [f_x_personCount]
    exact nu_qp
  case o34 =>
    rw [f_x_claimCount]
    exact nu_qc
  case o35 =>
    obtain rfl : qo_ln = b := Option.some.inj (f_qo_ln.symm.trans hb)
    obtain rfl : b_of = a := Option.some.inj (f_b_of.symm.trans ha)
    obtain rfl : m_of = r := Option.some.inj (f_m_of.symm.trans hr)
    rw [n_b_of, n_m_of, f_o_ln]
    exact eb_of
  case o36 =>
    obtain rfl : qo_ln = b := Option.some.inj (f_qo_ln.symm.trans hb)
    obtain rfl : b_wf = a := Option.some.inj (f_b_wf.symm.trans ha)
    obtain rfl : m_wf = r := Option.some.inj (f_m_wf.symm.trans hr)
    rw [n_b_wf, n_m_wf, f_o_ln]
    exact eb_wf
  case o37 =>
    obtain rfl : qo_ln = b := Option.some.inj (f_qo_ln.symm.trans hb)
    obtain rfl : b_df = a := Option.some.inj (f_b_df.symm.trans ha)
    obtain rfl : m_df = r := Option.some.inj (f_m_df.symm.trans hr)
    rw [n_b_df, n_m_df, f_o_ln]
    exact eb_df
  case o38 =>
    obtain rfl : qo_ln = b := Option.some.inj (f_qo_ln.symm.trans hb)
    obtain rfl : b_kf = a := Option.some.inj (f_b_kf.symm.trans ha)
    obtain rfl : m_kf = r := Option.some.inj (f_m_kf.symm.trans hr)
    rw [n_b_kf, n_m_kf, f_o_ln]
    exact eb_kf
  case o39 =>
    obtain rfl : qo_ln = b := Option.some.inj (f_qo_ln.symm.trans hb)
    obtain rfl : b_sf = a := Option.some.inj (f_b_sf.symm.trans ha)
    obtain rfl : m_sf = r := Option.some.inj (f_m_sf.symm.trans hr)
    rw [n_b_sf, n_m_sf, f_o_ln]
    exact eb_sf
  case o40 =>
    obtain rfl : qo_ln = b := Option.some.inj (f_qo_ln.symm.trans hb)
    obtain rfl : b_df = a := Option.some.inj (f_b_df.symm.trans ha)
    obtain rfl : b_bf = r := Option.some.inj (f_b_bf.symm.trans hr)
    rw [n_b_df, n_b_bf, f_o_ln]
    exact ⟨hBD, hDY⟩
  case o41 =>
    obtain rfl : qw = w := Option.some.inj (f_qw.symm.trans hw)
    obtain rfl : ql = q := Option.some.inj (f_ql.symm.trans hq)
    obtain rfl : qc = c := Option.some.inj (f_qc.symm.trans hc)
    exact sb_list
  case o42 =>
    obtain rfl : qw = w := Option.some.inj (f_qw.symm.trans hw)
    obtain rfl : ql = q := Option.some.inj (f_ql.symm.trans hq)
    obtain rfl : m_lst = r := Option.some.inj (f_m_lst.symm.trans hr)
    rw [cl_lst, n_lst]
    exact eq_lst
  case o43 =>
    obtain rfl : qw = w := Option.some.inj (f_qw.symm.trans hw)
    obtain rfl : qlt = q := Option.some.inj (f_qlt.symm.trans hq)
    obtain rfl : m_wkd = r := Option.some.inj (f_m_wkd.symm.trans hr)
    rw [n_qlt, n_m_wkd, f_o_wkm]
    exact eb_wkd
  case o44 =>
    obtain rfl : qc = c := Option.some.inj (f_qc.symm.trans hc)
    obtain rfl : qp = q := Option.some.inj (f_qp.symm.trans hq)
    obtain rfl : m_aga = a := Option.some.inj (f_m_aga.symm.trans ha)
    rw [n_aga, f_x_claimCount]
    exact hw_DF_e hDF rfl rfl
  case o45 =>
    obtain rfl : qtp = q := Option.some.inj (f_qtp.symm.trans hq)
    obtain rfl : m_tp = r := Option.some.inj (f_m_tp.symm.trans hr)
    exact n_qtp.trans n_tp.symm
  case o46 =>
    obtain rfl : qa = q := Option.some.inj (f_qa.symm.trans hq)
    obtain rfl : qwo = w := Option.some.inj (f_qwo.symm.trans hw)
    obtain rfl : m_ad = a := Option.some.inj (f_m_ad.symm.trans ha)
    obtain rfl : mr = b := Option.some.inj (f_mr.symm.trans hb)
    obtain rfl : mn = c := Option.some.inj (f_mn.symm.trans hc)
    obtain rfl : mp = d := Option.some.inj (f_mp.symm.trans hd)
    obtain rfl : qc = e := Option.some.inj (f_qc.symm.trans he)
    obtain rfl : ml = p := Option.some.inj (f_ml.symm.trans hp)
    exact ⟨_, by rw [f_x_actCount]; exact hRA9, by rw [f_x_actCount, n_ad, n_mr, n_mn, n_mp]; exact hCA9, by rw [n_ml, f_x_claimCount]; exact hv_AC_e hAC9 rfl rfl rfl, hAB⟩
  case o47 =>
    obtain rfl : qc = c := Option.some.inj (f_qc.symm.trans hc)
    obtain rfl : qp = q := Option.some.inj (f_qp.symm.trans hq)
    obtain rfl : m_by = a := Option.some.inj (f_m_by.symm.trans ha)
    rw [n_by, f_x_claimCount]
    exact hw_DF_e hDP rfl rfl
  case o48 =>
    obtain rfl : qh = q := Option.some.inj (f_qh.symm.trans hq)
    obtain rfl : qc = c := Option.some.inj (f_qc.symm.trans hc)
    obtain rfl : m_ho = a := Option.some.inj (f_m_ho.symm.trans ha)
    rw [n_ho, f_x_heardCount, f_x_claimCount]
    exact hv_HL_e hHL rfl rfl rfl
  case o49 =>
    obtain rfl : m_ho = a := Option.some.inj (f_m_ho.symm.trans ha)
    obtain rfl : mh = b := Option.some.inj (f_mh.symm.trans hb)
    rw [n_ho, n_mh, f_m_heardMany, f_m_claims]
    exact hHO9
  case o50 =>
    obtain rfl : qc = c := Option.some.inj (f_qc.symm.trans hc)
    obtain rfl : m_fc = a := Option.some.inj (f_m_fc.symm.trans ha)
    obtain rfl : m_nt = b := Option.some.inj (f_m_nt.symm.trans hb)
    obtain rfl : m_wt = d := Option.some.inj (f_m_wt.symm.trans hd)
    obtain rfl : m_sum = e := Option.some.inj (f_m_sum.symm.trans he)
    obtain rfl : mh = f := Option.some.inj (f_mh.symm.trans hf)
    exact ⟨cF9L, by rw [f_x_claimCount]; exact hFX, by rw [n_fc, n_nt, n_wt, n_sum, n_mh, f_x_claimCount]; exact hFR9⟩
  case o51 =>
    obtain rfl : qc = c := Option.some.inj (f_qc.symm.trans hc)
    obtain rfl : m_be = a := Option.some.inj (f_m_be.symm.trans ha)
    rw [n_be, f_x_claimCount]
    exact hv_FX_e hBX rfl rfl
  case o52 =>
    obtain rfl : qo_py = p := Option.some.inj (f_qo_py.symm.trans hp)
    obtain rfl : y_p0 = q := Option.some.inj (f_y_p0.symm.trans hq)
    obtain rfl : m_p0 = r := Option.some.inj (f_m_p0.symm.trans hr)
    exact n_y_p0.trans n_p0.symm
  case o53 =>
    obtain rfl : qo_py = p := Option.some.inj (f_qo_py.symm.trans hp)
    obtain rfl : y_p1 = q := Option.some.inj (f_y_p1.symm.trans hq)
    obtain rfl : m_p1 = r := Option.some.inj (f_m_p1.symm.trans hr)
    exact n_y_p1.trans n_p1.symm
  case o54 =>
    obtain rfl : qo_py = p := Option.some.inj (f_qo_py.symm.trans hp)
    obtain rfl : y_p2 = q := Option.some.inj (f_y_p2.symm.trans hq)
    obtain rfl : m_p2 = r := Option.some.inj (f_m_p2.symm.trans hr)
    exact n_y_p2.trans n_p2.symm
  case o55 =>
    obtain rfl : qo_py = p := Option.some.inj (f_qo_py.symm.trans hp)
    obtain rfl : y_p3 = q := Option.some.inj (f_y_p3.symm.trans hq)
    obtain rfl : m_p3 = r := Option.some.inj (f_m_p3.symm.trans hr)
    exact n_y_p3.trans n_p3.symm
  case o56 =>
    obtain rfl : qo_py = p := Option.some.inj (f_qo_py.symm.trans hp)
    obtain rfl : y_p4 = q := Option.some.inj (f_y_p4.symm.trans hq)
    obtain rfl : m_p4 = r := Option.some.inj (f_m_p4.symm.trans hr)
    exact n_y_p4.trans n_p4.symm
  case o57 =>
    obtain rfl : qrg9 = p := Option.some.inj (f_qrg9.symm.trans hp)
    rw [ffv_635, ffv_636, ffv_637]
    exact hNQ9
  case o58 =>
    obtain rfl : qrg9 = p := Option.some.inj (f_qrg9.symm.trans hp)
    obtain rfl : y_ls = q := Option.some.inj (f_y_ls.symm.trans hq)
    obtain rfl : m_rl = r := Option.some.inj (f_m_rl.symm.trans hr)
    rw [n_y_ls, n_m_rl, ffv_635]
    exact hRL9
  case o59 =>
    rw [cl_dead, n_dead]
    exact eq_dead
  case o60 =>
    rw [cl_isj, n_isj]
    exact eq_isj
  case o61 =>
    rw [cl_dox, n_dox]
    exact eq_dox
  case o62 =>
    rw [cl_doy, n_doy]
    exact eq_doy
  case o63 =>
    rw [cl_fou, n_m_fou]
    exact eq_fou
  case o64 =>
    rw [cl_tri, n_mt]
    exact eq_tri
  case o65 =>
    obtain rfl : qw = w := Option.some.inj (f_qw.symm.trans hw)
    obtain rfl : ql = q := Option.some.inj (f_ql.symm.trans hq)
    exact pf_ql
  case o66 =>
    rw [n_mw]
    exact hwd
  case o67 =>
    rw [n_mr, f_m_acts]
    exact hWK
  case o68 =>
    rw [n_mp, n_mn, f_m_acts]
    exact hRP
  case o69 =>
    rw [n_ml, f_m_claims, f_m_acts]
    exact hPL
  case o70 =>
    rw [n_mh, f_m_heardMany, f_m_claims]
    exact hHC
  case o71 =>
    rw [n_mt]
    refine (hx_TR_le hTR ?o72)
    case o72 => omega
  case o73 =>
    rw [n_mh, n_m_fou, f_m_claims]
    exact hHF

set_option maxHeartbeats 4000000 in
set_option maxRecDepth 100000 in
theorem law_case_19 {p : Program} {e : Env} {s : State} {m : MethodId} {below : List Frame} {meth : Method} {c : Code} (l : Launch) {b LN : Nat} {xs : Nat → Int32} (hx : p.tables.exec = Jvm.exec) (hb : c.code = code) (hr : meth.sig.returnType = ret) (hlocks : meth.locks = false) (hml : c.maxLocals = 4) (hown : s.vm.findClass "SmallCourtLaw" = some m.cls) (hts : ∀ w ∈ hx_all, w.before #[Value.ref b] s = true) (hX : va_X b LN xs s s.heap) (hbl : b < s.heap.size) (hbA : ¬ s.heap.size ≤ b) (hLN : LN ≤ 3584) (dC : Nat → ClassId) (dI : Nat → Nat → Nat) (dA : Nat → ClassId) (b0 : hx_z) (ax am : Nat) (T1 : Int) (hT0 : 0 ≤ T1) (hT1 : T1 ≤ 511) (i : Int32) (hi0 : 0 ≤ i.toInt) (hiL : i.toInt + 7 ≤ LN) (CC SS : Nat) (hCC : CC + 3 ≤ 600000) (hSS : SS + 179 ≤ 7302250) (L1 : List Nat) (hl1 : hx_h) (H : Heap) (locs : List Loc) (ls : Array Slot) (hW : hx_W T_tb (P_ty dA) (dC, dI) vwCl (fun q : Nat => s.heap.size ≤ q) s.heap L1 hl1 s H locs) (hZ : hx_Xt (fun q : Nat => s.heap.size ≤ q) b0 s) (hI : hx_IV T1 ax am L1 hl1) (hl : lv_has ls 4 [(3, .int i), (2, .ref am), (1, .ref ax), (0, .ref b)]) (kk : ∀ (L2 : List Nat) (h2 : hx_h) (H2 : Heap) (locs2 : List Loc) (ls2 : Array Slot), hx_W T_tb (P_ty dA) (dC, dI) vwCl (fun q : Nat => s.heap.size ≤ q) s.heap L2 h2 s H2 locs2 → hx_IV (T1 + 1) ax am L2 h2 → lv_has ls2 4 [(3, .int i), (2, .ref am), (1, .ref ax), (0, .ref b)] → W p l e room_1 s m #[Value.ref b] below meth c H2 locs2 (CC + 3) (SS + 179) (lw_Z below #[Value.ref b] s) (F0 m 1379 ls2 [])) : W p l e room_1 s m #[Value.ref b] below meth c H locs CC SS (lw_Z below #[Value.ref b] s) (F0 m 1043 ls []) := by
  have hI9 := hI
  have hT := hI9.1
  replace hI9 := hI9.2
  have gx := hI9.1
  replace hI9 := hI9.2
  have gm := hI9.1
  replace hI9 := hI9.2
  have zq0_3 := hI9.1
  have he_nw := zq0_3.1
  replace zq0_3 := zq0_3.2
  have he_np := zq0_3.1
  replace zq0_3 := zq0_3.2
  have he_c0 := zq0_3.1
  replace zq0_3 := zq0_3.2
  have he_tl := zq0_3.1
  replace zq0_3 := zq0_3.2
  have he_a0 := zq0_3.1
  replace zq0_3 := zq0_3.2
  have he_m0 := zq0_3.1
  replace zq0_3 := zq0_3.2
  have ho_ln := zq0_3.1
  replace zq0_3 := zq0_3.2
  have ho_lsd := zq0_3.1
  replace zq0_3 := zq0_3.2
  have ho_wkm := zq0_3.1
  replace zq0_3 := zq0_3.2
  have ho_py := zq0_3.1
  replace zq0_3 := zq0_3.2
  have hn_qp := zq0_3.1
  replace zq0_3 := zq0_3.2
  have hn_qc := zq0_3.1
  replace zq0_3 := zq0_3.2
  have hk_of := zq0_3.1
  replace zq0_3 := zq0_3.2
  have hk_wf := zq0_3.1
  replace zq0_3 := zq0_3.2
  have hk_df := zq0_3.1
  replace zq0_3 := zq0_3.2
  have hk_kf := zq0_3.1
  replace zq0_3 := zq0_3.2
  have hk_sf := zq0_3.1
  replace zq0_3 := zq0_3.2
  have hkBD := zq0_3.1
  replace zq0_3 := zq0_3.2
  have hLQ := zq0_3.1
  replace zq0_3 := zq0_3.2
  have hLE := zq0_3.1
  replace zq0_3 := zq0_3.2
  have hkWD := zq0_3.1
  replace zq0_3 := zq0_3.2
  have hkDF := zq0_3.1
  replace zq0_3 := zq0_3.2
  have hkTP := zq0_3.1
  replace zq0_3 := zq0_3.2
  have hkAC := zq0_3.1
  replace zq0_3 := zq0_3.2
  have hkDP := zq0_3.1
  replace zq0_3 := zq0_3.2
  have hkHL := zq0_3.1
  replace zq0_3 := zq0_3.2
  have hkHO := zq0_3.1
  replace zq0_3 := zq0_3.2
  have hkFX := zq0_3.1
  replace zq0_3 := zq0_3.2
  have hkBX := zq0_3.1
  replace zq0_3 := zq0_3.2
  have hf_bor := zq0_3.1
  replace zq0_3 := zq0_3.2
  have hf_kin := zq0_3.1
  replace zq0_3 := zq0_3.2
  have hf_sum := zq0_3.1
  replace zq0_3 := zq0_3.2
  have hf_fro := zq0_3.1
  replace zq0_3 := zq0_3.2
  have hf_fil := zq0_3.1
  replace zq0_3 := zq0_3.2
  have hf_hea := zq0_3.1
  replace zq0_3 := zq0_3.2
  have hf_jud := zq0_3.1
  replace zq0_3 := zq0_3.2
  have hf_ear := zq0_3.1
  replace zq0_3 := zq0_3.2
  have hf_hds := zq0_3.1
  replace zq0_3 := zq0_3.2
  have hf_ord := zq0_3.1
  replace zq0_3 := zq0_3.2
  have hf_wkl := zq0_3.1
  replace zq0_3 := zq0_3.2
  have hf_owd := zq0_3.1
  replace zq0_3 := zq0_3.2
  have hf_gds := zq0_3.1
  replace zq0_3 := zq0_3.2
  have hf_szd := zq0_3.1
  replace zq0_3 := zq0_3.2
  have hf_srv := zq0_3.1
  replace zq0_3 := zq0_3.2
  have hkP0 := zq0_3.1
  replace zq0_3 := zq0_3.2
  have hkP1 := zq0_3.1
  replace zq0_3 := zq0_3.2
  have hkP2 := zq0_3.1
  replace zq0_3 := zq0_3.2
  have hkP3 := zq0_3.1
  replace zq0_3 := zq0_3.2
  have hkP4 := zq0_3.1
  replace zq0_3 := zq0_3.2
  have hkNQ := zq0_3.1
  replace zq0_3 := zq0_3.2
  have hkRL := zq0_3.1
  replace zq0_3 := zq0_3.2
  have hc_dead := zq0_3.1
  replace zq0_3 := zq0_3.2
  have hc_isj := zq0_3.1
  replace zq0_3 := zq0_3.2
  have hc_dox := zq0_3.1
  replace zq0_3 := zq0_3.2
  have hc_doy := zq0_3.1
  replace zq0_3 := zq0_3.2
  have hc_fou := zq0_3.1
  replace zq0_3 := zq0_3.2
  have hc_tri := zq0_3.1
  replace zq0_3 := zq0_3.2
  replace hI9 := hI9.2
  have zq0_4 := hI9.1
  have ia := zq0_4.1
  replace zq0_4 := zq0_4.2
  have ip := zq0_4.1
  replace zq0_4 := zq0_4.2
  have ic := zq0_4.1
  replace zq0_4 := zq0_4.2
  have ih := zq0_4.1
  replace zq0_4 := zq0_4.2
  have il := zq0_4
  replace hI9 := hI9.2
  have zq0_5 := hI9
  have jw := zq0_5.1
  replace zq0_5 := zq0_5.2
  have jr := zq0_5.1
  replace zq0_5 := zq0_5.2
  have jp := zq0_5.1
  replace zq0_5 := zq0_5.2
  have jl := zq0_5.1
  replace zq0_5 := zq0_5.2
  have jh := zq0_5.1
  replace zq0_5 := zq0_5.2
  have jt := zq0_5.1
  replace zq0_5 := zq0_5.2
  have jf := zq0_5
  obtain ⟨qa, f_qa, g_qa⟩ := hx_rf hT gx tt_9 (k := 5) (u := 43) rfl
  have pf_qa := ia qa f_qa
  obtain ⟨qp, f_qp, g_qp⟩ := hx_rf hT gx tt_9 (k := 7) (u := 44) rfl
  have pf_qp := ip qp f_qp
  obtain ⟨qc, f_qc, g_qc⟩ := hx_rf hT gx tt_9 (k := 10) (u := 45) rfl
  have pf_qc := ic qc f_qc
  obtain ⟨qh, f_qh, g_qh⟩ := hx_rf hT gx tt_9 (k := 12) (u := 46) rfl
  have pf_qh := ih qh f_qh
  obtain ⟨qw, f_qw, g_qw⟩ := hx_rf hT gx tt_9 (k := 19) (u := 8) rfl
  obtain ⟨ql, f_ql, g_ql⟩ := hx_rf hT g_qw tt_8 (k := 3) (u := 40) rfl
  have pf_ql := il qw ql f_qw f_ql
  obtain ⟨nw, f_m_now⟩ : ∃ y : Int32, hl1.2.1 am 0 = y := ⟨_, rfl⟩
  have b_nw := hT.gi gm tt_10 (k := 0) rfl
  rw [f_m_now] at b_nw
  have b_nw : 0 ≤ nw.toInt ∧ nw.toInt ≤ 7999 := b_nw
  obtain ⟨np, f_m_persons⟩ : ∃ y : Int32, hl1.2.1 am 20 = y := ⟨_, rfl⟩
  have b_np := hT.gi gm tt_10 (k := 20) rfl
  rw [f_m_persons] at b_np
  have b_np : 0 ≤ np.toInt ∧ np.toInt ≤ 40 := b_np
  obtain ⟨c0, f_m_claims⟩ : ∃ y : Int32, hl1.2.1 am 36 = y := ⟨_, rfl⟩
  have b_c0 := hT.gi gm tt_10 (k := 36) rfl
  rw [f_m_claims] at b_c0
  have b_c0 : 0 ≤ c0.toInt ∧ c0.toInt ≤ 100 := b_c0
  obtain ⟨tl, f_m_taped⟩ : ∃ y : Int32, hl1.2.1 am 7 = y := ⟨_, rfl⟩
  have b_tl := hT.gi gm tt_10 (k := 7) rfl
  rw [f_m_taped] at b_tl
  have b_tl : 0 ≤ tl.toInt ∧ tl.toInt ≤ 400 := b_tl
  obtain ⟨a0, f_m_acts⟩ : ∃ y : Int32, hl1.2.1 am 1 = y := ⟨_, rfl⟩
  have b_a0 := hT.gi gm tt_10 (k := 1) rfl
  rw [f_m_acts] at b_a0
  have b_a0 : 0 ≤ a0.toInt ∧ a0.toInt ≤ 8 := b_a0
  obtain ⟨m0, f_m_heardMany⟩ : ∃ y : Int32, hl1.2.1 am 57 = y := ⟨_, rfl⟩
  have b_m0 := hT.gi gm tt_10 (k := 57) rfl
  rw [f_m_heardMany] at b_m0
  have b_m0 : 0 ≤ m0.toInt ∧ m0.toInt ≤ 100 := b_m0
  obtain ⟨ln, f_m_lines⟩ : ∃ y : Int32, hl1.2.1 am 29 = y := ⟨_, rfl⟩
  have b_ln := hT.gi gm tt_10 (k := 29) rfl
  rw [f_m_lines] at b_ln
  have b_ln : 0 ≤ ln.toInt ∧ ln.toInt ≤ 400 := b_ln
  obtain ⟨lsd, f_m_listed⟩ : ∃ y : Int32, hl1.2.1 am 90 = y := ⟨_, rfl⟩
  have b_lsd := hT.gi gm tt_10 (k := 90) rfl
  rw [f_m_listed] at b_lsd
  have b_lsd : 0 ≤ lsd.toInt ∧ lsd.toInt ≤ 8 := b_lsd
  obtain ⟨wkm, f_m_walkedMany⟩ : ∃ y : Int32, hl1.2.1 am 92 = y := ⟨_, rfl⟩
  have b_wkm := hT.gi gm tt_10 (k := 92) rfl
  rw [f_m_walkedMany] at b_wkm
  have b_wkm : 0 ≤ wkm.toInt ∧ wkm.toInt ≤ 8 := b_wkm
  obtain ⟨py, f_m_payments⟩ : ∃ y : Int32, hl1.2.1 am 59 = y := ⟨_, rfl⟩
  have b_py := hT.gi gm tt_10 (k := 59) rfl
  rw [f_m_payments] at b_py
  have b_py : 0 ≤ py.toInt ∧ py.toInt ≤ 600 := b_py
  have f_x_now : hl1.2.1 ax 2 = nw := he_nw.trans f_m_now
  have f_x_personCount : hl1.2.1 ax 8 = np := he_np.trans f_m_persons
  have f_x_claimCount : hl1.2.1 ax 11 = c0 := he_c0.trans f_m_claims
  have f_x_tapeLength : hl1.2.1 ax 1 = tl := he_tl.trans f_m_taped
  have f_x_actCount : hl1.2.1 ax 6 = a0 := he_a0.trans f_m_acts
  have f_x_heardCount : hl1.2.1 ax 13 = m0 := he_m0.trans f_m_heardMany
  obtain ⟨mw, f_mw, g_mw⟩ := hx_rf hT gm tt_10 (k := 19) (u := 57) rfl
  obtain ⟨F_mw, n_mw⟩ : ∃ g : Nat → Int32, hl1.2.1 mw = g := ⟨_, rfl⟩
  obtain ⟨mr, f_mr, g_mr⟩ := hx_rf hT gm tt_10 (k := 3) (u := 50) rfl
  obtain ⟨F_mr, n_mr⟩ : ∃ g : Nat → Int32, hl1.2.1 mr = g := ⟨_, rfl⟩
  obtain ⟨mp, f_mp, g_mp⟩ := hx_rf hT gm tt_10 (k := 5) (u := 52) rfl
  obtain ⟨F_mp, n_mp⟩ : ∃ g : Nat → Int32, hl1.2.1 mp = g := ⟨_, rfl⟩
  obtain ⟨mn, f_mn, g_mn⟩ := hx_rf hT gm tt_10 (k := 4) (u := 51) rfl
  obtain ⟨F_mn, n_mn⟩ : ∃ g : Nat → Int32, hl1.2.1 mn = g := ⟨_, rfl⟩
  obtain ⟨ml, f_ml, g_ml⟩ := hx_rf hT gm tt_10 (k := 44) (u := 79) rfl
  obtain ⟨F_ml, n_ml⟩ : ∃ g : Nat → Int32, hl1.2.1 ml = g := ⟨_, rfl⟩
  obtain ⟨mh, f_mh, g_mh⟩ := hx_rf hT gm tt_10 (k := 47) (u := 82) rfl
  obtain ⟨F_mh, n_mh⟩ : ∃ g : Nat → Int32, hl1.2.1 mh = g := ⟨_, rfl⟩
  obtain ⟨mt, f_mt, g_mt⟩ := hx_rf hT gm tt_10 (k := 45) (u := 80) rfl
  obtain ⟨F_mt, n_mt⟩ : ∃ g : Nat → Int32, hl1.2.1 mt = g := ⟨_, rfl⟩
  obtain ⟨m_fou, f_m_fou, g_m_fou⟩ := hx_rf hT gm tt_10 (k := 46) (u := 81) rfl
  obtain ⟨F_m_fou, n_m_fou⟩ : ∃ g : Nat → Int32, hl1.2.1 m_fou = g := ⟨_, rfl⟩
  obtain ⟨qo_ln, f_qo_ln, g_qo_ln⟩ := hx_rf hT gx tt_9 (k := 9) (u := 1) rfl
  have f_o_ln : hl1.2.1 qo_ln 0 = ln := (ho_ln qo_ln f_qo_ln).trans f_m_lines
  have f_o_lsd : hl1.2.1 qw 0 = lsd := (ho_lsd qw f_qw).trans f_m_listed
  have f_o_wkm : hl1.2.1 qw 1 = wkm := (ho_wkm qw f_qw).trans f_m_walkedMany
  obtain ⟨qo_py, f_qo_py, g_qo_py⟩ := hx_rf hT gx tt_9 (k := 14) (u := 3) rfl
  have f_o_py : hl1.2.1 qo_py 0 = py := (ho_py qo_py f_qo_py).trans f_m_payments
  have nu_qp := hn_qp qp f_qp; rw [f_x_personCount] at nu_qp
  have nu_qc := hn_qc qc f_qc; rw [f_x_claimCount] at nu_qc
  obtain ⟨b_of, f_b_of, g_b_of⟩ := hx_rf hT g_qo_ln tt_1 (k := 1) (u := 13) rfl
  obtain ⟨B_of, n_b_of⟩ : ∃ g : Nat → Int32, hl1.2.1 b_of = g := ⟨_, rfl⟩
  obtain ⟨m_of, f_m_of, g_m_of⟩ := hx_rf hT gm tt_10 (k := 30) (u := 66) rfl
  obtain ⟨F_of, n_m_of⟩ : ∃ g : Nat → Int32, hl1.2.1 m_of = g := ⟨_, rfl⟩
  have eb_of := hk_of qo_ln b_of m_of f_qo_ln f_b_of f_m_of; rw [n_b_of, n_m_of, f_o_ln] at eb_of
  obtain ⟨b_wf, f_b_wf, g_b_wf⟩ := hx_rf hT g_qo_ln tt_1 (k := 2) (u := 14) rfl
  obtain ⟨B_wf, n_b_wf⟩ : ∃ g : Nat → Int32, hl1.2.1 b_wf = g := ⟨_, rfl⟩
  obtain ⟨m_wf, f_m_wf, g_m_wf⟩ := hx_rf hT gm tt_10 (k := 31) (u := 67) rfl
  obtain ⟨F_wf, n_m_wf⟩ : ∃ g : Nat → Int32, hl1.2.1 m_wf = g := ⟨_, rfl⟩
  have eb_wf := hk_wf qo_ln b_wf m_wf f_qo_ln f_b_wf f_m_wf; rw [n_b_wf, n_m_wf, f_o_ln] at eb_wf
  obtain ⟨b_df, f_b_df, g_b_df⟩ := hx_rf hT g_qo_ln tt_1 (k := 3) (u := 15) rfl
  obtain ⟨B_df, n_b_df⟩ : ∃ g : Nat → Int32, hl1.2.1 b_df = g := ⟨_, rfl⟩
  obtain ⟨m_df, f_m_df, g_m_df⟩ := hx_rf hT gm tt_10 (k := 32) (u := 68) rfl
  obtain ⟨F_df, n_m_df⟩ : ∃ g : Nat → Int32, hl1.2.1 m_df = g := ⟨_, rfl⟩
  have eb_df := hk_df qo_ln b_df m_df f_qo_ln f_b_df f_m_df; rw [n_b_df, n_m_df, f_o_ln] at eb_df
  obtain ⟨b_kf, f_b_kf, g_b_kf⟩ := hx_rf hT g_qo_ln tt_1 (k := 4) (u := 16) rfl
  obtain ⟨B_kf, n_b_kf⟩ : ∃ g : Nat → Int32, hl1.2.1 b_kf = g := ⟨_, rfl⟩
  obtain ⟨m_kf, f_m_kf, g_m_kf⟩ := hx_rf hT gm tt_10 (k := 33) (u := 69) rfl
  obtain ⟨F_kf, n_m_kf⟩ : ∃ g : Nat → Int32, hl1.2.1 m_kf = g := ⟨_, rfl⟩
  have eb_kf := hk_kf qo_ln b_kf m_kf f_qo_ln f_b_kf f_m_kf; rw [n_b_kf, n_m_kf, f_o_ln] at eb_kf
  obtain ⟨b_sf, f_b_sf, g_b_sf⟩ := hx_rf hT g_qo_ln tt_1 (k := 5) (u := 17) rfl
  obtain ⟨B_sf, n_b_sf⟩ : ∃ g : Nat → Int32, hl1.2.1 b_sf = g := ⟨_, rfl⟩
  obtain ⟨m_sf, f_m_sf, g_m_sf⟩ := hx_rf hT gm tt_10 (k := 34) (u := 70) rfl
  obtain ⟨F_sf, n_m_sf⟩ : ∃ g : Nat → Int32, hl1.2.1 m_sf = g := ⟨_, rfl⟩
  have eb_sf := hk_sf qo_ln b_sf m_sf f_qo_ln f_b_sf f_m_sf; rw [n_b_sf, n_m_sf, f_o_ln] at eb_sf
  obtain ⟨b_bf, f_b_bf, g_b_bf⟩ := hx_rf hT g_qo_ln tt_1 (k := 6) (u := 18) rfl
  obtain ⟨bfL, n_b_bf⟩ : ∃ g : Nat → Int32, hl1.2.1 b_bf = g := ⟨_, rfl⟩
  obtain ⟨hBD, hDY⟩ := hkBD qo_ln b_df b_bf f_qo_ln f_b_df f_b_bf; rw [n_b_df, n_b_bf, f_o_ln] at hBD; rw [n_b_df, f_o_ln] at hDY
  have hBDm := hy_BD_c eb_df hBD
  have hDYm : hy_DY F_df ln.toInt.toNat := fun x hx => by rw [← eb_df x hx]; exact hDY x hx
  have sb_list := hLQ qw ql qc f_qw f_ql f_qc
  obtain ⟨m_lst, f_m_lst, g_m_lst⟩ := hx_rf hT gm tt_10 (k := 91) (u := 112) rfl
  obtain ⟨F_lst, n_lst⟩ : ∃ g : Nat → Int32, hl1.2.1 m_lst = g := ⟨_, rfl⟩
  obtain ⟨c_lst, cl_lst⟩ : ∃ g : Nat → Int32, hx_col 8 hl1 ql 0 = g := ⟨_, rfl⟩
  have eq_lst := hLE qw ql m_lst f_qw f_ql f_m_lst; rw [cl_lst, n_lst] at eq_lst
  obtain ⟨qtp, f_qtp, g_qtp⟩ := hx_rf hT gx tt_9 (k := 0) (u := 42) rfl
  obtain ⟨m_tp, f_m_tp, g_m_tp⟩ := hx_rf hT gm tt_10 (k := 6) (u := 53) rfl
  obtain ⟨F_tp, n_tp⟩ : ∃ g : Nat → Int32, hl1.2.1 m_tp = g := ⟨_, rfl⟩
  have n_qtp : hl1.2.1 qtp = F_tp := (hkTP qtp m_tp f_qtp f_m_tp).trans n_tp
  obtain ⟨c_dead, cl_dead⟩ : ∃ g : Nat → Int32, hx_col 40 hl1 qp 7 = g := ⟨_, rfl⟩
  obtain ⟨m_dead, f_m_dead, g_m_dead⟩ := hx_rf hT gm tt_10 (k := 27) (u := 64) rfl
  obtain ⟨F_dead, n_dead⟩ : ∃ g : Nat → Int32, hl1.2.1 m_dead = g := ⟨_, rfl⟩
  have eq_dead := hc_dead qp m_dead f_qp f_m_dead; rw [cl_dead, n_dead] at eq_dead
  have z_dead : np.toInt.toNat < 40 → c_dead np.toInt.toNat = 0 := fun hj => hx_num_z nu_qp cl_dead hj ?o0
  case o0 => omega
  obtain ⟨c_isj, cl_isj⟩ : ∃ g : Nat → Int32, hx_col 40 hl1 qp 8 = g := ⟨_, rfl⟩
  obtain ⟨m_isj, f_m_isj, g_m_isj⟩ := hx_rf hT gm tt_10 (k := 28) (u := 65) rfl
  obtain ⟨F_isj, n_isj⟩ : ∃ g : Nat → Int32, hl1.2.1 m_isj = g := ⟨_, rfl⟩
  have eq_isj := hc_isj qp m_isj f_qp f_m_isj; rw [cl_isj, n_isj] at eq_isj
  have z_isj : np.toInt.toNat < 40 → c_isj np.toInt.toNat = 0 := fun hj => hx_num_z nu_qp cl_isj hj ?o1
  case o1 => omega
  obtain ⟨c_dox, cl_dox⟩ : ∃ g : Nat → Int32, hx_col 40 hl1 qp 5 = g := ⟨_, rfl⟩
  obtain ⟨m_dox, f_m_dox, g_m_dox⟩ := hx_rf hT gm tt_10 (k := 24) (u := 61) rfl
  obtain ⟨F_dox, n_dox⟩ : ∃ g : Nat → Int32, hl1.2.1 m_dox = g := ⟨_, rfl⟩
  have eq_dox := hc_dox qp m_dox f_qp f_m_dox; rw [cl_dox, n_dox] at eq_dox
  have z_dox : np.toInt.toNat < 40 → c_dox np.toInt.toNat = 0 := fun hj => hx_num_z nu_qp cl_dox hj ?o2
  case o2 => omega
  obtain ⟨c_doy, cl_doy⟩ : ∃ g : Nat → Int32, hx_col 40 hl1 qp 6 = g := ⟨_, rfl⟩
  obtain ⟨m_doy, f_m_doy, g_m_doy⟩ := hx_rf hT gm tt_10 (k := 25) (u := 62) rfl
  obtain ⟨F_doy, n_doy⟩ : ∃ g : Nat → Int32, hl1.2.1 m_doy = g := ⟨_, rfl⟩
  have eq_doy := hc_doy qp m_doy f_qp f_m_doy; rw [cl_doy, n_doy] at eq_doy
  have z_doy : np.toInt.toNat < 40 → c_doy np.toInt.toNat = 0 := fun hj => hx_num_z nu_qp cl_doy hj ?o3
  case o3 => omega
  obtain ⟨c_fou, cl_fou⟩ : ∃ g : Nat → Int32, hx_col 100 hl1 qc 10 = g := ⟨_, rfl⟩
  have eq_fou := hc_fou qc m_fou f_qc f_m_fou; rw [cl_fou, n_m_fou] at eq_fou
  have z_fou : c0.toInt.toNat < 100 → c_fou c0.toInt.toNat = 0 := fun hj => hx_num_z nu_qc cl_fou hj ?o4
  case o4 => omega
  obtain ⟨c_tri, cl_tri⟩ : ∃ g : Nat → Int32, hx_col 100 hl1 qc 9 = g := ⟨_, rfl⟩
  have eq_tri := hc_tri qc mt f_qc f_mt; rw [cl_tri, n_mt] at eq_tri
  have z_tri : c0.toInt.toNat < 100 → c_tri c0.toInt.toNat = 0 := fun hj => hx_num_z nu_qc cl_tri hj ?o5
  case o5 => omega
  obtain ⟨qlt, f_qlt, g_qlt⟩ := hx_rf hT g_qw tt_8 (k := 2) (u := 39) rfl
  obtain ⟨qlf, f_qlf, g_qlf⟩ := hx_rf hT g_qw tt_8 (k := 4) (u := 41) rfl
  obtain ⟨m_wkd, f_m_wkd, g_m_wkd⟩ := hx_rf hT gm tt_10 (k := 93) (u := 113) rfl
  obtain ⟨F_qlt, n_qlt⟩ : ∃ g : Nat → Int32, hl1.2.1 qlt = g := ⟨_, rfl⟩
  obtain ⟨F_m_wkd, n_m_wkd⟩ : ∃ g : Nat → Int32, hl1.2.1 m_wkd = g := ⟨_, rfl⟩
  have eb_wkd := hkWD qw qlt m_wkd f_qw f_qlt f_m_wkd; rw [n_qlt, n_m_wkd, f_o_wkm] at eb_wkd
  obtain ⟨m_aga, f_m_aga, g_m_aga⟩ := hx_rf hT gm tt_10 (k := 38) (u := 73) rfl
  obtain ⟨F_aga, n_aga⟩ : ∃ g : Nat → Int32, hl1.2.1 m_aga = g := ⟨_, rfl⟩
  have hDF := hkDF qc qp m_aga f_qc f_qp f_m_aga; rw [n_aga, f_x_claimCount] at hDF
  obtain ⟨qwo, f_qwo, g_qwo⟩ := hx_rf hT gx tt_9 (k := 4) (u := 0) rfl
  obtain ⟨m_ad, f_m_ad, g_m_ad⟩ := hx_rf hT gm tt_10 (k := 2) (u := 49) rfl
  obtain ⟨F_ad, n_ad⟩ : ∃ g : Nat → Int32, hl1.2.1 m_ad = g := ⟨_, rfl⟩
  obtain ⟨A9, hRA9, hCA9, hAC9, hAB⟩ := hkAC qa qwo m_ad mr mn mp qc ml f_qa f_qwo f_m_ad f_mr f_mn f_mp f_qc f_ml
  rw [f_x_actCount] at hRA9; rw [f_x_actCount, n_ad, n_mr, n_mn, n_mp] at hCA9
  obtain ⟨m_by, f_m_by, g_m_by⟩ := hx_rf hT gm tt_10 (k := 37) (u := 72) rfl
  obtain ⟨F_by, n_by⟩ : ∃ g : Nat → Int32, hl1.2.1 m_by = g := ⟨_, rfl⟩
  obtain ⟨m_ho, f_m_ho, g_m_ho⟩ := hx_rf hT gm tt_10 (k := 58) (u := 92) rfl
  obtain ⟨F_ho, n_ho⟩ : ∃ g : Nat → Int32, hl1.2.1 m_ho = g := ⟨_, rfl⟩
  obtain ⟨m_fc, f_m_fc, g_m_fc⟩ := hx_rf hT gm tt_10 (k := 53) (u := 88) rfl
  obtain ⟨F_fc, n_fc⟩ : ∃ g : Nat → Int32, hl1.2.1 m_fc = g := ⟨_, rfl⟩
  obtain ⟨m_nt, f_m_nt, g_m_nt⟩ := hx_rf hT gm tt_10 (k := 41) (u := 76) rfl
  obtain ⟨F_nt, n_nt⟩ : ∃ g : Nat → Int32, hl1.2.1 m_nt = g := ⟨_, rfl⟩
  obtain ⟨m_wt, f_m_wt, g_m_wt⟩ := hx_rf hT gm tt_10 (k := 42) (u := 77) rfl
  obtain ⟨F_wt, n_wt⟩ : ∃ g : Nat → Int32, hl1.2.1 m_wt = g := ⟨_, rfl⟩
  obtain ⟨m_be, f_m_be, g_m_be⟩ := hx_rf hT gm tt_10 (k := 52) (u := 87) rfl
  obtain ⟨F_be, n_be⟩ : ∃ g : Nat → Int32, hl1.2.1 m_be = g := ⟨_, rfl⟩
  obtain ⟨m_bor, f_m_bor, g_m_bor⟩ := hx_rf hT gm tt_10 (k := 21) (u := 58) rfl
  obtain ⟨F_bor, n_bor⟩ : ∃ g : Nat → Int32, hl1.2.1 m_bor = g := ⟨_, rfl⟩
  obtain ⟨m_kin, f_m_kin, g_m_kin⟩ := hx_rf hT gm tt_10 (k := 26) (u := 63) rfl
  obtain ⟨F_kin, n_kin⟩ : ∃ g : Nat → Int32, hl1.2.1 m_kin = g := ⟨_, rfl⟩
  obtain ⟨m_sum, f_m_sum, g_m_sum⟩ := hx_rf hT gm tt_10 (k := 39) (u := 74) rfl
  obtain ⟨F_sum, n_sum⟩ : ∃ g : Nat → Int32, hl1.2.1 m_sum = g := ⟨_, rfl⟩
  obtain ⟨m_fro, f_m_fro, g_m_fro⟩ := hx_rf hT gm tt_10 (k := 40) (u := 75) rfl
  obtain ⟨F_fro, n_fro⟩ : ∃ g : Nat → Int32, hl1.2.1 m_fro = g := ⟨_, rfl⟩
  obtain ⟨m_fil, f_m_fil, g_m_fil⟩ := hx_rf hT gm tt_10 (k := 43) (u := 78) rfl
  obtain ⟨F_fil, n_fil⟩ : ∃ g : Nat → Int32, hl1.2.1 m_fil = g := ⟨_, rfl⟩
  obtain ⟨m_jud, f_m_jud, g_m_jud⟩ := hx_rf hT gm tt_10 (k := 51) (u := 86) rfl
  obtain ⟨F_jud, n_jud⟩ : ∃ g : Nat → Int32, hl1.2.1 m_jud = g := ⟨_, rfl⟩
  obtain ⟨m_ear, f_m_ear, g_m_ear⟩ := hx_rf hT gm tt_10 (k := 22) (u := 59) rfl
  obtain ⟨F_ear, n_ear⟩ : ∃ g : Nat → Int32, hl1.2.1 m_ear = g := ⟨_, rfl⟩
  obtain ⟨m_hds, f_m_hds, g_m_hds⟩ := hx_rf hT gm tt_10 (k := 23) (u := 60) rfl
  obtain ⟨F_hds, n_hds⟩ : ∃ g : Nat → Int32, hl1.2.1 m_hds = g := ⟨_, rfl⟩
  obtain ⟨m_ord, f_m_ord, g_m_ord⟩ := hx_rf hT gm tt_10 (k := 48) (u := 83) rfl
  obtain ⟨F_ord, n_ord⟩ : ∃ g : Nat → Int32, hl1.2.1 m_ord = g := ⟨_, rfl⟩
  obtain ⟨m_wkl, f_m_wkl, g_m_wkl⟩ := hx_rf hT gm tt_10 (k := 54) (u := 89) rfl
  obtain ⟨F_wkl, n_wkl⟩ : ∃ g : Nat → Int32, hl1.2.1 m_wkl = g := ⟨_, rfl⟩
  obtain ⟨m_owd, f_m_owd, g_m_owd⟩ := hx_rf hT gm tt_10 (k := 55) (u := 90) rfl
  obtain ⟨F_owd, n_owd⟩ : ∃ g : Nat → Int32, hl1.2.1 m_owd = g := ⟨_, rfl⟩
  obtain ⟨m_gds, f_m_gds, g_m_gds⟩ := hx_rf hT gm tt_10 (k := 56) (u := 91) rfl
  obtain ⟨F_gds, n_gds⟩ : ∃ g : Nat → Int32, hl1.2.1 m_gds = g := ⟨_, rfl⟩
  obtain ⟨m_szd, f_m_szd, g_m_szd⟩ := hx_rf hT gm tt_10 (k := 49) (u := 84) rfl
  obtain ⟨F_szd, n_szd⟩ : ∃ g : Nat → Int32, hl1.2.1 m_szd = g := ⟨_, rfl⟩
  obtain ⟨m_srv, f_m_srv, g_m_srv⟩ := hx_rf hT gm tt_10 (k := 50) (u := 85) rfl
  obtain ⟨F_srv, n_srv⟩ : ∃ g : Nat → Int32, hl1.2.1 m_srv = g := ⟨_, rfl⟩
  have cl_bor : hx_col 40 hl1 qp 1 = F_bor := (hf_bor qp m_bor f_qp f_m_bor).trans n_bor
  have cl_kin : hx_col 40 hl1 qp 2 = F_kin := (hf_kin qp m_kin f_qp f_m_kin).trans n_kin
  have cl_sum : hx_col 100 hl1 qc 6 = F_sum := (hf_sum qc m_sum f_qc f_m_sum).trans n_sum
  have cl_fro : hx_col 100 hl1 qc 7 = F_fro := (hf_fro qc m_fro f_qc f_m_fro).trans n_fro
  have cl_fil : hx_col 100 hl1 qc 8 = F_fil := (hf_fil qc m_fil f_qc f_m_fil).trans n_fil
  have cl_hea : hx_col 100 hl1 qc 11 = F_mh := (hf_hea qc mh f_qc f_mh).trans n_mh
  have cl_jud : hx_col 100 hl1 qc 12 = F_jud := (hf_jud qc m_jud f_qc f_m_jud).trans n_jud
  have cl_ear : hx_col 40 hl1 qp 3 = F_ear := (hf_ear qp m_ear f_qp f_m_ear).trans n_ear
  have cl_hds : hx_col 40 hl1 qp 4 = F_hds := (hf_hds qp m_hds f_qp f_m_hds).trans n_hds
  have cl_ord : hx_col 100 hl1 qc 13 = F_ord := (hf_ord qc m_ord f_qc f_m_ord).trans n_ord
  have cl_wkl : hx_col 100 hl1 qc 14 = F_wkl := (hf_wkl qc m_wkl f_qc f_m_wkl).trans n_wkl
  have cl_owd : hx_col 100 hl1 qc 15 = F_owd := (hf_owd qc m_owd f_qc f_m_owd).trans n_owd
  have cl_gds : hx_col 100 hl1 qc 17 = F_gds := (hf_gds qc m_gds f_qc f_m_gds).trans n_gds
  have cl_szd : hx_col 100 hl1 qc 16 = F_szd := (hf_szd qc m_szd f_qc f_m_szd).trans n_szd
  have cl_srv : hx_col 100 hl1 qc 18 = F_srv := (hf_srv qc m_srv f_qc f_m_srv).trans n_srv
  have htb9 : ∀ c, c < 100 → 0 ≤ (c_tri c).toInt ∧ (c_tri c).toInt ≤ 512 := fun c hc => by rw [eq_tri c hc]; have w := hT.ei g_mt tt_80 (k := c) hc; rw [n_mt] at w; exact w
  have z_jud : F_jud c0.toInt.toNat = 0 := hx_num_z2 nu_qc cl_jud ?o6
  case o6 => omega
  have hDP := hkDP qc qp m_by f_qc f_qp f_m_by; rw [n_by, f_x_claimCount] at hDP
  have hHL := hkHL qh qc m_ho f_qh f_qc f_m_ho; rw [n_ho, f_x_heardCount, f_x_claimCount] at hHL
  have hHO9 := hkHO m_ho mh f_m_ho f_mh; rw [n_ho, n_mh, f_m_heardMany, f_m_claims] at hHO9
  obtain ⟨cF9L, hFX, hFR9⟩ := hkFX qc m_fc m_nt m_wt m_sum mh f_qc f_m_fc f_m_nt f_m_wt f_m_sum f_mh; rw [f_x_claimCount] at hFX; rw [n_fc, n_nt, n_wt, n_sum, n_mh, f_x_claimCount] at hFR9
  have hBX := hkBX qc m_be f_qc f_m_be; rw [n_be, f_x_claimCount] at hBX
  rw [n_ml, f_x_claimCount] at hAC9
  obtain ⟨y_p0, f_y_p0, g_y_p0⟩ := hx_rf hT g_qo_py tt_3 (k := 2) (u := 23) rfl
  obtain ⟨m_p0, f_m_p0, g_m_p0⟩ := hx_rf hT gm tt_10 (k := 60) (u := 93) rfl
  obtain ⟨F_p0, n_p0⟩ : ∃ g : Nat → Int32, hl1.2.1 m_p0 = g := ⟨_, rfl⟩
  have n_y_p0 : hl1.2.1 y_p0 = F_p0 := (hkP0 qo_py y_p0 m_p0 f_qo_py f_y_p0 f_m_p0).trans n_p0
  obtain ⟨y_p1, f_y_p1, g_y_p1⟩ := hx_rf hT g_qo_py tt_3 (k := 3) (u := 24) rfl
  obtain ⟨m_p1, f_m_p1, g_m_p1⟩ := hx_rf hT gm tt_10 (k := 61) (u := 94) rfl
  obtain ⟨F_p1, n_p1⟩ : ∃ g : Nat → Int32, hl1.2.1 m_p1 = g := ⟨_, rfl⟩
  have n_y_p1 : hl1.2.1 y_p1 = F_p1 := (hkP1 qo_py y_p1 m_p1 f_qo_py f_y_p1 f_m_p1).trans n_p1
  obtain ⟨y_p2, f_y_p2, g_y_p2⟩ := hx_rf hT g_qo_py tt_3 (k := 5) (u := 26) rfl
  obtain ⟨m_p2, f_m_p2, g_m_p2⟩ := hx_rf hT gm tt_10 (k := 62) (u := 95) rfl
  obtain ⟨F_p2, n_p2⟩ : ∃ g : Nat → Int32, hl1.2.1 m_p2 = g := ⟨_, rfl⟩
  have n_y_p2 : hl1.2.1 y_p2 = F_p2 := (hkP2 qo_py y_p2 m_p2 f_qo_py f_y_p2 f_m_p2).trans n_p2
  obtain ⟨y_p3, f_y_p3, g_y_p3⟩ := hx_rf hT g_qo_py tt_3 (k := 4) (u := 25) rfl
  obtain ⟨m_p3, f_m_p3, g_m_p3⟩ := hx_rf hT gm tt_10 (k := 63) (u := 96) rfl
  obtain ⟨F_p3, n_p3⟩ : ∃ g : Nat → Int32, hl1.2.1 m_p3 = g := ⟨_, rfl⟩
  have n_y_p3 : hl1.2.1 y_p3 = F_p3 := (hkP3 qo_py y_p3 m_p3 f_qo_py f_y_p3 f_m_p3).trans n_p3
  obtain ⟨y_p4, f_y_p4, g_y_p4⟩ := hx_rf hT g_qo_py tt_3 (k := 1) (u := 22) rfl
  obtain ⟨m_p4, f_m_p4, g_m_p4⟩ := hx_rf hT gm tt_10 (k := 64) (u := 97) rfl
  obtain ⟨F_p4, n_p4⟩ : ∃ g : Nat → Int32, hl1.2.1 m_p4 = g := ⟨_, rfl⟩
  have n_y_p4 : hl1.2.1 y_p4 = F_p4 := (hkP4 qo_py y_p4 m_p4 f_qo_py f_y_p4 f_m_p4).trans n_p4
  obtain ⟨qrg9, f_qrg9, g_qrg9⟩ := hx_rf hT gx tt_9 (k := 18) (u := 7) rfl
  obtain ⟨y_ls, f_y_ls, g_y_ls⟩ := hx_rf hT g_qrg9 tt_7 (k := 3) (u := 35) rfl
  obtain ⟨m_rl, f_m_rl, g_m_rl⟩ := hx_rf hT gm tt_10 (k := 85) (u := 109) rfl
  obtain ⟨F_y_ls, n_y_ls⟩ : ∃ g : Nat → Int32, hl1.2.1 y_ls = g := ⟨_, rfl⟩
  obtain ⟨F_m_rl, n_m_rl⟩ : ∃ g : Nat → Int32, hl1.2.1 m_rl = g := ⟨_, rfl⟩
  obtain ⟨fv_655, efv_655⟩ : ∃ y : Int32, y = hl1.2.1 qrg9 0 := ⟨_, rfl⟩
  have bfv_655 := hT.gi g_qrg9 tt_7 (k := 0) rfl
  rw [← efv_655] at bfv_655
  have bfv_655 : -1 ≤ fv_655.toInt ∧ fv_655.toInt ≤ 100 := bfv_655
  have ffv_655 := efv_655.symm
  obtain ⟨fv_656, efv_656⟩ : ∃ y : Int32, y = hl1.2.1 am 83 := ⟨_, rfl⟩
  have bfv_656 := hT.gi gm tt_10 (k := 83) rfl
  rw [← efv_656] at bfv_656
  have bfv_656 : 0 ≤ fv_656.toInt ∧ fv_656.toInt ≤ 1 := bfv_656
  have ffv_656 := efv_656.symm
  obtain ⟨fv_657, efv_657⟩ : ∃ y : Int32, y = hl1.2.1 am 84 := ⟨_, rfl⟩
  have bfv_657 := hT.gi gm tt_10 (k := 84) rfl
  rw [← efv_657] at bfv_657
  have bfv_657 : 0 ≤ fv_657.toInt ∧ fv_657.toInt ≤ 300 := bfv_657
  have ffv_657 := efv_657.symm
  have hNQ9 := hkNQ qrg9 f_qrg9; rw [ffv_655, ffv_656, ffv_657] at hNQ9
  have hRL9 := hkRL qrg9 y_ls m_rl f_qrg9 f_y_ls f_m_rl; rw [n_y_ls, n_m_rl, ffv_655] at hRL9
  have hCB : hz_CB F_ord F_wkl F_owd F_szd F_gds F_srv := fun c hc => ⟨by have w := hT.ei g_m_ord tt_83 (k := c) (by omega); rw [n_ord] at w; exact w, by have w := hT.ei g_m_wkl tt_89 (k := c) (by omega); rw [n_wkl] at w; exact w, by have w := hT.ei g_m_owd tt_90 (k := c) (by omega); rw [n_owd] at w; exact w, by have w := hT.ei g_m_szd tt_84 (k := c) (by omega); rw [n_szd] at w; exact w, by have w := hT.ei g_m_gds tt_91 (k := c) (by omega); rw [n_gds] at w; exact w, by have w := hT.ei g_m_srv tt_85 (k := c) (by omega); rw [n_srv] at w; exact w⟩
  have hps : ∀ j, j < 600 → 0 ≤ (F_p2 j).toInt ∧ (F_p2 j).toInt ≤ 610000 := fun j hj => by have w := hT.ei g_m_p2 tt_95 (k := j) (by omega); rw [n_p2] at w; exact w
  have hte9 : ∀ c : Nat, c < 100 → (0 ≤ (c_tri c).toInt ∧ (c_tri c).toInt ≤ 512) ∧ (0 ≤ (F_sum c).toInt ∧ (F_sum c).toInt ≤ 9999) := fun c hc => ⟨htb9 c hc, by have w := hT.ei g_m_sum tt_74 (k := c) (by omega); rw [n_sum] at w; exact w⟩
  have hee9 : ∀ c : Nat, c < 40 → (0 ≤ (F_ear c).toInt ∧ (F_ear c).toInt ≤ 9999) ∧ (0 ≤ (F_hds c).toInt ∧ (F_hds c).toInt ≤ 20) := fun c hc => ⟨by have w := hT.ei g_m_ear tt_59 (k := c) (by omega); rw [n_ear] at w; exact w, by have w := hT.ei g_m_hds tt_60 (k := c) (by omega); rw [n_hds] at w; exact w⟩
  have bAG9 : ∀ k, k < 100 → 0 ≤ (F_aga k).toInt ∧ (F_aga k).toInt ≤ 39 := fun k hk => by have w := hT.ei g_m_aga tt_73 (k := k) (by omega); rw [n_aga] at w; exact w
  have bBY9 : ∀ k, k < 100 → 0 ≤ (F_by k).toInt ∧ (F_by k).toInt ≤ 39 := fun k hk => by have w := hT.ei g_m_by tt_72 (k := k) (by omega); rw [n_by] at w; exact w
  have hag9 : ∀ c, c < c0.toInt.toNat → 0 ≤ (F_aga c).toInt ∧ (F_aga c).toInt < 40 ∧ 0 ≤ (F_by c).toInt ∧ (F_by c).toInt < 40 := fun c hc => by have a9 := bAG9 c (by omega); have b9 := bBY9 c (by omega); omega
  have z_wkl : F_wkl c0.toInt.toNat = 0 := hx_num_z2 nu_qc cl_wkl ?o7
  case o7 => omega
  have z_owd : F_owd c0.toInt.toNat = 0 := hx_num_z2 nu_qc cl_owd ?o8
  case o8 => omega
  have z_gds : F_gds c0.toInt.toNat = 0 := hx_num_z2 nu_qc cl_gds ?o9
  case o9 => omega
  have hwd := jw mw f_mw; rw [n_mw] at hwd
  have hWK := jr mr f_mr; rw [n_mr, f_m_acts] at hWK
  have hRP := jp mp mn f_mp f_mn; rw [n_mp, n_mn, f_m_acts] at hRP
  have hPL := jl ml f_ml; rw [n_ml, f_m_claims, f_m_acts] at hPL
  have hHC := jh mh f_mh; rw [n_mh, f_m_heardMany, f_m_claims] at hHC
  have hTR := jt mt f_mt; rw [n_mt] at hTR
  have hHF := jf mh m_fou f_mh f_m_fou; rw [n_mh, n_m_fou, f_m_claims] at hHF
  refine lv_aload_n hx hb dL_law_1043 rfl (lv_at hl 2 rfl) ?_
  refine lv_aload_n hx hb dL_law_1044 rfl (lv_at hl 3 rfl) ?_
  refine lv_iload_n hx hb dL_law_1045 rfl (lv_at hl 0 rfl) ?_
  refine lv_iconst (v := 1) hx hb dL_law_1046 ?o10 ?_
  case o10 => decide
  refine lv_iadd hx hb dL_law_1047 ?_
  have rg_658 := i32_r i
  refine lv_topi (fun x_659 ex_659 => ?_)
  have zx_659 : x_659.toInt = i.toInt + 1 := ?o11
  case o11 =>
    rw [ex_659]
    refine i32_add rfl ?o12 ?o13 ?o14
    case o12 => decide
    case o13 => omega
    case o14 => omega
  refine va_sld hx hb hX hbl hbA hW.2.2.2.1 (vp_in_iff.mpr ⟨?o15, ?o16⟩) dL_law_1048 ?_
  case o15 => omega
  case o16 => omega
  refine lv_topi (fun x_660 ex_660 => ?_)
  refine lv_aload_n hx hb dL_law_1049 rfl (lv_at hl 3 rfl) ?_
  refine lv_iload_n hx hb dL_law_1050 rfl (lv_at hl 0 rfl) ?_
  refine lv_iconst (v := 2) hx hb dL_law_1051 ?o17 ?_
  case o17 => decide
  refine lv_iadd hx hb dL_law_1052 ?_
  refine lv_topi (fun x_661 ex_661 => ?_)
  have zx_661 : x_661.toInt = i.toInt + 2 := ?o18
  case o18 =>
    rw [ex_661]
    refine i32_add rfl ?o19 ?o20 ?o21
    case o19 => decide
    case o20 => omega
    case o21 => omega
  refine va_sld hx hb hX hbl hbA hW.2.2.2.1 (vp_in_iff.mpr ⟨?o22, ?o23⟩) dL_law_1053 ?_
  case o22 => omega
  case o23 => omega
  refine lv_topi (fun x_662 ex_662 => ?_)
  have hTo := hT
  refine hx_goi (hx_runV (As := [.int x_660, .int x_662]) (rest := []) ⟨hx, hb, hml, hown, hts⟩ hW gx tt_9 (T := TX9) (N := 20) rfl (t_X9_claim_v l dC dI dA L1 hl1 H.size ax x_660 x_662 hT gx qp g_qp f_qp qc g_qc f_qc c0 f_x_claimCount np f_x_personCount F_sum cl_sum F_fil cl_fil c_tri cl_tri F_jud cl_jud F_ord cl_ord F_wkl cl_wkl F_owd cl_owd F_szd cl_szd nu_qp nu_qc F_aga F_by F_ml F_be A9 hDF hDP hAC9 hBX pf_qp pf_qc) (cwV 2 hts (hx_gV kw_933 kw_930 kw_931 kw_932 kw_94) rfl rfl rfl (by decide +kernel) ⟨Nat.le_of_ble_eq_true rfl, Nat.le_of_ble_eq_true rfl⟩) rfl hl.1 rfl (Nat.le_of_ble_eq_true rfl) dL_law_1054 ⟨(show CC + 0 ≤ 600000 from ?o24), (show SS + 0 ≤ 7302250 from ?o25)⟩) hW (fun r_665 L_663 h_664 H locs p_666 hW => ?_)
  case o24 => omega
  case o25 => omega
  obtain ⟨hr_667, hT, hs⟩ := p_666
  replace hT : hx_T T_tb L_663 h_664 := hT
  replace hs : hx_S T_tb [] L1 hl1 L_663 h_664 := hs
  replace f_qa := (hs.o gx trivial rfl).2.trans f_qa
  replace f_qp := (hs.o gx trivial rfl).2.trans f_qp
  replace f_qc := (hs.o gx trivial rfl).2.trans f_qc
  replace f_qh := (hs.o gx trivial rfl).2.trans f_qh
  replace f_qw := (hs.o gx trivial rfl).2.trans f_qw
  replace f_ql := (hs.o g_qw trivial rfl).2.trans f_ql
  replace f_m_now := (hs.o gm trivial rfl).1.trans f_m_now
  replace f_m_persons := (hs.o gm trivial rfl).1.trans f_m_persons
  replace f_m_claims := (hs.o gm trivial rfl).1.trans f_m_claims
  replace f_m_taped := (hs.o gm trivial rfl).1.trans f_m_taped
  replace f_m_acts := (hs.o gm trivial rfl).1.trans f_m_acts
  replace f_m_heardMany := (hs.o gm trivial rfl).1.trans f_m_heardMany
  replace f_m_lines := (hs.o gm trivial rfl).1.trans f_m_lines
  replace f_m_listed := (hs.o gm trivial rfl).1.trans f_m_listed
  replace f_m_walkedMany := (hs.o gm trivial rfl).1.trans f_m_walkedMany
  replace f_m_payments := (hs.o gm trivial rfl).1.trans f_m_payments
  replace f_x_now := (hs.o gx trivial rfl).1.trans f_x_now
  replace f_x_personCount := (hs.o gx trivial rfl).1.trans f_x_personCount
  replace f_x_claimCount := (hs.o gx trivial rfl).1.trans f_x_claimCount
  replace f_x_tapeLength := (hs.o gx trivial rfl).1.trans f_x_tapeLength
  replace f_x_actCount := (hs.o gx trivial rfl).1.trans f_x_actCount
  replace f_x_heardCount := (hs.o gx trivial rfl).1.trans f_x_heardCount
  replace f_mw := (hs.o gm trivial rfl).2.trans f_mw
  replace f_mr := (hs.o gm trivial rfl).2.trans f_mr
  replace f_mp := (hs.o gm trivial rfl).2.trans f_mp
  replace f_mn := (hs.o gm trivial rfl).2.trans f_mn
  replace f_ml := (hs.o gm trivial rfl).2.trans f_ml
  replace f_mh := (hs.o gm trivial rfl).2.trans f_mh
  replace f_mt := (hs.o gm trivial rfl).2.trans f_mt
  replace f_m_fou := (hs.o gm trivial rfl).2.trans f_m_fou
  replace f_qo_ln := (hs.o gx trivial rfl).2.trans f_qo_ln
  replace f_o_ln := (hs.o g_qo_ln trivial rfl).1.trans f_o_ln
  replace f_o_lsd := (hs.o g_qw trivial rfl).1.trans f_o_lsd
  replace f_o_wkm := (hs.o g_qw trivial rfl).1.trans f_o_wkm
  replace f_qo_py := (hs.o gx trivial rfl).2.trans f_qo_py
  replace f_o_py := (hs.o g_qo_py trivial rfl).1.trans f_o_py
  replace f_b_of := (hs.o g_qo_ln trivial rfl).2.trans f_b_of
  replace f_m_of := (hs.o gm trivial rfl).2.trans f_m_of
  replace f_b_wf := (hs.o g_qo_ln trivial rfl).2.trans f_b_wf
  replace f_m_wf := (hs.o gm trivial rfl).2.trans f_m_wf
  replace f_b_df := (hs.o g_qo_ln trivial rfl).2.trans f_b_df
  replace f_m_df := (hs.o gm trivial rfl).2.trans f_m_df
  replace f_b_kf := (hs.o g_qo_ln trivial rfl).2.trans f_b_kf
  replace f_m_kf := (hs.o gm trivial rfl).2.trans f_m_kf
  replace f_b_sf := (hs.o g_qo_ln trivial rfl).2.trans f_b_sf
  replace f_m_sf := (hs.o gm trivial rfl).2.trans f_m_sf
  replace f_b_bf := (hs.o g_qo_ln trivial rfl).2.trans f_b_bf
  replace f_m_lst := (hs.o gm trivial rfl).2.trans f_m_lst
  replace f_qtp := (hs.o gx trivial rfl).2.trans f_qtp
  replace f_m_tp := (hs.o gm trivial rfl).2.trans f_m_tp
  replace f_m_dead := (hs.o gm trivial rfl).2.trans f_m_dead
  replace f_m_isj := (hs.o gm trivial rfl).2.trans f_m_isj
  replace f_m_dox := (hs.o gm trivial rfl).2.trans f_m_dox
  replace f_m_doy := (hs.o gm trivial rfl).2.trans f_m_doy
  replace f_qlt := (hs.o g_qw trivial rfl).2.trans f_qlt
  replace f_qlf := (hs.o g_qw trivial rfl).2.trans f_qlf
  replace f_m_wkd := (hs.o gm trivial rfl).2.trans f_m_wkd
  replace f_m_aga := (hs.o gm trivial rfl).2.trans f_m_aga
  replace f_qwo := (hs.o gx trivial rfl).2.trans f_qwo
  replace f_m_ad := (hs.o gm trivial rfl).2.trans f_m_ad
  replace f_m_by := (hs.o gm trivial rfl).2.trans f_m_by
  replace f_m_ho := (hs.o gm trivial rfl).2.trans f_m_ho
  replace f_m_fc := (hs.o gm trivial rfl).2.trans f_m_fc
  replace f_m_nt := (hs.o gm trivial rfl).2.trans f_m_nt
  replace f_m_wt := (hs.o gm trivial rfl).2.trans f_m_wt
  replace f_m_be := (hs.o gm trivial rfl).2.trans f_m_be
  replace f_m_bor := (hs.o gm trivial rfl).2.trans f_m_bor
  replace f_m_kin := (hs.o gm trivial rfl).2.trans f_m_kin
  replace f_m_sum := (hs.o gm trivial rfl).2.trans f_m_sum
  replace f_m_fro := (hs.o gm trivial rfl).2.trans f_m_fro
  replace f_m_fil := (hs.o gm trivial rfl).2.trans f_m_fil
  replace f_m_jud := (hs.o gm trivial rfl).2.trans f_m_jud
  replace f_m_ear := (hs.o gm trivial rfl).2.trans f_m_ear
  replace f_m_hds := (hs.o gm trivial rfl).2.trans f_m_hds
  replace f_m_ord := (hs.o gm trivial rfl).2.trans f_m_ord
  replace f_m_wkl := (hs.o gm trivial rfl).2.trans f_m_wkl
  replace f_m_owd := (hs.o gm trivial rfl).2.trans f_m_owd
  replace f_m_gds := (hs.o gm trivial rfl).2.trans f_m_gds
  replace f_m_szd := (hs.o gm trivial rfl).2.trans f_m_szd
  replace f_m_srv := (hs.o gm trivial rfl).2.trans f_m_srv
  replace f_y_p0 := (hs.o g_qo_py trivial rfl).2.trans f_y_p0
  replace f_m_p0 := (hs.o gm trivial rfl).2.trans f_m_p0
  replace f_y_p1 := (hs.o g_qo_py trivial rfl).2.trans f_y_p1
  replace f_m_p1 := (hs.o gm trivial rfl).2.trans f_m_p1
  replace f_y_p2 := (hs.o g_qo_py trivial rfl).2.trans f_y_p2
  replace f_m_p2 := (hs.o gm trivial rfl).2.trans f_m_p2
  replace f_y_p3 := (hs.o g_qo_py trivial rfl).2.trans f_y_p3
  replace f_m_p3 := (hs.o gm trivial rfl).2.trans f_m_p3
  replace f_y_p4 := (hs.o g_qo_py trivial rfl).2.trans f_y_p4
  replace f_m_p4 := (hs.o gm trivial rfl).2.trans f_m_p4
  replace f_qrg9 := (hs.o gx trivial rfl).2.trans f_qrg9
  replace f_y_ls := (hs.o g_qrg9 trivial rfl).2.trans f_y_ls
  replace f_m_rl := (hs.o gm trivial rfl).2.trans f_m_rl
  replace ffv_655 := (hs.o g_qrg9 trivial rfl).1.trans ffv_655
  replace ffv_656 := (hs.o gm trivial rfl).1.trans ffv_656
  replace ffv_657 := (hs.o gm trivial rfl).1.trans ffv_657
  replace pf_qa : ∀ j : Nat, (j : Int) < (h_664.2.1 ax 6).toInt → h_664.2.2 qa j ≠ none := by
    intro j hj; rw [(hs.o gx trivial rfl).1] at hj; rw [(hs.a g_qa rfl j).2]; exact pf_qa j hj
  replace pf_qp : ∀ j : Nat, (j : Int) < (h_664.2.1 ax 8).toInt → h_664.2.2 qp j ≠ none := by
    intro j hj; rw [(hs.o gx trivial rfl).1] at hj; rw [(hs.a g_qp rfl j).2]; exact pf_qp j hj
  replace pf_qc : ∀ j : Nat, (j : Int) < (h_664.2.1 ax 11).toInt → h_664.2.2 qc j ≠ none := by
    intro j hj; rw [(hs.o gx trivial rfl).1] at hj; rw [(hs.a g_qc rfl j).2]; exact pf_qc j hj
  replace pf_qh : ∀ j : Nat, (j : Int) < (h_664.2.1 ax 13).toInt → h_664.2.2 qh j ≠ none := by
    intro j hj; rw [(hs.o gx trivial rfl).1] at hj; rw [(hs.a g_qh rfl j).2]; exact pf_qh j hj
  replace pf_ql : ∀ j : Nat, (j : Int) < (h_664.2.1 qw 0).toInt → h_664.2.2 ql j ≠ none := by
    intro j hj; rw [(hs.o g_qw trivial rfl).1] at hj; rw [(hs.a g_ql rfl j).2]; exact pf_ql j hj
  replace cl_lst : hx_col 8 h_664 ql 0 = c_lst := (hx_col_S hs hTo g_ql tt_40 tt_2 rfl rfl).trans cl_lst
  replace cl_dead : hx_col 40 h_664 qp 7 = c_dead := (hx_col_S hs hTo g_qp tt_44 tt_4 rfl rfl).trans cl_dead
  replace cl_isj : hx_col 40 h_664 qp 8 = c_isj := (hx_col_S hs hTo g_qp tt_44 tt_4 rfl rfl).trans cl_isj
  replace cl_dox : hx_col 40 h_664 qp 5 = c_dox := (hx_col_S hs hTo g_qp tt_44 tt_4 rfl rfl).trans cl_dox
  replace cl_doy : hx_col 40 h_664 qp 6 = c_doy := (hx_col_S hs hTo g_qp tt_44 tt_4 rfl rfl).trans cl_doy
  replace cl_fou : hx_col 100 h_664 qc 10 = c_fou := (hx_col_S hs hTo g_qc tt_45 tt_2 rfl rfl).trans cl_fou
  replace cl_tri : hx_col 100 h_664 qc 9 = c_tri := (hx_col_S hs hTo g_qc tt_45 tt_2 rfl rfl).trans cl_tri
  replace cl_bor : hx_col 40 h_664 qp 1 = F_bor := (hx_col_S hs hTo g_qp tt_44 tt_4 rfl rfl).trans cl_bor
  replace cl_kin : hx_col 40 h_664 qp 2 = F_kin := (hx_col_S hs hTo g_qp tt_44 tt_4 rfl rfl).trans cl_kin
  replace cl_sum : hx_col 100 h_664 qc 6 = F_sum := (hx_col_S hs hTo g_qc tt_45 tt_2 rfl rfl).trans cl_sum
  replace cl_fro : hx_col 100 h_664 qc 7 = F_fro := (hx_col_S hs hTo g_qc tt_45 tt_2 rfl rfl).trans cl_fro
  replace cl_fil : hx_col 100 h_664 qc 8 = F_fil := (hx_col_S hs hTo g_qc tt_45 tt_2 rfl rfl).trans cl_fil
  replace cl_hea : hx_col 100 h_664 qc 11 = F_mh := (hx_col_S hs hTo g_qc tt_45 tt_2 rfl rfl).trans cl_hea
  replace cl_jud : hx_col 100 h_664 qc 12 = F_jud := (hx_col_S hs hTo g_qc tt_45 tt_2 rfl rfl).trans cl_jud
  replace cl_ear : hx_col 40 h_664 qp 3 = F_ear := (hx_col_S hs hTo g_qp tt_44 tt_4 rfl rfl).trans cl_ear
  replace cl_hds : hx_col 40 h_664 qp 4 = F_hds := (hx_col_S hs hTo g_qp tt_44 tt_4 rfl rfl).trans cl_hds
  replace cl_ord : hx_col 100 h_664 qc 13 = F_ord := (hx_col_S hs hTo g_qc tt_45 tt_2 rfl rfl).trans cl_ord
  replace cl_wkl : hx_col 100 h_664 qc 14 = F_wkl := (hx_col_S hs hTo g_qc tt_45 tt_2 rfl rfl).trans cl_wkl
  replace cl_owd : hx_col 100 h_664 qc 15 = F_owd := (hx_col_S hs hTo g_qc tt_45 tt_2 rfl rfl).trans cl_owd
  replace cl_gds : hx_col 100 h_664 qc 17 = F_gds := (hx_col_S hs hTo g_qc tt_45 tt_2 rfl rfl).trans cl_gds
  replace cl_szd : hx_col 100 h_664 qc 16 = F_szd := (hx_col_S hs hTo g_qc tt_45 tt_2 rfl rfl).trans cl_szd
  replace cl_srv : hx_col 100 h_664 qc 18 = F_srv := (hx_col_S hs hTo g_qc tt_45 tt_2 rfl rfl).trans cl_srv
  replace nu_qp : hx_num 40 h_664 qp 0 (np.toInt) := hx_num_S hs hTo g_qp tt_44 tt_4 rfl rfl nu_qp
  replace nu_qc : hx_num 100 h_664 qc 0 (c0.toInt) := hx_num_S hs hTo g_qc tt_45 tt_2 rfl rfl nu_qc
  replace sb_list : hx_LQ 8 100 h_664 ql qc := hx_LQ_S hs g_ql g_qc rfl rfl sb_list
  replace hDF : hw_DF h_664 qc qp 2 F_aga c0.toInt := hw_DF_S hs hTo g_qc g_qp tt_45 tt_2 rfl rfl rfl hDF
  replace hRA9 : hv_RA h_664 qa qwo a0.toInt A9 := hv_RA_S hs hTo g_qa g_qwo tt_43 tt_0 rfl rfl rfl rfl rfl rfl ?o26 hRA9
  case o26 => omega
  replace hDP : hw_DF h_664 qc qp 1 F_by c0.toInt := hw_DF_S hs hTo g_qc g_qp tt_45 tt_2 rfl rfl rfl hDP
  replace hAC9 : hv_AC h_664 qc F_ml c0.toInt A9 := hv_AC_S hs hTo g_qc tt_45 tt_2 rfl tt_0 rfl rfl rfl rfl rfl rfl rfl hAC9
  replace hFX : hv_FX 8 4 h_664 qc cF9L c0.toInt := hv_FX_S hs hTo g_qc tt_45 tt_2 rfl rfl rfl rfl hFX
  replace hBX : hv_FX 3 5 h_664 qc F_be c0.toInt := hv_FX_S hs hTo g_qc tt_45 tt_2 rfl rfl rfl rfl hBX
  replace hHL : hv_HL h_664 qh qc F_ho m0.toInt c0.toInt := hv_HL_S hs g_qh g_qc rfl rfl hHL
  replace n_mw : h_664.2.1 mw = F_mw := (funext fun j => (hs.a g_mw rfl j).1).trans n_mw
  replace n_mr : h_664.2.1 mr = F_mr := (funext fun j => (hs.a g_mr rfl j).1).trans n_mr
  replace n_mp : h_664.2.1 mp = F_mp := (funext fun j => (hs.a g_mp rfl j).1).trans n_mp
  replace n_mn : h_664.2.1 mn = F_mn := (funext fun j => (hs.a g_mn rfl j).1).trans n_mn
  replace n_ml : h_664.2.1 ml = F_ml := (funext fun j => (hs.a g_ml rfl j).1).trans n_ml
  replace n_mh : h_664.2.1 mh = F_mh := (funext fun j => (hs.a g_mh rfl j).1).trans n_mh
  replace n_mt : h_664.2.1 mt = F_mt := (funext fun j => (hs.a g_mt rfl j).1).trans n_mt
  replace n_m_fou : h_664.2.1 m_fou = F_m_fou := (funext fun j => (hs.a g_m_fou rfl j).1).trans n_m_fou
  replace n_b_of : h_664.2.1 b_of = B_of := (funext fun j => (hs.a g_b_of rfl j).1).trans n_b_of
  replace n_m_of : h_664.2.1 m_of = F_of := (funext fun j => (hs.a g_m_of rfl j).1).trans n_m_of
  replace n_b_wf : h_664.2.1 b_wf = B_wf := (funext fun j => (hs.a g_b_wf rfl j).1).trans n_b_wf
  replace n_m_wf : h_664.2.1 m_wf = F_wf := (funext fun j => (hs.a g_m_wf rfl j).1).trans n_m_wf
  replace n_b_df : h_664.2.1 b_df = B_df := (funext fun j => (hs.a g_b_df rfl j).1).trans n_b_df
  replace n_m_df : h_664.2.1 m_df = F_df := (funext fun j => (hs.a g_m_df rfl j).1).trans n_m_df
  replace n_b_kf : h_664.2.1 b_kf = B_kf := (funext fun j => (hs.a g_b_kf rfl j).1).trans n_b_kf
  replace n_m_kf : h_664.2.1 m_kf = F_kf := (funext fun j => (hs.a g_m_kf rfl j).1).trans n_m_kf
  replace n_b_sf : h_664.2.1 b_sf = B_sf := (funext fun j => (hs.a g_b_sf rfl j).1).trans n_b_sf
  replace n_m_sf : h_664.2.1 m_sf = F_sf := (funext fun j => (hs.a g_m_sf rfl j).1).trans n_m_sf
  replace n_b_bf : h_664.2.1 b_bf = bfL := (funext fun j => (hs.a g_b_bf rfl j).1).trans n_b_bf
  replace n_lst : h_664.2.1 m_lst = F_lst := (funext fun j => (hs.a g_m_lst rfl j).1).trans n_lst
  replace n_tp : h_664.2.1 m_tp = F_tp := (funext fun j => (hs.a g_m_tp rfl j).1).trans n_tp
  replace n_qtp : h_664.2.1 qtp = F_tp := (funext fun j => (hs.a g_qtp rfl j).1).trans n_qtp
  replace n_dead : h_664.2.1 m_dead = F_dead := (funext fun j => (hs.a g_m_dead rfl j).1).trans n_dead
  replace n_isj : h_664.2.1 m_isj = F_isj := (funext fun j => (hs.a g_m_isj rfl j).1).trans n_isj
  replace n_dox : h_664.2.1 m_dox = F_dox := (funext fun j => (hs.a g_m_dox rfl j).1).trans n_dox
  replace n_doy : h_664.2.1 m_doy = F_doy := (funext fun j => (hs.a g_m_doy rfl j).1).trans n_doy
  replace n_qlt : h_664.2.1 qlt = F_qlt := (funext fun j => (hs.a g_qlt rfl j).1).trans n_qlt
  replace n_m_wkd : h_664.2.1 m_wkd = F_m_wkd := (funext fun j => (hs.a g_m_wkd rfl j).1).trans n_m_wkd
  replace n_aga : h_664.2.1 m_aga = F_aga := (funext fun j => (hs.a g_m_aga rfl j).1).trans n_aga
  replace n_ad : h_664.2.1 m_ad = F_ad := (funext fun j => (hs.a g_m_ad rfl j).1).trans n_ad
  replace n_by : h_664.2.1 m_by = F_by := (funext fun j => (hs.a g_m_by rfl j).1).trans n_by
  replace n_ho : h_664.2.1 m_ho = F_ho := (funext fun j => (hs.a g_m_ho rfl j).1).trans n_ho
  replace n_fc : h_664.2.1 m_fc = F_fc := (funext fun j => (hs.a g_m_fc rfl j).1).trans n_fc
  replace n_nt : h_664.2.1 m_nt = F_nt := (funext fun j => (hs.a g_m_nt rfl j).1).trans n_nt
  replace n_wt : h_664.2.1 m_wt = F_wt := (funext fun j => (hs.a g_m_wt rfl j).1).trans n_wt
  replace n_be : h_664.2.1 m_be = F_be := (funext fun j => (hs.a g_m_be rfl j).1).trans n_be
  replace n_bor : h_664.2.1 m_bor = F_bor := (funext fun j => (hs.a g_m_bor rfl j).1).trans n_bor
  replace n_kin : h_664.2.1 m_kin = F_kin := (funext fun j => (hs.a g_m_kin rfl j).1).trans n_kin
  replace n_sum : h_664.2.1 m_sum = F_sum := (funext fun j => (hs.a g_m_sum rfl j).1).trans n_sum
  replace n_fro : h_664.2.1 m_fro = F_fro := (funext fun j => (hs.a g_m_fro rfl j).1).trans n_fro
  replace n_fil : h_664.2.1 m_fil = F_fil := (funext fun j => (hs.a g_m_fil rfl j).1).trans n_fil
  replace n_jud : h_664.2.1 m_jud = F_jud := (funext fun j => (hs.a g_m_jud rfl j).1).trans n_jud
  replace n_ear : h_664.2.1 m_ear = F_ear := (funext fun j => (hs.a g_m_ear rfl j).1).trans n_ear
  replace n_hds : h_664.2.1 m_hds = F_hds := (funext fun j => (hs.a g_m_hds rfl j).1).trans n_hds
  replace n_ord : h_664.2.1 m_ord = F_ord := (funext fun j => (hs.a g_m_ord rfl j).1).trans n_ord
  replace n_wkl : h_664.2.1 m_wkl = F_wkl := (funext fun j => (hs.a g_m_wkl rfl j).1).trans n_wkl
  replace n_owd : h_664.2.1 m_owd = F_owd := (funext fun j => (hs.a g_m_owd rfl j).1).trans n_owd
  replace n_gds : h_664.2.1 m_gds = F_gds := (funext fun j => (hs.a g_m_gds rfl j).1).trans n_gds
  replace n_szd : h_664.2.1 m_szd = F_szd := (funext fun j => (hs.a g_m_szd rfl j).1).trans n_szd
  replace n_srv : h_664.2.1 m_srv = F_srv := (funext fun j => (hs.a g_m_srv rfl j).1).trans n_srv
  replace n_p0 : h_664.2.1 m_p0 = F_p0 := (funext fun j => (hs.a g_m_p0 rfl j).1).trans n_p0
  replace n_y_p0 : h_664.2.1 y_p0 = F_p0 := (funext fun j => (hs.a g_y_p0 rfl j).1).trans n_y_p0
  replace n_p1 : h_664.2.1 m_p1 = F_p1 := (funext fun j => (hs.a g_m_p1 rfl j).1).trans n_p1
  replace n_y_p1 : h_664.2.1 y_p1 = F_p1 := (funext fun j => (hs.a g_y_p1 rfl j).1).trans n_y_p1
  replace n_p2 : h_664.2.1 m_p2 = F_p2 := (funext fun j => (hs.a g_m_p2 rfl j).1).trans n_p2
  replace n_y_p2 : h_664.2.1 y_p2 = F_p2 := (funext fun j => (hs.a g_y_p2 rfl j).1).trans n_y_p2
  replace n_p3 : h_664.2.1 m_p3 = F_p3 := (funext fun j => (hs.a g_m_p3 rfl j).1).trans n_p3
  replace n_y_p3 : h_664.2.1 y_p3 = F_p3 := (funext fun j => (hs.a g_y_p3 rfl j).1).trans n_y_p3
  replace n_p4 : h_664.2.1 m_p4 = F_p4 := (funext fun j => (hs.a g_m_p4 rfl j).1).trans n_p4
  replace n_y_p4 : h_664.2.1 y_p4 = F_p4 := (funext fun j => (hs.a g_y_p4 rfl j).1).trans n_y_p4
  replace n_y_ls : h_664.2.1 y_ls = F_y_ls := (funext fun j => (hs.a g_y_ls rfl j).1).trans n_y_ls
  replace n_m_rl : h_664.2.1 m_rl = F_m_rl := (funext fun j => (hs.a g_m_rl rfl j).1).trans n_m_rl
  replace gx := gx.S hs
  replace gm := gm.S hs
  replace g_qa := g_qa.S hs
  replace g_qp := g_qp.S hs
  replace g_qc := g_qc.S hs
  replace g_qh := g_qh.S hs
  replace g_qw := g_qw.S hs
  replace g_ql := g_ql.S hs
  replace g_mw := g_mw.S hs
  replace g_mr := g_mr.S hs
  replace g_mp := g_mp.S hs
  replace g_mn := g_mn.S hs
  replace g_ml := g_ml.S hs
  replace g_mh := g_mh.S hs
  replace g_mt := g_mt.S hs
  replace g_m_fou := g_m_fou.S hs
  replace g_qo_ln := g_qo_ln.S hs
  replace g_qo_py := g_qo_py.S hs
  replace g_b_of := g_b_of.S hs
  replace g_m_of := g_m_of.S hs
  replace g_b_wf := g_b_wf.S hs
  replace g_m_wf := g_m_wf.S hs
  replace g_b_df := g_b_df.S hs
  replace g_m_df := g_m_df.S hs
  replace g_b_kf := g_b_kf.S hs
  replace g_m_kf := g_m_kf.S hs
  replace g_b_sf := g_b_sf.S hs
  replace g_m_sf := g_m_sf.S hs
  replace g_b_bf := g_b_bf.S hs
  replace g_m_lst := g_m_lst.S hs
  replace g_qtp := g_qtp.S hs
  replace g_m_tp := g_m_tp.S hs
  replace g_m_dead := g_m_dead.S hs
  replace g_m_isj := g_m_isj.S hs
  replace g_m_dox := g_m_dox.S hs
  replace g_m_doy := g_m_doy.S hs
  replace g_qlt := g_qlt.S hs
  replace g_qlf := g_qlf.S hs
  replace g_m_wkd := g_m_wkd.S hs
  replace g_m_aga := g_m_aga.S hs
  replace g_qwo := g_qwo.S hs
  replace g_m_ad := g_m_ad.S hs
  replace g_m_by := g_m_by.S hs
  replace g_m_ho := g_m_ho.S hs
  replace g_m_fc := g_m_fc.S hs
  replace g_m_nt := g_m_nt.S hs
  replace g_m_wt := g_m_wt.S hs
  replace g_m_be := g_m_be.S hs
  replace g_m_bor := g_m_bor.S hs
  replace g_m_kin := g_m_kin.S hs
  replace g_m_sum := g_m_sum.S hs
  replace g_m_fro := g_m_fro.S hs
  replace g_m_fil := g_m_fil.S hs
  replace g_m_jud := g_m_jud.S hs
  replace g_m_ear := g_m_ear.S hs
  replace g_m_hds := g_m_hds.S hs
  replace g_m_ord := g_m_ord.S hs
  replace g_m_wkl := g_m_wkl.S hs
  replace g_m_owd := g_m_owd.S hs
  replace g_m_gds := g_m_gds.S hs
  replace g_m_szd := g_m_szd.S hs
  replace g_m_srv := g_m_srv.S hs
  replace g_y_p0 := g_y_p0.S hs
  replace g_m_p0 := g_m_p0.S hs
  replace g_y_p1 := g_y_p1.S hs
  replace g_m_p1 := g_m_p1.S hs
  replace g_y_p2 := g_y_p2.S hs
  replace g_m_p2 := g_m_p2.S hs
  replace g_y_p3 := g_y_p3.S hs
  replace g_m_p3 := g_m_p3.S hs
  replace g_y_p4 := g_y_p4.S hs
  replace g_m_p4 := g_m_p4.S hs
  replace g_qrg9 := g_qrg9.S hs
  replace g_y_ls := g_y_ls.S hs
  replace g_m_rl := g_m_rl.S hs
  refine lv_pop hx hb dL_law_1057 rfl ?_
  refine lv_aload_n hx hb dL_law_1058 rfl (lv_at hl 1 rfl) ?_
  refine lv_aload_n hx hb dL_law_1059 rfl (lv_at hl 3 rfl) ?_
  refine lv_iload_n hx hb dL_law_1060 rfl (lv_at hl 0 rfl) ?_
  refine lv_iconst (v := 1) hx hb dL_law_1061 ?o27 ?_
  case o27 => decide
  refine lv_iadd hx hb dL_law_1062 ?_
  refine lv_topi (fun x_668 ex_668 => ?_)
  have zx_668 : x_668.toInt = i.toInt + 1 := ?o28
  case o28 =>
    rw [ex_668]
    refine i32_add rfl ?o29 ?o30 ?o31
    case o29 => decide
    case o30 => omega
    case o31 => omega
  obtain rfl : x_659 = x_668 := ex_659.trans ex_668.symm
  refine va_sld hx hb hX hbl hbA hW.2.2.2.1 (vp_in_iff.mpr ⟨?o32, ?o33⟩) dL_law_1063 ?_
  case o32 => omega
  case o33 => omega
  refine lv_topi (fun x_669 ex_669 => ?_)
  obtain rfl : x_660 = x_669 := ex_660.trans ex_669.symm
  refine lv_aload_n hx hb dL_law_1064 rfl (lv_at hl 3 rfl) ?_
  refine lv_iload_n hx hb dL_law_1065 rfl (lv_at hl 0 rfl) ?_
  refine lv_iconst (v := 2) hx hb dL_law_1066 ?o34 ?_
  case o34 => decide
  refine lv_iadd hx hb dL_law_1067 ?_
  refine lv_topi (fun x_670 ex_670 => ?_)
  have zx_670 : x_670.toInt = i.toInt + 2 := ?o35
  case o35 =>
    rw [ex_670]
    refine i32_add rfl ?o36 ?o37 ?o38
    case o36 => decide
    case o37 => omega
    case o38 => omega
  obtain rfl : x_661 = x_670 := ex_661.trans ex_670.symm
  refine va_sld hx hb hX hbl hbA hW.2.2.2.1 (vp_in_iff.mpr ⟨?o39, ?o40⟩) dL_law_1068 ?_
  case o39 => omega
  case o40 => omega
  refine lv_topi (fun x_671 ex_671 => ?_)
  obtain rfl : x_662 = x_671 := ex_662.trans ex_671.symm
  have hTo := hT
  refine hx_goi (hx_runV (As := [.int x_660, .int x_662]) (rest := []) ⟨hx, hb, hml, hown, hts⟩ hW gm tt_10 (T := TX10) (N := 98) rfl (t_X10_claim_v l dC dI dA L_663 h_664 H.size am x_660 x_662 hT gm m_by g_m_by f_m_by m_aga g_m_aga f_m_aga m_sum g_m_sum f_m_sum m_fil g_m_fil f_m_fil mt g_mt f_mt m_jud g_m_jud f_m_jud m_be g_m_be f_m_be m_ord g_m_ord f_m_ord m_wkl g_m_wkl f_m_wkl m_owd g_m_owd f_m_owd ml g_ml f_ml m_szd g_m_szd f_m_szd F_by n_by F_aga n_aga F_sum n_sum F_fil n_fil F_mt n_mt F_jud n_jud F_be n_be F_ord n_ord F_wkl n_wkl F_owd n_owd F_ml n_ml F_szd n_szd c0 f_m_claims) (cwV 2 hts (hx_gV kw_1669 kw_1666 kw_1667 kw_1668 kw_103) rfl rfl rfl (by decide +kernel) ⟨Nat.le_of_ble_eq_true rfl, Nat.le_of_ble_eq_true rfl⟩) rfl hl.1 rfl (Nat.le_of_ble_eq_true rfl) dL_law_1069 ⟨(show CC + 0 + 0 ≤ 600000 from ?o41), (show SS + 0 + 0 ≤ 7302250 from ?o42)⟩) hW (fun r_674 L_672 h_673 H locs p_675 hW => ?_)
  case o41 => omega
  case o42 => omega
  obtain ⟨hr_676, hT, hs⟩ := p_675
  replace hT : hx_T T_tb L_672 h_673 := hT
  replace hs : hx_S T_tb [] L_663 h_664 L_672 h_673 := hs
  replace f_qa := (hs.o gx trivial rfl).2.trans f_qa
  replace f_qp := (hs.o gx trivial rfl).2.trans f_qp
  replace f_qc := (hs.o gx trivial rfl).2.trans f_qc
  replace f_qh := (hs.o gx trivial rfl).2.trans f_qh
  replace f_qw := (hs.o gx trivial rfl).2.trans f_qw
  replace f_ql := (hs.o g_qw trivial rfl).2.trans f_ql
  replace f_m_now := (hs.o gm trivial rfl).1.trans f_m_now
  replace f_m_persons := (hs.o gm trivial rfl).1.trans f_m_persons
  replace f_m_claims := (hs.o gm trivial rfl).1.trans f_m_claims
  replace f_m_taped := (hs.o gm trivial rfl).1.trans f_m_taped
  replace f_m_acts := (hs.o gm trivial rfl).1.trans f_m_acts
  replace f_m_heardMany := (hs.o gm trivial rfl).1.trans f_m_heardMany
  replace f_m_lines := (hs.o gm trivial rfl).1.trans f_m_lines
  replace f_m_listed := (hs.o gm trivial rfl).1.trans f_m_listed
  replace f_m_walkedMany := (hs.o gm trivial rfl).1.trans f_m_walkedMany
  replace f_m_payments := (hs.o gm trivial rfl).1.trans f_m_payments
  replace f_x_now := (hs.o gx trivial rfl).1.trans f_x_now
  replace f_x_personCount := (hs.o gx trivial rfl).1.trans f_x_personCount
  replace f_x_claimCount := (hs.o gx trivial rfl).1.trans f_x_claimCount
  replace f_x_tapeLength := (hs.o gx trivial rfl).1.trans f_x_tapeLength
  replace f_x_actCount := (hs.o gx trivial rfl).1.trans f_x_actCount
  replace f_x_heardCount := (hs.o gx trivial rfl).1.trans f_x_heardCount
  replace f_mw := (hs.o gm trivial rfl).2.trans f_mw
  replace f_mr := (hs.o gm trivial rfl).2.trans f_mr
  replace f_mp := (hs.o gm trivial rfl).2.trans f_mp
  replace f_mn := (hs.o gm trivial rfl).2.trans f_mn
  replace f_ml := (hs.o gm trivial rfl).2.trans f_ml
  replace f_mh := (hs.o gm trivial rfl).2.trans f_mh
  replace f_mt := (hs.o gm trivial rfl).2.trans f_mt
  replace f_m_fou := (hs.o gm trivial rfl).2.trans f_m_fou
  replace f_qo_ln := (hs.o gx trivial rfl).2.trans f_qo_ln
  replace f_o_ln := (hs.o g_qo_ln trivial rfl).1.trans f_o_ln
  replace f_o_lsd := (hs.o g_qw trivial rfl).1.trans f_o_lsd
  replace f_o_wkm := (hs.o g_qw trivial rfl).1.trans f_o_wkm
  replace f_qo_py := (hs.o gx trivial rfl).2.trans f_qo_py
  replace f_o_py := (hs.o g_qo_py trivial rfl).1.trans f_o_py
  replace f_b_of := (hs.o g_qo_ln trivial rfl).2.trans f_b_of
  replace f_m_of := (hs.o gm trivial rfl).2.trans f_m_of
  replace f_b_wf := (hs.o g_qo_ln trivial rfl).2.trans f_b_wf
  replace f_m_wf := (hs.o gm trivial rfl).2.trans f_m_wf
  replace f_b_df := (hs.o g_qo_ln trivial rfl).2.trans f_b_df
  replace f_m_df := (hs.o gm trivial rfl).2.trans f_m_df
  replace f_b_kf := (hs.o g_qo_ln trivial rfl).2.trans f_b_kf
  replace f_m_kf := (hs.o gm trivial rfl).2.trans f_m_kf
  replace f_b_sf := (hs.o g_qo_ln trivial rfl).2.trans f_b_sf
  replace f_m_sf := (hs.o gm trivial rfl).2.trans f_m_sf
  replace f_b_bf := (hs.o g_qo_ln trivial rfl).2.trans f_b_bf
  replace f_m_lst := (hs.o gm trivial rfl).2.trans f_m_lst
  replace f_qtp := (hs.o gx trivial rfl).2.trans f_qtp
  replace f_m_tp := (hs.o gm trivial rfl).2.trans f_m_tp
  replace f_m_dead := (hs.o gm trivial rfl).2.trans f_m_dead
  replace f_m_isj := (hs.o gm trivial rfl).2.trans f_m_isj
  replace f_m_dox := (hs.o gm trivial rfl).2.trans f_m_dox
  replace f_m_doy := (hs.o gm trivial rfl).2.trans f_m_doy
  replace f_qlt := (hs.o g_qw trivial rfl).2.trans f_qlt
  replace f_qlf := (hs.o g_qw trivial rfl).2.trans f_qlf
  replace f_m_wkd := (hs.o gm trivial rfl).2.trans f_m_wkd
  replace f_m_aga := (hs.o gm trivial rfl).2.trans f_m_aga
  replace f_qwo := (hs.o gx trivial rfl).2.trans f_qwo
  replace f_m_ad := (hs.o gm trivial rfl).2.trans f_m_ad
  replace f_m_by := (hs.o gm trivial rfl).2.trans f_m_by
  replace f_m_ho := (hs.o gm trivial rfl).2.trans f_m_ho
  replace f_m_fc := (hs.o gm trivial rfl).2.trans f_m_fc
  replace f_m_nt := (hs.o gm trivial rfl).2.trans f_m_nt
  replace f_m_wt := (hs.o gm trivial rfl).2.trans f_m_wt
  replace f_m_be := (hs.o gm trivial rfl).2.trans f_m_be
  replace f_m_bor := (hs.o gm trivial rfl).2.trans f_m_bor
  replace f_m_kin := (hs.o gm trivial rfl).2.trans f_m_kin
  replace f_m_sum := (hs.o gm trivial rfl).2.trans f_m_sum
  replace f_m_fro := (hs.o gm trivial rfl).2.trans f_m_fro
  replace f_m_fil := (hs.o gm trivial rfl).2.trans f_m_fil
  replace f_m_jud := (hs.o gm trivial rfl).2.trans f_m_jud
  replace f_m_ear := (hs.o gm trivial rfl).2.trans f_m_ear
  replace f_m_hds := (hs.o gm trivial rfl).2.trans f_m_hds
  replace f_m_ord := (hs.o gm trivial rfl).2.trans f_m_ord
  replace f_m_wkl := (hs.o gm trivial rfl).2.trans f_m_wkl
  replace f_m_owd := (hs.o gm trivial rfl).2.trans f_m_owd
  replace f_m_gds := (hs.o gm trivial rfl).2.trans f_m_gds
  replace f_m_szd := (hs.o gm trivial rfl).2.trans f_m_szd
  replace f_m_srv := (hs.o gm trivial rfl).2.trans f_m_srv
  replace f_y_p0 := (hs.o g_qo_py trivial rfl).2.trans f_y_p0
  replace f_m_p0 := (hs.o gm trivial rfl).2.trans f_m_p0
  replace f_y_p1 := (hs.o g_qo_py trivial rfl).2.trans f_y_p1
  replace f_m_p1 := (hs.o gm trivial rfl).2.trans f_m_p1
  replace f_y_p2 := (hs.o g_qo_py trivial rfl).2.trans f_y_p2
  replace f_m_p2 := (hs.o gm trivial rfl).2.trans f_m_p2
  replace f_y_p3 := (hs.o g_qo_py trivial rfl).2.trans f_y_p3
  replace f_m_p3 := (hs.o gm trivial rfl).2.trans f_m_p3
  replace f_y_p4 := (hs.o g_qo_py trivial rfl).2.trans f_y_p4
  replace f_m_p4 := (hs.o gm trivial rfl).2.trans f_m_p4
  replace f_qrg9 := (hs.o gx trivial rfl).2.trans f_qrg9
  replace f_y_ls := (hs.o g_qrg9 trivial rfl).2.trans f_y_ls
  replace f_m_rl := (hs.o gm trivial rfl).2.trans f_m_rl
  replace ffv_655 := (hs.o g_qrg9 trivial rfl).1.trans ffv_655
  replace ffv_656 := (hs.o gm trivial rfl).1.trans ffv_656
  replace ffv_657 := (hs.o gm trivial rfl).1.trans ffv_657
  replace pf_qa : ∀ j : Nat, (j : Int) < (h_673.2.1 ax 6).toInt → h_673.2.2 qa j ≠ none := by
    intro j hj; rw [(hs.o gx trivial rfl).1] at hj; rw [(hs.a g_qa rfl j).2]; exact pf_qa j hj
  replace pf_qp : ∀ j : Nat, (j : Int) < (h_673.2.1 ax 8).toInt → h_673.2.2 qp j ≠ none := by
    intro j hj; rw [(hs.o gx trivial rfl).1] at hj; rw [(hs.a g_qp rfl j).2]; exact pf_qp j hj
  replace pf_qc : ∀ j : Nat, (j : Int) < (h_673.2.1 ax 11).toInt → h_673.2.2 qc j ≠ none := by
    intro j hj; rw [(hs.o gx trivial rfl).1] at hj; rw [(hs.a g_qc rfl j).2]; exact pf_qc j hj
  replace pf_qh : ∀ j : Nat, (j : Int) < (h_673.2.1 ax 13).toInt → h_673.2.2 qh j ≠ none := by
    intro j hj; rw [(hs.o gx trivial rfl).1] at hj; rw [(hs.a g_qh rfl j).2]; exact pf_qh j hj
  replace pf_ql : ∀ j : Nat, (j : Int) < (h_673.2.1 qw 0).toInt → h_673.2.2 ql j ≠ none := by
    intro j hj; rw [(hs.o g_qw trivial rfl).1] at hj; rw [(hs.a g_ql rfl j).2]; exact pf_ql j hj
  replace cl_lst : hx_col 8 h_673 ql 0 = c_lst := (hx_col_S hs hTo g_ql tt_40 tt_2 rfl rfl).trans cl_lst
  replace cl_dead : hx_col 40 h_673 qp 7 = c_dead := (hx_col_S hs hTo g_qp tt_44 tt_4 rfl rfl).trans cl_dead
  replace cl_isj : hx_col 40 h_673 qp 8 = c_isj := (hx_col_S hs hTo g_qp tt_44 tt_4 rfl rfl).trans cl_isj
  replace cl_dox : hx_col 40 h_673 qp 5 = c_dox := (hx_col_S hs hTo g_qp tt_44 tt_4 rfl rfl).trans cl_dox
  replace cl_doy : hx_col 40 h_673 qp 6 = c_doy := (hx_col_S hs hTo g_qp tt_44 tt_4 rfl rfl).trans cl_doy
  replace cl_fou : hx_col 100 h_673 qc 10 = c_fou := (hx_col_S hs hTo g_qc tt_45 tt_2 rfl rfl).trans cl_fou
  replace cl_tri : hx_col 100 h_673 qc 9 = c_tri := (hx_col_S hs hTo g_qc tt_45 tt_2 rfl rfl).trans cl_tri
  replace cl_bor : hx_col 40 h_673 qp 1 = F_bor := (hx_col_S hs hTo g_qp tt_44 tt_4 rfl rfl).trans cl_bor
  replace cl_kin : hx_col 40 h_673 qp 2 = F_kin := (hx_col_S hs hTo g_qp tt_44 tt_4 rfl rfl).trans cl_kin
  replace cl_sum : hx_col 100 h_673 qc 6 = F_sum := (hx_col_S hs hTo g_qc tt_45 tt_2 rfl rfl).trans cl_sum
  replace cl_fro : hx_col 100 h_673 qc 7 = F_fro := (hx_col_S hs hTo g_qc tt_45 tt_2 rfl rfl).trans cl_fro
  replace cl_fil : hx_col 100 h_673 qc 8 = F_fil := (hx_col_S hs hTo g_qc tt_45 tt_2 rfl rfl).trans cl_fil
  replace cl_hea : hx_col 100 h_673 qc 11 = F_mh := (hx_col_S hs hTo g_qc tt_45 tt_2 rfl rfl).trans cl_hea
  replace cl_jud : hx_col 100 h_673 qc 12 = F_jud := (hx_col_S hs hTo g_qc tt_45 tt_2 rfl rfl).trans cl_jud
  replace cl_ear : hx_col 40 h_673 qp 3 = F_ear := (hx_col_S hs hTo g_qp tt_44 tt_4 rfl rfl).trans cl_ear
  replace cl_hds : hx_col 40 h_673 qp 4 = F_hds := (hx_col_S hs hTo g_qp tt_44 tt_4 rfl rfl).trans cl_hds
  replace cl_ord : hx_col 100 h_673 qc 13 = F_ord := (hx_col_S hs hTo g_qc tt_45 tt_2 rfl rfl).trans cl_ord
  replace cl_wkl : hx_col 100 h_673 qc 14 = F_wkl := (hx_col_S hs hTo g_qc tt_45 tt_2 rfl rfl).trans cl_wkl
  replace cl_owd : hx_col 100 h_673 qc 15 = F_owd := (hx_col_S hs hTo g_qc tt_45 tt_2 rfl rfl).trans cl_owd
  replace cl_gds : hx_col 100 h_673 qc 17 = F_gds := (hx_col_S hs hTo g_qc tt_45 tt_2 rfl rfl).trans cl_gds
  replace cl_szd : hx_col 100 h_673 qc 16 = F_szd := (hx_col_S hs hTo g_qc tt_45 tt_2 rfl rfl).trans cl_szd
  replace cl_srv : hx_col 100 h_673 qc 18 = F_srv := (hx_col_S hs hTo g_qc tt_45 tt_2 rfl rfl).trans cl_srv
  replace nu_qp : hx_num 40 h_673 qp 0 (np.toInt) := hx_num_S hs hTo g_qp tt_44 tt_4 rfl rfl nu_qp
  replace nu_qc : hx_num 100 h_673 qc 0 (c0.toInt) := hx_num_S hs hTo g_qc tt_45 tt_2 rfl rfl nu_qc
  replace sb_list : hx_LQ 8 100 h_673 ql qc := hx_LQ_S hs g_ql g_qc rfl rfl sb_list
  replace hDF : hw_DF h_673 qc qp 2 F_aga c0.toInt := hw_DF_S hs hTo g_qc g_qp tt_45 tt_2 rfl rfl rfl hDF
  replace hRA9 : hv_RA h_673 qa qwo a0.toInt A9 := hv_RA_S hs hTo g_qa g_qwo tt_43 tt_0 rfl rfl rfl rfl rfl rfl ?o43 hRA9
  case o43 => omega
  replace hDP : hw_DF h_673 qc qp 1 F_by c0.toInt := hw_DF_S hs hTo g_qc g_qp tt_45 tt_2 rfl rfl rfl hDP
  replace hAC9 : hv_AC h_673 qc F_ml c0.toInt A9 := hv_AC_S hs hTo g_qc tt_45 tt_2 rfl tt_0 rfl rfl rfl rfl rfl rfl rfl hAC9
  replace hFX : hv_FX 8 4 h_673 qc cF9L c0.toInt := hv_FX_S hs hTo g_qc tt_45 tt_2 rfl rfl rfl rfl hFX
  replace hBX : hv_FX 3 5 h_673 qc F_be c0.toInt := hv_FX_S hs hTo g_qc tt_45 tt_2 rfl rfl rfl rfl hBX
  replace hHL : hv_HL h_673 qh qc F_ho m0.toInt c0.toInt := hv_HL_S hs g_qh g_qc rfl rfl hHL
  replace n_mw : h_673.2.1 mw = F_mw := (funext fun j => (hs.a g_mw rfl j).1).trans n_mw
  replace n_mr : h_673.2.1 mr = F_mr := (funext fun j => (hs.a g_mr rfl j).1).trans n_mr
  replace n_mp : h_673.2.1 mp = F_mp := (funext fun j => (hs.a g_mp rfl j).1).trans n_mp
  replace n_mn : h_673.2.1 mn = F_mn := (funext fun j => (hs.a g_mn rfl j).1).trans n_mn
  replace n_ml : h_673.2.1 ml = F_ml := (funext fun j => (hs.a g_ml rfl j).1).trans n_ml
  replace n_mh : h_673.2.1 mh = F_mh := (funext fun j => (hs.a g_mh rfl j).1).trans n_mh
  replace n_mt : h_673.2.1 mt = F_mt := (funext fun j => (hs.a g_mt rfl j).1).trans n_mt
  replace n_m_fou : h_673.2.1 m_fou = F_m_fou := (funext fun j => (hs.a g_m_fou rfl j).1).trans n_m_fou
  replace n_b_of : h_673.2.1 b_of = B_of := (funext fun j => (hs.a g_b_of rfl j).1).trans n_b_of
  replace n_m_of : h_673.2.1 m_of = F_of := (funext fun j => (hs.a g_m_of rfl j).1).trans n_m_of
  replace n_b_wf : h_673.2.1 b_wf = B_wf := (funext fun j => (hs.a g_b_wf rfl j).1).trans n_b_wf
  replace n_m_wf : h_673.2.1 m_wf = F_wf := (funext fun j => (hs.a g_m_wf rfl j).1).trans n_m_wf
  replace n_b_df : h_673.2.1 b_df = B_df := (funext fun j => (hs.a g_b_df rfl j).1).trans n_b_df
  replace n_m_df : h_673.2.1 m_df = F_df := (funext fun j => (hs.a g_m_df rfl j).1).trans n_m_df
  replace n_b_kf : h_673.2.1 b_kf = B_kf := (funext fun j => (hs.a g_b_kf rfl j).1).trans n_b_kf
  replace n_m_kf : h_673.2.1 m_kf = F_kf := (funext fun j => (hs.a g_m_kf rfl j).1).trans n_m_kf
  replace n_b_sf : h_673.2.1 b_sf = B_sf := (funext fun j => (hs.a g_b_sf rfl j).1).trans n_b_sf
  replace n_m_sf : h_673.2.1 m_sf = F_sf := (funext fun j => (hs.a g_m_sf rfl j).1).trans n_m_sf
  replace n_b_bf : h_673.2.1 b_bf = bfL := (funext fun j => (hs.a g_b_bf rfl j).1).trans n_b_bf
  replace n_lst : h_673.2.1 m_lst = F_lst := (funext fun j => (hs.a g_m_lst rfl j).1).trans n_lst
  replace n_tp : h_673.2.1 m_tp = F_tp := (funext fun j => (hs.a g_m_tp rfl j).1).trans n_tp
  replace n_qtp : h_673.2.1 qtp = F_tp := (funext fun j => (hs.a g_qtp rfl j).1).trans n_qtp
  replace n_dead : h_673.2.1 m_dead = F_dead := (funext fun j => (hs.a g_m_dead rfl j).1).trans n_dead
  replace n_isj : h_673.2.1 m_isj = F_isj := (funext fun j => (hs.a g_m_isj rfl j).1).trans n_isj
  replace n_dox : h_673.2.1 m_dox = F_dox := (funext fun j => (hs.a g_m_dox rfl j).1).trans n_dox
  replace n_doy : h_673.2.1 m_doy = F_doy := (funext fun j => (hs.a g_m_doy rfl j).1).trans n_doy
  replace n_qlt : h_673.2.1 qlt = F_qlt := (funext fun j => (hs.a g_qlt rfl j).1).trans n_qlt
  replace n_m_wkd : h_673.2.1 m_wkd = F_m_wkd := (funext fun j => (hs.a g_m_wkd rfl j).1).trans n_m_wkd
  replace n_aga : h_673.2.1 m_aga = F_aga := (funext fun j => (hs.a g_m_aga rfl j).1).trans n_aga
  replace n_ad : h_673.2.1 m_ad = F_ad := (funext fun j => (hs.a g_m_ad rfl j).1).trans n_ad
  replace n_by : h_673.2.1 m_by = F_by := (funext fun j => (hs.a g_m_by rfl j).1).trans n_by
  replace n_ho : h_673.2.1 m_ho = F_ho := (funext fun j => (hs.a g_m_ho rfl j).1).trans n_ho
  replace n_fc : h_673.2.1 m_fc = F_fc := (funext fun j => (hs.a g_m_fc rfl j).1).trans n_fc
  replace n_nt : h_673.2.1 m_nt = F_nt := (funext fun j => (hs.a g_m_nt rfl j).1).trans n_nt
  replace n_wt : h_673.2.1 m_wt = F_wt := (funext fun j => (hs.a g_m_wt rfl j).1).trans n_wt
  replace n_be : h_673.2.1 m_be = F_be := (funext fun j => (hs.a g_m_be rfl j).1).trans n_be
  replace n_bor : h_673.2.1 m_bor = F_bor := (funext fun j => (hs.a g_m_bor rfl j).1).trans n_bor
  replace n_kin : h_673.2.1 m_kin = F_kin := (funext fun j => (hs.a g_m_kin rfl j).1).trans n_kin
  replace n_sum : h_673.2.1 m_sum = F_sum := (funext fun j => (hs.a g_m_sum rfl j).1).trans n_sum
  replace n_fro : h_673.2.1 m_fro = F_fro := (funext fun j => (hs.a g_m_fro rfl j).1).trans n_fro
  replace n_fil : h_673.2.1 m_fil = F_fil := (funext fun j => (hs.a g_m_fil rfl j).1).trans n_fil
  replace n_jud : h_673.2.1 m_jud = F_jud := (funext fun j => (hs.a g_m_jud rfl j).1).trans n_jud
  replace n_ear : h_673.2.1 m_ear = F_ear := (funext fun j => (hs.a g_m_ear rfl j).1).trans n_ear
  replace n_hds : h_673.2.1 m_hds = F_hds := (funext fun j => (hs.a g_m_hds rfl j).1).trans n_hds
  replace n_ord : h_673.2.1 m_ord = F_ord := (funext fun j => (hs.a g_m_ord rfl j).1).trans n_ord
  replace n_wkl : h_673.2.1 m_wkl = F_wkl := (funext fun j => (hs.a g_m_wkl rfl j).1).trans n_wkl
  replace n_owd : h_673.2.1 m_owd = F_owd := (funext fun j => (hs.a g_m_owd rfl j).1).trans n_owd
  replace n_gds : h_673.2.1 m_gds = F_gds := (funext fun j => (hs.a g_m_gds rfl j).1).trans n_gds
  replace n_szd : h_673.2.1 m_szd = F_szd := (funext fun j => (hs.a g_m_szd rfl j).1).trans n_szd
  replace n_srv : h_673.2.1 m_srv = F_srv := (funext fun j => (hs.a g_m_srv rfl j).1).trans n_srv
  replace n_p0 : h_673.2.1 m_p0 = F_p0 := (funext fun j => (hs.a g_m_p0 rfl j).1).trans n_p0
  replace n_y_p0 : h_673.2.1 y_p0 = F_p0 := (funext fun j => (hs.a g_y_p0 rfl j).1).trans n_y_p0
  replace n_p1 : h_673.2.1 m_p1 = F_p1 := (funext fun j => (hs.a g_m_p1 rfl j).1).trans n_p1
  replace n_y_p1 : h_673.2.1 y_p1 = F_p1 := (funext fun j => (hs.a g_y_p1 rfl j).1).trans n_y_p1
  replace n_p2 : h_673.2.1 m_p2 = F_p2 := (funext fun j => (hs.a g_m_p2 rfl j).1).trans n_p2
  replace n_y_p2 : h_673.2.1 y_p2 = F_p2 := (funext fun j => (hs.a g_y_p2 rfl j).1).trans n_y_p2
  replace n_p3 : h_673.2.1 m_p3 = F_p3 := (funext fun j => (hs.a g_m_p3 rfl j).1).trans n_p3
  replace n_y_p3 : h_673.2.1 y_p3 = F_p3 := (funext fun j => (hs.a g_y_p3 rfl j).1).trans n_y_p3
  replace n_p4 : h_673.2.1 m_p4 = F_p4 := (funext fun j => (hs.a g_m_p4 rfl j).1).trans n_p4
  replace n_y_p4 : h_673.2.1 y_p4 = F_p4 := (funext fun j => (hs.a g_y_p4 rfl j).1).trans n_y_p4
  replace n_y_ls : h_673.2.1 y_ls = F_y_ls := (funext fun j => (hs.a g_y_ls rfl j).1).trans n_y_ls
  replace n_m_rl : h_673.2.1 m_rl = F_m_rl := (funext fun j => (hs.a g_m_rl rfl j).1).trans n_m_rl
  replace gx := gx.S hs
  replace gm := gm.S hs
  replace g_qa := g_qa.S hs
  replace g_qp := g_qp.S hs
  replace g_qc := g_qc.S hs
  replace g_qh := g_qh.S hs
  replace g_qw := g_qw.S hs
  replace g_ql := g_ql.S hs
  replace g_mw := g_mw.S hs
  replace g_mr := g_mr.S hs
  replace g_mp := g_mp.S hs
  replace g_mn := g_mn.S hs
  replace g_ml := g_ml.S hs
  replace g_mh := g_mh.S hs
  replace g_mt := g_mt.S hs
  replace g_m_fou := g_m_fou.S hs
  replace g_qo_ln := g_qo_ln.S hs
  replace g_qo_py := g_qo_py.S hs
  replace g_b_of := g_b_of.S hs
  replace g_m_of := g_m_of.S hs
  replace g_b_wf := g_b_wf.S hs
  replace g_m_wf := g_m_wf.S hs
  replace g_b_df := g_b_df.S hs
  replace g_m_df := g_m_df.S hs
  replace g_b_kf := g_b_kf.S hs
  replace g_m_kf := g_m_kf.S hs
  replace g_b_sf := g_b_sf.S hs
  replace g_m_sf := g_m_sf.S hs
  replace g_b_bf := g_b_bf.S hs
  replace g_m_lst := g_m_lst.S hs
  replace g_qtp := g_qtp.S hs
  replace g_m_tp := g_m_tp.S hs
  replace g_m_dead := g_m_dead.S hs
  replace g_m_isj := g_m_isj.S hs
  replace g_m_dox := g_m_dox.S hs
  replace g_m_doy := g_m_doy.S hs
  replace g_qlt := g_qlt.S hs
  replace g_qlf := g_qlf.S hs
  replace g_m_wkd := g_m_wkd.S hs
  replace g_m_aga := g_m_aga.S hs
  replace g_qwo := g_qwo.S hs
  replace g_m_ad := g_m_ad.S hs
  replace g_m_by := g_m_by.S hs
  replace g_m_ho := g_m_ho.S hs
  replace g_m_fc := g_m_fc.S hs
  replace g_m_nt := g_m_nt.S hs
  replace g_m_wt := g_m_wt.S hs
  replace g_m_be := g_m_be.S hs
  replace g_m_bor := g_m_bor.S hs
  replace g_m_kin := g_m_kin.S hs
  replace g_m_sum := g_m_sum.S hs
  replace g_m_fro := g_m_fro.S hs
  replace g_m_fil := g_m_fil.S hs
  replace g_m_jud := g_m_jud.S hs
  replace g_m_ear := g_m_ear.S hs
  replace g_m_hds := g_m_hds.S hs
  replace g_m_ord := g_m_ord.S hs
  replace g_m_wkl := g_m_wkl.S hs
  replace g_m_owd := g_m_owd.S hs
  replace g_m_gds := g_m_gds.S hs
  replace g_m_szd := g_m_szd.S hs
  replace g_m_srv := g_m_srv.S hs
  replace g_y_p0 := g_y_p0.S hs
  replace g_m_p0 := g_m_p0.S hs
  replace g_y_p1 := g_y_p1.S hs
  replace g_m_p1 := g_m_p1.S hs
  replace g_y_p2 := g_y_p2.S hs
  replace g_m_p2 := g_m_p2.S hs
  replace g_y_p3 := g_y_p3.S hs
  replace g_m_p3 := g_m_p3.S hs
  replace g_y_p4 := g_y_p4.S hs
  replace g_m_p4 := g_m_p4.S hs
  replace g_qrg9 := g_qrg9.S hs
  replace g_y_ls := g_y_ls.S hs
  replace g_m_rl := g_m_rl.S hs
  refine lv_pop hx hb dL_law_1072 rfl ?_
  refine lv_goto (tgt := 1379) hx hb dL_law_1073 ?o44 ?_
  case o44 => decide
  have heq := hz_LS_eq hr_667 hr_676 (fun h0 h1 k hk => by rw [eq_tri _ (hz_i100 h0 h1 (by omega))])
  refine W.widen (k := CC + 3) (n := SS + 179) ?o45 ?o46 ?_
  case o45 => omega
  case o46 => omega
  refine kk L_672 h_673 H locs ls hW ⟨hT, gx, gm, ⟨f_x_now.trans f_m_now.symm, f_x_personCount.trans f_m_persons.symm, f_x_claimCount.trans f_m_claims.symm, f_x_tapeLength.trans f_m_taped.symm, f_x_actCount.trans f_m_acts.symm, f_x_heardCount.trans f_m_heardMany.symm, hx_ob f_qo_ln (f_o_ln.trans f_m_lines.symm), hx_ob f_qw (f_o_lsd.trans f_m_listed.symm), hx_ob f_qw (f_o_wkm.trans f_m_walkedMany.symm), hx_ob f_qo_py (f_o_py.trans f_m_payments.symm), hx_ob f_qp ?o47, hx_ob f_qc ?o48, (fun b a r hb ha hr => ?o49), (fun b a r hb ha hr => ?o50), (fun b a r hb ha hr => ?o51), (fun b a r hb ha hr => ?o52), (fun b a r hb ha hr => ?o53), (fun b a r hb ha hr => ?o54), (fun w q c hw hq hc => ?o55), (fun w q r hw hq hr => ?o56), (fun w q r hw hq hr => ?o57), (fun c q a hc hq ha => ?o58), (fun q r hq hr => ?o59), (fun q w a b c d e p hq hw ha hb hc hd he hp => ?o60), (fun c q a hc hq ha => ?o61), (fun q c a hq hc ha => ?o62), (fun a b ha hb => ?o63), (fun c a b d e f hc ha hb hd he hf => ?o64), (fun c a hc ha => ?o65), hx_ob2 f_qp f_m_bor (cl_bor.trans n_bor.symm), hx_ob2 f_qp f_m_kin (cl_kin.trans n_kin.symm), hx_ob2 f_qc f_m_sum (cl_sum.trans n_sum.symm), hx_ob2 f_qc f_m_fro (cl_fro.trans n_fro.symm), hx_ob2 f_qc f_m_fil (cl_fil.trans n_fil.symm), hx_ob2 f_qc f_mh (cl_hea.trans n_mh.symm), hx_ob2 f_qc f_m_jud (cl_jud.trans n_jud.symm), hx_ob2 f_qp f_m_ear (cl_ear.trans n_ear.symm), hx_ob2 f_qp f_m_hds (cl_hds.trans n_hds.symm), hx_ob2 f_qc f_m_ord (cl_ord.trans n_ord.symm), hx_ob2 f_qc f_m_wkl (cl_wkl.trans n_wkl.symm), hx_ob2 f_qc f_m_owd (cl_owd.trans n_owd.symm), hx_ob2 f_qc f_m_gds (cl_gds.trans n_gds.symm), hx_ob2 f_qc f_m_szd (cl_szd.trans n_szd.symm), hx_ob2 f_qc f_m_srv (cl_srv.trans n_srv.symm), (fun p q r hp hq hr => ?o66), (fun p q r hp hq hr => ?o67), (fun p q r hp hq hr => ?o68), (fun p q r hp hq hr => ?o69), (fun p q r hp hq hr => ?o70), (fun p hp => ?o71), (fun p q r hp hq hr => ?o72), hx_ob2 f_qp f_m_dead ?o73, hx_ob2 f_qp f_m_isj ?o74, hx_ob2 f_qp f_m_dox ?o75, hx_ob2 f_qp f_m_doy ?o76, hx_ob2 f_qc f_m_fou ?o77, hx_ob2 f_qc f_mt ?o78, trivial⟩, ⟨hx_ob f_qa pf_qa, hx_ob f_qp pf_qp, hx_ob f_qc pf_qc, hx_ob f_qh pf_qh, (fun w q hw hq => ?o79)⟩, ⟨hx_ob f_mw ?o80, hx_ob f_mr ?o81, hx_ob2 f_mp f_mn ?o82, hx_ob f_ml ?o83, hx_ob f_mh ?o84, hx_ob f_mt ?o85, hx_ob2 f_mh f_m_fou ?o87⟩⟩ hl
  case o47 =>
    rw [f_x_personCount]
    exact nu_qp
  case o48 =>
    rw [f_x_claimCount]
    exact nu_qc
  case o49 =>
    obtain rfl : qo_ln = b := Option.some.inj (f_qo_ln.symm.trans hb)
    obtain rfl : b_of = a := Option.some.inj (f_b_of.symm.trans ha)
    obtain rfl : m_of = r := Option.some.inj (f_m_of.symm.trans hr)
    rw [n_b_of, n_m_of, f_o_ln]
    exact eb_of
  case o50 =>
    obtain rfl : qo_ln = b := Option.some.inj (f_qo_ln.symm.trans hb)
    obtain rfl : b_wf = a := Option.some.inj (f_b_wf.symm.trans ha)
    obtain rfl : m_wf = r := Option.some.inj (f_m_wf.symm.trans hr)
    rw [n_b_wf, n_m_wf, f_o_ln]
    exact eb_wf
  case o51 =>
    obtain rfl : qo_ln = b := Option.some.inj (f_qo_ln.symm.trans hb)
    obtain rfl : b_df = a := Option.some.inj (f_b_df.symm.trans ha)
    obtain rfl : m_df = r := Option.some.inj (f_m_df.symm.trans hr)
    rw [n_b_df, n_m_df, f_o_ln]
    exact eb_df
  case o52 =>
    obtain rfl : qo_ln = b := Option.some.inj (f_qo_ln.symm.trans hb)
    obtain rfl : b_kf = a := Option.some.inj (f_b_kf.symm.trans ha)
    obtain rfl : m_kf = r := Option.some.inj (f_m_kf.symm.trans hr)
    rw [n_b_kf, n_m_kf, f_o_ln]
    exact eb_kf
  case o53 =>
    obtain rfl : qo_ln = b := Option.some.inj (f_qo_ln.symm.trans hb)
    obtain rfl : b_sf = a := Option.some.inj (f_b_sf.symm.trans ha)
    obtain rfl : m_sf = r := Option.some.inj (f_m_sf.symm.trans hr)
    rw [n_b_sf, n_m_sf, f_o_ln]
    exact eb_sf
  case o54 =>
    obtain rfl : qo_ln = b := Option.some.inj (f_qo_ln.symm.trans hb)
    obtain rfl : b_df = a := Option.some.inj (f_b_df.symm.trans ha)
    obtain rfl : b_bf = r := Option.some.inj (f_b_bf.symm.trans hr)
    rw [n_b_df, n_b_bf, f_o_ln]
    exact ⟨hBD, hDY⟩
  case o55 =>
    obtain rfl : qw = w := Option.some.inj (f_qw.symm.trans hw)
    obtain rfl : ql = q := Option.some.inj (f_ql.symm.trans hq)
    obtain rfl : qc = c := Option.some.inj (f_qc.symm.trans hc)
    exact sb_list
  case o56 =>
    obtain rfl : qw = w := Option.some.inj (f_qw.symm.trans hw)
    obtain rfl : ql = q := Option.some.inj (f_ql.symm.trans hq)
    obtain rfl : m_lst = r := Option.some.inj (f_m_lst.symm.trans hr)
    rw [cl_lst, n_lst]
    exact eq_lst
  case o57 =>
    obtain rfl : qw = w := Option.some.inj (f_qw.symm.trans hw)
    obtain rfl : qlt = q := Option.some.inj (f_qlt.symm.trans hq)
    obtain rfl : m_wkd = r := Option.some.inj (f_m_wkd.symm.trans hr)
    rw [n_qlt, n_m_wkd, f_o_wkm]
    exact eb_wkd
  case o58 =>
    obtain rfl : qc = c := Option.some.inj (f_qc.symm.trans hc)
    obtain rfl : qp = q := Option.some.inj (f_qp.symm.trans hq)
    obtain rfl : m_aga = a := Option.some.inj (f_m_aga.symm.trans ha)
    rw [n_aga, f_x_claimCount]
    exact hw_DF_e hDF rfl rfl
  case o59 =>
    obtain rfl : qtp = q := Option.some.inj (f_qtp.symm.trans hq)
    obtain rfl : m_tp = r := Option.some.inj (f_m_tp.symm.trans hr)
    exact n_qtp.trans n_tp.symm
  case o60 =>
    obtain rfl : qa = q := Option.some.inj (f_qa.symm.trans hq)
    obtain rfl : qwo = w := Option.some.inj (f_qwo.symm.trans hw)
    obtain rfl : m_ad = a := Option.some.inj (f_m_ad.symm.trans ha)
    obtain rfl : mr = b := Option.some.inj (f_mr.symm.trans hb)
    obtain rfl : mn = c := Option.some.inj (f_mn.symm.trans hc)
    obtain rfl : mp = d := Option.some.inj (f_mp.symm.trans hd)
    obtain rfl : qc = e := Option.some.inj (f_qc.symm.trans he)
    obtain rfl : ml = p := Option.some.inj (f_ml.symm.trans hp)
    exact ⟨_, by rw [f_x_actCount]; exact hRA9, by rw [f_x_actCount, n_ad, n_mr, n_mn, n_mp]; exact hCA9, by rw [n_ml, f_x_claimCount]; exact hv_AC_e hAC9 rfl rfl rfl, hAB⟩
  case o61 =>
    obtain rfl : qc = c := Option.some.inj (f_qc.symm.trans hc)
    obtain rfl : qp = q := Option.some.inj (f_qp.symm.trans hq)
    obtain rfl : m_by = a := Option.some.inj (f_m_by.symm.trans ha)
    rw [n_by, f_x_claimCount]
    exact hw_DF_e hDP rfl rfl
  case o62 =>
    obtain rfl : qh = q := Option.some.inj (f_qh.symm.trans hq)
    obtain rfl : qc = c := Option.some.inj (f_qc.symm.trans hc)
    obtain rfl : m_ho = a := Option.some.inj (f_m_ho.symm.trans ha)
    rw [n_ho, f_x_heardCount, f_x_claimCount]
    exact hv_HL_e hHL rfl rfl rfl
  case o63 =>
    obtain rfl : m_ho = a := Option.some.inj (f_m_ho.symm.trans ha)
    obtain rfl : mh = b := Option.some.inj (f_mh.symm.trans hb)
    rw [n_ho, n_mh, f_m_heardMany, f_m_claims]
    exact hHO9
  case o64 =>
    obtain rfl : qc = c := Option.some.inj (f_qc.symm.trans hc)
    obtain rfl : m_fc = a := Option.some.inj (f_m_fc.symm.trans ha)
    obtain rfl : m_nt = b := Option.some.inj (f_m_nt.symm.trans hb)
    obtain rfl : m_wt = d := Option.some.inj (f_m_wt.symm.trans hd)
    obtain rfl : m_sum = e := Option.some.inj (f_m_sum.symm.trans he)
    obtain rfl : mh = f := Option.some.inj (f_mh.symm.trans hf)
    exact ⟨cF9L, by rw [f_x_claimCount]; exact hFX, by rw [n_fc, n_nt, n_wt, n_sum, n_mh, f_x_claimCount]; exact hFR9⟩
  case o65 =>
    obtain rfl : qc = c := Option.some.inj (f_qc.symm.trans hc)
    obtain rfl : m_be = a := Option.some.inj (f_m_be.symm.trans ha)
    rw [n_be, f_x_claimCount]
    exact hv_FX_e hBX rfl rfl
  case o66 =>
    obtain rfl : qo_py = p := Option.some.inj (f_qo_py.symm.trans hp)
    obtain rfl : y_p0 = q := Option.some.inj (f_y_p0.symm.trans hq)
    obtain rfl : m_p0 = r := Option.some.inj (f_m_p0.symm.trans hr)
    exact n_y_p0.trans n_p0.symm
  case o67 =>
    obtain rfl : qo_py = p := Option.some.inj (f_qo_py.symm.trans hp)
    obtain rfl : y_p1 = q := Option.some.inj (f_y_p1.symm.trans hq)
    obtain rfl : m_p1 = r := Option.some.inj (f_m_p1.symm.trans hr)
    exact n_y_p1.trans n_p1.symm
  case o68 =>
    obtain rfl : qo_py = p := Option.some.inj (f_qo_py.symm.trans hp)
    obtain rfl : y_p2 = q := Option.some.inj (f_y_p2.symm.trans hq)
    obtain rfl : m_p2 = r := Option.some.inj (f_m_p2.symm.trans hr)
    exact n_y_p2.trans n_p2.symm
  case o69 =>
    obtain rfl : qo_py = p := Option.some.inj (f_qo_py.symm.trans hp)
    obtain rfl : y_p3 = q := Option.some.inj (f_y_p3.symm.trans hq)
    obtain rfl : m_p3 = r := Option.some.inj (f_m_p3.symm.trans hr)
    exact n_y_p3.trans n_p3.symm
  case o70 =>
    obtain rfl : qo_py = p := Option.some.inj (f_qo_py.symm.trans hp)
    obtain rfl : y_p4 = q := Option.some.inj (f_y_p4.symm.trans hq)
    obtain rfl : m_p4 = r := Option.some.inj (f_m_p4.symm.trans hr)
    exact n_y_p4.trans n_p4.symm
  case o71 =>
    obtain rfl : qrg9 = p := Option.some.inj (f_qrg9.symm.trans hp)
    rw [ffv_655, ffv_656, ffv_657]
    exact hNQ9
  case o72 =>
    obtain rfl : qrg9 = p := Option.some.inj (f_qrg9.symm.trans hp)
    obtain rfl : y_ls = q := Option.some.inj (f_y_ls.symm.trans hq)
    obtain rfl : m_rl = r := Option.some.inj (f_m_rl.symm.trans hr)
    rw [n_y_ls, n_m_rl, ffv_655]
    exact hRL9
  case o73 =>
    rw [cl_dead, n_dead]
    exact eq_dead
  case o74 =>
    rw [cl_isj, n_isj]
    exact eq_isj
  case o75 =>
    rw [cl_dox, n_dox]
    exact eq_dox
  case o76 =>
    rw [cl_doy, n_doy]
    exact eq_doy
  case o77 =>
    rw [cl_fou, n_m_fou]
    exact eq_fou
  case o78 =>
    rw [cl_tri, n_mt]
    exact eq_tri
  case o79 =>
    obtain rfl : qw = w := Option.some.inj (f_qw.symm.trans hw)
    obtain rfl : ql = q := Option.some.inj (f_ql.symm.trans hq)
    exact pf_ql
  case o80 =>
    rw [n_mw]
    exact hwd
  case o81 =>
    rw [n_mr, f_m_acts]
    exact hWK
  case o82 =>
    rw [n_mp, n_mn, f_m_acts]
    exact hRP
  case o83 =>
    rw [n_ml, f_m_claims, f_m_acts]
    exact hPL
  case o84 =>
    rw [n_mh, f_m_heardMany, f_m_claims]
    exact hHC
  case o85 =>
    rw [n_mt]
    refine (hx_TR_le hTR ?o86)
    case o86 => omega
  case o87 =>
    rw [n_mh, n_m_fou, f_m_claims]
    exact hHF

set_option maxHeartbeats 4000000 in
set_option maxRecDepth 100000 in
theorem law_case_20 {p : Program} {e : Env} {s : State} {m : MethodId} {below : List Frame} {meth : Method} {c : Code} (l : Launch) {b LN : Nat} {xs : Nat → Int32} (hx : p.tables.exec = Jvm.exec) (hb : c.code = code) (hr : meth.sig.returnType = ret) (hlocks : meth.locks = false) (hml : c.maxLocals = 4) (hown : s.vm.findClass "SmallCourtLaw" = some m.cls) (hts : ∀ w ∈ hx_all, w.before #[Value.ref b] s = true) (hX : va_X b LN xs s s.heap) (hbl : b < s.heap.size) (hbA : ¬ s.heap.size ≤ b) (hLN : LN ≤ 3584) (dC : Nat → ClassId) (dI : Nat → Nat → Nat) (dA : Nat → ClassId) (b0 : hx_z) (ax am : Nat) (T1 : Int) (hT0 : 0 ≤ T1) (hT1 : T1 ≤ 511) (i : Int32) (hi0 : 0 ≤ i.toInt) (hiL : i.toInt + 7 ≤ LN) (CC SS : Nat) (hCC : CC + 3 ≤ 600000) (hSS : SS + 179 ≤ 7302250) (L1 : List Nat) (hl1 : hx_h) (H : Heap) (locs : List Loc) (ls : Array Slot) (hW : hx_W T_tb (P_ty dA) (dC, dI) vwCl (fun q : Nat => s.heap.size ≤ q) s.heap L1 hl1 s H locs) (hZ : hx_Xt (fun q : Nat => s.heap.size ≤ q) b0 s) (hI : hx_IV T1 ax am L1 hl1) (hl : lv_has ls 4 [(3, .int i), (2, .ref am), (1, .ref ax), (0, .ref b)]) (kk : ∀ (L2 : List Nat) (h2 : hx_h) (H2 : Heap) (locs2 : List Loc) (ls2 : Array Slot), hx_W T_tb (P_ty dA) (dC, dI) vwCl (fun q : Nat => s.heap.size ≤ q) s.heap L2 h2 s H2 locs2 → hx_IV (T1 + 1) ax am L2 h2 → lv_has ls2 4 [(3, .int i), (2, .ref am), (1, .ref ax), (0, .ref b)] → W p l e room_1 s m #[Value.ref b] below meth c H2 locs2 (CC + 3) (SS + 179) (lw_Z below #[Value.ref b] s) (F0 m 1379 ls2 [])) : W p l e room_1 s m #[Value.ref b] below meth c H locs CC SS (lw_Z below #[Value.ref b] s) (F0 m 1076 ls []) := by
  have hI9 := hI
  have hT := hI9.1
  replace hI9 := hI9.2
  have gx := hI9.1
  replace hI9 := hI9.2
  have gm := hI9.1
  replace hI9 := hI9.2
  have zq0_3 := hI9.1
  have he_nw := zq0_3.1
  replace zq0_3 := zq0_3.2
  have he_np := zq0_3.1
  replace zq0_3 := zq0_3.2
  have he_c0 := zq0_3.1
  replace zq0_3 := zq0_3.2
  have he_tl := zq0_3.1
  replace zq0_3 := zq0_3.2
  have he_a0 := zq0_3.1
  replace zq0_3 := zq0_3.2
  have he_m0 := zq0_3.1
  replace zq0_3 := zq0_3.2
  have ho_ln := zq0_3.1
  replace zq0_3 := zq0_3.2
  have ho_lsd := zq0_3.1
  replace zq0_3 := zq0_3.2
  have ho_wkm := zq0_3.1
  replace zq0_3 := zq0_3.2
  have ho_py := zq0_3.1
  replace zq0_3 := zq0_3.2
  have hn_qp := zq0_3.1
  replace zq0_3 := zq0_3.2
  have hn_qc := zq0_3.1
  replace zq0_3 := zq0_3.2
  have hk_of := zq0_3.1
  replace zq0_3 := zq0_3.2
  have hk_wf := zq0_3.1
  replace zq0_3 := zq0_3.2
  have hk_df := zq0_3.1
  replace zq0_3 := zq0_3.2
  have hk_kf := zq0_3.1
  replace zq0_3 := zq0_3.2
  have hk_sf := zq0_3.1
  replace zq0_3 := zq0_3.2
  have hkBD := zq0_3.1
  replace zq0_3 := zq0_3.2
  have hLQ := zq0_3.1
  replace zq0_3 := zq0_3.2
  have hLE := zq0_3.1
  replace zq0_3 := zq0_3.2
  have hkWD := zq0_3.1
  replace zq0_3 := zq0_3.2
  have hkDF := zq0_3.1
  replace zq0_3 := zq0_3.2
  have hkTP := zq0_3.1
  replace zq0_3 := zq0_3.2
  have hkAC := zq0_3.1
  replace zq0_3 := zq0_3.2
  have hkDP := zq0_3.1
  replace zq0_3 := zq0_3.2
  have hkHL := zq0_3.1
  replace zq0_3 := zq0_3.2
  have hkHO := zq0_3.1
  replace zq0_3 := zq0_3.2
  have hkFX := zq0_3.1
  replace zq0_3 := zq0_3.2
  have hkBX := zq0_3.1
  replace zq0_3 := zq0_3.2
  have hf_bor := zq0_3.1
  replace zq0_3 := zq0_3.2
  have hf_kin := zq0_3.1
  replace zq0_3 := zq0_3.2
  have hf_sum := zq0_3.1
  replace zq0_3 := zq0_3.2
  have hf_fro := zq0_3.1
  replace zq0_3 := zq0_3.2
  have hf_fil := zq0_3.1
  replace zq0_3 := zq0_3.2
  have hf_hea := zq0_3.1
  replace zq0_3 := zq0_3.2
  have hf_jud := zq0_3.1
  replace zq0_3 := zq0_3.2
  have hf_ear := zq0_3.1
  replace zq0_3 := zq0_3.2
  have hf_hds := zq0_3.1
  replace zq0_3 := zq0_3.2
  have hf_ord := zq0_3.1
  replace zq0_3 := zq0_3.2
  have hf_wkl := zq0_3.1
  replace zq0_3 := zq0_3.2
  have hf_owd := zq0_3.1
  replace zq0_3 := zq0_3.2
  have hf_gds := zq0_3.1
  replace zq0_3 := zq0_3.2
  have hf_szd := zq0_3.1
  replace zq0_3 := zq0_3.2
  have hf_srv := zq0_3.1
  replace zq0_3 := zq0_3.2
  have hkP0 := zq0_3.1
  replace zq0_3 := zq0_3.2
  have hkP1 := zq0_3.1
  replace zq0_3 := zq0_3.2
  have hkP2 := zq0_3.1
  replace zq0_3 := zq0_3.2
  have hkP3 := zq0_3.1
  replace zq0_3 := zq0_3.2
  have hkP4 := zq0_3.1
  replace zq0_3 := zq0_3.2
  have hkNQ := zq0_3.1
  replace zq0_3 := zq0_3.2
  have hkRL := zq0_3.1
  replace zq0_3 := zq0_3.2
  have hc_dead := zq0_3.1
  replace zq0_3 := zq0_3.2
  have hc_isj := zq0_3.1
  replace zq0_3 := zq0_3.2
  have hc_dox := zq0_3.1
  replace zq0_3 := zq0_3.2
  have hc_doy := zq0_3.1
  replace zq0_3 := zq0_3.2
  have hc_fou := zq0_3.1
  replace zq0_3 := zq0_3.2
  have hc_tri := zq0_3.1
  replace zq0_3 := zq0_3.2
  replace hI9 := hI9.2
  have zq0_4 := hI9.1
  have ia := zq0_4.1
  replace zq0_4 := zq0_4.2
  have ip := zq0_4.1
  replace zq0_4 := zq0_4.2
  have ic := zq0_4.1
  replace zq0_4 := zq0_4.2
  have ih := zq0_4.1
  replace zq0_4 := zq0_4.2
  have il := zq0_4
  replace hI9 := hI9.2
  have zq0_5 := hI9
  have jw := zq0_5.1
  replace zq0_5 := zq0_5.2
  have jr := zq0_5.1
  replace zq0_5 := zq0_5.2
  have jp := zq0_5.1
  replace zq0_5 := zq0_5.2
  have jl := zq0_5.1
  replace zq0_5 := zq0_5.2
  have jh := zq0_5.1
  replace zq0_5 := zq0_5.2
  have jt := zq0_5.1
  replace zq0_5 := zq0_5.2
  have jf := zq0_5
  obtain ⟨qa, f_qa, g_qa⟩ := hx_rf hT gx tt_9 (k := 5) (u := 43) rfl
  have pf_qa := ia qa f_qa
  obtain ⟨qp, f_qp, g_qp⟩ := hx_rf hT gx tt_9 (k := 7) (u := 44) rfl
  have pf_qp := ip qp f_qp
  obtain ⟨qc, f_qc, g_qc⟩ := hx_rf hT gx tt_9 (k := 10) (u := 45) rfl
  have pf_qc := ic qc f_qc
  obtain ⟨qh, f_qh, g_qh⟩ := hx_rf hT gx tt_9 (k := 12) (u := 46) rfl
  have pf_qh := ih qh f_qh
  obtain ⟨qw, f_qw, g_qw⟩ := hx_rf hT gx tt_9 (k := 19) (u := 8) rfl
  obtain ⟨ql, f_ql, g_ql⟩ := hx_rf hT g_qw tt_8 (k := 3) (u := 40) rfl
  have pf_ql := il qw ql f_qw f_ql
  obtain ⟨nw, f_m_now⟩ : ∃ y : Int32, hl1.2.1 am 0 = y := ⟨_, rfl⟩
  have b_nw := hT.gi gm tt_10 (k := 0) rfl
  rw [f_m_now] at b_nw
  have b_nw : 0 ≤ nw.toInt ∧ nw.toInt ≤ 7999 := b_nw
  obtain ⟨np, f_m_persons⟩ : ∃ y : Int32, hl1.2.1 am 20 = y := ⟨_, rfl⟩
  have b_np := hT.gi gm tt_10 (k := 20) rfl
  rw [f_m_persons] at b_np
  have b_np : 0 ≤ np.toInt ∧ np.toInt ≤ 40 := b_np
  obtain ⟨c0, f_m_claims⟩ : ∃ y : Int32, hl1.2.1 am 36 = y := ⟨_, rfl⟩
  have b_c0 := hT.gi gm tt_10 (k := 36) rfl
  rw [f_m_claims] at b_c0
  have b_c0 : 0 ≤ c0.toInt ∧ c0.toInt ≤ 100 := b_c0
  obtain ⟨tl, f_m_taped⟩ : ∃ y : Int32, hl1.2.1 am 7 = y := ⟨_, rfl⟩
  have b_tl := hT.gi gm tt_10 (k := 7) rfl
  rw [f_m_taped] at b_tl
  have b_tl : 0 ≤ tl.toInt ∧ tl.toInt ≤ 400 := b_tl
  obtain ⟨a0, f_m_acts⟩ : ∃ y : Int32, hl1.2.1 am 1 = y := ⟨_, rfl⟩
  have b_a0 := hT.gi gm tt_10 (k := 1) rfl
  rw [f_m_acts] at b_a0
  have b_a0 : 0 ≤ a0.toInt ∧ a0.toInt ≤ 8 := b_a0
  obtain ⟨m0, f_m_heardMany⟩ : ∃ y : Int32, hl1.2.1 am 57 = y := ⟨_, rfl⟩
  have b_m0 := hT.gi gm tt_10 (k := 57) rfl
  rw [f_m_heardMany] at b_m0
  have b_m0 : 0 ≤ m0.toInt ∧ m0.toInt ≤ 100 := b_m0
  obtain ⟨ln, f_m_lines⟩ : ∃ y : Int32, hl1.2.1 am 29 = y := ⟨_, rfl⟩
  have b_ln := hT.gi gm tt_10 (k := 29) rfl
  rw [f_m_lines] at b_ln
  have b_ln : 0 ≤ ln.toInt ∧ ln.toInt ≤ 400 := b_ln
  obtain ⟨lsd, f_m_listed⟩ : ∃ y : Int32, hl1.2.1 am 90 = y := ⟨_, rfl⟩
  have b_lsd := hT.gi gm tt_10 (k := 90) rfl
  rw [f_m_listed] at b_lsd
  have b_lsd : 0 ≤ lsd.toInt ∧ lsd.toInt ≤ 8 := b_lsd
  obtain ⟨wkm, f_m_walkedMany⟩ : ∃ y : Int32, hl1.2.1 am 92 = y := ⟨_, rfl⟩
  have b_wkm := hT.gi gm tt_10 (k := 92) rfl
  rw [f_m_walkedMany] at b_wkm
  have b_wkm : 0 ≤ wkm.toInt ∧ wkm.toInt ≤ 8 := b_wkm
  obtain ⟨py, f_m_payments⟩ : ∃ y : Int32, hl1.2.1 am 59 = y := ⟨_, rfl⟩
  have b_py := hT.gi gm tt_10 (k := 59) rfl
  rw [f_m_payments] at b_py
  have b_py : 0 ≤ py.toInt ∧ py.toInt ≤ 600 := b_py
  have f_x_now : hl1.2.1 ax 2 = nw := he_nw.trans f_m_now
  have f_x_personCount : hl1.2.1 ax 8 = np := he_np.trans f_m_persons
  have f_x_claimCount : hl1.2.1 ax 11 = c0 := he_c0.trans f_m_claims
  have f_x_tapeLength : hl1.2.1 ax 1 = tl := he_tl.trans f_m_taped
  have f_x_actCount : hl1.2.1 ax 6 = a0 := he_a0.trans f_m_acts
  have f_x_heardCount : hl1.2.1 ax 13 = m0 := he_m0.trans f_m_heardMany
  obtain ⟨mw, f_mw, g_mw⟩ := hx_rf hT gm tt_10 (k := 19) (u := 57) rfl
  obtain ⟨F_mw, n_mw⟩ : ∃ g : Nat → Int32, hl1.2.1 mw = g := ⟨_, rfl⟩
  obtain ⟨mr, f_mr, g_mr⟩ := hx_rf hT gm tt_10 (k := 3) (u := 50) rfl
  obtain ⟨F_mr, n_mr⟩ : ∃ g : Nat → Int32, hl1.2.1 mr = g := ⟨_, rfl⟩
  obtain ⟨mp, f_mp, g_mp⟩ := hx_rf hT gm tt_10 (k := 5) (u := 52) rfl
  obtain ⟨F_mp, n_mp⟩ : ∃ g : Nat → Int32, hl1.2.1 mp = g := ⟨_, rfl⟩
  obtain ⟨mn, f_mn, g_mn⟩ := hx_rf hT gm tt_10 (k := 4) (u := 51) rfl
  obtain ⟨F_mn, n_mn⟩ : ∃ g : Nat → Int32, hl1.2.1 mn = g := ⟨_, rfl⟩
  obtain ⟨ml, f_ml, g_ml⟩ := hx_rf hT gm tt_10 (k := 44) (u := 79) rfl
  obtain ⟨F_ml, n_ml⟩ : ∃ g : Nat → Int32, hl1.2.1 ml = g := ⟨_, rfl⟩
  obtain ⟨mh, f_mh, g_mh⟩ := hx_rf hT gm tt_10 (k := 47) (u := 82) rfl
  obtain ⟨F_mh, n_mh⟩ : ∃ g : Nat → Int32, hl1.2.1 mh = g := ⟨_, rfl⟩
  obtain ⟨mt, f_mt, g_mt⟩ := hx_rf hT gm tt_10 (k := 45) (u := 80) rfl
  obtain ⟨F_mt, n_mt⟩ : ∃ g : Nat → Int32, hl1.2.1 mt = g := ⟨_, rfl⟩
  obtain ⟨m_fou, f_m_fou, g_m_fou⟩ := hx_rf hT gm tt_10 (k := 46) (u := 81) rfl
  obtain ⟨F_m_fou, n_m_fou⟩ : ∃ g : Nat → Int32, hl1.2.1 m_fou = g := ⟨_, rfl⟩
  obtain ⟨qo_ln, f_qo_ln, g_qo_ln⟩ := hx_rf hT gx tt_9 (k := 9) (u := 1) rfl
  have f_o_ln : hl1.2.1 qo_ln 0 = ln := (ho_ln qo_ln f_qo_ln).trans f_m_lines
  have f_o_lsd : hl1.2.1 qw 0 = lsd := (ho_lsd qw f_qw).trans f_m_listed
  have f_o_wkm : hl1.2.1 qw 1 = wkm := (ho_wkm qw f_qw).trans f_m_walkedMany
  obtain ⟨qo_py, f_qo_py, g_qo_py⟩ := hx_rf hT gx tt_9 (k := 14) (u := 3) rfl
  have f_o_py : hl1.2.1 qo_py 0 = py := (ho_py qo_py f_qo_py).trans f_m_payments
  have nu_qp := hn_qp qp f_qp; rw [f_x_personCount] at nu_qp
  have nu_qc := hn_qc qc f_qc; rw [f_x_claimCount] at nu_qc
  obtain ⟨b_of, f_b_of, g_b_of⟩ := hx_rf hT g_qo_ln tt_1 (k := 1) (u := 13) rfl
  obtain ⟨B_of, n_b_of⟩ : ∃ g : Nat → Int32, hl1.2.1 b_of = g := ⟨_, rfl⟩
  obtain ⟨m_of, f_m_of, g_m_of⟩ := hx_rf hT gm tt_10 (k := 30) (u := 66) rfl
  obtain ⟨F_of, n_m_of⟩ : ∃ g : Nat → Int32, hl1.2.1 m_of = g := ⟨_, rfl⟩
  have eb_of := hk_of qo_ln b_of m_of f_qo_ln f_b_of f_m_of; rw [n_b_of, n_m_of, f_o_ln] at eb_of
  obtain ⟨b_wf, f_b_wf, g_b_wf⟩ := hx_rf hT g_qo_ln tt_1 (k := 2) (u := 14) rfl
  obtain ⟨B_wf, n_b_wf⟩ : ∃ g : Nat → Int32, hl1.2.1 b_wf = g := ⟨_, rfl⟩
  obtain ⟨m_wf, f_m_wf, g_m_wf⟩ := hx_rf hT gm tt_10 (k := 31) (u := 67) rfl
  obtain ⟨F_wf, n_m_wf⟩ : ∃ g : Nat → Int32, hl1.2.1 m_wf = g := ⟨_, rfl⟩
  have eb_wf := hk_wf qo_ln b_wf m_wf f_qo_ln f_b_wf f_m_wf; rw [n_b_wf, n_m_wf, f_o_ln] at eb_wf
  obtain ⟨b_df, f_b_df, g_b_df⟩ := hx_rf hT g_qo_ln tt_1 (k := 3) (u := 15) rfl
  obtain ⟨B_df, n_b_df⟩ : ∃ g : Nat → Int32, hl1.2.1 b_df = g := ⟨_, rfl⟩
  obtain ⟨m_df, f_m_df, g_m_df⟩ := hx_rf hT gm tt_10 (k := 32) (u := 68) rfl
  obtain ⟨F_df, n_m_df⟩ : ∃ g : Nat → Int32, hl1.2.1 m_df = g := ⟨_, rfl⟩
  have eb_df := hk_df qo_ln b_df m_df f_qo_ln f_b_df f_m_df; rw [n_b_df, n_m_df, f_o_ln] at eb_df
  obtain ⟨b_kf, f_b_kf, g_b_kf⟩ := hx_rf hT g_qo_ln tt_1 (k := 4) (u := 16) rfl
  obtain ⟨B_kf, n_b_kf⟩ : ∃ g : Nat → Int32, hl1.2.1 b_kf = g := ⟨_, rfl⟩
  obtain ⟨m_kf, f_m_kf, g_m_kf⟩ := hx_rf hT gm tt_10 (k := 33) (u := 69) rfl
  obtain ⟨F_kf, n_m_kf⟩ : ∃ g : Nat → Int32, hl1.2.1 m_kf = g := ⟨_, rfl⟩
  have eb_kf := hk_kf qo_ln b_kf m_kf f_qo_ln f_b_kf f_m_kf; rw [n_b_kf, n_m_kf, f_o_ln] at eb_kf
  obtain ⟨b_sf, f_b_sf, g_b_sf⟩ := hx_rf hT g_qo_ln tt_1 (k := 5) (u := 17) rfl
  obtain ⟨B_sf, n_b_sf⟩ : ∃ g : Nat → Int32, hl1.2.1 b_sf = g := ⟨_, rfl⟩
  obtain ⟨m_sf, f_m_sf, g_m_sf⟩ := hx_rf hT gm tt_10 (k := 34) (u := 70) rfl
  obtain ⟨F_sf, n_m_sf⟩ : ∃ g : Nat → Int32, hl1.2.1 m_sf = g := ⟨_, rfl⟩
  have eb_sf := hk_sf qo_ln b_sf m_sf f_qo_ln f_b_sf f_m_sf; rw [n_b_sf, n_m_sf, f_o_ln] at eb_sf
  obtain ⟨b_bf, f_b_bf, g_b_bf⟩ := hx_rf hT g_qo_ln tt_1 (k := 6) (u := 18) rfl
  obtain ⟨bfL, n_b_bf⟩ : ∃ g : Nat → Int32, hl1.2.1 b_bf = g := ⟨_, rfl⟩
  obtain ⟨hBD, hDY⟩ := hkBD qo_ln b_df b_bf f_qo_ln f_b_df f_b_bf; rw [n_b_df, n_b_bf, f_o_ln] at hBD; rw [n_b_df, f_o_ln] at hDY
  have hBDm := hy_BD_c eb_df hBD
  have hDYm : hy_DY F_df ln.toInt.toNat := fun x hx => by rw [← eb_df x hx]; exact hDY x hx
  have sb_list := hLQ qw ql qc f_qw f_ql f_qc
  obtain ⟨m_lst, f_m_lst, g_m_lst⟩ := hx_rf hT gm tt_10 (k := 91) (u := 112) rfl
  obtain ⟨F_lst, n_lst⟩ : ∃ g : Nat → Int32, hl1.2.1 m_lst = g := ⟨_, rfl⟩
  obtain ⟨c_lst, cl_lst⟩ : ∃ g : Nat → Int32, hx_col 8 hl1 ql 0 = g := ⟨_, rfl⟩
  have eq_lst := hLE qw ql m_lst f_qw f_ql f_m_lst; rw [cl_lst, n_lst] at eq_lst
  obtain ⟨qtp, f_qtp, g_qtp⟩ := hx_rf hT gx tt_9 (k := 0) (u := 42) rfl
  obtain ⟨m_tp, f_m_tp, g_m_tp⟩ := hx_rf hT gm tt_10 (k := 6) (u := 53) rfl
  obtain ⟨F_tp, n_tp⟩ : ∃ g : Nat → Int32, hl1.2.1 m_tp = g := ⟨_, rfl⟩
  have n_qtp : hl1.2.1 qtp = F_tp := (hkTP qtp m_tp f_qtp f_m_tp).trans n_tp
  obtain ⟨c_dead, cl_dead⟩ : ∃ g : Nat → Int32, hx_col 40 hl1 qp 7 = g := ⟨_, rfl⟩
  obtain ⟨m_dead, f_m_dead, g_m_dead⟩ := hx_rf hT gm tt_10 (k := 27) (u := 64) rfl
  obtain ⟨F_dead, n_dead⟩ : ∃ g : Nat → Int32, hl1.2.1 m_dead = g := ⟨_, rfl⟩
  have eq_dead := hc_dead qp m_dead f_qp f_m_dead; rw [cl_dead, n_dead] at eq_dead
  have z_dead : np.toInt.toNat < 40 → c_dead np.toInt.toNat = 0 := fun hj => hx_num_z nu_qp cl_dead hj ?o0
  case o0 => omega
  obtain ⟨c_isj, cl_isj⟩ : ∃ g : Nat → Int32, hx_col 40 hl1 qp 8 = g := ⟨_, rfl⟩
  obtain ⟨m_isj, f_m_isj, g_m_isj⟩ := hx_rf hT gm tt_10 (k := 28) (u := 65) rfl
  obtain ⟨F_isj, n_isj⟩ : ∃ g : Nat → Int32, hl1.2.1 m_isj = g := ⟨_, rfl⟩
  have eq_isj := hc_isj qp m_isj f_qp f_m_isj; rw [cl_isj, n_isj] at eq_isj
  have z_isj : np.toInt.toNat < 40 → c_isj np.toInt.toNat = 0 := fun hj => hx_num_z nu_qp cl_isj hj ?o1
  case o1 => omega
  obtain ⟨c_dox, cl_dox⟩ : ∃ g : Nat → Int32, hx_col 40 hl1 qp 5 = g := ⟨_, rfl⟩
  obtain ⟨m_dox, f_m_dox, g_m_dox⟩ := hx_rf hT gm tt_10 (k := 24) (u := 61) rfl
  obtain ⟨F_dox, n_dox⟩ : ∃ g : Nat → Int32, hl1.2.1 m_dox = g := ⟨_, rfl⟩
  have eq_dox := hc_dox qp m_dox f_qp f_m_dox; rw [cl_dox, n_dox] at eq_dox
  have z_dox : np.toInt.toNat < 40 → c_dox np.toInt.toNat = 0 := fun hj => hx_num_z nu_qp cl_dox hj ?o2
  case o2 => omega
  obtain ⟨c_doy, cl_doy⟩ : ∃ g : Nat → Int32, hx_col 40 hl1 qp 6 = g := ⟨_, rfl⟩
  obtain ⟨m_doy, f_m_doy, g_m_doy⟩ := hx_rf hT gm tt_10 (k := 25) (u := 62) rfl
  obtain ⟨F_doy, n_doy⟩ : ∃ g : Nat → Int32, hl1.2.1 m_doy = g := ⟨_, rfl⟩
  have eq_doy := hc_doy qp m_doy f_qp f_m_doy; rw [cl_doy, n_doy] at eq_doy
  have z_doy : np.toInt.toNat < 40 → c_doy np.toInt.toNat = 0 := fun hj => hx_num_z nu_qp cl_doy hj ?o3
  case o3 => omega
  obtain ⟨c_fou, cl_fou⟩ : ∃ g : Nat → Int32, hx_col 100 hl1 qc 10 = g := ⟨_, rfl⟩
  have eq_fou := hc_fou qc m_fou f_qc f_m_fou; rw [cl_fou, n_m_fou] at eq_fou
  have z_fou : c0.toInt.toNat < 100 → c_fou c0.toInt.toNat = 0 := fun hj => hx_num_z nu_qc cl_fou hj ?o4
  case o4 => omega
  obtain ⟨c_tri, cl_tri⟩ : ∃ g : Nat → Int32, hx_col 100 hl1 qc 9 = g := ⟨_, rfl⟩
  have eq_tri := hc_tri qc mt f_qc f_mt; rw [cl_tri, n_mt] at eq_tri
  have z_tri : c0.toInt.toNat < 100 → c_tri c0.toInt.toNat = 0 := fun hj => hx_num_z nu_qc cl_tri hj ?o5
  case o5 => omega
  obtain ⟨qlt, f_qlt, g_qlt⟩ := hx_rf hT g_qw tt_8 (k := 2) (u := 39) rfl
  obtain ⟨qlf, f_qlf, g_qlf⟩ := hx_rf hT g_qw tt_8 (k := 4) (u := 41) rfl
  obtain ⟨m_wkd, f_m_wkd, g_m_wkd⟩ := hx_rf hT gm tt_10 (k := 93) (u := 113) rfl
  obtain ⟨F_qlt, n_qlt⟩ : ∃ g : Nat → Int32, hl1.2.1 qlt = g := ⟨_, rfl⟩
  obtain ⟨F_m_wkd, n_m_wkd⟩ : ∃ g : Nat → Int32, hl1.2.1 m_wkd = g := ⟨_, rfl⟩
  have eb_wkd := hkWD qw qlt m_wkd f_qw f_qlt f_m_wkd; rw [n_qlt, n_m_wkd, f_o_wkm] at eb_wkd
  obtain ⟨m_aga, f_m_aga, g_m_aga⟩ := hx_rf hT gm tt_10 (k := 38) (u := 73) rfl
  obtain ⟨F_aga, n_aga⟩ : ∃ g : Nat → Int32, hl1.2.1 m_aga = g := ⟨_, rfl⟩
  have hDF := hkDF qc qp m_aga f_qc f_qp f_m_aga; rw [n_aga, f_x_claimCount] at hDF
  obtain ⟨qwo, f_qwo, g_qwo⟩ := hx_rf hT gx tt_9 (k := 4) (u := 0) rfl
  obtain ⟨m_ad, f_m_ad, g_m_ad⟩ := hx_rf hT gm tt_10 (k := 2) (u := 49) rfl
  obtain ⟨F_ad, n_ad⟩ : ∃ g : Nat → Int32, hl1.2.1 m_ad = g := ⟨_, rfl⟩
  obtain ⟨A9, hRA9, hCA9, hAC9, hAB⟩ := hkAC qa qwo m_ad mr mn mp qc ml f_qa f_qwo f_m_ad f_mr f_mn f_mp f_qc f_ml
  rw [f_x_actCount] at hRA9; rw [f_x_actCount, n_ad, n_mr, n_mn, n_mp] at hCA9
  obtain ⟨m_by, f_m_by, g_m_by⟩ := hx_rf hT gm tt_10 (k := 37) (u := 72) rfl
  obtain ⟨F_by, n_by⟩ : ∃ g : Nat → Int32, hl1.2.1 m_by = g := ⟨_, rfl⟩
  obtain ⟨m_ho, f_m_ho, g_m_ho⟩ := hx_rf hT gm tt_10 (k := 58) (u := 92) rfl
  obtain ⟨F_ho, n_ho⟩ : ∃ g : Nat → Int32, hl1.2.1 m_ho = g := ⟨_, rfl⟩
  obtain ⟨m_fc, f_m_fc, g_m_fc⟩ := hx_rf hT gm tt_10 (k := 53) (u := 88) rfl
  obtain ⟨F_fc, n_fc⟩ : ∃ g : Nat → Int32, hl1.2.1 m_fc = g := ⟨_, rfl⟩
  obtain ⟨m_nt, f_m_nt, g_m_nt⟩ := hx_rf hT gm tt_10 (k := 41) (u := 76) rfl
  obtain ⟨F_nt, n_nt⟩ : ∃ g : Nat → Int32, hl1.2.1 m_nt = g := ⟨_, rfl⟩
  obtain ⟨m_wt, f_m_wt, g_m_wt⟩ := hx_rf hT gm tt_10 (k := 42) (u := 77) rfl
  obtain ⟨F_wt, n_wt⟩ : ∃ g : Nat → Int32, hl1.2.1 m_wt = g := ⟨_, rfl⟩
  obtain ⟨m_be, f_m_be, g_m_be⟩ := hx_rf hT gm tt_10 (k := 52) (u := 87) rfl
  obtain ⟨F_be, n_be⟩ : ∃ g : Nat → Int32, hl1.2.1 m_be = g := ⟨_, rfl⟩
  obtain ⟨m_bor, f_m_bor, g_m_bor⟩ := hx_rf hT gm tt_10 (k := 21) (u := 58) rfl
  obtain ⟨F_bor, n_bor⟩ : ∃ g : Nat → Int32, hl1.2.1 m_bor = g := ⟨_, rfl⟩
  obtain ⟨m_kin, f_m_kin, g_m_kin⟩ := hx_rf hT gm tt_10 (k := 26) (u := 63) rfl
  obtain ⟨F_kin, n_kin⟩ : ∃ g : Nat → Int32, hl1.2.1 m_kin = g := ⟨_, rfl⟩
  obtain ⟨m_sum, f_m_sum, g_m_sum⟩ := hx_rf hT gm tt_10 (k := 39) (u := 74) rfl
  obtain ⟨F_sum, n_sum⟩ : ∃ g : Nat → Int32, hl1.2.1 m_sum = g := ⟨_, rfl⟩
  obtain ⟨m_fro, f_m_fro, g_m_fro⟩ := hx_rf hT gm tt_10 (k := 40) (u := 75) rfl
  obtain ⟨F_fro, n_fro⟩ : ∃ g : Nat → Int32, hl1.2.1 m_fro = g := ⟨_, rfl⟩
  obtain ⟨m_fil, f_m_fil, g_m_fil⟩ := hx_rf hT gm tt_10 (k := 43) (u := 78) rfl
  obtain ⟨F_fil, n_fil⟩ : ∃ g : Nat → Int32, hl1.2.1 m_fil = g := ⟨_, rfl⟩
  obtain ⟨m_jud, f_m_jud, g_m_jud⟩ := hx_rf hT gm tt_10 (k := 51) (u := 86) rfl
  obtain ⟨F_jud, n_jud⟩ : ∃ g : Nat → Int32, hl1.2.1 m_jud = g := ⟨_, rfl⟩
  obtain ⟨m_ear, f_m_ear, g_m_ear⟩ := hx_rf hT gm tt_10 (k := 22) (u := 59) rfl
  obtain ⟨F_ear, n_ear⟩ : ∃ g : Nat → Int32, hl1.2.1 m_ear = g := ⟨_, rfl⟩
  obtain ⟨m_hds, f_m_hds, g_m_hds⟩ := hx_rf hT gm tt_10 (k := 23) (u := 60) rfl
  obtain ⟨F_hds, n_hds⟩ : ∃ g : Nat → Int32, hl1.2.1 m_hds = g := ⟨_, rfl⟩
  obtain ⟨m_ord, f_m_ord, g_m_ord⟩ := hx_rf hT gm tt_10 (k := 48) (u := 83) rfl
  obtain ⟨F_ord, n_ord⟩ : ∃ g : Nat → Int32, hl1.2.1 m_ord = g := ⟨_, rfl⟩
  obtain ⟨m_wkl, f_m_wkl, g_m_wkl⟩ := hx_rf hT gm tt_10 (k := 54) (u := 89) rfl
  obtain ⟨F_wkl, n_wkl⟩ : ∃ g : Nat → Int32, hl1.2.1 m_wkl = g := ⟨_, rfl⟩
  obtain ⟨m_owd, f_m_owd, g_m_owd⟩ := hx_rf hT gm tt_10 (k := 55) (u := 90) rfl
  obtain ⟨F_owd, n_owd⟩ : ∃ g : Nat → Int32, hl1.2.1 m_owd = g := ⟨_, rfl⟩
  obtain ⟨m_gds, f_m_gds, g_m_gds⟩ := hx_rf hT gm tt_10 (k := 56) (u := 91) rfl
  obtain ⟨F_gds, n_gds⟩ : ∃ g : Nat → Int32, hl1.2.1 m_gds = g := ⟨_, rfl⟩
  obtain ⟨m_szd, f_m_szd, g_m_szd⟩ := hx_rf hT gm tt_10 (k := 49) (u := 84) rfl
  obtain ⟨F_szd, n_szd⟩ : ∃ g : Nat → Int32, hl1.2.1 m_szd = g := ⟨_, rfl⟩
  obtain ⟨m_srv, f_m_srv, g_m_srv⟩ := hx_rf hT gm tt_10 (k := 50) (u := 85) rfl
  obtain ⟨F_srv, n_srv⟩ : ∃ g : Nat → Int32, hl1.2.1 m_srv = g := ⟨_, rfl⟩
  have cl_bor : hx_col 40 hl1 qp 1 = F_bor := (hf_bor qp m_bor f_qp f_m_bor).trans n_bor
  have cl_kin : hx_col 40 hl1 qp 2 = F_kin := (hf_kin qp m_kin f_qp f_m_kin).trans n_kin
  have cl_sum : hx_col 100 hl1 qc 6 = F_sum := (hf_sum qc m_sum f_qc f_m_sum).trans n_sum
  have cl_fro : hx_col 100 hl1 qc 7 = F_fro := (hf_fro qc m_fro f_qc f_m_fro).trans n_fro
  have cl_fil : hx_col 100 hl1 qc 8 = F_fil := (hf_fil qc m_fil f_qc f_m_fil).trans n_fil
  have cl_hea : hx_col 100 hl1 qc 11 = F_mh := (hf_hea qc mh f_qc f_mh).trans n_mh
  have cl_jud : hx_col 100 hl1 qc 12 = F_jud := (hf_jud qc m_jud f_qc f_m_jud).trans n_jud
  have cl_ear : hx_col 40 hl1 qp 3 = F_ear := (hf_ear qp m_ear f_qp f_m_ear).trans n_ear
  have cl_hds : hx_col 40 hl1 qp 4 = F_hds := (hf_hds qp m_hds f_qp f_m_hds).trans n_hds
  have cl_ord : hx_col 100 hl1 qc 13 = F_ord := (hf_ord qc m_ord f_qc f_m_ord).trans n_ord
  have cl_wkl : hx_col 100 hl1 qc 14 = F_wkl := (hf_wkl qc m_wkl f_qc f_m_wkl).trans n_wkl
  have cl_owd : hx_col 100 hl1 qc 15 = F_owd := (hf_owd qc m_owd f_qc f_m_owd).trans n_owd
  have cl_gds : hx_col 100 hl1 qc 17 = F_gds := (hf_gds qc m_gds f_qc f_m_gds).trans n_gds
  have cl_szd : hx_col 100 hl1 qc 16 = F_szd := (hf_szd qc m_szd f_qc f_m_szd).trans n_szd
  have cl_srv : hx_col 100 hl1 qc 18 = F_srv := (hf_srv qc m_srv f_qc f_m_srv).trans n_srv
  have htb9 : ∀ c, c < 100 → 0 ≤ (c_tri c).toInt ∧ (c_tri c).toInt ≤ 512 := fun c hc => by rw [eq_tri c hc]; have w := hT.ei g_mt tt_80 (k := c) hc; rw [n_mt] at w; exact w
  have z_jud : F_jud c0.toInt.toNat = 0 := hx_num_z2 nu_qc cl_jud ?o6
  case o6 => omega
  have hDP := hkDP qc qp m_by f_qc f_qp f_m_by; rw [n_by, f_x_claimCount] at hDP
  have hHL := hkHL qh qc m_ho f_qh f_qc f_m_ho; rw [n_ho, f_x_heardCount, f_x_claimCount] at hHL
  have hHO9 := hkHO m_ho mh f_m_ho f_mh; rw [n_ho, n_mh, f_m_heardMany, f_m_claims] at hHO9
  obtain ⟨cF9L, hFX, hFR9⟩ := hkFX qc m_fc m_nt m_wt m_sum mh f_qc f_m_fc f_m_nt f_m_wt f_m_sum f_mh; rw [f_x_claimCount] at hFX; rw [n_fc, n_nt, n_wt, n_sum, n_mh, f_x_claimCount] at hFR9
  have hBX := hkBX qc m_be f_qc f_m_be; rw [n_be, f_x_claimCount] at hBX
  rw [n_ml, f_x_claimCount] at hAC9
  obtain ⟨y_p0, f_y_p0, g_y_p0⟩ := hx_rf hT g_qo_py tt_3 (k := 2) (u := 23) rfl
  obtain ⟨m_p0, f_m_p0, g_m_p0⟩ := hx_rf hT gm tt_10 (k := 60) (u := 93) rfl
  obtain ⟨F_p0, n_p0⟩ : ∃ g : Nat → Int32, hl1.2.1 m_p0 = g := ⟨_, rfl⟩
  have n_y_p0 : hl1.2.1 y_p0 = F_p0 := (hkP0 qo_py y_p0 m_p0 f_qo_py f_y_p0 f_m_p0).trans n_p0
  obtain ⟨y_p1, f_y_p1, g_y_p1⟩ := hx_rf hT g_qo_py tt_3 (k := 3) (u := 24) rfl
  obtain ⟨m_p1, f_m_p1, g_m_p1⟩ := hx_rf hT gm tt_10 (k := 61) (u := 94) rfl
  obtain ⟨F_p1, n_p1⟩ : ∃ g : Nat → Int32, hl1.2.1 m_p1 = g := ⟨_, rfl⟩
  have n_y_p1 : hl1.2.1 y_p1 = F_p1 := (hkP1 qo_py y_p1 m_p1 f_qo_py f_y_p1 f_m_p1).trans n_p1
  obtain ⟨y_p2, f_y_p2, g_y_p2⟩ := hx_rf hT g_qo_py tt_3 (k := 5) (u := 26) rfl
  obtain ⟨m_p2, f_m_p2, g_m_p2⟩ := hx_rf hT gm tt_10 (k := 62) (u := 95) rfl
  obtain ⟨F_p2, n_p2⟩ : ∃ g : Nat → Int32, hl1.2.1 m_p2 = g := ⟨_, rfl⟩
  have n_y_p2 : hl1.2.1 y_p2 = F_p2 := (hkP2 qo_py y_p2 m_p2 f_qo_py f_y_p2 f_m_p2).trans n_p2
  obtain ⟨y_p3, f_y_p3, g_y_p3⟩ := hx_rf hT g_qo_py tt_3 (k := 4) (u := 25) rfl
  obtain ⟨m_p3, f_m_p3, g_m_p3⟩ := hx_rf hT gm tt_10 (k := 63) (u := 96) rfl
  obtain ⟨F_p3, n_p3⟩ : ∃ g : Nat → Int32, hl1.2.1 m_p3 = g := ⟨_, rfl⟩
  have n_y_p3 : hl1.2.1 y_p3 = F_p3 := (hkP3 qo_py y_p3 m_p3 f_qo_py f_y_p3 f_m_p3).trans n_p3
  obtain ⟨y_p4, f_y_p4, g_y_p4⟩ := hx_rf hT g_qo_py tt_3 (k := 1) (u := 22) rfl
  obtain ⟨m_p4, f_m_p4, g_m_p4⟩ := hx_rf hT gm tt_10 (k := 64) (u := 97) rfl
  obtain ⟨F_p4, n_p4⟩ : ∃ g : Nat → Int32, hl1.2.1 m_p4 = g := ⟨_, rfl⟩
  have n_y_p4 : hl1.2.1 y_p4 = F_p4 := (hkP4 qo_py y_p4 m_p4 f_qo_py f_y_p4 f_m_p4).trans n_p4
  obtain ⟨qrg9, f_qrg9, g_qrg9⟩ := hx_rf hT gx tt_9 (k := 18) (u := 7) rfl
  obtain ⟨y_ls, f_y_ls, g_y_ls⟩ := hx_rf hT g_qrg9 tt_7 (k := 3) (u := 35) rfl
  obtain ⟨m_rl, f_m_rl, g_m_rl⟩ := hx_rf hT gm tt_10 (k := 85) (u := 109) rfl
  obtain ⟨F_y_ls, n_y_ls⟩ : ∃ g : Nat → Int32, hl1.2.1 y_ls = g := ⟨_, rfl⟩
  obtain ⟨F_m_rl, n_m_rl⟩ : ∃ g : Nat → Int32, hl1.2.1 m_rl = g := ⟨_, rfl⟩
  obtain ⟨fv_677, efv_677⟩ : ∃ y : Int32, y = hl1.2.1 qrg9 0 := ⟨_, rfl⟩
  have bfv_677 := hT.gi g_qrg9 tt_7 (k := 0) rfl
  rw [← efv_677] at bfv_677
  have bfv_677 : -1 ≤ fv_677.toInt ∧ fv_677.toInt ≤ 100 := bfv_677
  have ffv_677 := efv_677.symm
  obtain ⟨fv_678, efv_678⟩ : ∃ y : Int32, y = hl1.2.1 am 83 := ⟨_, rfl⟩
  have bfv_678 := hT.gi gm tt_10 (k := 83) rfl
  rw [← efv_678] at bfv_678
  have bfv_678 : 0 ≤ fv_678.toInt ∧ fv_678.toInt ≤ 1 := bfv_678
  have ffv_678 := efv_678.symm
  obtain ⟨fv_679, efv_679⟩ : ∃ y : Int32, y = hl1.2.1 am 84 := ⟨_, rfl⟩
  have bfv_679 := hT.gi gm tt_10 (k := 84) rfl
  rw [← efv_679] at bfv_679
  have bfv_679 : 0 ≤ fv_679.toInt ∧ fv_679.toInt ≤ 300 := bfv_679
  have ffv_679 := efv_679.symm
  have hNQ9 := hkNQ qrg9 f_qrg9; rw [ffv_677, ffv_678, ffv_679] at hNQ9
  have hRL9 := hkRL qrg9 y_ls m_rl f_qrg9 f_y_ls f_m_rl; rw [n_y_ls, n_m_rl, ffv_677] at hRL9
  have hCB : hz_CB F_ord F_wkl F_owd F_szd F_gds F_srv := fun c hc => ⟨by have w := hT.ei g_m_ord tt_83 (k := c) (by omega); rw [n_ord] at w; exact w, by have w := hT.ei g_m_wkl tt_89 (k := c) (by omega); rw [n_wkl] at w; exact w, by have w := hT.ei g_m_owd tt_90 (k := c) (by omega); rw [n_owd] at w; exact w, by have w := hT.ei g_m_szd tt_84 (k := c) (by omega); rw [n_szd] at w; exact w, by have w := hT.ei g_m_gds tt_91 (k := c) (by omega); rw [n_gds] at w; exact w, by have w := hT.ei g_m_srv tt_85 (k := c) (by omega); rw [n_srv] at w; exact w⟩
  have hps : ∀ j, j < 600 → 0 ≤ (F_p2 j).toInt ∧ (F_p2 j).toInt ≤ 610000 := fun j hj => by have w := hT.ei g_m_p2 tt_95 (k := j) (by omega); rw [n_p2] at w; exact w
  have hte9 : ∀ c : Nat, c < 100 → (0 ≤ (c_tri c).toInt ∧ (c_tri c).toInt ≤ 512) ∧ (0 ≤ (F_sum c).toInt ∧ (F_sum c).toInt ≤ 9999) := fun c hc => ⟨htb9 c hc, by have w := hT.ei g_m_sum tt_74 (k := c) (by omega); rw [n_sum] at w; exact w⟩
  have hee9 : ∀ c : Nat, c < 40 → (0 ≤ (F_ear c).toInt ∧ (F_ear c).toInt ≤ 9999) ∧ (0 ≤ (F_hds c).toInt ∧ (F_hds c).toInt ≤ 20) := fun c hc => ⟨by have w := hT.ei g_m_ear tt_59 (k := c) (by omega); rw [n_ear] at w; exact w, by have w := hT.ei g_m_hds tt_60 (k := c) (by omega); rw [n_hds] at w; exact w⟩
  have bAG9 : ∀ k, k < 100 → 0 ≤ (F_aga k).toInt ∧ (F_aga k).toInt ≤ 39 := fun k hk => by have w := hT.ei g_m_aga tt_73 (k := k) (by omega); rw [n_aga] at w; exact w
  have bBY9 : ∀ k, k < 100 → 0 ≤ (F_by k).toInt ∧ (F_by k).toInt ≤ 39 := fun k hk => by have w := hT.ei g_m_by tt_72 (k := k) (by omega); rw [n_by] at w; exact w
  have hag9 : ∀ c, c < c0.toInt.toNat → 0 ≤ (F_aga c).toInt ∧ (F_aga c).toInt < 40 ∧ 0 ≤ (F_by c).toInt ∧ (F_by c).toInt < 40 := fun c hc => by have a9 := bAG9 c (by omega); have b9 := bBY9 c (by omega); omega
  have z_wkl : F_wkl c0.toInt.toNat = 0 := hx_num_z2 nu_qc cl_wkl ?o7
  case o7 => omega
  have z_owd : F_owd c0.toInt.toNat = 0 := hx_num_z2 nu_qc cl_owd ?o8
  case o8 => omega
  have z_gds : F_gds c0.toInt.toNat = 0 := hx_num_z2 nu_qc cl_gds ?o9
  case o9 => omega
  have hwd := jw mw f_mw; rw [n_mw] at hwd
  have hWK := jr mr f_mr; rw [n_mr, f_m_acts] at hWK
  have hRP := jp mp mn f_mp f_mn; rw [n_mp, n_mn, f_m_acts] at hRP
  have hPL := jl ml f_ml; rw [n_ml, f_m_claims, f_m_acts] at hPL
  have hHC := jh mh f_mh; rw [n_mh, f_m_heardMany, f_m_claims] at hHC
  have hTR := jt mt f_mt; rw [n_mt] at hTR
  have hHF := jf mh m_fou f_mh f_m_fou; rw [n_mh, n_m_fou, f_m_claims] at hHF
  refine lv_aload_n hx hb dL_law_1076 rfl (lv_at hl 2 rfl) ?_
  refine lv_aload_n hx hb dL_law_1077 rfl (lv_at hl 3 rfl) ?_
  refine lv_iload_n hx hb dL_law_1078 rfl (lv_at hl 0 rfl) ?_
  refine lv_iconst (v := 1) hx hb dL_law_1079 ?o10 ?_
  case o10 => decide
  refine lv_iadd hx hb dL_law_1080 ?_
  have rg_680 := i32_r i
  refine lv_topi (fun x_681 ex_681 => ?_)
  have zx_681 : x_681.toInt = i.toInt + 1 := ?o11
  case o11 =>
    rw [ex_681]
    refine i32_add rfl ?o12 ?o13 ?o14
    case o12 => decide
    case o13 => omega
    case o14 => omega
  refine va_sld hx hb hX hbl hbA hW.2.2.2.1 (vp_in_iff.mpr ⟨?o15, ?o16⟩) dL_law_1081 ?_
  case o15 => omega
  case o16 => omega
  refine lv_topi (fun x_682 ex_682 => ?_)
  refine lv_aload_n hx hb dL_law_1082 rfl (lv_at hl 3 rfl) ?_
  refine lv_iload_n hx hb dL_law_1083 rfl (lv_at hl 0 rfl) ?_
  refine lv_iconst (v := 2) hx hb dL_law_1084 ?o17 ?_
  case o17 => decide
  refine lv_iadd hx hb dL_law_1085 ?_
  refine lv_topi (fun x_683 ex_683 => ?_)
  have zx_683 : x_683.toInt = i.toInt + 2 := ?o18
  case o18 =>
    rw [ex_683]
    refine i32_add rfl ?o19 ?o20 ?o21
    case o19 => decide
    case o20 => omega
    case o21 => omega
  refine va_sld hx hb hX hbl hbA hW.2.2.2.1 (vp_in_iff.mpr ⟨?o22, ?o23⟩) dL_law_1086 ?_
  case o22 => omega
  case o23 => omega
  refine lv_topi (fun x_684 ex_684 => ?_)
  refine lv_aload_n hx hb dL_law_1087 rfl (lv_at hl 3 rfl) ?_
  refine lv_iload_n hx hb dL_law_1088 rfl (lv_at hl 0 rfl) ?_
  refine lv_iconst (v := 3) hx hb dL_law_1089 ?o24 ?_
  case o24 => decide
  refine lv_iadd hx hb dL_law_1090 ?_
  refine lv_topi (fun x_685 ex_685 => ?_)
  have zx_685 : x_685.toInt = i.toInt + 3 := ?o25
  case o25 =>
    rw [ex_685]
    refine i32_add rfl ?o26 ?o27 ?o28
    case o26 => decide
    case o27 => omega
    case o28 => omega
  refine va_sld hx hb hX hbl hbA hW.2.2.2.1 (vp_in_iff.mpr ⟨?o29, ?o30⟩) dL_law_1091 ?_
  case o29 => omega
  case o30 => omega
  refine lv_topi (fun x_686 ex_686 => ?_)
  refine lv_aload_n hx hb dL_law_1092 rfl (lv_at hl 3 rfl) ?_
  refine lv_iload_n hx hb dL_law_1093 rfl (lv_at hl 0 rfl) ?_
  refine lv_iconst (v := 4) hx hb dL_law_1094 ?o31 ?_
  case o31 => decide
  refine lv_iadd hx hb dL_law_1095 ?_
  refine lv_topi (fun x_687 ex_687 => ?_)
  have zx_687 : x_687.toInt = i.toInt + 4 := ?o32
  case o32 =>
    rw [ex_687]
    refine i32_add rfl ?o33 ?o34 ?o35
    case o33 => decide
    case o34 => omega
    case o35 => omega
  refine va_sld hx hb hX hbl hbA hW.2.2.2.1 (vp_in_iff.mpr ⟨?o36, ?o37⟩) dL_law_1096 ?_
  case o36 => omega
  case o37 => omega
  refine lv_topi (fun x_688 ex_688 => ?_)
  have hTo := hT
  refine hx_goi (hx_runVX (As := [.int x_682, .int x_684, .int x_686, .int x_688]) (rest := []) ⟨hx, hb, hml, hown, hts⟩ hW gx tt_9 (T := TX9) (N := 20) rfl (t_X9_state_v l dC dI dA L1 hl1 H.size b0 ax x_682 x_684 x_686 x_688 hT gx qc g_qc f_qc qo_py g_qo_py f_qo_py y_p0 g_y_p0 f_y_p0 y_p1 g_y_p1 f_y_p1 y_p2 g_y_p2 f_y_p2 y_p3 g_y_p3 f_y_p3 y_p4 g_y_p4 f_y_p4 F_p0 n_y_p0 F_p1 n_y_p1 F_p2 n_y_p2 F_p3 n_y_p3 F_p4 n_y_p4 c0 f_x_claimCount nw f_x_now py f_o_py F_ord cl_ord F_wkl cl_wkl F_owd cl_owd F_szd cl_szd F_gds cl_gds F_srv cl_srv c_fou cl_fou F_mh cl_hea F_jud cl_jud F_fil cl_fil nu_qc F_ml A9 hAC9 hAB hCB hps pf_qc) hZ (cwV 4 hts (hx_gV kw_937 kw_934 kw_935 kw_936 kw_94) rfl rfl rfl (by decide +kernel) ⟨Nat.le_of_ble_eq_true rfl, Nat.le_of_ble_eq_true rfl⟩) rfl hl.1 rfl (Nat.le_of_ble_eq_true rfl) dL_law_1097 ⟨(show CC + 0 ≤ 600000 from ?o38), (show SS + 0 ≤ 7302250 from ?o39)⟩) hW (fun r_691 L_689 h_690 H locs p_692 hW => ?_)
  case o38 => omega
  case o39 => omega
  obtain ⟨hr_693, hT, hs⟩ := p_692
  replace hT : hx_T T_tb L_689 h_690 := hT
  replace hs : hx_S T_tb [] L1 hl1 L_689 h_690 := hs
  replace f_qa := (hs.o gx trivial rfl).2.trans f_qa
  replace f_qp := (hs.o gx trivial rfl).2.trans f_qp
  replace f_qc := (hs.o gx trivial rfl).2.trans f_qc
  replace f_qh := (hs.o gx trivial rfl).2.trans f_qh
  replace f_qw := (hs.o gx trivial rfl).2.trans f_qw
  replace f_ql := (hs.o g_qw trivial rfl).2.trans f_ql
  replace f_m_now := (hs.o gm trivial rfl).1.trans f_m_now
  replace f_m_persons := (hs.o gm trivial rfl).1.trans f_m_persons
  replace f_m_claims := (hs.o gm trivial rfl).1.trans f_m_claims
  replace f_m_taped := (hs.o gm trivial rfl).1.trans f_m_taped
  replace f_m_acts := (hs.o gm trivial rfl).1.trans f_m_acts
  replace f_m_heardMany := (hs.o gm trivial rfl).1.trans f_m_heardMany
  replace f_m_lines := (hs.o gm trivial rfl).1.trans f_m_lines
  replace f_m_listed := (hs.o gm trivial rfl).1.trans f_m_listed
  replace f_m_walkedMany := (hs.o gm trivial rfl).1.trans f_m_walkedMany
  replace f_m_payments := (hs.o gm trivial rfl).1.trans f_m_payments
  replace f_x_now := (hs.o gx trivial rfl).1.trans f_x_now
  replace f_x_personCount := (hs.o gx trivial rfl).1.trans f_x_personCount
  replace f_x_claimCount := (hs.o gx trivial rfl).1.trans f_x_claimCount
  replace f_x_tapeLength := (hs.o gx trivial rfl).1.trans f_x_tapeLength
  replace f_x_actCount := (hs.o gx trivial rfl).1.trans f_x_actCount
  replace f_x_heardCount := (hs.o gx trivial rfl).1.trans f_x_heardCount
  replace f_mw := (hs.o gm trivial rfl).2.trans f_mw
  replace f_mr := (hs.o gm trivial rfl).2.trans f_mr
  replace f_mp := (hs.o gm trivial rfl).2.trans f_mp
  replace f_mn := (hs.o gm trivial rfl).2.trans f_mn
  replace f_ml := (hs.o gm trivial rfl).2.trans f_ml
  replace f_mh := (hs.o gm trivial rfl).2.trans f_mh
  replace f_mt := (hs.o gm trivial rfl).2.trans f_mt
  replace f_m_fou := (hs.o gm trivial rfl).2.trans f_m_fou
  replace f_qo_ln := (hs.o gx trivial rfl).2.trans f_qo_ln
  replace f_o_ln := (hs.o g_qo_ln trivial rfl).1.trans f_o_ln
  replace f_o_lsd := (hs.o g_qw trivial rfl).1.trans f_o_lsd
  replace f_o_wkm := (hs.o g_qw trivial rfl).1.trans f_o_wkm
  replace f_qo_py := (hs.o gx trivial rfl).2.trans f_qo_py
  replace f_o_py := (hs.o g_qo_py trivial rfl).1.trans f_o_py
  replace f_b_of := (hs.o g_qo_ln trivial rfl).2.trans f_b_of
  replace f_m_of := (hs.o gm trivial rfl).2.trans f_m_of
  replace f_b_wf := (hs.o g_qo_ln trivial rfl).2.trans f_b_wf
  replace f_m_wf := (hs.o gm trivial rfl).2.trans f_m_wf
  replace f_b_df := (hs.o g_qo_ln trivial rfl).2.trans f_b_df
  replace f_m_df := (hs.o gm trivial rfl).2.trans f_m_df
  replace f_b_kf := (hs.o g_qo_ln trivial rfl).2.trans f_b_kf
  replace f_m_kf := (hs.o gm trivial rfl).2.trans f_m_kf
  replace f_b_sf := (hs.o g_qo_ln trivial rfl).2.trans f_b_sf
  replace f_m_sf := (hs.o gm trivial rfl).2.trans f_m_sf
  replace f_b_bf := (hs.o g_qo_ln trivial rfl).2.trans f_b_bf
  replace f_m_lst := (hs.o gm trivial rfl).2.trans f_m_lst
  replace f_qtp := (hs.o gx trivial rfl).2.trans f_qtp
  replace f_m_tp := (hs.o gm trivial rfl).2.trans f_m_tp
  replace f_m_dead := (hs.o gm trivial rfl).2.trans f_m_dead
  replace f_m_isj := (hs.o gm trivial rfl).2.trans f_m_isj
  replace f_m_dox := (hs.o gm trivial rfl).2.trans f_m_dox
  replace f_m_doy := (hs.o gm trivial rfl).2.trans f_m_doy
  replace f_qlt := (hs.o g_qw trivial rfl).2.trans f_qlt
  replace f_qlf := (hs.o g_qw trivial rfl).2.trans f_qlf
  replace f_m_wkd := (hs.o gm trivial rfl).2.trans f_m_wkd
  replace f_m_aga := (hs.o gm trivial rfl).2.trans f_m_aga
  replace f_qwo := (hs.o gx trivial rfl).2.trans f_qwo
  replace f_m_ad := (hs.o gm trivial rfl).2.trans f_m_ad
  replace f_m_by := (hs.o gm trivial rfl).2.trans f_m_by
  replace f_m_ho := (hs.o gm trivial rfl).2.trans f_m_ho
  replace f_m_fc := (hs.o gm trivial rfl).2.trans f_m_fc
  replace f_m_nt := (hs.o gm trivial rfl).2.trans f_m_nt
  replace f_m_wt := (hs.o gm trivial rfl).2.trans f_m_wt
  replace f_m_be := (hs.o gm trivial rfl).2.trans f_m_be
  replace f_m_bor := (hs.o gm trivial rfl).2.trans f_m_bor
  replace f_m_kin := (hs.o gm trivial rfl).2.trans f_m_kin
  replace f_m_sum := (hs.o gm trivial rfl).2.trans f_m_sum
  replace f_m_fro := (hs.o gm trivial rfl).2.trans f_m_fro
  replace f_m_fil := (hs.o gm trivial rfl).2.trans f_m_fil
  replace f_m_jud := (hs.o gm trivial rfl).2.trans f_m_jud
  replace f_m_ear := (hs.o gm trivial rfl).2.trans f_m_ear
  replace f_m_hds := (hs.o gm trivial rfl).2.trans f_m_hds
  replace f_m_ord := (hs.o gm trivial rfl).2.trans f_m_ord
  replace f_m_wkl := (hs.o gm trivial rfl).2.trans f_m_wkl
  replace f_m_owd := (hs.o gm trivial rfl).2.trans f_m_owd
  replace f_m_gds := (hs.o gm trivial rfl).2.trans f_m_gds
  replace f_m_szd := (hs.o gm trivial rfl).2.trans f_m_szd
  replace f_m_srv := (hs.o gm trivial rfl).2.trans f_m_srv
  replace f_y_p0 := (hs.o g_qo_py trivial rfl).2.trans f_y_p0
  replace f_m_p0 := (hs.o gm trivial rfl).2.trans f_m_p0
  replace f_y_p1 := (hs.o g_qo_py trivial rfl).2.trans f_y_p1
  replace f_m_p1 := (hs.o gm trivial rfl).2.trans f_m_p1
  replace f_y_p2 := (hs.o g_qo_py trivial rfl).2.trans f_y_p2
  replace f_m_p2 := (hs.o gm trivial rfl).2.trans f_m_p2
  replace f_y_p3 := (hs.o g_qo_py trivial rfl).2.trans f_y_p3
  replace f_m_p3 := (hs.o gm trivial rfl).2.trans f_m_p3
  replace f_y_p4 := (hs.o g_qo_py trivial rfl).2.trans f_y_p4
  replace f_m_p4 := (hs.o gm trivial rfl).2.trans f_m_p4
  replace f_qrg9 := (hs.o gx trivial rfl).2.trans f_qrg9
  replace f_y_ls := (hs.o g_qrg9 trivial rfl).2.trans f_y_ls
  replace f_m_rl := (hs.o gm trivial rfl).2.trans f_m_rl
  replace ffv_677 := (hs.o g_qrg9 trivial rfl).1.trans ffv_677
  replace ffv_678 := (hs.o gm trivial rfl).1.trans ffv_678
  replace ffv_679 := (hs.o gm trivial rfl).1.trans ffv_679
  replace pf_qa : ∀ j : Nat, (j : Int) < (h_690.2.1 ax 6).toInt → h_690.2.2 qa j ≠ none := by
    intro j hj; rw [(hs.o gx trivial rfl).1] at hj; rw [(hs.a g_qa rfl j).2]; exact pf_qa j hj
  replace pf_qp : ∀ j : Nat, (j : Int) < (h_690.2.1 ax 8).toInt → h_690.2.2 qp j ≠ none := by
    intro j hj; rw [(hs.o gx trivial rfl).1] at hj; rw [(hs.a g_qp rfl j).2]; exact pf_qp j hj
  replace pf_qc : ∀ j : Nat, (j : Int) < (h_690.2.1 ax 11).toInt → h_690.2.2 qc j ≠ none := by
    intro j hj; rw [(hs.o gx trivial rfl).1] at hj; rw [(hs.a g_qc rfl j).2]; exact pf_qc j hj
  replace pf_qh : ∀ j : Nat, (j : Int) < (h_690.2.1 ax 13).toInt → h_690.2.2 qh j ≠ none := by
    intro j hj; rw [(hs.o gx trivial rfl).1] at hj; rw [(hs.a g_qh rfl j).2]; exact pf_qh j hj
  replace pf_ql : ∀ j : Nat, (j : Int) < (h_690.2.1 qw 0).toInt → h_690.2.2 ql j ≠ none := by
    intro j hj; rw [(hs.o g_qw trivial rfl).1] at hj; rw [(hs.a g_ql rfl j).2]; exact pf_ql j hj
  replace cl_lst : hx_col 8 h_690 ql 0 = c_lst := (hx_col_S hs hTo g_ql tt_40 tt_2 rfl rfl).trans cl_lst
  replace cl_dead : hx_col 40 h_690 qp 7 = c_dead := (hx_col_S hs hTo g_qp tt_44 tt_4 rfl rfl).trans cl_dead
  replace cl_isj : hx_col 40 h_690 qp 8 = c_isj := (hx_col_S hs hTo g_qp tt_44 tt_4 rfl rfl).trans cl_isj
  replace cl_dox : hx_col 40 h_690 qp 5 = c_dox := (hx_col_S hs hTo g_qp tt_44 tt_4 rfl rfl).trans cl_dox
  replace cl_doy : hx_col 40 h_690 qp 6 = c_doy := (hx_col_S hs hTo g_qp tt_44 tt_4 rfl rfl).trans cl_doy
  replace cl_fou : hx_col 100 h_690 qc 10 = c_fou := (hx_col_S hs hTo g_qc tt_45 tt_2 rfl rfl).trans cl_fou
  replace cl_tri : hx_col 100 h_690 qc 9 = c_tri := (hx_col_S hs hTo g_qc tt_45 tt_2 rfl rfl).trans cl_tri
  replace cl_bor : hx_col 40 h_690 qp 1 = F_bor := (hx_col_S hs hTo g_qp tt_44 tt_4 rfl rfl).trans cl_bor
  replace cl_kin : hx_col 40 h_690 qp 2 = F_kin := (hx_col_S hs hTo g_qp tt_44 tt_4 rfl rfl).trans cl_kin
  replace cl_sum : hx_col 100 h_690 qc 6 = F_sum := (hx_col_S hs hTo g_qc tt_45 tt_2 rfl rfl).trans cl_sum
  replace cl_fro : hx_col 100 h_690 qc 7 = F_fro := (hx_col_S hs hTo g_qc tt_45 tt_2 rfl rfl).trans cl_fro
  replace cl_fil : hx_col 100 h_690 qc 8 = F_fil := (hx_col_S hs hTo g_qc tt_45 tt_2 rfl rfl).trans cl_fil
  replace cl_hea : hx_col 100 h_690 qc 11 = F_mh := (hx_col_S hs hTo g_qc tt_45 tt_2 rfl rfl).trans cl_hea
  replace cl_jud : hx_col 100 h_690 qc 12 = F_jud := (hx_col_S hs hTo g_qc tt_45 tt_2 rfl rfl).trans cl_jud
  replace cl_ear : hx_col 40 h_690 qp 3 = F_ear := (hx_col_S hs hTo g_qp tt_44 tt_4 rfl rfl).trans cl_ear
  replace cl_hds : hx_col 40 h_690 qp 4 = F_hds := (hx_col_S hs hTo g_qp tt_44 tt_4 rfl rfl).trans cl_hds
  replace cl_ord : hx_col 100 h_690 qc 13 = F_ord := (hx_col_S hs hTo g_qc tt_45 tt_2 rfl rfl).trans cl_ord
  replace cl_wkl : hx_col 100 h_690 qc 14 = F_wkl := (hx_col_S hs hTo g_qc tt_45 tt_2 rfl rfl).trans cl_wkl
  replace cl_owd : hx_col 100 h_690 qc 15 = F_owd := (hx_col_S hs hTo g_qc tt_45 tt_2 rfl rfl).trans cl_owd
  replace cl_gds : hx_col 100 h_690 qc 17 = F_gds := (hx_col_S hs hTo g_qc tt_45 tt_2 rfl rfl).trans cl_gds
  replace cl_szd : hx_col 100 h_690 qc 16 = F_szd := (hx_col_S hs hTo g_qc tt_45 tt_2 rfl rfl).trans cl_szd
  replace cl_srv : hx_col 100 h_690 qc 18 = F_srv := (hx_col_S hs hTo g_qc tt_45 tt_2 rfl rfl).trans cl_srv
  replace nu_qp : hx_num 40 h_690 qp 0 (np.toInt) := hx_num_S hs hTo g_qp tt_44 tt_4 rfl rfl nu_qp
  replace nu_qc : hx_num 100 h_690 qc 0 (c0.toInt) := hx_num_S hs hTo g_qc tt_45 tt_2 rfl rfl nu_qc
  replace sb_list : hx_LQ 8 100 h_690 ql qc := hx_LQ_S hs g_ql g_qc rfl rfl sb_list
  replace hDF : hw_DF h_690 qc qp 2 F_aga c0.toInt := hw_DF_S hs hTo g_qc g_qp tt_45 tt_2 rfl rfl rfl hDF
  replace hRA9 : hv_RA h_690 qa qwo a0.toInt A9 := hv_RA_S hs hTo g_qa g_qwo tt_43 tt_0 rfl rfl rfl rfl rfl rfl ?o40 hRA9
  case o40 => omega
  replace hDP : hw_DF h_690 qc qp 1 F_by c0.toInt := hw_DF_S hs hTo g_qc g_qp tt_45 tt_2 rfl rfl rfl hDP
  replace hAC9 : hv_AC h_690 qc F_ml c0.toInt A9 := hv_AC_S hs hTo g_qc tt_45 tt_2 rfl tt_0 rfl rfl rfl rfl rfl rfl rfl hAC9
  replace hFX : hv_FX 8 4 h_690 qc cF9L c0.toInt := hv_FX_S hs hTo g_qc tt_45 tt_2 rfl rfl rfl rfl hFX
  replace hBX : hv_FX 3 5 h_690 qc F_be c0.toInt := hv_FX_S hs hTo g_qc tt_45 tt_2 rfl rfl rfl rfl hBX
  replace hHL : hv_HL h_690 qh qc F_ho m0.toInt c0.toInt := hv_HL_S hs g_qh g_qc rfl rfl hHL
  replace n_mw : h_690.2.1 mw = F_mw := (funext fun j => (hs.a g_mw rfl j).1).trans n_mw
  replace n_mr : h_690.2.1 mr = F_mr := (funext fun j => (hs.a g_mr rfl j).1).trans n_mr
  replace n_mp : h_690.2.1 mp = F_mp := (funext fun j => (hs.a g_mp rfl j).1).trans n_mp
  replace n_mn : h_690.2.1 mn = F_mn := (funext fun j => (hs.a g_mn rfl j).1).trans n_mn
  replace n_ml : h_690.2.1 ml = F_ml := (funext fun j => (hs.a g_ml rfl j).1).trans n_ml
  replace n_mh : h_690.2.1 mh = F_mh := (funext fun j => (hs.a g_mh rfl j).1).trans n_mh
  replace n_mt : h_690.2.1 mt = F_mt := (funext fun j => (hs.a g_mt rfl j).1).trans n_mt
  replace n_m_fou : h_690.2.1 m_fou = F_m_fou := (funext fun j => (hs.a g_m_fou rfl j).1).trans n_m_fou
  replace n_b_of : h_690.2.1 b_of = B_of := (funext fun j => (hs.a g_b_of rfl j).1).trans n_b_of
  replace n_m_of : h_690.2.1 m_of = F_of := (funext fun j => (hs.a g_m_of rfl j).1).trans n_m_of
  replace n_b_wf : h_690.2.1 b_wf = B_wf := (funext fun j => (hs.a g_b_wf rfl j).1).trans n_b_wf
  replace n_m_wf : h_690.2.1 m_wf = F_wf := (funext fun j => (hs.a g_m_wf rfl j).1).trans n_m_wf
  replace n_b_df : h_690.2.1 b_df = B_df := (funext fun j => (hs.a g_b_df rfl j).1).trans n_b_df
  replace n_m_df : h_690.2.1 m_df = F_df := (funext fun j => (hs.a g_m_df rfl j).1).trans n_m_df
  replace n_b_kf : h_690.2.1 b_kf = B_kf := (funext fun j => (hs.a g_b_kf rfl j).1).trans n_b_kf
  replace n_m_kf : h_690.2.1 m_kf = F_kf := (funext fun j => (hs.a g_m_kf rfl j).1).trans n_m_kf
  replace n_b_sf : h_690.2.1 b_sf = B_sf := (funext fun j => (hs.a g_b_sf rfl j).1).trans n_b_sf
  replace n_m_sf : h_690.2.1 m_sf = F_sf := (funext fun j => (hs.a g_m_sf rfl j).1).trans n_m_sf
  replace n_b_bf : h_690.2.1 b_bf = bfL := (funext fun j => (hs.a g_b_bf rfl j).1).trans n_b_bf
  replace n_lst : h_690.2.1 m_lst = F_lst := (funext fun j => (hs.a g_m_lst rfl j).1).trans n_lst
  replace n_tp : h_690.2.1 m_tp = F_tp := (funext fun j => (hs.a g_m_tp rfl j).1).trans n_tp
  replace n_qtp : h_690.2.1 qtp = F_tp := (funext fun j => (hs.a g_qtp rfl j).1).trans n_qtp
  replace n_dead : h_690.2.1 m_dead = F_dead := (funext fun j => (hs.a g_m_dead rfl j).1).trans n_dead
  replace n_isj : h_690.2.1 m_isj = F_isj := (funext fun j => (hs.a g_m_isj rfl j).1).trans n_isj
  replace n_dox : h_690.2.1 m_dox = F_dox := (funext fun j => (hs.a g_m_dox rfl j).1).trans n_dox
  replace n_doy : h_690.2.1 m_doy = F_doy := (funext fun j => (hs.a g_m_doy rfl j).1).trans n_doy
  replace n_qlt : h_690.2.1 qlt = F_qlt := (funext fun j => (hs.a g_qlt rfl j).1).trans n_qlt
  replace n_m_wkd : h_690.2.1 m_wkd = F_m_wkd := (funext fun j => (hs.a g_m_wkd rfl j).1).trans n_m_wkd
  replace n_aga : h_690.2.1 m_aga = F_aga := (funext fun j => (hs.a g_m_aga rfl j).1).trans n_aga
  replace n_ad : h_690.2.1 m_ad = F_ad := (funext fun j => (hs.a g_m_ad rfl j).1).trans n_ad
  replace n_by : h_690.2.1 m_by = F_by := (funext fun j => (hs.a g_m_by rfl j).1).trans n_by
  replace n_ho : h_690.2.1 m_ho = F_ho := (funext fun j => (hs.a g_m_ho rfl j).1).trans n_ho
  replace n_fc : h_690.2.1 m_fc = F_fc := (funext fun j => (hs.a g_m_fc rfl j).1).trans n_fc
  replace n_nt : h_690.2.1 m_nt = F_nt := (funext fun j => (hs.a g_m_nt rfl j).1).trans n_nt
  replace n_wt : h_690.2.1 m_wt = F_wt := (funext fun j => (hs.a g_m_wt rfl j).1).trans n_wt
  replace n_be : h_690.2.1 m_be = F_be := (funext fun j => (hs.a g_m_be rfl j).1).trans n_be
  replace n_bor : h_690.2.1 m_bor = F_bor := (funext fun j => (hs.a g_m_bor rfl j).1).trans n_bor
  replace n_kin : h_690.2.1 m_kin = F_kin := (funext fun j => (hs.a g_m_kin rfl j).1).trans n_kin
  replace n_sum : h_690.2.1 m_sum = F_sum := (funext fun j => (hs.a g_m_sum rfl j).1).trans n_sum
  replace n_fro : h_690.2.1 m_fro = F_fro := (funext fun j => (hs.a g_m_fro rfl j).1).trans n_fro
  replace n_fil : h_690.2.1 m_fil = F_fil := (funext fun j => (hs.a g_m_fil rfl j).1).trans n_fil
  replace n_jud : h_690.2.1 m_jud = F_jud := (funext fun j => (hs.a g_m_jud rfl j).1).trans n_jud
  replace n_ear : h_690.2.1 m_ear = F_ear := (funext fun j => (hs.a g_m_ear rfl j).1).trans n_ear
  replace n_hds : h_690.2.1 m_hds = F_hds := (funext fun j => (hs.a g_m_hds rfl j).1).trans n_hds
  replace n_ord : h_690.2.1 m_ord = F_ord := (funext fun j => (hs.a g_m_ord rfl j).1).trans n_ord
  replace n_wkl : h_690.2.1 m_wkl = F_wkl := (funext fun j => (hs.a g_m_wkl rfl j).1).trans n_wkl
  replace n_owd : h_690.2.1 m_owd = F_owd := (funext fun j => (hs.a g_m_owd rfl j).1).trans n_owd
  replace n_gds : h_690.2.1 m_gds = F_gds := (funext fun j => (hs.a g_m_gds rfl j).1).trans n_gds
  replace n_szd : h_690.2.1 m_szd = F_szd := (funext fun j => (hs.a g_m_szd rfl j).1).trans n_szd
  replace n_srv : h_690.2.1 m_srv = F_srv := (funext fun j => (hs.a g_m_srv rfl j).1).trans n_srv
  replace n_p0 : h_690.2.1 m_p0 = F_p0 := (funext fun j => (hs.a g_m_p0 rfl j).1).trans n_p0
  replace n_y_p0 : h_690.2.1 y_p0 = F_p0 := (funext fun j => (hs.a g_y_p0 rfl j).1).trans n_y_p0
  replace n_p1 : h_690.2.1 m_p1 = F_p1 := (funext fun j => (hs.a g_m_p1 rfl j).1).trans n_p1
  replace n_y_p1 : h_690.2.1 y_p1 = F_p1 := (funext fun j => (hs.a g_y_p1 rfl j).1).trans n_y_p1
  replace n_p2 : h_690.2.1 m_p2 = F_p2 := (funext fun j => (hs.a g_m_p2 rfl j).1).trans n_p2
  replace n_y_p2 : h_690.2.1 y_p2 = F_p2 := (funext fun j => (hs.a g_y_p2 rfl j).1).trans n_y_p2
  replace n_p3 : h_690.2.1 m_p3 = F_p3 := (funext fun j => (hs.a g_m_p3 rfl j).1).trans n_p3
  replace n_y_p3 : h_690.2.1 y_p3 = F_p3 := (funext fun j => (hs.a g_y_p3 rfl j).1).trans n_y_p3
  replace n_p4 : h_690.2.1 m_p4 = F_p4 := (funext fun j => (hs.a g_m_p4 rfl j).1).trans n_p4
  replace n_y_p4 : h_690.2.1 y_p4 = F_p4 := (funext fun j => (hs.a g_y_p4 rfl j).1).trans n_y_p4
  replace n_y_ls : h_690.2.1 y_ls = F_y_ls := (funext fun j => (hs.a g_y_ls rfl j).1).trans n_y_ls
  replace n_m_rl : h_690.2.1 m_rl = F_m_rl := (funext fun j => (hs.a g_m_rl rfl j).1).trans n_m_rl
  replace gx := gx.S hs
  replace gm := gm.S hs
  replace g_qa := g_qa.S hs
  replace g_qp := g_qp.S hs
  replace g_qc := g_qc.S hs
  replace g_qh := g_qh.S hs
  replace g_qw := g_qw.S hs
  replace g_ql := g_ql.S hs
  replace g_mw := g_mw.S hs
  replace g_mr := g_mr.S hs
  replace g_mp := g_mp.S hs
  replace g_mn := g_mn.S hs
  replace g_ml := g_ml.S hs
  replace g_mh := g_mh.S hs
  replace g_mt := g_mt.S hs
  replace g_m_fou := g_m_fou.S hs
  replace g_qo_ln := g_qo_ln.S hs
  replace g_qo_py := g_qo_py.S hs
  replace g_b_of := g_b_of.S hs
  replace g_m_of := g_m_of.S hs
  replace g_b_wf := g_b_wf.S hs
  replace g_m_wf := g_m_wf.S hs
  replace g_b_df := g_b_df.S hs
  replace g_m_df := g_m_df.S hs
  replace g_b_kf := g_b_kf.S hs
  replace g_m_kf := g_m_kf.S hs
  replace g_b_sf := g_b_sf.S hs
  replace g_m_sf := g_m_sf.S hs
  replace g_b_bf := g_b_bf.S hs
  replace g_m_lst := g_m_lst.S hs
  replace g_qtp := g_qtp.S hs
  replace g_m_tp := g_m_tp.S hs
  replace g_m_dead := g_m_dead.S hs
  replace g_m_isj := g_m_isj.S hs
  replace g_m_dox := g_m_dox.S hs
  replace g_m_doy := g_m_doy.S hs
  replace g_qlt := g_qlt.S hs
  replace g_qlf := g_qlf.S hs
  replace g_m_wkd := g_m_wkd.S hs
  replace g_m_aga := g_m_aga.S hs
  replace g_qwo := g_qwo.S hs
  replace g_m_ad := g_m_ad.S hs
  replace g_m_by := g_m_by.S hs
  replace g_m_ho := g_m_ho.S hs
  replace g_m_fc := g_m_fc.S hs
  replace g_m_nt := g_m_nt.S hs
  replace g_m_wt := g_m_wt.S hs
  replace g_m_be := g_m_be.S hs
  replace g_m_bor := g_m_bor.S hs
  replace g_m_kin := g_m_kin.S hs
  replace g_m_sum := g_m_sum.S hs
  replace g_m_fro := g_m_fro.S hs
  replace g_m_fil := g_m_fil.S hs
  replace g_m_jud := g_m_jud.S hs
  replace g_m_ear := g_m_ear.S hs
  replace g_m_hds := g_m_hds.S hs
  replace g_m_ord := g_m_ord.S hs
  replace g_m_wkl := g_m_wkl.S hs
  replace g_m_owd := g_m_owd.S hs
  replace g_m_gds := g_m_gds.S hs
  replace g_m_szd := g_m_szd.S hs
  replace g_m_srv := g_m_srv.S hs
  replace g_y_p0 := g_y_p0.S hs
  replace g_m_p0 := g_m_p0.S hs
  replace g_y_p1 := g_y_p1.S hs
  replace g_m_p1 := g_m_p1.S hs
  replace g_y_p2 := g_y_p2.S hs
  replace g_m_p2 := g_m_p2.S hs
  replace g_y_p3 := g_y_p3.S hs
  replace g_m_p3 := g_m_p3.S hs
  replace g_y_p4 := g_y_p4.S hs
  replace g_m_p4 := g_m_p4.S hs
  replace g_qrg9 := g_qrg9.S hs
  replace g_y_ls := g_y_ls.S hs
  replace g_m_rl := g_m_rl.S hs
  refine lv_pop hx hb dL_law_1100 rfl ?_
  refine lv_aload_n hx hb dL_law_1101 rfl (lv_at hl 1 rfl) ?_
  refine lv_aload_n hx hb dL_law_1102 rfl (lv_at hl 3 rfl) ?_
  refine lv_iload_n hx hb dL_law_1103 rfl (lv_at hl 0 rfl) ?_
  refine lv_iconst (v := 1) hx hb dL_law_1104 ?o41 ?_
  case o41 => decide
  refine lv_iadd hx hb dL_law_1105 ?_
  refine lv_topi (fun x_694 ex_694 => ?_)
  have zx_694 : x_694.toInt = i.toInt + 1 := ?o42
  case o42 =>
    rw [ex_694]
    refine i32_add rfl ?o43 ?o44 ?o45
    case o43 => decide
    case o44 => omega
    case o45 => omega
  obtain rfl : x_681 = x_694 := ex_681.trans ex_694.symm
  refine va_sld hx hb hX hbl hbA hW.2.2.2.1 (vp_in_iff.mpr ⟨?o46, ?o47⟩) dL_law_1106 ?_
  case o46 => omega
  case o47 => omega
  refine lv_topi (fun x_695 ex_695 => ?_)
  obtain rfl : x_682 = x_695 := ex_682.trans ex_695.symm
  refine lv_aload_n hx hb dL_law_1107 rfl (lv_at hl 3 rfl) ?_
  refine lv_iload_n hx hb dL_law_1108 rfl (lv_at hl 0 rfl) ?_
  refine lv_iconst (v := 2) hx hb dL_law_1109 ?o48 ?_
  case o48 => decide
  refine lv_iadd hx hb dL_law_1110 ?_
  refine lv_topi (fun x_696 ex_696 => ?_)
  have zx_696 : x_696.toInt = i.toInt + 2 := ?o49
  case o49 =>
    rw [ex_696]
    refine i32_add rfl ?o50 ?o51 ?o52
    case o50 => decide
    case o51 => omega
    case o52 => omega
  obtain rfl : x_683 = x_696 := ex_683.trans ex_696.symm
  refine va_sld hx hb hX hbl hbA hW.2.2.2.1 (vp_in_iff.mpr ⟨?o53, ?o54⟩) dL_law_1111 ?_
  case o53 => omega
  case o54 => omega
  refine lv_topi (fun x_697 ex_697 => ?_)
  obtain rfl : x_684 = x_697 := ex_684.trans ex_697.symm
  refine lv_aload_n hx hb dL_law_1112 rfl (lv_at hl 3 rfl) ?_
  refine lv_iload_n hx hb dL_law_1113 rfl (lv_at hl 0 rfl) ?_
  refine lv_iconst (v := 3) hx hb dL_law_1114 ?o55 ?_
  case o55 => decide
  refine lv_iadd hx hb dL_law_1115 ?_
  refine lv_topi (fun x_698 ex_698 => ?_)
  have zx_698 : x_698.toInt = i.toInt + 3 := ?o56
  case o56 =>
    rw [ex_698]
    refine i32_add rfl ?o57 ?o58 ?o59
    case o57 => decide
    case o58 => omega
    case o59 => omega
  obtain rfl : x_685 = x_698 := ex_685.trans ex_698.symm
  refine va_sld hx hb hX hbl hbA hW.2.2.2.1 (vp_in_iff.mpr ⟨?o60, ?o61⟩) dL_law_1116 ?_
  case o60 => omega
  case o61 => omega
  refine lv_topi (fun x_699 ex_699 => ?_)
  obtain rfl : x_686 = x_699 := ex_686.trans ex_699.symm
  refine lv_aload_n hx hb dL_law_1117 rfl (lv_at hl 3 rfl) ?_
  refine lv_iload_n hx hb dL_law_1118 rfl (lv_at hl 0 rfl) ?_
  refine lv_iconst (v := 4) hx hb dL_law_1119 ?o62 ?_
  case o62 => decide
  refine lv_iadd hx hb dL_law_1120 ?_
  refine lv_topi (fun x_700 ex_700 => ?_)
  have zx_700 : x_700.toInt = i.toInt + 4 := ?o63
  case o63 =>
    rw [ex_700]
    refine i32_add rfl ?o64 ?o65 ?o66
    case o64 => decide
    case o65 => omega
    case o66 => omega
  obtain rfl : x_687 = x_700 := ex_687.trans ex_700.symm
  refine va_sld hx hb hX hbl hbA hW.2.2.2.1 (vp_in_iff.mpr ⟨?o67, ?o68⟩) dL_law_1121 ?_
  case o67 => omega
  case o68 => omega
  refine lv_topi (fun x_701 ex_701 => ?_)
  obtain rfl : x_688 = x_701 := ex_688.trans ex_701.symm
  have hTo := hT
  refine hx_goi (hx_runV (As := [.int x_682, .int x_684, .int x_686, .int x_688]) (rest := []) ⟨hx, hb, hml, hown, hts⟩ hW gm tt_10 (T := TX10) (N := 98) rfl (t_X10_state_v l dC dI dA L_689 h_690 H.size am x_682 x_684 x_686 x_688 hT gm m_fou g_m_fou f_m_fou mh g_mh f_mh m_jud g_m_jud f_m_jud m_ord g_m_ord f_m_ord m_srv g_m_srv f_m_srv m_szd g_m_szd f_m_szd m_gds g_m_gds f_m_gds m_owd g_m_owd f_m_owd m_wkl g_m_wkl f_m_wkl ml g_ml f_ml mr g_mr f_mr m_p0 g_m_p0 f_m_p0 m_p1 g_m_p1 f_m_p1 m_p2 g_m_p2 f_m_p2 m_p3 g_m_p3 f_m_p3 m_p4 g_m_p4 f_m_p4 m_fil g_m_fil f_m_fil F_m_fou n_m_fou F_mh n_mh F_jud n_jud F_ord n_ord F_srv n_srv F_szd n_szd F_gds n_gds F_owd n_owd F_wkl n_wkl F_ml n_ml F_mr n_mr F_p0 n_p0 F_p1 n_p1 F_p2 n_p2 F_p3 n_p3 F_p4 n_p4 F_fil n_fil c0 f_m_claims a0 f_m_acts nw f_m_now py f_m_payments F_ad F_mn F_mp A9 hCA9 hPL) (cwV 4 hts (hx_gV kw_1673 kw_1670 kw_1671 kw_1672 kw_103) rfl rfl rfl (by decide +kernel) ⟨Nat.le_of_ble_eq_true rfl, Nat.le_of_ble_eq_true rfl⟩) rfl hl.1 rfl (Nat.le_of_ble_eq_true rfl) dL_law_1122 ⟨(show CC + 0 + 0 ≤ 600000 from ?o69), (show SS + 0 + 0 ≤ 7302250 from ?o70)⟩) hW (fun r_704 L_702 h_703 H locs p_705 hW => ?_)
  case o69 => omega
  case o70 => omega
  obtain ⟨hr_706, hT, hs⟩ := p_705
  replace hT : hx_T T_tb L_702 h_703 := hT
  replace hs : hx_S T_tb [(10, 67), (10, 68), (10, 69), (10, 70), (10, 71)] L_689 h_690 L_702 h_703 := hs
  replace f_qa := (hs.o gx trivial rfl).2.trans f_qa
  replace f_qp := (hs.o gx trivial rfl).2.trans f_qp
  replace f_qc := (hs.o gx trivial rfl).2.trans f_qc
  replace f_qh := (hs.o gx trivial rfl).2.trans f_qh
  replace f_qw := (hs.o gx trivial rfl).2.trans f_qw
  replace f_ql := (hs.o g_qw trivial rfl).2.trans f_ql
  replace f_m_now := (hs.o gm trivial rfl).1.trans f_m_now
  replace f_m_persons := (hs.o gm trivial rfl).1.trans f_m_persons
  replace f_m_claims := (hs.o gm trivial rfl).1.trans f_m_claims
  replace f_m_taped := (hs.o gm trivial rfl).1.trans f_m_taped
  replace f_m_acts := (hs.o gm trivial rfl).1.trans f_m_acts
  replace f_m_heardMany := (hs.o gm trivial rfl).1.trans f_m_heardMany
  replace f_m_lines := (hs.o gm trivial rfl).1.trans f_m_lines
  replace f_m_listed := (hs.o gm trivial rfl).1.trans f_m_listed
  replace f_m_walkedMany := (hs.o gm trivial rfl).1.trans f_m_walkedMany
  replace f_m_payments := (hs.o gm trivial rfl).1.trans f_m_payments
  replace f_x_now := (hs.o gx trivial rfl).1.trans f_x_now
  replace f_x_personCount := (hs.o gx trivial rfl).1.trans f_x_personCount
  replace f_x_claimCount := (hs.o gx trivial rfl).1.trans f_x_claimCount
  replace f_x_tapeLength := (hs.o gx trivial rfl).1.trans f_x_tapeLength
  replace f_x_actCount := (hs.o gx trivial rfl).1.trans f_x_actCount
  replace f_x_heardCount := (hs.o gx trivial rfl).1.trans f_x_heardCount
  replace f_mw := (hs.o gm trivial rfl).2.trans f_mw
  replace f_mr := (hs.o gm trivial rfl).2.trans f_mr
  replace f_mp := (hs.o gm trivial rfl).2.trans f_mp
  replace f_mn := (hs.o gm trivial rfl).2.trans f_mn
  replace f_ml := (hs.o gm trivial rfl).2.trans f_ml
  replace f_mh := (hs.o gm trivial rfl).2.trans f_mh
  replace f_mt := (hs.o gm trivial rfl).2.trans f_mt
  replace f_m_fou := (hs.o gm trivial rfl).2.trans f_m_fou
  replace f_qo_ln := (hs.o gx trivial rfl).2.trans f_qo_ln
  replace f_o_ln := (hs.o g_qo_ln trivial rfl).1.trans f_o_ln
  replace f_o_lsd := (hs.o g_qw trivial rfl).1.trans f_o_lsd
  replace f_o_wkm := (hs.o g_qw trivial rfl).1.trans f_o_wkm
  replace f_qo_py := (hs.o gx trivial rfl).2.trans f_qo_py
  replace f_o_py := (hs.o g_qo_py trivial rfl).1.trans f_o_py
  replace f_b_of := (hs.o g_qo_ln trivial rfl).2.trans f_b_of
  replace f_m_of := (hs.o gm trivial rfl).2.trans f_m_of
  replace f_b_wf := (hs.o g_qo_ln trivial rfl).2.trans f_b_wf
  replace f_m_wf := (hs.o gm trivial rfl).2.trans f_m_wf
  replace f_b_df := (hs.o g_qo_ln trivial rfl).2.trans f_b_df
  replace f_m_df := (hs.o gm trivial rfl).2.trans f_m_df
  replace f_b_kf := (hs.o g_qo_ln trivial rfl).2.trans f_b_kf
  replace f_m_kf := (hs.o gm trivial rfl).2.trans f_m_kf
  replace f_b_sf := (hs.o g_qo_ln trivial rfl).2.trans f_b_sf
  replace f_m_sf := (hs.o gm trivial rfl).2.trans f_m_sf
  replace f_b_bf := (hs.o g_qo_ln trivial rfl).2.trans f_b_bf
  replace f_m_lst := (hs.o gm trivial rfl).2.trans f_m_lst
  replace f_qtp := (hs.o gx trivial rfl).2.trans f_qtp
  replace f_m_tp := (hs.o gm trivial rfl).2.trans f_m_tp
  replace f_m_dead := (hs.o gm trivial rfl).2.trans f_m_dead
  replace f_m_isj := (hs.o gm trivial rfl).2.trans f_m_isj
  replace f_m_dox := (hs.o gm trivial rfl).2.trans f_m_dox
  replace f_m_doy := (hs.o gm trivial rfl).2.trans f_m_doy
  replace f_qlt := (hs.o g_qw trivial rfl).2.trans f_qlt
  replace f_qlf := (hs.o g_qw trivial rfl).2.trans f_qlf
  replace f_m_wkd := (hs.o gm trivial rfl).2.trans f_m_wkd
  replace f_m_aga := (hs.o gm trivial rfl).2.trans f_m_aga
  replace f_qwo := (hs.o gx trivial rfl).2.trans f_qwo
  replace f_m_ad := (hs.o gm trivial rfl).2.trans f_m_ad
  replace f_m_by := (hs.o gm trivial rfl).2.trans f_m_by
  replace f_m_ho := (hs.o gm trivial rfl).2.trans f_m_ho
  replace f_m_fc := (hs.o gm trivial rfl).2.trans f_m_fc
  replace f_m_nt := (hs.o gm trivial rfl).2.trans f_m_nt
  replace f_m_wt := (hs.o gm trivial rfl).2.trans f_m_wt
  replace f_m_be := (hs.o gm trivial rfl).2.trans f_m_be
  replace f_m_bor := (hs.o gm trivial rfl).2.trans f_m_bor
  replace f_m_kin := (hs.o gm trivial rfl).2.trans f_m_kin
  replace f_m_sum := (hs.o gm trivial rfl).2.trans f_m_sum
  replace f_m_fro := (hs.o gm trivial rfl).2.trans f_m_fro
  replace f_m_fil := (hs.o gm trivial rfl).2.trans f_m_fil
  replace f_m_jud := (hs.o gm trivial rfl).2.trans f_m_jud
  replace f_m_ear := (hs.o gm trivial rfl).2.trans f_m_ear
  replace f_m_hds := (hs.o gm trivial rfl).2.trans f_m_hds
  replace f_m_ord := (hs.o gm trivial rfl).2.trans f_m_ord
  replace f_m_wkl := (hs.o gm trivial rfl).2.trans f_m_wkl
  replace f_m_owd := (hs.o gm trivial rfl).2.trans f_m_owd
  replace f_m_gds := (hs.o gm trivial rfl).2.trans f_m_gds
  replace f_m_szd := (hs.o gm trivial rfl).2.trans f_m_szd
  replace f_m_srv := (hs.o gm trivial rfl).2.trans f_m_srv
  replace f_y_p0 := (hs.o g_qo_py trivial rfl).2.trans f_y_p0
  replace f_m_p0 := (hs.o gm trivial rfl).2.trans f_m_p0
  replace f_y_p1 := (hs.o g_qo_py trivial rfl).2.trans f_y_p1
  replace f_m_p1 := (hs.o gm trivial rfl).2.trans f_m_p1
  replace f_y_p2 := (hs.o g_qo_py trivial rfl).2.trans f_y_p2
  replace f_m_p2 := (hs.o gm trivial rfl).2.trans f_m_p2
  replace f_y_p3 := (hs.o g_qo_py trivial rfl).2.trans f_y_p3
  replace f_m_p3 := (hs.o gm trivial rfl).2.trans f_m_p3
  replace f_y_p4 := (hs.o g_qo_py trivial rfl).2.trans f_y_p4
  replace f_m_p4 := (hs.o gm trivial rfl).2.trans f_m_p4
  replace f_qrg9 := (hs.o gx trivial rfl).2.trans f_qrg9
  replace f_y_ls := (hs.o g_qrg9 trivial rfl).2.trans f_y_ls
  replace f_m_rl := (hs.o gm trivial rfl).2.trans f_m_rl
  replace ffv_677 := (hs.o g_qrg9 trivial rfl).1.trans ffv_677
  replace ffv_678 := (hs.o gm trivial rfl).1.trans ffv_678
  replace ffv_679 := (hs.o gm trivial rfl).1.trans ffv_679
  replace pf_qa : ∀ j : Nat, (j : Int) < (h_703.2.1 ax 6).toInt → h_703.2.2 qa j ≠ none := by
    intro j hj; rw [(hs.o gx trivial rfl).1] at hj; rw [(hs.a g_qa rfl j).2]; exact pf_qa j hj
  replace pf_qp : ∀ j : Nat, (j : Int) < (h_703.2.1 ax 8).toInt → h_703.2.2 qp j ≠ none := by
    intro j hj; rw [(hs.o gx trivial rfl).1] at hj; rw [(hs.a g_qp rfl j).2]; exact pf_qp j hj
  replace pf_qc : ∀ j : Nat, (j : Int) < (h_703.2.1 ax 11).toInt → h_703.2.2 qc j ≠ none := by
    intro j hj; rw [(hs.o gx trivial rfl).1] at hj; rw [(hs.a g_qc rfl j).2]; exact pf_qc j hj
  replace pf_qh : ∀ j : Nat, (j : Int) < (h_703.2.1 ax 13).toInt → h_703.2.2 qh j ≠ none := by
    intro j hj; rw [(hs.o gx trivial rfl).1] at hj; rw [(hs.a g_qh rfl j).2]; exact pf_qh j hj
  replace pf_ql : ∀ j : Nat, (j : Int) < (h_703.2.1 qw 0).toInt → h_703.2.2 ql j ≠ none := by
    intro j hj; rw [(hs.o g_qw trivial rfl).1] at hj; rw [(hs.a g_ql rfl j).2]; exact pf_ql j hj
  replace cl_lst : hx_col 8 h_703 ql 0 = c_lst := (hx_col_S hs hTo g_ql tt_40 tt_2 rfl rfl).trans cl_lst
  replace cl_dead : hx_col 40 h_703 qp 7 = c_dead := (hx_col_S hs hTo g_qp tt_44 tt_4 rfl rfl).trans cl_dead
  replace cl_isj : hx_col 40 h_703 qp 8 = c_isj := (hx_col_S hs hTo g_qp tt_44 tt_4 rfl rfl).trans cl_isj
  replace cl_dox : hx_col 40 h_703 qp 5 = c_dox := (hx_col_S hs hTo g_qp tt_44 tt_4 rfl rfl).trans cl_dox
  replace cl_doy : hx_col 40 h_703 qp 6 = c_doy := (hx_col_S hs hTo g_qp tt_44 tt_4 rfl rfl).trans cl_doy
  replace cl_fou : hx_col 100 h_703 qc 10 = c_fou := (hx_col_S hs hTo g_qc tt_45 tt_2 rfl rfl).trans cl_fou
  replace cl_tri : hx_col 100 h_703 qc 9 = c_tri := (hx_col_S hs hTo g_qc tt_45 tt_2 rfl rfl).trans cl_tri
  replace cl_bor : hx_col 40 h_703 qp 1 = F_bor := (hx_col_S hs hTo g_qp tt_44 tt_4 rfl rfl).trans cl_bor
  replace cl_kin : hx_col 40 h_703 qp 2 = F_kin := (hx_col_S hs hTo g_qp tt_44 tt_4 rfl rfl).trans cl_kin
  replace cl_sum : hx_col 100 h_703 qc 6 = F_sum := (hx_col_S hs hTo g_qc tt_45 tt_2 rfl rfl).trans cl_sum
  replace cl_fro : hx_col 100 h_703 qc 7 = F_fro := (hx_col_S hs hTo g_qc tt_45 tt_2 rfl rfl).trans cl_fro
  replace cl_fil : hx_col 100 h_703 qc 8 = F_fil := (hx_col_S hs hTo g_qc tt_45 tt_2 rfl rfl).trans cl_fil
  replace cl_hea : hx_col 100 h_703 qc 11 = F_mh := (hx_col_S hs hTo g_qc tt_45 tt_2 rfl rfl).trans cl_hea
  replace cl_jud : hx_col 100 h_703 qc 12 = F_jud := (hx_col_S hs hTo g_qc tt_45 tt_2 rfl rfl).trans cl_jud
  replace cl_ear : hx_col 40 h_703 qp 3 = F_ear := (hx_col_S hs hTo g_qp tt_44 tt_4 rfl rfl).trans cl_ear
  replace cl_hds : hx_col 40 h_703 qp 4 = F_hds := (hx_col_S hs hTo g_qp tt_44 tt_4 rfl rfl).trans cl_hds
  replace cl_ord : hx_col 100 h_703 qc 13 = F_ord := (hx_col_S hs hTo g_qc tt_45 tt_2 rfl rfl).trans cl_ord
  replace cl_wkl : hx_col 100 h_703 qc 14 = F_wkl := (hx_col_S hs hTo g_qc tt_45 tt_2 rfl rfl).trans cl_wkl
  replace cl_owd : hx_col 100 h_703 qc 15 = F_owd := (hx_col_S hs hTo g_qc tt_45 tt_2 rfl rfl).trans cl_owd
  replace cl_gds : hx_col 100 h_703 qc 17 = F_gds := (hx_col_S hs hTo g_qc tt_45 tt_2 rfl rfl).trans cl_gds
  replace cl_szd : hx_col 100 h_703 qc 16 = F_szd := (hx_col_S hs hTo g_qc tt_45 tt_2 rfl rfl).trans cl_szd
  replace cl_srv : hx_col 100 h_703 qc 18 = F_srv := (hx_col_S hs hTo g_qc tt_45 tt_2 rfl rfl).trans cl_srv
  replace nu_qp : hx_num 40 h_703 qp 0 (np.toInt) := hx_num_S hs hTo g_qp tt_44 tt_4 rfl rfl nu_qp
  replace nu_qc : hx_num 100 h_703 qc 0 (c0.toInt) := hx_num_S hs hTo g_qc tt_45 tt_2 rfl rfl nu_qc
  replace sb_list : hx_LQ 8 100 h_703 ql qc := hx_LQ_S hs g_ql g_qc rfl rfl sb_list
  replace hDF : hw_DF h_703 qc qp 2 F_aga c0.toInt := hw_DF_S hs hTo g_qc g_qp tt_45 tt_2 rfl rfl rfl hDF
  replace hRA9 : hv_RA h_703 qa qwo a0.toInt A9 := hv_RA_S hs hTo g_qa g_qwo tt_43 tt_0 rfl rfl rfl rfl rfl rfl ?o71 hRA9
  case o71 => omega
  replace hDP : hw_DF h_703 qc qp 1 F_by c0.toInt := hw_DF_S hs hTo g_qc g_qp tt_45 tt_2 rfl rfl rfl hDP
  replace hAC9 : hv_AC h_703 qc F_ml c0.toInt A9 := hv_AC_S hs hTo g_qc tt_45 tt_2 rfl tt_0 rfl rfl rfl rfl rfl rfl rfl hAC9
  replace hFX : hv_FX 8 4 h_703 qc cF9L c0.toInt := hv_FX_S hs hTo g_qc tt_45 tt_2 rfl rfl rfl rfl hFX
  replace hBX : hv_FX 3 5 h_703 qc F_be c0.toInt := hv_FX_S hs hTo g_qc tt_45 tt_2 rfl rfl rfl rfl hBX
  replace hHL : hv_HL h_703 qh qc F_ho m0.toInt c0.toInt := hv_HL_S hs g_qh g_qc rfl rfl hHL
  replace n_mw : h_703.2.1 mw = F_mw := (funext fun j => (hs.a g_mw rfl j).1).trans n_mw
  replace n_mr : h_703.2.1 mr = F_mr := (funext fun j => (hs.a g_mr rfl j).1).trans n_mr
  replace n_mp : h_703.2.1 mp = F_mp := (funext fun j => (hs.a g_mp rfl j).1).trans n_mp
  replace n_mn : h_703.2.1 mn = F_mn := (funext fun j => (hs.a g_mn rfl j).1).trans n_mn
  replace n_ml : h_703.2.1 ml = F_ml := (funext fun j => (hs.a g_ml rfl j).1).trans n_ml
  replace n_mh : h_703.2.1 mh = F_mh := (funext fun j => (hs.a g_mh rfl j).1).trans n_mh
  replace n_mt : h_703.2.1 mt = F_mt := (funext fun j => (hs.a g_mt rfl j).1).trans n_mt
  replace n_m_fou : h_703.2.1 m_fou = F_m_fou := (funext fun j => (hs.a g_m_fou rfl j).1).trans n_m_fou
  replace n_b_of : h_703.2.1 b_of = B_of := (funext fun j => (hs.a g_b_of rfl j).1).trans n_b_of
  replace n_m_of : h_703.2.1 m_of = F_of := (funext fun j => (hs.a g_m_of rfl j).1).trans n_m_of
  replace n_b_wf : h_703.2.1 b_wf = B_wf := (funext fun j => (hs.a g_b_wf rfl j).1).trans n_b_wf
  replace n_m_wf : h_703.2.1 m_wf = F_wf := (funext fun j => (hs.a g_m_wf rfl j).1).trans n_m_wf
  replace n_b_df : h_703.2.1 b_df = B_df := (funext fun j => (hs.a g_b_df rfl j).1).trans n_b_df
  replace n_m_df : h_703.2.1 m_df = F_df := (funext fun j => (hs.a g_m_df rfl j).1).trans n_m_df
  replace n_b_kf : h_703.2.1 b_kf = B_kf := (funext fun j => (hs.a g_b_kf rfl j).1).trans n_b_kf
  replace n_m_kf : h_703.2.1 m_kf = F_kf := (funext fun j => (hs.a g_m_kf rfl j).1).trans n_m_kf
  replace n_b_sf : h_703.2.1 b_sf = B_sf := (funext fun j => (hs.a g_b_sf rfl j).1).trans n_b_sf
  replace n_m_sf : h_703.2.1 m_sf = F_sf := (funext fun j => (hs.a g_m_sf rfl j).1).trans n_m_sf
  replace n_b_bf : h_703.2.1 b_bf = bfL := (funext fun j => (hs.a g_b_bf rfl j).1).trans n_b_bf
  replace n_lst : h_703.2.1 m_lst = F_lst := (funext fun j => (hs.a g_m_lst rfl j).1).trans n_lst
  replace n_tp : h_703.2.1 m_tp = F_tp := (funext fun j => (hs.a g_m_tp rfl j).1).trans n_tp
  replace n_qtp : h_703.2.1 qtp = F_tp := (funext fun j => (hs.a g_qtp rfl j).1).trans n_qtp
  replace n_dead : h_703.2.1 m_dead = F_dead := (funext fun j => (hs.a g_m_dead rfl j).1).trans n_dead
  replace n_isj : h_703.2.1 m_isj = F_isj := (funext fun j => (hs.a g_m_isj rfl j).1).trans n_isj
  replace n_dox : h_703.2.1 m_dox = F_dox := (funext fun j => (hs.a g_m_dox rfl j).1).trans n_dox
  replace n_doy : h_703.2.1 m_doy = F_doy := (funext fun j => (hs.a g_m_doy rfl j).1).trans n_doy
  replace n_qlt : h_703.2.1 qlt = F_qlt := (funext fun j => (hs.a g_qlt rfl j).1).trans n_qlt
  replace n_m_wkd : h_703.2.1 m_wkd = F_m_wkd := (funext fun j => (hs.a g_m_wkd rfl j).1).trans n_m_wkd
  replace n_aga : h_703.2.1 m_aga = F_aga := (funext fun j => (hs.a g_m_aga rfl j).1).trans n_aga
  replace n_ad : h_703.2.1 m_ad = F_ad := (funext fun j => (hs.a g_m_ad rfl j).1).trans n_ad
  replace n_by : h_703.2.1 m_by = F_by := (funext fun j => (hs.a g_m_by rfl j).1).trans n_by
  replace n_ho : h_703.2.1 m_ho = F_ho := (funext fun j => (hs.a g_m_ho rfl j).1).trans n_ho
  replace n_fc : h_703.2.1 m_fc = F_fc := (funext fun j => (hs.a g_m_fc rfl j).1).trans n_fc
  replace n_nt : h_703.2.1 m_nt = F_nt := (funext fun j => (hs.a g_m_nt rfl j).1).trans n_nt
  replace n_wt : h_703.2.1 m_wt = F_wt := (funext fun j => (hs.a g_m_wt rfl j).1).trans n_wt
  replace n_be : h_703.2.1 m_be = F_be := (funext fun j => (hs.a g_m_be rfl j).1).trans n_be
  replace n_bor : h_703.2.1 m_bor = F_bor := (funext fun j => (hs.a g_m_bor rfl j).1).trans n_bor
  replace n_kin : h_703.2.1 m_kin = F_kin := (funext fun j => (hs.a g_m_kin rfl j).1).trans n_kin
  replace n_sum : h_703.2.1 m_sum = F_sum := (funext fun j => (hs.a g_m_sum rfl j).1).trans n_sum
  replace n_fro : h_703.2.1 m_fro = F_fro := (funext fun j => (hs.a g_m_fro rfl j).1).trans n_fro
  replace n_fil : h_703.2.1 m_fil = F_fil := (funext fun j => (hs.a g_m_fil rfl j).1).trans n_fil
  replace n_jud : h_703.2.1 m_jud = F_jud := (funext fun j => (hs.a g_m_jud rfl j).1).trans n_jud
  replace n_ear : h_703.2.1 m_ear = F_ear := (funext fun j => (hs.a g_m_ear rfl j).1).trans n_ear
  replace n_hds : h_703.2.1 m_hds = F_hds := (funext fun j => (hs.a g_m_hds rfl j).1).trans n_hds
  replace n_ord : h_703.2.1 m_ord = F_ord := (funext fun j => (hs.a g_m_ord rfl j).1).trans n_ord
  replace n_wkl : h_703.2.1 m_wkl = F_wkl := (funext fun j => (hs.a g_m_wkl rfl j).1).trans n_wkl
  replace n_owd : h_703.2.1 m_owd = F_owd := (funext fun j => (hs.a g_m_owd rfl j).1).trans n_owd
  replace n_gds : h_703.2.1 m_gds = F_gds := (funext fun j => (hs.a g_m_gds rfl j).1).trans n_gds
  replace n_szd : h_703.2.1 m_szd = F_szd := (funext fun j => (hs.a g_m_szd rfl j).1).trans n_szd
  replace n_srv : h_703.2.1 m_srv = F_srv := (funext fun j => (hs.a g_m_srv rfl j).1).trans n_srv
  replace n_p0 : h_703.2.1 m_p0 = F_p0 := (funext fun j => (hs.a g_m_p0 rfl j).1).trans n_p0
  replace n_y_p0 : h_703.2.1 y_p0 = F_p0 := (funext fun j => (hs.a g_y_p0 rfl j).1).trans n_y_p0
  replace n_p1 : h_703.2.1 m_p1 = F_p1 := (funext fun j => (hs.a g_m_p1 rfl j).1).trans n_p1
  replace n_y_p1 : h_703.2.1 y_p1 = F_p1 := (funext fun j => (hs.a g_y_p1 rfl j).1).trans n_y_p1
  replace n_p2 : h_703.2.1 m_p2 = F_p2 := (funext fun j => (hs.a g_m_p2 rfl j).1).trans n_p2
  replace n_y_p2 : h_703.2.1 y_p2 = F_p2 := (funext fun j => (hs.a g_y_p2 rfl j).1).trans n_y_p2
  replace n_p3 : h_703.2.1 m_p3 = F_p3 := (funext fun j => (hs.a g_m_p3 rfl j).1).trans n_p3
  replace n_y_p3 : h_703.2.1 y_p3 = F_p3 := (funext fun j => (hs.a g_y_p3 rfl j).1).trans n_y_p3
  replace n_p4 : h_703.2.1 m_p4 = F_p4 := (funext fun j => (hs.a g_m_p4 rfl j).1).trans n_p4
  replace n_y_p4 : h_703.2.1 y_p4 = F_p4 := (funext fun j => (hs.a g_y_p4 rfl j).1).trans n_y_p4
  replace n_y_ls : h_703.2.1 y_ls = F_y_ls := (funext fun j => (hs.a g_y_ls rfl j).1).trans n_y_ls
  replace n_m_rl : h_703.2.1 m_rl = F_m_rl := (funext fun j => (hs.a g_m_rl rfl j).1).trans n_m_rl
  replace gx := gx.S hs
  replace gm := gm.S hs
  replace g_qa := g_qa.S hs
  replace g_qp := g_qp.S hs
  replace g_qc := g_qc.S hs
  replace g_qh := g_qh.S hs
  replace g_qw := g_qw.S hs
  replace g_ql := g_ql.S hs
  replace g_mw := g_mw.S hs
  replace g_mr := g_mr.S hs
  replace g_mp := g_mp.S hs
  replace g_mn := g_mn.S hs
  replace g_ml := g_ml.S hs
  replace g_mh := g_mh.S hs
  replace g_mt := g_mt.S hs
  replace g_m_fou := g_m_fou.S hs
  replace g_qo_ln := g_qo_ln.S hs
  replace g_qo_py := g_qo_py.S hs
  replace g_b_of := g_b_of.S hs
  replace g_m_of := g_m_of.S hs
  replace g_b_wf := g_b_wf.S hs
  replace g_m_wf := g_m_wf.S hs
  replace g_b_df := g_b_df.S hs
  replace g_m_df := g_m_df.S hs
  replace g_b_kf := g_b_kf.S hs
  replace g_m_kf := g_m_kf.S hs
  replace g_b_sf := g_b_sf.S hs
  replace g_m_sf := g_m_sf.S hs
  replace g_b_bf := g_b_bf.S hs
  replace g_m_lst := g_m_lst.S hs
  replace g_qtp := g_qtp.S hs
  replace g_m_tp := g_m_tp.S hs
  replace g_m_dead := g_m_dead.S hs
  replace g_m_isj := g_m_isj.S hs
  replace g_m_dox := g_m_dox.S hs
  replace g_m_doy := g_m_doy.S hs
  replace g_qlt := g_qlt.S hs
  replace g_qlf := g_qlf.S hs
  replace g_m_wkd := g_m_wkd.S hs
  replace g_m_aga := g_m_aga.S hs
  replace g_qwo := g_qwo.S hs
  replace g_m_ad := g_m_ad.S hs
  replace g_m_by := g_m_by.S hs
  replace g_m_ho := g_m_ho.S hs
  replace g_m_fc := g_m_fc.S hs
  replace g_m_nt := g_m_nt.S hs
  replace g_m_wt := g_m_wt.S hs
  replace g_m_be := g_m_be.S hs
  replace g_m_bor := g_m_bor.S hs
  replace g_m_kin := g_m_kin.S hs
  replace g_m_sum := g_m_sum.S hs
  replace g_m_fro := g_m_fro.S hs
  replace g_m_fil := g_m_fil.S hs
  replace g_m_jud := g_m_jud.S hs
  replace g_m_ear := g_m_ear.S hs
  replace g_m_hds := g_m_hds.S hs
  replace g_m_ord := g_m_ord.S hs
  replace g_m_wkl := g_m_wkl.S hs
  replace g_m_owd := g_m_owd.S hs
  replace g_m_gds := g_m_gds.S hs
  replace g_m_szd := g_m_szd.S hs
  replace g_m_srv := g_m_srv.S hs
  replace g_y_p0 := g_y_p0.S hs
  replace g_m_p0 := g_m_p0.S hs
  replace g_y_p1 := g_y_p1.S hs
  replace g_m_p1 := g_m_p1.S hs
  replace g_y_p2 := g_y_p2.S hs
  replace g_m_p2 := g_m_p2.S hs
  replace g_y_p3 := g_y_p3.S hs
  replace g_m_p3 := g_m_p3.S hs
  replace g_y_p4 := g_y_p4.S hs
  replace g_m_p4 := g_m_p4.S hs
  replace g_qrg9 := g_qrg9.S hs
  replace g_y_ls := g_y_ls.S hs
  replace g_m_rl := g_m_rl.S hs
  refine lv_pop hx hb dL_law_1125 rfl ?_
  refine lv_goto (tgt := 1379) hx hb dL_law_1126 ?o72 ?_
  case o72 => decide
  have heq := hz_SA_eq hr_693 hr_706 (fun h0 h1 => by rw [eq_fou _ (hz_i100 h0 h1 (by omega))])
  refine W.widen (k := CC + 3) (n := SS + 179) ?o73 ?o74 ?_
  case o73 => omega
  case o74 => omega
  refine kk L_702 h_703 H locs ls hW ⟨hT, gx, gm, ⟨f_x_now.trans f_m_now.symm, f_x_personCount.trans f_m_persons.symm, f_x_claimCount.trans f_m_claims.symm, f_x_tapeLength.trans f_m_taped.symm, f_x_actCount.trans f_m_acts.symm, f_x_heardCount.trans f_m_heardMany.symm, hx_ob f_qo_ln (f_o_ln.trans f_m_lines.symm), hx_ob f_qw (f_o_lsd.trans f_m_listed.symm), hx_ob f_qw (f_o_wkm.trans f_m_walkedMany.symm), hx_ob f_qo_py (f_o_py.trans f_m_payments.symm), hx_ob f_qp ?o75, hx_ob f_qc ?o76, (fun b a r hb ha hr => ?o77), (fun b a r hb ha hr => ?o78), (fun b a r hb ha hr => ?o79), (fun b a r hb ha hr => ?o80), (fun b a r hb ha hr => ?o81), (fun b a r hb ha hr => ?o82), (fun w q c hw hq hc => ?o83), (fun w q r hw hq hr => ?o84), (fun w q r hw hq hr => ?o85), (fun c q a hc hq ha => ?o86), (fun q r hq hr => ?o87), (fun q w a b c d e p hq hw ha hb hc hd he hp => ?o88), (fun c q a hc hq ha => ?o89), (fun q c a hq hc ha => ?o90), (fun a b ha hb => ?o91), (fun c a b d e f hc ha hb hd he hf => ?o92), (fun c a hc ha => ?o93), hx_ob2 f_qp f_m_bor (cl_bor.trans n_bor.symm), hx_ob2 f_qp f_m_kin (cl_kin.trans n_kin.symm), hx_ob2 f_qc f_m_sum (cl_sum.trans n_sum.symm), hx_ob2 f_qc f_m_fro (cl_fro.trans n_fro.symm), hx_ob2 f_qc f_m_fil (cl_fil.trans n_fil.symm), hx_ob2 f_qc f_mh (cl_hea.trans n_mh.symm), hx_ob2 f_qc f_m_jud (cl_jud.trans n_jud.symm), hx_ob2 f_qp f_m_ear (cl_ear.trans n_ear.symm), hx_ob2 f_qp f_m_hds (cl_hds.trans n_hds.symm), hx_ob2 f_qc f_m_ord (cl_ord.trans n_ord.symm), hx_ob2 f_qc f_m_wkl (cl_wkl.trans n_wkl.symm), hx_ob2 f_qc f_m_owd (cl_owd.trans n_owd.symm), hx_ob2 f_qc f_m_gds (cl_gds.trans n_gds.symm), hx_ob2 f_qc f_m_szd (cl_szd.trans n_szd.symm), hx_ob2 f_qc f_m_srv (cl_srv.trans n_srv.symm), (fun p q r hp hq hr => ?o94), (fun p q r hp hq hr => ?o95), (fun p q r hp hq hr => ?o96), (fun p q r hp hq hr => ?o97), (fun p q r hp hq hr => ?o98), (fun p hp => ?o99), (fun p q r hp hq hr => ?o100), hx_ob2 f_qp f_m_dead ?o101, hx_ob2 f_qp f_m_isj ?o102, hx_ob2 f_qp f_m_dox ?o103, hx_ob2 f_qp f_m_doy ?o104, hx_ob2 f_qc f_m_fou ?o105, hx_ob2 f_qc f_mt ?o106, trivial⟩, ⟨hx_ob f_qa pf_qa, hx_ob f_qp pf_qp, hx_ob f_qc pf_qc, hx_ob f_qh pf_qh, (fun w q hw hq => ?o107)⟩, ⟨hx_ob f_mw ?o108, hx_ob f_mr ?o109, hx_ob2 f_mp f_mn ?o110, hx_ob f_ml ?o111, hx_ob f_mh ?o112, hx_ob f_mt ?o113, hx_ob2 f_mh f_m_fou ?o115⟩⟩ hl
  case o75 =>
    rw [f_x_personCount]
    exact nu_qp
  case o76 =>
    rw [f_x_claimCount]
    exact nu_qc
  case o77 =>
    obtain rfl : qo_ln = b := Option.some.inj (f_qo_ln.symm.trans hb)
    obtain rfl : b_of = a := Option.some.inj (f_b_of.symm.trans ha)
    obtain rfl : m_of = r := Option.some.inj (f_m_of.symm.trans hr)
    rw [n_b_of, n_m_of, f_o_ln]
    exact eb_of
  case o78 =>
    obtain rfl : qo_ln = b := Option.some.inj (f_qo_ln.symm.trans hb)
    obtain rfl : b_wf = a := Option.some.inj (f_b_wf.symm.trans ha)
    obtain rfl : m_wf = r := Option.some.inj (f_m_wf.symm.trans hr)
    rw [n_b_wf, n_m_wf, f_o_ln]
    exact eb_wf
  case o79 =>
    obtain rfl : qo_ln = b := Option.some.inj (f_qo_ln.symm.trans hb)
    obtain rfl : b_df = a := Option.some.inj (f_b_df.symm.trans ha)
    obtain rfl : m_df = r := Option.some.inj (f_m_df.symm.trans hr)
    rw [n_b_df, n_m_df, f_o_ln]
    exact eb_df
  case o80 =>
    obtain rfl : qo_ln = b := Option.some.inj (f_qo_ln.symm.trans hb)
    obtain rfl : b_kf = a := Option.some.inj (f_b_kf.symm.trans ha)
    obtain rfl : m_kf = r := Option.some.inj (f_m_kf.symm.trans hr)
    rw [n_b_kf, n_m_kf, f_o_ln]
    exact eb_kf
  case o81 =>
    obtain rfl : qo_ln = b := Option.some.inj (f_qo_ln.symm.trans hb)
    obtain rfl : b_sf = a := Option.some.inj (f_b_sf.symm.trans ha)
    obtain rfl : m_sf = r := Option.some.inj (f_m_sf.symm.trans hr)
    rw [n_b_sf, n_m_sf, f_o_ln]
    exact eb_sf
  case o82 =>
    obtain rfl : qo_ln = b := Option.some.inj (f_qo_ln.symm.trans hb)
    obtain rfl : b_df = a := Option.some.inj (f_b_df.symm.trans ha)
    obtain rfl : b_bf = r := Option.some.inj (f_b_bf.symm.trans hr)
    rw [n_b_df, n_b_bf, f_o_ln]
    exact ⟨hBD, hDY⟩
  case o83 =>
    obtain rfl : qw = w := Option.some.inj (f_qw.symm.trans hw)
    obtain rfl : ql = q := Option.some.inj (f_ql.symm.trans hq)
    obtain rfl : qc = c := Option.some.inj (f_qc.symm.trans hc)
    exact sb_list
  case o84 =>
    obtain rfl : qw = w := Option.some.inj (f_qw.symm.trans hw)
    obtain rfl : ql = q := Option.some.inj (f_ql.symm.trans hq)
    obtain rfl : m_lst = r := Option.some.inj (f_m_lst.symm.trans hr)
    rw [cl_lst, n_lst]
    exact eq_lst
  case o85 =>
    obtain rfl : qw = w := Option.some.inj (f_qw.symm.trans hw)
    obtain rfl : qlt = q := Option.some.inj (f_qlt.symm.trans hq)
    obtain rfl : m_wkd = r := Option.some.inj (f_m_wkd.symm.trans hr)
    rw [n_qlt, n_m_wkd, f_o_wkm]
    exact eb_wkd
  case o86 =>
    obtain rfl : qc = c := Option.some.inj (f_qc.symm.trans hc)
    obtain rfl : qp = q := Option.some.inj (f_qp.symm.trans hq)
    obtain rfl : m_aga = a := Option.some.inj (f_m_aga.symm.trans ha)
    rw [n_aga, f_x_claimCount]
    exact hw_DF_e hDF rfl rfl
  case o87 =>
    obtain rfl : qtp = q := Option.some.inj (f_qtp.symm.trans hq)
    obtain rfl : m_tp = r := Option.some.inj (f_m_tp.symm.trans hr)
    exact n_qtp.trans n_tp.symm
  case o88 =>
    obtain rfl : qa = q := Option.some.inj (f_qa.symm.trans hq)
    obtain rfl : qwo = w := Option.some.inj (f_qwo.symm.trans hw)
    obtain rfl : m_ad = a := Option.some.inj (f_m_ad.symm.trans ha)
    obtain rfl : mr = b := Option.some.inj (f_mr.symm.trans hb)
    obtain rfl : mn = c := Option.some.inj (f_mn.symm.trans hc)
    obtain rfl : mp = d := Option.some.inj (f_mp.symm.trans hd)
    obtain rfl : qc = e := Option.some.inj (f_qc.symm.trans he)
    obtain rfl : ml = p := Option.some.inj (f_ml.symm.trans hp)
    exact ⟨_, by rw [f_x_actCount]; exact hRA9, by rw [f_x_actCount, n_ad, n_mr, n_mn, n_mp]; exact hCA9, by rw [n_ml, f_x_claimCount]; exact hv_AC_e hAC9 rfl rfl rfl, hAB⟩
  case o89 =>
    obtain rfl : qc = c := Option.some.inj (f_qc.symm.trans hc)
    obtain rfl : qp = q := Option.some.inj (f_qp.symm.trans hq)
    obtain rfl : m_by = a := Option.some.inj (f_m_by.symm.trans ha)
    rw [n_by, f_x_claimCount]
    exact hw_DF_e hDP rfl rfl
  case o90 =>
    obtain rfl : qh = q := Option.some.inj (f_qh.symm.trans hq)
    obtain rfl : qc = c := Option.some.inj (f_qc.symm.trans hc)
    obtain rfl : m_ho = a := Option.some.inj (f_m_ho.symm.trans ha)
    rw [n_ho, f_x_heardCount, f_x_claimCount]
    exact hv_HL_e hHL rfl rfl rfl
  case o91 =>
    obtain rfl : m_ho = a := Option.some.inj (f_m_ho.symm.trans ha)
    obtain rfl : mh = b := Option.some.inj (f_mh.symm.trans hb)
    rw [n_ho, n_mh, f_m_heardMany, f_m_claims]
    exact hHO9
  case o92 =>
    obtain rfl : qc = c := Option.some.inj (f_qc.symm.trans hc)
    obtain rfl : m_fc = a := Option.some.inj (f_m_fc.symm.trans ha)
    obtain rfl : m_nt = b := Option.some.inj (f_m_nt.symm.trans hb)
    obtain rfl : m_wt = d := Option.some.inj (f_m_wt.symm.trans hd)
    obtain rfl : m_sum = e := Option.some.inj (f_m_sum.symm.trans he)
    obtain rfl : mh = f := Option.some.inj (f_mh.symm.trans hf)
    exact ⟨cF9L, by rw [f_x_claimCount]; exact hFX, by rw [n_fc, n_nt, n_wt, n_sum, n_mh, f_x_claimCount]; exact hFR9⟩
  case o93 =>
    obtain rfl : qc = c := Option.some.inj (f_qc.symm.trans hc)
    obtain rfl : m_be = a := Option.some.inj (f_m_be.symm.trans ha)
    rw [n_be, f_x_claimCount]
    exact hv_FX_e hBX rfl rfl
  case o94 =>
    obtain rfl : qo_py = p := Option.some.inj (f_qo_py.symm.trans hp)
    obtain rfl : y_p0 = q := Option.some.inj (f_y_p0.symm.trans hq)
    obtain rfl : m_p0 = r := Option.some.inj (f_m_p0.symm.trans hr)
    exact n_y_p0.trans n_p0.symm
  case o95 =>
    obtain rfl : qo_py = p := Option.some.inj (f_qo_py.symm.trans hp)
    obtain rfl : y_p1 = q := Option.some.inj (f_y_p1.symm.trans hq)
    obtain rfl : m_p1 = r := Option.some.inj (f_m_p1.symm.trans hr)
    exact n_y_p1.trans n_p1.symm
  case o96 =>
    obtain rfl : qo_py = p := Option.some.inj (f_qo_py.symm.trans hp)
    obtain rfl : y_p2 = q := Option.some.inj (f_y_p2.symm.trans hq)
    obtain rfl : m_p2 = r := Option.some.inj (f_m_p2.symm.trans hr)
    exact n_y_p2.trans n_p2.symm
  case o97 =>
    obtain rfl : qo_py = p := Option.some.inj (f_qo_py.symm.trans hp)
    obtain rfl : y_p3 = q := Option.some.inj (f_y_p3.symm.trans hq)
    obtain rfl : m_p3 = r := Option.some.inj (f_m_p3.symm.trans hr)
    exact n_y_p3.trans n_p3.symm
  case o98 =>
    obtain rfl : qo_py = p := Option.some.inj (f_qo_py.symm.trans hp)
    obtain rfl : y_p4 = q := Option.some.inj (f_y_p4.symm.trans hq)
    obtain rfl : m_p4 = r := Option.some.inj (f_m_p4.symm.trans hr)
    exact n_y_p4.trans n_p4.symm
  case o99 =>
    obtain rfl : qrg9 = p := Option.some.inj (f_qrg9.symm.trans hp)
    rw [ffv_677, ffv_678, ffv_679]
    exact hNQ9
  case o100 =>
    obtain rfl : qrg9 = p := Option.some.inj (f_qrg9.symm.trans hp)
    obtain rfl : y_ls = q := Option.some.inj (f_y_ls.symm.trans hq)
    obtain rfl : m_rl = r := Option.some.inj (f_m_rl.symm.trans hr)
    rw [n_y_ls, n_m_rl, ffv_677]
    exact hRL9
  case o101 =>
    rw [cl_dead, n_dead]
    exact eq_dead
  case o102 =>
    rw [cl_isj, n_isj]
    exact eq_isj
  case o103 =>
    rw [cl_dox, n_dox]
    exact eq_dox
  case o104 =>
    rw [cl_doy, n_doy]
    exact eq_doy
  case o105 =>
    rw [cl_fou, n_m_fou]
    exact eq_fou
  case o106 =>
    rw [cl_tri, n_mt]
    exact eq_tri
  case o107 =>
    obtain rfl : qw = w := Option.some.inj (f_qw.symm.trans hw)
    obtain rfl : ql = q := Option.some.inj (f_ql.symm.trans hq)
    exact pf_ql
  case o108 =>
    rw [n_mw]
    exact hwd
  case o109 =>
    rw [n_mr, f_m_acts]
    exact hWK
  case o110 =>
    rw [n_mp, n_mn, f_m_acts]
    exact hRP
  case o111 =>
    rw [n_ml, f_m_claims, f_m_acts]
    exact hPL
  case o112 =>
    rw [n_mh, f_m_heardMany, f_m_claims]
    exact hHC
  case o113 =>
    rw [n_mt]
    refine (hx_TR_le hTR ?o114)
    case o114 => omega
  case o115 =>
    rw [n_mh, n_m_fou, f_m_claims]
    exact hHF

set_option maxHeartbeats 4000000 in
set_option maxRecDepth 100000 in
theorem law_case_21 {p : Program} {e : Env} {s : State} {m : MethodId} {below : List Frame} {meth : Method} {c : Code} (l : Launch) {b LN : Nat} {xs : Nat → Int32} (hx : p.tables.exec = Jvm.exec) (hb : c.code = code) (hr : meth.sig.returnType = ret) (hlocks : meth.locks = false) (hml : c.maxLocals = 4) (hown : s.vm.findClass "SmallCourtLaw" = some m.cls) (hts : ∀ w ∈ hx_all, w.before #[Value.ref b] s = true) (hX : va_X b LN xs s s.heap) (hbl : b < s.heap.size) (hbA : ¬ s.heap.size ≤ b) (hLN : LN ≤ 3584) (dC : Nat → ClassId) (dI : Nat → Nat → Nat) (dA : Nat → ClassId) (b0 : hx_z) (ax am : Nat) (T1 : Int) (hT0 : 0 ≤ T1) (hT1 : T1 ≤ 511) (i : Int32) (hi0 : 0 ≤ i.toInt) (hiL : i.toInt + 7 ≤ LN) (CC SS : Nat) (hCC : CC + 3 ≤ 600000) (hSS : SS + 179 ≤ 7302250) (L1 : List Nat) (hl1 : hx_h) (H : Heap) (locs : List Loc) (ls : Array Slot) (hW : hx_W T_tb (P_ty dA) (dC, dI) vwCl (fun q : Nat => s.heap.size ≤ q) s.heap L1 hl1 s H locs) (hZ : hx_Xt (fun q : Nat => s.heap.size ≤ q) b0 s) (hI : hx_IV T1 ax am L1 hl1) (hl : lv_has ls 4 [(3, .int i), (2, .ref am), (1, .ref ax), (0, .ref b)]) (kk : ∀ (L2 : List Nat) (h2 : hx_h) (H2 : Heap) (locs2 : List Loc) (ls2 : Array Slot), hx_W T_tb (P_ty dA) (dC, dI) vwCl (fun q : Nat => s.heap.size ≤ q) s.heap L2 h2 s H2 locs2 → hx_IV (T1 + 1) ax am L2 h2 → lv_has ls2 4 [(3, .int i), (2, .ref am), (1, .ref ax), (0, .ref b)] → W p l e room_1 s m #[Value.ref b] below meth c H2 locs2 (CC + 3) (SS + 179) (lw_Z below #[Value.ref b] s) (F0 m 1379 ls2 [])) : W p l e room_1 s m #[Value.ref b] below meth c H locs CC SS (lw_Z below #[Value.ref b] s) (F0 m 1129 ls []) := by
  have hI9 := hI
  have hT := hI9.1
  replace hI9 := hI9.2
  have gx := hI9.1
  replace hI9 := hI9.2
  have gm := hI9.1
  replace hI9 := hI9.2
  have zq0_3 := hI9.1
  have he_nw := zq0_3.1
  replace zq0_3 := zq0_3.2
  have he_np := zq0_3.1
  replace zq0_3 := zq0_3.2
  have he_c0 := zq0_3.1
  replace zq0_3 := zq0_3.2
  have he_tl := zq0_3.1
  replace zq0_3 := zq0_3.2
  have he_a0 := zq0_3.1
  replace zq0_3 := zq0_3.2
  have he_m0 := zq0_3.1
  replace zq0_3 := zq0_3.2
  have ho_ln := zq0_3.1
  replace zq0_3 := zq0_3.2
  have ho_lsd := zq0_3.1
  replace zq0_3 := zq0_3.2
  have ho_wkm := zq0_3.1
  replace zq0_3 := zq0_3.2
  have ho_py := zq0_3.1
  replace zq0_3 := zq0_3.2
  have hn_qp := zq0_3.1
  replace zq0_3 := zq0_3.2
  have hn_qc := zq0_3.1
  replace zq0_3 := zq0_3.2
  have hk_of := zq0_3.1
  replace zq0_3 := zq0_3.2
  have hk_wf := zq0_3.1
  replace zq0_3 := zq0_3.2
  have hk_df := zq0_3.1
  replace zq0_3 := zq0_3.2
  have hk_kf := zq0_3.1
  replace zq0_3 := zq0_3.2
  have hk_sf := zq0_3.1
  replace zq0_3 := zq0_3.2
  have hkBD := zq0_3.1
  replace zq0_3 := zq0_3.2
  have hLQ := zq0_3.1
  replace zq0_3 := zq0_3.2
  have hLE := zq0_3.1
  replace zq0_3 := zq0_3.2
  have hkWD := zq0_3.1
  replace zq0_3 := zq0_3.2
  have hkDF := zq0_3.1
  replace zq0_3 := zq0_3.2
  have hkTP := zq0_3.1
  replace zq0_3 := zq0_3.2
  have hkAC := zq0_3.1
  replace zq0_3 := zq0_3.2
  have hkDP := zq0_3.1
  replace zq0_3 := zq0_3.2
  have hkHL := zq0_3.1
  replace zq0_3 := zq0_3.2
  have hkHO := zq0_3.1
  replace zq0_3 := zq0_3.2
  have hkFX := zq0_3.1
  replace zq0_3 := zq0_3.2
  have hkBX := zq0_3.1
  replace zq0_3 := zq0_3.2
  have hf_bor := zq0_3.1
  replace zq0_3 := zq0_3.2
  have hf_kin := zq0_3.1
  replace zq0_3 := zq0_3.2
  have hf_sum := zq0_3.1
  replace zq0_3 := zq0_3.2
  have hf_fro := zq0_3.1
  replace zq0_3 := zq0_3.2
  have hf_fil := zq0_3.1
  replace zq0_3 := zq0_3.2
  have hf_hea := zq0_3.1
  replace zq0_3 := zq0_3.2
  have hf_jud := zq0_3.1
  replace zq0_3 := zq0_3.2
  have hf_ear := zq0_3.1
  replace zq0_3 := zq0_3.2
  have hf_hds := zq0_3.1
  replace zq0_3 := zq0_3.2
  have hf_ord := zq0_3.1
  replace zq0_3 := zq0_3.2
  have hf_wkl := zq0_3.1
  replace zq0_3 := zq0_3.2
  have hf_owd := zq0_3.1
  replace zq0_3 := zq0_3.2
  have hf_gds := zq0_3.1
  replace zq0_3 := zq0_3.2
  have hf_szd := zq0_3.1
  replace zq0_3 := zq0_3.2
  have hf_srv := zq0_3.1
  replace zq0_3 := zq0_3.2
  have hkP0 := zq0_3.1
  replace zq0_3 := zq0_3.2
  have hkP1 := zq0_3.1
  replace zq0_3 := zq0_3.2
  have hkP2 := zq0_3.1
  replace zq0_3 := zq0_3.2
  have hkP3 := zq0_3.1
  replace zq0_3 := zq0_3.2
  have hkP4 := zq0_3.1
  replace zq0_3 := zq0_3.2
  have hkNQ := zq0_3.1
  replace zq0_3 := zq0_3.2
  have hkRL := zq0_3.1
  replace zq0_3 := zq0_3.2
  have hc_dead := zq0_3.1
  replace zq0_3 := zq0_3.2
  have hc_isj := zq0_3.1
  replace zq0_3 := zq0_3.2
  have hc_dox := zq0_3.1
  replace zq0_3 := zq0_3.2
  have hc_doy := zq0_3.1
  replace zq0_3 := zq0_3.2
  have hc_fou := zq0_3.1
  replace zq0_3 := zq0_3.2
  have hc_tri := zq0_3.1
  replace zq0_3 := zq0_3.2
  replace hI9 := hI9.2
  have zq0_4 := hI9.1
  have ia := zq0_4.1
  replace zq0_4 := zq0_4.2
  have ip := zq0_4.1
  replace zq0_4 := zq0_4.2
  have ic := zq0_4.1
  replace zq0_4 := zq0_4.2
  have ih := zq0_4.1
  replace zq0_4 := zq0_4.2
  have il := zq0_4
  replace hI9 := hI9.2
  have zq0_5 := hI9
  have jw := zq0_5.1
  replace zq0_5 := zq0_5.2
  have jr := zq0_5.1
  replace zq0_5 := zq0_5.2
  have jp := zq0_5.1
  replace zq0_5 := zq0_5.2
  have jl := zq0_5.1
  replace zq0_5 := zq0_5.2
  have jh := zq0_5.1
  replace zq0_5 := zq0_5.2
  have jt := zq0_5.1
  replace zq0_5 := zq0_5.2
  have jf := zq0_5
  obtain ⟨qa, f_qa, g_qa⟩ := hx_rf hT gx tt_9 (k := 5) (u := 43) rfl
  have pf_qa := ia qa f_qa
  obtain ⟨qp, f_qp, g_qp⟩ := hx_rf hT gx tt_9 (k := 7) (u := 44) rfl
  have pf_qp := ip qp f_qp
  obtain ⟨qc, f_qc, g_qc⟩ := hx_rf hT gx tt_9 (k := 10) (u := 45) rfl
  have pf_qc := ic qc f_qc
  obtain ⟨qh, f_qh, g_qh⟩ := hx_rf hT gx tt_9 (k := 12) (u := 46) rfl
  have pf_qh := ih qh f_qh
  obtain ⟨qw, f_qw, g_qw⟩ := hx_rf hT gx tt_9 (k := 19) (u := 8) rfl
  obtain ⟨ql, f_ql, g_ql⟩ := hx_rf hT g_qw tt_8 (k := 3) (u := 40) rfl
  have pf_ql := il qw ql f_qw f_ql
  obtain ⟨nw, f_m_now⟩ : ∃ y : Int32, hl1.2.1 am 0 = y := ⟨_, rfl⟩
  have b_nw := hT.gi gm tt_10 (k := 0) rfl
  rw [f_m_now] at b_nw
  have b_nw : 0 ≤ nw.toInt ∧ nw.toInt ≤ 7999 := b_nw
  obtain ⟨np, f_m_persons⟩ : ∃ y : Int32, hl1.2.1 am 20 = y := ⟨_, rfl⟩
  have b_np := hT.gi gm tt_10 (k := 20) rfl
  rw [f_m_persons] at b_np
  have b_np : 0 ≤ np.toInt ∧ np.toInt ≤ 40 := b_np
  obtain ⟨c0, f_m_claims⟩ : ∃ y : Int32, hl1.2.1 am 36 = y := ⟨_, rfl⟩
  have b_c0 := hT.gi gm tt_10 (k := 36) rfl
  rw [f_m_claims] at b_c0
  have b_c0 : 0 ≤ c0.toInt ∧ c0.toInt ≤ 100 := b_c0
  obtain ⟨tl, f_m_taped⟩ : ∃ y : Int32, hl1.2.1 am 7 = y := ⟨_, rfl⟩
  have b_tl := hT.gi gm tt_10 (k := 7) rfl
  rw [f_m_taped] at b_tl
  have b_tl : 0 ≤ tl.toInt ∧ tl.toInt ≤ 400 := b_tl
  obtain ⟨a0, f_m_acts⟩ : ∃ y : Int32, hl1.2.1 am 1 = y := ⟨_, rfl⟩
  have b_a0 := hT.gi gm tt_10 (k := 1) rfl
  rw [f_m_acts] at b_a0
  have b_a0 : 0 ≤ a0.toInt ∧ a0.toInt ≤ 8 := b_a0
  obtain ⟨m0, f_m_heardMany⟩ : ∃ y : Int32, hl1.2.1 am 57 = y := ⟨_, rfl⟩
  have b_m0 := hT.gi gm tt_10 (k := 57) rfl
  rw [f_m_heardMany] at b_m0
  have b_m0 : 0 ≤ m0.toInt ∧ m0.toInt ≤ 100 := b_m0
  obtain ⟨ln, f_m_lines⟩ : ∃ y : Int32, hl1.2.1 am 29 = y := ⟨_, rfl⟩
  have b_ln := hT.gi gm tt_10 (k := 29) rfl
  rw [f_m_lines] at b_ln
  have b_ln : 0 ≤ ln.toInt ∧ ln.toInt ≤ 400 := b_ln
  obtain ⟨lsd, f_m_listed⟩ : ∃ y : Int32, hl1.2.1 am 90 = y := ⟨_, rfl⟩
  have b_lsd := hT.gi gm tt_10 (k := 90) rfl
  rw [f_m_listed] at b_lsd
  have b_lsd : 0 ≤ lsd.toInt ∧ lsd.toInt ≤ 8 := b_lsd
  obtain ⟨wkm, f_m_walkedMany⟩ : ∃ y : Int32, hl1.2.1 am 92 = y := ⟨_, rfl⟩
  have b_wkm := hT.gi gm tt_10 (k := 92) rfl
  rw [f_m_walkedMany] at b_wkm
  have b_wkm : 0 ≤ wkm.toInt ∧ wkm.toInt ≤ 8 := b_wkm
  obtain ⟨py, f_m_payments⟩ : ∃ y : Int32, hl1.2.1 am 59 = y := ⟨_, rfl⟩
  have b_py := hT.gi gm tt_10 (k := 59) rfl
  rw [f_m_payments] at b_py
  have b_py : 0 ≤ py.toInt ∧ py.toInt ≤ 600 := b_py
  have f_x_now : hl1.2.1 ax 2 = nw := he_nw.trans f_m_now
  have f_x_personCount : hl1.2.1 ax 8 = np := he_np.trans f_m_persons
  have f_x_claimCount : hl1.2.1 ax 11 = c0 := he_c0.trans f_m_claims
  have f_x_tapeLength : hl1.2.1 ax 1 = tl := he_tl.trans f_m_taped
  have f_x_actCount : hl1.2.1 ax 6 = a0 := he_a0.trans f_m_acts
  have f_x_heardCount : hl1.2.1 ax 13 = m0 := he_m0.trans f_m_heardMany
  obtain ⟨mw, f_mw, g_mw⟩ := hx_rf hT gm tt_10 (k := 19) (u := 57) rfl
  obtain ⟨F_mw, n_mw⟩ : ∃ g : Nat → Int32, hl1.2.1 mw = g := ⟨_, rfl⟩
  obtain ⟨mr, f_mr, g_mr⟩ := hx_rf hT gm tt_10 (k := 3) (u := 50) rfl
  obtain ⟨F_mr, n_mr⟩ : ∃ g : Nat → Int32, hl1.2.1 mr = g := ⟨_, rfl⟩
  obtain ⟨mp, f_mp, g_mp⟩ := hx_rf hT gm tt_10 (k := 5) (u := 52) rfl
  obtain ⟨F_mp, n_mp⟩ : ∃ g : Nat → Int32, hl1.2.1 mp = g := ⟨_, rfl⟩
  obtain ⟨mn, f_mn, g_mn⟩ := hx_rf hT gm tt_10 (k := 4) (u := 51) rfl
  obtain ⟨F_mn, n_mn⟩ : ∃ g : Nat → Int32, hl1.2.1 mn = g := ⟨_, rfl⟩
  obtain ⟨ml, f_ml, g_ml⟩ := hx_rf hT gm tt_10 (k := 44) (u := 79) rfl
  obtain ⟨F_ml, n_ml⟩ : ∃ g : Nat → Int32, hl1.2.1 ml = g := ⟨_, rfl⟩
  obtain ⟨mh, f_mh, g_mh⟩ := hx_rf hT gm tt_10 (k := 47) (u := 82) rfl
  obtain ⟨F_mh, n_mh⟩ : ∃ g : Nat → Int32, hl1.2.1 mh = g := ⟨_, rfl⟩
  obtain ⟨mt, f_mt, g_mt⟩ := hx_rf hT gm tt_10 (k := 45) (u := 80) rfl
  obtain ⟨F_mt, n_mt⟩ : ∃ g : Nat → Int32, hl1.2.1 mt = g := ⟨_, rfl⟩
  obtain ⟨m_fou, f_m_fou, g_m_fou⟩ := hx_rf hT gm tt_10 (k := 46) (u := 81) rfl
  obtain ⟨F_m_fou, n_m_fou⟩ : ∃ g : Nat → Int32, hl1.2.1 m_fou = g := ⟨_, rfl⟩
  obtain ⟨qo_ln, f_qo_ln, g_qo_ln⟩ := hx_rf hT gx tt_9 (k := 9) (u := 1) rfl
  have f_o_ln : hl1.2.1 qo_ln 0 = ln := (ho_ln qo_ln f_qo_ln).trans f_m_lines
  have f_o_lsd : hl1.2.1 qw 0 = lsd := (ho_lsd qw f_qw).trans f_m_listed
  have f_o_wkm : hl1.2.1 qw 1 = wkm := (ho_wkm qw f_qw).trans f_m_walkedMany
  obtain ⟨qo_py, f_qo_py, g_qo_py⟩ := hx_rf hT gx tt_9 (k := 14) (u := 3) rfl
  have f_o_py : hl1.2.1 qo_py 0 = py := (ho_py qo_py f_qo_py).trans f_m_payments
  have nu_qp := hn_qp qp f_qp; rw [f_x_personCount] at nu_qp
  have nu_qc := hn_qc qc f_qc; rw [f_x_claimCount] at nu_qc
  obtain ⟨b_of, f_b_of, g_b_of⟩ := hx_rf hT g_qo_ln tt_1 (k := 1) (u := 13) rfl
  obtain ⟨B_of, n_b_of⟩ : ∃ g : Nat → Int32, hl1.2.1 b_of = g := ⟨_, rfl⟩
  obtain ⟨m_of, f_m_of, g_m_of⟩ := hx_rf hT gm tt_10 (k := 30) (u := 66) rfl
  obtain ⟨F_of, n_m_of⟩ : ∃ g : Nat → Int32, hl1.2.1 m_of = g := ⟨_, rfl⟩
  have eb_of := hk_of qo_ln b_of m_of f_qo_ln f_b_of f_m_of; rw [n_b_of, n_m_of, f_o_ln] at eb_of
  obtain ⟨b_wf, f_b_wf, g_b_wf⟩ := hx_rf hT g_qo_ln tt_1 (k := 2) (u := 14) rfl
  obtain ⟨B_wf, n_b_wf⟩ : ∃ g : Nat → Int32, hl1.2.1 b_wf = g := ⟨_, rfl⟩
  obtain ⟨m_wf, f_m_wf, g_m_wf⟩ := hx_rf hT gm tt_10 (k := 31) (u := 67) rfl
  obtain ⟨F_wf, n_m_wf⟩ : ∃ g : Nat → Int32, hl1.2.1 m_wf = g := ⟨_, rfl⟩
  have eb_wf := hk_wf qo_ln b_wf m_wf f_qo_ln f_b_wf f_m_wf; rw [n_b_wf, n_m_wf, f_o_ln] at eb_wf
  obtain ⟨b_df, f_b_df, g_b_df⟩ := hx_rf hT g_qo_ln tt_1 (k := 3) (u := 15) rfl
  obtain ⟨B_df, n_b_df⟩ : ∃ g : Nat → Int32, hl1.2.1 b_df = g := ⟨_, rfl⟩
  obtain ⟨m_df, f_m_df, g_m_df⟩ := hx_rf hT gm tt_10 (k := 32) (u := 68) rfl
  obtain ⟨F_df, n_m_df⟩ : ∃ g : Nat → Int32, hl1.2.1 m_df = g := ⟨_, rfl⟩
  have eb_df := hk_df qo_ln b_df m_df f_qo_ln f_b_df f_m_df; rw [n_b_df, n_m_df, f_o_ln] at eb_df
  obtain ⟨b_kf, f_b_kf, g_b_kf⟩ := hx_rf hT g_qo_ln tt_1 (k := 4) (u := 16) rfl
  obtain ⟨B_kf, n_b_kf⟩ : ∃ g : Nat → Int32, hl1.2.1 b_kf = g := ⟨_, rfl⟩
  obtain ⟨m_kf, f_m_kf, g_m_kf⟩ := hx_rf hT gm tt_10 (k := 33) (u := 69) rfl
  obtain ⟨F_kf, n_m_kf⟩ : ∃ g : Nat → Int32, hl1.2.1 m_kf = g := ⟨_, rfl⟩
  have eb_kf := hk_kf qo_ln b_kf m_kf f_qo_ln f_b_kf f_m_kf; rw [n_b_kf, n_m_kf, f_o_ln] at eb_kf
  obtain ⟨b_sf, f_b_sf, g_b_sf⟩ := hx_rf hT g_qo_ln tt_1 (k := 5) (u := 17) rfl
  obtain ⟨B_sf, n_b_sf⟩ : ∃ g : Nat → Int32, hl1.2.1 b_sf = g := ⟨_, rfl⟩
  obtain ⟨m_sf, f_m_sf, g_m_sf⟩ := hx_rf hT gm tt_10 (k := 34) (u := 70) rfl
  obtain ⟨F_sf, n_m_sf⟩ : ∃ g : Nat → Int32, hl1.2.1 m_sf = g := ⟨_, rfl⟩
  have eb_sf := hk_sf qo_ln b_sf m_sf f_qo_ln f_b_sf f_m_sf; rw [n_b_sf, n_m_sf, f_o_ln] at eb_sf
  obtain ⟨b_bf, f_b_bf, g_b_bf⟩ := hx_rf hT g_qo_ln tt_1 (k := 6) (u := 18) rfl
  obtain ⟨bfL, n_b_bf⟩ : ∃ g : Nat → Int32, hl1.2.1 b_bf = g := ⟨_, rfl⟩
  obtain ⟨hBD, hDY⟩ := hkBD qo_ln b_df b_bf f_qo_ln f_b_df f_b_bf; rw [n_b_df, n_b_bf, f_o_ln] at hBD; rw [n_b_df, f_o_ln] at hDY
  have hBDm := hy_BD_c eb_df hBD
  have hDYm : hy_DY F_df ln.toInt.toNat := fun x hx => by rw [← eb_df x hx]; exact hDY x hx
  have sb_list := hLQ qw ql qc f_qw f_ql f_qc
  obtain ⟨m_lst, f_m_lst, g_m_lst⟩ := hx_rf hT gm tt_10 (k := 91) (u := 112) rfl
  obtain ⟨F_lst, n_lst⟩ : ∃ g : Nat → Int32, hl1.2.1 m_lst = g := ⟨_, rfl⟩
  obtain ⟨c_lst, cl_lst⟩ : ∃ g : Nat → Int32, hx_col 8 hl1 ql 0 = g := ⟨_, rfl⟩
  have eq_lst := hLE qw ql m_lst f_qw f_ql f_m_lst; rw [cl_lst, n_lst] at eq_lst
  obtain ⟨qtp, f_qtp, g_qtp⟩ := hx_rf hT gx tt_9 (k := 0) (u := 42) rfl
  obtain ⟨m_tp, f_m_tp, g_m_tp⟩ := hx_rf hT gm tt_10 (k := 6) (u := 53) rfl
  obtain ⟨F_tp, n_tp⟩ : ∃ g : Nat → Int32, hl1.2.1 m_tp = g := ⟨_, rfl⟩
  have n_qtp : hl1.2.1 qtp = F_tp := (hkTP qtp m_tp f_qtp f_m_tp).trans n_tp
  obtain ⟨c_dead, cl_dead⟩ : ∃ g : Nat → Int32, hx_col 40 hl1 qp 7 = g := ⟨_, rfl⟩
  obtain ⟨m_dead, f_m_dead, g_m_dead⟩ := hx_rf hT gm tt_10 (k := 27) (u := 64) rfl
  obtain ⟨F_dead, n_dead⟩ : ∃ g : Nat → Int32, hl1.2.1 m_dead = g := ⟨_, rfl⟩
  have eq_dead := hc_dead qp m_dead f_qp f_m_dead; rw [cl_dead, n_dead] at eq_dead
  have z_dead : np.toInt.toNat < 40 → c_dead np.toInt.toNat = 0 := fun hj => hx_num_z nu_qp cl_dead hj ?o0
  case o0 => omega
  obtain ⟨c_isj, cl_isj⟩ : ∃ g : Nat → Int32, hx_col 40 hl1 qp 8 = g := ⟨_, rfl⟩
  obtain ⟨m_isj, f_m_isj, g_m_isj⟩ := hx_rf hT gm tt_10 (k := 28) (u := 65) rfl
  obtain ⟨F_isj, n_isj⟩ : ∃ g : Nat → Int32, hl1.2.1 m_isj = g := ⟨_, rfl⟩
  have eq_isj := hc_isj qp m_isj f_qp f_m_isj; rw [cl_isj, n_isj] at eq_isj
  have z_isj : np.toInt.toNat < 40 → c_isj np.toInt.toNat = 0 := fun hj => hx_num_z nu_qp cl_isj hj ?o1
  case o1 => omega
  obtain ⟨c_dox, cl_dox⟩ : ∃ g : Nat → Int32, hx_col 40 hl1 qp 5 = g := ⟨_, rfl⟩
  obtain ⟨m_dox, f_m_dox, g_m_dox⟩ := hx_rf hT gm tt_10 (k := 24) (u := 61) rfl
  obtain ⟨F_dox, n_dox⟩ : ∃ g : Nat → Int32, hl1.2.1 m_dox = g := ⟨_, rfl⟩
  have eq_dox := hc_dox qp m_dox f_qp f_m_dox; rw [cl_dox, n_dox] at eq_dox
  have z_dox : np.toInt.toNat < 40 → c_dox np.toInt.toNat = 0 := fun hj => hx_num_z nu_qp cl_dox hj ?o2
  case o2 => omega
  obtain ⟨c_doy, cl_doy⟩ : ∃ g : Nat → Int32, hx_col 40 hl1 qp 6 = g := ⟨_, rfl⟩
  obtain ⟨m_doy, f_m_doy, g_m_doy⟩ := hx_rf hT gm tt_10 (k := 25) (u := 62) rfl
  obtain ⟨F_doy, n_doy⟩ : ∃ g : Nat → Int32, hl1.2.1 m_doy = g := ⟨_, rfl⟩
  have eq_doy := hc_doy qp m_doy f_qp f_m_doy; rw [cl_doy, n_doy] at eq_doy
  have z_doy : np.toInt.toNat < 40 → c_doy np.toInt.toNat = 0 := fun hj => hx_num_z nu_qp cl_doy hj ?o3
  case o3 => omega
  obtain ⟨c_fou, cl_fou⟩ : ∃ g : Nat → Int32, hx_col 100 hl1 qc 10 = g := ⟨_, rfl⟩
  have eq_fou := hc_fou qc m_fou f_qc f_m_fou; rw [cl_fou, n_m_fou] at eq_fou
  have z_fou : c0.toInt.toNat < 100 → c_fou c0.toInt.toNat = 0 := fun hj => hx_num_z nu_qc cl_fou hj ?o4
  case o4 => omega
  obtain ⟨c_tri, cl_tri⟩ : ∃ g : Nat → Int32, hx_col 100 hl1 qc 9 = g := ⟨_, rfl⟩
  have eq_tri := hc_tri qc mt f_qc f_mt; rw [cl_tri, n_mt] at eq_tri
  have z_tri : c0.toInt.toNat < 100 → c_tri c0.toInt.toNat = 0 := fun hj => hx_num_z nu_qc cl_tri hj ?o5
  case o5 => omega
  obtain ⟨qlt, f_qlt, g_qlt⟩ := hx_rf hT g_qw tt_8 (k := 2) (u := 39) rfl
  obtain ⟨qlf, f_qlf, g_qlf⟩ := hx_rf hT g_qw tt_8 (k := 4) (u := 41) rfl
  obtain ⟨m_wkd, f_m_wkd, g_m_wkd⟩ := hx_rf hT gm tt_10 (k := 93) (u := 113) rfl
  obtain ⟨F_qlt, n_qlt⟩ : ∃ g : Nat → Int32, hl1.2.1 qlt = g := ⟨_, rfl⟩
  obtain ⟨F_m_wkd, n_m_wkd⟩ : ∃ g : Nat → Int32, hl1.2.1 m_wkd = g := ⟨_, rfl⟩
  have eb_wkd := hkWD qw qlt m_wkd f_qw f_qlt f_m_wkd; rw [n_qlt, n_m_wkd, f_o_wkm] at eb_wkd
  obtain ⟨m_aga, f_m_aga, g_m_aga⟩ := hx_rf hT gm tt_10 (k := 38) (u := 73) rfl
  obtain ⟨F_aga, n_aga⟩ : ∃ g : Nat → Int32, hl1.2.1 m_aga = g := ⟨_, rfl⟩
  have hDF := hkDF qc qp m_aga f_qc f_qp f_m_aga; rw [n_aga, f_x_claimCount] at hDF
  obtain ⟨qwo, f_qwo, g_qwo⟩ := hx_rf hT gx tt_9 (k := 4) (u := 0) rfl
  obtain ⟨m_ad, f_m_ad, g_m_ad⟩ := hx_rf hT gm tt_10 (k := 2) (u := 49) rfl
  obtain ⟨F_ad, n_ad⟩ : ∃ g : Nat → Int32, hl1.2.1 m_ad = g := ⟨_, rfl⟩
  obtain ⟨A9, hRA9, hCA9, hAC9, hAB⟩ := hkAC qa qwo m_ad mr mn mp qc ml f_qa f_qwo f_m_ad f_mr f_mn f_mp f_qc f_ml
  rw [f_x_actCount] at hRA9; rw [f_x_actCount, n_ad, n_mr, n_mn, n_mp] at hCA9
  obtain ⟨m_by, f_m_by, g_m_by⟩ := hx_rf hT gm tt_10 (k := 37) (u := 72) rfl
  obtain ⟨F_by, n_by⟩ : ∃ g : Nat → Int32, hl1.2.1 m_by = g := ⟨_, rfl⟩
  obtain ⟨m_ho, f_m_ho, g_m_ho⟩ := hx_rf hT gm tt_10 (k := 58) (u := 92) rfl
  obtain ⟨F_ho, n_ho⟩ : ∃ g : Nat → Int32, hl1.2.1 m_ho = g := ⟨_, rfl⟩
  obtain ⟨m_fc, f_m_fc, g_m_fc⟩ := hx_rf hT gm tt_10 (k := 53) (u := 88) rfl
  obtain ⟨F_fc, n_fc⟩ : ∃ g : Nat → Int32, hl1.2.1 m_fc = g := ⟨_, rfl⟩
  obtain ⟨m_nt, f_m_nt, g_m_nt⟩ := hx_rf hT gm tt_10 (k := 41) (u := 76) rfl
  obtain ⟨F_nt, n_nt⟩ : ∃ g : Nat → Int32, hl1.2.1 m_nt = g := ⟨_, rfl⟩
  obtain ⟨m_wt, f_m_wt, g_m_wt⟩ := hx_rf hT gm tt_10 (k := 42) (u := 77) rfl
  obtain ⟨F_wt, n_wt⟩ : ∃ g : Nat → Int32, hl1.2.1 m_wt = g := ⟨_, rfl⟩
  obtain ⟨m_be, f_m_be, g_m_be⟩ := hx_rf hT gm tt_10 (k := 52) (u := 87) rfl
  obtain ⟨F_be, n_be⟩ : ∃ g : Nat → Int32, hl1.2.1 m_be = g := ⟨_, rfl⟩
  obtain ⟨m_bor, f_m_bor, g_m_bor⟩ := hx_rf hT gm tt_10 (k := 21) (u := 58) rfl
  obtain ⟨F_bor, n_bor⟩ : ∃ g : Nat → Int32, hl1.2.1 m_bor = g := ⟨_, rfl⟩
  obtain ⟨m_kin, f_m_kin, g_m_kin⟩ := hx_rf hT gm tt_10 (k := 26) (u := 63) rfl
  obtain ⟨F_kin, n_kin⟩ : ∃ g : Nat → Int32, hl1.2.1 m_kin = g := ⟨_, rfl⟩
  obtain ⟨m_sum, f_m_sum, g_m_sum⟩ := hx_rf hT gm tt_10 (k := 39) (u := 74) rfl
  obtain ⟨F_sum, n_sum⟩ : ∃ g : Nat → Int32, hl1.2.1 m_sum = g := ⟨_, rfl⟩
  obtain ⟨m_fro, f_m_fro, g_m_fro⟩ := hx_rf hT gm tt_10 (k := 40) (u := 75) rfl
  obtain ⟨F_fro, n_fro⟩ : ∃ g : Nat → Int32, hl1.2.1 m_fro = g := ⟨_, rfl⟩
  obtain ⟨m_fil, f_m_fil, g_m_fil⟩ := hx_rf hT gm tt_10 (k := 43) (u := 78) rfl
  obtain ⟨F_fil, n_fil⟩ : ∃ g : Nat → Int32, hl1.2.1 m_fil = g := ⟨_, rfl⟩
  obtain ⟨m_jud, f_m_jud, g_m_jud⟩ := hx_rf hT gm tt_10 (k := 51) (u := 86) rfl
  obtain ⟨F_jud, n_jud⟩ : ∃ g : Nat → Int32, hl1.2.1 m_jud = g := ⟨_, rfl⟩
  obtain ⟨m_ear, f_m_ear, g_m_ear⟩ := hx_rf hT gm tt_10 (k := 22) (u := 59) rfl
  obtain ⟨F_ear, n_ear⟩ : ∃ g : Nat → Int32, hl1.2.1 m_ear = g := ⟨_, rfl⟩
  obtain ⟨m_hds, f_m_hds, g_m_hds⟩ := hx_rf hT gm tt_10 (k := 23) (u := 60) rfl
  obtain ⟨F_hds, n_hds⟩ : ∃ g : Nat → Int32, hl1.2.1 m_hds = g := ⟨_, rfl⟩
  obtain ⟨m_ord, f_m_ord, g_m_ord⟩ := hx_rf hT gm tt_10 (k := 48) (u := 83) rfl
  obtain ⟨F_ord, n_ord⟩ : ∃ g : Nat → Int32, hl1.2.1 m_ord = g := ⟨_, rfl⟩
  obtain ⟨m_wkl, f_m_wkl, g_m_wkl⟩ := hx_rf hT gm tt_10 (k := 54) (u := 89) rfl
  obtain ⟨F_wkl, n_wkl⟩ : ∃ g : Nat → Int32, hl1.2.1 m_wkl = g := ⟨_, rfl⟩
  obtain ⟨m_owd, f_m_owd, g_m_owd⟩ := hx_rf hT gm tt_10 (k := 55) (u := 90) rfl
  obtain ⟨F_owd, n_owd⟩ : ∃ g : Nat → Int32, hl1.2.1 m_owd = g := ⟨_, rfl⟩
  obtain ⟨m_gds, f_m_gds, g_m_gds⟩ := hx_rf hT gm tt_10 (k := 56) (u := 91) rfl
  obtain ⟨F_gds, n_gds⟩ : ∃ g : Nat → Int32, hl1.2.1 m_gds = g := ⟨_, rfl⟩
  obtain ⟨m_szd, f_m_szd, g_m_szd⟩ := hx_rf hT gm tt_10 (k := 49) (u := 84) rfl
  obtain ⟨F_szd, n_szd⟩ : ∃ g : Nat → Int32, hl1.2.1 m_szd = g := ⟨_, rfl⟩
  obtain ⟨m_srv, f_m_srv, g_m_srv⟩ := hx_rf hT gm tt_10 (k := 50) (u := 85) rfl
  obtain ⟨F_srv, n_srv⟩ : ∃ g : Nat → Int32, hl1.2.1 m_srv = g := ⟨_, rfl⟩
  have cl_bor : hx_col 40 hl1 qp 1 = F_bor := (hf_bor qp m_bor f_qp f_m_bor).trans n_bor
  have cl_kin : hx_col 40 hl1 qp 2 = F_kin := (hf_kin qp m_kin f_qp f_m_kin).trans n_kin
  have cl_sum : hx_col 100 hl1 qc 6 = F_sum := (hf_sum qc m_sum f_qc f_m_sum).trans n_sum
  have cl_fro : hx_col 100 hl1 qc 7 = F_fro := (hf_fro qc m_fro f_qc f_m_fro).trans n_fro
  have cl_fil : hx_col 100 hl1 qc 8 = F_fil := (hf_fil qc m_fil f_qc f_m_fil).trans n_fil
  have cl_hea : hx_col 100 hl1 qc 11 = F_mh := (hf_hea qc mh f_qc f_mh).trans n_mh
  have cl_jud : hx_col 100 hl1 qc 12 = F_jud := (hf_jud qc m_jud f_qc f_m_jud).trans n_jud
  have cl_ear : hx_col 40 hl1 qp 3 = F_ear := (hf_ear qp m_ear f_qp f_m_ear).trans n_ear
  have cl_hds : hx_col 40 hl1 qp 4 = F_hds := (hf_hds qp m_hds f_qp f_m_hds).trans n_hds
  have cl_ord : hx_col 100 hl1 qc 13 = F_ord := (hf_ord qc m_ord f_qc f_m_ord).trans n_ord
  have cl_wkl : hx_col 100 hl1 qc 14 = F_wkl := (hf_wkl qc m_wkl f_qc f_m_wkl).trans n_wkl
  have cl_owd : hx_col 100 hl1 qc 15 = F_owd := (hf_owd qc m_owd f_qc f_m_owd).trans n_owd
  have cl_gds : hx_col 100 hl1 qc 17 = F_gds := (hf_gds qc m_gds f_qc f_m_gds).trans n_gds
  have cl_szd : hx_col 100 hl1 qc 16 = F_szd := (hf_szd qc m_szd f_qc f_m_szd).trans n_szd
  have cl_srv : hx_col 100 hl1 qc 18 = F_srv := (hf_srv qc m_srv f_qc f_m_srv).trans n_srv
  have htb9 : ∀ c, c < 100 → 0 ≤ (c_tri c).toInt ∧ (c_tri c).toInt ≤ 512 := fun c hc => by rw [eq_tri c hc]; have w := hT.ei g_mt tt_80 (k := c) hc; rw [n_mt] at w; exact w
  have z_jud : F_jud c0.toInt.toNat = 0 := hx_num_z2 nu_qc cl_jud ?o6
  case o6 => omega
  have hDP := hkDP qc qp m_by f_qc f_qp f_m_by; rw [n_by, f_x_claimCount] at hDP
  have hHL := hkHL qh qc m_ho f_qh f_qc f_m_ho; rw [n_ho, f_x_heardCount, f_x_claimCount] at hHL
  have hHO9 := hkHO m_ho mh f_m_ho f_mh; rw [n_ho, n_mh, f_m_heardMany, f_m_claims] at hHO9
  obtain ⟨cF9L, hFX, hFR9⟩ := hkFX qc m_fc m_nt m_wt m_sum mh f_qc f_m_fc f_m_nt f_m_wt f_m_sum f_mh; rw [f_x_claimCount] at hFX; rw [n_fc, n_nt, n_wt, n_sum, n_mh, f_x_claimCount] at hFR9
  have hBX := hkBX qc m_be f_qc f_m_be; rw [n_be, f_x_claimCount] at hBX
  rw [n_ml, f_x_claimCount] at hAC9
  obtain ⟨y_p0, f_y_p0, g_y_p0⟩ := hx_rf hT g_qo_py tt_3 (k := 2) (u := 23) rfl
  obtain ⟨m_p0, f_m_p0, g_m_p0⟩ := hx_rf hT gm tt_10 (k := 60) (u := 93) rfl
  obtain ⟨F_p0, n_p0⟩ : ∃ g : Nat → Int32, hl1.2.1 m_p0 = g := ⟨_, rfl⟩
  have n_y_p0 : hl1.2.1 y_p0 = F_p0 := (hkP0 qo_py y_p0 m_p0 f_qo_py f_y_p0 f_m_p0).trans n_p0
  obtain ⟨y_p1, f_y_p1, g_y_p1⟩ := hx_rf hT g_qo_py tt_3 (k := 3) (u := 24) rfl
  obtain ⟨m_p1, f_m_p1, g_m_p1⟩ := hx_rf hT gm tt_10 (k := 61) (u := 94) rfl
  obtain ⟨F_p1, n_p1⟩ : ∃ g : Nat → Int32, hl1.2.1 m_p1 = g := ⟨_, rfl⟩
  have n_y_p1 : hl1.2.1 y_p1 = F_p1 := (hkP1 qo_py y_p1 m_p1 f_qo_py f_y_p1 f_m_p1).trans n_p1
  obtain ⟨y_p2, f_y_p2, g_y_p2⟩ := hx_rf hT g_qo_py tt_3 (k := 5) (u := 26) rfl
  obtain ⟨m_p2, f_m_p2, g_m_p2⟩ := hx_rf hT gm tt_10 (k := 62) (u := 95) rfl
  obtain ⟨F_p2, n_p2⟩ : ∃ g : Nat → Int32, hl1.2.1 m_p2 = g := ⟨_, rfl⟩
  have n_y_p2 : hl1.2.1 y_p2 = F_p2 := (hkP2 qo_py y_p2 m_p2 f_qo_py f_y_p2 f_m_p2).trans n_p2
  obtain ⟨y_p3, f_y_p3, g_y_p3⟩ := hx_rf hT g_qo_py tt_3 (k := 4) (u := 25) rfl
  obtain ⟨m_p3, f_m_p3, g_m_p3⟩ := hx_rf hT gm tt_10 (k := 63) (u := 96) rfl
  obtain ⟨F_p3, n_p3⟩ : ∃ g : Nat → Int32, hl1.2.1 m_p3 = g := ⟨_, rfl⟩
  have n_y_p3 : hl1.2.1 y_p3 = F_p3 := (hkP3 qo_py y_p3 m_p3 f_qo_py f_y_p3 f_m_p3).trans n_p3
  obtain ⟨y_p4, f_y_p4, g_y_p4⟩ := hx_rf hT g_qo_py tt_3 (k := 1) (u := 22) rfl
  obtain ⟨m_p4, f_m_p4, g_m_p4⟩ := hx_rf hT gm tt_10 (k := 64) (u := 97) rfl
  obtain ⟨F_p4, n_p4⟩ : ∃ g : Nat → Int32, hl1.2.1 m_p4 = g := ⟨_, rfl⟩
  have n_y_p4 : hl1.2.1 y_p4 = F_p4 := (hkP4 qo_py y_p4 m_p4 f_qo_py f_y_p4 f_m_p4).trans n_p4
  obtain ⟨qrg9, f_qrg9, g_qrg9⟩ := hx_rf hT gx tt_9 (k := 18) (u := 7) rfl
  obtain ⟨y_ls, f_y_ls, g_y_ls⟩ := hx_rf hT g_qrg9 tt_7 (k := 3) (u := 35) rfl
  obtain ⟨m_rl, f_m_rl, g_m_rl⟩ := hx_rf hT gm tt_10 (k := 85) (u := 109) rfl
  obtain ⟨F_y_ls, n_y_ls⟩ : ∃ g : Nat → Int32, hl1.2.1 y_ls = g := ⟨_, rfl⟩
  obtain ⟨F_m_rl, n_m_rl⟩ : ∃ g : Nat → Int32, hl1.2.1 m_rl = g := ⟨_, rfl⟩
  obtain ⟨fv_707, efv_707⟩ : ∃ y : Int32, y = hl1.2.1 qrg9 0 := ⟨_, rfl⟩
  have bfv_707 := hT.gi g_qrg9 tt_7 (k := 0) rfl
  rw [← efv_707] at bfv_707
  have bfv_707 : -1 ≤ fv_707.toInt ∧ fv_707.toInt ≤ 100 := bfv_707
  have ffv_707 := efv_707.symm
  obtain ⟨fv_708, efv_708⟩ : ∃ y : Int32, y = hl1.2.1 am 83 := ⟨_, rfl⟩
  have bfv_708 := hT.gi gm tt_10 (k := 83) rfl
  rw [← efv_708] at bfv_708
  have bfv_708 : 0 ≤ fv_708.toInt ∧ fv_708.toInt ≤ 1 := bfv_708
  have ffv_708 := efv_708.symm
  obtain ⟨fv_709, efv_709⟩ : ∃ y : Int32, y = hl1.2.1 am 84 := ⟨_, rfl⟩
  have bfv_709 := hT.gi gm tt_10 (k := 84) rfl
  rw [← efv_709] at bfv_709
  have bfv_709 : 0 ≤ fv_709.toInt ∧ fv_709.toInt ≤ 300 := bfv_709
  have ffv_709 := efv_709.symm
  have hNQ9 := hkNQ qrg9 f_qrg9; rw [ffv_707, ffv_708, ffv_709] at hNQ9
  have hRL9 := hkRL qrg9 y_ls m_rl f_qrg9 f_y_ls f_m_rl; rw [n_y_ls, n_m_rl, ffv_707] at hRL9
  have hCB : hz_CB F_ord F_wkl F_owd F_szd F_gds F_srv := fun c hc => ⟨by have w := hT.ei g_m_ord tt_83 (k := c) (by omega); rw [n_ord] at w; exact w, by have w := hT.ei g_m_wkl tt_89 (k := c) (by omega); rw [n_wkl] at w; exact w, by have w := hT.ei g_m_owd tt_90 (k := c) (by omega); rw [n_owd] at w; exact w, by have w := hT.ei g_m_szd tt_84 (k := c) (by omega); rw [n_szd] at w; exact w, by have w := hT.ei g_m_gds tt_91 (k := c) (by omega); rw [n_gds] at w; exact w, by have w := hT.ei g_m_srv tt_85 (k := c) (by omega); rw [n_srv] at w; exact w⟩
  have hps : ∀ j, j < 600 → 0 ≤ (F_p2 j).toInt ∧ (F_p2 j).toInt ≤ 610000 := fun j hj => by have w := hT.ei g_m_p2 tt_95 (k := j) (by omega); rw [n_p2] at w; exact w
  have hte9 : ∀ c : Nat, c < 100 → (0 ≤ (c_tri c).toInt ∧ (c_tri c).toInt ≤ 512) ∧ (0 ≤ (F_sum c).toInt ∧ (F_sum c).toInt ≤ 9999) := fun c hc => ⟨htb9 c hc, by have w := hT.ei g_m_sum tt_74 (k := c) (by omega); rw [n_sum] at w; exact w⟩
  have hee9 : ∀ c : Nat, c < 40 → (0 ≤ (F_ear c).toInt ∧ (F_ear c).toInt ≤ 9999) ∧ (0 ≤ (F_hds c).toInt ∧ (F_hds c).toInt ≤ 20) := fun c hc => ⟨by have w := hT.ei g_m_ear tt_59 (k := c) (by omega); rw [n_ear] at w; exact w, by have w := hT.ei g_m_hds tt_60 (k := c) (by omega); rw [n_hds] at w; exact w⟩
  have bAG9 : ∀ k, k < 100 → 0 ≤ (F_aga k).toInt ∧ (F_aga k).toInt ≤ 39 := fun k hk => by have w := hT.ei g_m_aga tt_73 (k := k) (by omega); rw [n_aga] at w; exact w
  have bBY9 : ∀ k, k < 100 → 0 ≤ (F_by k).toInt ∧ (F_by k).toInt ≤ 39 := fun k hk => by have w := hT.ei g_m_by tt_72 (k := k) (by omega); rw [n_by] at w; exact w
  have hag9 : ∀ c, c < c0.toInt.toNat → 0 ≤ (F_aga c).toInt ∧ (F_aga c).toInt < 40 ∧ 0 ≤ (F_by c).toInt ∧ (F_by c).toInt < 40 := fun c hc => by have a9 := bAG9 c (by omega); have b9 := bBY9 c (by omega); omega
  have z_wkl : F_wkl c0.toInt.toNat = 0 := hx_num_z2 nu_qc cl_wkl ?o7
  case o7 => omega
  have z_owd : F_owd c0.toInt.toNat = 0 := hx_num_z2 nu_qc cl_owd ?o8
  case o8 => omega
  have z_gds : F_gds c0.toInt.toNat = 0 := hx_num_z2 nu_qc cl_gds ?o9
  case o9 => omega
  have hwd := jw mw f_mw; rw [n_mw] at hwd
  have hWK := jr mr f_mr; rw [n_mr, f_m_acts] at hWK
  have hRP := jp mp mn f_mp f_mn; rw [n_mp, n_mn, f_m_acts] at hRP
  have hPL := jl ml f_ml; rw [n_ml, f_m_claims, f_m_acts] at hPL
  have hHC := jh mh f_mh; rw [n_mh, f_m_heardMany, f_m_claims] at hHC
  have hTR := jt mt f_mt; rw [n_mt] at hTR
  have hHF := jf mh m_fou f_mh f_m_fou; rw [n_mh, n_m_fou, f_m_claims] at hHF
  refine lv_aload_n hx hb dL_law_1129 rfl (lv_at hl 2 rfl) ?_
  refine lv_aload_n hx hb dL_law_1130 rfl (lv_at hl 3 rfl) ?_
  refine lv_iload_n hx hb dL_law_1131 rfl (lv_at hl 0 rfl) ?_
  refine lv_iconst (v := 1) hx hb dL_law_1132 ?o10 ?_
  case o10 => decide
  refine lv_iadd hx hb dL_law_1133 ?_
  have rg_710 := i32_r i
  refine lv_topi (fun x_711 ex_711 => ?_)
  have zx_711 : x_711.toInt = i.toInt + 1 := ?o11
  case o11 =>
    rw [ex_711]
    refine i32_add rfl ?o12 ?o13 ?o14
    case o12 => decide
    case o13 => omega
    case o14 => omega
  refine va_sld hx hb hX hbl hbA hW.2.2.2.1 (vp_in_iff.mpr ⟨?o15, ?o16⟩) dL_law_1134 ?_
  case o15 => omega
  case o16 => omega
  refine lv_topi (fun x_712 ex_712 => ?_)
  refine lv_aload_n hx hb dL_law_1135 rfl (lv_at hl 3 rfl) ?_
  refine lv_iload_n hx hb dL_law_1136 rfl (lv_at hl 0 rfl) ?_
  refine lv_iconst (v := 2) hx hb dL_law_1137 ?o17 ?_
  case o17 => decide
  refine lv_iadd hx hb dL_law_1138 ?_
  refine lv_topi (fun x_713 ex_713 => ?_)
  have zx_713 : x_713.toInt = i.toInt + 2 := ?o18
  case o18 =>
    rw [ex_713]
    refine i32_add rfl ?o19 ?o20 ?o21
    case o19 => decide
    case o20 => omega
    case o21 => omega
  refine va_sld hx hb hX hbl hbA hW.2.2.2.1 (vp_in_iff.mpr ⟨?o22, ?o23⟩) dL_law_1139 ?_
  case o22 => omega
  case o23 => omega
  refine lv_topi (fun x_714 ex_714 => ?_)
  have hTo := hT
  refine hx_goi (hx_runVX (As := [.int x_712, .int x_714]) (rest := []) ⟨hx, hb, hml, hown, hts⟩ hW gx tt_9 (T := TX9) (N := 20) rfl (t_X9_plan l dC dI dA L1 hl1 H.size b0 ax x_712 x_714 hT gx qp g_qp f_qp qc g_qc f_qc qa g_qa f_qa pf_qp pf_qc pf_qa) hZ (cwV 2 hts (hx_gV kw_947 kw_944 kw_945 kw_946 kw_94) rfl rfl rfl (by decide +kernel) ⟨Nat.le_of_ble_eq_true rfl, Nat.le_of_ble_eq_true rfl⟩) rfl hl.1 rfl (Nat.le_of_ble_eq_true rfl) dL_law_1140 ⟨(show CC + 0 ≤ 600000 from ?o24), (show SS + 0 ≤ 7302250 from ?o25)⟩) hW (fun r_717 L_715 h_716 H locs p_718 hW => ?_)
  case o24 => omega
  case o25 => omega
  obtain ⟨hr_719, hT, hs⟩ := p_718
  replace hT : hx_T T_tb L_715 h_716 := hT
  replace hs : hx_S T_tb [(5, 0), (5, 1), (5, 9), (5, 10), (5, 11), (5, 12), (27, 0), (28, 0), (29, 0), (30, 0), (31, 0), (32, 0), (33, 0)] L1 hl1 L_715 h_716 := hs
  replace f_qa := (hs.o gx trivial rfl).2.trans f_qa
  replace f_qp := (hs.o gx trivial rfl).2.trans f_qp
  replace f_qc := (hs.o gx trivial rfl).2.trans f_qc
  replace f_qh := (hs.o gx trivial rfl).2.trans f_qh
  replace f_qw := (hs.o gx trivial rfl).2.trans f_qw
  replace f_ql := (hs.o g_qw trivial rfl).2.trans f_ql
  replace f_m_now := (hs.o gm trivial rfl).1.trans f_m_now
  replace f_m_persons := (hs.o gm trivial rfl).1.trans f_m_persons
  replace f_m_claims := (hs.o gm trivial rfl).1.trans f_m_claims
  replace f_m_taped := (hs.o gm trivial rfl).1.trans f_m_taped
  replace f_m_acts := (hs.o gm trivial rfl).1.trans f_m_acts
  replace f_m_heardMany := (hs.o gm trivial rfl).1.trans f_m_heardMany
  replace f_m_lines := (hs.o gm trivial rfl).1.trans f_m_lines
  replace f_m_listed := (hs.o gm trivial rfl).1.trans f_m_listed
  replace f_m_walkedMany := (hs.o gm trivial rfl).1.trans f_m_walkedMany
  replace f_m_payments := (hs.o gm trivial rfl).1.trans f_m_payments
  replace f_x_now := (hs.o gx trivial rfl).1.trans f_x_now
  replace f_x_personCount := (hs.o gx trivial rfl).1.trans f_x_personCount
  replace f_x_claimCount := (hs.o gx trivial rfl).1.trans f_x_claimCount
  replace f_x_tapeLength := (hs.o gx trivial rfl).1.trans f_x_tapeLength
  replace f_x_actCount := (hs.o gx trivial rfl).1.trans f_x_actCount
  replace f_x_heardCount := (hs.o gx trivial rfl).1.trans f_x_heardCount
  replace f_mw := (hs.o gm trivial rfl).2.trans f_mw
  replace f_mr := (hs.o gm trivial rfl).2.trans f_mr
  replace f_mp := (hs.o gm trivial rfl).2.trans f_mp
  replace f_mn := (hs.o gm trivial rfl).2.trans f_mn
  replace f_ml := (hs.o gm trivial rfl).2.trans f_ml
  replace f_mh := (hs.o gm trivial rfl).2.trans f_mh
  replace f_mt := (hs.o gm trivial rfl).2.trans f_mt
  replace f_m_fou := (hs.o gm trivial rfl).2.trans f_m_fou
  replace f_qo_ln := (hs.o gx trivial rfl).2.trans f_qo_ln
  replace f_o_ln := (hs.o g_qo_ln trivial rfl).1.trans f_o_ln
  replace f_o_lsd := (hs.o g_qw trivial rfl).1.trans f_o_lsd
  replace f_o_wkm := (hs.o g_qw trivial rfl).1.trans f_o_wkm
  replace f_qo_py := (hs.o gx trivial rfl).2.trans f_qo_py
  replace f_o_py := (hs.o g_qo_py trivial rfl).1.trans f_o_py
  replace f_b_of := (hs.o g_qo_ln trivial rfl).2.trans f_b_of
  replace f_m_of := (hs.o gm trivial rfl).2.trans f_m_of
  replace f_b_wf := (hs.o g_qo_ln trivial rfl).2.trans f_b_wf
  replace f_m_wf := (hs.o gm trivial rfl).2.trans f_m_wf
  replace f_b_df := (hs.o g_qo_ln trivial rfl).2.trans f_b_df
  replace f_m_df := (hs.o gm trivial rfl).2.trans f_m_df
  replace f_b_kf := (hs.o g_qo_ln trivial rfl).2.trans f_b_kf
  replace f_m_kf := (hs.o gm trivial rfl).2.trans f_m_kf
  replace f_b_sf := (hs.o g_qo_ln trivial rfl).2.trans f_b_sf
  replace f_m_sf := (hs.o gm trivial rfl).2.trans f_m_sf
  replace f_b_bf := (hs.o g_qo_ln trivial rfl).2.trans f_b_bf
  replace f_m_lst := (hs.o gm trivial rfl).2.trans f_m_lst
  replace f_qtp := (hs.o gx trivial rfl).2.trans f_qtp
  replace f_m_tp := (hs.o gm trivial rfl).2.trans f_m_tp
  replace f_m_dead := (hs.o gm trivial rfl).2.trans f_m_dead
  replace f_m_isj := (hs.o gm trivial rfl).2.trans f_m_isj
  replace f_m_dox := (hs.o gm trivial rfl).2.trans f_m_dox
  replace f_m_doy := (hs.o gm trivial rfl).2.trans f_m_doy
  replace f_qlt := (hs.o g_qw trivial rfl).2.trans f_qlt
  replace f_qlf := (hs.o g_qw trivial rfl).2.trans f_qlf
  replace f_m_wkd := (hs.o gm trivial rfl).2.trans f_m_wkd
  replace f_m_aga := (hs.o gm trivial rfl).2.trans f_m_aga
  replace f_qwo := (hs.o gx trivial rfl).2.trans f_qwo
  replace f_m_ad := (hs.o gm trivial rfl).2.trans f_m_ad
  replace f_m_by := (hs.o gm trivial rfl).2.trans f_m_by
  replace f_m_ho := (hs.o gm trivial rfl).2.trans f_m_ho
  replace f_m_fc := (hs.o gm trivial rfl).2.trans f_m_fc
  replace f_m_nt := (hs.o gm trivial rfl).2.trans f_m_nt
  replace f_m_wt := (hs.o gm trivial rfl).2.trans f_m_wt
  replace f_m_be := (hs.o gm trivial rfl).2.trans f_m_be
  replace f_m_bor := (hs.o gm trivial rfl).2.trans f_m_bor
  replace f_m_kin := (hs.o gm trivial rfl).2.trans f_m_kin
  replace f_m_sum := (hs.o gm trivial rfl).2.trans f_m_sum
  replace f_m_fro := (hs.o gm trivial rfl).2.trans f_m_fro
  replace f_m_fil := (hs.o gm trivial rfl).2.trans f_m_fil
  replace f_m_jud := (hs.o gm trivial rfl).2.trans f_m_jud
  replace f_m_ear := (hs.o gm trivial rfl).2.trans f_m_ear
  replace f_m_hds := (hs.o gm trivial rfl).2.trans f_m_hds
  replace f_m_ord := (hs.o gm trivial rfl).2.trans f_m_ord
  replace f_m_wkl := (hs.o gm trivial rfl).2.trans f_m_wkl
  replace f_m_owd := (hs.o gm trivial rfl).2.trans f_m_owd
  replace f_m_gds := (hs.o gm trivial rfl).2.trans f_m_gds
  replace f_m_szd := (hs.o gm trivial rfl).2.trans f_m_szd
  replace f_m_srv := (hs.o gm trivial rfl).2.trans f_m_srv
  replace f_y_p0 := (hs.o g_qo_py trivial rfl).2.trans f_y_p0
  replace f_m_p0 := (hs.o gm trivial rfl).2.trans f_m_p0
  replace f_y_p1 := (hs.o g_qo_py trivial rfl).2.trans f_y_p1
  replace f_m_p1 := (hs.o gm trivial rfl).2.trans f_m_p1
  replace f_y_p2 := (hs.o g_qo_py trivial rfl).2.trans f_y_p2
  replace f_m_p2 := (hs.o gm trivial rfl).2.trans f_m_p2
  replace f_y_p3 := (hs.o g_qo_py trivial rfl).2.trans f_y_p3
  replace f_m_p3 := (hs.o gm trivial rfl).2.trans f_m_p3
  replace f_y_p4 := (hs.o g_qo_py trivial rfl).2.trans f_y_p4
  replace f_m_p4 := (hs.o gm trivial rfl).2.trans f_m_p4
  replace f_qrg9 := (hs.o gx trivial rfl).2.trans f_qrg9
  replace f_y_ls := (hs.o g_qrg9 trivial rfl).2.trans f_y_ls
  replace f_m_rl := (hs.o gm trivial rfl).2.trans f_m_rl
  replace ffv_707 := (hs.o g_qrg9 trivial rfl).1.trans ffv_707
  replace ffv_708 := (hs.o gm trivial rfl).1.trans ffv_708
  replace ffv_709 := (hs.o gm trivial rfl).1.trans ffv_709
  replace pf_qa : ∀ j : Nat, (j : Int) < (h_716.2.1 ax 6).toInt → h_716.2.2 qa j ≠ none := by
    intro j hj; rw [(hs.o gx trivial rfl).1] at hj; rw [(hs.a g_qa rfl j).2]; exact pf_qa j hj
  replace pf_qp : ∀ j : Nat, (j : Int) < (h_716.2.1 ax 8).toInt → h_716.2.2 qp j ≠ none := by
    intro j hj; rw [(hs.o gx trivial rfl).1] at hj; rw [(hs.a g_qp rfl j).2]; exact pf_qp j hj
  replace pf_qc : ∀ j : Nat, (j : Int) < (h_716.2.1 ax 11).toInt → h_716.2.2 qc j ≠ none := by
    intro j hj; rw [(hs.o gx trivial rfl).1] at hj; rw [(hs.a g_qc rfl j).2]; exact pf_qc j hj
  replace pf_qh : ∀ j : Nat, (j : Int) < (h_716.2.1 ax 13).toInt → h_716.2.2 qh j ≠ none := by
    intro j hj; rw [(hs.o gx trivial rfl).1] at hj; rw [(hs.a g_qh rfl j).2]; exact pf_qh j hj
  replace pf_ql : ∀ j : Nat, (j : Int) < (h_716.2.1 qw 0).toInt → h_716.2.2 ql j ≠ none := by
    intro j hj; rw [(hs.o g_qw trivial rfl).1] at hj; rw [(hs.a g_ql rfl j).2]; exact pf_ql j hj
  replace cl_lst : hx_col 8 h_716 ql 0 = c_lst := (hx_col_S hs hTo g_ql tt_40 tt_2 rfl rfl).trans cl_lst
  replace cl_dead : hx_col 40 h_716 qp 7 = c_dead := (hx_col_S hs hTo g_qp tt_44 tt_4 rfl rfl).trans cl_dead
  replace cl_isj : hx_col 40 h_716 qp 8 = c_isj := (hx_col_S hs hTo g_qp tt_44 tt_4 rfl rfl).trans cl_isj
  replace cl_dox : hx_col 40 h_716 qp 5 = c_dox := (hx_col_S hs hTo g_qp tt_44 tt_4 rfl rfl).trans cl_dox
  replace cl_doy : hx_col 40 h_716 qp 6 = c_doy := (hx_col_S hs hTo g_qp tt_44 tt_4 rfl rfl).trans cl_doy
  replace cl_fou : hx_col 100 h_716 qc 10 = c_fou := (hx_col_S hs hTo g_qc tt_45 tt_2 rfl rfl).trans cl_fou
  replace cl_tri : hx_col 100 h_716 qc 9 = c_tri := (hx_col_S hs hTo g_qc tt_45 tt_2 rfl rfl).trans cl_tri
  replace cl_bor : hx_col 40 h_716 qp 1 = F_bor := (hx_col_S hs hTo g_qp tt_44 tt_4 rfl rfl).trans cl_bor
  replace cl_kin : hx_col 40 h_716 qp 2 = F_kin := (hx_col_S hs hTo g_qp tt_44 tt_4 rfl rfl).trans cl_kin
  replace cl_sum : hx_col 100 h_716 qc 6 = F_sum := (hx_col_S hs hTo g_qc tt_45 tt_2 rfl rfl).trans cl_sum
  replace cl_fro : hx_col 100 h_716 qc 7 = F_fro := (hx_col_S hs hTo g_qc tt_45 tt_2 rfl rfl).trans cl_fro
  replace cl_fil : hx_col 100 h_716 qc 8 = F_fil := (hx_col_S hs hTo g_qc tt_45 tt_2 rfl rfl).trans cl_fil
  replace cl_hea : hx_col 100 h_716 qc 11 = F_mh := (hx_col_S hs hTo g_qc tt_45 tt_2 rfl rfl).trans cl_hea
  replace cl_jud : hx_col 100 h_716 qc 12 = F_jud := (hx_col_S hs hTo g_qc tt_45 tt_2 rfl rfl).trans cl_jud
  replace cl_ear : hx_col 40 h_716 qp 3 = F_ear := (hx_col_S hs hTo g_qp tt_44 tt_4 rfl rfl).trans cl_ear
  replace cl_hds : hx_col 40 h_716 qp 4 = F_hds := (hx_col_S hs hTo g_qp tt_44 tt_4 rfl rfl).trans cl_hds
  replace cl_ord : hx_col 100 h_716 qc 13 = F_ord := (hx_col_S hs hTo g_qc tt_45 tt_2 rfl rfl).trans cl_ord
  replace cl_wkl : hx_col 100 h_716 qc 14 = F_wkl := (hx_col_S hs hTo g_qc tt_45 tt_2 rfl rfl).trans cl_wkl
  replace cl_owd : hx_col 100 h_716 qc 15 = F_owd := (hx_col_S hs hTo g_qc tt_45 tt_2 rfl rfl).trans cl_owd
  replace cl_gds : hx_col 100 h_716 qc 17 = F_gds := (hx_col_S hs hTo g_qc tt_45 tt_2 rfl rfl).trans cl_gds
  replace cl_szd : hx_col 100 h_716 qc 16 = F_szd := (hx_col_S hs hTo g_qc tt_45 tt_2 rfl rfl).trans cl_szd
  replace cl_srv : hx_col 100 h_716 qc 18 = F_srv := (hx_col_S hs hTo g_qc tt_45 tt_2 rfl rfl).trans cl_srv
  replace nu_qp : hx_num 40 h_716 qp 0 (np.toInt) := hx_num_S hs hTo g_qp tt_44 tt_4 rfl rfl nu_qp
  replace nu_qc : hx_num 100 h_716 qc 0 (c0.toInt) := hx_num_S hs hTo g_qc tt_45 tt_2 rfl rfl nu_qc
  replace sb_list : hx_LQ 8 100 h_716 ql qc := hx_LQ_S hs g_ql g_qc rfl rfl sb_list
  replace hDF : hw_DF h_716 qc qp 2 F_aga c0.toInt := hw_DF_S hs hTo g_qc g_qp tt_45 tt_2 rfl rfl rfl hDF
  replace hRA9 : hv_RA h_716 qa qwo a0.toInt A9 := hv_RA_S hs hTo g_qa g_qwo tt_43 tt_0 rfl rfl rfl rfl rfl rfl ?o26 hRA9
  case o26 => omega
  replace hDP : hw_DF h_716 qc qp 1 F_by c0.toInt := hw_DF_S hs hTo g_qc g_qp tt_45 tt_2 rfl rfl rfl hDP
  replace hAC9 : hv_AC h_716 qc F_ml c0.toInt A9 := hv_AC_S hs hTo g_qc tt_45 tt_2 rfl tt_0 rfl rfl rfl rfl rfl rfl rfl hAC9
  replace hFX : hv_FX 8 4 h_716 qc cF9L c0.toInt := hv_FX_S hs hTo g_qc tt_45 tt_2 rfl rfl rfl rfl hFX
  replace hBX : hv_FX 3 5 h_716 qc F_be c0.toInt := hv_FX_S hs hTo g_qc tt_45 tt_2 rfl rfl rfl rfl hBX
  replace hHL : hv_HL h_716 qh qc F_ho m0.toInt c0.toInt := hv_HL_S hs g_qh g_qc rfl rfl hHL
  replace n_mw : h_716.2.1 mw = F_mw := (funext fun j => (hs.a g_mw rfl j).1).trans n_mw
  replace n_mr : h_716.2.1 mr = F_mr := (funext fun j => (hs.a g_mr rfl j).1).trans n_mr
  replace n_mp : h_716.2.1 mp = F_mp := (funext fun j => (hs.a g_mp rfl j).1).trans n_mp
  replace n_mn : h_716.2.1 mn = F_mn := (funext fun j => (hs.a g_mn rfl j).1).trans n_mn
  replace n_ml : h_716.2.1 ml = F_ml := (funext fun j => (hs.a g_ml rfl j).1).trans n_ml
  replace n_mh : h_716.2.1 mh = F_mh := (funext fun j => (hs.a g_mh rfl j).1).trans n_mh
  replace n_mt : h_716.2.1 mt = F_mt := (funext fun j => (hs.a g_mt rfl j).1).trans n_mt
  replace n_m_fou : h_716.2.1 m_fou = F_m_fou := (funext fun j => (hs.a g_m_fou rfl j).1).trans n_m_fou
  replace n_b_of : h_716.2.1 b_of = B_of := (funext fun j => (hs.a g_b_of rfl j).1).trans n_b_of
  replace n_m_of : h_716.2.1 m_of = F_of := (funext fun j => (hs.a g_m_of rfl j).1).trans n_m_of
  replace n_b_wf : h_716.2.1 b_wf = B_wf := (funext fun j => (hs.a g_b_wf rfl j).1).trans n_b_wf
  replace n_m_wf : h_716.2.1 m_wf = F_wf := (funext fun j => (hs.a g_m_wf rfl j).1).trans n_m_wf
  replace n_b_df : h_716.2.1 b_df = B_df := (funext fun j => (hs.a g_b_df rfl j).1).trans n_b_df
  replace n_m_df : h_716.2.1 m_df = F_df := (funext fun j => (hs.a g_m_df rfl j).1).trans n_m_df
  replace n_b_kf : h_716.2.1 b_kf = B_kf := (funext fun j => (hs.a g_b_kf rfl j).1).trans n_b_kf
  replace n_m_kf : h_716.2.1 m_kf = F_kf := (funext fun j => (hs.a g_m_kf rfl j).1).trans n_m_kf
  replace n_b_sf : h_716.2.1 b_sf = B_sf := (funext fun j => (hs.a g_b_sf rfl j).1).trans n_b_sf
  replace n_m_sf : h_716.2.1 m_sf = F_sf := (funext fun j => (hs.a g_m_sf rfl j).1).trans n_m_sf
  replace n_b_bf : h_716.2.1 b_bf = bfL := (funext fun j => (hs.a g_b_bf rfl j).1).trans n_b_bf
  replace n_lst : h_716.2.1 m_lst = F_lst := (funext fun j => (hs.a g_m_lst rfl j).1).trans n_lst
  replace n_tp : h_716.2.1 m_tp = F_tp := (funext fun j => (hs.a g_m_tp rfl j).1).trans n_tp
  replace n_qtp : h_716.2.1 qtp = F_tp := (funext fun j => (hs.a g_qtp rfl j).1).trans n_qtp
  replace n_dead : h_716.2.1 m_dead = F_dead := (funext fun j => (hs.a g_m_dead rfl j).1).trans n_dead
  replace n_isj : h_716.2.1 m_isj = F_isj := (funext fun j => (hs.a g_m_isj rfl j).1).trans n_isj
  replace n_dox : h_716.2.1 m_dox = F_dox := (funext fun j => (hs.a g_m_dox rfl j).1).trans n_dox
  replace n_doy : h_716.2.1 m_doy = F_doy := (funext fun j => (hs.a g_m_doy rfl j).1).trans n_doy
  replace n_qlt : h_716.2.1 qlt = F_qlt := (funext fun j => (hs.a g_qlt rfl j).1).trans n_qlt
  replace n_m_wkd : h_716.2.1 m_wkd = F_m_wkd := (funext fun j => (hs.a g_m_wkd rfl j).1).trans n_m_wkd
  replace n_aga : h_716.2.1 m_aga = F_aga := (funext fun j => (hs.a g_m_aga rfl j).1).trans n_aga
  replace n_ad : h_716.2.1 m_ad = F_ad := (funext fun j => (hs.a g_m_ad rfl j).1).trans n_ad
  replace n_by : h_716.2.1 m_by = F_by := (funext fun j => (hs.a g_m_by rfl j).1).trans n_by
  replace n_ho : h_716.2.1 m_ho = F_ho := (funext fun j => (hs.a g_m_ho rfl j).1).trans n_ho
  replace n_fc : h_716.2.1 m_fc = F_fc := (funext fun j => (hs.a g_m_fc rfl j).1).trans n_fc
  replace n_nt : h_716.2.1 m_nt = F_nt := (funext fun j => (hs.a g_m_nt rfl j).1).trans n_nt
  replace n_wt : h_716.2.1 m_wt = F_wt := (funext fun j => (hs.a g_m_wt rfl j).1).trans n_wt
  replace n_be : h_716.2.1 m_be = F_be := (funext fun j => (hs.a g_m_be rfl j).1).trans n_be
  replace n_bor : h_716.2.1 m_bor = F_bor := (funext fun j => (hs.a g_m_bor rfl j).1).trans n_bor
  replace n_kin : h_716.2.1 m_kin = F_kin := (funext fun j => (hs.a g_m_kin rfl j).1).trans n_kin
  replace n_sum : h_716.2.1 m_sum = F_sum := (funext fun j => (hs.a g_m_sum rfl j).1).trans n_sum
  replace n_fro : h_716.2.1 m_fro = F_fro := (funext fun j => (hs.a g_m_fro rfl j).1).trans n_fro
  replace n_fil : h_716.2.1 m_fil = F_fil := (funext fun j => (hs.a g_m_fil rfl j).1).trans n_fil
  replace n_jud : h_716.2.1 m_jud = F_jud := (funext fun j => (hs.a g_m_jud rfl j).1).trans n_jud
  replace n_ear : h_716.2.1 m_ear = F_ear := (funext fun j => (hs.a g_m_ear rfl j).1).trans n_ear
  replace n_hds : h_716.2.1 m_hds = F_hds := (funext fun j => (hs.a g_m_hds rfl j).1).trans n_hds
  replace n_ord : h_716.2.1 m_ord = F_ord := (funext fun j => (hs.a g_m_ord rfl j).1).trans n_ord
  replace n_wkl : h_716.2.1 m_wkl = F_wkl := (funext fun j => (hs.a g_m_wkl rfl j).1).trans n_wkl
  replace n_owd : h_716.2.1 m_owd = F_owd := (funext fun j => (hs.a g_m_owd rfl j).1).trans n_owd
  replace n_gds : h_716.2.1 m_gds = F_gds := (funext fun j => (hs.a g_m_gds rfl j).1).trans n_gds
  replace n_szd : h_716.2.1 m_szd = F_szd := (funext fun j => (hs.a g_m_szd rfl j).1).trans n_szd
  replace n_srv : h_716.2.1 m_srv = F_srv := (funext fun j => (hs.a g_m_srv rfl j).1).trans n_srv
  replace n_p0 : h_716.2.1 m_p0 = F_p0 := (funext fun j => (hs.a g_m_p0 rfl j).1).trans n_p0
  replace n_y_p0 : h_716.2.1 y_p0 = F_p0 := (funext fun j => (hs.a g_y_p0 rfl j).1).trans n_y_p0
  replace n_p1 : h_716.2.1 m_p1 = F_p1 := (funext fun j => (hs.a g_m_p1 rfl j).1).trans n_p1
  replace n_y_p1 : h_716.2.1 y_p1 = F_p1 := (funext fun j => (hs.a g_y_p1 rfl j).1).trans n_y_p1
  replace n_p2 : h_716.2.1 m_p2 = F_p2 := (funext fun j => (hs.a g_m_p2 rfl j).1).trans n_p2
  replace n_y_p2 : h_716.2.1 y_p2 = F_p2 := (funext fun j => (hs.a g_y_p2 rfl j).1).trans n_y_p2
  replace n_p3 : h_716.2.1 m_p3 = F_p3 := (funext fun j => (hs.a g_m_p3 rfl j).1).trans n_p3
  replace n_y_p3 : h_716.2.1 y_p3 = F_p3 := (funext fun j => (hs.a g_y_p3 rfl j).1).trans n_y_p3
  replace n_p4 : h_716.2.1 m_p4 = F_p4 := (funext fun j => (hs.a g_m_p4 rfl j).1).trans n_p4
  replace n_y_p4 : h_716.2.1 y_p4 = F_p4 := (funext fun j => (hs.a g_y_p4 rfl j).1).trans n_y_p4
  replace n_y_ls : h_716.2.1 y_ls = F_y_ls := (funext fun j => (hs.a g_y_ls rfl j).1).trans n_y_ls
  replace n_m_rl : h_716.2.1 m_rl = F_m_rl := (funext fun j => (hs.a g_m_rl rfl j).1).trans n_m_rl
  replace gx := gx.S hs
  replace gm := gm.S hs
  replace g_qa := g_qa.S hs
  replace g_qp := g_qp.S hs
  replace g_qc := g_qc.S hs
  replace g_qh := g_qh.S hs
  replace g_qw := g_qw.S hs
  replace g_ql := g_ql.S hs
  replace g_mw := g_mw.S hs
  replace g_mr := g_mr.S hs
  replace g_mp := g_mp.S hs
  replace g_mn := g_mn.S hs
  replace g_ml := g_ml.S hs
  replace g_mh := g_mh.S hs
  replace g_mt := g_mt.S hs
  replace g_m_fou := g_m_fou.S hs
  replace g_qo_ln := g_qo_ln.S hs
  replace g_qo_py := g_qo_py.S hs
  replace g_b_of := g_b_of.S hs
  replace g_m_of := g_m_of.S hs
  replace g_b_wf := g_b_wf.S hs
  replace g_m_wf := g_m_wf.S hs
  replace g_b_df := g_b_df.S hs
  replace g_m_df := g_m_df.S hs
  replace g_b_kf := g_b_kf.S hs
  replace g_m_kf := g_m_kf.S hs
  replace g_b_sf := g_b_sf.S hs
  replace g_m_sf := g_m_sf.S hs
  replace g_b_bf := g_b_bf.S hs
  replace g_m_lst := g_m_lst.S hs
  replace g_qtp := g_qtp.S hs
  replace g_m_tp := g_m_tp.S hs
  replace g_m_dead := g_m_dead.S hs
  replace g_m_isj := g_m_isj.S hs
  replace g_m_dox := g_m_dox.S hs
  replace g_m_doy := g_m_doy.S hs
  replace g_qlt := g_qlt.S hs
  replace g_qlf := g_qlf.S hs
  replace g_m_wkd := g_m_wkd.S hs
  replace g_m_aga := g_m_aga.S hs
  replace g_qwo := g_qwo.S hs
  replace g_m_ad := g_m_ad.S hs
  replace g_m_by := g_m_by.S hs
  replace g_m_ho := g_m_ho.S hs
  replace g_m_fc := g_m_fc.S hs
  replace g_m_nt := g_m_nt.S hs
  replace g_m_wt := g_m_wt.S hs
  replace g_m_be := g_m_be.S hs
  replace g_m_bor := g_m_bor.S hs
  replace g_m_kin := g_m_kin.S hs
  replace g_m_sum := g_m_sum.S hs
  replace g_m_fro := g_m_fro.S hs
  replace g_m_fil := g_m_fil.S hs
  replace g_m_jud := g_m_jud.S hs
  replace g_m_ear := g_m_ear.S hs
  replace g_m_hds := g_m_hds.S hs
  replace g_m_ord := g_m_ord.S hs
  replace g_m_wkl := g_m_wkl.S hs
  replace g_m_owd := g_m_owd.S hs
  replace g_m_gds := g_m_gds.S hs
  replace g_m_szd := g_m_szd.S hs
  replace g_m_srv := g_m_srv.S hs
  replace g_y_p0 := g_y_p0.S hs
  replace g_m_p0 := g_m_p0.S hs
  replace g_y_p1 := g_y_p1.S hs
  replace g_m_p1 := g_m_p1.S hs
  replace g_y_p2 := g_y_p2.S hs
  replace g_m_p2 := g_m_p2.S hs
  replace g_y_p3 := g_y_p3.S hs
  replace g_m_p3 := g_m_p3.S hs
  replace g_y_p4 := g_y_p4.S hs
  replace g_m_p4 := g_m_p4.S hs
  replace g_qrg9 := g_qrg9.S hs
  replace g_y_ls := g_y_ls.S hs
  replace g_m_rl := g_m_rl.S hs
  refine lv_pop hx hb dL_law_1143 rfl ?_
  refine lv_aload_n hx hb dL_law_1144 rfl (lv_at hl 1 rfl) ?_
  refine lv_aload_n hx hb dL_law_1145 rfl (lv_at hl 3 rfl) ?_
  refine lv_iload_n hx hb dL_law_1146 rfl (lv_at hl 0 rfl) ?_
  refine lv_iconst (v := 1) hx hb dL_law_1147 ?o27 ?_
  case o27 => decide
  refine lv_iadd hx hb dL_law_1148 ?_
  refine lv_topi (fun x_720 ex_720 => ?_)
  have zx_720 : x_720.toInt = i.toInt + 1 := ?o28
  case o28 =>
    rw [ex_720]
    refine i32_add rfl ?o29 ?o30 ?o31
    case o29 => decide
    case o30 => omega
    case o31 => omega
  obtain rfl : x_711 = x_720 := ex_711.trans ex_720.symm
  refine va_sld hx hb hX hbl hbA hW.2.2.2.1 (vp_in_iff.mpr ⟨?o32, ?o33⟩) dL_law_1149 ?_
  case o32 => omega
  case o33 => omega
  refine lv_topi (fun x_721 ex_721 => ?_)
  obtain rfl : x_712 = x_721 := ex_712.trans ex_721.symm
  refine lv_aload_n hx hb dL_law_1150 rfl (lv_at hl 3 rfl) ?_
  refine lv_iload_n hx hb dL_law_1151 rfl (lv_at hl 0 rfl) ?_
  refine lv_iconst (v := 2) hx hb dL_law_1152 ?o34 ?_
  case o34 => decide
  refine lv_iadd hx hb dL_law_1153 ?_
  refine lv_topi (fun x_722 ex_722 => ?_)
  have zx_722 : x_722.toInt = i.toInt + 2 := ?o35
  case o35 =>
    rw [ex_722]
    refine i32_add rfl ?o36 ?o37 ?o38
    case o36 => decide
    case o37 => omega
    case o38 => omega
  obtain rfl : x_713 = x_722 := ex_713.trans ex_722.symm
  refine va_sld hx hb hX hbl hbA hW.2.2.2.1 (vp_in_iff.mpr ⟨?o39, ?o40⟩) dL_law_1154 ?_
  case o39 => omega
  case o40 => omega
  refine lv_topi (fun x_723 ex_723 => ?_)
  obtain rfl : x_714 = x_723 := ex_714.trans ex_723.symm
  have hTo := hT
  obtain ⟨q_724, fq_724, gq_724⟩ := hx_rf hT gm tt_10 (k := 78) (u := 104) rfl
  obtain ⟨q_725, fq_725, gq_725⟩ := hx_rf hT gm tt_10 (k := 79) (u := 105) rfl
  refine hx_goi (hx_runV (As := [.int x_712, .int x_714]) (rest := []) ⟨hx, hb, hml, hown, hts⟩ hW gm tt_10 (T := TX10) (N := 98) rfl (t_X10_plan l dC dI dA L_715 h_716 H.size am x_712 x_714 hT gm mr g_mr f_mr ml g_ml f_ml q_724 gq_724 fq_724 q_725 gq_725 fq_725 F_mr n_mr F_ml n_ml a0 f_m_acts c0 f_m_claims hWK hPL) (cwV 2 hts (hx_gV kw_1677 kw_1674 kw_1675 kw_1676 kw_103) rfl rfl rfl (by decide +kernel) ⟨Nat.le_of_ble_eq_true rfl, Nat.le_of_ble_eq_true rfl⟩) rfl hl.1 rfl (Nat.le_of_ble_eq_true rfl) dL_law_1155 ⟨(show CC + 0 + 0 ≤ 600000 from ?o41), (show SS + 0 + 0 ≤ 7302250 from ?o42)⟩) hW (fun r_728 L_726 h_727 H locs p_729 hW => ?_)
  case o41 => omega
  case o42 => omega
  obtain ⟨hr_730, hT, hs⟩ := p_729
  replace hT : hx_T T_tb L_726 h_727 := hT
  replace hs : hx_S T_tb [(10, 67), (10, 68), (10, 69), (10, 70), (10, 71), (10, 72), (10, 75), (100, 0), (101, 0), (102, 0), (103, 0), (104, 0), (105, 0), (106, 0), (107, 0)] L_715 h_716 L_726 h_727 := hs
  replace f_qa := (hs.o gx trivial rfl).2.trans f_qa
  replace f_qp := (hs.o gx trivial rfl).2.trans f_qp
  replace f_qc := (hs.o gx trivial rfl).2.trans f_qc
  replace f_qh := (hs.o gx trivial rfl).2.trans f_qh
  replace f_qw := (hs.o gx trivial rfl).2.trans f_qw
  replace f_ql := (hs.o g_qw trivial rfl).2.trans f_ql
  replace f_m_now := (hs.o gm trivial rfl).1.trans f_m_now
  replace f_m_persons := (hs.o gm trivial rfl).1.trans f_m_persons
  replace f_m_claims := (hs.o gm trivial rfl).1.trans f_m_claims
  replace f_m_taped := (hs.o gm trivial rfl).1.trans f_m_taped
  replace f_m_acts := (hs.o gm trivial rfl).1.trans f_m_acts
  replace f_m_heardMany := (hs.o gm trivial rfl).1.trans f_m_heardMany
  replace f_m_lines := (hs.o gm trivial rfl).1.trans f_m_lines
  replace f_m_listed := (hs.o gm trivial rfl).1.trans f_m_listed
  replace f_m_walkedMany := (hs.o gm trivial rfl).1.trans f_m_walkedMany
  replace f_m_payments := (hs.o gm trivial rfl).1.trans f_m_payments
  replace f_x_now := (hs.o gx trivial rfl).1.trans f_x_now
  replace f_x_personCount := (hs.o gx trivial rfl).1.trans f_x_personCount
  replace f_x_claimCount := (hs.o gx trivial rfl).1.trans f_x_claimCount
  replace f_x_tapeLength := (hs.o gx trivial rfl).1.trans f_x_tapeLength
  replace f_x_actCount := (hs.o gx trivial rfl).1.trans f_x_actCount
  replace f_x_heardCount := (hs.o gx trivial rfl).1.trans f_x_heardCount
  replace f_mw := (hs.o gm trivial rfl).2.trans f_mw
  replace f_mr := (hs.o gm trivial rfl).2.trans f_mr
  replace f_mp := (hs.o gm trivial rfl).2.trans f_mp
  replace f_mn := (hs.o gm trivial rfl).2.trans f_mn
  replace f_ml := (hs.o gm trivial rfl).2.trans f_ml
  replace f_mh := (hs.o gm trivial rfl).2.trans f_mh
  replace f_mt := (hs.o gm trivial rfl).2.trans f_mt
  replace f_m_fou := (hs.o gm trivial rfl).2.trans f_m_fou
  replace f_qo_ln := (hs.o gx trivial rfl).2.trans f_qo_ln
  replace f_o_ln := (hs.o g_qo_ln trivial rfl).1.trans f_o_ln
  replace f_o_lsd := (hs.o g_qw trivial rfl).1.trans f_o_lsd
  replace f_o_wkm := (hs.o g_qw trivial rfl).1.trans f_o_wkm
  replace f_qo_py := (hs.o gx trivial rfl).2.trans f_qo_py
  replace f_o_py := (hs.o g_qo_py trivial rfl).1.trans f_o_py
  replace f_b_of := (hs.o g_qo_ln trivial rfl).2.trans f_b_of
  replace f_m_of := (hs.o gm trivial rfl).2.trans f_m_of
  replace f_b_wf := (hs.o g_qo_ln trivial rfl).2.trans f_b_wf
  replace f_m_wf := (hs.o gm trivial rfl).2.trans f_m_wf
  replace f_b_df := (hs.o g_qo_ln trivial rfl).2.trans f_b_df
  replace f_m_df := (hs.o gm trivial rfl).2.trans f_m_df
  replace f_b_kf := (hs.o g_qo_ln trivial rfl).2.trans f_b_kf
  replace f_m_kf := (hs.o gm trivial rfl).2.trans f_m_kf
  replace f_b_sf := (hs.o g_qo_ln trivial rfl).2.trans f_b_sf
  replace f_m_sf := (hs.o gm trivial rfl).2.trans f_m_sf
  replace f_b_bf := (hs.o g_qo_ln trivial rfl).2.trans f_b_bf
  replace f_m_lst := (hs.o gm trivial rfl).2.trans f_m_lst
  replace f_qtp := (hs.o gx trivial rfl).2.trans f_qtp
  replace f_m_tp := (hs.o gm trivial rfl).2.trans f_m_tp
  replace f_m_dead := (hs.o gm trivial rfl).2.trans f_m_dead
  replace f_m_isj := (hs.o gm trivial rfl).2.trans f_m_isj
  replace f_m_dox := (hs.o gm trivial rfl).2.trans f_m_dox
  replace f_m_doy := (hs.o gm trivial rfl).2.trans f_m_doy
  replace f_qlt := (hs.o g_qw trivial rfl).2.trans f_qlt
  replace f_qlf := (hs.o g_qw trivial rfl).2.trans f_qlf
  replace f_m_wkd := (hs.o gm trivial rfl).2.trans f_m_wkd
  replace f_m_aga := (hs.o gm trivial rfl).2.trans f_m_aga
  replace f_qwo := (hs.o gx trivial rfl).2.trans f_qwo
  replace f_m_ad := (hs.o gm trivial rfl).2.trans f_m_ad
  replace f_m_by := (hs.o gm trivial rfl).2.trans f_m_by
  replace f_m_ho := (hs.o gm trivial rfl).2.trans f_m_ho
  replace f_m_fc := (hs.o gm trivial rfl).2.trans f_m_fc
  replace f_m_nt := (hs.o gm trivial rfl).2.trans f_m_nt
  replace f_m_wt := (hs.o gm trivial rfl).2.trans f_m_wt
  replace f_m_be := (hs.o gm trivial rfl).2.trans f_m_be
  replace f_m_bor := (hs.o gm trivial rfl).2.trans f_m_bor
  replace f_m_kin := (hs.o gm trivial rfl).2.trans f_m_kin
  replace f_m_sum := (hs.o gm trivial rfl).2.trans f_m_sum
  replace f_m_fro := (hs.o gm trivial rfl).2.trans f_m_fro
  replace f_m_fil := (hs.o gm trivial rfl).2.trans f_m_fil
  replace f_m_jud := (hs.o gm trivial rfl).2.trans f_m_jud
  replace f_m_ear := (hs.o gm trivial rfl).2.trans f_m_ear
  replace f_m_hds := (hs.o gm trivial rfl).2.trans f_m_hds
  replace f_m_ord := (hs.o gm trivial rfl).2.trans f_m_ord
  replace f_m_wkl := (hs.o gm trivial rfl).2.trans f_m_wkl
  replace f_m_owd := (hs.o gm trivial rfl).2.trans f_m_owd
  replace f_m_gds := (hs.o gm trivial rfl).2.trans f_m_gds
  replace f_m_szd := (hs.o gm trivial rfl).2.trans f_m_szd
  replace f_m_srv := (hs.o gm trivial rfl).2.trans f_m_srv
  replace f_y_p0 := (hs.o g_qo_py trivial rfl).2.trans f_y_p0
  replace f_m_p0 := (hs.o gm trivial rfl).2.trans f_m_p0
  replace f_y_p1 := (hs.o g_qo_py trivial rfl).2.trans f_y_p1
  replace f_m_p1 := (hs.o gm trivial rfl).2.trans f_m_p1
  replace f_y_p2 := (hs.o g_qo_py trivial rfl).2.trans f_y_p2
  replace f_m_p2 := (hs.o gm trivial rfl).2.trans f_m_p2
  replace f_y_p3 := (hs.o g_qo_py trivial rfl).2.trans f_y_p3
  replace f_m_p3 := (hs.o gm trivial rfl).2.trans f_m_p3
  replace f_y_p4 := (hs.o g_qo_py trivial rfl).2.trans f_y_p4
  replace f_m_p4 := (hs.o gm trivial rfl).2.trans f_m_p4
  replace f_qrg9 := (hs.o gx trivial rfl).2.trans f_qrg9
  replace f_y_ls := (hs.o g_qrg9 trivial rfl).2.trans f_y_ls
  replace f_m_rl := (hs.o gm trivial rfl).2.trans f_m_rl
  replace ffv_707 := (hs.o g_qrg9 trivial rfl).1.trans ffv_707
  replace ffv_708 := (hs.o gm trivial rfl).1.trans ffv_708
  replace ffv_709 := (hs.o gm trivial rfl).1.trans ffv_709
  replace fq_724 := (hs.o gm trivial rfl).2.trans fq_724
  replace fq_725 := (hs.o gm trivial rfl).2.trans fq_725
  replace pf_qa : ∀ j : Nat, (j : Int) < (h_727.2.1 ax 6).toInt → h_727.2.2 qa j ≠ none := by
    intro j hj; rw [(hs.o gx trivial rfl).1] at hj; rw [(hs.a g_qa rfl j).2]; exact pf_qa j hj
  replace pf_qp : ∀ j : Nat, (j : Int) < (h_727.2.1 ax 8).toInt → h_727.2.2 qp j ≠ none := by
    intro j hj; rw [(hs.o gx trivial rfl).1] at hj; rw [(hs.a g_qp rfl j).2]; exact pf_qp j hj
  replace pf_qc : ∀ j : Nat, (j : Int) < (h_727.2.1 ax 11).toInt → h_727.2.2 qc j ≠ none := by
    intro j hj; rw [(hs.o gx trivial rfl).1] at hj; rw [(hs.a g_qc rfl j).2]; exact pf_qc j hj
  replace pf_qh : ∀ j : Nat, (j : Int) < (h_727.2.1 ax 13).toInt → h_727.2.2 qh j ≠ none := by
    intro j hj; rw [(hs.o gx trivial rfl).1] at hj; rw [(hs.a g_qh rfl j).2]; exact pf_qh j hj
  replace pf_ql : ∀ j : Nat, (j : Int) < (h_727.2.1 qw 0).toInt → h_727.2.2 ql j ≠ none := by
    intro j hj; rw [(hs.o g_qw trivial rfl).1] at hj; rw [(hs.a g_ql rfl j).2]; exact pf_ql j hj
  replace cl_lst : hx_col 8 h_727 ql 0 = c_lst := (hx_col_S hs hTo g_ql tt_40 tt_2 rfl rfl).trans cl_lst
  replace cl_dead : hx_col 40 h_727 qp 7 = c_dead := (hx_col_S hs hTo g_qp tt_44 tt_4 rfl rfl).trans cl_dead
  replace cl_isj : hx_col 40 h_727 qp 8 = c_isj := (hx_col_S hs hTo g_qp tt_44 tt_4 rfl rfl).trans cl_isj
  replace cl_dox : hx_col 40 h_727 qp 5 = c_dox := (hx_col_S hs hTo g_qp tt_44 tt_4 rfl rfl).trans cl_dox
  replace cl_doy : hx_col 40 h_727 qp 6 = c_doy := (hx_col_S hs hTo g_qp tt_44 tt_4 rfl rfl).trans cl_doy
  replace cl_fou : hx_col 100 h_727 qc 10 = c_fou := (hx_col_S hs hTo g_qc tt_45 tt_2 rfl rfl).trans cl_fou
  replace cl_tri : hx_col 100 h_727 qc 9 = c_tri := (hx_col_S hs hTo g_qc tt_45 tt_2 rfl rfl).trans cl_tri
  replace cl_bor : hx_col 40 h_727 qp 1 = F_bor := (hx_col_S hs hTo g_qp tt_44 tt_4 rfl rfl).trans cl_bor
  replace cl_kin : hx_col 40 h_727 qp 2 = F_kin := (hx_col_S hs hTo g_qp tt_44 tt_4 rfl rfl).trans cl_kin
  replace cl_sum : hx_col 100 h_727 qc 6 = F_sum := (hx_col_S hs hTo g_qc tt_45 tt_2 rfl rfl).trans cl_sum
  replace cl_fro : hx_col 100 h_727 qc 7 = F_fro := (hx_col_S hs hTo g_qc tt_45 tt_2 rfl rfl).trans cl_fro
  replace cl_fil : hx_col 100 h_727 qc 8 = F_fil := (hx_col_S hs hTo g_qc tt_45 tt_2 rfl rfl).trans cl_fil
  replace cl_hea : hx_col 100 h_727 qc 11 = F_mh := (hx_col_S hs hTo g_qc tt_45 tt_2 rfl rfl).trans cl_hea
  replace cl_jud : hx_col 100 h_727 qc 12 = F_jud := (hx_col_S hs hTo g_qc tt_45 tt_2 rfl rfl).trans cl_jud
  replace cl_ear : hx_col 40 h_727 qp 3 = F_ear := (hx_col_S hs hTo g_qp tt_44 tt_4 rfl rfl).trans cl_ear
  replace cl_hds : hx_col 40 h_727 qp 4 = F_hds := (hx_col_S hs hTo g_qp tt_44 tt_4 rfl rfl).trans cl_hds
  replace cl_ord : hx_col 100 h_727 qc 13 = F_ord := (hx_col_S hs hTo g_qc tt_45 tt_2 rfl rfl).trans cl_ord
  replace cl_wkl : hx_col 100 h_727 qc 14 = F_wkl := (hx_col_S hs hTo g_qc tt_45 tt_2 rfl rfl).trans cl_wkl
  replace cl_owd : hx_col 100 h_727 qc 15 = F_owd := (hx_col_S hs hTo g_qc tt_45 tt_2 rfl rfl).trans cl_owd
  replace cl_gds : hx_col 100 h_727 qc 17 = F_gds := (hx_col_S hs hTo g_qc tt_45 tt_2 rfl rfl).trans cl_gds
  replace cl_szd : hx_col 100 h_727 qc 16 = F_szd := (hx_col_S hs hTo g_qc tt_45 tt_2 rfl rfl).trans cl_szd
  replace cl_srv : hx_col 100 h_727 qc 18 = F_srv := (hx_col_S hs hTo g_qc tt_45 tt_2 rfl rfl).trans cl_srv
  replace nu_qp : hx_num 40 h_727 qp 0 (np.toInt) := hx_num_S hs hTo g_qp tt_44 tt_4 rfl rfl nu_qp
  replace nu_qc : hx_num 100 h_727 qc 0 (c0.toInt) := hx_num_S hs hTo g_qc tt_45 tt_2 rfl rfl nu_qc
  replace sb_list : hx_LQ 8 100 h_727 ql qc := hx_LQ_S hs g_ql g_qc rfl rfl sb_list
  replace hDF : hw_DF h_727 qc qp 2 F_aga c0.toInt := hw_DF_S hs hTo g_qc g_qp tt_45 tt_2 rfl rfl rfl hDF
  replace hRA9 : hv_RA h_727 qa qwo a0.toInt A9 := hv_RA_S hs hTo g_qa g_qwo tt_43 tt_0 rfl rfl rfl rfl rfl rfl ?o43 hRA9
  case o43 => omega
  replace hDP : hw_DF h_727 qc qp 1 F_by c0.toInt := hw_DF_S hs hTo g_qc g_qp tt_45 tt_2 rfl rfl rfl hDP
  replace hAC9 : hv_AC h_727 qc F_ml c0.toInt A9 := hv_AC_S hs hTo g_qc tt_45 tt_2 rfl tt_0 rfl rfl rfl rfl rfl rfl rfl hAC9
  replace hFX : hv_FX 8 4 h_727 qc cF9L c0.toInt := hv_FX_S hs hTo g_qc tt_45 tt_2 rfl rfl rfl rfl hFX
  replace hBX : hv_FX 3 5 h_727 qc F_be c0.toInt := hv_FX_S hs hTo g_qc tt_45 tt_2 rfl rfl rfl rfl hBX
  replace hHL : hv_HL h_727 qh qc F_ho m0.toInt c0.toInt := hv_HL_S hs g_qh g_qc rfl rfl hHL
  replace n_mw : h_727.2.1 mw = F_mw := (funext fun j => (hs.a g_mw rfl j).1).trans n_mw
  replace n_mr : h_727.2.1 mr = F_mr := (funext fun j => (hs.a g_mr rfl j).1).trans n_mr
  replace n_mp : h_727.2.1 mp = F_mp := (funext fun j => (hs.a g_mp rfl j).1).trans n_mp
  replace n_mn : h_727.2.1 mn = F_mn := (funext fun j => (hs.a g_mn rfl j).1).trans n_mn
  replace n_ml : h_727.2.1 ml = F_ml := (funext fun j => (hs.a g_ml rfl j).1).trans n_ml
  replace n_mh : h_727.2.1 mh = F_mh := (funext fun j => (hs.a g_mh rfl j).1).trans n_mh
  replace n_mt : h_727.2.1 mt = F_mt := (funext fun j => (hs.a g_mt rfl j).1).trans n_mt
  replace n_m_fou : h_727.2.1 m_fou = F_m_fou := (funext fun j => (hs.a g_m_fou rfl j).1).trans n_m_fou
  replace n_b_of : h_727.2.1 b_of = B_of := (funext fun j => (hs.a g_b_of rfl j).1).trans n_b_of
  replace n_m_of : h_727.2.1 m_of = F_of := (funext fun j => (hs.a g_m_of rfl j).1).trans n_m_of
  replace n_b_wf : h_727.2.1 b_wf = B_wf := (funext fun j => (hs.a g_b_wf rfl j).1).trans n_b_wf
  replace n_m_wf : h_727.2.1 m_wf = F_wf := (funext fun j => (hs.a g_m_wf rfl j).1).trans n_m_wf
  replace n_b_df : h_727.2.1 b_df = B_df := (funext fun j => (hs.a g_b_df rfl j).1).trans n_b_df
  replace n_m_df : h_727.2.1 m_df = F_df := (funext fun j => (hs.a g_m_df rfl j).1).trans n_m_df
  replace n_b_kf : h_727.2.1 b_kf = B_kf := (funext fun j => (hs.a g_b_kf rfl j).1).trans n_b_kf
  replace n_m_kf : h_727.2.1 m_kf = F_kf := (funext fun j => (hs.a g_m_kf rfl j).1).trans n_m_kf
  replace n_b_sf : h_727.2.1 b_sf = B_sf := (funext fun j => (hs.a g_b_sf rfl j).1).trans n_b_sf
  replace n_m_sf : h_727.2.1 m_sf = F_sf := (funext fun j => (hs.a g_m_sf rfl j).1).trans n_m_sf
  replace n_b_bf : h_727.2.1 b_bf = bfL := (funext fun j => (hs.a g_b_bf rfl j).1).trans n_b_bf
  replace n_lst : h_727.2.1 m_lst = F_lst := (funext fun j => (hs.a g_m_lst rfl j).1).trans n_lst
  replace n_tp : h_727.2.1 m_tp = F_tp := (funext fun j => (hs.a g_m_tp rfl j).1).trans n_tp
  replace n_qtp : h_727.2.1 qtp = F_tp := (funext fun j => (hs.a g_qtp rfl j).1).trans n_qtp
  replace n_dead : h_727.2.1 m_dead = F_dead := (funext fun j => (hs.a g_m_dead rfl j).1).trans n_dead
  replace n_isj : h_727.2.1 m_isj = F_isj := (funext fun j => (hs.a g_m_isj rfl j).1).trans n_isj
  replace n_dox : h_727.2.1 m_dox = F_dox := (funext fun j => (hs.a g_m_dox rfl j).1).trans n_dox
  replace n_doy : h_727.2.1 m_doy = F_doy := (funext fun j => (hs.a g_m_doy rfl j).1).trans n_doy
  replace n_qlt : h_727.2.1 qlt = F_qlt := (funext fun j => (hs.a g_qlt rfl j).1).trans n_qlt
  replace n_m_wkd : h_727.2.1 m_wkd = F_m_wkd := (funext fun j => (hs.a g_m_wkd rfl j).1).trans n_m_wkd
  replace n_aga : h_727.2.1 m_aga = F_aga := (funext fun j => (hs.a g_m_aga rfl j).1).trans n_aga
  replace n_ad : h_727.2.1 m_ad = F_ad := (funext fun j => (hs.a g_m_ad rfl j).1).trans n_ad
  replace n_by : h_727.2.1 m_by = F_by := (funext fun j => (hs.a g_m_by rfl j).1).trans n_by
  replace n_ho : h_727.2.1 m_ho = F_ho := (funext fun j => (hs.a g_m_ho rfl j).1).trans n_ho
  replace n_fc : h_727.2.1 m_fc = F_fc := (funext fun j => (hs.a g_m_fc rfl j).1).trans n_fc
  replace n_nt : h_727.2.1 m_nt = F_nt := (funext fun j => (hs.a g_m_nt rfl j).1).trans n_nt
  replace n_wt : h_727.2.1 m_wt = F_wt := (funext fun j => (hs.a g_m_wt rfl j).1).trans n_wt
  replace n_be : h_727.2.1 m_be = F_be := (funext fun j => (hs.a g_m_be rfl j).1).trans n_be
  replace n_bor : h_727.2.1 m_bor = F_bor := (funext fun j => (hs.a g_m_bor rfl j).1).trans n_bor
  replace n_kin : h_727.2.1 m_kin = F_kin := (funext fun j => (hs.a g_m_kin rfl j).1).trans n_kin
  replace n_sum : h_727.2.1 m_sum = F_sum := (funext fun j => (hs.a g_m_sum rfl j).1).trans n_sum
  replace n_fro : h_727.2.1 m_fro = F_fro := (funext fun j => (hs.a g_m_fro rfl j).1).trans n_fro
  replace n_fil : h_727.2.1 m_fil = F_fil := (funext fun j => (hs.a g_m_fil rfl j).1).trans n_fil
  replace n_jud : h_727.2.1 m_jud = F_jud := (funext fun j => (hs.a g_m_jud rfl j).1).trans n_jud
  replace n_ear : h_727.2.1 m_ear = F_ear := (funext fun j => (hs.a g_m_ear rfl j).1).trans n_ear
  replace n_hds : h_727.2.1 m_hds = F_hds := (funext fun j => (hs.a g_m_hds rfl j).1).trans n_hds
  replace n_ord : h_727.2.1 m_ord = F_ord := (funext fun j => (hs.a g_m_ord rfl j).1).trans n_ord
  replace n_wkl : h_727.2.1 m_wkl = F_wkl := (funext fun j => (hs.a g_m_wkl rfl j).1).trans n_wkl
  replace n_owd : h_727.2.1 m_owd = F_owd := (funext fun j => (hs.a g_m_owd rfl j).1).trans n_owd
  replace n_gds : h_727.2.1 m_gds = F_gds := (funext fun j => (hs.a g_m_gds rfl j).1).trans n_gds
  replace n_szd : h_727.2.1 m_szd = F_szd := (funext fun j => (hs.a g_m_szd rfl j).1).trans n_szd
  replace n_srv : h_727.2.1 m_srv = F_srv := (funext fun j => (hs.a g_m_srv rfl j).1).trans n_srv
  replace n_p0 : h_727.2.1 m_p0 = F_p0 := (funext fun j => (hs.a g_m_p0 rfl j).1).trans n_p0
  replace n_y_p0 : h_727.2.1 y_p0 = F_p0 := (funext fun j => (hs.a g_y_p0 rfl j).1).trans n_y_p0
  replace n_p1 : h_727.2.1 m_p1 = F_p1 := (funext fun j => (hs.a g_m_p1 rfl j).1).trans n_p1
  replace n_y_p1 : h_727.2.1 y_p1 = F_p1 := (funext fun j => (hs.a g_y_p1 rfl j).1).trans n_y_p1
  replace n_p2 : h_727.2.1 m_p2 = F_p2 := (funext fun j => (hs.a g_m_p2 rfl j).1).trans n_p2
  replace n_y_p2 : h_727.2.1 y_p2 = F_p2 := (funext fun j => (hs.a g_y_p2 rfl j).1).trans n_y_p2
  replace n_p3 : h_727.2.1 m_p3 = F_p3 := (funext fun j => (hs.a g_m_p3 rfl j).1).trans n_p3
  replace n_y_p3 : h_727.2.1 y_p3 = F_p3 := (funext fun j => (hs.a g_y_p3 rfl j).1).trans n_y_p3
  replace n_p4 : h_727.2.1 m_p4 = F_p4 := (funext fun j => (hs.a g_m_p4 rfl j).1).trans n_p4
  replace n_y_p4 : h_727.2.1 y_p4 = F_p4 := (funext fun j => (hs.a g_y_p4 rfl j).1).trans n_y_p4
  replace n_y_ls : h_727.2.1 y_ls = F_y_ls := (funext fun j => (hs.a g_y_ls rfl j).1).trans n_y_ls
  replace n_m_rl : h_727.2.1 m_rl = F_m_rl := (funext fun j => (hs.a g_m_rl rfl j).1).trans n_m_rl
  replace gx := gx.S hs
  replace gm := gm.S hs
  replace g_qa := g_qa.S hs
  replace g_qp := g_qp.S hs
  replace g_qc := g_qc.S hs
  replace g_qh := g_qh.S hs
  replace g_qw := g_qw.S hs
  replace g_ql := g_ql.S hs
  replace g_mw := g_mw.S hs
  replace g_mr := g_mr.S hs
  replace g_mp := g_mp.S hs
  replace g_mn := g_mn.S hs
  replace g_ml := g_ml.S hs
  replace g_mh := g_mh.S hs
  replace g_mt := g_mt.S hs
  replace g_m_fou := g_m_fou.S hs
  replace g_qo_ln := g_qo_ln.S hs
  replace g_qo_py := g_qo_py.S hs
  replace g_b_of := g_b_of.S hs
  replace g_m_of := g_m_of.S hs
  replace g_b_wf := g_b_wf.S hs
  replace g_m_wf := g_m_wf.S hs
  replace g_b_df := g_b_df.S hs
  replace g_m_df := g_m_df.S hs
  replace g_b_kf := g_b_kf.S hs
  replace g_m_kf := g_m_kf.S hs
  replace g_b_sf := g_b_sf.S hs
  replace g_m_sf := g_m_sf.S hs
  replace g_b_bf := g_b_bf.S hs
  replace g_m_lst := g_m_lst.S hs
  replace g_qtp := g_qtp.S hs
  replace g_m_tp := g_m_tp.S hs
  replace g_m_dead := g_m_dead.S hs
  replace g_m_isj := g_m_isj.S hs
  replace g_m_dox := g_m_dox.S hs
  replace g_m_doy := g_m_doy.S hs
  replace g_qlt := g_qlt.S hs
  replace g_qlf := g_qlf.S hs
  replace g_m_wkd := g_m_wkd.S hs
  replace g_m_aga := g_m_aga.S hs
  replace g_qwo := g_qwo.S hs
  replace g_m_ad := g_m_ad.S hs
  replace g_m_by := g_m_by.S hs
  replace g_m_ho := g_m_ho.S hs
  replace g_m_fc := g_m_fc.S hs
  replace g_m_nt := g_m_nt.S hs
  replace g_m_wt := g_m_wt.S hs
  replace g_m_be := g_m_be.S hs
  replace g_m_bor := g_m_bor.S hs
  replace g_m_kin := g_m_kin.S hs
  replace g_m_sum := g_m_sum.S hs
  replace g_m_fro := g_m_fro.S hs
  replace g_m_fil := g_m_fil.S hs
  replace g_m_jud := g_m_jud.S hs
  replace g_m_ear := g_m_ear.S hs
  replace g_m_hds := g_m_hds.S hs
  replace g_m_ord := g_m_ord.S hs
  replace g_m_wkl := g_m_wkl.S hs
  replace g_m_owd := g_m_owd.S hs
  replace g_m_gds := g_m_gds.S hs
  replace g_m_szd := g_m_szd.S hs
  replace g_m_srv := g_m_srv.S hs
  replace g_y_p0 := g_y_p0.S hs
  replace g_m_p0 := g_m_p0.S hs
  replace g_y_p1 := g_y_p1.S hs
  replace g_m_p1 := g_m_p1.S hs
  replace g_y_p2 := g_y_p2.S hs
  replace g_m_p2 := g_m_p2.S hs
  replace g_y_p3 := g_y_p3.S hs
  replace g_m_p3 := g_m_p3.S hs
  replace g_y_p4 := g_y_p4.S hs
  replace g_m_p4 := g_m_p4.S hs
  replace g_qrg9 := g_qrg9.S hs
  replace g_y_ls := g_y_ls.S hs
  replace g_m_rl := g_m_rl.S hs
  replace gq_724 := gq_724.S hs
  replace gq_725 := gq_725.S hs
  refine lv_pop hx hb dL_law_1158 rfl ?_
  refine lv_goto (tgt := 1379) hx hb dL_law_1159 ?o44 ?_
  case o44 => decide
  refine W.widen (k := CC + 3) (n := SS + 179) ?o45 ?o46 ?_
  case o45 => omega
  case o46 => omega
  refine kk L_726 h_727 H locs ls hW ⟨hT, gx, gm, ⟨f_x_now.trans f_m_now.symm, f_x_personCount.trans f_m_persons.symm, f_x_claimCount.trans f_m_claims.symm, f_x_tapeLength.trans f_m_taped.symm, f_x_actCount.trans f_m_acts.symm, f_x_heardCount.trans f_m_heardMany.symm, hx_ob f_qo_ln (f_o_ln.trans f_m_lines.symm), hx_ob f_qw (f_o_lsd.trans f_m_listed.symm), hx_ob f_qw (f_o_wkm.trans f_m_walkedMany.symm), hx_ob f_qo_py (f_o_py.trans f_m_payments.symm), hx_ob f_qp ?o47, hx_ob f_qc ?o48, (fun b a r hb ha hr => ?o49), (fun b a r hb ha hr => ?o50), (fun b a r hb ha hr => ?o51), (fun b a r hb ha hr => ?o52), (fun b a r hb ha hr => ?o53), (fun b a r hb ha hr => ?o54), (fun w q c hw hq hc => ?o55), (fun w q r hw hq hr => ?o56), (fun w q r hw hq hr => ?o57), (fun c q a hc hq ha => ?o58), (fun q r hq hr => ?o59), (fun q w a b c d e p hq hw ha hb hc hd he hp => ?o60), (fun c q a hc hq ha => ?o61), (fun q c a hq hc ha => ?o62), (fun a b ha hb => ?o63), (fun c a b d e f hc ha hb hd he hf => ?o64), (fun c a hc ha => ?o65), hx_ob2 f_qp f_m_bor (cl_bor.trans n_bor.symm), hx_ob2 f_qp f_m_kin (cl_kin.trans n_kin.symm), hx_ob2 f_qc f_m_sum (cl_sum.trans n_sum.symm), hx_ob2 f_qc f_m_fro (cl_fro.trans n_fro.symm), hx_ob2 f_qc f_m_fil (cl_fil.trans n_fil.symm), hx_ob2 f_qc f_mh (cl_hea.trans n_mh.symm), hx_ob2 f_qc f_m_jud (cl_jud.trans n_jud.symm), hx_ob2 f_qp f_m_ear (cl_ear.trans n_ear.symm), hx_ob2 f_qp f_m_hds (cl_hds.trans n_hds.symm), hx_ob2 f_qc f_m_ord (cl_ord.trans n_ord.symm), hx_ob2 f_qc f_m_wkl (cl_wkl.trans n_wkl.symm), hx_ob2 f_qc f_m_owd (cl_owd.trans n_owd.symm), hx_ob2 f_qc f_m_gds (cl_gds.trans n_gds.symm), hx_ob2 f_qc f_m_szd (cl_szd.trans n_szd.symm), hx_ob2 f_qc f_m_srv (cl_srv.trans n_srv.symm), (fun p q r hp hq hr => ?o66), (fun p q r hp hq hr => ?o67), (fun p q r hp hq hr => ?o68), (fun p q r hp hq hr => ?o69), (fun p q r hp hq hr => ?o70), (fun p hp => ?o71), (fun p q r hp hq hr => ?o72), hx_ob2 f_qp f_m_dead ?o73, hx_ob2 f_qp f_m_isj ?o74, hx_ob2 f_qp f_m_dox ?o75, hx_ob2 f_qp f_m_doy ?o76, hx_ob2 f_qc f_m_fou ?o77, hx_ob2 f_qc f_mt ?o78, trivial⟩, ⟨hx_ob f_qa pf_qa, hx_ob f_qp pf_qp, hx_ob f_qc pf_qc, hx_ob f_qh pf_qh, (fun w q hw hq => ?o79)⟩, ⟨hx_ob f_mw ?o80, hx_ob f_mr ?o81, hx_ob2 f_mp f_mn ?o82, hx_ob f_ml ?o83, hx_ob f_mh ?o84, hx_ob f_mt ?o85, hx_ob2 f_mh f_m_fou ?o87⟩⟩ hl
  case o47 =>
    rw [f_x_personCount]
    exact nu_qp
  case o48 =>
    rw [f_x_claimCount]
    exact nu_qc
  case o49 =>
    obtain rfl : qo_ln = b := Option.some.inj (f_qo_ln.symm.trans hb)
    obtain rfl : b_of = a := Option.some.inj (f_b_of.symm.trans ha)
    obtain rfl : m_of = r := Option.some.inj (f_m_of.symm.trans hr)
    rw [n_b_of, n_m_of, f_o_ln]
    exact eb_of
  case o50 =>
    obtain rfl : qo_ln = b := Option.some.inj (f_qo_ln.symm.trans hb)
    obtain rfl : b_wf = a := Option.some.inj (f_b_wf.symm.trans ha)
    obtain rfl : m_wf = r := Option.some.inj (f_m_wf.symm.trans hr)
    rw [n_b_wf, n_m_wf, f_o_ln]
    exact eb_wf
  case o51 =>
    obtain rfl : qo_ln = b := Option.some.inj (f_qo_ln.symm.trans hb)
    obtain rfl : b_df = a := Option.some.inj (f_b_df.symm.trans ha)
    obtain rfl : m_df = r := Option.some.inj (f_m_df.symm.trans hr)
    rw [n_b_df, n_m_df, f_o_ln]
    exact eb_df
  case o52 =>
    obtain rfl : qo_ln = b := Option.some.inj (f_qo_ln.symm.trans hb)
    obtain rfl : b_kf = a := Option.some.inj (f_b_kf.symm.trans ha)
    obtain rfl : m_kf = r := Option.some.inj (f_m_kf.symm.trans hr)
    rw [n_b_kf, n_m_kf, f_o_ln]
    exact eb_kf
  case o53 =>
    obtain rfl : qo_ln = b := Option.some.inj (f_qo_ln.symm.trans hb)
    obtain rfl : b_sf = a := Option.some.inj (f_b_sf.symm.trans ha)
    obtain rfl : m_sf = r := Option.some.inj (f_m_sf.symm.trans hr)
    rw [n_b_sf, n_m_sf, f_o_ln]
    exact eb_sf
  case o54 =>
    obtain rfl : qo_ln = b := Option.some.inj (f_qo_ln.symm.trans hb)
    obtain rfl : b_df = a := Option.some.inj (f_b_df.symm.trans ha)
    obtain rfl : b_bf = r := Option.some.inj (f_b_bf.symm.trans hr)
    rw [n_b_df, n_b_bf, f_o_ln]
    exact ⟨hBD, hDY⟩
  case o55 =>
    obtain rfl : qw = w := Option.some.inj (f_qw.symm.trans hw)
    obtain rfl : ql = q := Option.some.inj (f_ql.symm.trans hq)
    obtain rfl : qc = c := Option.some.inj (f_qc.symm.trans hc)
    exact sb_list
  case o56 =>
    obtain rfl : qw = w := Option.some.inj (f_qw.symm.trans hw)
    obtain rfl : ql = q := Option.some.inj (f_ql.symm.trans hq)
    obtain rfl : m_lst = r := Option.some.inj (f_m_lst.symm.trans hr)
    rw [cl_lst, n_lst]
    exact eq_lst
  case o57 =>
    obtain rfl : qw = w := Option.some.inj (f_qw.symm.trans hw)
    obtain rfl : qlt = q := Option.some.inj (f_qlt.symm.trans hq)
    obtain rfl : m_wkd = r := Option.some.inj (f_m_wkd.symm.trans hr)
    rw [n_qlt, n_m_wkd, f_o_wkm]
    exact eb_wkd
  case o58 =>
    obtain rfl : qc = c := Option.some.inj (f_qc.symm.trans hc)
    obtain rfl : qp = q := Option.some.inj (f_qp.symm.trans hq)
    obtain rfl : m_aga = a := Option.some.inj (f_m_aga.symm.trans ha)
    rw [n_aga, f_x_claimCount]
    exact hw_DF_e hDF rfl rfl
  case o59 =>
    obtain rfl : qtp = q := Option.some.inj (f_qtp.symm.trans hq)
    obtain rfl : m_tp = r := Option.some.inj (f_m_tp.symm.trans hr)
    exact n_qtp.trans n_tp.symm
  case o60 =>
    obtain rfl : qa = q := Option.some.inj (f_qa.symm.trans hq)
    obtain rfl : qwo = w := Option.some.inj (f_qwo.symm.trans hw)
    obtain rfl : m_ad = a := Option.some.inj (f_m_ad.symm.trans ha)
    obtain rfl : mr = b := Option.some.inj (f_mr.symm.trans hb)
    obtain rfl : mn = c := Option.some.inj (f_mn.symm.trans hc)
    obtain rfl : mp = d := Option.some.inj (f_mp.symm.trans hd)
    obtain rfl : qc = e := Option.some.inj (f_qc.symm.trans he)
    obtain rfl : ml = p := Option.some.inj (f_ml.symm.trans hp)
    exact ⟨_, by rw [f_x_actCount]; exact hRA9, by rw [f_x_actCount, n_ad, n_mr, n_mn, n_mp]; exact hCA9, by rw [n_ml, f_x_claimCount]; exact hv_AC_e hAC9 rfl rfl rfl, hAB⟩
  case o61 =>
    obtain rfl : qc = c := Option.some.inj (f_qc.symm.trans hc)
    obtain rfl : qp = q := Option.some.inj (f_qp.symm.trans hq)
    obtain rfl : m_by = a := Option.some.inj (f_m_by.symm.trans ha)
    rw [n_by, f_x_claimCount]
    exact hw_DF_e hDP rfl rfl
  case o62 =>
    obtain rfl : qh = q := Option.some.inj (f_qh.symm.trans hq)
    obtain rfl : qc = c := Option.some.inj (f_qc.symm.trans hc)
    obtain rfl : m_ho = a := Option.some.inj (f_m_ho.symm.trans ha)
    rw [n_ho, f_x_heardCount, f_x_claimCount]
    exact hv_HL_e hHL rfl rfl rfl
  case o63 =>
    obtain rfl : m_ho = a := Option.some.inj (f_m_ho.symm.trans ha)
    obtain rfl : mh = b := Option.some.inj (f_mh.symm.trans hb)
    rw [n_ho, n_mh, f_m_heardMany, f_m_claims]
    exact hHO9
  case o64 =>
    obtain rfl : qc = c := Option.some.inj (f_qc.symm.trans hc)
    obtain rfl : m_fc = a := Option.some.inj (f_m_fc.symm.trans ha)
    obtain rfl : m_nt = b := Option.some.inj (f_m_nt.symm.trans hb)
    obtain rfl : m_wt = d := Option.some.inj (f_m_wt.symm.trans hd)
    obtain rfl : m_sum = e := Option.some.inj (f_m_sum.symm.trans he)
    obtain rfl : mh = f := Option.some.inj (f_mh.symm.trans hf)
    exact ⟨cF9L, by rw [f_x_claimCount]; exact hFX, by rw [n_fc, n_nt, n_wt, n_sum, n_mh, f_x_claimCount]; exact hFR9⟩
  case o65 =>
    obtain rfl : qc = c := Option.some.inj (f_qc.symm.trans hc)
    obtain rfl : m_be = a := Option.some.inj (f_m_be.symm.trans ha)
    rw [n_be, f_x_claimCount]
    exact hv_FX_e hBX rfl rfl
  case o66 =>
    obtain rfl : qo_py = p := Option.some.inj (f_qo_py.symm.trans hp)
    obtain rfl : y_p0 = q := Option.some.inj (f_y_p0.symm.trans hq)
    obtain rfl : m_p0 = r := Option.some.inj (f_m_p0.symm.trans hr)
    exact n_y_p0.trans n_p0.symm
  case o67 =>
    obtain rfl : qo_py = p := Option.some.inj (f_qo_py.symm.trans hp)
    obtain rfl : y_p1 = q := Option.some.inj (f_y_p1.symm.trans hq)
    obtain rfl : m_p1 = r := Option.some.inj (f_m_p1.symm.trans hr)
    exact n_y_p1.trans n_p1.symm
  case o68 =>
    obtain rfl : qo_py = p := Option.some.inj (f_qo_py.symm.trans hp)
    obtain rfl : y_p2 = q := Option.some.inj (f_y_p2.symm.trans hq)
    obtain rfl : m_p2 = r := Option.some.inj (f_m_p2.symm.trans hr)
    exact n_y_p2.trans n_p2.symm
  case o69 =>
    obtain rfl : qo_py = p := Option.some.inj (f_qo_py.symm.trans hp)
    obtain rfl : y_p3 = q := Option.some.inj (f_y_p3.symm.trans hq)
    obtain rfl : m_p3 = r := Option.some.inj (f_m_p3.symm.trans hr)
    exact n_y_p3.trans n_p3.symm
  case o70 =>
    obtain rfl : qo_py = p := Option.some.inj (f_qo_py.symm.trans hp)
    obtain rfl : y_p4 = q := Option.some.inj (f_y_p4.symm.trans hq)
    obtain rfl : m_p4 = r := Option.some.inj (f_m_p4.symm.trans hr)
    exact n_y_p4.trans n_p4.symm
  case o71 =>
    obtain rfl : qrg9 = p := Option.some.inj (f_qrg9.symm.trans hp)
    rw [ffv_707, ffv_708, ffv_709]
    exact hNQ9
  case o72 =>
    obtain rfl : qrg9 = p := Option.some.inj (f_qrg9.symm.trans hp)
    obtain rfl : y_ls = q := Option.some.inj (f_y_ls.symm.trans hq)
    obtain rfl : m_rl = r := Option.some.inj (f_m_rl.symm.trans hr)
    rw [n_y_ls, n_m_rl, ffv_707]
    exact hRL9
  case o73 =>
    rw [cl_dead, n_dead]
    exact eq_dead
  case o74 =>
    rw [cl_isj, n_isj]
    exact eq_isj
  case o75 =>
    rw [cl_dox, n_dox]
    exact eq_dox
  case o76 =>
    rw [cl_doy, n_doy]
    exact eq_doy
  case o77 =>
    rw [cl_fou, n_m_fou]
    exact eq_fou
  case o78 =>
    rw [cl_tri, n_mt]
    exact eq_tri
  case o79 =>
    obtain rfl : qw = w := Option.some.inj (f_qw.symm.trans hw)
    obtain rfl : ql = q := Option.some.inj (f_ql.symm.trans hq)
    exact pf_ql
  case o80 =>
    rw [n_mw]
    exact hwd
  case o81 =>
    rw [n_mr, f_m_acts]
    exact hWK
  case o82 =>
    rw [n_mp, n_mn, f_m_acts]
    exact hRP
  case o83 =>
    rw [n_ml, f_m_claims, f_m_acts]
    exact hPL
  case o84 =>
    rw [n_mh, f_m_heardMany, f_m_claims]
    exact hHC
  case o85 =>
    rw [n_mt]
    refine (hx_TR_le hTR ?o86)
    case o86 => omega
  case o87 =>
    rw [n_mh, n_m_fou, f_m_claims]
    exact hHF

set_option maxHeartbeats 4000000 in
set_option maxRecDepth 100000 in
theorem law_case_22 {p : Program} {e : Env} {s : State} {m : MethodId} {below : List Frame} {meth : Method} {c : Code} (l : Launch) {b LN : Nat} {xs : Nat → Int32} (hx : p.tables.exec = Jvm.exec) (hb : c.code = code) (hr : meth.sig.returnType = ret) (hlocks : meth.locks = false) (hml : c.maxLocals = 4) (hown : s.vm.findClass "SmallCourtLaw" = some m.cls) (hts : ∀ w ∈ hx_all, w.before #[Value.ref b] s = true) (hX : va_X b LN xs s s.heap) (hbl : b < s.heap.size) (hbA : ¬ s.heap.size ≤ b) (hLN : LN ≤ 3584) (dC : Nat → ClassId) (dI : Nat → Nat → Nat) (dA : Nat → ClassId) (b0 : hx_z) (ax am : Nat) (T1 : Int) (hT0 : 0 ≤ T1) (hT1 : T1 ≤ 511) (i : Int32) (hi0 : 0 ≤ i.toInt) (hiL : i.toInt + 7 ≤ LN) (CC SS : Nat) (hCC : CC + 3 ≤ 600000) (hSS : SS + 179 ≤ 7302250) (L1 : List Nat) (hl1 : hx_h) (H : Heap) (locs : List Loc) (ls : Array Slot) (hW : hx_W T_tb (P_ty dA) (dC, dI) vwCl (fun q : Nat => s.heap.size ≤ q) s.heap L1 hl1 s H locs) (hZ : hx_Xt (fun q : Nat => s.heap.size ≤ q) b0 s) (hI : hx_IV T1 ax am L1 hl1) (hl : lv_has ls 4 [(3, .int i), (2, .ref am), (1, .ref ax), (0, .ref b)]) (kk : ∀ (L2 : List Nat) (h2 : hx_h) (H2 : Heap) (locs2 : List Loc) (ls2 : Array Slot), hx_W T_tb (P_ty dA) (dC, dI) vwCl (fun q : Nat => s.heap.size ≤ q) s.heap L2 h2 s H2 locs2 → hx_IV (T1 + 1) ax am L2 h2 → lv_has ls2 4 [(3, .int i), (2, .ref am), (1, .ref ax), (0, .ref b)] → W p l e room_1 s m #[Value.ref b] below meth c H2 locs2 (CC + 3) (SS + 179) (lw_Z below #[Value.ref b] s) (F0 m 1379 ls2 [])) : W p l e room_1 s m #[Value.ref b] below meth c H locs CC SS (lw_Z below #[Value.ref b] s) (F0 m 1162 ls []) := by
  have hI9 := hI
  have hT := hI9.1
  replace hI9 := hI9.2
  have gx := hI9.1
  replace hI9 := hI9.2
  have gm := hI9.1
  replace hI9 := hI9.2
  have zq0_3 := hI9.1
  have he_nw := zq0_3.1
  replace zq0_3 := zq0_3.2
  have he_np := zq0_3.1
  replace zq0_3 := zq0_3.2
  have he_c0 := zq0_3.1
  replace zq0_3 := zq0_3.2
  have he_tl := zq0_3.1
  replace zq0_3 := zq0_3.2
  have he_a0 := zq0_3.1
  replace zq0_3 := zq0_3.2
  have he_m0 := zq0_3.1
  replace zq0_3 := zq0_3.2
  have ho_ln := zq0_3.1
  replace zq0_3 := zq0_3.2
  have ho_lsd := zq0_3.1
  replace zq0_3 := zq0_3.2
  have ho_wkm := zq0_3.1
  replace zq0_3 := zq0_3.2
  have ho_py := zq0_3.1
  replace zq0_3 := zq0_3.2
  have hn_qp := zq0_3.1
  replace zq0_3 := zq0_3.2
  have hn_qc := zq0_3.1
  replace zq0_3 := zq0_3.2
  have hk_of := zq0_3.1
  replace zq0_3 := zq0_3.2
  have hk_wf := zq0_3.1
  replace zq0_3 := zq0_3.2
  have hk_df := zq0_3.1
  replace zq0_3 := zq0_3.2
  have hk_kf := zq0_3.1
  replace zq0_3 := zq0_3.2
  have hk_sf := zq0_3.1
  replace zq0_3 := zq0_3.2
  have hkBD := zq0_3.1
  replace zq0_3 := zq0_3.2
  have hLQ := zq0_3.1
  replace zq0_3 := zq0_3.2
  have hLE := zq0_3.1
  replace zq0_3 := zq0_3.2
  have hkWD := zq0_3.1
  replace zq0_3 := zq0_3.2
  have hkDF := zq0_3.1
  replace zq0_3 := zq0_3.2
  have hkTP := zq0_3.1
  replace zq0_3 := zq0_3.2
  have hkAC := zq0_3.1
  replace zq0_3 := zq0_3.2
  have hkDP := zq0_3.1
  replace zq0_3 := zq0_3.2
  have hkHL := zq0_3.1
  replace zq0_3 := zq0_3.2
  have hkHO := zq0_3.1
  replace zq0_3 := zq0_3.2
  have hkFX := zq0_3.1
  replace zq0_3 := zq0_3.2
  have hkBX := zq0_3.1
  replace zq0_3 := zq0_3.2
  have hf_bor := zq0_3.1
  replace zq0_3 := zq0_3.2
  have hf_kin := zq0_3.1
  replace zq0_3 := zq0_3.2
  have hf_sum := zq0_3.1
  replace zq0_3 := zq0_3.2
  have hf_fro := zq0_3.1
  replace zq0_3 := zq0_3.2
  have hf_fil := zq0_3.1
  replace zq0_3 := zq0_3.2
  have hf_hea := zq0_3.1
  replace zq0_3 := zq0_3.2
  have hf_jud := zq0_3.1
  replace zq0_3 := zq0_3.2
  have hf_ear := zq0_3.1
  replace zq0_3 := zq0_3.2
  have hf_hds := zq0_3.1
  replace zq0_3 := zq0_3.2
  have hf_ord := zq0_3.1
  replace zq0_3 := zq0_3.2
  have hf_wkl := zq0_3.1
  replace zq0_3 := zq0_3.2
  have hf_owd := zq0_3.1
  replace zq0_3 := zq0_3.2
  have hf_gds := zq0_3.1
  replace zq0_3 := zq0_3.2
  have hf_szd := zq0_3.1
  replace zq0_3 := zq0_3.2
  have hf_srv := zq0_3.1
  replace zq0_3 := zq0_3.2
  have hkP0 := zq0_3.1
  replace zq0_3 := zq0_3.2
  have hkP1 := zq0_3.1
  replace zq0_3 := zq0_3.2
  have hkP2 := zq0_3.1
  replace zq0_3 := zq0_3.2
  have hkP3 := zq0_3.1
  replace zq0_3 := zq0_3.2
  have hkP4 := zq0_3.1
  replace zq0_3 := zq0_3.2
  have hkNQ := zq0_3.1
  replace zq0_3 := zq0_3.2
  have hkRL := zq0_3.1
  replace zq0_3 := zq0_3.2
  have hc_dead := zq0_3.1
  replace zq0_3 := zq0_3.2
  have hc_isj := zq0_3.1
  replace zq0_3 := zq0_3.2
  have hc_dox := zq0_3.1
  replace zq0_3 := zq0_3.2
  have hc_doy := zq0_3.1
  replace zq0_3 := zq0_3.2
  have hc_fou := zq0_3.1
  replace zq0_3 := zq0_3.2
  have hc_tri := zq0_3.1
  replace zq0_3 := zq0_3.2
  replace hI9 := hI9.2
  have zq0_4 := hI9.1
  have ia := zq0_4.1
  replace zq0_4 := zq0_4.2
  have ip := zq0_4.1
  replace zq0_4 := zq0_4.2
  have ic := zq0_4.1
  replace zq0_4 := zq0_4.2
  have ih := zq0_4.1
  replace zq0_4 := zq0_4.2
  have il := zq0_4
  replace hI9 := hI9.2
  have zq0_5 := hI9
  have jw := zq0_5.1
  replace zq0_5 := zq0_5.2
  have jr := zq0_5.1
  replace zq0_5 := zq0_5.2
  have jp := zq0_5.1
  replace zq0_5 := zq0_5.2
  have jl := zq0_5.1
  replace zq0_5 := zq0_5.2
  have jh := zq0_5.1
  replace zq0_5 := zq0_5.2
  have jt := zq0_5.1
  replace zq0_5 := zq0_5.2
  have jf := zq0_5
  obtain ⟨qa, f_qa, g_qa⟩ := hx_rf hT gx tt_9 (k := 5) (u := 43) rfl
  have pf_qa := ia qa f_qa
  obtain ⟨qp, f_qp, g_qp⟩ := hx_rf hT gx tt_9 (k := 7) (u := 44) rfl
  have pf_qp := ip qp f_qp
  obtain ⟨qc, f_qc, g_qc⟩ := hx_rf hT gx tt_9 (k := 10) (u := 45) rfl
  have pf_qc := ic qc f_qc
  obtain ⟨qh, f_qh, g_qh⟩ := hx_rf hT gx tt_9 (k := 12) (u := 46) rfl
  have pf_qh := ih qh f_qh
  obtain ⟨qw, f_qw, g_qw⟩ := hx_rf hT gx tt_9 (k := 19) (u := 8) rfl
  obtain ⟨ql, f_ql, g_ql⟩ := hx_rf hT g_qw tt_8 (k := 3) (u := 40) rfl
  have pf_ql := il qw ql f_qw f_ql
  obtain ⟨nw, f_m_now⟩ : ∃ y : Int32, hl1.2.1 am 0 = y := ⟨_, rfl⟩
  have b_nw := hT.gi gm tt_10 (k := 0) rfl
  rw [f_m_now] at b_nw
  have b_nw : 0 ≤ nw.toInt ∧ nw.toInt ≤ 7999 := b_nw
  obtain ⟨np, f_m_persons⟩ : ∃ y : Int32, hl1.2.1 am 20 = y := ⟨_, rfl⟩
  have b_np := hT.gi gm tt_10 (k := 20) rfl
  rw [f_m_persons] at b_np
  have b_np : 0 ≤ np.toInt ∧ np.toInt ≤ 40 := b_np
  obtain ⟨c0, f_m_claims⟩ : ∃ y : Int32, hl1.2.1 am 36 = y := ⟨_, rfl⟩
  have b_c0 := hT.gi gm tt_10 (k := 36) rfl
  rw [f_m_claims] at b_c0
  have b_c0 : 0 ≤ c0.toInt ∧ c0.toInt ≤ 100 := b_c0
  obtain ⟨tl, f_m_taped⟩ : ∃ y : Int32, hl1.2.1 am 7 = y := ⟨_, rfl⟩
  have b_tl := hT.gi gm tt_10 (k := 7) rfl
  rw [f_m_taped] at b_tl
  have b_tl : 0 ≤ tl.toInt ∧ tl.toInt ≤ 400 := b_tl
  obtain ⟨a0, f_m_acts⟩ : ∃ y : Int32, hl1.2.1 am 1 = y := ⟨_, rfl⟩
  have b_a0 := hT.gi gm tt_10 (k := 1) rfl
  rw [f_m_acts] at b_a0
  have b_a0 : 0 ≤ a0.toInt ∧ a0.toInt ≤ 8 := b_a0
  obtain ⟨m0, f_m_heardMany⟩ : ∃ y : Int32, hl1.2.1 am 57 = y := ⟨_, rfl⟩
  have b_m0 := hT.gi gm tt_10 (k := 57) rfl
  rw [f_m_heardMany] at b_m0
  have b_m0 : 0 ≤ m0.toInt ∧ m0.toInt ≤ 100 := b_m0
  obtain ⟨ln, f_m_lines⟩ : ∃ y : Int32, hl1.2.1 am 29 = y := ⟨_, rfl⟩
  have b_ln := hT.gi gm tt_10 (k := 29) rfl
  rw [f_m_lines] at b_ln
  have b_ln : 0 ≤ ln.toInt ∧ ln.toInt ≤ 400 := b_ln
  obtain ⟨lsd, f_m_listed⟩ : ∃ y : Int32, hl1.2.1 am 90 = y := ⟨_, rfl⟩
  have b_lsd := hT.gi gm tt_10 (k := 90) rfl
  rw [f_m_listed] at b_lsd
  have b_lsd : 0 ≤ lsd.toInt ∧ lsd.toInt ≤ 8 := b_lsd
  obtain ⟨wkm, f_m_walkedMany⟩ : ∃ y : Int32, hl1.2.1 am 92 = y := ⟨_, rfl⟩
  have b_wkm := hT.gi gm tt_10 (k := 92) rfl
  rw [f_m_walkedMany] at b_wkm
  have b_wkm : 0 ≤ wkm.toInt ∧ wkm.toInt ≤ 8 := b_wkm
  obtain ⟨py, f_m_payments⟩ : ∃ y : Int32, hl1.2.1 am 59 = y := ⟨_, rfl⟩
  have b_py := hT.gi gm tt_10 (k := 59) rfl
  rw [f_m_payments] at b_py
  have b_py : 0 ≤ py.toInt ∧ py.toInt ≤ 600 := b_py
  have f_x_now : hl1.2.1 ax 2 = nw := he_nw.trans f_m_now
  have f_x_personCount : hl1.2.1 ax 8 = np := he_np.trans f_m_persons
  have f_x_claimCount : hl1.2.1 ax 11 = c0 := he_c0.trans f_m_claims
  have f_x_tapeLength : hl1.2.1 ax 1 = tl := he_tl.trans f_m_taped
  have f_x_actCount : hl1.2.1 ax 6 = a0 := he_a0.trans f_m_acts
  have f_x_heardCount : hl1.2.1 ax 13 = m0 := he_m0.trans f_m_heardMany
  obtain ⟨mw, f_mw, g_mw⟩ := hx_rf hT gm tt_10 (k := 19) (u := 57) rfl
  obtain ⟨F_mw, n_mw⟩ : ∃ g : Nat → Int32, hl1.2.1 mw = g := ⟨_, rfl⟩
  obtain ⟨mr, f_mr, g_mr⟩ := hx_rf hT gm tt_10 (k := 3) (u := 50) rfl
  obtain ⟨F_mr, n_mr⟩ : ∃ g : Nat → Int32, hl1.2.1 mr = g := ⟨_, rfl⟩
  obtain ⟨mp, f_mp, g_mp⟩ := hx_rf hT gm tt_10 (k := 5) (u := 52) rfl
  obtain ⟨F_mp, n_mp⟩ : ∃ g : Nat → Int32, hl1.2.1 mp = g := ⟨_, rfl⟩
  obtain ⟨mn, f_mn, g_mn⟩ := hx_rf hT gm tt_10 (k := 4) (u := 51) rfl
  obtain ⟨F_mn, n_mn⟩ : ∃ g : Nat → Int32, hl1.2.1 mn = g := ⟨_, rfl⟩
  obtain ⟨ml, f_ml, g_ml⟩ := hx_rf hT gm tt_10 (k := 44) (u := 79) rfl
  obtain ⟨F_ml, n_ml⟩ : ∃ g : Nat → Int32, hl1.2.1 ml = g := ⟨_, rfl⟩
  obtain ⟨mh, f_mh, g_mh⟩ := hx_rf hT gm tt_10 (k := 47) (u := 82) rfl
  obtain ⟨F_mh, n_mh⟩ : ∃ g : Nat → Int32, hl1.2.1 mh = g := ⟨_, rfl⟩
  obtain ⟨mt, f_mt, g_mt⟩ := hx_rf hT gm tt_10 (k := 45) (u := 80) rfl
  obtain ⟨F_mt, n_mt⟩ : ∃ g : Nat → Int32, hl1.2.1 mt = g := ⟨_, rfl⟩
  obtain ⟨m_fou, f_m_fou, g_m_fou⟩ := hx_rf hT gm tt_10 (k := 46) (u := 81) rfl
  obtain ⟨F_m_fou, n_m_fou⟩ : ∃ g : Nat → Int32, hl1.2.1 m_fou = g := ⟨_, rfl⟩
  obtain ⟨qo_ln, f_qo_ln, g_qo_ln⟩ := hx_rf hT gx tt_9 (k := 9) (u := 1) rfl
  have f_o_ln : hl1.2.1 qo_ln 0 = ln := (ho_ln qo_ln f_qo_ln).trans f_m_lines
  have f_o_lsd : hl1.2.1 qw 0 = lsd := (ho_lsd qw f_qw).trans f_m_listed
  have f_o_wkm : hl1.2.1 qw 1 = wkm := (ho_wkm qw f_qw).trans f_m_walkedMany
  obtain ⟨qo_py, f_qo_py, g_qo_py⟩ := hx_rf hT gx tt_9 (k := 14) (u := 3) rfl
  have f_o_py : hl1.2.1 qo_py 0 = py := (ho_py qo_py f_qo_py).trans f_m_payments
  have nu_qp := hn_qp qp f_qp; rw [f_x_personCount] at nu_qp
  have nu_qc := hn_qc qc f_qc; rw [f_x_claimCount] at nu_qc
  obtain ⟨b_of, f_b_of, g_b_of⟩ := hx_rf hT g_qo_ln tt_1 (k := 1) (u := 13) rfl
  obtain ⟨B_of, n_b_of⟩ : ∃ g : Nat → Int32, hl1.2.1 b_of = g := ⟨_, rfl⟩
  obtain ⟨m_of, f_m_of, g_m_of⟩ := hx_rf hT gm tt_10 (k := 30) (u := 66) rfl
  obtain ⟨F_of, n_m_of⟩ : ∃ g : Nat → Int32, hl1.2.1 m_of = g := ⟨_, rfl⟩
  have eb_of := hk_of qo_ln b_of m_of f_qo_ln f_b_of f_m_of; rw [n_b_of, n_m_of, f_o_ln] at eb_of
  obtain ⟨b_wf, f_b_wf, g_b_wf⟩ := hx_rf hT g_qo_ln tt_1 (k := 2) (u := 14) rfl
  obtain ⟨B_wf, n_b_wf⟩ : ∃ g : Nat → Int32, hl1.2.1 b_wf = g := ⟨_, rfl⟩
  obtain ⟨m_wf, f_m_wf, g_m_wf⟩ := hx_rf hT gm tt_10 (k := 31) (u := 67) rfl
  obtain ⟨F_wf, n_m_wf⟩ : ∃ g : Nat → Int32, hl1.2.1 m_wf = g := ⟨_, rfl⟩
  have eb_wf := hk_wf qo_ln b_wf m_wf f_qo_ln f_b_wf f_m_wf; rw [n_b_wf, n_m_wf, f_o_ln] at eb_wf
  obtain ⟨b_df, f_b_df, g_b_df⟩ := hx_rf hT g_qo_ln tt_1 (k := 3) (u := 15) rfl
  obtain ⟨B_df, n_b_df⟩ : ∃ g : Nat → Int32, hl1.2.1 b_df = g := ⟨_, rfl⟩
  obtain ⟨m_df, f_m_df, g_m_df⟩ := hx_rf hT gm tt_10 (k := 32) (u := 68) rfl
  obtain ⟨F_df, n_m_df⟩ : ∃ g : Nat → Int32, hl1.2.1 m_df = g := ⟨_, rfl⟩
  have eb_df := hk_df qo_ln b_df m_df f_qo_ln f_b_df f_m_df; rw [n_b_df, n_m_df, f_o_ln] at eb_df
  obtain ⟨b_kf, f_b_kf, g_b_kf⟩ := hx_rf hT g_qo_ln tt_1 (k := 4) (u := 16) rfl
  obtain ⟨B_kf, n_b_kf⟩ : ∃ g : Nat → Int32, hl1.2.1 b_kf = g := ⟨_, rfl⟩
  obtain ⟨m_kf, f_m_kf, g_m_kf⟩ := hx_rf hT gm tt_10 (k := 33) (u := 69) rfl
  obtain ⟨F_kf, n_m_kf⟩ : ∃ g : Nat → Int32, hl1.2.1 m_kf = g := ⟨_, rfl⟩
  have eb_kf := hk_kf qo_ln b_kf m_kf f_qo_ln f_b_kf f_m_kf; rw [n_b_kf, n_m_kf, f_o_ln] at eb_kf
  obtain ⟨b_sf, f_b_sf, g_b_sf⟩ := hx_rf hT g_qo_ln tt_1 (k := 5) (u := 17) rfl
  obtain ⟨B_sf, n_b_sf⟩ : ∃ g : Nat → Int32, hl1.2.1 b_sf = g := ⟨_, rfl⟩
  obtain ⟨m_sf, f_m_sf, g_m_sf⟩ := hx_rf hT gm tt_10 (k := 34) (u := 70) rfl
  obtain ⟨F_sf, n_m_sf⟩ : ∃ g : Nat → Int32, hl1.2.1 m_sf = g := ⟨_, rfl⟩
  have eb_sf := hk_sf qo_ln b_sf m_sf f_qo_ln f_b_sf f_m_sf; rw [n_b_sf, n_m_sf, f_o_ln] at eb_sf
  obtain ⟨b_bf, f_b_bf, g_b_bf⟩ := hx_rf hT g_qo_ln tt_1 (k := 6) (u := 18) rfl
  obtain ⟨bfL, n_b_bf⟩ : ∃ g : Nat → Int32, hl1.2.1 b_bf = g := ⟨_, rfl⟩
  obtain ⟨hBD, hDY⟩ := hkBD qo_ln b_df b_bf f_qo_ln f_b_df f_b_bf; rw [n_b_df, n_b_bf, f_o_ln] at hBD; rw [n_b_df, f_o_ln] at hDY
  have hBDm := hy_BD_c eb_df hBD
  have hDYm : hy_DY F_df ln.toInt.toNat := fun x hx => by rw [← eb_df x hx]; exact hDY x hx
  have sb_list := hLQ qw ql qc f_qw f_ql f_qc
  obtain ⟨m_lst, f_m_lst, g_m_lst⟩ := hx_rf hT gm tt_10 (k := 91) (u := 112) rfl
  obtain ⟨F_lst, n_lst⟩ : ∃ g : Nat → Int32, hl1.2.1 m_lst = g := ⟨_, rfl⟩
  obtain ⟨c_lst, cl_lst⟩ : ∃ g : Nat → Int32, hx_col 8 hl1 ql 0 = g := ⟨_, rfl⟩
  have eq_lst := hLE qw ql m_lst f_qw f_ql f_m_lst; rw [cl_lst, n_lst] at eq_lst
  obtain ⟨qtp, f_qtp, g_qtp⟩ := hx_rf hT gx tt_9 (k := 0) (u := 42) rfl
  obtain ⟨m_tp, f_m_tp, g_m_tp⟩ := hx_rf hT gm tt_10 (k := 6) (u := 53) rfl
  obtain ⟨F_tp, n_tp⟩ : ∃ g : Nat → Int32, hl1.2.1 m_tp = g := ⟨_, rfl⟩
  have n_qtp : hl1.2.1 qtp = F_tp := (hkTP qtp m_tp f_qtp f_m_tp).trans n_tp
  obtain ⟨c_dead, cl_dead⟩ : ∃ g : Nat → Int32, hx_col 40 hl1 qp 7 = g := ⟨_, rfl⟩
  obtain ⟨m_dead, f_m_dead, g_m_dead⟩ := hx_rf hT gm tt_10 (k := 27) (u := 64) rfl
  obtain ⟨F_dead, n_dead⟩ : ∃ g : Nat → Int32, hl1.2.1 m_dead = g := ⟨_, rfl⟩
  have eq_dead := hc_dead qp m_dead f_qp f_m_dead; rw [cl_dead, n_dead] at eq_dead
  have z_dead : np.toInt.toNat < 40 → c_dead np.toInt.toNat = 0 := fun hj => hx_num_z nu_qp cl_dead hj ?o0
  case o0 => omega
  obtain ⟨c_isj, cl_isj⟩ : ∃ g : Nat → Int32, hx_col 40 hl1 qp 8 = g := ⟨_, rfl⟩
  obtain ⟨m_isj, f_m_isj, g_m_isj⟩ := hx_rf hT gm tt_10 (k := 28) (u := 65) rfl
  obtain ⟨F_isj, n_isj⟩ : ∃ g : Nat → Int32, hl1.2.1 m_isj = g := ⟨_, rfl⟩
  have eq_isj := hc_isj qp m_isj f_qp f_m_isj; rw [cl_isj, n_isj] at eq_isj
  have z_isj : np.toInt.toNat < 40 → c_isj np.toInt.toNat = 0 := fun hj => hx_num_z nu_qp cl_isj hj ?o1
  case o1 => omega
  obtain ⟨c_dox, cl_dox⟩ : ∃ g : Nat → Int32, hx_col 40 hl1 qp 5 = g := ⟨_, rfl⟩
  obtain ⟨m_dox, f_m_dox, g_m_dox⟩ := hx_rf hT gm tt_10 (k := 24) (u := 61) rfl
  obtain ⟨F_dox, n_dox⟩ : ∃ g : Nat → Int32, hl1.2.1 m_dox = g := ⟨_, rfl⟩
  have eq_dox := hc_dox qp m_dox f_qp f_m_dox; rw [cl_dox, n_dox] at eq_dox
  have z_dox : np.toInt.toNat < 40 → c_dox np.toInt.toNat = 0 := fun hj => hx_num_z nu_qp cl_dox hj ?o2
  case o2 => omega
  obtain ⟨c_doy, cl_doy⟩ : ∃ g : Nat → Int32, hx_col 40 hl1 qp 6 = g := ⟨_, rfl⟩
  obtain ⟨m_doy, f_m_doy, g_m_doy⟩ := hx_rf hT gm tt_10 (k := 25) (u := 62) rfl
  obtain ⟨F_doy, n_doy⟩ : ∃ g : Nat → Int32, hl1.2.1 m_doy = g := ⟨_, rfl⟩
  have eq_doy := hc_doy qp m_doy f_qp f_m_doy; rw [cl_doy, n_doy] at eq_doy
  have z_doy : np.toInt.toNat < 40 → c_doy np.toInt.toNat = 0 := fun hj => hx_num_z nu_qp cl_doy hj ?o3
  case o3 => omega
  obtain ⟨c_fou, cl_fou⟩ : ∃ g : Nat → Int32, hx_col 100 hl1 qc 10 = g := ⟨_, rfl⟩
  have eq_fou := hc_fou qc m_fou f_qc f_m_fou; rw [cl_fou, n_m_fou] at eq_fou
  have z_fou : c0.toInt.toNat < 100 → c_fou c0.toInt.toNat = 0 := fun hj => hx_num_z nu_qc cl_fou hj ?o4
  case o4 => omega
  obtain ⟨c_tri, cl_tri⟩ : ∃ g : Nat → Int32, hx_col 100 hl1 qc 9 = g := ⟨_, rfl⟩
  have eq_tri := hc_tri qc mt f_qc f_mt; rw [cl_tri, n_mt] at eq_tri
  have z_tri : c0.toInt.toNat < 100 → c_tri c0.toInt.toNat = 0 := fun hj => hx_num_z nu_qc cl_tri hj ?o5
  case o5 => omega
  obtain ⟨qlt, f_qlt, g_qlt⟩ := hx_rf hT g_qw tt_8 (k := 2) (u := 39) rfl
  obtain ⟨qlf, f_qlf, g_qlf⟩ := hx_rf hT g_qw tt_8 (k := 4) (u := 41) rfl
  obtain ⟨m_wkd, f_m_wkd, g_m_wkd⟩ := hx_rf hT gm tt_10 (k := 93) (u := 113) rfl
  obtain ⟨F_qlt, n_qlt⟩ : ∃ g : Nat → Int32, hl1.2.1 qlt = g := ⟨_, rfl⟩
  obtain ⟨F_m_wkd, n_m_wkd⟩ : ∃ g : Nat → Int32, hl1.2.1 m_wkd = g := ⟨_, rfl⟩
  have eb_wkd := hkWD qw qlt m_wkd f_qw f_qlt f_m_wkd; rw [n_qlt, n_m_wkd, f_o_wkm] at eb_wkd
  obtain ⟨m_aga, f_m_aga, g_m_aga⟩ := hx_rf hT gm tt_10 (k := 38) (u := 73) rfl
  obtain ⟨F_aga, n_aga⟩ : ∃ g : Nat → Int32, hl1.2.1 m_aga = g := ⟨_, rfl⟩
  have hDF := hkDF qc qp m_aga f_qc f_qp f_m_aga; rw [n_aga, f_x_claimCount] at hDF
  obtain ⟨qwo, f_qwo, g_qwo⟩ := hx_rf hT gx tt_9 (k := 4) (u := 0) rfl
  obtain ⟨m_ad, f_m_ad, g_m_ad⟩ := hx_rf hT gm tt_10 (k := 2) (u := 49) rfl
  obtain ⟨F_ad, n_ad⟩ : ∃ g : Nat → Int32, hl1.2.1 m_ad = g := ⟨_, rfl⟩
  obtain ⟨A9, hRA9, hCA9, hAC9, hAB⟩ := hkAC qa qwo m_ad mr mn mp qc ml f_qa f_qwo f_m_ad f_mr f_mn f_mp f_qc f_ml
  rw [f_x_actCount] at hRA9; rw [f_x_actCount, n_ad, n_mr, n_mn, n_mp] at hCA9
  obtain ⟨m_by, f_m_by, g_m_by⟩ := hx_rf hT gm tt_10 (k := 37) (u := 72) rfl
  obtain ⟨F_by, n_by⟩ : ∃ g : Nat → Int32, hl1.2.1 m_by = g := ⟨_, rfl⟩
  obtain ⟨m_ho, f_m_ho, g_m_ho⟩ := hx_rf hT gm tt_10 (k := 58) (u := 92) rfl
  obtain ⟨F_ho, n_ho⟩ : ∃ g : Nat → Int32, hl1.2.1 m_ho = g := ⟨_, rfl⟩
  obtain ⟨m_fc, f_m_fc, g_m_fc⟩ := hx_rf hT gm tt_10 (k := 53) (u := 88) rfl
  obtain ⟨F_fc, n_fc⟩ : ∃ g : Nat → Int32, hl1.2.1 m_fc = g := ⟨_, rfl⟩
  obtain ⟨m_nt, f_m_nt, g_m_nt⟩ := hx_rf hT gm tt_10 (k := 41) (u := 76) rfl
  obtain ⟨F_nt, n_nt⟩ : ∃ g : Nat → Int32, hl1.2.1 m_nt = g := ⟨_, rfl⟩
  obtain ⟨m_wt, f_m_wt, g_m_wt⟩ := hx_rf hT gm tt_10 (k := 42) (u := 77) rfl
  obtain ⟨F_wt, n_wt⟩ : ∃ g : Nat → Int32, hl1.2.1 m_wt = g := ⟨_, rfl⟩
  obtain ⟨m_be, f_m_be, g_m_be⟩ := hx_rf hT gm tt_10 (k := 52) (u := 87) rfl
  obtain ⟨F_be, n_be⟩ : ∃ g : Nat → Int32, hl1.2.1 m_be = g := ⟨_, rfl⟩
  obtain ⟨m_bor, f_m_bor, g_m_bor⟩ := hx_rf hT gm tt_10 (k := 21) (u := 58) rfl
  obtain ⟨F_bor, n_bor⟩ : ∃ g : Nat → Int32, hl1.2.1 m_bor = g := ⟨_, rfl⟩
  obtain ⟨m_kin, f_m_kin, g_m_kin⟩ := hx_rf hT gm tt_10 (k := 26) (u := 63) rfl
  obtain ⟨F_kin, n_kin⟩ : ∃ g : Nat → Int32, hl1.2.1 m_kin = g := ⟨_, rfl⟩
  obtain ⟨m_sum, f_m_sum, g_m_sum⟩ := hx_rf hT gm tt_10 (k := 39) (u := 74) rfl
  obtain ⟨F_sum, n_sum⟩ : ∃ g : Nat → Int32, hl1.2.1 m_sum = g := ⟨_, rfl⟩
  obtain ⟨m_fro, f_m_fro, g_m_fro⟩ := hx_rf hT gm tt_10 (k := 40) (u := 75) rfl
  obtain ⟨F_fro, n_fro⟩ : ∃ g : Nat → Int32, hl1.2.1 m_fro = g := ⟨_, rfl⟩
  obtain ⟨m_fil, f_m_fil, g_m_fil⟩ := hx_rf hT gm tt_10 (k := 43) (u := 78) rfl
  obtain ⟨F_fil, n_fil⟩ : ∃ g : Nat → Int32, hl1.2.1 m_fil = g := ⟨_, rfl⟩
  obtain ⟨m_jud, f_m_jud, g_m_jud⟩ := hx_rf hT gm tt_10 (k := 51) (u := 86) rfl
  obtain ⟨F_jud, n_jud⟩ : ∃ g : Nat → Int32, hl1.2.1 m_jud = g := ⟨_, rfl⟩
  obtain ⟨m_ear, f_m_ear, g_m_ear⟩ := hx_rf hT gm tt_10 (k := 22) (u := 59) rfl
  obtain ⟨F_ear, n_ear⟩ : ∃ g : Nat → Int32, hl1.2.1 m_ear = g := ⟨_, rfl⟩
  obtain ⟨m_hds, f_m_hds, g_m_hds⟩ := hx_rf hT gm tt_10 (k := 23) (u := 60) rfl
  obtain ⟨F_hds, n_hds⟩ : ∃ g : Nat → Int32, hl1.2.1 m_hds = g := ⟨_, rfl⟩
  obtain ⟨m_ord, f_m_ord, g_m_ord⟩ := hx_rf hT gm tt_10 (k := 48) (u := 83) rfl
  obtain ⟨F_ord, n_ord⟩ : ∃ g : Nat → Int32, hl1.2.1 m_ord = g := ⟨_, rfl⟩
  obtain ⟨m_wkl, f_m_wkl, g_m_wkl⟩ := hx_rf hT gm tt_10 (k := 54) (u := 89) rfl
  obtain ⟨F_wkl, n_wkl⟩ : ∃ g : Nat → Int32, hl1.2.1 m_wkl = g := ⟨_, rfl⟩
  obtain ⟨m_owd, f_m_owd, g_m_owd⟩ := hx_rf hT gm tt_10 (k := 55) (u := 90) rfl
  obtain ⟨F_owd, n_owd⟩ : ∃ g : Nat → Int32, hl1.2.1 m_owd = g := ⟨_, rfl⟩
  obtain ⟨m_gds, f_m_gds, g_m_gds⟩ := hx_rf hT gm tt_10 (k := 56) (u := 91) rfl
  obtain ⟨F_gds, n_gds⟩ : ∃ g : Nat → Int32, hl1.2.1 m_gds = g := ⟨_, rfl⟩
  obtain ⟨m_szd, f_m_szd, g_m_szd⟩ := hx_rf hT gm tt_10 (k := 49) (u := 84) rfl
  obtain ⟨F_szd, n_szd⟩ : ∃ g : Nat → Int32, hl1.2.1 m_szd = g := ⟨_, rfl⟩
  obtain ⟨m_srv, f_m_srv, g_m_srv⟩ := hx_rf hT gm tt_10 (k := 50) (u := 85) rfl
  obtain ⟨F_srv, n_srv⟩ : ∃ g : Nat → Int32, hl1.2.1 m_srv = g := ⟨_, rfl⟩
  have cl_bor : hx_col 40 hl1 qp 1 = F_bor := (hf_bor qp m_bor f_qp f_m_bor).trans n_bor
  have cl_kin : hx_col 40 hl1 qp 2 = F_kin := (hf_kin qp m_kin f_qp f_m_kin).trans n_kin
  have cl_sum : hx_col 100 hl1 qc 6 = F_sum := (hf_sum qc m_sum f_qc f_m_sum).trans n_sum
  have cl_fro : hx_col 100 hl1 qc 7 = F_fro := (hf_fro qc m_fro f_qc f_m_fro).trans n_fro
  have cl_fil : hx_col 100 hl1 qc 8 = F_fil := (hf_fil qc m_fil f_qc f_m_fil).trans n_fil
  have cl_hea : hx_col 100 hl1 qc 11 = F_mh := (hf_hea qc mh f_qc f_mh).trans n_mh
  have cl_jud : hx_col 100 hl1 qc 12 = F_jud := (hf_jud qc m_jud f_qc f_m_jud).trans n_jud
  have cl_ear : hx_col 40 hl1 qp 3 = F_ear := (hf_ear qp m_ear f_qp f_m_ear).trans n_ear
  have cl_hds : hx_col 40 hl1 qp 4 = F_hds := (hf_hds qp m_hds f_qp f_m_hds).trans n_hds
  have cl_ord : hx_col 100 hl1 qc 13 = F_ord := (hf_ord qc m_ord f_qc f_m_ord).trans n_ord
  have cl_wkl : hx_col 100 hl1 qc 14 = F_wkl := (hf_wkl qc m_wkl f_qc f_m_wkl).trans n_wkl
  have cl_owd : hx_col 100 hl1 qc 15 = F_owd := (hf_owd qc m_owd f_qc f_m_owd).trans n_owd
  have cl_gds : hx_col 100 hl1 qc 17 = F_gds := (hf_gds qc m_gds f_qc f_m_gds).trans n_gds
  have cl_szd : hx_col 100 hl1 qc 16 = F_szd := (hf_szd qc m_szd f_qc f_m_szd).trans n_szd
  have cl_srv : hx_col 100 hl1 qc 18 = F_srv := (hf_srv qc m_srv f_qc f_m_srv).trans n_srv
  have htb9 : ∀ c, c < 100 → 0 ≤ (c_tri c).toInt ∧ (c_tri c).toInt ≤ 512 := fun c hc => by rw [eq_tri c hc]; have w := hT.ei g_mt tt_80 (k := c) hc; rw [n_mt] at w; exact w
  have z_jud : F_jud c0.toInt.toNat = 0 := hx_num_z2 nu_qc cl_jud ?o6
  case o6 => omega
  have hDP := hkDP qc qp m_by f_qc f_qp f_m_by; rw [n_by, f_x_claimCount] at hDP
  have hHL := hkHL qh qc m_ho f_qh f_qc f_m_ho; rw [n_ho, f_x_heardCount, f_x_claimCount] at hHL
  have hHO9 := hkHO m_ho mh f_m_ho f_mh; rw [n_ho, n_mh, f_m_heardMany, f_m_claims] at hHO9
  obtain ⟨cF9L, hFX, hFR9⟩ := hkFX qc m_fc m_nt m_wt m_sum mh f_qc f_m_fc f_m_nt f_m_wt f_m_sum f_mh; rw [f_x_claimCount] at hFX; rw [n_fc, n_nt, n_wt, n_sum, n_mh, f_x_claimCount] at hFR9
  have hBX := hkBX qc m_be f_qc f_m_be; rw [n_be, f_x_claimCount] at hBX
  rw [n_ml, f_x_claimCount] at hAC9
  obtain ⟨y_p0, f_y_p0, g_y_p0⟩ := hx_rf hT g_qo_py tt_3 (k := 2) (u := 23) rfl
  obtain ⟨m_p0, f_m_p0, g_m_p0⟩ := hx_rf hT gm tt_10 (k := 60) (u := 93) rfl
  obtain ⟨F_p0, n_p0⟩ : ∃ g : Nat → Int32, hl1.2.1 m_p0 = g := ⟨_, rfl⟩
  have n_y_p0 : hl1.2.1 y_p0 = F_p0 := (hkP0 qo_py y_p0 m_p0 f_qo_py f_y_p0 f_m_p0).trans n_p0
  obtain ⟨y_p1, f_y_p1, g_y_p1⟩ := hx_rf hT g_qo_py tt_3 (k := 3) (u := 24) rfl
  obtain ⟨m_p1, f_m_p1, g_m_p1⟩ := hx_rf hT gm tt_10 (k := 61) (u := 94) rfl
  obtain ⟨F_p1, n_p1⟩ : ∃ g : Nat → Int32, hl1.2.1 m_p1 = g := ⟨_, rfl⟩
  have n_y_p1 : hl1.2.1 y_p1 = F_p1 := (hkP1 qo_py y_p1 m_p1 f_qo_py f_y_p1 f_m_p1).trans n_p1
  obtain ⟨y_p2, f_y_p2, g_y_p2⟩ := hx_rf hT g_qo_py tt_3 (k := 5) (u := 26) rfl
  obtain ⟨m_p2, f_m_p2, g_m_p2⟩ := hx_rf hT gm tt_10 (k := 62) (u := 95) rfl
  obtain ⟨F_p2, n_p2⟩ : ∃ g : Nat → Int32, hl1.2.1 m_p2 = g := ⟨_, rfl⟩
  have n_y_p2 : hl1.2.1 y_p2 = F_p2 := (hkP2 qo_py y_p2 m_p2 f_qo_py f_y_p2 f_m_p2).trans n_p2
  obtain ⟨y_p3, f_y_p3, g_y_p3⟩ := hx_rf hT g_qo_py tt_3 (k := 4) (u := 25) rfl
  obtain ⟨m_p3, f_m_p3, g_m_p3⟩ := hx_rf hT gm tt_10 (k := 63) (u := 96) rfl
  obtain ⟨F_p3, n_p3⟩ : ∃ g : Nat → Int32, hl1.2.1 m_p3 = g := ⟨_, rfl⟩
  have n_y_p3 : hl1.2.1 y_p3 = F_p3 := (hkP3 qo_py y_p3 m_p3 f_qo_py f_y_p3 f_m_p3).trans n_p3
  obtain ⟨y_p4, f_y_p4, g_y_p4⟩ := hx_rf hT g_qo_py tt_3 (k := 1) (u := 22) rfl
  obtain ⟨m_p4, f_m_p4, g_m_p4⟩ := hx_rf hT gm tt_10 (k := 64) (u := 97) rfl
  obtain ⟨F_p4, n_p4⟩ : ∃ g : Nat → Int32, hl1.2.1 m_p4 = g := ⟨_, rfl⟩
  have n_y_p4 : hl1.2.1 y_p4 = F_p4 := (hkP4 qo_py y_p4 m_p4 f_qo_py f_y_p4 f_m_p4).trans n_p4
  obtain ⟨qrg9, f_qrg9, g_qrg9⟩ := hx_rf hT gx tt_9 (k := 18) (u := 7) rfl
  obtain ⟨y_ls, f_y_ls, g_y_ls⟩ := hx_rf hT g_qrg9 tt_7 (k := 3) (u := 35) rfl
  obtain ⟨m_rl, f_m_rl, g_m_rl⟩ := hx_rf hT gm tt_10 (k := 85) (u := 109) rfl
  obtain ⟨F_y_ls, n_y_ls⟩ : ∃ g : Nat → Int32, hl1.2.1 y_ls = g := ⟨_, rfl⟩
  obtain ⟨F_m_rl, n_m_rl⟩ : ∃ g : Nat → Int32, hl1.2.1 m_rl = g := ⟨_, rfl⟩
  obtain ⟨fv_731, efv_731⟩ : ∃ y : Int32, y = hl1.2.1 qrg9 0 := ⟨_, rfl⟩
  have bfv_731 := hT.gi g_qrg9 tt_7 (k := 0) rfl
  rw [← efv_731] at bfv_731
  have bfv_731 : -1 ≤ fv_731.toInt ∧ fv_731.toInt ≤ 100 := bfv_731
  have ffv_731 := efv_731.symm
  obtain ⟨fv_732, efv_732⟩ : ∃ y : Int32, y = hl1.2.1 am 83 := ⟨_, rfl⟩
  have bfv_732 := hT.gi gm tt_10 (k := 83) rfl
  rw [← efv_732] at bfv_732
  have bfv_732 : 0 ≤ fv_732.toInt ∧ fv_732.toInt ≤ 1 := bfv_732
  have ffv_732 := efv_732.symm
  obtain ⟨fv_733, efv_733⟩ : ∃ y : Int32, y = hl1.2.1 am 84 := ⟨_, rfl⟩
  have bfv_733 := hT.gi gm tt_10 (k := 84) rfl
  rw [← efv_733] at bfv_733
  have bfv_733 : 0 ≤ fv_733.toInt ∧ fv_733.toInt ≤ 300 := bfv_733
  have ffv_733 := efv_733.symm
  have hNQ9 := hkNQ qrg9 f_qrg9; rw [ffv_731, ffv_732, ffv_733] at hNQ9
  have hRL9 := hkRL qrg9 y_ls m_rl f_qrg9 f_y_ls f_m_rl; rw [n_y_ls, n_m_rl, ffv_731] at hRL9
  have hCB : hz_CB F_ord F_wkl F_owd F_szd F_gds F_srv := fun c hc => ⟨by have w := hT.ei g_m_ord tt_83 (k := c) (by omega); rw [n_ord] at w; exact w, by have w := hT.ei g_m_wkl tt_89 (k := c) (by omega); rw [n_wkl] at w; exact w, by have w := hT.ei g_m_owd tt_90 (k := c) (by omega); rw [n_owd] at w; exact w, by have w := hT.ei g_m_szd tt_84 (k := c) (by omega); rw [n_szd] at w; exact w, by have w := hT.ei g_m_gds tt_91 (k := c) (by omega); rw [n_gds] at w; exact w, by have w := hT.ei g_m_srv tt_85 (k := c) (by omega); rw [n_srv] at w; exact w⟩
  have hps : ∀ j, j < 600 → 0 ≤ (F_p2 j).toInt ∧ (F_p2 j).toInt ≤ 610000 := fun j hj => by have w := hT.ei g_m_p2 tt_95 (k := j) (by omega); rw [n_p2] at w; exact w
  have hte9 : ∀ c : Nat, c < 100 → (0 ≤ (c_tri c).toInt ∧ (c_tri c).toInt ≤ 512) ∧ (0 ≤ (F_sum c).toInt ∧ (F_sum c).toInt ≤ 9999) := fun c hc => ⟨htb9 c hc, by have w := hT.ei g_m_sum tt_74 (k := c) (by omega); rw [n_sum] at w; exact w⟩
  have hee9 : ∀ c : Nat, c < 40 → (0 ≤ (F_ear c).toInt ∧ (F_ear c).toInt ≤ 9999) ∧ (0 ≤ (F_hds c).toInt ∧ (F_hds c).toInt ≤ 20) := fun c hc => ⟨by have w := hT.ei g_m_ear tt_59 (k := c) (by omega); rw [n_ear] at w; exact w, by have w := hT.ei g_m_hds tt_60 (k := c) (by omega); rw [n_hds] at w; exact w⟩
  have bAG9 : ∀ k, k < 100 → 0 ≤ (F_aga k).toInt ∧ (F_aga k).toInt ≤ 39 := fun k hk => by have w := hT.ei g_m_aga tt_73 (k := k) (by omega); rw [n_aga] at w; exact w
  have bBY9 : ∀ k, k < 100 → 0 ≤ (F_by k).toInt ∧ (F_by k).toInt ≤ 39 := fun k hk => by have w := hT.ei g_m_by tt_72 (k := k) (by omega); rw [n_by] at w; exact w
  have hag9 : ∀ c, c < c0.toInt.toNat → 0 ≤ (F_aga c).toInt ∧ (F_aga c).toInt < 40 ∧ 0 ≤ (F_by c).toInt ∧ (F_by c).toInt < 40 := fun c hc => by have a9 := bAG9 c (by omega); have b9 := bBY9 c (by omega); omega
  have z_wkl : F_wkl c0.toInt.toNat = 0 := hx_num_z2 nu_qc cl_wkl ?o7
  case o7 => omega
  have z_owd : F_owd c0.toInt.toNat = 0 := hx_num_z2 nu_qc cl_owd ?o8
  case o8 => omega
  have z_gds : F_gds c0.toInt.toNat = 0 := hx_num_z2 nu_qc cl_gds ?o9
  case o9 => omega
  have hwd := jw mw f_mw; rw [n_mw] at hwd
  have hWK := jr mr f_mr; rw [n_mr, f_m_acts] at hWK
  have hRP := jp mp mn f_mp f_mn; rw [n_mp, n_mn, f_m_acts] at hRP
  have hPL := jl ml f_ml; rw [n_ml, f_m_claims, f_m_acts] at hPL
  have hHC := jh mh f_mh; rw [n_mh, f_m_heardMany, f_m_claims] at hHC
  have hTR := jt mt f_mt; rw [n_mt] at hTR
  have hHF := jf mh m_fou f_mh f_m_fou; rw [n_mh, n_m_fou, f_m_claims] at hHF
  refine lv_aload_n hx hb dL_law_1162 rfl (lv_at hl 2 rfl) ?_
  refine lv_aload_n hx hb dL_law_1163 rfl (lv_at hl 3 rfl) ?_
  refine lv_iload_n hx hb dL_law_1164 rfl (lv_at hl 0 rfl) ?_
  refine lv_iconst (v := 1) hx hb dL_law_1165 ?o10 ?_
  case o10 => decide
  refine lv_iadd hx hb dL_law_1166 ?_
  have rg_734 := i32_r i
  refine lv_topi (fun x_735 ex_735 => ?_)
  have zx_735 : x_735.toInt = i.toInt + 1 := ?o11
  case o11 =>
    rw [ex_735]
    refine i32_add rfl ?o12 ?o13 ?o14
    case o12 => decide
    case o13 => omega
    case o14 => omega
  refine va_sld hx hb hX hbl hbA hW.2.2.2.1 (vp_in_iff.mpr ⟨?o15, ?o16⟩) dL_law_1167 ?_
  case o15 => omega
  case o16 => omega
  refine lv_topi (fun x_736 ex_736 => ?_)
  refine lv_aload_n hx hb dL_law_1168 rfl (lv_at hl 3 rfl) ?_
  refine lv_iload_n hx hb dL_law_1169 rfl (lv_at hl 0 rfl) ?_
  refine lv_iconst (v := 2) hx hb dL_law_1170 ?o17 ?_
  case o17 => decide
  refine lv_iadd hx hb dL_law_1171 ?_
  refine lv_topi (fun x_737 ex_737 => ?_)
  have zx_737 : x_737.toInt = i.toInt + 2 := ?o18
  case o18 =>
    rw [ex_737]
    refine i32_add rfl ?o19 ?o20 ?o21
    case o19 => decide
    case o20 => omega
    case o21 => omega
  refine va_sld hx hb hX hbl hbA hW.2.2.2.1 (vp_in_iff.mpr ⟨?o22, ?o23⟩) dL_law_1172 ?_
  case o22 => omega
  case o23 => omega
  refine lv_topi (fun x_738 ex_738 => ?_)
  have hTo := hT
  refine hx_goi (hx_runV (As := [.int x_736, .int x_738]) (rest := []) ⟨hx, hb, hml, hown, hts⟩ hW gx tt_9 (T := TX9) (N := 20) rfl (t_X9_planned l dC dI dA L1 hl1 H.size ax x_736 x_738 hT gx) (cwV 2 hts (hx_gV kw_980 kw_977 kw_978 kw_979 kw_94) rfl rfl rfl (by decide +kernel) ⟨Nat.le_of_ble_eq_true rfl, Nat.le_of_ble_eq_true rfl⟩) rfl hl.1 rfl (Nat.le_of_ble_eq_true rfl) dL_law_1173 ⟨(show CC + 0 ≤ 600000 from ?o24), (show SS + 0 ≤ 7302250 from ?o25)⟩) hW (fun r_741 L_739 h_740 H locs p_742 hW => ?_)
  case o24 => omega
  case o25 => omega
  obtain ⟨hr_743, hT, hs⟩ := p_742
  replace hT : hx_T T_tb L_739 h_740 := hT
  replace hs : hx_S T_tb [] L1 hl1 L_739 h_740 := hs
  replace f_qa := (hs.o gx trivial rfl).2.trans f_qa
  replace f_qp := (hs.o gx trivial rfl).2.trans f_qp
  replace f_qc := (hs.o gx trivial rfl).2.trans f_qc
  replace f_qh := (hs.o gx trivial rfl).2.trans f_qh
  replace f_qw := (hs.o gx trivial rfl).2.trans f_qw
  replace f_ql := (hs.o g_qw trivial rfl).2.trans f_ql
  replace f_m_now := (hs.o gm trivial rfl).1.trans f_m_now
  replace f_m_persons := (hs.o gm trivial rfl).1.trans f_m_persons
  replace f_m_claims := (hs.o gm trivial rfl).1.trans f_m_claims
  replace f_m_taped := (hs.o gm trivial rfl).1.trans f_m_taped
  replace f_m_acts := (hs.o gm trivial rfl).1.trans f_m_acts
  replace f_m_heardMany := (hs.o gm trivial rfl).1.trans f_m_heardMany
  replace f_m_lines := (hs.o gm trivial rfl).1.trans f_m_lines
  replace f_m_listed := (hs.o gm trivial rfl).1.trans f_m_listed
  replace f_m_walkedMany := (hs.o gm trivial rfl).1.trans f_m_walkedMany
  replace f_m_payments := (hs.o gm trivial rfl).1.trans f_m_payments
  replace f_x_now := (hs.o gx trivial rfl).1.trans f_x_now
  replace f_x_personCount := (hs.o gx trivial rfl).1.trans f_x_personCount
  replace f_x_claimCount := (hs.o gx trivial rfl).1.trans f_x_claimCount
  replace f_x_tapeLength := (hs.o gx trivial rfl).1.trans f_x_tapeLength
  replace f_x_actCount := (hs.o gx trivial rfl).1.trans f_x_actCount
  replace f_x_heardCount := (hs.o gx trivial rfl).1.trans f_x_heardCount
  replace f_mw := (hs.o gm trivial rfl).2.trans f_mw
  replace f_mr := (hs.o gm trivial rfl).2.trans f_mr
  replace f_mp := (hs.o gm trivial rfl).2.trans f_mp
  replace f_mn := (hs.o gm trivial rfl).2.trans f_mn
  replace f_ml := (hs.o gm trivial rfl).2.trans f_ml
  replace f_mh := (hs.o gm trivial rfl).2.trans f_mh
  replace f_mt := (hs.o gm trivial rfl).2.trans f_mt
  replace f_m_fou := (hs.o gm trivial rfl).2.trans f_m_fou
  replace f_qo_ln := (hs.o gx trivial rfl).2.trans f_qo_ln
  replace f_o_ln := (hs.o g_qo_ln trivial rfl).1.trans f_o_ln
  replace f_o_lsd := (hs.o g_qw trivial rfl).1.trans f_o_lsd
  replace f_o_wkm := (hs.o g_qw trivial rfl).1.trans f_o_wkm
  replace f_qo_py := (hs.o gx trivial rfl).2.trans f_qo_py
  replace f_o_py := (hs.o g_qo_py trivial rfl).1.trans f_o_py
  replace f_b_of := (hs.o g_qo_ln trivial rfl).2.trans f_b_of
  replace f_m_of := (hs.o gm trivial rfl).2.trans f_m_of
  replace f_b_wf := (hs.o g_qo_ln trivial rfl).2.trans f_b_wf
  replace f_m_wf := (hs.o gm trivial rfl).2.trans f_m_wf
  replace f_b_df := (hs.o g_qo_ln trivial rfl).2.trans f_b_df
  replace f_m_df := (hs.o gm trivial rfl).2.trans f_m_df
  replace f_b_kf := (hs.o g_qo_ln trivial rfl).2.trans f_b_kf
  replace f_m_kf := (hs.o gm trivial rfl).2.trans f_m_kf
  replace f_b_sf := (hs.o g_qo_ln trivial rfl).2.trans f_b_sf
  replace f_m_sf := (hs.o gm trivial rfl).2.trans f_m_sf
  replace f_b_bf := (hs.o g_qo_ln trivial rfl).2.trans f_b_bf
  replace f_m_lst := (hs.o gm trivial rfl).2.trans f_m_lst
  replace f_qtp := (hs.o gx trivial rfl).2.trans f_qtp
  replace f_m_tp := (hs.o gm trivial rfl).2.trans f_m_tp
  replace f_m_dead := (hs.o gm trivial rfl).2.trans f_m_dead
  replace f_m_isj := (hs.o gm trivial rfl).2.trans f_m_isj
  replace f_m_dox := (hs.o gm trivial rfl).2.trans f_m_dox
  replace f_m_doy := (hs.o gm trivial rfl).2.trans f_m_doy
  replace f_qlt := (hs.o g_qw trivial rfl).2.trans f_qlt
  replace f_qlf := (hs.o g_qw trivial rfl).2.trans f_qlf
  replace f_m_wkd := (hs.o gm trivial rfl).2.trans f_m_wkd
  replace f_m_aga := (hs.o gm trivial rfl).2.trans f_m_aga
  replace f_qwo := (hs.o gx trivial rfl).2.trans f_qwo
  replace f_m_ad := (hs.o gm trivial rfl).2.trans f_m_ad
  replace f_m_by := (hs.o gm trivial rfl).2.trans f_m_by
  replace f_m_ho := (hs.o gm trivial rfl).2.trans f_m_ho
  replace f_m_fc := (hs.o gm trivial rfl).2.trans f_m_fc
  replace f_m_nt := (hs.o gm trivial rfl).2.trans f_m_nt
  replace f_m_wt := (hs.o gm trivial rfl).2.trans f_m_wt
  replace f_m_be := (hs.o gm trivial rfl).2.trans f_m_be
  replace f_m_bor := (hs.o gm trivial rfl).2.trans f_m_bor
  replace f_m_kin := (hs.o gm trivial rfl).2.trans f_m_kin
  replace f_m_sum := (hs.o gm trivial rfl).2.trans f_m_sum
  replace f_m_fro := (hs.o gm trivial rfl).2.trans f_m_fro
  replace f_m_fil := (hs.o gm trivial rfl).2.trans f_m_fil
  replace f_m_jud := (hs.o gm trivial rfl).2.trans f_m_jud
  replace f_m_ear := (hs.o gm trivial rfl).2.trans f_m_ear
  replace f_m_hds := (hs.o gm trivial rfl).2.trans f_m_hds
  replace f_m_ord := (hs.o gm trivial rfl).2.trans f_m_ord
  replace f_m_wkl := (hs.o gm trivial rfl).2.trans f_m_wkl
  replace f_m_owd := (hs.o gm trivial rfl).2.trans f_m_owd
  replace f_m_gds := (hs.o gm trivial rfl).2.trans f_m_gds
  replace f_m_szd := (hs.o gm trivial rfl).2.trans f_m_szd
  replace f_m_srv := (hs.o gm trivial rfl).2.trans f_m_srv
  replace f_y_p0 := (hs.o g_qo_py trivial rfl).2.trans f_y_p0
  replace f_m_p0 := (hs.o gm trivial rfl).2.trans f_m_p0
  replace f_y_p1 := (hs.o g_qo_py trivial rfl).2.trans f_y_p1
  replace f_m_p1 := (hs.o gm trivial rfl).2.trans f_m_p1
  replace f_y_p2 := (hs.o g_qo_py trivial rfl).2.trans f_y_p2
  replace f_m_p2 := (hs.o gm trivial rfl).2.trans f_m_p2
  replace f_y_p3 := (hs.o g_qo_py trivial rfl).2.trans f_y_p3
  replace f_m_p3 := (hs.o gm trivial rfl).2.trans f_m_p3
  replace f_y_p4 := (hs.o g_qo_py trivial rfl).2.trans f_y_p4
  replace f_m_p4 := (hs.o gm trivial rfl).2.trans f_m_p4
  replace f_qrg9 := (hs.o gx trivial rfl).2.trans f_qrg9
  replace f_y_ls := (hs.o g_qrg9 trivial rfl).2.trans f_y_ls
  replace f_m_rl := (hs.o gm trivial rfl).2.trans f_m_rl
  replace ffv_731 := (hs.o g_qrg9 trivial rfl).1.trans ffv_731
  replace ffv_732 := (hs.o gm trivial rfl).1.trans ffv_732
  replace ffv_733 := (hs.o gm trivial rfl).1.trans ffv_733
  replace pf_qa : ∀ j : Nat, (j : Int) < (h_740.2.1 ax 6).toInt → h_740.2.2 qa j ≠ none := by
    intro j hj; rw [(hs.o gx trivial rfl).1] at hj; rw [(hs.a g_qa rfl j).2]; exact pf_qa j hj
  replace pf_qp : ∀ j : Nat, (j : Int) < (h_740.2.1 ax 8).toInt → h_740.2.2 qp j ≠ none := by
    intro j hj; rw [(hs.o gx trivial rfl).1] at hj; rw [(hs.a g_qp rfl j).2]; exact pf_qp j hj
  replace pf_qc : ∀ j : Nat, (j : Int) < (h_740.2.1 ax 11).toInt → h_740.2.2 qc j ≠ none := by
    intro j hj; rw [(hs.o gx trivial rfl).1] at hj; rw [(hs.a g_qc rfl j).2]; exact pf_qc j hj
  replace pf_qh : ∀ j : Nat, (j : Int) < (h_740.2.1 ax 13).toInt → h_740.2.2 qh j ≠ none := by
    intro j hj; rw [(hs.o gx trivial rfl).1] at hj; rw [(hs.a g_qh rfl j).2]; exact pf_qh j hj
  replace pf_ql : ∀ j : Nat, (j : Int) < (h_740.2.1 qw 0).toInt → h_740.2.2 ql j ≠ none := by
    intro j hj; rw [(hs.o g_qw trivial rfl).1] at hj; rw [(hs.a g_ql rfl j).2]; exact pf_ql j hj
  replace cl_lst : hx_col 8 h_740 ql 0 = c_lst := (hx_col_S hs hTo g_ql tt_40 tt_2 rfl rfl).trans cl_lst
  replace cl_dead : hx_col 40 h_740 qp 7 = c_dead := (hx_col_S hs hTo g_qp tt_44 tt_4 rfl rfl).trans cl_dead
  replace cl_isj : hx_col 40 h_740 qp 8 = c_isj := (hx_col_S hs hTo g_qp tt_44 tt_4 rfl rfl).trans cl_isj
  replace cl_dox : hx_col 40 h_740 qp 5 = c_dox := (hx_col_S hs hTo g_qp tt_44 tt_4 rfl rfl).trans cl_dox
  replace cl_doy : hx_col 40 h_740 qp 6 = c_doy := (hx_col_S hs hTo g_qp tt_44 tt_4 rfl rfl).trans cl_doy
  replace cl_fou : hx_col 100 h_740 qc 10 = c_fou := (hx_col_S hs hTo g_qc tt_45 tt_2 rfl rfl).trans cl_fou
  replace cl_tri : hx_col 100 h_740 qc 9 = c_tri := (hx_col_S hs hTo g_qc tt_45 tt_2 rfl rfl).trans cl_tri
  replace cl_bor : hx_col 40 h_740 qp 1 = F_bor := (hx_col_S hs hTo g_qp tt_44 tt_4 rfl rfl).trans cl_bor
  replace cl_kin : hx_col 40 h_740 qp 2 = F_kin := (hx_col_S hs hTo g_qp tt_44 tt_4 rfl rfl).trans cl_kin
  replace cl_sum : hx_col 100 h_740 qc 6 = F_sum := (hx_col_S hs hTo g_qc tt_45 tt_2 rfl rfl).trans cl_sum
  replace cl_fro : hx_col 100 h_740 qc 7 = F_fro := (hx_col_S hs hTo g_qc tt_45 tt_2 rfl rfl).trans cl_fro
  replace cl_fil : hx_col 100 h_740 qc 8 = F_fil := (hx_col_S hs hTo g_qc tt_45 tt_2 rfl rfl).trans cl_fil
  replace cl_hea : hx_col 100 h_740 qc 11 = F_mh := (hx_col_S hs hTo g_qc tt_45 tt_2 rfl rfl).trans cl_hea
  replace cl_jud : hx_col 100 h_740 qc 12 = F_jud := (hx_col_S hs hTo g_qc tt_45 tt_2 rfl rfl).trans cl_jud
  replace cl_ear : hx_col 40 h_740 qp 3 = F_ear := (hx_col_S hs hTo g_qp tt_44 tt_4 rfl rfl).trans cl_ear
  replace cl_hds : hx_col 40 h_740 qp 4 = F_hds := (hx_col_S hs hTo g_qp tt_44 tt_4 rfl rfl).trans cl_hds
  replace cl_ord : hx_col 100 h_740 qc 13 = F_ord := (hx_col_S hs hTo g_qc tt_45 tt_2 rfl rfl).trans cl_ord
  replace cl_wkl : hx_col 100 h_740 qc 14 = F_wkl := (hx_col_S hs hTo g_qc tt_45 tt_2 rfl rfl).trans cl_wkl
  replace cl_owd : hx_col 100 h_740 qc 15 = F_owd := (hx_col_S hs hTo g_qc tt_45 tt_2 rfl rfl).trans cl_owd
  replace cl_gds : hx_col 100 h_740 qc 17 = F_gds := (hx_col_S hs hTo g_qc tt_45 tt_2 rfl rfl).trans cl_gds
  replace cl_szd : hx_col 100 h_740 qc 16 = F_szd := (hx_col_S hs hTo g_qc tt_45 tt_2 rfl rfl).trans cl_szd
  replace cl_srv : hx_col 100 h_740 qc 18 = F_srv := (hx_col_S hs hTo g_qc tt_45 tt_2 rfl rfl).trans cl_srv
  replace nu_qp : hx_num 40 h_740 qp 0 (np.toInt) := hx_num_S hs hTo g_qp tt_44 tt_4 rfl rfl nu_qp
  replace nu_qc : hx_num 100 h_740 qc 0 (c0.toInt) := hx_num_S hs hTo g_qc tt_45 tt_2 rfl rfl nu_qc
  replace sb_list : hx_LQ 8 100 h_740 ql qc := hx_LQ_S hs g_ql g_qc rfl rfl sb_list
  replace hDF : hw_DF h_740 qc qp 2 F_aga c0.toInt := hw_DF_S hs hTo g_qc g_qp tt_45 tt_2 rfl rfl rfl hDF
  replace hRA9 : hv_RA h_740 qa qwo a0.toInt A9 := hv_RA_S hs hTo g_qa g_qwo tt_43 tt_0 rfl rfl rfl rfl rfl rfl ?o26 hRA9
  case o26 => omega
  replace hDP : hw_DF h_740 qc qp 1 F_by c0.toInt := hw_DF_S hs hTo g_qc g_qp tt_45 tt_2 rfl rfl rfl hDP
  replace hAC9 : hv_AC h_740 qc F_ml c0.toInt A9 := hv_AC_S hs hTo g_qc tt_45 tt_2 rfl tt_0 rfl rfl rfl rfl rfl rfl rfl hAC9
  replace hFX : hv_FX 8 4 h_740 qc cF9L c0.toInt := hv_FX_S hs hTo g_qc tt_45 tt_2 rfl rfl rfl rfl hFX
  replace hBX : hv_FX 3 5 h_740 qc F_be c0.toInt := hv_FX_S hs hTo g_qc tt_45 tt_2 rfl rfl rfl rfl hBX
  replace hHL : hv_HL h_740 qh qc F_ho m0.toInt c0.toInt := hv_HL_S hs g_qh g_qc rfl rfl hHL
  replace n_mw : h_740.2.1 mw = F_mw := (funext fun j => (hs.a g_mw rfl j).1).trans n_mw
  replace n_mr : h_740.2.1 mr = F_mr := (funext fun j => (hs.a g_mr rfl j).1).trans n_mr
  replace n_mp : h_740.2.1 mp = F_mp := (funext fun j => (hs.a g_mp rfl j).1).trans n_mp
  replace n_mn : h_740.2.1 mn = F_mn := (funext fun j => (hs.a g_mn rfl j).1).trans n_mn
  replace n_ml : h_740.2.1 ml = F_ml := (funext fun j => (hs.a g_ml rfl j).1).trans n_ml
  replace n_mh : h_740.2.1 mh = F_mh := (funext fun j => (hs.a g_mh rfl j).1).trans n_mh
  replace n_mt : h_740.2.1 mt = F_mt := (funext fun j => (hs.a g_mt rfl j).1).trans n_mt
  replace n_m_fou : h_740.2.1 m_fou = F_m_fou := (funext fun j => (hs.a g_m_fou rfl j).1).trans n_m_fou
  replace n_b_of : h_740.2.1 b_of = B_of := (funext fun j => (hs.a g_b_of rfl j).1).trans n_b_of
  replace n_m_of : h_740.2.1 m_of = F_of := (funext fun j => (hs.a g_m_of rfl j).1).trans n_m_of
  replace n_b_wf : h_740.2.1 b_wf = B_wf := (funext fun j => (hs.a g_b_wf rfl j).1).trans n_b_wf
  replace n_m_wf : h_740.2.1 m_wf = F_wf := (funext fun j => (hs.a g_m_wf rfl j).1).trans n_m_wf
  replace n_b_df : h_740.2.1 b_df = B_df := (funext fun j => (hs.a g_b_df rfl j).1).trans n_b_df
  replace n_m_df : h_740.2.1 m_df = F_df := (funext fun j => (hs.a g_m_df rfl j).1).trans n_m_df
  replace n_b_kf : h_740.2.1 b_kf = B_kf := (funext fun j => (hs.a g_b_kf rfl j).1).trans n_b_kf
  replace n_m_kf : h_740.2.1 m_kf = F_kf := (funext fun j => (hs.a g_m_kf rfl j).1).trans n_m_kf
  replace n_b_sf : h_740.2.1 b_sf = B_sf := (funext fun j => (hs.a g_b_sf rfl j).1).trans n_b_sf
  replace n_m_sf : h_740.2.1 m_sf = F_sf := (funext fun j => (hs.a g_m_sf rfl j).1).trans n_m_sf
  replace n_b_bf : h_740.2.1 b_bf = bfL := (funext fun j => (hs.a g_b_bf rfl j).1).trans n_b_bf
  replace n_lst : h_740.2.1 m_lst = F_lst := (funext fun j => (hs.a g_m_lst rfl j).1).trans n_lst
  replace n_tp : h_740.2.1 m_tp = F_tp := (funext fun j => (hs.a g_m_tp rfl j).1).trans n_tp
  replace n_qtp : h_740.2.1 qtp = F_tp := (funext fun j => (hs.a g_qtp rfl j).1).trans n_qtp
  replace n_dead : h_740.2.1 m_dead = F_dead := (funext fun j => (hs.a g_m_dead rfl j).1).trans n_dead
  replace n_isj : h_740.2.1 m_isj = F_isj := (funext fun j => (hs.a g_m_isj rfl j).1).trans n_isj
  replace n_dox : h_740.2.1 m_dox = F_dox := (funext fun j => (hs.a g_m_dox rfl j).1).trans n_dox
  replace n_doy : h_740.2.1 m_doy = F_doy := (funext fun j => (hs.a g_m_doy rfl j).1).trans n_doy
  replace n_qlt : h_740.2.1 qlt = F_qlt := (funext fun j => (hs.a g_qlt rfl j).1).trans n_qlt
  replace n_m_wkd : h_740.2.1 m_wkd = F_m_wkd := (funext fun j => (hs.a g_m_wkd rfl j).1).trans n_m_wkd
  replace n_aga : h_740.2.1 m_aga = F_aga := (funext fun j => (hs.a g_m_aga rfl j).1).trans n_aga
  replace n_ad : h_740.2.1 m_ad = F_ad := (funext fun j => (hs.a g_m_ad rfl j).1).trans n_ad
  replace n_by : h_740.2.1 m_by = F_by := (funext fun j => (hs.a g_m_by rfl j).1).trans n_by
  replace n_ho : h_740.2.1 m_ho = F_ho := (funext fun j => (hs.a g_m_ho rfl j).1).trans n_ho
  replace n_fc : h_740.2.1 m_fc = F_fc := (funext fun j => (hs.a g_m_fc rfl j).1).trans n_fc
  replace n_nt : h_740.2.1 m_nt = F_nt := (funext fun j => (hs.a g_m_nt rfl j).1).trans n_nt
  replace n_wt : h_740.2.1 m_wt = F_wt := (funext fun j => (hs.a g_m_wt rfl j).1).trans n_wt
  replace n_be : h_740.2.1 m_be = F_be := (funext fun j => (hs.a g_m_be rfl j).1).trans n_be
  replace n_bor : h_740.2.1 m_bor = F_bor := (funext fun j => (hs.a g_m_bor rfl j).1).trans n_bor
  replace n_kin : h_740.2.1 m_kin = F_kin := (funext fun j => (hs.a g_m_kin rfl j).1).trans n_kin
  replace n_sum : h_740.2.1 m_sum = F_sum := (funext fun j => (hs.a g_m_sum rfl j).1).trans n_sum
  replace n_fro : h_740.2.1 m_fro = F_fro := (funext fun j => (hs.a g_m_fro rfl j).1).trans n_fro
  replace n_fil : h_740.2.1 m_fil = F_fil := (funext fun j => (hs.a g_m_fil rfl j).1).trans n_fil
  replace n_jud : h_740.2.1 m_jud = F_jud := (funext fun j => (hs.a g_m_jud rfl j).1).trans n_jud
  replace n_ear : h_740.2.1 m_ear = F_ear := (funext fun j => (hs.a g_m_ear rfl j).1).trans n_ear
  replace n_hds : h_740.2.1 m_hds = F_hds := (funext fun j => (hs.a g_m_hds rfl j).1).trans n_hds
  replace n_ord : h_740.2.1 m_ord = F_ord := (funext fun j => (hs.a g_m_ord rfl j).1).trans n_ord
  replace n_wkl : h_740.2.1 m_wkl = F_wkl := (funext fun j => (hs.a g_m_wkl rfl j).1).trans n_wkl
  replace n_owd : h_740.2.1 m_owd = F_owd := (funext fun j => (hs.a g_m_owd rfl j).1).trans n_owd
  replace n_gds : h_740.2.1 m_gds = F_gds := (funext fun j => (hs.a g_m_gds rfl j).1).trans n_gds
  replace n_szd : h_740.2.1 m_szd = F_szd := (funext fun j => (hs.a g_m_szd rfl j).1).trans n_szd
  replace n_srv : h_740.2.1 m_srv = F_srv := (funext fun j => (hs.a g_m_srv rfl j).1).trans n_srv
  replace n_p0 : h_740.2.1 m_p0 = F_p0 := (funext fun j => (hs.a g_m_p0 rfl j).1).trans n_p0
  replace n_y_p0 : h_740.2.1 y_p0 = F_p0 := (funext fun j => (hs.a g_y_p0 rfl j).1).trans n_y_p0
  replace n_p1 : h_740.2.1 m_p1 = F_p1 := (funext fun j => (hs.a g_m_p1 rfl j).1).trans n_p1
  replace n_y_p1 : h_740.2.1 y_p1 = F_p1 := (funext fun j => (hs.a g_y_p1 rfl j).1).trans n_y_p1
  replace n_p2 : h_740.2.1 m_p2 = F_p2 := (funext fun j => (hs.a g_m_p2 rfl j).1).trans n_p2
  replace n_y_p2 : h_740.2.1 y_p2 = F_p2 := (funext fun j => (hs.a g_y_p2 rfl j).1).trans n_y_p2
  replace n_p3 : h_740.2.1 m_p3 = F_p3 := (funext fun j => (hs.a g_m_p3 rfl j).1).trans n_p3
  replace n_y_p3 : h_740.2.1 y_p3 = F_p3 := (funext fun j => (hs.a g_y_p3 rfl j).1).trans n_y_p3
  replace n_p4 : h_740.2.1 m_p4 = F_p4 := (funext fun j => (hs.a g_m_p4 rfl j).1).trans n_p4
  replace n_y_p4 : h_740.2.1 y_p4 = F_p4 := (funext fun j => (hs.a g_y_p4 rfl j).1).trans n_y_p4
  replace n_y_ls : h_740.2.1 y_ls = F_y_ls := (funext fun j => (hs.a g_y_ls rfl j).1).trans n_y_ls
  replace n_m_rl : h_740.2.1 m_rl = F_m_rl := (funext fun j => (hs.a g_m_rl rfl j).1).trans n_m_rl
  replace gx := gx.S hs
  replace gm := gm.S hs
  replace g_qa := g_qa.S hs
  replace g_qp := g_qp.S hs
  replace g_qc := g_qc.S hs
  replace g_qh := g_qh.S hs
  replace g_qw := g_qw.S hs
  replace g_ql := g_ql.S hs
  replace g_mw := g_mw.S hs
  replace g_mr := g_mr.S hs
  replace g_mp := g_mp.S hs
  replace g_mn := g_mn.S hs
  replace g_ml := g_ml.S hs
  replace g_mh := g_mh.S hs
  replace g_mt := g_mt.S hs
  replace g_m_fou := g_m_fou.S hs
  replace g_qo_ln := g_qo_ln.S hs
  replace g_qo_py := g_qo_py.S hs
  replace g_b_of := g_b_of.S hs
  replace g_m_of := g_m_of.S hs
  replace g_b_wf := g_b_wf.S hs
  replace g_m_wf := g_m_wf.S hs
  replace g_b_df := g_b_df.S hs
  replace g_m_df := g_m_df.S hs
  replace g_b_kf := g_b_kf.S hs
  replace g_m_kf := g_m_kf.S hs
  replace g_b_sf := g_b_sf.S hs
  replace g_m_sf := g_m_sf.S hs
  replace g_b_bf := g_b_bf.S hs
  replace g_m_lst := g_m_lst.S hs
  replace g_qtp := g_qtp.S hs
  replace g_m_tp := g_m_tp.S hs
  replace g_m_dead := g_m_dead.S hs
  replace g_m_isj := g_m_isj.S hs
  replace g_m_dox := g_m_dox.S hs
  replace g_m_doy := g_m_doy.S hs
  replace g_qlt := g_qlt.S hs
  replace g_qlf := g_qlf.S hs
  replace g_m_wkd := g_m_wkd.S hs
  replace g_m_aga := g_m_aga.S hs
  replace g_qwo := g_qwo.S hs
  replace g_m_ad := g_m_ad.S hs
  replace g_m_by := g_m_by.S hs
  replace g_m_ho := g_m_ho.S hs
  replace g_m_fc := g_m_fc.S hs
  replace g_m_nt := g_m_nt.S hs
  replace g_m_wt := g_m_wt.S hs
  replace g_m_be := g_m_be.S hs
  replace g_m_bor := g_m_bor.S hs
  replace g_m_kin := g_m_kin.S hs
  replace g_m_sum := g_m_sum.S hs
  replace g_m_fro := g_m_fro.S hs
  replace g_m_fil := g_m_fil.S hs
  replace g_m_jud := g_m_jud.S hs
  replace g_m_ear := g_m_ear.S hs
  replace g_m_hds := g_m_hds.S hs
  replace g_m_ord := g_m_ord.S hs
  replace g_m_wkl := g_m_wkl.S hs
  replace g_m_owd := g_m_owd.S hs
  replace g_m_gds := g_m_gds.S hs
  replace g_m_szd := g_m_szd.S hs
  replace g_m_srv := g_m_srv.S hs
  replace g_y_p0 := g_y_p0.S hs
  replace g_m_p0 := g_m_p0.S hs
  replace g_y_p1 := g_y_p1.S hs
  replace g_m_p1 := g_m_p1.S hs
  replace g_y_p2 := g_y_p2.S hs
  replace g_m_p2 := g_m_p2.S hs
  replace g_y_p3 := g_y_p3.S hs
  replace g_m_p3 := g_m_p3.S hs
  replace g_y_p4 := g_y_p4.S hs
  replace g_m_p4 := g_m_p4.S hs
  replace g_qrg9 := g_qrg9.S hs
  replace g_y_ls := g_y_ls.S hs
  replace g_m_rl := g_m_rl.S hs
  refine lv_pop hx hb dL_law_1176 rfl ?_
  refine lv_aload_n hx hb dL_law_1177 rfl (lv_at hl 1 rfl) ?_
  refine lv_aload_n hx hb dL_law_1178 rfl (lv_at hl 3 rfl) ?_
  refine lv_iload_n hx hb dL_law_1179 rfl (lv_at hl 0 rfl) ?_
  refine lv_iconst (v := 1) hx hb dL_law_1180 ?o27 ?_
  case o27 => decide
  refine lv_iadd hx hb dL_law_1181 ?_
  refine lv_topi (fun x_744 ex_744 => ?_)
  have zx_744 : x_744.toInt = i.toInt + 1 := ?o28
  case o28 =>
    rw [ex_744]
    refine i32_add rfl ?o29 ?o30 ?o31
    case o29 => decide
    case o30 => omega
    case o31 => omega
  obtain rfl : x_735 = x_744 := ex_735.trans ex_744.symm
  refine va_sld hx hb hX hbl hbA hW.2.2.2.1 (vp_in_iff.mpr ⟨?o32, ?o33⟩) dL_law_1182 ?_
  case o32 => omega
  case o33 => omega
  refine lv_topi (fun x_745 ex_745 => ?_)
  obtain rfl : x_736 = x_745 := ex_736.trans ex_745.symm
  refine lv_aload_n hx hb dL_law_1183 rfl (lv_at hl 3 rfl) ?_
  refine lv_iload_n hx hb dL_law_1184 rfl (lv_at hl 0 rfl) ?_
  refine lv_iconst (v := 2) hx hb dL_law_1185 ?o34 ?_
  case o34 => decide
  refine lv_iadd hx hb dL_law_1186 ?_
  refine lv_topi (fun x_746 ex_746 => ?_)
  have zx_746 : x_746.toInt = i.toInt + 2 := ?o35
  case o35 =>
    rw [ex_746]
    refine i32_add rfl ?o36 ?o37 ?o38
    case o36 => decide
    case o37 => omega
    case o38 => omega
  obtain rfl : x_737 = x_746 := ex_737.trans ex_746.symm
  refine va_sld hx hb hX hbl hbA hW.2.2.2.1 (vp_in_iff.mpr ⟨?o39, ?o40⟩) dL_law_1187 ?_
  case o39 => omega
  case o40 => omega
  refine lv_topi (fun x_747 ex_747 => ?_)
  obtain rfl : x_738 = x_747 := ex_738.trans ex_747.symm
  have hTo := hT
  refine hx_goi (hx_runV (As := [.int x_736, .int x_738]) (rest := []) ⟨hx, hb, hml, hown, hts⟩ hW gm tt_10 (T := TX10) (N := 98) rfl (t_X10_planned l dC dI dA L_739 h_740 H.size am x_736 x_738 hT gm) (cwV 2 hts (hx_gV kw_1686 kw_1683 kw_1684 kw_1685 kw_103) rfl rfl rfl (by decide +kernel) ⟨Nat.le_of_ble_eq_true rfl, Nat.le_of_ble_eq_true rfl⟩) rfl hl.1 rfl (Nat.le_of_ble_eq_true rfl) dL_law_1188 ⟨(show CC + 0 + 0 ≤ 600000 from ?o41), (show SS + 0 + 0 ≤ 7302250 from ?o42)⟩) hW (fun r_750 L_748 h_749 H locs p_751 hW => ?_)
  case o41 => omega
  case o42 => omega
  obtain ⟨hr_752, hT, hs⟩ := p_751
  replace hT : hx_T T_tb L_748 h_749 := hT
  replace hs : hx_S T_tb [] L_739 h_740 L_748 h_749 := hs
  replace f_qa := (hs.o gx trivial rfl).2.trans f_qa
  replace f_qp := (hs.o gx trivial rfl).2.trans f_qp
  replace f_qc := (hs.o gx trivial rfl).2.trans f_qc
  replace f_qh := (hs.o gx trivial rfl).2.trans f_qh
  replace f_qw := (hs.o gx trivial rfl).2.trans f_qw
  replace f_ql := (hs.o g_qw trivial rfl).2.trans f_ql
  replace f_m_now := (hs.o gm trivial rfl).1.trans f_m_now
  replace f_m_persons := (hs.o gm trivial rfl).1.trans f_m_persons
  replace f_m_claims := (hs.o gm trivial rfl).1.trans f_m_claims
  replace f_m_taped := (hs.o gm trivial rfl).1.trans f_m_taped
  replace f_m_acts := (hs.o gm trivial rfl).1.trans f_m_acts
  replace f_m_heardMany := (hs.o gm trivial rfl).1.trans f_m_heardMany
  replace f_m_lines := (hs.o gm trivial rfl).1.trans f_m_lines
  replace f_m_listed := (hs.o gm trivial rfl).1.trans f_m_listed
  replace f_m_walkedMany := (hs.o gm trivial rfl).1.trans f_m_walkedMany
  replace f_m_payments := (hs.o gm trivial rfl).1.trans f_m_payments
  replace f_x_now := (hs.o gx trivial rfl).1.trans f_x_now
  replace f_x_personCount := (hs.o gx trivial rfl).1.trans f_x_personCount
  replace f_x_claimCount := (hs.o gx trivial rfl).1.trans f_x_claimCount
  replace f_x_tapeLength := (hs.o gx trivial rfl).1.trans f_x_tapeLength
  replace f_x_actCount := (hs.o gx trivial rfl).1.trans f_x_actCount
  replace f_x_heardCount := (hs.o gx trivial rfl).1.trans f_x_heardCount
  replace f_mw := (hs.o gm trivial rfl).2.trans f_mw
  replace f_mr := (hs.o gm trivial rfl).2.trans f_mr
  replace f_mp := (hs.o gm trivial rfl).2.trans f_mp
  replace f_mn := (hs.o gm trivial rfl).2.trans f_mn
  replace f_ml := (hs.o gm trivial rfl).2.trans f_ml
  replace f_mh := (hs.o gm trivial rfl).2.trans f_mh
  replace f_mt := (hs.o gm trivial rfl).2.trans f_mt
  replace f_m_fou := (hs.o gm trivial rfl).2.trans f_m_fou
  replace f_qo_ln := (hs.o gx trivial rfl).2.trans f_qo_ln
  replace f_o_ln := (hs.o g_qo_ln trivial rfl).1.trans f_o_ln
  replace f_o_lsd := (hs.o g_qw trivial rfl).1.trans f_o_lsd
  replace f_o_wkm := (hs.o g_qw trivial rfl).1.trans f_o_wkm
  replace f_qo_py := (hs.o gx trivial rfl).2.trans f_qo_py
  replace f_o_py := (hs.o g_qo_py trivial rfl).1.trans f_o_py
  replace f_b_of := (hs.o g_qo_ln trivial rfl).2.trans f_b_of
  replace f_m_of := (hs.o gm trivial rfl).2.trans f_m_of
  replace f_b_wf := (hs.o g_qo_ln trivial rfl).2.trans f_b_wf
  replace f_m_wf := (hs.o gm trivial rfl).2.trans f_m_wf
  replace f_b_df := (hs.o g_qo_ln trivial rfl).2.trans f_b_df
  replace f_m_df := (hs.o gm trivial rfl).2.trans f_m_df
  replace f_b_kf := (hs.o g_qo_ln trivial rfl).2.trans f_b_kf
  replace f_m_kf := (hs.o gm trivial rfl).2.trans f_m_kf
  replace f_b_sf := (hs.o g_qo_ln trivial rfl).2.trans f_b_sf
  replace f_m_sf := (hs.o gm trivial rfl).2.trans f_m_sf
  replace f_b_bf := (hs.o g_qo_ln trivial rfl).2.trans f_b_bf
  replace f_m_lst := (hs.o gm trivial rfl).2.trans f_m_lst
  replace f_qtp := (hs.o gx trivial rfl).2.trans f_qtp
  replace f_m_tp := (hs.o gm trivial rfl).2.trans f_m_tp
  replace f_m_dead := (hs.o gm trivial rfl).2.trans f_m_dead
  replace f_m_isj := (hs.o gm trivial rfl).2.trans f_m_isj
  replace f_m_dox := (hs.o gm trivial rfl).2.trans f_m_dox
  replace f_m_doy := (hs.o gm trivial rfl).2.trans f_m_doy
  replace f_qlt := (hs.o g_qw trivial rfl).2.trans f_qlt
  replace f_qlf := (hs.o g_qw trivial rfl).2.trans f_qlf
  replace f_m_wkd := (hs.o gm trivial rfl).2.trans f_m_wkd
  replace f_m_aga := (hs.o gm trivial rfl).2.trans f_m_aga
  replace f_qwo := (hs.o gx trivial rfl).2.trans f_qwo
  replace f_m_ad := (hs.o gm trivial rfl).2.trans f_m_ad
  replace f_m_by := (hs.o gm trivial rfl).2.trans f_m_by
  replace f_m_ho := (hs.o gm trivial rfl).2.trans f_m_ho
  replace f_m_fc := (hs.o gm trivial rfl).2.trans f_m_fc
  replace f_m_nt := (hs.o gm trivial rfl).2.trans f_m_nt
  replace f_m_wt := (hs.o gm trivial rfl).2.trans f_m_wt
  replace f_m_be := (hs.o gm trivial rfl).2.trans f_m_be
  replace f_m_bor := (hs.o gm trivial rfl).2.trans f_m_bor
  replace f_m_kin := (hs.o gm trivial rfl).2.trans f_m_kin
  replace f_m_sum := (hs.o gm trivial rfl).2.trans f_m_sum
  replace f_m_fro := (hs.o gm trivial rfl).2.trans f_m_fro
  replace f_m_fil := (hs.o gm trivial rfl).2.trans f_m_fil
  replace f_m_jud := (hs.o gm trivial rfl).2.trans f_m_jud
  replace f_m_ear := (hs.o gm trivial rfl).2.trans f_m_ear
  replace f_m_hds := (hs.o gm trivial rfl).2.trans f_m_hds
  replace f_m_ord := (hs.o gm trivial rfl).2.trans f_m_ord
  replace f_m_wkl := (hs.o gm trivial rfl).2.trans f_m_wkl
  replace f_m_owd := (hs.o gm trivial rfl).2.trans f_m_owd
  replace f_m_gds := (hs.o gm trivial rfl).2.trans f_m_gds
  replace f_m_szd := (hs.o gm trivial rfl).2.trans f_m_szd
  replace f_m_srv := (hs.o gm trivial rfl).2.trans f_m_srv
  replace f_y_p0 := (hs.o g_qo_py trivial rfl).2.trans f_y_p0
  replace f_m_p0 := (hs.o gm trivial rfl).2.trans f_m_p0
  replace f_y_p1 := (hs.o g_qo_py trivial rfl).2.trans f_y_p1
  replace f_m_p1 := (hs.o gm trivial rfl).2.trans f_m_p1
  replace f_y_p2 := (hs.o g_qo_py trivial rfl).2.trans f_y_p2
  replace f_m_p2 := (hs.o gm trivial rfl).2.trans f_m_p2
  replace f_y_p3 := (hs.o g_qo_py trivial rfl).2.trans f_y_p3
  replace f_m_p3 := (hs.o gm trivial rfl).2.trans f_m_p3
  replace f_y_p4 := (hs.o g_qo_py trivial rfl).2.trans f_y_p4
  replace f_m_p4 := (hs.o gm trivial rfl).2.trans f_m_p4
  replace f_qrg9 := (hs.o gx trivial rfl).2.trans f_qrg9
  replace f_y_ls := (hs.o g_qrg9 trivial rfl).2.trans f_y_ls
  replace f_m_rl := (hs.o gm trivial rfl).2.trans f_m_rl
  replace ffv_731 := (hs.o g_qrg9 trivial rfl).1.trans ffv_731
  replace ffv_732 := (hs.o gm trivial rfl).1.trans ffv_732
  replace ffv_733 := (hs.o gm trivial rfl).1.trans ffv_733
  replace pf_qa : ∀ j : Nat, (j : Int) < (h_749.2.1 ax 6).toInt → h_749.2.2 qa j ≠ none := by
    intro j hj; rw [(hs.o gx trivial rfl).1] at hj; rw [(hs.a g_qa rfl j).2]; exact pf_qa j hj
  replace pf_qp : ∀ j : Nat, (j : Int) < (h_749.2.1 ax 8).toInt → h_749.2.2 qp j ≠ none := by
    intro j hj; rw [(hs.o gx trivial rfl).1] at hj; rw [(hs.a g_qp rfl j).2]; exact pf_qp j hj
  replace pf_qc : ∀ j : Nat, (j : Int) < (h_749.2.1 ax 11).toInt → h_749.2.2 qc j ≠ none := by
    intro j hj; rw [(hs.o gx trivial rfl).1] at hj; rw [(hs.a g_qc rfl j).2]; exact pf_qc j hj
  replace pf_qh : ∀ j : Nat, (j : Int) < (h_749.2.1 ax 13).toInt → h_749.2.2 qh j ≠ none := by
    intro j hj; rw [(hs.o gx trivial rfl).1] at hj; rw [(hs.a g_qh rfl j).2]; exact pf_qh j hj
  replace pf_ql : ∀ j : Nat, (j : Int) < (h_749.2.1 qw 0).toInt → h_749.2.2 ql j ≠ none := by
    intro j hj; rw [(hs.o g_qw trivial rfl).1] at hj; rw [(hs.a g_ql rfl j).2]; exact pf_ql j hj
  replace cl_lst : hx_col 8 h_749 ql 0 = c_lst := (hx_col_S hs hTo g_ql tt_40 tt_2 rfl rfl).trans cl_lst
  replace cl_dead : hx_col 40 h_749 qp 7 = c_dead := (hx_col_S hs hTo g_qp tt_44 tt_4 rfl rfl).trans cl_dead
  replace cl_isj : hx_col 40 h_749 qp 8 = c_isj := (hx_col_S hs hTo g_qp tt_44 tt_4 rfl rfl).trans cl_isj
  replace cl_dox : hx_col 40 h_749 qp 5 = c_dox := (hx_col_S hs hTo g_qp tt_44 tt_4 rfl rfl).trans cl_dox
  replace cl_doy : hx_col 40 h_749 qp 6 = c_doy := (hx_col_S hs hTo g_qp tt_44 tt_4 rfl rfl).trans cl_doy
  replace cl_fou : hx_col 100 h_749 qc 10 = c_fou := (hx_col_S hs hTo g_qc tt_45 tt_2 rfl rfl).trans cl_fou
  replace cl_tri : hx_col 100 h_749 qc 9 = c_tri := (hx_col_S hs hTo g_qc tt_45 tt_2 rfl rfl).trans cl_tri
  replace cl_bor : hx_col 40 h_749 qp 1 = F_bor := (hx_col_S hs hTo g_qp tt_44 tt_4 rfl rfl).trans cl_bor
  replace cl_kin : hx_col 40 h_749 qp 2 = F_kin := (hx_col_S hs hTo g_qp tt_44 tt_4 rfl rfl).trans cl_kin
  replace cl_sum : hx_col 100 h_749 qc 6 = F_sum := (hx_col_S hs hTo g_qc tt_45 tt_2 rfl rfl).trans cl_sum
  replace cl_fro : hx_col 100 h_749 qc 7 = F_fro := (hx_col_S hs hTo g_qc tt_45 tt_2 rfl rfl).trans cl_fro
  replace cl_fil : hx_col 100 h_749 qc 8 = F_fil := (hx_col_S hs hTo g_qc tt_45 tt_2 rfl rfl).trans cl_fil
  replace cl_hea : hx_col 100 h_749 qc 11 = F_mh := (hx_col_S hs hTo g_qc tt_45 tt_2 rfl rfl).trans cl_hea
  replace cl_jud : hx_col 100 h_749 qc 12 = F_jud := (hx_col_S hs hTo g_qc tt_45 tt_2 rfl rfl).trans cl_jud
  replace cl_ear : hx_col 40 h_749 qp 3 = F_ear := (hx_col_S hs hTo g_qp tt_44 tt_4 rfl rfl).trans cl_ear
  replace cl_hds : hx_col 40 h_749 qp 4 = F_hds := (hx_col_S hs hTo g_qp tt_44 tt_4 rfl rfl).trans cl_hds
  replace cl_ord : hx_col 100 h_749 qc 13 = F_ord := (hx_col_S hs hTo g_qc tt_45 tt_2 rfl rfl).trans cl_ord
  replace cl_wkl : hx_col 100 h_749 qc 14 = F_wkl := (hx_col_S hs hTo g_qc tt_45 tt_2 rfl rfl).trans cl_wkl
  replace cl_owd : hx_col 100 h_749 qc 15 = F_owd := (hx_col_S hs hTo g_qc tt_45 tt_2 rfl rfl).trans cl_owd
  replace cl_gds : hx_col 100 h_749 qc 17 = F_gds := (hx_col_S hs hTo g_qc tt_45 tt_2 rfl rfl).trans cl_gds
  replace cl_szd : hx_col 100 h_749 qc 16 = F_szd := (hx_col_S hs hTo g_qc tt_45 tt_2 rfl rfl).trans cl_szd
  replace cl_srv : hx_col 100 h_749 qc 18 = F_srv := (hx_col_S hs hTo g_qc tt_45 tt_2 rfl rfl).trans cl_srv
  replace nu_qp : hx_num 40 h_749 qp 0 (np.toInt) := hx_num_S hs hTo g_qp tt_44 tt_4 rfl rfl nu_qp
  replace nu_qc : hx_num 100 h_749 qc 0 (c0.toInt) := hx_num_S hs hTo g_qc tt_45 tt_2 rfl rfl nu_qc
  replace sb_list : hx_LQ 8 100 h_749 ql qc := hx_LQ_S hs g_ql g_qc rfl rfl sb_list
  replace hDF : hw_DF h_749 qc qp 2 F_aga c0.toInt := hw_DF_S hs hTo g_qc g_qp tt_45 tt_2 rfl rfl rfl hDF
  replace hRA9 : hv_RA h_749 qa qwo a0.toInt A9 := hv_RA_S hs hTo g_qa g_qwo tt_43 tt_0 rfl rfl rfl rfl rfl rfl ?o43 hRA9
  case o43 => omega
  replace hDP : hw_DF h_749 qc qp 1 F_by c0.toInt := hw_DF_S hs hTo g_qc g_qp tt_45 tt_2 rfl rfl rfl hDP
  replace hAC9 : hv_AC h_749 qc F_ml c0.toInt A9 := hv_AC_S hs hTo g_qc tt_45 tt_2 rfl tt_0 rfl rfl rfl rfl rfl rfl rfl hAC9
  replace hFX : hv_FX 8 4 h_749 qc cF9L c0.toInt := hv_FX_S hs hTo g_qc tt_45 tt_2 rfl rfl rfl rfl hFX
  replace hBX : hv_FX 3 5 h_749 qc F_be c0.toInt := hv_FX_S hs hTo g_qc tt_45 tt_2 rfl rfl rfl rfl hBX
  replace hHL : hv_HL h_749 qh qc F_ho m0.toInt c0.toInt := hv_HL_S hs g_qh g_qc rfl rfl hHL
  replace n_mw : h_749.2.1 mw = F_mw := (funext fun j => (hs.a g_mw rfl j).1).trans n_mw
  replace n_mr : h_749.2.1 mr = F_mr := (funext fun j => (hs.a g_mr rfl j).1).trans n_mr
  replace n_mp : h_749.2.1 mp = F_mp := (funext fun j => (hs.a g_mp rfl j).1).trans n_mp
  replace n_mn : h_749.2.1 mn = F_mn := (funext fun j => (hs.a g_mn rfl j).1).trans n_mn
  replace n_ml : h_749.2.1 ml = F_ml := (funext fun j => (hs.a g_ml rfl j).1).trans n_ml
  replace n_mh : h_749.2.1 mh = F_mh := (funext fun j => (hs.a g_mh rfl j).1).trans n_mh
  replace n_mt : h_749.2.1 mt = F_mt := (funext fun j => (hs.a g_mt rfl j).1).trans n_mt
  replace n_m_fou : h_749.2.1 m_fou = F_m_fou := (funext fun j => (hs.a g_m_fou rfl j).1).trans n_m_fou
  replace n_b_of : h_749.2.1 b_of = B_of := (funext fun j => (hs.a g_b_of rfl j).1).trans n_b_of
  replace n_m_of : h_749.2.1 m_of = F_of := (funext fun j => (hs.a g_m_of rfl j).1).trans n_m_of
  replace n_b_wf : h_749.2.1 b_wf = B_wf := (funext fun j => (hs.a g_b_wf rfl j).1).trans n_b_wf
  replace n_m_wf : h_749.2.1 m_wf = F_wf := (funext fun j => (hs.a g_m_wf rfl j).1).trans n_m_wf
  replace n_b_df : h_749.2.1 b_df = B_df := (funext fun j => (hs.a g_b_df rfl j).1).trans n_b_df
  replace n_m_df : h_749.2.1 m_df = F_df := (funext fun j => (hs.a g_m_df rfl j).1).trans n_m_df
  replace n_b_kf : h_749.2.1 b_kf = B_kf := (funext fun j => (hs.a g_b_kf rfl j).1).trans n_b_kf
  replace n_m_kf : h_749.2.1 m_kf = F_kf := (funext fun j => (hs.a g_m_kf rfl j).1).trans n_m_kf
  replace n_b_sf : h_749.2.1 b_sf = B_sf := (funext fun j => (hs.a g_b_sf rfl j).1).trans n_b_sf
  replace n_m_sf : h_749.2.1 m_sf = F_sf := (funext fun j => (hs.a g_m_sf rfl j).1).trans n_m_sf
  replace n_b_bf : h_749.2.1 b_bf = bfL := (funext fun j => (hs.a g_b_bf rfl j).1).trans n_b_bf
  replace n_lst : h_749.2.1 m_lst = F_lst := (funext fun j => (hs.a g_m_lst rfl j).1).trans n_lst
  replace n_tp : h_749.2.1 m_tp = F_tp := (funext fun j => (hs.a g_m_tp rfl j).1).trans n_tp
  replace n_qtp : h_749.2.1 qtp = F_tp := (funext fun j => (hs.a g_qtp rfl j).1).trans n_qtp
  replace n_dead : h_749.2.1 m_dead = F_dead := (funext fun j => (hs.a g_m_dead rfl j).1).trans n_dead
  replace n_isj : h_749.2.1 m_isj = F_isj := (funext fun j => (hs.a g_m_isj rfl j).1).trans n_isj
  replace n_dox : h_749.2.1 m_dox = F_dox := (funext fun j => (hs.a g_m_dox rfl j).1).trans n_dox
  replace n_doy : h_749.2.1 m_doy = F_doy := (funext fun j => (hs.a g_m_doy rfl j).1).trans n_doy
  replace n_qlt : h_749.2.1 qlt = F_qlt := (funext fun j => (hs.a g_qlt rfl j).1).trans n_qlt
  replace n_m_wkd : h_749.2.1 m_wkd = F_m_wkd := (funext fun j => (hs.a g_m_wkd rfl j).1).trans n_m_wkd
  replace n_aga : h_749.2.1 m_aga = F_aga := (funext fun j => (hs.a g_m_aga rfl j).1).trans n_aga
  replace n_ad : h_749.2.1 m_ad = F_ad := (funext fun j => (hs.a g_m_ad rfl j).1).trans n_ad
  replace n_by : h_749.2.1 m_by = F_by := (funext fun j => (hs.a g_m_by rfl j).1).trans n_by
  replace n_ho : h_749.2.1 m_ho = F_ho := (funext fun j => (hs.a g_m_ho rfl j).1).trans n_ho
  replace n_fc : h_749.2.1 m_fc = F_fc := (funext fun j => (hs.a g_m_fc rfl j).1).trans n_fc
  replace n_nt : h_749.2.1 m_nt = F_nt := (funext fun j => (hs.a g_m_nt rfl j).1).trans n_nt
  replace n_wt : h_749.2.1 m_wt = F_wt := (funext fun j => (hs.a g_m_wt rfl j).1).trans n_wt
  replace n_be : h_749.2.1 m_be = F_be := (funext fun j => (hs.a g_m_be rfl j).1).trans n_be
  replace n_bor : h_749.2.1 m_bor = F_bor := (funext fun j => (hs.a g_m_bor rfl j).1).trans n_bor
  replace n_kin : h_749.2.1 m_kin = F_kin := (funext fun j => (hs.a g_m_kin rfl j).1).trans n_kin
  replace n_sum : h_749.2.1 m_sum = F_sum := (funext fun j => (hs.a g_m_sum rfl j).1).trans n_sum
  replace n_fro : h_749.2.1 m_fro = F_fro := (funext fun j => (hs.a g_m_fro rfl j).1).trans n_fro
  replace n_fil : h_749.2.1 m_fil = F_fil := (funext fun j => (hs.a g_m_fil rfl j).1).trans n_fil
  replace n_jud : h_749.2.1 m_jud = F_jud := (funext fun j => (hs.a g_m_jud rfl j).1).trans n_jud
  replace n_ear : h_749.2.1 m_ear = F_ear := (funext fun j => (hs.a g_m_ear rfl j).1).trans n_ear
  replace n_hds : h_749.2.1 m_hds = F_hds := (funext fun j => (hs.a g_m_hds rfl j).1).trans n_hds
  replace n_ord : h_749.2.1 m_ord = F_ord := (funext fun j => (hs.a g_m_ord rfl j).1).trans n_ord
  replace n_wkl : h_749.2.1 m_wkl = F_wkl := (funext fun j => (hs.a g_m_wkl rfl j).1).trans n_wkl
  replace n_owd : h_749.2.1 m_owd = F_owd := (funext fun j => (hs.a g_m_owd rfl j).1).trans n_owd
  replace n_gds : h_749.2.1 m_gds = F_gds := (funext fun j => (hs.a g_m_gds rfl j).1).trans n_gds
  replace n_szd : h_749.2.1 m_szd = F_szd := (funext fun j => (hs.a g_m_szd rfl j).1).trans n_szd
  replace n_srv : h_749.2.1 m_srv = F_srv := (funext fun j => (hs.a g_m_srv rfl j).1).trans n_srv
  replace n_p0 : h_749.2.1 m_p0 = F_p0 := (funext fun j => (hs.a g_m_p0 rfl j).1).trans n_p0
  replace n_y_p0 : h_749.2.1 y_p0 = F_p0 := (funext fun j => (hs.a g_y_p0 rfl j).1).trans n_y_p0
  replace n_p1 : h_749.2.1 m_p1 = F_p1 := (funext fun j => (hs.a g_m_p1 rfl j).1).trans n_p1
  replace n_y_p1 : h_749.2.1 y_p1 = F_p1 := (funext fun j => (hs.a g_y_p1 rfl j).1).trans n_y_p1
  replace n_p2 : h_749.2.1 m_p2 = F_p2 := (funext fun j => (hs.a g_m_p2 rfl j).1).trans n_p2
  replace n_y_p2 : h_749.2.1 y_p2 = F_p2 := (funext fun j => (hs.a g_y_p2 rfl j).1).trans n_y_p2
  replace n_p3 : h_749.2.1 m_p3 = F_p3 := (funext fun j => (hs.a g_m_p3 rfl j).1).trans n_p3
  replace n_y_p3 : h_749.2.1 y_p3 = F_p3 := (funext fun j => (hs.a g_y_p3 rfl j).1).trans n_y_p3
  replace n_p4 : h_749.2.1 m_p4 = F_p4 := (funext fun j => (hs.a g_m_p4 rfl j).1).trans n_p4
  replace n_y_p4 : h_749.2.1 y_p4 = F_p4 := (funext fun j => (hs.a g_y_p4 rfl j).1).trans n_y_p4
  replace n_y_ls : h_749.2.1 y_ls = F_y_ls := (funext fun j => (hs.a g_y_ls rfl j).1).trans n_y_ls
  replace n_m_rl : h_749.2.1 m_rl = F_m_rl := (funext fun j => (hs.a g_m_rl rfl j).1).trans n_m_rl
  replace gx := gx.S hs
  replace gm := gm.S hs
  replace g_qa := g_qa.S hs
  replace g_qp := g_qp.S hs
  replace g_qc := g_qc.S hs
  replace g_qh := g_qh.S hs
  replace g_qw := g_qw.S hs
  replace g_ql := g_ql.S hs
  replace g_mw := g_mw.S hs
  replace g_mr := g_mr.S hs
  replace g_mp := g_mp.S hs
  replace g_mn := g_mn.S hs
  replace g_ml := g_ml.S hs
  replace g_mh := g_mh.S hs
  replace g_mt := g_mt.S hs
  replace g_m_fou := g_m_fou.S hs
  replace g_qo_ln := g_qo_ln.S hs
  replace g_qo_py := g_qo_py.S hs
  replace g_b_of := g_b_of.S hs
  replace g_m_of := g_m_of.S hs
  replace g_b_wf := g_b_wf.S hs
  replace g_m_wf := g_m_wf.S hs
  replace g_b_df := g_b_df.S hs
  replace g_m_df := g_m_df.S hs
  replace g_b_kf := g_b_kf.S hs
  replace g_m_kf := g_m_kf.S hs
  replace g_b_sf := g_b_sf.S hs
  replace g_m_sf := g_m_sf.S hs
  replace g_b_bf := g_b_bf.S hs
  replace g_m_lst := g_m_lst.S hs
  replace g_qtp := g_qtp.S hs
  replace g_m_tp := g_m_tp.S hs
  replace g_m_dead := g_m_dead.S hs
  replace g_m_isj := g_m_isj.S hs
  replace g_m_dox := g_m_dox.S hs
  replace g_m_doy := g_m_doy.S hs
  replace g_qlt := g_qlt.S hs
  replace g_qlf := g_qlf.S hs
  replace g_m_wkd := g_m_wkd.S hs
  replace g_m_aga := g_m_aga.S hs
  replace g_qwo := g_qwo.S hs
  replace g_m_ad := g_m_ad.S hs
  replace g_m_by := g_m_by.S hs
  replace g_m_ho := g_m_ho.S hs
  replace g_m_fc := g_m_fc.S hs
  replace g_m_nt := g_m_nt.S hs
  replace g_m_wt := g_m_wt.S hs
  replace g_m_be := g_m_be.S hs
  replace g_m_bor := g_m_bor.S hs
  replace g_m_kin := g_m_kin.S hs
  replace g_m_sum := g_m_sum.S hs
  replace g_m_fro := g_m_fro.S hs
  replace g_m_fil := g_m_fil.S hs
  replace g_m_jud := g_m_jud.S hs
  replace g_m_ear := g_m_ear.S hs
  replace g_m_hds := g_m_hds.S hs
  replace g_m_ord := g_m_ord.S hs
  replace g_m_wkl := g_m_wkl.S hs
  replace g_m_owd := g_m_owd.S hs
  replace g_m_gds := g_m_gds.S hs
  replace g_m_szd := g_m_szd.S hs
  replace g_m_srv := g_m_srv.S hs
  replace g_y_p0 := g_y_p0.S hs
  replace g_m_p0 := g_m_p0.S hs
  replace g_y_p1 := g_y_p1.S hs
  replace g_m_p1 := g_m_p1.S hs
  replace g_y_p2 := g_y_p2.S hs
  replace g_m_p2 := g_m_p2.S hs
  replace g_y_p3 := g_y_p3.S hs
  replace g_m_p3 := g_m_p3.S hs
  replace g_y_p4 := g_y_p4.S hs
  replace g_m_p4 := g_m_p4.S hs
  replace g_qrg9 := g_qrg9.S hs
  replace g_y_ls := g_y_ls.S hs
  replace g_m_rl := g_m_rl.S hs
  refine lv_pop hx hb dL_law_1191 rfl ?_
  refine lv_goto (tgt := 1379) hx hb dL_law_1192 ?o44 ?_
  case o44 => decide
  refine W.widen (k := CC + 3) (n := SS + 179) ?o45 ?o46 ?_
  case o45 => omega
  case o46 => omega
  refine kk L_748 h_749 H locs ls hW ⟨hT, gx, gm, ⟨f_x_now.trans f_m_now.symm, f_x_personCount.trans f_m_persons.symm, f_x_claimCount.trans f_m_claims.symm, f_x_tapeLength.trans f_m_taped.symm, f_x_actCount.trans f_m_acts.symm, f_x_heardCount.trans f_m_heardMany.symm, hx_ob f_qo_ln (f_o_ln.trans f_m_lines.symm), hx_ob f_qw (f_o_lsd.trans f_m_listed.symm), hx_ob f_qw (f_o_wkm.trans f_m_walkedMany.symm), hx_ob f_qo_py (f_o_py.trans f_m_payments.symm), hx_ob f_qp ?o47, hx_ob f_qc ?o48, (fun b a r hb ha hr => ?o49), (fun b a r hb ha hr => ?o50), (fun b a r hb ha hr => ?o51), (fun b a r hb ha hr => ?o52), (fun b a r hb ha hr => ?o53), (fun b a r hb ha hr => ?o54), (fun w q c hw hq hc => ?o55), (fun w q r hw hq hr => ?o56), (fun w q r hw hq hr => ?o57), (fun c q a hc hq ha => ?o58), (fun q r hq hr => ?o59), (fun q w a b c d e p hq hw ha hb hc hd he hp => ?o60), (fun c q a hc hq ha => ?o61), (fun q c a hq hc ha => ?o62), (fun a b ha hb => ?o63), (fun c a b d e f hc ha hb hd he hf => ?o64), (fun c a hc ha => ?o65), hx_ob2 f_qp f_m_bor (cl_bor.trans n_bor.symm), hx_ob2 f_qp f_m_kin (cl_kin.trans n_kin.symm), hx_ob2 f_qc f_m_sum (cl_sum.trans n_sum.symm), hx_ob2 f_qc f_m_fro (cl_fro.trans n_fro.symm), hx_ob2 f_qc f_m_fil (cl_fil.trans n_fil.symm), hx_ob2 f_qc f_mh (cl_hea.trans n_mh.symm), hx_ob2 f_qc f_m_jud (cl_jud.trans n_jud.symm), hx_ob2 f_qp f_m_ear (cl_ear.trans n_ear.symm), hx_ob2 f_qp f_m_hds (cl_hds.trans n_hds.symm), hx_ob2 f_qc f_m_ord (cl_ord.trans n_ord.symm), hx_ob2 f_qc f_m_wkl (cl_wkl.trans n_wkl.symm), hx_ob2 f_qc f_m_owd (cl_owd.trans n_owd.symm), hx_ob2 f_qc f_m_gds (cl_gds.trans n_gds.symm), hx_ob2 f_qc f_m_szd (cl_szd.trans n_szd.symm), hx_ob2 f_qc f_m_srv (cl_srv.trans n_srv.symm), (fun p q r hp hq hr => ?o66), (fun p q r hp hq hr => ?o67), (fun p q r hp hq hr => ?o68), (fun p q r hp hq hr => ?o69), (fun p q r hp hq hr => ?o70), (fun p hp => ?o71), (fun p q r hp hq hr => ?o72), hx_ob2 f_qp f_m_dead ?o73, hx_ob2 f_qp f_m_isj ?o74, hx_ob2 f_qp f_m_dox ?o75, hx_ob2 f_qp f_m_doy ?o76, hx_ob2 f_qc f_m_fou ?o77, hx_ob2 f_qc f_mt ?o78, trivial⟩, ⟨hx_ob f_qa pf_qa, hx_ob f_qp pf_qp, hx_ob f_qc pf_qc, hx_ob f_qh pf_qh, (fun w q hw hq => ?o79)⟩, ⟨hx_ob f_mw ?o80, hx_ob f_mr ?o81, hx_ob2 f_mp f_mn ?o82, hx_ob f_ml ?o83, hx_ob f_mh ?o84, hx_ob f_mt ?o85, hx_ob2 f_mh f_m_fou ?o87⟩⟩ hl
  case o47 =>
    rw [f_x_personCount]
    exact nu_qp
  case o48 =>
    rw [f_x_claimCount]
    exact nu_qc
  case o49 =>
    obtain rfl : qo_ln = b := Option.some.inj (f_qo_ln.symm.trans hb)
    obtain rfl : b_of = a := Option.some.inj (f_b_of.symm.trans ha)
    obtain rfl : m_of = r := Option.some.inj (f_m_of.symm.trans hr)
    rw [n_b_of, n_m_of, f_o_ln]
    exact eb_of
  case o50 =>
    obtain rfl : qo_ln = b := Option.some.inj (f_qo_ln.symm.trans hb)
    obtain rfl : b_wf = a := Option.some.inj (f_b_wf.symm.trans ha)
    obtain rfl : m_wf = r := Option.some.inj (f_m_wf.symm.trans hr)
    rw [n_b_wf, n_m_wf, f_o_ln]
    exact eb_wf
  case o51 =>
    obtain rfl : qo_ln = b := Option.some.inj (f_qo_ln.symm.trans hb)
    obtain rfl : b_df = a := Option.some.inj (f_b_df.symm.trans ha)
    obtain rfl : m_df = r := Option.some.inj (f_m_df.symm.trans hr)
    rw [n_b_df, n_m_df, f_o_ln]
    exact eb_df
  case o52 =>
    obtain rfl : qo_ln = b := Option.some.inj (f_qo_ln.symm.trans hb)
    obtain rfl : b_kf = a := Option.some.inj (f_b_kf.symm.trans ha)
    obtain rfl : m_kf = r := Option.some.inj (f_m_kf.symm.trans hr)
    rw [n_b_kf, n_m_kf, f_o_ln]
    exact eb_kf
  case o53 =>
    obtain rfl : qo_ln = b := Option.some.inj (f_qo_ln.symm.trans hb)
    obtain rfl : b_sf = a := Option.some.inj (f_b_sf.symm.trans ha)
    obtain rfl : m_sf = r := Option.some.inj (f_m_sf.symm.trans hr)
    rw [n_b_sf, n_m_sf, f_o_ln]
    exact eb_sf
  case o54 =>
    obtain rfl : qo_ln = b := Option.some.inj (f_qo_ln.symm.trans hb)
    obtain rfl : b_df = a := Option.some.inj (f_b_df.symm.trans ha)
    obtain rfl : b_bf = r := Option.some.inj (f_b_bf.symm.trans hr)
    rw [n_b_df, n_b_bf, f_o_ln]
    exact ⟨hBD, hDY⟩
  case o55 =>
    obtain rfl : qw = w := Option.some.inj (f_qw.symm.trans hw)
    obtain rfl : ql = q := Option.some.inj (f_ql.symm.trans hq)
    obtain rfl : qc = c := Option.some.inj (f_qc.symm.trans hc)
    exact sb_list
  case o56 =>
    obtain rfl : qw = w := Option.some.inj (f_qw.symm.trans hw)
    obtain rfl : ql = q := Option.some.inj (f_ql.symm.trans hq)
    obtain rfl : m_lst = r := Option.some.inj (f_m_lst.symm.trans hr)
    rw [cl_lst, n_lst]
    exact eq_lst
  case o57 =>
    obtain rfl : qw = w := Option.some.inj (f_qw.symm.trans hw)
    obtain rfl : qlt = q := Option.some.inj (f_qlt.symm.trans hq)
    obtain rfl : m_wkd = r := Option.some.inj (f_m_wkd.symm.trans hr)
    rw [n_qlt, n_m_wkd, f_o_wkm]
    exact eb_wkd
  case o58 =>
    obtain rfl : qc = c := Option.some.inj (f_qc.symm.trans hc)
    obtain rfl : qp = q := Option.some.inj (f_qp.symm.trans hq)
    obtain rfl : m_aga = a := Option.some.inj (f_m_aga.symm.trans ha)
    rw [n_aga, f_x_claimCount]
    exact hw_DF_e hDF rfl rfl
  case o59 =>
    obtain rfl : qtp = q := Option.some.inj (f_qtp.symm.trans hq)
    obtain rfl : m_tp = r := Option.some.inj (f_m_tp.symm.trans hr)
    exact n_qtp.trans n_tp.symm
  case o60 =>
    obtain rfl : qa = q := Option.some.inj (f_qa.symm.trans hq)
    obtain rfl : qwo = w := Option.some.inj (f_qwo.symm.trans hw)
    obtain rfl : m_ad = a := Option.some.inj (f_m_ad.symm.trans ha)
    obtain rfl : mr = b := Option.some.inj (f_mr.symm.trans hb)
    obtain rfl : mn = c := Option.some.inj (f_mn.symm.trans hc)
    obtain rfl : mp = d := Option.some.inj (f_mp.symm.trans hd)
    obtain rfl : qc = e := Option.some.inj (f_qc.symm.trans he)
    obtain rfl : ml = p := Option.some.inj (f_ml.symm.trans hp)
    exact ⟨_, by rw [f_x_actCount]; exact hRA9, by rw [f_x_actCount, n_ad, n_mr, n_mn, n_mp]; exact hCA9, by rw [n_ml, f_x_claimCount]; exact hv_AC_e hAC9 rfl rfl rfl, hAB⟩
  case o61 =>
    obtain rfl : qc = c := Option.some.inj (f_qc.symm.trans hc)
    obtain rfl : qp = q := Option.some.inj (f_qp.symm.trans hq)
    obtain rfl : m_by = a := Option.some.inj (f_m_by.symm.trans ha)
    rw [n_by, f_x_claimCount]
    exact hw_DF_e hDP rfl rfl
  case o62 =>
    obtain rfl : qh = q := Option.some.inj (f_qh.symm.trans hq)
    obtain rfl : qc = c := Option.some.inj (f_qc.symm.trans hc)
    obtain rfl : m_ho = a := Option.some.inj (f_m_ho.symm.trans ha)
    rw [n_ho, f_x_heardCount, f_x_claimCount]
    exact hv_HL_e hHL rfl rfl rfl
  case o63 =>
    obtain rfl : m_ho = a := Option.some.inj (f_m_ho.symm.trans ha)
    obtain rfl : mh = b := Option.some.inj (f_mh.symm.trans hb)
    rw [n_ho, n_mh, f_m_heardMany, f_m_claims]
    exact hHO9
  case o64 =>
    obtain rfl : qc = c := Option.some.inj (f_qc.symm.trans hc)
    obtain rfl : m_fc = a := Option.some.inj (f_m_fc.symm.trans ha)
    obtain rfl : m_nt = b := Option.some.inj (f_m_nt.symm.trans hb)
    obtain rfl : m_wt = d := Option.some.inj (f_m_wt.symm.trans hd)
    obtain rfl : m_sum = e := Option.some.inj (f_m_sum.symm.trans he)
    obtain rfl : mh = f := Option.some.inj (f_mh.symm.trans hf)
    exact ⟨cF9L, by rw [f_x_claimCount]; exact hFX, by rw [n_fc, n_nt, n_wt, n_sum, n_mh, f_x_claimCount]; exact hFR9⟩
  case o65 =>
    obtain rfl : qc = c := Option.some.inj (f_qc.symm.trans hc)
    obtain rfl : m_be = a := Option.some.inj (f_m_be.symm.trans ha)
    rw [n_be, f_x_claimCount]
    exact hv_FX_e hBX rfl rfl
  case o66 =>
    obtain rfl : qo_py = p := Option.some.inj (f_qo_py.symm.trans hp)
    obtain rfl : y_p0 = q := Option.some.inj (f_y_p0.symm.trans hq)
    obtain rfl : m_p0 = r := Option.some.inj (f_m_p0.symm.trans hr)
    exact n_y_p0.trans n_p0.symm
  case o67 =>
    obtain rfl : qo_py = p := Option.some.inj (f_qo_py.symm.trans hp)
    obtain rfl : y_p1 = q := Option.some.inj (f_y_p1.symm.trans hq)
    obtain rfl : m_p1 = r := Option.some.inj (f_m_p1.symm.trans hr)
    exact n_y_p1.trans n_p1.symm
  case o68 =>
    obtain rfl : qo_py = p := Option.some.inj (f_qo_py.symm.trans hp)
    obtain rfl : y_p2 = q := Option.some.inj (f_y_p2.symm.trans hq)
    obtain rfl : m_p2 = r := Option.some.inj (f_m_p2.symm.trans hr)
    exact n_y_p2.trans n_p2.symm
  case o69 =>
    obtain rfl : qo_py = p := Option.some.inj (f_qo_py.symm.trans hp)
    obtain rfl : y_p3 = q := Option.some.inj (f_y_p3.symm.trans hq)
    obtain rfl : m_p3 = r := Option.some.inj (f_m_p3.symm.trans hr)
    exact n_y_p3.trans n_p3.symm
  case o70 =>
    obtain rfl : qo_py = p := Option.some.inj (f_qo_py.symm.trans hp)
    obtain rfl : y_p4 = q := Option.some.inj (f_y_p4.symm.trans hq)
    obtain rfl : m_p4 = r := Option.some.inj (f_m_p4.symm.trans hr)
    exact n_y_p4.trans n_p4.symm
  case o71 =>
    obtain rfl : qrg9 = p := Option.some.inj (f_qrg9.symm.trans hp)
    rw [ffv_731, ffv_732, ffv_733]
    exact hNQ9
  case o72 =>
    obtain rfl : qrg9 = p := Option.some.inj (f_qrg9.symm.trans hp)
    obtain rfl : y_ls = q := Option.some.inj (f_y_ls.symm.trans hq)
    obtain rfl : m_rl = r := Option.some.inj (f_m_rl.symm.trans hr)
    rw [n_y_ls, n_m_rl, ffv_731]
    exact hRL9
  case o73 =>
    rw [cl_dead, n_dead]
    exact eq_dead
  case o74 =>
    rw [cl_isj, n_isj]
    exact eq_isj
  case o75 =>
    rw [cl_dox, n_dox]
    exact eq_dox
  case o76 =>
    rw [cl_doy, n_doy]
    exact eq_doy
  case o77 =>
    rw [cl_fou, n_m_fou]
    exact eq_fou
  case o78 =>
    rw [cl_tri, n_mt]
    exact eq_tri
  case o79 =>
    obtain rfl : qw = w := Option.some.inj (f_qw.symm.trans hw)
    obtain rfl : ql = q := Option.some.inj (f_ql.symm.trans hq)
    exact pf_ql
  case o80 =>
    rw [n_mw]
    exact hwd
  case o81 =>
    rw [n_mr, f_m_acts]
    exact hWK
  case o82 =>
    rw [n_mp, n_mn, f_m_acts]
    exact hRP
  case o83 =>
    rw [n_ml, f_m_claims, f_m_acts]
    exact hPL
  case o84 =>
    rw [n_mh, f_m_heardMany, f_m_claims]
    exact hHC
  case o85 =>
    rw [n_mt]
    refine (hx_TR_le hTR ?o86)
    case o86 => omega
  case o87 =>
    rw [n_mh, n_m_fou, f_m_claims]
    exact hHF

set_option maxHeartbeats 4000000 in
set_option maxRecDepth 100000 in
theorem law_case_23 {p : Program} {e : Env} {s : State} {m : MethodId} {below : List Frame} {meth : Method} {c : Code} (l : Launch) {b LN : Nat} {xs : Nat → Int32} (hx : p.tables.exec = Jvm.exec) (hb : c.code = code) (hr : meth.sig.returnType = ret) (hlocks : meth.locks = false) (hml : c.maxLocals = 4) (hown : s.vm.findClass "SmallCourtLaw" = some m.cls) (hts : ∀ w ∈ hx_all, w.before #[Value.ref b] s = true) (hX : va_X b LN xs s s.heap) (hbl : b < s.heap.size) (hbA : ¬ s.heap.size ≤ b) (hLN : LN ≤ 3584) (dC : Nat → ClassId) (dI : Nat → Nat → Nat) (dA : Nat → ClassId) (b0 : hx_z) (ax am : Nat) (T1 : Int) (hT0 : 0 ≤ T1) (hT1 : T1 ≤ 511) (i : Int32) (hi0 : 0 ≤ i.toInt) (hiL : i.toInt + 7 ≤ LN) (CC SS : Nat) (hCC : CC + 3 ≤ 600000) (hSS : SS + 179 ≤ 7302250) (L1 : List Nat) (hl1 : hx_h) (H : Heap) (locs : List Loc) (ls : Array Slot) (hW : hx_W T_tb (P_ty dA) (dC, dI) vwCl (fun q : Nat => s.heap.size ≤ q) s.heap L1 hl1 s H locs) (hZ : hx_Xt (fun q : Nat => s.heap.size ≤ q) b0 s) (hI : hx_IV T1 ax am L1 hl1) (hl : lv_has ls 4 [(3, .int i), (2, .ref am), (1, .ref ax), (0, .ref b)]) (kk : ∀ (L2 : List Nat) (h2 : hx_h) (H2 : Heap) (locs2 : List Loc) (ls2 : Array Slot), hx_W T_tb (P_ty dA) (dC, dI) vwCl (fun q : Nat => s.heap.size ≤ q) s.heap L2 h2 s H2 locs2 → hx_IV (T1 + 1) ax am L2 h2 → lv_has ls2 4 [(3, .int i), (2, .ref am), (1, .ref ax), (0, .ref b)] → W p l e room_1 s m #[Value.ref b] below meth c H2 locs2 (CC + 3) (SS + 179) (lw_Z below #[Value.ref b] s) (F0 m 1379 ls2 [])) : W p l e room_1 s m #[Value.ref b] below meth c H locs CC SS (lw_Z below #[Value.ref b] s) (F0 m 1195 ls []) := by
  have hI9 := hI
  have hT := hI9.1
  replace hI9 := hI9.2
  have gx := hI9.1
  replace hI9 := hI9.2
  have gm := hI9.1
  replace hI9 := hI9.2
  have zq0_3 := hI9.1
  have he_nw := zq0_3.1
  replace zq0_3 := zq0_3.2
  have he_np := zq0_3.1
  replace zq0_3 := zq0_3.2
  have he_c0 := zq0_3.1
  replace zq0_3 := zq0_3.2
  have he_tl := zq0_3.1
  replace zq0_3 := zq0_3.2
  have he_a0 := zq0_3.1
  replace zq0_3 := zq0_3.2
  have he_m0 := zq0_3.1
  replace zq0_3 := zq0_3.2
  have ho_ln := zq0_3.1
  replace zq0_3 := zq0_3.2
  have ho_lsd := zq0_3.1
  replace zq0_3 := zq0_3.2
  have ho_wkm := zq0_3.1
  replace zq0_3 := zq0_3.2
  have ho_py := zq0_3.1
  replace zq0_3 := zq0_3.2
  have hn_qp := zq0_3.1
  replace zq0_3 := zq0_3.2
  have hn_qc := zq0_3.1
  replace zq0_3 := zq0_3.2
  have hk_of := zq0_3.1
  replace zq0_3 := zq0_3.2
  have hk_wf := zq0_3.1
  replace zq0_3 := zq0_3.2
  have hk_df := zq0_3.1
  replace zq0_3 := zq0_3.2
  have hk_kf := zq0_3.1
  replace zq0_3 := zq0_3.2
  have hk_sf := zq0_3.1
  replace zq0_3 := zq0_3.2
  have hkBD := zq0_3.1
  replace zq0_3 := zq0_3.2
  have hLQ := zq0_3.1
  replace zq0_3 := zq0_3.2
  have hLE := zq0_3.1
  replace zq0_3 := zq0_3.2
  have hkWD := zq0_3.1
  replace zq0_3 := zq0_3.2
  have hkDF := zq0_3.1
  replace zq0_3 := zq0_3.2
  have hkTP := zq0_3.1
  replace zq0_3 := zq0_3.2
  have hkAC := zq0_3.1
  replace zq0_3 := zq0_3.2
  have hkDP := zq0_3.1
  replace zq0_3 := zq0_3.2
  have hkHL := zq0_3.1
  replace zq0_3 := zq0_3.2
  have hkHO := zq0_3.1
  replace zq0_3 := zq0_3.2
  have hkFX := zq0_3.1
  replace zq0_3 := zq0_3.2
  have hkBX := zq0_3.1
  replace zq0_3 := zq0_3.2
  have hf_bor := zq0_3.1
  replace zq0_3 := zq0_3.2
  have hf_kin := zq0_3.1
  replace zq0_3 := zq0_3.2
  have hf_sum := zq0_3.1
  replace zq0_3 := zq0_3.2
  have hf_fro := zq0_3.1
  replace zq0_3 := zq0_3.2
  have hf_fil := zq0_3.1
  replace zq0_3 := zq0_3.2
  have hf_hea := zq0_3.1
  replace zq0_3 := zq0_3.2
  have hf_jud := zq0_3.1
  replace zq0_3 := zq0_3.2
  have hf_ear := zq0_3.1
  replace zq0_3 := zq0_3.2
  have hf_hds := zq0_3.1
  replace zq0_3 := zq0_3.2
  have hf_ord := zq0_3.1
  replace zq0_3 := zq0_3.2
  have hf_wkl := zq0_3.1
  replace zq0_3 := zq0_3.2
  have hf_owd := zq0_3.1
  replace zq0_3 := zq0_3.2
  have hf_gds := zq0_3.1
  replace zq0_3 := zq0_3.2
  have hf_szd := zq0_3.1
  replace zq0_3 := zq0_3.2
  have hf_srv := zq0_3.1
  replace zq0_3 := zq0_3.2
  have hkP0 := zq0_3.1
  replace zq0_3 := zq0_3.2
  have hkP1 := zq0_3.1
  replace zq0_3 := zq0_3.2
  have hkP2 := zq0_3.1
  replace zq0_3 := zq0_3.2
  have hkP3 := zq0_3.1
  replace zq0_3 := zq0_3.2
  have hkP4 := zq0_3.1
  replace zq0_3 := zq0_3.2
  have hkNQ := zq0_3.1
  replace zq0_3 := zq0_3.2
  have hkRL := zq0_3.1
  replace zq0_3 := zq0_3.2
  have hc_dead := zq0_3.1
  replace zq0_3 := zq0_3.2
  have hc_isj := zq0_3.1
  replace zq0_3 := zq0_3.2
  have hc_dox := zq0_3.1
  replace zq0_3 := zq0_3.2
  have hc_doy := zq0_3.1
  replace zq0_3 := zq0_3.2
  have hc_fou := zq0_3.1
  replace zq0_3 := zq0_3.2
  have hc_tri := zq0_3.1
  replace zq0_3 := zq0_3.2
  replace hI9 := hI9.2
  have zq0_4 := hI9.1
  have ia := zq0_4.1
  replace zq0_4 := zq0_4.2
  have ip := zq0_4.1
  replace zq0_4 := zq0_4.2
  have ic := zq0_4.1
  replace zq0_4 := zq0_4.2
  have ih := zq0_4.1
  replace zq0_4 := zq0_4.2
  have il := zq0_4
  replace hI9 := hI9.2
  have zq0_5 := hI9
  have jw := zq0_5.1
  replace zq0_5 := zq0_5.2
  have jr := zq0_5.1
  replace zq0_5 := zq0_5.2
  have jp := zq0_5.1
  replace zq0_5 := zq0_5.2
  have jl := zq0_5.1
  replace zq0_5 := zq0_5.2
  have jh := zq0_5.1
  replace zq0_5 := zq0_5.2
  have jt := zq0_5.1
  replace zq0_5 := zq0_5.2
  have jf := zq0_5
  obtain ⟨qa, f_qa, g_qa⟩ := hx_rf hT gx tt_9 (k := 5) (u := 43) rfl
  have pf_qa := ia qa f_qa
  obtain ⟨qp, f_qp, g_qp⟩ := hx_rf hT gx tt_9 (k := 7) (u := 44) rfl
  have pf_qp := ip qp f_qp
  obtain ⟨qc, f_qc, g_qc⟩ := hx_rf hT gx tt_9 (k := 10) (u := 45) rfl
  have pf_qc := ic qc f_qc
  obtain ⟨qh, f_qh, g_qh⟩ := hx_rf hT gx tt_9 (k := 12) (u := 46) rfl
  have pf_qh := ih qh f_qh
  obtain ⟨qw, f_qw, g_qw⟩ := hx_rf hT gx tt_9 (k := 19) (u := 8) rfl
  obtain ⟨ql, f_ql, g_ql⟩ := hx_rf hT g_qw tt_8 (k := 3) (u := 40) rfl
  have pf_ql := il qw ql f_qw f_ql
  obtain ⟨nw, f_m_now⟩ : ∃ y : Int32, hl1.2.1 am 0 = y := ⟨_, rfl⟩
  have b_nw := hT.gi gm tt_10 (k := 0) rfl
  rw [f_m_now] at b_nw
  have b_nw : 0 ≤ nw.toInt ∧ nw.toInt ≤ 7999 := b_nw
  obtain ⟨np, f_m_persons⟩ : ∃ y : Int32, hl1.2.1 am 20 = y := ⟨_, rfl⟩
  have b_np := hT.gi gm tt_10 (k := 20) rfl
  rw [f_m_persons] at b_np
  have b_np : 0 ≤ np.toInt ∧ np.toInt ≤ 40 := b_np
  obtain ⟨c0, f_m_claims⟩ : ∃ y : Int32, hl1.2.1 am 36 = y := ⟨_, rfl⟩
  have b_c0 := hT.gi gm tt_10 (k := 36) rfl
  rw [f_m_claims] at b_c0
  have b_c0 : 0 ≤ c0.toInt ∧ c0.toInt ≤ 100 := b_c0
  obtain ⟨tl, f_m_taped⟩ : ∃ y : Int32, hl1.2.1 am 7 = y := ⟨_, rfl⟩
  have b_tl := hT.gi gm tt_10 (k := 7) rfl
  rw [f_m_taped] at b_tl
  have b_tl : 0 ≤ tl.toInt ∧ tl.toInt ≤ 400 := b_tl
  obtain ⟨a0, f_m_acts⟩ : ∃ y : Int32, hl1.2.1 am 1 = y := ⟨_, rfl⟩
  have b_a0 := hT.gi gm tt_10 (k := 1) rfl
  rw [f_m_acts] at b_a0
  have b_a0 : 0 ≤ a0.toInt ∧ a0.toInt ≤ 8 := b_a0
  obtain ⟨m0, f_m_heardMany⟩ : ∃ y : Int32, hl1.2.1 am 57 = y := ⟨_, rfl⟩
  have b_m0 := hT.gi gm tt_10 (k := 57) rfl
  rw [f_m_heardMany] at b_m0
  have b_m0 : 0 ≤ m0.toInt ∧ m0.toInt ≤ 100 := b_m0
  obtain ⟨ln, f_m_lines⟩ : ∃ y : Int32, hl1.2.1 am 29 = y := ⟨_, rfl⟩
  have b_ln := hT.gi gm tt_10 (k := 29) rfl
  rw [f_m_lines] at b_ln
  have b_ln : 0 ≤ ln.toInt ∧ ln.toInt ≤ 400 := b_ln
  obtain ⟨lsd, f_m_listed⟩ : ∃ y : Int32, hl1.2.1 am 90 = y := ⟨_, rfl⟩
  have b_lsd := hT.gi gm tt_10 (k := 90) rfl
  rw [f_m_listed] at b_lsd
  have b_lsd : 0 ≤ lsd.toInt ∧ lsd.toInt ≤ 8 := b_lsd
  obtain ⟨wkm, f_m_walkedMany⟩ : ∃ y : Int32, hl1.2.1 am 92 = y := ⟨_, rfl⟩
  have b_wkm := hT.gi gm tt_10 (k := 92) rfl
  rw [f_m_walkedMany] at b_wkm
  have b_wkm : 0 ≤ wkm.toInt ∧ wkm.toInt ≤ 8 := b_wkm
  obtain ⟨py, f_m_payments⟩ : ∃ y : Int32, hl1.2.1 am 59 = y := ⟨_, rfl⟩
  have b_py := hT.gi gm tt_10 (k := 59) rfl
  rw [f_m_payments] at b_py
  have b_py : 0 ≤ py.toInt ∧ py.toInt ≤ 600 := b_py
  have f_x_now : hl1.2.1 ax 2 = nw := he_nw.trans f_m_now
  have f_x_personCount : hl1.2.1 ax 8 = np := he_np.trans f_m_persons
  have f_x_claimCount : hl1.2.1 ax 11 = c0 := he_c0.trans f_m_claims
  have f_x_tapeLength : hl1.2.1 ax 1 = tl := he_tl.trans f_m_taped
  have f_x_actCount : hl1.2.1 ax 6 = a0 := he_a0.trans f_m_acts
  have f_x_heardCount : hl1.2.1 ax 13 = m0 := he_m0.trans f_m_heardMany
  obtain ⟨mw, f_mw, g_mw⟩ := hx_rf hT gm tt_10 (k := 19) (u := 57) rfl
  obtain ⟨F_mw, n_mw⟩ : ∃ g : Nat → Int32, hl1.2.1 mw = g := ⟨_, rfl⟩
  obtain ⟨mr, f_mr, g_mr⟩ := hx_rf hT gm tt_10 (k := 3) (u := 50) rfl
  obtain ⟨F_mr, n_mr⟩ : ∃ g : Nat → Int32, hl1.2.1 mr = g := ⟨_, rfl⟩
  obtain ⟨mp, f_mp, g_mp⟩ := hx_rf hT gm tt_10 (k := 5) (u := 52) rfl
  obtain ⟨F_mp, n_mp⟩ : ∃ g : Nat → Int32, hl1.2.1 mp = g := ⟨_, rfl⟩
  obtain ⟨mn, f_mn, g_mn⟩ := hx_rf hT gm tt_10 (k := 4) (u := 51) rfl
  obtain ⟨F_mn, n_mn⟩ : ∃ g : Nat → Int32, hl1.2.1 mn = g := ⟨_, rfl⟩
  obtain ⟨ml, f_ml, g_ml⟩ := hx_rf hT gm tt_10 (k := 44) (u := 79) rfl
  obtain ⟨F_ml, n_ml⟩ : ∃ g : Nat → Int32, hl1.2.1 ml = g := ⟨_, rfl⟩
  obtain ⟨mh, f_mh, g_mh⟩ := hx_rf hT gm tt_10 (k := 47) (u := 82) rfl
  obtain ⟨F_mh, n_mh⟩ : ∃ g : Nat → Int32, hl1.2.1 mh = g := ⟨_, rfl⟩
  obtain ⟨mt, f_mt, g_mt⟩ := hx_rf hT gm tt_10 (k := 45) (u := 80) rfl
  obtain ⟨F_mt, n_mt⟩ : ∃ g : Nat → Int32, hl1.2.1 mt = g := ⟨_, rfl⟩
  obtain ⟨m_fou, f_m_fou, g_m_fou⟩ := hx_rf hT gm tt_10 (k := 46) (u := 81) rfl
  obtain ⟨F_m_fou, n_m_fou⟩ : ∃ g : Nat → Int32, hl1.2.1 m_fou = g := ⟨_, rfl⟩
  obtain ⟨qo_ln, f_qo_ln, g_qo_ln⟩ := hx_rf hT gx tt_9 (k := 9) (u := 1) rfl
  have f_o_ln : hl1.2.1 qo_ln 0 = ln := (ho_ln qo_ln f_qo_ln).trans f_m_lines
  have f_o_lsd : hl1.2.1 qw 0 = lsd := (ho_lsd qw f_qw).trans f_m_listed
  have f_o_wkm : hl1.2.1 qw 1 = wkm := (ho_wkm qw f_qw).trans f_m_walkedMany
  obtain ⟨qo_py, f_qo_py, g_qo_py⟩ := hx_rf hT gx tt_9 (k := 14) (u := 3) rfl
  have f_o_py : hl1.2.1 qo_py 0 = py := (ho_py qo_py f_qo_py).trans f_m_payments
  have nu_qp := hn_qp qp f_qp; rw [f_x_personCount] at nu_qp
  have nu_qc := hn_qc qc f_qc; rw [f_x_claimCount] at nu_qc
  obtain ⟨b_of, f_b_of, g_b_of⟩ := hx_rf hT g_qo_ln tt_1 (k := 1) (u := 13) rfl
  obtain ⟨B_of, n_b_of⟩ : ∃ g : Nat → Int32, hl1.2.1 b_of = g := ⟨_, rfl⟩
  obtain ⟨m_of, f_m_of, g_m_of⟩ := hx_rf hT gm tt_10 (k := 30) (u := 66) rfl
  obtain ⟨F_of, n_m_of⟩ : ∃ g : Nat → Int32, hl1.2.1 m_of = g := ⟨_, rfl⟩
  have eb_of := hk_of qo_ln b_of m_of f_qo_ln f_b_of f_m_of; rw [n_b_of, n_m_of, f_o_ln] at eb_of
  obtain ⟨b_wf, f_b_wf, g_b_wf⟩ := hx_rf hT g_qo_ln tt_1 (k := 2) (u := 14) rfl
  obtain ⟨B_wf, n_b_wf⟩ : ∃ g : Nat → Int32, hl1.2.1 b_wf = g := ⟨_, rfl⟩
  obtain ⟨m_wf, f_m_wf, g_m_wf⟩ := hx_rf hT gm tt_10 (k := 31) (u := 67) rfl
  obtain ⟨F_wf, n_m_wf⟩ : ∃ g : Nat → Int32, hl1.2.1 m_wf = g := ⟨_, rfl⟩
  have eb_wf := hk_wf qo_ln b_wf m_wf f_qo_ln f_b_wf f_m_wf; rw [n_b_wf, n_m_wf, f_o_ln] at eb_wf
  obtain ⟨b_df, f_b_df, g_b_df⟩ := hx_rf hT g_qo_ln tt_1 (k := 3) (u := 15) rfl
  obtain ⟨B_df, n_b_df⟩ : ∃ g : Nat → Int32, hl1.2.1 b_df = g := ⟨_, rfl⟩
  obtain ⟨m_df, f_m_df, g_m_df⟩ := hx_rf hT gm tt_10 (k := 32) (u := 68) rfl
  obtain ⟨F_df, n_m_df⟩ : ∃ g : Nat → Int32, hl1.2.1 m_df = g := ⟨_, rfl⟩
  have eb_df := hk_df qo_ln b_df m_df f_qo_ln f_b_df f_m_df; rw [n_b_df, n_m_df, f_o_ln] at eb_df
  obtain ⟨b_kf, f_b_kf, g_b_kf⟩ := hx_rf hT g_qo_ln tt_1 (k := 4) (u := 16) rfl
  obtain ⟨B_kf, n_b_kf⟩ : ∃ g : Nat → Int32, hl1.2.1 b_kf = g := ⟨_, rfl⟩
  obtain ⟨m_kf, f_m_kf, g_m_kf⟩ := hx_rf hT gm tt_10 (k := 33) (u := 69) rfl
  obtain ⟨F_kf, n_m_kf⟩ : ∃ g : Nat → Int32, hl1.2.1 m_kf = g := ⟨_, rfl⟩
  have eb_kf := hk_kf qo_ln b_kf m_kf f_qo_ln f_b_kf f_m_kf; rw [n_b_kf, n_m_kf, f_o_ln] at eb_kf
  obtain ⟨b_sf, f_b_sf, g_b_sf⟩ := hx_rf hT g_qo_ln tt_1 (k := 5) (u := 17) rfl
  obtain ⟨B_sf, n_b_sf⟩ : ∃ g : Nat → Int32, hl1.2.1 b_sf = g := ⟨_, rfl⟩
  obtain ⟨m_sf, f_m_sf, g_m_sf⟩ := hx_rf hT gm tt_10 (k := 34) (u := 70) rfl
  obtain ⟨F_sf, n_m_sf⟩ : ∃ g : Nat → Int32, hl1.2.1 m_sf = g := ⟨_, rfl⟩
  have eb_sf := hk_sf qo_ln b_sf m_sf f_qo_ln f_b_sf f_m_sf; rw [n_b_sf, n_m_sf, f_o_ln] at eb_sf
  obtain ⟨b_bf, f_b_bf, g_b_bf⟩ := hx_rf hT g_qo_ln tt_1 (k := 6) (u := 18) rfl
  obtain ⟨bfL, n_b_bf⟩ : ∃ g : Nat → Int32, hl1.2.1 b_bf = g := ⟨_, rfl⟩
  obtain ⟨hBD, hDY⟩ := hkBD qo_ln b_df b_bf f_qo_ln f_b_df f_b_bf; rw [n_b_df, n_b_bf, f_o_ln] at hBD; rw [n_b_df, f_o_ln] at hDY
  have hBDm := hy_BD_c eb_df hBD
  have hDYm : hy_DY F_df ln.toInt.toNat := fun x hx => by rw [← eb_df x hx]; exact hDY x hx
  have sb_list := hLQ qw ql qc f_qw f_ql f_qc
  obtain ⟨m_lst, f_m_lst, g_m_lst⟩ := hx_rf hT gm tt_10 (k := 91) (u := 112) rfl
  obtain ⟨F_lst, n_lst⟩ : ∃ g : Nat → Int32, hl1.2.1 m_lst = g := ⟨_, rfl⟩
  obtain ⟨c_lst, cl_lst⟩ : ∃ g : Nat → Int32, hx_col 8 hl1 ql 0 = g := ⟨_, rfl⟩
  have eq_lst := hLE qw ql m_lst f_qw f_ql f_m_lst; rw [cl_lst, n_lst] at eq_lst
  obtain ⟨qtp, f_qtp, g_qtp⟩ := hx_rf hT gx tt_9 (k := 0) (u := 42) rfl
  obtain ⟨m_tp, f_m_tp, g_m_tp⟩ := hx_rf hT gm tt_10 (k := 6) (u := 53) rfl
  obtain ⟨F_tp, n_tp⟩ : ∃ g : Nat → Int32, hl1.2.1 m_tp = g := ⟨_, rfl⟩
  have n_qtp : hl1.2.1 qtp = F_tp := (hkTP qtp m_tp f_qtp f_m_tp).trans n_tp
  obtain ⟨c_dead, cl_dead⟩ : ∃ g : Nat → Int32, hx_col 40 hl1 qp 7 = g := ⟨_, rfl⟩
  obtain ⟨m_dead, f_m_dead, g_m_dead⟩ := hx_rf hT gm tt_10 (k := 27) (u := 64) rfl
  obtain ⟨F_dead, n_dead⟩ : ∃ g : Nat → Int32, hl1.2.1 m_dead = g := ⟨_, rfl⟩
  have eq_dead := hc_dead qp m_dead f_qp f_m_dead; rw [cl_dead, n_dead] at eq_dead
  have z_dead : np.toInt.toNat < 40 → c_dead np.toInt.toNat = 0 := fun hj => hx_num_z nu_qp cl_dead hj ?o0
  case o0 => omega
  obtain ⟨c_isj, cl_isj⟩ : ∃ g : Nat → Int32, hx_col 40 hl1 qp 8 = g := ⟨_, rfl⟩
  obtain ⟨m_isj, f_m_isj, g_m_isj⟩ := hx_rf hT gm tt_10 (k := 28) (u := 65) rfl
  obtain ⟨F_isj, n_isj⟩ : ∃ g : Nat → Int32, hl1.2.1 m_isj = g := ⟨_, rfl⟩
  have eq_isj := hc_isj qp m_isj f_qp f_m_isj; rw [cl_isj, n_isj] at eq_isj
  have z_isj : np.toInt.toNat < 40 → c_isj np.toInt.toNat = 0 := fun hj => hx_num_z nu_qp cl_isj hj ?o1
  case o1 => omega
  obtain ⟨c_dox, cl_dox⟩ : ∃ g : Nat → Int32, hx_col 40 hl1 qp 5 = g := ⟨_, rfl⟩
  obtain ⟨m_dox, f_m_dox, g_m_dox⟩ := hx_rf hT gm tt_10 (k := 24) (u := 61) rfl
  obtain ⟨F_dox, n_dox⟩ : ∃ g : Nat → Int32, hl1.2.1 m_dox = g := ⟨_, rfl⟩
  have eq_dox := hc_dox qp m_dox f_qp f_m_dox; rw [cl_dox, n_dox] at eq_dox
  have z_dox : np.toInt.toNat < 40 → c_dox np.toInt.toNat = 0 := fun hj => hx_num_z nu_qp cl_dox hj ?o2
  case o2 => omega
  obtain ⟨c_doy, cl_doy⟩ : ∃ g : Nat → Int32, hx_col 40 hl1 qp 6 = g := ⟨_, rfl⟩
  obtain ⟨m_doy, f_m_doy, g_m_doy⟩ := hx_rf hT gm tt_10 (k := 25) (u := 62) rfl
  obtain ⟨F_doy, n_doy⟩ : ∃ g : Nat → Int32, hl1.2.1 m_doy = g := ⟨_, rfl⟩
  have eq_doy := hc_doy qp m_doy f_qp f_m_doy; rw [cl_doy, n_doy] at eq_doy
  have z_doy : np.toInt.toNat < 40 → c_doy np.toInt.toNat = 0 := fun hj => hx_num_z nu_qp cl_doy hj ?o3
  case o3 => omega
  obtain ⟨c_fou, cl_fou⟩ : ∃ g : Nat → Int32, hx_col 100 hl1 qc 10 = g := ⟨_, rfl⟩
  have eq_fou := hc_fou qc m_fou f_qc f_m_fou; rw [cl_fou, n_m_fou] at eq_fou
  have z_fou : c0.toInt.toNat < 100 → c_fou c0.toInt.toNat = 0 := fun hj => hx_num_z nu_qc cl_fou hj ?o4
  case o4 => omega
  obtain ⟨c_tri, cl_tri⟩ : ∃ g : Nat → Int32, hx_col 100 hl1 qc 9 = g := ⟨_, rfl⟩
  have eq_tri := hc_tri qc mt f_qc f_mt; rw [cl_tri, n_mt] at eq_tri
  have z_tri : c0.toInt.toNat < 100 → c_tri c0.toInt.toNat = 0 := fun hj => hx_num_z nu_qc cl_tri hj ?o5
  case o5 => omega
  obtain ⟨qlt, f_qlt, g_qlt⟩ := hx_rf hT g_qw tt_8 (k := 2) (u := 39) rfl
  obtain ⟨qlf, f_qlf, g_qlf⟩ := hx_rf hT g_qw tt_8 (k := 4) (u := 41) rfl
  obtain ⟨m_wkd, f_m_wkd, g_m_wkd⟩ := hx_rf hT gm tt_10 (k := 93) (u := 113) rfl
  obtain ⟨F_qlt, n_qlt⟩ : ∃ g : Nat → Int32, hl1.2.1 qlt = g := ⟨_, rfl⟩
  obtain ⟨F_m_wkd, n_m_wkd⟩ : ∃ g : Nat → Int32, hl1.2.1 m_wkd = g := ⟨_, rfl⟩
  have eb_wkd := hkWD qw qlt m_wkd f_qw f_qlt f_m_wkd; rw [n_qlt, n_m_wkd, f_o_wkm] at eb_wkd
  obtain ⟨m_aga, f_m_aga, g_m_aga⟩ := hx_rf hT gm tt_10 (k := 38) (u := 73) rfl
  obtain ⟨F_aga, n_aga⟩ : ∃ g : Nat → Int32, hl1.2.1 m_aga = g := ⟨_, rfl⟩
  have hDF := hkDF qc qp m_aga f_qc f_qp f_m_aga; rw [n_aga, f_x_claimCount] at hDF
  obtain ⟨qwo, f_qwo, g_qwo⟩ := hx_rf hT gx tt_9 (k := 4) (u := 0) rfl
  obtain ⟨m_ad, f_m_ad, g_m_ad⟩ := hx_rf hT gm tt_10 (k := 2) (u := 49) rfl
  obtain ⟨F_ad, n_ad⟩ : ∃ g : Nat → Int32, hl1.2.1 m_ad = g := ⟨_, rfl⟩
  obtain ⟨A9, hRA9, hCA9, hAC9, hAB⟩ := hkAC qa qwo m_ad mr mn mp qc ml f_qa f_qwo f_m_ad f_mr f_mn f_mp f_qc f_ml
  rw [f_x_actCount] at hRA9; rw [f_x_actCount, n_ad, n_mr, n_mn, n_mp] at hCA9
  obtain ⟨m_by, f_m_by, g_m_by⟩ := hx_rf hT gm tt_10 (k := 37) (u := 72) rfl
  obtain ⟨F_by, n_by⟩ : ∃ g : Nat → Int32, hl1.2.1 m_by = g := ⟨_, rfl⟩
  obtain ⟨m_ho, f_m_ho, g_m_ho⟩ := hx_rf hT gm tt_10 (k := 58) (u := 92) rfl
  obtain ⟨F_ho, n_ho⟩ : ∃ g : Nat → Int32, hl1.2.1 m_ho = g := ⟨_, rfl⟩
  obtain ⟨m_fc, f_m_fc, g_m_fc⟩ := hx_rf hT gm tt_10 (k := 53) (u := 88) rfl
  obtain ⟨F_fc, n_fc⟩ : ∃ g : Nat → Int32, hl1.2.1 m_fc = g := ⟨_, rfl⟩
  obtain ⟨m_nt, f_m_nt, g_m_nt⟩ := hx_rf hT gm tt_10 (k := 41) (u := 76) rfl
  obtain ⟨F_nt, n_nt⟩ : ∃ g : Nat → Int32, hl1.2.1 m_nt = g := ⟨_, rfl⟩
  obtain ⟨m_wt, f_m_wt, g_m_wt⟩ := hx_rf hT gm tt_10 (k := 42) (u := 77) rfl
  obtain ⟨F_wt, n_wt⟩ : ∃ g : Nat → Int32, hl1.2.1 m_wt = g := ⟨_, rfl⟩
  obtain ⟨m_be, f_m_be, g_m_be⟩ := hx_rf hT gm tt_10 (k := 52) (u := 87) rfl
  obtain ⟨F_be, n_be⟩ : ∃ g : Nat → Int32, hl1.2.1 m_be = g := ⟨_, rfl⟩
  obtain ⟨m_bor, f_m_bor, g_m_bor⟩ := hx_rf hT gm tt_10 (k := 21) (u := 58) rfl
  obtain ⟨F_bor, n_bor⟩ : ∃ g : Nat → Int32, hl1.2.1 m_bor = g := ⟨_, rfl⟩
  obtain ⟨m_kin, f_m_kin, g_m_kin⟩ := hx_rf hT gm tt_10 (k := 26) (u := 63) rfl
  obtain ⟨F_kin, n_kin⟩ : ∃ g : Nat → Int32, hl1.2.1 m_kin = g := ⟨_, rfl⟩
  obtain ⟨m_sum, f_m_sum, g_m_sum⟩ := hx_rf hT gm tt_10 (k := 39) (u := 74) rfl
  obtain ⟨F_sum, n_sum⟩ : ∃ g : Nat → Int32, hl1.2.1 m_sum = g := ⟨_, rfl⟩
  obtain ⟨m_fro, f_m_fro, g_m_fro⟩ := hx_rf hT gm tt_10 (k := 40) (u := 75) rfl
  obtain ⟨F_fro, n_fro⟩ : ∃ g : Nat → Int32, hl1.2.1 m_fro = g := ⟨_, rfl⟩
  obtain ⟨m_fil, f_m_fil, g_m_fil⟩ := hx_rf hT gm tt_10 (k := 43) (u := 78) rfl
  obtain ⟨F_fil, n_fil⟩ : ∃ g : Nat → Int32, hl1.2.1 m_fil = g := ⟨_, rfl⟩
  obtain ⟨m_jud, f_m_jud, g_m_jud⟩ := hx_rf hT gm tt_10 (k := 51) (u := 86) rfl
  obtain ⟨F_jud, n_jud⟩ : ∃ g : Nat → Int32, hl1.2.1 m_jud = g := ⟨_, rfl⟩
  obtain ⟨m_ear, f_m_ear, g_m_ear⟩ := hx_rf hT gm tt_10 (k := 22) (u := 59) rfl
  obtain ⟨F_ear, n_ear⟩ : ∃ g : Nat → Int32, hl1.2.1 m_ear = g := ⟨_, rfl⟩
  obtain ⟨m_hds, f_m_hds, g_m_hds⟩ := hx_rf hT gm tt_10 (k := 23) (u := 60) rfl
  obtain ⟨F_hds, n_hds⟩ : ∃ g : Nat → Int32, hl1.2.1 m_hds = g := ⟨_, rfl⟩
  obtain ⟨m_ord, f_m_ord, g_m_ord⟩ := hx_rf hT gm tt_10 (k := 48) (u := 83) rfl
  obtain ⟨F_ord, n_ord⟩ : ∃ g : Nat → Int32, hl1.2.1 m_ord = g := ⟨_, rfl⟩
  obtain ⟨m_wkl, f_m_wkl, g_m_wkl⟩ := hx_rf hT gm tt_10 (k := 54) (u := 89) rfl
  obtain ⟨F_wkl, n_wkl⟩ : ∃ g : Nat → Int32, hl1.2.1 m_wkl = g := ⟨_, rfl⟩
  obtain ⟨m_owd, f_m_owd, g_m_owd⟩ := hx_rf hT gm tt_10 (k := 55) (u := 90) rfl
  obtain ⟨F_owd, n_owd⟩ : ∃ g : Nat → Int32, hl1.2.1 m_owd = g := ⟨_, rfl⟩
  obtain ⟨m_gds, f_m_gds, g_m_gds⟩ := hx_rf hT gm tt_10 (k := 56) (u := 91) rfl
  obtain ⟨F_gds, n_gds⟩ : ∃ g : Nat → Int32, hl1.2.1 m_gds = g := ⟨_, rfl⟩
  obtain ⟨m_szd, f_m_szd, g_m_szd⟩ := hx_rf hT gm tt_10 (k := 49) (u := 84) rfl
  obtain ⟨F_szd, n_szd⟩ : ∃ g : Nat → Int32, hl1.2.1 m_szd = g := ⟨_, rfl⟩
  obtain ⟨m_srv, f_m_srv, g_m_srv⟩ := hx_rf hT gm tt_10 (k := 50) (u := 85) rfl
  obtain ⟨F_srv, n_srv⟩ : ∃ g : Nat → Int32, hl1.2.1 m_srv = g := ⟨_, rfl⟩
  have cl_bor : hx_col 40 hl1 qp 1 = F_bor := (hf_bor qp m_bor f_qp f_m_bor).trans n_bor
  have cl_kin : hx_col 40 hl1 qp 2 = F_kin := (hf_kin qp m_kin f_qp f_m_kin).trans n_kin
  have cl_sum : hx_col 100 hl1 qc 6 = F_sum := (hf_sum qc m_sum f_qc f_m_sum).trans n_sum
  have cl_fro : hx_col 100 hl1 qc 7 = F_fro := (hf_fro qc m_fro f_qc f_m_fro).trans n_fro
  have cl_fil : hx_col 100 hl1 qc 8 = F_fil := (hf_fil qc m_fil f_qc f_m_fil).trans n_fil
  have cl_hea : hx_col 100 hl1 qc 11 = F_mh := (hf_hea qc mh f_qc f_mh).trans n_mh
  have cl_jud : hx_col 100 hl1 qc 12 = F_jud := (hf_jud qc m_jud f_qc f_m_jud).trans n_jud
  have cl_ear : hx_col 40 hl1 qp 3 = F_ear := (hf_ear qp m_ear f_qp f_m_ear).trans n_ear
  have cl_hds : hx_col 40 hl1 qp 4 = F_hds := (hf_hds qp m_hds f_qp f_m_hds).trans n_hds
  have cl_ord : hx_col 100 hl1 qc 13 = F_ord := (hf_ord qc m_ord f_qc f_m_ord).trans n_ord
  have cl_wkl : hx_col 100 hl1 qc 14 = F_wkl := (hf_wkl qc m_wkl f_qc f_m_wkl).trans n_wkl
  have cl_owd : hx_col 100 hl1 qc 15 = F_owd := (hf_owd qc m_owd f_qc f_m_owd).trans n_owd
  have cl_gds : hx_col 100 hl1 qc 17 = F_gds := (hf_gds qc m_gds f_qc f_m_gds).trans n_gds
  have cl_szd : hx_col 100 hl1 qc 16 = F_szd := (hf_szd qc m_szd f_qc f_m_szd).trans n_szd
  have cl_srv : hx_col 100 hl1 qc 18 = F_srv := (hf_srv qc m_srv f_qc f_m_srv).trans n_srv
  have htb9 : ∀ c, c < 100 → 0 ≤ (c_tri c).toInt ∧ (c_tri c).toInt ≤ 512 := fun c hc => by rw [eq_tri c hc]; have w := hT.ei g_mt tt_80 (k := c) hc; rw [n_mt] at w; exact w
  have z_jud : F_jud c0.toInt.toNat = 0 := hx_num_z2 nu_qc cl_jud ?o6
  case o6 => omega
  have hDP := hkDP qc qp m_by f_qc f_qp f_m_by; rw [n_by, f_x_claimCount] at hDP
  have hHL := hkHL qh qc m_ho f_qh f_qc f_m_ho; rw [n_ho, f_x_heardCount, f_x_claimCount] at hHL
  have hHO9 := hkHO m_ho mh f_m_ho f_mh; rw [n_ho, n_mh, f_m_heardMany, f_m_claims] at hHO9
  obtain ⟨cF9L, hFX, hFR9⟩ := hkFX qc m_fc m_nt m_wt m_sum mh f_qc f_m_fc f_m_nt f_m_wt f_m_sum f_mh; rw [f_x_claimCount] at hFX; rw [n_fc, n_nt, n_wt, n_sum, n_mh, f_x_claimCount] at hFR9
  have hBX := hkBX qc m_be f_qc f_m_be; rw [n_be, f_x_claimCount] at hBX
  rw [n_ml, f_x_claimCount] at hAC9
  obtain ⟨y_p0, f_y_p0, g_y_p0⟩ := hx_rf hT g_qo_py tt_3 (k := 2) (u := 23) rfl
  obtain ⟨m_p0, f_m_p0, g_m_p0⟩ := hx_rf hT gm tt_10 (k := 60) (u := 93) rfl
  obtain ⟨F_p0, n_p0⟩ : ∃ g : Nat → Int32, hl1.2.1 m_p0 = g := ⟨_, rfl⟩
  have n_y_p0 : hl1.2.1 y_p0 = F_p0 := (hkP0 qo_py y_p0 m_p0 f_qo_py f_y_p0 f_m_p0).trans n_p0
  obtain ⟨y_p1, f_y_p1, g_y_p1⟩ := hx_rf hT g_qo_py tt_3 (k := 3) (u := 24) rfl
  obtain ⟨m_p1, f_m_p1, g_m_p1⟩ := hx_rf hT gm tt_10 (k := 61) (u := 94) rfl
  obtain ⟨F_p1, n_p1⟩ : ∃ g : Nat → Int32, hl1.2.1 m_p1 = g := ⟨_, rfl⟩
  have n_y_p1 : hl1.2.1 y_p1 = F_p1 := (hkP1 qo_py y_p1 m_p1 f_qo_py f_y_p1 f_m_p1).trans n_p1
  obtain ⟨y_p2, f_y_p2, g_y_p2⟩ := hx_rf hT g_qo_py tt_3 (k := 5) (u := 26) rfl
  obtain ⟨m_p2, f_m_p2, g_m_p2⟩ := hx_rf hT gm tt_10 (k := 62) (u := 95) rfl
  obtain ⟨F_p2, n_p2⟩ : ∃ g : Nat → Int32, hl1.2.1 m_p2 = g := ⟨_, rfl⟩
  have n_y_p2 : hl1.2.1 y_p2 = F_p2 := (hkP2 qo_py y_p2 m_p2 f_qo_py f_y_p2 f_m_p2).trans n_p2
  obtain ⟨y_p3, f_y_p3, g_y_p3⟩ := hx_rf hT g_qo_py tt_3 (k := 4) (u := 25) rfl
  obtain ⟨m_p3, f_m_p3, g_m_p3⟩ := hx_rf hT gm tt_10 (k := 63) (u := 96) rfl
  obtain ⟨F_p3, n_p3⟩ : ∃ g : Nat → Int32, hl1.2.1 m_p3 = g := ⟨_, rfl⟩
  have n_y_p3 : hl1.2.1 y_p3 = F_p3 := (hkP3 qo_py y_p3 m_p3 f_qo_py f_y_p3 f_m_p3).trans n_p3
  obtain ⟨y_p4, f_y_p4, g_y_p4⟩ := hx_rf hT g_qo_py tt_3 (k := 1) (u := 22) rfl
  obtain ⟨m_p4, f_m_p4, g_m_p4⟩ := hx_rf hT gm tt_10 (k := 64) (u := 97) rfl
  obtain ⟨F_p4, n_p4⟩ : ∃ g : Nat → Int32, hl1.2.1 m_p4 = g := ⟨_, rfl⟩
  have n_y_p4 : hl1.2.1 y_p4 = F_p4 := (hkP4 qo_py y_p4 m_p4 f_qo_py f_y_p4 f_m_p4).trans n_p4
  obtain ⟨qrg9, f_qrg9, g_qrg9⟩ := hx_rf hT gx tt_9 (k := 18) (u := 7) rfl
  obtain ⟨y_ls, f_y_ls, g_y_ls⟩ := hx_rf hT g_qrg9 tt_7 (k := 3) (u := 35) rfl
  obtain ⟨m_rl, f_m_rl, g_m_rl⟩ := hx_rf hT gm tt_10 (k := 85) (u := 109) rfl
  obtain ⟨F_y_ls, n_y_ls⟩ : ∃ g : Nat → Int32, hl1.2.1 y_ls = g := ⟨_, rfl⟩
  obtain ⟨F_m_rl, n_m_rl⟩ : ∃ g : Nat → Int32, hl1.2.1 m_rl = g := ⟨_, rfl⟩
  obtain ⟨fv_753, efv_753⟩ : ∃ y : Int32, y = hl1.2.1 qrg9 0 := ⟨_, rfl⟩
  have bfv_753 := hT.gi g_qrg9 tt_7 (k := 0) rfl
  rw [← efv_753] at bfv_753
  have bfv_753 : -1 ≤ fv_753.toInt ∧ fv_753.toInt ≤ 100 := bfv_753
  have ffv_753 := efv_753.symm
  obtain ⟨fv_754, efv_754⟩ : ∃ y : Int32, y = hl1.2.1 am 83 := ⟨_, rfl⟩
  have bfv_754 := hT.gi gm tt_10 (k := 83) rfl
  rw [← efv_754] at bfv_754
  have bfv_754 : 0 ≤ fv_754.toInt ∧ fv_754.toInt ≤ 1 := bfv_754
  have ffv_754 := efv_754.symm
  obtain ⟨fv_755, efv_755⟩ : ∃ y : Int32, y = hl1.2.1 am 84 := ⟨_, rfl⟩
  have bfv_755 := hT.gi gm tt_10 (k := 84) rfl
  rw [← efv_755] at bfv_755
  have bfv_755 : 0 ≤ fv_755.toInt ∧ fv_755.toInt ≤ 300 := bfv_755
  have ffv_755 := efv_755.symm
  have hNQ9 := hkNQ qrg9 f_qrg9; rw [ffv_753, ffv_754, ffv_755] at hNQ9
  have hRL9 := hkRL qrg9 y_ls m_rl f_qrg9 f_y_ls f_m_rl; rw [n_y_ls, n_m_rl, ffv_753] at hRL9
  have hCB : hz_CB F_ord F_wkl F_owd F_szd F_gds F_srv := fun c hc => ⟨by have w := hT.ei g_m_ord tt_83 (k := c) (by omega); rw [n_ord] at w; exact w, by have w := hT.ei g_m_wkl tt_89 (k := c) (by omega); rw [n_wkl] at w; exact w, by have w := hT.ei g_m_owd tt_90 (k := c) (by omega); rw [n_owd] at w; exact w, by have w := hT.ei g_m_szd tt_84 (k := c) (by omega); rw [n_szd] at w; exact w, by have w := hT.ei g_m_gds tt_91 (k := c) (by omega); rw [n_gds] at w; exact w, by have w := hT.ei g_m_srv tt_85 (k := c) (by omega); rw [n_srv] at w; exact w⟩
  have hps : ∀ j, j < 600 → 0 ≤ (F_p2 j).toInt ∧ (F_p2 j).toInt ≤ 610000 := fun j hj => by have w := hT.ei g_m_p2 tt_95 (k := j) (by omega); rw [n_p2] at w; exact w
  have hte9 : ∀ c : Nat, c < 100 → (0 ≤ (c_tri c).toInt ∧ (c_tri c).toInt ≤ 512) ∧ (0 ≤ (F_sum c).toInt ∧ (F_sum c).toInt ≤ 9999) := fun c hc => ⟨htb9 c hc, by have w := hT.ei g_m_sum tt_74 (k := c) (by omega); rw [n_sum] at w; exact w⟩
  have hee9 : ∀ c : Nat, c < 40 → (0 ≤ (F_ear c).toInt ∧ (F_ear c).toInt ≤ 9999) ∧ (0 ≤ (F_hds c).toInt ∧ (F_hds c).toInt ≤ 20) := fun c hc => ⟨by have w := hT.ei g_m_ear tt_59 (k := c) (by omega); rw [n_ear] at w; exact w, by have w := hT.ei g_m_hds tt_60 (k := c) (by omega); rw [n_hds] at w; exact w⟩
  have bAG9 : ∀ k, k < 100 → 0 ≤ (F_aga k).toInt ∧ (F_aga k).toInt ≤ 39 := fun k hk => by have w := hT.ei g_m_aga tt_73 (k := k) (by omega); rw [n_aga] at w; exact w
  have bBY9 : ∀ k, k < 100 → 0 ≤ (F_by k).toInt ∧ (F_by k).toInt ≤ 39 := fun k hk => by have w := hT.ei g_m_by tt_72 (k := k) (by omega); rw [n_by] at w; exact w
  have hag9 : ∀ c, c < c0.toInt.toNat → 0 ≤ (F_aga c).toInt ∧ (F_aga c).toInt < 40 ∧ 0 ≤ (F_by c).toInt ∧ (F_by c).toInt < 40 := fun c hc => by have a9 := bAG9 c (by omega); have b9 := bBY9 c (by omega); omega
  have z_wkl : F_wkl c0.toInt.toNat = 0 := hx_num_z2 nu_qc cl_wkl ?o7
  case o7 => omega
  have z_owd : F_owd c0.toInt.toNat = 0 := hx_num_z2 nu_qc cl_owd ?o8
  case o8 => omega
  have z_gds : F_gds c0.toInt.toNat = 0 := hx_num_z2 nu_qc cl_gds ?o9
  case o9 => omega
  have hwd := jw mw f_mw; rw [n_mw] at hwd
  have hWK := jr mr f_mr; rw [n_mr, f_m_acts] at hWK
  have hRP := jp mp mn f_mp f_mn; rw [n_mp, n_mn, f_m_acts] at hRP
  have hPL := jl ml f_ml; rw [n_ml, f_m_claims, f_m_acts] at hPL
  have hHC := jh mh f_mh; rw [n_mh, f_m_heardMany, f_m_claims] at hHC
  have hTR := jt mt f_mt; rw [n_mt] at hTR
  have hHF := jf mh m_fou f_mh f_m_fou; rw [n_mh, n_m_fou, f_m_claims] at hHF
  refine lv_aload_n hx hb dL_law_1195 rfl (lv_at hl 2 rfl) ?_
  have hTo := hT
  obtain ⟨q_756, fq_756, gq_756⟩ := hx_rf hT g_qrg9 tt_7 (k := 7) (u := 38) rfl
  obtain ⟨q_757, fq_757, gq_757⟩ := hx_rf hT g_qrg9 tt_7 (k := 5) (u := 36) rfl
  obtain ⟨q_758, fq_758, gq_758⟩ := hx_rf hT gx tt_9 (k := 16) (u := 48) rfl
  obtain ⟨q_759, fq_759, gq_759⟩ := hx_rf hT g_qrg9 tt_7 (k := 6) (u := 37) rfl
  refine hx_goi (hx_runV (As := []) (rest := []) ⟨hx, hb, hml, hown, hts⟩ hW gx tt_9 (T := TX9) (N := 20) rfl (t_X9_net_v l dC dI dA L1 hl1 H.size ax hT gx qp g_qp f_qp qc g_qc f_qc qo_py g_qo_py f_qo_py y_p0 g_y_p0 f_y_p0 y_p1 g_y_p1 f_y_p1 y_p2 g_y_p2 f_y_p2 y_p3 g_y_p3 f_y_p3 y_p4 g_y_p4 f_y_p4 qrg9 g_qrg9 f_qrg9 q_756 gq_756 fq_756 q_757 gq_757 fq_757 y_ls g_y_ls f_y_ls q_758 gq_758 fq_758 q_759 gq_759 fq_759 F_p0 n_y_p0 F_p1 n_y_p1 F_p2 n_y_p2 F_p3 n_y_p3 F_p4 n_y_p4 c0 f_x_claimCount nw f_x_now py f_o_py np f_x_personCount F_ord cl_ord F_wkl cl_wkl F_owd cl_owd F_szd cl_szd F_gds cl_gds F_srv cl_srv nu_qp nu_qc F_aga F_ml A9 hDF hAC9 hAB hCB hps F_by hDP hag9 pf_qp pf_qc) (cwV 0 hts (hx_gV kw_984 kw_981 kw_982 kw_983 kw_94) rfl rfl rfl (by decide +kernel) ⟨Nat.le_of_ble_eq_true rfl, Nat.le_of_ble_eq_true rfl⟩) rfl hl.1 rfl (Nat.le_of_ble_eq_true rfl) dL_law_1196 ⟨(show CC + 0 ≤ 600000 from ?o10), (show SS + 0 ≤ 7302250 from ?o11)⟩) hW (fun r_762 L_760 h_761 H locs p_763 hW => ?_)
  case o10 => omega
  case o11 => omega
  obtain ⟨⟨w_765, w_766, w_767, w_768, w_769, w_770, w_771, w_772, fw_765, fw_766, fw_767, fw_768, fw_769, fw_770, fw_771, fw_772, hr_764⟩, hT, hs⟩ := p_763
  replace hT : hx_T T_tb L_760 h_761 := hT
  replace hs : hx_S T_tb [(3, 0), (7, 0), (7, 1), (7, 2), (7, 4), (22, 0), (23, 0), (24, 0), (25, 0), (26, 0), (35, 0), (36, 0), (37, 0), (38, 0), (48, 0)] L1 hl1 L_760 h_761 := hs
  replace f_qa := (hs.o gx trivial rfl).2.trans f_qa
  replace f_qp := (hs.o gx trivial rfl).2.trans f_qp
  replace f_qc := (hs.o gx trivial rfl).2.trans f_qc
  replace f_qh := (hs.o gx trivial rfl).2.trans f_qh
  replace f_qw := (hs.o gx trivial rfl).2.trans f_qw
  replace f_ql := (hs.o g_qw trivial rfl).2.trans f_ql
  replace f_m_now := (hs.o gm trivial rfl).1.trans f_m_now
  replace f_m_persons := (hs.o gm trivial rfl).1.trans f_m_persons
  replace f_m_claims := (hs.o gm trivial rfl).1.trans f_m_claims
  replace f_m_taped := (hs.o gm trivial rfl).1.trans f_m_taped
  replace f_m_acts := (hs.o gm trivial rfl).1.trans f_m_acts
  replace f_m_heardMany := (hs.o gm trivial rfl).1.trans f_m_heardMany
  replace f_m_lines := (hs.o gm trivial rfl).1.trans f_m_lines
  replace f_m_listed := (hs.o gm trivial rfl).1.trans f_m_listed
  replace f_m_walkedMany := (hs.o gm trivial rfl).1.trans f_m_walkedMany
  replace f_m_payments := (hs.o gm trivial rfl).1.trans f_m_payments
  replace f_x_now := (hs.o gx trivial rfl).1.trans f_x_now
  replace f_x_personCount := (hs.o gx trivial rfl).1.trans f_x_personCount
  replace f_x_claimCount := (hs.o gx trivial rfl).1.trans f_x_claimCount
  replace f_x_tapeLength := (hs.o gx trivial rfl).1.trans f_x_tapeLength
  replace f_x_actCount := (hs.o gx trivial rfl).1.trans f_x_actCount
  replace f_x_heardCount := (hs.o gx trivial rfl).1.trans f_x_heardCount
  replace f_mw := (hs.o gm trivial rfl).2.trans f_mw
  replace f_mr := (hs.o gm trivial rfl).2.trans f_mr
  replace f_mp := (hs.o gm trivial rfl).2.trans f_mp
  replace f_mn := (hs.o gm trivial rfl).2.trans f_mn
  replace f_ml := (hs.o gm trivial rfl).2.trans f_ml
  replace f_mh := (hs.o gm trivial rfl).2.trans f_mh
  replace f_mt := (hs.o gm trivial rfl).2.trans f_mt
  replace f_m_fou := (hs.o gm trivial rfl).2.trans f_m_fou
  replace f_qo_ln := (hs.o gx trivial rfl).2.trans f_qo_ln
  replace f_o_ln := (hs.o g_qo_ln trivial rfl).1.trans f_o_ln
  replace f_o_lsd := (hs.o g_qw trivial rfl).1.trans f_o_lsd
  replace f_o_wkm := (hs.o g_qw trivial rfl).1.trans f_o_wkm
  replace f_qo_py := (hs.o gx trivial rfl).2.trans f_qo_py
  replace f_b_of := (hs.o g_qo_ln trivial rfl).2.trans f_b_of
  replace f_m_of := (hs.o gm trivial rfl).2.trans f_m_of
  replace f_b_wf := (hs.o g_qo_ln trivial rfl).2.trans f_b_wf
  replace f_m_wf := (hs.o gm trivial rfl).2.trans f_m_wf
  replace f_b_df := (hs.o g_qo_ln trivial rfl).2.trans f_b_df
  replace f_m_df := (hs.o gm trivial rfl).2.trans f_m_df
  replace f_b_kf := (hs.o g_qo_ln trivial rfl).2.trans f_b_kf
  replace f_m_kf := (hs.o gm trivial rfl).2.trans f_m_kf
  replace f_b_sf := (hs.o g_qo_ln trivial rfl).2.trans f_b_sf
  replace f_m_sf := (hs.o gm trivial rfl).2.trans f_m_sf
  replace f_b_bf := (hs.o g_qo_ln trivial rfl).2.trans f_b_bf
  replace f_m_lst := (hs.o gm trivial rfl).2.trans f_m_lst
  replace f_qtp := (hs.o gx trivial rfl).2.trans f_qtp
  replace f_m_tp := (hs.o gm trivial rfl).2.trans f_m_tp
  replace f_m_dead := (hs.o gm trivial rfl).2.trans f_m_dead
  replace f_m_isj := (hs.o gm trivial rfl).2.trans f_m_isj
  replace f_m_dox := (hs.o gm trivial rfl).2.trans f_m_dox
  replace f_m_doy := (hs.o gm trivial rfl).2.trans f_m_doy
  replace f_qlt := (hs.o g_qw trivial rfl).2.trans f_qlt
  replace f_qlf := (hs.o g_qw trivial rfl).2.trans f_qlf
  replace f_m_wkd := (hs.o gm trivial rfl).2.trans f_m_wkd
  replace f_m_aga := (hs.o gm trivial rfl).2.trans f_m_aga
  replace f_qwo := (hs.o gx trivial rfl).2.trans f_qwo
  replace f_m_ad := (hs.o gm trivial rfl).2.trans f_m_ad
  replace f_m_by := (hs.o gm trivial rfl).2.trans f_m_by
  replace f_m_ho := (hs.o gm trivial rfl).2.trans f_m_ho
  replace f_m_fc := (hs.o gm trivial rfl).2.trans f_m_fc
  replace f_m_nt := (hs.o gm trivial rfl).2.trans f_m_nt
  replace f_m_wt := (hs.o gm trivial rfl).2.trans f_m_wt
  replace f_m_be := (hs.o gm trivial rfl).2.trans f_m_be
  replace f_m_bor := (hs.o gm trivial rfl).2.trans f_m_bor
  replace f_m_kin := (hs.o gm trivial rfl).2.trans f_m_kin
  replace f_m_sum := (hs.o gm trivial rfl).2.trans f_m_sum
  replace f_m_fro := (hs.o gm trivial rfl).2.trans f_m_fro
  replace f_m_fil := (hs.o gm trivial rfl).2.trans f_m_fil
  replace f_m_jud := (hs.o gm trivial rfl).2.trans f_m_jud
  replace f_m_ear := (hs.o gm trivial rfl).2.trans f_m_ear
  replace f_m_hds := (hs.o gm trivial rfl).2.trans f_m_hds
  replace f_m_ord := (hs.o gm trivial rfl).2.trans f_m_ord
  replace f_m_wkl := (hs.o gm trivial rfl).2.trans f_m_wkl
  replace f_m_owd := (hs.o gm trivial rfl).2.trans f_m_owd
  replace f_m_gds := (hs.o gm trivial rfl).2.trans f_m_gds
  replace f_m_szd := (hs.o gm trivial rfl).2.trans f_m_szd
  replace f_m_srv := (hs.o gm trivial rfl).2.trans f_m_srv
  replace f_y_p0 := (hs.o g_qo_py trivial rfl).2.trans f_y_p0
  replace f_m_p0 := (hs.o gm trivial rfl).2.trans f_m_p0
  replace f_y_p1 := (hs.o g_qo_py trivial rfl).2.trans f_y_p1
  replace f_m_p1 := (hs.o gm trivial rfl).2.trans f_m_p1
  replace f_y_p2 := (hs.o g_qo_py trivial rfl).2.trans f_y_p2
  replace f_m_p2 := (hs.o gm trivial rfl).2.trans f_m_p2
  replace f_y_p3 := (hs.o g_qo_py trivial rfl).2.trans f_y_p3
  replace f_m_p3 := (hs.o gm trivial rfl).2.trans f_m_p3
  replace f_y_p4 := (hs.o g_qo_py trivial rfl).2.trans f_y_p4
  replace f_m_p4 := (hs.o gm trivial rfl).2.trans f_m_p4
  replace f_qrg9 := (hs.o gx trivial rfl).2.trans f_qrg9
  replace f_y_ls := (hs.o g_qrg9 trivial rfl).2.trans f_y_ls
  replace f_m_rl := (hs.o gm trivial rfl).2.trans f_m_rl
  replace ffv_754 := (hs.o gm trivial rfl).1.trans ffv_754
  replace ffv_755 := (hs.o gm trivial rfl).1.trans ffv_755
  replace fq_756 := (hs.o g_qrg9 trivial rfl).2.trans fq_756
  replace fq_757 := (hs.o g_qrg9 trivial rfl).2.trans fq_757
  replace fq_758 := (hs.o gx trivial rfl).2.trans fq_758
  replace fq_759 := (hs.o g_qrg9 trivial rfl).2.trans fq_759
  replace pf_qa : ∀ j : Nat, (j : Int) < (h_761.2.1 ax 6).toInt → h_761.2.2 qa j ≠ none := by
    intro j hj; rw [(hs.o gx trivial rfl).1] at hj; rw [(hs.a g_qa rfl j).2]; exact pf_qa j hj
  replace pf_qp : ∀ j : Nat, (j : Int) < (h_761.2.1 ax 8).toInt → h_761.2.2 qp j ≠ none := by
    intro j hj; rw [(hs.o gx trivial rfl).1] at hj; rw [(hs.a g_qp rfl j).2]; exact pf_qp j hj
  replace pf_qc : ∀ j : Nat, (j : Int) < (h_761.2.1 ax 11).toInt → h_761.2.2 qc j ≠ none := by
    intro j hj; rw [(hs.o gx trivial rfl).1] at hj; rw [(hs.a g_qc rfl j).2]; exact pf_qc j hj
  replace pf_qh : ∀ j : Nat, (j : Int) < (h_761.2.1 ax 13).toInt → h_761.2.2 qh j ≠ none := by
    intro j hj; rw [(hs.o gx trivial rfl).1] at hj; rw [(hs.a g_qh rfl j).2]; exact pf_qh j hj
  replace pf_ql : ∀ j : Nat, (j : Int) < (h_761.2.1 qw 0).toInt → h_761.2.2 ql j ≠ none := by
    intro j hj; rw [(hs.o g_qw trivial rfl).1] at hj; rw [(hs.a g_ql rfl j).2]; exact pf_ql j hj
  replace cl_lst : hx_col 8 h_761 ql 0 = c_lst := (hx_col_S hs hTo g_ql tt_40 tt_2 rfl rfl).trans cl_lst
  replace cl_dead : hx_col 40 h_761 qp 7 = c_dead := (hx_col_S hs hTo g_qp tt_44 tt_4 rfl rfl).trans cl_dead
  replace cl_isj : hx_col 40 h_761 qp 8 = c_isj := (hx_col_S hs hTo g_qp tt_44 tt_4 rfl rfl).trans cl_isj
  replace cl_dox : hx_col 40 h_761 qp 5 = c_dox := (hx_col_S hs hTo g_qp tt_44 tt_4 rfl rfl).trans cl_dox
  replace cl_doy : hx_col 40 h_761 qp 6 = c_doy := (hx_col_S hs hTo g_qp tt_44 tt_4 rfl rfl).trans cl_doy
  replace cl_fou : hx_col 100 h_761 qc 10 = c_fou := (hx_col_S hs hTo g_qc tt_45 tt_2 rfl rfl).trans cl_fou
  replace cl_tri : hx_col 100 h_761 qc 9 = c_tri := (hx_col_S hs hTo g_qc tt_45 tt_2 rfl rfl).trans cl_tri
  replace cl_bor : hx_col 40 h_761 qp 1 = F_bor := (hx_col_S hs hTo g_qp tt_44 tt_4 rfl rfl).trans cl_bor
  replace cl_kin : hx_col 40 h_761 qp 2 = F_kin := (hx_col_S hs hTo g_qp tt_44 tt_4 rfl rfl).trans cl_kin
  replace cl_sum : hx_col 100 h_761 qc 6 = F_sum := (hx_col_S hs hTo g_qc tt_45 tt_2 rfl rfl).trans cl_sum
  replace cl_fro : hx_col 100 h_761 qc 7 = F_fro := (hx_col_S hs hTo g_qc tt_45 tt_2 rfl rfl).trans cl_fro
  replace cl_fil : hx_col 100 h_761 qc 8 = F_fil := (hx_col_S hs hTo g_qc tt_45 tt_2 rfl rfl).trans cl_fil
  replace cl_hea : hx_col 100 h_761 qc 11 = F_mh := (hx_col_S hs hTo g_qc tt_45 tt_2 rfl rfl).trans cl_hea
  replace cl_jud : hx_col 100 h_761 qc 12 = F_jud := (hx_col_S hs hTo g_qc tt_45 tt_2 rfl rfl).trans cl_jud
  replace cl_ear : hx_col 40 h_761 qp 3 = F_ear := (hx_col_S hs hTo g_qp tt_44 tt_4 rfl rfl).trans cl_ear
  replace cl_hds : hx_col 40 h_761 qp 4 = F_hds := (hx_col_S hs hTo g_qp tt_44 tt_4 rfl rfl).trans cl_hds
  replace cl_ord : hx_col 100 h_761 qc 13 = F_ord := (hx_col_S hs hTo g_qc tt_45 tt_2 rfl rfl).trans cl_ord
  replace cl_wkl : hx_col 100 h_761 qc 14 = F_wkl := (hx_col_S hs hTo g_qc tt_45 tt_2 rfl rfl).trans cl_wkl
  replace cl_owd : hx_col 100 h_761 qc 15 = F_owd := (hx_col_S hs hTo g_qc tt_45 tt_2 rfl rfl).trans cl_owd
  replace cl_gds : hx_col 100 h_761 qc 17 = F_gds := (hx_col_S hs hTo g_qc tt_45 tt_2 rfl rfl).trans cl_gds
  replace cl_szd : hx_col 100 h_761 qc 16 = F_szd := (hx_col_S hs hTo g_qc tt_45 tt_2 rfl rfl).trans cl_szd
  replace cl_srv : hx_col 100 h_761 qc 18 = F_srv := (hx_col_S hs hTo g_qc tt_45 tt_2 rfl rfl).trans cl_srv
  replace nu_qp : hx_num 40 h_761 qp 0 (np.toInt) := hx_num_S hs hTo g_qp tt_44 tt_4 rfl rfl nu_qp
  replace nu_qc : hx_num 100 h_761 qc 0 (c0.toInt) := hx_num_S hs hTo g_qc tt_45 tt_2 rfl rfl nu_qc
  replace sb_list : hx_LQ 8 100 h_761 ql qc := hx_LQ_S hs g_ql g_qc rfl rfl sb_list
  replace hDF : hw_DF h_761 qc qp 2 F_aga c0.toInt := hw_DF_S hs hTo g_qc g_qp tt_45 tt_2 rfl rfl rfl hDF
  replace hRA9 : hv_RA h_761 qa qwo a0.toInt A9 := hv_RA_S hs hTo g_qa g_qwo tt_43 tt_0 rfl rfl rfl rfl rfl rfl ?o12 hRA9
  case o12 => omega
  replace hDP : hw_DF h_761 qc qp 1 F_by c0.toInt := hw_DF_S hs hTo g_qc g_qp tt_45 tt_2 rfl rfl rfl hDP
  replace hAC9 : hv_AC h_761 qc F_ml c0.toInt A9 := hv_AC_S hs hTo g_qc tt_45 tt_2 rfl tt_0 rfl rfl rfl rfl rfl rfl rfl hAC9
  replace hFX : hv_FX 8 4 h_761 qc cF9L c0.toInt := hv_FX_S hs hTo g_qc tt_45 tt_2 rfl rfl rfl rfl hFX
  replace hBX : hv_FX 3 5 h_761 qc F_be c0.toInt := hv_FX_S hs hTo g_qc tt_45 tt_2 rfl rfl rfl rfl hBX
  replace hHL : hv_HL h_761 qh qc F_ho m0.toInt c0.toInt := hv_HL_S hs g_qh g_qc rfl rfl hHL
  replace n_mw : h_761.2.1 mw = F_mw := (funext fun j => (hs.a g_mw rfl j).1).trans n_mw
  replace n_mr : h_761.2.1 mr = F_mr := (funext fun j => (hs.a g_mr rfl j).1).trans n_mr
  replace n_mp : h_761.2.1 mp = F_mp := (funext fun j => (hs.a g_mp rfl j).1).trans n_mp
  replace n_mn : h_761.2.1 mn = F_mn := (funext fun j => (hs.a g_mn rfl j).1).trans n_mn
  replace n_ml : h_761.2.1 ml = F_ml := (funext fun j => (hs.a g_ml rfl j).1).trans n_ml
  replace n_mh : h_761.2.1 mh = F_mh := (funext fun j => (hs.a g_mh rfl j).1).trans n_mh
  replace n_mt : h_761.2.1 mt = F_mt := (funext fun j => (hs.a g_mt rfl j).1).trans n_mt
  replace n_m_fou : h_761.2.1 m_fou = F_m_fou := (funext fun j => (hs.a g_m_fou rfl j).1).trans n_m_fou
  replace n_b_of : h_761.2.1 b_of = B_of := (funext fun j => (hs.a g_b_of rfl j).1).trans n_b_of
  replace n_m_of : h_761.2.1 m_of = F_of := (funext fun j => (hs.a g_m_of rfl j).1).trans n_m_of
  replace n_b_wf : h_761.2.1 b_wf = B_wf := (funext fun j => (hs.a g_b_wf rfl j).1).trans n_b_wf
  replace n_m_wf : h_761.2.1 m_wf = F_wf := (funext fun j => (hs.a g_m_wf rfl j).1).trans n_m_wf
  replace n_b_df : h_761.2.1 b_df = B_df := (funext fun j => (hs.a g_b_df rfl j).1).trans n_b_df
  replace n_m_df : h_761.2.1 m_df = F_df := (funext fun j => (hs.a g_m_df rfl j).1).trans n_m_df
  replace n_b_kf : h_761.2.1 b_kf = B_kf := (funext fun j => (hs.a g_b_kf rfl j).1).trans n_b_kf
  replace n_m_kf : h_761.2.1 m_kf = F_kf := (funext fun j => (hs.a g_m_kf rfl j).1).trans n_m_kf
  replace n_b_sf : h_761.2.1 b_sf = B_sf := (funext fun j => (hs.a g_b_sf rfl j).1).trans n_b_sf
  replace n_m_sf : h_761.2.1 m_sf = F_sf := (funext fun j => (hs.a g_m_sf rfl j).1).trans n_m_sf
  replace n_b_bf : h_761.2.1 b_bf = bfL := (funext fun j => (hs.a g_b_bf rfl j).1).trans n_b_bf
  replace n_lst : h_761.2.1 m_lst = F_lst := (funext fun j => (hs.a g_m_lst rfl j).1).trans n_lst
  replace n_tp : h_761.2.1 m_tp = F_tp := (funext fun j => (hs.a g_m_tp rfl j).1).trans n_tp
  replace n_qtp : h_761.2.1 qtp = F_tp := (funext fun j => (hs.a g_qtp rfl j).1).trans n_qtp
  replace n_dead : h_761.2.1 m_dead = F_dead := (funext fun j => (hs.a g_m_dead rfl j).1).trans n_dead
  replace n_isj : h_761.2.1 m_isj = F_isj := (funext fun j => (hs.a g_m_isj rfl j).1).trans n_isj
  replace n_dox : h_761.2.1 m_dox = F_dox := (funext fun j => (hs.a g_m_dox rfl j).1).trans n_dox
  replace n_doy : h_761.2.1 m_doy = F_doy := (funext fun j => (hs.a g_m_doy rfl j).1).trans n_doy
  replace n_qlt : h_761.2.1 qlt = F_qlt := (funext fun j => (hs.a g_qlt rfl j).1).trans n_qlt
  replace n_m_wkd : h_761.2.1 m_wkd = F_m_wkd := (funext fun j => (hs.a g_m_wkd rfl j).1).trans n_m_wkd
  replace n_aga : h_761.2.1 m_aga = F_aga := (funext fun j => (hs.a g_m_aga rfl j).1).trans n_aga
  replace n_ad : h_761.2.1 m_ad = F_ad := (funext fun j => (hs.a g_m_ad rfl j).1).trans n_ad
  replace n_by : h_761.2.1 m_by = F_by := (funext fun j => (hs.a g_m_by rfl j).1).trans n_by
  replace n_ho : h_761.2.1 m_ho = F_ho := (funext fun j => (hs.a g_m_ho rfl j).1).trans n_ho
  replace n_fc : h_761.2.1 m_fc = F_fc := (funext fun j => (hs.a g_m_fc rfl j).1).trans n_fc
  replace n_nt : h_761.2.1 m_nt = F_nt := (funext fun j => (hs.a g_m_nt rfl j).1).trans n_nt
  replace n_wt : h_761.2.1 m_wt = F_wt := (funext fun j => (hs.a g_m_wt rfl j).1).trans n_wt
  replace n_be : h_761.2.1 m_be = F_be := (funext fun j => (hs.a g_m_be rfl j).1).trans n_be
  replace n_bor : h_761.2.1 m_bor = F_bor := (funext fun j => (hs.a g_m_bor rfl j).1).trans n_bor
  replace n_kin : h_761.2.1 m_kin = F_kin := (funext fun j => (hs.a g_m_kin rfl j).1).trans n_kin
  replace n_sum : h_761.2.1 m_sum = F_sum := (funext fun j => (hs.a g_m_sum rfl j).1).trans n_sum
  replace n_fro : h_761.2.1 m_fro = F_fro := (funext fun j => (hs.a g_m_fro rfl j).1).trans n_fro
  replace n_fil : h_761.2.1 m_fil = F_fil := (funext fun j => (hs.a g_m_fil rfl j).1).trans n_fil
  replace n_jud : h_761.2.1 m_jud = F_jud := (funext fun j => (hs.a g_m_jud rfl j).1).trans n_jud
  replace n_ear : h_761.2.1 m_ear = F_ear := (funext fun j => (hs.a g_m_ear rfl j).1).trans n_ear
  replace n_hds : h_761.2.1 m_hds = F_hds := (funext fun j => (hs.a g_m_hds rfl j).1).trans n_hds
  replace n_ord : h_761.2.1 m_ord = F_ord := (funext fun j => (hs.a g_m_ord rfl j).1).trans n_ord
  replace n_wkl : h_761.2.1 m_wkl = F_wkl := (funext fun j => (hs.a g_m_wkl rfl j).1).trans n_wkl
  replace n_owd : h_761.2.1 m_owd = F_owd := (funext fun j => (hs.a g_m_owd rfl j).1).trans n_owd
  replace n_gds : h_761.2.1 m_gds = F_gds := (funext fun j => (hs.a g_m_gds rfl j).1).trans n_gds
  replace n_szd : h_761.2.1 m_szd = F_szd := (funext fun j => (hs.a g_m_szd rfl j).1).trans n_szd
  replace n_srv : h_761.2.1 m_srv = F_srv := (funext fun j => (hs.a g_m_srv rfl j).1).trans n_srv
  replace n_p0 : h_761.2.1 m_p0 = F_p0 := (funext fun j => (hs.a g_m_p0 rfl j).1).trans n_p0
  replace n_p1 : h_761.2.1 m_p1 = F_p1 := (funext fun j => (hs.a g_m_p1 rfl j).1).trans n_p1
  replace n_p2 : h_761.2.1 m_p2 = F_p2 := (funext fun j => (hs.a g_m_p2 rfl j).1).trans n_p2
  replace n_p3 : h_761.2.1 m_p3 = F_p3 := (funext fun j => (hs.a g_m_p3 rfl j).1).trans n_p3
  replace n_p4 : h_761.2.1 m_p4 = F_p4 := (funext fun j => (hs.a g_m_p4 rfl j).1).trans n_p4
  replace n_m_rl : h_761.2.1 m_rl = F_m_rl := (funext fun j => (hs.a g_m_rl rfl j).1).trans n_m_rl
  replace gx := gx.S hs
  replace gm := gm.S hs
  replace g_qa := g_qa.S hs
  replace g_qp := g_qp.S hs
  replace g_qc := g_qc.S hs
  replace g_qh := g_qh.S hs
  replace g_qw := g_qw.S hs
  replace g_ql := g_ql.S hs
  replace g_mw := g_mw.S hs
  replace g_mr := g_mr.S hs
  replace g_mp := g_mp.S hs
  replace g_mn := g_mn.S hs
  replace g_ml := g_ml.S hs
  replace g_mh := g_mh.S hs
  replace g_mt := g_mt.S hs
  replace g_m_fou := g_m_fou.S hs
  replace g_qo_ln := g_qo_ln.S hs
  replace g_qo_py := g_qo_py.S hs
  replace g_b_of := g_b_of.S hs
  replace g_m_of := g_m_of.S hs
  replace g_b_wf := g_b_wf.S hs
  replace g_m_wf := g_m_wf.S hs
  replace g_b_df := g_b_df.S hs
  replace g_m_df := g_m_df.S hs
  replace g_b_kf := g_b_kf.S hs
  replace g_m_kf := g_m_kf.S hs
  replace g_b_sf := g_b_sf.S hs
  replace g_m_sf := g_m_sf.S hs
  replace g_b_bf := g_b_bf.S hs
  replace g_m_lst := g_m_lst.S hs
  replace g_qtp := g_qtp.S hs
  replace g_m_tp := g_m_tp.S hs
  replace g_m_dead := g_m_dead.S hs
  replace g_m_isj := g_m_isj.S hs
  replace g_m_dox := g_m_dox.S hs
  replace g_m_doy := g_m_doy.S hs
  replace g_qlt := g_qlt.S hs
  replace g_qlf := g_qlf.S hs
  replace g_m_wkd := g_m_wkd.S hs
  replace g_m_aga := g_m_aga.S hs
  replace g_qwo := g_qwo.S hs
  replace g_m_ad := g_m_ad.S hs
  replace g_m_by := g_m_by.S hs
  replace g_m_ho := g_m_ho.S hs
  replace g_m_fc := g_m_fc.S hs
  replace g_m_nt := g_m_nt.S hs
  replace g_m_wt := g_m_wt.S hs
  replace g_m_be := g_m_be.S hs
  replace g_m_bor := g_m_bor.S hs
  replace g_m_kin := g_m_kin.S hs
  replace g_m_sum := g_m_sum.S hs
  replace g_m_fro := g_m_fro.S hs
  replace g_m_fil := g_m_fil.S hs
  replace g_m_jud := g_m_jud.S hs
  replace g_m_ear := g_m_ear.S hs
  replace g_m_hds := g_m_hds.S hs
  replace g_m_ord := g_m_ord.S hs
  replace g_m_wkl := g_m_wkl.S hs
  replace g_m_owd := g_m_owd.S hs
  replace g_m_gds := g_m_gds.S hs
  replace g_m_szd := g_m_szd.S hs
  replace g_m_srv := g_m_srv.S hs
  replace g_y_p0 := g_y_p0.S hs
  replace g_m_p0 := g_m_p0.S hs
  replace g_y_p1 := g_y_p1.S hs
  replace g_m_p1 := g_m_p1.S hs
  replace g_y_p2 := g_y_p2.S hs
  replace g_m_p2 := g_m_p2.S hs
  replace g_y_p3 := g_y_p3.S hs
  replace g_m_p3 := g_m_p3.S hs
  replace g_y_p4 := g_y_p4.S hs
  replace g_m_p4 := g_m_p4.S hs
  replace g_qrg9 := g_qrg9.S hs
  replace g_y_ls := g_y_ls.S hs
  replace g_m_rl := g_m_rl.S hs
  replace gq_756 := gq_756.S hs
  replace gq_757 := gq_757.S hs
  replace gq_758 := gq_758.S hs
  replace gq_759 := gq_759.S hs
  have fw_765 : h_761.2.1 qo_py 0 = w_765 := fw_765
  have bw_765 := hT.gi g_qo_py tt_3 (k := 0) rfl
  rw [fw_765] at bw_765
  have bw_765 : 0 ≤ w_765.toInt ∧ w_765.toInt ≤ 600 := bw_765
  have fw_766 : h_761.2.1 y_p0 = w_766 := fw_766
  have fw_767 : h_761.2.1 y_p1 = w_767 := fw_767
  have fw_768 : h_761.2.1 y_p2 = w_768 := fw_768
  have fw_769 : h_761.2.1 y_p3 = w_769 := fw_769
  have fw_770 : h_761.2.1 y_p4 = w_770 := fw_770
  have fw_771 : h_761.2.1 qrg9 0 = w_771 := fw_771
  have bw_771 := hT.gi g_qrg9 tt_7 (k := 0) rfl
  rw [fw_771] at bw_771
  have bw_771 : -1 ≤ w_771.toInt ∧ w_771.toInt ≤ 100 := bw_771
  have fw_772 : h_761.2.1 y_ls = w_772 := fw_772
  refine lv_pop hx hb dL_law_1199 rfl ?_
  refine lv_aload_n hx hb dL_law_1200 rfl (lv_at hl 1 rfl) ?_
  have hTo := hT
  obtain ⟨q_773, fq_773, gq_773⟩ := hx_rf hT gm tt_10 (k := 82) (u := 108) rfl
  obtain ⟨q_774, fq_774, gq_774⟩ := hx_rf hT gm tt_10 (k := 89) (u := 111) rfl
  obtain ⟨q_775, fq_775, gq_775⟩ := hx_rf hT gm tt_10 (k := 88) (u := 110) rfl
  refine hx_goi (hx_runV (As := []) (rest := []) ⟨hx, hb, hml, hown, hts⟩ hW gm tt_10 (T := TX10) (N := 98) rfl (t_X10_net_v l dC dI dA L_760 h_761 H.size am hT gm m_fou g_m_fou f_m_fou mh g_mh f_mh m_jud g_m_jud f_m_jud m_ord g_m_ord f_m_ord m_srv g_m_srv f_m_srv m_szd g_m_szd f_m_szd m_gds g_m_gds f_m_gds m_owd g_m_owd f_m_owd m_wkl g_m_wkl f_m_wkl ml g_ml f_ml mr g_mr f_mr m_p0 g_m_p0 f_m_p0 m_p1 g_m_p1 f_m_p1 m_p2 g_m_p2 f_m_p2 m_p3 g_m_p3 f_m_p3 m_p4 g_m_p4 f_m_p4 m_aga g_m_aga f_m_aga m_by g_m_by f_m_by q_773 gq_773 fq_773 q_774 gq_774 fq_774 q_775 gq_775 fq_775 m_rl g_m_rl f_m_rl F_m_fou n_m_fou F_mh n_mh F_jud n_jud F_ord n_ord F_srv n_srv F_szd n_szd F_gds n_gds F_owd n_owd F_wkl n_wkl F_ml n_ml F_mr n_mr F_p0 n_p0 F_p1 n_p1 F_p2 n_p2 F_p3 n_p3 F_p4 n_p4 F_aga n_aga F_by n_by c0 f_m_claims a0 f_m_acts nw f_m_now py f_m_payments np f_m_persons F_ad F_mn F_mp A9 hCA9 hPL hAB hCB hps hag9) (cwV 0 hts (hx_gV kw_1690 kw_1687 kw_1688 kw_1689 kw_103) rfl rfl rfl (by decide +kernel) ⟨Nat.le_of_ble_eq_true rfl, Nat.le_of_ble_eq_true rfl⟩) rfl hl.1 rfl (Nat.le_of_ble_eq_true rfl) dL_law_1201 ⟨(show CC + 0 + 0 ≤ 600000 from ?o13), (show SS + 0 + 0 ≤ 7302250 from ?o14)⟩) hW (fun r_778 L_776 h_777 H locs p_779 hW => ?_)
  case o13 => omega
  case o14 => omega
  obtain ⟨⟨w_781, w_782, w_783, w_784, w_785, w_786, w_787, w_788, w_789, fw_781, fw_782, fw_783, fw_784, fw_785, fw_786, fw_787, fw_788, fw_789, hr_780⟩, hT, hs⟩ := p_779
  replace hT : hx_T T_tb L_776 h_777 := hT
  replace hs : hx_S T_tb [(10, 59), (10, 67), (10, 68), (10, 69), (10, 70), (10, 71), (10, 83), (10, 84), (10, 86), (10, 87), (93, 0), (94, 0), (95, 0), (96, 0), (97, 0), (108, 0), (109, 0), (110, 0), (111, 0)] L_760 h_761 L_776 h_777 := hs
  replace f_qa := (hs.o gx trivial rfl).2.trans f_qa
  replace f_qp := (hs.o gx trivial rfl).2.trans f_qp
  replace f_qc := (hs.o gx trivial rfl).2.trans f_qc
  replace f_qh := (hs.o gx trivial rfl).2.trans f_qh
  replace f_qw := (hs.o gx trivial rfl).2.trans f_qw
  replace f_ql := (hs.o g_qw trivial rfl).2.trans f_ql
  replace f_m_now := (hs.o gm trivial rfl).1.trans f_m_now
  replace f_m_persons := (hs.o gm trivial rfl).1.trans f_m_persons
  replace f_m_claims := (hs.o gm trivial rfl).1.trans f_m_claims
  replace f_m_taped := (hs.o gm trivial rfl).1.trans f_m_taped
  replace f_m_acts := (hs.o gm trivial rfl).1.trans f_m_acts
  replace f_m_heardMany := (hs.o gm trivial rfl).1.trans f_m_heardMany
  replace f_m_lines := (hs.o gm trivial rfl).1.trans f_m_lines
  replace f_m_listed := (hs.o gm trivial rfl).1.trans f_m_listed
  replace f_m_walkedMany := (hs.o gm trivial rfl).1.trans f_m_walkedMany
  replace f_x_now := (hs.o gx trivial rfl).1.trans f_x_now
  replace f_x_personCount := (hs.o gx trivial rfl).1.trans f_x_personCount
  replace f_x_claimCount := (hs.o gx trivial rfl).1.trans f_x_claimCount
  replace f_x_tapeLength := (hs.o gx trivial rfl).1.trans f_x_tapeLength
  replace f_x_actCount := (hs.o gx trivial rfl).1.trans f_x_actCount
  replace f_x_heardCount := (hs.o gx trivial rfl).1.trans f_x_heardCount
  replace f_mw := (hs.o gm trivial rfl).2.trans f_mw
  replace f_mr := (hs.o gm trivial rfl).2.trans f_mr
  replace f_mp := (hs.o gm trivial rfl).2.trans f_mp
  replace f_mn := (hs.o gm trivial rfl).2.trans f_mn
  replace f_ml := (hs.o gm trivial rfl).2.trans f_ml
  replace f_mh := (hs.o gm trivial rfl).2.trans f_mh
  replace f_mt := (hs.o gm trivial rfl).2.trans f_mt
  replace f_m_fou := (hs.o gm trivial rfl).2.trans f_m_fou
  replace f_qo_ln := (hs.o gx trivial rfl).2.trans f_qo_ln
  replace f_o_ln := (hs.o g_qo_ln trivial rfl).1.trans f_o_ln
  replace f_o_lsd := (hs.o g_qw trivial rfl).1.trans f_o_lsd
  replace f_o_wkm := (hs.o g_qw trivial rfl).1.trans f_o_wkm
  replace f_qo_py := (hs.o gx trivial rfl).2.trans f_qo_py
  replace f_b_of := (hs.o g_qo_ln trivial rfl).2.trans f_b_of
  replace f_m_of := (hs.o gm trivial rfl).2.trans f_m_of
  replace f_b_wf := (hs.o g_qo_ln trivial rfl).2.trans f_b_wf
  replace f_m_wf := (hs.o gm trivial rfl).2.trans f_m_wf
  replace f_b_df := (hs.o g_qo_ln trivial rfl).2.trans f_b_df
  replace f_m_df := (hs.o gm trivial rfl).2.trans f_m_df
  replace f_b_kf := (hs.o g_qo_ln trivial rfl).2.trans f_b_kf
  replace f_m_kf := (hs.o gm trivial rfl).2.trans f_m_kf
  replace f_b_sf := (hs.o g_qo_ln trivial rfl).2.trans f_b_sf
  replace f_m_sf := (hs.o gm trivial rfl).2.trans f_m_sf
  replace f_b_bf := (hs.o g_qo_ln trivial rfl).2.trans f_b_bf
  replace f_m_lst := (hs.o gm trivial rfl).2.trans f_m_lst
  replace f_qtp := (hs.o gx trivial rfl).2.trans f_qtp
  replace f_m_tp := (hs.o gm trivial rfl).2.trans f_m_tp
  replace f_m_dead := (hs.o gm trivial rfl).2.trans f_m_dead
  replace f_m_isj := (hs.o gm trivial rfl).2.trans f_m_isj
  replace f_m_dox := (hs.o gm trivial rfl).2.trans f_m_dox
  replace f_m_doy := (hs.o gm trivial rfl).2.trans f_m_doy
  replace f_qlt := (hs.o g_qw trivial rfl).2.trans f_qlt
  replace f_qlf := (hs.o g_qw trivial rfl).2.trans f_qlf
  replace f_m_wkd := (hs.o gm trivial rfl).2.trans f_m_wkd
  replace f_m_aga := (hs.o gm trivial rfl).2.trans f_m_aga
  replace f_qwo := (hs.o gx trivial rfl).2.trans f_qwo
  replace f_m_ad := (hs.o gm trivial rfl).2.trans f_m_ad
  replace f_m_by := (hs.o gm trivial rfl).2.trans f_m_by
  replace f_m_ho := (hs.o gm trivial rfl).2.trans f_m_ho
  replace f_m_fc := (hs.o gm trivial rfl).2.trans f_m_fc
  replace f_m_nt := (hs.o gm trivial rfl).2.trans f_m_nt
  replace f_m_wt := (hs.o gm trivial rfl).2.trans f_m_wt
  replace f_m_be := (hs.o gm trivial rfl).2.trans f_m_be
  replace f_m_bor := (hs.o gm trivial rfl).2.trans f_m_bor
  replace f_m_kin := (hs.o gm trivial rfl).2.trans f_m_kin
  replace f_m_sum := (hs.o gm trivial rfl).2.trans f_m_sum
  replace f_m_fro := (hs.o gm trivial rfl).2.trans f_m_fro
  replace f_m_fil := (hs.o gm trivial rfl).2.trans f_m_fil
  replace f_m_jud := (hs.o gm trivial rfl).2.trans f_m_jud
  replace f_m_ear := (hs.o gm trivial rfl).2.trans f_m_ear
  replace f_m_hds := (hs.o gm trivial rfl).2.trans f_m_hds
  replace f_m_ord := (hs.o gm trivial rfl).2.trans f_m_ord
  replace f_m_wkl := (hs.o gm trivial rfl).2.trans f_m_wkl
  replace f_m_owd := (hs.o gm trivial rfl).2.trans f_m_owd
  replace f_m_gds := (hs.o gm trivial rfl).2.trans f_m_gds
  replace f_m_szd := (hs.o gm trivial rfl).2.trans f_m_szd
  replace f_m_srv := (hs.o gm trivial rfl).2.trans f_m_srv
  replace f_y_p0 := (hs.o g_qo_py trivial rfl).2.trans f_y_p0
  replace f_m_p0 := (hs.o gm trivial rfl).2.trans f_m_p0
  replace f_y_p1 := (hs.o g_qo_py trivial rfl).2.trans f_y_p1
  replace f_m_p1 := (hs.o gm trivial rfl).2.trans f_m_p1
  replace f_y_p2 := (hs.o g_qo_py trivial rfl).2.trans f_y_p2
  replace f_m_p2 := (hs.o gm trivial rfl).2.trans f_m_p2
  replace f_y_p3 := (hs.o g_qo_py trivial rfl).2.trans f_y_p3
  replace f_m_p3 := (hs.o gm trivial rfl).2.trans f_m_p3
  replace f_y_p4 := (hs.o g_qo_py trivial rfl).2.trans f_y_p4
  replace f_m_p4 := (hs.o gm trivial rfl).2.trans f_m_p4
  replace f_qrg9 := (hs.o gx trivial rfl).2.trans f_qrg9
  replace f_y_ls := (hs.o g_qrg9 trivial rfl).2.trans f_y_ls
  replace f_m_rl := (hs.o gm trivial rfl).2.trans f_m_rl
  replace fq_756 := (hs.o g_qrg9 trivial rfl).2.trans fq_756
  replace fq_757 := (hs.o g_qrg9 trivial rfl).2.trans fq_757
  replace fq_758 := (hs.o gx trivial rfl).2.trans fq_758
  replace fq_759 := (hs.o g_qrg9 trivial rfl).2.trans fq_759
  replace fw_765 := (hs.o g_qo_py trivial rfl).1.trans fw_765
  replace fw_771 := (hs.o g_qrg9 trivial rfl).1.trans fw_771
  replace fq_773 := (hs.o gm trivial rfl).2.trans fq_773
  replace fq_774 := (hs.o gm trivial rfl).2.trans fq_774
  replace fq_775 := (hs.o gm trivial rfl).2.trans fq_775
  replace pf_qa : ∀ j : Nat, (j : Int) < (h_777.2.1 ax 6).toInt → h_777.2.2 qa j ≠ none := by
    intro j hj; rw [(hs.o gx trivial rfl).1] at hj; rw [(hs.a g_qa rfl j).2]; exact pf_qa j hj
  replace pf_qp : ∀ j : Nat, (j : Int) < (h_777.2.1 ax 8).toInt → h_777.2.2 qp j ≠ none := by
    intro j hj; rw [(hs.o gx trivial rfl).1] at hj; rw [(hs.a g_qp rfl j).2]; exact pf_qp j hj
  replace pf_qc : ∀ j : Nat, (j : Int) < (h_777.2.1 ax 11).toInt → h_777.2.2 qc j ≠ none := by
    intro j hj; rw [(hs.o gx trivial rfl).1] at hj; rw [(hs.a g_qc rfl j).2]; exact pf_qc j hj
  replace pf_qh : ∀ j : Nat, (j : Int) < (h_777.2.1 ax 13).toInt → h_777.2.2 qh j ≠ none := by
    intro j hj; rw [(hs.o gx trivial rfl).1] at hj; rw [(hs.a g_qh rfl j).2]; exact pf_qh j hj
  replace pf_ql : ∀ j : Nat, (j : Int) < (h_777.2.1 qw 0).toInt → h_777.2.2 ql j ≠ none := by
    intro j hj; rw [(hs.o g_qw trivial rfl).1] at hj; rw [(hs.a g_ql rfl j).2]; exact pf_ql j hj
  replace cl_lst : hx_col 8 h_777 ql 0 = c_lst := (hx_col_S hs hTo g_ql tt_40 tt_2 rfl rfl).trans cl_lst
  replace cl_dead : hx_col 40 h_777 qp 7 = c_dead := (hx_col_S hs hTo g_qp tt_44 tt_4 rfl rfl).trans cl_dead
  replace cl_isj : hx_col 40 h_777 qp 8 = c_isj := (hx_col_S hs hTo g_qp tt_44 tt_4 rfl rfl).trans cl_isj
  replace cl_dox : hx_col 40 h_777 qp 5 = c_dox := (hx_col_S hs hTo g_qp tt_44 tt_4 rfl rfl).trans cl_dox
  replace cl_doy : hx_col 40 h_777 qp 6 = c_doy := (hx_col_S hs hTo g_qp tt_44 tt_4 rfl rfl).trans cl_doy
  replace cl_fou : hx_col 100 h_777 qc 10 = c_fou := (hx_col_S hs hTo g_qc tt_45 tt_2 rfl rfl).trans cl_fou
  replace cl_tri : hx_col 100 h_777 qc 9 = c_tri := (hx_col_S hs hTo g_qc tt_45 tt_2 rfl rfl).trans cl_tri
  replace cl_bor : hx_col 40 h_777 qp 1 = F_bor := (hx_col_S hs hTo g_qp tt_44 tt_4 rfl rfl).trans cl_bor
  replace cl_kin : hx_col 40 h_777 qp 2 = F_kin := (hx_col_S hs hTo g_qp tt_44 tt_4 rfl rfl).trans cl_kin
  replace cl_sum : hx_col 100 h_777 qc 6 = F_sum := (hx_col_S hs hTo g_qc tt_45 tt_2 rfl rfl).trans cl_sum
  replace cl_fro : hx_col 100 h_777 qc 7 = F_fro := (hx_col_S hs hTo g_qc tt_45 tt_2 rfl rfl).trans cl_fro
  replace cl_fil : hx_col 100 h_777 qc 8 = F_fil := (hx_col_S hs hTo g_qc tt_45 tt_2 rfl rfl).trans cl_fil
  replace cl_hea : hx_col 100 h_777 qc 11 = F_mh := (hx_col_S hs hTo g_qc tt_45 tt_2 rfl rfl).trans cl_hea
  replace cl_jud : hx_col 100 h_777 qc 12 = F_jud := (hx_col_S hs hTo g_qc tt_45 tt_2 rfl rfl).trans cl_jud
  replace cl_ear : hx_col 40 h_777 qp 3 = F_ear := (hx_col_S hs hTo g_qp tt_44 tt_4 rfl rfl).trans cl_ear
  replace cl_hds : hx_col 40 h_777 qp 4 = F_hds := (hx_col_S hs hTo g_qp tt_44 tt_4 rfl rfl).trans cl_hds
  replace cl_ord : hx_col 100 h_777 qc 13 = F_ord := (hx_col_S hs hTo g_qc tt_45 tt_2 rfl rfl).trans cl_ord
  replace cl_wkl : hx_col 100 h_777 qc 14 = F_wkl := (hx_col_S hs hTo g_qc tt_45 tt_2 rfl rfl).trans cl_wkl
  replace cl_owd : hx_col 100 h_777 qc 15 = F_owd := (hx_col_S hs hTo g_qc tt_45 tt_2 rfl rfl).trans cl_owd
  replace cl_gds : hx_col 100 h_777 qc 17 = F_gds := (hx_col_S hs hTo g_qc tt_45 tt_2 rfl rfl).trans cl_gds
  replace cl_szd : hx_col 100 h_777 qc 16 = F_szd := (hx_col_S hs hTo g_qc tt_45 tt_2 rfl rfl).trans cl_szd
  replace cl_srv : hx_col 100 h_777 qc 18 = F_srv := (hx_col_S hs hTo g_qc tt_45 tt_2 rfl rfl).trans cl_srv
  replace nu_qp : hx_num 40 h_777 qp 0 (np.toInt) := hx_num_S hs hTo g_qp tt_44 tt_4 rfl rfl nu_qp
  replace nu_qc : hx_num 100 h_777 qc 0 (c0.toInt) := hx_num_S hs hTo g_qc tt_45 tt_2 rfl rfl nu_qc
  replace sb_list : hx_LQ 8 100 h_777 ql qc := hx_LQ_S hs g_ql g_qc rfl rfl sb_list
  replace hDF : hw_DF h_777 qc qp 2 F_aga c0.toInt := hw_DF_S hs hTo g_qc g_qp tt_45 tt_2 rfl rfl rfl hDF
  replace hRA9 : hv_RA h_777 qa qwo a0.toInt A9 := hv_RA_S hs hTo g_qa g_qwo tt_43 tt_0 rfl rfl rfl rfl rfl rfl ?o15 hRA9
  case o15 => omega
  replace hDP : hw_DF h_777 qc qp 1 F_by c0.toInt := hw_DF_S hs hTo g_qc g_qp tt_45 tt_2 rfl rfl rfl hDP
  replace hAC9 : hv_AC h_777 qc F_ml c0.toInt A9 := hv_AC_S hs hTo g_qc tt_45 tt_2 rfl tt_0 rfl rfl rfl rfl rfl rfl rfl hAC9
  replace hFX : hv_FX 8 4 h_777 qc cF9L c0.toInt := hv_FX_S hs hTo g_qc tt_45 tt_2 rfl rfl rfl rfl hFX
  replace hBX : hv_FX 3 5 h_777 qc F_be c0.toInt := hv_FX_S hs hTo g_qc tt_45 tt_2 rfl rfl rfl rfl hBX
  replace hHL : hv_HL h_777 qh qc F_ho m0.toInt c0.toInt := hv_HL_S hs g_qh g_qc rfl rfl hHL
  replace n_mw : h_777.2.1 mw = F_mw := (funext fun j => (hs.a g_mw rfl j).1).trans n_mw
  replace n_mr : h_777.2.1 mr = F_mr := (funext fun j => (hs.a g_mr rfl j).1).trans n_mr
  replace n_mp : h_777.2.1 mp = F_mp := (funext fun j => (hs.a g_mp rfl j).1).trans n_mp
  replace n_mn : h_777.2.1 mn = F_mn := (funext fun j => (hs.a g_mn rfl j).1).trans n_mn
  replace n_ml : h_777.2.1 ml = F_ml := (funext fun j => (hs.a g_ml rfl j).1).trans n_ml
  replace n_mh : h_777.2.1 mh = F_mh := (funext fun j => (hs.a g_mh rfl j).1).trans n_mh
  replace n_mt : h_777.2.1 mt = F_mt := (funext fun j => (hs.a g_mt rfl j).1).trans n_mt
  replace n_m_fou : h_777.2.1 m_fou = F_m_fou := (funext fun j => (hs.a g_m_fou rfl j).1).trans n_m_fou
  replace n_b_of : h_777.2.1 b_of = B_of := (funext fun j => (hs.a g_b_of rfl j).1).trans n_b_of
  replace n_m_of : h_777.2.1 m_of = F_of := (funext fun j => (hs.a g_m_of rfl j).1).trans n_m_of
  replace n_b_wf : h_777.2.1 b_wf = B_wf := (funext fun j => (hs.a g_b_wf rfl j).1).trans n_b_wf
  replace n_m_wf : h_777.2.1 m_wf = F_wf := (funext fun j => (hs.a g_m_wf rfl j).1).trans n_m_wf
  replace n_b_df : h_777.2.1 b_df = B_df := (funext fun j => (hs.a g_b_df rfl j).1).trans n_b_df
  replace n_m_df : h_777.2.1 m_df = F_df := (funext fun j => (hs.a g_m_df rfl j).1).trans n_m_df
  replace n_b_kf : h_777.2.1 b_kf = B_kf := (funext fun j => (hs.a g_b_kf rfl j).1).trans n_b_kf
  replace n_m_kf : h_777.2.1 m_kf = F_kf := (funext fun j => (hs.a g_m_kf rfl j).1).trans n_m_kf
  replace n_b_sf : h_777.2.1 b_sf = B_sf := (funext fun j => (hs.a g_b_sf rfl j).1).trans n_b_sf
  replace n_m_sf : h_777.2.1 m_sf = F_sf := (funext fun j => (hs.a g_m_sf rfl j).1).trans n_m_sf
  replace n_b_bf : h_777.2.1 b_bf = bfL := (funext fun j => (hs.a g_b_bf rfl j).1).trans n_b_bf
  replace n_lst : h_777.2.1 m_lst = F_lst := (funext fun j => (hs.a g_m_lst rfl j).1).trans n_lst
  replace n_tp : h_777.2.1 m_tp = F_tp := (funext fun j => (hs.a g_m_tp rfl j).1).trans n_tp
  replace n_qtp : h_777.2.1 qtp = F_tp := (funext fun j => (hs.a g_qtp rfl j).1).trans n_qtp
  replace n_dead : h_777.2.1 m_dead = F_dead := (funext fun j => (hs.a g_m_dead rfl j).1).trans n_dead
  replace n_isj : h_777.2.1 m_isj = F_isj := (funext fun j => (hs.a g_m_isj rfl j).1).trans n_isj
  replace n_dox : h_777.2.1 m_dox = F_dox := (funext fun j => (hs.a g_m_dox rfl j).1).trans n_dox
  replace n_doy : h_777.2.1 m_doy = F_doy := (funext fun j => (hs.a g_m_doy rfl j).1).trans n_doy
  replace n_qlt : h_777.2.1 qlt = F_qlt := (funext fun j => (hs.a g_qlt rfl j).1).trans n_qlt
  replace n_m_wkd : h_777.2.1 m_wkd = F_m_wkd := (funext fun j => (hs.a g_m_wkd rfl j).1).trans n_m_wkd
  replace n_aga : h_777.2.1 m_aga = F_aga := (funext fun j => (hs.a g_m_aga rfl j).1).trans n_aga
  replace n_ad : h_777.2.1 m_ad = F_ad := (funext fun j => (hs.a g_m_ad rfl j).1).trans n_ad
  replace n_by : h_777.2.1 m_by = F_by := (funext fun j => (hs.a g_m_by rfl j).1).trans n_by
  replace n_ho : h_777.2.1 m_ho = F_ho := (funext fun j => (hs.a g_m_ho rfl j).1).trans n_ho
  replace n_fc : h_777.2.1 m_fc = F_fc := (funext fun j => (hs.a g_m_fc rfl j).1).trans n_fc
  replace n_nt : h_777.2.1 m_nt = F_nt := (funext fun j => (hs.a g_m_nt rfl j).1).trans n_nt
  replace n_wt : h_777.2.1 m_wt = F_wt := (funext fun j => (hs.a g_m_wt rfl j).1).trans n_wt
  replace n_be : h_777.2.1 m_be = F_be := (funext fun j => (hs.a g_m_be rfl j).1).trans n_be
  replace n_bor : h_777.2.1 m_bor = F_bor := (funext fun j => (hs.a g_m_bor rfl j).1).trans n_bor
  replace n_kin : h_777.2.1 m_kin = F_kin := (funext fun j => (hs.a g_m_kin rfl j).1).trans n_kin
  replace n_sum : h_777.2.1 m_sum = F_sum := (funext fun j => (hs.a g_m_sum rfl j).1).trans n_sum
  replace n_fro : h_777.2.1 m_fro = F_fro := (funext fun j => (hs.a g_m_fro rfl j).1).trans n_fro
  replace n_fil : h_777.2.1 m_fil = F_fil := (funext fun j => (hs.a g_m_fil rfl j).1).trans n_fil
  replace n_jud : h_777.2.1 m_jud = F_jud := (funext fun j => (hs.a g_m_jud rfl j).1).trans n_jud
  replace n_ear : h_777.2.1 m_ear = F_ear := (funext fun j => (hs.a g_m_ear rfl j).1).trans n_ear
  replace n_hds : h_777.2.1 m_hds = F_hds := (funext fun j => (hs.a g_m_hds rfl j).1).trans n_hds
  replace n_ord : h_777.2.1 m_ord = F_ord := (funext fun j => (hs.a g_m_ord rfl j).1).trans n_ord
  replace n_wkl : h_777.2.1 m_wkl = F_wkl := (funext fun j => (hs.a g_m_wkl rfl j).1).trans n_wkl
  replace n_owd : h_777.2.1 m_owd = F_owd := (funext fun j => (hs.a g_m_owd rfl j).1).trans n_owd
  replace n_gds : h_777.2.1 m_gds = F_gds := (funext fun j => (hs.a g_m_gds rfl j).1).trans n_gds
  replace n_szd : h_777.2.1 m_szd = F_szd := (funext fun j => (hs.a g_m_szd rfl j).1).trans n_szd
  replace n_srv : h_777.2.1 m_srv = F_srv := (funext fun j => (hs.a g_m_srv rfl j).1).trans n_srv
  replace fw_766 : h_777.2.1 y_p0 = w_766 := (funext fun j => (hs.a g_y_p0 rfl j).1).trans fw_766
  replace fw_767 : h_777.2.1 y_p1 = w_767 := (funext fun j => (hs.a g_y_p1 rfl j).1).trans fw_767
  replace fw_768 : h_777.2.1 y_p2 = w_768 := (funext fun j => (hs.a g_y_p2 rfl j).1).trans fw_768
  replace fw_769 : h_777.2.1 y_p3 = w_769 := (funext fun j => (hs.a g_y_p3 rfl j).1).trans fw_769
  replace fw_770 : h_777.2.1 y_p4 = w_770 := (funext fun j => (hs.a g_y_p4 rfl j).1).trans fw_770
  replace fw_772 : h_777.2.1 y_ls = w_772 := (funext fun j => (hs.a g_y_ls rfl j).1).trans fw_772
  replace gx := gx.S hs
  replace gm := gm.S hs
  replace g_qa := g_qa.S hs
  replace g_qp := g_qp.S hs
  replace g_qc := g_qc.S hs
  replace g_qh := g_qh.S hs
  replace g_qw := g_qw.S hs
  replace g_ql := g_ql.S hs
  replace g_mw := g_mw.S hs
  replace g_mr := g_mr.S hs
  replace g_mp := g_mp.S hs
  replace g_mn := g_mn.S hs
  replace g_ml := g_ml.S hs
  replace g_mh := g_mh.S hs
  replace g_mt := g_mt.S hs
  replace g_m_fou := g_m_fou.S hs
  replace g_qo_ln := g_qo_ln.S hs
  replace g_qo_py := g_qo_py.S hs
  replace g_b_of := g_b_of.S hs
  replace g_m_of := g_m_of.S hs
  replace g_b_wf := g_b_wf.S hs
  replace g_m_wf := g_m_wf.S hs
  replace g_b_df := g_b_df.S hs
  replace g_m_df := g_m_df.S hs
  replace g_b_kf := g_b_kf.S hs
  replace g_m_kf := g_m_kf.S hs
  replace g_b_sf := g_b_sf.S hs
  replace g_m_sf := g_m_sf.S hs
  replace g_b_bf := g_b_bf.S hs
  replace g_m_lst := g_m_lst.S hs
  replace g_qtp := g_qtp.S hs
  replace g_m_tp := g_m_tp.S hs
  replace g_m_dead := g_m_dead.S hs
  replace g_m_isj := g_m_isj.S hs
  replace g_m_dox := g_m_dox.S hs
  replace g_m_doy := g_m_doy.S hs
  replace g_qlt := g_qlt.S hs
  replace g_qlf := g_qlf.S hs
  replace g_m_wkd := g_m_wkd.S hs
  replace g_m_aga := g_m_aga.S hs
  replace g_qwo := g_qwo.S hs
  replace g_m_ad := g_m_ad.S hs
  replace g_m_by := g_m_by.S hs
  replace g_m_ho := g_m_ho.S hs
  replace g_m_fc := g_m_fc.S hs
  replace g_m_nt := g_m_nt.S hs
  replace g_m_wt := g_m_wt.S hs
  replace g_m_be := g_m_be.S hs
  replace g_m_bor := g_m_bor.S hs
  replace g_m_kin := g_m_kin.S hs
  replace g_m_sum := g_m_sum.S hs
  replace g_m_fro := g_m_fro.S hs
  replace g_m_fil := g_m_fil.S hs
  replace g_m_jud := g_m_jud.S hs
  replace g_m_ear := g_m_ear.S hs
  replace g_m_hds := g_m_hds.S hs
  replace g_m_ord := g_m_ord.S hs
  replace g_m_wkl := g_m_wkl.S hs
  replace g_m_owd := g_m_owd.S hs
  replace g_m_gds := g_m_gds.S hs
  replace g_m_szd := g_m_szd.S hs
  replace g_m_srv := g_m_srv.S hs
  replace g_y_p0 := g_y_p0.S hs
  replace g_m_p0 := g_m_p0.S hs
  replace g_y_p1 := g_y_p1.S hs
  replace g_m_p1 := g_m_p1.S hs
  replace g_y_p2 := g_y_p2.S hs
  replace g_m_p2 := g_m_p2.S hs
  replace g_y_p3 := g_y_p3.S hs
  replace g_m_p3 := g_m_p3.S hs
  replace g_y_p4 := g_y_p4.S hs
  replace g_m_p4 := g_m_p4.S hs
  replace g_qrg9 := g_qrg9.S hs
  replace g_y_ls := g_y_ls.S hs
  replace g_m_rl := g_m_rl.S hs
  replace gq_756 := gq_756.S hs
  replace gq_757 := gq_757.S hs
  replace gq_758 := gq_758.S hs
  replace gq_759 := gq_759.S hs
  replace gq_773 := gq_773.S hs
  replace gq_774 := gq_774.S hs
  replace gq_775 := gq_775.S hs
  have fw_781 : h_777.2.1 am 59 = w_781 := fw_781
  have bw_781 := hT.gi gm tt_10 (k := 59) rfl
  rw [fw_781] at bw_781
  have bw_781 : 0 ≤ w_781.toInt ∧ w_781.toInt ≤ 600 := bw_781
  have fw_782 : h_777.2.1 m_p0 = w_782 := fw_782
  have fw_783 : h_777.2.1 m_p1 = w_783 := fw_783
  have fw_784 : h_777.2.1 m_p2 = w_784 := fw_784
  have fw_785 : h_777.2.1 m_p3 = w_785 := fw_785
  have fw_786 : h_777.2.1 m_p4 = w_786 := fw_786
  have fw_787 : h_777.2.1 am 84 = w_787 := fw_787
  have bw_787 := hT.gi gm tt_10 (k := 84) rfl
  rw [fw_787] at bw_787
  have bw_787 : 0 ≤ w_787.toInt ∧ w_787.toInt ≤ 300 := bw_787
  have fw_788 : h_777.2.1 m_rl = w_788 := fw_788
  have fw_789 : h_777.2.1 am 83 = w_789 := fw_789
  have bw_789 := hT.gi gm tt_10 (k := 83) rfl
  rw [fw_789] at bw_789
  have bw_789 : 0 ≤ w_789.toInt ∧ w_789.toInt ≤ 1 := bw_789
  refine lv_pop hx hb dL_law_1204 rfl ?_
  refine lv_goto (tgt := 1379) hx hb dL_law_1205 ?o16 ?_
  case o16 => decide
  obtain ⟨hQ9, heq, hct9, hls9⟩ := hz_NR_eq hr_764 hr_780.2
  have hq_p0 : w_766 = w_782 := congrArg (fun z : hz_P => z.1) hQ9
  have hq_p1 : w_767 = w_783 := congrArg (fun z : hz_P => z.2.1) hQ9
  have hq_p2 : w_768 = w_784 := congrArg (fun z : hz_P => z.2.2.1) hQ9
  have hq_p3 : w_769 = w_785 := congrArg (fun z : hz_P => z.2.2.2.1) hQ9
  have hq_p4 : w_770 = w_786 := congrArg (fun z : hz_P => z.2.2.2.2.1) hQ9
  have hq_py : w_765 = w_781 := ?o17
  case o17 =>
    have h9 : w_765.toInt.toNat = w_781.toInt.toNat := congrArg (fun z : hz_P => z.2.2.2.2.2) hQ9
    refine Int32.toInt_inj.mp ?o18
    case o18 => omega
  have hNQn9 : hz_NQ w_771.toInt w_789.toInt w_787.toInt := Or.inr ⟨by have h9 := hr_780.1; omega, hct9⟩
  refine W.widen (k := CC + 3) (n := SS + 179) ?o19 ?o20 ?_
  case o19 => omega
  case o20 => omega
  refine kk L_776 h_777 H locs ls hW ⟨hT, gx, gm, ⟨f_x_now.trans f_m_now.symm, f_x_personCount.trans f_m_persons.symm, f_x_claimCount.trans f_m_claims.symm, f_x_tapeLength.trans f_m_taped.symm, f_x_actCount.trans f_m_acts.symm, f_x_heardCount.trans f_m_heardMany.symm, hx_ob f_qo_ln (f_o_ln.trans f_m_lines.symm), hx_ob f_qw (f_o_lsd.trans f_m_listed.symm), hx_ob f_qw (f_o_wkm.trans f_m_walkedMany.symm), hx_ob f_qo_py ((fw_765.trans hq_py).trans fw_781.symm), hx_ob f_qp ?o21, hx_ob f_qc ?o22, (fun b a r hb ha hr => ?o23), (fun b a r hb ha hr => ?o24), (fun b a r hb ha hr => ?o25), (fun b a r hb ha hr => ?o26), (fun b a r hb ha hr => ?o27), (fun b a r hb ha hr => ?o28), (fun w q c hw hq hc => ?o29), (fun w q r hw hq hr => ?o30), (fun w q r hw hq hr => ?o31), (fun c q a hc hq ha => ?o32), (fun q r hq hr => ?o33), (fun q w a b c d e p hq hw ha hb hc hd he hp => ?o34), (fun c q a hc hq ha => ?o35), (fun q c a hq hc ha => ?o36), (fun a b ha hb => ?o37), (fun c a b d e f hc ha hb hd he hf => ?o38), (fun c a hc ha => ?o39), hx_ob2 f_qp f_m_bor (cl_bor.trans n_bor.symm), hx_ob2 f_qp f_m_kin (cl_kin.trans n_kin.symm), hx_ob2 f_qc f_m_sum (cl_sum.trans n_sum.symm), hx_ob2 f_qc f_m_fro (cl_fro.trans n_fro.symm), hx_ob2 f_qc f_m_fil (cl_fil.trans n_fil.symm), hx_ob2 f_qc f_mh (cl_hea.trans n_mh.symm), hx_ob2 f_qc f_m_jud (cl_jud.trans n_jud.symm), hx_ob2 f_qp f_m_ear (cl_ear.trans n_ear.symm), hx_ob2 f_qp f_m_hds (cl_hds.trans n_hds.symm), hx_ob2 f_qc f_m_ord (cl_ord.trans n_ord.symm), hx_ob2 f_qc f_m_wkl (cl_wkl.trans n_wkl.symm), hx_ob2 f_qc f_m_owd (cl_owd.trans n_owd.symm), hx_ob2 f_qc f_m_gds (cl_gds.trans n_gds.symm), hx_ob2 f_qc f_m_szd (cl_szd.trans n_szd.symm), hx_ob2 f_qc f_m_srv (cl_srv.trans n_srv.symm), (fun p q r hp hq hr => ?o40), (fun p q r hp hq hr => ?o41), (fun p q r hp hq hr => ?o42), (fun p q r hp hq hr => ?o43), (fun p q r hp hq hr => ?o44), (fun p hp => ?o45), (fun p q r hp hq hr => ?o46), hx_ob2 f_qp f_m_dead ?o47, hx_ob2 f_qp f_m_isj ?o48, hx_ob2 f_qp f_m_dox ?o49, hx_ob2 f_qp f_m_doy ?o50, hx_ob2 f_qc f_m_fou ?o51, hx_ob2 f_qc f_mt ?o52, trivial⟩, ⟨hx_ob f_qa pf_qa, hx_ob f_qp pf_qp, hx_ob f_qc pf_qc, hx_ob f_qh pf_qh, (fun w q hw hq => ?o53)⟩, ⟨hx_ob f_mw ?o54, hx_ob f_mr ?o55, hx_ob2 f_mp f_mn ?o56, hx_ob f_ml ?o57, hx_ob f_mh ?o58, hx_ob f_mt ?o59, hx_ob2 f_mh f_m_fou ?o61⟩⟩ hl
  case o21 =>
    rw [f_x_personCount]
    exact nu_qp
  case o22 =>
    rw [f_x_claimCount]
    exact nu_qc
  case o23 =>
    obtain rfl : qo_ln = b := Option.some.inj (f_qo_ln.symm.trans hb)
    obtain rfl : b_of = a := Option.some.inj (f_b_of.symm.trans ha)
    obtain rfl : m_of = r := Option.some.inj (f_m_of.symm.trans hr)
    rw [n_b_of, n_m_of, f_o_ln]
    exact eb_of
  case o24 =>
    obtain rfl : qo_ln = b := Option.some.inj (f_qo_ln.symm.trans hb)
    obtain rfl : b_wf = a := Option.some.inj (f_b_wf.symm.trans ha)
    obtain rfl : m_wf = r := Option.some.inj (f_m_wf.symm.trans hr)
    rw [n_b_wf, n_m_wf, f_o_ln]
    exact eb_wf
  case o25 =>
    obtain rfl : qo_ln = b := Option.some.inj (f_qo_ln.symm.trans hb)
    obtain rfl : b_df = a := Option.some.inj (f_b_df.symm.trans ha)
    obtain rfl : m_df = r := Option.some.inj (f_m_df.symm.trans hr)
    rw [n_b_df, n_m_df, f_o_ln]
    exact eb_df
  case o26 =>
    obtain rfl : qo_ln = b := Option.some.inj (f_qo_ln.symm.trans hb)
    obtain rfl : b_kf = a := Option.some.inj (f_b_kf.symm.trans ha)
    obtain rfl : m_kf = r := Option.some.inj (f_m_kf.symm.trans hr)
    rw [n_b_kf, n_m_kf, f_o_ln]
    exact eb_kf
  case o27 =>
    obtain rfl : qo_ln = b := Option.some.inj (f_qo_ln.symm.trans hb)
    obtain rfl : b_sf = a := Option.some.inj (f_b_sf.symm.trans ha)
    obtain rfl : m_sf = r := Option.some.inj (f_m_sf.symm.trans hr)
    rw [n_b_sf, n_m_sf, f_o_ln]
    exact eb_sf
  case o28 =>
    obtain rfl : qo_ln = b := Option.some.inj (f_qo_ln.symm.trans hb)
    obtain rfl : b_df = a := Option.some.inj (f_b_df.symm.trans ha)
    obtain rfl : b_bf = r := Option.some.inj (f_b_bf.symm.trans hr)
    rw [n_b_df, n_b_bf, f_o_ln]
    exact ⟨hBD, hDY⟩
  case o29 =>
    obtain rfl : qw = w := Option.some.inj (f_qw.symm.trans hw)
    obtain rfl : ql = q := Option.some.inj (f_ql.symm.trans hq)
    obtain rfl : qc = c := Option.some.inj (f_qc.symm.trans hc)
    exact sb_list
  case o30 =>
    obtain rfl : qw = w := Option.some.inj (f_qw.symm.trans hw)
    obtain rfl : ql = q := Option.some.inj (f_ql.symm.trans hq)
    obtain rfl : m_lst = r := Option.some.inj (f_m_lst.symm.trans hr)
    rw [cl_lst, n_lst]
    exact eq_lst
  case o31 =>
    obtain rfl : qw = w := Option.some.inj (f_qw.symm.trans hw)
    obtain rfl : qlt = q := Option.some.inj (f_qlt.symm.trans hq)
    obtain rfl : m_wkd = r := Option.some.inj (f_m_wkd.symm.trans hr)
    rw [n_qlt, n_m_wkd, f_o_wkm]
    exact eb_wkd
  case o32 =>
    obtain rfl : qc = c := Option.some.inj (f_qc.symm.trans hc)
    obtain rfl : qp = q := Option.some.inj (f_qp.symm.trans hq)
    obtain rfl : m_aga = a := Option.some.inj (f_m_aga.symm.trans ha)
    rw [n_aga, f_x_claimCount]
    exact hw_DF_e hDF rfl rfl
  case o33 =>
    obtain rfl : qtp = q := Option.some.inj (f_qtp.symm.trans hq)
    obtain rfl : m_tp = r := Option.some.inj (f_m_tp.symm.trans hr)
    exact n_qtp.trans n_tp.symm
  case o34 =>
    obtain rfl : qa = q := Option.some.inj (f_qa.symm.trans hq)
    obtain rfl : qwo = w := Option.some.inj (f_qwo.symm.trans hw)
    obtain rfl : m_ad = a := Option.some.inj (f_m_ad.symm.trans ha)
    obtain rfl : mr = b := Option.some.inj (f_mr.symm.trans hb)
    obtain rfl : mn = c := Option.some.inj (f_mn.symm.trans hc)
    obtain rfl : mp = d := Option.some.inj (f_mp.symm.trans hd)
    obtain rfl : qc = e := Option.some.inj (f_qc.symm.trans he)
    obtain rfl : ml = p := Option.some.inj (f_ml.symm.trans hp)
    exact ⟨_, by rw [f_x_actCount]; exact hRA9, by rw [f_x_actCount, n_ad, n_mr, n_mn, n_mp]; exact hCA9, by rw [n_ml, f_x_claimCount]; exact hv_AC_e hAC9 rfl rfl rfl, hAB⟩
  case o35 =>
    obtain rfl : qc = c := Option.some.inj (f_qc.symm.trans hc)
    obtain rfl : qp = q := Option.some.inj (f_qp.symm.trans hq)
    obtain rfl : m_by = a := Option.some.inj (f_m_by.symm.trans ha)
    rw [n_by, f_x_claimCount]
    exact hw_DF_e hDP rfl rfl
  case o36 =>
    obtain rfl : qh = q := Option.some.inj (f_qh.symm.trans hq)
    obtain rfl : qc = c := Option.some.inj (f_qc.symm.trans hc)
    obtain rfl : m_ho = a := Option.some.inj (f_m_ho.symm.trans ha)
    rw [n_ho, f_x_heardCount, f_x_claimCount]
    exact hv_HL_e hHL rfl rfl rfl
  case o37 =>
    obtain rfl : m_ho = a := Option.some.inj (f_m_ho.symm.trans ha)
    obtain rfl : mh = b := Option.some.inj (f_mh.symm.trans hb)
    rw [n_ho, n_mh, f_m_heardMany, f_m_claims]
    exact hHO9
  case o38 =>
    obtain rfl : qc = c := Option.some.inj (f_qc.symm.trans hc)
    obtain rfl : m_fc = a := Option.some.inj (f_m_fc.symm.trans ha)
    obtain rfl : m_nt = b := Option.some.inj (f_m_nt.symm.trans hb)
    obtain rfl : m_wt = d := Option.some.inj (f_m_wt.symm.trans hd)
    obtain rfl : m_sum = e := Option.some.inj (f_m_sum.symm.trans he)
    obtain rfl : mh = f := Option.some.inj (f_mh.symm.trans hf)
    exact ⟨cF9L, by rw [f_x_claimCount]; exact hFX, by rw [n_fc, n_nt, n_wt, n_sum, n_mh, f_x_claimCount]; exact hFR9⟩
  case o39 =>
    obtain rfl : qc = c := Option.some.inj (f_qc.symm.trans hc)
    obtain rfl : m_be = a := Option.some.inj (f_m_be.symm.trans ha)
    rw [n_be, f_x_claimCount]
    exact hv_FX_e hBX rfl rfl
  case o40 =>
    obtain rfl : qo_py = p := Option.some.inj (f_qo_py.symm.trans hp)
    obtain rfl : y_p0 = q := Option.some.inj (f_y_p0.symm.trans hq)
    obtain rfl : m_p0 = r := Option.some.inj (f_m_p0.symm.trans hr)
    exact (fw_766.trans hq_p0).trans fw_782.symm
  case o41 =>
    obtain rfl : qo_py = p := Option.some.inj (f_qo_py.symm.trans hp)
    obtain rfl : y_p1 = q := Option.some.inj (f_y_p1.symm.trans hq)
    obtain rfl : m_p1 = r := Option.some.inj (f_m_p1.symm.trans hr)
    exact (fw_767.trans hq_p1).trans fw_783.symm
  case o42 =>
    obtain rfl : qo_py = p := Option.some.inj (f_qo_py.symm.trans hp)
    obtain rfl : y_p2 = q := Option.some.inj (f_y_p2.symm.trans hq)
    obtain rfl : m_p2 = r := Option.some.inj (f_m_p2.symm.trans hr)
    exact (fw_768.trans hq_p2).trans fw_784.symm
  case o43 =>
    obtain rfl : qo_py = p := Option.some.inj (f_qo_py.symm.trans hp)
    obtain rfl : y_p3 = q := Option.some.inj (f_y_p3.symm.trans hq)
    obtain rfl : m_p3 = r := Option.some.inj (f_m_p3.symm.trans hr)
    exact (fw_769.trans hq_p3).trans fw_785.symm
  case o44 =>
    obtain rfl : qo_py = p := Option.some.inj (f_qo_py.symm.trans hp)
    obtain rfl : y_p4 = q := Option.some.inj (f_y_p4.symm.trans hq)
    obtain rfl : m_p4 = r := Option.some.inj (f_m_p4.symm.trans hr)
    exact (fw_770.trans hq_p4).trans fw_786.symm
  case o45 =>
    obtain rfl : qrg9 = p := Option.some.inj (f_qrg9.symm.trans hp)
    rw [fw_771, fw_789, fw_787]
    exact hNQn9
  case o46 =>
    obtain rfl : qrg9 = p := Option.some.inj (f_qrg9.symm.trans hp)
    obtain rfl : y_ls = q := Option.some.inj (f_y_ls.symm.trans hq)
    obtain rfl : m_rl = r := Option.some.inj (f_m_rl.symm.trans hr)
    rw [fw_772, fw_788, fw_771]
    exact hls9
  case o47 =>
    rw [cl_dead, n_dead]
    exact eq_dead
  case o48 =>
    rw [cl_isj, n_isj]
    exact eq_isj
  case o49 =>
    rw [cl_dox, n_dox]
    exact eq_dox
  case o50 =>
    rw [cl_doy, n_doy]
    exact eq_doy
  case o51 =>
    rw [cl_fou, n_m_fou]
    exact eq_fou
  case o52 =>
    rw [cl_tri, n_mt]
    exact eq_tri
  case o53 =>
    obtain rfl : qw = w := Option.some.inj (f_qw.symm.trans hw)
    obtain rfl : ql = q := Option.some.inj (f_ql.symm.trans hq)
    exact pf_ql
  case o54 =>
    rw [n_mw]
    exact hwd
  case o55 =>
    rw [n_mr, f_m_acts]
    exact hWK
  case o56 =>
    rw [n_mp, n_mn, f_m_acts]
    exact hRP
  case o57 =>
    rw [n_ml, f_m_claims, f_m_acts]
    exact hPL
  case o58 =>
    rw [n_mh, f_m_heardMany, f_m_claims]
    exact hHC
  case o59 =>
    rw [n_mt]
    refine (hx_TR_le hTR ?o60)
    case o60 => omega
  case o61 =>
    rw [n_mh, n_m_fou, f_m_claims]
    exact hHF
