set_option maxHeartbeats 4000000 in
set_option maxRecDepth 100000 in
theorem law_case_24 {p : Program} {e : Env} {s : State} {m : MethodId} {below : List Frame} {meth : Method} {c : Code} (l : Launch) {b LN : Nat} {xs : Nat → Int32} (hx : p.tables.exec = Jvm.exec) (hb : c.code = code) (hr : meth.sig.returnType = ret) (hlocks : meth.locks = false) (hml : c.maxLocals = 4) (hown : s.vm.findClass "SmallCourtLaw" = some m.cls) (hts : ∀ w ∈ hx_all, w.before #[Value.ref b] s = true) (hX : va_X b LN xs s s.heap) (hbl : b < s.heap.size) (hbA : ¬ s.heap.size ≤ b) (hLN : LN ≤ 3584) (dC : Nat → ClassId) (dI : Nat → Nat → Nat) (dA : Nat → ClassId) (b0 : hx_z) (ax am : Nat) (T1 : Int) (hT0 : 0 ≤ T1) (hT1 : T1 ≤ 511) (i : Int32) (hi0 : 0 ≤ i.toInt) (hiL : i.toInt + 7 ≤ LN) (CC SS : Nat) (hCC : CC + 3 ≤ 600000) (hSS : SS + 179 ≤ 7302250) (L1 : List Nat) (hl1 : hx_h) (H : Heap) (locs : List Loc) (ls : Array Slot) (hW : hx_W T_tb (P_ty dA) (dC, dI) vwCl (fun q : Nat => s.heap.size ≤ q) s.heap L1 hl1 s H locs) (hZ : hx_Xt (fun q : Nat => s.heap.size ≤ q) b0 s) (hI : hx_IV T1 ax am L1 hl1) (hl : lv_has ls 4 [(3, .int i), (2, .ref am), (1, .ref ax), (0, .ref b)]) (kk : ∀ (L2 : List Nat) (h2 : hx_h) (H2 : Heap) (locs2 : List Loc) (ls2 : Array Slot), hx_W T_tb (P_ty dA) (dC, dI) vwCl (fun q : Nat => s.heap.size ≤ q) s.heap L2 h2 s H2 locs2 → hx_IV (T1 + 1) ax am L2 h2 → lv_has ls2 4 [(3, .int i), (2, .ref am), (1, .ref ax), (0, .ref b)] → W p l e room_1 s m #[Value.ref b] below meth c H2 locs2 (CC + 3) (SS + 179) (lw_Z below #[Value.ref b] s) (F0 m 1379 ls2 [])) : W p l e room_1 s m #[Value.ref b] below meth c H locs CC SS (lw_Z below #[Value.ref b] s) (F0 m 1208 ls []) := by
  have hI9 := hI
  have hT := hI9.1
  replace hI9 := hI9.2
  have gx := hI9.1
  replace hI9 := hI9.2
  have gm := hI9.1
  replace hI9 := hI9.2
  have zq0_3 := hI9.1
  have he_nw := zq0_3.1
  replace zq0_3 := zq0_3.2
  have he_np := zq0_3.1
  replace zq0_3 := zq0_3.2
  have he_c0 := zq0_3.1
  replace zq0_3 := zq0_3.2
  have he_tl := zq0_3.1
  replace zq0_3 := zq0_3.2
  have he_a0 := zq0_3.1
  replace zq0_3 := zq0_3.2
  have he_m0 := zq0_3.1
  replace zq0_3 := zq0_3.2
  have ho_ln := zq0_3.1
  replace zq0_3 := zq0_3.2
  have ho_lsd := zq0_3.1
  replace zq0_3 := zq0_3.2
  have ho_wkm := zq0_3.1
  replace zq0_3 := zq0_3.2
  have ho_py := zq0_3.1
  replace zq0_3 := zq0_3.2
  have ho_pmn := zq0_3.1
  replace zq0_3 := zq0_3.2
  have hn_qp := zq0_3.1
  replace zq0_3 := zq0_3.2
  have hn_qc := zq0_3.1
  replace zq0_3 := zq0_3.2
  have hk_of := zq0_3.1
  replace zq0_3 := zq0_3.2
  have hk_wf := zq0_3.1
  replace zq0_3 := zq0_3.2
  have hk_df := zq0_3.1
  replace zq0_3 := zq0_3.2
  have hk_kf := zq0_3.1
  replace zq0_3 := zq0_3.2
  have hk_sf := zq0_3.1
  replace zq0_3 := zq0_3.2
  have hkBD := zq0_3.1
  replace zq0_3 := zq0_3.2
  have hLQ := zq0_3.1
  replace zq0_3 := zq0_3.2
  have hLE := zq0_3.1
  replace zq0_3 := zq0_3.2
  have hkWD := zq0_3.1
  replace zq0_3 := zq0_3.2
  have hkDF := zq0_3.1
  replace zq0_3 := zq0_3.2
  have hkTP := zq0_3.1
  replace zq0_3 := zq0_3.2
  have hkAC := zq0_3.1
  replace zq0_3 := zq0_3.2
  have hkDP := zq0_3.1
  replace zq0_3 := zq0_3.2
  have hkHL := zq0_3.1
  replace zq0_3 := zq0_3.2
  have hkHO := zq0_3.1
  replace zq0_3 := zq0_3.2
  have hkFX := zq0_3.1
  replace zq0_3 := zq0_3.2
  have hkBX := zq0_3.1
  replace zq0_3 := zq0_3.2
  have hf_bor := zq0_3.1
  replace zq0_3 := zq0_3.2
  have hf_kin := zq0_3.1
  replace zq0_3 := zq0_3.2
  have hf_sum := zq0_3.1
  replace zq0_3 := zq0_3.2
  have hf_fro := zq0_3.1
  replace zq0_3 := zq0_3.2
  have hf_fil := zq0_3.1
  replace zq0_3 := zq0_3.2
  have hf_hea := zq0_3.1
  replace zq0_3 := zq0_3.2
  have hf_jud := zq0_3.1
  replace zq0_3 := zq0_3.2
  have hf_ear := zq0_3.1
  replace zq0_3 := zq0_3.2
  have hf_hds := zq0_3.1
  replace zq0_3 := zq0_3.2
  have hf_ord := zq0_3.1
  replace zq0_3 := zq0_3.2
  have hf_wkl := zq0_3.1
  replace zq0_3 := zq0_3.2
  have hf_owd := zq0_3.1
  replace zq0_3 := zq0_3.2
  have hf_gds := zq0_3.1
  replace zq0_3 := zq0_3.2
  have hf_szd := zq0_3.1
  replace zq0_3 := zq0_3.2
  have hf_srv := zq0_3.1
  replace zq0_3 := zq0_3.2
  have hkP0 := zq0_3.1
  replace zq0_3 := zq0_3.2
  have hkP1 := zq0_3.1
  replace zq0_3 := zq0_3.2
  have hkP2 := zq0_3.1
  replace zq0_3 := zq0_3.2
  have hkP3 := zq0_3.1
  replace zq0_3 := zq0_3.2
  have hkP4 := zq0_3.1
  replace zq0_3 := zq0_3.2
  have hkNQ := zq0_3.1
  replace zq0_3 := zq0_3.2
  have hkRL := zq0_3.1
  replace zq0_3 := zq0_3.2
  have hkPG := zq0_3.1
  replace zq0_3 := zq0_3.2
  have hc_dead := zq0_3.1
  replace zq0_3 := zq0_3.2
  have hc_isj := zq0_3.1
  replace zq0_3 := zq0_3.2
  have hc_dox := zq0_3.1
  replace zq0_3 := zq0_3.2
  have hc_doy := zq0_3.1
  replace zq0_3 := zq0_3.2
  have hc_fou := zq0_3.1
  replace zq0_3 := zq0_3.2
  have hc_tri := zq0_3.1
  replace zq0_3 := zq0_3.2
  replace hI9 := hI9.2
  have zq0_4 := hI9.1
  have ia := zq0_4.1
  replace zq0_4 := zq0_4.2
  have ip := zq0_4.1
  replace zq0_4 := zq0_4.2
  have ic := zq0_4.1
  replace zq0_4 := zq0_4.2
  have ih := zq0_4.1
  replace zq0_4 := zq0_4.2
  have il := zq0_4
  replace hI9 := hI9.2
  have zq0_5 := hI9
  have jw := zq0_5.1
  replace zq0_5 := zq0_5.2
  have jr := zq0_5.1
  replace zq0_5 := zq0_5.2
  have jp := zq0_5.1
  replace zq0_5 := zq0_5.2
  have jl := zq0_5.1
  replace zq0_5 := zq0_5.2
  have jh := zq0_5.1
  replace zq0_5 := zq0_5.2
  have jt := zq0_5.1
  replace zq0_5 := zq0_5.2
  have jf := zq0_5
  obtain ⟨qa, f_qa, g_qa⟩ := hx_rf hT gx tt_9 (k := 5) (u := 43) rfl
  have pf_qa := ia qa f_qa
  obtain ⟨qp, f_qp, g_qp⟩ := hx_rf hT gx tt_9 (k := 7) (u := 44) rfl
  have pf_qp := ip qp f_qp
  obtain ⟨qc, f_qc, g_qc⟩ := hx_rf hT gx tt_9 (k := 10) (u := 45) rfl
  have pf_qc := ic qc f_qc
  obtain ⟨qh, f_qh, g_qh⟩ := hx_rf hT gx tt_9 (k := 12) (u := 46) rfl
  have pf_qh := ih qh f_qh
  obtain ⟨qw, f_qw, g_qw⟩ := hx_rf hT gx tt_9 (k := 19) (u := 8) rfl
  obtain ⟨ql, f_ql, g_ql⟩ := hx_rf hT g_qw tt_8 (k := 3) (u := 40) rfl
  have pf_ql := il qw ql f_qw f_ql
  obtain ⟨nw, f_m_now⟩ : ∃ y : Int32, hl1.2.1 am 0 = y := ⟨_, rfl⟩
  have b_nw := hT.gi gm tt_10 (k := 0) rfl
  rw [f_m_now] at b_nw
  have b_nw : 0 ≤ nw.toInt ∧ nw.toInt ≤ 7999 := b_nw
  obtain ⟨np, f_m_persons⟩ : ∃ y : Int32, hl1.2.1 am 20 = y := ⟨_, rfl⟩
  have b_np := hT.gi gm tt_10 (k := 20) rfl
  rw [f_m_persons] at b_np
  have b_np : 0 ≤ np.toInt ∧ np.toInt ≤ 40 := b_np
  obtain ⟨c0, f_m_claims⟩ : ∃ y : Int32, hl1.2.1 am 36 = y := ⟨_, rfl⟩
  have b_c0 := hT.gi gm tt_10 (k := 36) rfl
  rw [f_m_claims] at b_c0
  have b_c0 : 0 ≤ c0.toInt ∧ c0.toInt ≤ 100 := b_c0
  obtain ⟨tl, f_m_taped⟩ : ∃ y : Int32, hl1.2.1 am 7 = y := ⟨_, rfl⟩
  have b_tl := hT.gi gm tt_10 (k := 7) rfl
  rw [f_m_taped] at b_tl
  have b_tl : 0 ≤ tl.toInt ∧ tl.toInt ≤ 400 := b_tl
  obtain ⟨a0, f_m_acts⟩ : ∃ y : Int32, hl1.2.1 am 1 = y := ⟨_, rfl⟩
  have b_a0 := hT.gi gm tt_10 (k := 1) rfl
  rw [f_m_acts] at b_a0
  have b_a0 : 0 ≤ a0.toInt ∧ a0.toInt ≤ 8 := b_a0
  obtain ⟨m0, f_m_heardMany⟩ : ∃ y : Int32, hl1.2.1 am 57 = y := ⟨_, rfl⟩
  have b_m0 := hT.gi gm tt_10 (k := 57) rfl
  rw [f_m_heardMany] at b_m0
  have b_m0 : 0 ≤ m0.toInt ∧ m0.toInt ≤ 100 := b_m0
  obtain ⟨ln, f_m_lines⟩ : ∃ y : Int32, hl1.2.1 am 29 = y := ⟨_, rfl⟩
  have b_ln := hT.gi gm tt_10 (k := 29) rfl
  rw [f_m_lines] at b_ln
  have b_ln : 0 ≤ ln.toInt ∧ ln.toInt ≤ 400 := b_ln
  obtain ⟨lsd, f_m_listed⟩ : ∃ y : Int32, hl1.2.1 am 90 = y := ⟨_, rfl⟩
  have b_lsd := hT.gi gm tt_10 (k := 90) rfl
  rw [f_m_listed] at b_lsd
  have b_lsd : 0 ≤ lsd.toInt ∧ lsd.toInt ≤ 8 := b_lsd
  obtain ⟨wkm, f_m_walkedMany⟩ : ∃ y : Int32, hl1.2.1 am 92 = y := ⟨_, rfl⟩
  have b_wkm := hT.gi gm tt_10 (k := 92) rfl
  rw [f_m_walkedMany] at b_wkm
  have b_wkm : 0 ≤ wkm.toInt ∧ wkm.toInt ≤ 8 := b_wkm
  obtain ⟨py, f_m_payments⟩ : ∃ y : Int32, hl1.2.1 am 59 = y := ⟨_, rfl⟩
  have b_py := hT.gi gm tt_10 (k := 59) rfl
  rw [f_m_payments] at b_py
  have b_py : 0 ≤ py.toInt ∧ py.toInt ≤ 600 := b_py
  obtain ⟨pmn, f_m_planMany⟩ : ∃ y : Int32, hl1.2.1 am 72 = y := ⟨_, rfl⟩
  have b_pmn := hT.gi gm tt_10 (k := 72) rfl
  rw [f_m_planMany] at b_pmn
  have b_pmn : 0 ≤ pmn.toInt ∧ pmn.toInt ≤ 4 := b_pmn
  have f_x_now : hl1.2.1 ax 2 = nw := he_nw.trans f_m_now
  have f_x_personCount : hl1.2.1 ax 8 = np := he_np.trans f_m_persons
  have f_x_claimCount : hl1.2.1 ax 11 = c0 := he_c0.trans f_m_claims
  have f_x_tapeLength : hl1.2.1 ax 1 = tl := he_tl.trans f_m_taped
  have f_x_actCount : hl1.2.1 ax 6 = a0 := he_a0.trans f_m_acts
  have f_x_heardCount : hl1.2.1 ax 13 = m0 := he_m0.trans f_m_heardMany
  obtain ⟨mw, f_mw, g_mw⟩ := hx_rf hT gm tt_10 (k := 19) (u := 57) rfl
  obtain ⟨F_mw, n_mw⟩ : ∃ g : Nat → Int32, hl1.2.1 mw = g := ⟨_, rfl⟩
  obtain ⟨mr, f_mr, g_mr⟩ := hx_rf hT gm tt_10 (k := 3) (u := 50) rfl
  obtain ⟨F_mr, n_mr⟩ : ∃ g : Nat → Int32, hl1.2.1 mr = g := ⟨_, rfl⟩
  obtain ⟨mp, f_mp, g_mp⟩ := hx_rf hT gm tt_10 (k := 5) (u := 52) rfl
  obtain ⟨F_mp, n_mp⟩ : ∃ g : Nat → Int32, hl1.2.1 mp = g := ⟨_, rfl⟩
  obtain ⟨mn, f_mn, g_mn⟩ := hx_rf hT gm tt_10 (k := 4) (u := 51) rfl
  obtain ⟨F_mn, n_mn⟩ : ∃ g : Nat → Int32, hl1.2.1 mn = g := ⟨_, rfl⟩
  obtain ⟨ml, f_ml, g_ml⟩ := hx_rf hT gm tt_10 (k := 44) (u := 79) rfl
  obtain ⟨F_ml, n_ml⟩ : ∃ g : Nat → Int32, hl1.2.1 ml = g := ⟨_, rfl⟩
  obtain ⟨mh, f_mh, g_mh⟩ := hx_rf hT gm tt_10 (k := 47) (u := 82) rfl
  obtain ⟨F_mh, n_mh⟩ : ∃ g : Nat → Int32, hl1.2.1 mh = g := ⟨_, rfl⟩
  obtain ⟨mt, f_mt, g_mt⟩ := hx_rf hT gm tt_10 (k := 45) (u := 80) rfl
  obtain ⟨F_mt, n_mt⟩ : ∃ g : Nat → Int32, hl1.2.1 mt = g := ⟨_, rfl⟩
  obtain ⟨m_fou, f_m_fou, g_m_fou⟩ := hx_rf hT gm tt_10 (k := 46) (u := 81) rfl
  obtain ⟨F_m_fou, n_m_fou⟩ : ∃ g : Nat → Int32, hl1.2.1 m_fou = g := ⟨_, rfl⟩
  obtain ⟨qo_ln, f_qo_ln, g_qo_ln⟩ := hx_rf hT gx tt_9 (k := 9) (u := 1) rfl
  have f_o_ln : hl1.2.1 qo_ln 0 = ln := (ho_ln qo_ln f_qo_ln).trans f_m_lines
  have f_o_lsd : hl1.2.1 qw 0 = lsd := (ho_lsd qw f_qw).trans f_m_listed
  have f_o_wkm : hl1.2.1 qw 1 = wkm := (ho_wkm qw f_qw).trans f_m_walkedMany
  obtain ⟨qo_py, f_qo_py, g_qo_py⟩ := hx_rf hT gx tt_9 (k := 14) (u := 3) rfl
  have f_o_py : hl1.2.1 qo_py 0 = py := (ho_py qo_py f_qo_py).trans f_m_payments
  obtain ⟨qo_pmn, f_qo_pmn, g_qo_pmn⟩ := hx_rf hT gx tt_9 (k := 17) (u := 5) rfl
  have f_o_pmn : hl1.2.1 qo_pmn 1 = pmn := (ho_pmn qo_pmn f_qo_pmn).trans f_m_planMany
  have nu_qp := hn_qp qp f_qp; rw [f_x_personCount] at nu_qp
  have nu_qc := hn_qc qc f_qc; rw [f_x_claimCount] at nu_qc
  obtain ⟨b_of, f_b_of, g_b_of⟩ := hx_rf hT g_qo_ln tt_1 (k := 1) (u := 13) rfl
  obtain ⟨B_of, n_b_of⟩ : ∃ g : Nat → Int32, hl1.2.1 b_of = g := ⟨_, rfl⟩
  obtain ⟨m_of, f_m_of, g_m_of⟩ := hx_rf hT gm tt_10 (k := 30) (u := 66) rfl
  obtain ⟨F_of, n_m_of⟩ : ∃ g : Nat → Int32, hl1.2.1 m_of = g := ⟨_, rfl⟩
  have eb_of := hk_of qo_ln b_of m_of f_qo_ln f_b_of f_m_of; rw [n_b_of, n_m_of, f_o_ln] at eb_of
  obtain ⟨b_wf, f_b_wf, g_b_wf⟩ := hx_rf hT g_qo_ln tt_1 (k := 2) (u := 14) rfl
  obtain ⟨B_wf, n_b_wf⟩ : ∃ g : Nat → Int32, hl1.2.1 b_wf = g := ⟨_, rfl⟩
  obtain ⟨m_wf, f_m_wf, g_m_wf⟩ := hx_rf hT gm tt_10 (k := 31) (u := 67) rfl
  obtain ⟨F_wf, n_m_wf⟩ : ∃ g : Nat → Int32, hl1.2.1 m_wf = g := ⟨_, rfl⟩
  have eb_wf := hk_wf qo_ln b_wf m_wf f_qo_ln f_b_wf f_m_wf; rw [n_b_wf, n_m_wf, f_o_ln] at eb_wf
  obtain ⟨b_df, f_b_df, g_b_df⟩ := hx_rf hT g_qo_ln tt_1 (k := 3) (u := 15) rfl
  obtain ⟨B_df, n_b_df⟩ : ∃ g : Nat → Int32, hl1.2.1 b_df = g := ⟨_, rfl⟩
  obtain ⟨m_df, f_m_df, g_m_df⟩ := hx_rf hT gm tt_10 (k := 32) (u := 68) rfl
  obtain ⟨F_df, n_m_df⟩ : ∃ g : Nat → Int32, hl1.2.1 m_df = g := ⟨_, rfl⟩
  have eb_df := hk_df qo_ln b_df m_df f_qo_ln f_b_df f_m_df; rw [n_b_df, n_m_df, f_o_ln] at eb_df
  obtain ⟨b_kf, f_b_kf, g_b_kf⟩ := hx_rf hT g_qo_ln tt_1 (k := 4) (u := 16) rfl
  obtain ⟨B_kf, n_b_kf⟩ : ∃ g : Nat → Int32, hl1.2.1 b_kf = g := ⟨_, rfl⟩
  obtain ⟨m_kf, f_m_kf, g_m_kf⟩ := hx_rf hT gm tt_10 (k := 33) (u := 69) rfl
  obtain ⟨F_kf, n_m_kf⟩ : ∃ g : Nat → Int32, hl1.2.1 m_kf = g := ⟨_, rfl⟩
  have eb_kf := hk_kf qo_ln b_kf m_kf f_qo_ln f_b_kf f_m_kf; rw [n_b_kf, n_m_kf, f_o_ln] at eb_kf
  obtain ⟨b_sf, f_b_sf, g_b_sf⟩ := hx_rf hT g_qo_ln tt_1 (k := 5) (u := 17) rfl
  obtain ⟨B_sf, n_b_sf⟩ : ∃ g : Nat → Int32, hl1.2.1 b_sf = g := ⟨_, rfl⟩
  obtain ⟨m_sf, f_m_sf, g_m_sf⟩ := hx_rf hT gm tt_10 (k := 34) (u := 70) rfl
  obtain ⟨F_sf, n_m_sf⟩ : ∃ g : Nat → Int32, hl1.2.1 m_sf = g := ⟨_, rfl⟩
  have eb_sf := hk_sf qo_ln b_sf m_sf f_qo_ln f_b_sf f_m_sf; rw [n_b_sf, n_m_sf, f_o_ln] at eb_sf
  obtain ⟨b_bf, f_b_bf, g_b_bf⟩ := hx_rf hT g_qo_ln tt_1 (k := 6) (u := 18) rfl
  obtain ⟨bfL, n_b_bf⟩ : ∃ g : Nat → Int32, hl1.2.1 b_bf = g := ⟨_, rfl⟩
  obtain ⟨hBD, hDY⟩ := hkBD qo_ln b_df b_bf f_qo_ln f_b_df f_b_bf; rw [n_b_df, n_b_bf, f_o_ln] at hBD; rw [n_b_df, f_o_ln] at hDY
  have hBDm := hy_BD_c eb_df hBD
  have hDYm : hy_DY F_df ln.toInt.toNat := fun x hx => by rw [← eb_df x hx]; exact hDY x hx
  have sb_list := hLQ qw ql qc f_qw f_ql f_qc
  obtain ⟨m_lst, f_m_lst, g_m_lst⟩ := hx_rf hT gm tt_10 (k := 91) (u := 112) rfl
  obtain ⟨F_lst, n_lst⟩ : ∃ g : Nat → Int32, hl1.2.1 m_lst = g := ⟨_, rfl⟩
  obtain ⟨c_lst, cl_lst⟩ : ∃ g : Nat → Int32, hx_col 8 hl1 ql 0 = g := ⟨_, rfl⟩
  have eq_lst := hLE qw ql m_lst f_qw f_ql f_m_lst; rw [cl_lst, n_lst] at eq_lst
  obtain ⟨qtp, f_qtp, g_qtp⟩ := hx_rf hT gx tt_9 (k := 0) (u := 42) rfl
  obtain ⟨m_tp, f_m_tp, g_m_tp⟩ := hx_rf hT gm tt_10 (k := 6) (u := 53) rfl
  obtain ⟨F_tp, n_tp⟩ : ∃ g : Nat → Int32, hl1.2.1 m_tp = g := ⟨_, rfl⟩
  have n_qtp : hl1.2.1 qtp = F_tp := (hkTP qtp m_tp f_qtp f_m_tp).trans n_tp
  obtain ⟨c_dead, cl_dead⟩ : ∃ g : Nat → Int32, hx_col 40 hl1 qp 7 = g := ⟨_, rfl⟩
  obtain ⟨m_dead, f_m_dead, g_m_dead⟩ := hx_rf hT gm tt_10 (k := 27) (u := 64) rfl
  obtain ⟨F_dead, n_dead⟩ : ∃ g : Nat → Int32, hl1.2.1 m_dead = g := ⟨_, rfl⟩
  have eq_dead := hc_dead qp m_dead f_qp f_m_dead; rw [cl_dead, n_dead] at eq_dead
  have z_dead : np.toInt.toNat < 40 → c_dead np.toInt.toNat = 0 := fun hj => hx_num_z nu_qp cl_dead hj ?o0
  case o0 => omega
  obtain ⟨c_isj, cl_isj⟩ : ∃ g : Nat → Int32, hx_col 40 hl1 qp 8 = g := ⟨_, rfl⟩
  obtain ⟨m_isj, f_m_isj, g_m_isj⟩ := hx_rf hT gm tt_10 (k := 28) (u := 65) rfl
  obtain ⟨F_isj, n_isj⟩ : ∃ g : Nat → Int32, hl1.2.1 m_isj = g := ⟨_, rfl⟩
  have eq_isj := hc_isj qp m_isj f_qp f_m_isj; rw [cl_isj, n_isj] at eq_isj
  have z_isj : np.toInt.toNat < 40 → c_isj np.toInt.toNat = 0 := fun hj => hx_num_z nu_qp cl_isj hj ?o1
  case o1 => omega
  obtain ⟨c_dox, cl_dox⟩ : ∃ g : Nat → Int32, hx_col 40 hl1 qp 5 = g := ⟨_, rfl⟩
  obtain ⟨m_dox, f_m_dox, g_m_dox⟩ := hx_rf hT gm tt_10 (k := 24) (u := 61) rfl
  obtain ⟨F_dox, n_dox⟩ : ∃ g : Nat → Int32, hl1.2.1 m_dox = g := ⟨_, rfl⟩
  have eq_dox := hc_dox qp m_dox f_qp f_m_dox; rw [cl_dox, n_dox] at eq_dox
  have z_dox : np.toInt.toNat < 40 → c_dox np.toInt.toNat = 0 := fun hj => hx_num_z nu_qp cl_dox hj ?o2
  case o2 => omega
  obtain ⟨c_doy, cl_doy⟩ : ∃ g : Nat → Int32, hx_col 40 hl1 qp 6 = g := ⟨_, rfl⟩
  obtain ⟨m_doy, f_m_doy, g_m_doy⟩ := hx_rf hT gm tt_10 (k := 25) (u := 62) rfl
  obtain ⟨F_doy, n_doy⟩ : ∃ g : Nat → Int32, hl1.2.1 m_doy = g := ⟨_, rfl⟩
  have eq_doy := hc_doy qp m_doy f_qp f_m_doy; rw [cl_doy, n_doy] at eq_doy
  have z_doy : np.toInt.toNat < 40 → c_doy np.toInt.toNat = 0 := fun hj => hx_num_z nu_qp cl_doy hj ?o3
  case o3 => omega
  obtain ⟨c_fou, cl_fou⟩ : ∃ g : Nat → Int32, hx_col 100 hl1 qc 10 = g := ⟨_, rfl⟩
  have eq_fou := hc_fou qc m_fou f_qc f_m_fou; rw [cl_fou, n_m_fou] at eq_fou
  have z_fou : c0.toInt.toNat < 100 → c_fou c0.toInt.toNat = 0 := fun hj => hx_num_z nu_qc cl_fou hj ?o4
  case o4 => omega
  obtain ⟨c_tri, cl_tri⟩ : ∃ g : Nat → Int32, hx_col 100 hl1 qc 9 = g := ⟨_, rfl⟩
  have eq_tri := hc_tri qc mt f_qc f_mt; rw [cl_tri, n_mt] at eq_tri
  have z_tri : c0.toInt.toNat < 100 → c_tri c0.toInt.toNat = 0 := fun hj => hx_num_z nu_qc cl_tri hj ?o5
  case o5 => omega
  obtain ⟨qlt, f_qlt, g_qlt⟩ := hx_rf hT g_qw tt_8 (k := 2) (u := 39) rfl
  obtain ⟨qlf, f_qlf, g_qlf⟩ := hx_rf hT g_qw tt_8 (k := 4) (u := 41) rfl
  obtain ⟨m_wkd, f_m_wkd, g_m_wkd⟩ := hx_rf hT gm tt_10 (k := 93) (u := 113) rfl
  obtain ⟨F_qlt, n_qlt⟩ : ∃ g : Nat → Int32, hl1.2.1 qlt = g := ⟨_, rfl⟩
  obtain ⟨F_m_wkd, n_m_wkd⟩ : ∃ g : Nat → Int32, hl1.2.1 m_wkd = g := ⟨_, rfl⟩
  have eb_wkd := hkWD qw qlt m_wkd f_qw f_qlt f_m_wkd; rw [n_qlt, n_m_wkd, f_o_wkm] at eb_wkd
  obtain ⟨m_aga, f_m_aga, g_m_aga⟩ := hx_rf hT gm tt_10 (k := 38) (u := 73) rfl
  obtain ⟨F_aga, n_aga⟩ : ∃ g : Nat → Int32, hl1.2.1 m_aga = g := ⟨_, rfl⟩
  have hDF := hkDF qc qp m_aga f_qc f_qp f_m_aga; rw [n_aga, f_x_claimCount] at hDF
  obtain ⟨qwo, f_qwo, g_qwo⟩ := hx_rf hT gx tt_9 (k := 4) (u := 0) rfl
  obtain ⟨m_ad, f_m_ad, g_m_ad⟩ := hx_rf hT gm tt_10 (k := 2) (u := 49) rfl
  obtain ⟨F_ad, n_ad⟩ : ∃ g : Nat → Int32, hl1.2.1 m_ad = g := ⟨_, rfl⟩
  obtain ⟨A9, hRA9, hCA9, hAC9, hAB⟩ := hkAC qa qwo m_ad mr mn mp qc ml f_qa f_qwo f_m_ad f_mr f_mn f_mp f_qc f_ml
  rw [f_x_actCount] at hRA9; rw [f_x_actCount, n_ad, n_mr, n_mn, n_mp] at hCA9
  obtain ⟨m_by, f_m_by, g_m_by⟩ := hx_rf hT gm tt_10 (k := 37) (u := 72) rfl
  obtain ⟨F_by, n_by⟩ : ∃ g : Nat → Int32, hl1.2.1 m_by = g := ⟨_, rfl⟩
  obtain ⟨m_ho, f_m_ho, g_m_ho⟩ := hx_rf hT gm tt_10 (k := 58) (u := 92) rfl
  obtain ⟨F_ho, n_ho⟩ : ∃ g : Nat → Int32, hl1.2.1 m_ho = g := ⟨_, rfl⟩
  obtain ⟨m_fc, f_m_fc, g_m_fc⟩ := hx_rf hT gm tt_10 (k := 53) (u := 88) rfl
  obtain ⟨F_fc, n_fc⟩ : ∃ g : Nat → Int32, hl1.2.1 m_fc = g := ⟨_, rfl⟩
  obtain ⟨m_nt, f_m_nt, g_m_nt⟩ := hx_rf hT gm tt_10 (k := 41) (u := 76) rfl
  obtain ⟨F_nt, n_nt⟩ : ∃ g : Nat → Int32, hl1.2.1 m_nt = g := ⟨_, rfl⟩
  obtain ⟨m_wt, f_m_wt, g_m_wt⟩ := hx_rf hT gm tt_10 (k := 42) (u := 77) rfl
  obtain ⟨F_wt, n_wt⟩ : ∃ g : Nat → Int32, hl1.2.1 m_wt = g := ⟨_, rfl⟩
  obtain ⟨m_be, f_m_be, g_m_be⟩ := hx_rf hT gm tt_10 (k := 52) (u := 87) rfl
  obtain ⟨F_be, n_be⟩ : ∃ g : Nat → Int32, hl1.2.1 m_be = g := ⟨_, rfl⟩
  obtain ⟨m_bor, f_m_bor, g_m_bor⟩ := hx_rf hT gm tt_10 (k := 21) (u := 58) rfl
  obtain ⟨F_bor, n_bor⟩ : ∃ g : Nat → Int32, hl1.2.1 m_bor = g := ⟨_, rfl⟩
  obtain ⟨m_kin, f_m_kin, g_m_kin⟩ := hx_rf hT gm tt_10 (k := 26) (u := 63) rfl
  obtain ⟨F_kin, n_kin⟩ : ∃ g : Nat → Int32, hl1.2.1 m_kin = g := ⟨_, rfl⟩
  obtain ⟨m_sum, f_m_sum, g_m_sum⟩ := hx_rf hT gm tt_10 (k := 39) (u := 74) rfl
  obtain ⟨F_sum, n_sum⟩ : ∃ g : Nat → Int32, hl1.2.1 m_sum = g := ⟨_, rfl⟩
  obtain ⟨m_fro, f_m_fro, g_m_fro⟩ := hx_rf hT gm tt_10 (k := 40) (u := 75) rfl
  obtain ⟨F_fro, n_fro⟩ : ∃ g : Nat → Int32, hl1.2.1 m_fro = g := ⟨_, rfl⟩
  obtain ⟨m_fil, f_m_fil, g_m_fil⟩ := hx_rf hT gm tt_10 (k := 43) (u := 78) rfl
  obtain ⟨F_fil, n_fil⟩ : ∃ g : Nat → Int32, hl1.2.1 m_fil = g := ⟨_, rfl⟩
  obtain ⟨m_jud, f_m_jud, g_m_jud⟩ := hx_rf hT gm tt_10 (k := 51) (u := 86) rfl
  obtain ⟨F_jud, n_jud⟩ : ∃ g : Nat → Int32, hl1.2.1 m_jud = g := ⟨_, rfl⟩
  obtain ⟨m_ear, f_m_ear, g_m_ear⟩ := hx_rf hT gm tt_10 (k := 22) (u := 59) rfl
  obtain ⟨F_ear, n_ear⟩ : ∃ g : Nat → Int32, hl1.2.1 m_ear = g := ⟨_, rfl⟩
  obtain ⟨m_hds, f_m_hds, g_m_hds⟩ := hx_rf hT gm tt_10 (k := 23) (u := 60) rfl
  obtain ⟨F_hds, n_hds⟩ : ∃ g : Nat → Int32, hl1.2.1 m_hds = g := ⟨_, rfl⟩
  obtain ⟨m_ord, f_m_ord, g_m_ord⟩ := hx_rf hT gm tt_10 (k := 48) (u := 83) rfl
  obtain ⟨F_ord, n_ord⟩ : ∃ g : Nat → Int32, hl1.2.1 m_ord = g := ⟨_, rfl⟩
  obtain ⟨m_wkl, f_m_wkl, g_m_wkl⟩ := hx_rf hT gm tt_10 (k := 54) (u := 89) rfl
  obtain ⟨F_wkl, n_wkl⟩ : ∃ g : Nat → Int32, hl1.2.1 m_wkl = g := ⟨_, rfl⟩
  obtain ⟨m_owd, f_m_owd, g_m_owd⟩ := hx_rf hT gm tt_10 (k := 55) (u := 90) rfl
  obtain ⟨F_owd, n_owd⟩ : ∃ g : Nat → Int32, hl1.2.1 m_owd = g := ⟨_, rfl⟩
  obtain ⟨m_gds, f_m_gds, g_m_gds⟩ := hx_rf hT gm tt_10 (k := 56) (u := 91) rfl
  obtain ⟨F_gds, n_gds⟩ : ∃ g : Nat → Int32, hl1.2.1 m_gds = g := ⟨_, rfl⟩
  obtain ⟨m_szd, f_m_szd, g_m_szd⟩ := hx_rf hT gm tt_10 (k := 49) (u := 84) rfl
  obtain ⟨F_szd, n_szd⟩ : ∃ g : Nat → Int32, hl1.2.1 m_szd = g := ⟨_, rfl⟩
  obtain ⟨m_srv, f_m_srv, g_m_srv⟩ := hx_rf hT gm tt_10 (k := 50) (u := 85) rfl
  obtain ⟨F_srv, n_srv⟩ : ∃ g : Nat → Int32, hl1.2.1 m_srv = g := ⟨_, rfl⟩
  have cl_bor : hx_col 40 hl1 qp 1 = F_bor := (hf_bor qp m_bor f_qp f_m_bor).trans n_bor
  have cl_kin : hx_col 40 hl1 qp 2 = F_kin := (hf_kin qp m_kin f_qp f_m_kin).trans n_kin
  have cl_sum : hx_col 100 hl1 qc 6 = F_sum := (hf_sum qc m_sum f_qc f_m_sum).trans n_sum
  have cl_fro : hx_col 100 hl1 qc 7 = F_fro := (hf_fro qc m_fro f_qc f_m_fro).trans n_fro
  have cl_fil : hx_col 100 hl1 qc 8 = F_fil := (hf_fil qc m_fil f_qc f_m_fil).trans n_fil
  have cl_hea : hx_col 100 hl1 qc 11 = F_mh := (hf_hea qc mh f_qc f_mh).trans n_mh
  have cl_jud : hx_col 100 hl1 qc 12 = F_jud := (hf_jud qc m_jud f_qc f_m_jud).trans n_jud
  have cl_ear : hx_col 40 hl1 qp 3 = F_ear := (hf_ear qp m_ear f_qp f_m_ear).trans n_ear
  have cl_hds : hx_col 40 hl1 qp 4 = F_hds := (hf_hds qp m_hds f_qp f_m_hds).trans n_hds
  have cl_ord : hx_col 100 hl1 qc 13 = F_ord := (hf_ord qc m_ord f_qc f_m_ord).trans n_ord
  have cl_wkl : hx_col 100 hl1 qc 14 = F_wkl := (hf_wkl qc m_wkl f_qc f_m_wkl).trans n_wkl
  have cl_owd : hx_col 100 hl1 qc 15 = F_owd := (hf_owd qc m_owd f_qc f_m_owd).trans n_owd
  have cl_gds : hx_col 100 hl1 qc 17 = F_gds := (hf_gds qc m_gds f_qc f_m_gds).trans n_gds
  have cl_szd : hx_col 100 hl1 qc 16 = F_szd := (hf_szd qc m_szd f_qc f_m_szd).trans n_szd
  have cl_srv : hx_col 100 hl1 qc 18 = F_srv := (hf_srv qc m_srv f_qc f_m_srv).trans n_srv
  have htb9 : ∀ c, c < 100 → 0 ≤ (c_tri c).toInt ∧ (c_tri c).toInt ≤ 512 := fun c hc => by rw [eq_tri c hc]; have w := hT.ei g_mt tt_80 (k := c) hc; rw [n_mt] at w; exact w
  have z_jud : F_jud c0.toInt.toNat = 0 := hx_num_z2 nu_qc cl_jud ?o6
  case o6 => omega
  have hDP := hkDP qc qp m_by f_qc f_qp f_m_by; rw [n_by, f_x_claimCount] at hDP
  have hHL := hkHL qh qc m_ho f_qh f_qc f_m_ho; rw [n_ho, f_x_heardCount, f_x_claimCount] at hHL
  have hHO9 := hkHO m_ho mh f_m_ho f_mh; rw [n_ho, n_mh, f_m_heardMany, f_m_claims] at hHO9
  obtain ⟨cF9L, hFX, hFR9⟩ := hkFX qc m_fc m_nt m_wt m_sum mh f_qc f_m_fc f_m_nt f_m_wt f_m_sum f_mh; rw [f_x_claimCount] at hFX; rw [n_fc, n_nt, n_wt, n_sum, n_mh, f_x_claimCount] at hFR9
  have hBX := hkBX qc m_be f_qc f_m_be; rw [n_be, f_x_claimCount] at hBX
  rw [n_ml, f_x_claimCount] at hAC9
  obtain ⟨y_p0, f_y_p0, g_y_p0⟩ := hx_rf hT g_qo_py tt_3 (k := 2) (u := 23) rfl
  obtain ⟨m_p0, f_m_p0, g_m_p0⟩ := hx_rf hT gm tt_10 (k := 60) (u := 93) rfl
  obtain ⟨F_p0, n_p0⟩ : ∃ g : Nat → Int32, hl1.2.1 m_p0 = g := ⟨_, rfl⟩
  have n_y_p0 : hl1.2.1 y_p0 = F_p0 := (hkP0 qo_py y_p0 m_p0 f_qo_py f_y_p0 f_m_p0).trans n_p0
  obtain ⟨y_p1, f_y_p1, g_y_p1⟩ := hx_rf hT g_qo_py tt_3 (k := 3) (u := 24) rfl
  obtain ⟨m_p1, f_m_p1, g_m_p1⟩ := hx_rf hT gm tt_10 (k := 61) (u := 94) rfl
  obtain ⟨F_p1, n_p1⟩ : ∃ g : Nat → Int32, hl1.2.1 m_p1 = g := ⟨_, rfl⟩
  have n_y_p1 : hl1.2.1 y_p1 = F_p1 := (hkP1 qo_py y_p1 m_p1 f_qo_py f_y_p1 f_m_p1).trans n_p1
  obtain ⟨y_p2, f_y_p2, g_y_p2⟩ := hx_rf hT g_qo_py tt_3 (k := 5) (u := 26) rfl
  obtain ⟨m_p2, f_m_p2, g_m_p2⟩ := hx_rf hT gm tt_10 (k := 62) (u := 95) rfl
  obtain ⟨F_p2, n_p2⟩ : ∃ g : Nat → Int32, hl1.2.1 m_p2 = g := ⟨_, rfl⟩
  have n_y_p2 : hl1.2.1 y_p2 = F_p2 := (hkP2 qo_py y_p2 m_p2 f_qo_py f_y_p2 f_m_p2).trans n_p2
  obtain ⟨y_p3, f_y_p3, g_y_p3⟩ := hx_rf hT g_qo_py tt_3 (k := 4) (u := 25) rfl
  obtain ⟨m_p3, f_m_p3, g_m_p3⟩ := hx_rf hT gm tt_10 (k := 63) (u := 96) rfl
  obtain ⟨F_p3, n_p3⟩ : ∃ g : Nat → Int32, hl1.2.1 m_p3 = g := ⟨_, rfl⟩
  have n_y_p3 : hl1.2.1 y_p3 = F_p3 := (hkP3 qo_py y_p3 m_p3 f_qo_py f_y_p3 f_m_p3).trans n_p3
  obtain ⟨y_p4, f_y_p4, g_y_p4⟩ := hx_rf hT g_qo_py tt_3 (k := 1) (u := 22) rfl
  obtain ⟨m_p4, f_m_p4, g_m_p4⟩ := hx_rf hT gm tt_10 (k := 64) (u := 97) rfl
  obtain ⟨F_p4, n_p4⟩ : ∃ g : Nat → Int32, hl1.2.1 m_p4 = g := ⟨_, rfl⟩
  have n_y_p4 : hl1.2.1 y_p4 = F_p4 := (hkP4 qo_py y_p4 m_p4 f_qo_py f_y_p4 f_m_p4).trans n_p4
  obtain ⟨qrg9, f_qrg9, g_qrg9⟩ := hx_rf hT gx tt_9 (k := 18) (u := 7) rfl
  obtain ⟨y_ls, f_y_ls, g_y_ls⟩ := hx_rf hT g_qrg9 tt_7 (k := 3) (u := 35) rfl
  obtain ⟨m_rl, f_m_rl, g_m_rl⟩ := hx_rf hT gm tt_10 (k := 85) (u := 109) rfl
  obtain ⟨F_y_ls, n_y_ls⟩ : ∃ g : Nat → Int32, hl1.2.1 y_ls = g := ⟨_, rfl⟩
  obtain ⟨F_m_rl, n_m_rl⟩ : ∃ g : Nat → Int32, hl1.2.1 m_rl = g := ⟨_, rfl⟩
  obtain ⟨fv_806, efv_806⟩ : ∃ y : Int32, y = hl1.2.1 qrg9 0 := ⟨_, rfl⟩
  have bfv_806 := hT.gi g_qrg9 tt_7 (k := 0) rfl
  rw [← efv_806] at bfv_806
  have bfv_806 : -1 ≤ fv_806.toInt ∧ fv_806.toInt ≤ 100 := bfv_806
  have ffv_806 := efv_806.symm
  obtain ⟨fv_807, efv_807⟩ : ∃ y : Int32, y = hl1.2.1 am 83 := ⟨_, rfl⟩
  have bfv_807 := hT.gi gm tt_10 (k := 83) rfl
  rw [← efv_807] at bfv_807
  have bfv_807 : 0 ≤ fv_807.toInt ∧ fv_807.toInt ≤ 1 := bfv_807
  have ffv_807 := efv_807.symm
  obtain ⟨fv_808, efv_808⟩ : ∃ y : Int32, y = hl1.2.1 am 84 := ⟨_, rfl⟩
  have bfv_808 := hT.gi gm tt_10 (k := 84) rfl
  rw [← efv_808] at bfv_808
  have bfv_808 : 0 ≤ fv_808.toInt ∧ fv_808.toInt ≤ 300 := bfv_808
  have ffv_808 := efv_808.symm
  have hNQ9 := hkNQ qrg9 f_qrg9; rw [ffv_806, ffv_807, ffv_808] at hNQ9
  have hRL9 := hkRL qrg9 y_ls m_rl f_qrg9 f_y_ls f_m_rl; rw [n_y_ls, n_m_rl, ffv_806] at hRL9
  have hCB : hz_CB F_ord F_wkl F_owd F_szd F_gds F_srv := fun c hc => ⟨by have w := hT.ei g_m_ord tt_83 (k := c) (by omega); rw [n_ord] at w; exact w, by have w := hT.ei g_m_wkl tt_89 (k := c) (by omega); rw [n_wkl] at w; exact w, by have w := hT.ei g_m_owd tt_90 (k := c) (by omega); rw [n_owd] at w; exact w, by have w := hT.ei g_m_szd tt_84 (k := c) (by omega); rw [n_szd] at w; exact w, by have w := hT.ei g_m_gds tt_91 (k := c) (by omega); rw [n_gds] at w; exact w, by have w := hT.ei g_m_srv tt_85 (k := c) (by omega); rw [n_srv] at w; exact w⟩
  have hps : ∀ j, j < 600 → 0 ≤ (F_p2 j).toInt ∧ (F_p2 j).toInt ≤ 610000 := fun j hj => by have w := hT.ei g_m_p2 tt_95 (k := j) (by omega); rw [n_p2] at w; exact w
  have hte9 : ∀ c : Nat, c < 100 → (0 ≤ (c_tri c).toInt ∧ (c_tri c).toInt ≤ 512) ∧ (0 ≤ (F_sum c).toInt ∧ (F_sum c).toInt ≤ 9999) := fun c hc => ⟨htb9 c hc, by have w := hT.ei g_m_sum tt_74 (k := c) (by omega); rw [n_sum] at w; exact w⟩
  have hee9 : ∀ c : Nat, c < 40 → (0 ≤ (F_ear c).toInt ∧ (F_ear c).toInt ≤ 9999) ∧ (0 ≤ (F_hds c).toInt ∧ (F_hds c).toInt ≤ 20) := fun c hc => ⟨by have w := hT.ei g_m_ear tt_59 (k := c) (by omega); rw [n_ear] at w; exact w, by have w := hT.ei g_m_hds tt_60 (k := c) (by omega); rw [n_hds] at w; exact w⟩
  have bAG9 : ∀ k, k < 100 → 0 ≤ (F_aga k).toInt ∧ (F_aga k).toInt ≤ 39 := fun k hk => by have w := hT.ei g_m_aga tt_73 (k := k) (by omega); rw [n_aga] at w; exact w
  have bBY9 : ∀ k, k < 100 → 0 ≤ (F_by k).toInt ∧ (F_by k).toInt ≤ 39 := fun k hk => by have w := hT.ei g_m_by tt_72 (k := k) (by omega); rw [n_by] at w; exact w
  have hag9 : ∀ c, c < c0.toInt.toNat → 0 ≤ (F_aga c).toInt ∧ (F_aga c).toInt < 40 ∧ 0 ≤ (F_by c).toInt ∧ (F_by c).toInt < 40 := fun c hc => by have a9 := bAG9 c (by omega); have b9 := bBY9 c (by omega); omega
  have z_wkl : F_wkl c0.toInt.toNat = 0 := hx_num_z2 nu_qc cl_wkl ?o7
  case o7 => omega
  have z_owd : F_owd c0.toInt.toNat = 0 := hx_num_z2 nu_qc cl_owd ?o8
  case o8 => omega
  have z_gds : F_gds c0.toInt.toNat = 0 := hx_num_z2 nu_qc cl_gds ?o9
  case o9 => omega
  obtain ⟨y_pc, f_y_pc, g_y_pc⟩ := hx_rf hT g_qo_pmn tt_5 (k := 2) (u := 27) rfl
  obtain ⟨m_pc, f_m_pc, g_m_pc⟩ := hx_rf hT gm tt_10 (k := 73) (u := 100) rfl
  obtain ⟨F_y_pc, n_y_pc⟩ : ∃ g : Nat → Int32, hl1.2.1 y_pc = g := ⟨_, rfl⟩
  obtain ⟨F_m_pc, n_m_pc⟩ : ∃ g : Nat → Int32, hl1.2.1 m_pc = g := ⟨_, rfl⟩
  obtain ⟨y_pw, f_y_pw, g_y_pw⟩ := hx_rf hT g_qo_pmn tt_5 (k := 3) (u := 28) rfl
  obtain ⟨m_pw, f_m_pw, g_m_pw⟩ := hx_rf hT gm tt_10 (k := 74) (u := 101) rfl
  obtain ⟨F_y_pw, n_y_pw⟩ : ∃ g : Nat → Int32, hl1.2.1 y_pw = g := ⟨_, rfl⟩
  obtain ⟨F_m_pw, n_m_pw⟩ : ∃ g : Nat → Int32, hl1.2.1 m_pw = g := ⟨_, rfl⟩
  obtain ⟨y_pk, f_y_pk, g_y_pk⟩ := hx_rf hT g_qo_pmn tt_5 (k := 4) (u := 29) rfl
  obtain ⟨m_pk, f_m_pk, g_m_pk⟩ := hx_rf hT gm tt_10 (k := 81) (u := 107) rfl
  obtain ⟨F_y_pk, n_y_pk⟩ : ∃ g : Nat → Int32, hl1.2.1 y_pk = g := ⟨_, rfl⟩
  obtain ⟨F_m_pk, n_m_pk⟩ : ∃ g : Nat → Int32, hl1.2.1 m_pk = g := ⟨_, rfl⟩
  have hEA9 := hkPG qo_pmn y_pc y_pw y_pk m_pc m_pw m_pk f_qo_pmn f_y_pc f_y_pw f_y_pk f_m_pc f_m_pw f_m_pk; rw [n_y_pc, n_y_pw, n_y_pk, n_m_pc, n_m_pw, n_m_pk, f_o_pmn] at hEA9
  have hrn9 : ∀ c : Nat, c < c0.toInt.toNat → 0 ≤ (hz_Rn F_ord F_szd F_gds F_owd F_srv (hz_rc A9 F_ml) F_p0 F_p1 F_p2 F_p3 F_p4 nw.toInt py.toInt.toNat) c ∧ (hz_Rn F_ord F_szd F_gds F_owd F_srv (hz_rc A9 F_ml) F_p0 F_p1 F_p2 F_p3 F_p4 nw.toInt py.toInt.toNat) c ≤ 609999 := fun c hc => hz_Rn_b hCB hps ?o10 ?o11 ((hAB _).1 12)
  case o10 => omega
  case o11 => omega
  have hwd := jw mw f_mw; rw [n_mw] at hwd
  have hWK := jr mr f_mr; rw [n_mr, f_m_acts] at hWK
  have hRP := jp mp mn f_mp f_mn; rw [n_mp, n_mn, f_m_acts] at hRP
  have hPL := jl ml f_ml; rw [n_ml, f_m_claims, f_m_acts] at hPL
  have hHC := jh mh f_mh; rw [n_mh, f_m_heardMany, f_m_claims] at hHC
  have hTR := jt mt f_mt; rw [n_mt] at hTR
  have hHF := jf mh m_fou f_mh f_m_fou; rw [n_mh, n_m_fou, f_m_claims] at hHF
  have hwk9 : ∀ c : Nat, c < c0.toInt.toNat → 1 ≤ (A9 (F_ml c).toInt.toNat).2.1 2 := fun c hc => by have p9 := hPL (c : Int) (by omega) (by omega); rw [Int.toNat_natCast] at p9; obtain ⟨_, h29, _⟩ := hCA9.2 (F_ml c).toInt.toNat (by omega); rw [← h29]; show 1 ≤ (if 2 < 13 then _ else 0); rw [if_pos (by decide)]; exact (hWK (F_ml c).toInt p9.1 p9.2).1
  refine lv_aload_n hx hb dL_law_1208 rfl (lv_at hl 2 rfl) ?_
  refine lv_aload_n hx hb dL_law_1209 rfl (lv_at hl 3 rfl) ?_
  refine lv_iload_n hx hb dL_law_1210 rfl (lv_at hl 0 rfl) ?_
  refine lv_iconst (v := 1) hx hb dL_law_1211 ?o12 ?_
  case o12 => decide
  refine lv_iadd hx hb dL_law_1212 ?_
  have rg_809 := i32_r i
  refine lv_topi (fun x_810 ex_810 => ?_)
  have zx_810 : x_810.toInt = i.toInt + 1 := ?o13
  case o13 =>
    rw [ex_810]
    refine i32_add rfl ?o14 ?o15 ?o16
    case o14 => decide
    case o15 => omega
    case o16 => omega
  refine va_sld hx hb hX hbl hbA hW.2.2.2.1 (vp_in_iff.mpr ⟨?o17, ?o18⟩) dL_law_1213 ?_
  case o17 => omega
  case o18 => omega
  refine lv_topi (fun x_811 ex_811 => ?_)
  have hTo := hT
  refine hx_goi (hx_runV (As := [.int x_811]) (rest := []) ⟨hx, hb, hml, hown, hts⟩ hW gx tt_9 (T := TX9) (N := 20) rfl (t_X9_netted_v l dC dI dA L1 hl1 H.size ax x_811 hT gx qrg9 g_qrg9 f_qrg9 y_ls g_y_ls f_y_ls F_y_ls n_y_ls fv_806 ffv_806) (cwV 1 hts (hx_gV kw_1035 kw_1032 kw_1033 kw_1034 kw_94) rfl rfl rfl (by decide +kernel) ⟨Nat.le_of_ble_eq_true rfl, Nat.le_of_ble_eq_true rfl⟩) rfl hl.1 rfl (Nat.le_of_ble_eq_true rfl) dL_law_1214 ⟨(show CC + 0 ≤ 600000 from ?o19), (show SS + 0 ≤ 7302250 from ?o20)⟩) hW (fun r_814 L_812 h_813 H locs p_815 hW => ?_)
  case o19 => omega
  case o20 => omega
  obtain ⟨hr_816, hT, hs⟩ := p_815
  replace hT : hx_T T_tb L_812 h_813 := hT
  replace hs : hx_S T_tb [] L1 hl1 L_812 h_813 := hs
  replace f_qa := (hs.o gx trivial rfl).2.trans f_qa
  replace f_qp := (hs.o gx trivial rfl).2.trans f_qp
  replace f_qc := (hs.o gx trivial rfl).2.trans f_qc
  replace f_qh := (hs.o gx trivial rfl).2.trans f_qh
  replace f_qw := (hs.o gx trivial rfl).2.trans f_qw
  replace f_ql := (hs.o g_qw trivial rfl).2.trans f_ql
  replace f_m_now := (hs.o gm trivial rfl).1.trans f_m_now
  replace f_m_persons := (hs.o gm trivial rfl).1.trans f_m_persons
  replace f_m_claims := (hs.o gm trivial rfl).1.trans f_m_claims
  replace f_m_taped := (hs.o gm trivial rfl).1.trans f_m_taped
  replace f_m_acts := (hs.o gm trivial rfl).1.trans f_m_acts
  replace f_m_heardMany := (hs.o gm trivial rfl).1.trans f_m_heardMany
  replace f_m_lines := (hs.o gm trivial rfl).1.trans f_m_lines
  replace f_m_listed := (hs.o gm trivial rfl).1.trans f_m_listed
  replace f_m_walkedMany := (hs.o gm trivial rfl).1.trans f_m_walkedMany
  replace f_m_payments := (hs.o gm trivial rfl).1.trans f_m_payments
  replace f_m_planMany := (hs.o gm trivial rfl).1.trans f_m_planMany
  replace f_x_now := (hs.o gx trivial rfl).1.trans f_x_now
  replace f_x_personCount := (hs.o gx trivial rfl).1.trans f_x_personCount
  replace f_x_claimCount := (hs.o gx trivial rfl).1.trans f_x_claimCount
  replace f_x_tapeLength := (hs.o gx trivial rfl).1.trans f_x_tapeLength
  replace f_x_actCount := (hs.o gx trivial rfl).1.trans f_x_actCount
  replace f_x_heardCount := (hs.o gx trivial rfl).1.trans f_x_heardCount
  replace f_mw := (hs.o gm trivial rfl).2.trans f_mw
  replace f_mr := (hs.o gm trivial rfl).2.trans f_mr
  replace f_mp := (hs.o gm trivial rfl).2.trans f_mp
  replace f_mn := (hs.o gm trivial rfl).2.trans f_mn
  replace f_ml := (hs.o gm trivial rfl).2.trans f_ml
  replace f_mh := (hs.o gm trivial rfl).2.trans f_mh
  replace f_mt := (hs.o gm trivial rfl).2.trans f_mt
  replace f_m_fou := (hs.o gm trivial rfl).2.trans f_m_fou
  replace f_qo_ln := (hs.o gx trivial rfl).2.trans f_qo_ln
  replace f_o_ln := (hs.o g_qo_ln trivial rfl).1.trans f_o_ln
  replace f_o_lsd := (hs.o g_qw trivial rfl).1.trans f_o_lsd
  replace f_o_wkm := (hs.o g_qw trivial rfl).1.trans f_o_wkm
  replace f_qo_py := (hs.o gx trivial rfl).2.trans f_qo_py
  replace f_o_py := (hs.o g_qo_py trivial rfl).1.trans f_o_py
  replace f_qo_pmn := (hs.o gx trivial rfl).2.trans f_qo_pmn
  replace f_o_pmn := (hs.o g_qo_pmn trivial rfl).1.trans f_o_pmn
  replace f_b_of := (hs.o g_qo_ln trivial rfl).2.trans f_b_of
  replace f_m_of := (hs.o gm trivial rfl).2.trans f_m_of
  replace f_b_wf := (hs.o g_qo_ln trivial rfl).2.trans f_b_wf
  replace f_m_wf := (hs.o gm trivial rfl).2.trans f_m_wf
  replace f_b_df := (hs.o g_qo_ln trivial rfl).2.trans f_b_df
  replace f_m_df := (hs.o gm trivial rfl).2.trans f_m_df
  replace f_b_kf := (hs.o g_qo_ln trivial rfl).2.trans f_b_kf
  replace f_m_kf := (hs.o gm trivial rfl).2.trans f_m_kf
  replace f_b_sf := (hs.o g_qo_ln trivial rfl).2.trans f_b_sf
  replace f_m_sf := (hs.o gm trivial rfl).2.trans f_m_sf
  replace f_b_bf := (hs.o g_qo_ln trivial rfl).2.trans f_b_bf
  replace f_m_lst := (hs.o gm trivial rfl).2.trans f_m_lst
  replace f_qtp := (hs.o gx trivial rfl).2.trans f_qtp
  replace f_m_tp := (hs.o gm trivial rfl).2.trans f_m_tp
  replace f_m_dead := (hs.o gm trivial rfl).2.trans f_m_dead
  replace f_m_isj := (hs.o gm trivial rfl).2.trans f_m_isj
  replace f_m_dox := (hs.o gm trivial rfl).2.trans f_m_dox
  replace f_m_doy := (hs.o gm trivial rfl).2.trans f_m_doy
  replace f_qlt := (hs.o g_qw trivial rfl).2.trans f_qlt
  replace f_qlf := (hs.o g_qw trivial rfl).2.trans f_qlf
  replace f_m_wkd := (hs.o gm trivial rfl).2.trans f_m_wkd
  replace f_m_aga := (hs.o gm trivial rfl).2.trans f_m_aga
  replace f_qwo := (hs.o gx trivial rfl).2.trans f_qwo
  replace f_m_ad := (hs.o gm trivial rfl).2.trans f_m_ad
  replace f_m_by := (hs.o gm trivial rfl).2.trans f_m_by
  replace f_m_ho := (hs.o gm trivial rfl).2.trans f_m_ho
  replace f_m_fc := (hs.o gm trivial rfl).2.trans f_m_fc
  replace f_m_nt := (hs.o gm trivial rfl).2.trans f_m_nt
  replace f_m_wt := (hs.o gm trivial rfl).2.trans f_m_wt
  replace f_m_be := (hs.o gm trivial rfl).2.trans f_m_be
  replace f_m_bor := (hs.o gm trivial rfl).2.trans f_m_bor
  replace f_m_kin := (hs.o gm trivial rfl).2.trans f_m_kin
  replace f_m_sum := (hs.o gm trivial rfl).2.trans f_m_sum
  replace f_m_fro := (hs.o gm trivial rfl).2.trans f_m_fro
  replace f_m_fil := (hs.o gm trivial rfl).2.trans f_m_fil
  replace f_m_jud := (hs.o gm trivial rfl).2.trans f_m_jud
  replace f_m_ear := (hs.o gm trivial rfl).2.trans f_m_ear
  replace f_m_hds := (hs.o gm trivial rfl).2.trans f_m_hds
  replace f_m_ord := (hs.o gm trivial rfl).2.trans f_m_ord
  replace f_m_wkl := (hs.o gm trivial rfl).2.trans f_m_wkl
  replace f_m_owd := (hs.o gm trivial rfl).2.trans f_m_owd
  replace f_m_gds := (hs.o gm trivial rfl).2.trans f_m_gds
  replace f_m_szd := (hs.o gm trivial rfl).2.trans f_m_szd
  replace f_m_srv := (hs.o gm trivial rfl).2.trans f_m_srv
  replace f_y_p0 := (hs.o g_qo_py trivial rfl).2.trans f_y_p0
  replace f_m_p0 := (hs.o gm trivial rfl).2.trans f_m_p0
  replace f_y_p1 := (hs.o g_qo_py trivial rfl).2.trans f_y_p1
  replace f_m_p1 := (hs.o gm trivial rfl).2.trans f_m_p1
  replace f_y_p2 := (hs.o g_qo_py trivial rfl).2.trans f_y_p2
  replace f_m_p2 := (hs.o gm trivial rfl).2.trans f_m_p2
  replace f_y_p3 := (hs.o g_qo_py trivial rfl).2.trans f_y_p3
  replace f_m_p3 := (hs.o gm trivial rfl).2.trans f_m_p3
  replace f_y_p4 := (hs.o g_qo_py trivial rfl).2.trans f_y_p4
  replace f_m_p4 := (hs.o gm trivial rfl).2.trans f_m_p4
  replace f_qrg9 := (hs.o gx trivial rfl).2.trans f_qrg9
  replace f_y_ls := (hs.o g_qrg9 trivial rfl).2.trans f_y_ls
  replace f_m_rl := (hs.o gm trivial rfl).2.trans f_m_rl
  replace ffv_806 := (hs.o g_qrg9 trivial rfl).1.trans ffv_806
  replace ffv_807 := (hs.o gm trivial rfl).1.trans ffv_807
  replace ffv_808 := (hs.o gm trivial rfl).1.trans ffv_808
  replace f_y_pc := (hs.o g_qo_pmn trivial rfl).2.trans f_y_pc
  replace f_m_pc := (hs.o gm trivial rfl).2.trans f_m_pc
  replace f_y_pw := (hs.o g_qo_pmn trivial rfl).2.trans f_y_pw
  replace f_m_pw := (hs.o gm trivial rfl).2.trans f_m_pw
  replace f_y_pk := (hs.o g_qo_pmn trivial rfl).2.trans f_y_pk
  replace f_m_pk := (hs.o gm trivial rfl).2.trans f_m_pk
  replace pf_qa : ∀ j : Nat, (j : Int) < (h_813.2.1 ax 6).toInt → h_813.2.2 qa j ≠ none := by
    intro j hj; rw [(hs.o gx trivial rfl).1] at hj; rw [(hs.a g_qa rfl j).2]; exact pf_qa j hj
  replace pf_qp : ∀ j : Nat, (j : Int) < (h_813.2.1 ax 8).toInt → h_813.2.2 qp j ≠ none := by
    intro j hj; rw [(hs.o gx trivial rfl).1] at hj; rw [(hs.a g_qp rfl j).2]; exact pf_qp j hj
  replace pf_qc : ∀ j : Nat, (j : Int) < (h_813.2.1 ax 11).toInt → h_813.2.2 qc j ≠ none := by
    intro j hj; rw [(hs.o gx trivial rfl).1] at hj; rw [(hs.a g_qc rfl j).2]; exact pf_qc j hj
  replace pf_qh : ∀ j : Nat, (j : Int) < (h_813.2.1 ax 13).toInt → h_813.2.2 qh j ≠ none := by
    intro j hj; rw [(hs.o gx trivial rfl).1] at hj; rw [(hs.a g_qh rfl j).2]; exact pf_qh j hj
  replace pf_ql : ∀ j : Nat, (j : Int) < (h_813.2.1 qw 0).toInt → h_813.2.2 ql j ≠ none := by
    intro j hj; rw [(hs.o g_qw trivial rfl).1] at hj; rw [(hs.a g_ql rfl j).2]; exact pf_ql j hj
  replace cl_lst : hx_col 8 h_813 ql 0 = c_lst := (hx_col_S hs hTo g_ql tt_40 tt_2 rfl rfl).trans cl_lst
  replace cl_dead : hx_col 40 h_813 qp 7 = c_dead := (hx_col_S hs hTo g_qp tt_44 tt_4 rfl rfl).trans cl_dead
  replace cl_isj : hx_col 40 h_813 qp 8 = c_isj := (hx_col_S hs hTo g_qp tt_44 tt_4 rfl rfl).trans cl_isj
  replace cl_dox : hx_col 40 h_813 qp 5 = c_dox := (hx_col_S hs hTo g_qp tt_44 tt_4 rfl rfl).trans cl_dox
  replace cl_doy : hx_col 40 h_813 qp 6 = c_doy := (hx_col_S hs hTo g_qp tt_44 tt_4 rfl rfl).trans cl_doy
  replace cl_fou : hx_col 100 h_813 qc 10 = c_fou := (hx_col_S hs hTo g_qc tt_45 tt_2 rfl rfl).trans cl_fou
  replace cl_tri : hx_col 100 h_813 qc 9 = c_tri := (hx_col_S hs hTo g_qc tt_45 tt_2 rfl rfl).trans cl_tri
  replace cl_bor : hx_col 40 h_813 qp 1 = F_bor := (hx_col_S hs hTo g_qp tt_44 tt_4 rfl rfl).trans cl_bor
  replace cl_kin : hx_col 40 h_813 qp 2 = F_kin := (hx_col_S hs hTo g_qp tt_44 tt_4 rfl rfl).trans cl_kin
  replace cl_sum : hx_col 100 h_813 qc 6 = F_sum := (hx_col_S hs hTo g_qc tt_45 tt_2 rfl rfl).trans cl_sum
  replace cl_fro : hx_col 100 h_813 qc 7 = F_fro := (hx_col_S hs hTo g_qc tt_45 tt_2 rfl rfl).trans cl_fro
  replace cl_fil : hx_col 100 h_813 qc 8 = F_fil := (hx_col_S hs hTo g_qc tt_45 tt_2 rfl rfl).trans cl_fil
  replace cl_hea : hx_col 100 h_813 qc 11 = F_mh := (hx_col_S hs hTo g_qc tt_45 tt_2 rfl rfl).trans cl_hea
  replace cl_jud : hx_col 100 h_813 qc 12 = F_jud := (hx_col_S hs hTo g_qc tt_45 tt_2 rfl rfl).trans cl_jud
  replace cl_ear : hx_col 40 h_813 qp 3 = F_ear := (hx_col_S hs hTo g_qp tt_44 tt_4 rfl rfl).trans cl_ear
  replace cl_hds : hx_col 40 h_813 qp 4 = F_hds := (hx_col_S hs hTo g_qp tt_44 tt_4 rfl rfl).trans cl_hds
  replace cl_ord : hx_col 100 h_813 qc 13 = F_ord := (hx_col_S hs hTo g_qc tt_45 tt_2 rfl rfl).trans cl_ord
  replace cl_wkl : hx_col 100 h_813 qc 14 = F_wkl := (hx_col_S hs hTo g_qc tt_45 tt_2 rfl rfl).trans cl_wkl
  replace cl_owd : hx_col 100 h_813 qc 15 = F_owd := (hx_col_S hs hTo g_qc tt_45 tt_2 rfl rfl).trans cl_owd
  replace cl_gds : hx_col 100 h_813 qc 17 = F_gds := (hx_col_S hs hTo g_qc tt_45 tt_2 rfl rfl).trans cl_gds
  replace cl_szd : hx_col 100 h_813 qc 16 = F_szd := (hx_col_S hs hTo g_qc tt_45 tt_2 rfl rfl).trans cl_szd
  replace cl_srv : hx_col 100 h_813 qc 18 = F_srv := (hx_col_S hs hTo g_qc tt_45 tt_2 rfl rfl).trans cl_srv
  replace nu_qp : hx_num 40 h_813 qp 0 (np.toInt) := hx_num_S hs hTo g_qp tt_44 tt_4 rfl rfl nu_qp
  replace nu_qc : hx_num 100 h_813 qc 0 (c0.toInt) := hx_num_S hs hTo g_qc tt_45 tt_2 rfl rfl nu_qc
  replace sb_list : hx_LQ 8 100 h_813 ql qc := hx_LQ_S hs g_ql g_qc rfl rfl sb_list
  replace hDF : hw_DF h_813 qc qp 2 F_aga c0.toInt := hw_DF_S hs hTo g_qc g_qp tt_45 tt_2 rfl rfl rfl hDF
  replace hRA9 : hv_RA h_813 qa qwo a0.toInt A9 := hv_RA_S hs hTo g_qa g_qwo tt_43 tt_0 rfl rfl rfl rfl rfl rfl ?o21 hRA9
  case o21 => omega
  replace hDP : hw_DF h_813 qc qp 1 F_by c0.toInt := hw_DF_S hs hTo g_qc g_qp tt_45 tt_2 rfl rfl rfl hDP
  replace hAC9 : hv_AC h_813 qc F_ml c0.toInt A9 := hv_AC_S hs hTo g_qc tt_45 tt_2 rfl tt_0 rfl rfl rfl rfl rfl rfl rfl hAC9
  replace hFX : hv_FX 8 4 h_813 qc cF9L c0.toInt := hv_FX_S hs hTo g_qc tt_45 tt_2 rfl rfl rfl rfl hFX
  replace hBX : hv_FX 3 5 h_813 qc F_be c0.toInt := hv_FX_S hs hTo g_qc tt_45 tt_2 rfl rfl rfl rfl hBX
  replace hHL : hv_HL h_813 qh qc F_ho m0.toInt c0.toInt := hv_HL_S hs g_qh g_qc rfl rfl hHL
  replace n_mw : h_813.2.1 mw = F_mw := (funext fun j => (hs.a g_mw rfl j).1).trans n_mw
  replace n_mr : h_813.2.1 mr = F_mr := (funext fun j => (hs.a g_mr rfl j).1).trans n_mr
  replace n_mp : h_813.2.1 mp = F_mp := (funext fun j => (hs.a g_mp rfl j).1).trans n_mp
  replace n_mn : h_813.2.1 mn = F_mn := (funext fun j => (hs.a g_mn rfl j).1).trans n_mn
  replace n_ml : h_813.2.1 ml = F_ml := (funext fun j => (hs.a g_ml rfl j).1).trans n_ml
  replace n_mh : h_813.2.1 mh = F_mh := (funext fun j => (hs.a g_mh rfl j).1).trans n_mh
  replace n_mt : h_813.2.1 mt = F_mt := (funext fun j => (hs.a g_mt rfl j).1).trans n_mt
  replace n_m_fou : h_813.2.1 m_fou = F_m_fou := (funext fun j => (hs.a g_m_fou rfl j).1).trans n_m_fou
  replace n_b_of : h_813.2.1 b_of = B_of := (funext fun j => (hs.a g_b_of rfl j).1).trans n_b_of
  replace n_m_of : h_813.2.1 m_of = F_of := (funext fun j => (hs.a g_m_of rfl j).1).trans n_m_of
  replace n_b_wf : h_813.2.1 b_wf = B_wf := (funext fun j => (hs.a g_b_wf rfl j).1).trans n_b_wf
  replace n_m_wf : h_813.2.1 m_wf = F_wf := (funext fun j => (hs.a g_m_wf rfl j).1).trans n_m_wf
  replace n_b_df : h_813.2.1 b_df = B_df := (funext fun j => (hs.a g_b_df rfl j).1).trans n_b_df
  replace n_m_df : h_813.2.1 m_df = F_df := (funext fun j => (hs.a g_m_df rfl j).1).trans n_m_df
  replace n_b_kf : h_813.2.1 b_kf = B_kf := (funext fun j => (hs.a g_b_kf rfl j).1).trans n_b_kf
  replace n_m_kf : h_813.2.1 m_kf = F_kf := (funext fun j => (hs.a g_m_kf rfl j).1).trans n_m_kf
  replace n_b_sf : h_813.2.1 b_sf = B_sf := (funext fun j => (hs.a g_b_sf rfl j).1).trans n_b_sf
  replace n_m_sf : h_813.2.1 m_sf = F_sf := (funext fun j => (hs.a g_m_sf rfl j).1).trans n_m_sf
  replace n_b_bf : h_813.2.1 b_bf = bfL := (funext fun j => (hs.a g_b_bf rfl j).1).trans n_b_bf
  replace n_lst : h_813.2.1 m_lst = F_lst := (funext fun j => (hs.a g_m_lst rfl j).1).trans n_lst
  replace n_tp : h_813.2.1 m_tp = F_tp := (funext fun j => (hs.a g_m_tp rfl j).1).trans n_tp
  replace n_qtp : h_813.2.1 qtp = F_tp := (funext fun j => (hs.a g_qtp rfl j).1).trans n_qtp
  replace n_dead : h_813.2.1 m_dead = F_dead := (funext fun j => (hs.a g_m_dead rfl j).1).trans n_dead
  replace n_isj : h_813.2.1 m_isj = F_isj := (funext fun j => (hs.a g_m_isj rfl j).1).trans n_isj
  replace n_dox : h_813.2.1 m_dox = F_dox := (funext fun j => (hs.a g_m_dox rfl j).1).trans n_dox
  replace n_doy : h_813.2.1 m_doy = F_doy := (funext fun j => (hs.a g_m_doy rfl j).1).trans n_doy
  replace n_qlt : h_813.2.1 qlt = F_qlt := (funext fun j => (hs.a g_qlt rfl j).1).trans n_qlt
  replace n_m_wkd : h_813.2.1 m_wkd = F_m_wkd := (funext fun j => (hs.a g_m_wkd rfl j).1).trans n_m_wkd
  replace n_aga : h_813.2.1 m_aga = F_aga := (funext fun j => (hs.a g_m_aga rfl j).1).trans n_aga
  replace n_ad : h_813.2.1 m_ad = F_ad := (funext fun j => (hs.a g_m_ad rfl j).1).trans n_ad
  replace n_by : h_813.2.1 m_by = F_by := (funext fun j => (hs.a g_m_by rfl j).1).trans n_by
  replace n_ho : h_813.2.1 m_ho = F_ho := (funext fun j => (hs.a g_m_ho rfl j).1).trans n_ho
  replace n_fc : h_813.2.1 m_fc = F_fc := (funext fun j => (hs.a g_m_fc rfl j).1).trans n_fc
  replace n_nt : h_813.2.1 m_nt = F_nt := (funext fun j => (hs.a g_m_nt rfl j).1).trans n_nt
  replace n_wt : h_813.2.1 m_wt = F_wt := (funext fun j => (hs.a g_m_wt rfl j).1).trans n_wt
  replace n_be : h_813.2.1 m_be = F_be := (funext fun j => (hs.a g_m_be rfl j).1).trans n_be
  replace n_bor : h_813.2.1 m_bor = F_bor := (funext fun j => (hs.a g_m_bor rfl j).1).trans n_bor
  replace n_kin : h_813.2.1 m_kin = F_kin := (funext fun j => (hs.a g_m_kin rfl j).1).trans n_kin
  replace n_sum : h_813.2.1 m_sum = F_sum := (funext fun j => (hs.a g_m_sum rfl j).1).trans n_sum
  replace n_fro : h_813.2.1 m_fro = F_fro := (funext fun j => (hs.a g_m_fro rfl j).1).trans n_fro
  replace n_fil : h_813.2.1 m_fil = F_fil := (funext fun j => (hs.a g_m_fil rfl j).1).trans n_fil
  replace n_jud : h_813.2.1 m_jud = F_jud := (funext fun j => (hs.a g_m_jud rfl j).1).trans n_jud
  replace n_ear : h_813.2.1 m_ear = F_ear := (funext fun j => (hs.a g_m_ear rfl j).1).trans n_ear
  replace n_hds : h_813.2.1 m_hds = F_hds := (funext fun j => (hs.a g_m_hds rfl j).1).trans n_hds
  replace n_ord : h_813.2.1 m_ord = F_ord := (funext fun j => (hs.a g_m_ord rfl j).1).trans n_ord
  replace n_wkl : h_813.2.1 m_wkl = F_wkl := (funext fun j => (hs.a g_m_wkl rfl j).1).trans n_wkl
  replace n_owd : h_813.2.1 m_owd = F_owd := (funext fun j => (hs.a g_m_owd rfl j).1).trans n_owd
  replace n_gds : h_813.2.1 m_gds = F_gds := (funext fun j => (hs.a g_m_gds rfl j).1).trans n_gds
  replace n_szd : h_813.2.1 m_szd = F_szd := (funext fun j => (hs.a g_m_szd rfl j).1).trans n_szd
  replace n_srv : h_813.2.1 m_srv = F_srv := (funext fun j => (hs.a g_m_srv rfl j).1).trans n_srv
  replace n_p0 : h_813.2.1 m_p0 = F_p0 := (funext fun j => (hs.a g_m_p0 rfl j).1).trans n_p0
  replace n_y_p0 : h_813.2.1 y_p0 = F_p0 := (funext fun j => (hs.a g_y_p0 rfl j).1).trans n_y_p0
  replace n_p1 : h_813.2.1 m_p1 = F_p1 := (funext fun j => (hs.a g_m_p1 rfl j).1).trans n_p1
  replace n_y_p1 : h_813.2.1 y_p1 = F_p1 := (funext fun j => (hs.a g_y_p1 rfl j).1).trans n_y_p1
  replace n_p2 : h_813.2.1 m_p2 = F_p2 := (funext fun j => (hs.a g_m_p2 rfl j).1).trans n_p2
  replace n_y_p2 : h_813.2.1 y_p2 = F_p2 := (funext fun j => (hs.a g_y_p2 rfl j).1).trans n_y_p2
  replace n_p3 : h_813.2.1 m_p3 = F_p3 := (funext fun j => (hs.a g_m_p3 rfl j).1).trans n_p3
  replace n_y_p3 : h_813.2.1 y_p3 = F_p3 := (funext fun j => (hs.a g_y_p3 rfl j).1).trans n_y_p3
  replace n_p4 : h_813.2.1 m_p4 = F_p4 := (funext fun j => (hs.a g_m_p4 rfl j).1).trans n_p4
  replace n_y_p4 : h_813.2.1 y_p4 = F_p4 := (funext fun j => (hs.a g_y_p4 rfl j).1).trans n_y_p4
  replace n_y_ls : h_813.2.1 y_ls = F_y_ls := (funext fun j => (hs.a g_y_ls rfl j).1).trans n_y_ls
  replace n_m_rl : h_813.2.1 m_rl = F_m_rl := (funext fun j => (hs.a g_m_rl rfl j).1).trans n_m_rl
  replace n_y_pc : h_813.2.1 y_pc = F_y_pc := (funext fun j => (hs.a g_y_pc rfl j).1).trans n_y_pc
  replace n_m_pc : h_813.2.1 m_pc = F_m_pc := (funext fun j => (hs.a g_m_pc rfl j).1).trans n_m_pc
  replace n_y_pw : h_813.2.1 y_pw = F_y_pw := (funext fun j => (hs.a g_y_pw rfl j).1).trans n_y_pw
  replace n_m_pw : h_813.2.1 m_pw = F_m_pw := (funext fun j => (hs.a g_m_pw rfl j).1).trans n_m_pw
  replace n_y_pk : h_813.2.1 y_pk = F_y_pk := (funext fun j => (hs.a g_y_pk rfl j).1).trans n_y_pk
  replace n_m_pk : h_813.2.1 m_pk = F_m_pk := (funext fun j => (hs.a g_m_pk rfl j).1).trans n_m_pk
  replace gx := gx.S hs
  replace gm := gm.S hs
  replace g_qa := g_qa.S hs
  replace g_qp := g_qp.S hs
  replace g_qc := g_qc.S hs
  replace g_qh := g_qh.S hs
  replace g_qw := g_qw.S hs
  replace g_ql := g_ql.S hs
  replace g_mw := g_mw.S hs
  replace g_mr := g_mr.S hs
  replace g_mp := g_mp.S hs
  replace g_mn := g_mn.S hs
  replace g_ml := g_ml.S hs
  replace g_mh := g_mh.S hs
  replace g_mt := g_mt.S hs
  replace g_m_fou := g_m_fou.S hs
  replace g_qo_ln := g_qo_ln.S hs
  replace g_qo_py := g_qo_py.S hs
  replace g_qo_pmn := g_qo_pmn.S hs
  replace g_b_of := g_b_of.S hs
  replace g_m_of := g_m_of.S hs
  replace g_b_wf := g_b_wf.S hs
  replace g_m_wf := g_m_wf.S hs
  replace g_b_df := g_b_df.S hs
  replace g_m_df := g_m_df.S hs
  replace g_b_kf := g_b_kf.S hs
  replace g_m_kf := g_m_kf.S hs
  replace g_b_sf := g_b_sf.S hs
  replace g_m_sf := g_m_sf.S hs
  replace g_b_bf := g_b_bf.S hs
  replace g_m_lst := g_m_lst.S hs
  replace g_qtp := g_qtp.S hs
  replace g_m_tp := g_m_tp.S hs
  replace g_m_dead := g_m_dead.S hs
  replace g_m_isj := g_m_isj.S hs
  replace g_m_dox := g_m_dox.S hs
  replace g_m_doy := g_m_doy.S hs
  replace g_qlt := g_qlt.S hs
  replace g_qlf := g_qlf.S hs
  replace g_m_wkd := g_m_wkd.S hs
  replace g_m_aga := g_m_aga.S hs
  replace g_qwo := g_qwo.S hs
  replace g_m_ad := g_m_ad.S hs
  replace g_m_by := g_m_by.S hs
  replace g_m_ho := g_m_ho.S hs
  replace g_m_fc := g_m_fc.S hs
  replace g_m_nt := g_m_nt.S hs
  replace g_m_wt := g_m_wt.S hs
  replace g_m_be := g_m_be.S hs
  replace g_m_bor := g_m_bor.S hs
  replace g_m_kin := g_m_kin.S hs
  replace g_m_sum := g_m_sum.S hs
  replace g_m_fro := g_m_fro.S hs
  replace g_m_fil := g_m_fil.S hs
  replace g_m_jud := g_m_jud.S hs
  replace g_m_ear := g_m_ear.S hs
  replace g_m_hds := g_m_hds.S hs
  replace g_m_ord := g_m_ord.S hs
  replace g_m_wkl := g_m_wkl.S hs
  replace g_m_owd := g_m_owd.S hs
  replace g_m_gds := g_m_gds.S hs
  replace g_m_szd := g_m_szd.S hs
  replace g_m_srv := g_m_srv.S hs
  replace g_y_p0 := g_y_p0.S hs
  replace g_m_p0 := g_m_p0.S hs
  replace g_y_p1 := g_y_p1.S hs
  replace g_m_p1 := g_m_p1.S hs
  replace g_y_p2 := g_y_p2.S hs
  replace g_m_p2 := g_m_p2.S hs
  replace g_y_p3 := g_y_p3.S hs
  replace g_m_p3 := g_m_p3.S hs
  replace g_y_p4 := g_y_p4.S hs
  replace g_m_p4 := g_m_p4.S hs
  replace g_qrg9 := g_qrg9.S hs
  replace g_y_ls := g_y_ls.S hs
  replace g_m_rl := g_m_rl.S hs
  replace g_y_pc := g_y_pc.S hs
  replace g_m_pc := g_m_pc.S hs
  replace g_y_pw := g_y_pw.S hs
  replace g_m_pw := g_m_pw.S hs
  replace g_y_pk := g_y_pk.S hs
  replace g_m_pk := g_m_pk.S hs
  refine lv_pop hx hb dL_law_1217 rfl ?_
  refine lv_aload_n hx hb dL_law_1218 rfl (lv_at hl 1 rfl) ?_
  refine lv_aload_n hx hb dL_law_1219 rfl (lv_at hl 3 rfl) ?_
  refine lv_iload_n hx hb dL_law_1220 rfl (lv_at hl 0 rfl) ?_
  refine lv_iconst (v := 1) hx hb dL_law_1221 ?o22 ?_
  case o22 => decide
  refine lv_iadd hx hb dL_law_1222 ?_
  refine lv_topi (fun x_817 ex_817 => ?_)
  have zx_817 : x_817.toInt = i.toInt + 1 := ?o23
  case o23 =>
    rw [ex_817]
    refine i32_add rfl ?o24 ?o25 ?o26
    case o24 => decide
    case o25 => omega
    case o26 => omega
  obtain rfl : x_810 = x_817 := ex_810.trans ex_817.symm
  refine va_sld hx hb hX hbl hbA hW.2.2.2.1 (vp_in_iff.mpr ⟨?o27, ?o28⟩) dL_law_1223 ?_
  case o27 => omega
  case o28 => omega
  refine lv_topi (fun x_818 ex_818 => ?_)
  obtain rfl : x_811 = x_818 := ex_811.trans ex_818.symm
  have hTo := hT
  refine hx_goi (hx_runV (As := [.int x_811]) (rest := []) ⟨hx, hb, hml, hown, hts⟩ hW gm tt_10 (T := TX10) (N := 98) rfl (t_X10_netted_v l dC dI dA L_812 h_813 H.size am x_811 hT gm m_rl g_m_rl f_m_rl F_m_rl n_m_rl fv_807 ffv_807 fv_808 ffv_808) (cwV 1 hts (hx_gV kw_1713 kw_1710 kw_1711 kw_1712 kw_103) rfl rfl rfl (by decide +kernel) ⟨Nat.le_of_ble_eq_true rfl, Nat.le_of_ble_eq_true rfl⟩) rfl hl.1 rfl (Nat.le_of_ble_eq_true rfl) dL_law_1224 ⟨(show CC + 0 + 0 ≤ 600000 from ?o29), (show SS + 0 + 0 ≤ 7302250 from ?o30)⟩) hW (fun r_821 L_819 h_820 H locs p_822 hW => ?_)
  case o29 => omega
  case o30 => omega
  obtain ⟨hr_823, hT, hs⟩ := p_822
  replace hT : hx_T T_tb L_819 h_820 := hT
  replace hs : hx_S T_tb [] L_812 h_813 L_819 h_820 := hs
  replace f_qa := (hs.o gx trivial rfl).2.trans f_qa
  replace f_qp := (hs.o gx trivial rfl).2.trans f_qp
  replace f_qc := (hs.o gx trivial rfl).2.trans f_qc
  replace f_qh := (hs.o gx trivial rfl).2.trans f_qh
  replace f_qw := (hs.o gx trivial rfl).2.trans f_qw
  replace f_ql := (hs.o g_qw trivial rfl).2.trans f_ql
  replace f_m_now := (hs.o gm trivial rfl).1.trans f_m_now
  replace f_m_persons := (hs.o gm trivial rfl).1.trans f_m_persons
  replace f_m_claims := (hs.o gm trivial rfl).1.trans f_m_claims
  replace f_m_taped := (hs.o gm trivial rfl).1.trans f_m_taped
  replace f_m_acts := (hs.o gm trivial rfl).1.trans f_m_acts
  replace f_m_heardMany := (hs.o gm trivial rfl).1.trans f_m_heardMany
  replace f_m_lines := (hs.o gm trivial rfl).1.trans f_m_lines
  replace f_m_listed := (hs.o gm trivial rfl).1.trans f_m_listed
  replace f_m_walkedMany := (hs.o gm trivial rfl).1.trans f_m_walkedMany
  replace f_m_payments := (hs.o gm trivial rfl).1.trans f_m_payments
  replace f_m_planMany := (hs.o gm trivial rfl).1.trans f_m_planMany
  replace f_x_now := (hs.o gx trivial rfl).1.trans f_x_now
  replace f_x_personCount := (hs.o gx trivial rfl).1.trans f_x_personCount
  replace f_x_claimCount := (hs.o gx trivial rfl).1.trans f_x_claimCount
  replace f_x_tapeLength := (hs.o gx trivial rfl).1.trans f_x_tapeLength
  replace f_x_actCount := (hs.o gx trivial rfl).1.trans f_x_actCount
  replace f_x_heardCount := (hs.o gx trivial rfl).1.trans f_x_heardCount
  replace f_mw := (hs.o gm trivial rfl).2.trans f_mw
  replace f_mr := (hs.o gm trivial rfl).2.trans f_mr
  replace f_mp := (hs.o gm trivial rfl).2.trans f_mp
  replace f_mn := (hs.o gm trivial rfl).2.trans f_mn
  replace f_ml := (hs.o gm trivial rfl).2.trans f_ml
  replace f_mh := (hs.o gm trivial rfl).2.trans f_mh
  replace f_mt := (hs.o gm trivial rfl).2.trans f_mt
  replace f_m_fou := (hs.o gm trivial rfl).2.trans f_m_fou
  replace f_qo_ln := (hs.o gx trivial rfl).2.trans f_qo_ln
  replace f_o_ln := (hs.o g_qo_ln trivial rfl).1.trans f_o_ln
  replace f_o_lsd := (hs.o g_qw trivial rfl).1.trans f_o_lsd
  replace f_o_wkm := (hs.o g_qw trivial rfl).1.trans f_o_wkm
  replace f_qo_py := (hs.o gx trivial rfl).2.trans f_qo_py
  replace f_o_py := (hs.o g_qo_py trivial rfl).1.trans f_o_py
  replace f_qo_pmn := (hs.o gx trivial rfl).2.trans f_qo_pmn
  replace f_o_pmn := (hs.o g_qo_pmn trivial rfl).1.trans f_o_pmn
  replace f_b_of := (hs.o g_qo_ln trivial rfl).2.trans f_b_of
  replace f_m_of := (hs.o gm trivial rfl).2.trans f_m_of
  replace f_b_wf := (hs.o g_qo_ln trivial rfl).2.trans f_b_wf
  replace f_m_wf := (hs.o gm trivial rfl).2.trans f_m_wf
  replace f_b_df := (hs.o g_qo_ln trivial rfl).2.trans f_b_df
  replace f_m_df := (hs.o gm trivial rfl).2.trans f_m_df
  replace f_b_kf := (hs.o g_qo_ln trivial rfl).2.trans f_b_kf
  replace f_m_kf := (hs.o gm trivial rfl).2.trans f_m_kf
  replace f_b_sf := (hs.o g_qo_ln trivial rfl).2.trans f_b_sf
  replace f_m_sf := (hs.o gm trivial rfl).2.trans f_m_sf
  replace f_b_bf := (hs.o g_qo_ln trivial rfl).2.trans f_b_bf
  replace f_m_lst := (hs.o gm trivial rfl).2.trans f_m_lst
  replace f_qtp := (hs.o gx trivial rfl).2.trans f_qtp
  replace f_m_tp := (hs.o gm trivial rfl).2.trans f_m_tp
  replace f_m_dead := (hs.o gm trivial rfl).2.trans f_m_dead
  replace f_m_isj := (hs.o gm trivial rfl).2.trans f_m_isj
  replace f_m_dox := (hs.o gm trivial rfl).2.trans f_m_dox
  replace f_m_doy := (hs.o gm trivial rfl).2.trans f_m_doy
  replace f_qlt := (hs.o g_qw trivial rfl).2.trans f_qlt
  replace f_qlf := (hs.o g_qw trivial rfl).2.trans f_qlf
  replace f_m_wkd := (hs.o gm trivial rfl).2.trans f_m_wkd
  replace f_m_aga := (hs.o gm trivial rfl).2.trans f_m_aga
  replace f_qwo := (hs.o gx trivial rfl).2.trans f_qwo
  replace f_m_ad := (hs.o gm trivial rfl).2.trans f_m_ad
  replace f_m_by := (hs.o gm trivial rfl).2.trans f_m_by
  replace f_m_ho := (hs.o gm trivial rfl).2.trans f_m_ho
  replace f_m_fc := (hs.o gm trivial rfl).2.trans f_m_fc
  replace f_m_nt := (hs.o gm trivial rfl).2.trans f_m_nt
  replace f_m_wt := (hs.o gm trivial rfl).2.trans f_m_wt
  replace f_m_be := (hs.o gm trivial rfl).2.trans f_m_be
  replace f_m_bor := (hs.o gm trivial rfl).2.trans f_m_bor
  replace f_m_kin := (hs.o gm trivial rfl).2.trans f_m_kin
  replace f_m_sum := (hs.o gm trivial rfl).2.trans f_m_sum
  replace f_m_fro := (hs.o gm trivial rfl).2.trans f_m_fro
  replace f_m_fil := (hs.o gm trivial rfl).2.trans f_m_fil
  replace f_m_jud := (hs.o gm trivial rfl).2.trans f_m_jud
  replace f_m_ear := (hs.o gm trivial rfl).2.trans f_m_ear
  replace f_m_hds := (hs.o gm trivial rfl).2.trans f_m_hds
  replace f_m_ord := (hs.o gm trivial rfl).2.trans f_m_ord
  replace f_m_wkl := (hs.o gm trivial rfl).2.trans f_m_wkl
  replace f_m_owd := (hs.o gm trivial rfl).2.trans f_m_owd
  replace f_m_gds := (hs.o gm trivial rfl).2.trans f_m_gds
  replace f_m_szd := (hs.o gm trivial rfl).2.trans f_m_szd
  replace f_m_srv := (hs.o gm trivial rfl).2.trans f_m_srv
  replace f_y_p0 := (hs.o g_qo_py trivial rfl).2.trans f_y_p0
  replace f_m_p0 := (hs.o gm trivial rfl).2.trans f_m_p0
  replace f_y_p1 := (hs.o g_qo_py trivial rfl).2.trans f_y_p1
  replace f_m_p1 := (hs.o gm trivial rfl).2.trans f_m_p1
  replace f_y_p2 := (hs.o g_qo_py trivial rfl).2.trans f_y_p2
  replace f_m_p2 := (hs.o gm trivial rfl).2.trans f_m_p2
  replace f_y_p3 := (hs.o g_qo_py trivial rfl).2.trans f_y_p3
  replace f_m_p3 := (hs.o gm trivial rfl).2.trans f_m_p3
  replace f_y_p4 := (hs.o g_qo_py trivial rfl).2.trans f_y_p4
  replace f_m_p4 := (hs.o gm trivial rfl).2.trans f_m_p4
  replace f_qrg9 := (hs.o gx trivial rfl).2.trans f_qrg9
  replace f_y_ls := (hs.o g_qrg9 trivial rfl).2.trans f_y_ls
  replace f_m_rl := (hs.o gm trivial rfl).2.trans f_m_rl
  replace ffv_806 := (hs.o g_qrg9 trivial rfl).1.trans ffv_806
  replace ffv_807 := (hs.o gm trivial rfl).1.trans ffv_807
  replace ffv_808 := (hs.o gm trivial rfl).1.trans ffv_808
  replace f_y_pc := (hs.o g_qo_pmn trivial rfl).2.trans f_y_pc
  replace f_m_pc := (hs.o gm trivial rfl).2.trans f_m_pc
  replace f_y_pw := (hs.o g_qo_pmn trivial rfl).2.trans f_y_pw
  replace f_m_pw := (hs.o gm trivial rfl).2.trans f_m_pw
  replace f_y_pk := (hs.o g_qo_pmn trivial rfl).2.trans f_y_pk
  replace f_m_pk := (hs.o gm trivial rfl).2.trans f_m_pk
  replace pf_qa : ∀ j : Nat, (j : Int) < (h_820.2.1 ax 6).toInt → h_820.2.2 qa j ≠ none := by
    intro j hj; rw [(hs.o gx trivial rfl).1] at hj; rw [(hs.a g_qa rfl j).2]; exact pf_qa j hj
  replace pf_qp : ∀ j : Nat, (j : Int) < (h_820.2.1 ax 8).toInt → h_820.2.2 qp j ≠ none := by
    intro j hj; rw [(hs.o gx trivial rfl).1] at hj; rw [(hs.a g_qp rfl j).2]; exact pf_qp j hj
  replace pf_qc : ∀ j : Nat, (j : Int) < (h_820.2.1 ax 11).toInt → h_820.2.2 qc j ≠ none := by
    intro j hj; rw [(hs.o gx trivial rfl).1] at hj; rw [(hs.a g_qc rfl j).2]; exact pf_qc j hj
  replace pf_qh : ∀ j : Nat, (j : Int) < (h_820.2.1 ax 13).toInt → h_820.2.2 qh j ≠ none := by
    intro j hj; rw [(hs.o gx trivial rfl).1] at hj; rw [(hs.a g_qh rfl j).2]; exact pf_qh j hj
  replace pf_ql : ∀ j : Nat, (j : Int) < (h_820.2.1 qw 0).toInt → h_820.2.2 ql j ≠ none := by
    intro j hj; rw [(hs.o g_qw trivial rfl).1] at hj; rw [(hs.a g_ql rfl j).2]; exact pf_ql j hj
  replace cl_lst : hx_col 8 h_820 ql 0 = c_lst := (hx_col_S hs hTo g_ql tt_40 tt_2 rfl rfl).trans cl_lst
  replace cl_dead : hx_col 40 h_820 qp 7 = c_dead := (hx_col_S hs hTo g_qp tt_44 tt_4 rfl rfl).trans cl_dead
  replace cl_isj : hx_col 40 h_820 qp 8 = c_isj := (hx_col_S hs hTo g_qp tt_44 tt_4 rfl rfl).trans cl_isj
  replace cl_dox : hx_col 40 h_820 qp 5 = c_dox := (hx_col_S hs hTo g_qp tt_44 tt_4 rfl rfl).trans cl_dox
  replace cl_doy : hx_col 40 h_820 qp 6 = c_doy := (hx_col_S hs hTo g_qp tt_44 tt_4 rfl rfl).trans cl_doy
  replace cl_fou : hx_col 100 h_820 qc 10 = c_fou := (hx_col_S hs hTo g_qc tt_45 tt_2 rfl rfl).trans cl_fou
  replace cl_tri : hx_col 100 h_820 qc 9 = c_tri := (hx_col_S hs hTo g_qc tt_45 tt_2 rfl rfl).trans cl_tri
  replace cl_bor : hx_col 40 h_820 qp 1 = F_bor := (hx_col_S hs hTo g_qp tt_44 tt_4 rfl rfl).trans cl_bor
  replace cl_kin : hx_col 40 h_820 qp 2 = F_kin := (hx_col_S hs hTo g_qp tt_44 tt_4 rfl rfl).trans cl_kin
  replace cl_sum : hx_col 100 h_820 qc 6 = F_sum := (hx_col_S hs hTo g_qc tt_45 tt_2 rfl rfl).trans cl_sum
  replace cl_fro : hx_col 100 h_820 qc 7 = F_fro := (hx_col_S hs hTo g_qc tt_45 tt_2 rfl rfl).trans cl_fro
  replace cl_fil : hx_col 100 h_820 qc 8 = F_fil := (hx_col_S hs hTo g_qc tt_45 tt_2 rfl rfl).trans cl_fil
  replace cl_hea : hx_col 100 h_820 qc 11 = F_mh := (hx_col_S hs hTo g_qc tt_45 tt_2 rfl rfl).trans cl_hea
  replace cl_jud : hx_col 100 h_820 qc 12 = F_jud := (hx_col_S hs hTo g_qc tt_45 tt_2 rfl rfl).trans cl_jud
  replace cl_ear : hx_col 40 h_820 qp 3 = F_ear := (hx_col_S hs hTo g_qp tt_44 tt_4 rfl rfl).trans cl_ear
  replace cl_hds : hx_col 40 h_820 qp 4 = F_hds := (hx_col_S hs hTo g_qp tt_44 tt_4 rfl rfl).trans cl_hds
  replace cl_ord : hx_col 100 h_820 qc 13 = F_ord := (hx_col_S hs hTo g_qc tt_45 tt_2 rfl rfl).trans cl_ord
  replace cl_wkl : hx_col 100 h_820 qc 14 = F_wkl := (hx_col_S hs hTo g_qc tt_45 tt_2 rfl rfl).trans cl_wkl
  replace cl_owd : hx_col 100 h_820 qc 15 = F_owd := (hx_col_S hs hTo g_qc tt_45 tt_2 rfl rfl).trans cl_owd
  replace cl_gds : hx_col 100 h_820 qc 17 = F_gds := (hx_col_S hs hTo g_qc tt_45 tt_2 rfl rfl).trans cl_gds
  replace cl_szd : hx_col 100 h_820 qc 16 = F_szd := (hx_col_S hs hTo g_qc tt_45 tt_2 rfl rfl).trans cl_szd
  replace cl_srv : hx_col 100 h_820 qc 18 = F_srv := (hx_col_S hs hTo g_qc tt_45 tt_2 rfl rfl).trans cl_srv
  replace nu_qp : hx_num 40 h_820 qp 0 (np.toInt) := hx_num_S hs hTo g_qp tt_44 tt_4 rfl rfl nu_qp
  replace nu_qc : hx_num 100 h_820 qc 0 (c0.toInt) := hx_num_S hs hTo g_qc tt_45 tt_2 rfl rfl nu_qc
  replace sb_list : hx_LQ 8 100 h_820 ql qc := hx_LQ_S hs g_ql g_qc rfl rfl sb_list
  replace hDF : hw_DF h_820 qc qp 2 F_aga c0.toInt := hw_DF_S hs hTo g_qc g_qp tt_45 tt_2 rfl rfl rfl hDF
  replace hRA9 : hv_RA h_820 qa qwo a0.toInt A9 := hv_RA_S hs hTo g_qa g_qwo tt_43 tt_0 rfl rfl rfl rfl rfl rfl ?o31 hRA9
  case o31 => omega
  replace hDP : hw_DF h_820 qc qp 1 F_by c0.toInt := hw_DF_S hs hTo g_qc g_qp tt_45 tt_2 rfl rfl rfl hDP
  replace hAC9 : hv_AC h_820 qc F_ml c0.toInt A9 := hv_AC_S hs hTo g_qc tt_45 tt_2 rfl tt_0 rfl rfl rfl rfl rfl rfl rfl hAC9
  replace hFX : hv_FX 8 4 h_820 qc cF9L c0.toInt := hv_FX_S hs hTo g_qc tt_45 tt_2 rfl rfl rfl rfl hFX
  replace hBX : hv_FX 3 5 h_820 qc F_be c0.toInt := hv_FX_S hs hTo g_qc tt_45 tt_2 rfl rfl rfl rfl hBX
  replace hHL : hv_HL h_820 qh qc F_ho m0.toInt c0.toInt := hv_HL_S hs g_qh g_qc rfl rfl hHL
  replace n_mw : h_820.2.1 mw = F_mw := (funext fun j => (hs.a g_mw rfl j).1).trans n_mw
  replace n_mr : h_820.2.1 mr = F_mr := (funext fun j => (hs.a g_mr rfl j).1).trans n_mr
  replace n_mp : h_820.2.1 mp = F_mp := (funext fun j => (hs.a g_mp rfl j).1).trans n_mp
  replace n_mn : h_820.2.1 mn = F_mn := (funext fun j => (hs.a g_mn rfl j).1).trans n_mn
  replace n_ml : h_820.2.1 ml = F_ml := (funext fun j => (hs.a g_ml rfl j).1).trans n_ml
  replace n_mh : h_820.2.1 mh = F_mh := (funext fun j => (hs.a g_mh rfl j).1).trans n_mh
  replace n_mt : h_820.2.1 mt = F_mt := (funext fun j => (hs.a g_mt rfl j).1).trans n_mt
  replace n_m_fou : h_820.2.1 m_fou = F_m_fou := (funext fun j => (hs.a g_m_fou rfl j).1).trans n_m_fou
  replace n_b_of : h_820.2.1 b_of = B_of := (funext fun j => (hs.a g_b_of rfl j).1).trans n_b_of
  replace n_m_of : h_820.2.1 m_of = F_of := (funext fun j => (hs.a g_m_of rfl j).1).trans n_m_of
  replace n_b_wf : h_820.2.1 b_wf = B_wf := (funext fun j => (hs.a g_b_wf rfl j).1).trans n_b_wf
  replace n_m_wf : h_820.2.1 m_wf = F_wf := (funext fun j => (hs.a g_m_wf rfl j).1).trans n_m_wf
  replace n_b_df : h_820.2.1 b_df = B_df := (funext fun j => (hs.a g_b_df rfl j).1).trans n_b_df
  replace n_m_df : h_820.2.1 m_df = F_df := (funext fun j => (hs.a g_m_df rfl j).1).trans n_m_df
  replace n_b_kf : h_820.2.1 b_kf = B_kf := (funext fun j => (hs.a g_b_kf rfl j).1).trans n_b_kf
  replace n_m_kf : h_820.2.1 m_kf = F_kf := (funext fun j => (hs.a g_m_kf rfl j).1).trans n_m_kf
  replace n_b_sf : h_820.2.1 b_sf = B_sf := (funext fun j => (hs.a g_b_sf rfl j).1).trans n_b_sf
  replace n_m_sf : h_820.2.1 m_sf = F_sf := (funext fun j => (hs.a g_m_sf rfl j).1).trans n_m_sf
  replace n_b_bf : h_820.2.1 b_bf = bfL := (funext fun j => (hs.a g_b_bf rfl j).1).trans n_b_bf
  replace n_lst : h_820.2.1 m_lst = F_lst := (funext fun j => (hs.a g_m_lst rfl j).1).trans n_lst
  replace n_tp : h_820.2.1 m_tp = F_tp := (funext fun j => (hs.a g_m_tp rfl j).1).trans n_tp
  replace n_qtp : h_820.2.1 qtp = F_tp := (funext fun j => (hs.a g_qtp rfl j).1).trans n_qtp
  replace n_dead : h_820.2.1 m_dead = F_dead := (funext fun j => (hs.a g_m_dead rfl j).1).trans n_dead
  replace n_isj : h_820.2.1 m_isj = F_isj := (funext fun j => (hs.a g_m_isj rfl j).1).trans n_isj
  replace n_dox : h_820.2.1 m_dox = F_dox := (funext fun j => (hs.a g_m_dox rfl j).1).trans n_dox
  replace n_doy : h_820.2.1 m_doy = F_doy := (funext fun j => (hs.a g_m_doy rfl j).1).trans n_doy
  replace n_qlt : h_820.2.1 qlt = F_qlt := (funext fun j => (hs.a g_qlt rfl j).1).trans n_qlt
  replace n_m_wkd : h_820.2.1 m_wkd = F_m_wkd := (funext fun j => (hs.a g_m_wkd rfl j).1).trans n_m_wkd
  replace n_aga : h_820.2.1 m_aga = F_aga := (funext fun j => (hs.a g_m_aga rfl j).1).trans n_aga
  replace n_ad : h_820.2.1 m_ad = F_ad := (funext fun j => (hs.a g_m_ad rfl j).1).trans n_ad
  replace n_by : h_820.2.1 m_by = F_by := (funext fun j => (hs.a g_m_by rfl j).1).trans n_by
  replace n_ho : h_820.2.1 m_ho = F_ho := (funext fun j => (hs.a g_m_ho rfl j).1).trans n_ho
  replace n_fc : h_820.2.1 m_fc = F_fc := (funext fun j => (hs.a g_m_fc rfl j).1).trans n_fc
  replace n_nt : h_820.2.1 m_nt = F_nt := (funext fun j => (hs.a g_m_nt rfl j).1).trans n_nt
  replace n_wt : h_820.2.1 m_wt = F_wt := (funext fun j => (hs.a g_m_wt rfl j).1).trans n_wt
  replace n_be : h_820.2.1 m_be = F_be := (funext fun j => (hs.a g_m_be rfl j).1).trans n_be
  replace n_bor : h_820.2.1 m_bor = F_bor := (funext fun j => (hs.a g_m_bor rfl j).1).trans n_bor
  replace n_kin : h_820.2.1 m_kin = F_kin := (funext fun j => (hs.a g_m_kin rfl j).1).trans n_kin
  replace n_sum : h_820.2.1 m_sum = F_sum := (funext fun j => (hs.a g_m_sum rfl j).1).trans n_sum
  replace n_fro : h_820.2.1 m_fro = F_fro := (funext fun j => (hs.a g_m_fro rfl j).1).trans n_fro
  replace n_fil : h_820.2.1 m_fil = F_fil := (funext fun j => (hs.a g_m_fil rfl j).1).trans n_fil
  replace n_jud : h_820.2.1 m_jud = F_jud := (funext fun j => (hs.a g_m_jud rfl j).1).trans n_jud
  replace n_ear : h_820.2.1 m_ear = F_ear := (funext fun j => (hs.a g_m_ear rfl j).1).trans n_ear
  replace n_hds : h_820.2.1 m_hds = F_hds := (funext fun j => (hs.a g_m_hds rfl j).1).trans n_hds
  replace n_ord : h_820.2.1 m_ord = F_ord := (funext fun j => (hs.a g_m_ord rfl j).1).trans n_ord
  replace n_wkl : h_820.2.1 m_wkl = F_wkl := (funext fun j => (hs.a g_m_wkl rfl j).1).trans n_wkl
  replace n_owd : h_820.2.1 m_owd = F_owd := (funext fun j => (hs.a g_m_owd rfl j).1).trans n_owd
  replace n_gds : h_820.2.1 m_gds = F_gds := (funext fun j => (hs.a g_m_gds rfl j).1).trans n_gds
  replace n_szd : h_820.2.1 m_szd = F_szd := (funext fun j => (hs.a g_m_szd rfl j).1).trans n_szd
  replace n_srv : h_820.2.1 m_srv = F_srv := (funext fun j => (hs.a g_m_srv rfl j).1).trans n_srv
  replace n_p0 : h_820.2.1 m_p0 = F_p0 := (funext fun j => (hs.a g_m_p0 rfl j).1).trans n_p0
  replace n_y_p0 : h_820.2.1 y_p0 = F_p0 := (funext fun j => (hs.a g_y_p0 rfl j).1).trans n_y_p0
  replace n_p1 : h_820.2.1 m_p1 = F_p1 := (funext fun j => (hs.a g_m_p1 rfl j).1).trans n_p1
  replace n_y_p1 : h_820.2.1 y_p1 = F_p1 := (funext fun j => (hs.a g_y_p1 rfl j).1).trans n_y_p1
  replace n_p2 : h_820.2.1 m_p2 = F_p2 := (funext fun j => (hs.a g_m_p2 rfl j).1).trans n_p2
  replace n_y_p2 : h_820.2.1 y_p2 = F_p2 := (funext fun j => (hs.a g_y_p2 rfl j).1).trans n_y_p2
  replace n_p3 : h_820.2.1 m_p3 = F_p3 := (funext fun j => (hs.a g_m_p3 rfl j).1).trans n_p3
  replace n_y_p3 : h_820.2.1 y_p3 = F_p3 := (funext fun j => (hs.a g_y_p3 rfl j).1).trans n_y_p3
  replace n_p4 : h_820.2.1 m_p4 = F_p4 := (funext fun j => (hs.a g_m_p4 rfl j).1).trans n_p4
  replace n_y_p4 : h_820.2.1 y_p4 = F_p4 := (funext fun j => (hs.a g_y_p4 rfl j).1).trans n_y_p4
  replace n_y_ls : h_820.2.1 y_ls = F_y_ls := (funext fun j => (hs.a g_y_ls rfl j).1).trans n_y_ls
  replace n_m_rl : h_820.2.1 m_rl = F_m_rl := (funext fun j => (hs.a g_m_rl rfl j).1).trans n_m_rl
  replace n_y_pc : h_820.2.1 y_pc = F_y_pc := (funext fun j => (hs.a g_y_pc rfl j).1).trans n_y_pc
  replace n_m_pc : h_820.2.1 m_pc = F_m_pc := (funext fun j => (hs.a g_m_pc rfl j).1).trans n_m_pc
  replace n_y_pw : h_820.2.1 y_pw = F_y_pw := (funext fun j => (hs.a g_y_pw rfl j).1).trans n_y_pw
  replace n_m_pw : h_820.2.1 m_pw = F_m_pw := (funext fun j => (hs.a g_m_pw rfl j).1).trans n_m_pw
  replace n_y_pk : h_820.2.1 y_pk = F_y_pk := (funext fun j => (hs.a g_y_pk rfl j).1).trans n_y_pk
  replace n_m_pk : h_820.2.1 m_pk = F_m_pk := (funext fun j => (hs.a g_m_pk rfl j).1).trans n_m_pk
  replace gx := gx.S hs
  replace gm := gm.S hs
  replace g_qa := g_qa.S hs
  replace g_qp := g_qp.S hs
  replace g_qc := g_qc.S hs
  replace g_qh := g_qh.S hs
  replace g_qw := g_qw.S hs
  replace g_ql := g_ql.S hs
  replace g_mw := g_mw.S hs
  replace g_mr := g_mr.S hs
  replace g_mp := g_mp.S hs
  replace g_mn := g_mn.S hs
  replace g_ml := g_ml.S hs
  replace g_mh := g_mh.S hs
  replace g_mt := g_mt.S hs
  replace g_m_fou := g_m_fou.S hs
  replace g_qo_ln := g_qo_ln.S hs
  replace g_qo_py := g_qo_py.S hs
  replace g_qo_pmn := g_qo_pmn.S hs
  replace g_b_of := g_b_of.S hs
  replace g_m_of := g_m_of.S hs
  replace g_b_wf := g_b_wf.S hs
  replace g_m_wf := g_m_wf.S hs
  replace g_b_df := g_b_df.S hs
  replace g_m_df := g_m_df.S hs
  replace g_b_kf := g_b_kf.S hs
  replace g_m_kf := g_m_kf.S hs
  replace g_b_sf := g_b_sf.S hs
  replace g_m_sf := g_m_sf.S hs
  replace g_b_bf := g_b_bf.S hs
  replace g_m_lst := g_m_lst.S hs
  replace g_qtp := g_qtp.S hs
  replace g_m_tp := g_m_tp.S hs
  replace g_m_dead := g_m_dead.S hs
  replace g_m_isj := g_m_isj.S hs
  replace g_m_dox := g_m_dox.S hs
  replace g_m_doy := g_m_doy.S hs
  replace g_qlt := g_qlt.S hs
  replace g_qlf := g_qlf.S hs
  replace g_m_wkd := g_m_wkd.S hs
  replace g_m_aga := g_m_aga.S hs
  replace g_qwo := g_qwo.S hs
  replace g_m_ad := g_m_ad.S hs
  replace g_m_by := g_m_by.S hs
  replace g_m_ho := g_m_ho.S hs
  replace g_m_fc := g_m_fc.S hs
  replace g_m_nt := g_m_nt.S hs
  replace g_m_wt := g_m_wt.S hs
  replace g_m_be := g_m_be.S hs
  replace g_m_bor := g_m_bor.S hs
  replace g_m_kin := g_m_kin.S hs
  replace g_m_sum := g_m_sum.S hs
  replace g_m_fro := g_m_fro.S hs
  replace g_m_fil := g_m_fil.S hs
  replace g_m_jud := g_m_jud.S hs
  replace g_m_ear := g_m_ear.S hs
  replace g_m_hds := g_m_hds.S hs
  replace g_m_ord := g_m_ord.S hs
  replace g_m_wkl := g_m_wkl.S hs
  replace g_m_owd := g_m_owd.S hs
  replace g_m_gds := g_m_gds.S hs
  replace g_m_szd := g_m_szd.S hs
  replace g_m_srv := g_m_srv.S hs
  replace g_y_p0 := g_y_p0.S hs
  replace g_m_p0 := g_m_p0.S hs
  replace g_y_p1 := g_y_p1.S hs
  replace g_m_p1 := g_m_p1.S hs
  replace g_y_p2 := g_y_p2.S hs
  replace g_m_p2 := g_m_p2.S hs
  replace g_y_p3 := g_y_p3.S hs
  replace g_m_p3 := g_m_p3.S hs
  replace g_y_p4 := g_y_p4.S hs
  replace g_m_p4 := g_m_p4.S hs
  replace g_qrg9 := g_qrg9.S hs
  replace g_y_ls := g_y_ls.S hs
  replace g_m_rl := g_m_rl.S hs
  replace g_y_pc := g_y_pc.S hs
  replace g_m_pc := g_m_pc.S hs
  replace g_y_pw := g_y_pw.S hs
  replace g_m_pw := g_m_pw.S hs
  replace g_y_pk := g_y_pk.S hs
  replace g_m_pk := g_m_pk.S hs
  refine lv_pop hx hb dL_law_1227 rfl ?_
  refine lv_goto (tgt := 1379) hx hb dL_law_1228 ?o32 ?_
  case o32 => decide
  have heq := hz_ND_f hr_816 hr_823 hNQ9 hRL9
  refine W.widen (k := CC + 3) (n := SS + 179) ?o33 ?o34 ?_
  case o33 => omega
  case o34 => omega
  refine kk L_819 h_820 H locs ls hW ⟨hT, gx, gm, ⟨f_x_now.trans f_m_now.symm, f_x_personCount.trans f_m_persons.symm, f_x_claimCount.trans f_m_claims.symm, f_x_tapeLength.trans f_m_taped.symm, f_x_actCount.trans f_m_acts.symm, f_x_heardCount.trans f_m_heardMany.symm, hx_ob f_qo_ln (f_o_ln.trans f_m_lines.symm), hx_ob f_qw (f_o_lsd.trans f_m_listed.symm), hx_ob f_qw (f_o_wkm.trans f_m_walkedMany.symm), hx_ob f_qo_py (f_o_py.trans f_m_payments.symm), hx_ob f_qo_pmn (f_o_pmn.trans f_m_planMany.symm), hx_ob f_qp ?o35, hx_ob f_qc ?o36, (fun b a r hb ha hr => ?o37), (fun b a r hb ha hr => ?o38), (fun b a r hb ha hr => ?o39), (fun b a r hb ha hr => ?o40), (fun b a r hb ha hr => ?o41), (fun b a r hb ha hr => ?o42), (fun w q c hw hq hc => ?o43), (fun w q r hw hq hr => ?o44), (fun w q r hw hq hr => ?o45), (fun c q a hc hq ha => ?o46), (fun q r hq hr => ?o47), (fun q w a b c d e p hq hw ha hb hc hd he hp => ?o48), (fun c q a hc hq ha => ?o49), (fun q c a hq hc ha => ?o50), (fun a b ha hb => ?o51), (fun c a b d e f hc ha hb hd he hf => ?o52), (fun c a hc ha => ?o53), hx_ob2 f_qp f_m_bor (cl_bor.trans n_bor.symm), hx_ob2 f_qp f_m_kin (cl_kin.trans n_kin.symm), hx_ob2 f_qc f_m_sum (cl_sum.trans n_sum.symm), hx_ob2 f_qc f_m_fro (cl_fro.trans n_fro.symm), hx_ob2 f_qc f_m_fil (cl_fil.trans n_fil.symm), hx_ob2 f_qc f_mh (cl_hea.trans n_mh.symm), hx_ob2 f_qc f_m_jud (cl_jud.trans n_jud.symm), hx_ob2 f_qp f_m_ear (cl_ear.trans n_ear.symm), hx_ob2 f_qp f_m_hds (cl_hds.trans n_hds.symm), hx_ob2 f_qc f_m_ord (cl_ord.trans n_ord.symm), hx_ob2 f_qc f_m_wkl (cl_wkl.trans n_wkl.symm), hx_ob2 f_qc f_m_owd (cl_owd.trans n_owd.symm), hx_ob2 f_qc f_m_gds (cl_gds.trans n_gds.symm), hx_ob2 f_qc f_m_szd (cl_szd.trans n_szd.symm), hx_ob2 f_qc f_m_srv (cl_srv.trans n_srv.symm), (fun p q r hp hq hr => ?o54), (fun p q r hp hq hr => ?o55), (fun p q r hp hq hr => ?o56), (fun p q r hp hq hr => ?o57), (fun p q r hp hq hr => ?o58), (fun p hp => ?o59), (fun p q r hp hq hr => ?o60), (fun p a b c d e f hp ha hb hc hd he hf => ?o61), hx_ob2 f_qp f_m_dead ?o62, hx_ob2 f_qp f_m_isj ?o63, hx_ob2 f_qp f_m_dox ?o64, hx_ob2 f_qp f_m_doy ?o65, hx_ob2 f_qc f_m_fou ?o66, hx_ob2 f_qc f_mt ?o67, trivial⟩, ⟨hx_ob f_qa pf_qa, hx_ob f_qp pf_qp, hx_ob f_qc pf_qc, hx_ob f_qh pf_qh, (fun w q hw hq => ?o68)⟩, ⟨hx_ob f_mw ?o69, hx_ob f_mr ?o70, hx_ob2 f_mp f_mn ?o71, hx_ob f_ml ?o72, hx_ob f_mh ?o73, hx_ob f_mt ?o74, hx_ob2 f_mh f_m_fou ?o76⟩⟩ hl
  case o35 =>
    rw [f_x_personCount]
    exact nu_qp
  case o36 =>
    rw [f_x_claimCount]
    exact nu_qc
  case o37 =>
    obtain rfl : qo_ln = b := Option.some.inj (f_qo_ln.symm.trans hb)
    obtain rfl : b_of = a := Option.some.inj (f_b_of.symm.trans ha)
    obtain rfl : m_of = r := Option.some.inj (f_m_of.symm.trans hr)
    rw [n_b_of, n_m_of, f_o_ln]
    exact eb_of
  case o38 =>
    obtain rfl : qo_ln = b := Option.some.inj (f_qo_ln.symm.trans hb)
    obtain rfl : b_wf = a := Option.some.inj (f_b_wf.symm.trans ha)
    obtain rfl : m_wf = r := Option.some.inj (f_m_wf.symm.trans hr)
    rw [n_b_wf, n_m_wf, f_o_ln]
    exact eb_wf
  case o39 =>
    obtain rfl : qo_ln = b := Option.some.inj (f_qo_ln.symm.trans hb)
    obtain rfl : b_df = a := Option.some.inj (f_b_df.symm.trans ha)
    obtain rfl : m_df = r := Option.some.inj (f_m_df.symm.trans hr)
    rw [n_b_df, n_m_df, f_o_ln]
    exact eb_df
  case o40 =>
    obtain rfl : qo_ln = b := Option.some.inj (f_qo_ln.symm.trans hb)
    obtain rfl : b_kf = a := Option.some.inj (f_b_kf.symm.trans ha)
    obtain rfl : m_kf = r := Option.some.inj (f_m_kf.symm.trans hr)
    rw [n_b_kf, n_m_kf, f_o_ln]
    exact eb_kf
  case o41 =>
    obtain rfl : qo_ln = b := Option.some.inj (f_qo_ln.symm.trans hb)
    obtain rfl : b_sf = a := Option.some.inj (f_b_sf.symm.trans ha)
    obtain rfl : m_sf = r := Option.some.inj (f_m_sf.symm.trans hr)
    rw [n_b_sf, n_m_sf, f_o_ln]
    exact eb_sf
  case o42 =>
    obtain rfl : qo_ln = b := Option.some.inj (f_qo_ln.symm.trans hb)
    obtain rfl : b_df = a := Option.some.inj (f_b_df.symm.trans ha)
    obtain rfl : b_bf = r := Option.some.inj (f_b_bf.symm.trans hr)
    rw [n_b_df, n_b_bf, f_o_ln]
    exact ⟨hBD, hDY⟩
  case o43 =>
    obtain rfl : qw = w := Option.some.inj (f_qw.symm.trans hw)
    obtain rfl : ql = q := Option.some.inj (f_ql.symm.trans hq)
    obtain rfl : qc = c := Option.some.inj (f_qc.symm.trans hc)
    exact sb_list
  case o44 =>
    obtain rfl : qw = w := Option.some.inj (f_qw.symm.trans hw)
    obtain rfl : ql = q := Option.some.inj (f_ql.symm.trans hq)
    obtain rfl : m_lst = r := Option.some.inj (f_m_lst.symm.trans hr)
    rw [cl_lst, n_lst]
    exact eq_lst
  case o45 =>
    obtain rfl : qw = w := Option.some.inj (f_qw.symm.trans hw)
    obtain rfl : qlt = q := Option.some.inj (f_qlt.symm.trans hq)
    obtain rfl : m_wkd = r := Option.some.inj (f_m_wkd.symm.trans hr)
    rw [n_qlt, n_m_wkd, f_o_wkm]
    exact eb_wkd
  case o46 =>
    obtain rfl : qc = c := Option.some.inj (f_qc.symm.trans hc)
    obtain rfl : qp = q := Option.some.inj (f_qp.symm.trans hq)
    obtain rfl : m_aga = a := Option.some.inj (f_m_aga.symm.trans ha)
    rw [n_aga, f_x_claimCount]
    exact hw_DF_e hDF rfl rfl
  case o47 =>
    obtain rfl : qtp = q := Option.some.inj (f_qtp.symm.trans hq)
    obtain rfl : m_tp = r := Option.some.inj (f_m_tp.symm.trans hr)
    exact n_qtp.trans n_tp.symm
  case o48 =>
    obtain rfl : qa = q := Option.some.inj (f_qa.symm.trans hq)
    obtain rfl : qwo = w := Option.some.inj (f_qwo.symm.trans hw)
    obtain rfl : m_ad = a := Option.some.inj (f_m_ad.symm.trans ha)
    obtain rfl : mr = b := Option.some.inj (f_mr.symm.trans hb)
    obtain rfl : mn = c := Option.some.inj (f_mn.symm.trans hc)
    obtain rfl : mp = d := Option.some.inj (f_mp.symm.trans hd)
    obtain rfl : qc = e := Option.some.inj (f_qc.symm.trans he)
    obtain rfl : ml = p := Option.some.inj (f_ml.symm.trans hp)
    exact ⟨_, by rw [f_x_actCount]; exact hRA9, by rw [f_x_actCount, n_ad, n_mr, n_mn, n_mp]; exact hCA9, by rw [n_ml, f_x_claimCount]; exact hv_AC_e hAC9 rfl rfl rfl, hAB⟩
  case o49 =>
    obtain rfl : qc = c := Option.some.inj (f_qc.symm.trans hc)
    obtain rfl : qp = q := Option.some.inj (f_qp.symm.trans hq)
    obtain rfl : m_by = a := Option.some.inj (f_m_by.symm.trans ha)
    rw [n_by, f_x_claimCount]
    exact hw_DF_e hDP rfl rfl
  case o50 =>
    obtain rfl : qh = q := Option.some.inj (f_qh.symm.trans hq)
    obtain rfl : qc = c := Option.some.inj (f_qc.symm.trans hc)
    obtain rfl : m_ho = a := Option.some.inj (f_m_ho.symm.trans ha)
    rw [n_ho, f_x_heardCount, f_x_claimCount]
    exact hv_HL_e hHL rfl rfl rfl
  case o51 =>
    obtain rfl : m_ho = a := Option.some.inj (f_m_ho.symm.trans ha)
    obtain rfl : mh = b := Option.some.inj (f_mh.symm.trans hb)
    rw [n_ho, n_mh, f_m_heardMany, f_m_claims]
    exact hHO9
  case o52 =>
    obtain rfl : qc = c := Option.some.inj (f_qc.symm.trans hc)
    obtain rfl : m_fc = a := Option.some.inj (f_m_fc.symm.trans ha)
    obtain rfl : m_nt = b := Option.some.inj (f_m_nt.symm.trans hb)
    obtain rfl : m_wt = d := Option.some.inj (f_m_wt.symm.trans hd)
    obtain rfl : m_sum = e := Option.some.inj (f_m_sum.symm.trans he)
    obtain rfl : mh = f := Option.some.inj (f_mh.symm.trans hf)
    exact ⟨cF9L, by rw [f_x_claimCount]; exact hFX, by rw [n_fc, n_nt, n_wt, n_sum, n_mh, f_x_claimCount]; exact hFR9⟩
  case o53 =>
    obtain rfl : qc = c := Option.some.inj (f_qc.symm.trans hc)
    obtain rfl : m_be = a := Option.some.inj (f_m_be.symm.trans ha)
    rw [n_be, f_x_claimCount]
    exact hv_FX_e hBX rfl rfl
  case o54 =>
    obtain rfl : qo_py = p := Option.some.inj (f_qo_py.symm.trans hp)
    obtain rfl : y_p0 = q := Option.some.inj (f_y_p0.symm.trans hq)
    obtain rfl : m_p0 = r := Option.some.inj (f_m_p0.symm.trans hr)
    exact n_y_p0.trans n_p0.symm
  case o55 =>
    obtain rfl : qo_py = p := Option.some.inj (f_qo_py.symm.trans hp)
    obtain rfl : y_p1 = q := Option.some.inj (f_y_p1.symm.trans hq)
    obtain rfl : m_p1 = r := Option.some.inj (f_m_p1.symm.trans hr)
    exact n_y_p1.trans n_p1.symm
  case o56 =>
    obtain rfl : qo_py = p := Option.some.inj (f_qo_py.symm.trans hp)
    obtain rfl : y_p2 = q := Option.some.inj (f_y_p2.symm.trans hq)
    obtain rfl : m_p2 = r := Option.some.inj (f_m_p2.symm.trans hr)
    exact n_y_p2.trans n_p2.symm
  case o57 =>
    obtain rfl : qo_py = p := Option.some.inj (f_qo_py.symm.trans hp)
    obtain rfl : y_p3 = q := Option.some.inj (f_y_p3.symm.trans hq)
    obtain rfl : m_p3 = r := Option.some.inj (f_m_p3.symm.trans hr)
    exact n_y_p3.trans n_p3.symm
  case o58 =>
    obtain rfl : qo_py = p := Option.some.inj (f_qo_py.symm.trans hp)
    obtain rfl : y_p4 = q := Option.some.inj (f_y_p4.symm.trans hq)
    obtain rfl : m_p4 = r := Option.some.inj (f_m_p4.symm.trans hr)
    exact n_y_p4.trans n_p4.symm
  case o59 =>
    obtain rfl : qrg9 = p := Option.some.inj (f_qrg9.symm.trans hp)
    rw [ffv_806, ffv_807, ffv_808]
    exact hNQ9
  case o60 =>
    obtain rfl : qrg9 = p := Option.some.inj (f_qrg9.symm.trans hp)
    obtain rfl : y_ls = q := Option.some.inj (f_y_ls.symm.trans hq)
    obtain rfl : m_rl = r := Option.some.inj (f_m_rl.symm.trans hr)
    rw [n_y_ls, n_m_rl, ffv_806]
    exact hRL9
  case o61 =>
    obtain rfl : qo_pmn = p := Option.some.inj (f_qo_pmn.symm.trans hp)
    obtain rfl : y_pc = a := Option.some.inj (f_y_pc.symm.trans ha)
    obtain rfl : y_pw = b := Option.some.inj (f_y_pw.symm.trans hb)
    obtain rfl : y_pk = c := Option.some.inj (f_y_pk.symm.trans hc)
    obtain rfl : m_pc = d := Option.some.inj (f_m_pc.symm.trans hd)
    obtain rfl : m_pw = e := Option.some.inj (f_m_pw.symm.trans he)
    obtain rfl : m_pk = f := Option.some.inj (f_m_pk.symm.trans hf)
    rw [n_y_pc, n_y_pw, n_y_pk, n_m_pc, n_m_pw, n_m_pk, f_o_pmn]
    exact hEA9
  case o62 =>
    rw [cl_dead, n_dead]
    exact eq_dead
  case o63 =>
    rw [cl_isj, n_isj]
    exact eq_isj
  case o64 =>
    rw [cl_dox, n_dox]
    exact eq_dox
  case o65 =>
    rw [cl_doy, n_doy]
    exact eq_doy
  case o66 =>
    rw [cl_fou, n_m_fou]
    exact eq_fou
  case o67 =>
    rw [cl_tri, n_mt]
    exact eq_tri
  case o68 =>
    obtain rfl : qw = w := Option.some.inj (f_qw.symm.trans hw)
    obtain rfl : ql = q := Option.some.inj (f_ql.symm.trans hq)
    exact pf_ql
  case o69 =>
    rw [n_mw]
    exact hwd
  case o70 =>
    rw [n_mr, f_m_acts]
    exact hWK
  case o71 =>
    rw [n_mp, n_mn, f_m_acts]
    exact hRP
  case o72 =>
    rw [n_ml, f_m_claims, f_m_acts]
    exact hPL
  case o73 =>
    rw [n_mh, f_m_heardMany, f_m_claims]
    exact hHC
  case o74 =>
    rw [n_mt]
    refine (hx_TR_le hTR ?o75)
    case o75 => omega
  case o76 =>
    rw [n_mh, n_m_fou, f_m_claims]
    exact hHF

set_option maxHeartbeats 4000000 in
set_option maxRecDepth 100000 in
theorem law_case_25 {p : Program} {e : Env} {s : State} {m : MethodId} {below : List Frame} {meth : Method} {c : Code} (l : Launch) {b LN : Nat} {xs : Nat → Int32} (hx : p.tables.exec = Jvm.exec) (hb : c.code = code) (hr : meth.sig.returnType = ret) (hlocks : meth.locks = false) (hml : c.maxLocals = 4) (hown : s.vm.findClass "SmallCourtLaw" = some m.cls) (hts : ∀ w ∈ hx_all, w.before #[Value.ref b] s = true) (hX : va_X b LN xs s s.heap) (hbl : b < s.heap.size) (hbA : ¬ s.heap.size ≤ b) (hLN : LN ≤ 3584) (dC : Nat → ClassId) (dI : Nat → Nat → Nat) (dA : Nat → ClassId) (b0 : hx_z) (ax am : Nat) (T1 : Int) (hT0 : 0 ≤ T1) (hT1 : T1 ≤ 511) (i : Int32) (hi0 : 0 ≤ i.toInt) (hiL : i.toInt + 7 ≤ LN) (CC SS : Nat) (hCC : CC + 3 ≤ 600000) (hSS : SS + 179 ≤ 7302250) (L1 : List Nat) (hl1 : hx_h) (H : Heap) (locs : List Loc) (ls : Array Slot) (hW : hx_W T_tb (P_ty dA) (dC, dI) vwCl (fun q : Nat => s.heap.size ≤ q) s.heap L1 hl1 s H locs) (hZ : hx_Xt (fun q : Nat => s.heap.size ≤ q) b0 s) (hI : hx_IV T1 ax am L1 hl1) (hl : lv_has ls 4 [(3, .int i), (2, .ref am), (1, .ref ax), (0, .ref b)]) (kk : ∀ (L2 : List Nat) (h2 : hx_h) (H2 : Heap) (locs2 : List Loc) (ls2 : Array Slot), hx_W T_tb (P_ty dA) (dC, dI) vwCl (fun q : Nat => s.heap.size ≤ q) s.heap L2 h2 s H2 locs2 → hx_IV (T1 + 1) ax am L2 h2 → lv_has ls2 4 [(3, .int i), (2, .ref am), (1, .ref ax), (0, .ref b)] → W p l e room_1 s m #[Value.ref b] below meth c H2 locs2 (CC + 3) (SS + 179) (lw_Z below #[Value.ref b] s) (F0 m 1379 ls2 [])) : W p l e room_1 s m #[Value.ref b] below meth c H locs CC SS (lw_Z below #[Value.ref b] s) (F0 m 1231 ls []) := by
  have hI9 := hI
  have hT := hI9.1
  replace hI9 := hI9.2
  have gx := hI9.1
  replace hI9 := hI9.2
  have gm := hI9.1
  replace hI9 := hI9.2
  have zq0_3 := hI9.1
  have he_nw := zq0_3.1
  replace zq0_3 := zq0_3.2
  have he_np := zq0_3.1
  replace zq0_3 := zq0_3.2
  have he_c0 := zq0_3.1
  replace zq0_3 := zq0_3.2
  have he_tl := zq0_3.1
  replace zq0_3 := zq0_3.2
  have he_a0 := zq0_3.1
  replace zq0_3 := zq0_3.2
  have he_m0 := zq0_3.1
  replace zq0_3 := zq0_3.2
  have ho_ln := zq0_3.1
  replace zq0_3 := zq0_3.2
  have ho_lsd := zq0_3.1
  replace zq0_3 := zq0_3.2
  have ho_wkm := zq0_3.1
  replace zq0_3 := zq0_3.2
  have ho_py := zq0_3.1
  replace zq0_3 := zq0_3.2
  have ho_pmn := zq0_3.1
  replace zq0_3 := zq0_3.2
  have hn_qp := zq0_3.1
  replace zq0_3 := zq0_3.2
  have hn_qc := zq0_3.1
  replace zq0_3 := zq0_3.2
  have hk_of := zq0_3.1
  replace zq0_3 := zq0_3.2
  have hk_wf := zq0_3.1
  replace zq0_3 := zq0_3.2
  have hk_df := zq0_3.1
  replace zq0_3 := zq0_3.2
  have hk_kf := zq0_3.1
  replace zq0_3 := zq0_3.2
  have hk_sf := zq0_3.1
  replace zq0_3 := zq0_3.2
  have hkBD := zq0_3.1
  replace zq0_3 := zq0_3.2
  have hLQ := zq0_3.1
  replace zq0_3 := zq0_3.2
  have hLE := zq0_3.1
  replace zq0_3 := zq0_3.2
  have hkWD := zq0_3.1
  replace zq0_3 := zq0_3.2
  have hkDF := zq0_3.1
  replace zq0_3 := zq0_3.2
  have hkTP := zq0_3.1
  replace zq0_3 := zq0_3.2
  have hkAC := zq0_3.1
  replace zq0_3 := zq0_3.2
  have hkDP := zq0_3.1
  replace zq0_3 := zq0_3.2
  have hkHL := zq0_3.1
  replace zq0_3 := zq0_3.2
  have hkHO := zq0_3.1
  replace zq0_3 := zq0_3.2
  have hkFX := zq0_3.1
  replace zq0_3 := zq0_3.2
  have hkBX := zq0_3.1
  replace zq0_3 := zq0_3.2
  have hf_bor := zq0_3.1
  replace zq0_3 := zq0_3.2
  have hf_kin := zq0_3.1
  replace zq0_3 := zq0_3.2
  have hf_sum := zq0_3.1
  replace zq0_3 := zq0_3.2
  have hf_fro := zq0_3.1
  replace zq0_3 := zq0_3.2
  have hf_fil := zq0_3.1
  replace zq0_3 := zq0_3.2
  have hf_hea := zq0_3.1
  replace zq0_3 := zq0_3.2
  have hf_jud := zq0_3.1
  replace zq0_3 := zq0_3.2
  have hf_ear := zq0_3.1
  replace zq0_3 := zq0_3.2
  have hf_hds := zq0_3.1
  replace zq0_3 := zq0_3.2
  have hf_ord := zq0_3.1
  replace zq0_3 := zq0_3.2
  have hf_wkl := zq0_3.1
  replace zq0_3 := zq0_3.2
  have hf_owd := zq0_3.1
  replace zq0_3 := zq0_3.2
  have hf_gds := zq0_3.1
  replace zq0_3 := zq0_3.2
  have hf_szd := zq0_3.1
  replace zq0_3 := zq0_3.2
  have hf_srv := zq0_3.1
  replace zq0_3 := zq0_3.2
  have hkP0 := zq0_3.1
  replace zq0_3 := zq0_3.2
  have hkP1 := zq0_3.1
  replace zq0_3 := zq0_3.2
  have hkP2 := zq0_3.1
  replace zq0_3 := zq0_3.2
  have hkP3 := zq0_3.1
  replace zq0_3 := zq0_3.2
  have hkP4 := zq0_3.1
  replace zq0_3 := zq0_3.2
  have hkNQ := zq0_3.1
  replace zq0_3 := zq0_3.2
  have hkRL := zq0_3.1
  replace zq0_3 := zq0_3.2
  have hkPG := zq0_3.1
  replace zq0_3 := zq0_3.2
  have hc_dead := zq0_3.1
  replace zq0_3 := zq0_3.2
  have hc_isj := zq0_3.1
  replace zq0_3 := zq0_3.2
  have hc_dox := zq0_3.1
  replace zq0_3 := zq0_3.2
  have hc_doy := zq0_3.1
  replace zq0_3 := zq0_3.2
  have hc_fou := zq0_3.1
  replace zq0_3 := zq0_3.2
  have hc_tri := zq0_3.1
  replace zq0_3 := zq0_3.2
  replace hI9 := hI9.2
  have zq0_4 := hI9.1
  have ia := zq0_4.1
  replace zq0_4 := zq0_4.2
  have ip := zq0_4.1
  replace zq0_4 := zq0_4.2
  have ic := zq0_4.1
  replace zq0_4 := zq0_4.2
  have ih := zq0_4.1
  replace zq0_4 := zq0_4.2
  have il := zq0_4
  replace hI9 := hI9.2
  have zq0_5 := hI9
  have jw := zq0_5.1
  replace zq0_5 := zq0_5.2
  have jr := zq0_5.1
  replace zq0_5 := zq0_5.2
  have jp := zq0_5.1
  replace zq0_5 := zq0_5.2
  have jl := zq0_5.1
  replace zq0_5 := zq0_5.2
  have jh := zq0_5.1
  replace zq0_5 := zq0_5.2
  have jt := zq0_5.1
  replace zq0_5 := zq0_5.2
  have jf := zq0_5
  obtain ⟨qa, f_qa, g_qa⟩ := hx_rf hT gx tt_9 (k := 5) (u := 43) rfl
  have pf_qa := ia qa f_qa
  obtain ⟨qp, f_qp, g_qp⟩ := hx_rf hT gx tt_9 (k := 7) (u := 44) rfl
  have pf_qp := ip qp f_qp
  obtain ⟨qc, f_qc, g_qc⟩ := hx_rf hT gx tt_9 (k := 10) (u := 45) rfl
  have pf_qc := ic qc f_qc
  obtain ⟨qh, f_qh, g_qh⟩ := hx_rf hT gx tt_9 (k := 12) (u := 46) rfl
  have pf_qh := ih qh f_qh
  obtain ⟨qw, f_qw, g_qw⟩ := hx_rf hT gx tt_9 (k := 19) (u := 8) rfl
  obtain ⟨ql, f_ql, g_ql⟩ := hx_rf hT g_qw tt_8 (k := 3) (u := 40) rfl
  have pf_ql := il qw ql f_qw f_ql
  obtain ⟨nw, f_m_now⟩ : ∃ y : Int32, hl1.2.1 am 0 = y := ⟨_, rfl⟩
  have b_nw := hT.gi gm tt_10 (k := 0) rfl
  rw [f_m_now] at b_nw
  have b_nw : 0 ≤ nw.toInt ∧ nw.toInt ≤ 7999 := b_nw
  obtain ⟨np, f_m_persons⟩ : ∃ y : Int32, hl1.2.1 am 20 = y := ⟨_, rfl⟩
  have b_np := hT.gi gm tt_10 (k := 20) rfl
  rw [f_m_persons] at b_np
  have b_np : 0 ≤ np.toInt ∧ np.toInt ≤ 40 := b_np
  obtain ⟨c0, f_m_claims⟩ : ∃ y : Int32, hl1.2.1 am 36 = y := ⟨_, rfl⟩
  have b_c0 := hT.gi gm tt_10 (k := 36) rfl
  rw [f_m_claims] at b_c0
  have b_c0 : 0 ≤ c0.toInt ∧ c0.toInt ≤ 100 := b_c0
  obtain ⟨tl, f_m_taped⟩ : ∃ y : Int32, hl1.2.1 am 7 = y := ⟨_, rfl⟩
  have b_tl := hT.gi gm tt_10 (k := 7) rfl
  rw [f_m_taped] at b_tl
  have b_tl : 0 ≤ tl.toInt ∧ tl.toInt ≤ 400 := b_tl
  obtain ⟨a0, f_m_acts⟩ : ∃ y : Int32, hl1.2.1 am 1 = y := ⟨_, rfl⟩
  have b_a0 := hT.gi gm tt_10 (k := 1) rfl
  rw [f_m_acts] at b_a0
  have b_a0 : 0 ≤ a0.toInt ∧ a0.toInt ≤ 8 := b_a0
  obtain ⟨m0, f_m_heardMany⟩ : ∃ y : Int32, hl1.2.1 am 57 = y := ⟨_, rfl⟩
  have b_m0 := hT.gi gm tt_10 (k := 57) rfl
  rw [f_m_heardMany] at b_m0
  have b_m0 : 0 ≤ m0.toInt ∧ m0.toInt ≤ 100 := b_m0
  obtain ⟨ln, f_m_lines⟩ : ∃ y : Int32, hl1.2.1 am 29 = y := ⟨_, rfl⟩
  have b_ln := hT.gi gm tt_10 (k := 29) rfl
  rw [f_m_lines] at b_ln
  have b_ln : 0 ≤ ln.toInt ∧ ln.toInt ≤ 400 := b_ln
  obtain ⟨lsd, f_m_listed⟩ : ∃ y : Int32, hl1.2.1 am 90 = y := ⟨_, rfl⟩
  have b_lsd := hT.gi gm tt_10 (k := 90) rfl
  rw [f_m_listed] at b_lsd
  have b_lsd : 0 ≤ lsd.toInt ∧ lsd.toInt ≤ 8 := b_lsd
  obtain ⟨wkm, f_m_walkedMany⟩ : ∃ y : Int32, hl1.2.1 am 92 = y := ⟨_, rfl⟩
  have b_wkm := hT.gi gm tt_10 (k := 92) rfl
  rw [f_m_walkedMany] at b_wkm
  have b_wkm : 0 ≤ wkm.toInt ∧ wkm.toInt ≤ 8 := b_wkm
  obtain ⟨py, f_m_payments⟩ : ∃ y : Int32, hl1.2.1 am 59 = y := ⟨_, rfl⟩
  have b_py := hT.gi gm tt_10 (k := 59) rfl
  rw [f_m_payments] at b_py
  have b_py : 0 ≤ py.toInt ∧ py.toInt ≤ 600 := b_py
  obtain ⟨pmn, f_m_planMany⟩ : ∃ y : Int32, hl1.2.1 am 72 = y := ⟨_, rfl⟩
  have b_pmn := hT.gi gm tt_10 (k := 72) rfl
  rw [f_m_planMany] at b_pmn
  have b_pmn : 0 ≤ pmn.toInt ∧ pmn.toInt ≤ 4 := b_pmn
  have f_x_now : hl1.2.1 ax 2 = nw := he_nw.trans f_m_now
  have f_x_personCount : hl1.2.1 ax 8 = np := he_np.trans f_m_persons
  have f_x_claimCount : hl1.2.1 ax 11 = c0 := he_c0.trans f_m_claims
  have f_x_tapeLength : hl1.2.1 ax 1 = tl := he_tl.trans f_m_taped
  have f_x_actCount : hl1.2.1 ax 6 = a0 := he_a0.trans f_m_acts
  have f_x_heardCount : hl1.2.1 ax 13 = m0 := he_m0.trans f_m_heardMany
  obtain ⟨mw, f_mw, g_mw⟩ := hx_rf hT gm tt_10 (k := 19) (u := 57) rfl
  obtain ⟨F_mw, n_mw⟩ : ∃ g : Nat → Int32, hl1.2.1 mw = g := ⟨_, rfl⟩
  obtain ⟨mr, f_mr, g_mr⟩ := hx_rf hT gm tt_10 (k := 3) (u := 50) rfl
  obtain ⟨F_mr, n_mr⟩ : ∃ g : Nat → Int32, hl1.2.1 mr = g := ⟨_, rfl⟩
  obtain ⟨mp, f_mp, g_mp⟩ := hx_rf hT gm tt_10 (k := 5) (u := 52) rfl
  obtain ⟨F_mp, n_mp⟩ : ∃ g : Nat → Int32, hl1.2.1 mp = g := ⟨_, rfl⟩
  obtain ⟨mn, f_mn, g_mn⟩ := hx_rf hT gm tt_10 (k := 4) (u := 51) rfl
  obtain ⟨F_mn, n_mn⟩ : ∃ g : Nat → Int32, hl1.2.1 mn = g := ⟨_, rfl⟩
  obtain ⟨ml, f_ml, g_ml⟩ := hx_rf hT gm tt_10 (k := 44) (u := 79) rfl
  obtain ⟨F_ml, n_ml⟩ : ∃ g : Nat → Int32, hl1.2.1 ml = g := ⟨_, rfl⟩
  obtain ⟨mh, f_mh, g_mh⟩ := hx_rf hT gm tt_10 (k := 47) (u := 82) rfl
  obtain ⟨F_mh, n_mh⟩ : ∃ g : Nat → Int32, hl1.2.1 mh = g := ⟨_, rfl⟩
  obtain ⟨mt, f_mt, g_mt⟩ := hx_rf hT gm tt_10 (k := 45) (u := 80) rfl
  obtain ⟨F_mt, n_mt⟩ : ∃ g : Nat → Int32, hl1.2.1 mt = g := ⟨_, rfl⟩
  obtain ⟨m_fou, f_m_fou, g_m_fou⟩ := hx_rf hT gm tt_10 (k := 46) (u := 81) rfl
  obtain ⟨F_m_fou, n_m_fou⟩ : ∃ g : Nat → Int32, hl1.2.1 m_fou = g := ⟨_, rfl⟩
  obtain ⟨qo_ln, f_qo_ln, g_qo_ln⟩ := hx_rf hT gx tt_9 (k := 9) (u := 1) rfl
  have f_o_ln : hl1.2.1 qo_ln 0 = ln := (ho_ln qo_ln f_qo_ln).trans f_m_lines
  have f_o_lsd : hl1.2.1 qw 0 = lsd := (ho_lsd qw f_qw).trans f_m_listed
  have f_o_wkm : hl1.2.1 qw 1 = wkm := (ho_wkm qw f_qw).trans f_m_walkedMany
  obtain ⟨qo_py, f_qo_py, g_qo_py⟩ := hx_rf hT gx tt_9 (k := 14) (u := 3) rfl
  have f_o_py : hl1.2.1 qo_py 0 = py := (ho_py qo_py f_qo_py).trans f_m_payments
  obtain ⟨qo_pmn, f_qo_pmn, g_qo_pmn⟩ := hx_rf hT gx tt_9 (k := 17) (u := 5) rfl
  have f_o_pmn : hl1.2.1 qo_pmn 1 = pmn := (ho_pmn qo_pmn f_qo_pmn).trans f_m_planMany
  have nu_qp := hn_qp qp f_qp; rw [f_x_personCount] at nu_qp
  have nu_qc := hn_qc qc f_qc; rw [f_x_claimCount] at nu_qc
  obtain ⟨b_of, f_b_of, g_b_of⟩ := hx_rf hT g_qo_ln tt_1 (k := 1) (u := 13) rfl
  obtain ⟨B_of, n_b_of⟩ : ∃ g : Nat → Int32, hl1.2.1 b_of = g := ⟨_, rfl⟩
  obtain ⟨m_of, f_m_of, g_m_of⟩ := hx_rf hT gm tt_10 (k := 30) (u := 66) rfl
  obtain ⟨F_of, n_m_of⟩ : ∃ g : Nat → Int32, hl1.2.1 m_of = g := ⟨_, rfl⟩
  have eb_of := hk_of qo_ln b_of m_of f_qo_ln f_b_of f_m_of; rw [n_b_of, n_m_of, f_o_ln] at eb_of
  obtain ⟨b_wf, f_b_wf, g_b_wf⟩ := hx_rf hT g_qo_ln tt_1 (k := 2) (u := 14) rfl
  obtain ⟨B_wf, n_b_wf⟩ : ∃ g : Nat → Int32, hl1.2.1 b_wf = g := ⟨_, rfl⟩
  obtain ⟨m_wf, f_m_wf, g_m_wf⟩ := hx_rf hT gm tt_10 (k := 31) (u := 67) rfl
  obtain ⟨F_wf, n_m_wf⟩ : ∃ g : Nat → Int32, hl1.2.1 m_wf = g := ⟨_, rfl⟩
  have eb_wf := hk_wf qo_ln b_wf m_wf f_qo_ln f_b_wf f_m_wf; rw [n_b_wf, n_m_wf, f_o_ln] at eb_wf
  obtain ⟨b_df, f_b_df, g_b_df⟩ := hx_rf hT g_qo_ln tt_1 (k := 3) (u := 15) rfl
  obtain ⟨B_df, n_b_df⟩ : ∃ g : Nat → Int32, hl1.2.1 b_df = g := ⟨_, rfl⟩
  obtain ⟨m_df, f_m_df, g_m_df⟩ := hx_rf hT gm tt_10 (k := 32) (u := 68) rfl
  obtain ⟨F_df, n_m_df⟩ : ∃ g : Nat → Int32, hl1.2.1 m_df = g := ⟨_, rfl⟩
  have eb_df := hk_df qo_ln b_df m_df f_qo_ln f_b_df f_m_df; rw [n_b_df, n_m_df, f_o_ln] at eb_df
  obtain ⟨b_kf, f_b_kf, g_b_kf⟩ := hx_rf hT g_qo_ln tt_1 (k := 4) (u := 16) rfl
  obtain ⟨B_kf, n_b_kf⟩ : ∃ g : Nat → Int32, hl1.2.1 b_kf = g := ⟨_, rfl⟩
  obtain ⟨m_kf, f_m_kf, g_m_kf⟩ := hx_rf hT gm tt_10 (k := 33) (u := 69) rfl
  obtain ⟨F_kf, n_m_kf⟩ : ∃ g : Nat → Int32, hl1.2.1 m_kf = g := ⟨_, rfl⟩
  have eb_kf := hk_kf qo_ln b_kf m_kf f_qo_ln f_b_kf f_m_kf; rw [n_b_kf, n_m_kf, f_o_ln] at eb_kf
  obtain ⟨b_sf, f_b_sf, g_b_sf⟩ := hx_rf hT g_qo_ln tt_1 (k := 5) (u := 17) rfl
  obtain ⟨B_sf, n_b_sf⟩ : ∃ g : Nat → Int32, hl1.2.1 b_sf = g := ⟨_, rfl⟩
  obtain ⟨m_sf, f_m_sf, g_m_sf⟩ := hx_rf hT gm tt_10 (k := 34) (u := 70) rfl
  obtain ⟨F_sf, n_m_sf⟩ : ∃ g : Nat → Int32, hl1.2.1 m_sf = g := ⟨_, rfl⟩
  have eb_sf := hk_sf qo_ln b_sf m_sf f_qo_ln f_b_sf f_m_sf; rw [n_b_sf, n_m_sf, f_o_ln] at eb_sf
  obtain ⟨b_bf, f_b_bf, g_b_bf⟩ := hx_rf hT g_qo_ln tt_1 (k := 6) (u := 18) rfl
  obtain ⟨bfL, n_b_bf⟩ : ∃ g : Nat → Int32, hl1.2.1 b_bf = g := ⟨_, rfl⟩
  obtain ⟨hBD, hDY⟩ := hkBD qo_ln b_df b_bf f_qo_ln f_b_df f_b_bf; rw [n_b_df, n_b_bf, f_o_ln] at hBD; rw [n_b_df, f_o_ln] at hDY
  have hBDm := hy_BD_c eb_df hBD
  have hDYm : hy_DY F_df ln.toInt.toNat := fun x hx => by rw [← eb_df x hx]; exact hDY x hx
  have sb_list := hLQ qw ql qc f_qw f_ql f_qc
  obtain ⟨m_lst, f_m_lst, g_m_lst⟩ := hx_rf hT gm tt_10 (k := 91) (u := 112) rfl
  obtain ⟨F_lst, n_lst⟩ : ∃ g : Nat → Int32, hl1.2.1 m_lst = g := ⟨_, rfl⟩
  obtain ⟨c_lst, cl_lst⟩ : ∃ g : Nat → Int32, hx_col 8 hl1 ql 0 = g := ⟨_, rfl⟩
  have eq_lst := hLE qw ql m_lst f_qw f_ql f_m_lst; rw [cl_lst, n_lst] at eq_lst
  obtain ⟨qtp, f_qtp, g_qtp⟩ := hx_rf hT gx tt_9 (k := 0) (u := 42) rfl
  obtain ⟨m_tp, f_m_tp, g_m_tp⟩ := hx_rf hT gm tt_10 (k := 6) (u := 53) rfl
  obtain ⟨F_tp, n_tp⟩ : ∃ g : Nat → Int32, hl1.2.1 m_tp = g := ⟨_, rfl⟩
  have n_qtp : hl1.2.1 qtp = F_tp := (hkTP qtp m_tp f_qtp f_m_tp).trans n_tp
  obtain ⟨c_dead, cl_dead⟩ : ∃ g : Nat → Int32, hx_col 40 hl1 qp 7 = g := ⟨_, rfl⟩
  obtain ⟨m_dead, f_m_dead, g_m_dead⟩ := hx_rf hT gm tt_10 (k := 27) (u := 64) rfl
  obtain ⟨F_dead, n_dead⟩ : ∃ g : Nat → Int32, hl1.2.1 m_dead = g := ⟨_, rfl⟩
  have eq_dead := hc_dead qp m_dead f_qp f_m_dead; rw [cl_dead, n_dead] at eq_dead
  have z_dead : np.toInt.toNat < 40 → c_dead np.toInt.toNat = 0 := fun hj => hx_num_z nu_qp cl_dead hj ?o0
  case o0 => omega
  obtain ⟨c_isj, cl_isj⟩ : ∃ g : Nat → Int32, hx_col 40 hl1 qp 8 = g := ⟨_, rfl⟩
  obtain ⟨m_isj, f_m_isj, g_m_isj⟩ := hx_rf hT gm tt_10 (k := 28) (u := 65) rfl
  obtain ⟨F_isj, n_isj⟩ : ∃ g : Nat → Int32, hl1.2.1 m_isj = g := ⟨_, rfl⟩
  have eq_isj := hc_isj qp m_isj f_qp f_m_isj; rw [cl_isj, n_isj] at eq_isj
  have z_isj : np.toInt.toNat < 40 → c_isj np.toInt.toNat = 0 := fun hj => hx_num_z nu_qp cl_isj hj ?o1
  case o1 => omega
  obtain ⟨c_dox, cl_dox⟩ : ∃ g : Nat → Int32, hx_col 40 hl1 qp 5 = g := ⟨_, rfl⟩
  obtain ⟨m_dox, f_m_dox, g_m_dox⟩ := hx_rf hT gm tt_10 (k := 24) (u := 61) rfl
  obtain ⟨F_dox, n_dox⟩ : ∃ g : Nat → Int32, hl1.2.1 m_dox = g := ⟨_, rfl⟩
  have eq_dox := hc_dox qp m_dox f_qp f_m_dox; rw [cl_dox, n_dox] at eq_dox
  have z_dox : np.toInt.toNat < 40 → c_dox np.toInt.toNat = 0 := fun hj => hx_num_z nu_qp cl_dox hj ?o2
  case o2 => omega
  obtain ⟨c_doy, cl_doy⟩ : ∃ g : Nat → Int32, hx_col 40 hl1 qp 6 = g := ⟨_, rfl⟩
  obtain ⟨m_doy, f_m_doy, g_m_doy⟩ := hx_rf hT gm tt_10 (k := 25) (u := 62) rfl
  obtain ⟨F_doy, n_doy⟩ : ∃ g : Nat → Int32, hl1.2.1 m_doy = g := ⟨_, rfl⟩
  have eq_doy := hc_doy qp m_doy f_qp f_m_doy; rw [cl_doy, n_doy] at eq_doy
  have z_doy : np.toInt.toNat < 40 → c_doy np.toInt.toNat = 0 := fun hj => hx_num_z nu_qp cl_doy hj ?o3
  case o3 => omega
  obtain ⟨c_fou, cl_fou⟩ : ∃ g : Nat → Int32, hx_col 100 hl1 qc 10 = g := ⟨_, rfl⟩
  have eq_fou := hc_fou qc m_fou f_qc f_m_fou; rw [cl_fou, n_m_fou] at eq_fou
  have z_fou : c0.toInt.toNat < 100 → c_fou c0.toInt.toNat = 0 := fun hj => hx_num_z nu_qc cl_fou hj ?o4
  case o4 => omega
  obtain ⟨c_tri, cl_tri⟩ : ∃ g : Nat → Int32, hx_col 100 hl1 qc 9 = g := ⟨_, rfl⟩
  have eq_tri := hc_tri qc mt f_qc f_mt; rw [cl_tri, n_mt] at eq_tri
  have z_tri : c0.toInt.toNat < 100 → c_tri c0.toInt.toNat = 0 := fun hj => hx_num_z nu_qc cl_tri hj ?o5
  case o5 => omega
  obtain ⟨qlt, f_qlt, g_qlt⟩ := hx_rf hT g_qw tt_8 (k := 2) (u := 39) rfl
  obtain ⟨qlf, f_qlf, g_qlf⟩ := hx_rf hT g_qw tt_8 (k := 4) (u := 41) rfl
  obtain ⟨m_wkd, f_m_wkd, g_m_wkd⟩ := hx_rf hT gm tt_10 (k := 93) (u := 113) rfl
  obtain ⟨F_qlt, n_qlt⟩ : ∃ g : Nat → Int32, hl1.2.1 qlt = g := ⟨_, rfl⟩
  obtain ⟨F_m_wkd, n_m_wkd⟩ : ∃ g : Nat → Int32, hl1.2.1 m_wkd = g := ⟨_, rfl⟩
  have eb_wkd := hkWD qw qlt m_wkd f_qw f_qlt f_m_wkd; rw [n_qlt, n_m_wkd, f_o_wkm] at eb_wkd
  obtain ⟨m_aga, f_m_aga, g_m_aga⟩ := hx_rf hT gm tt_10 (k := 38) (u := 73) rfl
  obtain ⟨F_aga, n_aga⟩ : ∃ g : Nat → Int32, hl1.2.1 m_aga = g := ⟨_, rfl⟩
  have hDF := hkDF qc qp m_aga f_qc f_qp f_m_aga; rw [n_aga, f_x_claimCount] at hDF
  obtain ⟨qwo, f_qwo, g_qwo⟩ := hx_rf hT gx tt_9 (k := 4) (u := 0) rfl
  obtain ⟨m_ad, f_m_ad, g_m_ad⟩ := hx_rf hT gm tt_10 (k := 2) (u := 49) rfl
  obtain ⟨F_ad, n_ad⟩ : ∃ g : Nat → Int32, hl1.2.1 m_ad = g := ⟨_, rfl⟩
  obtain ⟨A9, hRA9, hCA9, hAC9, hAB⟩ := hkAC qa qwo m_ad mr mn mp qc ml f_qa f_qwo f_m_ad f_mr f_mn f_mp f_qc f_ml
  rw [f_x_actCount] at hRA9; rw [f_x_actCount, n_ad, n_mr, n_mn, n_mp] at hCA9
  obtain ⟨m_by, f_m_by, g_m_by⟩ := hx_rf hT gm tt_10 (k := 37) (u := 72) rfl
  obtain ⟨F_by, n_by⟩ : ∃ g : Nat → Int32, hl1.2.1 m_by = g := ⟨_, rfl⟩
  obtain ⟨m_ho, f_m_ho, g_m_ho⟩ := hx_rf hT gm tt_10 (k := 58) (u := 92) rfl
  obtain ⟨F_ho, n_ho⟩ : ∃ g : Nat → Int32, hl1.2.1 m_ho = g := ⟨_, rfl⟩
  obtain ⟨m_fc, f_m_fc, g_m_fc⟩ := hx_rf hT gm tt_10 (k := 53) (u := 88) rfl
  obtain ⟨F_fc, n_fc⟩ : ∃ g : Nat → Int32, hl1.2.1 m_fc = g := ⟨_, rfl⟩
  obtain ⟨m_nt, f_m_nt, g_m_nt⟩ := hx_rf hT gm tt_10 (k := 41) (u := 76) rfl
  obtain ⟨F_nt, n_nt⟩ : ∃ g : Nat → Int32, hl1.2.1 m_nt = g := ⟨_, rfl⟩
  obtain ⟨m_wt, f_m_wt, g_m_wt⟩ := hx_rf hT gm tt_10 (k := 42) (u := 77) rfl
  obtain ⟨F_wt, n_wt⟩ : ∃ g : Nat → Int32, hl1.2.1 m_wt = g := ⟨_, rfl⟩
  obtain ⟨m_be, f_m_be, g_m_be⟩ := hx_rf hT gm tt_10 (k := 52) (u := 87) rfl
  obtain ⟨F_be, n_be⟩ : ∃ g : Nat → Int32, hl1.2.1 m_be = g := ⟨_, rfl⟩
  obtain ⟨m_bor, f_m_bor, g_m_bor⟩ := hx_rf hT gm tt_10 (k := 21) (u := 58) rfl
  obtain ⟨F_bor, n_bor⟩ : ∃ g : Nat → Int32, hl1.2.1 m_bor = g := ⟨_, rfl⟩
  obtain ⟨m_kin, f_m_kin, g_m_kin⟩ := hx_rf hT gm tt_10 (k := 26) (u := 63) rfl
  obtain ⟨F_kin, n_kin⟩ : ∃ g : Nat → Int32, hl1.2.1 m_kin = g := ⟨_, rfl⟩
  obtain ⟨m_sum, f_m_sum, g_m_sum⟩ := hx_rf hT gm tt_10 (k := 39) (u := 74) rfl
  obtain ⟨F_sum, n_sum⟩ : ∃ g : Nat → Int32, hl1.2.1 m_sum = g := ⟨_, rfl⟩
  obtain ⟨m_fro, f_m_fro, g_m_fro⟩ := hx_rf hT gm tt_10 (k := 40) (u := 75) rfl
  obtain ⟨F_fro, n_fro⟩ : ∃ g : Nat → Int32, hl1.2.1 m_fro = g := ⟨_, rfl⟩
  obtain ⟨m_fil, f_m_fil, g_m_fil⟩ := hx_rf hT gm tt_10 (k := 43) (u := 78) rfl
  obtain ⟨F_fil, n_fil⟩ : ∃ g : Nat → Int32, hl1.2.1 m_fil = g := ⟨_, rfl⟩
  obtain ⟨m_jud, f_m_jud, g_m_jud⟩ := hx_rf hT gm tt_10 (k := 51) (u := 86) rfl
  obtain ⟨F_jud, n_jud⟩ : ∃ g : Nat → Int32, hl1.2.1 m_jud = g := ⟨_, rfl⟩
  obtain ⟨m_ear, f_m_ear, g_m_ear⟩ := hx_rf hT gm tt_10 (k := 22) (u := 59) rfl
  obtain ⟨F_ear, n_ear⟩ : ∃ g : Nat → Int32, hl1.2.1 m_ear = g := ⟨_, rfl⟩
  obtain ⟨m_hds, f_m_hds, g_m_hds⟩ := hx_rf hT gm tt_10 (k := 23) (u := 60) rfl
  obtain ⟨F_hds, n_hds⟩ : ∃ g : Nat → Int32, hl1.2.1 m_hds = g := ⟨_, rfl⟩
  obtain ⟨m_ord, f_m_ord, g_m_ord⟩ := hx_rf hT gm tt_10 (k := 48) (u := 83) rfl
  obtain ⟨F_ord, n_ord⟩ : ∃ g : Nat → Int32, hl1.2.1 m_ord = g := ⟨_, rfl⟩
  obtain ⟨m_wkl, f_m_wkl, g_m_wkl⟩ := hx_rf hT gm tt_10 (k := 54) (u := 89) rfl
  obtain ⟨F_wkl, n_wkl⟩ : ∃ g : Nat → Int32, hl1.2.1 m_wkl = g := ⟨_, rfl⟩
  obtain ⟨m_owd, f_m_owd, g_m_owd⟩ := hx_rf hT gm tt_10 (k := 55) (u := 90) rfl
  obtain ⟨F_owd, n_owd⟩ : ∃ g : Nat → Int32, hl1.2.1 m_owd = g := ⟨_, rfl⟩
  obtain ⟨m_gds, f_m_gds, g_m_gds⟩ := hx_rf hT gm tt_10 (k := 56) (u := 91) rfl
  obtain ⟨F_gds, n_gds⟩ : ∃ g : Nat → Int32, hl1.2.1 m_gds = g := ⟨_, rfl⟩
  obtain ⟨m_szd, f_m_szd, g_m_szd⟩ := hx_rf hT gm tt_10 (k := 49) (u := 84) rfl
  obtain ⟨F_szd, n_szd⟩ : ∃ g : Nat → Int32, hl1.2.1 m_szd = g := ⟨_, rfl⟩
  obtain ⟨m_srv, f_m_srv, g_m_srv⟩ := hx_rf hT gm tt_10 (k := 50) (u := 85) rfl
  obtain ⟨F_srv, n_srv⟩ : ∃ g : Nat → Int32, hl1.2.1 m_srv = g := ⟨_, rfl⟩
  have cl_bor : hx_col 40 hl1 qp 1 = F_bor := (hf_bor qp m_bor f_qp f_m_bor).trans n_bor
  have cl_kin : hx_col 40 hl1 qp 2 = F_kin := (hf_kin qp m_kin f_qp f_m_kin).trans n_kin
  have cl_sum : hx_col 100 hl1 qc 6 = F_sum := (hf_sum qc m_sum f_qc f_m_sum).trans n_sum
  have cl_fro : hx_col 100 hl1 qc 7 = F_fro := (hf_fro qc m_fro f_qc f_m_fro).trans n_fro
  have cl_fil : hx_col 100 hl1 qc 8 = F_fil := (hf_fil qc m_fil f_qc f_m_fil).trans n_fil
  have cl_hea : hx_col 100 hl1 qc 11 = F_mh := (hf_hea qc mh f_qc f_mh).trans n_mh
  have cl_jud : hx_col 100 hl1 qc 12 = F_jud := (hf_jud qc m_jud f_qc f_m_jud).trans n_jud
  have cl_ear : hx_col 40 hl1 qp 3 = F_ear := (hf_ear qp m_ear f_qp f_m_ear).trans n_ear
  have cl_hds : hx_col 40 hl1 qp 4 = F_hds := (hf_hds qp m_hds f_qp f_m_hds).trans n_hds
  have cl_ord : hx_col 100 hl1 qc 13 = F_ord := (hf_ord qc m_ord f_qc f_m_ord).trans n_ord
  have cl_wkl : hx_col 100 hl1 qc 14 = F_wkl := (hf_wkl qc m_wkl f_qc f_m_wkl).trans n_wkl
  have cl_owd : hx_col 100 hl1 qc 15 = F_owd := (hf_owd qc m_owd f_qc f_m_owd).trans n_owd
  have cl_gds : hx_col 100 hl1 qc 17 = F_gds := (hf_gds qc m_gds f_qc f_m_gds).trans n_gds
  have cl_szd : hx_col 100 hl1 qc 16 = F_szd := (hf_szd qc m_szd f_qc f_m_szd).trans n_szd
  have cl_srv : hx_col 100 hl1 qc 18 = F_srv := (hf_srv qc m_srv f_qc f_m_srv).trans n_srv
  have htb9 : ∀ c, c < 100 → 0 ≤ (c_tri c).toInt ∧ (c_tri c).toInt ≤ 512 := fun c hc => by rw [eq_tri c hc]; have w := hT.ei g_mt tt_80 (k := c) hc; rw [n_mt] at w; exact w
  have z_jud : F_jud c0.toInt.toNat = 0 := hx_num_z2 nu_qc cl_jud ?o6
  case o6 => omega
  have hDP := hkDP qc qp m_by f_qc f_qp f_m_by; rw [n_by, f_x_claimCount] at hDP
  have hHL := hkHL qh qc m_ho f_qh f_qc f_m_ho; rw [n_ho, f_x_heardCount, f_x_claimCount] at hHL
  have hHO9 := hkHO m_ho mh f_m_ho f_mh; rw [n_ho, n_mh, f_m_heardMany, f_m_claims] at hHO9
  obtain ⟨cF9L, hFX, hFR9⟩ := hkFX qc m_fc m_nt m_wt m_sum mh f_qc f_m_fc f_m_nt f_m_wt f_m_sum f_mh; rw [f_x_claimCount] at hFX; rw [n_fc, n_nt, n_wt, n_sum, n_mh, f_x_claimCount] at hFR9
  have hBX := hkBX qc m_be f_qc f_m_be; rw [n_be, f_x_claimCount] at hBX
  rw [n_ml, f_x_claimCount] at hAC9
  obtain ⟨y_p0, f_y_p0, g_y_p0⟩ := hx_rf hT g_qo_py tt_3 (k := 2) (u := 23) rfl
  obtain ⟨m_p0, f_m_p0, g_m_p0⟩ := hx_rf hT gm tt_10 (k := 60) (u := 93) rfl
  obtain ⟨F_p0, n_p0⟩ : ∃ g : Nat → Int32, hl1.2.1 m_p0 = g := ⟨_, rfl⟩
  have n_y_p0 : hl1.2.1 y_p0 = F_p0 := (hkP0 qo_py y_p0 m_p0 f_qo_py f_y_p0 f_m_p0).trans n_p0
  obtain ⟨y_p1, f_y_p1, g_y_p1⟩ := hx_rf hT g_qo_py tt_3 (k := 3) (u := 24) rfl
  obtain ⟨m_p1, f_m_p1, g_m_p1⟩ := hx_rf hT gm tt_10 (k := 61) (u := 94) rfl
  obtain ⟨F_p1, n_p1⟩ : ∃ g : Nat → Int32, hl1.2.1 m_p1 = g := ⟨_, rfl⟩
  have n_y_p1 : hl1.2.1 y_p1 = F_p1 := (hkP1 qo_py y_p1 m_p1 f_qo_py f_y_p1 f_m_p1).trans n_p1
  obtain ⟨y_p2, f_y_p2, g_y_p2⟩ := hx_rf hT g_qo_py tt_3 (k := 5) (u := 26) rfl
  obtain ⟨m_p2, f_m_p2, g_m_p2⟩ := hx_rf hT gm tt_10 (k := 62) (u := 95) rfl
  obtain ⟨F_p2, n_p2⟩ : ∃ g : Nat → Int32, hl1.2.1 m_p2 = g := ⟨_, rfl⟩
  have n_y_p2 : hl1.2.1 y_p2 = F_p2 := (hkP2 qo_py y_p2 m_p2 f_qo_py f_y_p2 f_m_p2).trans n_p2
  obtain ⟨y_p3, f_y_p3, g_y_p3⟩ := hx_rf hT g_qo_py tt_3 (k := 4) (u := 25) rfl
  obtain ⟨m_p3, f_m_p3, g_m_p3⟩ := hx_rf hT gm tt_10 (k := 63) (u := 96) rfl
  obtain ⟨F_p3, n_p3⟩ : ∃ g : Nat → Int32, hl1.2.1 m_p3 = g := ⟨_, rfl⟩
  have n_y_p3 : hl1.2.1 y_p3 = F_p3 := (hkP3 qo_py y_p3 m_p3 f_qo_py f_y_p3 f_m_p3).trans n_p3
  obtain ⟨y_p4, f_y_p4, g_y_p4⟩ := hx_rf hT g_qo_py tt_3 (k := 1) (u := 22) rfl
  obtain ⟨m_p4, f_m_p4, g_m_p4⟩ := hx_rf hT gm tt_10 (k := 64) (u := 97) rfl
  obtain ⟨F_p4, n_p4⟩ : ∃ g : Nat → Int32, hl1.2.1 m_p4 = g := ⟨_, rfl⟩
  have n_y_p4 : hl1.2.1 y_p4 = F_p4 := (hkP4 qo_py y_p4 m_p4 f_qo_py f_y_p4 f_m_p4).trans n_p4
  obtain ⟨qrg9, f_qrg9, g_qrg9⟩ := hx_rf hT gx tt_9 (k := 18) (u := 7) rfl
  obtain ⟨y_ls, f_y_ls, g_y_ls⟩ := hx_rf hT g_qrg9 tt_7 (k := 3) (u := 35) rfl
  obtain ⟨m_rl, f_m_rl, g_m_rl⟩ := hx_rf hT gm tt_10 (k := 85) (u := 109) rfl
  obtain ⟨F_y_ls, n_y_ls⟩ : ∃ g : Nat → Int32, hl1.2.1 y_ls = g := ⟨_, rfl⟩
  obtain ⟨F_m_rl, n_m_rl⟩ : ∃ g : Nat → Int32, hl1.2.1 m_rl = g := ⟨_, rfl⟩
  obtain ⟨fv_824, efv_824⟩ : ∃ y : Int32, y = hl1.2.1 qrg9 0 := ⟨_, rfl⟩
  have bfv_824 := hT.gi g_qrg9 tt_7 (k := 0) rfl
  rw [← efv_824] at bfv_824
  have bfv_824 : -1 ≤ fv_824.toInt ∧ fv_824.toInt ≤ 100 := bfv_824
  have ffv_824 := efv_824.symm
  obtain ⟨fv_825, efv_825⟩ : ∃ y : Int32, y = hl1.2.1 am 83 := ⟨_, rfl⟩
  have bfv_825 := hT.gi gm tt_10 (k := 83) rfl
  rw [← efv_825] at bfv_825
  have bfv_825 : 0 ≤ fv_825.toInt ∧ fv_825.toInt ≤ 1 := bfv_825
  have ffv_825 := efv_825.symm
  obtain ⟨fv_826, efv_826⟩ : ∃ y : Int32, y = hl1.2.1 am 84 := ⟨_, rfl⟩
  have bfv_826 := hT.gi gm tt_10 (k := 84) rfl
  rw [← efv_826] at bfv_826
  have bfv_826 : 0 ≤ fv_826.toInt ∧ fv_826.toInt ≤ 300 := bfv_826
  have ffv_826 := efv_826.symm
  have hNQ9 := hkNQ qrg9 f_qrg9; rw [ffv_824, ffv_825, ffv_826] at hNQ9
  have hRL9 := hkRL qrg9 y_ls m_rl f_qrg9 f_y_ls f_m_rl; rw [n_y_ls, n_m_rl, ffv_824] at hRL9
  have hCB : hz_CB F_ord F_wkl F_owd F_szd F_gds F_srv := fun c hc => ⟨by have w := hT.ei g_m_ord tt_83 (k := c) (by omega); rw [n_ord] at w; exact w, by have w := hT.ei g_m_wkl tt_89 (k := c) (by omega); rw [n_wkl] at w; exact w, by have w := hT.ei g_m_owd tt_90 (k := c) (by omega); rw [n_owd] at w; exact w, by have w := hT.ei g_m_szd tt_84 (k := c) (by omega); rw [n_szd] at w; exact w, by have w := hT.ei g_m_gds tt_91 (k := c) (by omega); rw [n_gds] at w; exact w, by have w := hT.ei g_m_srv tt_85 (k := c) (by omega); rw [n_srv] at w; exact w⟩
  have hps : ∀ j, j < 600 → 0 ≤ (F_p2 j).toInt ∧ (F_p2 j).toInt ≤ 610000 := fun j hj => by have w := hT.ei g_m_p2 tt_95 (k := j) (by omega); rw [n_p2] at w; exact w
  have hte9 : ∀ c : Nat, c < 100 → (0 ≤ (c_tri c).toInt ∧ (c_tri c).toInt ≤ 512) ∧ (0 ≤ (F_sum c).toInt ∧ (F_sum c).toInt ≤ 9999) := fun c hc => ⟨htb9 c hc, by have w := hT.ei g_m_sum tt_74 (k := c) (by omega); rw [n_sum] at w; exact w⟩
  have hee9 : ∀ c : Nat, c < 40 → (0 ≤ (F_ear c).toInt ∧ (F_ear c).toInt ≤ 9999) ∧ (0 ≤ (F_hds c).toInt ∧ (F_hds c).toInt ≤ 20) := fun c hc => ⟨by have w := hT.ei g_m_ear tt_59 (k := c) (by omega); rw [n_ear] at w; exact w, by have w := hT.ei g_m_hds tt_60 (k := c) (by omega); rw [n_hds] at w; exact w⟩
  have bAG9 : ∀ k, k < 100 → 0 ≤ (F_aga k).toInt ∧ (F_aga k).toInt ≤ 39 := fun k hk => by have w := hT.ei g_m_aga tt_73 (k := k) (by omega); rw [n_aga] at w; exact w
  have bBY9 : ∀ k, k < 100 → 0 ≤ (F_by k).toInt ∧ (F_by k).toInt ≤ 39 := fun k hk => by have w := hT.ei g_m_by tt_72 (k := k) (by omega); rw [n_by] at w; exact w
  have hag9 : ∀ c, c < c0.toInt.toNat → 0 ≤ (F_aga c).toInt ∧ (F_aga c).toInt < 40 ∧ 0 ≤ (F_by c).toInt ∧ (F_by c).toInt < 40 := fun c hc => by have a9 := bAG9 c (by omega); have b9 := bBY9 c (by omega); omega
  have z_wkl : F_wkl c0.toInt.toNat = 0 := hx_num_z2 nu_qc cl_wkl ?o7
  case o7 => omega
  have z_owd : F_owd c0.toInt.toNat = 0 := hx_num_z2 nu_qc cl_owd ?o8
  case o8 => omega
  have z_gds : F_gds c0.toInt.toNat = 0 := hx_num_z2 nu_qc cl_gds ?o9
  case o9 => omega
  obtain ⟨y_pc, f_y_pc, g_y_pc⟩ := hx_rf hT g_qo_pmn tt_5 (k := 2) (u := 27) rfl
  obtain ⟨m_pc, f_m_pc, g_m_pc⟩ := hx_rf hT gm tt_10 (k := 73) (u := 100) rfl
  obtain ⟨F_y_pc, n_y_pc⟩ : ∃ g : Nat → Int32, hl1.2.1 y_pc = g := ⟨_, rfl⟩
  obtain ⟨F_m_pc, n_m_pc⟩ : ∃ g : Nat → Int32, hl1.2.1 m_pc = g := ⟨_, rfl⟩
  obtain ⟨y_pw, f_y_pw, g_y_pw⟩ := hx_rf hT g_qo_pmn tt_5 (k := 3) (u := 28) rfl
  obtain ⟨m_pw, f_m_pw, g_m_pw⟩ := hx_rf hT gm tt_10 (k := 74) (u := 101) rfl
  obtain ⟨F_y_pw, n_y_pw⟩ : ∃ g : Nat → Int32, hl1.2.1 y_pw = g := ⟨_, rfl⟩
  obtain ⟨F_m_pw, n_m_pw⟩ : ∃ g : Nat → Int32, hl1.2.1 m_pw = g := ⟨_, rfl⟩
  obtain ⟨y_pk, f_y_pk, g_y_pk⟩ := hx_rf hT g_qo_pmn tt_5 (k := 4) (u := 29) rfl
  obtain ⟨m_pk, f_m_pk, g_m_pk⟩ := hx_rf hT gm tt_10 (k := 81) (u := 107) rfl
  obtain ⟨F_y_pk, n_y_pk⟩ : ∃ g : Nat → Int32, hl1.2.1 y_pk = g := ⟨_, rfl⟩
  obtain ⟨F_m_pk, n_m_pk⟩ : ∃ g : Nat → Int32, hl1.2.1 m_pk = g := ⟨_, rfl⟩
  have hEA9 := hkPG qo_pmn y_pc y_pw y_pk m_pc m_pw m_pk f_qo_pmn f_y_pc f_y_pw f_y_pk f_m_pc f_m_pw f_m_pk; rw [n_y_pc, n_y_pw, n_y_pk, n_m_pc, n_m_pw, n_m_pk, f_o_pmn] at hEA9
  have hrn9 : ∀ c : Nat, c < c0.toInt.toNat → 0 ≤ (hz_Rn F_ord F_szd F_gds F_owd F_srv (hz_rc A9 F_ml) F_p0 F_p1 F_p2 F_p3 F_p4 nw.toInt py.toInt.toNat) c ∧ (hz_Rn F_ord F_szd F_gds F_owd F_srv (hz_rc A9 F_ml) F_p0 F_p1 F_p2 F_p3 F_p4 nw.toInt py.toInt.toNat) c ≤ 609999 := fun c hc => hz_Rn_b hCB hps ?o10 ?o11 ((hAB _).1 12)
  case o10 => omega
  case o11 => omega
  have hwd := jw mw f_mw; rw [n_mw] at hwd
  have hWK := jr mr f_mr; rw [n_mr, f_m_acts] at hWK
  have hRP := jp mp mn f_mp f_mn; rw [n_mp, n_mn, f_m_acts] at hRP
  have hPL := jl ml f_ml; rw [n_ml, f_m_claims, f_m_acts] at hPL
  have hHC := jh mh f_mh; rw [n_mh, f_m_heardMany, f_m_claims] at hHC
  have hTR := jt mt f_mt; rw [n_mt] at hTR
  have hHF := jf mh m_fou f_mh f_m_fou; rw [n_mh, n_m_fou, f_m_claims] at hHF
  have hwk9 : ∀ c : Nat, c < c0.toInt.toNat → 1 ≤ (A9 (F_ml c).toInt.toNat).2.1 2 := fun c hc => by have p9 := hPL (c : Int) (by omega) (by omega); rw [Int.toNat_natCast] at p9; obtain ⟨_, h29, _⟩ := hCA9.2 (F_ml c).toInt.toNat (by omega); rw [← h29]; show 1 ≤ (if 2 < 13 then _ else 0); rw [if_pos (by decide)]; exact (hWK (F_ml c).toInt p9.1 p9.2).1
  refine lv_aload_n hx hb dL_law_1231 rfl (lv_at hl 2 rfl) ?_
  refine lv_aload_n hx hb dL_law_1232 rfl (lv_at hl 3 rfl) ?_
  refine lv_iload_n hx hb dL_law_1233 rfl (lv_at hl 0 rfl) ?_
  refine lv_iconst (v := 1) hx hb dL_law_1234 ?o12 ?_
  case o12 => decide
  refine lv_iadd hx hb dL_law_1235 ?_
  have rg_827 := i32_r i
  refine lv_topi (fun x_828 ex_828 => ?_)
  have zx_828 : x_828.toInt = i.toInt + 1 := ?o13
  case o13 =>
    rw [ex_828]
    refine i32_add rfl ?o14 ?o15 ?o16
    case o14 => decide
    case o15 => omega
    case o16 => omega
  refine va_sld hx hb hX hbl hbA hW.2.2.2.1 (vp_in_iff.mpr ⟨?o17, ?o18⟩) dL_law_1236 ?_
  case o17 => omega
  case o18 => omega
  refine lv_topi (fun x_829 ex_829 => ?_)
  have hTo := hT
  refine hx_goi (hx_runV (As := [.int x_829]) (rest := []) ⟨hx, hb, hml, hown, hts⟩ hW gx tt_9 (T := TX9) (N := 20) rfl (t_X9_list_2 l dC dI dA L1 hl1 H.size ax x_829 hT gx qc g_qc f_qc qw g_qw f_qw ql g_ql f_ql c0 f_x_claimCount lsd f_o_lsd c_fou cl_fou c_lst cl_lst nu_qc sb_list pf_qc pf_ql) (cwV 1 hts (hx_gV kw_1039 kw_1036 kw_1037 kw_1038 kw_94) rfl rfl rfl (by decide +kernel) ⟨Nat.le_of_ble_eq_true rfl, Nat.le_of_ble_eq_true rfl⟩) rfl hl.1 rfl (Nat.le_of_ble_eq_true rfl) dL_law_1237 ⟨(show CC + 0 ≤ 600000 from ?o19), (show SS + 0 ≤ 7302250 from ?o20)⟩) hW (fun r_832 L_830 h_831 H locs p_833 hW => ?_)
  case o19 => omega
  case o20 => omega
  obtain ⟨⟨w_836, w_837, fw_836, fw_837, hr_834⟩, hT, hs, pf_835⟩ := p_833
  obtain ⟨sb_838, hr_834⟩ := hr_834
  replace hT : hx_T T_tb L_830 h_831 := hT
  replace hs : hx_S T_tb [(8, 0), (40, 0)] L1 hl1 L_830 h_831 := hs
  replace f_qa := (hs.o gx trivial rfl).2.trans f_qa
  replace f_qp := (hs.o gx trivial rfl).2.trans f_qp
  replace f_qc := (hs.o gx trivial rfl).2.trans f_qc
  replace f_qh := (hs.o gx trivial rfl).2.trans f_qh
  replace f_qw := (hs.o gx trivial rfl).2.trans f_qw
  replace f_ql := (hs.o g_qw trivial rfl).2.trans f_ql
  replace f_m_now := (hs.o gm trivial rfl).1.trans f_m_now
  replace f_m_persons := (hs.o gm trivial rfl).1.trans f_m_persons
  replace f_m_claims := (hs.o gm trivial rfl).1.trans f_m_claims
  replace f_m_taped := (hs.o gm trivial rfl).1.trans f_m_taped
  replace f_m_acts := (hs.o gm trivial rfl).1.trans f_m_acts
  replace f_m_heardMany := (hs.o gm trivial rfl).1.trans f_m_heardMany
  replace f_m_lines := (hs.o gm trivial rfl).1.trans f_m_lines
  replace f_m_listed := (hs.o gm trivial rfl).1.trans f_m_listed
  replace f_m_walkedMany := (hs.o gm trivial rfl).1.trans f_m_walkedMany
  replace f_m_payments := (hs.o gm trivial rfl).1.trans f_m_payments
  replace f_m_planMany := (hs.o gm trivial rfl).1.trans f_m_planMany
  replace f_x_now := (hs.o gx trivial rfl).1.trans f_x_now
  replace f_x_personCount := (hs.o gx trivial rfl).1.trans f_x_personCount
  replace f_x_claimCount := (hs.o gx trivial rfl).1.trans f_x_claimCount
  replace f_x_tapeLength := (hs.o gx trivial rfl).1.trans f_x_tapeLength
  replace f_x_actCount := (hs.o gx trivial rfl).1.trans f_x_actCount
  replace f_x_heardCount := (hs.o gx trivial rfl).1.trans f_x_heardCount
  replace f_mw := (hs.o gm trivial rfl).2.trans f_mw
  replace f_mr := (hs.o gm trivial rfl).2.trans f_mr
  replace f_mp := (hs.o gm trivial rfl).2.trans f_mp
  replace f_mn := (hs.o gm trivial rfl).2.trans f_mn
  replace f_ml := (hs.o gm trivial rfl).2.trans f_ml
  replace f_mh := (hs.o gm trivial rfl).2.trans f_mh
  replace f_mt := (hs.o gm trivial rfl).2.trans f_mt
  replace f_m_fou := (hs.o gm trivial rfl).2.trans f_m_fou
  replace f_qo_ln := (hs.o gx trivial rfl).2.trans f_qo_ln
  replace f_o_ln := (hs.o g_qo_ln trivial rfl).1.trans f_o_ln
  replace f_o_wkm := (hs.o g_qw trivial rfl).1.trans f_o_wkm
  replace f_qo_py := (hs.o gx trivial rfl).2.trans f_qo_py
  replace f_o_py := (hs.o g_qo_py trivial rfl).1.trans f_o_py
  replace f_qo_pmn := (hs.o gx trivial rfl).2.trans f_qo_pmn
  replace f_o_pmn := (hs.o g_qo_pmn trivial rfl).1.trans f_o_pmn
  replace f_b_of := (hs.o g_qo_ln trivial rfl).2.trans f_b_of
  replace f_m_of := (hs.o gm trivial rfl).2.trans f_m_of
  replace f_b_wf := (hs.o g_qo_ln trivial rfl).2.trans f_b_wf
  replace f_m_wf := (hs.o gm trivial rfl).2.trans f_m_wf
  replace f_b_df := (hs.o g_qo_ln trivial rfl).2.trans f_b_df
  replace f_m_df := (hs.o gm trivial rfl).2.trans f_m_df
  replace f_b_kf := (hs.o g_qo_ln trivial rfl).2.trans f_b_kf
  replace f_m_kf := (hs.o gm trivial rfl).2.trans f_m_kf
  replace f_b_sf := (hs.o g_qo_ln trivial rfl).2.trans f_b_sf
  replace f_m_sf := (hs.o gm trivial rfl).2.trans f_m_sf
  replace f_b_bf := (hs.o g_qo_ln trivial rfl).2.trans f_b_bf
  replace f_m_lst := (hs.o gm trivial rfl).2.trans f_m_lst
  replace f_qtp := (hs.o gx trivial rfl).2.trans f_qtp
  replace f_m_tp := (hs.o gm trivial rfl).2.trans f_m_tp
  replace f_m_dead := (hs.o gm trivial rfl).2.trans f_m_dead
  replace f_m_isj := (hs.o gm trivial rfl).2.trans f_m_isj
  replace f_m_dox := (hs.o gm trivial rfl).2.trans f_m_dox
  replace f_m_doy := (hs.o gm trivial rfl).2.trans f_m_doy
  replace f_qlt := (hs.o g_qw trivial rfl).2.trans f_qlt
  replace f_qlf := (hs.o g_qw trivial rfl).2.trans f_qlf
  replace f_m_wkd := (hs.o gm trivial rfl).2.trans f_m_wkd
  replace f_m_aga := (hs.o gm trivial rfl).2.trans f_m_aga
  replace f_qwo := (hs.o gx trivial rfl).2.trans f_qwo
  replace f_m_ad := (hs.o gm trivial rfl).2.trans f_m_ad
  replace f_m_by := (hs.o gm trivial rfl).2.trans f_m_by
  replace f_m_ho := (hs.o gm trivial rfl).2.trans f_m_ho
  replace f_m_fc := (hs.o gm trivial rfl).2.trans f_m_fc
  replace f_m_nt := (hs.o gm trivial rfl).2.trans f_m_nt
  replace f_m_wt := (hs.o gm trivial rfl).2.trans f_m_wt
  replace f_m_be := (hs.o gm trivial rfl).2.trans f_m_be
  replace f_m_bor := (hs.o gm trivial rfl).2.trans f_m_bor
  replace f_m_kin := (hs.o gm trivial rfl).2.trans f_m_kin
  replace f_m_sum := (hs.o gm trivial rfl).2.trans f_m_sum
  replace f_m_fro := (hs.o gm trivial rfl).2.trans f_m_fro
  replace f_m_fil := (hs.o gm trivial rfl).2.trans f_m_fil
  replace f_m_jud := (hs.o gm trivial rfl).2.trans f_m_jud
  replace f_m_ear := (hs.o gm trivial rfl).2.trans f_m_ear
  replace f_m_hds := (hs.o gm trivial rfl).2.trans f_m_hds
  replace f_m_ord := (hs.o gm trivial rfl).2.trans f_m_ord
  replace f_m_wkl := (hs.o gm trivial rfl).2.trans f_m_wkl
  replace f_m_owd := (hs.o gm trivial rfl).2.trans f_m_owd
  replace f_m_gds := (hs.o gm trivial rfl).2.trans f_m_gds
  replace f_m_szd := (hs.o gm trivial rfl).2.trans f_m_szd
  replace f_m_srv := (hs.o gm trivial rfl).2.trans f_m_srv
  replace f_y_p0 := (hs.o g_qo_py trivial rfl).2.trans f_y_p0
  replace f_m_p0 := (hs.o gm trivial rfl).2.trans f_m_p0
  replace f_y_p1 := (hs.o g_qo_py trivial rfl).2.trans f_y_p1
  replace f_m_p1 := (hs.o gm trivial rfl).2.trans f_m_p1
  replace f_y_p2 := (hs.o g_qo_py trivial rfl).2.trans f_y_p2
  replace f_m_p2 := (hs.o gm trivial rfl).2.trans f_m_p2
  replace f_y_p3 := (hs.o g_qo_py trivial rfl).2.trans f_y_p3
  replace f_m_p3 := (hs.o gm trivial rfl).2.trans f_m_p3
  replace f_y_p4 := (hs.o g_qo_py trivial rfl).2.trans f_y_p4
  replace f_m_p4 := (hs.o gm trivial rfl).2.trans f_m_p4
  replace f_qrg9 := (hs.o gx trivial rfl).2.trans f_qrg9
  replace f_y_ls := (hs.o g_qrg9 trivial rfl).2.trans f_y_ls
  replace f_m_rl := (hs.o gm trivial rfl).2.trans f_m_rl
  replace ffv_824 := (hs.o g_qrg9 trivial rfl).1.trans ffv_824
  replace ffv_825 := (hs.o gm trivial rfl).1.trans ffv_825
  replace ffv_826 := (hs.o gm trivial rfl).1.trans ffv_826
  replace f_y_pc := (hs.o g_qo_pmn trivial rfl).2.trans f_y_pc
  replace f_m_pc := (hs.o gm trivial rfl).2.trans f_m_pc
  replace f_y_pw := (hs.o g_qo_pmn trivial rfl).2.trans f_y_pw
  replace f_m_pw := (hs.o gm trivial rfl).2.trans f_m_pw
  replace f_y_pk := (hs.o g_qo_pmn trivial rfl).2.trans f_y_pk
  replace f_m_pk := (hs.o gm trivial rfl).2.trans f_m_pk
  replace pf_qa : ∀ j : Nat, (j : Int) < (h_831.2.1 ax 6).toInt → h_831.2.2 qa j ≠ none := by
    intro j hj; rw [(hs.o gx trivial rfl).1] at hj; rw [(hs.a g_qa rfl j).2]; exact pf_qa j hj
  replace pf_qp : ∀ j : Nat, (j : Int) < (h_831.2.1 ax 8).toInt → h_831.2.2 qp j ≠ none := by
    intro j hj; rw [(hs.o gx trivial rfl).1] at hj; rw [(hs.a g_qp rfl j).2]; exact pf_qp j hj
  replace pf_qc : ∀ j : Nat, (j : Int) < (h_831.2.1 ax 11).toInt → h_831.2.2 qc j ≠ none := by
    intro j hj; rw [(hs.o gx trivial rfl).1] at hj; rw [(hs.a g_qc rfl j).2]; exact pf_qc j hj
  replace pf_qh : ∀ j : Nat, (j : Int) < (h_831.2.1 ax 13).toInt → h_831.2.2 qh j ≠ none := by
    intro j hj; rw [(hs.o gx trivial rfl).1] at hj; rw [(hs.a g_qh rfl j).2]; exact pf_qh j hj
  replace cl_dead : hx_col 40 h_831 qp 7 = c_dead := (hx_col_S hs hTo g_qp tt_44 tt_4 rfl rfl).trans cl_dead
  replace cl_isj : hx_col 40 h_831 qp 8 = c_isj := (hx_col_S hs hTo g_qp tt_44 tt_4 rfl rfl).trans cl_isj
  replace cl_dox : hx_col 40 h_831 qp 5 = c_dox := (hx_col_S hs hTo g_qp tt_44 tt_4 rfl rfl).trans cl_dox
  replace cl_doy : hx_col 40 h_831 qp 6 = c_doy := (hx_col_S hs hTo g_qp tt_44 tt_4 rfl rfl).trans cl_doy
  replace cl_fou : hx_col 100 h_831 qc 10 = c_fou := (hx_col_S hs hTo g_qc tt_45 tt_2 rfl rfl).trans cl_fou
  replace cl_tri : hx_col 100 h_831 qc 9 = c_tri := (hx_col_S hs hTo g_qc tt_45 tt_2 rfl rfl).trans cl_tri
  replace cl_bor : hx_col 40 h_831 qp 1 = F_bor := (hx_col_S hs hTo g_qp tt_44 tt_4 rfl rfl).trans cl_bor
  replace cl_kin : hx_col 40 h_831 qp 2 = F_kin := (hx_col_S hs hTo g_qp tt_44 tt_4 rfl rfl).trans cl_kin
  replace cl_sum : hx_col 100 h_831 qc 6 = F_sum := (hx_col_S hs hTo g_qc tt_45 tt_2 rfl rfl).trans cl_sum
  replace cl_fro : hx_col 100 h_831 qc 7 = F_fro := (hx_col_S hs hTo g_qc tt_45 tt_2 rfl rfl).trans cl_fro
  replace cl_fil : hx_col 100 h_831 qc 8 = F_fil := (hx_col_S hs hTo g_qc tt_45 tt_2 rfl rfl).trans cl_fil
  replace cl_hea : hx_col 100 h_831 qc 11 = F_mh := (hx_col_S hs hTo g_qc tt_45 tt_2 rfl rfl).trans cl_hea
  replace cl_jud : hx_col 100 h_831 qc 12 = F_jud := (hx_col_S hs hTo g_qc tt_45 tt_2 rfl rfl).trans cl_jud
  replace cl_ear : hx_col 40 h_831 qp 3 = F_ear := (hx_col_S hs hTo g_qp tt_44 tt_4 rfl rfl).trans cl_ear
  replace cl_hds : hx_col 40 h_831 qp 4 = F_hds := (hx_col_S hs hTo g_qp tt_44 tt_4 rfl rfl).trans cl_hds
  replace cl_ord : hx_col 100 h_831 qc 13 = F_ord := (hx_col_S hs hTo g_qc tt_45 tt_2 rfl rfl).trans cl_ord
  replace cl_wkl : hx_col 100 h_831 qc 14 = F_wkl := (hx_col_S hs hTo g_qc tt_45 tt_2 rfl rfl).trans cl_wkl
  replace cl_owd : hx_col 100 h_831 qc 15 = F_owd := (hx_col_S hs hTo g_qc tt_45 tt_2 rfl rfl).trans cl_owd
  replace cl_gds : hx_col 100 h_831 qc 17 = F_gds := (hx_col_S hs hTo g_qc tt_45 tt_2 rfl rfl).trans cl_gds
  replace cl_szd : hx_col 100 h_831 qc 16 = F_szd := (hx_col_S hs hTo g_qc tt_45 tt_2 rfl rfl).trans cl_szd
  replace cl_srv : hx_col 100 h_831 qc 18 = F_srv := (hx_col_S hs hTo g_qc tt_45 tt_2 rfl rfl).trans cl_srv
  replace nu_qp : hx_num 40 h_831 qp 0 (np.toInt) := hx_num_S hs hTo g_qp tt_44 tt_4 rfl rfl nu_qp
  replace nu_qc : hx_num 100 h_831 qc 0 (c0.toInt) := hx_num_S hs hTo g_qc tt_45 tt_2 rfl rfl nu_qc
  replace hDF : hw_DF h_831 qc qp 2 F_aga c0.toInt := hw_DF_S hs hTo g_qc g_qp tt_45 tt_2 rfl rfl rfl hDF
  replace hRA9 : hv_RA h_831 qa qwo a0.toInt A9 := hv_RA_S hs hTo g_qa g_qwo tt_43 tt_0 rfl rfl rfl rfl rfl rfl ?o21 hRA9
  case o21 => omega
  replace hDP : hw_DF h_831 qc qp 1 F_by c0.toInt := hw_DF_S hs hTo g_qc g_qp tt_45 tt_2 rfl rfl rfl hDP
  replace hAC9 : hv_AC h_831 qc F_ml c0.toInt A9 := hv_AC_S hs hTo g_qc tt_45 tt_2 rfl tt_0 rfl rfl rfl rfl rfl rfl rfl hAC9
  replace hFX : hv_FX 8 4 h_831 qc cF9L c0.toInt := hv_FX_S hs hTo g_qc tt_45 tt_2 rfl rfl rfl rfl hFX
  replace hBX : hv_FX 3 5 h_831 qc F_be c0.toInt := hv_FX_S hs hTo g_qc tt_45 tt_2 rfl rfl rfl rfl hBX
  replace hHL : hv_HL h_831 qh qc F_ho m0.toInt c0.toInt := hv_HL_S hs g_qh g_qc rfl rfl hHL
  replace n_mw : h_831.2.1 mw = F_mw := (funext fun j => (hs.a g_mw rfl j).1).trans n_mw
  replace n_mr : h_831.2.1 mr = F_mr := (funext fun j => (hs.a g_mr rfl j).1).trans n_mr
  replace n_mp : h_831.2.1 mp = F_mp := (funext fun j => (hs.a g_mp rfl j).1).trans n_mp
  replace n_mn : h_831.2.1 mn = F_mn := (funext fun j => (hs.a g_mn rfl j).1).trans n_mn
  replace n_ml : h_831.2.1 ml = F_ml := (funext fun j => (hs.a g_ml rfl j).1).trans n_ml
  replace n_mh : h_831.2.1 mh = F_mh := (funext fun j => (hs.a g_mh rfl j).1).trans n_mh
  replace n_mt : h_831.2.1 mt = F_mt := (funext fun j => (hs.a g_mt rfl j).1).trans n_mt
  replace n_m_fou : h_831.2.1 m_fou = F_m_fou := (funext fun j => (hs.a g_m_fou rfl j).1).trans n_m_fou
  replace n_b_of : h_831.2.1 b_of = B_of := (funext fun j => (hs.a g_b_of rfl j).1).trans n_b_of
  replace n_m_of : h_831.2.1 m_of = F_of := (funext fun j => (hs.a g_m_of rfl j).1).trans n_m_of
  replace n_b_wf : h_831.2.1 b_wf = B_wf := (funext fun j => (hs.a g_b_wf rfl j).1).trans n_b_wf
  replace n_m_wf : h_831.2.1 m_wf = F_wf := (funext fun j => (hs.a g_m_wf rfl j).1).trans n_m_wf
  replace n_b_df : h_831.2.1 b_df = B_df := (funext fun j => (hs.a g_b_df rfl j).1).trans n_b_df
  replace n_m_df : h_831.2.1 m_df = F_df := (funext fun j => (hs.a g_m_df rfl j).1).trans n_m_df
  replace n_b_kf : h_831.2.1 b_kf = B_kf := (funext fun j => (hs.a g_b_kf rfl j).1).trans n_b_kf
  replace n_m_kf : h_831.2.1 m_kf = F_kf := (funext fun j => (hs.a g_m_kf rfl j).1).trans n_m_kf
  replace n_b_sf : h_831.2.1 b_sf = B_sf := (funext fun j => (hs.a g_b_sf rfl j).1).trans n_b_sf
  replace n_m_sf : h_831.2.1 m_sf = F_sf := (funext fun j => (hs.a g_m_sf rfl j).1).trans n_m_sf
  replace n_b_bf : h_831.2.1 b_bf = bfL := (funext fun j => (hs.a g_b_bf rfl j).1).trans n_b_bf
  replace n_lst : h_831.2.1 m_lst = F_lst := (funext fun j => (hs.a g_m_lst rfl j).1).trans n_lst
  replace n_tp : h_831.2.1 m_tp = F_tp := (funext fun j => (hs.a g_m_tp rfl j).1).trans n_tp
  replace n_qtp : h_831.2.1 qtp = F_tp := (funext fun j => (hs.a g_qtp rfl j).1).trans n_qtp
  replace n_dead : h_831.2.1 m_dead = F_dead := (funext fun j => (hs.a g_m_dead rfl j).1).trans n_dead
  replace n_isj : h_831.2.1 m_isj = F_isj := (funext fun j => (hs.a g_m_isj rfl j).1).trans n_isj
  replace n_dox : h_831.2.1 m_dox = F_dox := (funext fun j => (hs.a g_m_dox rfl j).1).trans n_dox
  replace n_doy : h_831.2.1 m_doy = F_doy := (funext fun j => (hs.a g_m_doy rfl j).1).trans n_doy
  replace n_qlt : h_831.2.1 qlt = F_qlt := (funext fun j => (hs.a g_qlt rfl j).1).trans n_qlt
  replace n_m_wkd : h_831.2.1 m_wkd = F_m_wkd := (funext fun j => (hs.a g_m_wkd rfl j).1).trans n_m_wkd
  replace n_aga : h_831.2.1 m_aga = F_aga := (funext fun j => (hs.a g_m_aga rfl j).1).trans n_aga
  replace n_ad : h_831.2.1 m_ad = F_ad := (funext fun j => (hs.a g_m_ad rfl j).1).trans n_ad
  replace n_by : h_831.2.1 m_by = F_by := (funext fun j => (hs.a g_m_by rfl j).1).trans n_by
  replace n_ho : h_831.2.1 m_ho = F_ho := (funext fun j => (hs.a g_m_ho rfl j).1).trans n_ho
  replace n_fc : h_831.2.1 m_fc = F_fc := (funext fun j => (hs.a g_m_fc rfl j).1).trans n_fc
  replace n_nt : h_831.2.1 m_nt = F_nt := (funext fun j => (hs.a g_m_nt rfl j).1).trans n_nt
  replace n_wt : h_831.2.1 m_wt = F_wt := (funext fun j => (hs.a g_m_wt rfl j).1).trans n_wt
  replace n_be : h_831.2.1 m_be = F_be := (funext fun j => (hs.a g_m_be rfl j).1).trans n_be
  replace n_bor : h_831.2.1 m_bor = F_bor := (funext fun j => (hs.a g_m_bor rfl j).1).trans n_bor
  replace n_kin : h_831.2.1 m_kin = F_kin := (funext fun j => (hs.a g_m_kin rfl j).1).trans n_kin
  replace n_sum : h_831.2.1 m_sum = F_sum := (funext fun j => (hs.a g_m_sum rfl j).1).trans n_sum
  replace n_fro : h_831.2.1 m_fro = F_fro := (funext fun j => (hs.a g_m_fro rfl j).1).trans n_fro
  replace n_fil : h_831.2.1 m_fil = F_fil := (funext fun j => (hs.a g_m_fil rfl j).1).trans n_fil
  replace n_jud : h_831.2.1 m_jud = F_jud := (funext fun j => (hs.a g_m_jud rfl j).1).trans n_jud
  replace n_ear : h_831.2.1 m_ear = F_ear := (funext fun j => (hs.a g_m_ear rfl j).1).trans n_ear
  replace n_hds : h_831.2.1 m_hds = F_hds := (funext fun j => (hs.a g_m_hds rfl j).1).trans n_hds
  replace n_ord : h_831.2.1 m_ord = F_ord := (funext fun j => (hs.a g_m_ord rfl j).1).trans n_ord
  replace n_wkl : h_831.2.1 m_wkl = F_wkl := (funext fun j => (hs.a g_m_wkl rfl j).1).trans n_wkl
  replace n_owd : h_831.2.1 m_owd = F_owd := (funext fun j => (hs.a g_m_owd rfl j).1).trans n_owd
  replace n_gds : h_831.2.1 m_gds = F_gds := (funext fun j => (hs.a g_m_gds rfl j).1).trans n_gds
  replace n_szd : h_831.2.1 m_szd = F_szd := (funext fun j => (hs.a g_m_szd rfl j).1).trans n_szd
  replace n_srv : h_831.2.1 m_srv = F_srv := (funext fun j => (hs.a g_m_srv rfl j).1).trans n_srv
  replace n_p0 : h_831.2.1 m_p0 = F_p0 := (funext fun j => (hs.a g_m_p0 rfl j).1).trans n_p0
  replace n_y_p0 : h_831.2.1 y_p0 = F_p0 := (funext fun j => (hs.a g_y_p0 rfl j).1).trans n_y_p0
  replace n_p1 : h_831.2.1 m_p1 = F_p1 := (funext fun j => (hs.a g_m_p1 rfl j).1).trans n_p1
  replace n_y_p1 : h_831.2.1 y_p1 = F_p1 := (funext fun j => (hs.a g_y_p1 rfl j).1).trans n_y_p1
  replace n_p2 : h_831.2.1 m_p2 = F_p2 := (funext fun j => (hs.a g_m_p2 rfl j).1).trans n_p2
  replace n_y_p2 : h_831.2.1 y_p2 = F_p2 := (funext fun j => (hs.a g_y_p2 rfl j).1).trans n_y_p2
  replace n_p3 : h_831.2.1 m_p3 = F_p3 := (funext fun j => (hs.a g_m_p3 rfl j).1).trans n_p3
  replace n_y_p3 : h_831.2.1 y_p3 = F_p3 := (funext fun j => (hs.a g_y_p3 rfl j).1).trans n_y_p3
  replace n_p4 : h_831.2.1 m_p4 = F_p4 := (funext fun j => (hs.a g_m_p4 rfl j).1).trans n_p4
  replace n_y_p4 : h_831.2.1 y_p4 = F_p4 := (funext fun j => (hs.a g_y_p4 rfl j).1).trans n_y_p4
  replace n_y_ls : h_831.2.1 y_ls = F_y_ls := (funext fun j => (hs.a g_y_ls rfl j).1).trans n_y_ls
  replace n_m_rl : h_831.2.1 m_rl = F_m_rl := (funext fun j => (hs.a g_m_rl rfl j).1).trans n_m_rl
  replace n_y_pc : h_831.2.1 y_pc = F_y_pc := (funext fun j => (hs.a g_y_pc rfl j).1).trans n_y_pc
  replace n_m_pc : h_831.2.1 m_pc = F_m_pc := (funext fun j => (hs.a g_m_pc rfl j).1).trans n_m_pc
  replace n_y_pw : h_831.2.1 y_pw = F_y_pw := (funext fun j => (hs.a g_y_pw rfl j).1).trans n_y_pw
  replace n_m_pw : h_831.2.1 m_pw = F_m_pw := (funext fun j => (hs.a g_m_pw rfl j).1).trans n_m_pw
  replace n_y_pk : h_831.2.1 y_pk = F_y_pk := (funext fun j => (hs.a g_y_pk rfl j).1).trans n_y_pk
  replace n_m_pk : h_831.2.1 m_pk = F_m_pk := (funext fun j => (hs.a g_m_pk rfl j).1).trans n_m_pk
  replace gx := gx.S hs
  replace gm := gm.S hs
  replace g_qa := g_qa.S hs
  replace g_qp := g_qp.S hs
  replace g_qc := g_qc.S hs
  replace g_qh := g_qh.S hs
  replace g_qw := g_qw.S hs
  replace g_ql := g_ql.S hs
  replace g_mw := g_mw.S hs
  replace g_mr := g_mr.S hs
  replace g_mp := g_mp.S hs
  replace g_mn := g_mn.S hs
  replace g_ml := g_ml.S hs
  replace g_mh := g_mh.S hs
  replace g_mt := g_mt.S hs
  replace g_m_fou := g_m_fou.S hs
  replace g_qo_ln := g_qo_ln.S hs
  replace g_qo_py := g_qo_py.S hs
  replace g_qo_pmn := g_qo_pmn.S hs
  replace g_b_of := g_b_of.S hs
  replace g_m_of := g_m_of.S hs
  replace g_b_wf := g_b_wf.S hs
  replace g_m_wf := g_m_wf.S hs
  replace g_b_df := g_b_df.S hs
  replace g_m_df := g_m_df.S hs
  replace g_b_kf := g_b_kf.S hs
  replace g_m_kf := g_m_kf.S hs
  replace g_b_sf := g_b_sf.S hs
  replace g_m_sf := g_m_sf.S hs
  replace g_b_bf := g_b_bf.S hs
  replace g_m_lst := g_m_lst.S hs
  replace g_qtp := g_qtp.S hs
  replace g_m_tp := g_m_tp.S hs
  replace g_m_dead := g_m_dead.S hs
  replace g_m_isj := g_m_isj.S hs
  replace g_m_dox := g_m_dox.S hs
  replace g_m_doy := g_m_doy.S hs
  replace g_qlt := g_qlt.S hs
  replace g_qlf := g_qlf.S hs
  replace g_m_wkd := g_m_wkd.S hs
  replace g_m_aga := g_m_aga.S hs
  replace g_qwo := g_qwo.S hs
  replace g_m_ad := g_m_ad.S hs
  replace g_m_by := g_m_by.S hs
  replace g_m_ho := g_m_ho.S hs
  replace g_m_fc := g_m_fc.S hs
  replace g_m_nt := g_m_nt.S hs
  replace g_m_wt := g_m_wt.S hs
  replace g_m_be := g_m_be.S hs
  replace g_m_bor := g_m_bor.S hs
  replace g_m_kin := g_m_kin.S hs
  replace g_m_sum := g_m_sum.S hs
  replace g_m_fro := g_m_fro.S hs
  replace g_m_fil := g_m_fil.S hs
  replace g_m_jud := g_m_jud.S hs
  replace g_m_ear := g_m_ear.S hs
  replace g_m_hds := g_m_hds.S hs
  replace g_m_ord := g_m_ord.S hs
  replace g_m_wkl := g_m_wkl.S hs
  replace g_m_owd := g_m_owd.S hs
  replace g_m_gds := g_m_gds.S hs
  replace g_m_szd := g_m_szd.S hs
  replace g_m_srv := g_m_srv.S hs
  replace g_y_p0 := g_y_p0.S hs
  replace g_m_p0 := g_m_p0.S hs
  replace g_y_p1 := g_y_p1.S hs
  replace g_m_p1 := g_m_p1.S hs
  replace g_y_p2 := g_y_p2.S hs
  replace g_m_p2 := g_m_p2.S hs
  replace g_y_p3 := g_y_p3.S hs
  replace g_m_p3 := g_m_p3.S hs
  replace g_y_p4 := g_y_p4.S hs
  replace g_m_p4 := g_m_p4.S hs
  replace g_qrg9 := g_qrg9.S hs
  replace g_y_ls := g_y_ls.S hs
  replace g_m_rl := g_m_rl.S hs
  replace g_y_pc := g_y_pc.S hs
  replace g_m_pc := g_m_pc.S hs
  replace g_y_pw := g_y_pw.S hs
  replace g_m_pw := g_m_pw.S hs
  replace g_y_pk := g_y_pk.S hs
  replace g_m_pk := g_m_pk.S hs
  have pf_835 : ∀ j : Nat, (j : Int) < (h_831.2.1 qw 0).toInt → h_831.2.2 ql j ≠ none := pf_835
  have sb_838 : hx_LQ 8 100 h_831 ql qc := sb_838
  have fw_836 : h_831.2.1 qw 0 = w_836 := fw_836
  have bw_836 := hT.gi g_qw tt_8 (k := 0) rfl
  rw [fw_836] at bw_836
  have bw_836 : 0 ≤ w_836.toInt ∧ w_836.toInt ≤ 8 := bw_836
  have fw_837 : hx_col 8 h_831 ql 0 = w_837 := fw_837
  refine lv_pop hx hb dL_law_1240 rfl ?_
  refine lv_aload_n hx hb dL_law_1241 rfl (lv_at hl 1 rfl) ?_
  refine lv_aload_n hx hb dL_law_1242 rfl (lv_at hl 3 rfl) ?_
  refine lv_iload_n hx hb dL_law_1243 rfl (lv_at hl 0 rfl) ?_
  refine lv_iconst (v := 1) hx hb dL_law_1244 ?o22 ?_
  case o22 => decide
  refine lv_iadd hx hb dL_law_1245 ?_
  refine lv_topi (fun x_839 ex_839 => ?_)
  have zx_839 : x_839.toInt = i.toInt + 1 := ?o23
  case o23 =>
    rw [ex_839]
    refine i32_add rfl ?o24 ?o25 ?o26
    case o24 => decide
    case o25 => omega
    case o26 => omega
  obtain rfl : x_828 = x_839 := ex_828.trans ex_839.symm
  refine va_sld hx hb hX hbl hbA hW.2.2.2.1 (vp_in_iff.mpr ⟨?o27, ?o28⟩) dL_law_1246 ?_
  case o27 => omega
  case o28 => omega
  refine lv_topi (fun x_840 ex_840 => ?_)
  obtain rfl : x_829 = x_840 := ex_829.trans ex_840.symm
  have hTo := hT
  refine hx_goi (hx_runV (As := [.int x_829]) (rest := []) ⟨hx, hb, hml, hown, hts⟩ hW gm tt_10 (T := TX10) (N := 98) rfl (t_X10_list_2 l dC dI dA L_830 h_831 H.size am x_829 hT gm m_fou g_m_fou f_m_fou mh g_mh f_mh m_lst g_m_lst f_m_lst F_m_fou n_m_fou F_mh n_mh F_lst n_lst c0 f_m_claims lsd f_m_listed hHF) (cwV 1 hts (hx_gV kw_1717 kw_1714 kw_1715 kw_1716 kw_103) rfl rfl rfl (by decide +kernel) ⟨Nat.le_of_ble_eq_true rfl, Nat.le_of_ble_eq_true rfl⟩) rfl hl.1 rfl (Nat.le_of_ble_eq_true rfl) dL_law_1247 ⟨(show CC + 0 + 0 ≤ 600000 from ?o29), (show SS + 0 + 0 ≤ 7302250 from ?o30)⟩) hW (fun r_843 L_841 h_842 H locs p_844 hW => ?_)
  case o29 => omega
  case o30 => omega
  obtain ⟨⟨w_846, w_847, fw_846, fw_847, hr_845⟩, hT, hs⟩ := p_844
  replace hT : hx_T T_tb L_841 h_842 := hT
  replace hs : hx_S T_tb [(10, 90), (112, 0)] L_830 h_831 L_841 h_842 := hs
  replace f_qa := (hs.o gx trivial rfl).2.trans f_qa
  replace f_qp := (hs.o gx trivial rfl).2.trans f_qp
  replace f_qc := (hs.o gx trivial rfl).2.trans f_qc
  replace f_qh := (hs.o gx trivial rfl).2.trans f_qh
  replace f_qw := (hs.o gx trivial rfl).2.trans f_qw
  replace f_ql := (hs.o g_qw trivial rfl).2.trans f_ql
  replace f_m_now := (hs.o gm trivial rfl).1.trans f_m_now
  replace f_m_persons := (hs.o gm trivial rfl).1.trans f_m_persons
  replace f_m_claims := (hs.o gm trivial rfl).1.trans f_m_claims
  replace f_m_taped := (hs.o gm trivial rfl).1.trans f_m_taped
  replace f_m_acts := (hs.o gm trivial rfl).1.trans f_m_acts
  replace f_m_heardMany := (hs.o gm trivial rfl).1.trans f_m_heardMany
  replace f_m_lines := (hs.o gm trivial rfl).1.trans f_m_lines
  replace f_m_walkedMany := (hs.o gm trivial rfl).1.trans f_m_walkedMany
  replace f_m_payments := (hs.o gm trivial rfl).1.trans f_m_payments
  replace f_m_planMany := (hs.o gm trivial rfl).1.trans f_m_planMany
  replace f_x_now := (hs.o gx trivial rfl).1.trans f_x_now
  replace f_x_personCount := (hs.o gx trivial rfl).1.trans f_x_personCount
  replace f_x_claimCount := (hs.o gx trivial rfl).1.trans f_x_claimCount
  replace f_x_tapeLength := (hs.o gx trivial rfl).1.trans f_x_tapeLength
  replace f_x_actCount := (hs.o gx trivial rfl).1.trans f_x_actCount
  replace f_x_heardCount := (hs.o gx trivial rfl).1.trans f_x_heardCount
  replace f_mw := (hs.o gm trivial rfl).2.trans f_mw
  replace f_mr := (hs.o gm trivial rfl).2.trans f_mr
  replace f_mp := (hs.o gm trivial rfl).2.trans f_mp
  replace f_mn := (hs.o gm trivial rfl).2.trans f_mn
  replace f_ml := (hs.o gm trivial rfl).2.trans f_ml
  replace f_mh := (hs.o gm trivial rfl).2.trans f_mh
  replace f_mt := (hs.o gm trivial rfl).2.trans f_mt
  replace f_m_fou := (hs.o gm trivial rfl).2.trans f_m_fou
  replace f_qo_ln := (hs.o gx trivial rfl).2.trans f_qo_ln
  replace f_o_ln := (hs.o g_qo_ln trivial rfl).1.trans f_o_ln
  replace f_o_wkm := (hs.o g_qw trivial rfl).1.trans f_o_wkm
  replace f_qo_py := (hs.o gx trivial rfl).2.trans f_qo_py
  replace f_o_py := (hs.o g_qo_py trivial rfl).1.trans f_o_py
  replace f_qo_pmn := (hs.o gx trivial rfl).2.trans f_qo_pmn
  replace f_o_pmn := (hs.o g_qo_pmn trivial rfl).1.trans f_o_pmn
  replace f_b_of := (hs.o g_qo_ln trivial rfl).2.trans f_b_of
  replace f_m_of := (hs.o gm trivial rfl).2.trans f_m_of
  replace f_b_wf := (hs.o g_qo_ln trivial rfl).2.trans f_b_wf
  replace f_m_wf := (hs.o gm trivial rfl).2.trans f_m_wf
  replace f_b_df := (hs.o g_qo_ln trivial rfl).2.trans f_b_df
  replace f_m_df := (hs.o gm trivial rfl).2.trans f_m_df
  replace f_b_kf := (hs.o g_qo_ln trivial rfl).2.trans f_b_kf
  replace f_m_kf := (hs.o gm trivial rfl).2.trans f_m_kf
  replace f_b_sf := (hs.o g_qo_ln trivial rfl).2.trans f_b_sf
  replace f_m_sf := (hs.o gm trivial rfl).2.trans f_m_sf
  replace f_b_bf := (hs.o g_qo_ln trivial rfl).2.trans f_b_bf
  replace f_m_lst := (hs.o gm trivial rfl).2.trans f_m_lst
  replace f_qtp := (hs.o gx trivial rfl).2.trans f_qtp
  replace f_m_tp := (hs.o gm trivial rfl).2.trans f_m_tp
  replace f_m_dead := (hs.o gm trivial rfl).2.trans f_m_dead
  replace f_m_isj := (hs.o gm trivial rfl).2.trans f_m_isj
  replace f_m_dox := (hs.o gm trivial rfl).2.trans f_m_dox
  replace f_m_doy := (hs.o gm trivial rfl).2.trans f_m_doy
  replace f_qlt := (hs.o g_qw trivial rfl).2.trans f_qlt
  replace f_qlf := (hs.o g_qw trivial rfl).2.trans f_qlf
  replace f_m_wkd := (hs.o gm trivial rfl).2.trans f_m_wkd
  replace f_m_aga := (hs.o gm trivial rfl).2.trans f_m_aga
  replace f_qwo := (hs.o gx trivial rfl).2.trans f_qwo
  replace f_m_ad := (hs.o gm trivial rfl).2.trans f_m_ad
  replace f_m_by := (hs.o gm trivial rfl).2.trans f_m_by
  replace f_m_ho := (hs.o gm trivial rfl).2.trans f_m_ho
  replace f_m_fc := (hs.o gm trivial rfl).2.trans f_m_fc
  replace f_m_nt := (hs.o gm trivial rfl).2.trans f_m_nt
  replace f_m_wt := (hs.o gm trivial rfl).2.trans f_m_wt
  replace f_m_be := (hs.o gm trivial rfl).2.trans f_m_be
  replace f_m_bor := (hs.o gm trivial rfl).2.trans f_m_bor
  replace f_m_kin := (hs.o gm trivial rfl).2.trans f_m_kin
  replace f_m_sum := (hs.o gm trivial rfl).2.trans f_m_sum
  replace f_m_fro := (hs.o gm trivial rfl).2.trans f_m_fro
  replace f_m_fil := (hs.o gm trivial rfl).2.trans f_m_fil
  replace f_m_jud := (hs.o gm trivial rfl).2.trans f_m_jud
  replace f_m_ear := (hs.o gm trivial rfl).2.trans f_m_ear
  replace f_m_hds := (hs.o gm trivial rfl).2.trans f_m_hds
  replace f_m_ord := (hs.o gm trivial rfl).2.trans f_m_ord
  replace f_m_wkl := (hs.o gm trivial rfl).2.trans f_m_wkl
  replace f_m_owd := (hs.o gm trivial rfl).2.trans f_m_owd
  replace f_m_gds := (hs.o gm trivial rfl).2.trans f_m_gds
  replace f_m_szd := (hs.o gm trivial rfl).2.trans f_m_szd
  replace f_m_srv := (hs.o gm trivial rfl).2.trans f_m_srv
  replace f_y_p0 := (hs.o g_qo_py trivial rfl).2.trans f_y_p0
  replace f_m_p0 := (hs.o gm trivial rfl).2.trans f_m_p0
  replace f_y_p1 := (hs.o g_qo_py trivial rfl).2.trans f_y_p1
  replace f_m_p1 := (hs.o gm trivial rfl).2.trans f_m_p1
  replace f_y_p2 := (hs.o g_qo_py trivial rfl).2.trans f_y_p2
  replace f_m_p2 := (hs.o gm trivial rfl).2.trans f_m_p2
  replace f_y_p3 := (hs.o g_qo_py trivial rfl).2.trans f_y_p3
  replace f_m_p3 := (hs.o gm trivial rfl).2.trans f_m_p3
  replace f_y_p4 := (hs.o g_qo_py trivial rfl).2.trans f_y_p4
  replace f_m_p4 := (hs.o gm trivial rfl).2.trans f_m_p4
  replace f_qrg9 := (hs.o gx trivial rfl).2.trans f_qrg9
  replace f_y_ls := (hs.o g_qrg9 trivial rfl).2.trans f_y_ls
  replace f_m_rl := (hs.o gm trivial rfl).2.trans f_m_rl
  replace ffv_824 := (hs.o g_qrg9 trivial rfl).1.trans ffv_824
  replace ffv_825 := (hs.o gm trivial rfl).1.trans ffv_825
  replace ffv_826 := (hs.o gm trivial rfl).1.trans ffv_826
  replace f_y_pc := (hs.o g_qo_pmn trivial rfl).2.trans f_y_pc
  replace f_m_pc := (hs.o gm trivial rfl).2.trans f_m_pc
  replace f_y_pw := (hs.o g_qo_pmn trivial rfl).2.trans f_y_pw
  replace f_m_pw := (hs.o gm trivial rfl).2.trans f_m_pw
  replace f_y_pk := (hs.o g_qo_pmn trivial rfl).2.trans f_y_pk
  replace f_m_pk := (hs.o gm trivial rfl).2.trans f_m_pk
  replace fw_836 := (hs.o g_qw trivial rfl).1.trans fw_836
  replace pf_qa : ∀ j : Nat, (j : Int) < (h_842.2.1 ax 6).toInt → h_842.2.2 qa j ≠ none := by
    intro j hj; rw [(hs.o gx trivial rfl).1] at hj; rw [(hs.a g_qa rfl j).2]; exact pf_qa j hj
  replace pf_qp : ∀ j : Nat, (j : Int) < (h_842.2.1 ax 8).toInt → h_842.2.2 qp j ≠ none := by
    intro j hj; rw [(hs.o gx trivial rfl).1] at hj; rw [(hs.a g_qp rfl j).2]; exact pf_qp j hj
  replace pf_qc : ∀ j : Nat, (j : Int) < (h_842.2.1 ax 11).toInt → h_842.2.2 qc j ≠ none := by
    intro j hj; rw [(hs.o gx trivial rfl).1] at hj; rw [(hs.a g_qc rfl j).2]; exact pf_qc j hj
  replace pf_qh : ∀ j : Nat, (j : Int) < (h_842.2.1 ax 13).toInt → h_842.2.2 qh j ≠ none := by
    intro j hj; rw [(hs.o gx trivial rfl).1] at hj; rw [(hs.a g_qh rfl j).2]; exact pf_qh j hj
  replace pf_835 : ∀ j : Nat, (j : Int) < (h_842.2.1 qw 0).toInt → h_842.2.2 ql j ≠ none := by
    intro j hj; rw [(hs.o g_qw trivial rfl).1] at hj; rw [(hs.a g_ql rfl j).2]; exact pf_835 j hj
  replace cl_dead : hx_col 40 h_842 qp 7 = c_dead := (hx_col_S hs hTo g_qp tt_44 tt_4 rfl rfl).trans cl_dead
  replace cl_isj : hx_col 40 h_842 qp 8 = c_isj := (hx_col_S hs hTo g_qp tt_44 tt_4 rfl rfl).trans cl_isj
  replace cl_dox : hx_col 40 h_842 qp 5 = c_dox := (hx_col_S hs hTo g_qp tt_44 tt_4 rfl rfl).trans cl_dox
  replace cl_doy : hx_col 40 h_842 qp 6 = c_doy := (hx_col_S hs hTo g_qp tt_44 tt_4 rfl rfl).trans cl_doy
  replace cl_fou : hx_col 100 h_842 qc 10 = c_fou := (hx_col_S hs hTo g_qc tt_45 tt_2 rfl rfl).trans cl_fou
  replace cl_tri : hx_col 100 h_842 qc 9 = c_tri := (hx_col_S hs hTo g_qc tt_45 tt_2 rfl rfl).trans cl_tri
  replace cl_bor : hx_col 40 h_842 qp 1 = F_bor := (hx_col_S hs hTo g_qp tt_44 tt_4 rfl rfl).trans cl_bor
  replace cl_kin : hx_col 40 h_842 qp 2 = F_kin := (hx_col_S hs hTo g_qp tt_44 tt_4 rfl rfl).trans cl_kin
  replace cl_sum : hx_col 100 h_842 qc 6 = F_sum := (hx_col_S hs hTo g_qc tt_45 tt_2 rfl rfl).trans cl_sum
  replace cl_fro : hx_col 100 h_842 qc 7 = F_fro := (hx_col_S hs hTo g_qc tt_45 tt_2 rfl rfl).trans cl_fro
  replace cl_fil : hx_col 100 h_842 qc 8 = F_fil := (hx_col_S hs hTo g_qc tt_45 tt_2 rfl rfl).trans cl_fil
  replace cl_hea : hx_col 100 h_842 qc 11 = F_mh := (hx_col_S hs hTo g_qc tt_45 tt_2 rfl rfl).trans cl_hea
  replace cl_jud : hx_col 100 h_842 qc 12 = F_jud := (hx_col_S hs hTo g_qc tt_45 tt_2 rfl rfl).trans cl_jud
  replace cl_ear : hx_col 40 h_842 qp 3 = F_ear := (hx_col_S hs hTo g_qp tt_44 tt_4 rfl rfl).trans cl_ear
  replace cl_hds : hx_col 40 h_842 qp 4 = F_hds := (hx_col_S hs hTo g_qp tt_44 tt_4 rfl rfl).trans cl_hds
  replace cl_ord : hx_col 100 h_842 qc 13 = F_ord := (hx_col_S hs hTo g_qc tt_45 tt_2 rfl rfl).trans cl_ord
  replace cl_wkl : hx_col 100 h_842 qc 14 = F_wkl := (hx_col_S hs hTo g_qc tt_45 tt_2 rfl rfl).trans cl_wkl
  replace cl_owd : hx_col 100 h_842 qc 15 = F_owd := (hx_col_S hs hTo g_qc tt_45 tt_2 rfl rfl).trans cl_owd
  replace cl_gds : hx_col 100 h_842 qc 17 = F_gds := (hx_col_S hs hTo g_qc tt_45 tt_2 rfl rfl).trans cl_gds
  replace cl_szd : hx_col 100 h_842 qc 16 = F_szd := (hx_col_S hs hTo g_qc tt_45 tt_2 rfl rfl).trans cl_szd
  replace cl_srv : hx_col 100 h_842 qc 18 = F_srv := (hx_col_S hs hTo g_qc tt_45 tt_2 rfl rfl).trans cl_srv
  replace fw_837 : hx_col 8 h_842 ql 0 = w_837 := (hx_col_S hs hTo g_ql tt_40 tt_2 rfl rfl).trans fw_837
  replace nu_qp : hx_num 40 h_842 qp 0 (np.toInt) := hx_num_S hs hTo g_qp tt_44 tt_4 rfl rfl nu_qp
  replace nu_qc : hx_num 100 h_842 qc 0 (c0.toInt) := hx_num_S hs hTo g_qc tt_45 tt_2 rfl rfl nu_qc
  replace sb_838 : hx_LQ 8 100 h_842 ql qc := hx_LQ_S hs g_ql g_qc rfl rfl sb_838
  replace hDF : hw_DF h_842 qc qp 2 F_aga c0.toInt := hw_DF_S hs hTo g_qc g_qp tt_45 tt_2 rfl rfl rfl hDF
  replace hRA9 : hv_RA h_842 qa qwo a0.toInt A9 := hv_RA_S hs hTo g_qa g_qwo tt_43 tt_0 rfl rfl rfl rfl rfl rfl ?o31 hRA9
  case o31 => omega
  replace hDP : hw_DF h_842 qc qp 1 F_by c0.toInt := hw_DF_S hs hTo g_qc g_qp tt_45 tt_2 rfl rfl rfl hDP
  replace hAC9 : hv_AC h_842 qc F_ml c0.toInt A9 := hv_AC_S hs hTo g_qc tt_45 tt_2 rfl tt_0 rfl rfl rfl rfl rfl rfl rfl hAC9
  replace hFX : hv_FX 8 4 h_842 qc cF9L c0.toInt := hv_FX_S hs hTo g_qc tt_45 tt_2 rfl rfl rfl rfl hFX
  replace hBX : hv_FX 3 5 h_842 qc F_be c0.toInt := hv_FX_S hs hTo g_qc tt_45 tt_2 rfl rfl rfl rfl hBX
  replace hHL : hv_HL h_842 qh qc F_ho m0.toInt c0.toInt := hv_HL_S hs g_qh g_qc rfl rfl hHL
  replace n_mw : h_842.2.1 mw = F_mw := (funext fun j => (hs.a g_mw rfl j).1).trans n_mw
  replace n_mr : h_842.2.1 mr = F_mr := (funext fun j => (hs.a g_mr rfl j).1).trans n_mr
  replace n_mp : h_842.2.1 mp = F_mp := (funext fun j => (hs.a g_mp rfl j).1).trans n_mp
  replace n_mn : h_842.2.1 mn = F_mn := (funext fun j => (hs.a g_mn rfl j).1).trans n_mn
  replace n_ml : h_842.2.1 ml = F_ml := (funext fun j => (hs.a g_ml rfl j).1).trans n_ml
  replace n_mh : h_842.2.1 mh = F_mh := (funext fun j => (hs.a g_mh rfl j).1).trans n_mh
  replace n_mt : h_842.2.1 mt = F_mt := (funext fun j => (hs.a g_mt rfl j).1).trans n_mt
  replace n_m_fou : h_842.2.1 m_fou = F_m_fou := (funext fun j => (hs.a g_m_fou rfl j).1).trans n_m_fou
  replace n_b_of : h_842.2.1 b_of = B_of := (funext fun j => (hs.a g_b_of rfl j).1).trans n_b_of
  replace n_m_of : h_842.2.1 m_of = F_of := (funext fun j => (hs.a g_m_of rfl j).1).trans n_m_of
  replace n_b_wf : h_842.2.1 b_wf = B_wf := (funext fun j => (hs.a g_b_wf rfl j).1).trans n_b_wf
  replace n_m_wf : h_842.2.1 m_wf = F_wf := (funext fun j => (hs.a g_m_wf rfl j).1).trans n_m_wf
  replace n_b_df : h_842.2.1 b_df = B_df := (funext fun j => (hs.a g_b_df rfl j).1).trans n_b_df
  replace n_m_df : h_842.2.1 m_df = F_df := (funext fun j => (hs.a g_m_df rfl j).1).trans n_m_df
  replace n_b_kf : h_842.2.1 b_kf = B_kf := (funext fun j => (hs.a g_b_kf rfl j).1).trans n_b_kf
  replace n_m_kf : h_842.2.1 m_kf = F_kf := (funext fun j => (hs.a g_m_kf rfl j).1).trans n_m_kf
  replace n_b_sf : h_842.2.1 b_sf = B_sf := (funext fun j => (hs.a g_b_sf rfl j).1).trans n_b_sf
  replace n_m_sf : h_842.2.1 m_sf = F_sf := (funext fun j => (hs.a g_m_sf rfl j).1).trans n_m_sf
  replace n_b_bf : h_842.2.1 b_bf = bfL := (funext fun j => (hs.a g_b_bf rfl j).1).trans n_b_bf
  replace n_tp : h_842.2.1 m_tp = F_tp := (funext fun j => (hs.a g_m_tp rfl j).1).trans n_tp
  replace n_qtp : h_842.2.1 qtp = F_tp := (funext fun j => (hs.a g_qtp rfl j).1).trans n_qtp
  replace n_dead : h_842.2.1 m_dead = F_dead := (funext fun j => (hs.a g_m_dead rfl j).1).trans n_dead
  replace n_isj : h_842.2.1 m_isj = F_isj := (funext fun j => (hs.a g_m_isj rfl j).1).trans n_isj
  replace n_dox : h_842.2.1 m_dox = F_dox := (funext fun j => (hs.a g_m_dox rfl j).1).trans n_dox
  replace n_doy : h_842.2.1 m_doy = F_doy := (funext fun j => (hs.a g_m_doy rfl j).1).trans n_doy
  replace n_qlt : h_842.2.1 qlt = F_qlt := (funext fun j => (hs.a g_qlt rfl j).1).trans n_qlt
  replace n_m_wkd : h_842.2.1 m_wkd = F_m_wkd := (funext fun j => (hs.a g_m_wkd rfl j).1).trans n_m_wkd
  replace n_aga : h_842.2.1 m_aga = F_aga := (funext fun j => (hs.a g_m_aga rfl j).1).trans n_aga
  replace n_ad : h_842.2.1 m_ad = F_ad := (funext fun j => (hs.a g_m_ad rfl j).1).trans n_ad
  replace n_by : h_842.2.1 m_by = F_by := (funext fun j => (hs.a g_m_by rfl j).1).trans n_by
  replace n_ho : h_842.2.1 m_ho = F_ho := (funext fun j => (hs.a g_m_ho rfl j).1).trans n_ho
  replace n_fc : h_842.2.1 m_fc = F_fc := (funext fun j => (hs.a g_m_fc rfl j).1).trans n_fc
  replace n_nt : h_842.2.1 m_nt = F_nt := (funext fun j => (hs.a g_m_nt rfl j).1).trans n_nt
  replace n_wt : h_842.2.1 m_wt = F_wt := (funext fun j => (hs.a g_m_wt rfl j).1).trans n_wt
  replace n_be : h_842.2.1 m_be = F_be := (funext fun j => (hs.a g_m_be rfl j).1).trans n_be
  replace n_bor : h_842.2.1 m_bor = F_bor := (funext fun j => (hs.a g_m_bor rfl j).1).trans n_bor
  replace n_kin : h_842.2.1 m_kin = F_kin := (funext fun j => (hs.a g_m_kin rfl j).1).trans n_kin
  replace n_sum : h_842.2.1 m_sum = F_sum := (funext fun j => (hs.a g_m_sum rfl j).1).trans n_sum
  replace n_fro : h_842.2.1 m_fro = F_fro := (funext fun j => (hs.a g_m_fro rfl j).1).trans n_fro
  replace n_fil : h_842.2.1 m_fil = F_fil := (funext fun j => (hs.a g_m_fil rfl j).1).trans n_fil
  replace n_jud : h_842.2.1 m_jud = F_jud := (funext fun j => (hs.a g_m_jud rfl j).1).trans n_jud
  replace n_ear : h_842.2.1 m_ear = F_ear := (funext fun j => (hs.a g_m_ear rfl j).1).trans n_ear
  replace n_hds : h_842.2.1 m_hds = F_hds := (funext fun j => (hs.a g_m_hds rfl j).1).trans n_hds
  replace n_ord : h_842.2.1 m_ord = F_ord := (funext fun j => (hs.a g_m_ord rfl j).1).trans n_ord
  replace n_wkl : h_842.2.1 m_wkl = F_wkl := (funext fun j => (hs.a g_m_wkl rfl j).1).trans n_wkl
  replace n_owd : h_842.2.1 m_owd = F_owd := (funext fun j => (hs.a g_m_owd rfl j).1).trans n_owd
  replace n_gds : h_842.2.1 m_gds = F_gds := (funext fun j => (hs.a g_m_gds rfl j).1).trans n_gds
  replace n_szd : h_842.2.1 m_szd = F_szd := (funext fun j => (hs.a g_m_szd rfl j).1).trans n_szd
  replace n_srv : h_842.2.1 m_srv = F_srv := (funext fun j => (hs.a g_m_srv rfl j).1).trans n_srv
  replace n_p0 : h_842.2.1 m_p0 = F_p0 := (funext fun j => (hs.a g_m_p0 rfl j).1).trans n_p0
  replace n_y_p0 : h_842.2.1 y_p0 = F_p0 := (funext fun j => (hs.a g_y_p0 rfl j).1).trans n_y_p0
  replace n_p1 : h_842.2.1 m_p1 = F_p1 := (funext fun j => (hs.a g_m_p1 rfl j).1).trans n_p1
  replace n_y_p1 : h_842.2.1 y_p1 = F_p1 := (funext fun j => (hs.a g_y_p1 rfl j).1).trans n_y_p1
  replace n_p2 : h_842.2.1 m_p2 = F_p2 := (funext fun j => (hs.a g_m_p2 rfl j).1).trans n_p2
  replace n_y_p2 : h_842.2.1 y_p2 = F_p2 := (funext fun j => (hs.a g_y_p2 rfl j).1).trans n_y_p2
  replace n_p3 : h_842.2.1 m_p3 = F_p3 := (funext fun j => (hs.a g_m_p3 rfl j).1).trans n_p3
  replace n_y_p3 : h_842.2.1 y_p3 = F_p3 := (funext fun j => (hs.a g_y_p3 rfl j).1).trans n_y_p3
  replace n_p4 : h_842.2.1 m_p4 = F_p4 := (funext fun j => (hs.a g_m_p4 rfl j).1).trans n_p4
  replace n_y_p4 : h_842.2.1 y_p4 = F_p4 := (funext fun j => (hs.a g_y_p4 rfl j).1).trans n_y_p4
  replace n_y_ls : h_842.2.1 y_ls = F_y_ls := (funext fun j => (hs.a g_y_ls rfl j).1).trans n_y_ls
  replace n_m_rl : h_842.2.1 m_rl = F_m_rl := (funext fun j => (hs.a g_m_rl rfl j).1).trans n_m_rl
  replace n_y_pc : h_842.2.1 y_pc = F_y_pc := (funext fun j => (hs.a g_y_pc rfl j).1).trans n_y_pc
  replace n_m_pc : h_842.2.1 m_pc = F_m_pc := (funext fun j => (hs.a g_m_pc rfl j).1).trans n_m_pc
  replace n_y_pw : h_842.2.1 y_pw = F_y_pw := (funext fun j => (hs.a g_y_pw rfl j).1).trans n_y_pw
  replace n_m_pw : h_842.2.1 m_pw = F_m_pw := (funext fun j => (hs.a g_m_pw rfl j).1).trans n_m_pw
  replace n_y_pk : h_842.2.1 y_pk = F_y_pk := (funext fun j => (hs.a g_y_pk rfl j).1).trans n_y_pk
  replace n_m_pk : h_842.2.1 m_pk = F_m_pk := (funext fun j => (hs.a g_m_pk rfl j).1).trans n_m_pk
  replace gx := gx.S hs
  replace gm := gm.S hs
  replace g_qa := g_qa.S hs
  replace g_qp := g_qp.S hs
  replace g_qc := g_qc.S hs
  replace g_qh := g_qh.S hs
  replace g_qw := g_qw.S hs
  replace g_ql := g_ql.S hs
  replace g_mw := g_mw.S hs
  replace g_mr := g_mr.S hs
  replace g_mp := g_mp.S hs
  replace g_mn := g_mn.S hs
  replace g_ml := g_ml.S hs
  replace g_mh := g_mh.S hs
  replace g_mt := g_mt.S hs
  replace g_m_fou := g_m_fou.S hs
  replace g_qo_ln := g_qo_ln.S hs
  replace g_qo_py := g_qo_py.S hs
  replace g_qo_pmn := g_qo_pmn.S hs
  replace g_b_of := g_b_of.S hs
  replace g_m_of := g_m_of.S hs
  replace g_b_wf := g_b_wf.S hs
  replace g_m_wf := g_m_wf.S hs
  replace g_b_df := g_b_df.S hs
  replace g_m_df := g_m_df.S hs
  replace g_b_kf := g_b_kf.S hs
  replace g_m_kf := g_m_kf.S hs
  replace g_b_sf := g_b_sf.S hs
  replace g_m_sf := g_m_sf.S hs
  replace g_b_bf := g_b_bf.S hs
  replace g_m_lst := g_m_lst.S hs
  replace g_qtp := g_qtp.S hs
  replace g_m_tp := g_m_tp.S hs
  replace g_m_dead := g_m_dead.S hs
  replace g_m_isj := g_m_isj.S hs
  replace g_m_dox := g_m_dox.S hs
  replace g_m_doy := g_m_doy.S hs
  replace g_qlt := g_qlt.S hs
  replace g_qlf := g_qlf.S hs
  replace g_m_wkd := g_m_wkd.S hs
  replace g_m_aga := g_m_aga.S hs
  replace g_qwo := g_qwo.S hs
  replace g_m_ad := g_m_ad.S hs
  replace g_m_by := g_m_by.S hs
  replace g_m_ho := g_m_ho.S hs
  replace g_m_fc := g_m_fc.S hs
  replace g_m_nt := g_m_nt.S hs
  replace g_m_wt := g_m_wt.S hs
  replace g_m_be := g_m_be.S hs
  replace g_m_bor := g_m_bor.S hs
  replace g_m_kin := g_m_kin.S hs
  replace g_m_sum := g_m_sum.S hs
  replace g_m_fro := g_m_fro.S hs
  replace g_m_fil := g_m_fil.S hs
  replace g_m_jud := g_m_jud.S hs
  replace g_m_ear := g_m_ear.S hs
  replace g_m_hds := g_m_hds.S hs
  replace g_m_ord := g_m_ord.S hs
  replace g_m_wkl := g_m_wkl.S hs
  replace g_m_owd := g_m_owd.S hs
  replace g_m_gds := g_m_gds.S hs
  replace g_m_szd := g_m_szd.S hs
  replace g_m_srv := g_m_srv.S hs
  replace g_y_p0 := g_y_p0.S hs
  replace g_m_p0 := g_m_p0.S hs
  replace g_y_p1 := g_y_p1.S hs
  replace g_m_p1 := g_m_p1.S hs
  replace g_y_p2 := g_y_p2.S hs
  replace g_m_p2 := g_m_p2.S hs
  replace g_y_p3 := g_y_p3.S hs
  replace g_m_p3 := g_m_p3.S hs
  replace g_y_p4 := g_y_p4.S hs
  replace g_m_p4 := g_m_p4.S hs
  replace g_qrg9 := g_qrg9.S hs
  replace g_y_ls := g_y_ls.S hs
  replace g_m_rl := g_m_rl.S hs
  replace g_y_pc := g_y_pc.S hs
  replace g_m_pc := g_m_pc.S hs
  replace g_y_pw := g_y_pw.S hs
  replace g_m_pw := g_m_pw.S hs
  replace g_y_pk := g_y_pk.S hs
  replace g_m_pk := g_m_pk.S hs
  have fw_846 : h_842.2.1 am 90 = w_846 := fw_846
  have bw_846 := hT.gi gm tt_10 (k := 90) rfl
  rw [fw_846] at bw_846
  have bw_846 : 0 ≤ w_846.toInt ∧ w_846.toInt ≤ 8 := bw_846
  have fw_847 : h_842.2.1 m_lst = w_847 := fw_847
  refine lv_pop hx hb dL_law_1250 rfl ?_
  refine lv_goto (tgt := 1379) hx hb dL_law_1251 ?o32 ?_
  case o32 => decide
  obtain ⟨heq, hq_lsd, hq_lst⟩ := hx_wk (by omega) (by omega) eq_fou eq_lst hr_834 hr_845
  refine W.widen (k := CC + 3) (n := SS + 179) ?o33 ?o34 ?_
  case o33 => omega
  case o34 => omega
  refine kk L_841 h_842 H locs ls hW ⟨hT, gx, gm, ⟨f_x_now.trans f_m_now.symm, f_x_personCount.trans f_m_persons.symm, f_x_claimCount.trans f_m_claims.symm, f_x_tapeLength.trans f_m_taped.symm, f_x_actCount.trans f_m_acts.symm, f_x_heardCount.trans f_m_heardMany.symm, hx_ob f_qo_ln (f_o_ln.trans f_m_lines.symm), hx_ob f_qw ((fw_836.trans hq_lsd).trans fw_846.symm), hx_ob f_qw (f_o_wkm.trans f_m_walkedMany.symm), hx_ob f_qo_py (f_o_py.trans f_m_payments.symm), hx_ob f_qo_pmn (f_o_pmn.trans f_m_planMany.symm), hx_ob f_qp ?o35, hx_ob f_qc ?o36, (fun b a r hb ha hr => ?o37), (fun b a r hb ha hr => ?o38), (fun b a r hb ha hr => ?o39), (fun b a r hb ha hr => ?o40), (fun b a r hb ha hr => ?o41), (fun b a r hb ha hr => ?o42), (fun w q c hw hq hc => ?o43), (fun w q r hw hq hr => ?o44), (fun w q r hw hq hr => ?o45), (fun c q a hc hq ha => ?o46), (fun q r hq hr => ?o47), (fun q w a b c d e p hq hw ha hb hc hd he hp => ?o48), (fun c q a hc hq ha => ?o49), (fun q c a hq hc ha => ?o50), (fun a b ha hb => ?o51), (fun c a b d e f hc ha hb hd he hf => ?o52), (fun c a hc ha => ?o53), hx_ob2 f_qp f_m_bor (cl_bor.trans n_bor.symm), hx_ob2 f_qp f_m_kin (cl_kin.trans n_kin.symm), hx_ob2 f_qc f_m_sum (cl_sum.trans n_sum.symm), hx_ob2 f_qc f_m_fro (cl_fro.trans n_fro.symm), hx_ob2 f_qc f_m_fil (cl_fil.trans n_fil.symm), hx_ob2 f_qc f_mh (cl_hea.trans n_mh.symm), hx_ob2 f_qc f_m_jud (cl_jud.trans n_jud.symm), hx_ob2 f_qp f_m_ear (cl_ear.trans n_ear.symm), hx_ob2 f_qp f_m_hds (cl_hds.trans n_hds.symm), hx_ob2 f_qc f_m_ord (cl_ord.trans n_ord.symm), hx_ob2 f_qc f_m_wkl (cl_wkl.trans n_wkl.symm), hx_ob2 f_qc f_m_owd (cl_owd.trans n_owd.symm), hx_ob2 f_qc f_m_gds (cl_gds.trans n_gds.symm), hx_ob2 f_qc f_m_szd (cl_szd.trans n_szd.symm), hx_ob2 f_qc f_m_srv (cl_srv.trans n_srv.symm), (fun p q r hp hq hr => ?o54), (fun p q r hp hq hr => ?o55), (fun p q r hp hq hr => ?o56), (fun p q r hp hq hr => ?o57), (fun p q r hp hq hr => ?o58), (fun p hp => ?o59), (fun p q r hp hq hr => ?o60), (fun p a b c d e f hp ha hb hc hd he hf => ?o61), hx_ob2 f_qp f_m_dead ?o62, hx_ob2 f_qp f_m_isj ?o63, hx_ob2 f_qp f_m_dox ?o64, hx_ob2 f_qp f_m_doy ?o65, hx_ob2 f_qc f_m_fou ?o66, hx_ob2 f_qc f_mt ?o67, trivial⟩, ⟨hx_ob f_qa pf_qa, hx_ob f_qp pf_qp, hx_ob f_qc pf_qc, hx_ob f_qh pf_qh, (fun w q hw hq => ?o68)⟩, ⟨hx_ob f_mw ?o69, hx_ob f_mr ?o70, hx_ob2 f_mp f_mn ?o71, hx_ob f_ml ?o72, hx_ob f_mh ?o73, hx_ob f_mt ?o74, hx_ob2 f_mh f_m_fou ?o76⟩⟩ hl
  case o35 =>
    rw [f_x_personCount]
    exact nu_qp
  case o36 =>
    rw [f_x_claimCount]
    exact nu_qc
  case o37 =>
    obtain rfl : qo_ln = b := Option.some.inj (f_qo_ln.symm.trans hb)
    obtain rfl : b_of = a := Option.some.inj (f_b_of.symm.trans ha)
    obtain rfl : m_of = r := Option.some.inj (f_m_of.symm.trans hr)
    rw [n_b_of, n_m_of, f_o_ln]
    exact eb_of
  case o38 =>
    obtain rfl : qo_ln = b := Option.some.inj (f_qo_ln.symm.trans hb)
    obtain rfl : b_wf = a := Option.some.inj (f_b_wf.symm.trans ha)
    obtain rfl : m_wf = r := Option.some.inj (f_m_wf.symm.trans hr)
    rw [n_b_wf, n_m_wf, f_o_ln]
    exact eb_wf
  case o39 =>
    obtain rfl : qo_ln = b := Option.some.inj (f_qo_ln.symm.trans hb)
    obtain rfl : b_df = a := Option.some.inj (f_b_df.symm.trans ha)
    obtain rfl : m_df = r := Option.some.inj (f_m_df.symm.trans hr)
    rw [n_b_df, n_m_df, f_o_ln]
    exact eb_df
  case o40 =>
    obtain rfl : qo_ln = b := Option.some.inj (f_qo_ln.symm.trans hb)
    obtain rfl : b_kf = a := Option.some.inj (f_b_kf.symm.trans ha)
    obtain rfl : m_kf = r := Option.some.inj (f_m_kf.symm.trans hr)
    rw [n_b_kf, n_m_kf, f_o_ln]
    exact eb_kf
  case o41 =>
    obtain rfl : qo_ln = b := Option.some.inj (f_qo_ln.symm.trans hb)
    obtain rfl : b_sf = a := Option.some.inj (f_b_sf.symm.trans ha)
    obtain rfl : m_sf = r := Option.some.inj (f_m_sf.symm.trans hr)
    rw [n_b_sf, n_m_sf, f_o_ln]
    exact eb_sf
  case o42 =>
    obtain rfl : qo_ln = b := Option.some.inj (f_qo_ln.symm.trans hb)
    obtain rfl : b_df = a := Option.some.inj (f_b_df.symm.trans ha)
    obtain rfl : b_bf = r := Option.some.inj (f_b_bf.symm.trans hr)
    rw [n_b_df, n_b_bf, f_o_ln]
    exact ⟨hBD, hDY⟩
  case o43 =>
    obtain rfl : qw = w := Option.some.inj (f_qw.symm.trans hw)
    obtain rfl : ql = q := Option.some.inj (f_ql.symm.trans hq)
    obtain rfl : qc = c := Option.some.inj (f_qc.symm.trans hc)
    exact sb_838
  case o44 =>
    obtain rfl : qw = w := Option.some.inj (f_qw.symm.trans hw)
    obtain rfl : ql = q := Option.some.inj (f_ql.symm.trans hq)
    obtain rfl : m_lst = r := Option.some.inj (f_m_lst.symm.trans hr)
    rw [fw_837, fw_847]
    exact hq_lst
  case o45 =>
    obtain rfl : qw = w := Option.some.inj (f_qw.symm.trans hw)
    obtain rfl : qlt = q := Option.some.inj (f_qlt.symm.trans hq)
    obtain rfl : m_wkd = r := Option.some.inj (f_m_wkd.symm.trans hr)
    rw [n_qlt, n_m_wkd, f_o_wkm]
    exact eb_wkd
  case o46 =>
    obtain rfl : qc = c := Option.some.inj (f_qc.symm.trans hc)
    obtain rfl : qp = q := Option.some.inj (f_qp.symm.trans hq)
    obtain rfl : m_aga = a := Option.some.inj (f_m_aga.symm.trans ha)
    rw [n_aga, f_x_claimCount]
    exact hw_DF_e hDF rfl rfl
  case o47 =>
    obtain rfl : qtp = q := Option.some.inj (f_qtp.symm.trans hq)
    obtain rfl : m_tp = r := Option.some.inj (f_m_tp.symm.trans hr)
    exact n_qtp.trans n_tp.symm
  case o48 =>
    obtain rfl : qa = q := Option.some.inj (f_qa.symm.trans hq)
    obtain rfl : qwo = w := Option.some.inj (f_qwo.symm.trans hw)
    obtain rfl : m_ad = a := Option.some.inj (f_m_ad.symm.trans ha)
    obtain rfl : mr = b := Option.some.inj (f_mr.symm.trans hb)
    obtain rfl : mn = c := Option.some.inj (f_mn.symm.trans hc)
    obtain rfl : mp = d := Option.some.inj (f_mp.symm.trans hd)
    obtain rfl : qc = e := Option.some.inj (f_qc.symm.trans he)
    obtain rfl : ml = p := Option.some.inj (f_ml.symm.trans hp)
    exact ⟨_, by rw [f_x_actCount]; exact hRA9, by rw [f_x_actCount, n_ad, n_mr, n_mn, n_mp]; exact hCA9, by rw [n_ml, f_x_claimCount]; exact hv_AC_e hAC9 rfl rfl rfl, hAB⟩
  case o49 =>
    obtain rfl : qc = c := Option.some.inj (f_qc.symm.trans hc)
    obtain rfl : qp = q := Option.some.inj (f_qp.symm.trans hq)
    obtain rfl : m_by = a := Option.some.inj (f_m_by.symm.trans ha)
    rw [n_by, f_x_claimCount]
    exact hw_DF_e hDP rfl rfl
  case o50 =>
    obtain rfl : qh = q := Option.some.inj (f_qh.symm.trans hq)
    obtain rfl : qc = c := Option.some.inj (f_qc.symm.trans hc)
    obtain rfl : m_ho = a := Option.some.inj (f_m_ho.symm.trans ha)
    rw [n_ho, f_x_heardCount, f_x_claimCount]
    exact hv_HL_e hHL rfl rfl rfl
  case o51 =>
    obtain rfl : m_ho = a := Option.some.inj (f_m_ho.symm.trans ha)
    obtain rfl : mh = b := Option.some.inj (f_mh.symm.trans hb)
    rw [n_ho, n_mh, f_m_heardMany, f_m_claims]
    exact hHO9
  case o52 =>
    obtain rfl : qc = c := Option.some.inj (f_qc.symm.trans hc)
    obtain rfl : m_fc = a := Option.some.inj (f_m_fc.symm.trans ha)
    obtain rfl : m_nt = b := Option.some.inj (f_m_nt.symm.trans hb)
    obtain rfl : m_wt = d := Option.some.inj (f_m_wt.symm.trans hd)
    obtain rfl : m_sum = e := Option.some.inj (f_m_sum.symm.trans he)
    obtain rfl : mh = f := Option.some.inj (f_mh.symm.trans hf)
    exact ⟨cF9L, by rw [f_x_claimCount]; exact hFX, by rw [n_fc, n_nt, n_wt, n_sum, n_mh, f_x_claimCount]; exact hFR9⟩
  case o53 =>
    obtain rfl : qc = c := Option.some.inj (f_qc.symm.trans hc)
    obtain rfl : m_be = a := Option.some.inj (f_m_be.symm.trans ha)
    rw [n_be, f_x_claimCount]
    exact hv_FX_e hBX rfl rfl
  case o54 =>
    obtain rfl : qo_py = p := Option.some.inj (f_qo_py.symm.trans hp)
    obtain rfl : y_p0 = q := Option.some.inj (f_y_p0.symm.trans hq)
    obtain rfl : m_p0 = r := Option.some.inj (f_m_p0.symm.trans hr)
    exact n_y_p0.trans n_p0.symm
  case o55 =>
    obtain rfl : qo_py = p := Option.some.inj (f_qo_py.symm.trans hp)
    obtain rfl : y_p1 = q := Option.some.inj (f_y_p1.symm.trans hq)
    obtain rfl : m_p1 = r := Option.some.inj (f_m_p1.symm.trans hr)
    exact n_y_p1.trans n_p1.symm
  case o56 =>
    obtain rfl : qo_py = p := Option.some.inj (f_qo_py.symm.trans hp)
    obtain rfl : y_p2 = q := Option.some.inj (f_y_p2.symm.trans hq)
    obtain rfl : m_p2 = r := Option.some.inj (f_m_p2.symm.trans hr)
    exact n_y_p2.trans n_p2.symm
  case o57 =>
    obtain rfl : qo_py = p := Option.some.inj (f_qo_py.symm.trans hp)
    obtain rfl : y_p3 = q := Option.some.inj (f_y_p3.symm.trans hq)
    obtain rfl : m_p3 = r := Option.some.inj (f_m_p3.symm.trans hr)
    exact n_y_p3.trans n_p3.symm
  case o58 =>
    obtain rfl : qo_py = p := Option.some.inj (f_qo_py.symm.trans hp)
    obtain rfl : y_p4 = q := Option.some.inj (f_y_p4.symm.trans hq)
    obtain rfl : m_p4 = r := Option.some.inj (f_m_p4.symm.trans hr)
    exact n_y_p4.trans n_p4.symm
  case o59 =>
    obtain rfl : qrg9 = p := Option.some.inj (f_qrg9.symm.trans hp)
    rw [ffv_824, ffv_825, ffv_826]
    exact hNQ9
  case o60 =>
    obtain rfl : qrg9 = p := Option.some.inj (f_qrg9.symm.trans hp)
    obtain rfl : y_ls = q := Option.some.inj (f_y_ls.symm.trans hq)
    obtain rfl : m_rl = r := Option.some.inj (f_m_rl.symm.trans hr)
    rw [n_y_ls, n_m_rl, ffv_824]
    exact hRL9
  case o61 =>
    obtain rfl : qo_pmn = p := Option.some.inj (f_qo_pmn.symm.trans hp)
    obtain rfl : y_pc = a := Option.some.inj (f_y_pc.symm.trans ha)
    obtain rfl : y_pw = b := Option.some.inj (f_y_pw.symm.trans hb)
    obtain rfl : y_pk = c := Option.some.inj (f_y_pk.symm.trans hc)
    obtain rfl : m_pc = d := Option.some.inj (f_m_pc.symm.trans hd)
    obtain rfl : m_pw = e := Option.some.inj (f_m_pw.symm.trans he)
    obtain rfl : m_pk = f := Option.some.inj (f_m_pk.symm.trans hf)
    rw [n_y_pc, n_y_pw, n_y_pk, n_m_pc, n_m_pw, n_m_pk, f_o_pmn]
    exact hEA9
  case o62 =>
    rw [cl_dead, n_dead]
    exact eq_dead
  case o63 =>
    rw [cl_isj, n_isj]
    exact eq_isj
  case o64 =>
    rw [cl_dox, n_dox]
    exact eq_dox
  case o65 =>
    rw [cl_doy, n_doy]
    exact eq_doy
  case o66 =>
    rw [cl_fou, n_m_fou]
    exact eq_fou
  case o67 =>
    rw [cl_tri, n_mt]
    exact eq_tri
  case o68 =>
    obtain rfl : qw = w := Option.some.inj (f_qw.symm.trans hw)
    obtain rfl : ql = q := Option.some.inj (f_ql.symm.trans hq)
    exact pf_835
  case o69 =>
    rw [n_mw]
    exact hwd
  case o70 =>
    rw [n_mr, f_m_acts]
    exact hWK
  case o71 =>
    rw [n_mp, n_mn, f_m_acts]
    exact hRP
  case o72 =>
    rw [n_ml, f_m_claims, f_m_acts]
    exact hPL
  case o73 =>
    rw [n_mh, f_m_heardMany, f_m_claims]
    exact hHC
  case o74 =>
    rw [n_mt]
    refine (hx_TR_le hTR ?o75)
    case o75 => omega
  case o76 =>
    rw [n_mh, n_m_fou, f_m_claims]
    exact hHF

set_option maxHeartbeats 4000000 in
set_option maxRecDepth 100000 in
theorem law_case_26 {p : Program} {e : Env} {s : State} {m : MethodId} {below : List Frame} {meth : Method} {c : Code} (l : Launch) {b LN : Nat} {xs : Nat → Int32} (hx : p.tables.exec = Jvm.exec) (hb : c.code = code) (hr : meth.sig.returnType = ret) (hlocks : meth.locks = false) (hml : c.maxLocals = 4) (hown : s.vm.findClass "SmallCourtLaw" = some m.cls) (hts : ∀ w ∈ hx_all, w.before #[Value.ref b] s = true) (hX : va_X b LN xs s s.heap) (hbl : b < s.heap.size) (hbA : ¬ s.heap.size ≤ b) (hLN : LN ≤ 3584) (dC : Nat → ClassId) (dI : Nat → Nat → Nat) (dA : Nat → ClassId) (b0 : hx_z) (ax am : Nat) (T1 : Int) (hT0 : 0 ≤ T1) (hT1 : T1 ≤ 511) (i : Int32) (hi0 : 0 ≤ i.toInt) (hiL : i.toInt + 7 ≤ LN) (CC SS : Nat) (hCC : CC + 3 ≤ 600000) (hSS : SS + 179 ≤ 7302250) (L1 : List Nat) (hl1 : hx_h) (H : Heap) (locs : List Loc) (ls : Array Slot) (hW : hx_W T_tb (P_ty dA) (dC, dI) vwCl (fun q : Nat => s.heap.size ≤ q) s.heap L1 hl1 s H locs) (hZ : hx_Xt (fun q : Nat => s.heap.size ≤ q) b0 s) (hI : hx_IV T1 ax am L1 hl1) (hl : lv_has ls 4 [(3, .int i), (2, .ref am), (1, .ref ax), (0, .ref b)]) (kk : ∀ (L2 : List Nat) (h2 : hx_h) (H2 : Heap) (locs2 : List Loc) (ls2 : Array Slot), hx_W T_tb (P_ty dA) (dC, dI) vwCl (fun q : Nat => s.heap.size ≤ q) s.heap L2 h2 s H2 locs2 → hx_IV (T1 + 1) ax am L2 h2 → lv_has ls2 4 [(3, .int i), (2, .ref am), (1, .ref ax), (0, .ref b)] → W p l e room_1 s m #[Value.ref b] below meth c H2 locs2 (CC + 3) (SS + 179) (lw_Z below #[Value.ref b] s) (F0 m 1379 ls2 [])) : W p l e room_1 s m #[Value.ref b] below meth c H locs CC SS (lw_Z below #[Value.ref b] s) (F0 m 1254 ls []) := by
  have hI9 := hI
  have hT := hI9.1
  replace hI9 := hI9.2
  have gx := hI9.1
  replace hI9 := hI9.2
  have gm := hI9.1
  replace hI9 := hI9.2
  have zq0_3 := hI9.1
  have he_nw := zq0_3.1
  replace zq0_3 := zq0_3.2
  have he_np := zq0_3.1
  replace zq0_3 := zq0_3.2
  have he_c0 := zq0_3.1
  replace zq0_3 := zq0_3.2
  have he_tl := zq0_3.1
  replace zq0_3 := zq0_3.2
  have he_a0 := zq0_3.1
  replace zq0_3 := zq0_3.2
  have he_m0 := zq0_3.1
  replace zq0_3 := zq0_3.2
  have ho_ln := zq0_3.1
  replace zq0_3 := zq0_3.2
  have ho_lsd := zq0_3.1
  replace zq0_3 := zq0_3.2
  have ho_wkm := zq0_3.1
  replace zq0_3 := zq0_3.2
  have ho_py := zq0_3.1
  replace zq0_3 := zq0_3.2
  have ho_pmn := zq0_3.1
  replace zq0_3 := zq0_3.2
  have hn_qp := zq0_3.1
  replace zq0_3 := zq0_3.2
  have hn_qc := zq0_3.1
  replace zq0_3 := zq0_3.2
  have hk_of := zq0_3.1
  replace zq0_3 := zq0_3.2
  have hk_wf := zq0_3.1
  replace zq0_3 := zq0_3.2
  have hk_df := zq0_3.1
  replace zq0_3 := zq0_3.2
  have hk_kf := zq0_3.1
  replace zq0_3 := zq0_3.2
  have hk_sf := zq0_3.1
  replace zq0_3 := zq0_3.2
  have hkBD := zq0_3.1
  replace zq0_3 := zq0_3.2
  have hLQ := zq0_3.1
  replace zq0_3 := zq0_3.2
  have hLE := zq0_3.1
  replace zq0_3 := zq0_3.2
  have hkWD := zq0_3.1
  replace zq0_3 := zq0_3.2
  have hkDF := zq0_3.1
  replace zq0_3 := zq0_3.2
  have hkTP := zq0_3.1
  replace zq0_3 := zq0_3.2
  have hkAC := zq0_3.1
  replace zq0_3 := zq0_3.2
  have hkDP := zq0_3.1
  replace zq0_3 := zq0_3.2
  have hkHL := zq0_3.1
  replace zq0_3 := zq0_3.2
  have hkHO := zq0_3.1
  replace zq0_3 := zq0_3.2
  have hkFX := zq0_3.1
  replace zq0_3 := zq0_3.2
  have hkBX := zq0_3.1
  replace zq0_3 := zq0_3.2
  have hf_bor := zq0_3.1
  replace zq0_3 := zq0_3.2
  have hf_kin := zq0_3.1
  replace zq0_3 := zq0_3.2
  have hf_sum := zq0_3.1
  replace zq0_3 := zq0_3.2
  have hf_fro := zq0_3.1
  replace zq0_3 := zq0_3.2
  have hf_fil := zq0_3.1
  replace zq0_3 := zq0_3.2
  have hf_hea := zq0_3.1
  replace zq0_3 := zq0_3.2
  have hf_jud := zq0_3.1
  replace zq0_3 := zq0_3.2
  have hf_ear := zq0_3.1
  replace zq0_3 := zq0_3.2
  have hf_hds := zq0_3.1
  replace zq0_3 := zq0_3.2
  have hf_ord := zq0_3.1
  replace zq0_3 := zq0_3.2
  have hf_wkl := zq0_3.1
  replace zq0_3 := zq0_3.2
  have hf_owd := zq0_3.1
  replace zq0_3 := zq0_3.2
  have hf_gds := zq0_3.1
  replace zq0_3 := zq0_3.2
  have hf_szd := zq0_3.1
  replace zq0_3 := zq0_3.2
  have hf_srv := zq0_3.1
  replace zq0_3 := zq0_3.2
  have hkP0 := zq0_3.1
  replace zq0_3 := zq0_3.2
  have hkP1 := zq0_3.1
  replace zq0_3 := zq0_3.2
  have hkP2 := zq0_3.1
  replace zq0_3 := zq0_3.2
  have hkP3 := zq0_3.1
  replace zq0_3 := zq0_3.2
  have hkP4 := zq0_3.1
  replace zq0_3 := zq0_3.2
  have hkNQ := zq0_3.1
  replace zq0_3 := zq0_3.2
  have hkRL := zq0_3.1
  replace zq0_3 := zq0_3.2
  have hkPG := zq0_3.1
  replace zq0_3 := zq0_3.2
  have hc_dead := zq0_3.1
  replace zq0_3 := zq0_3.2
  have hc_isj := zq0_3.1
  replace zq0_3 := zq0_3.2
  have hc_dox := zq0_3.1
  replace zq0_3 := zq0_3.2
  have hc_doy := zq0_3.1
  replace zq0_3 := zq0_3.2
  have hc_fou := zq0_3.1
  replace zq0_3 := zq0_3.2
  have hc_tri := zq0_3.1
  replace zq0_3 := zq0_3.2
  replace hI9 := hI9.2
  have zq0_4 := hI9.1
  have ia := zq0_4.1
  replace zq0_4 := zq0_4.2
  have ip := zq0_4.1
  replace zq0_4 := zq0_4.2
  have ic := zq0_4.1
  replace zq0_4 := zq0_4.2
  have ih := zq0_4.1
  replace zq0_4 := zq0_4.2
  have il := zq0_4
  replace hI9 := hI9.2
  have zq0_5 := hI9
  have jw := zq0_5.1
  replace zq0_5 := zq0_5.2
  have jr := zq0_5.1
  replace zq0_5 := zq0_5.2
  have jp := zq0_5.1
  replace zq0_5 := zq0_5.2
  have jl := zq0_5.1
  replace zq0_5 := zq0_5.2
  have jh := zq0_5.1
  replace zq0_5 := zq0_5.2
  have jt := zq0_5.1
  replace zq0_5 := zq0_5.2
  have jf := zq0_5
  obtain ⟨qa, f_qa, g_qa⟩ := hx_rf hT gx tt_9 (k := 5) (u := 43) rfl
  have pf_qa := ia qa f_qa
  obtain ⟨qp, f_qp, g_qp⟩ := hx_rf hT gx tt_9 (k := 7) (u := 44) rfl
  have pf_qp := ip qp f_qp
  obtain ⟨qc, f_qc, g_qc⟩ := hx_rf hT gx tt_9 (k := 10) (u := 45) rfl
  have pf_qc := ic qc f_qc
  obtain ⟨qh, f_qh, g_qh⟩ := hx_rf hT gx tt_9 (k := 12) (u := 46) rfl
  have pf_qh := ih qh f_qh
  obtain ⟨qw, f_qw, g_qw⟩ := hx_rf hT gx tt_9 (k := 19) (u := 8) rfl
  obtain ⟨ql, f_ql, g_ql⟩ := hx_rf hT g_qw tt_8 (k := 3) (u := 40) rfl
  have pf_ql := il qw ql f_qw f_ql
  obtain ⟨nw, f_m_now⟩ : ∃ y : Int32, hl1.2.1 am 0 = y := ⟨_, rfl⟩
  have b_nw := hT.gi gm tt_10 (k := 0) rfl
  rw [f_m_now] at b_nw
  have b_nw : 0 ≤ nw.toInt ∧ nw.toInt ≤ 7999 := b_nw
  obtain ⟨np, f_m_persons⟩ : ∃ y : Int32, hl1.2.1 am 20 = y := ⟨_, rfl⟩
  have b_np := hT.gi gm tt_10 (k := 20) rfl
  rw [f_m_persons] at b_np
  have b_np : 0 ≤ np.toInt ∧ np.toInt ≤ 40 := b_np
  obtain ⟨c0, f_m_claims⟩ : ∃ y : Int32, hl1.2.1 am 36 = y := ⟨_, rfl⟩
  have b_c0 := hT.gi gm tt_10 (k := 36) rfl
  rw [f_m_claims] at b_c0
  have b_c0 : 0 ≤ c0.toInt ∧ c0.toInt ≤ 100 := b_c0
  obtain ⟨tl, f_m_taped⟩ : ∃ y : Int32, hl1.2.1 am 7 = y := ⟨_, rfl⟩
  have b_tl := hT.gi gm tt_10 (k := 7) rfl
  rw [f_m_taped] at b_tl
  have b_tl : 0 ≤ tl.toInt ∧ tl.toInt ≤ 400 := b_tl
  obtain ⟨a0, f_m_acts⟩ : ∃ y : Int32, hl1.2.1 am 1 = y := ⟨_, rfl⟩
  have b_a0 := hT.gi gm tt_10 (k := 1) rfl
  rw [f_m_acts] at b_a0
  have b_a0 : 0 ≤ a0.toInt ∧ a0.toInt ≤ 8 := b_a0
  obtain ⟨m0, f_m_heardMany⟩ : ∃ y : Int32, hl1.2.1 am 57 = y := ⟨_, rfl⟩
  have b_m0 := hT.gi gm tt_10 (k := 57) rfl
  rw [f_m_heardMany] at b_m0
  have b_m0 : 0 ≤ m0.toInt ∧ m0.toInt ≤ 100 := b_m0
  obtain ⟨ln, f_m_lines⟩ : ∃ y : Int32, hl1.2.1 am 29 = y := ⟨_, rfl⟩
  have b_ln := hT.gi gm tt_10 (k := 29) rfl
  rw [f_m_lines] at b_ln
  have b_ln : 0 ≤ ln.toInt ∧ ln.toInt ≤ 400 := b_ln
  obtain ⟨lsd, f_m_listed⟩ : ∃ y : Int32, hl1.2.1 am 90 = y := ⟨_, rfl⟩
  have b_lsd := hT.gi gm tt_10 (k := 90) rfl
  rw [f_m_listed] at b_lsd
  have b_lsd : 0 ≤ lsd.toInt ∧ lsd.toInt ≤ 8 := b_lsd
  obtain ⟨wkm, f_m_walkedMany⟩ : ∃ y : Int32, hl1.2.1 am 92 = y := ⟨_, rfl⟩
  have b_wkm := hT.gi gm tt_10 (k := 92) rfl
  rw [f_m_walkedMany] at b_wkm
  have b_wkm : 0 ≤ wkm.toInt ∧ wkm.toInt ≤ 8 := b_wkm
  obtain ⟨py, f_m_payments⟩ : ∃ y : Int32, hl1.2.1 am 59 = y := ⟨_, rfl⟩
  have b_py := hT.gi gm tt_10 (k := 59) rfl
  rw [f_m_payments] at b_py
  have b_py : 0 ≤ py.toInt ∧ py.toInt ≤ 600 := b_py
  obtain ⟨pmn, f_m_planMany⟩ : ∃ y : Int32, hl1.2.1 am 72 = y := ⟨_, rfl⟩
  have b_pmn := hT.gi gm tt_10 (k := 72) rfl
  rw [f_m_planMany] at b_pmn
  have b_pmn : 0 ≤ pmn.toInt ∧ pmn.toInt ≤ 4 := b_pmn
  have f_x_now : hl1.2.1 ax 2 = nw := he_nw.trans f_m_now
  have f_x_personCount : hl1.2.1 ax 8 = np := he_np.trans f_m_persons
  have f_x_claimCount : hl1.2.1 ax 11 = c0 := he_c0.trans f_m_claims
  have f_x_tapeLength : hl1.2.1 ax 1 = tl := he_tl.trans f_m_taped
  have f_x_actCount : hl1.2.1 ax 6 = a0 := he_a0.trans f_m_acts
  have f_x_heardCount : hl1.2.1 ax 13 = m0 := he_m0.trans f_m_heardMany
  obtain ⟨mw, f_mw, g_mw⟩ := hx_rf hT gm tt_10 (k := 19) (u := 57) rfl
  obtain ⟨F_mw, n_mw⟩ : ∃ g : Nat → Int32, hl1.2.1 mw = g := ⟨_, rfl⟩
  obtain ⟨mr, f_mr, g_mr⟩ := hx_rf hT gm tt_10 (k := 3) (u := 50) rfl
  obtain ⟨F_mr, n_mr⟩ : ∃ g : Nat → Int32, hl1.2.1 mr = g := ⟨_, rfl⟩
  obtain ⟨mp, f_mp, g_mp⟩ := hx_rf hT gm tt_10 (k := 5) (u := 52) rfl
  obtain ⟨F_mp, n_mp⟩ : ∃ g : Nat → Int32, hl1.2.1 mp = g := ⟨_, rfl⟩
  obtain ⟨mn, f_mn, g_mn⟩ := hx_rf hT gm tt_10 (k := 4) (u := 51) rfl
  obtain ⟨F_mn, n_mn⟩ : ∃ g : Nat → Int32, hl1.2.1 mn = g := ⟨_, rfl⟩
  obtain ⟨ml, f_ml, g_ml⟩ := hx_rf hT gm tt_10 (k := 44) (u := 79) rfl
  obtain ⟨F_ml, n_ml⟩ : ∃ g : Nat → Int32, hl1.2.1 ml = g := ⟨_, rfl⟩
  obtain ⟨mh, f_mh, g_mh⟩ := hx_rf hT gm tt_10 (k := 47) (u := 82) rfl
  obtain ⟨F_mh, n_mh⟩ : ∃ g : Nat → Int32, hl1.2.1 mh = g := ⟨_, rfl⟩
  obtain ⟨mt, f_mt, g_mt⟩ := hx_rf hT gm tt_10 (k := 45) (u := 80) rfl
  obtain ⟨F_mt, n_mt⟩ : ∃ g : Nat → Int32, hl1.2.1 mt = g := ⟨_, rfl⟩
  obtain ⟨m_fou, f_m_fou, g_m_fou⟩ := hx_rf hT gm tt_10 (k := 46) (u := 81) rfl
  obtain ⟨F_m_fou, n_m_fou⟩ : ∃ g : Nat → Int32, hl1.2.1 m_fou = g := ⟨_, rfl⟩
  obtain ⟨qo_ln, f_qo_ln, g_qo_ln⟩ := hx_rf hT gx tt_9 (k := 9) (u := 1) rfl
  have f_o_ln : hl1.2.1 qo_ln 0 = ln := (ho_ln qo_ln f_qo_ln).trans f_m_lines
  have f_o_lsd : hl1.2.1 qw 0 = lsd := (ho_lsd qw f_qw).trans f_m_listed
  have f_o_wkm : hl1.2.1 qw 1 = wkm := (ho_wkm qw f_qw).trans f_m_walkedMany
  obtain ⟨qo_py, f_qo_py, g_qo_py⟩ := hx_rf hT gx tt_9 (k := 14) (u := 3) rfl
  have f_o_py : hl1.2.1 qo_py 0 = py := (ho_py qo_py f_qo_py).trans f_m_payments
  obtain ⟨qo_pmn, f_qo_pmn, g_qo_pmn⟩ := hx_rf hT gx tt_9 (k := 17) (u := 5) rfl
  have f_o_pmn : hl1.2.1 qo_pmn 1 = pmn := (ho_pmn qo_pmn f_qo_pmn).trans f_m_planMany
  have nu_qp := hn_qp qp f_qp; rw [f_x_personCount] at nu_qp
  have nu_qc := hn_qc qc f_qc; rw [f_x_claimCount] at nu_qc
  obtain ⟨b_of, f_b_of, g_b_of⟩ := hx_rf hT g_qo_ln tt_1 (k := 1) (u := 13) rfl
  obtain ⟨B_of, n_b_of⟩ : ∃ g : Nat → Int32, hl1.2.1 b_of = g := ⟨_, rfl⟩
  obtain ⟨m_of, f_m_of, g_m_of⟩ := hx_rf hT gm tt_10 (k := 30) (u := 66) rfl
  obtain ⟨F_of, n_m_of⟩ : ∃ g : Nat → Int32, hl1.2.1 m_of = g := ⟨_, rfl⟩
  have eb_of := hk_of qo_ln b_of m_of f_qo_ln f_b_of f_m_of; rw [n_b_of, n_m_of, f_o_ln] at eb_of
  obtain ⟨b_wf, f_b_wf, g_b_wf⟩ := hx_rf hT g_qo_ln tt_1 (k := 2) (u := 14) rfl
  obtain ⟨B_wf, n_b_wf⟩ : ∃ g : Nat → Int32, hl1.2.1 b_wf = g := ⟨_, rfl⟩
  obtain ⟨m_wf, f_m_wf, g_m_wf⟩ := hx_rf hT gm tt_10 (k := 31) (u := 67) rfl
  obtain ⟨F_wf, n_m_wf⟩ : ∃ g : Nat → Int32, hl1.2.1 m_wf = g := ⟨_, rfl⟩
  have eb_wf := hk_wf qo_ln b_wf m_wf f_qo_ln f_b_wf f_m_wf; rw [n_b_wf, n_m_wf, f_o_ln] at eb_wf
  obtain ⟨b_df, f_b_df, g_b_df⟩ := hx_rf hT g_qo_ln tt_1 (k := 3) (u := 15) rfl
  obtain ⟨B_df, n_b_df⟩ : ∃ g : Nat → Int32, hl1.2.1 b_df = g := ⟨_, rfl⟩
  obtain ⟨m_df, f_m_df, g_m_df⟩ := hx_rf hT gm tt_10 (k := 32) (u := 68) rfl
  obtain ⟨F_df, n_m_df⟩ : ∃ g : Nat → Int32, hl1.2.1 m_df = g := ⟨_, rfl⟩
  have eb_df := hk_df qo_ln b_df m_df f_qo_ln f_b_df f_m_df; rw [n_b_df, n_m_df, f_o_ln] at eb_df
  obtain ⟨b_kf, f_b_kf, g_b_kf⟩ := hx_rf hT g_qo_ln tt_1 (k := 4) (u := 16) rfl
  obtain ⟨B_kf, n_b_kf⟩ : ∃ g : Nat → Int32, hl1.2.1 b_kf = g := ⟨_, rfl⟩
  obtain ⟨m_kf, f_m_kf, g_m_kf⟩ := hx_rf hT gm tt_10 (k := 33) (u := 69) rfl
  obtain ⟨F_kf, n_m_kf⟩ : ∃ g : Nat → Int32, hl1.2.1 m_kf = g := ⟨_, rfl⟩
  have eb_kf := hk_kf qo_ln b_kf m_kf f_qo_ln f_b_kf f_m_kf; rw [n_b_kf, n_m_kf, f_o_ln] at eb_kf
  obtain ⟨b_sf, f_b_sf, g_b_sf⟩ := hx_rf hT g_qo_ln tt_1 (k := 5) (u := 17) rfl
  obtain ⟨B_sf, n_b_sf⟩ : ∃ g : Nat → Int32, hl1.2.1 b_sf = g := ⟨_, rfl⟩
  obtain ⟨m_sf, f_m_sf, g_m_sf⟩ := hx_rf hT gm tt_10 (k := 34) (u := 70) rfl
  obtain ⟨F_sf, n_m_sf⟩ : ∃ g : Nat → Int32, hl1.2.1 m_sf = g := ⟨_, rfl⟩
  have eb_sf := hk_sf qo_ln b_sf m_sf f_qo_ln f_b_sf f_m_sf; rw [n_b_sf, n_m_sf, f_o_ln] at eb_sf
  obtain ⟨b_bf, f_b_bf, g_b_bf⟩ := hx_rf hT g_qo_ln tt_1 (k := 6) (u := 18) rfl
  obtain ⟨bfL, n_b_bf⟩ : ∃ g : Nat → Int32, hl1.2.1 b_bf = g := ⟨_, rfl⟩
  obtain ⟨hBD, hDY⟩ := hkBD qo_ln b_df b_bf f_qo_ln f_b_df f_b_bf; rw [n_b_df, n_b_bf, f_o_ln] at hBD; rw [n_b_df, f_o_ln] at hDY
  have hBDm := hy_BD_c eb_df hBD
  have hDYm : hy_DY F_df ln.toInt.toNat := fun x hx => by rw [← eb_df x hx]; exact hDY x hx
  have sb_list := hLQ qw ql qc f_qw f_ql f_qc
  obtain ⟨m_lst, f_m_lst, g_m_lst⟩ := hx_rf hT gm tt_10 (k := 91) (u := 112) rfl
  obtain ⟨F_lst, n_lst⟩ : ∃ g : Nat → Int32, hl1.2.1 m_lst = g := ⟨_, rfl⟩
  obtain ⟨c_lst, cl_lst⟩ : ∃ g : Nat → Int32, hx_col 8 hl1 ql 0 = g := ⟨_, rfl⟩
  have eq_lst := hLE qw ql m_lst f_qw f_ql f_m_lst; rw [cl_lst, n_lst] at eq_lst
  obtain ⟨qtp, f_qtp, g_qtp⟩ := hx_rf hT gx tt_9 (k := 0) (u := 42) rfl
  obtain ⟨m_tp, f_m_tp, g_m_tp⟩ := hx_rf hT gm tt_10 (k := 6) (u := 53) rfl
  obtain ⟨F_tp, n_tp⟩ : ∃ g : Nat → Int32, hl1.2.1 m_tp = g := ⟨_, rfl⟩
  have n_qtp : hl1.2.1 qtp = F_tp := (hkTP qtp m_tp f_qtp f_m_tp).trans n_tp
  obtain ⟨c_dead, cl_dead⟩ : ∃ g : Nat → Int32, hx_col 40 hl1 qp 7 = g := ⟨_, rfl⟩
  obtain ⟨m_dead, f_m_dead, g_m_dead⟩ := hx_rf hT gm tt_10 (k := 27) (u := 64) rfl
  obtain ⟨F_dead, n_dead⟩ : ∃ g : Nat → Int32, hl1.2.1 m_dead = g := ⟨_, rfl⟩
  have eq_dead := hc_dead qp m_dead f_qp f_m_dead; rw [cl_dead, n_dead] at eq_dead
  have z_dead : np.toInt.toNat < 40 → c_dead np.toInt.toNat = 0 := fun hj => hx_num_z nu_qp cl_dead hj ?o0
  case o0 => omega
  obtain ⟨c_isj, cl_isj⟩ : ∃ g : Nat → Int32, hx_col 40 hl1 qp 8 = g := ⟨_, rfl⟩
  obtain ⟨m_isj, f_m_isj, g_m_isj⟩ := hx_rf hT gm tt_10 (k := 28) (u := 65) rfl
  obtain ⟨F_isj, n_isj⟩ : ∃ g : Nat → Int32, hl1.2.1 m_isj = g := ⟨_, rfl⟩
  have eq_isj := hc_isj qp m_isj f_qp f_m_isj; rw [cl_isj, n_isj] at eq_isj
  have z_isj : np.toInt.toNat < 40 → c_isj np.toInt.toNat = 0 := fun hj => hx_num_z nu_qp cl_isj hj ?o1
  case o1 => omega
  obtain ⟨c_dox, cl_dox⟩ : ∃ g : Nat → Int32, hx_col 40 hl1 qp 5 = g := ⟨_, rfl⟩
  obtain ⟨m_dox, f_m_dox, g_m_dox⟩ := hx_rf hT gm tt_10 (k := 24) (u := 61) rfl
  obtain ⟨F_dox, n_dox⟩ : ∃ g : Nat → Int32, hl1.2.1 m_dox = g := ⟨_, rfl⟩
  have eq_dox := hc_dox qp m_dox f_qp f_m_dox; rw [cl_dox, n_dox] at eq_dox
  have z_dox : np.toInt.toNat < 40 → c_dox np.toInt.toNat = 0 := fun hj => hx_num_z nu_qp cl_dox hj ?o2
  case o2 => omega
  obtain ⟨c_doy, cl_doy⟩ : ∃ g : Nat → Int32, hx_col 40 hl1 qp 6 = g := ⟨_, rfl⟩
  obtain ⟨m_doy, f_m_doy, g_m_doy⟩ := hx_rf hT gm tt_10 (k := 25) (u := 62) rfl
  obtain ⟨F_doy, n_doy⟩ : ∃ g : Nat → Int32, hl1.2.1 m_doy = g := ⟨_, rfl⟩
  have eq_doy := hc_doy qp m_doy f_qp f_m_doy; rw [cl_doy, n_doy] at eq_doy
  have z_doy : np.toInt.toNat < 40 → c_doy np.toInt.toNat = 0 := fun hj => hx_num_z nu_qp cl_doy hj ?o3
  case o3 => omega
  obtain ⟨c_fou, cl_fou⟩ : ∃ g : Nat → Int32, hx_col 100 hl1 qc 10 = g := ⟨_, rfl⟩
  have eq_fou := hc_fou qc m_fou f_qc f_m_fou; rw [cl_fou, n_m_fou] at eq_fou
  have z_fou : c0.toInt.toNat < 100 → c_fou c0.toInt.toNat = 0 := fun hj => hx_num_z nu_qc cl_fou hj ?o4
  case o4 => omega
  obtain ⟨c_tri, cl_tri⟩ : ∃ g : Nat → Int32, hx_col 100 hl1 qc 9 = g := ⟨_, rfl⟩
  have eq_tri := hc_tri qc mt f_qc f_mt; rw [cl_tri, n_mt] at eq_tri
  have z_tri : c0.toInt.toNat < 100 → c_tri c0.toInt.toNat = 0 := fun hj => hx_num_z nu_qc cl_tri hj ?o5
  case o5 => omega
  obtain ⟨qlt, f_qlt, g_qlt⟩ := hx_rf hT g_qw tt_8 (k := 2) (u := 39) rfl
  obtain ⟨qlf, f_qlf, g_qlf⟩ := hx_rf hT g_qw tt_8 (k := 4) (u := 41) rfl
  obtain ⟨m_wkd, f_m_wkd, g_m_wkd⟩ := hx_rf hT gm tt_10 (k := 93) (u := 113) rfl
  obtain ⟨F_qlt, n_qlt⟩ : ∃ g : Nat → Int32, hl1.2.1 qlt = g := ⟨_, rfl⟩
  obtain ⟨F_m_wkd, n_m_wkd⟩ : ∃ g : Nat → Int32, hl1.2.1 m_wkd = g := ⟨_, rfl⟩
  have eb_wkd := hkWD qw qlt m_wkd f_qw f_qlt f_m_wkd; rw [n_qlt, n_m_wkd, f_o_wkm] at eb_wkd
  obtain ⟨m_aga, f_m_aga, g_m_aga⟩ := hx_rf hT gm tt_10 (k := 38) (u := 73) rfl
  obtain ⟨F_aga, n_aga⟩ : ∃ g : Nat → Int32, hl1.2.1 m_aga = g := ⟨_, rfl⟩
  have hDF := hkDF qc qp m_aga f_qc f_qp f_m_aga; rw [n_aga, f_x_claimCount] at hDF
  obtain ⟨qwo, f_qwo, g_qwo⟩ := hx_rf hT gx tt_9 (k := 4) (u := 0) rfl
  obtain ⟨m_ad, f_m_ad, g_m_ad⟩ := hx_rf hT gm tt_10 (k := 2) (u := 49) rfl
  obtain ⟨F_ad, n_ad⟩ : ∃ g : Nat → Int32, hl1.2.1 m_ad = g := ⟨_, rfl⟩
  obtain ⟨A9, hRA9, hCA9, hAC9, hAB⟩ := hkAC qa qwo m_ad mr mn mp qc ml f_qa f_qwo f_m_ad f_mr f_mn f_mp f_qc f_ml
  rw [f_x_actCount] at hRA9; rw [f_x_actCount, n_ad, n_mr, n_mn, n_mp] at hCA9
  obtain ⟨m_by, f_m_by, g_m_by⟩ := hx_rf hT gm tt_10 (k := 37) (u := 72) rfl
  obtain ⟨F_by, n_by⟩ : ∃ g : Nat → Int32, hl1.2.1 m_by = g := ⟨_, rfl⟩
  obtain ⟨m_ho, f_m_ho, g_m_ho⟩ := hx_rf hT gm tt_10 (k := 58) (u := 92) rfl
  obtain ⟨F_ho, n_ho⟩ : ∃ g : Nat → Int32, hl1.2.1 m_ho = g := ⟨_, rfl⟩
  obtain ⟨m_fc, f_m_fc, g_m_fc⟩ := hx_rf hT gm tt_10 (k := 53) (u := 88) rfl
  obtain ⟨F_fc, n_fc⟩ : ∃ g : Nat → Int32, hl1.2.1 m_fc = g := ⟨_, rfl⟩
  obtain ⟨m_nt, f_m_nt, g_m_nt⟩ := hx_rf hT gm tt_10 (k := 41) (u := 76) rfl
  obtain ⟨F_nt, n_nt⟩ : ∃ g : Nat → Int32, hl1.2.1 m_nt = g := ⟨_, rfl⟩
  obtain ⟨m_wt, f_m_wt, g_m_wt⟩ := hx_rf hT gm tt_10 (k := 42) (u := 77) rfl
  obtain ⟨F_wt, n_wt⟩ : ∃ g : Nat → Int32, hl1.2.1 m_wt = g := ⟨_, rfl⟩
  obtain ⟨m_be, f_m_be, g_m_be⟩ := hx_rf hT gm tt_10 (k := 52) (u := 87) rfl
  obtain ⟨F_be, n_be⟩ : ∃ g : Nat → Int32, hl1.2.1 m_be = g := ⟨_, rfl⟩
  obtain ⟨m_bor, f_m_bor, g_m_bor⟩ := hx_rf hT gm tt_10 (k := 21) (u := 58) rfl
  obtain ⟨F_bor, n_bor⟩ : ∃ g : Nat → Int32, hl1.2.1 m_bor = g := ⟨_, rfl⟩
  obtain ⟨m_kin, f_m_kin, g_m_kin⟩ := hx_rf hT gm tt_10 (k := 26) (u := 63) rfl
  obtain ⟨F_kin, n_kin⟩ : ∃ g : Nat → Int32, hl1.2.1 m_kin = g := ⟨_, rfl⟩
  obtain ⟨m_sum, f_m_sum, g_m_sum⟩ := hx_rf hT gm tt_10 (k := 39) (u := 74) rfl
  obtain ⟨F_sum, n_sum⟩ : ∃ g : Nat → Int32, hl1.2.1 m_sum = g := ⟨_, rfl⟩
  obtain ⟨m_fro, f_m_fro, g_m_fro⟩ := hx_rf hT gm tt_10 (k := 40) (u := 75) rfl
  obtain ⟨F_fro, n_fro⟩ : ∃ g : Nat → Int32, hl1.2.1 m_fro = g := ⟨_, rfl⟩
  obtain ⟨m_fil, f_m_fil, g_m_fil⟩ := hx_rf hT gm tt_10 (k := 43) (u := 78) rfl
  obtain ⟨F_fil, n_fil⟩ : ∃ g : Nat → Int32, hl1.2.1 m_fil = g := ⟨_, rfl⟩
  obtain ⟨m_jud, f_m_jud, g_m_jud⟩ := hx_rf hT gm tt_10 (k := 51) (u := 86) rfl
  obtain ⟨F_jud, n_jud⟩ : ∃ g : Nat → Int32, hl1.2.1 m_jud = g := ⟨_, rfl⟩
  obtain ⟨m_ear, f_m_ear, g_m_ear⟩ := hx_rf hT gm tt_10 (k := 22) (u := 59) rfl
  obtain ⟨F_ear, n_ear⟩ : ∃ g : Nat → Int32, hl1.2.1 m_ear = g := ⟨_, rfl⟩
  obtain ⟨m_hds, f_m_hds, g_m_hds⟩ := hx_rf hT gm tt_10 (k := 23) (u := 60) rfl
  obtain ⟨F_hds, n_hds⟩ : ∃ g : Nat → Int32, hl1.2.1 m_hds = g := ⟨_, rfl⟩
  obtain ⟨m_ord, f_m_ord, g_m_ord⟩ := hx_rf hT gm tt_10 (k := 48) (u := 83) rfl
  obtain ⟨F_ord, n_ord⟩ : ∃ g : Nat → Int32, hl1.2.1 m_ord = g := ⟨_, rfl⟩
  obtain ⟨m_wkl, f_m_wkl, g_m_wkl⟩ := hx_rf hT gm tt_10 (k := 54) (u := 89) rfl
  obtain ⟨F_wkl, n_wkl⟩ : ∃ g : Nat → Int32, hl1.2.1 m_wkl = g := ⟨_, rfl⟩
  obtain ⟨m_owd, f_m_owd, g_m_owd⟩ := hx_rf hT gm tt_10 (k := 55) (u := 90) rfl
  obtain ⟨F_owd, n_owd⟩ : ∃ g : Nat → Int32, hl1.2.1 m_owd = g := ⟨_, rfl⟩
  obtain ⟨m_gds, f_m_gds, g_m_gds⟩ := hx_rf hT gm tt_10 (k := 56) (u := 91) rfl
  obtain ⟨F_gds, n_gds⟩ : ∃ g : Nat → Int32, hl1.2.1 m_gds = g := ⟨_, rfl⟩
  obtain ⟨m_szd, f_m_szd, g_m_szd⟩ := hx_rf hT gm tt_10 (k := 49) (u := 84) rfl
  obtain ⟨F_szd, n_szd⟩ : ∃ g : Nat → Int32, hl1.2.1 m_szd = g := ⟨_, rfl⟩
  obtain ⟨m_srv, f_m_srv, g_m_srv⟩ := hx_rf hT gm tt_10 (k := 50) (u := 85) rfl
  obtain ⟨F_srv, n_srv⟩ : ∃ g : Nat → Int32, hl1.2.1 m_srv = g := ⟨_, rfl⟩
  have cl_bor : hx_col 40 hl1 qp 1 = F_bor := (hf_bor qp m_bor f_qp f_m_bor).trans n_bor
  have cl_kin : hx_col 40 hl1 qp 2 = F_kin := (hf_kin qp m_kin f_qp f_m_kin).trans n_kin
  have cl_sum : hx_col 100 hl1 qc 6 = F_sum := (hf_sum qc m_sum f_qc f_m_sum).trans n_sum
  have cl_fro : hx_col 100 hl1 qc 7 = F_fro := (hf_fro qc m_fro f_qc f_m_fro).trans n_fro
  have cl_fil : hx_col 100 hl1 qc 8 = F_fil := (hf_fil qc m_fil f_qc f_m_fil).trans n_fil
  have cl_hea : hx_col 100 hl1 qc 11 = F_mh := (hf_hea qc mh f_qc f_mh).trans n_mh
  have cl_jud : hx_col 100 hl1 qc 12 = F_jud := (hf_jud qc m_jud f_qc f_m_jud).trans n_jud
  have cl_ear : hx_col 40 hl1 qp 3 = F_ear := (hf_ear qp m_ear f_qp f_m_ear).trans n_ear
  have cl_hds : hx_col 40 hl1 qp 4 = F_hds := (hf_hds qp m_hds f_qp f_m_hds).trans n_hds
  have cl_ord : hx_col 100 hl1 qc 13 = F_ord := (hf_ord qc m_ord f_qc f_m_ord).trans n_ord
  have cl_wkl : hx_col 100 hl1 qc 14 = F_wkl := (hf_wkl qc m_wkl f_qc f_m_wkl).trans n_wkl
  have cl_owd : hx_col 100 hl1 qc 15 = F_owd := (hf_owd qc m_owd f_qc f_m_owd).trans n_owd
  have cl_gds : hx_col 100 hl1 qc 17 = F_gds := (hf_gds qc m_gds f_qc f_m_gds).trans n_gds
  have cl_szd : hx_col 100 hl1 qc 16 = F_szd := (hf_szd qc m_szd f_qc f_m_szd).trans n_szd
  have cl_srv : hx_col 100 hl1 qc 18 = F_srv := (hf_srv qc m_srv f_qc f_m_srv).trans n_srv
  have htb9 : ∀ c, c < 100 → 0 ≤ (c_tri c).toInt ∧ (c_tri c).toInt ≤ 512 := fun c hc => by rw [eq_tri c hc]; have w := hT.ei g_mt tt_80 (k := c) hc; rw [n_mt] at w; exact w
  have z_jud : F_jud c0.toInt.toNat = 0 := hx_num_z2 nu_qc cl_jud ?o6
  case o6 => omega
  have hDP := hkDP qc qp m_by f_qc f_qp f_m_by; rw [n_by, f_x_claimCount] at hDP
  have hHL := hkHL qh qc m_ho f_qh f_qc f_m_ho; rw [n_ho, f_x_heardCount, f_x_claimCount] at hHL
  have hHO9 := hkHO m_ho mh f_m_ho f_mh; rw [n_ho, n_mh, f_m_heardMany, f_m_claims] at hHO9
  obtain ⟨cF9L, hFX, hFR9⟩ := hkFX qc m_fc m_nt m_wt m_sum mh f_qc f_m_fc f_m_nt f_m_wt f_m_sum f_mh; rw [f_x_claimCount] at hFX; rw [n_fc, n_nt, n_wt, n_sum, n_mh, f_x_claimCount] at hFR9
  have hBX := hkBX qc m_be f_qc f_m_be; rw [n_be, f_x_claimCount] at hBX
  rw [n_ml, f_x_claimCount] at hAC9
  obtain ⟨y_p0, f_y_p0, g_y_p0⟩ := hx_rf hT g_qo_py tt_3 (k := 2) (u := 23) rfl
  obtain ⟨m_p0, f_m_p0, g_m_p0⟩ := hx_rf hT gm tt_10 (k := 60) (u := 93) rfl
  obtain ⟨F_p0, n_p0⟩ : ∃ g : Nat → Int32, hl1.2.1 m_p0 = g := ⟨_, rfl⟩
  have n_y_p0 : hl1.2.1 y_p0 = F_p0 := (hkP0 qo_py y_p0 m_p0 f_qo_py f_y_p0 f_m_p0).trans n_p0
  obtain ⟨y_p1, f_y_p1, g_y_p1⟩ := hx_rf hT g_qo_py tt_3 (k := 3) (u := 24) rfl
  obtain ⟨m_p1, f_m_p1, g_m_p1⟩ := hx_rf hT gm tt_10 (k := 61) (u := 94) rfl
  obtain ⟨F_p1, n_p1⟩ : ∃ g : Nat → Int32, hl1.2.1 m_p1 = g := ⟨_, rfl⟩
  have n_y_p1 : hl1.2.1 y_p1 = F_p1 := (hkP1 qo_py y_p1 m_p1 f_qo_py f_y_p1 f_m_p1).trans n_p1
  obtain ⟨y_p2, f_y_p2, g_y_p2⟩ := hx_rf hT g_qo_py tt_3 (k := 5) (u := 26) rfl
  obtain ⟨m_p2, f_m_p2, g_m_p2⟩ := hx_rf hT gm tt_10 (k := 62) (u := 95) rfl
  obtain ⟨F_p2, n_p2⟩ : ∃ g : Nat → Int32, hl1.2.1 m_p2 = g := ⟨_, rfl⟩
  have n_y_p2 : hl1.2.1 y_p2 = F_p2 := (hkP2 qo_py y_p2 m_p2 f_qo_py f_y_p2 f_m_p2).trans n_p2
  obtain ⟨y_p3, f_y_p3, g_y_p3⟩ := hx_rf hT g_qo_py tt_3 (k := 4) (u := 25) rfl
  obtain ⟨m_p3, f_m_p3, g_m_p3⟩ := hx_rf hT gm tt_10 (k := 63) (u := 96) rfl
  obtain ⟨F_p3, n_p3⟩ : ∃ g : Nat → Int32, hl1.2.1 m_p3 = g := ⟨_, rfl⟩
  have n_y_p3 : hl1.2.1 y_p3 = F_p3 := (hkP3 qo_py y_p3 m_p3 f_qo_py f_y_p3 f_m_p3).trans n_p3
  obtain ⟨y_p4, f_y_p4, g_y_p4⟩ := hx_rf hT g_qo_py tt_3 (k := 1) (u := 22) rfl
  obtain ⟨m_p4, f_m_p4, g_m_p4⟩ := hx_rf hT gm tt_10 (k := 64) (u := 97) rfl
  obtain ⟨F_p4, n_p4⟩ : ∃ g : Nat → Int32, hl1.2.1 m_p4 = g := ⟨_, rfl⟩
  have n_y_p4 : hl1.2.1 y_p4 = F_p4 := (hkP4 qo_py y_p4 m_p4 f_qo_py f_y_p4 f_m_p4).trans n_p4
  obtain ⟨qrg9, f_qrg9, g_qrg9⟩ := hx_rf hT gx tt_9 (k := 18) (u := 7) rfl
  obtain ⟨y_ls, f_y_ls, g_y_ls⟩ := hx_rf hT g_qrg9 tt_7 (k := 3) (u := 35) rfl
  obtain ⟨m_rl, f_m_rl, g_m_rl⟩ := hx_rf hT gm tt_10 (k := 85) (u := 109) rfl
  obtain ⟨F_y_ls, n_y_ls⟩ : ∃ g : Nat → Int32, hl1.2.1 y_ls = g := ⟨_, rfl⟩
  obtain ⟨F_m_rl, n_m_rl⟩ : ∃ g : Nat → Int32, hl1.2.1 m_rl = g := ⟨_, rfl⟩
  obtain ⟨fv_848, efv_848⟩ : ∃ y : Int32, y = hl1.2.1 qrg9 0 := ⟨_, rfl⟩
  have bfv_848 := hT.gi g_qrg9 tt_7 (k := 0) rfl
  rw [← efv_848] at bfv_848
  have bfv_848 : -1 ≤ fv_848.toInt ∧ fv_848.toInt ≤ 100 := bfv_848
  have ffv_848 := efv_848.symm
  obtain ⟨fv_849, efv_849⟩ : ∃ y : Int32, y = hl1.2.1 am 83 := ⟨_, rfl⟩
  have bfv_849 := hT.gi gm tt_10 (k := 83) rfl
  rw [← efv_849] at bfv_849
  have bfv_849 : 0 ≤ fv_849.toInt ∧ fv_849.toInt ≤ 1 := bfv_849
  have ffv_849 := efv_849.symm
  obtain ⟨fv_850, efv_850⟩ : ∃ y : Int32, y = hl1.2.1 am 84 := ⟨_, rfl⟩
  have bfv_850 := hT.gi gm tt_10 (k := 84) rfl
  rw [← efv_850] at bfv_850
  have bfv_850 : 0 ≤ fv_850.toInt ∧ fv_850.toInt ≤ 300 := bfv_850
  have ffv_850 := efv_850.symm
  have hNQ9 := hkNQ qrg9 f_qrg9; rw [ffv_848, ffv_849, ffv_850] at hNQ9
  have hRL9 := hkRL qrg9 y_ls m_rl f_qrg9 f_y_ls f_m_rl; rw [n_y_ls, n_m_rl, ffv_848] at hRL9
  have hCB : hz_CB F_ord F_wkl F_owd F_szd F_gds F_srv := fun c hc => ⟨by have w := hT.ei g_m_ord tt_83 (k := c) (by omega); rw [n_ord] at w; exact w, by have w := hT.ei g_m_wkl tt_89 (k := c) (by omega); rw [n_wkl] at w; exact w, by have w := hT.ei g_m_owd tt_90 (k := c) (by omega); rw [n_owd] at w; exact w, by have w := hT.ei g_m_szd tt_84 (k := c) (by omega); rw [n_szd] at w; exact w, by have w := hT.ei g_m_gds tt_91 (k := c) (by omega); rw [n_gds] at w; exact w, by have w := hT.ei g_m_srv tt_85 (k := c) (by omega); rw [n_srv] at w; exact w⟩
  have hps : ∀ j, j < 600 → 0 ≤ (F_p2 j).toInt ∧ (F_p2 j).toInt ≤ 610000 := fun j hj => by have w := hT.ei g_m_p2 tt_95 (k := j) (by omega); rw [n_p2] at w; exact w
  have hte9 : ∀ c : Nat, c < 100 → (0 ≤ (c_tri c).toInt ∧ (c_tri c).toInt ≤ 512) ∧ (0 ≤ (F_sum c).toInt ∧ (F_sum c).toInt ≤ 9999) := fun c hc => ⟨htb9 c hc, by have w := hT.ei g_m_sum tt_74 (k := c) (by omega); rw [n_sum] at w; exact w⟩
  have hee9 : ∀ c : Nat, c < 40 → (0 ≤ (F_ear c).toInt ∧ (F_ear c).toInt ≤ 9999) ∧ (0 ≤ (F_hds c).toInt ∧ (F_hds c).toInt ≤ 20) := fun c hc => ⟨by have w := hT.ei g_m_ear tt_59 (k := c) (by omega); rw [n_ear] at w; exact w, by have w := hT.ei g_m_hds tt_60 (k := c) (by omega); rw [n_hds] at w; exact w⟩
  have bAG9 : ∀ k, k < 100 → 0 ≤ (F_aga k).toInt ∧ (F_aga k).toInt ≤ 39 := fun k hk => by have w := hT.ei g_m_aga tt_73 (k := k) (by omega); rw [n_aga] at w; exact w
  have bBY9 : ∀ k, k < 100 → 0 ≤ (F_by k).toInt ∧ (F_by k).toInt ≤ 39 := fun k hk => by have w := hT.ei g_m_by tt_72 (k := k) (by omega); rw [n_by] at w; exact w
  have hag9 : ∀ c, c < c0.toInt.toNat → 0 ≤ (F_aga c).toInt ∧ (F_aga c).toInt < 40 ∧ 0 ≤ (F_by c).toInt ∧ (F_by c).toInt < 40 := fun c hc => by have a9 := bAG9 c (by omega); have b9 := bBY9 c (by omega); omega
  have z_wkl : F_wkl c0.toInt.toNat = 0 := hx_num_z2 nu_qc cl_wkl ?o7
  case o7 => omega
  have z_owd : F_owd c0.toInt.toNat = 0 := hx_num_z2 nu_qc cl_owd ?o8
  case o8 => omega
  have z_gds : F_gds c0.toInt.toNat = 0 := hx_num_z2 nu_qc cl_gds ?o9
  case o9 => omega
  obtain ⟨y_pc, f_y_pc, g_y_pc⟩ := hx_rf hT g_qo_pmn tt_5 (k := 2) (u := 27) rfl
  obtain ⟨m_pc, f_m_pc, g_m_pc⟩ := hx_rf hT gm tt_10 (k := 73) (u := 100) rfl
  obtain ⟨F_y_pc, n_y_pc⟩ : ∃ g : Nat → Int32, hl1.2.1 y_pc = g := ⟨_, rfl⟩
  obtain ⟨F_m_pc, n_m_pc⟩ : ∃ g : Nat → Int32, hl1.2.1 m_pc = g := ⟨_, rfl⟩
  obtain ⟨y_pw, f_y_pw, g_y_pw⟩ := hx_rf hT g_qo_pmn tt_5 (k := 3) (u := 28) rfl
  obtain ⟨m_pw, f_m_pw, g_m_pw⟩ := hx_rf hT gm tt_10 (k := 74) (u := 101) rfl
  obtain ⟨F_y_pw, n_y_pw⟩ : ∃ g : Nat → Int32, hl1.2.1 y_pw = g := ⟨_, rfl⟩
  obtain ⟨F_m_pw, n_m_pw⟩ : ∃ g : Nat → Int32, hl1.2.1 m_pw = g := ⟨_, rfl⟩
  obtain ⟨y_pk, f_y_pk, g_y_pk⟩ := hx_rf hT g_qo_pmn tt_5 (k := 4) (u := 29) rfl
  obtain ⟨m_pk, f_m_pk, g_m_pk⟩ := hx_rf hT gm tt_10 (k := 81) (u := 107) rfl
  obtain ⟨F_y_pk, n_y_pk⟩ : ∃ g : Nat → Int32, hl1.2.1 y_pk = g := ⟨_, rfl⟩
  obtain ⟨F_m_pk, n_m_pk⟩ : ∃ g : Nat → Int32, hl1.2.1 m_pk = g := ⟨_, rfl⟩
  have hEA9 := hkPG qo_pmn y_pc y_pw y_pk m_pc m_pw m_pk f_qo_pmn f_y_pc f_y_pw f_y_pk f_m_pc f_m_pw f_m_pk; rw [n_y_pc, n_y_pw, n_y_pk, n_m_pc, n_m_pw, n_m_pk, f_o_pmn] at hEA9
  have hrn9 : ∀ c : Nat, c < c0.toInt.toNat → 0 ≤ (hz_Rn F_ord F_szd F_gds F_owd F_srv (hz_rc A9 F_ml) F_p0 F_p1 F_p2 F_p3 F_p4 nw.toInt py.toInt.toNat) c ∧ (hz_Rn F_ord F_szd F_gds F_owd F_srv (hz_rc A9 F_ml) F_p0 F_p1 F_p2 F_p3 F_p4 nw.toInt py.toInt.toNat) c ≤ 609999 := fun c hc => hz_Rn_b hCB hps ?o10 ?o11 ((hAB _).1 12)
  case o10 => omega
  case o11 => omega
  have hwd := jw mw f_mw; rw [n_mw] at hwd
  have hWK := jr mr f_mr; rw [n_mr, f_m_acts] at hWK
  have hRP := jp mp mn f_mp f_mn; rw [n_mp, n_mn, f_m_acts] at hRP
  have hPL := jl ml f_ml; rw [n_ml, f_m_claims, f_m_acts] at hPL
  have hHC := jh mh f_mh; rw [n_mh, f_m_heardMany, f_m_claims] at hHC
  have hTR := jt mt f_mt; rw [n_mt] at hTR
  have hHF := jf mh m_fou f_mh f_m_fou; rw [n_mh, n_m_fou, f_m_claims] at hHF
  have hwk9 : ∀ c : Nat, c < c0.toInt.toNat → 1 ≤ (A9 (F_ml c).toInt.toNat).2.1 2 := fun c hc => by have p9 := hPL (c : Int) (by omega) (by omega); rw [Int.toNat_natCast] at p9; obtain ⟨_, h29, _⟩ := hCA9.2 (F_ml c).toInt.toNat (by omega); rw [← h29]; show 1 ≤ (if 2 < 13 then _ else 0); rw [if_pos (by decide)]; exact (hWK (F_ml c).toInt p9.1 p9.2).1
  refine lv_aload_n hx hb dL_law_1254 rfl (lv_at hl 2 rfl) ?_
  have hTo := hT
  have bL9 : ∀ k, k < 8 → 0 ≤ (F_lst k).toInt ∧ (F_lst k).toInt ≤ 99 := fun k hk => by have w := hT.ei g_m_lst tt_112 (k := k) hk; rw [n_lst] at w; exact w
  have bA9 : ∀ k, k < 100 → 0 ≤ (F_aga k).toInt ∧ (F_aga k).toInt ≤ 39 := fun k hk => by have w := hT.ei g_m_aga tt_73 (k := k) hk; rw [n_aga] at w; exact w
  have b9_dox : ∀ k, k < 40 → 0 ≤ (F_dox k).toInt ∧ (F_dox k).toInt ≤ 99 := fun k hk => by have w := hT.ei g_m_dox tt_61 (k := k) hk; rw [n_dox] at w; exact w
  have hGx := hw_dc_of (n := lsd.toInt) ?o12 nu_qc sb_list cl_lst eq_lst hDF cl_dox eq_dox
  case o12 => omega
  have hBx := hw_B (n := lsd.toInt) ?o13 bL9 bA9 b9_dox
  case o13 => omega
  have b9_doy : ∀ k, k < 40 → 0 ≤ (F_doy k).toInt ∧ (F_doy k).toInt ≤ 99 := fun k hk => by have w := hT.ei g_m_doy tt_62 (k := k) hk; rw [n_doy] at w; exact w
  have hGy := hw_dc_of (n := lsd.toInt) ?o14 nu_qc sb_list cl_lst eq_lst hDF cl_doy eq_doy
  case o14 => omega
  have hBy := hw_B (n := lsd.toInt) ?o15 bL9 bA9 b9_doy
  case o15 => omega
  refine hx_goi (hx_runV (As := []) (rest := []) ⟨hx, hb, hml, hown, hts⟩ hW gx tt_9 (T := TX9) (N := 20) rfl (t_X9_walk_2 l dC dI dA L1 hl1 H.size ax hT gx qw g_qw f_qw ql g_ql f_ql qlf g_qlf f_qlf qlt g_qlt f_qlt F_qlt n_qlt lsd f_o_lsd c_lst cl_lst (fun k => F_dox (F_aga (F_lst k).toInt.toNat).toInt.toNat) (fun k => F_doy (F_aga (F_lst k).toInt.toNat).toInt.toNat) hGx hGy hBx hBy pf_ql) (cwV 0 hts (hx_gV kw_1051 kw_1048 kw_1049 kw_1050 kw_94) rfl rfl rfl (by decide +kernel) ⟨Nat.le_of_ble_eq_true rfl, Nat.le_of_ble_eq_true rfl⟩) rfl hl.1 rfl (Nat.le_of_ble_eq_true rfl) dL_law_1255 ⟨(show CC + 0 ≤ 600000 from ?o16), (show SS + 0 ≤ 7302250 from ?o17)⟩) hW (fun r_853 L_851 h_852 H locs p_854 hW => ?_)
  case o16 => omega
  case o17 => omega
  obtain ⟨⟨w_856, w_857, w_858, fw_856, fw_857, fw_858, hr_855⟩, hT, hs⟩ := p_854
  replace hT : hx_T T_tb L_851 h_852 := hT
  replace hs : hx_S T_tb [(8, 0), (8, 1), (39, 0), (41, 0)] L1 hl1 L_851 h_852 := hs
  replace f_qa := (hs.o gx trivial rfl).2.trans f_qa
  replace f_qp := (hs.o gx trivial rfl).2.trans f_qp
  replace f_qc := (hs.o gx trivial rfl).2.trans f_qc
  replace f_qh := (hs.o gx trivial rfl).2.trans f_qh
  replace f_qw := (hs.o gx trivial rfl).2.trans f_qw
  replace f_ql := (hs.o g_qw trivial rfl).2.trans f_ql
  replace f_m_now := (hs.o gm trivial rfl).1.trans f_m_now
  replace f_m_persons := (hs.o gm trivial rfl).1.trans f_m_persons
  replace f_m_claims := (hs.o gm trivial rfl).1.trans f_m_claims
  replace f_m_taped := (hs.o gm trivial rfl).1.trans f_m_taped
  replace f_m_acts := (hs.o gm trivial rfl).1.trans f_m_acts
  replace f_m_heardMany := (hs.o gm trivial rfl).1.trans f_m_heardMany
  replace f_m_lines := (hs.o gm trivial rfl).1.trans f_m_lines
  replace f_m_listed := (hs.o gm trivial rfl).1.trans f_m_listed
  replace f_m_walkedMany := (hs.o gm trivial rfl).1.trans f_m_walkedMany
  replace f_m_payments := (hs.o gm trivial rfl).1.trans f_m_payments
  replace f_m_planMany := (hs.o gm trivial rfl).1.trans f_m_planMany
  replace f_x_now := (hs.o gx trivial rfl).1.trans f_x_now
  replace f_x_personCount := (hs.o gx trivial rfl).1.trans f_x_personCount
  replace f_x_claimCount := (hs.o gx trivial rfl).1.trans f_x_claimCount
  replace f_x_tapeLength := (hs.o gx trivial rfl).1.trans f_x_tapeLength
  replace f_x_actCount := (hs.o gx trivial rfl).1.trans f_x_actCount
  replace f_x_heardCount := (hs.o gx trivial rfl).1.trans f_x_heardCount
  replace f_mw := (hs.o gm trivial rfl).2.trans f_mw
  replace f_mr := (hs.o gm trivial rfl).2.trans f_mr
  replace f_mp := (hs.o gm trivial rfl).2.trans f_mp
  replace f_mn := (hs.o gm trivial rfl).2.trans f_mn
  replace f_ml := (hs.o gm trivial rfl).2.trans f_ml
  replace f_mh := (hs.o gm trivial rfl).2.trans f_mh
  replace f_mt := (hs.o gm trivial rfl).2.trans f_mt
  replace f_m_fou := (hs.o gm trivial rfl).2.trans f_m_fou
  replace f_qo_ln := (hs.o gx trivial rfl).2.trans f_qo_ln
  replace f_o_ln := (hs.o g_qo_ln trivial rfl).1.trans f_o_ln
  replace f_qo_py := (hs.o gx trivial rfl).2.trans f_qo_py
  replace f_o_py := (hs.o g_qo_py trivial rfl).1.trans f_o_py
  replace f_qo_pmn := (hs.o gx trivial rfl).2.trans f_qo_pmn
  replace f_o_pmn := (hs.o g_qo_pmn trivial rfl).1.trans f_o_pmn
  replace f_b_of := (hs.o g_qo_ln trivial rfl).2.trans f_b_of
  replace f_m_of := (hs.o gm trivial rfl).2.trans f_m_of
  replace f_b_wf := (hs.o g_qo_ln trivial rfl).2.trans f_b_wf
  replace f_m_wf := (hs.o gm trivial rfl).2.trans f_m_wf
  replace f_b_df := (hs.o g_qo_ln trivial rfl).2.trans f_b_df
  replace f_m_df := (hs.o gm trivial rfl).2.trans f_m_df
  replace f_b_kf := (hs.o g_qo_ln trivial rfl).2.trans f_b_kf
  replace f_m_kf := (hs.o gm trivial rfl).2.trans f_m_kf
  replace f_b_sf := (hs.o g_qo_ln trivial rfl).2.trans f_b_sf
  replace f_m_sf := (hs.o gm trivial rfl).2.trans f_m_sf
  replace f_b_bf := (hs.o g_qo_ln trivial rfl).2.trans f_b_bf
  replace f_m_lst := (hs.o gm trivial rfl).2.trans f_m_lst
  replace f_qtp := (hs.o gx trivial rfl).2.trans f_qtp
  replace f_m_tp := (hs.o gm trivial rfl).2.trans f_m_tp
  replace f_m_dead := (hs.o gm trivial rfl).2.trans f_m_dead
  replace f_m_isj := (hs.o gm trivial rfl).2.trans f_m_isj
  replace f_m_dox := (hs.o gm trivial rfl).2.trans f_m_dox
  replace f_m_doy := (hs.o gm trivial rfl).2.trans f_m_doy
  replace f_qlt := (hs.o g_qw trivial rfl).2.trans f_qlt
  replace f_qlf := (hs.o g_qw trivial rfl).2.trans f_qlf
  replace f_m_wkd := (hs.o gm trivial rfl).2.trans f_m_wkd
  replace f_m_aga := (hs.o gm trivial rfl).2.trans f_m_aga
  replace f_qwo := (hs.o gx trivial rfl).2.trans f_qwo
  replace f_m_ad := (hs.o gm trivial rfl).2.trans f_m_ad
  replace f_m_by := (hs.o gm trivial rfl).2.trans f_m_by
  replace f_m_ho := (hs.o gm trivial rfl).2.trans f_m_ho
  replace f_m_fc := (hs.o gm trivial rfl).2.trans f_m_fc
  replace f_m_nt := (hs.o gm trivial rfl).2.trans f_m_nt
  replace f_m_wt := (hs.o gm trivial rfl).2.trans f_m_wt
  replace f_m_be := (hs.o gm trivial rfl).2.trans f_m_be
  replace f_m_bor := (hs.o gm trivial rfl).2.trans f_m_bor
  replace f_m_kin := (hs.o gm trivial rfl).2.trans f_m_kin
  replace f_m_sum := (hs.o gm trivial rfl).2.trans f_m_sum
  replace f_m_fro := (hs.o gm trivial rfl).2.trans f_m_fro
  replace f_m_fil := (hs.o gm trivial rfl).2.trans f_m_fil
  replace f_m_jud := (hs.o gm trivial rfl).2.trans f_m_jud
  replace f_m_ear := (hs.o gm trivial rfl).2.trans f_m_ear
  replace f_m_hds := (hs.o gm trivial rfl).2.trans f_m_hds
  replace f_m_ord := (hs.o gm trivial rfl).2.trans f_m_ord
  replace f_m_wkl := (hs.o gm trivial rfl).2.trans f_m_wkl
  replace f_m_owd := (hs.o gm trivial rfl).2.trans f_m_owd
  replace f_m_gds := (hs.o gm trivial rfl).2.trans f_m_gds
  replace f_m_szd := (hs.o gm trivial rfl).2.trans f_m_szd
  replace f_m_srv := (hs.o gm trivial rfl).2.trans f_m_srv
  replace f_y_p0 := (hs.o g_qo_py trivial rfl).2.trans f_y_p0
  replace f_m_p0 := (hs.o gm trivial rfl).2.trans f_m_p0
  replace f_y_p1 := (hs.o g_qo_py trivial rfl).2.trans f_y_p1
  replace f_m_p1 := (hs.o gm trivial rfl).2.trans f_m_p1
  replace f_y_p2 := (hs.o g_qo_py trivial rfl).2.trans f_y_p2
  replace f_m_p2 := (hs.o gm trivial rfl).2.trans f_m_p2
  replace f_y_p3 := (hs.o g_qo_py trivial rfl).2.trans f_y_p3
  replace f_m_p3 := (hs.o gm trivial rfl).2.trans f_m_p3
  replace f_y_p4 := (hs.o g_qo_py trivial rfl).2.trans f_y_p4
  replace f_m_p4 := (hs.o gm trivial rfl).2.trans f_m_p4
  replace f_qrg9 := (hs.o gx trivial rfl).2.trans f_qrg9
  replace f_y_ls := (hs.o g_qrg9 trivial rfl).2.trans f_y_ls
  replace f_m_rl := (hs.o gm trivial rfl).2.trans f_m_rl
  replace ffv_848 := (hs.o g_qrg9 trivial rfl).1.trans ffv_848
  replace ffv_849 := (hs.o gm trivial rfl).1.trans ffv_849
  replace ffv_850 := (hs.o gm trivial rfl).1.trans ffv_850
  replace f_y_pc := (hs.o g_qo_pmn trivial rfl).2.trans f_y_pc
  replace f_m_pc := (hs.o gm trivial rfl).2.trans f_m_pc
  replace f_y_pw := (hs.o g_qo_pmn trivial rfl).2.trans f_y_pw
  replace f_m_pw := (hs.o gm trivial rfl).2.trans f_m_pw
  replace f_y_pk := (hs.o g_qo_pmn trivial rfl).2.trans f_y_pk
  replace f_m_pk := (hs.o gm trivial rfl).2.trans f_m_pk
  replace pf_qa : ∀ j : Nat, (j : Int) < (h_852.2.1 ax 6).toInt → h_852.2.2 qa j ≠ none := by
    intro j hj; rw [(hs.o gx trivial rfl).1] at hj; rw [(hs.a g_qa rfl j).2]; exact pf_qa j hj
  replace pf_qp : ∀ j : Nat, (j : Int) < (h_852.2.1 ax 8).toInt → h_852.2.2 qp j ≠ none := by
    intro j hj; rw [(hs.o gx trivial rfl).1] at hj; rw [(hs.a g_qp rfl j).2]; exact pf_qp j hj
  replace pf_qc : ∀ j : Nat, (j : Int) < (h_852.2.1 ax 11).toInt → h_852.2.2 qc j ≠ none := by
    intro j hj; rw [(hs.o gx trivial rfl).1] at hj; rw [(hs.a g_qc rfl j).2]; exact pf_qc j hj
  replace pf_qh : ∀ j : Nat, (j : Int) < (h_852.2.1 ax 13).toInt → h_852.2.2 qh j ≠ none := by
    intro j hj; rw [(hs.o gx trivial rfl).1] at hj; rw [(hs.a g_qh rfl j).2]; exact pf_qh j hj
  replace cl_lst : hx_col 8 h_852 ql 0 = c_lst := (hx_col_S hs hTo g_ql tt_40 tt_2 rfl rfl).trans cl_lst
  replace cl_dead : hx_col 40 h_852 qp 7 = c_dead := (hx_col_S hs hTo g_qp tt_44 tt_4 rfl rfl).trans cl_dead
  replace cl_isj : hx_col 40 h_852 qp 8 = c_isj := (hx_col_S hs hTo g_qp tt_44 tt_4 rfl rfl).trans cl_isj
  replace cl_dox : hx_col 40 h_852 qp 5 = c_dox := (hx_col_S hs hTo g_qp tt_44 tt_4 rfl rfl).trans cl_dox
  replace cl_doy : hx_col 40 h_852 qp 6 = c_doy := (hx_col_S hs hTo g_qp tt_44 tt_4 rfl rfl).trans cl_doy
  replace cl_fou : hx_col 100 h_852 qc 10 = c_fou := (hx_col_S hs hTo g_qc tt_45 tt_2 rfl rfl).trans cl_fou
  replace cl_tri : hx_col 100 h_852 qc 9 = c_tri := (hx_col_S hs hTo g_qc tt_45 tt_2 rfl rfl).trans cl_tri
  replace cl_bor : hx_col 40 h_852 qp 1 = F_bor := (hx_col_S hs hTo g_qp tt_44 tt_4 rfl rfl).trans cl_bor
  replace cl_kin : hx_col 40 h_852 qp 2 = F_kin := (hx_col_S hs hTo g_qp tt_44 tt_4 rfl rfl).trans cl_kin
  replace cl_sum : hx_col 100 h_852 qc 6 = F_sum := (hx_col_S hs hTo g_qc tt_45 tt_2 rfl rfl).trans cl_sum
  replace cl_fro : hx_col 100 h_852 qc 7 = F_fro := (hx_col_S hs hTo g_qc tt_45 tt_2 rfl rfl).trans cl_fro
  replace cl_fil : hx_col 100 h_852 qc 8 = F_fil := (hx_col_S hs hTo g_qc tt_45 tt_2 rfl rfl).trans cl_fil
  replace cl_hea : hx_col 100 h_852 qc 11 = F_mh := (hx_col_S hs hTo g_qc tt_45 tt_2 rfl rfl).trans cl_hea
  replace cl_jud : hx_col 100 h_852 qc 12 = F_jud := (hx_col_S hs hTo g_qc tt_45 tt_2 rfl rfl).trans cl_jud
  replace cl_ear : hx_col 40 h_852 qp 3 = F_ear := (hx_col_S hs hTo g_qp tt_44 tt_4 rfl rfl).trans cl_ear
  replace cl_hds : hx_col 40 h_852 qp 4 = F_hds := (hx_col_S hs hTo g_qp tt_44 tt_4 rfl rfl).trans cl_hds
  replace cl_ord : hx_col 100 h_852 qc 13 = F_ord := (hx_col_S hs hTo g_qc tt_45 tt_2 rfl rfl).trans cl_ord
  replace cl_wkl : hx_col 100 h_852 qc 14 = F_wkl := (hx_col_S hs hTo g_qc tt_45 tt_2 rfl rfl).trans cl_wkl
  replace cl_owd : hx_col 100 h_852 qc 15 = F_owd := (hx_col_S hs hTo g_qc tt_45 tt_2 rfl rfl).trans cl_owd
  replace cl_gds : hx_col 100 h_852 qc 17 = F_gds := (hx_col_S hs hTo g_qc tt_45 tt_2 rfl rfl).trans cl_gds
  replace cl_szd : hx_col 100 h_852 qc 16 = F_szd := (hx_col_S hs hTo g_qc tt_45 tt_2 rfl rfl).trans cl_szd
  replace cl_srv : hx_col 100 h_852 qc 18 = F_srv := (hx_col_S hs hTo g_qc tt_45 tt_2 rfl rfl).trans cl_srv
  replace nu_qp : hx_num 40 h_852 qp 0 (np.toInt) := hx_num_S hs hTo g_qp tt_44 tt_4 rfl rfl nu_qp
  replace nu_qc : hx_num 100 h_852 qc 0 (c0.toInt) := hx_num_S hs hTo g_qc tt_45 tt_2 rfl rfl nu_qc
  replace sb_list : hx_LQ 8 100 h_852 ql qc := hx_LQ_S hs g_ql g_qc rfl rfl sb_list
  replace hDF : hw_DF h_852 qc qp 2 F_aga c0.toInt := hw_DF_S hs hTo g_qc g_qp tt_45 tt_2 rfl rfl rfl hDF
  replace hRA9 : hv_RA h_852 qa qwo a0.toInt A9 := hv_RA_S hs hTo g_qa g_qwo tt_43 tt_0 rfl rfl rfl rfl rfl rfl ?o18 hRA9
  case o18 => omega
  replace hDP : hw_DF h_852 qc qp 1 F_by c0.toInt := hw_DF_S hs hTo g_qc g_qp tt_45 tt_2 rfl rfl rfl hDP
  replace hAC9 : hv_AC h_852 qc F_ml c0.toInt A9 := hv_AC_S hs hTo g_qc tt_45 tt_2 rfl tt_0 rfl rfl rfl rfl rfl rfl rfl hAC9
  replace hFX : hv_FX 8 4 h_852 qc cF9L c0.toInt := hv_FX_S hs hTo g_qc tt_45 tt_2 rfl rfl rfl rfl hFX
  replace hBX : hv_FX 3 5 h_852 qc F_be c0.toInt := hv_FX_S hs hTo g_qc tt_45 tt_2 rfl rfl rfl rfl hBX
  replace hHL : hv_HL h_852 qh qc F_ho m0.toInt c0.toInt := hv_HL_S hs g_qh g_qc rfl rfl hHL
  replace n_mw : h_852.2.1 mw = F_mw := (funext fun j => (hs.a g_mw rfl j).1).trans n_mw
  replace n_mr : h_852.2.1 mr = F_mr := (funext fun j => (hs.a g_mr rfl j).1).trans n_mr
  replace n_mp : h_852.2.1 mp = F_mp := (funext fun j => (hs.a g_mp rfl j).1).trans n_mp
  replace n_mn : h_852.2.1 mn = F_mn := (funext fun j => (hs.a g_mn rfl j).1).trans n_mn
  replace n_ml : h_852.2.1 ml = F_ml := (funext fun j => (hs.a g_ml rfl j).1).trans n_ml
  replace n_mh : h_852.2.1 mh = F_mh := (funext fun j => (hs.a g_mh rfl j).1).trans n_mh
  replace n_mt : h_852.2.1 mt = F_mt := (funext fun j => (hs.a g_mt rfl j).1).trans n_mt
  replace n_m_fou : h_852.2.1 m_fou = F_m_fou := (funext fun j => (hs.a g_m_fou rfl j).1).trans n_m_fou
  replace n_b_of : h_852.2.1 b_of = B_of := (funext fun j => (hs.a g_b_of rfl j).1).trans n_b_of
  replace n_m_of : h_852.2.1 m_of = F_of := (funext fun j => (hs.a g_m_of rfl j).1).trans n_m_of
  replace n_b_wf : h_852.2.1 b_wf = B_wf := (funext fun j => (hs.a g_b_wf rfl j).1).trans n_b_wf
  replace n_m_wf : h_852.2.1 m_wf = F_wf := (funext fun j => (hs.a g_m_wf rfl j).1).trans n_m_wf
  replace n_b_df : h_852.2.1 b_df = B_df := (funext fun j => (hs.a g_b_df rfl j).1).trans n_b_df
  replace n_m_df : h_852.2.1 m_df = F_df := (funext fun j => (hs.a g_m_df rfl j).1).trans n_m_df
  replace n_b_kf : h_852.2.1 b_kf = B_kf := (funext fun j => (hs.a g_b_kf rfl j).1).trans n_b_kf
  replace n_m_kf : h_852.2.1 m_kf = F_kf := (funext fun j => (hs.a g_m_kf rfl j).1).trans n_m_kf
  replace n_b_sf : h_852.2.1 b_sf = B_sf := (funext fun j => (hs.a g_b_sf rfl j).1).trans n_b_sf
  replace n_m_sf : h_852.2.1 m_sf = F_sf := (funext fun j => (hs.a g_m_sf rfl j).1).trans n_m_sf
  replace n_b_bf : h_852.2.1 b_bf = bfL := (funext fun j => (hs.a g_b_bf rfl j).1).trans n_b_bf
  replace n_lst : h_852.2.1 m_lst = F_lst := (funext fun j => (hs.a g_m_lst rfl j).1).trans n_lst
  replace n_tp : h_852.2.1 m_tp = F_tp := (funext fun j => (hs.a g_m_tp rfl j).1).trans n_tp
  replace n_qtp : h_852.2.1 qtp = F_tp := (funext fun j => (hs.a g_qtp rfl j).1).trans n_qtp
  replace n_dead : h_852.2.1 m_dead = F_dead := (funext fun j => (hs.a g_m_dead rfl j).1).trans n_dead
  replace n_isj : h_852.2.1 m_isj = F_isj := (funext fun j => (hs.a g_m_isj rfl j).1).trans n_isj
  replace n_dox : h_852.2.1 m_dox = F_dox := (funext fun j => (hs.a g_m_dox rfl j).1).trans n_dox
  replace n_doy : h_852.2.1 m_doy = F_doy := (funext fun j => (hs.a g_m_doy rfl j).1).trans n_doy
  replace n_m_wkd : h_852.2.1 m_wkd = F_m_wkd := (funext fun j => (hs.a g_m_wkd rfl j).1).trans n_m_wkd
  replace n_aga : h_852.2.1 m_aga = F_aga := (funext fun j => (hs.a g_m_aga rfl j).1).trans n_aga
  replace n_ad : h_852.2.1 m_ad = F_ad := (funext fun j => (hs.a g_m_ad rfl j).1).trans n_ad
  replace n_by : h_852.2.1 m_by = F_by := (funext fun j => (hs.a g_m_by rfl j).1).trans n_by
  replace n_ho : h_852.2.1 m_ho = F_ho := (funext fun j => (hs.a g_m_ho rfl j).1).trans n_ho
  replace n_fc : h_852.2.1 m_fc = F_fc := (funext fun j => (hs.a g_m_fc rfl j).1).trans n_fc
  replace n_nt : h_852.2.1 m_nt = F_nt := (funext fun j => (hs.a g_m_nt rfl j).1).trans n_nt
  replace n_wt : h_852.2.1 m_wt = F_wt := (funext fun j => (hs.a g_m_wt rfl j).1).trans n_wt
  replace n_be : h_852.2.1 m_be = F_be := (funext fun j => (hs.a g_m_be rfl j).1).trans n_be
  replace n_bor : h_852.2.1 m_bor = F_bor := (funext fun j => (hs.a g_m_bor rfl j).1).trans n_bor
  replace n_kin : h_852.2.1 m_kin = F_kin := (funext fun j => (hs.a g_m_kin rfl j).1).trans n_kin
  replace n_sum : h_852.2.1 m_sum = F_sum := (funext fun j => (hs.a g_m_sum rfl j).1).trans n_sum
  replace n_fro : h_852.2.1 m_fro = F_fro := (funext fun j => (hs.a g_m_fro rfl j).1).trans n_fro
  replace n_fil : h_852.2.1 m_fil = F_fil := (funext fun j => (hs.a g_m_fil rfl j).1).trans n_fil
  replace n_jud : h_852.2.1 m_jud = F_jud := (funext fun j => (hs.a g_m_jud rfl j).1).trans n_jud
  replace n_ear : h_852.2.1 m_ear = F_ear := (funext fun j => (hs.a g_m_ear rfl j).1).trans n_ear
  replace n_hds : h_852.2.1 m_hds = F_hds := (funext fun j => (hs.a g_m_hds rfl j).1).trans n_hds
  replace n_ord : h_852.2.1 m_ord = F_ord := (funext fun j => (hs.a g_m_ord rfl j).1).trans n_ord
  replace n_wkl : h_852.2.1 m_wkl = F_wkl := (funext fun j => (hs.a g_m_wkl rfl j).1).trans n_wkl
  replace n_owd : h_852.2.1 m_owd = F_owd := (funext fun j => (hs.a g_m_owd rfl j).1).trans n_owd
  replace n_gds : h_852.2.1 m_gds = F_gds := (funext fun j => (hs.a g_m_gds rfl j).1).trans n_gds
  replace n_szd : h_852.2.1 m_szd = F_szd := (funext fun j => (hs.a g_m_szd rfl j).1).trans n_szd
  replace n_srv : h_852.2.1 m_srv = F_srv := (funext fun j => (hs.a g_m_srv rfl j).1).trans n_srv
  replace n_p0 : h_852.2.1 m_p0 = F_p0 := (funext fun j => (hs.a g_m_p0 rfl j).1).trans n_p0
  replace n_y_p0 : h_852.2.1 y_p0 = F_p0 := (funext fun j => (hs.a g_y_p0 rfl j).1).trans n_y_p0
  replace n_p1 : h_852.2.1 m_p1 = F_p1 := (funext fun j => (hs.a g_m_p1 rfl j).1).trans n_p1
  replace n_y_p1 : h_852.2.1 y_p1 = F_p1 := (funext fun j => (hs.a g_y_p1 rfl j).1).trans n_y_p1
  replace n_p2 : h_852.2.1 m_p2 = F_p2 := (funext fun j => (hs.a g_m_p2 rfl j).1).trans n_p2
  replace n_y_p2 : h_852.2.1 y_p2 = F_p2 := (funext fun j => (hs.a g_y_p2 rfl j).1).trans n_y_p2
  replace n_p3 : h_852.2.1 m_p3 = F_p3 := (funext fun j => (hs.a g_m_p3 rfl j).1).trans n_p3
  replace n_y_p3 : h_852.2.1 y_p3 = F_p3 := (funext fun j => (hs.a g_y_p3 rfl j).1).trans n_y_p3
  replace n_p4 : h_852.2.1 m_p4 = F_p4 := (funext fun j => (hs.a g_m_p4 rfl j).1).trans n_p4
  replace n_y_p4 : h_852.2.1 y_p4 = F_p4 := (funext fun j => (hs.a g_y_p4 rfl j).1).trans n_y_p4
  replace n_y_ls : h_852.2.1 y_ls = F_y_ls := (funext fun j => (hs.a g_y_ls rfl j).1).trans n_y_ls
  replace n_m_rl : h_852.2.1 m_rl = F_m_rl := (funext fun j => (hs.a g_m_rl rfl j).1).trans n_m_rl
  replace n_y_pc : h_852.2.1 y_pc = F_y_pc := (funext fun j => (hs.a g_y_pc rfl j).1).trans n_y_pc
  replace n_m_pc : h_852.2.1 m_pc = F_m_pc := (funext fun j => (hs.a g_m_pc rfl j).1).trans n_m_pc
  replace n_y_pw : h_852.2.1 y_pw = F_y_pw := (funext fun j => (hs.a g_y_pw rfl j).1).trans n_y_pw
  replace n_m_pw : h_852.2.1 m_pw = F_m_pw := (funext fun j => (hs.a g_m_pw rfl j).1).trans n_m_pw
  replace n_y_pk : h_852.2.1 y_pk = F_y_pk := (funext fun j => (hs.a g_y_pk rfl j).1).trans n_y_pk
  replace n_m_pk : h_852.2.1 m_pk = F_m_pk := (funext fun j => (hs.a g_m_pk rfl j).1).trans n_m_pk
  replace gx := gx.S hs
  replace gm := gm.S hs
  replace g_qa := g_qa.S hs
  replace g_qp := g_qp.S hs
  replace g_qc := g_qc.S hs
  replace g_qh := g_qh.S hs
  replace g_qw := g_qw.S hs
  replace g_ql := g_ql.S hs
  replace g_mw := g_mw.S hs
  replace g_mr := g_mr.S hs
  replace g_mp := g_mp.S hs
  replace g_mn := g_mn.S hs
  replace g_ml := g_ml.S hs
  replace g_mh := g_mh.S hs
  replace g_mt := g_mt.S hs
  replace g_m_fou := g_m_fou.S hs
  replace g_qo_ln := g_qo_ln.S hs
  replace g_qo_py := g_qo_py.S hs
  replace g_qo_pmn := g_qo_pmn.S hs
  replace g_b_of := g_b_of.S hs
  replace g_m_of := g_m_of.S hs
  replace g_b_wf := g_b_wf.S hs
  replace g_m_wf := g_m_wf.S hs
  replace g_b_df := g_b_df.S hs
  replace g_m_df := g_m_df.S hs
  replace g_b_kf := g_b_kf.S hs
  replace g_m_kf := g_m_kf.S hs
  replace g_b_sf := g_b_sf.S hs
  replace g_m_sf := g_m_sf.S hs
  replace g_b_bf := g_b_bf.S hs
  replace g_m_lst := g_m_lst.S hs
  replace g_qtp := g_qtp.S hs
  replace g_m_tp := g_m_tp.S hs
  replace g_m_dead := g_m_dead.S hs
  replace g_m_isj := g_m_isj.S hs
  replace g_m_dox := g_m_dox.S hs
  replace g_m_doy := g_m_doy.S hs
  replace g_qlt := g_qlt.S hs
  replace g_qlf := g_qlf.S hs
  replace g_m_wkd := g_m_wkd.S hs
  replace g_m_aga := g_m_aga.S hs
  replace g_qwo := g_qwo.S hs
  replace g_m_ad := g_m_ad.S hs
  replace g_m_by := g_m_by.S hs
  replace g_m_ho := g_m_ho.S hs
  replace g_m_fc := g_m_fc.S hs
  replace g_m_nt := g_m_nt.S hs
  replace g_m_wt := g_m_wt.S hs
  replace g_m_be := g_m_be.S hs
  replace g_m_bor := g_m_bor.S hs
  replace g_m_kin := g_m_kin.S hs
  replace g_m_sum := g_m_sum.S hs
  replace g_m_fro := g_m_fro.S hs
  replace g_m_fil := g_m_fil.S hs
  replace g_m_jud := g_m_jud.S hs
  replace g_m_ear := g_m_ear.S hs
  replace g_m_hds := g_m_hds.S hs
  replace g_m_ord := g_m_ord.S hs
  replace g_m_wkl := g_m_wkl.S hs
  replace g_m_owd := g_m_owd.S hs
  replace g_m_gds := g_m_gds.S hs
  replace g_m_szd := g_m_szd.S hs
  replace g_m_srv := g_m_srv.S hs
  replace g_y_p0 := g_y_p0.S hs
  replace g_m_p0 := g_m_p0.S hs
  replace g_y_p1 := g_y_p1.S hs
  replace g_m_p1 := g_m_p1.S hs
  replace g_y_p2 := g_y_p2.S hs
  replace g_m_p2 := g_m_p2.S hs
  replace g_y_p3 := g_y_p3.S hs
  replace g_m_p3 := g_m_p3.S hs
  replace g_y_p4 := g_y_p4.S hs
  replace g_m_p4 := g_m_p4.S hs
  replace g_qrg9 := g_qrg9.S hs
  replace g_y_ls := g_y_ls.S hs
  replace g_m_rl := g_m_rl.S hs
  replace g_y_pc := g_y_pc.S hs
  replace g_m_pc := g_m_pc.S hs
  replace g_y_pw := g_y_pw.S hs
  replace g_m_pw := g_m_pw.S hs
  replace g_y_pk := g_y_pk.S hs
  replace g_m_pk := g_m_pk.S hs
  have fw_856 : h_852.2.1 qw 0 = w_856 := fw_856
  have bw_856 := hT.gi g_qw tt_8 (k := 0) rfl
  rw [fw_856] at bw_856
  have bw_856 : 0 ≤ w_856.toInt ∧ w_856.toInt ≤ 8 := bw_856
  have fw_857 : h_852.2.1 qw 1 = w_857 := fw_857
  have bw_857 := hT.gi g_qw tt_8 (k := 1) rfl
  rw [fw_857] at bw_857
  have bw_857 : 0 ≤ w_857.toInt ∧ w_857.toInt ≤ 8 := bw_857
  have fw_858 : h_852.2.1 qlt = w_858 := fw_858
  refine lv_pop hx hb dL_law_1258 rfl ?_
  refine lv_aload_n hx hb dL_law_1259 rfl (lv_at hl 1 rfl) ?_
  have hTo := hT
  obtain ⟨q_859, fq_859, gq_859⟩ := hx_rf hT gm tt_10 (k := 94) (u := 114) rfl
  obtain ⟨fa_860, nfa_860⟩ : ∃ g : Nat → Int32, h_852.2.1 q_859 = g := ⟨_, rfl⟩
  refine hx_goi (hx_runV (As := []) (rest := []) ⟨hx, hb, hml, hown, hts⟩ hW gm tt_10 (T := TX10) (N := 98) rfl (t_X10_walk l dC dI dA L_851 h_852 H.size am hT gm m_lst g_m_lst f_m_lst m_aga g_m_aga f_m_aga m_dox g_m_dox f_m_dox m_doy g_m_doy f_m_doy q_859 gq_859 fq_859 m_wkd g_m_wkd f_m_wkd F_lst n_lst F_aga n_aga F_dox n_dox F_doy n_doy fa_860 nfa_860 F_m_wkd n_m_wkd lsd f_m_listed) (cwV 0 hts (hx_gV kw_1721 kw_1718 kw_1719 kw_1720 kw_103) rfl rfl rfl (by decide +kernel) ⟨Nat.le_of_ble_eq_true rfl, Nat.le_of_ble_eq_true rfl⟩) rfl hl.1 rfl (Nat.le_of_ble_eq_true rfl) dL_law_1260 ⟨(show CC + 0 + 0 ≤ 600000 from ?o19), (show SS + 0 + 0 ≤ 7302250 from ?o20)⟩) hW (fun r_863 L_861 h_862 H locs p_864 hW => ?_)
  case o19 => omega
  case o20 => omega
  obtain ⟨⟨w_866, w_867, w_868, fw_866, fw_867, fw_868, hr_865⟩, hT, hs⟩ := p_864
  replace hT : hx_T T_tb L_861 h_862 := hT
  replace hs : hx_S T_tb [(10, 90), (10, 92), (113, 0), (114, 0)] L_851 h_852 L_861 h_862 := hs
  replace f_qa := (hs.o gx trivial rfl).2.trans f_qa
  replace f_qp := (hs.o gx trivial rfl).2.trans f_qp
  replace f_qc := (hs.o gx trivial rfl).2.trans f_qc
  replace f_qh := (hs.o gx trivial rfl).2.trans f_qh
  replace f_qw := (hs.o gx trivial rfl).2.trans f_qw
  replace f_ql := (hs.o g_qw trivial rfl).2.trans f_ql
  replace f_m_now := (hs.o gm trivial rfl).1.trans f_m_now
  replace f_m_persons := (hs.o gm trivial rfl).1.trans f_m_persons
  replace f_m_claims := (hs.o gm trivial rfl).1.trans f_m_claims
  replace f_m_taped := (hs.o gm trivial rfl).1.trans f_m_taped
  replace f_m_acts := (hs.o gm trivial rfl).1.trans f_m_acts
  replace f_m_heardMany := (hs.o gm trivial rfl).1.trans f_m_heardMany
  replace f_m_lines := (hs.o gm trivial rfl).1.trans f_m_lines
  replace f_m_payments := (hs.o gm trivial rfl).1.trans f_m_payments
  replace f_m_planMany := (hs.o gm trivial rfl).1.trans f_m_planMany
  replace f_x_now := (hs.o gx trivial rfl).1.trans f_x_now
  replace f_x_personCount := (hs.o gx trivial rfl).1.trans f_x_personCount
  replace f_x_claimCount := (hs.o gx trivial rfl).1.trans f_x_claimCount
  replace f_x_tapeLength := (hs.o gx trivial rfl).1.trans f_x_tapeLength
  replace f_x_actCount := (hs.o gx trivial rfl).1.trans f_x_actCount
  replace f_x_heardCount := (hs.o gx trivial rfl).1.trans f_x_heardCount
  replace f_mw := (hs.o gm trivial rfl).2.trans f_mw
  replace f_mr := (hs.o gm trivial rfl).2.trans f_mr
  replace f_mp := (hs.o gm trivial rfl).2.trans f_mp
  replace f_mn := (hs.o gm trivial rfl).2.trans f_mn
  replace f_ml := (hs.o gm trivial rfl).2.trans f_ml
  replace f_mh := (hs.o gm trivial rfl).2.trans f_mh
  replace f_mt := (hs.o gm trivial rfl).2.trans f_mt
  replace f_m_fou := (hs.o gm trivial rfl).2.trans f_m_fou
  replace f_qo_ln := (hs.o gx trivial rfl).2.trans f_qo_ln
  replace f_o_ln := (hs.o g_qo_ln trivial rfl).1.trans f_o_ln
  replace f_qo_py := (hs.o gx trivial rfl).2.trans f_qo_py
  replace f_o_py := (hs.o g_qo_py trivial rfl).1.trans f_o_py
  replace f_qo_pmn := (hs.o gx trivial rfl).2.trans f_qo_pmn
  replace f_o_pmn := (hs.o g_qo_pmn trivial rfl).1.trans f_o_pmn
  replace f_b_of := (hs.o g_qo_ln trivial rfl).2.trans f_b_of
  replace f_m_of := (hs.o gm trivial rfl).2.trans f_m_of
  replace f_b_wf := (hs.o g_qo_ln trivial rfl).2.trans f_b_wf
  replace f_m_wf := (hs.o gm trivial rfl).2.trans f_m_wf
  replace f_b_df := (hs.o g_qo_ln trivial rfl).2.trans f_b_df
  replace f_m_df := (hs.o gm trivial rfl).2.trans f_m_df
  replace f_b_kf := (hs.o g_qo_ln trivial rfl).2.trans f_b_kf
  replace f_m_kf := (hs.o gm trivial rfl).2.trans f_m_kf
  replace f_b_sf := (hs.o g_qo_ln trivial rfl).2.trans f_b_sf
  replace f_m_sf := (hs.o gm trivial rfl).2.trans f_m_sf
  replace f_b_bf := (hs.o g_qo_ln trivial rfl).2.trans f_b_bf
  replace f_m_lst := (hs.o gm trivial rfl).2.trans f_m_lst
  replace f_qtp := (hs.o gx trivial rfl).2.trans f_qtp
  replace f_m_tp := (hs.o gm trivial rfl).2.trans f_m_tp
  replace f_m_dead := (hs.o gm trivial rfl).2.trans f_m_dead
  replace f_m_isj := (hs.o gm trivial rfl).2.trans f_m_isj
  replace f_m_dox := (hs.o gm trivial rfl).2.trans f_m_dox
  replace f_m_doy := (hs.o gm trivial rfl).2.trans f_m_doy
  replace f_qlt := (hs.o g_qw trivial rfl).2.trans f_qlt
  replace f_qlf := (hs.o g_qw trivial rfl).2.trans f_qlf
  replace f_m_wkd := (hs.o gm trivial rfl).2.trans f_m_wkd
  replace f_m_aga := (hs.o gm trivial rfl).2.trans f_m_aga
  replace f_qwo := (hs.o gx trivial rfl).2.trans f_qwo
  replace f_m_ad := (hs.o gm trivial rfl).2.trans f_m_ad
  replace f_m_by := (hs.o gm trivial rfl).2.trans f_m_by
  replace f_m_ho := (hs.o gm trivial rfl).2.trans f_m_ho
  replace f_m_fc := (hs.o gm trivial rfl).2.trans f_m_fc
  replace f_m_nt := (hs.o gm trivial rfl).2.trans f_m_nt
  replace f_m_wt := (hs.o gm trivial rfl).2.trans f_m_wt
  replace f_m_be := (hs.o gm trivial rfl).2.trans f_m_be
  replace f_m_bor := (hs.o gm trivial rfl).2.trans f_m_bor
  replace f_m_kin := (hs.o gm trivial rfl).2.trans f_m_kin
  replace f_m_sum := (hs.o gm trivial rfl).2.trans f_m_sum
  replace f_m_fro := (hs.o gm trivial rfl).2.trans f_m_fro
  replace f_m_fil := (hs.o gm trivial rfl).2.trans f_m_fil
  replace f_m_jud := (hs.o gm trivial rfl).2.trans f_m_jud
  replace f_m_ear := (hs.o gm trivial rfl).2.trans f_m_ear
  replace f_m_hds := (hs.o gm trivial rfl).2.trans f_m_hds
  replace f_m_ord := (hs.o gm trivial rfl).2.trans f_m_ord
  replace f_m_wkl := (hs.o gm trivial rfl).2.trans f_m_wkl
  replace f_m_owd := (hs.o gm trivial rfl).2.trans f_m_owd
  replace f_m_gds := (hs.o gm trivial rfl).2.trans f_m_gds
  replace f_m_szd := (hs.o gm trivial rfl).2.trans f_m_szd
  replace f_m_srv := (hs.o gm trivial rfl).2.trans f_m_srv
  replace f_y_p0 := (hs.o g_qo_py trivial rfl).2.trans f_y_p0
  replace f_m_p0 := (hs.o gm trivial rfl).2.trans f_m_p0
  replace f_y_p1 := (hs.o g_qo_py trivial rfl).2.trans f_y_p1
  replace f_m_p1 := (hs.o gm trivial rfl).2.trans f_m_p1
  replace f_y_p2 := (hs.o g_qo_py trivial rfl).2.trans f_y_p2
  replace f_m_p2 := (hs.o gm trivial rfl).2.trans f_m_p2
  replace f_y_p3 := (hs.o g_qo_py trivial rfl).2.trans f_y_p3
  replace f_m_p3 := (hs.o gm trivial rfl).2.trans f_m_p3
  replace f_y_p4 := (hs.o g_qo_py trivial rfl).2.trans f_y_p4
  replace f_m_p4 := (hs.o gm trivial rfl).2.trans f_m_p4
  replace f_qrg9 := (hs.o gx trivial rfl).2.trans f_qrg9
  replace f_y_ls := (hs.o g_qrg9 trivial rfl).2.trans f_y_ls
  replace f_m_rl := (hs.o gm trivial rfl).2.trans f_m_rl
  replace ffv_848 := (hs.o g_qrg9 trivial rfl).1.trans ffv_848
  replace ffv_849 := (hs.o gm trivial rfl).1.trans ffv_849
  replace ffv_850 := (hs.o gm trivial rfl).1.trans ffv_850
  replace f_y_pc := (hs.o g_qo_pmn trivial rfl).2.trans f_y_pc
  replace f_m_pc := (hs.o gm trivial rfl).2.trans f_m_pc
  replace f_y_pw := (hs.o g_qo_pmn trivial rfl).2.trans f_y_pw
  replace f_m_pw := (hs.o gm trivial rfl).2.trans f_m_pw
  replace f_y_pk := (hs.o g_qo_pmn trivial rfl).2.trans f_y_pk
  replace f_m_pk := (hs.o gm trivial rfl).2.trans f_m_pk
  replace fw_856 := (hs.o g_qw trivial rfl).1.trans fw_856
  replace fw_857 := (hs.o g_qw trivial rfl).1.trans fw_857
  replace fq_859 := (hs.o gm trivial rfl).2.trans fq_859
  replace pf_qa : ∀ j : Nat, (j : Int) < (h_862.2.1 ax 6).toInt → h_862.2.2 qa j ≠ none := by
    intro j hj; rw [(hs.o gx trivial rfl).1] at hj; rw [(hs.a g_qa rfl j).2]; exact pf_qa j hj
  replace pf_qp : ∀ j : Nat, (j : Int) < (h_862.2.1 ax 8).toInt → h_862.2.2 qp j ≠ none := by
    intro j hj; rw [(hs.o gx trivial rfl).1] at hj; rw [(hs.a g_qp rfl j).2]; exact pf_qp j hj
  replace pf_qc : ∀ j : Nat, (j : Int) < (h_862.2.1 ax 11).toInt → h_862.2.2 qc j ≠ none := by
    intro j hj; rw [(hs.o gx trivial rfl).1] at hj; rw [(hs.a g_qc rfl j).2]; exact pf_qc j hj
  replace pf_qh : ∀ j : Nat, (j : Int) < (h_862.2.1 ax 13).toInt → h_862.2.2 qh j ≠ none := by
    intro j hj; rw [(hs.o gx trivial rfl).1] at hj; rw [(hs.a g_qh rfl j).2]; exact pf_qh j hj
  replace cl_lst : hx_col 8 h_862 ql 0 = c_lst := (hx_col_S hs hTo g_ql tt_40 tt_2 rfl rfl).trans cl_lst
  replace cl_dead : hx_col 40 h_862 qp 7 = c_dead := (hx_col_S hs hTo g_qp tt_44 tt_4 rfl rfl).trans cl_dead
  replace cl_isj : hx_col 40 h_862 qp 8 = c_isj := (hx_col_S hs hTo g_qp tt_44 tt_4 rfl rfl).trans cl_isj
  replace cl_dox : hx_col 40 h_862 qp 5 = c_dox := (hx_col_S hs hTo g_qp tt_44 tt_4 rfl rfl).trans cl_dox
  replace cl_doy : hx_col 40 h_862 qp 6 = c_doy := (hx_col_S hs hTo g_qp tt_44 tt_4 rfl rfl).trans cl_doy
  replace cl_fou : hx_col 100 h_862 qc 10 = c_fou := (hx_col_S hs hTo g_qc tt_45 tt_2 rfl rfl).trans cl_fou
  replace cl_tri : hx_col 100 h_862 qc 9 = c_tri := (hx_col_S hs hTo g_qc tt_45 tt_2 rfl rfl).trans cl_tri
  replace cl_bor : hx_col 40 h_862 qp 1 = F_bor := (hx_col_S hs hTo g_qp tt_44 tt_4 rfl rfl).trans cl_bor
  replace cl_kin : hx_col 40 h_862 qp 2 = F_kin := (hx_col_S hs hTo g_qp tt_44 tt_4 rfl rfl).trans cl_kin
  replace cl_sum : hx_col 100 h_862 qc 6 = F_sum := (hx_col_S hs hTo g_qc tt_45 tt_2 rfl rfl).trans cl_sum
  replace cl_fro : hx_col 100 h_862 qc 7 = F_fro := (hx_col_S hs hTo g_qc tt_45 tt_2 rfl rfl).trans cl_fro
  replace cl_fil : hx_col 100 h_862 qc 8 = F_fil := (hx_col_S hs hTo g_qc tt_45 tt_2 rfl rfl).trans cl_fil
  replace cl_hea : hx_col 100 h_862 qc 11 = F_mh := (hx_col_S hs hTo g_qc tt_45 tt_2 rfl rfl).trans cl_hea
  replace cl_jud : hx_col 100 h_862 qc 12 = F_jud := (hx_col_S hs hTo g_qc tt_45 tt_2 rfl rfl).trans cl_jud
  replace cl_ear : hx_col 40 h_862 qp 3 = F_ear := (hx_col_S hs hTo g_qp tt_44 tt_4 rfl rfl).trans cl_ear
  replace cl_hds : hx_col 40 h_862 qp 4 = F_hds := (hx_col_S hs hTo g_qp tt_44 tt_4 rfl rfl).trans cl_hds
  replace cl_ord : hx_col 100 h_862 qc 13 = F_ord := (hx_col_S hs hTo g_qc tt_45 tt_2 rfl rfl).trans cl_ord
  replace cl_wkl : hx_col 100 h_862 qc 14 = F_wkl := (hx_col_S hs hTo g_qc tt_45 tt_2 rfl rfl).trans cl_wkl
  replace cl_owd : hx_col 100 h_862 qc 15 = F_owd := (hx_col_S hs hTo g_qc tt_45 tt_2 rfl rfl).trans cl_owd
  replace cl_gds : hx_col 100 h_862 qc 17 = F_gds := (hx_col_S hs hTo g_qc tt_45 tt_2 rfl rfl).trans cl_gds
  replace cl_szd : hx_col 100 h_862 qc 16 = F_szd := (hx_col_S hs hTo g_qc tt_45 tt_2 rfl rfl).trans cl_szd
  replace cl_srv : hx_col 100 h_862 qc 18 = F_srv := (hx_col_S hs hTo g_qc tt_45 tt_2 rfl rfl).trans cl_srv
  replace nu_qp : hx_num 40 h_862 qp 0 (np.toInt) := hx_num_S hs hTo g_qp tt_44 tt_4 rfl rfl nu_qp
  replace nu_qc : hx_num 100 h_862 qc 0 (c0.toInt) := hx_num_S hs hTo g_qc tt_45 tt_2 rfl rfl nu_qc
  replace sb_list : hx_LQ 8 100 h_862 ql qc := hx_LQ_S hs g_ql g_qc rfl rfl sb_list
  replace hDF : hw_DF h_862 qc qp 2 F_aga c0.toInt := hw_DF_S hs hTo g_qc g_qp tt_45 tt_2 rfl rfl rfl hDF
  replace hRA9 : hv_RA h_862 qa qwo a0.toInt A9 := hv_RA_S hs hTo g_qa g_qwo tt_43 tt_0 rfl rfl rfl rfl rfl rfl ?o21 hRA9
  case o21 => omega
  replace hDP : hw_DF h_862 qc qp 1 F_by c0.toInt := hw_DF_S hs hTo g_qc g_qp tt_45 tt_2 rfl rfl rfl hDP
  replace hAC9 : hv_AC h_862 qc F_ml c0.toInt A9 := hv_AC_S hs hTo g_qc tt_45 tt_2 rfl tt_0 rfl rfl rfl rfl rfl rfl rfl hAC9
  replace hFX : hv_FX 8 4 h_862 qc cF9L c0.toInt := hv_FX_S hs hTo g_qc tt_45 tt_2 rfl rfl rfl rfl hFX
  replace hBX : hv_FX 3 5 h_862 qc F_be c0.toInt := hv_FX_S hs hTo g_qc tt_45 tt_2 rfl rfl rfl rfl hBX
  replace hHL : hv_HL h_862 qh qc F_ho m0.toInt c0.toInt := hv_HL_S hs g_qh g_qc rfl rfl hHL
  replace n_mw : h_862.2.1 mw = F_mw := (funext fun j => (hs.a g_mw rfl j).1).trans n_mw
  replace n_mr : h_862.2.1 mr = F_mr := (funext fun j => (hs.a g_mr rfl j).1).trans n_mr
  replace n_mp : h_862.2.1 mp = F_mp := (funext fun j => (hs.a g_mp rfl j).1).trans n_mp
  replace n_mn : h_862.2.1 mn = F_mn := (funext fun j => (hs.a g_mn rfl j).1).trans n_mn
  replace n_ml : h_862.2.1 ml = F_ml := (funext fun j => (hs.a g_ml rfl j).1).trans n_ml
  replace n_mh : h_862.2.1 mh = F_mh := (funext fun j => (hs.a g_mh rfl j).1).trans n_mh
  replace n_mt : h_862.2.1 mt = F_mt := (funext fun j => (hs.a g_mt rfl j).1).trans n_mt
  replace n_m_fou : h_862.2.1 m_fou = F_m_fou := (funext fun j => (hs.a g_m_fou rfl j).1).trans n_m_fou
  replace n_b_of : h_862.2.1 b_of = B_of := (funext fun j => (hs.a g_b_of rfl j).1).trans n_b_of
  replace n_m_of : h_862.2.1 m_of = F_of := (funext fun j => (hs.a g_m_of rfl j).1).trans n_m_of
  replace n_b_wf : h_862.2.1 b_wf = B_wf := (funext fun j => (hs.a g_b_wf rfl j).1).trans n_b_wf
  replace n_m_wf : h_862.2.1 m_wf = F_wf := (funext fun j => (hs.a g_m_wf rfl j).1).trans n_m_wf
  replace n_b_df : h_862.2.1 b_df = B_df := (funext fun j => (hs.a g_b_df rfl j).1).trans n_b_df
  replace n_m_df : h_862.2.1 m_df = F_df := (funext fun j => (hs.a g_m_df rfl j).1).trans n_m_df
  replace n_b_kf : h_862.2.1 b_kf = B_kf := (funext fun j => (hs.a g_b_kf rfl j).1).trans n_b_kf
  replace n_m_kf : h_862.2.1 m_kf = F_kf := (funext fun j => (hs.a g_m_kf rfl j).1).trans n_m_kf
  replace n_b_sf : h_862.2.1 b_sf = B_sf := (funext fun j => (hs.a g_b_sf rfl j).1).trans n_b_sf
  replace n_m_sf : h_862.2.1 m_sf = F_sf := (funext fun j => (hs.a g_m_sf rfl j).1).trans n_m_sf
  replace n_b_bf : h_862.2.1 b_bf = bfL := (funext fun j => (hs.a g_b_bf rfl j).1).trans n_b_bf
  replace n_lst : h_862.2.1 m_lst = F_lst := (funext fun j => (hs.a g_m_lst rfl j).1).trans n_lst
  replace n_tp : h_862.2.1 m_tp = F_tp := (funext fun j => (hs.a g_m_tp rfl j).1).trans n_tp
  replace n_qtp : h_862.2.1 qtp = F_tp := (funext fun j => (hs.a g_qtp rfl j).1).trans n_qtp
  replace n_dead : h_862.2.1 m_dead = F_dead := (funext fun j => (hs.a g_m_dead rfl j).1).trans n_dead
  replace n_isj : h_862.2.1 m_isj = F_isj := (funext fun j => (hs.a g_m_isj rfl j).1).trans n_isj
  replace n_dox : h_862.2.1 m_dox = F_dox := (funext fun j => (hs.a g_m_dox rfl j).1).trans n_dox
  replace n_doy : h_862.2.1 m_doy = F_doy := (funext fun j => (hs.a g_m_doy rfl j).1).trans n_doy
  replace n_aga : h_862.2.1 m_aga = F_aga := (funext fun j => (hs.a g_m_aga rfl j).1).trans n_aga
  replace n_ad : h_862.2.1 m_ad = F_ad := (funext fun j => (hs.a g_m_ad rfl j).1).trans n_ad
  replace n_by : h_862.2.1 m_by = F_by := (funext fun j => (hs.a g_m_by rfl j).1).trans n_by
  replace n_ho : h_862.2.1 m_ho = F_ho := (funext fun j => (hs.a g_m_ho rfl j).1).trans n_ho
  replace n_fc : h_862.2.1 m_fc = F_fc := (funext fun j => (hs.a g_m_fc rfl j).1).trans n_fc
  replace n_nt : h_862.2.1 m_nt = F_nt := (funext fun j => (hs.a g_m_nt rfl j).1).trans n_nt
  replace n_wt : h_862.2.1 m_wt = F_wt := (funext fun j => (hs.a g_m_wt rfl j).1).trans n_wt
  replace n_be : h_862.2.1 m_be = F_be := (funext fun j => (hs.a g_m_be rfl j).1).trans n_be
  replace n_bor : h_862.2.1 m_bor = F_bor := (funext fun j => (hs.a g_m_bor rfl j).1).trans n_bor
  replace n_kin : h_862.2.1 m_kin = F_kin := (funext fun j => (hs.a g_m_kin rfl j).1).trans n_kin
  replace n_sum : h_862.2.1 m_sum = F_sum := (funext fun j => (hs.a g_m_sum rfl j).1).trans n_sum
  replace n_fro : h_862.2.1 m_fro = F_fro := (funext fun j => (hs.a g_m_fro rfl j).1).trans n_fro
  replace n_fil : h_862.2.1 m_fil = F_fil := (funext fun j => (hs.a g_m_fil rfl j).1).trans n_fil
  replace n_jud : h_862.2.1 m_jud = F_jud := (funext fun j => (hs.a g_m_jud rfl j).1).trans n_jud
  replace n_ear : h_862.2.1 m_ear = F_ear := (funext fun j => (hs.a g_m_ear rfl j).1).trans n_ear
  replace n_hds : h_862.2.1 m_hds = F_hds := (funext fun j => (hs.a g_m_hds rfl j).1).trans n_hds
  replace n_ord : h_862.2.1 m_ord = F_ord := (funext fun j => (hs.a g_m_ord rfl j).1).trans n_ord
  replace n_wkl : h_862.2.1 m_wkl = F_wkl := (funext fun j => (hs.a g_m_wkl rfl j).1).trans n_wkl
  replace n_owd : h_862.2.1 m_owd = F_owd := (funext fun j => (hs.a g_m_owd rfl j).1).trans n_owd
  replace n_gds : h_862.2.1 m_gds = F_gds := (funext fun j => (hs.a g_m_gds rfl j).1).trans n_gds
  replace n_szd : h_862.2.1 m_szd = F_szd := (funext fun j => (hs.a g_m_szd rfl j).1).trans n_szd
  replace n_srv : h_862.2.1 m_srv = F_srv := (funext fun j => (hs.a g_m_srv rfl j).1).trans n_srv
  replace n_p0 : h_862.2.1 m_p0 = F_p0 := (funext fun j => (hs.a g_m_p0 rfl j).1).trans n_p0
  replace n_y_p0 : h_862.2.1 y_p0 = F_p0 := (funext fun j => (hs.a g_y_p0 rfl j).1).trans n_y_p0
  replace n_p1 : h_862.2.1 m_p1 = F_p1 := (funext fun j => (hs.a g_m_p1 rfl j).1).trans n_p1
  replace n_y_p1 : h_862.2.1 y_p1 = F_p1 := (funext fun j => (hs.a g_y_p1 rfl j).1).trans n_y_p1
  replace n_p2 : h_862.2.1 m_p2 = F_p2 := (funext fun j => (hs.a g_m_p2 rfl j).1).trans n_p2
  replace n_y_p2 : h_862.2.1 y_p2 = F_p2 := (funext fun j => (hs.a g_y_p2 rfl j).1).trans n_y_p2
  replace n_p3 : h_862.2.1 m_p3 = F_p3 := (funext fun j => (hs.a g_m_p3 rfl j).1).trans n_p3
  replace n_y_p3 : h_862.2.1 y_p3 = F_p3 := (funext fun j => (hs.a g_y_p3 rfl j).1).trans n_y_p3
  replace n_p4 : h_862.2.1 m_p4 = F_p4 := (funext fun j => (hs.a g_m_p4 rfl j).1).trans n_p4
  replace n_y_p4 : h_862.2.1 y_p4 = F_p4 := (funext fun j => (hs.a g_y_p4 rfl j).1).trans n_y_p4
  replace n_y_ls : h_862.2.1 y_ls = F_y_ls := (funext fun j => (hs.a g_y_ls rfl j).1).trans n_y_ls
  replace n_m_rl : h_862.2.1 m_rl = F_m_rl := (funext fun j => (hs.a g_m_rl rfl j).1).trans n_m_rl
  replace n_y_pc : h_862.2.1 y_pc = F_y_pc := (funext fun j => (hs.a g_y_pc rfl j).1).trans n_y_pc
  replace n_m_pc : h_862.2.1 m_pc = F_m_pc := (funext fun j => (hs.a g_m_pc rfl j).1).trans n_m_pc
  replace n_y_pw : h_862.2.1 y_pw = F_y_pw := (funext fun j => (hs.a g_y_pw rfl j).1).trans n_y_pw
  replace n_m_pw : h_862.2.1 m_pw = F_m_pw := (funext fun j => (hs.a g_m_pw rfl j).1).trans n_m_pw
  replace n_y_pk : h_862.2.1 y_pk = F_y_pk := (funext fun j => (hs.a g_y_pk rfl j).1).trans n_y_pk
  replace n_m_pk : h_862.2.1 m_pk = F_m_pk := (funext fun j => (hs.a g_m_pk rfl j).1).trans n_m_pk
  replace fw_858 : h_862.2.1 qlt = w_858 := (funext fun j => (hs.a g_qlt rfl j).1).trans fw_858
  replace gx := gx.S hs
  replace gm := gm.S hs
  replace g_qa := g_qa.S hs
  replace g_qp := g_qp.S hs
  replace g_qc := g_qc.S hs
  replace g_qh := g_qh.S hs
  replace g_qw := g_qw.S hs
  replace g_ql := g_ql.S hs
  replace g_mw := g_mw.S hs
  replace g_mr := g_mr.S hs
  replace g_mp := g_mp.S hs
  replace g_mn := g_mn.S hs
  replace g_ml := g_ml.S hs
  replace g_mh := g_mh.S hs
  replace g_mt := g_mt.S hs
  replace g_m_fou := g_m_fou.S hs
  replace g_qo_ln := g_qo_ln.S hs
  replace g_qo_py := g_qo_py.S hs
  replace g_qo_pmn := g_qo_pmn.S hs
  replace g_b_of := g_b_of.S hs
  replace g_m_of := g_m_of.S hs
  replace g_b_wf := g_b_wf.S hs
  replace g_m_wf := g_m_wf.S hs
  replace g_b_df := g_b_df.S hs
  replace g_m_df := g_m_df.S hs
  replace g_b_kf := g_b_kf.S hs
  replace g_m_kf := g_m_kf.S hs
  replace g_b_sf := g_b_sf.S hs
  replace g_m_sf := g_m_sf.S hs
  replace g_b_bf := g_b_bf.S hs
  replace g_m_lst := g_m_lst.S hs
  replace g_qtp := g_qtp.S hs
  replace g_m_tp := g_m_tp.S hs
  replace g_m_dead := g_m_dead.S hs
  replace g_m_isj := g_m_isj.S hs
  replace g_m_dox := g_m_dox.S hs
  replace g_m_doy := g_m_doy.S hs
  replace g_qlt := g_qlt.S hs
  replace g_qlf := g_qlf.S hs
  replace g_m_wkd := g_m_wkd.S hs
  replace g_m_aga := g_m_aga.S hs
  replace g_qwo := g_qwo.S hs
  replace g_m_ad := g_m_ad.S hs
  replace g_m_by := g_m_by.S hs
  replace g_m_ho := g_m_ho.S hs
  replace g_m_fc := g_m_fc.S hs
  replace g_m_nt := g_m_nt.S hs
  replace g_m_wt := g_m_wt.S hs
  replace g_m_be := g_m_be.S hs
  replace g_m_bor := g_m_bor.S hs
  replace g_m_kin := g_m_kin.S hs
  replace g_m_sum := g_m_sum.S hs
  replace g_m_fro := g_m_fro.S hs
  replace g_m_fil := g_m_fil.S hs
  replace g_m_jud := g_m_jud.S hs
  replace g_m_ear := g_m_ear.S hs
  replace g_m_hds := g_m_hds.S hs
  replace g_m_ord := g_m_ord.S hs
  replace g_m_wkl := g_m_wkl.S hs
  replace g_m_owd := g_m_owd.S hs
  replace g_m_gds := g_m_gds.S hs
  replace g_m_szd := g_m_szd.S hs
  replace g_m_srv := g_m_srv.S hs
  replace g_y_p0 := g_y_p0.S hs
  replace g_m_p0 := g_m_p0.S hs
  replace g_y_p1 := g_y_p1.S hs
  replace g_m_p1 := g_m_p1.S hs
  replace g_y_p2 := g_y_p2.S hs
  replace g_m_p2 := g_m_p2.S hs
  replace g_y_p3 := g_y_p3.S hs
  replace g_m_p3 := g_m_p3.S hs
  replace g_y_p4 := g_y_p4.S hs
  replace g_m_p4 := g_m_p4.S hs
  replace g_qrg9 := g_qrg9.S hs
  replace g_y_ls := g_y_ls.S hs
  replace g_m_rl := g_m_rl.S hs
  replace g_y_pc := g_y_pc.S hs
  replace g_m_pc := g_m_pc.S hs
  replace g_y_pw := g_y_pw.S hs
  replace g_m_pw := g_m_pw.S hs
  replace g_y_pk := g_y_pk.S hs
  replace g_m_pk := g_m_pk.S hs
  replace gq_859 := gq_859.S hs
  have fw_866 : h_862.2.1 am 90 = w_866 := fw_866
  have bw_866 := hT.gi gm tt_10 (k := 90) rfl
  rw [fw_866] at bw_866
  have bw_866 : 0 ≤ w_866.toInt ∧ w_866.toInt ≤ 8 := bw_866
  have fw_867 : h_862.2.1 am 92 = w_867 := fw_867
  have bw_867 := hT.gi gm tt_10 (k := 92) rfl
  rw [fw_867] at bw_867
  have bw_867 : 0 ≤ w_867.toInt ∧ w_867.toInt ≤ 8 := bw_867
  have fw_868 : h_862.2.1 m_wkd = w_868 := fw_868
  refine lv_pop hx hb dL_law_1263 rfl ?_
  refine lv_goto (tgt := 1379) hx hb dL_law_1264 ?o22 ?_
  case o22 => decide
  have pfw : ∀ j : Nat, (j : Int) < (h_862.2.1 qw 0).toInt → h_862.2.2 ql j ≠ none := hx_pf1 fw_856 hr_855.1
  have hq_lsd : w_856 = w_866 := Int32.toInt_inj.mp (hr_855.1.trans hr_865.1.symm)
  have hq_wkm : w_857 = w_867 := Int32.toInt_inj.mp (hr_855.2.1.trans hr_865.2.1.symm)
  obtain ⟨heq, hq_wk⟩ := hx_WA_u (by omega) (by omega) (fun _ _ _ _ _ _ => rfl) eq_lst hr_855.2.2 hr_865.2.2
  have hq_wkd : hx_eqN w_857.toInt.toNat w_858 w_868 := fun j hj => hq_wk j (by have := hr_855.2.1; omega)
  refine W.widen (k := CC + 3) (n := SS + 179) ?o23 ?o24 ?_
  case o23 => omega
  case o24 => omega
  refine kk L_861 h_862 H locs ls hW ⟨hT, gx, gm, ⟨f_x_now.trans f_m_now.symm, f_x_personCount.trans f_m_persons.symm, f_x_claimCount.trans f_m_claims.symm, f_x_tapeLength.trans f_m_taped.symm, f_x_actCount.trans f_m_acts.symm, f_x_heardCount.trans f_m_heardMany.symm, hx_ob f_qo_ln (f_o_ln.trans f_m_lines.symm), hx_ob f_qw ((fw_856.trans hq_lsd).trans fw_866.symm), hx_ob f_qw ((fw_857.trans hq_wkm).trans fw_867.symm), hx_ob f_qo_py (f_o_py.trans f_m_payments.symm), hx_ob f_qo_pmn (f_o_pmn.trans f_m_planMany.symm), hx_ob f_qp ?o25, hx_ob f_qc ?o26, (fun b a r hb ha hr => ?o27), (fun b a r hb ha hr => ?o28), (fun b a r hb ha hr => ?o29), (fun b a r hb ha hr => ?o30), (fun b a r hb ha hr => ?o31), (fun b a r hb ha hr => ?o32), (fun w q c hw hq hc => ?o33), (fun w q r hw hq hr => ?o34), (fun w q r hw hq hr => ?o35), (fun c q a hc hq ha => ?o36), (fun q r hq hr => ?o37), (fun q w a b c d e p hq hw ha hb hc hd he hp => ?o38), (fun c q a hc hq ha => ?o39), (fun q c a hq hc ha => ?o40), (fun a b ha hb => ?o41), (fun c a b d e f hc ha hb hd he hf => ?o42), (fun c a hc ha => ?o43), hx_ob2 f_qp f_m_bor (cl_bor.trans n_bor.symm), hx_ob2 f_qp f_m_kin (cl_kin.trans n_kin.symm), hx_ob2 f_qc f_m_sum (cl_sum.trans n_sum.symm), hx_ob2 f_qc f_m_fro (cl_fro.trans n_fro.symm), hx_ob2 f_qc f_m_fil (cl_fil.trans n_fil.symm), hx_ob2 f_qc f_mh (cl_hea.trans n_mh.symm), hx_ob2 f_qc f_m_jud (cl_jud.trans n_jud.symm), hx_ob2 f_qp f_m_ear (cl_ear.trans n_ear.symm), hx_ob2 f_qp f_m_hds (cl_hds.trans n_hds.symm), hx_ob2 f_qc f_m_ord (cl_ord.trans n_ord.symm), hx_ob2 f_qc f_m_wkl (cl_wkl.trans n_wkl.symm), hx_ob2 f_qc f_m_owd (cl_owd.trans n_owd.symm), hx_ob2 f_qc f_m_gds (cl_gds.trans n_gds.symm), hx_ob2 f_qc f_m_szd (cl_szd.trans n_szd.symm), hx_ob2 f_qc f_m_srv (cl_srv.trans n_srv.symm), (fun p q r hp hq hr => ?o44), (fun p q r hp hq hr => ?o45), (fun p q r hp hq hr => ?o46), (fun p q r hp hq hr => ?o47), (fun p q r hp hq hr => ?o48), (fun p hp => ?o49), (fun p q r hp hq hr => ?o50), (fun p a b c d e f hp ha hb hc hd he hf => ?o51), hx_ob2 f_qp f_m_dead ?o52, hx_ob2 f_qp f_m_isj ?o53, hx_ob2 f_qp f_m_dox ?o54, hx_ob2 f_qp f_m_doy ?o55, hx_ob2 f_qc f_m_fou ?o56, hx_ob2 f_qc f_mt ?o57, trivial⟩, ⟨hx_ob f_qa pf_qa, hx_ob f_qp pf_qp, hx_ob f_qc pf_qc, hx_ob f_qh pf_qh, (fun w q hw hq => ?o58)⟩, ⟨hx_ob f_mw ?o59, hx_ob f_mr ?o60, hx_ob2 f_mp f_mn ?o61, hx_ob f_ml ?o62, hx_ob f_mh ?o63, hx_ob f_mt ?o64, hx_ob2 f_mh f_m_fou ?o66⟩⟩ hl
  case o25 =>
    rw [f_x_personCount]
    exact nu_qp
  case o26 =>
    rw [f_x_claimCount]
    exact nu_qc
  case o27 =>
    obtain rfl : qo_ln = b := Option.some.inj (f_qo_ln.symm.trans hb)
    obtain rfl : b_of = a := Option.some.inj (f_b_of.symm.trans ha)
    obtain rfl : m_of = r := Option.some.inj (f_m_of.symm.trans hr)
    rw [n_b_of, n_m_of, f_o_ln]
    exact eb_of
  case o28 =>
    obtain rfl : qo_ln = b := Option.some.inj (f_qo_ln.symm.trans hb)
    obtain rfl : b_wf = a := Option.some.inj (f_b_wf.symm.trans ha)
    obtain rfl : m_wf = r := Option.some.inj (f_m_wf.symm.trans hr)
    rw [n_b_wf, n_m_wf, f_o_ln]
    exact eb_wf
  case o29 =>
    obtain rfl : qo_ln = b := Option.some.inj (f_qo_ln.symm.trans hb)
    obtain rfl : b_df = a := Option.some.inj (f_b_df.symm.trans ha)
    obtain rfl : m_df = r := Option.some.inj (f_m_df.symm.trans hr)
    rw [n_b_df, n_m_df, f_o_ln]
    exact eb_df
  case o30 =>
    obtain rfl : qo_ln = b := Option.some.inj (f_qo_ln.symm.trans hb)
    obtain rfl : b_kf = a := Option.some.inj (f_b_kf.symm.trans ha)
    obtain rfl : m_kf = r := Option.some.inj (f_m_kf.symm.trans hr)
    rw [n_b_kf, n_m_kf, f_o_ln]
    exact eb_kf
  case o31 =>
    obtain rfl : qo_ln = b := Option.some.inj (f_qo_ln.symm.trans hb)
    obtain rfl : b_sf = a := Option.some.inj (f_b_sf.symm.trans ha)
    obtain rfl : m_sf = r := Option.some.inj (f_m_sf.symm.trans hr)
    rw [n_b_sf, n_m_sf, f_o_ln]
    exact eb_sf
  case o32 =>
    obtain rfl : qo_ln = b := Option.some.inj (f_qo_ln.symm.trans hb)
    obtain rfl : b_df = a := Option.some.inj (f_b_df.symm.trans ha)
    obtain rfl : b_bf = r := Option.some.inj (f_b_bf.symm.trans hr)
    rw [n_b_df, n_b_bf, f_o_ln]
    exact ⟨hBD, hDY⟩
  case o33 =>
    obtain rfl : qw = w := Option.some.inj (f_qw.symm.trans hw)
    obtain rfl : ql = q := Option.some.inj (f_ql.symm.trans hq)
    obtain rfl : qc = c := Option.some.inj (f_qc.symm.trans hc)
    exact sb_list
  case o34 =>
    obtain rfl : qw = w := Option.some.inj (f_qw.symm.trans hw)
    obtain rfl : ql = q := Option.some.inj (f_ql.symm.trans hq)
    obtain rfl : m_lst = r := Option.some.inj (f_m_lst.symm.trans hr)
    rw [cl_lst, n_lst]
    exact eq_lst
  case o35 =>
    obtain rfl : qw = w := Option.some.inj (f_qw.symm.trans hw)
    obtain rfl : qlt = q := Option.some.inj (f_qlt.symm.trans hq)
    obtain rfl : m_wkd = r := Option.some.inj (f_m_wkd.symm.trans hr)
    rw [fw_858, fw_868, fw_857]
    exact hq_wkd
  case o36 =>
    obtain rfl : qc = c := Option.some.inj (f_qc.symm.trans hc)
    obtain rfl : qp = q := Option.some.inj (f_qp.symm.trans hq)
    obtain rfl : m_aga = a := Option.some.inj (f_m_aga.symm.trans ha)
    rw [n_aga, f_x_claimCount]
    exact hw_DF_e hDF rfl rfl
  case o37 =>
    obtain rfl : qtp = q := Option.some.inj (f_qtp.symm.trans hq)
    obtain rfl : m_tp = r := Option.some.inj (f_m_tp.symm.trans hr)
    exact n_qtp.trans n_tp.symm
  case o38 =>
    obtain rfl : qa = q := Option.some.inj (f_qa.symm.trans hq)
    obtain rfl : qwo = w := Option.some.inj (f_qwo.symm.trans hw)
    obtain rfl : m_ad = a := Option.some.inj (f_m_ad.symm.trans ha)
    obtain rfl : mr = b := Option.some.inj (f_mr.symm.trans hb)
    obtain rfl : mn = c := Option.some.inj (f_mn.symm.trans hc)
    obtain rfl : mp = d := Option.some.inj (f_mp.symm.trans hd)
    obtain rfl : qc = e := Option.some.inj (f_qc.symm.trans he)
    obtain rfl : ml = p := Option.some.inj (f_ml.symm.trans hp)
    exact ⟨_, by rw [f_x_actCount]; exact hRA9, by rw [f_x_actCount, n_ad, n_mr, n_mn, n_mp]; exact hCA9, by rw [n_ml, f_x_claimCount]; exact hv_AC_e hAC9 rfl rfl rfl, hAB⟩
  case o39 =>
    obtain rfl : qc = c := Option.some.inj (f_qc.symm.trans hc)
    obtain rfl : qp = q := Option.some.inj (f_qp.symm.trans hq)
    obtain rfl : m_by = a := Option.some.inj (f_m_by.symm.trans ha)
    rw [n_by, f_x_claimCount]
    exact hw_DF_e hDP rfl rfl
  case o40 =>
    obtain rfl : qh = q := Option.some.inj (f_qh.symm.trans hq)
    obtain rfl : qc = c := Option.some.inj (f_qc.symm.trans hc)
    obtain rfl : m_ho = a := Option.some.inj (f_m_ho.symm.trans ha)
    rw [n_ho, f_x_heardCount, f_x_claimCount]
    exact hv_HL_e hHL rfl rfl rfl
  case o41 =>
    obtain rfl : m_ho = a := Option.some.inj (f_m_ho.symm.trans ha)
    obtain rfl : mh = b := Option.some.inj (f_mh.symm.trans hb)
    rw [n_ho, n_mh, f_m_heardMany, f_m_claims]
    exact hHO9
  case o42 =>
    obtain rfl : qc = c := Option.some.inj (f_qc.symm.trans hc)
    obtain rfl : m_fc = a := Option.some.inj (f_m_fc.symm.trans ha)
    obtain rfl : m_nt = b := Option.some.inj (f_m_nt.symm.trans hb)
    obtain rfl : m_wt = d := Option.some.inj (f_m_wt.symm.trans hd)
    obtain rfl : m_sum = e := Option.some.inj (f_m_sum.symm.trans he)
    obtain rfl : mh = f := Option.some.inj (f_mh.symm.trans hf)
    exact ⟨cF9L, by rw [f_x_claimCount]; exact hFX, by rw [n_fc, n_nt, n_wt, n_sum, n_mh, f_x_claimCount]; exact hFR9⟩
  case o43 =>
    obtain rfl : qc = c := Option.some.inj (f_qc.symm.trans hc)
    obtain rfl : m_be = a := Option.some.inj (f_m_be.symm.trans ha)
    rw [n_be, f_x_claimCount]
    exact hv_FX_e hBX rfl rfl
  case o44 =>
    obtain rfl : qo_py = p := Option.some.inj (f_qo_py.symm.trans hp)
    obtain rfl : y_p0 = q := Option.some.inj (f_y_p0.symm.trans hq)
    obtain rfl : m_p0 = r := Option.some.inj (f_m_p0.symm.trans hr)
    exact n_y_p0.trans n_p0.symm
  case o45 =>
    obtain rfl : qo_py = p := Option.some.inj (f_qo_py.symm.trans hp)
    obtain rfl : y_p1 = q := Option.some.inj (f_y_p1.symm.trans hq)
    obtain rfl : m_p1 = r := Option.some.inj (f_m_p1.symm.trans hr)
    exact n_y_p1.trans n_p1.symm
  case o46 =>
    obtain rfl : qo_py = p := Option.some.inj (f_qo_py.symm.trans hp)
    obtain rfl : y_p2 = q := Option.some.inj (f_y_p2.symm.trans hq)
    obtain rfl : m_p2 = r := Option.some.inj (f_m_p2.symm.trans hr)
    exact n_y_p2.trans n_p2.symm
  case o47 =>
    obtain rfl : qo_py = p := Option.some.inj (f_qo_py.symm.trans hp)
    obtain rfl : y_p3 = q := Option.some.inj (f_y_p3.symm.trans hq)
    obtain rfl : m_p3 = r := Option.some.inj (f_m_p3.symm.trans hr)
    exact n_y_p3.trans n_p3.symm
  case o48 =>
    obtain rfl : qo_py = p := Option.some.inj (f_qo_py.symm.trans hp)
    obtain rfl : y_p4 = q := Option.some.inj (f_y_p4.symm.trans hq)
    obtain rfl : m_p4 = r := Option.some.inj (f_m_p4.symm.trans hr)
    exact n_y_p4.trans n_p4.symm
  case o49 =>
    obtain rfl : qrg9 = p := Option.some.inj (f_qrg9.symm.trans hp)
    rw [ffv_848, ffv_849, ffv_850]
    exact hNQ9
  case o50 =>
    obtain rfl : qrg9 = p := Option.some.inj (f_qrg9.symm.trans hp)
    obtain rfl : y_ls = q := Option.some.inj (f_y_ls.symm.trans hq)
    obtain rfl : m_rl = r := Option.some.inj (f_m_rl.symm.trans hr)
    rw [n_y_ls, n_m_rl, ffv_848]
    exact hRL9
  case o51 =>
    obtain rfl : qo_pmn = p := Option.some.inj (f_qo_pmn.symm.trans hp)
    obtain rfl : y_pc = a := Option.some.inj (f_y_pc.symm.trans ha)
    obtain rfl : y_pw = b := Option.some.inj (f_y_pw.symm.trans hb)
    obtain rfl : y_pk = c := Option.some.inj (f_y_pk.symm.trans hc)
    obtain rfl : m_pc = d := Option.some.inj (f_m_pc.symm.trans hd)
    obtain rfl : m_pw = e := Option.some.inj (f_m_pw.symm.trans he)
    obtain rfl : m_pk = f := Option.some.inj (f_m_pk.symm.trans hf)
    rw [n_y_pc, n_y_pw, n_y_pk, n_m_pc, n_m_pw, n_m_pk, f_o_pmn]
    exact hEA9
  case o52 =>
    rw [cl_dead, n_dead]
    exact eq_dead
  case o53 =>
    rw [cl_isj, n_isj]
    exact eq_isj
  case o54 =>
    rw [cl_dox, n_dox]
    exact eq_dox
  case o55 =>
    rw [cl_doy, n_doy]
    exact eq_doy
  case o56 =>
    rw [cl_fou, n_m_fou]
    exact eq_fou
  case o57 =>
    rw [cl_tri, n_mt]
    exact eq_tri
  case o58 =>
    obtain rfl : qw = w := Option.some.inj (f_qw.symm.trans hw)
    obtain rfl : ql = q := Option.some.inj (f_ql.symm.trans hq)
    exact pfw
  case o59 =>
    rw [n_mw]
    exact hwd
  case o60 =>
    rw [n_mr, f_m_acts]
    exact hWK
  case o61 =>
    rw [n_mp, n_mn, f_m_acts]
    exact hRP
  case o62 =>
    rw [n_ml, f_m_claims, f_m_acts]
    exact hPL
  case o63 =>
    rw [n_mh, f_m_heardMany, f_m_claims]
    exact hHC
  case o64 =>
    rw [n_mt]
    refine (hx_TR_le hTR ?o65)
    case o65 => omega
  case o66 =>
    rw [n_mh, n_m_fou, f_m_claims]
    exact hHF

set_option maxHeartbeats 4000000 in
set_option maxRecDepth 100000 in
theorem law_case_27 {p : Program} {e : Env} {s : State} {m : MethodId} {below : List Frame} {meth : Method} {c : Code} (l : Launch) {b LN : Nat} {xs : Nat → Int32} (hx : p.tables.exec = Jvm.exec) (hb : c.code = code) (hr : meth.sig.returnType = ret) (hlocks : meth.locks = false) (hml : c.maxLocals = 4) (hown : s.vm.findClass "SmallCourtLaw" = some m.cls) (hts : ∀ w ∈ hx_all, w.before #[Value.ref b] s = true) (hX : va_X b LN xs s s.heap) (hbl : b < s.heap.size) (hbA : ¬ s.heap.size ≤ b) (hLN : LN ≤ 3584) (dC : Nat → ClassId) (dI : Nat → Nat → Nat) (dA : Nat → ClassId) (b0 : hx_z) (ax am : Nat) (T1 : Int) (hT0 : 0 ≤ T1) (hT1 : T1 ≤ 511) (i : Int32) (hi0 : 0 ≤ i.toInt) (hiL : i.toInt + 7 ≤ LN) (CC SS : Nat) (hCC : CC + 3 ≤ 600000) (hSS : SS + 179 ≤ 7302250) (L1 : List Nat) (hl1 : hx_h) (H : Heap) (locs : List Loc) (ls : Array Slot) (hW : hx_W T_tb (P_ty dA) (dC, dI) vwCl (fun q : Nat => s.heap.size ≤ q) s.heap L1 hl1 s H locs) (hZ : hx_Xt (fun q : Nat => s.heap.size ≤ q) b0 s) (hI : hx_IV T1 ax am L1 hl1) (hl : lv_has ls 4 [(3, .int i), (2, .ref am), (1, .ref ax), (0, .ref b)]) (kk : ∀ (L2 : List Nat) (h2 : hx_h) (H2 : Heap) (locs2 : List Loc) (ls2 : Array Slot), hx_W T_tb (P_ty dA) (dC, dI) vwCl (fun q : Nat => s.heap.size ≤ q) s.heap L2 h2 s H2 locs2 → hx_IV (T1 + 1) ax am L2 h2 → lv_has ls2 4 [(3, .int i), (2, .ref am), (1, .ref ax), (0, .ref b)] → W p l e room_1 s m #[Value.ref b] below meth c H2 locs2 (CC + 3) (SS + 179) (lw_Z below #[Value.ref b] s) (F0 m 1379 ls2 [])) : W p l e room_1 s m #[Value.ref b] below meth c H locs CC SS (lw_Z below #[Value.ref b] s) (F0 m 1267 ls []) := by
  have hI9 := hI
  have hT := hI9.1
  replace hI9 := hI9.2
  have gx := hI9.1
  replace hI9 := hI9.2
  have gm := hI9.1
  replace hI9 := hI9.2
  have zq0_3 := hI9.1
  have he_nw := zq0_3.1
  replace zq0_3 := zq0_3.2
  have he_np := zq0_3.1
  replace zq0_3 := zq0_3.2
  have he_c0 := zq0_3.1
  replace zq0_3 := zq0_3.2
  have he_tl := zq0_3.1
  replace zq0_3 := zq0_3.2
  have he_a0 := zq0_3.1
  replace zq0_3 := zq0_3.2
  have he_m0 := zq0_3.1
  replace zq0_3 := zq0_3.2
  have ho_ln := zq0_3.1
  replace zq0_3 := zq0_3.2
  have ho_lsd := zq0_3.1
  replace zq0_3 := zq0_3.2
  have ho_wkm := zq0_3.1
  replace zq0_3 := zq0_3.2
  have ho_py := zq0_3.1
  replace zq0_3 := zq0_3.2
  have ho_pmn := zq0_3.1
  replace zq0_3 := zq0_3.2
  have hn_qp := zq0_3.1
  replace zq0_3 := zq0_3.2
  have hn_qc := zq0_3.1
  replace zq0_3 := zq0_3.2
  have hk_of := zq0_3.1
  replace zq0_3 := zq0_3.2
  have hk_wf := zq0_3.1
  replace zq0_3 := zq0_3.2
  have hk_df := zq0_3.1
  replace zq0_3 := zq0_3.2
  have hk_kf := zq0_3.1
  replace zq0_3 := zq0_3.2
  have hk_sf := zq0_3.1
  replace zq0_3 := zq0_3.2
  have hkBD := zq0_3.1
  replace zq0_3 := zq0_3.2
  have hLQ := zq0_3.1
  replace zq0_3 := zq0_3.2
  have hLE := zq0_3.1
  replace zq0_3 := zq0_3.2
  have hkWD := zq0_3.1
  replace zq0_3 := zq0_3.2
  have hkDF := zq0_3.1
  replace zq0_3 := zq0_3.2
  have hkTP := zq0_3.1
  replace zq0_3 := zq0_3.2
  have hkAC := zq0_3.1
  replace zq0_3 := zq0_3.2
  have hkDP := zq0_3.1
  replace zq0_3 := zq0_3.2
  have hkHL := zq0_3.1
  replace zq0_3 := zq0_3.2
  have hkHO := zq0_3.1
  replace zq0_3 := zq0_3.2
  have hkFX := zq0_3.1
  replace zq0_3 := zq0_3.2
  have hkBX := zq0_3.1
  replace zq0_3 := zq0_3.2
  have hf_bor := zq0_3.1
  replace zq0_3 := zq0_3.2
  have hf_kin := zq0_3.1
  replace zq0_3 := zq0_3.2
  have hf_sum := zq0_3.1
  replace zq0_3 := zq0_3.2
  have hf_fro := zq0_3.1
  replace zq0_3 := zq0_3.2
  have hf_fil := zq0_3.1
  replace zq0_3 := zq0_3.2
  have hf_hea := zq0_3.1
  replace zq0_3 := zq0_3.2
  have hf_jud := zq0_3.1
  replace zq0_3 := zq0_3.2
  have hf_ear := zq0_3.1
  replace zq0_3 := zq0_3.2
  have hf_hds := zq0_3.1
  replace zq0_3 := zq0_3.2
  have hf_ord := zq0_3.1
  replace zq0_3 := zq0_3.2
  have hf_wkl := zq0_3.1
  replace zq0_3 := zq0_3.2
  have hf_owd := zq0_3.1
  replace zq0_3 := zq0_3.2
  have hf_gds := zq0_3.1
  replace zq0_3 := zq0_3.2
  have hf_szd := zq0_3.1
  replace zq0_3 := zq0_3.2
  have hf_srv := zq0_3.1
  replace zq0_3 := zq0_3.2
  have hkP0 := zq0_3.1
  replace zq0_3 := zq0_3.2
  have hkP1 := zq0_3.1
  replace zq0_3 := zq0_3.2
  have hkP2 := zq0_3.1
  replace zq0_3 := zq0_3.2
  have hkP3 := zq0_3.1
  replace zq0_3 := zq0_3.2
  have hkP4 := zq0_3.1
  replace zq0_3 := zq0_3.2
  have hkNQ := zq0_3.1
  replace zq0_3 := zq0_3.2
  have hkRL := zq0_3.1
  replace zq0_3 := zq0_3.2
  have hkPG := zq0_3.1
  replace zq0_3 := zq0_3.2
  have hc_dead := zq0_3.1
  replace zq0_3 := zq0_3.2
  have hc_isj := zq0_3.1
  replace zq0_3 := zq0_3.2
  have hc_dox := zq0_3.1
  replace zq0_3 := zq0_3.2
  have hc_doy := zq0_3.1
  replace zq0_3 := zq0_3.2
  have hc_fou := zq0_3.1
  replace zq0_3 := zq0_3.2
  have hc_tri := zq0_3.1
  replace zq0_3 := zq0_3.2
  replace hI9 := hI9.2
  have zq0_4 := hI9.1
  have ia := zq0_4.1
  replace zq0_4 := zq0_4.2
  have ip := zq0_4.1
  replace zq0_4 := zq0_4.2
  have ic := zq0_4.1
  replace zq0_4 := zq0_4.2
  have ih := zq0_4.1
  replace zq0_4 := zq0_4.2
  have il := zq0_4
  replace hI9 := hI9.2
  have zq0_5 := hI9
  have jw := zq0_5.1
  replace zq0_5 := zq0_5.2
  have jr := zq0_5.1
  replace zq0_5 := zq0_5.2
  have jp := zq0_5.1
  replace zq0_5 := zq0_5.2
  have jl := zq0_5.1
  replace zq0_5 := zq0_5.2
  have jh := zq0_5.1
  replace zq0_5 := zq0_5.2
  have jt := zq0_5.1
  replace zq0_5 := zq0_5.2
  have jf := zq0_5
  obtain ⟨qa, f_qa, g_qa⟩ := hx_rf hT gx tt_9 (k := 5) (u := 43) rfl
  have pf_qa := ia qa f_qa
  obtain ⟨qp, f_qp, g_qp⟩ := hx_rf hT gx tt_9 (k := 7) (u := 44) rfl
  have pf_qp := ip qp f_qp
  obtain ⟨qc, f_qc, g_qc⟩ := hx_rf hT gx tt_9 (k := 10) (u := 45) rfl
  have pf_qc := ic qc f_qc
  obtain ⟨qh, f_qh, g_qh⟩ := hx_rf hT gx tt_9 (k := 12) (u := 46) rfl
  have pf_qh := ih qh f_qh
  obtain ⟨qw, f_qw, g_qw⟩ := hx_rf hT gx tt_9 (k := 19) (u := 8) rfl
  obtain ⟨ql, f_ql, g_ql⟩ := hx_rf hT g_qw tt_8 (k := 3) (u := 40) rfl
  have pf_ql := il qw ql f_qw f_ql
  obtain ⟨nw, f_m_now⟩ : ∃ y : Int32, hl1.2.1 am 0 = y := ⟨_, rfl⟩
  have b_nw := hT.gi gm tt_10 (k := 0) rfl
  rw [f_m_now] at b_nw
  have b_nw : 0 ≤ nw.toInt ∧ nw.toInt ≤ 7999 := b_nw
  obtain ⟨np, f_m_persons⟩ : ∃ y : Int32, hl1.2.1 am 20 = y := ⟨_, rfl⟩
  have b_np := hT.gi gm tt_10 (k := 20) rfl
  rw [f_m_persons] at b_np
  have b_np : 0 ≤ np.toInt ∧ np.toInt ≤ 40 := b_np
  obtain ⟨c0, f_m_claims⟩ : ∃ y : Int32, hl1.2.1 am 36 = y := ⟨_, rfl⟩
  have b_c0 := hT.gi gm tt_10 (k := 36) rfl
  rw [f_m_claims] at b_c0
  have b_c0 : 0 ≤ c0.toInt ∧ c0.toInt ≤ 100 := b_c0
  obtain ⟨tl, f_m_taped⟩ : ∃ y : Int32, hl1.2.1 am 7 = y := ⟨_, rfl⟩
  have b_tl := hT.gi gm tt_10 (k := 7) rfl
  rw [f_m_taped] at b_tl
  have b_tl : 0 ≤ tl.toInt ∧ tl.toInt ≤ 400 := b_tl
  obtain ⟨a0, f_m_acts⟩ : ∃ y : Int32, hl1.2.1 am 1 = y := ⟨_, rfl⟩
  have b_a0 := hT.gi gm tt_10 (k := 1) rfl
  rw [f_m_acts] at b_a0
  have b_a0 : 0 ≤ a0.toInt ∧ a0.toInt ≤ 8 := b_a0
  obtain ⟨m0, f_m_heardMany⟩ : ∃ y : Int32, hl1.2.1 am 57 = y := ⟨_, rfl⟩
  have b_m0 := hT.gi gm tt_10 (k := 57) rfl
  rw [f_m_heardMany] at b_m0
  have b_m0 : 0 ≤ m0.toInt ∧ m0.toInt ≤ 100 := b_m0
  obtain ⟨ln, f_m_lines⟩ : ∃ y : Int32, hl1.2.1 am 29 = y := ⟨_, rfl⟩
  have b_ln := hT.gi gm tt_10 (k := 29) rfl
  rw [f_m_lines] at b_ln
  have b_ln : 0 ≤ ln.toInt ∧ ln.toInt ≤ 400 := b_ln
  obtain ⟨lsd, f_m_listed⟩ : ∃ y : Int32, hl1.2.1 am 90 = y := ⟨_, rfl⟩
  have b_lsd := hT.gi gm tt_10 (k := 90) rfl
  rw [f_m_listed] at b_lsd
  have b_lsd : 0 ≤ lsd.toInt ∧ lsd.toInt ≤ 8 := b_lsd
  obtain ⟨wkm, f_m_walkedMany⟩ : ∃ y : Int32, hl1.2.1 am 92 = y := ⟨_, rfl⟩
  have b_wkm := hT.gi gm tt_10 (k := 92) rfl
  rw [f_m_walkedMany] at b_wkm
  have b_wkm : 0 ≤ wkm.toInt ∧ wkm.toInt ≤ 8 := b_wkm
  obtain ⟨py, f_m_payments⟩ : ∃ y : Int32, hl1.2.1 am 59 = y := ⟨_, rfl⟩
  have b_py := hT.gi gm tt_10 (k := 59) rfl
  rw [f_m_payments] at b_py
  have b_py : 0 ≤ py.toInt ∧ py.toInt ≤ 600 := b_py
  obtain ⟨pmn, f_m_planMany⟩ : ∃ y : Int32, hl1.2.1 am 72 = y := ⟨_, rfl⟩
  have b_pmn := hT.gi gm tt_10 (k := 72) rfl
  rw [f_m_planMany] at b_pmn
  have b_pmn : 0 ≤ pmn.toInt ∧ pmn.toInt ≤ 4 := b_pmn
  have f_x_now : hl1.2.1 ax 2 = nw := he_nw.trans f_m_now
  have f_x_personCount : hl1.2.1 ax 8 = np := he_np.trans f_m_persons
  have f_x_claimCount : hl1.2.1 ax 11 = c0 := he_c0.trans f_m_claims
  have f_x_tapeLength : hl1.2.1 ax 1 = tl := he_tl.trans f_m_taped
  have f_x_actCount : hl1.2.1 ax 6 = a0 := he_a0.trans f_m_acts
  have f_x_heardCount : hl1.2.1 ax 13 = m0 := he_m0.trans f_m_heardMany
  obtain ⟨mw, f_mw, g_mw⟩ := hx_rf hT gm tt_10 (k := 19) (u := 57) rfl
  obtain ⟨F_mw, n_mw⟩ : ∃ g : Nat → Int32, hl1.2.1 mw = g := ⟨_, rfl⟩
  obtain ⟨mr, f_mr, g_mr⟩ := hx_rf hT gm tt_10 (k := 3) (u := 50) rfl
  obtain ⟨F_mr, n_mr⟩ : ∃ g : Nat → Int32, hl1.2.1 mr = g := ⟨_, rfl⟩
  obtain ⟨mp, f_mp, g_mp⟩ := hx_rf hT gm tt_10 (k := 5) (u := 52) rfl
  obtain ⟨F_mp, n_mp⟩ : ∃ g : Nat → Int32, hl1.2.1 mp = g := ⟨_, rfl⟩
  obtain ⟨mn, f_mn, g_mn⟩ := hx_rf hT gm tt_10 (k := 4) (u := 51) rfl
  obtain ⟨F_mn, n_mn⟩ : ∃ g : Nat → Int32, hl1.2.1 mn = g := ⟨_, rfl⟩
  obtain ⟨ml, f_ml, g_ml⟩ := hx_rf hT gm tt_10 (k := 44) (u := 79) rfl
  obtain ⟨F_ml, n_ml⟩ : ∃ g : Nat → Int32, hl1.2.1 ml = g := ⟨_, rfl⟩
  obtain ⟨mh, f_mh, g_mh⟩ := hx_rf hT gm tt_10 (k := 47) (u := 82) rfl
  obtain ⟨F_mh, n_mh⟩ : ∃ g : Nat → Int32, hl1.2.1 mh = g := ⟨_, rfl⟩
  obtain ⟨mt, f_mt, g_mt⟩ := hx_rf hT gm tt_10 (k := 45) (u := 80) rfl
  obtain ⟨F_mt, n_mt⟩ : ∃ g : Nat → Int32, hl1.2.1 mt = g := ⟨_, rfl⟩
  obtain ⟨m_fou, f_m_fou, g_m_fou⟩ := hx_rf hT gm tt_10 (k := 46) (u := 81) rfl
  obtain ⟨F_m_fou, n_m_fou⟩ : ∃ g : Nat → Int32, hl1.2.1 m_fou = g := ⟨_, rfl⟩
  obtain ⟨qo_ln, f_qo_ln, g_qo_ln⟩ := hx_rf hT gx tt_9 (k := 9) (u := 1) rfl
  have f_o_ln : hl1.2.1 qo_ln 0 = ln := (ho_ln qo_ln f_qo_ln).trans f_m_lines
  have f_o_lsd : hl1.2.1 qw 0 = lsd := (ho_lsd qw f_qw).trans f_m_listed
  have f_o_wkm : hl1.2.1 qw 1 = wkm := (ho_wkm qw f_qw).trans f_m_walkedMany
  obtain ⟨qo_py, f_qo_py, g_qo_py⟩ := hx_rf hT gx tt_9 (k := 14) (u := 3) rfl
  have f_o_py : hl1.2.1 qo_py 0 = py := (ho_py qo_py f_qo_py).trans f_m_payments
  obtain ⟨qo_pmn, f_qo_pmn, g_qo_pmn⟩ := hx_rf hT gx tt_9 (k := 17) (u := 5) rfl
  have f_o_pmn : hl1.2.1 qo_pmn 1 = pmn := (ho_pmn qo_pmn f_qo_pmn).trans f_m_planMany
  have nu_qp := hn_qp qp f_qp; rw [f_x_personCount] at nu_qp
  have nu_qc := hn_qc qc f_qc; rw [f_x_claimCount] at nu_qc
  obtain ⟨b_of, f_b_of, g_b_of⟩ := hx_rf hT g_qo_ln tt_1 (k := 1) (u := 13) rfl
  obtain ⟨B_of, n_b_of⟩ : ∃ g : Nat → Int32, hl1.2.1 b_of = g := ⟨_, rfl⟩
  obtain ⟨m_of, f_m_of, g_m_of⟩ := hx_rf hT gm tt_10 (k := 30) (u := 66) rfl
  obtain ⟨F_of, n_m_of⟩ : ∃ g : Nat → Int32, hl1.2.1 m_of = g := ⟨_, rfl⟩
  have eb_of := hk_of qo_ln b_of m_of f_qo_ln f_b_of f_m_of; rw [n_b_of, n_m_of, f_o_ln] at eb_of
  obtain ⟨b_wf, f_b_wf, g_b_wf⟩ := hx_rf hT g_qo_ln tt_1 (k := 2) (u := 14) rfl
  obtain ⟨B_wf, n_b_wf⟩ : ∃ g : Nat → Int32, hl1.2.1 b_wf = g := ⟨_, rfl⟩
  obtain ⟨m_wf, f_m_wf, g_m_wf⟩ := hx_rf hT gm tt_10 (k := 31) (u := 67) rfl
  obtain ⟨F_wf, n_m_wf⟩ : ∃ g : Nat → Int32, hl1.2.1 m_wf = g := ⟨_, rfl⟩
  have eb_wf := hk_wf qo_ln b_wf m_wf f_qo_ln f_b_wf f_m_wf; rw [n_b_wf, n_m_wf, f_o_ln] at eb_wf
  obtain ⟨b_df, f_b_df, g_b_df⟩ := hx_rf hT g_qo_ln tt_1 (k := 3) (u := 15) rfl
  obtain ⟨B_df, n_b_df⟩ : ∃ g : Nat → Int32, hl1.2.1 b_df = g := ⟨_, rfl⟩
  obtain ⟨m_df, f_m_df, g_m_df⟩ := hx_rf hT gm tt_10 (k := 32) (u := 68) rfl
  obtain ⟨F_df, n_m_df⟩ : ∃ g : Nat → Int32, hl1.2.1 m_df = g := ⟨_, rfl⟩
  have eb_df := hk_df qo_ln b_df m_df f_qo_ln f_b_df f_m_df; rw [n_b_df, n_m_df, f_o_ln] at eb_df
  obtain ⟨b_kf, f_b_kf, g_b_kf⟩ := hx_rf hT g_qo_ln tt_1 (k := 4) (u := 16) rfl
  obtain ⟨B_kf, n_b_kf⟩ : ∃ g : Nat → Int32, hl1.2.1 b_kf = g := ⟨_, rfl⟩
  obtain ⟨m_kf, f_m_kf, g_m_kf⟩ := hx_rf hT gm tt_10 (k := 33) (u := 69) rfl
  obtain ⟨F_kf, n_m_kf⟩ : ∃ g : Nat → Int32, hl1.2.1 m_kf = g := ⟨_, rfl⟩
  have eb_kf := hk_kf qo_ln b_kf m_kf f_qo_ln f_b_kf f_m_kf; rw [n_b_kf, n_m_kf, f_o_ln] at eb_kf
  obtain ⟨b_sf, f_b_sf, g_b_sf⟩ := hx_rf hT g_qo_ln tt_1 (k := 5) (u := 17) rfl
  obtain ⟨B_sf, n_b_sf⟩ : ∃ g : Nat → Int32, hl1.2.1 b_sf = g := ⟨_, rfl⟩
  obtain ⟨m_sf, f_m_sf, g_m_sf⟩ := hx_rf hT gm tt_10 (k := 34) (u := 70) rfl
  obtain ⟨F_sf, n_m_sf⟩ : ∃ g : Nat → Int32, hl1.2.1 m_sf = g := ⟨_, rfl⟩
  have eb_sf := hk_sf qo_ln b_sf m_sf f_qo_ln f_b_sf f_m_sf; rw [n_b_sf, n_m_sf, f_o_ln] at eb_sf
  obtain ⟨b_bf, f_b_bf, g_b_bf⟩ := hx_rf hT g_qo_ln tt_1 (k := 6) (u := 18) rfl
  obtain ⟨bfL, n_b_bf⟩ : ∃ g : Nat → Int32, hl1.2.1 b_bf = g := ⟨_, rfl⟩
  obtain ⟨hBD, hDY⟩ := hkBD qo_ln b_df b_bf f_qo_ln f_b_df f_b_bf; rw [n_b_df, n_b_bf, f_o_ln] at hBD; rw [n_b_df, f_o_ln] at hDY
  have hBDm := hy_BD_c eb_df hBD
  have hDYm : hy_DY F_df ln.toInt.toNat := fun x hx => by rw [← eb_df x hx]; exact hDY x hx
  have sb_list := hLQ qw ql qc f_qw f_ql f_qc
  obtain ⟨m_lst, f_m_lst, g_m_lst⟩ := hx_rf hT gm tt_10 (k := 91) (u := 112) rfl
  obtain ⟨F_lst, n_lst⟩ : ∃ g : Nat → Int32, hl1.2.1 m_lst = g := ⟨_, rfl⟩
  obtain ⟨c_lst, cl_lst⟩ : ∃ g : Nat → Int32, hx_col 8 hl1 ql 0 = g := ⟨_, rfl⟩
  have eq_lst := hLE qw ql m_lst f_qw f_ql f_m_lst; rw [cl_lst, n_lst] at eq_lst
  obtain ⟨qtp, f_qtp, g_qtp⟩ := hx_rf hT gx tt_9 (k := 0) (u := 42) rfl
  obtain ⟨m_tp, f_m_tp, g_m_tp⟩ := hx_rf hT gm tt_10 (k := 6) (u := 53) rfl
  obtain ⟨F_tp, n_tp⟩ : ∃ g : Nat → Int32, hl1.2.1 m_tp = g := ⟨_, rfl⟩
  have n_qtp : hl1.2.1 qtp = F_tp := (hkTP qtp m_tp f_qtp f_m_tp).trans n_tp
  obtain ⟨c_dead, cl_dead⟩ : ∃ g : Nat → Int32, hx_col 40 hl1 qp 7 = g := ⟨_, rfl⟩
  obtain ⟨m_dead, f_m_dead, g_m_dead⟩ := hx_rf hT gm tt_10 (k := 27) (u := 64) rfl
  obtain ⟨F_dead, n_dead⟩ : ∃ g : Nat → Int32, hl1.2.1 m_dead = g := ⟨_, rfl⟩
  have eq_dead := hc_dead qp m_dead f_qp f_m_dead; rw [cl_dead, n_dead] at eq_dead
  have z_dead : np.toInt.toNat < 40 → c_dead np.toInt.toNat = 0 := fun hj => hx_num_z nu_qp cl_dead hj ?o0
  case o0 => omega
  obtain ⟨c_isj, cl_isj⟩ : ∃ g : Nat → Int32, hx_col 40 hl1 qp 8 = g := ⟨_, rfl⟩
  obtain ⟨m_isj, f_m_isj, g_m_isj⟩ := hx_rf hT gm tt_10 (k := 28) (u := 65) rfl
  obtain ⟨F_isj, n_isj⟩ : ∃ g : Nat → Int32, hl1.2.1 m_isj = g := ⟨_, rfl⟩
  have eq_isj := hc_isj qp m_isj f_qp f_m_isj; rw [cl_isj, n_isj] at eq_isj
  have z_isj : np.toInt.toNat < 40 → c_isj np.toInt.toNat = 0 := fun hj => hx_num_z nu_qp cl_isj hj ?o1
  case o1 => omega
  obtain ⟨c_dox, cl_dox⟩ : ∃ g : Nat → Int32, hx_col 40 hl1 qp 5 = g := ⟨_, rfl⟩
  obtain ⟨m_dox, f_m_dox, g_m_dox⟩ := hx_rf hT gm tt_10 (k := 24) (u := 61) rfl
  obtain ⟨F_dox, n_dox⟩ : ∃ g : Nat → Int32, hl1.2.1 m_dox = g := ⟨_, rfl⟩
  have eq_dox := hc_dox qp m_dox f_qp f_m_dox; rw [cl_dox, n_dox] at eq_dox
  have z_dox : np.toInt.toNat < 40 → c_dox np.toInt.toNat = 0 := fun hj => hx_num_z nu_qp cl_dox hj ?o2
  case o2 => omega
  obtain ⟨c_doy, cl_doy⟩ : ∃ g : Nat → Int32, hx_col 40 hl1 qp 6 = g := ⟨_, rfl⟩
  obtain ⟨m_doy, f_m_doy, g_m_doy⟩ := hx_rf hT gm tt_10 (k := 25) (u := 62) rfl
  obtain ⟨F_doy, n_doy⟩ : ∃ g : Nat → Int32, hl1.2.1 m_doy = g := ⟨_, rfl⟩
  have eq_doy := hc_doy qp m_doy f_qp f_m_doy; rw [cl_doy, n_doy] at eq_doy
  have z_doy : np.toInt.toNat < 40 → c_doy np.toInt.toNat = 0 := fun hj => hx_num_z nu_qp cl_doy hj ?o3
  case o3 => omega
  obtain ⟨c_fou, cl_fou⟩ : ∃ g : Nat → Int32, hx_col 100 hl1 qc 10 = g := ⟨_, rfl⟩
  have eq_fou := hc_fou qc m_fou f_qc f_m_fou; rw [cl_fou, n_m_fou] at eq_fou
  have z_fou : c0.toInt.toNat < 100 → c_fou c0.toInt.toNat = 0 := fun hj => hx_num_z nu_qc cl_fou hj ?o4
  case o4 => omega
  obtain ⟨c_tri, cl_tri⟩ : ∃ g : Nat → Int32, hx_col 100 hl1 qc 9 = g := ⟨_, rfl⟩
  have eq_tri := hc_tri qc mt f_qc f_mt; rw [cl_tri, n_mt] at eq_tri
  have z_tri : c0.toInt.toNat < 100 → c_tri c0.toInt.toNat = 0 := fun hj => hx_num_z nu_qc cl_tri hj ?o5
  case o5 => omega
  obtain ⟨qlt, f_qlt, g_qlt⟩ := hx_rf hT g_qw tt_8 (k := 2) (u := 39) rfl
  obtain ⟨qlf, f_qlf, g_qlf⟩ := hx_rf hT g_qw tt_8 (k := 4) (u := 41) rfl
  obtain ⟨m_wkd, f_m_wkd, g_m_wkd⟩ := hx_rf hT gm tt_10 (k := 93) (u := 113) rfl
  obtain ⟨F_qlt, n_qlt⟩ : ∃ g : Nat → Int32, hl1.2.1 qlt = g := ⟨_, rfl⟩
  obtain ⟨F_m_wkd, n_m_wkd⟩ : ∃ g : Nat → Int32, hl1.2.1 m_wkd = g := ⟨_, rfl⟩
  have eb_wkd := hkWD qw qlt m_wkd f_qw f_qlt f_m_wkd; rw [n_qlt, n_m_wkd, f_o_wkm] at eb_wkd
  obtain ⟨m_aga, f_m_aga, g_m_aga⟩ := hx_rf hT gm tt_10 (k := 38) (u := 73) rfl
  obtain ⟨F_aga, n_aga⟩ : ∃ g : Nat → Int32, hl1.2.1 m_aga = g := ⟨_, rfl⟩
  have hDF := hkDF qc qp m_aga f_qc f_qp f_m_aga; rw [n_aga, f_x_claimCount] at hDF
  obtain ⟨qwo, f_qwo, g_qwo⟩ := hx_rf hT gx tt_9 (k := 4) (u := 0) rfl
  obtain ⟨m_ad, f_m_ad, g_m_ad⟩ := hx_rf hT gm tt_10 (k := 2) (u := 49) rfl
  obtain ⟨F_ad, n_ad⟩ : ∃ g : Nat → Int32, hl1.2.1 m_ad = g := ⟨_, rfl⟩
  obtain ⟨A9, hRA9, hCA9, hAC9, hAB⟩ := hkAC qa qwo m_ad mr mn mp qc ml f_qa f_qwo f_m_ad f_mr f_mn f_mp f_qc f_ml
  rw [f_x_actCount] at hRA9; rw [f_x_actCount, n_ad, n_mr, n_mn, n_mp] at hCA9
  obtain ⟨m_by, f_m_by, g_m_by⟩ := hx_rf hT gm tt_10 (k := 37) (u := 72) rfl
  obtain ⟨F_by, n_by⟩ : ∃ g : Nat → Int32, hl1.2.1 m_by = g := ⟨_, rfl⟩
  obtain ⟨m_ho, f_m_ho, g_m_ho⟩ := hx_rf hT gm tt_10 (k := 58) (u := 92) rfl
  obtain ⟨F_ho, n_ho⟩ : ∃ g : Nat → Int32, hl1.2.1 m_ho = g := ⟨_, rfl⟩
  obtain ⟨m_fc, f_m_fc, g_m_fc⟩ := hx_rf hT gm tt_10 (k := 53) (u := 88) rfl
  obtain ⟨F_fc, n_fc⟩ : ∃ g : Nat → Int32, hl1.2.1 m_fc = g := ⟨_, rfl⟩
  obtain ⟨m_nt, f_m_nt, g_m_nt⟩ := hx_rf hT gm tt_10 (k := 41) (u := 76) rfl
  obtain ⟨F_nt, n_nt⟩ : ∃ g : Nat → Int32, hl1.2.1 m_nt = g := ⟨_, rfl⟩
  obtain ⟨m_wt, f_m_wt, g_m_wt⟩ := hx_rf hT gm tt_10 (k := 42) (u := 77) rfl
  obtain ⟨F_wt, n_wt⟩ : ∃ g : Nat → Int32, hl1.2.1 m_wt = g := ⟨_, rfl⟩
  obtain ⟨m_be, f_m_be, g_m_be⟩ := hx_rf hT gm tt_10 (k := 52) (u := 87) rfl
  obtain ⟨F_be, n_be⟩ : ∃ g : Nat → Int32, hl1.2.1 m_be = g := ⟨_, rfl⟩
  obtain ⟨m_bor, f_m_bor, g_m_bor⟩ := hx_rf hT gm tt_10 (k := 21) (u := 58) rfl
  obtain ⟨F_bor, n_bor⟩ : ∃ g : Nat → Int32, hl1.2.1 m_bor = g := ⟨_, rfl⟩
  obtain ⟨m_kin, f_m_kin, g_m_kin⟩ := hx_rf hT gm tt_10 (k := 26) (u := 63) rfl
  obtain ⟨F_kin, n_kin⟩ : ∃ g : Nat → Int32, hl1.2.1 m_kin = g := ⟨_, rfl⟩
  obtain ⟨m_sum, f_m_sum, g_m_sum⟩ := hx_rf hT gm tt_10 (k := 39) (u := 74) rfl
  obtain ⟨F_sum, n_sum⟩ : ∃ g : Nat → Int32, hl1.2.1 m_sum = g := ⟨_, rfl⟩
  obtain ⟨m_fro, f_m_fro, g_m_fro⟩ := hx_rf hT gm tt_10 (k := 40) (u := 75) rfl
  obtain ⟨F_fro, n_fro⟩ : ∃ g : Nat → Int32, hl1.2.1 m_fro = g := ⟨_, rfl⟩
  obtain ⟨m_fil, f_m_fil, g_m_fil⟩ := hx_rf hT gm tt_10 (k := 43) (u := 78) rfl
  obtain ⟨F_fil, n_fil⟩ : ∃ g : Nat → Int32, hl1.2.1 m_fil = g := ⟨_, rfl⟩
  obtain ⟨m_jud, f_m_jud, g_m_jud⟩ := hx_rf hT gm tt_10 (k := 51) (u := 86) rfl
  obtain ⟨F_jud, n_jud⟩ : ∃ g : Nat → Int32, hl1.2.1 m_jud = g := ⟨_, rfl⟩
  obtain ⟨m_ear, f_m_ear, g_m_ear⟩ := hx_rf hT gm tt_10 (k := 22) (u := 59) rfl
  obtain ⟨F_ear, n_ear⟩ : ∃ g : Nat → Int32, hl1.2.1 m_ear = g := ⟨_, rfl⟩
  obtain ⟨m_hds, f_m_hds, g_m_hds⟩ := hx_rf hT gm tt_10 (k := 23) (u := 60) rfl
  obtain ⟨F_hds, n_hds⟩ : ∃ g : Nat → Int32, hl1.2.1 m_hds = g := ⟨_, rfl⟩
  obtain ⟨m_ord, f_m_ord, g_m_ord⟩ := hx_rf hT gm tt_10 (k := 48) (u := 83) rfl
  obtain ⟨F_ord, n_ord⟩ : ∃ g : Nat → Int32, hl1.2.1 m_ord = g := ⟨_, rfl⟩
  obtain ⟨m_wkl, f_m_wkl, g_m_wkl⟩ := hx_rf hT gm tt_10 (k := 54) (u := 89) rfl
  obtain ⟨F_wkl, n_wkl⟩ : ∃ g : Nat → Int32, hl1.2.1 m_wkl = g := ⟨_, rfl⟩
  obtain ⟨m_owd, f_m_owd, g_m_owd⟩ := hx_rf hT gm tt_10 (k := 55) (u := 90) rfl
  obtain ⟨F_owd, n_owd⟩ : ∃ g : Nat → Int32, hl1.2.1 m_owd = g := ⟨_, rfl⟩
  obtain ⟨m_gds, f_m_gds, g_m_gds⟩ := hx_rf hT gm tt_10 (k := 56) (u := 91) rfl
  obtain ⟨F_gds, n_gds⟩ : ∃ g : Nat → Int32, hl1.2.1 m_gds = g := ⟨_, rfl⟩
  obtain ⟨m_szd, f_m_szd, g_m_szd⟩ := hx_rf hT gm tt_10 (k := 49) (u := 84) rfl
  obtain ⟨F_szd, n_szd⟩ : ∃ g : Nat → Int32, hl1.2.1 m_szd = g := ⟨_, rfl⟩
  obtain ⟨m_srv, f_m_srv, g_m_srv⟩ := hx_rf hT gm tt_10 (k := 50) (u := 85) rfl
  obtain ⟨F_srv, n_srv⟩ : ∃ g : Nat → Int32, hl1.2.1 m_srv = g := ⟨_, rfl⟩
  have cl_bor : hx_col 40 hl1 qp 1 = F_bor := (hf_bor qp m_bor f_qp f_m_bor).trans n_bor
  have cl_kin : hx_col 40 hl1 qp 2 = F_kin := (hf_kin qp m_kin f_qp f_m_kin).trans n_kin
  have cl_sum : hx_col 100 hl1 qc 6 = F_sum := (hf_sum qc m_sum f_qc f_m_sum).trans n_sum
  have cl_fro : hx_col 100 hl1 qc 7 = F_fro := (hf_fro qc m_fro f_qc f_m_fro).trans n_fro
  have cl_fil : hx_col 100 hl1 qc 8 = F_fil := (hf_fil qc m_fil f_qc f_m_fil).trans n_fil
  have cl_hea : hx_col 100 hl1 qc 11 = F_mh := (hf_hea qc mh f_qc f_mh).trans n_mh
  have cl_jud : hx_col 100 hl1 qc 12 = F_jud := (hf_jud qc m_jud f_qc f_m_jud).trans n_jud
  have cl_ear : hx_col 40 hl1 qp 3 = F_ear := (hf_ear qp m_ear f_qp f_m_ear).trans n_ear
  have cl_hds : hx_col 40 hl1 qp 4 = F_hds := (hf_hds qp m_hds f_qp f_m_hds).trans n_hds
  have cl_ord : hx_col 100 hl1 qc 13 = F_ord := (hf_ord qc m_ord f_qc f_m_ord).trans n_ord
  have cl_wkl : hx_col 100 hl1 qc 14 = F_wkl := (hf_wkl qc m_wkl f_qc f_m_wkl).trans n_wkl
  have cl_owd : hx_col 100 hl1 qc 15 = F_owd := (hf_owd qc m_owd f_qc f_m_owd).trans n_owd
  have cl_gds : hx_col 100 hl1 qc 17 = F_gds := (hf_gds qc m_gds f_qc f_m_gds).trans n_gds
  have cl_szd : hx_col 100 hl1 qc 16 = F_szd := (hf_szd qc m_szd f_qc f_m_szd).trans n_szd
  have cl_srv : hx_col 100 hl1 qc 18 = F_srv := (hf_srv qc m_srv f_qc f_m_srv).trans n_srv
  have htb9 : ∀ c, c < 100 → 0 ≤ (c_tri c).toInt ∧ (c_tri c).toInt ≤ 512 := fun c hc => by rw [eq_tri c hc]; have w := hT.ei g_mt tt_80 (k := c) hc; rw [n_mt] at w; exact w
  have z_jud : F_jud c0.toInt.toNat = 0 := hx_num_z2 nu_qc cl_jud ?o6
  case o6 => omega
  have hDP := hkDP qc qp m_by f_qc f_qp f_m_by; rw [n_by, f_x_claimCount] at hDP
  have hHL := hkHL qh qc m_ho f_qh f_qc f_m_ho; rw [n_ho, f_x_heardCount, f_x_claimCount] at hHL
  have hHO9 := hkHO m_ho mh f_m_ho f_mh; rw [n_ho, n_mh, f_m_heardMany, f_m_claims] at hHO9
  obtain ⟨cF9L, hFX, hFR9⟩ := hkFX qc m_fc m_nt m_wt m_sum mh f_qc f_m_fc f_m_nt f_m_wt f_m_sum f_mh; rw [f_x_claimCount] at hFX; rw [n_fc, n_nt, n_wt, n_sum, n_mh, f_x_claimCount] at hFR9
  have hBX := hkBX qc m_be f_qc f_m_be; rw [n_be, f_x_claimCount] at hBX
  rw [n_ml, f_x_claimCount] at hAC9
  obtain ⟨y_p0, f_y_p0, g_y_p0⟩ := hx_rf hT g_qo_py tt_3 (k := 2) (u := 23) rfl
  obtain ⟨m_p0, f_m_p0, g_m_p0⟩ := hx_rf hT gm tt_10 (k := 60) (u := 93) rfl
  obtain ⟨F_p0, n_p0⟩ : ∃ g : Nat → Int32, hl1.2.1 m_p0 = g := ⟨_, rfl⟩
  have n_y_p0 : hl1.2.1 y_p0 = F_p0 := (hkP0 qo_py y_p0 m_p0 f_qo_py f_y_p0 f_m_p0).trans n_p0
  obtain ⟨y_p1, f_y_p1, g_y_p1⟩ := hx_rf hT g_qo_py tt_3 (k := 3) (u := 24) rfl
  obtain ⟨m_p1, f_m_p1, g_m_p1⟩ := hx_rf hT gm tt_10 (k := 61) (u := 94) rfl
  obtain ⟨F_p1, n_p1⟩ : ∃ g : Nat → Int32, hl1.2.1 m_p1 = g := ⟨_, rfl⟩
  have n_y_p1 : hl1.2.1 y_p1 = F_p1 := (hkP1 qo_py y_p1 m_p1 f_qo_py f_y_p1 f_m_p1).trans n_p1
  obtain ⟨y_p2, f_y_p2, g_y_p2⟩ := hx_rf hT g_qo_py tt_3 (k := 5) (u := 26) rfl
  obtain ⟨m_p2, f_m_p2, g_m_p2⟩ := hx_rf hT gm tt_10 (k := 62) (u := 95) rfl
  obtain ⟨F_p2, n_p2⟩ : ∃ g : Nat → Int32, hl1.2.1 m_p2 = g := ⟨_, rfl⟩
  have n_y_p2 : hl1.2.1 y_p2 = F_p2 := (hkP2 qo_py y_p2 m_p2 f_qo_py f_y_p2 f_m_p2).trans n_p2
  obtain ⟨y_p3, f_y_p3, g_y_p3⟩ := hx_rf hT g_qo_py tt_3 (k := 4) (u := 25) rfl
  obtain ⟨m_p3, f_m_p3, g_m_p3⟩ := hx_rf hT gm tt_10 (k := 63) (u := 96) rfl
  obtain ⟨F_p3, n_p3⟩ : ∃ g : Nat → Int32, hl1.2.1 m_p3 = g := ⟨_, rfl⟩
  have n_y_p3 : hl1.2.1 y_p3 = F_p3 := (hkP3 qo_py y_p3 m_p3 f_qo_py f_y_p3 f_m_p3).trans n_p3
  obtain ⟨y_p4, f_y_p4, g_y_p4⟩ := hx_rf hT g_qo_py tt_3 (k := 1) (u := 22) rfl
  obtain ⟨m_p4, f_m_p4, g_m_p4⟩ := hx_rf hT gm tt_10 (k := 64) (u := 97) rfl
  obtain ⟨F_p4, n_p4⟩ : ∃ g : Nat → Int32, hl1.2.1 m_p4 = g := ⟨_, rfl⟩
  have n_y_p4 : hl1.2.1 y_p4 = F_p4 := (hkP4 qo_py y_p4 m_p4 f_qo_py f_y_p4 f_m_p4).trans n_p4
  obtain ⟨qrg9, f_qrg9, g_qrg9⟩ := hx_rf hT gx tt_9 (k := 18) (u := 7) rfl
  obtain ⟨y_ls, f_y_ls, g_y_ls⟩ := hx_rf hT g_qrg9 tt_7 (k := 3) (u := 35) rfl
  obtain ⟨m_rl, f_m_rl, g_m_rl⟩ := hx_rf hT gm tt_10 (k := 85) (u := 109) rfl
  obtain ⟨F_y_ls, n_y_ls⟩ : ∃ g : Nat → Int32, hl1.2.1 y_ls = g := ⟨_, rfl⟩
  obtain ⟨F_m_rl, n_m_rl⟩ : ∃ g : Nat → Int32, hl1.2.1 m_rl = g := ⟨_, rfl⟩
  obtain ⟨fv_869, efv_869⟩ : ∃ y : Int32, y = hl1.2.1 qrg9 0 := ⟨_, rfl⟩
  have bfv_869 := hT.gi g_qrg9 tt_7 (k := 0) rfl
  rw [← efv_869] at bfv_869
  have bfv_869 : -1 ≤ fv_869.toInt ∧ fv_869.toInt ≤ 100 := bfv_869
  have ffv_869 := efv_869.symm
  obtain ⟨fv_870, efv_870⟩ : ∃ y : Int32, y = hl1.2.1 am 83 := ⟨_, rfl⟩
  have bfv_870 := hT.gi gm tt_10 (k := 83) rfl
  rw [← efv_870] at bfv_870
  have bfv_870 : 0 ≤ fv_870.toInt ∧ fv_870.toInt ≤ 1 := bfv_870
  have ffv_870 := efv_870.symm
  obtain ⟨fv_871, efv_871⟩ : ∃ y : Int32, y = hl1.2.1 am 84 := ⟨_, rfl⟩
  have bfv_871 := hT.gi gm tt_10 (k := 84) rfl
  rw [← efv_871] at bfv_871
  have bfv_871 : 0 ≤ fv_871.toInt ∧ fv_871.toInt ≤ 300 := bfv_871
  have ffv_871 := efv_871.symm
  have hNQ9 := hkNQ qrg9 f_qrg9; rw [ffv_869, ffv_870, ffv_871] at hNQ9
  have hRL9 := hkRL qrg9 y_ls m_rl f_qrg9 f_y_ls f_m_rl; rw [n_y_ls, n_m_rl, ffv_869] at hRL9
  have hCB : hz_CB F_ord F_wkl F_owd F_szd F_gds F_srv := fun c hc => ⟨by have w := hT.ei g_m_ord tt_83 (k := c) (by omega); rw [n_ord] at w; exact w, by have w := hT.ei g_m_wkl tt_89 (k := c) (by omega); rw [n_wkl] at w; exact w, by have w := hT.ei g_m_owd tt_90 (k := c) (by omega); rw [n_owd] at w; exact w, by have w := hT.ei g_m_szd tt_84 (k := c) (by omega); rw [n_szd] at w; exact w, by have w := hT.ei g_m_gds tt_91 (k := c) (by omega); rw [n_gds] at w; exact w, by have w := hT.ei g_m_srv tt_85 (k := c) (by omega); rw [n_srv] at w; exact w⟩
  have hps : ∀ j, j < 600 → 0 ≤ (F_p2 j).toInt ∧ (F_p2 j).toInt ≤ 610000 := fun j hj => by have w := hT.ei g_m_p2 tt_95 (k := j) (by omega); rw [n_p2] at w; exact w
  have hte9 : ∀ c : Nat, c < 100 → (0 ≤ (c_tri c).toInt ∧ (c_tri c).toInt ≤ 512) ∧ (0 ≤ (F_sum c).toInt ∧ (F_sum c).toInt ≤ 9999) := fun c hc => ⟨htb9 c hc, by have w := hT.ei g_m_sum tt_74 (k := c) (by omega); rw [n_sum] at w; exact w⟩
  have hee9 : ∀ c : Nat, c < 40 → (0 ≤ (F_ear c).toInt ∧ (F_ear c).toInt ≤ 9999) ∧ (0 ≤ (F_hds c).toInt ∧ (F_hds c).toInt ≤ 20) := fun c hc => ⟨by have w := hT.ei g_m_ear tt_59 (k := c) (by omega); rw [n_ear] at w; exact w, by have w := hT.ei g_m_hds tt_60 (k := c) (by omega); rw [n_hds] at w; exact w⟩
  have bAG9 : ∀ k, k < 100 → 0 ≤ (F_aga k).toInt ∧ (F_aga k).toInt ≤ 39 := fun k hk => by have w := hT.ei g_m_aga tt_73 (k := k) (by omega); rw [n_aga] at w; exact w
  have bBY9 : ∀ k, k < 100 → 0 ≤ (F_by k).toInt ∧ (F_by k).toInt ≤ 39 := fun k hk => by have w := hT.ei g_m_by tt_72 (k := k) (by omega); rw [n_by] at w; exact w
  have hag9 : ∀ c, c < c0.toInt.toNat → 0 ≤ (F_aga c).toInt ∧ (F_aga c).toInt < 40 ∧ 0 ≤ (F_by c).toInt ∧ (F_by c).toInt < 40 := fun c hc => by have a9 := bAG9 c (by omega); have b9 := bBY9 c (by omega); omega
  have z_wkl : F_wkl c0.toInt.toNat = 0 := hx_num_z2 nu_qc cl_wkl ?o7
  case o7 => omega
  have z_owd : F_owd c0.toInt.toNat = 0 := hx_num_z2 nu_qc cl_owd ?o8
  case o8 => omega
  have z_gds : F_gds c0.toInt.toNat = 0 := hx_num_z2 nu_qc cl_gds ?o9
  case o9 => omega
  obtain ⟨y_pc, f_y_pc, g_y_pc⟩ := hx_rf hT g_qo_pmn tt_5 (k := 2) (u := 27) rfl
  obtain ⟨m_pc, f_m_pc, g_m_pc⟩ := hx_rf hT gm tt_10 (k := 73) (u := 100) rfl
  obtain ⟨F_y_pc, n_y_pc⟩ : ∃ g : Nat → Int32, hl1.2.1 y_pc = g := ⟨_, rfl⟩
  obtain ⟨F_m_pc, n_m_pc⟩ : ∃ g : Nat → Int32, hl1.2.1 m_pc = g := ⟨_, rfl⟩
  obtain ⟨y_pw, f_y_pw, g_y_pw⟩ := hx_rf hT g_qo_pmn tt_5 (k := 3) (u := 28) rfl
  obtain ⟨m_pw, f_m_pw, g_m_pw⟩ := hx_rf hT gm tt_10 (k := 74) (u := 101) rfl
  obtain ⟨F_y_pw, n_y_pw⟩ : ∃ g : Nat → Int32, hl1.2.1 y_pw = g := ⟨_, rfl⟩
  obtain ⟨F_m_pw, n_m_pw⟩ : ∃ g : Nat → Int32, hl1.2.1 m_pw = g := ⟨_, rfl⟩
  obtain ⟨y_pk, f_y_pk, g_y_pk⟩ := hx_rf hT g_qo_pmn tt_5 (k := 4) (u := 29) rfl
  obtain ⟨m_pk, f_m_pk, g_m_pk⟩ := hx_rf hT gm tt_10 (k := 81) (u := 107) rfl
  obtain ⟨F_y_pk, n_y_pk⟩ : ∃ g : Nat → Int32, hl1.2.1 y_pk = g := ⟨_, rfl⟩
  obtain ⟨F_m_pk, n_m_pk⟩ : ∃ g : Nat → Int32, hl1.2.1 m_pk = g := ⟨_, rfl⟩
  have hEA9 := hkPG qo_pmn y_pc y_pw y_pk m_pc m_pw m_pk f_qo_pmn f_y_pc f_y_pw f_y_pk f_m_pc f_m_pw f_m_pk; rw [n_y_pc, n_y_pw, n_y_pk, n_m_pc, n_m_pw, n_m_pk, f_o_pmn] at hEA9
  have hrn9 : ∀ c : Nat, c < c0.toInt.toNat → 0 ≤ (hz_Rn F_ord F_szd F_gds F_owd F_srv (hz_rc A9 F_ml) F_p0 F_p1 F_p2 F_p3 F_p4 nw.toInt py.toInt.toNat) c ∧ (hz_Rn F_ord F_szd F_gds F_owd F_srv (hz_rc A9 F_ml) F_p0 F_p1 F_p2 F_p3 F_p4 nw.toInt py.toInt.toNat) c ≤ 609999 := fun c hc => hz_Rn_b hCB hps ?o10 ?o11 ((hAB _).1 12)
  case o10 => omega
  case o11 => omega
  have hwd := jw mw f_mw; rw [n_mw] at hwd
  have hWK := jr mr f_mr; rw [n_mr, f_m_acts] at hWK
  have hRP := jp mp mn f_mp f_mn; rw [n_mp, n_mn, f_m_acts] at hRP
  have hPL := jl ml f_ml; rw [n_ml, f_m_claims, f_m_acts] at hPL
  have hHC := jh mh f_mh; rw [n_mh, f_m_heardMany, f_m_claims] at hHC
  have hTR := jt mt f_mt; rw [n_mt] at hTR
  have hHF := jf mh m_fou f_mh f_m_fou; rw [n_mh, n_m_fou, f_m_claims] at hHF
  have hwk9 : ∀ c : Nat, c < c0.toInt.toNat → 1 ≤ (A9 (F_ml c).toInt.toNat).2.1 2 := fun c hc => by have p9 := hPL (c : Int) (by omega) (by omega); rw [Int.toNat_natCast] at p9; obtain ⟨_, h29, _⟩ := hCA9.2 (F_ml c).toInt.toNat (by omega); rw [← h29]; show 1 ≤ (if 2 < 13 then _ else 0); rw [if_pos (by decide)]; exact (hWK (F_ml c).toInt p9.1 p9.2).1
  refine lv_aload_n hx hb dL_law_1267 rfl (lv_at hl 2 rfl) ?_
  refine lv_aload_n hx hb dL_law_1268 rfl (lv_at hl 3 rfl) ?_
  refine lv_iload_n hx hb dL_law_1269 rfl (lv_at hl 0 rfl) ?_
  refine lv_iconst (v := 1) hx hb dL_law_1270 ?o12 ?_
  case o12 => decide
  refine lv_iadd hx hb dL_law_1271 ?_
  have rg_872 := i32_r i
  refine lv_topi (fun x_873 ex_873 => ?_)
  have zx_873 : x_873.toInt = i.toInt + 1 := ?o13
  case o13 =>
    rw [ex_873]
    refine i32_add rfl ?o14 ?o15 ?o16
    case o14 => decide
    case o15 => omega
    case o16 => omega
  refine va_sld hx hb hX hbl hbA hW.2.2.2.1 (vp_in_iff.mpr ⟨?o17, ?o18⟩) dL_law_1272 ?_
  case o17 => omega
  case o18 => omega
  refine lv_topi (fun x_874 ex_874 => ?_)
  have hTo := hT
  refine hx_goi (hx_runV (As := [.int x_874]) (rest := []) ⟨hx, hb, hml, hown, hts⟩ hW gx tt_9 (T := TX9) (N := 20) rfl (t_X9_walked_2 l dC dI dA L1 hl1 H.size ax x_874 hT gx qw g_qw f_qw qlt g_qlt f_qlt F_qlt n_qlt wkm f_o_wkm) (cwV 1 hts (hx_gV kw_1088 kw_1085 kw_1086 kw_1087 kw_94) rfl rfl rfl (by decide +kernel) ⟨Nat.le_of_ble_eq_true rfl, Nat.le_of_ble_eq_true rfl⟩) rfl hl.1 rfl (Nat.le_of_ble_eq_true rfl) dL_law_1273 ⟨(show CC + 0 ≤ 600000 from ?o19), (show SS + 0 ≤ 7302250 from ?o20)⟩) hW (fun r_877 L_875 h_876 H locs p_878 hW => ?_)
  case o19 => omega
  case o20 => omega
  obtain ⟨hr_879, hT, hs⟩ := p_878
  replace hT : hx_T T_tb L_875 h_876 := hT
  replace hs : hx_S T_tb [] L1 hl1 L_875 h_876 := hs
  replace f_qa := (hs.o gx trivial rfl).2.trans f_qa
  replace f_qp := (hs.o gx trivial rfl).2.trans f_qp
  replace f_qc := (hs.o gx trivial rfl).2.trans f_qc
  replace f_qh := (hs.o gx trivial rfl).2.trans f_qh
  replace f_qw := (hs.o gx trivial rfl).2.trans f_qw
  replace f_ql := (hs.o g_qw trivial rfl).2.trans f_ql
  replace f_m_now := (hs.o gm trivial rfl).1.trans f_m_now
  replace f_m_persons := (hs.o gm trivial rfl).1.trans f_m_persons
  replace f_m_claims := (hs.o gm trivial rfl).1.trans f_m_claims
  replace f_m_taped := (hs.o gm trivial rfl).1.trans f_m_taped
  replace f_m_acts := (hs.o gm trivial rfl).1.trans f_m_acts
  replace f_m_heardMany := (hs.o gm trivial rfl).1.trans f_m_heardMany
  replace f_m_lines := (hs.o gm trivial rfl).1.trans f_m_lines
  replace f_m_listed := (hs.o gm trivial rfl).1.trans f_m_listed
  replace f_m_walkedMany := (hs.o gm trivial rfl).1.trans f_m_walkedMany
  replace f_m_payments := (hs.o gm trivial rfl).1.trans f_m_payments
  replace f_m_planMany := (hs.o gm trivial rfl).1.trans f_m_planMany
  replace f_x_now := (hs.o gx trivial rfl).1.trans f_x_now
  replace f_x_personCount := (hs.o gx trivial rfl).1.trans f_x_personCount
  replace f_x_claimCount := (hs.o gx trivial rfl).1.trans f_x_claimCount
  replace f_x_tapeLength := (hs.o gx trivial rfl).1.trans f_x_tapeLength
  replace f_x_actCount := (hs.o gx trivial rfl).1.trans f_x_actCount
  replace f_x_heardCount := (hs.o gx trivial rfl).1.trans f_x_heardCount
  replace f_mw := (hs.o gm trivial rfl).2.trans f_mw
  replace f_mr := (hs.o gm trivial rfl).2.trans f_mr
  replace f_mp := (hs.o gm trivial rfl).2.trans f_mp
  replace f_mn := (hs.o gm trivial rfl).2.trans f_mn
  replace f_ml := (hs.o gm trivial rfl).2.trans f_ml
  replace f_mh := (hs.o gm trivial rfl).2.trans f_mh
  replace f_mt := (hs.o gm trivial rfl).2.trans f_mt
  replace f_m_fou := (hs.o gm trivial rfl).2.trans f_m_fou
  replace f_qo_ln := (hs.o gx trivial rfl).2.trans f_qo_ln
  replace f_o_ln := (hs.o g_qo_ln trivial rfl).1.trans f_o_ln
  replace f_o_lsd := (hs.o g_qw trivial rfl).1.trans f_o_lsd
  replace f_o_wkm := (hs.o g_qw trivial rfl).1.trans f_o_wkm
  replace f_qo_py := (hs.o gx trivial rfl).2.trans f_qo_py
  replace f_o_py := (hs.o g_qo_py trivial rfl).1.trans f_o_py
  replace f_qo_pmn := (hs.o gx trivial rfl).2.trans f_qo_pmn
  replace f_o_pmn := (hs.o g_qo_pmn trivial rfl).1.trans f_o_pmn
  replace f_b_of := (hs.o g_qo_ln trivial rfl).2.trans f_b_of
  replace f_m_of := (hs.o gm trivial rfl).2.trans f_m_of
  replace f_b_wf := (hs.o g_qo_ln trivial rfl).2.trans f_b_wf
  replace f_m_wf := (hs.o gm trivial rfl).2.trans f_m_wf
  replace f_b_df := (hs.o g_qo_ln trivial rfl).2.trans f_b_df
  replace f_m_df := (hs.o gm trivial rfl).2.trans f_m_df
  replace f_b_kf := (hs.o g_qo_ln trivial rfl).2.trans f_b_kf
  replace f_m_kf := (hs.o gm trivial rfl).2.trans f_m_kf
  replace f_b_sf := (hs.o g_qo_ln trivial rfl).2.trans f_b_sf
  replace f_m_sf := (hs.o gm trivial rfl).2.trans f_m_sf
  replace f_b_bf := (hs.o g_qo_ln trivial rfl).2.trans f_b_bf
  replace f_m_lst := (hs.o gm trivial rfl).2.trans f_m_lst
  replace f_qtp := (hs.o gx trivial rfl).2.trans f_qtp
  replace f_m_tp := (hs.o gm trivial rfl).2.trans f_m_tp
  replace f_m_dead := (hs.o gm trivial rfl).2.trans f_m_dead
  replace f_m_isj := (hs.o gm trivial rfl).2.trans f_m_isj
  replace f_m_dox := (hs.o gm trivial rfl).2.trans f_m_dox
  replace f_m_doy := (hs.o gm trivial rfl).2.trans f_m_doy
  replace f_qlt := (hs.o g_qw trivial rfl).2.trans f_qlt
  replace f_qlf := (hs.o g_qw trivial rfl).2.trans f_qlf
  replace f_m_wkd := (hs.o gm trivial rfl).2.trans f_m_wkd
  replace f_m_aga := (hs.o gm trivial rfl).2.trans f_m_aga
  replace f_qwo := (hs.o gx trivial rfl).2.trans f_qwo
  replace f_m_ad := (hs.o gm trivial rfl).2.trans f_m_ad
  replace f_m_by := (hs.o gm trivial rfl).2.trans f_m_by
  replace f_m_ho := (hs.o gm trivial rfl).2.trans f_m_ho
  replace f_m_fc := (hs.o gm trivial rfl).2.trans f_m_fc
  replace f_m_nt := (hs.o gm trivial rfl).2.trans f_m_nt
  replace f_m_wt := (hs.o gm trivial rfl).2.trans f_m_wt
  replace f_m_be := (hs.o gm trivial rfl).2.trans f_m_be
  replace f_m_bor := (hs.o gm trivial rfl).2.trans f_m_bor
  replace f_m_kin := (hs.o gm trivial rfl).2.trans f_m_kin
  replace f_m_sum := (hs.o gm trivial rfl).2.trans f_m_sum
  replace f_m_fro := (hs.o gm trivial rfl).2.trans f_m_fro
  replace f_m_fil := (hs.o gm trivial rfl).2.trans f_m_fil
  replace f_m_jud := (hs.o gm trivial rfl).2.trans f_m_jud
  replace f_m_ear := (hs.o gm trivial rfl).2.trans f_m_ear
  replace f_m_hds := (hs.o gm trivial rfl).2.trans f_m_hds
  replace f_m_ord := (hs.o gm trivial rfl).2.trans f_m_ord
  replace f_m_wkl := (hs.o gm trivial rfl).2.trans f_m_wkl
  replace f_m_owd := (hs.o gm trivial rfl).2.trans f_m_owd
  replace f_m_gds := (hs.o gm trivial rfl).2.trans f_m_gds
  replace f_m_szd := (hs.o gm trivial rfl).2.trans f_m_szd
  replace f_m_srv := (hs.o gm trivial rfl).2.trans f_m_srv
  replace f_y_p0 := (hs.o g_qo_py trivial rfl).2.trans f_y_p0
  replace f_m_p0 := (hs.o gm trivial rfl).2.trans f_m_p0
  replace f_y_p1 := (hs.o g_qo_py trivial rfl).2.trans f_y_p1
  replace f_m_p1 := (hs.o gm trivial rfl).2.trans f_m_p1
  replace f_y_p2 := (hs.o g_qo_py trivial rfl).2.trans f_y_p2
  replace f_m_p2 := (hs.o gm trivial rfl).2.trans f_m_p2
  replace f_y_p3 := (hs.o g_qo_py trivial rfl).2.trans f_y_p3
  replace f_m_p3 := (hs.o gm trivial rfl).2.trans f_m_p3
  replace f_y_p4 := (hs.o g_qo_py trivial rfl).2.trans f_y_p4
  replace f_m_p4 := (hs.o gm trivial rfl).2.trans f_m_p4
  replace f_qrg9 := (hs.o gx trivial rfl).2.trans f_qrg9
  replace f_y_ls := (hs.o g_qrg9 trivial rfl).2.trans f_y_ls
  replace f_m_rl := (hs.o gm trivial rfl).2.trans f_m_rl
  replace ffv_869 := (hs.o g_qrg9 trivial rfl).1.trans ffv_869
  replace ffv_870 := (hs.o gm trivial rfl).1.trans ffv_870
  replace ffv_871 := (hs.o gm trivial rfl).1.trans ffv_871
  replace f_y_pc := (hs.o g_qo_pmn trivial rfl).2.trans f_y_pc
  replace f_m_pc := (hs.o gm trivial rfl).2.trans f_m_pc
  replace f_y_pw := (hs.o g_qo_pmn trivial rfl).2.trans f_y_pw
  replace f_m_pw := (hs.o gm trivial rfl).2.trans f_m_pw
  replace f_y_pk := (hs.o g_qo_pmn trivial rfl).2.trans f_y_pk
  replace f_m_pk := (hs.o gm trivial rfl).2.trans f_m_pk
  replace pf_qa : ∀ j : Nat, (j : Int) < (h_876.2.1 ax 6).toInt → h_876.2.2 qa j ≠ none := by
    intro j hj; rw [(hs.o gx trivial rfl).1] at hj; rw [(hs.a g_qa rfl j).2]; exact pf_qa j hj
  replace pf_qp : ∀ j : Nat, (j : Int) < (h_876.2.1 ax 8).toInt → h_876.2.2 qp j ≠ none := by
    intro j hj; rw [(hs.o gx trivial rfl).1] at hj; rw [(hs.a g_qp rfl j).2]; exact pf_qp j hj
  replace pf_qc : ∀ j : Nat, (j : Int) < (h_876.2.1 ax 11).toInt → h_876.2.2 qc j ≠ none := by
    intro j hj; rw [(hs.o gx trivial rfl).1] at hj; rw [(hs.a g_qc rfl j).2]; exact pf_qc j hj
  replace pf_qh : ∀ j : Nat, (j : Int) < (h_876.2.1 ax 13).toInt → h_876.2.2 qh j ≠ none := by
    intro j hj; rw [(hs.o gx trivial rfl).1] at hj; rw [(hs.a g_qh rfl j).2]; exact pf_qh j hj
  replace pf_ql : ∀ j : Nat, (j : Int) < (h_876.2.1 qw 0).toInt → h_876.2.2 ql j ≠ none := by
    intro j hj; rw [(hs.o g_qw trivial rfl).1] at hj; rw [(hs.a g_ql rfl j).2]; exact pf_ql j hj
  replace cl_lst : hx_col 8 h_876 ql 0 = c_lst := (hx_col_S hs hTo g_ql tt_40 tt_2 rfl rfl).trans cl_lst
  replace cl_dead : hx_col 40 h_876 qp 7 = c_dead := (hx_col_S hs hTo g_qp tt_44 tt_4 rfl rfl).trans cl_dead
  replace cl_isj : hx_col 40 h_876 qp 8 = c_isj := (hx_col_S hs hTo g_qp tt_44 tt_4 rfl rfl).trans cl_isj
  replace cl_dox : hx_col 40 h_876 qp 5 = c_dox := (hx_col_S hs hTo g_qp tt_44 tt_4 rfl rfl).trans cl_dox
  replace cl_doy : hx_col 40 h_876 qp 6 = c_doy := (hx_col_S hs hTo g_qp tt_44 tt_4 rfl rfl).trans cl_doy
  replace cl_fou : hx_col 100 h_876 qc 10 = c_fou := (hx_col_S hs hTo g_qc tt_45 tt_2 rfl rfl).trans cl_fou
  replace cl_tri : hx_col 100 h_876 qc 9 = c_tri := (hx_col_S hs hTo g_qc tt_45 tt_2 rfl rfl).trans cl_tri
  replace cl_bor : hx_col 40 h_876 qp 1 = F_bor := (hx_col_S hs hTo g_qp tt_44 tt_4 rfl rfl).trans cl_bor
  replace cl_kin : hx_col 40 h_876 qp 2 = F_kin := (hx_col_S hs hTo g_qp tt_44 tt_4 rfl rfl).trans cl_kin
  replace cl_sum : hx_col 100 h_876 qc 6 = F_sum := (hx_col_S hs hTo g_qc tt_45 tt_2 rfl rfl).trans cl_sum
  replace cl_fro : hx_col 100 h_876 qc 7 = F_fro := (hx_col_S hs hTo g_qc tt_45 tt_2 rfl rfl).trans cl_fro
  replace cl_fil : hx_col 100 h_876 qc 8 = F_fil := (hx_col_S hs hTo g_qc tt_45 tt_2 rfl rfl).trans cl_fil
  replace cl_hea : hx_col 100 h_876 qc 11 = F_mh := (hx_col_S hs hTo g_qc tt_45 tt_2 rfl rfl).trans cl_hea
  replace cl_jud : hx_col 100 h_876 qc 12 = F_jud := (hx_col_S hs hTo g_qc tt_45 tt_2 rfl rfl).trans cl_jud
  replace cl_ear : hx_col 40 h_876 qp 3 = F_ear := (hx_col_S hs hTo g_qp tt_44 tt_4 rfl rfl).trans cl_ear
  replace cl_hds : hx_col 40 h_876 qp 4 = F_hds := (hx_col_S hs hTo g_qp tt_44 tt_4 rfl rfl).trans cl_hds
  replace cl_ord : hx_col 100 h_876 qc 13 = F_ord := (hx_col_S hs hTo g_qc tt_45 tt_2 rfl rfl).trans cl_ord
  replace cl_wkl : hx_col 100 h_876 qc 14 = F_wkl := (hx_col_S hs hTo g_qc tt_45 tt_2 rfl rfl).trans cl_wkl
  replace cl_owd : hx_col 100 h_876 qc 15 = F_owd := (hx_col_S hs hTo g_qc tt_45 tt_2 rfl rfl).trans cl_owd
  replace cl_gds : hx_col 100 h_876 qc 17 = F_gds := (hx_col_S hs hTo g_qc tt_45 tt_2 rfl rfl).trans cl_gds
  replace cl_szd : hx_col 100 h_876 qc 16 = F_szd := (hx_col_S hs hTo g_qc tt_45 tt_2 rfl rfl).trans cl_szd
  replace cl_srv : hx_col 100 h_876 qc 18 = F_srv := (hx_col_S hs hTo g_qc tt_45 tt_2 rfl rfl).trans cl_srv
  replace nu_qp : hx_num 40 h_876 qp 0 (np.toInt) := hx_num_S hs hTo g_qp tt_44 tt_4 rfl rfl nu_qp
  replace nu_qc : hx_num 100 h_876 qc 0 (c0.toInt) := hx_num_S hs hTo g_qc tt_45 tt_2 rfl rfl nu_qc
  replace sb_list : hx_LQ 8 100 h_876 ql qc := hx_LQ_S hs g_ql g_qc rfl rfl sb_list
  replace hDF : hw_DF h_876 qc qp 2 F_aga c0.toInt := hw_DF_S hs hTo g_qc g_qp tt_45 tt_2 rfl rfl rfl hDF
  replace hRA9 : hv_RA h_876 qa qwo a0.toInt A9 := hv_RA_S hs hTo g_qa g_qwo tt_43 tt_0 rfl rfl rfl rfl rfl rfl ?o21 hRA9
  case o21 => omega
  replace hDP : hw_DF h_876 qc qp 1 F_by c0.toInt := hw_DF_S hs hTo g_qc g_qp tt_45 tt_2 rfl rfl rfl hDP
  replace hAC9 : hv_AC h_876 qc F_ml c0.toInt A9 := hv_AC_S hs hTo g_qc tt_45 tt_2 rfl tt_0 rfl rfl rfl rfl rfl rfl rfl hAC9
  replace hFX : hv_FX 8 4 h_876 qc cF9L c0.toInt := hv_FX_S hs hTo g_qc tt_45 tt_2 rfl rfl rfl rfl hFX
  replace hBX : hv_FX 3 5 h_876 qc F_be c0.toInt := hv_FX_S hs hTo g_qc tt_45 tt_2 rfl rfl rfl rfl hBX
  replace hHL : hv_HL h_876 qh qc F_ho m0.toInt c0.toInt := hv_HL_S hs g_qh g_qc rfl rfl hHL
  replace n_mw : h_876.2.1 mw = F_mw := (funext fun j => (hs.a g_mw rfl j).1).trans n_mw
  replace n_mr : h_876.2.1 mr = F_mr := (funext fun j => (hs.a g_mr rfl j).1).trans n_mr
  replace n_mp : h_876.2.1 mp = F_mp := (funext fun j => (hs.a g_mp rfl j).1).trans n_mp
  replace n_mn : h_876.2.1 mn = F_mn := (funext fun j => (hs.a g_mn rfl j).1).trans n_mn
  replace n_ml : h_876.2.1 ml = F_ml := (funext fun j => (hs.a g_ml rfl j).1).trans n_ml
  replace n_mh : h_876.2.1 mh = F_mh := (funext fun j => (hs.a g_mh rfl j).1).trans n_mh
  replace n_mt : h_876.2.1 mt = F_mt := (funext fun j => (hs.a g_mt rfl j).1).trans n_mt
  replace n_m_fou : h_876.2.1 m_fou = F_m_fou := (funext fun j => (hs.a g_m_fou rfl j).1).trans n_m_fou
  replace n_b_of : h_876.2.1 b_of = B_of := (funext fun j => (hs.a g_b_of rfl j).1).trans n_b_of
  replace n_m_of : h_876.2.1 m_of = F_of := (funext fun j => (hs.a g_m_of rfl j).1).trans n_m_of
  replace n_b_wf : h_876.2.1 b_wf = B_wf := (funext fun j => (hs.a g_b_wf rfl j).1).trans n_b_wf
  replace n_m_wf : h_876.2.1 m_wf = F_wf := (funext fun j => (hs.a g_m_wf rfl j).1).trans n_m_wf
  replace n_b_df : h_876.2.1 b_df = B_df := (funext fun j => (hs.a g_b_df rfl j).1).trans n_b_df
  replace n_m_df : h_876.2.1 m_df = F_df := (funext fun j => (hs.a g_m_df rfl j).1).trans n_m_df
  replace n_b_kf : h_876.2.1 b_kf = B_kf := (funext fun j => (hs.a g_b_kf rfl j).1).trans n_b_kf
  replace n_m_kf : h_876.2.1 m_kf = F_kf := (funext fun j => (hs.a g_m_kf rfl j).1).trans n_m_kf
  replace n_b_sf : h_876.2.1 b_sf = B_sf := (funext fun j => (hs.a g_b_sf rfl j).1).trans n_b_sf
  replace n_m_sf : h_876.2.1 m_sf = F_sf := (funext fun j => (hs.a g_m_sf rfl j).1).trans n_m_sf
  replace n_b_bf : h_876.2.1 b_bf = bfL := (funext fun j => (hs.a g_b_bf rfl j).1).trans n_b_bf
  replace n_lst : h_876.2.1 m_lst = F_lst := (funext fun j => (hs.a g_m_lst rfl j).1).trans n_lst
  replace n_tp : h_876.2.1 m_tp = F_tp := (funext fun j => (hs.a g_m_tp rfl j).1).trans n_tp
  replace n_qtp : h_876.2.1 qtp = F_tp := (funext fun j => (hs.a g_qtp rfl j).1).trans n_qtp
  replace n_dead : h_876.2.1 m_dead = F_dead := (funext fun j => (hs.a g_m_dead rfl j).1).trans n_dead
  replace n_isj : h_876.2.1 m_isj = F_isj := (funext fun j => (hs.a g_m_isj rfl j).1).trans n_isj
  replace n_dox : h_876.2.1 m_dox = F_dox := (funext fun j => (hs.a g_m_dox rfl j).1).trans n_dox
  replace n_doy : h_876.2.1 m_doy = F_doy := (funext fun j => (hs.a g_m_doy rfl j).1).trans n_doy
  replace n_qlt : h_876.2.1 qlt = F_qlt := (funext fun j => (hs.a g_qlt rfl j).1).trans n_qlt
  replace n_m_wkd : h_876.2.1 m_wkd = F_m_wkd := (funext fun j => (hs.a g_m_wkd rfl j).1).trans n_m_wkd
  replace n_aga : h_876.2.1 m_aga = F_aga := (funext fun j => (hs.a g_m_aga rfl j).1).trans n_aga
  replace n_ad : h_876.2.1 m_ad = F_ad := (funext fun j => (hs.a g_m_ad rfl j).1).trans n_ad
  replace n_by : h_876.2.1 m_by = F_by := (funext fun j => (hs.a g_m_by rfl j).1).trans n_by
  replace n_ho : h_876.2.1 m_ho = F_ho := (funext fun j => (hs.a g_m_ho rfl j).1).trans n_ho
  replace n_fc : h_876.2.1 m_fc = F_fc := (funext fun j => (hs.a g_m_fc rfl j).1).trans n_fc
  replace n_nt : h_876.2.1 m_nt = F_nt := (funext fun j => (hs.a g_m_nt rfl j).1).trans n_nt
  replace n_wt : h_876.2.1 m_wt = F_wt := (funext fun j => (hs.a g_m_wt rfl j).1).trans n_wt
  replace n_be : h_876.2.1 m_be = F_be := (funext fun j => (hs.a g_m_be rfl j).1).trans n_be
  replace n_bor : h_876.2.1 m_bor = F_bor := (funext fun j => (hs.a g_m_bor rfl j).1).trans n_bor
  replace n_kin : h_876.2.1 m_kin = F_kin := (funext fun j => (hs.a g_m_kin rfl j).1).trans n_kin
  replace n_sum : h_876.2.1 m_sum = F_sum := (funext fun j => (hs.a g_m_sum rfl j).1).trans n_sum
  replace n_fro : h_876.2.1 m_fro = F_fro := (funext fun j => (hs.a g_m_fro rfl j).1).trans n_fro
  replace n_fil : h_876.2.1 m_fil = F_fil := (funext fun j => (hs.a g_m_fil rfl j).1).trans n_fil
  replace n_jud : h_876.2.1 m_jud = F_jud := (funext fun j => (hs.a g_m_jud rfl j).1).trans n_jud
  replace n_ear : h_876.2.1 m_ear = F_ear := (funext fun j => (hs.a g_m_ear rfl j).1).trans n_ear
  replace n_hds : h_876.2.1 m_hds = F_hds := (funext fun j => (hs.a g_m_hds rfl j).1).trans n_hds
  replace n_ord : h_876.2.1 m_ord = F_ord := (funext fun j => (hs.a g_m_ord rfl j).1).trans n_ord
  replace n_wkl : h_876.2.1 m_wkl = F_wkl := (funext fun j => (hs.a g_m_wkl rfl j).1).trans n_wkl
  replace n_owd : h_876.2.1 m_owd = F_owd := (funext fun j => (hs.a g_m_owd rfl j).1).trans n_owd
  replace n_gds : h_876.2.1 m_gds = F_gds := (funext fun j => (hs.a g_m_gds rfl j).1).trans n_gds
  replace n_szd : h_876.2.1 m_szd = F_szd := (funext fun j => (hs.a g_m_szd rfl j).1).trans n_szd
  replace n_srv : h_876.2.1 m_srv = F_srv := (funext fun j => (hs.a g_m_srv rfl j).1).trans n_srv
  replace n_p0 : h_876.2.1 m_p0 = F_p0 := (funext fun j => (hs.a g_m_p0 rfl j).1).trans n_p0
  replace n_y_p0 : h_876.2.1 y_p0 = F_p0 := (funext fun j => (hs.a g_y_p0 rfl j).1).trans n_y_p0
  replace n_p1 : h_876.2.1 m_p1 = F_p1 := (funext fun j => (hs.a g_m_p1 rfl j).1).trans n_p1
  replace n_y_p1 : h_876.2.1 y_p1 = F_p1 := (funext fun j => (hs.a g_y_p1 rfl j).1).trans n_y_p1
  replace n_p2 : h_876.2.1 m_p2 = F_p2 := (funext fun j => (hs.a g_m_p2 rfl j).1).trans n_p2
  replace n_y_p2 : h_876.2.1 y_p2 = F_p2 := (funext fun j => (hs.a g_y_p2 rfl j).1).trans n_y_p2
  replace n_p3 : h_876.2.1 m_p3 = F_p3 := (funext fun j => (hs.a g_m_p3 rfl j).1).trans n_p3
  replace n_y_p3 : h_876.2.1 y_p3 = F_p3 := (funext fun j => (hs.a g_y_p3 rfl j).1).trans n_y_p3
  replace n_p4 : h_876.2.1 m_p4 = F_p4 := (funext fun j => (hs.a g_m_p4 rfl j).1).trans n_p4
  replace n_y_p4 : h_876.2.1 y_p4 = F_p4 := (funext fun j => (hs.a g_y_p4 rfl j).1).trans n_y_p4
  replace n_y_ls : h_876.2.1 y_ls = F_y_ls := (funext fun j => (hs.a g_y_ls rfl j).1).trans n_y_ls
  replace n_m_rl : h_876.2.1 m_rl = F_m_rl := (funext fun j => (hs.a g_m_rl rfl j).1).trans n_m_rl
  replace n_y_pc : h_876.2.1 y_pc = F_y_pc := (funext fun j => (hs.a g_y_pc rfl j).1).trans n_y_pc
  replace n_m_pc : h_876.2.1 m_pc = F_m_pc := (funext fun j => (hs.a g_m_pc rfl j).1).trans n_m_pc
  replace n_y_pw : h_876.2.1 y_pw = F_y_pw := (funext fun j => (hs.a g_y_pw rfl j).1).trans n_y_pw
  replace n_m_pw : h_876.2.1 m_pw = F_m_pw := (funext fun j => (hs.a g_m_pw rfl j).1).trans n_m_pw
  replace n_y_pk : h_876.2.1 y_pk = F_y_pk := (funext fun j => (hs.a g_y_pk rfl j).1).trans n_y_pk
  replace n_m_pk : h_876.2.1 m_pk = F_m_pk := (funext fun j => (hs.a g_m_pk rfl j).1).trans n_m_pk
  replace gx := gx.S hs
  replace gm := gm.S hs
  replace g_qa := g_qa.S hs
  replace g_qp := g_qp.S hs
  replace g_qc := g_qc.S hs
  replace g_qh := g_qh.S hs
  replace g_qw := g_qw.S hs
  replace g_ql := g_ql.S hs
  replace g_mw := g_mw.S hs
  replace g_mr := g_mr.S hs
  replace g_mp := g_mp.S hs
  replace g_mn := g_mn.S hs
  replace g_ml := g_ml.S hs
  replace g_mh := g_mh.S hs
  replace g_mt := g_mt.S hs
  replace g_m_fou := g_m_fou.S hs
  replace g_qo_ln := g_qo_ln.S hs
  replace g_qo_py := g_qo_py.S hs
  replace g_qo_pmn := g_qo_pmn.S hs
  replace g_b_of := g_b_of.S hs
  replace g_m_of := g_m_of.S hs
  replace g_b_wf := g_b_wf.S hs
  replace g_m_wf := g_m_wf.S hs
  replace g_b_df := g_b_df.S hs
  replace g_m_df := g_m_df.S hs
  replace g_b_kf := g_b_kf.S hs
  replace g_m_kf := g_m_kf.S hs
  replace g_b_sf := g_b_sf.S hs
  replace g_m_sf := g_m_sf.S hs
  replace g_b_bf := g_b_bf.S hs
  replace g_m_lst := g_m_lst.S hs
  replace g_qtp := g_qtp.S hs
  replace g_m_tp := g_m_tp.S hs
  replace g_m_dead := g_m_dead.S hs
  replace g_m_isj := g_m_isj.S hs
  replace g_m_dox := g_m_dox.S hs
  replace g_m_doy := g_m_doy.S hs
  replace g_qlt := g_qlt.S hs
  replace g_qlf := g_qlf.S hs
  replace g_m_wkd := g_m_wkd.S hs
  replace g_m_aga := g_m_aga.S hs
  replace g_qwo := g_qwo.S hs
  replace g_m_ad := g_m_ad.S hs
  replace g_m_by := g_m_by.S hs
  replace g_m_ho := g_m_ho.S hs
  replace g_m_fc := g_m_fc.S hs
  replace g_m_nt := g_m_nt.S hs
  replace g_m_wt := g_m_wt.S hs
  replace g_m_be := g_m_be.S hs
  replace g_m_bor := g_m_bor.S hs
  replace g_m_kin := g_m_kin.S hs
  replace g_m_sum := g_m_sum.S hs
  replace g_m_fro := g_m_fro.S hs
  replace g_m_fil := g_m_fil.S hs
  replace g_m_jud := g_m_jud.S hs
  replace g_m_ear := g_m_ear.S hs
  replace g_m_hds := g_m_hds.S hs
  replace g_m_ord := g_m_ord.S hs
  replace g_m_wkl := g_m_wkl.S hs
  replace g_m_owd := g_m_owd.S hs
  replace g_m_gds := g_m_gds.S hs
  replace g_m_szd := g_m_szd.S hs
  replace g_m_srv := g_m_srv.S hs
  replace g_y_p0 := g_y_p0.S hs
  replace g_m_p0 := g_m_p0.S hs
  replace g_y_p1 := g_y_p1.S hs
  replace g_m_p1 := g_m_p1.S hs
  replace g_y_p2 := g_y_p2.S hs
  replace g_m_p2 := g_m_p2.S hs
  replace g_y_p3 := g_y_p3.S hs
  replace g_m_p3 := g_m_p3.S hs
  replace g_y_p4 := g_y_p4.S hs
  replace g_m_p4 := g_m_p4.S hs
  replace g_qrg9 := g_qrg9.S hs
  replace g_y_ls := g_y_ls.S hs
  replace g_m_rl := g_m_rl.S hs
  replace g_y_pc := g_y_pc.S hs
  replace g_m_pc := g_m_pc.S hs
  replace g_y_pw := g_y_pw.S hs
  replace g_m_pw := g_m_pw.S hs
  replace g_y_pk := g_y_pk.S hs
  replace g_m_pk := g_m_pk.S hs
  refine lv_pop hx hb dL_law_1276 rfl ?_
  refine lv_aload_n hx hb dL_law_1277 rfl (lv_at hl 1 rfl) ?_
  refine lv_aload_n hx hb dL_law_1278 rfl (lv_at hl 3 rfl) ?_
  refine lv_iload_n hx hb dL_law_1279 rfl (lv_at hl 0 rfl) ?_
  refine lv_iconst (v := 1) hx hb dL_law_1280 ?o22 ?_
  case o22 => decide
  refine lv_iadd hx hb dL_law_1281 ?_
  refine lv_topi (fun x_880 ex_880 => ?_)
  have zx_880 : x_880.toInt = i.toInt + 1 := ?o23
  case o23 =>
    rw [ex_880]
    refine i32_add rfl ?o24 ?o25 ?o26
    case o24 => decide
    case o25 => omega
    case o26 => omega
  obtain rfl : x_873 = x_880 := ex_873.trans ex_880.symm
  refine va_sld hx hb hX hbl hbA hW.2.2.2.1 (vp_in_iff.mpr ⟨?o27, ?o28⟩) dL_law_1282 ?_
  case o27 => omega
  case o28 => omega
  refine lv_topi (fun x_881 ex_881 => ?_)
  obtain rfl : x_874 = x_881 := ex_874.trans ex_881.symm
  have hTo := hT
  refine hx_goi (hx_runV (As := [.int x_874]) (rest := []) ⟨hx, hb, hml, hown, hts⟩ hW gm tt_10 (T := TX10) (N := 98) rfl (t_X10_walked_2 l dC dI dA L_875 h_876 H.size am x_874 hT gm m_wkd g_m_wkd f_m_wkd F_m_wkd n_m_wkd wkm f_m_walkedMany) (cwV 1 hts (hx_gV kw_1732 kw_1729 kw_1730 kw_1731 kw_103) rfl rfl rfl (by decide +kernel) ⟨Nat.le_of_ble_eq_true rfl, Nat.le_of_ble_eq_true rfl⟩) rfl hl.1 rfl (Nat.le_of_ble_eq_true rfl) dL_law_1283 ⟨(show CC + 0 + 0 ≤ 600000 from ?o29), (show SS + 0 + 0 ≤ 7302250 from ?o30)⟩) hW (fun r_884 L_882 h_883 H locs p_885 hW => ?_)
  case o29 => omega
  case o30 => omega
  obtain ⟨hr_886, hT, hs⟩ := p_885
  replace hT : hx_T T_tb L_882 h_883 := hT
  replace hs : hx_S T_tb [] L_875 h_876 L_882 h_883 := hs
  replace f_qa := (hs.o gx trivial rfl).2.trans f_qa
  replace f_qp := (hs.o gx trivial rfl).2.trans f_qp
  replace f_qc := (hs.o gx trivial rfl).2.trans f_qc
  replace f_qh := (hs.o gx trivial rfl).2.trans f_qh
  replace f_qw := (hs.o gx trivial rfl).2.trans f_qw
  replace f_ql := (hs.o g_qw trivial rfl).2.trans f_ql
  replace f_m_now := (hs.o gm trivial rfl).1.trans f_m_now
  replace f_m_persons := (hs.o gm trivial rfl).1.trans f_m_persons
  replace f_m_claims := (hs.o gm trivial rfl).1.trans f_m_claims
  replace f_m_taped := (hs.o gm trivial rfl).1.trans f_m_taped
  replace f_m_acts := (hs.o gm trivial rfl).1.trans f_m_acts
  replace f_m_heardMany := (hs.o gm trivial rfl).1.trans f_m_heardMany
  replace f_m_lines := (hs.o gm trivial rfl).1.trans f_m_lines
  replace f_m_listed := (hs.o gm trivial rfl).1.trans f_m_listed
  replace f_m_walkedMany := (hs.o gm trivial rfl).1.trans f_m_walkedMany
  replace f_m_payments := (hs.o gm trivial rfl).1.trans f_m_payments
  replace f_m_planMany := (hs.o gm trivial rfl).1.trans f_m_planMany
  replace f_x_now := (hs.o gx trivial rfl).1.trans f_x_now
  replace f_x_personCount := (hs.o gx trivial rfl).1.trans f_x_personCount
  replace f_x_claimCount := (hs.o gx trivial rfl).1.trans f_x_claimCount
  replace f_x_tapeLength := (hs.o gx trivial rfl).1.trans f_x_tapeLength
  replace f_x_actCount := (hs.o gx trivial rfl).1.trans f_x_actCount
  replace f_x_heardCount := (hs.o gx trivial rfl).1.trans f_x_heardCount
  replace f_mw := (hs.o gm trivial rfl).2.trans f_mw
  replace f_mr := (hs.o gm trivial rfl).2.trans f_mr
  replace f_mp := (hs.o gm trivial rfl).2.trans f_mp
  replace f_mn := (hs.o gm trivial rfl).2.trans f_mn
  replace f_ml := (hs.o gm trivial rfl).2.trans f_ml
  replace f_mh := (hs.o gm trivial rfl).2.trans f_mh
  replace f_mt := (hs.o gm trivial rfl).2.trans f_mt
  replace f_m_fou := (hs.o gm trivial rfl).2.trans f_m_fou
  replace f_qo_ln := (hs.o gx trivial rfl).2.trans f_qo_ln
  replace f_o_ln := (hs.o g_qo_ln trivial rfl).1.trans f_o_ln
  replace f_o_lsd := (hs.o g_qw trivial rfl).1.trans f_o_lsd
  replace f_o_wkm := (hs.o g_qw trivial rfl).1.trans f_o_wkm
  replace f_qo_py := (hs.o gx trivial rfl).2.trans f_qo_py
  replace f_o_py := (hs.o g_qo_py trivial rfl).1.trans f_o_py
  replace f_qo_pmn := (hs.o gx trivial rfl).2.trans f_qo_pmn
  replace f_o_pmn := (hs.o g_qo_pmn trivial rfl).1.trans f_o_pmn
  replace f_b_of := (hs.o g_qo_ln trivial rfl).2.trans f_b_of
  replace f_m_of := (hs.o gm trivial rfl).2.trans f_m_of
  replace f_b_wf := (hs.o g_qo_ln trivial rfl).2.trans f_b_wf
  replace f_m_wf := (hs.o gm trivial rfl).2.trans f_m_wf
  replace f_b_df := (hs.o g_qo_ln trivial rfl).2.trans f_b_df
  replace f_m_df := (hs.o gm trivial rfl).2.trans f_m_df
  replace f_b_kf := (hs.o g_qo_ln trivial rfl).2.trans f_b_kf
  replace f_m_kf := (hs.o gm trivial rfl).2.trans f_m_kf
  replace f_b_sf := (hs.o g_qo_ln trivial rfl).2.trans f_b_sf
  replace f_m_sf := (hs.o gm trivial rfl).2.trans f_m_sf
  replace f_b_bf := (hs.o g_qo_ln trivial rfl).2.trans f_b_bf
  replace f_m_lst := (hs.o gm trivial rfl).2.trans f_m_lst
  replace f_qtp := (hs.o gx trivial rfl).2.trans f_qtp
  replace f_m_tp := (hs.o gm trivial rfl).2.trans f_m_tp
  replace f_m_dead := (hs.o gm trivial rfl).2.trans f_m_dead
  replace f_m_isj := (hs.o gm trivial rfl).2.trans f_m_isj
  replace f_m_dox := (hs.o gm trivial rfl).2.trans f_m_dox
  replace f_m_doy := (hs.o gm trivial rfl).2.trans f_m_doy
  replace f_qlt := (hs.o g_qw trivial rfl).2.trans f_qlt
  replace f_qlf := (hs.o g_qw trivial rfl).2.trans f_qlf
  replace f_m_wkd := (hs.o gm trivial rfl).2.trans f_m_wkd
  replace f_m_aga := (hs.o gm trivial rfl).2.trans f_m_aga
  replace f_qwo := (hs.o gx trivial rfl).2.trans f_qwo
  replace f_m_ad := (hs.o gm trivial rfl).2.trans f_m_ad
  replace f_m_by := (hs.o gm trivial rfl).2.trans f_m_by
  replace f_m_ho := (hs.o gm trivial rfl).2.trans f_m_ho
  replace f_m_fc := (hs.o gm trivial rfl).2.trans f_m_fc
  replace f_m_nt := (hs.o gm trivial rfl).2.trans f_m_nt
  replace f_m_wt := (hs.o gm trivial rfl).2.trans f_m_wt
  replace f_m_be := (hs.o gm trivial rfl).2.trans f_m_be
  replace f_m_bor := (hs.o gm trivial rfl).2.trans f_m_bor
  replace f_m_kin := (hs.o gm trivial rfl).2.trans f_m_kin
  replace f_m_sum := (hs.o gm trivial rfl).2.trans f_m_sum
  replace f_m_fro := (hs.o gm trivial rfl).2.trans f_m_fro
  replace f_m_fil := (hs.o gm trivial rfl).2.trans f_m_fil
  replace f_m_jud := (hs.o gm trivial rfl).2.trans f_m_jud
  replace f_m_ear := (hs.o gm trivial rfl).2.trans f_m_ear
  replace f_m_hds := (hs.o gm trivial rfl).2.trans f_m_hds
  replace f_m_ord := (hs.o gm trivial rfl).2.trans f_m_ord
  replace f_m_wkl := (hs.o gm trivial rfl).2.trans f_m_wkl
  replace f_m_owd := (hs.o gm trivial rfl).2.trans f_m_owd
  replace f_m_gds := (hs.o gm trivial rfl).2.trans f_m_gds
  replace f_m_szd := (hs.o gm trivial rfl).2.trans f_m_szd
  replace f_m_srv := (hs.o gm trivial rfl).2.trans f_m_srv
  replace f_y_p0 := (hs.o g_qo_py trivial rfl).2.trans f_y_p0
  replace f_m_p0 := (hs.o gm trivial rfl).2.trans f_m_p0
  replace f_y_p1 := (hs.o g_qo_py trivial rfl).2.trans f_y_p1
  replace f_m_p1 := (hs.o gm trivial rfl).2.trans f_m_p1
  replace f_y_p2 := (hs.o g_qo_py trivial rfl).2.trans f_y_p2
  replace f_m_p2 := (hs.o gm trivial rfl).2.trans f_m_p2
  replace f_y_p3 := (hs.o g_qo_py trivial rfl).2.trans f_y_p3
  replace f_m_p3 := (hs.o gm trivial rfl).2.trans f_m_p3
  replace f_y_p4 := (hs.o g_qo_py trivial rfl).2.trans f_y_p4
  replace f_m_p4 := (hs.o gm trivial rfl).2.trans f_m_p4
  replace f_qrg9 := (hs.o gx trivial rfl).2.trans f_qrg9
  replace f_y_ls := (hs.o g_qrg9 trivial rfl).2.trans f_y_ls
  replace f_m_rl := (hs.o gm trivial rfl).2.trans f_m_rl
  replace ffv_869 := (hs.o g_qrg9 trivial rfl).1.trans ffv_869
  replace ffv_870 := (hs.o gm trivial rfl).1.trans ffv_870
  replace ffv_871 := (hs.o gm trivial rfl).1.trans ffv_871
  replace f_y_pc := (hs.o g_qo_pmn trivial rfl).2.trans f_y_pc
  replace f_m_pc := (hs.o gm trivial rfl).2.trans f_m_pc
  replace f_y_pw := (hs.o g_qo_pmn trivial rfl).2.trans f_y_pw
  replace f_m_pw := (hs.o gm trivial rfl).2.trans f_m_pw
  replace f_y_pk := (hs.o g_qo_pmn trivial rfl).2.trans f_y_pk
  replace f_m_pk := (hs.o gm trivial rfl).2.trans f_m_pk
  replace pf_qa : ∀ j : Nat, (j : Int) < (h_883.2.1 ax 6).toInt → h_883.2.2 qa j ≠ none := by
    intro j hj; rw [(hs.o gx trivial rfl).1] at hj; rw [(hs.a g_qa rfl j).2]; exact pf_qa j hj
  replace pf_qp : ∀ j : Nat, (j : Int) < (h_883.2.1 ax 8).toInt → h_883.2.2 qp j ≠ none := by
    intro j hj; rw [(hs.o gx trivial rfl).1] at hj; rw [(hs.a g_qp rfl j).2]; exact pf_qp j hj
  replace pf_qc : ∀ j : Nat, (j : Int) < (h_883.2.1 ax 11).toInt → h_883.2.2 qc j ≠ none := by
    intro j hj; rw [(hs.o gx trivial rfl).1] at hj; rw [(hs.a g_qc rfl j).2]; exact pf_qc j hj
  replace pf_qh : ∀ j : Nat, (j : Int) < (h_883.2.1 ax 13).toInt → h_883.2.2 qh j ≠ none := by
    intro j hj; rw [(hs.o gx trivial rfl).1] at hj; rw [(hs.a g_qh rfl j).2]; exact pf_qh j hj
  replace pf_ql : ∀ j : Nat, (j : Int) < (h_883.2.1 qw 0).toInt → h_883.2.2 ql j ≠ none := by
    intro j hj; rw [(hs.o g_qw trivial rfl).1] at hj; rw [(hs.a g_ql rfl j).2]; exact pf_ql j hj
  replace cl_lst : hx_col 8 h_883 ql 0 = c_lst := (hx_col_S hs hTo g_ql tt_40 tt_2 rfl rfl).trans cl_lst
  replace cl_dead : hx_col 40 h_883 qp 7 = c_dead := (hx_col_S hs hTo g_qp tt_44 tt_4 rfl rfl).trans cl_dead
  replace cl_isj : hx_col 40 h_883 qp 8 = c_isj := (hx_col_S hs hTo g_qp tt_44 tt_4 rfl rfl).trans cl_isj
  replace cl_dox : hx_col 40 h_883 qp 5 = c_dox := (hx_col_S hs hTo g_qp tt_44 tt_4 rfl rfl).trans cl_dox
  replace cl_doy : hx_col 40 h_883 qp 6 = c_doy := (hx_col_S hs hTo g_qp tt_44 tt_4 rfl rfl).trans cl_doy
  replace cl_fou : hx_col 100 h_883 qc 10 = c_fou := (hx_col_S hs hTo g_qc tt_45 tt_2 rfl rfl).trans cl_fou
  replace cl_tri : hx_col 100 h_883 qc 9 = c_tri := (hx_col_S hs hTo g_qc tt_45 tt_2 rfl rfl).trans cl_tri
  replace cl_bor : hx_col 40 h_883 qp 1 = F_bor := (hx_col_S hs hTo g_qp tt_44 tt_4 rfl rfl).trans cl_bor
  replace cl_kin : hx_col 40 h_883 qp 2 = F_kin := (hx_col_S hs hTo g_qp tt_44 tt_4 rfl rfl).trans cl_kin
  replace cl_sum : hx_col 100 h_883 qc 6 = F_sum := (hx_col_S hs hTo g_qc tt_45 tt_2 rfl rfl).trans cl_sum
  replace cl_fro : hx_col 100 h_883 qc 7 = F_fro := (hx_col_S hs hTo g_qc tt_45 tt_2 rfl rfl).trans cl_fro
  replace cl_fil : hx_col 100 h_883 qc 8 = F_fil := (hx_col_S hs hTo g_qc tt_45 tt_2 rfl rfl).trans cl_fil
  replace cl_hea : hx_col 100 h_883 qc 11 = F_mh := (hx_col_S hs hTo g_qc tt_45 tt_2 rfl rfl).trans cl_hea
  replace cl_jud : hx_col 100 h_883 qc 12 = F_jud := (hx_col_S hs hTo g_qc tt_45 tt_2 rfl rfl).trans cl_jud
  replace cl_ear : hx_col 40 h_883 qp 3 = F_ear := (hx_col_S hs hTo g_qp tt_44 tt_4 rfl rfl).trans cl_ear
  replace cl_hds : hx_col 40 h_883 qp 4 = F_hds := (hx_col_S hs hTo g_qp tt_44 tt_4 rfl rfl).trans cl_hds
  replace cl_ord : hx_col 100 h_883 qc 13 = F_ord := (hx_col_S hs hTo g_qc tt_45 tt_2 rfl rfl).trans cl_ord
  replace cl_wkl : hx_col 100 h_883 qc 14 = F_wkl := (hx_col_S hs hTo g_qc tt_45 tt_2 rfl rfl).trans cl_wkl
  replace cl_owd : hx_col 100 h_883 qc 15 = F_owd := (hx_col_S hs hTo g_qc tt_45 tt_2 rfl rfl).trans cl_owd
  replace cl_gds : hx_col 100 h_883 qc 17 = F_gds := (hx_col_S hs hTo g_qc tt_45 tt_2 rfl rfl).trans cl_gds
  replace cl_szd : hx_col 100 h_883 qc 16 = F_szd := (hx_col_S hs hTo g_qc tt_45 tt_2 rfl rfl).trans cl_szd
  replace cl_srv : hx_col 100 h_883 qc 18 = F_srv := (hx_col_S hs hTo g_qc tt_45 tt_2 rfl rfl).trans cl_srv
  replace nu_qp : hx_num 40 h_883 qp 0 (np.toInt) := hx_num_S hs hTo g_qp tt_44 tt_4 rfl rfl nu_qp
  replace nu_qc : hx_num 100 h_883 qc 0 (c0.toInt) := hx_num_S hs hTo g_qc tt_45 tt_2 rfl rfl nu_qc
  replace sb_list : hx_LQ 8 100 h_883 ql qc := hx_LQ_S hs g_ql g_qc rfl rfl sb_list
  replace hDF : hw_DF h_883 qc qp 2 F_aga c0.toInt := hw_DF_S hs hTo g_qc g_qp tt_45 tt_2 rfl rfl rfl hDF
  replace hRA9 : hv_RA h_883 qa qwo a0.toInt A9 := hv_RA_S hs hTo g_qa g_qwo tt_43 tt_0 rfl rfl rfl rfl rfl rfl ?o31 hRA9
  case o31 => omega
  replace hDP : hw_DF h_883 qc qp 1 F_by c0.toInt := hw_DF_S hs hTo g_qc g_qp tt_45 tt_2 rfl rfl rfl hDP
  replace hAC9 : hv_AC h_883 qc F_ml c0.toInt A9 := hv_AC_S hs hTo g_qc tt_45 tt_2 rfl tt_0 rfl rfl rfl rfl rfl rfl rfl hAC9
  replace hFX : hv_FX 8 4 h_883 qc cF9L c0.toInt := hv_FX_S hs hTo g_qc tt_45 tt_2 rfl rfl rfl rfl hFX
  replace hBX : hv_FX 3 5 h_883 qc F_be c0.toInt := hv_FX_S hs hTo g_qc tt_45 tt_2 rfl rfl rfl rfl hBX
  replace hHL : hv_HL h_883 qh qc F_ho m0.toInt c0.toInt := hv_HL_S hs g_qh g_qc rfl rfl hHL
  replace n_mw : h_883.2.1 mw = F_mw := (funext fun j => (hs.a g_mw rfl j).1).trans n_mw
  replace n_mr : h_883.2.1 mr = F_mr := (funext fun j => (hs.a g_mr rfl j).1).trans n_mr
  replace n_mp : h_883.2.1 mp = F_mp := (funext fun j => (hs.a g_mp rfl j).1).trans n_mp
  replace n_mn : h_883.2.1 mn = F_mn := (funext fun j => (hs.a g_mn rfl j).1).trans n_mn
  replace n_ml : h_883.2.1 ml = F_ml := (funext fun j => (hs.a g_ml rfl j).1).trans n_ml
  replace n_mh : h_883.2.1 mh = F_mh := (funext fun j => (hs.a g_mh rfl j).1).trans n_mh
  replace n_mt : h_883.2.1 mt = F_mt := (funext fun j => (hs.a g_mt rfl j).1).trans n_mt
  replace n_m_fou : h_883.2.1 m_fou = F_m_fou := (funext fun j => (hs.a g_m_fou rfl j).1).trans n_m_fou
  replace n_b_of : h_883.2.1 b_of = B_of := (funext fun j => (hs.a g_b_of rfl j).1).trans n_b_of
  replace n_m_of : h_883.2.1 m_of = F_of := (funext fun j => (hs.a g_m_of rfl j).1).trans n_m_of
  replace n_b_wf : h_883.2.1 b_wf = B_wf := (funext fun j => (hs.a g_b_wf rfl j).1).trans n_b_wf
  replace n_m_wf : h_883.2.1 m_wf = F_wf := (funext fun j => (hs.a g_m_wf rfl j).1).trans n_m_wf
  replace n_b_df : h_883.2.1 b_df = B_df := (funext fun j => (hs.a g_b_df rfl j).1).trans n_b_df
  replace n_m_df : h_883.2.1 m_df = F_df := (funext fun j => (hs.a g_m_df rfl j).1).trans n_m_df
  replace n_b_kf : h_883.2.1 b_kf = B_kf := (funext fun j => (hs.a g_b_kf rfl j).1).trans n_b_kf
  replace n_m_kf : h_883.2.1 m_kf = F_kf := (funext fun j => (hs.a g_m_kf rfl j).1).trans n_m_kf
  replace n_b_sf : h_883.2.1 b_sf = B_sf := (funext fun j => (hs.a g_b_sf rfl j).1).trans n_b_sf
  replace n_m_sf : h_883.2.1 m_sf = F_sf := (funext fun j => (hs.a g_m_sf rfl j).1).trans n_m_sf
  replace n_b_bf : h_883.2.1 b_bf = bfL := (funext fun j => (hs.a g_b_bf rfl j).1).trans n_b_bf
  replace n_lst : h_883.2.1 m_lst = F_lst := (funext fun j => (hs.a g_m_lst rfl j).1).trans n_lst
  replace n_tp : h_883.2.1 m_tp = F_tp := (funext fun j => (hs.a g_m_tp rfl j).1).trans n_tp
  replace n_qtp : h_883.2.1 qtp = F_tp := (funext fun j => (hs.a g_qtp rfl j).1).trans n_qtp
  replace n_dead : h_883.2.1 m_dead = F_dead := (funext fun j => (hs.a g_m_dead rfl j).1).trans n_dead
  replace n_isj : h_883.2.1 m_isj = F_isj := (funext fun j => (hs.a g_m_isj rfl j).1).trans n_isj
  replace n_dox : h_883.2.1 m_dox = F_dox := (funext fun j => (hs.a g_m_dox rfl j).1).trans n_dox
  replace n_doy : h_883.2.1 m_doy = F_doy := (funext fun j => (hs.a g_m_doy rfl j).1).trans n_doy
  replace n_qlt : h_883.2.1 qlt = F_qlt := (funext fun j => (hs.a g_qlt rfl j).1).trans n_qlt
  replace n_m_wkd : h_883.2.1 m_wkd = F_m_wkd := (funext fun j => (hs.a g_m_wkd rfl j).1).trans n_m_wkd
  replace n_aga : h_883.2.1 m_aga = F_aga := (funext fun j => (hs.a g_m_aga rfl j).1).trans n_aga
  replace n_ad : h_883.2.1 m_ad = F_ad := (funext fun j => (hs.a g_m_ad rfl j).1).trans n_ad
  replace n_by : h_883.2.1 m_by = F_by := (funext fun j => (hs.a g_m_by rfl j).1).trans n_by
  replace n_ho : h_883.2.1 m_ho = F_ho := (funext fun j => (hs.a g_m_ho rfl j).1).trans n_ho
  replace n_fc : h_883.2.1 m_fc = F_fc := (funext fun j => (hs.a g_m_fc rfl j).1).trans n_fc
  replace n_nt : h_883.2.1 m_nt = F_nt := (funext fun j => (hs.a g_m_nt rfl j).1).trans n_nt
  replace n_wt : h_883.2.1 m_wt = F_wt := (funext fun j => (hs.a g_m_wt rfl j).1).trans n_wt
  replace n_be : h_883.2.1 m_be = F_be := (funext fun j => (hs.a g_m_be rfl j).1).trans n_be
  replace n_bor : h_883.2.1 m_bor = F_bor := (funext fun j => (hs.a g_m_bor rfl j).1).trans n_bor
  replace n_kin : h_883.2.1 m_kin = F_kin := (funext fun j => (hs.a g_m_kin rfl j).1).trans n_kin
  replace n_sum : h_883.2.1 m_sum = F_sum := (funext fun j => (hs.a g_m_sum rfl j).1).trans n_sum
  replace n_fro : h_883.2.1 m_fro = F_fro := (funext fun j => (hs.a g_m_fro rfl j).1).trans n_fro
  replace n_fil : h_883.2.1 m_fil = F_fil := (funext fun j => (hs.a g_m_fil rfl j).1).trans n_fil
  replace n_jud : h_883.2.1 m_jud = F_jud := (funext fun j => (hs.a g_m_jud rfl j).1).trans n_jud
  replace n_ear : h_883.2.1 m_ear = F_ear := (funext fun j => (hs.a g_m_ear rfl j).1).trans n_ear
  replace n_hds : h_883.2.1 m_hds = F_hds := (funext fun j => (hs.a g_m_hds rfl j).1).trans n_hds
  replace n_ord : h_883.2.1 m_ord = F_ord := (funext fun j => (hs.a g_m_ord rfl j).1).trans n_ord
  replace n_wkl : h_883.2.1 m_wkl = F_wkl := (funext fun j => (hs.a g_m_wkl rfl j).1).trans n_wkl
  replace n_owd : h_883.2.1 m_owd = F_owd := (funext fun j => (hs.a g_m_owd rfl j).1).trans n_owd
  replace n_gds : h_883.2.1 m_gds = F_gds := (funext fun j => (hs.a g_m_gds rfl j).1).trans n_gds
  replace n_szd : h_883.2.1 m_szd = F_szd := (funext fun j => (hs.a g_m_szd rfl j).1).trans n_szd
  replace n_srv : h_883.2.1 m_srv = F_srv := (funext fun j => (hs.a g_m_srv rfl j).1).trans n_srv
  replace n_p0 : h_883.2.1 m_p0 = F_p0 := (funext fun j => (hs.a g_m_p0 rfl j).1).trans n_p0
  replace n_y_p0 : h_883.2.1 y_p0 = F_p0 := (funext fun j => (hs.a g_y_p0 rfl j).1).trans n_y_p0
  replace n_p1 : h_883.2.1 m_p1 = F_p1 := (funext fun j => (hs.a g_m_p1 rfl j).1).trans n_p1
  replace n_y_p1 : h_883.2.1 y_p1 = F_p1 := (funext fun j => (hs.a g_y_p1 rfl j).1).trans n_y_p1
  replace n_p2 : h_883.2.1 m_p2 = F_p2 := (funext fun j => (hs.a g_m_p2 rfl j).1).trans n_p2
  replace n_y_p2 : h_883.2.1 y_p2 = F_p2 := (funext fun j => (hs.a g_y_p2 rfl j).1).trans n_y_p2
  replace n_p3 : h_883.2.1 m_p3 = F_p3 := (funext fun j => (hs.a g_m_p3 rfl j).1).trans n_p3
  replace n_y_p3 : h_883.2.1 y_p3 = F_p3 := (funext fun j => (hs.a g_y_p3 rfl j).1).trans n_y_p3
  replace n_p4 : h_883.2.1 m_p4 = F_p4 := (funext fun j => (hs.a g_m_p4 rfl j).1).trans n_p4
  replace n_y_p4 : h_883.2.1 y_p4 = F_p4 := (funext fun j => (hs.a g_y_p4 rfl j).1).trans n_y_p4
  replace n_y_ls : h_883.2.1 y_ls = F_y_ls := (funext fun j => (hs.a g_y_ls rfl j).1).trans n_y_ls
  replace n_m_rl : h_883.2.1 m_rl = F_m_rl := (funext fun j => (hs.a g_m_rl rfl j).1).trans n_m_rl
  replace n_y_pc : h_883.2.1 y_pc = F_y_pc := (funext fun j => (hs.a g_y_pc rfl j).1).trans n_y_pc
  replace n_m_pc : h_883.2.1 m_pc = F_m_pc := (funext fun j => (hs.a g_m_pc rfl j).1).trans n_m_pc
  replace n_y_pw : h_883.2.1 y_pw = F_y_pw := (funext fun j => (hs.a g_y_pw rfl j).1).trans n_y_pw
  replace n_m_pw : h_883.2.1 m_pw = F_m_pw := (funext fun j => (hs.a g_m_pw rfl j).1).trans n_m_pw
  replace n_y_pk : h_883.2.1 y_pk = F_y_pk := (funext fun j => (hs.a g_y_pk rfl j).1).trans n_y_pk
  replace n_m_pk : h_883.2.1 m_pk = F_m_pk := (funext fun j => (hs.a g_m_pk rfl j).1).trans n_m_pk
  replace gx := gx.S hs
  replace gm := gm.S hs
  replace g_qa := g_qa.S hs
  replace g_qp := g_qp.S hs
  replace g_qc := g_qc.S hs
  replace g_qh := g_qh.S hs
  replace g_qw := g_qw.S hs
  replace g_ql := g_ql.S hs
  replace g_mw := g_mw.S hs
  replace g_mr := g_mr.S hs
  replace g_mp := g_mp.S hs
  replace g_mn := g_mn.S hs
  replace g_ml := g_ml.S hs
  replace g_mh := g_mh.S hs
  replace g_mt := g_mt.S hs
  replace g_m_fou := g_m_fou.S hs
  replace g_qo_ln := g_qo_ln.S hs
  replace g_qo_py := g_qo_py.S hs
  replace g_qo_pmn := g_qo_pmn.S hs
  replace g_b_of := g_b_of.S hs
  replace g_m_of := g_m_of.S hs
  replace g_b_wf := g_b_wf.S hs
  replace g_m_wf := g_m_wf.S hs
  replace g_b_df := g_b_df.S hs
  replace g_m_df := g_m_df.S hs
  replace g_b_kf := g_b_kf.S hs
  replace g_m_kf := g_m_kf.S hs
  replace g_b_sf := g_b_sf.S hs
  replace g_m_sf := g_m_sf.S hs
  replace g_b_bf := g_b_bf.S hs
  replace g_m_lst := g_m_lst.S hs
  replace g_qtp := g_qtp.S hs
  replace g_m_tp := g_m_tp.S hs
  replace g_m_dead := g_m_dead.S hs
  replace g_m_isj := g_m_isj.S hs
  replace g_m_dox := g_m_dox.S hs
  replace g_m_doy := g_m_doy.S hs
  replace g_qlt := g_qlt.S hs
  replace g_qlf := g_qlf.S hs
  replace g_m_wkd := g_m_wkd.S hs
  replace g_m_aga := g_m_aga.S hs
  replace g_qwo := g_qwo.S hs
  replace g_m_ad := g_m_ad.S hs
  replace g_m_by := g_m_by.S hs
  replace g_m_ho := g_m_ho.S hs
  replace g_m_fc := g_m_fc.S hs
  replace g_m_nt := g_m_nt.S hs
  replace g_m_wt := g_m_wt.S hs
  replace g_m_be := g_m_be.S hs
  replace g_m_bor := g_m_bor.S hs
  replace g_m_kin := g_m_kin.S hs
  replace g_m_sum := g_m_sum.S hs
  replace g_m_fro := g_m_fro.S hs
  replace g_m_fil := g_m_fil.S hs
  replace g_m_jud := g_m_jud.S hs
  replace g_m_ear := g_m_ear.S hs
  replace g_m_hds := g_m_hds.S hs
  replace g_m_ord := g_m_ord.S hs
  replace g_m_wkl := g_m_wkl.S hs
  replace g_m_owd := g_m_owd.S hs
  replace g_m_gds := g_m_gds.S hs
  replace g_m_szd := g_m_szd.S hs
  replace g_m_srv := g_m_srv.S hs
  replace g_y_p0 := g_y_p0.S hs
  replace g_m_p0 := g_m_p0.S hs
  replace g_y_p1 := g_y_p1.S hs
  replace g_m_p1 := g_m_p1.S hs
  replace g_y_p2 := g_y_p2.S hs
  replace g_m_p2 := g_m_p2.S hs
  replace g_y_p3 := g_y_p3.S hs
  replace g_m_p3 := g_m_p3.S hs
  replace g_y_p4 := g_y_p4.S hs
  replace g_m_p4 := g_m_p4.S hs
  replace g_qrg9 := g_qrg9.S hs
  replace g_y_ls := g_y_ls.S hs
  replace g_m_rl := g_m_rl.S hs
  replace g_y_pc := g_y_pc.S hs
  replace g_m_pc := g_m_pc.S hs
  replace g_y_pw := g_y_pw.S hs
  replace g_m_pw := g_m_pw.S hs
  replace g_y_pk := g_y_pk.S hs
  replace g_m_pk := g_m_pk.S hs
  refine lv_pop hx hb dL_law_1286 rfl ?_
  refine lv_goto (tgt := 1379) hx hb dL_law_1287 ?o32 ?_
  case o32 => decide
  have heq := hw_wd eb_wkd hr_879 hr_886
  refine W.widen (k := CC + 3) (n := SS + 179) ?o33 ?o34 ?_
  case o33 => omega
  case o34 => omega
  refine kk L_882 h_883 H locs ls hW ⟨hT, gx, gm, ⟨f_x_now.trans f_m_now.symm, f_x_personCount.trans f_m_persons.symm, f_x_claimCount.trans f_m_claims.symm, f_x_tapeLength.trans f_m_taped.symm, f_x_actCount.trans f_m_acts.symm, f_x_heardCount.trans f_m_heardMany.symm, hx_ob f_qo_ln (f_o_ln.trans f_m_lines.symm), hx_ob f_qw (f_o_lsd.trans f_m_listed.symm), hx_ob f_qw (f_o_wkm.trans f_m_walkedMany.symm), hx_ob f_qo_py (f_o_py.trans f_m_payments.symm), hx_ob f_qo_pmn (f_o_pmn.trans f_m_planMany.symm), hx_ob f_qp ?o35, hx_ob f_qc ?o36, (fun b a r hb ha hr => ?o37), (fun b a r hb ha hr => ?o38), (fun b a r hb ha hr => ?o39), (fun b a r hb ha hr => ?o40), (fun b a r hb ha hr => ?o41), (fun b a r hb ha hr => ?o42), (fun w q c hw hq hc => ?o43), (fun w q r hw hq hr => ?o44), (fun w q r hw hq hr => ?o45), (fun c q a hc hq ha => ?o46), (fun q r hq hr => ?o47), (fun q w a b c d e p hq hw ha hb hc hd he hp => ?o48), (fun c q a hc hq ha => ?o49), (fun q c a hq hc ha => ?o50), (fun a b ha hb => ?o51), (fun c a b d e f hc ha hb hd he hf => ?o52), (fun c a hc ha => ?o53), hx_ob2 f_qp f_m_bor (cl_bor.trans n_bor.symm), hx_ob2 f_qp f_m_kin (cl_kin.trans n_kin.symm), hx_ob2 f_qc f_m_sum (cl_sum.trans n_sum.symm), hx_ob2 f_qc f_m_fro (cl_fro.trans n_fro.symm), hx_ob2 f_qc f_m_fil (cl_fil.trans n_fil.symm), hx_ob2 f_qc f_mh (cl_hea.trans n_mh.symm), hx_ob2 f_qc f_m_jud (cl_jud.trans n_jud.symm), hx_ob2 f_qp f_m_ear (cl_ear.trans n_ear.symm), hx_ob2 f_qp f_m_hds (cl_hds.trans n_hds.symm), hx_ob2 f_qc f_m_ord (cl_ord.trans n_ord.symm), hx_ob2 f_qc f_m_wkl (cl_wkl.trans n_wkl.symm), hx_ob2 f_qc f_m_owd (cl_owd.trans n_owd.symm), hx_ob2 f_qc f_m_gds (cl_gds.trans n_gds.symm), hx_ob2 f_qc f_m_szd (cl_szd.trans n_szd.symm), hx_ob2 f_qc f_m_srv (cl_srv.trans n_srv.symm), (fun p q r hp hq hr => ?o54), (fun p q r hp hq hr => ?o55), (fun p q r hp hq hr => ?o56), (fun p q r hp hq hr => ?o57), (fun p q r hp hq hr => ?o58), (fun p hp => ?o59), (fun p q r hp hq hr => ?o60), (fun p a b c d e f hp ha hb hc hd he hf => ?o61), hx_ob2 f_qp f_m_dead ?o62, hx_ob2 f_qp f_m_isj ?o63, hx_ob2 f_qp f_m_dox ?o64, hx_ob2 f_qp f_m_doy ?o65, hx_ob2 f_qc f_m_fou ?o66, hx_ob2 f_qc f_mt ?o67, trivial⟩, ⟨hx_ob f_qa pf_qa, hx_ob f_qp pf_qp, hx_ob f_qc pf_qc, hx_ob f_qh pf_qh, (fun w q hw hq => ?o68)⟩, ⟨hx_ob f_mw ?o69, hx_ob f_mr ?o70, hx_ob2 f_mp f_mn ?o71, hx_ob f_ml ?o72, hx_ob f_mh ?o73, hx_ob f_mt ?o74, hx_ob2 f_mh f_m_fou ?o76⟩⟩ hl
  case o35 =>
    rw [f_x_personCount]
    exact nu_qp
  case o36 =>
    rw [f_x_claimCount]
    exact nu_qc
  case o37 =>
    obtain rfl : qo_ln = b := Option.some.inj (f_qo_ln.symm.trans hb)
    obtain rfl : b_of = a := Option.some.inj (f_b_of.symm.trans ha)
    obtain rfl : m_of = r := Option.some.inj (f_m_of.symm.trans hr)
    rw [n_b_of, n_m_of, f_o_ln]
    exact eb_of
  case o38 =>
    obtain rfl : qo_ln = b := Option.some.inj (f_qo_ln.symm.trans hb)
    obtain rfl : b_wf = a := Option.some.inj (f_b_wf.symm.trans ha)
    obtain rfl : m_wf = r := Option.some.inj (f_m_wf.symm.trans hr)
    rw [n_b_wf, n_m_wf, f_o_ln]
    exact eb_wf
  case o39 =>
    obtain rfl : qo_ln = b := Option.some.inj (f_qo_ln.symm.trans hb)
    obtain rfl : b_df = a := Option.some.inj (f_b_df.symm.trans ha)
    obtain rfl : m_df = r := Option.some.inj (f_m_df.symm.trans hr)
    rw [n_b_df, n_m_df, f_o_ln]
    exact eb_df
  case o40 =>
    obtain rfl : qo_ln = b := Option.some.inj (f_qo_ln.symm.trans hb)
    obtain rfl : b_kf = a := Option.some.inj (f_b_kf.symm.trans ha)
    obtain rfl : m_kf = r := Option.some.inj (f_m_kf.symm.trans hr)
    rw [n_b_kf, n_m_kf, f_o_ln]
    exact eb_kf
  case o41 =>
    obtain rfl : qo_ln = b := Option.some.inj (f_qo_ln.symm.trans hb)
    obtain rfl : b_sf = a := Option.some.inj (f_b_sf.symm.trans ha)
    obtain rfl : m_sf = r := Option.some.inj (f_m_sf.symm.trans hr)
    rw [n_b_sf, n_m_sf, f_o_ln]
    exact eb_sf
  case o42 =>
    obtain rfl : qo_ln = b := Option.some.inj (f_qo_ln.symm.trans hb)
    obtain rfl : b_df = a := Option.some.inj (f_b_df.symm.trans ha)
    obtain rfl : b_bf = r := Option.some.inj (f_b_bf.symm.trans hr)
    rw [n_b_df, n_b_bf, f_o_ln]
    exact ⟨hBD, hDY⟩
  case o43 =>
    obtain rfl : qw = w := Option.some.inj (f_qw.symm.trans hw)
    obtain rfl : ql = q := Option.some.inj (f_ql.symm.trans hq)
    obtain rfl : qc = c := Option.some.inj (f_qc.symm.trans hc)
    exact sb_list
  case o44 =>
    obtain rfl : qw = w := Option.some.inj (f_qw.symm.trans hw)
    obtain rfl : ql = q := Option.some.inj (f_ql.symm.trans hq)
    obtain rfl : m_lst = r := Option.some.inj (f_m_lst.symm.trans hr)
    rw [cl_lst, n_lst]
    exact eq_lst
  case o45 =>
    obtain rfl : qw = w := Option.some.inj (f_qw.symm.trans hw)
    obtain rfl : qlt = q := Option.some.inj (f_qlt.symm.trans hq)
    obtain rfl : m_wkd = r := Option.some.inj (f_m_wkd.symm.trans hr)
    rw [n_qlt, n_m_wkd, f_o_wkm]
    exact eb_wkd
  case o46 =>
    obtain rfl : qc = c := Option.some.inj (f_qc.symm.trans hc)
    obtain rfl : qp = q := Option.some.inj (f_qp.symm.trans hq)
    obtain rfl : m_aga = a := Option.some.inj (f_m_aga.symm.trans ha)
    rw [n_aga, f_x_claimCount]
    exact hw_DF_e hDF rfl rfl
  case o47 =>
    obtain rfl : qtp = q := Option.some.inj (f_qtp.symm.trans hq)
    obtain rfl : m_tp = r := Option.some.inj (f_m_tp.symm.trans hr)
    exact n_qtp.trans n_tp.symm
  case o48 =>
    obtain rfl : qa = q := Option.some.inj (f_qa.symm.trans hq)
    obtain rfl : qwo = w := Option.some.inj (f_qwo.symm.trans hw)
    obtain rfl : m_ad = a := Option.some.inj (f_m_ad.symm.trans ha)
    obtain rfl : mr = b := Option.some.inj (f_mr.symm.trans hb)
    obtain rfl : mn = c := Option.some.inj (f_mn.symm.trans hc)
    obtain rfl : mp = d := Option.some.inj (f_mp.symm.trans hd)
    obtain rfl : qc = e := Option.some.inj (f_qc.symm.trans he)
    obtain rfl : ml = p := Option.some.inj (f_ml.symm.trans hp)
    exact ⟨_, by rw [f_x_actCount]; exact hRA9, by rw [f_x_actCount, n_ad, n_mr, n_mn, n_mp]; exact hCA9, by rw [n_ml, f_x_claimCount]; exact hv_AC_e hAC9 rfl rfl rfl, hAB⟩
  case o49 =>
    obtain rfl : qc = c := Option.some.inj (f_qc.symm.trans hc)
    obtain rfl : qp = q := Option.some.inj (f_qp.symm.trans hq)
    obtain rfl : m_by = a := Option.some.inj (f_m_by.symm.trans ha)
    rw [n_by, f_x_claimCount]
    exact hw_DF_e hDP rfl rfl
  case o50 =>
    obtain rfl : qh = q := Option.some.inj (f_qh.symm.trans hq)
    obtain rfl : qc = c := Option.some.inj (f_qc.symm.trans hc)
    obtain rfl : m_ho = a := Option.some.inj (f_m_ho.symm.trans ha)
    rw [n_ho, f_x_heardCount, f_x_claimCount]
    exact hv_HL_e hHL rfl rfl rfl
  case o51 =>
    obtain rfl : m_ho = a := Option.some.inj (f_m_ho.symm.trans ha)
    obtain rfl : mh = b := Option.some.inj (f_mh.symm.trans hb)
    rw [n_ho, n_mh, f_m_heardMany, f_m_claims]
    exact hHO9
  case o52 =>
    obtain rfl : qc = c := Option.some.inj (f_qc.symm.trans hc)
    obtain rfl : m_fc = a := Option.some.inj (f_m_fc.symm.trans ha)
    obtain rfl : m_nt = b := Option.some.inj (f_m_nt.symm.trans hb)
    obtain rfl : m_wt = d := Option.some.inj (f_m_wt.symm.trans hd)
    obtain rfl : m_sum = e := Option.some.inj (f_m_sum.symm.trans he)
    obtain rfl : mh = f := Option.some.inj (f_mh.symm.trans hf)
    exact ⟨cF9L, by rw [f_x_claimCount]; exact hFX, by rw [n_fc, n_nt, n_wt, n_sum, n_mh, f_x_claimCount]; exact hFR9⟩
  case o53 =>
    obtain rfl : qc = c := Option.some.inj (f_qc.symm.trans hc)
    obtain rfl : m_be = a := Option.some.inj (f_m_be.symm.trans ha)
    rw [n_be, f_x_claimCount]
    exact hv_FX_e hBX rfl rfl
  case o54 =>
    obtain rfl : qo_py = p := Option.some.inj (f_qo_py.symm.trans hp)
    obtain rfl : y_p0 = q := Option.some.inj (f_y_p0.symm.trans hq)
    obtain rfl : m_p0 = r := Option.some.inj (f_m_p0.symm.trans hr)
    exact n_y_p0.trans n_p0.symm
  case o55 =>
    obtain rfl : qo_py = p := Option.some.inj (f_qo_py.symm.trans hp)
    obtain rfl : y_p1 = q := Option.some.inj (f_y_p1.symm.trans hq)
    obtain rfl : m_p1 = r := Option.some.inj (f_m_p1.symm.trans hr)
    exact n_y_p1.trans n_p1.symm
  case o56 =>
    obtain rfl : qo_py = p := Option.some.inj (f_qo_py.symm.trans hp)
    obtain rfl : y_p2 = q := Option.some.inj (f_y_p2.symm.trans hq)
    obtain rfl : m_p2 = r := Option.some.inj (f_m_p2.symm.trans hr)
    exact n_y_p2.trans n_p2.symm
  case o57 =>
    obtain rfl : qo_py = p := Option.some.inj (f_qo_py.symm.trans hp)
    obtain rfl : y_p3 = q := Option.some.inj (f_y_p3.symm.trans hq)
    obtain rfl : m_p3 = r := Option.some.inj (f_m_p3.symm.trans hr)
    exact n_y_p3.trans n_p3.symm
  case o58 =>
    obtain rfl : qo_py = p := Option.some.inj (f_qo_py.symm.trans hp)
    obtain rfl : y_p4 = q := Option.some.inj (f_y_p4.symm.trans hq)
    obtain rfl : m_p4 = r := Option.some.inj (f_m_p4.symm.trans hr)
    exact n_y_p4.trans n_p4.symm
  case o59 =>
    obtain rfl : qrg9 = p := Option.some.inj (f_qrg9.symm.trans hp)
    rw [ffv_869, ffv_870, ffv_871]
    exact hNQ9
  case o60 =>
    obtain rfl : qrg9 = p := Option.some.inj (f_qrg9.symm.trans hp)
    obtain rfl : y_ls = q := Option.some.inj (f_y_ls.symm.trans hq)
    obtain rfl : m_rl = r := Option.some.inj (f_m_rl.symm.trans hr)
    rw [n_y_ls, n_m_rl, ffv_869]
    exact hRL9
  case o61 =>
    obtain rfl : qo_pmn = p := Option.some.inj (f_qo_pmn.symm.trans hp)
    obtain rfl : y_pc = a := Option.some.inj (f_y_pc.symm.trans ha)
    obtain rfl : y_pw = b := Option.some.inj (f_y_pw.symm.trans hb)
    obtain rfl : y_pk = c := Option.some.inj (f_y_pk.symm.trans hc)
    obtain rfl : m_pc = d := Option.some.inj (f_m_pc.symm.trans hd)
    obtain rfl : m_pw = e := Option.some.inj (f_m_pw.symm.trans he)
    obtain rfl : m_pk = f := Option.some.inj (f_m_pk.symm.trans hf)
    rw [n_y_pc, n_y_pw, n_y_pk, n_m_pc, n_m_pw, n_m_pk, f_o_pmn]
    exact hEA9
  case o62 =>
    rw [cl_dead, n_dead]
    exact eq_dead
  case o63 =>
    rw [cl_isj, n_isj]
    exact eq_isj
  case o64 =>
    rw [cl_dox, n_dox]
    exact eq_dox
  case o65 =>
    rw [cl_doy, n_doy]
    exact eq_doy
  case o66 =>
    rw [cl_fou, n_m_fou]
    exact eq_fou
  case o67 =>
    rw [cl_tri, n_mt]
    exact eq_tri
  case o68 =>
    obtain rfl : qw = w := Option.some.inj (f_qw.symm.trans hw)
    obtain rfl : ql = q := Option.some.inj (f_ql.symm.trans hq)
    exact pf_ql
  case o69 =>
    rw [n_mw]
    exact hwd
  case o70 =>
    rw [n_mr, f_m_acts]
    exact hWK
  case o71 =>
    rw [n_mp, n_mn, f_m_acts]
    exact hRP
  case o72 =>
    rw [n_ml, f_m_claims, f_m_acts]
    exact hPL
  case o73 =>
    rw [n_mh, f_m_heardMany, f_m_claims]
    exact hHC
  case o74 =>
    rw [n_mt]
    refine (hx_TR_le hTR ?o75)
    case o75 => omega
  case o76 =>
    rw [n_mh, n_m_fou, f_m_claims]
    exact hHF

set_option maxHeartbeats 4000000 in
set_option maxRecDepth 100000 in
theorem law_case_28 {p : Program} {e : Env} {s : State} {m : MethodId} {below : List Frame} {meth : Method} {c : Code} (l : Launch) {b LN : Nat} {xs : Nat → Int32} (hx : p.tables.exec = Jvm.exec) (hb : c.code = code) (hr : meth.sig.returnType = ret) (hlocks : meth.locks = false) (hml : c.maxLocals = 4) (hown : s.vm.findClass "SmallCourtLaw" = some m.cls) (hts : ∀ w ∈ hx_all, w.before #[Value.ref b] s = true) (hX : va_X b LN xs s s.heap) (hbl : b < s.heap.size) (hbA : ¬ s.heap.size ≤ b) (hLN : LN ≤ 3584) (dC : Nat → ClassId) (dI : Nat → Nat → Nat) (dA : Nat → ClassId) (b0 : hx_z) (ax am : Nat) (T1 : Int) (hT0 : 0 ≤ T1) (hT1 : T1 ≤ 511) (i : Int32) (hi0 : 0 ≤ i.toInt) (hiL : i.toInt + 7 ≤ LN) (CC SS : Nat) (hCC : CC + 3 ≤ 600000) (hSS : SS + 179 ≤ 7302250) (L1 : List Nat) (hl1 : hx_h) (H : Heap) (locs : List Loc) (ls : Array Slot) (hW : hx_W T_tb (P_ty dA) (dC, dI) vwCl (fun q : Nat => s.heap.size ≤ q) s.heap L1 hl1 s H locs) (hZ : hx_Xt (fun q : Nat => s.heap.size ≤ q) b0 s) (hI : hx_IV T1 ax am L1 hl1) (hl : lv_has ls 4 [(3, .int i), (2, .ref am), (1, .ref ax), (0, .ref b)]) (kk : ∀ (L2 : List Nat) (h2 : hx_h) (H2 : Heap) (locs2 : List Loc) (ls2 : Array Slot), hx_W T_tb (P_ty dA) (dC, dI) vwCl (fun q : Nat => s.heap.size ≤ q) s.heap L2 h2 s H2 locs2 → hx_IV (T1 + 1) ax am L2 h2 → lv_has ls2 4 [(3, .int i), (2, .ref am), (1, .ref ax), (0, .ref b)] → W p l e room_1 s m #[Value.ref b] below meth c H2 locs2 (CC + 3) (SS + 179) (lw_Z below #[Value.ref b] s) (F0 m 1379 ls2 [])) : W p l e room_1 s m #[Value.ref b] below meth c H locs CC SS (lw_Z below #[Value.ref b] s) (F0 m 1290 ls []) := by
  have hI9 := hI
  have hT := hI9.1
  replace hI9 := hI9.2
  have gx := hI9.1
  replace hI9 := hI9.2
  have gm := hI9.1
  replace hI9 := hI9.2
  have zq0_3 := hI9.1
  have he_nw := zq0_3.1
  replace zq0_3 := zq0_3.2
  have he_np := zq0_3.1
  replace zq0_3 := zq0_3.2
  have he_c0 := zq0_3.1
  replace zq0_3 := zq0_3.2
  have he_tl := zq0_3.1
  replace zq0_3 := zq0_3.2
  have he_a0 := zq0_3.1
  replace zq0_3 := zq0_3.2
  have he_m0 := zq0_3.1
  replace zq0_3 := zq0_3.2
  have ho_ln := zq0_3.1
  replace zq0_3 := zq0_3.2
  have ho_lsd := zq0_3.1
  replace zq0_3 := zq0_3.2
  have ho_wkm := zq0_3.1
  replace zq0_3 := zq0_3.2
  have ho_py := zq0_3.1
  replace zq0_3 := zq0_3.2
  have ho_pmn := zq0_3.1
  replace zq0_3 := zq0_3.2
  have hn_qp := zq0_3.1
  replace zq0_3 := zq0_3.2
  have hn_qc := zq0_3.1
  replace zq0_3 := zq0_3.2
  have hk_of := zq0_3.1
  replace zq0_3 := zq0_3.2
  have hk_wf := zq0_3.1
  replace zq0_3 := zq0_3.2
  have hk_df := zq0_3.1
  replace zq0_3 := zq0_3.2
  have hk_kf := zq0_3.1
  replace zq0_3 := zq0_3.2
  have hk_sf := zq0_3.1
  replace zq0_3 := zq0_3.2
  have hkBD := zq0_3.1
  replace zq0_3 := zq0_3.2
  have hLQ := zq0_3.1
  replace zq0_3 := zq0_3.2
  have hLE := zq0_3.1
  replace zq0_3 := zq0_3.2
  have hkWD := zq0_3.1
  replace zq0_3 := zq0_3.2
  have hkDF := zq0_3.1
  replace zq0_3 := zq0_3.2
  have hkTP := zq0_3.1
  replace zq0_3 := zq0_3.2
  have hkAC := zq0_3.1
  replace zq0_3 := zq0_3.2
  have hkDP := zq0_3.1
  replace zq0_3 := zq0_3.2
  have hkHL := zq0_3.1
  replace zq0_3 := zq0_3.2
  have hkHO := zq0_3.1
  replace zq0_3 := zq0_3.2
  have hkFX := zq0_3.1
  replace zq0_3 := zq0_3.2
  have hkBX := zq0_3.1
  replace zq0_3 := zq0_3.2
  have hf_bor := zq0_3.1
  replace zq0_3 := zq0_3.2
  have hf_kin := zq0_3.1
  replace zq0_3 := zq0_3.2
  have hf_sum := zq0_3.1
  replace zq0_3 := zq0_3.2
  have hf_fro := zq0_3.1
  replace zq0_3 := zq0_3.2
  have hf_fil := zq0_3.1
  replace zq0_3 := zq0_3.2
  have hf_hea := zq0_3.1
  replace zq0_3 := zq0_3.2
  have hf_jud := zq0_3.1
  replace zq0_3 := zq0_3.2
  have hf_ear := zq0_3.1
  replace zq0_3 := zq0_3.2
  have hf_hds := zq0_3.1
  replace zq0_3 := zq0_3.2
  have hf_ord := zq0_3.1
  replace zq0_3 := zq0_3.2
  have hf_wkl := zq0_3.1
  replace zq0_3 := zq0_3.2
  have hf_owd := zq0_3.1
  replace zq0_3 := zq0_3.2
  have hf_gds := zq0_3.1
  replace zq0_3 := zq0_3.2
  have hf_szd := zq0_3.1
  replace zq0_3 := zq0_3.2
  have hf_srv := zq0_3.1
  replace zq0_3 := zq0_3.2
  have hkP0 := zq0_3.1
  replace zq0_3 := zq0_3.2
  have hkP1 := zq0_3.1
  replace zq0_3 := zq0_3.2
  have hkP2 := zq0_3.1
  replace zq0_3 := zq0_3.2
  have hkP3 := zq0_3.1
  replace zq0_3 := zq0_3.2
  have hkP4 := zq0_3.1
  replace zq0_3 := zq0_3.2
  have hkNQ := zq0_3.1
  replace zq0_3 := zq0_3.2
  have hkRL := zq0_3.1
  replace zq0_3 := zq0_3.2
  have hkPG := zq0_3.1
  replace zq0_3 := zq0_3.2
  have hc_dead := zq0_3.1
  replace zq0_3 := zq0_3.2
  have hc_isj := zq0_3.1
  replace zq0_3 := zq0_3.2
  have hc_dox := zq0_3.1
  replace zq0_3 := zq0_3.2
  have hc_doy := zq0_3.1
  replace zq0_3 := zq0_3.2
  have hc_fou := zq0_3.1
  replace zq0_3 := zq0_3.2
  have hc_tri := zq0_3.1
  replace zq0_3 := zq0_3.2
  replace hI9 := hI9.2
  have zq0_4 := hI9.1
  have ia := zq0_4.1
  replace zq0_4 := zq0_4.2
  have ip := zq0_4.1
  replace zq0_4 := zq0_4.2
  have ic := zq0_4.1
  replace zq0_4 := zq0_4.2
  have ih := zq0_4.1
  replace zq0_4 := zq0_4.2
  have il := zq0_4
  replace hI9 := hI9.2
  have zq0_5 := hI9
  have jw := zq0_5.1
  replace zq0_5 := zq0_5.2
  have jr := zq0_5.1
  replace zq0_5 := zq0_5.2
  have jp := zq0_5.1
  replace zq0_5 := zq0_5.2
  have jl := zq0_5.1
  replace zq0_5 := zq0_5.2
  have jh := zq0_5.1
  replace zq0_5 := zq0_5.2
  have jt := zq0_5.1
  replace zq0_5 := zq0_5.2
  have jf := zq0_5
  obtain ⟨qa, f_qa, g_qa⟩ := hx_rf hT gx tt_9 (k := 5) (u := 43) rfl
  have pf_qa := ia qa f_qa
  obtain ⟨qp, f_qp, g_qp⟩ := hx_rf hT gx tt_9 (k := 7) (u := 44) rfl
  have pf_qp := ip qp f_qp
  obtain ⟨qc, f_qc, g_qc⟩ := hx_rf hT gx tt_9 (k := 10) (u := 45) rfl
  have pf_qc := ic qc f_qc
  obtain ⟨qh, f_qh, g_qh⟩ := hx_rf hT gx tt_9 (k := 12) (u := 46) rfl
  have pf_qh := ih qh f_qh
  obtain ⟨qw, f_qw, g_qw⟩ := hx_rf hT gx tt_9 (k := 19) (u := 8) rfl
  obtain ⟨ql, f_ql, g_ql⟩ := hx_rf hT g_qw tt_8 (k := 3) (u := 40) rfl
  have pf_ql := il qw ql f_qw f_ql
  obtain ⟨nw, f_m_now⟩ : ∃ y : Int32, hl1.2.1 am 0 = y := ⟨_, rfl⟩
  have b_nw := hT.gi gm tt_10 (k := 0) rfl
  rw [f_m_now] at b_nw
  have b_nw : 0 ≤ nw.toInt ∧ nw.toInt ≤ 7999 := b_nw
  obtain ⟨np, f_m_persons⟩ : ∃ y : Int32, hl1.2.1 am 20 = y := ⟨_, rfl⟩
  have b_np := hT.gi gm tt_10 (k := 20) rfl
  rw [f_m_persons] at b_np
  have b_np : 0 ≤ np.toInt ∧ np.toInt ≤ 40 := b_np
  obtain ⟨c0, f_m_claims⟩ : ∃ y : Int32, hl1.2.1 am 36 = y := ⟨_, rfl⟩
  have b_c0 := hT.gi gm tt_10 (k := 36) rfl
  rw [f_m_claims] at b_c0
  have b_c0 : 0 ≤ c0.toInt ∧ c0.toInt ≤ 100 := b_c0
  obtain ⟨tl, f_m_taped⟩ : ∃ y : Int32, hl1.2.1 am 7 = y := ⟨_, rfl⟩
  have b_tl := hT.gi gm tt_10 (k := 7) rfl
  rw [f_m_taped] at b_tl
  have b_tl : 0 ≤ tl.toInt ∧ tl.toInt ≤ 400 := b_tl
  obtain ⟨a0, f_m_acts⟩ : ∃ y : Int32, hl1.2.1 am 1 = y := ⟨_, rfl⟩
  have b_a0 := hT.gi gm tt_10 (k := 1) rfl
  rw [f_m_acts] at b_a0
  have b_a0 : 0 ≤ a0.toInt ∧ a0.toInt ≤ 8 := b_a0
  obtain ⟨m0, f_m_heardMany⟩ : ∃ y : Int32, hl1.2.1 am 57 = y := ⟨_, rfl⟩
  have b_m0 := hT.gi gm tt_10 (k := 57) rfl
  rw [f_m_heardMany] at b_m0
  have b_m0 : 0 ≤ m0.toInt ∧ m0.toInt ≤ 100 := b_m0
  obtain ⟨ln, f_m_lines⟩ : ∃ y : Int32, hl1.2.1 am 29 = y := ⟨_, rfl⟩
  have b_ln := hT.gi gm tt_10 (k := 29) rfl
  rw [f_m_lines] at b_ln
  have b_ln : 0 ≤ ln.toInt ∧ ln.toInt ≤ 400 := b_ln
  obtain ⟨lsd, f_m_listed⟩ : ∃ y : Int32, hl1.2.1 am 90 = y := ⟨_, rfl⟩
  have b_lsd := hT.gi gm tt_10 (k := 90) rfl
  rw [f_m_listed] at b_lsd
  have b_lsd : 0 ≤ lsd.toInt ∧ lsd.toInt ≤ 8 := b_lsd
  obtain ⟨wkm, f_m_walkedMany⟩ : ∃ y : Int32, hl1.2.1 am 92 = y := ⟨_, rfl⟩
  have b_wkm := hT.gi gm tt_10 (k := 92) rfl
  rw [f_m_walkedMany] at b_wkm
  have b_wkm : 0 ≤ wkm.toInt ∧ wkm.toInt ≤ 8 := b_wkm
  obtain ⟨py, f_m_payments⟩ : ∃ y : Int32, hl1.2.1 am 59 = y := ⟨_, rfl⟩
  have b_py := hT.gi gm tt_10 (k := 59) rfl
  rw [f_m_payments] at b_py
  have b_py : 0 ≤ py.toInt ∧ py.toInt ≤ 600 := b_py
  obtain ⟨pmn, f_m_planMany⟩ : ∃ y : Int32, hl1.2.1 am 72 = y := ⟨_, rfl⟩
  have b_pmn := hT.gi gm tt_10 (k := 72) rfl
  rw [f_m_planMany] at b_pmn
  have b_pmn : 0 ≤ pmn.toInt ∧ pmn.toInt ≤ 4 := b_pmn
  have f_x_now : hl1.2.1 ax 2 = nw := he_nw.trans f_m_now
  have f_x_personCount : hl1.2.1 ax 8 = np := he_np.trans f_m_persons
  have f_x_claimCount : hl1.2.1 ax 11 = c0 := he_c0.trans f_m_claims
  have f_x_tapeLength : hl1.2.1 ax 1 = tl := he_tl.trans f_m_taped
  have f_x_actCount : hl1.2.1 ax 6 = a0 := he_a0.trans f_m_acts
  have f_x_heardCount : hl1.2.1 ax 13 = m0 := he_m0.trans f_m_heardMany
  obtain ⟨mw, f_mw, g_mw⟩ := hx_rf hT gm tt_10 (k := 19) (u := 57) rfl
  obtain ⟨F_mw, n_mw⟩ : ∃ g : Nat → Int32, hl1.2.1 mw = g := ⟨_, rfl⟩
  obtain ⟨mr, f_mr, g_mr⟩ := hx_rf hT gm tt_10 (k := 3) (u := 50) rfl
  obtain ⟨F_mr, n_mr⟩ : ∃ g : Nat → Int32, hl1.2.1 mr = g := ⟨_, rfl⟩
  obtain ⟨mp, f_mp, g_mp⟩ := hx_rf hT gm tt_10 (k := 5) (u := 52) rfl
  obtain ⟨F_mp, n_mp⟩ : ∃ g : Nat → Int32, hl1.2.1 mp = g := ⟨_, rfl⟩
  obtain ⟨mn, f_mn, g_mn⟩ := hx_rf hT gm tt_10 (k := 4) (u := 51) rfl
  obtain ⟨F_mn, n_mn⟩ : ∃ g : Nat → Int32, hl1.2.1 mn = g := ⟨_, rfl⟩
  obtain ⟨ml, f_ml, g_ml⟩ := hx_rf hT gm tt_10 (k := 44) (u := 79) rfl
  obtain ⟨F_ml, n_ml⟩ : ∃ g : Nat → Int32, hl1.2.1 ml = g := ⟨_, rfl⟩
  obtain ⟨mh, f_mh, g_mh⟩ := hx_rf hT gm tt_10 (k := 47) (u := 82) rfl
  obtain ⟨F_mh, n_mh⟩ : ∃ g : Nat → Int32, hl1.2.1 mh = g := ⟨_, rfl⟩
  obtain ⟨mt, f_mt, g_mt⟩ := hx_rf hT gm tt_10 (k := 45) (u := 80) rfl
  obtain ⟨F_mt, n_mt⟩ : ∃ g : Nat → Int32, hl1.2.1 mt = g := ⟨_, rfl⟩
  obtain ⟨m_fou, f_m_fou, g_m_fou⟩ := hx_rf hT gm tt_10 (k := 46) (u := 81) rfl
  obtain ⟨F_m_fou, n_m_fou⟩ : ∃ g : Nat → Int32, hl1.2.1 m_fou = g := ⟨_, rfl⟩
  obtain ⟨qo_ln, f_qo_ln, g_qo_ln⟩ := hx_rf hT gx tt_9 (k := 9) (u := 1) rfl
  have f_o_ln : hl1.2.1 qo_ln 0 = ln := (ho_ln qo_ln f_qo_ln).trans f_m_lines
  have f_o_lsd : hl1.2.1 qw 0 = lsd := (ho_lsd qw f_qw).trans f_m_listed
  have f_o_wkm : hl1.2.1 qw 1 = wkm := (ho_wkm qw f_qw).trans f_m_walkedMany
  obtain ⟨qo_py, f_qo_py, g_qo_py⟩ := hx_rf hT gx tt_9 (k := 14) (u := 3) rfl
  have f_o_py : hl1.2.1 qo_py 0 = py := (ho_py qo_py f_qo_py).trans f_m_payments
  obtain ⟨qo_pmn, f_qo_pmn, g_qo_pmn⟩ := hx_rf hT gx tt_9 (k := 17) (u := 5) rfl
  have f_o_pmn : hl1.2.1 qo_pmn 1 = pmn := (ho_pmn qo_pmn f_qo_pmn).trans f_m_planMany
  have nu_qp := hn_qp qp f_qp; rw [f_x_personCount] at nu_qp
  have nu_qc := hn_qc qc f_qc; rw [f_x_claimCount] at nu_qc
  obtain ⟨b_of, f_b_of, g_b_of⟩ := hx_rf hT g_qo_ln tt_1 (k := 1) (u := 13) rfl
  obtain ⟨B_of, n_b_of⟩ : ∃ g : Nat → Int32, hl1.2.1 b_of = g := ⟨_, rfl⟩
  obtain ⟨m_of, f_m_of, g_m_of⟩ := hx_rf hT gm tt_10 (k := 30) (u := 66) rfl
  obtain ⟨F_of, n_m_of⟩ : ∃ g : Nat → Int32, hl1.2.1 m_of = g := ⟨_, rfl⟩
  have eb_of := hk_of qo_ln b_of m_of f_qo_ln f_b_of f_m_of; rw [n_b_of, n_m_of, f_o_ln] at eb_of
  obtain ⟨b_wf, f_b_wf, g_b_wf⟩ := hx_rf hT g_qo_ln tt_1 (k := 2) (u := 14) rfl
  obtain ⟨B_wf, n_b_wf⟩ : ∃ g : Nat → Int32, hl1.2.1 b_wf = g := ⟨_, rfl⟩
  obtain ⟨m_wf, f_m_wf, g_m_wf⟩ := hx_rf hT gm tt_10 (k := 31) (u := 67) rfl
  obtain ⟨F_wf, n_m_wf⟩ : ∃ g : Nat → Int32, hl1.2.1 m_wf = g := ⟨_, rfl⟩
  have eb_wf := hk_wf qo_ln b_wf m_wf f_qo_ln f_b_wf f_m_wf; rw [n_b_wf, n_m_wf, f_o_ln] at eb_wf
  obtain ⟨b_df, f_b_df, g_b_df⟩ := hx_rf hT g_qo_ln tt_1 (k := 3) (u := 15) rfl
  obtain ⟨B_df, n_b_df⟩ : ∃ g : Nat → Int32, hl1.2.1 b_df = g := ⟨_, rfl⟩
  obtain ⟨m_df, f_m_df, g_m_df⟩ := hx_rf hT gm tt_10 (k := 32) (u := 68) rfl
  obtain ⟨F_df, n_m_df⟩ : ∃ g : Nat → Int32, hl1.2.1 m_df = g := ⟨_, rfl⟩
  have eb_df := hk_df qo_ln b_df m_df f_qo_ln f_b_df f_m_df; rw [n_b_df, n_m_df, f_o_ln] at eb_df
  obtain ⟨b_kf, f_b_kf, g_b_kf⟩ := hx_rf hT g_qo_ln tt_1 (k := 4) (u := 16) rfl
  obtain ⟨B_kf, n_b_kf⟩ : ∃ g : Nat → Int32, hl1.2.1 b_kf = g := ⟨_, rfl⟩
  obtain ⟨m_kf, f_m_kf, g_m_kf⟩ := hx_rf hT gm tt_10 (k := 33) (u := 69) rfl
  obtain ⟨F_kf, n_m_kf⟩ : ∃ g : Nat → Int32, hl1.2.1 m_kf = g := ⟨_, rfl⟩
  have eb_kf := hk_kf qo_ln b_kf m_kf f_qo_ln f_b_kf f_m_kf; rw [n_b_kf, n_m_kf, f_o_ln] at eb_kf
  obtain ⟨b_sf, f_b_sf, g_b_sf⟩ := hx_rf hT g_qo_ln tt_1 (k := 5) (u := 17) rfl
  obtain ⟨B_sf, n_b_sf⟩ : ∃ g : Nat → Int32, hl1.2.1 b_sf = g := ⟨_, rfl⟩
  obtain ⟨m_sf, f_m_sf, g_m_sf⟩ := hx_rf hT gm tt_10 (k := 34) (u := 70) rfl
  obtain ⟨F_sf, n_m_sf⟩ : ∃ g : Nat → Int32, hl1.2.1 m_sf = g := ⟨_, rfl⟩
  have eb_sf := hk_sf qo_ln b_sf m_sf f_qo_ln f_b_sf f_m_sf; rw [n_b_sf, n_m_sf, f_o_ln] at eb_sf
  obtain ⟨b_bf, f_b_bf, g_b_bf⟩ := hx_rf hT g_qo_ln tt_1 (k := 6) (u := 18) rfl
  obtain ⟨bfL, n_b_bf⟩ : ∃ g : Nat → Int32, hl1.2.1 b_bf = g := ⟨_, rfl⟩
  obtain ⟨hBD, hDY⟩ := hkBD qo_ln b_df b_bf f_qo_ln f_b_df f_b_bf; rw [n_b_df, n_b_bf, f_o_ln] at hBD; rw [n_b_df, f_o_ln] at hDY
  have hBDm := hy_BD_c eb_df hBD
  have hDYm : hy_DY F_df ln.toInt.toNat := fun x hx => by rw [← eb_df x hx]; exact hDY x hx
  have sb_list := hLQ qw ql qc f_qw f_ql f_qc
  obtain ⟨m_lst, f_m_lst, g_m_lst⟩ := hx_rf hT gm tt_10 (k := 91) (u := 112) rfl
  obtain ⟨F_lst, n_lst⟩ : ∃ g : Nat → Int32, hl1.2.1 m_lst = g := ⟨_, rfl⟩
  obtain ⟨c_lst, cl_lst⟩ : ∃ g : Nat → Int32, hx_col 8 hl1 ql 0 = g := ⟨_, rfl⟩
  have eq_lst := hLE qw ql m_lst f_qw f_ql f_m_lst; rw [cl_lst, n_lst] at eq_lst
  obtain ⟨qtp, f_qtp, g_qtp⟩ := hx_rf hT gx tt_9 (k := 0) (u := 42) rfl
  obtain ⟨m_tp, f_m_tp, g_m_tp⟩ := hx_rf hT gm tt_10 (k := 6) (u := 53) rfl
  obtain ⟨F_tp, n_tp⟩ : ∃ g : Nat → Int32, hl1.2.1 m_tp = g := ⟨_, rfl⟩
  have n_qtp : hl1.2.1 qtp = F_tp := (hkTP qtp m_tp f_qtp f_m_tp).trans n_tp
  obtain ⟨c_dead, cl_dead⟩ : ∃ g : Nat → Int32, hx_col 40 hl1 qp 7 = g := ⟨_, rfl⟩
  obtain ⟨m_dead, f_m_dead, g_m_dead⟩ := hx_rf hT gm tt_10 (k := 27) (u := 64) rfl
  obtain ⟨F_dead, n_dead⟩ : ∃ g : Nat → Int32, hl1.2.1 m_dead = g := ⟨_, rfl⟩
  have eq_dead := hc_dead qp m_dead f_qp f_m_dead; rw [cl_dead, n_dead] at eq_dead
  have z_dead : np.toInt.toNat < 40 → c_dead np.toInt.toNat = 0 := fun hj => hx_num_z nu_qp cl_dead hj ?o0
  case o0 => omega
  obtain ⟨c_isj, cl_isj⟩ : ∃ g : Nat → Int32, hx_col 40 hl1 qp 8 = g := ⟨_, rfl⟩
  obtain ⟨m_isj, f_m_isj, g_m_isj⟩ := hx_rf hT gm tt_10 (k := 28) (u := 65) rfl
  obtain ⟨F_isj, n_isj⟩ : ∃ g : Nat → Int32, hl1.2.1 m_isj = g := ⟨_, rfl⟩
  have eq_isj := hc_isj qp m_isj f_qp f_m_isj; rw [cl_isj, n_isj] at eq_isj
  have z_isj : np.toInt.toNat < 40 → c_isj np.toInt.toNat = 0 := fun hj => hx_num_z nu_qp cl_isj hj ?o1
  case o1 => omega
  obtain ⟨c_dox, cl_dox⟩ : ∃ g : Nat → Int32, hx_col 40 hl1 qp 5 = g := ⟨_, rfl⟩
  obtain ⟨m_dox, f_m_dox, g_m_dox⟩ := hx_rf hT gm tt_10 (k := 24) (u := 61) rfl
  obtain ⟨F_dox, n_dox⟩ : ∃ g : Nat → Int32, hl1.2.1 m_dox = g := ⟨_, rfl⟩
  have eq_dox := hc_dox qp m_dox f_qp f_m_dox; rw [cl_dox, n_dox] at eq_dox
  have z_dox : np.toInt.toNat < 40 → c_dox np.toInt.toNat = 0 := fun hj => hx_num_z nu_qp cl_dox hj ?o2
  case o2 => omega
  obtain ⟨c_doy, cl_doy⟩ : ∃ g : Nat → Int32, hx_col 40 hl1 qp 6 = g := ⟨_, rfl⟩
  obtain ⟨m_doy, f_m_doy, g_m_doy⟩ := hx_rf hT gm tt_10 (k := 25) (u := 62) rfl
  obtain ⟨F_doy, n_doy⟩ : ∃ g : Nat → Int32, hl1.2.1 m_doy = g := ⟨_, rfl⟩
  have eq_doy := hc_doy qp m_doy f_qp f_m_doy; rw [cl_doy, n_doy] at eq_doy
  have z_doy : np.toInt.toNat < 40 → c_doy np.toInt.toNat = 0 := fun hj => hx_num_z nu_qp cl_doy hj ?o3
  case o3 => omega
  obtain ⟨c_fou, cl_fou⟩ : ∃ g : Nat → Int32, hx_col 100 hl1 qc 10 = g := ⟨_, rfl⟩
  have eq_fou := hc_fou qc m_fou f_qc f_m_fou; rw [cl_fou, n_m_fou] at eq_fou
  have z_fou : c0.toInt.toNat < 100 → c_fou c0.toInt.toNat = 0 := fun hj => hx_num_z nu_qc cl_fou hj ?o4
  case o4 => omega
  obtain ⟨c_tri, cl_tri⟩ : ∃ g : Nat → Int32, hx_col 100 hl1 qc 9 = g := ⟨_, rfl⟩
  have eq_tri := hc_tri qc mt f_qc f_mt; rw [cl_tri, n_mt] at eq_tri
  have z_tri : c0.toInt.toNat < 100 → c_tri c0.toInt.toNat = 0 := fun hj => hx_num_z nu_qc cl_tri hj ?o5
  case o5 => omega
  obtain ⟨qlt, f_qlt, g_qlt⟩ := hx_rf hT g_qw tt_8 (k := 2) (u := 39) rfl
  obtain ⟨qlf, f_qlf, g_qlf⟩ := hx_rf hT g_qw tt_8 (k := 4) (u := 41) rfl
  obtain ⟨m_wkd, f_m_wkd, g_m_wkd⟩ := hx_rf hT gm tt_10 (k := 93) (u := 113) rfl
  obtain ⟨F_qlt, n_qlt⟩ : ∃ g : Nat → Int32, hl1.2.1 qlt = g := ⟨_, rfl⟩
  obtain ⟨F_m_wkd, n_m_wkd⟩ : ∃ g : Nat → Int32, hl1.2.1 m_wkd = g := ⟨_, rfl⟩
  have eb_wkd := hkWD qw qlt m_wkd f_qw f_qlt f_m_wkd; rw [n_qlt, n_m_wkd, f_o_wkm] at eb_wkd
  obtain ⟨m_aga, f_m_aga, g_m_aga⟩ := hx_rf hT gm tt_10 (k := 38) (u := 73) rfl
  obtain ⟨F_aga, n_aga⟩ : ∃ g : Nat → Int32, hl1.2.1 m_aga = g := ⟨_, rfl⟩
  have hDF := hkDF qc qp m_aga f_qc f_qp f_m_aga; rw [n_aga, f_x_claimCount] at hDF
  obtain ⟨qwo, f_qwo, g_qwo⟩ := hx_rf hT gx tt_9 (k := 4) (u := 0) rfl
  obtain ⟨m_ad, f_m_ad, g_m_ad⟩ := hx_rf hT gm tt_10 (k := 2) (u := 49) rfl
  obtain ⟨F_ad, n_ad⟩ : ∃ g : Nat → Int32, hl1.2.1 m_ad = g := ⟨_, rfl⟩
  obtain ⟨A9, hRA9, hCA9, hAC9, hAB⟩ := hkAC qa qwo m_ad mr mn mp qc ml f_qa f_qwo f_m_ad f_mr f_mn f_mp f_qc f_ml
  rw [f_x_actCount] at hRA9; rw [f_x_actCount, n_ad, n_mr, n_mn, n_mp] at hCA9
  obtain ⟨m_by, f_m_by, g_m_by⟩ := hx_rf hT gm tt_10 (k := 37) (u := 72) rfl
  obtain ⟨F_by, n_by⟩ : ∃ g : Nat → Int32, hl1.2.1 m_by = g := ⟨_, rfl⟩
  obtain ⟨m_ho, f_m_ho, g_m_ho⟩ := hx_rf hT gm tt_10 (k := 58) (u := 92) rfl
  obtain ⟨F_ho, n_ho⟩ : ∃ g : Nat → Int32, hl1.2.1 m_ho = g := ⟨_, rfl⟩
  obtain ⟨m_fc, f_m_fc, g_m_fc⟩ := hx_rf hT gm tt_10 (k := 53) (u := 88) rfl
  obtain ⟨F_fc, n_fc⟩ : ∃ g : Nat → Int32, hl1.2.1 m_fc = g := ⟨_, rfl⟩
  obtain ⟨m_nt, f_m_nt, g_m_nt⟩ := hx_rf hT gm tt_10 (k := 41) (u := 76) rfl
  obtain ⟨F_nt, n_nt⟩ : ∃ g : Nat → Int32, hl1.2.1 m_nt = g := ⟨_, rfl⟩
  obtain ⟨m_wt, f_m_wt, g_m_wt⟩ := hx_rf hT gm tt_10 (k := 42) (u := 77) rfl
  obtain ⟨F_wt, n_wt⟩ : ∃ g : Nat → Int32, hl1.2.1 m_wt = g := ⟨_, rfl⟩
  obtain ⟨m_be, f_m_be, g_m_be⟩ := hx_rf hT gm tt_10 (k := 52) (u := 87) rfl
  obtain ⟨F_be, n_be⟩ : ∃ g : Nat → Int32, hl1.2.1 m_be = g := ⟨_, rfl⟩
  obtain ⟨m_bor, f_m_bor, g_m_bor⟩ := hx_rf hT gm tt_10 (k := 21) (u := 58) rfl
  obtain ⟨F_bor, n_bor⟩ : ∃ g : Nat → Int32, hl1.2.1 m_bor = g := ⟨_, rfl⟩
  obtain ⟨m_kin, f_m_kin, g_m_kin⟩ := hx_rf hT gm tt_10 (k := 26) (u := 63) rfl
  obtain ⟨F_kin, n_kin⟩ : ∃ g : Nat → Int32, hl1.2.1 m_kin = g := ⟨_, rfl⟩
  obtain ⟨m_sum, f_m_sum, g_m_sum⟩ := hx_rf hT gm tt_10 (k := 39) (u := 74) rfl
  obtain ⟨F_sum, n_sum⟩ : ∃ g : Nat → Int32, hl1.2.1 m_sum = g := ⟨_, rfl⟩
  obtain ⟨m_fro, f_m_fro, g_m_fro⟩ := hx_rf hT gm tt_10 (k := 40) (u := 75) rfl
  obtain ⟨F_fro, n_fro⟩ : ∃ g : Nat → Int32, hl1.2.1 m_fro = g := ⟨_, rfl⟩
  obtain ⟨m_fil, f_m_fil, g_m_fil⟩ := hx_rf hT gm tt_10 (k := 43) (u := 78) rfl
  obtain ⟨F_fil, n_fil⟩ : ∃ g : Nat → Int32, hl1.2.1 m_fil = g := ⟨_, rfl⟩
  obtain ⟨m_jud, f_m_jud, g_m_jud⟩ := hx_rf hT gm tt_10 (k := 51) (u := 86) rfl
  obtain ⟨F_jud, n_jud⟩ : ∃ g : Nat → Int32, hl1.2.1 m_jud = g := ⟨_, rfl⟩
  obtain ⟨m_ear, f_m_ear, g_m_ear⟩ := hx_rf hT gm tt_10 (k := 22) (u := 59) rfl
  obtain ⟨F_ear, n_ear⟩ : ∃ g : Nat → Int32, hl1.2.1 m_ear = g := ⟨_, rfl⟩
  obtain ⟨m_hds, f_m_hds, g_m_hds⟩ := hx_rf hT gm tt_10 (k := 23) (u := 60) rfl
  obtain ⟨F_hds, n_hds⟩ : ∃ g : Nat → Int32, hl1.2.1 m_hds = g := ⟨_, rfl⟩
  obtain ⟨m_ord, f_m_ord, g_m_ord⟩ := hx_rf hT gm tt_10 (k := 48) (u := 83) rfl
  obtain ⟨F_ord, n_ord⟩ : ∃ g : Nat → Int32, hl1.2.1 m_ord = g := ⟨_, rfl⟩
  obtain ⟨m_wkl, f_m_wkl, g_m_wkl⟩ := hx_rf hT gm tt_10 (k := 54) (u := 89) rfl
  obtain ⟨F_wkl, n_wkl⟩ : ∃ g : Nat → Int32, hl1.2.1 m_wkl = g := ⟨_, rfl⟩
  obtain ⟨m_owd, f_m_owd, g_m_owd⟩ := hx_rf hT gm tt_10 (k := 55) (u := 90) rfl
  obtain ⟨F_owd, n_owd⟩ : ∃ g : Nat → Int32, hl1.2.1 m_owd = g := ⟨_, rfl⟩
  obtain ⟨m_gds, f_m_gds, g_m_gds⟩ := hx_rf hT gm tt_10 (k := 56) (u := 91) rfl
  obtain ⟨F_gds, n_gds⟩ : ∃ g : Nat → Int32, hl1.2.1 m_gds = g := ⟨_, rfl⟩
  obtain ⟨m_szd, f_m_szd, g_m_szd⟩ := hx_rf hT gm tt_10 (k := 49) (u := 84) rfl
  obtain ⟨F_szd, n_szd⟩ : ∃ g : Nat → Int32, hl1.2.1 m_szd = g := ⟨_, rfl⟩
  obtain ⟨m_srv, f_m_srv, g_m_srv⟩ := hx_rf hT gm tt_10 (k := 50) (u := 85) rfl
  obtain ⟨F_srv, n_srv⟩ : ∃ g : Nat → Int32, hl1.2.1 m_srv = g := ⟨_, rfl⟩
  have cl_bor : hx_col 40 hl1 qp 1 = F_bor := (hf_bor qp m_bor f_qp f_m_bor).trans n_bor
  have cl_kin : hx_col 40 hl1 qp 2 = F_kin := (hf_kin qp m_kin f_qp f_m_kin).trans n_kin
  have cl_sum : hx_col 100 hl1 qc 6 = F_sum := (hf_sum qc m_sum f_qc f_m_sum).trans n_sum
  have cl_fro : hx_col 100 hl1 qc 7 = F_fro := (hf_fro qc m_fro f_qc f_m_fro).trans n_fro
  have cl_fil : hx_col 100 hl1 qc 8 = F_fil := (hf_fil qc m_fil f_qc f_m_fil).trans n_fil
  have cl_hea : hx_col 100 hl1 qc 11 = F_mh := (hf_hea qc mh f_qc f_mh).trans n_mh
  have cl_jud : hx_col 100 hl1 qc 12 = F_jud := (hf_jud qc m_jud f_qc f_m_jud).trans n_jud
  have cl_ear : hx_col 40 hl1 qp 3 = F_ear := (hf_ear qp m_ear f_qp f_m_ear).trans n_ear
  have cl_hds : hx_col 40 hl1 qp 4 = F_hds := (hf_hds qp m_hds f_qp f_m_hds).trans n_hds
  have cl_ord : hx_col 100 hl1 qc 13 = F_ord := (hf_ord qc m_ord f_qc f_m_ord).trans n_ord
  have cl_wkl : hx_col 100 hl1 qc 14 = F_wkl := (hf_wkl qc m_wkl f_qc f_m_wkl).trans n_wkl
  have cl_owd : hx_col 100 hl1 qc 15 = F_owd := (hf_owd qc m_owd f_qc f_m_owd).trans n_owd
  have cl_gds : hx_col 100 hl1 qc 17 = F_gds := (hf_gds qc m_gds f_qc f_m_gds).trans n_gds
  have cl_szd : hx_col 100 hl1 qc 16 = F_szd := (hf_szd qc m_szd f_qc f_m_szd).trans n_szd
  have cl_srv : hx_col 100 hl1 qc 18 = F_srv := (hf_srv qc m_srv f_qc f_m_srv).trans n_srv
  have htb9 : ∀ c, c < 100 → 0 ≤ (c_tri c).toInt ∧ (c_tri c).toInt ≤ 512 := fun c hc => by rw [eq_tri c hc]; have w := hT.ei g_mt tt_80 (k := c) hc; rw [n_mt] at w; exact w
  have z_jud : F_jud c0.toInt.toNat = 0 := hx_num_z2 nu_qc cl_jud ?o6
  case o6 => omega
  have hDP := hkDP qc qp m_by f_qc f_qp f_m_by; rw [n_by, f_x_claimCount] at hDP
  have hHL := hkHL qh qc m_ho f_qh f_qc f_m_ho; rw [n_ho, f_x_heardCount, f_x_claimCount] at hHL
  have hHO9 := hkHO m_ho mh f_m_ho f_mh; rw [n_ho, n_mh, f_m_heardMany, f_m_claims] at hHO9
  obtain ⟨cF9L, hFX, hFR9⟩ := hkFX qc m_fc m_nt m_wt m_sum mh f_qc f_m_fc f_m_nt f_m_wt f_m_sum f_mh; rw [f_x_claimCount] at hFX; rw [n_fc, n_nt, n_wt, n_sum, n_mh, f_x_claimCount] at hFR9
  have hBX := hkBX qc m_be f_qc f_m_be; rw [n_be, f_x_claimCount] at hBX
  rw [n_ml, f_x_claimCount] at hAC9
  obtain ⟨y_p0, f_y_p0, g_y_p0⟩ := hx_rf hT g_qo_py tt_3 (k := 2) (u := 23) rfl
  obtain ⟨m_p0, f_m_p0, g_m_p0⟩ := hx_rf hT gm tt_10 (k := 60) (u := 93) rfl
  obtain ⟨F_p0, n_p0⟩ : ∃ g : Nat → Int32, hl1.2.1 m_p0 = g := ⟨_, rfl⟩
  have n_y_p0 : hl1.2.1 y_p0 = F_p0 := (hkP0 qo_py y_p0 m_p0 f_qo_py f_y_p0 f_m_p0).trans n_p0
  obtain ⟨y_p1, f_y_p1, g_y_p1⟩ := hx_rf hT g_qo_py tt_3 (k := 3) (u := 24) rfl
  obtain ⟨m_p1, f_m_p1, g_m_p1⟩ := hx_rf hT gm tt_10 (k := 61) (u := 94) rfl
  obtain ⟨F_p1, n_p1⟩ : ∃ g : Nat → Int32, hl1.2.1 m_p1 = g := ⟨_, rfl⟩
  have n_y_p1 : hl1.2.1 y_p1 = F_p1 := (hkP1 qo_py y_p1 m_p1 f_qo_py f_y_p1 f_m_p1).trans n_p1
  obtain ⟨y_p2, f_y_p2, g_y_p2⟩ := hx_rf hT g_qo_py tt_3 (k := 5) (u := 26) rfl
  obtain ⟨m_p2, f_m_p2, g_m_p2⟩ := hx_rf hT gm tt_10 (k := 62) (u := 95) rfl
  obtain ⟨F_p2, n_p2⟩ : ∃ g : Nat → Int32, hl1.2.1 m_p2 = g := ⟨_, rfl⟩
  have n_y_p2 : hl1.2.1 y_p2 = F_p2 := (hkP2 qo_py y_p2 m_p2 f_qo_py f_y_p2 f_m_p2).trans n_p2
  obtain ⟨y_p3, f_y_p3, g_y_p3⟩ := hx_rf hT g_qo_py tt_3 (k := 4) (u := 25) rfl
  obtain ⟨m_p3, f_m_p3, g_m_p3⟩ := hx_rf hT gm tt_10 (k := 63) (u := 96) rfl
  obtain ⟨F_p3, n_p3⟩ : ∃ g : Nat → Int32, hl1.2.1 m_p3 = g := ⟨_, rfl⟩
  have n_y_p3 : hl1.2.1 y_p3 = F_p3 := (hkP3 qo_py y_p3 m_p3 f_qo_py f_y_p3 f_m_p3).trans n_p3
  obtain ⟨y_p4, f_y_p4, g_y_p4⟩ := hx_rf hT g_qo_py tt_3 (k := 1) (u := 22) rfl
  obtain ⟨m_p4, f_m_p4, g_m_p4⟩ := hx_rf hT gm tt_10 (k := 64) (u := 97) rfl
  obtain ⟨F_p4, n_p4⟩ : ∃ g : Nat → Int32, hl1.2.1 m_p4 = g := ⟨_, rfl⟩
  have n_y_p4 : hl1.2.1 y_p4 = F_p4 := (hkP4 qo_py y_p4 m_p4 f_qo_py f_y_p4 f_m_p4).trans n_p4
  obtain ⟨qrg9, f_qrg9, g_qrg9⟩ := hx_rf hT gx tt_9 (k := 18) (u := 7) rfl
  obtain ⟨y_ls, f_y_ls, g_y_ls⟩ := hx_rf hT g_qrg9 tt_7 (k := 3) (u := 35) rfl
  obtain ⟨m_rl, f_m_rl, g_m_rl⟩ := hx_rf hT gm tt_10 (k := 85) (u := 109) rfl
  obtain ⟨F_y_ls, n_y_ls⟩ : ∃ g : Nat → Int32, hl1.2.1 y_ls = g := ⟨_, rfl⟩
  obtain ⟨F_m_rl, n_m_rl⟩ : ∃ g : Nat → Int32, hl1.2.1 m_rl = g := ⟨_, rfl⟩
  obtain ⟨fv_887, efv_887⟩ : ∃ y : Int32, y = hl1.2.1 qrg9 0 := ⟨_, rfl⟩
  have bfv_887 := hT.gi g_qrg9 tt_7 (k := 0) rfl
  rw [← efv_887] at bfv_887
  have bfv_887 : -1 ≤ fv_887.toInt ∧ fv_887.toInt ≤ 100 := bfv_887
  have ffv_887 := efv_887.symm
  obtain ⟨fv_888, efv_888⟩ : ∃ y : Int32, y = hl1.2.1 am 83 := ⟨_, rfl⟩
  have bfv_888 := hT.gi gm tt_10 (k := 83) rfl
  rw [← efv_888] at bfv_888
  have bfv_888 : 0 ≤ fv_888.toInt ∧ fv_888.toInt ≤ 1 := bfv_888
  have ffv_888 := efv_888.symm
  obtain ⟨fv_889, efv_889⟩ : ∃ y : Int32, y = hl1.2.1 am 84 := ⟨_, rfl⟩
  have bfv_889 := hT.gi gm tt_10 (k := 84) rfl
  rw [← efv_889] at bfv_889
  have bfv_889 : 0 ≤ fv_889.toInt ∧ fv_889.toInt ≤ 300 := bfv_889
  have ffv_889 := efv_889.symm
  have hNQ9 := hkNQ qrg9 f_qrg9; rw [ffv_887, ffv_888, ffv_889] at hNQ9
  have hRL9 := hkRL qrg9 y_ls m_rl f_qrg9 f_y_ls f_m_rl; rw [n_y_ls, n_m_rl, ffv_887] at hRL9
  have hCB : hz_CB F_ord F_wkl F_owd F_szd F_gds F_srv := fun c hc => ⟨by have w := hT.ei g_m_ord tt_83 (k := c) (by omega); rw [n_ord] at w; exact w, by have w := hT.ei g_m_wkl tt_89 (k := c) (by omega); rw [n_wkl] at w; exact w, by have w := hT.ei g_m_owd tt_90 (k := c) (by omega); rw [n_owd] at w; exact w, by have w := hT.ei g_m_szd tt_84 (k := c) (by omega); rw [n_szd] at w; exact w, by have w := hT.ei g_m_gds tt_91 (k := c) (by omega); rw [n_gds] at w; exact w, by have w := hT.ei g_m_srv tt_85 (k := c) (by omega); rw [n_srv] at w; exact w⟩
  have hps : ∀ j, j < 600 → 0 ≤ (F_p2 j).toInt ∧ (F_p2 j).toInt ≤ 610000 := fun j hj => by have w := hT.ei g_m_p2 tt_95 (k := j) (by omega); rw [n_p2] at w; exact w
  have hte9 : ∀ c : Nat, c < 100 → (0 ≤ (c_tri c).toInt ∧ (c_tri c).toInt ≤ 512) ∧ (0 ≤ (F_sum c).toInt ∧ (F_sum c).toInt ≤ 9999) := fun c hc => ⟨htb9 c hc, by have w := hT.ei g_m_sum tt_74 (k := c) (by omega); rw [n_sum] at w; exact w⟩
  have hee9 : ∀ c : Nat, c < 40 → (0 ≤ (F_ear c).toInt ∧ (F_ear c).toInt ≤ 9999) ∧ (0 ≤ (F_hds c).toInt ∧ (F_hds c).toInt ≤ 20) := fun c hc => ⟨by have w := hT.ei g_m_ear tt_59 (k := c) (by omega); rw [n_ear] at w; exact w, by have w := hT.ei g_m_hds tt_60 (k := c) (by omega); rw [n_hds] at w; exact w⟩
  have bAG9 : ∀ k, k < 100 → 0 ≤ (F_aga k).toInt ∧ (F_aga k).toInt ≤ 39 := fun k hk => by have w := hT.ei g_m_aga tt_73 (k := k) (by omega); rw [n_aga] at w; exact w
  have bBY9 : ∀ k, k < 100 → 0 ≤ (F_by k).toInt ∧ (F_by k).toInt ≤ 39 := fun k hk => by have w := hT.ei g_m_by tt_72 (k := k) (by omega); rw [n_by] at w; exact w
  have hag9 : ∀ c, c < c0.toInt.toNat → 0 ≤ (F_aga c).toInt ∧ (F_aga c).toInt < 40 ∧ 0 ≤ (F_by c).toInt ∧ (F_by c).toInt < 40 := fun c hc => by have a9 := bAG9 c (by omega); have b9 := bBY9 c (by omega); omega
  have z_wkl : F_wkl c0.toInt.toNat = 0 := hx_num_z2 nu_qc cl_wkl ?o7
  case o7 => omega
  have z_owd : F_owd c0.toInt.toNat = 0 := hx_num_z2 nu_qc cl_owd ?o8
  case o8 => omega
  have z_gds : F_gds c0.toInt.toNat = 0 := hx_num_z2 nu_qc cl_gds ?o9
  case o9 => omega
  obtain ⟨y_pc, f_y_pc, g_y_pc⟩ := hx_rf hT g_qo_pmn tt_5 (k := 2) (u := 27) rfl
  obtain ⟨m_pc, f_m_pc, g_m_pc⟩ := hx_rf hT gm tt_10 (k := 73) (u := 100) rfl
  obtain ⟨F_y_pc, n_y_pc⟩ : ∃ g : Nat → Int32, hl1.2.1 y_pc = g := ⟨_, rfl⟩
  obtain ⟨F_m_pc, n_m_pc⟩ : ∃ g : Nat → Int32, hl1.2.1 m_pc = g := ⟨_, rfl⟩
  obtain ⟨y_pw, f_y_pw, g_y_pw⟩ := hx_rf hT g_qo_pmn tt_5 (k := 3) (u := 28) rfl
  obtain ⟨m_pw, f_m_pw, g_m_pw⟩ := hx_rf hT gm tt_10 (k := 74) (u := 101) rfl
  obtain ⟨F_y_pw, n_y_pw⟩ : ∃ g : Nat → Int32, hl1.2.1 y_pw = g := ⟨_, rfl⟩
  obtain ⟨F_m_pw, n_m_pw⟩ : ∃ g : Nat → Int32, hl1.2.1 m_pw = g := ⟨_, rfl⟩
  obtain ⟨y_pk, f_y_pk, g_y_pk⟩ := hx_rf hT g_qo_pmn tt_5 (k := 4) (u := 29) rfl
  obtain ⟨m_pk, f_m_pk, g_m_pk⟩ := hx_rf hT gm tt_10 (k := 81) (u := 107) rfl
  obtain ⟨F_y_pk, n_y_pk⟩ : ∃ g : Nat → Int32, hl1.2.1 y_pk = g := ⟨_, rfl⟩
  obtain ⟨F_m_pk, n_m_pk⟩ : ∃ g : Nat → Int32, hl1.2.1 m_pk = g := ⟨_, rfl⟩
  have hEA9 := hkPG qo_pmn y_pc y_pw y_pk m_pc m_pw m_pk f_qo_pmn f_y_pc f_y_pw f_y_pk f_m_pc f_m_pw f_m_pk; rw [n_y_pc, n_y_pw, n_y_pk, n_m_pc, n_m_pw, n_m_pk, f_o_pmn] at hEA9
  have hrn9 : ∀ c : Nat, c < c0.toInt.toNat → 0 ≤ (hz_Rn F_ord F_szd F_gds F_owd F_srv (hz_rc A9 F_ml) F_p0 F_p1 F_p2 F_p3 F_p4 nw.toInt py.toInt.toNat) c ∧ (hz_Rn F_ord F_szd F_gds F_owd F_srv (hz_rc A9 F_ml) F_p0 F_p1 F_p2 F_p3 F_p4 nw.toInt py.toInt.toNat) c ≤ 609999 := fun c hc => hz_Rn_b hCB hps ?o10 ?o11 ((hAB _).1 12)
  case o10 => omega
  case o11 => omega
  have hwd := jw mw f_mw; rw [n_mw] at hwd
  have hWK := jr mr f_mr; rw [n_mr, f_m_acts] at hWK
  have hRP := jp mp mn f_mp f_mn; rw [n_mp, n_mn, f_m_acts] at hRP
  have hPL := jl ml f_ml; rw [n_ml, f_m_claims, f_m_acts] at hPL
  have hHC := jh mh f_mh; rw [n_mh, f_m_heardMany, f_m_claims] at hHC
  have hTR := jt mt f_mt; rw [n_mt] at hTR
  have hHF := jf mh m_fou f_mh f_m_fou; rw [n_mh, n_m_fou, f_m_claims] at hHF
  have hwk9 : ∀ c : Nat, c < c0.toInt.toNat → 1 ≤ (A9 (F_ml c).toInt.toNat).2.1 2 := fun c hc => by have p9 := hPL (c : Int) (by omega) (by omega); rw [Int.toNat_natCast] at p9; obtain ⟨_, h29, _⟩ := hCA9.2 (F_ml c).toInt.toNat (by omega); rw [← h29]; show 1 ≤ (if 2 < 13 then _ else 0); rw [if_pos (by decide)]; exact (hWK (F_ml c).toInt p9.1 p9.2).1
  refine lv_aload_n hx hb dL_law_1290 rfl (lv_at hl 2 rfl) ?_
  refine lv_aload_n hx hb dL_law_1291 rfl (lv_at hl 3 rfl) ?_
  refine lv_iload_n hx hb dL_law_1292 rfl (lv_at hl 0 rfl) ?_
  refine lv_iconst (v := 1) hx hb dL_law_1293 ?o12 ?_
  case o12 => decide
  refine lv_iadd hx hb dL_law_1294 ?_
  have rg_890 := i32_r i
  refine lv_topi (fun x_891 ex_891 => ?_)
  have zx_891 : x_891.toInt = i.toInt + 1 := ?o13
  case o13 =>
    rw [ex_891]
    refine i32_add rfl ?o14 ?o15 ?o16
    case o14 => decide
    case o15 => omega
    case o16 => omega
  refine va_sld hx hb hX hbl hbA hW.2.2.2.1 (vp_in_iff.mpr ⟨?o17, ?o18⟩) dL_law_1295 ?_
  case o17 => omega
  case o18 => omega
  refine lv_topi (fun x_892 ex_892 => ?_)
  refine lv_aload_n hx hb dL_law_1296 rfl (lv_at hl 3 rfl) ?_
  refine lv_iload_n hx hb dL_law_1297 rfl (lv_at hl 0 rfl) ?_
  refine lv_iconst (v := 2) hx hb dL_law_1298 ?o19 ?_
  case o19 => decide
  refine lv_iadd hx hb dL_law_1299 ?_
  refine lv_topi (fun x_893 ex_893 => ?_)
  have zx_893 : x_893.toInt = i.toInt + 2 := ?o20
  case o20 =>
    rw [ex_893]
    refine i32_add rfl ?o21 ?o22 ?o23
    case o21 => decide
    case o22 => omega
    case o23 => omega
  refine va_sld hx hb hX hbl hbA hW.2.2.2.1 (vp_in_iff.mpr ⟨?o24, ?o25⟩) dL_law_1300 ?_
  case o24 => omega
  case o25 => omega
  refine lv_topi (fun x_894 ex_894 => ?_)
  have hTo := hT
  refine hx_goi (hx_runV (As := [.int x_892, .int x_894]) (rest := []) ⟨hx, hb, hml, hown, hts⟩ hW gx tt_9 (T := TX9) (N := 20) rfl (t_X9_habit l dC dI dA L1 hl1 H.size ax x_892 x_894 hT gx qp g_qp f_qp qh g_qh f_qh pf_qp pf_qh) (cwV 2 hts (hx_gV kw_1092 kw_1089 kw_1090 kw_1091 kw_94) rfl rfl rfl (by decide +kernel) ⟨Nat.le_of_ble_eq_true rfl, Nat.le_of_ble_eq_true rfl⟩) rfl hl.1 rfl (Nat.le_of_ble_eq_true rfl) dL_law_1301 ⟨(show CC + 0 ≤ 600000 from ?o26), (show SS + 0 ≤ 7302250 from ?o27)⟩) hW (fun r_897 L_895 h_896 H locs p_898 hW => ?_)
  case o26 => omega
  case o27 => omega
  obtain ⟨hr_899, hT, hs⟩ := p_898
  replace hT : hx_T T_tb L_895 h_896 := hT
  replace hs : hx_S T_tb [] L1 hl1 L_895 h_896 := hs
  replace f_qa := (hs.o gx trivial rfl).2.trans f_qa
  replace f_qp := (hs.o gx trivial rfl).2.trans f_qp
  replace f_qc := (hs.o gx trivial rfl).2.trans f_qc
  replace f_qh := (hs.o gx trivial rfl).2.trans f_qh
  replace f_qw := (hs.o gx trivial rfl).2.trans f_qw
  replace f_ql := (hs.o g_qw trivial rfl).2.trans f_ql
  replace f_m_now := (hs.o gm trivial rfl).1.trans f_m_now
  replace f_m_persons := (hs.o gm trivial rfl).1.trans f_m_persons
  replace f_m_claims := (hs.o gm trivial rfl).1.trans f_m_claims
  replace f_m_taped := (hs.o gm trivial rfl).1.trans f_m_taped
  replace f_m_acts := (hs.o gm trivial rfl).1.trans f_m_acts
  replace f_m_heardMany := (hs.o gm trivial rfl).1.trans f_m_heardMany
  replace f_m_lines := (hs.o gm trivial rfl).1.trans f_m_lines
  replace f_m_listed := (hs.o gm trivial rfl).1.trans f_m_listed
  replace f_m_walkedMany := (hs.o gm trivial rfl).1.trans f_m_walkedMany
  replace f_m_payments := (hs.o gm trivial rfl).1.trans f_m_payments
  replace f_m_planMany := (hs.o gm trivial rfl).1.trans f_m_planMany
  replace f_x_now := (hs.o gx trivial rfl).1.trans f_x_now
  replace f_x_personCount := (hs.o gx trivial rfl).1.trans f_x_personCount
  replace f_x_claimCount := (hs.o gx trivial rfl).1.trans f_x_claimCount
  replace f_x_tapeLength := (hs.o gx trivial rfl).1.trans f_x_tapeLength
  replace f_x_actCount := (hs.o gx trivial rfl).1.trans f_x_actCount
  replace f_x_heardCount := (hs.o gx trivial rfl).1.trans f_x_heardCount
  replace f_mw := (hs.o gm trivial rfl).2.trans f_mw
  replace f_mr := (hs.o gm trivial rfl).2.trans f_mr
  replace f_mp := (hs.o gm trivial rfl).2.trans f_mp
  replace f_mn := (hs.o gm trivial rfl).2.trans f_mn
  replace f_ml := (hs.o gm trivial rfl).2.trans f_ml
  replace f_mh := (hs.o gm trivial rfl).2.trans f_mh
  replace f_mt := (hs.o gm trivial rfl).2.trans f_mt
  replace f_m_fou := (hs.o gm trivial rfl).2.trans f_m_fou
  replace f_qo_ln := (hs.o gx trivial rfl).2.trans f_qo_ln
  replace f_o_ln := (hs.o g_qo_ln trivial rfl).1.trans f_o_ln
  replace f_o_lsd := (hs.o g_qw trivial rfl).1.trans f_o_lsd
  replace f_o_wkm := (hs.o g_qw trivial rfl).1.trans f_o_wkm
  replace f_qo_py := (hs.o gx trivial rfl).2.trans f_qo_py
  replace f_o_py := (hs.o g_qo_py trivial rfl).1.trans f_o_py
  replace f_qo_pmn := (hs.o gx trivial rfl).2.trans f_qo_pmn
  replace f_o_pmn := (hs.o g_qo_pmn trivial rfl).1.trans f_o_pmn
  replace f_b_of := (hs.o g_qo_ln trivial rfl).2.trans f_b_of
  replace f_m_of := (hs.o gm trivial rfl).2.trans f_m_of
  replace f_b_wf := (hs.o g_qo_ln trivial rfl).2.trans f_b_wf
  replace f_m_wf := (hs.o gm trivial rfl).2.trans f_m_wf
  replace f_b_df := (hs.o g_qo_ln trivial rfl).2.trans f_b_df
  replace f_m_df := (hs.o gm trivial rfl).2.trans f_m_df
  replace f_b_kf := (hs.o g_qo_ln trivial rfl).2.trans f_b_kf
  replace f_m_kf := (hs.o gm trivial rfl).2.trans f_m_kf
  replace f_b_sf := (hs.o g_qo_ln trivial rfl).2.trans f_b_sf
  replace f_m_sf := (hs.o gm trivial rfl).2.trans f_m_sf
  replace f_b_bf := (hs.o g_qo_ln trivial rfl).2.trans f_b_bf
  replace f_m_lst := (hs.o gm trivial rfl).2.trans f_m_lst
  replace f_qtp := (hs.o gx trivial rfl).2.trans f_qtp
  replace f_m_tp := (hs.o gm trivial rfl).2.trans f_m_tp
  replace f_m_dead := (hs.o gm trivial rfl).2.trans f_m_dead
  replace f_m_isj := (hs.o gm trivial rfl).2.trans f_m_isj
  replace f_m_dox := (hs.o gm trivial rfl).2.trans f_m_dox
  replace f_m_doy := (hs.o gm trivial rfl).2.trans f_m_doy
  replace f_qlt := (hs.o g_qw trivial rfl).2.trans f_qlt
  replace f_qlf := (hs.o g_qw trivial rfl).2.trans f_qlf
  replace f_m_wkd := (hs.o gm trivial rfl).2.trans f_m_wkd
  replace f_m_aga := (hs.o gm trivial rfl).2.trans f_m_aga
  replace f_qwo := (hs.o gx trivial rfl).2.trans f_qwo
  replace f_m_ad := (hs.o gm trivial rfl).2.trans f_m_ad
  replace f_m_by := (hs.o gm trivial rfl).2.trans f_m_by
  replace f_m_ho := (hs.o gm trivial rfl).2.trans f_m_ho
  replace f_m_fc := (hs.o gm trivial rfl).2.trans f_m_fc
  replace f_m_nt := (hs.o gm trivial rfl).2.trans f_m_nt
  replace f_m_wt := (hs.o gm trivial rfl).2.trans f_m_wt
  replace f_m_be := (hs.o gm trivial rfl).2.trans f_m_be
  replace f_m_bor := (hs.o gm trivial rfl).2.trans f_m_bor
  replace f_m_kin := (hs.o gm trivial rfl).2.trans f_m_kin
  replace f_m_sum := (hs.o gm trivial rfl).2.trans f_m_sum
  replace f_m_fro := (hs.o gm trivial rfl).2.trans f_m_fro
  replace f_m_fil := (hs.o gm trivial rfl).2.trans f_m_fil
  replace f_m_jud := (hs.o gm trivial rfl).2.trans f_m_jud
  replace f_m_ear := (hs.o gm trivial rfl).2.trans f_m_ear
  replace f_m_hds := (hs.o gm trivial rfl).2.trans f_m_hds
  replace f_m_ord := (hs.o gm trivial rfl).2.trans f_m_ord
  replace f_m_wkl := (hs.o gm trivial rfl).2.trans f_m_wkl
  replace f_m_owd := (hs.o gm trivial rfl).2.trans f_m_owd
  replace f_m_gds := (hs.o gm trivial rfl).2.trans f_m_gds
  replace f_m_szd := (hs.o gm trivial rfl).2.trans f_m_szd
  replace f_m_srv := (hs.o gm trivial rfl).2.trans f_m_srv
  replace f_y_p0 := (hs.o g_qo_py trivial rfl).2.trans f_y_p0
  replace f_m_p0 := (hs.o gm trivial rfl).2.trans f_m_p0
  replace f_y_p1 := (hs.o g_qo_py trivial rfl).2.trans f_y_p1
  replace f_m_p1 := (hs.o gm trivial rfl).2.trans f_m_p1
  replace f_y_p2 := (hs.o g_qo_py trivial rfl).2.trans f_y_p2
  replace f_m_p2 := (hs.o gm trivial rfl).2.trans f_m_p2
  replace f_y_p3 := (hs.o g_qo_py trivial rfl).2.trans f_y_p3
  replace f_m_p3 := (hs.o gm trivial rfl).2.trans f_m_p3
  replace f_y_p4 := (hs.o g_qo_py trivial rfl).2.trans f_y_p4
  replace f_m_p4 := (hs.o gm trivial rfl).2.trans f_m_p4
  replace f_qrg9 := (hs.o gx trivial rfl).2.trans f_qrg9
  replace f_y_ls := (hs.o g_qrg9 trivial rfl).2.trans f_y_ls
  replace f_m_rl := (hs.o gm trivial rfl).2.trans f_m_rl
  replace ffv_887 := (hs.o g_qrg9 trivial rfl).1.trans ffv_887
  replace ffv_888 := (hs.o gm trivial rfl).1.trans ffv_888
  replace ffv_889 := (hs.o gm trivial rfl).1.trans ffv_889
  replace f_y_pc := (hs.o g_qo_pmn trivial rfl).2.trans f_y_pc
  replace f_m_pc := (hs.o gm trivial rfl).2.trans f_m_pc
  replace f_y_pw := (hs.o g_qo_pmn trivial rfl).2.trans f_y_pw
  replace f_m_pw := (hs.o gm trivial rfl).2.trans f_m_pw
  replace f_y_pk := (hs.o g_qo_pmn trivial rfl).2.trans f_y_pk
  replace f_m_pk := (hs.o gm trivial rfl).2.trans f_m_pk
  replace pf_qa : ∀ j : Nat, (j : Int) < (h_896.2.1 ax 6).toInt → h_896.2.2 qa j ≠ none := by
    intro j hj; rw [(hs.o gx trivial rfl).1] at hj; rw [(hs.a g_qa rfl j).2]; exact pf_qa j hj
  replace pf_qp : ∀ j : Nat, (j : Int) < (h_896.2.1 ax 8).toInt → h_896.2.2 qp j ≠ none := by
    intro j hj; rw [(hs.o gx trivial rfl).1] at hj; rw [(hs.a g_qp rfl j).2]; exact pf_qp j hj
  replace pf_qc : ∀ j : Nat, (j : Int) < (h_896.2.1 ax 11).toInt → h_896.2.2 qc j ≠ none := by
    intro j hj; rw [(hs.o gx trivial rfl).1] at hj; rw [(hs.a g_qc rfl j).2]; exact pf_qc j hj
  replace pf_qh : ∀ j : Nat, (j : Int) < (h_896.2.1 ax 13).toInt → h_896.2.2 qh j ≠ none := by
    intro j hj; rw [(hs.o gx trivial rfl).1] at hj; rw [(hs.a g_qh rfl j).2]; exact pf_qh j hj
  replace pf_ql : ∀ j : Nat, (j : Int) < (h_896.2.1 qw 0).toInt → h_896.2.2 ql j ≠ none := by
    intro j hj; rw [(hs.o g_qw trivial rfl).1] at hj; rw [(hs.a g_ql rfl j).2]; exact pf_ql j hj
  replace cl_lst : hx_col 8 h_896 ql 0 = c_lst := (hx_col_S hs hTo g_ql tt_40 tt_2 rfl rfl).trans cl_lst
  replace cl_dead : hx_col 40 h_896 qp 7 = c_dead := (hx_col_S hs hTo g_qp tt_44 tt_4 rfl rfl).trans cl_dead
  replace cl_isj : hx_col 40 h_896 qp 8 = c_isj := (hx_col_S hs hTo g_qp tt_44 tt_4 rfl rfl).trans cl_isj
  replace cl_dox : hx_col 40 h_896 qp 5 = c_dox := (hx_col_S hs hTo g_qp tt_44 tt_4 rfl rfl).trans cl_dox
  replace cl_doy : hx_col 40 h_896 qp 6 = c_doy := (hx_col_S hs hTo g_qp tt_44 tt_4 rfl rfl).trans cl_doy
  replace cl_fou : hx_col 100 h_896 qc 10 = c_fou := (hx_col_S hs hTo g_qc tt_45 tt_2 rfl rfl).trans cl_fou
  replace cl_tri : hx_col 100 h_896 qc 9 = c_tri := (hx_col_S hs hTo g_qc tt_45 tt_2 rfl rfl).trans cl_tri
  replace cl_bor : hx_col 40 h_896 qp 1 = F_bor := (hx_col_S hs hTo g_qp tt_44 tt_4 rfl rfl).trans cl_bor
  replace cl_kin : hx_col 40 h_896 qp 2 = F_kin := (hx_col_S hs hTo g_qp tt_44 tt_4 rfl rfl).trans cl_kin
  replace cl_sum : hx_col 100 h_896 qc 6 = F_sum := (hx_col_S hs hTo g_qc tt_45 tt_2 rfl rfl).trans cl_sum
  replace cl_fro : hx_col 100 h_896 qc 7 = F_fro := (hx_col_S hs hTo g_qc tt_45 tt_2 rfl rfl).trans cl_fro
  replace cl_fil : hx_col 100 h_896 qc 8 = F_fil := (hx_col_S hs hTo g_qc tt_45 tt_2 rfl rfl).trans cl_fil
  replace cl_hea : hx_col 100 h_896 qc 11 = F_mh := (hx_col_S hs hTo g_qc tt_45 tt_2 rfl rfl).trans cl_hea
  replace cl_jud : hx_col 100 h_896 qc 12 = F_jud := (hx_col_S hs hTo g_qc tt_45 tt_2 rfl rfl).trans cl_jud
  replace cl_ear : hx_col 40 h_896 qp 3 = F_ear := (hx_col_S hs hTo g_qp tt_44 tt_4 rfl rfl).trans cl_ear
  replace cl_hds : hx_col 40 h_896 qp 4 = F_hds := (hx_col_S hs hTo g_qp tt_44 tt_4 rfl rfl).trans cl_hds
  replace cl_ord : hx_col 100 h_896 qc 13 = F_ord := (hx_col_S hs hTo g_qc tt_45 tt_2 rfl rfl).trans cl_ord
  replace cl_wkl : hx_col 100 h_896 qc 14 = F_wkl := (hx_col_S hs hTo g_qc tt_45 tt_2 rfl rfl).trans cl_wkl
  replace cl_owd : hx_col 100 h_896 qc 15 = F_owd := (hx_col_S hs hTo g_qc tt_45 tt_2 rfl rfl).trans cl_owd
  replace cl_gds : hx_col 100 h_896 qc 17 = F_gds := (hx_col_S hs hTo g_qc tt_45 tt_2 rfl rfl).trans cl_gds
  replace cl_szd : hx_col 100 h_896 qc 16 = F_szd := (hx_col_S hs hTo g_qc tt_45 tt_2 rfl rfl).trans cl_szd
  replace cl_srv : hx_col 100 h_896 qc 18 = F_srv := (hx_col_S hs hTo g_qc tt_45 tt_2 rfl rfl).trans cl_srv
  replace nu_qp : hx_num 40 h_896 qp 0 (np.toInt) := hx_num_S hs hTo g_qp tt_44 tt_4 rfl rfl nu_qp
  replace nu_qc : hx_num 100 h_896 qc 0 (c0.toInt) := hx_num_S hs hTo g_qc tt_45 tt_2 rfl rfl nu_qc
  replace sb_list : hx_LQ 8 100 h_896 ql qc := hx_LQ_S hs g_ql g_qc rfl rfl sb_list
  replace hDF : hw_DF h_896 qc qp 2 F_aga c0.toInt := hw_DF_S hs hTo g_qc g_qp tt_45 tt_2 rfl rfl rfl hDF
  replace hRA9 : hv_RA h_896 qa qwo a0.toInt A9 := hv_RA_S hs hTo g_qa g_qwo tt_43 tt_0 rfl rfl rfl rfl rfl rfl ?o28 hRA9
  case o28 => omega
  replace hDP : hw_DF h_896 qc qp 1 F_by c0.toInt := hw_DF_S hs hTo g_qc g_qp tt_45 tt_2 rfl rfl rfl hDP
  replace hAC9 : hv_AC h_896 qc F_ml c0.toInt A9 := hv_AC_S hs hTo g_qc tt_45 tt_2 rfl tt_0 rfl rfl rfl rfl rfl rfl rfl hAC9
  replace hFX : hv_FX 8 4 h_896 qc cF9L c0.toInt := hv_FX_S hs hTo g_qc tt_45 tt_2 rfl rfl rfl rfl hFX
  replace hBX : hv_FX 3 5 h_896 qc F_be c0.toInt := hv_FX_S hs hTo g_qc tt_45 tt_2 rfl rfl rfl rfl hBX
  replace hHL : hv_HL h_896 qh qc F_ho m0.toInt c0.toInt := hv_HL_S hs g_qh g_qc rfl rfl hHL
  replace n_mw : h_896.2.1 mw = F_mw := (funext fun j => (hs.a g_mw rfl j).1).trans n_mw
  replace n_mr : h_896.2.1 mr = F_mr := (funext fun j => (hs.a g_mr rfl j).1).trans n_mr
  replace n_mp : h_896.2.1 mp = F_mp := (funext fun j => (hs.a g_mp rfl j).1).trans n_mp
  replace n_mn : h_896.2.1 mn = F_mn := (funext fun j => (hs.a g_mn rfl j).1).trans n_mn
  replace n_ml : h_896.2.1 ml = F_ml := (funext fun j => (hs.a g_ml rfl j).1).trans n_ml
  replace n_mh : h_896.2.1 mh = F_mh := (funext fun j => (hs.a g_mh rfl j).1).trans n_mh
  replace n_mt : h_896.2.1 mt = F_mt := (funext fun j => (hs.a g_mt rfl j).1).trans n_mt
  replace n_m_fou : h_896.2.1 m_fou = F_m_fou := (funext fun j => (hs.a g_m_fou rfl j).1).trans n_m_fou
  replace n_b_of : h_896.2.1 b_of = B_of := (funext fun j => (hs.a g_b_of rfl j).1).trans n_b_of
  replace n_m_of : h_896.2.1 m_of = F_of := (funext fun j => (hs.a g_m_of rfl j).1).trans n_m_of
  replace n_b_wf : h_896.2.1 b_wf = B_wf := (funext fun j => (hs.a g_b_wf rfl j).1).trans n_b_wf
  replace n_m_wf : h_896.2.1 m_wf = F_wf := (funext fun j => (hs.a g_m_wf rfl j).1).trans n_m_wf
  replace n_b_df : h_896.2.1 b_df = B_df := (funext fun j => (hs.a g_b_df rfl j).1).trans n_b_df
  replace n_m_df : h_896.2.1 m_df = F_df := (funext fun j => (hs.a g_m_df rfl j).1).trans n_m_df
  replace n_b_kf : h_896.2.1 b_kf = B_kf := (funext fun j => (hs.a g_b_kf rfl j).1).trans n_b_kf
  replace n_m_kf : h_896.2.1 m_kf = F_kf := (funext fun j => (hs.a g_m_kf rfl j).1).trans n_m_kf
  replace n_b_sf : h_896.2.1 b_sf = B_sf := (funext fun j => (hs.a g_b_sf rfl j).1).trans n_b_sf
  replace n_m_sf : h_896.2.1 m_sf = F_sf := (funext fun j => (hs.a g_m_sf rfl j).1).trans n_m_sf
  replace n_b_bf : h_896.2.1 b_bf = bfL := (funext fun j => (hs.a g_b_bf rfl j).1).trans n_b_bf
  replace n_lst : h_896.2.1 m_lst = F_lst := (funext fun j => (hs.a g_m_lst rfl j).1).trans n_lst
  replace n_tp : h_896.2.1 m_tp = F_tp := (funext fun j => (hs.a g_m_tp rfl j).1).trans n_tp
  replace n_qtp : h_896.2.1 qtp = F_tp := (funext fun j => (hs.a g_qtp rfl j).1).trans n_qtp
  replace n_dead : h_896.2.1 m_dead = F_dead := (funext fun j => (hs.a g_m_dead rfl j).1).trans n_dead
  replace n_isj : h_896.2.1 m_isj = F_isj := (funext fun j => (hs.a g_m_isj rfl j).1).trans n_isj
  replace n_dox : h_896.2.1 m_dox = F_dox := (funext fun j => (hs.a g_m_dox rfl j).1).trans n_dox
  replace n_doy : h_896.2.1 m_doy = F_doy := (funext fun j => (hs.a g_m_doy rfl j).1).trans n_doy
  replace n_qlt : h_896.2.1 qlt = F_qlt := (funext fun j => (hs.a g_qlt rfl j).1).trans n_qlt
  replace n_m_wkd : h_896.2.1 m_wkd = F_m_wkd := (funext fun j => (hs.a g_m_wkd rfl j).1).trans n_m_wkd
  replace n_aga : h_896.2.1 m_aga = F_aga := (funext fun j => (hs.a g_m_aga rfl j).1).trans n_aga
  replace n_ad : h_896.2.1 m_ad = F_ad := (funext fun j => (hs.a g_m_ad rfl j).1).trans n_ad
  replace n_by : h_896.2.1 m_by = F_by := (funext fun j => (hs.a g_m_by rfl j).1).trans n_by
  replace n_ho : h_896.2.1 m_ho = F_ho := (funext fun j => (hs.a g_m_ho rfl j).1).trans n_ho
  replace n_fc : h_896.2.1 m_fc = F_fc := (funext fun j => (hs.a g_m_fc rfl j).1).trans n_fc
  replace n_nt : h_896.2.1 m_nt = F_nt := (funext fun j => (hs.a g_m_nt rfl j).1).trans n_nt
  replace n_wt : h_896.2.1 m_wt = F_wt := (funext fun j => (hs.a g_m_wt rfl j).1).trans n_wt
  replace n_be : h_896.2.1 m_be = F_be := (funext fun j => (hs.a g_m_be rfl j).1).trans n_be
  replace n_bor : h_896.2.1 m_bor = F_bor := (funext fun j => (hs.a g_m_bor rfl j).1).trans n_bor
  replace n_kin : h_896.2.1 m_kin = F_kin := (funext fun j => (hs.a g_m_kin rfl j).1).trans n_kin
  replace n_sum : h_896.2.1 m_sum = F_sum := (funext fun j => (hs.a g_m_sum rfl j).1).trans n_sum
  replace n_fro : h_896.2.1 m_fro = F_fro := (funext fun j => (hs.a g_m_fro rfl j).1).trans n_fro
  replace n_fil : h_896.2.1 m_fil = F_fil := (funext fun j => (hs.a g_m_fil rfl j).1).trans n_fil
  replace n_jud : h_896.2.1 m_jud = F_jud := (funext fun j => (hs.a g_m_jud rfl j).1).trans n_jud
  replace n_ear : h_896.2.1 m_ear = F_ear := (funext fun j => (hs.a g_m_ear rfl j).1).trans n_ear
  replace n_hds : h_896.2.1 m_hds = F_hds := (funext fun j => (hs.a g_m_hds rfl j).1).trans n_hds
  replace n_ord : h_896.2.1 m_ord = F_ord := (funext fun j => (hs.a g_m_ord rfl j).1).trans n_ord
  replace n_wkl : h_896.2.1 m_wkl = F_wkl := (funext fun j => (hs.a g_m_wkl rfl j).1).trans n_wkl
  replace n_owd : h_896.2.1 m_owd = F_owd := (funext fun j => (hs.a g_m_owd rfl j).1).trans n_owd
  replace n_gds : h_896.2.1 m_gds = F_gds := (funext fun j => (hs.a g_m_gds rfl j).1).trans n_gds
  replace n_szd : h_896.2.1 m_szd = F_szd := (funext fun j => (hs.a g_m_szd rfl j).1).trans n_szd
  replace n_srv : h_896.2.1 m_srv = F_srv := (funext fun j => (hs.a g_m_srv rfl j).1).trans n_srv
  replace n_p0 : h_896.2.1 m_p0 = F_p0 := (funext fun j => (hs.a g_m_p0 rfl j).1).trans n_p0
  replace n_y_p0 : h_896.2.1 y_p0 = F_p0 := (funext fun j => (hs.a g_y_p0 rfl j).1).trans n_y_p0
  replace n_p1 : h_896.2.1 m_p1 = F_p1 := (funext fun j => (hs.a g_m_p1 rfl j).1).trans n_p1
  replace n_y_p1 : h_896.2.1 y_p1 = F_p1 := (funext fun j => (hs.a g_y_p1 rfl j).1).trans n_y_p1
  replace n_p2 : h_896.2.1 m_p2 = F_p2 := (funext fun j => (hs.a g_m_p2 rfl j).1).trans n_p2
  replace n_y_p2 : h_896.2.1 y_p2 = F_p2 := (funext fun j => (hs.a g_y_p2 rfl j).1).trans n_y_p2
  replace n_p3 : h_896.2.1 m_p3 = F_p3 := (funext fun j => (hs.a g_m_p3 rfl j).1).trans n_p3
  replace n_y_p3 : h_896.2.1 y_p3 = F_p3 := (funext fun j => (hs.a g_y_p3 rfl j).1).trans n_y_p3
  replace n_p4 : h_896.2.1 m_p4 = F_p4 := (funext fun j => (hs.a g_m_p4 rfl j).1).trans n_p4
  replace n_y_p4 : h_896.2.1 y_p4 = F_p4 := (funext fun j => (hs.a g_y_p4 rfl j).1).trans n_y_p4
  replace n_y_ls : h_896.2.1 y_ls = F_y_ls := (funext fun j => (hs.a g_y_ls rfl j).1).trans n_y_ls
  replace n_m_rl : h_896.2.1 m_rl = F_m_rl := (funext fun j => (hs.a g_m_rl rfl j).1).trans n_m_rl
  replace n_y_pc : h_896.2.1 y_pc = F_y_pc := (funext fun j => (hs.a g_y_pc rfl j).1).trans n_y_pc
  replace n_m_pc : h_896.2.1 m_pc = F_m_pc := (funext fun j => (hs.a g_m_pc rfl j).1).trans n_m_pc
  replace n_y_pw : h_896.2.1 y_pw = F_y_pw := (funext fun j => (hs.a g_y_pw rfl j).1).trans n_y_pw
  replace n_m_pw : h_896.2.1 m_pw = F_m_pw := (funext fun j => (hs.a g_m_pw rfl j).1).trans n_m_pw
  replace n_y_pk : h_896.2.1 y_pk = F_y_pk := (funext fun j => (hs.a g_y_pk rfl j).1).trans n_y_pk
  replace n_m_pk : h_896.2.1 m_pk = F_m_pk := (funext fun j => (hs.a g_m_pk rfl j).1).trans n_m_pk
  replace gx := gx.S hs
  replace gm := gm.S hs
  replace g_qa := g_qa.S hs
  replace g_qp := g_qp.S hs
  replace g_qc := g_qc.S hs
  replace g_qh := g_qh.S hs
  replace g_qw := g_qw.S hs
  replace g_ql := g_ql.S hs
  replace g_mw := g_mw.S hs
  replace g_mr := g_mr.S hs
  replace g_mp := g_mp.S hs
  replace g_mn := g_mn.S hs
  replace g_ml := g_ml.S hs
  replace g_mh := g_mh.S hs
  replace g_mt := g_mt.S hs
  replace g_m_fou := g_m_fou.S hs
  replace g_qo_ln := g_qo_ln.S hs
  replace g_qo_py := g_qo_py.S hs
  replace g_qo_pmn := g_qo_pmn.S hs
  replace g_b_of := g_b_of.S hs
  replace g_m_of := g_m_of.S hs
  replace g_b_wf := g_b_wf.S hs
  replace g_m_wf := g_m_wf.S hs
  replace g_b_df := g_b_df.S hs
  replace g_m_df := g_m_df.S hs
  replace g_b_kf := g_b_kf.S hs
  replace g_m_kf := g_m_kf.S hs
  replace g_b_sf := g_b_sf.S hs
  replace g_m_sf := g_m_sf.S hs
  replace g_b_bf := g_b_bf.S hs
  replace g_m_lst := g_m_lst.S hs
  replace g_qtp := g_qtp.S hs
  replace g_m_tp := g_m_tp.S hs
  replace g_m_dead := g_m_dead.S hs
  replace g_m_isj := g_m_isj.S hs
  replace g_m_dox := g_m_dox.S hs
  replace g_m_doy := g_m_doy.S hs
  replace g_qlt := g_qlt.S hs
  replace g_qlf := g_qlf.S hs
  replace g_m_wkd := g_m_wkd.S hs
  replace g_m_aga := g_m_aga.S hs
  replace g_qwo := g_qwo.S hs
  replace g_m_ad := g_m_ad.S hs
  replace g_m_by := g_m_by.S hs
  replace g_m_ho := g_m_ho.S hs
  replace g_m_fc := g_m_fc.S hs
  replace g_m_nt := g_m_nt.S hs
  replace g_m_wt := g_m_wt.S hs
  replace g_m_be := g_m_be.S hs
  replace g_m_bor := g_m_bor.S hs
  replace g_m_kin := g_m_kin.S hs
  replace g_m_sum := g_m_sum.S hs
  replace g_m_fro := g_m_fro.S hs
  replace g_m_fil := g_m_fil.S hs
  replace g_m_jud := g_m_jud.S hs
  replace g_m_ear := g_m_ear.S hs
  replace g_m_hds := g_m_hds.S hs
  replace g_m_ord := g_m_ord.S hs
  replace g_m_wkl := g_m_wkl.S hs
  replace g_m_owd := g_m_owd.S hs
  replace g_m_gds := g_m_gds.S hs
  replace g_m_szd := g_m_szd.S hs
  replace g_m_srv := g_m_srv.S hs
  replace g_y_p0 := g_y_p0.S hs
  replace g_m_p0 := g_m_p0.S hs
  replace g_y_p1 := g_y_p1.S hs
  replace g_m_p1 := g_m_p1.S hs
  replace g_y_p2 := g_y_p2.S hs
  replace g_m_p2 := g_m_p2.S hs
  replace g_y_p3 := g_y_p3.S hs
  replace g_m_p3 := g_m_p3.S hs
  replace g_y_p4 := g_y_p4.S hs
  replace g_m_p4 := g_m_p4.S hs
  replace g_qrg9 := g_qrg9.S hs
  replace g_y_ls := g_y_ls.S hs
  replace g_m_rl := g_m_rl.S hs
  replace g_y_pc := g_y_pc.S hs
  replace g_m_pc := g_m_pc.S hs
  replace g_y_pw := g_y_pw.S hs
  replace g_m_pw := g_m_pw.S hs
  replace g_y_pk := g_y_pk.S hs
  replace g_m_pk := g_m_pk.S hs
  refine lv_pop hx hb dL_law_1304 rfl ?_
  refine lv_aload_n hx hb dL_law_1305 rfl (lv_at hl 1 rfl) ?_
  refine lv_aload_n hx hb dL_law_1306 rfl (lv_at hl 3 rfl) ?_
  refine lv_iload_n hx hb dL_law_1307 rfl (lv_at hl 0 rfl) ?_
  refine lv_iconst (v := 1) hx hb dL_law_1308 ?o29 ?_
  case o29 => decide
  refine lv_iadd hx hb dL_law_1309 ?_
  refine lv_topi (fun x_900 ex_900 => ?_)
  have zx_900 : x_900.toInt = i.toInt + 1 := ?o30
  case o30 =>
    rw [ex_900]
    refine i32_add rfl ?o31 ?o32 ?o33
    case o31 => decide
    case o32 => omega
    case o33 => omega
  obtain rfl : x_891 = x_900 := ex_891.trans ex_900.symm
  refine va_sld hx hb hX hbl hbA hW.2.2.2.1 (vp_in_iff.mpr ⟨?o34, ?o35⟩) dL_law_1310 ?_
  case o34 => omega
  case o35 => omega
  refine lv_topi (fun x_901 ex_901 => ?_)
  obtain rfl : x_892 = x_901 := ex_892.trans ex_901.symm
  refine lv_aload_n hx hb dL_law_1311 rfl (lv_at hl 3 rfl) ?_
  refine lv_iload_n hx hb dL_law_1312 rfl (lv_at hl 0 rfl) ?_
  refine lv_iconst (v := 2) hx hb dL_law_1313 ?o36 ?_
  case o36 => decide
  refine lv_iadd hx hb dL_law_1314 ?_
  refine lv_topi (fun x_902 ex_902 => ?_)
  have zx_902 : x_902.toInt = i.toInt + 2 := ?o37
  case o37 =>
    rw [ex_902]
    refine i32_add rfl ?o38 ?o39 ?o40
    case o38 => decide
    case o39 => omega
    case o40 => omega
  obtain rfl : x_893 = x_902 := ex_893.trans ex_902.symm
  refine va_sld hx hb hX hbl hbA hW.2.2.2.1 (vp_in_iff.mpr ⟨?o41, ?o42⟩) dL_law_1315 ?_
  case o41 => omega
  case o42 => omega
  refine lv_topi (fun x_903 ex_903 => ?_)
  obtain rfl : x_894 = x_903 := ex_894.trans ex_903.symm
  have hTo := hT
  refine hx_goi (hx_runV (As := [.int x_892, .int x_894]) (rest := []) ⟨hx, hb, hml, hown, hts⟩ hW gm tt_10 (T := TX10) (N := 98) rfl (t_X10_habit l dC dI dA L_895 h_896 H.size am x_892 x_894 hT gm) (cwV 2 hts (hx_gV kw_1736 kw_1733 kw_1734 kw_1735 kw_103) rfl rfl rfl (by decide +kernel) ⟨Nat.le_of_ble_eq_true rfl, Nat.le_of_ble_eq_true rfl⟩) rfl hl.1 rfl (Nat.le_of_ble_eq_true rfl) dL_law_1316 ⟨(show CC + 0 + 0 ≤ 600000 from ?o43), (show SS + 0 + 0 ≤ 7302250 from ?o44)⟩) hW (fun r_906 L_904 h_905 H locs p_907 hW => ?_)
  case o43 => omega
  case o44 => omega
  obtain ⟨hr_908, hT, hs⟩ := p_907
  replace hT : hx_T T_tb L_904 h_905 := hT
  replace hs : hx_S T_tb [(10, 95), (10, 96), (115, 0)] L_895 h_896 L_904 h_905 := hs
  replace f_qa := (hs.o gx trivial rfl).2.trans f_qa
  replace f_qp := (hs.o gx trivial rfl).2.trans f_qp
  replace f_qc := (hs.o gx trivial rfl).2.trans f_qc
  replace f_qh := (hs.o gx trivial rfl).2.trans f_qh
  replace f_qw := (hs.o gx trivial rfl).2.trans f_qw
  replace f_ql := (hs.o g_qw trivial rfl).2.trans f_ql
  replace f_m_now := (hs.o gm trivial rfl).1.trans f_m_now
  replace f_m_persons := (hs.o gm trivial rfl).1.trans f_m_persons
  replace f_m_claims := (hs.o gm trivial rfl).1.trans f_m_claims
  replace f_m_taped := (hs.o gm trivial rfl).1.trans f_m_taped
  replace f_m_acts := (hs.o gm trivial rfl).1.trans f_m_acts
  replace f_m_heardMany := (hs.o gm trivial rfl).1.trans f_m_heardMany
  replace f_m_lines := (hs.o gm trivial rfl).1.trans f_m_lines
  replace f_m_listed := (hs.o gm trivial rfl).1.trans f_m_listed
  replace f_m_walkedMany := (hs.o gm trivial rfl).1.trans f_m_walkedMany
  replace f_m_payments := (hs.o gm trivial rfl).1.trans f_m_payments
  replace f_m_planMany := (hs.o gm trivial rfl).1.trans f_m_planMany
  replace f_x_now := (hs.o gx trivial rfl).1.trans f_x_now
  replace f_x_personCount := (hs.o gx trivial rfl).1.trans f_x_personCount
  replace f_x_claimCount := (hs.o gx trivial rfl).1.trans f_x_claimCount
  replace f_x_tapeLength := (hs.o gx trivial rfl).1.trans f_x_tapeLength
  replace f_x_actCount := (hs.o gx trivial rfl).1.trans f_x_actCount
  replace f_x_heardCount := (hs.o gx trivial rfl).1.trans f_x_heardCount
  replace f_mw := (hs.o gm trivial rfl).2.trans f_mw
  replace f_mr := (hs.o gm trivial rfl).2.trans f_mr
  replace f_mp := (hs.o gm trivial rfl).2.trans f_mp
  replace f_mn := (hs.o gm trivial rfl).2.trans f_mn
  replace f_ml := (hs.o gm trivial rfl).2.trans f_ml
  replace f_mh := (hs.o gm trivial rfl).2.trans f_mh
  replace f_mt := (hs.o gm trivial rfl).2.trans f_mt
  replace f_m_fou := (hs.o gm trivial rfl).2.trans f_m_fou
  replace f_qo_ln := (hs.o gx trivial rfl).2.trans f_qo_ln
  replace f_o_ln := (hs.o g_qo_ln trivial rfl).1.trans f_o_ln
  replace f_o_lsd := (hs.o g_qw trivial rfl).1.trans f_o_lsd
  replace f_o_wkm := (hs.o g_qw trivial rfl).1.trans f_o_wkm
  replace f_qo_py := (hs.o gx trivial rfl).2.trans f_qo_py
  replace f_o_py := (hs.o g_qo_py trivial rfl).1.trans f_o_py
  replace f_qo_pmn := (hs.o gx trivial rfl).2.trans f_qo_pmn
  replace f_o_pmn := (hs.o g_qo_pmn trivial rfl).1.trans f_o_pmn
  replace f_b_of := (hs.o g_qo_ln trivial rfl).2.trans f_b_of
  replace f_m_of := (hs.o gm trivial rfl).2.trans f_m_of
  replace f_b_wf := (hs.o g_qo_ln trivial rfl).2.trans f_b_wf
  replace f_m_wf := (hs.o gm trivial rfl).2.trans f_m_wf
  replace f_b_df := (hs.o g_qo_ln trivial rfl).2.trans f_b_df
  replace f_m_df := (hs.o gm trivial rfl).2.trans f_m_df
  replace f_b_kf := (hs.o g_qo_ln trivial rfl).2.trans f_b_kf
  replace f_m_kf := (hs.o gm trivial rfl).2.trans f_m_kf
  replace f_b_sf := (hs.o g_qo_ln trivial rfl).2.trans f_b_sf
  replace f_m_sf := (hs.o gm trivial rfl).2.trans f_m_sf
  replace f_b_bf := (hs.o g_qo_ln trivial rfl).2.trans f_b_bf
  replace f_m_lst := (hs.o gm trivial rfl).2.trans f_m_lst
  replace f_qtp := (hs.o gx trivial rfl).2.trans f_qtp
  replace f_m_tp := (hs.o gm trivial rfl).2.trans f_m_tp
  replace f_m_dead := (hs.o gm trivial rfl).2.trans f_m_dead
  replace f_m_isj := (hs.o gm trivial rfl).2.trans f_m_isj
  replace f_m_dox := (hs.o gm trivial rfl).2.trans f_m_dox
  replace f_m_doy := (hs.o gm trivial rfl).2.trans f_m_doy
  replace f_qlt := (hs.o g_qw trivial rfl).2.trans f_qlt
  replace f_qlf := (hs.o g_qw trivial rfl).2.trans f_qlf
  replace f_m_wkd := (hs.o gm trivial rfl).2.trans f_m_wkd
  replace f_m_aga := (hs.o gm trivial rfl).2.trans f_m_aga
  replace f_qwo := (hs.o gx trivial rfl).2.trans f_qwo
  replace f_m_ad := (hs.o gm trivial rfl).2.trans f_m_ad
  replace f_m_by := (hs.o gm trivial rfl).2.trans f_m_by
  replace f_m_ho := (hs.o gm trivial rfl).2.trans f_m_ho
  replace f_m_fc := (hs.o gm trivial rfl).2.trans f_m_fc
  replace f_m_nt := (hs.o gm trivial rfl).2.trans f_m_nt
  replace f_m_wt := (hs.o gm trivial rfl).2.trans f_m_wt
  replace f_m_be := (hs.o gm trivial rfl).2.trans f_m_be
  replace f_m_bor := (hs.o gm trivial rfl).2.trans f_m_bor
  replace f_m_kin := (hs.o gm trivial rfl).2.trans f_m_kin
  replace f_m_sum := (hs.o gm trivial rfl).2.trans f_m_sum
  replace f_m_fro := (hs.o gm trivial rfl).2.trans f_m_fro
  replace f_m_fil := (hs.o gm trivial rfl).2.trans f_m_fil
  replace f_m_jud := (hs.o gm trivial rfl).2.trans f_m_jud
  replace f_m_ear := (hs.o gm trivial rfl).2.trans f_m_ear
  replace f_m_hds := (hs.o gm trivial rfl).2.trans f_m_hds
  replace f_m_ord := (hs.o gm trivial rfl).2.trans f_m_ord
  replace f_m_wkl := (hs.o gm trivial rfl).2.trans f_m_wkl
  replace f_m_owd := (hs.o gm trivial rfl).2.trans f_m_owd
  replace f_m_gds := (hs.o gm trivial rfl).2.trans f_m_gds
  replace f_m_szd := (hs.o gm trivial rfl).2.trans f_m_szd
  replace f_m_srv := (hs.o gm trivial rfl).2.trans f_m_srv
  replace f_y_p0 := (hs.o g_qo_py trivial rfl).2.trans f_y_p0
  replace f_m_p0 := (hs.o gm trivial rfl).2.trans f_m_p0
  replace f_y_p1 := (hs.o g_qo_py trivial rfl).2.trans f_y_p1
  replace f_m_p1 := (hs.o gm trivial rfl).2.trans f_m_p1
  replace f_y_p2 := (hs.o g_qo_py trivial rfl).2.trans f_y_p2
  replace f_m_p2 := (hs.o gm trivial rfl).2.trans f_m_p2
  replace f_y_p3 := (hs.o g_qo_py trivial rfl).2.trans f_y_p3
  replace f_m_p3 := (hs.o gm trivial rfl).2.trans f_m_p3
  replace f_y_p4 := (hs.o g_qo_py trivial rfl).2.trans f_y_p4
  replace f_m_p4 := (hs.o gm trivial rfl).2.trans f_m_p4
  replace f_qrg9 := (hs.o gx trivial rfl).2.trans f_qrg9
  replace f_y_ls := (hs.o g_qrg9 trivial rfl).2.trans f_y_ls
  replace f_m_rl := (hs.o gm trivial rfl).2.trans f_m_rl
  replace ffv_887 := (hs.o g_qrg9 trivial rfl).1.trans ffv_887
  replace ffv_888 := (hs.o gm trivial rfl).1.trans ffv_888
  replace ffv_889 := (hs.o gm trivial rfl).1.trans ffv_889
  replace f_y_pc := (hs.o g_qo_pmn trivial rfl).2.trans f_y_pc
  replace f_m_pc := (hs.o gm trivial rfl).2.trans f_m_pc
  replace f_y_pw := (hs.o g_qo_pmn trivial rfl).2.trans f_y_pw
  replace f_m_pw := (hs.o gm trivial rfl).2.trans f_m_pw
  replace f_y_pk := (hs.o g_qo_pmn trivial rfl).2.trans f_y_pk
  replace f_m_pk := (hs.o gm trivial rfl).2.trans f_m_pk
  replace pf_qa : ∀ j : Nat, (j : Int) < (h_905.2.1 ax 6).toInt → h_905.2.2 qa j ≠ none := by
    intro j hj; rw [(hs.o gx trivial rfl).1] at hj; rw [(hs.a g_qa rfl j).2]; exact pf_qa j hj
  replace pf_qp : ∀ j : Nat, (j : Int) < (h_905.2.1 ax 8).toInt → h_905.2.2 qp j ≠ none := by
    intro j hj; rw [(hs.o gx trivial rfl).1] at hj; rw [(hs.a g_qp rfl j).2]; exact pf_qp j hj
  replace pf_qc : ∀ j : Nat, (j : Int) < (h_905.2.1 ax 11).toInt → h_905.2.2 qc j ≠ none := by
    intro j hj; rw [(hs.o gx trivial rfl).1] at hj; rw [(hs.a g_qc rfl j).2]; exact pf_qc j hj
  replace pf_qh : ∀ j : Nat, (j : Int) < (h_905.2.1 ax 13).toInt → h_905.2.2 qh j ≠ none := by
    intro j hj; rw [(hs.o gx trivial rfl).1] at hj; rw [(hs.a g_qh rfl j).2]; exact pf_qh j hj
  replace pf_ql : ∀ j : Nat, (j : Int) < (h_905.2.1 qw 0).toInt → h_905.2.2 ql j ≠ none := by
    intro j hj; rw [(hs.o g_qw trivial rfl).1] at hj; rw [(hs.a g_ql rfl j).2]; exact pf_ql j hj
  replace cl_lst : hx_col 8 h_905 ql 0 = c_lst := (hx_col_S hs hTo g_ql tt_40 tt_2 rfl rfl).trans cl_lst
  replace cl_dead : hx_col 40 h_905 qp 7 = c_dead := (hx_col_S hs hTo g_qp tt_44 tt_4 rfl rfl).trans cl_dead
  replace cl_isj : hx_col 40 h_905 qp 8 = c_isj := (hx_col_S hs hTo g_qp tt_44 tt_4 rfl rfl).trans cl_isj
  replace cl_dox : hx_col 40 h_905 qp 5 = c_dox := (hx_col_S hs hTo g_qp tt_44 tt_4 rfl rfl).trans cl_dox
  replace cl_doy : hx_col 40 h_905 qp 6 = c_doy := (hx_col_S hs hTo g_qp tt_44 tt_4 rfl rfl).trans cl_doy
  replace cl_fou : hx_col 100 h_905 qc 10 = c_fou := (hx_col_S hs hTo g_qc tt_45 tt_2 rfl rfl).trans cl_fou
  replace cl_tri : hx_col 100 h_905 qc 9 = c_tri := (hx_col_S hs hTo g_qc tt_45 tt_2 rfl rfl).trans cl_tri
  replace cl_bor : hx_col 40 h_905 qp 1 = F_bor := (hx_col_S hs hTo g_qp tt_44 tt_4 rfl rfl).trans cl_bor
  replace cl_kin : hx_col 40 h_905 qp 2 = F_kin := (hx_col_S hs hTo g_qp tt_44 tt_4 rfl rfl).trans cl_kin
  replace cl_sum : hx_col 100 h_905 qc 6 = F_sum := (hx_col_S hs hTo g_qc tt_45 tt_2 rfl rfl).trans cl_sum
  replace cl_fro : hx_col 100 h_905 qc 7 = F_fro := (hx_col_S hs hTo g_qc tt_45 tt_2 rfl rfl).trans cl_fro
  replace cl_fil : hx_col 100 h_905 qc 8 = F_fil := (hx_col_S hs hTo g_qc tt_45 tt_2 rfl rfl).trans cl_fil
  replace cl_hea : hx_col 100 h_905 qc 11 = F_mh := (hx_col_S hs hTo g_qc tt_45 tt_2 rfl rfl).trans cl_hea
  replace cl_jud : hx_col 100 h_905 qc 12 = F_jud := (hx_col_S hs hTo g_qc tt_45 tt_2 rfl rfl).trans cl_jud
  replace cl_ear : hx_col 40 h_905 qp 3 = F_ear := (hx_col_S hs hTo g_qp tt_44 tt_4 rfl rfl).trans cl_ear
  replace cl_hds : hx_col 40 h_905 qp 4 = F_hds := (hx_col_S hs hTo g_qp tt_44 tt_4 rfl rfl).trans cl_hds
  replace cl_ord : hx_col 100 h_905 qc 13 = F_ord := (hx_col_S hs hTo g_qc tt_45 tt_2 rfl rfl).trans cl_ord
  replace cl_wkl : hx_col 100 h_905 qc 14 = F_wkl := (hx_col_S hs hTo g_qc tt_45 tt_2 rfl rfl).trans cl_wkl
  replace cl_owd : hx_col 100 h_905 qc 15 = F_owd := (hx_col_S hs hTo g_qc tt_45 tt_2 rfl rfl).trans cl_owd
  replace cl_gds : hx_col 100 h_905 qc 17 = F_gds := (hx_col_S hs hTo g_qc tt_45 tt_2 rfl rfl).trans cl_gds
  replace cl_szd : hx_col 100 h_905 qc 16 = F_szd := (hx_col_S hs hTo g_qc tt_45 tt_2 rfl rfl).trans cl_szd
  replace cl_srv : hx_col 100 h_905 qc 18 = F_srv := (hx_col_S hs hTo g_qc tt_45 tt_2 rfl rfl).trans cl_srv
  replace nu_qp : hx_num 40 h_905 qp 0 (np.toInt) := hx_num_S hs hTo g_qp tt_44 tt_4 rfl rfl nu_qp
  replace nu_qc : hx_num 100 h_905 qc 0 (c0.toInt) := hx_num_S hs hTo g_qc tt_45 tt_2 rfl rfl nu_qc
  replace sb_list : hx_LQ 8 100 h_905 ql qc := hx_LQ_S hs g_ql g_qc rfl rfl sb_list
  replace hDF : hw_DF h_905 qc qp 2 F_aga c0.toInt := hw_DF_S hs hTo g_qc g_qp tt_45 tt_2 rfl rfl rfl hDF
  replace hRA9 : hv_RA h_905 qa qwo a0.toInt A9 := hv_RA_S hs hTo g_qa g_qwo tt_43 tt_0 rfl rfl rfl rfl rfl rfl ?o45 hRA9
  case o45 => omega
  replace hDP : hw_DF h_905 qc qp 1 F_by c0.toInt := hw_DF_S hs hTo g_qc g_qp tt_45 tt_2 rfl rfl rfl hDP
  replace hAC9 : hv_AC h_905 qc F_ml c0.toInt A9 := hv_AC_S hs hTo g_qc tt_45 tt_2 rfl tt_0 rfl rfl rfl rfl rfl rfl rfl hAC9
  replace hFX : hv_FX 8 4 h_905 qc cF9L c0.toInt := hv_FX_S hs hTo g_qc tt_45 tt_2 rfl rfl rfl rfl hFX
  replace hBX : hv_FX 3 5 h_905 qc F_be c0.toInt := hv_FX_S hs hTo g_qc tt_45 tt_2 rfl rfl rfl rfl hBX
  replace hHL : hv_HL h_905 qh qc F_ho m0.toInt c0.toInt := hv_HL_S hs g_qh g_qc rfl rfl hHL
  replace n_mw : h_905.2.1 mw = F_mw := (funext fun j => (hs.a g_mw rfl j).1).trans n_mw
  replace n_mr : h_905.2.1 mr = F_mr := (funext fun j => (hs.a g_mr rfl j).1).trans n_mr
  replace n_mp : h_905.2.1 mp = F_mp := (funext fun j => (hs.a g_mp rfl j).1).trans n_mp
  replace n_mn : h_905.2.1 mn = F_mn := (funext fun j => (hs.a g_mn rfl j).1).trans n_mn
  replace n_ml : h_905.2.1 ml = F_ml := (funext fun j => (hs.a g_ml rfl j).1).trans n_ml
  replace n_mh : h_905.2.1 mh = F_mh := (funext fun j => (hs.a g_mh rfl j).1).trans n_mh
  replace n_mt : h_905.2.1 mt = F_mt := (funext fun j => (hs.a g_mt rfl j).1).trans n_mt
  replace n_m_fou : h_905.2.1 m_fou = F_m_fou := (funext fun j => (hs.a g_m_fou rfl j).1).trans n_m_fou
  replace n_b_of : h_905.2.1 b_of = B_of := (funext fun j => (hs.a g_b_of rfl j).1).trans n_b_of
  replace n_m_of : h_905.2.1 m_of = F_of := (funext fun j => (hs.a g_m_of rfl j).1).trans n_m_of
  replace n_b_wf : h_905.2.1 b_wf = B_wf := (funext fun j => (hs.a g_b_wf rfl j).1).trans n_b_wf
  replace n_m_wf : h_905.2.1 m_wf = F_wf := (funext fun j => (hs.a g_m_wf rfl j).1).trans n_m_wf
  replace n_b_df : h_905.2.1 b_df = B_df := (funext fun j => (hs.a g_b_df rfl j).1).trans n_b_df
  replace n_m_df : h_905.2.1 m_df = F_df := (funext fun j => (hs.a g_m_df rfl j).1).trans n_m_df
  replace n_b_kf : h_905.2.1 b_kf = B_kf := (funext fun j => (hs.a g_b_kf rfl j).1).trans n_b_kf
  replace n_m_kf : h_905.2.1 m_kf = F_kf := (funext fun j => (hs.a g_m_kf rfl j).1).trans n_m_kf
  replace n_b_sf : h_905.2.1 b_sf = B_sf := (funext fun j => (hs.a g_b_sf rfl j).1).trans n_b_sf
  replace n_m_sf : h_905.2.1 m_sf = F_sf := (funext fun j => (hs.a g_m_sf rfl j).1).trans n_m_sf
  replace n_b_bf : h_905.2.1 b_bf = bfL := (funext fun j => (hs.a g_b_bf rfl j).1).trans n_b_bf
  replace n_lst : h_905.2.1 m_lst = F_lst := (funext fun j => (hs.a g_m_lst rfl j).1).trans n_lst
  replace n_tp : h_905.2.1 m_tp = F_tp := (funext fun j => (hs.a g_m_tp rfl j).1).trans n_tp
  replace n_qtp : h_905.2.1 qtp = F_tp := (funext fun j => (hs.a g_qtp rfl j).1).trans n_qtp
  replace n_dead : h_905.2.1 m_dead = F_dead := (funext fun j => (hs.a g_m_dead rfl j).1).trans n_dead
  replace n_isj : h_905.2.1 m_isj = F_isj := (funext fun j => (hs.a g_m_isj rfl j).1).trans n_isj
  replace n_dox : h_905.2.1 m_dox = F_dox := (funext fun j => (hs.a g_m_dox rfl j).1).trans n_dox
  replace n_doy : h_905.2.1 m_doy = F_doy := (funext fun j => (hs.a g_m_doy rfl j).1).trans n_doy
  replace n_qlt : h_905.2.1 qlt = F_qlt := (funext fun j => (hs.a g_qlt rfl j).1).trans n_qlt
  replace n_m_wkd : h_905.2.1 m_wkd = F_m_wkd := (funext fun j => (hs.a g_m_wkd rfl j).1).trans n_m_wkd
  replace n_aga : h_905.2.1 m_aga = F_aga := (funext fun j => (hs.a g_m_aga rfl j).1).trans n_aga
  replace n_ad : h_905.2.1 m_ad = F_ad := (funext fun j => (hs.a g_m_ad rfl j).1).trans n_ad
  replace n_by : h_905.2.1 m_by = F_by := (funext fun j => (hs.a g_m_by rfl j).1).trans n_by
  replace n_ho : h_905.2.1 m_ho = F_ho := (funext fun j => (hs.a g_m_ho rfl j).1).trans n_ho
  replace n_fc : h_905.2.1 m_fc = F_fc := (funext fun j => (hs.a g_m_fc rfl j).1).trans n_fc
  replace n_nt : h_905.2.1 m_nt = F_nt := (funext fun j => (hs.a g_m_nt rfl j).1).trans n_nt
  replace n_wt : h_905.2.1 m_wt = F_wt := (funext fun j => (hs.a g_m_wt rfl j).1).trans n_wt
  replace n_be : h_905.2.1 m_be = F_be := (funext fun j => (hs.a g_m_be rfl j).1).trans n_be
  replace n_bor : h_905.2.1 m_bor = F_bor := (funext fun j => (hs.a g_m_bor rfl j).1).trans n_bor
  replace n_kin : h_905.2.1 m_kin = F_kin := (funext fun j => (hs.a g_m_kin rfl j).1).trans n_kin
  replace n_sum : h_905.2.1 m_sum = F_sum := (funext fun j => (hs.a g_m_sum rfl j).1).trans n_sum
  replace n_fro : h_905.2.1 m_fro = F_fro := (funext fun j => (hs.a g_m_fro rfl j).1).trans n_fro
  replace n_fil : h_905.2.1 m_fil = F_fil := (funext fun j => (hs.a g_m_fil rfl j).1).trans n_fil
  replace n_jud : h_905.2.1 m_jud = F_jud := (funext fun j => (hs.a g_m_jud rfl j).1).trans n_jud
  replace n_ear : h_905.2.1 m_ear = F_ear := (funext fun j => (hs.a g_m_ear rfl j).1).trans n_ear
  replace n_hds : h_905.2.1 m_hds = F_hds := (funext fun j => (hs.a g_m_hds rfl j).1).trans n_hds
  replace n_ord : h_905.2.1 m_ord = F_ord := (funext fun j => (hs.a g_m_ord rfl j).1).trans n_ord
  replace n_wkl : h_905.2.1 m_wkl = F_wkl := (funext fun j => (hs.a g_m_wkl rfl j).1).trans n_wkl
  replace n_owd : h_905.2.1 m_owd = F_owd := (funext fun j => (hs.a g_m_owd rfl j).1).trans n_owd
  replace n_gds : h_905.2.1 m_gds = F_gds := (funext fun j => (hs.a g_m_gds rfl j).1).trans n_gds
  replace n_szd : h_905.2.1 m_szd = F_szd := (funext fun j => (hs.a g_m_szd rfl j).1).trans n_szd
  replace n_srv : h_905.2.1 m_srv = F_srv := (funext fun j => (hs.a g_m_srv rfl j).1).trans n_srv
  replace n_p0 : h_905.2.1 m_p0 = F_p0 := (funext fun j => (hs.a g_m_p0 rfl j).1).trans n_p0
  replace n_y_p0 : h_905.2.1 y_p0 = F_p0 := (funext fun j => (hs.a g_y_p0 rfl j).1).trans n_y_p0
  replace n_p1 : h_905.2.1 m_p1 = F_p1 := (funext fun j => (hs.a g_m_p1 rfl j).1).trans n_p1
  replace n_y_p1 : h_905.2.1 y_p1 = F_p1 := (funext fun j => (hs.a g_y_p1 rfl j).1).trans n_y_p1
  replace n_p2 : h_905.2.1 m_p2 = F_p2 := (funext fun j => (hs.a g_m_p2 rfl j).1).trans n_p2
  replace n_y_p2 : h_905.2.1 y_p2 = F_p2 := (funext fun j => (hs.a g_y_p2 rfl j).1).trans n_y_p2
  replace n_p3 : h_905.2.1 m_p3 = F_p3 := (funext fun j => (hs.a g_m_p3 rfl j).1).trans n_p3
  replace n_y_p3 : h_905.2.1 y_p3 = F_p3 := (funext fun j => (hs.a g_y_p3 rfl j).1).trans n_y_p3
  replace n_p4 : h_905.2.1 m_p4 = F_p4 := (funext fun j => (hs.a g_m_p4 rfl j).1).trans n_p4
  replace n_y_p4 : h_905.2.1 y_p4 = F_p4 := (funext fun j => (hs.a g_y_p4 rfl j).1).trans n_y_p4
  replace n_y_ls : h_905.2.1 y_ls = F_y_ls := (funext fun j => (hs.a g_y_ls rfl j).1).trans n_y_ls
  replace n_m_rl : h_905.2.1 m_rl = F_m_rl := (funext fun j => (hs.a g_m_rl rfl j).1).trans n_m_rl
  replace n_y_pc : h_905.2.1 y_pc = F_y_pc := (funext fun j => (hs.a g_y_pc rfl j).1).trans n_y_pc
  replace n_m_pc : h_905.2.1 m_pc = F_m_pc := (funext fun j => (hs.a g_m_pc rfl j).1).trans n_m_pc
  replace n_y_pw : h_905.2.1 y_pw = F_y_pw := (funext fun j => (hs.a g_y_pw rfl j).1).trans n_y_pw
  replace n_m_pw : h_905.2.1 m_pw = F_m_pw := (funext fun j => (hs.a g_m_pw rfl j).1).trans n_m_pw
  replace n_y_pk : h_905.2.1 y_pk = F_y_pk := (funext fun j => (hs.a g_y_pk rfl j).1).trans n_y_pk
  replace n_m_pk : h_905.2.1 m_pk = F_m_pk := (funext fun j => (hs.a g_m_pk rfl j).1).trans n_m_pk
  replace gx := gx.S hs
  replace gm := gm.S hs
  replace g_qa := g_qa.S hs
  replace g_qp := g_qp.S hs
  replace g_qc := g_qc.S hs
  replace g_qh := g_qh.S hs
  replace g_qw := g_qw.S hs
  replace g_ql := g_ql.S hs
  replace g_mw := g_mw.S hs
  replace g_mr := g_mr.S hs
  replace g_mp := g_mp.S hs
  replace g_mn := g_mn.S hs
  replace g_ml := g_ml.S hs
  replace g_mh := g_mh.S hs
  replace g_mt := g_mt.S hs
  replace g_m_fou := g_m_fou.S hs
  replace g_qo_ln := g_qo_ln.S hs
  replace g_qo_py := g_qo_py.S hs
  replace g_qo_pmn := g_qo_pmn.S hs
  replace g_b_of := g_b_of.S hs
  replace g_m_of := g_m_of.S hs
  replace g_b_wf := g_b_wf.S hs
  replace g_m_wf := g_m_wf.S hs
  replace g_b_df := g_b_df.S hs
  replace g_m_df := g_m_df.S hs
  replace g_b_kf := g_b_kf.S hs
  replace g_m_kf := g_m_kf.S hs
  replace g_b_sf := g_b_sf.S hs
  replace g_m_sf := g_m_sf.S hs
  replace g_b_bf := g_b_bf.S hs
  replace g_m_lst := g_m_lst.S hs
  replace g_qtp := g_qtp.S hs
  replace g_m_tp := g_m_tp.S hs
  replace g_m_dead := g_m_dead.S hs
  replace g_m_isj := g_m_isj.S hs
  replace g_m_dox := g_m_dox.S hs
  replace g_m_doy := g_m_doy.S hs
  replace g_qlt := g_qlt.S hs
  replace g_qlf := g_qlf.S hs
  replace g_m_wkd := g_m_wkd.S hs
  replace g_m_aga := g_m_aga.S hs
  replace g_qwo := g_qwo.S hs
  replace g_m_ad := g_m_ad.S hs
  replace g_m_by := g_m_by.S hs
  replace g_m_ho := g_m_ho.S hs
  replace g_m_fc := g_m_fc.S hs
  replace g_m_nt := g_m_nt.S hs
  replace g_m_wt := g_m_wt.S hs
  replace g_m_be := g_m_be.S hs
  replace g_m_bor := g_m_bor.S hs
  replace g_m_kin := g_m_kin.S hs
  replace g_m_sum := g_m_sum.S hs
  replace g_m_fro := g_m_fro.S hs
  replace g_m_fil := g_m_fil.S hs
  replace g_m_jud := g_m_jud.S hs
  replace g_m_ear := g_m_ear.S hs
  replace g_m_hds := g_m_hds.S hs
  replace g_m_ord := g_m_ord.S hs
  replace g_m_wkl := g_m_wkl.S hs
  replace g_m_owd := g_m_owd.S hs
  replace g_m_gds := g_m_gds.S hs
  replace g_m_szd := g_m_szd.S hs
  replace g_m_srv := g_m_srv.S hs
  replace g_y_p0 := g_y_p0.S hs
  replace g_m_p0 := g_m_p0.S hs
  replace g_y_p1 := g_y_p1.S hs
  replace g_m_p1 := g_m_p1.S hs
  replace g_y_p2 := g_y_p2.S hs
  replace g_m_p2 := g_m_p2.S hs
  replace g_y_p3 := g_y_p3.S hs
  replace g_m_p3 := g_m_p3.S hs
  replace g_y_p4 := g_y_p4.S hs
  replace g_m_p4 := g_m_p4.S hs
  replace g_qrg9 := g_qrg9.S hs
  replace g_y_ls := g_y_ls.S hs
  replace g_m_rl := g_m_rl.S hs
  replace g_y_pc := g_y_pc.S hs
  replace g_m_pc := g_m_pc.S hs
  replace g_y_pw := g_y_pw.S hs
  replace g_m_pw := g_m_pw.S hs
  replace g_y_pk := g_y_pk.S hs
  replace g_m_pk := g_m_pk.S hs
  refine lv_pop hx hb dL_law_1319 rfl ?_
  refine lv_goto (tgt := 1379) hx hb dL_law_1320 ?o46 ?_
  case o46 => decide
  refine W.widen (k := CC + 3) (n := SS + 179) ?o47 ?o48 ?_
  case o47 => omega
  case o48 => omega
  refine kk L_904 h_905 H locs ls hW ⟨hT, gx, gm, ⟨f_x_now.trans f_m_now.symm, f_x_personCount.trans f_m_persons.symm, f_x_claimCount.trans f_m_claims.symm, f_x_tapeLength.trans f_m_taped.symm, f_x_actCount.trans f_m_acts.symm, f_x_heardCount.trans f_m_heardMany.symm, hx_ob f_qo_ln (f_o_ln.trans f_m_lines.symm), hx_ob f_qw (f_o_lsd.trans f_m_listed.symm), hx_ob f_qw (f_o_wkm.trans f_m_walkedMany.symm), hx_ob f_qo_py (f_o_py.trans f_m_payments.symm), hx_ob f_qo_pmn (f_o_pmn.trans f_m_planMany.symm), hx_ob f_qp ?o49, hx_ob f_qc ?o50, (fun b a r hb ha hr => ?o51), (fun b a r hb ha hr => ?o52), (fun b a r hb ha hr => ?o53), (fun b a r hb ha hr => ?o54), (fun b a r hb ha hr => ?o55), (fun b a r hb ha hr => ?o56), (fun w q c hw hq hc => ?o57), (fun w q r hw hq hr => ?o58), (fun w q r hw hq hr => ?o59), (fun c q a hc hq ha => ?o60), (fun q r hq hr => ?o61), (fun q w a b c d e p hq hw ha hb hc hd he hp => ?o62), (fun c q a hc hq ha => ?o63), (fun q c a hq hc ha => ?o64), (fun a b ha hb => ?o65), (fun c a b d e f hc ha hb hd he hf => ?o66), (fun c a hc ha => ?o67), hx_ob2 f_qp f_m_bor (cl_bor.trans n_bor.symm), hx_ob2 f_qp f_m_kin (cl_kin.trans n_kin.symm), hx_ob2 f_qc f_m_sum (cl_sum.trans n_sum.symm), hx_ob2 f_qc f_m_fro (cl_fro.trans n_fro.symm), hx_ob2 f_qc f_m_fil (cl_fil.trans n_fil.symm), hx_ob2 f_qc f_mh (cl_hea.trans n_mh.symm), hx_ob2 f_qc f_m_jud (cl_jud.trans n_jud.symm), hx_ob2 f_qp f_m_ear (cl_ear.trans n_ear.symm), hx_ob2 f_qp f_m_hds (cl_hds.trans n_hds.symm), hx_ob2 f_qc f_m_ord (cl_ord.trans n_ord.symm), hx_ob2 f_qc f_m_wkl (cl_wkl.trans n_wkl.symm), hx_ob2 f_qc f_m_owd (cl_owd.trans n_owd.symm), hx_ob2 f_qc f_m_gds (cl_gds.trans n_gds.symm), hx_ob2 f_qc f_m_szd (cl_szd.trans n_szd.symm), hx_ob2 f_qc f_m_srv (cl_srv.trans n_srv.symm), (fun p q r hp hq hr => ?o68), (fun p q r hp hq hr => ?o69), (fun p q r hp hq hr => ?o70), (fun p q r hp hq hr => ?o71), (fun p q r hp hq hr => ?o72), (fun p hp => ?o73), (fun p q r hp hq hr => ?o74), (fun p a b c d e f hp ha hb hc hd he hf => ?o75), hx_ob2 f_qp f_m_dead ?o76, hx_ob2 f_qp f_m_isj ?o77, hx_ob2 f_qp f_m_dox ?o78, hx_ob2 f_qp f_m_doy ?o79, hx_ob2 f_qc f_m_fou ?o80, hx_ob2 f_qc f_mt ?o81, trivial⟩, ⟨hx_ob f_qa pf_qa, hx_ob f_qp pf_qp, hx_ob f_qc pf_qc, hx_ob f_qh pf_qh, (fun w q hw hq => ?o82)⟩, ⟨hx_ob f_mw ?o83, hx_ob f_mr ?o84, hx_ob2 f_mp f_mn ?o85, hx_ob f_ml ?o86, hx_ob f_mh ?o87, hx_ob f_mt ?o88, hx_ob2 f_mh f_m_fou ?o90⟩⟩ hl
  case o49 =>
    rw [f_x_personCount]
    exact nu_qp
  case o50 =>
    rw [f_x_claimCount]
    exact nu_qc
  case o51 =>
    obtain rfl : qo_ln = b := Option.some.inj (f_qo_ln.symm.trans hb)
    obtain rfl : b_of = a := Option.some.inj (f_b_of.symm.trans ha)
    obtain rfl : m_of = r := Option.some.inj (f_m_of.symm.trans hr)
    rw [n_b_of, n_m_of, f_o_ln]
    exact eb_of
  case o52 =>
    obtain rfl : qo_ln = b := Option.some.inj (f_qo_ln.symm.trans hb)
    obtain rfl : b_wf = a := Option.some.inj (f_b_wf.symm.trans ha)
    obtain rfl : m_wf = r := Option.some.inj (f_m_wf.symm.trans hr)
    rw [n_b_wf, n_m_wf, f_o_ln]
    exact eb_wf
  case o53 =>
    obtain rfl : qo_ln = b := Option.some.inj (f_qo_ln.symm.trans hb)
    obtain rfl : b_df = a := Option.some.inj (f_b_df.symm.trans ha)
    obtain rfl : m_df = r := Option.some.inj (f_m_df.symm.trans hr)
    rw [n_b_df, n_m_df, f_o_ln]
    exact eb_df
  case o54 =>
    obtain rfl : qo_ln = b := Option.some.inj (f_qo_ln.symm.trans hb)
    obtain rfl : b_kf = a := Option.some.inj (f_b_kf.symm.trans ha)
    obtain rfl : m_kf = r := Option.some.inj (f_m_kf.symm.trans hr)
    rw [n_b_kf, n_m_kf, f_o_ln]
    exact eb_kf
  case o55 =>
    obtain rfl : qo_ln = b := Option.some.inj (f_qo_ln.symm.trans hb)
    obtain rfl : b_sf = a := Option.some.inj (f_b_sf.symm.trans ha)
    obtain rfl : m_sf = r := Option.some.inj (f_m_sf.symm.trans hr)
    rw [n_b_sf, n_m_sf, f_o_ln]
    exact eb_sf
  case o56 =>
    obtain rfl : qo_ln = b := Option.some.inj (f_qo_ln.symm.trans hb)
    obtain rfl : b_df = a := Option.some.inj (f_b_df.symm.trans ha)
    obtain rfl : b_bf = r := Option.some.inj (f_b_bf.symm.trans hr)
    rw [n_b_df, n_b_bf, f_o_ln]
    exact ⟨hBD, hDY⟩
  case o57 =>
    obtain rfl : qw = w := Option.some.inj (f_qw.symm.trans hw)
    obtain rfl : ql = q := Option.some.inj (f_ql.symm.trans hq)
    obtain rfl : qc = c := Option.some.inj (f_qc.symm.trans hc)
    exact sb_list
  case o58 =>
    obtain rfl : qw = w := Option.some.inj (f_qw.symm.trans hw)
    obtain rfl : ql = q := Option.some.inj (f_ql.symm.trans hq)
    obtain rfl : m_lst = r := Option.some.inj (f_m_lst.symm.trans hr)
    rw [cl_lst, n_lst]
    exact eq_lst
  case o59 =>
    obtain rfl : qw = w := Option.some.inj (f_qw.symm.trans hw)
    obtain rfl : qlt = q := Option.some.inj (f_qlt.symm.trans hq)
    obtain rfl : m_wkd = r := Option.some.inj (f_m_wkd.symm.trans hr)
    rw [n_qlt, n_m_wkd, f_o_wkm]
    exact eb_wkd
  case o60 =>
    obtain rfl : qc = c := Option.some.inj (f_qc.symm.trans hc)
    obtain rfl : qp = q := Option.some.inj (f_qp.symm.trans hq)
    obtain rfl : m_aga = a := Option.some.inj (f_m_aga.symm.trans ha)
    rw [n_aga, f_x_claimCount]
    exact hw_DF_e hDF rfl rfl
  case o61 =>
    obtain rfl : qtp = q := Option.some.inj (f_qtp.symm.trans hq)
    obtain rfl : m_tp = r := Option.some.inj (f_m_tp.symm.trans hr)
    exact n_qtp.trans n_tp.symm
  case o62 =>
    obtain rfl : qa = q := Option.some.inj (f_qa.symm.trans hq)
    obtain rfl : qwo = w := Option.some.inj (f_qwo.symm.trans hw)
    obtain rfl : m_ad = a := Option.some.inj (f_m_ad.symm.trans ha)
    obtain rfl : mr = b := Option.some.inj (f_mr.symm.trans hb)
    obtain rfl : mn = c := Option.some.inj (f_mn.symm.trans hc)
    obtain rfl : mp = d := Option.some.inj (f_mp.symm.trans hd)
    obtain rfl : qc = e := Option.some.inj (f_qc.symm.trans he)
    obtain rfl : ml = p := Option.some.inj (f_ml.symm.trans hp)
    exact ⟨_, by rw [f_x_actCount]; exact hRA9, by rw [f_x_actCount, n_ad, n_mr, n_mn, n_mp]; exact hCA9, by rw [n_ml, f_x_claimCount]; exact hv_AC_e hAC9 rfl rfl rfl, hAB⟩
  case o63 =>
    obtain rfl : qc = c := Option.some.inj (f_qc.symm.trans hc)
    obtain rfl : qp = q := Option.some.inj (f_qp.symm.trans hq)
    obtain rfl : m_by = a := Option.some.inj (f_m_by.symm.trans ha)
    rw [n_by, f_x_claimCount]
    exact hw_DF_e hDP rfl rfl
  case o64 =>
    obtain rfl : qh = q := Option.some.inj (f_qh.symm.trans hq)
    obtain rfl : qc = c := Option.some.inj (f_qc.symm.trans hc)
    obtain rfl : m_ho = a := Option.some.inj (f_m_ho.symm.trans ha)
    rw [n_ho, f_x_heardCount, f_x_claimCount]
    exact hv_HL_e hHL rfl rfl rfl
  case o65 =>
    obtain rfl : m_ho = a := Option.some.inj (f_m_ho.symm.trans ha)
    obtain rfl : mh = b := Option.some.inj (f_mh.symm.trans hb)
    rw [n_ho, n_mh, f_m_heardMany, f_m_claims]
    exact hHO9
  case o66 =>
    obtain rfl : qc = c := Option.some.inj (f_qc.symm.trans hc)
    obtain rfl : m_fc = a := Option.some.inj (f_m_fc.symm.trans ha)
    obtain rfl : m_nt = b := Option.some.inj (f_m_nt.symm.trans hb)
    obtain rfl : m_wt = d := Option.some.inj (f_m_wt.symm.trans hd)
    obtain rfl : m_sum = e := Option.some.inj (f_m_sum.symm.trans he)
    obtain rfl : mh = f := Option.some.inj (f_mh.symm.trans hf)
    exact ⟨cF9L, by rw [f_x_claimCount]; exact hFX, by rw [n_fc, n_nt, n_wt, n_sum, n_mh, f_x_claimCount]; exact hFR9⟩
  case o67 =>
    obtain rfl : qc = c := Option.some.inj (f_qc.symm.trans hc)
    obtain rfl : m_be = a := Option.some.inj (f_m_be.symm.trans ha)
    rw [n_be, f_x_claimCount]
    exact hv_FX_e hBX rfl rfl
  case o68 =>
    obtain rfl : qo_py = p := Option.some.inj (f_qo_py.symm.trans hp)
    obtain rfl : y_p0 = q := Option.some.inj (f_y_p0.symm.trans hq)
    obtain rfl : m_p0 = r := Option.some.inj (f_m_p0.symm.trans hr)
    exact n_y_p0.trans n_p0.symm
  case o69 =>
    obtain rfl : qo_py = p := Option.some.inj (f_qo_py.symm.trans hp)
    obtain rfl : y_p1 = q := Option.some.inj (f_y_p1.symm.trans hq)
    obtain rfl : m_p1 = r := Option.some.inj (f_m_p1.symm.trans hr)
    exact n_y_p1.trans n_p1.symm
  case o70 =>
    obtain rfl : qo_py = p := Option.some.inj (f_qo_py.symm.trans hp)
    obtain rfl : y_p2 = q := Option.some.inj (f_y_p2.symm.trans hq)
    obtain rfl : m_p2 = r := Option.some.inj (f_m_p2.symm.trans hr)
    exact n_y_p2.trans n_p2.symm
  case o71 =>
    obtain rfl : qo_py = p := Option.some.inj (f_qo_py.symm.trans hp)
    obtain rfl : y_p3 = q := Option.some.inj (f_y_p3.symm.trans hq)
    obtain rfl : m_p3 = r := Option.some.inj (f_m_p3.symm.trans hr)
    exact n_y_p3.trans n_p3.symm
  case o72 =>
    obtain rfl : qo_py = p := Option.some.inj (f_qo_py.symm.trans hp)
    obtain rfl : y_p4 = q := Option.some.inj (f_y_p4.symm.trans hq)
    obtain rfl : m_p4 = r := Option.some.inj (f_m_p4.symm.trans hr)
    exact n_y_p4.trans n_p4.symm
  case o73 =>
    obtain rfl : qrg9 = p := Option.some.inj (f_qrg9.symm.trans hp)
    rw [ffv_887, ffv_888, ffv_889]
    exact hNQ9
  case o74 =>
    obtain rfl : qrg9 = p := Option.some.inj (f_qrg9.symm.trans hp)
    obtain rfl : y_ls = q := Option.some.inj (f_y_ls.symm.trans hq)
    obtain rfl : m_rl = r := Option.some.inj (f_m_rl.symm.trans hr)
    rw [n_y_ls, n_m_rl, ffv_887]
    exact hRL9
  case o75 =>
    obtain rfl : qo_pmn = p := Option.some.inj (f_qo_pmn.symm.trans hp)
    obtain rfl : y_pc = a := Option.some.inj (f_y_pc.symm.trans ha)
    obtain rfl : y_pw = b := Option.some.inj (f_y_pw.symm.trans hb)
    obtain rfl : y_pk = c := Option.some.inj (f_y_pk.symm.trans hc)
    obtain rfl : m_pc = d := Option.some.inj (f_m_pc.symm.trans hd)
    obtain rfl : m_pw = e := Option.some.inj (f_m_pw.symm.trans he)
    obtain rfl : m_pk = f := Option.some.inj (f_m_pk.symm.trans hf)
    rw [n_y_pc, n_y_pw, n_y_pk, n_m_pc, n_m_pw, n_m_pk, f_o_pmn]
    exact hEA9
  case o76 =>
    rw [cl_dead, n_dead]
    exact eq_dead
  case o77 =>
    rw [cl_isj, n_isj]
    exact eq_isj
  case o78 =>
    rw [cl_dox, n_dox]
    exact eq_dox
  case o79 =>
    rw [cl_doy, n_doy]
    exact eq_doy
  case o80 =>
    rw [cl_fou, n_m_fou]
    exact eq_fou
  case o81 =>
    rw [cl_tri, n_mt]
    exact eq_tri
  case o82 =>
    obtain rfl : qw = w := Option.some.inj (f_qw.symm.trans hw)
    obtain rfl : ql = q := Option.some.inj (f_ql.symm.trans hq)
    exact pf_ql
  case o83 =>
    rw [n_mw]
    exact hwd
  case o84 =>
    rw [n_mr, f_m_acts]
    exact hWK
  case o85 =>
    rw [n_mp, n_mn, f_m_acts]
    exact hRP
  case o86 =>
    rw [n_ml, f_m_claims, f_m_acts]
    exact hPL
  case o87 =>
    rw [n_mh, f_m_heardMany, f_m_claims]
    exact hHC
  case o88 =>
    rw [n_mt]
    refine (hx_TR_le hTR ?o89)
    case o89 => omega
  case o90 =>
    rw [n_mh, n_m_fou, f_m_claims]
    exact hHF

set_option maxHeartbeats 4000000 in
set_option maxRecDepth 100000 in
theorem law_case_29 {p : Program} {e : Env} {s : State} {m : MethodId} {below : List Frame} {meth : Method} {c : Code} (l : Launch) {b LN : Nat} {xs : Nat → Int32} (hx : p.tables.exec = Jvm.exec) (hb : c.code = code) (hr : meth.sig.returnType = ret) (hlocks : meth.locks = false) (hml : c.maxLocals = 4) (hown : s.vm.findClass "SmallCourtLaw" = some m.cls) (hts : ∀ w ∈ hx_all, w.before #[Value.ref b] s = true) (hX : va_X b LN xs s s.heap) (hbl : b < s.heap.size) (hbA : ¬ s.heap.size ≤ b) (hLN : LN ≤ 3584) (dC : Nat → ClassId) (dI : Nat → Nat → Nat) (dA : Nat → ClassId) (b0 : hx_z) (ax am : Nat) (T1 : Int) (hT0 : 0 ≤ T1) (hT1 : T1 ≤ 511) (i : Int32) (hi0 : 0 ≤ i.toInt) (hiL : i.toInt + 7 ≤ LN) (CC SS : Nat) (hCC : CC + 3 ≤ 600000) (hSS : SS + 179 ≤ 7302250) (L1 : List Nat) (hl1 : hx_h) (H : Heap) (locs : List Loc) (ls : Array Slot) (hW : hx_W T_tb (P_ty dA) (dC, dI) vwCl (fun q : Nat => s.heap.size ≤ q) s.heap L1 hl1 s H locs) (hZ : hx_Xt (fun q : Nat => s.heap.size ≤ q) b0 s) (hI : hx_IV T1 ax am L1 hl1) (hl : lv_has ls 4 [(3, .int i), (2, .ref am), (1, .ref ax), (0, .ref b)]) (kk : ∀ (L2 : List Nat) (h2 : hx_h) (H2 : Heap) (locs2 : List Loc) (ls2 : Array Slot), hx_W T_tb (P_ty dA) (dC, dI) vwCl (fun q : Nat => s.heap.size ≤ q) s.heap L2 h2 s H2 locs2 → hx_IV (T1 + 1) ax am L2 h2 → lv_has ls2 4 [(3, .int i), (2, .ref am), (1, .ref ax), (0, .ref b)] → W p l e room_1 s m #[Value.ref b] below meth c H2 locs2 (CC + 3) (SS + 179) (lw_Z below #[Value.ref b] s) (F0 m 1379 ls2 [])) : W p l e room_1 s m #[Value.ref b] below meth c H locs CC SS (lw_Z below #[Value.ref b] s) (F0 m 1323 ls []) := by
  have hI9 := hI
  have hT := hI9.1
  replace hI9 := hI9.2
  have gx := hI9.1
  replace hI9 := hI9.2
  have gm := hI9.1
  replace hI9 := hI9.2
  have zq0_3 := hI9.1
  have he_nw := zq0_3.1
  replace zq0_3 := zq0_3.2
  have he_np := zq0_3.1
  replace zq0_3 := zq0_3.2
  have he_c0 := zq0_3.1
  replace zq0_3 := zq0_3.2
  have he_tl := zq0_3.1
  replace zq0_3 := zq0_3.2
  have he_a0 := zq0_3.1
  replace zq0_3 := zq0_3.2
  have he_m0 := zq0_3.1
  replace zq0_3 := zq0_3.2
  have ho_ln := zq0_3.1
  replace zq0_3 := zq0_3.2
  have ho_lsd := zq0_3.1
  replace zq0_3 := zq0_3.2
  have ho_wkm := zq0_3.1
  replace zq0_3 := zq0_3.2
  have ho_py := zq0_3.1
  replace zq0_3 := zq0_3.2
  have ho_pmn := zq0_3.1
  replace zq0_3 := zq0_3.2
  have hn_qp := zq0_3.1
  replace zq0_3 := zq0_3.2
  have hn_qc := zq0_3.1
  replace zq0_3 := zq0_3.2
  have hk_of := zq0_3.1
  replace zq0_3 := zq0_3.2
  have hk_wf := zq0_3.1
  replace zq0_3 := zq0_3.2
  have hk_df := zq0_3.1
  replace zq0_3 := zq0_3.2
  have hk_kf := zq0_3.1
  replace zq0_3 := zq0_3.2
  have hk_sf := zq0_3.1
  replace zq0_3 := zq0_3.2
  have hkBD := zq0_3.1
  replace zq0_3 := zq0_3.2
  have hLQ := zq0_3.1
  replace zq0_3 := zq0_3.2
  have hLE := zq0_3.1
  replace zq0_3 := zq0_3.2
  have hkWD := zq0_3.1
  replace zq0_3 := zq0_3.2
  have hkDF := zq0_3.1
  replace zq0_3 := zq0_3.2
  have hkTP := zq0_3.1
  replace zq0_3 := zq0_3.2
  have hkAC := zq0_3.1
  replace zq0_3 := zq0_3.2
  have hkDP := zq0_3.1
  replace zq0_3 := zq0_3.2
  have hkHL := zq0_3.1
  replace zq0_3 := zq0_3.2
  have hkHO := zq0_3.1
  replace zq0_3 := zq0_3.2
  have hkFX := zq0_3.1
  replace zq0_3 := zq0_3.2
  have hkBX := zq0_3.1
  replace zq0_3 := zq0_3.2
  have hf_bor := zq0_3.1
  replace zq0_3 := zq0_3.2
  have hf_kin := zq0_3.1
  replace zq0_3 := zq0_3.2
  have hf_sum := zq0_3.1
  replace zq0_3 := zq0_3.2
  have hf_fro := zq0_3.1
  replace zq0_3 := zq0_3.2
  have hf_fil := zq0_3.1
  replace zq0_3 := zq0_3.2
  have hf_hea := zq0_3.1
  replace zq0_3 := zq0_3.2
  have hf_jud := zq0_3.1
  replace zq0_3 := zq0_3.2
  have hf_ear := zq0_3.1
  replace zq0_3 := zq0_3.2
  have hf_hds := zq0_3.1
  replace zq0_3 := zq0_3.2
  have hf_ord := zq0_3.1
  replace zq0_3 := zq0_3.2
  have hf_wkl := zq0_3.1
  replace zq0_3 := zq0_3.2
  have hf_owd := zq0_3.1
  replace zq0_3 := zq0_3.2
  have hf_gds := zq0_3.1
  replace zq0_3 := zq0_3.2
  have hf_szd := zq0_3.1
  replace zq0_3 := zq0_3.2
  have hf_srv := zq0_3.1
  replace zq0_3 := zq0_3.2
  have hkP0 := zq0_3.1
  replace zq0_3 := zq0_3.2
  have hkP1 := zq0_3.1
  replace zq0_3 := zq0_3.2
  have hkP2 := zq0_3.1
  replace zq0_3 := zq0_3.2
  have hkP3 := zq0_3.1
  replace zq0_3 := zq0_3.2
  have hkP4 := zq0_3.1
  replace zq0_3 := zq0_3.2
  have hkNQ := zq0_3.1
  replace zq0_3 := zq0_3.2
  have hkRL := zq0_3.1
  replace zq0_3 := zq0_3.2
  have hkPG := zq0_3.1
  replace zq0_3 := zq0_3.2
  have hc_dead := zq0_3.1
  replace zq0_3 := zq0_3.2
  have hc_isj := zq0_3.1
  replace zq0_3 := zq0_3.2
  have hc_dox := zq0_3.1
  replace zq0_3 := zq0_3.2
  have hc_doy := zq0_3.1
  replace zq0_3 := zq0_3.2
  have hc_fou := zq0_3.1
  replace zq0_3 := zq0_3.2
  have hc_tri := zq0_3.1
  replace zq0_3 := zq0_3.2
  replace hI9 := hI9.2
  have zq0_4 := hI9.1
  have ia := zq0_4.1
  replace zq0_4 := zq0_4.2
  have ip := zq0_4.1
  replace zq0_4 := zq0_4.2
  have ic := zq0_4.1
  replace zq0_4 := zq0_4.2
  have ih := zq0_4.1
  replace zq0_4 := zq0_4.2
  have il := zq0_4
  replace hI9 := hI9.2
  have zq0_5 := hI9
  have jw := zq0_5.1
  replace zq0_5 := zq0_5.2
  have jr := zq0_5.1
  replace zq0_5 := zq0_5.2
  have jp := zq0_5.1
  replace zq0_5 := zq0_5.2
  have jl := zq0_5.1
  replace zq0_5 := zq0_5.2
  have jh := zq0_5.1
  replace zq0_5 := zq0_5.2
  have jt := zq0_5.1
  replace zq0_5 := zq0_5.2
  have jf := zq0_5
  obtain ⟨qa, f_qa, g_qa⟩ := hx_rf hT gx tt_9 (k := 5) (u := 43) rfl
  have pf_qa := ia qa f_qa
  obtain ⟨qp, f_qp, g_qp⟩ := hx_rf hT gx tt_9 (k := 7) (u := 44) rfl
  have pf_qp := ip qp f_qp
  obtain ⟨qc, f_qc, g_qc⟩ := hx_rf hT gx tt_9 (k := 10) (u := 45) rfl
  have pf_qc := ic qc f_qc
  obtain ⟨qh, f_qh, g_qh⟩ := hx_rf hT gx tt_9 (k := 12) (u := 46) rfl
  have pf_qh := ih qh f_qh
  obtain ⟨qw, f_qw, g_qw⟩ := hx_rf hT gx tt_9 (k := 19) (u := 8) rfl
  obtain ⟨ql, f_ql, g_ql⟩ := hx_rf hT g_qw tt_8 (k := 3) (u := 40) rfl
  have pf_ql := il qw ql f_qw f_ql
  obtain ⟨nw, f_m_now⟩ : ∃ y : Int32, hl1.2.1 am 0 = y := ⟨_, rfl⟩
  have b_nw := hT.gi gm tt_10 (k := 0) rfl
  rw [f_m_now] at b_nw
  have b_nw : 0 ≤ nw.toInt ∧ nw.toInt ≤ 7999 := b_nw
  obtain ⟨np, f_m_persons⟩ : ∃ y : Int32, hl1.2.1 am 20 = y := ⟨_, rfl⟩
  have b_np := hT.gi gm tt_10 (k := 20) rfl
  rw [f_m_persons] at b_np
  have b_np : 0 ≤ np.toInt ∧ np.toInt ≤ 40 := b_np
  obtain ⟨c0, f_m_claims⟩ : ∃ y : Int32, hl1.2.1 am 36 = y := ⟨_, rfl⟩
  have b_c0 := hT.gi gm tt_10 (k := 36) rfl
  rw [f_m_claims] at b_c0
  have b_c0 : 0 ≤ c0.toInt ∧ c0.toInt ≤ 100 := b_c0
  obtain ⟨tl, f_m_taped⟩ : ∃ y : Int32, hl1.2.1 am 7 = y := ⟨_, rfl⟩
  have b_tl := hT.gi gm tt_10 (k := 7) rfl
  rw [f_m_taped] at b_tl
  have b_tl : 0 ≤ tl.toInt ∧ tl.toInt ≤ 400 := b_tl
  obtain ⟨a0, f_m_acts⟩ : ∃ y : Int32, hl1.2.1 am 1 = y := ⟨_, rfl⟩
  have b_a0 := hT.gi gm tt_10 (k := 1) rfl
  rw [f_m_acts] at b_a0
  have b_a0 : 0 ≤ a0.toInt ∧ a0.toInt ≤ 8 := b_a0
  obtain ⟨m0, f_m_heardMany⟩ : ∃ y : Int32, hl1.2.1 am 57 = y := ⟨_, rfl⟩
  have b_m0 := hT.gi gm tt_10 (k := 57) rfl
  rw [f_m_heardMany] at b_m0
  have b_m0 : 0 ≤ m0.toInt ∧ m0.toInt ≤ 100 := b_m0
  obtain ⟨ln, f_m_lines⟩ : ∃ y : Int32, hl1.2.1 am 29 = y := ⟨_, rfl⟩
  have b_ln := hT.gi gm tt_10 (k := 29) rfl
  rw [f_m_lines] at b_ln
  have b_ln : 0 ≤ ln.toInt ∧ ln.toInt ≤ 400 := b_ln
  obtain ⟨lsd, f_m_listed⟩ : ∃ y : Int32, hl1.2.1 am 90 = y := ⟨_, rfl⟩
  have b_lsd := hT.gi gm tt_10 (k := 90) rfl
  rw [f_m_listed] at b_lsd
  have b_lsd : 0 ≤ lsd.toInt ∧ lsd.toInt ≤ 8 := b_lsd
  obtain ⟨wkm, f_m_walkedMany⟩ : ∃ y : Int32, hl1.2.1 am 92 = y := ⟨_, rfl⟩
  have b_wkm := hT.gi gm tt_10 (k := 92) rfl
  rw [f_m_walkedMany] at b_wkm
  have b_wkm : 0 ≤ wkm.toInt ∧ wkm.toInt ≤ 8 := b_wkm
  obtain ⟨py, f_m_payments⟩ : ∃ y : Int32, hl1.2.1 am 59 = y := ⟨_, rfl⟩
  have b_py := hT.gi gm tt_10 (k := 59) rfl
  rw [f_m_payments] at b_py
  have b_py : 0 ≤ py.toInt ∧ py.toInt ≤ 600 := b_py
  obtain ⟨pmn, f_m_planMany⟩ : ∃ y : Int32, hl1.2.1 am 72 = y := ⟨_, rfl⟩
  have b_pmn := hT.gi gm tt_10 (k := 72) rfl
  rw [f_m_planMany] at b_pmn
  have b_pmn : 0 ≤ pmn.toInt ∧ pmn.toInt ≤ 4 := b_pmn
  have f_x_now : hl1.2.1 ax 2 = nw := he_nw.trans f_m_now
  have f_x_personCount : hl1.2.1 ax 8 = np := he_np.trans f_m_persons
  have f_x_claimCount : hl1.2.1 ax 11 = c0 := he_c0.trans f_m_claims
  have f_x_tapeLength : hl1.2.1 ax 1 = tl := he_tl.trans f_m_taped
  have f_x_actCount : hl1.2.1 ax 6 = a0 := he_a0.trans f_m_acts
  have f_x_heardCount : hl1.2.1 ax 13 = m0 := he_m0.trans f_m_heardMany
  obtain ⟨mw, f_mw, g_mw⟩ := hx_rf hT gm tt_10 (k := 19) (u := 57) rfl
  obtain ⟨F_mw, n_mw⟩ : ∃ g : Nat → Int32, hl1.2.1 mw = g := ⟨_, rfl⟩
  obtain ⟨mr, f_mr, g_mr⟩ := hx_rf hT gm tt_10 (k := 3) (u := 50) rfl
  obtain ⟨F_mr, n_mr⟩ : ∃ g : Nat → Int32, hl1.2.1 mr = g := ⟨_, rfl⟩
  obtain ⟨mp, f_mp, g_mp⟩ := hx_rf hT gm tt_10 (k := 5) (u := 52) rfl
  obtain ⟨F_mp, n_mp⟩ : ∃ g : Nat → Int32, hl1.2.1 mp = g := ⟨_, rfl⟩
  obtain ⟨mn, f_mn, g_mn⟩ := hx_rf hT gm tt_10 (k := 4) (u := 51) rfl
  obtain ⟨F_mn, n_mn⟩ : ∃ g : Nat → Int32, hl1.2.1 mn = g := ⟨_, rfl⟩
  obtain ⟨ml, f_ml, g_ml⟩ := hx_rf hT gm tt_10 (k := 44) (u := 79) rfl
  obtain ⟨F_ml, n_ml⟩ : ∃ g : Nat → Int32, hl1.2.1 ml = g := ⟨_, rfl⟩
  obtain ⟨mh, f_mh, g_mh⟩ := hx_rf hT gm tt_10 (k := 47) (u := 82) rfl
  obtain ⟨F_mh, n_mh⟩ : ∃ g : Nat → Int32, hl1.2.1 mh = g := ⟨_, rfl⟩
  obtain ⟨mt, f_mt, g_mt⟩ := hx_rf hT gm tt_10 (k := 45) (u := 80) rfl
  obtain ⟨F_mt, n_mt⟩ : ∃ g : Nat → Int32, hl1.2.1 mt = g := ⟨_, rfl⟩
  obtain ⟨m_fou, f_m_fou, g_m_fou⟩ := hx_rf hT gm tt_10 (k := 46) (u := 81) rfl
  obtain ⟨F_m_fou, n_m_fou⟩ : ∃ g : Nat → Int32, hl1.2.1 m_fou = g := ⟨_, rfl⟩
  obtain ⟨qo_ln, f_qo_ln, g_qo_ln⟩ := hx_rf hT gx tt_9 (k := 9) (u := 1) rfl
  have f_o_ln : hl1.2.1 qo_ln 0 = ln := (ho_ln qo_ln f_qo_ln).trans f_m_lines
  have f_o_lsd : hl1.2.1 qw 0 = lsd := (ho_lsd qw f_qw).trans f_m_listed
  have f_o_wkm : hl1.2.1 qw 1 = wkm := (ho_wkm qw f_qw).trans f_m_walkedMany
  obtain ⟨qo_py, f_qo_py, g_qo_py⟩ := hx_rf hT gx tt_9 (k := 14) (u := 3) rfl
  have f_o_py : hl1.2.1 qo_py 0 = py := (ho_py qo_py f_qo_py).trans f_m_payments
  obtain ⟨qo_pmn, f_qo_pmn, g_qo_pmn⟩ := hx_rf hT gx tt_9 (k := 17) (u := 5) rfl
  have f_o_pmn : hl1.2.1 qo_pmn 1 = pmn := (ho_pmn qo_pmn f_qo_pmn).trans f_m_planMany
  have nu_qp := hn_qp qp f_qp; rw [f_x_personCount] at nu_qp
  have nu_qc := hn_qc qc f_qc; rw [f_x_claimCount] at nu_qc
  obtain ⟨b_of, f_b_of, g_b_of⟩ := hx_rf hT g_qo_ln tt_1 (k := 1) (u := 13) rfl
  obtain ⟨B_of, n_b_of⟩ : ∃ g : Nat → Int32, hl1.2.1 b_of = g := ⟨_, rfl⟩
  obtain ⟨m_of, f_m_of, g_m_of⟩ := hx_rf hT gm tt_10 (k := 30) (u := 66) rfl
  obtain ⟨F_of, n_m_of⟩ : ∃ g : Nat → Int32, hl1.2.1 m_of = g := ⟨_, rfl⟩
  have eb_of := hk_of qo_ln b_of m_of f_qo_ln f_b_of f_m_of; rw [n_b_of, n_m_of, f_o_ln] at eb_of
  obtain ⟨b_wf, f_b_wf, g_b_wf⟩ := hx_rf hT g_qo_ln tt_1 (k := 2) (u := 14) rfl
  obtain ⟨B_wf, n_b_wf⟩ : ∃ g : Nat → Int32, hl1.2.1 b_wf = g := ⟨_, rfl⟩
  obtain ⟨m_wf, f_m_wf, g_m_wf⟩ := hx_rf hT gm tt_10 (k := 31) (u := 67) rfl
  obtain ⟨F_wf, n_m_wf⟩ : ∃ g : Nat → Int32, hl1.2.1 m_wf = g := ⟨_, rfl⟩
  have eb_wf := hk_wf qo_ln b_wf m_wf f_qo_ln f_b_wf f_m_wf; rw [n_b_wf, n_m_wf, f_o_ln] at eb_wf
  obtain ⟨b_df, f_b_df, g_b_df⟩ := hx_rf hT g_qo_ln tt_1 (k := 3) (u := 15) rfl
  obtain ⟨B_df, n_b_df⟩ : ∃ g : Nat → Int32, hl1.2.1 b_df = g := ⟨_, rfl⟩
  obtain ⟨m_df, f_m_df, g_m_df⟩ := hx_rf hT gm tt_10 (k := 32) (u := 68) rfl
  obtain ⟨F_df, n_m_df⟩ : ∃ g : Nat → Int32, hl1.2.1 m_df = g := ⟨_, rfl⟩
  have eb_df := hk_df qo_ln b_df m_df f_qo_ln f_b_df f_m_df; rw [n_b_df, n_m_df, f_o_ln] at eb_df
  obtain ⟨b_kf, f_b_kf, g_b_kf⟩ := hx_rf hT g_qo_ln tt_1 (k := 4) (u := 16) rfl
  obtain ⟨B_kf, n_b_kf⟩ : ∃ g : Nat → Int32, hl1.2.1 b_kf = g := ⟨_, rfl⟩
  obtain ⟨m_kf, f_m_kf, g_m_kf⟩ := hx_rf hT gm tt_10 (k := 33) (u := 69) rfl
  obtain ⟨F_kf, n_m_kf⟩ : ∃ g : Nat → Int32, hl1.2.1 m_kf = g := ⟨_, rfl⟩
  have eb_kf := hk_kf qo_ln b_kf m_kf f_qo_ln f_b_kf f_m_kf; rw [n_b_kf, n_m_kf, f_o_ln] at eb_kf
  obtain ⟨b_sf, f_b_sf, g_b_sf⟩ := hx_rf hT g_qo_ln tt_1 (k := 5) (u := 17) rfl
  obtain ⟨B_sf, n_b_sf⟩ : ∃ g : Nat → Int32, hl1.2.1 b_sf = g := ⟨_, rfl⟩
  obtain ⟨m_sf, f_m_sf, g_m_sf⟩ := hx_rf hT gm tt_10 (k := 34) (u := 70) rfl
  obtain ⟨F_sf, n_m_sf⟩ : ∃ g : Nat → Int32, hl1.2.1 m_sf = g := ⟨_, rfl⟩
  have eb_sf := hk_sf qo_ln b_sf m_sf f_qo_ln f_b_sf f_m_sf; rw [n_b_sf, n_m_sf, f_o_ln] at eb_sf
  obtain ⟨b_bf, f_b_bf, g_b_bf⟩ := hx_rf hT g_qo_ln tt_1 (k := 6) (u := 18) rfl
  obtain ⟨bfL, n_b_bf⟩ : ∃ g : Nat → Int32, hl1.2.1 b_bf = g := ⟨_, rfl⟩
  obtain ⟨hBD, hDY⟩ := hkBD qo_ln b_df b_bf f_qo_ln f_b_df f_b_bf; rw [n_b_df, n_b_bf, f_o_ln] at hBD; rw [n_b_df, f_o_ln] at hDY
  have hBDm := hy_BD_c eb_df hBD
  have hDYm : hy_DY F_df ln.toInt.toNat := fun x hx => by rw [← eb_df x hx]; exact hDY x hx
  have sb_list := hLQ qw ql qc f_qw f_ql f_qc
  obtain ⟨m_lst, f_m_lst, g_m_lst⟩ := hx_rf hT gm tt_10 (k := 91) (u := 112) rfl
  obtain ⟨F_lst, n_lst⟩ : ∃ g : Nat → Int32, hl1.2.1 m_lst = g := ⟨_, rfl⟩
  obtain ⟨c_lst, cl_lst⟩ : ∃ g : Nat → Int32, hx_col 8 hl1 ql 0 = g := ⟨_, rfl⟩
  have eq_lst := hLE qw ql m_lst f_qw f_ql f_m_lst; rw [cl_lst, n_lst] at eq_lst
  obtain ⟨qtp, f_qtp, g_qtp⟩ := hx_rf hT gx tt_9 (k := 0) (u := 42) rfl
  obtain ⟨m_tp, f_m_tp, g_m_tp⟩ := hx_rf hT gm tt_10 (k := 6) (u := 53) rfl
  obtain ⟨F_tp, n_tp⟩ : ∃ g : Nat → Int32, hl1.2.1 m_tp = g := ⟨_, rfl⟩
  have n_qtp : hl1.2.1 qtp = F_tp := (hkTP qtp m_tp f_qtp f_m_tp).trans n_tp
  obtain ⟨c_dead, cl_dead⟩ : ∃ g : Nat → Int32, hx_col 40 hl1 qp 7 = g := ⟨_, rfl⟩
  obtain ⟨m_dead, f_m_dead, g_m_dead⟩ := hx_rf hT gm tt_10 (k := 27) (u := 64) rfl
  obtain ⟨F_dead, n_dead⟩ : ∃ g : Nat → Int32, hl1.2.1 m_dead = g := ⟨_, rfl⟩
  have eq_dead := hc_dead qp m_dead f_qp f_m_dead; rw [cl_dead, n_dead] at eq_dead
  have z_dead : np.toInt.toNat < 40 → c_dead np.toInt.toNat = 0 := fun hj => hx_num_z nu_qp cl_dead hj ?o0
  case o0 => omega
  obtain ⟨c_isj, cl_isj⟩ : ∃ g : Nat → Int32, hx_col 40 hl1 qp 8 = g := ⟨_, rfl⟩
  obtain ⟨m_isj, f_m_isj, g_m_isj⟩ := hx_rf hT gm tt_10 (k := 28) (u := 65) rfl
  obtain ⟨F_isj, n_isj⟩ : ∃ g : Nat → Int32, hl1.2.1 m_isj = g := ⟨_, rfl⟩
  have eq_isj := hc_isj qp m_isj f_qp f_m_isj; rw [cl_isj, n_isj] at eq_isj
  have z_isj : np.toInt.toNat < 40 → c_isj np.toInt.toNat = 0 := fun hj => hx_num_z nu_qp cl_isj hj ?o1
  case o1 => omega
  obtain ⟨c_dox, cl_dox⟩ : ∃ g : Nat → Int32, hx_col 40 hl1 qp 5 = g := ⟨_, rfl⟩
  obtain ⟨m_dox, f_m_dox, g_m_dox⟩ := hx_rf hT gm tt_10 (k := 24) (u := 61) rfl
  obtain ⟨F_dox, n_dox⟩ : ∃ g : Nat → Int32, hl1.2.1 m_dox = g := ⟨_, rfl⟩
  have eq_dox := hc_dox qp m_dox f_qp f_m_dox; rw [cl_dox, n_dox] at eq_dox
  have z_dox : np.toInt.toNat < 40 → c_dox np.toInt.toNat = 0 := fun hj => hx_num_z nu_qp cl_dox hj ?o2
  case o2 => omega
  obtain ⟨c_doy, cl_doy⟩ : ∃ g : Nat → Int32, hx_col 40 hl1 qp 6 = g := ⟨_, rfl⟩
  obtain ⟨m_doy, f_m_doy, g_m_doy⟩ := hx_rf hT gm tt_10 (k := 25) (u := 62) rfl
  obtain ⟨F_doy, n_doy⟩ : ∃ g : Nat → Int32, hl1.2.1 m_doy = g := ⟨_, rfl⟩
  have eq_doy := hc_doy qp m_doy f_qp f_m_doy; rw [cl_doy, n_doy] at eq_doy
  have z_doy : np.toInt.toNat < 40 → c_doy np.toInt.toNat = 0 := fun hj => hx_num_z nu_qp cl_doy hj ?o3
  case o3 => omega
  obtain ⟨c_fou, cl_fou⟩ : ∃ g : Nat → Int32, hx_col 100 hl1 qc 10 = g := ⟨_, rfl⟩
  have eq_fou := hc_fou qc m_fou f_qc f_m_fou; rw [cl_fou, n_m_fou] at eq_fou
  have z_fou : c0.toInt.toNat < 100 → c_fou c0.toInt.toNat = 0 := fun hj => hx_num_z nu_qc cl_fou hj ?o4
  case o4 => omega
  obtain ⟨c_tri, cl_tri⟩ : ∃ g : Nat → Int32, hx_col 100 hl1 qc 9 = g := ⟨_, rfl⟩
  have eq_tri := hc_tri qc mt f_qc f_mt; rw [cl_tri, n_mt] at eq_tri
  have z_tri : c0.toInt.toNat < 100 → c_tri c0.toInt.toNat = 0 := fun hj => hx_num_z nu_qc cl_tri hj ?o5
  case o5 => omega
  obtain ⟨qlt, f_qlt, g_qlt⟩ := hx_rf hT g_qw tt_8 (k := 2) (u := 39) rfl
  obtain ⟨qlf, f_qlf, g_qlf⟩ := hx_rf hT g_qw tt_8 (k := 4) (u := 41) rfl
  obtain ⟨m_wkd, f_m_wkd, g_m_wkd⟩ := hx_rf hT gm tt_10 (k := 93) (u := 113) rfl
  obtain ⟨F_qlt, n_qlt⟩ : ∃ g : Nat → Int32, hl1.2.1 qlt = g := ⟨_, rfl⟩
  obtain ⟨F_m_wkd, n_m_wkd⟩ : ∃ g : Nat → Int32, hl1.2.1 m_wkd = g := ⟨_, rfl⟩
  have eb_wkd := hkWD qw qlt m_wkd f_qw f_qlt f_m_wkd; rw [n_qlt, n_m_wkd, f_o_wkm] at eb_wkd
  obtain ⟨m_aga, f_m_aga, g_m_aga⟩ := hx_rf hT gm tt_10 (k := 38) (u := 73) rfl
  obtain ⟨F_aga, n_aga⟩ : ∃ g : Nat → Int32, hl1.2.1 m_aga = g := ⟨_, rfl⟩
  have hDF := hkDF qc qp m_aga f_qc f_qp f_m_aga; rw [n_aga, f_x_claimCount] at hDF
  obtain ⟨qwo, f_qwo, g_qwo⟩ := hx_rf hT gx tt_9 (k := 4) (u := 0) rfl
  obtain ⟨m_ad, f_m_ad, g_m_ad⟩ := hx_rf hT gm tt_10 (k := 2) (u := 49) rfl
  obtain ⟨F_ad, n_ad⟩ : ∃ g : Nat → Int32, hl1.2.1 m_ad = g := ⟨_, rfl⟩
  obtain ⟨A9, hRA9, hCA9, hAC9, hAB⟩ := hkAC qa qwo m_ad mr mn mp qc ml f_qa f_qwo f_m_ad f_mr f_mn f_mp f_qc f_ml
  rw [f_x_actCount] at hRA9; rw [f_x_actCount, n_ad, n_mr, n_mn, n_mp] at hCA9
  obtain ⟨m_by, f_m_by, g_m_by⟩ := hx_rf hT gm tt_10 (k := 37) (u := 72) rfl
  obtain ⟨F_by, n_by⟩ : ∃ g : Nat → Int32, hl1.2.1 m_by = g := ⟨_, rfl⟩
  obtain ⟨m_ho, f_m_ho, g_m_ho⟩ := hx_rf hT gm tt_10 (k := 58) (u := 92) rfl
  obtain ⟨F_ho, n_ho⟩ : ∃ g : Nat → Int32, hl1.2.1 m_ho = g := ⟨_, rfl⟩
  obtain ⟨m_fc, f_m_fc, g_m_fc⟩ := hx_rf hT gm tt_10 (k := 53) (u := 88) rfl
  obtain ⟨F_fc, n_fc⟩ : ∃ g : Nat → Int32, hl1.2.1 m_fc = g := ⟨_, rfl⟩
  obtain ⟨m_nt, f_m_nt, g_m_nt⟩ := hx_rf hT gm tt_10 (k := 41) (u := 76) rfl
  obtain ⟨F_nt, n_nt⟩ : ∃ g : Nat → Int32, hl1.2.1 m_nt = g := ⟨_, rfl⟩
  obtain ⟨m_wt, f_m_wt, g_m_wt⟩ := hx_rf hT gm tt_10 (k := 42) (u := 77) rfl
  obtain ⟨F_wt, n_wt⟩ : ∃ g : Nat → Int32, hl1.2.1 m_wt = g := ⟨_, rfl⟩
  obtain ⟨m_be, f_m_be, g_m_be⟩ := hx_rf hT gm tt_10 (k := 52) (u := 87) rfl
  obtain ⟨F_be, n_be⟩ : ∃ g : Nat → Int32, hl1.2.1 m_be = g := ⟨_, rfl⟩
  obtain ⟨m_bor, f_m_bor, g_m_bor⟩ := hx_rf hT gm tt_10 (k := 21) (u := 58) rfl
  obtain ⟨F_bor, n_bor⟩ : ∃ g : Nat → Int32, hl1.2.1 m_bor = g := ⟨_, rfl⟩
  obtain ⟨m_kin, f_m_kin, g_m_kin⟩ := hx_rf hT gm tt_10 (k := 26) (u := 63) rfl
  obtain ⟨F_kin, n_kin⟩ : ∃ g : Nat → Int32, hl1.2.1 m_kin = g := ⟨_, rfl⟩
  obtain ⟨m_sum, f_m_sum, g_m_sum⟩ := hx_rf hT gm tt_10 (k := 39) (u := 74) rfl
  obtain ⟨F_sum, n_sum⟩ : ∃ g : Nat → Int32, hl1.2.1 m_sum = g := ⟨_, rfl⟩
  obtain ⟨m_fro, f_m_fro, g_m_fro⟩ := hx_rf hT gm tt_10 (k := 40) (u := 75) rfl
  obtain ⟨F_fro, n_fro⟩ : ∃ g : Nat → Int32, hl1.2.1 m_fro = g := ⟨_, rfl⟩
  obtain ⟨m_fil, f_m_fil, g_m_fil⟩ := hx_rf hT gm tt_10 (k := 43) (u := 78) rfl
  obtain ⟨F_fil, n_fil⟩ : ∃ g : Nat → Int32, hl1.2.1 m_fil = g := ⟨_, rfl⟩
  obtain ⟨m_jud, f_m_jud, g_m_jud⟩ := hx_rf hT gm tt_10 (k := 51) (u := 86) rfl
  obtain ⟨F_jud, n_jud⟩ : ∃ g : Nat → Int32, hl1.2.1 m_jud = g := ⟨_, rfl⟩
  obtain ⟨m_ear, f_m_ear, g_m_ear⟩ := hx_rf hT gm tt_10 (k := 22) (u := 59) rfl
  obtain ⟨F_ear, n_ear⟩ : ∃ g : Nat → Int32, hl1.2.1 m_ear = g := ⟨_, rfl⟩
  obtain ⟨m_hds, f_m_hds, g_m_hds⟩ := hx_rf hT gm tt_10 (k := 23) (u := 60) rfl
  obtain ⟨F_hds, n_hds⟩ : ∃ g : Nat → Int32, hl1.2.1 m_hds = g := ⟨_, rfl⟩
  obtain ⟨m_ord, f_m_ord, g_m_ord⟩ := hx_rf hT gm tt_10 (k := 48) (u := 83) rfl
  obtain ⟨F_ord, n_ord⟩ : ∃ g : Nat → Int32, hl1.2.1 m_ord = g := ⟨_, rfl⟩
  obtain ⟨m_wkl, f_m_wkl, g_m_wkl⟩ := hx_rf hT gm tt_10 (k := 54) (u := 89) rfl
  obtain ⟨F_wkl, n_wkl⟩ : ∃ g : Nat → Int32, hl1.2.1 m_wkl = g := ⟨_, rfl⟩
  obtain ⟨m_owd, f_m_owd, g_m_owd⟩ := hx_rf hT gm tt_10 (k := 55) (u := 90) rfl
  obtain ⟨F_owd, n_owd⟩ : ∃ g : Nat → Int32, hl1.2.1 m_owd = g := ⟨_, rfl⟩
  obtain ⟨m_gds, f_m_gds, g_m_gds⟩ := hx_rf hT gm tt_10 (k := 56) (u := 91) rfl
  obtain ⟨F_gds, n_gds⟩ : ∃ g : Nat → Int32, hl1.2.1 m_gds = g := ⟨_, rfl⟩
  obtain ⟨m_szd, f_m_szd, g_m_szd⟩ := hx_rf hT gm tt_10 (k := 49) (u := 84) rfl
  obtain ⟨F_szd, n_szd⟩ : ∃ g : Nat → Int32, hl1.2.1 m_szd = g := ⟨_, rfl⟩
  obtain ⟨m_srv, f_m_srv, g_m_srv⟩ := hx_rf hT gm tt_10 (k := 50) (u := 85) rfl
  obtain ⟨F_srv, n_srv⟩ : ∃ g : Nat → Int32, hl1.2.1 m_srv = g := ⟨_, rfl⟩
  have cl_bor : hx_col 40 hl1 qp 1 = F_bor := (hf_bor qp m_bor f_qp f_m_bor).trans n_bor
  have cl_kin : hx_col 40 hl1 qp 2 = F_kin := (hf_kin qp m_kin f_qp f_m_kin).trans n_kin
  have cl_sum : hx_col 100 hl1 qc 6 = F_sum := (hf_sum qc m_sum f_qc f_m_sum).trans n_sum
  have cl_fro : hx_col 100 hl1 qc 7 = F_fro := (hf_fro qc m_fro f_qc f_m_fro).trans n_fro
  have cl_fil : hx_col 100 hl1 qc 8 = F_fil := (hf_fil qc m_fil f_qc f_m_fil).trans n_fil
  have cl_hea : hx_col 100 hl1 qc 11 = F_mh := (hf_hea qc mh f_qc f_mh).trans n_mh
  have cl_jud : hx_col 100 hl1 qc 12 = F_jud := (hf_jud qc m_jud f_qc f_m_jud).trans n_jud
  have cl_ear : hx_col 40 hl1 qp 3 = F_ear := (hf_ear qp m_ear f_qp f_m_ear).trans n_ear
  have cl_hds : hx_col 40 hl1 qp 4 = F_hds := (hf_hds qp m_hds f_qp f_m_hds).trans n_hds
  have cl_ord : hx_col 100 hl1 qc 13 = F_ord := (hf_ord qc m_ord f_qc f_m_ord).trans n_ord
  have cl_wkl : hx_col 100 hl1 qc 14 = F_wkl := (hf_wkl qc m_wkl f_qc f_m_wkl).trans n_wkl
  have cl_owd : hx_col 100 hl1 qc 15 = F_owd := (hf_owd qc m_owd f_qc f_m_owd).trans n_owd
  have cl_gds : hx_col 100 hl1 qc 17 = F_gds := (hf_gds qc m_gds f_qc f_m_gds).trans n_gds
  have cl_szd : hx_col 100 hl1 qc 16 = F_szd := (hf_szd qc m_szd f_qc f_m_szd).trans n_szd
  have cl_srv : hx_col 100 hl1 qc 18 = F_srv := (hf_srv qc m_srv f_qc f_m_srv).trans n_srv
  have htb9 : ∀ c, c < 100 → 0 ≤ (c_tri c).toInt ∧ (c_tri c).toInt ≤ 512 := fun c hc => by rw [eq_tri c hc]; have w := hT.ei g_mt tt_80 (k := c) hc; rw [n_mt] at w; exact w
  have z_jud : F_jud c0.toInt.toNat = 0 := hx_num_z2 nu_qc cl_jud ?o6
  case o6 => omega
  have hDP := hkDP qc qp m_by f_qc f_qp f_m_by; rw [n_by, f_x_claimCount] at hDP
  have hHL := hkHL qh qc m_ho f_qh f_qc f_m_ho; rw [n_ho, f_x_heardCount, f_x_claimCount] at hHL
  have hHO9 := hkHO m_ho mh f_m_ho f_mh; rw [n_ho, n_mh, f_m_heardMany, f_m_claims] at hHO9
  obtain ⟨cF9L, hFX, hFR9⟩ := hkFX qc m_fc m_nt m_wt m_sum mh f_qc f_m_fc f_m_nt f_m_wt f_m_sum f_mh; rw [f_x_claimCount] at hFX; rw [n_fc, n_nt, n_wt, n_sum, n_mh, f_x_claimCount] at hFR9
  have hBX := hkBX qc m_be f_qc f_m_be; rw [n_be, f_x_claimCount] at hBX
  rw [n_ml, f_x_claimCount] at hAC9
  obtain ⟨y_p0, f_y_p0, g_y_p0⟩ := hx_rf hT g_qo_py tt_3 (k := 2) (u := 23) rfl
  obtain ⟨m_p0, f_m_p0, g_m_p0⟩ := hx_rf hT gm tt_10 (k := 60) (u := 93) rfl
  obtain ⟨F_p0, n_p0⟩ : ∃ g : Nat → Int32, hl1.2.1 m_p0 = g := ⟨_, rfl⟩
  have n_y_p0 : hl1.2.1 y_p0 = F_p0 := (hkP0 qo_py y_p0 m_p0 f_qo_py f_y_p0 f_m_p0).trans n_p0
  obtain ⟨y_p1, f_y_p1, g_y_p1⟩ := hx_rf hT g_qo_py tt_3 (k := 3) (u := 24) rfl
  obtain ⟨m_p1, f_m_p1, g_m_p1⟩ := hx_rf hT gm tt_10 (k := 61) (u := 94) rfl
  obtain ⟨F_p1, n_p1⟩ : ∃ g : Nat → Int32, hl1.2.1 m_p1 = g := ⟨_, rfl⟩
  have n_y_p1 : hl1.2.1 y_p1 = F_p1 := (hkP1 qo_py y_p1 m_p1 f_qo_py f_y_p1 f_m_p1).trans n_p1
  obtain ⟨y_p2, f_y_p2, g_y_p2⟩ := hx_rf hT g_qo_py tt_3 (k := 5) (u := 26) rfl
  obtain ⟨m_p2, f_m_p2, g_m_p2⟩ := hx_rf hT gm tt_10 (k := 62) (u := 95) rfl
  obtain ⟨F_p2, n_p2⟩ : ∃ g : Nat → Int32, hl1.2.1 m_p2 = g := ⟨_, rfl⟩
  have n_y_p2 : hl1.2.1 y_p2 = F_p2 := (hkP2 qo_py y_p2 m_p2 f_qo_py f_y_p2 f_m_p2).trans n_p2
  obtain ⟨y_p3, f_y_p3, g_y_p3⟩ := hx_rf hT g_qo_py tt_3 (k := 4) (u := 25) rfl
  obtain ⟨m_p3, f_m_p3, g_m_p3⟩ := hx_rf hT gm tt_10 (k := 63) (u := 96) rfl
  obtain ⟨F_p3, n_p3⟩ : ∃ g : Nat → Int32, hl1.2.1 m_p3 = g := ⟨_, rfl⟩
  have n_y_p3 : hl1.2.1 y_p3 = F_p3 := (hkP3 qo_py y_p3 m_p3 f_qo_py f_y_p3 f_m_p3).trans n_p3
  obtain ⟨y_p4, f_y_p4, g_y_p4⟩ := hx_rf hT g_qo_py tt_3 (k := 1) (u := 22) rfl
  obtain ⟨m_p4, f_m_p4, g_m_p4⟩ := hx_rf hT gm tt_10 (k := 64) (u := 97) rfl
  obtain ⟨F_p4, n_p4⟩ : ∃ g : Nat → Int32, hl1.2.1 m_p4 = g := ⟨_, rfl⟩
  have n_y_p4 : hl1.2.1 y_p4 = F_p4 := (hkP4 qo_py y_p4 m_p4 f_qo_py f_y_p4 f_m_p4).trans n_p4
  obtain ⟨qrg9, f_qrg9, g_qrg9⟩ := hx_rf hT gx tt_9 (k := 18) (u := 7) rfl
  obtain ⟨y_ls, f_y_ls, g_y_ls⟩ := hx_rf hT g_qrg9 tt_7 (k := 3) (u := 35) rfl
  obtain ⟨m_rl, f_m_rl, g_m_rl⟩ := hx_rf hT gm tt_10 (k := 85) (u := 109) rfl
  obtain ⟨F_y_ls, n_y_ls⟩ : ∃ g : Nat → Int32, hl1.2.1 y_ls = g := ⟨_, rfl⟩
  obtain ⟨F_m_rl, n_m_rl⟩ : ∃ g : Nat → Int32, hl1.2.1 m_rl = g := ⟨_, rfl⟩
  obtain ⟨fv_909, efv_909⟩ : ∃ y : Int32, y = hl1.2.1 qrg9 0 := ⟨_, rfl⟩
  have bfv_909 := hT.gi g_qrg9 tt_7 (k := 0) rfl
  rw [← efv_909] at bfv_909
  have bfv_909 : -1 ≤ fv_909.toInt ∧ fv_909.toInt ≤ 100 := bfv_909
  have ffv_909 := efv_909.symm
  obtain ⟨fv_910, efv_910⟩ : ∃ y : Int32, y = hl1.2.1 am 83 := ⟨_, rfl⟩
  have bfv_910 := hT.gi gm tt_10 (k := 83) rfl
  rw [← efv_910] at bfv_910
  have bfv_910 : 0 ≤ fv_910.toInt ∧ fv_910.toInt ≤ 1 := bfv_910
  have ffv_910 := efv_910.symm
  obtain ⟨fv_911, efv_911⟩ : ∃ y : Int32, y = hl1.2.1 am 84 := ⟨_, rfl⟩
  have bfv_911 := hT.gi gm tt_10 (k := 84) rfl
  rw [← efv_911] at bfv_911
  have bfv_911 : 0 ≤ fv_911.toInt ∧ fv_911.toInt ≤ 300 := bfv_911
  have ffv_911 := efv_911.symm
  have hNQ9 := hkNQ qrg9 f_qrg9; rw [ffv_909, ffv_910, ffv_911] at hNQ9
  have hRL9 := hkRL qrg9 y_ls m_rl f_qrg9 f_y_ls f_m_rl; rw [n_y_ls, n_m_rl, ffv_909] at hRL9
  have hCB : hz_CB F_ord F_wkl F_owd F_szd F_gds F_srv := fun c hc => ⟨by have w := hT.ei g_m_ord tt_83 (k := c) (by omega); rw [n_ord] at w; exact w, by have w := hT.ei g_m_wkl tt_89 (k := c) (by omega); rw [n_wkl] at w; exact w, by have w := hT.ei g_m_owd tt_90 (k := c) (by omega); rw [n_owd] at w; exact w, by have w := hT.ei g_m_szd tt_84 (k := c) (by omega); rw [n_szd] at w; exact w, by have w := hT.ei g_m_gds tt_91 (k := c) (by omega); rw [n_gds] at w; exact w, by have w := hT.ei g_m_srv tt_85 (k := c) (by omega); rw [n_srv] at w; exact w⟩
  have hps : ∀ j, j < 600 → 0 ≤ (F_p2 j).toInt ∧ (F_p2 j).toInt ≤ 610000 := fun j hj => by have w := hT.ei g_m_p2 tt_95 (k := j) (by omega); rw [n_p2] at w; exact w
  have hte9 : ∀ c : Nat, c < 100 → (0 ≤ (c_tri c).toInt ∧ (c_tri c).toInt ≤ 512) ∧ (0 ≤ (F_sum c).toInt ∧ (F_sum c).toInt ≤ 9999) := fun c hc => ⟨htb9 c hc, by have w := hT.ei g_m_sum tt_74 (k := c) (by omega); rw [n_sum] at w; exact w⟩
  have hee9 : ∀ c : Nat, c < 40 → (0 ≤ (F_ear c).toInt ∧ (F_ear c).toInt ≤ 9999) ∧ (0 ≤ (F_hds c).toInt ∧ (F_hds c).toInt ≤ 20) := fun c hc => ⟨by have w := hT.ei g_m_ear tt_59 (k := c) (by omega); rw [n_ear] at w; exact w, by have w := hT.ei g_m_hds tt_60 (k := c) (by omega); rw [n_hds] at w; exact w⟩
  have bAG9 : ∀ k, k < 100 → 0 ≤ (F_aga k).toInt ∧ (F_aga k).toInt ≤ 39 := fun k hk => by have w := hT.ei g_m_aga tt_73 (k := k) (by omega); rw [n_aga] at w; exact w
  have bBY9 : ∀ k, k < 100 → 0 ≤ (F_by k).toInt ∧ (F_by k).toInt ≤ 39 := fun k hk => by have w := hT.ei g_m_by tt_72 (k := k) (by omega); rw [n_by] at w; exact w
  have hag9 : ∀ c, c < c0.toInt.toNat → 0 ≤ (F_aga c).toInt ∧ (F_aga c).toInt < 40 ∧ 0 ≤ (F_by c).toInt ∧ (F_by c).toInt < 40 := fun c hc => by have a9 := bAG9 c (by omega); have b9 := bBY9 c (by omega); omega
  have z_wkl : F_wkl c0.toInt.toNat = 0 := hx_num_z2 nu_qc cl_wkl ?o7
  case o7 => omega
  have z_owd : F_owd c0.toInt.toNat = 0 := hx_num_z2 nu_qc cl_owd ?o8
  case o8 => omega
  have z_gds : F_gds c0.toInt.toNat = 0 := hx_num_z2 nu_qc cl_gds ?o9
  case o9 => omega
  obtain ⟨y_pc, f_y_pc, g_y_pc⟩ := hx_rf hT g_qo_pmn tt_5 (k := 2) (u := 27) rfl
  obtain ⟨m_pc, f_m_pc, g_m_pc⟩ := hx_rf hT gm tt_10 (k := 73) (u := 100) rfl
  obtain ⟨F_y_pc, n_y_pc⟩ : ∃ g : Nat → Int32, hl1.2.1 y_pc = g := ⟨_, rfl⟩
  obtain ⟨F_m_pc, n_m_pc⟩ : ∃ g : Nat → Int32, hl1.2.1 m_pc = g := ⟨_, rfl⟩
  obtain ⟨y_pw, f_y_pw, g_y_pw⟩ := hx_rf hT g_qo_pmn tt_5 (k := 3) (u := 28) rfl
  obtain ⟨m_pw, f_m_pw, g_m_pw⟩ := hx_rf hT gm tt_10 (k := 74) (u := 101) rfl
  obtain ⟨F_y_pw, n_y_pw⟩ : ∃ g : Nat → Int32, hl1.2.1 y_pw = g := ⟨_, rfl⟩
  obtain ⟨F_m_pw, n_m_pw⟩ : ∃ g : Nat → Int32, hl1.2.1 m_pw = g := ⟨_, rfl⟩
  obtain ⟨y_pk, f_y_pk, g_y_pk⟩ := hx_rf hT g_qo_pmn tt_5 (k := 4) (u := 29) rfl
  obtain ⟨m_pk, f_m_pk, g_m_pk⟩ := hx_rf hT gm tt_10 (k := 81) (u := 107) rfl
  obtain ⟨F_y_pk, n_y_pk⟩ : ∃ g : Nat → Int32, hl1.2.1 y_pk = g := ⟨_, rfl⟩
  obtain ⟨F_m_pk, n_m_pk⟩ : ∃ g : Nat → Int32, hl1.2.1 m_pk = g := ⟨_, rfl⟩
  have hEA9 := hkPG qo_pmn y_pc y_pw y_pk m_pc m_pw m_pk f_qo_pmn f_y_pc f_y_pw f_y_pk f_m_pc f_m_pw f_m_pk; rw [n_y_pc, n_y_pw, n_y_pk, n_m_pc, n_m_pw, n_m_pk, f_o_pmn] at hEA9
  have hrn9 : ∀ c : Nat, c < c0.toInt.toNat → 0 ≤ (hz_Rn F_ord F_szd F_gds F_owd F_srv (hz_rc A9 F_ml) F_p0 F_p1 F_p2 F_p3 F_p4 nw.toInt py.toInt.toNat) c ∧ (hz_Rn F_ord F_szd F_gds F_owd F_srv (hz_rc A9 F_ml) F_p0 F_p1 F_p2 F_p3 F_p4 nw.toInt py.toInt.toNat) c ≤ 609999 := fun c hc => hz_Rn_b hCB hps ?o10 ?o11 ((hAB _).1 12)
  case o10 => omega
  case o11 => omega
  have hwd := jw mw f_mw; rw [n_mw] at hwd
  have hWK := jr mr f_mr; rw [n_mr, f_m_acts] at hWK
  have hRP := jp mp mn f_mp f_mn; rw [n_mp, n_mn, f_m_acts] at hRP
  have hPL := jl ml f_ml; rw [n_ml, f_m_claims, f_m_acts] at hPL
  have hHC := jh mh f_mh; rw [n_mh, f_m_heardMany, f_m_claims] at hHC
  have hTR := jt mt f_mt; rw [n_mt] at hTR
  have hHF := jf mh m_fou f_mh f_m_fou; rw [n_mh, n_m_fou, f_m_claims] at hHF
  have hwk9 : ∀ c : Nat, c < c0.toInt.toNat → 1 ≤ (A9 (F_ml c).toInt.toNat).2.1 2 := fun c hc => by have p9 := hPL (c : Int) (by omega) (by omega); rw [Int.toNat_natCast] at p9; obtain ⟨_, h29, _⟩ := hCA9.2 (F_ml c).toInt.toNat (by omega); rw [← h29]; show 1 ≤ (if 2 < 13 then _ else 0); rw [if_pos (by decide)]; exact (hWK (F_ml c).toInt p9.1 p9.2).1
  refine lv_aload_n hx hb dL_law_1323 rfl (lv_at hl 2 rfl) ?_
  refine lv_aload_n hx hb dL_law_1324 rfl (lv_at hl 3 rfl) ?_
  refine lv_iload_n hx hb dL_law_1325 rfl (lv_at hl 0 rfl) ?_
  refine lv_iconst (v := 1) hx hb dL_law_1326 ?o12 ?_
  case o12 => decide
  refine lv_iadd hx hb dL_law_1327 ?_
  have rg_912 := i32_r i
  refine lv_topi (fun x_913 ex_913 => ?_)
  have zx_913 : x_913.toInt = i.toInt + 1 := ?o13
  case o13 =>
    rw [ex_913]
    refine i32_add rfl ?o14 ?o15 ?o16
    case o14 => decide
    case o15 => omega
    case o16 => omega
  refine va_sld hx hb hX hbl hbA hW.2.2.2.1 (vp_in_iff.mpr ⟨?o17, ?o18⟩) dL_law_1328 ?_
  case o17 => omega
  case o18 => omega
  refine lv_topi (fun x_914 ex_914 => ?_)
  refine lv_aload_n hx hb dL_law_1329 rfl (lv_at hl 3 rfl) ?_
  refine lv_iload_n hx hb dL_law_1330 rfl (lv_at hl 0 rfl) ?_
  refine lv_iconst (v := 2) hx hb dL_law_1331 ?o19 ?_
  case o19 => decide
  refine lv_iadd hx hb dL_law_1332 ?_
  refine lv_topi (fun x_915 ex_915 => ?_)
  have zx_915 : x_915.toInt = i.toInt + 2 := ?o20
  case o20 =>
    rw [ex_915]
    refine i32_add rfl ?o21 ?o22 ?o23
    case o21 => decide
    case o22 => omega
    case o23 => omega
  refine va_sld hx hb hX hbl hbA hW.2.2.2.1 (vp_in_iff.mpr ⟨?o24, ?o25⟩) dL_law_1333 ?_
  case o24 => omega
  case o25 => omega
  refine lv_topi (fun x_916 ex_916 => ?_)
  have hTo := hT
  refine hx_goi (hx_runV (As := [.int x_914, .int x_916]) (rest := []) ⟨hx, hb, hml, hown, hts⟩ hW gx tt_9 (T := TX9) (N := 20) rfl (t_X9_other_v l dC dI dA L1 hl1 H.size ax x_914 x_916 hT gx qa g_qa f_qa qwo g_qwo f_qwo qh g_qh f_qh qc g_qc f_qc qp g_qp f_qp c0 f_x_claimCount np f_x_personCount m0 f_x_heardCount a0 f_x_actCount F_bor cl_bor F_sum cl_sum F_fro cl_fro F_fil cl_fil c_tri cl_tri nu_qp nu_qc F_aga F_by hDF hDP F_ho cF9L A9 hRA9 hFX hHL hAB htb9 pf_qa pf_qh pf_qc pf_qp) (cwV 2 hts (hx_gV kw_1104 kw_1101 kw_1102 kw_1103 kw_94) rfl rfl rfl (by decide +kernel) ⟨Nat.le_of_ble_eq_true rfl, Nat.le_of_ble_eq_true rfl⟩) rfl hl.1 rfl (Nat.le_of_ble_eq_true rfl) dL_law_1334 ⟨(show CC + 0 ≤ 600000 from ?o26), (show SS + 0 ≤ 7302250 from ?o27)⟩) hW (fun r_919 L_917 h_918 H locs p_920 hW => ?_)
  case o26 => omega
  case o27 => omega
  obtain ⟨hr_921, hT, hs⟩ := p_920
  replace hT : hx_T T_tb L_917 h_918 := hT
  replace hs : hx_S T_tb [] L1 hl1 L_917 h_918 := hs
  replace f_qa := (hs.o gx trivial rfl).2.trans f_qa
  replace f_qp := (hs.o gx trivial rfl).2.trans f_qp
  replace f_qc := (hs.o gx trivial rfl).2.trans f_qc
  replace f_qh := (hs.o gx trivial rfl).2.trans f_qh
  replace f_qw := (hs.o gx trivial rfl).2.trans f_qw
  replace f_ql := (hs.o g_qw trivial rfl).2.trans f_ql
  replace f_m_now := (hs.o gm trivial rfl).1.trans f_m_now
  replace f_m_persons := (hs.o gm trivial rfl).1.trans f_m_persons
  replace f_m_claims := (hs.o gm trivial rfl).1.trans f_m_claims
  replace f_m_taped := (hs.o gm trivial rfl).1.trans f_m_taped
  replace f_m_acts := (hs.o gm trivial rfl).1.trans f_m_acts
  replace f_m_heardMany := (hs.o gm trivial rfl).1.trans f_m_heardMany
  replace f_m_lines := (hs.o gm trivial rfl).1.trans f_m_lines
  replace f_m_listed := (hs.o gm trivial rfl).1.trans f_m_listed
  replace f_m_walkedMany := (hs.o gm trivial rfl).1.trans f_m_walkedMany
  replace f_m_payments := (hs.o gm trivial rfl).1.trans f_m_payments
  replace f_m_planMany := (hs.o gm trivial rfl).1.trans f_m_planMany
  replace f_x_now := (hs.o gx trivial rfl).1.trans f_x_now
  replace f_x_personCount := (hs.o gx trivial rfl).1.trans f_x_personCount
  replace f_x_claimCount := (hs.o gx trivial rfl).1.trans f_x_claimCount
  replace f_x_tapeLength := (hs.o gx trivial rfl).1.trans f_x_tapeLength
  replace f_x_actCount := (hs.o gx trivial rfl).1.trans f_x_actCount
  replace f_x_heardCount := (hs.o gx trivial rfl).1.trans f_x_heardCount
  replace f_mw := (hs.o gm trivial rfl).2.trans f_mw
  replace f_mr := (hs.o gm trivial rfl).2.trans f_mr
  replace f_mp := (hs.o gm trivial rfl).2.trans f_mp
  replace f_mn := (hs.o gm trivial rfl).2.trans f_mn
  replace f_ml := (hs.o gm trivial rfl).2.trans f_ml
  replace f_mh := (hs.o gm trivial rfl).2.trans f_mh
  replace f_mt := (hs.o gm trivial rfl).2.trans f_mt
  replace f_m_fou := (hs.o gm trivial rfl).2.trans f_m_fou
  replace f_qo_ln := (hs.o gx trivial rfl).2.trans f_qo_ln
  replace f_o_ln := (hs.o g_qo_ln trivial rfl).1.trans f_o_ln
  replace f_o_lsd := (hs.o g_qw trivial rfl).1.trans f_o_lsd
  replace f_o_wkm := (hs.o g_qw trivial rfl).1.trans f_o_wkm
  replace f_qo_py := (hs.o gx trivial rfl).2.trans f_qo_py
  replace f_o_py := (hs.o g_qo_py trivial rfl).1.trans f_o_py
  replace f_qo_pmn := (hs.o gx trivial rfl).2.trans f_qo_pmn
  replace f_o_pmn := (hs.o g_qo_pmn trivial rfl).1.trans f_o_pmn
  replace f_b_of := (hs.o g_qo_ln trivial rfl).2.trans f_b_of
  replace f_m_of := (hs.o gm trivial rfl).2.trans f_m_of
  replace f_b_wf := (hs.o g_qo_ln trivial rfl).2.trans f_b_wf
  replace f_m_wf := (hs.o gm trivial rfl).2.trans f_m_wf
  replace f_b_df := (hs.o g_qo_ln trivial rfl).2.trans f_b_df
  replace f_m_df := (hs.o gm trivial rfl).2.trans f_m_df
  replace f_b_kf := (hs.o g_qo_ln trivial rfl).2.trans f_b_kf
  replace f_m_kf := (hs.o gm trivial rfl).2.trans f_m_kf
  replace f_b_sf := (hs.o g_qo_ln trivial rfl).2.trans f_b_sf
  replace f_m_sf := (hs.o gm trivial rfl).2.trans f_m_sf
  replace f_b_bf := (hs.o g_qo_ln trivial rfl).2.trans f_b_bf
  replace f_m_lst := (hs.o gm trivial rfl).2.trans f_m_lst
  replace f_qtp := (hs.o gx trivial rfl).2.trans f_qtp
  replace f_m_tp := (hs.o gm trivial rfl).2.trans f_m_tp
  replace f_m_dead := (hs.o gm trivial rfl).2.trans f_m_dead
  replace f_m_isj := (hs.o gm trivial rfl).2.trans f_m_isj
  replace f_m_dox := (hs.o gm trivial rfl).2.trans f_m_dox
  replace f_m_doy := (hs.o gm trivial rfl).2.trans f_m_doy
  replace f_qlt := (hs.o g_qw trivial rfl).2.trans f_qlt
  replace f_qlf := (hs.o g_qw trivial rfl).2.trans f_qlf
  replace f_m_wkd := (hs.o gm trivial rfl).2.trans f_m_wkd
  replace f_m_aga := (hs.o gm trivial rfl).2.trans f_m_aga
  replace f_qwo := (hs.o gx trivial rfl).2.trans f_qwo
  replace f_m_ad := (hs.o gm trivial rfl).2.trans f_m_ad
  replace f_m_by := (hs.o gm trivial rfl).2.trans f_m_by
  replace f_m_ho := (hs.o gm trivial rfl).2.trans f_m_ho
  replace f_m_fc := (hs.o gm trivial rfl).2.trans f_m_fc
  replace f_m_nt := (hs.o gm trivial rfl).2.trans f_m_nt
  replace f_m_wt := (hs.o gm trivial rfl).2.trans f_m_wt
  replace f_m_be := (hs.o gm trivial rfl).2.trans f_m_be
  replace f_m_bor := (hs.o gm trivial rfl).2.trans f_m_bor
  replace f_m_kin := (hs.o gm trivial rfl).2.trans f_m_kin
  replace f_m_sum := (hs.o gm trivial rfl).2.trans f_m_sum
  replace f_m_fro := (hs.o gm trivial rfl).2.trans f_m_fro
  replace f_m_fil := (hs.o gm trivial rfl).2.trans f_m_fil
  replace f_m_jud := (hs.o gm trivial rfl).2.trans f_m_jud
  replace f_m_ear := (hs.o gm trivial rfl).2.trans f_m_ear
  replace f_m_hds := (hs.o gm trivial rfl).2.trans f_m_hds
  replace f_m_ord := (hs.o gm trivial rfl).2.trans f_m_ord
  replace f_m_wkl := (hs.o gm trivial rfl).2.trans f_m_wkl
  replace f_m_owd := (hs.o gm trivial rfl).2.trans f_m_owd
  replace f_m_gds := (hs.o gm trivial rfl).2.trans f_m_gds
  replace f_m_szd := (hs.o gm trivial rfl).2.trans f_m_szd
  replace f_m_srv := (hs.o gm trivial rfl).2.trans f_m_srv
  replace f_y_p0 := (hs.o g_qo_py trivial rfl).2.trans f_y_p0
  replace f_m_p0 := (hs.o gm trivial rfl).2.trans f_m_p0
  replace f_y_p1 := (hs.o g_qo_py trivial rfl).2.trans f_y_p1
  replace f_m_p1 := (hs.o gm trivial rfl).2.trans f_m_p1
  replace f_y_p2 := (hs.o g_qo_py trivial rfl).2.trans f_y_p2
  replace f_m_p2 := (hs.o gm trivial rfl).2.trans f_m_p2
  replace f_y_p3 := (hs.o g_qo_py trivial rfl).2.trans f_y_p3
  replace f_m_p3 := (hs.o gm trivial rfl).2.trans f_m_p3
  replace f_y_p4 := (hs.o g_qo_py trivial rfl).2.trans f_y_p4
  replace f_m_p4 := (hs.o gm trivial rfl).2.trans f_m_p4
  replace f_qrg9 := (hs.o gx trivial rfl).2.trans f_qrg9
  replace f_y_ls := (hs.o g_qrg9 trivial rfl).2.trans f_y_ls
  replace f_m_rl := (hs.o gm trivial rfl).2.trans f_m_rl
  replace ffv_909 := (hs.o g_qrg9 trivial rfl).1.trans ffv_909
  replace ffv_910 := (hs.o gm trivial rfl).1.trans ffv_910
  replace ffv_911 := (hs.o gm trivial rfl).1.trans ffv_911
  replace f_y_pc := (hs.o g_qo_pmn trivial rfl).2.trans f_y_pc
  replace f_m_pc := (hs.o gm trivial rfl).2.trans f_m_pc
  replace f_y_pw := (hs.o g_qo_pmn trivial rfl).2.trans f_y_pw
  replace f_m_pw := (hs.o gm trivial rfl).2.trans f_m_pw
  replace f_y_pk := (hs.o g_qo_pmn trivial rfl).2.trans f_y_pk
  replace f_m_pk := (hs.o gm trivial rfl).2.trans f_m_pk
  replace pf_qa : ∀ j : Nat, (j : Int) < (h_918.2.1 ax 6).toInt → h_918.2.2 qa j ≠ none := by
    intro j hj; rw [(hs.o gx trivial rfl).1] at hj; rw [(hs.a g_qa rfl j).2]; exact pf_qa j hj
  replace pf_qp : ∀ j : Nat, (j : Int) < (h_918.2.1 ax 8).toInt → h_918.2.2 qp j ≠ none := by
    intro j hj; rw [(hs.o gx trivial rfl).1] at hj; rw [(hs.a g_qp rfl j).2]; exact pf_qp j hj
  replace pf_qc : ∀ j : Nat, (j : Int) < (h_918.2.1 ax 11).toInt → h_918.2.2 qc j ≠ none := by
    intro j hj; rw [(hs.o gx trivial rfl).1] at hj; rw [(hs.a g_qc rfl j).2]; exact pf_qc j hj
  replace pf_qh : ∀ j : Nat, (j : Int) < (h_918.2.1 ax 13).toInt → h_918.2.2 qh j ≠ none := by
    intro j hj; rw [(hs.o gx trivial rfl).1] at hj; rw [(hs.a g_qh rfl j).2]; exact pf_qh j hj
  replace pf_ql : ∀ j : Nat, (j : Int) < (h_918.2.1 qw 0).toInt → h_918.2.2 ql j ≠ none := by
    intro j hj; rw [(hs.o g_qw trivial rfl).1] at hj; rw [(hs.a g_ql rfl j).2]; exact pf_ql j hj
  replace cl_lst : hx_col 8 h_918 ql 0 = c_lst := (hx_col_S hs hTo g_ql tt_40 tt_2 rfl rfl).trans cl_lst
  replace cl_dead : hx_col 40 h_918 qp 7 = c_dead := (hx_col_S hs hTo g_qp tt_44 tt_4 rfl rfl).trans cl_dead
  replace cl_isj : hx_col 40 h_918 qp 8 = c_isj := (hx_col_S hs hTo g_qp tt_44 tt_4 rfl rfl).trans cl_isj
  replace cl_dox : hx_col 40 h_918 qp 5 = c_dox := (hx_col_S hs hTo g_qp tt_44 tt_4 rfl rfl).trans cl_dox
  replace cl_doy : hx_col 40 h_918 qp 6 = c_doy := (hx_col_S hs hTo g_qp tt_44 tt_4 rfl rfl).trans cl_doy
  replace cl_fou : hx_col 100 h_918 qc 10 = c_fou := (hx_col_S hs hTo g_qc tt_45 tt_2 rfl rfl).trans cl_fou
  replace cl_tri : hx_col 100 h_918 qc 9 = c_tri := (hx_col_S hs hTo g_qc tt_45 tt_2 rfl rfl).trans cl_tri
  replace cl_bor : hx_col 40 h_918 qp 1 = F_bor := (hx_col_S hs hTo g_qp tt_44 tt_4 rfl rfl).trans cl_bor
  replace cl_kin : hx_col 40 h_918 qp 2 = F_kin := (hx_col_S hs hTo g_qp tt_44 tt_4 rfl rfl).trans cl_kin
  replace cl_sum : hx_col 100 h_918 qc 6 = F_sum := (hx_col_S hs hTo g_qc tt_45 tt_2 rfl rfl).trans cl_sum
  replace cl_fro : hx_col 100 h_918 qc 7 = F_fro := (hx_col_S hs hTo g_qc tt_45 tt_2 rfl rfl).trans cl_fro
  replace cl_fil : hx_col 100 h_918 qc 8 = F_fil := (hx_col_S hs hTo g_qc tt_45 tt_2 rfl rfl).trans cl_fil
  replace cl_hea : hx_col 100 h_918 qc 11 = F_mh := (hx_col_S hs hTo g_qc tt_45 tt_2 rfl rfl).trans cl_hea
  replace cl_jud : hx_col 100 h_918 qc 12 = F_jud := (hx_col_S hs hTo g_qc tt_45 tt_2 rfl rfl).trans cl_jud
  replace cl_ear : hx_col 40 h_918 qp 3 = F_ear := (hx_col_S hs hTo g_qp tt_44 tt_4 rfl rfl).trans cl_ear
  replace cl_hds : hx_col 40 h_918 qp 4 = F_hds := (hx_col_S hs hTo g_qp tt_44 tt_4 rfl rfl).trans cl_hds
  replace cl_ord : hx_col 100 h_918 qc 13 = F_ord := (hx_col_S hs hTo g_qc tt_45 tt_2 rfl rfl).trans cl_ord
  replace cl_wkl : hx_col 100 h_918 qc 14 = F_wkl := (hx_col_S hs hTo g_qc tt_45 tt_2 rfl rfl).trans cl_wkl
  replace cl_owd : hx_col 100 h_918 qc 15 = F_owd := (hx_col_S hs hTo g_qc tt_45 tt_2 rfl rfl).trans cl_owd
  replace cl_gds : hx_col 100 h_918 qc 17 = F_gds := (hx_col_S hs hTo g_qc tt_45 tt_2 rfl rfl).trans cl_gds
  replace cl_szd : hx_col 100 h_918 qc 16 = F_szd := (hx_col_S hs hTo g_qc tt_45 tt_2 rfl rfl).trans cl_szd
  replace cl_srv : hx_col 100 h_918 qc 18 = F_srv := (hx_col_S hs hTo g_qc tt_45 tt_2 rfl rfl).trans cl_srv
  replace nu_qp : hx_num 40 h_918 qp 0 (np.toInt) := hx_num_S hs hTo g_qp tt_44 tt_4 rfl rfl nu_qp
  replace nu_qc : hx_num 100 h_918 qc 0 (c0.toInt) := hx_num_S hs hTo g_qc tt_45 tt_2 rfl rfl nu_qc
  replace sb_list : hx_LQ 8 100 h_918 ql qc := hx_LQ_S hs g_ql g_qc rfl rfl sb_list
  replace hDF : hw_DF h_918 qc qp 2 F_aga c0.toInt := hw_DF_S hs hTo g_qc g_qp tt_45 tt_2 rfl rfl rfl hDF
  replace hRA9 : hv_RA h_918 qa qwo a0.toInt A9 := hv_RA_S hs hTo g_qa g_qwo tt_43 tt_0 rfl rfl rfl rfl rfl rfl ?o28 hRA9
  case o28 => omega
  replace hDP : hw_DF h_918 qc qp 1 F_by c0.toInt := hw_DF_S hs hTo g_qc g_qp tt_45 tt_2 rfl rfl rfl hDP
  replace hAC9 : hv_AC h_918 qc F_ml c0.toInt A9 := hv_AC_S hs hTo g_qc tt_45 tt_2 rfl tt_0 rfl rfl rfl rfl rfl rfl rfl hAC9
  replace hFX : hv_FX 8 4 h_918 qc cF9L c0.toInt := hv_FX_S hs hTo g_qc tt_45 tt_2 rfl rfl rfl rfl hFX
  replace hBX : hv_FX 3 5 h_918 qc F_be c0.toInt := hv_FX_S hs hTo g_qc tt_45 tt_2 rfl rfl rfl rfl hBX
  replace hHL : hv_HL h_918 qh qc F_ho m0.toInt c0.toInt := hv_HL_S hs g_qh g_qc rfl rfl hHL
  replace n_mw : h_918.2.1 mw = F_mw := (funext fun j => (hs.a g_mw rfl j).1).trans n_mw
  replace n_mr : h_918.2.1 mr = F_mr := (funext fun j => (hs.a g_mr rfl j).1).trans n_mr
  replace n_mp : h_918.2.1 mp = F_mp := (funext fun j => (hs.a g_mp rfl j).1).trans n_mp
  replace n_mn : h_918.2.1 mn = F_mn := (funext fun j => (hs.a g_mn rfl j).1).trans n_mn
  replace n_ml : h_918.2.1 ml = F_ml := (funext fun j => (hs.a g_ml rfl j).1).trans n_ml
  replace n_mh : h_918.2.1 mh = F_mh := (funext fun j => (hs.a g_mh rfl j).1).trans n_mh
  replace n_mt : h_918.2.1 mt = F_mt := (funext fun j => (hs.a g_mt rfl j).1).trans n_mt
  replace n_m_fou : h_918.2.1 m_fou = F_m_fou := (funext fun j => (hs.a g_m_fou rfl j).1).trans n_m_fou
  replace n_b_of : h_918.2.1 b_of = B_of := (funext fun j => (hs.a g_b_of rfl j).1).trans n_b_of
  replace n_m_of : h_918.2.1 m_of = F_of := (funext fun j => (hs.a g_m_of rfl j).1).trans n_m_of
  replace n_b_wf : h_918.2.1 b_wf = B_wf := (funext fun j => (hs.a g_b_wf rfl j).1).trans n_b_wf
  replace n_m_wf : h_918.2.1 m_wf = F_wf := (funext fun j => (hs.a g_m_wf rfl j).1).trans n_m_wf
  replace n_b_df : h_918.2.1 b_df = B_df := (funext fun j => (hs.a g_b_df rfl j).1).trans n_b_df
  replace n_m_df : h_918.2.1 m_df = F_df := (funext fun j => (hs.a g_m_df rfl j).1).trans n_m_df
  replace n_b_kf : h_918.2.1 b_kf = B_kf := (funext fun j => (hs.a g_b_kf rfl j).1).trans n_b_kf
  replace n_m_kf : h_918.2.1 m_kf = F_kf := (funext fun j => (hs.a g_m_kf rfl j).1).trans n_m_kf
  replace n_b_sf : h_918.2.1 b_sf = B_sf := (funext fun j => (hs.a g_b_sf rfl j).1).trans n_b_sf
  replace n_m_sf : h_918.2.1 m_sf = F_sf := (funext fun j => (hs.a g_m_sf rfl j).1).trans n_m_sf
  replace n_b_bf : h_918.2.1 b_bf = bfL := (funext fun j => (hs.a g_b_bf rfl j).1).trans n_b_bf
  replace n_lst : h_918.2.1 m_lst = F_lst := (funext fun j => (hs.a g_m_lst rfl j).1).trans n_lst
  replace n_tp : h_918.2.1 m_tp = F_tp := (funext fun j => (hs.a g_m_tp rfl j).1).trans n_tp
  replace n_qtp : h_918.2.1 qtp = F_tp := (funext fun j => (hs.a g_qtp rfl j).1).trans n_qtp
  replace n_dead : h_918.2.1 m_dead = F_dead := (funext fun j => (hs.a g_m_dead rfl j).1).trans n_dead
  replace n_isj : h_918.2.1 m_isj = F_isj := (funext fun j => (hs.a g_m_isj rfl j).1).trans n_isj
  replace n_dox : h_918.2.1 m_dox = F_dox := (funext fun j => (hs.a g_m_dox rfl j).1).trans n_dox
  replace n_doy : h_918.2.1 m_doy = F_doy := (funext fun j => (hs.a g_m_doy rfl j).1).trans n_doy
  replace n_qlt : h_918.2.1 qlt = F_qlt := (funext fun j => (hs.a g_qlt rfl j).1).trans n_qlt
  replace n_m_wkd : h_918.2.1 m_wkd = F_m_wkd := (funext fun j => (hs.a g_m_wkd rfl j).1).trans n_m_wkd
  replace n_aga : h_918.2.1 m_aga = F_aga := (funext fun j => (hs.a g_m_aga rfl j).1).trans n_aga
  replace n_ad : h_918.2.1 m_ad = F_ad := (funext fun j => (hs.a g_m_ad rfl j).1).trans n_ad
  replace n_by : h_918.2.1 m_by = F_by := (funext fun j => (hs.a g_m_by rfl j).1).trans n_by
  replace n_ho : h_918.2.1 m_ho = F_ho := (funext fun j => (hs.a g_m_ho rfl j).1).trans n_ho
  replace n_fc : h_918.2.1 m_fc = F_fc := (funext fun j => (hs.a g_m_fc rfl j).1).trans n_fc
  replace n_nt : h_918.2.1 m_nt = F_nt := (funext fun j => (hs.a g_m_nt rfl j).1).trans n_nt
  replace n_wt : h_918.2.1 m_wt = F_wt := (funext fun j => (hs.a g_m_wt rfl j).1).trans n_wt
  replace n_be : h_918.2.1 m_be = F_be := (funext fun j => (hs.a g_m_be rfl j).1).trans n_be
  replace n_bor : h_918.2.1 m_bor = F_bor := (funext fun j => (hs.a g_m_bor rfl j).1).trans n_bor
  replace n_kin : h_918.2.1 m_kin = F_kin := (funext fun j => (hs.a g_m_kin rfl j).1).trans n_kin
  replace n_sum : h_918.2.1 m_sum = F_sum := (funext fun j => (hs.a g_m_sum rfl j).1).trans n_sum
  replace n_fro : h_918.2.1 m_fro = F_fro := (funext fun j => (hs.a g_m_fro rfl j).1).trans n_fro
  replace n_fil : h_918.2.1 m_fil = F_fil := (funext fun j => (hs.a g_m_fil rfl j).1).trans n_fil
  replace n_jud : h_918.2.1 m_jud = F_jud := (funext fun j => (hs.a g_m_jud rfl j).1).trans n_jud
  replace n_ear : h_918.2.1 m_ear = F_ear := (funext fun j => (hs.a g_m_ear rfl j).1).trans n_ear
  replace n_hds : h_918.2.1 m_hds = F_hds := (funext fun j => (hs.a g_m_hds rfl j).1).trans n_hds
  replace n_ord : h_918.2.1 m_ord = F_ord := (funext fun j => (hs.a g_m_ord rfl j).1).trans n_ord
  replace n_wkl : h_918.2.1 m_wkl = F_wkl := (funext fun j => (hs.a g_m_wkl rfl j).1).trans n_wkl
  replace n_owd : h_918.2.1 m_owd = F_owd := (funext fun j => (hs.a g_m_owd rfl j).1).trans n_owd
  replace n_gds : h_918.2.1 m_gds = F_gds := (funext fun j => (hs.a g_m_gds rfl j).1).trans n_gds
  replace n_szd : h_918.2.1 m_szd = F_szd := (funext fun j => (hs.a g_m_szd rfl j).1).trans n_szd
  replace n_srv : h_918.2.1 m_srv = F_srv := (funext fun j => (hs.a g_m_srv rfl j).1).trans n_srv
  replace n_p0 : h_918.2.1 m_p0 = F_p0 := (funext fun j => (hs.a g_m_p0 rfl j).1).trans n_p0
  replace n_y_p0 : h_918.2.1 y_p0 = F_p0 := (funext fun j => (hs.a g_y_p0 rfl j).1).trans n_y_p0
  replace n_p1 : h_918.2.1 m_p1 = F_p1 := (funext fun j => (hs.a g_m_p1 rfl j).1).trans n_p1
  replace n_y_p1 : h_918.2.1 y_p1 = F_p1 := (funext fun j => (hs.a g_y_p1 rfl j).1).trans n_y_p1
  replace n_p2 : h_918.2.1 m_p2 = F_p2 := (funext fun j => (hs.a g_m_p2 rfl j).1).trans n_p2
  replace n_y_p2 : h_918.2.1 y_p2 = F_p2 := (funext fun j => (hs.a g_y_p2 rfl j).1).trans n_y_p2
  replace n_p3 : h_918.2.1 m_p3 = F_p3 := (funext fun j => (hs.a g_m_p3 rfl j).1).trans n_p3
  replace n_y_p3 : h_918.2.1 y_p3 = F_p3 := (funext fun j => (hs.a g_y_p3 rfl j).1).trans n_y_p3
  replace n_p4 : h_918.2.1 m_p4 = F_p4 := (funext fun j => (hs.a g_m_p4 rfl j).1).trans n_p4
  replace n_y_p4 : h_918.2.1 y_p4 = F_p4 := (funext fun j => (hs.a g_y_p4 rfl j).1).trans n_y_p4
  replace n_y_ls : h_918.2.1 y_ls = F_y_ls := (funext fun j => (hs.a g_y_ls rfl j).1).trans n_y_ls
  replace n_m_rl : h_918.2.1 m_rl = F_m_rl := (funext fun j => (hs.a g_m_rl rfl j).1).trans n_m_rl
  replace n_y_pc : h_918.2.1 y_pc = F_y_pc := (funext fun j => (hs.a g_y_pc rfl j).1).trans n_y_pc
  replace n_m_pc : h_918.2.1 m_pc = F_m_pc := (funext fun j => (hs.a g_m_pc rfl j).1).trans n_m_pc
  replace n_y_pw : h_918.2.1 y_pw = F_y_pw := (funext fun j => (hs.a g_y_pw rfl j).1).trans n_y_pw
  replace n_m_pw : h_918.2.1 m_pw = F_m_pw := (funext fun j => (hs.a g_m_pw rfl j).1).trans n_m_pw
  replace n_y_pk : h_918.2.1 y_pk = F_y_pk := (funext fun j => (hs.a g_y_pk rfl j).1).trans n_y_pk
  replace n_m_pk : h_918.2.1 m_pk = F_m_pk := (funext fun j => (hs.a g_m_pk rfl j).1).trans n_m_pk
  replace gx := gx.S hs
  replace gm := gm.S hs
  replace g_qa := g_qa.S hs
  replace g_qp := g_qp.S hs
  replace g_qc := g_qc.S hs
  replace g_qh := g_qh.S hs
  replace g_qw := g_qw.S hs
  replace g_ql := g_ql.S hs
  replace g_mw := g_mw.S hs
  replace g_mr := g_mr.S hs
  replace g_mp := g_mp.S hs
  replace g_mn := g_mn.S hs
  replace g_ml := g_ml.S hs
  replace g_mh := g_mh.S hs
  replace g_mt := g_mt.S hs
  replace g_m_fou := g_m_fou.S hs
  replace g_qo_ln := g_qo_ln.S hs
  replace g_qo_py := g_qo_py.S hs
  replace g_qo_pmn := g_qo_pmn.S hs
  replace g_b_of := g_b_of.S hs
  replace g_m_of := g_m_of.S hs
  replace g_b_wf := g_b_wf.S hs
  replace g_m_wf := g_m_wf.S hs
  replace g_b_df := g_b_df.S hs
  replace g_m_df := g_m_df.S hs
  replace g_b_kf := g_b_kf.S hs
  replace g_m_kf := g_m_kf.S hs
  replace g_b_sf := g_b_sf.S hs
  replace g_m_sf := g_m_sf.S hs
  replace g_b_bf := g_b_bf.S hs
  replace g_m_lst := g_m_lst.S hs
  replace g_qtp := g_qtp.S hs
  replace g_m_tp := g_m_tp.S hs
  replace g_m_dead := g_m_dead.S hs
  replace g_m_isj := g_m_isj.S hs
  replace g_m_dox := g_m_dox.S hs
  replace g_m_doy := g_m_doy.S hs
  replace g_qlt := g_qlt.S hs
  replace g_qlf := g_qlf.S hs
  replace g_m_wkd := g_m_wkd.S hs
  replace g_m_aga := g_m_aga.S hs
  replace g_qwo := g_qwo.S hs
  replace g_m_ad := g_m_ad.S hs
  replace g_m_by := g_m_by.S hs
  replace g_m_ho := g_m_ho.S hs
  replace g_m_fc := g_m_fc.S hs
  replace g_m_nt := g_m_nt.S hs
  replace g_m_wt := g_m_wt.S hs
  replace g_m_be := g_m_be.S hs
  replace g_m_bor := g_m_bor.S hs
  replace g_m_kin := g_m_kin.S hs
  replace g_m_sum := g_m_sum.S hs
  replace g_m_fro := g_m_fro.S hs
  replace g_m_fil := g_m_fil.S hs
  replace g_m_jud := g_m_jud.S hs
  replace g_m_ear := g_m_ear.S hs
  replace g_m_hds := g_m_hds.S hs
  replace g_m_ord := g_m_ord.S hs
  replace g_m_wkl := g_m_wkl.S hs
  replace g_m_owd := g_m_owd.S hs
  replace g_m_gds := g_m_gds.S hs
  replace g_m_szd := g_m_szd.S hs
  replace g_m_srv := g_m_srv.S hs
  replace g_y_p0 := g_y_p0.S hs
  replace g_m_p0 := g_m_p0.S hs
  replace g_y_p1 := g_y_p1.S hs
  replace g_m_p1 := g_m_p1.S hs
  replace g_y_p2 := g_y_p2.S hs
  replace g_m_p2 := g_m_p2.S hs
  replace g_y_p3 := g_y_p3.S hs
  replace g_m_p3 := g_m_p3.S hs
  replace g_y_p4 := g_y_p4.S hs
  replace g_m_p4 := g_m_p4.S hs
  replace g_qrg9 := g_qrg9.S hs
  replace g_y_ls := g_y_ls.S hs
  replace g_m_rl := g_m_rl.S hs
  replace g_y_pc := g_y_pc.S hs
  replace g_m_pc := g_m_pc.S hs
  replace g_y_pw := g_y_pw.S hs
  replace g_m_pw := g_m_pw.S hs
  replace g_y_pk := g_y_pk.S hs
  replace g_m_pk := g_m_pk.S hs
  refine lv_pop hx hb dL_law_1337 rfl ?_
  refine lv_aload_n hx hb dL_law_1338 rfl (lv_at hl 1 rfl) ?_
  refine lv_aload_n hx hb dL_law_1339 rfl (lv_at hl 3 rfl) ?_
  refine lv_iload_n hx hb dL_law_1340 rfl (lv_at hl 0 rfl) ?_
  refine lv_iconst (v := 1) hx hb dL_law_1341 ?o29 ?_
  case o29 => decide
  refine lv_iadd hx hb dL_law_1342 ?_
  refine lv_topi (fun x_922 ex_922 => ?_)
  have zx_922 : x_922.toInt = i.toInt + 1 := ?o30
  case o30 =>
    rw [ex_922]
    refine i32_add rfl ?o31 ?o32 ?o33
    case o31 => decide
    case o32 => omega
    case o33 => omega
  obtain rfl : x_913 = x_922 := ex_913.trans ex_922.symm
  refine va_sld hx hb hX hbl hbA hW.2.2.2.1 (vp_in_iff.mpr ⟨?o34, ?o35⟩) dL_law_1343 ?_
  case o34 => omega
  case o35 => omega
  refine lv_topi (fun x_923 ex_923 => ?_)
  obtain rfl : x_914 = x_923 := ex_914.trans ex_923.symm
  refine lv_aload_n hx hb dL_law_1344 rfl (lv_at hl 3 rfl) ?_
  refine lv_iload_n hx hb dL_law_1345 rfl (lv_at hl 0 rfl) ?_
  refine lv_iconst (v := 2) hx hb dL_law_1346 ?o36 ?_
  case o36 => decide
  refine lv_iadd hx hb dL_law_1347 ?_
  refine lv_topi (fun x_924 ex_924 => ?_)
  have zx_924 : x_924.toInt = i.toInt + 2 := ?o37
  case o37 =>
    rw [ex_924]
    refine i32_add rfl ?o38 ?o39 ?o40
    case o38 => decide
    case o39 => omega
    case o40 => omega
  obtain rfl : x_915 = x_924 := ex_915.trans ex_924.symm
  refine va_sld hx hb hX hbl hbA hW.2.2.2.1 (vp_in_iff.mpr ⟨?o41, ?o42⟩) dL_law_1348 ?_
  case o41 => omega
  case o42 => omega
  refine lv_topi (fun x_925 ex_925 => ?_)
  obtain rfl : x_916 = x_925 := ex_916.trans ex_925.symm
  have hTo := hT
  obtain ⟨q_926, fq_926, gq_926⟩ := hx_rf hT gm tt_10 (k := 66) (u := 99) rfl
  obtain ⟨fa_927, nfa_927⟩ : ∃ g : Nat → Int32, h_918.2.1 q_926 = g := ⟨_, rfl⟩
  refine hx_goi (hx_runV (As := [.int x_914, .int x_916]) (rest := []) ⟨hx, hb, hml, hown, hts⟩ hW gm tt_10 (T := TX10) (N := 98) rfl (t_X10_other_v l dC dI dA L_917 h_918 H.size am x_914 x_916 hT gm m_by g_m_by f_m_by m_aga g_m_aga f_m_aga m_fil g_m_fil f_m_fil m_sum g_m_sum f_m_sum mr g_mr f_mr m_fro g_m_fro f_m_fro m_bor g_m_bor f_m_bor mn g_mn f_mn mp g_mp f_mp q_926 gq_926 fq_926 m_fc g_m_fc f_m_fc m_ho g_m_ho f_m_ho mt g_mt f_mt F_by n_by F_aga n_aga F_fil n_fil F_sum n_sum F_mr n_mr F_fro n_fro F_bor n_bor F_mn n_mn F_mp n_mp fa_927 nfa_927 F_fc n_fc F_ho n_ho F_mt n_mt c0 f_m_claims m0 f_m_heardMany a0 f_m_acts F_ad F_mh A9 hCA9 hAB hHO9) (cwV 2 hts (hx_gV kw_1749 kw_1746 kw_1747 kw_1748 kw_103) rfl rfl rfl (by decide +kernel) ⟨Nat.le_of_ble_eq_true rfl, Nat.le_of_ble_eq_true rfl⟩) rfl hl.1 rfl (Nat.le_of_ble_eq_true rfl) dL_law_1349 ⟨(show CC + 0 + 0 ≤ 600000 from ?o43), (show SS + 0 + 0 ≤ 7302250 from ?o44)⟩) hW (fun r_930 L_928 h_929 H locs p_931 hW => ?_)
  case o43 => omega
  case o44 => omega
  obtain ⟨hr_932, hT, hs⟩ := p_931
  replace hT : hx_T T_tb L_928 h_929 := hT
  replace hs : hx_S T_tb [(99, 0)] L_917 h_918 L_928 h_929 := hs
  replace f_qa := (hs.o gx trivial rfl).2.trans f_qa
  replace f_qp := (hs.o gx trivial rfl).2.trans f_qp
  replace f_qc := (hs.o gx trivial rfl).2.trans f_qc
  replace f_qh := (hs.o gx trivial rfl).2.trans f_qh
  replace f_qw := (hs.o gx trivial rfl).2.trans f_qw
  replace f_ql := (hs.o g_qw trivial rfl).2.trans f_ql
  replace f_m_now := (hs.o gm trivial rfl).1.trans f_m_now
  replace f_m_persons := (hs.o gm trivial rfl).1.trans f_m_persons
  replace f_m_claims := (hs.o gm trivial rfl).1.trans f_m_claims
  replace f_m_taped := (hs.o gm trivial rfl).1.trans f_m_taped
  replace f_m_acts := (hs.o gm trivial rfl).1.trans f_m_acts
  replace f_m_heardMany := (hs.o gm trivial rfl).1.trans f_m_heardMany
  replace f_m_lines := (hs.o gm trivial rfl).1.trans f_m_lines
  replace f_m_listed := (hs.o gm trivial rfl).1.trans f_m_listed
  replace f_m_walkedMany := (hs.o gm trivial rfl).1.trans f_m_walkedMany
  replace f_m_payments := (hs.o gm trivial rfl).1.trans f_m_payments
  replace f_m_planMany := (hs.o gm trivial rfl).1.trans f_m_planMany
  replace f_x_now := (hs.o gx trivial rfl).1.trans f_x_now
  replace f_x_personCount := (hs.o gx trivial rfl).1.trans f_x_personCount
  replace f_x_claimCount := (hs.o gx trivial rfl).1.trans f_x_claimCount
  replace f_x_tapeLength := (hs.o gx trivial rfl).1.trans f_x_tapeLength
  replace f_x_actCount := (hs.o gx trivial rfl).1.trans f_x_actCount
  replace f_x_heardCount := (hs.o gx trivial rfl).1.trans f_x_heardCount
  replace f_mw := (hs.o gm trivial rfl).2.trans f_mw
  replace f_mr := (hs.o gm trivial rfl).2.trans f_mr
  replace f_mp := (hs.o gm trivial rfl).2.trans f_mp
  replace f_mn := (hs.o gm trivial rfl).2.trans f_mn
  replace f_ml := (hs.o gm trivial rfl).2.trans f_ml
  replace f_mh := (hs.o gm trivial rfl).2.trans f_mh
  replace f_mt := (hs.o gm trivial rfl).2.trans f_mt
  replace f_m_fou := (hs.o gm trivial rfl).2.trans f_m_fou
  replace f_qo_ln := (hs.o gx trivial rfl).2.trans f_qo_ln
  replace f_o_ln := (hs.o g_qo_ln trivial rfl).1.trans f_o_ln
  replace f_o_lsd := (hs.o g_qw trivial rfl).1.trans f_o_lsd
  replace f_o_wkm := (hs.o g_qw trivial rfl).1.trans f_o_wkm
  replace f_qo_py := (hs.o gx trivial rfl).2.trans f_qo_py
  replace f_o_py := (hs.o g_qo_py trivial rfl).1.trans f_o_py
  replace f_qo_pmn := (hs.o gx trivial rfl).2.trans f_qo_pmn
  replace f_o_pmn := (hs.o g_qo_pmn trivial rfl).1.trans f_o_pmn
  replace f_b_of := (hs.o g_qo_ln trivial rfl).2.trans f_b_of
  replace f_m_of := (hs.o gm trivial rfl).2.trans f_m_of
  replace f_b_wf := (hs.o g_qo_ln trivial rfl).2.trans f_b_wf
  replace f_m_wf := (hs.o gm trivial rfl).2.trans f_m_wf
  replace f_b_df := (hs.o g_qo_ln trivial rfl).2.trans f_b_df
  replace f_m_df := (hs.o gm trivial rfl).2.trans f_m_df
  replace f_b_kf := (hs.o g_qo_ln trivial rfl).2.trans f_b_kf
  replace f_m_kf := (hs.o gm trivial rfl).2.trans f_m_kf
  replace f_b_sf := (hs.o g_qo_ln trivial rfl).2.trans f_b_sf
  replace f_m_sf := (hs.o gm trivial rfl).2.trans f_m_sf
  replace f_b_bf := (hs.o g_qo_ln trivial rfl).2.trans f_b_bf
  replace f_m_lst := (hs.o gm trivial rfl).2.trans f_m_lst
  replace f_qtp := (hs.o gx trivial rfl).2.trans f_qtp
  replace f_m_tp := (hs.o gm trivial rfl).2.trans f_m_tp
  replace f_m_dead := (hs.o gm trivial rfl).2.trans f_m_dead
  replace f_m_isj := (hs.o gm trivial rfl).2.trans f_m_isj
  replace f_m_dox := (hs.o gm trivial rfl).2.trans f_m_dox
  replace f_m_doy := (hs.o gm trivial rfl).2.trans f_m_doy
  replace f_qlt := (hs.o g_qw trivial rfl).2.trans f_qlt
  replace f_qlf := (hs.o g_qw trivial rfl).2.trans f_qlf
  replace f_m_wkd := (hs.o gm trivial rfl).2.trans f_m_wkd
  replace f_m_aga := (hs.o gm trivial rfl).2.trans f_m_aga
  replace f_qwo := (hs.o gx trivial rfl).2.trans f_qwo
  replace f_m_ad := (hs.o gm trivial rfl).2.trans f_m_ad
  replace f_m_by := (hs.o gm trivial rfl).2.trans f_m_by
  replace f_m_ho := (hs.o gm trivial rfl).2.trans f_m_ho
  replace f_m_fc := (hs.o gm trivial rfl).2.trans f_m_fc
  replace f_m_nt := (hs.o gm trivial rfl).2.trans f_m_nt
  replace f_m_wt := (hs.o gm trivial rfl).2.trans f_m_wt
  replace f_m_be := (hs.o gm trivial rfl).2.trans f_m_be
  replace f_m_bor := (hs.o gm trivial rfl).2.trans f_m_bor
  replace f_m_kin := (hs.o gm trivial rfl).2.trans f_m_kin
  replace f_m_sum := (hs.o gm trivial rfl).2.trans f_m_sum
  replace f_m_fro := (hs.o gm trivial rfl).2.trans f_m_fro
  replace f_m_fil := (hs.o gm trivial rfl).2.trans f_m_fil
  replace f_m_jud := (hs.o gm trivial rfl).2.trans f_m_jud
  replace f_m_ear := (hs.o gm trivial rfl).2.trans f_m_ear
  replace f_m_hds := (hs.o gm trivial rfl).2.trans f_m_hds
  replace f_m_ord := (hs.o gm trivial rfl).2.trans f_m_ord
  replace f_m_wkl := (hs.o gm trivial rfl).2.trans f_m_wkl
  replace f_m_owd := (hs.o gm trivial rfl).2.trans f_m_owd
  replace f_m_gds := (hs.o gm trivial rfl).2.trans f_m_gds
  replace f_m_szd := (hs.o gm trivial rfl).2.trans f_m_szd
  replace f_m_srv := (hs.o gm trivial rfl).2.trans f_m_srv
  replace f_y_p0 := (hs.o g_qo_py trivial rfl).2.trans f_y_p0
  replace f_m_p0 := (hs.o gm trivial rfl).2.trans f_m_p0
  replace f_y_p1 := (hs.o g_qo_py trivial rfl).2.trans f_y_p1
  replace f_m_p1 := (hs.o gm trivial rfl).2.trans f_m_p1
  replace f_y_p2 := (hs.o g_qo_py trivial rfl).2.trans f_y_p2
  replace f_m_p2 := (hs.o gm trivial rfl).2.trans f_m_p2
  replace f_y_p3 := (hs.o g_qo_py trivial rfl).2.trans f_y_p3
  replace f_m_p3 := (hs.o gm trivial rfl).2.trans f_m_p3
  replace f_y_p4 := (hs.o g_qo_py trivial rfl).2.trans f_y_p4
  replace f_m_p4 := (hs.o gm trivial rfl).2.trans f_m_p4
  replace f_qrg9 := (hs.o gx trivial rfl).2.trans f_qrg9
  replace f_y_ls := (hs.o g_qrg9 trivial rfl).2.trans f_y_ls
  replace f_m_rl := (hs.o gm trivial rfl).2.trans f_m_rl
  replace ffv_909 := (hs.o g_qrg9 trivial rfl).1.trans ffv_909
  replace ffv_910 := (hs.o gm trivial rfl).1.trans ffv_910
  replace ffv_911 := (hs.o gm trivial rfl).1.trans ffv_911
  replace f_y_pc := (hs.o g_qo_pmn trivial rfl).2.trans f_y_pc
  replace f_m_pc := (hs.o gm trivial rfl).2.trans f_m_pc
  replace f_y_pw := (hs.o g_qo_pmn trivial rfl).2.trans f_y_pw
  replace f_m_pw := (hs.o gm trivial rfl).2.trans f_m_pw
  replace f_y_pk := (hs.o g_qo_pmn trivial rfl).2.trans f_y_pk
  replace f_m_pk := (hs.o gm trivial rfl).2.trans f_m_pk
  replace fq_926 := (hs.o gm trivial rfl).2.trans fq_926
  replace pf_qa : ∀ j : Nat, (j : Int) < (h_929.2.1 ax 6).toInt → h_929.2.2 qa j ≠ none := by
    intro j hj; rw [(hs.o gx trivial rfl).1] at hj; rw [(hs.a g_qa rfl j).2]; exact pf_qa j hj
  replace pf_qp : ∀ j : Nat, (j : Int) < (h_929.2.1 ax 8).toInt → h_929.2.2 qp j ≠ none := by
    intro j hj; rw [(hs.o gx trivial rfl).1] at hj; rw [(hs.a g_qp rfl j).2]; exact pf_qp j hj
  replace pf_qc : ∀ j : Nat, (j : Int) < (h_929.2.1 ax 11).toInt → h_929.2.2 qc j ≠ none := by
    intro j hj; rw [(hs.o gx trivial rfl).1] at hj; rw [(hs.a g_qc rfl j).2]; exact pf_qc j hj
  replace pf_qh : ∀ j : Nat, (j : Int) < (h_929.2.1 ax 13).toInt → h_929.2.2 qh j ≠ none := by
    intro j hj; rw [(hs.o gx trivial rfl).1] at hj; rw [(hs.a g_qh rfl j).2]; exact pf_qh j hj
  replace pf_ql : ∀ j : Nat, (j : Int) < (h_929.2.1 qw 0).toInt → h_929.2.2 ql j ≠ none := by
    intro j hj; rw [(hs.o g_qw trivial rfl).1] at hj; rw [(hs.a g_ql rfl j).2]; exact pf_ql j hj
  replace cl_lst : hx_col 8 h_929 ql 0 = c_lst := (hx_col_S hs hTo g_ql tt_40 tt_2 rfl rfl).trans cl_lst
  replace cl_dead : hx_col 40 h_929 qp 7 = c_dead := (hx_col_S hs hTo g_qp tt_44 tt_4 rfl rfl).trans cl_dead
  replace cl_isj : hx_col 40 h_929 qp 8 = c_isj := (hx_col_S hs hTo g_qp tt_44 tt_4 rfl rfl).trans cl_isj
  replace cl_dox : hx_col 40 h_929 qp 5 = c_dox := (hx_col_S hs hTo g_qp tt_44 tt_4 rfl rfl).trans cl_dox
  replace cl_doy : hx_col 40 h_929 qp 6 = c_doy := (hx_col_S hs hTo g_qp tt_44 tt_4 rfl rfl).trans cl_doy
  replace cl_fou : hx_col 100 h_929 qc 10 = c_fou := (hx_col_S hs hTo g_qc tt_45 tt_2 rfl rfl).trans cl_fou
  replace cl_tri : hx_col 100 h_929 qc 9 = c_tri := (hx_col_S hs hTo g_qc tt_45 tt_2 rfl rfl).trans cl_tri
  replace cl_bor : hx_col 40 h_929 qp 1 = F_bor := (hx_col_S hs hTo g_qp tt_44 tt_4 rfl rfl).trans cl_bor
  replace cl_kin : hx_col 40 h_929 qp 2 = F_kin := (hx_col_S hs hTo g_qp tt_44 tt_4 rfl rfl).trans cl_kin
  replace cl_sum : hx_col 100 h_929 qc 6 = F_sum := (hx_col_S hs hTo g_qc tt_45 tt_2 rfl rfl).trans cl_sum
  replace cl_fro : hx_col 100 h_929 qc 7 = F_fro := (hx_col_S hs hTo g_qc tt_45 tt_2 rfl rfl).trans cl_fro
  replace cl_fil : hx_col 100 h_929 qc 8 = F_fil := (hx_col_S hs hTo g_qc tt_45 tt_2 rfl rfl).trans cl_fil
  replace cl_hea : hx_col 100 h_929 qc 11 = F_mh := (hx_col_S hs hTo g_qc tt_45 tt_2 rfl rfl).trans cl_hea
  replace cl_jud : hx_col 100 h_929 qc 12 = F_jud := (hx_col_S hs hTo g_qc tt_45 tt_2 rfl rfl).trans cl_jud
  replace cl_ear : hx_col 40 h_929 qp 3 = F_ear := (hx_col_S hs hTo g_qp tt_44 tt_4 rfl rfl).trans cl_ear
  replace cl_hds : hx_col 40 h_929 qp 4 = F_hds := (hx_col_S hs hTo g_qp tt_44 tt_4 rfl rfl).trans cl_hds
  replace cl_ord : hx_col 100 h_929 qc 13 = F_ord := (hx_col_S hs hTo g_qc tt_45 tt_2 rfl rfl).trans cl_ord
  replace cl_wkl : hx_col 100 h_929 qc 14 = F_wkl := (hx_col_S hs hTo g_qc tt_45 tt_2 rfl rfl).trans cl_wkl
  replace cl_owd : hx_col 100 h_929 qc 15 = F_owd := (hx_col_S hs hTo g_qc tt_45 tt_2 rfl rfl).trans cl_owd
  replace cl_gds : hx_col 100 h_929 qc 17 = F_gds := (hx_col_S hs hTo g_qc tt_45 tt_2 rfl rfl).trans cl_gds
  replace cl_szd : hx_col 100 h_929 qc 16 = F_szd := (hx_col_S hs hTo g_qc tt_45 tt_2 rfl rfl).trans cl_szd
  replace cl_srv : hx_col 100 h_929 qc 18 = F_srv := (hx_col_S hs hTo g_qc tt_45 tt_2 rfl rfl).trans cl_srv
  replace nu_qp : hx_num 40 h_929 qp 0 (np.toInt) := hx_num_S hs hTo g_qp tt_44 tt_4 rfl rfl nu_qp
  replace nu_qc : hx_num 100 h_929 qc 0 (c0.toInt) := hx_num_S hs hTo g_qc tt_45 tt_2 rfl rfl nu_qc
  replace sb_list : hx_LQ 8 100 h_929 ql qc := hx_LQ_S hs g_ql g_qc rfl rfl sb_list
  replace hDF : hw_DF h_929 qc qp 2 F_aga c0.toInt := hw_DF_S hs hTo g_qc g_qp tt_45 tt_2 rfl rfl rfl hDF
  replace hRA9 : hv_RA h_929 qa qwo a0.toInt A9 := hv_RA_S hs hTo g_qa g_qwo tt_43 tt_0 rfl rfl rfl rfl rfl rfl ?o45 hRA9
  case o45 => omega
  replace hDP : hw_DF h_929 qc qp 1 F_by c0.toInt := hw_DF_S hs hTo g_qc g_qp tt_45 tt_2 rfl rfl rfl hDP
  replace hAC9 : hv_AC h_929 qc F_ml c0.toInt A9 := hv_AC_S hs hTo g_qc tt_45 tt_2 rfl tt_0 rfl rfl rfl rfl rfl rfl rfl hAC9
  replace hFX : hv_FX 8 4 h_929 qc cF9L c0.toInt := hv_FX_S hs hTo g_qc tt_45 tt_2 rfl rfl rfl rfl hFX
  replace hBX : hv_FX 3 5 h_929 qc F_be c0.toInt := hv_FX_S hs hTo g_qc tt_45 tt_2 rfl rfl rfl rfl hBX
  replace hHL : hv_HL h_929 qh qc F_ho m0.toInt c0.toInt := hv_HL_S hs g_qh g_qc rfl rfl hHL
  replace n_mw : h_929.2.1 mw = F_mw := (funext fun j => (hs.a g_mw rfl j).1).trans n_mw
  replace n_mr : h_929.2.1 mr = F_mr := (funext fun j => (hs.a g_mr rfl j).1).trans n_mr
  replace n_mp : h_929.2.1 mp = F_mp := (funext fun j => (hs.a g_mp rfl j).1).trans n_mp
  replace n_mn : h_929.2.1 mn = F_mn := (funext fun j => (hs.a g_mn rfl j).1).trans n_mn
  replace n_ml : h_929.2.1 ml = F_ml := (funext fun j => (hs.a g_ml rfl j).1).trans n_ml
  replace n_mh : h_929.2.1 mh = F_mh := (funext fun j => (hs.a g_mh rfl j).1).trans n_mh
  replace n_mt : h_929.2.1 mt = F_mt := (funext fun j => (hs.a g_mt rfl j).1).trans n_mt
  replace n_m_fou : h_929.2.1 m_fou = F_m_fou := (funext fun j => (hs.a g_m_fou rfl j).1).trans n_m_fou
  replace n_b_of : h_929.2.1 b_of = B_of := (funext fun j => (hs.a g_b_of rfl j).1).trans n_b_of
  replace n_m_of : h_929.2.1 m_of = F_of := (funext fun j => (hs.a g_m_of rfl j).1).trans n_m_of
  replace n_b_wf : h_929.2.1 b_wf = B_wf := (funext fun j => (hs.a g_b_wf rfl j).1).trans n_b_wf
  replace n_m_wf : h_929.2.1 m_wf = F_wf := (funext fun j => (hs.a g_m_wf rfl j).1).trans n_m_wf
  replace n_b_df : h_929.2.1 b_df = B_df := (funext fun j => (hs.a g_b_df rfl j).1).trans n_b_df
  replace n_m_df : h_929.2.1 m_df = F_df := (funext fun j => (hs.a g_m_df rfl j).1).trans n_m_df
  replace n_b_kf : h_929.2.1 b_kf = B_kf := (funext fun j => (hs.a g_b_kf rfl j).1).trans n_b_kf
  replace n_m_kf : h_929.2.1 m_kf = F_kf := (funext fun j => (hs.a g_m_kf rfl j).1).trans n_m_kf
  replace n_b_sf : h_929.2.1 b_sf = B_sf := (funext fun j => (hs.a g_b_sf rfl j).1).trans n_b_sf
  replace n_m_sf : h_929.2.1 m_sf = F_sf := (funext fun j => (hs.a g_m_sf rfl j).1).trans n_m_sf
  replace n_b_bf : h_929.2.1 b_bf = bfL := (funext fun j => (hs.a g_b_bf rfl j).1).trans n_b_bf
  replace n_lst : h_929.2.1 m_lst = F_lst := (funext fun j => (hs.a g_m_lst rfl j).1).trans n_lst
  replace n_tp : h_929.2.1 m_tp = F_tp := (funext fun j => (hs.a g_m_tp rfl j).1).trans n_tp
  replace n_qtp : h_929.2.1 qtp = F_tp := (funext fun j => (hs.a g_qtp rfl j).1).trans n_qtp
  replace n_dead : h_929.2.1 m_dead = F_dead := (funext fun j => (hs.a g_m_dead rfl j).1).trans n_dead
  replace n_isj : h_929.2.1 m_isj = F_isj := (funext fun j => (hs.a g_m_isj rfl j).1).trans n_isj
  replace n_dox : h_929.2.1 m_dox = F_dox := (funext fun j => (hs.a g_m_dox rfl j).1).trans n_dox
  replace n_doy : h_929.2.1 m_doy = F_doy := (funext fun j => (hs.a g_m_doy rfl j).1).trans n_doy
  replace n_qlt : h_929.2.1 qlt = F_qlt := (funext fun j => (hs.a g_qlt rfl j).1).trans n_qlt
  replace n_m_wkd : h_929.2.1 m_wkd = F_m_wkd := (funext fun j => (hs.a g_m_wkd rfl j).1).trans n_m_wkd
  replace n_aga : h_929.2.1 m_aga = F_aga := (funext fun j => (hs.a g_m_aga rfl j).1).trans n_aga
  replace n_ad : h_929.2.1 m_ad = F_ad := (funext fun j => (hs.a g_m_ad rfl j).1).trans n_ad
  replace n_by : h_929.2.1 m_by = F_by := (funext fun j => (hs.a g_m_by rfl j).1).trans n_by
  replace n_ho : h_929.2.1 m_ho = F_ho := (funext fun j => (hs.a g_m_ho rfl j).1).trans n_ho
  replace n_fc : h_929.2.1 m_fc = F_fc := (funext fun j => (hs.a g_m_fc rfl j).1).trans n_fc
  replace n_nt : h_929.2.1 m_nt = F_nt := (funext fun j => (hs.a g_m_nt rfl j).1).trans n_nt
  replace n_wt : h_929.2.1 m_wt = F_wt := (funext fun j => (hs.a g_m_wt rfl j).1).trans n_wt
  replace n_be : h_929.2.1 m_be = F_be := (funext fun j => (hs.a g_m_be rfl j).1).trans n_be
  replace n_bor : h_929.2.1 m_bor = F_bor := (funext fun j => (hs.a g_m_bor rfl j).1).trans n_bor
  replace n_kin : h_929.2.1 m_kin = F_kin := (funext fun j => (hs.a g_m_kin rfl j).1).trans n_kin
  replace n_sum : h_929.2.1 m_sum = F_sum := (funext fun j => (hs.a g_m_sum rfl j).1).trans n_sum
  replace n_fro : h_929.2.1 m_fro = F_fro := (funext fun j => (hs.a g_m_fro rfl j).1).trans n_fro
  replace n_fil : h_929.2.1 m_fil = F_fil := (funext fun j => (hs.a g_m_fil rfl j).1).trans n_fil
  replace n_jud : h_929.2.1 m_jud = F_jud := (funext fun j => (hs.a g_m_jud rfl j).1).trans n_jud
  replace n_ear : h_929.2.1 m_ear = F_ear := (funext fun j => (hs.a g_m_ear rfl j).1).trans n_ear
  replace n_hds : h_929.2.1 m_hds = F_hds := (funext fun j => (hs.a g_m_hds rfl j).1).trans n_hds
  replace n_ord : h_929.2.1 m_ord = F_ord := (funext fun j => (hs.a g_m_ord rfl j).1).trans n_ord
  replace n_wkl : h_929.2.1 m_wkl = F_wkl := (funext fun j => (hs.a g_m_wkl rfl j).1).trans n_wkl
  replace n_owd : h_929.2.1 m_owd = F_owd := (funext fun j => (hs.a g_m_owd rfl j).1).trans n_owd
  replace n_gds : h_929.2.1 m_gds = F_gds := (funext fun j => (hs.a g_m_gds rfl j).1).trans n_gds
  replace n_szd : h_929.2.1 m_szd = F_szd := (funext fun j => (hs.a g_m_szd rfl j).1).trans n_szd
  replace n_srv : h_929.2.1 m_srv = F_srv := (funext fun j => (hs.a g_m_srv rfl j).1).trans n_srv
  replace n_p0 : h_929.2.1 m_p0 = F_p0 := (funext fun j => (hs.a g_m_p0 rfl j).1).trans n_p0
  replace n_y_p0 : h_929.2.1 y_p0 = F_p0 := (funext fun j => (hs.a g_y_p0 rfl j).1).trans n_y_p0
  replace n_p1 : h_929.2.1 m_p1 = F_p1 := (funext fun j => (hs.a g_m_p1 rfl j).1).trans n_p1
  replace n_y_p1 : h_929.2.1 y_p1 = F_p1 := (funext fun j => (hs.a g_y_p1 rfl j).1).trans n_y_p1
  replace n_p2 : h_929.2.1 m_p2 = F_p2 := (funext fun j => (hs.a g_m_p2 rfl j).1).trans n_p2
  replace n_y_p2 : h_929.2.1 y_p2 = F_p2 := (funext fun j => (hs.a g_y_p2 rfl j).1).trans n_y_p2
  replace n_p3 : h_929.2.1 m_p3 = F_p3 := (funext fun j => (hs.a g_m_p3 rfl j).1).trans n_p3
  replace n_y_p3 : h_929.2.1 y_p3 = F_p3 := (funext fun j => (hs.a g_y_p3 rfl j).1).trans n_y_p3
  replace n_p4 : h_929.2.1 m_p4 = F_p4 := (funext fun j => (hs.a g_m_p4 rfl j).1).trans n_p4
  replace n_y_p4 : h_929.2.1 y_p4 = F_p4 := (funext fun j => (hs.a g_y_p4 rfl j).1).trans n_y_p4
  replace n_y_ls : h_929.2.1 y_ls = F_y_ls := (funext fun j => (hs.a g_y_ls rfl j).1).trans n_y_ls
  replace n_m_rl : h_929.2.1 m_rl = F_m_rl := (funext fun j => (hs.a g_m_rl rfl j).1).trans n_m_rl
  replace n_y_pc : h_929.2.1 y_pc = F_y_pc := (funext fun j => (hs.a g_y_pc rfl j).1).trans n_y_pc
  replace n_m_pc : h_929.2.1 m_pc = F_m_pc := (funext fun j => (hs.a g_m_pc rfl j).1).trans n_m_pc
  replace n_y_pw : h_929.2.1 y_pw = F_y_pw := (funext fun j => (hs.a g_y_pw rfl j).1).trans n_y_pw
  replace n_m_pw : h_929.2.1 m_pw = F_m_pw := (funext fun j => (hs.a g_m_pw rfl j).1).trans n_m_pw
  replace n_y_pk : h_929.2.1 y_pk = F_y_pk := (funext fun j => (hs.a g_y_pk rfl j).1).trans n_y_pk
  replace n_m_pk : h_929.2.1 m_pk = F_m_pk := (funext fun j => (hs.a g_m_pk rfl j).1).trans n_m_pk
  replace gx := gx.S hs
  replace gm := gm.S hs
  replace g_qa := g_qa.S hs
  replace g_qp := g_qp.S hs
  replace g_qc := g_qc.S hs
  replace g_qh := g_qh.S hs
  replace g_qw := g_qw.S hs
  replace g_ql := g_ql.S hs
  replace g_mw := g_mw.S hs
  replace g_mr := g_mr.S hs
  replace g_mp := g_mp.S hs
  replace g_mn := g_mn.S hs
  replace g_ml := g_ml.S hs
  replace g_mh := g_mh.S hs
  replace g_mt := g_mt.S hs
  replace g_m_fou := g_m_fou.S hs
  replace g_qo_ln := g_qo_ln.S hs
  replace g_qo_py := g_qo_py.S hs
  replace g_qo_pmn := g_qo_pmn.S hs
  replace g_b_of := g_b_of.S hs
  replace g_m_of := g_m_of.S hs
  replace g_b_wf := g_b_wf.S hs
  replace g_m_wf := g_m_wf.S hs
  replace g_b_df := g_b_df.S hs
  replace g_m_df := g_m_df.S hs
  replace g_b_kf := g_b_kf.S hs
  replace g_m_kf := g_m_kf.S hs
  replace g_b_sf := g_b_sf.S hs
  replace g_m_sf := g_m_sf.S hs
  replace g_b_bf := g_b_bf.S hs
  replace g_m_lst := g_m_lst.S hs
  replace g_qtp := g_qtp.S hs
  replace g_m_tp := g_m_tp.S hs
  replace g_m_dead := g_m_dead.S hs
  replace g_m_isj := g_m_isj.S hs
  replace g_m_dox := g_m_dox.S hs
  replace g_m_doy := g_m_doy.S hs
  replace g_qlt := g_qlt.S hs
  replace g_qlf := g_qlf.S hs
  replace g_m_wkd := g_m_wkd.S hs
  replace g_m_aga := g_m_aga.S hs
  replace g_qwo := g_qwo.S hs
  replace g_m_ad := g_m_ad.S hs
  replace g_m_by := g_m_by.S hs
  replace g_m_ho := g_m_ho.S hs
  replace g_m_fc := g_m_fc.S hs
  replace g_m_nt := g_m_nt.S hs
  replace g_m_wt := g_m_wt.S hs
  replace g_m_be := g_m_be.S hs
  replace g_m_bor := g_m_bor.S hs
  replace g_m_kin := g_m_kin.S hs
  replace g_m_sum := g_m_sum.S hs
  replace g_m_fro := g_m_fro.S hs
  replace g_m_fil := g_m_fil.S hs
  replace g_m_jud := g_m_jud.S hs
  replace g_m_ear := g_m_ear.S hs
  replace g_m_hds := g_m_hds.S hs
  replace g_m_ord := g_m_ord.S hs
  replace g_m_wkl := g_m_wkl.S hs
  replace g_m_owd := g_m_owd.S hs
  replace g_m_gds := g_m_gds.S hs
  replace g_m_szd := g_m_szd.S hs
  replace g_m_srv := g_m_srv.S hs
  replace g_y_p0 := g_y_p0.S hs
  replace g_m_p0 := g_m_p0.S hs
  replace g_y_p1 := g_y_p1.S hs
  replace g_m_p1 := g_m_p1.S hs
  replace g_y_p2 := g_y_p2.S hs
  replace g_m_p2 := g_m_p2.S hs
  replace g_y_p3 := g_y_p3.S hs
  replace g_m_p3 := g_m_p3.S hs
  replace g_y_p4 := g_y_p4.S hs
  replace g_m_p4 := g_m_p4.S hs
  replace g_qrg9 := g_qrg9.S hs
  replace g_y_ls := g_y_ls.S hs
  replace g_m_rl := g_m_rl.S hs
  replace g_y_pc := g_y_pc.S hs
  replace g_m_pc := g_m_pc.S hs
  replace g_y_pw := g_y_pw.S hs
  replace g_m_pw := g_m_pw.S hs
  replace g_y_pk := g_y_pk.S hs
  replace g_m_pk := g_m_pk.S hs
  replace gq_926 := gq_926.S hs
  refine lv_pop hx hb dL_law_1352 rfl ?_
  refine lv_goto (tgt := 1379) hx hb dL_law_1353 ?o46 ?_
  case o46 => decide
  have heq := hv_OT_eq hr_921 hr_932 (fun j hj => hv_oJ_e hFR9 hHO9 (hAB _).2 j hj) (fun j hj => congrArg Int32.toInt (eq_tri _ (by have h9 := hHO9 j hj; unfold Int32.toNatClampNeg; omega)))
  refine W.widen (k := CC + 3) (n := SS + 179) ?o47 ?o48 ?_
  case o47 => omega
  case o48 => omega
  refine kk L_928 h_929 H locs ls hW ⟨hT, gx, gm, ⟨f_x_now.trans f_m_now.symm, f_x_personCount.trans f_m_persons.symm, f_x_claimCount.trans f_m_claims.symm, f_x_tapeLength.trans f_m_taped.symm, f_x_actCount.trans f_m_acts.symm, f_x_heardCount.trans f_m_heardMany.symm, hx_ob f_qo_ln (f_o_ln.trans f_m_lines.symm), hx_ob f_qw (f_o_lsd.trans f_m_listed.symm), hx_ob f_qw (f_o_wkm.trans f_m_walkedMany.symm), hx_ob f_qo_py (f_o_py.trans f_m_payments.symm), hx_ob f_qo_pmn (f_o_pmn.trans f_m_planMany.symm), hx_ob f_qp ?o49, hx_ob f_qc ?o50, (fun b a r hb ha hr => ?o51), (fun b a r hb ha hr => ?o52), (fun b a r hb ha hr => ?o53), (fun b a r hb ha hr => ?o54), (fun b a r hb ha hr => ?o55), (fun b a r hb ha hr => ?o56), (fun w q c hw hq hc => ?o57), (fun w q r hw hq hr => ?o58), (fun w q r hw hq hr => ?o59), (fun c q a hc hq ha => ?o60), (fun q r hq hr => ?o61), (fun q w a b c d e p hq hw ha hb hc hd he hp => ?o62), (fun c q a hc hq ha => ?o63), (fun q c a hq hc ha => ?o64), (fun a b ha hb => ?o65), (fun c a b d e f hc ha hb hd he hf => ?o66), (fun c a hc ha => ?o67), hx_ob2 f_qp f_m_bor (cl_bor.trans n_bor.symm), hx_ob2 f_qp f_m_kin (cl_kin.trans n_kin.symm), hx_ob2 f_qc f_m_sum (cl_sum.trans n_sum.symm), hx_ob2 f_qc f_m_fro (cl_fro.trans n_fro.symm), hx_ob2 f_qc f_m_fil (cl_fil.trans n_fil.symm), hx_ob2 f_qc f_mh (cl_hea.trans n_mh.symm), hx_ob2 f_qc f_m_jud (cl_jud.trans n_jud.symm), hx_ob2 f_qp f_m_ear (cl_ear.trans n_ear.symm), hx_ob2 f_qp f_m_hds (cl_hds.trans n_hds.symm), hx_ob2 f_qc f_m_ord (cl_ord.trans n_ord.symm), hx_ob2 f_qc f_m_wkl (cl_wkl.trans n_wkl.symm), hx_ob2 f_qc f_m_owd (cl_owd.trans n_owd.symm), hx_ob2 f_qc f_m_gds (cl_gds.trans n_gds.symm), hx_ob2 f_qc f_m_szd (cl_szd.trans n_szd.symm), hx_ob2 f_qc f_m_srv (cl_srv.trans n_srv.symm), (fun p q r hp hq hr => ?o68), (fun p q r hp hq hr => ?o69), (fun p q r hp hq hr => ?o70), (fun p q r hp hq hr => ?o71), (fun p q r hp hq hr => ?o72), (fun p hp => ?o73), (fun p q r hp hq hr => ?o74), (fun p a b c d e f hp ha hb hc hd he hf => ?o75), hx_ob2 f_qp f_m_dead ?o76, hx_ob2 f_qp f_m_isj ?o77, hx_ob2 f_qp f_m_dox ?o78, hx_ob2 f_qp f_m_doy ?o79, hx_ob2 f_qc f_m_fou ?o80, hx_ob2 f_qc f_mt ?o81, trivial⟩, ⟨hx_ob f_qa pf_qa, hx_ob f_qp pf_qp, hx_ob f_qc pf_qc, hx_ob f_qh pf_qh, (fun w q hw hq => ?o82)⟩, ⟨hx_ob f_mw ?o83, hx_ob f_mr ?o84, hx_ob2 f_mp f_mn ?o85, hx_ob f_ml ?o86, hx_ob f_mh ?o87, hx_ob f_mt ?o88, hx_ob2 f_mh f_m_fou ?o90⟩⟩ hl
  case o49 =>
    rw [f_x_personCount]
    exact nu_qp
  case o50 =>
    rw [f_x_claimCount]
    exact nu_qc
  case o51 =>
    obtain rfl : qo_ln = b := Option.some.inj (f_qo_ln.symm.trans hb)
    obtain rfl : b_of = a := Option.some.inj (f_b_of.symm.trans ha)
    obtain rfl : m_of = r := Option.some.inj (f_m_of.symm.trans hr)
    rw [n_b_of, n_m_of, f_o_ln]
    exact eb_of
  case o52 =>
    obtain rfl : qo_ln = b := Option.some.inj (f_qo_ln.symm.trans hb)
    obtain rfl : b_wf = a := Option.some.inj (f_b_wf.symm.trans ha)
    obtain rfl : m_wf = r := Option.some.inj (f_m_wf.symm.trans hr)
    rw [n_b_wf, n_m_wf, f_o_ln]
    exact eb_wf
  case o53 =>
    obtain rfl : qo_ln = b := Option.some.inj (f_qo_ln.symm.trans hb)
    obtain rfl : b_df = a := Option.some.inj (f_b_df.symm.trans ha)
    obtain rfl : m_df = r := Option.some.inj (f_m_df.symm.trans hr)
    rw [n_b_df, n_m_df, f_o_ln]
    exact eb_df
  case o54 =>
    obtain rfl : qo_ln = b := Option.some.inj (f_qo_ln.symm.trans hb)
    obtain rfl : b_kf = a := Option.some.inj (f_b_kf.symm.trans ha)
    obtain rfl : m_kf = r := Option.some.inj (f_m_kf.symm.trans hr)
    rw [n_b_kf, n_m_kf, f_o_ln]
    exact eb_kf
  case o55 =>
    obtain rfl : qo_ln = b := Option.some.inj (f_qo_ln.symm.trans hb)
    obtain rfl : b_sf = a := Option.some.inj (f_b_sf.symm.trans ha)
    obtain rfl : m_sf = r := Option.some.inj (f_m_sf.symm.trans hr)
    rw [n_b_sf, n_m_sf, f_o_ln]
    exact eb_sf
  case o56 =>
    obtain rfl : qo_ln = b := Option.some.inj (f_qo_ln.symm.trans hb)
    obtain rfl : b_df = a := Option.some.inj (f_b_df.symm.trans ha)
    obtain rfl : b_bf = r := Option.some.inj (f_b_bf.symm.trans hr)
    rw [n_b_df, n_b_bf, f_o_ln]
    exact ⟨hBD, hDY⟩
  case o57 =>
    obtain rfl : qw = w := Option.some.inj (f_qw.symm.trans hw)
    obtain rfl : ql = q := Option.some.inj (f_ql.symm.trans hq)
    obtain rfl : qc = c := Option.some.inj (f_qc.symm.trans hc)
    exact sb_list
  case o58 =>
    obtain rfl : qw = w := Option.some.inj (f_qw.symm.trans hw)
    obtain rfl : ql = q := Option.some.inj (f_ql.symm.trans hq)
    obtain rfl : m_lst = r := Option.some.inj (f_m_lst.symm.trans hr)
    rw [cl_lst, n_lst]
    exact eq_lst
  case o59 =>
    obtain rfl : qw = w := Option.some.inj (f_qw.symm.trans hw)
    obtain rfl : qlt = q := Option.some.inj (f_qlt.symm.trans hq)
    obtain rfl : m_wkd = r := Option.some.inj (f_m_wkd.symm.trans hr)
    rw [n_qlt, n_m_wkd, f_o_wkm]
    exact eb_wkd
  case o60 =>
    obtain rfl : qc = c := Option.some.inj (f_qc.symm.trans hc)
    obtain rfl : qp = q := Option.some.inj (f_qp.symm.trans hq)
    obtain rfl : m_aga = a := Option.some.inj (f_m_aga.symm.trans ha)
    rw [n_aga, f_x_claimCount]
    exact hw_DF_e hDF rfl rfl
  case o61 =>
    obtain rfl : qtp = q := Option.some.inj (f_qtp.symm.trans hq)
    obtain rfl : m_tp = r := Option.some.inj (f_m_tp.symm.trans hr)
    exact n_qtp.trans n_tp.symm
  case o62 =>
    obtain rfl : qa = q := Option.some.inj (f_qa.symm.trans hq)
    obtain rfl : qwo = w := Option.some.inj (f_qwo.symm.trans hw)
    obtain rfl : m_ad = a := Option.some.inj (f_m_ad.symm.trans ha)
    obtain rfl : mr = b := Option.some.inj (f_mr.symm.trans hb)
    obtain rfl : mn = c := Option.some.inj (f_mn.symm.trans hc)
    obtain rfl : mp = d := Option.some.inj (f_mp.symm.trans hd)
    obtain rfl : qc = e := Option.some.inj (f_qc.symm.trans he)
    obtain rfl : ml = p := Option.some.inj (f_ml.symm.trans hp)
    exact ⟨_, by rw [f_x_actCount]; exact hRA9, by rw [f_x_actCount, n_ad, n_mr, n_mn, n_mp]; exact hCA9, by rw [n_ml, f_x_claimCount]; exact hv_AC_e hAC9 rfl rfl rfl, hAB⟩
  case o63 =>
    obtain rfl : qc = c := Option.some.inj (f_qc.symm.trans hc)
    obtain rfl : qp = q := Option.some.inj (f_qp.symm.trans hq)
    obtain rfl : m_by = a := Option.some.inj (f_m_by.symm.trans ha)
    rw [n_by, f_x_claimCount]
    exact hw_DF_e hDP rfl rfl
  case o64 =>
    obtain rfl : qh = q := Option.some.inj (f_qh.symm.trans hq)
    obtain rfl : qc = c := Option.some.inj (f_qc.symm.trans hc)
    obtain rfl : m_ho = a := Option.some.inj (f_m_ho.symm.trans ha)
    rw [n_ho, f_x_heardCount, f_x_claimCount]
    exact hv_HL_e hHL rfl rfl rfl
  case o65 =>
    obtain rfl : m_ho = a := Option.some.inj (f_m_ho.symm.trans ha)
    obtain rfl : mh = b := Option.some.inj (f_mh.symm.trans hb)
    rw [n_ho, n_mh, f_m_heardMany, f_m_claims]
    exact hHO9
  case o66 =>
    obtain rfl : qc = c := Option.some.inj (f_qc.symm.trans hc)
    obtain rfl : m_fc = a := Option.some.inj (f_m_fc.symm.trans ha)
    obtain rfl : m_nt = b := Option.some.inj (f_m_nt.symm.trans hb)
    obtain rfl : m_wt = d := Option.some.inj (f_m_wt.symm.trans hd)
    obtain rfl : m_sum = e := Option.some.inj (f_m_sum.symm.trans he)
    obtain rfl : mh = f := Option.some.inj (f_mh.symm.trans hf)
    exact ⟨cF9L, by rw [f_x_claimCount]; exact hFX, by rw [n_fc, n_nt, n_wt, n_sum, n_mh, f_x_claimCount]; exact hFR9⟩
  case o67 =>
    obtain rfl : qc = c := Option.some.inj (f_qc.symm.trans hc)
    obtain rfl : m_be = a := Option.some.inj (f_m_be.symm.trans ha)
    rw [n_be, f_x_claimCount]
    exact hv_FX_e hBX rfl rfl
  case o68 =>
    obtain rfl : qo_py = p := Option.some.inj (f_qo_py.symm.trans hp)
    obtain rfl : y_p0 = q := Option.some.inj (f_y_p0.symm.trans hq)
    obtain rfl : m_p0 = r := Option.some.inj (f_m_p0.symm.trans hr)
    exact n_y_p0.trans n_p0.symm
  case o69 =>
    obtain rfl : qo_py = p := Option.some.inj (f_qo_py.symm.trans hp)
    obtain rfl : y_p1 = q := Option.some.inj (f_y_p1.symm.trans hq)
    obtain rfl : m_p1 = r := Option.some.inj (f_m_p1.symm.trans hr)
    exact n_y_p1.trans n_p1.symm
  case o70 =>
    obtain rfl : qo_py = p := Option.some.inj (f_qo_py.symm.trans hp)
    obtain rfl : y_p2 = q := Option.some.inj (f_y_p2.symm.trans hq)
    obtain rfl : m_p2 = r := Option.some.inj (f_m_p2.symm.trans hr)
    exact n_y_p2.trans n_p2.symm
  case o71 =>
    obtain rfl : qo_py = p := Option.some.inj (f_qo_py.symm.trans hp)
    obtain rfl : y_p3 = q := Option.some.inj (f_y_p3.symm.trans hq)
    obtain rfl : m_p3 = r := Option.some.inj (f_m_p3.symm.trans hr)
    exact n_y_p3.trans n_p3.symm
  case o72 =>
    obtain rfl : qo_py = p := Option.some.inj (f_qo_py.symm.trans hp)
    obtain rfl : y_p4 = q := Option.some.inj (f_y_p4.symm.trans hq)
    obtain rfl : m_p4 = r := Option.some.inj (f_m_p4.symm.trans hr)
    exact n_y_p4.trans n_p4.symm
  case o73 =>
    obtain rfl : qrg9 = p := Option.some.inj (f_qrg9.symm.trans hp)
    rw [ffv_909, ffv_910, ffv_911]
    exact hNQ9
  case o74 =>
    obtain rfl : qrg9 = p := Option.some.inj (f_qrg9.symm.trans hp)
    obtain rfl : y_ls = q := Option.some.inj (f_y_ls.symm.trans hq)
    obtain rfl : m_rl = r := Option.some.inj (f_m_rl.symm.trans hr)
    rw [n_y_ls, n_m_rl, ffv_909]
    exact hRL9
  case o75 =>
    obtain rfl : qo_pmn = p := Option.some.inj (f_qo_pmn.symm.trans hp)
    obtain rfl : y_pc = a := Option.some.inj (f_y_pc.symm.trans ha)
    obtain rfl : y_pw = b := Option.some.inj (f_y_pw.symm.trans hb)
    obtain rfl : y_pk = c := Option.some.inj (f_y_pk.symm.trans hc)
    obtain rfl : m_pc = d := Option.some.inj (f_m_pc.symm.trans hd)
    obtain rfl : m_pw = e := Option.some.inj (f_m_pw.symm.trans he)
    obtain rfl : m_pk = f := Option.some.inj (f_m_pk.symm.trans hf)
    rw [n_y_pc, n_y_pw, n_y_pk, n_m_pc, n_m_pw, n_m_pk, f_o_pmn]
    exact hEA9
  case o76 =>
    rw [cl_dead, n_dead]
    exact eq_dead
  case o77 =>
    rw [cl_isj, n_isj]
    exact eq_isj
  case o78 =>
    rw [cl_dox, n_dox]
    exact eq_dox
  case o79 =>
    rw [cl_doy, n_doy]
    exact eq_doy
  case o80 =>
    rw [cl_fou, n_m_fou]
    exact eq_fou
  case o81 =>
    rw [cl_tri, n_mt]
    exact eq_tri
  case o82 =>
    obtain rfl : qw = w := Option.some.inj (f_qw.symm.trans hw)
    obtain rfl : ql = q := Option.some.inj (f_ql.symm.trans hq)
    exact pf_ql
  case o83 =>
    rw [n_mw]
    exact hwd
  case o84 =>
    rw [n_mr, f_m_acts]
    exact hWK
  case o85 =>
    rw [n_mp, n_mn, f_m_acts]
    exact hRP
  case o86 =>
    rw [n_ml, f_m_claims, f_m_acts]
    exact hPL
  case o87 =>
    rw [n_mh, f_m_heardMany, f_m_claims]
    exact hHC
  case o88 =>
    rw [n_mt]
    refine (hx_TR_le hTR ?o89)
    case o89 => omega
  case o90 =>
    rw [n_mh, n_m_fou, f_m_claims]
    exact hHF

set_option maxHeartbeats 4000000 in
set_option maxRecDepth 100000 in
theorem law_case_30 {p : Program} {e : Env} {s : State} {m : MethodId} {below : List Frame} {meth : Method} {c : Code} (l : Launch) {b LN : Nat} {xs : Nat → Int32} (hx : p.tables.exec = Jvm.exec) (hb : c.code = code) (hr : meth.sig.returnType = ret) (hlocks : meth.locks = false) (hml : c.maxLocals = 4) (hown : s.vm.findClass "SmallCourtLaw" = some m.cls) (hts : ∀ w ∈ hx_all, w.before #[Value.ref b] s = true) (hX : va_X b LN xs s s.heap) (hbl : b < s.heap.size) (hbA : ¬ s.heap.size ≤ b) (hLN : LN ≤ 3584) (dC : Nat → ClassId) (dI : Nat → Nat → Nat) (dA : Nat → ClassId) (b0 : hx_z) (ax am : Nat) (T1 : Int) (hT0 : 0 ≤ T1) (hT1 : T1 ≤ 511) (i : Int32) (hi0 : 0 ≤ i.toInt) (hiL : i.toInt + 7 ≤ LN) (CC SS : Nat) (hCC : CC + 3 ≤ 600000) (hSS : SS + 179 ≤ 7302250) (L1 : List Nat) (hl1 : hx_h) (H : Heap) (locs : List Loc) (ls : Array Slot) (hW : hx_W T_tb (P_ty dA) (dC, dI) vwCl (fun q : Nat => s.heap.size ≤ q) s.heap L1 hl1 s H locs) (hZ : hx_Xt (fun q : Nat => s.heap.size ≤ q) b0 s) (hI : hx_IV T1 ax am L1 hl1) (hl : lv_has ls 4 [(3, .int i), (2, .ref am), (1, .ref ax), (0, .ref b)]) (kk : ∀ (L2 : List Nat) (h2 : hx_h) (H2 : Heap) (locs2 : List Loc) (ls2 : Array Slot), hx_W T_tb (P_ty dA) (dC, dI) vwCl (fun q : Nat => s.heap.size ≤ q) s.heap L2 h2 s H2 locs2 → hx_IV (T1 + 1) ax am L2 h2 → lv_has ls2 4 [(3, .int i), (2, .ref am), (1, .ref ax), (0, .ref b)] → W p l e room_1 s m #[Value.ref b] below meth c H2 locs2 (CC + 3) (SS + 179) (lw_Z below #[Value.ref b] s) (F0 m 1379 ls2 [])) : W p l e room_1 s m #[Value.ref b] below meth c H locs CC SS (lw_Z below #[Value.ref b] s) (F0 m 1356 ls []) := by
  have hI9 := hI
  have hT := hI9.1
  replace hI9 := hI9.2
  have gx := hI9.1
  replace hI9 := hI9.2
  have gm := hI9.1
  replace hI9 := hI9.2
  have zq0_3 := hI9.1
  have he_nw := zq0_3.1
  replace zq0_3 := zq0_3.2
  have he_np := zq0_3.1
  replace zq0_3 := zq0_3.2
  have he_c0 := zq0_3.1
  replace zq0_3 := zq0_3.2
  have he_tl := zq0_3.1
  replace zq0_3 := zq0_3.2
  have he_a0 := zq0_3.1
  replace zq0_3 := zq0_3.2
  have he_m0 := zq0_3.1
  replace zq0_3 := zq0_3.2
  have ho_ln := zq0_3.1
  replace zq0_3 := zq0_3.2
  have ho_lsd := zq0_3.1
  replace zq0_3 := zq0_3.2
  have ho_wkm := zq0_3.1
  replace zq0_3 := zq0_3.2
  have ho_py := zq0_3.1
  replace zq0_3 := zq0_3.2
  have ho_pmn := zq0_3.1
  replace zq0_3 := zq0_3.2
  have hn_qp := zq0_3.1
  replace zq0_3 := zq0_3.2
  have hn_qc := zq0_3.1
  replace zq0_3 := zq0_3.2
  have hk_of := zq0_3.1
  replace zq0_3 := zq0_3.2
  have hk_wf := zq0_3.1
  replace zq0_3 := zq0_3.2
  have hk_df := zq0_3.1
  replace zq0_3 := zq0_3.2
  have hk_kf := zq0_3.1
  replace zq0_3 := zq0_3.2
  have hk_sf := zq0_3.1
  replace zq0_3 := zq0_3.2
  have hkBD := zq0_3.1
  replace zq0_3 := zq0_3.2
  have hLQ := zq0_3.1
  replace zq0_3 := zq0_3.2
  have hLE := zq0_3.1
  replace zq0_3 := zq0_3.2
  have hkWD := zq0_3.1
  replace zq0_3 := zq0_3.2
  have hkDF := zq0_3.1
  replace zq0_3 := zq0_3.2
  have hkTP := zq0_3.1
  replace zq0_3 := zq0_3.2
  have hkAC := zq0_3.1
  replace zq0_3 := zq0_3.2
  have hkDP := zq0_3.1
  replace zq0_3 := zq0_3.2
  have hkHL := zq0_3.1
  replace zq0_3 := zq0_3.2
  have hkHO := zq0_3.1
  replace zq0_3 := zq0_3.2
  have hkFX := zq0_3.1
  replace zq0_3 := zq0_3.2
  have hkBX := zq0_3.1
  replace zq0_3 := zq0_3.2
  have hf_bor := zq0_3.1
  replace zq0_3 := zq0_3.2
  have hf_kin := zq0_3.1
  replace zq0_3 := zq0_3.2
  have hf_sum := zq0_3.1
  replace zq0_3 := zq0_3.2
  have hf_fro := zq0_3.1
  replace zq0_3 := zq0_3.2
  have hf_fil := zq0_3.1
  replace zq0_3 := zq0_3.2
  have hf_hea := zq0_3.1
  replace zq0_3 := zq0_3.2
  have hf_jud := zq0_3.1
  replace zq0_3 := zq0_3.2
  have hf_ear := zq0_3.1
  replace zq0_3 := zq0_3.2
  have hf_hds := zq0_3.1
  replace zq0_3 := zq0_3.2
  have hf_ord := zq0_3.1
  replace zq0_3 := zq0_3.2
  have hf_wkl := zq0_3.1
  replace zq0_3 := zq0_3.2
  have hf_owd := zq0_3.1
  replace zq0_3 := zq0_3.2
  have hf_gds := zq0_3.1
  replace zq0_3 := zq0_3.2
  have hf_szd := zq0_3.1
  replace zq0_3 := zq0_3.2
  have hf_srv := zq0_3.1
  replace zq0_3 := zq0_3.2
  have hkP0 := zq0_3.1
  replace zq0_3 := zq0_3.2
  have hkP1 := zq0_3.1
  replace zq0_3 := zq0_3.2
  have hkP2 := zq0_3.1
  replace zq0_3 := zq0_3.2
  have hkP3 := zq0_3.1
  replace zq0_3 := zq0_3.2
  have hkP4 := zq0_3.1
  replace zq0_3 := zq0_3.2
  have hkNQ := zq0_3.1
  replace zq0_3 := zq0_3.2
  have hkRL := zq0_3.1
  replace zq0_3 := zq0_3.2
  have hkPG := zq0_3.1
  replace zq0_3 := zq0_3.2
  have hc_dead := zq0_3.1
  replace zq0_3 := zq0_3.2
  have hc_isj := zq0_3.1
  replace zq0_3 := zq0_3.2
  have hc_dox := zq0_3.1
  replace zq0_3 := zq0_3.2
  have hc_doy := zq0_3.1
  replace zq0_3 := zq0_3.2
  have hc_fou := zq0_3.1
  replace zq0_3 := zq0_3.2
  have hc_tri := zq0_3.1
  replace zq0_3 := zq0_3.2
  replace hI9 := hI9.2
  have zq0_4 := hI9.1
  have ia := zq0_4.1
  replace zq0_4 := zq0_4.2
  have ip := zq0_4.1
  replace zq0_4 := zq0_4.2
  have ic := zq0_4.1
  replace zq0_4 := zq0_4.2
  have ih := zq0_4.1
  replace zq0_4 := zq0_4.2
  have il := zq0_4
  replace hI9 := hI9.2
  have zq0_5 := hI9
  have jw := zq0_5.1
  replace zq0_5 := zq0_5.2
  have jr := zq0_5.1
  replace zq0_5 := zq0_5.2
  have jp := zq0_5.1
  replace zq0_5 := zq0_5.2
  have jl := zq0_5.1
  replace zq0_5 := zq0_5.2
  have jh := zq0_5.1
  replace zq0_5 := zq0_5.2
  have jt := zq0_5.1
  replace zq0_5 := zq0_5.2
  have jf := zq0_5
  obtain ⟨qa, f_qa, g_qa⟩ := hx_rf hT gx tt_9 (k := 5) (u := 43) rfl
  have pf_qa := ia qa f_qa
  obtain ⟨qp, f_qp, g_qp⟩ := hx_rf hT gx tt_9 (k := 7) (u := 44) rfl
  have pf_qp := ip qp f_qp
  obtain ⟨qc, f_qc, g_qc⟩ := hx_rf hT gx tt_9 (k := 10) (u := 45) rfl
  have pf_qc := ic qc f_qc
  obtain ⟨qh, f_qh, g_qh⟩ := hx_rf hT gx tt_9 (k := 12) (u := 46) rfl
  have pf_qh := ih qh f_qh
  obtain ⟨qw, f_qw, g_qw⟩ := hx_rf hT gx tt_9 (k := 19) (u := 8) rfl
  obtain ⟨ql, f_ql, g_ql⟩ := hx_rf hT g_qw tt_8 (k := 3) (u := 40) rfl
  have pf_ql := il qw ql f_qw f_ql
  obtain ⟨nw, f_m_now⟩ : ∃ y : Int32, hl1.2.1 am 0 = y := ⟨_, rfl⟩
  have b_nw := hT.gi gm tt_10 (k := 0) rfl
  rw [f_m_now] at b_nw
  have b_nw : 0 ≤ nw.toInt ∧ nw.toInt ≤ 7999 := b_nw
  obtain ⟨np, f_m_persons⟩ : ∃ y : Int32, hl1.2.1 am 20 = y := ⟨_, rfl⟩
  have b_np := hT.gi gm tt_10 (k := 20) rfl
  rw [f_m_persons] at b_np
  have b_np : 0 ≤ np.toInt ∧ np.toInt ≤ 40 := b_np
  obtain ⟨c0, f_m_claims⟩ : ∃ y : Int32, hl1.2.1 am 36 = y := ⟨_, rfl⟩
  have b_c0 := hT.gi gm tt_10 (k := 36) rfl
  rw [f_m_claims] at b_c0
  have b_c0 : 0 ≤ c0.toInt ∧ c0.toInt ≤ 100 := b_c0
  obtain ⟨tl, f_m_taped⟩ : ∃ y : Int32, hl1.2.1 am 7 = y := ⟨_, rfl⟩
  have b_tl := hT.gi gm tt_10 (k := 7) rfl
  rw [f_m_taped] at b_tl
  have b_tl : 0 ≤ tl.toInt ∧ tl.toInt ≤ 400 := b_tl
  obtain ⟨a0, f_m_acts⟩ : ∃ y : Int32, hl1.2.1 am 1 = y := ⟨_, rfl⟩
  have b_a0 := hT.gi gm tt_10 (k := 1) rfl
  rw [f_m_acts] at b_a0
  have b_a0 : 0 ≤ a0.toInt ∧ a0.toInt ≤ 8 := b_a0
  obtain ⟨m0, f_m_heardMany⟩ : ∃ y : Int32, hl1.2.1 am 57 = y := ⟨_, rfl⟩
  have b_m0 := hT.gi gm tt_10 (k := 57) rfl
  rw [f_m_heardMany] at b_m0
  have b_m0 : 0 ≤ m0.toInt ∧ m0.toInt ≤ 100 := b_m0
  obtain ⟨ln, f_m_lines⟩ : ∃ y : Int32, hl1.2.1 am 29 = y := ⟨_, rfl⟩
  have b_ln := hT.gi gm tt_10 (k := 29) rfl
  rw [f_m_lines] at b_ln
  have b_ln : 0 ≤ ln.toInt ∧ ln.toInt ≤ 400 := b_ln
  obtain ⟨lsd, f_m_listed⟩ : ∃ y : Int32, hl1.2.1 am 90 = y := ⟨_, rfl⟩
  have b_lsd := hT.gi gm tt_10 (k := 90) rfl
  rw [f_m_listed] at b_lsd
  have b_lsd : 0 ≤ lsd.toInt ∧ lsd.toInt ≤ 8 := b_lsd
  obtain ⟨wkm, f_m_walkedMany⟩ : ∃ y : Int32, hl1.2.1 am 92 = y := ⟨_, rfl⟩
  have b_wkm := hT.gi gm tt_10 (k := 92) rfl
  rw [f_m_walkedMany] at b_wkm
  have b_wkm : 0 ≤ wkm.toInt ∧ wkm.toInt ≤ 8 := b_wkm
  obtain ⟨py, f_m_payments⟩ : ∃ y : Int32, hl1.2.1 am 59 = y := ⟨_, rfl⟩
  have b_py := hT.gi gm tt_10 (k := 59) rfl
  rw [f_m_payments] at b_py
  have b_py : 0 ≤ py.toInt ∧ py.toInt ≤ 600 := b_py
  obtain ⟨pmn, f_m_planMany⟩ : ∃ y : Int32, hl1.2.1 am 72 = y := ⟨_, rfl⟩
  have b_pmn := hT.gi gm tt_10 (k := 72) rfl
  rw [f_m_planMany] at b_pmn
  have b_pmn : 0 ≤ pmn.toInt ∧ pmn.toInt ≤ 4 := b_pmn
  have f_x_now : hl1.2.1 ax 2 = nw := he_nw.trans f_m_now
  have f_x_personCount : hl1.2.1 ax 8 = np := he_np.trans f_m_persons
  have f_x_claimCount : hl1.2.1 ax 11 = c0 := he_c0.trans f_m_claims
  have f_x_tapeLength : hl1.2.1 ax 1 = tl := he_tl.trans f_m_taped
  have f_x_actCount : hl1.2.1 ax 6 = a0 := he_a0.trans f_m_acts
  have f_x_heardCount : hl1.2.1 ax 13 = m0 := he_m0.trans f_m_heardMany
  obtain ⟨mw, f_mw, g_mw⟩ := hx_rf hT gm tt_10 (k := 19) (u := 57) rfl
  obtain ⟨F_mw, n_mw⟩ : ∃ g : Nat → Int32, hl1.2.1 mw = g := ⟨_, rfl⟩
  obtain ⟨mr, f_mr, g_mr⟩ := hx_rf hT gm tt_10 (k := 3) (u := 50) rfl
  obtain ⟨F_mr, n_mr⟩ : ∃ g : Nat → Int32, hl1.2.1 mr = g := ⟨_, rfl⟩
  obtain ⟨mp, f_mp, g_mp⟩ := hx_rf hT gm tt_10 (k := 5) (u := 52) rfl
  obtain ⟨F_mp, n_mp⟩ : ∃ g : Nat → Int32, hl1.2.1 mp = g := ⟨_, rfl⟩
  obtain ⟨mn, f_mn, g_mn⟩ := hx_rf hT gm tt_10 (k := 4) (u := 51) rfl
  obtain ⟨F_mn, n_mn⟩ : ∃ g : Nat → Int32, hl1.2.1 mn = g := ⟨_, rfl⟩
  obtain ⟨ml, f_ml, g_ml⟩ := hx_rf hT gm tt_10 (k := 44) (u := 79) rfl
  obtain ⟨F_ml, n_ml⟩ : ∃ g : Nat → Int32, hl1.2.1 ml = g := ⟨_, rfl⟩
  obtain ⟨mh, f_mh, g_mh⟩ := hx_rf hT gm tt_10 (k := 47) (u := 82) rfl
  obtain ⟨F_mh, n_mh⟩ : ∃ g : Nat → Int32, hl1.2.1 mh = g := ⟨_, rfl⟩
  obtain ⟨mt, f_mt, g_mt⟩ := hx_rf hT gm tt_10 (k := 45) (u := 80) rfl
  obtain ⟨F_mt, n_mt⟩ : ∃ g : Nat → Int32, hl1.2.1 mt = g := ⟨_, rfl⟩
  obtain ⟨m_fou, f_m_fou, g_m_fou⟩ := hx_rf hT gm tt_10 (k := 46) (u := 81) rfl
  obtain ⟨F_m_fou, n_m_fou⟩ : ∃ g : Nat → Int32, hl1.2.1 m_fou = g := ⟨_, rfl⟩
  obtain ⟨qo_ln, f_qo_ln, g_qo_ln⟩ := hx_rf hT gx tt_9 (k := 9) (u := 1) rfl
  have f_o_ln : hl1.2.1 qo_ln 0 = ln := (ho_ln qo_ln f_qo_ln).trans f_m_lines
  have f_o_lsd : hl1.2.1 qw 0 = lsd := (ho_lsd qw f_qw).trans f_m_listed
  have f_o_wkm : hl1.2.1 qw 1 = wkm := (ho_wkm qw f_qw).trans f_m_walkedMany
  obtain ⟨qo_py, f_qo_py, g_qo_py⟩ := hx_rf hT gx tt_9 (k := 14) (u := 3) rfl
  have f_o_py : hl1.2.1 qo_py 0 = py := (ho_py qo_py f_qo_py).trans f_m_payments
  obtain ⟨qo_pmn, f_qo_pmn, g_qo_pmn⟩ := hx_rf hT gx tt_9 (k := 17) (u := 5) rfl
  have f_o_pmn : hl1.2.1 qo_pmn 1 = pmn := (ho_pmn qo_pmn f_qo_pmn).trans f_m_planMany
  have nu_qp := hn_qp qp f_qp; rw [f_x_personCount] at nu_qp
  have nu_qc := hn_qc qc f_qc; rw [f_x_claimCount] at nu_qc
  obtain ⟨b_of, f_b_of, g_b_of⟩ := hx_rf hT g_qo_ln tt_1 (k := 1) (u := 13) rfl
  obtain ⟨B_of, n_b_of⟩ : ∃ g : Nat → Int32, hl1.2.1 b_of = g := ⟨_, rfl⟩
  obtain ⟨m_of, f_m_of, g_m_of⟩ := hx_rf hT gm tt_10 (k := 30) (u := 66) rfl
  obtain ⟨F_of, n_m_of⟩ : ∃ g : Nat → Int32, hl1.2.1 m_of = g := ⟨_, rfl⟩
  have eb_of := hk_of qo_ln b_of m_of f_qo_ln f_b_of f_m_of; rw [n_b_of, n_m_of, f_o_ln] at eb_of
  obtain ⟨b_wf, f_b_wf, g_b_wf⟩ := hx_rf hT g_qo_ln tt_1 (k := 2) (u := 14) rfl
  obtain ⟨B_wf, n_b_wf⟩ : ∃ g : Nat → Int32, hl1.2.1 b_wf = g := ⟨_, rfl⟩
  obtain ⟨m_wf, f_m_wf, g_m_wf⟩ := hx_rf hT gm tt_10 (k := 31) (u := 67) rfl
  obtain ⟨F_wf, n_m_wf⟩ : ∃ g : Nat → Int32, hl1.2.1 m_wf = g := ⟨_, rfl⟩
  have eb_wf := hk_wf qo_ln b_wf m_wf f_qo_ln f_b_wf f_m_wf; rw [n_b_wf, n_m_wf, f_o_ln] at eb_wf
  obtain ⟨b_df, f_b_df, g_b_df⟩ := hx_rf hT g_qo_ln tt_1 (k := 3) (u := 15) rfl
  obtain ⟨B_df, n_b_df⟩ : ∃ g : Nat → Int32, hl1.2.1 b_df = g := ⟨_, rfl⟩
  obtain ⟨m_df, f_m_df, g_m_df⟩ := hx_rf hT gm tt_10 (k := 32) (u := 68) rfl
  obtain ⟨F_df, n_m_df⟩ : ∃ g : Nat → Int32, hl1.2.1 m_df = g := ⟨_, rfl⟩
  have eb_df := hk_df qo_ln b_df m_df f_qo_ln f_b_df f_m_df; rw [n_b_df, n_m_df, f_o_ln] at eb_df
  obtain ⟨b_kf, f_b_kf, g_b_kf⟩ := hx_rf hT g_qo_ln tt_1 (k := 4) (u := 16) rfl
  obtain ⟨B_kf, n_b_kf⟩ : ∃ g : Nat → Int32, hl1.2.1 b_kf = g := ⟨_, rfl⟩
  obtain ⟨m_kf, f_m_kf, g_m_kf⟩ := hx_rf hT gm tt_10 (k := 33) (u := 69) rfl
  obtain ⟨F_kf, n_m_kf⟩ : ∃ g : Nat → Int32, hl1.2.1 m_kf = g := ⟨_, rfl⟩
  have eb_kf := hk_kf qo_ln b_kf m_kf f_qo_ln f_b_kf f_m_kf; rw [n_b_kf, n_m_kf, f_o_ln] at eb_kf
  obtain ⟨b_sf, f_b_sf, g_b_sf⟩ := hx_rf hT g_qo_ln tt_1 (k := 5) (u := 17) rfl
  obtain ⟨B_sf, n_b_sf⟩ : ∃ g : Nat → Int32, hl1.2.1 b_sf = g := ⟨_, rfl⟩
  obtain ⟨m_sf, f_m_sf, g_m_sf⟩ := hx_rf hT gm tt_10 (k := 34) (u := 70) rfl
  obtain ⟨F_sf, n_m_sf⟩ : ∃ g : Nat → Int32, hl1.2.1 m_sf = g := ⟨_, rfl⟩
  have eb_sf := hk_sf qo_ln b_sf m_sf f_qo_ln f_b_sf f_m_sf; rw [n_b_sf, n_m_sf, f_o_ln] at eb_sf
  obtain ⟨b_bf, f_b_bf, g_b_bf⟩ := hx_rf hT g_qo_ln tt_1 (k := 6) (u := 18) rfl
  obtain ⟨bfL, n_b_bf⟩ : ∃ g : Nat → Int32, hl1.2.1 b_bf = g := ⟨_, rfl⟩
  obtain ⟨hBD, hDY⟩ := hkBD qo_ln b_df b_bf f_qo_ln f_b_df f_b_bf; rw [n_b_df, n_b_bf, f_o_ln] at hBD; rw [n_b_df, f_o_ln] at hDY
  have hBDm := hy_BD_c eb_df hBD
  have hDYm : hy_DY F_df ln.toInt.toNat := fun x hx => by rw [← eb_df x hx]; exact hDY x hx
  have sb_list := hLQ qw ql qc f_qw f_ql f_qc
  obtain ⟨m_lst, f_m_lst, g_m_lst⟩ := hx_rf hT gm tt_10 (k := 91) (u := 112) rfl
  obtain ⟨F_lst, n_lst⟩ : ∃ g : Nat → Int32, hl1.2.1 m_lst = g := ⟨_, rfl⟩
  obtain ⟨c_lst, cl_lst⟩ : ∃ g : Nat → Int32, hx_col 8 hl1 ql 0 = g := ⟨_, rfl⟩
  have eq_lst := hLE qw ql m_lst f_qw f_ql f_m_lst; rw [cl_lst, n_lst] at eq_lst
  obtain ⟨qtp, f_qtp, g_qtp⟩ := hx_rf hT gx tt_9 (k := 0) (u := 42) rfl
  obtain ⟨m_tp, f_m_tp, g_m_tp⟩ := hx_rf hT gm tt_10 (k := 6) (u := 53) rfl
  obtain ⟨F_tp, n_tp⟩ : ∃ g : Nat → Int32, hl1.2.1 m_tp = g := ⟨_, rfl⟩
  have n_qtp : hl1.2.1 qtp = F_tp := (hkTP qtp m_tp f_qtp f_m_tp).trans n_tp
  obtain ⟨c_dead, cl_dead⟩ : ∃ g : Nat → Int32, hx_col 40 hl1 qp 7 = g := ⟨_, rfl⟩
  obtain ⟨m_dead, f_m_dead, g_m_dead⟩ := hx_rf hT gm tt_10 (k := 27) (u := 64) rfl
  obtain ⟨F_dead, n_dead⟩ : ∃ g : Nat → Int32, hl1.2.1 m_dead = g := ⟨_, rfl⟩
  have eq_dead := hc_dead qp m_dead f_qp f_m_dead; rw [cl_dead, n_dead] at eq_dead
  have z_dead : np.toInt.toNat < 40 → c_dead np.toInt.toNat = 0 := fun hj => hx_num_z nu_qp cl_dead hj ?o0
  case o0 => omega
  obtain ⟨c_isj, cl_isj⟩ : ∃ g : Nat → Int32, hx_col 40 hl1 qp 8 = g := ⟨_, rfl⟩
  obtain ⟨m_isj, f_m_isj, g_m_isj⟩ := hx_rf hT gm tt_10 (k := 28) (u := 65) rfl
  obtain ⟨F_isj, n_isj⟩ : ∃ g : Nat → Int32, hl1.2.1 m_isj = g := ⟨_, rfl⟩
  have eq_isj := hc_isj qp m_isj f_qp f_m_isj; rw [cl_isj, n_isj] at eq_isj
  have z_isj : np.toInt.toNat < 40 → c_isj np.toInt.toNat = 0 := fun hj => hx_num_z nu_qp cl_isj hj ?o1
  case o1 => omega
  obtain ⟨c_dox, cl_dox⟩ : ∃ g : Nat → Int32, hx_col 40 hl1 qp 5 = g := ⟨_, rfl⟩
  obtain ⟨m_dox, f_m_dox, g_m_dox⟩ := hx_rf hT gm tt_10 (k := 24) (u := 61) rfl
  obtain ⟨F_dox, n_dox⟩ : ∃ g : Nat → Int32, hl1.2.1 m_dox = g := ⟨_, rfl⟩
  have eq_dox := hc_dox qp m_dox f_qp f_m_dox; rw [cl_dox, n_dox] at eq_dox
  have z_dox : np.toInt.toNat < 40 → c_dox np.toInt.toNat = 0 := fun hj => hx_num_z nu_qp cl_dox hj ?o2
  case o2 => omega
  obtain ⟨c_doy, cl_doy⟩ : ∃ g : Nat → Int32, hx_col 40 hl1 qp 6 = g := ⟨_, rfl⟩
  obtain ⟨m_doy, f_m_doy, g_m_doy⟩ := hx_rf hT gm tt_10 (k := 25) (u := 62) rfl
  obtain ⟨F_doy, n_doy⟩ : ∃ g : Nat → Int32, hl1.2.1 m_doy = g := ⟨_, rfl⟩
  have eq_doy := hc_doy qp m_doy f_qp f_m_doy; rw [cl_doy, n_doy] at eq_doy
  have z_doy : np.toInt.toNat < 40 → c_doy np.toInt.toNat = 0 := fun hj => hx_num_z nu_qp cl_doy hj ?o3
  case o3 => omega
  obtain ⟨c_fou, cl_fou⟩ : ∃ g : Nat → Int32, hx_col 100 hl1 qc 10 = g := ⟨_, rfl⟩
  have eq_fou := hc_fou qc m_fou f_qc f_m_fou; rw [cl_fou, n_m_fou] at eq_fou
  have z_fou : c0.toInt.toNat < 100 → c_fou c0.toInt.toNat = 0 := fun hj => hx_num_z nu_qc cl_fou hj ?o4
  case o4 => omega
  obtain ⟨c_tri, cl_tri⟩ : ∃ g : Nat → Int32, hx_col 100 hl1 qc 9 = g := ⟨_, rfl⟩
  have eq_tri := hc_tri qc mt f_qc f_mt; rw [cl_tri, n_mt] at eq_tri
  have z_tri : c0.toInt.toNat < 100 → c_tri c0.toInt.toNat = 0 := fun hj => hx_num_z nu_qc cl_tri hj ?o5
  case o5 => omega
  obtain ⟨qlt, f_qlt, g_qlt⟩ := hx_rf hT g_qw tt_8 (k := 2) (u := 39) rfl
  obtain ⟨qlf, f_qlf, g_qlf⟩ := hx_rf hT g_qw tt_8 (k := 4) (u := 41) rfl
  obtain ⟨m_wkd, f_m_wkd, g_m_wkd⟩ := hx_rf hT gm tt_10 (k := 93) (u := 113) rfl
  obtain ⟨F_qlt, n_qlt⟩ : ∃ g : Nat → Int32, hl1.2.1 qlt = g := ⟨_, rfl⟩
  obtain ⟨F_m_wkd, n_m_wkd⟩ : ∃ g : Nat → Int32, hl1.2.1 m_wkd = g := ⟨_, rfl⟩
  have eb_wkd := hkWD qw qlt m_wkd f_qw f_qlt f_m_wkd; rw [n_qlt, n_m_wkd, f_o_wkm] at eb_wkd
  obtain ⟨m_aga, f_m_aga, g_m_aga⟩ := hx_rf hT gm tt_10 (k := 38) (u := 73) rfl
  obtain ⟨F_aga, n_aga⟩ : ∃ g : Nat → Int32, hl1.2.1 m_aga = g := ⟨_, rfl⟩
  have hDF := hkDF qc qp m_aga f_qc f_qp f_m_aga; rw [n_aga, f_x_claimCount] at hDF
  obtain ⟨qwo, f_qwo, g_qwo⟩ := hx_rf hT gx tt_9 (k := 4) (u := 0) rfl
  obtain ⟨m_ad, f_m_ad, g_m_ad⟩ := hx_rf hT gm tt_10 (k := 2) (u := 49) rfl
  obtain ⟨F_ad, n_ad⟩ : ∃ g : Nat → Int32, hl1.2.1 m_ad = g := ⟨_, rfl⟩
  obtain ⟨A9, hRA9, hCA9, hAC9, hAB⟩ := hkAC qa qwo m_ad mr mn mp qc ml f_qa f_qwo f_m_ad f_mr f_mn f_mp f_qc f_ml
  rw [f_x_actCount] at hRA9; rw [f_x_actCount, n_ad, n_mr, n_mn, n_mp] at hCA9
  obtain ⟨m_by, f_m_by, g_m_by⟩ := hx_rf hT gm tt_10 (k := 37) (u := 72) rfl
  obtain ⟨F_by, n_by⟩ : ∃ g : Nat → Int32, hl1.2.1 m_by = g := ⟨_, rfl⟩
  obtain ⟨m_ho, f_m_ho, g_m_ho⟩ := hx_rf hT gm tt_10 (k := 58) (u := 92) rfl
  obtain ⟨F_ho, n_ho⟩ : ∃ g : Nat → Int32, hl1.2.1 m_ho = g := ⟨_, rfl⟩
  obtain ⟨m_fc, f_m_fc, g_m_fc⟩ := hx_rf hT gm tt_10 (k := 53) (u := 88) rfl
  obtain ⟨F_fc, n_fc⟩ : ∃ g : Nat → Int32, hl1.2.1 m_fc = g := ⟨_, rfl⟩
  obtain ⟨m_nt, f_m_nt, g_m_nt⟩ := hx_rf hT gm tt_10 (k := 41) (u := 76) rfl
  obtain ⟨F_nt, n_nt⟩ : ∃ g : Nat → Int32, hl1.2.1 m_nt = g := ⟨_, rfl⟩
  obtain ⟨m_wt, f_m_wt, g_m_wt⟩ := hx_rf hT gm tt_10 (k := 42) (u := 77) rfl
  obtain ⟨F_wt, n_wt⟩ : ∃ g : Nat → Int32, hl1.2.1 m_wt = g := ⟨_, rfl⟩
  obtain ⟨m_be, f_m_be, g_m_be⟩ := hx_rf hT gm tt_10 (k := 52) (u := 87) rfl
  obtain ⟨F_be, n_be⟩ : ∃ g : Nat → Int32, hl1.2.1 m_be = g := ⟨_, rfl⟩
  obtain ⟨m_bor, f_m_bor, g_m_bor⟩ := hx_rf hT gm tt_10 (k := 21) (u := 58) rfl
  obtain ⟨F_bor, n_bor⟩ : ∃ g : Nat → Int32, hl1.2.1 m_bor = g := ⟨_, rfl⟩
  obtain ⟨m_kin, f_m_kin, g_m_kin⟩ := hx_rf hT gm tt_10 (k := 26) (u := 63) rfl
  obtain ⟨F_kin, n_kin⟩ : ∃ g : Nat → Int32, hl1.2.1 m_kin = g := ⟨_, rfl⟩
  obtain ⟨m_sum, f_m_sum, g_m_sum⟩ := hx_rf hT gm tt_10 (k := 39) (u := 74) rfl
  obtain ⟨F_sum, n_sum⟩ : ∃ g : Nat → Int32, hl1.2.1 m_sum = g := ⟨_, rfl⟩
  obtain ⟨m_fro, f_m_fro, g_m_fro⟩ := hx_rf hT gm tt_10 (k := 40) (u := 75) rfl
  obtain ⟨F_fro, n_fro⟩ : ∃ g : Nat → Int32, hl1.2.1 m_fro = g := ⟨_, rfl⟩
  obtain ⟨m_fil, f_m_fil, g_m_fil⟩ := hx_rf hT gm tt_10 (k := 43) (u := 78) rfl
  obtain ⟨F_fil, n_fil⟩ : ∃ g : Nat → Int32, hl1.2.1 m_fil = g := ⟨_, rfl⟩
  obtain ⟨m_jud, f_m_jud, g_m_jud⟩ := hx_rf hT gm tt_10 (k := 51) (u := 86) rfl
  obtain ⟨F_jud, n_jud⟩ : ∃ g : Nat → Int32, hl1.2.1 m_jud = g := ⟨_, rfl⟩
  obtain ⟨m_ear, f_m_ear, g_m_ear⟩ := hx_rf hT gm tt_10 (k := 22) (u := 59) rfl
  obtain ⟨F_ear, n_ear⟩ : ∃ g : Nat → Int32, hl1.2.1 m_ear = g := ⟨_, rfl⟩
  obtain ⟨m_hds, f_m_hds, g_m_hds⟩ := hx_rf hT gm tt_10 (k := 23) (u := 60) rfl
  obtain ⟨F_hds, n_hds⟩ : ∃ g : Nat → Int32, hl1.2.1 m_hds = g := ⟨_, rfl⟩
  obtain ⟨m_ord, f_m_ord, g_m_ord⟩ := hx_rf hT gm tt_10 (k := 48) (u := 83) rfl
  obtain ⟨F_ord, n_ord⟩ : ∃ g : Nat → Int32, hl1.2.1 m_ord = g := ⟨_, rfl⟩
  obtain ⟨m_wkl, f_m_wkl, g_m_wkl⟩ := hx_rf hT gm tt_10 (k := 54) (u := 89) rfl
  obtain ⟨F_wkl, n_wkl⟩ : ∃ g : Nat → Int32, hl1.2.1 m_wkl = g := ⟨_, rfl⟩
  obtain ⟨m_owd, f_m_owd, g_m_owd⟩ := hx_rf hT gm tt_10 (k := 55) (u := 90) rfl
  obtain ⟨F_owd, n_owd⟩ : ∃ g : Nat → Int32, hl1.2.1 m_owd = g := ⟨_, rfl⟩
  obtain ⟨m_gds, f_m_gds, g_m_gds⟩ := hx_rf hT gm tt_10 (k := 56) (u := 91) rfl
  obtain ⟨F_gds, n_gds⟩ : ∃ g : Nat → Int32, hl1.2.1 m_gds = g := ⟨_, rfl⟩
  obtain ⟨m_szd, f_m_szd, g_m_szd⟩ := hx_rf hT gm tt_10 (k := 49) (u := 84) rfl
  obtain ⟨F_szd, n_szd⟩ : ∃ g : Nat → Int32, hl1.2.1 m_szd = g := ⟨_, rfl⟩
  obtain ⟨m_srv, f_m_srv, g_m_srv⟩ := hx_rf hT gm tt_10 (k := 50) (u := 85) rfl
  obtain ⟨F_srv, n_srv⟩ : ∃ g : Nat → Int32, hl1.2.1 m_srv = g := ⟨_, rfl⟩
  have cl_bor : hx_col 40 hl1 qp 1 = F_bor := (hf_bor qp m_bor f_qp f_m_bor).trans n_bor
  have cl_kin : hx_col 40 hl1 qp 2 = F_kin := (hf_kin qp m_kin f_qp f_m_kin).trans n_kin
  have cl_sum : hx_col 100 hl1 qc 6 = F_sum := (hf_sum qc m_sum f_qc f_m_sum).trans n_sum
  have cl_fro : hx_col 100 hl1 qc 7 = F_fro := (hf_fro qc m_fro f_qc f_m_fro).trans n_fro
  have cl_fil : hx_col 100 hl1 qc 8 = F_fil := (hf_fil qc m_fil f_qc f_m_fil).trans n_fil
  have cl_hea : hx_col 100 hl1 qc 11 = F_mh := (hf_hea qc mh f_qc f_mh).trans n_mh
  have cl_jud : hx_col 100 hl1 qc 12 = F_jud := (hf_jud qc m_jud f_qc f_m_jud).trans n_jud
  have cl_ear : hx_col 40 hl1 qp 3 = F_ear := (hf_ear qp m_ear f_qp f_m_ear).trans n_ear
  have cl_hds : hx_col 40 hl1 qp 4 = F_hds := (hf_hds qp m_hds f_qp f_m_hds).trans n_hds
  have cl_ord : hx_col 100 hl1 qc 13 = F_ord := (hf_ord qc m_ord f_qc f_m_ord).trans n_ord
  have cl_wkl : hx_col 100 hl1 qc 14 = F_wkl := (hf_wkl qc m_wkl f_qc f_m_wkl).trans n_wkl
  have cl_owd : hx_col 100 hl1 qc 15 = F_owd := (hf_owd qc m_owd f_qc f_m_owd).trans n_owd
  have cl_gds : hx_col 100 hl1 qc 17 = F_gds := (hf_gds qc m_gds f_qc f_m_gds).trans n_gds
  have cl_szd : hx_col 100 hl1 qc 16 = F_szd := (hf_szd qc m_szd f_qc f_m_szd).trans n_szd
  have cl_srv : hx_col 100 hl1 qc 18 = F_srv := (hf_srv qc m_srv f_qc f_m_srv).trans n_srv
  have htb9 : ∀ c, c < 100 → 0 ≤ (c_tri c).toInt ∧ (c_tri c).toInt ≤ 512 := fun c hc => by rw [eq_tri c hc]; have w := hT.ei g_mt tt_80 (k := c) hc; rw [n_mt] at w; exact w
  have z_jud : F_jud c0.toInt.toNat = 0 := hx_num_z2 nu_qc cl_jud ?o6
  case o6 => omega
  have hDP := hkDP qc qp m_by f_qc f_qp f_m_by; rw [n_by, f_x_claimCount] at hDP
  have hHL := hkHL qh qc m_ho f_qh f_qc f_m_ho; rw [n_ho, f_x_heardCount, f_x_claimCount] at hHL
  have hHO9 := hkHO m_ho mh f_m_ho f_mh; rw [n_ho, n_mh, f_m_heardMany, f_m_claims] at hHO9
  obtain ⟨cF9L, hFX, hFR9⟩ := hkFX qc m_fc m_nt m_wt m_sum mh f_qc f_m_fc f_m_nt f_m_wt f_m_sum f_mh; rw [f_x_claimCount] at hFX; rw [n_fc, n_nt, n_wt, n_sum, n_mh, f_x_claimCount] at hFR9
  have hBX := hkBX qc m_be f_qc f_m_be; rw [n_be, f_x_claimCount] at hBX
  rw [n_ml, f_x_claimCount] at hAC9
  obtain ⟨y_p0, f_y_p0, g_y_p0⟩ := hx_rf hT g_qo_py tt_3 (k := 2) (u := 23) rfl
  obtain ⟨m_p0, f_m_p0, g_m_p0⟩ := hx_rf hT gm tt_10 (k := 60) (u := 93) rfl
  obtain ⟨F_p0, n_p0⟩ : ∃ g : Nat → Int32, hl1.2.1 m_p0 = g := ⟨_, rfl⟩
  have n_y_p0 : hl1.2.1 y_p0 = F_p0 := (hkP0 qo_py y_p0 m_p0 f_qo_py f_y_p0 f_m_p0).trans n_p0
  obtain ⟨y_p1, f_y_p1, g_y_p1⟩ := hx_rf hT g_qo_py tt_3 (k := 3) (u := 24) rfl
  obtain ⟨m_p1, f_m_p1, g_m_p1⟩ := hx_rf hT gm tt_10 (k := 61) (u := 94) rfl
  obtain ⟨F_p1, n_p1⟩ : ∃ g : Nat → Int32, hl1.2.1 m_p1 = g := ⟨_, rfl⟩
  have n_y_p1 : hl1.2.1 y_p1 = F_p1 := (hkP1 qo_py y_p1 m_p1 f_qo_py f_y_p1 f_m_p1).trans n_p1
  obtain ⟨y_p2, f_y_p2, g_y_p2⟩ := hx_rf hT g_qo_py tt_3 (k := 5) (u := 26) rfl
  obtain ⟨m_p2, f_m_p2, g_m_p2⟩ := hx_rf hT gm tt_10 (k := 62) (u := 95) rfl
  obtain ⟨F_p2, n_p2⟩ : ∃ g : Nat → Int32, hl1.2.1 m_p2 = g := ⟨_, rfl⟩
  have n_y_p2 : hl1.2.1 y_p2 = F_p2 := (hkP2 qo_py y_p2 m_p2 f_qo_py f_y_p2 f_m_p2).trans n_p2
  obtain ⟨y_p3, f_y_p3, g_y_p3⟩ := hx_rf hT g_qo_py tt_3 (k := 4) (u := 25) rfl
  obtain ⟨m_p3, f_m_p3, g_m_p3⟩ := hx_rf hT gm tt_10 (k := 63) (u := 96) rfl
  obtain ⟨F_p3, n_p3⟩ : ∃ g : Nat → Int32, hl1.2.1 m_p3 = g := ⟨_, rfl⟩
  have n_y_p3 : hl1.2.1 y_p3 = F_p3 := (hkP3 qo_py y_p3 m_p3 f_qo_py f_y_p3 f_m_p3).trans n_p3
  obtain ⟨y_p4, f_y_p4, g_y_p4⟩ := hx_rf hT g_qo_py tt_3 (k := 1) (u := 22) rfl
  obtain ⟨m_p4, f_m_p4, g_m_p4⟩ := hx_rf hT gm tt_10 (k := 64) (u := 97) rfl
  obtain ⟨F_p4, n_p4⟩ : ∃ g : Nat → Int32, hl1.2.1 m_p4 = g := ⟨_, rfl⟩
  have n_y_p4 : hl1.2.1 y_p4 = F_p4 := (hkP4 qo_py y_p4 m_p4 f_qo_py f_y_p4 f_m_p4).trans n_p4
  obtain ⟨qrg9, f_qrg9, g_qrg9⟩ := hx_rf hT gx tt_9 (k := 18) (u := 7) rfl
  obtain ⟨y_ls, f_y_ls, g_y_ls⟩ := hx_rf hT g_qrg9 tt_7 (k := 3) (u := 35) rfl
  obtain ⟨m_rl, f_m_rl, g_m_rl⟩ := hx_rf hT gm tt_10 (k := 85) (u := 109) rfl
  obtain ⟨F_y_ls, n_y_ls⟩ : ∃ g : Nat → Int32, hl1.2.1 y_ls = g := ⟨_, rfl⟩
  obtain ⟨F_m_rl, n_m_rl⟩ : ∃ g : Nat → Int32, hl1.2.1 m_rl = g := ⟨_, rfl⟩
  obtain ⟨fv_933, efv_933⟩ : ∃ y : Int32, y = hl1.2.1 qrg9 0 := ⟨_, rfl⟩
  have bfv_933 := hT.gi g_qrg9 tt_7 (k := 0) rfl
  rw [← efv_933] at bfv_933
  have bfv_933 : -1 ≤ fv_933.toInt ∧ fv_933.toInt ≤ 100 := bfv_933
  have ffv_933 := efv_933.symm
  obtain ⟨fv_934, efv_934⟩ : ∃ y : Int32, y = hl1.2.1 am 83 := ⟨_, rfl⟩
  have bfv_934 := hT.gi gm tt_10 (k := 83) rfl
  rw [← efv_934] at bfv_934
  have bfv_934 : 0 ≤ fv_934.toInt ∧ fv_934.toInt ≤ 1 := bfv_934
  have ffv_934 := efv_934.symm
  obtain ⟨fv_935, efv_935⟩ : ∃ y : Int32, y = hl1.2.1 am 84 := ⟨_, rfl⟩
  have bfv_935 := hT.gi gm tt_10 (k := 84) rfl
  rw [← efv_935] at bfv_935
  have bfv_935 : 0 ≤ fv_935.toInt ∧ fv_935.toInt ≤ 300 := bfv_935
  have ffv_935 := efv_935.symm
  have hNQ9 := hkNQ qrg9 f_qrg9; rw [ffv_933, ffv_934, ffv_935] at hNQ9
  have hRL9 := hkRL qrg9 y_ls m_rl f_qrg9 f_y_ls f_m_rl; rw [n_y_ls, n_m_rl, ffv_933] at hRL9
  have hCB : hz_CB F_ord F_wkl F_owd F_szd F_gds F_srv := fun c hc => ⟨by have w := hT.ei g_m_ord tt_83 (k := c) (by omega); rw [n_ord] at w; exact w, by have w := hT.ei g_m_wkl tt_89 (k := c) (by omega); rw [n_wkl] at w; exact w, by have w := hT.ei g_m_owd tt_90 (k := c) (by omega); rw [n_owd] at w; exact w, by have w := hT.ei g_m_szd tt_84 (k := c) (by omega); rw [n_szd] at w; exact w, by have w := hT.ei g_m_gds tt_91 (k := c) (by omega); rw [n_gds] at w; exact w, by have w := hT.ei g_m_srv tt_85 (k := c) (by omega); rw [n_srv] at w; exact w⟩
  have hps : ∀ j, j < 600 → 0 ≤ (F_p2 j).toInt ∧ (F_p2 j).toInt ≤ 610000 := fun j hj => by have w := hT.ei g_m_p2 tt_95 (k := j) (by omega); rw [n_p2] at w; exact w
  have hte9 : ∀ c : Nat, c < 100 → (0 ≤ (c_tri c).toInt ∧ (c_tri c).toInt ≤ 512) ∧ (0 ≤ (F_sum c).toInt ∧ (F_sum c).toInt ≤ 9999) := fun c hc => ⟨htb9 c hc, by have w := hT.ei g_m_sum tt_74 (k := c) (by omega); rw [n_sum] at w; exact w⟩
  have hee9 : ∀ c : Nat, c < 40 → (0 ≤ (F_ear c).toInt ∧ (F_ear c).toInt ≤ 9999) ∧ (0 ≤ (F_hds c).toInt ∧ (F_hds c).toInt ≤ 20) := fun c hc => ⟨by have w := hT.ei g_m_ear tt_59 (k := c) (by omega); rw [n_ear] at w; exact w, by have w := hT.ei g_m_hds tt_60 (k := c) (by omega); rw [n_hds] at w; exact w⟩
  have bAG9 : ∀ k, k < 100 → 0 ≤ (F_aga k).toInt ∧ (F_aga k).toInt ≤ 39 := fun k hk => by have w := hT.ei g_m_aga tt_73 (k := k) (by omega); rw [n_aga] at w; exact w
  have bBY9 : ∀ k, k < 100 → 0 ≤ (F_by k).toInt ∧ (F_by k).toInt ≤ 39 := fun k hk => by have w := hT.ei g_m_by tt_72 (k := k) (by omega); rw [n_by] at w; exact w
  have hag9 : ∀ c, c < c0.toInt.toNat → 0 ≤ (F_aga c).toInt ∧ (F_aga c).toInt < 40 ∧ 0 ≤ (F_by c).toInt ∧ (F_by c).toInt < 40 := fun c hc => by have a9 := bAG9 c (by omega); have b9 := bBY9 c (by omega); omega
  have z_wkl : F_wkl c0.toInt.toNat = 0 := hx_num_z2 nu_qc cl_wkl ?o7
  case o7 => omega
  have z_owd : F_owd c0.toInt.toNat = 0 := hx_num_z2 nu_qc cl_owd ?o8
  case o8 => omega
  have z_gds : F_gds c0.toInt.toNat = 0 := hx_num_z2 nu_qc cl_gds ?o9
  case o9 => omega
  obtain ⟨y_pc, f_y_pc, g_y_pc⟩ := hx_rf hT g_qo_pmn tt_5 (k := 2) (u := 27) rfl
  obtain ⟨m_pc, f_m_pc, g_m_pc⟩ := hx_rf hT gm tt_10 (k := 73) (u := 100) rfl
  obtain ⟨F_y_pc, n_y_pc⟩ : ∃ g : Nat → Int32, hl1.2.1 y_pc = g := ⟨_, rfl⟩
  obtain ⟨F_m_pc, n_m_pc⟩ : ∃ g : Nat → Int32, hl1.2.1 m_pc = g := ⟨_, rfl⟩
  obtain ⟨y_pw, f_y_pw, g_y_pw⟩ := hx_rf hT g_qo_pmn tt_5 (k := 3) (u := 28) rfl
  obtain ⟨m_pw, f_m_pw, g_m_pw⟩ := hx_rf hT gm tt_10 (k := 74) (u := 101) rfl
  obtain ⟨F_y_pw, n_y_pw⟩ : ∃ g : Nat → Int32, hl1.2.1 y_pw = g := ⟨_, rfl⟩
  obtain ⟨F_m_pw, n_m_pw⟩ : ∃ g : Nat → Int32, hl1.2.1 m_pw = g := ⟨_, rfl⟩
  obtain ⟨y_pk, f_y_pk, g_y_pk⟩ := hx_rf hT g_qo_pmn tt_5 (k := 4) (u := 29) rfl
  obtain ⟨m_pk, f_m_pk, g_m_pk⟩ := hx_rf hT gm tt_10 (k := 81) (u := 107) rfl
  obtain ⟨F_y_pk, n_y_pk⟩ : ∃ g : Nat → Int32, hl1.2.1 y_pk = g := ⟨_, rfl⟩
  obtain ⟨F_m_pk, n_m_pk⟩ : ∃ g : Nat → Int32, hl1.2.1 m_pk = g := ⟨_, rfl⟩
  have hEA9 := hkPG qo_pmn y_pc y_pw y_pk m_pc m_pw m_pk f_qo_pmn f_y_pc f_y_pw f_y_pk f_m_pc f_m_pw f_m_pk; rw [n_y_pc, n_y_pw, n_y_pk, n_m_pc, n_m_pw, n_m_pk, f_o_pmn] at hEA9
  have hrn9 : ∀ c : Nat, c < c0.toInt.toNat → 0 ≤ (hz_Rn F_ord F_szd F_gds F_owd F_srv (hz_rc A9 F_ml) F_p0 F_p1 F_p2 F_p3 F_p4 nw.toInt py.toInt.toNat) c ∧ (hz_Rn F_ord F_szd F_gds F_owd F_srv (hz_rc A9 F_ml) F_p0 F_p1 F_p2 F_p3 F_p4 nw.toInt py.toInt.toNat) c ≤ 609999 := fun c hc => hz_Rn_b hCB hps ?o10 ?o11 ((hAB _).1 12)
  case o10 => omega
  case o11 => omega
  have hwd := jw mw f_mw; rw [n_mw] at hwd
  have hWK := jr mr f_mr; rw [n_mr, f_m_acts] at hWK
  have hRP := jp mp mn f_mp f_mn; rw [n_mp, n_mn, f_m_acts] at hRP
  have hPL := jl ml f_ml; rw [n_ml, f_m_claims, f_m_acts] at hPL
  have hHC := jh mh f_mh; rw [n_mh, f_m_heardMany, f_m_claims] at hHC
  have hTR := jt mt f_mt; rw [n_mt] at hTR
  have hHF := jf mh m_fou f_mh f_m_fou; rw [n_mh, n_m_fou, f_m_claims] at hHF
  have hwk9 : ∀ c : Nat, c < c0.toInt.toNat → 1 ≤ (A9 (F_ml c).toInt.toNat).2.1 2 := fun c hc => by have p9 := hPL (c : Int) (by omega) (by omega); rw [Int.toNat_natCast] at p9; obtain ⟨_, h29, _⟩ := hCA9.2 (F_ml c).toInt.toNat (by omega); rw [← h29]; show 1 ≤ (if 2 < 13 then _ else 0); rw [if_pos (by decide)]; exact (hWK (F_ml c).toInt p9.1 p9.2).1
  refine lv_aload_n hx hb dL_law_1356 rfl (lv_at hl 2 rfl) ?_
  refine lv_aload_n hx hb dL_law_1357 rfl (lv_at hl 3 rfl) ?_
  refine lv_iload_n hx hb dL_law_1358 rfl (lv_at hl 0 rfl) ?_
  refine lv_iconst (v := 1) hx hb dL_law_1359 ?o12 ?_
  case o12 => decide
  refine lv_iadd hx hb dL_law_1360 ?_
  have rg_936 := i32_r i
  refine lv_topi (fun x_937 ex_937 => ?_)
  have zx_937 : x_937.toInt = i.toInt + 1 := ?o13
  case o13 =>
    rw [ex_937]
    refine i32_add rfl ?o14 ?o15 ?o16
    case o14 => decide
    case o15 => omega
    case o16 => omega
  refine va_sld hx hb hX hbl hbA hW.2.2.2.1 (vp_in_iff.mpr ⟨?o17, ?o18⟩) dL_law_1361 ?_
  case o17 => omega
  case o18 => omega
  refine lv_topi (fun x_938 ex_938 => ?_)
  have hTo := hT
  refine hx_goi (hx_runV (As := [.int x_938]) (rest := []) ⟨hx, hb, hml, hown, hts⟩ hW gx tt_9 (T := TX9) (N := 20) rfl (t_X9_count_v l dC dI dA L1 hl1 H.size ax x_938 hT gx qp g_qp f_qp qc g_qc f_qc qo_ln g_qo_ln f_qo_ln qo_py g_qo_py f_qo_py qw g_qw f_qw c0 f_x_claimCount np f_x_personCount nw f_x_now a0 f_x_actCount ln f_o_ln py f_o_py tl f_x_tapeLength lsd f_o_lsd c_isj cl_isj c_dead cl_dead pf_qp pf_qc) (cwV 1 hts (hx_gV kw_1108 kw_1105 kw_1106 kw_1107 kw_94) rfl rfl rfl (by decide +kernel) ⟨Nat.le_of_ble_eq_true rfl, Nat.le_of_ble_eq_true rfl⟩) rfl hl.1 rfl (Nat.le_of_ble_eq_true rfl) dL_law_1362 ⟨(show CC + 0 ≤ 600000 from ?o19), (show SS + 0 ≤ 7302250 from ?o20)⟩) hW (fun r_941 L_939 h_940 H locs p_942 hW => ?_)
  case o19 => omega
  case o20 => omega
  obtain ⟨hr_943, hT, hs⟩ := p_942
  replace hT : hx_T T_tb L_939 h_940 := hT
  replace hs : hx_S T_tb [] L1 hl1 L_939 h_940 := hs
  replace f_qa := (hs.o gx trivial rfl).2.trans f_qa
  replace f_qp := (hs.o gx trivial rfl).2.trans f_qp
  replace f_qc := (hs.o gx trivial rfl).2.trans f_qc
  replace f_qh := (hs.o gx trivial rfl).2.trans f_qh
  replace f_qw := (hs.o gx trivial rfl).2.trans f_qw
  replace f_ql := (hs.o g_qw trivial rfl).2.trans f_ql
  replace f_m_now := (hs.o gm trivial rfl).1.trans f_m_now
  replace f_m_persons := (hs.o gm trivial rfl).1.trans f_m_persons
  replace f_m_claims := (hs.o gm trivial rfl).1.trans f_m_claims
  replace f_m_taped := (hs.o gm trivial rfl).1.trans f_m_taped
  replace f_m_acts := (hs.o gm trivial rfl).1.trans f_m_acts
  replace f_m_heardMany := (hs.o gm trivial rfl).1.trans f_m_heardMany
  replace f_m_lines := (hs.o gm trivial rfl).1.trans f_m_lines
  replace f_m_listed := (hs.o gm trivial rfl).1.trans f_m_listed
  replace f_m_walkedMany := (hs.o gm trivial rfl).1.trans f_m_walkedMany
  replace f_m_payments := (hs.o gm trivial rfl).1.trans f_m_payments
  replace f_m_planMany := (hs.o gm trivial rfl).1.trans f_m_planMany
  replace f_x_now := (hs.o gx trivial rfl).1.trans f_x_now
  replace f_x_personCount := (hs.o gx trivial rfl).1.trans f_x_personCount
  replace f_x_claimCount := (hs.o gx trivial rfl).1.trans f_x_claimCount
  replace f_x_tapeLength := (hs.o gx trivial rfl).1.trans f_x_tapeLength
  replace f_x_actCount := (hs.o gx trivial rfl).1.trans f_x_actCount
  replace f_x_heardCount := (hs.o gx trivial rfl).1.trans f_x_heardCount
  replace f_mw := (hs.o gm trivial rfl).2.trans f_mw
  replace f_mr := (hs.o gm trivial rfl).2.trans f_mr
  replace f_mp := (hs.o gm trivial rfl).2.trans f_mp
  replace f_mn := (hs.o gm trivial rfl).2.trans f_mn
  replace f_ml := (hs.o gm trivial rfl).2.trans f_ml
  replace f_mh := (hs.o gm trivial rfl).2.trans f_mh
  replace f_mt := (hs.o gm trivial rfl).2.trans f_mt
  replace f_m_fou := (hs.o gm trivial rfl).2.trans f_m_fou
  replace f_qo_ln := (hs.o gx trivial rfl).2.trans f_qo_ln
  replace f_o_ln := (hs.o g_qo_ln trivial rfl).1.trans f_o_ln
  replace f_o_lsd := (hs.o g_qw trivial rfl).1.trans f_o_lsd
  replace f_o_wkm := (hs.o g_qw trivial rfl).1.trans f_o_wkm
  replace f_qo_py := (hs.o gx trivial rfl).2.trans f_qo_py
  replace f_o_py := (hs.o g_qo_py trivial rfl).1.trans f_o_py
  replace f_qo_pmn := (hs.o gx trivial rfl).2.trans f_qo_pmn
  replace f_o_pmn := (hs.o g_qo_pmn trivial rfl).1.trans f_o_pmn
  replace f_b_of := (hs.o g_qo_ln trivial rfl).2.trans f_b_of
  replace f_m_of := (hs.o gm trivial rfl).2.trans f_m_of
  replace f_b_wf := (hs.o g_qo_ln trivial rfl).2.trans f_b_wf
  replace f_m_wf := (hs.o gm trivial rfl).2.trans f_m_wf
  replace f_b_df := (hs.o g_qo_ln trivial rfl).2.trans f_b_df
  replace f_m_df := (hs.o gm trivial rfl).2.trans f_m_df
  replace f_b_kf := (hs.o g_qo_ln trivial rfl).2.trans f_b_kf
  replace f_m_kf := (hs.o gm trivial rfl).2.trans f_m_kf
  replace f_b_sf := (hs.o g_qo_ln trivial rfl).2.trans f_b_sf
  replace f_m_sf := (hs.o gm trivial rfl).2.trans f_m_sf
  replace f_b_bf := (hs.o g_qo_ln trivial rfl).2.trans f_b_bf
  replace f_m_lst := (hs.o gm trivial rfl).2.trans f_m_lst
  replace f_qtp := (hs.o gx trivial rfl).2.trans f_qtp
  replace f_m_tp := (hs.o gm trivial rfl).2.trans f_m_tp
  replace f_m_dead := (hs.o gm trivial rfl).2.trans f_m_dead
  replace f_m_isj := (hs.o gm trivial rfl).2.trans f_m_isj
  replace f_m_dox := (hs.o gm trivial rfl).2.trans f_m_dox
  replace f_m_doy := (hs.o gm trivial rfl).2.trans f_m_doy
  replace f_qlt := (hs.o g_qw trivial rfl).2.trans f_qlt
  replace f_qlf := (hs.o g_qw trivial rfl).2.trans f_qlf
  replace f_m_wkd := (hs.o gm trivial rfl).2.trans f_m_wkd
  replace f_m_aga := (hs.o gm trivial rfl).2.trans f_m_aga
  replace f_qwo := (hs.o gx trivial rfl).2.trans f_qwo
  replace f_m_ad := (hs.o gm trivial rfl).2.trans f_m_ad
  replace f_m_by := (hs.o gm trivial rfl).2.trans f_m_by
  replace f_m_ho := (hs.o gm trivial rfl).2.trans f_m_ho
  replace f_m_fc := (hs.o gm trivial rfl).2.trans f_m_fc
  replace f_m_nt := (hs.o gm trivial rfl).2.trans f_m_nt
  replace f_m_wt := (hs.o gm trivial rfl).2.trans f_m_wt
  replace f_m_be := (hs.o gm trivial rfl).2.trans f_m_be
  replace f_m_bor := (hs.o gm trivial rfl).2.trans f_m_bor
  replace f_m_kin := (hs.o gm trivial rfl).2.trans f_m_kin
  replace f_m_sum := (hs.o gm trivial rfl).2.trans f_m_sum
  replace f_m_fro := (hs.o gm trivial rfl).2.trans f_m_fro
  replace f_m_fil := (hs.o gm trivial rfl).2.trans f_m_fil
  replace f_m_jud := (hs.o gm trivial rfl).2.trans f_m_jud
  replace f_m_ear := (hs.o gm trivial rfl).2.trans f_m_ear
  replace f_m_hds := (hs.o gm trivial rfl).2.trans f_m_hds
  replace f_m_ord := (hs.o gm trivial rfl).2.trans f_m_ord
  replace f_m_wkl := (hs.o gm trivial rfl).2.trans f_m_wkl
  replace f_m_owd := (hs.o gm trivial rfl).2.trans f_m_owd
  replace f_m_gds := (hs.o gm trivial rfl).2.trans f_m_gds
  replace f_m_szd := (hs.o gm trivial rfl).2.trans f_m_szd
  replace f_m_srv := (hs.o gm trivial rfl).2.trans f_m_srv
  replace f_y_p0 := (hs.o g_qo_py trivial rfl).2.trans f_y_p0
  replace f_m_p0 := (hs.o gm trivial rfl).2.trans f_m_p0
  replace f_y_p1 := (hs.o g_qo_py trivial rfl).2.trans f_y_p1
  replace f_m_p1 := (hs.o gm trivial rfl).2.trans f_m_p1
  replace f_y_p2 := (hs.o g_qo_py trivial rfl).2.trans f_y_p2
  replace f_m_p2 := (hs.o gm trivial rfl).2.trans f_m_p2
  replace f_y_p3 := (hs.o g_qo_py trivial rfl).2.trans f_y_p3
  replace f_m_p3 := (hs.o gm trivial rfl).2.trans f_m_p3
  replace f_y_p4 := (hs.o g_qo_py trivial rfl).2.trans f_y_p4
  replace f_m_p4 := (hs.o gm trivial rfl).2.trans f_m_p4
  replace f_qrg9 := (hs.o gx trivial rfl).2.trans f_qrg9
  replace f_y_ls := (hs.o g_qrg9 trivial rfl).2.trans f_y_ls
  replace f_m_rl := (hs.o gm trivial rfl).2.trans f_m_rl
  replace ffv_933 := (hs.o g_qrg9 trivial rfl).1.trans ffv_933
  replace ffv_934 := (hs.o gm trivial rfl).1.trans ffv_934
  replace ffv_935 := (hs.o gm trivial rfl).1.trans ffv_935
  replace f_y_pc := (hs.o g_qo_pmn trivial rfl).2.trans f_y_pc
  replace f_m_pc := (hs.o gm trivial rfl).2.trans f_m_pc
  replace f_y_pw := (hs.o g_qo_pmn trivial rfl).2.trans f_y_pw
  replace f_m_pw := (hs.o gm trivial rfl).2.trans f_m_pw
  replace f_y_pk := (hs.o g_qo_pmn trivial rfl).2.trans f_y_pk
  replace f_m_pk := (hs.o gm trivial rfl).2.trans f_m_pk
  replace pf_qa : ∀ j : Nat, (j : Int) < (h_940.2.1 ax 6).toInt → h_940.2.2 qa j ≠ none := by
    intro j hj; rw [(hs.o gx trivial rfl).1] at hj; rw [(hs.a g_qa rfl j).2]; exact pf_qa j hj
  replace pf_qp : ∀ j : Nat, (j : Int) < (h_940.2.1 ax 8).toInt → h_940.2.2 qp j ≠ none := by
    intro j hj; rw [(hs.o gx trivial rfl).1] at hj; rw [(hs.a g_qp rfl j).2]; exact pf_qp j hj
  replace pf_qc : ∀ j : Nat, (j : Int) < (h_940.2.1 ax 11).toInt → h_940.2.2 qc j ≠ none := by
    intro j hj; rw [(hs.o gx trivial rfl).1] at hj; rw [(hs.a g_qc rfl j).2]; exact pf_qc j hj
  replace pf_qh : ∀ j : Nat, (j : Int) < (h_940.2.1 ax 13).toInt → h_940.2.2 qh j ≠ none := by
    intro j hj; rw [(hs.o gx trivial rfl).1] at hj; rw [(hs.a g_qh rfl j).2]; exact pf_qh j hj
  replace pf_ql : ∀ j : Nat, (j : Int) < (h_940.2.1 qw 0).toInt → h_940.2.2 ql j ≠ none := by
    intro j hj; rw [(hs.o g_qw trivial rfl).1] at hj; rw [(hs.a g_ql rfl j).2]; exact pf_ql j hj
  replace cl_lst : hx_col 8 h_940 ql 0 = c_lst := (hx_col_S hs hTo g_ql tt_40 tt_2 rfl rfl).trans cl_lst
  replace cl_dead : hx_col 40 h_940 qp 7 = c_dead := (hx_col_S hs hTo g_qp tt_44 tt_4 rfl rfl).trans cl_dead
  replace cl_isj : hx_col 40 h_940 qp 8 = c_isj := (hx_col_S hs hTo g_qp tt_44 tt_4 rfl rfl).trans cl_isj
  replace cl_dox : hx_col 40 h_940 qp 5 = c_dox := (hx_col_S hs hTo g_qp tt_44 tt_4 rfl rfl).trans cl_dox
  replace cl_doy : hx_col 40 h_940 qp 6 = c_doy := (hx_col_S hs hTo g_qp tt_44 tt_4 rfl rfl).trans cl_doy
  replace cl_fou : hx_col 100 h_940 qc 10 = c_fou := (hx_col_S hs hTo g_qc tt_45 tt_2 rfl rfl).trans cl_fou
  replace cl_tri : hx_col 100 h_940 qc 9 = c_tri := (hx_col_S hs hTo g_qc tt_45 tt_2 rfl rfl).trans cl_tri
  replace cl_bor : hx_col 40 h_940 qp 1 = F_bor := (hx_col_S hs hTo g_qp tt_44 tt_4 rfl rfl).trans cl_bor
  replace cl_kin : hx_col 40 h_940 qp 2 = F_kin := (hx_col_S hs hTo g_qp tt_44 tt_4 rfl rfl).trans cl_kin
  replace cl_sum : hx_col 100 h_940 qc 6 = F_sum := (hx_col_S hs hTo g_qc tt_45 tt_2 rfl rfl).trans cl_sum
  replace cl_fro : hx_col 100 h_940 qc 7 = F_fro := (hx_col_S hs hTo g_qc tt_45 tt_2 rfl rfl).trans cl_fro
  replace cl_fil : hx_col 100 h_940 qc 8 = F_fil := (hx_col_S hs hTo g_qc tt_45 tt_2 rfl rfl).trans cl_fil
  replace cl_hea : hx_col 100 h_940 qc 11 = F_mh := (hx_col_S hs hTo g_qc tt_45 tt_2 rfl rfl).trans cl_hea
  replace cl_jud : hx_col 100 h_940 qc 12 = F_jud := (hx_col_S hs hTo g_qc tt_45 tt_2 rfl rfl).trans cl_jud
  replace cl_ear : hx_col 40 h_940 qp 3 = F_ear := (hx_col_S hs hTo g_qp tt_44 tt_4 rfl rfl).trans cl_ear
  replace cl_hds : hx_col 40 h_940 qp 4 = F_hds := (hx_col_S hs hTo g_qp tt_44 tt_4 rfl rfl).trans cl_hds
  replace cl_ord : hx_col 100 h_940 qc 13 = F_ord := (hx_col_S hs hTo g_qc tt_45 tt_2 rfl rfl).trans cl_ord
  replace cl_wkl : hx_col 100 h_940 qc 14 = F_wkl := (hx_col_S hs hTo g_qc tt_45 tt_2 rfl rfl).trans cl_wkl
  replace cl_owd : hx_col 100 h_940 qc 15 = F_owd := (hx_col_S hs hTo g_qc tt_45 tt_2 rfl rfl).trans cl_owd
  replace cl_gds : hx_col 100 h_940 qc 17 = F_gds := (hx_col_S hs hTo g_qc tt_45 tt_2 rfl rfl).trans cl_gds
  replace cl_szd : hx_col 100 h_940 qc 16 = F_szd := (hx_col_S hs hTo g_qc tt_45 tt_2 rfl rfl).trans cl_szd
  replace cl_srv : hx_col 100 h_940 qc 18 = F_srv := (hx_col_S hs hTo g_qc tt_45 tt_2 rfl rfl).trans cl_srv
  replace nu_qp : hx_num 40 h_940 qp 0 (np.toInt) := hx_num_S hs hTo g_qp tt_44 tt_4 rfl rfl nu_qp
  replace nu_qc : hx_num 100 h_940 qc 0 (c0.toInt) := hx_num_S hs hTo g_qc tt_45 tt_2 rfl rfl nu_qc
  replace sb_list : hx_LQ 8 100 h_940 ql qc := hx_LQ_S hs g_ql g_qc rfl rfl sb_list
  replace hDF : hw_DF h_940 qc qp 2 F_aga c0.toInt := hw_DF_S hs hTo g_qc g_qp tt_45 tt_2 rfl rfl rfl hDF
  replace hRA9 : hv_RA h_940 qa qwo a0.toInt A9 := hv_RA_S hs hTo g_qa g_qwo tt_43 tt_0 rfl rfl rfl rfl rfl rfl ?o21 hRA9
  case o21 => omega
  replace hDP : hw_DF h_940 qc qp 1 F_by c0.toInt := hw_DF_S hs hTo g_qc g_qp tt_45 tt_2 rfl rfl rfl hDP
  replace hAC9 : hv_AC h_940 qc F_ml c0.toInt A9 := hv_AC_S hs hTo g_qc tt_45 tt_2 rfl tt_0 rfl rfl rfl rfl rfl rfl rfl hAC9
  replace hFX : hv_FX 8 4 h_940 qc cF9L c0.toInt := hv_FX_S hs hTo g_qc tt_45 tt_2 rfl rfl rfl rfl hFX
  replace hBX : hv_FX 3 5 h_940 qc F_be c0.toInt := hv_FX_S hs hTo g_qc tt_45 tt_2 rfl rfl rfl rfl hBX
  replace hHL : hv_HL h_940 qh qc F_ho m0.toInt c0.toInt := hv_HL_S hs g_qh g_qc rfl rfl hHL
  replace n_mw : h_940.2.1 mw = F_mw := (funext fun j => (hs.a g_mw rfl j).1).trans n_mw
  replace n_mr : h_940.2.1 mr = F_mr := (funext fun j => (hs.a g_mr rfl j).1).trans n_mr
  replace n_mp : h_940.2.1 mp = F_mp := (funext fun j => (hs.a g_mp rfl j).1).trans n_mp
  replace n_mn : h_940.2.1 mn = F_mn := (funext fun j => (hs.a g_mn rfl j).1).trans n_mn
  replace n_ml : h_940.2.1 ml = F_ml := (funext fun j => (hs.a g_ml rfl j).1).trans n_ml
  replace n_mh : h_940.2.1 mh = F_mh := (funext fun j => (hs.a g_mh rfl j).1).trans n_mh
  replace n_mt : h_940.2.1 mt = F_mt := (funext fun j => (hs.a g_mt rfl j).1).trans n_mt
  replace n_m_fou : h_940.2.1 m_fou = F_m_fou := (funext fun j => (hs.a g_m_fou rfl j).1).trans n_m_fou
  replace n_b_of : h_940.2.1 b_of = B_of := (funext fun j => (hs.a g_b_of rfl j).1).trans n_b_of
  replace n_m_of : h_940.2.1 m_of = F_of := (funext fun j => (hs.a g_m_of rfl j).1).trans n_m_of
  replace n_b_wf : h_940.2.1 b_wf = B_wf := (funext fun j => (hs.a g_b_wf rfl j).1).trans n_b_wf
  replace n_m_wf : h_940.2.1 m_wf = F_wf := (funext fun j => (hs.a g_m_wf rfl j).1).trans n_m_wf
  replace n_b_df : h_940.2.1 b_df = B_df := (funext fun j => (hs.a g_b_df rfl j).1).trans n_b_df
  replace n_m_df : h_940.2.1 m_df = F_df := (funext fun j => (hs.a g_m_df rfl j).1).trans n_m_df
  replace n_b_kf : h_940.2.1 b_kf = B_kf := (funext fun j => (hs.a g_b_kf rfl j).1).trans n_b_kf
  replace n_m_kf : h_940.2.1 m_kf = F_kf := (funext fun j => (hs.a g_m_kf rfl j).1).trans n_m_kf
  replace n_b_sf : h_940.2.1 b_sf = B_sf := (funext fun j => (hs.a g_b_sf rfl j).1).trans n_b_sf
  replace n_m_sf : h_940.2.1 m_sf = F_sf := (funext fun j => (hs.a g_m_sf rfl j).1).trans n_m_sf
  replace n_b_bf : h_940.2.1 b_bf = bfL := (funext fun j => (hs.a g_b_bf rfl j).1).trans n_b_bf
  replace n_lst : h_940.2.1 m_lst = F_lst := (funext fun j => (hs.a g_m_lst rfl j).1).trans n_lst
  replace n_tp : h_940.2.1 m_tp = F_tp := (funext fun j => (hs.a g_m_tp rfl j).1).trans n_tp
  replace n_qtp : h_940.2.1 qtp = F_tp := (funext fun j => (hs.a g_qtp rfl j).1).trans n_qtp
  replace n_dead : h_940.2.1 m_dead = F_dead := (funext fun j => (hs.a g_m_dead rfl j).1).trans n_dead
  replace n_isj : h_940.2.1 m_isj = F_isj := (funext fun j => (hs.a g_m_isj rfl j).1).trans n_isj
  replace n_dox : h_940.2.1 m_dox = F_dox := (funext fun j => (hs.a g_m_dox rfl j).1).trans n_dox
  replace n_doy : h_940.2.1 m_doy = F_doy := (funext fun j => (hs.a g_m_doy rfl j).1).trans n_doy
  replace n_qlt : h_940.2.1 qlt = F_qlt := (funext fun j => (hs.a g_qlt rfl j).1).trans n_qlt
  replace n_m_wkd : h_940.2.1 m_wkd = F_m_wkd := (funext fun j => (hs.a g_m_wkd rfl j).1).trans n_m_wkd
  replace n_aga : h_940.2.1 m_aga = F_aga := (funext fun j => (hs.a g_m_aga rfl j).1).trans n_aga
  replace n_ad : h_940.2.1 m_ad = F_ad := (funext fun j => (hs.a g_m_ad rfl j).1).trans n_ad
  replace n_by : h_940.2.1 m_by = F_by := (funext fun j => (hs.a g_m_by rfl j).1).trans n_by
  replace n_ho : h_940.2.1 m_ho = F_ho := (funext fun j => (hs.a g_m_ho rfl j).1).trans n_ho
  replace n_fc : h_940.2.1 m_fc = F_fc := (funext fun j => (hs.a g_m_fc rfl j).1).trans n_fc
  replace n_nt : h_940.2.1 m_nt = F_nt := (funext fun j => (hs.a g_m_nt rfl j).1).trans n_nt
  replace n_wt : h_940.2.1 m_wt = F_wt := (funext fun j => (hs.a g_m_wt rfl j).1).trans n_wt
  replace n_be : h_940.2.1 m_be = F_be := (funext fun j => (hs.a g_m_be rfl j).1).trans n_be
  replace n_bor : h_940.2.1 m_bor = F_bor := (funext fun j => (hs.a g_m_bor rfl j).1).trans n_bor
  replace n_kin : h_940.2.1 m_kin = F_kin := (funext fun j => (hs.a g_m_kin rfl j).1).trans n_kin
  replace n_sum : h_940.2.1 m_sum = F_sum := (funext fun j => (hs.a g_m_sum rfl j).1).trans n_sum
  replace n_fro : h_940.2.1 m_fro = F_fro := (funext fun j => (hs.a g_m_fro rfl j).1).trans n_fro
  replace n_fil : h_940.2.1 m_fil = F_fil := (funext fun j => (hs.a g_m_fil rfl j).1).trans n_fil
  replace n_jud : h_940.2.1 m_jud = F_jud := (funext fun j => (hs.a g_m_jud rfl j).1).trans n_jud
  replace n_ear : h_940.2.1 m_ear = F_ear := (funext fun j => (hs.a g_m_ear rfl j).1).trans n_ear
  replace n_hds : h_940.2.1 m_hds = F_hds := (funext fun j => (hs.a g_m_hds rfl j).1).trans n_hds
  replace n_ord : h_940.2.1 m_ord = F_ord := (funext fun j => (hs.a g_m_ord rfl j).1).trans n_ord
  replace n_wkl : h_940.2.1 m_wkl = F_wkl := (funext fun j => (hs.a g_m_wkl rfl j).1).trans n_wkl
  replace n_owd : h_940.2.1 m_owd = F_owd := (funext fun j => (hs.a g_m_owd rfl j).1).trans n_owd
  replace n_gds : h_940.2.1 m_gds = F_gds := (funext fun j => (hs.a g_m_gds rfl j).1).trans n_gds
  replace n_szd : h_940.2.1 m_szd = F_szd := (funext fun j => (hs.a g_m_szd rfl j).1).trans n_szd
  replace n_srv : h_940.2.1 m_srv = F_srv := (funext fun j => (hs.a g_m_srv rfl j).1).trans n_srv
  replace n_p0 : h_940.2.1 m_p0 = F_p0 := (funext fun j => (hs.a g_m_p0 rfl j).1).trans n_p0
  replace n_y_p0 : h_940.2.1 y_p0 = F_p0 := (funext fun j => (hs.a g_y_p0 rfl j).1).trans n_y_p0
  replace n_p1 : h_940.2.1 m_p1 = F_p1 := (funext fun j => (hs.a g_m_p1 rfl j).1).trans n_p1
  replace n_y_p1 : h_940.2.1 y_p1 = F_p1 := (funext fun j => (hs.a g_y_p1 rfl j).1).trans n_y_p1
  replace n_p2 : h_940.2.1 m_p2 = F_p2 := (funext fun j => (hs.a g_m_p2 rfl j).1).trans n_p2
  replace n_y_p2 : h_940.2.1 y_p2 = F_p2 := (funext fun j => (hs.a g_y_p2 rfl j).1).trans n_y_p2
  replace n_p3 : h_940.2.1 m_p3 = F_p3 := (funext fun j => (hs.a g_m_p3 rfl j).1).trans n_p3
  replace n_y_p3 : h_940.2.1 y_p3 = F_p3 := (funext fun j => (hs.a g_y_p3 rfl j).1).trans n_y_p3
  replace n_p4 : h_940.2.1 m_p4 = F_p4 := (funext fun j => (hs.a g_m_p4 rfl j).1).trans n_p4
  replace n_y_p4 : h_940.2.1 y_p4 = F_p4 := (funext fun j => (hs.a g_y_p4 rfl j).1).trans n_y_p4
  replace n_y_ls : h_940.2.1 y_ls = F_y_ls := (funext fun j => (hs.a g_y_ls rfl j).1).trans n_y_ls
  replace n_m_rl : h_940.2.1 m_rl = F_m_rl := (funext fun j => (hs.a g_m_rl rfl j).1).trans n_m_rl
  replace n_y_pc : h_940.2.1 y_pc = F_y_pc := (funext fun j => (hs.a g_y_pc rfl j).1).trans n_y_pc
  replace n_m_pc : h_940.2.1 m_pc = F_m_pc := (funext fun j => (hs.a g_m_pc rfl j).1).trans n_m_pc
  replace n_y_pw : h_940.2.1 y_pw = F_y_pw := (funext fun j => (hs.a g_y_pw rfl j).1).trans n_y_pw
  replace n_m_pw : h_940.2.1 m_pw = F_m_pw := (funext fun j => (hs.a g_m_pw rfl j).1).trans n_m_pw
  replace n_y_pk : h_940.2.1 y_pk = F_y_pk := (funext fun j => (hs.a g_y_pk rfl j).1).trans n_y_pk
  replace n_m_pk : h_940.2.1 m_pk = F_m_pk := (funext fun j => (hs.a g_m_pk rfl j).1).trans n_m_pk
  replace gx := gx.S hs
  replace gm := gm.S hs
  replace g_qa := g_qa.S hs
  replace g_qp := g_qp.S hs
  replace g_qc := g_qc.S hs
  replace g_qh := g_qh.S hs
  replace g_qw := g_qw.S hs
  replace g_ql := g_ql.S hs
  replace g_mw := g_mw.S hs
  replace g_mr := g_mr.S hs
  replace g_mp := g_mp.S hs
  replace g_mn := g_mn.S hs
  replace g_ml := g_ml.S hs
  replace g_mh := g_mh.S hs
  replace g_mt := g_mt.S hs
  replace g_m_fou := g_m_fou.S hs
  replace g_qo_ln := g_qo_ln.S hs
  replace g_qo_py := g_qo_py.S hs
  replace g_qo_pmn := g_qo_pmn.S hs
  replace g_b_of := g_b_of.S hs
  replace g_m_of := g_m_of.S hs
  replace g_b_wf := g_b_wf.S hs
  replace g_m_wf := g_m_wf.S hs
  replace g_b_df := g_b_df.S hs
  replace g_m_df := g_m_df.S hs
  replace g_b_kf := g_b_kf.S hs
  replace g_m_kf := g_m_kf.S hs
  replace g_b_sf := g_b_sf.S hs
  replace g_m_sf := g_m_sf.S hs
  replace g_b_bf := g_b_bf.S hs
  replace g_m_lst := g_m_lst.S hs
  replace g_qtp := g_qtp.S hs
  replace g_m_tp := g_m_tp.S hs
  replace g_m_dead := g_m_dead.S hs
  replace g_m_isj := g_m_isj.S hs
  replace g_m_dox := g_m_dox.S hs
  replace g_m_doy := g_m_doy.S hs
  replace g_qlt := g_qlt.S hs
  replace g_qlf := g_qlf.S hs
  replace g_m_wkd := g_m_wkd.S hs
  replace g_m_aga := g_m_aga.S hs
  replace g_qwo := g_qwo.S hs
  replace g_m_ad := g_m_ad.S hs
  replace g_m_by := g_m_by.S hs
  replace g_m_ho := g_m_ho.S hs
  replace g_m_fc := g_m_fc.S hs
  replace g_m_nt := g_m_nt.S hs
  replace g_m_wt := g_m_wt.S hs
  replace g_m_be := g_m_be.S hs
  replace g_m_bor := g_m_bor.S hs
  replace g_m_kin := g_m_kin.S hs
  replace g_m_sum := g_m_sum.S hs
  replace g_m_fro := g_m_fro.S hs
  replace g_m_fil := g_m_fil.S hs
  replace g_m_jud := g_m_jud.S hs
  replace g_m_ear := g_m_ear.S hs
  replace g_m_hds := g_m_hds.S hs
  replace g_m_ord := g_m_ord.S hs
  replace g_m_wkl := g_m_wkl.S hs
  replace g_m_owd := g_m_owd.S hs
  replace g_m_gds := g_m_gds.S hs
  replace g_m_szd := g_m_szd.S hs
  replace g_m_srv := g_m_srv.S hs
  replace g_y_p0 := g_y_p0.S hs
  replace g_m_p0 := g_m_p0.S hs
  replace g_y_p1 := g_y_p1.S hs
  replace g_m_p1 := g_m_p1.S hs
  replace g_y_p2 := g_y_p2.S hs
  replace g_m_p2 := g_m_p2.S hs
  replace g_y_p3 := g_y_p3.S hs
  replace g_m_p3 := g_m_p3.S hs
  replace g_y_p4 := g_y_p4.S hs
  replace g_m_p4 := g_m_p4.S hs
  replace g_qrg9 := g_qrg9.S hs
  replace g_y_ls := g_y_ls.S hs
  replace g_m_rl := g_m_rl.S hs
  replace g_y_pc := g_y_pc.S hs
  replace g_m_pc := g_m_pc.S hs
  replace g_y_pw := g_y_pw.S hs
  replace g_m_pw := g_m_pw.S hs
  replace g_y_pk := g_y_pk.S hs
  replace g_m_pk := g_m_pk.S hs
  refine lv_pop hx hb dL_law_1365 rfl ?_
  refine lv_aload_n hx hb dL_law_1366 rfl (lv_at hl 1 rfl) ?_
  refine lv_aload_n hx hb dL_law_1367 rfl (lv_at hl 3 rfl) ?_
  refine lv_iload_n hx hb dL_law_1368 rfl (lv_at hl 0 rfl) ?_
  refine lv_iconst (v := 1) hx hb dL_law_1369 ?o22 ?_
  case o22 => decide
  refine lv_iadd hx hb dL_law_1370 ?_
  refine lv_topi (fun x_944 ex_944 => ?_)
  have zx_944 : x_944.toInt = i.toInt + 1 := ?o23
  case o23 =>
    rw [ex_944]
    refine i32_add rfl ?o24 ?o25 ?o26
    case o24 => decide
    case o25 => omega
    case o26 => omega
  obtain rfl : x_937 = x_944 := ex_937.trans ex_944.symm
  refine va_sld hx hb hX hbl hbA hW.2.2.2.1 (vp_in_iff.mpr ⟨?o27, ?o28⟩) dL_law_1371 ?_
  case o27 => omega
  case o28 => omega
  refine lv_topi (fun x_945 ex_945 => ?_)
  obtain rfl : x_938 = x_945 := ex_938.trans ex_945.symm
  have hTo := hT
  refine hx_goi (hx_runV (As := [.int x_938]) (rest := []) ⟨hx, hb, hml, hown, hts⟩ hW gm tt_10 (T := TX10) (N := 98) rfl (t_X10_count_v l dC dI dA L_939 h_940 H.size am x_938 hT gm m_isj g_m_isj f_m_isj m_dead g_m_dead f_m_dead F_isj n_isj F_dead n_dead c0 f_m_claims a0 f_m_acts nw f_m_now py f_m_payments np f_m_persons ln f_m_lines tl f_m_taped lsd f_m_listed) (cwV 1 hts (hx_gV kw_1753 kw_1750 kw_1751 kw_1752 kw_103) rfl rfl rfl (by decide +kernel) ⟨Nat.le_of_ble_eq_true rfl, Nat.le_of_ble_eq_true rfl⟩) rfl hl.1 rfl (Nat.le_of_ble_eq_true rfl) dL_law_1372 ⟨(show CC + 0 + 0 ≤ 600000 from ?o29), (show SS + 0 + 0 ≤ 7302250 from ?o30)⟩) hW (fun r_948 L_946 h_947 H locs p_949 hW => ?_)
  case o29 => omega
  case o30 => omega
  obtain ⟨hr_950, hT, hs⟩ := p_949
  replace hT : hx_T T_tb L_946 h_947 := hT
  replace hs : hx_S T_tb [] L_939 h_940 L_946 h_947 := hs
  replace f_qa := (hs.o gx trivial rfl).2.trans f_qa
  replace f_qp := (hs.o gx trivial rfl).2.trans f_qp
  replace f_qc := (hs.o gx trivial rfl).2.trans f_qc
  replace f_qh := (hs.o gx trivial rfl).2.trans f_qh
  replace f_qw := (hs.o gx trivial rfl).2.trans f_qw
  replace f_ql := (hs.o g_qw trivial rfl).2.trans f_ql
  replace f_m_now := (hs.o gm trivial rfl).1.trans f_m_now
  replace f_m_persons := (hs.o gm trivial rfl).1.trans f_m_persons
  replace f_m_claims := (hs.o gm trivial rfl).1.trans f_m_claims
  replace f_m_taped := (hs.o gm trivial rfl).1.trans f_m_taped
  replace f_m_acts := (hs.o gm trivial rfl).1.trans f_m_acts
  replace f_m_heardMany := (hs.o gm trivial rfl).1.trans f_m_heardMany
  replace f_m_lines := (hs.o gm trivial rfl).1.trans f_m_lines
  replace f_m_listed := (hs.o gm trivial rfl).1.trans f_m_listed
  replace f_m_walkedMany := (hs.o gm trivial rfl).1.trans f_m_walkedMany
  replace f_m_payments := (hs.o gm trivial rfl).1.trans f_m_payments
  replace f_m_planMany := (hs.o gm trivial rfl).1.trans f_m_planMany
  replace f_x_now := (hs.o gx trivial rfl).1.trans f_x_now
  replace f_x_personCount := (hs.o gx trivial rfl).1.trans f_x_personCount
  replace f_x_claimCount := (hs.o gx trivial rfl).1.trans f_x_claimCount
  replace f_x_tapeLength := (hs.o gx trivial rfl).1.trans f_x_tapeLength
  replace f_x_actCount := (hs.o gx trivial rfl).1.trans f_x_actCount
  replace f_x_heardCount := (hs.o gx trivial rfl).1.trans f_x_heardCount
  replace f_mw := (hs.o gm trivial rfl).2.trans f_mw
  replace f_mr := (hs.o gm trivial rfl).2.trans f_mr
  replace f_mp := (hs.o gm trivial rfl).2.trans f_mp
  replace f_mn := (hs.o gm trivial rfl).2.trans f_mn
  replace f_ml := (hs.o gm trivial rfl).2.trans f_ml
  replace f_mh := (hs.o gm trivial rfl).2.trans f_mh
  replace f_mt := (hs.o gm trivial rfl).2.trans f_mt
  replace f_m_fou := (hs.o gm trivial rfl).2.trans f_m_fou
  replace f_qo_ln := (hs.o gx trivial rfl).2.trans f_qo_ln
  replace f_o_ln := (hs.o g_qo_ln trivial rfl).1.trans f_o_ln
  replace f_o_lsd := (hs.o g_qw trivial rfl).1.trans f_o_lsd
  replace f_o_wkm := (hs.o g_qw trivial rfl).1.trans f_o_wkm
  replace f_qo_py := (hs.o gx trivial rfl).2.trans f_qo_py
  replace f_o_py := (hs.o g_qo_py trivial rfl).1.trans f_o_py
  replace f_qo_pmn := (hs.o gx trivial rfl).2.trans f_qo_pmn
  replace f_o_pmn := (hs.o g_qo_pmn trivial rfl).1.trans f_o_pmn
  replace f_b_of := (hs.o g_qo_ln trivial rfl).2.trans f_b_of
  replace f_m_of := (hs.o gm trivial rfl).2.trans f_m_of
  replace f_b_wf := (hs.o g_qo_ln trivial rfl).2.trans f_b_wf
  replace f_m_wf := (hs.o gm trivial rfl).2.trans f_m_wf
  replace f_b_df := (hs.o g_qo_ln trivial rfl).2.trans f_b_df
  replace f_m_df := (hs.o gm trivial rfl).2.trans f_m_df
  replace f_b_kf := (hs.o g_qo_ln trivial rfl).2.trans f_b_kf
  replace f_m_kf := (hs.o gm trivial rfl).2.trans f_m_kf
  replace f_b_sf := (hs.o g_qo_ln trivial rfl).2.trans f_b_sf
  replace f_m_sf := (hs.o gm trivial rfl).2.trans f_m_sf
  replace f_b_bf := (hs.o g_qo_ln trivial rfl).2.trans f_b_bf
  replace f_m_lst := (hs.o gm trivial rfl).2.trans f_m_lst
  replace f_qtp := (hs.o gx trivial rfl).2.trans f_qtp
  replace f_m_tp := (hs.o gm trivial rfl).2.trans f_m_tp
  replace f_m_dead := (hs.o gm trivial rfl).2.trans f_m_dead
  replace f_m_isj := (hs.o gm trivial rfl).2.trans f_m_isj
  replace f_m_dox := (hs.o gm trivial rfl).2.trans f_m_dox
  replace f_m_doy := (hs.o gm trivial rfl).2.trans f_m_doy
  replace f_qlt := (hs.o g_qw trivial rfl).2.trans f_qlt
  replace f_qlf := (hs.o g_qw trivial rfl).2.trans f_qlf
  replace f_m_wkd := (hs.o gm trivial rfl).2.trans f_m_wkd
  replace f_m_aga := (hs.o gm trivial rfl).2.trans f_m_aga
  replace f_qwo := (hs.o gx trivial rfl).2.trans f_qwo
  replace f_m_ad := (hs.o gm trivial rfl).2.trans f_m_ad
  replace f_m_by := (hs.o gm trivial rfl).2.trans f_m_by
  replace f_m_ho := (hs.o gm trivial rfl).2.trans f_m_ho
  replace f_m_fc := (hs.o gm trivial rfl).2.trans f_m_fc
  replace f_m_nt := (hs.o gm trivial rfl).2.trans f_m_nt
  replace f_m_wt := (hs.o gm trivial rfl).2.trans f_m_wt
  replace f_m_be := (hs.o gm trivial rfl).2.trans f_m_be
  replace f_m_bor := (hs.o gm trivial rfl).2.trans f_m_bor
  replace f_m_kin := (hs.o gm trivial rfl).2.trans f_m_kin
  replace f_m_sum := (hs.o gm trivial rfl).2.trans f_m_sum
  replace f_m_fro := (hs.o gm trivial rfl).2.trans f_m_fro
  replace f_m_fil := (hs.o gm trivial rfl).2.trans f_m_fil
  replace f_m_jud := (hs.o gm trivial rfl).2.trans f_m_jud
  replace f_m_ear := (hs.o gm trivial rfl).2.trans f_m_ear
  replace f_m_hds := (hs.o gm trivial rfl).2.trans f_m_hds
  replace f_m_ord := (hs.o gm trivial rfl).2.trans f_m_ord
  replace f_m_wkl := (hs.o gm trivial rfl).2.trans f_m_wkl
  replace f_m_owd := (hs.o gm trivial rfl).2.trans f_m_owd
  replace f_m_gds := (hs.o gm trivial rfl).2.trans f_m_gds
  replace f_m_szd := (hs.o gm trivial rfl).2.trans f_m_szd
  replace f_m_srv := (hs.o gm trivial rfl).2.trans f_m_srv
  replace f_y_p0 := (hs.o g_qo_py trivial rfl).2.trans f_y_p0
  replace f_m_p0 := (hs.o gm trivial rfl).2.trans f_m_p0
  replace f_y_p1 := (hs.o g_qo_py trivial rfl).2.trans f_y_p1
  replace f_m_p1 := (hs.o gm trivial rfl).2.trans f_m_p1
  replace f_y_p2 := (hs.o g_qo_py trivial rfl).2.trans f_y_p2
  replace f_m_p2 := (hs.o gm trivial rfl).2.trans f_m_p2
  replace f_y_p3 := (hs.o g_qo_py trivial rfl).2.trans f_y_p3
  replace f_m_p3 := (hs.o gm trivial rfl).2.trans f_m_p3
  replace f_y_p4 := (hs.o g_qo_py trivial rfl).2.trans f_y_p4
  replace f_m_p4 := (hs.o gm trivial rfl).2.trans f_m_p4
  replace f_qrg9 := (hs.o gx trivial rfl).2.trans f_qrg9
  replace f_y_ls := (hs.o g_qrg9 trivial rfl).2.trans f_y_ls
  replace f_m_rl := (hs.o gm trivial rfl).2.trans f_m_rl
  replace ffv_933 := (hs.o g_qrg9 trivial rfl).1.trans ffv_933
  replace ffv_934 := (hs.o gm trivial rfl).1.trans ffv_934
  replace ffv_935 := (hs.o gm trivial rfl).1.trans ffv_935
  replace f_y_pc := (hs.o g_qo_pmn trivial rfl).2.trans f_y_pc
  replace f_m_pc := (hs.o gm trivial rfl).2.trans f_m_pc
  replace f_y_pw := (hs.o g_qo_pmn trivial rfl).2.trans f_y_pw
  replace f_m_pw := (hs.o gm trivial rfl).2.trans f_m_pw
  replace f_y_pk := (hs.o g_qo_pmn trivial rfl).2.trans f_y_pk
  replace f_m_pk := (hs.o gm trivial rfl).2.trans f_m_pk
  replace pf_qa : ∀ j : Nat, (j : Int) < (h_947.2.1 ax 6).toInt → h_947.2.2 qa j ≠ none := by
    intro j hj; rw [(hs.o gx trivial rfl).1] at hj; rw [(hs.a g_qa rfl j).2]; exact pf_qa j hj
  replace pf_qp : ∀ j : Nat, (j : Int) < (h_947.2.1 ax 8).toInt → h_947.2.2 qp j ≠ none := by
    intro j hj; rw [(hs.o gx trivial rfl).1] at hj; rw [(hs.a g_qp rfl j).2]; exact pf_qp j hj
  replace pf_qc : ∀ j : Nat, (j : Int) < (h_947.2.1 ax 11).toInt → h_947.2.2 qc j ≠ none := by
    intro j hj; rw [(hs.o gx trivial rfl).1] at hj; rw [(hs.a g_qc rfl j).2]; exact pf_qc j hj
  replace pf_qh : ∀ j : Nat, (j : Int) < (h_947.2.1 ax 13).toInt → h_947.2.2 qh j ≠ none := by
    intro j hj; rw [(hs.o gx trivial rfl).1] at hj; rw [(hs.a g_qh rfl j).2]; exact pf_qh j hj
  replace pf_ql : ∀ j : Nat, (j : Int) < (h_947.2.1 qw 0).toInt → h_947.2.2 ql j ≠ none := by
    intro j hj; rw [(hs.o g_qw trivial rfl).1] at hj; rw [(hs.a g_ql rfl j).2]; exact pf_ql j hj
  replace cl_lst : hx_col 8 h_947 ql 0 = c_lst := (hx_col_S hs hTo g_ql tt_40 tt_2 rfl rfl).trans cl_lst
  replace cl_dead : hx_col 40 h_947 qp 7 = c_dead := (hx_col_S hs hTo g_qp tt_44 tt_4 rfl rfl).trans cl_dead
  replace cl_isj : hx_col 40 h_947 qp 8 = c_isj := (hx_col_S hs hTo g_qp tt_44 tt_4 rfl rfl).trans cl_isj
  replace cl_dox : hx_col 40 h_947 qp 5 = c_dox := (hx_col_S hs hTo g_qp tt_44 tt_4 rfl rfl).trans cl_dox
  replace cl_doy : hx_col 40 h_947 qp 6 = c_doy := (hx_col_S hs hTo g_qp tt_44 tt_4 rfl rfl).trans cl_doy
  replace cl_fou : hx_col 100 h_947 qc 10 = c_fou := (hx_col_S hs hTo g_qc tt_45 tt_2 rfl rfl).trans cl_fou
  replace cl_tri : hx_col 100 h_947 qc 9 = c_tri := (hx_col_S hs hTo g_qc tt_45 tt_2 rfl rfl).trans cl_tri
  replace cl_bor : hx_col 40 h_947 qp 1 = F_bor := (hx_col_S hs hTo g_qp tt_44 tt_4 rfl rfl).trans cl_bor
  replace cl_kin : hx_col 40 h_947 qp 2 = F_kin := (hx_col_S hs hTo g_qp tt_44 tt_4 rfl rfl).trans cl_kin
  replace cl_sum : hx_col 100 h_947 qc 6 = F_sum := (hx_col_S hs hTo g_qc tt_45 tt_2 rfl rfl).trans cl_sum
  replace cl_fro : hx_col 100 h_947 qc 7 = F_fro := (hx_col_S hs hTo g_qc tt_45 tt_2 rfl rfl).trans cl_fro
  replace cl_fil : hx_col 100 h_947 qc 8 = F_fil := (hx_col_S hs hTo g_qc tt_45 tt_2 rfl rfl).trans cl_fil
  replace cl_hea : hx_col 100 h_947 qc 11 = F_mh := (hx_col_S hs hTo g_qc tt_45 tt_2 rfl rfl).trans cl_hea
  replace cl_jud : hx_col 100 h_947 qc 12 = F_jud := (hx_col_S hs hTo g_qc tt_45 tt_2 rfl rfl).trans cl_jud
  replace cl_ear : hx_col 40 h_947 qp 3 = F_ear := (hx_col_S hs hTo g_qp tt_44 tt_4 rfl rfl).trans cl_ear
  replace cl_hds : hx_col 40 h_947 qp 4 = F_hds := (hx_col_S hs hTo g_qp tt_44 tt_4 rfl rfl).trans cl_hds
  replace cl_ord : hx_col 100 h_947 qc 13 = F_ord := (hx_col_S hs hTo g_qc tt_45 tt_2 rfl rfl).trans cl_ord
  replace cl_wkl : hx_col 100 h_947 qc 14 = F_wkl := (hx_col_S hs hTo g_qc tt_45 tt_2 rfl rfl).trans cl_wkl
  replace cl_owd : hx_col 100 h_947 qc 15 = F_owd := (hx_col_S hs hTo g_qc tt_45 tt_2 rfl rfl).trans cl_owd
  replace cl_gds : hx_col 100 h_947 qc 17 = F_gds := (hx_col_S hs hTo g_qc tt_45 tt_2 rfl rfl).trans cl_gds
  replace cl_szd : hx_col 100 h_947 qc 16 = F_szd := (hx_col_S hs hTo g_qc tt_45 tt_2 rfl rfl).trans cl_szd
  replace cl_srv : hx_col 100 h_947 qc 18 = F_srv := (hx_col_S hs hTo g_qc tt_45 tt_2 rfl rfl).trans cl_srv
  replace nu_qp : hx_num 40 h_947 qp 0 (np.toInt) := hx_num_S hs hTo g_qp tt_44 tt_4 rfl rfl nu_qp
  replace nu_qc : hx_num 100 h_947 qc 0 (c0.toInt) := hx_num_S hs hTo g_qc tt_45 tt_2 rfl rfl nu_qc
  replace sb_list : hx_LQ 8 100 h_947 ql qc := hx_LQ_S hs g_ql g_qc rfl rfl sb_list
  replace hDF : hw_DF h_947 qc qp 2 F_aga c0.toInt := hw_DF_S hs hTo g_qc g_qp tt_45 tt_2 rfl rfl rfl hDF
  replace hRA9 : hv_RA h_947 qa qwo a0.toInt A9 := hv_RA_S hs hTo g_qa g_qwo tt_43 tt_0 rfl rfl rfl rfl rfl rfl ?o31 hRA9
  case o31 => omega
  replace hDP : hw_DF h_947 qc qp 1 F_by c0.toInt := hw_DF_S hs hTo g_qc g_qp tt_45 tt_2 rfl rfl rfl hDP
  replace hAC9 : hv_AC h_947 qc F_ml c0.toInt A9 := hv_AC_S hs hTo g_qc tt_45 tt_2 rfl tt_0 rfl rfl rfl rfl rfl rfl rfl hAC9
  replace hFX : hv_FX 8 4 h_947 qc cF9L c0.toInt := hv_FX_S hs hTo g_qc tt_45 tt_2 rfl rfl rfl rfl hFX
  replace hBX : hv_FX 3 5 h_947 qc F_be c0.toInt := hv_FX_S hs hTo g_qc tt_45 tt_2 rfl rfl rfl rfl hBX
  replace hHL : hv_HL h_947 qh qc F_ho m0.toInt c0.toInt := hv_HL_S hs g_qh g_qc rfl rfl hHL
  replace n_mw : h_947.2.1 mw = F_mw := (funext fun j => (hs.a g_mw rfl j).1).trans n_mw
  replace n_mr : h_947.2.1 mr = F_mr := (funext fun j => (hs.a g_mr rfl j).1).trans n_mr
  replace n_mp : h_947.2.1 mp = F_mp := (funext fun j => (hs.a g_mp rfl j).1).trans n_mp
  replace n_mn : h_947.2.1 mn = F_mn := (funext fun j => (hs.a g_mn rfl j).1).trans n_mn
  replace n_ml : h_947.2.1 ml = F_ml := (funext fun j => (hs.a g_ml rfl j).1).trans n_ml
  replace n_mh : h_947.2.1 mh = F_mh := (funext fun j => (hs.a g_mh rfl j).1).trans n_mh
  replace n_mt : h_947.2.1 mt = F_mt := (funext fun j => (hs.a g_mt rfl j).1).trans n_mt
  replace n_m_fou : h_947.2.1 m_fou = F_m_fou := (funext fun j => (hs.a g_m_fou rfl j).1).trans n_m_fou
  replace n_b_of : h_947.2.1 b_of = B_of := (funext fun j => (hs.a g_b_of rfl j).1).trans n_b_of
  replace n_m_of : h_947.2.1 m_of = F_of := (funext fun j => (hs.a g_m_of rfl j).1).trans n_m_of
  replace n_b_wf : h_947.2.1 b_wf = B_wf := (funext fun j => (hs.a g_b_wf rfl j).1).trans n_b_wf
  replace n_m_wf : h_947.2.1 m_wf = F_wf := (funext fun j => (hs.a g_m_wf rfl j).1).trans n_m_wf
  replace n_b_df : h_947.2.1 b_df = B_df := (funext fun j => (hs.a g_b_df rfl j).1).trans n_b_df
  replace n_m_df : h_947.2.1 m_df = F_df := (funext fun j => (hs.a g_m_df rfl j).1).trans n_m_df
  replace n_b_kf : h_947.2.1 b_kf = B_kf := (funext fun j => (hs.a g_b_kf rfl j).1).trans n_b_kf
  replace n_m_kf : h_947.2.1 m_kf = F_kf := (funext fun j => (hs.a g_m_kf rfl j).1).trans n_m_kf
  replace n_b_sf : h_947.2.1 b_sf = B_sf := (funext fun j => (hs.a g_b_sf rfl j).1).trans n_b_sf
  replace n_m_sf : h_947.2.1 m_sf = F_sf := (funext fun j => (hs.a g_m_sf rfl j).1).trans n_m_sf
  replace n_b_bf : h_947.2.1 b_bf = bfL := (funext fun j => (hs.a g_b_bf rfl j).1).trans n_b_bf
  replace n_lst : h_947.2.1 m_lst = F_lst := (funext fun j => (hs.a g_m_lst rfl j).1).trans n_lst
  replace n_tp : h_947.2.1 m_tp = F_tp := (funext fun j => (hs.a g_m_tp rfl j).1).trans n_tp
  replace n_qtp : h_947.2.1 qtp = F_tp := (funext fun j => (hs.a g_qtp rfl j).1).trans n_qtp
  replace n_dead : h_947.2.1 m_dead = F_dead := (funext fun j => (hs.a g_m_dead rfl j).1).trans n_dead
  replace n_isj : h_947.2.1 m_isj = F_isj := (funext fun j => (hs.a g_m_isj rfl j).1).trans n_isj
  replace n_dox : h_947.2.1 m_dox = F_dox := (funext fun j => (hs.a g_m_dox rfl j).1).trans n_dox
  replace n_doy : h_947.2.1 m_doy = F_doy := (funext fun j => (hs.a g_m_doy rfl j).1).trans n_doy
  replace n_qlt : h_947.2.1 qlt = F_qlt := (funext fun j => (hs.a g_qlt rfl j).1).trans n_qlt
  replace n_m_wkd : h_947.2.1 m_wkd = F_m_wkd := (funext fun j => (hs.a g_m_wkd rfl j).1).trans n_m_wkd
  replace n_aga : h_947.2.1 m_aga = F_aga := (funext fun j => (hs.a g_m_aga rfl j).1).trans n_aga
  replace n_ad : h_947.2.1 m_ad = F_ad := (funext fun j => (hs.a g_m_ad rfl j).1).trans n_ad
  replace n_by : h_947.2.1 m_by = F_by := (funext fun j => (hs.a g_m_by rfl j).1).trans n_by
  replace n_ho : h_947.2.1 m_ho = F_ho := (funext fun j => (hs.a g_m_ho rfl j).1).trans n_ho
  replace n_fc : h_947.2.1 m_fc = F_fc := (funext fun j => (hs.a g_m_fc rfl j).1).trans n_fc
  replace n_nt : h_947.2.1 m_nt = F_nt := (funext fun j => (hs.a g_m_nt rfl j).1).trans n_nt
  replace n_wt : h_947.2.1 m_wt = F_wt := (funext fun j => (hs.a g_m_wt rfl j).1).trans n_wt
  replace n_be : h_947.2.1 m_be = F_be := (funext fun j => (hs.a g_m_be rfl j).1).trans n_be
  replace n_bor : h_947.2.1 m_bor = F_bor := (funext fun j => (hs.a g_m_bor rfl j).1).trans n_bor
  replace n_kin : h_947.2.1 m_kin = F_kin := (funext fun j => (hs.a g_m_kin rfl j).1).trans n_kin
  replace n_sum : h_947.2.1 m_sum = F_sum := (funext fun j => (hs.a g_m_sum rfl j).1).trans n_sum
  replace n_fro : h_947.2.1 m_fro = F_fro := (funext fun j => (hs.a g_m_fro rfl j).1).trans n_fro
  replace n_fil : h_947.2.1 m_fil = F_fil := (funext fun j => (hs.a g_m_fil rfl j).1).trans n_fil
  replace n_jud : h_947.2.1 m_jud = F_jud := (funext fun j => (hs.a g_m_jud rfl j).1).trans n_jud
  replace n_ear : h_947.2.1 m_ear = F_ear := (funext fun j => (hs.a g_m_ear rfl j).1).trans n_ear
  replace n_hds : h_947.2.1 m_hds = F_hds := (funext fun j => (hs.a g_m_hds rfl j).1).trans n_hds
  replace n_ord : h_947.2.1 m_ord = F_ord := (funext fun j => (hs.a g_m_ord rfl j).1).trans n_ord
  replace n_wkl : h_947.2.1 m_wkl = F_wkl := (funext fun j => (hs.a g_m_wkl rfl j).1).trans n_wkl
  replace n_owd : h_947.2.1 m_owd = F_owd := (funext fun j => (hs.a g_m_owd rfl j).1).trans n_owd
  replace n_gds : h_947.2.1 m_gds = F_gds := (funext fun j => (hs.a g_m_gds rfl j).1).trans n_gds
  replace n_szd : h_947.2.1 m_szd = F_szd := (funext fun j => (hs.a g_m_szd rfl j).1).trans n_szd
  replace n_srv : h_947.2.1 m_srv = F_srv := (funext fun j => (hs.a g_m_srv rfl j).1).trans n_srv
  replace n_p0 : h_947.2.1 m_p0 = F_p0 := (funext fun j => (hs.a g_m_p0 rfl j).1).trans n_p0
  replace n_y_p0 : h_947.2.1 y_p0 = F_p0 := (funext fun j => (hs.a g_y_p0 rfl j).1).trans n_y_p0
  replace n_p1 : h_947.2.1 m_p1 = F_p1 := (funext fun j => (hs.a g_m_p1 rfl j).1).trans n_p1
  replace n_y_p1 : h_947.2.1 y_p1 = F_p1 := (funext fun j => (hs.a g_y_p1 rfl j).1).trans n_y_p1
  replace n_p2 : h_947.2.1 m_p2 = F_p2 := (funext fun j => (hs.a g_m_p2 rfl j).1).trans n_p2
  replace n_y_p2 : h_947.2.1 y_p2 = F_p2 := (funext fun j => (hs.a g_y_p2 rfl j).1).trans n_y_p2
  replace n_p3 : h_947.2.1 m_p3 = F_p3 := (funext fun j => (hs.a g_m_p3 rfl j).1).trans n_p3
  replace n_y_p3 : h_947.2.1 y_p3 = F_p3 := (funext fun j => (hs.a g_y_p3 rfl j).1).trans n_y_p3
  replace n_p4 : h_947.2.1 m_p4 = F_p4 := (funext fun j => (hs.a g_m_p4 rfl j).1).trans n_p4
  replace n_y_p4 : h_947.2.1 y_p4 = F_p4 := (funext fun j => (hs.a g_y_p4 rfl j).1).trans n_y_p4
  replace n_y_ls : h_947.2.1 y_ls = F_y_ls := (funext fun j => (hs.a g_y_ls rfl j).1).trans n_y_ls
  replace n_m_rl : h_947.2.1 m_rl = F_m_rl := (funext fun j => (hs.a g_m_rl rfl j).1).trans n_m_rl
  replace n_y_pc : h_947.2.1 y_pc = F_y_pc := (funext fun j => (hs.a g_y_pc rfl j).1).trans n_y_pc
  replace n_m_pc : h_947.2.1 m_pc = F_m_pc := (funext fun j => (hs.a g_m_pc rfl j).1).trans n_m_pc
  replace n_y_pw : h_947.2.1 y_pw = F_y_pw := (funext fun j => (hs.a g_y_pw rfl j).1).trans n_y_pw
  replace n_m_pw : h_947.2.1 m_pw = F_m_pw := (funext fun j => (hs.a g_m_pw rfl j).1).trans n_m_pw
  replace n_y_pk : h_947.2.1 y_pk = F_y_pk := (funext fun j => (hs.a g_y_pk rfl j).1).trans n_y_pk
  replace n_m_pk : h_947.2.1 m_pk = F_m_pk := (funext fun j => (hs.a g_m_pk rfl j).1).trans n_m_pk
  replace gx := gx.S hs
  replace gm := gm.S hs
  replace g_qa := g_qa.S hs
  replace g_qp := g_qp.S hs
  replace g_qc := g_qc.S hs
  replace g_qh := g_qh.S hs
  replace g_qw := g_qw.S hs
  replace g_ql := g_ql.S hs
  replace g_mw := g_mw.S hs
  replace g_mr := g_mr.S hs
  replace g_mp := g_mp.S hs
  replace g_mn := g_mn.S hs
  replace g_ml := g_ml.S hs
  replace g_mh := g_mh.S hs
  replace g_mt := g_mt.S hs
  replace g_m_fou := g_m_fou.S hs
  replace g_qo_ln := g_qo_ln.S hs
  replace g_qo_py := g_qo_py.S hs
  replace g_qo_pmn := g_qo_pmn.S hs
  replace g_b_of := g_b_of.S hs
  replace g_m_of := g_m_of.S hs
  replace g_b_wf := g_b_wf.S hs
  replace g_m_wf := g_m_wf.S hs
  replace g_b_df := g_b_df.S hs
  replace g_m_df := g_m_df.S hs
  replace g_b_kf := g_b_kf.S hs
  replace g_m_kf := g_m_kf.S hs
  replace g_b_sf := g_b_sf.S hs
  replace g_m_sf := g_m_sf.S hs
  replace g_b_bf := g_b_bf.S hs
  replace g_m_lst := g_m_lst.S hs
  replace g_qtp := g_qtp.S hs
  replace g_m_tp := g_m_tp.S hs
  replace g_m_dead := g_m_dead.S hs
  replace g_m_isj := g_m_isj.S hs
  replace g_m_dox := g_m_dox.S hs
  replace g_m_doy := g_m_doy.S hs
  replace g_qlt := g_qlt.S hs
  replace g_qlf := g_qlf.S hs
  replace g_m_wkd := g_m_wkd.S hs
  replace g_m_aga := g_m_aga.S hs
  replace g_qwo := g_qwo.S hs
  replace g_m_ad := g_m_ad.S hs
  replace g_m_by := g_m_by.S hs
  replace g_m_ho := g_m_ho.S hs
  replace g_m_fc := g_m_fc.S hs
  replace g_m_nt := g_m_nt.S hs
  replace g_m_wt := g_m_wt.S hs
  replace g_m_be := g_m_be.S hs
  replace g_m_bor := g_m_bor.S hs
  replace g_m_kin := g_m_kin.S hs
  replace g_m_sum := g_m_sum.S hs
  replace g_m_fro := g_m_fro.S hs
  replace g_m_fil := g_m_fil.S hs
  replace g_m_jud := g_m_jud.S hs
  replace g_m_ear := g_m_ear.S hs
  replace g_m_hds := g_m_hds.S hs
  replace g_m_ord := g_m_ord.S hs
  replace g_m_wkl := g_m_wkl.S hs
  replace g_m_owd := g_m_owd.S hs
  replace g_m_gds := g_m_gds.S hs
  replace g_m_szd := g_m_szd.S hs
  replace g_m_srv := g_m_srv.S hs
  replace g_y_p0 := g_y_p0.S hs
  replace g_m_p0 := g_m_p0.S hs
  replace g_y_p1 := g_y_p1.S hs
  replace g_m_p1 := g_m_p1.S hs
  replace g_y_p2 := g_y_p2.S hs
  replace g_m_p2 := g_m_p2.S hs
  replace g_y_p3 := g_y_p3.S hs
  replace g_m_p3 := g_m_p3.S hs
  replace g_y_p4 := g_y_p4.S hs
  replace g_m_p4 := g_m_p4.S hs
  replace g_qrg9 := g_qrg9.S hs
  replace g_y_ls := g_y_ls.S hs
  replace g_m_rl := g_m_rl.S hs
  replace g_y_pc := g_y_pc.S hs
  replace g_m_pc := g_m_pc.S hs
  replace g_y_pw := g_y_pw.S hs
  replace g_m_pw := g_m_pw.S hs
  replace g_y_pk := g_y_pk.S hs
  replace g_m_pk := g_m_pk.S hs
  refine lv_pop hx hb dL_law_1375 rfl ?_
  refine lv_goto (tgt := 1379) hx hb dL_law_1376 ?o32 ?_
  case o32 => decide
  have heq := hz_CT_eq hr_943 hr_950 (fun k hk => by rw [hz_lj_e eq_isj eq_dead _ (by omega)])
  refine W.widen (k := CC + 3) (n := SS + 179) ?o33 ?o34 ?_
  case o33 => omega
  case o34 => omega
  refine kk L_946 h_947 H locs ls hW ⟨hT, gx, gm, ⟨f_x_now.trans f_m_now.symm, f_x_personCount.trans f_m_persons.symm, f_x_claimCount.trans f_m_claims.symm, f_x_tapeLength.trans f_m_taped.symm, f_x_actCount.trans f_m_acts.symm, f_x_heardCount.trans f_m_heardMany.symm, hx_ob f_qo_ln (f_o_ln.trans f_m_lines.symm), hx_ob f_qw (f_o_lsd.trans f_m_listed.symm), hx_ob f_qw (f_o_wkm.trans f_m_walkedMany.symm), hx_ob f_qo_py (f_o_py.trans f_m_payments.symm), hx_ob f_qo_pmn (f_o_pmn.trans f_m_planMany.symm), hx_ob f_qp ?o35, hx_ob f_qc ?o36, (fun b a r hb ha hr => ?o37), (fun b a r hb ha hr => ?o38), (fun b a r hb ha hr => ?o39), (fun b a r hb ha hr => ?o40), (fun b a r hb ha hr => ?o41), (fun b a r hb ha hr => ?o42), (fun w q c hw hq hc => ?o43), (fun w q r hw hq hr => ?o44), (fun w q r hw hq hr => ?o45), (fun c q a hc hq ha => ?o46), (fun q r hq hr => ?o47), (fun q w a b c d e p hq hw ha hb hc hd he hp => ?o48), (fun c q a hc hq ha => ?o49), (fun q c a hq hc ha => ?o50), (fun a b ha hb => ?o51), (fun c a b d e f hc ha hb hd he hf => ?o52), (fun c a hc ha => ?o53), hx_ob2 f_qp f_m_bor (cl_bor.trans n_bor.symm), hx_ob2 f_qp f_m_kin (cl_kin.trans n_kin.symm), hx_ob2 f_qc f_m_sum (cl_sum.trans n_sum.symm), hx_ob2 f_qc f_m_fro (cl_fro.trans n_fro.symm), hx_ob2 f_qc f_m_fil (cl_fil.trans n_fil.symm), hx_ob2 f_qc f_mh (cl_hea.trans n_mh.symm), hx_ob2 f_qc f_m_jud (cl_jud.trans n_jud.symm), hx_ob2 f_qp f_m_ear (cl_ear.trans n_ear.symm), hx_ob2 f_qp f_m_hds (cl_hds.trans n_hds.symm), hx_ob2 f_qc f_m_ord (cl_ord.trans n_ord.symm), hx_ob2 f_qc f_m_wkl (cl_wkl.trans n_wkl.symm), hx_ob2 f_qc f_m_owd (cl_owd.trans n_owd.symm), hx_ob2 f_qc f_m_gds (cl_gds.trans n_gds.symm), hx_ob2 f_qc f_m_szd (cl_szd.trans n_szd.symm), hx_ob2 f_qc f_m_srv (cl_srv.trans n_srv.symm), (fun p q r hp hq hr => ?o54), (fun p q r hp hq hr => ?o55), (fun p q r hp hq hr => ?o56), (fun p q r hp hq hr => ?o57), (fun p q r hp hq hr => ?o58), (fun p hp => ?o59), (fun p q r hp hq hr => ?o60), (fun p a b c d e f hp ha hb hc hd he hf => ?o61), hx_ob2 f_qp f_m_dead ?o62, hx_ob2 f_qp f_m_isj ?o63, hx_ob2 f_qp f_m_dox ?o64, hx_ob2 f_qp f_m_doy ?o65, hx_ob2 f_qc f_m_fou ?o66, hx_ob2 f_qc f_mt ?o67, trivial⟩, ⟨hx_ob f_qa pf_qa, hx_ob f_qp pf_qp, hx_ob f_qc pf_qc, hx_ob f_qh pf_qh, (fun w q hw hq => ?o68)⟩, ⟨hx_ob f_mw ?o69, hx_ob f_mr ?o70, hx_ob2 f_mp f_mn ?o71, hx_ob f_ml ?o72, hx_ob f_mh ?o73, hx_ob f_mt ?o74, hx_ob2 f_mh f_m_fou ?o76⟩⟩ hl
  case o35 =>
    rw [f_x_personCount]
    exact nu_qp
  case o36 =>
    rw [f_x_claimCount]
    exact nu_qc
  case o37 =>
    obtain rfl : qo_ln = b := Option.some.inj (f_qo_ln.symm.trans hb)
    obtain rfl : b_of = a := Option.some.inj (f_b_of.symm.trans ha)
    obtain rfl : m_of = r := Option.some.inj (f_m_of.symm.trans hr)
    rw [n_b_of, n_m_of, f_o_ln]
    exact eb_of
  case o38 =>
    obtain rfl : qo_ln = b := Option.some.inj (f_qo_ln.symm.trans hb)
    obtain rfl : b_wf = a := Option.some.inj (f_b_wf.symm.trans ha)
    obtain rfl : m_wf = r := Option.some.inj (f_m_wf.symm.trans hr)
    rw [n_b_wf, n_m_wf, f_o_ln]
    exact eb_wf
  case o39 =>
    obtain rfl : qo_ln = b := Option.some.inj (f_qo_ln.symm.trans hb)
    obtain rfl : b_df = a := Option.some.inj (f_b_df.symm.trans ha)
    obtain rfl : m_df = r := Option.some.inj (f_m_df.symm.trans hr)
    rw [n_b_df, n_m_df, f_o_ln]
    exact eb_df
  case o40 =>
    obtain rfl : qo_ln = b := Option.some.inj (f_qo_ln.symm.trans hb)
    obtain rfl : b_kf = a := Option.some.inj (f_b_kf.symm.trans ha)
    obtain rfl : m_kf = r := Option.some.inj (f_m_kf.symm.trans hr)
    rw [n_b_kf, n_m_kf, f_o_ln]
    exact eb_kf
  case o41 =>
    obtain rfl : qo_ln = b := Option.some.inj (f_qo_ln.symm.trans hb)
    obtain rfl : b_sf = a := Option.some.inj (f_b_sf.symm.trans ha)
    obtain rfl : m_sf = r := Option.some.inj (f_m_sf.symm.trans hr)
    rw [n_b_sf, n_m_sf, f_o_ln]
    exact eb_sf
  case o42 =>
    obtain rfl : qo_ln = b := Option.some.inj (f_qo_ln.symm.trans hb)
    obtain rfl : b_df = a := Option.some.inj (f_b_df.symm.trans ha)
    obtain rfl : b_bf = r := Option.some.inj (f_b_bf.symm.trans hr)
    rw [n_b_df, n_b_bf, f_o_ln]
    exact ⟨hBD, hDY⟩
  case o43 =>
    obtain rfl : qw = w := Option.some.inj (f_qw.symm.trans hw)
    obtain rfl : ql = q := Option.some.inj (f_ql.symm.trans hq)
    obtain rfl : qc = c := Option.some.inj (f_qc.symm.trans hc)
    exact sb_list
  case o44 =>
    obtain rfl : qw = w := Option.some.inj (f_qw.symm.trans hw)
    obtain rfl : ql = q := Option.some.inj (f_ql.symm.trans hq)
    obtain rfl : m_lst = r := Option.some.inj (f_m_lst.symm.trans hr)
    rw [cl_lst, n_lst]
    exact eq_lst
  case o45 =>
    obtain rfl : qw = w := Option.some.inj (f_qw.symm.trans hw)
    obtain rfl : qlt = q := Option.some.inj (f_qlt.symm.trans hq)
    obtain rfl : m_wkd = r := Option.some.inj (f_m_wkd.symm.trans hr)
    rw [n_qlt, n_m_wkd, f_o_wkm]
    exact eb_wkd
  case o46 =>
    obtain rfl : qc = c := Option.some.inj (f_qc.symm.trans hc)
    obtain rfl : qp = q := Option.some.inj (f_qp.symm.trans hq)
    obtain rfl : m_aga = a := Option.some.inj (f_m_aga.symm.trans ha)
    rw [n_aga, f_x_claimCount]
    exact hw_DF_e hDF rfl rfl
  case o47 =>
    obtain rfl : qtp = q := Option.some.inj (f_qtp.symm.trans hq)
    obtain rfl : m_tp = r := Option.some.inj (f_m_tp.symm.trans hr)
    exact n_qtp.trans n_tp.symm
  case o48 =>
    obtain rfl : qa = q := Option.some.inj (f_qa.symm.trans hq)
    obtain rfl : qwo = w := Option.some.inj (f_qwo.symm.trans hw)
    obtain rfl : m_ad = a := Option.some.inj (f_m_ad.symm.trans ha)
    obtain rfl : mr = b := Option.some.inj (f_mr.symm.trans hb)
    obtain rfl : mn = c := Option.some.inj (f_mn.symm.trans hc)
    obtain rfl : mp = d := Option.some.inj (f_mp.symm.trans hd)
    obtain rfl : qc = e := Option.some.inj (f_qc.symm.trans he)
    obtain rfl : ml = p := Option.some.inj (f_ml.symm.trans hp)
    exact ⟨_, by rw [f_x_actCount]; exact hRA9, by rw [f_x_actCount, n_ad, n_mr, n_mn, n_mp]; exact hCA9, by rw [n_ml, f_x_claimCount]; exact hv_AC_e hAC9 rfl rfl rfl, hAB⟩
  case o49 =>
    obtain rfl : qc = c := Option.some.inj (f_qc.symm.trans hc)
    obtain rfl : qp = q := Option.some.inj (f_qp.symm.trans hq)
    obtain rfl : m_by = a := Option.some.inj (f_m_by.symm.trans ha)
    rw [n_by, f_x_claimCount]
    exact hw_DF_e hDP rfl rfl
  case o50 =>
    obtain rfl : qh = q := Option.some.inj (f_qh.symm.trans hq)
    obtain rfl : qc = c := Option.some.inj (f_qc.symm.trans hc)
    obtain rfl : m_ho = a := Option.some.inj (f_m_ho.symm.trans ha)
    rw [n_ho, f_x_heardCount, f_x_claimCount]
    exact hv_HL_e hHL rfl rfl rfl
  case o51 =>
    obtain rfl : m_ho = a := Option.some.inj (f_m_ho.symm.trans ha)
    obtain rfl : mh = b := Option.some.inj (f_mh.symm.trans hb)
    rw [n_ho, n_mh, f_m_heardMany, f_m_claims]
    exact hHO9
  case o52 =>
    obtain rfl : qc = c := Option.some.inj (f_qc.symm.trans hc)
    obtain rfl : m_fc = a := Option.some.inj (f_m_fc.symm.trans ha)
    obtain rfl : m_nt = b := Option.some.inj (f_m_nt.symm.trans hb)
    obtain rfl : m_wt = d := Option.some.inj (f_m_wt.symm.trans hd)
    obtain rfl : m_sum = e := Option.some.inj (f_m_sum.symm.trans he)
    obtain rfl : mh = f := Option.some.inj (f_mh.symm.trans hf)
    exact ⟨cF9L, by rw [f_x_claimCount]; exact hFX, by rw [n_fc, n_nt, n_wt, n_sum, n_mh, f_x_claimCount]; exact hFR9⟩
  case o53 =>
    obtain rfl : qc = c := Option.some.inj (f_qc.symm.trans hc)
    obtain rfl : m_be = a := Option.some.inj (f_m_be.symm.trans ha)
    rw [n_be, f_x_claimCount]
    exact hv_FX_e hBX rfl rfl
  case o54 =>
    obtain rfl : qo_py = p := Option.some.inj (f_qo_py.symm.trans hp)
    obtain rfl : y_p0 = q := Option.some.inj (f_y_p0.symm.trans hq)
    obtain rfl : m_p0 = r := Option.some.inj (f_m_p0.symm.trans hr)
    exact n_y_p0.trans n_p0.symm
  case o55 =>
    obtain rfl : qo_py = p := Option.some.inj (f_qo_py.symm.trans hp)
    obtain rfl : y_p1 = q := Option.some.inj (f_y_p1.symm.trans hq)
    obtain rfl : m_p1 = r := Option.some.inj (f_m_p1.symm.trans hr)
    exact n_y_p1.trans n_p1.symm
  case o56 =>
    obtain rfl : qo_py = p := Option.some.inj (f_qo_py.symm.trans hp)
    obtain rfl : y_p2 = q := Option.some.inj (f_y_p2.symm.trans hq)
    obtain rfl : m_p2 = r := Option.some.inj (f_m_p2.symm.trans hr)
    exact n_y_p2.trans n_p2.symm
  case o57 =>
    obtain rfl : qo_py = p := Option.some.inj (f_qo_py.symm.trans hp)
    obtain rfl : y_p3 = q := Option.some.inj (f_y_p3.symm.trans hq)
    obtain rfl : m_p3 = r := Option.some.inj (f_m_p3.symm.trans hr)
    exact n_y_p3.trans n_p3.symm
  case o58 =>
    obtain rfl : qo_py = p := Option.some.inj (f_qo_py.symm.trans hp)
    obtain rfl : y_p4 = q := Option.some.inj (f_y_p4.symm.trans hq)
    obtain rfl : m_p4 = r := Option.some.inj (f_m_p4.symm.trans hr)
    exact n_y_p4.trans n_p4.symm
  case o59 =>
    obtain rfl : qrg9 = p := Option.some.inj (f_qrg9.symm.trans hp)
    rw [ffv_933, ffv_934, ffv_935]
    exact hNQ9
  case o60 =>
    obtain rfl : qrg9 = p := Option.some.inj (f_qrg9.symm.trans hp)
    obtain rfl : y_ls = q := Option.some.inj (f_y_ls.symm.trans hq)
    obtain rfl : m_rl = r := Option.some.inj (f_m_rl.symm.trans hr)
    rw [n_y_ls, n_m_rl, ffv_933]
    exact hRL9
  case o61 =>
    obtain rfl : qo_pmn = p := Option.some.inj (f_qo_pmn.symm.trans hp)
    obtain rfl : y_pc = a := Option.some.inj (f_y_pc.symm.trans ha)
    obtain rfl : y_pw = b := Option.some.inj (f_y_pw.symm.trans hb)
    obtain rfl : y_pk = c := Option.some.inj (f_y_pk.symm.trans hc)
    obtain rfl : m_pc = d := Option.some.inj (f_m_pc.symm.trans hd)
    obtain rfl : m_pw = e := Option.some.inj (f_m_pw.symm.trans he)
    obtain rfl : m_pk = f := Option.some.inj (f_m_pk.symm.trans hf)
    rw [n_y_pc, n_y_pw, n_y_pk, n_m_pc, n_m_pw, n_m_pk, f_o_pmn]
    exact hEA9
  case o62 =>
    rw [cl_dead, n_dead]
    exact eq_dead
  case o63 =>
    rw [cl_isj, n_isj]
    exact eq_isj
  case o64 =>
    rw [cl_dox, n_dox]
    exact eq_dox
  case o65 =>
    rw [cl_doy, n_doy]
    exact eq_doy
  case o66 =>
    rw [cl_fou, n_m_fou]
    exact eq_fou
  case o67 =>
    rw [cl_tri, n_mt]
    exact eq_tri
  case o68 =>
    obtain rfl : qw = w := Option.some.inj (f_qw.symm.trans hw)
    obtain rfl : ql = q := Option.some.inj (f_ql.symm.trans hq)
    exact pf_ql
  case o69 =>
    rw [n_mw]
    exact hwd
  case o70 =>
    rw [n_mr, f_m_acts]
    exact hWK
  case o71 =>
    rw [n_mp, n_mn, f_m_acts]
    exact hRP
  case o72 =>
    rw [n_ml, f_m_claims, f_m_acts]
    exact hPL
  case o73 =>
    rw [n_mh, f_m_heardMany, f_m_claims]
    exact hHC
  case o74 =>
    rw [n_mt]
    refine (hx_TR_le hTR ?o75)
    case o75 => omega
  case o76 =>
    rw [n_mh, n_m_fou, f_m_claims]
    exact hHF
